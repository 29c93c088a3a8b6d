theorem i32_r (v : Int32) : InR v.toInt := by
  have h1 := Int32.le_toInt v
  have h2 := Int32.toInt_lt v
  omega
theorem i32_self (v : Int32) : i32 v.toInt = v := Int32.ofInt_toInt v
theorem and31 (v : Int32) : 0 ≤ (v &&& 31).toInt ∧ (v &&& 31).toInt ≤ 31 := by
  have h : (v &&& 31).toBitVec = v.toBitVec &&& 31#32 := rfl
  have h2 : (v &&& 31).toBitVec.toNat ≤ 31 := by
    rw [h, BitVec.toNat_and]
    exact Nat.and_le_right
  have h3 : (v &&& 31).toInt = ((v &&& 31).toBitVec.toNat : Int) := by
    show (v &&& 31).toBitVec.toInt = _
    rw [BitVec.toInt_eq_toNat_of_lt (by omega)]
  omega
theorem gw_goodG {M' : Mi} (h : Cond.code M'.1 M'.2.1 M'.2.2.1 M'.2.2.2 ∈ GW) : GoodIn GW (wds M') := by
  intro w hw
  have hw2 : w ∈ GW := (List.mem_cons.mp hw).elim (fun e => e ▸ h) id
  exact ⟨hw2, good_of_word (List.mem_filter.mp hw2).2⟩
/-- what holds around the law's walk -/
def lwC (E : Ev) (ad0 : Nat → Nat) (p : Program) (s : State) (m : MethodId) (meth : Method) (c : Code) (b N : Nat) (xs : Nat → Int32) : Prop := lw_At p s m meth c b N xs ∧ E.2.2.2.2 7 = b ∧ va_K E.2.1 vwCl (ty4 E.2.2.1) s ∧ NS s ∧ SX E (AA ad0 0 s.heap.size) s s.heap
def VE (E : Ev) (ad0 : Nat → Nat) (p : Program) (e : Env) (s : State) (m : MethodId) (below : List Frame) (meth : Method) (c : Code) (b k n : Nat) (L : List Ly) (σ α : St) (pc : Nat) (lv : List (Option AV)) (st : List AV) : Prop :=
  ∀ (ad : Nat → Nat) (H : Heap) (locs : List Loc) (ls : Array Slot), va_P E.2.1 vwCl (mW L E.2.2.1 ad σ α) H → va_D (AA ad0 0 s.heap.size) (mW L E.2.2.1 ad σ α) → va_S (AA ad0 0 s.heap.size) s.heap H locs → LV E ad 4 lv ls →
    W p E.1 e room_1 s m #[Value.ref b] below meth c H locs k n (lw_Z below #[Value.ref b] s) (F0 m pc ls (st.map (cv E ad)))
section LAWROWS
variable {E : Ev} {ad0 : Nat → Nat} {p : Program} {e : Env} {s : State} {m : MethodId} {below : List Frame} {meth : Method} {c : Code} {b N k n : Nat} {xs : Nat → Int32} {L : List Ly} {σ α : St} {pc nx : Nat} {lv : List (Option AV)} {st : List AV}
theorem lwC.hbA (C : lwC E ad0 p s m meth c b N xs) : ¬ AA ad0 0 s.heap.size b := by
  have := C.1.2.2.2.2.2.2.2.1
  intro h
  rcases h with ⟨j, hj, -⟩ | h <;> omega
theorem e_iconst (C : lwC E ad0 p s m meth c b N xs) {z : Int} (hd : At code pc (.iconst z) 1 nx) (kk : VE E ad0 p e s m below meth c b k n L σ α nx lv (vI z :: st)) : VE E ad0 p e s m below meth c b k n L σ α pc lv st := by
  obtain ⟨hd, rfl⟩ := hd
  intro ad H locs ls hP hD hS hl
  exact lv_iconst C.1.1 C.1.2.1 hd rfl (kk ad H locs ls hP hD hS hl)
theorem e_bipush (C : lwC E ad0 p s m meth c b N xs) {z : Int} (hd : At code pc (.bipush z) 2 nx) (hz : (Int8.ofInt z).toInt32 = i32 z) (kk : VE E ad0 p e s m below meth c b k n L σ α nx lv (vI z :: st)) : VE E ad0 p e s m below meth c b k n L σ α pc lv st := by
  obtain ⟨hd, rfl⟩ := hd
  intro ad H locs ls hP hD hS hl
  exact lv_bipush C.1.1 C.1.2.1 hd hz (kk ad H locs ls hP hD hS hl)
theorem e_iload (C : lwC E ad0 p s m meth c b N xs) {i : Fin 4} {z : Int} (hd : At code pc (.iload_n i) 1 nx) (hi : lv[(i : Nat)]? = some (some (vI z))) (kk : VE E ad0 p e s m below meth c b k n L σ α nx lv (vI z :: st)) : VE E ad0 p e s m below meth c b k n L σ α pc lv st := by
  obtain ⟨hd, rfl⟩ := hd
  intro ad H locs ls hP hD hS hl
  exact lv_iload_n C.1.1 C.1.2.1 hd rfl (hl.2.2 _ _ hi) (kk ad H locs ls hP hD hS hl)
theorem e_aload (C : lwC E ad0 p s m meth c b N xs) {i : Fin 4} {q : Nat} (hd : At code pc (.aload_n i) 1 nx) (hi : lv[(i : Nat)]? = some (some (vR q))) (kk : VE E ad0 p e s m below meth c b k n L σ α nx lv (vR q :: st)) : VE E ad0 p e s m below meth c b k n L σ α pc lv st := by
  obtain ⟨hd, rfl⟩ := hd
  intro ad H locs ls hP hD hS hl
  exact lv_aload_n C.1.1 C.1.2.1 hd rfl (hl.2.2 _ _ hi) (kk ad H locs ls hP hD hS hl)
theorem e_aloadX (C : lwC E ad0 p s m meth c b N xs) {i : Fin 4} (hd : At code pc (.aload_n i) 1 nx) (hi : lv[(i : Nat)]? = some (some (vX 14))) (kk : VE E ad0 p e s m below meth c b k n L σ α nx lv (vX 14 :: st)) : VE E ad0 p e s m below meth c b k n L σ α pc lv st := by
  obtain ⟨hd, rfl⟩ := hd
  intro ad H locs ls hP hD hS hl
  have hv := hl.2.2 _ _ hi
  have kk' := kk ad H locs ls hP hD hS hl
  rw [cv_b E ad 7] at hv
  rw [List.map_cons, cv_b E ad 7] at kk'
  exact lv_aload_n C.1.1 C.1.2.1 hd rfl hv kk'
theorem e_iadd (C : lwC E ad0 p s m meth c b N xs) {x y : Int} (hd : At code pc .iadd 1 nx) (kk : VE E ad0 p e s m below meth c b k n L σ α nx lv (vI (x + y) :: st)) : VE E ad0 p e s m below meth c b k n L σ α pc lv (vI y :: vI x :: st) := by
  obtain ⟨hd, rfl⟩ := hd
  intro ad H locs ls hP hD hS hl
  refine lv_iadd (x := i32 x) (y := i32 y) C.1.1 C.1.2.1 hd ?_
  rw [i32_add]
  exact kk ad H locs ls hP hD hS hl
theorem e_isub (C : lwC E ad0 p s m meth c b N xs) {x y : Int} (hd : At code pc .isub 1 nx) (kk : VE E ad0 p e s m below meth c b k n L σ α nx lv (vI (x - y) :: st)) : VE E ad0 p e s m below meth c b k n L σ α pc lv (vI y :: vI x :: st) := by
  obtain ⟨hd, rfl⟩ := hd
  intro ad H locs ls hP hD hS hl
  refine lv_isub (x := i32 x) (y := i32 y) C.1.1 C.1.2.1 hd ?_
  rw [i32_sub]
  exact kk ad H locs ls hP hD hS hl
theorem e_dup (C : lwC E ad0 p s m meth c b N xs) {v : AV} (hd : At code pc .dup 1 nx) (hv : ∀ z, v ≠ vL z) (kk : VE E ad0 p e s m below meth c b k n L σ α nx lv (v :: v :: st)) : VE E ad0 p e s m below meth c b k n L σ α pc lv (v :: st) := by
  obtain ⟨hd, rfl⟩ := hd
  intro ad H locs ls hP hD hS hl
  exact lv_dup C.1.1 C.1.2.1 hd (cv_cat E ad v hv) (kk ad H locs ls hP hD hS hl)
theorem e_goto (C : lwC E ad0 p s m meth c b N xs) {off : Int} {tgt : Nat} (hd : At code pc (.goto off) 3 nx) (ht : (pc : Int) + off = (tgt : Int)) (kk : VE E ad0 p e s m below meth c b k n L σ α tgt lv st) : VE E ad0 p e s m below meth c b k n L σ α pc lv st := by
  obtain ⟨hd, rfl⟩ := hd
  intro ad H locs ls hP hD hS hl
  exact lv_goto C.1.1 C.1.2.1 hd ht (kk ad H locs ls hP hD hS hl)
theorem e_istore (C : lwC E ad0 p s m meth c b N xs) {i : Fin 4} {z : Int} {lv' : List (Option AV)} (hd : At code pc (.istore_n i) 1 nx) (hn : noL lv ∧ lv.length = 4) (hl' : lv.set i (some (vI z)) = lv') (kk : VE E ad0 p e s m below meth c b k n L σ α nx lv' st) : VE E ad0 p e s m below meth c b k n L σ α pc lv (vI z :: st) := by
  obtain ⟨hd, rfl⟩ := hd
  subst hl'
  intro ad H locs ls hP hD hS hl
  exact lv_istore_n C.1.1 C.1.2.1 hd rfl hl.has i.isLt rfl fun ls' h' => kk ad H locs ls' hP hD hS (LV.store (v := vI z) hl hn.1 (Nat.le_of_eq hn.2) ls' _ lvl_in h')
theorem e_astore (C : lwC E ad0 p s m meth c b N xs) {i : Fin 4} {q : Nat} {lv' : List (Option AV)} (hd : At code pc (.astore_n i) 1 nx) (hn : noL lv ∧ lv.length = 4) (hl' : lv.set i (some (vR q)) = lv') (kk : VE E ad0 p e s m below meth c b k n L σ α nx lv' st) : VE E ad0 p e s m below meth c b k n L σ α pc lv (vR q :: st) := by
  obtain ⟨hd, rfl⟩ := hd
  subst hl'
  intro ad H locs ls hP hD hS hl
  exact lv_astore_n C.1.1 C.1.2.1 hd rfl hl.has i.isLt rfl fun ls' h' => kk ad H locs ls' hP hD hS (LV.store (v := vR q) hl hn.1 (Nat.le_of_eq hn.2) ls' _ lvl_in h')
theorem e_iinc (C : lwC E ad0 p s m meth c b N xs) {i : Nat} {x z : Int} {lv' : List (Option AV)} (hd : At code pc (.iinc i z) 3 nx) (hn : noL lv ∧ lv.length = 4 ∧ i < 4) (hi : lv[i]? = some (some (vI x))) (hl' : lv.set i (some (vI (x + z))) = lv') (kk : VE E ad0 p e s m below meth c b k n L σ α nx lv' st) : VE E ad0 p e s m below meth c b k n L σ α pc lv st := by
  obtain ⟨hd, rfl⟩ := hd
  subst hl'
  intro ad H locs ls hP hD hS hl
  obtain ⟨j, hj⟩ := List.getElem?_of_mem (lvl_in (E := E) (ad := ad) _ _ hi)
  exact lv_iinc (v := i32 (x + z)) C.1.1 C.1.2.1 hd hl.has hj (i32_add x z) hn.2.2 rfl fun ls' h' => kk ad H locs ls' hP hD hS (LV.store (v := vI (x + z)) hl hn.1 (Nat.le_of_eq hn.2.1) ls' _ lvl_in h')
theorem e_alen (C : lwC E ad0 p s m meth c b N xs) (hd : At code pc .arraylength 1 nx) (kk : VE E ad0 p e s m below meth c b k n L σ α nx lv (vI (N : Int) :: st)) : VE E ad0 p e s m below meth c b k n L σ α pc lv (vX 14 :: st) := by
  obtain ⟨hd, rfl⟩ := hd
  intro ad H locs ls hP hD hS hl
  have kk' := kk ad H locs ls hP hD hS hl
  rw [List.map_cons] at kk'
  rw [List.map_cons, cv_b E ad 7, C.2.1]
  refine va_slen C.1.1 C.1.2.1 C.1.2.2.2.2.2.2.1 C.1.2.2.2.2.2.2.2.1 C.hbA hS hd ?_
  rw [show Int32.ofNat N = i32 (N : Int) from (i32_nat N).symm]
  exact kk'
theorem e_sld (C : lwC E ad0 p s m meth c b N xs) {z : Int} {j : Nat} (hd : At code pc .iaload 1 nx) (hz : z = (j : Int) ∧ j < N ∧ N ≤ 2048) (kk : VE E ad0 p e s m below meth c b k n L σ α nx lv (vI (xs j).toInt :: st)) : VE E ad0 p e s m below meth c b k n L σ α pc lv (vI z :: vX 14 :: st) := by
  obtain ⟨hd, rfl⟩ := hd
  obtain ⟨rfl, hj, hN⟩ := hz
  intro ad H locs ls hP hD hS hl
  have kk' := kk ad H locs ls hP hD hS hl
  rw [List.map_cons, List.map_cons, cv_b E ad 7, C.2.1]
  refine va_sld (i := i32 (j : Int)) C.1.1 C.1.2.1 C.1.2.2.2.2.2.2.1 C.1.2.2.2.2.2.2.2.1 C.hbA hS (i32_in (by omega) (by omega) (by omega)) hd ?_
  rw [i32_cl (by omega) (by omega), Int.toNat_natCast]
  have e1 : ((vI (xs j).toInt :: st).map (cv E ad)) = .int (xs j) :: st.map (cv E ad) := by
    rw [List.map_cons]
    show Value.int (i32 (xs j).toInt) :: _ = _
    rw [i32_self]
  rw [e1] at kk'
  exact kk'
theorem e_and31 (C : lwC E ad0 p s m meth c b N xs) {x : Int} (hd : At code pc .iand 1 nx) (kk : ∀ z : Int, 0 ≤ z ∧ z ≤ 31 → VE E ad0 p e s m below meth c b k n L σ α nx lv (vI z :: st)) : VE E ad0 p e s m below meth c b k n L σ α pc lv (vI 31 :: vI x :: st) := by
  obtain ⟨hd, rfl⟩ := hd
  intro ad H locs ls hP hD hS hl
  have h31 := and31 (i32 x)
  have kk' := kk (i32 x &&& 31).toInt h31 ad H locs ls hP hD hS hl
  have e1 : ((vI (i32 x &&& 31).toInt :: st).map (cv E ad)) = .int (i32 x &&& 31) :: st.map (cv E ad) := by
    rw [List.map_cons]
    show Value.int (i32 (i32 x &&& 31).toInt) :: _ = _
    rw [i32_self]
  rw [e1] at kk'
  exact lv_iand (x := i32 x) (y := i32 31) C.1.1 C.1.2.1 hd kk'
theorem e_tabIn (C : lwC E ad0 p s m meth c b N xs) {x dflt lo hi off : Int} {offs : Array Int} {len tgt : Nat} (hd : At code pc (.tableswitch dflt lo hi offs) len nx) (hx : InR x) (h : lo ≤ x ∧ x ≤ hi) (ho : offs[(x - lo).toNat]? = some off) (ht : (pc : Int) + off = (tgt : Int)) (kk : VE E ad0 p e s m below meth c b k n L σ α tgt lv st) : VE E ad0 p e s m below meth c b k n L σ α pc lv (vI x :: st) := by
  obtain ⟨hd, rfl⟩ := hd
  intro ad H locs ls hP hD hS hl
  exact lv_tableIn (x := i32 x) C.1.1 C.1.2.1 hd (by rw [i32_t hx]; omega) (by rw [i32_t hx]; omega) (by rw [i32_t hx]; exact ho) ht (kk ad H locs ls hP hD hS hl)
theorem e_tabOut (C : lwC E ad0 p s m meth c b N xs) {x dflt lo hi : Int} {offs : Array Int} {len tgt : Nat} (hd : At code pc (.tableswitch dflt lo hi offs) len nx) (hx : InR x) (h : x < lo ∨ hi < x) (ht : (pc : Int) + dflt = (tgt : Int)) (kk : VE E ad0 p e s m below meth c b k n L σ α tgt lv st) : VE E ad0 p e s m below meth c b k n L σ α pc lv (vI x :: st) := by
  obtain ⟨hd, rfl⟩ := hd
  intro ad H locs ls hP hD hS hl
  exact lv_tableOut (x := i32 x) C.1.1 C.1.2.1 hd (by rw [i32_t hx]; exact h) ht (kk ad H locs ls hP hD hS hl)
theorem e_icmp_gt (C : lwC E ad0 p s m meth c b N xs) {x y off : Int} {tgt : Nat} (hd : At code pc (.if_icmp .gt off) 3 nx) (ht : (pc : Int) + off = (tgt : Int)) (h : InR x ∧ InR y) (kt : y < x → VE E ad0 p e s m below meth c b k n L σ α tgt lv st) (kf : ¬ y < x → VE E ad0 p e s m below meth c b k n L σ α nx lv st) : VE E ad0 p e s m below meth c b k n L σ α pc lv (vI y :: vI x :: st) := by
  obtain ⟨hd, rfl⟩ := hd
  intro ad H locs ls hP hD hS hl
  exact lv_icmp_gt (x := i32 x) (y := i32 y) C.1.1 C.1.2.1 hd ht (fun q => kt ((i32_lt ⟨h.2, h.1⟩).mp q) ad H locs ls hP hD hS hl) (fun q => kf (fun r => q ((i32_lt ⟨h.2, h.1⟩).mpr r)) ad H locs ls hP hD hS hl)
theorem e_same (C : lwC E ad0 p s m meth c b N xs) {x off : Int} {tgt : Nat} (hd : At code pc (.if_icmp .eq off) 3 nx) (ht : (pc : Int) + off = (tgt : Int)) (kt : VE E ad0 p e s m below meth c b k n L σ α tgt lv st) : VE E ad0 p e s m below meth c b k n L σ α pc lv (vI x :: vI x :: st) := by
  obtain ⟨hd, rfl⟩ := hd
  intro ad H locs ls hP hD hS hl
  exact lv_icmp_eq (x := i32 x) (y := i32 x) C.1.1 C.1.2.1 hd ht (fun _ => kt ad H locs ls hP hD hS hl) (fun q => absurd rfl q)
theorem lwC.pre {ad : Nat → Nat} {H : Heap} {locs : List Loc} (C : lwC E ad0 p s m meth c b N xs) (hP : va_P E.2.1 vwCl (mW L E.2.2.1 ad σ α) H) (hD : va_D (AA ad0 0 s.heap.size) (mW L E.2.2.1 ad σ α)) (hS : va_S (AA ad0 0 s.heap.size) s.heap H locs) {U : State} (hU : U.heap = H) (hW : s.WarmedH U.vm) : PreW E L ad σ α H.size U := by
  refine ⟨by rw [hU], by rw [hU]; exact hP, va_K.moved hW.alike C.2.2.1, hD.weaken (fun _ _ _ _ => trivial), C.2.2.2.1.warm hW, ?_⟩
  rw [hU]
  exact C.2.2.2.2.go hW hS.2.1 (AA_sub hD hS)
theorem e_back {ad : Nat → Nat} {H : Heap} {locs : List Loc} {ls : Array Slot} {mc ms : Nat} {st0 : List Value} {rest : List AV} {post : Pst} {a : Array Value}
    (hD : va_D (AA ad0 0 s.heap.size) (mW L E.2.2.1 ad σ α)) (hS : va_S (AA ad0 0 s.heap.size) s.heap H locs)
    (hr : va_Run p E.1 e room_1 s m #[Value.ref b] below meth c H locs k n mc ms (F0 m pc ls st0) (rest.map (cv E ad)) (PostW E ad L.length H.size post a) (AA ad L.length H.size))
    (hl : LV E ad 4 lv ls) (ho : okL L.length lv ∧ okS L.length rest)
    (kk : ∀ (r : Option AV) (L' : List Ly) (σ' α' : St), post r L' σ' α' → VE E ad0 p e s m below meth c b (k + mc) (n + ms) L' σ' α' (pc + 3) lv (r.toList ++ rest)) :
    W p E.1 e room_1 s m #[Value.ref b] below meth c H locs k n (lw_Z below #[Value.ref b] s) (F0 m pc ls st0) := by
  intro T hT Y
  obtain ⟨v, st₀, t, T', L1, h0, Y', hL1, e1, e2, ⟨⟨r, L', ad', σ', α', hv, hp, hn, had, hP', hD'⟩, hz, hk⟩, go⟩ := hr T hT Y
  cases hv
  rw [h0] at hz hk
  have hsub := AA_sub hD hS
  have had1 : ∀ j, j < L.length → ad' j = ad j := fun j hj => had j (Or.inl hj)
  have hrest : rest.map (cv E ad') = rest.map (cv E ad) := okS_cv had1 ho.2
  have hS' : va_S (AA ad0 0 s.heap.size) s.heap T'.heap (locs ++ L1) := by
    refine ⟨Nat.le_trans hS.1 (by rw [e1]; exact hz), fun q g1 g2 => ?_, fun q hq => ?_⟩
    · rw [e1, hk q (Nat.lt_of_lt_of_le g1 hS.1) (fun z => g2 (hsub q z))]
      exact hS.2.1 q g1 g2
    · rcases List.mem_append.mp hq with h | h
      · exact hS.2.2 q h
      · exact hsub _ (hL1 q h)
  obtain ⟨t2, a1, b1⟩ := kk r L' σ' α' hp ad' T'.heap (locs ++ L1) ls (by rw [e1]; exact hP') (hD'.weaken (fun _ _ _ h => hsub _ h)) hS' (hl.ad ho.1 had1) T' rfl Y'
  refine ⟨t2, go t2 ?_, b1⟩
  have hst : (r.map (cv E ad')).toList ++ rest.map (cv E ad) = (r.toList ++ rest).map (cv E ad') := by
    rw [← hrest]
    cases r <;> simp
  show Steps _ _ _ (T'.setTop { method := m, pc := pc + 3, locals := ls, stack := (r.map (cv E ad')).toList ++ rest.map (cv E ad), locked := none }) t2
  rw [hst]
  exact a1
theorem room_law {dc maxL mc ms : Nat} (h : dc ≤ 11) (hm : maxL ≤ 21) : (rmd dc mc ms).frames + 1 ≤ room_1.frames ∧ 8 + (maxL + 11) + (rmd dc mc ms).locals ≤ room_1.locals := by
  refine ⟨?_, ?_⟩
  · show dc + 1 ≤ 14; omega
  · show 8 + (maxL + 11) + 40 * dc ≤ 550; omega
theorem e_callV (C : lwC E ad0 p s m meth c b N xs) {Mc : Mi} {dc na idx q ci Nf : Nat} {T : u_T} {cs : List Nat} {As rest st0 : List AV} {post : Pq} (hd : At code pc (.invokevirtual idx) 3 nx) (hlk : ML RL idx Mc.1) (hm : MI Mc na ∧ MV Mc) (hS : CG dc Mc (vR q :: As) σ α post) (hdd : dc ≤ 11) (hn : As.length = na) (hL : LA[q]? = some (yO ci cs)) (hci : vwCl[ci]? = some (Mc.1.cls, T, Nf)) (hst : st0 = As.reverse ++ vR q :: rest) (hr : (rest.map catA).sum ≤ 8) (hk : k ≤ 600000 ∧ n ≤ 7302250) (ho : okL 108 lv ∧ okS 108 rest)
    (kk : ∀ (r : Option AV) (σ' α' : St), post r σ' α' → VE E ad0 p e s m below meth c b k n LA σ' α' nx lv (r.toList ++ rest)) : VE E ad0 p e s m below meth c b k n LA σ α pc lv st0 := by
  obtain ⟨hd, rfl⟩ := hd
  obtain ⟨⟨hmc, hmi, hmd, hmL⟩, hv1, hv2⟩ := hm
  subst hst
  intro ad H locs ls hP hD hSS hl
  have ht := gw_in C.1
  have hfix : CallFix p m c code 4 s #[Value.ref b] GW RL := ⟨C.1.1, C.1.2.1, C.1.2.2.2.1, C.1.2.2.2.2.1, ht⟩
  have hpre : PreV s H Mc.1.cls (ad q) (va_Pc ((vR q :: As).map (cv E ad)) (PreW E LA ad σ α H.size)) (As.map (cv E ad)) :=
    ⟨PreW.blind, va_recv C.2.2.1 hP hci (mW_get E.2.2.1 ad σ α hL), fun U hU hW => ⟨rfl, C.pre hP hD hSS hU hW⟩⟩
  have hstk : (As.reverse ++ vR q :: rest).map (cv E ad) = (As.map (cv E ad)).reverse ++ .ref (ad q) :: rest.map (cv E ad) := by simp [cv]
  have hroom : 2 * (F0 m pc ls ((As.reverse ++ vR q :: rest).map (cv E ad))).monitorRoom + ((rest.map (cv E ad)).map fun v => v.category).sum ≤ 8 := lv_room (by rw [catA_sum]; exact hr)
  have kk2 : ∀ (r : Option AV) (L' : List Ly) (σ' α' : St), (L' = LA ∧ post r σ' α') → VE E ad0 p e s m below meth c b (k + 0) (n + 0) L' σ' α' (pc + 3) lv (r.toList ++ rest) := by
    rintro r L' σ' α' ⟨rfl, h⟩
    exact kk r σ' α' h
  rcases hlk with hlk | ⟨host, hlk⟩
  · exact e_back hD hSS (va_runV (As := As.map (cv E ad)) (n := na) hfix (hS E ad H.size) ⟨callB_of na ht (gw_goodG hmc) rfl rfl rfl (ht _ hmi) (ht _ hlk) hmd (room_law hdd hmL), ht _ hv1, ht _ hv2⟩ hpre rfl (by simpa using hn) hl.1 hstk hroom hd hk) hl ho kk2
  · exact e_back hD hSS (va_runVN (As := As.map (cv E ad)) (n := na) hfix (hS E ad H.size) ⟨va_cnB na ht (gw_goodG hmc) rfl rfl rfl (C.2.2.2.1 _ hlk) (ht _ hmi) hmd (room_law hdd hmL), ht _ hv1, ht _ hv2⟩ hpre rfl (by simpa using hn) hl.1 hstk hroom hd hk) hl ho kk2
theorem e_callI (C : lwC E ad0 p s m meth c b N xs) {y : MethodName} {cb : ByteArray} {ml dc na idx q mc ms : Nat} {As rest st0 : List AV} {post : Pst} (hd : At code pc (.invokespecial idx) 3 nx) (hlk : ML RL idx y) (hm : MI (y, cb, ml, none) na ∧ Cond.instanceMethod y ∈ GW) (hy : y.name = "<init>") (hS : SS dc (y, cb, ml, none) mc ms (vR q :: As) L σ α post) (hdd : dc ≤ 11) (hn : As.length = na) (hst : st0 = As.reverse ++ vR q :: rest) (hr : (rest.map catA).sum ≤ 8) (hk : k + mc ≤ 600000 ∧ n + ms ≤ 7302250) (ho : okL L.length lv ∧ okS L.length rest)
    (kk : ∀ (r : Option AV) (L' : List Ly) (σ' α' : St), post r L' σ' α' → VE E ad0 p e s m below meth c b (k + mc) (n + ms) L' σ' α' nx lv (r.toList ++ rest)) : VE E ad0 p e s m below meth c b k n L σ α pc lv st0 := by
  obtain ⟨hd, rfl⟩ := hd
  obtain ⟨⟨hmc, hmi, hmd, hmL⟩, hv1⟩ := hm
  subst hst
  intro ad H locs ls hP hD hSS hl
  have ht := gw_in C.1
  have hfix : CallFix p m c code 4 s #[Value.ref b] GW RL := ⟨C.1.1, C.1.2.1, C.1.2.2.2.1, C.1.2.2.2.2.1, ht⟩
  have hpre : PreS s H (va_Pc ((vR q :: As).map (cv E ad)) (PreW E L ad σ α H.size)) (.ref (ad q) :: As.map (cv E ad)) :=
    ⟨PreW.blind, fun U hU hW => ⟨rfl, C.pre hP hD hSS hU hW⟩⟩
  have hstk : (As.reverse ++ vR q :: rest).map (cv E ad) = (As.map (cv E ad)).reverse ++ .ref (ad q) :: rest.map (cv E ad) := by simp [cv]
  have hroom : 2 * (F0 m pc ls ((As.reverse ++ vR q :: rest).map (cv E ad))).monitorRoom + ((rest.map (cv E ad)).map fun v => v.category).sum ≤ 8 := lv_room (by rw [catA_sum]; exact hr)
  rcases hlk with hlk | ⟨host, hlk⟩
  · exact e_back hD hSS (va_runI (As := As.map (cv E ad)) (n := na) hfix (hS E ad H.size) ⟨callB_of na ht (gw_goodG (M' := (y, cb, ml, none)) hmc) rfl rfl rfl (ht _ hmi) (ht _ hlk) hmd (room_law hdd hmL), hy, ht _ hv1⟩ hpre rfl (by simpa using hn) hl.1 hstk hroom hd hk) hl ho kk
  · exact e_back hD hSS (va_runIN (As := As.map (cv E ad)) (n := na) hfix (hS E ad H.size) ⟨va_cnB na ht (gw_goodG (M' := (y, cb, ml, none)) hmc) rfl rfl rfl (C.2.2.2.1 _ hlk) (ht _ hmi) hmd (room_law hdd hmL), hy, ht _ hv1⟩ hpre rfl (by simpa using hn) hl.1 hstk hroom hd hk) hl ho kk
theorem e_new (C : lwC E ad0 p s m meth c b N xs) {idx ci NF : Nat} {C0 : String} {T : u_T} {cs : List Nat} (ty : Nat → FieldType) (hd : At code pc (.new idx) 3 nx) (hc : vwCl[ci]? = some (C0, T, NF)) (hin : ∀ w ∈ u_ws C0 T NF, w ∈ GW) (hty : ∀ k, k < NF → parseFieldDescriptor (T k).2.2.1 = some (ty k)) (hcl : Cond.classLink RL idx C0 ∈ GW) (hinst : Cond.instantiable C0 NF ∈ GW) (hini : Cond.initialized C0 ∈ GW)
    (hcs : cs.length = NF ∧ (∀ c ∈ cs, c < 2) ∧ ∀ j, j < NF → defaultValue (ty j) = if cs.getD j 1 = 0 then .int 0 else .null) (hw : wfL L) (hz : ∀ j, σ L.length j = 0) (hroom : k + 1 ≤ 600000 ∧ n + NF ≤ 7302250) (ho : okL L.length lv ∧ okS L.length st)
    (kk : wfL (L ++ [yO ci cs]) → VE E ad0 p e s m below meth c b (k + 1) (n + NF) (L ++ [yO ci cs]) σ α nx lv (vR L.length :: st)) : VE E ad0 p e s m below meth c b k n L σ α pc lv st := by
  obtain ⟨hd, rfl⟩ := hd
  intro ad H locs ls hP hD hS hl
  have ht := gw_in C.1
  have hfv : ∀ (ad' : Nat → Nat) (j : Nat), fv ad' σ L.length j (cs.getD j 1) = if cs.getD j 1 = 0 then .int 0 else .null := by
    intro ad' j
    have hlt : cs.getD j 1 < 2 := by
      rw [List.getD_eq_getElem?_getD]
      cases hj : cs[j]? with
      | none => show 1 < 2; omega
      | some c => exact hcs.2.1 c (List.mem_of_getElem? hj)
    rcases (show cs.getD j 1 = 0 ∨ cs.getD j 1 = 1 by omega) with h | h
    · rw [h, if_pos rfl]; show Value.int (i32 (σ L.length j)) = _; rw [hz j]; rfl
    · rw [h, if_neg (by decide)]; rfl
  refine va_new (fs := (List.range cs.length).map (fun k => fv ad σ L.length k (cs.getD k 1))) C.1.1 C.1.2.1 ht hin ty hty C.1.2.2.2.2.1 (ht _ hcl) (ht _ hinst) (ht _ hini) C.2.2.1 hP hD hS (fun q hq => Or.inr hq) hc (fun j hj => ?_) hroom.1 hroom.2 hd (fun q H1 hP1 hD1 hS1 => ?_)
  · have hat : ((List.range cs.length).map (fun k => fv ad σ L.length k (cs.getD k 1)))[j]? = some (fv ad σ L.length j (cs.getD j 1)) := by
      rw [List.getElem?_map, List.getElem?_range (by omega)]; rfl
    rw [hcs.2.2 j hj, ← hfv ad j]
    exact (Option.some.inj (by
      show some (List.getD _ j Value.null) = some _
      rw [show List.getD ((List.range cs.length).map (fun k => fv ad σ L.length k (cs.getD k 1))) j Value.null = (((List.range cs.length).map (fun k => fv ad σ L.length k (cs.getD k 1)))[j]?).getD Value.null from List.getD_eq_getElem?_getD, hat]
      rfl)).symm
  · have had : ∀ j, j < L.length → (fun j => if j = L.length then q else ad j) j = ad j := fun j hj => if_neg (by omega)
    have hy : wfY L.length (yO ci cs) = true := List.all_eq_true.mpr fun c hc => decide_eq_true (by have := hcs.2.1 c hc; omega)
    have hm : mW (L ++ [yO ci cs]) E.2.2.1 (fun j => if j = L.length then q else ad j) σ α = mW L E.2.2.1 ad σ α ++ [(q, .inr (ci, (List.range cs.length).map (fun k => fv ad σ L.length k (cs.getD k 1))))] := by
      rw [mW_push, mW_ad hw _ _ _ had, if_pos rfl, ce_obj]
      have hmp : (List.range cs.length).map (fun k => fv (fun j => if j = L.length then q else ad j) σ L.length k (cs.getD k 1)) = (List.range cs.length).map (fun k => fv ad σ L.length k (cs.getD k 1)) := List.map_congr_left (fun j _ => by rw [hfv, hfv])
      rw [hmp]
    have kk' := kk (hw.push hy) (fun j => if j = L.length then q else ad j) H1 locs ls (by rw [hm]; exact hP1) (by rw [hm]; exact hD1) hS1 (hl.ad ho.1 had)
    have hst : (vR L.length :: st).map (cv E (fun j => if j = L.length then q else ad j)) = .ref q :: st.map (cv E ad) := by
      rw [List.map_cons, okS_cv had ho.2]
      show Value.ref (if L.length = L.length then q else ad L.length) :: _ = _
      rw [if_pos rfl]
    rw [hst] at kk'
    exact kk'
theorem e_ret (C : lwC E ad0 p s m meth c b N xs) (hd : At code pc .ireturn 1 nx) (hk : k ≤ 600000 ∧ n ≤ 7302250) : VE E ad0 p e s m below meth c b k n L σ α pc lv [vI 1] := by
  obtain ⟨hd, rfl⟩ := hd
  intro ad H locs ls hP hD hS hl
  refine W.widen hk.1 hk.2 ?_
  refine va_forget (fun q hq => ?_) (lw_ret C.1.1 C.1.2.1 C.1.2.2.1 C.1.2.2.2.2.2.2.2.2.1 hd)
  rcases hS.2.2 q hq with ⟨j, hj, -⟩ | h
  · omega
  · exact h
end LAWROWS
