/-! ===== THE LAYER: one world for all; values are numbers, places of cells, texts; V: the walk, SS: a contract ===== -/
abbrev Mi : Type := MethodName × ByteArray × Nat × Option FieldType
def GW : List Cond := lw_tbl.filter goodWord
def isNest : Cond → Bool
  | .fieldLinkNest .. => true
  | .methodLinkNest .. => true
  | _ => false
def NW : List Cond := tables_1.filter isNest
def wds (M : Mi) : List Cond := .code M.1 M.2.1 M.2.2.1 M.2.2.2 :: GW
theorem gw_t {w : Cond} (i : Nat) (h : tables_1[i]? = some w) (hg : goodWord w = true) : w ∈ GW := List.mem_filter.mpr ⟨List.mem_append_right _ (List.mem_of_getElem? h), hg⟩
theorem gw_s {w : Cond} (h : w ∈ k2_sels lw_privs) (hg : goodWord w = true) : w ∈ GW := List.mem_filter.mpr ⟨List.mem_append_left _ h, hg⟩
theorem nw_t {w : Cond} (i : Nat) (h : tables_1[i]? = some w) (hg : isNest w = true) : w ∈ NW := List.mem_filter.mpr ⟨List.mem_of_getElem? h, hg⟩
theorem gw_good {M M' : Mi} (h : Cond.code M'.1 M'.2.1 M'.2.2.1 M'.2.2.2 ∈ GW) : GoodIn (wds M) (wds M') := by
  intro w hw
  have hw2 : w ∈ GW := (List.mem_cons.mp hw).elim (fun e => e ▸ h) id
  exact ⟨List.mem_cons_of_mem _ hw2, good_of_word (List.mem_filter.mp hw2).2⟩
def i32 (z : Int) : Int32 := Int32.ofInt z
def i64 (z : Int) : Int64 := Int64.ofInt z
abbrev AV : Type := Int ⊕ Nat ⊕ Int ⊕ Nat
abbrev vI (z : Int) : AV := .inl z
abbrev vR (q : Nat) : AV := .inr (.inl q)
abbrev vL (z : Int) : AV := .inr (.inr (.inl z))
abbrev vX (i : Nat) : AV := .inr (.inr (.inr i))
/-- the surroundings: the launch, the classes' numbers and slots, the array classes, the texts' cells and their rows -/
abbrev Ev : Type := Launch × va_G × (Nat → ClassId) × (Nat → Nat) × (Nat → Nat)
def cv (E : Ev) (ad : Nat → Nat) : AV → Value
  | .inl z => .int (i32 z)
  | .inr (.inl q) => .ref (ad q)
  | .inr (.inr (.inl z)) => .long (i64 z)
  | .inr (.inr (.inr 0)) => .null
  | .inr (.inr (.inr (i + 1))) => if i < 6 then .ref (E.2.2.2.1 i) else .ref (E.2.2.2.2 (i - 6))
abbrev Ly : Type := (Nat × Nat) ⊕ (Nat × List Nat) ⊕ (Nat × List Nat)
abbrev yA (t n : Nat) : Ly := .inl (t, n)
abbrev yQ (t : Nat) (cs : List Nat) : Ly := .inr (.inl (t, cs))
abbrev yO (ci : Nat) (cs : List Nat) : Ly := .inr (.inr (ci, cs))
abbrev St : Type := Nat → Nat → Int
def fv (ad : Nat → Nat) (σ : St) (q k : Nat) : Nat → Value
  | 0 => .int (i32 (σ q k))
  | 1 => .null
  | r + 2 => .ref (ad r)
def qv (ad : Nat → Nat) : Nat → Option Nat
  | 0 => none
  | 1 => none
  | r + 2 => some (ad r)
def ce (K : Nat → ClassId) (ad : Nat → Nat) (σ α : St) (q : Nat) : Ly → va_E
  | .inl (t, n) => .inl (K t, n, .inl (fun j => i32 (α q j)))
  | .inr (.inl (t, cs)) => .inl (K t, cs.length, .inr (.inr (.inr (.inr (fun j => qv ad (cs.getD j 1))))))
  | .inr (.inr (ci, cs)) => .inr (ci, (List.range cs.length).map (fun k => fv ad σ q k (cs.getD k 1)))
def mW (L : List Ly) (K : Nat → ClassId) (ad : Nat → Nat) (σ α : St) : va_W := (List.range L.length).map (fun q => (ad q, ce K ad σ α q (L.getD q (yA 0 0))))
theorem mW_len (L : List Ly) (K : Nat → ClassId) (ad : Nat → Nat) (σ α : St) : (mW L K ad σ α).length = L.length := by simp [mW]
theorem mW_get {L : List Ly} (K : Nat → ClassId) (ad : Nat → Nat) (σ α : St) {q : Nat} {y : Ly} (h : L[q]? = some y) : (mW L K ad σ α)[q]? = some (ad q, ce K ad σ α q y) := by
  have hq : q < L.length := (List.getElem?_eq_some_iff.mp h).1
  simp [mW, List.getElem?_map, List.getElem?_range hq, List.getD_eq_getElem?_getD, h]
theorem mW_inv {L : List Ly} {K : Nat → ClassId} {ad : Nat → Nat} {σ α : St} {k : Nat} {e : Nat × va_E} (h : (mW L K ad σ α)[k]? = some e) : ∃ y, L[k]? = some y ∧ e = (ad k, ce K ad σ α k y) := by
  have hk : k < L.length := by rw [← mW_len L K ad σ α]; exact (List.getElem?_eq_some_iff.mp h).1
  refine ⟨L[k], List.getElem?_eq_getElem hk, ?_⟩
  rw [mW_get K ad σ α (List.getElem?_eq_getElem hk)] at h
  exact (Option.some.inj h).symm
def uS (σ : St) (q k : Nat) (v : Int) : St := fun q' k' => if q' = q ∧ k' = k then v else σ q' k'
def uA (α : St) (q : Nat) (f : Nat → Int) : St := fun q' => if q' = q then f else α q'
def uF (f : Nat → Int) (k : Nat) (v : Int) : Nat → Int := fun j => if j = k then v else f j
theorem mW_setL {L : List Ly} {K : Nat → ClassId} {ad : Nat → Nat} {σ α σ' α' : St} {q : Nat} {y : Ly} {e : va_E} (h : q < L.length) (he : e = ce K ad σ' α' q y) (ho : ∀ j z, j ≠ q → ce K ad σ' α' j z = ce K ad σ α j z) : (mW L K ad σ α).set q (ad q, e) = mW (L.set q y) K ad σ' α' := by
  subst he
  apply List.ext_getElem?
  intro j
  rw [List.getElem?_set]
  by_cases hj : q = j
  · subst hj
    rw [if_pos rfl, mW_len, if_pos h, mW_get (y := y)]
    rw [List.getElem?_set, if_pos rfl, if_pos h]
  · rw [if_neg hj]
    by_cases hl : j < L.length
    · rw [mW_get (y := L[j]) K ad σ α (List.getElem?_eq_getElem hl), mW_get (y := L[j]) K ad σ' α', ho j _ (Ne.symm hj)]
      rw [List.getElem?_set, if_neg hj]
      exact List.getElem?_eq_getElem hl
    · rw [List.getElem?_eq_none (by rw [mW_len]; omega), List.getElem?_eq_none (by rw [mW_len, List.length_set]; omega)]
theorem mW_set {L : List Ly} {K : Nat → ClassId} {ad : Nat → Nat} {σ α σ' α' : St} {q : Nat} {y : Ly} {e : va_E} (h : L[q]? = some y) (he : e = ce K ad σ' α' q y) (ho : ∀ j z, j ≠ q → ce K ad σ' α' j z = ce K ad σ α j z) : (mW L K ad σ α).set q (ad q, e) = mW L K ad σ' α' := by
  have hq : q < L.length := (List.getElem?_eq_some_iff.mp h).1
  rw [mW_setL hq he ho]
  congr 1
  apply List.ext_getElem?
  intro j
  rw [List.getElem?_set]
  by_cases hj : q = j
  · subst hj; rw [if_pos rfl, if_pos hq, h]
  · rw [if_neg hj]
theorem ce_uS {K : Nat → ClassId} {ad : Nat → Nat} {σ α : St} {q k : Nat} {v : Int} : ∀ j z, j ≠ q → ce K ad (uS σ q k v) α j z = ce K ad σ α j z := by
  intro j z hj
  have hf : ∀ k', (uS σ q k v) j k' = σ j k' := fun k' => by simp [uS, hj]
  have hv : ∀ k' c, fv ad (uS σ q k v) j k' c = fv ad σ j k' c := by
    intro k' c
    match c with
    | 0 => simp only [fv, hf]
    | 1 => rfl
    | r + 2 => rfl
  match z with
  | .inl (t, n) => rfl
  | .inr (.inl (t, cs)) => rfl
  | .inr (.inr (ci, cs)) => simp only [ce, hv]
theorem ce_uA {K : Nat → ClassId} {ad : Nat → Nat} {σ α : St} {q : Nat} {f : Nat → Int} : ∀ j z, j ≠ q → ce K ad σ (uA α q f) j z = ce K ad σ α j z := by
  intro j z hj
  match z with
  | .inl (t, n) => simp only [ce, uA, if_neg hj]
  | .inr (.inl (t, cs)) => rfl
  | .inr (.inr (ci, cs)) => rfl
def ty4 (K : Nat → ClassId) : List (ClassId × FieldType) := [(K 0, .int), (K 1, .boolean), (K 2, .object RX0), (K 3, .object RX1)]
def NS (U : State) : Prop := ∀ w ∈ NW, va_Nw w U
theorem NS.warm {s U : State} (hW : s.WarmedH U.vm) (h : NS s) : NS U := by
  intro w hw
  have h1 := (List.mem_filter.mp hw).2
  have h2 := h w hw
  match w, h1, h2 with
  | .fieldLinkNest .., _, h2 => exact va_Nw.warmF hW h2
  | .methodLinkNest .., _, h2 => exact va_Nw.warmM hW h2
/-- the texts of the class: their entries, their lengths, their bytes -/
def sxI : List Nat := [48, 57, 62, 67, 72, 77]
def sxT : List String := ["casting", "section", "joint", "riser", "chill", "rule"]
def sxN : List Nat := [7, 7, 5, 5, 5, 4]
def sxB : List (List Int32) := [[99, 97, 115, 116, 105, 110, 103], [115, 101, 99, 116, 105, 111, 110], [106, 111, 105, 110, 116], [114, 105, 115, 101, 114], [99, 104, 105, 108, 108], [114, 117, 108, 101]]
def SX (E : Ev) (A : Nat → Prop) (U : State) (H : Heap) : Prop :=
  vk_S 6 sxN sxB E.2.2.2.1 E.2.2.2.2 A U H ∧ (∀ i, i < 6 → vk_R RX5 (sxI.getD i 0) (sxT.getD i "") (E.2.2.2.1 i) U) ∧ va_Z "java/lang/String" "COMPACT_STRINGS" "Z" (.int 1) A U H ∧ (va_Z "jdk/internal/util/Preconditions" "SIOOBE_FORMATTER" "Ljava/util/function/BiFunction;" (.ref (E.2.2.2.2 6)) A U H ∨ va_Z "jdk/internal/util/Preconditions" "SIOOBE_FORMATTER" "Ljava/util/function/BiFunction;" .null A U H) ∧ va_AO RX0 U ∧ va_AO RX1 U
theorem SX.go {E : Ev} {A B : Nat → Prop} {s U : State} {H H1 : Heap} (h : SX E A s H) (hW : s.WarmedH U.vm) (hq : ∀ a : Nat, a < H.size → ¬ A a → H1[a]? = H[a]?) (hAB : ∀ q, B q → A q) : SX E B U H1 :=
  ⟨((h.1.kept hq).narrow hAB).moved hW.alike, fun i hi => (h.2.1 i hi).warm hW, ((h.2.2.1.kept hq).narrow hAB).moved hW.alike, h.2.2.2.1.imp (fun h => ((h.kept hq).narrow hAB).moved hW.alike) (fun h => ((h.kept hq).narrow hAB).moved hW.alike), va_AO.moved hW.alike h.2.2.2.2.1, va_AO.moved hW.alike h.2.2.2.2.2⟩
theorem SX.same {E : Ev} {A : Nat → Prop} {s U : State} {H : Heap} (h : SX E A s H) (hv : U.vm = s.vm) : SX E A U H :=
  ⟨h.1.moved (by rw [hv]; exact Vm.Alike.refl _), fun i hi => (h.2.1 i hi).same hv, h.2.2.1.moved (by rw [hv]; exact Vm.Alike.refl _), h.2.2.2.1.imp (fun h => h.moved (by rw [hv]; exact Vm.Alike.refl _)) (fun h => h.moved (by rw [hv]; exact Vm.Alike.refl _)), va_AO.moved (by rw [hv]; exact Vm.Alike.refl _) h.2.2.2.2.1, va_AO.moved (by rw [hv]; exact Vm.Alike.refl _) h.2.2.2.2.2⟩
def AA (ad : Nat → Nat) (n sz : Nat) : Nat → Prop := fun q => (∃ j, j < n ∧ q = ad j) ∨ sz ≤ q
def PreW (E : Ev) (L : List Ly) (ad : Nat → Nat) (σ α : St) (sz : Nat) (U : State) : Prop :=
  U.heap.size = sz ∧ va_P E.2.1 vwCl (mW L E.2.2.1 ad σ α) U.heap ∧ va_K E.2.1 vwCl (ty4 E.2.2.1) U ∧ va_D (fun _ => True) (mW L E.2.2.1 ad σ α) ∧ NS U ∧ SX E (AA ad L.length sz) U U.heap
abbrev Pst : Type := Option AV → List Ly → St → St → Prop
def PostW (E : Ev) (ad : Nat → Nat) (n sz : Nat) (post : Pst) : Array Value → State → Outcome → State → Prop := fun _ st oc t =>
  (∃ (r : Option AV) (L' : List Ly) (ad' : Nat → Nat) (σ' α' : St), oc = .returned (r.map (cv E ad')) ∧ post r L' σ' α' ∧ n ≤ L'.length ∧ (∀ j, j < n ∨ L'.length ≤ j → ad' j = ad j) ∧ va_P E.2.1 vwCl (mW L' E.2.2.1 ad' σ' α') t.heap ∧ va_D (AA ad n sz) (mW L' E.2.2.1 ad' σ' α')) ∧ va_F (AA ad n sz) st t
def rmd (d mc ms : Nat) : Room := { frames := d, cells := mc, slots := ms, locals := 40 * d }
def SS (d : Nat) (M : Mi) (mc ms : Nat) (av : List AV) (L : List Ly) (σ α : St) (post : Pst) : Prop :=
  ∀ (E : Ev) (ad : Nat → Nat) (sz : Nat), Met E.1 M.1 (wds M) (rmd d mc ms) (va_Pc (av.map (cv E ad)) (PreW E L ad σ α sz)) (PostW E ad L.length sz post) mc ms (AA ad L.length sz)
abbrev Cx : Type := Nat × Nat × List AV × Nat × Pst
def Ctx (M : Mi) (X : Cx) (E : Ev) (ad0 : Nat → Nat) (p : Program) (s : State) (m : MethodId) (meth : Method) (c : Code) : Prop :=
  p.tables.exec = Jvm.exec ∧ c.code = M.2.1 ∧ meth.sig.returnType = M.2.2.2 ∧ meth.locks = false ∧ c.maxLocals = M.2.2.1 ∧ s.vm.findClass M.1.cls = some m.cls ∧ meth.name = M.1.name ∧ (∀ w ∈ wds M, w.before (X.2.2.1.map (cv E ad0)).toArray s = true) ∧ va_K E.2.1 vwCl (ty4 E.2.2.1) s ∧ NS s ∧ SX E (AA ad0 X.2.2.2.1 s.heap.size) s s.heap
def LV (E : Ev) (ad : Nat → Nat) (nL : Nat) (lv : List (Option AV)) (ls : Array Slot) : Prop := ls.size = nL ∧ lv_wf ls ∧ ∀ (i : Nat) (v : AV), lv[i]? = some (some v) → ls[i]? = some (Slot.val (cv E ad v))
def V (d : Nat) (M : Mi) (X : Cx) (k n : Nat) (L : List Ly) (σ α : St) (pc : Nat) (lv : List (Option AV)) (st : List AV) : Prop :=
  ∀ (E : Ev) (ad0 ad : Nat → Nat) (p : Program) (e : Env) (s : State) (m : MethodId) (below : List Frame) (meth : Method) (c : Code) (H : Heap) (locs : List Loc) (ls : Array Slot),
    Ctx M X E ad0 p s m meth c → X.2.2.2.1 ≤ L.length → (∀ j, j < X.2.2.2.1 ∨ L.length ≤ j → ad j = ad0 j) →
    va_P E.2.1 vwCl (mW L E.2.2.1 ad σ α) H → va_D (AA ad0 X.2.2.2.1 s.heap.size) (mW L E.2.2.1 ad σ α) → va_S (AA ad0 X.2.2.2.1 s.heap.size) s.heap H locs → LV E ad M.2.2.1 lv ls →
    W p E.1 e (rmd d X.1 X.2.1) s m (X.2.2.1.map (cv E ad0)).toArray below meth c H locs k n (MQ below (PostW E ad0 X.2.2.2.1 s.heap.size X.2.2.2.2) (X.2.2.1.map (cv E ad0)).toArray s X.1 X.2.1 (AA ad0 X.2.2.2.1 s.heap.size)) (F0 m pc ls (st.map (cv E ad)))
