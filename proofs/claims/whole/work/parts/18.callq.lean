section LAROWS2
variable {d : Nat} {M : Mi} {X : Cx} {σ α : St} {pc nx : Nat} {lv : List (Option AV)} {st : List AV}
theorem c_VQ {Mc : Mi} {dc na idx q ci N : Nat} {T : u_T} {cs : List Nat} {As rest st0 : List AV} {v : AV} {Q : St → St → Prop} (hd : At M.2.1 pc (.invokevirtual idx) 3 nx) (hlk : ML M.1.cls idx Mc.1) (hm : MI Mc na ∧ MV Mc) (hS : CG dc Mc (vR q :: As) σ α (fun r' s' a' => r' = some v ∧ Q s' a')) (hdd : dc + 1 ≤ d) (hn : As.length = na) (hL : LA[q]? = some (yO ci cs)) (hci : vwCl[ci]? = some (Mc.1.cls, T, N)) (hst : st0 = As.reverse ++ vR q :: rest) (hr : (rest.map catA).sum ≤ 8)
    (kk : ∀ σ' α', Q σ' α' → V d M X 0 0 LA σ' α' nx lv (v :: rest)) : V d M X 0 0 LA σ α pc lv st0 :=
  v_callV hd hlk hm hS hdd hn hL hci hst hr (by rintro _ s' a' ⟨rfl, h⟩; exact kk s' a' h)
theorem c_VN {Mc : Mi} {dc na idx q ci N : Nat} {T : u_T} {cs : List Nat} {As rest st0 : List AV} {Q : St → St → Prop} (hd : At M.2.1 pc (.invokevirtual idx) 3 nx) (hlk : ML M.1.cls idx Mc.1) (hm : MI Mc na ∧ MV Mc) (hS : CG dc Mc (vR q :: As) σ α (fun r' s' a' => r' = none ∧ Q s' a')) (hdd : dc + 1 ≤ d) (hn : As.length = na) (hL : LA[q]? = some (yO ci cs)) (hci : vwCl[ci]? = some (Mc.1.cls, T, N)) (hst : st0 = As.reverse ++ vR q :: rest) (hr : (rest.map catA).sum ≤ 8)
    (kk : ∀ σ' α', Q σ' α' → V d M X 0 0 LA σ' α' nx lv rest) : V d M X 0 0 LA σ α pc lv st0 :=
  v_callV hd hlk hm hS hdd hn hL hci hst hr (by rintro _ s' a' ⟨rfl, h⟩; exact kk s' a' h)
/-- locals of which some may be forgotten -/
def wk : List (Option AV) → List (Option AV) → Prop
  | _, [] => True
  | [], _ :: _ => False
  | _ :: l, none :: l' => wk l l'
  | a :: l, some b :: l' => a = some b ∧ wk l l'
theorem wk_at : ∀ {l l' : List (Option AV)}, wk l l' → ∀ (i : Nat) (v : AV), l'[i]? = some (some v) → l[i]? = some (some v)
  | _, [], _, i, v, h => by simp at h
  | [], _ :: _, hw, i, v, h => absurd hw (by simp [wk])
  | a :: l, none :: l', hw, i, v, h => by
    match i with
    | 0 => simp at h
    | i + 1 => exact wk_at (l := l) (l' := l') hw i v h
  | a :: l, some b :: l', hw, i, v, h => by
    match i with
    | 0 =>
      have h : some (some b) = some (some v) := h
      cases h
      exact congrArg some hw.1
    | i + 1 => exact wk_at (l := l) (l' := l') hw.2 i v h
theorem V.asw {σ' α' : St} {lv' : List (Option AV)} {st' : List AV} (h : V d M X 0 0 LA σ' α' pc lv' st') (e1 : σ = σ') (e2 : α = α') (e3 : wk lv lv') (e4 : st = st') : V d M X 0 0 LA σ α pc lv st := by
  subst e1 e2 e4
  exact V.lvw (wk_at e3) h
end LAROWS2
