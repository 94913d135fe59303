section QA8
variable {K : qK}
theorem p_putW {C : List (qC → Prop)} {w0 w : qW} {a ci kf : Nat} {vs : List qV} {v : qV} {ok : qV → Prop} {lv : qL} {r : List qV} (hW : WS C w0 w) (e : w[a]? = some (.inr (ci, vs))) (hl : Nat.blt kf vs.length = true) (hok : ok v) (ha : (Nat.blt a 111 && !(Nat.beq a 44)) = true) (hc : match C[a]? with
    | some P => P (.inr (ci, vs.set kf v))
    | none => True) (hk : ∀ w', WS C w0 w' → K lv r w') : x_put ci kf ok K lv (v :: .inr (.inr (some a)) :: r) w := p_put e hl hok (hk _ (WS_set hW ha hc))
theorem p_iastW {C : List (qC → Prop)} {w0 w : qW} {a n : Nat} {f : Nat → Int} {i v : Int} {lv : qL} {r : List qV} (hW : WS C w0 w) (e : w[a]? = some (.inl (0, n, .inl f))) (hi : 0 ≤ i ∧ i < n) (ha : (Nat.blt a 111 && !(Nat.beq a 44)) = true) (hc : match C[a]? with
    | some P => P (.inl (0, n, .inl (q_up f i.toNat v)))
    | none => True) (hk : ∀ w', WS C w0 w' → K lv r w') : x_iast K lv (.inl v :: .inl i :: .inr (.inr (some a)) :: r) w := p_iast e hi (hk _ (WS_set hW ha hc))
end QA8
