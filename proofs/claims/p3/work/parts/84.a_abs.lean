section QA8
variable {K : qK}
theorem p_putW {C : List (qC → Prop)} {w0 w : qW} {a ci kf : Nat} {vs : List qV} {v : qV} {ok : qV → Prop} {lv : qL} {r : List qV} (hW : WS C w0 w) (e : w[a]? = some (.inr (ci, vs))) (hl : Nat.blt kf vs.length = true) (hok : ok v) (ha : (Nat.blt a 111 && !(Nat.beq a 44)) = true) (hc : match C[a]? with
    | some P => P (.inr (ci, vs.set kf v))
    | none => True) (hk : ∀ w', WS C w0 w' → K lv r w') : x_put ci kf ok K lv (v :: .inr (.inr (some a)) :: r) w := p_put e hl hok (hk _ (WS_set hW ha hc))
theorem p_iastW {C : List (qC → Prop)} {w0 w : qW} {a n : Nat} {f : Nat → Int} {i v : Int} {lv : qL} {r : List qV} (hW : WS C w0 w) (e : w[a]? = some (.inl (0, n, .inl f))) (hi : 0 ≤ i ∧ i < n) (ha : (Nat.blt a 111 && !(Nat.beq a 44)) = true) (hc : match C[a]? with
    | some P => P (.inl (0, n, .inl (q_up f i.toNat v)))
    | none => True) (hk : ∀ w', WS C w0 w' → K lv r w') : x_iast K lv (.inl v :: .inl i :: .inr (.inr (some a)) :: r) w := p_iast e hi (hk _ (WS_set hW ha hc))
theorem PW_setC {C C' : List (qC → Prop)} {w : qW} {a : Nat} {x : qC} (h : PW C w) (hC : ∀ i : Nat, ¬ i = a → C'[i]? = C[i]?) (hL : C'.length = C.length) (hc : match C'[a]? with
    | some P => P x
    | none => True) : PW C' (w.set a x) := by
  intro i P hi
  have hil : i < C.length := by rw [← hL]; exact (List.getElem?_eq_some_iff.mp hi).1
  rw [List.getElem?_set]
  by_cases e : a = i
  · subst e
    obtain ⟨y, hy, -⟩ := h a _ (List.getElem?_eq_getElem hil)
    rw [if_pos rfl, if_pos (List.getElem?_eq_some_iff.mp hy).1]
    rw [hi] at hc
    exact ⟨x, rfl, hc⟩
  · rw [if_neg e]
    rw [hC i (fun e9 => e e9.symm)] at hi
    exact h i P hi
theorem p_putG {C C' : List (qC → Prop)} {w0 w : qW} {a ci kf : Nat} {vs : List qV} {v : qV} {ok : qV → Prop} {lv : qL} {r : List qV} (hW : WS C w0 w) (e : w[a]? = some (.inr (ci, vs))) (hl : Nat.blt kf vs.length = true) (hok : ok v) (ha : (Nat.blt a 111 && !(Nat.beq a 44)) = true) (hC : ∀ i : Nat, ¬ i = a → C'[i]? = C[i]?) (hL : C'.length = C.length) (hc : match C'[a]? with
    | some P => P (.inr (ci, vs.set kf v))
    | none => True) (hk : ∀ w', WS C' w0 w' → K lv r w') : x_put ci kf ok K lv (v :: .inr (.inr (some a)) :: r) w := by
  refine p_put e hl hok (hk _ ⟨PW_setC hW.1 hC hL hc, by rw [List.length_set]; exact hW.2.1, fun i hi => ?_⟩)
  simp only [Bool.and_eq_true, Bool.not_eq_true'] at ha
  have h2 : a < 111 := Nat.le_of_ble_eq_true ha.1
  have h3 := Nat.ne_of_beq_eq_false ha.2
  rw [List.getElem?_set, if_neg (by omega)]; exact hW.2.2 i hi
def spT (C C' : List (qC → Prop)) (rel : List qV → Option qV → Prop) (ar : List qV → Prop) : qS := fun av w Q => PW C w ∧ ar av ∧ ∀ r w', PW C' w' → w'.length = w.length → (∀ i : Nat, (i = 44 ∨ 111 ≤ i) → w'[i]? = w[i]?) → rel av r → Q r w'
end QA8
