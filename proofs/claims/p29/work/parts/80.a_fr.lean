section QF9
variable {p : Program} {l : Launch} {e : Env} {R : Room} {s : State} {m : MethodId} {args : Array Value} {below : List Frame} {meth : Method} {c : Code} {cc : ByteArray} {nL nW fr lo : Nat} {own : String} {ret : Option FieldType} {dC : Nat → ClassId} {dI : Nat → Nat → Nat} {k : Nat → ClassId} {g : Nat → Nat} {A : Nat → Prop} {Qf : State → Prop} {pc : Nat} {K K1 K2 : qK}
theorem Met_imp {y : MethodName} {ws : List Cond} {rm : Room} {Pc Pc' : Array Value → State → Prop} {Qc Qc' : Array Value → State → Outcome → State → Prop} {mc ms : Nat} {free free' : Addr → Prop} (h : Met l y ws rm Pc Qc mc ms free) (hP : ∀ a st, Pc' a st → Pc a st) (hQ : ∀ a st oc t, Pc' a st → Qc a st oc t → Qc' a st oc t) (hF : ∀ q, free q → free' q) : Met l y ws rm Pc' Qc' mc ms free' := by
  intro p e h1 h2 h3 s m args below h4 h5 h6 h7
  obtain ⟨n, oc, a1, a2, a3, a4, L, a5, a6⟩ := h p e h1 h2 h3 s m args below h4 h5 (hP _ _ h6) h7
  exact ⟨n, oc, a1, a2, a3, hQ _ _ _ _ h6 a4, L, a5, fun q hq => hF _ (a6 q hq)⟩
theorem qE_nar {g : Nat → Nat} {A B : Nat → Prop} {U : State} (h : qE g A U) (hF : ∀ q, B q → A q) : qE g B U := by
  obtain ⟨h1, h2, h3, h4, h5, h6, h7⟩ := h
  refine ⟨h1, h2, fun j nm xs hj => ?_, h4.narrow hF, h5, h6.narrow hF, h7.imp (fun h => h.narrow hF) (fun h => h.narrow hF)⟩
  obtain ⟨a, b, c, d⟩ := h3 j nm xs hj
  exact ⟨a.narrow hF, b, c, fun z => d (hF _ z)⟩
def q_fr (sp : qS) : qS := fun av w Q => ∃ (pos : List Nat) (av0 : List qV) (w0 : qW), av = av0.map (q_rv pos) ∧ (pos.take w0.length).map (fun i => w[i]?) = w0.map (fun x => some (q_rc pos x)) ∧ (va_nd (pos.take w0.length) && Nat.blt pos.length 1000) = true ∧ sp av0 w0 (fun r w1 => w1.length = w0.length → Q (r.map (q_rv pos)) (q_bw pos w (pos.take w0.length) w1))
theorem q_M_fr {y : MethodName} {sp : qS} (hM : q_M l y cc nL ret fr lo sp) : q_M l y cc nL ret fr lo (q_fr sp) := by
  intro dC dI k g av w Q sz hs oka okw
  obtain ⟨pos, av0, w0, hav, hpw, hb9, hsp⟩ := hs
  simp only [Bool.and_eq_true] at hb9
  obtain ⟨hnd, hp1⟩ := hb9
  have hp1 : pos.length < 1000 := Nat.le_of_ble_eq_true hp1
  have hplen : (pos.take w0.length).length = w0.length := by have := congrArg List.length hpw; simpa using this
  have oka0 : q_oks av0 := by
    intro v hv
    exact q_rv_ok.mp (oka _ (by rw [hav]; exact List.mem_map.mpr ⟨v, hv, rfl⟩))
  have okw0 : q_okw w0 := by
    intro x hx0
    obtain ⟨j, hj⟩ := List.getElem?_of_mem hx0
    obtain ⟨i, -, hxi⟩ := q_sub_at hpw hj
    exact q_rc_ok.mp (q_okw_at okw hxi)
  have hAA : ∀ q, va_A (q_w k (fun i => g (q_rn pos i)) w0) sz q → va_A (q_w k g w) sz q := by
    rintro q (⟨j, e0, he0⟩ | hsz)
    · obtain ⟨y0, hy0, he1⟩ := q_w_of he0
      obtain ⟨i3, hi3, hx3⟩ := q_sub_at hpw hy0
      have e9 : q = g i3 := by
        have := congrArg Prod.fst he1
        simp only at this
        rw [this, q_rn_at (q_tk hi3)]
      exact Or.inl ⟨i3, _, by rw [q_w_at hx3, e9]⟩
    · exact Or.inr hsz
  have hvv : av.map (q_v g) = av0.map (q_v (fun i => g (q_rn pos i))) := by
    rw [hav, List.map_map]
    apply List.map_congr_left
    intro v _
    exact q_rv_v pos v
  refine Met_imp (hM dC dI k (fun i => g (q_rn pos i)) av0 w0 _ sz hsp oka0 okw0) (fun a st h => ?_) (fun a st oc t h hq => ?_) hAA
  · obtain ⟨ha, h1, hP, hK, hD, hE⟩ := h
    refine ⟨by rw [ha, hvv], h1, ?_, hK, ?_, ?_⟩
    · intro j q hj
      obtain ⟨x, hx0, rfl⟩ := q_w_of hj
      obtain ⟨i, hi, hxi⟩ := q_sub_at hpw hx0
      have h1 := hP i _ (q_w_at hxi)
      rw [q_rc_c] at h1
      rw [q_rn_at (q_tk hi)]
      exact h1
    · refine ⟨fun i j hi hj he => ?_, fun _ _ => trivial⟩
      have e1 : (pos.take w0.length)[i]? = some ((pos.take w0.length)[i]'(by omega)) := List.getElem?_eq_getElem (by omega)
      have e2 : (pos.take w0.length)[j]? = some ((pos.take w0.length)[j]'(by omega)) := List.getElem?_eq_getElem (by omega)
      simp only [q_rn_at (q_tk e1), q_rn_at (q_tk e2)] at he
      obtain ⟨i1, hi1, hx1⟩ := q_sub_at hpw (List.getElem?_eq_getElem hi)
      obtain ⟨i2, hi2, hx2⟩ := q_sub_at hpw (List.getElem?_eq_getElem hj)
      rw [e1] at hi1
      rw [e2] at hi2
      cases hi1
      cases hi2
      have e3 := hD.1 _ _ (List.getElem?_eq_some_iff.mp hx1).1 (List.getElem?_eq_some_iff.mp hx2).1 he
      exact va_nd_inj _ hnd i j _ e1 (by rw [e3]; exact e2)
    · refine qE_g (g := g) (fun i hi => ?_) (qE_nar hE hAA)
      have : pos[i]? = none := List.getElem?_eq_none (by omega)
      show g (q_rn pos i) = g i
      unfold q_rn; rw [this]
  · obtain ⟨ha, h1, hP, hK, hD, hE⟩ := h
    obtain ⟨⟨r, w1, hr, hq1, hlen, hok, hokw, hP1⟩, hz, hk⟩ := hq
    refine ⟨⟨r.map (q_rv pos), q_bw pos w (pos.take w0.length) w1, ?_, hq1 hlen, by rw [q_bw_len], fun v hv => ?_, q_bw_ok _ w w1 okw hokw, ?_⟩, hz, fun q a b => hk q a (fun z => b (hAA q z))⟩
    · rw [hr]
      cases r with
      | none => rfl
      | some v => show Outcome.returned (some _) = Outcome.returned (some _); rw [← q_rv_v]
    · cases r with
      | none => cases hv
      | some u => cases hv; exact q_rv_ok.mpr (hok u rfl)
    · intro i q hi
      obtain ⟨x, hx0, rfl⟩ := q_w_of hi
      refine q_bw_at (P := fun i x => va_at (dC, dI) vwCl (g i, q_c k g x) t.heap) (pos.take w0.length) w w1 (fun j p x hp hx1 => ?_) (fun i2 x2 hx2 hn => ?_) (by omega) i x hx0
      · have h1 := hP1 j _ (q_w_at hx1)
        rw [q_rn_at (q_tk hp)] at h1
        rw [q_rc_c]
        exact h1
      · have h3 := hP i2 _ (q_w_at hx2)
        refine h3.kept (hk _ h3.lt ?_)
        rintro (⟨j, e0, he0⟩ | hsz)
        · obtain ⟨y0, hy0, he1⟩ := q_w_of he0
          obtain ⟨i3, hi3, hx3⟩ := q_sub_at hpw hy0
          have e9 : g i2 = g i3 := by
            have := congrArg Prod.fst he1
            simp only at this
            rw [this, q_rn_at (q_tk hi3)]
          have := hD.1 i2 i3 (List.getElem?_eq_some_iff.mp hx2).1 (List.getElem?_eq_some_iff.mp hx3).1 e9
          exact hn (by rw [this]; exact List.mem_of_getElem? hi3)
        · have := h3.lt
          rw [h1] at this
          exact absurd this (Nat.not_lt.mpr hsz)
def PW (C : List (qC → Prop)) (w : qW) : Prop := ∀ (i : Nat) (P : qC → Prop), C[i]? = some P → ∃ x, w[i]? = some x ∧ P x
def AllC (C : List (qC → Prop)) (pos : List Nat) : List Nat → qW → Prop
  | p :: ps, x :: xs => (match C[p]? with
    | some P => P (q_rc pos x)
    | none => True) ∧ AllC C pos ps xs
  | _, _ => True
theorem AllC_at {C : List (qC → Prop)} {pos : List Nat} : ∀ (ps : List Nat) (xs : qW), AllC C pos ps xs → ∀ (j p : Nat) (x : qC), ps[j]? = some p → xs[j]? = some x → ∀ P, C[p]? = some P → P (q_rc pos x) := by
  intro ps
  induction ps with
  | nil => intro xs _ j p x hp; cases hp
  | cons p0 ps ih =>
    intro xs h j p x hp hx P hP
    cases xs with
    | nil => cases hx
    | cons x0 xs =>
      obtain ⟨h1, h2⟩ := h
      cases j with
      | zero =>
        cases hp
        cases hx
        rw [hP] at h1
        exact h1
      | succ j => exact ih xs h2 j p x hp hx P hP
theorem PW_bw {C : List (qC → Prop)} {pos ps : List Nat} {w w1 : qW} (h : PW C w) (hlen : ps.length = w1.length) (hc : AllC C pos ps w1) : PW C (q_bw pos w ps w1) := by
  intro i P hi
  obtain ⟨x, hx, hp⟩ := h i P hi
  have hl : i < (q_bw pos w ps w1).length := by rw [q_bw_len]; exact (List.getElem?_eq_some_iff.mp hx).1
  refine ⟨_, List.getElem?_eq_getElem hl, ?_⟩
  exact q_bw_at (P := fun i x => ∀ Pr, C[i]? = some Pr → Pr x) ps w w1 (fun j p x hp hx Pr hPr => AllC_at ps w1 hc j p x hp hx Pr hPr) (fun i2 x2 hx2 _ Pr hPr => by
    obtain ⟨x3, h3, h4⟩ := h i2 Pr hPr
    rw [hx2] at h3
    cases h3
    exact h4) hlen i _ (List.getElem?_eq_getElem hl) P hi
end QF9
