section QF9
variable {p : Program} {l : Launch} {e : Env} {R : Room} {s : State} {m : MethodId} {args : Array Value} {below : List Frame} {meth : Method} {c : Code} {cc : ByteArray} {nL nW fr lo : Nat} {own : String} {ret : Option FieldType} {dC : Nat → ClassId} {dI : Nat → Nat → Nat} {k : Nat → ClassId} {g : Nat → Nat} {A : Nat → Prop} {Qf : State → Prop} {pc : Nat} {K K1 K2 : qK}
theorem Met_imp {y : MethodName} {ws : List Cond} {rm : Room} {Pc Pc' : Array Value → State → Prop} {Qc Qc' : Array Value → State → Outcome → State → Prop} {mc ms : Nat} {free free' : Addr → Prop} (h : Met l y ws rm Pc Qc mc ms free) (hP : ∀ a st, Pc' a st → Pc a st) (hQ : ∀ a st oc t, Pc' a st → Qc a st oc t → Qc' a st oc t) (hF : ∀ q, free q → free' q) : Met l y ws rm Pc' Qc' mc ms free' := by
  intro p e h1 h2 h3 s m args below h4 h5 h6 h7
  obtain ⟨n, oc, a1, a2, a3, a4, L, a5, a6⟩ := h p e h1 h2 h3 s m args below h4 h5 (hP _ _ h6) h7
  exact ⟨n, oc, a1, a2, a3, hQ _ _ _ _ h6 a4, L, a5, fun q hq => hF _ (a6 q hq)⟩
theorem qE_nar {g : Nat → Nat} {A B : Nat → Prop} {U : State} (h : qE g A U) (hF : ∀ q, B q → A q) : qE g B U := by
  obtain ⟨h1, h2, h3, h4, h5, h6, h7⟩ := h
  refine ⟨h1, h2, fun j nm xs hj => ?_, h4.narrow hF, h5, h6.narrow hF, h7.imp (fun h => h.narrow hF) (fun h => h.narrow hF)⟩
  obtain ⟨a, b, c, d⟩ := h3 j nm xs hj
  exact ⟨a.narrow hF, b, c, fun z => d (hF _ z)⟩
def q_fr (sp : qS) : qS := fun av w Q => ∃ (pos : List Nat) (av0 : List qV) (w0 : qW), av = av0.map (q_rv pos) ∧ (pos.take w0.length).map (fun i => w[i]?) = w0.map (fun x => some (q_rc pos x)) ∧ (va_nd (pos.take w0.length) && Nat.blt pos.length 1000) = true ∧ sp av0 w0 (fun r w1 => w1.length = w0.length → Q (r.map (q_rv pos)) (q_bw pos w (pos.take w0.length) w1))
theorem q_M_fr {y : MethodName} {sp : qS} (hM : q_M l y cc nL ret fr lo sp) : q_M l y cc nL ret fr lo (q_fr sp) := by
  intro dC dI k g av w Q sz hs oka okw
  obtain ⟨pos, av0, w0, hav, hpw, hb9, hsp⟩ := hs
  simp only [Bool.and_eq_true] at hb9
  obtain ⟨hnd, hp1⟩ := hb9
  have hp1 : pos.length < 1000 := Nat.le_of_ble_eq_true hp1
  have hplen : (pos.take w0.length).length = w0.length := by have := congrArg List.length hpw; simpa using this
  have oka0 : q_oks av0 := by
    intro v hv
    exact q_rv_ok.mp (oka _ (by rw [hav]; exact List.mem_map.mpr ⟨v, hv, rfl⟩))
  have okw0 : q_okw w0 := by
    intro x hx0
    obtain ⟨j, hj⟩ := List.getElem?_of_mem hx0
    obtain ⟨i, -, hxi⟩ := q_sub_at hpw hj
    exact q_rc_ok.mp (q_okw_at okw hxi)
  have hAA : ∀ q, va_A (q_w k (fun i => g (q_rn pos i)) w0) sz q → va_A (q_w k g w) sz q := by
    rintro q (⟨j, e0, he0⟩ | hsz)
    · obtain ⟨y0, hy0, he1⟩ := q_w_of he0
      obtain ⟨i3, hi3, hx3⟩ := q_sub_at hpw hy0
      have e9 : q = g i3 := by
        have := congrArg Prod.fst he1
        simp only at this
        rw [this, q_rn_at (q_tk hi3)]
      exact Or.inl ⟨i3, _, by rw [q_w_at hx3, e9]⟩
    · exact Or.inr hsz
  have hvv : av.map (q_v g) = av0.map (q_v (fun i => g (q_rn pos i))) := by
    rw [hav, List.map_map]
    apply List.map_congr_left
    intro v _
    exact q_rv_v pos v
  refine Met_imp (hM dC dI k (fun i => g (q_rn pos i)) av0 w0 _ sz hsp oka0 okw0) (fun a st h => ?_) (fun a st oc t h hq => ?_) hAA
  · obtain ⟨ha, h1, hP, hK, hD, hE⟩ := h
    refine ⟨by rw [ha, hvv], h1, ?_, hK, ?_, ?_⟩
    · intro j q hj
      obtain ⟨x, hx0, rfl⟩ := q_w_of hj
      obtain ⟨i, hi, hxi⟩ := q_sub_at hpw hx0
      have h1 := hP i _ (q_w_at hxi)
      rw [q_rc_c] at h1
      rw [q_rn_at (q_tk hi)]
      exact h1
    · refine ⟨fun i j hi hj he => ?_, fun _ _ => trivial⟩
      have e1 : (pos.take w0.length)[i]? = some ((pos.take w0.length)[i]'(by omega)) := List.getElem?_eq_getElem (by omega)
      have e2 : (pos.take w0.length)[j]? = some ((pos.take w0.length)[j]'(by omega)) := List.getElem?_eq_getElem (by omega)
      simp only [q_rn_at (q_tk e1), q_rn_at (q_tk e2)] at he
      obtain ⟨i1, hi1, hx1⟩ := q_sub_at hpw (List.getElem?_eq_getElem hi)
      obtain ⟨i2, hi2, hx2⟩ := q_sub_at hpw (List.getElem?_eq_getElem hj)
      rw [e1] at hi1
      rw [e2] at hi2
      cases hi1
      cases hi2
      have e3 := hD.1 _ _ (List.getElem?_eq_some_iff.mp hx1).1 (List.getElem?_eq_some_iff.mp hx2).1 he
      exact va_nd_inj _ hnd i j _ e1 (by rw [e3]; exact e2)
    · refine qE_g (g := g) (fun i hi => ?_) (qE_nar hE hAA)
      have : pos[i]? = none := List.getElem?_eq_none (by omega)
      show g (q_rn pos i) = g i
      unfold q_rn; rw [this]
  · obtain ⟨ha, h1, hP, hK, hD, hE⟩ := h
    obtain ⟨⟨r, w1, hr, hq1, hlen, hok, hokw, hP1⟩, hz, hk⟩ := hq
    refine ⟨⟨r.map (q_rv pos), q_bw pos w (pos.take w0.length) w1, ?_, hq1 hlen, by rw [q_bw_len], fun v hv => ?_, q_bw_ok _ w w1 okw hokw, ?_⟩, hz, fun q a b => hk q a (fun z => b (hAA q z))⟩
    · rw [hr]
      cases r with
      | none => rfl
      | some v => show Outcome.returned (some _) = Outcome.returned (some _); rw [← q_rv_v]
    · cases r with
      | none => cases hv
      | some u => cases hv; exact q_rv_ok.mpr (hok u rfl)
    · intro i q hi
      obtain ⟨x, hx0, rfl⟩ := q_w_of hi
      refine q_bw_at (P := fun i x => va_at (dC, dI) vwCl (g i, q_c k g x) t.heap) (pos.take w0.length) w w1 (fun j p x hp hx1 => ?_) (fun i2 x2 hx2 hn => ?_) (by omega) i x hx0
      · have h1 := hP1 j _ (q_w_at hx1)
        rw [q_rn_at (q_tk hp)] at h1
        rw [q_rc_c]
        exact h1
      · have h3 := hP i2 _ (q_w_at hx2)
        refine h3.kept (hk _ h3.lt ?_)
        rintro (⟨j, e0, he0⟩ | hsz)
        · obtain ⟨y0, hy0, he1⟩ := q_w_of he0
          obtain ⟨i3, hi3, hx3⟩ := q_sub_at hpw hy0
          have e9 : g i2 = g i3 := by
            have := congrArg Prod.fst he1
            simp only at this
            rw [this, q_rn_at (q_tk hi3)]
          have := hD.1 i2 i3 (List.getElem?_eq_some_iff.mp hx2).1 (List.getElem?_eq_some_iff.mp hx3).1 e9
          exact hn (by rw [this]; exact List.mem_of_getElem? hi3)
        · have := h3.lt
          rw [h1] at this
          exact absurd this (Nat.not_lt.mpr hsz)
def PW (C : List (qC → Prop)) (w : qW) : Prop := ∀ (i : Nat) (P : qC → Prop), C[i]? = some P → ∃ x, w[i]? = some x ∧ P x
def AllC (C : List (qC → Prop)) (pos : List Nat) : List Nat → qW → Prop
  | p :: ps, x :: xs => (match C[p]? with
    | some P => P (q_rc pos x)
    | none => True) ∧ AllC C pos ps xs
  | _, _ => True
theorem AllC_at {C : List (qC → Prop)} {pos : List Nat} : ∀ (ps : List Nat) (xs : qW), AllC C pos ps xs → ∀ (j p : Nat) (x : qC), ps[j]? = some p → xs[j]? = some x → ∀ P, C[p]? = some P → P (q_rc pos x) := by
  intro ps
  induction ps with
  | nil => intro xs _ j p x hp; cases hp
  | cons p0 ps ih =>
    intro xs h j p x hp hx P hP
    cases xs with
    | nil => cases hx
    | cons x0 xs =>
      obtain ⟨h1, h2⟩ := h
      cases j with
      | zero =>
        cases hp
        cases hx
        rw [hP] at h1
        exact h1
      | succ j => exact ih xs h2 j p x hp hx P hP
theorem PW_bw {C : List (qC → Prop)} {pos ps : List Nat} {w w1 : qW} (h : PW C w) (hlen : ps.length = w1.length) (hc : AllC C pos ps w1) : PW C (q_bw pos w ps w1) := by
  intro i P hi
  obtain ⟨x, hx, hp⟩ := h i P hi
  have hl : i < (q_bw pos w ps w1).length := by rw [q_bw_len]; exact (List.getElem?_eq_some_iff.mp hx).1
  refine ⟨_, List.getElem?_eq_getElem hl, ?_⟩
  exact q_bw_at (P := fun i x => ∀ Pr, C[i]? = some Pr → Pr x) ps w w1 (fun j p x hp hx Pr hPr => AllC_at ps w1 hc j p x hp hx Pr hPr) (fun i2 x2 hx2 _ Pr hPr => by
    obtain ⟨x3, h3, h4⟩ := h i2 Pr hPr
    rw [hx2] at h3
    cases h3
    exact h4) hlen i _ (List.getElem?_eq_getElem hl) P hi
def spW0 (C : List (qC → Prop)) (ar : List qV → Prop) (rk : Option qV → Prop) : qS := fun av w Q => PW C w ∧ ar av ∧ ∀ r w', PW C w' → w'.length = w.length → (∀ i : Nat, (i = 44 ∨ 111 ≤ i) → w'[i]? = w[i]?) → rk r → Q r w'
def rkI (r : Option qV) : Prop := ∃ z : Int, r = some (.inl z)
def rkL (r : Option qV) : Prop := ∃ z : Int, r = some (.inr (.inl z))
def rkV (r : Option qV) : Prop := r = none
theorem bw_out {pos ps : List Nat} {w w1 : qW} (h : ps.all (fun p => Nat.blt p 111 && !(Nat.beq p 44)) = true) : ∀ i : Nat, (i = 44 ∨ 111 ≤ i) → (q_bw pos w ps w1)[i]? = w[i]? := by
  intro i hi
  refine q_bw_ne _ _ _ _ (fun hm => ?_)
  have h1 := List.all_eq_true.mp h i hm
  simp only [Bool.and_eq_true, Bool.not_eq_true'] at h1
  have h2 : i < 111 := Nat.le_of_ble_eq_true h1.1
  have h3 := Nat.ne_of_beq_eq_false h1.2
  omega
theorem q_callxI {n nc ns : Nat} {Q' : qR} {A1 : Nat → Prop} {a : Array Value} {H : Heap} {locs : List Loc} {ls : Array Slot} {rest st0 : List Value} (hr : va_Run p l e R s m args below meth c H locs nc ns 0 0 (F0 m pc ls st0) rest (q_post (dC, dI) k g n Q' A1 a) A1) (hS : va_S A s.heap H locs) (hA1 : ∀ q, A1 q → A q)
    (kk : ∀ (r : Option qV) (w1 : qW) (H1 : Heap) (locs1 : List Loc), Q' r w1 → w1.length = n → (∀ v, r = some v → q_ok v) → q_okw w1 → va_P (dC, dI) vwCl (q_w k g w1) H1 → va_S A s.heap H1 locs1 → W p l e R s m args below meth c H1 locs1 nc ns Qf (F0 m (pc + 3) ls ((r.map (q_v g)).toList ++ rest))) : W p l e R s m args below meth c H locs nc ns Qf (F0 m pc ls st0) := by
  intro T hT X
  obtain ⟨v, st₀, t, T', L, h0, X', hL, e1, e2, ⟨⟨r, w1, hv, hq, hlen, hok, hokw, hP1⟩, hz, hk⟩, st⟩ := hr T hT X
  cases hv
  rw [h0] at hz hk
  obtain ⟨t2, a1, b1⟩ := kk r w1 T'.heap (locs ++ L) hq hlen hok hokw (by rw [e1]; exact hP1)
    ⟨Nat.le_trans hS.1 (by rw [e1]; exact hz), fun q h1 h2 => by rw [e1, hk q (Nat.lt_of_lt_of_le h1 hS.1) (fun z => h2 (hA1 q z))]; exact hS.2.1 q h1 h2, fun q hq => by
      rcases List.mem_append.mp hq with h | h
      · exact hS.2.2 q h
      · exact hA1 _ (hL q h)⟩ T' rfl X'
  exact ⟨t2, st t2 a1, b1⟩
def q_pi (r : Option qV) (st : List qV) : List qV := match r with
  | some v => v :: st
  | none => st
theorem q_callI {ci np index nc ns a : Nat} {sp : qS} {y : MethodName} {cy : ByteArray} {nLy fy ly N : Nat} {T : u_T} {rety : Option FieldType} (X : q_X p R s m args meth c cc nL nW fr lo own ret dC dI k g A) (hM : q_M l y cy nLy rety fy ly sp) (h1 : Cond.methodLink own index y ∈ TB) (h2 : Cond.instanceMethod y ∈ TB) (h3 : Cond.selects y.cls y y ∈ TB) (h4 : Cond.initialized y.cls ∈ TB) (h5 : Cond.code y cy nLy rety ∈ TB) (hcl : vwCl[ci]? = some (y.cls, T, N)) (hdd : y.cls = y.cls ∧ y.cls ≠ "java/lang/invoke/MethodHandle" ∧ y.cls ≠ "java/lang/invoke/VarHandle" ∧ (parseMethodDescriptor y.desc).map (fun d => d.parameters.length + 1) = some np) (hroom : fy + 1 ≤ fr ∧ 8 + (nLy + 11) + ly ≤ lo) (hcells : nc + 0 ≤ R.cells ∧ ns + 0 ≤ R.slots) (hd : decode cc pc = .ok (.invokevirtual index, 3)) {H : Heap} {locs : List Loc} {ls : Array Slot} {As rest : List qV} {w : qW} {vs : List qV} (hnp : As.length + 1 = np) (hrv : w[a]? = some (.inr (ci, vs))) (hcs : (rest.map q_cat).sum ≤ 8)
    (hP : va_P (dC, dI) vwCl (q_w k g w) H) (hW : w.length = nW) (hS : va_S A s.heap H locs) (hls : ls.size = nL) (okst : q_oks (As.reverse ++ .inr (.inr (some a)) :: rest)) (okw : q_okw w)
    (hsp : sp (.inr (.inr (some a)) :: As) w (fun r w1 => w1.length = nW → (∀ v, r = some v → q_ok v) → q_okw w1 → ∀ (H1 : Heap) (locs1 : List Loc), va_P (dC, dI) vwCl (q_w k g w1) H1 → va_S A s.heap H1 locs1 → W p l e R s m args below meth c H1 locs1 nc ns Qf (F0 m (pc + 3) ls ((q_pi r rest).map (q_v g))))) : W p l e R s m args below meth c H locs nc ns Qf (F0 m pc ls ((As.reverse ++ .inr (.inr (some a)) :: rest).map (q_v g))) := by
  obtain ⟨hx, hb, hml, hown, hts, hK, hA, hE, hfr, hlo, hlk, hret, hDg⟩ := X
  have hD := q_D_va (k := k) (w := w) (by rw [hW]; exact hDg)
  have hFc : ∀ q, va_A (q_w k g w) H.size q → A q := by
    rintro q (⟨j, e0, he0⟩ | hsz)
    · exact hD.2 j _ he0
    · exact hA q (Nat.le_trans hS.1 hsz)
  have oka : q_oks (.inr (.inr (some a)) :: As) := by
    intro v hv
    refine okst v ?_
    rcases List.mem_cons.mp hv with e9 | e9
    · rw [e9]; exact List.mem_append.mpr (Or.inr List.mem_cons_self)
    · exact List.mem_append.mpr (Or.inl (List.mem_reverse.mpr e9))
  have hMet := hM dC dI k g _ w _ H.size hsp oka okw
  have hn : (parseMethodDescriptor y.desc).map (fun d => d.parameters.length) = some As.length := by
    obtain ⟨-, -, -, hd4⟩ := hdd
    cases hp : parseMethodDescriptor y.desc with
    | none => rw [hp] at hd4; cases hd4
    | some d => rw [hp] at hd4; simp only [Option.map_some, Option.some.injEq] at hd4 ⊢; omega
  have hcs2 : ((rest.map (q_v g)).map fun v => v.category).sum ≤ 8 := by rw [q_cats]; exact hcs
  refine q_callxI (rest := rest.map (q_v g)) (va_runV (Ts := TB) (own := own) (nL := nL) (As := As.map (q_v g)) (b := g a) ⟨hx, hb, hml, hown, hts⟩ hMet (cwV As.length hts (q_gin h5 _ (by
      intro w' hw'
      simp only [List.mem_cons, List.not_mem_nil, or_false] at hw'
      rcases hw' with rfl | rfl | rfl | rfl
      · exact h1
      · exact h2
      · exact h3
      · exact h4)) rfl rfl rfl ⟨hdd.1, hdd.2.1, hdd.2.2.1, hn⟩ ⟨Nat.le_trans hroom.1 hfr, Nat.le_trans hroom.2 hlo⟩) ⟨q_pre_blind, va_recv hK hP hcl (q_w_at hrv), fun U hU hWm => ⟨rfl, by rw [hU], by rw [hU]; exact hP, va_K.moved hWm.alike hK, ⟨fun i j hi hj => hDg.1 i j (by omega) (by omega), fun _ _ => trivial⟩, qE_go hE hS hFc hU hWm⟩⟩ rfl (by rw [List.length_map]) hls ?_ (lv_room hcs2) hd hcells) hS hFc (fun r w1 H1 locs1 hq hlen hok hokw hP1 hS1 => ?_)
  · rw [List.map_append, List.map_reverse, List.map_cons]; rfl
  · have e9 : (r.map (q_v g)).toList ++ rest.map (q_v g) = (q_pi r rest).map (q_v g) := by cases r <;> rfl
    rw [e9]
    exact hq (by rw [hlen]; exact hW) hok hokw H1 locs1 hP1 hS1
end QF9
