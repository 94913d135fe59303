section QC
variable {p : Program} {l : Launch} {e : Env} {R : Room} {s : State} {m : MethodId} {args : Array Value} {below : List Frame} {meth : Method} {c : Code} {cc : ByteArray} {nL nW fr lo : Nat} {own : String} {ret : Option FieldType} {dC : Nat → ClassId} {dI : Nat → Nat → Nat} {k : Nat → ClassId} {g : Nat → Nat} {A : Nat → Prop} {Qf : State → Prop} {pc : Nat} {K K1 K2 : qK}
def q_post (D : va_G) (k : Nat → ClassId) (g : Nat → Nat) (n : Nat) (Q : qR) (A : Nat → Prop) : Array Value → State → Outcome → State → Prop := fun _ st oc t => (∃ (r : Option qV) (w' : qW), oc = .returned (r.map (q_v g)) ∧ Q r w' ∧ w'.length = n ∧ (∀ v, r = some v → q_ok v) ∧ q_okw w' ∧ va_P D vwCl (q_w k g w') t.heap) ∧ va_F A st t
def q_pre (dC : Nat → ClassId) (dI : Nat → Nat → Nat) (k : Nat → ClassId) (g : Nat → Nat) (w : qW) (sz : Nat) (U : State) : Prop := U.heap.size = sz ∧ va_P (dC, dI) vwCl (q_w k g w) U.heap ∧ va_K (dC, dI) vwCl (tyL k) U ∧ q_D (fun _ => True) g w.length ∧ qE g (va_A (q_w k g w) sz) U
def q_rm (fr lo : Nat) : Room := { frames := fr, cells := 0, slots := 0, locals := lo }
def q_M (l : Launch) (y : MethodName) (cc : ByteArray) (nL : Nat) (ret : Option FieldType) (fr lo : Nat) (sp : qS) : Prop := ∀ (dC : Nat → ClassId) (dI : Nat → Nat → Nat) (k : Nat → ClassId) (g : Nat → Nat) (av : List qV) (w : qW) (Q : qR) (sz : Nat), sp av w Q → q_oks av → q_okw w →
  Met l y (.code y cc nL ret :: TB) (q_rm fr lo) (va_Pc (av.map (q_v g)) (q_pre dC dI k g w sz)) (q_post (dC, dI) k g w.length Q (va_A (q_w k g w) sz)) 0 0 (va_A (q_w k g w) sz)
theorem q_pre_blind {av : List Value} {w : qW} {sz : Nat} : FrameBlind (va_Pc av (q_pre dC dI k g w sz)) := fun a U g' mk q => ⟨q.1, q.2.1, q.2.2.1, va_K.moved (u := U) (U := U.calling g' mk a) (Vm.Alike.refl U.vm) q.2.2.2.1, q.2.2.2.2.1, qE_same (U := U) (V := U.calling g' mk a) rfl rfl q.2.2.2.2.2⟩
def x_iret (Q : qR) : qK := fun _ st w => match st with
  | [.inl z] => Q (some (.inl z)) w
  | _ => False
theorem s_iret {Q : qR} (X : q_X p R s m args meth c cc nL nW fr lo own (some .int) dC dI k g A) (hd : decode cc pc = .ok (.ireturn, 1)) : q_Sd p l e R s m args below meth c nL nW dC dI k g A (MQ below (q_post (dC, dI) k g nW Q A) args s 0 0 A) (pc) (x_iret Q) := by
  intro H locs ls lv st w h hP hW hS hl okl oks okw
  obtain ⟨hx, hb, hml, hown, hts, hK, hA, hE, hfr, hlo, hlk, hret, hDg⟩ := X
  unfold x_iret at h
  split at h
  · rename_i z
    exact W.iret hx hb hret (fun t ht hWm => ⟨⟨some (.inl z), w, rfl, h, hW, fun v hv => (by cases hv; exact q_oks_h oks), okw, by rw [ht]; exact hP⟩, hS.F ht⟩) hS.2.2 hd hlk
  · exact h.elim
def x_zret (Q : qR) : qK := fun _ st w => match st with
  | [.inl z] => (z = 0 ∨ z = 1) ∧ Q (some (.inl z)) w
  | _ => False
theorem s_zret {Q : qR} (X : q_X p R s m args meth c cc nL nW fr lo own (some .boolean) dC dI k g A) (hd : decode cc pc = .ok (.ireturn, 1)) : q_Sd p l e R s m args below meth c nL nW dC dI k g A (MQ below (q_post (dC, dI) k g nW Q A) args s 0 0 A) (pc) (x_zret Q) := by
  intro H locs ls lv st w h hP hW hS hl okl oks okw
  obtain ⟨hx, hb, hml, hown, hts, hK, hA, hE, hfr, hlo, hlk, hret, hDg⟩ := X
  unfold x_zret at h
  split at h
  · rename_i z
    exact W.zret hx hb hret (by rcases h.1 with e0 | e0 <;> subst e0 <;> rfl) (fun t ht hWm => ⟨⟨some (.inl z), w, rfl, h.2, hW, fun v hv => (by cases hv; exact q_oks_h oks), okw, by rw [ht]; exact hP⟩, hS.F ht⟩) hS.2.2 hd hlk
  · exact h.elim
def x_lret (Q : qR) : qK := fun _ st w => match st with
  | [.inr (.inl z)] => Q (some (.inr (.inl z))) w
  | _ => False
theorem s_lret {Q : qR} (X : q_X p R s m args meth c cc nL nW fr lo own (some .long) dC dI k g A) (hd : decode cc pc = .ok (.lreturn, 1)) : q_Sd p l e R s m args below meth c nL nW dC dI k g A (MQ below (q_post (dC, dI) k g nW Q A) args s 0 0 A) (pc) (x_lret Q) := by
  intro H locs ls lv st w h hP hW hS hl okl oks okw
  obtain ⟨hx, hb, hml, hown, hts, hK, hA, hE, hfr, hlo, hlk, hret, hDg⟩ := X
  unfold x_lret at h
  split at h
  · rename_i z
    exact W.lret hx hb hret (fun t ht hWm => ⟨⟨some (.inr (.inl z)), w, rfl, h, hW, fun v hv => (by cases hv; exact q_oks_h oks), okw, by rw [ht]; exact hP⟩, hS.F ht⟩) hS.2.2 hd hlk
  · exact h.elim
def x_aret (Q : qR) : qK := fun _ st w => match st with
  | [.inr (.inr z)] => Q (some (.inr (.inr z))) w
  | _ => False
theorem s_aret {Q : qR} {C : String} (X : q_X p R s m args meth c cc nL nW fr lo own (some (.object C)) dC dI k g A) (hd : decode cc pc = .ok (.areturn, 1)) : q_Sd p l e R s m args below meth c nL nW dC dI k g A (MQ below (q_post (dC, dI) k g nW Q A) args s 0 0 A) (pc) (x_aret Q) := by
  intro H locs ls lv st w h hP hW hS hl okl oks okw
  obtain ⟨hx, hb, hml, hown, hts, hK, hA, hE, hfr, hlo, hlk, hret, hDg⟩ := X
  unfold x_aret at h
  split at h
  · rename_i z
    exact W.aret hx hb hret (Or.inl ⟨_, rfl⟩) (by cases z; exact Or.inl rfl; exact Or.inr ⟨_, rfl⟩) (fun t ht hWm => ⟨⟨some (.inr (.inr z)), w, rfl, h, hW, fun v hv => (by cases hv; exact q_oks_h oks), okw, by rw [ht]; exact hP⟩, hS.F ht⟩) hS.2.2 hd hlk
  · exact h.elim
def x_vret (Q : qR) : qK := fun _ st w => match st with
  | [] => Q none w
  | _ => False
theorem s_vret {Q : qR} (X : q_X p R s m args meth c cc nL nW fr lo own none dC dI k g A) (hd : decode cc pc = .ok (.return_, 1)) : q_Sd p l e R s m args below meth c nL nW dC dI k g A (MQ below (q_post (dC, dI) k g nW Q A) args s 0 0 A) (pc) (x_vret Q) := by
  intro H locs ls lv st w h hP hW hS hl okl oks okw
  obtain ⟨hx, hb, hml, hown, hts, hK, hA, hE, hfr, hlo, hlk, hret, hDg⟩ := X
  unfold x_vret at h
  split at h
  · exact W.vret hx hb hret (fun t ht hWm => ⟨⟨none, w, rfl, h, hW, fun v hv => (by cases hv), okw, by rw [ht]; exact hP⟩, hS.F ht⟩) hS.2.2 hd hlk
  · exact h.elim
def q_pk (lv : qL) : List Nat → Option (List qV)
  | [] => some []
  | i :: is => match q_get lv i with
    | some v => match q_pk lv is with
      | some vs => some (v :: vs)
      | none => none
    | none => none
theorem q_pk_mem {lv : qL} : ∀ {is : List Nat} {vs : List qV}, q_pk lv is = some vs → ∀ q ∈ is.zip vs, q ∈ lv := by
  intro is
  induction is with
  | nil => intro vs h q hq; cases hq
  | cons i is ih =>
    intro vs h q hq
    unfold q_pk at h
    split at h
    · rename_i v hv
      split at h
      · rename_i us hu
        cases h
        rcases List.mem_cons.mp hq with h1 | h1
        · rw [h1]; exact q_get_mem hv
        · exact ih hu q h1
      · cases h
    · cases h
theorem q_pk_oks {lv : qL} (hok : q_okl lv) : ∀ {is : List Nat} {vs : List qV}, q_pk lv is = some vs → q_oks vs := by
  intro is
  induction is with
  | nil => intro vs h q hq; cases h; cases hq
  | cons i is ih =>
    intro vs h q hq
    unfold q_pk at h
    split at h
    · rename_i v hv
      split at h
      · rename_i us hu
        cases h
        rcases List.mem_cons.mp hq with h1 | h1
        · rw [h1]; exact q_get_ok hok hv
        · exact ih hu q h1
      · cases h
    · cases h
def x_cut (is : List Nat) (J : List qV → List qV → qW → Prop) : qK := fun lv st w => match q_pk lv is with
  | some vs => J vs st w
  | none => False
theorem s_mono (h : q_Sd p l e R s m args below meth c nL nW dC dI k g A Qf (pc) (K1)) (hm : ∀ lv st w, K2 lv st w → K1 lv st w) : q_Sd p l e R s m args below meth c nL nW dC dI k g A Qf (pc) (K2) := fun H locs ls lv st w h2 => h H locs ls lv st w (hm lv st w h2)
theorem x_cut_mono {is : List Nat} {J1 J2 : List qV → List qV → qW → Prop} (hJ : ∀ vs st w, J2 vs st w → J1 vs st w) : ∀ lv st w, x_cut is J2 lv st w → x_cut is J1 lv st w := by
  intro lv st w h
  unfold x_cut at h ⊢
  split at h
  · rename_i vs hv
    exact hJ _ _ _ h
  · exact h.elim
theorem q_loop {is : Nat → List Nat} (Inv : Nat → List qV → List qV → qW → Prop) (mu : Nat → List qV → List qV → qW → Nat) (blk : Nat → (Nat → List qV → List qV → qW → Prop) → qK)
    (hs : ∀ (d : Nat) (J : Nat → List qV → List qV → qW → Prop), (∀ d' : Nat, q_Sd p l e R s m args below meth c nL nW dC dI k g A Qf (d') (x_cut (is d') (J d'))) → q_Sd p l e R s m args below meth c nL nW dC dI k g A Qf (d) (blk d J))
    (hv : ∀ (d : Nat) (vs st : List qV) (w : qW), Inv d vs st w → q_oks vs → q_oks st → q_okw w → w.length = nW → blk d (fun d' vs' st' w' => Inv d' vs' st' w' ∧ mu d' vs' st' w' < mu d vs st w) ((is d).zip vs) st w) : ∀ d : Nat, q_Sd p l e R s m args below meth c nL nW dC dI k g A Qf (d) (x_cut (is d) (Inv d)) := by
  have key : ∀ (n d : Nat), q_Sd p l e R s m args below meth c nL nW dC dI k g A Qf (d) (x_cut (is d) (fun vs st w => Inv d vs st w ∧ mu d vs st w < n)) := by
    intro n
    induction n with
    | zero =>
      intro d H locs ls lv st w h
      unfold x_cut at h
      split at h
      · exact absurd h.2 (Nat.not_lt_zero _)
      · exact h.elim
    | succ n ih =>
      intro d H locs ls lv st w h hP hW hS hl okl oks okw
      unfold x_cut at h
      split at h
      · rename_i vs hvs
        have h9 := hs d (fun d' vs' st' w' => Inv d' vs' st' w' ∧ mu d' vs' st' w' < mu d vs st w) (fun d' => s_mono (ih d') (x_cut_mono (fun vs' st' w' h' => ⟨h'.1, Nat.lt_of_lt_of_le h'.2 (Nat.le_of_lt_succ h.2)⟩)))
        exact h9 H locs ls _ st w (hv d vs st w h.1 (q_pk_oks okl hvs) oks okw hW) hP hW hS ⟨hl.1, hl.2.1, fun q hq => by
          obtain ⟨x, hx, rfl⟩ := List.mem_map.mp hq
          exact hl.2.2 _ (List.mem_map.mpr ⟨x, q_pk_mem hvs x hx, rfl⟩)⟩ (fun q hq => okl q (q_pk_mem hvs q hq)) oks okw
      · exact h.elim
  intro d H locs ls lv st w h
  have h2 : x_cut (is d) (fun vs st w => Inv d vs st w ∧ mu d vs st w < (match q_pk lv (is d) with | some vs => mu d vs st w | none => 0) + 1) lv st w := by
    unfold x_cut at h ⊢
    split at h
    · rename_i vs hvs
      exact ⟨h, Nat.lt_succ_self _⟩
    · exact h.elim
  refine key ((match q_pk lv (is d) with | some vs => mu d vs st w | none => 0) + 1) d H locs ls lv st w ?_
  unfold x_cut at h2 ⊢
  split at h2
  · exact h2
  · exact h2.elim
theorem q_catsum (g : Nat → Nat) (vs : List qV) : (lg_sl (vs.map (q_v g))).length = (vs.map q_cat).sum := by
  induction vs with
  | nil => rfl
  | cons v vs ih =>
    have e : lg_sl ((v :: vs).map (q_v g)) = lg_sl [q_v g v] ++ lg_sl (vs.map (q_v g)) := by unfold lg_sl; rw [List.map_cons, List.flatMap_cons, List.flatMap_cons, List.flatMap_nil, List.append_nil]
    rw [e, List.length_append, ih, List.map_cons, List.sum_cons]
    congr 1
    rcases v with z | z | r
    · rfl
    · rfl
    · cases r <;> rfl
theorem q_meth {y : MethodName} {sp : qS} (hy : plainName y.cls = true) (hca : ∀ av w Q, sp av w Q → (av.map q_cat).sum ≤ nL)
    (body : ∀ (p : Program) (e : Env) (R : Room) (s : State) (m : MethodId) (args : Array Value) (below : List Frame) (meth : Method) (c : Code) (dC : Nat → ClassId) (dI : Nat → Nat → Nat) (k : Nat → ClassId) (g : Nat → Nat) (A : Nat → Prop) (av : List qV) (w : qW) (Q : qR), sp av w Q → q_oks av → q_okw w → q_X p R s m args meth c cc nL w.length fr lo y.cls ret dC dI k g A →
      q_Sd p l e R s m args below meth c nL w.length dC dI k g A (MQ below (q_post (dC, dI) k g w.length Q A) args s 0 0 A) 0 (fun lv st w' => lv = q_ar 0 av ∧ st = [] ∧ w' = w)) : q_M l y cc nL ret fr lo sp := by
  intro dC dI k g av w Q sz hsp oka okw
  refine Met.ofW (cc := cc) (maxL := nL) (ret := ret) hy rfl ?_
  intro p e s m args below meth c s₁ B hml hv
  obtain ⟨rfl, hsz, hP, hK, hD0, hE⟩ := hv
  subst hsz
  have hts := atoms_spec (ws := .code y cc nL ret :: TB) B.pre
  have hlen := q_catsum g av
  have X : q_X p (q_rm fr lo) s m ((av.map (q_v g)).toArray) meth c cc nL w.length fr lo y.cls ret dC dI k g (va_A (q_w k g w) s.heap.size) :=
    ⟨B.exec, B.bytes, hml, findClass_of_methodNamed B.named, fun w' h' => hts w' (List.mem_cons_of_mem _ h'), hK, fun q h' => Or.inr h', hE, Nat.le_refl _, Nat.le_refl _, B.notSynchronized, B.returns, hD0.1, fun i hi => Or.inl ⟨i, _, q_w_at (List.getElem?_eq_getElem hi)⟩⟩
  rw [lg_entry_eq]
  have hl := lv_entry (av.map (q_v g)) (n := nL) (by rw [hlen]; exact hca av w Q hsp)
  rw [q_ar_lv] at hl
  exact body p e _ s m _ below meth c dC dI k g _ av w Q hsp oka okw X s.heap [] _ (q_ar 0 av) [] w ⟨rfl, rfl, rfl⟩ hP rfl va_S.rf hl (q_ar_ok oka 0) (fun v hv => by cases hv) okw
def q_rn (pos : List Nat) (i : Nat) : Nat := match pos[i]? with
  | some p => p
  | none => i
def q_rv (pos : List Nat) (v : qV) : qV := match v with
  | .inl z => .inl z
  | .inr (.inl z) => .inr (.inl z)
  | .inr (.inr none) => .inr (.inr none)
  | .inr (.inr (some i)) => .inr (.inr (some (q_rn pos i)))
def q_rc (pos : List Nat) (x : qC) : qC := match x with
  | .inl (t, n, .inl f) => .inl (t, n, .inl f)
  | .inl (t, n, .inr (.inl f)) => .inl (t, n, .inr (.inl f))
  | .inl (t, n, .inr (.inr f)) => .inl (t, n, .inr (.inr (f.map (Option.map (q_rn pos)))))
  | .inr (ci, vs) => .inr (ci, vs.map (q_rv pos))
def q_bw (pos : List Nat) : qW → List Nat → qW → qW
  | w, p :: ps, x :: xs => q_bw pos (w.set p (q_rc pos x)) ps xs
  | w, _, _ => w
def q_pu (pos : List Nat) (r : Option qV) (st : List qV) : List qV := match r with
  | some v => q_rv pos v :: st
  | none => st
def x_call (vc : Option Nat) (np : Nat) (sp : qS) (K : qK) : qK := fun lv st w => ∃ (pos : List Nat) (av : List qV) (w0 : qW), st.take np = (av.map (q_rv pos)).reverse ∧ (pos.take w0.length).map (fun i => w[i]?) = w0.map (fun x => some (q_rc pos x)) ∧ (va_nd (pos.take w0.length) && (Nat.blt pos.length 1000 && (Nat.ble np st.length && Nat.ble ((st.drop np).map q_cat).sum 8))) = true ∧ (match vc with
    | some ci => (∃ vs, w0[0]? = some (.inr (ci, vs))) ∧ av.head? = some (.inr (.inr (some 0)))
    | none => True) ∧ sp av w0 (fun r w1 => K lv (q_pu pos r (st.drop np)) (q_bw pos w (pos.take w0.length) w1))
theorem q_rv_v (pos : List Nat) (v : qV) : q_v g (q_rv pos v) = q_v (fun i => g (q_rn pos i)) v := by
  rcases v with z | z | r
  · rfl
  · rfl
  · cases r <;> rfl
theorem q_rc_c (pos : List Nat) (x : qC) : q_c k g (q_rc pos x) = q_c k (fun i => g (q_rn pos i)) x := by
  rcases x with ⟨t, n, f | f | f⟩ | ⟨ci, vs⟩
  · rfl
  · rfl
  · have e0 : (fun i => ((f.map (Option.map (q_rn pos))).getD i none).map g) = (fun i => (f.getD i none).map (fun i => g (q_rn pos i))) := by
      funext i
      rw [List.getD_eq_getElem?_getD, List.getD_eq_getElem?_getD, List.getElem?_map]
      cases f[i]? with
      | none => rfl
      | some o => cases o <;> rfl
    show Sum.inl (k t, n, Sum.inr (Sum.inr (Sum.inr (Sum.inr (fun i => ((f.map (Option.map (q_rn pos))).getD i none).map g))))) = Sum.inl (k t, n, Sum.inr (Sum.inr (Sum.inr (Sum.inr (fun i => (f.getD i none).map (fun i => g (q_rn pos i)))))))
    rw [e0]
  · show Sum.inr (ci, (vs.map (q_rv pos)).map (q_v g)) = Sum.inr (ci, vs.map (q_v (fun i => g (q_rn pos i))))
    rw [List.map_map]
    congr 2
    apply List.map_congr_left
    intro v _
    exact q_rv_v pos v
theorem q_rv_ok {pos : List Nat} {v : qV} : q_ok (q_rv pos v) ↔ q_ok v := by
  rcases v with z | z | r
  · exact Iff.rfl
  · exact Iff.rfl
  · cases r <;> exact Iff.rfl
theorem q_rc_ok {pos : List Nat} {x : qC} : q_okc (q_rc pos x) ↔ q_okc x := by
  rcases x with ⟨t, n, f | f | f⟩ | ⟨ci, vs⟩
  · exact Iff.rfl
  · exact Iff.rfl
  · exact Iff.rfl
  · constructor
    · intro h v hv
      exact q_rv_ok.mp (h _ (List.mem_map.mpr ⟨v, hv, rfl⟩))
    · intro h v hv
      obtain ⟨u, hu, rfl⟩ := List.mem_map.mp hv
      exact q_rv_ok.mpr (h u hu)
theorem q_bw_len {pos : List Nat} : ∀ (ps : List Nat) (w w1 : qW), (q_bw pos w ps w1).length = w.length := by
  intro ps
  induction ps with
  | nil => intro w w1; cases w1 <;> rfl
  | cons p ps ih =>
    intro w w1
    cases w1 with
    | nil => rfl
    | cons x xs => show (q_bw pos (w.set p (q_rc pos x)) ps xs).length = _; rw [ih, List.length_set]
theorem q_bw_ok {pos : List Nat} : ∀ (ps : List Nat) (w w1 : qW), q_okw w → q_okw w1 → q_okw (q_bw pos w ps w1) := by
  intro ps
  induction ps with
  | nil => intro w w1 h _; cases w1 <;> exact h
  | cons p ps ih =>
    intro w w1 h h1
    cases w1 with
    | nil => exact h
    | cons x xs => exact ih _ _ (q_okw_set h (q_rc_ok.mpr (h1 x List.mem_cons_self))) (fun y hy => h1 y (List.mem_cons_of_mem _ hy))
theorem q_bw_at {pos : List Nat} {P : Nat → qC → Prop} : ∀ (ps : List Nat) (w w1 : qW), (∀ (j p : Nat) (x : qC), ps[j]? = some p → w1[j]? = some x → P p (q_rc pos x)) → (∀ (i : Nat) (x : qC), w[i]? = some x → i ∉ ps → P i x) → ps.length = w1.length → ∀ (i : Nat) (x : qC), (q_bw pos w ps w1)[i]? = some x → P i x := by
  intro ps
  induction ps with
  | nil => intro w w1 _ h _ i x hx; exact h i x (by cases w1 <;> exact hx) (by simp)
  | cons p ps ih =>
    intro w w1 h1 h2 hlen i x hx
    cases w1 with
    | nil => simp at hlen
    | cons y ys =>
      refine ih (w.set p (q_rc pos y)) ys (fun j q z hq hz => h1 (j + 1) q z (by simpa using hq) (by simpa using hz)) (fun i2 z hz hn => ?_) (by simpa using hlen) i x hx
      rw [List.getElem?_set] at hz
      by_cases hp : p = i2
      · rw [if_pos hp] at hz
        split at hz
        · cases hz
          rw [← hp]
          exact h1 0 p y rfl rfl
        · cases hz
      · rw [if_neg hp] at hz
        exact h2 i2 z hz (fun hm => (List.mem_cons.mp hm).elim (fun e => hp e.symm) hn)
theorem q_tk {pos : List Nat} {n j i : Nat} (h : (pos.take n)[j]? = some i) : pos[j]? = some i := by
  rw [List.getElem?_take] at h
  split at h
  · exact h
  · cases h
theorem q_sub_at {pos ps : List Nat} {w w0 : qW} (h : ps.map (fun i => w[i]?) = w0.map (fun x => some (q_rc pos x))) {j : Nat} {x : qC} (hx : w0[j]? = some x) : ∃ i : Nat, ps[j]? = some i ∧ w[i]? = some (q_rc pos x) := by
  have h1 : (ps.map (fun i => w[i]?))[j]? = some (some (q_rc pos x)) := by rw [h, List.getElem?_map, hx]; rfl
  rw [List.getElem?_map] at h1
  cases hi : ps[j]? with
  | none => rw [hi] at h1; cases h1
  | some i => rw [hi] at h1; exact ⟨i, rfl, Option.some.inj h1⟩
theorem q_rn_at {pos : List Nat} {j i : Nat} (h : pos[j]? = some i) : q_rn pos j = i := by unfold q_rn; rw [h]
theorem q_hC {pos ps : List Nat} {w w0 : qW} (hps : ∀ j i : Nat, ps[j]? = some i → pos[j]? = some i) (h : ps.map (fun i => w[i]?) = w0.map (fun x => some (q_rc pos x))) : ps.map (fun i => (q_w k g w)[i]?) = (q_w k (fun i => g (q_rn pos i)) w0).map some := by
  have hlen : ps.length = w0.length := by have := congrArg List.length h; simpa using this
  apply List.ext_getElem?
  intro j
  rw [List.getElem?_map, List.getElem?_map]
  cases hw : w0[j]? with
  | none =>
    have h1 : w0.length ≤ j := List.getElem?_eq_none_iff.mp hw
    rw [List.getElem?_eq_none (by omega : ps.length ≤ j), List.getElem?_eq_none (by rw [q_w_len]; exact h1)]
    rfl
  | some x =>
    obtain ⟨i, hi, hx⟩ := q_sub_at h hw
    rw [hi, q_w_at hw]
    show some ((q_w k g w)[i]?) = some (some _)
    rw [q_w_at hx, q_rc_c, q_rn_at (hps _ _ hi)]
theorem q_callx {n : Nat} {g' : Nat → Nat} {Q' : qR} {A1 : Nat → Prop} {a : Array Value} {H : Heap} {locs : List Loc} {ls : Array Slot} {rest st0 : List Value} (hr : va_Run p l e R s m args below meth c H locs 0 0 0 0 (F0 m pc ls st0) rest (q_post (dC, dI) k g' n Q' A1 a) A1) (hS : va_S A s.heap H locs) (hA1 : ∀ q, A1 q → A q)
    (kk : ∀ (r : Option qV) (w1 : qW) (H1 : Heap) (locs1 : List Loc), Q' r w1 → w1.length = n → (∀ v, r = some v → q_ok v) → q_okw w1 → va_P (dC, dI) vwCl (q_w k g' w1) H1 → (∀ q : Nat, q < H.size → ¬ A1 q → H1[q]? = H[q]?) → va_S A s.heap H1 locs1 → W p l e R s m args below meth c H1 locs1 0 0 Qf (F0 m (pc + 3) ls ((r.map (q_v g')).toList ++ rest))) : W p l e R s m args below meth c H locs 0 0 Qf (F0 m pc ls st0) := by
  intro T hT X
  obtain ⟨v, st₀, t, T', L, h0, X', hL, e1, e2, ⟨⟨r, w1, hv, hq, hlen, hok, hokw, hP1⟩, hz, hk⟩, st⟩ := hr T hT X
  cases hv
  rw [h0] at hz hk
  obtain ⟨t2, a1, b1⟩ := kk r w1 T'.heap (locs ++ L) hq hlen hok hokw (by rw [e1]; exact hP1) (fun q h1 h2 => by rw [e1]; exact hk q h1 h2)
    ⟨Nat.le_trans hS.1 (by rw [e1]; exact hz), fun q h1 h2 => by rw [e1, hk q (Nat.lt_of_lt_of_le h1 hS.1) (fun z => h2 (hA1 q z))]; exact hS.2.1 q h1 h2, fun q hq => by
      rcases List.mem_append.mp hq with h | h
      · exact hS.2.2 q h
      · exact hA1 _ (hL q h)⟩ T' rfl X'
  exact ⟨t2, st t2 a1, b1⟩
theorem q_core {vc : Option Nat} {np : Nat} {sp : qS} {y : MethodName} {cy : ByteArray} {nLy fy ly : Nat} {rety : Option FieldType} (X : q_X p R s m args meth c cc nL nW fr lo own ret dC dI k g A) (hM : q_M l y cy nLy rety fy ly sp) {H : Heap} {locs : List Loc} {ls : Array Slot} {lv : qL} {st : List qV} {w : qW} (h : x_call vc np sp K lv st w) (hP : va_P (dC, dI) vwCl (q_w k g w) H) (hW : w.length = nW) (hS : va_S A s.heap H locs) (hl : lv_has ls nL (q_lv g lv)) (okl : q_okl lv) (oks : q_oks st) (okw : q_okw w) (hk : q_Sd p l e R s m args below meth c nL nW dC dI k g A Qf (pc + 3) (K))
    (run : ∀ (pos : List Nat) (av : List qV) (w0 : qW) (Pc : Array Value → State → Prop) (Qc : Array Value → State → Outcome → State → Prop) (fre : Nat → Prop), st.map (q_v g) = (av.map (q_v (fun i => g (q_rn pos i)))).reverse ++ (st.drop np).map (q_v g) → av.length = np → (((st.drop np).map (q_v g)).map fun v => v.category).sum ≤ 8 → Met l y (.code y cy nLy rety :: TB) (q_rm fy ly) Pc Qc 0 0 fre → FrameBlind Pc → (∀ U : State, U.heap = H → s.WarmedH U.vm → Pc (av.map (q_v (fun i => g (q_rn pos i)))).toArray U) → va_P (dC, dI) vwCl (q_w k (fun i => g (q_rn pos i)) w0) H → (match vc with
        | some ci => (∃ vs, w0[0]? = some (.inr (ci, vs))) ∧ av.head? = some (.inr (.inr (some 0)))
        | none => True) → va_Run p l e R s m args below meth c H locs 0 0 0 0 (F0 m pc ls (st.map (q_v g))) ((st.drop np).map (q_v g)) (Qc (av.map (q_v (fun i => g (q_rn pos i)))).toArray) fre) : W p l e R s m args below meth c H locs 0 0 Qf (F0 m pc ls (st.map (q_v g))) := by
  obtain ⟨hx, hb, hml, hown, hts, hK, hA, hE, hfr, hlo, hlk, hret, hDg⟩ := X
  obtain ⟨pos, av, w0, hst, hpw, hb9, hvc, hsp⟩ := h
  simp only [Bool.and_eq_true] at hb9
  obtain ⟨hnd, hp1, hnp, hsum⟩ := hb9
  have hp1 : pos.length < 1000 := Nat.le_of_ble_eq_true hp1
  have hnp := Nat.le_of_ble_eq_true hnp
  have hsum := Nat.le_of_ble_eq_true hsum
  have hC := q_hC (k := k) (g := g) (fun j i h => q_tk h) hpw
  have hplen : (pos.take w0.length).length = w0.length := by have := congrArg List.length hpw; simpa using this
  have hPc : va_P (dC, dI) vwCl (q_w k (fun i => g (q_rn pos i)) w0) H := by
    intro j q hj
    obtain ⟨x, hx0, rfl⟩ := q_w_of hj
    obtain ⟨i, hi, hxi⟩ := q_sub_at hpw hx0
    have h1 := hP i _ (q_w_at hxi)
    rw [q_rc_c] at h1
    rw [q_rn_at (q_tk hi)]
    exact h1
  have hFc := va_free (wc := q_w k (fun i => g (q_rn pos i)) w0) (q_D_va (by rw [hW]; exact hDg)) hS hA (pos.take w0.length) hC
  have hin : ∀ j i : Nat, (pos.take w0.length)[j]? = some i → i < nW := by
    intro j i hi
    have hj : j < w0.length := by rw [← hplen]; exact (List.getElem?_eq_some_iff.mp hi).1
    obtain ⟨i2, hi2, hx2⟩ := q_sub_at hpw (List.getElem?_eq_getElem hj)
    rw [hi] at hi2
    cases hi2
    rw [← hW]
    exact (List.getElem?_eq_some_iff.mp hx2).1
  have hD0 : q_D (fun _ => True) (fun i => g (q_rn pos i)) w0.length := by
    refine ⟨fun i j hi hj he => ?_, fun _ _ => trivial⟩
    have e1 : (pos.take w0.length)[i]? = some ((pos.take w0.length)[i]'(by omega)) := List.getElem?_eq_getElem (by omega)
    have e2 : (pos.take w0.length)[j]? = some ((pos.take w0.length)[j]'(by omega)) := List.getElem?_eq_getElem (by omega)
    simp only [q_rn_at (q_tk e1), q_rn_at (q_tk e2)] at he
    have e3 := hDg.1 _ _ (hin _ _ e1) (hin _ _ e2) he
    exact va_nd_inj _ hnd i j _ e1 (by rw [e3]; exact e2)
  have oka : q_oks av := by
    intro v hv
    have h1 : q_rv pos v ∈ st.take np := by rw [hst]; exact List.mem_reverse.mpr (List.mem_map.mpr ⟨v, hv, rfl⟩)
    exact q_rv_ok.mp (oks _ (List.mem_of_mem_take h1))
  have okw0 : q_okw w0 := by
    intro x hx0
    obtain ⟨j, hj⟩ := List.getElem?_of_mem hx0
    obtain ⟨i, -, hxi⟩ := q_sub_at hpw hj
    exact q_rc_ok.mp (q_okw_at okw hxi)
  have hMet := hM dC dI k (fun i => g (q_rn pos i)) av w0 _ H.size hsp oka okw0
  have hE' : ∀ U : State, U.heap = H → s.WarmedH U.vm → qE (fun i => g (q_rn pos i)) (va_A (q_w k (fun i => g (q_rn pos i)) w0) H.size) U := by
    intro U hU hWm
    refine qE_g (g := g) (fun i hi => ?_) (qE_go hE hS hFc hU hWm)
    have : pos[i]? = none := List.getElem?_eq_none (by omega)
    show g (q_rn pos i) = g i
    unfold q_rn; rw [this]
  have hav : av.length = np := by
    have h1 := congrArg List.length hst
    rw [List.length_reverse, List.length_map, List.length_take] at h1
    omega
  have hstm : st.map (q_v g) = (av.map (q_v (fun i => g (q_rn pos i)))).reverse ++ (st.drop np).map (q_v g) := by
    have h1 : st = (av.map (q_rv pos)).reverse ++ st.drop np := by rw [← hst]; exact (List.take_append_drop np st).symm
    have h2 := congrArg (List.map (q_v g)) h1
    rw [List.map_append, List.map_reverse, List.map_map] at h2
    rw [h2]
    congr 2
    apply List.map_congr_left
    intro v _
    exact q_rv_v pos v
  have hcs : (((st.drop np).map (q_v g)).map fun v => v.category).sum ≤ 8 := by
    have e : ((st.drop np).map (q_v g)).map (fun v => v.category) = (st.drop np).map q_cat := by
      rw [List.map_map]
      apply List.map_congr_left
      intro v _
      rcases v with z | z | r
      · rfl
      · rfl
      · cases r <;> rfl
    rw [e]; exact hsum
  refine q_callx (run pos av w0 _ _ _ hstm hav hcs hMet q_pre_blind (fun U hU hWm => ⟨rfl, by rw [hU], by rw [hU]; exact hPc, va_K.moved hWm.alike hK, hD0, hE' U hU hWm⟩) hPc hvc) hS hFc (fun r w1 H1 locs1 hq hlen hok hokw hP1 hfr1 hS1 => ?_)
  have hP2 : va_P (dC, dI) vwCl (q_w k g (q_bw pos w (pos.take w0.length) w1)) H1 := by
    intro i q hi
    obtain ⟨x, hx0, rfl⟩ := q_w_of hi
    refine q_bw_at (P := fun i x => va_at (dC, dI) vwCl (g i, q_c k g x) H1) (pos.take w0.length) w w1 (fun j p x hp hx1 => ?_) (fun i2 x2 hx2 hn => ?_) (by omega) i x hx0
    · have h1 := hP1 j _ (q_w_at hx1)
      rw [q_rn_at (q_tk hp)] at h1
      rw [q_rc_c]
      exact h1
    · have h1 := hP i2 _ (q_w_at hx2)
      refine h1.kept (hfr1 _ h1.lt ?_)
      rintro (⟨j, e0, he0⟩ | hsz)
      · obtain ⟨y0, hy0, he1⟩ := q_w_of he0
        obtain ⟨i3, hi3, hx3⟩ := q_sub_at hpw hy0
        have e9 : g i2 = g i3 := by
          have := congrArg Prod.fst he1
          simp only at this
          rw [this, q_rn_at (q_tk hi3)]
        have := hDg.1 i2 i3 (by rw [← hW]; exact (List.getElem?_eq_some_iff.mp hx2).1) (hin _ _ hi3) e9
        exact hn (by rw [this]; exact List.mem_of_getElem? hi3)
      · exact absurd h1.lt (Nat.not_lt.mpr hsz)
  have e8 : (r.map (q_v (fun i => g (q_rn pos i)))).toList ++ (st.drop np).map (q_v g) = (q_pu pos r (st.drop np)).map (q_v g) := by
    cases r with
    | none => rfl
    | some v => show _ :: _ = q_v g (q_rv pos v) :: _; rw [q_rv_v]; rfl
  rw [e8]
  refine hk H1 locs1 ls lv _ _ hq hP2 (by rw [q_bw_len]; exact hW) hS1 hl okl ?_ (q_bw_ok _ w w1 okw hokw)
  have okd : q_oks (st.drop np) := fun v hv => oks v (List.mem_of_mem_drop hv)
  cases r with
  | none => exact okd
  | some v => exact q_oks_c (q_rv_ok.mpr (hok v rfl)) okd
theorem q_gin {y : MethodName} {cy : ByteArray} {nLy : Nat} {rety : Option FieldType} (hc : Cond.code y cy nLy rety ∈ TB) (ws : List Cond) (h : ∀ w ∈ ws, w ∈ TB) : GoodIn TB (ws ++ (Cond.code y cy nLy rety :: TB)) := by
  intro w hw
  have hm : w ∈ TB := by
    rcases List.mem_append.mp hw with h1 | h1
    · exact h w h1
    · rcases List.mem_cons.mp h1 with h2 | h2
      · rw [h2]; exact hc
      · exact h2
  exact ⟨hm, TB_ok hm⟩
theorem s_callV {ci : Nat} {np index : Nat} {sp : qS} {y : MethodName} {cy : ByteArray} {nLy fy ly N : Nat} {T : u_T} {rety : Option FieldType} (X : q_X p R s m args meth c cc nL nW fr lo own ret dC dI k g A) (hM : q_M l y cy nLy rety fy ly sp) (h1 : Cond.methodLink own index y ∈ TB) (h2 : Cond.instanceMethod y ∈ TB) (h3 : Cond.selects y.cls y y ∈ TB) (h4 : Cond.initialized y.cls ∈ TB) (h5 : Cond.code y cy nLy rety ∈ TB) (hcl : vwCl[ci]? = some (y.cls, T, N)) (hdd : y.cls = y.cls ∧ y.cls ≠ "java/lang/invoke/MethodHandle" ∧ y.cls ≠ "java/lang/invoke/VarHandle" ∧ (parseMethodDescriptor y.desc).map (fun d => d.parameters.length + 1) = some np) (hroom : fy + 1 ≤ fr ∧ 8 + (nLy + 11) + ly ≤ lo) (hd : decode cc pc = .ok (.invokevirtual index, 3)) (hk : q_Sd p l e R s m args below meth c nL nW dC dI k g A Qf (pc + 3) (K)) : q_Sd p l e R s m args below meth c nL nW dC dI k g A Qf (pc) (x_call (some ci) np sp K) := by
  intro H locs ls lv st w h hP hW hS hl okl oks okw
  refine q_core X hM h hP hW hS hl okl oks okw hk ?_
  obtain ⟨hx, hb, hml, hown, hts, hK, hA, hE, hfr, hlo, hlk, hret, hDg⟩ := X
  intro pos av w0 Pc Qc fre hst hav hcs hMet hbl hpc hP0 hvc
  obtain ⟨⟨vs, hvs⟩, hhd⟩ := hvc
  cases av with
  | nil => cases hhd
  | cons v As =>
    cases hhd
    obtain ⟨hd1, hd2, hd3, hd4⟩ := hdd
    have hn : (parseMethodDescriptor y.desc).map (fun d => d.parameters.length) = some As.length := by
      cases hp : parseMethodDescriptor y.desc with
      | none => rw [hp] at hd4; cases hd4
      | some d => rw [hp] at hd4; simp only [Option.map_some, Option.some.injEq] at hd4 ⊢; simp only [List.length_cons] at hav; omega
    refine va_runV (Ts := TB) (own := own) (nL := nL) (As := As.map (q_v (fun i => g (q_rn pos i)))) (b := g (q_rn pos 0)) ⟨hx, hb, hml, hown, hts⟩ hMet (cwV As.length hts (q_gin h5 _ (by
      intro w' hw'
      simp only [List.mem_cons, List.not_mem_nil, or_false] at hw'
      rcases hw' with rfl | rfl | rfl | rfl
      · exact h1
      · exact h2
      · exact h3
      · exact h4)) rfl rfl rfl ⟨hd1, hd2, hd3, hn⟩ ⟨Nat.le_trans hroom.1 hfr, Nat.le_trans hroom.2 hlo⟩) ⟨hbl, va_recv hK hP0 hcl (q_w_at hvs), hpc⟩ rfl (by rw [List.length_map]) hl.1 ?_ (lv_room hcs) hd ⟨Nat.zero_le _, Nat.zero_le _⟩
    show st.map (q_v g) = _
    rw [hst, List.map_cons, List.reverse_cons, List.append_assoc]
    rfl
theorem s_callS {np index : Nat} {sp : qS} {y : MethodName} {cy : ByteArray} {nLy fy ly : Nat} {rety : Option FieldType} (X : q_X p R s m args meth c cc nL nW fr lo own ret dC dI k g A) (hM : q_M l y cy nLy rety fy ly sp) (h1 : Cond.methodLink own index y ∈ TB) (h2 : Cond.static y ∈ TB) (h4 : Cond.initialized y.cls ∈ TB) (h5 : Cond.code y cy nLy rety ∈ TB) (hdd : y.cls ≠ "java/lang/invoke/MethodHandle" ∧ y.cls ≠ "java/lang/invoke/VarHandle" ∧ (parseMethodDescriptor y.desc).map (fun d => d.parameters.length) = some np) (hroom : fy + 1 ≤ fr ∧ 8 + (nLy + 11) + ly ≤ lo) (hd : decode cc pc = .ok (.invokestatic index, 3)) (hk : q_Sd p l e R s m args below meth c nL nW dC dI k g A Qf (pc + 3) (K)) : q_Sd p l e R s m args below meth c nL nW dC dI k g A Qf (pc) (x_call none np sp K) := by
  intro H locs ls lv st w h hP hW hS hl okl oks okw
  refine q_core X hM h hP hW hS hl okl oks okw hk ?_
  obtain ⟨hx, hb, hml, hown, hts, hK, hA, hE, hfr, hlo, hlk, hret, hDg⟩ := X
  intro pos av w0 Pc Qc fre hst hav hcs hMet hbl hpc hP0 hvc
  obtain ⟨hd2, hd3, hd4⟩ := hdd
  refine va_runS (Ts := TB) (own := own) (nL := nL) (As := av.map (q_v (fun i => g (q_rn pos i)))) ⟨hx, hb, hml, hown, hts⟩ hMet (va_cwS np hts (q_gin h5 _ (by
      intro w' hw'
      simp only [List.mem_cons, List.not_mem_nil, or_false] at hw'
      rcases hw' with rfl | rfl | rfl
      · exact h1
      · exact h2
      · exact h4)) rfl rfl rfl ⟨hd2, hd3, hd4⟩ ⟨Nat.le_trans hroom.1 hfr, Nat.le_trans hroom.2 hlo⟩) ⟨hbl, hpc⟩ rfl (by rw [List.length_map]; exact hav) hl.1 ?_ (lv_room hcs) hd ⟨Nat.zero_le _, Nat.zero_le _⟩
  show st.map (q_v g) = _
  rw [hst]
def x_callr (vc : Option Nat) (np : Nat) (spr : List qV → qW → (Option qV → Prop) → Prop) (K : qK) : qK := fun lv st w => ∃ (pos : List Nat) (av : List qV) (w0 : qW), st.take np = (av.map (q_rv pos)).reverse ∧ (pos.take w0.length).map (fun i => w[i]?) = w0.map (fun x => some (q_rc pos x)) ∧ (va_nd (pos.take w0.length) && (Nat.blt pos.length 1000 && (Nat.ble np st.length && Nat.ble ((st.drop np).map q_cat).sum 8))) = true ∧ (match vc with
    | some ci => (∃ vs, w0[0]? = some (.inr (ci, vs))) ∧ av.head? = some (.inr (.inr (some 0)))
    | none => True) ∧ spr av w0 (fun r => K lv (q_pu pos r (st.drop np)) w)
theorem q_bw_same {pos : List Nat} : ∀ (ps : List Nat) (w w1 : qW), (∀ (j p : Nat) (x : qC), ps[j]? = some p → w1[j]? = some x → w[p]? = some (q_rc pos x)) → q_bw pos w ps w1 = w := by
  intro ps
  induction ps with
  | nil => intro w w1 _; cases w1 <;> rfl
  | cons p ps ih =>
    intro w w1 h
    cases w1 with
    | nil => rfl
    | cons x xs =>
      have e : w.set p (q_rc pos x) = w := by
        apply List.ext_getElem?
        intro j
        rw [List.getElem?_set]
        by_cases hp : p = j
        · subst hp
          have h0 := h 0 p x rfl rfl
          rw [if_pos rfl, if_pos (List.getElem?_eq_some_iff.mp h0).1, h0]
        · rw [if_neg hp]
      show q_bw pos (w.set p (q_rc pos x)) ps xs = w
      rw [e]
      exact ih w xs (fun j q y hq hy => h (j + 1) q y (by simpa using hq) (by simpa using hy))
theorem x_callr_of {vc : Option Nat} {np : Nat} {spr : List qV → qW → (Option qV → Prop) → Prop} : ∀ lv st w, x_callr vc np spr K lv st w → x_call vc np (fun av w Q => spr av w (fun r => Q r w)) K lv st w := by
  intro lv st w h
  obtain ⟨pos, av, w0, h1, h2, h3, h4, h5⟩ := h
  refine ⟨pos, av, w0, h1, h2, h3, h4, ?_⟩
  have e : q_bw pos w (pos.take w0.length) w0 = w := q_bw_same _ w w0 (fun j p x hp hx => by
    obtain ⟨i, hi, hxi⟩ := q_sub_at h2 hx
    rw [hp] at hi
    cases hi
    exact hxi)
  show spr av w0 (fun r => K lv (q_pu pos r (st.drop np)) (q_bw pos w (pos.take w0.length) w0))
  rw [e]
  exact h5
def q_nv (v : qV) (P : qV → Prop) : Prop := match v with
  | .inl z => P (.inl z)
  | .inr (.inl z) => P (.inr (.inl z))
  | .inr (.inr r) => P (.inr (.inr r))
def q_nvs : List qV → (List qV → Prop) → Prop
  | [], P => P []
  | v :: vs, P => q_nv v (fun v' => q_nvs vs (fun vs' => P (v' :: vs')))
def q_nc (x : qC) (P : qC → Prop) : Prop := match x with
  | .inl (t, n, .inl f) => P (.inl (t, n, .inl f))
  | .inl (t, n, .inr (.inl f)) => P (.inl (t, n, .inr (.inl f)))
  | .inl (t, n, .inr (.inr f)) => P (.inl (t, n, .inr (.inr f)))
  | .inr (ci, vs) => q_nvs vs (fun vs' => P (.inr (ci, vs')))
def q_nw : qW → (qW → Prop) → Prop
  | [], P => P []
  | x :: w, P => q_nc x (fun x' => q_nw w (fun w' => P (x' :: w')))
theorem q_nv_iff (v : qV) (P : qV → Prop) : q_nv v P ↔ P v := by
  rcases v with z | z | r
  · exact Iff.rfl
  · exact Iff.rfl
  · exact Iff.rfl
theorem q_nvs_iff : ∀ (vs : List qV) (P : List qV → Prop), q_nvs vs P ↔ P vs := by
  intro vs
  induction vs with
  | nil => intro P; exact Iff.rfl
  | cons v vs ih => intro P; unfold q_nvs; rw [q_nv_iff]; exact ih _
theorem q_nc_iff (x : qC) (P : qC → Prop) : q_nc x P ↔ P x := by
  rcases x with ⟨t, n, f | f | f⟩ | ⟨ci, vs⟩
  · exact Iff.rfl
  · exact Iff.rfl
  · exact Iff.rfl
  · exact q_nvs_iff vs _
theorem q_nw_iff : ∀ (w : qW) (P : qW → Prop), q_nw w P ↔ P w := by
  intro w
  induction w with
  | nil => intro P; exact Iff.rfl
  | cons x w ih => intro P; unfold q_nw; rw [q_nc_iff]; exact ih _
def x_nw (K : qK) : qK := fun lv st w => q_nw w (fun w' => K lv st w')
theorem s_nw (hk : q_Sd p l e R s m args below meth c nL nW dC dI k g A Qf (pc) (K)) : q_Sd p l e R s m args below meth c nL nW dC dI k g A Qf (pc) (x_nw K) := s_mono hk (fun lv st w h => (q_nw_iff w _).mp h)
theorem s_callVr {ci : Nat} {np index : Nat} {spr : List qV → qW → (Option qV → Prop) → Prop} {y : MethodName} {cy : ByteArray} {nLy fy ly N : Nat} {T : u_T} {rety : Option FieldType} (X : q_X p R s m args meth c cc nL nW fr lo own ret dC dI k g A) (hM : q_M l y cy nLy rety fy ly (fun av w Q => spr av w (fun r => Q r w))) (h1 : Cond.methodLink own index y ∈ TB) (h2 : Cond.instanceMethod y ∈ TB) (h3 : Cond.selects y.cls y y ∈ TB) (h4 : Cond.initialized y.cls ∈ TB) (h5 : Cond.code y cy nLy rety ∈ TB) (hcl : vwCl[ci]? = some (y.cls, T, N)) (hdd : y.cls = y.cls ∧ y.cls ≠ "java/lang/invoke/MethodHandle" ∧ y.cls ≠ "java/lang/invoke/VarHandle" ∧ (parseMethodDescriptor y.desc).map (fun d => d.parameters.length + 1) = some np) (hroom : fy + 1 ≤ fr ∧ 8 + (nLy + 11) + ly ≤ lo) (hd : decode cc pc = .ok (.invokevirtual index, 3)) (hk : q_Sd p l e R s m args below meth c nL nW dC dI k g A Qf (pc + 3) (K)) : q_Sd p l e R s m args below meth c nL nW dC dI k g A Qf (pc) (x_callr (some ci) np spr K) :=
  s_mono (s_callV X hM h1 h2 h3 h4 h5 hcl hdd hroom hd hk) x_callr_of
theorem s_callSr {np index : Nat} {spr : List qV → qW → (Option qV → Prop) → Prop} {y : MethodName} {cy : ByteArray} {nLy fy ly : Nat} {rety : Option FieldType} (X : q_X p R s m args meth c cc nL nW fr lo own ret dC dI k g A) (hM : q_M l y cy nLy rety fy ly (fun av w Q => spr av w (fun r => Q r w))) (h1 : Cond.methodLink own index y ∈ TB) (h2 : Cond.static y ∈ TB) (h4 : Cond.initialized y.cls ∈ TB) (h5 : Cond.code y cy nLy rety ∈ TB) (hdd : y.cls ≠ "java/lang/invoke/MethodHandle" ∧ y.cls ≠ "java/lang/invoke/VarHandle" ∧ (parseMethodDescriptor y.desc).map (fun d => d.parameters.length) = some np) (hroom : fy + 1 ≤ fr ∧ 8 + (nLy + 11) + ly ≤ lo) (hd : decode cc pc = .ok (.invokestatic index, 3)) (hk : q_Sd p l e R s m args below meth c nL nW dC dI k g A Qf (pc + 3) (K)) : q_Sd p l e R s m args below meth c nL nW dC dI k g A Qf (pc) (x_callr none np spr K) :=
  s_mono (s_callS X hM h1 h2 h4 h5 hdd hroom hd hk) x_callr_of
def x_max (K : qK) : qK := fun lv st w => match st with
  | .inl y :: .inl x :: r => match Nat.ble (r.map q_cat).sum 8 with
    | true => ∀ z : Int, z = max x y → K lv (.inl z :: r) w
    | false => False
  | _ => False
def x_min (K : qK) : qK := fun lv st w => match st with
  | .inl y :: .inl x :: r => match Nat.ble (r.map q_cat).sum 8 with
    | true => ∀ z : Int, z = min x y → K lv (.inl z :: r) w
    | false => False
  | _ => False
theorem q_cats (r : List qV) : ((r.map (q_v g)).map fun v => v.category).sum = (r.map q_cat).sum := by
  rw [List.map_map]
  congr 1
  apply List.map_congr_left
  intro v _
  rcases v with z | z | r
  · rfl
  · rfl
  · cases r <;> rfl
theorem q_max {x y : Int} (hx : q_i x) (hy : q_i y) : (if Int32.ofInt x < Int32.ofInt y then Int32.ofInt y else Int32.ofInt x) = Int32.ofInt (max x y) := by
  by_cases h : x < y
  · rw [if_pos ((q_lt_iff hx hy).mpr h), Int.max_eq_right (by omega)]
  · rw [if_neg (fun e => h ((q_lt_iff hx hy).mp e)), Int.max_eq_left (by omega)]
theorem q_min {x y : Int} (hx : q_i x) (hy : q_i y) : (if Int32.ofInt y < Int32.ofInt x then Int32.ofInt y else Int32.ofInt x) = Int32.ofInt (min x y) := by
  by_cases h : y < x
  · rw [if_pos ((q_lt_iff hy hx).mpr h), Int.min_eq_right (by omega)]
  · rw [if_neg (fun e => h ((q_lt_iff hy hx).mp e)), Int.min_eq_left (by omega)]
theorem q_imax {x y : Int} (hx : q_i x) (hy : q_i y) : q_i (max x y) := ⟨by have := hx.1; have := hy.1; omega, by have := hx.2; have := hy.2; omega⟩
theorem q_imin {x y : Int} (hx : q_i x) (hy : q_i y) : q_i (min x y) := ⟨by have := hx.1; have := hy.1; omega, by have := hx.2; have := hy.2; omega⟩
theorem s_max (X : q_X p R s m args meth c cc nL nW fr lo own ret dC dI k g A) {index : Nat} (h1 : Cond.methodLink own index Lib.Math.max.name ∈ TB) (h2 : Cond.static Lib.Math.max.name ∈ TB) (h3 : Cond.initialized "java/lang/Math" ∈ TB) (h4 : Cond.code Lib.Math.max.name Lib.Math.max.code 2 (some .int) ∈ TB) (hroom : 1 ≤ fr ∧ 21 ≤ lo) (hd : decode cc pc = .ok (.invokestatic index, 3)) (hk : q_Sd p l e R s m args below meth c nL nW dC dI k g A Qf (pc + 3) (K)) : q_Sd p l e R s m args below meth c nL nW dC dI k g A Qf (pc) (x_max K) := by
  intro H locs ls lv st w h hP hW hS hl okl oks okw
  obtain ⟨hx, hb, hml, hown, hts, hK, hA, hE, hfr, hlo, hlk, hret, hDg⟩ := X
  unfold x_max at h
  split at h
  · rename_i y x r
    split at h
    case h_2 => exact h.elim
    rename_i hb9
    have hb9 := Nat.le_of_ble_eq_true hb9
    have hy : q_i y := q_oks_h oks
    have hx0 : q_i x := q_oks_h (q_oks_t oks)
    refine va_mmax hx hb (by rw [hml]; exact hl.1.symm) hown (hts _ h1) (hts _ h2) (hts _ h3) (hts _ h4) (Nat.le_trans hroom.1 hfr) (by rw [q_cats]; have := hroom.2; omega) (Nat.zero_le _) (Nat.zero_le _) (x := Int32.ofInt x) (y := Int32.ofInt y) hd ?_
    rw [q_max hx0 hy]
    exact (hk H locs ls (lv) (.inl (max x y) :: r) (w) (h _ rfl) hP hW hS hl okl (q_oks_c (q_imax hx0 hy) (q_oks_t (q_oks_t oks))) okw)
  · exact h.elim
theorem s_min (X : q_X p R s m args meth c cc nL nW fr lo own ret dC dI k g A) {index : Nat} (h1 : Cond.methodLink own index Lib.Math.min.name ∈ TB) (h2 : Cond.static Lib.Math.min.name ∈ TB) (h3 : Cond.initialized "java/lang/Math" ∈ TB) (h4 : Cond.code Lib.Math.min.name Lib.Math.min.code 2 (some .int) ∈ TB) (hroom : 1 ≤ fr ∧ 21 ≤ lo) (hd : decode cc pc = .ok (.invokestatic index, 3)) (hk : q_Sd p l e R s m args below meth c nL nW dC dI k g A Qf (pc + 3) (K)) : q_Sd p l e R s m args below meth c nL nW dC dI k g A Qf (pc) (x_min K) := by
  intro H locs ls lv st w h hP hW hS hl okl oks okw
  obtain ⟨hx, hb, hml, hown, hts, hK, hA, hE, hfr, hlo, hlk, hret, hDg⟩ := X
  unfold x_min at h
  split at h
  · rename_i y x r
    split at h
    case h_2 => exact h.elim
    rename_i hb9
    have hb9 := Nat.le_of_ble_eq_true hb9
    have hy : q_i y := q_oks_h oks
    have hx0 : q_i x := q_oks_h (q_oks_t oks)
    refine va_mmin hx hb (by rw [hml]; exact hl.1.symm) hown (hts _ h1) (hts _ h2) (hts _ h3) (hts _ h4) (Nat.le_trans hroom.1 hfr) (by rw [q_cats]; have := hroom.2; omega) (Nat.zero_le _) (Nat.zero_le _) (x := Int32.ofInt x) (y := Int32.ofInt y) hd ?_
    rw [q_min hx0 hy]
    exact (hk H locs ls (lv) (.inl (min x y) :: r) (w) (h _ rfl) hP hW hS hl okl (q_oks_c (q_imin hx0 hy) (q_oks_t (q_oks_t oks))) okw)
  · exact h.elim
def x_abs (K : qK) : qK := fun lv st w => match st with
  | .inl x :: r => match Nat.ble (r.map q_cat).sum 8 with
    | true => ∀ z : Int, z = (if 0 ≤ Int32.ofInt x then Int32.ofInt x else 0 - Int32.ofInt x).toInt → K lv (.inl z :: r) w
    | false => False
  | _ => False
theorem s_abs (X : q_X p R s m args meth c cc nL nW fr lo own ret dC dI k g A) {index : Nat} (h1 : Cond.methodLink own index Lib.Math.abs.name ∈ TB) (h2 : Cond.static Lib.Math.abs.name ∈ TB) (h3 : Cond.initialized "java/lang/Math" ∈ TB) (h4 : Cond.code Lib.Math.abs.name Lib.Math.abs.code 1 (some .int) ∈ TB) (hroom : 1 ≤ fr ∧ 21 ≤ lo) (hd : decode cc pc = .ok (.invokestatic index, 3)) (hk : q_Sd p l e R s m args below meth c nL nW dC dI k g A Qf (pc + 3) (K)) : q_Sd p l e R s m args below meth c nL nW dC dI k g A Qf (pc) (x_abs K) := by
  intro H locs ls lv st w h hP hW hS hl okl oks okw
  obtain ⟨hx, hb, hml, hown, hts, hK, hA, hE, hfr, hlo, hlk, hret, hDg⟩ := X
  unfold x_abs at h
  split at h
  · rename_i x r
    split at h
    case h_2 => exact h.elim
    rename_i hb9
    have hb9 := Nat.le_of_ble_eq_true hb9
    refine va_mabs hx hb (by rw [hml]; exact hl.1.symm) hown (hts _ h1) (hts _ h2) (hts _ h3) (hts _ h4) (Nat.le_trans hroom.1 hfr) (by rw [q_cats]; have := hroom.2; omega) (Nat.zero_le _) (Nat.zero_le _) (x := Int32.ofInt x) hd ?_
    rw [q_bk (g := g)]
    exact (hk H locs ls (lv) (.inl (if 0 ≤ Int32.ofInt x then Int32.ofInt x else 0 - Int32.ofInt x).toInt :: r) (w) (h _ rfl) hP hW hS hl okl (q_oks_c (q_it _) (q_oks_t oks)) okw)
  · exact h.elim
def q_ccp (w : qW) (a : Nat) (f : Nat → Int) (sp dp n : Nat) : qW := match w[a]? with
  | some (.inl (t, m, .inl h)) => w.set a (.inl (t, m, .inl (va_cpy f h sp dp n)))
  | _ => w
def x_copy (K : qK) : qK := fun lv st w => match st with
  | .inl n :: .inl dp :: .inr (.inr (some a)) :: .inl sp :: .inr (.inr (some b)) :: r => q_arr w b (fun tb nb xb => q_arr w a (fun ta na xa => match Nat.ble (r.map q_cat).sum 8 && (Nat.beq ta tb && Nat.blt ta 2) with
    | true => match xb with
      | .inl f => match xa with
        | .inl u => (0 ≤ sp ∧ 0 ≤ dp ∧ 0 ≤ n ∧ sp + n ≤ nb ∧ dp + n ≤ na) ∧ K lv r (w.set a (.inl (ta, na, .inl (va_cpy f u sp.toNat dp.toNat n.toNat))))
        | _ => False
      | _ => False
    | false => False))
  | _ => False
theorem q_cpy32 (f h : Nat → Int) (sp dp n : Nat) : va_cpy (fun j => Int32.ofInt (f j)) (fun j => Int32.ofInt (h j)) sp dp n = fun j => Int32.ofInt (va_cpy f h sp dp n j) := by
  funext j
  unfold va_cpy
  split <;> rfl
theorem q_cpy_p {P : Int → Prop} {f h : Nat → Int} {sp dp n : Nat} (hf : ∀ j, P (f j)) (hh : ∀ j, P (h j)) : ∀ j, P (va_cpy f h sp dp n j) := by
  intro j
  unfold va_cpy
  split
  · exact hf _
  · exact hh _
theorem q_fitb {z : Int} (h0 : -128 ≤ z) (h1 : z ≤ 127) : fits .byte (.int (Int32.ofInt z)) = true := by
  have hi : q_i z := ⟨by omega, by omega⟩
  have e1 : (-128 : Int32) = Int32.ofInt (-128) := rfl
  have e2 : (127 : Int32) = Int32.ofInt 127 := rfl
  simp only [fits, Bool.and_eq_true, decide_eq_true_eq]
  rw [e1, e2, q_le_iff ⟨by decide, by decide⟩ hi, q_le_iff hi ⟨by decide, by decide⟩]
  exact ⟨h0, h1⟩
theorem s_copy (X : q_X p R s m args meth c cc nL nW fr lo own ret dC dI k g A) {index : Nat} (h1 : Cond.methodLink own index arraycopyName ∈ TB) (h2 : Cond.native arraycopyName ∈ TB) (h3 : Cond.static arraycopyName ∈ TB) (h4 : Cond.initialized "java/lang/System" ∈ TB) (hroom : 1 ≤ fr ∧ 8 + (nativeFrameWords "java/lang/System" "arraycopy" 5 + 11) ≤ lo) (hd : decode cc pc = .ok (.invokestatic index, 3)) (hk : q_Sd p l e R s m args below meth c nL nW dC dI k g A Qf (pc + 3) (K)) : q_Sd p l e R s m args below meth c nL nW dC dI k g A Qf (pc) (x_copy K) := by
  intro H locs ls lv st w h hP hW hS hl okl oks okw
  obtain ⟨hx, hb, hml, hown, hts, hK, hA, hE, hfr, hlo, hlk, hret, hDg⟩ := X
  unfold x_copy at h
  split at h
  · rename_i n dp a sp b r
    obtain ⟨tb, nb, xb, hwb, h5⟩ := q_arr_of h
    clear h
    obtain ⟨ta, na, xa, hwa, h⟩ := q_arr_of h5
    clear h5
    split at h
    case h_2 => exact h.elim
    rename_i hb9
    simp only [Bool.and_eq_true] at hb9
    obtain ⟨hr, htt, ht2⟩ := hb9
    have hr := Nat.le_of_ble_eq_true hr
    have htt := Nat.eq_of_beq_eq_true htt
    subst htt
    have ht2 : ta < 2 := Nat.le_of_ble_eq_true ht2
    have hin : q_i n := q_oks_h oks
    have hid : q_i dp := q_oks_h (q_oks_t oks)
    have his : q_i sp := q_oks_h (q_oks_t (q_oks_t (q_oks_t oks)))
    rcases xb with f | f | f
    · rcases xa with u | u | u
      · obtain ⟨⟨g1, g2, g3, g4, g5⟩, h⟩ := h
        have hcb := q_okw_at okw hwb
        have hca := q_okw_at okw hwa
        have hty : ∃ ty, (tyL k)[ta]? = some (k ta, ty) ∧ refKind ty = false ∧ ∀ i, fits ty (.int (Int32.ofInt (f i))) = true := by
          match ta, ht2, hcb with
          | 0, _, _ => exact ⟨_, rfl, rfl, fun _ => rfl⟩
          | 1, _, hcb => exact ⟨_, rfl, rfl, fun i => q_fitb (hcb.2 rfl i).1 (hcb.2 rfl i).2⟩
        obtain ⟨ty, hty, hrk, hfit⟩ := hty
        have e0 : (0 : Int32) = Int32.ofInt 0 := rfl
        refine va_copyi hx hb (by rw [hml]; exact hl.1.symm) hown (hts _ h1) (hts _ h2) (hts _ h3) (hts _ h4) hK hP (q_D_va (by rw [hW]; exact hDg)) hS b a ta ta (q_w_at hwb) (q_w_at hwa) hty hty hrk (sp := Int32.ofInt sp) (dp := Int32.ofInt dp) (n := Int32.ofInt n) (by rw [e0, q_lt_iff his q_i0]; omega) (by rw [e0, q_lt_iff hid q_i0]; omega) (by rw [e0, q_lt_iff hin q_i0]; omega) (by rw [q_cl his, q_cl hin]; omega) (by rw [q_cl hid, q_cl hin]; omega) (fun i _ => hfit _) (Nat.le_trans hroom.1 hfr) (by rw [q_cats]; have := hroom.2; omega) hd (fun H1 locs1 hP1 _ hS1 => ?_)
        rw [q_cl his, q_cl hid, q_cl hin, q_cpy32] at hP1
        have e2 : (q_w k g w).set a (g a, .inl (k ta, na, .inl (fun j => Int32.ofInt (va_cpy f u sp.toNat dp.toNat n.toNat j)))) = q_w k g (w.set a (.inl (ta, na, .inl (va_cpy f u sp.toNat dp.toNat n.toNat)))) := by
          exact q_w_set (x := .inl (ta, na, .inl (va_cpy f u sp.toNat dp.toNat n.toNat)))
        rw [e2] at hP1
        exact (hk H1 locs1 ls (lv) (r) (w.set a (.inl (ta, na, .inl (va_cpy f u sp.toNat dp.toNat n.toNat)))) h hP1 (by rw [List.length_set]; exact hW) hS1 hl okl (q_oks_t (q_oks_t (q_oks_t (q_oks_t (q_oks_t oks))))) (q_okw_set okw ⟨q_cpy_p (P := q_i) hcb.1 hca.1, fun e9 => q_cpy_p (P := fun z => -128 ≤ z ∧ z ≤ 127) (hcb.2 e9) (hca.2 e9)⟩))
      · exact h.elim
      · exact h.elim
    · exact h.elim
    · exact h.elim
  · exact h.elim
def x_stat (j : Nat) (K : qK) : qK := fun lv st w => K lv (.inr (.inr (some (1000 + j))) :: st) w
theorem s_stat (X : q_X p R s m args meth c cc nL nW fr lo own ret dC dI k g A) {index j : Nat} {nm : String} {xs : List Int} (hj : qSt[j]? = some (nm, xs)) (hw : Cond.fieldLinkNest own index "HeightFine" nm "[I" "HeightFine" ∈ qNw) (hd : decode cc pc = .ok (.getstatic index, 3)) (hk : q_Sd p l e R s m args below meth c nL nW dC dI k g A Qf (pc + 3) (K)) : q_Sd p l e R s m args below meth c nL nW dC dI k g A Qf (pc) (x_stat j K) := by
  intro H locs ls lv st w h hP hW hS hl okl oks okw
  obtain ⟨hx, hb, hml, hown, hts, hK, hA, hE, hfr, hlo, hlk, hret, hDg⟩ := X
  exact va_getsN hx hb (hE.2.2.1 j nm xs hj).1 hS hown (va_Nw.use rfl (hE.2.1 _ hw)) (fun _ h9 => h9) hd (hk H locs ls (lv) (.inr (.inr (some (1000 + j))) :: st) (w) h hP hW hS hl okl (q_oks_c trivial oks) okw)
def x_sald (j : Nat) (xs : List Int) (K : qK) : qK := fun lv st w => match st with
  | .inl i :: .inr (.inr (some a)) :: r => match Nat.beq a (1000 + j) with
    | true => (0 ≤ i ∧ i < xs.length) ∧ ∀ z : Int, z = xs.getD i.toNat 0 → K lv (.inl z :: r) w
    | false => False
  | _ => False
theorem s_sald (X : q_X p R s m args meth c cc nL nW fr lo own ret dC dI k g A) {j : Nat} {nm : String} {xs : List Int} (hj : qSt[j]? = some (nm, xs)) (hxs : ∀ z ∈ xs, q_i z) (hd : decode cc pc = .ok (.iaload, 1)) (hk : q_Sd p l e R s m args below meth c nL nW dC dI k g A Qf (pc + 1) (K)) : q_Sd p l e R s m args below meth c nL nW dC dI k g A Qf (pc) (x_sald j xs K) := by
  intro H locs ls lv st w h hP hW hS hl okl oks okw
  obtain ⟨hx, hb, hml, hown, hts, hK, hA, hE, hfr, hlo, hlk, hret, hDg⟩ := X
  unfold x_sald at h
  split at h
  · rename_i i a r
    split at h
    case h_2 => exact h.elim
    rename_i hb9
    have hb9 := Nat.eq_of_beq_eq_true hb9
    subst hb9
    obtain ⟨⟨h0, h1⟩, h⟩ := h
    have hi : q_i i := q_oks_h oks
    obtain ⟨-, hX, hlt, hnA⟩ := hE.2.2.1 j nm xs hj
    refine va_sld hx hb hX hlt hnA hS (q_in hi h0 h1) hd ?_
    rw [q_cl hi]
    exact (hk H locs ls (lv) (.inl (xs.getD i.toNat 0) :: r) (w) (h _ rfl) hP hW hS hl okl (q_oks_c (by show q_i _; rw [List.getD_eq_getElem?_getD, List.getElem?_eq_getElem (by omega)]; exact hxs _ (List.getElem_mem _)) (q_oks_t (q_oks_t oks))) okw)
  · exact h.elim
def x_slen (j : Nat) (xs : List Int) (K : qK) : qK := fun lv st w => match st with
  | .inr (.inr (some a)) :: r => match Nat.beq a (1000 + j) with
    | true => K lv (.inl (xs.length : Int) :: r) w
    | false => False
  | _ => False
theorem s_slen (X : q_X p R s m args meth c cc nL nW fr lo own ret dC dI k g A) {j : Nat} {nm : String} {xs : List Int} (hj : qSt[j]? = some (nm, xs)) (hxs : xs.length < 1000) (hd : decode cc pc = .ok (.arraylength, 1)) (hk : q_Sd p l e R s m args below meth c nL nW dC dI k g A Qf (pc + 1) (K)) : q_Sd p l e R s m args below meth c nL nW dC dI k g A Qf (pc) (x_slen j xs K) := by
  intro H locs ls lv st w h hP hW hS hl okl oks okw
  obtain ⟨hx, hb, hml, hown, hts, hK, hA, hE, hfr, hlo, hlk, hret, hDg⟩ := X
  unfold x_slen at h
  split at h
  · rename_i a r
    split at h
    case h_2 => exact h.elim
    rename_i hb9
    have hb9 := Nat.eq_of_beq_eq_true hb9
    subst hb9
    obtain ⟨-, hX, hlt, hnA⟩ := hE.2.2.1 j nm xs hj
    exact va_slen hx hb hX hlt hnA hS hd (hk H locs ls (lv) (.inl (xs.length : Int) :: r) (w) h hP hW hS hl okl (q_oks_c ⟨by omega, by omega⟩ (q_oks_t oks)) okw)
  · exact h.elim
end QC
