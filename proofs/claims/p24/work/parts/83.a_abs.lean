section QA9
variable {p : Program} {l : Launch} {e : Env} {R : Room} {s : State} {m : MethodId} {args : Array Value} {below : List Frame} {meth : Method} {c : Code} {cc : ByteArray} {nL nW fr lo : Nat} {own : String} {ret : Option FieldType} {dC : Nat → ClassId} {dI : Nat → Nat → Nat} {k : Nat → ClassId} {g : Nat → Nat} {A : Nat → Prop} {Qf : State → Prop} {pc : Nat} {K K1 K2 : qK}
def WS (C : List (qC → Prop)) (w0 w : qW) : Prop := PW C w ∧ w.length = w0.length ∧ ∀ i : Nat, (i = 44 ∨ 111 ≤ i) → w[i]? = w0[i]?
theorem WS_0 {C : List (qC → Prop)} {w : qW} (h : PW C w) : WS C w w := ⟨h, rfl, fun _ _ => rfl⟩
theorem WS_t {C : List (qC → Prop)} {w0 w w1 : qW} (h : WS C w0 w) (h1 : PW C w1) (h2 : w1.length = w.length) (h3 : ∀ i : Nat, (i = 44 ∨ 111 ≤ i) → w1[i]? = w[i]?) : WS C w0 w1 := ⟨h1, by rw [h2]; exact h.2.1, fun i hi => by rw [h3 i hi]; exact h.2.2 i hi⟩
theorem PW_set {C : List (qC → Prop)} {w : qW} {a : Nat} {x : qC} (h : PW C w) (hc : match C[a]? with
    | some P => P x
    | none => True) : PW C (w.set a x) := by
  intro i P hi
  obtain ⟨y, hy, hp⟩ := h i P hi
  rw [List.getElem?_set]
  by_cases e : a = i
  · subst e
    rw [if_pos rfl, if_pos (List.getElem?_eq_some_iff.mp hy).1]
    rw [hi] at hc
    exact ⟨x, rfl, hc⟩
  · rw [if_neg e]; exact ⟨y, hy, hp⟩
theorem WS_set {C : List (qC → Prop)} {w0 w : qW} {a : Nat} {x : qC} (h : WS C w0 w) (ha : (Nat.blt a 111 && !(Nat.beq a 44)) = true) (hc : match C[a]? with
    | some P => P x
    | none => True) : WS C w0 (w.set a x) := by
  simp only [Bool.and_eq_true, Bool.not_eq_true'] at ha
  have h2 : a < 111 := Nat.le_of_ble_eq_true ha.1
  have h3 := Nat.ne_of_beq_eq_false ha.2
  refine ⟨PW_set h.1 hc, by rw [List.length_set]; exact h.2.1, fun i hi => ?_⟩
  rw [List.getElem?_set, if_neg (by omega)]; exact h.2.2 i hi
theorem p_get {w : qW} {a ci kf : Nat} {vs : List qV} {v : qV} {lv : qL} {r : List qV} (e : w[a]? = some (.inr (ci, vs))) (hv : vs[kf]? = some v) (hk : K lv (v :: r) w) : x_get ci kf K lv (.inr (.inr (some a)) :: r) w := by
  show q_fld w a ci kf (fun v => K lv (v :: r) w)
  unfold q_fld
  rw [e]
  simp only [Nat.beq_refl, hv]
  exact hk
theorem p_put {w : qW} {a ci kf : Nat} {vs : List qV} {v : qV} {ok : qV → Prop} {lv : qL} {r : List qV} (e : w[a]? = some (.inr (ci, vs))) (hl : Nat.blt kf vs.length = true) (hok : ok v) (hk : K lv r (w.set a (.inr (ci, vs.set kf v)))) : x_put ci kf ok K lv (v :: .inr (.inr (some a)) :: r) w := by
  show q_fdv w a ci kf (fun vs => ok v ∧ K lv r (w.set a (.inr (ci, vs.set kf v))))
  unfold q_fdv
  rw [e]
  simp only [Nat.beq_refl, hl, Bool.and_self]
  exact ⟨hok, hk⟩
theorem p_aald {w : qW} {a t n : Nat} {f : List (Option Nat)} {i : Int} {lv : qL} {r : List qV} (e : w[a]? = some (.inl (t, n, .inr (.inr f)))) (ht : (Nat.ble 4 t && Nat.ble t 8) = true) (hi : 0 ≤ i ∧ i < n) (hk : K lv (.inr (.inr (f.getD i.toNat none)) :: r) w) : x_aald K lv (.inl i :: .inr (.inr (some a)) :: r) w := by
  show q_arr w a _
  unfold q_arr
  rw [e]
  simp only [ht]
  exact ⟨hi, hk⟩
theorem p_iald {w : qW} {a n : Nat} {f : Nat → Int} {i : Int} {lv : qL} {r : List qV} (e : w[a]? = some (.inl (0, n, .inl f))) (hi : 0 ≤ i ∧ i < n) (hk : ∀ z : Int, z = f i.toNat → K lv (.inl z :: r) w) : x_iald K lv (.inl i :: .inr (.inr (some a)) :: r) w := by
  show q_arr w a _
  unfold q_arr
  rw [e]
  exact ⟨hi, hk⟩
theorem p_iast {w : qW} {a n : Nat} {f : Nat → Int} {i v : Int} {lv : qL} {r : List qV} (e : w[a]? = some (.inl (0, n, .inl f))) (hi : 0 ≤ i ∧ i < n) (hk : K lv r (w.set a (.inl (0, n, .inl (q_up f i.toNat v))))) : x_iast K lv (.inl v :: .inl i :: .inr (.inr (some a)) :: r) w := by
  show q_arr w a _
  unfold q_arr
  rw [e]
  exact ⟨hi, hk⟩
theorem p_copy {w : qW} {a b ta na nb : Nat} {f u : Nat → Int} {n dp sp : Int} {lv : qL} {r : List qV} (eb : w[b]? = some (.inl (ta, nb, .inl f))) (ea : w[a]? = some (.inl (ta, na, .inl u))) (hc : (Nat.ble (r.map q_cat).sum 8 && (Nat.beq ta ta && Nat.blt ta 2)) = true) (hi : 0 ≤ sp ∧ 0 ≤ dp ∧ 0 ≤ n ∧ sp + n ≤ nb ∧ dp + n ≤ na) (hk : K lv r (w.set a (.inl (ta, na, .inl (va_cpy f u sp.toNat dp.toNat n.toNat))))) : x_copy K lv (.inl n :: .inl dp :: .inr (.inr (some a)) :: .inl sp :: .inr (.inr (some b)) :: r) w := by
  show q_arr w b _
  unfold q_arr
  rw [eb]
  show q_arr w a _
  unfold q_arr
  rw [ea]
  simp only [hc]
  exact ⟨hi, hk⟩
def x_calla (ci np : Nat) (sp : qS) (K : qK) : qK := fun lv st w => ∃ (a : Nat) (As rest vs : List qV), st = As.reverse ++ .inr (.inr (some a)) :: rest ∧ As.length + 1 = np ∧ w[a]? = some (.inr (ci, vs)) ∧ (rest.map q_cat).sum ≤ 8 ∧ sp (.inr (.inr (some a)) :: As) w (fun r w1 => w1.length = w.length → K lv (q_pi r rest) w1)
theorem s_calla {ci np index : Nat} {sp : qS} {y : MethodName} {cy : ByteArray} {nLy fy ly N : Nat} {T : u_T} {rety : Option FieldType} (X : q_X p R s m args meth c cc nL nW fr lo own ret dC dI k g A) (hM : q_M l y cy nLy rety fy ly sp) (h1 : Cond.methodLink own index y ∈ TB) (h2 : Cond.instanceMethod y ∈ TB) (h3 : Cond.selects y.cls y y ∈ TB) (h4 : Cond.initialized y.cls ∈ TB) (h5 : Cond.code y cy nLy rety ∈ TB) (hcl : vwCl[ci]? = some (y.cls, T, N)) (hdd : y.cls = y.cls ∧ y.cls ≠ "java/lang/invoke/MethodHandle" ∧ y.cls ≠ "java/lang/invoke/VarHandle" ∧ (parseMethodDescriptor y.desc).map (fun d => d.parameters.length + 1) = some np) (hroom : fy + 1 ≤ fr ∧ 8 + (nLy + 11) + ly ≤ lo) (hmo : ∀ (av : List qV) (w : qW) (P P' : Option qV → qW → Prop), (∀ r w1, P r w1 → P' r w1) → sp av w P → sp av w P') (hd : decode cc pc = .ok (.invokevirtual index, 3)) (hk : q_Sd p l e R s m args below meth c nL nW dC dI k g A Qf (pc + 3) (K)) : q_Sd p l e R s m args below meth c nL nW dC dI k g A Qf (pc) (x_calla ci np sp K) := by
  intro H locs ls lv st w h hP hW hS hl okl oks okw
  obtain ⟨a, As, rest, vs, rfl, hnp, hrv, hcs, hsp⟩ := h
  refine q_callI X hM h1 h2 h3 h4 h5 hcl hdd hroom ⟨Nat.zero_le _, Nat.zero_le _⟩ hd hnp hrv hcs hP hW hS hl.1 oks okw (hmo _ _ _ _ (fun r w1 hq hlen hok hokw H1 locs1 hP1 hS1 => ?_) hsp)
  refine hk H1 locs1 ls lv _ w1 (hq (by rw [hlen, hW])) hP1 hlen hS1 hl okl ?_ hokw
  have okr : q_oks rest := fun v hv => oks v (List.mem_append.mpr (Or.inr (List.mem_cons_of_mem _ hv)))
  cases r with
  | none => exact okr
  | some v => exact q_oks_c (hok v rfl) okr
theorem WS_t' {C C' : List (qC → Prop)} {w0 w w1 : qW} (h : WS C w0 w) (h1 : PW C' w1) (h2 : w1.length = w.length) (h3 : ∀ i : Nat, (i = 44 ∨ 111 ≤ i) → w1[i]? = w[i]?) : WS C' w0 w1 := ⟨h1, by rw [h2]; exact h.2.1, fun i hi => by rw [h3 i hi]; exact h.2.2 i hi⟩
theorem PW_setC {C C' : List (qC → Prop)} {w : qW} {a : Nat} {x : qC} (h : PW C w) (hC : ∀ i : Nat, ¬ i = a → C'[i]? = C[i]?) (hL : C'.length = C.length) (hc : match C'[a]? with
    | some P => P x
    | none => True) : PW C' (w.set a x) := by
  intro i P hi
  have hil : i < C.length := by rw [← hL]; exact (List.getElem?_eq_some_iff.mp hi).1
  rw [List.getElem?_set]
  by_cases e : a = i
  · subst e
    obtain ⟨y, hy, -⟩ := h a _ (List.getElem?_eq_getElem hil)
    rw [if_pos rfl, if_pos (List.getElem?_eq_some_iff.mp hy).1]
    rw [hi] at hc
    exact ⟨x, rfl, hc⟩
  · rw [if_neg e]
    rw [hC i (fun e9 => e e9.symm)] at hi
    exact h i P hi
theorem WS_setC {C C' : List (qC → Prop)} {w0 w : qW} {a : Nat} {x : qC} (h : WS C w0 w) (ha : (Nat.blt a 111 && !(Nat.beq a 44)) = true) (hC : ∀ i : Nat, ¬ i = a → C'[i]? = C[i]?) (hL : C'.length = C.length) (hc : match C'[a]? with
    | some P => P x
    | none => True) : WS C' w0 (w.set a x) := by
  refine ⟨PW_setC h.1 hC hL hc, by rw [List.length_set]; exact h.2.1, fun i hi => ?_⟩
  simp only [Bool.and_eq_true, Bool.not_eq_true'] at ha
  have h2 : a < 111 := Nat.le_of_ble_eq_true ha.1
  have h3 := Nat.ne_of_beq_eq_false ha.2
  rw [List.getElem?_set, if_neg (by omega)]; exact h.2.2 i hi
theorem p_putG {C C' : List (qC → Prop)} {w0 w : qW} {a ci kf : Nat} {vs : List qV} {v : qV} {ok : qV → Prop} {lv : qL} {r : List qV} (hW : WS C w0 w) (e : w[a]? = some (.inr (ci, vs))) (hl : Nat.blt kf vs.length = true) (hok : ok v) (ha : (Nat.blt a 111 && !(Nat.beq a 44)) = true) (hC : ∀ i : Nat, ¬ i = a → C'[i]? = C[i]?) (hL : C'.length = C.length) (hc : match C'[a]? with
    | some P => P (.inr (ci, vs.set kf v))
    | none => True) (hk : ∀ w', WS C' w0 w' → K lv r w') : x_put ci kf ok K lv (v :: .inr (.inr (some a)) :: r) w := p_put e hl hok (hk _ (WS_setC hW ha hC hL hc))
theorem p_iastG {C C' : List (qC → Prop)} {w0 w : qW} {a n : Nat} {f : Nat → Int} {i v : Int} {lv : qL} {r : List qV} (hW : WS C w0 w) (e : w[a]? = some (.inl (0, n, .inl f))) (hi : 0 ≤ i ∧ i < n) (ha : (Nat.blt a 111 && !(Nat.beq a 44)) = true) (hC : ∀ j : Nat, ¬ j = a → C'[j]? = C[j]?) (hL : C'.length = C.length) (hc : match C'[a]? with
    | some P => P (.inl (0, n, .inl (q_up f i.toNat v)))
    | none => True) (hk : ∀ w', WS C' w0 w' → K lv r w') : x_iast K lv (.inl v :: .inl i :: .inr (.inr (some a)) :: r) w := p_iast e hi (hk _ (WS_setC hW ha hC hL hc))
/-- a call on the whole world, whatever is known of it: rel says how it goes on -/
def spX (ar : List qV → Prop) (rel : (Nat → Nat → Int) → (Nat → Nat → Int) → List qV → Option qV → (Nat → Nat → Int) → (Nat → Nat → Int) → Prop) : qS := fun av w Q => ∃ F U : Nat → Nat → Int, PW (LC F U) w ∧ ar av ∧ ∀ (r : Option qV) (F' U' : Nat → Nat → Int) (w' : qW), PW (LC F' U') w' → w'.length = w.length → (∀ i : Nat, (i = 44 ∨ 111 ≤ i) → w'[i]? = w[i]?) → rel F U av r F' U' → Q r w'
theorem spX_mo {ar : List qV → Prop} {rel : (Nat → Nat → Int) → (Nat → Nat → Int) → List qV → Option qV → (Nat → Nat → Int) → (Nat → Nat → Int) → Prop} : ∀ (av : List qV) (w : qW) (P P' : Option qV → qW → Prop), (∀ r w1, P r w1 → P' r w1) → spX ar rel av w P → spX ar rel av w P' := fun av w P P' h hs => by
  obtain ⟨F, U, h1, h2, h3⟩ := hs
  exact ⟨F, U, h1, h2, fun r F' U' w' a b c d => h _ _ (h3 r F' U' w' a b c d)⟩
theorem q_MX_G {y : MethodName} {cy : ByteArray} {nLy fy ly : Nat} {rety : Option FieldType} {ar : List qV → Prop} {rel : (Nat → Nat → Int) → (Nat → Nat → Int) → List qV → Option qV → (Nat → Nat → Int) → (Nat → Nat → Int) → Prop} (h : ∀ F U : Nat → Nat → Int, q_M l y cy nLy rety fy ly (spG F U ar (rel F U))) : q_M l y cy nLy rety fy ly (spX ar rel) := by
  intro dC dI k g av w Q sz hs oka okw
  obtain ⟨F, U, h1, h2, h3⟩ := hs
  exact h F U dC dI k g av w Q sz ⟨h1, h2, h3⟩ oka okw
theorem q_MX_V {y : MethodName} {cy : ByteArray} {nLy fy ly : Nat} {rety : Option FieldType} {ar : List qV → Prop} {rel : (Nat → Nat → Int) → (Nat → Nat → Int) → List qV → Option qV → Prop} (h : ∀ F U : Nat → Nat → Int, q_M l y cy nLy rety fy ly (spV (LC F U) (rel F U) ar)) : q_M l y cy nLy rety fy ly (spX ar (fun F U av r F' U' => (F' = F ∧ U' = U) ∧ rel F U av r)) := by
  intro dC dI k g av w Q sz hs oka okw
  obtain ⟨F, U, h1, h2, h3⟩ := hs
  exact h F U dC dI k g av w Q sz ⟨h1, h2, fun r w' a b c d => h3 r F U w' a b c ⟨⟨rfl, rfl⟩, d⟩⟩ oka okw
theorem p_callX {ar : List qV → Prop} {rel : (Nat → Nat → Int) → (Nat → Nat → Int) → List qV → Option qV → (Nat → Nat → Int) → (Nat → Nat → Int) → Prop} {ci np a : Nat} {As rest vs : List qV} {w0 w : qW} {lv : qL} {F U : Nat → Nat → Int} (hW : WS (LC F U) w0 w) (hn : As.length + 1 = np) (e : w[a]? = some (.inr (ci, vs))) (hc : (rest.map q_cat).sum ≤ 8) (har : ar (.inr (.inr (some a)) :: As)) (hk : ∀ r F' U' w', WS (LC F' U') w0 w' → rel F U (.inr (.inr (some a)) :: As) r F' U' → K lv (q_pi r rest) w') : x_calla ci np (spX ar rel) K lv (As.reverse ++ .inr (.inr (some a)) :: rest) w :=
  ⟨a, As, rest, vs, rfl, hn, e, hc, F, U, hW.1, har, fun r F' U' w' h1 h2 h3 h4 _ => hk r F' U' w' (WS_t' hW h1 h2 h3) h4⟩
end QA9
