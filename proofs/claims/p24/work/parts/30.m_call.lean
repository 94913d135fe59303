section QM
variable {p : Program} {l : Launch} {e : Env} {R : Room} {s : State} {m : MethodId} {args : Array Value} {below : List Frame} {meth : Method} {c : Code} {cc : ByteArray} {nL nW fr lo : Nat} {own : String} {ret : Option FieldType} {dC : Nat → ClassId} {dI : Nat → Nat → Nat} {k : Nat → ClassId} {g : Nat → Nat} {A : Nat → Prop} {Qf : State → Prop} {pc : Nat} {K K1 K2 : qK}
theorem q_M_mono {y : MethodName} {sp sp' : qS} (h : ∀ av w Q, sp' av w Q → sp av w Q) (hM : q_M l y cc nL ret fr lo sp) : q_M l y cc nL ret fr lo sp' := fun dC dI k g av w Q sz hs oka okw => hM dC dI k g av w Q sz (h av w Q hs) oka okw
theorem q_bw_ne {pos : List Nat} : ∀ (ps : List Nat) (w a : qW) (i : Nat), i ∉ ps → (q_bw pos w ps a)[i]? = w[i]? := by
  intro ps
  induction ps with
  | nil => intro w a i _; cases a <;> rfl
  | cons p ps ih =>
    intro w a i hi
    cases a with
    | nil => rfl
    | cons x a =>
      show (q_bw pos (w.set p (q_rc pos x)) ps a)[i]? = w[i]?
      rw [ih _ _ _ (fun h => hi (List.mem_cons_of_mem _ h)), List.getElem?_set]
      rw [if_neg (fun e => hi (by rw [← e]; exact List.mem_cons_self))]
theorem q_bw_app {pos : List Nat} : ∀ (ps qs : List Nat) (w a b : qW), ps.length = a.length → q_bw pos w (ps ++ qs) (a ++ b) = q_bw pos (q_bw pos w ps a) qs b := by
  intro ps
  induction ps with
  | nil => intro qs w a b h; cases a with | nil => rfl | cons x a => cases h
  | cons p ps ih =>
    intro qs w a b h
    cases a with
    | nil => cases h
    | cons x a => exact ih qs _ a b (by simpa using h)
def x_callm (vc : Option Nat) (np m : Nat) (spm : List qV → qW → (Option qV → qW → Prop) → Prop) (K : qK) : qK := fun lv st w => ∃ (pos : List Nat) (av : List qV) (w0 : qW), st.take np = (av.map (q_rv pos)).reverse ∧ (pos.take w0.length).map (fun i => w[i]?) = w0.map (fun x => some (q_rc pos x)) ∧ (va_nd (pos.take w0.length) && (Nat.blt pos.length 1000 && (Nat.ble np st.length && Nat.ble ((st.drop np).map q_cat).sum 8))) = true ∧ (match vc with
    | some ci => (∃ vs, w0[0]? = some (.inr (ci, vs))) ∧ av.head? = some (.inr (.inr (some 0)))
    | none => True) ∧ (m ≤ w0.length ∧ spm av w0 (fun r wm => wm.length = m → K lv (q_pu pos r (st.drop np)) (q_bw pos w (pos.take m) wm)))
theorem x_callm_of {vc : Option Nat} {np m : Nat} {spm : List qV → qW → (Option qV → qW → Prop) → Prop} (hmono : ∀ (av : List qV) (w : qW) (P P' : Option qV → qW → Prop), (∀ r wm, P r wm → P' r wm) → spm av w P → spm av w P') : ∀ lv st w, x_callm vc np m spm K lv st w → x_call vc np (fun av w Q => spm av w (fun r wm => wm.length = m → Q r (wm ++ w.drop m))) K lv st w := by
  intro lv st w h
  obtain ⟨pos, av, w0, h1, h2, h3, h4, hm, h5⟩ := h
  refine ⟨pos, av, w0, h1, h2, h3, h4, hmono _ _ _ _ (fun r wm hk hl => ?_) h5⟩
  have hk := hk hl
  have hlen : (pos.take w0.length).length = w0.length := by have := congrArg List.length h2; simpa using this
  have hsp : pos.take w0.length = pos.take m ++ (pos.take w0.length).drop m := by
    have := (List.take_append_drop m (pos.take w0.length)).symm
    rw [List.take_take, Nat.min_eq_left hm] at this
    exact this
  have hl2 : (pos.take m).length = wm.length := by
    rw [List.length_take] at hlen
    rw [List.length_take, hl]; omega
  show K lv (q_pu pos r (st.drop np)) (q_bw pos w (pos.take w0.length) (wm ++ w0.drop m))
  rw [hsp, q_bw_app _ _ _ _ _ hl2]
  have e : q_bw pos (q_bw pos w (pos.take m) wm) ((pos.take w0.length).drop m) (w0.drop m) = q_bw pos w (pos.take m) wm := by
    refine q_bw_same _ _ _ (fun j p x hp hx => ?_)
    rw [List.getElem?_drop] at hp hx
    obtain ⟨i, hi, hxi⟩ := q_sub_at h2 hx
    rw [hp] at hi
    cases hi
    rw [q_bw_ne _ _ _ _ (fun hmem => ?_)]
    · exact hxi
    · obtain ⟨j2, hj2⟩ := List.getElem?_of_mem hmem
      have hj3 : j2 < m := by
        have := (List.getElem?_eq_some_iff.mp hj2).1
        rw [List.length_take] at this
        omega
      rw [List.getElem?_take, if_pos hj3] at hj2
      simp only [Bool.and_eq_true] at h3
      have hj4 : (pos.take w0.length)[j2]? = some p := by rw [List.getElem?_take, if_pos (by omega)]; exact hj2
      have := va_nd_inj _ h3.1 j2 (m + j) p hj4 hp
      omega
  rw [e]
  exact hk
theorem s_callVm {ci : Nat} {np index mm : Nat} {spm : List qV → qW → (Option qV → qW → Prop) → Prop} {y : MethodName} {cy : ByteArray} {nLy fy ly N : Nat} {T : u_T} {rety : Option FieldType} (X : q_X p R s m args meth c cc nL nW fr lo own ret dC dI k g A) (hM : q_M l y cy nLy rety fy ly (fun av w Q => spm av w (fun r wm => wm.length = mm → Q r (wm ++ w.drop mm)))) (hmono : ∀ (av : List qV) (w : qW) (P P' : Option qV → qW → Prop), (∀ r wm, P r wm → P' r wm) → spm av w P → spm av w P') (h1 : Cond.methodLink own index y ∈ TB) (h2 : Cond.instanceMethod y ∈ TB) (h3 : Cond.selects y.cls y y ∈ TB) (h4 : Cond.initialized y.cls ∈ TB) (h5 : Cond.code y cy nLy rety ∈ TB) (hcl : vwCl[ci]? = some (y.cls, T, N)) (hdd : y.cls = y.cls ∧ y.cls ≠ "java/lang/invoke/MethodHandle" ∧ y.cls ≠ "java/lang/invoke/VarHandle" ∧ (parseMethodDescriptor y.desc).map (fun d => d.parameters.length + 1) = some np) (hroom : fy + 1 ≤ fr ∧ 8 + (nLy + 11) + ly ≤ lo) (hd : decode cc pc = .ok (.invokevirtual index, 3)) (hk : q_Sd p l e R s m args below meth c nL nW dC dI k g A Qf (pc + 3) (K)) : q_Sd p l e R s m args below meth c nL nW dC dI k g A Qf (pc) (x_callm (some ci) np mm spm K) :=
  s_mono (s_callV X hM h1 h2 h3 h4 h5 hcl hdd hroom hd hk) (x_callm_of hmono)
end QM
