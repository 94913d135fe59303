section QN9
variable {p : Program} {l : Launch} {e : Env} {R : Room} {s : State} {m : MethodId} {args : Array Value} {below : List Frame} {meth : Method} {c : Code} {cc : ByteArray} {nL nW fr lo : Nat} {own : String} {ret : Option FieldType} {dC : Nat → ClassId} {dI : Nat → Nat → Nat} {k : Nat → ClassId} {g : Nat → Nat} {A : Nat → Prop} {Qf : State → Prop} {pc : Nat} {K K1 K2 : qK}
def q_stn : qW → Nat → qC → (qW → Prop) → Prop
  | [], _, _, P => P []
  | y :: w, p, x, P => match p with
    | 0 => P (x :: w)
    | p + 1 => q_stn w p x (fun w' => P (y :: w'))
theorem q_stn_iff : ∀ (w : qW) (p : Nat) (x : qC) (P : qW → Prop), q_stn w p x P ↔ P (w.set p x) := by
  intro w
  induction w with
  | nil => intro p x P; exact Iff.rfl
  | cons y w ih =>
    intro p x P
    cases p with
    | zero => exact Iff.rfl
    | succ p => exact ih p x (fun w' => P (y :: w'))
def q_bwn (pos : List Nat) : qW → List Nat → qW → (qW → Prop) → Prop
  | w, p :: ps, x :: xs, P => q_nc (q_rc pos x) (fun x' => q_stn w p x' (fun w' => q_bwn pos w' ps xs P))
  | w, _, _, P => P w
theorem q_bwn_iff (pos : List Nat) (P : qW → Prop) : ∀ (ps : List Nat) (w xs : qW), q_bwn pos w ps xs P ↔ P (q_bw pos w ps xs) := by
  intro ps
  induction ps with
  | nil => intro w xs; cases xs <;> exact Iff.rfl
  | cons p ps ih =>
    intro w xs
    cases xs with
    | nil => exact Iff.rfl
    | cons x xs =>
      show q_nc (q_rc pos x) (fun x' => q_stn w p x' (fun w' => q_bwn pos w' ps xs P)) ↔ P (q_bw pos (w.set p (q_rc pos x)) ps xs)
      rw [q_nc_iff, q_stn_iff]
      exact ih _ _
def x_calln (vc : Option Nat) (np : Nat) (sp : qS) (K : qK) : qK := fun lv st w => ∃ (pos : List Nat) (av : List qV) (w0 : qW), st.take np = (av.map (q_rv pos)).reverse ∧ (pos.take w0.length).map (fun i => w[i]?) = w0.map (fun x => some (q_rc pos x)) ∧ (va_nd (pos.take w0.length) && (Nat.blt pos.length 1000 && (Nat.ble np st.length && Nat.ble ((st.drop np).map q_cat).sum 8))) = true ∧ (match vc with
    | some ci => (∃ vs, w0[0]? = some (.inr (ci, vs))) ∧ av.head? = some (.inr (.inr (some 0)))
    | none => True) ∧ sp av w0 (fun r w1 => q_bwn pos w (pos.take w0.length) w1 (fun w' => K lv (q_pu pos r (st.drop np)) w'))
theorem x_calln_of {vc : Option Nat} {np : Nat} {sp : qS} : ∀ lv st w, x_calln vc np sp K lv st w → x_call vc np sp K lv st w := by
  intro lv st w h
  obtain ⟨pos, av, w0, h1, h2, h3, h4, h5⟩ := h
  refine ⟨pos, av, w0, h1, h2, h3, h4, ?_⟩
  have e : (fun r w1 => q_bwn pos w (pos.take w0.length) w1 (fun w' => K lv (q_pu pos r (st.drop np)) w')) = (fun r w1 => K lv (q_pu pos r (st.drop np)) (q_bw pos w (pos.take w0.length) w1)) := funext fun r => funext fun w1 => propext (q_bwn_iff pos _ _ _ _)
  rw [← e]
  exact h5
theorem s_callVn {ci : Nat} {np index : Nat} {sp : qS} {y : MethodName} {cy : ByteArray} {nLy fy ly N : Nat} {T : u_T} {rety : Option FieldType} (X : q_X p R s m args meth c cc nL nW fr lo own ret dC dI k g A) (hM : q_M l y cy nLy rety fy ly sp) (h1 : Cond.methodLink own index y ∈ TB) (h2 : Cond.instanceMethod y ∈ TB) (h3 : Cond.selects y.cls y y ∈ TB) (h4 : Cond.initialized y.cls ∈ TB) (h5 : Cond.code y cy nLy rety ∈ TB) (hcl : vwCl[ci]? = some (y.cls, T, N)) (hdd : y.cls = y.cls ∧ y.cls ≠ "java/lang/invoke/MethodHandle" ∧ y.cls ≠ "java/lang/invoke/VarHandle" ∧ (parseMethodDescriptor y.desc).map (fun d => d.parameters.length + 1) = some np) (hroom : fy + 1 ≤ fr ∧ 8 + (nLy + 11) + ly ≤ lo) (hd : decode cc pc = .ok (.invokevirtual index, 3)) (hk : q_Sd p l e R s m args below meth c nL nW dC dI k g A Qf (pc + 3) (K)) : q_Sd p l e R s m args below meth c nL nW dC dI k g A Qf (pc) (x_calln (some ci) np sp K) :=
  s_mono (s_callV X hM h1 h2 h3 h4 h5 hcl hdd hroom hd hk) x_calln_of
end QN9
