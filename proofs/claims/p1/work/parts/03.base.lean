/-! ===== words of one list among another's ===== -/
theorem goodIn_r {big : List Cond} (ws : List Cond) (ps : List Nat) (hp : ws = ps.filterMap (fun i => big[i]?)) (h : ws.all goodWord = true) : GoodIn big ws := by
  intro w hw
  have h1 := List.all_eq_true.mp h w hw
  rw [hp] at hw
  obtain ⟨i, -, hi⟩ := List.mem_filterMap.mp hw
  have hm : w ∈ big := by first | exact List.mem_of_getElem? hi | exact List.getElem?_mem hi
  exact ⟨hm, good_of_word h1⟩
theorem goodIn_app {big a b : List Cond} (ha : GoodIn big a) (hb : GoodIn big b) : GoodIn big (a ++ b) := fun w h => (List.mem_append.mp h).elim (ha w) (hb w)
/-! ===== the classes of the worlds' arrays: one for each kind ===== -/
abbrev tyL (k : Nat → ClassId) : List (ClassId × FieldType) := [(k 0, .int), (k 1, .byte), (k 2, .boolean), (k 3, .long), (k 4, .object "HeightFine$Borough"), (k 5, .object "HeightFine$Year"), (k 6, .object "HeightFine$Ledger"), (k 7, .object "HeightFine$Sight"), (k 8, .object "HeightFine$Told")]
/-! ===== what the tables say that is no word of a list: links to nest mates, arrays over a class ===== -/
def evM : List Cond := [.methodLinkNest RX11 9 yX8_init "HeightFine", .methodLinkNest RX11 22 yX6_init "HeightFine", .methodLinkNest RX11 29 yX9_init "HeightFine", .methodLinkNest RX11 36 yX5_init "HeightFine", .methodLinkNest RX11 43 yX4_init "HeightFine", .methodLinkNest RX11 50 yX2_init "HeightFine", .methodLinkNest RX11 57 yX1_init "HeightFine", .methodLinkNest RX6 20 yX10_init "HeightFine", .methodLinkNest RX6 27 yX3_init "HeightFine", .methodLinkNest RX6 34 yX7_init "HeightFine", .methodLinkNest RX8 28 yX10_init "HeightFine", .methodLinkNest RX8 35 yX3_init "HeightFine", .methodLinkNest RX8 42 yX7_init "HeightFine", .fieldLinkNest RX0 42 "HeightFine" "FIRST_FINES" "[I" "HeightFine"]
def evN (U : State) : Prop := (∀ w ∈ evM, va_Nw w U) ∧ va_AO "HeightFine$Borough" U ∧ va_AO "HeightFine$Year" U ∧ va_AO "HeightFine$Ledger" U ∧ va_AO "HeightFine$Sight" U ∧ va_AO "HeightFine$Told" U
theorem evN_ao {U : State} (h : evN U) : va_AO "HeightFine$Borough" U ∧ va_AO "HeightFine$Year" U ∧ va_AO "HeightFine$Ledger" U ∧ va_AO "HeightFine$Sight" U ∧ va_AO "HeightFine$Told" U := h.2
theorem evN_m_X11_9 {U : State} (h : evN U) : va_Nw (.methodLinkNest RX11 9 yX8_init "HeightFine") U := h.1 _ (List.mem_of_getElem? (i := 0) rfl)
theorem evN_m_X11_22 {U : State} (h : evN U) : va_Nw (.methodLinkNest RX11 22 yX6_init "HeightFine") U := h.1 _ (List.mem_of_getElem? (i := 1) rfl)
theorem evN_m_X11_29 {U : State} (h : evN U) : va_Nw (.methodLinkNest RX11 29 yX9_init "HeightFine") U := h.1 _ (List.mem_of_getElem? (i := 2) rfl)
theorem evN_m_X11_36 {U : State} (h : evN U) : va_Nw (.methodLinkNest RX11 36 yX5_init "HeightFine") U := h.1 _ (List.mem_of_getElem? (i := 3) rfl)
theorem evN_m_X11_43 {U : State} (h : evN U) : va_Nw (.methodLinkNest RX11 43 yX4_init "HeightFine") U := h.1 _ (List.mem_of_getElem? (i := 4) rfl)
theorem evN_m_X11_50 {U : State} (h : evN U) : va_Nw (.methodLinkNest RX11 50 yX2_init "HeightFine") U := h.1 _ (List.mem_of_getElem? (i := 5) rfl)
theorem evN_m_X11_57 {U : State} (h : evN U) : va_Nw (.methodLinkNest RX11 57 yX1_init "HeightFine") U := h.1 _ (List.mem_of_getElem? (i := 6) rfl)
theorem evN_m_X6_20 {U : State} (h : evN U) : va_Nw (.methodLinkNest RX6 20 yX10_init "HeightFine") U := h.1 _ (List.mem_of_getElem? (i := 7) rfl)
theorem evN_m_X6_27 {U : State} (h : evN U) : va_Nw (.methodLinkNest RX6 27 yX3_init "HeightFine") U := h.1 _ (List.mem_of_getElem? (i := 8) rfl)
theorem evN_m_X6_34 {U : State} (h : evN U) : va_Nw (.methodLinkNest RX6 34 yX7_init "HeightFine") U := h.1 _ (List.mem_of_getElem? (i := 9) rfl)
theorem evN_m_X8_28 {U : State} (h : evN U) : va_Nw (.methodLinkNest RX8 28 yX10_init "HeightFine") U := h.1 _ (List.mem_of_getElem? (i := 10) rfl)
theorem evN_m_X8_35 {U : State} (h : evN U) : va_Nw (.methodLinkNest RX8 35 yX3_init "HeightFine") U := h.1 _ (List.mem_of_getElem? (i := 11) rfl)
theorem evN_m_X8_42 {U : State} (h : evN U) : va_Nw (.methodLinkNest RX8 42 yX7_init "HeightFine") U := h.1 _ (List.mem_of_getElem? (i := 12) rfl)
theorem evN_ff {U : State} (h : evN U) : va_Nw (.fieldLinkNest RX0 42 "HeightFine" "FIRST_FINES" "[I" "HeightFine") U := h.1 _ (List.mem_of_getElem? (i := 13) rfl)
theorem evN_warm {s U : State} (hW : s.WarmedH U.vm) (h : evN s) : evN U := by
  refine ⟨fun w hw => ?_, h.2.1.moved hW.alike, h.2.2.1.moved hW.alike, h.2.2.2.1.moved hW.alike, h.2.2.2.2.1.moved hW.alike, h.2.2.2.2.2.moved hW.alike⟩
  have h1 := h.1 w hw
  simp only [evM, List.mem_cons, List.not_mem_nil, or_false] at hw
  rcases hw with rfl | rfl | rfl | rfl | rfl | rfl | rfl | rfl | rfl | rfl | rfl | rfl | rfl | rfl
  all_goals first | exact va_Nw.warmM hW h1 | exact va_Nw.warmF hW h1
theorem evN_same {s U : State} (hv : s.vm = U.vm) (h : evN s) : evN U := by
  refine ⟨fun w hw => ?_, ?_, ?_, ?_, ?_, ?_⟩
  · have h1 := h.1 w hw
    simp only [evM, List.mem_cons, List.not_mem_nil, or_false] at hw
    rcases hw with rfl | rfl | rfl | rfl | rfl | rfl | rfl | rfl | rfl | rfl | rfl | rfl | rfl | rfl
    all_goals exact va_Nw.same rfl hv h1
  · exact va_AO.moved (by rw [hv]; exact Vm.Alike.refl _) h.2.1
  · exact va_AO.moved (by rw [hv]; exact Vm.Alike.refl _) h.2.2.1
  · exact va_AO.moved (by rw [hv]; exact Vm.Alike.refl _) h.2.2.2.1
  · exact va_AO.moved (by rw [hv]; exact Vm.Alike.refl _) h.2.2.2.2.1
  · exact va_AO.moved (by rw [hv]; exact Vm.Alike.refl _) h.2.2.2.2.2
/-- the environment: those words, and the class's own row of first fines, which nobody writes -/
def ev (tF : Nat) (A : Nat → Prop) (U : State) : Prop := evN U ∧ va_Z "HeightFine" "FIRST_FINES" "[I" (.ref tF) A U U.heap ∧ (∃ f : Nat → Int32, va_X tF 4 f U U.heap) ∧ tF < U.heap.size ∧ ¬ A tF
def po (D : va_G) (A : Nat → Prop) (w : va_W) (t : State) : Prop := va_P D vwCl w t.heap ∧ va_D A w
def prR (dC : Nat → ClassId) (dI : Nat → Nat → Nat) (k : Nat → ClassId) (w : va_W) (U : State) : Prop := va_P (dC, dI) vwCl w U.heap ∧ va_K (dC, dI) vwCl (tyL k) U
def prW (dC : Nat → ClassId) (dI : Nat → Nat → Nat) (k : Nat → ClassId) (w : va_W) (sz : Nat) (U : State) : Prop := U.heap.size = sz ∧ va_P (dC, dI) vwCl w U.heap ∧ va_K (dC, dI) vwCl (tyL k) U ∧ va_D (fun _ => True) w
def prE (dC : Nat → ClassId) (dI : Nat → Nat → Nat) (k : Nat → ClassId) (w : va_W) (tF sz : Nat) (U : State) : Prop := U.heap.size = sz ∧ va_P (dC, dI) vwCl w U.heap ∧ va_K (dC, dI) vwCl (tyL k) U ∧ va_D (fun _ => True) w ∧ ev tF (va_A w sz) U
section ZB
variable {dC : Nat → ClassId} {dI : Nat → Nat → Nat} {k : Nat → ClassId} {w : va_W} {sz tF : Nat} {av : List Value}
theorem prN_blind : FrameBlind (va_Pc av (fun _ => True)) := fun _ _ _ _ q => ⟨q.1, trivial⟩
theorem prR_blind : FrameBlind (va_Pc av (prR dC dI k w)) := fun a U g mk q => ⟨q.1, q.2.1, va_K.moved (u := U) (U := U.calling g mk a) (Vm.Alike.refl U.vm) q.2.2⟩
theorem prW_blind : FrameBlind (va_Pc av (prW dC dI k w sz)) := fun a U g mk q => ⟨q.1, q.2.1, q.2.2.1, va_K.moved (u := U) (U := U.calling g mk a) (Vm.Alike.refl U.vm) q.2.2.2.1, q.2.2.2.2⟩
theorem ev_blind {A : Nat → Prop} {U V : State} (hv : U.vm = V.vm) (hh : U.heap = V.heap) (h : ev tF A U) : ev tF A V := by
  obtain ⟨h1, h2, ⟨f, h3⟩, h4, h5⟩ := h
  have hal : U.vm.Alike V.vm := by rw [hv]; exact Vm.Alike.refl _
  refine ⟨evN_same hv h1, ?_, ⟨f, ?_⟩, by rw [← hh]; exact h4, h5⟩
  · rw [← hh]; exact h2.moved hal
  · rw [← hh]; exact h3.moved hal
theorem prE_blind : FrameBlind (va_Pc av (prE dC dI k w tF sz)) := fun a U g mk q => ⟨q.1, q.2.1, q.2.2.1, va_K.moved (u := U) (U := U.calling g mk a) (Vm.Alike.refl U.vm) q.2.2.2.1, q.2.2.2.2.1, ev_blind (U := U) (V := U.calling g mk a) rfl rfl q.2.2.2.2.2⟩
theorem zz_P0 {D : va_G} {cl : List vw_C} {H : Heap} : va_P D cl [] H := fun k q h => by simp at h
theorem zz_D0 {A : Nat → Prop} : va_D A [] := ⟨fun i j p q h => by simp at h, fun k q h => by simp at h⟩
theorem prR_go {s U : State} {H : Heap} (hP : va_P (dC, dI) vwCl w H) (hK : va_K (dC, dI) vwCl (tyL k) s) (hU : U.heap = H) (hW : s.WarmedH U.vm) : prR dC dI k w U := ⟨by rw [hU]; exact hP, va_K.moved hW.alike hK⟩
theorem prW_go {s U : State} {H : Heap} {A : Nat → Prop} (hP : va_P (dC, dI) vwCl w H) (hD : va_D A w) (hK : va_K (dC, dI) vwCl (tyL k) s) (hU : U.heap = H) (hW : s.WarmedH U.vm) : prW dC dI k w H.size U := ⟨by rw [hU], by rw [hU]; exact hP, va_K.moved hW.alike hK, hD.weaken (fun _ _ _ _ => trivial)⟩
theorem ev_go {s U : State} {H : Heap} {A B : Nat → Prop} {locs : List Loc} (hE : ev tF A s) (hS : va_S A s.heap H locs) (hF : ∀ q, B q → A q) (hU : U.heap = H) (hW : s.WarmedH U.vm) : ev tF B U := by
  obtain ⟨h1, h2, ⟨f, h3⟩, h4, h5⟩ := hE
  refine ⟨evN_warm hW h1, ?_, ⟨f, ?_⟩, by rw [hU]; exact Nat.lt_of_lt_of_le h4 hS.1, fun h => h5 (hF _ h)⟩
  · rw [hU]; exact ((h2.kept (fun a ha hn => hS.2.1 a ha hn)).narrow hF).moved hW.alike
  · rw [hU]; exact (h3.kept (hS.2.1 tF h4 h5)).moved hW.alike
theorem prE_go {s U : State} {H : Heap} {A : Nat → Prop} {locs : List Loc} (hP : va_P (dC, dI) vwCl w H) (hD : va_D A w) (hK : va_K (dC, dI) vwCl (tyL k) s) (hE : ev tF A s) (hS : va_S A s.heap H locs) (hF : ∀ q, va_A w H.size q → A q) (hU : U.heap = H) (hW : s.WarmedH U.vm) : prE dC dI k w tF H.size U := ⟨by rw [hU], by rw [hU]; exact hP, va_K.moved hW.alike hK, hD.weaken (fun _ _ _ _ => trivial), ev_go hE hS hF hU hW⟩
end ZB
section ZA
variable {p : Program} {l : Launch} {e : Env} {R : Room} {s : State} {m : MethodId} {args : Array Value} {below : List Frame} {meth : Method} {c : Code} {H : Heap} {locs : List Loc} {cells slots : Nat} {Q : State → Prop}
variable {cc : ByteArray} {pc : Nat} {ls : Array Slot} {rest : List Value} {D : va_G} {cl : List vw_C} {A : Nat → Prop} {a : Nat} {tys : List (ClassId × FieldType)} {ws : va_W} {H0 : Heap}
theorem zz_anyc {q1 : Nat} {c1 : ClassId} {n1 : Nat} {g : Nat → Int32} (hP : va_P D cl (ws.set q1 (a, .inl (c1, n1, .inl g))) H) (hD : va_D A (ws.set q1 (a, .inl (c1, n1, .inl g)))) : ∃ f : Nat → Int32, va_P D cl (ws.set q1 (a, .inl (c1, n1, .inl f))) H ∧ va_D A (ws.set q1 (a, .inl (c1, n1, .inl f))) := ⟨g, hP, hD⟩
/-- a new array of a kind whose class is known -/
theorem zz_newa (hexec : p.tables.exec = Jvm.exec) (hb : c.code = cc) {atype : ArrayType} (harr : (Cond.arrayClass (newarray.typeOf atype)).before args s = true) {ty : FieldType} (hty : newarray.typeOf atype = ty) {t0 : Nat} {cA : ClassId} (ht : tys[t0]? = some (cA, ty)) (hp : refKind ty = false) (hK : va_K D cl tys s) (hP : va_P D cl ws H) (hD : va_D A ws) (hS : va_S A H0 H locs) (hA : ∀ q, H0.size ≤ q → A q)
    {n : Int32} {N' : Nat} {a0 : vp_A} (ha : ∀ cA : ClassId, vp_cell cA a0 = arrV cA N' (fun _ => defaultValue ty)) (hn : ¬ n < 0) (hN : n.toNatClampNeg = N') (hbytes : N' * componentBytes ty ≤ 536870912) (hcells : cells + 1 ≤ R.cells) (hslots : slots + N' ≤ R.slots) (hdg : decode cc pc = .ok (.newarray atype, 2))
    (kk : ∀ (q : Nat) (H1 : Heap), va_P D cl (ws ++ [(q, .inl (cA, a0))]) H1 → va_D A (ws ++ [(q, .inl (cA, a0))]) → va_S A H0 H1 locs →
      W p l e R s m args below meth c H1 locs (cells + 1) (slots + N') Q (F0 m (pc + 2) ls (.ref q :: rest))) : W p l e R s m args below meth c H locs cells slots Q (F0 m pc ls (.int n :: rest)) := by
  refine va_newa hexec hb harr hty hK hP hD hS hA ha hn hN hbytes hcells hslots hdg (fun q cB H1 hK1 hP1 hD1 hS1 => ?_)
  have h1 := (hK.2 t0 _ ht).2
  have h2 := (hK1.2 tys.length (cB, ty) (by simp)).2
  have he : cB = cA := by
    cases ty with
    | object C => simp [refKind] at hp
    | array t => simp [refKind] at hp
    | _ =>
      have e := h1.symm.trans h2
      exact (Option.some.inj e).symm
  subst he
  exact kk q H1 hP1 hD1 hS1
/-- a new array over a class whose arrays' class is known -/
theorem zz_newq (hexec : p.tables.exec = Jvm.exec) (hb : c.code = cc) {own C : String} {index : Nat} (hown : s.vm.findClass own = some m.cls) (hclink : (Cond.classLink own index C).before args s = true) (hover : va_AO C s) {t0 : Nat} {cA : ClassId} (ht : tys[t0]? = some (cA, .object C)) (hK : va_K D cl tys s) (hP : va_P D cl ws H) (hD : va_D A ws) (hS : va_S A H0 H locs) (hA : ∀ q, H0.size ≤ q → A q)
    {n : Int32} {N' : Nat} (hn : ¬ n < 0) (hN : n.toNatClampNeg = N') (hbytes : N' * 4 ≤ 536870912) (hcells : cells + 1 ≤ R.cells) (hslots : slots + N' ≤ R.slots) (hdg : decode cc pc = .ok (.anewarray index, 3))
    (kk : ∀ (q : Nat) (H1 : Heap), va_P D cl (ws ++ [(q, .inl (cA, N', .inr (.inr (.inr (.inr (fun _ => none))))))]) H1 → va_D A (ws ++ [(q, .inl (cA, N', .inr (.inr (.inr (.inr (fun _ => none))))))]) → va_S A H0 H1 locs →
      W p l e R s m args below meth c H1 locs (cells + 1) (slots + N') Q (F0 m (pc + 3) ls (.ref q :: rest))) : W p l e R s m args below meth c H locs cells slots Q (F0 m pc ls (.int n :: rest)) := by
  refine va_newq hexec hb hown hclink hover hK hP hD hS hA hn hN hbytes hcells hslots hdg (fun q cB H1 hK1 hP1 hD1 hS1 => ?_)
  obtain ⟨_, _, _, _, _, h1⟩ := (hK.2 t0 _ ht).2
  obtain ⟨_, _, _, _, _, h2⟩ := (hK1.2 tys.length (cB, .object C) (by simp)).2
  have he : cB = cA := (Option.some.inj (h1.symm.trans h2)).symm
  subst he
  exact kk q H1 hP1 hD1 hS1
end ZA
theorem zz_in {i : Int32} {n : Nat} (h : ¬ (i < 0 ∨ n ≤ i.toNatClampNeg)) : vp_in i n := h
def fs (l : List Nat) (i : Nat) : Nat := l.getD i 0
def fc (l : List (Nat → Int32)) (i : Nat) : Nat → Int32 := l.getD i (fun _ => 0)
def inR (v lo hi : Int32) : Int32 := if v < lo then 0 else if hi < v then 0 else 1
theorem fa_lt (a b : Int32) : a < b ↔ a.toInt < b.toInt := Int32.lt_iff_toInt_lt
theorem fa_le (a b : Int32) : a ≤ b ↔ a.toInt ≤ b.toInt := Int32.le_iff_toInt_le
