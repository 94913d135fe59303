/-! ===== words of one list among another's ===== -/
theorem goodIn_r {big : List Cond} (ws : List Cond) (ps : List Nat) (hp : ws = ps.filterMap (fun i => big[i]?)) (h : ws.all goodWord = true) : GoodIn big ws := by
  intro w hw
  have h1 := List.all_eq_true.mp h w hw
  rw [hp] at hw
  obtain ⟨i, -, hi⟩ := List.mem_filterMap.mp hw
  have hm : w ∈ big := by first | exact List.mem_of_getElem? hi | exact List.getElem?_mem hi
  exact ⟨hm, good_of_word h1⟩
theorem goodIn_app {big a b : List Cond} (ha : GoodIn big a) (hb : GoodIn big b) : GoodIn big (a ++ b) := fun w h => (List.mem_append.mp h).elim (ha w) (hb w)
/-! ===== the classes of the worlds' arrays: one for each kind ===== -/
abbrev tyL (k : Nat → ClassId) : List (ClassId × FieldType) := [(k 0, .int), (k 1, .byte), (k 2, .boolean), (k 3, .long), (k 4, .object "HeightFine$Borough"), (k 5, .object "HeightFine$Year"), (k 6, .object "HeightFine$Ledger"), (k 7, .object "HeightFine$Sight"), (k 8, .object "HeightFine$Told")]
/-! ===== what the tables say that is no word of a list: links to nest mates, arrays over a class ===== -/
def evM : List Cond := [.methodLinkNest RX11 9 yX8_init "HeightFine", .methodLinkNest RX11 22 yX6_init "HeightFine", .methodLinkNest RX11 29 yX9_init "HeightFine", .methodLinkNest RX11 36 yX5_init "HeightFine", .methodLinkNest RX11 43 yX4_init "HeightFine", .methodLinkNest RX11 50 yX2_init "HeightFine", .methodLinkNest RX11 57 yX1_init "HeightFine", .methodLinkNest RX6 20 yX10_init "HeightFine", .methodLinkNest RX6 27 yX3_init "HeightFine", .methodLinkNest RX6 34 yX7_init "HeightFine", .methodLinkNest RX8 28 yX10_init "HeightFine", .methodLinkNest RX8 35 yX3_init "HeightFine", .methodLinkNest RX8 42 yX7_init "HeightFine", .fieldLinkNest RX0 42 "HeightFine" "FIRST_FINES" "[I" "HeightFine"]
def evN (U : State) : Prop := (∀ w ∈ evM, va_Nw w U) ∧ va_AO "HeightFine$Borough" U ∧ va_AO "HeightFine$Year" U ∧ va_AO "HeightFine$Ledger" U ∧ va_AO "HeightFine$Sight" U ∧ va_AO "HeightFine$Told" U
theorem evN_ao {U : State} (h : evN U) : va_AO "HeightFine$Borough" U ∧ va_AO "HeightFine$Year" U ∧ va_AO "HeightFine$Ledger" U ∧ va_AO "HeightFine$Sight" U ∧ va_AO "HeightFine$Told" U := h.2
theorem evN_m_X11_9 {U : State} (h : evN U) : va_Nw (.methodLinkNest RX11 9 yX8_init "HeightFine") U := h.1 _ (List.mem_of_getElem? (i := 0) rfl)
theorem evN_m_X11_22 {U : State} (h : evN U) : va_Nw (.methodLinkNest RX11 22 yX6_init "HeightFine") U := h.1 _ (List.mem_of_getElem? (i := 1) rfl)
theorem evN_m_X11_29 {U : State} (h : evN U) : va_Nw (.methodLinkNest RX11 29 yX9_init "HeightFine") U := h.1 _ (List.mem_of_getElem? (i := 2) rfl)
theorem evN_m_X11_36 {U : State} (h : evN U) : va_Nw (.methodLinkNest RX11 36 yX5_init "HeightFine") U := h.1 _ (List.mem_of_getElem? (i := 3) rfl)
theorem evN_m_X11_43 {U : State} (h : evN U) : va_Nw (.methodLinkNest RX11 43 yX4_init "HeightFine") U := h.1 _ (List.mem_of_getElem? (i := 4) rfl)
theorem evN_m_X11_50 {U : State} (h : evN U) : va_Nw (.methodLinkNest RX11 50 yX2_init "HeightFine") U := h.1 _ (List.mem_of_getElem? (i := 5) rfl)
theorem evN_m_X11_57 {U : State} (h : evN U) : va_Nw (.methodLinkNest RX11 57 yX1_init "HeightFine") U := h.1 _ (List.mem_of_getElem? (i := 6) rfl)
theorem evN_m_X6_20 {U : State} (h : evN U) : va_Nw (.methodLinkNest RX6 20 yX10_init "HeightFine") U := h.1 _ (List.mem_of_getElem? (i := 7) rfl)
theorem evN_m_X6_27 {U : State} (h : evN U) : va_Nw (.methodLinkNest RX6 27 yX3_init "HeightFine") U := h.1 _ (List.mem_of_getElem? (i := 8) rfl)
theorem evN_m_X6_34 {U : State} (h : evN U) : va_Nw (.methodLinkNest RX6 34 yX7_init "HeightFine") U := h.1 _ (List.mem_of_getElem? (i := 9) rfl)
theorem evN_m_X8_28 {U : State} (h : evN U) : va_Nw (.methodLinkNest RX8 28 yX10_init "HeightFine") U := h.1 _ (List.mem_of_getElem? (i := 10) rfl)
theorem evN_m_X8_35 {U : State} (h : evN U) : va_Nw (.methodLinkNest RX8 35 yX3_init "HeightFine") U := h.1 _ (List.mem_of_getElem? (i := 11) rfl)
theorem evN_m_X8_42 {U : State} (h : evN U) : va_Nw (.methodLinkNest RX8 42 yX7_init "HeightFine") U := h.1 _ (List.mem_of_getElem? (i := 12) rfl)
theorem evN_ff {U : State} (h : evN U) : va_Nw (.fieldLinkNest RX0 42 "HeightFine" "FIRST_FINES" "[I" "HeightFine") U := h.1 _ (List.mem_of_getElem? (i := 13) rfl)
theorem evN_warm {s U : State} (hW : s.WarmedH U.vm) (h : evN s) : evN U := by
  refine ⟨fun w hw => ?_, h.2.1.moved hW.alike, h.2.2.1.moved hW.alike, h.2.2.2.1.moved hW.alike, h.2.2.2.2.1.moved hW.alike, h.2.2.2.2.2.moved hW.alike⟩
  have h1 := h.1 w hw
  simp only [evM, List.mem_cons, List.not_mem_nil, or_false] at hw
  rcases hw with rfl | rfl | rfl | rfl | rfl | rfl | rfl | rfl | rfl | rfl | rfl | rfl | rfl | rfl
  all_goals first | exact va_Nw.warmM hW h1 | exact va_Nw.warmF hW h1
theorem evN_same {s U : State} (hv : s.vm = U.vm) (h : evN s) : evN U := by
  refine ⟨fun w hw => ?_, ?_, ?_, ?_, ?_, ?_⟩
  · have h1 := h.1 w hw
    simp only [evM, List.mem_cons, List.not_mem_nil, or_false] at hw
    rcases hw with rfl | rfl | rfl | rfl | rfl | rfl | rfl | rfl | rfl | rfl | rfl | rfl | rfl | rfl
    all_goals exact va_Nw.same rfl hv h1
  · exact va_AO.moved (by rw [hv]; exact Vm.Alike.refl _) h.2.1
  · exact va_AO.moved (by rw [hv]; exact Vm.Alike.refl _) h.2.2.1
  · exact va_AO.moved (by rw [hv]; exact Vm.Alike.refl _) h.2.2.2.1
  · exact va_AO.moved (by rw [hv]; exact Vm.Alike.refl _) h.2.2.2.2.1
  · exact va_AO.moved (by rw [hv]; exact Vm.Alike.refl _) h.2.2.2.2.2
/-- the environment: those words, and the class's own row of first fines, which nobody writes -/
def ev (tF : Nat) (A : Nat → Prop) (U : State) : Prop := evN U ∧ va_Z "HeightFine" "FIRST_FINES" "[I" (.ref tF) A U U.heap ∧ (∃ f : Nat → Int32, va_X tF 4 f U U.heap) ∧ tF < U.heap.size ∧ ¬ A tF
def po (D : va_G) (A : Nat → Prop) (w : va_W) (t : State) : Prop := va_P D vwCl w t.heap ∧ va_D A w
def prR (dC : Nat → ClassId) (dI : Nat → Nat → Nat) (k : Nat → ClassId) (w : va_W) (U : State) : Prop := va_P (dC, dI) vwCl w U.heap ∧ va_K (dC, dI) vwCl (tyL k) U
def prW (dC : Nat → ClassId) (dI : Nat → Nat → Nat) (k : Nat → ClassId) (w : va_W) (sz : Nat) (U : State) : Prop := U.heap.size = sz ∧ va_P (dC, dI) vwCl w U.heap ∧ va_K (dC, dI) vwCl (tyL k) U ∧ va_D (fun _ => True) w
def prE (dC : Nat → ClassId) (dI : Nat → Nat → Nat) (k : Nat → ClassId) (w : va_W) (tF sz : Nat) (U : State) : Prop := U.heap.size = sz ∧ va_P (dC, dI) vwCl w U.heap ∧ va_K (dC, dI) vwCl (tyL k) U ∧ va_D (fun _ => True) w ∧ ev tF (va_A w sz) U
section ZB
variable {dC : Nat → ClassId} {dI : Nat → Nat → Nat} {k : Nat → ClassId} {w : va_W} {sz tF : Nat} {av : List Value}
theorem prN_blind : FrameBlind (va_Pc av (fun _ => True)) := fun _ _ _ _ q => ⟨q.1, trivial⟩
theorem prR_blind : FrameBlind (va_Pc av (prR dC dI k w)) := fun a U g mk q => ⟨q.1, q.2.1, va_K.moved (u := U) (U := U.calling g mk a) (Vm.Alike.refl U.vm) q.2.2⟩
theorem prW_blind : FrameBlind (va_Pc av (prW dC dI k w sz)) := fun a U g mk q => ⟨q.1, q.2.1, q.2.2.1, va_K.moved (u := U) (U := U.calling g mk a) (Vm.Alike.refl U.vm) q.2.2.2.1, q.2.2.2.2⟩
theorem ev_blind {A : Nat → Prop} {U V : State} (hv : U.vm = V.vm) (hh : U.heap = V.heap) (h : ev tF A U) : ev tF A V := by
  obtain ⟨h1, h2, ⟨f, h3⟩, h4, h5⟩ := h
  have hal : U.vm.Alike V.vm := by rw [hv]; exact Vm.Alike.refl _
  refine ⟨evN_same hv h1, ?_, ⟨f, ?_⟩, by rw [← hh]; exact h4, h5⟩
  · rw [← hh]; exact h2.moved hal
  · rw [← hh]; exact h3.moved hal
theorem prE_blind : FrameBlind (va_Pc av (prE dC dI k w tF sz)) := fun a U g mk q => ⟨q.1, q.2.1, q.2.2.1, va_K.moved (u := U) (U := U.calling g mk a) (Vm.Alike.refl U.vm) q.2.2.2.1, q.2.2.2.2.1, ev_blind (U := U) (V := U.calling g mk a) rfl rfl q.2.2.2.2.2⟩
theorem zz_P0 {D : va_G} {cl : List vw_C} {H : Heap} : va_P D cl [] H := fun k q h => by simp at h
theorem zz_D0 {A : Nat → Prop} : va_D A [] := ⟨fun i j p q h => by simp at h, fun k q h => by simp at h⟩
theorem prR_go {s U : State} {H : Heap} (hP : va_P (dC, dI) vwCl w H) (hK : va_K (dC, dI) vwCl (tyL k) s) (hU : U.heap = H) (hW : s.WarmedH U.vm) : prR dC dI k w U := ⟨by rw [hU]; exact hP, va_K.moved hW.alike hK⟩
theorem prW_go {s U : State} {H : Heap} {A : Nat → Prop} (hP : va_P (dC, dI) vwCl w H) (hD : va_D A w) (hK : va_K (dC, dI) vwCl (tyL k) s) (hU : U.heap = H) (hW : s.WarmedH U.vm) : prW dC dI k w H.size U := ⟨by rw [hU], by rw [hU]; exact hP, va_K.moved hW.alike hK, hD.weaken (fun _ _ _ _ => trivial)⟩
theorem ev_go {s U : State} {H : Heap} {A B : Nat → Prop} {locs : List Loc} (hE : ev tF A s) (hS : va_S A s.heap H locs) (hF : ∀ q, B q → A q) (hU : U.heap = H) (hW : s.WarmedH U.vm) : ev tF B U := by
  obtain ⟨h1, h2, ⟨f, h3⟩, h4, h5⟩ := hE
  refine ⟨evN_warm hW h1, ?_, ⟨f, ?_⟩, by rw [hU]; exact Nat.lt_of_lt_of_le h4 hS.1, fun h => h5 (hF _ h)⟩
  · rw [hU]; exact ((h2.kept (fun a ha hn => hS.2.1 a ha hn)).narrow hF).moved hW.alike
  · rw [hU]; exact (h3.kept (hS.2.1 tF h4 h5)).moved hW.alike
theorem prE_go {s U : State} {H : Heap} {A : Nat → Prop} {locs : List Loc} (hP : va_P (dC, dI) vwCl w H) (hD : va_D A w) (hK : va_K (dC, dI) vwCl (tyL k) s) (hE : ev tF A s) (hS : va_S A s.heap H locs) (hF : ∀ q, va_A w H.size q → A q) (hU : U.heap = H) (hW : s.WarmedH U.vm) : prE dC dI k w tF H.size U := ⟨by rw [hU], by rw [hU]; exact hP, va_K.moved hW.alike hK, hD.weaken (fun _ _ _ _ => trivial), ev_go hE hS hF hU hW⟩
end ZB
section ZA
variable {p : Program} {l : Launch} {e : Env} {R : Room} {s : State} {m : MethodId} {args : Array Value} {below : List Frame} {meth : Method} {c : Code} {H : Heap} {locs : List Loc} {cells slots : Nat} {Q : State → Prop}
variable {cc : ByteArray} {pc : Nat} {ls : Array Slot} {rest : List Value} {D : va_G} {cl : List vw_C} {A : Nat → Prop} {a : Nat} {tys : List (ClassId × FieldType)} {ws : va_W} {H0 : Heap}
theorem zz_anyc {q1 : Nat} {c1 : ClassId} {n1 : Nat} {g : Nat → Int32} (hP : va_P D cl (ws.set q1 (a, .inl (c1, n1, .inl g))) H) (hD : va_D A (ws.set q1 (a, .inl (c1, n1, .inl g)))) : ∃ f : Nat → Int32, va_P D cl (ws.set q1 (a, .inl (c1, n1, .inl f))) H ∧ va_D A (ws.set q1 (a, .inl (c1, n1, .inl f))) := ⟨g, hP, hD⟩
theorem zz_aldr (hexec : p.tables.exec = Jvm.exec) (hb : c.code = cc) (hK : va_K D cl tys s) (hP : va_P D cl ws H) (q0 t0 : Nat) {cA : ClassId} {C : String} {n : Nat} {f : Nat → Option Nat} (ha : ws[q0]? = some (a, .inl (cA, n, .inr (.inr (.inr (.inr f)))))) (ht : tys[t0]? = some (cA, .object C)) {i : Int32} (hin : vp_in i n) {v : Nat} (hv : f i.toNatClampNeg = some v) (hdg : decode cc pc = .ok (.aaload, 1))
    (kk : W p l e R s m args below meth c H locs cells slots Q (F0 m (pc + 1) ls (.ref v :: rest))) : W p l e R s m args below meth c H locs cells slots Q (F0 m pc ls (.int i :: .ref a :: rest)) := by
  refine va_aldq hexec hb hK hP q0 t0 ha ht hin hdg ?_
  rw [hv]
  exact kk
/-- a new array of a kind whose class is known -/
theorem zz_newa (hexec : p.tables.exec = Jvm.exec) (hb : c.code = cc) {atype : ArrayType} (harr : (Cond.arrayClass (newarray.typeOf atype)).before args s = true) {ty : FieldType} (hty : newarray.typeOf atype = ty) {t0 : Nat} {cA : ClassId} (ht : tys[t0]? = some (cA, ty)) (hp : refKind ty = false) (hK : va_K D cl tys s) (hP : va_P D cl ws H) (hD : va_D A ws) (hS : va_S A H0 H locs) (hA : ∀ q, H0.size ≤ q → A q)
    {n : Int32} {N' : Nat} {a0 : vp_A} (ha : ∀ cA : ClassId, vp_cell cA a0 = arrV cA N' (fun _ => defaultValue ty)) (hn : ¬ n < 0) (hN : n.toNatClampNeg = N') (hbytes : N' * componentBytes ty ≤ 536870912) (hcells : cells + 1 ≤ R.cells) (hslots : slots + N' ≤ R.slots) (hdg : decode cc pc = .ok (.newarray atype, 2))
    (kk : ∀ (q : Nat) (H1 : Heap), va_P D cl (ws ++ [(q, .inl (cA, a0))]) H1 → va_D A (ws ++ [(q, .inl (cA, a0))]) → va_S A H0 H1 locs →
      W p l e R s m args below meth c H1 locs (cells + 1) (slots + N') Q (F0 m (pc + 2) ls (.ref q :: rest))) : W p l e R s m args below meth c H locs cells slots Q (F0 m pc ls (.int n :: rest)) := by
  refine va_newa hexec hb harr hty hK hP hD hS hA ha hn hN hbytes hcells hslots hdg (fun q cB H1 hK1 hP1 hD1 hS1 => ?_)
  have h1 := (hK.2 t0 _ ht).2
  have h2 := (hK1.2 tys.length (cB, ty) (by simp)).2
  have he : cB = cA := by
    cases ty with
    | object C => simp [refKind] at hp
    | array t => simp [refKind] at hp
    | _ =>
      have e := h1.symm.trans h2
      exact (Option.some.inj e).symm
  subst he
  exact kk q H1 hP1 hD1 hS1
/-- a new array over a class whose arrays' class is known -/
theorem zz_newq (hexec : p.tables.exec = Jvm.exec) (hb : c.code = cc) {own C : String} {index : Nat} (hown : s.vm.findClass own = some m.cls) (hclink : (Cond.classLink own index C).before args s = true) (hover : va_AO C s) {t0 : Nat} {cA : ClassId} (ht : tys[t0]? = some (cA, .object C)) (hK : va_K D cl tys s) (hP : va_P D cl ws H) (hD : va_D A ws) (hS : va_S A H0 H locs) (hA : ∀ q, H0.size ≤ q → A q)
    {n : Int32} {N' : Nat} (hn : ¬ n < 0) (hN : n.toNatClampNeg = N') (hbytes : N' * 4 ≤ 536870912) (hcells : cells + 1 ≤ R.cells) (hslots : slots + N' ≤ R.slots) (hdg : decode cc pc = .ok (.anewarray index, 3))
    (kk : ∀ (q : Nat) (H1 : Heap), va_P D cl (ws ++ [(q, .inl (cA, N', .inr (.inr (.inr (.inr (fun _ => none))))))]) H1 → va_D A (ws ++ [(q, .inl (cA, N', .inr (.inr (.inr (.inr (fun _ => none))))))]) → va_S A H0 H1 locs →
      W p l e R s m args below meth c H1 locs (cells + 1) (slots + N') Q (F0 m (pc + 3) ls (.ref q :: rest))) : W p l e R s m args below meth c H locs cells slots Q (F0 m pc ls (.int n :: rest)) := by
  refine va_newq hexec hb hown hclink hover hK hP hD hS hA hn hN hbytes hcells hslots hdg (fun q cB H1 hK1 hP1 hD1 hS1 => ?_)
  obtain ⟨_, _, _, _, _, h1⟩ := (hK.2 t0 _ ht).2
  obtain ⟨_, _, _, _, _, h2⟩ := (hK1.2 tys.length (cB, .object C) (by simp)).2
  have he : cB = cA := (Option.some.inj (h1.symm.trans h2)).symm
  subst he
  exact kk q H1 hP1 hD1 hS1
end ZA
theorem zz_in {i : Int32} {n : Nat} (h : ¬ (i < 0 ∨ n ≤ i.toNatClampNeg)) : vp_in i n := h
def fs (l : List Nat) (i : Nat) : Nat := l.getD i 0
def fc (l : List (Nat → Int32)) (i : Nat) : Nat → Int32 := l.getD i (fun _ => 0)
def inR (v lo hi : Int32) : Int32 := if v < lo then 0 else if hi < v then 0 else 1
theorem inR_e (v : Int32) : inR v 0 (-1) = 0 := by
  unfold inR
  split
  · rfl
  · rename_i h
    rw [if_pos]
    rw [Int32.lt_iff_toInt_lt] at h ⊢
    have e0 : (0 : Int32).toInt = 0 := rfl
    have e1 : (-1 : Int32).toInt = -1 := rfl
    omega
theorem inR_1 {v lo hi : Int32} (h : ¬ inR v lo hi = 0) : ¬ v < lo ∧ ¬ hi < v := by
  unfold inR at h
  by_cases h1 : v < lo
  · rw [if_pos h1] at h; exact absurd rfl h
  · by_cases h2 : hi < v
    · rw [if_neg h1, if_pos h2] at h; exact absurd rfl h
    · exact ⟨h1, h2⟩
theorem zz_inr {s : Int32} (n : Nat) (hn : n < 2 ^ 31) (h1 : ¬ s < 0) (h2 : ¬ nI n ≤ s) : vp_in s n := by
  rw [vp_in_iff]
  rw [Int32.lt_iff_toInt_lt] at h1
  rw [Int32.le_iff_toInt_le, nI_toInt hn] at h2
  have e0 : (0 : Int32).toInt = 0 := rfl
  omega
theorem zz_inI {v lo hi : Int32} (n : Nat) (h : ¬ inR v lo hi = 0) (h0 : 0 ≤ lo.toInt) (h1 : hi.toInt < n) : vp_in v n := by
  rw [vp_in_iff]
  obtain ⟨a, b⟩ := inR_1 h
  rw [Int32.lt_iff_toInt_lt] at a b
  omega
theorem inR_bool (v lo hi : Int32) : narrow .boolean (.int (inR v lo hi)) = .int (inR v lo hi) := by
  unfold inR
  split
  · rfl
  · split <;> rfl
theorem zz_ix (a j N : Nat) (h : a + j < N) (hN : N < 2 ^ 31) {x : Int32} (hx : x = nI a) : vp_in (x + nI j) N := by
  rw [hx, nI_add]
  exact vp_in_nI h hN
theorem zz_ixm (a b j N : Nat) (h : a * b + j < N) (hN : N < 2 ^ 31) {x y : Int32} (hx : x = nI a) (hy : y = nI b) : vp_in (x * y + nI j) N := by
  rw [hx, hy, pk_mul, nI_add]
  exact vp_in_nI h hN
theorem zz_ge {j N : Nat} {x : Int32} (hx : x = nI N) (h : j < N) (hN : N < 2 ^ 31) : ¬ x ≤ nI j := by
  rw [hx]
  exact nI_ge h hN
def blI (f : Nat → Int32) (j : Nat) : Prop := (0 < j → f 0 = 0) ∧ (3 < j → f 3 = 0)
theorem blI_0 {f : Nat → Int32} {j : Nat} (hj : j < 161) (h : blI f j) : blI (upd f (nI j).toNatClampNeg 0) (j + 1) := by
  rw [nI_clamp (by omega)]
  refine ⟨fun _ => ?_, fun h3 => ?_⟩
  · by_cases e : 0 = j
    · rw [← e]; exact pk_us
    · rw [pk_un e]; exact h.1 (by omega)
  · by_cases e : 3 = j
    · rw [← e]; exact pk_us
    · rw [pk_un e]; exact h.2 (by omega)
theorem blI_1 {f : Nat → Int32} {j : Nat} {x : Int32} (hj : j < 161) (h : blI f j) (hc : ¬ inR (nI j) 13 20 = 0) : blI (upd f (nI j).toNatClampNeg x) (j + 1) := by
  have h1 := (inR_1 hc).1
  rw [Int32.lt_iff_toInt_lt, nI_toInt (by omega)] at h1
  have e13 : (13 : Int32).toInt = 13 := rfl
  rw [nI_clamp (by omega)]
  refine ⟨fun _ => ?_, fun h3 => ?_⟩
  · rw [pk_un (by omega)]; exact h.1 (by omega)
  · rw [pk_un (by omega)]; exact h.2 (by omega)
def pfR (s a : Int32) : Int32 := if s < 0 then -1 else if (4 : Int32) ≤ s then -1 else if a = -1 then 0 else -1
theorem pfR_no {s a : Int32} (h : pfR s a = -1) (hc : ¬ inR s 0 3 = 0) : ¬ a = -1 := by
  intro ha
  obtain ⟨h1, h2⟩ := inR_1 hc
  unfold pfR at h
  have h3 : ¬ (4 : Int32) ≤ s := by
    rw [Int32.le_iff_toInt_le]
    rw [Int32.lt_iff_toInt_lt] at h2
    have e3 : (3 : Int32).toInt = 3 := rfl
    have e4 : (4 : Int32).toInt = 4 := rfl
    omega
  rw [if_neg h1, if_neg h3, if_pos ha] at h
  exact absurd h (by decide)
theorem pfR_or (s a : Int32) : pfR s a = -1 ∨ ((s = 0 ∨ s = 1 ∨ s = 2 ∨ s = 3) ∧ a = -1) := by
  unfold pfR
  by_cases h1 : s < 0
  · left; rw [if_pos h1]
  · by_cases h2 : (4 : Int32) ≤ s
    · left; rw [if_neg h1, if_pos h2]
    · by_cases h3 : a = -1
      · right
        refine ⟨?_, h3⟩
        rw [Int32.lt_iff_toInt_lt] at h1
        rw [Int32.le_iff_toInt_le] at h2
        have e0 : (0 : Int32).toInt = 0 := rfl
        have e4 : (4 : Int32).toInt = 4 := rfl
        have h4 : s.toInt = 0 ∨ s.toInt = 1 ∨ s.toInt = 2 ∨ s.toInt = 3 := by omega
        rcases h4 with h | h | h | h
        · exact Or.inl (Int32.toInt_inj.mp h)
        · exact Or.inr (Or.inl (Int32.toInt_inj.mp h))
        · exact Or.inr (Or.inr (Or.inl (Int32.toInt_inj.mp h)))
        · exact Or.inr (Or.inr (Or.inr (Int32.toInt_inj.mp h)))
      · left; rw [if_neg h1, if_neg h2, if_neg h3]
def cnR (s : Int32) : Int32 := if s < 0 then -2 else if (4 : Int32) ≤ s then -2 else 0
def enR (n x : Int32) : Int32 := if n < 0 then -1 else if x < n then -1 else n
def faR (w x y : Int32) : Int32 := if w = 0 then x else if w = 1 then y else -1
theorem fa_lt (a b : Int32) : a < b ↔ a.toInt < b.toInt := Int32.lt_iff_toInt_lt
theorem fa_le (a b : Int32) : a ≤ b ↔ a.toInt ≤ b.toInt := Int32.le_iff_toInt_le
