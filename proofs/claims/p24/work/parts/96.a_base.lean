def FF0 : Nat → Int32 := fun i => Int32.ofInt (qs_0.getD i 0)
def FGv (f : Nat → Int32) : Prop := ∀ i : Nat, i < 4 → 0 ≤ (f i).toInt ∧ (f i).toInt ≤ 9
theorem FGv_c (h : Nat → Int32) : FGv (va_cpy FF0 h (0 : Int32).toNatClampNeg (0 : Int32).toNatClampNeg (4 : Int32).toNatClampNeg) := by
  intro i hi
  rcases (show i = 0 ∨ i = 1 ∨ i = 2 ∨ i = 3 by omega) with rfl | rfl | rfl | rfl
  · show 0 ≤ (FF0 0).toInt ∧ (FF0 0).toInt ≤ 9; decide
  · show 0 ≤ (FF0 1).toInt ∧ (FF0 1).toInt ≤ 9; decide
  · show 0 ≤ (FF0 2).toInt ∧ (FF0 2).toInt ≤ 9; decide
  · show 0 ≤ (FF0 3).toInt ∧ (FF0 3).toInt ≤ 9; decide
def ew (tF : Nat) (A : Nat → Prop) (U : State) : Prop := evN U ∧ va_Z "HeightFine" "FIRST_FINES" "[I" (.ref tF) A U U.heap ∧ va_X tF 4 FF0 U U.heap ∧ tF < U.heap.size ∧ ¬ A tF
def prF (dC : Nat → ClassId) (dI : Nat → Nat → Nat) (k : Nat → ClassId) (w : va_W) (tF sz : Nat) (U : State) : Prop := U.heap.size = sz ∧ va_P (dC, dI) vwCl w U.heap ∧ va_K (dC, dI) vwCl (tyL k) U ∧ va_D (fun _ => True) w ∧ ew tF (va_A w sz) U
section ZF
variable {dC : Nat → ClassId} {dI : Nat → Nat → Nat} {k : Nat → ClassId} {w : va_W} {sz tF : Nat} {av : List Value}
theorem ew_blind {A : Nat → Prop} {U V : State} (hv : U.vm = V.vm) (hh : U.heap = V.heap) (h : ew tF A U) : ew tF A V := by
  obtain ⟨h1, h2, h3, h4, h5⟩ := h
  have hal : U.vm.Alike V.vm := by rw [hv]; exact Vm.Alike.refl _
  refine ⟨evN_same hv h1, ?_, ?_, by rw [← hh]; exact h4, h5⟩
  · rw [← hh]; exact h2.moved hal
  · rw [← hh]; exact h3.moved hal
theorem prF_blind : FrameBlind (va_Pc av (prF dC dI k w tF sz)) := fun a U g mk q => ⟨q.1, q.2.1, q.2.2.1, va_K.moved (u := U) (U := U.calling g mk a) (Vm.Alike.refl U.vm) q.2.2.2.1, q.2.2.2.2.1, ew_blind (U := U) (V := U.calling g mk a) rfl rfl q.2.2.2.2.2⟩
theorem ew_go {s U : State} {H : Heap} {A B : Nat → Prop} {locs : List Loc} (hE : ew tF A s) (hS : va_S A s.heap H locs) (hF : ∀ q, B q → A q) (hU : U.heap = H) (hW : s.WarmedH U.vm) : ew tF B U := by
  obtain ⟨h1, h2, h3, h4, h5⟩ := hE
  refine ⟨evN_warm hW h1, ?_, ?_, by rw [hU]; exact Nat.lt_of_lt_of_le h4 hS.1, fun h => h5 (hF _ h)⟩
  · rw [hU]; exact ((h2.kept (fun a ha hn => hS.2.1 a ha hn)).narrow hF).moved hW.alike
  · rw [hU]; exact (h3.kept (hS.2.1 tF h4 h5)).moved hW.alike
theorem prF_go {s U : State} {H : Heap} {A : Nat → Prop} {locs : List Loc} (hP : va_P (dC, dI) vwCl w H) (hD : va_D A w) (hK : va_K (dC, dI) vwCl (tyL k) s) (hE : ew tF A s) (hS : va_S A s.heap H locs) (hF : ∀ q, va_A w H.size q → A q) (hU : U.heap = H) (hW : s.WarmedH U.vm) : prF dC dI k w tF H.size U := ⟨by rw [hU], by rw [hU]; exact hP, va_K.moved hW.alike hK, hD.weaken (fun _ _ _ _ => trivial), ew_go hE hS hF hU hW⟩
theorem zz_anyf {D : va_G} {cl : List vw_C} {A : Nat → Prop} {ws : va_W} {H : Heap} {a q1 : Nat} {c1 : ClassId} {n1 : Nat} {g : Nat → Int32} (hg : FGv g) (hP : va_P D cl (ws.set q1 (a, .inl (c1, n1, .inl g))) H) (hD : va_D A (ws.set q1 (a, .inl (c1, n1, .inl g)))) : ∃ f : Nat → Int32, FGv f ∧ va_P D cl (ws.set q1 (a, .inl (c1, n1, .inl f))) H ∧ va_D A (ws.set q1 (a, .inl (c1, n1, .inl f))) := ⟨g, hg, hP, hD⟩
end ZF
