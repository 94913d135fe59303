abbrev q1 (z : Int) : qV := .inl z
abbrev q2 (i : Nat) : qV := .inr (.inr (some i))
abbrev q3 (z : Int) : qV := .inr (.inl z)
abbrev q0 : qV := .inr (.inr none)
def qs_0 : List Int := [6, 3, 1, 2]
def qs_1 : List Int := (1 :: 0 :: 0 :: 1 :: 0 :: 0 :: 1 :: 0 :: 0 :: 1 :: 0 :: 0 :: 1 :: 0 :: 0 :: 1 :: 1 :: 0 :: 1 :: 1 :: 0 :: 2 :: 1 :: 0 :: 1 :: 2 :: 1 :: 1 :: 2 :: 0 :: 1 :: 2 :: 0 :: 1 :: 1 :: 0 :: 1 :: 1 :: 0 :: 1 :: 1 :: 1 :: 1 :: 1 :: 0 :: 1 :: 0 :: 0 :: 1 :: 1 :: 0 :: [])
def qs_2 : List Int := (1 :: 0 :: 0 :: 0 :: 0 :: 0 :: 0 :: 0 :: 0 :: 1 :: 0 :: 0 :: 1 :: 0 :: 0 :: 0 :: 0 :: 0 :: 0 :: 0 :: 0 :: 0 :: 1 :: 0 :: 0 :: 0 :: 0 :: 0 :: 0 :: 0 :: 0 :: 0 :: 0 :: 0 :: 1 :: 0 :: 0 :: 1 :: 0 :: 0 :: 0 :: 1 :: 0 :: 0 :: 0 :: 0 :: 0 :: 0 :: 0 :: 1 :: 0 :: [])
def qs_3 : List Int := (99 :: 0 :: 0 :: 7 :: 0 :: 0 :: 10 :: 0 :: 0 :: 99 :: 0 :: 0 :: 99 :: 0 :: 0 :: 7 :: 7 :: 0 :: 7 :: 5 :: 0 :: 3 :: 9 :: 0 :: 7 :: 3 :: 99 :: 7 :: 3 :: 0 :: 7 :: 3 :: 0 :: 7 :: 99 :: 0 :: 7 :: 99 :: 0 :: 7 :: 7 :: 99 :: 7 :: 99 :: 0 :: 99 :: 0 :: 0 :: 7 :: 99 :: 0 :: [])
def qs_4 : List Int := [1, 1, 2, 6, 24, 120, 720, 5040, 40320]
theorem qs_0_ok : ∀ z ∈ qs_0, q_i z := by unfold q_i; decide
theorem qs_1_ok : ∀ z ∈ qs_1, q_i z := by unfold q_i; decide
theorem qs_2_ok : ∀ z ∈ qs_2, q_i z := by unfold q_i; decide
theorem qs_3_ok : ∀ z ∈ qs_3, q_i z := by unfold q_i; decide
theorem qs_4_ok : ∀ z ∈ qs_4, q_i z := by unfold q_i; decide
theorem s_cutF {p : Program} {l : Launch} {e : Env} {R : Room} {s : State} {m : MethodId} {args : Array Value} {below : List Frame} {meth : Method} {c : Code} {nL nW : Nat} {dC : Nat → ClassId} {dI : Nat → Nat → Nat} {k : Nat → ClassId} {g : Nat → Nat} {A : Nat → Prop} {Qf : State → Prop} {is : List Nat} {pc : Nat} : q_Sd p l e R s m args below meth c nL nW dC dI k g A Qf pc (x_cut is (fun _ _ _ => False)) := by
  intro H locs ls lv st w h
  unfold x_cut at h
  split at h <;> exact h.elim
/-- a BOROUGH's cells -/
def wB (f1 f2 f3 f4 f5 f6 f7 : Nat → Int) (u0 u1 u2 u3 u4 : Int) : qW := [.inr (0, [q2 1, q2 2, q2 3, q2 4, q2 5, q2 6, q2 7, q1 u0, q1 u1, q1 u2, q1 u3, q1 u4]), .inl (0, 8, .inl f1), .inl (0, 8, .inl f2), .inl (0, 4, .inl f3), .inl (0, 32, .inl f4), .inl (0, 6, .inl f5), .inl (0, 6, .inl f6), .inl (0, 6, .inl f7)]
