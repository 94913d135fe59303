abbrev q1 (z : Int) : qV := .inl z
abbrev q2 (i : Nat) : qV := .inr (.inr (some i))
abbrev q3 (z : Int) : qV := .inr (.inl z)
abbrev q0 : qV := .inr (.inr none)
def qs_0 : List Int := [6, 3, 1, 2]
def qs_1 : List Int := (1 :: 0 :: 0 :: 1 :: 0 :: 0 :: 1 :: 0 :: 0 :: 1 :: 0 :: 0 :: 1 :: 0 :: 0 :: 1 :: 1 :: 0 :: 1 :: 1 :: 0 :: 2 :: 1 :: 0 :: 1 :: 2 :: 1 :: 1 :: 2 :: 0 :: 1 :: 2 :: 0 :: 1 :: 1 :: 0 :: 1 :: 1 :: 0 :: 1 :: 1 :: 1 :: 1 :: 1 :: 0 :: 1 :: 0 :: 0 :: 1 :: 1 :: 0 :: [])
def qs_2 : List Int := (1 :: 0 :: 0 :: 0 :: 0 :: 0 :: 0 :: 0 :: 0 :: 1 :: 0 :: 0 :: 1 :: 0 :: 0 :: 0 :: 0 :: 0 :: 0 :: 0 :: 0 :: 0 :: 1 :: 0 :: 0 :: 0 :: 0 :: 0 :: 0 :: 0 :: 0 :: 0 :: 0 :: 0 :: 1 :: 0 :: 0 :: 1 :: 0 :: 0 :: 0 :: 1 :: 0 :: 0 :: 0 :: 0 :: 0 :: 0 :: 0 :: 1 :: 0 :: [])
def qs_3 : List Int := (99 :: 0 :: 0 :: 7 :: 0 :: 0 :: 10 :: 0 :: 0 :: 99 :: 0 :: 0 :: 99 :: 0 :: 0 :: 7 :: 7 :: 0 :: 7 :: 5 :: 0 :: 3 :: 9 :: 0 :: 7 :: 3 :: 99 :: 7 :: 3 :: 0 :: 7 :: 3 :: 0 :: 7 :: 99 :: 0 :: 7 :: 99 :: 0 :: 7 :: 7 :: 99 :: 7 :: 99 :: 0 :: 99 :: 0 :: 0 :: 7 :: 99 :: 0 :: [])
def qs_4 : List Int := [1, 1, 2, 6, 24, 120, 720, 5040, 40320]
theorem qs_0_ok : ∀ z ∈ qs_0, q_i z := by unfold q_i; decide
theorem qs_1_ok : ∀ z ∈ qs_1, q_i z := by unfold q_i; decide
theorem qs_2_ok : ∀ z ∈ qs_2, q_i z := by unfold q_i; decide
theorem qs_3_ok : ∀ z ∈ qs_3, q_i z := by unfold q_i; decide
theorem qs_4_ok : ∀ z ∈ qs_4, q_i z := by unfold q_i; decide
theorem s_cutF {p : Program} {l : Launch} {e : Env} {R : Room} {s : State} {m : MethodId} {args : Array Value} {below : List Frame} {meth : Method} {c : Code} {nL nW : Nat} {dC : Nat → ClassId} {dI : Nat → Nat → Nat} {k : Nat → ClassId} {g : Nat → Nat} {A : Nat → Prop} {Qf : State → Prop} {is : List Nat} {pc : Nat} : q_Sd p l e R s m args below meth c nL nW dC dI k g A Qf pc (x_cut is (fun _ _ _ => False)) := by
  intro H locs ls lv st w h
  unfold x_cut at h
  split at h <;> exact h.elim
/-- a BOROUGH's cells -/
def wB (f1 f2 f3 f4 f5 f6 f7 : Nat → Int) (u0 u1 u2 u3 u4 : Int) : qW := [.inr (0, [q2 1, q2 2, q2 3, q2 4, q2 5, q2 6, q2 7, q1 u0, q1 u1, q1 u2, q1 u3, q1 u4]), .inl (0, 8, .inl f1), .inl (0, 8, .inl f2), .inl (0, 4, .inl f3), .inl (0, 32, .inl f4), .inl (0, 6, .inl f5), .inl (0, 6, .inl f6), .inl (0, 6, .inl f7)]
def q_rg (lo hi : Int) (f : Nat → Int) : Prop := ∀ j : Nat, lo ≤ f j ∧ f j ≤ hi
theorem q_rg_at {lo hi z : Int} {f : Nat → Int} {i : Nat} (h : q_rg lo hi f) (hz : z = f i) : lo ≤ z ∧ z ≤ hi := by rw [hz]; exact h i
theorem q_rg_up {lo hi v : Int} {f : Nat → Int} {i : Nat} (h : q_rg lo hi f) (hv : lo ≤ v ∧ v ≤ hi) : q_rg lo hi (q_up f i v) := q_up_p (P := fun z => lo ≤ z ∧ z ≤ hi) h hv
theorem q_rg_cpy {lo hi : Int} {f h : Nat → Int} {a b n : Nat} (hf : q_rg lo hi f) (hh : q_rg lo hi h) : q_rg lo hi (va_cpy f h a b n) := q_cpy_p (P := fun z => lo ≤ z ∧ z ≤ hi) hf hh
section QN
variable {p : Program} {l : Launch} {e : Env} {R : Room} {s : State} {m : MethodId} {args : Array Value} {below : List Frame} {meth : Method} {c : Code} {nL nW : Nat} {dC : Nat → ClassId} {dI : Nat → Nat → Nat} {k : Nat → ClassId} {g : Nat → Nat} {A : Nat → Prop} {Qf : State → Prop}
theorem q_loopn {is : Nat → List Nat} (Inv : Nat → Nat → List qV → List qV → qW → Prop) (blk : Nat → (Nat → List qV → List qV → qW → Prop) → qK)
    (hs : ∀ (d : Nat) (J : Nat → List qV → List qV → qW → Prop), (∀ d' : Nat, q_Sd p l e R s m args below meth c nL nW dC dI k g A Qf d' (x_cut (is d') (J d'))) → q_Sd p l e R s m args below meth c nL nW dC dI k g A Qf d (blk d J))
    (hv : ∀ (d n : Nat) (vs st : List qV) (w : qW), Inv d n vs st w → q_oks vs → q_oks st → q_okw w → w.length = nW → blk d (fun d' vs' st' w' => ∃ n', Inv d' n' vs' st' w' ∧ n' < n) ((is d).zip vs) st w) : ∀ d : Nat, q_Sd p l e R s m args below meth c nL nW dC dI k g A Qf d (x_cut (is d) (fun vs st w => ∃ n, Inv d n vs st w)) := by
  have key : ∀ (n d : Nat), q_Sd p l e R s m args below meth c nL nW dC dI k g A Qf d (x_cut (is d) (fun vs st w => ∃ n', Inv d n' vs st w ∧ n' < n)) := by
    intro n
    induction n with
    | zero =>
      intro d H locs ls lv st w h
      unfold x_cut at h
      split at h
      · obtain ⟨n', -, h⟩ := h
        exact absurd h (Nat.not_lt_zero _)
      · exact h.elim
    | succ n ih =>
      intro d H locs ls lv st w h hP hW hS hl okl oks okw
      unfold x_cut at h
      split at h
      · rename_i vs hvs
        obtain ⟨n0, hI, hn0⟩ := h
        have h9 := hs d (fun d' vs' st' w' => ∃ n', Inv d' n' vs' st' w' ∧ n' < n0) (fun d' => s_mono (ih d') (x_cut_mono (fun vs' st' w' h' => by
          obtain ⟨n', h1, h2⟩ := h'
          exact ⟨n', h1, Nat.lt_of_lt_of_le h2 (Nat.le_of_lt_succ hn0)⟩)))
        exact h9 H locs ls _ st w (hv d n0 vs st w hI (q_pk_oks okl hvs) oks okw hW) hP hW hS ⟨hl.1, hl.2.1, fun q hq => by
          obtain ⟨x, hx, rfl⟩ := List.mem_map.mp hq
          exact hl.2.2 _ (List.mem_map.mpr ⟨x, q_pk_mem hvs x hx, rfl⟩)⟩ (fun q hq => okl q (q_pk_mem hvs q hq)) oks okw
      · exact h.elim
  intro d H locs ls lv st w h
  have h2 : ∃ n : Nat, x_cut (is d) (fun vs st w => ∃ n', Inv d n' vs st w ∧ n' < n) lv st w := by
    unfold x_cut at h ⊢
    split at h
    · obtain ⟨n, h⟩ := h
      exact ⟨n + 1, n, h, Nat.lt_succ_self _⟩
    · exact h.elim
  obtain ⟨n, h2⟩ := h2
  exact key n d H locs ls lv st w h2
end QN
