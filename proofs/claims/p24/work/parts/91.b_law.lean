def SwAll (F : Nat → qK → Prop) : List Nat → List qK → Prop
  | t :: ts, K :: Ks => F t K ∧ SwAll F ts Ks
  | _, _ => True
theorem SwAll_at {F : Nat → qK → Prop} : ∀ (ts : List Nat) (Ks : List qK), SwAll F ts Ks → ∀ (i : Nat) (t : Nat) (K : qK), ts[i]? = some t → Ks[i]? = some K → F t K := by
  intro ts
  induction ts with
  | nil => intro Ks _ i t K h; cases h
  | cons t0 ts ih =>
    intro Ks h i t K ht hK
    cases Ks with
    | nil => cases hK
    | cons K0 Ks =>
      obtain ⟨h1, h2⟩ := h
      cases i with
      | zero => cases ht; cases hK; exact h1
      | succ i => exact ih Ks h2 i t K ht hK
set_option maxRecDepth 100000 in
def b_law_18 (n L : Nat) (xs : Nat → Int32) (J : Nat → List qV → List qV → qW → Prop) : qK := x_iload 3 (x_aload 0 (x_slenL L (x_int 6 (x_isub (x_icmp_gt (x_cut [0, 1, 2, 3] (J 1375)) (x_aload 0 (x_iload 3 (x_sldL L xs (x_int 31 (x_iand (x_sw 0 28 [b_law_164 n L xs J, b_law_227 n L xs J, b_law_250 n L xs J, b_law_283 n L xs J, b_law_306 n L xs J, b_law_339 n L xs J, b_law_382 n L xs J, b_law_415 n L xs J, b_law_468 n L xs J, b_law_511 n L xs J, b_law_554 n L xs J, b_law_613 n L xs J, b_law_666 n L xs J, b_law_719 n L xs J, b_law_762 n L xs J, b_law_795 n L xs J, b_law_838 n L xs J, b_law_901 n L xs J, b_law_954 n L xs J, b_law_1007 n L xs J, b_law_1050 n L xs J, b_law_1083 n L xs J, b_law_1116 n L xs J, b_law_1165 n L xs J, b_law_1214 n L xs J, b_law_1257 n L xs J, b_law_1300 n L xs J, x_cut [0, 1, 2, 3] (J 1323), b_law_1346 n L xs J] (b_law_1369 n L xs J))))))))))))
set_option maxRecDepth 100000 in
theorem s_law_18 {p : Program} {l : Launch} {e : Env} {R : Room} {s : State} {m : MethodId} {args : Array Value} {below : List Frame} {meth : Method} {c : Code} {n nc ns nW b L : Nat} {xs : Nat → Int32} {dC : Nat → ClassId} {dI : Nat → Nat → Nat} {k : Nat → ClassId} {g : Nat → Nat} {A : Nat → Prop} {Qf : State → Prop} {J : Nat → List qV → List qV → qW → Prop} (X : q_X p R s m args meth c code 4 nW 10 231 R_law ret dC dI k g A) (hcells : nc + 0 ≤ R.cells ∧ ns + 0 ≤ R.slots) (hL : L ≤ 3072) (hXs : va_X b L xs s s.heap) (hbl : b < s.heap.size) (hbA : ¬ A b) (hg9 : g 900 = b) (hJ : ∀ d : Nat, q_SdN nc ns p l e R s m args below meth c 4 nW dC dI k g A Qf d (x_cut [0, 1, 2, 3] (J d))) : q_SdN nc ns p l e R s m args below meth c 4 nW dC dI k g A Qf 18 (b_law_18 n L xs J) := by
  unfold b_law_18
  refine sN_iload_n X rfl dL_law_18 ?_
  refine sN_aload_n X rfl dL_law_19 ?_
  refine sN_slen X hL hXs hbl hbA hg9 dL_law_20 ?_
  refine sN_bipush X ⟨by decide, by decide⟩ (by decide) dL_law_21 ?_
  refine sN_isub X dL_law_23 ?_
  refine sN_icmp_gt X (tgt := 1375) dL_law_24 (by decide) ?_ ?_
  · exact hJ 1375
  · refine sN_aload_n X rfl dL_law_27 ?_
    refine sN_iload_n X rfl dL_law_28 ?_
    refine sN_sld X hXs hbl hbA hg9 dL_law_29 ?_
    refine sN_bipush X ⟨by decide, by decide⟩ (by decide) dL_law_30 ?_
    refine sN_iand X dL_law_32 ?_
    refine sN_sw X (ts := [164, 227, 250, 283, 306, 339, 382, 415, 468, 511, 554, 613, 666, 719, 762, 795, 838, 901, 954, 1007, 1050, 1083, 1116, 1165, 1214, 1257, 1300, 1323, 1346]) (td := 1369) dL_law_33 (by decide) (by decide) (by decide) rfl ?_ ?_
    · exact SwAll_at (F := fun t K => q_SdN nc ns p l e R s m args below meth c 4 nW dC dI k g A Qf t K) _ _ ⟨s_law_164 X hcells hL hXs hbl hbA hg9 hJ, s_law_227 X hcells hL hXs hbl hbA hg9 hJ, s_law_250 X hcells hL hXs hbl hbA hg9 hJ, s_law_283 X hcells hL hXs hbl hbA hg9 hJ, s_law_306 X hcells hL hXs hbl hbA hg9 hJ, s_law_339 X hcells hL hXs hbl hbA hg9 hJ, s_law_382 X hcells hL hXs hbl hbA hg9 hJ, s_law_415 X hcells hL hXs hbl hbA hg9 hJ, s_law_468 X hcells hL hXs hbl hbA hg9 hJ, s_law_511 X hcells hL hXs hbl hbA hg9 hJ, s_law_554 X hcells hL hXs hbl hbA hg9 hJ, s_law_613 X hcells hL hXs hbl hbA hg9 hJ, s_law_666 X hcells hL hXs hbl hbA hg9 hJ, s_law_719 X hcells hL hXs hbl hbA hg9 hJ, s_law_762 X hcells hL hXs hbl hbA hg9 hJ, s_law_795 X hcells hL hXs hbl hbA hg9 hJ, s_law_838 X hcells hL hXs hbl hbA hg9 hJ, s_law_901 X hcells hL hXs hbl hbA hg9 hJ, s_law_954 X hcells hL hXs hbl hbA hg9 hJ, s_law_1007 X hcells hL hXs hbl hbA hg9 hJ, s_law_1050 X hcells hL hXs hbl hbA hg9 hJ, s_law_1083 X hcells hL hXs hbl hbA hg9 hJ, s_law_1116 X hcells hL hXs hbl hbA hg9 hJ, s_law_1165 X hcells hL hXs hbl hbA hg9 hJ, s_law_1214 X hcells hL hXs hbl hbA hg9 hJ, s_law_1257 X hcells hL hXs hbl hbA hg9 hJ, s_law_1300 X hcells hL hXs hbl hbA hg9 hJ, hJ 1323, s_law_1346 X hcells hL hXs hbl hbA hg9 hJ, trivial⟩
    · exact s_law_1369 X hcells hL hXs hbl hbA hg9 hJ
