section QRN
variable {p : Program} {l : Launch} {e : Env} {R : Room} {s : State} {m : MethodId} {args : Array Value} {below : List Frame} {meth : Method} {c : Code} {cc : ByteArray} {nL nW fr lo : Nat} {own : String} {ret : Option FieldType} {dC : Nat → ClassId} {dI : Nat → Nat → Nat} {k : Nat → ClassId} {g : Nat → Nat} {A : Nat → Prop} {Qf : State → Prop} {pc : Nat} {K K1 K2 : qK}
variable {nc ns : Nat}
def q_SdN (nc ns : Nat) (p : Program) (l : Launch) (e : Env) (R : Room) (s : State) (m : MethodId) (args : Array Value) (below : List Frame) (meth : Method) (c : Code) (nL nW : Nat) (dC : Nat → ClassId) (dI : Nat → Nat → Nat) (k : Nat → ClassId) (g : Nat → Nat) (A : Nat → Prop) (Qf : State → Prop) (pc : Nat) (K : qK) : Prop :=
  ∀ (H : Heap) (locs : List Loc) (ls : Array Slot) (lv : qL) (st : List qV) (w : qW), K lv st w → va_P (dC, dI) vwCl (q_w k g w) H → w.length = nW → va_S A s.heap H locs → lv_has ls nL (q_lv g lv) → q_okl lv → q_oks st → q_okw w → W p l e R s m args below meth c H locs nc ns Qf (F0 m pc ls (st.map (q_v g)))
theorem sN_mono {K K' : qK} (h : q_SdN nc ns p l e R s m args below meth c nL nW dC dI k g A Qf pc K) (hk : ∀ lv st w, K' lv st w → K lv st w) : q_SdN nc ns p l e R s m args below meth c nL nW dC dI k g A Qf pc K' := fun H locs ls lv st w h9 => h H locs ls lv st w (hk _ _ _ h9)
theorem sN_iload_n (X : q_X p R s m args meth c cc nL nW fr lo own ret dC dI k g A) {j : Fin 4} {i : Nat} (hi : (j : Nat) = i) (hd : decode cc pc = .ok (.iload_n j, 1)) (hk : q_SdN nc ns p l e R s m args below meth c nL nW dC dI k g A Qf (pc + 1) (K)) : q_SdN nc ns p l e R s m args below meth c nL nW dC dI k g A Qf (pc) (x_iload i K) := by
  intro H locs ls lv st w h hP hW hS hl okl oks okw
  obtain ⟨hx, hb, hml, hown, hts, hK, hA, hE, hfr, hlo, hlk, hret, hDg⟩ := X
  unfold x_iload at h
  split at h
  · rename_i z hz
    exact lv_iload_n hx hb hd hi (q_get_at hl hz) (hk H locs ls (lv) (.inl z :: st) (w) h hP hW hS hl okl (q_oks_c (q_get_ok okl hz) oks) okw)
  · exact h.elim
theorem sN_iload (X : q_X p R s m args meth c cc nL nW fr lo own ret dC dI k g A) {i : Nat} (hd : decode cc pc = .ok (.iload i, 2)) (hk : q_SdN nc ns p l e R s m args below meth c nL nW dC dI k g A Qf (pc + 2) (K)) : q_SdN nc ns p l e R s m args below meth c nL nW dC dI k g A Qf (pc) (x_iload i K) := by
  intro H locs ls lv st w h hP hW hS hl okl oks okw
  obtain ⟨hx, hb, hml, hown, hts, hK, hA, hE, hfr, hlo, hlk, hret, hDg⟩ := X
  unfold x_iload at h
  split at h
  · rename_i z hz
    exact lv_iload hx hb hd (q_get_at hl hz) (hk H locs ls (lv) (.inl z :: st) (w) h hP hW hS hl okl (q_oks_c (q_get_ok okl hz) oks) okw)
  · exact h.elim
theorem sN_aload_n (X : q_X p R s m args meth c cc nL nW fr lo own ret dC dI k g A) {j : Fin 4} {i : Nat} (hi : (j : Nat) = i) (hd : decode cc pc = .ok (.aload_n j, 1)) (hk : q_SdN nc ns p l e R s m args below meth c nL nW dC dI k g A Qf (pc + 1) (K)) : q_SdN nc ns p l e R s m args below meth c nL nW dC dI k g A Qf (pc) (x_aload i K) := by
  intro H locs ls lv st w h hP hW hS hl okl oks okw
  obtain ⟨hx, hb, hml, hown, hts, hK, hA, hE, hfr, hlo, hlk, hret, hDg⟩ := X
  unfold x_aload at h
  split at h
  · rename_i z hz
    cases z with
    | some z => exact lv_aload_n hx hb hd hi (q_get_at hl hz) (hk H locs ls (lv) (.inr (.inr (some z)) :: st) (w) h hP hW hS hl okl (q_oks_c trivial oks) okw)
    | none => exact lv_aload_nN hx hb hd hi (q_get_at hl hz) (hk H locs ls (lv) (.inr (.inr none) :: st) (w) h hP hW hS hl okl (q_oks_c trivial oks) okw)
  · exact h.elim
theorem sN_istore_n (X : q_X p R s m args meth c cc nL nW fr lo own ret dC dI k g A) {j : Fin 4} {i : Nat} (hi : (j : Nat) = i) (hn : i < nL) (hd : decode cc pc = .ok (.istore_n j, 1)) (hk : q_SdN nc ns p l e R s m args below meth c nL nW dC dI k g A Qf (pc + 1) (K)) : q_SdN nc ns p l e R s m args below meth c nL nW dC dI k g A Qf (pc) (x_istore i K) := by
  intro H locs ls lv st w h hP hW hS hl okl oks okw
  obtain ⟨hx, hb, hml, hown, hts, hK, hA, hE, hfr, hlo, hlk, hret, hDg⟩ := X
  unfold x_istore at h
  split at h
  · rename_i z r
    exact lv_istore_n hx hb hd hi hl hn (q_put_lv (v := .inl z)) (fun ls hl => (hk H locs ls (q_put lv i (.inl z)) (r) (w) h hP hW hS hl (q_okl_put okl (q_oks_h oks)) (q_oks_t oks) okw))
  · exact h.elim
theorem sN_iconst (X : q_X p R s m args meth c cc nL nW fr lo own ret dC dI k g A) {n : Int} (hn : q_i n) (hd : decode cc pc = .ok (.iconst n, 1)) (hk : q_SdN nc ns p l e R s m args below meth c nL nW dC dI k g A Qf (pc + 1) (K)) : q_SdN nc ns p l e R s m args below meth c nL nW dC dI k g A Qf (pc) (x_int n K) := by
  intro H locs ls lv st w h hP hW hS hl okl oks okw
  obtain ⟨hx, hb, hml, hown, hts, hK, hA, hE, hfr, hlo, hlk, hret, hDg⟩ := X
  exact lv_iconst hx hb hd rfl (hk H locs ls (lv) (.inl n :: st) (w) h hP hW hS hl okl (q_oks_c hn oks) okw)
theorem sN_bipush (X : q_X p R s m args meth c cc nL nW fr lo own ret dC dI k g A) {n : Int} (hn : q_i n) (hv : (Int8.ofInt n).toInt32 = Int32.ofInt n) (hd : decode cc pc = .ok (.bipush n, 2)) (hk : q_SdN nc ns p l e R s m args below meth c nL nW dC dI k g A Qf (pc + 2) (K)) : q_SdN nc ns p l e R s m args below meth c nL nW dC dI k g A Qf (pc) (x_int n K) := by
  intro H locs ls lv st w h hP hW hS hl okl oks okw
  obtain ⟨hx, hb, hml, hown, hts, hK, hA, hE, hfr, hlo, hlk, hret, hDg⟩ := X
  exact lv_bipush hx hb hd hv (hk H locs ls (lv) (.inl n :: st) (w) h hP hW hS hl okl (q_oks_c hn oks) okw)
theorem sN_iadd (X : q_X p R s m args meth c cc nL nW fr lo own ret dC dI k g A) (hd : decode cc pc = .ok (.iadd, 1)) (hk : q_SdN nc ns p l e R s m args below meth c nL nW dC dI k g A Qf (pc + 1) (K)) : q_SdN nc ns p l e R s m args below meth c nL nW dC dI k g A Qf (pc) (x_iadd K) := by
  intro H locs ls lv st w h hP hW hS hl okl oks okw
  obtain ⟨hx, hb, hml, hown, hts, hK, hA, hE, hfr, hlo, hlk, hret, hDg⟩ := X
  unfold x_iadd at h
  split at h
  · rename_i y x r
    refine lv_iadd hx hb hd ?_
    rw [q_bk (g := g)]
    exact (hk H locs ls (lv) (.inl (Int32.ofInt x + Int32.ofInt y).toInt :: r) (w) (h _ rfl) hP hW hS hl okl (q_oks_c (q_it _) (q_oks_t (q_oks_t oks))) okw)
  · exact h.elim
theorem sN_isub (X : q_X p R s m args meth c cc nL nW fr lo own ret dC dI k g A) (hd : decode cc pc = .ok (.isub, 1)) (hk : q_SdN nc ns p l e R s m args below meth c nL nW dC dI k g A Qf (pc + 1) (K)) : q_SdN nc ns p l e R s m args below meth c nL nW dC dI k g A Qf (pc) (x_isub K) := by
  intro H locs ls lv st w h hP hW hS hl okl oks okw
  obtain ⟨hx, hb, hml, hown, hts, hK, hA, hE, hfr, hlo, hlk, hret, hDg⟩ := X
  unfold x_isub at h
  split at h
  · rename_i y x r
    refine lv_isub hx hb hd ?_
    rw [q_bk (g := g)]
    exact (hk H locs ls (lv) (.inl (Int32.ofInt x - Int32.ofInt y).toInt :: r) (w) (h _ rfl) hP hW hS hl okl (q_oks_c (q_it _) (q_oks_t (q_oks_t oks))) okw)
  · exact h.elim
theorem sN_iand (X : q_X p R s m args meth c cc nL nW fr lo own ret dC dI k g A) (hd : decode cc pc = .ok (.iand, 1)) (hk : q_SdN nc ns p l e R s m args below meth c nL nW dC dI k g A Qf (pc + 1) (K)) : q_SdN nc ns p l e R s m args below meth c nL nW dC dI k g A Qf (pc) (x_iand K) := by
  intro H locs ls lv st w h hP hW hS hl okl oks okw
  obtain ⟨hx, hb, hml, hown, hts, hK, hA, hE, hfr, hlo, hlk, hret, hDg⟩ := X
  unfold x_iand at h
  split at h
  · rename_i y x r
    refine lv_iand hx hb hd ?_
    rw [q_bk (g := g)]
    exact (hk H locs ls (lv) (.inl (Int32.ofInt x &&& Int32.ofInt y).toInt :: r) (w) (h _ rfl) hP hW hS hl okl (q_oks_c (q_it _) (q_oks_t (q_oks_t oks))) okw)
  · exact h.elim
theorem sN_iinc (X : q_X p R s m args meth c cc nL nW fr lo own ret dC dI k g A) {i : Nat} {n : Int} (hn : i < nL) (hd : decode cc pc = .ok (.iinc i n, 3)) (hk : q_SdN nc ns p l e R s m args below meth c nL nW dC dI k g A Qf (pc + 3) (K)) : q_SdN nc ns p l e R s m args below meth c nL nW dC dI k g A Qf (pc) (x_iinc i n K) := by
  intro H locs ls lv st w h hP hW hS hl okl oks okw
  obtain ⟨hx, hb, hml, hown, hts, hK, hA, hE, hfr, hlo, hlk, hret, hDg⟩ := X
  unfold x_iinc at h
  split at h
  · rename_i z hz
    obtain ⟨j, hj⟩ := q_at_lv (g := g) hz
    exact lv_iinc hx hb hd hl hj (by rw [Int32.ofInt_toInt] : Int32.ofInt z + Int32.ofInt n = Int32.ofInt (Int32.ofInt z + Int32.ofInt n).toInt) hn (q_put_lv (v := .inl (Int32.ofInt z + Int32.ofInt n).toInt)) (fun ls hl => (hk H locs ls (q_put lv i (.inl (Int32.ofInt z + Int32.ofInt n).toInt)) (st) (w) (h _ rfl) hP hW hS hl (q_okl_put okl (q_it _)) oks okw))
  · exact h.elim
theorem sN_goto (X : q_X p R s m args meth c cc nL nW fr lo own ret dC dI k g A) {off : Int} {tgt : Nat} (hd : decode cc pc = .ok (.goto off, 3)) (ht : (pc : Int) + off = (tgt : Int)) (hk : q_SdN nc ns p l e R s m args below meth c nL nW dC dI k g A Qf (tgt) (K)) : q_SdN nc ns p l e R s m args below meth c nL nW dC dI k g A Qf (pc) (K) := by
  intro H locs ls lv st w h hP hW hS hl okl oks okw
  obtain ⟨hx, hb, hml, hown, hts, hK, hA, hE, hfr, hlo, hlk, hret, hDg⟩ := X
  exact lv_goto hx hb hd ht (hk H locs ls (lv) (st) (w) h hP hW hS hl okl oks okw)
theorem sN_if_eq (X : q_X p R s m args meth c cc nL nW fr lo own ret dC dI k g A) {off : Int} {tgt : Nat} (hd : decode cc pc = .ok (.ifCond .eq off, 3)) (ht : (pc : Int) + off = (tgt : Int)) (hk1 : q_SdN nc ns p l e R s m args below meth c nL nW dC dI k g A Qf (tgt) (K1)) (hk2 : q_SdN nc ns p l e R s m args below meth c nL nW dC dI k g A Qf (pc + 3) (K2)) : q_SdN nc ns p l e R s m args below meth c nL nW dC dI k g A Qf (pc) (x_if_eq K1 K2) := by
  intro H locs ls lv st w h hP hW hS hl okl oks okw
  obtain ⟨hx, hb, hml, hown, hts, hK, hA, hE, hfr, hlo, hlk, hret, hDg⟩ := X
  unfold x_if_eq at h
  split at h
  · rename_i x r
    exact lv_if_eq hx hb hd ht (fun h0 => (hk1 H locs ls (lv) (r) (w) (h.1 ((q_eq_iff (q_oks_h oks) q_i0).mp h0)) hP hW hS hl okl (q_oks_t oks) okw)) (fun h0 => (hk2 H locs ls (lv) (r) (w) (h.2 (fun e0 => h0 ((q_eq_iff (q_oks_h oks) q_i0).mpr e0))) hP hW hS hl okl (q_oks_t oks) okw))
  · exact h.elim
theorem sN_if_ne (X : q_X p R s m args meth c cc nL nW fr lo own ret dC dI k g A) {off : Int} {tgt : Nat} (hd : decode cc pc = .ok (.ifCond .ne off, 3)) (ht : (pc : Int) + off = (tgt : Int)) (hk1 : q_SdN nc ns p l e R s m args below meth c nL nW dC dI k g A Qf (tgt) (K1)) (hk2 : q_SdN nc ns p l e R s m args below meth c nL nW dC dI k g A Qf (pc + 3) (K2)) : q_SdN nc ns p l e R s m args below meth c nL nW dC dI k g A Qf (pc) (x_if_ne K1 K2) := by
  intro H locs ls lv st w h hP hW hS hl okl oks okw
  obtain ⟨hx, hb, hml, hown, hts, hK, hA, hE, hfr, hlo, hlk, hret, hDg⟩ := X
  unfold x_if_ne at h
  split at h
  · rename_i x r
    exact lv_if_ne hx hb hd ht (fun h0 => (hk1 H locs ls (lv) (r) (w) (h.1 (fun e0 => h0 ((q_eq_iff (q_oks_h oks) q_i0).mpr e0))) hP hW hS hl okl (q_oks_t oks) okw)) (fun h0 => (hk2 H locs ls (lv) (r) (w) (h.2 ((q_eq_iff (q_oks_h oks) q_i0).mp h0)) hP hW hS hl okl (q_oks_t oks) okw))
  · exact h.elim
theorem sN_icmp_gt (X : q_X p R s m args meth c cc nL nW fr lo own ret dC dI k g A) {off : Int} {tgt : Nat} (hd : decode cc pc = .ok (.if_icmp .gt off, 3)) (ht : (pc : Int) + off = (tgt : Int)) (hk1 : q_SdN nc ns p l e R s m args below meth c nL nW dC dI k g A Qf (tgt) (K1)) (hk2 : q_SdN nc ns p l e R s m args below meth c nL nW dC dI k g A Qf (pc + 3) (K2)) : q_SdN nc ns p l e R s m args below meth c nL nW dC dI k g A Qf (pc) (x_icmp_gt K1 K2) := by
  intro H locs ls lv st w h hP hW hS hl okl oks okw
  obtain ⟨hx, hb, hml, hown, hts, hK, hA, hE, hfr, hlo, hlk, hret, hDg⟩ := X
  unfold x_icmp_gt at h
  split at h
  · rename_i y x r
    exact lv_icmp_gt hx hb hd ht (fun h0 => (hk1 H locs ls (lv) (r) (w) (h.1 ((q_lt_iff (q_oks_h oks) (q_oks_h (q_oks_t oks))).mp h0)) hP hW hS hl okl (q_oks_t (q_oks_t oks)) okw)) (fun h0 => (hk2 H locs ls (lv) (r) (w) (h.2 (fun e0 => h0 ((q_lt_iff (q_oks_h oks) (q_oks_h (q_oks_t oks))).mpr e0))) hP hW hS hl okl (q_oks_t (q_oks_t oks)) okw))
  · exact h.elim
theorem sN_icmp_eq (X : q_X p R s m args meth c cc nL nW fr lo own ret dC dI k g A) {off : Int} {tgt : Nat} (hd : decode cc pc = .ok (.if_icmp .eq off, 3)) (ht : (pc : Int) + off = (tgt : Int)) (hk1 : q_SdN nc ns p l e R s m args below meth c nL nW dC dI k g A Qf (tgt) (K1)) (hk2 : q_SdN nc ns p l e R s m args below meth c nL nW dC dI k g A Qf (pc + 3) (K2)) : q_SdN nc ns p l e R s m args below meth c nL nW dC dI k g A Qf (pc) (x_icmp_eq K1 K2) := by
  intro H locs ls lv st w h hP hW hS hl okl oks okw
  obtain ⟨hx, hb, hml, hown, hts, hK, hA, hE, hfr, hlo, hlk, hret, hDg⟩ := X
  unfold x_icmp_eq at h
  split at h
  · rename_i y x r
    exact lv_icmp_eq hx hb hd ht (fun h0 => (hk1 H locs ls (lv) (r) (w) (h.1 ((q_eq_iff (q_oks_h (q_oks_t oks)) (q_oks_h oks)).mp h0)) hP hW hS hl okl (q_oks_t (q_oks_t oks)) okw)) (fun h0 => (hk2 H locs ls (lv) (r) (w) (h.2 (fun e0 => h0 ((q_eq_iff (q_oks_h (q_oks_t oks)) (q_oks_h oks)).mpr e0))) hP hW hS hl okl (q_oks_t (q_oks_t oks)) okw))
  · exact h.elim
theorem sN_icmp_ne (X : q_X p R s m args meth c cc nL nW fr lo own ret dC dI k g A) {off : Int} {tgt : Nat} (hd : decode cc pc = .ok (.if_icmp .ne off, 3)) (ht : (pc : Int) + off = (tgt : Int)) (hk1 : q_SdN nc ns p l e R s m args below meth c nL nW dC dI k g A Qf (tgt) (K1)) (hk2 : q_SdN nc ns p l e R s m args below meth c nL nW dC dI k g A Qf (pc + 3) (K2)) : q_SdN nc ns p l e R s m args below meth c nL nW dC dI k g A Qf (pc) (x_icmp_ne K1 K2) := by
  intro H locs ls lv st w h hP hW hS hl okl oks okw
  obtain ⟨hx, hb, hml, hown, hts, hK, hA, hE, hfr, hlo, hlk, hret, hDg⟩ := X
  unfold x_icmp_ne at h
  split at h
  · rename_i y x r
    exact lv_icmp_ne hx hb hd ht (fun h0 => (hk1 H locs ls (lv) (r) (w) (h.1 (fun e0 => h0 ((q_eq_iff (q_oks_h (q_oks_t oks)) (q_oks_h oks)).mpr e0))) hP hW hS hl okl (q_oks_t (q_oks_t oks)) okw)) (fun h0 => (hk2 H locs ls (lv) (r) (w) (h.2 ((q_eq_iff (q_oks_h (q_oks_t oks)) (q_oks_h oks)).mp h0)) hP hW hS hl okl (q_oks_t (q_oks_t oks)) okw))
  · exact h.elim
theorem sN_pop (X : q_X p R s m args meth c cc nL nW fr lo own ret dC dI k g A) (hd : decode cc pc = .ok (.pop, 1)) (hk : q_SdN nc ns p l e R s m args below meth c nL nW dC dI k g A Qf (pc + 1) (K)) : q_SdN nc ns p l e R s m args below meth c nL nW dC dI k g A Qf (pc) (x_pop K) := by
  intro H locs ls lv st w h hP hW hS hl okl oks okw
  obtain ⟨hx, hb, hml, hown, hts, hK, hA, hE, hfr, hlo, hlk, hret, hDg⟩ := X
  unfold x_pop at h
  split at h
  · rename_i v r
    split at h
    · rename_i hv
      exact lv_pop hx hb hd (q_cat1 hv) (hk H locs ls (lv) (r) (w) h hP hW hS hl okl (q_oks_t oks) okw)
    · exact h.elim
  · exact h.elim
theorem sN_get (X : q_X p R s m args meth c cc nL nW fr lo own ret dC dI k g A) {T : u_T} {C : String} {N ci kf index : Nat} (hin : ∀ w ∈ u_ws C T N, w ∈ TB) (hc : vwCl[ci]? = some (C, T, N)) (hk0 : kf < N) (hlw : Cond.fieldLink own index (T kf).1 (T kf).2.1 (T kf).2.2.1 ∈ TB) (hd : decode cc pc = .ok (.getfield index, 3)) (hk : q_SdN nc ns p l e R s m args below meth c nL nW dC dI k g A Qf (pc + 3) (K)) : q_SdN nc ns p l e R s m args below meth c nL nW dC dI k g A Qf (pc) (x_get ci kf K) := by
  intro H locs ls lv st w h hP hW hS hl okl oks okw
  obtain ⟨hx, hb, hml, hown, hts, hK, hA, hE, hfr, hlo, hlk, hret, hDg⟩ := X
  unfold x_get at h
  split at h
  · rename_i a r
    obtain ⟨vs, v, hw, hv, h⟩ := q_fld_of h
    exact va_get hx hb hts hin hown hK hP a (q_w_at hw) hc kf hk0 (hts _ hlw) (fun _ h9 => h9) (v := q_v g v) (by rw [List.getElem?_map, hv]; rfl) hd (hk H locs ls (lv) (v :: r) (w) h hP hW hS hl okl (q_oks_c (q_okw_at okw hw v (List.mem_of_getElem? hv)) (q_oks_t oks)) okw)
  · exact h.elim
theorem sN_aald (X : q_X p R s m args meth c cc nL nW fr lo own ret dC dI k g A) (hd : decode cc pc = .ok (.aaload, 1)) (hk : q_SdN nc ns p l e R s m args below meth c nL nW dC dI k g A Qf (pc + 1) (K)) : q_SdN nc ns p l e R s m args below meth c nL nW dC dI k g A Qf (pc) (x_aald K) := by
  intro H locs ls lv st w h hP hW hS hl okl oks okw
  obtain ⟨hx, hb, hml, hown, hts, hK, hA, hE, hfr, hlo, hlk, hret, hDg⟩ := X
  unfold x_aald at h
  split at h
  · rename_i i a r
    obtain ⟨t, n, x, hw, h⟩ := q_arr_of h
    split at h
    case h_2 => exact h.elim
    rename_i hb9
    rw [Bool.and_eq_true] at hb9
    have h4 := Nat.le_of_ble_eq_true hb9.1
    have h9 := Nat.lt_succ_of_le (Nat.le_of_ble_eq_true hb9.2)
    obtain ⟨C, hC⟩ := q_ty4 (k := k) h4 h9
    rcases x with f | f | f
    · exact h.elim
    · exact h.elim
    · obtain ⟨⟨h0, h1⟩, h⟩ := h
      have hi : q_i i := q_oks_h oks
      refine va_aldq hx hb hK hP a t (q_w_at hw) hC (q_in hi h0 h1) hd ?_
      rw [q_cl hi, q_rf]
      exact (hk H locs ls (lv) (.inr (.inr (f.getD i.toNat none)) :: r) (w) h hP hW hS hl okl (q_oks_c trivial (q_oks_t (q_oks_t oks))) okw)
  · exact h.elim
theorem sN_sw (X : q_X p R s m args meth c cc nL nW fr lo own ret dC dI k g A) {dflt lo hi : Int} {offs : Array Int} {len td : Nat} {ts : List Nat} {Ks : List qK} {Kd : qK} (hd : decode cc pc = .ok (.tableswitch dflt lo hi offs, len)) (hts : offs.toList = ts.map (fun (t : Nat) => (t : Int) - (pc : Int))) (htd : (pc : Int) + dflt = (td : Int)) (hl1 : hi - lo + 1 = (ts.length : Int)) (hl2 : Ks.length = ts.length)
    (hk : ∀ (i : Nat) (t : Nat) (K : qK), ts[i]? = some t → Ks[i]? = some K → q_SdN nc ns p l e R s m args below meth c nL nW dC dI k g A Qf (t) (K)) (hkd : q_SdN nc ns p l e R s m args below meth c nL nW dC dI k g A Qf (td) (Kd)) : q_SdN nc ns p l e R s m args below meth c nL nW dC dI k g A Qf (pc) (x_sw lo hi Ks Kd) := by
  intro H locs ls lv st w h hP hW hS hl okl oks okw
  obtain ⟨hx, hb, -⟩ := X
  unfold x_sw at h
  split at h
  · rename_i x r
    have hi' : q_i x := q_oks_h oks
    by_cases hc : x < lo ∨ hi < x
    · exact lv_tableOut hx hb hd (by rw [q_io hi']; exact hc) htd (hkd H locs ls lv r w (h.2 hc) hP hW hS hl okl (q_oks_t oks) okw)
    · have h1 : ¬ x < lo := fun e => hc (Or.inl e)
      have h2 : ¬ hi < x := fun e => hc (Or.inr e)
      have h3 : (x - lo).toNat < ts.length := by omega
      have e1 : ts[(x - lo).toNat]? = some ts[(x - lo).toNat] := List.getElem?_eq_getElem h3
      have e2 : Ks[(x - lo).toNat]? = some (Ks[(x - lo).toNat]'(by omega)) := List.getElem?_eq_getElem (by omega)
      exact lv_tableIn hx hb hd (by rw [q_io hi']; exact h1) (by rw [q_io hi']; exact h2) (off := (ts[(x - lo).toNat] : Int) - (pc : Int)) (by rw [q_io hi', ← Array.getElem?_toList, hts, List.getElem?_map, e1]; rfl) (by omega)
        (hk _ _ _ e1 e2 H locs ls lv r w (q_swc_at Ks h.1 _ _ e2 (by omega)) hP hW hS hl okl (q_oks_t oks) okw)
  · exact h.elim
end QRN
