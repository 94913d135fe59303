def q_X (p : Program) (R : Room) (s : State) (m : MethodId) (args : Array Value) (meth : Method) (c : Code) (cc : ByteArray) (nL nW fr lo : Nat) (own : String) (ret : Option FieldType) (dC : Nat → ClassId) (dI : Nat → Nat → Nat) (k : Nat → ClassId) (g : Nat → Nat) (A : Nat → Prop) : Prop :=
  p.tables.exec = Jvm.exec ∧ c.code = cc ∧ c.maxLocals = nL ∧ s.vm.findClass own = some m.cls ∧ (∀ w ∈ TB, w.before args s = true) ∧ va_K (dC, dI) vwCl (tyL k) s ∧ (∀ q : Nat, s.heap.size ≤ q → A q) ∧ qE g A s ∧ fr ≤ R.frames ∧ lo ≤ R.locals ∧ meth.locks = false ∧ meth.sig.returnType = ret ∧ q_D A g nW
def q_Sd (p : Program) (l : Launch) (e : Env) (R : Room) (s : State) (m : MethodId) (args : Array Value) (below : List Frame) (meth : Method) (c : Code) (nL nW : Nat) (dC : Nat → ClassId) (dI : Nat → Nat → Nat) (k : Nat → ClassId) (g : Nat → Nat) (A : Nat → Prop) (Qf : State → Prop) (pc : Nat) (K : qK) : Prop :=
  ∀ (H : Heap) (locs : List Loc) (ls : Array Slot) (lv : qL) (st : List qV) (w : qW), K lv st w → va_P (dC, dI) vwCl (q_w k g w) H → w.length = nW → va_S A s.heap H locs → lv_has ls nL (q_lv g lv) → q_okl lv → q_oks st → q_okw w → W p l e R s m args below meth c H locs 0 0 Qf (F0 m pc ls (st.map (q_v g)))
theorem q_oks_c {v : qV} {st : List qV} (hv : q_ok v) (h : q_oks st) : q_oks (v :: st) := fun u hu => (List.mem_cons.mp hu).elim (fun e => by rw [e]; exact hv) (h u)
theorem q_oks_t {v : qV} {st : List qV} (h : q_oks (v :: st)) : q_oks st := fun u hu => h u (List.mem_cons_of_mem _ hu)
theorem q_oks_h {v : qV} {st : List qV} (h : q_oks (v :: st)) : q_ok v := h v List.mem_cons_self
def q_F : qK := fun _ _ _ => False
section QR
variable {p : Program} {l : Launch} {e : Env} {R : Room} {s : State} {m : MethodId} {args : Array Value} {below : List Frame} {meth : Method} {c : Code} {cc : ByteArray} {nL nW fr lo : Nat} {own : String} {ret : Option FieldType} {dC : Nat → ClassId} {dI : Nat → Nat → Nat} {k : Nat → ClassId} {g : Nat → Nat} {A : Nat → Prop} {Qf : State → Prop} {pc : Nat} {K K1 K2 : qK}
theorem s_F : q_Sd p l e R s m args below meth c nL nW dC dI k g A Qf (pc) (q_F) := fun _ _ _ _ _ _ h => h.elim
def x_int (n : Int) (K : qK) : qK := fun lv st w => K lv (.inl n :: st) w
theorem s_iconst (X : q_X p R s m args meth c cc nL nW fr lo own ret dC dI k g A) {n : Int} (hn : q_i n) (hd : decode cc pc = .ok (.iconst n, 1)) (hk : q_Sd p l e R s m args below meth c nL nW dC dI k g A Qf (pc + 1) (K)) : q_Sd p l e R s m args below meth c nL nW dC dI k g A Qf (pc) (x_int n K) := by
  intro H locs ls lv st w h hP hW hS hl okl oks okw
  obtain ⟨hx, hb, hml, hown, hts, hK, hA, hE, hfr, hlo, hlk, hret, hDg⟩ := X
  exact lv_iconst hx hb hd rfl (hk H locs ls (lv) (.inl n :: st) (w) h hP hW hS hl okl (q_oks_c hn oks) okw)
theorem s_bipush (X : q_X p R s m args meth c cc nL nW fr lo own ret dC dI k g A) {n : Int} (hn : q_i n) (hv : (Int8.ofInt n).toInt32 = Int32.ofInt n) (hd : decode cc pc = .ok (.bipush n, 2)) (hk : q_Sd p l e R s m args below meth c nL nW dC dI k g A Qf (pc + 2) (K)) : q_Sd p l e R s m args below meth c nL nW dC dI k g A Qf (pc) (x_int n K) := by
  intro H locs ls lv st w h hP hW hS hl okl oks okw
  obtain ⟨hx, hb, hml, hown, hts, hK, hA, hE, hfr, hlo, hlk, hret, hDg⟩ := X
  exact lv_bipush hx hb hd hv (hk H locs ls (lv) (.inl n :: st) (w) h hP hW hS hl okl (q_oks_c hn oks) okw)
theorem s_sipush (X : q_X p R s m args meth c cc nL nW fr lo own ret dC dI k g A) {n : Int} (hn : q_i n) (hv : (Int16.ofInt n).toInt32 = Int32.ofInt n) (hd : decode cc pc = .ok (.sipush n, 3)) (hk : q_Sd p l e R s m args below meth c nL nW dC dI k g A Qf (pc + 3) (K)) : q_Sd p l e R s m args below meth c nL nW dC dI k g A Qf (pc) (x_int n K) := by
  intro H locs ls lv st w h hP hW hS hl okl oks okw
  obtain ⟨hx, hb, hml, hown, hts, hK, hA, hE, hfr, hlo, hlk, hret, hDg⟩ := X
  exact lv_sipush hx hb hd hv (hk H locs ls (lv) (.inl n :: st) (w) h hP hW hS hl okl (q_oks_c hn oks) okw)
theorem s_ldc (X : q_X p R s m args meth c cc nL nW fr lo own ret dC dI k g A) {n : Int} {i : Nat} (hn : q_i n) (hw : Cond.constant own i (Int32.ofInt n) ∈ TB) (hd : decode cc pc = .ok (.ldc i, 2)) (hk : q_Sd p l e R s m args below meth c nL nW dC dI k g A Qf (pc + 2) (K)) : q_Sd p l e R s m args below meth c nL nW dC dI k g A Qf (pc) (x_int n K) := by
  intro H locs ls lv st w h hP hW hS hl okl oks okw
  obtain ⟨hx, hb, hml, hown, hts, hK, hA, hE, hfr, hlo, hlk, hret, hDg⟩ := X
  exact lv_ldc hx hb hown (hts _ hw) hd (hk H locs ls (lv) (.inl n :: st) (w) h hP hW hS hl okl (q_oks_c hn oks) okw)
def x_lng (n : Int) (K : qK) : qK := fun lv st w => K lv (.inr (.inl n) :: st) w
theorem s_lconst (X : q_X p R s m args meth c cc nL nW fr lo own ret dC dI k g A) {j : Fin 2} {n : Int} (hn : q_l n) (hv : Int64.ofNat (j : Nat) = Int64.ofInt n) (hd : decode cc pc = .ok (.lconst j, 1)) (hk : q_Sd p l e R s m args below meth c nL nW dC dI k g A Qf (pc + 1) (K)) : q_Sd p l e R s m args below meth c nL nW dC dI k g A Qf (pc) (x_lng n K) := by
  intro H locs ls lv st w h hP hW hS hl okl oks okw
  obtain ⟨hx, hb, hml, hown, hts, hK, hA, hE, hfr, hlo, hlk, hret, hDg⟩ := X
  exact lv_lconst hx hb hd hv (hk H locs ls (lv) (.inr (.inl n) :: st) (w) h hP hW hS hl okl (q_oks_c hn oks) okw)
theorem s_ldc2 (X : q_X p R s m args meth c cc nL nW fr lo own ret dC dI k g A) {n : Int} {i : Nat} (hn : q_l n) (hw : Cond.constantLong own i (Int64.ofInt n) ∈ TB) (hd : decode cc pc = .ok (.ldc2_w i, 3)) (hk : q_Sd p l e R s m args below meth c nL nW dC dI k g A Qf (pc + 3) (K)) : q_Sd p l e R s m args below meth c nL nW dC dI k g A Qf (pc) (x_lng n K) := by
  intro H locs ls lv st w h hP hW hS hl okl oks okw
  obtain ⟨hx, hb, hml, hown, hts, hK, hA, hE, hfr, hlo, hlk, hret, hDg⟩ := X
  exact lv_ldc2 hx hb hown (hts _ hw) hd (hk H locs ls (lv) (.inr (.inl n) :: st) (w) h hP hW hS hl okl (q_oks_c hn oks) okw)
def x_null (K : qK) : qK := fun lv st w => K lv (.inr (.inr none) :: st) w
theorem s_null (X : q_X p R s m args meth c cc nL nW fr lo own ret dC dI k g A) (hd : decode cc pc = .ok (.aconst_null, 1)) (hk : q_Sd p l e R s m args below meth c nL nW dC dI k g A Qf (pc + 1) (K)) : q_Sd p l e R s m args below meth c nL nW dC dI k g A Qf (pc) (x_null K) := by
  intro H locs ls lv st w h hP hW hS hl okl oks okw
  obtain ⟨hx, hb, hml, hown, hts, hK, hA, hE, hfr, hlo, hlk, hret, hDg⟩ := X
  exact lv_null hx hb hd (hk H locs ls (lv) (.inr (.inr none) :: st) (w) h hP hW hS hl okl (q_oks_c trivial oks) okw)
def x_iload (i : Nat) (K : qK) : qK := fun lv st w => match q_get lv i with
  | some (.inl z) => K lv (.inl z :: st) w
  | _ => False
def x_lload (i : Nat) (K : qK) : qK := fun lv st w => match q_get lv i with
  | some (.inr (.inl z)) => K lv (.inr (.inl z) :: st) w
  | _ => False
def x_aload (i : Nat) (K : qK) : qK := fun lv st w => match q_get lv i with
  | some (.inr (.inr z)) => K lv (.inr (.inr z) :: st) w
  | _ => False
theorem s_iload_n (X : q_X p R s m args meth c cc nL nW fr lo own ret dC dI k g A) {j : Fin 4} {i : Nat} (hi : (j : Nat) = i) (hd : decode cc pc = .ok (.iload_n j, 1)) (hk : q_Sd p l e R s m args below meth c nL nW dC dI k g A Qf (pc + 1) (K)) : q_Sd p l e R s m args below meth c nL nW dC dI k g A Qf (pc) (x_iload i K) := by
  intro H locs ls lv st w h hP hW hS hl okl oks okw
  obtain ⟨hx, hb, hml, hown, hts, hK, hA, hE, hfr, hlo, hlk, hret, hDg⟩ := X
  unfold x_iload at h
  split at h
  · rename_i z hz
    exact lv_iload_n hx hb hd hi (q_get_at hl hz) (hk H locs ls (lv) (.inl z :: st) (w) h hP hW hS hl okl (q_oks_c (q_get_ok okl hz) oks) okw)
  · exact h.elim
theorem s_iload (X : q_X p R s m args meth c cc nL nW fr lo own ret dC dI k g A) {i : Nat} (hd : decode cc pc = .ok (.iload i, 2)) (hk : q_Sd p l e R s m args below meth c nL nW dC dI k g A Qf (pc + 2) (K)) : q_Sd p l e R s m args below meth c nL nW dC dI k g A Qf (pc) (x_iload i K) := by
  intro H locs ls lv st w h hP hW hS hl okl oks okw
  obtain ⟨hx, hb, hml, hown, hts, hK, hA, hE, hfr, hlo, hlk, hret, hDg⟩ := X
  unfold x_iload at h
  split at h
  · rename_i z hz
    exact lv_iload hx hb hd (q_get_at hl hz) (hk H locs ls (lv) (.inl z :: st) (w) h hP hW hS hl okl (q_oks_c (q_get_ok okl hz) oks) okw)
  · exact h.elim
theorem s_lload_n (X : q_X p R s m args meth c cc nL nW fr lo own ret dC dI k g A) {j : Fin 4} {i : Nat} (hi : (j : Nat) = i) (hd : decode cc pc = .ok (.lload_n j, 1)) (hk : q_Sd p l e R s m args below meth c nL nW dC dI k g A Qf (pc + 1) (K)) : q_Sd p l e R s m args below meth c nL nW dC dI k g A Qf (pc) (x_lload i K) := by
  intro H locs ls lv st w h hP hW hS hl okl oks okw
  obtain ⟨hx, hb, hml, hown, hts, hK, hA, hE, hfr, hlo, hlk, hret, hDg⟩ := X
  unfold x_lload at h
  split at h
  · rename_i z hz
    exact lv_lload_n hx hb hd hi (q_get_at hl hz) (hk H locs ls (lv) (.inr (.inl z) :: st) (w) h hP hW hS hl okl (q_oks_c (q_get_ok okl hz) oks) okw)
  · exact h.elim
theorem s_lload (X : q_X p R s m args meth c cc nL nW fr lo own ret dC dI k g A) {i : Nat} (hd : decode cc pc = .ok (.lload i, 2)) (hk : q_Sd p l e R s m args below meth c nL nW dC dI k g A Qf (pc + 2) (K)) : q_Sd p l e R s m args below meth c nL nW dC dI k g A Qf (pc) (x_lload i K) := by
  intro H locs ls lv st w h hP hW hS hl okl oks okw
  obtain ⟨hx, hb, hml, hown, hts, hK, hA, hE, hfr, hlo, hlk, hret, hDg⟩ := X
  unfold x_lload at h
  split at h
  · rename_i z hz
    exact lv_lload hx hb hd (q_get_at hl hz) (hk H locs ls (lv) (.inr (.inl z) :: st) (w) h hP hW hS hl okl (q_oks_c (q_get_ok okl hz) oks) okw)
  · exact h.elim
theorem s_aload_n (X : q_X p R s m args meth c cc nL nW fr lo own ret dC dI k g A) {j : Fin 4} {i : Nat} (hi : (j : Nat) = i) (hd : decode cc pc = .ok (.aload_n j, 1)) (hk : q_Sd p l e R s m args below meth c nL nW dC dI k g A Qf (pc + 1) (K)) : q_Sd p l e R s m args below meth c nL nW dC dI k g A Qf (pc) (x_aload i K) := by
  intro H locs ls lv st w h hP hW hS hl okl oks okw
  obtain ⟨hx, hb, hml, hown, hts, hK, hA, hE, hfr, hlo, hlk, hret, hDg⟩ := X
  unfold x_aload at h
  split at h
  · rename_i z hz
    cases z with
    | some z => exact lv_aload_n hx hb hd hi (q_get_at hl hz) (hk H locs ls (lv) (.inr (.inr (some z)) :: st) (w) h hP hW hS hl okl (q_oks_c trivial oks) okw)
    | none => exact lv_aload_nN hx hb hd hi (q_get_at hl hz) (hk H locs ls (lv) (.inr (.inr none) :: st) (w) h hP hW hS hl okl (q_oks_c trivial oks) okw)
  · exact h.elim
theorem s_aload (X : q_X p R s m args meth c cc nL nW fr lo own ret dC dI k g A) {i : Nat} (hd : decode cc pc = .ok (.aload i, 2)) (hk : q_Sd p l e R s m args below meth c nL nW dC dI k g A Qf (pc + 2) (K)) : q_Sd p l e R s m args below meth c nL nW dC dI k g A Qf (pc) (x_aload i K) := by
  intro H locs ls lv st w h hP hW hS hl okl oks okw
  obtain ⟨hx, hb, hml, hown, hts, hK, hA, hE, hfr, hlo, hlk, hret, hDg⟩ := X
  unfold x_aload at h
  split at h
  · rename_i z hz
    cases z with
    | some z => exact lv_aload hx hb hd (q_get_at hl hz) (hk H locs ls (lv) (.inr (.inr (some z)) :: st) (w) h hP hW hS hl okl (q_oks_c trivial oks) okw)
    | none => exact lv_aloadN hx hb hd (q_get_at hl hz) (hk H locs ls (lv) (.inr (.inr none) :: st) (w) h hP hW hS hl okl (q_oks_c trivial oks) okw)
  · exact h.elim
def x_istore (i : Nat) (K : qK) : qK := fun lv st w => match st with
  | .inl z :: r => K (q_put lv i (.inl z)) r w
  | _ => False
def x_lstore (i : Nat) (K : qK) : qK := fun lv st w => match st with
  | .inr (.inl z) :: r => K (q_put2 lv i (.inr (.inl z))) r w
  | _ => False
def x_astore (i : Nat) (K : qK) : qK := fun lv st w => match st with
  | .inr (.inr z) :: r => K (q_put lv i (.inr (.inr z))) r w
  | _ => False
theorem s_istore_n (X : q_X p R s m args meth c cc nL nW fr lo own ret dC dI k g A) {j : Fin 4} {i : Nat} (hi : (j : Nat) = i) (hn : i < nL) (hd : decode cc pc = .ok (.istore_n j, 1)) (hk : q_Sd p l e R s m args below meth c nL nW dC dI k g A Qf (pc + 1) (K)) : q_Sd p l e R s m args below meth c nL nW dC dI k g A Qf (pc) (x_istore i K) := by
  intro H locs ls lv st w h hP hW hS hl okl oks okw
  obtain ⟨hx, hb, hml, hown, hts, hK, hA, hE, hfr, hlo, hlk, hret, hDg⟩ := X
  unfold x_istore at h
  split at h
  · rename_i z r
    exact lv_istore_n hx hb hd hi hl hn (q_put_lv (v := .inl z)) (fun ls hl => (hk H locs ls (q_put lv i (.inl z)) (r) (w) h hP hW hS hl (q_okl_put okl (q_oks_h oks)) (q_oks_t oks) okw))
  · exact h.elim
theorem s_lstore_n (X : q_X p R s m args meth c cc nL nW fr lo own ret dC dI k g A) {j : Fin 4} {i : Nat} (hi : (j : Nat) = i) (hn : i + 1 < nL) (hd : decode cc pc = .ok (.lstore_n j, 1)) (hk : q_Sd p l e R s m args below meth c nL nW dC dI k g A Qf (pc + 1) (K)) : q_Sd p l e R s m args below meth c nL nW dC dI k g A Qf (pc) (x_lstore i K) := by
  intro H locs ls lv st w h hP hW hS hl okl oks okw
  obtain ⟨hx, hb, hml, hown, hts, hK, hA, hE, hfr, hlo, hlk, hret, hDg⟩ := X
  unfold x_lstore at h
  split at h
  · rename_i z r
    exact lv_lstore_n hx hb hd hi hl hn (q_put2_lv (v := .inr (.inl z))) (fun ls hl => (hk H locs ls (q_put2 lv i (.inr (.inl z))) (r) (w) h hP hW hS hl (q_okl_put2 okl (q_oks_h oks)) (q_oks_t oks) okw))
  · exact h.elim
theorem s_astore_n (X : q_X p R s m args meth c cc nL nW fr lo own ret dC dI k g A) {j : Fin 4} {i : Nat} (hi : (j : Nat) = i) (hn : i < nL) (hd : decode cc pc = .ok (.astore_n j, 1)) (hk : q_Sd p l e R s m args below meth c nL nW dC dI k g A Qf (pc + 1) (K)) : q_Sd p l e R s m args below meth c nL nW dC dI k g A Qf (pc) (x_astore i K) := by
  intro H locs ls lv st w h hP hW hS hl okl oks okw
  obtain ⟨hx, hb, hml, hown, hts, hK, hA, hE, hfr, hlo, hlk, hret, hDg⟩ := X
  unfold x_astore at h
  split at h
  · rename_i z r
    cases z with
    | some z => exact lv_astore_n hx hb hd hi hl hn (q_put_lv (v := .inr (.inr (some z)))) (fun ls hl => (hk H locs ls (q_put lv i (.inr (.inr (some z)))) (r) (w) h hP hW hS hl (q_okl_put okl trivial) (q_oks_t oks) okw))
    | none => exact lv_astore_nN hx hb hd hi hl hn (q_put_lv (v := .inr (.inr none))) (fun ls hl => (hk H locs ls (q_put lv i (.inr (.inr none))) (r) (w) h hP hW hS hl (q_okl_put okl trivial) (q_oks_t oks) okw))
  · exact h.elim
theorem s_istore (X : q_X p R s m args meth c cc nL nW fr lo own ret dC dI k g A) {i : Nat} (hn : i < nL) (hd : decode cc pc = .ok (.istore i, 2)) (hk : q_Sd p l e R s m args below meth c nL nW dC dI k g A Qf (pc + 2) (K)) : q_Sd p l e R s m args below meth c nL nW dC dI k g A Qf (pc) (x_istore i K) := by
  intro H locs ls lv st w h hP hW hS hl okl oks okw
  obtain ⟨hx, hb, hml, hown, hts, hK, hA, hE, hfr, hlo, hlk, hret, hDg⟩ := X
  unfold x_istore at h
  split at h
  · rename_i z r
    exact lv_istore hx hb hd hl hn (q_put_lv (v := .inl z)) (fun ls hl => (hk H locs ls (q_put lv i (.inl z)) (r) (w) h hP hW hS hl (q_okl_put okl (q_oks_h oks)) (q_oks_t oks) okw))
  · exact h.elim
theorem s_lstore (X : q_X p R s m args meth c cc nL nW fr lo own ret dC dI k g A) {i : Nat} (hn : i + 1 < nL) (hd : decode cc pc = .ok (.lstore i, 2)) (hk : q_Sd p l e R s m args below meth c nL nW dC dI k g A Qf (pc + 2) (K)) : q_Sd p l e R s m args below meth c nL nW dC dI k g A Qf (pc) (x_lstore i K) := by
  intro H locs ls lv st w h hP hW hS hl okl oks okw
  obtain ⟨hx, hb, hml, hown, hts, hK, hA, hE, hfr, hlo, hlk, hret, hDg⟩ := X
  unfold x_lstore at h
  split at h
  · rename_i z r
    exact lv_lstore hx hb hd hl hn (q_put2_lv (v := .inr (.inl z))) (fun ls hl => (hk H locs ls (q_put2 lv i (.inr (.inl z))) (r) (w) h hP hW hS hl (q_okl_put2 okl (q_oks_h oks)) (q_oks_t oks) okw))
  · exact h.elim
theorem s_astore (X : q_X p R s m args meth c cc nL nW fr lo own ret dC dI k g A) {i : Nat} (hn : i < nL) (hd : decode cc pc = .ok (.astore i, 2)) (hk : q_Sd p l e R s m args below meth c nL nW dC dI k g A Qf (pc + 2) (K)) : q_Sd p l e R s m args below meth c nL nW dC dI k g A Qf (pc) (x_astore i K) := by
  intro H locs ls lv st w h hP hW hS hl okl oks okw
  obtain ⟨hx, hb, hml, hown, hts, hK, hA, hE, hfr, hlo, hlk, hret, hDg⟩ := X
  unfold x_astore at h
  split at h
  · rename_i z r
    cases z with
    | some z => exact lv_astore hx hb hd hl hn (q_put_lv (v := .inr (.inr (some z)))) (fun ls hl => (hk H locs ls (q_put lv i (.inr (.inr (some z)))) (r) (w) h hP hW hS hl (q_okl_put okl trivial) (q_oks_t oks) okw))
    | none => exact lv_astoreN hx hb hd hl hn (q_put_lv (v := .inr (.inr none))) (fun ls hl => (hk H locs ls (q_put lv i (.inr (.inr none))) (r) (w) h hP hW hS hl (q_okl_put okl trivial) (q_oks_t oks) okw))
  · exact h.elim
def x_iinc (i : Nat) (n : Int) (K : qK) : qK := fun lv st w => match q_get lv i with
  | some (.inl z) => ∀ y : Int, y = (Int32.ofInt z + Int32.ofInt n).toInt → K (q_put lv i (.inl y)) st w
  | _ => False
theorem q_at_lv {g : Nat → Nat} {lv : qL} {i : Nat} {v : qV} (h : q_get lv i = some v) : ∃ j : Nat, (q_lv g lv)[j]? = some (i, q_v g v) := List.getElem?_of_mem (List.mem_map.mpr ⟨(i, v), q_get_mem h, rfl⟩)
theorem s_iinc (X : q_X p R s m args meth c cc nL nW fr lo own ret dC dI k g A) {i : Nat} {n : Int} (hn : i < nL) (hd : decode cc pc = .ok (.iinc i n, 3)) (hk : q_Sd p l e R s m args below meth c nL nW dC dI k g A Qf (pc + 3) (K)) : q_Sd p l e R s m args below meth c nL nW dC dI k g A Qf (pc) (x_iinc i n K) := by
  intro H locs ls lv st w h hP hW hS hl okl oks okw
  obtain ⟨hx, hb, hml, hown, hts, hK, hA, hE, hfr, hlo, hlk, hret, hDg⟩ := X
  unfold x_iinc at h
  split at h
  · rename_i z hz
    obtain ⟨j, hj⟩ := q_at_lv (g := g) hz
    exact lv_iinc hx hb hd hl hj (by rw [Int32.ofInt_toInt] : Int32.ofInt z + Int32.ofInt n = Int32.ofInt (Int32.ofInt z + Int32.ofInt n).toInt) hn (q_put_lv (v := .inl (Int32.ofInt z + Int32.ofInt n).toInt)) (fun ls hl => (hk H locs ls (q_put lv i (.inl (Int32.ofInt z + Int32.ofInt n).toInt)) (st) (w) (h _ rfl) hP hW hS hl (q_okl_put okl (q_it _)) oks okw))
  · exact h.elim
theorem q_bk (x : Int32) : Value.int x = q_v g (.inl x.toInt) := by show Value.int x = Value.int (Int32.ofInt x.toInt); rw [Int32.ofInt_toInt]
theorem q_bkl (x : Int64) : Value.long x = q_v g (.inr (.inl x.toInt)) := by show Value.long x = Value.long (Int64.ofInt x.toInt); rw [Int64.ofInt_toInt]
def x_iadd (K : qK) : qK := fun lv st w => match st with
  | .inl y :: .inl x :: r => ∀ z : Int, z = (Int32.ofInt x + Int32.ofInt y).toInt → K lv (.inl z :: r) w
  | _ => False
theorem s_iadd (X : q_X p R s m args meth c cc nL nW fr lo own ret dC dI k g A) (hd : decode cc pc = .ok (.iadd, 1)) (hk : q_Sd p l e R s m args below meth c nL nW dC dI k g A Qf (pc + 1) (K)) : q_Sd p l e R s m args below meth c nL nW dC dI k g A Qf (pc) (x_iadd K) := by
  intro H locs ls lv st w h hP hW hS hl okl oks okw
  obtain ⟨hx, hb, hml, hown, hts, hK, hA, hE, hfr, hlo, hlk, hret, hDg⟩ := X
  unfold x_iadd at h
  split at h
  · rename_i y x r
    refine lv_iadd hx hb hd ?_
    rw [q_bk (g := g)]
    exact (hk H locs ls (lv) (.inl (Int32.ofInt x + Int32.ofInt y).toInt :: r) (w) (h _ rfl) hP hW hS hl okl (q_oks_c (q_it _) (q_oks_t (q_oks_t oks))) okw)
  · exact h.elim
def x_isub (K : qK) : qK := fun lv st w => match st with
  | .inl y :: .inl x :: r => ∀ z : Int, z = (Int32.ofInt x - Int32.ofInt y).toInt → K lv (.inl z :: r) w
  | _ => False
theorem s_isub (X : q_X p R s m args meth c cc nL nW fr lo own ret dC dI k g A) (hd : decode cc pc = .ok (.isub, 1)) (hk : q_Sd p l e R s m args below meth c nL nW dC dI k g A Qf (pc + 1) (K)) : q_Sd p l e R s m args below meth c nL nW dC dI k g A Qf (pc) (x_isub K) := by
  intro H locs ls lv st w h hP hW hS hl okl oks okw
  obtain ⟨hx, hb, hml, hown, hts, hK, hA, hE, hfr, hlo, hlk, hret, hDg⟩ := X
  unfold x_isub at h
  split at h
  · rename_i y x r
    refine lv_isub hx hb hd ?_
    rw [q_bk (g := g)]
    exact (hk H locs ls (lv) (.inl (Int32.ofInt x - Int32.ofInt y).toInt :: r) (w) (h _ rfl) hP hW hS hl okl (q_oks_c (q_it _) (q_oks_t (q_oks_t oks))) okw)
  · exact h.elim
def x_imul (K : qK) : qK := fun lv st w => match st with
  | .inl y :: .inl x :: r => ∀ z : Int, z = (Int32.ofInt x * Int32.ofInt y).toInt → K lv (.inl z :: r) w
  | _ => False
theorem s_imul (X : q_X p R s m args meth c cc nL nW fr lo own ret dC dI k g A) (hd : decode cc pc = .ok (.imul, 1)) (hk : q_Sd p l e R s m args below meth c nL nW dC dI k g A Qf (pc + 1) (K)) : q_Sd p l e R s m args below meth c nL nW dC dI k g A Qf (pc) (x_imul K) := by
  intro H locs ls lv st w h hP hW hS hl okl oks okw
  obtain ⟨hx, hb, hml, hown, hts, hK, hA, hE, hfr, hlo, hlk, hret, hDg⟩ := X
  unfold x_imul at h
  split at h
  · rename_i y x r
    refine lv_imul hx hb hd ?_
    rw [q_bk (g := g)]
    exact (hk H locs ls (lv) (.inl (Int32.ofInt x * Int32.ofInt y).toInt :: r) (w) (h _ rfl) hP hW hS hl okl (q_oks_c (q_it _) (q_oks_t (q_oks_t oks))) okw)
  · exact h.elim
def x_iand (K : qK) : qK := fun lv st w => match st with
  | .inl y :: .inl x :: r => ∀ z : Int, z = (Int32.ofInt x &&& Int32.ofInt y).toInt → K lv (.inl z :: r) w
  | _ => False
theorem s_iand (X : q_X p R s m args meth c cc nL nW fr lo own ret dC dI k g A) (hd : decode cc pc = .ok (.iand, 1)) (hk : q_Sd p l e R s m args below meth c nL nW dC dI k g A Qf (pc + 1) (K)) : q_Sd p l e R s m args below meth c nL nW dC dI k g A Qf (pc) (x_iand K) := by
  intro H locs ls lv st w h hP hW hS hl okl oks okw
  obtain ⟨hx, hb, hml, hown, hts, hK, hA, hE, hfr, hlo, hlk, hret, hDg⟩ := X
  unfold x_iand at h
  split at h
  · rename_i y x r
    refine lv_iand hx hb hd ?_
    rw [q_bk (g := g)]
    exact (hk H locs ls (lv) (.inl (Int32.ofInt x &&& Int32.ofInt y).toInt :: r) (w) (h _ rfl) hP hW hS hl okl (q_oks_c (q_it _) (q_oks_t (q_oks_t oks))) okw)
  · exact h.elim
def x_ior (K : qK) : qK := fun lv st w => match st with
  | .inl y :: .inl x :: r => ∀ z : Int, z = (Int32.ofInt x ||| Int32.ofInt y).toInt → K lv (.inl z :: r) w
  | _ => False
theorem s_ior (X : q_X p R s m args meth c cc nL nW fr lo own ret dC dI k g A) (hd : decode cc pc = .ok (.ior, 1)) (hk : q_Sd p l e R s m args below meth c nL nW dC dI k g A Qf (pc + 1) (K)) : q_Sd p l e R s m args below meth c nL nW dC dI k g A Qf (pc) (x_ior K) := by
  intro H locs ls lv st w h hP hW hS hl okl oks okw
  obtain ⟨hx, hb, hml, hown, hts, hK, hA, hE, hfr, hlo, hlk, hret, hDg⟩ := X
  unfold x_ior at h
  split at h
  · rename_i y x r
    refine lv_ior hx hb hd ?_
    rw [q_bk (g := g)]
    exact (hk H locs ls (lv) (.inl (Int32.ofInt x ||| Int32.ofInt y).toInt :: r) (w) (h _ rfl) hP hW hS hl okl (q_oks_c (q_it _) (q_oks_t (q_oks_t oks))) okw)
  · exact h.elim
def x_ixor (K : qK) : qK := fun lv st w => match st with
  | .inl y :: .inl x :: r => ∀ z : Int, z = (Int32.ofInt x ^^^ Int32.ofInt y).toInt → K lv (.inl z :: r) w
  | _ => False
theorem s_ixor (X : q_X p R s m args meth c cc nL nW fr lo own ret dC dI k g A) (hd : decode cc pc = .ok (.ixor, 1)) (hk : q_Sd p l e R s m args below meth c nL nW dC dI k g A Qf (pc + 1) (K)) : q_Sd p l e R s m args below meth c nL nW dC dI k g A Qf (pc) (x_ixor K) := by
  intro H locs ls lv st w h hP hW hS hl okl oks okw
  obtain ⟨hx, hb, hml, hown, hts, hK, hA, hE, hfr, hlo, hlk, hret, hDg⟩ := X
  unfold x_ixor at h
  split at h
  · rename_i y x r
    refine lv_ixor hx hb hd ?_
    rw [q_bk (g := g)]
    exact (hk H locs ls (lv) (.inl (Int32.ofInt x ^^^ Int32.ofInt y).toInt :: r) (w) (h _ rfl) hP hW hS hl okl (q_oks_c (q_it _) (q_oks_t (q_oks_t oks))) okw)
  · exact h.elim
def x_ishl (K : qK) : qK := fun lv st w => match st with
  | .inl y :: .inl x :: r => ∀ z : Int, z = (Int32.ofInt x <<< (Int32.ofInt y &&& 31)).toInt → K lv (.inl z :: r) w
  | _ => False
theorem s_ishl (X : q_X p R s m args meth c cc nL nW fr lo own ret dC dI k g A) (hd : decode cc pc = .ok (.ishl, 1)) (hk : q_Sd p l e R s m args below meth c nL nW dC dI k g A Qf (pc + 1) (K)) : q_Sd p l e R s m args below meth c nL nW dC dI k g A Qf (pc) (x_ishl K) := by
  intro H locs ls lv st w h hP hW hS hl okl oks okw
  obtain ⟨hx, hb, hml, hown, hts, hK, hA, hE, hfr, hlo, hlk, hret, hDg⟩ := X
  unfold x_ishl at h
  split at h
  · rename_i y x r
    refine lv_ishl hx hb hd ?_
    rw [q_bk (g := g)]
    exact (hk H locs ls (lv) (.inl (Int32.ofInt x <<< (Int32.ofInt y &&& 31)).toInt :: r) (w) (h _ rfl) hP hW hS hl okl (q_oks_c (q_it _) (q_oks_t (q_oks_t oks))) okw)
  · exact h.elim
def x_ishr (K : qK) : qK := fun lv st w => match st with
  | .inl y :: .inl x :: r => ∀ z : Int, z = (Int32.ofInt x >>> (Int32.ofInt y &&& 31)).toInt → K lv (.inl z :: r) w
  | _ => False
theorem s_ishr (X : q_X p R s m args meth c cc nL nW fr lo own ret dC dI k g A) (hd : decode cc pc = .ok (.ishr, 1)) (hk : q_Sd p l e R s m args below meth c nL nW dC dI k g A Qf (pc + 1) (K)) : q_Sd p l e R s m args below meth c nL nW dC dI k g A Qf (pc) (x_ishr K) := by
  intro H locs ls lv st w h hP hW hS hl okl oks okw
  obtain ⟨hx, hb, hml, hown, hts, hK, hA, hE, hfr, hlo, hlk, hret, hDg⟩ := X
  unfold x_ishr at h
  split at h
  · rename_i y x r
    refine lv_ishr hx hb hd ?_
    rw [q_bk (g := g)]
    exact (hk H locs ls (lv) (.inl (Int32.ofInt x >>> (Int32.ofInt y &&& 31)).toInt :: r) (w) (h _ rfl) hP hW hS hl okl (q_oks_c (q_it _) (q_oks_t (q_oks_t oks))) okw)
  · exact h.elim
def x_idiv (K : qK) : qK := fun lv st w => match st with
  | .inl y :: .inl x :: r => ¬ y = 0 ∧ ∀ z : Int, z = (Int32.ofInt x / Int32.ofInt y).toInt → K lv (.inl z :: r) w
  | _ => False
theorem s_idiv (X : q_X p R s m args meth c cc nL nW fr lo own ret dC dI k g A) (hd : decode cc pc = .ok (.idiv, 1)) (hk : q_Sd p l e R s m args below meth c nL nW dC dI k g A Qf (pc + 1) (K)) : q_Sd p l e R s m args below meth c nL nW dC dI k g A Qf (pc) (x_idiv K) := by
  intro H locs ls lv st w h hP hW hS hl okl oks okw
  obtain ⟨hx, hb, hml, hown, hts, hK, hA, hE, hfr, hlo, hlk, hret, hDg⟩ := X
  unfold x_idiv at h
  split at h
  · rename_i y x r
    refine lv_idiv hx hb hd (fun e0 => h.1 ((q_eq_iff (q_oks_h oks) q_i0).mp e0)) ?_
    rw [q_bk (g := g)]
    exact (hk H locs ls (lv) (.inl (Int32.ofInt x / Int32.ofInt y).toInt :: r) (w) (h.2 _ rfl) hP hW hS hl okl (q_oks_c (q_it _) (q_oks_t (q_oks_t oks))) okw)
  · exact h.elim
def x_irem (K : qK) : qK := fun lv st w => match st with
  | .inl y :: .inl x :: r => ¬ y = 0 ∧ ∀ z : Int, z = (Int32.ofInt x - Int32.ofInt x / Int32.ofInt y * Int32.ofInt y).toInt → K lv (.inl z :: r) w
  | _ => False
theorem s_irem (X : q_X p R s m args meth c cc nL nW fr lo own ret dC dI k g A) (hd : decode cc pc = .ok (.irem, 1)) (hk : q_Sd p l e R s m args below meth c nL nW dC dI k g A Qf (pc + 1) (K)) : q_Sd p l e R s m args below meth c nL nW dC dI k g A Qf (pc) (x_irem K) := by
  intro H locs ls lv st w h hP hW hS hl okl oks okw
  obtain ⟨hx, hb, hml, hown, hts, hK, hA, hE, hfr, hlo, hlk, hret, hDg⟩ := X
  unfold x_irem at h
  split at h
  · rename_i y x r
    refine lv_irem hx hb hd (fun e0 => h.1 ((q_eq_iff (q_oks_h oks) q_i0).mp e0)) ?_
    rw [q_bk (g := g)]
    exact (hk H locs ls (lv) (.inl (Int32.ofInt x - Int32.ofInt x / Int32.ofInt y * Int32.ofInt y).toInt :: r) (w) (h.2 _ rfl) hP hW hS hl okl (q_oks_c (q_it _) (q_oks_t (q_oks_t oks))) okw)
  · exact h.elim
def x_iushr (K : qK) : qK := fun lv st w => match st with
  | .inl y :: .inl x :: r => ∀ z : Int, z = (((Int32.ofInt x).toUInt32 >>> ((Int32.ofInt y).toUInt32 &&& Int32.toUInt32 31)).toInt32).toInt → K lv (.inl z :: r) w
  | _ => False
theorem s_iushr (X : q_X p R s m args meth c cc nL nW fr lo own ret dC dI k g A) (hd : decode cc pc = .ok (.iushr, 1)) (hk : q_Sd p l e R s m args below meth c nL nW dC dI k g A Qf (pc + 1) (K)) : q_Sd p l e R s m args below meth c nL nW dC dI k g A Qf (pc) (x_iushr K) := by
  intro H locs ls lv st w h hP hW hS hl okl oks okw
  obtain ⟨hx, hb, hml, hown, hts, hK, hA, hE, hfr, hlo, hlk, hret, hDg⟩ := X
  unfold x_iushr at h
  split at h
  · rename_i y x r
    refine lv_iushr hx hb hd rfl ?_
    rw [q_bk (g := g)]
    exact (hk H locs ls (lv) (.inl (((Int32.ofInt x).toUInt32 >>> ((Int32.ofInt y).toUInt32 &&& Int32.toUInt32 31)).toInt32).toInt :: r) (w) (h _ rfl) hP hW hS hl okl (q_oks_c (q_it _) (q_oks_t (q_oks_t oks))) okw)
  · exact h.elim
def x_ineg (K : qK) : qK := fun lv st w => match st with
  | .inl x :: r => ∀ z : Int, z = (-Int32.ofInt x).toInt → K lv (.inl z :: r) w
  | _ => False
theorem s_ineg (X : q_X p R s m args meth c cc nL nW fr lo own ret dC dI k g A) (hd : decode cc pc = .ok (.ineg, 1)) (hk : q_Sd p l e R s m args below meth c nL nW dC dI k g A Qf (pc + 1) (K)) : q_Sd p l e R s m args below meth c nL nW dC dI k g A Qf (pc) (x_ineg K) := by
  intro H locs ls lv st w h hP hW hS hl okl oks okw
  obtain ⟨hx, hb, hml, hown, hts, hK, hA, hE, hfr, hlo, hlk, hret, hDg⟩ := X
  unfold x_ineg at h
  split at h
  · rename_i x r
    refine lv_ineg hx hb hd ?_
    rw [q_bk (g := g)]
    exact (hk H locs ls (lv) (.inl (-Int32.ofInt x).toInt :: r) (w) (h _ rfl) hP hW hS hl okl (q_oks_c (q_it _) (q_oks_t oks)) okw)
  · exact h.elim
def x_i2b (K : qK) : qK := fun lv st w => match st with
  | .inl x :: r => ∀ z : Int, z = ((Int32.ofInt x).toInt8.toInt32).toInt → K lv (.inl z :: r) w
  | _ => False
theorem s_i2b (X : q_X p R s m args meth c cc nL nW fr lo own ret dC dI k g A) (hd : decode cc pc = .ok (.i2b, 1)) (hk : q_Sd p l e R s m args below meth c nL nW dC dI k g A Qf (pc + 1) (K)) : q_Sd p l e R s m args below meth c nL nW dC dI k g A Qf (pc) (x_i2b K) := by
  intro H locs ls lv st w h hP hW hS hl okl oks okw
  obtain ⟨hx, hb, hml, hown, hts, hK, hA, hE, hfr, hlo, hlk, hret, hDg⟩ := X
  unfold x_i2b at h
  split at h
  · rename_i x r
    refine lv_i2b hx hb hd rfl ?_
    rw [q_bk (g := g)]
    exact (hk H locs ls (lv) (.inl ((Int32.ofInt x).toInt8.toInt32).toInt :: r) (w) (h _ rfl) hP hW hS hl okl (q_oks_c (q_it _) (q_oks_t oks)) okw)
  · exact h.elim
def x_i2c (K : qK) : qK := fun lv st w => match st with
  | .inl x :: r => ∀ z : Int, z = (((Int32.ofInt x).toUInt32 % 65536).toInt32).toInt → K lv (.inl z :: r) w
  | _ => False
theorem s_i2c (X : q_X p R s m args meth c cc nL nW fr lo own ret dC dI k g A) (hd : decode cc pc = .ok (.i2c, 1)) (hk : q_Sd p l e R s m args below meth c nL nW dC dI k g A Qf (pc + 1) (K)) : q_Sd p l e R s m args below meth c nL nW dC dI k g A Qf (pc) (x_i2c K) := by
  intro H locs ls lv st w h hP hW hS hl okl oks okw
  obtain ⟨hx, hb, hml, hown, hts, hK, hA, hE, hfr, hlo, hlk, hret, hDg⟩ := X
  unfold x_i2c at h
  split at h
  · rename_i x r
    refine lv_i2c hx hb hd rfl ?_
    rw [q_bk (g := g)]
    exact (hk H locs ls (lv) (.inl (((Int32.ofInt x).toUInt32 % 65536).toInt32).toInt :: r) (w) (h _ rfl) hP hW hS hl okl (q_oks_c (q_it _) (q_oks_t oks)) okw)
  · exact h.elim
def x_i2l (K : qK) : qK := fun lv st w => match st with
  | .inl x :: r => K lv (.inr (.inl x) :: r) w
  | _ => False
theorem s_i2l (X : q_X p R s m args meth c cc nL nW fr lo own ret dC dI k g A) (hd : decode cc pc = .ok (.i2l, 1)) (hk : q_Sd p l e R s m args below meth c nL nW dC dI k g A Qf (pc + 1) (K)) : q_Sd p l e R s m args below meth c nL nW dC dI k g A Qf (pc) (x_i2l K) := by
  intro H locs ls lv st w h hP hW hS hl okl oks okw
  obtain ⟨hx, hb, hml, hown, hts, hK, hA, hE, hfr, hlo, hlk, hret, hDg⟩ := X
  unfold x_i2l at h
  split at h
  · rename_i x r
    have hi : q_i x := q_oks_h oks
    have hl64 : q_l x := ⟨by have := hi.1; omega, by have := hi.2; omega⟩
    exact lv_i2l hx hb hd (v := Int64.ofInt x) (Int64.toInt_inj.mp (by rw [q_lo hl64, Int32.toInt_toInt64, q_io hi])) (hk H locs ls (lv) (.inr (.inl x) :: r) (w) h hP hW hS hl okl (q_oks_c hl64 (q_oks_t oks)) okw)
  · exact h.elim
def x_ladd (K : qK) : qK := fun lv st w => match st with
  | .inr (.inl y) :: .inr (.inl x) :: r => ∀ z : Int, z = (Int64.ofInt x + Int64.ofInt y).toInt → K lv (.inr (.inl z) :: r) w
  | _ => False
theorem s_ladd (X : q_X p R s m args meth c cc nL nW fr lo own ret dC dI k g A) (hd : decode cc pc = .ok (.ladd, 1)) (hk : q_Sd p l e R s m args below meth c nL nW dC dI k g A Qf (pc + 1) (K)) : q_Sd p l e R s m args below meth c nL nW dC dI k g A Qf (pc) (x_ladd K) := by
  intro H locs ls lv st w h hP hW hS hl okl oks okw
  obtain ⟨hx, hb, hml, hown, hts, hK, hA, hE, hfr, hlo, hlk, hret, hDg⟩ := X
  unfold x_ladd at h
  split at h
  · rename_i y x r
    refine lv_ladd hx hb hd ?_
    rw [q_bkl (g := g)]
    exact (hk H locs ls (lv) (.inr (.inl (Int64.ofInt x + Int64.ofInt y).toInt) :: r) (w) (h _ rfl) hP hW hS hl okl (q_oks_c (q_lt _) (q_oks_t (q_oks_t oks))) okw)
  · exact h.elim
def x_lmul (K : qK) : qK := fun lv st w => match st with
  | .inr (.inl y) :: .inr (.inl x) :: r => ∀ z : Int, z = (Int64.ofInt x * Int64.ofInt y).toInt → K lv (.inr (.inl z) :: r) w
  | _ => False
theorem s_lmul (X : q_X p R s m args meth c cc nL nW fr lo own ret dC dI k g A) (hd : decode cc pc = .ok (.lmul, 1)) (hk : q_Sd p l e R s m args below meth c nL nW dC dI k g A Qf (pc + 1) (K)) : q_Sd p l e R s m args below meth c nL nW dC dI k g A Qf (pc) (x_lmul K) := by
  intro H locs ls lv st w h hP hW hS hl okl oks okw
  obtain ⟨hx, hb, hml, hown, hts, hK, hA, hE, hfr, hlo, hlk, hret, hDg⟩ := X
  unfold x_lmul at h
  split at h
  · rename_i y x r
    refine lv_lmul hx hb hd ?_
    rw [q_bkl (g := g)]
    exact (hk H locs ls (lv) (.inr (.inl (Int64.ofInt x * Int64.ofInt y).toInt) :: r) (w) (h _ rfl) hP hW hS hl okl (q_oks_c (q_lt _) (q_oks_t (q_oks_t oks))) okw)
  · exact h.elim
def x_lor (K : qK) : qK := fun lv st w => match st with
  | .inr (.inl y) :: .inr (.inl x) :: r => ∀ z : Int, z = (Int64.ofInt x ||| Int64.ofInt y).toInt → K lv (.inr (.inl z) :: r) w
  | _ => False
theorem s_lor (X : q_X p R s m args meth c cc nL nW fr lo own ret dC dI k g A) (hd : decode cc pc = .ok (.lor, 1)) (hk : q_Sd p l e R s m args below meth c nL nW dC dI k g A Qf (pc + 1) (K)) : q_Sd p l e R s m args below meth c nL nW dC dI k g A Qf (pc) (x_lor K) := by
  intro H locs ls lv st w h hP hW hS hl okl oks okw
  obtain ⟨hx, hb, hml, hown, hts, hK, hA, hE, hfr, hlo, hlk, hret, hDg⟩ := X
  unfold x_lor at h
  split at h
  · rename_i y x r
    refine lv_lor hx hb hd ?_
    rw [q_bkl (g := g)]
    exact (hk H locs ls (lv) (.inr (.inl (Int64.ofInt x ||| Int64.ofInt y).toInt) :: r) (w) (h _ rfl) hP hW hS hl okl (q_oks_c (q_lt _) (q_oks_t (q_oks_t oks))) okw)
  · exact h.elim
def x_ldiv (K : qK) : qK := fun lv st w => match st with
  | .inr (.inl y) :: .inr (.inl x) :: r => ¬ y = 0 ∧ ∀ z : Int, z = (Int64.ofInt x / Int64.ofInt y).toInt → K lv (.inr (.inl z) :: r) w
  | _ => False
theorem s_ldiv (X : q_X p R s m args meth c cc nL nW fr lo own ret dC dI k g A) (hd : decode cc pc = .ok (.ldiv, 1)) (hk : q_Sd p l e R s m args below meth c nL nW dC dI k g A Qf (pc + 1) (K)) : q_Sd p l e R s m args below meth c nL nW dC dI k g A Qf (pc) (x_ldiv K) := by
  intro H locs ls lv st w h hP hW hS hl okl oks okw
  obtain ⟨hx, hb, hml, hown, hts, hK, hA, hE, hfr, hlo, hlk, hret, hDg⟩ := X
  unfold x_ldiv at h
  split at h
  · rename_i y x r
    refine lv_ldiv hx hb hd (fun e0 => h.1 (by have e1 := congrArg Int64.toInt e0; rw [q_lo (q_oks_h oks)] at e1; exact e1)) ?_
    rw [q_bkl (g := g)]
    exact (hk H locs ls (lv) (.inr (.inl (Int64.ofInt x / Int64.ofInt y).toInt) :: r) (w) (h.2 _ rfl) hP hW hS hl okl (q_oks_c (q_lt _) (q_oks_t (q_oks_t oks))) okw)
  · exact h.elim
def x_lshl (K : qK) : qK := fun lv st w => match st with
  | .inl y :: .inr (.inl x) :: r => ∀ z : Int, z = (Int64.ofInt x <<< ((Int32.ofInt y).toInt64 &&& 63)).toInt → K lv (.inr (.inl z) :: r) w
  | _ => False
theorem s_lshl (X : q_X p R s m args meth c cc nL nW fr lo own ret dC dI k g A) (hd : decode cc pc = .ok (.lshl, 1)) (hk : q_Sd p l e R s m args below meth c nL nW dC dI k g A Qf (pc + 1) (K)) : q_Sd p l e R s m args below meth c nL nW dC dI k g A Qf (pc) (x_lshl K) := by
  intro H locs ls lv st w h hP hW hS hl okl oks okw
  obtain ⟨hx, hb, hml, hown, hts, hK, hA, hE, hfr, hlo, hlk, hret, hDg⟩ := X
  unfold x_lshl at h
  split at h
  · rename_i y x r
    refine lv_lshl hx hb hd rfl ?_
    rw [q_bkl (g := g)]
    exact (hk H locs ls (lv) (.inr (.inl (Int64.ofInt x <<< ((Int32.ofInt y).toInt64 &&& 63)).toInt) :: r) (w) (h _ rfl) hP hW hS hl okl (q_oks_c (q_lt _) (q_oks_t (q_oks_t oks))) okw)
  · exact h.elim
def x_lcmp (K : qK) : qK := fun lv st w => match st with
  | .inr (.inl y) :: .inr (.inl x) :: r => ∀ z : Int, z = (lg_cmp (Int64.ofInt x) (Int64.ofInt y)).toInt → K lv (.inl z :: r) w
  | _ => False
theorem s_lcmp (X : q_X p R s m args meth c cc nL nW fr lo own ret dC dI k g A) (hd : decode cc pc = .ok (.lcmp, 1)) (hk : q_Sd p l e R s m args below meth c nL nW dC dI k g A Qf (pc + 1) (K)) : q_Sd p l e R s m args below meth c nL nW dC dI k g A Qf (pc) (x_lcmp K) := by
  intro H locs ls lv st w h hP hW hS hl okl oks okw
  obtain ⟨hx, hb, hml, hown, hts, hK, hA, hE, hfr, hlo, hlk, hret, hDg⟩ := X
  unfold x_lcmp at h
  split at h
  · rename_i y x r
    refine W.lcmp hx hb hd ?_
    rw [q_bk (g := g)]
    exact (hk H locs ls (lv) (.inl (lg_cmp (Int64.ofInt x) (Int64.ofInt y)).toInt :: r) (w) (h _ rfl) hP hW hS hl okl (q_oks_c (q_it _) (q_oks_t (q_oks_t oks))) okw)
  · exact h.elim
def x_dup (K : qK) : qK := fun lv st w => match st with
  | v :: r => match q_lg v with
    | false => K lv (v :: v :: r) w
    | true => False
  | _ => False
theorem q_cat1 {v : qV} (h : q_lg v = false) : (q_v g v).category = 1 := by
  rcases v with z | z | r
  · rfl
  · cases h
  · cases r <;> rfl
theorem q_cat2 {v : qV} (h : q_lg v = true) : (q_v g v).category = 2 := by
  rcases v with z | z | r
  · cases h
  · rfl
  · cases h
theorem s_dup (X : q_X p R s m args meth c cc nL nW fr lo own ret dC dI k g A) (hd : decode cc pc = .ok (.dup, 1)) (hk : q_Sd p l e R s m args below meth c nL nW dC dI k g A Qf (pc + 1) (K)) : q_Sd p l e R s m args below meth c nL nW dC dI k g A Qf (pc) (x_dup K) := by
  intro H locs ls lv st w h hP hW hS hl okl oks okw
  obtain ⟨hx, hb, hml, hown, hts, hK, hA, hE, hfr, hlo, hlk, hret, hDg⟩ := X
  unfold x_dup at h
  split at h
  · rename_i v r
    split at h
    · rename_i hv
      exact lv_dup hx hb hd (q_cat1 hv) (hk H locs ls (lv) (v :: v :: r) (w) h hP hW hS hl okl (q_oks_c (q_oks_h oks) oks) okw)
    · exact h.elim
  · exact h.elim
def x_dup2 (K : qK) : qK := fun lv st w => match st with
  | v :: r => match q_lg v with
    | true => K lv (v :: v :: r) w
    | false => match r with
      | u :: r => match q_lg u with
        | false => K lv (v :: u :: v :: u :: r) w
        | true => False
      | _ => False
  | _ => False
theorem s_dup2 (X : q_X p R s m args meth c cc nL nW fr lo own ret dC dI k g A) (hd : decode cc pc = .ok (.dup2, 1)) (hk : q_Sd p l e R s m args below meth c nL nW dC dI k g A Qf (pc + 1) (K)) : q_Sd p l e R s m args below meth c nL nW dC dI k g A Qf (pc) (x_dup2 K) := by
  intro H locs ls lv st w h hP hW hS hl okl oks okw
  obtain ⟨hx, hb, hml, hown, hts, hK, hA, hE, hfr, hlo, hlk, hret, hDg⟩ := X
  unfold x_dup2 at h
  split at h
  · rename_i v r
    split at h
    · rename_i hv
      exact lv_dup2_2 hx hb hd (q_cat2 hv) (hk H locs ls (lv) (v :: v :: r) (w) h hP hW hS hl okl (q_oks_c (q_oks_h oks) oks) okw)
    · rename_i hv
      split at h
      · rename_i u r
        split at h
        · rename_i hu
          exact lv_dup2_11 hx hb hd (q_cat1 hv) (q_cat1 hu) (hk H locs ls (lv) (v :: u :: v :: u :: r) (w) h hP hW hS hl okl (q_oks_c (q_oks_h oks) (q_oks_c (q_oks_h (q_oks_t oks)) oks)) okw)
        · exact h.elim
      · exact h.elim
  · exact h.elim
def x_pop (K : qK) : qK := fun lv st w => match st with
  | v :: r => match q_lg v with
    | false => K lv r w
    | true => False
  | _ => False
theorem s_pop (X : q_X p R s m args meth c cc nL nW fr lo own ret dC dI k g A) (hd : decode cc pc = .ok (.pop, 1)) (hk : q_Sd p l e R s m args below meth c nL nW dC dI k g A Qf (pc + 1) (K)) : q_Sd p l e R s m args below meth c nL nW dC dI k g A Qf (pc) (x_pop K) := by
  intro H locs ls lv st w h hP hW hS hl okl oks okw
  obtain ⟨hx, hb, hml, hown, hts, hK, hA, hE, hfr, hlo, hlk, hret, hDg⟩ := X
  unfold x_pop at h
  split at h
  · rename_i v r
    split at h
    · rename_i hv
      exact lv_pop hx hb hd (q_cat1 hv) (hk H locs ls (lv) (r) (w) h hP hW hS hl okl (q_oks_t oks) okw)
    · exact h.elim
  · exact h.elim
theorem s_goto (X : q_X p R s m args meth c cc nL nW fr lo own ret dC dI k g A) {off : Int} {tgt : Nat} (hd : decode cc pc = .ok (.goto off, 3)) (ht : (pc : Int) + off = (tgt : Int)) (hk : q_Sd p l e R s m args below meth c nL nW dC dI k g A Qf (tgt) (K)) : q_Sd p l e R s m args below meth c nL nW dC dI k g A Qf (pc) (K) := by
  intro H locs ls lv st w h hP hW hS hl okl oks okw
  obtain ⟨hx, hb, hml, hown, hts, hK, hA, hE, hfr, hlo, hlk, hret, hDg⟩ := X
  exact lv_goto hx hb hd ht (hk H locs ls (lv) (st) (w) h hP hW hS hl okl oks okw)
def x_if_eq (K1 K2 : qK) : qK := fun lv st w => match st with
  | .inl x :: r => (x = 0 → K1 lv r w) ∧ (¬ (x = 0) → K2 lv r w)
  | _ => False
theorem s_if_eq (X : q_X p R s m args meth c cc nL nW fr lo own ret dC dI k g A) {off : Int} {tgt : Nat} (hd : decode cc pc = .ok (.ifCond .eq off, 3)) (ht : (pc : Int) + off = (tgt : Int)) (hk1 : q_Sd p l e R s m args below meth c nL nW dC dI k g A Qf (tgt) (K1)) (hk2 : q_Sd p l e R s m args below meth c nL nW dC dI k g A Qf (pc + 3) (K2)) : q_Sd p l e R s m args below meth c nL nW dC dI k g A Qf (pc) (x_if_eq K1 K2) := by
  intro H locs ls lv st w h hP hW hS hl okl oks okw
  obtain ⟨hx, hb, hml, hown, hts, hK, hA, hE, hfr, hlo, hlk, hret, hDg⟩ := X
  unfold x_if_eq at h
  split at h
  · rename_i x r
    exact lv_if_eq hx hb hd ht (fun h0 => (hk1 H locs ls (lv) (r) (w) (h.1 ((q_eq_iff (q_oks_h oks) q_i0).mp h0)) hP hW hS hl okl (q_oks_t oks) okw)) (fun h0 => (hk2 H locs ls (lv) (r) (w) (h.2 (fun e0 => h0 ((q_eq_iff (q_oks_h oks) q_i0).mpr e0))) hP hW hS hl okl (q_oks_t oks) okw))
  · exact h.elim
def x_icmp_eq (K1 K2 : qK) : qK := fun lv st w => match st with
  | .inl y :: .inl x :: r => (x = y → K1 lv r w) ∧ (¬ (x = y) → K2 lv r w)
  | _ => False
theorem s_icmp_eq (X : q_X p R s m args meth c cc nL nW fr lo own ret dC dI k g A) {off : Int} {tgt : Nat} (hd : decode cc pc = .ok (.if_icmp .eq off, 3)) (ht : (pc : Int) + off = (tgt : Int)) (hk1 : q_Sd p l e R s m args below meth c nL nW dC dI k g A Qf (tgt) (K1)) (hk2 : q_Sd p l e R s m args below meth c nL nW dC dI k g A Qf (pc + 3) (K2)) : q_Sd p l e R s m args below meth c nL nW dC dI k g A Qf (pc) (x_icmp_eq K1 K2) := by
  intro H locs ls lv st w h hP hW hS hl okl oks okw
  obtain ⟨hx, hb, hml, hown, hts, hK, hA, hE, hfr, hlo, hlk, hret, hDg⟩ := X
  unfold x_icmp_eq at h
  split at h
  · rename_i y x r
    exact lv_icmp_eq hx hb hd ht (fun h0 => (hk1 H locs ls (lv) (r) (w) (h.1 ((q_eq_iff (q_oks_h (q_oks_t oks)) (q_oks_h oks)).mp h0)) hP hW hS hl okl (q_oks_t (q_oks_t oks)) okw)) (fun h0 => (hk2 H locs ls (lv) (r) (w) (h.2 (fun e0 => h0 ((q_eq_iff (q_oks_h (q_oks_t oks)) (q_oks_h oks)).mpr e0))) hP hW hS hl okl (q_oks_t (q_oks_t oks)) okw))
  · exact h.elim
def x_if_ne (K1 K2 : qK) : qK := fun lv st w => match st with
  | .inl x :: r => (¬ (x = 0) → K1 lv r w) ∧ (x = 0 → K2 lv r w)
  | _ => False
theorem s_if_ne (X : q_X p R s m args meth c cc nL nW fr lo own ret dC dI k g A) {off : Int} {tgt : Nat} (hd : decode cc pc = .ok (.ifCond .ne off, 3)) (ht : (pc : Int) + off = (tgt : Int)) (hk1 : q_Sd p l e R s m args below meth c nL nW dC dI k g A Qf (tgt) (K1)) (hk2 : q_Sd p l e R s m args below meth c nL nW dC dI k g A Qf (pc + 3) (K2)) : q_Sd p l e R s m args below meth c nL nW dC dI k g A Qf (pc) (x_if_ne K1 K2) := by
  intro H locs ls lv st w h hP hW hS hl okl oks okw
  obtain ⟨hx, hb, hml, hown, hts, hK, hA, hE, hfr, hlo, hlk, hret, hDg⟩ := X
  unfold x_if_ne at h
  split at h
  · rename_i x r
    exact lv_if_ne hx hb hd ht (fun h0 => (hk1 H locs ls (lv) (r) (w) (h.1 (fun e0 => h0 ((q_eq_iff (q_oks_h oks) q_i0).mpr e0))) hP hW hS hl okl (q_oks_t oks) okw)) (fun h0 => (hk2 H locs ls (lv) (r) (w) (h.2 ((q_eq_iff (q_oks_h oks) q_i0).mp h0)) hP hW hS hl okl (q_oks_t oks) okw))
  · exact h.elim
def x_icmp_ne (K1 K2 : qK) : qK := fun lv st w => match st with
  | .inl y :: .inl x :: r => (¬ (x = y) → K1 lv r w) ∧ (x = y → K2 lv r w)
  | _ => False
theorem s_icmp_ne (X : q_X p R s m args meth c cc nL nW fr lo own ret dC dI k g A) {off : Int} {tgt : Nat} (hd : decode cc pc = .ok (.if_icmp .ne off, 3)) (ht : (pc : Int) + off = (tgt : Int)) (hk1 : q_Sd p l e R s m args below meth c nL nW dC dI k g A Qf (tgt) (K1)) (hk2 : q_Sd p l e R s m args below meth c nL nW dC dI k g A Qf (pc + 3) (K2)) : q_Sd p l e R s m args below meth c nL nW dC dI k g A Qf (pc) (x_icmp_ne K1 K2) := by
  intro H locs ls lv st w h hP hW hS hl okl oks okw
  obtain ⟨hx, hb, hml, hown, hts, hK, hA, hE, hfr, hlo, hlk, hret, hDg⟩ := X
  unfold x_icmp_ne at h
  split at h
  · rename_i y x r
    exact lv_icmp_ne hx hb hd ht (fun h0 => (hk1 H locs ls (lv) (r) (w) (h.1 (fun e0 => h0 ((q_eq_iff (q_oks_h (q_oks_t oks)) (q_oks_h oks)).mpr e0))) hP hW hS hl okl (q_oks_t (q_oks_t oks)) okw)) (fun h0 => (hk2 H locs ls (lv) (r) (w) (h.2 ((q_eq_iff (q_oks_h (q_oks_t oks)) (q_oks_h oks)).mp h0)) hP hW hS hl okl (q_oks_t (q_oks_t oks)) okw))
  · exact h.elim
def x_if_lt (K1 K2 : qK) : qK := fun lv st w => match st with
  | .inl x :: r => (x < 0 → K1 lv r w) ∧ (¬ (x < 0) → K2 lv r w)
  | _ => False
theorem s_if_lt (X : q_X p R s m args meth c cc nL nW fr lo own ret dC dI k g A) {off : Int} {tgt : Nat} (hd : decode cc pc = .ok (.ifCond .lt off, 3)) (ht : (pc : Int) + off = (tgt : Int)) (hk1 : q_Sd p l e R s m args below meth c nL nW dC dI k g A Qf (tgt) (K1)) (hk2 : q_Sd p l e R s m args below meth c nL nW dC dI k g A Qf (pc + 3) (K2)) : q_Sd p l e R s m args below meth c nL nW dC dI k g A Qf (pc) (x_if_lt K1 K2) := by
  intro H locs ls lv st w h hP hW hS hl okl oks okw
  obtain ⟨hx, hb, hml, hown, hts, hK, hA, hE, hfr, hlo, hlk, hret, hDg⟩ := X
  unfold x_if_lt at h
  split at h
  · rename_i x r
    exact lv_if_lt hx hb hd ht (fun h0 => (hk1 H locs ls (lv) (r) (w) (h.1 ((q_lt_iff (q_oks_h oks) q_i0).mp h0)) hP hW hS hl okl (q_oks_t oks) okw)) (fun h0 => (hk2 H locs ls (lv) (r) (w) (h.2 (fun e0 => h0 ((q_lt_iff (q_oks_h oks) q_i0).mpr e0))) hP hW hS hl okl (q_oks_t oks) okw))
  · exact h.elim
def x_icmp_lt (K1 K2 : qK) : qK := fun lv st w => match st with
  | .inl y :: .inl x :: r => (x < y → K1 lv r w) ∧ (¬ (x < y) → K2 lv r w)
  | _ => False
theorem s_icmp_lt (X : q_X p R s m args meth c cc nL nW fr lo own ret dC dI k g A) {off : Int} {tgt : Nat} (hd : decode cc pc = .ok (.if_icmp .lt off, 3)) (ht : (pc : Int) + off = (tgt : Int)) (hk1 : q_Sd p l e R s m args below meth c nL nW dC dI k g A Qf (tgt) (K1)) (hk2 : q_Sd p l e R s m args below meth c nL nW dC dI k g A Qf (pc + 3) (K2)) : q_Sd p l e R s m args below meth c nL nW dC dI k g A Qf (pc) (x_icmp_lt K1 K2) := by
  intro H locs ls lv st w h hP hW hS hl okl oks okw
  obtain ⟨hx, hb, hml, hown, hts, hK, hA, hE, hfr, hlo, hlk, hret, hDg⟩ := X
  unfold x_icmp_lt at h
  split at h
  · rename_i y x r
    exact lv_icmp_lt hx hb hd ht (fun h0 => (hk1 H locs ls (lv) (r) (w) (h.1 ((q_lt_iff (q_oks_h (q_oks_t oks)) (q_oks_h oks)).mp h0)) hP hW hS hl okl (q_oks_t (q_oks_t oks)) okw)) (fun h0 => (hk2 H locs ls (lv) (r) (w) (h.2 (fun e0 => h0 ((q_lt_iff (q_oks_h (q_oks_t oks)) (q_oks_h oks)).mpr e0))) hP hW hS hl okl (q_oks_t (q_oks_t oks)) okw))
  · exact h.elim
def x_if_ge (K1 K2 : qK) : qK := fun lv st w => match st with
  | .inl x :: r => (0 ≤ x → K1 lv r w) ∧ (¬ (0 ≤ x) → K2 lv r w)
  | _ => False
theorem s_if_ge (X : q_X p R s m args meth c cc nL nW fr lo own ret dC dI k g A) {off : Int} {tgt : Nat} (hd : decode cc pc = .ok (.ifCond .ge off, 3)) (ht : (pc : Int) + off = (tgt : Int)) (hk1 : q_Sd p l e R s m args below meth c nL nW dC dI k g A Qf (tgt) (K1)) (hk2 : q_Sd p l e R s m args below meth c nL nW dC dI k g A Qf (pc + 3) (K2)) : q_Sd p l e R s m args below meth c nL nW dC dI k g A Qf (pc) (x_if_ge K1 K2) := by
  intro H locs ls lv st w h hP hW hS hl okl oks okw
  obtain ⟨hx, hb, hml, hown, hts, hK, hA, hE, hfr, hlo, hlk, hret, hDg⟩ := X
  unfold x_if_ge at h
  split at h
  · rename_i x r
    exact lv_if_ge hx hb hd ht (fun h0 => (hk1 H locs ls (lv) (r) (w) (h.1 ((q_le_iff q_i0 (q_oks_h oks)).mp h0)) hP hW hS hl okl (q_oks_t oks) okw)) (fun h0 => (hk2 H locs ls (lv) (r) (w) (h.2 (fun e0 => h0 ((q_le_iff q_i0 (q_oks_h oks)).mpr e0))) hP hW hS hl okl (q_oks_t oks) okw))
  · exact h.elim
def x_icmp_ge (K1 K2 : qK) : qK := fun lv st w => match st with
  | .inl y :: .inl x :: r => (y ≤ x → K1 lv r w) ∧ (¬ (y ≤ x) → K2 lv r w)
  | _ => False
theorem s_icmp_ge (X : q_X p R s m args meth c cc nL nW fr lo own ret dC dI k g A) {off : Int} {tgt : Nat} (hd : decode cc pc = .ok (.if_icmp .ge off, 3)) (ht : (pc : Int) + off = (tgt : Int)) (hk1 : q_Sd p l e R s m args below meth c nL nW dC dI k g A Qf (tgt) (K1)) (hk2 : q_Sd p l e R s m args below meth c nL nW dC dI k g A Qf (pc + 3) (K2)) : q_Sd p l e R s m args below meth c nL nW dC dI k g A Qf (pc) (x_icmp_ge K1 K2) := by
  intro H locs ls lv st w h hP hW hS hl okl oks okw
  obtain ⟨hx, hb, hml, hown, hts, hK, hA, hE, hfr, hlo, hlk, hret, hDg⟩ := X
  unfold x_icmp_ge at h
  split at h
  · rename_i y x r
    exact lv_icmp_ge hx hb hd ht (fun h0 => (hk1 H locs ls (lv) (r) (w) (h.1 ((q_le_iff (q_oks_h oks) (q_oks_h (q_oks_t oks))).mp h0)) hP hW hS hl okl (q_oks_t (q_oks_t oks)) okw)) (fun h0 => (hk2 H locs ls (lv) (r) (w) (h.2 (fun e0 => h0 ((q_le_iff (q_oks_h oks) (q_oks_h (q_oks_t oks))).mpr e0))) hP hW hS hl okl (q_oks_t (q_oks_t oks)) okw))
  · exact h.elim
def x_if_gt (K1 K2 : qK) : qK := fun lv st w => match st with
  | .inl x :: r => (0 < x → K1 lv r w) ∧ (¬ (0 < x) → K2 lv r w)
  | _ => False
theorem s_if_gt (X : q_X p R s m args meth c cc nL nW fr lo own ret dC dI k g A) {off : Int} {tgt : Nat} (hd : decode cc pc = .ok (.ifCond .gt off, 3)) (ht : (pc : Int) + off = (tgt : Int)) (hk1 : q_Sd p l e R s m args below meth c nL nW dC dI k g A Qf (tgt) (K1)) (hk2 : q_Sd p l e R s m args below meth c nL nW dC dI k g A Qf (pc + 3) (K2)) : q_Sd p l e R s m args below meth c nL nW dC dI k g A Qf (pc) (x_if_gt K1 K2) := by
  intro H locs ls lv st w h hP hW hS hl okl oks okw
  obtain ⟨hx, hb, hml, hown, hts, hK, hA, hE, hfr, hlo, hlk, hret, hDg⟩ := X
  unfold x_if_gt at h
  split at h
  · rename_i x r
    exact lv_if_gt hx hb hd ht (fun h0 => (hk1 H locs ls (lv) (r) (w) (h.1 ((q_lt_iff q_i0 (q_oks_h oks)).mp h0)) hP hW hS hl okl (q_oks_t oks) okw)) (fun h0 => (hk2 H locs ls (lv) (r) (w) (h.2 (fun e0 => h0 ((q_lt_iff q_i0 (q_oks_h oks)).mpr e0))) hP hW hS hl okl (q_oks_t oks) okw))
  · exact h.elim
def x_icmp_gt (K1 K2 : qK) : qK := fun lv st w => match st with
  | .inl y :: .inl x :: r => (y < x → K1 lv r w) ∧ (¬ (y < x) → K2 lv r w)
  | _ => False
theorem s_icmp_gt (X : q_X p R s m args meth c cc nL nW fr lo own ret dC dI k g A) {off : Int} {tgt : Nat} (hd : decode cc pc = .ok (.if_icmp .gt off, 3)) (ht : (pc : Int) + off = (tgt : Int)) (hk1 : q_Sd p l e R s m args below meth c nL nW dC dI k g A Qf (tgt) (K1)) (hk2 : q_Sd p l e R s m args below meth c nL nW dC dI k g A Qf (pc + 3) (K2)) : q_Sd p l e R s m args below meth c nL nW dC dI k g A Qf (pc) (x_icmp_gt K1 K2) := by
  intro H locs ls lv st w h hP hW hS hl okl oks okw
  obtain ⟨hx, hb, hml, hown, hts, hK, hA, hE, hfr, hlo, hlk, hret, hDg⟩ := X
  unfold x_icmp_gt at h
  split at h
  · rename_i y x r
    exact lv_icmp_gt hx hb hd ht (fun h0 => (hk1 H locs ls (lv) (r) (w) (h.1 ((q_lt_iff (q_oks_h oks) (q_oks_h (q_oks_t oks))).mp h0)) hP hW hS hl okl (q_oks_t (q_oks_t oks)) okw)) (fun h0 => (hk2 H locs ls (lv) (r) (w) (h.2 (fun e0 => h0 ((q_lt_iff (q_oks_h oks) (q_oks_h (q_oks_t oks))).mpr e0))) hP hW hS hl okl (q_oks_t (q_oks_t oks)) okw))
  · exact h.elim
def x_if_le (K1 K2 : qK) : qK := fun lv st w => match st with
  | .inl x :: r => (x ≤ 0 → K1 lv r w) ∧ (¬ (x ≤ 0) → K2 lv r w)
  | _ => False
theorem s_if_le (X : q_X p R s m args meth c cc nL nW fr lo own ret dC dI k g A) {off : Int} {tgt : Nat} (hd : decode cc pc = .ok (.ifCond .le off, 3)) (ht : (pc : Int) + off = (tgt : Int)) (hk1 : q_Sd p l e R s m args below meth c nL nW dC dI k g A Qf (tgt) (K1)) (hk2 : q_Sd p l e R s m args below meth c nL nW dC dI k g A Qf (pc + 3) (K2)) : q_Sd p l e R s m args below meth c nL nW dC dI k g A Qf (pc) (x_if_le K1 K2) := by
  intro H locs ls lv st w h hP hW hS hl okl oks okw
  obtain ⟨hx, hb, hml, hown, hts, hK, hA, hE, hfr, hlo, hlk, hret, hDg⟩ := X
  unfold x_if_le at h
  split at h
  · rename_i x r
    exact lv_if_le hx hb hd ht (fun h0 => (hk1 H locs ls (lv) (r) (w) (h.1 ((q_le_iff (q_oks_h oks) q_i0).mp h0)) hP hW hS hl okl (q_oks_t oks) okw)) (fun h0 => (hk2 H locs ls (lv) (r) (w) (h.2 (fun e0 => h0 ((q_le_iff (q_oks_h oks) q_i0).mpr e0))) hP hW hS hl okl (q_oks_t oks) okw))
  · exact h.elim
def x_icmp_le (K1 K2 : qK) : qK := fun lv st w => match st with
  | .inl y :: .inl x :: r => (x ≤ y → K1 lv r w) ∧ (¬ (x ≤ y) → K2 lv r w)
  | _ => False
theorem s_icmp_le (X : q_X p R s m args meth c cc nL nW fr lo own ret dC dI k g A) {off : Int} {tgt : Nat} (hd : decode cc pc = .ok (.if_icmp .le off, 3)) (ht : (pc : Int) + off = (tgt : Int)) (hk1 : q_Sd p l e R s m args below meth c nL nW dC dI k g A Qf (tgt) (K1)) (hk2 : q_Sd p l e R s m args below meth c nL nW dC dI k g A Qf (pc + 3) (K2)) : q_Sd p l e R s m args below meth c nL nW dC dI k g A Qf (pc) (x_icmp_le K1 K2) := by
  intro H locs ls lv st w h hP hW hS hl okl oks okw
  obtain ⟨hx, hb, hml, hown, hts, hK, hA, hE, hfr, hlo, hlk, hret, hDg⟩ := X
  unfold x_icmp_le at h
  split at h
  · rename_i y x r
    exact lv_icmp_le hx hb hd ht (fun h0 => (hk1 H locs ls (lv) (r) (w) (h.1 ((q_le_iff (q_oks_h (q_oks_t oks)) (q_oks_h oks)).mp h0)) hP hW hS hl okl (q_oks_t (q_oks_t oks)) okw)) (fun h0 => (hk2 H locs ls (lv) (r) (w) (h.2 (fun e0 => h0 ((q_le_iff (q_oks_h (q_oks_t oks)) (q_oks_h oks)).mpr e0))) hP hW hS hl okl (q_oks_t (q_oks_t oks)) okw))
  · exact h.elim
def x_ifnull (K1 K2 : qK) : qK := fun lv st w => match st with
  | .inr (.inr none) :: r => K1 lv r w
  | .inr (.inr (some _)) :: r => K2 lv r w
  | _ => False
theorem s_ifnull (X : q_X p R s m args meth c cc nL nW fr lo own ret dC dI k g A) {off : Int} {tgt : Nat} (hd : decode cc pc = .ok (.ifnull off, 3)) (ht : (pc : Int) + off = (tgt : Int)) (hk1 : q_Sd p l e R s m args below meth c nL nW dC dI k g A Qf (tgt) (K1)) (hk2 : q_Sd p l e R s m args below meth c nL nW dC dI k g A Qf (pc + 3) (K2)) : q_Sd p l e R s m args below meth c nL nW dC dI k g A Qf (pc) (x_ifnull K1 K2) := by
  intro H locs ls lv st w h hP hW hS hl okl oks okw
  obtain ⟨hx, hb, hml, hown, hts, hK, hA, hE, hfr, hlo, hlk, hret, hDg⟩ := X
  unfold x_ifnull at h
  split at h
  · rename_i r
    exact lv_ifnullN hx hb hd ht (hk1 H locs ls (lv) (r) (w) h hP hW hS hl okl (q_oks_t oks) okw)
  · rename_i a r
    exact lv_ifnull hx hb hd (hk2 H locs ls (lv) (r) (w) h hP hW hS hl okl (q_oks_t oks) okw)
  · exact h.elim
def x_ifnonnull (K1 K2 : qK) : qK := fun lv st w => match st with
  | .inr (.inr none) :: r => K2 lv r w
  | .inr (.inr (some _)) :: r => K1 lv r w
  | _ => False
theorem s_ifnonnull (X : q_X p R s m args meth c cc nL nW fr lo own ret dC dI k g A) {off : Int} {tgt : Nat} (hd : decode cc pc = .ok (.ifnonnull off, 3)) (ht : (pc : Int) + off = (tgt : Int)) (hk1 : q_Sd p l e R s m args below meth c nL nW dC dI k g A Qf (tgt) (K1)) (hk2 : q_Sd p l e R s m args below meth c nL nW dC dI k g A Qf (pc + 3) (K2)) : q_Sd p l e R s m args below meth c nL nW dC dI k g A Qf (pc) (x_ifnonnull K1 K2) := by
  intro H locs ls lv st w h hP hW hS hl okl oks okw
  obtain ⟨hx, hb, hml, hown, hts, hK, hA, hE, hfr, hlo, hlk, hret, hDg⟩ := X
  unfold x_ifnonnull at h
  split at h
  · rename_i r
    exact lv_ifnonnullN hx hb hd (hk2 H locs ls (lv) (r) (w) h hP hW hS hl okl (q_oks_t oks) okw)
  · rename_i a r
    exact lv_ifnonnull hx hb hd ht (hk1 H locs ls (lv) (r) (w) h hP hW hS hl okl (q_oks_t oks) okw)
  · exact h.elim
def q_swc : Int → List qK → Int → qL → List qV → qW → Prop
  | _, [], _, _, _, _ => True
  | lo, K :: Ks, x, lv, r, w => (x = lo → K lv r w) ∧ q_swc (lo + 1) Ks x lv r w
theorem q_swc_at : ∀ (Ks : List qK) {lo x : Int} {lv : qL} {r : List qV} {w : qW}, q_swc lo Ks x lv r w → ∀ (i : Nat) (K : qK), Ks[i]? = some K → x = lo + i → K lv r w := by
  intro Ks
  induction Ks with
  | nil => intro lo x lv r w h i K hK; cases hK
  | cons K0 Ks ih =>
    intro lo x lv r w h i K hK hx
    cases i with
    | zero => cases hK; exact h.1 (by omega)
    | succ i => exact ih h.2 i K hK (by omega)
def x_sw (lo hi : Int) (Ks : List qK) (Kd : qK) : qK := fun lv st w => match st with
  | .inl x :: r => q_swc lo Ks x lv r w ∧ ((x < lo ∨ hi < x) → Kd lv r w)
  | _ => False
theorem s_sw (X : q_X p R s m args meth c cc nL nW fr lo own ret dC dI k g A) {dflt lo hi : Int} {offs : Array Int} {len td : Nat} {ts : List Nat} {Ks : List qK} {Kd : qK} (hd : decode cc pc = .ok (.tableswitch dflt lo hi offs, len)) (hts : offs.toList = ts.map (fun (t : Nat) => (t : Int) - (pc : Int))) (htd : (pc : Int) + dflt = (td : Int)) (hl1 : hi - lo + 1 = (ts.length : Int)) (hl2 : Ks.length = ts.length)
    (hk : ∀ (i : Nat) (t : Nat) (K : qK), ts[i]? = some t → Ks[i]? = some K → q_Sd p l e R s m args below meth c nL nW dC dI k g A Qf (t) (K)) (hkd : q_Sd p l e R s m args below meth c nL nW dC dI k g A Qf (td) (Kd)) : q_Sd p l e R s m args below meth c nL nW dC dI k g A Qf (pc) (x_sw lo hi Ks Kd) := by
  intro H locs ls lv st w h hP hW hS hl okl oks okw
  obtain ⟨hx, hb, -⟩ := X
  unfold x_sw at h
  split at h
  · rename_i x r
    have hi' : q_i x := q_oks_h oks
    by_cases hc : x < lo ∨ hi < x
    · exact lv_tableOut hx hb hd (by rw [q_io hi']; exact hc) htd (hkd H locs ls lv r w (h.2 hc) hP hW hS hl okl (q_oks_t oks) okw)
    · have h1 : ¬ x < lo := fun e => hc (Or.inl e)
      have h2 : ¬ hi < x := fun e => hc (Or.inr e)
      have h3 : (x - lo).toNat < ts.length := by omega
      have e1 : ts[(x - lo).toNat]? = some ts[(x - lo).toNat] := List.getElem?_eq_getElem h3
      have e2 : Ks[(x - lo).toNat]? = some (Ks[(x - lo).toNat]'(by omega)) := List.getElem?_eq_getElem (by omega)
      exact lv_tableIn hx hb hd (by rw [q_io hi']; exact h1) (by rw [q_io hi']; exact h2) (off := (ts[(x - lo).toNat] : Int) - (pc : Int)) (by rw [q_io hi', ← Array.getElem?_toList, hts, List.getElem?_map, e1]; rfl) (by omega)
        (hk _ _ _ e1 e2 H locs ls lv r w (q_swc_at Ks h.1 _ _ e2 (by omega)) hP hW hS hl okl (q_oks_t oks) okw)
  · exact h.elim
def q_fld (w : qW) (a ci kf : Nat) (P : qV → Prop) : Prop := match w[a]? with
  | some (.inr (cj, vs)) => match Nat.beq cj ci with
    | true => match vs[kf]? with
      | some v => P v
      | none => False
    | false => False
  | _ => False
def x_get (ci kf : Nat) (K : qK) : qK := fun lv st w => match st with
  | .inr (.inr (some a)) :: r => q_fld w a ci kf (fun v => K lv (v :: r) w)
  | _ => False
theorem q_fld_of {w : qW} {a ci kf : Nat} {P : qV → Prop} (h : q_fld w a ci kf P) : ∃ (vs : List qV) (v : qV), w[a]? = some (.inr (ci, vs)) ∧ vs[kf]? = some v ∧ P v := by
  unfold q_fld at h
  split at h
  · rename_i cj vs hw
    split at h
    · rename_i hb
      have hj := Nat.eq_of_beq_eq_true hb
      subst hj
      split at h
      · rename_i v hv
        exact ⟨vs, v, hw, hv, h⟩
      · exact h.elim
    · exact h.elim
  · exact h.elim
theorem q_P_at {D : va_G} {w : qW} {H : Heap} {a ci : Nat} {vs : List qV} (h : w[a]? = some (.inr (ci, vs))) : (q_w k g w)[a]? = some (g a, .inr (ci, vs.map (q_v g))) := q_w_at h
theorem s_get (X : q_X p R s m args meth c cc nL nW fr lo own ret dC dI k g A) {T : u_T} {C : String} {N ci kf index : Nat} (hin : ∀ w ∈ u_ws C T N, w ∈ TB) (hc : vwCl[ci]? = some (C, T, N)) (hk0 : kf < N) (hlw : Cond.fieldLink own index (T kf).1 (T kf).2.1 (T kf).2.2.1 ∈ TB) (hd : decode cc pc = .ok (.getfield index, 3)) (hk : q_Sd p l e R s m args below meth c nL nW dC dI k g A Qf (pc + 3) (K)) : q_Sd p l e R s m args below meth c nL nW dC dI k g A Qf (pc) (x_get ci kf K) := by
  intro H locs ls lv st w h hP hW hS hl okl oks okw
  obtain ⟨hx, hb, hml, hown, hts, hK, hA, hE, hfr, hlo, hlk, hret, hDg⟩ := X
  unfold x_get at h
  split at h
  · rename_i a r
    obtain ⟨vs, v, hw, hv, h⟩ := q_fld_of h
    exact va_get hx hb hts hin hown hK hP a (q_w_at hw) hc kf hk0 (hts _ hlw) (fun _ h9 => h9) (v := q_v g v) (by rw [List.getElem?_map, hv]; rfl) hd (hk H locs ls (lv) (v :: r) (w) h hP hW hS hl okl (q_oks_c (q_okw_at okw hw v (List.mem_of_getElem? hv)) (q_oks_t oks)) okw)
  · exact h.elim
def q_cset (w : qW) (a kf : Nat) (v : qV) : qW := match w[a]? with
  | some (.inr (cj, vs)) => w.set a (.inr (cj, vs.set kf v))
  | _ => w
def q_fdv (w : qW) (a ci kf : Nat) (P : List qV → Prop) : Prop := match w[a]? with
  | some (.inr (cj, vs)) => match Nat.beq cj ci && Nat.blt kf vs.length with
    | true => P vs
    | false => False
  | _ => False
theorem q_fdv_of {w : qW} {a ci kf : Nat} {P : List qV → Prop} (h : q_fdv w a ci kf P) : ∃ vs : List qV, w[a]? = some (.inr (ci, vs)) ∧ kf < vs.length ∧ P vs := by
  unfold q_fdv at h
  split at h
  · rename_i cj vs hw
    split at h
    · rename_i hb
      rw [Bool.and_eq_true] at hb
      have hj := Nat.eq_of_beq_eq_true hb.1
      subst hj
      exact ⟨vs, hw, Nat.le_of_ble_eq_true hb.2, h⟩
    · exact h.elim
  · exact h.elim
def x_put (ci kf : Nat) (ok : qV → Prop) (K : qK) : qK := fun lv st w => match st with
  | v :: .inr (.inr (some a)) :: r => q_fdv w a ci kf (fun vs => ok v ∧ K lv r (w.set a (.inr (ci, vs.set kf v))))
  | _ => False
theorem s_put (X : q_X p R s m args meth c cc nL nW fr lo own ret dC dI k g A) {T : u_T} {C : String} {N ci kf index : Nat} {ok : qV → Prop} {ty : FieldType} {ty0 : Nat → FieldType} (hin : ∀ w ∈ u_ws C T N, w ∈ TB) (hty : ∀ k, k < N → parseFieldDescriptor (T k).2.2.1 = some (ty0 k)) (hnm : ∀ a, a < N → ∀ b, b < N → a ≠ b → (T a).2.1 ≠ (T b).2.1) (hc : vwCl[ci]? = some (C, T, N)) (hk0 : kf < N) (hlw : Cond.fieldLink own index (T kf).1 (T kf).2.1 (T kf).2.2.1 ∈ TB) (hfin : (T kf).2.2.2 = false) (hty2 : parseFieldDescriptor (T kf).2.2.1 = some ty) (hok : ∀ (g : Nat → Nat) (v : qV), ok v → narrow ty (q_v g v) = q_v g v ∧ fits ty (q_v g v) = true) (hd : decode cc pc = .ok (.putfield index, 3)) (hk : q_Sd p l e R s m args below meth c nL nW dC dI k g A Qf (pc + 3) (K)) : q_Sd p l e R s m args below meth c nL nW dC dI k g A Qf (pc) (x_put ci kf ok K) := by
  intro H locs ls lv st w h hP hW hS hl okl oks okw
  obtain ⟨hx, hb, hml, hown, hts, hK, hA, hE, hfr, hlo, hlk, hret, hDg⟩ := X
  unfold x_put at h
  split at h
  · rename_i v a r
    obtain ⟨vs, hw, hkf, ho, h⟩ := q_fdv_of h
    have hlen : kf < (vs.map (q_v g)).length := by rw [List.length_map]; exact hkf
    refine va_put hx hb hts hin ty0 hty hnm hown hK hP (q_D_va (by rw [hW]; exact hDg)) hS a (q_w_at hw) hc kf hk0 (hts _ hlw) (fun _ h9 => h9) hfin hty2 (hok g v ho).1 (hok g v ho).2 hlen hd (fun H1 locs1 hP1 _ hS1 => ?_)
    have e2 : (q_w k g w).set a (g a, .inr (ci, (vs.map (q_v g)).set kf (q_v g v))) = q_w k g (w.set a (.inr (ci, vs.set kf v))) := by
      rw [← List.map_set]; exact q_w_set (x := .inr (ci, vs.set kf v))
    rw [e2] at hP1
    exact (hk H1 locs1 ls (lv) (r) (w.set a (.inr (ci, vs.set kf v))) h hP1 (by rw [List.length_set]; exact hW) hS1 hl okl (q_oks_t (q_oks_t oks)) (q_okw_set okw (fun z hz => (List.mem_or_eq_of_mem_set hz).elim (q_okw_at okw hw z) (fun e => by rw [e]; exact q_oks_h oks))))
  · exact h.elim
def q_oki (v : qV) : Prop := match v with
  | .inl _ => True
  | _ => False
def q_okj (v : qV) : Prop := match v with
  | .inr (.inl _) => True
  | _ => False
def q_okz (v : qV) : Prop := match v with
  | .inl z => z = 0 ∨ z = 1
  | _ => False
def q_okr (v : qV) : Prop := match v with
  | .inr (.inr _) => True
  | _ => False
theorem q_oki_t (g : Nat → Nat) (v : qV) (h : q_oki v) : narrow .int (q_v g v) = q_v g v ∧ fits .int (q_v g v) = true := by
  rcases v with z | z | r
  · exact ⟨rfl, rfl⟩
  · exact h.elim
  · exact h.elim
theorem q_okj_t (g : Nat → Nat) (v : qV) (h : q_okj v) : narrow .long (q_v g v) = q_v g v ∧ fits .long (q_v g v) = true := by
  rcases v with z | z | r
  · exact h.elim
  · exact ⟨rfl, rfl⟩
  · exact h.elim
theorem q_okz_t (g : Nat → Nat) (v : qV) (h : q_okz v) : narrow .boolean (q_v g v) = q_v g v ∧ fits .boolean (q_v g v) = true := by
  rcases v with z | z | r
  · rcases h with h | h
    · subst h; exact ⟨rfl, rfl⟩
    · subst h; exact ⟨rfl, rfl⟩
  · exact h.elim
  · exact h.elim
theorem q_okb_t (g : Nat → Nat) (v : qV) (h : q_okr v) : narrow (.array .byte) (q_v g v) = q_v g v ∧ fits (.array .byte) (q_v g v) = true := by
  rcases v with z | z | r
  · exact h.elim
  · exact h.elim
  · cases r <;> exact ⟨rfl, rfl⟩
def q_arr (w : qW) (a : Nat) (P : Nat → Nat → (Nat → Int) ⊕ (Nat → Int) ⊕ List (Option Nat) → Prop) : Prop := match w[a]? with
  | some (.inl (t, n, x)) => P t n x
  | _ => False
theorem q_arr_of {w : qW} {a : Nat} {P : Nat → Nat → (Nat → Int) ⊕ (Nat → Int) ⊕ List (Option Nat) → Prop} (h : q_arr w a P) : ∃ t n x, w[a]? = some (.inl (t, n, x)) ∧ P t n x := by
  unfold q_arr at h
  split at h
  · rename_i t n x hw
    exact ⟨t, n, x, hw, h⟩
  · exact h.elim
def q_ari (w : qW) (a t : Nat) (P : Nat → (Nat → Int) → Prop) : Prop := q_arr w a (fun t' n x => match Nat.beq t' t with
  | true => match x with
    | .inl f => P n f
    | _ => False
  | false => False)
def q_arl (w : qW) (a t : Nat) (P : Nat → (Nat → Int) → Prop) : Prop := q_arr w a (fun t' n x => match Nat.beq t' t with
  | true => match x with
    | .inr (.inl f) => P n f
    | _ => False
  | false => False)
theorem q_ari_of {w : qW} {a t : Nat} {P : Nat → (Nat → Int) → Prop} (h : q_ari w a t P) : ∃ n f, w[a]? = some (.inl (t, n, .inl f)) ∧ P n f := by
  obtain ⟨t', n, x, hw, h2⟩ := q_arr_of h
  clear h
  split at h2
  · rename_i hb
    have hj := Nat.eq_of_beq_eq_true hb
    subst hj
    split at h2
    · rename_i f
      exact ⟨n, f, hw, h2⟩
    · exact h2.elim
  · exact h2.elim
theorem q_arl_of {w : qW} {a t : Nat} {P : Nat → (Nat → Int) → Prop} (h : q_arl w a t P) : ∃ n f, w[a]? = some (.inl (t, n, .inr (.inl f))) ∧ P n f := by
  obtain ⟨t', n, x, hw, h2⟩ := q_arr_of h
  clear h
  split at h2
  · rename_i hb
    have hj := Nat.eq_of_beq_eq_true hb
    subst hj
    split at h2
    · rename_i f
      exact ⟨n, f, hw, h2⟩
    · exact h2.elim
  · exact h2.elim
theorem q_ty {t : Nat} (ht : t < 9) : ∃ ty, (tyL k)[t]? = some (k t, ty) := by
  match t, ht with
  | 0, _ => exact ⟨_, rfl⟩
  | 1, _ => exact ⟨_, rfl⟩
  | 2, _ => exact ⟨_, rfl⟩
  | 3, _ => exact ⟨_, rfl⟩
  | 4, _ => exact ⟨_, rfl⟩
  | 5, _ => exact ⟨_, rfl⟩
  | 6, _ => exact ⟨_, rfl⟩
  | 7, _ => exact ⟨_, rfl⟩
  | 8, _ => exact ⟨_, rfl⟩
def x_alen (K : qK) : qK := fun lv st w => match st with
  | .inr (.inr (some a)) :: r => q_arr w a (fun t n _ => match Nat.blt t 9 with
    | true => n < 2147483648 ∧ K lv (.inl (n : Int) :: r) w
    | false => False)
  | _ => False
theorem s_alen (X : q_X p R s m args meth c cc nL nW fr lo own ret dC dI k g A) (hd : decode cc pc = .ok (.arraylength, 1)) (hk : q_Sd p l e R s m args below meth c nL nW dC dI k g A Qf (pc + 1) (K)) : q_Sd p l e R s m args below meth c nL nW dC dI k g A Qf (pc) (x_alen K) := by
  intro H locs ls lv st w h hP hW hS hl okl oks okw
  obtain ⟨hx, hb, hml, hown, hts, hK, hA, hE, hfr, hlo, hlk, hret, hDg⟩ := X
  unfold x_alen at h
  split at h
  · rename_i a r
    obtain ⟨t, n, x, hw, h⟩ := q_arr_of h
    split at h
    case h_2 => exact h.elim
    rename_i hb9
    have ht : t < 9 := Nat.le_of_ble_eq_true hb9
    obtain ⟨hn, h⟩ := h
    obtain ⟨ty, hty⟩ := q_ty (k := k) ht
    have hi : q_i (n : Int) := ⟨by omega, by omega⟩
    rcases x with f | f | f
    all_goals exact va_alen hx hb hK hP a t (q_w_at hw) hty (v := Int32.ofInt (n : Int)) (by rfl) hd (hk H locs ls (lv) (.inl (n : Int) :: r) (w) h hP hW hS hl okl (q_oks_c hi (q_oks_t oks)) okw)
  · exact h.elim
def x_iald (K : qK) : qK := fun lv st w => match st with
  | .inl i :: .inr (.inr (some a)) :: r => q_ari w a 0 (fun n f => (0 ≤ i ∧ i < n) ∧ ∀ z : Int, z = f i.toNat → K lv (.inl z :: r) w)
  | _ => False
theorem s_iald (X : q_X p R s m args meth c cc nL nW fr lo own ret dC dI k g A) (hd : decode cc pc = .ok (.iaload, 1)) (hk : q_Sd p l e R s m args below meth c nL nW dC dI k g A Qf (pc + 1) (K)) : q_Sd p l e R s m args below meth c nL nW dC dI k g A Qf (pc) (x_iald K) := by
  intro H locs ls lv st w h hP hW hS hl okl oks okw
  obtain ⟨hx, hb, hml, hown, hts, hK, hA, hE, hfr, hlo, hlk, hret, hDg⟩ := X
  unfold x_iald at h
  split at h
  · rename_i i a r
    obtain ⟨n, f, hw, ⟨h0, h1⟩, h⟩ := q_ari_of h
    have hi : q_i i := q_oks_h oks
    refine va_iald hx hb hK hP a 0 (q_w_at hw) rfl (q_in hi h0 h1) hd ?_
    rw [q_cl hi]
    exact (hk H locs ls (lv) (.inl (f i.toNat) :: r) (w) (h _ rfl) hP hW hS hl okl (q_oks_c ((q_okw_at okw hw).1 _) (q_oks_t (q_oks_t oks))) okw)
  · exact h.elim
def x_bald (K : qK) : qK := fun lv st w => match st with
  | .inl i :: .inr (.inr (some a)) :: r => q_ari w a 1 (fun n f => (0 ≤ i ∧ i < n) ∧ ∀ z : Int, z = f i.toNat → K lv (.inl z :: r) w)
  | _ => False
theorem s_bald (X : q_X p R s m args meth c cc nL nW fr lo own ret dC dI k g A) (hd : decode cc pc = .ok (.baload, 1)) (hk : q_Sd p l e R s m args below meth c nL nW dC dI k g A Qf (pc + 1) (K)) : q_Sd p l e R s m args below meth c nL nW dC dI k g A Qf (pc) (x_bald K) := by
  intro H locs ls lv st w h hP hW hS hl okl oks okw
  obtain ⟨hx, hb, hml, hown, hts, hK, hA, hE, hfr, hlo, hlk, hret, hDg⟩ := X
  unfold x_bald at h
  split at h
  · rename_i i a r
    obtain ⟨n, f, hw, ⟨h0, h1⟩, h⟩ := q_ari_of h
    have hi : q_i i := q_oks_h oks
    refine va_bald hx hb hK hP a 1 (q_w_at hw) rfl (q_in hi h0 h1) hd ?_
    rw [q_cl hi]
    exact (hk H locs ls (lv) (.inl (f i.toNat) :: r) (w) (h _ rfl) hP hW hS hl okl (q_oks_c ((q_okw_at okw hw).1 _) (q_oks_t (q_oks_t oks))) okw)
  · exact h.elim
def x_zald (K : qK) : qK := fun lv st w => match st with
  | .inl i :: .inr (.inr (some a)) :: r => q_ari w a 2 (fun n f => (0 ≤ i ∧ i < n) ∧ ∀ z : Int, z = f i.toNat → K lv (.inl z :: r) w)
  | _ => False
theorem s_zald (X : q_X p R s m args meth c cc nL nW fr lo own ret dC dI k g A) (hd : decode cc pc = .ok (.baload, 1)) (hk : q_Sd p l e R s m args below meth c nL nW dC dI k g A Qf (pc + 1) (K)) : q_Sd p l e R s m args below meth c nL nW dC dI k g A Qf (pc) (x_zald K) := by
  intro H locs ls lv st w h hP hW hS hl okl oks okw
  obtain ⟨hx, hb, hml, hown, hts, hK, hA, hE, hfr, hlo, hlk, hret, hDg⟩ := X
  unfold x_zald at h
  split at h
  · rename_i i a r
    obtain ⟨n, f, hw, ⟨h0, h1⟩, h⟩ := q_ari_of h
    have hi : q_i i := q_oks_h oks
    refine va_zald hx hb hK hP a 2 (q_w_at hw) rfl (q_in hi h0 h1) hd ?_
    rw [q_cl hi]
    exact (hk H locs ls (lv) (.inl (f i.toNat) :: r) (w) (h _ rfl) hP hW hS hl okl (q_oks_c ((q_okw_at okw hw).1 _) (q_oks_t (q_oks_t oks))) okw)
  · exact h.elim
def x_lald (K : qK) : qK := fun lv st w => match st with
  | .inl i :: .inr (.inr (some a)) :: r => q_arl w a 3 (fun n f => (0 ≤ i ∧ i < n) ∧ ∀ z : Int, z = f i.toNat → K lv (.inr (.inl z) :: r) w)
  | _ => False
theorem s_lald (X : q_X p R s m args meth c cc nL nW fr lo own ret dC dI k g A) (hd : decode cc pc = .ok (.laload, 1)) (hk : q_Sd p l e R s m args below meth c nL nW dC dI k g A Qf (pc + 1) (K)) : q_Sd p l e R s m args below meth c nL nW dC dI k g A Qf (pc) (x_lald K) := by
  intro H locs ls lv st w h hP hW hS hl okl oks okw
  obtain ⟨hx, hb, hml, hown, hts, hK, hA, hE, hfr, hlo, hlk, hret, hDg⟩ := X
  unfold x_lald at h
  split at h
  · rename_i i a r
    obtain ⟨n, f, hw, ⟨h0, h1⟩, h⟩ := q_arl_of h
    have hi : q_i i := q_oks_h oks
    refine va_lald hx hb hK hP a 3 (q_w_at hw) rfl (q_in hi h0 h1) hd ?_
    rw [q_cl hi]
    exact (hk H locs ls (lv) (.inr (.inl (f i.toNat)) :: r) (w) (h _ rfl) hP hW hS hl okl (q_oks_c (q_okw_at okw hw _) (q_oks_t (q_oks_t oks))) okw)
  · exact h.elim
def x_aald (K : qK) : qK := fun lv st w => match st with
  | .inl i :: .inr (.inr (some a)) :: r => q_arr w a (fun t n x => match Nat.ble 4 t && Nat.ble t 8 with
    | true => match x with
      | .inr (.inr f) => (0 ≤ i ∧ i < n) ∧ K lv (.inr (.inr (f.getD i.toNat none)) :: r) w
      | _ => False
    | false => False)
  | _ => False
theorem q_ty4 {t : Nat} (h4 : 4 ≤ t) (ht : t < 9) : ∃ C, (tyL k)[t]? = some (k t, .object C) := by
  match t, h4, ht with
  | 4, _, _ => exact ⟨_, rfl⟩
  | 5, _, _ => exact ⟨_, rfl⟩
  | 6, _, _ => exact ⟨_, rfl⟩
  | 7, _, _ => exact ⟨_, rfl⟩
  | 8, _, _ => exact ⟨_, rfl⟩
theorem q_rf (r : Option Nat) : va_rf (r.map g) = q_v g (.inr (.inr r)) := by cases r <;> rfl
theorem s_aald (X : q_X p R s m args meth c cc nL nW fr lo own ret dC dI k g A) (hd : decode cc pc = .ok (.aaload, 1)) (hk : q_Sd p l e R s m args below meth c nL nW dC dI k g A Qf (pc + 1) (K)) : q_Sd p l e R s m args below meth c nL nW dC dI k g A Qf (pc) (x_aald K) := by
  intro H locs ls lv st w h hP hW hS hl okl oks okw
  obtain ⟨hx, hb, hml, hown, hts, hK, hA, hE, hfr, hlo, hlk, hret, hDg⟩ := X
  unfold x_aald at h
  split at h
  · rename_i i a r
    obtain ⟨t, n, x, hw, h⟩ := q_arr_of h
    split at h
    case h_2 => exact h.elim
    rename_i hb9
    rw [Bool.and_eq_true] at hb9
    have h4 := Nat.le_of_ble_eq_true hb9.1
    have h9 := Nat.lt_succ_of_le (Nat.le_of_ble_eq_true hb9.2)
    obtain ⟨C, hC⟩ := q_ty4 (k := k) h4 h9
    rcases x with f | f | f
    · exact h.elim
    · exact h.elim
    · obtain ⟨⟨h0, h1⟩, h⟩ := h
      have hi : q_i i := q_oks_h oks
      refine va_aldq hx hb hK hP a t (q_w_at hw) hC (q_in hi h0 h1) hd ?_
      rw [q_cl hi, q_rf]
      exact (hk H locs ls (lv) (.inr (.inr (f.getD i.toNat none)) :: r) (w) h hP hW hS hl okl (q_oks_c trivial (q_oks_t (q_oks_t oks))) okw)
  · exact h.elim
def q_up (f : Nat → Int) (i : Nat) (v : Int) : Nat → Int := fun j => if j = i then v else f j
def q_aset (w : qW) (a : Nat) (i : Nat) (v : Int) : qW := match w[a]? with
  | some (.inl (t, n, .inl f)) => w.set a (.inl (t, n, .inl (q_up f i v)))
  | some (.inl (t, n, .inr (.inl f))) => w.set a (.inl (t, n, .inr (.inl (q_up f i v))))
  | _ => w
theorem q_up32 (f : Nat → Int) (i : Nat) (v : Int) : upd (fun j => Int32.ofInt (f j)) i (Int32.ofInt v) = fun j => Int32.ofInt (q_up f i v j) := by
  funext j
  unfold upd q_up
  by_cases h : j = i
  · simp [h]
  · simp [h]
theorem q_up64 (f : Nat → Int) (i : Nat) (v : Int) : vp_updL (fun j => Int64.ofInt (f j)) i (Int64.ofInt v) = fun j => Int64.ofInt (q_up f i v j) := by
  funext j
  unfold vp_updL q_up
  by_cases h : j = i
  · simp [h]
  · simp [h]
theorem q_up_p {P : Int → Prop} {f : Nat → Int} {i : Nat} {v : Int} (hf : ∀ j, P (f j)) (hv : P v) : ∀ j, P (q_up f i v j) := by
  intro j
  unfold q_up
  by_cases h : j = i
  · rw [if_pos h]; exact hv
  · rw [if_neg h]; exact hf j
def x_iast (K : qK) : qK := fun lv st w => match st with
  | .inl v :: .inl i :: .inr (.inr (some a)) :: r => q_ari w a 0 (fun n f => (0 ≤ i ∧ i < n) ∧ K lv r (w.set a (.inl (0, n, .inl (q_up f i.toNat v)))))
  | _ => False
def x_bast (K : qK) : qK := fun lv st w => match st with
  | .inl v :: .inl i :: .inr (.inr (some a)) :: r => q_ari w a 1 (fun n f => (0 ≤ i ∧ i < n) ∧ (-128 ≤ v ∧ v ≤ 127) ∧ K lv r (w.set a (.inl (1, n, .inl (q_up f i.toNat v)))))
  | _ => False
def x_zast (K : qK) : qK := fun lv st w => match st with
  | .inl v :: .inl i :: .inr (.inr (some a)) :: r => q_ari w a 2 (fun n f => (0 ≤ i ∧ i < n) ∧ (v = 0 ∨ v = 1) ∧ K lv r (w.set a (.inl (2, n, .inl (q_up f i.toNat v)))))
  | _ => False
theorem q_nar1 {v : Int} (h0 : -128 ≤ v) (h1 : v ≤ 127) : vp_nar .byte (Int32.ofInt v) = Int32.ofInt v := by
  have hi : q_i v := ⟨by omega, by omega⟩
  show (Int32.ofInt v).toInt8.toInt32 = Int32.ofInt v
  apply Int32.toInt_inj.mp
  rw [Int8.toInt_toInt32, Int32.toInt_toInt8, q_io hi]
  exact Int.bmod_eq_of_le (by omega) (by omega)
theorem q_nar2 {v : Int} (h : v = 0 ∨ v = 1) : vp_nar .boolean (Int32.ofInt v) = Int32.ofInt v := by
  rcases h with h | h <;> subst h <;> rfl
theorem s_iast (X : q_X p R s m args meth c cc nL nW fr lo own ret dC dI k g A) (hd : decode cc pc = .ok (.iastore, 1)) (hk : q_Sd p l e R s m args below meth c nL nW dC dI k g A Qf (pc + 1) (K)) : q_Sd p l e R s m args below meth c nL nW dC dI k g A Qf (pc) (x_iast K) := by
  intro H locs ls lv st w h hP hW hS hl okl oks okw
  obtain ⟨hx, hb, hml, hown, hts, hK, hA, hE, hfr, hlo, hlk, hret, hDg⟩ := X
  unfold x_iast at h
  split at h
  · rename_i v i a r
    obtain ⟨n, f, hw, ⟨h0, h1⟩, h⟩ := q_ari_of h
    have hi : q_i i := q_oks_h (q_oks_t oks)
    have hv : q_i v := q_oks_h oks
    have hc := q_okw_at okw hw
    refine va_iast hx hb hK hP (q_D_va (by rw [hW]; exact hDg)) hS a 0 (q_w_at hw) rfl (q_in hi h0 h1) hd (fun H1 locs1 hP1 _ hS1 => ?_)
    rw [q_cl hi, q_up32] at hP1
    have e2 : (q_w k g w).set a (g a, .inl (k 0, n, .inl (fun j => Int32.ofInt (q_up f i.toNat v j)))) = q_w k g (w.set a (.inl (0, n, .inl (q_up f i.toNat v)))) := by
      exact q_w_set (x := .inl (0, n, .inl (q_up f i.toNat v)))
    rw [e2] at hP1
    exact (hk H1 locs1 ls (lv) (r) (w.set a (.inl (0, n, .inl (q_up f i.toNat v)))) h hP1 (by rw [List.length_set]; exact hW) hS1 hl okl (q_oks_t (q_oks_t (q_oks_t oks))) (q_okw_set okw ⟨q_up_p (P := q_i) hc.1 hv, fun e => absurd e (by decide)⟩))
  · exact h.elim
theorem s_bast (X : q_X p R s m args meth c cc nL nW fr lo own ret dC dI k g A) (hd : decode cc pc = .ok (.bastore, 1)) (hk : q_Sd p l e R s m args below meth c nL nW dC dI k g A Qf (pc + 1) (K)) : q_Sd p l e R s m args below meth c nL nW dC dI k g A Qf (pc) (x_bast K) := by
  intro H locs ls lv st w h hP hW hS hl okl oks okw
  obtain ⟨hx, hb, hml, hown, hts, hK, hA, hE, hfr, hlo, hlk, hret, hDg⟩ := X
  unfold x_bast at h
  split at h
  · rename_i v i a r
    obtain ⟨n, f, hw, ⟨h0, h1⟩, h⟩ := q_ari_of h
    have hi : q_i i := q_oks_h (q_oks_t oks)
    have hv : q_i v := q_oks_h oks
    have hc := q_okw_at okw hw
    obtain ⟨⟨hb0, hb1⟩, h⟩ := h
    refine va_bast hx hb hK hP (q_D_va (by rw [hW]; exact hDg)) hS a 1 (q_w_at hw) rfl (q_in hi h0 h1) hd (fun H1 locs1 hP1 _ hS1 => ?_)
    rw [q_cl hi, q_nar1 hb0 hb1, q_up32] at hP1
    have e2 : (q_w k g w).set a (g a, .inl (k 1, n, .inl (fun j => Int32.ofInt (q_up f i.toNat v j)))) = q_w k g (w.set a (.inl (1, n, .inl (q_up f i.toNat v)))) := by
      exact q_w_set (x := .inl (1, n, .inl (q_up f i.toNat v)))
    rw [e2] at hP1
    exact (hk H1 locs1 ls (lv) (r) (w.set a (.inl (1, n, .inl (q_up f i.toNat v)))) h hP1 (by rw [List.length_set]; exact hW) hS1 hl okl (q_oks_t (q_oks_t (q_oks_t oks))) (q_okw_set okw ⟨q_up_p (P := q_i) hc.1 hv, fun _ => q_up_p (P := fun z => -128 ≤ z ∧ z ≤ 127) (hc.2 rfl) ⟨hb0, hb1⟩⟩))
  · exact h.elim
theorem s_zast (X : q_X p R s m args meth c cc nL nW fr lo own ret dC dI k g A) (hd : decode cc pc = .ok (.bastore, 1)) (hk : q_Sd p l e R s m args below meth c nL nW dC dI k g A Qf (pc + 1) (K)) : q_Sd p l e R s m args below meth c nL nW dC dI k g A Qf (pc) (x_zast K) := by
  intro H locs ls lv st w h hP hW hS hl okl oks okw
  obtain ⟨hx, hb, hml, hown, hts, hK, hA, hE, hfr, hlo, hlk, hret, hDg⟩ := X
  unfold x_zast at h
  split at h
  · rename_i v i a r
    obtain ⟨n, f, hw, ⟨h0, h1⟩, h⟩ := q_ari_of h
    have hi : q_i i := q_oks_h (q_oks_t oks)
    have hv : q_i v := q_oks_h oks
    have hc := q_okw_at okw hw
    obtain ⟨hb0, h⟩ := h
    refine va_zast hx hb hK hP (q_D_va (by rw [hW]; exact hDg)) hS a 2 (q_w_at hw) rfl (q_in hi h0 h1) hd (fun H1 locs1 hP1 _ hS1 => ?_)
    rw [q_cl hi, q_nar2 hb0, q_up32] at hP1
    have e2 : (q_w k g w).set a (g a, .inl (k 2, n, .inl (fun j => Int32.ofInt (q_up f i.toNat v j)))) = q_w k g (w.set a (.inl (2, n, .inl (q_up f i.toNat v)))) := by
      exact q_w_set (x := .inl (2, n, .inl (q_up f i.toNat v)))
    rw [e2] at hP1
    exact (hk H1 locs1 ls (lv) (r) (w.set a (.inl (2, n, .inl (q_up f i.toNat v)))) h hP1 (by rw [List.length_set]; exact hW) hS1 hl okl (q_oks_t (q_oks_t (q_oks_t oks))) (q_okw_set okw ⟨q_up_p (P := q_i) hc.1 hv, fun e => absurd e (by decide)⟩))
  · exact h.elim
def x_last (K : qK) : qK := fun lv st w => match st with
  | .inr (.inl v) :: .inl i :: .inr (.inr (some a)) :: r => q_arl w a 3 (fun n f => (0 ≤ i ∧ i < n) ∧ K lv r (w.set a (.inl (3, n, .inr (.inl (q_up f i.toNat v))))))
  | _ => False
theorem s_last (X : q_X p R s m args meth c cc nL nW fr lo own ret dC dI k g A) (hd : decode cc pc = .ok (.lastore, 1)) (hk : q_Sd p l e R s m args below meth c nL nW dC dI k g A Qf (pc + 1) (K)) : q_Sd p l e R s m args below meth c nL nW dC dI k g A Qf (pc) (x_last K) := by
  intro H locs ls lv st w h hP hW hS hl okl oks okw
  obtain ⟨hx, hb, hml, hown, hts, hK, hA, hE, hfr, hlo, hlk, hret, hDg⟩ := X
  unfold x_last at h
  split at h
  · rename_i v i a r
    obtain ⟨n, f, hw, ⟨h0, h1⟩, h⟩ := q_arl_of h
    have hi : q_i i := q_oks_h (q_oks_t oks)
    have hv : q_l v := q_oks_h oks
    have hc := q_okw_at okw hw
    refine va_last hx hb hK hP (q_D_va (by rw [hW]; exact hDg)) hS a 3 (q_w_at hw) rfl (q_in hi h0 h1) hd (fun H1 locs1 hP1 _ hS1 => ?_)
    rw [q_cl hi, q_up64] at hP1
    have e2 : (q_w k g w).set a (g a, .inl (k 3, n, .inr (.inl (fun j => Int64.ofInt (q_up f i.toNat v j))))) = q_w k g (w.set a (.inl (3, n, .inr (.inl (q_up f i.toNat v))))) := by
      exact q_w_set (x := .inl (3, n, .inr (.inl (q_up f i.toNat v))))
    rw [e2] at hP1
    exact (hk H1 locs1 ls (lv) (r) (w.set a (.inl (3, n, .inr (.inl (q_up f i.toNat v))))) h hP1 (by rw [List.length_set]; exact hW) hS1 hl okl (q_oks_t (q_oks_t (q_oks_t oks))) (q_okw_set okw (q_up_p (P := q_l) hc hv)))
  · exact h.elim
end QR
