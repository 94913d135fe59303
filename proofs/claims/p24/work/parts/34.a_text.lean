section QT
variable {p : Program} {l : Launch} {e : Env} {R : Room} {s : State} {m : MethodId} {args : Array Value} {below : List Frame} {meth : Method} {c : Code} {cc : ByteArray} {nL nW fr lo : Nat} {own : String} {ret : Option FieldType} {dC : Nat → ClassId} {dI : Nat → Nat → Nat} {k : Nat → ClassId} {g : Nat → Nat} {A : Nat → Prop} {Qf : State → Prop} {pc : Nat} {K K1 K2 : qK}
def x_ldcs (i : Nat) (K : qK) : qK := fun lv st w => K lv (.inr (.inr (some (i + 2000))) :: st) w
theorem s_ldcs (X : q_X p R s m args meth c cc nL nW fr lo own ret dC dI k g A) {i : Nat} {x : Nat × String} (hx0 : qTx[i]? = some x) (ho : own = RX6) (hd : decode cc pc = .ok (.ldc x.1, 2)) (hk : q_Sd p l e R s m args below meth c nL nW dC dI k g A Qf (pc + 2) (K)) : q_Sd p l e R s m args below meth c nL nW dC dI k g A Qf (pc) (x_ldcs i K) := by
  intro H locs ls lv st w h hP hW hS hl okl oks okw
  obtain ⟨hx, hb, hml, hown, hts, hK, hA, hE, hfr, hlo, hlk, hret, hDg⟩ := X
  subst ho
  have h9 := hE.2.2.2.2.1 i x hx0
  rw [Nat.add_comm] at h9
  exact va_ldcS hx hb hown h9 hd (hk H locs ls (lv) (.inr (.inr (some (i + 2000))) :: st) (w) h hP hW hS hl okl (q_oks_c trivial oks) okw)
def x_gcs (K : qK) : qK := fun lv st w => K lv (.inl 1 :: st) w
theorem s_gcs (X : q_X p R s m args meth c cc nL nW fr lo own ret dC dI k g A) {index : Nat} (hw : Cond.fieldLink own index "java/lang/String" "COMPACT_STRINGS" "Z" ∈ TB) (hd : decode cc pc = .ok (.getstatic index, 3)) (hk : q_Sd p l e R s m args below meth c nL nW dC dI k g A Qf (pc + 3) (K)) : q_Sd p l e R s m args below meth c nL nW dC dI k g A Qf (pc) (x_gcs K) := by
  intro H locs ls lv st w h hP hW hS hl okl oks okw
  obtain ⟨hx, hb, hml, hown, hts, hK, hA, hE, hfr, hlo, hlk, hret, hDg⟩ := X
  exact va_gets hx hb hE.2.2.2.2.2.1 hS hown (hts _ hw) (fun _ h9 => h9) hd (hk H locs ls (lv) (.inl 1 :: st) (w) h hP hW hS hl okl (q_oks_c (by show q_i 1; exact ⟨by decide, by decide⟩) oks) okw)
def x_gsio (K : qK) : qK := fun lv st w => K lv (.inr (.inr none) :: st) w ∧ K lv (.inr (.inr (some 2200)) :: st) w
theorem s_gsio (X : q_X p R s m args meth c cc nL nW fr lo own ret dC dI k g A) {index : Nat} (hw : Cond.fieldLink own index "jdk/internal/util/Preconditions" "SIOOBE_FORMATTER" "Ljava/util/function/BiFunction;" ∈ TB) (hd : decode cc pc = .ok (.getstatic index, 3)) (hk : q_Sd p l e R s m args below meth c nL nW dC dI k g A Qf (pc + 3) (K)) : q_Sd p l e R s m args below meth c nL nW dC dI k g A Qf (pc) (x_gsio K) := by
  intro H locs ls lv st w h hP hW hS hl okl oks okw
  obtain ⟨hx, hb, hml, hown, hts, hK, hA, hE, hfr, hlo, hlk, hret, hDg⟩ := X
  rcases hE.2.2.2.2.2.2 with hZ | hZ
  · exact va_gets hx hb hZ hS hown (hts _ hw) (fun _ h9 => h9) hd (hk H locs ls (lv) (.inr (.inr none) :: st) (w) h.1 hP hW hS hl okl (q_oks_c trivial oks) okw)
  · exact va_gets hx hb hZ hS hown (hts _ hw) (fun _ h9 => h9) hd (hk H locs ls (lv) (.inr (.inr (some 2200)) :: st) (w) h.2 hP hW hS hl okl (q_oks_c trivial oks) okw)
def x_sval (K : qK) : qK := fun lv st w => match st with
  | .inr (.inr (some a)) :: r => ∃ i : Nat, a = i + 2000 ∧ i < 21 ∧ K lv (.inr (.inr (some (i + 2100))) :: r) w
  | _ => False
theorem s_sval (X : q_X p R s m args meth c cc nL nW fr lo own ret dC dI k g A) {index : Nat} (hw : Cond.fieldLink own index "java/lang/String" "value" "[B" ∈ TB) (hd : decode cc pc = .ok (.getfield index, 3)) (hk : q_Sd p l e R s m args below meth c nL nW dC dI k g A Qf (pc + 3) (K)) : q_Sd p l e R s m args below meth c nL nW dC dI k g A Qf (pc) (x_sval K) := by
  intro H locs ls lv st w h hP hW hS hl okl oks okw
  obtain ⟨hx, hb, hml, hown, hts, hK, hA, hE, hfr, hlo, hlk, hret, hDg⟩ := X
  unfold x_sval at h
  split at h
  · rename_i a r
    obtain ⟨i, rfl, hi, h⟩ := h
    have h9 := (hE.2.2.2.1.1 i hi).2.2.1
    have e1 : 2000 + i = i + 2000 := Nat.add_comm _ _
    have e2 : 2100 + i = i + 2100 := Nat.add_comm _ _
    dsimp only at h9
    rw [e1, e2] at h9
    exact vk_getf hx hb h9 hS hown (hts _ hw) (fun _ h9 => h9) hd (hk H locs ls (lv) (.inr (.inr (some (i + 2100))) :: r) (w) h hP hW hS hl okl (q_oks_c trivial (q_oks_t oks)) okw)
  · exact h.elim
def x_scod (K : qK) : qK := fun lv st w => match st with
  | .inr (.inr (some a)) :: r => ∃ i : Nat, a = i + 2000 ∧ i < 21 ∧ K lv (.inl 0 :: r) w
  | _ => False
theorem s_scod (X : q_X p R s m args meth c cc nL nW fr lo own ret dC dI k g A) {index : Nat} (hw : Cond.fieldLink own index "java/lang/String" "coder" "B" ∈ TB) (hd : decode cc pc = .ok (.getfield index, 3)) (hk : q_Sd p l e R s m args below meth c nL nW dC dI k g A Qf (pc + 3) (K)) : q_Sd p l e R s m args below meth c nL nW dC dI k g A Qf (pc) (x_scod K) := by
  intro H locs ls lv st w h hP hW hS hl okl oks okw
  obtain ⟨hx, hb, hml, hown, hts, hK, hA, hE, hfr, hlo, hlk, hret, hDg⟩ := X
  unfold x_scod at h
  split at h
  · rename_i a r
    obtain ⟨i, rfl, hi, h⟩ := h
    have h9 := (hE.2.2.2.1.1 i hi).2.1
    have e1 : 2000 + i = i + 2000 := Nat.add_comm _ _
    dsimp only at h9
    rw [e1] at h9
    exact vk_getf hx hb h9 hS hown (hts _ hw) (fun _ h9 => h9) hd (hk H locs ls (lv) (.inl 0 :: r) (w) h hP hW hS hl okl (q_oks_c q_i0 (q_oks_t oks)) okw)
  · exact h.elim
theorem qTn_lt : ∀ i : Fin 21, qTn.getD i.val 0 < 100 := by decide
def x_tlen (K : qK) : qK := fun lv st w => match st with
  | .inr (.inr (some a)) :: r => ∃ i : Nat, a = i + 2100 ∧ i < 21 ∧ K lv (.inl (qTn.getD i 0 : Nat) :: r) w
  | _ => False
theorem s_tlen (X : q_X p R s m args meth c cc nL nW fr lo own ret dC dI k g A) (hd : decode cc pc = .ok (.arraylength, 1)) (hk : q_Sd p l e R s m args below meth c nL nW dC dI k g A Qf (pc + 1) (K)) : q_Sd p l e R s m args below meth c nL nW dC dI k g A Qf (pc) (x_tlen K) := by
  intro H locs ls lv st w h hP hW hS hl okl oks okw
  obtain ⟨hx, hb, hml, hown, hts, hK, hA, hE, hfr, hlo, hlk, hret, hDg⟩ := X
  unfold x_tlen at h
  split at h
  · rename_i a r
    obtain ⟨i, rfl, hi, h⟩ := h
    have h9 := (hE.2.2.2.1.1 i hi).2.2.2
    have e2 : 2100 + i = i + 2100 := Nat.add_comm _ _
    dsimp only at h9
    rw [e2] at h9
    have hl9 := qTn_lt ⟨i, hi⟩
    exact va_tlen hx hb h9 hS (v := Int32.ofInt ((qTn.getD i 0 : Nat) : Int)) rfl hd (hk H locs ls (lv) (.inl ((qTn.getD i 0 : Nat) : Int) :: r) (w) h hP hW hS hl okl (q_oks_c (by show q_i _; exact ⟨by omega, by have : qTn.getD i 0 < 100 := hl9; omega⟩) (q_oks_t oks)) okw)
  · exact h.elim
def x_tald (K : qK) : qK := fun lv st w => match st with
  | .inl j :: .inr (.inr (some a)) :: r => ∃ i : Nat, a = i + 2100 ∧ i < 21 ∧ (0 ≤ j ∧ j < (qTn.getD i 0 : Nat)) ∧ ∀ z : Int, z = ((qTb.getD i []).getD j.toNat 0).toInt → K lv (.inl z :: r) w
  | _ => False
theorem s_tald (X : q_X p R s m args meth c cc nL nW fr lo own ret dC dI k g A) (hd : decode cc pc = .ok (.baload, 1)) (hk : q_Sd p l e R s m args below meth c nL nW dC dI k g A Qf (pc + 1) (K)) : q_Sd p l e R s m args below meth c nL nW dC dI k g A Qf (pc) (x_tald K) := by
  intro H locs ls lv st w h hP hW hS hl okl oks okw
  obtain ⟨hx, hb, hml, hown, hts, hK, hA, hE, hfr, hlo, hlk, hret, hDg⟩ := X
  unfold x_tald at h
  split at h
  · rename_i j a r
    obtain ⟨i, rfl, hi, ⟨h0, h1⟩, h⟩ := h
    have h9 := (hE.2.2.2.1.1 i hi).2.2.2
    have e2 : 2100 + i = i + 2100 := Nat.add_comm _ _
    dsimp only at h9
    rw [e2] at h9
    have hj : q_i j := q_oks_h oks
    exact va_tb hx hb h9 hS (q_in hj h0 h1) (v := q_v g (.inl ((qTb.getD i []).getD j.toNat 0).toInt)) (by rw [q_cl hj, ← q_bk]) hd (hk H locs ls (lv) (.inl ((qTb.getD i []).getD j.toNat 0).toInt :: r) (w) (h _ rfl) hP hW hS hl okl (q_oks_c (q_it _) (q_oks_t (q_oks_t oks))) okw)
  · exact h.elim
def x_bret (Q : qR) : qK := fun _ st w => match st with
  | [.inl z] => (-128 ≤ z ∧ z ≤ 127) ∧ Q (some (.inl z)) w
  | _ => False
theorem s_bret {Q : qR} (X : q_X p R s m args meth c cc nL nW fr lo own (some .byte) dC dI k g A) (hd : decode cc pc = .ok (.ireturn, 1)) : q_Sd p l e R s m args below meth c nL nW dC dI k g A (MQ below (q_post (dC, dI) k g nW Q A) args s 0 0 A) (pc) (x_bret Q) := by
  intro H locs ls lv st w h hP hW hS hl okl oks okw
  obtain ⟨hx, hb, hml, hown, hts, hK, hA, hE, hfr, hlo, hlk, hret, hDg⟩ := X
  unfold x_bret at h
  split at h
  · rename_i z
    exact W.zret hx hb hret (by show Value.int (Int32.ofInt z).toInt8.toInt32 = _; exact congrArg Value.int (q_nar1 h.1.1 h.1.2)) (fun t ht hWm => ⟨⟨some (.inl z), w, rfl, h.2, hW, fun v hv => (by cases hv; exact q_oks_h oks), okw, by rw [ht]; exact hP⟩, hS.F ht⟩) hS.2.2 hd hlk
  · exact h.elim
theorem q_narc {z : Int} (h0 : 0 ≤ z) (h1 : z ≤ 127) : narrow .char (.int (Int32.ofInt z)) = .int (Int32.ofInt z) := by
  have h2 : ∀ j : Fin 128, narrow .char (.int (nI j.val)) = .int (nI j.val) := by decide +kernel
  rw [q_nI h0 (by omega)]
  exact h2 ⟨z.toNat, by omega⟩
def x_cret (Q : qR) : qK := fun _ st w => match st with
  | [.inl z] => (0 ≤ z ∧ z ≤ 127) ∧ Q (some (.inl z)) w
  | _ => False
theorem s_cret {Q : qR} (X : q_X p R s m args meth c cc nL nW fr lo own (some .char) dC dI k g A) (hd : decode cc pc = .ok (.ireturn, 1)) : q_Sd p l e R s m args below meth c nL nW dC dI k g A (MQ below (q_post (dC, dI) k g nW Q A) args s 0 0 A) (pc) (x_cret Q) := by
  intro H locs ls lv st w h hP hW hS hl okl oks okw
  obtain ⟨hx, hb, hml, hown, hts, hK, hA, hE, hfr, hlo, hlk, hret, hDg⟩ := X
  unfold x_cret at h
  split at h
  · rename_i z
    exact W.zret hx hb hret (q_narc h.1.1 h.1.2) (fun t ht hWm => ⟨⟨some (.inl z), w, rfl, h.2, hW, fun v hv => (by cases hv; exact q_oks_h oks), okw, by rw [ht]; exact hP⟩, hS.F ht⟩) hS.2.2 hd hlk
  · exact h.elim
def x_callt (np : Nat) (spr : List qV → qW → (Option qV → Prop) → Prop) (K : qK) : qK := fun lv st w => ∃ (i : Nat) (As : List qV), i < 21 ∧ st.take np = ((.inr (.inr (some (i + 2000))) :: As : List qV)).reverse ∧ (∀ v ∈ As, q_rv [] v = v) ∧ (Nat.ble np st.length && Nat.ble ((st.drop np).map q_cat).sum 8) = true ∧ spr (.inr (.inr (some (i + 2000))) :: As) [] (fun r => ∀ v, r = some v → K lv (v :: st.drop np) w)
theorem s_callt {np index : Nat} {spr : List qV → qW → (Option qV → Prop) → Prop} {y : MethodName} {cy : ByteArray} {nLy fy ly : Nat} {rety : Option FieldType} (X : q_X p R s m args meth c cc nL nW fr lo own ret dC dI k g A) (hM : q_M l y cy nLy rety fy ly (fun av w Q => spr av w (fun r => Q r w))) (hmono : ∀ (av : List qV) (w : qW) (P P' : Option qV → Prop), (∀ r, P r → P' r) → spr av w P → spr av w P') (hsome : ∀ (av : List qV) (w : qW) (P : Option qV → Prop), spr av w P → spr av w (fun r => P r ∧ ∃ z : Int, r = some (.inl z))) (hyc : y.cls = "java/lang/String") (h1 : Cond.methodLink own index y ∈ TB) (h2 : Cond.instanceMethod y ∈ TB) (h3 : Cond.selects y.cls y y ∈ TB) (h4 : Cond.initialized y.cls ∈ TB) (h5 : Cond.code y cy nLy rety ∈ TB) (hdd : y.cls = y.cls ∧ y.cls ≠ "java/lang/invoke/MethodHandle" ∧ y.cls ≠ "java/lang/invoke/VarHandle" ∧ (parseMethodDescriptor y.desc).map (fun d => d.parameters.length + 1) = some np) (hroom : fy + 1 ≤ fr ∧ 8 + (nLy + 11) + ly ≤ lo) (hd : decode cc pc = .ok (.invokevirtual index, 3)) (hk : q_Sd p l e R s m args below meth c nL nW dC dI k g A Qf (pc + 3) (K)) : q_Sd p l e R s m args below meth c nL nW dC dI k g A Qf (pc) (x_callt np spr K) := by
  intro H locs ls lv st w h hP hW hS hl okl oks okw
  obtain ⟨i, As, hi, hst, hAs, hb9, hsp⟩ := h
  simp only [Bool.and_eq_true] at hb9
  have hnp := Nat.le_of_ble_eq_true hb9.1
  have hlen : ((.inr (.inr (some (i + 2000))) :: As : List qV)).length = np := by
    have h9 := congrArg List.length hst
    rw [List.length_reverse, List.length_take] at h9
    omega
  have hx0 : x_call none np (fun av w Q => spr av w (fun r => Q r w)) K lv st w := by
    refine ⟨[], .inr (.inr (some (i + 2000))) :: As, [], ?_, rfl, ?_, trivial, ?_⟩
    · rw [hst, List.map_cons]
      have e : As.map (q_rv []) = As := by
        have : ∀ v ∈ As, q_rv [] v = id v := hAs
        rw [List.map_congr_left this, List.map_id]
      rw [e]; rfl
    · simp only [Bool.and_eq_true]
      exact ⟨rfl, rfl, hb9.1, hb9.2⟩
    · refine hmono _ _ _ _ (fun r hr => ?_) (hsome _ _ _ hsp)
      obtain ⟨h7, z, rfl⟩ := hr
      exact h7 _ rfl
  refine q_core X hM hx0 hP hW hS hl okl oks okw hk ?_
  obtain ⟨hx, hb, hml, hown, hts, hK, hA, hE, hfr, hlo, hlk, hret, hDg⟩ := X
  intro pos av w0 Pc Qc fre hst2 hav hcs hMet hbl hpc hP0 hvc
  cases av with
  | nil =>
    simp only [List.length_nil] at hav
    rw [← hav] at hlen
    cases hlen
  | cons v As2 =>
    obtain ⟨hd1, hd2, hd3, hd4⟩ := hdd
    have hn : (parseMethodDescriptor y.desc).map (fun d => d.parameters.length) = some As2.length := by
      cases hp : parseMethodDescriptor y.desc with
      | none => rw [hp] at hd4; cases hd4
      | some d => rw [hp] at hd4; simp only [Option.map_some, Option.some.injEq] at hd4 ⊢; simp only [List.length_cons] at hav; omega
    have hstv : st.map (q_v g) = (As.map (q_v g)).reverse ++ .ref (g (i + 2000)) :: (st.drop np).map (q_v g) := by
      have h8 : st = (.inr (.inr (some (i + 2000))) :: As : List qV).reverse ++ st.drop np := by rw [← hst]; exact (List.take_append_drop np st).symm
      have h7 := congrArg (List.map (q_v g)) h8
      rw [List.map_append, List.map_reverse, List.map_cons, List.reverse_cons, List.append_assoc] at h7
      exact h7
    have hv : q_v (fun i => g (q_rn pos i)) v = .ref (g (i + 2000)) ∧ As2.map (q_v (fun i => g (q_rn pos i))) = As.map (q_v g) := by
      rw [hstv, List.map_cons, List.reverse_cons, List.append_assoc] at hst2
      have hl2 : (As.map (q_v g)).reverse.length = (As2.map (q_v (fun i => g (q_rn pos i)))).reverse.length := by
        rw [List.length_reverse, List.length_reverse, List.length_map, List.length_map]
        simp only [List.length_cons] at hav hlen
        omega
      obtain ⟨h6, h7⟩ := List.append_inj hst2 hl2
      have h8 : Value.ref (g (i + 2000)) = q_v (fun i => g (q_rn pos i)) v := by
        have := congrArg List.head? h7
        simpa using this
      exact ⟨h8.symm, (List.reverse_inj.mp h6).symm⟩
    have hrec := vk_recv (hE.2.2.2.1) hi hS
    rw [show 2000 + i = i + 2000 from Nat.add_comm _ _, ← hyc] at hrec
    rw [List.map_cons, hv.1] at hpc ⊢
    refine va_runV (Ts := TB) (own := own) (nL := nL) (As := As2.map (q_v (fun i => g (q_rn pos i)))) (b := g (i + 2000)) ⟨hx, hb, hml, hown, hts⟩ hMet (cwV As2.length hts (q_gin h5 _ (by
      intro w' hw'
      simp only [List.mem_cons, List.not_mem_nil, or_false] at hw'
      rcases hw' with rfl | rfl | rfl | rfl
      · exact h1
      · exact h2
      · exact h3
      · exact h4)) rfl rfl rfl ⟨hd1, hd2, hd3, hn⟩ ⟨Nat.le_trans hroom.1 hfr, Nat.le_trans hroom.2 hlo⟩) ⟨hbl, hrec, hpc⟩ rfl (by rw [List.length_map]) hl.1 ?_ (lv_room hcs) hd ⟨Nat.zero_le _, Nat.zero_le _⟩
    show st.map (q_v g) = _
    rw [hstv, hv.2]
end QT
