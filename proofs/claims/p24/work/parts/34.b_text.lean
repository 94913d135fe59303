theorem q_shr0 (i : Nat) (z6 z9 : Int) (hi : i < 21) (h6 : z6 = 0) (h9 : z9 = (Int32.ofInt ((qTn.getD i 0 : Nat) : Int) >>> (Int32.ofInt z6 &&& 31)).toInt) : z9 = (qTn.getD i 0 : Nat) := by
  subst h6
  have h : ∀ j : Fin 21, (Int32.ofInt ((qTn.getD j.val 0 : Nat) : Int) >>> (Int32.ofInt 0 &&& 31)).toInt = (qTn.getD j.val 0 : Nat) := by decide +kernel
  rw [h9]; exact h ⟨i, hi⟩
theorem qTb_at {z a : Int} (i : Nat) (hi : i < 21) (ha : 0 ≤ a ∧ a < 100) (h : z = ((qTb.getD i []).getD a.toNat 0).toInt) : 0 ≤ z ∧ z ≤ 122 := by
  have h9 : ∀ (j : Fin 21) (k : Fin 100), 0 ≤ ((qTb.getD j.val []).getD k.val 0).toInt ∧ ((qTb.getD j.val []).getD k.val 0).toInt ≤ 122 := by decide +kernel
  rw [h]; exact h9 ⟨i, hi⟩ ⟨a.toNat, by omega⟩
theorem e_i2c {z x : Int} (h : z = ((Int32.ofInt x).toUInt32 % 65536).toInt32.toInt) (hx : 0 ≤ x ∧ x ≤ 127) : z = x := by
  have h9 : ∀ j : Fin 128, ((nI j.val).toUInt32 % 65536).toInt32.toInt = (j.val : Int) := by decide +kernel
  rw [h, q_nI hx.1 (by omega)]
  have h8 : ((nI x.toNat).toUInt32 % 65536).toInt32.toInt = (x.toNat : Int) := h9 ⟨x.toNat, by omega⟩
  rw [h8]
  omega

theorem dJ0_coder_7d493_0 : decode cJ0_coder_7d493 0 = .ok (.getstatic 38, 3) := by decide +kernel
theorem dJ0_coder_7d493_3 : decode cJ0_coder_7d493 3 = .ok (.ifCond .eq 10, 3) := by decide +kernel
theorem dJ0_coder_7d493_6 : decode cJ0_coder_7d493 6 = .ok (.aload_n 0, 1) := by decide +kernel
theorem dJ0_coder_7d493_7 : decode cJ0_coder_7d493 7 = .ok (.getfield 15, 3) := by decide +kernel
theorem dJ0_coder_7d493_10 : decode cJ0_coder_7d493 10 = .ok (.goto 4, 3) := by decide +kernel
theorem dJ0_coder_7d493_13 : decode cJ0_coder_7d493 13 = .ok (.iconst 1, 1) := by decide +kernel
theorem dJ0_coder_7d493_14 : decode cJ0_coder_7d493 14 = .ok (.ireturn, 1) := by decide +kernel
def is_J0_coder_7d493 : Nat → List Nat := fun d => []
set_option maxRecDepth 100000 in
def b_J0_coder_7d493_14 (J : Nat → List qV → List qV → qW → Prop) (Q : qR) : qK := x_bret Q
set_option maxRecDepth 100000 in
theorem s_J0_coder_7d493_14 {p : Program} {l : Launch} {e : Env} {R : Room} {s : State} {m : MethodId} {args : Array Value} {below : List Frame} {meth : Method} {c : Code} {nW : Nat} {dC : Nat → ClassId} {dI : Nat → Nat → Nat} {k : Nat → ClassId} {g : Nat → Nat} {A : Nat → Prop} {J : Nat → List qV → List qV → qW → Prop} {Q : qR} (X : q_X p R s m args meth c cJ0_coder_7d493 1 nW 0 0 RJ0 (some .byte) dC dI k g A) (hJ : ∀ d : Nat, q_Sd p l e R s m args below meth c 1 nW dC dI k g A (MQ below (q_post (dC, dI) k g nW Q A) args s 0 0 A) d (x_cut (is_J0_coder_7d493 d) (J d))) : q_Sd p l e R s m args below meth c 1 nW dC dI k g A (MQ below (q_post (dC, dI) k g nW Q A) args s 0 0 A) 14 (b_J0_coder_7d493_14 J Q) := by
  unfold b_J0_coder_7d493_14
  exact s_bret X dJ0_coder_7d493_14
set_option maxRecDepth 100000 in
def b_J0_coder_7d493_0 (J : Nat → List qV → List qV → qW → Prop) (Q : qR) : qK := x_gcs (x_if_eq (x_int 1 (b_J0_coder_7d493_14 J Q)) (x_aload 0 (x_scod (b_J0_coder_7d493_14 J Q))))
set_option maxRecDepth 100000 in
theorem s_J0_coder_7d493_0 {p : Program} {l : Launch} {e : Env} {R : Room} {s : State} {m : MethodId} {args : Array Value} {below : List Frame} {meth : Method} {c : Code} {nW : Nat} {dC : Nat → ClassId} {dI : Nat → Nat → Nat} {k : Nat → ClassId} {g : Nat → Nat} {A : Nat → Prop} {J : Nat → List qV → List qV → qW → Prop} {Q : qR} (X : q_X p R s m args meth c cJ0_coder_7d493 1 nW 0 0 RJ0 (some .byte) dC dI k g A) (hJ : ∀ d : Nat, q_Sd p l e R s m args below meth c 1 nW dC dI k g A (MQ below (q_post (dC, dI) k g nW Q A) args s 0 0 A) d (x_cut (is_J0_coder_7d493 d) (J d))) : q_Sd p l e R s m args below meth c 1 nW dC dI k g A (MQ below (q_post (dC, dI) k g nW Q A) args s 0 0 A) 0 (b_J0_coder_7d493_0 J Q) := by
  unfold b_J0_coder_7d493_0
  refine s_gcs X tw_422 dJ0_coder_7d493_0 ?_
  refine s_if_eq X (tgt := 13) dJ0_coder_7d493_3 (by decide) ?_ ?_
  · refine s_iconst X ⟨by decide, by decide⟩ dJ0_coder_7d493_13 ?_
    exact s_J0_coder_7d493_14 X hJ
  · refine s_aload_n X rfl dJ0_coder_7d493_6 ?_
    refine s_scod X tw_1484 dJ0_coder_7d493_7 ?_
    refine s_goto X (tgt := 14) dJ0_coder_7d493_10 (by decide) ?_
    exact s_J0_coder_7d493_14 X hJ

def spr_J0_coder_7d493 : List qV → qW → (Option qV → Prop) → Prop := fun av w Q => ∃ (i : Nat), av = [q2 (i + 2000)] ∧ w = [] ∧ (i < 21) ∧ (∀ (r : Int) , r = 0 → Q (some (q1 r)))
def sp_J0_coder_7d493 : qS := fun av w Q => spr_J0_coder_7d493 av w (fun r => Q r w)
theorem mo_J0_coder_7d493 : ∀ (av : List qV) (w : qW) (P P' : Option qV → Prop), (∀ r, P r → P' r) → spr_J0_coder_7d493 av w P → spr_J0_coder_7d493 av w P' := by
  intro av w P P' hP h
  obtain ⟨i, e1, e2, hi, hQ⟩ := h
  exact ⟨i, e1, e2, hi, fun r hr => hP _ (hQ r hr)⟩
theorem so_J0_coder_7d493 : ∀ (av : List qV) (w : qW) (P : Option qV → Prop), spr_J0_coder_7d493 av w P → spr_J0_coder_7d493 av w (fun r => P r ∧ ∃ z : Int, r = some (.inl z)) := by
  intro av w P h
  obtain ⟨i, e1, e2, hi, hQ⟩ := h
  exact ⟨i, e1, e2, hi, fun r hr => ⟨hQ r hr, r, rfl⟩⟩
set_option maxHeartbeats 4000000 in
set_option maxRecDepth 100000 in
theorem m_J0_coder_7d493 (l : Launch) : q_M l yJ0_coder_7d493 cJ0_coder_7d493 1 (some .byte) 0 0 sp_J0_coder_7d493 := by
  refine q_meth (by decide) (fun av w Q h => by obtain ⟨i, rfl, rfl, hi, hQ⟩ := h; exact Nat.le_of_ble_eq_true rfl) ?_
  intro p e R s m args below meth c dC dI k g A av w Q hsp oka okw X
  obtain ⟨i, rfl, rfl, hi, hQ⟩ := hsp
  refine s_mono (s_J0_coder_7d493_0 X (J := fun _ _ _ _ => False) (fun d => s_cutF)) ?_
  rintro lv st w' ⟨rfl, rfl, rfl⟩
  apply And.intro
  · intro h3
    apply And.intro
    · omega
    exact hQ _ (by first | omega | assumption | exact q_rg_up (by assumption) (by omega) | exact q_rg_up (q_rg_up (by assumption) (by omega)) (by omega) | exact q_rg_cpy (by assumption) (by assumption))
  · intro h3
    refine Exists.intro i (And.intro rfl (And.intro hi ?_))
    apply And.intro
    · omega
    exact hQ _ (by first | omega | assumption | exact q_rg_up (by assumption) (by omega) | exact q_rg_up (q_rg_up (by assumption) (by omega)) (by omega) | exact q_rg_cpy (by assumption) (by assumption))

theorem dJ0_isLatin1_aae02_0 : decode cJ0_isLatin1_aae02 0 = .ok (.getstatic 38, 3) := by decide +kernel
theorem dJ0_isLatin1_aae02_3 : decode cJ0_isLatin1_aae02 3 = .ok (.ifCond .eq 14, 3) := by decide +kernel
theorem dJ0_isLatin1_aae02_6 : decode cJ0_isLatin1_aae02 6 = .ok (.aload_n 0, 1) := by decide +kernel
theorem dJ0_isLatin1_aae02_7 : decode cJ0_isLatin1_aae02 7 = .ok (.getfield 15, 3) := by decide +kernel
theorem dJ0_isLatin1_aae02_10 : decode cJ0_isLatin1_aae02 10 = .ok (.ifCond .ne 7, 3) := by decide +kernel
theorem dJ0_isLatin1_aae02_13 : decode cJ0_isLatin1_aae02 13 = .ok (.iconst 1, 1) := by decide +kernel
theorem dJ0_isLatin1_aae02_14 : decode cJ0_isLatin1_aae02 14 = .ok (.goto 4, 3) := by decide +kernel
theorem dJ0_isLatin1_aae02_17 : decode cJ0_isLatin1_aae02 17 = .ok (.iconst 0, 1) := by decide +kernel
theorem dJ0_isLatin1_aae02_18 : decode cJ0_isLatin1_aae02 18 = .ok (.ireturn, 1) := by decide +kernel
def is_J0_isLatin1_aae02 : Nat → List Nat := fun d => []
set_option maxRecDepth 100000 in
def b_J0_isLatin1_aae02_18 (J : Nat → List qV → List qV → qW → Prop) (Q : qR) : qK := x_zret Q
set_option maxRecDepth 100000 in
theorem s_J0_isLatin1_aae02_18 {p : Program} {l : Launch} {e : Env} {R : Room} {s : State} {m : MethodId} {args : Array Value} {below : List Frame} {meth : Method} {c : Code} {nW : Nat} {dC : Nat → ClassId} {dI : Nat → Nat → Nat} {k : Nat → ClassId} {g : Nat → Nat} {A : Nat → Prop} {J : Nat → List qV → List qV → qW → Prop} {Q : qR} (X : q_X p R s m args meth c cJ0_isLatin1_aae02 1 nW 0 0 RJ0 (some .boolean) dC dI k g A) (hJ : ∀ d : Nat, q_Sd p l e R s m args below meth c 1 nW dC dI k g A (MQ below (q_post (dC, dI) k g nW Q A) args s 0 0 A) d (x_cut (is_J0_isLatin1_aae02 d) (J d))) : q_Sd p l e R s m args below meth c 1 nW dC dI k g A (MQ below (q_post (dC, dI) k g nW Q A) args s 0 0 A) 18 (b_J0_isLatin1_aae02_18 J Q) := by
  unfold b_J0_isLatin1_aae02_18
  exact s_zret X dJ0_isLatin1_aae02_18
set_option maxRecDepth 100000 in
def b_J0_isLatin1_aae02_17 (J : Nat → List qV → List qV → qW → Prop) (Q : qR) : qK := x_int 0 (b_J0_isLatin1_aae02_18 J Q)
set_option maxRecDepth 100000 in
theorem s_J0_isLatin1_aae02_17 {p : Program} {l : Launch} {e : Env} {R : Room} {s : State} {m : MethodId} {args : Array Value} {below : List Frame} {meth : Method} {c : Code} {nW : Nat} {dC : Nat → ClassId} {dI : Nat → Nat → Nat} {k : Nat → ClassId} {g : Nat → Nat} {A : Nat → Prop} {J : Nat → List qV → List qV → qW → Prop} {Q : qR} (X : q_X p R s m args meth c cJ0_isLatin1_aae02 1 nW 0 0 RJ0 (some .boolean) dC dI k g A) (hJ : ∀ d : Nat, q_Sd p l e R s m args below meth c 1 nW dC dI k g A (MQ below (q_post (dC, dI) k g nW Q A) args s 0 0 A) d (x_cut (is_J0_isLatin1_aae02 d) (J d))) : q_Sd p l e R s m args below meth c 1 nW dC dI k g A (MQ below (q_post (dC, dI) k g nW Q A) args s 0 0 A) 17 (b_J0_isLatin1_aae02_17 J Q) := by
  unfold b_J0_isLatin1_aae02_17
  refine s_iconst X ⟨by decide, by decide⟩ dJ0_isLatin1_aae02_17 ?_
  exact s_J0_isLatin1_aae02_18 X hJ
set_option maxRecDepth 100000 in
def b_J0_isLatin1_aae02_0 (J : Nat → List qV → List qV → qW → Prop) (Q : qR) : qK := x_gcs (x_if_eq (b_J0_isLatin1_aae02_17 J Q) (x_aload 0 (x_scod (x_if_ne (b_J0_isLatin1_aae02_17 J Q) (x_int 1 (b_J0_isLatin1_aae02_18 J Q))))))
set_option maxRecDepth 100000 in
theorem s_J0_isLatin1_aae02_0 {p : Program} {l : Launch} {e : Env} {R : Room} {s : State} {m : MethodId} {args : Array Value} {below : List Frame} {meth : Method} {c : Code} {nW : Nat} {dC : Nat → ClassId} {dI : Nat → Nat → Nat} {k : Nat → ClassId} {g : Nat → Nat} {A : Nat → Prop} {J : Nat → List qV → List qV → qW → Prop} {Q : qR} (X : q_X p R s m args meth c cJ0_isLatin1_aae02 1 nW 0 0 RJ0 (some .boolean) dC dI k g A) (hJ : ∀ d : Nat, q_Sd p l e R s m args below meth c 1 nW dC dI k g A (MQ below (q_post (dC, dI) k g nW Q A) args s 0 0 A) d (x_cut (is_J0_isLatin1_aae02 d) (J d))) : q_Sd p l e R s m args below meth c 1 nW dC dI k g A (MQ below (q_post (dC, dI) k g nW Q A) args s 0 0 A) 0 (b_J0_isLatin1_aae02_0 J Q) := by
  unfold b_J0_isLatin1_aae02_0
  refine s_gcs X tw_422 dJ0_isLatin1_aae02_0 ?_
  refine s_if_eq X (tgt := 17) dJ0_isLatin1_aae02_3 (by decide) ?_ ?_
  · exact s_J0_isLatin1_aae02_17 X hJ
  · refine s_aload_n X rfl dJ0_isLatin1_aae02_6 ?_
    refine s_scod X tw_1484 dJ0_isLatin1_aae02_7 ?_
    refine s_if_ne X (tgt := 17) dJ0_isLatin1_aae02_10 (by decide) ?_ ?_
    · exact s_J0_isLatin1_aae02_17 X hJ
    · refine s_iconst X ⟨by decide, by decide⟩ dJ0_isLatin1_aae02_13 ?_
      refine s_goto X (tgt := 18) dJ0_isLatin1_aae02_14 (by decide) ?_
      exact s_J0_isLatin1_aae02_18 X hJ

def spr_J0_isLatin1_aae02 : List qV → qW → (Option qV → Prop) → Prop := fun av w Q => ∃ (i : Nat), av = [q2 (i + 2000)] ∧ w = [] ∧ (i < 21) ∧ (∀ (r : Int) , r = 1 → Q (some (q1 r)))
def sp_J0_isLatin1_aae02 : qS := fun av w Q => spr_J0_isLatin1_aae02 av w (fun r => Q r w)
theorem mo_J0_isLatin1_aae02 : ∀ (av : List qV) (w : qW) (P P' : Option qV → Prop), (∀ r, P r → P' r) → spr_J0_isLatin1_aae02 av w P → spr_J0_isLatin1_aae02 av w P' := by
  intro av w P P' hP h
  obtain ⟨i, e1, e2, hi, hQ⟩ := h
  exact ⟨i, e1, e2, hi, fun r hr => hP _ (hQ r hr)⟩
theorem so_J0_isLatin1_aae02 : ∀ (av : List qV) (w : qW) (P : Option qV → Prop), spr_J0_isLatin1_aae02 av w P → spr_J0_isLatin1_aae02 av w (fun r => P r ∧ ∃ z : Int, r = some (.inl z)) := by
  intro av w P h
  obtain ⟨i, e1, e2, hi, hQ⟩ := h
  exact ⟨i, e1, e2, hi, fun r hr => ⟨hQ r hr, r, rfl⟩⟩
set_option maxHeartbeats 4000000 in
set_option maxRecDepth 100000 in
theorem m_J0_isLatin1_aae02 (l : Launch) : q_M l yJ0_isLatin1_aae02 cJ0_isLatin1_aae02 1 (some .boolean) 0 0 sp_J0_isLatin1_aae02 := by
  refine q_meth (by decide) (fun av w Q h => by obtain ⟨i, rfl, rfl, hi, hQ⟩ := h; exact Nat.le_of_ble_eq_true rfl) ?_
  intro p e R s m args below meth c dC dI k g A av w Q hsp oka okw X
  obtain ⟨i, rfl, rfl, hi, hQ⟩ := hsp
  refine s_mono (s_J0_isLatin1_aae02_0 X (J := fun _ _ _ _ => False) (fun d => s_cutF)) ?_
  rintro lv st w' ⟨rfl, rfl, rfl⟩
  apply And.intro
  · intro h3
    apply And.intro
    · first | exact Or.inl rfl | exact Or.inr rfl | omega
    exact hQ _ (by first | omega | assumption | exact q_rg_up (by assumption) (by omega) | exact q_rg_up (q_rg_up (by assumption) (by omega)) (by omega) | exact q_rg_cpy (by assumption) (by assumption))
  · intro h3
    refine Exists.intro i (And.intro rfl (And.intro hi ?_))
    apply And.intro
    · intro h10
      apply And.intro
      · first | exact Or.inl rfl | exact Or.inr rfl | omega
      exact hQ _ (by first | omega | assumption | exact q_rg_up (by assumption) (by omega) | exact q_rg_up (q_rg_up (by assumption) (by omega)) (by omega) | exact q_rg_cpy (by assumption) (by assumption))
    · intro h10
      apply And.intro
      · first | exact Or.inl rfl | exact Or.inr rfl | omega
      exact hQ _ (by first | omega | assumption | exact q_rg_up (by assumption) (by omega) | exact q_rg_up (q_rg_up (by assumption) (by omega)) (by omega) | exact q_rg_cpy (by assumption) (by assumption))

theorem dJ0_length_8abf5_0 : decode cJ0_length_8abf5 0 = .ok (.aload_n 0, 1) := by decide +kernel
theorem dJ0_length_8abf5_1 : decode cJ0_length_8abf5 1 = .ok (.getfield 9, 3) := by decide +kernel
theorem dJ0_length_8abf5_4 : decode cJ0_length_8abf5 4 = .ok (.arraylength, 1) := by decide +kernel
theorem dJ0_length_8abf5_5 : decode cJ0_length_8abf5 5 = .ok (.aload_n 0, 1) := by decide +kernel
theorem dJ0_length_8abf5_6 : decode cJ0_length_8abf5 6 = .ok (.invokevirtual 335, 3) := by decide +kernel
theorem dJ0_length_8abf5_9 : decode cJ0_length_8abf5 9 = .ok (.ishr, 1) := by decide +kernel
theorem dJ0_length_8abf5_10 : decode cJ0_length_8abf5 10 = .ok (.ireturn, 1) := by decide +kernel
def is_J0_length_8abf5 : Nat → List Nat := fun d => []
set_option maxRecDepth 100000 in
def b_J0_length_8abf5_0 (J : Nat → List qV → List qV → qW → Prop) (Q : qR) : qK := x_aload 0 (x_sval (x_tlen (x_aload 0 (x_callt 1 spr_J0_coder_7d493 (x_ishr (x_iret Q))))))
set_option maxRecDepth 100000 in
theorem s_J0_length_8abf5_0 {p : Program} {l : Launch} {e : Env} {R : Room} {s : State} {m : MethodId} {args : Array Value} {below : List Frame} {meth : Method} {c : Code} {nW : Nat} {dC : Nat → ClassId} {dI : Nat → Nat → Nat} {k : Nat → ClassId} {g : Nat → Nat} {A : Nat → Prop} {J : Nat → List qV → List qV → qW → Prop} {Q : qR} (X : q_X p R s m args meth c cJ0_length_8abf5 1 nW 1 20 RJ0 (some .int) dC dI k g A) (hJ : ∀ d : Nat, q_Sd p l e R s m args below meth c 1 nW dC dI k g A (MQ below (q_post (dC, dI) k g nW Q A) args s 0 0 A) d (x_cut (is_J0_length_8abf5 d) (J d))) : q_Sd p l e R s m args below meth c 1 nW dC dI k g A (MQ below (q_post (dC, dI) k g nW Q A) args s 0 0 A) 0 (b_J0_length_8abf5_0 J Q) := by
  unfold b_J0_length_8abf5_0
  refine s_aload_n X rfl dJ0_length_8abf5_0 ?_
  refine s_sval X tw_1483 dJ0_length_8abf5_1 ?_
  refine s_tlen X dJ0_length_8abf5_4 ?_
  refine s_aload_n X rfl dJ0_length_8abf5_5 ?_
  refine s_callt X (m_J0_coder_7d493 l) mo_J0_coder_7d493 so_J0_coder_7d493 rfl tw_418 tw_419 tw_420 tw_136 tw_421 (by decide +kernel) ⟨by decide, by decide⟩ dJ0_length_8abf5_6 ?_
  refine s_ishr X dJ0_length_8abf5_9 ?_
  exact s_iret X dJ0_length_8abf5_10

def spr_J0_length_8abf5 : List qV → qW → (Option qV → Prop) → Prop := fun av w Q => ∃ (i : Nat), av = [q2 (i + 2000)] ∧ w = [] ∧ (i < 21) ∧ (∀ (r : Int) , r = (qTn.getD i 0 : Nat) → Q (some (q1 r)))
def sp_J0_length_8abf5 : qS := fun av w Q => spr_J0_length_8abf5 av w (fun r => Q r w)
theorem mo_J0_length_8abf5 : ∀ (av : List qV) (w : qW) (P P' : Option qV → Prop), (∀ r, P r → P' r) → spr_J0_length_8abf5 av w P → spr_J0_length_8abf5 av w P' := by
  intro av w P P' hP h
  obtain ⟨i, e1, e2, hi, hQ⟩ := h
  exact ⟨i, e1, e2, hi, fun r hr => hP _ (hQ r hr)⟩
theorem so_J0_length_8abf5 : ∀ (av : List qV) (w : qW) (P : Option qV → Prop), spr_J0_length_8abf5 av w P → spr_J0_length_8abf5 av w (fun r => P r ∧ ∃ z : Int, r = some (.inl z)) := by
  intro av w P h
  obtain ⟨i, e1, e2, hi, hQ⟩ := h
  exact ⟨i, e1, e2, hi, fun r hr => ⟨hQ r hr, r, rfl⟩⟩
set_option maxHeartbeats 4000000 in
set_option maxRecDepth 100000 in
theorem m_J0_length_8abf5 (l : Launch) : q_M l yJ0_length_8abf5 cJ0_length_8abf5 1 (some .int) 1 20 sp_J0_length_8abf5 := by
  refine q_meth (by decide) (fun av w Q h => by obtain ⟨i, rfl, rfl, hi, hQ⟩ := h; exact Nat.le_of_ble_eq_true rfl) ?_
  intro p e R s m args below meth c dC dI k g A av w Q hsp oka okw X
  obtain ⟨i, rfl, rfl, hi, hQ⟩ := hsp
  refine s_mono (s_J0_length_8abf5_0 X (J := fun _ _ _ _ => False) (fun d => s_cutF)) ?_
  rintro lv st w' ⟨rfl, rfl, rfl⟩
  refine Exists.intro i (And.intro rfl (And.intro hi ?_))
  refine Exists.intro i (And.intro rfl (And.intro hi ?_))
  refine Exists.intro i (Exists.intro [] (And.intro hi (And.intro rfl (And.intro (fun v hv => by cases hv) (And.intro rfl ?_)))))
  refine Exists.intro _ (And.intro rfl (And.intro rfl (And.intro (by first | omega | assumption | exact q_rg_up (by assumption) (by omega) | exact q_rg_up (q_rg_up (by assumption) (by omega)) (by omega) | exact q_rg_cpy (by assumption) (by assumption)) (?_))))
  intro z6 h6
  intro v6 e6
  cases e6
  intro z9 h9
  have e9 := q_shr0 i z6 z9 hi h6 h9
  exact hQ _ (by first | omega | assumption | exact q_rg_up (by assumption) (by omega) | exact q_rg_up (q_rg_up (by assumption) (by omega)) (by omega) | exact q_rg_cpy (by assumption) (by assumption))

theorem dJ3_checkIndex_8e157_0 : decode cJ3_checkIndex_8e157 0 = .ok (.iload_n 0, 1) := by decide +kernel
theorem dJ3_checkIndex_8e157_1 : decode cJ3_checkIndex_8e157 1 = .ok (.ifCond .lt 8, 3) := by decide +kernel
theorem dJ3_checkIndex_8e157_4 : decode cJ3_checkIndex_8e157 4 = .ok (.iload_n 0, 1) := by decide +kernel
theorem dJ3_checkIndex_8e157_5 : decode cJ3_checkIndex_8e157 5 = .ok (.iload_n 1, 1) := by decide +kernel
theorem dJ3_checkIndex_8e157_6 : decode cJ3_checkIndex_8e157 6 = .ok (.if_icmp .lt 10, 3) := by decide +kernel
theorem dJ3_checkIndex_8e157_16 : decode cJ3_checkIndex_8e157 16 = .ok (.iload_n 0, 1) := by decide +kernel
theorem dJ3_checkIndex_8e157_17 : decode cJ3_checkIndex_8e157 17 = .ok (.ireturn, 1) := by decide +kernel
def is_J3_checkIndex_8e157 : Nat → List Nat := fun d => []
set_option maxRecDepth 100000 in
def b_J3_checkIndex_8e157_9 (J : Nat → List qV → List qV → qW → Prop) (Q : qR) : qK := q_F
set_option maxRecDepth 100000 in
theorem s_J3_checkIndex_8e157_9 {p : Program} {l : Launch} {e : Env} {R : Room} {s : State} {m : MethodId} {args : Array Value} {below : List Frame} {meth : Method} {c : Code} {nW : Nat} {dC : Nat → ClassId} {dI : Nat → Nat → Nat} {k : Nat → ClassId} {g : Nat → Nat} {A : Nat → Prop} {J : Nat → List qV → List qV → qW → Prop} {Q : qR} (X : q_X p R s m args meth c cJ3_checkIndex_8e157 3 nW 0 0 RJ3 (some .int) dC dI k g A) (hJ : ∀ d : Nat, q_Sd p l e R s m args below meth c 3 nW dC dI k g A (MQ below (q_post (dC, dI) k g nW Q A) args s 0 0 A) d (x_cut (is_J3_checkIndex_8e157 d) (J d))) : q_Sd p l e R s m args below meth c 3 nW dC dI k g A (MQ below (q_post (dC, dI) k g nW Q A) args s 0 0 A) 9 (b_J3_checkIndex_8e157_9 J Q) := by
  unfold b_J3_checkIndex_8e157_9
  exact s_F
set_option maxRecDepth 100000 in
def b_J3_checkIndex_8e157_0 (J : Nat → List qV → List qV → qW → Prop) (Q : qR) : qK := x_iload 0 (x_if_lt (b_J3_checkIndex_8e157_9 J Q) (x_iload 0 (x_iload 1 (x_icmp_lt (x_iload 0 (x_iret Q)) (b_J3_checkIndex_8e157_9 J Q)))))
set_option maxRecDepth 100000 in
theorem s_J3_checkIndex_8e157_0 {p : Program} {l : Launch} {e : Env} {R : Room} {s : State} {m : MethodId} {args : Array Value} {below : List Frame} {meth : Method} {c : Code} {nW : Nat} {dC : Nat → ClassId} {dI : Nat → Nat → Nat} {k : Nat → ClassId} {g : Nat → Nat} {A : Nat → Prop} {J : Nat → List qV → List qV → qW → Prop} {Q : qR} (X : q_X p R s m args meth c cJ3_checkIndex_8e157 3 nW 0 0 RJ3 (some .int) dC dI k g A) (hJ : ∀ d : Nat, q_Sd p l e R s m args below meth c 3 nW dC dI k g A (MQ below (q_post (dC, dI) k g nW Q A) args s 0 0 A) d (x_cut (is_J3_checkIndex_8e157 d) (J d))) : q_Sd p l e R s m args below meth c 3 nW dC dI k g A (MQ below (q_post (dC, dI) k g nW Q A) args s 0 0 A) 0 (b_J3_checkIndex_8e157_0 J Q) := by
  unfold b_J3_checkIndex_8e157_0
  refine s_iload_n X rfl dJ3_checkIndex_8e157_0 ?_
  refine s_if_lt X (tgt := 9) dJ3_checkIndex_8e157_1 (by decide) ?_ ?_
  · exact s_J3_checkIndex_8e157_9 X hJ
  · refine s_iload_n X rfl dJ3_checkIndex_8e157_4 ?_
    refine s_iload_n X rfl dJ3_checkIndex_8e157_5 ?_
    refine s_icmp_lt X (tgt := 16) dJ3_checkIndex_8e157_6 (by decide) ?_ ?_
    · refine s_iload_n X rfl dJ3_checkIndex_8e157_16 ?_
      exact s_iret X dJ3_checkIndex_8e157_17
    · exact s_J3_checkIndex_8e157_9 X hJ

def spr_J3_checkIndex_8e157 : List qV → qW → (Option qV → Prop) → Prop := fun av w Q => ∃ (a : Int) (b : Int) (rr : Option Nat), av = [q1 a, q1 b, .inr (.inr rr)] ∧ w = [] ∧ (0 ≤ a ∧ a < b) ∧ (∀ (r : Int) , Q (some (q1 r)))
def sp_J3_checkIndex_8e157 : qS := fun av w Q => spr_J3_checkIndex_8e157 av w (fun r => Q r w)
set_option maxHeartbeats 4000000 in
set_option maxRecDepth 100000 in
theorem m_J3_checkIndex_8e157 (l : Launch) : q_M l yJ3_checkIndex_8e157 cJ3_checkIndex_8e157 3 (some .int) 0 0 sp_J3_checkIndex_8e157 := by
  refine q_meth (by decide) (fun av w Q h => by obtain ⟨a, b, rr, rfl, rfl, hab, hQ⟩ := h; exact Nat.le_of_ble_eq_true rfl) ?_
  intro p e R s m args below meth c dC dI k g A av w Q hsp oka okw X
  obtain ⟨a, b, rr, rfl, rfl, hab, hQ⟩ := hsp
  have o_a : -2147483648 ≤ a ∧ a ≤ 2147483647 := oka _ (List.mem_of_getElem? (i := 0) rfl)
  have o_b : -2147483648 ≤ b ∧ b ≤ 2147483647 := oka _ (List.mem_of_getElem? (i := 1) rfl)
  refine s_mono (s_J3_checkIndex_8e157_0 X (J := fun _ _ _ _ => False) (fun d => s_cutF)) ?_
  rintro lv st w' ⟨rfl, rfl, rfl⟩
  apply And.intro
  · intro h1
    exfalso; omega
  · intro h1
    apply And.intro
    · intro h6
      exact hQ _
    · intro h6
      exfalso; omega

theorem dJ0_checkIndex_df160_0 : decode cJ0_checkIndex_df160 0 = .ok (.iload_n 0, 1) := by decide +kernel
theorem dJ0_checkIndex_df160_1 : decode cJ0_checkIndex_df160 1 = .ok (.iload_n 1, 1) := by decide +kernel
theorem dJ0_checkIndex_df160_2 : decode cJ0_checkIndex_df160 2 = .ok (.getstatic 1053, 3) := by decide +kernel
theorem dJ0_checkIndex_df160_5 : decode cJ0_checkIndex_df160 5 = .ok (.invokestatic 1059, 3) := by decide +kernel
theorem dJ0_checkIndex_df160_8 : decode cJ0_checkIndex_df160 8 = .ok (.pop, 1) := by decide +kernel
theorem dJ0_checkIndex_df160_9 : decode cJ0_checkIndex_df160 9 = .ok (.return_, 1) := by decide +kernel
def is_J0_checkIndex_df160 : Nat → List Nat := fun d => []
set_option maxRecDepth 100000 in
def b_J0_checkIndex_df160_0 (J : Nat → List qV → List qV → qW → Prop) (Q : qR) : qK := x_iload 0 (x_iload 1 (x_gsio (x_callr none 3 spr_J3_checkIndex_8e157 (x_pop (x_vret Q)))))
set_option maxRecDepth 100000 in
theorem s_J0_checkIndex_df160_0 {p : Program} {l : Launch} {e : Env} {R : Room} {s : State} {m : MethodId} {args : Array Value} {below : List Frame} {meth : Method} {c : Code} {nW : Nat} {dC : Nat → ClassId} {dI : Nat → Nat → Nat} {k : Nat → ClassId} {g : Nat → Nat} {A : Nat → Prop} {J : Nat → List qV → List qV → qW → Prop} {Q : qR} (X : q_X p R s m args meth c cJ0_checkIndex_df160 2 nW 1 22 RJ0 none dC dI k g A) (hJ : ∀ d : Nat, q_Sd p l e R s m args below meth c 2 nW dC dI k g A (MQ below (q_post (dC, dI) k g nW Q A) args s 0 0 A) d (x_cut (is_J0_checkIndex_df160 d) (J d))) : q_Sd p l e R s m args below meth c 2 nW dC dI k g A (MQ below (q_post (dC, dI) k g nW Q A) args s 0 0 A) 0 (b_J0_checkIndex_df160_0 J Q) := by
  unfold b_J0_checkIndex_df160_0
  refine s_iload_n X rfl dJ0_checkIndex_df160_0 ?_
  refine s_iload_n X rfl dJ0_checkIndex_df160_1 ?_
  refine s_gsio X tw_437 dJ0_checkIndex_df160_2 ?_
  refine s_callSr X (m_J3_checkIndex_8e157 l) tw_438 tw_439 tw_138 tw_440 (by decide +kernel) ⟨by decide, by decide⟩ dJ0_checkIndex_df160_5 ?_
  refine s_pop X dJ0_checkIndex_df160_8 ?_
  exact s_vret X dJ0_checkIndex_df160_9

def spr_J0_checkIndex_df160 : List qV → qW → (Option qV → Prop) → Prop := fun av w Q => ∃ (a : Int) (b : Int), av = [q1 a, q1 b] ∧ w = [] ∧ (0 ≤ a ∧ a < b) ∧ (Q none)
def sp_J0_checkIndex_df160 : qS := fun av w Q => spr_J0_checkIndex_df160 av w (fun r => Q r w)
set_option maxHeartbeats 4000000 in
set_option maxRecDepth 100000 in
theorem m_J0_checkIndex_df160 (l : Launch) : q_M l yJ0_checkIndex_df160 cJ0_checkIndex_df160 2 none 1 22 sp_J0_checkIndex_df160 := by
  refine q_meth (by decide) (fun av w Q h => by obtain ⟨a, b, rfl, rfl, hab, hQ⟩ := h; exact Nat.le_of_ble_eq_true rfl) ?_
  intro p e R s m args below meth c dC dI k g A av w Q hsp oka okw X
  obtain ⟨a, b, rfl, rfl, hab, hQ⟩ := hsp
  have o_a : -2147483648 ≤ a ∧ a ≤ 2147483647 := oka _ (List.mem_of_getElem? (i := 0) rfl)
  have o_b : -2147483648 ≤ b ∧ b ≤ 2147483647 := oka _ (List.mem_of_getElem? (i := 1) rfl)
  refine s_mono (s_J0_checkIndex_df160_0 X (J := fun _ _ _ _ => False) (fun d => s_cutF)) ?_
  rintro lv st w' ⟨rfl, rfl, rfl⟩
  apply And.intro
  · refine Exists.intro [] (Exists.intro [q1 _, q1 _, .inr (.inr none)] (Exists.intro [] (And.intro rfl (And.intro rfl (And.intro rfl (And.intro trivial ?_))))))
    refine Exists.intro _ (Exists.intro _ (Exists.intro _ (And.intro rfl (And.intro rfl (And.intro (by first | omega | assumption | exact q_rg_up (by assumption) (by omega) | exact q_rg_up (q_rg_up (by assumption) (by omega)) (by omega) | exact q_rg_cpy (by assumption) (by assumption)) (?_))))))
    intro z5
    exact hQ
  · refine Exists.intro [] (Exists.intro [q1 _, q1 _, .inr (.inr (some 2200))] (Exists.intro [] (And.intro rfl (And.intro rfl (And.intro rfl (And.intro trivial ?_))))))
    refine Exists.intro _ (Exists.intro _ (Exists.intro _ (And.intro rfl (And.intro rfl (And.intro (by first | omega | assumption | exact q_rg_up (by assumption) (by omega) | exact q_rg_up (q_rg_up (by assumption) (by omega)) (by omega) | exact q_rg_cpy (by assumption) (by assumption)) (?_))))))
    intro z5
    exact hQ

theorem dJ1_charAt_3b067_0 : decode cJ1_charAt_3b067 0 = .ok (.iload_n 1, 1) := by decide +kernel
theorem dJ1_charAt_3b067_1 : decode cJ1_charAt_3b067 1 = .ok (.aload_n 0, 1) := by decide +kernel
theorem dJ1_charAt_3b067_2 : decode cJ1_charAt_3b067 2 = .ok (.arraylength, 1) := by decide +kernel
theorem dJ1_charAt_3b067_3 : decode cJ1_charAt_3b067 3 = .ok (.invokestatic 9, 3) := by decide +kernel
theorem dJ1_charAt_3b067_6 : decode cJ1_charAt_3b067 6 = .ok (.aload_n 0, 1) := by decide +kernel
theorem dJ1_charAt_3b067_7 : decode cJ1_charAt_3b067 7 = .ok (.iload_n 1, 1) := by decide +kernel
theorem dJ1_charAt_3b067_8 : decode cJ1_charAt_3b067 8 = .ok (.baload, 1) := by decide +kernel
theorem dJ1_charAt_3b067_9 : decode cJ1_charAt_3b067 9 = .ok (.sipush 255, 3) := by decide +kernel
theorem dJ1_charAt_3b067_12 : decode cJ1_charAt_3b067 12 = .ok (.iand, 1) := by decide +kernel
theorem dJ1_charAt_3b067_13 : decode cJ1_charAt_3b067 13 = .ok (.i2c, 1) := by decide +kernel
theorem dJ1_charAt_3b067_14 : decode cJ1_charAt_3b067 14 = .ok (.ireturn, 1) := by decide +kernel
def is_J1_charAt_3b067 : Nat → List Nat := fun d => []
set_option maxRecDepth 100000 in
def b_J1_charAt_3b067_0 (J : Nat → List qV → List qV → qW → Prop) (Q : qR) : qK := x_iload 1 (x_aload 0 (x_tlen (x_callr none 2 spr_J0_checkIndex_df160 (x_aload 0 (x_iload 1 (x_tald (x_int 255 (x_iand (x_i2c (x_cret Q))))))))))
set_option maxRecDepth 100000 in
theorem s_J1_charAt_3b067_0 {p : Program} {l : Launch} {e : Env} {R : Room} {s : State} {m : MethodId} {args : Array Value} {below : List Frame} {meth : Method} {c : Code} {nW : Nat} {dC : Nat → ClassId} {dI : Nat → Nat → Nat} {k : Nat → ClassId} {g : Nat → Nat} {A : Nat → Prop} {J : Nat → List qV → List qV → qW → Prop} {Q : qR} (X : q_X p R s m args meth c cJ1_charAt_3b067 2 nW 2 43 RJ1 (some .char) dC dI k g A) (hJ : ∀ d : Nat, q_Sd p l e R s m args below meth c 2 nW dC dI k g A (MQ below (q_post (dC, dI) k g nW Q A) args s 0 0 A) d (x_cut (is_J1_charAt_3b067 d) (J d))) : q_Sd p l e R s m args below meth c 2 nW dC dI k g A (MQ below (q_post (dC, dI) k g nW Q A) args s 0 0 A) 0 (b_J1_charAt_3b067_0 J Q) := by
  unfold b_J1_charAt_3b067_0
  refine s_iload_n X rfl dJ1_charAt_3b067_0 ?_
  refine s_aload_n X rfl dJ1_charAt_3b067_1 ?_
  refine s_tlen X dJ1_charAt_3b067_2 ?_
  refine s_callSr X (m_J0_checkIndex_df160 l) tw_434 tw_435 tw_136 tw_436 (by decide +kernel) ⟨by decide, by decide⟩ dJ1_charAt_3b067_3 ?_
  refine s_aload_n X rfl dJ1_charAt_3b067_6 ?_
  refine s_iload_n X rfl dJ1_charAt_3b067_7 ?_
  refine s_tald X dJ1_charAt_3b067_8 ?_
  refine s_sipush X ⟨by decide, by decide⟩ (by decide) dJ1_charAt_3b067_9 ?_
  refine s_iand X dJ1_charAt_3b067_12 ?_
  refine s_i2c X dJ1_charAt_3b067_13 ?_
  exact s_cret X dJ1_charAt_3b067_14

def spr_J1_charAt_3b067 : List qV → qW → (Option qV → Prop) → Prop := fun av w Q => ∃ (i : Nat) (a : Int), av = [q2 (i + 2100), q1 a] ∧ w = [] ∧ (i < 21) ∧ (0 ≤ a ∧ a < (qTn.getD i 0 : Nat)) ∧ (∀ (r : Int) , 0 ≤ r ∧ r ≤ 127 → Q (some (q1 r)))
def sp_J1_charAt_3b067 : qS := fun av w Q => spr_J1_charAt_3b067 av w (fun r => Q r w)
set_option maxHeartbeats 4000000 in
set_option maxRecDepth 100000 in
theorem m_J1_charAt_3b067 (l : Launch) : q_M l yJ1_charAt_3b067 cJ1_charAt_3b067 2 (some .char) 2 43 sp_J1_charAt_3b067 := by
  refine q_meth (by decide) (fun av w Q h => by obtain ⟨i, a, rfl, rfl, hi, ha, hQ⟩ := h; exact Nat.le_of_ble_eq_true rfl) ?_
  intro p e R s m args below meth c dC dI k g A av w Q hsp oka okw X
  obtain ⟨i, a, rfl, rfl, hi, ha, hQ⟩ := hsp
  have o_a : -2147483648 ≤ a ∧ a ≤ 2147483647 := oka _ (List.mem_of_getElem? (i := 1) rfl)
  refine s_mono (s_J1_charAt_3b067_0 X (J := fun _ _ _ _ => False) (fun d => s_cutF)) ?_
  rintro lv st w' ⟨rfl, rfl, rfl⟩
  refine Exists.intro i (And.intro rfl (And.intro hi ?_))
  refine Exists.intro [] (Exists.intro [q1 _, q1 _] (Exists.intro [] (And.intro rfl (And.intro rfl (And.intro rfl (And.intro trivial ?_))))))
  refine Exists.intro _ (Exists.intro _ (And.intro rfl (And.intro rfl (And.intro (by first | omega | assumption | exact q_rg_up (by assumption) (by omega) | exact q_rg_up (q_rg_up (by assumption) (by omega)) (by omega) | exact q_rg_cpy (by assumption) (by assumption)) (?_)))))
  refine Exists.intro i (And.intro rfl (And.intro hi (And.intro ⟨by omega, by omega⟩ ?_)))
  intro z8 h8
  have l9 : qTn.getD i 0 < 100 := qTn_lt ⟨i, hi⟩
  have e8 := qTb_at i hi (by omega) h8
  intro z12 h12
  replace h12 := e_and h12 (by omega) (by omega)
  intro z13 h13
  replace h13 := e_i2c h13 (by omega)
  apply And.intro
  · omega
  exact hQ _ (by first | omega | assumption | exact q_rg_up (by assumption) (by omega) | exact q_rg_up (q_rg_up (by assumption) (by omega)) (by omega) | exact q_rg_cpy (by assumption) (by assumption))

theorem dJ0_charAt_5068e_0 : decode cJ0_charAt_5068e 0 = .ok (.aload_n 0, 1) := by decide +kernel
theorem dJ0_charAt_5068e_1 : decode cJ0_charAt_5068e 1 = .ok (.invokevirtual 492, 3) := by decide +kernel
theorem dJ0_charAt_5068e_4 : decode cJ0_charAt_5068e 4 = .ok (.ifCond .eq 12, 3) := by decide +kernel
theorem dJ0_charAt_5068e_7 : decode cJ0_charAt_5068e 7 = .ok (.aload_n 0, 1) := by decide +kernel
theorem dJ0_charAt_5068e_8 : decode cJ0_charAt_5068e 8 = .ok (.getfield 9, 3) := by decide +kernel
theorem dJ0_charAt_5068e_11 : decode cJ0_charAt_5068e 11 = .ok (.iload_n 1, 1) := by decide +kernel
theorem dJ0_charAt_5068e_12 : decode cJ0_charAt_5068e 12 = .ok (.invokestatic 495, 3) := by decide +kernel
theorem dJ0_charAt_5068e_15 : decode cJ0_charAt_5068e 15 = .ok (.ireturn, 1) := by decide +kernel
def is_J0_charAt_5068e : Nat → List Nat := fun d => []
set_option maxRecDepth 100000 in
def b_J0_charAt_5068e_0 (J : Nat → List qV → List qV → qW → Prop) (Q : qR) : qK := x_aload 0 (x_callt 1 spr_J0_isLatin1_aae02 (x_if_eq (q_F) (x_aload 0 (x_sval (x_iload 1 (x_callr none 2 spr_J1_charAt_3b067 (x_cret Q)))))))
set_option maxRecDepth 100000 in
theorem s_J0_charAt_5068e_0 {p : Program} {l : Launch} {e : Env} {R : Room} {s : State} {m : MethodId} {args : Array Value} {below : List Frame} {meth : Method} {c : Code} {nW : Nat} {dC : Nat → ClassId} {dI : Nat → Nat → Nat} {k : Nat → ClassId} {g : Nat → Nat} {A : Nat → Prop} {J : Nat → List qV → List qV → qW → Prop} {Q : qR} (X : q_X p R s m args meth c cJ0_charAt_5068e 2 nW 3 64 RJ0 (some .char) dC dI k g A) (hJ : ∀ d : Nat, q_Sd p l e R s m args below meth c 2 nW dC dI k g A (MQ below (q_post (dC, dI) k g nW Q A) args s 0 0 A) d (x_cut (is_J0_charAt_5068e d) (J d))) : q_Sd p l e R s m args below meth c 2 nW dC dI k g A (MQ below (q_post (dC, dI) k g nW Q A) args s 0 0 A) 0 (b_J0_charAt_5068e_0 J Q) := by
  unfold b_J0_charAt_5068e_0
  refine s_aload_n X rfl dJ0_charAt_5068e_0 ?_
  refine s_callt X (m_J0_isLatin1_aae02 l) mo_J0_isLatin1_aae02 so_J0_isLatin1_aae02 rfl tw_427 tw_428 tw_429 tw_136 tw_430 (by decide +kernel) ⟨by decide, by decide⟩ dJ0_charAt_5068e_1 ?_
  refine s_if_eq X (tgt := 16) dJ0_charAt_5068e_4 (by decide) ?_ ?_
  · exact s_F
  · refine s_aload_n X rfl dJ0_charAt_5068e_7 ?_
    refine s_sval X tw_1483 dJ0_charAt_5068e_8 ?_
    refine s_iload_n X rfl dJ0_charAt_5068e_11 ?_
    refine s_callSr X (m_J1_charAt_3b067 l) tw_431 tw_432 tw_137 tw_433 (by decide +kernel) ⟨by decide, by decide⟩ dJ0_charAt_5068e_12 ?_
    exact s_cret X dJ0_charAt_5068e_15

def spr_J0_charAt_5068e : List qV → qW → (Option qV → Prop) → Prop := fun av w Q => ∃ (i : Nat) (a : Int), av = [q2 (i + 2000), q1 a] ∧ w = [] ∧ (i < 21) ∧ (0 ≤ a ∧ a < (qTn.getD i 0 : Nat)) ∧ (∀ (r : Int) , 0 ≤ r ∧ r ≤ 127 → Q (some (q1 r)))
def sp_J0_charAt_5068e : qS := fun av w Q => spr_J0_charAt_5068e av w (fun r => Q r w)
theorem mo_J0_charAt_5068e : ∀ (av : List qV) (w : qW) (P P' : Option qV → Prop), (∀ r, P r → P' r) → spr_J0_charAt_5068e av w P → spr_J0_charAt_5068e av w P' := by
  intro av w P P' hP h
  obtain ⟨i, a, e1, e2, hi, ha, hQ⟩ := h
  exact ⟨i, a, e1, e2, hi, ha, fun r hr => hP _ (hQ r hr)⟩
theorem so_J0_charAt_5068e : ∀ (av : List qV) (w : qW) (P : Option qV → Prop), spr_J0_charAt_5068e av w P → spr_J0_charAt_5068e av w (fun r => P r ∧ ∃ z : Int, r = some (.inl z)) := by
  intro av w P h
  obtain ⟨i, a, e1, e2, hi, ha, hQ⟩ := h
  exact ⟨i, a, e1, e2, hi, ha, fun r hr => ⟨hQ r hr, r, rfl⟩⟩
set_option maxHeartbeats 4000000 in
set_option maxRecDepth 100000 in
theorem m_J0_charAt_5068e (l : Launch) : q_M l yJ0_charAt_5068e cJ0_charAt_5068e 2 (some .char) 3 64 sp_J0_charAt_5068e := by
  refine q_meth (by decide) (fun av w Q h => by obtain ⟨i, a, rfl, rfl, hi, ha, hQ⟩ := h; exact Nat.le_of_ble_eq_true rfl) ?_
  intro p e R s m args below meth c dC dI k g A av w Q hsp oka okw X
  obtain ⟨i, a, rfl, rfl, hi, ha, hQ⟩ := hsp
  have o_a : -2147483648 ≤ a ∧ a ≤ 2147483647 := oka _ (List.mem_of_getElem? (i := 1) rfl)
  refine s_mono (s_J0_charAt_5068e_0 X (J := fun _ _ _ _ => False) (fun d => s_cutF)) ?_
  rintro lv st w' ⟨rfl, rfl, rfl⟩
  refine Exists.intro i (Exists.intro [] (And.intro hi (And.intro rfl (And.intro (fun v hv => by cases hv) (And.intro rfl ?_)))))
  refine Exists.intro _ (And.intro rfl (And.intro rfl (And.intro (by first | omega | assumption | exact q_rg_up (by assumption) (by omega) | exact q_rg_up (q_rg_up (by assumption) (by omega)) (by omega) | exact q_rg_cpy (by assumption) (by assumption)) (?_))))
  intro z1 h1
  intro v1 e1
  cases e1
  apply And.intro
  · intro h4
    exfalso; omega
  · intro h4
    refine Exists.intro i (And.intro rfl (And.intro hi ?_))
    refine Exists.intro [] (Exists.intro [q2 (_ + 2100), q1 _] (Exists.intro [] (And.intro rfl (And.intro rfl (And.intro rfl (And.intro trivial ?_))))))
    refine Exists.intro _ (Exists.intro _ (And.intro rfl (And.intro rfl (And.intro (by first | omega | assumption | exact q_rg_up (by assumption) (by omega) | exact q_rg_up (q_rg_up (by assumption) (by omega)) (by omega) | exact q_rg_cpy (by assumption) (by assumption)) (And.intro (by first | omega | assumption | exact q_rg_up (by assumption) (by omega) | exact q_rg_up (q_rg_up (by assumption) (by omega)) (by omega) | exact q_rg_cpy (by assumption) (by assumption)) (?_))))))
    intro z12 h12
    apply And.intro
    · omega
    exact hQ _ (by first | omega | assumption | exact q_rg_up (by assumption) (by omega) | exact q_rg_up (q_rg_up (by assumption) (by omega)) (by omega) | exact q_rg_cpy (by assumption) (by assumption))
