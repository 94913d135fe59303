theorem dX6_note_0 : decode cX6_note 0 = .ok (.aload_n 0, 1) := by decide +kernel
theorem dX6_note_1 : decode cX6_note 1 = .ok (.getfield 69, 3) := by decide +kernel
theorem dX6_note_4 : decode cX6_note 4 = .ok (.ifCond .ne 13, 3) := by decide +kernel
theorem dX6_note_7 : decode cX6_note 7 = .ok (.aload_n 0, 1) := by decide +kernel
theorem dX6_note_8 : decode cX6_note 8 = .ok (.iload_n 1, 1) := by decide +kernel
theorem dX6_note_9 : decode cX6_note 9 = .ok (.putfield 69, 3) := by decide +kernel
theorem dX6_note_12 : decode cX6_note 12 = .ok (.aload_n 0, 1) := by decide +kernel
theorem dX6_note_13 : decode cX6_note 13 = .ok (.iload_n 2, 1) := by decide +kernel
theorem dX6_note_14 : decode cX6_note 14 = .ok (.putfield 75, 3) := by decide +kernel
theorem dX6_note_17 : decode cX6_note 17 = .ok (.return_, 1) := by decide +kernel
def is_X6_note : Nat → List Nat := fun d => []
set_option maxRecDepth 100000 in
def b_X6_note_17 (J : Nat → List qV → List qV → qW → Prop) (Q : qR) : qK := x_vret Q
set_option maxRecDepth 100000 in
theorem s_X6_note_17 {p : Program} {l : Launch} {e : Env} {R : Room} {s : State} {m : MethodId} {args : Array Value} {below : List Frame} {meth : Method} {c : Code} {nW : Nat} {dC : Nat → ClassId} {dI : Nat → Nat → Nat} {k : Nat → ClassId} {g : Nat → Nat} {A : Nat → Prop} {J : Nat → List qV → List qV → qW → Prop} {Q : qR} (X : q_X p R s m args meth c cX6_note 3 nW 0 0 RX6 none dC dI k g A) (hJ : ∀ d : Nat, q_Sd p l e R s m args below meth c 3 nW dC dI k g A (MQ below (q_post (dC, dI) k g nW Q A) args s 0 0 A) d (x_cut (is_X6_note d) (J d))) : q_Sd p l e R s m args below meth c 3 nW dC dI k g A (MQ below (q_post (dC, dI) k g nW Q A) args s 0 0 A) 17 (b_X6_note_17 J Q) := by
  unfold b_X6_note_17
  exact s_vret X dX6_note_17
set_option maxRecDepth 100000 in
def b_X6_note_0 (J : Nat → List qV → List qV → qW → Prop) (Q : qR) : qK := x_aload 0 (x_get 6 7 (x_if_ne (b_X6_note_17 J Q) (x_aload 0 (x_iload 1 (x_put 6 7 q_oki (x_nw (x_aload 0 (x_iload 2 (x_put 6 8 q_oki (x_nw (b_X6_note_17 J Q)))))))))))
set_option maxRecDepth 100000 in
theorem s_X6_note_0 {p : Program} {l : Launch} {e : Env} {R : Room} {s : State} {m : MethodId} {args : Array Value} {below : List Frame} {meth : Method} {c : Code} {nW : Nat} {dC : Nat → ClassId} {dI : Nat → Nat → Nat} {k : Nat → ClassId} {g : Nat → Nat} {A : Nat → Prop} {J : Nat → List qV → List qV → qW → Prop} {Q : qR} (X : q_X p R s m args meth c cX6_note 3 nW 0 0 RX6 none dC dI k g A) (hJ : ∀ d : Nat, q_Sd p l e R s m args below meth c 3 nW dC dI k g A (MQ below (q_post (dC, dI) k g nW Q A) args s 0 0 A) d (x_cut (is_X6_note d) (J d))) : q_Sd p l e R s m args below meth c 3 nW dC dI k g A (MQ below (q_post (dC, dI) k g nW Q A) args s 0 0 A) 0 (b_X6_note_0 J Q) := by
  unfold b_X6_note_0
  refine s_aload_n X rfl dX6_note_0 ?_
  refine s_get X (T := TX6) (C := RX6) (N := 15) tu_X6 rfl (by decide) tw_278 dX6_note_1 ?_
  refine s_if_ne X (tgt := 17) dX6_note_4 (by decide) ?_ ?_
  · exact s_X6_note_17 X hJ
  · refine s_aload_n X rfl dX6_note_7 ?_
    refine s_iload_n X rfl dX6_note_8 ?_
    refine s_put X (T := TX6) (C := RX6) (N := 15) tu_X6 tyX6_ok nmX6 rfl (by decide) tw_278 rfl (by decide +kernel) q_oki_t dX6_note_9 ?_
    refine s_nw ?_
    refine s_aload_n X rfl dX6_note_12 ?_
    refine s_iload_n X rfl dX6_note_13 ?_
    refine s_put X (T := TX6) (C := RX6) (N := 15) tu_X6 tyX6_ok nmX6 rfl (by decide) tw_280 rfl (by decide +kernel) q_oki_t dX6_note_14 ?_
    refine s_nw ?_
    exact s_X6_note_17 X hJ

def sp_X6_note : qS := fun av w Q => ∃ (rln : Int) (rfa : Int) (rpl : Int) (rst : Int) (rnx : Int) (rtk : Int) (rnm : Int) (rnp : Int) (rnd : Int) (a : Int) (b : Int), av = [q2 0, q1 a, q1 b] ∧ w = [.inr (6, [q2 1, q2 2, q2 3, q2 4, q2 5, q2 6, q1 rln, q1 rfa, q1 rpl, q1 rst, q1 rnx, q1 rtk, q1 rnm, q1 rnp, q1 rnd])] ∧ (∀ (x_rfa : Int) (x_rpl : Int), ((rfa = 0 → x_rfa = a) ∧ (¬ rfa = 0 → x_rfa = rfa)) → Q none ([.inr (6, [q2 1, q2 2, q2 3, q2 4, q2 5, q2 6, q1 rln, q1 x_rfa, q1 x_rpl, q1 rst, q1 rnx, q1 rtk, q1 rnm, q1 rnp, q1 rnd])]))
set_option maxHeartbeats 4000000 in
set_option maxRecDepth 100000 in
theorem m_X6_note (l : Launch) : q_M l yX6_note cX6_note 3 none 0 0 sp_X6_note := by
  refine q_meth (by decide) (fun av w Q h => by obtain ⟨rln, rfa, rpl, rst, rnx, rtk, rnm, rnp, rnd, a, b, rfl, rfl, hQ⟩ := h; exact Nat.le_of_ble_eq_true rfl) ?_
  intro p e R s m args below meth c dC dI k g A av w Q hsp oka okw X
  obtain ⟨rln, rfa, rpl, rst, rnx, rtk, rnm, rnp, rnd, a, b, rfl, rfl, hQ⟩ := hsp
  have o_a : -2147483648 ≤ a ∧ a ≤ 2147483647 := oka _ (List.mem_of_getElem? (i := 1) rfl)
  have o_b : -2147483648 ≤ b ∧ b ≤ 2147483647 := oka _ (List.mem_of_getElem? (i := 2) rfl)
  refine s_mono (s_X6_note_0 X (J := fun _ _ _ _ => False) (fun d => s_cutF)) ?_
  rintro lv st w' ⟨rfl, rfl, rfl⟩
  apply And.intro
  · intro h4
    exact hQ _ _ (by first | omega | assumption | exact q_rg_up (by assumption) (by omega) | exact q_rg_up (q_rg_up (by assumption) (by omega)) (by omega) | exact q_rg_cpy (by assumption) (by assumption))
  · intro h4
    apply And.intro
    · exact trivial
    apply And.intro
    · exact trivial
    exact hQ _ _ (by first | omega | assumption | exact q_rg_up (by assumption) (by omega) | exact q_rg_up (q_rg_up (by assumption) (by omega)) (by omega) | exact q_rg_cpy (by assumption) (by assumption))

theorem dX6_byteAt_0 : decode cX6_byteAt 0 = .ok (.iload_n 1, 1) := by decide +kernel
theorem dX6_byteAt_1 : decode cX6_byteAt 1 = .ok (.ifCond .lt 33, 3) := by decide +kernel
theorem dX6_byteAt_4 : decode cX6_byteAt 4 = .ok (.iload_n 1, 1) := by decide +kernel
theorem dX6_byteAt_5 : decode cX6_byteAt 5 = .ok (.aload_n 0, 1) := by decide +kernel
theorem dX6_byteAt_6 : decode cX6_byteAt 6 = .ok (.getfield 51, 3) := by decide +kernel
theorem dX6_byteAt_9 : decode cX6_byteAt 9 = .ok (.if_icmp .ge 25, 3) := by decide +kernel
theorem dX6_byteAt_12 : decode cX6_byteAt 12 = .ok (.iload_n 1, 1) := by decide +kernel
theorem dX6_byteAt_13 : decode cX6_byteAt 13 = .ok (.aload_n 0, 1) := by decide +kernel
theorem dX6_byteAt_14 : decode cX6_byteAt 14 = .ok (.getfield 43, 3) := by decide +kernel
theorem dX6_byteAt_17 : decode cX6_byteAt 17 = .ok (.arraylength, 1) := by decide +kernel
theorem dX6_byteAt_18 : decode cX6_byteAt 18 = .ok (.if_icmp .ge 16, 3) := by decide +kernel
theorem dX6_byteAt_21 : decode cX6_byteAt 21 = .ok (.aload_n 0, 1) := by decide +kernel
theorem dX6_byteAt_22 : decode cX6_byteAt 22 = .ok (.getfield 43, 3) := by decide +kernel
theorem dX6_byteAt_25 : decode cX6_byteAt 25 = .ok (.iload_n 1, 1) := by decide +kernel
theorem dX6_byteAt_26 : decode cX6_byteAt 26 = .ok (.baload, 1) := by decide +kernel
theorem dX6_byteAt_27 : decode cX6_byteAt 27 = .ok (.sipush 255, 3) := by decide +kernel
theorem dX6_byteAt_30 : decode cX6_byteAt 30 = .ok (.iand, 1) := by decide +kernel
theorem dX6_byteAt_31 : decode cX6_byteAt 31 = .ok (.goto 4, 3) := by decide +kernel
theorem dX6_byteAt_34 : decode cX6_byteAt 34 = .ok (.iconst 0, 1) := by decide +kernel
theorem dX6_byteAt_35 : decode cX6_byteAt 35 = .ok (.ireturn, 1) := by decide +kernel
def is_X6_byteAt : Nat → List Nat := fun d => []
set_option maxRecDepth 100000 in
def b_X6_byteAt_35 (J : Nat → List qV → List qV → qW → Prop) (Q : qR) : qK := x_iret Q
set_option maxRecDepth 100000 in
theorem s_X6_byteAt_35 {p : Program} {l : Launch} {e : Env} {R : Room} {s : State} {m : MethodId} {args : Array Value} {below : List Frame} {meth : Method} {c : Code} {nW : Nat} {dC : Nat → ClassId} {dI : Nat → Nat → Nat} {k : Nat → ClassId} {g : Nat → Nat} {A : Nat → Prop} {J : Nat → List qV → List qV → qW → Prop} {Q : qR} (X : q_X p R s m args meth c cX6_byteAt 2 nW 0 0 RX6 (some .int) dC dI k g A) (hJ : ∀ d : Nat, q_Sd p l e R s m args below meth c 2 nW dC dI k g A (MQ below (q_post (dC, dI) k g nW Q A) args s 0 0 A) d (x_cut (is_X6_byteAt d) (J d))) : q_Sd p l e R s m args below meth c 2 nW dC dI k g A (MQ below (q_post (dC, dI) k g nW Q A) args s 0 0 A) 35 (b_X6_byteAt_35 J Q) := by
  unfold b_X6_byteAt_35
  exact s_iret X dX6_byteAt_35
set_option maxRecDepth 100000 in
def b_X6_byteAt_34 (J : Nat → List qV → List qV → qW → Prop) (Q : qR) : qK := x_int 0 (b_X6_byteAt_35 J Q)
set_option maxRecDepth 100000 in
theorem s_X6_byteAt_34 {p : Program} {l : Launch} {e : Env} {R : Room} {s : State} {m : MethodId} {args : Array Value} {below : List Frame} {meth : Method} {c : Code} {nW : Nat} {dC : Nat → ClassId} {dI : Nat → Nat → Nat} {k : Nat → ClassId} {g : Nat → Nat} {A : Nat → Prop} {J : Nat → List qV → List qV → qW → Prop} {Q : qR} (X : q_X p R s m args meth c cX6_byteAt 2 nW 0 0 RX6 (some .int) dC dI k g A) (hJ : ∀ d : Nat, q_Sd p l e R s m args below meth c 2 nW dC dI k g A (MQ below (q_post (dC, dI) k g nW Q A) args s 0 0 A) d (x_cut (is_X6_byteAt d) (J d))) : q_Sd p l e R s m args below meth c 2 nW dC dI k g A (MQ below (q_post (dC, dI) k g nW Q A) args s 0 0 A) 34 (b_X6_byteAt_34 J Q) := by
  unfold b_X6_byteAt_34
  refine s_iconst X ⟨by decide, by decide⟩ dX6_byteAt_34 ?_
  exact s_X6_byteAt_35 X hJ
set_option maxRecDepth 100000 in
def b_X6_byteAt_0 (J : Nat → List qV → List qV → qW → Prop) (Q : qR) : qK := x_iload 1 (x_if_lt (b_X6_byteAt_34 J Q) (x_iload 1 (x_aload 0 (x_get 6 6 (x_icmp_ge (b_X6_byteAt_34 J Q) (x_iload 1 (x_aload 0 (x_get 6 5 (x_alen (x_icmp_ge (b_X6_byteAt_34 J Q) (x_aload 0 (x_get 6 5 (x_iload 1 (x_bald (x_int 255 (x_iand (b_X6_byteAt_35 J Q)))))))))))))))))
set_option maxRecDepth 100000 in
theorem s_X6_byteAt_0 {p : Program} {l : Launch} {e : Env} {R : Room} {s : State} {m : MethodId} {args : Array Value} {below : List Frame} {meth : Method} {c : Code} {nW : Nat} {dC : Nat → ClassId} {dI : Nat → Nat → Nat} {k : Nat → ClassId} {g : Nat → Nat} {A : Nat → Prop} {J : Nat → List qV → List qV → qW → Prop} {Q : qR} (X : q_X p R s m args meth c cX6_byteAt 2 nW 0 0 RX6 (some .int) dC dI k g A) (hJ : ∀ d : Nat, q_Sd p l e R s m args below meth c 2 nW dC dI k g A (MQ below (q_post (dC, dI) k g nW Q A) args s 0 0 A) d (x_cut (is_X6_byteAt d) (J d))) : q_Sd p l e R s m args below meth c 2 nW dC dI k g A (MQ below (q_post (dC, dI) k g nW Q A) args s 0 0 A) 0 (b_X6_byteAt_0 J Q) := by
  unfold b_X6_byteAt_0
  refine s_iload_n X rfl dX6_byteAt_0 ?_
  refine s_if_lt X (tgt := 34) dX6_byteAt_1 (by decide) ?_ ?_
  · exact s_X6_byteAt_34 X hJ
  · refine s_iload_n X rfl dX6_byteAt_4 ?_
    refine s_aload_n X rfl dX6_byteAt_5 ?_
    refine s_get X (T := TX6) (C := RX6) (N := 15) tu_X6 rfl (by decide) tw_277 dX6_byteAt_6 ?_
    refine s_icmp_ge X (tgt := 34) dX6_byteAt_9 (by decide) ?_ ?_
    · exact s_X6_byteAt_34 X hJ
    · refine s_iload_n X rfl dX6_byteAt_12 ?_
      refine s_aload_n X rfl dX6_byteAt_13 ?_
      refine s_get X (T := TX6) (C := RX6) (N := 15) tu_X6 rfl (by decide) tw_276 dX6_byteAt_14 ?_
      refine s_alen X dX6_byteAt_17 ?_
      refine s_icmp_ge X (tgt := 34) dX6_byteAt_18 (by decide) ?_ ?_
      · exact s_X6_byteAt_34 X hJ
      · refine s_aload_n X rfl dX6_byteAt_21 ?_
        refine s_get X (T := TX6) (C := RX6) (N := 15) tu_X6 rfl (by decide) tw_276 dX6_byteAt_22 ?_
        refine s_iload_n X rfl dX6_byteAt_25 ?_
        refine s_bald X dX6_byteAt_26 ?_
        refine s_sipush X ⟨by decide, by decide⟩ (by decide) dX6_byteAt_27 ?_
        refine s_iand X dX6_byteAt_30 ?_
        refine s_goto X (tgt := 35) dX6_byteAt_31 (by decide) ?_
        exact s_X6_byteAt_35 X hJ

def spr_X6_byteAt : List qV → qW → (Option qV → Prop) → Prop := fun av w Q => ∃ (rln : Int) (rfa : Int) (rpl : Int) (rst : Int) (rnx : Int) (rtk : Int) (rnm : Int) (rnp : Int) (rnd : Int) (tp : Nat → Int) (a : Int), av = [q2 0, q1 a] ∧ w = [.inr (6, [q2 2, q2 3, q2 4, q2 5, q2 6, q2 1, q1 rln, q1 rfa, q1 rpl, q1 rst, q1 rnx, q1 rtk, q1 rnm, q1 rnp, q1 rnd]), .inl (1, 600, .inl tp)] ∧ (∀ (r : Int) , 0 ≤ r ∧ r ≤ 255 → Q (some (q1 r)))
def sp_X6_byteAt : qS := fun av w Q => spr_X6_byteAt av w (fun r => Q r w)
set_option maxHeartbeats 4000000 in
set_option maxRecDepth 100000 in
theorem m_X6_byteAt (l : Launch) : q_M l yX6_byteAt cX6_byteAt 2 (some .int) 0 0 sp_X6_byteAt := by
  refine q_meth (by decide) (fun av w Q h => by obtain ⟨rln, rfa, rpl, rst, rnx, rtk, rnm, rnp, rnd, tp, a, rfl, rfl, hQ⟩ := h; exact Nat.le_of_ble_eq_true rfl) ?_
  intro p e R s m args below meth c dC dI k g A av w Q hsp oka okw X
  obtain ⟨rln, rfa, rpl, rst, rnx, rtk, rnm, rnp, rnd, tp, a, rfl, rfl, hQ⟩ := hsp
  have o_a : -2147483648 ≤ a ∧ a ≤ 2147483647 := oka _ (List.mem_of_getElem? (i := 1) rfl)
  refine s_mono (s_X6_byteAt_0 X (J := fun _ _ _ _ => False) (fun d => s_cutF)) ?_
  rintro lv st w' ⟨rfl, rfl, rfl⟩
  apply And.intro
  · intro h1
    exact hQ _ (by first | omega | assumption | exact q_rg_up (by assumption) (by omega) | exact q_rg_up (q_rg_up (by assumption) (by omega)) (by omega) | exact q_rg_cpy (by assumption) (by assumption))
  · intro h1
    apply And.intro
    · intro h9
      exact hQ _ (by first | omega | assumption | exact q_rg_up (by assumption) (by omega) | exact q_rg_up (q_rg_up (by assumption) (by omega)) (by omega) | exact q_rg_cpy (by assumption) (by assumption))
    · intro h9
      apply And.intro
      · omega
      apply And.intro
      · intro h18
        exact hQ _ (by first | omega | assumption | exact q_rg_up (by assumption) (by omega) | exact q_rg_up (q_rg_up (by assumption) (by omega)) (by omega) | exact q_rg_cpy (by assumption) (by assumption))
      · intro h18
        apply And.intro
        · exact ⟨by omega, by omega⟩
        intro z26 h26
        intro z30 h30
        first | replace h30 := e_and1 h30 | replace h30 := e_and255 h30 | replace h30 := e_and h30 (by omega) (by omega) | replace h30 := e_rng h30
        exact hQ _ (by first | omega | assumption | exact q_rg_up (by assumption) (by omega) | exact q_rg_up (q_rg_up (by assumption) (by omega)) (by omega) | exact q_rg_cpy (by assumption) (by assumption))

theorem dX6_isLetter_0 : decode cX6_isLetter 0 = .ok (.iload_n 0, 1) := by decide +kernel
theorem dX6_isLetter_1 : decode cX6_isLetter 1 = .ok (.bipush 97, 2) := by decide +kernel
theorem dX6_isLetter_3 : decode cX6_isLetter 3 = .ok (.if_icmp .lt 13, 3) := by decide +kernel
theorem dX6_isLetter_6 : decode cX6_isLetter 6 = .ok (.iload_n 0, 1) := by decide +kernel
theorem dX6_isLetter_7 : decode cX6_isLetter 7 = .ok (.bipush 122, 2) := by decide +kernel
theorem dX6_isLetter_9 : decode cX6_isLetter 9 = .ok (.if_icmp .gt 7, 3) := by decide +kernel
theorem dX6_isLetter_12 : decode cX6_isLetter 12 = .ok (.iconst 1, 1) := by decide +kernel
theorem dX6_isLetter_13 : decode cX6_isLetter 13 = .ok (.goto 4, 3) := by decide +kernel
theorem dX6_isLetter_16 : decode cX6_isLetter 16 = .ok (.iconst 0, 1) := by decide +kernel
theorem dX6_isLetter_17 : decode cX6_isLetter 17 = .ok (.ireturn, 1) := by decide +kernel
def is_X6_isLetter : Nat → List Nat := fun d => []
set_option maxRecDepth 100000 in
def b_X6_isLetter_17 (J : Nat → List qV → List qV → qW → Prop) (Q : qR) : qK := x_zret Q
set_option maxRecDepth 100000 in
theorem s_X6_isLetter_17 {p : Program} {l : Launch} {e : Env} {R : Room} {s : State} {m : MethodId} {args : Array Value} {below : List Frame} {meth : Method} {c : Code} {nW : Nat} {dC : Nat → ClassId} {dI : Nat → Nat → Nat} {k : Nat → ClassId} {g : Nat → Nat} {A : Nat → Prop} {J : Nat → List qV → List qV → qW → Prop} {Q : qR} (X : q_X p R s m args meth c cX6_isLetter 1 nW 0 0 RX6 (some .boolean) dC dI k g A) (hJ : ∀ d : Nat, q_Sd p l e R s m args below meth c 1 nW dC dI k g A (MQ below (q_post (dC, dI) k g nW Q A) args s 0 0 A) d (x_cut (is_X6_isLetter d) (J d))) : q_Sd p l e R s m args below meth c 1 nW dC dI k g A (MQ below (q_post (dC, dI) k g nW Q A) args s 0 0 A) 17 (b_X6_isLetter_17 J Q) := by
  unfold b_X6_isLetter_17
  exact s_zret X dX6_isLetter_17
set_option maxRecDepth 100000 in
def b_X6_isLetter_16 (J : Nat → List qV → List qV → qW → Prop) (Q : qR) : qK := x_int 0 (b_X6_isLetter_17 J Q)
set_option maxRecDepth 100000 in
theorem s_X6_isLetter_16 {p : Program} {l : Launch} {e : Env} {R : Room} {s : State} {m : MethodId} {args : Array Value} {below : List Frame} {meth : Method} {c : Code} {nW : Nat} {dC : Nat → ClassId} {dI : Nat → Nat → Nat} {k : Nat → ClassId} {g : Nat → Nat} {A : Nat → Prop} {J : Nat → List qV → List qV → qW → Prop} {Q : qR} (X : q_X p R s m args meth c cX6_isLetter 1 nW 0 0 RX6 (some .boolean) dC dI k g A) (hJ : ∀ d : Nat, q_Sd p l e R s m args below meth c 1 nW dC dI k g A (MQ below (q_post (dC, dI) k g nW Q A) args s 0 0 A) d (x_cut (is_X6_isLetter d) (J d))) : q_Sd p l e R s m args below meth c 1 nW dC dI k g A (MQ below (q_post (dC, dI) k g nW Q A) args s 0 0 A) 16 (b_X6_isLetter_16 J Q) := by
  unfold b_X6_isLetter_16
  refine s_iconst X ⟨by decide, by decide⟩ dX6_isLetter_16 ?_
  exact s_X6_isLetter_17 X hJ
set_option maxRecDepth 100000 in
def b_X6_isLetter_0 (J : Nat → List qV → List qV → qW → Prop) (Q : qR) : qK := x_iload 0 (x_int 97 (x_icmp_lt (b_X6_isLetter_16 J Q) (x_iload 0 (x_int 122 (x_icmp_gt (b_X6_isLetter_16 J Q) (x_int 1 (b_X6_isLetter_17 J Q)))))))
set_option maxRecDepth 100000 in
theorem s_X6_isLetter_0 {p : Program} {l : Launch} {e : Env} {R : Room} {s : State} {m : MethodId} {args : Array Value} {below : List Frame} {meth : Method} {c : Code} {nW : Nat} {dC : Nat → ClassId} {dI : Nat → Nat → Nat} {k : Nat → ClassId} {g : Nat → Nat} {A : Nat → Prop} {J : Nat → List qV → List qV → qW → Prop} {Q : qR} (X : q_X p R s m args meth c cX6_isLetter 1 nW 0 0 RX6 (some .boolean) dC dI k g A) (hJ : ∀ d : Nat, q_Sd p l e R s m args below meth c 1 nW dC dI k g A (MQ below (q_post (dC, dI) k g nW Q A) args s 0 0 A) d (x_cut (is_X6_isLetter d) (J d))) : q_Sd p l e R s m args below meth c 1 nW dC dI k g A (MQ below (q_post (dC, dI) k g nW Q A) args s 0 0 A) 0 (b_X6_isLetter_0 J Q) := by
  unfold b_X6_isLetter_0
  refine s_iload_n X rfl dX6_isLetter_0 ?_
  refine s_bipush X ⟨by decide, by decide⟩ (by decide) dX6_isLetter_1 ?_
  refine s_icmp_lt X (tgt := 16) dX6_isLetter_3 (by decide) ?_ ?_
  · exact s_X6_isLetter_16 X hJ
  · refine s_iload_n X rfl dX6_isLetter_6 ?_
    refine s_bipush X ⟨by decide, by decide⟩ (by decide) dX6_isLetter_7 ?_
    refine s_icmp_gt X (tgt := 16) dX6_isLetter_9 (by decide) ?_ ?_
    · exact s_X6_isLetter_16 X hJ
    · refine s_iconst X ⟨by decide, by decide⟩ dX6_isLetter_12 ?_
      refine s_goto X (tgt := 17) dX6_isLetter_13 (by decide) ?_
      exact s_X6_isLetter_17 X hJ

def spr_X6_isLetter : List qV → qW → (Option qV → Prop) → Prop := fun av w Q => ∃ (a : Int), av = [q1 a] ∧ w = [] ∧ (∀ (r : Int) , (r = 0 ∨ r = 1) → Q (some (q1 r)))
def sp_X6_isLetter : qS := fun av w Q => spr_X6_isLetter av w (fun r => Q r w)
set_option maxHeartbeats 4000000 in
set_option maxRecDepth 100000 in
theorem m_X6_isLetter (l : Launch) : q_M l yX6_isLetter cX6_isLetter 1 (some .boolean) 0 0 sp_X6_isLetter := by
  refine q_meth (by decide) (fun av w Q h => by obtain ⟨a, rfl, rfl, hQ⟩ := h; exact Nat.le_of_ble_eq_true rfl) ?_
  intro p e R s m args below meth c dC dI k g A av w Q hsp oka okw X
  obtain ⟨a, rfl, rfl, hQ⟩ := hsp
  have o_a : -2147483648 ≤ a ∧ a ≤ 2147483647 := oka _ (List.mem_of_getElem? (i := 0) rfl)
  refine s_mono (s_X6_isLetter_0 X (J := fun _ _ _ _ => False) (fun d => s_cutF)) ?_
  rintro lv st w' ⟨rfl, rfl, rfl⟩
  apply And.intro
  · intro h3
    apply And.intro
    · first | exact Or.inl rfl | exact Or.inr rfl | omega
    exact hQ _ (by first | omega | assumption | exact q_rg_up (by assumption) (by omega) | exact q_rg_up (q_rg_up (by assumption) (by omega)) (by omega) | exact q_rg_cpy (by assumption) (by assumption))
  · intro h3
    apply And.intro
    · intro h9
      apply And.intro
      · first | exact Or.inl rfl | exact Or.inr rfl | omega
      exact hQ _ (by first | omega | assumption | exact q_rg_up (by assumption) (by omega) | exact q_rg_up (q_rg_up (by assumption) (by omega)) (by omega) | exact q_rg_cpy (by assumption) (by assumption))
    · intro h9
      apply And.intro
      · first | exact Or.inl rfl | exact Or.inr rfl | omega
      exact hQ _ (by first | omega | assumption | exact q_rg_up (by assumption) (by omega) | exact q_rg_up (q_rg_up (by assumption) (by omega)) (by omega) | exact q_rg_cpy (by assumption) (by assumption))

theorem dX6_isDigit_0 : decode cX6_isDigit 0 = .ok (.iload_n 0, 1) := by decide +kernel
theorem dX6_isDigit_1 : decode cX6_isDigit 1 = .ok (.bipush 48, 2) := by decide +kernel
theorem dX6_isDigit_3 : decode cX6_isDigit 3 = .ok (.if_icmp .lt 13, 3) := by decide +kernel
theorem dX6_isDigit_6 : decode cX6_isDigit 6 = .ok (.iload_n 0, 1) := by decide +kernel
theorem dX6_isDigit_7 : decode cX6_isDigit 7 = .ok (.bipush 57, 2) := by decide +kernel
theorem dX6_isDigit_9 : decode cX6_isDigit 9 = .ok (.if_icmp .gt 7, 3) := by decide +kernel
theorem dX6_isDigit_12 : decode cX6_isDigit 12 = .ok (.iconst 1, 1) := by decide +kernel
theorem dX6_isDigit_13 : decode cX6_isDigit 13 = .ok (.goto 4, 3) := by decide +kernel
theorem dX6_isDigit_16 : decode cX6_isDigit 16 = .ok (.iconst 0, 1) := by decide +kernel
theorem dX6_isDigit_17 : decode cX6_isDigit 17 = .ok (.ireturn, 1) := by decide +kernel
def is_X6_isDigit : Nat → List Nat := fun d => []
set_option maxRecDepth 100000 in
def b_X6_isDigit_17 (J : Nat → List qV → List qV → qW → Prop) (Q : qR) : qK := x_zret Q
set_option maxRecDepth 100000 in
theorem s_X6_isDigit_17 {p : Program} {l : Launch} {e : Env} {R : Room} {s : State} {m : MethodId} {args : Array Value} {below : List Frame} {meth : Method} {c : Code} {nW : Nat} {dC : Nat → ClassId} {dI : Nat → Nat → Nat} {k : Nat → ClassId} {g : Nat → Nat} {A : Nat → Prop} {J : Nat → List qV → List qV → qW → Prop} {Q : qR} (X : q_X p R s m args meth c cX6_isDigit 1 nW 0 0 RX6 (some .boolean) dC dI k g A) (hJ : ∀ d : Nat, q_Sd p l e R s m args below meth c 1 nW dC dI k g A (MQ below (q_post (dC, dI) k g nW Q A) args s 0 0 A) d (x_cut (is_X6_isDigit d) (J d))) : q_Sd p l e R s m args below meth c 1 nW dC dI k g A (MQ below (q_post (dC, dI) k g nW Q A) args s 0 0 A) 17 (b_X6_isDigit_17 J Q) := by
  unfold b_X6_isDigit_17
  exact s_zret X dX6_isDigit_17
set_option maxRecDepth 100000 in
def b_X6_isDigit_16 (J : Nat → List qV → List qV → qW → Prop) (Q : qR) : qK := x_int 0 (b_X6_isDigit_17 J Q)
set_option maxRecDepth 100000 in
theorem s_X6_isDigit_16 {p : Program} {l : Launch} {e : Env} {R : Room} {s : State} {m : MethodId} {args : Array Value} {below : List Frame} {meth : Method} {c : Code} {nW : Nat} {dC : Nat → ClassId} {dI : Nat → Nat → Nat} {k : Nat → ClassId} {g : Nat → Nat} {A : Nat → Prop} {J : Nat → List qV → List qV → qW → Prop} {Q : qR} (X : q_X p R s m args meth c cX6_isDigit 1 nW 0 0 RX6 (some .boolean) dC dI k g A) (hJ : ∀ d : Nat, q_Sd p l e R s m args below meth c 1 nW dC dI k g A (MQ below (q_post (dC, dI) k g nW Q A) args s 0 0 A) d (x_cut (is_X6_isDigit d) (J d))) : q_Sd p l e R s m args below meth c 1 nW dC dI k g A (MQ below (q_post (dC, dI) k g nW Q A) args s 0 0 A) 16 (b_X6_isDigit_16 J Q) := by
  unfold b_X6_isDigit_16
  refine s_iconst X ⟨by decide, by decide⟩ dX6_isDigit_16 ?_
  exact s_X6_isDigit_17 X hJ
set_option maxRecDepth 100000 in
def b_X6_isDigit_0 (J : Nat → List qV → List qV → qW → Prop) (Q : qR) : qK := x_iload 0 (x_int 48 (x_icmp_lt (b_X6_isDigit_16 J Q) (x_iload 0 (x_int 57 (x_icmp_gt (b_X6_isDigit_16 J Q) (x_int 1 (b_X6_isDigit_17 J Q)))))))
set_option maxRecDepth 100000 in
theorem s_X6_isDigit_0 {p : Program} {l : Launch} {e : Env} {R : Room} {s : State} {m : MethodId} {args : Array Value} {below : List Frame} {meth : Method} {c : Code} {nW : Nat} {dC : Nat → ClassId} {dI : Nat → Nat → Nat} {k : Nat → ClassId} {g : Nat → Nat} {A : Nat → Prop} {J : Nat → List qV → List qV → qW → Prop} {Q : qR} (X : q_X p R s m args meth c cX6_isDigit 1 nW 0 0 RX6 (some .boolean) dC dI k g A) (hJ : ∀ d : Nat, q_Sd p l e R s m args below meth c 1 nW dC dI k g A (MQ below (q_post (dC, dI) k g nW Q A) args s 0 0 A) d (x_cut (is_X6_isDigit d) (J d))) : q_Sd p l e R s m args below meth c 1 nW dC dI k g A (MQ below (q_post (dC, dI) k g nW Q A) args s 0 0 A) 0 (b_X6_isDigit_0 J Q) := by
  unfold b_X6_isDigit_0
  refine s_iload_n X rfl dX6_isDigit_0 ?_
  refine s_bipush X ⟨by decide, by decide⟩ (by decide) dX6_isDigit_1 ?_
  refine s_icmp_lt X (tgt := 16) dX6_isDigit_3 (by decide) ?_ ?_
  · exact s_X6_isDigit_16 X hJ
  · refine s_iload_n X rfl dX6_isDigit_6 ?_
    refine s_bipush X ⟨by decide, by decide⟩ (by decide) dX6_isDigit_7 ?_
    refine s_icmp_gt X (tgt := 16) dX6_isDigit_9 (by decide) ?_ ?_
    · exact s_X6_isDigit_16 X hJ
    · refine s_iconst X ⟨by decide, by decide⟩ dX6_isDigit_12 ?_
      refine s_goto X (tgt := 17) dX6_isDigit_13 (by decide) ?_
      exact s_X6_isDigit_17 X hJ

def spr_X6_isDigit : List qV → qW → (Option qV → Prop) → Prop := fun av w Q => ∃ (a : Int), av = [q1 a] ∧ w = [] ∧ (∀ (r : Int) , (r = 0 ∨ r = 1) → Q (some (q1 r)))
def sp_X6_isDigit : qS := fun av w Q => spr_X6_isDigit av w (fun r => Q r w)
set_option maxHeartbeats 4000000 in
set_option maxRecDepth 100000 in
theorem m_X6_isDigit (l : Launch) : q_M l yX6_isDigit cX6_isDigit 1 (some .boolean) 0 0 sp_X6_isDigit := by
  refine q_meth (by decide) (fun av w Q h => by obtain ⟨a, rfl, rfl, hQ⟩ := h; exact Nat.le_of_ble_eq_true rfl) ?_
  intro p e R s m args below meth c dC dI k g A av w Q hsp oka okw X
  obtain ⟨a, rfl, rfl, hQ⟩ := hsp
  have o_a : -2147483648 ≤ a ∧ a ≤ 2147483647 := oka _ (List.mem_of_getElem? (i := 0) rfl)
  refine s_mono (s_X6_isDigit_0 X (J := fun _ _ _ _ => False) (fun d => s_cutF)) ?_
  rintro lv st w' ⟨rfl, rfl, rfl⟩
  apply And.intro
  · intro h3
    apply And.intro
    · first | exact Or.inl rfl | exact Or.inr rfl | omega
    exact hQ _ (by first | omega | assumption | exact q_rg_up (by assumption) (by omega) | exact q_rg_up (q_rg_up (by assumption) (by omega)) (by omega) | exact q_rg_cpy (by assumption) (by assumption))
  · intro h3
    apply And.intro
    · intro h9
      apply And.intro
      · first | exact Or.inl rfl | exact Or.inr rfl | omega
      exact hQ _ (by first | omega | assumption | exact q_rg_up (by assumption) (by omega) | exact q_rg_up (q_rg_up (by assumption) (by omega)) (by omega) | exact q_rg_cpy (by assumption) (by assumption))
    · intro h9
      apply And.intro
      · first | exact Or.inl rfl | exact Or.inr rfl | omega
      exact hQ _ (by first | omega | assumption | exact q_rg_up (by assumption) (by omega) | exact q_rg_up (q_rg_up (by assumption) (by omega)) (by omega) | exact q_rg_cpy (by assumption) (by assumption))

theorem dX6_takeDigits_0 : decode cX6_takeDigits 0 = .ok (.aload_n 0, 1) := by decide +kernel
theorem dX6_takeDigits_1 : decode cX6_takeDigits 1 = .ok (.iload_n 1, 1) := by decide +kernel
theorem dX6_takeDigits_2 : decode cX6_takeDigits 2 = .ok (.bipush 48, 2) := by decide +kernel
theorem dX6_takeDigits_4 : decode cX6_takeDigits 4 = .ok (.isub, 1) := by decide +kernel
theorem dX6_takeDigits_5 : decode cX6_takeDigits 5 = .ok (.putfield 130, 3) := by decide +kernel
theorem dX6_takeDigits_8 : decode cX6_takeDigits 8 = .ok (.aload_n 0, 1) := by decide +kernel
theorem dX6_takeDigits_9 : decode cX6_takeDigits 9 = .ok (.getfield 94, 3) := by decide +kernel
theorem dX6_takeDigits_12 : decode cX6_takeDigits 12 = .ok (.aload_n 0, 1) := by decide +kernel
theorem dX6_takeDigits_13 : decode cX6_takeDigits 13 = .ok (.getfield 51, 3) := by decide +kernel
theorem dX6_takeDigits_16 : decode cX6_takeDigits 16 = .ok (.if_icmp .ge 59, 3) := by decide +kernel
theorem dX6_takeDigits_19 : decode cX6_takeDigits 19 = .ok (.aload_n 0, 1) := by decide +kernel
theorem dX6_takeDigits_20 : decode cX6_takeDigits 20 = .ok (.aload_n 0, 1) := by decide +kernel
theorem dX6_takeDigits_21 : decode cX6_takeDigits 21 = .ok (.getfield 94, 3) := by decide +kernel
theorem dX6_takeDigits_24 : decode cX6_takeDigits 24 = .ok (.invokevirtual 117, 3) := by decide +kernel
theorem dX6_takeDigits_27 : decode cX6_takeDigits 27 = .ok (.invokestatic 124, 3) := by decide +kernel
theorem dX6_takeDigits_30 : decode cX6_takeDigits 30 = .ok (.ifCond .eq 45, 3) := by decide +kernel
theorem dX6_takeDigits_33 : decode cX6_takeDigits 33 = .ok (.aload_n 0, 1) := by decide +kernel
theorem dX6_takeDigits_34 : decode cX6_takeDigits 34 = .ok (.bipush 10, 2) := by decide +kernel
theorem dX6_takeDigits_36 : decode cX6_takeDigits 36 = .ok (.aload_n 0, 1) := by decide +kernel
theorem dX6_takeDigits_37 : decode cX6_takeDigits 37 = .ok (.getfield 130, 3) := by decide +kernel
theorem dX6_takeDigits_40 : decode cX6_takeDigits 40 = .ok (.imul, 1) := by decide +kernel
theorem dX6_takeDigits_41 : decode cX6_takeDigits 41 = .ok (.aload_n 0, 1) := by decide +kernel
theorem dX6_takeDigits_42 : decode cX6_takeDigits 42 = .ok (.aload_n 0, 1) := by decide +kernel
theorem dX6_takeDigits_43 : decode cX6_takeDigits 43 = .ok (.getfield 94, 3) := by decide +kernel
theorem dX6_takeDigits_46 : decode cX6_takeDigits 46 = .ok (.invokevirtual 117, 3) := by decide +kernel
theorem dX6_takeDigits_49 : decode cX6_takeDigits 49 = .ok (.iadd, 1) := by decide +kernel
theorem dX6_takeDigits_50 : decode cX6_takeDigits 50 = .ok (.bipush 48, 2) := by decide +kernel
theorem dX6_takeDigits_52 : decode cX6_takeDigits 52 = .ok (.isub, 1) := by decide +kernel
theorem dX6_takeDigits_53 : decode cX6_takeDigits 53 = .ok (.sipush 1000, 3) := by decide +kernel
theorem dX6_takeDigits_56 : decode cX6_takeDigits 56 = .ok (.invokestatic 78, 3) := by decide +kernel
theorem dX6_takeDigits_59 : decode cX6_takeDigits 59 = .ok (.putfield 130, 3) := by decide +kernel
theorem dX6_takeDigits_62 : decode cX6_takeDigits 62 = .ok (.aload_n 0, 1) := by decide +kernel
theorem dX6_takeDigits_63 : decode cX6_takeDigits 63 = .ok (.dup, 1) := by decide +kernel
theorem dX6_takeDigits_64 : decode cX6_takeDigits 64 = .ok (.getfield 94, 3) := by decide +kernel
theorem dX6_takeDigits_67 : decode cX6_takeDigits 67 = .ok (.iconst 1, 1) := by decide +kernel
theorem dX6_takeDigits_68 : decode cX6_takeDigits 68 = .ok (.iadd, 1) := by decide +kernel
theorem dX6_takeDigits_69 : decode cX6_takeDigits 69 = .ok (.putfield 94, 3) := by decide +kernel
theorem dX6_takeDigits_72 : decode cX6_takeDigits 72 = .ok (.goto (-64), 3) := by decide +kernel
theorem dX6_takeDigits_75 : decode cX6_takeDigits 75 = .ok (.aload_n 0, 1) := by decide +kernel
theorem dX6_takeDigits_76 : decode cX6_takeDigits 76 = .ok (.aload_n 0, 1) := by decide +kernel
theorem dX6_takeDigits_77 : decode cX6_takeDigits 77 = .ok (.getfield 94, 3) := by decide +kernel
theorem dX6_takeDigits_80 : decode cX6_takeDigits 80 = .ok (.aload_n 0, 1) := by decide +kernel
theorem dX6_takeDigits_81 : decode cX6_takeDigits 81 = .ok (.getfield 72, 3) := by decide +kernel
theorem dX6_takeDigits_84 : decode cX6_takeDigits 84 = .ok (.isub, 1) := by decide +kernel
theorem dX6_takeDigits_85 : decode cX6_takeDigits 85 = .ok (.iconst 2, 1) := by decide +kernel
theorem dX6_takeDigits_86 : decode cX6_takeDigits 86 = .ok (.if_icmp .gt 7, 3) := by decide +kernel
theorem dX6_takeDigits_89 : decode cX6_takeDigits 89 = .ok (.iconst 2, 1) := by decide +kernel
theorem dX6_takeDigits_90 : decode cX6_takeDigits 90 = .ok (.goto 4, 3) := by decide +kernel
theorem dX6_takeDigits_93 : decode cX6_takeDigits 93 = .ok (.iconst 4, 1) := by decide +kernel
theorem dX6_takeDigits_94 : decode cX6_takeDigits 94 = .ok (.putfield 58, 3) := by decide +kernel
theorem dX6_takeDigits_97 : decode cX6_takeDigits 97 = .ok (.return_, 1) := by decide +kernel
def is_X6_takeDigits : Nat → List Nat := fun d => if d = 8 then [0] else []
set_option maxRecDepth 100000 in
def b_X6_takeDigits_94 (J : Nat → List qV → List qV → qW → Prop) (Q : qR) : qK := x_put 6 11 q_oki (x_nw (x_vret Q))
set_option maxRecDepth 100000 in
theorem s_X6_takeDigits_94 {p : Program} {l : Launch} {e : Env} {R : Room} {s : State} {m : MethodId} {args : Array Value} {below : List Frame} {meth : Method} {c : Code} {nW : Nat} {dC : Nat → ClassId} {dI : Nat → Nat → Nat} {k : Nat → ClassId} {g : Nat → Nat} {A : Nat → Prop} {J : Nat → List qV → List qV → qW → Prop} {Q : qR} (X : q_X p R s m args meth c cX6_takeDigits 2 nW 1 21 RX6 none dC dI k g A) (hJ : ∀ d : Nat, q_Sd p l e R s m args below meth c 2 nW dC dI k g A (MQ below (q_post (dC, dI) k g nW Q A) args s 0 0 A) d (x_cut (is_X6_takeDigits d) (J d))) : q_Sd p l e R s m args below meth c 2 nW dC dI k g A (MQ below (q_post (dC, dI) k g nW Q A) args s 0 0 A) 94 (b_X6_takeDigits_94 J Q) := by
  unfold b_X6_takeDigits_94
  refine s_put X (T := TX6) (C := RX6) (N := 15) tu_X6 tyX6_ok nmX6 rfl (by decide) tw_284 rfl (by decide +kernel) q_oki_t dX6_takeDigits_94 ?_
  refine s_nw ?_
  exact s_vret X dX6_takeDigits_97
set_option maxRecDepth 100000 in
def b_X6_takeDigits_75 (J : Nat → List qV → List qV → qW → Prop) (Q : qR) : qK := x_aload 0 (x_aload 0 (x_get 6 10 (x_aload 0 (x_get 6 9 (x_isub (x_int 2 (x_icmp_gt (x_int 4 (b_X6_takeDigits_94 J Q)) (x_int 2 (b_X6_takeDigits_94 J Q)))))))))
set_option maxRecDepth 100000 in
theorem s_X6_takeDigits_75 {p : Program} {l : Launch} {e : Env} {R : Room} {s : State} {m : MethodId} {args : Array Value} {below : List Frame} {meth : Method} {c : Code} {nW : Nat} {dC : Nat → ClassId} {dI : Nat → Nat → Nat} {k : Nat → ClassId} {g : Nat → Nat} {A : Nat → Prop} {J : Nat → List qV → List qV → qW → Prop} {Q : qR} (X : q_X p R s m args meth c cX6_takeDigits 2 nW 1 21 RX6 none dC dI k g A) (hJ : ∀ d : Nat, q_Sd p l e R s m args below meth c 2 nW dC dI k g A (MQ below (q_post (dC, dI) k g nW Q A) args s 0 0 A) d (x_cut (is_X6_takeDigits d) (J d))) : q_Sd p l e R s m args below meth c 2 nW dC dI k g A (MQ below (q_post (dC, dI) k g nW Q A) args s 0 0 A) 75 (b_X6_takeDigits_75 J Q) := by
  unfold b_X6_takeDigits_75
  refine s_aload_n X rfl dX6_takeDigits_75 ?_
  refine s_aload_n X rfl dX6_takeDigits_76 ?_
  refine s_get X (T := TX6) (C := RX6) (N := 15) tu_X6 rfl (by decide) tw_283 dX6_takeDigits_77 ?_
  refine s_aload_n X rfl dX6_takeDigits_80 ?_
  refine s_get X (T := TX6) (C := RX6) (N := 15) tu_X6 rfl (by decide) tw_282 dX6_takeDigits_81 ?_
  refine s_isub X dX6_takeDigits_84 ?_
  refine s_iconst X ⟨by decide, by decide⟩ dX6_takeDigits_85 ?_
  refine s_icmp_gt X (tgt := 93) dX6_takeDigits_86 (by decide) ?_ ?_
  · refine s_iconst X ⟨by decide, by decide⟩ dX6_takeDigits_93 ?_
    exact s_X6_takeDigits_94 X hJ
  · refine s_iconst X ⟨by decide, by decide⟩ dX6_takeDigits_89 ?_
    refine s_goto X (tgt := 94) dX6_takeDigits_90 (by decide) ?_
    exact s_X6_takeDigits_94 X hJ
set_option maxRecDepth 100000 in
def b_X6_takeDigits_56 (J : Nat → List qV → List qV → qW → Prop) (Q : qR) : qK := x_min (x_put 6 12 q_oki (x_nw (x_aload 0 (x_dup (x_get 6 10 (x_int 1 (x_iadd (x_put 6 10 q_oki (x_nw (x_cut [0] (J 8)))))))))))
set_option maxRecDepth 100000 in
theorem s_X6_takeDigits_56 {p : Program} {l : Launch} {e : Env} {R : Room} {s : State} {m : MethodId} {args : Array Value} {below : List Frame} {meth : Method} {c : Code} {nW : Nat} {dC : Nat → ClassId} {dI : Nat → Nat → Nat} {k : Nat → ClassId} {g : Nat → Nat} {A : Nat → Prop} {J : Nat → List qV → List qV → qW → Prop} {Q : qR} (X : q_X p R s m args meth c cX6_takeDigits 2 nW 1 21 RX6 none dC dI k g A) (hJ : ∀ d : Nat, q_Sd p l e R s m args below meth c 2 nW dC dI k g A (MQ below (q_post (dC, dI) k g nW Q A) args s 0 0 A) d (x_cut (is_X6_takeDigits d) (J d))) : q_Sd p l e R s m args below meth c 2 nW dC dI k g A (MQ below (q_post (dC, dI) k g nW Q A) args s 0 0 A) 56 (b_X6_takeDigits_56 J Q) := by
  unfold b_X6_takeDigits_56
  refine s_min X tw_364 tw_365 tw_135 tw_366 ⟨by decide, by decide⟩ dX6_takeDigits_56 ?_
  refine s_put X (T := TX6) (C := RX6) (N := 15) tu_X6 tyX6_ok nmX6 rfl (by decide) tw_285 rfl (by decide +kernel) q_oki_t dX6_takeDigits_59 ?_
  refine s_nw ?_
  refine s_aload_n X rfl dX6_takeDigits_62 ?_
  refine s_dup X dX6_takeDigits_63 ?_
  refine s_get X (T := TX6) (C := RX6) (N := 15) tu_X6 rfl (by decide) tw_283 dX6_takeDigits_64 ?_
  refine s_iconst X ⟨by decide, by decide⟩ dX6_takeDigits_67 ?_
  refine s_iadd X dX6_takeDigits_68 ?_
  refine s_put X (T := TX6) (C := RX6) (N := 15) tu_X6 tyX6_ok nmX6 rfl (by decide) tw_283 rfl (by decide +kernel) q_oki_t dX6_takeDigits_69 ?_
  refine s_nw ?_
  refine s_goto X (tgt := 8) dX6_takeDigits_72 (by decide) ?_
  exact hJ 8
set_option maxRecDepth 100000 in
def b_X6_takeDigits_8 (J : Nat → List qV → List qV → qW → Prop) (Q : qR) : qK := x_aload 0 (x_get 6 10 (x_aload 0 (x_get 6 6 (x_icmp_ge (b_X6_takeDigits_75 J Q) (x_aload 0 (x_aload 0 (x_get 6 10 (x_callr (some 6) 2 spr_X6_byteAt (x_callr none 1 spr_X6_isDigit (x_if_eq (b_X6_takeDigits_75 J Q) (x_aload 0 (x_int 10 (x_aload 0 (x_get 6 12 (x_imul (x_aload 0 (x_aload 0 (x_get 6 10 (x_callr (some 6) 2 spr_X6_byteAt (x_iadd (x_int 48 (x_isub (x_int 1000 (b_X6_takeDigits_56 J Q))))))))))))))))))))))))
set_option maxRecDepth 100000 in
theorem s_X6_takeDigits_8 {p : Program} {l : Launch} {e : Env} {R : Room} {s : State} {m : MethodId} {args : Array Value} {below : List Frame} {meth : Method} {c : Code} {nW : Nat} {dC : Nat → ClassId} {dI : Nat → Nat → Nat} {k : Nat → ClassId} {g : Nat → Nat} {A : Nat → Prop} {J : Nat → List qV → List qV → qW → Prop} {Q : qR} (X : q_X p R s m args meth c cX6_takeDigits 2 nW 1 21 RX6 none dC dI k g A) (hJ : ∀ d : Nat, q_Sd p l e R s m args below meth c 2 nW dC dI k g A (MQ below (q_post (dC, dI) k g nW Q A) args s 0 0 A) d (x_cut (is_X6_takeDigits d) (J d))) : q_Sd p l e R s m args below meth c 2 nW dC dI k g A (MQ below (q_post (dC, dI) k g nW Q A) args s 0 0 A) 8 (b_X6_takeDigits_8 J Q) := by
  unfold b_X6_takeDigits_8
  refine s_aload_n X rfl dX6_takeDigits_8 ?_
  refine s_get X (T := TX6) (C := RX6) (N := 15) tu_X6 rfl (by decide) tw_283 dX6_takeDigits_9 ?_
  refine s_aload_n X rfl dX6_takeDigits_12 ?_
  refine s_get X (T := TX6) (C := RX6) (N := 15) tu_X6 rfl (by decide) tw_277 dX6_takeDigits_13 ?_
  refine s_icmp_ge X (tgt := 75) dX6_takeDigits_16 (by decide) ?_ ?_
  · exact s_X6_takeDigits_75 X hJ
  · refine s_aload_n X rfl dX6_takeDigits_19 ?_
    refine s_aload_n X rfl dX6_takeDigits_20 ?_
    refine s_get X (T := TX6) (C := RX6) (N := 15) tu_X6 rfl (by decide) tw_283 dX6_takeDigits_21 ?_
    refine s_callVr X (m_X6_byteAt l) tw_376 tw_377 tw_1509 tw_128 tw_378 rfl (by decide +kernel) ⟨by decide, by decide⟩ dX6_takeDigits_24 ?_
    refine s_callSr X (m_X6_isDigit l) tw_382 tw_383 tw_128 tw_384 (by decide +kernel) ⟨by decide, by decide⟩ dX6_takeDigits_27 ?_
    refine s_if_eq X (tgt := 75) dX6_takeDigits_30 (by decide) ?_ ?_
    · exact s_X6_takeDigits_75 X hJ
    · refine s_aload_n X rfl dX6_takeDigits_33 ?_
      refine s_bipush X ⟨by decide, by decide⟩ (by decide) dX6_takeDigits_34 ?_
      refine s_aload_n X rfl dX6_takeDigits_36 ?_
      refine s_get X (T := TX6) (C := RX6) (N := 15) tu_X6 rfl (by decide) tw_285 dX6_takeDigits_37 ?_
      refine s_imul X dX6_takeDigits_40 ?_
      refine s_aload_n X rfl dX6_takeDigits_41 ?_
      refine s_aload_n X rfl dX6_takeDigits_42 ?_
      refine s_get X (T := TX6) (C := RX6) (N := 15) tu_X6 rfl (by decide) tw_283 dX6_takeDigits_43 ?_
      refine s_callVr X (m_X6_byteAt l) tw_376 tw_377 tw_1509 tw_128 tw_378 rfl (by decide +kernel) ⟨by decide, by decide⟩ dX6_takeDigits_46 ?_
      refine s_iadd X dX6_takeDigits_49 ?_
      refine s_bipush X ⟨by decide, by decide⟩ (by decide) dX6_takeDigits_50 ?_
      refine s_isub X dX6_takeDigits_52 ?_
      refine s_sipush X ⟨by decide, by decide⟩ (by decide) dX6_takeDigits_53 ?_
      exact s_X6_takeDigits_56 X hJ
set_option maxRecDepth 100000 in
def b_X6_takeDigits_0 (J : Nat → List qV → List qV → qW → Prop) (Q : qR) : qK := x_aload 0 (x_iload 1 (x_int 48 (x_isub (x_put 6 12 q_oki (x_nw (x_cut [0] (J 8)))))))
set_option maxRecDepth 100000 in
theorem s_X6_takeDigits_0 {p : Program} {l : Launch} {e : Env} {R : Room} {s : State} {m : MethodId} {args : Array Value} {below : List Frame} {meth : Method} {c : Code} {nW : Nat} {dC : Nat → ClassId} {dI : Nat → Nat → Nat} {k : Nat → ClassId} {g : Nat → Nat} {A : Nat → Prop} {J : Nat → List qV → List qV → qW → Prop} {Q : qR} (X : q_X p R s m args meth c cX6_takeDigits 2 nW 1 21 RX6 none dC dI k g A) (hJ : ∀ d : Nat, q_Sd p l e R s m args below meth c 2 nW dC dI k g A (MQ below (q_post (dC, dI) k g nW Q A) args s 0 0 A) d (x_cut (is_X6_takeDigits d) (J d))) : q_Sd p l e R s m args below meth c 2 nW dC dI k g A (MQ below (q_post (dC, dI) k g nW Q A) args s 0 0 A) 0 (b_X6_takeDigits_0 J Q) := by
  unfold b_X6_takeDigits_0
  refine s_aload_n X rfl dX6_takeDigits_0 ?_
  refine s_iload_n X rfl dX6_takeDigits_1 ?_
  refine s_bipush X ⟨by decide, by decide⟩ (by decide) dX6_takeDigits_2 ?_
  refine s_isub X dX6_takeDigits_4 ?_
  refine s_put X (T := TX6) (C := RX6) (N := 15) tu_X6 tyX6_ok nmX6 rfl (by decide) tw_285 rfl (by decide +kernel) q_oki_t dX6_takeDigits_5 ?_
  refine s_nw ?_
  exact hJ 8

def sp_X6_takeDigits : qS := fun av w Q => ∃ (rln : Int) (rfa : Int) (rpl : Int) (rst : Int) (rnx : Int) (rtk : Int) (rnm : Int) (rnp : Int) (rnd : Int) (tp : Nat → Int) (a : Int), av = [q2 0, q1 a] ∧ w = [.inr (6, [q2 2, q2 3, q2 4, q2 5, q2 6, q2 1, q1 rln, q1 rfa, q1 rpl, q1 rst, q1 rnx, q1 rtk, q1 rnm, q1 rnp, q1 rnd]), .inl (1, 600, .inl tp)] ∧ (0 ≤ rln ∧ rln ≤ 600 ∧ 0 ≤ rnx ∧ rnx ≤ rln ∧ 0 ≤ rst ∧ rst ≤ 600) ∧ (∀ (x_rnx : Int) (x_rtk : Int) (x_rnm : Int), rnx ≤ x_rnx ∧ x_rnx ≤ rln → Q none ([.inr (6, [q2 2, q2 3, q2 4, q2 5, q2 6, q2 1, q1 rln, q1 rfa, q1 rpl, q1 rst, q1 x_rnx, q1 x_rtk, q1 x_rnm, q1 rnp, q1 rnd]), .inl (1, 600, .inl tp)]))
def I_X6_takeDigits (rln : Int) (rfa : Int) (rpl : Int) (rst : Int) (rnx : Int) (rtk : Int) (rnm : Int) (rnp : Int) (rnd : Int) (tp : Nat → Int) (a : Int) : Nat → Nat → List qV → List qV → qW → Prop := fun dz mz vz sz wz => if dz = 8 then (∃ (y_rnx : Int) (y_rnm : Int), vz = [q2 0] ∧ sz = [] ∧ wz = [.inr (6, [q2 2, q2 3, q2 4, q2 5, q2 6, q2 1, q1 rln, q1 rfa, q1 rpl, q1 rst, q1 y_rnx, q1 rtk, q1 y_rnm, q1 rnp, q1 rnd]), .inl (1, 600, .inl tp)] ∧ mz = (rln - y_rnx).toNat ∧ (rnx ≤ y_rnx ∧ y_rnx ≤ rln)) else False
set_option maxHeartbeats 4000000 in
set_option maxRecDepth 100000 in
theorem m_X6_takeDigits (l : Launch) : q_M l yX6_takeDigits cX6_takeDigits 2 none 1 21 sp_X6_takeDigits := by
  refine q_meth (by decide) (fun av w Q h => by obtain ⟨rln, rfa, rpl, rst, rnx, rtk, rnm, rnp, rnd, tp, a, rfl, rfl, hr, hQ⟩ := h; exact Nat.le_of_ble_eq_true rfl) ?_
  intro p e R s m args below meth c dC dI k g A av w Q hsp oka okw X
  obtain ⟨rln, rfa, rpl, rst, rnx, rtk, rnm, rnp, rnd, tp, a, rfl, rfl, hr, hQ⟩ := hsp
  have o_a : -2147483648 ≤ a ∧ a ≤ 2147483647 := oka _ (List.mem_of_getElem? (i := 1) rfl)
  refine s_mono (s_X6_takeDigits_0 X (J := fun dz vz sz wz => ∃ mz, I_X6_takeDigits rln rfa rpl rst rnx rtk rnm rnp rnd tp a dz mz vz sz wz) (q_loopn (I_X6_takeDigits rln rfa rpl rst rnx rtk rnm rnp rnd tp a) (fun dz J => if dz = 8 then b_X6_takeDigits_8 J Q else q_F) ?hs ?hv)) ?_
  case hs =>
    intro d J hJ
    by_cases h8 : d = 8
    · subst h8; exact s_X6_takeDigits_8 X hJ
    simp only [h8, if_false]
    exact s_F
  case hv =>
    intro dz mz vz sz wz hI okv oks okw hlen
    by_cases h8 : dz = 8
    · subst h8
      obtain ⟨y_rnx, y_rnm, rfl, rfl, rfl, hn, hp⟩ := hI
      apply And.intro
      · intro h16
        intro z84 h84
        first | replace h84 := e_sub h84 (by omega) | replace h84 := e_rng h84
        apply And.intro
        · intro h86
          apply And.intro
          · exact trivial
          exact hQ _ _ _ (by first | omega | assumption | exact q_rg_up (by assumption) (by omega) | exact q_rg_up (q_rg_up (by assumption) (by omega)) (by omega) | exact q_rg_cpy (by assumption) (by assumption))
        · intro h86
          apply And.intro
          · exact trivial
          exact hQ _ _ _ (by first | omega | assumption | exact q_rg_up (by assumption) (by omega) | exact q_rg_up (q_rg_up (by assumption) (by omega)) (by omega) | exact q_rg_cpy (by assumption) (by assumption))
      · intro h16
        refine Exists.intro [0, 1, 2, 3, 4, 5, 6] (Exists.intro [q2 0, q1 _] (Exists.intro ([.inr (6, [q2 2, q2 3, q2 4, q2 5, q2 6, q2 1, q1 _, q1 _, q1 _, q1 _, q1 _, q1 _, q1 _, q1 _, q1 _]), .inl (1, 600, .inl _)]) (And.intro rfl (And.intro rfl (And.intro rfl (And.intro ⟨⟨_, rfl⟩, rfl⟩ ?_))))))
        refine Exists.intro _ (Exists.intro _ (Exists.intro _ (Exists.intro _ (Exists.intro _ (Exists.intro _ (Exists.intro _ (Exists.intro _ (Exists.intro _ (Exists.intro _ (Exists.intro _ (And.intro rfl (And.intro rfl (?_)))))))))))))
        intro z24 h24
        refine Exists.intro [] (Exists.intro [q1 _] (Exists.intro [] (And.intro rfl (And.intro rfl (And.intro rfl (And.intro trivial ?_))))))
        refine Exists.intro _ (And.intro rfl (And.intro rfl (?_)))
        intro z27 h27
        apply And.intro
        · intro h30
          intro z84 h84
          first | replace h84 := e_sub h84 (by omega) | replace h84 := e_rng h84
          apply And.intro
          · intro h86
            apply And.intro
            · exact trivial
            exact hQ _ _ _ (by first | omega | assumption | exact q_rg_up (by assumption) (by omega) | exact q_rg_up (q_rg_up (by assumption) (by omega)) (by omega) | exact q_rg_cpy (by assumption) (by assumption))
          · intro h86
            apply And.intro
            · exact trivial
            exact hQ _ _ _ (by first | omega | assumption | exact q_rg_up (by assumption) (by omega) | exact q_rg_up (q_rg_up (by assumption) (by omega)) (by omega) | exact q_rg_cpy (by assumption) (by assumption))
        · intro h30
          intro z40 h40
          first | replace h40 := e_mul h40 (by omega) | replace h40 := e_rng h40
          refine Exists.intro [0, 1, 2, 3, 4, 5, 6] (Exists.intro [q2 0, q1 _] (Exists.intro ([.inr (6, [q2 2, q2 3, q2 4, q2 5, q2 6, q2 1, q1 _, q1 _, q1 _, q1 _, q1 _, q1 _, q1 _, q1 _, q1 _]), .inl (1, 600, .inl _)]) (And.intro rfl (And.intro rfl (And.intro rfl (And.intro ⟨⟨_, rfl⟩, rfl⟩ ?_))))))
          refine Exists.intro _ (Exists.intro _ (Exists.intro _ (Exists.intro _ (Exists.intro _ (Exists.intro _ (Exists.intro _ (Exists.intro _ (Exists.intro _ (Exists.intro _ (Exists.intro _ (And.intro rfl (And.intro rfl (?_)))))))))))))
          intro z46 h46
          intro z49 h49
          first | replace h49 := e_add h49 (by omega) | replace h49 := e_rng h49
          intro z52 h52
          first | replace h52 := e_sub h52 (by omega) | replace h52 := e_rng h52
          intro z56 h56
          apply And.intro
          · exact trivial
          intro z68 h68
          first | replace h68 := e_add h68 (by omega) | replace h68 := e_rng h68
          apply And.intro
          · exact trivial
          exact ⟨_, ⟨_, _, rfl, rfl, rfl, rfl, (by first | omega | assumption | exact q_rg_up (by assumption) (by omega) | exact q_rg_up (q_rg_up (by assumption) (by omega)) (by omega) | exact q_rg_cpy (by assumption) (by assumption))⟩, by omega⟩
    simp only [I_X6_takeDigits, h8, if_false] at hI
  rintro lv st w' ⟨rfl, rfl, rfl⟩
  intro z4 h4
  first | replace h4 := e_sub h4 (by omega) | replace h4 := e_rng h4
  apply And.intro
  · exact trivial
  exact ⟨_, _, _, rfl, rfl, rfl, rfl, (by first | omega | assumption | exact q_rg_up (by assumption) (by omega) | exact q_rg_up (q_rg_up (by assumption) (by omega)) (by omega) | exact q_rg_cpy (by assumption) (by assumption))⟩

theorem dX6_advance_0 : decode cX6_advance 0 = .ok (.aload_n 0, 1) := by decide +kernel
theorem dX6_advance_1 : decode cX6_advance 1 = .ok (.getfield 94, 3) := by decide +kernel
theorem dX6_advance_4 : decode cX6_advance 4 = .ok (.aload_n 0, 1) := by decide +kernel
theorem dX6_advance_5 : decode cX6_advance 5 = .ok (.getfield 51, 3) := by decide +kernel
theorem dX6_advance_8 : decode cX6_advance 8 = .ok (.if_icmp .ge 42, 3) := by decide +kernel
theorem dX6_advance_11 : decode cX6_advance 11 = .ok (.aload_n 0, 1) := by decide +kernel
theorem dX6_advance_12 : decode cX6_advance 12 = .ok (.aload_n 0, 1) := by decide +kernel
theorem dX6_advance_13 : decode cX6_advance 13 = .ok (.getfield 94, 3) := by decide +kernel
theorem dX6_advance_16 : decode cX6_advance 16 = .ok (.invokevirtual 117, 3) := by decide +kernel
theorem dX6_advance_19 : decode cX6_advance 19 = .ok (.bipush 10, 2) := by decide +kernel
theorem dX6_advance_21 : decode cX6_advance 21 = .ok (.if_icmp .eq 16, 3) := by decide +kernel
theorem dX6_advance_24 : decode cX6_advance 24 = .ok (.aload_n 0, 1) := by decide +kernel
theorem dX6_advance_25 : decode cX6_advance 25 = .ok (.aload_n 0, 1) := by decide +kernel
theorem dX6_advance_26 : decode cX6_advance 26 = .ok (.getfield 94, 3) := by decide +kernel
theorem dX6_advance_29 : decode cX6_advance 29 = .ok (.invokevirtual 117, 3) := by decide +kernel
theorem dX6_advance_32 : decode cX6_advance 32 = .ok (.bipush 32, 2) := by decide +kernel
theorem dX6_advance_34 : decode cX6_advance 34 = .ok (.if_icmp .ne 16, 3) := by decide +kernel
theorem dX6_advance_37 : decode cX6_advance 37 = .ok (.aload_n 0, 1) := by decide +kernel
theorem dX6_advance_38 : decode cX6_advance 38 = .ok (.dup, 1) := by decide +kernel
theorem dX6_advance_39 : decode cX6_advance 39 = .ok (.getfield 94, 3) := by decide +kernel
theorem dX6_advance_42 : decode cX6_advance 42 = .ok (.iconst 1, 1) := by decide +kernel
theorem dX6_advance_43 : decode cX6_advance 43 = .ok (.iadd, 1) := by decide +kernel
theorem dX6_advance_44 : decode cX6_advance 44 = .ok (.putfield 94, 3) := by decide +kernel
theorem dX6_advance_47 : decode cX6_advance 47 = .ok (.goto (-47), 3) := by decide +kernel
theorem dX6_advance_50 : decode cX6_advance 50 = .ok (.aload_n 0, 1) := by decide +kernel
theorem dX6_advance_51 : decode cX6_advance 51 = .ok (.aload_n 0, 1) := by decide +kernel
theorem dX6_advance_52 : decode cX6_advance 52 = .ok (.getfield 94, 3) := by decide +kernel
theorem dX6_advance_55 : decode cX6_advance 55 = .ok (.putfield 72, 3) := by decide +kernel
theorem dX6_advance_58 : decode cX6_advance 58 = .ok (.aload_n 0, 1) := by decide +kernel
theorem dX6_advance_59 : decode cX6_advance 59 = .ok (.getfield 94, 3) := by decide +kernel
theorem dX6_advance_62 : decode cX6_advance 62 = .ok (.aload_n 0, 1) := by decide +kernel
theorem dX6_advance_63 : decode cX6_advance 63 = .ok (.getfield 51, 3) := by decide +kernel
theorem dX6_advance_66 : decode cX6_advance 66 = .ok (.if_icmp .lt 9, 3) := by decide +kernel
theorem dX6_advance_69 : decode cX6_advance 69 = .ok (.aload_n 0, 1) := by decide +kernel
theorem dX6_advance_70 : decode cX6_advance 70 = .ok (.iconst 0, 1) := by decide +kernel
theorem dX6_advance_71 : decode cX6_advance 71 = .ok (.putfield 58, 3) := by decide +kernel
theorem dX6_advance_74 : decode cX6_advance 74 = .ok (.return_, 1) := by decide +kernel
theorem dX6_advance_75 : decode cX6_advance 75 = .ok (.aload_n 0, 1) := by decide +kernel
theorem dX6_advance_76 : decode cX6_advance 76 = .ok (.aload_n 0, 1) := by decide +kernel
theorem dX6_advance_77 : decode cX6_advance 77 = .ok (.getfield 94, 3) := by decide +kernel
theorem dX6_advance_80 : decode cX6_advance 80 = .ok (.invokevirtual 117, 3) := by decide +kernel
theorem dX6_advance_83 : decode cX6_advance 83 = .ok (.istore_n 1, 1) := by decide +kernel
theorem dX6_advance_84 : decode cX6_advance 84 = .ok (.aload_n 0, 1) := by decide +kernel
theorem dX6_advance_85 : decode cX6_advance 85 = .ok (.dup, 1) := by decide +kernel
theorem dX6_advance_86 : decode cX6_advance 86 = .ok (.getfield 94, 3) := by decide +kernel
theorem dX6_advance_89 : decode cX6_advance 89 = .ok (.iconst 1, 1) := by decide +kernel
theorem dX6_advance_90 : decode cX6_advance 90 = .ok (.iadd, 1) := by decide +kernel
theorem dX6_advance_91 : decode cX6_advance 91 = .ok (.putfield 94, 3) := by decide +kernel
theorem dX6_advance_94 : decode cX6_advance 94 = .ok (.iload_n 1, 1) := by decide +kernel
theorem dX6_advance_95 : decode cX6_advance 95 = .ok (.invokestatic 121, 3) := by decide +kernel
theorem dX6_advance_98 : decode cX6_advance 98 = .ok (.ifCond .eq 49, 3) := by decide +kernel
theorem dX6_advance_101 : decode cX6_advance 101 = .ok (.aload_n 0, 1) := by decide +kernel
theorem dX6_advance_102 : decode cX6_advance 102 = .ok (.getfield 94, 3) := by decide +kernel
theorem dX6_advance_105 : decode cX6_advance 105 = .ok (.aload_n 0, 1) := by decide +kernel
theorem dX6_advance_106 : decode cX6_advance 106 = .ok (.getfield 51, 3) := by decide +kernel
theorem dX6_advance_109 : decode cX6_advance 109 = .ok (.if_icmp .ge 30, 3) := by decide +kernel
theorem dX6_advance_112 : decode cX6_advance 112 = .ok (.aload_n 0, 1) := by decide +kernel
theorem dX6_advance_113 : decode cX6_advance 113 = .ok (.aload_n 0, 1) := by decide +kernel
theorem dX6_advance_114 : decode cX6_advance 114 = .ok (.getfield 94, 3) := by decide +kernel
theorem dX6_advance_117 : decode cX6_advance 117 = .ok (.invokevirtual 117, 3) := by decide +kernel
theorem dX6_advance_120 : decode cX6_advance 120 = .ok (.invokestatic 121, 3) := by decide +kernel
theorem dX6_advance_123 : decode cX6_advance 123 = .ok (.ifCond .eq 16, 3) := by decide +kernel
theorem dX6_advance_126 : decode cX6_advance 126 = .ok (.aload_n 0, 1) := by decide +kernel
theorem dX6_advance_127 : decode cX6_advance 127 = .ok (.dup, 1) := by decide +kernel
theorem dX6_advance_128 : decode cX6_advance 128 = .ok (.getfield 94, 3) := by decide +kernel
theorem dX6_advance_131 : decode cX6_advance 131 = .ok (.iconst 1, 1) := by decide +kernel
theorem dX6_advance_132 : decode cX6_advance 132 = .ok (.iadd, 1) := by decide +kernel
theorem dX6_advance_133 : decode cX6_advance 133 = .ok (.putfield 94, 3) := by decide +kernel
theorem dX6_advance_136 : decode cX6_advance 136 = .ok (.goto (-35), 3) := by decide +kernel
theorem dX6_advance_139 : decode cX6_advance 139 = .ok (.aload_n 0, 1) := by decide +kernel
theorem dX6_advance_140 : decode cX6_advance 140 = .ok (.iconst 1, 1) := by decide +kernel
theorem dX6_advance_141 : decode cX6_advance 141 = .ok (.putfield 58, 3) := by decide +kernel
theorem dX6_advance_144 : decode cX6_advance 144 = .ok (.goto 33, 3) := by decide +kernel
theorem dX6_advance_147 : decode cX6_advance 147 = .ok (.iload_n 1, 1) := by decide +kernel
theorem dX6_advance_148 : decode cX6_advance 148 = .ok (.invokestatic 124, 3) := by decide +kernel
theorem dX6_advance_151 : decode cX6_advance 151 = .ok (.ifCond .eq 11, 3) := by decide +kernel
theorem dX6_advance_154 : decode cX6_advance 154 = .ok (.aload_n 0, 1) := by decide +kernel
theorem dX6_advance_155 : decode cX6_advance 155 = .ok (.iload_n 1, 1) := by decide +kernel
theorem dX6_advance_156 : decode cX6_advance 156 = .ok (.invokevirtual 127, 3) := by decide +kernel
theorem dX6_advance_159 : decode cX6_advance 159 = .ok (.goto 18, 3) := by decide +kernel
theorem dX6_advance_162 : decode cX6_advance 162 = .ok (.aload_n 0, 1) := by decide +kernel
theorem dX6_advance_163 : decode cX6_advance 163 = .ok (.iload_n 1, 1) := by decide +kernel
theorem dX6_advance_164 : decode cX6_advance 164 = .ok (.bipush 59, 2) := by decide +kernel
theorem dX6_advance_166 : decode cX6_advance 166 = .ok (.if_icmp .ne 7, 3) := by decide +kernel
theorem dX6_advance_169 : decode cX6_advance 169 = .ok (.iconst 3, 1) := by decide +kernel
theorem dX6_advance_170 : decode cX6_advance 170 = .ok (.goto 4, 3) := by decide +kernel
theorem dX6_advance_173 : decode cX6_advance 173 = .ok (.iconst 4, 1) := by decide +kernel
theorem dX6_advance_174 : decode cX6_advance 174 = .ok (.putfield 58, 3) := by decide +kernel
theorem dX6_advance_177 : decode cX6_advance 177 = .ok (.return_, 1) := by decide +kernel
def is_X6_advance : Nat → List Nat := fun d => if d = 0 then [0] else if d = 101 then [0] else []
set_option maxRecDepth 100000 in
def b_X6_advance_177 (J : Nat → List qV → List qV → qW → Prop) (Q : qR) : qK := x_vret Q
set_option maxRecDepth 100000 in
theorem s_X6_advance_177 {p : Program} {l : Launch} {e : Env} {R : Room} {s : State} {m : MethodId} {args : Array Value} {below : List Frame} {meth : Method} {c : Code} {nW : Nat} {dC : Nat → ClassId} {dI : Nat → Nat → Nat} {k : Nat → ClassId} {g : Nat → Nat} {A : Nat → Prop} {J : Nat → List qV → List qV → qW → Prop} {Q : qR} (X : q_X p R s m args meth c cX6_advance 2 nW 2 42 RX6 none dC dI k g A) (hJ : ∀ d : Nat, q_Sd p l e R s m args below meth c 2 nW dC dI k g A (MQ below (q_post (dC, dI) k g nW Q A) args s 0 0 A) d (x_cut (is_X6_advance d) (J d))) : q_Sd p l e R s m args below meth c 2 nW dC dI k g A (MQ below (q_post (dC, dI) k g nW Q A) args s 0 0 A) 177 (b_X6_advance_177 J Q) := by
  unfold b_X6_advance_177
  exact s_vret X dX6_advance_177
set_option maxRecDepth 100000 in
def b_X6_advance_174 (J : Nat → List qV → List qV → qW → Prop) (Q : qR) : qK := x_put 6 11 q_oki (x_nw (b_X6_advance_177 J Q))
set_option maxRecDepth 100000 in
theorem s_X6_advance_174 {p : Program} {l : Launch} {e : Env} {R : Room} {s : State} {m : MethodId} {args : Array Value} {below : List Frame} {meth : Method} {c : Code} {nW : Nat} {dC : Nat → ClassId} {dI : Nat → Nat → Nat} {k : Nat → ClassId} {g : Nat → Nat} {A : Nat → Prop} {J : Nat → List qV → List qV → qW → Prop} {Q : qR} (X : q_X p R s m args meth c cX6_advance 2 nW 2 42 RX6 none dC dI k g A) (hJ : ∀ d : Nat, q_Sd p l e R s m args below meth c 2 nW dC dI k g A (MQ below (q_post (dC, dI) k g nW Q A) args s 0 0 A) d (x_cut (is_X6_advance d) (J d))) : q_Sd p l e R s m args below meth c 2 nW dC dI k g A (MQ below (q_post (dC, dI) k g nW Q A) args s 0 0 A) 174 (b_X6_advance_174 J Q) := by
  unfold b_X6_advance_174
  refine s_put X (T := TX6) (C := RX6) (N := 15) tu_X6 tyX6_ok nmX6 rfl (by decide) tw_284 rfl (by decide +kernel) q_oki_t dX6_advance_174 ?_
  refine s_nw ?_
  exact s_X6_advance_177 X hJ
set_option maxRecDepth 100000 in
def b_X6_advance_139 (J : Nat → List qV → List qV → qW → Prop) (Q : qR) : qK := x_aload 0 (x_int 1 (x_put 6 11 q_oki (x_nw (b_X6_advance_177 J Q))))
set_option maxRecDepth 100000 in
theorem s_X6_advance_139 {p : Program} {l : Launch} {e : Env} {R : Room} {s : State} {m : MethodId} {args : Array Value} {below : List Frame} {meth : Method} {c : Code} {nW : Nat} {dC : Nat → ClassId} {dI : Nat → Nat → Nat} {k : Nat → ClassId} {g : Nat → Nat} {A : Nat → Prop} {J : Nat → List qV → List qV → qW → Prop} {Q : qR} (X : q_X p R s m args meth c cX6_advance 2 nW 2 42 RX6 none dC dI k g A) (hJ : ∀ d : Nat, q_Sd p l e R s m args below meth c 2 nW dC dI k g A (MQ below (q_post (dC, dI) k g nW Q A) args s 0 0 A) d (x_cut (is_X6_advance d) (J d))) : q_Sd p l e R s m args below meth c 2 nW dC dI k g A (MQ below (q_post (dC, dI) k g nW Q A) args s 0 0 A) 139 (b_X6_advance_139 J Q) := by
  unfold b_X6_advance_139
  refine s_aload_n X rfl dX6_advance_139 ?_
  refine s_iconst X ⟨by decide, by decide⟩ dX6_advance_140 ?_
  refine s_put X (T := TX6) (C := RX6) (N := 15) tu_X6 tyX6_ok nmX6 rfl (by decide) tw_284 rfl (by decide +kernel) q_oki_t dX6_advance_141 ?_
  refine s_nw ?_
  refine s_goto X (tgt := 177) dX6_advance_144 (by decide) ?_
  exact s_X6_advance_177 X hJ
set_option maxRecDepth 100000 in
def b_X6_advance_101 (J : Nat → List qV → List qV → qW → Prop) (Q : qR) : qK := x_aload 0 (x_get 6 10 (x_aload 0 (x_get 6 6 (x_icmp_ge (b_X6_advance_139 J Q) (x_aload 0 (x_aload 0 (x_get 6 10 (x_callr (some 6) 2 spr_X6_byteAt (x_callr none 1 spr_X6_isLetter (x_if_eq (b_X6_advance_139 J Q) (x_aload 0 (x_dup (x_get 6 10 (x_int 1 (x_iadd (x_put 6 10 q_oki (x_nw (x_cut [0] (J 101)))))))))))))))))))
set_option maxRecDepth 100000 in
theorem s_X6_advance_101 {p : Program} {l : Launch} {e : Env} {R : Room} {s : State} {m : MethodId} {args : Array Value} {below : List Frame} {meth : Method} {c : Code} {nW : Nat} {dC : Nat → ClassId} {dI : Nat → Nat → Nat} {k : Nat → ClassId} {g : Nat → Nat} {A : Nat → Prop} {J : Nat → List qV → List qV → qW → Prop} {Q : qR} (X : q_X p R s m args meth c cX6_advance 2 nW 2 42 RX6 none dC dI k g A) (hJ : ∀ d : Nat, q_Sd p l e R s m args below meth c 2 nW dC dI k g A (MQ below (q_post (dC, dI) k g nW Q A) args s 0 0 A) d (x_cut (is_X6_advance d) (J d))) : q_Sd p l e R s m args below meth c 2 nW dC dI k g A (MQ below (q_post (dC, dI) k g nW Q A) args s 0 0 A) 101 (b_X6_advance_101 J Q) := by
  unfold b_X6_advance_101
  refine s_aload_n X rfl dX6_advance_101 ?_
  refine s_get X (T := TX6) (C := RX6) (N := 15) tu_X6 rfl (by decide) tw_283 dX6_advance_102 ?_
  refine s_aload_n X rfl dX6_advance_105 ?_
  refine s_get X (T := TX6) (C := RX6) (N := 15) tu_X6 rfl (by decide) tw_277 dX6_advance_106 ?_
  refine s_icmp_ge X (tgt := 139) dX6_advance_109 (by decide) ?_ ?_
  · exact s_X6_advance_139 X hJ
  · refine s_aload_n X rfl dX6_advance_112 ?_
    refine s_aload_n X rfl dX6_advance_113 ?_
    refine s_get X (T := TX6) (C := RX6) (N := 15) tu_X6 rfl (by decide) tw_283 dX6_advance_114 ?_
    refine s_callVr X (m_X6_byteAt l) tw_376 tw_377 tw_1509 tw_128 tw_378 rfl (by decide +kernel) ⟨by decide, by decide⟩ dX6_advance_117 ?_
    refine s_callSr X (m_X6_isLetter l) tw_379 tw_380 tw_128 tw_381 (by decide +kernel) ⟨by decide, by decide⟩ dX6_advance_120 ?_
    refine s_if_eq X (tgt := 139) dX6_advance_123 (by decide) ?_ ?_
    · exact s_X6_advance_139 X hJ
    · refine s_aload_n X rfl dX6_advance_126 ?_
      refine s_dup X dX6_advance_127 ?_
      refine s_get X (T := TX6) (C := RX6) (N := 15) tu_X6 rfl (by decide) tw_283 dX6_advance_128 ?_
      refine s_iconst X ⟨by decide, by decide⟩ dX6_advance_131 ?_
      refine s_iadd X dX6_advance_132 ?_
      refine s_put X (T := TX6) (C := RX6) (N := 15) tu_X6 tyX6_ok nmX6 rfl (by decide) tw_283 rfl (by decide +kernel) q_oki_t dX6_advance_133 ?_
      refine s_nw ?_
      refine s_goto X (tgt := 101) dX6_advance_136 (by decide) ?_
      exact hJ 101
set_option maxRecDepth 100000 in
def b_X6_advance_94 (J : Nat → List qV → List qV → qW → Prop) (Q : qR) : qK := x_iload 1 (x_callr none 1 spr_X6_isLetter (x_if_eq (x_iload 1 (x_callr none 1 spr_X6_isDigit (x_if_eq (x_aload 0 (x_iload 1 (x_int 59 (x_icmp_ne (x_int 4 (b_X6_advance_174 J Q)) (x_int 3 (b_X6_advance_174 J Q)))))) (x_aload 0 (x_iload 1 (x_call (some 6) 2 sp_X6_takeDigits (x_nw (b_X6_advance_177 J Q)))))))) (x_cut [0] (J 101))))
set_option maxRecDepth 100000 in
theorem s_X6_advance_94 {p : Program} {l : Launch} {e : Env} {R : Room} {s : State} {m : MethodId} {args : Array Value} {below : List Frame} {meth : Method} {c : Code} {nW : Nat} {dC : Nat → ClassId} {dI : Nat → Nat → Nat} {k : Nat → ClassId} {g : Nat → Nat} {A : Nat → Prop} {J : Nat → List qV → List qV → qW → Prop} {Q : qR} (X : q_X p R s m args meth c cX6_advance 2 nW 2 42 RX6 none dC dI k g A) (hJ : ∀ d : Nat, q_Sd p l e R s m args below meth c 2 nW dC dI k g A (MQ below (q_post (dC, dI) k g nW Q A) args s 0 0 A) d (x_cut (is_X6_advance d) (J d))) : q_Sd p l e R s m args below meth c 2 nW dC dI k g A (MQ below (q_post (dC, dI) k g nW Q A) args s 0 0 A) 94 (b_X6_advance_94 J Q) := by
  unfold b_X6_advance_94
  refine s_iload_n X rfl dX6_advance_94 ?_
  refine s_callSr X (m_X6_isLetter l) tw_379 tw_380 tw_128 tw_381 (by decide +kernel) ⟨by decide, by decide⟩ dX6_advance_95 ?_
  refine s_if_eq X (tgt := 147) dX6_advance_98 (by decide) ?_ ?_
  · refine s_iload_n X rfl dX6_advance_147 ?_
    refine s_callSr X (m_X6_isDigit l) tw_382 tw_383 tw_128 tw_384 (by decide +kernel) ⟨by decide, by decide⟩ dX6_advance_148 ?_
    refine s_if_eq X (tgt := 162) dX6_advance_151 (by decide) ?_ ?_
    · refine s_aload_n X rfl dX6_advance_162 ?_
      refine s_iload_n X rfl dX6_advance_163 ?_
      refine s_bipush X ⟨by decide, by decide⟩ (by decide) dX6_advance_164 ?_
      refine s_icmp_ne X (tgt := 173) dX6_advance_166 (by decide) ?_ ?_
      · refine s_iconst X ⟨by decide, by decide⟩ dX6_advance_173 ?_
        exact s_X6_advance_174 X hJ
      · refine s_iconst X ⟨by decide, by decide⟩ dX6_advance_169 ?_
        refine s_goto X (tgt := 174) dX6_advance_170 (by decide) ?_
        exact s_X6_advance_174 X hJ
    · refine s_aload_n X rfl dX6_advance_154 ?_
      refine s_iload_n X rfl dX6_advance_155 ?_
      refine s_callV X (m_X6_takeDigits l) tw_385 tw_386 tw_1519 tw_128 tw_387 rfl (by decide +kernel) ⟨by decide, by decide⟩ dX6_advance_156 ?_
      refine s_nw ?_
      refine s_goto X (tgt := 177) dX6_advance_159 (by decide) ?_
      exact s_X6_advance_177 X hJ
  · exact hJ 101
set_option maxRecDepth 100000 in
def b_X6_advance_50 (J : Nat → List qV → List qV → qW → Prop) (Q : qR) : qK := x_aload 0 (x_aload 0 (x_get 6 10 (x_put 6 9 q_oki (x_nw (x_aload 0 (x_get 6 10 (x_aload 0 (x_get 6 6 (x_icmp_lt (x_aload 0 (x_aload 0 (x_get 6 10 (x_callr (some 6) 2 spr_X6_byteAt (x_istore 1 (x_aload 0 (x_dup (x_get 6 10 (x_int 1 (x_iadd (x_put 6 10 q_oki (x_nw (b_X6_advance_94 J Q))))))))))))) (x_aload 0 (x_int 0 (x_put 6 11 q_oki (x_nw (x_vret Q))))))))))))))
set_option maxRecDepth 100000 in
theorem s_X6_advance_50 {p : Program} {l : Launch} {e : Env} {R : Room} {s : State} {m : MethodId} {args : Array Value} {below : List Frame} {meth : Method} {c : Code} {nW : Nat} {dC : Nat → ClassId} {dI : Nat → Nat → Nat} {k : Nat → ClassId} {g : Nat → Nat} {A : Nat → Prop} {J : Nat → List qV → List qV → qW → Prop} {Q : qR} (X : q_X p R s m args meth c cX6_advance 2 nW 2 42 RX6 none dC dI k g A) (hJ : ∀ d : Nat, q_Sd p l e R s m args below meth c 2 nW dC dI k g A (MQ below (q_post (dC, dI) k g nW Q A) args s 0 0 A) d (x_cut (is_X6_advance d) (J d))) : q_Sd p l e R s m args below meth c 2 nW dC dI k g A (MQ below (q_post (dC, dI) k g nW Q A) args s 0 0 A) 50 (b_X6_advance_50 J Q) := by
  unfold b_X6_advance_50
  refine s_aload_n X rfl dX6_advance_50 ?_
  refine s_aload_n X rfl dX6_advance_51 ?_
  refine s_get X (T := TX6) (C := RX6) (N := 15) tu_X6 rfl (by decide) tw_283 dX6_advance_52 ?_
  refine s_put X (T := TX6) (C := RX6) (N := 15) tu_X6 tyX6_ok nmX6 rfl (by decide) tw_282 rfl (by decide +kernel) q_oki_t dX6_advance_55 ?_
  refine s_nw ?_
  refine s_aload_n X rfl dX6_advance_58 ?_
  refine s_get X (T := TX6) (C := RX6) (N := 15) tu_X6 rfl (by decide) tw_283 dX6_advance_59 ?_
  refine s_aload_n X rfl dX6_advance_62 ?_
  refine s_get X (T := TX6) (C := RX6) (N := 15) tu_X6 rfl (by decide) tw_277 dX6_advance_63 ?_
  refine s_icmp_lt X (tgt := 75) dX6_advance_66 (by decide) ?_ ?_
  · refine s_aload_n X rfl dX6_advance_75 ?_
    refine s_aload_n X rfl dX6_advance_76 ?_
    refine s_get X (T := TX6) (C := RX6) (N := 15) tu_X6 rfl (by decide) tw_283 dX6_advance_77 ?_
    refine s_callVr X (m_X6_byteAt l) tw_376 tw_377 tw_1509 tw_128 tw_378 rfl (by decide +kernel) ⟨by decide, by decide⟩ dX6_advance_80 ?_
    refine s_istore_n X rfl (by decide) dX6_advance_83 ?_
    refine s_aload_n X rfl dX6_advance_84 ?_
    refine s_dup X dX6_advance_85 ?_
    refine s_get X (T := TX6) (C := RX6) (N := 15) tu_X6 rfl (by decide) tw_283 dX6_advance_86 ?_
    refine s_iconst X ⟨by decide, by decide⟩ dX6_advance_89 ?_
    refine s_iadd X dX6_advance_90 ?_
    refine s_put X (T := TX6) (C := RX6) (N := 15) tu_X6 tyX6_ok nmX6 rfl (by decide) tw_283 rfl (by decide +kernel) q_oki_t dX6_advance_91 ?_
    refine s_nw ?_
    exact s_X6_advance_94 X hJ
  · refine s_aload_n X rfl dX6_advance_69 ?_
    refine s_iconst X ⟨by decide, by decide⟩ dX6_advance_70 ?_
    refine s_put X (T := TX6) (C := RX6) (N := 15) tu_X6 tyX6_ok nmX6 rfl (by decide) tw_284 rfl (by decide +kernel) q_oki_t dX6_advance_71 ?_
    refine s_nw ?_
    exact s_vret X dX6_advance_74
set_option maxRecDepth 100000 in
def b_X6_advance_37 (J : Nat → List qV → List qV → qW → Prop) (Q : qR) : qK := x_aload 0 (x_dup (x_get 6 10 (x_int 1 (x_iadd (x_put 6 10 q_oki (x_nw (x_cut [0] (J 0))))))))
set_option maxRecDepth 100000 in
theorem s_X6_advance_37 {p : Program} {l : Launch} {e : Env} {R : Room} {s : State} {m : MethodId} {args : Array Value} {below : List Frame} {meth : Method} {c : Code} {nW : Nat} {dC : Nat → ClassId} {dI : Nat → Nat → Nat} {k : Nat → ClassId} {g : Nat → Nat} {A : Nat → Prop} {J : Nat → List qV → List qV → qW → Prop} {Q : qR} (X : q_X p R s m args meth c cX6_advance 2 nW 2 42 RX6 none dC dI k g A) (hJ : ∀ d : Nat, q_Sd p l e R s m args below meth c 2 nW dC dI k g A (MQ below (q_post (dC, dI) k g nW Q A) args s 0 0 A) d (x_cut (is_X6_advance d) (J d))) : q_Sd p l e R s m args below meth c 2 nW dC dI k g A (MQ below (q_post (dC, dI) k g nW Q A) args s 0 0 A) 37 (b_X6_advance_37 J Q) := by
  unfold b_X6_advance_37
  refine s_aload_n X rfl dX6_advance_37 ?_
  refine s_dup X dX6_advance_38 ?_
  refine s_get X (T := TX6) (C := RX6) (N := 15) tu_X6 rfl (by decide) tw_283 dX6_advance_39 ?_
  refine s_iconst X ⟨by decide, by decide⟩ dX6_advance_42 ?_
  refine s_iadd X dX6_advance_43 ?_
  refine s_put X (T := TX6) (C := RX6) (N := 15) tu_X6 tyX6_ok nmX6 rfl (by decide) tw_283 rfl (by decide +kernel) q_oki_t dX6_advance_44 ?_
  refine s_nw ?_
  refine s_goto X (tgt := 0) dX6_advance_47 (by decide) ?_
  exact hJ 0
set_option maxRecDepth 100000 in
def b_X6_advance_0 (J : Nat → List qV → List qV → qW → Prop) (Q : qR) : qK := x_aload 0 (x_get 6 10 (x_aload 0 (x_get 6 6 (x_icmp_ge (b_X6_advance_50 J Q) (x_aload 0 (x_aload 0 (x_get 6 10 (x_callr (some 6) 2 spr_X6_byteAt (x_int 10 (x_icmp_eq (b_X6_advance_37 J Q) (x_aload 0 (x_aload 0 (x_get 6 10 (x_callr (some 6) 2 spr_X6_byteAt (x_int 32 (x_icmp_ne (b_X6_advance_50 J Q) (b_X6_advance_37 J Q)))))))))))))))))
set_option maxRecDepth 100000 in
theorem s_X6_advance_0 {p : Program} {l : Launch} {e : Env} {R : Room} {s : State} {m : MethodId} {args : Array Value} {below : List Frame} {meth : Method} {c : Code} {nW : Nat} {dC : Nat → ClassId} {dI : Nat → Nat → Nat} {k : Nat → ClassId} {g : Nat → Nat} {A : Nat → Prop} {J : Nat → List qV → List qV → qW → Prop} {Q : qR} (X : q_X p R s m args meth c cX6_advance 2 nW 2 42 RX6 none dC dI k g A) (hJ : ∀ d : Nat, q_Sd p l e R s m args below meth c 2 nW dC dI k g A (MQ below (q_post (dC, dI) k g nW Q A) args s 0 0 A) d (x_cut (is_X6_advance d) (J d))) : q_Sd p l e R s m args below meth c 2 nW dC dI k g A (MQ below (q_post (dC, dI) k g nW Q A) args s 0 0 A) 0 (b_X6_advance_0 J Q) := by
  unfold b_X6_advance_0
  refine s_aload_n X rfl dX6_advance_0 ?_
  refine s_get X (T := TX6) (C := RX6) (N := 15) tu_X6 rfl (by decide) tw_283 dX6_advance_1 ?_
  refine s_aload_n X rfl dX6_advance_4 ?_
  refine s_get X (T := TX6) (C := RX6) (N := 15) tu_X6 rfl (by decide) tw_277 dX6_advance_5 ?_
  refine s_icmp_ge X (tgt := 50) dX6_advance_8 (by decide) ?_ ?_
  · exact s_X6_advance_50 X hJ
  · refine s_aload_n X rfl dX6_advance_11 ?_
    refine s_aload_n X rfl dX6_advance_12 ?_
    refine s_get X (T := TX6) (C := RX6) (N := 15) tu_X6 rfl (by decide) tw_283 dX6_advance_13 ?_
    refine s_callVr X (m_X6_byteAt l) tw_376 tw_377 tw_1509 tw_128 tw_378 rfl (by decide +kernel) ⟨by decide, by decide⟩ dX6_advance_16 ?_
    refine s_bipush X ⟨by decide, by decide⟩ (by decide) dX6_advance_19 ?_
    refine s_icmp_eq X (tgt := 37) dX6_advance_21 (by decide) ?_ ?_
    · exact s_X6_advance_37 X hJ
    · refine s_aload_n X rfl dX6_advance_24 ?_
      refine s_aload_n X rfl dX6_advance_25 ?_
      refine s_get X (T := TX6) (C := RX6) (N := 15) tu_X6 rfl (by decide) tw_283 dX6_advance_26 ?_
      refine s_callVr X (m_X6_byteAt l) tw_376 tw_377 tw_1509 tw_128 tw_378 rfl (by decide +kernel) ⟨by decide, by decide⟩ dX6_advance_29 ?_
      refine s_bipush X ⟨by decide, by decide⟩ (by decide) dX6_advance_32 ?_
      refine s_icmp_ne X (tgt := 50) dX6_advance_34 (by decide) ?_ ?_
      · exact s_X6_advance_50 X hJ
      · exact s_X6_advance_37 X hJ

def sp_X6_advance : qS := fun av w Q => ∃ (rln : Int) (rfa : Int) (rpl : Int) (rst : Int) (rnx : Int) (rtk : Int) (rnm : Int) (rnp : Int) (rnd : Int) (tp : Nat → Int), av = [q2 0] ∧ w = [.inr (6, [q2 2, q2 3, q2 4, q2 5, q2 6, q2 1, q1 rln, q1 rfa, q1 rpl, q1 rst, q1 rnx, q1 rtk, q1 rnm, q1 rnp, q1 rnd]), .inl (1, 600, .inl tp)] ∧ (0 ≤ rln ∧ rln ≤ 600 ∧ 0 ≤ rnx ∧ rnx ≤ rln ∧ 0 ≤ rst ∧ rst ≤ 600) ∧ (∀ (x_rst : Int) (x_rnx : Int) (x_rtk : Int) (x_rnm : Int), rnx ≤ x_rnx ∧ x_rnx ≤ rln ∧ 0 ≤ x_rst ∧ x_rst ≤ 600 → Q none ([.inr (6, [q2 2, q2 3, q2 4, q2 5, q2 6, q2 1, q1 rln, q1 rfa, q1 rpl, q1 x_rst, q1 x_rnx, q1 x_rtk, q1 x_rnm, q1 rnp, q1 rnd]), .inl (1, 600, .inl tp)]))
def I_X6_advance (rln : Int) (rfa : Int) (rpl : Int) (rst : Int) (rnx : Int) (rtk : Int) (rnm : Int) (rnp : Int) (rnd : Int) (tp : Nat → Int) : Nat → Nat → List qV → List qV → qW → Prop := fun dz mz vz sz wz => if dz = 0 then (∃ (y_rnx : Int), vz = [q2 0] ∧ sz = [] ∧ wz = [.inr (6, [q2 2, q2 3, q2 4, q2 5, q2 6, q2 1, q1 rln, q1 rfa, q1 rpl, q1 rst, q1 y_rnx, q1 rtk, q1 rnm, q1 rnp, q1 rnd]), .inl (1, 600, .inl tp)] ∧ mz = 10000 + (rln - y_rnx).toNat ∧ (rnx ≤ y_rnx ∧ y_rnx ≤ rln)) else if dz = 101 then (∃ (y_rst : Int) (y_rnx : Int), vz = [q2 0] ∧ sz = [] ∧ wz = [.inr (6, [q2 2, q2 3, q2 4, q2 5, q2 6, q2 1, q1 rln, q1 rfa, q1 rpl, q1 y_rst, q1 y_rnx, q1 rtk, q1 rnm, q1 rnp, q1 rnd]), .inl (1, 600, .inl tp)] ∧ mz = (rln - y_rnx).toNat ∧ (rnx ≤ y_rnx ∧ y_rnx ≤ rln ∧ 0 ≤ y_rst ∧ y_rst ≤ 600)) else False
set_option maxHeartbeats 4000000 in
set_option maxRecDepth 100000 in
theorem m_X6_advance (l : Launch) : q_M l yX6_advance cX6_advance 2 none 2 42 sp_X6_advance := by
  refine q_meth (by decide) (fun av w Q h => by obtain ⟨rln, rfa, rpl, rst, rnx, rtk, rnm, rnp, rnd, tp, rfl, rfl, hr, hQ⟩ := h; exact Nat.le_of_ble_eq_true rfl) ?_
  intro p e R s m args below meth c dC dI k g A av w Q hsp oka okw X
  obtain ⟨rln, rfa, rpl, rst, rnx, rtk, rnm, rnp, rnd, tp, rfl, rfl, hr, hQ⟩ := hsp
  refine s_mono (q_loopn (is := is_X6_advance) (I_X6_advance rln rfa rpl rst rnx rtk rnm rnp rnd tp) (fun dz J => if dz = 0 then b_X6_advance_0 J Q else if dz = 101 then b_X6_advance_101 J Q else q_F) ?hs ?hv 0) ?_
  case hs =>
    intro d J hJ
    by_cases h0 : d = 0
    · subst h0; exact s_X6_advance_0 X hJ
    by_cases h101 : d = 101
    · subst h101; exact s_X6_advance_101 X hJ
    simp only [h0, h101, if_false]
    exact s_F
  case hv =>
    intro dz mz vz sz wz hI okv oks okw hlen
    by_cases h0 : dz = 0
    · subst h0
      obtain ⟨y_rnx, rfl, rfl, rfl, hn, hp⟩ := hI
      apply And.intro
      · intro h8
        apply And.intro
        · exact trivial
        apply And.intro
        · intro h66
          refine Exists.intro [0, 1, 2, 3, 4, 5, 6] (Exists.intro [q2 0, q1 _] (Exists.intro ([.inr (6, [q2 2, q2 3, q2 4, q2 5, q2 6, q2 1, q1 _, q1 _, q1 _, q1 _, q1 _, q1 _, q1 _, q1 _, q1 _]), .inl (1, 600, .inl _)]) (And.intro rfl (And.intro rfl (And.intro rfl (And.intro ⟨⟨_, rfl⟩, rfl⟩ ?_))))))
          refine Exists.intro _ (Exists.intro _ (Exists.intro _ (Exists.intro _ (Exists.intro _ (Exists.intro _ (Exists.intro _ (Exists.intro _ (Exists.intro _ (Exists.intro _ (Exists.intro _ (And.intro rfl (And.intro rfl (?_)))))))))))))
          intro z80 h80
          intro z90 h90
          first | replace h90 := e_add h90 (by omega) | replace h90 := e_rng h90
          apply And.intro
          · exact trivial
          refine Exists.intro [] (Exists.intro [q1 _] (Exists.intro [] (And.intro rfl (And.intro rfl (And.intro rfl (And.intro trivial ?_))))))
          refine Exists.intro _ (And.intro rfl (And.intro rfl (?_)))
          intro z95 h95
          apply And.intro
          · intro h98
            refine Exists.intro [] (Exists.intro [q1 _] (Exists.intro [] (And.intro rfl (And.intro rfl (And.intro rfl (And.intro trivial ?_))))))
            refine Exists.intro _ (And.intro rfl (And.intro rfl (?_)))
            intro z148 h148
            apply And.intro
            · intro h151
              apply And.intro
              · intro h166
                apply And.intro
                · exact trivial
                exact hQ _ _ _ _ (by first | omega | assumption | exact q_rg_up (by assumption) (by omega) | exact q_rg_up (q_rg_up (by assumption) (by omega)) (by omega) | exact q_rg_cpy (by assumption) (by assumption))
              · intro h166
                apply And.intro
                · exact trivial
                exact hQ _ _ _ _ (by first | omega | assumption | exact q_rg_up (by assumption) (by omega) | exact q_rg_up (q_rg_up (by assumption) (by omega)) (by omega) | exact q_rg_cpy (by assumption) (by assumption))
            · intro h151
              refine Exists.intro [0, 1, 2, 3, 4, 5, 6] (Exists.intro [q2 0, q1 _] (Exists.intro ([.inr (6, [q2 2, q2 3, q2 4, q2 5, q2 6, q2 1, q1 _, q1 _, q1 _, q1 _, q1 _, q1 _, q1 _, q1 _, q1 _]), .inl (1, 600, .inl _)]) (And.intro rfl (And.intro rfl (And.intro rfl (And.intro ⟨⟨_, rfl⟩, rfl⟩ ?_))))))
              refine Exists.intro _ (Exists.intro _ (Exists.intro _ (Exists.intro _ (Exists.intro _ (Exists.intro _ (Exists.intro _ (Exists.intro _ (Exists.intro _ (Exists.intro _ (Exists.intro _ (And.intro rfl (And.intro rfl (And.intro (by first | omega | assumption | exact q_rg_up (by assumption) (by omega) | exact q_rg_up (q_rg_up (by assumption) (by omega)) (by omega) | exact q_rg_cpy (by assumption) (by assumption)) (?_))))))))))))))
              intro x_rnx_156 x_rtk_156 x_rnm_156 h156
              exact hQ _ _ _ _ (by first | omega | assumption | exact q_rg_up (by assumption) (by omega) | exact q_rg_up (q_rg_up (by assumption) (by omega)) (by omega) | exact q_rg_cpy (by assumption) (by assumption))
          · intro h98
            exact ⟨_, ⟨_, _, rfl, rfl, rfl, rfl, (by first | omega | assumption | exact q_rg_up (by assumption) (by omega) | exact q_rg_up (q_rg_up (by assumption) (by omega)) (by omega) | exact q_rg_cpy (by assumption) (by assumption))⟩, by omega⟩
        · intro h66
          apply And.intro
          · exact trivial
          exact hQ _ _ _ _ (by first | omega | assumption | exact q_rg_up (by assumption) (by omega) | exact q_rg_up (q_rg_up (by assumption) (by omega)) (by omega) | exact q_rg_cpy (by assumption) (by assumption))
      · intro h8
        refine Exists.intro [0, 1, 2, 3, 4, 5, 6] (Exists.intro [q2 0, q1 _] (Exists.intro ([.inr (6, [q2 2, q2 3, q2 4, q2 5, q2 6, q2 1, q1 _, q1 _, q1 _, q1 _, q1 _, q1 _, q1 _, q1 _, q1 _]), .inl (1, 600, .inl _)]) (And.intro rfl (And.intro rfl (And.intro rfl (And.intro ⟨⟨_, rfl⟩, rfl⟩ ?_))))))
        refine Exists.intro _ (Exists.intro _ (Exists.intro _ (Exists.intro _ (Exists.intro _ (Exists.intro _ (Exists.intro _ (Exists.intro _ (Exists.intro _ (Exists.intro _ (Exists.intro _ (And.intro rfl (And.intro rfl (?_)))))))))))))
        intro z16 h16
        apply And.intro
        · intro h21
          intro z43 h43
          first | replace h43 := e_add h43 (by omega) | replace h43 := e_rng h43
          apply And.intro
          · exact trivial
          exact ⟨_, ⟨_, rfl, rfl, rfl, rfl, (by first | omega | assumption | exact q_rg_up (by assumption) (by omega) | exact q_rg_up (q_rg_up (by assumption) (by omega)) (by omega) | exact q_rg_cpy (by assumption) (by assumption))⟩, by omega⟩
        · intro h21
          refine Exists.intro [0, 1, 2, 3, 4, 5, 6] (Exists.intro [q2 0, q1 _] (Exists.intro ([.inr (6, [q2 2, q2 3, q2 4, q2 5, q2 6, q2 1, q1 _, q1 _, q1 _, q1 _, q1 _, q1 _, q1 _, q1 _, q1 _]), .inl (1, 600, .inl _)]) (And.intro rfl (And.intro rfl (And.intro rfl (And.intro ⟨⟨_, rfl⟩, rfl⟩ ?_))))))
          refine Exists.intro _ (Exists.intro _ (Exists.intro _ (Exists.intro _ (Exists.intro _ (Exists.intro _ (Exists.intro _ (Exists.intro _ (Exists.intro _ (Exists.intro _ (Exists.intro _ (And.intro rfl (And.intro rfl (?_)))))))))))))
          intro z29 h29
          apply And.intro
          · intro h34
            apply And.intro
            · exact trivial
            apply And.intro
            · intro h66
              refine Exists.intro [0, 1, 2, 3, 4, 5, 6] (Exists.intro [q2 0, q1 _] (Exists.intro ([.inr (6, [q2 2, q2 3, q2 4, q2 5, q2 6, q2 1, q1 _, q1 _, q1 _, q1 _, q1 _, q1 _, q1 _, q1 _, q1 _]), .inl (1, 600, .inl _)]) (And.intro rfl (And.intro rfl (And.intro rfl (And.intro ⟨⟨_, rfl⟩, rfl⟩ ?_))))))
              refine Exists.intro _ (Exists.intro _ (Exists.intro _ (Exists.intro _ (Exists.intro _ (Exists.intro _ (Exists.intro _ (Exists.intro _ (Exists.intro _ (Exists.intro _ (Exists.intro _ (And.intro rfl (And.intro rfl (?_)))))))))))))
              intro z80 h80
              intro z90 h90
              first | replace h90 := e_add h90 (by omega) | replace h90 := e_rng h90
              apply And.intro
              · exact trivial
              refine Exists.intro [] (Exists.intro [q1 _] (Exists.intro [] (And.intro rfl (And.intro rfl (And.intro rfl (And.intro trivial ?_))))))
              refine Exists.intro _ (And.intro rfl (And.intro rfl (?_)))
              intro z95 h95
              apply And.intro
              · intro h98
                refine Exists.intro [] (Exists.intro [q1 _] (Exists.intro [] (And.intro rfl (And.intro rfl (And.intro rfl (And.intro trivial ?_))))))
                refine Exists.intro _ (And.intro rfl (And.intro rfl (?_)))
                intro z148 h148
                apply And.intro
                · intro h151
                  apply And.intro
                  · intro h166
                    apply And.intro
                    · exact trivial
                    exact hQ _ _ _ _ (by first | omega | assumption | exact q_rg_up (by assumption) (by omega) | exact q_rg_up (q_rg_up (by assumption) (by omega)) (by omega) | exact q_rg_cpy (by assumption) (by assumption))
                  · intro h166
                    apply And.intro
                    · exact trivial
                    exact hQ _ _ _ _ (by first | omega | assumption | exact q_rg_up (by assumption) (by omega) | exact q_rg_up (q_rg_up (by assumption) (by omega)) (by omega) | exact q_rg_cpy (by assumption) (by assumption))
                · intro h151
                  refine Exists.intro [0, 1, 2, 3, 4, 5, 6] (Exists.intro [q2 0, q1 _] (Exists.intro ([.inr (6, [q2 2, q2 3, q2 4, q2 5, q2 6, q2 1, q1 _, q1 _, q1 _, q1 _, q1 _, q1 _, q1 _, q1 _, q1 _]), .inl (1, 600, .inl _)]) (And.intro rfl (And.intro rfl (And.intro rfl (And.intro ⟨⟨_, rfl⟩, rfl⟩ ?_))))))
                  refine Exists.intro _ (Exists.intro _ (Exists.intro _ (Exists.intro _ (Exists.intro _ (Exists.intro _ (Exists.intro _ (Exists.intro _ (Exists.intro _ (Exists.intro _ (Exists.intro _ (And.intro rfl (And.intro rfl (And.intro (by first | omega | assumption | exact q_rg_up (by assumption) (by omega) | exact q_rg_up (q_rg_up (by assumption) (by omega)) (by omega) | exact q_rg_cpy (by assumption) (by assumption)) (?_))))))))))))))
                  intro x_rnx_156 x_rtk_156 x_rnm_156 h156
                  exact hQ _ _ _ _ (by first | omega | assumption | exact q_rg_up (by assumption) (by omega) | exact q_rg_up (q_rg_up (by assumption) (by omega)) (by omega) | exact q_rg_cpy (by assumption) (by assumption))
              · intro h98
                exact ⟨_, ⟨_, _, rfl, rfl, rfl, rfl, (by first | omega | assumption | exact q_rg_up (by assumption) (by omega) | exact q_rg_up (q_rg_up (by assumption) (by omega)) (by omega) | exact q_rg_cpy (by assumption) (by assumption))⟩, by omega⟩
            · intro h66
              apply And.intro
              · exact trivial
              exact hQ _ _ _ _ (by first | omega | assumption | exact q_rg_up (by assumption) (by omega) | exact q_rg_up (q_rg_up (by assumption) (by omega)) (by omega) | exact q_rg_cpy (by assumption) (by assumption))
          · intro h34
            intro z43 h43
            first | replace h43 := e_add h43 (by omega) | replace h43 := e_rng h43
            apply And.intro
            · exact trivial
            exact ⟨_, ⟨_, rfl, rfl, rfl, rfl, (by first | omega | assumption | exact q_rg_up (by assumption) (by omega) | exact q_rg_up (q_rg_up (by assumption) (by omega)) (by omega) | exact q_rg_cpy (by assumption) (by assumption))⟩, by omega⟩
    by_cases h101 : dz = 101
    · subst h101
      obtain ⟨y_rst, y_rnx, rfl, rfl, rfl, hn, hp⟩ := hI
      apply And.intro
      · intro h109
        apply And.intro
        · exact trivial
        exact hQ _ _ _ _ (by first | omega | assumption | exact q_rg_up (by assumption) (by omega) | exact q_rg_up (q_rg_up (by assumption) (by omega)) (by omega) | exact q_rg_cpy (by assumption) (by assumption))
      · intro h109
        refine Exists.intro [0, 1, 2, 3, 4, 5, 6] (Exists.intro [q2 0, q1 _] (Exists.intro ([.inr (6, [q2 2, q2 3, q2 4, q2 5, q2 6, q2 1, q1 _, q1 _, q1 _, q1 _, q1 _, q1 _, q1 _, q1 _, q1 _]), .inl (1, 600, .inl _)]) (And.intro rfl (And.intro rfl (And.intro rfl (And.intro ⟨⟨_, rfl⟩, rfl⟩ ?_))))))
        refine Exists.intro _ (Exists.intro _ (Exists.intro _ (Exists.intro _ (Exists.intro _ (Exists.intro _ (Exists.intro _ (Exists.intro _ (Exists.intro _ (Exists.intro _ (Exists.intro _ (And.intro rfl (And.intro rfl (?_)))))))))))))
        intro z117 h117
        refine Exists.intro [] (Exists.intro [q1 _] (Exists.intro [] (And.intro rfl (And.intro rfl (And.intro rfl (And.intro trivial ?_))))))
        refine Exists.intro _ (And.intro rfl (And.intro rfl (?_)))
        intro z120 h120
        apply And.intro
        · intro h123
          apply And.intro
          · exact trivial
          exact hQ _ _ _ _ (by first | omega | assumption | exact q_rg_up (by assumption) (by omega) | exact q_rg_up (q_rg_up (by assumption) (by omega)) (by omega) | exact q_rg_cpy (by assumption) (by assumption))
        · intro h123
          intro z132 h132
          first | replace h132 := e_add h132 (by omega) | replace h132 := e_rng h132
          apply And.intro
          · exact trivial
          exact ⟨_, ⟨_, _, rfl, rfl, rfl, rfl, (by first | omega | assumption | exact q_rg_up (by assumption) (by omega) | exact q_rg_up (q_rg_up (by assumption) (by omega)) (by omega) | exact q_rg_cpy (by assumption) (by assumption))⟩, by omega⟩
    simp only [I_X6_advance, h0, h101, if_false] at hI
  rintro lv st w' ⟨rfl, rfl, rfl⟩
  exact ⟨_, _, rfl, rfl, rfl, rfl, (by first | omega | assumption | exact q_rg_up (by assumption) (by omega) | exact q_rg_up (q_rg_up (by assumption) (by omega)) (by omega) | exact q_rg_cpy (by assumption) (by assumption))⟩

theorem dX6_is_0 : decode cX6_is 0 = .ok (.aload_n 0, 1) := by decide +kernel
theorem dX6_is_1 : decode cX6_is 1 = .ok (.getfield 58, 3) := by decide +kernel
theorem dX6_is_4 : decode cX6_is 4 = .ok (.iconst 1, 1) := by decide +kernel
theorem dX6_is_5 : decode cX6_is 5 = .ok (.if_icmp .ne 19, 3) := by decide +kernel
theorem dX6_is_8 : decode cX6_is 8 = .ok (.aload_n 0, 1) := by decide +kernel
theorem dX6_is_9 : decode cX6_is 9 = .ok (.getfield 94, 3) := by decide +kernel
theorem dX6_is_12 : decode cX6_is 12 = .ok (.aload_n 0, 1) := by decide +kernel
theorem dX6_is_13 : decode cX6_is 13 = .ok (.getfield 72, 3) := by decide +kernel
theorem dX6_is_16 : decode cX6_is 16 = .ok (.isub, 1) := by decide +kernel
theorem dX6_is_17 : decode cX6_is 17 = .ok (.aload_n 1, 1) := by decide +kernel
theorem dX6_is_18 : decode cX6_is 18 = .ok (.invokevirtual 133, 3) := by decide +kernel
theorem dX6_is_21 : decode cX6_is 21 = .ok (.if_icmp .eq 5, 3) := by decide +kernel
theorem dX6_is_24 : decode cX6_is 24 = .ok (.iconst 0, 1) := by decide +kernel
theorem dX6_is_25 : decode cX6_is 25 = .ok (.ireturn, 1) := by decide +kernel
theorem dX6_is_26 : decode cX6_is 26 = .ok (.iconst 0, 1) := by decide +kernel
theorem dX6_is_27 : decode cX6_is 27 = .ok (.istore_n 2, 1) := by decide +kernel
theorem dX6_is_28 : decode cX6_is 28 = .ok (.iload_n 2, 1) := by decide +kernel
theorem dX6_is_29 : decode cX6_is 29 = .ok (.aload_n 1, 1) := by decide +kernel
theorem dX6_is_30 : decode cX6_is 30 = .ok (.invokevirtual 133, 3) := by decide +kernel
theorem dX6_is_33 : decode cX6_is 33 = .ok (.if_icmp .ge 29, 3) := by decide +kernel
theorem dX6_is_36 : decode cX6_is 36 = .ok (.aload_n 0, 1) := by decide +kernel
theorem dX6_is_37 : decode cX6_is 37 = .ok (.aload_n 0, 1) := by decide +kernel
theorem dX6_is_38 : decode cX6_is 38 = .ok (.getfield 72, 3) := by decide +kernel
theorem dX6_is_41 : decode cX6_is 41 = .ok (.iload_n 2, 1) := by decide +kernel
theorem dX6_is_42 : decode cX6_is 42 = .ok (.iadd, 1) := by decide +kernel
theorem dX6_is_43 : decode cX6_is 43 = .ok (.invokevirtual 117, 3) := by decide +kernel
theorem dX6_is_46 : decode cX6_is 46 = .ok (.aload_n 1, 1) := by decide +kernel
theorem dX6_is_47 : decode cX6_is 47 = .ok (.iload_n 2, 1) := by decide +kernel
theorem dX6_is_48 : decode cX6_is 48 = .ok (.invokevirtual 138, 3) := by decide +kernel
theorem dX6_is_51 : decode cX6_is 51 = .ok (.if_icmp .eq 5, 3) := by decide +kernel
theorem dX6_is_54 : decode cX6_is 54 = .ok (.iconst 0, 1) := by decide +kernel
theorem dX6_is_55 : decode cX6_is 55 = .ok (.ireturn, 1) := by decide +kernel
theorem dX6_is_56 : decode cX6_is 56 = .ok (.iinc 2 1, 3) := by decide +kernel
theorem dX6_is_59 : decode cX6_is 59 = .ok (.goto (-31), 3) := by decide +kernel
theorem dX6_is_62 : decode cX6_is 62 = .ok (.iconst 1, 1) := by decide +kernel
theorem dX6_is_63 : decode cX6_is 63 = .ok (.ireturn, 1) := by decide +kernel
def is_X6_is : Nat → List Nat := fun d => if d = 28 then [0, 1, 2] else []
set_option maxRecDepth 100000 in
def b_X6_is_28 (J : Nat → List qV → List qV → qW → Prop) (Q : qR) : qK := x_iload 2 (x_aload 1 (x_callt 1 spr_J0_length_8abf5 (x_icmp_ge (x_int 1 (x_zret Q)) (x_aload 0 (x_aload 0 (x_get 6 9 (x_iload 2 (x_iadd (x_callr (some 6) 2 spr_X6_byteAt (x_aload 1 (x_iload 2 (x_callt 2 spr_J0_charAt_5068e (x_icmp_eq (x_iinc 2 1 (x_cut [0, 1, 2] (J 28))) (x_int 0 (x_zret Q)))))))))))))))
set_option maxRecDepth 100000 in
theorem s_X6_is_28 {p : Program} {l : Launch} {e : Env} {R : Room} {s : State} {m : MethodId} {args : Array Value} {below : List Frame} {meth : Method} {c : Code} {nW : Nat} {dC : Nat → ClassId} {dI : Nat → Nat → Nat} {k : Nat → ClassId} {g : Nat → Nat} {A : Nat → Prop} {J : Nat → List qV → List qV → qW → Prop} {Q : qR} (X : q_X p R s m args meth c cX6_is 3 nW 4 85 RX6 (some .boolean) dC dI k g A) (hJ : ∀ d : Nat, q_Sd p l e R s m args below meth c 3 nW dC dI k g A (MQ below (q_post (dC, dI) k g nW Q A) args s 0 0 A) d (x_cut (is_X6_is d) (J d))) : q_Sd p l e R s m args below meth c 3 nW dC dI k g A (MQ below (q_post (dC, dI) k g nW Q A) args s 0 0 A) 28 (b_X6_is_28 J Q) := by
  unfold b_X6_is_28
  refine s_iload_n X rfl dX6_is_28 ?_
  refine s_aload_n X rfl dX6_is_29 ?_
  refine s_callt X (m_J0_length_8abf5 l) mo_J0_length_8abf5 so_J0_length_8abf5 rfl tw_414 tw_415 tw_416 tw_136 tw_417 (by decide +kernel) ⟨by decide, by decide⟩ dX6_is_30 ?_
  refine s_icmp_ge X (tgt := 62) dX6_is_33 (by decide) ?_ ?_
  · refine s_iconst X ⟨by decide, by decide⟩ dX6_is_62 ?_
    exact s_zret X dX6_is_63
  · refine s_aload_n X rfl dX6_is_36 ?_
    refine s_aload_n X rfl dX6_is_37 ?_
    refine s_get X (T := TX6) (C := RX6) (N := 15) tu_X6 rfl (by decide) tw_282 dX6_is_38 ?_
    refine s_iload_n X rfl dX6_is_41 ?_
    refine s_iadd X dX6_is_42 ?_
    refine s_callVr X (m_X6_byteAt l) tw_376 tw_377 tw_1509 tw_128 tw_378 rfl (by decide +kernel) ⟨by decide, by decide⟩ dX6_is_43 ?_
    refine s_aload_n X rfl dX6_is_46 ?_
    refine s_iload_n X rfl dX6_is_47 ?_
    refine s_callt X (m_J0_charAt_5068e l) mo_J0_charAt_5068e so_J0_charAt_5068e rfl tw_423 tw_424 tw_425 tw_136 tw_426 (by decide +kernel) ⟨by decide, by decide⟩ dX6_is_48 ?_
    refine s_icmp_eq X (tgt := 56) dX6_is_51 (by decide) ?_ ?_
    · refine s_iinc X (by decide) dX6_is_56 ?_
      refine s_goto X (tgt := 28) dX6_is_59 (by decide) ?_
      exact hJ 28
    · refine s_iconst X ⟨by decide, by decide⟩ dX6_is_54 ?_
      exact s_zret X dX6_is_55
set_option maxRecDepth 100000 in
def b_X6_is_24 (J : Nat → List qV → List qV → qW → Prop) (Q : qR) : qK := x_int 0 (x_zret Q)
set_option maxRecDepth 100000 in
theorem s_X6_is_24 {p : Program} {l : Launch} {e : Env} {R : Room} {s : State} {m : MethodId} {args : Array Value} {below : List Frame} {meth : Method} {c : Code} {nW : Nat} {dC : Nat → ClassId} {dI : Nat → Nat → Nat} {k : Nat → ClassId} {g : Nat → Nat} {A : Nat → Prop} {J : Nat → List qV → List qV → qW → Prop} {Q : qR} (X : q_X p R s m args meth c cX6_is 3 nW 4 85 RX6 (some .boolean) dC dI k g A) (hJ : ∀ d : Nat, q_Sd p l e R s m args below meth c 3 nW dC dI k g A (MQ below (q_post (dC, dI) k g nW Q A) args s 0 0 A) d (x_cut (is_X6_is d) (J d))) : q_Sd p l e R s m args below meth c 3 nW dC dI k g A (MQ below (q_post (dC, dI) k g nW Q A) args s 0 0 A) 24 (b_X6_is_24 J Q) := by
  unfold b_X6_is_24
  refine s_iconst X ⟨by decide, by decide⟩ dX6_is_24 ?_
  exact s_zret X dX6_is_25
set_option maxRecDepth 100000 in
def b_X6_is_0 (J : Nat → List qV → List qV → qW → Prop) (Q : qR) : qK := x_aload 0 (x_get 6 11 (x_int 1 (x_icmp_ne (b_X6_is_24 J Q) (x_aload 0 (x_get 6 10 (x_aload 0 (x_get 6 9 (x_isub (x_aload 1 (x_callt 1 spr_J0_length_8abf5 (x_icmp_eq (x_int 0 (x_istore 2 (x_cut [0, 1, 2] (J 28)))) (b_X6_is_24 J Q))))))))))))
set_option maxRecDepth 100000 in
theorem s_X6_is_0 {p : Program} {l : Launch} {e : Env} {R : Room} {s : State} {m : MethodId} {args : Array Value} {below : List Frame} {meth : Method} {c : Code} {nW : Nat} {dC : Nat → ClassId} {dI : Nat → Nat → Nat} {k : Nat → ClassId} {g : Nat → Nat} {A : Nat → Prop} {J : Nat → List qV → List qV → qW → Prop} {Q : qR} (X : q_X p R s m args meth c cX6_is 3 nW 4 85 RX6 (some .boolean) dC dI k g A) (hJ : ∀ d : Nat, q_Sd p l e R s m args below meth c 3 nW dC dI k g A (MQ below (q_post (dC, dI) k g nW Q A) args s 0 0 A) d (x_cut (is_X6_is d) (J d))) : q_Sd p l e R s m args below meth c 3 nW dC dI k g A (MQ below (q_post (dC, dI) k g nW Q A) args s 0 0 A) 0 (b_X6_is_0 J Q) := by
  unfold b_X6_is_0
  refine s_aload_n X rfl dX6_is_0 ?_
  refine s_get X (T := TX6) (C := RX6) (N := 15) tu_X6 rfl (by decide) tw_284 dX6_is_1 ?_
  refine s_iconst X ⟨by decide, by decide⟩ dX6_is_4 ?_
  refine s_icmp_ne X (tgt := 24) dX6_is_5 (by decide) ?_ ?_
  · exact s_X6_is_24 X hJ
  · refine s_aload_n X rfl dX6_is_8 ?_
    refine s_get X (T := TX6) (C := RX6) (N := 15) tu_X6 rfl (by decide) tw_283 dX6_is_9 ?_
    refine s_aload_n X rfl dX6_is_12 ?_
    refine s_get X (T := TX6) (C := RX6) (N := 15) tu_X6 rfl (by decide) tw_282 dX6_is_13 ?_
    refine s_isub X dX6_is_16 ?_
    refine s_aload_n X rfl dX6_is_17 ?_
    refine s_callt X (m_J0_length_8abf5 l) mo_J0_length_8abf5 so_J0_length_8abf5 rfl tw_414 tw_415 tw_416 tw_136 tw_417 (by decide +kernel) ⟨by decide, by decide⟩ dX6_is_18 ?_
    refine s_icmp_eq X (tgt := 26) dX6_is_21 (by decide) ?_ ?_
    · refine s_iconst X ⟨by decide, by decide⟩ dX6_is_26 ?_
      refine s_istore_n X rfl (by decide) dX6_is_27 ?_
      exact hJ 28
    · exact s_X6_is_24 X hJ

def spr_X6_is : List qV → qW → (Option qV → Prop) → Prop := fun av w Q => ∃ (rln : Int) (rfa : Int) (rpl : Int) (rst : Int) (rnx : Int) (rtk : Int) (rnm : Int) (rnp : Int) (rnd : Int) (tp : Nat → Int) (i : Nat), av = [q2 0, q2 (i + 2000)] ∧ w = [.inr (6, [q2 2, q2 3, q2 4, q2 5, q2 6, q2 1, q1 rln, q1 rfa, q1 rpl, q1 rst, q1 rnx, q1 rtk, q1 rnm, q1 rnp, q1 rnd]), .inl (1, 600, .inl tp)] ∧ (i < 21) ∧ (∀ (r : Int) , (r = 0 ∨ r = 1) → Q (some (q1 r)))
def sp_X6_is : qS := fun av w Q => spr_X6_is av w (fun r => Q r w)
def I_X6_is (rln : Int) (rfa : Int) (rpl : Int) (rst : Int) (rnx : Int) (rtk : Int) (rnm : Int) (rnp : Int) (rnd : Int) (tp : Nat → Int) (i : Nat) : Nat → Nat → List qV → List qV → qW → Prop := fun dz mz vz sz wz => if dz = 28 then (∃ (v2 : Int), vz = [q2 0, q2 (i + 2000), q1 v2] ∧ sz = [] ∧ wz = [.inr (6, [q2 2, q2 3, q2 4, q2 5, q2 6, q2 1, q1 rln, q1 rfa, q1 rpl, q1 rst, q1 rnx, q1 rtk, q1 rnm, q1 rnp, q1 rnd]), .inl (1, 600, .inl tp)] ∧ mz = ((qTn.getD i 0 : Nat) - v2).toNat ∧ (0 ≤ v2 ∧ v2 ≤ (qTn.getD i 0 : Nat))) else False
set_option maxHeartbeats 4000000 in
set_option maxRecDepth 100000 in
theorem m_X6_is (l : Launch) : q_M l yX6_is cX6_is 3 (some .boolean) 4 85 sp_X6_is := by
  refine q_meth (by decide) (fun av w Q h => by obtain ⟨rln, rfa, rpl, rst, rnx, rtk, rnm, rnp, rnd, tp, i, rfl, rfl, hi, hQ⟩ := h; exact Nat.le_of_ble_eq_true rfl) ?_
  intro p e R s m args below meth c dC dI k g A av w Q hsp oka okw X
  obtain ⟨rln, rfa, rpl, rst, rnx, rtk, rnm, rnp, rnd, tp, i, rfl, rfl, hi, hQ⟩ := hsp
  refine s_mono (s_X6_is_0 X (J := fun dz vz sz wz => ∃ mz, I_X6_is rln rfa rpl rst rnx rtk rnm rnp rnd tp i dz mz vz sz wz) (q_loopn (I_X6_is rln rfa rpl rst rnx rtk rnm rnp rnd tp i) (fun dz J => if dz = 28 then b_X6_is_28 J Q else q_F) ?hs ?hv)) ?_
  case hs =>
    intro d J hJ
    by_cases h28 : d = 28
    · subst h28; exact s_X6_is_28 X hJ
    simp only [h28, if_false]
    exact s_F
  case hv =>
    intro dz mz vz sz wz hI okv oks okw hlen
    by_cases h28 : dz = 28
    · subst h28
      obtain ⟨v2, rfl, rfl, rfl, hn, hp⟩ := hI
      have hl9 : qTn.getD i 0 < 100 := qTn_lt ⟨i, hi⟩
      refine Exists.intro i (Exists.intro [] (And.intro hi (And.intro rfl (And.intro (fun v hv => by cases hv) (And.intro rfl ?_)))))
      refine Exists.intro _ (And.intro rfl (And.intro rfl (And.intro (by first | omega | assumption | exact q_rg_up (by assumption) (by omega) | exact q_rg_up (q_rg_up (by assumption) (by omega)) (by omega) | exact q_rg_cpy (by assumption) (by assumption)) (?_))))
      intro z30 h30
      intro v30 e30
      cases e30
      apply And.intro
      · intro h33
        apply And.intro
        · first | exact Or.inl rfl | exact Or.inr rfl | omega
        exact hQ _ (by first | omega | assumption | exact q_rg_up (by assumption) (by omega) | exact q_rg_up (q_rg_up (by assumption) (by omega)) (by omega) | exact q_rg_cpy (by assumption) (by assumption))
      · intro h33
        intro z42 h42
        first | replace h42 := e_add h42 (by omega) | replace h42 := e_rng h42
        refine Exists.intro [0, 1, 2, 3, 4, 5, 6] (Exists.intro [q2 0, q1 _] (Exists.intro ([.inr (6, [q2 2, q2 3, q2 4, q2 5, q2 6, q2 1, q1 _, q1 _, q1 _, q1 _, q1 _, q1 _, q1 _, q1 _, q1 _]), .inl (1, 600, .inl _)]) (And.intro rfl (And.intro rfl (And.intro rfl (And.intro ⟨⟨_, rfl⟩, rfl⟩ ?_))))))
        refine Exists.intro _ (Exists.intro _ (Exists.intro _ (Exists.intro _ (Exists.intro _ (Exists.intro _ (Exists.intro _ (Exists.intro _ (Exists.intro _ (Exists.intro _ (Exists.intro _ (And.intro rfl (And.intro rfl (?_)))))))))))))
        intro z43 h43
        refine Exists.intro i (Exists.intro [q1 _] (And.intro hi (And.intro rfl (And.intro (fun v hv => by cases List.mem_singleton.mp hv; rfl) (And.intro rfl ?_)))))
        refine Exists.intro _ (Exists.intro _ (And.intro rfl (And.intro rfl (And.intro (by first | omega | assumption | exact q_rg_up (by assumption) (by omega) | exact q_rg_up (q_rg_up (by assumption) (by omega)) (by omega) | exact q_rg_cpy (by assumption) (by assumption)) (And.intro (by first | omega | assumption | exact q_rg_up (by assumption) (by omega) | exact q_rg_up (q_rg_up (by assumption) (by omega)) (by omega) | exact q_rg_cpy (by assumption) (by assumption)) (?_))))))
        intro z48 h48
        intro v48 e48
        cases e48
        apply And.intro
        · intro h51
          intro z56 h56
          first | replace h56 := e_add h56 (by omega) | replace h56 := e_rng h56
          exact ⟨_, ⟨_, rfl, rfl, rfl, rfl, (by first | omega | assumption | exact q_rg_up (by assumption) (by omega) | exact q_rg_up (q_rg_up (by assumption) (by omega)) (by omega) | exact q_rg_cpy (by assumption) (by assumption))⟩, by omega⟩
        · intro h51
          apply And.intro
          · first | exact Or.inl rfl | exact Or.inr rfl | omega
          exact hQ _ (by first | omega | assumption | exact q_rg_up (by assumption) (by omega) | exact q_rg_up (q_rg_up (by assumption) (by omega)) (by omega) | exact q_rg_cpy (by assumption) (by assumption))
    simp only [I_X6_is, h28, if_false] at hI
  rintro lv st w' ⟨rfl, rfl, rfl⟩
  have hl9 : qTn.getD i 0 < 100 := qTn_lt ⟨i, hi⟩
  apply And.intro
  · intro h5
    apply And.intro
    · first | exact Or.inl rfl | exact Or.inr rfl | omega
    exact hQ _ (by first | omega | assumption | exact q_rg_up (by assumption) (by omega) | exact q_rg_up (q_rg_up (by assumption) (by omega)) (by omega) | exact q_rg_cpy (by assumption) (by assumption))
  · intro h5
    intro z16 h16
    first | replace h16 := e_sub h16 (by omega) | replace h16 := e_rng h16
    refine Exists.intro i (Exists.intro [] (And.intro hi (And.intro rfl (And.intro (fun v hv => by cases hv) (And.intro rfl ?_)))))
    refine Exists.intro _ (And.intro rfl (And.intro rfl (And.intro (by first | omega | assumption | exact q_rg_up (by assumption) (by omega) | exact q_rg_up (q_rg_up (by assumption) (by omega)) (by omega) | exact q_rg_cpy (by assumption) (by assumption)) (?_))))
    intro z18 h18
    intro v18 e18
    cases e18
    apply And.intro
    · intro h21
      exact ⟨_, _, rfl, rfl, rfl, rfl, (by first | omega | assumption | exact q_rg_up (by assumption) (by omega) | exact q_rg_up (q_rg_up (by assumption) (by omega)) (by omega) | exact q_rg_cpy (by assumption) (by assumption))⟩
    · intro h21
      apply And.intro
      · first | exact Or.inl rfl | exact Or.inr rfl | omega
      exact hQ _ (by first | omega | assumption | exact q_rg_up (by assumption) (by omega) | exact q_rg_up (q_rg_up (by assumption) (by omega)) (by omega) | exact q_rg_cpy (by assumption) (by assumption))

theorem dX6_boroughWord_0 : decode cX6_boroughWord 0 = .ok (.aload_n 0, 1) := by decide +kernel
theorem dX6_boroughWord_1 : decode cX6_boroughWord 1 = .ok (.ldc 158, 2) := by decide +kernel
theorem dX6_boroughWord_3 : decode cX6_boroughWord 3 = .ok (.invokevirtual 150, 3) := by decide +kernel
theorem dX6_boroughWord_6 : decode cX6_boroughWord 6 = .ok (.ifCond .eq 5, 3) := by decide +kernel
theorem dX6_boroughWord_9 : decode cX6_boroughWord 9 = .ok (.iconst 0, 1) := by decide +kernel
theorem dX6_boroughWord_10 : decode cX6_boroughWord 10 = .ok (.ireturn, 1) := by decide +kernel
theorem dX6_boroughWord_11 : decode cX6_boroughWord 11 = .ok (.aload_n 0, 1) := by decide +kernel
theorem dX6_boroughWord_12 : decode cX6_boroughWord 12 = .ok (.ldc 160, 2) := by decide +kernel
theorem dX6_boroughWord_14 : decode cX6_boroughWord 14 = .ok (.invokevirtual 150, 3) := by decide +kernel
theorem dX6_boroughWord_17 : decode cX6_boroughWord 17 = .ok (.ifCond .eq 5, 3) := by decide +kernel
theorem dX6_boroughWord_20 : decode cX6_boroughWord 20 = .ok (.iconst 1, 1) := by decide +kernel
theorem dX6_boroughWord_21 : decode cX6_boroughWord 21 = .ok (.ireturn, 1) := by decide +kernel
theorem dX6_boroughWord_22 : decode cX6_boroughWord 22 = .ok (.aload_n 0, 1) := by decide +kernel
theorem dX6_boroughWord_23 : decode cX6_boroughWord 23 = .ok (.ldc 162, 2) := by decide +kernel
theorem dX6_boroughWord_25 : decode cX6_boroughWord 25 = .ok (.invokevirtual 150, 3) := by decide +kernel
theorem dX6_boroughWord_28 : decode cX6_boroughWord 28 = .ok (.ifCond .eq 5, 3) := by decide +kernel
theorem dX6_boroughWord_31 : decode cX6_boroughWord 31 = .ok (.iconst 2, 1) := by decide +kernel
theorem dX6_boroughWord_32 : decode cX6_boroughWord 32 = .ok (.ireturn, 1) := by decide +kernel
theorem dX6_boroughWord_33 : decode cX6_boroughWord 33 = .ok (.aload_n 0, 1) := by decide +kernel
theorem dX6_boroughWord_34 : decode cX6_boroughWord 34 = .ok (.ldc 164, 2) := by decide +kernel
theorem dX6_boroughWord_36 : decode cX6_boroughWord 36 = .ok (.invokevirtual 150, 3) := by decide +kernel
theorem dX6_boroughWord_39 : decode cX6_boroughWord 39 = .ok (.ifCond .eq 5, 3) := by decide +kernel
theorem dX6_boroughWord_42 : decode cX6_boroughWord 42 = .ok (.iconst 3, 1) := by decide +kernel
theorem dX6_boroughWord_43 : decode cX6_boroughWord 43 = .ok (.ireturn, 1) := by decide +kernel
theorem dX6_boroughWord_44 : decode cX6_boroughWord 44 = .ok (.aload_n 0, 1) := by decide +kernel
theorem dX6_boroughWord_45 : decode cX6_boroughWord 45 = .ok (.ldc 166, 2) := by decide +kernel
theorem dX6_boroughWord_47 : decode cX6_boroughWord 47 = .ok (.invokevirtual 150, 3) := by decide +kernel
theorem dX6_boroughWord_50 : decode cX6_boroughWord 50 = .ok (.ifCond .eq 5, 3) := by decide +kernel
theorem dX6_boroughWord_53 : decode cX6_boroughWord 53 = .ok (.iconst 4, 1) := by decide +kernel
theorem dX6_boroughWord_54 : decode cX6_boroughWord 54 = .ok (.ireturn, 1) := by decide +kernel
theorem dX6_boroughWord_55 : decode cX6_boroughWord 55 = .ok (.aload_n 0, 1) := by decide +kernel
theorem dX6_boroughWord_56 : decode cX6_boroughWord 56 = .ok (.ldc 168, 2) := by decide +kernel
theorem dX6_boroughWord_58 : decode cX6_boroughWord 58 = .ok (.invokevirtual 150, 3) := by decide +kernel
theorem dX6_boroughWord_61 : decode cX6_boroughWord 61 = .ok (.ifCond .eq 5, 3) := by decide +kernel
theorem dX6_boroughWord_64 : decode cX6_boroughWord 64 = .ok (.iconst 5, 1) := by decide +kernel
theorem dX6_boroughWord_65 : decode cX6_boroughWord 65 = .ok (.ireturn, 1) := by decide +kernel
theorem dX6_boroughWord_66 : decode cX6_boroughWord 66 = .ok (.aload_n 0, 1) := by decide +kernel
theorem dX6_boroughWord_67 : decode cX6_boroughWord 67 = .ok (.ldc 170, 2) := by decide +kernel
theorem dX6_boroughWord_69 : decode cX6_boroughWord 69 = .ok (.invokevirtual 150, 3) := by decide +kernel
theorem dX6_boroughWord_72 : decode cX6_boroughWord 72 = .ok (.ifCond .eq 6, 3) := by decide +kernel
theorem dX6_boroughWord_75 : decode cX6_boroughWord 75 = .ok (.bipush 6, 2) := by decide +kernel
theorem dX6_boroughWord_77 : decode cX6_boroughWord 77 = .ok (.ireturn, 1) := by decide +kernel
theorem dX6_boroughWord_78 : decode cX6_boroughWord 78 = .ok (.aload_n 0, 1) := by decide +kernel
theorem dX6_boroughWord_79 : decode cX6_boroughWord 79 = .ok (.ldc 172, 2) := by decide +kernel
theorem dX6_boroughWord_81 : decode cX6_boroughWord 81 = .ok (.invokevirtual 150, 3) := by decide +kernel
theorem dX6_boroughWord_84 : decode cX6_boroughWord 84 = .ok (.ifCond .eq 6, 3) := by decide +kernel
theorem dX6_boroughWord_87 : decode cX6_boroughWord 87 = .ok (.bipush 7, 2) := by decide +kernel
theorem dX6_boroughWord_89 : decode cX6_boroughWord 89 = .ok (.ireturn, 1) := by decide +kernel
theorem dX6_boroughWord_90 : decode cX6_boroughWord 90 = .ok (.aload_n 0, 1) := by decide +kernel
theorem dX6_boroughWord_91 : decode cX6_boroughWord 91 = .ok (.ldc 174, 2) := by decide +kernel
theorem dX6_boroughWord_93 : decode cX6_boroughWord 93 = .ok (.invokevirtual 150, 3) := by decide +kernel
theorem dX6_boroughWord_96 : decode cX6_boroughWord 96 = .ok (.ifCond .eq 8, 3) := by decide +kernel
theorem dX6_boroughWord_99 : decode cX6_boroughWord 99 = .ok (.bipush 8, 2) := by decide +kernel
theorem dX6_boroughWord_101 : decode cX6_boroughWord 101 = .ok (.goto 4, 3) := by decide +kernel
theorem dX6_boroughWord_104 : decode cX6_boroughWord 104 = .ok (.iconst (-1), 1) := by decide +kernel
theorem dX6_boroughWord_105 : decode cX6_boroughWord 105 = .ok (.ireturn, 1) := by decide +kernel
def is_X6_boroughWord : Nat → List Nat := fun d => []
set_option maxRecDepth 100000 in
def b_X6_boroughWord_105 (J : Nat → List qV → List qV → qW → Prop) (Q : qR) : qK := x_iret Q
set_option maxRecDepth 100000 in
theorem s_X6_boroughWord_105 {p : Program} {l : Launch} {e : Env} {R : Room} {s : State} {m : MethodId} {args : Array Value} {below : List Frame} {meth : Method} {c : Code} {nW : Nat} {dC : Nat → ClassId} {dI : Nat → Nat → Nat} {k : Nat → ClassId} {g : Nat → Nat} {A : Nat → Prop} {J : Nat → List qV → List qV → qW → Prop} {Q : qR} (X : q_X p R s m args meth c cX6_boroughWord 1 nW 5 107 RX6 (some .int) dC dI k g A) (hJ : ∀ d : Nat, q_Sd p l e R s m args below meth c 1 nW dC dI k g A (MQ below (q_post (dC, dI) k g nW Q A) args s 0 0 A) d (x_cut (is_X6_boroughWord d) (J d))) : q_Sd p l e R s m args below meth c 1 nW dC dI k g A (MQ below (q_post (dC, dI) k g nW Q A) args s 0 0 A) 105 (b_X6_boroughWord_105 J Q) := by
  unfold b_X6_boroughWord_105
  exact s_iret X dX6_boroughWord_105
set_option maxRecDepth 100000 in
def b_X6_boroughWord_90 (J : Nat → List qV → List qV → qW → Prop) (Q : qR) : qK := x_aload 0 (x_ldcs 8 (x_callr (some 6) 2 spr_X6_is (x_if_eq (x_int (-1) (b_X6_boroughWord_105 J Q)) (x_int 8 (b_X6_boroughWord_105 J Q)))))
set_option maxRecDepth 100000 in
theorem s_X6_boroughWord_90 {p : Program} {l : Launch} {e : Env} {R : Room} {s : State} {m : MethodId} {args : Array Value} {below : List Frame} {meth : Method} {c : Code} {nW : Nat} {dC : Nat → ClassId} {dI : Nat → Nat → Nat} {k : Nat → ClassId} {g : Nat → Nat} {A : Nat → Prop} {J : Nat → List qV → List qV → qW → Prop} {Q : qR} (X : q_X p R s m args meth c cX6_boroughWord 1 nW 5 107 RX6 (some .int) dC dI k g A) (hJ : ∀ d : Nat, q_Sd p l e R s m args below meth c 1 nW dC dI k g A (MQ below (q_post (dC, dI) k g nW Q A) args s 0 0 A) d (x_cut (is_X6_boroughWord d) (J d))) : q_Sd p l e R s m args below meth c 1 nW dC dI k g A (MQ below (q_post (dC, dI) k g nW Q A) args s 0 0 A) 90 (b_X6_boroughWord_90 J Q) := by
  unfold b_X6_boroughWord_90
  refine s_aload_n X rfl dX6_boroughWord_90 ?_
  refine s_ldcs X (i := 8) rfl rfl dX6_boroughWord_91 ?_
  refine s_callVr X (m_X6_is l) tw_411 tw_412 tw_1511 tw_128 tw_413 rfl (by decide +kernel) ⟨by decide, by decide⟩ dX6_boroughWord_93 ?_
  refine s_if_eq X (tgt := 104) dX6_boroughWord_96 (by decide) ?_ ?_
  · refine s_iconst X ⟨by decide, by decide⟩ dX6_boroughWord_104 ?_
    exact s_X6_boroughWord_105 X hJ
  · refine s_bipush X ⟨by decide, by decide⟩ (by decide) dX6_boroughWord_99 ?_
    refine s_goto X (tgt := 105) dX6_boroughWord_101 (by decide) ?_
    exact s_X6_boroughWord_105 X hJ
set_option maxRecDepth 100000 in
def b_X6_boroughWord_44 (J : Nat → List qV → List qV → qW → Prop) (Q : qR) : qK := x_aload 0 (x_ldcs 4 (x_callr (some 6) 2 spr_X6_is (x_if_eq (x_aload 0 (x_ldcs 5 (x_callr (some 6) 2 spr_X6_is (x_if_eq (x_aload 0 (x_ldcs 6 (x_callr (some 6) 2 spr_X6_is (x_if_eq (x_aload 0 (x_ldcs 7 (x_callr (some 6) 2 spr_X6_is (x_if_eq (b_X6_boroughWord_90 J Q) (x_int 7 (x_iret Q)))))) (x_int 6 (x_iret Q)))))) (x_int 5 (x_iret Q)))))) (x_int 4 (x_iret Q)))))
set_option maxRecDepth 100000 in
theorem s_X6_boroughWord_44 {p : Program} {l : Launch} {e : Env} {R : Room} {s : State} {m : MethodId} {args : Array Value} {below : List Frame} {meth : Method} {c : Code} {nW : Nat} {dC : Nat → ClassId} {dI : Nat → Nat → Nat} {k : Nat → ClassId} {g : Nat → Nat} {A : Nat → Prop} {J : Nat → List qV → List qV → qW → Prop} {Q : qR} (X : q_X p R s m args meth c cX6_boroughWord 1 nW 5 107 RX6 (some .int) dC dI k g A) (hJ : ∀ d : Nat, q_Sd p l e R s m args below meth c 1 nW dC dI k g A (MQ below (q_post (dC, dI) k g nW Q A) args s 0 0 A) d (x_cut (is_X6_boroughWord d) (J d))) : q_Sd p l e R s m args below meth c 1 nW dC dI k g A (MQ below (q_post (dC, dI) k g nW Q A) args s 0 0 A) 44 (b_X6_boroughWord_44 J Q) := by
  unfold b_X6_boroughWord_44
  refine s_aload_n X rfl dX6_boroughWord_44 ?_
  refine s_ldcs X (i := 4) rfl rfl dX6_boroughWord_45 ?_
  refine s_callVr X (m_X6_is l) tw_411 tw_412 tw_1511 tw_128 tw_413 rfl (by decide +kernel) ⟨by decide, by decide⟩ dX6_boroughWord_47 ?_
  refine s_if_eq X (tgt := 55) dX6_boroughWord_50 (by decide) ?_ ?_
  · refine s_aload_n X rfl dX6_boroughWord_55 ?_
    refine s_ldcs X (i := 5) rfl rfl dX6_boroughWord_56 ?_
    refine s_callVr X (m_X6_is l) tw_411 tw_412 tw_1511 tw_128 tw_413 rfl (by decide +kernel) ⟨by decide, by decide⟩ dX6_boroughWord_58 ?_
    refine s_if_eq X (tgt := 66) dX6_boroughWord_61 (by decide) ?_ ?_
    · refine s_aload_n X rfl dX6_boroughWord_66 ?_
      refine s_ldcs X (i := 6) rfl rfl dX6_boroughWord_67 ?_
      refine s_callVr X (m_X6_is l) tw_411 tw_412 tw_1511 tw_128 tw_413 rfl (by decide +kernel) ⟨by decide, by decide⟩ dX6_boroughWord_69 ?_
      refine s_if_eq X (tgt := 78) dX6_boroughWord_72 (by decide) ?_ ?_
      · refine s_aload_n X rfl dX6_boroughWord_78 ?_
        refine s_ldcs X (i := 7) rfl rfl dX6_boroughWord_79 ?_
        refine s_callVr X (m_X6_is l) tw_411 tw_412 tw_1511 tw_128 tw_413 rfl (by decide +kernel) ⟨by decide, by decide⟩ dX6_boroughWord_81 ?_
        refine s_if_eq X (tgt := 90) dX6_boroughWord_84 (by decide) ?_ ?_
        · exact s_X6_boroughWord_90 X hJ
        · refine s_bipush X ⟨by decide, by decide⟩ (by decide) dX6_boroughWord_87 ?_
          exact s_iret X dX6_boroughWord_89
      · refine s_bipush X ⟨by decide, by decide⟩ (by decide) dX6_boroughWord_75 ?_
        exact s_iret X dX6_boroughWord_77
    · refine s_iconst X ⟨by decide, by decide⟩ dX6_boroughWord_64 ?_
      exact s_iret X dX6_boroughWord_65
  · refine s_iconst X ⟨by decide, by decide⟩ dX6_boroughWord_53 ?_
    exact s_iret X dX6_boroughWord_54
set_option maxRecDepth 100000 in
def b_X6_boroughWord_0 (J : Nat → List qV → List qV → qW → Prop) (Q : qR) : qK := x_aload 0 (x_ldcs 0 (x_callr (some 6) 2 spr_X6_is (x_if_eq (x_aload 0 (x_ldcs 1 (x_callr (some 6) 2 spr_X6_is (x_if_eq (x_aload 0 (x_ldcs 2 (x_callr (some 6) 2 spr_X6_is (x_if_eq (x_aload 0 (x_ldcs 3 (x_callr (some 6) 2 spr_X6_is (x_if_eq (b_X6_boroughWord_44 J Q) (x_int 3 (x_iret Q)))))) (x_int 2 (x_iret Q)))))) (x_int 1 (x_iret Q)))))) (x_int 0 (x_iret Q)))))
set_option maxRecDepth 100000 in
theorem s_X6_boroughWord_0 {p : Program} {l : Launch} {e : Env} {R : Room} {s : State} {m : MethodId} {args : Array Value} {below : List Frame} {meth : Method} {c : Code} {nW : Nat} {dC : Nat → ClassId} {dI : Nat → Nat → Nat} {k : Nat → ClassId} {g : Nat → Nat} {A : Nat → Prop} {J : Nat → List qV → List qV → qW → Prop} {Q : qR} (X : q_X p R s m args meth c cX6_boroughWord 1 nW 5 107 RX6 (some .int) dC dI k g A) (hJ : ∀ d : Nat, q_Sd p l e R s m args below meth c 1 nW dC dI k g A (MQ below (q_post (dC, dI) k g nW Q A) args s 0 0 A) d (x_cut (is_X6_boroughWord d) (J d))) : q_Sd p l e R s m args below meth c 1 nW dC dI k g A (MQ below (q_post (dC, dI) k g nW Q A) args s 0 0 A) 0 (b_X6_boroughWord_0 J Q) := by
  unfold b_X6_boroughWord_0
  refine s_aload_n X rfl dX6_boroughWord_0 ?_
  refine s_ldcs X (i := 0) rfl rfl dX6_boroughWord_1 ?_
  refine s_callVr X (m_X6_is l) tw_411 tw_412 tw_1511 tw_128 tw_413 rfl (by decide +kernel) ⟨by decide, by decide⟩ dX6_boroughWord_3 ?_
  refine s_if_eq X (tgt := 11) dX6_boroughWord_6 (by decide) ?_ ?_
  · refine s_aload_n X rfl dX6_boroughWord_11 ?_
    refine s_ldcs X (i := 1) rfl rfl dX6_boroughWord_12 ?_
    refine s_callVr X (m_X6_is l) tw_411 tw_412 tw_1511 tw_128 tw_413 rfl (by decide +kernel) ⟨by decide, by decide⟩ dX6_boroughWord_14 ?_
    refine s_if_eq X (tgt := 22) dX6_boroughWord_17 (by decide) ?_ ?_
    · refine s_aload_n X rfl dX6_boroughWord_22 ?_
      refine s_ldcs X (i := 2) rfl rfl dX6_boroughWord_23 ?_
      refine s_callVr X (m_X6_is l) tw_411 tw_412 tw_1511 tw_128 tw_413 rfl (by decide +kernel) ⟨by decide, by decide⟩ dX6_boroughWord_25 ?_
      refine s_if_eq X (tgt := 33) dX6_boroughWord_28 (by decide) ?_ ?_
      · refine s_aload_n X rfl dX6_boroughWord_33 ?_
        refine s_ldcs X (i := 3) rfl rfl dX6_boroughWord_34 ?_
        refine s_callVr X (m_X6_is l) tw_411 tw_412 tw_1511 tw_128 tw_413 rfl (by decide +kernel) ⟨by decide, by decide⟩ dX6_boroughWord_36 ?_
        refine s_if_eq X (tgt := 44) dX6_boroughWord_39 (by decide) ?_ ?_
        · exact s_X6_boroughWord_44 X hJ
        · refine s_iconst X ⟨by decide, by decide⟩ dX6_boroughWord_42 ?_
          exact s_iret X dX6_boroughWord_43
      · refine s_iconst X ⟨by decide, by decide⟩ dX6_boroughWord_31 ?_
        exact s_iret X dX6_boroughWord_32
    · refine s_iconst X ⟨by decide, by decide⟩ dX6_boroughWord_20 ?_
      exact s_iret X dX6_boroughWord_21
  · refine s_iconst X ⟨by decide, by decide⟩ dX6_boroughWord_9 ?_
    exact s_iret X dX6_boroughWord_10

def spr_X6_boroughWord : List qV → qW → (Option qV → Prop) → Prop := fun av w Q => ∃ (rln : Int) (rfa : Int) (rpl : Int) (rst : Int) (rnx : Int) (rtk : Int) (rnm : Int) (rnp : Int) (rnd : Int) (tp : Nat → Int), av = [q2 0] ∧ w = [.inr (6, [q2 2, q2 3, q2 4, q2 5, q2 6, q2 1, q1 rln, q1 rfa, q1 rpl, q1 rst, q1 rnx, q1 rtk, q1 rnm, q1 rnp, q1 rnd]), .inl (1, 600, .inl tp)] ∧ (∀ (r : Int) , -1 ≤ r ∧ r ≤ 8 → Q (some (q1 r)))
def sp_X6_boroughWord : qS := fun av w Q => spr_X6_boroughWord av w (fun r => Q r w)
set_option maxHeartbeats 4000000 in
set_option maxRecDepth 100000 in
theorem m_X6_boroughWord (l : Launch) : q_M l yX6_boroughWord cX6_boroughWord 1 (some .int) 5 107 sp_X6_boroughWord := by
  refine q_meth (by decide) (fun av w Q h => by obtain ⟨rln, rfa, rpl, rst, rnx, rtk, rnm, rnp, rnd, tp, rfl, rfl, hQ⟩ := h; exact Nat.le_of_ble_eq_true rfl) ?_
  intro p e R s m args below meth c dC dI k g A av w Q hsp oka okw X
  obtain ⟨rln, rfa, rpl, rst, rnx, rtk, rnm, rnp, rnd, tp, rfl, rfl, hQ⟩ := hsp
  refine s_mono (s_X6_boroughWord_0 X (J := fun _ _ _ _ => False) (fun d => s_cutF)) ?_
  rintro lv st w' ⟨rfl, rfl, rfl⟩
  refine Exists.intro [0, 1, 2, 3, 4, 5, 6] (Exists.intro [q2 0, q2 (0 + 2000)] (Exists.intro ([.inr (6, [q2 2, q2 3, q2 4, q2 5, q2 6, q2 1, q1 _, q1 _, q1 _, q1 _, q1 _, q1 _, q1 _, q1 _, q1 _]), .inl (1, 600, .inl _)]) (And.intro rfl (And.intro rfl (And.intro rfl (And.intro ⟨⟨_, rfl⟩, rfl⟩ ?_))))))
  refine Exists.intro _ (Exists.intro _ (Exists.intro _ (Exists.intro _ (Exists.intro _ (Exists.intro _ (Exists.intro _ (Exists.intro _ (Exists.intro _ (Exists.intro _ (Exists.intro 0 (And.intro rfl (And.intro rfl (And.intro (by decide) (?_))))))))))))))
  intro z3 h3
  apply And.intro
  · intro h6
    refine Exists.intro [0, 1, 2, 3, 4, 5, 6] (Exists.intro [q2 0, q2 (1 + 2000)] (Exists.intro ([.inr (6, [q2 2, q2 3, q2 4, q2 5, q2 6, q2 1, q1 _, q1 _, q1 _, q1 _, q1 _, q1 _, q1 _, q1 _, q1 _]), .inl (1, 600, .inl _)]) (And.intro rfl (And.intro rfl (And.intro rfl (And.intro ⟨⟨_, rfl⟩, rfl⟩ ?_))))))
    refine Exists.intro _ (Exists.intro _ (Exists.intro _ (Exists.intro _ (Exists.intro _ (Exists.intro _ (Exists.intro _ (Exists.intro _ (Exists.intro _ (Exists.intro _ (Exists.intro 1 (And.intro rfl (And.intro rfl (And.intro (by decide) (?_))))))))))))))
    intro z14 h14
    apply And.intro
    · intro h17
      refine Exists.intro [0, 1, 2, 3, 4, 5, 6] (Exists.intro [q2 0, q2 (2 + 2000)] (Exists.intro ([.inr (6, [q2 2, q2 3, q2 4, q2 5, q2 6, q2 1, q1 _, q1 _, q1 _, q1 _, q1 _, q1 _, q1 _, q1 _, q1 _]), .inl (1, 600, .inl _)]) (And.intro rfl (And.intro rfl (And.intro rfl (And.intro ⟨⟨_, rfl⟩, rfl⟩ ?_))))))
      refine Exists.intro _ (Exists.intro _ (Exists.intro _ (Exists.intro _ (Exists.intro _ (Exists.intro _ (Exists.intro _ (Exists.intro _ (Exists.intro _ (Exists.intro _ (Exists.intro 2 (And.intro rfl (And.intro rfl (And.intro (by decide) (?_))))))))))))))
      intro z25 h25
      apply And.intro
      · intro h28
        refine Exists.intro [0, 1, 2, 3, 4, 5, 6] (Exists.intro [q2 0, q2 (3 + 2000)] (Exists.intro ([.inr (6, [q2 2, q2 3, q2 4, q2 5, q2 6, q2 1, q1 _, q1 _, q1 _, q1 _, q1 _, q1 _, q1 _, q1 _, q1 _]), .inl (1, 600, .inl _)]) (And.intro rfl (And.intro rfl (And.intro rfl (And.intro ⟨⟨_, rfl⟩, rfl⟩ ?_))))))
        refine Exists.intro _ (Exists.intro _ (Exists.intro _ (Exists.intro _ (Exists.intro _ (Exists.intro _ (Exists.intro _ (Exists.intro _ (Exists.intro _ (Exists.intro _ (Exists.intro 3 (And.intro rfl (And.intro rfl (And.intro (by decide) (?_))))))))))))))
        intro z36 h36
        apply And.intro
        · intro h39
          refine Exists.intro [0, 1, 2, 3, 4, 5, 6] (Exists.intro [q2 0, q2 (4 + 2000)] (Exists.intro ([.inr (6, [q2 2, q2 3, q2 4, q2 5, q2 6, q2 1, q1 _, q1 _, q1 _, q1 _, q1 _, q1 _, q1 _, q1 _, q1 _]), .inl (1, 600, .inl _)]) (And.intro rfl (And.intro rfl (And.intro rfl (And.intro ⟨⟨_, rfl⟩, rfl⟩ ?_))))))
          refine Exists.intro _ (Exists.intro _ (Exists.intro _ (Exists.intro _ (Exists.intro _ (Exists.intro _ (Exists.intro _ (Exists.intro _ (Exists.intro _ (Exists.intro _ (Exists.intro 4 (And.intro rfl (And.intro rfl (And.intro (by decide) (?_))))))))))))))
          intro z47 h47
          apply And.intro
          · intro h50
            refine Exists.intro [0, 1, 2, 3, 4, 5, 6] (Exists.intro [q2 0, q2 (5 + 2000)] (Exists.intro ([.inr (6, [q2 2, q2 3, q2 4, q2 5, q2 6, q2 1, q1 _, q1 _, q1 _, q1 _, q1 _, q1 _, q1 _, q1 _, q1 _]), .inl (1, 600, .inl _)]) (And.intro rfl (And.intro rfl (And.intro rfl (And.intro ⟨⟨_, rfl⟩, rfl⟩ ?_))))))
            refine Exists.intro _ (Exists.intro _ (Exists.intro _ (Exists.intro _ (Exists.intro _ (Exists.intro _ (Exists.intro _ (Exists.intro _ (Exists.intro _ (Exists.intro _ (Exists.intro 5 (And.intro rfl (And.intro rfl (And.intro (by decide) (?_))))))))))))))
            intro z58 h58
            apply And.intro
            · intro h61
              refine Exists.intro [0, 1, 2, 3, 4, 5, 6] (Exists.intro [q2 0, q2 (6 + 2000)] (Exists.intro ([.inr (6, [q2 2, q2 3, q2 4, q2 5, q2 6, q2 1, q1 _, q1 _, q1 _, q1 _, q1 _, q1 _, q1 _, q1 _, q1 _]), .inl (1, 600, .inl _)]) (And.intro rfl (And.intro rfl (And.intro rfl (And.intro ⟨⟨_, rfl⟩, rfl⟩ ?_))))))
              refine Exists.intro _ (Exists.intro _ (Exists.intro _ (Exists.intro _ (Exists.intro _ (Exists.intro _ (Exists.intro _ (Exists.intro _ (Exists.intro _ (Exists.intro _ (Exists.intro 6 (And.intro rfl (And.intro rfl (And.intro (by decide) (?_))))))))))))))
              intro z69 h69
              apply And.intro
              · intro h72
                refine Exists.intro [0, 1, 2, 3, 4, 5, 6] (Exists.intro [q2 0, q2 (7 + 2000)] (Exists.intro ([.inr (6, [q2 2, q2 3, q2 4, q2 5, q2 6, q2 1, q1 _, q1 _, q1 _, q1 _, q1 _, q1 _, q1 _, q1 _, q1 _]), .inl (1, 600, .inl _)]) (And.intro rfl (And.intro rfl (And.intro rfl (And.intro ⟨⟨_, rfl⟩, rfl⟩ ?_))))))
                refine Exists.intro _ (Exists.intro _ (Exists.intro _ (Exists.intro _ (Exists.intro _ (Exists.intro _ (Exists.intro _ (Exists.intro _ (Exists.intro _ (Exists.intro _ (Exists.intro 7 (And.intro rfl (And.intro rfl (And.intro (by decide) (?_))))))))))))))
                intro z81 h81
                apply And.intro
                · intro h84
                  refine Exists.intro [0, 1, 2, 3, 4, 5, 6] (Exists.intro [q2 0, q2 (8 + 2000)] (Exists.intro ([.inr (6, [q2 2, q2 3, q2 4, q2 5, q2 6, q2 1, q1 _, q1 _, q1 _, q1 _, q1 _, q1 _, q1 _, q1 _, q1 _]), .inl (1, 600, .inl _)]) (And.intro rfl (And.intro rfl (And.intro rfl (And.intro ⟨⟨_, rfl⟩, rfl⟩ ?_))))))
                  refine Exists.intro _ (Exists.intro _ (Exists.intro _ (Exists.intro _ (Exists.intro _ (Exists.intro _ (Exists.intro _ (Exists.intro _ (Exists.intro _ (Exists.intro _ (Exists.intro 8 (And.intro rfl (And.intro rfl (And.intro (by decide) (?_))))))))))))))
                  intro z93 h93
                  apply And.intro
                  · intro h96
                    exact hQ _ (by first | omega | assumption | exact q_rg_up (by assumption) (by omega) | exact q_rg_up (q_rg_up (by assumption) (by omega)) (by omega) | exact q_rg_cpy (by assumption) (by assumption))
                  · intro h96
                    exact hQ _ (by first | omega | assumption | exact q_rg_up (by assumption) (by omega) | exact q_rg_up (q_rg_up (by assumption) (by omega)) (by omega) | exact q_rg_cpy (by assumption) (by assumption))
                · intro h84
                  exact hQ _ (by first | omega | assumption | exact q_rg_up (by assumption) (by omega) | exact q_rg_up (q_rg_up (by assumption) (by omega)) (by omega) | exact q_rg_cpy (by assumption) (by assumption))
              · intro h72
                exact hQ _ (by first | omega | assumption | exact q_rg_up (by assumption) (by omega) | exact q_rg_up (q_rg_up (by assumption) (by omega)) (by omega) | exact q_rg_cpy (by assumption) (by assumption))
            · intro h61
              exact hQ _ (by first | omega | assumption | exact q_rg_up (by assumption) (by omega) | exact q_rg_up (q_rg_up (by assumption) (by omega)) (by omega) | exact q_rg_cpy (by assumption) (by assumption))
          · intro h50
            exact hQ _ (by first | omega | assumption | exact q_rg_up (by assumption) (by omega) | exact q_rg_up (q_rg_up (by assumption) (by omega)) (by omega) | exact q_rg_cpy (by assumption) (by assumption))
        · intro h39
          exact hQ _ (by first | omega | assumption | exact q_rg_up (by assumption) (by omega) | exact q_rg_up (q_rg_up (by assumption) (by omega)) (by omega) | exact q_rg_cpy (by assumption) (by assumption))
      · intro h28
        exact hQ _ (by first | omega | assumption | exact q_rg_up (by assumption) (by omega) | exact q_rg_up (q_rg_up (by assumption) (by omega)) (by omega) | exact q_rg_cpy (by assumption) (by assumption))
    · intro h17
      exact hQ _ (by first | omega | assumption | exact q_rg_up (by assumption) (by omega) | exact q_rg_up (q_rg_up (by assumption) (by omega)) (by omega) | exact q_rg_cpy (by assumption) (by assumption))
  · intro h6
    exact hQ _ (by first | omega | assumption | exact q_rg_up (by assumption) (by omega) | exact q_rg_up (q_rg_up (by assumption) (by omega)) (by omega) | exact q_rg_cpy (by assumption) (by assumption))

theorem dX6_yearWord_0 : decode cX6_yearWord 0 = .ok (.aload_n 0, 1) := by decide +kernel
theorem dX6_yearWord_1 : decode cX6_yearWord 1 = .ok (.ldc 176, 2) := by decide +kernel
theorem dX6_yearWord_3 : decode cX6_yearWord 3 = .ok (.invokevirtual 150, 3) := by decide +kernel
theorem dX6_yearWord_6 : decode cX6_yearWord 6 = .ok (.ifCond .eq 6, 3) := by decide +kernel
theorem dX6_yearWord_9 : decode cX6_yearWord 9 = .ok (.bipush 9, 2) := by decide +kernel
theorem dX6_yearWord_11 : decode cX6_yearWord 11 = .ok (.ireturn, 1) := by decide +kernel
theorem dX6_yearWord_12 : decode cX6_yearWord 12 = .ok (.aload_n 0, 1) := by decide +kernel
theorem dX6_yearWord_13 : decode cX6_yearWord 13 = .ok (.ldc 178, 2) := by decide +kernel
theorem dX6_yearWord_15 : decode cX6_yearWord 15 = .ok (.invokevirtual 150, 3) := by decide +kernel
theorem dX6_yearWord_18 : decode cX6_yearWord 18 = .ok (.ifCond .eq 6, 3) := by decide +kernel
theorem dX6_yearWord_21 : decode cX6_yearWord 21 = .ok (.bipush 10, 2) := by decide +kernel
theorem dX6_yearWord_23 : decode cX6_yearWord 23 = .ok (.ireturn, 1) := by decide +kernel
theorem dX6_yearWord_24 : decode cX6_yearWord 24 = .ok (.aload_n 0, 1) := by decide +kernel
theorem dX6_yearWord_25 : decode cX6_yearWord 25 = .ok (.ldc 180, 2) := by decide +kernel
theorem dX6_yearWord_27 : decode cX6_yearWord 27 = .ok (.invokevirtual 150, 3) := by decide +kernel
theorem dX6_yearWord_30 : decode cX6_yearWord 30 = .ok (.ifCond .eq 6, 3) := by decide +kernel
theorem dX6_yearWord_33 : decode cX6_yearWord 33 = .ok (.bipush 11, 2) := by decide +kernel
theorem dX6_yearWord_35 : decode cX6_yearWord 35 = .ok (.ireturn, 1) := by decide +kernel
theorem dX6_yearWord_36 : decode cX6_yearWord 36 = .ok (.aload_n 0, 1) := by decide +kernel
theorem dX6_yearWord_37 : decode cX6_yearWord 37 = .ok (.ldc 182, 2) := by decide +kernel
theorem dX6_yearWord_39 : decode cX6_yearWord 39 = .ok (.invokevirtual 150, 3) := by decide +kernel
theorem dX6_yearWord_42 : decode cX6_yearWord 42 = .ok (.ifCond .eq 6, 3) := by decide +kernel
theorem dX6_yearWord_45 : decode cX6_yearWord 45 = .ok (.bipush 12, 2) := by decide +kernel
theorem dX6_yearWord_47 : decode cX6_yearWord 47 = .ok (.ireturn, 1) := by decide +kernel
theorem dX6_yearWord_48 : decode cX6_yearWord 48 = .ok (.aload_n 0, 1) := by decide +kernel
theorem dX6_yearWord_49 : decode cX6_yearWord 49 = .ok (.ldc 184, 2) := by decide +kernel
theorem dX6_yearWord_51 : decode cX6_yearWord 51 = .ok (.invokevirtual 150, 3) := by decide +kernel
theorem dX6_yearWord_54 : decode cX6_yearWord 54 = .ok (.ifCond .eq 8, 3) := by decide +kernel
theorem dX6_yearWord_57 : decode cX6_yearWord 57 = .ok (.bipush 13, 2) := by decide +kernel
theorem dX6_yearWord_59 : decode cX6_yearWord 59 = .ok (.goto 4, 3) := by decide +kernel
theorem dX6_yearWord_62 : decode cX6_yearWord 62 = .ok (.iconst (-1), 1) := by decide +kernel
theorem dX6_yearWord_63 : decode cX6_yearWord 63 = .ok (.ireturn, 1) := by decide +kernel
def is_X6_yearWord : Nat → List Nat := fun d => []
set_option maxRecDepth 100000 in
def b_X6_yearWord_63 (J : Nat → List qV → List qV → qW → Prop) (Q : qR) : qK := x_iret Q
set_option maxRecDepth 100000 in
theorem s_X6_yearWord_63 {p : Program} {l : Launch} {e : Env} {R : Room} {s : State} {m : MethodId} {args : Array Value} {below : List Frame} {meth : Method} {c : Code} {nW : Nat} {dC : Nat → ClassId} {dI : Nat → Nat → Nat} {k : Nat → ClassId} {g : Nat → Nat} {A : Nat → Prop} {J : Nat → List qV → List qV → qW → Prop} {Q : qR} (X : q_X p R s m args meth c cX6_yearWord 1 nW 5 107 RX6 (some .int) dC dI k g A) (hJ : ∀ d : Nat, q_Sd p l e R s m args below meth c 1 nW dC dI k g A (MQ below (q_post (dC, dI) k g nW Q A) args s 0 0 A) d (x_cut (is_X6_yearWord d) (J d))) : q_Sd p l e R s m args below meth c 1 nW dC dI k g A (MQ below (q_post (dC, dI) k g nW Q A) args s 0 0 A) 63 (b_X6_yearWord_63 J Q) := by
  unfold b_X6_yearWord_63
  exact s_iret X dX6_yearWord_63
set_option maxRecDepth 100000 in
def b_X6_yearWord_48 (J : Nat → List qV → List qV → qW → Prop) (Q : qR) : qK := x_aload 0 (x_ldcs 13 (x_callr (some 6) 2 spr_X6_is (x_if_eq (x_int (-1) (b_X6_yearWord_63 J Q)) (x_int 13 (b_X6_yearWord_63 J Q)))))
set_option maxRecDepth 100000 in
theorem s_X6_yearWord_48 {p : Program} {l : Launch} {e : Env} {R : Room} {s : State} {m : MethodId} {args : Array Value} {below : List Frame} {meth : Method} {c : Code} {nW : Nat} {dC : Nat → ClassId} {dI : Nat → Nat → Nat} {k : Nat → ClassId} {g : Nat → Nat} {A : Nat → Prop} {J : Nat → List qV → List qV → qW → Prop} {Q : qR} (X : q_X p R s m args meth c cX6_yearWord 1 nW 5 107 RX6 (some .int) dC dI k g A) (hJ : ∀ d : Nat, q_Sd p l e R s m args below meth c 1 nW dC dI k g A (MQ below (q_post (dC, dI) k g nW Q A) args s 0 0 A) d (x_cut (is_X6_yearWord d) (J d))) : q_Sd p l e R s m args below meth c 1 nW dC dI k g A (MQ below (q_post (dC, dI) k g nW Q A) args s 0 0 A) 48 (b_X6_yearWord_48 J Q) := by
  unfold b_X6_yearWord_48
  refine s_aload_n X rfl dX6_yearWord_48 ?_
  refine s_ldcs X (i := 13) rfl rfl dX6_yearWord_49 ?_
  refine s_callVr X (m_X6_is l) tw_411 tw_412 tw_1511 tw_128 tw_413 rfl (by decide +kernel) ⟨by decide, by decide⟩ dX6_yearWord_51 ?_
  refine s_if_eq X (tgt := 62) dX6_yearWord_54 (by decide) ?_ ?_
  · refine s_iconst X ⟨by decide, by decide⟩ dX6_yearWord_62 ?_
    exact s_X6_yearWord_63 X hJ
  · refine s_bipush X ⟨by decide, by decide⟩ (by decide) dX6_yearWord_57 ?_
    refine s_goto X (tgt := 63) dX6_yearWord_59 (by decide) ?_
    exact s_X6_yearWord_63 X hJ
set_option maxRecDepth 100000 in
def b_X6_yearWord_0 (J : Nat → List qV → List qV → qW → Prop) (Q : qR) : qK := x_aload 0 (x_ldcs 9 (x_callr (some 6) 2 spr_X6_is (x_if_eq (x_aload 0 (x_ldcs 10 (x_callr (some 6) 2 spr_X6_is (x_if_eq (x_aload 0 (x_ldcs 11 (x_callr (some 6) 2 spr_X6_is (x_if_eq (x_aload 0 (x_ldcs 12 (x_callr (some 6) 2 spr_X6_is (x_if_eq (b_X6_yearWord_48 J Q) (x_int 12 (x_iret Q)))))) (x_int 11 (x_iret Q)))))) (x_int 10 (x_iret Q)))))) (x_int 9 (x_iret Q)))))
set_option maxRecDepth 100000 in
theorem s_X6_yearWord_0 {p : Program} {l : Launch} {e : Env} {R : Room} {s : State} {m : MethodId} {args : Array Value} {below : List Frame} {meth : Method} {c : Code} {nW : Nat} {dC : Nat → ClassId} {dI : Nat → Nat → Nat} {k : Nat → ClassId} {g : Nat → Nat} {A : Nat → Prop} {J : Nat → List qV → List qV → qW → Prop} {Q : qR} (X : q_X p R s m args meth c cX6_yearWord 1 nW 5 107 RX6 (some .int) dC dI k g A) (hJ : ∀ d : Nat, q_Sd p l e R s m args below meth c 1 nW dC dI k g A (MQ below (q_post (dC, dI) k g nW Q A) args s 0 0 A) d (x_cut (is_X6_yearWord d) (J d))) : q_Sd p l e R s m args below meth c 1 nW dC dI k g A (MQ below (q_post (dC, dI) k g nW Q A) args s 0 0 A) 0 (b_X6_yearWord_0 J Q) := by
  unfold b_X6_yearWord_0
  refine s_aload_n X rfl dX6_yearWord_0 ?_
  refine s_ldcs X (i := 9) rfl rfl dX6_yearWord_1 ?_
  refine s_callVr X (m_X6_is l) tw_411 tw_412 tw_1511 tw_128 tw_413 rfl (by decide +kernel) ⟨by decide, by decide⟩ dX6_yearWord_3 ?_
  refine s_if_eq X (tgt := 12) dX6_yearWord_6 (by decide) ?_ ?_
  · refine s_aload_n X rfl dX6_yearWord_12 ?_
    refine s_ldcs X (i := 10) rfl rfl dX6_yearWord_13 ?_
    refine s_callVr X (m_X6_is l) tw_411 tw_412 tw_1511 tw_128 tw_413 rfl (by decide +kernel) ⟨by decide, by decide⟩ dX6_yearWord_15 ?_
    refine s_if_eq X (tgt := 24) dX6_yearWord_18 (by decide) ?_ ?_
    · refine s_aload_n X rfl dX6_yearWord_24 ?_
      refine s_ldcs X (i := 11) rfl rfl dX6_yearWord_25 ?_
      refine s_callVr X (m_X6_is l) tw_411 tw_412 tw_1511 tw_128 tw_413 rfl (by decide +kernel) ⟨by decide, by decide⟩ dX6_yearWord_27 ?_
      refine s_if_eq X (tgt := 36) dX6_yearWord_30 (by decide) ?_ ?_
      · refine s_aload_n X rfl dX6_yearWord_36 ?_
        refine s_ldcs X (i := 12) rfl rfl dX6_yearWord_37 ?_
        refine s_callVr X (m_X6_is l) tw_411 tw_412 tw_1511 tw_128 tw_413 rfl (by decide +kernel) ⟨by decide, by decide⟩ dX6_yearWord_39 ?_
        refine s_if_eq X (tgt := 48) dX6_yearWord_42 (by decide) ?_ ?_
        · exact s_X6_yearWord_48 X hJ
        · refine s_bipush X ⟨by decide, by decide⟩ (by decide) dX6_yearWord_45 ?_
          exact s_iret X dX6_yearWord_47
      · refine s_bipush X ⟨by decide, by decide⟩ (by decide) dX6_yearWord_33 ?_
        exact s_iret X dX6_yearWord_35
    · refine s_bipush X ⟨by decide, by decide⟩ (by decide) dX6_yearWord_21 ?_
      exact s_iret X dX6_yearWord_23
  · refine s_bipush X ⟨by decide, by decide⟩ (by decide) dX6_yearWord_9 ?_
    exact s_iret X dX6_yearWord_11

def spr_X6_yearWord : List qV → qW → (Option qV → Prop) → Prop := fun av w Q => ∃ (rln : Int) (rfa : Int) (rpl : Int) (rst : Int) (rnx : Int) (rtk : Int) (rnm : Int) (rnp : Int) (rnd : Int) (tp : Nat → Int), av = [q2 0] ∧ w = [.inr (6, [q2 2, q2 3, q2 4, q2 5, q2 6, q2 1, q1 rln, q1 rfa, q1 rpl, q1 rst, q1 rnx, q1 rtk, q1 rnm, q1 rnp, q1 rnd]), .inl (1, 600, .inl tp)] ∧ (∀ (r : Int) , (r = -1 ∨ 9 ≤ r ∧ r ≤ 13) → Q (some (q1 r)))
def sp_X6_yearWord : qS := fun av w Q => spr_X6_yearWord av w (fun r => Q r w)
set_option maxHeartbeats 4000000 in
set_option maxRecDepth 100000 in
theorem m_X6_yearWord (l : Launch) : q_M l yX6_yearWord cX6_yearWord 1 (some .int) 5 107 sp_X6_yearWord := by
  refine q_meth (by decide) (fun av w Q h => by obtain ⟨rln, rfa, rpl, rst, rnx, rtk, rnm, rnp, rnd, tp, rfl, rfl, hQ⟩ := h; exact Nat.le_of_ble_eq_true rfl) ?_
  intro p e R s m args below meth c dC dI k g A av w Q hsp oka okw X
  obtain ⟨rln, rfa, rpl, rst, rnx, rtk, rnm, rnp, rnd, tp, rfl, rfl, hQ⟩ := hsp
  refine s_mono (s_X6_yearWord_0 X (J := fun _ _ _ _ => False) (fun d => s_cutF)) ?_
  rintro lv st w' ⟨rfl, rfl, rfl⟩
  refine Exists.intro [0, 1, 2, 3, 4, 5, 6] (Exists.intro [q2 0, q2 (9 + 2000)] (Exists.intro ([.inr (6, [q2 2, q2 3, q2 4, q2 5, q2 6, q2 1, q1 _, q1 _, q1 _, q1 _, q1 _, q1 _, q1 _, q1 _, q1 _]), .inl (1, 600, .inl _)]) (And.intro rfl (And.intro rfl (And.intro rfl (And.intro ⟨⟨_, rfl⟩, rfl⟩ ?_))))))
  refine Exists.intro _ (Exists.intro _ (Exists.intro _ (Exists.intro _ (Exists.intro _ (Exists.intro _ (Exists.intro _ (Exists.intro _ (Exists.intro _ (Exists.intro _ (Exists.intro 9 (And.intro rfl (And.intro rfl (And.intro (by decide) (?_))))))))))))))
  intro z3 h3
  apply And.intro
  · intro h6
    refine Exists.intro [0, 1, 2, 3, 4, 5, 6] (Exists.intro [q2 0, q2 (10 + 2000)] (Exists.intro ([.inr (6, [q2 2, q2 3, q2 4, q2 5, q2 6, q2 1, q1 _, q1 _, q1 _, q1 _, q1 _, q1 _, q1 _, q1 _, q1 _]), .inl (1, 600, .inl _)]) (And.intro rfl (And.intro rfl (And.intro rfl (And.intro ⟨⟨_, rfl⟩, rfl⟩ ?_))))))
    refine Exists.intro _ (Exists.intro _ (Exists.intro _ (Exists.intro _ (Exists.intro _ (Exists.intro _ (Exists.intro _ (Exists.intro _ (Exists.intro _ (Exists.intro _ (Exists.intro 10 (And.intro rfl (And.intro rfl (And.intro (by decide) (?_))))))))))))))
    intro z15 h15
    apply And.intro
    · intro h18
      refine Exists.intro [0, 1, 2, 3, 4, 5, 6] (Exists.intro [q2 0, q2 (11 + 2000)] (Exists.intro ([.inr (6, [q2 2, q2 3, q2 4, q2 5, q2 6, q2 1, q1 _, q1 _, q1 _, q1 _, q1 _, q1 _, q1 _, q1 _, q1 _]), .inl (1, 600, .inl _)]) (And.intro rfl (And.intro rfl (And.intro rfl (And.intro ⟨⟨_, rfl⟩, rfl⟩ ?_))))))
      refine Exists.intro _ (Exists.intro _ (Exists.intro _ (Exists.intro _ (Exists.intro _ (Exists.intro _ (Exists.intro _ (Exists.intro _ (Exists.intro _ (Exists.intro _ (Exists.intro 11 (And.intro rfl (And.intro rfl (And.intro (by decide) (?_))))))))))))))
      intro z27 h27
      apply And.intro
      · intro h30
        refine Exists.intro [0, 1, 2, 3, 4, 5, 6] (Exists.intro [q2 0, q2 (12 + 2000)] (Exists.intro ([.inr (6, [q2 2, q2 3, q2 4, q2 5, q2 6, q2 1, q1 _, q1 _, q1 _, q1 _, q1 _, q1 _, q1 _, q1 _, q1 _]), .inl (1, 600, .inl _)]) (And.intro rfl (And.intro rfl (And.intro rfl (And.intro ⟨⟨_, rfl⟩, rfl⟩ ?_))))))
        refine Exists.intro _ (Exists.intro _ (Exists.intro _ (Exists.intro _ (Exists.intro _ (Exists.intro _ (Exists.intro _ (Exists.intro _ (Exists.intro _ (Exists.intro _ (Exists.intro 12 (And.intro rfl (And.intro rfl (And.intro (by decide) (?_))))))))))))))
        intro z39 h39
        apply And.intro
        · intro h42
          refine Exists.intro [0, 1, 2, 3, 4, 5, 6] (Exists.intro [q2 0, q2 (13 + 2000)] (Exists.intro ([.inr (6, [q2 2, q2 3, q2 4, q2 5, q2 6, q2 1, q1 _, q1 _, q1 _, q1 _, q1 _, q1 _, q1 _, q1 _, q1 _]), .inl (1, 600, .inl _)]) (And.intro rfl (And.intro rfl (And.intro rfl (And.intro ⟨⟨_, rfl⟩, rfl⟩ ?_))))))
          refine Exists.intro _ (Exists.intro _ (Exists.intro _ (Exists.intro _ (Exists.intro _ (Exists.intro _ (Exists.intro _ (Exists.intro _ (Exists.intro _ (Exists.intro _ (Exists.intro 13 (And.intro rfl (And.intro rfl (And.intro (by decide) (?_))))))))))))))
          intro z51 h51
          apply And.intro
          · intro h54
            exact hQ _ (by first | omega | assumption | exact q_rg_up (by assumption) (by omega) | exact q_rg_up (q_rg_up (by assumption) (by omega)) (by omega) | exact q_rg_cpy (by assumption) (by assumption))
          · intro h54
            exact hQ _ (by first | omega | assumption | exact q_rg_up (by assumption) (by omega) | exact q_rg_up (q_rg_up (by assumption) (by omega)) (by omega) | exact q_rg_cpy (by assumption) (by assumption))
        · intro h42
          exact hQ _ (by first | omega | assumption | exact q_rg_up (by assumption) (by omega) | exact q_rg_up (q_rg_up (by assumption) (by omega)) (by omega) | exact q_rg_cpy (by assumption) (by assumption))
      · intro h30
        exact hQ _ (by first | omega | assumption | exact q_rg_up (by assumption) (by omega) | exact q_rg_up (q_rg_up (by assumption) (by omega)) (by omega) | exact q_rg_cpy (by assumption) (by assumption))
    · intro h18
      exact hQ _ (by first | omega | assumption | exact q_rg_up (by assumption) (by omega) | exact q_rg_up (q_rg_up (by assumption) (by omega)) (by omega) | exact q_rg_cpy (by assumption) (by assumption))
  · intro h6
    exact hQ _ (by first | omega | assumption | exact q_rg_up (by assumption) (by omega) | exact q_rg_up (q_rg_up (by assumption) (by omega)) (by omega) | exact q_rg_cpy (by assumption) (by assumption))

theorem dX6_offenceWord_0 : decode cX6_offenceWord 0 = .ok (.aload_n 0, 1) := by decide +kernel
theorem dX6_offenceWord_1 : decode cX6_offenceWord 1 = .ok (.ldc 186, 2) := by decide +kernel
theorem dX6_offenceWord_3 : decode cX6_offenceWord 3 = .ok (.invokevirtual 150, 3) := by decide +kernel
theorem dX6_offenceWord_6 : decode cX6_offenceWord 6 = .ok (.ifCond .eq 5, 3) := by decide +kernel
theorem dX6_offenceWord_9 : decode cX6_offenceWord 9 = .ok (.iconst 0, 1) := by decide +kernel
theorem dX6_offenceWord_10 : decode cX6_offenceWord 10 = .ok (.ireturn, 1) := by decide +kernel
theorem dX6_offenceWord_11 : decode cX6_offenceWord 11 = .ok (.aload_n 0, 1) := by decide +kernel
theorem dX6_offenceWord_12 : decode cX6_offenceWord 12 = .ok (.ldc 188, 2) := by decide +kernel
theorem dX6_offenceWord_14 : decode cX6_offenceWord 14 = .ok (.invokevirtual 150, 3) := by decide +kernel
theorem dX6_offenceWord_17 : decode cX6_offenceWord 17 = .ok (.ifCond .eq 5, 3) := by decide +kernel
theorem dX6_offenceWord_20 : decode cX6_offenceWord 20 = .ok (.iconst 1, 1) := by decide +kernel
theorem dX6_offenceWord_21 : decode cX6_offenceWord 21 = .ok (.ireturn, 1) := by decide +kernel
theorem dX6_offenceWord_22 : decode cX6_offenceWord 22 = .ok (.aload_n 0, 1) := by decide +kernel
theorem dX6_offenceWord_23 : decode cX6_offenceWord 23 = .ok (.ldc 190, 2) := by decide +kernel
theorem dX6_offenceWord_25 : decode cX6_offenceWord 25 = .ok (.invokevirtual 150, 3) := by decide +kernel
theorem dX6_offenceWord_28 : decode cX6_offenceWord 28 = .ok (.ifCond .eq 5, 3) := by decide +kernel
theorem dX6_offenceWord_31 : decode cX6_offenceWord 31 = .ok (.iconst 2, 1) := by decide +kernel
theorem dX6_offenceWord_32 : decode cX6_offenceWord 32 = .ok (.ireturn, 1) := by decide +kernel
theorem dX6_offenceWord_33 : decode cX6_offenceWord 33 = .ok (.aload_n 0, 1) := by decide +kernel
theorem dX6_offenceWord_34 : decode cX6_offenceWord 34 = .ok (.ldc 192, 2) := by decide +kernel
theorem dX6_offenceWord_36 : decode cX6_offenceWord 36 = .ok (.invokevirtual 150, 3) := by decide +kernel
theorem dX6_offenceWord_39 : decode cX6_offenceWord 39 = .ok (.ifCond .eq 7, 3) := by decide +kernel
theorem dX6_offenceWord_42 : decode cX6_offenceWord 42 = .ok (.iconst 3, 1) := by decide +kernel
theorem dX6_offenceWord_43 : decode cX6_offenceWord 43 = .ok (.goto 4, 3) := by decide +kernel
theorem dX6_offenceWord_46 : decode cX6_offenceWord 46 = .ok (.iconst (-1), 1) := by decide +kernel
theorem dX6_offenceWord_47 : decode cX6_offenceWord 47 = .ok (.ireturn, 1) := by decide +kernel
def is_X6_offenceWord : Nat → List Nat := fun d => []
set_option maxRecDepth 100000 in
def b_X6_offenceWord_47 (J : Nat → List qV → List qV → qW → Prop) (Q : qR) : qK := x_iret Q
set_option maxRecDepth 100000 in
theorem s_X6_offenceWord_47 {p : Program} {l : Launch} {e : Env} {R : Room} {s : State} {m : MethodId} {args : Array Value} {below : List Frame} {meth : Method} {c : Code} {nW : Nat} {dC : Nat → ClassId} {dI : Nat → Nat → Nat} {k : Nat → ClassId} {g : Nat → Nat} {A : Nat → Prop} {J : Nat → List qV → List qV → qW → Prop} {Q : qR} (X : q_X p R s m args meth c cX6_offenceWord 1 nW 5 107 RX6 (some .int) dC dI k g A) (hJ : ∀ d : Nat, q_Sd p l e R s m args below meth c 1 nW dC dI k g A (MQ below (q_post (dC, dI) k g nW Q A) args s 0 0 A) d (x_cut (is_X6_offenceWord d) (J d))) : q_Sd p l e R s m args below meth c 1 nW dC dI k g A (MQ below (q_post (dC, dI) k g nW Q A) args s 0 0 A) 47 (b_X6_offenceWord_47 J Q) := by
  unfold b_X6_offenceWord_47
  exact s_iret X dX6_offenceWord_47
set_option maxRecDepth 100000 in
def b_X6_offenceWord_46 (J : Nat → List qV → List qV → qW → Prop) (Q : qR) : qK := x_int (-1) (b_X6_offenceWord_47 J Q)
set_option maxRecDepth 100000 in
theorem s_X6_offenceWord_46 {p : Program} {l : Launch} {e : Env} {R : Room} {s : State} {m : MethodId} {args : Array Value} {below : List Frame} {meth : Method} {c : Code} {nW : Nat} {dC : Nat → ClassId} {dI : Nat → Nat → Nat} {k : Nat → ClassId} {g : Nat → Nat} {A : Nat → Prop} {J : Nat → List qV → List qV → qW → Prop} {Q : qR} (X : q_X p R s m args meth c cX6_offenceWord 1 nW 5 107 RX6 (some .int) dC dI k g A) (hJ : ∀ d : Nat, q_Sd p l e R s m args below meth c 1 nW dC dI k g A (MQ below (q_post (dC, dI) k g nW Q A) args s 0 0 A) d (x_cut (is_X6_offenceWord d) (J d))) : q_Sd p l e R s m args below meth c 1 nW dC dI k g A (MQ below (q_post (dC, dI) k g nW Q A) args s 0 0 A) 46 (b_X6_offenceWord_46 J Q) := by
  unfold b_X6_offenceWord_46
  refine s_iconst X ⟨by decide, by decide⟩ dX6_offenceWord_46 ?_
  exact s_X6_offenceWord_47 X hJ
set_option maxRecDepth 100000 in
def b_X6_offenceWord_0 (J : Nat → List qV → List qV → qW → Prop) (Q : qR) : qK := x_aload 0 (x_ldcs 17 (x_callr (some 6) 2 spr_X6_is (x_if_eq (x_aload 0 (x_ldcs 18 (x_callr (some 6) 2 spr_X6_is (x_if_eq (x_aload 0 (x_ldcs 19 (x_callr (some 6) 2 spr_X6_is (x_if_eq (x_aload 0 (x_ldcs 20 (x_callr (some 6) 2 spr_X6_is (x_if_eq (b_X6_offenceWord_46 J Q) (x_int 3 (b_X6_offenceWord_47 J Q)))))) (x_int 2 (x_iret Q)))))) (x_int 1 (x_iret Q)))))) (x_int 0 (x_iret Q)))))
set_option maxRecDepth 100000 in
theorem s_X6_offenceWord_0 {p : Program} {l : Launch} {e : Env} {R : Room} {s : State} {m : MethodId} {args : Array Value} {below : List Frame} {meth : Method} {c : Code} {nW : Nat} {dC : Nat → ClassId} {dI : Nat → Nat → Nat} {k : Nat → ClassId} {g : Nat → Nat} {A : Nat → Prop} {J : Nat → List qV → List qV → qW → Prop} {Q : qR} (X : q_X p R s m args meth c cX6_offenceWord 1 nW 5 107 RX6 (some .int) dC dI k g A) (hJ : ∀ d : Nat, q_Sd p l e R s m args below meth c 1 nW dC dI k g A (MQ below (q_post (dC, dI) k g nW Q A) args s 0 0 A) d (x_cut (is_X6_offenceWord d) (J d))) : q_Sd p l e R s m args below meth c 1 nW dC dI k g A (MQ below (q_post (dC, dI) k g nW Q A) args s 0 0 A) 0 (b_X6_offenceWord_0 J Q) := by
  unfold b_X6_offenceWord_0
  refine s_aload_n X rfl dX6_offenceWord_0 ?_
  refine s_ldcs X (i := 17) rfl rfl dX6_offenceWord_1 ?_
  refine s_callVr X (m_X6_is l) tw_411 tw_412 tw_1511 tw_128 tw_413 rfl (by decide +kernel) ⟨by decide, by decide⟩ dX6_offenceWord_3 ?_
  refine s_if_eq X (tgt := 11) dX6_offenceWord_6 (by decide) ?_ ?_
  · refine s_aload_n X rfl dX6_offenceWord_11 ?_
    refine s_ldcs X (i := 18) rfl rfl dX6_offenceWord_12 ?_
    refine s_callVr X (m_X6_is l) tw_411 tw_412 tw_1511 tw_128 tw_413 rfl (by decide +kernel) ⟨by decide, by decide⟩ dX6_offenceWord_14 ?_
    refine s_if_eq X (tgt := 22) dX6_offenceWord_17 (by decide) ?_ ?_
    · refine s_aload_n X rfl dX6_offenceWord_22 ?_
      refine s_ldcs X (i := 19) rfl rfl dX6_offenceWord_23 ?_
      refine s_callVr X (m_X6_is l) tw_411 tw_412 tw_1511 tw_128 tw_413 rfl (by decide +kernel) ⟨by decide, by decide⟩ dX6_offenceWord_25 ?_
      refine s_if_eq X (tgt := 33) dX6_offenceWord_28 (by decide) ?_ ?_
      · refine s_aload_n X rfl dX6_offenceWord_33 ?_
        refine s_ldcs X (i := 20) rfl rfl dX6_offenceWord_34 ?_
        refine s_callVr X (m_X6_is l) tw_411 tw_412 tw_1511 tw_128 tw_413 rfl (by decide +kernel) ⟨by decide, by decide⟩ dX6_offenceWord_36 ?_
        refine s_if_eq X (tgt := 46) dX6_offenceWord_39 (by decide) ?_ ?_
        · exact s_X6_offenceWord_46 X hJ
        · refine s_iconst X ⟨by decide, by decide⟩ dX6_offenceWord_42 ?_
          refine s_goto X (tgt := 47) dX6_offenceWord_43 (by decide) ?_
          exact s_X6_offenceWord_47 X hJ
      · refine s_iconst X ⟨by decide, by decide⟩ dX6_offenceWord_31 ?_
        exact s_iret X dX6_offenceWord_32
    · refine s_iconst X ⟨by decide, by decide⟩ dX6_offenceWord_20 ?_
      exact s_iret X dX6_offenceWord_21
  · refine s_iconst X ⟨by decide, by decide⟩ dX6_offenceWord_9 ?_
    exact s_iret X dX6_offenceWord_10

def spr_X6_offenceWord : List qV → qW → (Option qV → Prop) → Prop := fun av w Q => ∃ (rln : Int) (rfa : Int) (rpl : Int) (rst : Int) (rnx : Int) (rtk : Int) (rnm : Int) (rnp : Int) (rnd : Int) (tp : Nat → Int), av = [q2 0] ∧ w = [.inr (6, [q2 2, q2 3, q2 4, q2 5, q2 6, q2 1, q1 rln, q1 rfa, q1 rpl, q1 rst, q1 rnx, q1 rtk, q1 rnm, q1 rnp, q1 rnd]), .inl (1, 600, .inl tp)] ∧ (∀ (r : Int) , -1 ≤ r ∧ r ≤ 3 → Q (some (q1 r)))
def sp_X6_offenceWord : qS := fun av w Q => spr_X6_offenceWord av w (fun r => Q r w)
set_option maxHeartbeats 4000000 in
set_option maxRecDepth 100000 in
theorem m_X6_offenceWord (l : Launch) : q_M l yX6_offenceWord cX6_offenceWord 1 (some .int) 5 107 sp_X6_offenceWord := by
  refine q_meth (by decide) (fun av w Q h => by obtain ⟨rln, rfa, rpl, rst, rnx, rtk, rnm, rnp, rnd, tp, rfl, rfl, hQ⟩ := h; exact Nat.le_of_ble_eq_true rfl) ?_
  intro p e R s m args below meth c dC dI k g A av w Q hsp oka okw X
  obtain ⟨rln, rfa, rpl, rst, rnx, rtk, rnm, rnp, rnd, tp, rfl, rfl, hQ⟩ := hsp
  refine s_mono (s_X6_offenceWord_0 X (J := fun _ _ _ _ => False) (fun d => s_cutF)) ?_
  rintro lv st w' ⟨rfl, rfl, rfl⟩
  refine Exists.intro [0, 1, 2, 3, 4, 5, 6] (Exists.intro [q2 0, q2 (17 + 2000)] (Exists.intro ([.inr (6, [q2 2, q2 3, q2 4, q2 5, q2 6, q2 1, q1 _, q1 _, q1 _, q1 _, q1 _, q1 _, q1 _, q1 _, q1 _]), .inl (1, 600, .inl _)]) (And.intro rfl (And.intro rfl (And.intro rfl (And.intro ⟨⟨_, rfl⟩, rfl⟩ ?_))))))
  refine Exists.intro _ (Exists.intro _ (Exists.intro _ (Exists.intro _ (Exists.intro _ (Exists.intro _ (Exists.intro _ (Exists.intro _ (Exists.intro _ (Exists.intro _ (Exists.intro 17 (And.intro rfl (And.intro rfl (And.intro (by decide) (?_))))))))))))))
  intro z3 h3
  apply And.intro
  · intro h6
    refine Exists.intro [0, 1, 2, 3, 4, 5, 6] (Exists.intro [q2 0, q2 (18 + 2000)] (Exists.intro ([.inr (6, [q2 2, q2 3, q2 4, q2 5, q2 6, q2 1, q1 _, q1 _, q1 _, q1 _, q1 _, q1 _, q1 _, q1 _, q1 _]), .inl (1, 600, .inl _)]) (And.intro rfl (And.intro rfl (And.intro rfl (And.intro ⟨⟨_, rfl⟩, rfl⟩ ?_))))))
    refine Exists.intro _ (Exists.intro _ (Exists.intro _ (Exists.intro _ (Exists.intro _ (Exists.intro _ (Exists.intro _ (Exists.intro _ (Exists.intro _ (Exists.intro _ (Exists.intro 18 (And.intro rfl (And.intro rfl (And.intro (by decide) (?_))))))))))))))
    intro z14 h14
    apply And.intro
    · intro h17
      refine Exists.intro [0, 1, 2, 3, 4, 5, 6] (Exists.intro [q2 0, q2 (19 + 2000)] (Exists.intro ([.inr (6, [q2 2, q2 3, q2 4, q2 5, q2 6, q2 1, q1 _, q1 _, q1 _, q1 _, q1 _, q1 _, q1 _, q1 _, q1 _]), .inl (1, 600, .inl _)]) (And.intro rfl (And.intro rfl (And.intro rfl (And.intro ⟨⟨_, rfl⟩, rfl⟩ ?_))))))
      refine Exists.intro _ (Exists.intro _ (Exists.intro _ (Exists.intro _ (Exists.intro _ (Exists.intro _ (Exists.intro _ (Exists.intro _ (Exists.intro _ (Exists.intro _ (Exists.intro 19 (And.intro rfl (And.intro rfl (And.intro (by decide) (?_))))))))))))))
      intro z25 h25
      apply And.intro
      · intro h28
        refine Exists.intro [0, 1, 2, 3, 4, 5, 6] (Exists.intro [q2 0, q2 (20 + 2000)] (Exists.intro ([.inr (6, [q2 2, q2 3, q2 4, q2 5, q2 6, q2 1, q1 _, q1 _, q1 _, q1 _, q1 _, q1 _, q1 _, q1 _, q1 _]), .inl (1, 600, .inl _)]) (And.intro rfl (And.intro rfl (And.intro rfl (And.intro ⟨⟨_, rfl⟩, rfl⟩ ?_))))))
        refine Exists.intro _ (Exists.intro _ (Exists.intro _ (Exists.intro _ (Exists.intro _ (Exists.intro _ (Exists.intro _ (Exists.intro _ (Exists.intro _ (Exists.intro _ (Exists.intro 20 (And.intro rfl (And.intro rfl (And.intro (by decide) (?_))))))))))))))
        intro z36 h36
        apply And.intro
        · intro h39
          exact hQ _ (by first | omega | assumption | exact q_rg_up (by assumption) (by omega) | exact q_rg_up (q_rg_up (by assumption) (by omega)) (by omega) | exact q_rg_cpy (by assumption) (by assumption))
        · intro h39
          exact hQ _ (by first | omega | assumption | exact q_rg_up (by assumption) (by omega) | exact q_rg_up (q_rg_up (by assumption) (by omega)) (by omega) | exact q_rg_cpy (by assumption) (by assumption))
      · intro h28
        exact hQ _ (by first | omega | assumption | exact q_rg_up (by assumption) (by omega) | exact q_rg_up (q_rg_up (by assumption) (by omega)) (by omega) | exact q_rg_cpy (by assumption) (by assumption))
    · intro h17
      exact hQ _ (by first | omega | assumption | exact q_rg_up (by assumption) (by omega) | exact q_rg_up (q_rg_up (by assumption) (by omega)) (by omega) | exact q_rg_cpy (by assumption) (by assumption))
  · intro h6
    exact hQ _ (by first | omega | assumption | exact q_rg_up (by assumption) (by omega) | exact q_rg_up (q_rg_up (by assumption) (by omega)) (by omega) | exact q_rg_cpy (by assumption) (by assumption))

theorem dX6_lineWord_0 : decode cX6_lineWord 0 = .ok (.iload_n 1, 1) := by decide +kernel
theorem dX6_lineWord_1 : decode cX6_lineWord 1 = .ok (.tableswitch 87 0 3 #[31, 36, 41, 71], 31) := by decide +kernel
theorem dX6_lineWord_32 : decode cX6_lineWord 32 = .ok (.aload_n 0, 1) := by decide +kernel
theorem dX6_lineWord_33 : decode cX6_lineWord 33 = .ok (.invokevirtual 142, 3) := by decide +kernel
theorem dX6_lineWord_36 : decode cX6_lineWord 36 = .ok (.ireturn, 1) := by decide +kernel
theorem dX6_lineWord_37 : decode cX6_lineWord 37 = .ok (.aload_n 0, 1) := by decide +kernel
theorem dX6_lineWord_38 : decode cX6_lineWord 38 = .ok (.invokevirtual 145, 3) := by decide +kernel
theorem dX6_lineWord_41 : decode cX6_lineWord 41 = .ok (.ireturn, 1) := by decide +kernel
theorem dX6_lineWord_42 : decode cX6_lineWord 42 = .ok (.aload_n 0, 1) := by decide +kernel
theorem dX6_lineWord_43 : decode cX6_lineWord 43 = .ok (.ldc 148, 2) := by decide +kernel
theorem dX6_lineWord_45 : decode cX6_lineWord 45 = .ok (.invokevirtual 150, 3) := by decide +kernel
theorem dX6_lineWord_48 : decode cX6_lineWord 48 = .ok (.ifCond .eq 8, 3) := by decide +kernel
theorem dX6_lineWord_51 : decode cX6_lineWord 51 = .ok (.bipush 14, 2) := by decide +kernel
theorem dX6_lineWord_53 : decode cX6_lineWord 53 = .ok (.goto 18, 3) := by decide +kernel
theorem dX6_lineWord_56 : decode cX6_lineWord 56 = .ok (.aload_n 0, 1) := by decide +kernel
theorem dX6_lineWord_57 : decode cX6_lineWord 57 = .ok (.ldc 154, 2) := by decide +kernel
theorem dX6_lineWord_59 : decode cX6_lineWord 59 = .ok (.invokevirtual 150, 3) := by decide +kernel
theorem dX6_lineWord_62 : decode cX6_lineWord 62 = .ok (.ifCond .eq 8, 3) := by decide +kernel
theorem dX6_lineWord_65 : decode cX6_lineWord 65 = .ok (.bipush 15, 2) := by decide +kernel
theorem dX6_lineWord_67 : decode cX6_lineWord 67 = .ok (.goto 4, 3) := by decide +kernel
theorem dX6_lineWord_70 : decode cX6_lineWord 70 = .ok (.iconst (-1), 1) := by decide +kernel
theorem dX6_lineWord_71 : decode cX6_lineWord 71 = .ok (.ireturn, 1) := by decide +kernel
theorem dX6_lineWord_72 : decode cX6_lineWord 72 = .ok (.aload_n 0, 1) := by decide +kernel
theorem dX6_lineWord_73 : decode cX6_lineWord 73 = .ok (.ldc 156, 2) := by decide +kernel
theorem dX6_lineWord_75 : decode cX6_lineWord 75 = .ok (.invokevirtual 150, 3) := by decide +kernel
theorem dX6_lineWord_78 : decode cX6_lineWord 78 = .ok (.ifCond .eq 8, 3) := by decide +kernel
theorem dX6_lineWord_81 : decode cX6_lineWord 81 = .ok (.bipush 16, 2) := by decide +kernel
theorem dX6_lineWord_83 : decode cX6_lineWord 83 = .ok (.goto 4, 3) := by decide +kernel
theorem dX6_lineWord_86 : decode cX6_lineWord 86 = .ok (.iconst (-1), 1) := by decide +kernel
theorem dX6_lineWord_87 : decode cX6_lineWord 87 = .ok (.ireturn, 1) := by decide +kernel
theorem dX6_lineWord_88 : decode cX6_lineWord 88 = .ok (.iconst (-1), 1) := by decide +kernel
theorem dX6_lineWord_89 : decode cX6_lineWord 89 = .ok (.ireturn, 1) := by decide +kernel
def is_X6_lineWord : Nat → List Nat := fun d => []
set_option maxRecDepth 100000 in
def b_X6_lineWord_87 (J : Nat → List qV → List qV → qW → Prop) (Q : qR) : qK := x_iret Q
set_option maxRecDepth 100000 in
theorem s_X6_lineWord_87 {p : Program} {l : Launch} {e : Env} {R : Room} {s : State} {m : MethodId} {args : Array Value} {below : List Frame} {meth : Method} {c : Code} {nW : Nat} {dC : Nat → ClassId} {dI : Nat → Nat → Nat} {k : Nat → ClassId} {g : Nat → Nat} {A : Nat → Prop} {J : Nat → List qV → List qV → qW → Prop} {Q : qR} (X : q_X p R s m args meth c cX6_lineWord 2 nW 6 127 RX6 (some .int) dC dI k g A) (hJ : ∀ d : Nat, q_Sd p l e R s m args below meth c 2 nW dC dI k g A (MQ below (q_post (dC, dI) k g nW Q A) args s 0 0 A) d (x_cut (is_X6_lineWord d) (J d))) : q_Sd p l e R s m args below meth c 2 nW dC dI k g A (MQ below (q_post (dC, dI) k g nW Q A) args s 0 0 A) 87 (b_X6_lineWord_87 J Q) := by
  unfold b_X6_lineWord_87
  exact s_iret X dX6_lineWord_87
set_option maxRecDepth 100000 in
def b_X6_lineWord_71 (J : Nat → List qV → List qV → qW → Prop) (Q : qR) : qK := x_iret Q
set_option maxRecDepth 100000 in
theorem s_X6_lineWord_71 {p : Program} {l : Launch} {e : Env} {R : Room} {s : State} {m : MethodId} {args : Array Value} {below : List Frame} {meth : Method} {c : Code} {nW : Nat} {dC : Nat → ClassId} {dI : Nat → Nat → Nat} {k : Nat → ClassId} {g : Nat → Nat} {A : Nat → Prop} {J : Nat → List qV → List qV → qW → Prop} {Q : qR} (X : q_X p R s m args meth c cX6_lineWord 2 nW 6 127 RX6 (some .int) dC dI k g A) (hJ : ∀ d : Nat, q_Sd p l e R s m args below meth c 2 nW dC dI k g A (MQ below (q_post (dC, dI) k g nW Q A) args s 0 0 A) d (x_cut (is_X6_lineWord d) (J d))) : q_Sd p l e R s m args below meth c 2 nW dC dI k g A (MQ below (q_post (dC, dI) k g nW Q A) args s 0 0 A) 71 (b_X6_lineWord_71 J Q) := by
  unfold b_X6_lineWord_71
  exact s_iret X dX6_lineWord_71
set_option maxRecDepth 100000 in
def b_X6_lineWord_0 (J : Nat → List qV → List qV → qW → Prop) (Q : qR) : qK := x_iload 1 (x_sw 0 3 [x_aload 0 (x_callr (some 6) 1 spr_X6_boroughWord (x_iret Q)), x_aload 0 (x_callr (some 6) 1 spr_X6_yearWord (x_iret Q)), x_aload 0 (x_ldcs 14 (x_callr (some 6) 2 spr_X6_is (x_if_eq (x_aload 0 (x_ldcs 15 (x_callr (some 6) 2 spr_X6_is (x_if_eq (x_int (-1) (b_X6_lineWord_71 J Q)) (x_int 15 (b_X6_lineWord_71 J Q)))))) (x_int 14 (b_X6_lineWord_71 J Q))))), x_aload 0 (x_ldcs 16 (x_callr (some 6) 2 spr_X6_is (x_if_eq (x_int (-1) (b_X6_lineWord_87 J Q)) (x_int 16 (b_X6_lineWord_87 J Q)))))] (x_int (-1) (x_iret Q)))
set_option maxRecDepth 100000 in
theorem s_X6_lineWord_0 {p : Program} {l : Launch} {e : Env} {R : Room} {s : State} {m : MethodId} {args : Array Value} {below : List Frame} {meth : Method} {c : Code} {nW : Nat} {dC : Nat → ClassId} {dI : Nat → Nat → Nat} {k : Nat → ClassId} {g : Nat → Nat} {A : Nat → Prop} {J : Nat → List qV → List qV → qW → Prop} {Q : qR} (X : q_X p R s m args meth c cX6_lineWord 2 nW 6 127 RX6 (some .int) dC dI k g A) (hJ : ∀ d : Nat, q_Sd p l e R s m args below meth c 2 nW dC dI k g A (MQ below (q_post (dC, dI) k g nW Q A) args s 0 0 A) d (x_cut (is_X6_lineWord d) (J d))) : q_Sd p l e R s m args below meth c 2 nW dC dI k g A (MQ below (q_post (dC, dI) k g nW Q A) args s 0 0 A) 0 (b_X6_lineWord_0 J Q) := by
  unfold b_X6_lineWord_0
  refine s_iload_n X rfl dX6_lineWord_0 ?_
  refine s_sw X (ts := [32, 37, 42, 72]) (td := 88) dX6_lineWord_1 (by decide) (by decide) (by decide) rfl ?_ ?_
  · intro i t K ht hK
    match i, ht, hK with
    | 0, ht, hK =>
      cases ht
      cases hK
      refine s_aload_n X rfl dX6_lineWord_32 ?_
      refine s_callVr X (m_X6_boroughWord l) tw_408 tw_409 tw_1508 tw_128 tw_410 rfl (by decide +kernel) ⟨by decide, by decide⟩ dX6_lineWord_33 ?_
      exact s_iret X dX6_lineWord_36
    | 1, ht, hK =>
      cases ht
      cases hK
      refine s_aload_n X rfl dX6_lineWord_37 ?_
      refine s_callVr X (m_X6_yearWord l) tw_457 tw_458 tw_1530 tw_128 tw_459 rfl (by decide +kernel) ⟨by decide, by decide⟩ dX6_lineWord_38 ?_
      exact s_iret X dX6_lineWord_41
    | 2, ht, hK =>
      cases ht
      cases hK
      refine s_aload_n X rfl dX6_lineWord_42 ?_
      refine s_ldcs X (i := 14) rfl rfl dX6_lineWord_43 ?_
      refine s_callVr X (m_X6_is l) tw_411 tw_412 tw_1511 tw_128 tw_413 rfl (by decide +kernel) ⟨by decide, by decide⟩ dX6_lineWord_45 ?_
      refine s_if_eq X (tgt := 56) dX6_lineWord_48 (by decide) ?_ ?_
      · refine s_aload_n X rfl dX6_lineWord_56 ?_
        refine s_ldcs X (i := 15) rfl rfl dX6_lineWord_57 ?_
        refine s_callVr X (m_X6_is l) tw_411 tw_412 tw_1511 tw_128 tw_413 rfl (by decide +kernel) ⟨by decide, by decide⟩ dX6_lineWord_59 ?_
        refine s_if_eq X (tgt := 70) dX6_lineWord_62 (by decide) ?_ ?_
        · refine s_iconst X ⟨by decide, by decide⟩ dX6_lineWord_70 ?_
          exact s_X6_lineWord_71 X hJ
        · refine s_bipush X ⟨by decide, by decide⟩ (by decide) dX6_lineWord_65 ?_
          refine s_goto X (tgt := 71) dX6_lineWord_67 (by decide) ?_
          exact s_X6_lineWord_71 X hJ
      · refine s_bipush X ⟨by decide, by decide⟩ (by decide) dX6_lineWord_51 ?_
        refine s_goto X (tgt := 71) dX6_lineWord_53 (by decide) ?_
        exact s_X6_lineWord_71 X hJ
    | 3, ht, hK =>
      cases ht
      cases hK
      refine s_aload_n X rfl dX6_lineWord_72 ?_
      refine s_ldcs X (i := 16) rfl rfl dX6_lineWord_73 ?_
      refine s_callVr X (m_X6_is l) tw_411 tw_412 tw_1511 tw_128 tw_413 rfl (by decide +kernel) ⟨by decide, by decide⟩ dX6_lineWord_75 ?_
      refine s_if_eq X (tgt := 86) dX6_lineWord_78 (by decide) ?_ ?_
      · refine s_iconst X ⟨by decide, by decide⟩ dX6_lineWord_86 ?_
        exact s_X6_lineWord_87 X hJ
      · refine s_bipush X ⟨by decide, by decide⟩ (by decide) dX6_lineWord_81 ?_
        refine s_goto X (tgt := 87) dX6_lineWord_83 (by decide) ?_
        exact s_X6_lineWord_87 X hJ
    | i + 4, ht, hK => exact absurd ht (by simp)
  · refine s_iconst X ⟨by decide, by decide⟩ dX6_lineWord_88 ?_
    exact s_iret X dX6_lineWord_89

def spr_X6_lineWord : List qV → qW → (Option qV → Prop) → Prop := fun av w Q => ∃ (rln : Int) (rfa : Int) (rpl : Int) (rst : Int) (rnx : Int) (rtk : Int) (rnm : Int) (rnp : Int) (rnd : Int) (tp : Nat → Int) (a : Int), av = [q2 0, q1 a] ∧ w = [.inr (6, [q2 2, q2 3, q2 4, q2 5, q2 6, q2 1, q1 rln, q1 rfa, q1 rpl, q1 rst, q1 rnx, q1 rtk, q1 rnm, q1 rnp, q1 rnd]), .inl (1, 600, .inl tp)] ∧ (∀ (r : Int) , -1 ≤ r ∧ r ≤ 16 → Q (some (q1 r)))
def sp_X6_lineWord : qS := fun av w Q => spr_X6_lineWord av w (fun r => Q r w)
set_option maxHeartbeats 4000000 in
set_option maxRecDepth 100000 in
theorem m_X6_lineWord (l : Launch) : q_M l yX6_lineWord cX6_lineWord 2 (some .int) 6 127 sp_X6_lineWord := by
  refine q_meth (by decide) (fun av w Q h => by obtain ⟨rln, rfa, rpl, rst, rnx, rtk, rnm, rnp, rnd, tp, a, rfl, rfl, hQ⟩ := h; exact Nat.le_of_ble_eq_true rfl) ?_
  intro p e R s m args below meth c dC dI k g A av w Q hsp oka okw X
  obtain ⟨rln, rfa, rpl, rst, rnx, rtk, rnm, rnp, rnd, tp, a, rfl, rfl, hQ⟩ := hsp
  have o_a : -2147483648 ≤ a ∧ a ≤ 2147483647 := oka _ (List.mem_of_getElem? (i := 1) rfl)
  refine s_mono (s_X6_lineWord_0 X (J := fun _ _ _ _ => False) (fun d => s_cutF)) ?_
  rintro lv st w' ⟨rfl, rfl, rfl⟩
  apply And.intro
  · apply And.intro
    · intro h1
      refine Exists.intro [0, 1, 2, 3, 4, 5, 6] (Exists.intro [q2 0] (Exists.intro ([.inr (6, [q2 2, q2 3, q2 4, q2 5, q2 6, q2 1, q1 _, q1 _, q1 _, q1 _, q1 _, q1 _, q1 _, q1 _, q1 _]), .inl (1, 600, .inl _)]) (And.intro rfl (And.intro rfl (And.intro rfl (And.intro ⟨⟨_, rfl⟩, rfl⟩ ?_))))))
      refine Exists.intro _ (Exists.intro _ (Exists.intro _ (Exists.intro _ (Exists.intro _ (Exists.intro _ (Exists.intro _ (Exists.intro _ (Exists.intro _ (Exists.intro _ (And.intro rfl (And.intro rfl (?_))))))))))))
      intro z33 h33
      exact hQ _ (by first | omega | assumption | exact q_rg_up (by assumption) (by omega) | exact q_rg_up (q_rg_up (by assumption) (by omega)) (by omega) | exact q_rg_cpy (by assumption) (by assumption))
    apply And.intro
    · intro h1
      refine Exists.intro [0, 1, 2, 3, 4, 5, 6] (Exists.intro [q2 0] (Exists.intro ([.inr (6, [q2 2, q2 3, q2 4, q2 5, q2 6, q2 1, q1 _, q1 _, q1 _, q1 _, q1 _, q1 _, q1 _, q1 _, q1 _]), .inl (1, 600, .inl _)]) (And.intro rfl (And.intro rfl (And.intro rfl (And.intro ⟨⟨_, rfl⟩, rfl⟩ ?_))))))
      refine Exists.intro _ (Exists.intro _ (Exists.intro _ (Exists.intro _ (Exists.intro _ (Exists.intro _ (Exists.intro _ (Exists.intro _ (Exists.intro _ (Exists.intro _ (And.intro rfl (And.intro rfl (?_))))))))))))
      intro z38 h38
      exact hQ _ (by first | omega | assumption | exact q_rg_up (by assumption) (by omega) | exact q_rg_up (q_rg_up (by assumption) (by omega)) (by omega) | exact q_rg_cpy (by assumption) (by assumption))
    apply And.intro
    · intro h1
      refine Exists.intro [0, 1, 2, 3, 4, 5, 6] (Exists.intro [q2 0, q2 (14 + 2000)] (Exists.intro ([.inr (6, [q2 2, q2 3, q2 4, q2 5, q2 6, q2 1, q1 _, q1 _, q1 _, q1 _, q1 _, q1 _, q1 _, q1 _, q1 _]), .inl (1, 600, .inl _)]) (And.intro rfl (And.intro rfl (And.intro rfl (And.intro ⟨⟨_, rfl⟩, rfl⟩ ?_))))))
      refine Exists.intro _ (Exists.intro _ (Exists.intro _ (Exists.intro _ (Exists.intro _ (Exists.intro _ (Exists.intro _ (Exists.intro _ (Exists.intro _ (Exists.intro _ (Exists.intro 14 (And.intro rfl (And.intro rfl (And.intro (by decide) (?_))))))))))))))
      intro z45 h45
      apply And.intro
      · intro h48
        refine Exists.intro [0, 1, 2, 3, 4, 5, 6] (Exists.intro [q2 0, q2 (15 + 2000)] (Exists.intro ([.inr (6, [q2 2, q2 3, q2 4, q2 5, q2 6, q2 1, q1 _, q1 _, q1 _, q1 _, q1 _, q1 _, q1 _, q1 _, q1 _]), .inl (1, 600, .inl _)]) (And.intro rfl (And.intro rfl (And.intro rfl (And.intro ⟨⟨_, rfl⟩, rfl⟩ ?_))))))
        refine Exists.intro _ (Exists.intro _ (Exists.intro _ (Exists.intro _ (Exists.intro _ (Exists.intro _ (Exists.intro _ (Exists.intro _ (Exists.intro _ (Exists.intro _ (Exists.intro 15 (And.intro rfl (And.intro rfl (And.intro (by decide) (?_))))))))))))))
        intro z59 h59
        apply And.intro
        · intro h62
          exact hQ _ (by first | omega | assumption | exact q_rg_up (by assumption) (by omega) | exact q_rg_up (q_rg_up (by assumption) (by omega)) (by omega) | exact q_rg_cpy (by assumption) (by assumption))
        · intro h62
          exact hQ _ (by first | omega | assumption | exact q_rg_up (by assumption) (by omega) | exact q_rg_up (q_rg_up (by assumption) (by omega)) (by omega) | exact q_rg_cpy (by assumption) (by assumption))
      · intro h48
        exact hQ _ (by first | omega | assumption | exact q_rg_up (by assumption) (by omega) | exact q_rg_up (q_rg_up (by assumption) (by omega)) (by omega) | exact q_rg_cpy (by assumption) (by assumption))
    apply And.intro
    · intro h1
      refine Exists.intro [0, 1, 2, 3, 4, 5, 6] (Exists.intro [q2 0, q2 (16 + 2000)] (Exists.intro ([.inr (6, [q2 2, q2 3, q2 4, q2 5, q2 6, q2 1, q1 _, q1 _, q1 _, q1 _, q1 _, q1 _, q1 _, q1 _, q1 _]), .inl (1, 600, .inl _)]) (And.intro rfl (And.intro rfl (And.intro rfl (And.intro ⟨⟨_, rfl⟩, rfl⟩ ?_))))))
      refine Exists.intro _ (Exists.intro _ (Exists.intro _ (Exists.intro _ (Exists.intro _ (Exists.intro _ (Exists.intro _ (Exists.intro _ (Exists.intro _ (Exists.intro _ (Exists.intro 16 (And.intro rfl (And.intro rfl (And.intro (by decide) (?_))))))))))))))
      intro z75 h75
      apply And.intro
      · intro h78
        exact hQ _ (by first | omega | assumption | exact q_rg_up (by assumption) (by omega) | exact q_rg_up (q_rg_up (by assumption) (by omega)) (by omega) | exact q_rg_cpy (by assumption) (by assumption))
      · intro h78
        exact hQ _ (by first | omega | assumption | exact q_rg_up (by assumption) (by omega) | exact q_rg_up (q_rg_up (by assumption) (by omega)) (by omega) | exact q_rg_cpy (by assumption) (by assumption))
    exact trivial
  · intro h1
    exact hQ _ (by first | omega | assumption | exact q_rg_up (by assumption) (by omega) | exact q_rg_up (q_rg_up (by assumption) (by omega)) (by omega) | exact q_rg_cpy (by assumption) (by assumption))
