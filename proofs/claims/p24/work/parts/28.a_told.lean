def wT3 (tp ct : Nat → Int) (ln fa pl : Int) : qW := [.inr (8, [q2 1, q2 2, q2 3, q2 4, q2 5, q2 6, q1 ln, q1 fa, q1 pl]), .inl (1, 600, .inl tp), .inl (0, 4, .inl ct)]

theorem dX8_holds_0 : decode cX8_holds 0 = .ok (.iload_n 2, 1) := by decide +kernel
theorem dX8_holds_1 : decode cX8_holds 1 = .ok (.ifCond .lt 22, 3) := by decide +kernel
theorem dX8_holds_4 : decode cX8_holds 4 = .ok (.iload_n 2, 1) := by decide +kernel
theorem dX8_holds_5 : decode cX8_holds 5 = .ok (.aload_n 0, 1) := by decide +kernel
theorem dX8_holds_6 : decode cX8_holds 6 = .ok (.getfield 15, 3) := by decide +kernel
theorem dX8_holds_9 : decode cX8_holds 9 = .ok (.iload_n 1, 1) := by decide +kernel
theorem dX8_holds_10 : decode cX8_holds 10 = .ok (.iaload, 1) := by decide +kernel
theorem dX8_holds_11 : decode cX8_holds 11 = .ok (.if_icmp .ge 12, 3) := by decide +kernel
theorem dX8_holds_14 : decode cX8_holds 14 = .ok (.iload_n 2, 1) := by decide +kernel
theorem dX8_holds_15 : decode cX8_holds 15 = .ok (.iconst 2, 1) := by decide +kernel
theorem dX8_holds_16 : decode cX8_holds 16 = .ok (.if_icmp .ge 7, 3) := by decide +kernel
theorem dX8_holds_19 : decode cX8_holds 19 = .ok (.iconst 1, 1) := by decide +kernel
theorem dX8_holds_20 : decode cX8_holds 20 = .ok (.goto 4, 3) := by decide +kernel
theorem dX8_holds_23 : decode cX8_holds 23 = .ok (.iconst 0, 1) := by decide +kernel
theorem dX8_holds_24 : decode cX8_holds 24 = .ok (.ireturn, 1) := by decide +kernel
def is_X8_holds : Nat → List Nat := fun d => []
set_option maxRecDepth 100000 in
def b_X8_holds_24 (J : Nat → List qV → List qV → qW → Prop) (Q : qR) : qK := x_zret Q
set_option maxRecDepth 100000 in
theorem s_X8_holds_24 {p : Program} {l : Launch} {e : Env} {R : Room} {s : State} {m : MethodId} {args : Array Value} {below : List Frame} {meth : Method} {c : Code} {nW : Nat} {dC : Nat → ClassId} {dI : Nat → Nat → Nat} {k : Nat → ClassId} {g : Nat → Nat} {A : Nat → Prop} {J : Nat → List qV → List qV → qW → Prop} {Q : qR} (X : q_X p R s m args meth c cX8_holds 3 nW 0 0 RX8 (some .boolean) dC dI k g A) (hJ : ∀ d : Nat, q_Sd p l e R s m args below meth c 3 nW dC dI k g A (MQ below (q_post (dC, dI) k g nW Q A) args s 0 0 A) d (x_cut (is_X8_holds d) (J d))) : q_Sd p l e R s m args below meth c 3 nW dC dI k g A (MQ below (q_post (dC, dI) k g nW Q A) args s 0 0 A) 24 (b_X8_holds_24 J Q) := by
  unfold b_X8_holds_24
  exact s_zret X dX8_holds_24
set_option maxRecDepth 100000 in
def b_X8_holds_23 (J : Nat → List qV → List qV → qW → Prop) (Q : qR) : qK := x_int 0 (b_X8_holds_24 J Q)
set_option maxRecDepth 100000 in
theorem s_X8_holds_23 {p : Program} {l : Launch} {e : Env} {R : Room} {s : State} {m : MethodId} {args : Array Value} {below : List Frame} {meth : Method} {c : Code} {nW : Nat} {dC : Nat → ClassId} {dI : Nat → Nat → Nat} {k : Nat → ClassId} {g : Nat → Nat} {A : Nat → Prop} {J : Nat → List qV → List qV → qW → Prop} {Q : qR} (X : q_X p R s m args meth c cX8_holds 3 nW 0 0 RX8 (some .boolean) dC dI k g A) (hJ : ∀ d : Nat, q_Sd p l e R s m args below meth c 3 nW dC dI k g A (MQ below (q_post (dC, dI) k g nW Q A) args s 0 0 A) d (x_cut (is_X8_holds d) (J d))) : q_Sd p l e R s m args below meth c 3 nW dC dI k g A (MQ below (q_post (dC, dI) k g nW Q A) args s 0 0 A) 23 (b_X8_holds_23 J Q) := by
  unfold b_X8_holds_23
  refine s_iconst X ⟨by decide, by decide⟩ dX8_holds_23 ?_
  exact s_X8_holds_24 X hJ
set_option maxRecDepth 100000 in
def b_X8_holds_0 (J : Nat → List qV → List qV → qW → Prop) (Q : qR) : qK := x_iload 2 (x_if_lt (b_X8_holds_23 J Q) (x_iload 2 (x_aload 0 (x_get 8 1 (x_iload 1 (x_iald (x_icmp_ge (b_X8_holds_23 J Q) (x_iload 2 (x_int 2 (x_icmp_ge (b_X8_holds_23 J Q) (x_int 1 (b_X8_holds_24 J Q))))))))))))
set_option maxRecDepth 100000 in
theorem s_X8_holds_0 {p : Program} {l : Launch} {e : Env} {R : Room} {s : State} {m : MethodId} {args : Array Value} {below : List Frame} {meth : Method} {c : Code} {nW : Nat} {dC : Nat → ClassId} {dI : Nat → Nat → Nat} {k : Nat → ClassId} {g : Nat → Nat} {A : Nat → Prop} {J : Nat → List qV → List qV → qW → Prop} {Q : qR} (X : q_X p R s m args meth c cX8_holds 3 nW 0 0 RX8 (some .boolean) dC dI k g A) (hJ : ∀ d : Nat, q_Sd p l e R s m args below meth c 3 nW dC dI k g A (MQ below (q_post (dC, dI) k g nW Q A) args s 0 0 A) d (x_cut (is_X8_holds d) (J d))) : q_Sd p l e R s m args below meth c 3 nW dC dI k g A (MQ below (q_post (dC, dI) k g nW Q A) args s 0 0 A) 0 (b_X8_holds_0 J Q) := by
  unfold b_X8_holds_0
  refine s_iload_n X rfl dX8_holds_0 ?_
  refine s_if_lt X (tgt := 23) dX8_holds_1 (by decide) ?_ ?_
  · exact s_X8_holds_23 X hJ
  · refine s_iload_n X rfl dX8_holds_4 ?_
    refine s_aload_n X rfl dX8_holds_5 ?_
    refine s_get X (T := TX8) (C := RX8) (N := 9) tu_X8 rfl (by decide) tw_251 dX8_holds_6 ?_
    refine s_iload_n X rfl dX8_holds_9 ?_
    refine s_iald X dX8_holds_10 ?_
    refine s_icmp_ge X (tgt := 23) dX8_holds_11 (by decide) ?_ ?_
    · exact s_X8_holds_23 X hJ
    · refine s_iload_n X rfl dX8_holds_14 ?_
      refine s_iconst X ⟨by decide, by decide⟩ dX8_holds_15 ?_
      refine s_icmp_ge X (tgt := 23) dX8_holds_16 (by decide) ?_ ?_
      · exact s_X8_holds_23 X hJ
      · refine s_iconst X ⟨by decide, by decide⟩ dX8_holds_19 ?_
        refine s_goto X (tgt := 24) dX8_holds_20 (by decide) ?_
        exact s_X8_holds_24 X hJ

def spr_X8_holds : List qV → qW → (Option qV → Prop) → Prop := fun av w Q => ∃ (tp : Nat → Int) (ct : Nat → Int) (ln : Int) (fa : Int) (pl : Int) (a : Int) (b : Int), av = [q2 0, q1 a, q1 b] ∧ w = (wT3 tp ct ln fa pl) ∧ (0 ≤ a ∧ a ≤ 3) ∧ (∀ (r : Int) , (r = 1 ∧ 0 ≤ b ∧ b ≤ 1 ∨ r = 0) → Q (some (q1 r)))
def sp_X8_holds : qS := fun av w Q => spr_X8_holds av w (fun r => Q r w)
set_option maxHeartbeats 4000000 in
set_option maxRecDepth 100000 in
theorem m_X8_holds (l : Launch) : q_M l yX8_holds cX8_holds 3 (some .boolean) 0 0 sp_X8_holds := by
  refine q_meth (by decide) (fun av w Q h => by obtain ⟨tp, ct, ln, fa, pl, a, b, rfl, rfl, ha, hQ⟩ := h; exact Nat.le_of_ble_eq_true rfl) ?_
  intro p e R s m args below meth c dC dI k g A av w Q hsp oka okw X
  obtain ⟨tp, ct, ln, fa, pl, a, b, rfl, rfl, ha, hQ⟩ := hsp
  have o_a : -2147483648 ≤ a ∧ a ≤ 2147483647 := oka _ (List.mem_of_getElem? (i := 1) rfl)
  have o_b : -2147483648 ≤ b ∧ b ≤ 2147483647 := oka _ (List.mem_of_getElem? (i := 2) rfl)
  refine s_mono (s_X8_holds_0 X (J := fun _ _ _ _ => False) (fun d => s_cutF)) ?_
  rintro lv st w' ⟨rfl, rfl, rfl⟩
  apply And.intro
  · intro h1
    apply And.intro
    · first | exact Or.inl rfl | exact Or.inr rfl | omega
    exact hQ _ (by first | omega | assumption | exact q_rg_up (by assumption) (by omega) | exact q_rg_up (q_rg_up (by assumption) (by omega)) (by omega) | exact q_rg_cpy (by assumption) (by assumption))
  · intro h1
    apply And.intro
    · exact ⟨by omega, by omega⟩
    intro z10 h10
    apply And.intro
    · intro h11
      apply And.intro
      · first | exact Or.inl rfl | exact Or.inr rfl | omega
      exact hQ _ (by first | omega | assumption | exact q_rg_up (by assumption) (by omega) | exact q_rg_up (q_rg_up (by assumption) (by omega)) (by omega) | exact q_rg_cpy (by assumption) (by assumption))
    · intro h11
      apply And.intro
      · intro h16
        apply And.intro
        · first | exact Or.inl rfl | exact Or.inr rfl | omega
        exact hQ _ (by first | omega | assumption | exact q_rg_up (by assumption) (by omega) | exact q_rg_up (q_rg_up (by assumption) (by omega)) (by omega) | exact q_rg_cpy (by assumption) (by assumption))
      · intro h16
        apply And.intro
        · first | exact Or.inl rfl | exact Or.inr rfl | omega
        exact hQ _ (by first | omega | assumption | exact q_rg_up (by assumption) (by omega) | exact q_rg_up (q_rg_up (by assumption) (by omega)) (by omega) | exact q_rg_cpy (by assumption) (by assumption))

theorem dX8_put_0 : decode cX8_put 0 = .ok (.bipush 24, 2) := by decide +kernel
theorem dX8_put_2 : decode cX8_put 2 = .ok (.istore_n 2, 1) := by decide +kernel
theorem dX8_put_3 : decode cX8_put 3 = .ok (.iload_n 2, 1) := by decide +kernel
theorem dX8_put_4 : decode cX8_put 4 = .ok (.ifCond .lt 42, 3) := by decide +kernel
theorem dX8_put_7 : decode cX8_put 7 = .ok (.aload_n 0, 1) := by decide +kernel
theorem dX8_put_8 : decode cX8_put 8 = .ok (.getfield 70, 3) := by decide +kernel
theorem dX8_put_11 : decode cX8_put 11 = .ok (.sipush 600, 3) := by decide +kernel
theorem dX8_put_14 : decode cX8_put 14 = .ok (.if_icmp .ge 32, 3) := by decide +kernel
theorem dX8_put_17 : decode cX8_put 17 = .ok (.aload_n 0, 1) := by decide +kernel
theorem dX8_put_18 : decode cX8_put 18 = .ok (.getfield 9, 3) := by decide +kernel
theorem dX8_put_21 : decode cX8_put 21 = .ok (.aload_n 0, 1) := by decide +kernel
theorem dX8_put_22 : decode cX8_put 22 = .ok (.getfield 70, 3) := by decide +kernel
theorem dX8_put_25 : decode cX8_put 25 = .ok (.iload_n 1, 1) := by decide +kernel
theorem dX8_put_26 : decode cX8_put 26 = .ok (.iload_n 2, 1) := by decide +kernel
theorem dX8_put_27 : decode cX8_put 27 = .ok (.ishr, 1) := by decide +kernel
theorem dX8_put_28 : decode cX8_put 28 = .ok (.i2b, 1) := by decide +kernel
theorem dX8_put_29 : decode cX8_put 29 = .ok (.bastore, 1) := by decide +kernel
theorem dX8_put_30 : decode cX8_put 30 = .ok (.aload_n 0, 1) := by decide +kernel
theorem dX8_put_31 : decode cX8_put 31 = .ok (.dup, 1) := by decide +kernel
theorem dX8_put_32 : decode cX8_put 32 = .ok (.getfield 70, 3) := by decide +kernel
theorem dX8_put_35 : decode cX8_put 35 = .ok (.iconst 1, 1) := by decide +kernel
theorem dX8_put_36 : decode cX8_put 36 = .ok (.iadd, 1) := by decide +kernel
theorem dX8_put_37 : decode cX8_put 37 = .ok (.putfield 70, 3) := by decide +kernel
theorem dX8_put_40 : decode cX8_put 40 = .ok (.iinc 2 (-8), 3) := by decide +kernel
theorem dX8_put_43 : decode cX8_put 43 = .ok (.goto (-40), 3) := by decide +kernel
theorem dX8_put_46 : decode cX8_put 46 = .ok (.return_, 1) := by decide +kernel
def is_X8_put : Nat → List Nat := fun d => if d = 3 then [0, 1, 2] else []
set_option maxRecDepth 100000 in
def b_X8_put_46 (J : Nat → List qV → List qV → qW → Prop) (Q : qR) : qK := x_vret Q
set_option maxRecDepth 100000 in
theorem s_X8_put_46 {p : Program} {l : Launch} {e : Env} {R : Room} {s : State} {m : MethodId} {args : Array Value} {below : List Frame} {meth : Method} {c : Code} {nW : Nat} {dC : Nat → ClassId} {dI : Nat → Nat → Nat} {k : Nat → ClassId} {g : Nat → Nat} {A : Nat → Prop} {J : Nat → List qV → List qV → qW → Prop} {Q : qR} (X : q_X p R s m args meth c cX8_put 3 nW 0 0 RX8 none dC dI k g A) (hJ : ∀ d : Nat, q_Sd p l e R s m args below meth c 3 nW dC dI k g A (MQ below (q_post (dC, dI) k g nW Q A) args s 0 0 A) d (x_cut (is_X8_put d) (J d))) : q_Sd p l e R s m args below meth c 3 nW dC dI k g A (MQ below (q_post (dC, dI) k g nW Q A) args s 0 0 A) 46 (b_X8_put_46 J Q) := by
  unfold b_X8_put_46
  exact s_vret X dX8_put_46
set_option maxRecDepth 100000 in
def b_X8_put_3 (J : Nat → List qV → List qV → qW → Prop) (Q : qR) : qK := x_iload 2 (x_if_lt (b_X8_put_46 J Q) (x_aload 0 (x_get 8 6 (x_int 600 (x_icmp_ge (b_X8_put_46 J Q) (x_aload 0 (x_get 8 0 (x_aload 0 (x_get 8 6 (x_iload 1 (x_iload 2 (x_ishr (x_i2b (x_bast (x_nw (x_aload 0 (x_dup (x_get 8 6 (x_int 1 (x_iadd (x_put 8 6 q_oki (x_nw (x_iinc 2 (-8) (x_cut [0, 1, 2] (J 3)))))))))))))))))))))))))
set_option maxRecDepth 100000 in
theorem s_X8_put_3 {p : Program} {l : Launch} {e : Env} {R : Room} {s : State} {m : MethodId} {args : Array Value} {below : List Frame} {meth : Method} {c : Code} {nW : Nat} {dC : Nat → ClassId} {dI : Nat → Nat → Nat} {k : Nat → ClassId} {g : Nat → Nat} {A : Nat → Prop} {J : Nat → List qV → List qV → qW → Prop} {Q : qR} (X : q_X p R s m args meth c cX8_put 3 nW 0 0 RX8 none dC dI k g A) (hJ : ∀ d : Nat, q_Sd p l e R s m args below meth c 3 nW dC dI k g A (MQ below (q_post (dC, dI) k g nW Q A) args s 0 0 A) d (x_cut (is_X8_put d) (J d))) : q_Sd p l e R s m args below meth c 3 nW dC dI k g A (MQ below (q_post (dC, dI) k g nW Q A) args s 0 0 A) 3 (b_X8_put_3 J Q) := by
  unfold b_X8_put_3
  refine s_iload_n X rfl dX8_put_3 ?_
  refine s_if_lt X (tgt := 46) dX8_put_4 (by decide) ?_ ?_
  · exact s_X8_put_46 X hJ
  · refine s_aload_n X rfl dX8_put_7 ?_
    refine s_get X (T := TX8) (C := RX8) (N := 9) tu_X8 rfl (by decide) tw_258 dX8_put_8 ?_
    refine s_sipush X ⟨by decide, by decide⟩ (by decide) dX8_put_11 ?_
    refine s_icmp_ge X (tgt := 46) dX8_put_14 (by decide) ?_ ?_
    · exact s_X8_put_46 X hJ
    · refine s_aload_n X rfl dX8_put_17 ?_
      refine s_get X (T := TX8) (C := RX8) (N := 9) tu_X8 rfl (by decide) tw_249 dX8_put_18 ?_
      refine s_aload_n X rfl dX8_put_21 ?_
      refine s_get X (T := TX8) (C := RX8) (N := 9) tu_X8 rfl (by decide) tw_258 dX8_put_22 ?_
      refine s_iload_n X rfl dX8_put_25 ?_
      refine s_iload_n X rfl dX8_put_26 ?_
      refine s_ishr X dX8_put_27 ?_
      refine s_i2b X dX8_put_28 ?_
      refine s_bast X dX8_put_29 ?_
      refine s_nw ?_
      refine s_aload_n X rfl dX8_put_30 ?_
      refine s_dup X dX8_put_31 ?_
      refine s_get X (T := TX8) (C := RX8) (N := 9) tu_X8 rfl (by decide) tw_258 dX8_put_32 ?_
      refine s_iconst X ⟨by decide, by decide⟩ dX8_put_35 ?_
      refine s_iadd X dX8_put_36 ?_
      refine s_put X (T := TX8) (C := RX8) (N := 9) tu_X8 tyX8_ok nmX8 rfl (by decide) tw_258 rfl (by decide +kernel) q_oki_t dX8_put_37 ?_
      refine s_nw ?_
      refine s_iinc X (by decide) dX8_put_40 ?_
      refine s_goto X (tgt := 3) dX8_put_43 (by decide) ?_
      exact hJ 3
set_option maxRecDepth 100000 in
def b_X8_put_0 (J : Nat → List qV → List qV → qW → Prop) (Q : qR) : qK := x_int 24 (x_istore 2 (x_cut [0, 1, 2] (J 3)))
set_option maxRecDepth 100000 in
theorem s_X8_put_0 {p : Program} {l : Launch} {e : Env} {R : Room} {s : State} {m : MethodId} {args : Array Value} {below : List Frame} {meth : Method} {c : Code} {nW : Nat} {dC : Nat → ClassId} {dI : Nat → Nat → Nat} {k : Nat → ClassId} {g : Nat → Nat} {A : Nat → Prop} {J : Nat → List qV → List qV → qW → Prop} {Q : qR} (X : q_X p R s m args meth c cX8_put 3 nW 0 0 RX8 none dC dI k g A) (hJ : ∀ d : Nat, q_Sd p l e R s m args below meth c 3 nW dC dI k g A (MQ below (q_post (dC, dI) k g nW Q A) args s 0 0 A) d (x_cut (is_X8_put d) (J d))) : q_Sd p l e R s m args below meth c 3 nW dC dI k g A (MQ below (q_post (dC, dI) k g nW Q A) args s 0 0 A) 0 (b_X8_put_0 J Q) := by
  unfold b_X8_put_0
  refine s_bipush X ⟨by decide, by decide⟩ (by decide) dX8_put_0 ?_
  refine s_istore_n X rfl (by decide) dX8_put_2 ?_
  exact hJ 3

def sp_X8_put : qS := fun av w Q => ∃ (tp : Nat → Int) (ct : Nat → Int) (ln : Int) (fa : Int) (pl : Int) (a : Int), av = [q2 0, q1 a] ∧ w = (wT3 tp ct ln fa pl) ∧ (0 ≤ ln ∧ ln ≤ 600) ∧ (∀ (x1 : Nat → Int) (x2 : Int), (0 ≤ x2 ∧ x2 ≤ 600 ∧ (ln ≤ 596 → x2 = ln + 4)) → Q none ((wT3 x1 ct x2 fa pl)))
def I_X8_put (tp : Nat → Int) (ct : Nat → Int) (ln : Int) (fa : Int) (pl : Int) (a : Int) : Nat → Nat → List qV → List qV → qW → Prop := fun dz mz vz sz wz => if dz = 3 then (∃ (y1 : Nat → Int) (y2 : Int) (v2 : Int), vz = [q2 0, q1 a, q1 v2] ∧ sz = [] ∧ wz = (wT3 y1 ct y2 fa pl) ∧ mz = (v2 + 8).toNat ∧ (-8 ≤ v2 ∧ v2 ≤ 24 ∧ 0 ≤ y2 ∧ y2 ≤ 600 ∧ ln ≤ y2 ∧ (ln ≤ 596 → 8 * (y2 - ln) = 24 - v2) ∧ (v2 + 8) % 8 = 0)) else False
set_option maxHeartbeats 4000000 in
set_option maxRecDepth 100000 in
theorem m_X8_put (l : Launch) : q_M l yX8_put cX8_put 3 none 0 0 sp_X8_put := by
  refine q_meth (by decide) (fun av w Q h => by obtain ⟨tp, ct, ln, fa, pl, a, rfl, rfl, hln, hQ⟩ := h; exact Nat.le_of_ble_eq_true rfl) ?_
  intro p e R s m args below meth c dC dI k g A av w Q hsp oka okw X
  obtain ⟨tp, ct, ln, fa, pl, a, rfl, rfl, hln, hQ⟩ := hsp
  have o_a : -2147483648 ≤ a ∧ a ≤ 2147483647 := oka _ (List.mem_of_getElem? (i := 1) rfl)
  refine s_mono (s_X8_put_0 X (J := fun dz vz sz wz => ∃ mz, I_X8_put tp ct ln fa pl a dz mz vz sz wz) (q_loopn (I_X8_put tp ct ln fa pl a) (fun dz J => if dz = 3 then b_X8_put_3 J Q else q_F) ?hs ?hv)) ?_
  case hs =>
    intro d J hJ
    by_cases h3 : d = 3
    · subst h3; exact s_X8_put_3 X hJ
    simp only [h3, if_false]
    exact s_F
  case hv =>
    intro dz mz vz sz wz hI okv oks okw hlen
    by_cases h3 : dz = 3
    · subst h3
      obtain ⟨y1, y2, v2, rfl, rfl, rfl, hn, hp⟩ := hI
      apply And.intro
      · intro h4
        exact hQ _ _ (by first | omega | assumption | exact q_rg_up (by assumption) (by omega) | exact q_rg_up (q_rg_up (by assumption) (by omega)) (by omega) | exact q_rg_cpy (by assumption) (by assumption))
      · intro h4
        apply And.intro
        · intro h14
          exact hQ _ _ (by first | omega | assumption | exact q_rg_up (by assumption) (by omega) | exact q_rg_up (q_rg_up (by assumption) (by omega)) (by omega) | exact q_rg_cpy (by assumption) (by assumption))
        · intro h14
          intro z27 h27
          replace h27 := e_rng h27
          intro z28 h28
          replace h28 := e_i2b h28
          apply And.intro
          · exact ⟨by omega, by omega⟩
          apply And.intro
          · first | omega | exact Or.inr rfl | exact Or.inl rfl
          intro z36 h36
          first | replace h36 := e_add h36 (by omega) | replace h36 := e_rng h36
          apply And.intro
          · exact trivial
          intro z40 h40
          first | replace h40 := e_add h40 (by omega) | replace h40 := e_rng h40
          exact ⟨_, ⟨_, _, _, rfl, rfl, rfl, rfl, (by first | omega | assumption | exact q_rg_up (by assumption) (by omega) | exact q_rg_up (q_rg_up (by assumption) (by omega)) (by omega) | exact q_rg_cpy (by assumption) (by assumption))⟩, by omega⟩
    simp only [I_X8_put, h3, if_false] at hI
  rintro lv st w' ⟨rfl, rfl, rfl⟩
  exact ⟨_, _, _, _, rfl, rfl, rfl, rfl, (by first | omega | assumption | exact q_rg_up (by assumption) (by omega) | exact q_rg_up (q_rg_up (by assumption) (by omega)) (by omega) | exact q_rg_cpy (by assumption) (by assumption))⟩

theorem dX8_placeFor_0 : decode cX8_placeFor 0 = .ok (.iload_n 1, 1) := by decide +kernel
theorem dX8_placeFor_1 : decode cX8_placeFor 1 = .ok (.ifCond .lt 8, 3) := by decide +kernel
theorem dX8_placeFor_4 : decode cX8_placeFor 4 = .ok (.iload_n 1, 1) := by decide +kernel
theorem dX8_placeFor_5 : decode cX8_placeFor 5 = .ok (.iconst 4, 1) := by decide +kernel
theorem dX8_placeFor_6 : decode cX8_placeFor 6 = .ok (.if_icmp .lt 5, 3) := by decide +kernel
theorem dX8_placeFor_9 : decode cX8_placeFor 9 = .ok (.iconst (-1), 1) := by decide +kernel
theorem dX8_placeFor_10 : decode cX8_placeFor 10 = .ok (.ireturn, 1) := by decide +kernel
theorem dX8_placeFor_11 : decode cX8_placeFor 11 = .ok (.iload_n 2, 1) := by decide +kernel
theorem dX8_placeFor_12 : decode cX8_placeFor 12 = .ok (.iconst (-1), 1) := by decide +kernel
theorem dX8_placeFor_13 : decode cX8_placeFor 13 = .ok (.if_icmp .ne 24, 3) := by decide +kernel
theorem dX8_placeFor_16 : decode cX8_placeFor 16 = .ok (.aload_n 0, 1) := by decide +kernel
theorem dX8_placeFor_17 : decode cX8_placeFor 17 = .ok (.getfield 15, 3) := by decide +kernel
theorem dX8_placeFor_20 : decode cX8_placeFor 20 = .ok (.iload_n 1, 1) := by decide +kernel
theorem dX8_placeFor_21 : decode cX8_placeFor 21 = .ok (.iaload, 1) := by decide +kernel
theorem dX8_placeFor_22 : decode cX8_placeFor 22 = .ok (.iconst 2, 1) := by decide +kernel
theorem dX8_placeFor_23 : decode cX8_placeFor 23 = .ok (.if_icmp .ge 12, 3) := by decide +kernel
theorem dX8_placeFor_26 : decode cX8_placeFor 26 = .ok (.aload_n 0, 1) := by decide +kernel
theorem dX8_placeFor_27 : decode cX8_placeFor 27 = .ok (.getfield 15, 3) := by decide +kernel
theorem dX8_placeFor_30 : decode cX8_placeFor 30 = .ok (.iload_n 1, 1) := by decide +kernel
theorem dX8_placeFor_31 : decode cX8_placeFor 31 = .ok (.iaload, 1) := by decide +kernel
theorem dX8_placeFor_32 : decode cX8_placeFor 32 = .ok (.goto 4, 3) := by decide +kernel
theorem dX8_placeFor_35 : decode cX8_placeFor 35 = .ok (.iconst (-1), 1) := by decide +kernel
theorem dX8_placeFor_36 : decode cX8_placeFor 36 = .ok (.ireturn, 1) := by decide +kernel
theorem dX8_placeFor_37 : decode cX8_placeFor 37 = .ok (.aload_n 0, 1) := by decide +kernel
theorem dX8_placeFor_38 : decode cX8_placeFor 38 = .ok (.iload_n 1, 1) := by decide +kernel
theorem dX8_placeFor_39 : decode cX8_placeFor 39 = .ok (.iload_n 2, 1) := by decide +kernel
theorem dX8_placeFor_40 : decode cX8_placeFor 40 = .ok (.invokevirtual 76, 3) := by decide +kernel
theorem dX8_placeFor_43 : decode cX8_placeFor 43 = .ok (.ifCond .eq 7, 3) := by decide +kernel
theorem dX8_placeFor_46 : decode cX8_placeFor 46 = .ok (.iload_n 2, 1) := by decide +kernel
theorem dX8_placeFor_47 : decode cX8_placeFor 47 = .ok (.goto 4, 3) := by decide +kernel
theorem dX8_placeFor_50 : decode cX8_placeFor 50 = .ok (.iconst (-1), 1) := by decide +kernel
theorem dX8_placeFor_51 : decode cX8_placeFor 51 = .ok (.ireturn, 1) := by decide +kernel
def is_X8_placeFor : Nat → List Nat := fun d => []
set_option maxRecDepth 100000 in
def b_X8_placeFor_51 (J : Nat → List qV → List qV → qW → Prop) (Q : qR) : qK := x_iret Q
set_option maxRecDepth 100000 in
theorem s_X8_placeFor_51 {p : Program} {l : Launch} {e : Env} {R : Room} {s : State} {m : MethodId} {args : Array Value} {below : List Frame} {meth : Method} {c : Code} {nW : Nat} {dC : Nat → ClassId} {dI : Nat → Nat → Nat} {k : Nat → ClassId} {g : Nat → Nat} {A : Nat → Prop} {J : Nat → List qV → List qV → qW → Prop} {Q : qR} (X : q_X p R s m args meth c cX8_placeFor 3 nW 1 22 RX8 (some .int) dC dI k g A) (hJ : ∀ d : Nat, q_Sd p l e R s m args below meth c 3 nW dC dI k g A (MQ below (q_post (dC, dI) k g nW Q A) args s 0 0 A) d (x_cut (is_X8_placeFor d) (J d))) : q_Sd p l e R s m args below meth c 3 nW dC dI k g A (MQ below (q_post (dC, dI) k g nW Q A) args s 0 0 A) 51 (b_X8_placeFor_51 J Q) := by
  unfold b_X8_placeFor_51
  exact s_iret X dX8_placeFor_51
set_option maxRecDepth 100000 in
def b_X8_placeFor_36 (J : Nat → List qV → List qV → qW → Prop) (Q : qR) : qK := x_iret Q
set_option maxRecDepth 100000 in
theorem s_X8_placeFor_36 {p : Program} {l : Launch} {e : Env} {R : Room} {s : State} {m : MethodId} {args : Array Value} {below : List Frame} {meth : Method} {c : Code} {nW : Nat} {dC : Nat → ClassId} {dI : Nat → Nat → Nat} {k : Nat → ClassId} {g : Nat → Nat} {A : Nat → Prop} {J : Nat → List qV → List qV → qW → Prop} {Q : qR} (X : q_X p R s m args meth c cX8_placeFor 3 nW 1 22 RX8 (some .int) dC dI k g A) (hJ : ∀ d : Nat, q_Sd p l e R s m args below meth c 3 nW dC dI k g A (MQ below (q_post (dC, dI) k g nW Q A) args s 0 0 A) d (x_cut (is_X8_placeFor d) (J d))) : q_Sd p l e R s m args below meth c 3 nW dC dI k g A (MQ below (q_post (dC, dI) k g nW Q A) args s 0 0 A) 36 (b_X8_placeFor_36 J Q) := by
  unfold b_X8_placeFor_36
  exact s_iret X dX8_placeFor_36
set_option maxRecDepth 100000 in
def b_X8_placeFor_9 (J : Nat → List qV → List qV → qW → Prop) (Q : qR) : qK := x_int (-1) (x_iret Q)
set_option maxRecDepth 100000 in
theorem s_X8_placeFor_9 {p : Program} {l : Launch} {e : Env} {R : Room} {s : State} {m : MethodId} {args : Array Value} {below : List Frame} {meth : Method} {c : Code} {nW : Nat} {dC : Nat → ClassId} {dI : Nat → Nat → Nat} {k : Nat → ClassId} {g : Nat → Nat} {A : Nat → Prop} {J : Nat → List qV → List qV → qW → Prop} {Q : qR} (X : q_X p R s m args meth c cX8_placeFor 3 nW 1 22 RX8 (some .int) dC dI k g A) (hJ : ∀ d : Nat, q_Sd p l e R s m args below meth c 3 nW dC dI k g A (MQ below (q_post (dC, dI) k g nW Q A) args s 0 0 A) d (x_cut (is_X8_placeFor d) (J d))) : q_Sd p l e R s m args below meth c 3 nW dC dI k g A (MQ below (q_post (dC, dI) k g nW Q A) args s 0 0 A) 9 (b_X8_placeFor_9 J Q) := by
  unfold b_X8_placeFor_9
  refine s_iconst X ⟨by decide, by decide⟩ dX8_placeFor_9 ?_
  exact s_iret X dX8_placeFor_10
set_option maxRecDepth 100000 in
def b_X8_placeFor_0 (J : Nat → List qV → List qV → qW → Prop) (Q : qR) : qK := x_iload 1 (x_if_lt (b_X8_placeFor_9 J Q) (x_iload 1 (x_int 4 (x_icmp_lt (x_iload 2 (x_int (-1) (x_icmp_ne (x_aload 0 (x_iload 1 (x_iload 2 (x_callr (some 8) 3 spr_X8_holds (x_if_eq (x_int (-1) (b_X8_placeFor_51 J Q)) (x_iload 2 (b_X8_placeFor_51 J Q))))))) (x_aload 0 (x_get 8 1 (x_iload 1 (x_iald (x_int 2 (x_icmp_ge (x_int (-1) (b_X8_placeFor_36 J Q)) (x_aload 0 (x_get 8 1 (x_iload 1 (x_iald (b_X8_placeFor_36 J Q)))))))))))))) (b_X8_placeFor_9 J Q)))))
set_option maxRecDepth 100000 in
theorem s_X8_placeFor_0 {p : Program} {l : Launch} {e : Env} {R : Room} {s : State} {m : MethodId} {args : Array Value} {below : List Frame} {meth : Method} {c : Code} {nW : Nat} {dC : Nat → ClassId} {dI : Nat → Nat → Nat} {k : Nat → ClassId} {g : Nat → Nat} {A : Nat → Prop} {J : Nat → List qV → List qV → qW → Prop} {Q : qR} (X : q_X p R s m args meth c cX8_placeFor 3 nW 1 22 RX8 (some .int) dC dI k g A) (hJ : ∀ d : Nat, q_Sd p l e R s m args below meth c 3 nW dC dI k g A (MQ below (q_post (dC, dI) k g nW Q A) args s 0 0 A) d (x_cut (is_X8_placeFor d) (J d))) : q_Sd p l e R s m args below meth c 3 nW dC dI k g A (MQ below (q_post (dC, dI) k g nW Q A) args s 0 0 A) 0 (b_X8_placeFor_0 J Q) := by
  unfold b_X8_placeFor_0
  refine s_iload_n X rfl dX8_placeFor_0 ?_
  refine s_if_lt X (tgt := 9) dX8_placeFor_1 (by decide) ?_ ?_
  · exact s_X8_placeFor_9 X hJ
  · refine s_iload_n X rfl dX8_placeFor_4 ?_
    refine s_iconst X ⟨by decide, by decide⟩ dX8_placeFor_5 ?_
    refine s_icmp_lt X (tgt := 11) dX8_placeFor_6 (by decide) ?_ ?_
    · refine s_iload_n X rfl dX8_placeFor_11 ?_
      refine s_iconst X ⟨by decide, by decide⟩ dX8_placeFor_12 ?_
      refine s_icmp_ne X (tgt := 37) dX8_placeFor_13 (by decide) ?_ ?_
      · refine s_aload_n X rfl dX8_placeFor_37 ?_
        refine s_iload_n X rfl dX8_placeFor_38 ?_
        refine s_iload_n X rfl dX8_placeFor_39 ?_
        refine s_callVr X (m_X8_holds l) tw_354 tw_355 tw_1531 tw_121 tw_356 rfl (by decide +kernel) ⟨by decide, by decide⟩ dX8_placeFor_40 ?_
        refine s_if_eq X (tgt := 50) dX8_placeFor_43 (by decide) ?_ ?_
        · refine s_iconst X ⟨by decide, by decide⟩ dX8_placeFor_50 ?_
          exact s_X8_placeFor_51 X hJ
        · refine s_iload_n X rfl dX8_placeFor_46 ?_
          refine s_goto X (tgt := 51) dX8_placeFor_47 (by decide) ?_
          exact s_X8_placeFor_51 X hJ
      · refine s_aload_n X rfl dX8_placeFor_16 ?_
        refine s_get X (T := TX8) (C := RX8) (N := 9) tu_X8 rfl (by decide) tw_251 dX8_placeFor_17 ?_
        refine s_iload_n X rfl dX8_placeFor_20 ?_
        refine s_iald X dX8_placeFor_21 ?_
        refine s_iconst X ⟨by decide, by decide⟩ dX8_placeFor_22 ?_
        refine s_icmp_ge X (tgt := 35) dX8_placeFor_23 (by decide) ?_ ?_
        · refine s_iconst X ⟨by decide, by decide⟩ dX8_placeFor_35 ?_
          exact s_X8_placeFor_36 X hJ
        · refine s_aload_n X rfl dX8_placeFor_26 ?_
          refine s_get X (T := TX8) (C := RX8) (N := 9) tu_X8 rfl (by decide) tw_251 dX8_placeFor_27 ?_
          refine s_iload_n X rfl dX8_placeFor_30 ?_
          refine s_iald X dX8_placeFor_31 ?_
          refine s_goto X (tgt := 36) dX8_placeFor_32 (by decide) ?_
          exact s_X8_placeFor_36 X hJ
    · exact s_X8_placeFor_9 X hJ

def spr_X8_placeFor : List qV → qW → (Option qV → Prop) → Prop := fun av w Q => ∃ (tp : Nat → Int) (ct : Nat → Int) (ln : Int) (fa : Int) (pl : Int) (a : Int) (b : Int), av = [q2 0, q1 a, q1 b] ∧ w = (wT3 tp ct ln fa pl) ∧ (q_rg 0 2 ct) ∧ (∀ (r : Int) , (r = -1 ∨ 0 ≤ r ∧ r ≤ 1 ∧ 0 ≤ a ∧ a ≤ 3) → Q (some (q1 r)))
def sp_X8_placeFor : qS := fun av w Q => spr_X8_placeFor av w (fun r => Q r w)
set_option maxHeartbeats 4000000 in
set_option maxRecDepth 100000 in
theorem m_X8_placeFor (l : Launch) : q_M l yX8_placeFor cX8_placeFor 3 (some .int) 1 22 sp_X8_placeFor := by
  refine q_meth (by decide) (fun av w Q h => by obtain ⟨tp, ct, ln, fa, pl, a, b, rfl, rfl, hct, hQ⟩ := h; exact Nat.le_of_ble_eq_true rfl) ?_
  intro p e R s m args below meth c dC dI k g A av w Q hsp oka okw X
  obtain ⟨tp, ct, ln, fa, pl, a, b, rfl, rfl, hct, hQ⟩ := hsp
  have o_a : -2147483648 ≤ a ∧ a ≤ 2147483647 := oka _ (List.mem_of_getElem? (i := 1) rfl)
  have o_b : -2147483648 ≤ b ∧ b ≤ 2147483647 := oka _ (List.mem_of_getElem? (i := 2) rfl)
  refine s_mono (s_X8_placeFor_0 X (J := fun _ _ _ _ => False) (fun d => s_cutF)) ?_
  rintro lv st w' ⟨rfl, rfl, rfl⟩
  apply And.intro
  · intro h1
    exact hQ _ (by first | omega | assumption | exact q_rg_up (by assumption) (by omega) | exact q_rg_up (q_rg_up (by assumption) (by omega)) (by omega) | exact q_rg_cpy (by assumption) (by assumption))
  · intro h1
    apply And.intro
    · intro h6
      apply And.intro
      · intro h13
        refine Exists.intro [0, 1, 2, 3, 4, 5, 6] (Exists.intro [q2 0, q1 _, q1 _] (Exists.intro ((wT3 _ _ _ _ _)) (And.intro rfl (And.intro rfl (And.intro rfl (And.intro ⟨⟨_, rfl⟩, rfl⟩ ?_))))))
        refine Exists.intro _ (Exists.intro _ (Exists.intro _ (Exists.intro _ (Exists.intro _ (Exists.intro _ (Exists.intro _ (And.intro rfl (And.intro rfl (And.intro (by first | omega | assumption | exact q_rg_up (by assumption) (by omega) | exact q_rg_up (q_rg_up (by assumption) (by omega)) (by omega) | exact q_rg_cpy (by assumption) (by assumption)) (?_))))))))))
        intro z40 h40
        apply And.intro
        · intro h43
          exact hQ _ (by first | omega | assumption | exact q_rg_up (by assumption) (by omega) | exact q_rg_up (q_rg_up (by assumption) (by omega)) (by omega) | exact q_rg_cpy (by assumption) (by assumption))
        · intro h43
          exact hQ _ (by first | omega | assumption | exact q_rg_up (by assumption) (by omega) | exact q_rg_up (q_rg_up (by assumption) (by omega)) (by omega) | exact q_rg_cpy (by assumption) (by assumption))
      · intro h13
        apply And.intro
        · exact ⟨by omega, by omega⟩
        intro z21 h21
        first | have a21 := q_rg_at hct h21 | skip
        apply And.intro
        · intro h23
          exact hQ _ (by first | omega | assumption | exact q_rg_up (by assumption) (by omega) | exact q_rg_up (q_rg_up (by assumption) (by omega)) (by omega) | exact q_rg_cpy (by assumption) (by assumption))
        · intro h23
          apply And.intro
          · exact ⟨by omega, by omega⟩
          intro z31 h31
          first | have a31 := q_rg_at hct h31 | skip
          exact hQ _ (by first | omega | assumption | exact q_rg_up (by assumption) (by omega) | exact q_rg_up (q_rg_up (by assumption) (by omega)) (by omega) | exact q_rg_cpy (by assumption) (by assumption))
    · intro h6
      exact hQ _ (by first | omega | assumption | exact q_rg_up (by assumption) (by omega) | exact q_rg_up (q_rg_up (by assumption) (by omega)) (by omega) | exact q_rg_cpy (by assumption) (by assumption))

def wT4_0 (tp ct : Nat → Int) (ln fa pl : Int) : qW := [.inr (8, [q2 1, q2 2, q2 3, q2 4, q2 5, q2 6, q1 ln, q1 fa, q1 pl]), .inl (1, 600, .inl tp), .inl (0, 4, .inl ct), .inl (4, 2, .inr (.inr [some 7, some 8]))]

theorem dX8_boroughAt_0 : decode cX8_boroughAt 0 = .ok (.aload_n 0, 1) := by decide +kernel
theorem dX8_boroughAt_1 : decode cX8_boroughAt 1 = .ok (.iconst 0, 1) := by decide +kernel
theorem dX8_boroughAt_2 : decode cX8_boroughAt 2 = .ok (.iload_n 1, 1) := by decide +kernel
theorem dX8_boroughAt_3 : decode cX8_boroughAt 3 = .ok (.invokevirtual 76, 3) := by decide +kernel
theorem dX8_boroughAt_6 : decode cX8_boroughAt 6 = .ok (.ifCond .eq 12, 3) := by decide +kernel
theorem dX8_boroughAt_9 : decode cX8_boroughAt 9 = .ok (.aload_n 0, 1) := by decide +kernel
theorem dX8_boroughAt_10 : decode cX8_boroughAt 10 = .ok (.getfield 22, 3) := by decide +kernel
theorem dX8_boroughAt_13 : decode cX8_boroughAt 13 = .ok (.iload_n 1, 1) := by decide +kernel
theorem dX8_boroughAt_14 : decode cX8_boroughAt 14 = .ok (.aaload, 1) := by decide +kernel
theorem dX8_boroughAt_15 : decode cX8_boroughAt 15 = .ok (.goto 4, 3) := by decide +kernel
theorem dX8_boroughAt_18 : decode cX8_boroughAt 18 = .ok (.aconst_null, 1) := by decide +kernel
theorem dX8_boroughAt_19 : decode cX8_boroughAt 19 = .ok (.areturn, 1) := by decide +kernel
def is_X8_boroughAt : Nat → List Nat := fun d => []
set_option maxRecDepth 100000 in
def b_X8_boroughAt_19 (J : Nat → List qV → List qV → qW → Prop) (Q : qR) : qK := x_aret Q
set_option maxRecDepth 100000 in
theorem s_X8_boroughAt_19 {p : Program} {l : Launch} {e : Env} {R : Room} {s : State} {m : MethodId} {args : Array Value} {below : List Frame} {meth : Method} {c : Code} {nW : Nat} {dC : Nat → ClassId} {dI : Nat → Nat → Nat} {k : Nat → ClassId} {g : Nat → Nat} {A : Nat → Prop} {J : Nat → List qV → List qV → qW → Prop} {Q : qR} (X : q_X p R s m args meth c cX8_boroughAt 2 nW 1 22 RX8 (some (.object "HeightFine$Borough")) dC dI k g A) (hJ : ∀ d : Nat, q_Sd p l e R s m args below meth c 2 nW dC dI k g A (MQ below (q_post (dC, dI) k g nW Q A) args s 0 0 A) d (x_cut (is_X8_boroughAt d) (J d))) : q_Sd p l e R s m args below meth c 2 nW dC dI k g A (MQ below (q_post (dC, dI) k g nW Q A) args s 0 0 A) 19 (b_X8_boroughAt_19 J Q) := by
  unfold b_X8_boroughAt_19
  exact s_aret X dX8_boroughAt_19
set_option maxRecDepth 100000 in
def b_X8_boroughAt_0 (J : Nat → List qV → List qV → qW → Prop) (Q : qR) : qK := x_aload 0 (x_int 0 (x_iload 1 (x_callr (some 8) 3 spr_X8_holds (x_if_eq (x_null (b_X8_boroughAt_19 J Q)) (x_aload 0 (x_get 8 2 (x_iload 1 (x_aald (b_X8_boroughAt_19 J Q)))))))))
set_option maxRecDepth 100000 in
theorem s_X8_boroughAt_0 {p : Program} {l : Launch} {e : Env} {R : Room} {s : State} {m : MethodId} {args : Array Value} {below : List Frame} {meth : Method} {c : Code} {nW : Nat} {dC : Nat → ClassId} {dI : Nat → Nat → Nat} {k : Nat → ClassId} {g : Nat → Nat} {A : Nat → Prop} {J : Nat → List qV → List qV → qW → Prop} {Q : qR} (X : q_X p R s m args meth c cX8_boroughAt 2 nW 1 22 RX8 (some (.object "HeightFine$Borough")) dC dI k g A) (hJ : ∀ d : Nat, q_Sd p l e R s m args below meth c 2 nW dC dI k g A (MQ below (q_post (dC, dI) k g nW Q A) args s 0 0 A) d (x_cut (is_X8_boroughAt d) (J d))) : q_Sd p l e R s m args below meth c 2 nW dC dI k g A (MQ below (q_post (dC, dI) k g nW Q A) args s 0 0 A) 0 (b_X8_boroughAt_0 J Q) := by
  unfold b_X8_boroughAt_0
  refine s_aload_n X rfl dX8_boroughAt_0 ?_
  refine s_iconst X ⟨by decide, by decide⟩ dX8_boroughAt_1 ?_
  refine s_iload_n X rfl dX8_boroughAt_2 ?_
  refine s_callVr X (m_X8_holds l) tw_354 tw_355 tw_1531 tw_121 tw_356 rfl (by decide +kernel) ⟨by decide, by decide⟩ dX8_boroughAt_3 ?_
  refine s_if_eq X (tgt := 18) dX8_boroughAt_6 (by decide) ?_ ?_
  · refine s_null X dX8_boroughAt_18 ?_
    exact s_X8_boroughAt_19 X hJ
  · refine s_aload_n X rfl dX8_boroughAt_9 ?_
    refine s_get X (T := TX8) (C := RX8) (N := 9) tu_X8 rfl (by decide) tw_253 dX8_boroughAt_10 ?_
    refine s_iload_n X rfl dX8_boroughAt_13 ?_
    refine s_aald X dX8_boroughAt_14 ?_
    refine s_goto X (tgt := 19) dX8_boroughAt_15 (by decide) ?_
    exact s_X8_boroughAt_19 X hJ

def spr_X8_boroughAt : List qV → qW → (Option qV → Prop) → Prop := fun av w Q => ∃ (tp : Nat → Int) (ct : Nat → Int) (ln : Int) (fa : Int) (pl : Int) (a : Int), av = [q2 0, q1 a] ∧ w = (wT4_0 tp ct ln fa pl) ∧ (∀ (r : Option Nat) , (r = none ∨ (r = some 7 ∧ a = 0) ∨ (r = some 8 ∧ a = 1)) → Q (some (.inr (.inr r))))
def sp_X8_boroughAt : qS := fun av w Q => spr_X8_boroughAt av w (fun r => Q r w)
set_option maxHeartbeats 4000000 in
set_option maxRecDepth 100000 in
theorem m_X8_boroughAt (l : Launch) : q_M l yX8_boroughAt cX8_boroughAt 2 (some (.object "HeightFine$Borough")) 1 22 sp_X8_boroughAt := by
  refine q_meth (by decide) (fun av w Q h => by obtain ⟨tp, ct, ln, fa, pl, a, rfl, rfl, hQ⟩ := h; exact Nat.le_of_ble_eq_true rfl) ?_
  intro p e R s m args below meth c dC dI k g A av w Q hsp oka okw X
  obtain ⟨tp, ct, ln, fa, pl, a, rfl, rfl, hQ⟩ := hsp
  have o_a : -2147483648 ≤ a ∧ a ≤ 2147483647 := oka _ (List.mem_of_getElem? (i := 1) rfl)
  refine s_mono (s_X8_boroughAt_0 X (J := fun _ _ _ _ => False) (fun d => s_cutF)) ?_
  rintro lv st w' ⟨rfl, rfl, rfl⟩
  refine Exists.intro [0, 1, 2, 3, 4, 5, 6] (Exists.intro [q2 0, q1 _, q1 _] (Exists.intro ((wT3 _ _ _ _ _)) (And.intro rfl (And.intro rfl (And.intro rfl (And.intro ⟨⟨_, rfl⟩, rfl⟩ ?_))))))
  refine Exists.intro _ (Exists.intro _ (Exists.intro _ (Exists.intro _ (Exists.intro _ (Exists.intro _ (Exists.intro _ (And.intro rfl (And.intro rfl (And.intro (by first | omega | assumption | exact q_rg_up (by assumption) (by omega) | exact q_rg_up (q_rg_up (by assumption) (by omega)) (by omega) | exact q_rg_cpy (by assumption) (by assumption)) (?_))))))))))
  intro z3 h3
  apply And.intro
  · intro h6
    exact hQ _ (by first | exact Or.inl rfl | exact Or.inr (Or.inl ⟨rfl, rfl⟩) | exact Or.inr (Or.inr ⟨rfl, rfl⟩))
  · intro h6
    rcases (show a = 0 ∨ a = 1 by omega) with e9 | e9
    · subst e9
      apply And.intro
      · exact ⟨by omega, by omega⟩
      exact hQ _ (by first | exact Or.inl rfl | exact Or.inr (Or.inl ⟨rfl, rfl⟩) | exact Or.inr (Or.inr ⟨rfl, rfl⟩))
    · subst e9
      apply And.intro
      · exact ⟨by omega, by omega⟩
      exact hQ _ (by first | exact Or.inl rfl | exact Or.inr (Or.inl ⟨rfl, rfl⟩) | exact Or.inr (Or.inr ⟨rfl, rfl⟩))

def wT4_1 (tp ct : Nat → Int) (ln fa pl : Int) : qW := [.inr (8, [q2 1, q2 2, q2 4, q2 3, q2 5, q2 6, q1 ln, q1 fa, q1 pl]), .inl (1, 600, .inl tp), .inl (0, 4, .inl ct), .inl (5, 2, .inr (.inr [some 7, some 8]))]

theorem dX8_yearAt_0 : decode cX8_yearAt 0 = .ok (.aload_n 0, 1) := by decide +kernel
theorem dX8_yearAt_1 : decode cX8_yearAt 1 = .ok (.iconst 1, 1) := by decide +kernel
theorem dX8_yearAt_2 : decode cX8_yearAt 2 = .ok (.iload_n 1, 1) := by decide +kernel
theorem dX8_yearAt_3 : decode cX8_yearAt 3 = .ok (.invokevirtual 76, 3) := by decide +kernel
theorem dX8_yearAt_6 : decode cX8_yearAt 6 = .ok (.ifCond .eq 12, 3) := by decide +kernel
theorem dX8_yearAt_9 : decode cX8_yearAt 9 = .ok (.aload_n 0, 1) := by decide +kernel
theorem dX8_yearAt_10 : decode cX8_yearAt 10 = .ok (.getfield 29, 3) := by decide +kernel
theorem dX8_yearAt_13 : decode cX8_yearAt 13 = .ok (.iload_n 1, 1) := by decide +kernel
theorem dX8_yearAt_14 : decode cX8_yearAt 14 = .ok (.aaload, 1) := by decide +kernel
theorem dX8_yearAt_15 : decode cX8_yearAt 15 = .ok (.goto 4, 3) := by decide +kernel
theorem dX8_yearAt_18 : decode cX8_yearAt 18 = .ok (.aconst_null, 1) := by decide +kernel
theorem dX8_yearAt_19 : decode cX8_yearAt 19 = .ok (.areturn, 1) := by decide +kernel
def is_X8_yearAt : Nat → List Nat := fun d => []
set_option maxRecDepth 100000 in
def b_X8_yearAt_19 (J : Nat → List qV → List qV → qW → Prop) (Q : qR) : qK := x_aret Q
set_option maxRecDepth 100000 in
theorem s_X8_yearAt_19 {p : Program} {l : Launch} {e : Env} {R : Room} {s : State} {m : MethodId} {args : Array Value} {below : List Frame} {meth : Method} {c : Code} {nW : Nat} {dC : Nat → ClassId} {dI : Nat → Nat → Nat} {k : Nat → ClassId} {g : Nat → Nat} {A : Nat → Prop} {J : Nat → List qV → List qV → qW → Prop} {Q : qR} (X : q_X p R s m args meth c cX8_yearAt 2 nW 1 22 RX8 (some (.object "HeightFine$Year")) dC dI k g A) (hJ : ∀ d : Nat, q_Sd p l e R s m args below meth c 2 nW dC dI k g A (MQ below (q_post (dC, dI) k g nW Q A) args s 0 0 A) d (x_cut (is_X8_yearAt d) (J d))) : q_Sd p l e R s m args below meth c 2 nW dC dI k g A (MQ below (q_post (dC, dI) k g nW Q A) args s 0 0 A) 19 (b_X8_yearAt_19 J Q) := by
  unfold b_X8_yearAt_19
  exact s_aret X dX8_yearAt_19
set_option maxRecDepth 100000 in
def b_X8_yearAt_0 (J : Nat → List qV → List qV → qW → Prop) (Q : qR) : qK := x_aload 0 (x_int 1 (x_iload 1 (x_callr (some 8) 3 spr_X8_holds (x_if_eq (x_null (b_X8_yearAt_19 J Q)) (x_aload 0 (x_get 8 3 (x_iload 1 (x_aald (b_X8_yearAt_19 J Q)))))))))
set_option maxRecDepth 100000 in
theorem s_X8_yearAt_0 {p : Program} {l : Launch} {e : Env} {R : Room} {s : State} {m : MethodId} {args : Array Value} {below : List Frame} {meth : Method} {c : Code} {nW : Nat} {dC : Nat → ClassId} {dI : Nat → Nat → Nat} {k : Nat → ClassId} {g : Nat → Nat} {A : Nat → Prop} {J : Nat → List qV → List qV → qW → Prop} {Q : qR} (X : q_X p R s m args meth c cX8_yearAt 2 nW 1 22 RX8 (some (.object "HeightFine$Year")) dC dI k g A) (hJ : ∀ d : Nat, q_Sd p l e R s m args below meth c 2 nW dC dI k g A (MQ below (q_post (dC, dI) k g nW Q A) args s 0 0 A) d (x_cut (is_X8_yearAt d) (J d))) : q_Sd p l e R s m args below meth c 2 nW dC dI k g A (MQ below (q_post (dC, dI) k g nW Q A) args s 0 0 A) 0 (b_X8_yearAt_0 J Q) := by
  unfold b_X8_yearAt_0
  refine s_aload_n X rfl dX8_yearAt_0 ?_
  refine s_iconst X ⟨by decide, by decide⟩ dX8_yearAt_1 ?_
  refine s_iload_n X rfl dX8_yearAt_2 ?_
  refine s_callVr X (m_X8_holds l) tw_354 tw_355 tw_1531 tw_121 tw_356 rfl (by decide +kernel) ⟨by decide, by decide⟩ dX8_yearAt_3 ?_
  refine s_if_eq X (tgt := 18) dX8_yearAt_6 (by decide) ?_ ?_
  · refine s_null X dX8_yearAt_18 ?_
    exact s_X8_yearAt_19 X hJ
  · refine s_aload_n X rfl dX8_yearAt_9 ?_
    refine s_get X (T := TX8) (C := RX8) (N := 9) tu_X8 rfl (by decide) tw_254 dX8_yearAt_10 ?_
    refine s_iload_n X rfl dX8_yearAt_13 ?_
    refine s_aald X dX8_yearAt_14 ?_
    refine s_goto X (tgt := 19) dX8_yearAt_15 (by decide) ?_
    exact s_X8_yearAt_19 X hJ

def spr_X8_yearAt : List qV → qW → (Option qV → Prop) → Prop := fun av w Q => ∃ (tp : Nat → Int) (ct : Nat → Int) (ln : Int) (fa : Int) (pl : Int) (a : Int), av = [q2 0, q1 a] ∧ w = (wT4_1 tp ct ln fa pl) ∧ (∀ (r : Option Nat) , (r = none ∨ (r = some 7 ∧ a = 0) ∨ (r = some 8 ∧ a = 1)) → Q (some (.inr (.inr r))))
def sp_X8_yearAt : qS := fun av w Q => spr_X8_yearAt av w (fun r => Q r w)
set_option maxHeartbeats 4000000 in
set_option maxRecDepth 100000 in
theorem m_X8_yearAt (l : Launch) : q_M l yX8_yearAt cX8_yearAt 2 (some (.object "HeightFine$Year")) 1 22 sp_X8_yearAt := by
  refine q_meth (by decide) (fun av w Q h => by obtain ⟨tp, ct, ln, fa, pl, a, rfl, rfl, hQ⟩ := h; exact Nat.le_of_ble_eq_true rfl) ?_
  intro p e R s m args below meth c dC dI k g A av w Q hsp oka okw X
  obtain ⟨tp, ct, ln, fa, pl, a, rfl, rfl, hQ⟩ := hsp
  have o_a : -2147483648 ≤ a ∧ a ≤ 2147483647 := oka _ (List.mem_of_getElem? (i := 1) rfl)
  refine s_mono (s_X8_yearAt_0 X (J := fun _ _ _ _ => False) (fun d => s_cutF)) ?_
  rintro lv st w' ⟨rfl, rfl, rfl⟩
  refine Exists.intro [0, 1, 2, 4, 3, 5, 6] (Exists.intro [q2 0, q1 _, q1 _] (Exists.intro ((wT3 _ _ _ _ _)) (And.intro rfl (And.intro rfl (And.intro rfl (And.intro ⟨⟨_, rfl⟩, rfl⟩ ?_))))))
  refine Exists.intro _ (Exists.intro _ (Exists.intro _ (Exists.intro _ (Exists.intro _ (Exists.intro _ (Exists.intro _ (And.intro rfl (And.intro rfl (And.intro (by first | omega | assumption | exact q_rg_up (by assumption) (by omega) | exact q_rg_up (q_rg_up (by assumption) (by omega)) (by omega) | exact q_rg_cpy (by assumption) (by assumption)) (?_))))))))))
  intro z3 h3
  apply And.intro
  · intro h6
    exact hQ _ (by first | exact Or.inl rfl | exact Or.inr (Or.inl ⟨rfl, rfl⟩) | exact Or.inr (Or.inr ⟨rfl, rfl⟩))
  · intro h6
    rcases (show a = 0 ∨ a = 1 by omega) with e9 | e9
    · subst e9
      apply And.intro
      · exact ⟨by omega, by omega⟩
      exact hQ _ (by first | exact Or.inl rfl | exact Or.inr (Or.inl ⟨rfl, rfl⟩) | exact Or.inr (Or.inr ⟨rfl, rfl⟩))
    · subst e9
      apply And.intro
      · exact ⟨by omega, by omega⟩
      exact hQ _ (by first | exact Or.inl rfl | exact Or.inr (Or.inl ⟨rfl, rfl⟩) | exact Or.inr (Or.inr ⟨rfl, rfl⟩))

def wT4_2 (tp ct : Nat → Int) (ln fa pl : Int) : qW := [.inr (8, [q2 1, q2 2, q2 4, q2 5, q2 3, q2 6, q1 ln, q1 fa, q1 pl]), .inl (1, 600, .inl tp), .inl (0, 4, .inl ct), .inl (6, 2, .inr (.inr [some 7, some 8]))]

theorem dX8_ledgerAt_0 : decode cX8_ledgerAt 0 = .ok (.aload_n 0, 1) := by decide +kernel
theorem dX8_ledgerAt_1 : decode cX8_ledgerAt 1 = .ok (.iconst 2, 1) := by decide +kernel
theorem dX8_ledgerAt_2 : decode cX8_ledgerAt 2 = .ok (.iload_n 1, 1) := by decide +kernel
theorem dX8_ledgerAt_3 : decode cX8_ledgerAt 3 = .ok (.invokevirtual 76, 3) := by decide +kernel
theorem dX8_ledgerAt_6 : decode cX8_ledgerAt 6 = .ok (.ifCond .eq 12, 3) := by decide +kernel
theorem dX8_ledgerAt_9 : decode cX8_ledgerAt 9 = .ok (.aload_n 0, 1) := by decide +kernel
theorem dX8_ledgerAt_10 : decode cX8_ledgerAt 10 = .ok (.getfield 36, 3) := by decide +kernel
theorem dX8_ledgerAt_13 : decode cX8_ledgerAt 13 = .ok (.iload_n 1, 1) := by decide +kernel
theorem dX8_ledgerAt_14 : decode cX8_ledgerAt 14 = .ok (.aaload, 1) := by decide +kernel
theorem dX8_ledgerAt_15 : decode cX8_ledgerAt 15 = .ok (.goto 4, 3) := by decide +kernel
theorem dX8_ledgerAt_18 : decode cX8_ledgerAt 18 = .ok (.aconst_null, 1) := by decide +kernel
theorem dX8_ledgerAt_19 : decode cX8_ledgerAt 19 = .ok (.areturn, 1) := by decide +kernel
def is_X8_ledgerAt : Nat → List Nat := fun d => []
set_option maxRecDepth 100000 in
def b_X8_ledgerAt_19 (J : Nat → List qV → List qV → qW → Prop) (Q : qR) : qK := x_aret Q
set_option maxRecDepth 100000 in
theorem s_X8_ledgerAt_19 {p : Program} {l : Launch} {e : Env} {R : Room} {s : State} {m : MethodId} {args : Array Value} {below : List Frame} {meth : Method} {c : Code} {nW : Nat} {dC : Nat → ClassId} {dI : Nat → Nat → Nat} {k : Nat → ClassId} {g : Nat → Nat} {A : Nat → Prop} {J : Nat → List qV → List qV → qW → Prop} {Q : qR} (X : q_X p R s m args meth c cX8_ledgerAt 2 nW 1 22 RX8 (some (.object "HeightFine$Ledger")) dC dI k g A) (hJ : ∀ d : Nat, q_Sd p l e R s m args below meth c 2 nW dC dI k g A (MQ below (q_post (dC, dI) k g nW Q A) args s 0 0 A) d (x_cut (is_X8_ledgerAt d) (J d))) : q_Sd p l e R s m args below meth c 2 nW dC dI k g A (MQ below (q_post (dC, dI) k g nW Q A) args s 0 0 A) 19 (b_X8_ledgerAt_19 J Q) := by
  unfold b_X8_ledgerAt_19
  exact s_aret X dX8_ledgerAt_19
set_option maxRecDepth 100000 in
def b_X8_ledgerAt_0 (J : Nat → List qV → List qV → qW → Prop) (Q : qR) : qK := x_aload 0 (x_int 2 (x_iload 1 (x_callr (some 8) 3 spr_X8_holds (x_if_eq (x_null (b_X8_ledgerAt_19 J Q)) (x_aload 0 (x_get 8 4 (x_iload 1 (x_aald (b_X8_ledgerAt_19 J Q)))))))))
set_option maxRecDepth 100000 in
theorem s_X8_ledgerAt_0 {p : Program} {l : Launch} {e : Env} {R : Room} {s : State} {m : MethodId} {args : Array Value} {below : List Frame} {meth : Method} {c : Code} {nW : Nat} {dC : Nat → ClassId} {dI : Nat → Nat → Nat} {k : Nat → ClassId} {g : Nat → Nat} {A : Nat → Prop} {J : Nat → List qV → List qV → qW → Prop} {Q : qR} (X : q_X p R s m args meth c cX8_ledgerAt 2 nW 1 22 RX8 (some (.object "HeightFine$Ledger")) dC dI k g A) (hJ : ∀ d : Nat, q_Sd p l e R s m args below meth c 2 nW dC dI k g A (MQ below (q_post (dC, dI) k g nW Q A) args s 0 0 A) d (x_cut (is_X8_ledgerAt d) (J d))) : q_Sd p l e R s m args below meth c 2 nW dC dI k g A (MQ below (q_post (dC, dI) k g nW Q A) args s 0 0 A) 0 (b_X8_ledgerAt_0 J Q) := by
  unfold b_X8_ledgerAt_0
  refine s_aload_n X rfl dX8_ledgerAt_0 ?_
  refine s_iconst X ⟨by decide, by decide⟩ dX8_ledgerAt_1 ?_
  refine s_iload_n X rfl dX8_ledgerAt_2 ?_
  refine s_callVr X (m_X8_holds l) tw_354 tw_355 tw_1531 tw_121 tw_356 rfl (by decide +kernel) ⟨by decide, by decide⟩ dX8_ledgerAt_3 ?_
  refine s_if_eq X (tgt := 18) dX8_ledgerAt_6 (by decide) ?_ ?_
  · refine s_null X dX8_ledgerAt_18 ?_
    exact s_X8_ledgerAt_19 X hJ
  · refine s_aload_n X rfl dX8_ledgerAt_9 ?_
    refine s_get X (T := TX8) (C := RX8) (N := 9) tu_X8 rfl (by decide) tw_255 dX8_ledgerAt_10 ?_
    refine s_iload_n X rfl dX8_ledgerAt_13 ?_
    refine s_aald X dX8_ledgerAt_14 ?_
    refine s_goto X (tgt := 19) dX8_ledgerAt_15 (by decide) ?_
    exact s_X8_ledgerAt_19 X hJ

def spr_X8_ledgerAt : List qV → qW → (Option qV → Prop) → Prop := fun av w Q => ∃ (tp : Nat → Int) (ct : Nat → Int) (ln : Int) (fa : Int) (pl : Int) (a : Int), av = [q2 0, q1 a] ∧ w = (wT4_2 tp ct ln fa pl) ∧ (∀ (r : Option Nat) , (r = none ∨ (r = some 7 ∧ a = 0) ∨ (r = some 8 ∧ a = 1)) → Q (some (.inr (.inr r))))
def sp_X8_ledgerAt : qS := fun av w Q => spr_X8_ledgerAt av w (fun r => Q r w)
set_option maxHeartbeats 4000000 in
set_option maxRecDepth 100000 in
theorem m_X8_ledgerAt (l : Launch) : q_M l yX8_ledgerAt cX8_ledgerAt 2 (some (.object "HeightFine$Ledger")) 1 22 sp_X8_ledgerAt := by
  refine q_meth (by decide) (fun av w Q h => by obtain ⟨tp, ct, ln, fa, pl, a, rfl, rfl, hQ⟩ := h; exact Nat.le_of_ble_eq_true rfl) ?_
  intro p e R s m args below meth c dC dI k g A av w Q hsp oka okw X
  obtain ⟨tp, ct, ln, fa, pl, a, rfl, rfl, hQ⟩ := hsp
  have o_a : -2147483648 ≤ a ∧ a ≤ 2147483647 := oka _ (List.mem_of_getElem? (i := 1) rfl)
  refine s_mono (s_X8_ledgerAt_0 X (J := fun _ _ _ _ => False) (fun d => s_cutF)) ?_
  rintro lv st w' ⟨rfl, rfl, rfl⟩
  refine Exists.intro [0, 1, 2, 4, 5, 3, 6] (Exists.intro [q2 0, q1 _, q1 _] (Exists.intro ((wT3 _ _ _ _ _)) (And.intro rfl (And.intro rfl (And.intro rfl (And.intro ⟨⟨_, rfl⟩, rfl⟩ ?_))))))
  refine Exists.intro _ (Exists.intro _ (Exists.intro _ (Exists.intro _ (Exists.intro _ (Exists.intro _ (Exists.intro _ (And.intro rfl (And.intro rfl (And.intro (by first | omega | assumption | exact q_rg_up (by assumption) (by omega) | exact q_rg_up (q_rg_up (by assumption) (by omega)) (by omega) | exact q_rg_cpy (by assumption) (by assumption)) (?_))))))))))
  intro z3 h3
  apply And.intro
  · intro h6
    exact hQ _ (by first | exact Or.inl rfl | exact Or.inr (Or.inl ⟨rfl, rfl⟩) | exact Or.inr (Or.inr ⟨rfl, rfl⟩))
  · intro h6
    rcases (show a = 0 ∨ a = 1 by omega) with e9 | e9
    · subst e9
      apply And.intro
      · exact ⟨by omega, by omega⟩
      exact hQ _ (by first | exact Or.inl rfl | exact Or.inr (Or.inl ⟨rfl, rfl⟩) | exact Or.inr (Or.inr ⟨rfl, rfl⟩))
    · subst e9
      apply And.intro
      · exact ⟨by omega, by omega⟩
      exact hQ _ (by first | exact Or.inl rfl | exact Or.inr (Or.inl ⟨rfl, rfl⟩) | exact Or.inr (Or.inr ⟨rfl, rfl⟩))

def wT4_3 (tp ct : Nat → Int) (ln fa pl : Int) : qW := [.inr (8, [q2 1, q2 2, q2 4, q2 5, q2 6, q2 3, q1 ln, q1 fa, q1 pl]), .inl (1, 600, .inl tp), .inl (0, 4, .inl ct), .inl (7, 2, .inr (.inr [some 7, some 8]))]

theorem dX8_sightAt_0 : decode cX8_sightAt 0 = .ok (.aload_n 0, 1) := by decide +kernel
theorem dX8_sightAt_1 : decode cX8_sightAt 1 = .ok (.iconst 3, 1) := by decide +kernel
theorem dX8_sightAt_2 : decode cX8_sightAt 2 = .ok (.iload_n 1, 1) := by decide +kernel
theorem dX8_sightAt_3 : decode cX8_sightAt 3 = .ok (.invokevirtual 76, 3) := by decide +kernel
theorem dX8_sightAt_6 : decode cX8_sightAt 6 = .ok (.ifCond .eq 12, 3) := by decide +kernel
theorem dX8_sightAt_9 : decode cX8_sightAt 9 = .ok (.aload_n 0, 1) := by decide +kernel
theorem dX8_sightAt_10 : decode cX8_sightAt 10 = .ok (.getfield 43, 3) := by decide +kernel
theorem dX8_sightAt_13 : decode cX8_sightAt 13 = .ok (.iload_n 1, 1) := by decide +kernel
theorem dX8_sightAt_14 : decode cX8_sightAt 14 = .ok (.aaload, 1) := by decide +kernel
theorem dX8_sightAt_15 : decode cX8_sightAt 15 = .ok (.goto 4, 3) := by decide +kernel
theorem dX8_sightAt_18 : decode cX8_sightAt 18 = .ok (.aconst_null, 1) := by decide +kernel
theorem dX8_sightAt_19 : decode cX8_sightAt 19 = .ok (.areturn, 1) := by decide +kernel
def is_X8_sightAt : Nat → List Nat := fun d => []
set_option maxRecDepth 100000 in
def b_X8_sightAt_19 (J : Nat → List qV → List qV → qW → Prop) (Q : qR) : qK := x_aret Q
set_option maxRecDepth 100000 in
theorem s_X8_sightAt_19 {p : Program} {l : Launch} {e : Env} {R : Room} {s : State} {m : MethodId} {args : Array Value} {below : List Frame} {meth : Method} {c : Code} {nW : Nat} {dC : Nat → ClassId} {dI : Nat → Nat → Nat} {k : Nat → ClassId} {g : Nat → Nat} {A : Nat → Prop} {J : Nat → List qV → List qV → qW → Prop} {Q : qR} (X : q_X p R s m args meth c cX8_sightAt 2 nW 1 22 RX8 (some (.object "HeightFine$Sight")) dC dI k g A) (hJ : ∀ d : Nat, q_Sd p l e R s m args below meth c 2 nW dC dI k g A (MQ below (q_post (dC, dI) k g nW Q A) args s 0 0 A) d (x_cut (is_X8_sightAt d) (J d))) : q_Sd p l e R s m args below meth c 2 nW dC dI k g A (MQ below (q_post (dC, dI) k g nW Q A) args s 0 0 A) 19 (b_X8_sightAt_19 J Q) := by
  unfold b_X8_sightAt_19
  exact s_aret X dX8_sightAt_19
set_option maxRecDepth 100000 in
def b_X8_sightAt_0 (J : Nat → List qV → List qV → qW → Prop) (Q : qR) : qK := x_aload 0 (x_int 3 (x_iload 1 (x_callr (some 8) 3 spr_X8_holds (x_if_eq (x_null (b_X8_sightAt_19 J Q)) (x_aload 0 (x_get 8 5 (x_iload 1 (x_aald (b_X8_sightAt_19 J Q)))))))))
set_option maxRecDepth 100000 in
theorem s_X8_sightAt_0 {p : Program} {l : Launch} {e : Env} {R : Room} {s : State} {m : MethodId} {args : Array Value} {below : List Frame} {meth : Method} {c : Code} {nW : Nat} {dC : Nat → ClassId} {dI : Nat → Nat → Nat} {k : Nat → ClassId} {g : Nat → Nat} {A : Nat → Prop} {J : Nat → List qV → List qV → qW → Prop} {Q : qR} (X : q_X p R s m args meth c cX8_sightAt 2 nW 1 22 RX8 (some (.object "HeightFine$Sight")) dC dI k g A) (hJ : ∀ d : Nat, q_Sd p l e R s m args below meth c 2 nW dC dI k g A (MQ below (q_post (dC, dI) k g nW Q A) args s 0 0 A) d (x_cut (is_X8_sightAt d) (J d))) : q_Sd p l e R s m args below meth c 2 nW dC dI k g A (MQ below (q_post (dC, dI) k g nW Q A) args s 0 0 A) 0 (b_X8_sightAt_0 J Q) := by
  unfold b_X8_sightAt_0
  refine s_aload_n X rfl dX8_sightAt_0 ?_
  refine s_iconst X ⟨by decide, by decide⟩ dX8_sightAt_1 ?_
  refine s_iload_n X rfl dX8_sightAt_2 ?_
  refine s_callVr X (m_X8_holds l) tw_354 tw_355 tw_1531 tw_121 tw_356 rfl (by decide +kernel) ⟨by decide, by decide⟩ dX8_sightAt_3 ?_
  refine s_if_eq X (tgt := 18) dX8_sightAt_6 (by decide) ?_ ?_
  · refine s_null X dX8_sightAt_18 ?_
    exact s_X8_sightAt_19 X hJ
  · refine s_aload_n X rfl dX8_sightAt_9 ?_
    refine s_get X (T := TX8) (C := RX8) (N := 9) tu_X8 rfl (by decide) tw_256 dX8_sightAt_10 ?_
    refine s_iload_n X rfl dX8_sightAt_13 ?_
    refine s_aald X dX8_sightAt_14 ?_
    refine s_goto X (tgt := 19) dX8_sightAt_15 (by decide) ?_
    exact s_X8_sightAt_19 X hJ

def spr_X8_sightAt : List qV → qW → (Option qV → Prop) → Prop := fun av w Q => ∃ (tp : Nat → Int) (ct : Nat → Int) (ln : Int) (fa : Int) (pl : Int) (a : Int), av = [q2 0, q1 a] ∧ w = (wT4_3 tp ct ln fa pl) ∧ (∀ (r : Option Nat) , (r = none ∨ (r = some 7 ∧ a = 0) ∨ (r = some 8 ∧ a = 1)) → Q (some (.inr (.inr r))))
def sp_X8_sightAt : qS := fun av w Q => spr_X8_sightAt av w (fun r => Q r w)
set_option maxHeartbeats 4000000 in
set_option maxRecDepth 100000 in
theorem m_X8_sightAt (l : Launch) : q_M l yX8_sightAt cX8_sightAt 2 (some (.object "HeightFine$Sight")) 1 22 sp_X8_sightAt := by
  refine q_meth (by decide) (fun av w Q h => by obtain ⟨tp, ct, ln, fa, pl, a, rfl, rfl, hQ⟩ := h; exact Nat.le_of_ble_eq_true rfl) ?_
  intro p e R s m args below meth c dC dI k g A av w Q hsp oka okw X
  obtain ⟨tp, ct, ln, fa, pl, a, rfl, rfl, hQ⟩ := hsp
  have o_a : -2147483648 ≤ a ∧ a ≤ 2147483647 := oka _ (List.mem_of_getElem? (i := 1) rfl)
  refine s_mono (s_X8_sightAt_0 X (J := fun _ _ _ _ => False) (fun d => s_cutF)) ?_
  rintro lv st w' ⟨rfl, rfl, rfl⟩
  refine Exists.intro [0, 1, 2, 4, 5, 6, 3] (Exists.intro [q2 0, q1 _, q1 _] (Exists.intro ((wT3 _ _ _ _ _)) (And.intro rfl (And.intro rfl (And.intro rfl (And.intro ⟨⟨_, rfl⟩, rfl⟩ ?_))))))
  refine Exists.intro _ (Exists.intro _ (Exists.intro _ (Exists.intro _ (Exists.intro _ (Exists.intro _ (Exists.intro _ (And.intro rfl (And.intro rfl (And.intro (by first | omega | assumption | exact q_rg_up (by assumption) (by omega) | exact q_rg_up (q_rg_up (by assumption) (by omega)) (by omega) | exact q_rg_cpy (by assumption) (by assumption)) (?_))))))))))
  intro z3 h3
  apply And.intro
  · intro h6
    exact hQ _ (by first | exact Or.inl rfl | exact Or.inr (Or.inl ⟨rfl, rfl⟩) | exact Or.inr (Or.inr ⟨rfl, rfl⟩))
  · intro h6
    rcases (show a = 0 ∨ a = 1 by omega) with e9 | e9
    · subst e9
      apply And.intro
      · exact ⟨by omega, by omega⟩
      exact hQ _ (by first | exact Or.inl rfl | exact Or.inr (Or.inl ⟨rfl, rfl⟩) | exact Or.inr (Or.inr ⟨rfl, rfl⟩))
    · subst e9
      apply And.intro
      · exact ⟨by omega, by omega⟩
      exact hQ _ (by first | exact Or.inl rfl | exact Or.inr (Or.inl ⟨rfl, rfl⟩) | exact Or.inr (Or.inr ⟨rfl, rfl⟩))
