theorem dX9_run_0 : decode cX9_run 0 = .ok (.aload_n 0, 1) := by decide +kernel
theorem dX9_run_1 : decode cX9_run 1 = .ok (.aload_n 1, 1) := by decide +kernel
theorem dX9_run_2 : decode cX9_run 2 = .ok (.invokevirtual 34, 3) := by decide +kernel
theorem dX9_run_5 : decode cX9_run 5 = .ok (.iconst 0, 1) := by decide +kernel
theorem dX9_run_6 : decode cX9_run 6 = .ok (.istore 4, 2) := by decide +kernel
theorem dX9_run_8 : decode cX9_run 8 = .ok (.iload 4, 2) := by decide +kernel
theorem dX9_run_10 : decode cX9_run 10 = .ok (.iload_n 3, 1) := by decide +kernel
theorem dX9_run_11 : decode cX9_run 11 = .ok (.if_icmp .ge 61, 3) := by decide +kernel
theorem dX9_run_14 : decode cX9_run 14 = .ok (.iload 4, 2) := by decide +kernel
theorem dX9_run_16 : decode cX9_run 16 = .ok (.aload_n 2, 1) := by decide +kernel
theorem dX9_run_17 : decode cX9_run 17 = .ok (.getfield 38, 3) := by decide +kernel
theorem dX9_run_20 : decode cX9_run 20 = .ok (.if_icmp .ge 52, 3) := by decide +kernel
theorem dX9_run_23 : decode cX9_run 23 = .ok (.iload 4, 2) := by decide +kernel
theorem dX9_run_25 : decode cX9_run 25 = .ok (.bipush 40, 2) := by decide +kernel
theorem dX9_run_27 : decode cX9_run 27 = .ok (.if_icmp .ge 45, 3) := by decide +kernel
theorem dX9_run_30 : decode cX9_run 30 = .ok (.aload_n 0, 1) := by decide +kernel
theorem dX9_run_31 : decode cX9_run 31 = .ok (.aload_n 1, 1) := by decide +kernel
theorem dX9_run_32 : decode cX9_run 32 = .ok (.aload_n 2, 1) := by decide +kernel
theorem dX9_run_33 : decode cX9_run 33 = .ok (.getfield 43, 3) := by decide +kernel
theorem dX9_run_36 : decode cX9_run 36 = .ok (.iload 4, 2) := by decide +kernel
theorem dX9_run_38 : decode cX9_run 38 = .ok (.iaload, 1) := by decide +kernel
theorem dX9_run_39 : decode cX9_run 39 = .ok (.aload_n 2, 1) := by decide +kernel
theorem dX9_run_40 : decode cX9_run 40 = .ok (.getfield 46, 3) := by decide +kernel
theorem dX9_run_43 : decode cX9_run 43 = .ok (.iload 4, 2) := by decide +kernel
theorem dX9_run_45 : decode cX9_run 45 = .ok (.iaload, 1) := by decide +kernel
theorem dX9_run_46 : decode cX9_run 46 = .ok (.aload_n 2, 1) := by decide +kernel
theorem dX9_run_47 : decode cX9_run 47 = .ok (.getfield 49, 3) := by decide +kernel
theorem dX9_run_50 : decode cX9_run 50 = .ok (.iload 4, 2) := by decide +kernel
theorem dX9_run_52 : decode cX9_run 52 = .ok (.iaload, 1) := by decide +kernel
theorem dX9_run_53 : decode cX9_run 53 = .ok (.aload_n 2, 1) := by decide +kernel
theorem dX9_run_54 : decode cX9_run 54 = .ok (.getfield 52, 3) := by decide +kernel
theorem dX9_run_57 : decode cX9_run 57 = .ok (.iload 4, 2) := by decide +kernel
theorem dX9_run_59 : decode cX9_run 59 = .ok (.iaload, 1) := by decide +kernel
theorem dX9_run_60 : decode cX9_run 60 = .ok (.invokevirtual 55, 3) := by decide +kernel
theorem dX9_run_63 : decode cX9_run 63 = .ok (.ifCond .eq 9, 3) := by decide +kernel
theorem dX9_run_66 : decode cX9_run 66 = .ok (.iinc 4 1, 3) := by decide +kernel
theorem dX9_run_69 : decode cX9_run 69 = .ok (.goto (-61), 3) := by decide +kernel
theorem dX9_run_72 : decode cX9_run 72 = .ok (.iload 4, 2) := by decide +kernel
theorem dX9_run_74 : decode cX9_run 74 = .ok (.ireturn, 1) := by decide +kernel
def is_X9_run : Nat → List Nat := fun d => if d = 8 then [0, 1, 2, 3, 4] else []
set_option maxRecDepth 100000 in
def b_X9_run_72 (J : Nat → List qV → List qV → qW → Prop) (Q : qR) : qK := x_iload 4 (x_iret Q)
set_option maxRecDepth 100000 in
theorem s_X9_run_72 {p : Program} {l : Launch} {e : Env} {R : Room} {s : State} {m : MethodId} {args : Array Value} {below : List Frame} {meth : Method} {c : Code} {nW : Nat} {dC : Nat → ClassId} {dI : Nat → Nat → Nat} {k : Nat → ClassId} {g : Nat → Nat} {A : Nat → Prop} {J : Nat → List qV → List qV → qW → Prop} {Q : qR} (X : q_X p R s m args meth c cX9_run 5 nW 3 89 RX9 (some .int) dC dI k g A) (hJ : ∀ d : Nat, q_Sd p l e R s m args below meth c 5 nW dC dI k g A (MQ below (q_post (dC, dI) k g nW Q A) args s 0 0 A) d (x_cut (is_X9_run d) (J d))) : q_Sd p l e R s m args below meth c 5 nW dC dI k g A (MQ below (q_post (dC, dI) k g nW Q A) args s 0 0 A) 72 (b_X9_run_72 J Q) := by
  unfold b_X9_run_72
  refine s_iload X dX9_run_72 ?_
  exact s_iret X dX9_run_74
set_option maxRecDepth 100000 in
def b_X9_run_53 (J : Nat → List qV → List qV → qW → Prop) (Q : qR) : qK := x_aload 2 (x_get 10 3 (x_iload 4 (x_iald (x_call (some 9) 6 sp_X9_act (x_nw (x_if_eq (b_X9_run_72 J Q) (x_iinc 4 1 (x_cut [0, 1, 2, 3, 4] (J 8)))))))))
set_option maxRecDepth 100000 in
theorem s_X9_run_53 {p : Program} {l : Launch} {e : Env} {R : Room} {s : State} {m : MethodId} {args : Array Value} {below : List Frame} {meth : Method} {c : Code} {nW : Nat} {dC : Nat → ClassId} {dI : Nat → Nat → Nat} {k : Nat → ClassId} {g : Nat → Nat} {A : Nat → Prop} {J : Nat → List qV → List qV → qW → Prop} {Q : qR} (X : q_X p R s m args meth c cX9_run 5 nW 3 89 RX9 (some .int) dC dI k g A) (hJ : ∀ d : Nat, q_Sd p l e R s m args below meth c 5 nW dC dI k g A (MQ below (q_post (dC, dI) k g nW Q A) args s 0 0 A) d (x_cut (is_X9_run d) (J d))) : q_Sd p l e R s m args below meth c 5 nW dC dI k g A (MQ below (q_post (dC, dI) k g nW Q A) args s 0 0 A) 53 (b_X9_run_53 J Q) := by
  unfold b_X9_run_53
  refine s_aload_n X rfl dX9_run_53 ?_
  refine s_get X (T := TX10) (C := RX10) (N := 5) tu_X10 rfl (by decide) tw_222 dX9_run_54 ?_
  refine s_iload X dX9_run_57 ?_
  refine s_iald X dX9_run_59 ?_
  refine s_callV X (m_X9_act l) tw_579 tw_580 tw_1532 tw_129 tw_581 rfl (by decide +kernel) ⟨by decide, by decide⟩ dX9_run_60 ?_
  refine s_nw ?_
  refine s_if_eq X (tgt := 72) dX9_run_63 (by decide) ?_ ?_
  · exact s_X9_run_72 X hJ
  · refine s_iinc X (by decide) dX9_run_66 ?_
    refine s_goto X (tgt := 8) dX9_run_69 (by decide) ?_
    exact hJ 8
set_option maxRecDepth 100000 in
def b_X9_run_8 (J : Nat → List qV → List qV → qW → Prop) (Q : qR) : qK := x_iload 4 (x_iload 3 (x_icmp_ge (b_X9_run_72 J Q) (x_iload 4 (x_aload 2 (x_get 10 4 (x_icmp_ge (b_X9_run_72 J Q) (x_iload 4 (x_int 40 (x_icmp_ge (b_X9_run_72 J Q) (x_aload 0 (x_aload 1 (x_aload 2 (x_get 10 0 (x_iload 4 (x_iald (x_aload 2 (x_get 10 1 (x_iload 4 (x_iald (x_aload 2 (x_get 10 2 (x_iload 4 (x_iald (b_X9_run_53 J Q))))))))))))))))))))))))
set_option maxRecDepth 100000 in
theorem s_X9_run_8 {p : Program} {l : Launch} {e : Env} {R : Room} {s : State} {m : MethodId} {args : Array Value} {below : List Frame} {meth : Method} {c : Code} {nW : Nat} {dC : Nat → ClassId} {dI : Nat → Nat → Nat} {k : Nat → ClassId} {g : Nat → Nat} {A : Nat → Prop} {J : Nat → List qV → List qV → qW → Prop} {Q : qR} (X : q_X p R s m args meth c cX9_run 5 nW 3 89 RX9 (some .int) dC dI k g A) (hJ : ∀ d : Nat, q_Sd p l e R s m args below meth c 5 nW dC dI k g A (MQ below (q_post (dC, dI) k g nW Q A) args s 0 0 A) d (x_cut (is_X9_run d) (J d))) : q_Sd p l e R s m args below meth c 5 nW dC dI k g A (MQ below (q_post (dC, dI) k g nW Q A) args s 0 0 A) 8 (b_X9_run_8 J Q) := by
  unfold b_X9_run_8
  refine s_iload X dX9_run_8 ?_
  refine s_iload_n X rfl dX9_run_10 ?_
  refine s_icmp_ge X (tgt := 72) dX9_run_11 (by decide) ?_ ?_
  · exact s_X9_run_72 X hJ
  · refine s_iload X dX9_run_14 ?_
    refine s_aload_n X rfl dX9_run_16 ?_
    refine s_get X (T := TX10) (C := RX10) (N := 5) tu_X10 rfl (by decide) tw_224 dX9_run_17 ?_
    refine s_icmp_ge X (tgt := 72) dX9_run_20 (by decide) ?_ ?_
    · exact s_X9_run_72 X hJ
    · refine s_iload X dX9_run_23 ?_
      refine s_bipush X ⟨by decide, by decide⟩ (by decide) dX9_run_25 ?_
      refine s_icmp_ge X (tgt := 72) dX9_run_27 (by decide) ?_ ?_
      · exact s_X9_run_72 X hJ
      · refine s_aload_n X rfl dX9_run_30 ?_
        refine s_aload_n X rfl dX9_run_31 ?_
        refine s_aload_n X rfl dX9_run_32 ?_
        refine s_get X (T := TX10) (C := RX10) (N := 5) tu_X10 rfl (by decide) tw_216 dX9_run_33 ?_
        refine s_iload X dX9_run_36 ?_
        refine s_iald X dX9_run_38 ?_
        refine s_aload_n X rfl dX9_run_39 ?_
        refine s_get X (T := TX10) (C := RX10) (N := 5) tu_X10 rfl (by decide) tw_218 dX9_run_40 ?_
        refine s_iload X dX9_run_43 ?_
        refine s_iald X dX9_run_45 ?_
        refine s_aload_n X rfl dX9_run_46 ?_
        refine s_get X (T := TX10) (C := RX10) (N := 5) tu_X10 rfl (by decide) tw_220 dX9_run_47 ?_
        refine s_iload X dX9_run_50 ?_
        refine s_iald X dX9_run_52 ?_
        exact s_X9_run_53 X hJ
set_option maxRecDepth 100000 in
def b_X9_run_0 (J : Nat → List qV → List qV → qW → Prop) (Q : qR) : qK := x_aload 0 (x_aload 1 (x_call (some 9) 2 sp_X9_begin (x_nw (x_int 0 (x_istore 4 (x_cut [0, 1, 2, 3, 4] (J 8)))))))
set_option maxRecDepth 100000 in
theorem s_X9_run_0 {p : Program} {l : Launch} {e : Env} {R : Room} {s : State} {m : MethodId} {args : Array Value} {below : List Frame} {meth : Method} {c : Code} {nW : Nat} {dC : Nat → ClassId} {dI : Nat → Nat → Nat} {k : Nat → ClassId} {g : Nat → Nat} {A : Nat → Prop} {J : Nat → List qV → List qV → qW → Prop} {Q : qR} (X : q_X p R s m args meth c cX9_run 5 nW 3 89 RX9 (some .int) dC dI k g A) (hJ : ∀ d : Nat, q_Sd p l e R s m args below meth c 5 nW dC dI k g A (MQ below (q_post (dC, dI) k g nW Q A) args s 0 0 A) d (x_cut (is_X9_run d) (J d))) : q_Sd p l e R s m args below meth c 5 nW dC dI k g A (MQ below (q_post (dC, dI) k g nW Q A) args s 0 0 A) 0 (b_X9_run_0 J Q) := by
  unfold b_X9_run_0
  refine s_aload_n X rfl dX9_run_0 ?_
  refine s_aload_n X rfl dX9_run_1 ?_
  refine s_callV X (m_X9_begin l) tw_575 tw_576 tw_1535 tw_129 tw_577 rfl (by decide +kernel) ⟨by decide, by decide⟩ dX9_run_2 ?_
  refine s_nw ?_
  refine s_iconst X ⟨by decide, by decide⟩ dX9_run_5 ?_
  refine s_istore X (by decide) dX9_run_6 ?_
  exact hJ 8

def sp_X9_run : qS := fun av w Q => ∃ (h1 : Nat → Int) (h2 : Nat → Int) (h3 : Nat → Int) (p0 : Int) (s0 : Int) (f1 : Nat → Int) (f2 : Nat → Int) (f3 : Nat → Int) (f4 : Nat → Int) (f5 : Nat → Int) (f6 : Nat → Int) (f7 : Nat → Int) (u0 : Int) (u1 : Int) (u2 : Int) (u3 : Int) (u4 : Int) (k1 : Nat → Int) (k2 : Nat → Int) (k3 : Nat → Int) (k4 : Nat → Int) (dd : Int) (a : Int), av = [q2 0, q2 4, q2 12, q1 a] ∧ w = (wKo 0 h1 h2 h3 p0 s0 ++ wBo 4 f1 f2 f3 f4 f5 f6 f7 u0 u1 u2 u3 u4 ++ wYo 12 k1 k2 k3 k4 dd) ∧ (0 ≤ u0 ∧ u0 ≤ 8) ∧ (0 ≤ dd ∧ dd ≤ 40) ∧ (∀ (r : Int) (x1 : Nat → Int) (x2 : Nat → Int) (x3 : Nat → Int) (x4 : Int) (x5 : Int), 0 ≤ r ∧ r ≤ 40 → Q (some (q1 r)) ((wKo 0 x1 x2 x3 x4 x5 ++ wBo 4 f1 f2 f3 f4 f5 f6 f7 u0 u1 u2 u3 u4 ++ wYo 12 k1 k2 k3 k4 dd)))
def I_X9_run (h1 : Nat → Int) (h2 : Nat → Int) (h3 : Nat → Int) (p0 : Int) (s0 : Int) (f1 : Nat → Int) (f2 : Nat → Int) (f3 : Nat → Int) (f4 : Nat → Int) (f5 : Nat → Int) (f6 : Nat → Int) (f7 : Nat → Int) (u0 : Int) (u1 : Int) (u2 : Int) (u3 : Int) (u4 : Int) (k1 : Nat → Int) (k2 : Nat → Int) (k3 : Nat → Int) (k4 : Nat → Int) (dd : Int) (a : Int) : Nat → Nat → List qV → List qV → qW → Prop := fun dz mz vz sz wz => if dz = 8 then (∃ (y1 : Nat → Int) (y2 : Nat → Int) (y3 : Nat → Int) (y4 : Int) (y5 : Int) (v4 : Int), vz = [q2 0, q2 4, q2 12, q1 a, q1 v4] ∧ sz = [] ∧ wz = (wKo 0 y1 y2 y3 y4 y5 ++ wBo 4 f1 f2 f3 f4 f5 f6 f7 u0 u1 u2 u3 u4 ++ wYo 12 k1 k2 k3 k4 dd) ∧ mz = (40 - v4).toNat ∧ (0 ≤ v4 ∧ v4 ≤ 40)) else False
set_option maxHeartbeats 4000000 in
set_option maxRecDepth 100000 in
theorem m_X9_run (l : Launch) : q_M l yX9_run cX9_run 5 (some .int) 3 89 sp_X9_run := by
  refine q_meth (by decide) (fun av w Q h => by obtain ⟨h1, h2, h3, p0, s0, f1, f2, f3, f4, f5, f6, f7, u0, u1, u2, u3, u4, k1, k2, k3, k4, dd, a, rfl, rfl, hu0, hd, hQ⟩ := h; exact Nat.le_of_ble_eq_true rfl) ?_
  intro p e R s m args below meth c dC dI k g A av w Q hsp oka okw X
  obtain ⟨h1, h2, h3, p0, s0, f1, f2, f3, f4, f5, f6, f7, u0, u1, u2, u3, u4, k1, k2, k3, k4, dd, a, rfl, rfl, hu0, hd, hQ⟩ := hsp
  have o_a : -2147483648 ≤ a ∧ a ≤ 2147483647 := oka _ (List.mem_of_getElem? (i := 3) rfl)
  refine s_mono (s_X9_run_0 X (J := fun dz vz sz wz => ∃ mz, I_X9_run h1 h2 h3 p0 s0 f1 f2 f3 f4 f5 f6 f7 u0 u1 u2 u3 u4 k1 k2 k3 k4 dd a dz mz vz sz wz) (q_loopn (I_X9_run h1 h2 h3 p0 s0 f1 f2 f3 f4 f5 f6 f7 u0 u1 u2 u3 u4 k1 k2 k3 k4 dd a) (fun dz J => if dz = 8 then b_X9_run_8 J Q else q_F) ?hs ?hv)) ?_
  case hs =>
    intro d J hJ
    by_cases h8 : d = 8
    · subst h8; exact s_X9_run_8 X hJ
    simp only [h8, if_false]
    exact s_F
  case hv =>
    intro dz mz vz sz wz hI okv oks okw hlen
    by_cases h8 : dz = 8
    · subst h8
      obtain ⟨y1, y2, y3, y4, y5, v4, rfl, rfl, rfl, hn, hp⟩ := hI
      apply And.intro
      · intro h11
        exact hQ _ _ _ _ _ _ (by first | omega | assumption | exact q_rg_up (by assumption) (by omega) | exact q_rg_up (q_rg_up (by assumption) (by omega)) (by omega) | exact q_rg_cpy (by assumption) (by assumption))
      · intro h11
        apply And.intro
        · intro h20
          exact hQ _ _ _ _ _ _ (by first | omega | assumption | exact q_rg_up (by assumption) (by omega) | exact q_rg_up (q_rg_up (by assumption) (by omega)) (by omega) | exact q_rg_cpy (by assumption) (by assumption))
        · intro h20
          apply And.intro
          · intro h27
            exact hQ _ _ _ _ _ _ (by first | omega | assumption | exact q_rg_up (by assumption) (by omega) | exact q_rg_up (q_rg_up (by assumption) (by omega)) (by omega) | exact q_rg_cpy (by assumption) (by assumption))
          · intro h27
            apply And.intro
            · exact ⟨by omega, by omega⟩
            intro z38 h38
            apply And.intro
            · exact ⟨by omega, by omega⟩
            intro z45 h45
            apply And.intro
            · exact ⟨by omega, by omega⟩
            intro z52 h52
            apply And.intro
            · exact ⟨by omega, by omega⟩
            intro z59 h59
            refine Exists.intro [0, 1, 2, 3, 4, 5, 6, 7, 8, 9, 10, 11] (Exists.intro [q2 0, q2 4, q1 _, q1 _, q1 _, q1 _] (Exists.intro ((wKo 0 _ _ _ _ _ ++ wBo 4 _ _ _ _ _ _ _ _ _ _ _ _)) (And.intro rfl (And.intro rfl (And.intro rfl (And.intro ⟨⟨_, rfl⟩, rfl⟩ ?_))))))
            refine Exists.intro _ (Exists.intro _ (Exists.intro _ (Exists.intro _ (Exists.intro _ (Exists.intro _ (Exists.intro _ (Exists.intro _ (Exists.intro _ (Exists.intro _ (Exists.intro _ (Exists.intro _ (Exists.intro _ (Exists.intro _ (Exists.intro _ (Exists.intro _ (Exists.intro _ (Exists.intro _ (Exists.intro _ (Exists.intro _ (Exists.intro _ (And.intro rfl (And.intro rfl (And.intro (by first | omega | assumption | exact q_rg_up (by assumption) (by omega) | exact q_rg_up (q_rg_up (by assumption) (by omega)) (by omega) | exact q_rg_cpy (by assumption) (by assumption)) (?_))))))))))))))))))))))))
            intro z60 x1_60 x2_60 x3_60 x4_60 x5_60 h60
            apply And.intro
            · intro h63
              exact hQ _ _ _ _ _ _ (by first | omega | assumption | exact q_rg_up (by assumption) (by omega) | exact q_rg_up (q_rg_up (by assumption) (by omega)) (by omega) | exact q_rg_cpy (by assumption) (by assumption))
            · intro h63
              intro z66 h66
              first | replace h66 := e_add h66 (by omega) | replace h66 := e_rng h66
              exact ⟨_, ⟨_, _, _, _, _, _, rfl, rfl, rfl, rfl, (by first | omega | assumption | exact q_rg_up (by assumption) (by omega) | exact q_rg_up (q_rg_up (by assumption) (by omega)) (by omega) | exact q_rg_cpy (by assumption) (by assumption))⟩, by omega⟩
    simp only [I_X9_run, h8, if_false] at hI
  rintro lv st w' ⟨rfl, rfl, rfl⟩
  refine Exists.intro [0, 1, 2, 3, 4, 5, 6, 7, 8, 9, 10, 11] (Exists.intro [q2 0, q2 4] (Exists.intro ((wKo 0 _ _ _ _ _ ++ wBo 4 _ _ _ _ _ _ _ _ _ _ _ _)) (And.intro rfl (And.intro rfl (And.intro rfl (And.intro ⟨⟨_, rfl⟩, rfl⟩ ?_))))))
  refine Exists.intro _ (Exists.intro _ (Exists.intro _ (Exists.intro _ (Exists.intro _ (Exists.intro _ (Exists.intro _ (Exists.intro _ (Exists.intro _ (Exists.intro _ (Exists.intro _ (Exists.intro _ (Exists.intro _ (Exists.intro _ (Exists.intro _ (Exists.intro _ (Exists.intro _ (And.intro rfl (And.intro rfl (?_)))))))))))))))))))
  intro x1_2 x2_2 x3_2 x4_2 x5_2
  exact ⟨_, _, _, _, _, _, _, rfl, rfl, rfl, rfl, (by first | omega | assumption | exact q_rg_up (by assumption) (by omega) | exact q_rg_up (q_rg_up (by assumption) (by omega)) (by omega) | exact q_rg_cpy (by assumption) (by assumption))⟩
