theorem dkeep_0 : decode cX8_keep 0 = .ok (.iload_n 2, 1) := by decide +kernel
theorem dkeep_1 : decode cX8_keep 1 = .ok (.ifCond .lt 17, 3) := by decide +kernel
theorem dkeep_4 : decode cX8_keep 4 = .ok (.iload_n 2, 1) := by decide +kernel
theorem dkeep_5 : decode cX8_keep 5 = .ok (.iconst 2, 1) := by decide +kernel
theorem dkeep_6 : decode cX8_keep 6 = .ok (.if_icmp .ge 12, 3) := by decide +kernel
theorem dkeep_9 : decode cX8_keep 9 = .ok (.iload_n 1, 1) := by decide +kernel
theorem dkeep_10 : decode cX8_keep 10 = .ok (.ifCond .lt 8, 3) := by decide +kernel
theorem dkeep_13 : decode cX8_keep 13 = .ok (.iload_n 1, 1) := by decide +kernel
theorem dkeep_14 : decode cX8_keep 14 = .ok (.iconst 4, 1) := by decide +kernel
theorem dkeep_15 : decode cX8_keep 15 = .ok (.if_icmp .lt 4, 3) := by decide +kernel
theorem dkeep_18 : decode cX8_keep 18 = .ok (.return_, 1) := by decide +kernel
theorem dkeep_19 : decode cX8_keep 19 = .ok (.iload_n 1, 1) := by decide +kernel
theorem dkeep_20 : decode cX8_keep 20 = .ok (.tableswitch 76 0 2 #[28, 44, 60], 28) := by decide +kernel
theorem dkeep_48 : decode cX8_keep 48 = .ok (.aload_n 0, 1) := by decide +kernel
theorem dkeep_49 : decode cX8_keep 49 = .ok (.getfield 22, 3) := by decide +kernel
theorem dkeep_52 : decode cX8_keep 52 = .ok (.iload_n 2, 1) := by decide +kernel
theorem dkeep_53 : decode cX8_keep 53 = .ok (.aaload, 1) := by decide +kernel
theorem dkeep_54 : decode cX8_keep 54 = .ok (.aload_n 3, 1) := by decide +kernel
theorem dkeep_55 : decode cX8_keep 55 = .ok (.getfield 80, 3) := by decide +kernel
theorem dkeep_58 : decode cX8_keep 58 = .ok (.invokevirtual 57, 3) := by decide +kernel
theorem dkeep_61 : decode cX8_keep 61 = .ok (.goto 48, 3) := by decide +kernel
theorem dkeep_64 : decode cX8_keep 64 = .ok (.aload_n 0, 1) := by decide +kernel
theorem dkeep_65 : decode cX8_keep 65 = .ok (.getfield 29, 3) := by decide +kernel
theorem dkeep_68 : decode cX8_keep 68 = .ok (.iload_n 2, 1) := by decide +kernel
theorem dkeep_69 : decode cX8_keep 69 = .ok (.aaload, 1) := by decide +kernel
theorem dkeep_70 : decode cX8_keep 70 = .ok (.aload_n 3, 1) := by decide +kernel
theorem dkeep_71 : decode cX8_keep 71 = .ok (.getfield 86, 3) := by decide +kernel
theorem dkeep_74 : decode cX8_keep 74 = .ok (.invokevirtual 61, 3) := by decide +kernel
theorem dkeep_77 : decode cX8_keep 77 = .ok (.goto 32, 3) := by decide +kernel
theorem dkeep_80 : decode cX8_keep 80 = .ok (.aload_n 0, 1) := by decide +kernel
theorem dkeep_81 : decode cX8_keep 81 = .ok (.getfield 36, 3) := by decide +kernel
theorem dkeep_84 : decode cX8_keep 84 = .ok (.iload_n 2, 1) := by decide +kernel
theorem dkeep_85 : decode cX8_keep 85 = .ok (.aaload, 1) := by decide +kernel
theorem dkeep_86 : decode cX8_keep 86 = .ok (.aload_n 3, 1) := by decide +kernel
theorem dkeep_87 : decode cX8_keep 87 = .ok (.getfield 90, 3) := by decide +kernel
theorem dkeep_90 : decode cX8_keep 90 = .ok (.invokevirtual 64, 3) := by decide +kernel
theorem dkeep_93 : decode cX8_keep 93 = .ok (.goto 16, 3) := by decide +kernel
theorem dkeep_96 : decode cX8_keep 96 = .ok (.aload_n 0, 1) := by decide +kernel
theorem dkeep_97 : decode cX8_keep 97 = .ok (.getfield 43, 3) := by decide +kernel
theorem dkeep_100 : decode cX8_keep 100 = .ok (.iload_n 2, 1) := by decide +kernel
theorem dkeep_101 : decode cX8_keep 101 = .ok (.aaload, 1) := by decide +kernel
theorem dkeep_102 : decode cX8_keep 102 = .ok (.aload_n 3, 1) := by decide +kernel
theorem dkeep_103 : decode cX8_keep 103 = .ok (.getfield 94, 3) := by decide +kernel
theorem dkeep_106 : decode cX8_keep 106 = .ok (.invokevirtual 67, 3) := by decide +kernel
theorem dkeep_109 : decode cX8_keep 109 = .ok (.aload_n 0, 1) := by decide +kernel
theorem dkeep_110 : decode cX8_keep 110 = .ok (.getfield 15, 3) := by decide +kernel
theorem dkeep_113 : decode cX8_keep 113 = .ok (.iload_n 1, 1) := by decide +kernel
theorem dkeep_114 : decode cX8_keep 114 = .ok (.aload_n 0, 1) := by decide +kernel
theorem dkeep_115 : decode cX8_keep 115 = .ok (.getfield 15, 3) := by decide +kernel
theorem dkeep_118 : decode cX8_keep 118 = .ok (.iload_n 1, 1) := by decide +kernel
theorem dkeep_119 : decode cX8_keep 119 = .ok (.iaload, 1) := by decide +kernel
theorem dkeep_120 : decode cX8_keep 120 = .ok (.iload_n 2, 1) := by decide +kernel
theorem dkeep_121 : decode cX8_keep 121 = .ok (.iconst 1, 1) := by decide +kernel
theorem dkeep_122 : decode cX8_keep 122 = .ok (.iadd, 1) := by decide +kernel
theorem dkeep_123 : decode cX8_keep 123 = .ok (.invokestatic 98, 3) := by decide +kernel
theorem dkeep_126 : decode cX8_keep 126 = .ok (.iastore, 1) := by decide +kernel
theorem dkeep_127 : decode cX8_keep 127 = .ok (.return_, 1) := by decide +kernel
def is_keep : Nat → List Nat := fun d => []
set_option maxRecDepth 100000 in
def b_keep_109 (J : Nat → List qV → List qV → qW → Prop) (Q : qR) : qK := x_aload 0 (x_get 8 1 (x_iload 1 (x_aload 0 (x_get 8 1 (x_iload 1 (x_iald (x_iload 2 (x_int 1 (x_iadd (x_max (x_iast (x_vret Q))))))))))))
set_option maxRecDepth 100000 in
theorem s_keep_109 {p : Program} {l : Launch} {e : Env} {R : Room} {s : State} {m : MethodId} {args : Array Value} {below : List Frame} {meth : Method} {c : Code} {nW : Nat} {dC : Nat → ClassId} {dI : Nat → Nat → Nat} {k : Nat → ClassId} {g : Nat → Nat} {A : Nat → Prop} {J : Nat → List qV → List qV → qW → Prop} {Q : qR} (X : q_X p R s m args meth c cX8_keep 4 nW 2 89 RX8 none dC dI k g A) (hJ : ∀ d : Nat, q_Sd p l e R s m args below meth c 4 nW dC dI k g A (MQ below (q_post (dC, dI) k g nW Q A) args s 0 0 A) d (x_cut (is_keep d) (J d))) : q_Sd p l e R s m args below meth c 4 nW dC dI k g A (MQ below (q_post (dC, dI) k g nW Q A) args s 0 0 A) 109 (b_keep_109 J Q) := by
  unfold b_keep_109
  refine s_aload_n X rfl dkeep_109 ?_
  refine s_get X (T := TX8) (C := RX8) (N := 9) tu_X8 rfl (by decide) tw_251 dkeep_110 ?_
  refine s_iload_n X rfl dkeep_113 ?_
  refine s_aload_n X rfl dkeep_114 ?_
  refine s_get X (T := TX8) (C := RX8) (N := 9) tu_X8 rfl (by decide) tw_251 dkeep_115 ?_
  refine s_iload_n X rfl dkeep_118 ?_
  refine s_iald X dkeep_119 ?_
  refine s_iload_n X rfl dkeep_120 ?_
  refine s_iconst X ⟨by decide, by decide⟩ dkeep_121 ?_
  refine s_iadd X dkeep_122 ?_
  refine s_max X tw_530 tw_531 tw_135 tw_532 ⟨by decide, by decide⟩ dkeep_123 ?_
  refine s_iast X dkeep_126 ?_
  exact s_vret X dkeep_127
set_option maxRecDepth 100000 in
def b_keep_87 (J : Nat → List qV → List qV → qW → Prop) (Q : qR) : qK := x_get 6 2 (x_calla 3 2 sX_cpL (b_keep_109 J Q))
set_option maxRecDepth 100000 in
theorem s_keep_87 {p : Program} {l : Launch} {e : Env} {R : Room} {s : State} {m : MethodId} {args : Array Value} {below : List Frame} {meth : Method} {c : Code} {nW : Nat} {dC : Nat → ClassId} {dI : Nat → Nat → Nat} {k : Nat → ClassId} {g : Nat → Nat} {A : Nat → Prop} {J : Nat → List qV → List qV → qW → Prop} {Q : qR} (X : q_X p R s m args meth c cX8_keep 4 nW 2 89 RX8 none dC dI k g A) (hJ : ∀ d : Nat, q_Sd p l e R s m args below meth c 4 nW dC dI k g A (MQ below (q_post (dC, dI) k g nW Q A) args s 0 0 A) d (x_cut (is_keep d) (J d))) : q_Sd p l e R s m args below meth c 4 nW dC dI k g A (MQ below (q_post (dC, dI) k g nW Q A) args s 0 0 A) 87 (b_keep_87 J Q) := by
  unfold b_keep_87
  refine s_get X (T := TX6) (C := RX6) (N := 15) tu_X6 rfl (by decide) tw_272 dkeep_87 ?_
  refine s_calla X (mX_cpL l) tw_520 tw_521 tw_522 tw_126 tw_523 rfl (by decide +kernel) ⟨by decide, by decide⟩ spX_mo dkeep_90 ?_
  refine s_goto X (tgt := 109) dkeep_93 (by decide) ?_
  exact s_keep_109 X hJ
set_option maxRecDepth 100000 in
def b_keep_18 (J : Nat → List qV → List qV → qW → Prop) (Q : qR) : qK := x_vret Q
set_option maxRecDepth 100000 in
theorem s_keep_18 {p : Program} {l : Launch} {e : Env} {R : Room} {s : State} {m : MethodId} {args : Array Value} {below : List Frame} {meth : Method} {c : Code} {nW : Nat} {dC : Nat → ClassId} {dI : Nat → Nat → Nat} {k : Nat → ClassId} {g : Nat → Nat} {A : Nat → Prop} {J : Nat → List qV → List qV → qW → Prop} {Q : qR} (X : q_X p R s m args meth c cX8_keep 4 nW 2 89 RX8 none dC dI k g A) (hJ : ∀ d : Nat, q_Sd p l e R s m args below meth c 4 nW dC dI k g A (MQ below (q_post (dC, dI) k g nW Q A) args s 0 0 A) d (x_cut (is_keep d) (J d))) : q_Sd p l e R s m args below meth c 4 nW dC dI k g A (MQ below (q_post (dC, dI) k g nW Q A) args s 0 0 A) 18 (b_keep_18 J Q) := by
  unfold b_keep_18
  exact s_vret X dkeep_18
set_option maxRecDepth 100000 in
def b_keep_0 (J : Nat → List qV → List qV → qW → Prop) (Q : qR) : qK := x_iload 2 (x_if_lt (b_keep_18 J Q) (x_iload 2 (x_int 2 (x_icmp_ge (b_keep_18 J Q) (x_iload 1 (x_if_lt (b_keep_18 J Q) (x_iload 1 (x_int 4 (x_icmp_lt (x_iload 1 (x_sw 0 2 [x_aload 0 (x_get 8 2 (x_iload 2 (x_aald (x_aload 3 (x_get 6 0 (x_calla 0 2 sX_cpB (b_keep_109 J Q))))))), x_aload 0 (x_get 8 3 (x_iload 2 (x_aald (x_aload 3 (x_get 6 1 (x_calla 10 2 sX_cpY (b_keep_109 J Q))))))), x_aload 0 (x_get 8 4 (x_iload 2 (x_aald (x_aload 3 (b_keep_87 J Q)))))] (x_aload 0 (x_get 8 5 (x_iload 2 (x_aald (x_aload 3 (x_get 6 3 (x_calla 7 2 sX_cpS (b_keep_109 J Q)))))))))) (b_keep_18 J Q))))))))))
set_option maxRecDepth 100000 in
theorem s_keep_0 {p : Program} {l : Launch} {e : Env} {R : Room} {s : State} {m : MethodId} {args : Array Value} {below : List Frame} {meth : Method} {c : Code} {nW : Nat} {dC : Nat → ClassId} {dI : Nat → Nat → Nat} {k : Nat → ClassId} {g : Nat → Nat} {A : Nat → Prop} {J : Nat → List qV → List qV → qW → Prop} {Q : qR} (X : q_X p R s m args meth c cX8_keep 4 nW 2 89 RX8 none dC dI k g A) (hJ : ∀ d : Nat, q_Sd p l e R s m args below meth c 4 nW dC dI k g A (MQ below (q_post (dC, dI) k g nW Q A) args s 0 0 A) d (x_cut (is_keep d) (J d))) : q_Sd p l e R s m args below meth c 4 nW dC dI k g A (MQ below (q_post (dC, dI) k g nW Q A) args s 0 0 A) 0 (b_keep_0 J Q) := by
  unfold b_keep_0
  refine s_iload_n X rfl dkeep_0 ?_
  refine s_if_lt X (tgt := 18) dkeep_1 (by decide) ?_ ?_
  · exact s_keep_18 X hJ
  · refine s_iload_n X rfl dkeep_4 ?_
    refine s_iconst X ⟨by decide, by decide⟩ dkeep_5 ?_
    refine s_icmp_ge X (tgt := 18) dkeep_6 (by decide) ?_ ?_
    · exact s_keep_18 X hJ
    · refine s_iload_n X rfl dkeep_9 ?_
      refine s_if_lt X (tgt := 18) dkeep_10 (by decide) ?_ ?_
      · exact s_keep_18 X hJ
      · refine s_iload_n X rfl dkeep_13 ?_
        refine s_iconst X ⟨by decide, by decide⟩ dkeep_14 ?_
        refine s_icmp_lt X (tgt := 19) dkeep_15 (by decide) ?_ ?_
        · refine s_iload_n X rfl dkeep_19 ?_
          refine s_sw X (ts := [48, 64, 80]) (td := 96) dkeep_20 (by decide) (by decide) (by decide) rfl ?_ ?_
          · intro i t K ht hK
            match i, ht, hK with
            | 0, ht, hK =>
              cases ht
              cases hK
              refine s_aload_n X rfl dkeep_48 ?_
              refine s_get X (T := TX8) (C := RX8) (N := 9) tu_X8 rfl (by decide) tw_253 dkeep_49 ?_
              refine s_iload_n X rfl dkeep_52 ?_
              refine s_aald X dkeep_53 ?_
              refine s_aload_n X rfl dkeep_54 ?_
              refine s_get X (T := TX6) (C := RX6) (N := 15) tu_X6 rfl (by decide) tw_268 dkeep_55 ?_
              refine s_calla X (mX_cpB l) tw_511 tw_512 tw_513 tw_122 tw_514 rfl (by decide +kernel) ⟨by decide, by decide⟩ spX_mo dkeep_58 ?_
              refine s_goto X (tgt := 109) dkeep_61 (by decide) ?_
              exact s_keep_109 X hJ
            | 1, ht, hK =>
              cases ht
              cases hK
              refine s_aload_n X rfl dkeep_64 ?_
              refine s_get X (T := TX8) (C := RX8) (N := 9) tu_X8 rfl (by decide) tw_254 dkeep_65 ?_
              refine s_iload_n X rfl dkeep_68 ?_
              refine s_aald X dkeep_69 ?_
              refine s_aload_n X rfl dkeep_70 ?_
              refine s_get X (T := TX6) (C := RX6) (N := 15) tu_X6 rfl (by decide) tw_270 dkeep_71 ?_
              refine s_calla X (mX_cpY l) tw_515 tw_516 tw_517 tw_125 tw_518 rfl (by decide +kernel) ⟨by decide, by decide⟩ spX_mo dkeep_74 ?_
              refine s_goto X (tgt := 109) dkeep_77 (by decide) ?_
              exact s_keep_109 X hJ
            | 2, ht, hK =>
              cases ht
              cases hK
              refine s_aload_n X rfl dkeep_80 ?_
              refine s_get X (T := TX8) (C := RX8) (N := 9) tu_X8 rfl (by decide) tw_255 dkeep_81 ?_
              refine s_iload_n X rfl dkeep_84 ?_
              refine s_aald X dkeep_85 ?_
              refine s_aload_n X rfl dkeep_86 ?_
              exact s_keep_87 X hJ
            | i + 3, ht, hK => exact absurd ht (by simp)
          · refine s_aload_n X rfl dkeep_96 ?_
            refine s_get X (T := TX8) (C := RX8) (N := 9) tu_X8 rfl (by decide) tw_256 dkeep_97 ?_
            refine s_iload_n X rfl dkeep_100 ?_
            refine s_aald X dkeep_101 ?_
            refine s_aload_n X rfl dkeep_102 ?_
            refine s_get X (T := TX6) (C := RX6) (N := 15) tu_X6 rfl (by decide) tw_274 dkeep_103 ?_
            refine s_calla X (mX_cpS l) tw_525 tw_526 tw_527 tw_127 tw_528 rfl (by decide +kernel) ⟨by decide, by decide⟩ spX_mo dkeep_106 ?_
            exact s_keep_109 X hJ
        · exact s_keep_18 X hJ

def sX_keep : qS := spX (fun av => ∃ a b : Int, av = [q2 1, q1 a, q1 b, q2 45] ∧ (0 ≤ a ∧ a ≤ 3) ∧ (0 ≤ b ∧ b ≤ 1)) (fun F U av r F' U' => r = none ∧ ∃ a b : Int, av = [q2 1, q1 a, q1 b, q2 45] ∧ kpX F U F' U' a b)
set_option maxHeartbeats 4000000 in
set_option maxRecDepth 100000 in
theorem mX_keep (l : Launch) : q_M l yX8_keep cX8_keep 4 none 2 89 sX_keep := by
  refine q_meth (by decide) (fun av w Q h => by obtain ⟨_, _, _, ⟨a, b, rfl, ha, hb⟩, _⟩ := h; exact Nat.le_of_ble_eq_true rfl) ?_
  intro p e R s m args below meth c dC dI k g A av w Q hsp oka okw X
  obtain ⟨F, U, hPW, ⟨a, b, rfl, ha, hb⟩, hQ⟩ := hsp
  have o_a : -2147483648 ≤ a ∧ a ≤ 2147483647 := oka _ (List.mem_of_getElem? (i := 1) rfl)
  have o_b : -2147483648 ≤ b ∧ b ≤ 2147483647 := oka _ (List.mem_of_getElem? (i := 2) rfl)
  refine s_mono (s_keep_0 X (J := fun _ _ _ _ => False) (fun d => s_cutF)) ?_
  rintro lv st w' ⟨rfl, rfl, rfl⟩
  have hW := WS_0 hPW
  apply And.intro
  · intro h1
    exact hQ _ F U _ hW.1 hW.2.1 hW.2.2 (by exfalso; omega)
  · intro h1
    apply And.intro
    · intro h6
      exact hQ _ F U _ hW.1 hW.2.1 hW.2.2 (by exfalso; omega)
    · intro h6
      apply And.intro
      · intro h10
        exact hQ _ F U _ hW.1 hW.2.1 hW.2.2 (by exfalso; omega)
      · intro h10
        apply And.intro
        · intro h15
          apply And.intro
          · apply And.intro
            · intro h20
              obtain ⟨_, e_1, ln_1, fa_1, pl_1, rfl, i_1_0, g_1⟩ := hW.1 1 _ rfl
              refine p_get e_1 rfl ?_
              rcases (show b = 0 ∨ b = 1 by omega) with rfl | rfl
              · obtain ⟨_, e_2, rfl⟩ := hW.1 4 _ rfl
                refine p_aald e_2 rfl ⟨by omega, by omega⟩ ?_
                obtain ⟨_, e_3, rt_3, rln_3, rfa_3, rpl_3, rst_3, rnx_3, rtk_3, rnm_3, rnp_3, rnd_3, rfl, i_3_0, g_3, j_3⟩ := hW.1 45 _ rfl
                refine p_get e_3 rfl ?_
                obtain ⟨_, e_4, b0u0_4, b0u1_4, b0u2_4, b0u3_4, b0u4_4, rfl, i_4_0, g_4⟩ := hW.1 8 _ rfl
                refine p_callX (F := F) (U := U) (a := 8) (As := [q2 48]) (rest := []) hW rfl e_4 (Nat.le_of_ble_eq_true rfl) (by first | exact Or.inl rfl | exact Or.inr rfl) (fun r58 F58 U58 w hW hr58 => ?_)
                obtain ⟨rfl, p58, q58, c58⟩ := hr58
                cases q58
                obtain ⟨_, e_5, ln_5, fa_5, pl_5, rfl, i_5_0, g_5⟩ := hW.1 1 _ rfl
                refine p_get e_5 rfl ?_
                obtain ⟨_, e_6, ln_6, fa_6, pl_6, rfl, i_6_0, g_6⟩ := hW.1 1 _ rfl
                refine p_get e_6 rfl ?_
                obtain ⟨_, e_7, ct_7, rfl, i_7_0, g_7⟩ := hW.1 3 _ rfl
                refine p_iald e_7 ⟨by omega, by omega⟩ (fun z119 h119 => ?_)
                try have a119 := q_rg_at i_7_0 h119
                intro z122 h122
                replace h122 := e_add h122 (by omega)
                intro z123 h123
                obtain ⟨_, e_8, ct_8, rfl, i_8_0, g_8⟩ := hW.1 3 _ rfl
                refine p_iastG (C' := LC (fu F58 3 (q_up ct_8 (a : Int).toNat z123)) U58) hW e_8 ⟨by omega, by omega⟩ rfl (fun i hi => LC_ne (fu_c hi rfl) rfl) rfl (show PX_Tct ((fu F58 3 (q_up ct_8 (a : Int).toNat z123)) 3) _ from ⟨_, rfl, (by first | assumption | omega | exact q_rg_up (by assumption) (by omega) | exact q_rg_cpy (by assumption) (by assumption)), rfl⟩) (fun w hW => ?_)
                exact hQ _ (fu F58 3 (q_up ct_8 (a : Int).toNat z123)) U58 _ hW.1 hW.2.1 hW.2.2 ⟨rfl, _, _, rfl, ⟨F58, Or.inl ⟨by omega, c58⟩, kp_f g_8 g_7 h119 (by omega)⟩⟩
              · obtain ⟨_, e_2, rfl⟩ := hW.1 4 _ rfl
                refine p_aald e_2 rfl ⟨by omega, by omega⟩ ?_
                obtain ⟨_, e_9, rt_9, rln_9, rfa_9, rpl_9, rst_9, rnx_9, rtk_9, rnm_9, rnp_9, rnd_9, rfl, i_9_0, g_9, j_9⟩ := hW.1 45 _ rfl
                refine p_get e_9 rfl ?_
                obtain ⟨_, e_10, b1u0_10, b1u1_10, b1u2_10, b1u3_10, b1u4_10, rfl, i_10_0, g_10⟩ := hW.1 16 _ rfl
                refine p_callX (F := F) (U := U) (a := 16) (As := [q2 48]) (rest := []) hW rfl e_10 (Nat.le_of_ble_eq_true rfl) (by first | exact Or.inl rfl | exact Or.inr rfl) (fun r58 F58 U58 w hW hr58 => ?_)
                obtain ⟨rfl, p58, q58, c58⟩ := hr58
                cases q58
                obtain ⟨_, e_11, ln_11, fa_11, pl_11, rfl, i_11_0, g_11⟩ := hW.1 1 _ rfl
                refine p_get e_11 rfl ?_
                obtain ⟨_, e_12, ln_12, fa_12, pl_12, rfl, i_12_0, g_12⟩ := hW.1 1 _ rfl
                refine p_get e_12 rfl ?_
                obtain ⟨_, e_13, ct_13, rfl, i_13_0, g_13⟩ := hW.1 3 _ rfl
                refine p_iald e_13 ⟨by omega, by omega⟩ (fun z119 h119 => ?_)
                try have a119 := q_rg_at i_13_0 h119
                intro z122 h122
                replace h122 := e_add h122 (by omega)
                intro z123 h123
                obtain ⟨_, e_14, ct_14, rfl, i_14_0, g_14⟩ := hW.1 3 _ rfl
                refine p_iastG (C' := LC (fu F58 3 (q_up ct_14 (a : Int).toNat z123)) U58) hW e_14 ⟨by omega, by omega⟩ rfl (fun i hi => LC_ne (fu_c hi rfl) rfl) rfl (show PX_Tct ((fu F58 3 (q_up ct_14 (a : Int).toNat z123)) 3) _ from ⟨_, rfl, (by first | assumption | omega | exact q_rg_up (by assumption) (by omega) | exact q_rg_cpy (by assumption) (by assumption)), rfl⟩) (fun w hW => ?_)
                exact hQ _ (fu F58 3 (q_up ct_14 (a : Int).toNat z123)) U58 _ hW.1 hW.2.1 hW.2.2 ⟨rfl, _, _, rfl, ⟨F58, Or.inl ⟨by omega, c58⟩, kp_f g_14 g_13 h119 (by omega)⟩⟩
            apply And.intro
            · intro h20
              obtain ⟨_, e_15, ln_15, fa_15, pl_15, rfl, i_15_0, g_15⟩ := hW.1 1 _ rfl
              refine p_get e_15 rfl ?_
              rcases (show b = 0 ∨ b = 1 by omega) with rfl | rfl
              · obtain ⟨_, e_16, rfl⟩ := hW.1 5 _ rfl
                refine p_aald e_16 rfl ⟨by omega, by omega⟩ ?_
                obtain ⟨_, e_17, rt_17, rln_17, rfa_17, rpl_17, rst_17, rnx_17, rtk_17, rnm_17, rnp_17, rnd_17, rfl, i_17_0, g_17, j_17⟩ := hW.1 45 _ rfl
                refine p_get e_17 rfl ?_
                obtain ⟨_, e_18, y0d_18, rfl, i_18_0, g_18⟩ := hW.1 24 _ rfl
                refine p_callX (F := F) (U := U) (a := 24) (As := [q2 56]) (rest := []) hW rfl e_18 (Nat.le_of_ble_eq_true rfl) (by first | exact Or.inl rfl | exact Or.inr rfl) (fun r74 F74 U74 w hW hr74 => ?_)
                obtain ⟨rfl, p74, q74, c74⟩ := hr74
                cases q74
                obtain ⟨_, e_19, ln_19, fa_19, pl_19, rfl, i_19_0, g_19⟩ := hW.1 1 _ rfl
                refine p_get e_19 rfl ?_
                obtain ⟨_, e_20, ln_20, fa_20, pl_20, rfl, i_20_0, g_20⟩ := hW.1 1 _ rfl
                refine p_get e_20 rfl ?_
                obtain ⟨_, e_21, ct_21, rfl, i_21_0, g_21⟩ := hW.1 3 _ rfl
                refine p_iald e_21 ⟨by omega, by omega⟩ (fun z119 h119 => ?_)
                try have a119 := q_rg_at i_21_0 h119
                intro z122 h122
                replace h122 := e_add h122 (by omega)
                intro z123 h123
                obtain ⟨_, e_22, ct_22, rfl, i_22_0, g_22⟩ := hW.1 3 _ rfl
                refine p_iastG (C' := LC (fu F74 3 (q_up ct_22 (a : Int).toNat z123)) U74) hW e_22 ⟨by omega, by omega⟩ rfl (fun i hi => LC_ne (fu_c hi rfl) rfl) rfl (show PX_Tct ((fu F74 3 (q_up ct_22 (a : Int).toNat z123)) 3) _ from ⟨_, rfl, (by first | assumption | omega | exact q_rg_up (by assumption) (by omega) | exact q_rg_cpy (by assumption) (by assumption)), rfl⟩) (fun w hW => ?_)
                exact hQ _ (fu F74 3 (q_up ct_22 (a : Int).toNat z123)) U74 _ hW.1 hW.2.1 hW.2.2 ⟨rfl, _, _, rfl, ⟨F74, Or.inr (Or.inl ⟨by omega, c74⟩), kp_f g_22 g_21 h119 (by omega)⟩⟩
              · obtain ⟨_, e_16, rfl⟩ := hW.1 5 _ rfl
                refine p_aald e_16 rfl ⟨by omega, by omega⟩ ?_
                obtain ⟨_, e_23, rt_23, rln_23, rfa_23, rpl_23, rst_23, rnx_23, rtk_23, rnm_23, rnp_23, rnd_23, rfl, i_23_0, g_23, j_23⟩ := hW.1 45 _ rfl
                refine p_get e_23 rfl ?_
                obtain ⟨_, e_24, y1d_24, rfl, i_24_0, g_24⟩ := hW.1 29 _ rfl
                refine p_callX (F := F) (U := U) (a := 29) (As := [q2 56]) (rest := []) hW rfl e_24 (Nat.le_of_ble_eq_true rfl) (by first | exact Or.inl rfl | exact Or.inr rfl) (fun r74 F74 U74 w hW hr74 => ?_)
                obtain ⟨rfl, p74, q74, c74⟩ := hr74
                cases q74
                obtain ⟨_, e_25, ln_25, fa_25, pl_25, rfl, i_25_0, g_25⟩ := hW.1 1 _ rfl
                refine p_get e_25 rfl ?_
                obtain ⟨_, e_26, ln_26, fa_26, pl_26, rfl, i_26_0, g_26⟩ := hW.1 1 _ rfl
                refine p_get e_26 rfl ?_
                obtain ⟨_, e_27, ct_27, rfl, i_27_0, g_27⟩ := hW.1 3 _ rfl
                refine p_iald e_27 ⟨by omega, by omega⟩ (fun z119 h119 => ?_)
                try have a119 := q_rg_at i_27_0 h119
                intro z122 h122
                replace h122 := e_add h122 (by omega)
                intro z123 h123
                obtain ⟨_, e_28, ct_28, rfl, i_28_0, g_28⟩ := hW.1 3 _ rfl
                refine p_iastG (C' := LC (fu F74 3 (q_up ct_28 (a : Int).toNat z123)) U74) hW e_28 ⟨by omega, by omega⟩ rfl (fun i hi => LC_ne (fu_c hi rfl) rfl) rfl (show PX_Tct ((fu F74 3 (q_up ct_28 (a : Int).toNat z123)) 3) _ from ⟨_, rfl, (by first | assumption | omega | exact q_rg_up (by assumption) (by omega) | exact q_rg_cpy (by assumption) (by assumption)), rfl⟩) (fun w hW => ?_)
                exact hQ _ (fu F74 3 (q_up ct_28 (a : Int).toNat z123)) U74 _ hW.1 hW.2.1 hW.2.2 ⟨rfl, _, _, rfl, ⟨F74, Or.inr (Or.inl ⟨by omega, c74⟩), kp_f g_28 g_27 h119 (by omega)⟩⟩
            apply And.intro
            · intro h20
              obtain ⟨_, e_29, ln_29, fa_29, pl_29, rfl, i_29_0, g_29⟩ := hW.1 1 _ rfl
              refine p_get e_29 rfl ?_
              rcases (show b = 0 ∨ b = 1 by omega) with rfl | rfl
              · obtain ⟨_, e_30, rfl⟩ := hW.1 6 _ rfl
                refine p_aald e_30 rfl ⟨by omega, by omega⟩ ?_
                obtain ⟨_, e_31, rt_31, rln_31, rfa_31, rpl_31, rst_31, rnx_31, rtk_31, rnm_31, rnp_31, rnd_31, rfl, i_31_0, g_31, j_31⟩ := hW.1 45 _ rfl
                refine p_get e_31 rfl ?_
                obtain ⟨_, e_32, l0o_32, rfl, g_32⟩ := hW.1 34 _ rfl
                refine p_callX (F := F) (U := U) (a := 34) (As := [q2 61]) (rest := []) hW rfl e_32 (Nat.le_of_ble_eq_true rfl) (by first | exact Or.inl rfl | exact Or.inr rfl) (fun r90 F90 U90 w hW hr90 => ?_)
                obtain ⟨rfl, p90, q90, c90⟩ := hr90
                cases q90
                obtain ⟨_, e_33, ln_33, fa_33, pl_33, rfl, i_33_0, g_33⟩ := hW.1 1 _ rfl
                refine p_get e_33 rfl ?_
                obtain ⟨_, e_34, ln_34, fa_34, pl_34, rfl, i_34_0, g_34⟩ := hW.1 1 _ rfl
                refine p_get e_34 rfl ?_
                obtain ⟨_, e_35, ct_35, rfl, i_35_0, g_35⟩ := hW.1 3 _ rfl
                refine p_iald e_35 ⟨by omega, by omega⟩ (fun z119 h119 => ?_)
                try have a119 := q_rg_at i_35_0 h119
                intro z122 h122
                replace h122 := e_add h122 (by omega)
                intro z123 h123
                obtain ⟨_, e_36, ct_36, rfl, i_36_0, g_36⟩ := hW.1 3 _ rfl
                refine p_iastG (C' := LC (fu F90 3 (q_up ct_36 (a : Int).toNat z123)) U90) hW e_36 ⟨by omega, by omega⟩ rfl (fun i hi => LC_ne (fu_c hi rfl) rfl) rfl (show PX_Tct ((fu F90 3 (q_up ct_36 (a : Int).toNat z123)) 3) _ from ⟨_, rfl, (by first | assumption | omega | exact q_rg_up (by assumption) (by omega) | exact q_rg_cpy (by assumption) (by assumption)), rfl⟩) (fun w hW => ?_)
                exact hQ _ (fu F90 3 (q_up ct_36 (a : Int).toNat z123)) U90 _ hW.1 hW.2.1 hW.2.2 ⟨rfl, _, _, rfl, ⟨F90, Or.inr (Or.inr (Or.inl ⟨by omega, c90⟩)), kp_f g_36 g_35 h119 (by omega)⟩⟩
              · obtain ⟨_, e_30, rfl⟩ := hW.1 6 _ rfl
                refine p_aald e_30 rfl ⟨by omega, by omega⟩ ?_
                obtain ⟨_, e_37, rt_37, rln_37, rfa_37, rpl_37, rst_37, rnx_37, rtk_37, rnm_37, rnp_37, rnd_37, rfl, i_37_0, g_37, j_37⟩ := hW.1 45 _ rfl
                refine p_get e_37 rfl ?_
                obtain ⟨_, e_38, l1o_38, rfl, g_38⟩ := hW.1 36 _ rfl
                refine p_callX (F := F) (U := U) (a := 36) (As := [q2 61]) (rest := []) hW rfl e_38 (Nat.le_of_ble_eq_true rfl) (by first | exact Or.inl rfl | exact Or.inr rfl) (fun r90 F90 U90 w hW hr90 => ?_)
                obtain ⟨rfl, p90, q90, c90⟩ := hr90
                cases q90
                obtain ⟨_, e_39, ln_39, fa_39, pl_39, rfl, i_39_0, g_39⟩ := hW.1 1 _ rfl
                refine p_get e_39 rfl ?_
                obtain ⟨_, e_40, ln_40, fa_40, pl_40, rfl, i_40_0, g_40⟩ := hW.1 1 _ rfl
                refine p_get e_40 rfl ?_
                obtain ⟨_, e_41, ct_41, rfl, i_41_0, g_41⟩ := hW.1 3 _ rfl
                refine p_iald e_41 ⟨by omega, by omega⟩ (fun z119 h119 => ?_)
                try have a119 := q_rg_at i_41_0 h119
                intro z122 h122
                replace h122 := e_add h122 (by omega)
                intro z123 h123
                obtain ⟨_, e_42, ct_42, rfl, i_42_0, g_42⟩ := hW.1 3 _ rfl
                refine p_iastG (C' := LC (fu F90 3 (q_up ct_42 (a : Int).toNat z123)) U90) hW e_42 ⟨by omega, by omega⟩ rfl (fun i hi => LC_ne (fu_c hi rfl) rfl) rfl (show PX_Tct ((fu F90 3 (q_up ct_42 (a : Int).toNat z123)) 3) _ from ⟨_, rfl, (by first | assumption | omega | exact q_rg_up (by assumption) (by omega) | exact q_rg_cpy (by assumption) (by assumption)), rfl⟩) (fun w hW => ?_)
                exact hQ _ (fu F90 3 (q_up ct_42 (a : Int).toNat z123)) U90 _ hW.1 hW.2.1 hW.2.2 ⟨rfl, _, _, rfl, ⟨F90, Or.inr (Or.inr (Or.inl ⟨by omega, c90⟩)), kp_f g_42 g_41 h119 (by omega)⟩⟩
            exact trivial
          · intro h20
            obtain ⟨_, e_43, ln_43, fa_43, pl_43, rfl, i_43_0, g_43⟩ := hW.1 1 _ rfl
            refine p_get e_43 rfl ?_
            rcases (show b = 0 ∨ b = 1 by omega) with rfl | rfl
            · obtain ⟨_, e_44, rfl⟩ := hW.1 7 _ rfl
              refine p_aald e_44 rfl ⟨by omega, by omega⟩ ?_
              obtain ⟨_, e_45, rt_45, rln_45, rfa_45, rpl_45, rst_45, rnx_45, rtk_45, rnm_45, rnp_45, rnd_45, rfl, i_45_0, g_45, j_45⟩ := hW.1 45 _ rfl
              refine p_get e_45 rfl ?_
              obtain ⟨_, e_46, s0c_46, rfl, i_46_0, g_46⟩ := hW.1 38 _ rfl
              refine p_callX (F := F) (U := U) (a := 38) (As := [q2 63]) (rest := []) hW rfl e_46 (Nat.le_of_ble_eq_true rfl) (by first | exact Or.inl rfl | exact Or.inr rfl) (fun r106 F106 U106 w hW hr106 => ?_)
              obtain ⟨rfl, p106, q106, c106⟩ := hr106
              cases q106
              obtain ⟨_, e_47, ln_47, fa_47, pl_47, rfl, i_47_0, g_47⟩ := hW.1 1 _ rfl
              refine p_get e_47 rfl ?_
              obtain ⟨_, e_48, ln_48, fa_48, pl_48, rfl, i_48_0, g_48⟩ := hW.1 1 _ rfl
              refine p_get e_48 rfl ?_
              obtain ⟨_, e_49, ct_49, rfl, i_49_0, g_49⟩ := hW.1 3 _ rfl
              refine p_iald e_49 ⟨by omega, by omega⟩ (fun z119 h119 => ?_)
              try have a119 := q_rg_at i_49_0 h119
              intro z122 h122
              replace h122 := e_add h122 (by omega)
              intro z123 h123
              obtain ⟨_, e_50, ct_50, rfl, i_50_0, g_50⟩ := hW.1 3 _ rfl
              refine p_iastG (C' := LC (fu F106 3 (q_up ct_50 (a : Int).toNat z123)) U106) hW e_50 ⟨by omega, by omega⟩ rfl (fun i hi => LC_ne (fu_c hi rfl) rfl) rfl (show PX_Tct ((fu F106 3 (q_up ct_50 (a : Int).toNat z123)) 3) _ from ⟨_, rfl, (by first | assumption | omega | exact q_rg_up (by assumption) (by omega) | exact q_rg_cpy (by assumption) (by assumption)), rfl⟩) (fun w hW => ?_)
              exact hQ _ (fu F106 3 (q_up ct_50 (a : Int).toNat z123)) U106 _ hW.1 hW.2.1 hW.2.2 ⟨rfl, _, _, rfl, ⟨F106, Or.inr (Or.inr (Or.inr ⟨by omega, c106⟩)), kp_f g_50 g_49 h119 (by omega)⟩⟩
            · obtain ⟨_, e_44, rfl⟩ := hW.1 7 _ rfl
              refine p_aald e_44 rfl ⟨by omega, by omega⟩ ?_
              obtain ⟨_, e_51, rt_51, rln_51, rfa_51, rpl_51, rst_51, rnx_51, rtk_51, rnm_51, rnp_51, rnd_51, rfl, i_51_0, g_51, j_51⟩ := hW.1 45 _ rfl
              refine p_get e_51 rfl ?_
              obtain ⟨_, e_52, s1c_52, rfl, i_52_0, g_52⟩ := hW.1 41 _ rfl
              refine p_callX (F := F) (U := U) (a := 41) (As := [q2 63]) (rest := []) hW rfl e_52 (Nat.le_of_ble_eq_true rfl) (by first | exact Or.inl rfl | exact Or.inr rfl) (fun r106 F106 U106 w hW hr106 => ?_)
              obtain ⟨rfl, p106, q106, c106⟩ := hr106
              cases q106
              obtain ⟨_, e_53, ln_53, fa_53, pl_53, rfl, i_53_0, g_53⟩ := hW.1 1 _ rfl
              refine p_get e_53 rfl ?_
              obtain ⟨_, e_54, ln_54, fa_54, pl_54, rfl, i_54_0, g_54⟩ := hW.1 1 _ rfl
              refine p_get e_54 rfl ?_
              obtain ⟨_, e_55, ct_55, rfl, i_55_0, g_55⟩ := hW.1 3 _ rfl
              refine p_iald e_55 ⟨by omega, by omega⟩ (fun z119 h119 => ?_)
              try have a119 := q_rg_at i_55_0 h119
              intro z122 h122
              replace h122 := e_add h122 (by omega)
              intro z123 h123
              obtain ⟨_, e_56, ct_56, rfl, i_56_0, g_56⟩ := hW.1 3 _ rfl
              refine p_iastG (C' := LC (fu F106 3 (q_up ct_56 (a : Int).toNat z123)) U106) hW e_56 ⟨by omega, by omega⟩ rfl (fun i hi => LC_ne (fu_c hi rfl) rfl) rfl (show PX_Tct ((fu F106 3 (q_up ct_56 (a : Int).toNat z123)) 3) _ from ⟨_, rfl, (by first | assumption | omega | exact q_rg_up (by assumption) (by omega) | exact q_rg_cpy (by assumption) (by assumption)), rfl⟩) (fun w hW => ?_)
              exact hQ _ (fu F106 3 (q_up ct_56 (a : Int).toNat z123)) U106 _ hW.1 hW.2.1 hW.2.2 ⟨rfl, _, _, rfl, ⟨F106, Or.inr (Or.inr (Or.inr ⟨by omega, c106⟩)), kp_f g_56 g_55 h119 (by omega)⟩⟩
        · intro h15
          exact hQ _ F U _ hW.1 hW.2.1 hW.2.2 (by exfalso; omega)
