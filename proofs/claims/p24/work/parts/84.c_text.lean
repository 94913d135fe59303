theorem dtext_0 : decode cX11_text 0 = .ok (.aload_n 0, 1) := by decide +kernel
theorem dtext_1 : decode cX11_text 1 = .ok (.getfield 10, 3) := by decide +kernel
theorem dtext_4 : decode cX11_text 4 = .ok (.getfield 62, 3) := by decide +kernel
theorem dtext_7 : decode cX11_text 7 = .ok (.istore_n 3, 1) := by decide +kernel
theorem dtext_8 : decode cX11_text 8 = .ok (.aload_n 0, 1) := by decide +kernel
theorem dtext_9 : decode cX11_text 9 = .ok (.getfield 10, 3) := by decide +kernel
theorem dtext_12 : decode cX11_text 12 = .ok (.iconst 0, 1) := by decide +kernel
theorem dtext_13 : decode cX11_text 13 = .ok (.putfield 62, 3) := by decide +kernel
theorem dtext_16 : decode cX11_text 16 = .ok (.aload_n 0, 1) := by decide +kernel
theorem dtext_17 : decode cX11_text 17 = .ok (.getfield 10, 3) := by decide +kernel
theorem dtext_20 : decode cX11_text 20 = .ok (.iconst 0, 1) := by decide +kernel
theorem dtext_21 : decode cX11_text 21 = .ok (.putfield 70, 3) := by decide +kernel
theorem dtext_24 : decode cX11_text 24 = .ok (.aload_n 0, 1) := by decide +kernel
theorem dtext_25 : decode cX11_text 25 = .ok (.getfield 10, 3) := by decide +kernel
theorem dtext_28 : decode cX11_text 28 = .ok (.iconst (-1), 1) := by decide +kernel
theorem dtext_29 : decode cX11_text 29 = .ok (.putfield 73, 3) := by decide +kernel
theorem dtext_32 : decode cX11_text 32 = .ok (.aload_n 0, 1) := by decide +kernel
theorem dtext_33 : decode cX11_text 33 = .ok (.getfield 10, 3) := by decide +kernel
theorem dtext_36 : decode cX11_text 36 = .ok (.iload_n 1, 1) := by decide +kernel
theorem dtext_37 : decode cX11_text 37 = .ok (.iload_n 2, 1) := by decide +kernel
theorem dtext_38 : decode cX11_text 38 = .ok (.invokevirtual 76, 3) := by decide +kernel
theorem dtext_41 : decode cX11_text 41 = .ok (.istore 4, 2) := by decide +kernel
theorem dtext_43 : decode cX11_text 43 = .ok (.iload 4, 2) := by decide +kernel
theorem dtext_45 : decode cX11_text 45 = .ok (.iconst (-1), 1) := by decide +kernel
theorem dtext_46 : decode cX11_text 46 = .ok (.if_icmp .ne 6, 3) := by decide +kernel
theorem dtext_49 : decode cX11_text 49 = .ok (.bipush (-2), 2) := by decide +kernel
theorem dtext_51 : decode cX11_text 51 = .ok (.ireturn, 1) := by decide +kernel
theorem dtext_52 : decode cX11_text 52 = .ok (.aload_n 0, 1) := by decide +kernel
theorem dtext_53 : decode cX11_text 53 = .ok (.getfield 23, 3) := by decide +kernel
theorem dtext_56 : decode cX11_text 56 = .ok (.iload_n 1, 1) := by decide +kernel
theorem dtext_57 : decode cX11_text 57 = .ok (.aload_n 0, 1) := by decide +kernel
theorem dtext_58 : decode cX11_text 58 = .ok (.getfield 10, 3) := by decide +kernel
theorem dtext_61 : decode cX11_text 61 = .ok (.getfield 80, 3) := by decide +kernel
theorem dtext_64 : decode cX11_text 64 = .ok (.iload_n 3, 1) := by decide +kernel
theorem dtext_65 : decode cX11_text 65 = .ok (.invokevirtual 84, 3) := by decide +kernel
theorem dtext_68 : decode cX11_text 68 = .ok (.aload_n 0, 1) := by decide +kernel
theorem dtext_69 : decode cX11_text 69 = .ok (.getfield 10, 3) := by decide +kernel
theorem dtext_72 : decode cX11_text 72 = .ok (.aload_n 0, 1) := by decide +kernel
theorem dtext_73 : decode cX11_text 73 = .ok (.getfield 23, 3) := by decide +kernel
theorem dtext_76 : decode cX11_text 76 = .ok (.getfield 88, 3) := by decide +kernel
theorem dtext_79 : decode cX11_text 79 = .ok (.putfield 70, 3) := by decide +kernel
theorem dtext_82 : decode cX11_text 82 = .ok (.aload_n 0, 1) := by decide +kernel
theorem dtext_83 : decode cX11_text 83 = .ok (.getfield 10, 3) := by decide +kernel
theorem dtext_86 : decode cX11_text 86 = .ok (.aload_n 0, 1) := by decide +kernel
theorem dtext_87 : decode cX11_text 87 = .ok (.getfield 23, 3) := by decide +kernel
theorem dtext_90 : decode cX11_text 90 = .ok (.getfield 89, 3) := by decide +kernel
theorem dtext_93 : decode cX11_text 93 = .ok (.putfield 73, 3) := by decide +kernel
theorem dtext_96 : decode cX11_text 96 = .ok (.aload_n 0, 1) := by decide +kernel
theorem dtext_97 : decode cX11_text 97 = .ok (.getfield 23, 3) := by decide +kernel
theorem dtext_100 : decode cX11_text 100 = .ok (.getfield 88, 3) := by decide +kernel
theorem dtext_103 : decode cX11_text 103 = .ok (.ifCond .eq 5, 3) := by decide +kernel
theorem dtext_106 : decode cX11_text 106 = .ok (.iconst (-1), 1) := by decide +kernel
theorem dtext_107 : decode cX11_text 107 = .ok (.ireturn, 1) := by decide +kernel
theorem dtext_108 : decode cX11_text 108 = .ok (.aload_n 0, 1) := by decide +kernel
theorem dtext_109 : decode cX11_text 109 = .ok (.getfield 10, 3) := by decide +kernel
theorem dtext_112 : decode cX11_text 112 = .ok (.iload_n 1, 1) := by decide +kernel
theorem dtext_113 : decode cX11_text 113 = .ok (.iload 4, 2) := by decide +kernel
theorem dtext_115 : decode cX11_text 115 = .ok (.aload_n 0, 1) := by decide +kernel
theorem dtext_116 : decode cX11_text 116 = .ok (.getfield 23, 3) := by decide +kernel
theorem dtext_119 : decode cX11_text 119 = .ok (.invokevirtual 90, 3) := by decide +kernel
theorem dtext_122 : decode cX11_text 122 = .ok (.iload 4, 2) := by decide +kernel
theorem dtext_124 : decode cX11_text 124 = .ok (.ireturn, 1) := by decide +kernel
def is_text : Nat → List Nat := fun d => []
set_option maxRecDepth 100000 in
def b_text_97 (J : Nat → List qV → List qV → qW → Prop) (Q : qR) : qK := x_get 11 2 (x_get 6 7 (x_if_eq (x_aload 0 (x_get 11 0 (x_iload 1 (x_iload 4 (x_aload 0 (x_get 11 2 (x_calla 8 4 sX_keep (x_iload 4 (x_iret Q))))))))) (x_int (-1) (x_iret Q))))
set_option maxRecDepth 100000 in
theorem s_text_97 {p : Program} {l : Launch} {e : Env} {R : Room} {s : State} {m : MethodId} {args : Array Value} {below : List Frame} {meth : Method} {c : Code} {nW : Nat} {dC : Nat → ClassId} {dI : Nat → Nat → Nat} {k : Nat → ClassId} {g : Nat → Nat} {A : Nat → Prop} {J : Nat → List qV → List qV → qW → Prop} {Q : qR} (X : q_X p R s m args meth c cX11_text 5 nW 9 198 RX11 (some .int) dC dI k g A) (hJ : ∀ d : Nat, q_Sd p l e R s m args below meth c 5 nW dC dI k g A (MQ below (q_post (dC, dI) k g nW Q A) args s 0 0 A) d (x_cut (is_text d) (J d))) : q_Sd p l e R s m args below meth c 5 nW dC dI k g A (MQ below (q_post (dC, dI) k g nW Q A) args s 0 0 A) 97 (b_text_97 J Q) := by
  unfold b_text_97
  refine s_get X (T := TX11) (C := RX11) (N := 8) tu_X11 rfl (by decide) tw_328 dtext_97 ?_
  refine s_get X (T := TX6) (C := RX6) (N := 15) tu_X6 rfl (by decide) tw_279 dtext_100 ?_
  refine s_if_eq X (tgt := 108) dtext_103 (by decide) ?_ ?_
  · refine s_aload_n X rfl dtext_108 ?_
    refine s_get X (T := TX11) (C := RX11) (N := 8) tu_X11 rfl (by decide) tw_326 dtext_109 ?_
    refine s_iload_n X rfl dtext_112 ?_
    refine s_iload X dtext_113 ?_
    refine s_aload_n X rfl dtext_115 ?_
    refine s_get X (T := TX11) (C := RX11) (N := 8) tu_X11 rfl (by decide) tw_328 dtext_116 ?_
    refine s_calla X (mX_keep l) tw_507 tw_508 tw_509 tw_121 tw_510 rfl (by decide +kernel) ⟨by decide, by decide⟩ spX_mo dtext_119 ?_
    refine s_iload X dtext_122 ?_
    exact s_iret X dtext_124
  · refine s_iconst X ⟨by decide, by decide⟩ dtext_106 ?_
    exact s_iret X dtext_107
set_option maxRecDepth 100000 in
def b_text_46 (J : Nat → List qV → List qV → qW → Prop) (Q : qR) : qK := x_icmp_ne (x_aload 0 (x_get 11 2 (x_iload 1 (x_aload 0 (x_get 11 0 (x_get 8 0 (x_iload 3 (x_calla 6 4 sX_read (x_aload 0 (x_get 11 0 (x_aload 0 (x_get 11 2 (x_get 6 7 (x_put 8 7 q_oki (x_aload 0 (x_get 11 0 (x_aload 0 (x_get 11 2 (x_get 6 8 (x_put 8 8 q_oki (x_aload 0 (b_text_97 J Q)))))))))))))))))))))) (x_int (-2) (x_iret Q))
set_option maxRecDepth 100000 in
theorem s_text_46 {p : Program} {l : Launch} {e : Env} {R : Room} {s : State} {m : MethodId} {args : Array Value} {below : List Frame} {meth : Method} {c : Code} {nW : Nat} {dC : Nat → ClassId} {dI : Nat → Nat → Nat} {k : Nat → ClassId} {g : Nat → Nat} {A : Nat → Prop} {J : Nat → List qV → List qV → qW → Prop} {Q : qR} (X : q_X p R s m args meth c cX11_text 5 nW 9 198 RX11 (some .int) dC dI k g A) (hJ : ∀ d : Nat, q_Sd p l e R s m args below meth c 5 nW dC dI k g A (MQ below (q_post (dC, dI) k g nW Q A) args s 0 0 A) d (x_cut (is_text d) (J d))) : q_Sd p l e R s m args below meth c 5 nW dC dI k g A (MQ below (q_post (dC, dI) k g nW Q A) args s 0 0 A) 46 (b_text_46 J Q) := by
  unfold b_text_46
  refine s_icmp_ne X (tgt := 52) dtext_46 (by decide) ?_ ?_
  · refine s_aload_n X rfl dtext_52 ?_
    refine s_get X (T := TX11) (C := RX11) (N := 8) tu_X11 rfl (by decide) tw_328 dtext_53 ?_
    refine s_iload_n X rfl dtext_56 ?_
    refine s_aload_n X rfl dtext_57 ?_
    refine s_get X (T := TX11) (C := RX11) (N := 8) tu_X11 rfl (by decide) tw_326 dtext_58 ?_
    refine s_get X (T := TX8) (C := RX8) (N := 9) tu_X8 rfl (by decide) tw_250 dtext_61 ?_
    refine s_iload_n X rfl dtext_64 ?_
    refine s_calla X (mX_read l) tw_357 tw_358 tw_359 tw_128 tw_360 rfl (by decide +kernel) ⟨by decide, by decide⟩ spX_mo dtext_65 ?_
    refine s_aload_n X rfl dtext_68 ?_
    refine s_get X (T := TX11) (C := RX11) (N := 8) tu_X11 rfl (by decide) tw_326 dtext_69 ?_
    refine s_aload_n X rfl dtext_72 ?_
    refine s_get X (T := TX11) (C := RX11) (N := 8) tu_X11 rfl (by decide) tw_328 dtext_73 ?_
    refine s_get X (T := TX6) (C := RX6) (N := 15) tu_X6 rfl (by decide) tw_279 dtext_76 ?_
    refine s_put X (T := TX8) (C := RX8) (N := 9) tu_X8 tyX8_ok nmX8 rfl (by decide) tw_260 rfl (by decide +kernel) q_oki_t dtext_79 ?_
    refine s_aload_n X rfl dtext_82 ?_
    refine s_get X (T := TX11) (C := RX11) (N := 8) tu_X11 rfl (by decide) tw_326 dtext_83 ?_
    refine s_aload_n X rfl dtext_86 ?_
    refine s_get X (T := TX11) (C := RX11) (N := 8) tu_X11 rfl (by decide) tw_328 dtext_87 ?_
    refine s_get X (T := TX6) (C := RX6) (N := 15) tu_X6 rfl (by decide) tw_281 dtext_90 ?_
    refine s_put X (T := TX8) (C := RX8) (N := 9) tu_X8 tyX8_ok nmX8 rfl (by decide) tw_262 rfl (by decide +kernel) q_oki_t dtext_93 ?_
    refine s_aload_n X rfl dtext_96 ?_
    exact s_text_97 X hJ
  · refine s_bipush X ⟨by decide, by decide⟩ (by decide) dtext_49 ?_
    exact s_iret X dtext_51
set_option maxRecDepth 100000 in
def b_text_0 (J : Nat → List qV → List qV → qW → Prop) (Q : qR) : qK := x_aload 0 (x_get 11 0 (x_get 8 6 (x_istore 3 (x_aload 0 (x_get 11 0 (x_int 0 (x_put 8 6 q_oki (x_aload 0 (x_get 11 0 (x_int 0 (x_put 8 7 q_oki (x_aload 0 (x_get 11 0 (x_int (-1) (x_put 8 8 q_oki (x_aload 0 (x_get 11 0 (x_iload 1 (x_iload 2 (x_calla 8 3 sX_placeFor (x_istore 4 (x_iload 4 (x_int (-1) (b_text_46 J Q))))))))))))))))))))))))
set_option maxRecDepth 100000 in
theorem s_text_0 {p : Program} {l : Launch} {e : Env} {R : Room} {s : State} {m : MethodId} {args : Array Value} {below : List Frame} {meth : Method} {c : Code} {nW : Nat} {dC : Nat → ClassId} {dI : Nat → Nat → Nat} {k : Nat → ClassId} {g : Nat → Nat} {A : Nat → Prop} {J : Nat → List qV → List qV → qW → Prop} {Q : qR} (X : q_X p R s m args meth c cX11_text 5 nW 9 198 RX11 (some .int) dC dI k g A) (hJ : ∀ d : Nat, q_Sd p l e R s m args below meth c 5 nW dC dI k g A (MQ below (q_post (dC, dI) k g nW Q A) args s 0 0 A) d (x_cut (is_text d) (J d))) : q_Sd p l e R s m args below meth c 5 nW dC dI k g A (MQ below (q_post (dC, dI) k g nW Q A) args s 0 0 A) 0 (b_text_0 J Q) := by
  unfold b_text_0
  refine s_aload_n X rfl dtext_0 ?_
  refine s_get X (T := TX11) (C := RX11) (N := 8) tu_X11 rfl (by decide) tw_326 dtext_1 ?_
  refine s_get X (T := TX8) (C := RX8) (N := 9) tu_X8 rfl (by decide) tw_257 dtext_4 ?_
  refine s_istore_n X rfl (by decide) dtext_7 ?_
  refine s_aload_n X rfl dtext_8 ?_
  refine s_get X (T := TX11) (C := RX11) (N := 8) tu_X11 rfl (by decide) tw_326 dtext_9 ?_
  refine s_iconst X ⟨by decide, by decide⟩ dtext_12 ?_
  refine s_put X (T := TX8) (C := RX8) (N := 9) tu_X8 tyX8_ok nmX8 rfl (by decide) tw_257 rfl (by decide +kernel) q_oki_t dtext_13 ?_
  refine s_aload_n X rfl dtext_16 ?_
  refine s_get X (T := TX11) (C := RX11) (N := 8) tu_X11 rfl (by decide) tw_326 dtext_17 ?_
  refine s_iconst X ⟨by decide, by decide⟩ dtext_20 ?_
  refine s_put X (T := TX8) (C := RX8) (N := 9) tu_X8 tyX8_ok nmX8 rfl (by decide) tw_260 rfl (by decide +kernel) q_oki_t dtext_21 ?_
  refine s_aload_n X rfl dtext_24 ?_
  refine s_get X (T := TX11) (C := RX11) (N := 8) tu_X11 rfl (by decide) tw_326 dtext_25 ?_
  refine s_iconst X ⟨by decide, by decide⟩ dtext_28 ?_
  refine s_put X (T := TX8) (C := RX8) (N := 9) tu_X8 tyX8_ok nmX8 rfl (by decide) tw_262 rfl (by decide +kernel) q_oki_t dtext_29 ?_
  refine s_aload_n X rfl dtext_32 ?_
  refine s_get X (T := TX11) (C := RX11) (N := 8) tu_X11 rfl (by decide) tw_326 dtext_33 ?_
  refine s_iload_n X rfl dtext_36 ?_
  refine s_iload_n X rfl dtext_37 ?_
  refine s_calla X (mX_placeFor l) tw_350 tw_351 tw_352 tw_121 tw_353 rfl (by decide +kernel) ⟨by decide, by decide⟩ spX_mo dtext_38 ?_
  refine s_istore X (by decide) dtext_41 ?_
  refine s_iload X dtext_43 ?_
  refine s_iconst X ⟨by decide, by decide⟩ dtext_45 ?_
  exact s_text_46 X hJ

def sX_text : qS := spX (fun av => ∃ a b : Int, av = [q2 0, q1 a, q1 b]) (fun F U av r F' U' => ∃ a b z : Int, av = [q2 0, q1 a, q1 b] ∧ r = some (q1 z) ∧ txC F U F' U' a b z)
set_option maxHeartbeats 4000000 in
set_option maxRecDepth 100000 in
theorem mX_text (l : Launch) : q_M l yX11_text cX11_text 5 (some .int) 9 198 sX_text := by
  refine q_meth (by decide) (fun av w Q h => by obtain ⟨_, _, _, ⟨a, b, rfl⟩, _⟩ := h; exact Nat.le_of_ble_eq_true rfl) ?_
  intro p e R s m args below meth c dC dI k g A av w Q hsp oka okw X
  obtain ⟨F, U, hPW, ⟨a, b, rfl⟩, hQ⟩ := hsp
  have o_a : -2147483648 ≤ a ∧ a ≤ 2147483647 := oka _ (List.mem_of_getElem? (i := 1) rfl)
  have o_b : -2147483648 ≤ b ∧ b ≤ 2147483647 := oka _ (List.mem_of_getElem? (i := 2) rfl)
  refine s_mono (s_text_0 X (J := fun _ _ _ _ => False) (fun d => s_cutF)) ?_
  rintro lv st w' ⟨rfl, rfl, rfl⟩
  have hW := WS_0 hPW
  obtain ⟨_, e_1, rfl⟩ := hW.1 0 _ rfl
  refine p_get e_1 rfl ?_
  obtain ⟨_, e_2, ln_2, fa_2, pl_2, rfl, i_2_0, g_2⟩ := hW.1 1 _ rfl
  refine p_get e_2 rfl ?_
  obtain ⟨_, e_3, rfl⟩ := hW.1 0 _ rfl
  refine p_get e_3 rfl ?_
  obtain ⟨_, e_4, ln_4, fa_4, pl_4, rfl, i_4_0, g_4⟩ := hW.1 1 _ rfl
  refine p_putG (C' := LC F (fw U 1 0 0)) hW e_4 rfl trivial rfl (fun i hi => LC_ne rfl (fw_c hi rfl)) rfl (show PX_T ((fw U 1 0 0) 1) _ from ⟨_, _, _, rfl, (by first | assumption | omega | exact q_rg_up (by assumption) (by omega) | exact q_rg_cpy (by assumption) (by assumption)), ⟨rfl, g_4.2.1, g_4.2.2⟩⟩) (fun w hW => ?_)
  obtain ⟨_, e_5, rfl⟩ := hW.1 0 _ rfl
  refine p_get e_5 rfl ?_
  obtain ⟨_, e_6, ln_6, fa_6, pl_6, rfl, i_6_0, g_6⟩ := hW.1 1 _ rfl
  refine p_putG (C' := LC F (fw (fw U 1 0 0) 1 1 0)) hW e_6 rfl trivial rfl (fun i hi => LC_ne rfl (fw_c hi rfl)) rfl (show PX_T ((fw (fw U 1 0 0) 1 1 0) 1) _ from ⟨_, _, _, rfl, (by first | assumption | omega | exact q_rg_up (by assumption) (by omega) | exact q_rg_cpy (by assumption) (by assumption)), ⟨g_6.1, rfl, g_6.2.2⟩⟩) (fun w hW => ?_)
  obtain ⟨_, e_7, rfl⟩ := hW.1 0 _ rfl
  refine p_get e_7 rfl ?_
  obtain ⟨_, e_8, ln_8, fa_8, pl_8, rfl, i_8_0, g_8⟩ := hW.1 1 _ rfl
  refine p_putG (C' := LC F (fw (fw (fw U 1 0 0) 1 1 0) 1 2 (-1))) hW e_8 rfl trivial rfl (fun i hi => LC_ne rfl (fw_c hi rfl)) rfl (show PX_T ((fw (fw (fw U 1 0 0) 1 1 0) 1 2 (-1)) 1) _ from ⟨_, _, _, rfl, (by first | assumption | omega | exact q_rg_up (by assumption) (by omega) | exact q_rg_cpy (by assumption) (by assumption)), ⟨g_8.1, g_8.2.1, rfl⟩⟩) (fun w hW => ?_)
  obtain ⟨_, e_9, rfl⟩ := hW.1 0 _ rfl
  refine p_get e_9 rfl ?_
  obtain ⟨_, e_10, ln_10, fa_10, pl_10, rfl, i_10_0, g_10⟩ := hW.1 1 _ rfl
  refine p_callX (F := F) (U := (fw (fw (fw U 1 0 0) 1 1 0) 1 2 (-1))) (a := 1) (As := [q1 a, q1 b]) (rest := []) hW rfl e_10 (Nat.le_of_ble_eq_true rfl) ⟨_, _, rfl⟩ (fun r38 F38 U38 w hW hr38 => ?_)
  obtain ⟨⟨eF38, eU38⟩, a9, b9, z38, e38, rfl, h38⟩ := hr38
  cases e38
  apply And.intro
  · intro h46
    obtain ⟨_, e_11, rfl⟩ := hW.1 0 _ rfl
    refine p_get e_11 rfl ?_
    obtain ⟨_, e_12, rfl⟩ := hW.1 0 _ rfl
    refine p_get e_12 rfl ?_
    obtain ⟨_, e_13, ln_13, fa_13, pl_13, rfl, i_13_0, g_13⟩ := hW.1 1 _ rfl
    refine p_get e_13 rfl ?_
    obtain ⟨_, e_14, rt_14, rln_14, rfa_14, rpl_14, rst_14, rnx_14, rtk_14, rnm_14, rnp_14, rnd_14, rfl, i_14_0, g_14, j_14⟩ := hW.1 45 _ rfl
    refine p_callX (F := F38) (U := U38) (a := 45) (As := [q1 a, q2 2, q1 ln_2]) (rest := []) hW rfl e_14 (Nat.le_of_ble_eq_true rfl) ⟨_, _, rfl, by omega, Pl_a h38 h46⟩ (fun r65 F65 U65 w hW hr65 => ?_)
    obtain ⟨rfl, a8, b8, e65, h65⟩ := hr65
    cases e65
    obtain ⟨_, e_15, rfl⟩ := hW.1 0 _ rfl
    refine p_get e_15 rfl ?_
    obtain ⟨_, e_16, rfl⟩ := hW.1 0 _ rfl
    refine p_get e_16 rfl ?_
    obtain ⟨_, e_17, rt_17, rln_17, rfa_17, rpl_17, rst_17, rnx_17, rtk_17, rnm_17, rnp_17, rnd_17, rfl, i_17_0, g_17, j_17⟩ := hW.1 45 _ rfl
    refine p_get e_17 rfl ?_
    obtain ⟨_, e_18, ln_18, fa_18, pl_18, rfl, i_18_0, g_18⟩ := hW.1 1 _ rfl
    refine p_putG (C' := LC F65 (fw U65 1 1 rfa_17)) hW e_18 rfl trivial rfl (fun i hi => LC_ne rfl (fw_c hi rfl)) rfl (show PX_T ((fw U65 1 1 rfa_17) 1) _ from ⟨_, _, _, rfl, (by first | assumption | omega | exact q_rg_up (by assumption) (by omega) | exact q_rg_cpy (by assumption) (by assumption)), ⟨g_18.1, rfl, g_18.2.2⟩⟩) (fun w hW => ?_)
    obtain ⟨_, e_19, rfl⟩ := hW.1 0 _ rfl
    refine p_get e_19 rfl ?_
    obtain ⟨_, e_20, rfl⟩ := hW.1 0 _ rfl
    refine p_get e_20 rfl ?_
    obtain ⟨_, e_21, rt_21, rln_21, rfa_21, rpl_21, rst_21, rnx_21, rtk_21, rnm_21, rnp_21, rnd_21, rfl, i_21_0, g_21, j_21⟩ := hW.1 45 _ rfl
    refine p_get e_21 rfl ?_
    obtain ⟨_, e_22, ln_22, fa_22, pl_22, rfl, i_22_0, g_22⟩ := hW.1 1 _ rfl
    refine p_putG (C' := LC F65 (fw (fw U65 1 1 rfa_17) 1 2 rpl_21)) hW e_22 rfl trivial rfl (fun i hi => LC_ne rfl (fw_c hi rfl)) rfl (show PX_T ((fw (fw U65 1 1 rfa_17) 1 2 rpl_21) 1) _ from ⟨_, _, _, rfl, (by first | assumption | omega | exact q_rg_up (by assumption) (by omega) | exact q_rg_cpy (by assumption) (by assumption)), ⟨g_22.1, g_22.2.1, rfl⟩⟩) (fun w hW => ?_)
    obtain ⟨_, e_23, rfl⟩ := hW.1 0 _ rfl
    refine p_get e_23 rfl ?_
    obtain ⟨_, e_24, rt_24, rln_24, rfa_24, rpl_24, rst_24, rnx_24, rtk_24, rnm_24, rnp_24, rnd_24, rfl, i_24_0, g_24, j_24⟩ := hW.1 45 _ rfl
    refine p_get e_24 rfl ?_
    apply And.intro
    · intro h103
      obtain ⟨_, e_25, rfl⟩ := hW.1 0 _ rfl
      refine p_get e_25 rfl ?_
      obtain ⟨_, e_26, rfl⟩ := hW.1 0 _ rfl
      refine p_get e_26 rfl ?_
      obtain ⟨_, e_27, ln_27, fa_27, pl_27, rfl, i_27_0, g_27⟩ := hW.1 1 _ rfl
      refine p_callX (F := F65) (U := (fw (fw U65 1 1 rfa_17) 1 2 rpl_21)) (a := 1) (As := [q1 a, q1 z38, q2 45]) (rest := []) hW rfl e_27 (Nat.le_of_ble_eq_true rfl) ⟨_, _, rfl, Pl_a h38 h46, Pl_z h38 h46⟩ (fun r119 F119 U119 w hW hr119 => ?_)
      obtain ⟨rfl, a7, b7, e119, h119⟩ := hr119
      cases e119
      exact hQ _ F119 U119 _ hW.1 hW.2.1 hW.2.2 ⟨_, _, _, rfl, rfl, tx_0 eF38 eU38 h38 h46 g_2.1 h65 g_17.2.1 g_21.2.2.1 g_24.2.1 h103 h119⟩
    · intro h103
      exact hQ _ F65 (fw (fw U65 1 1 rfa_17) 1 2 rpl_21) _ hW.1 hW.2.1 hW.2.2 ⟨_, _, _, rfl, rfl, tx_1 eF38 eU38 h38 h46 g_2.1 h65 g_17.2.1 g_21.2.2.1 g_24.2.1 h103⟩
  · intro h46
    exact hQ _ F38 U38 _ hW.1 hW.2.1 hW.2.2 ⟨_, _, _, rfl, rfl, tx_2 eF38 eU38 h38 h46⟩
