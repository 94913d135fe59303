theorem dX11_dares_0 : decode cX11_dares 0 = .ok (.aload_n 0, 1) := by decide +kernel
theorem dX11_dares_1 : decode cX11_dares 1 = .ok (.getfield 10, 3) := by decide +kernel
theorem dX11_dares_4 : decode cX11_dares 4 = .ok (.iload_n 1, 1) := by decide +kernel
theorem dX11_dares_5 : decode cX11_dares 5 = .ok (.invokevirtual 94, 3) := by decide +kernel
theorem dX11_dares_8 : decode cX11_dares 8 = .ok (.astore 5, 2) := by decide +kernel
theorem dX11_dares_10 : decode cX11_dares 10 = .ok (.aload 5, 2) := by decide +kernel
theorem dX11_dares_12 : decode cX11_dares 12 = .ok (.ifnull 12, 3) := by decide +kernel
theorem dX11_dares_15 : decode cX11_dares 15 = .ok (.iload_n 2, 1) := by decide +kernel
theorem dX11_dares_16 : decode cX11_dares 16 = .ok (.ifCond .lt 8, 3) := by decide +kernel
theorem dX11_dares_19 : decode cX11_dares 19 = .ok (.iload_n 2, 1) := by decide +kernel
theorem dX11_dares_20 : decode cX11_dares 20 = .ok (.iconst 4, 1) := by decide +kernel
theorem dX11_dares_21 : decode cX11_dares 21 = .ok (.if_icmp .lt 6, 3) := by decide +kernel
theorem dX11_dares_24 : decode cX11_dares 24 = .ok (.bipush (-2), 2) := by decide +kernel
theorem dX11_dares_26 : decode cX11_dares 26 = .ok (.ireturn, 1) := by decide +kernel
theorem dX11_dares_27 : decode cX11_dares 27 = .ok (.iload 4, 2) := by decide +kernel
theorem dX11_dares_29 : decode cX11_dares 29 = .ok (.iconst 3, 1) := by decide +kernel
theorem dX11_dares_30 : decode cX11_dares 30 = .ok (.if_icmp .ne 10, 3) := by decide +kernel
theorem dX11_dares_33 : decode cX11_dares 33 = .ok (.aload 5, 2) := by decide +kernel
theorem dX11_dares_35 : decode cX11_dares 35 = .ok (.iload_n 2, 1) := by decide +kernel
theorem dX11_dares_36 : decode cX11_dares 36 = .ok (.invokevirtual 158, 3) := by decide +kernel
theorem dX11_dares_39 : decode cX11_dares 39 = .ok (.ireturn, 1) := by decide +kernel
theorem dX11_dares_40 : decode cX11_dares 40 = .ok (.iload 4, 2) := by decide +kernel
theorem dX11_dares_42 : decode cX11_dares 42 = .ok (.iconst 4, 1) := by decide +kernel
theorem dX11_dares_43 : decode cX11_dares 43 = .ok (.if_icmp .ne 10, 3) := by decide +kernel
theorem dX11_dares_46 : decode cX11_dares 46 = .ok (.aload 5, 2) := by decide +kernel
theorem dX11_dares_48 : decode cX11_dares 48 = .ok (.iload_n 2, 1) := by decide +kernel
theorem dX11_dares_49 : decode cX11_dares 49 = .ok (.invokevirtual 161, 3) := by decide +kernel
theorem dX11_dares_52 : decode cX11_dares 52 = .ok (.ireturn, 1) := by decide +kernel
theorem dX11_dares_53 : decode cX11_dares 53 = .ok (.iload_n 3, 1) := by decide +kernel
theorem dX11_dares_54 : decode cX11_dares 54 = .ok (.iconst 1, 1) := by decide +kernel
theorem dX11_dares_55 : decode cX11_dares 55 = .ok (.if_icmp .lt 9, 3) := by decide +kernel
theorem dX11_dares_58 : decode cX11_dares 58 = .ok (.iload_n 3, 1) := by decide +kernel
theorem dX11_dares_59 : decode cX11_dares 59 = .ok (.bipush 9, 2) := by decide +kernel
theorem dX11_dares_61 : decode cX11_dares 61 = .ok (.if_icmp .le 6, 3) := by decide +kernel
theorem dX11_dares_64 : decode cX11_dares 64 = .ok (.bipush (-2), 2) := by decide +kernel
theorem dX11_dares_66 : decode cX11_dares 66 = .ok (.ireturn, 1) := by decide +kernel
theorem dX11_dares_67 : decode cX11_dares 67 = .ok (.iload 4, 2) := by decide +kernel
theorem dX11_dares_69 : decode cX11_dares 69 = .ok (.tableswitch 51 0 2 #[27, 35, 43], 27) := by decide +kernel
theorem dX11_dares_96 : decode cX11_dares 96 = .ok (.aload 5, 2) := by decide +kernel
theorem dX11_dares_98 : decode cX11_dares 98 = .ok (.iload_n 2, 1) := by decide +kernel
theorem dX11_dares_99 : decode cX11_dares 99 = .ok (.iload_n 3, 1) := by decide +kernel
theorem dX11_dares_100 : decode cX11_dares 100 = .ok (.invokevirtual 164, 3) := by decide +kernel
theorem dX11_dares_103 : decode cX11_dares 103 = .ok (.ireturn, 1) := by decide +kernel
theorem dX11_dares_104 : decode cX11_dares 104 = .ok (.aload 5, 2) := by decide +kernel
theorem dX11_dares_106 : decode cX11_dares 106 = .ok (.iload_n 2, 1) := by decide +kernel
theorem dX11_dares_107 : decode cX11_dares 107 = .ok (.iload_n 3, 1) := by decide +kernel
theorem dX11_dares_108 : decode cX11_dares 108 = .ok (.invokevirtual 167, 3) := by decide +kernel
theorem dX11_dares_111 : decode cX11_dares 111 = .ok (.ireturn, 1) := by decide +kernel
theorem dX11_dares_112 : decode cX11_dares 112 = .ok (.aload 5, 2) := by decide +kernel
theorem dX11_dares_114 : decode cX11_dares 114 = .ok (.iload_n 2, 1) := by decide +kernel
theorem dX11_dares_115 : decode cX11_dares 115 = .ok (.iload_n 3, 1) := by decide +kernel
theorem dX11_dares_116 : decode cX11_dares 116 = .ok (.invokevirtual 170, 3) := by decide +kernel
theorem dX11_dares_119 : decode cX11_dares 119 = .ok (.ireturn, 1) := by decide +kernel
theorem dX11_dares_120 : decode cX11_dares 120 = .ok (.bipush (-2), 2) := by decide +kernel
theorem dX11_dares_122 : decode cX11_dares 122 = .ok (.ireturn, 1) := by decide +kernel
def is_X11_dares : Nat → List Nat := fun d => []
set_option maxRecDepth 100000 in
def b_X11_dares_64 (J : Nat → List qV → List qV → qW → Prop) (Q : qR) : qK := x_int (-2) (x_iret Q)
set_option maxRecDepth 100000 in
theorem s_X11_dares_64 {p : Program} {l : Launch} {e : Env} {R : Room} {s : State} {m : MethodId} {args : Array Value} {below : List Frame} {meth : Method} {c : Code} {nW : Nat} {dC : Nat → ClassId} {dI : Nat → Nat → Nat} {k : Nat → ClassId} {g : Nat → Nat} {A : Nat → Prop} {J : Nat → List qV → List qV → qW → Prop} {Q : qR} (X : q_X p R s m args meth c cX11_dares 6 nW 3 69 RX11 (some .int) dC dI k g A) (hJ : ∀ d : Nat, q_Sd p l e R s m args below meth c 6 nW dC dI k g A (MQ below (q_post (dC, dI) k g nW Q A) args s 0 0 A) d (x_cut (is_X11_dares d) (J d))) : q_Sd p l e R s m args below meth c 6 nW dC dI k g A (MQ below (q_post (dC, dI) k g nW Q A) args s 0 0 A) 64 (b_X11_dares_64 J Q) := by
  unfold b_X11_dares_64
  refine s_bipush X ⟨by decide, by decide⟩ (by decide) dX11_dares_64 ?_
  exact s_iret X dX11_dares_66
set_option maxRecDepth 100000 in
def b_X11_dares_24 (J : Nat → List qV → List qV → qW → Prop) (Q : qR) : qK := x_int (-2) (x_iret Q)
set_option maxRecDepth 100000 in
theorem s_X11_dares_24 {p : Program} {l : Launch} {e : Env} {R : Room} {s : State} {m : MethodId} {args : Array Value} {below : List Frame} {meth : Method} {c : Code} {nW : Nat} {dC : Nat → ClassId} {dI : Nat → Nat → Nat} {k : Nat → ClassId} {g : Nat → Nat} {A : Nat → Prop} {J : Nat → List qV → List qV → qW → Prop} {Q : qR} (X : q_X p R s m args meth c cX11_dares 6 nW 3 69 RX11 (some .int) dC dI k g A) (hJ : ∀ d : Nat, q_Sd p l e R s m args below meth c 6 nW dC dI k g A (MQ below (q_post (dC, dI) k g nW Q A) args s 0 0 A) d (x_cut (is_X11_dares d) (J d))) : q_Sd p l e R s m args below meth c 6 nW dC dI k g A (MQ below (q_post (dC, dI) k g nW Q A) args s 0 0 A) 24 (b_X11_dares_24 J Q) := by
  unfold b_X11_dares_24
  refine s_bipush X ⟨by decide, by decide⟩ (by decide) dX11_dares_24 ?_
  exact s_iret X dX11_dares_26
set_option maxRecDepth 100000 in
def b_X11_dares_0 (J : Nat → List qV → List qV → qW → Prop) (Q : qR) : qK := x_aload 0 (x_get 11 0 (x_iload 1 (x_callr (some 8) 2 spr_X8_boroughAt (x_astore 5 (x_aload 5 (x_ifnull (b_X11_dares_24 J Q) (x_iload 2 (x_if_lt (b_X11_dares_24 J Q) (x_iload 2 (x_int 4 (x_icmp_lt (x_iload 4 (x_int 3 (x_icmp_ne (x_iload 4 (x_int 4 (x_icmp_ne (x_iload 3 (x_int 1 (x_icmp_lt (b_X11_dares_64 J Q) (x_iload 3 (x_int 9 (x_icmp_le (x_iload 4 (x_sw 0 2 [x_aload 5 (x_iload 2 (x_iload 3 (x_callr (some 0) 3 spr_X0_daring (x_iret Q)))), x_aload 5 (x_iload 2 (x_iload 3 (x_callr (some 0) 3 spr_X0_harm (x_iret Q)))), x_aload 5 (x_iload 2 (x_iload 3 (x_callr (some 0) 3 spr_X0_taken (x_iret Q))))] (x_int (-2) (x_iret Q)))) (b_X11_dares_64 J Q))))))) (x_aload 5 (x_iload 2 (x_callr (some 0) 2 spr_X0_bestFine (x_iret Q))))))) (x_aload 5 (x_iload 2 (x_callr (some 0) 2 spr_X0_deterring (x_iret Q))))))) (b_X11_dares_24 J Q))))))))))))
set_option maxRecDepth 100000 in
theorem s_X11_dares_0 {p : Program} {l : Launch} {e : Env} {R : Room} {s : State} {m : MethodId} {args : Array Value} {below : List Frame} {meth : Method} {c : Code} {nW : Nat} {dC : Nat → ClassId} {dI : Nat → Nat → Nat} {k : Nat → ClassId} {g : Nat → Nat} {A : Nat → Prop} {J : Nat → List qV → List qV → qW → Prop} {Q : qR} (X : q_X p R s m args meth c cX11_dares 6 nW 3 69 RX11 (some .int) dC dI k g A) (hJ : ∀ d : Nat, q_Sd p l e R s m args below meth c 6 nW dC dI k g A (MQ below (q_post (dC, dI) k g nW Q A) args s 0 0 A) d (x_cut (is_X11_dares d) (J d))) : q_Sd p l e R s m args below meth c 6 nW dC dI k g A (MQ below (q_post (dC, dI) k g nW Q A) args s 0 0 A) 0 (b_X11_dares_0 J Q) := by
  unfold b_X11_dares_0
  refine s_aload_n X rfl dX11_dares_0 ?_
  refine s_get X (T := TX11) (C := RX11) (N := 8) tu_X11 rfl (by decide) tw_326 dX11_dares_1 ?_
  refine s_iload_n X rfl dX11_dares_4 ?_
  refine s_callVr X (m_X8_boroughAt l) tw_541 tw_542 tw_543 tw_121 tw_544 rfl (by decide +kernel) ⟨by decide, by decide⟩ dX11_dares_5 ?_
  refine s_astore X (by decide) dX11_dares_8 ?_
  refine s_aload X dX11_dares_10 ?_
  refine s_ifnull X (tgt := 24) dX11_dares_12 (by decide) ?_ ?_
  · exact s_X11_dares_24 X hJ
  · refine s_iload_n X rfl dX11_dares_15 ?_
    refine s_if_lt X (tgt := 24) dX11_dares_16 (by decide) ?_ ?_
    · exact s_X11_dares_24 X hJ
    · refine s_iload_n X rfl dX11_dares_19 ?_
      refine s_iconst X ⟨by decide, by decide⟩ dX11_dares_20 ?_
      refine s_icmp_lt X (tgt := 27) dX11_dares_21 (by decide) ?_ ?_
      · refine s_iload X dX11_dares_27 ?_
        refine s_iconst X ⟨by decide, by decide⟩ dX11_dares_29 ?_
        refine s_icmp_ne X (tgt := 40) dX11_dares_30 (by decide) ?_ ?_
        · refine s_iload X dX11_dares_40 ?_
          refine s_iconst X ⟨by decide, by decide⟩ dX11_dares_42 ?_
          refine s_icmp_ne X (tgt := 53) dX11_dares_43 (by decide) ?_ ?_
          · refine s_iload_n X rfl dX11_dares_53 ?_
            refine s_iconst X ⟨by decide, by decide⟩ dX11_dares_54 ?_
            refine s_icmp_lt X (tgt := 64) dX11_dares_55 (by decide) ?_ ?_
            · exact s_X11_dares_64 X hJ
            · refine s_iload_n X rfl dX11_dares_58 ?_
              refine s_bipush X ⟨by decide, by decide⟩ (by decide) dX11_dares_59 ?_
              refine s_icmp_le X (tgt := 67) dX11_dares_61 (by decide) ?_ ?_
              · refine s_iload X dX11_dares_67 ?_
                refine s_sw X (ts := [96, 104, 112]) (td := 120) dX11_dares_69 (by decide) (by decide) (by decide) rfl ?_ ?_
                · intro i t K ht hK
                  match i, ht, hK with
                  | 0, ht, hK =>
                    cases ht
                    cases hK
                    refine s_aload X dX11_dares_96 ?_
                    refine s_iload_n X rfl dX11_dares_98 ?_
                    refine s_iload_n X rfl dX11_dares_99 ?_
                    refine s_callVr X (m_X0_daring l) tw_732 tw_720 tw_721 tw_122 tw_722 rfl (by decide +kernel) ⟨by decide, by decide⟩ dX11_dares_100 ?_
                    exact s_iret X dX11_dares_103
                  | 1, ht, hK =>
                    cases ht
                    cases hK
                    refine s_aload X dX11_dares_104 ?_
                    refine s_iload_n X rfl dX11_dares_106 ?_
                    refine s_iload_n X rfl dX11_dares_107 ?_
                    refine s_callVr X (m_X0_harm l) tw_733 tw_734 tw_735 tw_122 tw_736 rfl (by decide +kernel) ⟨by decide, by decide⟩ dX11_dares_108 ?_
                    exact s_iret X dX11_dares_111
                  | 2, ht, hK =>
                    cases ht
                    cases hK
                    refine s_aload X dX11_dares_112 ?_
                    refine s_iload_n X rfl dX11_dares_114 ?_
                    refine s_iload_n X rfl dX11_dares_115 ?_
                    refine s_callVr X (m_X0_taken l) tw_737 tw_728 tw_729 tw_122 tw_730 rfl (by decide +kernel) ⟨by decide, by decide⟩ dX11_dares_116 ?_
                    exact s_iret X dX11_dares_119
                  | i + 3, ht, hK => exact absurd ht (by simp)
                · refine s_bipush X ⟨by decide, by decide⟩ (by decide) dX11_dares_120 ?_
                  exact s_iret X dX11_dares_122
              · exact s_X11_dares_64 X hJ
          · refine s_aload X dX11_dares_46 ?_
            refine s_iload_n X rfl dX11_dares_48 ?_
            refine s_callVr X (m_X0_bestFine l) tw_723 tw_724 tw_725 tw_122 tw_726 rfl (by decide +kernel) ⟨by decide, by decide⟩ dX11_dares_49 ?_
            exact s_iret X dX11_dares_52
        · refine s_aload X dX11_dares_33 ?_
          refine s_iload_n X rfl dX11_dares_35 ?_
          refine s_callVr X (m_X0_deterring l) tw_715 tw_716 tw_717 tw_122 tw_718 rfl (by decide +kernel) ⟨by decide, by decide⟩ dX11_dares_36 ?_
          exact s_iret X dX11_dares_39
      · exact s_X11_dares_24 X hJ

def spr_X11_dares : List qV → qW → (Option qV → Prop) → Prop := fun av w Q => ∃ (tp : Nat → Int) (ct : Nat → Int) (ln : Int) (fa : Int) (pl : Int) (b0f1 : Nat → Int) (b0f2 : Nat → Int) (b0f3 : Nat → Int) (b0f4 : Nat → Int) (b0f5 : Nat → Int) (b0f6 : Nat → Int) (b0f7 : Nat → Int) (b0u0 : Int) (b0u1 : Int) (b0u2 : Int) (b0u3 : Int) (b0u4 : Int) (b1f1 : Nat → Int) (b1f2 : Nat → Int) (b1f3 : Nat → Int) (b1f4 : Nat → Int) (b1f5 : Nat → Int) (b1f6 : Nat → Int) (b1f7 : Nat → Int) (b1u0 : Int) (b1u1 : Int) (b1u2 : Int) (b1u3 : Int) (b1u4 : Int) (a : Int) (b : Int) (cc : Int) (dd : Int), av = [q2 0, q1 a, q1 b, q1 cc, q1 dd] ∧ w = [.inr (11, [q2 1, q2 21, q2 22, q2 23, q2 24, q2 25, q2 26, q2 27]), .inr (8, [q2 2, q2 3, q2 4, q2 28, q2 29, q2 30, q1 ln, q1 fa, q1 pl]), .inl (1, 600, .inl tp), .inl (0, 4, .inl ct), .inl (4, 2, .inr (.inr [some 5, some 13])), .inr (0, [q2 6, q2 7, q2 8, q2 9, q2 10, q2 11, q2 12, q1 b0u0, q1 b0u1, q1 b0u2, q1 b0u3, q1 b0u4]), .inl (0, 8, .inl b0f1), .inl (0, 8, .inl b0f2), .inl (0, 4, .inl b0f3), .inl (0, 32, .inl b0f4), .inl (0, 6, .inl b0f5), .inl (0, 6, .inl b0f6), .inl (0, 6, .inl b0f7), .inr (0, [q2 14, q2 15, q2 16, q2 17, q2 18, q2 19, q2 20, q1 b1u0, q1 b1u1, q1 b1u2, q1 b1u3, q1 b1u4]), .inl (0, 8, .inl b1f1), .inl (0, 8, .inl b1f2), .inl (0, 4, .inl b1f3), .inl (0, 32, .inl b1f4), .inl (0, 6, .inl b1f5), .inl (0, 6, .inl b1f6), .inl (0, 6, .inl b1f7)] ∧ (q_rg 0 2 ct) ∧ (0 ≤ ln ∧ ln ≤ 600) ∧ (0 ≤ b0u0 ∧ b0u0 ≤ 8 ∧ 0 ≤ b0u3 ∧ b0u3 ≤ 6 ∧ 0 ≤ b0u4 ∧ b0u4 ≤ 6) ∧ (q_rg 0 9 b0f3) ∧ (0 ≤ b1u0 ∧ b1u0 ≤ 8 ∧ 0 ≤ b1u3 ∧ b1u3 ≤ 6 ∧ 0 ≤ b1u4 ∧ b1u4 ≤ 6) ∧ (q_rg 0 9 b1f3) ∧ (∀ (r : Int) , Q (some (q1 r)))
def sp_X11_dares : qS := fun av w Q => spr_X11_dares av w (fun r => Q r w)
set_option maxHeartbeats 4000000 in
set_option maxRecDepth 100000 in
theorem m_X11_dares (l : Launch) : q_M l yX11_dares cX11_dares 6 (some .int) 3 69 sp_X11_dares := by
  refine q_meth (by decide) (fun av w Q h => by obtain ⟨tp, ct, ln, fa, pl, b0f1, b0f2, b0f3, b0f4, b0f5, b0f6, b0f7, b0u0, b0u1, b0u2, b0u3, b0u4, b1f1, b1f2, b1f3, b1f4, b1f5, b1f6, b1f7, b1u0, b1u1, b1u2, b1u3, b1u4, a, b, cc, dd, rfl, rfl, hct, hln, hb0, hf0, hb1, hf1, hQ⟩ := h; exact Nat.le_of_ble_eq_true rfl) ?_
  intro p e R s m args below meth c dC dI k g A av w Q hsp oka okw X
  obtain ⟨tp, ct, ln, fa, pl, b0f1, b0f2, b0f3, b0f4, b0f5, b0f6, b0f7, b0u0, b0u1, b0u2, b0u3, b0u4, b1f1, b1f2, b1f3, b1f4, b1f5, b1f6, b1f7, b1u0, b1u1, b1u2, b1u3, b1u4, a, b, cc, dd, rfl, rfl, hct, hln, hb0, hf0, hb1, hf1, hQ⟩ := hsp
  have o_a : -2147483648 ≤ a ∧ a ≤ 2147483647 := oka _ (List.mem_of_getElem? (i := 1) rfl)
  have o_b : -2147483648 ≤ b ∧ b ≤ 2147483647 := oka _ (List.mem_of_getElem? (i := 2) rfl)
  have o_cc : -2147483648 ≤ cc ∧ cc ≤ 2147483647 := oka _ (List.mem_of_getElem? (i := 3) rfl)
  have o_dd : -2147483648 ≤ dd ∧ dd ≤ 2147483647 := oka _ (List.mem_of_getElem? (i := 4) rfl)
  refine s_mono (s_X11_dares_0 X (J := fun _ _ _ _ => False) (fun d => s_cutF)) ?_
  rintro lv st w' ⟨rfl, rfl, rfl⟩
  refine Exists.intro [1, 2, 3, 4, 28, 29, 30, 5, 13] (Exists.intro [q2 0, q1 _] (Exists.intro ((wT4_0 _ _ _ _ _)) (And.intro rfl (And.intro rfl (And.intro rfl (And.intro ⟨⟨_, rfl⟩, rfl⟩ ?_))))))
  refine Exists.intro _ (Exists.intro _ (Exists.intro _ (Exists.intro _ (Exists.intro _ (Exists.intro _ (And.intro rfl (And.intro rfl (?_))))))))
  intro z5 h5
  rcases h5 with rfl | ⟨rfl, rfl⟩ | ⟨rfl, rfl⟩
  · exact hQ _
  · apply And.intro
    · intro h16
      exact hQ _
    · intro h16
      apply And.intro
      · intro h21
        apply And.intro
        · intro h30
          apply And.intro
          · intro h43
            apply And.intro
            · intro h55
              exact hQ _
            · intro h55
              apply And.intro
              · intro h61
                apply And.intro
                · apply And.intro
                  · intro h69
                    refine Exists.intro [5, 6, 7, 8, 9, 10, 11, 12] (Exists.intro [q2 0, q1 _, q1 _] (Exists.intro (wB _ _ _ _ _ _ _ _ _ _ _ _) (And.intro rfl (And.intro rfl (And.intro rfl (And.intro ⟨⟨_, rfl⟩, rfl⟩ ?_))))))
                    refine Exists.intro _ (Exists.intro _ (Exists.intro _ (Exists.intro _ (Exists.intro _ (Exists.intro _ (Exists.intro _ (Exists.intro _ (Exists.intro _ (Exists.intro _ (Exists.intro _ (Exists.intro _ (Exists.intro _ (Exists.intro _ (And.intro rfl (And.intro rfl (And.intro (by first | omega | assumption | exact q_rg_up (by assumption) (by omega) | exact q_rg_up (q_rg_up (by assumption) (by omega)) (by omega) | exact q_rg_cpy (by assumption) (by assumption)) (And.intro (by first | omega | assumption | exact q_rg_up (by assumption) (by omega) | exact q_rg_up (q_rg_up (by assumption) (by omega)) (by omega) | exact q_rg_cpy (by assumption) (by assumption)) (?_))))))))))))))))))
                    intro z100
                    exact hQ _
                  apply And.intro
                  · intro h69
                    refine Exists.intro [5, 6, 7, 8, 9, 10, 11, 12] (Exists.intro [q2 0, q1 _, q1 _] (Exists.intro (wB _ _ _ _ _ _ _ _ _ _ _ _) (And.intro rfl (And.intro rfl (And.intro rfl (And.intro ⟨⟨_, rfl⟩, rfl⟩ ?_))))))
                    refine Exists.intro _ (Exists.intro _ (Exists.intro _ (Exists.intro _ (Exists.intro _ (Exists.intro _ (Exists.intro _ (Exists.intro _ (Exists.intro _ (Exists.intro _ (Exists.intro _ (Exists.intro _ (Exists.intro _ (Exists.intro _ (And.intro rfl (And.intro rfl (And.intro (by first | omega | assumption | exact q_rg_up (by assumption) (by omega) | exact q_rg_up (q_rg_up (by assumption) (by omega)) (by omega) | exact q_rg_cpy (by assumption) (by assumption)) (And.intro (by first | omega | assumption | exact q_rg_up (by assumption) (by omega) | exact q_rg_up (q_rg_up (by assumption) (by omega)) (by omega) | exact q_rg_cpy (by assumption) (by assumption)) (?_))))))))))))))))))
                    intro z108
                    exact hQ _
                  apply And.intro
                  · intro h69
                    refine Exists.intro [5, 6, 7, 8, 9, 10, 11, 12] (Exists.intro [q2 0, q1 _, q1 _] (Exists.intro (wB _ _ _ _ _ _ _ _ _ _ _ _) (And.intro rfl (And.intro rfl (And.intro rfl (And.intro ⟨⟨_, rfl⟩, rfl⟩ ?_))))))
                    refine Exists.intro _ (Exists.intro _ (Exists.intro _ (Exists.intro _ (Exists.intro _ (Exists.intro _ (Exists.intro _ (Exists.intro _ (Exists.intro _ (Exists.intro _ (Exists.intro _ (Exists.intro _ (Exists.intro _ (Exists.intro _ (And.intro rfl (And.intro rfl (And.intro (by first | omega | assumption | exact q_rg_up (by assumption) (by omega) | exact q_rg_up (q_rg_up (by assumption) (by omega)) (by omega) | exact q_rg_cpy (by assumption) (by assumption)) (And.intro (by first | omega | assumption | exact q_rg_up (by assumption) (by omega) | exact q_rg_up (q_rg_up (by assumption) (by omega)) (by omega) | exact q_rg_cpy (by assumption) (by assumption)) (?_))))))))))))))))))
                    intro z116
                    exact hQ _
                  exact trivial
                · intro h69
                  exact hQ _
              · intro h61
                exact hQ _
          · intro h43
            refine Exists.intro [5, 6, 7, 8, 9, 10, 11, 12] (Exists.intro [q2 0, q1 _] (Exists.intro (wB _ _ _ _ _ _ _ _ _ _ _ _) (And.intro rfl (And.intro rfl (And.intro rfl (And.intro ⟨⟨_, rfl⟩, rfl⟩ ?_))))))
            refine Exists.intro _ (Exists.intro _ (Exists.intro _ (Exists.intro _ (Exists.intro _ (Exists.intro _ (Exists.intro _ (Exists.intro _ (Exists.intro _ (Exists.intro _ (Exists.intro _ (Exists.intro _ (Exists.intro _ (And.intro rfl (And.intro rfl (And.intro (by first | omega | assumption | exact q_rg_up (by assumption) (by omega) | exact q_rg_up (q_rg_up (by assumption) (by omega)) (by omega) | exact q_rg_cpy (by assumption) (by assumption)) (And.intro (by first | omega | assumption | exact q_rg_up (by assumption) (by omega) | exact q_rg_up (q_rg_up (by assumption) (by omega)) (by omega) | exact q_rg_cpy (by assumption) (by assumption)) (?_)))))))))))))))))
            intro z49
            exact hQ _
        · intro h30
          refine Exists.intro [5, 6, 7, 8, 9, 10, 11, 12] (Exists.intro [q2 0, q1 _] (Exists.intro (wB _ _ _ _ _ _ _ _ _ _ _ _) (And.intro rfl (And.intro rfl (And.intro rfl (And.intro ⟨⟨_, rfl⟩, rfl⟩ ?_))))))
          refine Exists.intro _ (Exists.intro _ (Exists.intro _ (Exists.intro _ (Exists.intro _ (Exists.intro _ (Exists.intro _ (Exists.intro _ (Exists.intro _ (Exists.intro _ (Exists.intro _ (Exists.intro _ (Exists.intro _ (And.intro rfl (And.intro rfl (And.intro (by first | omega | assumption | exact q_rg_up (by assumption) (by omega) | exact q_rg_up (q_rg_up (by assumption) (by omega)) (by omega) | exact q_rg_cpy (by assumption) (by assumption)) (And.intro (by first | omega | assumption | exact q_rg_up (by assumption) (by omega) | exact q_rg_up (q_rg_up (by assumption) (by omega)) (by omega) | exact q_rg_cpy (by assumption) (by assumption)) (?_)))))))))))))))))
          intro z36
          exact hQ _
      · intro h21
        exact hQ _
  · apply And.intro
    · intro h16
      exact hQ _
    · intro h16
      apply And.intro
      · intro h21
        apply And.intro
        · intro h30
          apply And.intro
          · intro h43
            apply And.intro
            · intro h55
              exact hQ _
            · intro h55
              apply And.intro
              · intro h61
                apply And.intro
                · apply And.intro
                  · intro h69
                    refine Exists.intro [13, 14, 15, 16, 17, 18, 19, 20] (Exists.intro [q2 0, q1 _, q1 _] (Exists.intro (wB _ _ _ _ _ _ _ _ _ _ _ _) (And.intro rfl (And.intro rfl (And.intro rfl (And.intro ⟨⟨_, rfl⟩, rfl⟩ ?_))))))
                    refine Exists.intro _ (Exists.intro _ (Exists.intro _ (Exists.intro _ (Exists.intro _ (Exists.intro _ (Exists.intro _ (Exists.intro _ (Exists.intro _ (Exists.intro _ (Exists.intro _ (Exists.intro _ (Exists.intro _ (Exists.intro _ (And.intro rfl (And.intro rfl (And.intro (by first | omega | assumption | exact q_rg_up (by assumption) (by omega) | exact q_rg_up (q_rg_up (by assumption) (by omega)) (by omega) | exact q_rg_cpy (by assumption) (by assumption)) (And.intro (by first | omega | assumption | exact q_rg_up (by assumption) (by omega) | exact q_rg_up (q_rg_up (by assumption) (by omega)) (by omega) | exact q_rg_cpy (by assumption) (by assumption)) (?_))))))))))))))))))
                    intro z100
                    exact hQ _
                  apply And.intro
                  · intro h69
                    refine Exists.intro [13, 14, 15, 16, 17, 18, 19, 20] (Exists.intro [q2 0, q1 _, q1 _] (Exists.intro (wB _ _ _ _ _ _ _ _ _ _ _ _) (And.intro rfl (And.intro rfl (And.intro rfl (And.intro ⟨⟨_, rfl⟩, rfl⟩ ?_))))))
                    refine Exists.intro _ (Exists.intro _ (Exists.intro _ (Exists.intro _ (Exists.intro _ (Exists.intro _ (Exists.intro _ (Exists.intro _ (Exists.intro _ (Exists.intro _ (Exists.intro _ (Exists.intro _ (Exists.intro _ (Exists.intro _ (And.intro rfl (And.intro rfl (And.intro (by first | omega | assumption | exact q_rg_up (by assumption) (by omega) | exact q_rg_up (q_rg_up (by assumption) (by omega)) (by omega) | exact q_rg_cpy (by assumption) (by assumption)) (And.intro (by first | omega | assumption | exact q_rg_up (by assumption) (by omega) | exact q_rg_up (q_rg_up (by assumption) (by omega)) (by omega) | exact q_rg_cpy (by assumption) (by assumption)) (?_))))))))))))))))))
                    intro z108
                    exact hQ _
                  apply And.intro
                  · intro h69
                    refine Exists.intro [13, 14, 15, 16, 17, 18, 19, 20] (Exists.intro [q2 0, q1 _, q1 _] (Exists.intro (wB _ _ _ _ _ _ _ _ _ _ _ _) (And.intro rfl (And.intro rfl (And.intro rfl (And.intro ⟨⟨_, rfl⟩, rfl⟩ ?_))))))
                    refine Exists.intro _ (Exists.intro _ (Exists.intro _ (Exists.intro _ (Exists.intro _ (Exists.intro _ (Exists.intro _ (Exists.intro _ (Exists.intro _ (Exists.intro _ (Exists.intro _ (Exists.intro _ (Exists.intro _ (Exists.intro _ (And.intro rfl (And.intro rfl (And.intro (by first | omega | assumption | exact q_rg_up (by assumption) (by omega) | exact q_rg_up (q_rg_up (by assumption) (by omega)) (by omega) | exact q_rg_cpy (by assumption) (by assumption)) (And.intro (by first | omega | assumption | exact q_rg_up (by assumption) (by omega) | exact q_rg_up (q_rg_up (by assumption) (by omega)) (by omega) | exact q_rg_cpy (by assumption) (by assumption)) (?_))))))))))))))))))
                    intro z116
                    exact hQ _
                  exact trivial
                · intro h69
                  exact hQ _
              · intro h61
                exact hQ _
          · intro h43
            refine Exists.intro [13, 14, 15, 16, 17, 18, 19, 20] (Exists.intro [q2 0, q1 _] (Exists.intro (wB _ _ _ _ _ _ _ _ _ _ _ _) (And.intro rfl (And.intro rfl (And.intro rfl (And.intro ⟨⟨_, rfl⟩, rfl⟩ ?_))))))
            refine Exists.intro _ (Exists.intro _ (Exists.intro _ (Exists.intro _ (Exists.intro _ (Exists.intro _ (Exists.intro _ (Exists.intro _ (Exists.intro _ (Exists.intro _ (Exists.intro _ (Exists.intro _ (Exists.intro _ (And.intro rfl (And.intro rfl (And.intro (by first | omega | assumption | exact q_rg_up (by assumption) (by omega) | exact q_rg_up (q_rg_up (by assumption) (by omega)) (by omega) | exact q_rg_cpy (by assumption) (by assumption)) (And.intro (by first | omega | assumption | exact q_rg_up (by assumption) (by omega) | exact q_rg_up (q_rg_up (by assumption) (by omega)) (by omega) | exact q_rg_cpy (by assumption) (by assumption)) (?_)))))))))))))))))
            intro z49
            exact hQ _
        · intro h30
          refine Exists.intro [13, 14, 15, 16, 17, 18, 19, 20] (Exists.intro [q2 0, q1 _] (Exists.intro (wB _ _ _ _ _ _ _ _ _ _ _ _) (And.intro rfl (And.intro rfl (And.intro rfl (And.intro ⟨⟨_, rfl⟩, rfl⟩ ?_))))))
          refine Exists.intro _ (Exists.intro _ (Exists.intro _ (Exists.intro _ (Exists.intro _ (Exists.intro _ (Exists.intro _ (Exists.intro _ (Exists.intro _ (Exists.intro _ (Exists.intro _ (Exists.intro _ (Exists.intro _ (And.intro rfl (And.intro rfl (And.intro (by first | omega | assumption | exact q_rg_up (by assumption) (by omega) | exact q_rg_up (q_rg_up (by assumption) (by omega)) (by omega) | exact q_rg_cpy (by assumption) (by assumption)) (And.intro (by first | omega | assumption | exact q_rg_up (by assumption) (by omega) | exact q_rg_up (q_rg_up (by assumption) (by omega)) (by omega) | exact q_rg_cpy (by assumption) (by assumption)) (?_)))))))))))))))))
          intro z36
          exact hQ _
      · intro h21
        exact hQ _

theorem dX11_share_0 : decode cX11_share 0 = .ok (.aload_n 0, 1) := by decide +kernel
theorem dX11_share_1 : decode cX11_share 1 = .ok (.getfield 10, 3) := by decide +kernel
theorem dX11_share_4 : decode cX11_share 4 = .ok (.iload_n 1, 1) := by decide +kernel
theorem dX11_share_5 : decode cX11_share 5 = .ok (.invokevirtual 94, 3) := by decide +kernel
theorem dX11_share_8 : decode cX11_share 8 = .ok (.astore 5, 2) := by decide +kernel
theorem dX11_share_10 : decode cX11_share 10 = .ok (.aload 5, 2) := by decide +kernel
theorem dX11_share_12 : decode cX11_share 12 = .ok (.ifnull 23, 3) := by decide +kernel
theorem dX11_share_15 : decode cX11_share 15 = .ok (.aload 5, 2) := by decide +kernel
theorem dX11_share_17 : decode cX11_share 17 = .ok (.iload_n 2, 1) := by decide +kernel
theorem dX11_share_18 : decode cX11_share 18 = .ok (.invokevirtual 173, 3) := by decide +kernel
theorem dX11_share_21 : decode cX11_share 21 = .ok (.ifCond .eq 14, 3) := by decide +kernel
theorem dX11_share_24 : decode cX11_share 24 = .ok (.iload_n 3, 1) := by decide +kernel
theorem dX11_share_25 : decode cX11_share 25 = .ok (.iconst 1, 1) := by decide +kernel
theorem dX11_share_26 : decode cX11_share 26 = .ok (.if_icmp .lt 9, 3) := by decide +kernel
theorem dX11_share_29 : decode cX11_share 29 = .ok (.iload_n 3, 1) := by decide +kernel
theorem dX11_share_30 : decode cX11_share 30 = .ok (.bipush 99, 2) := by decide +kernel
theorem dX11_share_32 : decode cX11_share 32 = .ok (.if_icmp .le 5, 3) := by decide +kernel
theorem dX11_share_35 : decode cX11_share 35 = .ok (.iconst (-1), 1) := by decide +kernel
theorem dX11_share_36 : decode cX11_share 36 = .ok (.ireturn, 1) := by decide +kernel
theorem dX11_share_37 : decode cX11_share 37 = .ok (.iload 4, 2) := by decide +kernel
theorem dX11_share_39 : decode cX11_share 39 = .ok (.iconst (-1), 1) := by decide +kernel
theorem dX11_share_40 : decode cX11_share 40 = .ok (.if_icmp .eq 15, 3) := by decide +kernel
theorem dX11_share_43 : decode cX11_share 43 = .ok (.aload 5, 2) := by decide +kernel
theorem dX11_share_45 : decode cX11_share 45 = .ok (.iload 4, 2) := by decide +kernel
theorem dX11_share_47 : decode cX11_share 47 = .ok (.invokevirtual 173, 3) := by decide +kernel
theorem dX11_share_50 : decode cX11_share 50 = .ok (.ifCond .ne 5, 3) := by decide +kernel
theorem dX11_share_53 : decode cX11_share 53 = .ok (.iconst (-1), 1) := by decide +kernel
theorem dX11_share_54 : decode cX11_share 54 = .ok (.ireturn, 1) := by decide +kernel
theorem dX11_share_55 : decode cX11_share 55 = .ok (.aload 5, 2) := by decide +kernel
theorem dX11_share_57 : decode cX11_share 57 = .ok (.iload_n 2, 1) := by decide +kernel
theorem dX11_share_58 : decode cX11_share 58 = .ok (.iload_n 3, 1) := by decide +kernel
theorem dX11_share_59 : decode cX11_share 59 = .ok (.iload 4, 2) := by decide +kernel
theorem dX11_share_61 : decode cX11_share 61 = .ok (.invokevirtual 177, 3) := by decide +kernel
theorem dX11_share_64 : decode cX11_share 64 = .ok (.ireturn, 1) := by decide +kernel
def is_X11_share : Nat → List Nat := fun d => []
set_option maxRecDepth 100000 in
def b_X11_share_55 (J : Nat → List qV → List qV → qW → Prop) (Q : qR) : qK := x_aload 5 (x_iload 2 (x_iload 3 (x_iload 4 (x_callr (some 0) 4 spr_X0_shareOf (x_iret Q)))))
set_option maxRecDepth 100000 in
theorem s_X11_share_55 {p : Program} {l : Launch} {e : Env} {R : Room} {s : State} {m : MethodId} {args : Array Value} {below : List Frame} {meth : Method} {c : Code} {nW : Nat} {dC : Nat → ClassId} {dI : Nat → Nat → Nat} {k : Nat → ClassId} {g : Nat → Nat} {A : Nat → Prop} {J : Nat → List qV → List qV → qW → Prop} {Q : qR} (X : q_X p R s m args meth c cX11_share 6 nW 2 49 RX11 (some .int) dC dI k g A) (hJ : ∀ d : Nat, q_Sd p l e R s m args below meth c 6 nW dC dI k g A (MQ below (q_post (dC, dI) k g nW Q A) args s 0 0 A) d (x_cut (is_X11_share d) (J d))) : q_Sd p l e R s m args below meth c 6 nW dC dI k g A (MQ below (q_post (dC, dI) k g nW Q A) args s 0 0 A) 55 (b_X11_share_55 J Q) := by
  unfold b_X11_share_55
  refine s_aload X dX11_share_55 ?_
  refine s_iload_n X rfl dX11_share_57 ?_
  refine s_iload_n X rfl dX11_share_58 ?_
  refine s_iload X dX11_share_59 ?_
  refine s_callVr X (m_X0_shareOf l) tw_743 tw_744 tw_745 tw_122 tw_746 rfl (by decide +kernel) ⟨by decide, by decide⟩ dX11_share_61 ?_
  exact s_iret X dX11_share_64
set_option maxRecDepth 100000 in
def b_X11_share_35 (J : Nat → List qV → List qV → qW → Prop) (Q : qR) : qK := x_int (-1) (x_iret Q)
set_option maxRecDepth 100000 in
theorem s_X11_share_35 {p : Program} {l : Launch} {e : Env} {R : Room} {s : State} {m : MethodId} {args : Array Value} {below : List Frame} {meth : Method} {c : Code} {nW : Nat} {dC : Nat → ClassId} {dI : Nat → Nat → Nat} {k : Nat → ClassId} {g : Nat → Nat} {A : Nat → Prop} {J : Nat → List qV → List qV → qW → Prop} {Q : qR} (X : q_X p R s m args meth c cX11_share 6 nW 2 49 RX11 (some .int) dC dI k g A) (hJ : ∀ d : Nat, q_Sd p l e R s m args below meth c 6 nW dC dI k g A (MQ below (q_post (dC, dI) k g nW Q A) args s 0 0 A) d (x_cut (is_X11_share d) (J d))) : q_Sd p l e R s m args below meth c 6 nW dC dI k g A (MQ below (q_post (dC, dI) k g nW Q A) args s 0 0 A) 35 (b_X11_share_35 J Q) := by
  unfold b_X11_share_35
  refine s_iconst X ⟨by decide, by decide⟩ dX11_share_35 ?_
  exact s_iret X dX11_share_36
set_option maxRecDepth 100000 in
def b_X11_share_0 (J : Nat → List qV → List qV → qW → Prop) (Q : qR) : qK := x_aload 0 (x_get 11 0 (x_iload 1 (x_callr (some 8) 2 spr_X8_boroughAt (x_astore 5 (x_aload 5 (x_ifnull (b_X11_share_35 J Q) (x_aload 5 (x_iload 2 (x_callr (some 0) 2 spr_X0_has (x_if_eq (b_X11_share_35 J Q) (x_iload 3 (x_int 1 (x_icmp_lt (b_X11_share_35 J Q) (x_iload 3 (x_int 99 (x_icmp_le (x_iload 4 (x_int (-1) (x_icmp_eq (b_X11_share_55 J Q) (x_aload 5 (x_iload 4 (x_callr (some 0) 2 spr_X0_has (x_if_ne (b_X11_share_55 J Q) (x_int (-1) (x_iret Q))))))))) (b_X11_share_35 J Q)))))))))))))))))
set_option maxRecDepth 100000 in
theorem s_X11_share_0 {p : Program} {l : Launch} {e : Env} {R : Room} {s : State} {m : MethodId} {args : Array Value} {below : List Frame} {meth : Method} {c : Code} {nW : Nat} {dC : Nat → ClassId} {dI : Nat → Nat → Nat} {k : Nat → ClassId} {g : Nat → Nat} {A : Nat → Prop} {J : Nat → List qV → List qV → qW → Prop} {Q : qR} (X : q_X p R s m args meth c cX11_share 6 nW 2 49 RX11 (some .int) dC dI k g A) (hJ : ∀ d : Nat, q_Sd p l e R s m args below meth c 6 nW dC dI k g A (MQ below (q_post (dC, dI) k g nW Q A) args s 0 0 A) d (x_cut (is_X11_share d) (J d))) : q_Sd p l e R s m args below meth c 6 nW dC dI k g A (MQ below (q_post (dC, dI) k g nW Q A) args s 0 0 A) 0 (b_X11_share_0 J Q) := by
  unfold b_X11_share_0
  refine s_aload_n X rfl dX11_share_0 ?_
  refine s_get X (T := TX11) (C := RX11) (N := 8) tu_X11 rfl (by decide) tw_326 dX11_share_1 ?_
  refine s_iload_n X rfl dX11_share_4 ?_
  refine s_callVr X (m_X8_boroughAt l) tw_541 tw_542 tw_543 tw_121 tw_544 rfl (by decide +kernel) ⟨by decide, by decide⟩ dX11_share_5 ?_
  refine s_astore X (by decide) dX11_share_8 ?_
  refine s_aload X dX11_share_10 ?_
  refine s_ifnull X (tgt := 35) dX11_share_12 (by decide) ?_ ?_
  · exact s_X11_share_35 X hJ
  · refine s_aload X dX11_share_15 ?_
    refine s_iload_n X rfl dX11_share_17 ?_
    refine s_callVr X (m_X0_has l) tw_742 tw_399 tw_400 tw_122 tw_401 rfl (by decide +kernel) ⟨by decide, by decide⟩ dX11_share_18 ?_
    refine s_if_eq X (tgt := 35) dX11_share_21 (by decide) ?_ ?_
    · exact s_X11_share_35 X hJ
    · refine s_iload_n X rfl dX11_share_24 ?_
      refine s_iconst X ⟨by decide, by decide⟩ dX11_share_25 ?_
      refine s_icmp_lt X (tgt := 35) dX11_share_26 (by decide) ?_ ?_
      · exact s_X11_share_35 X hJ
      · refine s_iload_n X rfl dX11_share_29 ?_
        refine s_bipush X ⟨by decide, by decide⟩ (by decide) dX11_share_30 ?_
        refine s_icmp_le X (tgt := 37) dX11_share_32 (by decide) ?_ ?_
        · refine s_iload X dX11_share_37 ?_
          refine s_iconst X ⟨by decide, by decide⟩ dX11_share_39 ?_
          refine s_icmp_eq X (tgt := 55) dX11_share_40 (by decide) ?_ ?_
          · exact s_X11_share_55 X hJ
          · refine s_aload X dX11_share_43 ?_
            refine s_iload X dX11_share_45 ?_
            refine s_callVr X (m_X0_has l) tw_742 tw_399 tw_400 tw_122 tw_401 rfl (by decide +kernel) ⟨by decide, by decide⟩ dX11_share_47 ?_
            refine s_if_ne X (tgt := 55) dX11_share_50 (by decide) ?_ ?_
            · exact s_X11_share_55 X hJ
            · refine s_iconst X ⟨by decide, by decide⟩ dX11_share_53 ?_
              exact s_iret X dX11_share_54
        · exact s_X11_share_35 X hJ

def spr_X11_share : List qV → qW → (Option qV → Prop) → Prop := fun av w Q => ∃ (tp : Nat → Int) (ct : Nat → Int) (ln : Int) (fa : Int) (pl : Int) (b0f1 : Nat → Int) (b0f2 : Nat → Int) (b0f3 : Nat → Int) (b0f4 : Nat → Int) (b0f5 : Nat → Int) (b0f6 : Nat → Int) (b0f7 : Nat → Int) (b0u0 : Int) (b0u1 : Int) (b0u2 : Int) (b0u3 : Int) (b0u4 : Int) (b1f1 : Nat → Int) (b1f2 : Nat → Int) (b1f3 : Nat → Int) (b1f4 : Nat → Int) (b1f5 : Nat → Int) (b1f6 : Nat → Int) (b1f7 : Nat → Int) (b1u0 : Int) (b1u1 : Int) (b1u2 : Int) (b1u3 : Int) (b1u4 : Int) (a : Int) (b : Int) (cc : Int) (dd : Int), av = [q2 0, q1 a, q1 b, q1 cc, q1 dd] ∧ w = [.inr (11, [q2 1, q2 21, q2 22, q2 23, q2 24, q2 25, q2 26, q2 27]), .inr (8, [q2 2, q2 3, q2 4, q2 28, q2 29, q2 30, q1 ln, q1 fa, q1 pl]), .inl (1, 600, .inl tp), .inl (0, 4, .inl ct), .inl (4, 2, .inr (.inr [some 5, some 13])), .inr (0, [q2 6, q2 7, q2 8, q2 9, q2 10, q2 11, q2 12, q1 b0u0, q1 b0u1, q1 b0u2, q1 b0u3, q1 b0u4]), .inl (0, 8, .inl b0f1), .inl (0, 8, .inl b0f2), .inl (0, 4, .inl b0f3), .inl (0, 32, .inl b0f4), .inl (0, 6, .inl b0f5), .inl (0, 6, .inl b0f6), .inl (0, 6, .inl b0f7), .inr (0, [q2 14, q2 15, q2 16, q2 17, q2 18, q2 19, q2 20, q1 b1u0, q1 b1u1, q1 b1u2, q1 b1u3, q1 b1u4]), .inl (0, 8, .inl b1f1), .inl (0, 8, .inl b1f2), .inl (0, 4, .inl b1f3), .inl (0, 32, .inl b1f4), .inl (0, 6, .inl b1f5), .inl (0, 6, .inl b1f6), .inl (0, 6, .inl b1f7)] ∧ (q_rg 0 2 ct) ∧ (0 ≤ ln ∧ ln ≤ 600) ∧ (0 ≤ b0u0 ∧ b0u0 ≤ 8 ∧ 0 ≤ b0u3 ∧ b0u3 ≤ 6 ∧ 0 ≤ b0u4 ∧ b0u4 ≤ 6) ∧ (q_rg 0 9 b0f3) ∧ (0 ≤ b1u0 ∧ b1u0 ≤ 8 ∧ 0 ≤ b1u3 ∧ b1u3 ≤ 6 ∧ 0 ≤ b1u4 ∧ b1u4 ≤ 6) ∧ (q_rg 0 9 b1f3) ∧ (∀ (r : Int) , Q (some (q1 r)))
def sp_X11_share : qS := fun av w Q => spr_X11_share av w (fun r => Q r w)
set_option maxHeartbeats 4000000 in
set_option maxRecDepth 100000 in
theorem m_X11_share (l : Launch) : q_M l yX11_share cX11_share 6 (some .int) 2 49 sp_X11_share := by
  refine q_meth (by decide) (fun av w Q h => by obtain ⟨tp, ct, ln, fa, pl, b0f1, b0f2, b0f3, b0f4, b0f5, b0f6, b0f7, b0u0, b0u1, b0u2, b0u3, b0u4, b1f1, b1f2, b1f3, b1f4, b1f5, b1f6, b1f7, b1u0, b1u1, b1u2, b1u3, b1u4, a, b, cc, dd, rfl, rfl, hct, hln, hb0, hf0, hb1, hf1, hQ⟩ := h; exact Nat.le_of_ble_eq_true rfl) ?_
  intro p e R s m args below meth c dC dI k g A av w Q hsp oka okw X
  obtain ⟨tp, ct, ln, fa, pl, b0f1, b0f2, b0f3, b0f4, b0f5, b0f6, b0f7, b0u0, b0u1, b0u2, b0u3, b0u4, b1f1, b1f2, b1f3, b1f4, b1f5, b1f6, b1f7, b1u0, b1u1, b1u2, b1u3, b1u4, a, b, cc, dd, rfl, rfl, hct, hln, hb0, hf0, hb1, hf1, hQ⟩ := hsp
  have o_a : -2147483648 ≤ a ∧ a ≤ 2147483647 := oka _ (List.mem_of_getElem? (i := 1) rfl)
  have o_b : -2147483648 ≤ b ∧ b ≤ 2147483647 := oka _ (List.mem_of_getElem? (i := 2) rfl)
  have o_cc : -2147483648 ≤ cc ∧ cc ≤ 2147483647 := oka _ (List.mem_of_getElem? (i := 3) rfl)
  have o_dd : -2147483648 ≤ dd ∧ dd ≤ 2147483647 := oka _ (List.mem_of_getElem? (i := 4) rfl)
  refine s_mono (s_X11_share_0 X (J := fun _ _ _ _ => False) (fun d => s_cutF)) ?_
  rintro lv st w' ⟨rfl, rfl, rfl⟩
  refine Exists.intro [1, 2, 3, 4, 28, 29, 30, 5, 13] (Exists.intro [q2 0, q1 _] (Exists.intro ((wT4_0 _ _ _ _ _)) (And.intro rfl (And.intro rfl (And.intro rfl (And.intro ⟨⟨_, rfl⟩, rfl⟩ ?_))))))
  refine Exists.intro _ (Exists.intro _ (Exists.intro _ (Exists.intro _ (Exists.intro _ (Exists.intro _ (And.intro rfl (And.intro rfl (?_))))))))
  intro z5 h5
  rcases h5 with rfl | ⟨rfl, rfl⟩ | ⟨rfl, rfl⟩
  · exact hQ _
  · refine Exists.intro [5, 6, 7, 8, 9, 10, 11, 12] (Exists.intro [q2 0, q1 _] (Exists.intro (wB _ _ _ _ _ _ _ _ _ _ _ _) (And.intro rfl (And.intro rfl (And.intro rfl (And.intro ⟨⟨_, rfl⟩, rfl⟩ ?_))))))
    refine Exists.intro _ (Exists.intro _ (Exists.intro _ (Exists.intro _ (Exists.intro _ (Exists.intro _ (Exists.intro _ (Exists.intro _ (Exists.intro _ (Exists.intro _ (Exists.intro _ (Exists.intro _ (Exists.intro _ (And.intro rfl (And.intro rfl (?_)))))))))))))))
    intro z18 h18
    apply And.intro
    · intro h21
      exact hQ _
    · intro h21
      apply And.intro
      · intro h26
        exact hQ _
      · intro h26
        apply And.intro
        · intro h32
          apply And.intro
          · intro h40
            refine Exists.intro [5, 6, 7, 8, 9, 10, 11, 12] (Exists.intro [q2 0, q1 _, q1 _, q1 _] (Exists.intro (wB _ _ _ _ _ _ _ _ _ _ _ _) (And.intro rfl (And.intro rfl (And.intro rfl (And.intro ⟨⟨_, rfl⟩, rfl⟩ ?_))))))
            refine Exists.intro _ (Exists.intro _ (Exists.intro _ (Exists.intro _ (Exists.intro _ (Exists.intro _ (Exists.intro _ (Exists.intro _ (Exists.intro _ (Exists.intro _ (Exists.intro _ (Exists.intro _ (Exists.intro _ (Exists.intro _ (Exists.intro _ (And.intro rfl (And.intro rfl (And.intro (by first | omega | assumption | exact q_rg_up (by assumption) (by omega) | exact q_rg_up (q_rg_up (by assumption) (by omega)) (by omega) | exact q_rg_cpy (by assumption) (by assumption)) (?_))))))))))))))))))
            intro z61
            exact hQ _
          · intro h40
            refine Exists.intro [5, 6, 7, 8, 9, 10, 11, 12] (Exists.intro [q2 0, q1 _] (Exists.intro (wB _ _ _ _ _ _ _ _ _ _ _ _) (And.intro rfl (And.intro rfl (And.intro rfl (And.intro ⟨⟨_, rfl⟩, rfl⟩ ?_))))))
            refine Exists.intro _ (Exists.intro _ (Exists.intro _ (Exists.intro _ (Exists.intro _ (Exists.intro _ (Exists.intro _ (Exists.intro _ (Exists.intro _ (Exists.intro _ (Exists.intro _ (Exists.intro _ (Exists.intro _ (And.intro rfl (And.intro rfl (?_)))))))))))))))
            intro z47 h47
            apply And.intro
            · intro h50
              refine Exists.intro [5, 6, 7, 8, 9, 10, 11, 12] (Exists.intro [q2 0, q1 _, q1 _, q1 _] (Exists.intro (wB _ _ _ _ _ _ _ _ _ _ _ _) (And.intro rfl (And.intro rfl (And.intro rfl (And.intro ⟨⟨_, rfl⟩, rfl⟩ ?_))))))
              refine Exists.intro _ (Exists.intro _ (Exists.intro _ (Exists.intro _ (Exists.intro _ (Exists.intro _ (Exists.intro _ (Exists.intro _ (Exists.intro _ (Exists.intro _ (Exists.intro _ (Exists.intro _ (Exists.intro _ (Exists.intro _ (Exists.intro _ (And.intro rfl (And.intro rfl (And.intro (by first | omega | assumption | exact q_rg_up (by assumption) (by omega) | exact q_rg_up (q_rg_up (by assumption) (by omega)) (by omega) | exact q_rg_cpy (by assumption) (by assumption)) (?_))))))))))))))))))
              intro z61
              exact hQ _
            · intro h50
              exact hQ _
        · intro h32
          exact hQ _
  · refine Exists.intro [13, 14, 15, 16, 17, 18, 19, 20] (Exists.intro [q2 0, q1 _] (Exists.intro (wB _ _ _ _ _ _ _ _ _ _ _ _) (And.intro rfl (And.intro rfl (And.intro rfl (And.intro ⟨⟨_, rfl⟩, rfl⟩ ?_))))))
    refine Exists.intro _ (Exists.intro _ (Exists.intro _ (Exists.intro _ (Exists.intro _ (Exists.intro _ (Exists.intro _ (Exists.intro _ (Exists.intro _ (Exists.intro _ (Exists.intro _ (Exists.intro _ (Exists.intro _ (And.intro rfl (And.intro rfl (?_)))))))))))))))
    intro z18 h18
    apply And.intro
    · intro h21
      exact hQ _
    · intro h21
      apply And.intro
      · intro h26
        exact hQ _
      · intro h26
        apply And.intro
        · intro h32
          apply And.intro
          · intro h40
            refine Exists.intro [13, 14, 15, 16, 17, 18, 19, 20] (Exists.intro [q2 0, q1 _, q1 _, q1 _] (Exists.intro (wB _ _ _ _ _ _ _ _ _ _ _ _) (And.intro rfl (And.intro rfl (And.intro rfl (And.intro ⟨⟨_, rfl⟩, rfl⟩ ?_))))))
            refine Exists.intro _ (Exists.intro _ (Exists.intro _ (Exists.intro _ (Exists.intro _ (Exists.intro _ (Exists.intro _ (Exists.intro _ (Exists.intro _ (Exists.intro _ (Exists.intro _ (Exists.intro _ (Exists.intro _ (Exists.intro _ (Exists.intro _ (And.intro rfl (And.intro rfl (And.intro (by first | omega | assumption | exact q_rg_up (by assumption) (by omega) | exact q_rg_up (q_rg_up (by assumption) (by omega)) (by omega) | exact q_rg_cpy (by assumption) (by assumption)) (?_))))))))))))))))))
            intro z61
            exact hQ _
          · intro h40
            refine Exists.intro [13, 14, 15, 16, 17, 18, 19, 20] (Exists.intro [q2 0, q1 _] (Exists.intro (wB _ _ _ _ _ _ _ _ _ _ _ _) (And.intro rfl (And.intro rfl (And.intro rfl (And.intro ⟨⟨_, rfl⟩, rfl⟩ ?_))))))
            refine Exists.intro _ (Exists.intro _ (Exists.intro _ (Exists.intro _ (Exists.intro _ (Exists.intro _ (Exists.intro _ (Exists.intro _ (Exists.intro _ (Exists.intro _ (Exists.intro _ (Exists.intro _ (Exists.intro _ (And.intro rfl (And.intro rfl (?_)))))))))))))))
            intro z47 h47
            apply And.intro
            · intro h50
              refine Exists.intro [13, 14, 15, 16, 17, 18, 19, 20] (Exists.intro [q2 0, q1 _, q1 _, q1 _] (Exists.intro (wB _ _ _ _ _ _ _ _ _ _ _ _) (And.intro rfl (And.intro rfl (And.intro rfl (And.intro ⟨⟨_, rfl⟩, rfl⟩ ?_))))))
              refine Exists.intro _ (Exists.intro _ (Exists.intro _ (Exists.intro _ (Exists.intro _ (Exists.intro _ (Exists.intro _ (Exists.intro _ (Exists.intro _ (Exists.intro _ (Exists.intro _ (Exists.intro _ (Exists.intro _ (Exists.intro _ (Exists.intro _ (And.intro rfl (And.intro rfl (And.intro (by first | omega | assumption | exact q_rg_up (by assumption) (by omega) | exact q_rg_up (q_rg_up (by assumption) (by omega)) (by omega) | exact q_rg_cpy (by assumption) (by assumption)) (?_))))))))))))))))))
              intro z61
              exact hQ _
            · intro h50
              exact hQ _
        · intro h32
          exact hQ _

theorem dX11_elder_0 : decode cX11_elder 0 = .ok (.aload_n 0, 1) := by decide +kernel
theorem dX11_elder_1 : decode cX11_elder 1 = .ok (.getfield 10, 3) := by decide +kernel
theorem dX11_elder_4 : decode cX11_elder 4 = .ok (.iload_n 1, 1) := by decide +kernel
theorem dX11_elder_5 : decode cX11_elder 5 = .ok (.invokevirtual 94, 3) := by decide +kernel
theorem dX11_elder_8 : decode cX11_elder 8 = .ok (.astore 4, 2) := by decide +kernel
theorem dX11_elder_10 : decode cX11_elder 10 = .ok (.aload 4, 2) := by decide +kernel
theorem dX11_elder_12 : decode cX11_elder 12 = .ok (.ifnull 21, 3) := by decide +kernel
theorem dX11_elder_15 : decode cX11_elder 15 = .ok (.aload 4, 2) := by decide +kernel
theorem dX11_elder_17 : decode cX11_elder 17 = .ok (.iload_n 2, 1) := by decide +kernel
theorem dX11_elder_18 : decode cX11_elder 18 = .ok (.invokevirtual 173, 3) := by decide +kernel
theorem dX11_elder_21 : decode cX11_elder 21 = .ok (.ifCond .eq 12, 3) := by decide +kernel
theorem dX11_elder_24 : decode cX11_elder 24 = .ok (.aload 4, 2) := by decide +kernel
theorem dX11_elder_26 : decode cX11_elder 26 = .ok (.iload_n 3, 1) := by decide +kernel
theorem dX11_elder_27 : decode cX11_elder 27 = .ok (.invokevirtual 173, 3) := by decide +kernel
theorem dX11_elder_30 : decode cX11_elder 30 = .ok (.ifCond .ne 5, 3) := by decide +kernel
theorem dX11_elder_33 : decode cX11_elder 33 = .ok (.iconst (-1), 1) := by decide +kernel
theorem dX11_elder_34 : decode cX11_elder 34 = .ok (.ireturn, 1) := by decide +kernel
theorem dX11_elder_35 : decode cX11_elder 35 = .ok (.aload 4, 2) := by decide +kernel
theorem dX11_elder_37 : decode cX11_elder 37 = .ok (.iload_n 2, 1) := by decide +kernel
theorem dX11_elder_38 : decode cX11_elder 38 = .ok (.iload_n 3, 1) := by decide +kernel
theorem dX11_elder_39 : decode cX11_elder 39 = .ok (.invokevirtual 181, 3) := by decide +kernel
theorem dX11_elder_42 : decode cX11_elder 42 = .ok (.ireturn, 1) := by decide +kernel
def is_X11_elder : Nat → List Nat := fun d => []
set_option maxRecDepth 100000 in
def b_X11_elder_33 (J : Nat → List qV → List qV → qW → Prop) (Q : qR) : qK := x_int (-1) (x_iret Q)
set_option maxRecDepth 100000 in
theorem s_X11_elder_33 {p : Program} {l : Launch} {e : Env} {R : Room} {s : State} {m : MethodId} {args : Array Value} {below : List Frame} {meth : Method} {c : Code} {nW : Nat} {dC : Nat → ClassId} {dI : Nat → Nat → Nat} {k : Nat → ClassId} {g : Nat → Nat} {A : Nat → Prop} {J : Nat → List qV → List qV → qW → Prop} {Q : qR} (X : q_X p R s m args meth c cX11_elder 5 nW 3 69 RX11 (some .int) dC dI k g A) (hJ : ∀ d : Nat, q_Sd p l e R s m args below meth c 5 nW dC dI k g A (MQ below (q_post (dC, dI) k g nW Q A) args s 0 0 A) d (x_cut (is_X11_elder d) (J d))) : q_Sd p l e R s m args below meth c 5 nW dC dI k g A (MQ below (q_post (dC, dI) k g nW Q A) args s 0 0 A) 33 (b_X11_elder_33 J Q) := by
  unfold b_X11_elder_33
  refine s_iconst X ⟨by decide, by decide⟩ dX11_elder_33 ?_
  exact s_iret X dX11_elder_34
set_option maxRecDepth 100000 in
def b_X11_elder_0 (J : Nat → List qV → List qV → qW → Prop) (Q : qR) : qK := x_aload 0 (x_get 11 0 (x_iload 1 (x_callr (some 8) 2 spr_X8_boroughAt (x_astore 4 (x_aload 4 (x_ifnull (b_X11_elder_33 J Q) (x_aload 4 (x_iload 2 (x_callr (some 0) 2 spr_X0_has (x_if_eq (b_X11_elder_33 J Q) (x_aload 4 (x_iload 3 (x_callr (some 0) 2 spr_X0_has (x_if_ne (x_aload 4 (x_iload 2 (x_iload 3 (x_callr (some 0) 3 spr_X0_commonForbear (x_iret Q))))) (b_X11_elder_33 J Q)))))))))))))))
set_option maxRecDepth 100000 in
theorem s_X11_elder_0 {p : Program} {l : Launch} {e : Env} {R : Room} {s : State} {m : MethodId} {args : Array Value} {below : List Frame} {meth : Method} {c : Code} {nW : Nat} {dC : Nat → ClassId} {dI : Nat → Nat → Nat} {k : Nat → ClassId} {g : Nat → Nat} {A : Nat → Prop} {J : Nat → List qV → List qV → qW → Prop} {Q : qR} (X : q_X p R s m args meth c cX11_elder 5 nW 3 69 RX11 (some .int) dC dI k g A) (hJ : ∀ d : Nat, q_Sd p l e R s m args below meth c 5 nW dC dI k g A (MQ below (q_post (dC, dI) k g nW Q A) args s 0 0 A) d (x_cut (is_X11_elder d) (J d))) : q_Sd p l e R s m args below meth c 5 nW dC dI k g A (MQ below (q_post (dC, dI) k g nW Q A) args s 0 0 A) 0 (b_X11_elder_0 J Q) := by
  unfold b_X11_elder_0
  refine s_aload_n X rfl dX11_elder_0 ?_
  refine s_get X (T := TX11) (C := RX11) (N := 8) tu_X11 rfl (by decide) tw_326 dX11_elder_1 ?_
  refine s_iload_n X rfl dX11_elder_4 ?_
  refine s_callVr X (m_X8_boroughAt l) tw_541 tw_542 tw_543 tw_121 tw_544 rfl (by decide +kernel) ⟨by decide, by decide⟩ dX11_elder_5 ?_
  refine s_astore X (by decide) dX11_elder_8 ?_
  refine s_aload X dX11_elder_10 ?_
  refine s_ifnull X (tgt := 33) dX11_elder_12 (by decide) ?_ ?_
  · exact s_X11_elder_33 X hJ
  · refine s_aload X dX11_elder_15 ?_
    refine s_iload_n X rfl dX11_elder_17 ?_
    refine s_callVr X (m_X0_has l) tw_742 tw_399 tw_400 tw_122 tw_401 rfl (by decide +kernel) ⟨by decide, by decide⟩ dX11_elder_18 ?_
    refine s_if_eq X (tgt := 33) dX11_elder_21 (by decide) ?_ ?_
    · exact s_X11_elder_33 X hJ
    · refine s_aload X dX11_elder_24 ?_
      refine s_iload_n X rfl dX11_elder_26 ?_
      refine s_callVr X (m_X0_has l) tw_742 tw_399 tw_400 tw_122 tw_401 rfl (by decide +kernel) ⟨by decide, by decide⟩ dX11_elder_27 ?_
      refine s_if_ne X (tgt := 35) dX11_elder_30 (by decide) ?_ ?_
      · refine s_aload X dX11_elder_35 ?_
        refine s_iload_n X rfl dX11_elder_37 ?_
        refine s_iload_n X rfl dX11_elder_38 ?_
        refine s_callVr X (m_X0_commonForbear l) tw_752 tw_753 tw_754 tw_122 tw_755 rfl (by decide +kernel) ⟨by decide, by decide⟩ dX11_elder_39 ?_
        exact s_iret X dX11_elder_42
      · exact s_X11_elder_33 X hJ

def spr_X11_elder : List qV → qW → (Option qV → Prop) → Prop := fun av w Q => ∃ (tp : Nat → Int) (ct : Nat → Int) (ln : Int) (fa : Int) (pl : Int) (b0f1 : Nat → Int) (b0f2 : Nat → Int) (b0f3 : Nat → Int) (b0f4 : Nat → Int) (b0f5 : Nat → Int) (b0f6 : Nat → Int) (b0f7 : Nat → Int) (b0u0 : Int) (b0u1 : Int) (b0u2 : Int) (b0u3 : Int) (b0u4 : Int) (b1f1 : Nat → Int) (b1f2 : Nat → Int) (b1f3 : Nat → Int) (b1f4 : Nat → Int) (b1f5 : Nat → Int) (b1f6 : Nat → Int) (b1f7 : Nat → Int) (b1u0 : Int) (b1u1 : Int) (b1u2 : Int) (b1u3 : Int) (b1u4 : Int) (a : Int) (b : Int) (cc : Int), av = [q2 0, q1 a, q1 b, q1 cc] ∧ w = [.inr (11, [q2 1, q2 21, q2 22, q2 23, q2 24, q2 25, q2 26, q2 27]), .inr (8, [q2 2, q2 3, q2 4, q2 28, q2 29, q2 30, q1 ln, q1 fa, q1 pl]), .inl (1, 600, .inl tp), .inl (0, 4, .inl ct), .inl (4, 2, .inr (.inr [some 5, some 13])), .inr (0, [q2 6, q2 7, q2 8, q2 9, q2 10, q2 11, q2 12, q1 b0u0, q1 b0u1, q1 b0u2, q1 b0u3, q1 b0u4]), .inl (0, 8, .inl b0f1), .inl (0, 8, .inl b0f2), .inl (0, 4, .inl b0f3), .inl (0, 32, .inl b0f4), .inl (0, 6, .inl b0f5), .inl (0, 6, .inl b0f6), .inl (0, 6, .inl b0f7), .inr (0, [q2 14, q2 15, q2 16, q2 17, q2 18, q2 19, q2 20, q1 b1u0, q1 b1u1, q1 b1u2, q1 b1u3, q1 b1u4]), .inl (0, 8, .inl b1f1), .inl (0, 8, .inl b1f2), .inl (0, 4, .inl b1f3), .inl (0, 32, .inl b1f4), .inl (0, 6, .inl b1f5), .inl (0, 6, .inl b1f6), .inl (0, 6, .inl b1f7)] ∧ (q_rg 0 2 ct) ∧ (0 ≤ ln ∧ ln ≤ 600) ∧ (0 ≤ b0u0 ∧ b0u0 ≤ 8 ∧ 0 ≤ b0u3 ∧ b0u3 ≤ 6 ∧ 0 ≤ b0u4 ∧ b0u4 ≤ 6) ∧ (q_rg 0 9 b0f3) ∧ (0 ≤ b1u0 ∧ b1u0 ≤ 8 ∧ 0 ≤ b1u3 ∧ b1u3 ≤ 6 ∧ 0 ≤ b1u4 ∧ b1u4 ≤ 6) ∧ (q_rg 0 9 b1f3) ∧ (∀ (r : Int) , Q (some (q1 r)))
def sp_X11_elder : qS := fun av w Q => spr_X11_elder av w (fun r => Q r w)
set_option maxHeartbeats 4000000 in
set_option maxRecDepth 100000 in
theorem m_X11_elder (l : Launch) : q_M l yX11_elder cX11_elder 5 (some .int) 3 69 sp_X11_elder := by
  refine q_meth (by decide) (fun av w Q h => by obtain ⟨tp, ct, ln, fa, pl, b0f1, b0f2, b0f3, b0f4, b0f5, b0f6, b0f7, b0u0, b0u1, b0u2, b0u3, b0u4, b1f1, b1f2, b1f3, b1f4, b1f5, b1f6, b1f7, b1u0, b1u1, b1u2, b1u3, b1u4, a, b, cc, rfl, rfl, hct, hln, hb0, hf0, hb1, hf1, hQ⟩ := h; exact Nat.le_of_ble_eq_true rfl) ?_
  intro p e R s m args below meth c dC dI k g A av w Q hsp oka okw X
  obtain ⟨tp, ct, ln, fa, pl, b0f1, b0f2, b0f3, b0f4, b0f5, b0f6, b0f7, b0u0, b0u1, b0u2, b0u3, b0u4, b1f1, b1f2, b1f3, b1f4, b1f5, b1f6, b1f7, b1u0, b1u1, b1u2, b1u3, b1u4, a, b, cc, rfl, rfl, hct, hln, hb0, hf0, hb1, hf1, hQ⟩ := hsp
  have o_a : -2147483648 ≤ a ∧ a ≤ 2147483647 := oka _ (List.mem_of_getElem? (i := 1) rfl)
  have o_b : -2147483648 ≤ b ∧ b ≤ 2147483647 := oka _ (List.mem_of_getElem? (i := 2) rfl)
  have o_cc : -2147483648 ≤ cc ∧ cc ≤ 2147483647 := oka _ (List.mem_of_getElem? (i := 3) rfl)
  refine s_mono (s_X11_elder_0 X (J := fun _ _ _ _ => False) (fun d => s_cutF)) ?_
  rintro lv st w' ⟨rfl, rfl, rfl⟩
  refine Exists.intro [1, 2, 3, 4, 28, 29, 30, 5, 13] (Exists.intro [q2 0, q1 _] (Exists.intro ((wT4_0 _ _ _ _ _)) (And.intro rfl (And.intro rfl (And.intro rfl (And.intro ⟨⟨_, rfl⟩, rfl⟩ ?_))))))
  refine Exists.intro _ (Exists.intro _ (Exists.intro _ (Exists.intro _ (Exists.intro _ (Exists.intro _ (And.intro rfl (And.intro rfl (?_))))))))
  intro z5 h5
  rcases h5 with rfl | ⟨rfl, rfl⟩ | ⟨rfl, rfl⟩
  · exact hQ _
  · refine Exists.intro [5, 6, 7, 8, 9, 10, 11, 12] (Exists.intro [q2 0, q1 _] (Exists.intro (wB _ _ _ _ _ _ _ _ _ _ _ _) (And.intro rfl (And.intro rfl (And.intro rfl (And.intro ⟨⟨_, rfl⟩, rfl⟩ ?_))))))
    refine Exists.intro _ (Exists.intro _ (Exists.intro _ (Exists.intro _ (Exists.intro _ (Exists.intro _ (Exists.intro _ (Exists.intro _ (Exists.intro _ (Exists.intro _ (Exists.intro _ (Exists.intro _ (Exists.intro _ (And.intro rfl (And.intro rfl (?_)))))))))))))))
    intro z18 h18
    apply And.intro
    · intro h21
      exact hQ _
    · intro h21
      refine Exists.intro [5, 6, 7, 8, 9, 10, 11, 12] (Exists.intro [q2 0, q1 _] (Exists.intro (wB _ _ _ _ _ _ _ _ _ _ _ _) (And.intro rfl (And.intro rfl (And.intro rfl (And.intro ⟨⟨_, rfl⟩, rfl⟩ ?_))))))
      refine Exists.intro _ (Exists.intro _ (Exists.intro _ (Exists.intro _ (Exists.intro _ (Exists.intro _ (Exists.intro _ (Exists.intro _ (Exists.intro _ (Exists.intro _ (Exists.intro _ (Exists.intro _ (Exists.intro _ (And.intro rfl (And.intro rfl (?_)))))))))))))))
      intro z27 h27
      apply And.intro
      · intro h30
        refine Exists.intro [5, 6, 7, 8, 9, 10, 11, 12] (Exists.intro [q2 0, q1 _, q1 _] (Exists.intro (wB _ _ _ _ _ _ _ _ _ _ _ _) (And.intro rfl (And.intro rfl (And.intro rfl (And.intro ⟨⟨_, rfl⟩, rfl⟩ ?_))))))
        refine Exists.intro _ (Exists.intro _ (Exists.intro _ (Exists.intro _ (Exists.intro _ (Exists.intro _ (Exists.intro _ (Exists.intro _ (Exists.intro _ (Exists.intro _ (Exists.intro _ (Exists.intro _ (Exists.intro _ (Exists.intro _ (And.intro rfl (And.intro rfl (And.intro (by first | omega | assumption | exact q_rg_up (by assumption) (by omega) | exact q_rg_up (q_rg_up (by assumption) (by omega)) (by omega) | exact q_rg_cpy (by assumption) (by assumption)) (?_)))))))))))))))))
        intro z39
        exact hQ _
      · intro h30
        exact hQ _
  · refine Exists.intro [13, 14, 15, 16, 17, 18, 19, 20] (Exists.intro [q2 0, q1 _] (Exists.intro (wB _ _ _ _ _ _ _ _ _ _ _ _) (And.intro rfl (And.intro rfl (And.intro rfl (And.intro ⟨⟨_, rfl⟩, rfl⟩ ?_))))))
    refine Exists.intro _ (Exists.intro _ (Exists.intro _ (Exists.intro _ (Exists.intro _ (Exists.intro _ (Exists.intro _ (Exists.intro _ (Exists.intro _ (Exists.intro _ (Exists.intro _ (Exists.intro _ (Exists.intro _ (And.intro rfl (And.intro rfl (?_)))))))))))))))
    intro z18 h18
    apply And.intro
    · intro h21
      exact hQ _
    · intro h21
      refine Exists.intro [13, 14, 15, 16, 17, 18, 19, 20] (Exists.intro [q2 0, q1 _] (Exists.intro (wB _ _ _ _ _ _ _ _ _ _ _ _) (And.intro rfl (And.intro rfl (And.intro rfl (And.intro ⟨⟨_, rfl⟩, rfl⟩ ?_))))))
      refine Exists.intro _ (Exists.intro _ (Exists.intro _ (Exists.intro _ (Exists.intro _ (Exists.intro _ (Exists.intro _ (Exists.intro _ (Exists.intro _ (Exists.intro _ (Exists.intro _ (Exists.intro _ (Exists.intro _ (And.intro rfl (And.intro rfl (?_)))))))))))))))
      intro z27 h27
      apply And.intro
      · intro h30
        refine Exists.intro [13, 14, 15, 16, 17, 18, 19, 20] (Exists.intro [q2 0, q1 _, q1 _] (Exists.intro (wB _ _ _ _ _ _ _ _ _ _ _ _) (And.intro rfl (And.intro rfl (And.intro rfl (And.intro ⟨⟨_, rfl⟩, rfl⟩ ?_))))))
        refine Exists.intro _ (Exists.intro _ (Exists.intro _ (Exists.intro _ (Exists.intro _ (Exists.intro _ (Exists.intro _ (Exists.intro _ (Exists.intro _ (Exists.intro _ (Exists.intro _ (Exists.intro _ (Exists.intro _ (Exists.intro _ (And.intro rfl (And.intro rfl (And.intro (by first | omega | assumption | exact q_rg_up (by assumption) (by omega) | exact q_rg_up (q_rg_up (by assumption) (by omega)) (by omega) | exact q_rg_cpy (by assumption) (by assumption)) (?_)))))))))))))))))
        intro z39
        exact hQ _
      · intro h30
        exact hQ _

theorem dX11_family_0 : decode cX11_family 0 = .ok (.aload_n 0, 1) := by decide +kernel
theorem dX11_family_1 : decode cX11_family 1 = .ok (.getfield 10, 3) := by decide +kernel
theorem dX11_family_4 : decode cX11_family 4 = .ok (.iload_n 1, 1) := by decide +kernel
theorem dX11_family_5 : decode cX11_family 5 = .ok (.invokevirtual 94, 3) := by decide +kernel
theorem dX11_family_8 : decode cX11_family 8 = .ok (.astore 4, 2) := by decide +kernel
theorem dX11_family_10 : decode cX11_family 10 = .ok (.aload 4, 2) := by decide +kernel
theorem dX11_family_12 : decode cX11_family 12 = .ok (.ifnull 12, 3) := by decide +kernel
theorem dX11_family_15 : decode cX11_family 15 = .ok (.aload 4, 2) := by decide +kernel
theorem dX11_family_17 : decode cX11_family 17 = .ok (.iload_n 2, 1) := by decide +kernel
theorem dX11_family_18 : decode cX11_family 18 = .ok (.invokevirtual 173, 3) := by decide +kernel
theorem dX11_family_21 : decode cX11_family 21 = .ok (.ifCond .ne 5, 3) := by decide +kernel
theorem dX11_family_24 : decode cX11_family 24 = .ok (.iconst (-1), 1) := by decide +kernel
theorem dX11_family_25 : decode cX11_family 25 = .ok (.ireturn, 1) := by decide +kernel
theorem dX11_family_26 : decode cX11_family 26 = .ok (.iload_n 3, 1) := by decide +kernel
theorem dX11_family_27 : decode cX11_family 27 = .ok (.tableswitch 46 0 2 #[25, 32, 39], 25) := by decide +kernel
theorem dX11_family_52 : decode cX11_family 52 = .ok (.aload 4, 2) := by decide +kernel
theorem dX11_family_54 : decode cX11_family 54 = .ok (.iload_n 2, 1) := by decide +kernel
theorem dX11_family_55 : decode cX11_family 55 = .ok (.invokevirtual 247, 3) := by decide +kernel
theorem dX11_family_58 : decode cX11_family 58 = .ok (.ireturn, 1) := by decide +kernel
theorem dX11_family_59 : decode cX11_family 59 = .ok (.aload 4, 2) := by decide +kernel
theorem dX11_family_61 : decode cX11_family 61 = .ok (.iload_n 2, 1) := by decide +kernel
theorem dX11_family_62 : decode cX11_family 62 = .ok (.invokevirtual 250, 3) := by decide +kernel
theorem dX11_family_65 : decode cX11_family 65 = .ok (.ireturn, 1) := by decide +kernel
theorem dX11_family_66 : decode cX11_family 66 = .ok (.aload 4, 2) := by decide +kernel
theorem dX11_family_68 : decode cX11_family 68 = .ok (.iload_n 2, 1) := by decide +kernel
theorem dX11_family_69 : decode cX11_family 69 = .ok (.invokevirtual 253, 3) := by decide +kernel
theorem dX11_family_72 : decode cX11_family 72 = .ok (.ireturn, 1) := by decide +kernel
theorem dX11_family_73 : decode cX11_family 73 = .ok (.iconst (-1), 1) := by decide +kernel
theorem dX11_family_74 : decode cX11_family 74 = .ok (.ireturn, 1) := by decide +kernel
def is_X11_family : Nat → List Nat := fun d => []
set_option maxRecDepth 100000 in
def b_X11_family_24 (J : Nat → List qV → List qV → qW → Prop) (Q : qR) : qK := x_int (-1) (x_iret Q)
set_option maxRecDepth 100000 in
theorem s_X11_family_24 {p : Program} {l : Launch} {e : Env} {R : Room} {s : State} {m : MethodId} {args : Array Value} {below : List Frame} {meth : Method} {c : Code} {nW : Nat} {dC : Nat → ClassId} {dI : Nat → Nat → Nat} {k : Nat → ClassId} {g : Nat → Nat} {A : Nat → Prop} {J : Nat → List qV → List qV → qW → Prop} {Q : qR} (X : q_X p R s m args meth c cX11_family 5 nW 3 68 RX11 (some .int) dC dI k g A) (hJ : ∀ d : Nat, q_Sd p l e R s m args below meth c 5 nW dC dI k g A (MQ below (q_post (dC, dI) k g nW Q A) args s 0 0 A) d (x_cut (is_X11_family d) (J d))) : q_Sd p l e R s m args below meth c 5 nW dC dI k g A (MQ below (q_post (dC, dI) k g nW Q A) args s 0 0 A) 24 (b_X11_family_24 J Q) := by
  unfold b_X11_family_24
  refine s_iconst X ⟨by decide, by decide⟩ dX11_family_24 ?_
  exact s_iret X dX11_family_25
set_option maxRecDepth 100000 in
def b_X11_family_0 (J : Nat → List qV → List qV → qW → Prop) (Q : qR) : qK := x_aload 0 (x_get 11 0 (x_iload 1 (x_callr (some 8) 2 spr_X8_boroughAt (x_astore 4 (x_aload 4 (x_ifnull (b_X11_family_24 J Q) (x_aload 4 (x_iload 2 (x_callr (some 0) 2 spr_X0_has (x_if_ne (x_iload 3 (x_sw 0 2 [x_aload 4 (x_iload 2 (x_callr (some 0) 2 spr_X0_familyOf (x_iret Q))), x_aload 4 (x_iload 2 (x_callr (some 0) 2 spr_X0_familyInches (x_iret Q))), x_aload 4 (x_iload 2 (x_callr (some 0) 2 spr_X0_familySteps (x_iret Q)))] (x_int (-1) (x_iret Q)))) (b_X11_family_24 J Q)))))))))))
set_option maxRecDepth 100000 in
theorem s_X11_family_0 {p : Program} {l : Launch} {e : Env} {R : Room} {s : State} {m : MethodId} {args : Array Value} {below : List Frame} {meth : Method} {c : Code} {nW : Nat} {dC : Nat → ClassId} {dI : Nat → Nat → Nat} {k : Nat → ClassId} {g : Nat → Nat} {A : Nat → Prop} {J : Nat → List qV → List qV → qW → Prop} {Q : qR} (X : q_X p R s m args meth c cX11_family 5 nW 3 68 RX11 (some .int) dC dI k g A) (hJ : ∀ d : Nat, q_Sd p l e R s m args below meth c 5 nW dC dI k g A (MQ below (q_post (dC, dI) k g nW Q A) args s 0 0 A) d (x_cut (is_X11_family d) (J d))) : q_Sd p l e R s m args below meth c 5 nW dC dI k g A (MQ below (q_post (dC, dI) k g nW Q A) args s 0 0 A) 0 (b_X11_family_0 J Q) := by
  unfold b_X11_family_0
  refine s_aload_n X rfl dX11_family_0 ?_
  refine s_get X (T := TX11) (C := RX11) (N := 8) tu_X11 rfl (by decide) tw_326 dX11_family_1 ?_
  refine s_iload_n X rfl dX11_family_4 ?_
  refine s_callVr X (m_X8_boroughAt l) tw_541 tw_542 tw_543 tw_121 tw_544 rfl (by decide +kernel) ⟨by decide, by decide⟩ dX11_family_5 ?_
  refine s_astore X (by decide) dX11_family_8 ?_
  refine s_aload X dX11_family_10 ?_
  refine s_ifnull X (tgt := 24) dX11_family_12 (by decide) ?_ ?_
  · exact s_X11_family_24 X hJ
  · refine s_aload X dX11_family_15 ?_
    refine s_iload_n X rfl dX11_family_17 ?_
    refine s_callVr X (m_X0_has l) tw_742 tw_399 tw_400 tw_122 tw_401 rfl (by decide +kernel) ⟨by decide, by decide⟩ dX11_family_18 ?_
    refine s_if_ne X (tgt := 26) dX11_family_21 (by decide) ?_ ?_
    · refine s_iload_n X rfl dX11_family_26 ?_
      refine s_sw X (ts := [52, 59, 66]) (td := 73) dX11_family_27 (by decide) (by decide) (by decide) rfl ?_ ?_
      · intro i t K ht hK
        match i, ht, hK with
        | 0, ht, hK =>
          cases ht
          cases hK
          refine s_aload X dX11_family_52 ?_
          refine s_iload_n X rfl dX11_family_54 ?_
          refine s_callVr X (m_X0_familyOf l) tw_890 tw_891 tw_892 tw_122 tw_893 rfl (by decide +kernel) ⟨by decide, by decide⟩ dX11_family_55 ?_
          exact s_iret X dX11_family_58
        | 1, ht, hK =>
          cases ht
          cases hK
          refine s_aload X dX11_family_59 ?_
          refine s_iload_n X rfl dX11_family_61 ?_
          refine s_callVr X (m_X0_familyInches l) tw_894 tw_895 tw_896 tw_122 tw_897 rfl (by decide +kernel) ⟨by decide, by decide⟩ dX11_family_62 ?_
          exact s_iret X dX11_family_65
        | 2, ht, hK =>
          cases ht
          cases hK
          refine s_aload X dX11_family_66 ?_
          refine s_iload_n X rfl dX11_family_68 ?_
          refine s_callVr X (m_X0_familySteps l) tw_898 tw_899 tw_900 tw_122 tw_901 rfl (by decide +kernel) ⟨by decide, by decide⟩ dX11_family_69 ?_
          exact s_iret X dX11_family_72
        | i + 3, ht, hK => exact absurd ht (by simp)
      · refine s_iconst X ⟨by decide, by decide⟩ dX11_family_73 ?_
        exact s_iret X dX11_family_74
    · exact s_X11_family_24 X hJ

def spr_X11_family : List qV → qW → (Option qV → Prop) → Prop := fun av w Q => ∃ (tp : Nat → Int) (ct : Nat → Int) (ln : Int) (fa : Int) (pl : Int) (b0f1 : Nat → Int) (b0f2 : Nat → Int) (b0f3 : Nat → Int) (b0f4 : Nat → Int) (b0f5 : Nat → Int) (b0f6 : Nat → Int) (b0f7 : Nat → Int) (b0u0 : Int) (b0u1 : Int) (b0u2 : Int) (b0u3 : Int) (b0u4 : Int) (b1f1 : Nat → Int) (b1f2 : Nat → Int) (b1f3 : Nat → Int) (b1f4 : Nat → Int) (b1f5 : Nat → Int) (b1f6 : Nat → Int) (b1f7 : Nat → Int) (b1u0 : Int) (b1u1 : Int) (b1u2 : Int) (b1u3 : Int) (b1u4 : Int) (a : Int) (b : Int) (cc : Int), av = [q2 0, q1 a, q1 b, q1 cc] ∧ w = [.inr (11, [q2 1, q2 21, q2 22, q2 23, q2 24, q2 25, q2 26, q2 27]), .inr (8, [q2 2, q2 3, q2 4, q2 28, q2 29, q2 30, q1 ln, q1 fa, q1 pl]), .inl (1, 600, .inl tp), .inl (0, 4, .inl ct), .inl (4, 2, .inr (.inr [some 5, some 13])), .inr (0, [q2 6, q2 7, q2 8, q2 9, q2 10, q2 11, q2 12, q1 b0u0, q1 b0u1, q1 b0u2, q1 b0u3, q1 b0u4]), .inl (0, 8, .inl b0f1), .inl (0, 8, .inl b0f2), .inl (0, 4, .inl b0f3), .inl (0, 32, .inl b0f4), .inl (0, 6, .inl b0f5), .inl (0, 6, .inl b0f6), .inl (0, 6, .inl b0f7), .inr (0, [q2 14, q2 15, q2 16, q2 17, q2 18, q2 19, q2 20, q1 b1u0, q1 b1u1, q1 b1u2, q1 b1u3, q1 b1u4]), .inl (0, 8, .inl b1f1), .inl (0, 8, .inl b1f2), .inl (0, 4, .inl b1f3), .inl (0, 32, .inl b1f4), .inl (0, 6, .inl b1f5), .inl (0, 6, .inl b1f6), .inl (0, 6, .inl b1f7)] ∧ (q_rg 0 2 ct) ∧ (0 ≤ ln ∧ ln ≤ 600) ∧ (0 ≤ b0u0 ∧ b0u0 ≤ 8 ∧ 0 ≤ b0u3 ∧ b0u3 ≤ 6 ∧ 0 ≤ b0u4 ∧ b0u4 ≤ 6) ∧ (q_rg 0 9 b0f3) ∧ (0 ≤ b1u0 ∧ b1u0 ≤ 8 ∧ 0 ≤ b1u3 ∧ b1u3 ≤ 6 ∧ 0 ≤ b1u4 ∧ b1u4 ≤ 6) ∧ (q_rg 0 9 b1f3) ∧ (∀ (r : Int) , Q (some (q1 r)))
def sp_X11_family : qS := fun av w Q => spr_X11_family av w (fun r => Q r w)
set_option maxHeartbeats 4000000 in
set_option maxRecDepth 100000 in
theorem m_X11_family (l : Launch) : q_M l yX11_family cX11_family 5 (some .int) 3 68 sp_X11_family := by
  refine q_meth (by decide) (fun av w Q h => by obtain ⟨tp, ct, ln, fa, pl, b0f1, b0f2, b0f3, b0f4, b0f5, b0f6, b0f7, b0u0, b0u1, b0u2, b0u3, b0u4, b1f1, b1f2, b1f3, b1f4, b1f5, b1f6, b1f7, b1u0, b1u1, b1u2, b1u3, b1u4, a, b, cc, rfl, rfl, hct, hln, hb0, hf0, hb1, hf1, hQ⟩ := h; exact Nat.le_of_ble_eq_true rfl) ?_
  intro p e R s m args below meth c dC dI k g A av w Q hsp oka okw X
  obtain ⟨tp, ct, ln, fa, pl, b0f1, b0f2, b0f3, b0f4, b0f5, b0f6, b0f7, b0u0, b0u1, b0u2, b0u3, b0u4, b1f1, b1f2, b1f3, b1f4, b1f5, b1f6, b1f7, b1u0, b1u1, b1u2, b1u3, b1u4, a, b, cc, rfl, rfl, hct, hln, hb0, hf0, hb1, hf1, hQ⟩ := hsp
  have o_a : -2147483648 ≤ a ∧ a ≤ 2147483647 := oka _ (List.mem_of_getElem? (i := 1) rfl)
  have o_b : -2147483648 ≤ b ∧ b ≤ 2147483647 := oka _ (List.mem_of_getElem? (i := 2) rfl)
  have o_cc : -2147483648 ≤ cc ∧ cc ≤ 2147483647 := oka _ (List.mem_of_getElem? (i := 3) rfl)
  refine s_mono (s_X11_family_0 X (J := fun _ _ _ _ => False) (fun d => s_cutF)) ?_
  rintro lv st w' ⟨rfl, rfl, rfl⟩
  refine Exists.intro [1, 2, 3, 4, 28, 29, 30, 5, 13] (Exists.intro [q2 0, q1 _] (Exists.intro ((wT4_0 _ _ _ _ _)) (And.intro rfl (And.intro rfl (And.intro rfl (And.intro ⟨⟨_, rfl⟩, rfl⟩ ?_))))))
  refine Exists.intro _ (Exists.intro _ (Exists.intro _ (Exists.intro _ (Exists.intro _ (Exists.intro _ (And.intro rfl (And.intro rfl (?_))))))))
  intro z5 h5
  rcases h5 with rfl | ⟨rfl, rfl⟩ | ⟨rfl, rfl⟩
  · exact hQ _
  · refine Exists.intro [5, 6, 7, 8, 9, 10, 11, 12] (Exists.intro [q2 0, q1 _] (Exists.intro (wB _ _ _ _ _ _ _ _ _ _ _ _) (And.intro rfl (And.intro rfl (And.intro rfl (And.intro ⟨⟨_, rfl⟩, rfl⟩ ?_))))))
    refine Exists.intro _ (Exists.intro _ (Exists.intro _ (Exists.intro _ (Exists.intro _ (Exists.intro _ (Exists.intro _ (Exists.intro _ (Exists.intro _ (Exists.intro _ (Exists.intro _ (Exists.intro _ (Exists.intro _ (And.intro rfl (And.intro rfl (?_)))))))))))))))
    intro z18 h18
    apply And.intro
    · intro h21
      apply And.intro
      · apply And.intro
        · intro h27
          refine Exists.intro [5, 6, 7, 8, 9, 10, 11, 12] (Exists.intro [q2 0, q1 _] (Exists.intro (wB _ _ _ _ _ _ _ _ _ _ _ _) (And.intro rfl (And.intro rfl (And.intro rfl (And.intro ⟨⟨_, rfl⟩, rfl⟩ ?_))))))
          refine Exists.intro _ (Exists.intro _ (Exists.intro _ (Exists.intro _ (Exists.intro _ (Exists.intro _ (Exists.intro _ (Exists.intro _ (Exists.intro _ (Exists.intro _ (Exists.intro _ (Exists.intro _ (Exists.intro _ (And.intro rfl (And.intro rfl (And.intro (by first | omega | assumption | exact q_rg_up (by assumption) (by omega) | exact q_rg_up (q_rg_up (by assumption) (by omega)) (by omega) | exact q_rg_cpy (by assumption) (by assumption)) (?_))))))))))))))))
          intro z55
          exact hQ _
        apply And.intro
        · intro h27
          refine Exists.intro [5, 6, 7, 8, 9, 10, 11, 12] (Exists.intro [q2 0, q1 _] (Exists.intro (wB _ _ _ _ _ _ _ _ _ _ _ _) (And.intro rfl (And.intro rfl (And.intro rfl (And.intro ⟨⟨_, rfl⟩, rfl⟩ ?_))))))
          refine Exists.intro _ (Exists.intro _ (Exists.intro _ (Exists.intro _ (Exists.intro _ (Exists.intro _ (Exists.intro _ (Exists.intro _ (Exists.intro _ (Exists.intro _ (Exists.intro _ (Exists.intro _ (Exists.intro _ (And.intro rfl (And.intro rfl (And.intro (by first | omega | assumption | exact q_rg_up (by assumption) (by omega) | exact q_rg_up (q_rg_up (by assumption) (by omega)) (by omega) | exact q_rg_cpy (by assumption) (by assumption)) (?_))))))))))))))))
          intro z62
          exact hQ _
        apply And.intro
        · intro h27
          refine Exists.intro [5, 6, 7, 8, 9, 10, 11, 12] (Exists.intro [q2 0, q1 _] (Exists.intro (wB _ _ _ _ _ _ _ _ _ _ _ _) (And.intro rfl (And.intro rfl (And.intro rfl (And.intro ⟨⟨_, rfl⟩, rfl⟩ ?_))))))
          refine Exists.intro _ (Exists.intro _ (Exists.intro _ (Exists.intro _ (Exists.intro _ (Exists.intro _ (Exists.intro _ (Exists.intro _ (Exists.intro _ (Exists.intro _ (Exists.intro _ (Exists.intro _ (Exists.intro _ (And.intro rfl (And.intro rfl (And.intro (by first | omega | assumption | exact q_rg_up (by assumption) (by omega) | exact q_rg_up (q_rg_up (by assumption) (by omega)) (by omega) | exact q_rg_cpy (by assumption) (by assumption)) (?_))))))))))))))))
          intro z69
          exact hQ _
        exact trivial
      · intro h27
        exact hQ _
    · intro h21
      exact hQ _
  · refine Exists.intro [13, 14, 15, 16, 17, 18, 19, 20] (Exists.intro [q2 0, q1 _] (Exists.intro (wB _ _ _ _ _ _ _ _ _ _ _ _) (And.intro rfl (And.intro rfl (And.intro rfl (And.intro ⟨⟨_, rfl⟩, rfl⟩ ?_))))))
    refine Exists.intro _ (Exists.intro _ (Exists.intro _ (Exists.intro _ (Exists.intro _ (Exists.intro _ (Exists.intro _ (Exists.intro _ (Exists.intro _ (Exists.intro _ (Exists.intro _ (Exists.intro _ (Exists.intro _ (And.intro rfl (And.intro rfl (?_)))))))))))))))
    intro z18 h18
    apply And.intro
    · intro h21
      apply And.intro
      · apply And.intro
        · intro h27
          refine Exists.intro [13, 14, 15, 16, 17, 18, 19, 20] (Exists.intro [q2 0, q1 _] (Exists.intro (wB _ _ _ _ _ _ _ _ _ _ _ _) (And.intro rfl (And.intro rfl (And.intro rfl (And.intro ⟨⟨_, rfl⟩, rfl⟩ ?_))))))
          refine Exists.intro _ (Exists.intro _ (Exists.intro _ (Exists.intro _ (Exists.intro _ (Exists.intro _ (Exists.intro _ (Exists.intro _ (Exists.intro _ (Exists.intro _ (Exists.intro _ (Exists.intro _ (Exists.intro _ (And.intro rfl (And.intro rfl (And.intro (by first | omega | assumption | exact q_rg_up (by assumption) (by omega) | exact q_rg_up (q_rg_up (by assumption) (by omega)) (by omega) | exact q_rg_cpy (by assumption) (by assumption)) (?_))))))))))))))))
          intro z55
          exact hQ _
        apply And.intro
        · intro h27
          refine Exists.intro [13, 14, 15, 16, 17, 18, 19, 20] (Exists.intro [q2 0, q1 _] (Exists.intro (wB _ _ _ _ _ _ _ _ _ _ _ _) (And.intro rfl (And.intro rfl (And.intro rfl (And.intro ⟨⟨_, rfl⟩, rfl⟩ ?_))))))
          refine Exists.intro _ (Exists.intro _ (Exists.intro _ (Exists.intro _ (Exists.intro _ (Exists.intro _ (Exists.intro _ (Exists.intro _ (Exists.intro _ (Exists.intro _ (Exists.intro _ (Exists.intro _ (Exists.intro _ (And.intro rfl (And.intro rfl (And.intro (by first | omega | assumption | exact q_rg_up (by assumption) (by omega) | exact q_rg_up (q_rg_up (by assumption) (by omega)) (by omega) | exact q_rg_cpy (by assumption) (by assumption)) (?_))))))))))))))))
          intro z62
          exact hQ _
        apply And.intro
        · intro h27
          refine Exists.intro [13, 14, 15, 16, 17, 18, 19, 20] (Exists.intro [q2 0, q1 _] (Exists.intro (wB _ _ _ _ _ _ _ _ _ _ _ _) (And.intro rfl (And.intro rfl (And.intro rfl (And.intro ⟨⟨_, rfl⟩, rfl⟩ ?_))))))
          refine Exists.intro _ (Exists.intro _ (Exists.intro _ (Exists.intro _ (Exists.intro _ (Exists.intro _ (Exists.intro _ (Exists.intro _ (Exists.intro _ (Exists.intro _ (Exists.intro _ (Exists.intro _ (Exists.intro _ (And.intro rfl (And.intro rfl (And.intro (by first | omega | assumption | exact q_rg_up (by assumption) (by omega) | exact q_rg_up (q_rg_up (by assumption) (by omega)) (by omega) | exact q_rg_cpy (by assumption) (by assumption)) (?_))))))))))))))))
          intro z69
          exact hQ _
        exact trivial
      · intro h27
        exact hQ _
    · intro h21
      exact hQ _

theorem dX11_assumed_0 : decode cX11_assumed 0 = .ok (.aload_n 0, 1) := by decide +kernel
theorem dX11_assumed_1 : decode cX11_assumed 1 = .ok (.getfield 10, 3) := by decide +kernel
theorem dX11_assumed_4 : decode cX11_assumed 4 = .ok (.iload_n 1, 1) := by decide +kernel
theorem dX11_assumed_5 : decode cX11_assumed 5 = .ok (.invokevirtual 94, 3) := by decide +kernel
theorem dX11_assumed_8 : decode cX11_assumed 8 = .ok (.astore 4, 2) := by decide +kernel
theorem dX11_assumed_10 : decode cX11_assumed 10 = .ok (.aload 4, 2) := by decide +kernel
theorem dX11_assumed_12 : decode cX11_assumed 12 = .ok (.ifnonnull 5, 3) := by decide +kernel
theorem dX11_assumed_15 : decode cX11_assumed 15 = .ok (.iconst (-1), 1) := by decide +kernel
theorem dX11_assumed_16 : decode cX11_assumed 16 = .ok (.ireturn, 1) := by decide +kernel
theorem dX11_assumed_17 : decode cX11_assumed 17 = .ok (.iload_n 3, 1) := by decide +kernel
theorem dX11_assumed_18 : decode cX11_assumed 18 = .ok (.iconst 3, 1) := by decide +kernel
theorem dX11_assumed_19 : decode cX11_assumed 19 = .ok (.if_icmp .ne 9, 3) := by decide +kernel
theorem dX11_assumed_22 : decode cX11_assumed 22 = .ok (.aload 4, 2) := by decide +kernel
theorem dX11_assumed_24 : decode cX11_assumed 24 = .ok (.invokevirtual 276, 3) := by decide +kernel
theorem dX11_assumed_27 : decode cX11_assumed 27 = .ok (.ireturn, 1) := by decide +kernel
theorem dX11_assumed_28 : decode cX11_assumed 28 = .ok (.iload_n 2, 1) := by decide +kernel
theorem dX11_assumed_29 : decode cX11_assumed 29 = .ok (.ifCond .lt 9, 3) := by decide +kernel
theorem dX11_assumed_32 : decode cX11_assumed 32 = .ok (.iload_n 2, 1) := by decide +kernel
theorem dX11_assumed_33 : decode cX11_assumed 33 = .ok (.bipush 99, 2) := by decide +kernel
theorem dX11_assumed_35 : decode cX11_assumed 35 = .ok (.if_icmp .le 5, 3) := by decide +kernel
theorem dX11_assumed_38 : decode cX11_assumed 38 = .ok (.iconst (-1), 1) := by decide +kernel
theorem dX11_assumed_39 : decode cX11_assumed 39 = .ok (.ireturn, 1) := by decide +kernel
theorem dX11_assumed_40 : decode cX11_assumed 40 = .ok (.iload_n 3, 1) := by decide +kernel
theorem dX11_assumed_41 : decode cX11_assumed 41 = .ok (.tableswitch 50 0 2 #[27, 34, 42], 27) := by decide +kernel
theorem dX11_assumed_68 : decode cX11_assumed 68 = .ok (.aload 4, 2) := by decide +kernel
theorem dX11_assumed_70 : decode cX11_assumed 70 = .ok (.iload_n 2, 1) := by decide +kernel
theorem dX11_assumed_71 : decode cX11_assumed 71 = .ok (.invokevirtual 280, 3) := by decide +kernel
theorem dX11_assumed_74 : decode cX11_assumed 74 = .ok (.ireturn, 1) := by decide +kernel
theorem dX11_assumed_75 : decode cX11_assumed 75 = .ok (.aload 4, 2) := by decide +kernel
theorem dX11_assumed_77 : decode cX11_assumed 77 = .ok (.iload_n 2, 1) := by decide +kernel
theorem dX11_assumed_78 : decode cX11_assumed 78 = .ok (.iconst 1, 1) := by decide +kernel
theorem dX11_assumed_79 : decode cX11_assumed 79 = .ok (.invokevirtual 283, 3) := by decide +kernel
theorem dX11_assumed_82 : decode cX11_assumed 82 = .ok (.ireturn, 1) := by decide +kernel
theorem dX11_assumed_83 : decode cX11_assumed 83 = .ok (.aload 4, 2) := by decide +kernel
theorem dX11_assumed_85 : decode cX11_assumed 85 = .ok (.iload_n 2, 1) := by decide +kernel
theorem dX11_assumed_86 : decode cX11_assumed 86 = .ok (.iconst 0, 1) := by decide +kernel
theorem dX11_assumed_87 : decode cX11_assumed 87 = .ok (.invokevirtual 283, 3) := by decide +kernel
theorem dX11_assumed_90 : decode cX11_assumed 90 = .ok (.ireturn, 1) := by decide +kernel
theorem dX11_assumed_91 : decode cX11_assumed 91 = .ok (.iconst (-1), 1) := by decide +kernel
theorem dX11_assumed_92 : decode cX11_assumed 92 = .ok (.ireturn, 1) := by decide +kernel
def is_X11_assumed : Nat → List Nat := fun d => []
set_option maxRecDepth 100000 in
def b_X11_assumed_38 (J : Nat → List qV → List qV → qW → Prop) (Q : qR) : qK := x_int (-1) (x_iret Q)
set_option maxRecDepth 100000 in
theorem s_X11_assumed_38 {p : Program} {l : Launch} {e : Env} {R : Room} {s : State} {m : MethodId} {args : Array Value} {below : List Frame} {meth : Method} {c : Code} {nW : Nat} {dC : Nat → ClassId} {dI : Nat → Nat → Nat} {k : Nat → ClassId} {g : Nat → Nat} {A : Nat → Prop} {J : Nat → List qV → List qV → qW → Prop} {Q : qR} (X : q_X p R s m args meth c cX11_assumed 5 nW 3 66 RX11 (some .int) dC dI k g A) (hJ : ∀ d : Nat, q_Sd p l e R s m args below meth c 5 nW dC dI k g A (MQ below (q_post (dC, dI) k g nW Q A) args s 0 0 A) d (x_cut (is_X11_assumed d) (J d))) : q_Sd p l e R s m args below meth c 5 nW dC dI k g A (MQ below (q_post (dC, dI) k g nW Q A) args s 0 0 A) 38 (b_X11_assumed_38 J Q) := by
  unfold b_X11_assumed_38
  refine s_iconst X ⟨by decide, by decide⟩ dX11_assumed_38 ?_
  exact s_iret X dX11_assumed_39
set_option maxRecDepth 100000 in
def b_X11_assumed_0 (J : Nat → List qV → List qV → qW → Prop) (Q : qR) : qK := x_aload 0 (x_get 11 0 (x_iload 1 (x_callr (some 8) 2 spr_X8_boroughAt (x_astore 4 (x_aload 4 (x_ifnonnull (x_iload 3 (x_int 3 (x_icmp_ne (x_iload 2 (x_if_lt (b_X11_assumed_38 J Q) (x_iload 2 (x_int 99 (x_icmp_le (x_iload 3 (x_sw 0 2 [x_aload 4 (x_iload 2 (x_callr (some 0) 2 spr_X0_wrongOf (x_iret Q))), x_aload 4 (x_iload 2 (x_int 1 (x_callr (some 0) 3 spr_X0_poorPart (x_iret Q)))), x_aload 4 (x_iload 2 (x_int 0 (x_callr (some 0) 3 spr_X0_poorPart (x_iret Q))))] (x_int (-1) (x_iret Q)))) (b_X11_assumed_38 J Q)))))) (x_aload 4 (x_callr (some 0) 1 spr_X0_wisest (x_iret Q)))))) (x_int (-1) (x_iret Q))))))))
set_option maxRecDepth 100000 in
theorem s_X11_assumed_0 {p : Program} {l : Launch} {e : Env} {R : Room} {s : State} {m : MethodId} {args : Array Value} {below : List Frame} {meth : Method} {c : Code} {nW : Nat} {dC : Nat → ClassId} {dI : Nat → Nat → Nat} {k : Nat → ClassId} {g : Nat → Nat} {A : Nat → Prop} {J : Nat → List qV → List qV → qW → Prop} {Q : qR} (X : q_X p R s m args meth c cX11_assumed 5 nW 3 66 RX11 (some .int) dC dI k g A) (hJ : ∀ d : Nat, q_Sd p l e R s m args below meth c 5 nW dC dI k g A (MQ below (q_post (dC, dI) k g nW Q A) args s 0 0 A) d (x_cut (is_X11_assumed d) (J d))) : q_Sd p l e R s m args below meth c 5 nW dC dI k g A (MQ below (q_post (dC, dI) k g nW Q A) args s 0 0 A) 0 (b_X11_assumed_0 J Q) := by
  unfold b_X11_assumed_0
  refine s_aload_n X rfl dX11_assumed_0 ?_
  refine s_get X (T := TX11) (C := RX11) (N := 8) tu_X11 rfl (by decide) tw_326 dX11_assumed_1 ?_
  refine s_iload_n X rfl dX11_assumed_4 ?_
  refine s_callVr X (m_X8_boroughAt l) tw_541 tw_542 tw_543 tw_121 tw_544 rfl (by decide +kernel) ⟨by decide, by decide⟩ dX11_assumed_5 ?_
  refine s_astore X (by decide) dX11_assumed_8 ?_
  refine s_aload X dX11_assumed_10 ?_
  refine s_ifnonnull X (tgt := 17) dX11_assumed_12 (by decide) ?_ ?_
  · refine s_iload_n X rfl dX11_assumed_17 ?_
    refine s_iconst X ⟨by decide, by decide⟩ dX11_assumed_18 ?_
    refine s_icmp_ne X (tgt := 28) dX11_assumed_19 (by decide) ?_ ?_
    · refine s_iload_n X rfl dX11_assumed_28 ?_
      refine s_if_lt X (tgt := 38) dX11_assumed_29 (by decide) ?_ ?_
      · exact s_X11_assumed_38 X hJ
      · refine s_iload_n X rfl dX11_assumed_32 ?_
        refine s_bipush X ⟨by decide, by decide⟩ (by decide) dX11_assumed_33 ?_
        refine s_icmp_le X (tgt := 40) dX11_assumed_35 (by decide) ?_ ?_
        · refine s_iload_n X rfl dX11_assumed_40 ?_
          refine s_sw X (ts := [68, 75, 83]) (td := 91) dX11_assumed_41 (by decide) (by decide) (by decide) rfl ?_ ?_
          · intro i t K ht hK
            match i, ht, hK with
            | 0, ht, hK =>
              cases ht
              cases hK
              refine s_aload X dX11_assumed_68 ?_
              refine s_iload_n X rfl dX11_assumed_70 ?_
              refine s_callVr X (m_X0_wrongOf l) tw_960 tw_956 tw_957 tw_122 tw_958 rfl (by decide +kernel) ⟨by decide, by decide⟩ dX11_assumed_71 ?_
              exact s_iret X dX11_assumed_74
            | 1, ht, hK =>
              cases ht
              cases hK
              refine s_aload X dX11_assumed_75 ?_
              refine s_iload_n X rfl dX11_assumed_77 ?_
              refine s_iconst X ⟨by decide, by decide⟩ dX11_assumed_78 ?_
              refine s_callVr X (m_X0_poorPart l) tw_961 tw_962 tw_963 tw_122 tw_964 rfl (by decide +kernel) ⟨by decide, by decide⟩ dX11_assumed_79 ?_
              exact s_iret X dX11_assumed_82
            | 2, ht, hK =>
              cases ht
              cases hK
              refine s_aload X dX11_assumed_83 ?_
              refine s_iload_n X rfl dX11_assumed_85 ?_
              refine s_iconst X ⟨by decide, by decide⟩ dX11_assumed_86 ?_
              refine s_callVr X (m_X0_poorPart l) tw_961 tw_962 tw_963 tw_122 tw_964 rfl (by decide +kernel) ⟨by decide, by decide⟩ dX11_assumed_87 ?_
              exact s_iret X dX11_assumed_90
            | i + 3, ht, hK => exact absurd ht (by simp)
          · refine s_iconst X ⟨by decide, by decide⟩ dX11_assumed_91 ?_
            exact s_iret X dX11_assumed_92
        · exact s_X11_assumed_38 X hJ
    · refine s_aload X dX11_assumed_22 ?_
      refine s_callVr X (m_X0_wisest l) tw_951 tw_952 tw_953 tw_122 tw_954 rfl (by decide +kernel) ⟨by decide, by decide⟩ dX11_assumed_24 ?_
      exact s_iret X dX11_assumed_27
  · refine s_iconst X ⟨by decide, by decide⟩ dX11_assumed_15 ?_
    exact s_iret X dX11_assumed_16

def spr_X11_assumed : List qV → qW → (Option qV → Prop) → Prop := fun av w Q => ∃ (tp : Nat → Int) (ct : Nat → Int) (ln : Int) (fa : Int) (pl : Int) (b0f1 : Nat → Int) (b0f2 : Nat → Int) (b0f3 : Nat → Int) (b0f4 : Nat → Int) (b0f5 : Nat → Int) (b0f6 : Nat → Int) (b0f7 : Nat → Int) (b0u0 : Int) (b0u1 : Int) (b0u2 : Int) (b0u3 : Int) (b0u4 : Int) (b1f1 : Nat → Int) (b1f2 : Nat → Int) (b1f3 : Nat → Int) (b1f4 : Nat → Int) (b1f5 : Nat → Int) (b1f6 : Nat → Int) (b1f7 : Nat → Int) (b1u0 : Int) (b1u1 : Int) (b1u2 : Int) (b1u3 : Int) (b1u4 : Int) (a : Int) (b : Int) (cc : Int), av = [q2 0, q1 a, q1 b, q1 cc] ∧ w = [.inr (11, [q2 1, q2 21, q2 22, q2 23, q2 24, q2 25, q2 26, q2 27]), .inr (8, [q2 2, q2 3, q2 4, q2 28, q2 29, q2 30, q1 ln, q1 fa, q1 pl]), .inl (1, 600, .inl tp), .inl (0, 4, .inl ct), .inl (4, 2, .inr (.inr [some 5, some 13])), .inr (0, [q2 6, q2 7, q2 8, q2 9, q2 10, q2 11, q2 12, q1 b0u0, q1 b0u1, q1 b0u2, q1 b0u3, q1 b0u4]), .inl (0, 8, .inl b0f1), .inl (0, 8, .inl b0f2), .inl (0, 4, .inl b0f3), .inl (0, 32, .inl b0f4), .inl (0, 6, .inl b0f5), .inl (0, 6, .inl b0f6), .inl (0, 6, .inl b0f7), .inr (0, [q2 14, q2 15, q2 16, q2 17, q2 18, q2 19, q2 20, q1 b1u0, q1 b1u1, q1 b1u2, q1 b1u3, q1 b1u4]), .inl (0, 8, .inl b1f1), .inl (0, 8, .inl b1f2), .inl (0, 4, .inl b1f3), .inl (0, 32, .inl b1f4), .inl (0, 6, .inl b1f5), .inl (0, 6, .inl b1f6), .inl (0, 6, .inl b1f7)] ∧ (q_rg 0 2 ct) ∧ (0 ≤ ln ∧ ln ≤ 600) ∧ (0 ≤ b0u0 ∧ b0u0 ≤ 8 ∧ 0 ≤ b0u3 ∧ b0u3 ≤ 6 ∧ 0 ≤ b0u4 ∧ b0u4 ≤ 6) ∧ (q_rg 0 9 b0f3) ∧ (0 ≤ b1u0 ∧ b1u0 ≤ 8 ∧ 0 ≤ b1u3 ∧ b1u3 ≤ 6 ∧ 0 ≤ b1u4 ∧ b1u4 ≤ 6) ∧ (q_rg 0 9 b1f3) ∧ (∀ (r : Int) , Q (some (q1 r)))
def sp_X11_assumed : qS := fun av w Q => spr_X11_assumed av w (fun r => Q r w)
set_option maxHeartbeats 4000000 in
set_option maxRecDepth 100000 in
theorem m_X11_assumed (l : Launch) : q_M l yX11_assumed cX11_assumed 5 (some .int) 3 66 sp_X11_assumed := by
  refine q_meth (by decide) (fun av w Q h => by obtain ⟨tp, ct, ln, fa, pl, b0f1, b0f2, b0f3, b0f4, b0f5, b0f6, b0f7, b0u0, b0u1, b0u2, b0u3, b0u4, b1f1, b1f2, b1f3, b1f4, b1f5, b1f6, b1f7, b1u0, b1u1, b1u2, b1u3, b1u4, a, b, cc, rfl, rfl, hct, hln, hb0, hf0, hb1, hf1, hQ⟩ := h; exact Nat.le_of_ble_eq_true rfl) ?_
  intro p e R s m args below meth c dC dI k g A av w Q hsp oka okw X
  obtain ⟨tp, ct, ln, fa, pl, b0f1, b0f2, b0f3, b0f4, b0f5, b0f6, b0f7, b0u0, b0u1, b0u2, b0u3, b0u4, b1f1, b1f2, b1f3, b1f4, b1f5, b1f6, b1f7, b1u0, b1u1, b1u2, b1u3, b1u4, a, b, cc, rfl, rfl, hct, hln, hb0, hf0, hb1, hf1, hQ⟩ := hsp
  have o_a : -2147483648 ≤ a ∧ a ≤ 2147483647 := oka _ (List.mem_of_getElem? (i := 1) rfl)
  have o_b : -2147483648 ≤ b ∧ b ≤ 2147483647 := oka _ (List.mem_of_getElem? (i := 2) rfl)
  have o_cc : -2147483648 ≤ cc ∧ cc ≤ 2147483647 := oka _ (List.mem_of_getElem? (i := 3) rfl)
  refine s_mono (s_X11_assumed_0 X (J := fun _ _ _ _ => False) (fun d => s_cutF)) ?_
  rintro lv st w' ⟨rfl, rfl, rfl⟩
  refine Exists.intro [1, 2, 3, 4, 28, 29, 30, 5, 13] (Exists.intro [q2 0, q1 _] (Exists.intro ((wT4_0 _ _ _ _ _)) (And.intro rfl (And.intro rfl (And.intro rfl (And.intro ⟨⟨_, rfl⟩, rfl⟩ ?_))))))
  refine Exists.intro _ (Exists.intro _ (Exists.intro _ (Exists.intro _ (Exists.intro _ (Exists.intro _ (And.intro rfl (And.intro rfl (?_))))))))
  intro z5 h5
  rcases h5 with rfl | ⟨rfl, rfl⟩ | ⟨rfl, rfl⟩
  · exact hQ _
  · apply And.intro
    · intro h19
      apply And.intro
      · intro h29
        exact hQ _
      · intro h29
        apply And.intro
        · intro h35
          apply And.intro
          · apply And.intro
            · intro h41
              refine Exists.intro [5, 6, 7, 8, 9, 10, 11, 12] (Exists.intro [q2 0, q1 _] (Exists.intro (wB _ _ _ _ _ _ _ _ _ _ _ _) (And.intro rfl (And.intro rfl (And.intro rfl (And.intro ⟨⟨_, rfl⟩, rfl⟩ ?_))))))
              refine Exists.intro _ (Exists.intro _ (Exists.intro _ (Exists.intro _ (Exists.intro _ (Exists.intro _ (Exists.intro _ (Exists.intro _ (Exists.intro _ (Exists.intro _ (Exists.intro _ (Exists.intro _ (Exists.intro _ (And.intro rfl (And.intro rfl (And.intro (by first | omega | assumption | exact q_rg_up (by assumption) (by omega) | exact q_rg_up (q_rg_up (by assumption) (by omega)) (by omega) | exact q_rg_cpy (by assumption) (by assumption)) (?_))))))))))))))))
              intro z71
              exact hQ _
            apply And.intro
            · intro h41
              refine Exists.intro [5, 6, 7, 8, 9, 10, 11, 12] (Exists.intro [q2 0, q1 _, q1 _] (Exists.intro (wB _ _ _ _ _ _ _ _ _ _ _ _) (And.intro rfl (And.intro rfl (And.intro rfl (And.intro ⟨⟨_, rfl⟩, rfl⟩ ?_))))))
              refine Exists.intro _ (Exists.intro _ (Exists.intro _ (Exists.intro _ (Exists.intro _ (Exists.intro _ (Exists.intro _ (Exists.intro _ (Exists.intro _ (Exists.intro _ (Exists.intro _ (Exists.intro _ (Exists.intro _ (Exists.intro _ (And.intro rfl (And.intro rfl (And.intro (by first | omega | assumption | exact q_rg_up (by assumption) (by omega) | exact q_rg_up (q_rg_up (by assumption) (by omega)) (by omega) | exact q_rg_cpy (by assumption) (by assumption)) (And.intro (by first | omega | assumption | exact q_rg_up (by assumption) (by omega) | exact q_rg_up (q_rg_up (by assumption) (by omega)) (by omega) | exact q_rg_cpy (by assumption) (by assumption)) (?_))))))))))))))))))
              intro z79
              exact hQ _
            apply And.intro
            · intro h41
              refine Exists.intro [5, 6, 7, 8, 9, 10, 11, 12] (Exists.intro [q2 0, q1 _, q1 _] (Exists.intro (wB _ _ _ _ _ _ _ _ _ _ _ _) (And.intro rfl (And.intro rfl (And.intro rfl (And.intro ⟨⟨_, rfl⟩, rfl⟩ ?_))))))
              refine Exists.intro _ (Exists.intro _ (Exists.intro _ (Exists.intro _ (Exists.intro _ (Exists.intro _ (Exists.intro _ (Exists.intro _ (Exists.intro _ (Exists.intro _ (Exists.intro _ (Exists.intro _ (Exists.intro _ (Exists.intro _ (And.intro rfl (And.intro rfl (And.intro (by first | omega | assumption | exact q_rg_up (by assumption) (by omega) | exact q_rg_up (q_rg_up (by assumption) (by omega)) (by omega) | exact q_rg_cpy (by assumption) (by assumption)) (And.intro (by first | omega | assumption | exact q_rg_up (by assumption) (by omega) | exact q_rg_up (q_rg_up (by assumption) (by omega)) (by omega) | exact q_rg_cpy (by assumption) (by assumption)) (?_))))))))))))))))))
              intro z87
              exact hQ _
            exact trivial
          · intro h41
            exact hQ _
        · intro h35
          exact hQ _
    · intro h19
      refine Exists.intro [5, 6, 7, 8, 9, 10, 11, 12] (Exists.intro [q2 0] (Exists.intro (wB _ _ _ _ _ _ _ _ _ _ _ _) (And.intro rfl (And.intro rfl (And.intro rfl (And.intro ⟨⟨_, rfl⟩, rfl⟩ ?_))))))
      refine Exists.intro _ (Exists.intro _ (Exists.intro _ (Exists.intro _ (Exists.intro _ (Exists.intro _ (Exists.intro _ (Exists.intro _ (Exists.intro _ (Exists.intro _ (Exists.intro _ (Exists.intro _ (And.intro rfl (And.intro rfl (And.intro (by first | omega | assumption | exact q_rg_up (by assumption) (by omega) | exact q_rg_up (q_rg_up (by assumption) (by omega)) (by omega) | exact q_rg_cpy (by assumption) (by assumption)) (?_)))))))))))))))
      intro z24
      exact hQ _
  · apply And.intro
    · intro h19
      apply And.intro
      · intro h29
        exact hQ _
      · intro h29
        apply And.intro
        · intro h35
          apply And.intro
          · apply And.intro
            · intro h41
              refine Exists.intro [13, 14, 15, 16, 17, 18, 19, 20] (Exists.intro [q2 0, q1 _] (Exists.intro (wB _ _ _ _ _ _ _ _ _ _ _ _) (And.intro rfl (And.intro rfl (And.intro rfl (And.intro ⟨⟨_, rfl⟩, rfl⟩ ?_))))))
              refine Exists.intro _ (Exists.intro _ (Exists.intro _ (Exists.intro _ (Exists.intro _ (Exists.intro _ (Exists.intro _ (Exists.intro _ (Exists.intro _ (Exists.intro _ (Exists.intro _ (Exists.intro _ (Exists.intro _ (And.intro rfl (And.intro rfl (And.intro (by first | omega | assumption | exact q_rg_up (by assumption) (by omega) | exact q_rg_up (q_rg_up (by assumption) (by omega)) (by omega) | exact q_rg_cpy (by assumption) (by assumption)) (?_))))))))))))))))
              intro z71
              exact hQ _
            apply And.intro
            · intro h41
              refine Exists.intro [13, 14, 15, 16, 17, 18, 19, 20] (Exists.intro [q2 0, q1 _, q1 _] (Exists.intro (wB _ _ _ _ _ _ _ _ _ _ _ _) (And.intro rfl (And.intro rfl (And.intro rfl (And.intro ⟨⟨_, rfl⟩, rfl⟩ ?_))))))
              refine Exists.intro _ (Exists.intro _ (Exists.intro _ (Exists.intro _ (Exists.intro _ (Exists.intro _ (Exists.intro _ (Exists.intro _ (Exists.intro _ (Exists.intro _ (Exists.intro _ (Exists.intro _ (Exists.intro _ (Exists.intro _ (And.intro rfl (And.intro rfl (And.intro (by first | omega | assumption | exact q_rg_up (by assumption) (by omega) | exact q_rg_up (q_rg_up (by assumption) (by omega)) (by omega) | exact q_rg_cpy (by assumption) (by assumption)) (And.intro (by first | omega | assumption | exact q_rg_up (by assumption) (by omega) | exact q_rg_up (q_rg_up (by assumption) (by omega)) (by omega) | exact q_rg_cpy (by assumption) (by assumption)) (?_))))))))))))))))))
              intro z79
              exact hQ _
            apply And.intro
            · intro h41
              refine Exists.intro [13, 14, 15, 16, 17, 18, 19, 20] (Exists.intro [q2 0, q1 _, q1 _] (Exists.intro (wB _ _ _ _ _ _ _ _ _ _ _ _) (And.intro rfl (And.intro rfl (And.intro rfl (And.intro ⟨⟨_, rfl⟩, rfl⟩ ?_))))))
              refine Exists.intro _ (Exists.intro _ (Exists.intro _ (Exists.intro _ (Exists.intro _ (Exists.intro _ (Exists.intro _ (Exists.intro _ (Exists.intro _ (Exists.intro _ (Exists.intro _ (Exists.intro _ (Exists.intro _ (Exists.intro _ (And.intro rfl (And.intro rfl (And.intro (by first | omega | assumption | exact q_rg_up (by assumption) (by omega) | exact q_rg_up (q_rg_up (by assumption) (by omega)) (by omega) | exact q_rg_cpy (by assumption) (by assumption)) (And.intro (by first | omega | assumption | exact q_rg_up (by assumption) (by omega) | exact q_rg_up (q_rg_up (by assumption) (by omega)) (by omega) | exact q_rg_cpy (by assumption) (by assumption)) (?_))))))))))))))))))
              intro z87
              exact hQ _
            exact trivial
          · intro h41
            exact hQ _
        · intro h35
          exact hQ _
    · intro h19
      refine Exists.intro [13, 14, 15, 16, 17, 18, 19, 20] (Exists.intro [q2 0] (Exists.intro (wB _ _ _ _ _ _ _ _ _ _ _ _) (And.intro rfl (And.intro rfl (And.intro rfl (And.intro ⟨⟨_, rfl⟩, rfl⟩ ?_))))))
      refine Exists.intro _ (Exists.intro _ (Exists.intro _ (Exists.intro _ (Exists.intro _ (Exists.intro _ (Exists.intro _ (Exists.intro _ (Exists.intro _ (Exists.intro _ (Exists.intro _ (Exists.intro _ (And.intro rfl (And.intro rfl (And.intro (by first | omega | assumption | exact q_rg_up (by assumption) (by omega) | exact q_rg_up (q_rg_up (by assumption) (by omega)) (by omega) | exact q_rg_cpy (by assumption) (by assumption)) (?_)))))))))))))))
      intro z24
      exact hQ _
