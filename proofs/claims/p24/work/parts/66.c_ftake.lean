theorem dF12_takeBut_0 : decode cX12_takeBut 0 = .ok (.aload_n 0, 1) := by decide +kernel
theorem dF12_takeBut_1 : decode cX12_takeBut 1 = .ok (.getfield 125, 3) := by decide +kernel
theorem dF12_takeBut_4 : decode cX12_takeBut 4 = .ok (.iconst 3, 1) := by decide +kernel
theorem dF12_takeBut_5 : decode cX12_takeBut 5 = .ok (.if_icmp .eq 8, 3) := by decide +kernel
theorem dF12_takeBut_8 : decode cX12_takeBut 8 = .ok (.aload_n 0, 1) := by decide +kernel
theorem dF12_takeBut_9 : decode cX12_takeBut 9 = .ok (.invokevirtual 140, 3) := by decide +kernel
theorem dF12_takeBut_12 : decode cX12_takeBut 12 = .ok (.ireturn, 1) := by decide +kernel
theorem dF12_takeBut_13 : decode cX12_takeBut 13 = .ok (.aload_n 0, 1) := by decide +kernel
theorem dF12_takeBut_14 : decode cX12_takeBut 14 = .ok (.getfield 41, 3) := by decide +kernel
theorem dF12_takeBut_17 : decode cX12_takeBut 17 = .ok (.iload_n 1, 1) := by decide +kernel
theorem dF12_takeBut_18 : decode cX12_takeBut 18 = .ok (.aload_n 0, 1) := by decide +kernel
theorem dF12_takeBut_19 : decode cX12_takeBut 19 = .ok (.getfield 128, 3) := by decide +kernel
theorem dF12_takeBut_22 : decode cX12_takeBut 22 = .ok (.iastore, 1) := by decide +kernel
theorem dF12_takeBut_23 : decode cX12_takeBut 23 = .ok (.aload_n 0, 1) := by decide +kernel
theorem dF12_takeBut_24 : decode cX12_takeBut 24 = .ok (.getfield 128, 3) := by decide +kernel
theorem dF12_takeBut_27 : decode cX12_takeBut 27 = .ok (.iload_n 2, 1) := by decide +kernel
theorem dF12_takeBut_28 : decode cX12_takeBut 28 = .ok (.iload_n 3, 1) := by decide +kernel
theorem dF12_takeBut_29 : decode cX12_takeBut 29 = .ok (.invokestatic 100, 3) := by decide +kernel
theorem dF12_takeBut_32 : decode cX12_takeBut 32 = .ok (.ifCond .eq 12, 3) := by decide +kernel
theorem dF12_takeBut_35 : decode cX12_takeBut 35 = .ok (.aload_n 0, 1) := by decide +kernel
theorem dF12_takeBut_36 : decode cX12_takeBut 36 = .ok (.getfield 128, 3) := by decide +kernel
theorem dF12_takeBut_39 : decode cX12_takeBut 39 = .ok (.iload 4, 2) := by decide +kernel
theorem dF12_takeBut_41 : decode cX12_takeBut 41 = .ok (.if_icmp .ne 17, 3) := by decide +kernel
theorem dF12_takeBut_44 : decode cX12_takeBut 44 = .ok (.aload_n 0, 1) := by decide +kernel
theorem dF12_takeBut_45 : decode cX12_takeBut 45 = .ok (.iconst 2, 1) := by decide +kernel
theorem dF12_takeBut_46 : decode cX12_takeBut 46 = .ok (.aload_n 0, 1) := by decide +kernel
theorem dF12_takeBut_47 : decode cX12_takeBut 47 = .ok (.getfield 118, 3) := by decide +kernel
theorem dF12_takeBut_50 : decode cX12_takeBut 50 = .ok (.invokevirtual 144, 3) := by decide +kernel
theorem dF12_takeBut_53 : decode cX12_takeBut 53 = .ok (.aload_n 0, 1) := by decide +kernel
theorem dF12_takeBut_54 : decode cX12_takeBut 54 = .ok (.iconst 0, 1) := by decide +kernel
theorem dF12_takeBut_55 : decode cX12_takeBut 55 = .ok (.putfield 148, 3) := by decide +kernel
theorem dF12_takeBut_58 : decode cX12_takeBut 58 = .ok (.aload_n 0, 1) := by decide +kernel
theorem dF12_takeBut_59 : decode cX12_takeBut 59 = .ok (.invokevirtual 152, 3) := by decide +kernel
theorem dF12_takeBut_62 : decode cX12_takeBut 62 = .ok (.iconst 1, 1) := by decide +kernel
theorem dF12_takeBut_63 : decode cX12_takeBut 63 = .ok (.ireturn, 1) := by decide +kernel
def is_F12_takeBut : Nat → List Nat := fun d => []
set_option maxRecDepth 100000 in
def b_F12_takeBut_58 (J : Nat → List qV → List qV → qW → Prop) (Q : qR) : qK := x_aload 0 (x_call (some 12) 1 sp_F12_token (x_nw (x_int 1 (x_zret Q))))
set_option maxRecDepth 100000 in
theorem s_F12_takeBut_58 {p : Program} {l : Launch} {e : Env} {R : Room} {s : State} {m : MethodId} {args : Array Value} {below : List Frame} {meth : Method} {c : Code} {nW : Nat} {dC : Nat → ClassId} {dI : Nat → Nat → Nat} {k : Nat → ClassId} {g : Nat → Nat} {A : Nat → Prop} {J : Nat → List qV → List qV → qW → Prop} {Q : qR} (X : q_X p R s m args meth c cX12_takeBut 5 nW 2 44 RX12 (some .boolean) dC dI k g A) (hJ : ∀ d : Nat, q_Sd p l e R s m args below meth c 5 nW dC dI k g A (MQ below (q_post (dC, dI) k g nW Q A) args s 0 0 A) d (x_cut (is_F12_takeBut d) (J d))) : q_Sd p l e R s m args below meth c 5 nW dC dI k g A (MQ below (q_post (dC, dI) k g nW Q A) args s 0 0 A) 58 (b_F12_takeBut_58 J Q) := by
  unfold b_F12_takeBut_58
  refine s_aload_n X rfl dF12_takeBut_58 ?_
  refine s_callV X (m_F12_token l) tw_1070 tw_1071 tw_1627 tw_134 tw_1072 rfl (by decide +kernel) ⟨by decide, by decide⟩ dF12_takeBut_59 ?_
  refine s_nw ?_
  refine s_iconst X ⟨by decide, by decide⟩ dF12_takeBut_62 ?_
  exact s_zret X dF12_takeBut_63
set_option maxRecDepth 100000 in
def b_F12_takeBut_44 (J : Nat → List qV → List qV → qW → Prop) (Q : qR) : qK := x_aload 0 (x_int 2 (x_aload 0 (x_get 12 12 (x_call (some 12) 3 sp_F12_later (x_nw (x_aload 0 (x_int 0 (x_put 12 23 q_okz (x_nw (b_F12_takeBut_58 J Q))))))))))
set_option maxRecDepth 100000 in
theorem s_F12_takeBut_44 {p : Program} {l : Launch} {e : Env} {R : Room} {s : State} {m : MethodId} {args : Array Value} {below : List Frame} {meth : Method} {c : Code} {nW : Nat} {dC : Nat → ClassId} {dI : Nat → Nat → Nat} {k : Nat → ClassId} {g : Nat → Nat} {A : Nat → Prop} {J : Nat → List qV → List qV → qW → Prop} {Q : qR} (X : q_X p R s m args meth c cX12_takeBut 5 nW 2 44 RX12 (some .boolean) dC dI k g A) (hJ : ∀ d : Nat, q_Sd p l e R s m args below meth c 5 nW dC dI k g A (MQ below (q_post (dC, dI) k g nW Q A) args s 0 0 A) d (x_cut (is_F12_takeBut d) (J d))) : q_Sd p l e R s m args below meth c 5 nW dC dI k g A (MQ below (q_post (dC, dI) k g nW Q A) args s 0 0 A) 44 (b_F12_takeBut_44 J Q) := by
  unfold b_F12_takeBut_44
  refine s_aload_n X rfl dF12_takeBut_44 ?_
  refine s_iconst X ⟨by decide, by decide⟩ dF12_takeBut_45 ?_
  refine s_aload_n X rfl dF12_takeBut_46 ?_
  refine s_get X (T := TX12) (C := RX12) (N := 45) tu_X12 rfl (by decide) tw_1009 dF12_takeBut_47 ?_
  refine s_callV X (m_F12_later l) tw_1091 tw_1092 tw_1594 tw_134 tw_1093 rfl (by decide +kernel) ⟨by decide, by decide⟩ dF12_takeBut_50 ?_
  refine s_nw ?_
  refine s_aload_n X rfl dF12_takeBut_53 ?_
  refine s_iconst X ⟨by decide, by decide⟩ dF12_takeBut_54 ?_
  refine s_put X (T := TX12) (C := RX12) (N := 45) tu_X12 tyX12_ok nmX12 rfl (by decide) tw_1020 rfl (by decide +kernel) q_okz_t dF12_takeBut_55 ?_
  refine s_nw ?_
  exact s_F12_takeBut_58 X hJ
set_option maxRecDepth 100000 in
def b_F12_takeBut_0 (J : Nat → List qV → List qV → qW → Prop) (Q : qR) : qK := x_aload 0 (x_get 12 13 (x_int 3 (x_icmp_eq (x_aload 0 (x_get 12 20 (x_iload 1 (x_aload 0 (x_get 12 14 (x_iast (x_nw (x_aload 0 (x_get 12 14 (x_iload 2 (x_iload 3 (x_callr none 3 spr_X12_in (x_if_eq (b_F12_takeBut_44 J Q) (x_aload 0 (x_get 12 14 (x_iload 4 (x_icmp_ne (b_F12_takeBut_58 J Q) (b_F12_takeBut_44 J Q)))))))))))))))))) (x_aload 0 (x_call (some 12) 1 sp_F12_fails (x_nw (x_zret Q)))))))
set_option maxRecDepth 100000 in
theorem s_F12_takeBut_0 {p : Program} {l : Launch} {e : Env} {R : Room} {s : State} {m : MethodId} {args : Array Value} {below : List Frame} {meth : Method} {c : Code} {nW : Nat} {dC : Nat → ClassId} {dI : Nat → Nat → Nat} {k : Nat → ClassId} {g : Nat → Nat} {A : Nat → Prop} {J : Nat → List qV → List qV → qW → Prop} {Q : qR} (X : q_X p R s m args meth c cX12_takeBut 5 nW 2 44 RX12 (some .boolean) dC dI k g A) (hJ : ∀ d : Nat, q_Sd p l e R s m args below meth c 5 nW dC dI k g A (MQ below (q_post (dC, dI) k g nW Q A) args s 0 0 A) d (x_cut (is_F12_takeBut d) (J d))) : q_Sd p l e R s m args below meth c 5 nW dC dI k g A (MQ below (q_post (dC, dI) k g nW Q A) args s 0 0 A) 0 (b_F12_takeBut_0 J Q) := by
  unfold b_F12_takeBut_0
  refine s_aload_n X rfl dF12_takeBut_0 ?_
  refine s_get X (T := TX12) (C := RX12) (N := 45) tu_X12 rfl (by decide) tw_1010 dF12_takeBut_1 ?_
  refine s_iconst X ⟨by decide, by decide⟩ dF12_takeBut_4 ?_
  refine s_icmp_eq X (tgt := 13) dF12_takeBut_5 (by decide) ?_ ?_
  · refine s_aload_n X rfl dF12_takeBut_13 ?_
    refine s_get X (T := TX12) (C := RX12) (N := 45) tu_X12 rfl (by decide) tw_1017 dF12_takeBut_14 ?_
    refine s_iload_n X rfl dF12_takeBut_17 ?_
    refine s_aload_n X rfl dF12_takeBut_18 ?_
    refine s_get X (T := TX12) (C := RX12) (N := 45) tu_X12 rfl (by decide) tw_1011 dF12_takeBut_19 ?_
    refine s_iast X dF12_takeBut_22 ?_
    refine s_nw ?_
    refine s_aload_n X rfl dF12_takeBut_23 ?_
    refine s_get X (T := TX12) (C := RX12) (N := 45) tu_X12 rfl (by decide) tw_1011 dF12_takeBut_24 ?_
    refine s_iload_n X rfl dF12_takeBut_27 ?_
    refine s_iload_n X rfl dF12_takeBut_28 ?_
    refine s_callSr X (m_X12_in l) tw_1054 tw_1055 tw_134 tw_1056 (by decide +kernel) ⟨by decide, by decide⟩ dF12_takeBut_29 ?_
    refine s_if_eq X (tgt := 44) dF12_takeBut_32 (by decide) ?_ ?_
    · exact s_F12_takeBut_44 X hJ
    · refine s_aload_n X rfl dF12_takeBut_35 ?_
      refine s_get X (T := TX12) (C := RX12) (N := 45) tu_X12 rfl (by decide) tw_1011 dF12_takeBut_36 ?_
      refine s_iload X dF12_takeBut_39 ?_
      refine s_icmp_ne X (tgt := 58) dF12_takeBut_41 (by decide) ?_ ?_
      · exact s_F12_takeBut_58 X hJ
      · exact s_F12_takeBut_44 X hJ
  · refine s_aload_n X rfl dF12_takeBut_8 ?_
    refine s_callV X (m_F12_fails l) tw_1103 tw_1104 tw_1568 tw_134 tw_1105 rfl (by decide +kernel) ⟨by decide, by decide⟩ dF12_takeBut_9 ?_
    refine s_nw ?_
    exact s_zret X dF12_takeBut_12

def sp_F12_takeBut : qS := fun av w Q => ∃ (mco : Int) (mre : Int) (mle : Int) (mbe : Int) (mso : Int) (mva : Int) (mwo : Int) (mwr : Int) (mlf : Int) (mlp : Int) (mfp : Int) (mfd : Int) (mgo : Int) (mbo : Int) (mpe : Int) (mye : Int) (mpr : Int) (mld : Int) (msi : Int) (mse : Int) (tp : Nat → Int) (re : Nat → Int) (gw : Int) (gp : Int) (gf : Int) (gq : Int) (gj : Nat) (a : Int) (b : Int) (cc : Int) (dd : Int), av = [q2 0, q1 a, q1 b, q1 cc, q1 dd] ∧ w = [.inr (12, [q1 mco, q2 1, q2 3, q2 4, q2 5, q2 6, q2 7, q2 8, q2 9, q2 10, q1 mre, q1 mle, q1 mbe, q1 mso, q1 mva, q3 mwo, q1 mwr, q1 mlf, q1 mlp, q2 11, q2 2, q1 mfp, q1 mfd, q1 mgo, q1 mbo, q1 mpe, q1 mye, q2 12, q1 mpr, q2 13, q2 14, q2 15, q2 16, q1 mld, q2 17, q1 msi, q2 18, q2 19, q2 20, q2 21, q2 22, q1 mse, q2 23, q2 24, q2 25]), .inl (1, 2400, .inl tp), .inl (0, 4, .inl re)] ∧ (0 ≤ mre ∧ mre ≤ mle ∧ mle ≤ 600) ∧ (0 ≤ a ∧ a ≤ 3) ∧ (SlM (tc tp) mle gw gp gf gq gj mre mbe mso mva mwo mlf mlp mgo) ∧ (slT gw gj = 1) ∧ (b = slL gw gj ∧ cc = slG gw gj) ∧ (ButR (tc tp) mle gw gp gj dd) ∧ (∀ (r : Int) (x_mre : Int) (x_mbe : Int) (x_mso : Int) (x_mva : Int) (x_mwo : Int) (x_mwr : Int) (x_mlf : Int) (x_mlp : Int) (x_mgo : Int) (x_re : Nat → Int), ((r = 0 ∨ r = 1 ∧ (x_mso = 0 ∨ mre < x_mre)) ∧ mre ≤ x_mre ∧ x_mre ≤ mle ∧ TkP (tc tp) mle gw gp gf gq gj a re r x_mre x_mbe x_mso x_mva x_mwo x_mwr x_mlf x_mlp x_mgo x_re) → Q (some (q1 r)) ([.inr (12, [q1 mco, q2 1, q2 3, q2 4, q2 5, q2 6, q2 7, q2 8, q2 9, q2 10, q1 x_mre, q1 mle, q1 x_mbe, q1 x_mso, q1 x_mva, q3 x_mwo, q1 x_mwr, q1 x_mlf, q1 x_mlp, q2 11, q2 2, q1 mfp, q1 mfd, q1 x_mgo, q1 mbo, q1 mpe, q1 mye, q2 12, q1 mpr, q2 13, q2 14, q2 15, q2 16, q1 mld, q2 17, q1 msi, q2 18, q2 19, q2 20, q2 21, q2 22, q1 mse, q2 23, q2 24, q2 25]), .inl (1, 2400, .inl tp), .inl (0, 4, .inl x_re)]))
set_option maxHeartbeats 4000000 in
set_option maxRecDepth 100000 in
theorem m_F12_takeBut (l : Launch) : q_M l yX12_takeBut cX12_takeBut 5 (some .boolean) 2 44 sp_F12_takeBut := by
  refine q_meth (by decide) (fun av w Q h => by obtain ⟨mco, mre, mle, mbe, mso, mva, mwo, mwr, mlf, mlp, mfp, mfd, mgo, mbo, mpe, mye, mpr, mld, msi, mse, tp, re, gw, gp, gf, gq, gj, a, b, cc, dd, rfl, rfl, htp, ha, hS, hty, hb, hd, hQ⟩ := h; exact Nat.le_of_ble_eq_true rfl) ?_
  intro p e R s m args below meth c dC dI k g A av w Q hsp oka okw X
  obtain ⟨mco, mre, mle, mbe, mso, mva, mwo, mwr, mlf, mlp, mfp, mfd, mgo, mbo, mpe, mye, mpr, mld, msi, mse, tp, re, gw, gp, gf, gq, gj, a, b, cc, dd, rfl, rfl, htp, ha, hS, hty, hb, hd, hQ⟩ := hsp
  have o_a : -2147483648 ≤ a ∧ a ≤ 2147483647 := oka _ (List.mem_of_getElem? (i := 1) rfl)
  have o_b : -2147483648 ≤ b ∧ b ≤ 2147483647 := oka _ (List.mem_of_getElem? (i := 2) rfl)
  have o_cc : -2147483648 ≤ cc ∧ cc ≤ 2147483647 := oka _ (List.mem_of_getElem? (i := 3) rfl)
  have o_dd : -2147483648 ≤ dd ∧ dd ≤ 2147483647 := oka _ (List.mem_of_getElem? (i := 4) rfl)
  refine s_mono (s_F12_takeBut_0 X (J := fun _ _ _ _ => False) (fun d => s_cutF)) ?_
  rintro lv st w' ⟨rfl, rfl, rfl⟩
  apply And.intro
  · intro hq_5
    apply And.intro
    · exact ⟨by omega, by omega⟩
    refine Exists.intro [] (Exists.intro [q1 _, q1 _, q1 _] (Exists.intro [] (And.intro rfl (And.intro rfl (And.intro rfl (And.intro trivial ?_))))))
    refine Exists.intro _ (Exists.intro _ (Exists.intro _ (And.intro rfl (And.intro rfl (?_)))))
    intro zq_29 hq_29
    apply And.intro
    · intro hq_32
      first | replace hq_29 := dj1 hq_29 hq_32 | replace hq_29 := dj0 hq_29 hq_32
      refine Exists.intro [0, 1, 3, 4, 5, 6, 7, 8, 9, 10, 11, 2, 12, 13, 14, 15, 16, 17, 18, 19, 20, 21, 22, 23, 24, 25] (Exists.intro [q2 0, q1 _, q1 _] (Exists.intro ([.inr (12, [q1 _, q2 1, q2 2, q2 3, q2 4, q2 5, q2 6, q2 7, q2 8, q2 9, q1 _, q1 _, q1 _, q1 _, q1 _, q3 _, q1 _, q1 _, q1 _, q2 10, q2 11, q1 _, q1 _, q1 _, q1 _, q1 _, q1 _, q2 12, q1 _, q2 13, q2 14, q2 15, q2 16, q1 _, q2 17, q1 _, q2 18, q2 19, q2 20, q2 21, q2 22, q1 _, q2 23, q2 24, q2 25])]) (And.intro rfl (And.intro rfl (And.intro rfl (And.intro ⟨⟨_, rfl⟩, rfl⟩ ?_))))))
      refine Exists.intro _ (Exists.intro _ (Exists.intro _ (Exists.intro _ (Exists.intro _ (Exists.intro _ (Exists.intro _ (Exists.intro _ (Exists.intro _ (Exists.intro _ (Exists.intro _ (Exists.intro _ (Exists.intro _ (Exists.intro _ (Exists.intro _ (Exists.intro _ (Exists.intro _ (Exists.intro _ (Exists.intro _ (Exists.intro _ (Exists.intro _ (Exists.intro _ (And.intro rfl (And.intro rfl (And.intro (fun hq_9 => SlM_b hS hq_9) (?_)))))))))))))))))))))))))
      intro x_mlf_50 x_mlp_50 hq_50
      apply And.intro
      · first | exact Or.inl rfl | exact Or.inr rfl | omega
      refine Exists.intro [0, 1, 3, 4, 5, 6, 7, 8, 9, 10, 11, 2, 12, 13, 14, 15, 16, 17, 18, 19, 20, 21, 22, 23, 24, 25] (Exists.intro [q2 0] (Exists.intro ([.inr (12, [q1 _, q2 1, q2 2, q2 3, q2 4, q2 5, q2 6, q2 7, q2 8, q2 9, q1 _, q1 _, q1 _, q1 _, q1 _, q3 _, q1 _, q1 _, q1 _, q2 10, q2 11, q1 _, q1 _, q1 _, q1 _, q1 _, q1 _, q2 12, q1 _, q2 13, q2 14, q2 15, q2 16, q1 _, q2 17, q1 _, q2 18, q2 19, q2 20, q2 21, q2 22, q1 _, q2 23, q2 24, q2 25]), .inl (1, 2400, .inl _)]) (And.intro rfl (And.intro rfl (And.intro rfl (And.intro ⟨⟨_, rfl⟩, rfl⟩ ?_))))))
      refine Exists.intro _ (Exists.intro _ (Exists.intro _ (Exists.intro _ (Exists.intro _ (Exists.intro _ (Exists.intro _ (Exists.intro _ (Exists.intro _ (Exists.intro _ (Exists.intro _ (Exists.intro _ (Exists.intro _ (Exists.intro _ (Exists.intro _ (Exists.intro _ (Exists.intro _ (Exists.intro _ (Exists.intro _ (Exists.intro _ (Exists.intro _ (And.intro rfl (And.intro rfl (And.intro (by first | omega | assumption | exact q_rg_up (by assumption) (by omega) | exact q_rg_up (q_rg_up (by assumption) (by omega)) (by omega) | exact q_rg_cpy (by assumption) (by assumption)) (?_))))))))))))))))))))))))
      intro x_mre_59 x_mbe_59 x_mso_59 x_mva_59 x_mwo_59 hq_59
      apply And.intro
      · first | exact Or.inl rfl | exact Or.inr rfl | omega
      exact hQ _ _ _ _ _ _ _ _ _ _ _ ⟨by omega, by omega, by omega, (by first | exact Or.inr ⟨hq_9.1, SlM_nf hS hty hq_5, hq_9.2.trans hS.1.1⟩ | exact Or.inl ⟨rfl, SlM_good hS hty hq_5 (by omega) (But_n hd hq_41) hq_59.1, (by rw [SlM_v hS hty hq_5])⟩ | exact Or.inl ⟨rfl, SlM_bad hS hty hq_5 (by first | exact Or.inr (Or.inr (But_y hd (by have q9 := slL_0 gw gj; omega) hq_41)) | (rcases (show mva < slL gw gj ∨ slG gw gj < mva by omega) with q9 | q9; exact Or.inl q9; exact Or.inr (Or.inl q9))) hq_50 hq_59.1, (by rw [SlM_v hS hty hq_5])⟩)⟩
    · intro hq_32
      first | replace hq_29 := dj1 hq_29 hq_32 | replace hq_29 := dj0 hq_29 hq_32
      apply And.intro
      · intro hq_41
        refine Exists.intro [0, 1, 3, 4, 5, 6, 7, 8, 9, 10, 11, 2, 12, 13, 14, 15, 16, 17, 18, 19, 20, 21, 22, 23, 24, 25] (Exists.intro [q2 0] (Exists.intro ([.inr (12, [q1 _, q2 1, q2 2, q2 3, q2 4, q2 5, q2 6, q2 7, q2 8, q2 9, q1 _, q1 _, q1 _, q1 _, q1 _, q3 _, q1 _, q1 _, q1 _, q2 10, q2 11, q1 _, q1 _, q1 _, q1 _, q1 _, q1 _, q2 12, q1 _, q2 13, q2 14, q2 15, q2 16, q1 _, q2 17, q1 _, q2 18, q2 19, q2 20, q2 21, q2 22, q1 _, q2 23, q2 24, q2 25]), .inl (1, 2400, .inl _)]) (And.intro rfl (And.intro rfl (And.intro rfl (And.intro ⟨⟨_, rfl⟩, rfl⟩ ?_))))))
        refine Exists.intro _ (Exists.intro _ (Exists.intro _ (Exists.intro _ (Exists.intro _ (Exists.intro _ (Exists.intro _ (Exists.intro _ (Exists.intro _ (Exists.intro _ (Exists.intro _ (Exists.intro _ (Exists.intro _ (Exists.intro _ (Exists.intro _ (Exists.intro _ (Exists.intro _ (Exists.intro _ (Exists.intro _ (Exists.intro _ (Exists.intro _ (And.intro rfl (And.intro rfl (And.intro (by first | omega | assumption | exact q_rg_up (by assumption) (by omega) | exact q_rg_up (q_rg_up (by assumption) (by omega)) (by omega) | exact q_rg_cpy (by assumption) (by assumption)) (?_))))))))))))))))))))))))
        intro x_mre_59 x_mbe_59 x_mso_59 x_mva_59 x_mwo_59 hq_59
        apply And.intro
        · first | exact Or.inl rfl | exact Or.inr rfl | omega
        exact hQ _ _ _ _ _ _ _ _ _ _ _ ⟨by omega, by omega, by omega, (by first | exact Or.inr ⟨hq_9.1, SlM_nf hS hty hq_5, hq_9.2.trans hS.1.1⟩ | exact Or.inl ⟨rfl, SlM_good hS hty hq_5 (by omega) (But_n hd hq_41) hq_59.1, (by rw [SlM_v hS hty hq_5])⟩ | exact Or.inl ⟨rfl, SlM_bad hS hty hq_5 (by first | exact Or.inr (Or.inr (But_y hd (by have q9 := slL_0 gw gj; omega) hq_41)) | (rcases (show mva < slL gw gj ∨ slG gw gj < mva by omega) with q9 | q9; exact Or.inl q9; exact Or.inr (Or.inl q9))) hq_50 hq_59.1, (by rw [SlM_v hS hty hq_5])⟩)⟩
      · intro hq_41
        refine Exists.intro [0, 1, 3, 4, 5, 6, 7, 8, 9, 10, 11, 2, 12, 13, 14, 15, 16, 17, 18, 19, 20, 21, 22, 23, 24, 25] (Exists.intro [q2 0, q1 _, q1 _] (Exists.intro ([.inr (12, [q1 _, q2 1, q2 2, q2 3, q2 4, q2 5, q2 6, q2 7, q2 8, q2 9, q1 _, q1 _, q1 _, q1 _, q1 _, q3 _, q1 _, q1 _, q1 _, q2 10, q2 11, q1 _, q1 _, q1 _, q1 _, q1 _, q1 _, q2 12, q1 _, q2 13, q2 14, q2 15, q2 16, q1 _, q2 17, q1 _, q2 18, q2 19, q2 20, q2 21, q2 22, q1 _, q2 23, q2 24, q2 25])]) (And.intro rfl (And.intro rfl (And.intro rfl (And.intro ⟨⟨_, rfl⟩, rfl⟩ ?_))))))
        refine Exists.intro _ (Exists.intro _ (Exists.intro _ (Exists.intro _ (Exists.intro _ (Exists.intro _ (Exists.intro _ (Exists.intro _ (Exists.intro _ (Exists.intro _ (Exists.intro _ (Exists.intro _ (Exists.intro _ (Exists.intro _ (Exists.intro _ (Exists.intro _ (Exists.intro _ (Exists.intro _ (Exists.intro _ (Exists.intro _ (Exists.intro _ (Exists.intro _ (And.intro rfl (And.intro rfl (And.intro (fun hq_9 => SlM_b hS hq_9) (?_)))))))))))))))))))))))))
        intro x_mlf_50 x_mlp_50 hq_50
        apply And.intro
        · first | exact Or.inl rfl | exact Or.inr rfl | omega
        refine Exists.intro [0, 1, 3, 4, 5, 6, 7, 8, 9, 10, 11, 2, 12, 13, 14, 15, 16, 17, 18, 19, 20, 21, 22, 23, 24, 25] (Exists.intro [q2 0] (Exists.intro ([.inr (12, [q1 _, q2 1, q2 2, q2 3, q2 4, q2 5, q2 6, q2 7, q2 8, q2 9, q1 _, q1 _, q1 _, q1 _, q1 _, q3 _, q1 _, q1 _, q1 _, q2 10, q2 11, q1 _, q1 _, q1 _, q1 _, q1 _, q1 _, q2 12, q1 _, q2 13, q2 14, q2 15, q2 16, q1 _, q2 17, q1 _, q2 18, q2 19, q2 20, q2 21, q2 22, q1 _, q2 23, q2 24, q2 25]), .inl (1, 2400, .inl _)]) (And.intro rfl (And.intro rfl (And.intro rfl (And.intro ⟨⟨_, rfl⟩, rfl⟩ ?_))))))
        refine Exists.intro _ (Exists.intro _ (Exists.intro _ (Exists.intro _ (Exists.intro _ (Exists.intro _ (Exists.intro _ (Exists.intro _ (Exists.intro _ (Exists.intro _ (Exists.intro _ (Exists.intro _ (Exists.intro _ (Exists.intro _ (Exists.intro _ (Exists.intro _ (Exists.intro _ (Exists.intro _ (Exists.intro _ (Exists.intro _ (Exists.intro _ (And.intro rfl (And.intro rfl (And.intro (by first | omega | assumption | exact q_rg_up (by assumption) (by omega) | exact q_rg_up (q_rg_up (by assumption) (by omega)) (by omega) | exact q_rg_cpy (by assumption) (by assumption)) (?_))))))))))))))))))))))))
        intro x_mre_59 x_mbe_59 x_mso_59 x_mva_59 x_mwo_59 hq_59
        apply And.intro
        · first | exact Or.inl rfl | exact Or.inr rfl | omega
        exact hQ _ _ _ _ _ _ _ _ _ _ _ ⟨by omega, by omega, by omega, (by first | exact Or.inr ⟨hq_9.1, SlM_nf hS hty hq_5, hq_9.2.trans hS.1.1⟩ | exact Or.inl ⟨rfl, SlM_good hS hty hq_5 (by omega) (But_n hd hq_41) hq_59.1, (by rw [SlM_v hS hty hq_5])⟩ | exact Or.inl ⟨rfl, SlM_bad hS hty hq_5 (by first | exact Or.inr (Or.inr (But_y hd (by have q9 := slL_0 gw gj; omega) hq_41)) | (rcases (show mva < slL gw gj ∨ slG gw gj < mva by omega) with q9 | q9; exact Or.inl q9; exact Or.inr (Or.inl q9))) hq_50 hq_59.1, (by rw [SlM_v hS hty hq_5])⟩)⟩
  · intro hq_5
    refine Exists.intro [0, 1, 3, 4, 5, 6, 7, 8, 9, 10, 11, 2, 12, 13, 14, 15, 16, 17, 18, 19, 20, 21, 22, 23, 24, 25] (Exists.intro [q2 0] (Exists.intro ([.inr (12, [q1 _, q2 1, q2 2, q2 3, q2 4, q2 5, q2 6, q2 7, q2 8, q2 9, q1 _, q1 _, q1 _, q1 _, q1 _, q3 _, q1 _, q1 _, q1 _, q2 10, q2 11, q1 _, q1 _, q1 _, q1 _, q1 _, q1 _, q2 12, q1 _, q2 13, q2 14, q2 15, q2 16, q1 _, q2 17, q1 _, q2 18, q2 19, q2 20, q2 21, q2 22, q1 _, q2 23, q2 24, q2 25])]) (And.intro rfl (And.intro rfl (And.intro rfl (And.intro ⟨⟨_, rfl⟩, rfl⟩ ?_))))))
    refine Exists.intro _ (Exists.intro _ (Exists.intro _ (Exists.intro _ (Exists.intro _ (Exists.intro _ (Exists.intro _ (Exists.intro _ (Exists.intro _ (Exists.intro _ (Exists.intro _ (Exists.intro _ (Exists.intro _ (Exists.intro _ (Exists.intro _ (Exists.intro _ (Exists.intro _ (Exists.intro _ (Exists.intro _ (Exists.intro _ (And.intro rfl (And.intro rfl (?_))))))))))))))))))))))
    intro zq_9 x_mwr_9 hq_9
    apply And.intro
    · first | exact Or.inl rfl | exact Or.inr rfl | omega
    exact hQ _ _ _ _ _ _ _ _ _ _ _ ⟨by omega, by omega, by omega, (by first | exact Or.inr ⟨hq_9.1, SlM_nf hS hty hq_5, hq_9.2.trans hS.1.1⟩ | exact Or.inl ⟨rfl, SlM_good hS hty hq_5 (by omega) (But_n hd hq_41) hq_59.1, (by rw [SlM_v hS hty hq_5])⟩ | exact Or.inl ⟨rfl, SlM_bad hS hty hq_5 (by first | exact Or.inr (Or.inr (But_y hd (by have q9 := slL_0 gw gj; omega) hq_41)) | (rcases (show mva < slL gw gj ∨ slG gw gj < mva by omega) with q9 | q9; exact Or.inl q9; exact Or.inr (Or.inl q9))) hq_50 hq_59.1, (by rw [SlM_v hS hty hq_5])⟩)⟩

theorem dF12_take_0 : decode cX12_take 0 = .ok (.aload_n 0, 1) := by decide +kernel
theorem dF12_take_1 : decode cX12_take 1 = .ok (.iload_n 1, 1) := by decide +kernel
theorem dF12_take_2 : decode cX12_take 2 = .ok (.iload_n 2, 1) := by decide +kernel
theorem dF12_take_3 : decode cX12_take 3 = .ok (.iload_n 3, 1) := by decide +kernel
theorem dF12_take_4 : decode cX12_take 4 = .ok (.iconst (-1), 1) := by decide +kernel
theorem dF12_take_5 : decode cX12_take 5 = .ok (.invokevirtual 155, 3) := by decide +kernel
theorem dF12_take_8 : decode cX12_take 8 = .ok (.ireturn, 1) := by decide +kernel
def is_F12_take : Nat → List Nat := fun d => []
set_option maxRecDepth 100000 in
def b_F12_take_0 (J : Nat → List qV → List qV → qW → Prop) (Q : qR) : qK := x_aload 0 (x_iload 1 (x_iload 2 (x_iload 3 (x_int (-1) (x_call (some 12) 5 sp_F12_takeBut (x_nw (x_zret Q)))))))
set_option maxRecDepth 100000 in
theorem s_F12_take_0 {p : Program} {l : Launch} {e : Env} {R : Room} {s : State} {m : MethodId} {args : Array Value} {below : List Frame} {meth : Method} {c : Code} {nW : Nat} {dC : Nat → ClassId} {dI : Nat → Nat → Nat} {k : Nat → ClassId} {g : Nat → Nat} {A : Nat → Prop} {J : Nat → List qV → List qV → qW → Prop} {Q : qR} (X : q_X p R s m args meth c cX12_take 4 nW 3 68 RX12 (some .boolean) dC dI k g A) (hJ : ∀ d : Nat, q_Sd p l e R s m args below meth c 4 nW dC dI k g A (MQ below (q_post (dC, dI) k g nW Q A) args s 0 0 A) d (x_cut (is_F12_take d) (J d))) : q_Sd p l e R s m args below meth c 4 nW dC dI k g A (MQ below (q_post (dC, dI) k g nW Q A) args s 0 0 A) 0 (b_F12_take_0 J Q) := by
  unfold b_F12_take_0
  refine s_aload_n X rfl dF12_take_0 ?_
  refine s_iload_n X rfl dF12_take_1 ?_
  refine s_iload_n X rfl dF12_take_2 ?_
  refine s_iload_n X rfl dF12_take_3 ?_
  refine s_iconst X ⟨by decide, by decide⟩ dF12_take_4 ?_
  refine s_callV X (m_F12_takeBut l) tw_1100 tw_1101 tw_1622 tw_134 tw_1102 rfl (by decide +kernel) ⟨by decide, by decide⟩ dF12_take_5 ?_
  refine s_nw ?_
  exact s_zret X dF12_take_8

def sp_F12_take : qS := fun av w Q => ∃ (mco : Int) (mre : Int) (mle : Int) (mbe : Int) (mso : Int) (mva : Int) (mwo : Int) (mwr : Int) (mlf : Int) (mlp : Int) (mfp : Int) (mfd : Int) (mgo : Int) (mbo : Int) (mpe : Int) (mye : Int) (mpr : Int) (mld : Int) (msi : Int) (mse : Int) (tp : Nat → Int) (re : Nat → Int) (gw : Int) (gp : Int) (gf : Int) (gq : Int) (gj : Nat) (a : Int) (b : Int) (cc : Int), av = [q2 0, q1 a, q1 b, q1 cc] ∧ w = [.inr (12, [q1 mco, q2 1, q2 3, q2 4, q2 5, q2 6, q2 7, q2 8, q2 9, q2 10, q1 mre, q1 mle, q1 mbe, q1 mso, q1 mva, q3 mwo, q1 mwr, q1 mlf, q1 mlp, q2 11, q2 2, q1 mfp, q1 mfd, q1 mgo, q1 mbo, q1 mpe, q1 mye, q2 12, q1 mpr, q2 13, q2 14, q2 15, q2 16, q1 mld, q2 17, q1 msi, q2 18, q2 19, q2 20, q2 21, q2 22, q1 mse, q2 23, q2 24, q2 25]), .inl (1, 2400, .inl tp), .inl (0, 4, .inl re)] ∧ (0 ≤ mre ∧ mre ≤ mle ∧ mle ≤ 600) ∧ (0 ≤ a ∧ a ≤ 3) ∧ (SlM (tc tp) mle gw gp gf gq gj mre mbe mso mva mwo mlf mlp mgo) ∧ (slT gw gj = 1) ∧ (b = slL gw gj ∧ cc = slG gw gj) ∧ (¬ ((gw = 5 ∨ gw = 13) ∧ (gj : Int) = 1)) ∧ (∀ (r : Int) (x_mre : Int) (x_mbe : Int) (x_mso : Int) (x_mva : Int) (x_mwo : Int) (x_mwr : Int) (x_mlf : Int) (x_mlp : Int) (x_mgo : Int) (x_re : Nat → Int), ((r = 0 ∨ r = 1 ∧ (x_mso = 0 ∨ mre < x_mre)) ∧ mre ≤ x_mre ∧ x_mre ≤ mle ∧ TkP (tc tp) mle gw gp gf gq gj a re r x_mre x_mbe x_mso x_mva x_mwo x_mwr x_mlf x_mlp x_mgo x_re) → Q (some (q1 r)) ([.inr (12, [q1 mco, q2 1, q2 3, q2 4, q2 5, q2 6, q2 7, q2 8, q2 9, q2 10, q1 x_mre, q1 mle, q1 x_mbe, q1 x_mso, q1 x_mva, q3 x_mwo, q1 x_mwr, q1 x_mlf, q1 x_mlp, q2 11, q2 2, q1 mfp, q1 mfd, q1 x_mgo, q1 mbo, q1 mpe, q1 mye, q2 12, q1 mpr, q2 13, q2 14, q2 15, q2 16, q1 mld, q2 17, q1 msi, q2 18, q2 19, q2 20, q2 21, q2 22, q1 mse, q2 23, q2 24, q2 25]), .inl (1, 2400, .inl tp), .inl (0, 4, .inl x_re)]))
set_option maxHeartbeats 4000000 in
set_option maxRecDepth 100000 in
theorem m_F12_take (l : Launch) : q_M l yX12_take cX12_take 4 (some .boolean) 3 68 sp_F12_take := by
  refine q_meth (by decide) (fun av w Q h => by obtain ⟨mco, mre, mle, mbe, mso, mva, mwo, mwr, mlf, mlp, mfp, mfd, mgo, mbo, mpe, mye, mpr, mld, msi, mse, tp, re, gw, gp, gf, gq, gj, a, b, cc, rfl, rfl, htp, ha, hS, hty, hb, hnb, hQ⟩ := h; exact Nat.le_of_ble_eq_true rfl) ?_
  intro p e R s m args below meth c dC dI k g A av w Q hsp oka okw X
  obtain ⟨mco, mre, mle, mbe, mso, mva, mwo, mwr, mlf, mlp, mfp, mfd, mgo, mbo, mpe, mye, mpr, mld, msi, mse, tp, re, gw, gp, gf, gq, gj, a, b, cc, rfl, rfl, htp, ha, hS, hty, hb, hnb, hQ⟩ := hsp
  have o_a : -2147483648 ≤ a ∧ a ≤ 2147483647 := oka _ (List.mem_of_getElem? (i := 1) rfl)
  have o_b : -2147483648 ≤ b ∧ b ≤ 2147483647 := oka _ (List.mem_of_getElem? (i := 2) rfl)
  have o_cc : -2147483648 ≤ cc ∧ cc ≤ 2147483647 := oka _ (List.mem_of_getElem? (i := 3) rfl)
  refine s_mono (s_F12_take_0 X (J := fun _ _ _ _ => False) (fun d => s_cutF)) ?_
  rintro lv st w' ⟨rfl, rfl, rfl⟩
  refine Exists.intro [0, 1, 2, 3, 4, 5, 6, 7, 8, 9, 10, 11, 12, 13, 14, 15, 16, 17, 18, 19, 20, 21, 22, 23, 24, 25] (Exists.intro [q2 0, q1 _, q1 _, q1 _, q1 _] (Exists.intro ([.inr (12, [q1 _, q2 1, q2 3, q2 4, q2 5, q2 6, q2 7, q2 8, q2 9, q2 10, q1 _, q1 _, q1 _, q1 _, q1 _, q3 _, q1 _, q1 _, q1 _, q2 11, q2 2, q1 _, q1 _, q1 _, q1 _, q1 _, q1 _, q2 12, q1 _, q2 13, q2 14, q2 15, q2 16, q1 _, q2 17, q1 _, q2 18, q2 19, q2 20, q2 21, q2 22, q1 _, q2 23, q2 24, q2 25]), .inl (1, 2400, .inl _), .inl (0, 4, .inl _)]) (And.intro rfl (And.intro rfl (And.intro rfl (And.intro ⟨⟨_, rfl⟩, rfl⟩ ?_))))))
  refine Exists.intro _ (Exists.intro _ (Exists.intro _ (Exists.intro _ (Exists.intro _ (Exists.intro _ (Exists.intro _ (Exists.intro _ (Exists.intro _ (Exists.intro _ (Exists.intro _ (Exists.intro _ (Exists.intro _ (Exists.intro _ (Exists.intro _ (Exists.intro _ (Exists.intro _ (Exists.intro _ (Exists.intro _ (Exists.intro _ (Exists.intro _ (Exists.intro _ (Exists.intro _ (Exists.intro _ (Exists.intro _ (Exists.intro _ (Exists.intro _ (Exists.intro _ (Exists.intro _ (Exists.intro _ (Exists.intro _ (And.intro rfl (And.intro rfl (And.intro (by first | omega | assumption | exact q_rg_up (by assumption) (by omega) | exact q_rg_up (q_rg_up (by assumption) (by omega)) (by omega) | exact q_rg_cpy (by assumption) (by assumption)) (And.intro ha (And.intro hS (And.intro hty (And.intro hb (And.intro (Or.inr ⟨hnb, rfl⟩) (?_)))))))))))))))))))))))))))))))))))))))
  intro zq_5 x_mre_5 x_mbe_5 x_mso_5 x_mva_5 x_mwo_5 x_mwr_5 x_mlf_5 x_mlp_5 x_mgo_5 x_re_5 hq_5
  apply And.intro
  · first | exact Or.inl rfl | exact Or.inr rfl | omega
  exact hQ _ _ _ _ _ _ _ _ _ _ _ hq_5

theorem dF12_takePerson_0 : decode cX12_takePerson 0 = .ok (.aload_n 0, 1) := by decide +kernel
theorem dF12_takePerson_1 : decode cX12_takePerson 1 = .ok (.iload_n 1, 1) := by decide +kernel
theorem dF12_takePerson_2 : decode cX12_takePerson 2 = .ok (.iconst 0, 1) := by decide +kernel
theorem dF12_takePerson_3 : decode cX12_takePerson 3 = .ok (.bipush 7, 2) := by decide +kernel
theorem dF12_takePerson_5 : decode cX12_takePerson 5 = .ok (.iload_n 2, 1) := by decide +kernel
theorem dF12_takePerson_6 : decode cX12_takePerson 6 = .ok (.invokevirtual 155, 3) := by decide +kernel
theorem dF12_takePerson_9 : decode cX12_takePerson 9 = .ok (.ifCond .ne 5, 3) := by decide +kernel
theorem dF12_takePerson_12 : decode cX12_takePerson 12 = .ok (.iconst 0, 1) := by decide +kernel
theorem dF12_takePerson_13 : decode cX12_takePerson 13 = .ok (.ireturn, 1) := by decide +kernel
theorem dF12_takePerson_14 : decode cX12_takePerson 14 = .ok (.aload_n 0, 1) := by decide +kernel
theorem dF12_takePerson_15 : decode cX12_takePerson 15 = .ok (.aload_n 0, 1) := by decide +kernel
theorem dF12_takePerson_16 : decode cX12_takePerson 16 = .ok (.getfield 159, 3) := by decide +kernel
theorem dF12_takePerson_19 : decode cX12_takePerson 19 = .ok (.aload_n 0, 1) := by decide +kernel
theorem dF12_takePerson_20 : decode cX12_takePerson 20 = .ok (.getfield 41, 3) := by decide +kernel
theorem dF12_takePerson_23 : decode cX12_takePerson 23 = .ok (.iload_n 1, 1) := by decide +kernel
theorem dF12_takePerson_24 : decode cX12_takePerson 24 = .ok (.iaload, 1) := by decide +kernel
theorem dF12_takePerson_25 : decode cX12_takePerson 25 = .ok (.invokestatic 162, 3) := by decide +kernel
theorem dF12_takePerson_28 : decode cX12_takePerson 28 = .ok (.putfield 159, 3) := by decide +kernel
theorem dF12_takePerson_31 : decode cX12_takePerson 31 = .ok (.iconst 1, 1) := by decide +kernel
theorem dF12_takePerson_32 : decode cX12_takePerson 32 = .ok (.ireturn, 1) := by decide +kernel
def is_F12_takePerson : Nat → List Nat := fun d => []
set_option maxRecDepth 100000 in
def b_F12_takePerson_0 (J : Nat → List qV → List qV → qW → Prop) (Q : qR) : qK := x_aload 0 (x_iload 1 (x_int 0 (x_int 7 (x_iload 2 (x_call (some 12) 5 sp_F12_takeBut (x_nw (x_if_ne (x_aload 0 (x_aload 0 (x_get 12 21 (x_aload 0 (x_get 12 20 (x_iload 1 (x_iald (x_callr none 2 spr_X12_greater (x_put 12 21 q_oki (x_nw (x_int 1 (x_zret Q)))))))))))) (x_int 0 (x_zret Q)))))))))
set_option maxRecDepth 100000 in
theorem s_F12_takePerson_0 {p : Program} {l : Launch} {e : Env} {R : Room} {s : State} {m : MethodId} {args : Array Value} {below : List Frame} {meth : Method} {c : Code} {nW : Nat} {dC : Nat → ClassId} {dI : Nat → Nat → Nat} {k : Nat → ClassId} {g : Nat → Nat} {A : Nat → Prop} {J : Nat → List qV → List qV → qW → Prop} {Q : qR} (X : q_X p R s m args meth c cX12_takePerson 3 nW 3 68 RX12 (some .boolean) dC dI k g A) (hJ : ∀ d : Nat, q_Sd p l e R s m args below meth c 3 nW dC dI k g A (MQ below (q_post (dC, dI) k g nW Q A) args s 0 0 A) d (x_cut (is_F12_takePerson d) (J d))) : q_Sd p l e R s m args below meth c 3 nW dC dI k g A (MQ below (q_post (dC, dI) k g nW Q A) args s 0 0 A) 0 (b_F12_takePerson_0 J Q) := by
  unfold b_F12_takePerson_0
  refine s_aload_n X rfl dF12_takePerson_0 ?_
  refine s_iload_n X rfl dF12_takePerson_1 ?_
  refine s_iconst X ⟨by decide, by decide⟩ dF12_takePerson_2 ?_
  refine s_bipush X ⟨by decide, by decide⟩ (by decide) dF12_takePerson_3 ?_
  refine s_iload_n X rfl dF12_takePerson_5 ?_
  refine s_callV X (m_F12_takeBut l) tw_1100 tw_1101 tw_1622 tw_134 tw_1102 rfl (by decide +kernel) ⟨by decide, by decide⟩ dF12_takePerson_6 ?_
  refine s_nw ?_
  refine s_if_ne X (tgt := 14) dF12_takePerson_9 (by decide) ?_ ?_
  · refine s_aload_n X rfl dF12_takePerson_14 ?_
    refine s_aload_n X rfl dF12_takePerson_15 ?_
    refine s_get X (T := TX12) (C := RX12) (N := 45) tu_X12 rfl (by decide) tw_1018 dF12_takePerson_16 ?_
    refine s_aload_n X rfl dF12_takePerson_19 ?_
    refine s_get X (T := TX12) (C := RX12) (N := 45) tu_X12 rfl (by decide) tw_1017 dF12_takePerson_20 ?_
    refine s_iload_n X rfl dF12_takePerson_23 ?_
    refine s_iald X dF12_takePerson_24 ?_
    refine s_callSr X (m_X12_greater l) tw_1118 tw_1119 tw_134 tw_1120 (by decide +kernel) ⟨by decide, by decide⟩ dF12_takePerson_25 ?_
    refine s_put X (T := TX12) (C := RX12) (N := 45) tu_X12 tyX12_ok nmX12 rfl (by decide) tw_1018 rfl (by decide +kernel) q_oki_t dF12_takePerson_28 ?_
    refine s_nw ?_
    refine s_iconst X ⟨by decide, by decide⟩ dF12_takePerson_31 ?_
    exact s_zret X dF12_takePerson_32
  · refine s_iconst X ⟨by decide, by decide⟩ dF12_takePerson_12 ?_
    exact s_zret X dF12_takePerson_13

def sp_F12_takePerson : qS := fun av w Q => ∃ (mco : Int) (mre : Int) (mle : Int) (mbe : Int) (mso : Int) (mva : Int) (mwo : Int) (mwr : Int) (mlf : Int) (mlp : Int) (mfp : Int) (mfd : Int) (mgo : Int) (mbo : Int) (mpe : Int) (mye : Int) (mpr : Int) (mld : Int) (msi : Int) (mse : Int) (tp : Nat → Int) (re : Nat → Int) (gw : Int) (gp : Int) (gf : Int) (gq : Int) (gj : Nat) (a : Int) (b : Int), av = [q2 0, q1 a, q1 b] ∧ w = [.inr (12, [q1 mco, q2 1, q2 3, q2 4, q2 5, q2 6, q2 7, q2 8, q2 9, q2 10, q1 mre, q1 mle, q1 mbe, q1 mso, q1 mva, q3 mwo, q1 mwr, q1 mlf, q1 mlp, q2 11, q2 2, q1 mfp, q1 mfd, q1 mgo, q1 mbo, q1 mpe, q1 mye, q2 12, q1 mpr, q2 13, q2 14, q2 15, q2 16, q1 mld, q2 17, q1 msi, q2 18, q2 19, q2 20, q2 21, q2 22, q1 mse, q2 23, q2 24, q2 25]), .inl (1, 2400, .inl tp), .inl (0, 4, .inl re)] ∧ (0 ≤ mre ∧ mre ≤ mle ∧ mle ≤ 600) ∧ (0 ≤ a ∧ a ≤ 3) ∧ (SlM (tc tp) mle gw gp gf gq gj mre mbe mso mva mwo mlf mlp mgo) ∧ (slT gw gj = 1) ∧ (slL gw gj = 0 ∧ slG gw gj = 7) ∧ (ButR (tc tp) mle gw gp gj b) ∧ (∀ (r : Int) (x_mre : Int) (x_mbe : Int) (x_mso : Int) (x_mva : Int) (x_mwo : Int) (x_mwr : Int) (x_mlf : Int) (x_mlp : Int) (x_mgo : Int) (x_re : Nat → Int) (x_mfp : Int), ((r = 0 ∨ r = 1 ∧ (x_mso = 0 ∨ mre < x_mre)) ∧ mre ≤ x_mre ∧ x_mre ≤ mle ∧ TkP (tc tp) mle gw gp gf gq gj a re r x_mre x_mbe x_mso x_mva x_mwo x_mwr x_mlf x_mlp x_mgo x_re ∧ (r = 1 → x_mfp = max mfp (lvs (tc tp) mle gw gp gj))) → Q (some (q1 r)) ([.inr (12, [q1 mco, q2 1, q2 3, q2 4, q2 5, q2 6, q2 7, q2 8, q2 9, q2 10, q1 x_mre, q1 mle, q1 x_mbe, q1 x_mso, q1 x_mva, q3 x_mwo, q1 x_mwr, q1 x_mlf, q1 x_mlp, q2 11, q2 2, q1 x_mfp, q1 mfd, q1 x_mgo, q1 mbo, q1 mpe, q1 mye, q2 12, q1 mpr, q2 13, q2 14, q2 15, q2 16, q1 mld, q2 17, q1 msi, q2 18, q2 19, q2 20, q2 21, q2 22, q1 mse, q2 23, q2 24, q2 25]), .inl (1, 2400, .inl tp), .inl (0, 4, .inl x_re)]))
set_option maxHeartbeats 4000000 in
set_option maxRecDepth 100000 in
theorem m_F12_takePerson (l : Launch) : q_M l yX12_takePerson cX12_takePerson 3 (some .boolean) 3 68 sp_F12_takePerson := by
  refine q_meth (by decide) (fun av w Q h => by obtain ⟨mco, mre, mle, mbe, mso, mva, mwo, mwr, mlf, mlp, mfp, mfd, mgo, mbo, mpe, mye, mpr, mld, msi, mse, tp, re, gw, gp, gf, gq, gj, a, b, rfl, rfl, htp, ha, hS, hty, hb, hd, hQ⟩ := h; exact Nat.le_of_ble_eq_true rfl) ?_
  intro p e R s m args below meth c dC dI k g A av w Q hsp oka okw X
  obtain ⟨mco, mre, mle, mbe, mso, mva, mwo, mwr, mlf, mlp, mfp, mfd, mgo, mbo, mpe, mye, mpr, mld, msi, mse, tp, re, gw, gp, gf, gq, gj, a, b, rfl, rfl, htp, ha, hS, hty, hb, hd, hQ⟩ := hsp
  have o_a : -2147483648 ≤ a ∧ a ≤ 2147483647 := oka _ (List.mem_of_getElem? (i := 1) rfl)
  have o_b : -2147483648 ≤ b ∧ b ≤ 2147483647 := oka _ (List.mem_of_getElem? (i := 2) rfl)
  refine s_mono (s_F12_takePerson_0 X (J := fun _ _ _ _ => False) (fun d => s_cutF)) ?_
  rintro lv st w' ⟨rfl, rfl, rfl⟩
  refine Exists.intro [0, 1, 2, 3, 4, 5, 6, 7, 8, 9, 10, 11, 12, 13, 14, 15, 16, 17, 18, 19, 20, 21, 22, 23, 24, 25] (Exists.intro [q2 0, q1 _, q1 _, q1 _, q1 _] (Exists.intro ([.inr (12, [q1 _, q2 1, q2 3, q2 4, q2 5, q2 6, q2 7, q2 8, q2 9, q2 10, q1 _, q1 _, q1 _, q1 _, q1 _, q3 _, q1 _, q1 _, q1 _, q2 11, q2 2, q1 _, q1 _, q1 _, q1 _, q1 _, q1 _, q2 12, q1 _, q2 13, q2 14, q2 15, q2 16, q1 _, q2 17, q1 _, q2 18, q2 19, q2 20, q2 21, q2 22, q1 _, q2 23, q2 24, q2 25]), .inl (1, 2400, .inl _), .inl (0, 4, .inl _)]) (And.intro rfl (And.intro rfl (And.intro rfl (And.intro ⟨⟨_, rfl⟩, rfl⟩ ?_))))))
  refine Exists.intro _ (Exists.intro _ (Exists.intro _ (Exists.intro _ (Exists.intro _ (Exists.intro _ (Exists.intro _ (Exists.intro _ (Exists.intro _ (Exists.intro _ (Exists.intro _ (Exists.intro _ (Exists.intro _ (Exists.intro _ (Exists.intro _ (Exists.intro _ (Exists.intro _ (Exists.intro _ (Exists.intro _ (Exists.intro _ (Exists.intro _ (Exists.intro _ (Exists.intro _ (Exists.intro _ (Exists.intro _ (Exists.intro _ (Exists.intro _ (Exists.intro _ (Exists.intro _ (Exists.intro _ (Exists.intro _ (And.intro rfl (And.intro rfl (And.intro (by first | omega | assumption | exact q_rg_up (by assumption) (by omega) | exact q_rg_up (q_rg_up (by assumption) (by omega)) (by omega) | exact q_rg_cpy (by assumption) (by assumption)) (And.intro ha (And.intro hS (And.intro hty (And.intro ⟨hb.1.symm, hb.2.symm⟩ (And.intro hd (?_)))))))))))))))))))))))))))))))))))))))
  intro zq_6 x_mre_6 x_mbe_6 x_mso_6 x_mva_6 x_mwo_6 x_mwr_6 x_mlf_6 x_mlp_6 x_mgo_6 x_re_6 hq_6
  apply And.intro
  · intro hq_9
    apply And.intro
    · exact ⟨by omega, by omega⟩
    intro zq_24 hq_24
    have e24 : zq_24 = lvs (tc tp) mle gw gp gj := by rw [hq_24, (dj1 hq_6.2.2.2 hq_9).2]; exact q_up_s
    refine Exists.intro [] (Exists.intro [q1 _, q1 _] (Exists.intro [] (And.intro rfl (And.intro rfl (And.intro rfl (And.intro trivial ?_))))))
    refine Exists.intro _ (Exists.intro _ (And.intro rfl (And.intro rfl (?_))))
    intro zq_25 hq_25
    apply And.intro
    · exact trivial
    apply And.intro
    · first | exact Or.inl rfl | exact Or.inr rfl | omega
    exact hQ _ _ _ _ _ _ _ _ _ _ _ _ ⟨by omega, by omega, by omega, (by first | exact TkP_0 hq_6.2.2.2 hq_9 | exact TkP_1 hq_6.2.2.2 hq_9), (by first | exact fun hq_8 => absurd hq_8 (by decide) | exact fun _ => by omega)⟩
  · intro hq_9
    apply And.intro
    · first | exact Or.inl rfl | exact Or.inr rfl | omega
    exact hQ _ _ _ _ _ _ _ _ _ _ _ _ ⟨by omega, by omega, by omega, (by first | exact TkP_0 hq_6.2.2.2 hq_9 | exact TkP_1 hq_6.2.2.2 hq_9), (by first | exact fun hq_8 => absurd hq_8 (by decide) | exact fun _ => by omega)⟩

theorem dF12_takeOffence_0 : decode cX12_takeOffence 0 = .ok (.aload_n 0, 1) := by decide +kernel
theorem dF12_takeOffence_1 : decode cX12_takeOffence 1 = .ok (.getfield 125, 3) := by decide +kernel
theorem dF12_takeOffence_4 : decode cX12_takeOffence 4 = .ok (.iconst 2, 1) := by decide +kernel
theorem dF12_takeOffence_5 : decode cX12_takeOffence 5 = .ok (.if_icmp .eq 7, 3) := by decide +kernel
theorem dF12_takeOffence_8 : decode cX12_takeOffence 8 = .ok (.iconst (-1), 1) := by decide +kernel
theorem dF12_takeOffence_9 : decode cX12_takeOffence 9 = .ok (.goto 64, 3) := by decide +kernel
theorem dF12_takeOffence_12 : decode cX12_takeOffence 12 = .ok (.aload_n 0, 1) := by decide +kernel
theorem dF12_takeOffence_13 : decode cX12_takeOffence 13 = .ok (.getfield 121, 3) := by decide +kernel
theorem dF12_takeOffence_16 : decode cX12_takeOffence 16 = .ok (.ldc2_w 166, 3) := by decide +kernel
theorem dF12_takeOffence_19 : decode cX12_takeOffence 19 = .ok (.lcmp, 1) := by decide +kernel
theorem dF12_takeOffence_20 : decode cX12_takeOffence 20 = .ok (.ifCond .ne 7, 3) := by decide +kernel
theorem dF12_takeOffence_23 : decode cX12_takeOffence 23 = .ok (.iconst 0, 1) := by decide +kernel
theorem dF12_takeOffence_24 : decode cX12_takeOffence 24 = .ok (.goto 49, 3) := by decide +kernel
theorem dF12_takeOffence_27 : decode cX12_takeOffence 27 = .ok (.aload_n 0, 1) := by decide +kernel
theorem dF12_takeOffence_28 : decode cX12_takeOffence 28 = .ok (.getfield 121, 3) := by decide +kernel
theorem dF12_takeOffence_31 : decode cX12_takeOffence 31 = .ok (.ldc2_w 168, 3) := by decide +kernel
theorem dF12_takeOffence_34 : decode cX12_takeOffence 34 = .ok (.lcmp, 1) := by decide +kernel
theorem dF12_takeOffence_35 : decode cX12_takeOffence 35 = .ok (.ifCond .ne 7, 3) := by decide +kernel
theorem dF12_takeOffence_38 : decode cX12_takeOffence 38 = .ok (.iconst 1, 1) := by decide +kernel
theorem dF12_takeOffence_39 : decode cX12_takeOffence 39 = .ok (.goto 34, 3) := by decide +kernel
theorem dF12_takeOffence_42 : decode cX12_takeOffence 42 = .ok (.aload_n 0, 1) := by decide +kernel
theorem dF12_takeOffence_43 : decode cX12_takeOffence 43 = .ok (.getfield 121, 3) := by decide +kernel
theorem dF12_takeOffence_46 : decode cX12_takeOffence 46 = .ok (.ldc2_w 170, 3) := by decide +kernel
theorem dF12_takeOffence_49 : decode cX12_takeOffence 49 = .ok (.lcmp, 1) := by decide +kernel
theorem dF12_takeOffence_50 : decode cX12_takeOffence 50 = .ok (.ifCond .ne 7, 3) := by decide +kernel
theorem dF12_takeOffence_53 : decode cX12_takeOffence 53 = .ok (.iconst 2, 1) := by decide +kernel
theorem dF12_takeOffence_54 : decode cX12_takeOffence 54 = .ok (.goto 19, 3) := by decide +kernel
theorem dF12_takeOffence_57 : decode cX12_takeOffence 57 = .ok (.aload_n 0, 1) := by decide +kernel
theorem dF12_takeOffence_58 : decode cX12_takeOffence 58 = .ok (.getfield 121, 3) := by decide +kernel
theorem dF12_takeOffence_61 : decode cX12_takeOffence 61 = .ok (.ldc2_w 172, 3) := by decide +kernel
theorem dF12_takeOffence_64 : decode cX12_takeOffence 64 = .ok (.lcmp, 1) := by decide +kernel
theorem dF12_takeOffence_65 : decode cX12_takeOffence 65 = .ok (.ifCond .ne 7, 3) := by decide +kernel
theorem dF12_takeOffence_68 : decode cX12_takeOffence 68 = .ok (.iconst 3, 1) := by decide +kernel
theorem dF12_takeOffence_69 : decode cX12_takeOffence 69 = .ok (.goto 4, 3) := by decide +kernel
theorem dF12_takeOffence_72 : decode cX12_takeOffence 72 = .ok (.iconst (-1), 1) := by decide +kernel
theorem dF12_takeOffence_73 : decode cX12_takeOffence 73 = .ok (.istore_n 2, 1) := by decide +kernel
theorem dF12_takeOffence_74 : decode cX12_takeOffence 74 = .ok (.iload_n 2, 1) := by decide +kernel
theorem dF12_takeOffence_75 : decode cX12_takeOffence 75 = .ok (.iconst (-1), 1) := by decide +kernel
theorem dF12_takeOffence_76 : decode cX12_takeOffence 76 = .ok (.if_icmp .ne 8, 3) := by decide +kernel
theorem dF12_takeOffence_79 : decode cX12_takeOffence 79 = .ok (.aload_n 0, 1) := by decide +kernel
theorem dF12_takeOffence_80 : decode cX12_takeOffence 80 = .ok (.invokevirtual 140, 3) := by decide +kernel
theorem dF12_takeOffence_83 : decode cX12_takeOffence 83 = .ok (.ireturn, 1) := by decide +kernel
theorem dF12_takeOffence_84 : decode cX12_takeOffence 84 = .ok (.aload_n 0, 1) := by decide +kernel
theorem dF12_takeOffence_85 : decode cX12_takeOffence 85 = .ok (.getfield 41, 3) := by decide +kernel
theorem dF12_takeOffence_88 : decode cX12_takeOffence 88 = .ok (.iload_n 1, 1) := by decide +kernel
theorem dF12_takeOffence_89 : decode cX12_takeOffence 89 = .ok (.iload_n 2, 1) := by decide +kernel
theorem dF12_takeOffence_90 : decode cX12_takeOffence 90 = .ok (.iastore, 1) := by decide +kernel
theorem dF12_takeOffence_91 : decode cX12_takeOffence 91 = .ok (.aload_n 0, 1) := by decide +kernel
theorem dF12_takeOffence_92 : decode cX12_takeOffence 92 = .ok (.invokevirtual 152, 3) := by decide +kernel
theorem dF12_takeOffence_95 : decode cX12_takeOffence 95 = .ok (.iconst 1, 1) := by decide +kernel
theorem dF12_takeOffence_96 : decode cX12_takeOffence 96 = .ok (.ireturn, 1) := by decide +kernel
def is_F12_takeOffence : Nat → List Nat := fun d => if d = 73 then [0, 1] else []
set_option maxRecDepth 100000 in
def b_F12_takeOffence_73 (J : Nat → List qV → List qV → qW → Prop) (Q : qR) : qK := x_istore 2 (x_iload 2 (x_int (-1) (x_icmp_ne (x_aload 0 (x_get 12 20 (x_iload 1 (x_iload 2 (x_iast (x_nw (x_aload 0 (x_call (some 12) 1 sp_F12_token (x_nw (x_int 1 (x_zret Q))))))))))) (x_aload 0 (x_call (some 12) 1 sp_F12_fails (x_nw (x_zret Q)))))))
set_option maxRecDepth 100000 in
theorem s_F12_takeOffence_73 {p : Program} {l : Launch} {e : Env} {R : Room} {s : State} {m : MethodId} {args : Array Value} {below : List Frame} {meth : Method} {c : Code} {nW : Nat} {dC : Nat → ClassId} {dI : Nat → Nat → Nat} {k : Nat → ClassId} {g : Nat → Nat} {A : Nat → Prop} {J : Nat → List qV → List qV → qW → Prop} {Q : qR} (X : q_X p R s m args meth c cX12_takeOffence 3 nW 2 44 RX12 (some .boolean) dC dI k g A) (hJ : ∀ d : Nat, q_Sd p l e R s m args below meth c 3 nW dC dI k g A (MQ below (q_post (dC, dI) k g nW Q A) args s 0 0 A) d (x_cut (is_F12_takeOffence d) (J d))) : q_Sd p l e R s m args below meth c 3 nW dC dI k g A (MQ below (q_post (dC, dI) k g nW Q A) args s 0 0 A) 73 (b_F12_takeOffence_73 J Q) := by
  unfold b_F12_takeOffence_73
  refine s_istore_n X rfl (by decide) dF12_takeOffence_73 ?_
  refine s_iload_n X rfl dF12_takeOffence_74 ?_
  refine s_iconst X ⟨by decide, by decide⟩ dF12_takeOffence_75 ?_
  refine s_icmp_ne X (tgt := 84) dF12_takeOffence_76 (by decide) ?_ ?_
  · refine s_aload_n X rfl dF12_takeOffence_84 ?_
    refine s_get X (T := TX12) (C := RX12) (N := 45) tu_X12 rfl (by decide) tw_1017 dF12_takeOffence_85 ?_
    refine s_iload_n X rfl dF12_takeOffence_88 ?_
    refine s_iload_n X rfl dF12_takeOffence_89 ?_
    refine s_iast X dF12_takeOffence_90 ?_
    refine s_nw ?_
    refine s_aload_n X rfl dF12_takeOffence_91 ?_
    refine s_callV X (m_F12_token l) tw_1070 tw_1071 tw_1627 tw_134 tw_1072 rfl (by decide +kernel) ⟨by decide, by decide⟩ dF12_takeOffence_92 ?_
    refine s_nw ?_
    refine s_iconst X ⟨by decide, by decide⟩ dF12_takeOffence_95 ?_
    exact s_zret X dF12_takeOffence_96
  · refine s_aload_n X rfl dF12_takeOffence_79 ?_
    refine s_callV X (m_F12_fails l) tw_1103 tw_1104 tw_1568 tw_134 tw_1105 rfl (by decide +kernel) ⟨by decide, by decide⟩ dF12_takeOffence_80 ?_
    refine s_nw ?_
    exact s_zret X dF12_takeOffence_83
set_option maxRecDepth 100000 in
def b_F12_takeOffence_50 (J : Nat → List qV → List qV → qW → Prop) (Q : qR) : qK := x_if_ne (x_aload 0 (x_get 12 15 (x_lng 115923104394356 (x_lcmp (x_if_ne (x_int (-1) (x_cut [0, 1] (J 73))) (x_int 3 (x_cut [0, 1] (J 73)))))))) (x_int 2 (x_cut [0, 1] (J 73)))
set_option maxRecDepth 100000 in
theorem s_F12_takeOffence_50 {p : Program} {l : Launch} {e : Env} {R : Room} {s : State} {m : MethodId} {args : Array Value} {below : List Frame} {meth : Method} {c : Code} {nW : Nat} {dC : Nat → ClassId} {dI : Nat → Nat → Nat} {k : Nat → ClassId} {g : Nat → Nat} {A : Nat → Prop} {J : Nat → List qV → List qV → qW → Prop} {Q : qR} (X : q_X p R s m args meth c cX12_takeOffence 3 nW 2 44 RX12 (some .boolean) dC dI k g A) (hJ : ∀ d : Nat, q_Sd p l e R s m args below meth c 3 nW dC dI k g A (MQ below (q_post (dC, dI) k g nW Q A) args s 0 0 A) d (x_cut (is_F12_takeOffence d) (J d))) : q_Sd p l e R s m args below meth c 3 nW dC dI k g A (MQ below (q_post (dC, dI) k g nW Q A) args s 0 0 A) 50 (b_F12_takeOffence_50 J Q) := by
  unfold b_F12_takeOffence_50
  refine s_if_ne X (tgt := 57) dF12_takeOffence_50 (by decide) ?_ ?_
  · refine s_aload_n X rfl dF12_takeOffence_57 ?_
    refine s_get X (T := TX12) (C := RX12) (N := 45) tu_X12 rfl (by decide) tw_1012 dF12_takeOffence_58 ?_
    refine s_ldc2 X ⟨by decide, by decide⟩ tw_1139 dF12_takeOffence_61 ?_
    refine s_lcmp X dF12_takeOffence_64 ?_
    refine s_if_ne X (tgt := 72) dF12_takeOffence_65 (by decide) ?_ ?_
    · refine s_iconst X ⟨by decide, by decide⟩ dF12_takeOffence_72 ?_
      exact hJ 73
    · refine s_iconst X ⟨by decide, by decide⟩ dF12_takeOffence_68 ?_
      refine s_goto X (tgt := 73) dF12_takeOffence_69 (by decide) ?_
      exact hJ 73
  · refine s_iconst X ⟨by decide, by decide⟩ dF12_takeOffence_53 ?_
    refine s_goto X (tgt := 73) dF12_takeOffence_54 (by decide) ?_
    exact hJ 73
set_option maxRecDepth 100000 in
def b_F12_takeOffence_0 (J : Nat → List qV → List qV → qW → Prop) (Q : qR) : qK := x_aload 0 (x_get 12 13 (x_int 2 (x_icmp_eq (x_aload 0 (x_get 12 15 (x_lng 499967682164 (x_lcmp (x_if_ne (x_aload 0 (x_get 12 15 (x_lng 7104869 (x_lcmp (x_if_ne (x_aload 0 (x_get 12 15 (x_lng 495806932324 (x_lcmp (b_F12_takeOffence_50 J Q))))) (x_int 1 (x_cut [0, 1] (J 73)))))))) (x_int 0 (x_cut [0, 1] (J 73)))))))) (x_int (-1) (x_cut [0, 1] (J 73))))))
set_option maxRecDepth 100000 in
theorem s_F12_takeOffence_0 {p : Program} {l : Launch} {e : Env} {R : Room} {s : State} {m : MethodId} {args : Array Value} {below : List Frame} {meth : Method} {c : Code} {nW : Nat} {dC : Nat → ClassId} {dI : Nat → Nat → Nat} {k : Nat → ClassId} {g : Nat → Nat} {A : Nat → Prop} {J : Nat → List qV → List qV → qW → Prop} {Q : qR} (X : q_X p R s m args meth c cX12_takeOffence 3 nW 2 44 RX12 (some .boolean) dC dI k g A) (hJ : ∀ d : Nat, q_Sd p l e R s m args below meth c 3 nW dC dI k g A (MQ below (q_post (dC, dI) k g nW Q A) args s 0 0 A) d (x_cut (is_F12_takeOffence d) (J d))) : q_Sd p l e R s m args below meth c 3 nW dC dI k g A (MQ below (q_post (dC, dI) k g nW Q A) args s 0 0 A) 0 (b_F12_takeOffence_0 J Q) := by
  unfold b_F12_takeOffence_0
  refine s_aload_n X rfl dF12_takeOffence_0 ?_
  refine s_get X (T := TX12) (C := RX12) (N := 45) tu_X12 rfl (by decide) tw_1010 dF12_takeOffence_1 ?_
  refine s_iconst X ⟨by decide, by decide⟩ dF12_takeOffence_4 ?_
  refine s_icmp_eq X (tgt := 12) dF12_takeOffence_5 (by decide) ?_ ?_
  · refine s_aload_n X rfl dF12_takeOffence_12 ?_
    refine s_get X (T := TX12) (C := RX12) (N := 45) tu_X12 rfl (by decide) tw_1012 dF12_takeOffence_13 ?_
    refine s_ldc2 X ⟨by decide, by decide⟩ tw_1136 dF12_takeOffence_16 ?_
    refine s_lcmp X dF12_takeOffence_19 ?_
    refine s_if_ne X (tgt := 27) dF12_takeOffence_20 (by decide) ?_ ?_
    · refine s_aload_n X rfl dF12_takeOffence_27 ?_
      refine s_get X (T := TX12) (C := RX12) (N := 45) tu_X12 rfl (by decide) tw_1012 dF12_takeOffence_28 ?_
      refine s_ldc2 X ⟨by decide, by decide⟩ tw_1137 dF12_takeOffence_31 ?_
      refine s_lcmp X dF12_takeOffence_34 ?_
      refine s_if_ne X (tgt := 42) dF12_takeOffence_35 (by decide) ?_ ?_
      · refine s_aload_n X rfl dF12_takeOffence_42 ?_
        refine s_get X (T := TX12) (C := RX12) (N := 45) tu_X12 rfl (by decide) tw_1012 dF12_takeOffence_43 ?_
        refine s_ldc2 X ⟨by decide, by decide⟩ tw_1138 dF12_takeOffence_46 ?_
        refine s_lcmp X dF12_takeOffence_49 ?_
        exact s_F12_takeOffence_50 X hJ
      · refine s_iconst X ⟨by decide, by decide⟩ dF12_takeOffence_38 ?_
        refine s_goto X (tgt := 73) dF12_takeOffence_39 (by decide) ?_
        exact hJ 73
    · refine s_iconst X ⟨by decide, by decide⟩ dF12_takeOffence_23 ?_
      refine s_goto X (tgt := 73) dF12_takeOffence_24 (by decide) ?_
      exact hJ 73
  · refine s_iconst X ⟨by decide, by decide⟩ dF12_takeOffence_8 ?_
    refine s_goto X (tgt := 73) dF12_takeOffence_9 (by decide) ?_
    exact hJ 73

def sp_F12_takeOffence : qS := fun av w Q => ∃ (mco : Int) (mre : Int) (mle : Int) (mbe : Int) (mso : Int) (mva : Int) (mwo : Int) (mwr : Int) (mlf : Int) (mlp : Int) (mfp : Int) (mfd : Int) (mgo : Int) (mbo : Int) (mpe : Int) (mye : Int) (mpr : Int) (mld : Int) (msi : Int) (mse : Int) (tp : Nat → Int) (re : Nat → Int) (gw : Int) (gp : Int) (gf : Int) (gq : Int) (gj : Nat) (a : Int), av = [q2 0, q1 a] ∧ w = [.inr (12, [q1 mco, q2 1, q2 3, q2 4, q2 5, q2 6, q2 7, q2 8, q2 9, q2 10, q1 mre, q1 mle, q1 mbe, q1 mso, q1 mva, q3 mwo, q1 mwr, q1 mlf, q1 mlp, q2 11, q2 2, q1 mfp, q1 mfd, q1 mgo, q1 mbo, q1 mpe, q1 mye, q2 12, q1 mpr, q2 13, q2 14, q2 15, q2 16, q1 mld, q2 17, q1 msi, q2 18, q2 19, q2 20, q2 21, q2 22, q1 mse, q2 23, q2 24, q2 25]), .inl (1, 2400, .inl tp), .inl (0, 4, .inl re)] ∧ (0 ≤ mre ∧ mre ≤ mle ∧ mle ≤ 600) ∧ (0 ≤ a ∧ a ≤ 3) ∧ (SlM (tc tp) mle gw gp gf gq gj mre mbe mso mva mwo mlf mlp mgo) ∧ (slT gw gj = 2) ∧ (∀ (r : Int) (x_mre : Int) (x_mbe : Int) (x_mso : Int) (x_mva : Int) (x_mwo : Int) (x_mwr : Int) (x_re : Nat → Int), ((r = 0 ∨ r = 1 ∧ (x_mso = 0 ∨ mre < x_mre)) ∧ mre ≤ x_mre ∧ x_mre ≤ mle ∧ TkP (tc tp) mle gw gp gf gq gj a re r x_mre x_mbe x_mso x_mva x_mwo x_mwr mlf mlp mgo x_re) → Q (some (q1 r)) ([.inr (12, [q1 mco, q2 1, q2 3, q2 4, q2 5, q2 6, q2 7, q2 8, q2 9, q2 10, q1 x_mre, q1 mle, q1 x_mbe, q1 x_mso, q1 x_mva, q3 x_mwo, q1 x_mwr, q1 mlf, q1 mlp, q2 11, q2 2, q1 mfp, q1 mfd, q1 mgo, q1 mbo, q1 mpe, q1 mye, q2 12, q1 mpr, q2 13, q2 14, q2 15, q2 16, q1 mld, q2 17, q1 msi, q2 18, q2 19, q2 20, q2 21, q2 22, q1 mse, q2 23, q2 24, q2 25]), .inl (1, 2400, .inl tp), .inl (0, 4, .inl x_re)]))
def I_F12_takeOffence (mco : Int) (mre : Int) (mle : Int) (mbe : Int) (mso : Int) (mva : Int) (mwo : Int) (mwr : Int) (mlf : Int) (mlp : Int) (mfp : Int) (mfd : Int) (mgo : Int) (mbo : Int) (mpe : Int) (mye : Int) (mpr : Int) (mld : Int) (msi : Int) (mse : Int) (tp : Nat → Int) (re : Nat → Int) (gw : Int) (gp : Int) (gf : Int) (gq : Int) (gj : Nat) (a : Int) : Nat → Nat → List qV → List qV → qW → Prop := fun dz mz vz sz wz => if dz = 73 then (∃ (s0 : Int), vz = [q2 0, q1 a] ∧ sz = [q1 s0] ∧ wz = [.inr (12, [q1 mco, q2 1, q2 3, q2 4, q2 5, q2 6, q2 7, q2 8, q2 9, q2 10, q1 mre, q1 mle, q1 mbe, q1 mso, q1 mva, q3 mwo, q1 mwr, q1 mlf, q1 mlp, q2 11, q2 2, q1 mfp, q1 mfd, q1 mgo, q1 mbo, q1 mpe, q1 mye, q2 12, q1 mpr, q2 13, q2 14, q2 15, q2 16, q1 mld, q2 17, q1 msi, q2 18, q2 19, q2 20, q2 21, q2 22, q1 mse, q2 23, q2 24, q2 25]), .inl (1, 2400, .inl tp), .inl (0, 4, .inl re)] ∧ mz = 0 ∧ (s0 = ofW (tc tp) mle (lps (tc tp) mle gw gp gj))) else False
set_option maxHeartbeats 4000000 in
set_option maxRecDepth 100000 in
theorem m_F12_takeOffence (l : Launch) : q_M l yX12_takeOffence cX12_takeOffence 3 (some .boolean) 2 44 sp_F12_takeOffence := by
  refine q_meth (by decide) (fun av w Q h => by obtain ⟨mco, mre, mle, mbe, mso, mva, mwo, mwr, mlf, mlp, mfp, mfd, mgo, mbo, mpe, mye, mpr, mld, msi, mse, tp, re, gw, gp, gf, gq, gj, a, rfl, rfl, htp, ha, hS, hty, hQ⟩ := h; exact Nat.le_of_ble_eq_true rfl) ?_
  intro p e R s m args below meth c dC dI k g A av w Q hsp oka okw X
  obtain ⟨mco, mre, mle, mbe, mso, mva, mwo, mwr, mlf, mlp, mfp, mfd, mgo, mbo, mpe, mye, mpr, mld, msi, mse, tp, re, gw, gp, gf, gq, gj, a, rfl, rfl, htp, ha, hS, hty, hQ⟩ := hsp
  have o_a : -2147483648 ≤ a ∧ a ≤ 2147483647 := oka _ (List.mem_of_getElem? (i := 1) rfl)
  refine s_mono (s_F12_takeOffence_0 X (J := fun dz vz sz wz => ∃ mz, I_F12_takeOffence mco mre mle mbe mso mva mwo mwr mlf mlp mfp mfd mgo mbo mpe mye mpr mld msi mse tp re gw gp gf gq gj a dz mz vz sz wz) (q_loopn (I_F12_takeOffence mco mre mle mbe mso mva mwo mwr mlf mlp mfp mfd mgo mbo mpe mye mpr mld msi mse tp re gw gp gf gq gj a) (fun dz J => if dz = 73 then b_F12_takeOffence_73 J Q else q_F) ?hs ?hv)) ?_
  case hs =>
    intro d J hJ
    by_cases hq_73 : d = 73
    · subst hq_73; exact s_F12_takeOffence_73 X hJ
    simp only [hq_73, if_false]
    exact s_F
  case hv =>
    intro dz mz vz sz wz hI okv oks okw hlen
    by_cases hq_73 : dz = 73
    · subst hq_73
      obtain ⟨s0, rfl, rfl, rfl, hn, ho⟩ := hI
      have or9 := of_r (t := tc tp) (n := mle) (p := (lps (tc tp) mle gw gp gj))
      apply And.intro
      · intro hq_76
        apply And.intro
        · exact ⟨by omega, by omega⟩
        refine Exists.intro [0, 1, 3, 4, 5, 6, 7, 8, 9, 10, 11, 2, 12, 13, 14, 15, 16, 17, 18, 19, 20, 21, 22, 23, 24, 25] (Exists.intro [q2 0] (Exists.intro ([.inr (12, [q1 _, q2 1, q2 2, q2 3, q2 4, q2 5, q2 6, q2 7, q2 8, q2 9, q1 _, q1 _, q1 _, q1 _, q1 _, q3 _, q1 _, q1 _, q1 _, q2 10, q2 11, q1 _, q1 _, q1 _, q1 _, q1 _, q1 _, q2 12, q1 _, q2 13, q2 14, q2 15, q2 16, q1 _, q2 17, q1 _, q2 18, q2 19, q2 20, q2 21, q2 22, q1 _, q2 23, q2 24, q2 25]), .inl (1, 2400, .inl _)]) (And.intro rfl (And.intro rfl (And.intro rfl (And.intro ⟨⟨_, rfl⟩, rfl⟩ ?_))))))
        refine Exists.intro _ (Exists.intro _ (Exists.intro _ (Exists.intro _ (Exists.intro _ (Exists.intro _ (Exists.intro _ (Exists.intro _ (Exists.intro _ (Exists.intro _ (Exists.intro _ (Exists.intro _ (Exists.intro _ (Exists.intro _ (Exists.intro _ (Exists.intro _ (Exists.intro _ (Exists.intro _ (Exists.intro _ (Exists.intro _ (Exists.intro _ (And.intro rfl (And.intro rfl (And.intro (by first | omega | assumption | exact q_rg_up (by assumption) (by omega) | exact q_rg_up (q_rg_up (by assumption) (by omega)) (by omega) | exact q_rg_cpy (by assumption) (by assumption)) (?_))))))))))))))))))))))))
        intro x_mre_92 x_mbe_92 x_mso_92 x_mva_92 x_mwo_92 hq_92
        apply And.intro
        · first | exact Or.inl rfl | exact Or.inr rfl | omega
        exact hQ _ _ _ _ _ _ _ _ ⟨by omega, by omega, by omega, (by first | exact Or.inr ⟨hq_80.1, SlM_no hS hty (by omega), hq_80.2.trans hS.1.1⟩ | exact Or.inl ⟨rfl, SlM_off hS hty (by omega) (by have k9 := of_k (t := tc tp) (n := mle) (p := (lps (tc tp) mle gw gp gj)) (by omega); omega) hq_92.1, (by rw [lvs_2 hty, ← ho])⟩)⟩
      · intro hq_76
        refine Exists.intro [0, 1, 3, 4, 5, 6, 7, 8, 9, 10, 11, 2, 12, 13, 14, 15, 16, 17, 18, 19, 20, 21, 22, 23, 24, 25] (Exists.intro [q2 0] (Exists.intro ([.inr (12, [q1 _, q2 1, q2 2, q2 3, q2 4, q2 5, q2 6, q2 7, q2 8, q2 9, q1 _, q1 _, q1 _, q1 _, q1 _, q3 _, q1 _, q1 _, q1 _, q2 10, q2 11, q1 _, q1 _, q1 _, q1 _, q1 _, q1 _, q2 12, q1 _, q2 13, q2 14, q2 15, q2 16, q1 _, q2 17, q1 _, q2 18, q2 19, q2 20, q2 21, q2 22, q1 _, q2 23, q2 24, q2 25])]) (And.intro rfl (And.intro rfl (And.intro rfl (And.intro ⟨⟨_, rfl⟩, rfl⟩ ?_))))))
        refine Exists.intro _ (Exists.intro _ (Exists.intro _ (Exists.intro _ (Exists.intro _ (Exists.intro _ (Exists.intro _ (Exists.intro _ (Exists.intro _ (Exists.intro _ (Exists.intro _ (Exists.intro _ (Exists.intro _ (Exists.intro _ (Exists.intro _ (Exists.intro _ (Exists.intro _ (Exists.intro _ (Exists.intro _ (Exists.intro _ (And.intro rfl (And.intro rfl (?_))))))))))))))))))))))
        intro zq_80 x_mwr_80 hq_80
        apply And.intro
        · first | exact Or.inl rfl | exact Or.inr rfl | omega
        exact hQ _ _ _ _ _ _ _ _ ⟨by omega, by omega, by omega, (by first | exact Or.inr ⟨hq_80.1, SlM_no hS hty (by omega), hq_80.2.trans hS.1.1⟩ | exact Or.inl ⟨rfl, SlM_off hS hty (by omega) (by have k9 := of_k (t := tc tp) (n := mle) (p := (lps (tc tp) mle gw gp gj)) (by omega); omega) hq_92.1, (by rw [lvs_2 hty, ← ho])⟩)⟩
    simp only [I_F12_takeOffence, hq_73, if_false] at hI
  rintro lv st w' ⟨rfl, rfl, rfl⟩
  have hq9 := (lps_r (t := tc tp) (w := gw) hS.2.2.2.2.2.2 gj).2
  have or9 := of_r (t := tc tp) (n := mle) (p := (lps (tc tp) mle gw gp gj))
  apply And.intro
  · intro hq_5
    intro zq_19 hq_19
    replace hq_19 := wb_o (i := 0) hS.1.2.2.2.2 hq9 (by decide) (by decide) hq_19
    apply And.intro
    · intro hq_20
      replace hq_19 := wb0 hq_19 hq_20
      intro zq_34 hq_34
      replace hq_34 := wb_o (i := 1) hS.1.2.2.2.2 hq9 (by decide) (by decide) hq_34
      apply And.intro
      · intro hq_35
        replace hq_34 := wb0 hq_34 hq_35
        intro zq_49 hq_49
        replace hq_49 := wb_o (i := 2) hS.1.2.2.2.2 hq9 (by decide) (by decide) hq_49
        apply And.intro
        · intro hq_50
          replace hq_49 := wb0 hq_49 hq_50
          intro zq_64 hq_64
          replace hq_64 := wb_o (i := 3) hS.1.2.2.2.2 hq9 (by decide) (by decide) hq_64
          apply And.intro
          · intro hq_65
            replace hq_64 := wb0 hq_64 hq_65
            exact ⟨_, _, rfl, rfl, rfl, rfl, (by first | omega | assumption | exact q_rg_up (by assumption) (by omega) | exact q_rg_up (q_rg_up (by assumption) (by omega)) (by omega) | exact q_rg_cpy (by assumption) (by assumption))⟩
          · intro hq_65
            replace hq_64 := wb1 hq_64 hq_65
            exact ⟨_, _, rfl, rfl, rfl, rfl, (by first | omega | assumption | exact q_rg_up (by assumption) (by omega) | exact q_rg_up (q_rg_up (by assumption) (by omega)) (by omega) | exact q_rg_cpy (by assumption) (by assumption))⟩
        · intro hq_50
          replace hq_49 := wb1 hq_49 hq_50
          exact ⟨_, _, rfl, rfl, rfl, rfl, (by first | omega | assumption | exact q_rg_up (by assumption) (by omega) | exact q_rg_up (q_rg_up (by assumption) (by omega)) (by omega) | exact q_rg_cpy (by assumption) (by assumption))⟩
      · intro hq_35
        replace hq_34 := wb1 hq_34 hq_35
        exact ⟨_, _, rfl, rfl, rfl, rfl, (by first | omega | assumption | exact q_rg_up (by assumption) (by omega) | exact q_rg_up (q_rg_up (by assumption) (by omega)) (by omega) | exact q_rg_cpy (by assumption) (by assumption))⟩
    · intro hq_20
      replace hq_19 := wb1 hq_19 hq_20
      exact ⟨_, _, rfl, rfl, rfl, rfl, (by first | omega | assumption | exact q_rg_up (by assumption) (by omega) | exact q_rg_up (q_rg_up (by assumption) (by omega)) (by omega) | exact q_rg_cpy (by assumption) (by assumption))⟩
  · intro hq_5
    have o5 := of_m1 (t := tc tp) (n := mle) (p := (lps (tc tp) mle gw gp gj)) (fun hq_8 => hq_5 (by rw [hS.1.2.2.1, hq_8]; decide))
    exact ⟨_, _, rfl, rfl, rfl, rfl, (by first | omega | assumption | exact q_rg_up (by assumption) (by omega) | exact q_rg_up (q_rg_up (by assumption) (by omega)) (by omega) | exact q_rg_cpy (by assumption) (by assumption))⟩

theorem dF12_full_0 : decode cX12_full 0 = .ok (.aload_n 0, 1) := by decide +kernel
theorem dF12_full_1 : decode cX12_full 1 = .ok (.getfield 38, 3) := by decide +kernel
theorem dF12_full_4 : decode cX12_full 4 = .ok (.iload_n 1, 1) := by decide +kernel
theorem dF12_full_5 : decode cX12_full 5 = .ok (.iaload, 1) := by decide +kernel
theorem dF12_full_6 : decode cX12_full 6 = .ok (.iload_n 2, 1) := by decide +kernel
theorem dF12_full_7 : decode cX12_full 7 = .ok (.if_icmp .ne 9, 3) := by decide +kernel
theorem dF12_full_10 : decode cX12_full 10 = .ok (.aload_n 0, 1) := by decide +kernel
theorem dF12_full_11 : decode cX12_full 11 = .ok (.iconst 3, 1) := by decide +kernel
theorem dF12_full_12 : decode cX12_full 12 = .ok (.iload_n 3, 1) := by decide +kernel
theorem dF12_full_13 : decode cX12_full 13 = .ok (.invokevirtual 144, 3) := by decide +kernel
theorem dF12_full_16 : decode cX12_full 16 = .ok (.return_, 1) := by decide +kernel
def is_F12_full : Nat → List Nat := fun d => []
set_option maxRecDepth 100000 in
def b_F12_full_16 (J : Nat → List qV → List qV → qW → Prop) (Q : qR) : qK := x_vret Q
set_option maxRecDepth 100000 in
theorem s_F12_full_16 {p : Program} {l : Launch} {e : Env} {R : Room} {s : State} {m : MethodId} {args : Array Value} {below : List Frame} {meth : Method} {c : Code} {nW : Nat} {dC : Nat → ClassId} {dI : Nat → Nat → Nat} {k : Nat → ClassId} {g : Nat → Nat} {A : Nat → Prop} {J : Nat → List qV → List qV → qW → Prop} {Q : qR} (X : q_X p R s m args meth c cX12_full 4 nW 1 22 RX12 none dC dI k g A) (hJ : ∀ d : Nat, q_Sd p l e R s m args below meth c 4 nW dC dI k g A (MQ below (q_post (dC, dI) k g nW Q A) args s 0 0 A) d (x_cut (is_F12_full d) (J d))) : q_Sd p l e R s m args below meth c 4 nW dC dI k g A (MQ below (q_post (dC, dI) k g nW Q A) args s 0 0 A) 16 (b_F12_full_16 J Q) := by
  unfold b_F12_full_16
  exact s_vret X dF12_full_16
set_option maxRecDepth 100000 in
def b_F12_full_0 (J : Nat → List qV → List qV → qW → Prop) (Q : qR) : qK := x_aload 0 (x_get 12 19 (x_iload 1 (x_iald (x_iload 2 (x_icmp_ne (b_F12_full_16 J Q) (x_aload 0 (x_int 3 (x_iload 3 (x_call (some 12) 3 sp_F12_later (x_nw (b_F12_full_16 J Q)))))))))))
set_option maxRecDepth 100000 in
theorem s_F12_full_0 {p : Program} {l : Launch} {e : Env} {R : Room} {s : State} {m : MethodId} {args : Array Value} {below : List Frame} {meth : Method} {c : Code} {nW : Nat} {dC : Nat → ClassId} {dI : Nat → Nat → Nat} {k : Nat → ClassId} {g : Nat → Nat} {A : Nat → Prop} {J : Nat → List qV → List qV → qW → Prop} {Q : qR} (X : q_X p R s m args meth c cX12_full 4 nW 1 22 RX12 none dC dI k g A) (hJ : ∀ d : Nat, q_Sd p l e R s m args below meth c 4 nW dC dI k g A (MQ below (q_post (dC, dI) k g nW Q A) args s 0 0 A) d (x_cut (is_F12_full d) (J d))) : q_Sd p l e R s m args below meth c 4 nW dC dI k g A (MQ below (q_post (dC, dI) k g nW Q A) args s 0 0 A) 0 (b_F12_full_0 J Q) := by
  unfold b_F12_full_0
  refine s_aload_n X rfl dF12_full_0 ?_
  refine s_get X (T := TX12) (C := RX12) (N := 45) tu_X12 rfl (by decide) tw_1016 dF12_full_1 ?_
  refine s_iload_n X rfl dF12_full_4 ?_
  refine s_iald X dF12_full_5 ?_
  refine s_iload_n X rfl dF12_full_6 ?_
  refine s_icmp_ne X (tgt := 16) dF12_full_7 (by decide) ?_ ?_
  · exact s_F12_full_16 X hJ
  · refine s_aload_n X rfl dF12_full_10 ?_
    refine s_iconst X ⟨by decide, by decide⟩ dF12_full_11 ?_
    refine s_iload_n X rfl dF12_full_12 ?_
    refine s_callV X (m_F12_later l) tw_1091 tw_1092 tw_1594 tw_134 tw_1093 rfl (by decide +kernel) ⟨by decide, by decide⟩ dF12_full_13 ?_
    refine s_nw ?_
    exact s_F12_full_16 X hJ

def sp_F12_full : qS := fun av w Q => ∃ (mco : Int) (mre : Int) (mle : Int) (mbe : Int) (mso : Int) (mva : Int) (mwo : Int) (mwr : Int) (mlf : Int) (mlp : Int) (mfp : Int) (mfd : Int) (mgo : Int) (mbo : Int) (mpe : Int) (mye : Int) (mpr : Int) (mld : Int) (msi : Int) (mse : Int) (td : Nat → Int) (a : Int) (b : Int) (cc : Int), av = [q2 0, q1 a, q1 b, q1 cc] ∧ w = [.inr (12, [q1 mco, q2 2, q2 3, q2 4, q2 5, q2 6, q2 7, q2 8, q2 9, q2 10, q1 mre, q1 mle, q1 mbe, q1 mso, q1 mva, q3 mwo, q1 mwr, q1 mlf, q1 mlp, q2 1, q2 11, q1 mfp, q1 mfd, q1 mgo, q1 mbo, q1 mpe, q1 mye, q2 12, q1 mpr, q2 13, q2 14, q2 15, q2 16, q1 mld, q2 17, q1 msi, q2 18, q2 19, q2 20, q2 21, q2 22, q1 mse, q2 23, q2 24, q2 25]), .inl (0, 161, .inl td)] ∧ (0 ≤ a ∧ a ≤ 160) ∧ (¬ mlf = 0 → mlp < cc) ∧ (∀ (x_mlf : Int) (x_mlp : Int), FlR (td a.toNat) b cc mlf mlp x_mlf x_mlp → Q none ([.inr (12, [q1 mco, q2 2, q2 3, q2 4, q2 5, q2 6, q2 7, q2 8, q2 9, q2 10, q1 mre, q1 mle, q1 mbe, q1 mso, q1 mva, q3 mwo, q1 mwr, q1 x_mlf, q1 x_mlp, q2 1, q2 11, q1 mfp, q1 mfd, q1 mgo, q1 mbo, q1 mpe, q1 mye, q2 12, q1 mpr, q2 13, q2 14, q2 15, q2 16, q1 mld, q2 17, q1 msi, q2 18, q2 19, q2 20, q2 21, q2 22, q1 mse, q2 23, q2 24, q2 25]), .inl (0, 161, .inl td)]))
set_option maxHeartbeats 4000000 in
set_option maxRecDepth 100000 in
theorem m_F12_full (l : Launch) : q_M l yX12_full cX12_full 4 none 1 22 sp_F12_full := by
  refine q_meth (by decide) (fun av w Q h => by obtain ⟨mco, mre, mle, mbe, mso, mva, mwo, mwr, mlf, mlp, mfp, mfd, mgo, mbo, mpe, mye, mpr, mld, msi, mse, td, a, b, cc, rfl, rfl, ha, hl9, hQ⟩ := h; exact Nat.le_of_ble_eq_true rfl) ?_
  intro p e R s m args below meth c dC dI k g A av w Q hsp oka okw X
  obtain ⟨mco, mre, mle, mbe, mso, mva, mwo, mwr, mlf, mlp, mfp, mfd, mgo, mbo, mpe, mye, mpr, mld, msi, mse, td, a, b, cc, rfl, rfl, ha, hl9, hQ⟩ := hsp
  have o_a : -2147483648 ≤ a ∧ a ≤ 2147483647 := oka _ (List.mem_of_getElem? (i := 1) rfl)
  have o_b : -2147483648 ≤ b ∧ b ≤ 2147483647 := oka _ (List.mem_of_getElem? (i := 2) rfl)
  have o_cc : -2147483648 ≤ cc ∧ cc ≤ 2147483647 := oka _ (List.mem_of_getElem? (i := 3) rfl)
  refine s_mono (s_F12_full_0 X (J := fun _ _ _ _ => False) (fun d => s_cutF)) ?_
  rintro lv st w' ⟨rfl, rfl, rfl⟩
  apply And.intro
  · exact ⟨by omega, by omega⟩
  intro zq_5 hq_5
  apply And.intro
  · intro hq_7
    exact hQ _ _ (by unfold FlR; rw [← hq_5]; omega)
  · intro hq_7
    refine Exists.intro [0, 2, 3, 4, 5, 6, 7, 8, 9, 10, 1, 11, 12, 13, 14, 15, 16, 17, 18, 19, 20, 21, 22, 23, 24, 25] (Exists.intro [q2 0, q1 _, q1 _] (Exists.intro ([.inr (12, [q1 _, q2 1, q2 2, q2 3, q2 4, q2 5, q2 6, q2 7, q2 8, q2 9, q1 _, q1 _, q1 _, q1 _, q1 _, q3 _, q1 _, q1 _, q1 _, q2 10, q2 11, q1 _, q1 _, q1 _, q1 _, q1 _, q1 _, q2 12, q1 _, q2 13, q2 14, q2 15, q2 16, q1 _, q2 17, q1 _, q2 18, q2 19, q2 20, q2 21, q2 22, q1 _, q2 23, q2 24, q2 25])]) (And.intro rfl (And.intro rfl (And.intro rfl (And.intro ⟨⟨_, rfl⟩, rfl⟩ ?_))))))
    refine Exists.intro _ (Exists.intro _ (Exists.intro _ (Exists.intro _ (Exists.intro _ (Exists.intro _ (Exists.intro _ (Exists.intro _ (Exists.intro _ (Exists.intro _ (Exists.intro _ (Exists.intro _ (Exists.intro _ (Exists.intro _ (Exists.intro _ (Exists.intro _ (Exists.intro _ (Exists.intro _ (Exists.intro _ (Exists.intro _ (Exists.intro _ (Exists.intro _ (And.intro rfl (And.intro rfl (And.intro hl9 (?_)))))))))))))))))))))))))
    intro x_mlf_13 x_mlp_13 hq_13
    exact hQ _ _ (by unfold FlR; rw [← hq_5]; omega)
