theorem dX12_lineOf_0 : decode cX12_lineOf 0 = .ok (.iload_n 1, 1) := by decide +kernel
theorem dX12_lineOf_1 : decode cX12_lineOf 1 = .ok (.tableswitch 49 0 2 #[27, 35, 43], 27) := by decide +kernel
theorem dX12_lineOf_28 : decode cX12_lineOf 28 = .ok (.aload_n 0, 1) := by decide +kernel
theorem dX12_lineOf_29 : decode cX12_lineOf 29 = .ok (.lload_n 2, 1) := by decide +kernel
theorem dX12_lineOf_30 : decode cX12_lineOf 30 = .ok (.iload 4, 2) := by decide +kernel
theorem dX12_lineOf_32 : decode cX12_lineOf 32 = .ok (.invokevirtual 253, 3) := by decide +kernel
theorem dX12_lineOf_35 : decode cX12_lineOf 35 = .ok (.ireturn, 1) := by decide +kernel
theorem dX12_lineOf_36 : decode cX12_lineOf 36 = .ok (.aload_n 0, 1) := by decide +kernel
theorem dX12_lineOf_37 : decode cX12_lineOf 37 = .ok (.lload_n 2, 1) := by decide +kernel
theorem dX12_lineOf_38 : decode cX12_lineOf 38 = .ok (.iload 4, 2) := by decide +kernel
theorem dX12_lineOf_40 : decode cX12_lineOf 40 = .ok (.invokevirtual 257, 3) := by decide +kernel
theorem dX12_lineOf_43 : decode cX12_lineOf 43 = .ok (.ireturn, 1) := by decide +kernel
theorem dX12_lineOf_44 : decode cX12_lineOf 44 = .ok (.aload_n 0, 1) := by decide +kernel
theorem dX12_lineOf_45 : decode cX12_lineOf 45 = .ok (.lload_n 2, 1) := by decide +kernel
theorem dX12_lineOf_46 : decode cX12_lineOf 46 = .ok (.invokevirtual 260, 3) := by decide +kernel
theorem dX12_lineOf_49 : decode cX12_lineOf 49 = .ok (.ireturn, 1) := by decide +kernel
theorem dX12_lineOf_50 : decode cX12_lineOf 50 = .ok (.aload_n 0, 1) := by decide +kernel
theorem dX12_lineOf_51 : decode cX12_lineOf 51 = .ok (.lload_n 2, 1) := by decide +kernel
theorem dX12_lineOf_52 : decode cX12_lineOf 52 = .ok (.iload 4, 2) := by decide +kernel
theorem dX12_lineOf_54 : decode cX12_lineOf 54 = .ok (.invokevirtual 264, 3) := by decide +kernel
theorem dX12_lineOf_57 : decode cX12_lineOf 57 = .ok (.ireturn, 1) := by decide +kernel
def is_X12_lineOf : Nat → List Nat := fun d => []
set_option maxRecDepth 100000 in
def b_X12_lineOf_0 (J : Nat → List qV → List qV → qW → Prop) (Q : qR) : qK := x_iload 1 (x_sw 0 2 [x_aload 0 (x_lload 2 (x_iload 4 (x_call (some 12) 3 sp_X12_boroughLine (x_nw (x_zret Q))))), x_aload 0 (x_lload 2 (x_iload 4 (x_call (some 12) 3 sp_X12_yearLine (x_nw (x_zret Q))))), x_aload 0 (x_lload 2 (x_call (some 12) 2 sp_X12_ledgerLine (x_nw (x_zret Q))))] (x_aload 0 (x_lload 2 (x_iload 4 (x_call (some 12) 3 sp_X12_sightLine (x_nw (x_zret Q)))))))
set_option maxRecDepth 100000 in
theorem s_X12_lineOf_0 {p : Program} {l : Launch} {e : Env} {R : Room} {s : State} {m : MethodId} {args : Array Value} {below : List Frame} {meth : Method} {c : Code} {nW : Nat} {dC : Nat → ClassId} {dI : Nat → Nat → Nat} {k : Nat → ClassId} {g : Nat → Nat} {A : Nat → Prop} {J : Nat → List qV → List qV → qW → Prop} {Q : qR} (X : q_X p R s m args meth c cX12_lineOf 5 nW 6 139 RX12 (some .boolean) dC dI k g A) (hJ : ∀ d : Nat, q_Sd p l e R s m args below meth c 5 nW dC dI k g A (MQ below (q_post (dC, dI) k g nW Q A) args s 0 0 A) d (x_cut (is_X12_lineOf d) (J d))) : q_Sd p l e R s m args below meth c 5 nW dC dI k g A (MQ below (q_post (dC, dI) k g nW Q A) args s 0 0 A) 0 (b_X12_lineOf_0 J Q) := by
  unfold b_X12_lineOf_0
  refine s_iload_n X rfl dX12_lineOf_0 ?_
  refine s_sw X (ts := [28, 36, 44]) (td := 50) dX12_lineOf_1 (by decide) (by decide) (by decide) rfl ?_ ?_
  · intro i t K ht hK
    match i, ht, hK with
    | 0, ht, hK =>
      cases ht
      cases hK
      refine s_aload_n X rfl dX12_lineOf_28 ?_
      refine s_lload_n X rfl dX12_lineOf_29 ?_
      refine s_iload X dX12_lineOf_30 ?_
      refine s_callV X (m_X12_boroughLine l) tw_1082 tw_1083 tw_1551 tw_134 tw_1084 rfl (by decide +kernel) ⟨by decide, by decide⟩ dX12_lineOf_32 ?_
      refine s_nw ?_
      exact s_zret X dX12_lineOf_35
    | 1, ht, hK =>
      cases ht
      cases hK
      refine s_aload_n X rfl dX12_lineOf_36 ?_
      refine s_lload_n X rfl dX12_lineOf_37 ?_
      refine s_iload X dX12_lineOf_38 ?_
      refine s_callV X (m_X12_yearLine l) tw_1143 tw_1144 tw_1633 tw_134 tw_1145 rfl (by decide +kernel) ⟨by decide, by decide⟩ dX12_lineOf_40 ?_
      refine s_nw ?_
      exact s_zret X dX12_lineOf_43
    | 2, ht, hK =>
      cases ht
      cases hK
      refine s_aload_n X rfl dX12_lineOf_44 ?_
      refine s_lload_n X rfl dX12_lineOf_45 ?_
      refine s_callV X (m_X12_ledgerLine l) tw_1157 tw_1158 tw_1598 tw_134 tw_1159 rfl (by decide +kernel) ⟨by decide, by decide⟩ dX12_lineOf_46 ?_
      refine s_nw ?_
      exact s_zret X dX12_lineOf_49
    | i + 3, ht, hK => exact absurd ht (by simp)
  · refine s_aload_n X rfl dX12_lineOf_50 ?_
    refine s_lload_n X rfl dX12_lineOf_51 ?_
    refine s_iload X dX12_lineOf_52 ?_
    refine s_callV X (m_X12_sightLine l) tw_1162 tw_1163 tw_1615 tw_134 tw_1164 rfl (by decide +kernel) ⟨by decide, by decide⟩ dX12_lineOf_54 ?_
    refine s_nw ?_
    exact s_zret X dX12_lineOf_57

def sp_X12_lineOf : qS := fun av w Q => ∃ (mco : Int) (mre : Int) (mle : Int) (mbe : Int) (mso : Int) (mva : Int) (mwo : Int) (mwr : Int) (mlf : Int) (mlp : Int) (mfp : Int) (mfd : Int) (mgo : Int) (mbo : Int) (mpe : Int) (mye : Int) (mpr : Int) (mld : Int) (msi : Int) (mse : Int) (tp : Nat → Int) (re : Nat → Int) (td : Nat → Int) (ww : Int) (a : Int) (b : Int), av = [q2 0, q1 a, q3 ww, q1 b] ∧ w = [.inr (12, [q1 mco, q2 1, q2 4, q2 5, q2 6, q2 7, q2 8, q2 9, q2 10, q2 11, q1 mre, q1 mle, q1 mbe, q1 mso, q1 mva, q3 mwo, q1 mwr, q1 mlf, q1 mlp, q2 3, q2 2, q1 mfp, q1 mfd, q1 mgo, q1 mbo, q1 mpe, q1 mye, q2 12, q1 mpr, q2 13, q2 14, q2 15, q2 16, q1 mld, q2 17, q1 msi, q2 18, q2 19, q2 20, q2 21, q2 22, q1 mse, q2 23, q2 24, q2 25]), .inl (1, 2400, .inl tp), .inl (0, 4, .inl re), .inl (0, 161, .inl td)] ∧ (0 ≤ mre ∧ mre ≤ mle ∧ mle ≤ 600) ∧ (0 ≤ a ∧ a ≤ 3) ∧ (TI a td) ∧ (∀ (r : Int) (x_mre : Int) (x_mbe : Int) (x_mso : Int) (x_mva : Int) (x_mwo : Int) (x_mwr : Int) (x_mlf : Int) (x_mlp : Int) (x_mgo : Int) (x_mfp : Int) (x_mfd : Int) (x_re : Nat → Int) (x_td : Nat → Int), ((r = 0 ∨ r = 1 ∧ (x_mso = 0 ∨ mre < x_mre)) ∧ mre ≤ x_mre ∧ x_mre ≤ mle ∧ TI a x_td) → Q (some (q1 r)) ([.inr (12, [q1 mco, q2 1, q2 4, q2 5, q2 6, q2 7, q2 8, q2 9, q2 10, q2 11, q1 x_mre, q1 mle, q1 x_mbe, q1 x_mso, q1 x_mva, q3 x_mwo, q1 x_mwr, q1 x_mlf, q1 x_mlp, q2 3, q2 2, q1 x_mfp, q1 x_mfd, q1 x_mgo, q1 mbo, q1 mpe, q1 mye, q2 12, q1 mpr, q2 13, q2 14, q2 15, q2 16, q1 mld, q2 17, q1 msi, q2 18, q2 19, q2 20, q2 21, q2 22, q1 mse, q2 23, q2 24, q2 25]), .inl (1, 2400, .inl tp), .inl (0, 4, .inl x_re), .inl (0, 161, .inl x_td)]))
set_option maxHeartbeats 4000000 in
set_option maxRecDepth 100000 in
theorem m_X12_lineOf (l : Launch) : q_M l yX12_lineOf cX12_lineOf 5 (some .boolean) 6 139 sp_X12_lineOf := by
  refine q_meth (by decide) (fun av w Q h => by obtain ⟨mco, mre, mle, mbe, mso, mva, mwo, mwr, mlf, mlp, mfp, mfd, mgo, mbo, mpe, mye, mpr, mld, msi, mse, tp, re, td, ww, a, b, rfl, rfl, htp, ha, hti, hQ⟩ := h; exact Nat.le_of_ble_eq_true rfl) ?_
  intro p e R s m args below meth c dC dI k g A av w Q hsp oka okw X
  obtain ⟨mco, mre, mle, mbe, mso, mva, mwo, mwr, mlf, mlp, mfp, mfd, mgo, mbo, mpe, mye, mpr, mld, msi, mse, tp, re, td, ww, a, b, rfl, rfl, htp, ha, hti, hQ⟩ := hsp
  have o_a : -2147483648 ≤ a ∧ a ≤ 2147483647 := oka _ (List.mem_of_getElem? (i := 1) rfl)
  have o_b : -2147483648 ≤ b ∧ b ≤ 2147483647 := oka _ (List.mem_of_getElem? (i := 3) rfl)
  refine s_mono (s_X12_lineOf_0 X (J := fun _ _ _ _ => False) (fun d => s_cutF)) ?_
  rintro lv st w' ⟨rfl, rfl, rfl⟩
  apply And.intro
  · apply And.intro
    · intro h1
      refine Exists.intro [0, 1, 2, 3, 4, 5, 6, 7, 8, 9, 10, 11, 12, 13, 14, 15, 16, 17, 18, 19, 20, 21, 22, 23, 24, 25] (Exists.intro [q2 0, q3 _, q1 _] (Exists.intro ([.inr (12, [q1 _, q2 1, q2 4, q2 5, q2 6, q2 7, q2 8, q2 9, q2 10, q2 11, q1 _, q1 _, q1 _, q1 _, q1 _, q3 _, q1 _, q1 _, q1 _, q2 3, q2 2, q1 _, q1 _, q1 _, q1 _, q1 _, q1 _, q2 12, q1 _, q2 13, q2 14, q2 15, q2 16, q1 _, q2 17, q1 _, q2 18, q2 19, q2 20, q2 21, q2 22, q1 _, q2 23, q2 24, q2 25]), .inl (1, 2400, .inl _), .inl (0, 4, .inl _), .inl (0, 161, .inl _)]) (And.intro rfl (And.intro rfl (And.intro rfl (And.intro ⟨⟨_, rfl⟩, rfl⟩ ?_))))))
      refine Exists.intro _ (Exists.intro _ (Exists.intro _ (Exists.intro _ (Exists.intro _ (Exists.intro _ (Exists.intro _ (Exists.intro _ (Exists.intro _ (Exists.intro _ (Exists.intro _ (Exists.intro _ (Exists.intro _ (Exists.intro _ (Exists.intro _ (Exists.intro _ (Exists.intro _ (Exists.intro _ (Exists.intro _ (Exists.intro _ (Exists.intro _ (Exists.intro _ (Exists.intro _ (Exists.intro _ (Exists.intro _ (And.intro rfl (And.intro rfl (And.intro (by first | omega | assumption | exact q_rg_up (by assumption) (by omega) | exact q_rg_up (q_rg_up (by assumption) (by omega)) (by omega) | exact q_rg_cpy (by assumption) (by assumption)) (And.intro (hti.1 (by omega)) (?_)))))))))))))))))))))))))))))
      intro z32 x_mre_32 x_mbe_32 x_mso_32 x_mva_32 x_mwo_32 x_mwr_32 x_mlf_32 x_mlp_32 x_mgo_32 x_mfp_32 x_mfd_32 x_re_32 x_td_32 h32
      apply And.intro
      · first | exact Or.inl rfl | exact Or.inr rfl | omega
      exact hQ _ _ _ _ _ _ _ _ _ _ _ _ _ _ ⟨by omega, by omega, by omega, (by refine ⟨fun e9 => ?_, fun e9 => ?_, fun e9 => ?_⟩ <;> first | (exfalso; omega) | exact h32.2.2.2 | exact h40.2.2.2 | exact h54.2.2.2)⟩
    apply And.intro
    · intro h1
      refine Exists.intro [0, 1, 2, 3, 4, 5, 6, 7, 8, 9, 10, 11, 12, 13, 14, 15, 16, 17, 18, 19, 20, 21, 22, 23, 24, 25] (Exists.intro [q2 0, q3 _, q1 _] (Exists.intro ([.inr (12, [q1 _, q2 1, q2 4, q2 5, q2 6, q2 7, q2 8, q2 9, q2 10, q2 11, q1 _, q1 _, q1 _, q1 _, q1 _, q3 _, q1 _, q1 _, q1 _, q2 3, q2 2, q1 _, q1 _, q1 _, q1 _, q1 _, q1 _, q2 12, q1 _, q2 13, q2 14, q2 15, q2 16, q1 _, q2 17, q1 _, q2 18, q2 19, q2 20, q2 21, q2 22, q1 _, q2 23, q2 24, q2 25]), .inl (1, 2400, .inl _), .inl (0, 4, .inl _), .inl (0, 161, .inl _)]) (And.intro rfl (And.intro rfl (And.intro rfl (And.intro ⟨⟨_, rfl⟩, rfl⟩ ?_))))))
      refine Exists.intro _ (Exists.intro _ (Exists.intro _ (Exists.intro _ (Exists.intro _ (Exists.intro _ (Exists.intro _ (Exists.intro _ (Exists.intro _ (Exists.intro _ (Exists.intro _ (Exists.intro _ (Exists.intro _ (Exists.intro _ (Exists.intro _ (Exists.intro _ (Exists.intro _ (Exists.intro _ (Exists.intro _ (Exists.intro _ (Exists.intro _ (Exists.intro _ (Exists.intro _ (Exists.intro _ (Exists.intro _ (And.intro rfl (And.intro rfl (And.intro (by first | omega | assumption | exact q_rg_up (by assumption) (by omega) | exact q_rg_up (q_rg_up (by assumption) (by omega)) (by omega) | exact q_rg_cpy (by assumption) (by assumption)) (And.intro (hti.2.1 (by omega)) (?_)))))))))))))))))))))))))))))
      intro z40 x_mre_40 x_mbe_40 x_mso_40 x_mva_40 x_mwo_40 x_mwr_40 x_mlf_40 x_mlp_40 x_mgo_40 x_re_40 x_td_40 h40
      apply And.intro
      · first | exact Or.inl rfl | exact Or.inr rfl | omega
      exact hQ _ _ _ _ _ _ _ _ _ _ _ _ _ _ ⟨by omega, by omega, by omega, (by refine ⟨fun e9 => ?_, fun e9 => ?_, fun e9 => ?_⟩ <;> first | (exfalso; omega) | exact h32.2.2.2 | exact h40.2.2.2 | exact h54.2.2.2)⟩
    apply And.intro
    · intro h1
      refine Exists.intro [0, 1, 2, 3, 4, 5, 6, 7, 8, 9, 10, 11, 12, 13, 14, 15, 16, 17, 18, 19, 20, 21, 22, 23, 24, 25] (Exists.intro [q2 0, q3 _] (Exists.intro ([.inr (12, [q1 _, q2 1, q2 4, q2 5, q2 6, q2 7, q2 8, q2 9, q2 10, q2 11, q1 _, q1 _, q1 _, q1 _, q1 _, q3 _, q1 _, q1 _, q1 _, q2 3, q2 2, q1 _, q1 _, q1 _, q1 _, q1 _, q1 _, q2 12, q1 _, q2 13, q2 14, q2 15, q2 16, q1 _, q2 17, q1 _, q2 18, q2 19, q2 20, q2 21, q2 22, q1 _, q2 23, q2 24, q2 25]), .inl (1, 2400, .inl _), .inl (0, 4, .inl _), .inl (0, 161, .inl _)]) (And.intro rfl (And.intro rfl (And.intro rfl (And.intro ⟨⟨_, rfl⟩, rfl⟩ ?_))))))
      refine Exists.intro _ (Exists.intro _ (Exists.intro _ (Exists.intro _ (Exists.intro _ (Exists.intro _ (Exists.intro _ (Exists.intro _ (Exists.intro _ (Exists.intro _ (Exists.intro _ (Exists.intro _ (Exists.intro _ (Exists.intro _ (Exists.intro _ (Exists.intro _ (Exists.intro _ (Exists.intro _ (Exists.intro _ (Exists.intro _ (Exists.intro _ (Exists.intro _ (Exists.intro _ (Exists.intro _ (And.intro rfl (And.intro rfl (And.intro (by first | omega | assumption | exact q_rg_up (by assumption) (by omega) | exact q_rg_up (q_rg_up (by assumption) (by omega)) (by omega) | exact q_rg_cpy (by assumption) (by assumption)) (?_)))))))))))))))))))))))))))
      intro z46 x_mre_46 x_mbe_46 x_mso_46 x_mva_46 x_mwo_46 x_mwr_46 x_mlf_46 x_mlp_46 x_mgo_46 x_re_46 x_td_46 h46
      apply And.intro
      · first | exact Or.inl rfl | exact Or.inr rfl | omega
      exact hQ _ _ _ _ _ _ _ _ _ _ _ _ _ _ ⟨by omega, by omega, by omega, (by refine ⟨fun e9 => ?_, fun e9 => ?_, fun e9 => ?_⟩ <;> first | (exfalso; omega) | exact h32.2.2.2 | exact h40.2.2.2 | exact h54.2.2.2)⟩
    exact trivial
  · intro h1
    refine Exists.intro [0, 1, 2, 3, 4, 5, 6, 7, 8, 9, 10, 11, 12, 13, 14, 15, 16, 17, 18, 19, 20, 21, 22, 23, 24, 25] (Exists.intro [q2 0, q3 _, q1 _] (Exists.intro ([.inr (12, [q1 _, q2 1, q2 4, q2 5, q2 6, q2 7, q2 8, q2 9, q2 10, q2 11, q1 _, q1 _, q1 _, q1 _, q1 _, q3 _, q1 _, q1 _, q1 _, q2 3, q2 2, q1 _, q1 _, q1 _, q1 _, q1 _, q1 _, q2 12, q1 _, q2 13, q2 14, q2 15, q2 16, q1 _, q2 17, q1 _, q2 18, q2 19, q2 20, q2 21, q2 22, q1 _, q2 23, q2 24, q2 25]), .inl (1, 2400, .inl _), .inl (0, 4, .inl _), .inl (0, 161, .inl _)]) (And.intro rfl (And.intro rfl (And.intro rfl (And.intro ⟨⟨_, rfl⟩, rfl⟩ ?_))))))
    refine Exists.intro _ (Exists.intro _ (Exists.intro _ (Exists.intro _ (Exists.intro _ (Exists.intro _ (Exists.intro _ (Exists.intro _ (Exists.intro _ (Exists.intro _ (Exists.intro _ (Exists.intro _ (Exists.intro _ (Exists.intro _ (Exists.intro _ (Exists.intro _ (Exists.intro _ (Exists.intro _ (Exists.intro _ (Exists.intro _ (Exists.intro _ (Exists.intro _ (Exists.intro _ (Exists.intro _ (Exists.intro _ (And.intro rfl (And.intro rfl (And.intro (by first | omega | assumption | exact q_rg_up (by assumption) (by omega) | exact q_rg_up (q_rg_up (by assumption) (by omega)) (by omega) | exact q_rg_cpy (by assumption) (by assumption)) (And.intro (hti.2.2 (by omega)) (?_)))))))))))))))))))))))))))))
    intro z54 x_mre_54 x_mbe_54 x_mso_54 x_mva_54 x_mwo_54 x_mwr_54 x_mlf_54 x_mlp_54 x_mgo_54 x_re_54 x_td_54 h54
    apply And.intro
    · first | exact Or.inl rfl | exact Or.inr rfl | omega
    exact hQ _ _ _ _ _ _ _ _ _ _ _ _ _ _ ⟨by omega, by omega, by omega, (by refine ⟨fun e9 => ?_, fun e9 => ?_, fun e9 => ?_⟩ <;> first | (exfalso; omega) | exact h32.2.2.2 | exact h40.2.2.2 | exact h54.2.2.2)⟩

theorem dX12_lines_0 : decode cX12_lines 0 = .ok (.iconst 1, 1) := by decide +kernel
theorem dX12_lines_1 : decode cX12_lines 1 = .ok (.istore_n 2, 1) := by decide +kernel
theorem dX12_lines_2 : decode cX12_lines 2 = .ok (.iload_n 2, 1) := by decide +kernel
theorem dX12_lines_3 : decode cX12_lines 3 = .ok (.ifCond .eq 71, 3) := by decide +kernel
theorem dX12_lines_6 : decode cX12_lines 6 = .ok (.aload_n 0, 1) := by decide +kernel
theorem dX12_lines_7 : decode cX12_lines 7 = .ok (.getfield 125, 3) := by decide +kernel
theorem dX12_lines_10 : decode cX12_lines 10 = .ok (.ifCond .eq 64, 3) := by decide +kernel
theorem dX12_lines_13 : decode cX12_lines 13 = .ok (.aload_n 0, 1) := by decide +kernel
theorem dX12_lines_14 : decode cX12_lines 14 = .ok (.getfield 118, 3) := by decide +kernel
theorem dX12_lines_17 : decode cX12_lines 17 = .ok (.istore_n 3, 1) := by decide +kernel
theorem dX12_lines_18 : decode cX12_lines 18 = .ok (.aload_n 0, 1) := by decide +kernel
theorem dX12_lines_19 : decode cX12_lines 19 = .ok (.iconst 1, 1) := by decide +kernel
theorem dX12_lines_20 : decode cX12_lines 20 = .ok (.putfield 148, 3) := by decide +kernel
theorem dX12_lines_23 : decode cX12_lines 23 = .ok (.aload_n 0, 1) := by decide +kernel
theorem dX12_lines_24 : decode cX12_lines 24 = .ok (.iload_n 1, 1) := by decide +kernel
theorem dX12_lines_25 : decode cX12_lines 25 = .ok (.aload_n 0, 1) := by decide +kernel
theorem dX12_lines_26 : decode cX12_lines 26 = .ok (.getfield 125, 3) := by decide +kernel
theorem dX12_lines_29 : decode cX12_lines 29 = .ok (.iconst 2, 1) := by decide +kernel
theorem dX12_lines_30 : decode cX12_lines 30 = .ok (.if_icmp .ne 10, 3) := by decide +kernel
theorem dX12_lines_33 : decode cX12_lines 33 = .ok (.aload_n 0, 1) := by decide +kernel
theorem dX12_lines_34 : decode cX12_lines 34 = .ok (.getfield 121, 3) := by decide +kernel
theorem dX12_lines_37 : decode cX12_lines 37 = .ok (.goto 4, 3) := by decide +kernel
theorem dX12_lines_40 : decode cX12_lines 40 = .ok (.lconst 0, 1) := by decide +kernel
theorem dX12_lines_41 : decode cX12_lines 41 = .ok (.iload_n 3, 1) := by decide +kernel
theorem dX12_lines_42 : decode cX12_lines 42 = .ok (.invokevirtual 267, 3) := by decide +kernel
theorem dX12_lines_45 : decode cX12_lines 45 = .ok (.istore_n 2, 1) := by decide +kernel
theorem dX12_lines_46 : decode cX12_lines 46 = .ok (.iload_n 2, 1) := by decide +kernel
theorem dX12_lines_47 : decode cX12_lines 47 = .ok (.ifCond .eq 16, 3) := by decide +kernel
theorem dX12_lines_50 : decode cX12_lines 50 = .ok (.aload_n 0, 1) := by decide +kernel
theorem dX12_lines_51 : decode cX12_lines 51 = .ok (.getfield 125, 3) := by decide +kernel
theorem dX12_lines_54 : decode cX12_lines 54 = .ok (.iconst 4, 1) := by decide +kernel
theorem dX12_lines_55 : decode cX12_lines 55 = .ok (.if_icmp .eq 8, 3) := by decide +kernel
theorem dX12_lines_58 : decode cX12_lines 58 = .ok (.aload_n 0, 1) := by decide +kernel
theorem dX12_lines_59 : decode cX12_lines 59 = .ok (.invokevirtual 140, 3) := by decide +kernel
theorem dX12_lines_62 : decode cX12_lines 62 = .ok (.istore_n 2, 1) := by decide +kernel
theorem dX12_lines_63 : decode cX12_lines 63 = .ok (.iload_n 2, 1) := by decide +kernel
theorem dX12_lines_64 : decode cX12_lines 64 = .ok (.ifCond .eq 7, 3) := by decide +kernel
theorem dX12_lines_67 : decode cX12_lines 67 = .ok (.aload_n 0, 1) := by decide +kernel
theorem dX12_lines_68 : decode cX12_lines 68 = .ok (.invokevirtual 152, 3) := by decide +kernel
theorem dX12_lines_71 : decode cX12_lines 71 = .ok (.goto (-69), 3) := by decide +kernel
theorem dX12_lines_74 : decode cX12_lines 74 = .ok (.iload_n 2, 1) := by decide +kernel
theorem dX12_lines_75 : decode cX12_lines 75 = .ok (.ireturn, 1) := by decide +kernel
def is_X12_lines : Nat → List Nat := fun d => if d = 2 then [0, 1, 2] else []
set_option maxRecDepth 100000 in
def b_X12_lines_74 (J : Nat → List qV → List qV → qW → Prop) (Q : qR) : qK := x_iload 2 (x_zret Q)
set_option maxRecDepth 100000 in
theorem s_X12_lines_74 {p : Program} {l : Launch} {e : Env} {R : Room} {s : State} {m : MethodId} {args : Array Value} {below : List Frame} {meth : Method} {c : Code} {nW : Nat} {dC : Nat → ClassId} {dI : Nat → Nat → Nat} {k : Nat → ClassId} {g : Nat → Nat} {A : Nat → Prop} {J : Nat → List qV → List qV → qW → Prop} {Q : qR} (X : q_X p R s m args meth c cX12_lines 4 nW 7 163 RX12 (some .boolean) dC dI k g A) (hJ : ∀ d : Nat, q_Sd p l e R s m args below meth c 4 nW dC dI k g A (MQ below (q_post (dC, dI) k g nW Q A) args s 0 0 A) d (x_cut (is_X12_lines d) (J d))) : q_Sd p l e R s m args below meth c 4 nW dC dI k g A (MQ below (q_post (dC, dI) k g nW Q A) args s 0 0 A) 74 (b_X12_lines_74 J Q) := by
  unfold b_X12_lines_74
  refine s_iload_n X rfl dX12_lines_74 ?_
  exact s_zret X dX12_lines_75
set_option maxRecDepth 100000 in
def b_X12_lines_71 (J : Nat → List qV → List qV → qW → Prop) (Q : qR) : qK := x_cut [0, 1, 2] (J 2)
set_option maxRecDepth 100000 in
theorem s_X12_lines_71 {p : Program} {l : Launch} {e : Env} {R : Room} {s : State} {m : MethodId} {args : Array Value} {below : List Frame} {meth : Method} {c : Code} {nW : Nat} {dC : Nat → ClassId} {dI : Nat → Nat → Nat} {k : Nat → ClassId} {g : Nat → Nat} {A : Nat → Prop} {J : Nat → List qV → List qV → qW → Prop} {Q : qR} (X : q_X p R s m args meth c cX12_lines 4 nW 7 163 RX12 (some .boolean) dC dI k g A) (hJ : ∀ d : Nat, q_Sd p l e R s m args below meth c 4 nW dC dI k g A (MQ below (q_post (dC, dI) k g nW Q A) args s 0 0 A) d (x_cut (is_X12_lines d) (J d))) : q_Sd p l e R s m args below meth c 4 nW dC dI k g A (MQ below (q_post (dC, dI) k g nW Q A) args s 0 0 A) 71 (b_X12_lines_71 J Q) := by
  unfold b_X12_lines_71
  refine s_goto X (tgt := 2) dX12_lines_71 (by decide) ?_
  exact hJ 2
set_option maxRecDepth 100000 in
def b_X12_lines_63 (J : Nat → List qV → List qV → qW → Prop) (Q : qR) : qK := x_iload 2 (x_if_eq (b_X12_lines_71 J Q) (x_aload 0 (x_call (some 12) 1 sp_X12_token (x_nw (b_X12_lines_71 J Q)))))
set_option maxRecDepth 100000 in
theorem s_X12_lines_63 {p : Program} {l : Launch} {e : Env} {R : Room} {s : State} {m : MethodId} {args : Array Value} {below : List Frame} {meth : Method} {c : Code} {nW : Nat} {dC : Nat → ClassId} {dI : Nat → Nat → Nat} {k : Nat → ClassId} {g : Nat → Nat} {A : Nat → Prop} {J : Nat → List qV → List qV → qW → Prop} {Q : qR} (X : q_X p R s m args meth c cX12_lines 4 nW 7 163 RX12 (some .boolean) dC dI k g A) (hJ : ∀ d : Nat, q_Sd p l e R s m args below meth c 4 nW dC dI k g A (MQ below (q_post (dC, dI) k g nW Q A) args s 0 0 A) d (x_cut (is_X12_lines d) (J d))) : q_Sd p l e R s m args below meth c 4 nW dC dI k g A (MQ below (q_post (dC, dI) k g nW Q A) args s 0 0 A) 63 (b_X12_lines_63 J Q) := by
  unfold b_X12_lines_63
  refine s_iload_n X rfl dX12_lines_63 ?_
  refine s_if_eq X (tgt := 71) dX12_lines_64 (by decide) ?_ ?_
  · exact s_X12_lines_71 X hJ
  · refine s_aload_n X rfl dX12_lines_67 ?_
    refine s_callV X (m_X12_token l) tw_1070 tw_1071 tw_1627 tw_134 tw_1072 rfl (by decide +kernel) ⟨by decide, by decide⟩ dX12_lines_68 ?_
    refine s_nw ?_
    exact s_X12_lines_71 X hJ
set_option maxRecDepth 100000 in
def b_X12_lines_41 (J : Nat → List qV → List qV → qW → Prop) (Q : qR) : qK := x_iload 3 (x_call (some 12) 4 sp_X12_lineOf (x_nw (x_istore 2 (x_iload 2 (x_if_eq (b_X12_lines_63 J Q) (x_aload 0 (x_get 12 13 (x_int 4 (x_icmp_eq (b_X12_lines_63 J Q) (x_aload 0 (x_call (some 12) 1 sp_X12_fails (x_nw (x_istore 2 (b_X12_lines_63 J Q))))))))))))))
set_option maxRecDepth 100000 in
theorem s_X12_lines_41 {p : Program} {l : Launch} {e : Env} {R : Room} {s : State} {m : MethodId} {args : Array Value} {below : List Frame} {meth : Method} {c : Code} {nW : Nat} {dC : Nat → ClassId} {dI : Nat → Nat → Nat} {k : Nat → ClassId} {g : Nat → Nat} {A : Nat → Prop} {J : Nat → List qV → List qV → qW → Prop} {Q : qR} (X : q_X p R s m args meth c cX12_lines 4 nW 7 163 RX12 (some .boolean) dC dI k g A) (hJ : ∀ d : Nat, q_Sd p l e R s m args below meth c 4 nW dC dI k g A (MQ below (q_post (dC, dI) k g nW Q A) args s 0 0 A) d (x_cut (is_X12_lines d) (J d))) : q_Sd p l e R s m args below meth c 4 nW dC dI k g A (MQ below (q_post (dC, dI) k g nW Q A) args s 0 0 A) 41 (b_X12_lines_41 J Q) := by
  unfold b_X12_lines_41
  refine s_iload_n X rfl dX12_lines_41 ?_
  refine s_callV X (m_X12_lineOf l) tw_1079 tw_1080 tw_1599 tw_134 tw_1081 rfl (by decide +kernel) ⟨by decide, by decide⟩ dX12_lines_42 ?_
  refine s_nw ?_
  refine s_istore_n X rfl (by decide) dX12_lines_45 ?_
  refine s_iload_n X rfl dX12_lines_46 ?_
  refine s_if_eq X (tgt := 63) dX12_lines_47 (by decide) ?_ ?_
  · exact s_X12_lines_63 X hJ
  · refine s_aload_n X rfl dX12_lines_50 ?_
    refine s_get X (T := TX12) (C := RX12) (N := 45) tu_X12 rfl (by decide) tw_1010 dX12_lines_51 ?_
    refine s_iconst X ⟨by decide, by decide⟩ dX12_lines_54 ?_
    refine s_icmp_eq X (tgt := 63) dX12_lines_55 (by decide) ?_ ?_
    · exact s_X12_lines_63 X hJ
    · refine s_aload_n X rfl dX12_lines_58 ?_
      refine s_callV X (m_X12_fails l) tw_1103 tw_1104 tw_1568 tw_134 tw_1105 rfl (by decide +kernel) ⟨by decide, by decide⟩ dX12_lines_59 ?_
      refine s_nw ?_
      refine s_istore_n X rfl (by decide) dX12_lines_62 ?_
      exact s_X12_lines_63 X hJ
set_option maxRecDepth 100000 in
def b_X12_lines_2 (J : Nat → List qV → List qV → qW → Prop) (Q : qR) : qK := x_iload 2 (x_if_eq (b_X12_lines_74 J Q) (x_aload 0 (x_get 12 13 (x_if_eq (b_X12_lines_74 J Q) (x_aload 0 (x_get 12 12 (x_istore 3 (x_aload 0 (x_int 1 (x_put 12 23 q_okz (x_nw (x_aload 0 (x_iload 1 (x_aload 0 (x_get 12 13 (x_int 2 (x_icmp_ne (x_lng 0 (b_X12_lines_41 J Q)) (x_aload 0 (x_get 12 15 (b_X12_lines_41 J Q))))))))))))))))))))
set_option maxRecDepth 100000 in
theorem s_X12_lines_2 {p : Program} {l : Launch} {e : Env} {R : Room} {s : State} {m : MethodId} {args : Array Value} {below : List Frame} {meth : Method} {c : Code} {nW : Nat} {dC : Nat → ClassId} {dI : Nat → Nat → Nat} {k : Nat → ClassId} {g : Nat → Nat} {A : Nat → Prop} {J : Nat → List qV → List qV → qW → Prop} {Q : qR} (X : q_X p R s m args meth c cX12_lines 4 nW 7 163 RX12 (some .boolean) dC dI k g A) (hJ : ∀ d : Nat, q_Sd p l e R s m args below meth c 4 nW dC dI k g A (MQ below (q_post (dC, dI) k g nW Q A) args s 0 0 A) d (x_cut (is_X12_lines d) (J d))) : q_Sd p l e R s m args below meth c 4 nW dC dI k g A (MQ below (q_post (dC, dI) k g nW Q A) args s 0 0 A) 2 (b_X12_lines_2 J Q) := by
  unfold b_X12_lines_2
  refine s_iload_n X rfl dX12_lines_2 ?_
  refine s_if_eq X (tgt := 74) dX12_lines_3 (by decide) ?_ ?_
  · exact s_X12_lines_74 X hJ
  · refine s_aload_n X rfl dX12_lines_6 ?_
    refine s_get X (T := TX12) (C := RX12) (N := 45) tu_X12 rfl (by decide) tw_1010 dX12_lines_7 ?_
    refine s_if_eq X (tgt := 74) dX12_lines_10 (by decide) ?_ ?_
    · exact s_X12_lines_74 X hJ
    · refine s_aload_n X rfl dX12_lines_13 ?_
      refine s_get X (T := TX12) (C := RX12) (N := 45) tu_X12 rfl (by decide) tw_1009 dX12_lines_14 ?_
      refine s_istore_n X rfl (by decide) dX12_lines_17 ?_
      refine s_aload_n X rfl dX12_lines_18 ?_
      refine s_iconst X ⟨by decide, by decide⟩ dX12_lines_19 ?_
      refine s_put X (T := TX12) (C := RX12) (N := 45) tu_X12 tyX12_ok nmX12 rfl (by decide) tw_1020 rfl (by decide +kernel) q_okz_t dX12_lines_20 ?_
      refine s_nw ?_
      refine s_aload_n X rfl dX12_lines_23 ?_
      refine s_iload_n X rfl dX12_lines_24 ?_
      refine s_aload_n X rfl dX12_lines_25 ?_
      refine s_get X (T := TX12) (C := RX12) (N := 45) tu_X12 rfl (by decide) tw_1010 dX12_lines_26 ?_
      refine s_iconst X ⟨by decide, by decide⟩ dX12_lines_29 ?_
      refine s_icmp_ne X (tgt := 40) dX12_lines_30 (by decide) ?_ ?_
      · refine s_lconst X ⟨by decide, by decide⟩ (by decide) dX12_lines_40 ?_
        exact s_X12_lines_41 X hJ
      · refine s_aload_n X rfl dX12_lines_33 ?_
        refine s_get X (T := TX12) (C := RX12) (N := 45) tu_X12 rfl (by decide) tw_1012 dX12_lines_34 ?_
        refine s_goto X (tgt := 41) dX12_lines_37 (by decide) ?_
        exact s_X12_lines_41 X hJ
set_option maxRecDepth 100000 in
def b_X12_lines_0 (J : Nat → List qV → List qV → qW → Prop) (Q : qR) : qK := x_int 1 (x_istore 2 (x_cut [0, 1, 2] (J 2)))
set_option maxRecDepth 100000 in
theorem s_X12_lines_0 {p : Program} {l : Launch} {e : Env} {R : Room} {s : State} {m : MethodId} {args : Array Value} {below : List Frame} {meth : Method} {c : Code} {nW : Nat} {dC : Nat → ClassId} {dI : Nat → Nat → Nat} {k : Nat → ClassId} {g : Nat → Nat} {A : Nat → Prop} {J : Nat → List qV → List qV → qW → Prop} {Q : qR} (X : q_X p R s m args meth c cX12_lines 4 nW 7 163 RX12 (some .boolean) dC dI k g A) (hJ : ∀ d : Nat, q_Sd p l e R s m args below meth c 4 nW dC dI k g A (MQ below (q_post (dC, dI) k g nW Q A) args s 0 0 A) d (x_cut (is_X12_lines d) (J d))) : q_Sd p l e R s m args below meth c 4 nW dC dI k g A (MQ below (q_post (dC, dI) k g nW Q A) args s 0 0 A) 0 (b_X12_lines_0 J Q) := by
  unfold b_X12_lines_0
  refine s_iconst X ⟨by decide, by decide⟩ dX12_lines_0 ?_
  refine s_istore_n X rfl (by decide) dX12_lines_1 ?_
  exact hJ 2

def sp_X12_lines : qS := fun av w Q => ∃ (mco : Int) (mre : Int) (mle : Int) (mbe : Int) (mso : Int) (mva : Int) (mwo : Int) (mwr : Int) (mlf : Int) (mlp : Int) (mfp : Int) (mfd : Int) (mgo : Int) (mbo : Int) (mpe : Int) (mye : Int) (mpr : Int) (mld : Int) (msi : Int) (mse : Int) (tp : Nat → Int) (re : Nat → Int) (td : Nat → Int) (a : Int), av = [q2 0, q1 a] ∧ w = [.inr (12, [q1 mco, q2 1, q2 4, q2 5, q2 6, q2 7, q2 8, q2 9, q2 10, q2 11, q1 mre, q1 mle, q1 mbe, q1 mso, q1 mva, q3 mwo, q1 mwr, q1 mlf, q1 mlp, q2 3, q2 2, q1 mfp, q1 mfd, q1 mgo, q1 mbo, q1 mpe, q1 mye, q2 12, q1 mpr, q2 13, q2 14, q2 15, q2 16, q1 mld, q2 17, q1 msi, q2 18, q2 19, q2 20, q2 21, q2 22, q1 mse, q2 23, q2 24, q2 25]), .inl (1, 2400, .inl tp), .inl (0, 4, .inl re), .inl (0, 161, .inl td)] ∧ (0 ≤ mre ∧ mre ≤ mle ∧ mle ≤ 600) ∧ (0 ≤ a ∧ a ≤ 3) ∧ (TI a td) ∧ (∀ (r : Int) (x_mre : Int) (x_mbe : Int) (x_mso : Int) (x_mva : Int) (x_mwo : Int) (x_mwr : Int) (x_mlf : Int) (x_mlp : Int) (x_mgo : Int) (x_mfp : Int) (x_mfd : Int) (x_re : Nat → Int) (x_td : Nat → Int), ((r = 0 ∨ r = 1) ∧ TI a x_td) → Q (some (q1 r)) ([.inr (12, [q1 mco, q2 1, q2 4, q2 5, q2 6, q2 7, q2 8, q2 9, q2 10, q2 11, q1 x_mre, q1 mle, q1 x_mbe, q1 x_mso, q1 x_mva, q3 x_mwo, q1 x_mwr, q1 x_mlf, q1 x_mlp, q2 3, q2 2, q1 x_mfp, q1 x_mfd, q1 x_mgo, q1 mbo, q1 mpe, q1 mye, q2 12, q1 mpr, q2 13, q2 14, q2 15, q2 16, q1 mld, q2 17, q1 msi, q2 18, q2 19, q2 20, q2 21, q2 22, q1 mse, q2 23, q2 24, q2 25]), .inl (1, 2400, .inl tp), .inl (0, 4, .inl x_re), .inl (0, 161, .inl x_td)]))
def I_X12_lines (mco : Int) (mre : Int) (mle : Int) (mbe : Int) (mso : Int) (mva : Int) (mwo : Int) (mwr : Int) (mlf : Int) (mlp : Int) (mfp : Int) (mfd : Int) (mgo : Int) (mbo : Int) (mpe : Int) (mye : Int) (mpr : Int) (mld : Int) (msi : Int) (mse : Int) (tp : Nat → Int) (re : Nat → Int) (td : Nat → Int) (a : Int) : Nat → Nat → List qV → List qV → qW → Prop := fun dz mz vz sz wz => if dz = 2 then (∃ (y_mre : Int) (y_mbe : Int) (y_mso : Int) (y_mva : Int) (y_mwo : Int) (y_mwr : Int) (y_mlf : Int) (y_mlp : Int) (y_mgo : Int) (y_mfp : Int) (y_mfd : Int) (y_re : Nat → Int) (y_td : Nat → Int) (v2 : Int), vz = [q2 0, q1 a, q1 v2] ∧ sz = [] ∧ wz = [.inr (12, [q1 mco, q2 1, q2 4, q2 5, q2 6, q2 7, q2 8, q2 9, q2 10, q2 11, q1 y_mre, q1 mle, q1 y_mbe, q1 y_mso, q1 y_mva, q3 y_mwo, q1 y_mwr, q1 y_mlf, q1 y_mlp, q2 3, q2 2, q1 y_mfp, q1 y_mfd, q1 y_mgo, q1 mbo, q1 mpe, q1 mye, q2 12, q1 mpr, q2 13, q2 14, q2 15, q2 16, q1 mld, q2 17, q1 msi, q2 18, q2 19, q2 20, q2 21, q2 22, q1 mse, q2 23, q2 24, q2 25]), .inl (1, 2400, .inl tp), .inl (0, 4, .inl y_re), .inl (0, 161, .inl y_td)] ∧ mz = (2 * (mle - y_mre) + v2).toNat ∧ (0 ≤ y_mre ∧ y_mre ≤ mle) ∧ (v2 = 0 ∨ v2 = 1) ∧ (TI a y_td)) else False
set_option maxHeartbeats 4000000 in
set_option maxRecDepth 100000 in
theorem m_X12_lines (l : Launch) : q_M l yX12_lines cX12_lines 4 (some .boolean) 7 163 sp_X12_lines := by
  refine q_meth (by decide) (fun av w Q h => by obtain ⟨mco, mre, mle, mbe, mso, mva, mwo, mwr, mlf, mlp, mfp, mfd, mgo, mbo, mpe, mye, mpr, mld, msi, mse, tp, re, td, a, rfl, rfl, htp, ha, hti, hQ⟩ := h; exact Nat.le_of_ble_eq_true rfl) ?_
  intro p e R s m args below meth c dC dI k g A av w Q hsp oka okw X
  obtain ⟨mco, mre, mle, mbe, mso, mva, mwo, mwr, mlf, mlp, mfp, mfd, mgo, mbo, mpe, mye, mpr, mld, msi, mse, tp, re, td, a, rfl, rfl, htp, ha, hti, hQ⟩ := hsp
  have o_a : -2147483648 ≤ a ∧ a ≤ 2147483647 := oka _ (List.mem_of_getElem? (i := 1) rfl)
  refine s_mono (s_X12_lines_0 X (J := fun dz vz sz wz => ∃ mz, I_X12_lines mco mre mle mbe mso mva mwo mwr mlf mlp mfp mfd mgo mbo mpe mye mpr mld msi mse tp re td a dz mz vz sz wz) (q_loopn (I_X12_lines mco mre mle mbe mso mva mwo mwr mlf mlp mfp mfd mgo mbo mpe mye mpr mld msi mse tp re td a) (fun dz J => if dz = 2 then b_X12_lines_2 J Q else q_F) ?hs ?hv)) ?_
  case hs =>
    intro d J hJ
    by_cases h2 : d = 2
    · subst h2; exact s_X12_lines_2 X hJ
    simp only [h2, if_false]
    exact s_F
  case hv =>
    intro dz mz vz sz wz hI okv oks okw hlen
    by_cases h2 : dz = 2
    · subst h2
      obtain ⟨y_mre, y_mbe, y_mso, y_mva, y_mwo, y_mwr, y_mlf, y_mlp, y_mgo, y_mfp, y_mfd, y_re, y_td, v2, rfl, rfl, rfl, hn, hp, hf, hty⟩ := hI
      apply And.intro
      · intro h3
        apply And.intro
        · first | exact Or.inl rfl | exact Or.inr rfl | omega
        exact hQ _ _ _ _ _ _ _ _ _ _ _ _ _ _ ⟨by omega, hty⟩
      · intro h3
        apply And.intro
        · intro h10
          apply And.intro
          · first | exact Or.inl rfl | exact Or.inr rfl | omega
          exact hQ _ _ _ _ _ _ _ _ _ _ _ _ _ _ ⟨by omega, hty⟩
        · intro h10
          apply And.intro
          · first | exact Or.inl rfl | exact Or.inr rfl | omega
          apply And.intro
          · intro h30
            refine Exists.intro [0, 1, 2, 3, 4, 5, 6, 7, 8, 9, 10, 11, 12, 13, 14, 15, 16, 17, 18, 19, 20, 21, 22, 23, 24, 25] (Exists.intro [q2 0, q1 _, q3 _, q1 _] (Exists.intro ([.inr (12, [q1 _, q2 1, q2 4, q2 5, q2 6, q2 7, q2 8, q2 9, q2 10, q2 11, q1 _, q1 _, q1 _, q1 _, q1 _, q3 _, q1 _, q1 _, q1 _, q2 3, q2 2, q1 _, q1 _, q1 _, q1 _, q1 _, q1 _, q2 12, q1 _, q2 13, q2 14, q2 15, q2 16, q1 _, q2 17, q1 _, q2 18, q2 19, q2 20, q2 21, q2 22, q1 _, q2 23, q2 24, q2 25]), .inl (1, 2400, .inl _), .inl (0, 4, .inl _), .inl (0, 161, .inl _)]) (And.intro rfl (And.intro rfl (And.intro rfl (And.intro ⟨⟨_, rfl⟩, rfl⟩ ?_))))))
            refine Exists.intro _ (Exists.intro _ (Exists.intro _ (Exists.intro _ (Exists.intro _ (Exists.intro _ (Exists.intro _ (Exists.intro _ (Exists.intro _ (Exists.intro _ (Exists.intro _ (Exists.intro _ (Exists.intro _ (Exists.intro _ (Exists.intro _ (Exists.intro _ (Exists.intro _ (Exists.intro _ (Exists.intro _ (Exists.intro _ (Exists.intro _ (Exists.intro _ (Exists.intro _ (Exists.intro _ (Exists.intro _ (Exists.intro _ (And.intro rfl (And.intro rfl (And.intro (by first | omega | assumption | exact q_rg_up (by assumption) (by omega) | exact q_rg_up (q_rg_up (by assumption) (by omega)) (by omega) | exact q_rg_cpy (by assumption) (by assumption)) (And.intro (by first | omega | assumption | exact q_rg_up (by assumption) (by omega) | exact q_rg_up (q_rg_up (by assumption) (by omega)) (by omega) | exact q_rg_cpy (by assumption) (by assumption)) (And.intro (by first | omega | assumption | exact q_rg_up (by assumption) (by omega) | exact q_rg_up (q_rg_up (by assumption) (by omega)) (by omega) | exact q_rg_cpy (by assumption) (by assumption)) (?_)))))))))))))))))))))))))))))))
            intro z42 x_mre_42 x_mbe_42 x_mso_42 x_mva_42 x_mwo_42 x_mwr_42 x_mlf_42 x_mlp_42 x_mgo_42 x_mfp_42 x_mfd_42 x_re_42 x_td_42 h42
            apply And.intro
            · intro h47
              apply And.intro
              · intro h64
                exact ⟨_, ⟨_, _, _, _, _, _, _, _, _, _, _, _, _, _, rfl, rfl, rfl, rfl, (by first | omega | assumption | exact q_rg_up (by assumption) (by omega) | exact q_rg_up (q_rg_up (by assumption) (by omega)) (by omega) | exact q_rg_cpy (by assumption) (by assumption)), (by first | omega | assumption | exact q_rg_up (by assumption) (by omega) | exact q_rg_up (q_rg_up (by assumption) (by omega)) (by omega) | exact q_rg_cpy (by assumption) (by assumption)), (by first | assumption | exact h42.2.2.2)⟩, by omega⟩
              · intro h64
                refine Exists.intro [0, 1, 4, 5, 6, 7, 8, 9, 10, 11, 3, 2, 12, 13, 14, 15, 16, 17, 18, 19, 20, 21, 22, 23, 24, 25] (Exists.intro [q2 0] (Exists.intro ([.inr (12, [q1 _, q2 1, q2 2, q2 3, q2 4, q2 5, q2 6, q2 7, q2 8, q2 9, q1 _, q1 _, q1 _, q1 _, q1 _, q3 _, q1 _, q1 _, q1 _, q2 10, q2 11, q1 _, q1 _, q1 _, q1 _, q1 _, q1 _, q2 12, q1 _, q2 13, q2 14, q2 15, q2 16, q1 _, q2 17, q1 _, q2 18, q2 19, q2 20, q2 21, q2 22, q1 _, q2 23, q2 24, q2 25]), .inl (1, 2400, .inl _)]) (And.intro rfl (And.intro rfl (And.intro rfl (And.intro ⟨⟨_, rfl⟩, rfl⟩ ?_))))))
                refine Exists.intro _ (Exists.intro _ (Exists.intro _ (Exists.intro _ (Exists.intro _ (Exists.intro _ (Exists.intro _ (Exists.intro _ (Exists.intro _ (Exists.intro _ (Exists.intro _ (Exists.intro _ (Exists.intro _ (Exists.intro _ (Exists.intro _ (Exists.intro _ (Exists.intro _ (Exists.intro _ (Exists.intro _ (Exists.intro _ (Exists.intro _ (And.intro rfl (And.intro rfl (And.intro (by first | omega | assumption | exact q_rg_up (by assumption) (by omega) | exact q_rg_up (q_rg_up (by assumption) (by omega)) (by omega) | exact q_rg_cpy (by assumption) (by assumption)) (?_))))))))))))))))))))))))
                intro x_mre_68 x_mbe_68 x_mso_68 x_mva_68 x_mwo_68 h68
                exact ⟨_, ⟨_, _, _, _, _, _, _, _, _, _, _, _, _, _, rfl, rfl, rfl, rfl, (by first | omega | assumption | exact q_rg_up (by assumption) (by omega) | exact q_rg_up (q_rg_up (by assumption) (by omega)) (by omega) | exact q_rg_cpy (by assumption) (by assumption)), (by first | omega | assumption | exact q_rg_up (by assumption) (by omega) | exact q_rg_up (q_rg_up (by assumption) (by omega)) (by omega) | exact q_rg_cpy (by assumption) (by assumption)), (by first | assumption | exact h42.2.2.2)⟩, by omega⟩
            · intro h47
              apply And.intro
              · intro h55
                apply And.intro
                · intro h64
                  exact ⟨_, ⟨_, _, _, _, _, _, _, _, _, _, _, _, _, _, rfl, rfl, rfl, rfl, (by first | omega | assumption | exact q_rg_up (by assumption) (by omega) | exact q_rg_up (q_rg_up (by assumption) (by omega)) (by omega) | exact q_rg_cpy (by assumption) (by assumption)), (by first | omega | assumption | exact q_rg_up (by assumption) (by omega) | exact q_rg_up (q_rg_up (by assumption) (by omega)) (by omega) | exact q_rg_cpy (by assumption) (by assumption)), (by first | assumption | exact h42.2.2.2)⟩, by omega⟩
                · intro h64
                  refine Exists.intro [0, 1, 4, 5, 6, 7, 8, 9, 10, 11, 3, 2, 12, 13, 14, 15, 16, 17, 18, 19, 20, 21, 22, 23, 24, 25] (Exists.intro [q2 0] (Exists.intro ([.inr (12, [q1 _, q2 1, q2 2, q2 3, q2 4, q2 5, q2 6, q2 7, q2 8, q2 9, q1 _, q1 _, q1 _, q1 _, q1 _, q3 _, q1 _, q1 _, q1 _, q2 10, q2 11, q1 _, q1 _, q1 _, q1 _, q1 _, q1 _, q2 12, q1 _, q2 13, q2 14, q2 15, q2 16, q1 _, q2 17, q1 _, q2 18, q2 19, q2 20, q2 21, q2 22, q1 _, q2 23, q2 24, q2 25]), .inl (1, 2400, .inl _)]) (And.intro rfl (And.intro rfl (And.intro rfl (And.intro ⟨⟨_, rfl⟩, rfl⟩ ?_))))))
                  refine Exists.intro _ (Exists.intro _ (Exists.intro _ (Exists.intro _ (Exists.intro _ (Exists.intro _ (Exists.intro _ (Exists.intro _ (Exists.intro _ (Exists.intro _ (Exists.intro _ (Exists.intro _ (Exists.intro _ (Exists.intro _ (Exists.intro _ (Exists.intro _ (Exists.intro _ (Exists.intro _ (Exists.intro _ (Exists.intro _ (Exists.intro _ (And.intro rfl (And.intro rfl (And.intro (by first | omega | assumption | exact q_rg_up (by assumption) (by omega) | exact q_rg_up (q_rg_up (by assumption) (by omega)) (by omega) | exact q_rg_cpy (by assumption) (by assumption)) (?_))))))))))))))))))))))))
                  intro x_mre_68 x_mbe_68 x_mso_68 x_mva_68 x_mwo_68 h68
                  exact ⟨_, ⟨_, _, _, _, _, _, _, _, _, _, _, _, _, _, rfl, rfl, rfl, rfl, (by first | omega | assumption | exact q_rg_up (by assumption) (by omega) | exact q_rg_up (q_rg_up (by assumption) (by omega)) (by omega) | exact q_rg_cpy (by assumption) (by assumption)), (by first | omega | assumption | exact q_rg_up (by assumption) (by omega) | exact q_rg_up (q_rg_up (by assumption) (by omega)) (by omega) | exact q_rg_cpy (by assumption) (by assumption)), (by first | assumption | exact h42.2.2.2)⟩, by omega⟩
              · intro h55
                refine Exists.intro [0, 1, 4, 5, 6, 7, 8, 9, 10, 11, 3, 2, 12, 13, 14, 15, 16, 17, 18, 19, 20, 21, 22, 23, 24, 25] (Exists.intro [q2 0] (Exists.intro ([.inr (12, [q1 _, q2 1, q2 2, q2 3, q2 4, q2 5, q2 6, q2 7, q2 8, q2 9, q1 _, q1 _, q1 _, q1 _, q1 _, q3 _, q1 _, q1 _, q1 _, q2 10, q2 11, q1 _, q1 _, q1 _, q1 _, q1 _, q1 _, q2 12, q1 _, q2 13, q2 14, q2 15, q2 16, q1 _, q2 17, q1 _, q2 18, q2 19, q2 20, q2 21, q2 22, q1 _, q2 23, q2 24, q2 25])]) (And.intro rfl (And.intro rfl (And.intro rfl (And.intro ⟨⟨_, rfl⟩, rfl⟩ ?_))))))
                refine Exists.intro _ (Exists.intro _ (Exists.intro _ (Exists.intro _ (Exists.intro _ (Exists.intro _ (Exists.intro _ (Exists.intro _ (Exists.intro _ (Exists.intro _ (Exists.intro _ (Exists.intro _ (Exists.intro _ (Exists.intro _ (Exists.intro _ (Exists.intro _ (Exists.intro _ (Exists.intro _ (Exists.intro _ (Exists.intro _ (And.intro rfl (And.intro rfl (?_))))))))))))))))))))))
                intro z59 x_mwr_59 h59
                apply And.intro
                · intro h64
                  exact ⟨_, ⟨_, _, _, _, _, _, _, _, _, _, _, _, _, _, rfl, rfl, rfl, rfl, (by first | omega | assumption | exact q_rg_up (by assumption) (by omega) | exact q_rg_up (q_rg_up (by assumption) (by omega)) (by omega) | exact q_rg_cpy (by assumption) (by assumption)), (by first | omega | assumption | exact q_rg_up (by assumption) (by omega) | exact q_rg_up (q_rg_up (by assumption) (by omega)) (by omega) | exact q_rg_cpy (by assumption) (by assumption)), (by first | assumption | exact h42.2.2.2)⟩, by omega⟩
                · intro h64
                  refine Exists.intro [0, 1, 4, 5, 6, 7, 8, 9, 10, 11, 3, 2, 12, 13, 14, 15, 16, 17, 18, 19, 20, 21, 22, 23, 24, 25] (Exists.intro [q2 0] (Exists.intro ([.inr (12, [q1 _, q2 1, q2 2, q2 3, q2 4, q2 5, q2 6, q2 7, q2 8, q2 9, q1 _, q1 _, q1 _, q1 _, q1 _, q3 _, q1 _, q1 _, q1 _, q2 10, q2 11, q1 _, q1 _, q1 _, q1 _, q1 _, q1 _, q2 12, q1 _, q2 13, q2 14, q2 15, q2 16, q1 _, q2 17, q1 _, q2 18, q2 19, q2 20, q2 21, q2 22, q1 _, q2 23, q2 24, q2 25]), .inl (1, 2400, .inl _)]) (And.intro rfl (And.intro rfl (And.intro rfl (And.intro ⟨⟨_, rfl⟩, rfl⟩ ?_))))))
                  refine Exists.intro _ (Exists.intro _ (Exists.intro _ (Exists.intro _ (Exists.intro _ (Exists.intro _ (Exists.intro _ (Exists.intro _ (Exists.intro _ (Exists.intro _ (Exists.intro _ (Exists.intro _ (Exists.intro _ (Exists.intro _ (Exists.intro _ (Exists.intro _ (Exists.intro _ (Exists.intro _ (Exists.intro _ (Exists.intro _ (Exists.intro _ (And.intro rfl (And.intro rfl (And.intro (by first | omega | assumption | exact q_rg_up (by assumption) (by omega) | exact q_rg_up (q_rg_up (by assumption) (by omega)) (by omega) | exact q_rg_cpy (by assumption) (by assumption)) (?_))))))))))))))))))))))))
                  intro x_mre_68 x_mbe_68 x_mso_68 x_mva_68 x_mwo_68 h68
                  exact ⟨_, ⟨_, _, _, _, _, _, _, _, _, _, _, _, _, _, rfl, rfl, rfl, rfl, (by first | omega | assumption | exact q_rg_up (by assumption) (by omega) | exact q_rg_up (q_rg_up (by assumption) (by omega)) (by omega) | exact q_rg_cpy (by assumption) (by assumption)), (by first | omega | assumption | exact q_rg_up (by assumption) (by omega) | exact q_rg_up (q_rg_up (by assumption) (by omega)) (by omega) | exact q_rg_cpy (by assumption) (by assumption)), (by first | assumption | exact h42.2.2.2)⟩, by omega⟩
          · intro h30
            refine Exists.intro [0, 1, 2, 3, 4, 5, 6, 7, 8, 9, 10, 11, 12, 13, 14, 15, 16, 17, 18, 19, 20, 21, 22, 23, 24, 25] (Exists.intro [q2 0, q1 _, q3 _, q1 _] (Exists.intro ([.inr (12, [q1 _, q2 1, q2 4, q2 5, q2 6, q2 7, q2 8, q2 9, q2 10, q2 11, q1 _, q1 _, q1 _, q1 _, q1 _, q3 _, q1 _, q1 _, q1 _, q2 3, q2 2, q1 _, q1 _, q1 _, q1 _, q1 _, q1 _, q2 12, q1 _, q2 13, q2 14, q2 15, q2 16, q1 _, q2 17, q1 _, q2 18, q2 19, q2 20, q2 21, q2 22, q1 _, q2 23, q2 24, q2 25]), .inl (1, 2400, .inl _), .inl (0, 4, .inl _), .inl (0, 161, .inl _)]) (And.intro rfl (And.intro rfl (And.intro rfl (And.intro ⟨⟨_, rfl⟩, rfl⟩ ?_))))))
            refine Exists.intro _ (Exists.intro _ (Exists.intro _ (Exists.intro _ (Exists.intro _ (Exists.intro _ (Exists.intro _ (Exists.intro _ (Exists.intro _ (Exists.intro _ (Exists.intro _ (Exists.intro _ (Exists.intro _ (Exists.intro _ (Exists.intro _ (Exists.intro _ (Exists.intro _ (Exists.intro _ (Exists.intro _ (Exists.intro _ (Exists.intro _ (Exists.intro _ (Exists.intro _ (Exists.intro _ (Exists.intro _ (Exists.intro _ (And.intro rfl (And.intro rfl (And.intro (by first | omega | assumption | exact q_rg_up (by assumption) (by omega) | exact q_rg_up (q_rg_up (by assumption) (by omega)) (by omega) | exact q_rg_cpy (by assumption) (by assumption)) (And.intro (by first | omega | assumption | exact q_rg_up (by assumption) (by omega) | exact q_rg_up (q_rg_up (by assumption) (by omega)) (by omega) | exact q_rg_cpy (by assumption) (by assumption)) (And.intro (by first | omega | assumption | exact q_rg_up (by assumption) (by omega) | exact q_rg_up (q_rg_up (by assumption) (by omega)) (by omega) | exact q_rg_cpy (by assumption) (by assumption)) (?_)))))))))))))))))))))))))))))))
            intro z42 x_mre_42 x_mbe_42 x_mso_42 x_mva_42 x_mwo_42 x_mwr_42 x_mlf_42 x_mlp_42 x_mgo_42 x_mfp_42 x_mfd_42 x_re_42 x_td_42 h42
            apply And.intro
            · intro h47
              apply And.intro
              · intro h64
                exact ⟨_, ⟨_, _, _, _, _, _, _, _, _, _, _, _, _, _, rfl, rfl, rfl, rfl, (by first | omega | assumption | exact q_rg_up (by assumption) (by omega) | exact q_rg_up (q_rg_up (by assumption) (by omega)) (by omega) | exact q_rg_cpy (by assumption) (by assumption)), (by first | omega | assumption | exact q_rg_up (by assumption) (by omega) | exact q_rg_up (q_rg_up (by assumption) (by omega)) (by omega) | exact q_rg_cpy (by assumption) (by assumption)), (by first | assumption | exact h42.2.2.2)⟩, by omega⟩
              · intro h64
                refine Exists.intro [0, 1, 4, 5, 6, 7, 8, 9, 10, 11, 3, 2, 12, 13, 14, 15, 16, 17, 18, 19, 20, 21, 22, 23, 24, 25] (Exists.intro [q2 0] (Exists.intro ([.inr (12, [q1 _, q2 1, q2 2, q2 3, q2 4, q2 5, q2 6, q2 7, q2 8, q2 9, q1 _, q1 _, q1 _, q1 _, q1 _, q3 _, q1 _, q1 _, q1 _, q2 10, q2 11, q1 _, q1 _, q1 _, q1 _, q1 _, q1 _, q2 12, q1 _, q2 13, q2 14, q2 15, q2 16, q1 _, q2 17, q1 _, q2 18, q2 19, q2 20, q2 21, q2 22, q1 _, q2 23, q2 24, q2 25]), .inl (1, 2400, .inl _)]) (And.intro rfl (And.intro rfl (And.intro rfl (And.intro ⟨⟨_, rfl⟩, rfl⟩ ?_))))))
                refine Exists.intro _ (Exists.intro _ (Exists.intro _ (Exists.intro _ (Exists.intro _ (Exists.intro _ (Exists.intro _ (Exists.intro _ (Exists.intro _ (Exists.intro _ (Exists.intro _ (Exists.intro _ (Exists.intro _ (Exists.intro _ (Exists.intro _ (Exists.intro _ (Exists.intro _ (Exists.intro _ (Exists.intro _ (Exists.intro _ (Exists.intro _ (And.intro rfl (And.intro rfl (And.intro (by first | omega | assumption | exact q_rg_up (by assumption) (by omega) | exact q_rg_up (q_rg_up (by assumption) (by omega)) (by omega) | exact q_rg_cpy (by assumption) (by assumption)) (?_))))))))))))))))))))))))
                intro x_mre_68 x_mbe_68 x_mso_68 x_mva_68 x_mwo_68 h68
                exact ⟨_, ⟨_, _, _, _, _, _, _, _, _, _, _, _, _, _, rfl, rfl, rfl, rfl, (by first | omega | assumption | exact q_rg_up (by assumption) (by omega) | exact q_rg_up (q_rg_up (by assumption) (by omega)) (by omega) | exact q_rg_cpy (by assumption) (by assumption)), (by first | omega | assumption | exact q_rg_up (by assumption) (by omega) | exact q_rg_up (q_rg_up (by assumption) (by omega)) (by omega) | exact q_rg_cpy (by assumption) (by assumption)), (by first | assumption | exact h42.2.2.2)⟩, by omega⟩
            · intro h47
              apply And.intro
              · intro h55
                apply And.intro
                · intro h64
                  exact ⟨_, ⟨_, _, _, _, _, _, _, _, _, _, _, _, _, _, rfl, rfl, rfl, rfl, (by first | omega | assumption | exact q_rg_up (by assumption) (by omega) | exact q_rg_up (q_rg_up (by assumption) (by omega)) (by omega) | exact q_rg_cpy (by assumption) (by assumption)), (by first | omega | assumption | exact q_rg_up (by assumption) (by omega) | exact q_rg_up (q_rg_up (by assumption) (by omega)) (by omega) | exact q_rg_cpy (by assumption) (by assumption)), (by first | assumption | exact h42.2.2.2)⟩, by omega⟩
                · intro h64
                  refine Exists.intro [0, 1, 4, 5, 6, 7, 8, 9, 10, 11, 3, 2, 12, 13, 14, 15, 16, 17, 18, 19, 20, 21, 22, 23, 24, 25] (Exists.intro [q2 0] (Exists.intro ([.inr (12, [q1 _, q2 1, q2 2, q2 3, q2 4, q2 5, q2 6, q2 7, q2 8, q2 9, q1 _, q1 _, q1 _, q1 _, q1 _, q3 _, q1 _, q1 _, q1 _, q2 10, q2 11, q1 _, q1 _, q1 _, q1 _, q1 _, q1 _, q2 12, q1 _, q2 13, q2 14, q2 15, q2 16, q1 _, q2 17, q1 _, q2 18, q2 19, q2 20, q2 21, q2 22, q1 _, q2 23, q2 24, q2 25]), .inl (1, 2400, .inl _)]) (And.intro rfl (And.intro rfl (And.intro rfl (And.intro ⟨⟨_, rfl⟩, rfl⟩ ?_))))))
                  refine Exists.intro _ (Exists.intro _ (Exists.intro _ (Exists.intro _ (Exists.intro _ (Exists.intro _ (Exists.intro _ (Exists.intro _ (Exists.intro _ (Exists.intro _ (Exists.intro _ (Exists.intro _ (Exists.intro _ (Exists.intro _ (Exists.intro _ (Exists.intro _ (Exists.intro _ (Exists.intro _ (Exists.intro _ (Exists.intro _ (Exists.intro _ (And.intro rfl (And.intro rfl (And.intro (by first | omega | assumption | exact q_rg_up (by assumption) (by omega) | exact q_rg_up (q_rg_up (by assumption) (by omega)) (by omega) | exact q_rg_cpy (by assumption) (by assumption)) (?_))))))))))))))))))))))))
                  intro x_mre_68 x_mbe_68 x_mso_68 x_mva_68 x_mwo_68 h68
                  exact ⟨_, ⟨_, _, _, _, _, _, _, _, _, _, _, _, _, _, rfl, rfl, rfl, rfl, (by first | omega | assumption | exact q_rg_up (by assumption) (by omega) | exact q_rg_up (q_rg_up (by assumption) (by omega)) (by omega) | exact q_rg_cpy (by assumption) (by assumption)), (by first | omega | assumption | exact q_rg_up (by assumption) (by omega) | exact q_rg_up (q_rg_up (by assumption) (by omega)) (by omega) | exact q_rg_cpy (by assumption) (by assumption)), (by first | assumption | exact h42.2.2.2)⟩, by omega⟩
              · intro h55
                refine Exists.intro [0, 1, 4, 5, 6, 7, 8, 9, 10, 11, 3, 2, 12, 13, 14, 15, 16, 17, 18, 19, 20, 21, 22, 23, 24, 25] (Exists.intro [q2 0] (Exists.intro ([.inr (12, [q1 _, q2 1, q2 2, q2 3, q2 4, q2 5, q2 6, q2 7, q2 8, q2 9, q1 _, q1 _, q1 _, q1 _, q1 _, q3 _, q1 _, q1 _, q1 _, q2 10, q2 11, q1 _, q1 _, q1 _, q1 _, q1 _, q1 _, q2 12, q1 _, q2 13, q2 14, q2 15, q2 16, q1 _, q2 17, q1 _, q2 18, q2 19, q2 20, q2 21, q2 22, q1 _, q2 23, q2 24, q2 25])]) (And.intro rfl (And.intro rfl (And.intro rfl (And.intro ⟨⟨_, rfl⟩, rfl⟩ ?_))))))
                refine Exists.intro _ (Exists.intro _ (Exists.intro _ (Exists.intro _ (Exists.intro _ (Exists.intro _ (Exists.intro _ (Exists.intro _ (Exists.intro _ (Exists.intro _ (Exists.intro _ (Exists.intro _ (Exists.intro _ (Exists.intro _ (Exists.intro _ (Exists.intro _ (Exists.intro _ (Exists.intro _ (Exists.intro _ (Exists.intro _ (And.intro rfl (And.intro rfl (?_))))))))))))))))))))))
                intro z59 x_mwr_59 h59
                apply And.intro
                · intro h64
                  exact ⟨_, ⟨_, _, _, _, _, _, _, _, _, _, _, _, _, _, rfl, rfl, rfl, rfl, (by first | omega | assumption | exact q_rg_up (by assumption) (by omega) | exact q_rg_up (q_rg_up (by assumption) (by omega)) (by omega) | exact q_rg_cpy (by assumption) (by assumption)), (by first | omega | assumption | exact q_rg_up (by assumption) (by omega) | exact q_rg_up (q_rg_up (by assumption) (by omega)) (by omega) | exact q_rg_cpy (by assumption) (by assumption)), (by first | assumption | exact h42.2.2.2)⟩, by omega⟩
                · intro h64
                  refine Exists.intro [0, 1, 4, 5, 6, 7, 8, 9, 10, 11, 3, 2, 12, 13, 14, 15, 16, 17, 18, 19, 20, 21, 22, 23, 24, 25] (Exists.intro [q2 0] (Exists.intro ([.inr (12, [q1 _, q2 1, q2 2, q2 3, q2 4, q2 5, q2 6, q2 7, q2 8, q2 9, q1 _, q1 _, q1 _, q1 _, q1 _, q3 _, q1 _, q1 _, q1 _, q2 10, q2 11, q1 _, q1 _, q1 _, q1 _, q1 _, q1 _, q2 12, q1 _, q2 13, q2 14, q2 15, q2 16, q1 _, q2 17, q1 _, q2 18, q2 19, q2 20, q2 21, q2 22, q1 _, q2 23, q2 24, q2 25]), .inl (1, 2400, .inl _)]) (And.intro rfl (And.intro rfl (And.intro rfl (And.intro ⟨⟨_, rfl⟩, rfl⟩ ?_))))))
                  refine Exists.intro _ (Exists.intro _ (Exists.intro _ (Exists.intro _ (Exists.intro _ (Exists.intro _ (Exists.intro _ (Exists.intro _ (Exists.intro _ (Exists.intro _ (Exists.intro _ (Exists.intro _ (Exists.intro _ (Exists.intro _ (Exists.intro _ (Exists.intro _ (Exists.intro _ (Exists.intro _ (Exists.intro _ (Exists.intro _ (Exists.intro _ (And.intro rfl (And.intro rfl (And.intro (by first | omega | assumption | exact q_rg_up (by assumption) (by omega) | exact q_rg_up (q_rg_up (by assumption) (by omega)) (by omega) | exact q_rg_cpy (by assumption) (by assumption)) (?_))))))))))))))))))))))))
                  intro x_mre_68 x_mbe_68 x_mso_68 x_mva_68 x_mwo_68 h68
                  exact ⟨_, ⟨_, _, _, _, _, _, _, _, _, _, _, _, _, _, rfl, rfl, rfl, rfl, (by first | omega | assumption | exact q_rg_up (by assumption) (by omega) | exact q_rg_up (q_rg_up (by assumption) (by omega)) (by omega) | exact q_rg_cpy (by assumption) (by assumption)), (by first | omega | assumption | exact q_rg_up (by assumption) (by omega) | exact q_rg_up (q_rg_up (by assumption) (by omega)) (by omega) | exact q_rg_cpy (by assumption) (by assumption)), (by first | assumption | exact h42.2.2.2)⟩, by omega⟩
    simp only [I_X12_lines, h2, if_false] at hI
  rintro lv st w' ⟨rfl, rfl, rfl⟩
  exact ⟨_, _, _, _, _, _, _, _, _, _, _, _, _, _, _, rfl, rfl, rfl, rfl, (by first | omega | assumption | exact q_rg_up (by assumption) (by omega) | exact q_rg_up (q_rg_up (by assumption) (by omega)) (by omega) | exact q_rg_cpy (by assumption) (by assumption)), (by first | omega | assumption | exact q_rg_up (by assumption) (by omega) | exact q_rg_up (q_rg_up (by assumption) (by omega)) (by omega) | exact q_rg_cpy (by assumption) (by assumption)), (by first | assumption | exact h42.2.2.2)⟩

theorem dX12_blank_0 : decode cX12_blank 0 = .ok (.iconst 0, 1) := by decide +kernel
theorem dX12_blank_1 : decode cX12_blank 1 = .ok (.istore_n 2, 1) := by decide +kernel
theorem dX12_blank_2 : decode cX12_blank 2 = .ok (.iload_n 2, 1) := by decide +kernel
theorem dX12_blank_3 : decode cX12_blank 3 = .ok (.sipush 161, 3) := by decide +kernel
theorem dX12_blank_6 : decode cX12_blank 6 = .ok (.if_icmp .ge 35, 3) := by decide +kernel
theorem dX12_blank_9 : decode cX12_blank 9 = .ok (.aload_n 0, 1) := by decide +kernel
theorem dX12_blank_10 : decode cX12_blank 10 = .ok (.getfield 38, 3) := by decide +kernel
theorem dX12_blank_13 : decode cX12_blank 13 = .ok (.iload_n 2, 1) := by decide +kernel
theorem dX12_blank_14 : decode cX12_blank 14 = .ok (.iload_n 1, 1) := by decide +kernel
theorem dX12_blank_15 : decode cX12_blank 15 = .ok (.ifCond .ne 18, 3) := by decide +kernel
theorem dX12_blank_18 : decode cX12_blank 18 = .ok (.iload_n 2, 1) := by decide +kernel
theorem dX12_blank_19 : decode cX12_blank 19 = .ok (.bipush 13, 2) := by decide +kernel
theorem dX12_blank_21 : decode cX12_blank 21 = .ok (.bipush 20, 2) := by decide +kernel
theorem dX12_blank_23 : decode cX12_blank 23 = .ok (.invokestatic 100, 3) := by decide +kernel
theorem dX12_blank_26 : decode cX12_blank 26 = .ok (.ifCond .eq 7, 3) := by decide +kernel
theorem dX12_blank_29 : decode cX12_blank 29 = .ok (.iconst (-1), 1) := by decide +kernel
theorem dX12_blank_30 : decode cX12_blank 30 = .ok (.goto 4, 3) := by decide +kernel
theorem dX12_blank_33 : decode cX12_blank 33 = .ok (.iconst 0, 1) := by decide +kernel
theorem dX12_blank_34 : decode cX12_blank 34 = .ok (.iastore, 1) := by decide +kernel
theorem dX12_blank_35 : decode cX12_blank 35 = .ok (.iinc 2 1, 3) := by decide +kernel
theorem dX12_blank_38 : decode cX12_blank 38 = .ok (.goto (-36), 3) := by decide +kernel
theorem dX12_blank_41 : decode cX12_blank 41 = .ok (.iload_n 1, 1) := by decide +kernel
theorem dX12_blank_42 : decode cX12_blank 42 = .ok (.ifCond .ne 43, 3) := by decide +kernel
theorem dX12_blank_45 : decode cX12_blank 45 = .ok (.aload_n 0, 1) := by decide +kernel
theorem dX12_blank_46 : decode cX12_blank 46 = .ok (.getfield 38, 3) := by decide +kernel
theorem dX12_blank_49 : decode cX12_blank 49 = .ok (.iconst 2, 1) := by decide +kernel
theorem dX12_blank_50 : decode cX12_blank 50 = .ok (.iconst 5, 1) := by decide +kernel
theorem dX12_blank_51 : decode cX12_blank 51 = .ok (.iastore, 1) := by decide +kernel
theorem dX12_blank_52 : decode cX12_blank 52 = .ok (.aload_n 0, 1) := by decide +kernel
theorem dX12_blank_53 : decode cX12_blank 53 = .ok (.getfield 38, 3) := by decide +kernel
theorem dX12_blank_56 : decode cX12_blank 56 = .ok (.bipush 21, 2) := by decide +kernel
theorem dX12_blank_58 : decode cX12_blank 58 = .ok (.bipush 6, 2) := by decide +kernel
theorem dX12_blank_60 : decode cX12_blank 60 = .ok (.iastore, 1) := by decide +kernel
theorem dX12_blank_61 : decode cX12_blank 61 = .ok (.aload_n 0, 1) := by decide +kernel
theorem dX12_blank_62 : decode cX12_blank 62 = .ok (.getfield 38, 3) := by decide +kernel
theorem dX12_blank_65 : decode cX12_blank 65 = .ok (.bipush 22, 2) := by decide +kernel
theorem dX12_blank_67 : decode cX12_blank 67 = .ok (.iconst 3, 1) := by decide +kernel
theorem dX12_blank_68 : decode cX12_blank 68 = .ok (.iastore, 1) := by decide +kernel
theorem dX12_blank_69 : decode cX12_blank 69 = .ok (.aload_n 0, 1) := by decide +kernel
theorem dX12_blank_70 : decode cX12_blank 70 = .ok (.getfield 38, 3) := by decide +kernel
theorem dX12_blank_73 : decode cX12_blank 73 = .ok (.bipush 23, 2) := by decide +kernel
theorem dX12_blank_75 : decode cX12_blank 75 = .ok (.iconst 1, 1) := by decide +kernel
theorem dX12_blank_76 : decode cX12_blank 76 = .ok (.iastore, 1) := by decide +kernel
theorem dX12_blank_77 : decode cX12_blank 77 = .ok (.aload_n 0, 1) := by decide +kernel
theorem dX12_blank_78 : decode cX12_blank 78 = .ok (.getfield 38, 3) := by decide +kernel
theorem dX12_blank_81 : decode cX12_blank 81 = .ok (.bipush 24, 2) := by decide +kernel
theorem dX12_blank_83 : decode cX12_blank 83 = .ok (.iconst 2, 1) := by decide +kernel
theorem dX12_blank_84 : decode cX12_blank 84 = .ok (.iastore, 1) := by decide +kernel
theorem dX12_blank_85 : decode cX12_blank 85 = .ok (.return_, 1) := by decide +kernel
def is_X12_blank : Nat → List Nat := fun d => if d = 2 then [0, 1, 2] else []
set_option maxRecDepth 100000 in
def b_X12_blank_85 (J : Nat → List qV → List qV → qW → Prop) (Q : qR) : qK := x_vret Q
set_option maxRecDepth 100000 in
theorem s_X12_blank_85 {p : Program} {l : Launch} {e : Env} {R : Room} {s : State} {m : MethodId} {args : Array Value} {below : List Frame} {meth : Method} {c : Code} {nW : Nat} {dC : Nat → ClassId} {dI : Nat → Nat → Nat} {k : Nat → ClassId} {g : Nat → Nat} {A : Nat → Prop} {J : Nat → List qV → List qV → qW → Prop} {Q : qR} (X : q_X p R s m args meth c cX12_blank 3 nW 1 22 RX12 none dC dI k g A) (hJ : ∀ d : Nat, q_Sd p l e R s m args below meth c 3 nW dC dI k g A (MQ below (q_post (dC, dI) k g nW Q A) args s 0 0 A) d (x_cut (is_X12_blank d) (J d))) : q_Sd p l e R s m args below meth c 3 nW dC dI k g A (MQ below (q_post (dC, dI) k g nW Q A) args s 0 0 A) 85 (b_X12_blank_85 J Q) := by
  unfold b_X12_blank_85
  exact s_vret X dX12_blank_85
set_option maxRecDepth 100000 in
def b_X12_blank_76 (J : Nat → List qV → List qV → qW → Prop) (Q : qR) : qK := x_iast (x_nw (x_aload 0 (x_get 12 19 (x_int 24 (x_int 2 (x_iast (x_nw (b_X12_blank_85 J Q))))))))
set_option maxRecDepth 100000 in
theorem s_X12_blank_76 {p : Program} {l : Launch} {e : Env} {R : Room} {s : State} {m : MethodId} {args : Array Value} {below : List Frame} {meth : Method} {c : Code} {nW : Nat} {dC : Nat → ClassId} {dI : Nat → Nat → Nat} {k : Nat → ClassId} {g : Nat → Nat} {A : Nat → Prop} {J : Nat → List qV → List qV → qW → Prop} {Q : qR} (X : q_X p R s m args meth c cX12_blank 3 nW 1 22 RX12 none dC dI k g A) (hJ : ∀ d : Nat, q_Sd p l e R s m args below meth c 3 nW dC dI k g A (MQ below (q_post (dC, dI) k g nW Q A) args s 0 0 A) d (x_cut (is_X12_blank d) (J d))) : q_Sd p l e R s m args below meth c 3 nW dC dI k g A (MQ below (q_post (dC, dI) k g nW Q A) args s 0 0 A) 76 (b_X12_blank_76 J Q) := by
  unfold b_X12_blank_76
  refine s_iast X dX12_blank_76 ?_
  refine s_nw ?_
  refine s_aload_n X rfl dX12_blank_77 ?_
  refine s_get X (T := TX12) (C := RX12) (N := 45) tu_X12 rfl (by decide) tw_1016 dX12_blank_78 ?_
  refine s_bipush X ⟨by decide, by decide⟩ (by decide) dX12_blank_81 ?_
  refine s_iconst X ⟨by decide, by decide⟩ dX12_blank_83 ?_
  refine s_iast X dX12_blank_84 ?_
  refine s_nw ?_
  exact s_X12_blank_85 X hJ
set_option maxRecDepth 100000 in
def b_X12_blank_34 (J : Nat → List qV → List qV → qW → Prop) (Q : qR) : qK := x_iast (x_nw (x_iinc 2 1 (x_cut [0, 1, 2] (J 2))))
set_option maxRecDepth 100000 in
theorem s_X12_blank_34 {p : Program} {l : Launch} {e : Env} {R : Room} {s : State} {m : MethodId} {args : Array Value} {below : List Frame} {meth : Method} {c : Code} {nW : Nat} {dC : Nat → ClassId} {dI : Nat → Nat → Nat} {k : Nat → ClassId} {g : Nat → Nat} {A : Nat → Prop} {J : Nat → List qV → List qV → qW → Prop} {Q : qR} (X : q_X p R s m args meth c cX12_blank 3 nW 1 22 RX12 none dC dI k g A) (hJ : ∀ d : Nat, q_Sd p l e R s m args below meth c 3 nW dC dI k g A (MQ below (q_post (dC, dI) k g nW Q A) args s 0 0 A) d (x_cut (is_X12_blank d) (J d))) : q_Sd p l e R s m args below meth c 3 nW dC dI k g A (MQ below (q_post (dC, dI) k g nW Q A) args s 0 0 A) 34 (b_X12_blank_34 J Q) := by
  unfold b_X12_blank_34
  refine s_iast X dX12_blank_34 ?_
  refine s_nw ?_
  refine s_iinc X (by decide) dX12_blank_35 ?_
  refine s_goto X (tgt := 2) dX12_blank_38 (by decide) ?_
  exact hJ 2
set_option maxRecDepth 100000 in
def b_X12_blank_33 (J : Nat → List qV → List qV → qW → Prop) (Q : qR) : qK := x_int 0 (b_X12_blank_34 J Q)
set_option maxRecDepth 100000 in
theorem s_X12_blank_33 {p : Program} {l : Launch} {e : Env} {R : Room} {s : State} {m : MethodId} {args : Array Value} {below : List Frame} {meth : Method} {c : Code} {nW : Nat} {dC : Nat → ClassId} {dI : Nat → Nat → Nat} {k : Nat → ClassId} {g : Nat → Nat} {A : Nat → Prop} {J : Nat → List qV → List qV → qW → Prop} {Q : qR} (X : q_X p R s m args meth c cX12_blank 3 nW 1 22 RX12 none dC dI k g A) (hJ : ∀ d : Nat, q_Sd p l e R s m args below meth c 3 nW dC dI k g A (MQ below (q_post (dC, dI) k g nW Q A) args s 0 0 A) d (x_cut (is_X12_blank d) (J d))) : q_Sd p l e R s m args below meth c 3 nW dC dI k g A (MQ below (q_post (dC, dI) k g nW Q A) args s 0 0 A) 33 (b_X12_blank_33 J Q) := by
  unfold b_X12_blank_33
  refine s_iconst X ⟨by decide, by decide⟩ dX12_blank_33 ?_
  exact s_X12_blank_34 X hJ
set_option maxRecDepth 100000 in
def b_X12_blank_2 (J : Nat → List qV → List qV → qW → Prop) (Q : qR) : qK := x_iload 2 (x_int 161 (x_icmp_ge (x_iload 1 (x_if_ne (b_X12_blank_85 J Q) (x_aload 0 (x_get 12 19 (x_int 2 (x_int 5 (x_iast (x_nw (x_aload 0 (x_get 12 19 (x_int 21 (x_int 6 (x_iast (x_nw (x_aload 0 (x_get 12 19 (x_int 22 (x_int 3 (x_iast (x_nw (x_aload 0 (x_get 12 19 (x_int 23 (x_int 1 (b_X12_blank_76 J Q))))))))))))))))))))))))) (x_aload 0 (x_get 12 19 (x_iload 2 (x_iload 1 (x_if_ne (b_X12_blank_33 J Q) (x_iload 2 (x_int 13 (x_int 20 (x_callr none 3 spr_X12_in (x_if_eq (b_X12_blank_33 J Q) (x_int (-1) (b_X12_blank_34 J Q))))))))))))))
set_option maxRecDepth 100000 in
theorem s_X12_blank_2 {p : Program} {l : Launch} {e : Env} {R : Room} {s : State} {m : MethodId} {args : Array Value} {below : List Frame} {meth : Method} {c : Code} {nW : Nat} {dC : Nat → ClassId} {dI : Nat → Nat → Nat} {k : Nat → ClassId} {g : Nat → Nat} {A : Nat → Prop} {J : Nat → List qV → List qV → qW → Prop} {Q : qR} (X : q_X p R s m args meth c cX12_blank 3 nW 1 22 RX12 none dC dI k g A) (hJ : ∀ d : Nat, q_Sd p l e R s m args below meth c 3 nW dC dI k g A (MQ below (q_post (dC, dI) k g nW Q A) args s 0 0 A) d (x_cut (is_X12_blank d) (J d))) : q_Sd p l e R s m args below meth c 3 nW dC dI k g A (MQ below (q_post (dC, dI) k g nW Q A) args s 0 0 A) 2 (b_X12_blank_2 J Q) := by
  unfold b_X12_blank_2
  refine s_iload_n X rfl dX12_blank_2 ?_
  refine s_sipush X ⟨by decide, by decide⟩ (by decide) dX12_blank_3 ?_
  refine s_icmp_ge X (tgt := 41) dX12_blank_6 (by decide) ?_ ?_
  · refine s_iload_n X rfl dX12_blank_41 ?_
    refine s_if_ne X (tgt := 85) dX12_blank_42 (by decide) ?_ ?_
    · exact s_X12_blank_85 X hJ
    · refine s_aload_n X rfl dX12_blank_45 ?_
      refine s_get X (T := TX12) (C := RX12) (N := 45) tu_X12 rfl (by decide) tw_1016 dX12_blank_46 ?_
      refine s_iconst X ⟨by decide, by decide⟩ dX12_blank_49 ?_
      refine s_iconst X ⟨by decide, by decide⟩ dX12_blank_50 ?_
      refine s_iast X dX12_blank_51 ?_
      refine s_nw ?_
      refine s_aload_n X rfl dX12_blank_52 ?_
      refine s_get X (T := TX12) (C := RX12) (N := 45) tu_X12 rfl (by decide) tw_1016 dX12_blank_53 ?_
      refine s_bipush X ⟨by decide, by decide⟩ (by decide) dX12_blank_56 ?_
      refine s_bipush X ⟨by decide, by decide⟩ (by decide) dX12_blank_58 ?_
      refine s_iast X dX12_blank_60 ?_
      refine s_nw ?_
      refine s_aload_n X rfl dX12_blank_61 ?_
      refine s_get X (T := TX12) (C := RX12) (N := 45) tu_X12 rfl (by decide) tw_1016 dX12_blank_62 ?_
      refine s_bipush X ⟨by decide, by decide⟩ (by decide) dX12_blank_65 ?_
      refine s_iconst X ⟨by decide, by decide⟩ dX12_blank_67 ?_
      refine s_iast X dX12_blank_68 ?_
      refine s_nw ?_
      refine s_aload_n X rfl dX12_blank_69 ?_
      refine s_get X (T := TX12) (C := RX12) (N := 45) tu_X12 rfl (by decide) tw_1016 dX12_blank_70 ?_
      refine s_bipush X ⟨by decide, by decide⟩ (by decide) dX12_blank_73 ?_
      refine s_iconst X ⟨by decide, by decide⟩ dX12_blank_75 ?_
      exact s_X12_blank_76 X hJ
  · refine s_aload_n X rfl dX12_blank_9 ?_
    refine s_get X (T := TX12) (C := RX12) (N := 45) tu_X12 rfl (by decide) tw_1016 dX12_blank_10 ?_
    refine s_iload_n X rfl dX12_blank_13 ?_
    refine s_iload_n X rfl dX12_blank_14 ?_
    refine s_if_ne X (tgt := 33) dX12_blank_15 (by decide) ?_ ?_
    · exact s_X12_blank_33 X hJ
    · refine s_iload_n X rfl dX12_blank_18 ?_
      refine s_bipush X ⟨by decide, by decide⟩ (by decide) dX12_blank_19 ?_
      refine s_bipush X ⟨by decide, by decide⟩ (by decide) dX12_blank_21 ?_
      refine s_callSr X (m_X12_in l) tw_1054 tw_1055 tw_134 tw_1056 (by decide +kernel) ⟨by decide, by decide⟩ dX12_blank_23 ?_
      refine s_if_eq X (tgt := 33) dX12_blank_26 (by decide) ?_ ?_
      · exact s_X12_blank_33 X hJ
      · refine s_iconst X ⟨by decide, by decide⟩ dX12_blank_29 ?_
        refine s_goto X (tgt := 34) dX12_blank_30 (by decide) ?_
        exact s_X12_blank_34 X hJ
set_option maxRecDepth 100000 in
def b_X12_blank_0 (J : Nat → List qV → List qV → qW → Prop) (Q : qR) : qK := x_int 0 (x_istore 2 (x_cut [0, 1, 2] (J 2)))
set_option maxRecDepth 100000 in
theorem s_X12_blank_0 {p : Program} {l : Launch} {e : Env} {R : Room} {s : State} {m : MethodId} {args : Array Value} {below : List Frame} {meth : Method} {c : Code} {nW : Nat} {dC : Nat → ClassId} {dI : Nat → Nat → Nat} {k : Nat → ClassId} {g : Nat → Nat} {A : Nat → Prop} {J : Nat → List qV → List qV → qW → Prop} {Q : qR} (X : q_X p R s m args meth c cX12_blank 3 nW 1 22 RX12 none dC dI k g A) (hJ : ∀ d : Nat, q_Sd p l e R s m args below meth c 3 nW dC dI k g A (MQ below (q_post (dC, dI) k g nW Q A) args s 0 0 A) d (x_cut (is_X12_blank d) (J d))) : q_Sd p l e R s m args below meth c 3 nW dC dI k g A (MQ below (q_post (dC, dI) k g nW Q A) args s 0 0 A) 0 (b_X12_blank_0 J Q) := by
  unfold b_X12_blank_0
  refine s_iconst X ⟨by decide, by decide⟩ dX12_blank_0 ?_
  refine s_istore_n X rfl (by decide) dX12_blank_1 ?_
  exact hJ 2

def sp_X12_blank : qS := fun av w Q => ∃ (mco : Int) (mre : Int) (mle : Int) (mbe : Int) (mso : Int) (mva : Int) (mwo : Int) (mwr : Int) (mlf : Int) (mlp : Int) (mfp : Int) (mfd : Int) (mgo : Int) (mbo : Int) (mpe : Int) (mye : Int) (mpr : Int) (mld : Int) (msi : Int) (mse : Int) (td : Nat → Int) (a : Int), av = [q2 0, q1 a] ∧ w = [.inr (12, [q1 mco, q2 2, q2 3, q2 4, q2 5, q2 6, q2 7, q2 8, q2 9, q2 10, q1 mre, q1 mle, q1 mbe, q1 mso, q1 mva, q3 mwo, q1 mwr, q1 mlf, q1 mlp, q2 1, q2 11, q1 mfp, q1 mfd, q1 mgo, q1 mbo, q1 mpe, q1 mye, q2 12, q1 mpr, q2 13, q2 14, q2 15, q2 16, q1 mld, q2 17, q1 msi, q2 18, q2 19, q2 20, q2 21, q2 22, q1 mse, q2 23, q2 24, q2 25]), .inl (0, 161, .inl td)] ∧ (∀ (x_td : Nat → Int), TI a x_td → Q none ([.inr (12, [q1 mco, q2 2, q2 3, q2 4, q2 5, q2 6, q2 7, q2 8, q2 9, q2 10, q1 mre, q1 mle, q1 mbe, q1 mso, q1 mva, q3 mwo, q1 mwr, q1 mlf, q1 mlp, q2 1, q2 11, q1 mfp, q1 mfd, q1 mgo, q1 mbo, q1 mpe, q1 mye, q2 12, q1 mpr, q2 13, q2 14, q2 15, q2 16, q1 mld, q2 17, q1 msi, q2 18, q2 19, q2 20, q2 21, q2 22, q1 mse, q2 23, q2 24, q2 25]), .inl (0, 161, .inl x_td)]))
def I_X12_blank (mco : Int) (mre : Int) (mle : Int) (mbe : Int) (mso : Int) (mva : Int) (mwo : Int) (mwr : Int) (mlf : Int) (mlp : Int) (mfp : Int) (mfd : Int) (mgo : Int) (mbo : Int) (mpe : Int) (mye : Int) (mpr : Int) (mld : Int) (msi : Int) (mse : Int) (td : Nat → Int) (a : Int) : Nat → Nat → List qV → List qV → qW → Prop := fun dz mz vz sz wz => if dz = 2 then (∃ (y_td : Nat → Int) (v2 : Int), vz = [q2 0, q1 a, q1 v2] ∧ sz = [] ∧ wz = [.inr (12, [q1 mco, q2 2, q2 3, q2 4, q2 5, q2 6, q2 7, q2 8, q2 9, q2 10, q1 mre, q1 mle, q1 mbe, q1 mso, q1 mva, q3 mwo, q1 mwr, q1 mlf, q1 mlp, q2 1, q2 11, q1 mfp, q1 mfd, q1 mgo, q1 mbo, q1 mpe, q1 mye, q2 12, q1 mpr, q2 13, q2 14, q2 15, q2 16, q1 mld, q2 17, q1 msi, q2 18, q2 19, q2 20, q2 21, q2 22, q1 mse, q2 23, q2 24, q2 25]), .inl (0, 161, .inl y_td)] ∧ mz = (161 - v2).toNat ∧ (0 ≤ v2 ∧ v2 ≤ 161) ∧ (∀ j : Nat, (j : Int) < v2 → y_td j = if a = 0 ∧ 13 ≤ j ∧ j ≤ 20 then -1 else 0)) else False
set_option maxHeartbeats 4000000 in
set_option maxRecDepth 100000 in
theorem m_X12_blank (l : Launch) : q_M l yX12_blank cX12_blank 3 none 1 22 sp_X12_blank := by
  refine q_meth (by decide) (fun av w Q h => by obtain ⟨mco, mre, mle, mbe, mso, mva, mwo, mwr, mlf, mlp, mfp, mfd, mgo, mbo, mpe, mye, mpr, mld, msi, mse, td, a, rfl, rfl, hQ⟩ := h; exact Nat.le_of_ble_eq_true rfl) ?_
  intro p e R s m args below meth c dC dI k g A av w Q hsp oka okw X
  obtain ⟨mco, mre, mle, mbe, mso, mva, mwo, mwr, mlf, mlp, mfp, mfd, mgo, mbo, mpe, mye, mpr, mld, msi, mse, td, a, rfl, rfl, hQ⟩ := hsp
  have o_a : -2147483648 ≤ a ∧ a ≤ 2147483647 := oka _ (List.mem_of_getElem? (i := 1) rfl)
  refine s_mono (s_X12_blank_0 X (J := fun dz vz sz wz => ∃ mz, I_X12_blank mco mre mle mbe mso mva mwo mwr mlf mlp mfp mfd mgo mbo mpe mye mpr mld msi mse td a dz mz vz sz wz) (q_loopn (I_X12_blank mco mre mle mbe mso mva mwo mwr mlf mlp mfp mfd mgo mbo mpe mye mpr mld msi mse td a) (fun dz J => if dz = 2 then b_X12_blank_2 J Q else q_F) ?hs ?hv)) ?_
  case hs =>
    intro d J hJ
    by_cases h2 : d = 2
    · subst h2; exact s_X12_blank_2 X hJ
    simp only [h2, if_false]
    exact s_F
  case hv =>
    intro dz mz vz sz wz hI okv oks okw hlen
    by_cases h2 : dz = 2
    · subst h2
      obtain ⟨y_td, v2, rfl, rfl, rfl, hn, hp, hz⟩ := hI
      apply And.intro
      · intro h6
        apply And.intro
        · intro h42
          exact hQ _ (by first | exact bl_TI hz (by omega) (by omega) | exact ⟨fun _ => BT_up (BT_up (BT_up (BT_up (BT_up (bl_BT hz (by omega) (by omega)) (by omega)) (by omega)) (by omega)) (by omega)) (by omega), fun e9 => by omega, fun e9 => by omega⟩)
        · intro h42
          apply And.intro
          · exact ⟨by omega, by omega⟩
          apply And.intro
          · exact ⟨by omega, by omega⟩
          apply And.intro
          · exact ⟨by omega, by omega⟩
          apply And.intro
          · exact ⟨by omega, by omega⟩
          apply And.intro
          · exact ⟨by omega, by omega⟩
          exact hQ _ (by first | exact bl_TI hz (by omega) (by omega) | exact ⟨fun _ => BT_up (BT_up (BT_up (BT_up (BT_up (bl_BT hz (by omega) (by omega)) (by omega)) (by omega)) (by omega)) (by omega)) (by omega), fun e9 => by omega, fun e9 => by omega⟩)
      · intro h6
        apply And.intro
        · intro h15
          apply And.intro
          · exact ⟨by omega, by omega⟩
          intro z35 h35
          first | replace h35 := e_add h35 (by omega) | replace h35 := e_rng h35
          exact ⟨_, ⟨_, _, rfl, rfl, rfl, rfl, (by first | omega | assumption | exact q_rg_up (by assumption) (by omega) | exact q_rg_up (q_rg_up (by assumption) (by omega)) (by omega) | exact q_rg_cpy (by assumption) (by assumption)), (by first | exact bl_s hz (by omega) (by omega) (by rw [if_pos (by omega)]) | exact bl_s hz (by omega) (by omega) (by rw [if_neg (by omega)]) | (intro j hj; exfalso; omega))⟩, by omega⟩
        · intro h15
          refine Exists.intro [] (Exists.intro [q1 _, q1 _, q1 _] (Exists.intro [] (And.intro rfl (And.intro rfl (And.intro rfl (And.intro trivial ?_))))))
          refine Exists.intro _ (Exists.intro _ (Exists.intro _ (And.intro rfl (And.intro rfl (?_)))))
          intro z23 h23
          apply And.intro
          · intro h26
            first | replace h23 := dj1 h23 h26 | replace h23 := dj0 h23 h26
            apply And.intro
            · exact ⟨by omega, by omega⟩
            intro z35 h35
            first | replace h35 := e_add h35 (by omega) | replace h35 := e_rng h35
            exact ⟨_, ⟨_, _, rfl, rfl, rfl, rfl, (by first | omega | assumption | exact q_rg_up (by assumption) (by omega) | exact q_rg_up (q_rg_up (by assumption) (by omega)) (by omega) | exact q_rg_cpy (by assumption) (by assumption)), (by first | exact bl_s hz (by omega) (by omega) (by rw [if_pos (by omega)]) | exact bl_s hz (by omega) (by omega) (by rw [if_neg (by omega)]) | (intro j hj; exfalso; omega))⟩, by omega⟩
          · intro h26
            first | replace h23 := dj1 h23 h26 | replace h23 := dj0 h23 h26
            apply And.intro
            · exact ⟨by omega, by omega⟩
            intro z35 h35
            first | replace h35 := e_add h35 (by omega) | replace h35 := e_rng h35
            exact ⟨_, ⟨_, _, rfl, rfl, rfl, rfl, (by first | omega | assumption | exact q_rg_up (by assumption) (by omega) | exact q_rg_up (q_rg_up (by assumption) (by omega)) (by omega) | exact q_rg_cpy (by assumption) (by assumption)), (by first | exact bl_s hz (by omega) (by omega) (by rw [if_pos (by omega)]) | exact bl_s hz (by omega) (by omega) (by rw [if_neg (by omega)]) | (intro j hj; exfalso; omega))⟩, by omega⟩
    simp only [I_X12_blank, h2, if_false] at hI
  rintro lv st w' ⟨rfl, rfl, rfl⟩
  exact ⟨_, _, _, rfl, rfl, rfl, rfl, (by first | omega | assumption | exact q_rg_up (by assumption) (by omega) | exact q_rg_up (q_rg_up (by assumption) (by omega)) (by omega) | exact q_rg_cpy (by assumption) (by assumption)), (by first | exact bl_s hz (by omega) (by omega) (by rw [if_pos (by omega)]) | exact bl_s hz (by omega) (by omega) (by rw [if_neg (by omega)]) | (intro j hj; exfalso; omega))⟩

theorem dX12_goesRound_0 : decode cX12_goesRound 0 = .ok (.iconst 0, 1) := by decide +kernel
theorem dX12_goesRound_1 : decode cX12_goesRound 1 = .ok (.istore_n 1, 1) := by decide +kernel
theorem dX12_goesRound_2 : decode cX12_goesRound 2 = .ok (.iload_n 1, 1) := by decide +kernel
theorem dX12_goesRound_3 : decode cX12_goesRound 3 = .ok (.aload_n 0, 1) := by decide +kernel
theorem dX12_goesRound_4 : decode cX12_goesRound 4 = .ok (.getfield 38, 3) := by decide +kernel
theorem dX12_goesRound_7 : decode cX12_goesRound 7 = .ok (.iconst 0, 1) := by decide +kernel
theorem dX12_goesRound_8 : decode cX12_goesRound 8 = .ok (.iaload, 1) := by decide +kernel
theorem dX12_goesRound_9 : decode cX12_goesRound 9 = .ok (.if_icmp .ge 47, 3) := by decide +kernel
theorem dX12_goesRound_12 : decode cX12_goesRound 12 = .ok (.iload_n 1, 1) := by decide +kernel
theorem dX12_goesRound_13 : decode cX12_goesRound 13 = .ok (.istore_n 2, 1) := by decide +kernel
theorem dX12_goesRound_14 : decode cX12_goesRound 14 = .ok (.iconst 0, 1) := by decide +kernel
theorem dX12_goesRound_15 : decode cX12_goesRound 15 = .ok (.istore_n 3, 1) := by decide +kernel
theorem dX12_goesRound_16 : decode cX12_goesRound 16 = .ok (.iload_n 3, 1) := by decide +kernel
theorem dX12_goesRound_17 : decode cX12_goesRound 17 = .ok (.bipush 8, 2) := by decide +kernel
theorem dX12_goesRound_19 : decode cX12_goesRound 19 = .ok (.if_icmp .ge 24, 3) := by decide +kernel
theorem dX12_goesRound_22 : decode cX12_goesRound 22 = .ok (.iload_n 2, 1) := by decide +kernel
theorem dX12_goesRound_23 : decode cX12_goesRound 23 = .ok (.iconst (-1), 1) := by decide +kernel
theorem dX12_goesRound_24 : decode cX12_goesRound 24 = .ok (.if_icmp .eq 19, 3) := by decide +kernel
theorem dX12_goesRound_27 : decode cX12_goesRound 27 = .ok (.aload_n 0, 1) := by decide +kernel
theorem dX12_goesRound_28 : decode cX12_goesRound 28 = .ok (.getfield 38, 3) := by decide +kernel
theorem dX12_goesRound_31 : decode cX12_goesRound 31 = .ok (.bipush 13, 2) := by decide +kernel
theorem dX12_goesRound_33 : decode cX12_goesRound 33 = .ok (.iload_n 2, 1) := by decide +kernel
theorem dX12_goesRound_34 : decode cX12_goesRound 34 = .ok (.iadd, 1) := by decide +kernel
theorem dX12_goesRound_35 : decode cX12_goesRound 35 = .ok (.iaload, 1) := by decide +kernel
theorem dX12_goesRound_36 : decode cX12_goesRound 36 = .ok (.istore_n 2, 1) := by decide +kernel
theorem dX12_goesRound_37 : decode cX12_goesRound 37 = .ok (.iinc 3 1, 3) := by decide +kernel
theorem dX12_goesRound_40 : decode cX12_goesRound 40 = .ok (.goto (-24), 3) := by decide +kernel
theorem dX12_goesRound_43 : decode cX12_goesRound 43 = .ok (.iload_n 2, 1) := by decide +kernel
theorem dX12_goesRound_44 : decode cX12_goesRound 44 = .ok (.iconst (-1), 1) := by decide +kernel
theorem dX12_goesRound_45 : decode cX12_goesRound 45 = .ok (.if_icmp .eq 5, 3) := by decide +kernel
theorem dX12_goesRound_48 : decode cX12_goesRound 48 = .ok (.iconst 1, 1) := by decide +kernel
theorem dX12_goesRound_49 : decode cX12_goesRound 49 = .ok (.ireturn, 1) := by decide +kernel
theorem dX12_goesRound_50 : decode cX12_goesRound 50 = .ok (.iinc 1 1, 3) := by decide +kernel
theorem dX12_goesRound_53 : decode cX12_goesRound 53 = .ok (.goto (-51), 3) := by decide +kernel
theorem dX12_goesRound_56 : decode cX12_goesRound 56 = .ok (.iconst 0, 1) := by decide +kernel
theorem dX12_goesRound_57 : decode cX12_goesRound 57 = .ok (.ireturn, 1) := by decide +kernel
def is_X12_goesRound : Nat → List Nat := fun d => if d = 2 then [0, 1] else if d = 16 then [0, 1, 2, 3] else []
set_option maxRecDepth 100000 in
def b_X12_goesRound_43 (J : Nat → List qV → List qV → qW → Prop) (Q : qR) : qK := x_iload 2 (x_int (-1) (x_icmp_eq (x_iinc 1 1 (x_cut [0, 1] (J 2))) (x_int 1 (x_zret Q))))
set_option maxRecDepth 100000 in
theorem s_X12_goesRound_43 {p : Program} {l : Launch} {e : Env} {R : Room} {s : State} {m : MethodId} {args : Array Value} {below : List Frame} {meth : Method} {c : Code} {nW : Nat} {dC : Nat → ClassId} {dI : Nat → Nat → Nat} {k : Nat → ClassId} {g : Nat → Nat} {A : Nat → Prop} {J : Nat → List qV → List qV → qW → Prop} {Q : qR} (X : q_X p R s m args meth c cX12_goesRound 4 nW 0 0 RX12 (some .boolean) dC dI k g A) (hJ : ∀ d : Nat, q_Sd p l e R s m args below meth c 4 nW dC dI k g A (MQ below (q_post (dC, dI) k g nW Q A) args s 0 0 A) d (x_cut (is_X12_goesRound d) (J d))) : q_Sd p l e R s m args below meth c 4 nW dC dI k g A (MQ below (q_post (dC, dI) k g nW Q A) args s 0 0 A) 43 (b_X12_goesRound_43 J Q) := by
  unfold b_X12_goesRound_43
  refine s_iload_n X rfl dX12_goesRound_43 ?_
  refine s_iconst X ⟨by decide, by decide⟩ dX12_goesRound_44 ?_
  refine s_icmp_eq X (tgt := 50) dX12_goesRound_45 (by decide) ?_ ?_
  · refine s_iinc X (by decide) dX12_goesRound_50 ?_
    refine s_goto X (tgt := 2) dX12_goesRound_53 (by decide) ?_
    exact hJ 2
  · refine s_iconst X ⟨by decide, by decide⟩ dX12_goesRound_48 ?_
    exact s_zret X dX12_goesRound_49
set_option maxRecDepth 100000 in
def b_X12_goesRound_16 (J : Nat → List qV → List qV → qW → Prop) (Q : qR) : qK := x_iload 3 (x_int 8 (x_icmp_ge (b_X12_goesRound_43 J Q) (x_iload 2 (x_int (-1) (x_icmp_eq (b_X12_goesRound_43 J Q) (x_aload 0 (x_get 12 19 (x_int 13 (x_iload 2 (x_iadd (x_iald (x_istore 2 (x_iinc 3 1 (x_cut [0, 1, 2, 3] (J 16)))))))))))))))
set_option maxRecDepth 100000 in
theorem s_X12_goesRound_16 {p : Program} {l : Launch} {e : Env} {R : Room} {s : State} {m : MethodId} {args : Array Value} {below : List Frame} {meth : Method} {c : Code} {nW : Nat} {dC : Nat → ClassId} {dI : Nat → Nat → Nat} {k : Nat → ClassId} {g : Nat → Nat} {A : Nat → Prop} {J : Nat → List qV → List qV → qW → Prop} {Q : qR} (X : q_X p R s m args meth c cX12_goesRound 4 nW 0 0 RX12 (some .boolean) dC dI k g A) (hJ : ∀ d : Nat, q_Sd p l e R s m args below meth c 4 nW dC dI k g A (MQ below (q_post (dC, dI) k g nW Q A) args s 0 0 A) d (x_cut (is_X12_goesRound d) (J d))) : q_Sd p l e R s m args below meth c 4 nW dC dI k g A (MQ below (q_post (dC, dI) k g nW Q A) args s 0 0 A) 16 (b_X12_goesRound_16 J Q) := by
  unfold b_X12_goesRound_16
  refine s_iload_n X rfl dX12_goesRound_16 ?_
  refine s_bipush X ⟨by decide, by decide⟩ (by decide) dX12_goesRound_17 ?_
  refine s_icmp_ge X (tgt := 43) dX12_goesRound_19 (by decide) ?_ ?_
  · exact s_X12_goesRound_43 X hJ
  · refine s_iload_n X rfl dX12_goesRound_22 ?_
    refine s_iconst X ⟨by decide, by decide⟩ dX12_goesRound_23 ?_
    refine s_icmp_eq X (tgt := 43) dX12_goesRound_24 (by decide) ?_ ?_
    · exact s_X12_goesRound_43 X hJ
    · refine s_aload_n X rfl dX12_goesRound_27 ?_
      refine s_get X (T := TX12) (C := RX12) (N := 45) tu_X12 rfl (by decide) tw_1016 dX12_goesRound_28 ?_
      refine s_bipush X ⟨by decide, by decide⟩ (by decide) dX12_goesRound_31 ?_
      refine s_iload_n X rfl dX12_goesRound_33 ?_
      refine s_iadd X dX12_goesRound_34 ?_
      refine s_iald X dX12_goesRound_35 ?_
      refine s_istore_n X rfl (by decide) dX12_goesRound_36 ?_
      refine s_iinc X (by decide) dX12_goesRound_37 ?_
      refine s_goto X (tgt := 16) dX12_goesRound_40 (by decide) ?_
      exact hJ 16
set_option maxRecDepth 100000 in
def b_X12_goesRound_2 (J : Nat → List qV → List qV → qW → Prop) (Q : qR) : qK := x_iload 1 (x_aload 0 (x_get 12 19 (x_int 0 (x_iald (x_icmp_ge (x_int 0 (x_zret Q)) (x_iload 1 (x_istore 2 (x_int 0 (x_istore 3 (x_cut [0, 1, 2, 3] (J 16)))))))))))
set_option maxRecDepth 100000 in
theorem s_X12_goesRound_2 {p : Program} {l : Launch} {e : Env} {R : Room} {s : State} {m : MethodId} {args : Array Value} {below : List Frame} {meth : Method} {c : Code} {nW : Nat} {dC : Nat → ClassId} {dI : Nat → Nat → Nat} {k : Nat → ClassId} {g : Nat → Nat} {A : Nat → Prop} {J : Nat → List qV → List qV → qW → Prop} {Q : qR} (X : q_X p R s m args meth c cX12_goesRound 4 nW 0 0 RX12 (some .boolean) dC dI k g A) (hJ : ∀ d : Nat, q_Sd p l e R s m args below meth c 4 nW dC dI k g A (MQ below (q_post (dC, dI) k g nW Q A) args s 0 0 A) d (x_cut (is_X12_goesRound d) (J d))) : q_Sd p l e R s m args below meth c 4 nW dC dI k g A (MQ below (q_post (dC, dI) k g nW Q A) args s 0 0 A) 2 (b_X12_goesRound_2 J Q) := by
  unfold b_X12_goesRound_2
  refine s_iload_n X rfl dX12_goesRound_2 ?_
  refine s_aload_n X rfl dX12_goesRound_3 ?_
  refine s_get X (T := TX12) (C := RX12) (N := 45) tu_X12 rfl (by decide) tw_1016 dX12_goesRound_4 ?_
  refine s_iconst X ⟨by decide, by decide⟩ dX12_goesRound_7 ?_
  refine s_iald X dX12_goesRound_8 ?_
  refine s_icmp_ge X (tgt := 56) dX12_goesRound_9 (by decide) ?_ ?_
  · refine s_iconst X ⟨by decide, by decide⟩ dX12_goesRound_56 ?_
    exact s_zret X dX12_goesRound_57
  · refine s_iload_n X rfl dX12_goesRound_12 ?_
    refine s_istore_n X rfl (by decide) dX12_goesRound_13 ?_
    refine s_iconst X ⟨by decide, by decide⟩ dX12_goesRound_14 ?_
    refine s_istore_n X rfl (by decide) dX12_goesRound_15 ?_
    exact hJ 16
set_option maxRecDepth 100000 in
def b_X12_goesRound_0 (J : Nat → List qV → List qV → qW → Prop) (Q : qR) : qK := x_int 0 (x_istore 1 (x_cut [0, 1] (J 2)))
set_option maxRecDepth 100000 in
theorem s_X12_goesRound_0 {p : Program} {l : Launch} {e : Env} {R : Room} {s : State} {m : MethodId} {args : Array Value} {below : List Frame} {meth : Method} {c : Code} {nW : Nat} {dC : Nat → ClassId} {dI : Nat → Nat → Nat} {k : Nat → ClassId} {g : Nat → Nat} {A : Nat → Prop} {J : Nat → List qV → List qV → qW → Prop} {Q : qR} (X : q_X p R s m args meth c cX12_goesRound 4 nW 0 0 RX12 (some .boolean) dC dI k g A) (hJ : ∀ d : Nat, q_Sd p l e R s m args below meth c 4 nW dC dI k g A (MQ below (q_post (dC, dI) k g nW Q A) args s 0 0 A) d (x_cut (is_X12_goesRound d) (J d))) : q_Sd p l e R s m args below meth c 4 nW dC dI k g A (MQ below (q_post (dC, dI) k g nW Q A) args s 0 0 A) 0 (b_X12_goesRound_0 J Q) := by
  unfold b_X12_goesRound_0
  refine s_iconst X ⟨by decide, by decide⟩ dX12_goesRound_0 ?_
  refine s_istore_n X rfl (by decide) dX12_goesRound_1 ?_
  exact hJ 2

def spr_X12_goesRound : List qV → qW → (Option qV → Prop) → Prop := fun av w Q => ∃ (mco : Int) (mre : Int) (mle : Int) (mbe : Int) (mso : Int) (mva : Int) (mwo : Int) (mwr : Int) (mlf : Int) (mlp : Int) (mfp : Int) (mfd : Int) (mgo : Int) (mbo : Int) (mpe : Int) (mye : Int) (mpr : Int) (mld : Int) (msi : Int) (mse : Int) (td : Nat → Int), av = [q2 0] ∧ w = [.inr (12, [q1 mco, q2 2, q2 3, q2 4, q2 5, q2 6, q2 7, q2 8, q2 9, q2 10, q1 mre, q1 mle, q1 mbe, q1 mso, q1 mva, q3 mwo, q1 mwr, q1 mlf, q1 mlp, q2 1, q2 11, q1 mfp, q1 mfd, q1 mgo, q1 mbo, q1 mpe, q1 mye, q2 12, q1 mpr, q2 13, q2 14, q2 15, q2 16, q1 mld, q2 17, q1 msi, q2 18, q2 19, q2 20, q2 21, q2 22, q1 mse, q2 23, q2 24, q2 25]), .inl (0, 161, .inl td)] ∧ (BT td 0) ∧ (∀ (r : Int) , ((r = 0 ∨ r = 1) ∧ (r = 0 → AC td 0)) → Q (some (q1 r)))
def sp_X12_goesRound : qS := fun av w Q => spr_X12_goesRound av w (fun r => Q r w)
def I_X12_goesRound (mco : Int) (mre : Int) (mle : Int) (mbe : Int) (mso : Int) (mva : Int) (mwo : Int) (mwr : Int) (mlf : Int) (mlp : Int) (mfp : Int) (mfd : Int) (mgo : Int) (mbo : Int) (mpe : Int) (mye : Int) (mpr : Int) (mld : Int) (msi : Int) (mse : Int) (td : Nat → Int) : Nat → Nat → List qV → List qV → qW → Prop := fun dz mz vz sz wz => if dz = 2 then (∃ (v1 : Int), vz = [q2 0, q1 v1] ∧ sz = [] ∧ wz = [.inr (12, [q1 mco, q2 2, q2 3, q2 4, q2 5, q2 6, q2 7, q2 8, q2 9, q2 10, q1 mre, q1 mle, q1 mbe, q1 mso, q1 mva, q3 mwo, q1 mwr, q1 mlf, q1 mlp, q2 1, q2 11, q1 mfp, q1 mfd, q1 mgo, q1 mbo, q1 mpe, q1 mye, q2 12, q1 mpr, q2 13, q2 14, q2 15, q2 16, q1 mld, q2 17, q1 msi, q2 18, q2 19, q2 20, q2 21, q2 22, q1 mse, q2 23, q2 24, q2 25]), .inl (0, 161, .inl td)] ∧ mz = 100 * (8 - v1).toNat ∧ (0 ≤ v1 ∧ v1 ≤ td 0) ∧ (∀ p : Nat, (p : Int) < v1 → pch td 0 8 p = -1)) else if dz = 16 then (∃ (v1 : Int) (v2 : Int) (v3 : Int), vz = [q2 0, q1 v1, q1 v2, q1 v3] ∧ sz = [] ∧ wz = [.inr (12, [q1 mco, q2 2, q2 3, q2 4, q2 5, q2 6, q2 7, q2 8, q2 9, q2 10, q1 mre, q1 mle, q1 mbe, q1 mso, q1 mva, q3 mwo, q1 mwr, q1 mlf, q1 mlp, q2 1, q2 11, q1 mfp, q1 mfd, q1 mgo, q1 mbo, q1 mpe, q1 mye, q2 12, q1 mpr, q2 13, q2 14, q2 15, q2 16, q1 mld, q2 17, q1 msi, q2 18, q2 19, q2 20, q2 21, q2 22, q1 mse, q2 23, q2 24, q2 25]), .inl (0, 161, .inl td)] ∧ mz = 100 * (8 - v1).toNat - 50 + (8 - v3).toNat ∧ (0 ≤ v1 ∧ v1 < td 0 ∧ 0 ≤ v3 ∧ v3 ≤ 8) ∧ (v2 = pch td 0 v3.toNat v1) ∧ (∀ p : Nat, (p : Int) < v1 → pch td 0 8 p = -1)) else False
set_option maxHeartbeats 4000000 in
set_option maxRecDepth 100000 in
theorem m_X12_goesRound (l : Launch) : q_M l yX12_goesRound cX12_goesRound 4 (some .boolean) 0 0 sp_X12_goesRound := by
  refine q_meth (by decide) (fun av w Q h => by obtain ⟨mco, mre, mle, mbe, mso, mva, mwo, mwr, mlf, mlp, mfp, mfd, mgo, mbo, mpe, mye, mpr, mld, msi, mse, td, rfl, rfl, hbt, hQ⟩ := h; exact Nat.le_of_ble_eq_true rfl) ?_
  intro p e R s m args below meth c dC dI k g A av w Q hsp oka okw X
  obtain ⟨mco, mre, mle, mbe, mso, mva, mwo, mwr, mlf, mlp, mfp, mfd, mgo, mbo, mpe, mye, mpr, mld, msi, mse, td, rfl, rfl, hbt, hQ⟩ := hsp
  refine s_mono (s_X12_goesRound_0 X (J := fun dz vz sz wz => ∃ mz, I_X12_goesRound mco mre mle mbe mso mva mwo mwr mlf mlp mfp mfd mgo mbo mpe mye mpr mld msi mse td dz mz vz sz wz) (q_loopn (I_X12_goesRound mco mre mle mbe mso mva mwo mwr mlf mlp mfp mfd mgo mbo mpe mye mpr mld msi mse td) (fun dz J => if dz = 2 then b_X12_goesRound_2 J Q else if dz = 16 then b_X12_goesRound_16 J Q else q_F) ?hs ?hv)) ?_
  case hs =>
    intro d J hJ
    by_cases h2 : d = 2
    · subst h2; exact s_X12_goesRound_2 X hJ
    by_cases h16 : d = 16
    · subst h16; exact s_X12_goesRound_16 X hJ
    simp only [h2, h16, if_false]
    exact s_F
  case hv =>
    intro dz mz vz sz wz hI okv oks okw hlen
    by_cases h2 : dz = 2
    · subst h2
      obtain ⟨v1, rfl, rfl, rfl, hn, hp, hq⟩ := hI
      have c8 := hbt.1
      apply And.intro
      · exact ⟨by omega, by omega⟩
      intro z8 h8
      have b8 : z8 = td 0 := h8
      have c8 := hbt.1
      apply And.intro
      · intro h9
        apply And.intro
        · first | exact Or.inl rfl | exact Or.inr rfl | omega
        exact hQ _ ⟨by omega, (by first | (intro e9; exfalso; omega) | exact fun _ p hp9 => hq p (by omega))⟩
      · intro h9
        exact ⟨_, ⟨_, _, _, rfl, rfl, rfl, rfl, (by first | omega | assumption | exact q_rg_up (by assumption) (by omega) | exact q_rg_up (q_rg_up (by assumption) (by omega)) (by omega) | exact q_rg_cpy (by assumption) (by assumption)), (by first | exact gr_s ho (by omega) (by omega) (by omega) h35 (by omega) (by omega) | rfl), (by first | omega | assumption | exact q_rg_up (by assumption) (by omega) | exact q_rg_up (q_rg_up (by assumption) (by omega)) (by omega) | exact q_rg_cpy (by assumption) (by assumption))⟩, by omega⟩
    by_cases h16 : dz = 16
    · subst h16
      obtain ⟨v1, v2, v3, rfl, rfl, rfl, hn, hp, ho, hq⟩ := hI
      have c8 := hbt.1
      have d9 := pch_rg (b := 0) hbt.2.2.2.1 (o := v1) (by omega) v3.toNat
      rw [← ho] at d9
      apply And.intro
      · intro h19
        apply And.intro
        · intro h45
          intro z50 h50
          first | replace h50 := e_add h50 (by omega) | replace h50 := e_rng h50
          exact ⟨_, ⟨_, rfl, rfl, rfl, rfl, (by first | omega | assumption | exact q_rg_up (by assumption) (by omega) | exact q_rg_up (q_rg_up (by assumption) (by omega)) (by omega) | exact q_rg_cpy (by assumption) (by assumption)), (by first | exact gr_q hq ho (by omega) (by omega) (by omega) (by omega) | (intro p hp9; exfalso; omega))⟩, by omega⟩
        · intro h45
          apply And.intro
          · first | exact Or.inl rfl | exact Or.inr rfl | omega
          exact hQ _ ⟨by omega, (by first | (intro e9; exfalso; omega) | exact fun _ p hp9 => hq p (by omega))⟩
      · intro h19
        apply And.intro
        · intro h24
          apply And.intro
          · intro h45
            intro z50 h50
            first | replace h50 := e_add h50 (by omega) | replace h50 := e_rng h50
            exact ⟨_, ⟨_, rfl, rfl, rfl, rfl, (by first | omega | assumption | exact q_rg_up (by assumption) (by omega) | exact q_rg_up (q_rg_up (by assumption) (by omega)) (by omega) | exact q_rg_cpy (by assumption) (by assumption)), (by first | exact gr_q hq ho (by omega) (by omega) (by omega) (by omega) | (intro p hp9; exfalso; omega))⟩, by omega⟩
          · intro h45
            apply And.intro
            · first | exact Or.inl rfl | exact Or.inr rfl | omega
            exact hQ _ ⟨by omega, (by first | (intro e9; exfalso; omega) | exact fun _ p hp9 => hq p (by omega))⟩
        · intro h24
          intro z34 h34
          first | replace h34 := e_add h34 (by omega) | replace h34 := e_rng h34
          apply And.intro
          · exact ⟨by omega, by omega⟩
          intro z35 h35
          intro z37 h37
          first | replace h37 := e_add h37 (by omega) | replace h37 := e_rng h37
          exact ⟨_, ⟨_, _, _, rfl, rfl, rfl, rfl, (by first | omega | assumption | exact q_rg_up (by assumption) (by omega) | exact q_rg_up (q_rg_up (by assumption) (by omega)) (by omega) | exact q_rg_cpy (by assumption) (by assumption)), (by first | exact gr_s ho (by omega) (by omega) (by omega) h35 (by omega) (by omega) | rfl), (by first | omega | assumption | exact q_rg_up (by assumption) (by omega) | exact q_rg_up (q_rg_up (by assumption) (by omega)) (by omega) | exact q_rg_cpy (by assumption) (by assumption))⟩, by omega⟩
    simp only [I_X12_goesRound, h2, h16, if_false] at hI
  rintro lv st w' ⟨rfl, rfl, rfl⟩
  have c8 := hbt.1
  exact ⟨_, _, rfl, rfl, rfl, rfl, (by first | omega | assumption | exact q_rg_up (by assumption) (by omega) | exact q_rg_up (q_rg_up (by assumption) (by omega)) (by omega) | exact q_rg_cpy (by assumption) (by assumption)), (by first | exact gr_q hq ho (by omega) (by omega) (by omega) (by omega) | (intro p hp9; exfalso; omega))⟩

theorem dX12_atEnd_0 : decode cX12_atEnd 0 = .ok (.aload_n 0, 1) := by decide +kernel
theorem dX12_atEnd_1 : decode cX12_atEnd 1 = .ok (.getfield 159, 3) := by decide +kernel
theorem dX12_atEnd_4 : decode cX12_atEnd 4 = .ok (.aload_n 0, 1) := by decide +kernel
theorem dX12_atEnd_5 : decode cX12_atEnd 5 = .ok (.getfield 38, 3) := by decide +kernel
theorem dX12_atEnd_8 : decode cX12_atEnd 8 = .ok (.iconst 0, 1) := by decide +kernel
theorem dX12_atEnd_9 : decode cX12_atEnd 9 = .ok (.iaload, 1) := by decide +kernel
theorem dX12_atEnd_10 : decode cX12_atEnd 10 = .ok (.if_icmp .lt 15, 3) := by decide +kernel
theorem dX12_atEnd_13 : decode cX12_atEnd 13 = .ok (.aload_n 0, 1) := by decide +kernel
theorem dX12_atEnd_14 : decode cX12_atEnd 14 = .ok (.iconst 4, 1) := by decide +kernel
theorem dX12_atEnd_15 : decode cX12_atEnd 15 = .ok (.aload_n 0, 1) := by decide +kernel
theorem dX12_atEnd_16 : decode cX12_atEnd 16 = .ok (.getfield 118, 3) := by decide +kernel
theorem dX12_atEnd_19 : decode cX12_atEnd 19 = .ok (.invokevirtual 144, 3) := by decide +kernel
theorem dX12_atEnd_22 : decode cX12_atEnd 22 = .ok (.goto 45, 3) := by decide +kernel
theorem dX12_atEnd_25 : decode cX12_atEnd 25 = .ok (.aload_n 0, 1) := by decide +kernel
theorem dX12_atEnd_26 : decode cX12_atEnd 26 = .ok (.getfield 180, 3) := by decide +kernel
theorem dX12_atEnd_29 : decode cX12_atEnd 29 = .ok (.aload_n 0, 1) := by decide +kernel
theorem dX12_atEnd_30 : decode cX12_atEnd 30 = .ok (.getfield 38, 3) := by decide +kernel
theorem dX12_atEnd_33 : decode cX12_atEnd 33 = .ok (.iconst 3, 1) := by decide +kernel
theorem dX12_atEnd_34 : decode cX12_atEnd 34 = .ok (.iaload, 1) := by decide +kernel
theorem dX12_atEnd_35 : decode cX12_atEnd 35 = .ok (.if_icmp .lt 15, 3) := by decide +kernel
theorem dX12_atEnd_38 : decode cX12_atEnd 38 = .ok (.aload_n 0, 1) := by decide +kernel
theorem dX12_atEnd_39 : decode cX12_atEnd 39 = .ok (.iconst 5, 1) := by decide +kernel
theorem dX12_atEnd_40 : decode cX12_atEnd 40 = .ok (.aload_n 0, 1) := by decide +kernel
theorem dX12_atEnd_41 : decode cX12_atEnd 41 = .ok (.getfield 118, 3) := by decide +kernel
theorem dX12_atEnd_44 : decode cX12_atEnd 44 = .ok (.invokevirtual 144, 3) := by decide +kernel
theorem dX12_atEnd_47 : decode cX12_atEnd 47 = .ok (.goto 20, 3) := by decide +kernel
theorem dX12_atEnd_50 : decode cX12_atEnd 50 = .ok (.aload_n 0, 1) := by decide +kernel
theorem dX12_atEnd_51 : decode cX12_atEnd 51 = .ok (.invokevirtual 271, 3) := by decide +kernel
theorem dX12_atEnd_54 : decode cX12_atEnd 54 = .ok (.ifCond .eq 13, 3) := by decide +kernel
theorem dX12_atEnd_57 : decode cX12_atEnd 57 = .ok (.aload_n 0, 1) := by decide +kernel
theorem dX12_atEnd_58 : decode cX12_atEnd 58 = .ok (.bipush 6, 2) := by decide +kernel
theorem dX12_atEnd_60 : decode cX12_atEnd 60 = .ok (.aload_n 0, 1) := by decide +kernel
theorem dX12_atEnd_61 : decode cX12_atEnd 61 = .ok (.getfield 118, 3) := by decide +kernel
theorem dX12_atEnd_64 : decode cX12_atEnd 64 = .ok (.invokevirtual 144, 3) := by decide +kernel
theorem dX12_atEnd_67 : decode cX12_atEnd 67 = .ok (.return_, 1) := by decide +kernel
def is_X12_atEnd : Nat → List Nat := fun d => []
set_option maxRecDepth 100000 in
def b_X12_atEnd_67 (J : Nat → List qV → List qV → qW → Prop) (Q : qR) : qK := x_vret Q
set_option maxRecDepth 100000 in
theorem s_X12_atEnd_67 {p : Program} {l : Launch} {e : Env} {R : Room} {s : State} {m : MethodId} {args : Array Value} {below : List Frame} {meth : Method} {c : Code} {nW : Nat} {dC : Nat → ClassId} {dI : Nat → Nat → Nat} {k : Nat → ClassId} {g : Nat → Nat} {A : Nat → Prop} {J : Nat → List qV → List qV → qW → Prop} {Q : qR} (X : q_X p R s m args meth c cX12_atEnd 1 nW 1 23 RX12 none dC dI k g A) (hJ : ∀ d : Nat, q_Sd p l e R s m args below meth c 1 nW dC dI k g A (MQ below (q_post (dC, dI) k g nW Q A) args s 0 0 A) d (x_cut (is_X12_atEnd d) (J d))) : q_Sd p l e R s m args below meth c 1 nW dC dI k g A (MQ below (q_post (dC, dI) k g nW Q A) args s 0 0 A) 67 (b_X12_atEnd_67 J Q) := by
  unfold b_X12_atEnd_67
  exact s_vret X dX12_atEnd_67
set_option maxRecDepth 100000 in
def b_X12_atEnd_44 (J : Nat → List qV → List qV → qW → Prop) (Q : qR) : qK := x_call (some 12) 3 sp_X12_later (x_nw (b_X12_atEnd_67 J Q))
set_option maxRecDepth 100000 in
theorem s_X12_atEnd_44 {p : Program} {l : Launch} {e : Env} {R : Room} {s : State} {m : MethodId} {args : Array Value} {below : List Frame} {meth : Method} {c : Code} {nW : Nat} {dC : Nat → ClassId} {dI : Nat → Nat → Nat} {k : Nat → ClassId} {g : Nat → Nat} {A : Nat → Prop} {J : Nat → List qV → List qV → qW → Prop} {Q : qR} (X : q_X p R s m args meth c cX12_atEnd 1 nW 1 23 RX12 none dC dI k g A) (hJ : ∀ d : Nat, q_Sd p l e R s m args below meth c 1 nW dC dI k g A (MQ below (q_post (dC, dI) k g nW Q A) args s 0 0 A) d (x_cut (is_X12_atEnd d) (J d))) : q_Sd p l e R s m args below meth c 1 nW dC dI k g A (MQ below (q_post (dC, dI) k g nW Q A) args s 0 0 A) 44 (b_X12_atEnd_44 J Q) := by
  unfold b_X12_atEnd_44
  refine s_callV X (m_X12_later l) tw_1091 tw_1092 tw_1594 tw_134 tw_1093 rfl (by decide +kernel) ⟨by decide, by decide⟩ dX12_atEnd_44 ?_
  refine s_nw ?_
  refine s_goto X (tgt := 67) dX12_atEnd_47 (by decide) ?_
  exact s_X12_atEnd_67 X hJ
set_option maxRecDepth 100000 in
def b_X12_atEnd_0 (J : Nat → List qV → List qV → qW → Prop) (Q : qR) : qK := x_aload 0 (x_get 12 21 (x_aload 0 (x_get 12 19 (x_int 0 (x_iald (x_icmp_lt (x_aload 0 (x_get 12 22 (x_aload 0 (x_get 12 19 (x_int 3 (x_iald (x_icmp_lt (x_aload 0 (x_callr (some 12) 1 spr_X12_goesRound (x_if_eq (b_X12_atEnd_67 J Q) (x_aload 0 (x_int 6 (x_aload 0 (x_get 12 12 (x_call (some 12) 3 sp_X12_later (x_nw (b_X12_atEnd_67 J Q)))))))))) (x_aload 0 (x_int 5 (x_aload 0 (x_get 12 12 (b_X12_atEnd_44 J Q)))))))))))) (x_aload 0 (x_int 4 (x_aload 0 (x_get 12 12 (x_call (some 12) 3 sp_X12_later (x_nw (b_X12_atEnd_67 J Q)))))))))))))
set_option maxRecDepth 100000 in
theorem s_X12_atEnd_0 {p : Program} {l : Launch} {e : Env} {R : Room} {s : State} {m : MethodId} {args : Array Value} {below : List Frame} {meth : Method} {c : Code} {nW : Nat} {dC : Nat → ClassId} {dI : Nat → Nat → Nat} {k : Nat → ClassId} {g : Nat → Nat} {A : Nat → Prop} {J : Nat → List qV → List qV → qW → Prop} {Q : qR} (X : q_X p R s m args meth c cX12_atEnd 1 nW 1 23 RX12 none dC dI k g A) (hJ : ∀ d : Nat, q_Sd p l e R s m args below meth c 1 nW dC dI k g A (MQ below (q_post (dC, dI) k g nW Q A) args s 0 0 A) d (x_cut (is_X12_atEnd d) (J d))) : q_Sd p l e R s m args below meth c 1 nW dC dI k g A (MQ below (q_post (dC, dI) k g nW Q A) args s 0 0 A) 0 (b_X12_atEnd_0 J Q) := by
  unfold b_X12_atEnd_0
  refine s_aload_n X rfl dX12_atEnd_0 ?_
  refine s_get X (T := TX12) (C := RX12) (N := 45) tu_X12 rfl (by decide) tw_1018 dX12_atEnd_1 ?_
  refine s_aload_n X rfl dX12_atEnd_4 ?_
  refine s_get X (T := TX12) (C := RX12) (N := 45) tu_X12 rfl (by decide) tw_1016 dX12_atEnd_5 ?_
  refine s_iconst X ⟨by decide, by decide⟩ dX12_atEnd_8 ?_
  refine s_iald X dX12_atEnd_9 ?_
  refine s_icmp_lt X (tgt := 25) dX12_atEnd_10 (by decide) ?_ ?_
  · refine s_aload_n X rfl dX12_atEnd_25 ?_
    refine s_get X (T := TX12) (C := RX12) (N := 45) tu_X12 rfl (by decide) tw_1019 dX12_atEnd_26 ?_
    refine s_aload_n X rfl dX12_atEnd_29 ?_
    refine s_get X (T := TX12) (C := RX12) (N := 45) tu_X12 rfl (by decide) tw_1016 dX12_atEnd_30 ?_
    refine s_iconst X ⟨by decide, by decide⟩ dX12_atEnd_33 ?_
    refine s_iald X dX12_atEnd_34 ?_
    refine s_icmp_lt X (tgt := 50) dX12_atEnd_35 (by decide) ?_ ?_
    · refine s_aload_n X rfl dX12_atEnd_50 ?_
      refine s_callVr X (m_X12_goesRound l) tw_1169 tw_1170 tw_1582 tw_134 tw_1171 rfl (by decide +kernel) ⟨by decide, by decide⟩ dX12_atEnd_51 ?_
      refine s_if_eq X (tgt := 67) dX12_atEnd_54 (by decide) ?_ ?_
      · exact s_X12_atEnd_67 X hJ
      · refine s_aload_n X rfl dX12_atEnd_57 ?_
        refine s_bipush X ⟨by decide, by decide⟩ (by decide) dX12_atEnd_58 ?_
        refine s_aload_n X rfl dX12_atEnd_60 ?_
        refine s_get X (T := TX12) (C := RX12) (N := 45) tu_X12 rfl (by decide) tw_1009 dX12_atEnd_61 ?_
        refine s_callV X (m_X12_later l) tw_1091 tw_1092 tw_1594 tw_134 tw_1093 rfl (by decide +kernel) ⟨by decide, by decide⟩ dX12_atEnd_64 ?_
        refine s_nw ?_
        exact s_X12_atEnd_67 X hJ
    · refine s_aload_n X rfl dX12_atEnd_38 ?_
      refine s_iconst X ⟨by decide, by decide⟩ dX12_atEnd_39 ?_
      refine s_aload_n X rfl dX12_atEnd_40 ?_
      refine s_get X (T := TX12) (C := RX12) (N := 45) tu_X12 rfl (by decide) tw_1009 dX12_atEnd_41 ?_
      exact s_X12_atEnd_44 X hJ
  · refine s_aload_n X rfl dX12_atEnd_13 ?_
    refine s_iconst X ⟨by decide, by decide⟩ dX12_atEnd_14 ?_
    refine s_aload_n X rfl dX12_atEnd_15 ?_
    refine s_get X (T := TX12) (C := RX12) (N := 45) tu_X12 rfl (by decide) tw_1009 dX12_atEnd_16 ?_
    refine s_callV X (m_X12_later l) tw_1091 tw_1092 tw_1594 tw_134 tw_1093 rfl (by decide +kernel) ⟨by decide, by decide⟩ dX12_atEnd_19 ?_
    refine s_nw ?_
    refine s_goto X (tgt := 67) dX12_atEnd_22 (by decide) ?_
    exact s_X12_atEnd_67 X hJ

def sp_X12_atEnd : qS := fun av w Q => ∃ (mco : Int) (mre : Int) (mle : Int) (mbe : Int) (mso : Int) (mva : Int) (mwo : Int) (mwr : Int) (mlf : Int) (mlp : Int) (mfp : Int) (mfd : Int) (mgo : Int) (mbo : Int) (mpe : Int) (mye : Int) (mpr : Int) (mld : Int) (msi : Int) (mse : Int) (td : Nat → Int), av = [q2 0] ∧ w = [.inr (12, [q1 mco, q2 2, q2 3, q2 4, q2 5, q2 6, q2 7, q2 8, q2 9, q2 10, q1 mre, q1 mle, q1 mbe, q1 mso, q1 mva, q3 mwo, q1 mwr, q1 mlf, q1 mlp, q2 1, q2 11, q1 mfp, q1 mfd, q1 mgo, q1 mbo, q1 mpe, q1 mye, q2 12, q1 mpr, q2 13, q2 14, q2 15, q2 16, q1 mld, q2 17, q1 msi, q2 18, q2 19, q2 20, q2 21, q2 22, q1 mse, q2 23, q2 24, q2 25]), .inl (0, 161, .inl td)] ∧ (BT td 0) ∧ (mlf = 0) ∧ (∀ (x_mlf : Int) (x_mlp : Int), (x_mlf = 0 → AC td 0) → Q none ([.inr (12, [q1 mco, q2 2, q2 3, q2 4, q2 5, q2 6, q2 7, q2 8, q2 9, q2 10, q1 mre, q1 mle, q1 mbe, q1 mso, q1 mva, q3 mwo, q1 mwr, q1 x_mlf, q1 x_mlp, q2 1, q2 11, q1 mfp, q1 mfd, q1 mgo, q1 mbo, q1 mpe, q1 mye, q2 12, q1 mpr, q2 13, q2 14, q2 15, q2 16, q1 mld, q2 17, q1 msi, q2 18, q2 19, q2 20, q2 21, q2 22, q1 mse, q2 23, q2 24, q2 25]), .inl (0, 161, .inl td)]))
set_option maxHeartbeats 4000000 in
set_option maxRecDepth 100000 in
theorem m_X12_atEnd (l : Launch) : q_M l yX12_atEnd cX12_atEnd 1 none 1 23 sp_X12_atEnd := by
  refine q_meth (by decide) (fun av w Q h => by obtain ⟨mco, mre, mle, mbe, mso, mva, mwo, mwr, mlf, mlp, mfp, mfd, mgo, mbo, mpe, mye, mpr, mld, msi, mse, td, rfl, rfl, hbt, hlf, hQ⟩ := h; exact Nat.le_of_ble_eq_true rfl) ?_
  intro p e R s m args below meth c dC dI k g A av w Q hsp oka okw X
  obtain ⟨mco, mre, mle, mbe, mso, mva, mwo, mwr, mlf, mlp, mfp, mfd, mgo, mbo, mpe, mye, mpr, mld, msi, mse, td, rfl, rfl, hbt, hlf, hQ⟩ := hsp
  refine s_mono (s_X12_atEnd_0 X (J := fun _ _ _ _ => False) (fun d => s_cutF)) ?_
  rintro lv st w' ⟨rfl, rfl, rfl⟩
  apply And.intro
  · exact ⟨by omega, by omega⟩
  intro z9 h9
  apply And.intro
  · intro h10
    apply And.intro
    · exact ⟨by omega, by omega⟩
    intro z34 h34
    apply And.intro
    · intro h35
      refine Exists.intro [0, 1, 2, 3, 4, 5, 6, 7, 8, 9, 10, 11, 12, 13, 14, 15, 16, 17, 18, 19, 20, 21, 22, 23, 24, 25] (Exists.intro [q2 0] (Exists.intro ([.inr (12, [q1 _, q2 2, q2 3, q2 4, q2 5, q2 6, q2 7, q2 8, q2 9, q2 10, q1 _, q1 _, q1 _, q1 _, q1 _, q3 _, q1 _, q1 _, q1 _, q2 1, q2 11, q1 _, q1 _, q1 _, q1 _, q1 _, q1 _, q2 12, q1 _, q2 13, q2 14, q2 15, q2 16, q1 _, q2 17, q1 _, q2 18, q2 19, q2 20, q2 21, q2 22, q1 _, q2 23, q2 24, q2 25]), .inl (0, 161, .inl _)]) (And.intro rfl (And.intro rfl (And.intro rfl (And.intro ⟨⟨_, rfl⟩, rfl⟩ ?_))))))
      refine Exists.intro _ (Exists.intro _ (Exists.intro _ (Exists.intro _ (Exists.intro _ (Exists.intro _ (Exists.intro _ (Exists.intro _ (Exists.intro _ (Exists.intro _ (Exists.intro _ (Exists.intro _ (Exists.intro _ (Exists.intro _ (Exists.intro _ (Exists.intro _ (Exists.intro _ (Exists.intro _ (Exists.intro _ (Exists.intro _ (Exists.intro _ (And.intro rfl (And.intro rfl (And.intro (by first | omega | assumption | exact q_rg_up (by assumption) (by omega) | exact q_rg_up (q_rg_up (by assumption) (by omega)) (by omega) | exact q_rg_cpy (by assumption) (by assumption)) (?_))))))))))))))))))))))))
      intro z51 h51
      apply And.intro
      · intro h54
        exact hQ _ _ (by first | (intro e9; exfalso; omega) | exact fun _ => h51.2 (by omega))
      · intro h54
        refine Exists.intro [0, 2, 3, 4, 5, 6, 7, 8, 9, 10, 1, 11, 12, 13, 14, 15, 16, 17, 18, 19, 20, 21, 22, 23, 24, 25] (Exists.intro [q2 0, q1 _, q1 _] (Exists.intro ([.inr (12, [q1 _, q2 1, q2 2, q2 3, q2 4, q2 5, q2 6, q2 7, q2 8, q2 9, q1 _, q1 _, q1 _, q1 _, q1 _, q3 _, q1 _, q1 _, q1 _, q2 10, q2 11, q1 _, q1 _, q1 _, q1 _, q1 _, q1 _, q2 12, q1 _, q2 13, q2 14, q2 15, q2 16, q1 _, q2 17, q1 _, q2 18, q2 19, q2 20, q2 21, q2 22, q1 _, q2 23, q2 24, q2 25])]) (And.intro rfl (And.intro rfl (And.intro rfl (And.intro ⟨⟨_, rfl⟩, rfl⟩ ?_))))))
        refine Exists.intro _ (Exists.intro _ (Exists.intro _ (Exists.intro _ (Exists.intro _ (Exists.intro _ (Exists.intro _ (Exists.intro _ (Exists.intro _ (Exists.intro _ (Exists.intro _ (Exists.intro _ (Exists.intro _ (Exists.intro _ (Exists.intro _ (Exists.intro _ (Exists.intro _ (Exists.intro _ (Exists.intro _ (Exists.intro _ (Exists.intro _ (Exists.intro _ (And.intro rfl (And.intro rfl (?_))))))))))))))))))))))))
        intro x_mlf_64 x_mlp_64 h64
        exact hQ _ _ (by first | (intro e9; exfalso; omega) | exact fun _ => h51.2 (by omega))
    · intro h35
      refine Exists.intro [0, 2, 3, 4, 5, 6, 7, 8, 9, 10, 1, 11, 12, 13, 14, 15, 16, 17, 18, 19, 20, 21, 22, 23, 24, 25] (Exists.intro [q2 0, q1 _, q1 _] (Exists.intro ([.inr (12, [q1 _, q2 1, q2 2, q2 3, q2 4, q2 5, q2 6, q2 7, q2 8, q2 9, q1 _, q1 _, q1 _, q1 _, q1 _, q3 _, q1 _, q1 _, q1 _, q2 10, q2 11, q1 _, q1 _, q1 _, q1 _, q1 _, q1 _, q2 12, q1 _, q2 13, q2 14, q2 15, q2 16, q1 _, q2 17, q1 _, q2 18, q2 19, q2 20, q2 21, q2 22, q1 _, q2 23, q2 24, q2 25])]) (And.intro rfl (And.intro rfl (And.intro rfl (And.intro ⟨⟨_, rfl⟩, rfl⟩ ?_))))))
      refine Exists.intro _ (Exists.intro _ (Exists.intro _ (Exists.intro _ (Exists.intro _ (Exists.intro _ (Exists.intro _ (Exists.intro _ (Exists.intro _ (Exists.intro _ (Exists.intro _ (Exists.intro _ (Exists.intro _ (Exists.intro _ (Exists.intro _ (Exists.intro _ (Exists.intro _ (Exists.intro _ (Exists.intro _ (Exists.intro _ (Exists.intro _ (Exists.intro _ (And.intro rfl (And.intro rfl (?_))))))))))))))))))))))))
      intro x_mlf_44 x_mlp_44 h44
      exact hQ _ _ (by first | (intro e9; exfalso; omega) | exact fun _ => h51.2 (by omega))
  · intro h10
    refine Exists.intro [0, 2, 3, 4, 5, 6, 7, 8, 9, 10, 1, 11, 12, 13, 14, 15, 16, 17, 18, 19, 20, 21, 22, 23, 24, 25] (Exists.intro [q2 0, q1 _, q1 _] (Exists.intro ([.inr (12, [q1 _, q2 1, q2 2, q2 3, q2 4, q2 5, q2 6, q2 7, q2 8, q2 9, q1 _, q1 _, q1 _, q1 _, q1 _, q3 _, q1 _, q1 _, q1 _, q2 10, q2 11, q1 _, q1 _, q1 _, q1 _, q1 _, q1 _, q2 12, q1 _, q2 13, q2 14, q2 15, q2 16, q1 _, q2 17, q1 _, q2 18, q2 19, q2 20, q2 21, q2 22, q1 _, q2 23, q2 24, q2 25])]) (And.intro rfl (And.intro rfl (And.intro rfl (And.intro ⟨⟨_, rfl⟩, rfl⟩ ?_))))))
    refine Exists.intro _ (Exists.intro _ (Exists.intro _ (Exists.intro _ (Exists.intro _ (Exists.intro _ (Exists.intro _ (Exists.intro _ (Exists.intro _ (Exists.intro _ (Exists.intro _ (Exists.intro _ (Exists.intro _ (Exists.intro _ (Exists.intro _ (Exists.intro _ (Exists.intro _ (Exists.intro _ (Exists.intro _ (Exists.intro _ (Exists.intro _ (Exists.intro _ (And.intro rfl (And.intro rfl (?_))))))))))))))))))))))))
    intro x_mlf_19 x_mlp_19 h19
    exact hQ _ _ (by first | (intro e9; exfalso; omega) | exact fun _ => h51.2 (by omega))

theorem dX12_readText_0 : decode cX12_readText 0 = .ok (.aload_n 0, 1) := by decide +kernel
theorem dX12_readText_1 : decode cX12_readText 1 = .ok (.iload_n 1, 1) := by decide +kernel
theorem dX12_readText_2 : decode cX12_readText 2 = .ok (.invokevirtual 274, 3) := by decide +kernel
theorem dX12_readText_5 : decode cX12_readText 5 = .ok (.aload_n 0, 1) := by decide +kernel
theorem dX12_readText_6 : decode cX12_readText 6 = .ok (.iconst (-1), 1) := by decide +kernel
theorem dX12_readText_7 : decode cX12_readText 7 = .ok (.putfield 159, 3) := by decide +kernel
theorem dX12_readText_10 : decode cX12_readText 10 = .ok (.aload_n 0, 1) := by decide +kernel
theorem dX12_readText_11 : decode cX12_readText 11 = .ok (.iconst (-1), 1) := by decide +kernel
theorem dX12_readText_12 : decode cX12_readText 12 = .ok (.putfield 180, 3) := by decide +kernel
theorem dX12_readText_15 : decode cX12_readText 15 = .ok (.aload_n 0, 1) := by decide +kernel
theorem dX12_readText_16 : decode cX12_readText 16 = .ok (.iconst 0, 1) := by decide +kernel
theorem dX12_readText_17 : decode cX12_readText 17 = .ok (.putfield 108, 3) := by decide +kernel
theorem dX12_readText_20 : decode cX12_readText 20 = .ok (.aload_n 0, 1) := by decide +kernel
theorem dX12_readText_21 : decode cX12_readText 21 = .ok (.iconst 0, 1) := by decide +kernel
theorem dX12_readText_22 : decode cX12_readText 22 = .ok (.putfield 134, 3) := by decide +kernel
theorem dX12_readText_25 : decode cX12_readText 25 = .ok (.aload_n 0, 1) := by decide +kernel
theorem dX12_readText_26 : decode cX12_readText 26 = .ok (.invokevirtual 152, 3) := by decide +kernel
theorem dX12_readText_29 : decode cX12_readText 29 = .ok (.aload_n 0, 1) := by decide +kernel
theorem dX12_readText_30 : decode cX12_readText 30 = .ok (.iload_n 1, 1) := by decide +kernel
theorem dX12_readText_31 : decode cX12_readText 31 = .ok (.invokevirtual 277, 3) := by decide +kernel
theorem dX12_readText_34 : decode cX12_readText 34 = .ok (.istore_n 2, 1) := by decide +kernel
theorem dX12_readText_35 : decode cX12_readText 35 = .ok (.iload_n 2, 1) := by decide +kernel
theorem dX12_readText_36 : decode cX12_readText 36 = .ok (.ifCond .eq 18, 3) := by decide +kernel
theorem dX12_readText_39 : decode cX12_readText 39 = .ok (.iload_n 1, 1) := by decide +kernel
theorem dX12_readText_40 : decode cX12_readText 40 = .ok (.ifCond .ne 14, 3) := by decide +kernel
theorem dX12_readText_43 : decode cX12_readText 43 = .ok (.aload_n 0, 1) := by decide +kernel
theorem dX12_readText_44 : decode cX12_readText 44 = .ok (.getfield 134, 3) := by decide +kernel
theorem dX12_readText_47 : decode cX12_readText 47 = .ok (.ifCond .ne 7, 3) := by decide +kernel
theorem dX12_readText_50 : decode cX12_readText 50 = .ok (.aload_n 0, 1) := by decide +kernel
theorem dX12_readText_51 : decode cX12_readText 51 = .ok (.invokevirtual 280, 3) := by decide +kernel
theorem dX12_readText_54 : decode cX12_readText 54 = .ok (.aload_n 0, 1) := by decide +kernel
theorem dX12_readText_55 : decode cX12_readText 55 = .ok (.getfield 17, 3) := by decide +kernel
theorem dX12_readText_58 : decode cX12_readText 58 = .ok (.iconst 0, 1) := by decide +kernel
theorem dX12_readText_59 : decode cX12_readText 59 = .ok (.iload_n 2, 1) := by decide +kernel
theorem dX12_readText_60 : decode cX12_readText 60 = .ok (.ifCond .eq 10, 3) := by decide +kernel
theorem dX12_readText_63 : decode cX12_readText 63 = .ok (.aload_n 0, 1) := by decide +kernel
theorem dX12_readText_64 : decode cX12_readText 64 = .ok (.getfield 134, 3) := by decide +kernel
theorem dX12_readText_67 : decode cX12_readText 67 = .ok (.goto 4, 3) := by decide +kernel
theorem dX12_readText_70 : decode cX12_readText 70 = .ok (.iconst 1, 1) := by decide +kernel
theorem dX12_readText_71 : decode cX12_readText 71 = .ok (.iastore, 1) := by decide +kernel
theorem dX12_readText_72 : decode cX12_readText 72 = .ok (.aload_n 0, 1) := by decide +kernel
theorem dX12_readText_73 : decode cX12_readText 73 = .ok (.getfield 20, 3) := by decide +kernel
theorem dX12_readText_76 : decode cX12_readText 76 = .ok (.iconst 0, 1) := by decide +kernel
theorem dX12_readText_77 : decode cX12_readText 77 = .ok (.iload_n 2, 1) := by decide +kernel
theorem dX12_readText_78 : decode cX12_readText 78 = .ok (.ifCond .ne 10, 3) := by decide +kernel
theorem dX12_readText_81 : decode cX12_readText 81 = .ok (.aload_n 0, 1) := by decide +kernel
theorem dX12_readText_82 : decode cX12_readText 82 = .ok (.getfield 131, 3) := by decide +kernel
theorem dX12_readText_85 : decode cX12_readText 85 = .ok (.goto 18, 3) := by decide +kernel
theorem dX12_readText_88 : decode cX12_readText 88 = .ok (.aload_n 0, 1) := by decide +kernel
theorem dX12_readText_89 : decode cX12_readText 89 = .ok (.getfield 134, 3) := by decide +kernel
theorem dX12_readText_92 : decode cX12_readText 92 = .ok (.ifCond .le 10, 3) := by decide +kernel
theorem dX12_readText_95 : decode cX12_readText 95 = .ok (.aload_n 0, 1) := by decide +kernel
theorem dX12_readText_96 : decode cX12_readText 96 = .ok (.getfield 137, 3) := by decide +kernel
theorem dX12_readText_99 : decode cX12_readText 99 = .ok (.goto 4, 3) := by decide +kernel
theorem dX12_readText_102 : decode cX12_readText 102 = .ok (.iconst (-1), 1) := by decide +kernel
theorem dX12_readText_103 : decode cX12_readText 103 = .ok (.iastore, 1) := by decide +kernel
theorem dX12_readText_104 : decode cX12_readText 104 = .ok (.aload_n 0, 1) := by decide +kernel
theorem dX12_readText_105 : decode cX12_readText 105 = .ok (.getfield 17, 3) := by decide +kernel
theorem dX12_readText_108 : decode cX12_readText 108 = .ok (.iconst 0, 1) := by decide +kernel
theorem dX12_readText_109 : decode cX12_readText 109 = .ok (.iaload, 1) := by decide +kernel
theorem dX12_readText_110 : decode cX12_readText 110 = .ok (.ifCond .ne 7, 3) := by decide +kernel
theorem dX12_readText_113 : decode cX12_readText 113 = .ok (.iconst 1, 1) := by decide +kernel
theorem dX12_readText_114 : decode cX12_readText 114 = .ok (.goto 4, 3) := by decide +kernel
theorem dX12_readText_117 : decode cX12_readText 117 = .ok (.iconst 0, 1) := by decide +kernel
theorem dX12_readText_118 : decode cX12_readText 118 = .ok (.ireturn, 1) := by decide +kernel
def is_X12_readText : Nat → List Nat := fun d => if d = 54 then [0, 2] else []
set_option maxRecDepth 100000 in
def b_X12_readText_118 (J : Nat → List qV → List qV → qW → Prop) (Q : qR) : qK := x_zret Q
set_option maxRecDepth 100000 in
theorem s_X12_readText_118 {p : Program} {l : Launch} {e : Env} {R : Room} {s : State} {m : MethodId} {args : Array Value} {below : List Frame} {meth : Method} {c : Code} {nW : Nat} {dC : Nat → ClassId} {dI : Nat → Nat → Nat} {k : Nat → ClassId} {g : Nat → Nat} {A : Nat → Prop} {J : Nat → List qV → List qV → qW → Prop} {Q : qR} (X : q_X p R s m args meth c cX12_readText 3 nW 8 186 RX12 (some .boolean) dC dI k g A) (hJ : ∀ d : Nat, q_Sd p l e R s m args below meth c 3 nW dC dI k g A (MQ below (q_post (dC, dI) k g nW Q A) args s 0 0 A) d (x_cut (is_X12_readText d) (J d))) : q_Sd p l e R s m args below meth c 3 nW dC dI k g A (MQ below (q_post (dC, dI) k g nW Q A) args s 0 0 A) 118 (b_X12_readText_118 J Q) := by
  unfold b_X12_readText_118
  exact s_zret X dX12_readText_118
set_option maxRecDepth 100000 in
def b_X12_readText_103 (J : Nat → List qV → List qV → qW → Prop) (Q : qR) : qK := x_iast (x_nw (x_aload 0 (x_get 12 3 (x_int 0 (x_iald (x_if_ne (x_int 0 (b_X12_readText_118 J Q)) (x_int 1 (b_X12_readText_118 J Q))))))))
set_option maxRecDepth 100000 in
theorem s_X12_readText_103 {p : Program} {l : Launch} {e : Env} {R : Room} {s : State} {m : MethodId} {args : Array Value} {below : List Frame} {meth : Method} {c : Code} {nW : Nat} {dC : Nat → ClassId} {dI : Nat → Nat → Nat} {k : Nat → ClassId} {g : Nat → Nat} {A : Nat → Prop} {J : Nat → List qV → List qV → qW → Prop} {Q : qR} (X : q_X p R s m args meth c cX12_readText 3 nW 8 186 RX12 (some .boolean) dC dI k g A) (hJ : ∀ d : Nat, q_Sd p l e R s m args below meth c 3 nW dC dI k g A (MQ below (q_post (dC, dI) k g nW Q A) args s 0 0 A) d (x_cut (is_X12_readText d) (J d))) : q_Sd p l e R s m args below meth c 3 nW dC dI k g A (MQ below (q_post (dC, dI) k g nW Q A) args s 0 0 A) 103 (b_X12_readText_103 J Q) := by
  unfold b_X12_readText_103
  refine s_iast X dX12_readText_103 ?_
  refine s_nw ?_
  refine s_aload_n X rfl dX12_readText_104 ?_
  refine s_get X (T := TX12) (C := RX12) (N := 45) tu_X12 rfl (by decide) tw_1000 dX12_readText_105 ?_
  refine s_iconst X ⟨by decide, by decide⟩ dX12_readText_108 ?_
  refine s_iald X dX12_readText_109 ?_
  refine s_if_ne X (tgt := 117) dX12_readText_110 (by decide) ?_ ?_
  · refine s_iconst X ⟨by decide, by decide⟩ dX12_readText_117 ?_
    exact s_X12_readText_118 X hJ
  · refine s_iconst X ⟨by decide, by decide⟩ dX12_readText_113 ?_
    refine s_goto X (tgt := 118) dX12_readText_114 (by decide) ?_
    exact s_X12_readText_118 X hJ
set_option maxRecDepth 100000 in
def b_X12_readText_71 (J : Nat → List qV → List qV → qW → Prop) (Q : qR) : qK := x_iast (x_nw (x_aload 0 (x_get 12 4 (x_int 0 (x_iload 2 (x_if_ne (x_aload 0 (x_get 12 17 (x_if_le (x_int (-1) (b_X12_readText_103 J Q)) (x_aload 0 (x_get 12 18 (b_X12_readText_103 J Q)))))) (x_aload 0 (x_get 12 16 (b_X12_readText_103 J Q)))))))))
set_option maxRecDepth 100000 in
theorem s_X12_readText_71 {p : Program} {l : Launch} {e : Env} {R : Room} {s : State} {m : MethodId} {args : Array Value} {below : List Frame} {meth : Method} {c : Code} {nW : Nat} {dC : Nat → ClassId} {dI : Nat → Nat → Nat} {k : Nat → ClassId} {g : Nat → Nat} {A : Nat → Prop} {J : Nat → List qV → List qV → qW → Prop} {Q : qR} (X : q_X p R s m args meth c cX12_readText 3 nW 8 186 RX12 (some .boolean) dC dI k g A) (hJ : ∀ d : Nat, q_Sd p l e R s m args below meth c 3 nW dC dI k g A (MQ below (q_post (dC, dI) k g nW Q A) args s 0 0 A) d (x_cut (is_X12_readText d) (J d))) : q_Sd p l e R s m args below meth c 3 nW dC dI k g A (MQ below (q_post (dC, dI) k g nW Q A) args s 0 0 A) 71 (b_X12_readText_71 J Q) := by
  unfold b_X12_readText_71
  refine s_iast X dX12_readText_71 ?_
  refine s_nw ?_
  refine s_aload_n X rfl dX12_readText_72 ?_
  refine s_get X (T := TX12) (C := RX12) (N := 45) tu_X12 rfl (by decide) tw_1001 dX12_readText_73 ?_
  refine s_iconst X ⟨by decide, by decide⟩ dX12_readText_76 ?_
  refine s_iload_n X rfl dX12_readText_77 ?_
  refine s_if_ne X (tgt := 88) dX12_readText_78 (by decide) ?_ ?_
  · refine s_aload_n X rfl dX12_readText_88 ?_
    refine s_get X (T := TX12) (C := RX12) (N := 45) tu_X12 rfl (by decide) tw_1014 dX12_readText_89 ?_
    refine s_if_le X (tgt := 102) dX12_readText_92 (by decide) ?_ ?_
    · refine s_iconst X ⟨by decide, by decide⟩ dX12_readText_102 ?_
      exact s_X12_readText_103 X hJ
    · refine s_aload_n X rfl dX12_readText_95 ?_
      refine s_get X (T := TX12) (C := RX12) (N := 45) tu_X12 rfl (by decide) tw_1015 dX12_readText_96 ?_
      refine s_goto X (tgt := 103) dX12_readText_99 (by decide) ?_
      exact s_X12_readText_103 X hJ
  · refine s_aload_n X rfl dX12_readText_81 ?_
    refine s_get X (T := TX12) (C := RX12) (N := 45) tu_X12 rfl (by decide) tw_1013 dX12_readText_82 ?_
    refine s_goto X (tgt := 103) dX12_readText_85 (by decide) ?_
    exact s_X12_readText_103 X hJ
set_option maxRecDepth 100000 in
def b_X12_readText_54 (J : Nat → List qV → List qV → qW → Prop) (Q : qR) : qK := x_aload 0 (x_get 12 3 (x_int 0 (x_iload 2 (x_if_eq (x_int 1 (b_X12_readText_71 J Q)) (x_aload 0 (x_get 12 17 (b_X12_readText_71 J Q)))))))
set_option maxRecDepth 100000 in
theorem s_X12_readText_54 {p : Program} {l : Launch} {e : Env} {R : Room} {s : State} {m : MethodId} {args : Array Value} {below : List Frame} {meth : Method} {c : Code} {nW : Nat} {dC : Nat → ClassId} {dI : Nat → Nat → Nat} {k : Nat → ClassId} {g : Nat → Nat} {A : Nat → Prop} {J : Nat → List qV → List qV → qW → Prop} {Q : qR} (X : q_X p R s m args meth c cX12_readText 3 nW 8 186 RX12 (some .boolean) dC dI k g A) (hJ : ∀ d : Nat, q_Sd p l e R s m args below meth c 3 nW dC dI k g A (MQ below (q_post (dC, dI) k g nW Q A) args s 0 0 A) d (x_cut (is_X12_readText d) (J d))) : q_Sd p l e R s m args below meth c 3 nW dC dI k g A (MQ below (q_post (dC, dI) k g nW Q A) args s 0 0 A) 54 (b_X12_readText_54 J Q) := by
  unfold b_X12_readText_54
  refine s_aload_n X rfl dX12_readText_54 ?_
  refine s_get X (T := TX12) (C := RX12) (N := 45) tu_X12 rfl (by decide) tw_1000 dX12_readText_55 ?_
  refine s_iconst X ⟨by decide, by decide⟩ dX12_readText_58 ?_
  refine s_iload_n X rfl dX12_readText_59 ?_
  refine s_if_eq X (tgt := 70) dX12_readText_60 (by decide) ?_ ?_
  · refine s_iconst X ⟨by decide, by decide⟩ dX12_readText_70 ?_
    exact s_X12_readText_71 X hJ
  · refine s_aload_n X rfl dX12_readText_63 ?_
    refine s_get X (T := TX12) (C := RX12) (N := 45) tu_X12 rfl (by decide) tw_1014 dX12_readText_64 ?_
    refine s_goto X (tgt := 71) dX12_readText_67 (by decide) ?_
    exact s_X12_readText_71 X hJ
set_option maxRecDepth 100000 in
def b_X12_readText_40 (J : Nat → List qV → List qV → qW → Prop) (Q : qR) : qK := x_if_ne (x_cut [0, 2] (J 54)) (x_aload 0 (x_get 12 17 (x_if_ne (x_cut [0, 2] (J 54)) (x_aload 0 (x_call (some 12) 1 sp_X12_atEnd (x_nw (x_cut [0, 2] (J 54))))))))
set_option maxRecDepth 100000 in
theorem s_X12_readText_40 {p : Program} {l : Launch} {e : Env} {R : Room} {s : State} {m : MethodId} {args : Array Value} {below : List Frame} {meth : Method} {c : Code} {nW : Nat} {dC : Nat → ClassId} {dI : Nat → Nat → Nat} {k : Nat → ClassId} {g : Nat → Nat} {A : Nat → Prop} {J : Nat → List qV → List qV → qW → Prop} {Q : qR} (X : q_X p R s m args meth c cX12_readText 3 nW 8 186 RX12 (some .boolean) dC dI k g A) (hJ : ∀ d : Nat, q_Sd p l e R s m args below meth c 3 nW dC dI k g A (MQ below (q_post (dC, dI) k g nW Q A) args s 0 0 A) d (x_cut (is_X12_readText d) (J d))) : q_Sd p l e R s m args below meth c 3 nW dC dI k g A (MQ below (q_post (dC, dI) k g nW Q A) args s 0 0 A) 40 (b_X12_readText_40 J Q) := by
  unfold b_X12_readText_40
  refine s_if_ne X (tgt := 54) dX12_readText_40 (by decide) ?_ ?_
  · exact hJ 54
  · refine s_aload_n X rfl dX12_readText_43 ?_
    refine s_get X (T := TX12) (C := RX12) (N := 45) tu_X12 rfl (by decide) tw_1014 dX12_readText_44 ?_
    refine s_if_ne X (tgt := 54) dX12_readText_47 (by decide) ?_ ?_
    · exact hJ 54
    · refine s_aload_n X rfl dX12_readText_50 ?_
      refine s_callV X (m_X12_atEnd l) tw_1166 tw_1167 tw_1547 tw_134 tw_1168 rfl (by decide +kernel) ⟨by decide, by decide⟩ dX12_readText_51 ?_
      refine s_nw ?_
      exact hJ 54
set_option maxRecDepth 100000 in
def b_X12_readText_0 (J : Nat → List qV → List qV → qW → Prop) (Q : qR) : qK := x_aload 0 (x_iload 1 (x_call (some 12) 2 sp_X12_blank (x_nw (x_aload 0 (x_int (-1) (x_put 12 21 q_oki (x_nw (x_aload 0 (x_int (-1) (x_put 12 22 q_oki (x_nw (x_aload 0 (x_int 0 (x_put 12 10 q_oki (x_nw (x_aload 0 (x_int 0 (x_put 12 17 q_oki (x_nw (x_aload 0 (x_call (some 12) 1 sp_X12_token (x_nw (x_aload 0 (x_iload 1 (x_call (some 12) 2 sp_X12_lines (x_nw (x_istore 2 (x_iload 2 (x_if_eq (x_cut [0, 2] (J 54)) (x_iload 1 (b_X12_readText_40 J Q)))))))))))))))))))))))))))))))
set_option maxRecDepth 100000 in
theorem s_X12_readText_0 {p : Program} {l : Launch} {e : Env} {R : Room} {s : State} {m : MethodId} {args : Array Value} {below : List Frame} {meth : Method} {c : Code} {nW : Nat} {dC : Nat → ClassId} {dI : Nat → Nat → Nat} {k : Nat → ClassId} {g : Nat → Nat} {A : Nat → Prop} {J : Nat → List qV → List qV → qW → Prop} {Q : qR} (X : q_X p R s m args meth c cX12_readText 3 nW 8 186 RX12 (some .boolean) dC dI k g A) (hJ : ∀ d : Nat, q_Sd p l e R s m args below meth c 3 nW dC dI k g A (MQ below (q_post (dC, dI) k g nW Q A) args s 0 0 A) d (x_cut (is_X12_readText d) (J d))) : q_Sd p l e R s m args below meth c 3 nW dC dI k g A (MQ below (q_post (dC, dI) k g nW Q A) args s 0 0 A) 0 (b_X12_readText_0 J Q) := by
  unfold b_X12_readText_0
  refine s_aload_n X rfl dX12_readText_0 ?_
  refine s_iload_n X rfl dX12_readText_1 ?_
  refine s_callV X (m_X12_blank l) tw_1067 tw_1068 tw_1550 tw_134 tw_1069 rfl (by decide +kernel) ⟨by decide, by decide⟩ dX12_readText_2 ?_
  refine s_nw ?_
  refine s_aload_n X rfl dX12_readText_5 ?_
  refine s_iconst X ⟨by decide, by decide⟩ dX12_readText_6 ?_
  refine s_put X (T := TX12) (C := RX12) (N := 45) tu_X12 tyX12_ok nmX12 rfl (by decide) tw_1018 rfl (by decide +kernel) q_oki_t dX12_readText_7 ?_
  refine s_nw ?_
  refine s_aload_n X rfl dX12_readText_10 ?_
  refine s_iconst X ⟨by decide, by decide⟩ dX12_readText_11 ?_
  refine s_put X (T := TX12) (C := RX12) (N := 45) tu_X12 tyX12_ok nmX12 rfl (by decide) tw_1019 rfl (by decide +kernel) q_oki_t dX12_readText_12 ?_
  refine s_nw ?_
  refine s_aload_n X rfl dX12_readText_15 ?_
  refine s_iconst X ⟨by decide, by decide⟩ dX12_readText_16 ?_
  refine s_put X (T := TX12) (C := RX12) (N := 45) tu_X12 tyX12_ok nmX12 rfl (by decide) tw_1007 rfl (by decide +kernel) q_oki_t dX12_readText_17 ?_
  refine s_nw ?_
  refine s_aload_n X rfl dX12_readText_20 ?_
  refine s_iconst X ⟨by decide, by decide⟩ dX12_readText_21 ?_
  refine s_put X (T := TX12) (C := RX12) (N := 45) tu_X12 tyX12_ok nmX12 rfl (by decide) tw_1014 rfl (by decide +kernel) q_oki_t dX12_readText_22 ?_
  refine s_nw ?_
  refine s_aload_n X rfl dX12_readText_25 ?_
  refine s_callV X (m_X12_token l) tw_1070 tw_1071 tw_1627 tw_134 tw_1072 rfl (by decide +kernel) ⟨by decide, by decide⟩ dX12_readText_26 ?_
  refine s_nw ?_
  refine s_aload_n X rfl dX12_readText_29 ?_
  refine s_iload_n X rfl dX12_readText_30 ?_
  refine s_callV X (m_X12_lines l) tw_1076 tw_1077 tw_1600 tw_134 tw_1078 rfl (by decide +kernel) ⟨by decide, by decide⟩ dX12_readText_31 ?_
  refine s_nw ?_
  refine s_istore_n X rfl (by decide) dX12_readText_34 ?_
  refine s_iload_n X rfl dX12_readText_35 ?_
  refine s_if_eq X (tgt := 54) dX12_readText_36 (by decide) ?_ ?_
  · exact hJ 54
  · refine s_iload_n X rfl dX12_readText_39 ?_
    exact s_X12_readText_40 X hJ

def sp_X12_readText : qS := fun av w Q => ∃ (mco : Int) (mre : Int) (mle : Int) (mbe : Int) (mso : Int) (mva : Int) (mwo : Int) (mwr : Int) (mlf : Int) (mlp : Int) (mfp : Int) (mfd : Int) (mgo : Int) (mbo : Int) (mpe : Int) (mye : Int) (mpr : Int) (mld : Int) (msi : Int) (mse : Int) (tp : Nat → Int) (re : Nat → Int) (td : Nat → Int) (fa : Nat → Int) (fpl : Nat → Int) (a : Int), av = [q2 0, q1 a] ∧ w = [.inr (12, [q1 mco, q2 1, q2 6, q2 4, q2 5, q2 7, q2 8, q2 9, q2 10, q2 11, q1 mre, q1 mle, q1 mbe, q1 mso, q1 mva, q3 mwo, q1 mwr, q1 mlf, q1 mlp, q2 3, q2 2, q1 mfp, q1 mfd, q1 mgo, q1 mbo, q1 mpe, q1 mye, q2 12, q1 mpr, q2 13, q2 14, q2 15, q2 16, q1 mld, q2 17, q1 msi, q2 18, q2 19, q2 20, q2 21, q2 22, q1 mse, q2 23, q2 24, q2 25]), .inl (1, 2400, .inl tp), .inl (0, 4, .inl re), .inl (0, 161, .inl td), .inl (0, 4, .inl fa), .inl (0, 4, .inl fpl)] ∧ (0 ≤ mle ∧ mle ≤ 600) ∧ (0 ≤ a ∧ a ≤ 3) ∧ (∀ (r : Int) (x_mre : Int) (x_mbe : Int) (x_mso : Int) (x_mva : Int) (x_mwo : Int) (x_mwr : Int) (x_mlf : Int) (x_mlp : Int) (x_mgo : Int) (x_mfp : Int) (x_mfd : Int) (x_re : Nat → Int) (x_td : Nat → Int) (x_fa : Nat → Int) (x_fpl : Nat → Int), ((r = 0 ∨ r = 1) ∧ (r = 1 → TI a x_td ∧ (a = 0 → AC x_td 0))) → Q (some (q1 r)) ([.inr (12, [q1 mco, q2 1, q2 6, q2 4, q2 5, q2 7, q2 8, q2 9, q2 10, q2 11, q1 x_mre, q1 mle, q1 x_mbe, q1 x_mso, q1 x_mva, q3 x_mwo, q1 x_mwr, q1 x_mlf, q1 x_mlp, q2 3, q2 2, q1 x_mfp, q1 x_mfd, q1 x_mgo, q1 mbo, q1 mpe, q1 mye, q2 12, q1 mpr, q2 13, q2 14, q2 15, q2 16, q1 mld, q2 17, q1 msi, q2 18, q2 19, q2 20, q2 21, q2 22, q1 mse, q2 23, q2 24, q2 25]), .inl (1, 2400, .inl tp), .inl (0, 4, .inl x_re), .inl (0, 161, .inl x_td), .inl (0, 4, .inl x_fa), .inl (0, 4, .inl x_fpl)]))
def I_X12_readText (mco : Int) (mre : Int) (mle : Int) (mbe : Int) (mso : Int) (mva : Int) (mwo : Int) (mwr : Int) (mlf : Int) (mlp : Int) (mfp : Int) (mfd : Int) (mgo : Int) (mbo : Int) (mpe : Int) (mye : Int) (mpr : Int) (mld : Int) (msi : Int) (mse : Int) (tp : Nat → Int) (re : Nat → Int) (td : Nat → Int) (fa : Nat → Int) (fpl : Nat → Int) (a : Int) : Nat → Nat → List qV → List qV → qW → Prop := fun dz mz vz sz wz => if dz = 54 then (∃ (y_mre : Int) (y_mbe : Int) (y_mso : Int) (y_mva : Int) (y_mwo : Int) (y_mwr : Int) (y_mlf : Int) (y_mlp : Int) (y_mgo : Int) (y_mfp : Int) (y_mfd : Int) (y_re : Nat → Int) (y_td : Nat → Int) (v2 : Int), vz = [q2 0, q1 v2] ∧ sz = [] ∧ wz = [.inr (12, [q1 mco, q2 1, q2 6, q2 4, q2 5, q2 7, q2 8, q2 9, q2 10, q2 11, q1 y_mre, q1 mle, q1 y_mbe, q1 y_mso, q1 y_mva, q3 y_mwo, q1 y_mwr, q1 y_mlf, q1 y_mlp, q2 3, q2 2, q1 y_mfp, q1 y_mfd, q1 y_mgo, q1 mbo, q1 mpe, q1 mye, q2 12, q1 mpr, q2 13, q2 14, q2 15, q2 16, q1 mld, q2 17, q1 msi, q2 18, q2 19, q2 20, q2 21, q2 22, q1 mse, q2 23, q2 24, q2 25]), .inl (1, 2400, .inl tp), .inl (0, 4, .inl y_re), .inl (0, 161, .inl y_td), .inl (0, 4, .inl fa), .inl (0, 4, .inl fpl)] ∧ mz = 0 ∧ (v2 = 0 ∨ v2 = 1) ∧ (TI a y_td) ∧ (a = 0 → ¬ v2 = 0 → y_mlf = 0 → AC y_td 0)) else False
set_option maxHeartbeats 4000000 in
set_option maxRecDepth 100000 in
theorem m_X12_readText (l : Launch) : q_M l yX12_readText cX12_readText 3 (some .boolean) 8 186 sp_X12_readText := by
  refine q_meth (by decide) (fun av w Q h => by obtain ⟨mco, mre, mle, mbe, mso, mva, mwo, mwr, mlf, mlp, mfp, mfd, mgo, mbo, mpe, mye, mpr, mld, msi, mse, tp, re, td, fa, fpl, a, rfl, rfl, hle, ha, hQ⟩ := h; exact Nat.le_of_ble_eq_true rfl) ?_
  intro p e R s m args below meth c dC dI k g A av w Q hsp oka okw X
  obtain ⟨mco, mre, mle, mbe, mso, mva, mwo, mwr, mlf, mlp, mfp, mfd, mgo, mbo, mpe, mye, mpr, mld, msi, mse, tp, re, td, fa, fpl, a, rfl, rfl, hle, ha, hQ⟩ := hsp
  have o_a : -2147483648 ≤ a ∧ a ≤ 2147483647 := oka _ (List.mem_of_getElem? (i := 1) rfl)
  refine s_mono (s_X12_readText_0 X (J := fun dz vz sz wz => ∃ mz, I_X12_readText mco mre mle mbe mso mva mwo mwr mlf mlp mfp mfd mgo mbo mpe mye mpr mld msi mse tp re td fa fpl a dz mz vz sz wz) (q_loopn (I_X12_readText mco mre mle mbe mso mva mwo mwr mlf mlp mfp mfd mgo mbo mpe mye mpr mld msi mse tp re td fa fpl a) (fun dz J => if dz = 54 then b_X12_readText_54 J Q else q_F) ?hs ?hv)) ?_
  case hs =>
    intro d J hJ
    by_cases h54 : d = 54
    · subst h54; exact s_X12_readText_54 X hJ
    simp only [h54, if_false]
    exact s_F
  case hv =>
    intro dz mz vz sz wz hI okv oks okw hlen
    by_cases h54 : dz = 54
    · subst h54
      obtain ⟨y_mre, y_mbe, y_mso, y_mva, y_mwo, y_mwr, y_mlf, y_mlp, y_mgo, y_mfp, y_mfd, y_re, y_td, v2, rfl, rfl, rfl, hn, hb, hty, hac⟩ := hI
      apply And.intro
      · intro h60
        apply And.intro
        · exact ⟨by omega, by omega⟩
        apply And.intro
        · intro h78
          apply And.intro
          · intro h92
            apply And.intro
            · exact ⟨by omega, by omega⟩
            apply And.intro
            · exact ⟨by omega, by omega⟩
            intro z109 h109
            rw [q_up_s] at h109
            apply And.intro
            · intro h110
              apply And.intro
              · first | exact Or.inl rfl | exact Or.inr rfl | omega
              exact hQ _ _ _ _ _ _ _ _ _ _ _ _ _ _ _ _ ⟨by omega, (by first | (intro e9; exfalso; omega) | exact fun _ => ⟨hty, fun e9 => hac e9 (by omega) (by omega)⟩)⟩
            · intro h110
              apply And.intro
              · first | exact Or.inl rfl | exact Or.inr rfl | omega
              exact hQ _ _ _ _ _ _ _ _ _ _ _ _ _ _ _ _ ⟨by omega, (by first | (intro e9; exfalso; omega) | exact fun _ => ⟨hty, fun e9 => hac e9 (by omega) (by omega)⟩)⟩
          · intro h92
            apply And.intro
            · exact ⟨by omega, by omega⟩
            apply And.intro
            · exact ⟨by omega, by omega⟩
            intro z109 h109
            rw [q_up_s] at h109
            apply And.intro
            · intro h110
              apply And.intro
              · first | exact Or.inl rfl | exact Or.inr rfl | omega
              exact hQ _ _ _ _ _ _ _ _ _ _ _ _ _ _ _ _ ⟨by omega, (by first | (intro e9; exfalso; omega) | exact fun _ => ⟨hty, fun e9 => hac e9 (by omega) (by omega)⟩)⟩
            · intro h110
              apply And.intro
              · first | exact Or.inl rfl | exact Or.inr rfl | omega
              exact hQ _ _ _ _ _ _ _ _ _ _ _ _ _ _ _ _ ⟨by omega, (by first | (intro e9; exfalso; omega) | exact fun _ => ⟨hty, fun e9 => hac e9 (by omega) (by omega)⟩)⟩
        · intro h78
          apply And.intro
          · exact ⟨by omega, by omega⟩
          apply And.intro
          · exact ⟨by omega, by omega⟩
          intro z109 h109
          rw [q_up_s] at h109
          apply And.intro
          · intro h110
            apply And.intro
            · first | exact Or.inl rfl | exact Or.inr rfl | omega
            exact hQ _ _ _ _ _ _ _ _ _ _ _ _ _ _ _ _ ⟨by omega, (by first | (intro e9; exfalso; omega) | exact fun _ => ⟨hty, fun e9 => hac e9 (by omega) (by omega)⟩)⟩
          · intro h110
            apply And.intro
            · first | exact Or.inl rfl | exact Or.inr rfl | omega
            exact hQ _ _ _ _ _ _ _ _ _ _ _ _ _ _ _ _ ⟨by omega, (by first | (intro e9; exfalso; omega) | exact fun _ => ⟨hty, fun e9 => hac e9 (by omega) (by omega)⟩)⟩
      · intro h60
        apply And.intro
        · exact ⟨by omega, by omega⟩
        apply And.intro
        · intro h78
          apply And.intro
          · intro h92
            apply And.intro
            · exact ⟨by omega, by omega⟩
            apply And.intro
            · exact ⟨by omega, by omega⟩
            intro z109 h109
            rw [q_up_s] at h109
            apply And.intro
            · intro h110
              apply And.intro
              · first | exact Or.inl rfl | exact Or.inr rfl | omega
              exact hQ _ _ _ _ _ _ _ _ _ _ _ _ _ _ _ _ ⟨by omega, (by first | (intro e9; exfalso; omega) | exact fun _ => ⟨hty, fun e9 => hac e9 (by omega) (by omega)⟩)⟩
            · intro h110
              apply And.intro
              · first | exact Or.inl rfl | exact Or.inr rfl | omega
              exact hQ _ _ _ _ _ _ _ _ _ _ _ _ _ _ _ _ ⟨by omega, (by first | (intro e9; exfalso; omega) | exact fun _ => ⟨hty, fun e9 => hac e9 (by omega) (by omega)⟩)⟩
          · intro h92
            apply And.intro
            · exact ⟨by omega, by omega⟩
            apply And.intro
            · exact ⟨by omega, by omega⟩
            intro z109 h109
            rw [q_up_s] at h109
            apply And.intro
            · intro h110
              apply And.intro
              · first | exact Or.inl rfl | exact Or.inr rfl | omega
              exact hQ _ _ _ _ _ _ _ _ _ _ _ _ _ _ _ _ ⟨by omega, (by first | (intro e9; exfalso; omega) | exact fun _ => ⟨hty, fun e9 => hac e9 (by omega) (by omega)⟩)⟩
            · intro h110
              apply And.intro
              · first | exact Or.inl rfl | exact Or.inr rfl | omega
              exact hQ _ _ _ _ _ _ _ _ _ _ _ _ _ _ _ _ ⟨by omega, (by first | (intro e9; exfalso; omega) | exact fun _ => ⟨hty, fun e9 => hac e9 (by omega) (by omega)⟩)⟩
        · intro h78
          apply And.intro
          · exact ⟨by omega, by omega⟩
          apply And.intro
          · exact ⟨by omega, by omega⟩
          intro z109 h109
          rw [q_up_s] at h109
          apply And.intro
          · intro h110
            apply And.intro
            · first | exact Or.inl rfl | exact Or.inr rfl | omega
            exact hQ _ _ _ _ _ _ _ _ _ _ _ _ _ _ _ _ ⟨by omega, (by first | (intro e9; exfalso; omega) | exact fun _ => ⟨hty, fun e9 => hac e9 (by omega) (by omega)⟩)⟩
          · intro h110
            apply And.intro
            · first | exact Or.inl rfl | exact Or.inr rfl | omega
            exact hQ _ _ _ _ _ _ _ _ _ _ _ _ _ _ _ _ ⟨by omega, (by first | (intro e9; exfalso; omega) | exact fun _ => ⟨hty, fun e9 => hac e9 (by omega) (by omega)⟩)⟩
    simp only [I_X12_readText, h54, if_false] at hI
  rintro lv st w' ⟨rfl, rfl, rfl⟩
  refine Exists.intro [0, 3, 1, 6, 4, 5, 7, 8, 9, 10, 11, 2, 12, 13, 14, 15, 16, 17, 18, 19, 20, 21, 22, 23, 24, 25] (Exists.intro [q2 0, q1 _] (Exists.intro ([.inr (12, [q1 _, q2 2, q2 3, q2 4, q2 5, q2 6, q2 7, q2 8, q2 9, q2 10, q1 _, q1 _, q1 _, q1 _, q1 _, q3 _, q1 _, q1 _, q1 _, q2 1, q2 11, q1 _, q1 _, q1 _, q1 _, q1 _, q1 _, q2 12, q1 _, q2 13, q2 14, q2 15, q2 16, q1 _, q2 17, q1 _, q2 18, q2 19, q2 20, q2 21, q2 22, q1 _, q2 23, q2 24, q2 25]), .inl (0, 161, .inl _)]) (And.intro rfl (And.intro rfl (And.intro rfl (And.intro ⟨⟨_, rfl⟩, rfl⟩ ?_))))))
  refine Exists.intro _ (Exists.intro _ (Exists.intro _ (Exists.intro _ (Exists.intro _ (Exists.intro _ (Exists.intro _ (Exists.intro _ (Exists.intro _ (Exists.intro _ (Exists.intro _ (Exists.intro _ (Exists.intro _ (Exists.intro _ (Exists.intro _ (Exists.intro _ (Exists.intro _ (Exists.intro _ (Exists.intro _ (Exists.intro _ (Exists.intro _ (Exists.intro _ (And.intro rfl (And.intro rfl (?_))))))))))))))))))))))))
  intro x_td_2 h2
  apply And.intro
  · exact trivial
  apply And.intro
  · exact trivial
  apply And.intro
  · exact trivial
  apply And.intro
  · exact trivial
  refine Exists.intro [0, 1, 6, 4, 5, 7, 8, 9, 10, 11, 3, 2, 12, 13, 14, 15, 16, 17, 18, 19, 20, 21, 22, 23, 24, 25] (Exists.intro [q2 0] (Exists.intro ([.inr (12, [q1 _, q2 1, q2 2, q2 3, q2 4, q2 5, q2 6, q2 7, q2 8, q2 9, q1 _, q1 _, q1 _, q1 _, q1 _, q3 _, q1 _, q1 _, q1 _, q2 10, q2 11, q1 _, q1 _, q1 _, q1 _, q1 _, q1 _, q2 12, q1 _, q2 13, q2 14, q2 15, q2 16, q1 _, q2 17, q1 _, q2 18, q2 19, q2 20, q2 21, q2 22, q1 _, q2 23, q2 24, q2 25]), .inl (1, 2400, .inl _)]) (And.intro rfl (And.intro rfl (And.intro rfl (And.intro ⟨⟨_, rfl⟩, rfl⟩ ?_))))))
  refine Exists.intro _ (Exists.intro _ (Exists.intro _ (Exists.intro _ (Exists.intro _ (Exists.intro _ (Exists.intro _ (Exists.intro _ (Exists.intro _ (Exists.intro _ (Exists.intro _ (Exists.intro _ (Exists.intro _ (Exists.intro _ (Exists.intro _ (Exists.intro _ (Exists.intro _ (Exists.intro _ (Exists.intro _ (Exists.intro _ (Exists.intro _ (And.intro rfl (And.intro rfl (And.intro (by first | omega | assumption | exact q_rg_up (by assumption) (by omega) | exact q_rg_up (q_rg_up (by assumption) (by omega)) (by omega) | exact q_rg_cpy (by assumption) (by assumption)) (?_))))))))))))))))))))))))
  intro x_mre_26 x_mbe_26 x_mso_26 x_mva_26 x_mwo_26 h26
  refine Exists.intro [0, 1, 2, 3, 6, 4, 5, 7, 8, 9, 10, 11, 12, 13, 14, 15, 16, 17, 18, 19, 20, 21, 22, 23, 24, 25] (Exists.intro [q2 0, q1 _] (Exists.intro ([.inr (12, [q1 _, q2 1, q2 4, q2 5, q2 6, q2 7, q2 8, q2 9, q2 10, q2 11, q1 _, q1 _, q1 _, q1 _, q1 _, q3 _, q1 _, q1 _, q1 _, q2 3, q2 2, q1 _, q1 _, q1 _, q1 _, q1 _, q1 _, q2 12, q1 _, q2 13, q2 14, q2 15, q2 16, q1 _, q2 17, q1 _, q2 18, q2 19, q2 20, q2 21, q2 22, q1 _, q2 23, q2 24, q2 25]), .inl (1, 2400, .inl _), .inl (0, 4, .inl _), .inl (0, 161, .inl _)]) (And.intro rfl (And.intro rfl (And.intro rfl (And.intro ⟨⟨_, rfl⟩, rfl⟩ ?_))))))
  refine Exists.intro _ (Exists.intro _ (Exists.intro _ (Exists.intro _ (Exists.intro _ (Exists.intro _ (Exists.intro _ (Exists.intro _ (Exists.intro _ (Exists.intro _ (Exists.intro _ (Exists.intro _ (Exists.intro _ (Exists.intro _ (Exists.intro _ (Exists.intro _ (Exists.intro _ (Exists.intro _ (Exists.intro _ (Exists.intro _ (Exists.intro _ (Exists.intro _ (Exists.intro _ (Exists.intro _ (And.intro rfl (And.intro rfl (And.intro (by first | omega | assumption | exact q_rg_up (by assumption) (by omega) | exact q_rg_up (q_rg_up (by assumption) (by omega)) (by omega) | exact q_rg_cpy (by assumption) (by assumption)) (And.intro (by first | omega | assumption | exact q_rg_up (by assumption) (by omega) | exact q_rg_up (q_rg_up (by assumption) (by omega)) (by omega) | exact q_rg_cpy (by assumption) (by assumption)) (And.intro h2 (?_)))))))))))))))))))))))))))))
  intro z31 x_mre_31 x_mbe_31 x_mso_31 x_mva_31 x_mwo_31 x_mwr_31 x_mlf_31 x_mlp_31 x_mgo_31 x_mfp_31 x_mfd_31 x_re_31 x_td_31 h31
  apply And.intro
  · intro h36
    exact ⟨_, _, _, _, _, _, _, _, _, _, _, _, _, _, _, rfl, rfl, rfl, rfl, (by first | omega | assumption | exact q_rg_up (by assumption) (by omega) | exact q_rg_up (q_rg_up (by assumption) (by omega)) (by omega) | exact q_rg_cpy (by assumption) (by assumption)), (by exact h31.2), (by first | exact fun _ _ e9 => h51 e9 | (intro e7 e8 e9; exfalso; omega))⟩
  · intro h36
    apply And.intro
    · intro h40
      exact ⟨_, _, _, _, _, _, _, _, _, _, _, _, _, _, _, rfl, rfl, rfl, rfl, (by first | omega | assumption | exact q_rg_up (by assumption) (by omega) | exact q_rg_up (q_rg_up (by assumption) (by omega)) (by omega) | exact q_rg_cpy (by assumption) (by assumption)), (by exact h31.2), (by first | exact fun _ _ e9 => h51 e9 | (intro e7 e8 e9; exfalso; omega))⟩
    · intro h40
      apply And.intro
      · intro h47
        exact ⟨_, _, _, _, _, _, _, _, _, _, _, _, _, _, _, rfl, rfl, rfl, rfl, (by first | omega | assumption | exact q_rg_up (by assumption) (by omega) | exact q_rg_up (q_rg_up (by assumption) (by omega)) (by omega) | exact q_rg_cpy (by assumption) (by assumption)), (by exact h31.2), (by first | exact fun _ _ e9 => h51 e9 | (intro e7 e8 e9; exfalso; omega))⟩
      · intro h47
        refine Exists.intro [0, 3, 1, 6, 4, 5, 7, 8, 9, 10, 11, 2, 12, 13, 14, 15, 16, 17, 18, 19, 20, 21, 22, 23, 24, 25] (Exists.intro [q2 0] (Exists.intro ([.inr (12, [q1 _, q2 2, q2 3, q2 4, q2 5, q2 6, q2 7, q2 8, q2 9, q2 10, q1 _, q1 _, q1 _, q1 _, q1 _, q3 _, q1 _, q1 _, q1 _, q2 1, q2 11, q1 _, q1 _, q1 _, q1 _, q1 _, q1 _, q2 12, q1 _, q2 13, q2 14, q2 15, q2 16, q1 _, q2 17, q1 _, q2 18, q2 19, q2 20, q2 21, q2 22, q1 _, q2 23, q2 24, q2 25]), .inl (0, 161, .inl _)]) (And.intro rfl (And.intro rfl (And.intro rfl (And.intro ⟨⟨_, rfl⟩, rfl⟩ ?_))))))
        refine Exists.intro _ (Exists.intro _ (Exists.intro _ (Exists.intro _ (Exists.intro _ (Exists.intro _ (Exists.intro _ (Exists.intro _ (Exists.intro _ (Exists.intro _ (Exists.intro _ (Exists.intro _ (Exists.intro _ (Exists.intro _ (Exists.intro _ (Exists.intro _ (Exists.intro _ (Exists.intro _ (Exists.intro _ (Exists.intro _ (Exists.intro _ (And.intro rfl (And.intro rfl (And.intro (h31.2.1 (by omega)) (And.intro (by first | omega | assumption | exact q_rg_up (by assumption) (by omega) | exact q_rg_up (q_rg_up (by assumption) (by omega)) (by omega) | exact q_rg_cpy (by assumption) (by assumption)) (?_)))))))))))))))))))))))))
        intro x_mlf_51 x_mlp_51 h51
        exact ⟨_, _, _, _, _, _, _, _, _, _, _, _, _, _, _, rfl, rfl, rfl, rfl, (by first | omega | assumption | exact q_rg_up (by assumption) (by omega) | exact q_rg_up (q_rg_up (by assumption) (by omega)) (by omega) | exact q_rg_cpy (by assumption) (by assumption)), (by exact h31.2), (by first | exact fun _ _ e9 => h51 e9 | (intro e7 e8 e9; exfalso; omega))⟩
