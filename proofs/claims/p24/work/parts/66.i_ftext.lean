theorem dF12_storeAll_0 : decode cX12_storeAll 0 = .ok (.iload_n 1, 1) := by decide +kernel
theorem dF12_storeAll_1 : decode cX12_storeAll 1 = .ok (.tableswitch 64 0 2 #[27, 39, 52], 27) := by decide +kernel
theorem dF12_storeAll_28 : decode cX12_storeAll 28 = .ok (.aload_n 0, 1) := by decide +kernel
theorem dF12_storeAll_29 : decode cX12_storeAll 29 = .ok (.aload_n 0, 1) := by decide +kernel
theorem dF12_storeAll_30 : decode cX12_storeAll 30 = .ok (.getfield 26, 3) := by decide +kernel
theorem dF12_storeAll_33 : decode cX12_storeAll 33 = .ok (.bipush 75, 2) := by decide +kernel
theorem dF12_storeAll_35 : decode cX12_storeAll 35 = .ok (.iload_n 2, 1) := by decide +kernel
theorem dF12_storeAll_36 : decode cX12_storeAll 36 = .ok (.invokevirtual 283, 3) := by decide +kernel
theorem dF12_storeAll_39 : decode cX12_storeAll 39 = .ok (.return_, 1) := by decide +kernel
theorem dF12_storeAll_40 : decode cX12_storeAll 40 = .ok (.aload_n 0, 1) := by decide +kernel
theorem dF12_storeAll_41 : decode cX12_storeAll 41 = .ok (.aload_n 0, 1) := by decide +kernel
theorem dF12_storeAll_42 : decode cX12_storeAll 42 = .ok (.getfield 29, 3) := by decide +kernel
theorem dF12_storeAll_45 : decode cX12_storeAll 45 = .ok (.sipush 161, 3) := by decide +kernel
theorem dF12_storeAll_48 : decode cX12_storeAll 48 = .ok (.iload_n 2, 1) := by decide +kernel
theorem dF12_storeAll_49 : decode cX12_storeAll 49 = .ok (.invokevirtual 283, 3) := by decide +kernel
theorem dF12_storeAll_52 : decode cX12_storeAll 52 = .ok (.return_, 1) := by decide +kernel
theorem dF12_storeAll_53 : decode cX12_storeAll 53 = .ok (.aload_n 0, 1) := by decide +kernel
theorem dF12_storeAll_54 : decode cX12_storeAll 54 = .ok (.aload_n 0, 1) := by decide +kernel
theorem dF12_storeAll_55 : decode cX12_storeAll 55 = .ok (.getfield 32, 3) := by decide +kernel
theorem dF12_storeAll_58 : decode cX12_storeAll 58 = .ok (.bipush 9, 2) := by decide +kernel
theorem dF12_storeAll_60 : decode cX12_storeAll 60 = .ok (.iload_n 2, 1) := by decide +kernel
theorem dF12_storeAll_61 : decode cX12_storeAll 61 = .ok (.invokevirtual 283, 3) := by decide +kernel
theorem dF12_storeAll_64 : decode cX12_storeAll 64 = .ok (.return_, 1) := by decide +kernel
theorem dF12_storeAll_65 : decode cX12_storeAll 65 = .ok (.aload_n 0, 1) := by decide +kernel
theorem dF12_storeAll_66 : decode cX12_storeAll 66 = .ok (.aload_n 0, 1) := by decide +kernel
theorem dF12_storeAll_67 : decode cX12_storeAll 67 = .ok (.getfield 35, 3) := by decide +kernel
theorem dF12_storeAll_70 : decode cX12_storeAll 70 = .ok (.bipush 21, 2) := by decide +kernel
theorem dF12_storeAll_72 : decode cX12_storeAll 72 = .ok (.iload_n 2, 1) := by decide +kernel
theorem dF12_storeAll_73 : decode cX12_storeAll 73 = .ok (.invokevirtual 283, 3) := by decide +kernel
theorem dF12_storeAll_76 : decode cX12_storeAll 76 = .ok (.return_, 1) := by decide +kernel
def is_F12_storeAll : Nat → List Nat := fun d => []
set_option maxRecDepth 100000 in
def b_F12_storeAll_66 (J : Nat → List qV → List qV → qW → Prop) (Q : qR) : qK := x_aload 0 (x_get 12 9 (x_int 21 (x_iload 2 (x_call (some 12) 4 sp_X12_store21 (x_nw (x_vret Q))))))
set_option maxRecDepth 100000 in
theorem s_F12_storeAll_66 {p : Program} {l : Launch} {e : Env} {R : Room} {s : State} {m : MethodId} {args : Array Value} {below : List Frame} {meth : Method} {c : Code} {nW : Nat} {dC : Nat → ClassId} {dI : Nat → Nat → Nat} {k : Nat → ClassId} {g : Nat → Nat} {A : Nat → Prop} {J : Nat → List qV → List qV → qW → Prop} {Q : qR} (X : q_X p R s m args meth c cX12_storeAll 3 nW 1 24 RX12 none dC dI k g A) (hJ : ∀ d : Nat, q_Sd p l e R s m args below meth c 3 nW dC dI k g A (MQ below (q_post (dC, dI) k g nW Q A) args s 0 0 A) d (x_cut (is_F12_storeAll d) (J d))) : q_Sd p l e R s m args below meth c 3 nW dC dI k g A (MQ below (q_post (dC, dI) k g nW Q A) args s 0 0 A) 66 (b_F12_storeAll_66 J Q) := by
  unfold b_F12_storeAll_66
  refine s_aload_n X rfl dF12_storeAll_66 ?_
  refine s_get X (T := TX12) (C := RX12) (N := 45) tu_X12 rfl (by decide) tw_1006 dF12_storeAll_67 ?_
  refine s_bipush X ⟨by decide, by decide⟩ (by decide) dF12_storeAll_70 ?_
  refine s_iload_n X rfl dF12_storeAll_72 ?_
  refine s_callV X (m_X12_store21 l) tw_1175 tw_1176 tw_1617 tw_134 tw_1177 rfl (by decide +kernel) ⟨by decide, by decide⟩ dF12_storeAll_73 ?_
  refine s_nw ?_
  exact s_vret X dF12_storeAll_76
set_option maxRecDepth 100000 in
def b_F12_storeAll_0 (J : Nat → List qV → List qV → qW → Prop) (Q : qR) : qK := x_iload 1 (x_sw 0 2 [x_aload 0 (x_aload 0 (x_get 12 6 (x_int 75 (x_iload 2 (x_call (some 12) 4 sp_X12_store75 (x_nw (x_vret Q))))))), x_aload 0 (x_aload 0 (x_get 12 7 (x_int 161 (x_iload 2 (x_call (some 12) 4 sp_X12_store161 (x_nw (x_vret Q))))))), x_aload 0 (x_aload 0 (x_get 12 8 (x_int 9 (x_iload 2 (x_call (some 12) 4 sp_X12_store9 (x_nw (x_vret Q)))))))] (x_aload 0 (b_F12_storeAll_66 J Q)))
set_option maxRecDepth 100000 in
theorem s_F12_storeAll_0 {p : Program} {l : Launch} {e : Env} {R : Room} {s : State} {m : MethodId} {args : Array Value} {below : List Frame} {meth : Method} {c : Code} {nW : Nat} {dC : Nat → ClassId} {dI : Nat → Nat → Nat} {k : Nat → ClassId} {g : Nat → Nat} {A : Nat → Prop} {J : Nat → List qV → List qV → qW → Prop} {Q : qR} (X : q_X p R s m args meth c cX12_storeAll 3 nW 1 24 RX12 none dC dI k g A) (hJ : ∀ d : Nat, q_Sd p l e R s m args below meth c 3 nW dC dI k g A (MQ below (q_post (dC, dI) k g nW Q A) args s 0 0 A) d (x_cut (is_F12_storeAll d) (J d))) : q_Sd p l e R s m args below meth c 3 nW dC dI k g A (MQ below (q_post (dC, dI) k g nW Q A) args s 0 0 A) 0 (b_F12_storeAll_0 J Q) := by
  unfold b_F12_storeAll_0
  refine s_iload_n X rfl dF12_storeAll_0 ?_
  refine s_sw X (ts := [28, 40, 53]) (td := 65) dF12_storeAll_1 (by decide) (by decide) (by decide) rfl ?_ ?_
  · intro i t K ht hK
    match i, ht, hK with
    | 0, ht, hK =>
      cases ht
      cases hK
      refine s_aload_n X rfl dF12_storeAll_28 ?_
      refine s_aload_n X rfl dF12_storeAll_29 ?_
      refine s_get X (T := TX12) (C := RX12) (N := 45) tu_X12 rfl (by decide) tw_1003 dF12_storeAll_30 ?_
      refine s_bipush X ⟨by decide, by decide⟩ (by decide) dF12_storeAll_33 ?_
      refine s_iload_n X rfl dF12_storeAll_35 ?_
      refine s_callV X (m_X12_store75 l) tw_1175 tw_1176 tw_1617 tw_134 tw_1177 rfl (by decide +kernel) ⟨by decide, by decide⟩ dF12_storeAll_36 ?_
      refine s_nw ?_
      exact s_vret X dF12_storeAll_39
    | 1, ht, hK =>
      cases ht
      cases hK
      refine s_aload_n X rfl dF12_storeAll_40 ?_
      refine s_aload_n X rfl dF12_storeAll_41 ?_
      refine s_get X (T := TX12) (C := RX12) (N := 45) tu_X12 rfl (by decide) tw_1004 dF12_storeAll_42 ?_
      refine s_sipush X ⟨by decide, by decide⟩ (by decide) dF12_storeAll_45 ?_
      refine s_iload_n X rfl dF12_storeAll_48 ?_
      refine s_callV X (m_X12_store161 l) tw_1175 tw_1176 tw_1617 tw_134 tw_1177 rfl (by decide +kernel) ⟨by decide, by decide⟩ dF12_storeAll_49 ?_
      refine s_nw ?_
      exact s_vret X dF12_storeAll_52
    | 2, ht, hK =>
      cases ht
      cases hK
      refine s_aload_n X rfl dF12_storeAll_53 ?_
      refine s_aload_n X rfl dF12_storeAll_54 ?_
      refine s_get X (T := TX12) (C := RX12) (N := 45) tu_X12 rfl (by decide) tw_1005 dF12_storeAll_55 ?_
      refine s_bipush X ⟨by decide, by decide⟩ (by decide) dF12_storeAll_58 ?_
      refine s_iload_n X rfl dF12_storeAll_60 ?_
      refine s_callV X (m_X12_store9 l) tw_1175 tw_1176 tw_1617 tw_134 tw_1177 rfl (by decide +kernel) ⟨by decide, by decide⟩ dF12_storeAll_61 ?_
      refine s_nw ?_
      exact s_vret X dF12_storeAll_64
    | i + 3, ht, hK => exact absurd ht (by simp)
  · refine s_aload_n X rfl dF12_storeAll_65 ?_
    exact s_F12_storeAll_66 X hJ

def sp_F12_storeAll : qS := fun av w Q => ∃ (mco : Int) (mre : Int) (mle : Int) (mbe : Int) (mso : Int) (mva : Int) (mwo : Int) (mwr : Int) (mlf : Int) (mlp : Int) (mfp : Int) (mfd : Int) (mgo : Int) (mbo : Int) (mpe : Int) (mye : Int) (mpr : Int) (mld : Int) (msi : Int) (mse : Int) (td : Nat → Int) (bs : Nat → Int) (ys : Nat → Int) (ls : Nat → Int) (ss : Nat → Int) (a : Int) (b : Int), av = [q2 0, q1 a, q1 b] ∧ w = [.inr (12, [q1 mco, q2 6, q2 7, q2 8, q2 9, q2 10, q2 2, q2 3, q2 4, q2 5, q1 mre, q1 mle, q1 mbe, q1 mso, q1 mva, q3 mwo, q1 mwr, q1 mlf, q1 mlp, q2 1, q2 11, q1 mfp, q1 mfd, q1 mgo, q1 mbo, q1 mpe, q1 mye, q2 12, q1 mpr, q2 13, q2 14, q2 15, q2 16, q1 mld, q2 17, q1 msi, q2 18, q2 19, q2 20, q2 21, q2 22, q1 mse, q2 23, q2 24, q2 25]), .inl (0, 161, .inl td), .inl (0, 600, .inl bs), .inl (0, 1288, .inl ys), .inl (0, 72, .inl ls), .inl (0, 168, .inl ss)] ∧ (0 ≤ a ∧ a ≤ 3 ∧ 0 ≤ b ∧ b ≤ 1) ∧ (TI a td) ∧ (a = 0 → AC td 0) ∧ (BI bs) ∧ (YI ys) ∧ (SI ss) ∧ (∀ (x_bs : Nat → Int) (x_ys : Nat → Int) (x_ls : Nat → Int) (x_ss : Nat → Int), ((BI x_bs ∧ YI x_ys ∧ SI x_ss) ∧ StA a b td bs ys ls ss x_bs x_ys x_ls x_ss) → Q none ([.inr (12, [q1 mco, q2 6, q2 7, q2 8, q2 9, q2 10, q2 2, q2 3, q2 4, q2 5, q1 mre, q1 mle, q1 mbe, q1 mso, q1 mva, q3 mwo, q1 mwr, q1 mlf, q1 mlp, q2 1, q2 11, q1 mfp, q1 mfd, q1 mgo, q1 mbo, q1 mpe, q1 mye, q2 12, q1 mpr, q2 13, q2 14, q2 15, q2 16, q1 mld, q2 17, q1 msi, q2 18, q2 19, q2 20, q2 21, q2 22, q1 mse, q2 23, q2 24, q2 25]), .inl (0, 161, .inl td), .inl (0, 600, .inl x_bs), .inl (0, 1288, .inl x_ys), .inl (0, 72, .inl x_ls), .inl (0, 168, .inl x_ss)]))
set_option maxHeartbeats 4000000 in
set_option maxRecDepth 100000 in
theorem m_F12_storeAll (l : Launch) : q_M l yX12_storeAll cX12_storeAll 3 none 1 24 sp_F12_storeAll := by
  refine q_meth (by decide) (fun av w Q h => by obtain ⟨mco, mre, mle, mbe, mso, mva, mwo, mwr, mlf, mlp, mfp, mfd, mgo, mbo, mpe, mye, mpr, mld, msi, mse, td, bs, ys, ls, ss, a, b, rfl, rfl, ha, hti, hta, hbi, hyi, hsi, hQ⟩ := h; exact Nat.le_of_ble_eq_true rfl) ?_
  intro p e R s m args below meth c dC dI k g A av w Q hsp oka okw X
  obtain ⟨mco, mre, mle, mbe, mso, mva, mwo, mwr, mlf, mlp, mfp, mfd, mgo, mbo, mpe, mye, mpr, mld, msi, mse, td, bs, ys, ls, ss, a, b, rfl, rfl, ha, hti, hta, hbi, hyi, hsi, hQ⟩ := hsp
  have o_a : -2147483648 ≤ a ∧ a ≤ 2147483647 := oka _ (List.mem_of_getElem? (i := 1) rfl)
  have o_b : -2147483648 ≤ b ∧ b ≤ 2147483647 := oka _ (List.mem_of_getElem? (i := 2) rfl)
  refine s_mono (s_F12_storeAll_0 X (J := fun _ _ _ _ => False) (fun d => s_cutF)) ?_
  rintro lv st w' ⟨rfl, rfl, rfl⟩
  apply And.intro
  · apply And.intro
    · intro hq_1
      refine Exists.intro [0, 1, 2, 6, 7, 8, 9, 10, 3, 4, 5, 11, 12, 13, 14, 15, 16, 17, 18, 19, 20, 21, 22, 23, 24, 25] (Exists.intro [q2 0, q2 2, q1 75, q1 _] (Exists.intro ([.inr (12, [q1 _, q2 3, q2 4, q2 5, q2 6, q2 7, q2 2, q2 8, q2 9, q2 10, q1 _, q1 _, q1 _, q1 _, q1 _, q3 _, q1 _, q1 _, q1 _, q2 1, q2 11, q1 _, q1 _, q1 _, q1 _, q1 _, q1 _, q2 12, q1 _, q2 13, q2 14, q2 15, q2 16, q1 _, q2 17, q1 _, q2 18, q2 19, q2 20, q2 21, q2 22, q1 _, q2 23, q2 24, q2 25]), .inl (0, 161, .inl _), .inl (0, 600, .inl _)]) (And.intro rfl (And.intro rfl (And.intro rfl (And.intro ⟨⟨_, rfl⟩, rfl⟩ ?_))))))
      refine Exists.intro _ (Exists.intro _ (Exists.intro _ (Exists.intro _ (Exists.intro _ (Exists.intro _ (Exists.intro _ (Exists.intro _ (Exists.intro _ (Exists.intro _ (Exists.intro _ (Exists.intro _ (Exists.intro _ (Exists.intro _ (Exists.intro _ (Exists.intro _ (Exists.intro _ (Exists.intro _ (Exists.intro _ (Exists.intro _ (Exists.intro _ (Exists.intro _ (Exists.intro _ (And.intro rfl (And.intro rfl (And.intro (by first | omega | assumption | exact q_rg_up (by assumption) (by omega) | exact q_rg_up (q_rg_up (by assumption) (by omega)) (by omega) | exact q_rg_cpy (by assumption) (by assumption)) (?_))))))))))))))))))))))))))
      intro x_bs_36 hq_36
      exact hQ _ _ _ _ ⟨⟨(by first | assumption | exact stR_BI (by omega) hbi (hti.1 (by omega)) (hta (by omega)) hq_36), (by first | assumption | exact stR_YI (by omega) hyi (hti.2.1 (by omega)) hq_49), (by first | assumption | exact stR_SI (by omega) hsi (hti.2.2 (by omega)) hq_73)⟩, (by first | exact Or.inl ⟨by omega, hq_36, rfl, rfl, rfl⟩ | exact Or.inr (Or.inl ⟨by omega, rfl, hq_49, rfl, rfl⟩) | exact Or.inr (Or.inr (Or.inl ⟨by omega, rfl, rfl, hq_61, rfl⟩)) | exact Or.inr (Or.inr (Or.inr ⟨by omega, rfl, rfl, rfl, hq_73⟩)))⟩
    apply And.intro
    · intro hq_1
      refine Exists.intro [0, 1, 3, 6, 7, 8, 9, 10, 2, 4, 5, 11, 12, 13, 14, 15, 16, 17, 18, 19, 20, 21, 22, 23, 24, 25] (Exists.intro [q2 0, q2 2, q1 161, q1 _] (Exists.intro ([.inr (12, [q1 _, q2 3, q2 4, q2 5, q2 6, q2 7, q2 8, q2 2, q2 9, q2 10, q1 _, q1 _, q1 _, q1 _, q1 _, q3 _, q1 _, q1 _, q1 _, q2 1, q2 11, q1 _, q1 _, q1 _, q1 _, q1 _, q1 _, q2 12, q1 _, q2 13, q2 14, q2 15, q2 16, q1 _, q2 17, q1 _, q2 18, q2 19, q2 20, q2 21, q2 22, q1 _, q2 23, q2 24, q2 25]), .inl (0, 161, .inl _), .inl (0, 1288, .inl _)]) (And.intro rfl (And.intro rfl (And.intro rfl (And.intro ⟨⟨_, rfl⟩, rfl⟩ ?_))))))
      refine Exists.intro _ (Exists.intro _ (Exists.intro _ (Exists.intro _ (Exists.intro _ (Exists.intro _ (Exists.intro _ (Exists.intro _ (Exists.intro _ (Exists.intro _ (Exists.intro _ (Exists.intro _ (Exists.intro _ (Exists.intro _ (Exists.intro _ (Exists.intro _ (Exists.intro _ (Exists.intro _ (Exists.intro _ (Exists.intro _ (Exists.intro _ (Exists.intro _ (Exists.intro _ (And.intro rfl (And.intro rfl (And.intro (by first | omega | assumption | exact q_rg_up (by assumption) (by omega) | exact q_rg_up (q_rg_up (by assumption) (by omega)) (by omega) | exact q_rg_cpy (by assumption) (by assumption)) (?_))))))))))))))))))))))))))
      intro x_ys_49 hq_49
      exact hQ _ _ _ _ ⟨⟨(by first | assumption | exact stR_BI (by omega) hbi (hti.1 (by omega)) (hta (by omega)) hq_36), (by first | assumption | exact stR_YI (by omega) hyi (hti.2.1 (by omega)) hq_49), (by first | assumption | exact stR_SI (by omega) hsi (hti.2.2 (by omega)) hq_73)⟩, (by first | exact Or.inl ⟨by omega, hq_36, rfl, rfl, rfl⟩ | exact Or.inr (Or.inl ⟨by omega, rfl, hq_49, rfl, rfl⟩) | exact Or.inr (Or.inr (Or.inl ⟨by omega, rfl, rfl, hq_61, rfl⟩)) | exact Or.inr (Or.inr (Or.inr ⟨by omega, rfl, rfl, rfl, hq_73⟩)))⟩
    apply And.intro
    · intro hq_1
      refine Exists.intro [0, 1, 4, 6, 7, 8, 9, 10, 2, 3, 5, 11, 12, 13, 14, 15, 16, 17, 18, 19, 20, 21, 22, 23, 24, 25] (Exists.intro [q2 0, q2 2, q1 9, q1 _] (Exists.intro ([.inr (12, [q1 _, q2 3, q2 4, q2 5, q2 6, q2 7, q2 8, q2 9, q2 2, q2 10, q1 _, q1 _, q1 _, q1 _, q1 _, q3 _, q1 _, q1 _, q1 _, q2 1, q2 11, q1 _, q1 _, q1 _, q1 _, q1 _, q1 _, q2 12, q1 _, q2 13, q2 14, q2 15, q2 16, q1 _, q2 17, q1 _, q2 18, q2 19, q2 20, q2 21, q2 22, q1 _, q2 23, q2 24, q2 25]), .inl (0, 161, .inl _), .inl (0, 72, .inl _)]) (And.intro rfl (And.intro rfl (And.intro rfl (And.intro ⟨⟨_, rfl⟩, rfl⟩ ?_))))))
      refine Exists.intro _ (Exists.intro _ (Exists.intro _ (Exists.intro _ (Exists.intro _ (Exists.intro _ (Exists.intro _ (Exists.intro _ (Exists.intro _ (Exists.intro _ (Exists.intro _ (Exists.intro _ (Exists.intro _ (Exists.intro _ (Exists.intro _ (Exists.intro _ (Exists.intro _ (Exists.intro _ (Exists.intro _ (Exists.intro _ (Exists.intro _ (Exists.intro _ (Exists.intro _ (And.intro rfl (And.intro rfl (And.intro (by first | omega | assumption | exact q_rg_up (by assumption) (by omega) | exact q_rg_up (q_rg_up (by assumption) (by omega)) (by omega) | exact q_rg_cpy (by assumption) (by assumption)) (?_))))))))))))))))))))))))))
      intro x_ls_61 hq_61
      exact hQ _ _ _ _ ⟨⟨(by first | assumption | exact stR_BI (by omega) hbi (hti.1 (by omega)) (hta (by omega)) hq_36), (by first | assumption | exact stR_YI (by omega) hyi (hti.2.1 (by omega)) hq_49), (by first | assumption | exact stR_SI (by omega) hsi (hti.2.2 (by omega)) hq_73)⟩, (by first | exact Or.inl ⟨by omega, hq_36, rfl, rfl, rfl⟩ | exact Or.inr (Or.inl ⟨by omega, rfl, hq_49, rfl, rfl⟩) | exact Or.inr (Or.inr (Or.inl ⟨by omega, rfl, rfl, hq_61, rfl⟩)) | exact Or.inr (Or.inr (Or.inr ⟨by omega, rfl, rfl, rfl, hq_73⟩)))⟩
    exact trivial
  · intro hq_1
    refine Exists.intro [0, 1, 5, 6, 7, 8, 9, 10, 2, 3, 4, 11, 12, 13, 14, 15, 16, 17, 18, 19, 20, 21, 22, 23, 24, 25] (Exists.intro [q2 0, q2 2, q1 21, q1 _] (Exists.intro ([.inr (12, [q1 _, q2 3, q2 4, q2 5, q2 6, q2 7, q2 8, q2 9, q2 10, q2 2, q1 _, q1 _, q1 _, q1 _, q1 _, q3 _, q1 _, q1 _, q1 _, q2 1, q2 11, q1 _, q1 _, q1 _, q1 _, q1 _, q1 _, q2 12, q1 _, q2 13, q2 14, q2 15, q2 16, q1 _, q2 17, q1 _, q2 18, q2 19, q2 20, q2 21, q2 22, q1 _, q2 23, q2 24, q2 25]), .inl (0, 161, .inl _), .inl (0, 168, .inl _)]) (And.intro rfl (And.intro rfl (And.intro rfl (And.intro ⟨⟨_, rfl⟩, rfl⟩ ?_))))))
    refine Exists.intro _ (Exists.intro _ (Exists.intro _ (Exists.intro _ (Exists.intro _ (Exists.intro _ (Exists.intro _ (Exists.intro _ (Exists.intro _ (Exists.intro _ (Exists.intro _ (Exists.intro _ (Exists.intro _ (Exists.intro _ (Exists.intro _ (Exists.intro _ (Exists.intro _ (Exists.intro _ (Exists.intro _ (Exists.intro _ (Exists.intro _ (Exists.intro _ (Exists.intro _ (And.intro rfl (And.intro rfl (And.intro (by first | omega | assumption | exact q_rg_up (by assumption) (by omega) | exact q_rg_up (q_rg_up (by assumption) (by omega)) (by omega) | exact q_rg_cpy (by assumption) (by assumption)) (?_))))))))))))))))))))))))))
    intro x_ss_73 hq_73
    exact hQ _ _ _ _ ⟨⟨(by first | assumption | exact stR_BI (by omega) hbi (hti.1 (by omega)) (hta (by omega)) hq_36), (by first | assumption | exact stR_YI (by omega) hyi (hti.2.1 (by omega)) hq_49), (by first | assumption | exact stR_SI (by omega) hsi (hti.2.2 (by omega)) hq_73)⟩, (by first | exact Or.inl ⟨by omega, hq_36, rfl, rfl, rfl⟩ | exact Or.inr (Or.inl ⟨by omega, rfl, hq_49, rfl, rfl⟩) | exact Or.inr (Or.inr (Or.inl ⟨by omega, rfl, rfl, hq_61, rfl⟩)) | exact Or.inr (Or.inr (Or.inr ⟨by omega, rfl, rfl, rfl, hq_73⟩)))⟩

theorem dF12_text_0 : decode cX12_text 0 = .ok (.aload_n 0, 1) := by decide +kernel
theorem dF12_text_1 : decode cX12_text 1 = .ok (.iconst 0, 1) := by decide +kernel
theorem dF12_text_2 : decode cX12_text 2 = .ok (.putfield 88, 3) := by decide +kernel
theorem dF12_text_5 : decode cX12_text 5 = .ok (.aload_n 0, 1) := by decide +kernel
theorem dF12_text_6 : decode cX12_text 6 = .ok (.aload_n 0, 1) := by decide +kernel
theorem dF12_text_7 : decode cX12_text 7 = .ok (.getfield 13, 3) := by decide +kernel
theorem dF12_text_10 : decode cX12_text 10 = .ok (.iconst 0, 1) := by decide +kernel
theorem dF12_text_11 : decode cX12_text 11 = .ok (.iaload, 1) := by decide +kernel
theorem dF12_text_12 : decode cX12_text 12 = .ok (.putfield 111, 3) := by decide +kernel
theorem dF12_text_15 : decode cX12_text 15 = .ok (.aload_n 0, 1) := by decide +kernel
theorem dF12_text_16 : decode cX12_text 16 = .ok (.getfield 13, 3) := by decide +kernel
theorem dF12_text_19 : decode cX12_text 19 = .ok (.iconst 0, 1) := by decide +kernel
theorem dF12_text_20 : decode cX12_text 20 = .ok (.iconst 0, 1) := by decide +kernel
theorem dF12_text_21 : decode cX12_text 21 = .ok (.iastore, 1) := by decide +kernel
theorem dF12_text_22 : decode cX12_text 22 = .ok (.aload_n 0, 1) := by decide +kernel
theorem dF12_text_23 : decode cX12_text 23 = .ok (.getfield 17, 3) := by decide +kernel
theorem dF12_text_26 : decode cX12_text 26 = .ok (.iconst 0, 1) := by decide +kernel
theorem dF12_text_27 : decode cX12_text 27 = .ok (.iconst 0, 1) := by decide +kernel
theorem dF12_text_28 : decode cX12_text 28 = .ok (.iastore, 1) := by decide +kernel
theorem dF12_text_29 : decode cX12_text 29 = .ok (.aload_n 0, 1) := by decide +kernel
theorem dF12_text_30 : decode cX12_text 30 = .ok (.getfield 20, 3) := by decide +kernel
theorem dF12_text_33 : decode cX12_text 33 = .ok (.iconst 0, 1) := by decide +kernel
theorem dF12_text_34 : decode cX12_text 34 = .ok (.iconst (-1), 1) := by decide +kernel
theorem dF12_text_35 : decode cX12_text 35 = .ok (.iastore, 1) := by decide +kernel
theorem dF12_text_36 : decode cX12_text 36 = .ok (.iload_n 1, 1) := by decide +kernel
theorem dF12_text_37 : decode cX12_text 37 = .ok (.iconst 0, 1) := by decide +kernel
theorem dF12_text_38 : decode cX12_text 38 = .ok (.iconst 3, 1) := by decide +kernel
theorem dF12_text_39 : decode cX12_text 39 = .ok (.invokestatic 100, 3) := by decide +kernel
theorem dF12_text_42 : decode cX12_text 42 = .ok (.ifCond .eq 30, 3) := by decide +kernel
theorem dF12_text_45 : decode cX12_text 45 = .ok (.iload_n 2, 1) := by decide +kernel
theorem dF12_text_46 : decode cX12_text 46 = .ok (.iconst (-1), 1) := by decide +kernel
theorem dF12_text_47 : decode cX12_text 47 = .ok (.if_icmp .ne 16, 3) := by decide +kernel
theorem dF12_text_50 : decode cX12_text 50 = .ok (.aload_n 0, 1) := by decide +kernel
theorem dF12_text_51 : decode cX12_text 51 = .ok (.getfield 23, 3) := by decide +kernel
theorem dF12_text_54 : decode cX12_text 54 = .ok (.iload_n 1, 1) := by decide +kernel
theorem dF12_text_55 : decode cX12_text 55 = .ok (.iaload, 1) := by decide +kernel
theorem dF12_text_56 : decode cX12_text 56 = .ok (.iconst 2, 1) := by decide +kernel
theorem dF12_text_57 : decode cX12_text 57 = .ok (.if_icmp .ne 18, 3) := by decide +kernel
theorem dF12_text_60 : decode cX12_text 60 = .ok (.goto 12, 3) := by decide +kernel
theorem dF12_text_63 : decode cX12_text 63 = .ok (.aload_n 0, 1) := by decide +kernel
theorem dF12_text_64 : decode cX12_text 64 = .ok (.iload_n 1, 1) := by decide +kernel
theorem dF12_text_65 : decode cX12_text 65 = .ok (.iload_n 2, 1) := by decide +kernel
theorem dF12_text_66 : decode cX12_text 66 = .ok (.invokevirtual 287, 3) := by decide +kernel
theorem dF12_text_69 : decode cX12_text 69 = .ok (.ifCond .ne 6, 3) := by decide +kernel
theorem dF12_text_72 : decode cX12_text 72 = .ok (.bipush (-2), 2) := by decide +kernel
theorem dF12_text_74 : decode cX12_text 74 = .ok (.ireturn, 1) := by decide +kernel
theorem dF12_text_75 : decode cX12_text 75 = .ok (.aload_n 0, 1) := by decide +kernel
theorem dF12_text_76 : decode cX12_text 76 = .ok (.iload_n 1, 1) := by decide +kernel
theorem dF12_text_77 : decode cX12_text 77 = .ok (.invokevirtual 290, 3) := by decide +kernel
theorem dF12_text_80 : decode cX12_text 80 = .ok (.ifCond .ne 5, 3) := by decide +kernel
theorem dF12_text_83 : decode cX12_text 83 = .ok (.iconst (-1), 1) := by decide +kernel
theorem dF12_text_84 : decode cX12_text 84 = .ok (.ireturn, 1) := by decide +kernel
theorem dF12_text_85 : decode cX12_text 85 = .ok (.iload_n 2, 1) := by decide +kernel
theorem dF12_text_86 : decode cX12_text 86 = .ok (.iconst (-1), 1) := by decide +kernel
theorem dF12_text_87 : decode cX12_text 87 = .ok (.if_icmp .ne 12, 3) := by decide +kernel
theorem dF12_text_90 : decode cX12_text 90 = .ok (.aload_n 0, 1) := by decide +kernel
theorem dF12_text_91 : decode cX12_text 91 = .ok (.getfield 23, 3) := by decide +kernel
theorem dF12_text_94 : decode cX12_text 94 = .ok (.iload_n 1, 1) := by decide +kernel
theorem dF12_text_95 : decode cX12_text 95 = .ok (.iaload, 1) := by decide +kernel
theorem dF12_text_96 : decode cX12_text 96 = .ok (.goto 4, 3) := by decide +kernel
theorem dF12_text_99 : decode cX12_text 99 = .ok (.iload_n 2, 1) := by decide +kernel
theorem dF12_text_100 : decode cX12_text 100 = .ok (.istore_n 3, 1) := by decide +kernel
theorem dF12_text_101 : decode cX12_text 101 = .ok (.aload_n 0, 1) := by decide +kernel
theorem dF12_text_102 : decode cX12_text 102 = .ok (.getfield 23, 3) := by decide +kernel
theorem dF12_text_105 : decode cX12_text 105 = .ok (.iload_n 1, 1) := by decide +kernel
theorem dF12_text_106 : decode cX12_text 106 = .ok (.dup2, 1) := by decide +kernel
theorem dF12_text_107 : decode cX12_text 107 = .ok (.iaload, 1) := by decide +kernel
theorem dF12_text_108 : decode cX12_text 108 = .ok (.iload_n 2, 1) := by decide +kernel
theorem dF12_text_109 : decode cX12_text 109 = .ok (.iconst (-1), 1) := by decide +kernel
theorem dF12_text_110 : decode cX12_text 110 = .ok (.if_icmp .ne 7, 3) := by decide +kernel
theorem dF12_text_113 : decode cX12_text 113 = .ok (.iconst 1, 1) := by decide +kernel
theorem dF12_text_114 : decode cX12_text 114 = .ok (.goto 4, 3) := by decide +kernel
theorem dF12_text_117 : decode cX12_text 117 = .ok (.iconst 0, 1) := by decide +kernel
theorem dF12_text_118 : decode cX12_text 118 = .ok (.iadd, 1) := by decide +kernel
theorem dF12_text_119 : decode cX12_text 119 = .ok (.iastore, 1) := by decide +kernel
theorem dF12_text_120 : decode cX12_text 120 = .ok (.aload_n 0, 1) := by decide +kernel
theorem dF12_text_121 : decode cX12_text 121 = .ok (.iload_n 1, 1) := by decide +kernel
theorem dF12_text_122 : decode cX12_text 122 = .ok (.iload_n 3, 1) := by decide +kernel
theorem dF12_text_123 : decode cX12_text 123 = .ok (.invokevirtual 293, 3) := by decide +kernel
theorem dF12_text_126 : decode cX12_text 126 = .ok (.iload_n 3, 1) := by decide +kernel
theorem dF12_text_127 : decode cX12_text 127 = .ok (.ireturn, 1) := by decide +kernel
def is_F12_text : Nat → List Nat := fun d => if d = 75 then [0, 1, 2] else []
set_option maxRecDepth 100000 in
def b_F12_text_118 (J : Nat → List qV → List qV → qW → Prop) (Q : qR) : qK := x_iadd (x_iast (x_nw (x_aload 0 (x_iload 1 (x_iload 3 (x_call (some 12) 3 sp_F12_storeAll (x_nw (x_iload 3 (x_iret Q)))))))))
set_option maxRecDepth 100000 in
theorem s_F12_text_118 {p : Program} {l : Launch} {e : Env} {R : Room} {s : State} {m : MethodId} {args : Array Value} {below : List Frame} {meth : Method} {c : Code} {nW : Nat} {dC : Nat → ClassId} {dI : Nat → Nat → Nat} {k : Nat → ClassId} {g : Nat → Nat} {A : Nat → Prop} {J : Nat → List qV → List qV → qW → Prop} {Q : qR} (X : q_X p R s m args meth c cX12_text 4 nW 9 208 RX12 (some .int) dC dI k g A) (hJ : ∀ d : Nat, q_Sd p l e R s m args below meth c 4 nW dC dI k g A (MQ below (q_post (dC, dI) k g nW Q A) args s 0 0 A) d (x_cut (is_F12_text d) (J d))) : q_Sd p l e R s m args below meth c 4 nW dC dI k g A (MQ below (q_post (dC, dI) k g nW Q A) args s 0 0 A) 118 (b_F12_text_118 J Q) := by
  unfold b_F12_text_118
  refine s_iadd X dF12_text_118 ?_
  refine s_iast X dF12_text_119 ?_
  refine s_nw ?_
  refine s_aload_n X rfl dF12_text_120 ?_
  refine s_iload_n X rfl dF12_text_121 ?_
  refine s_iload_n X rfl dF12_text_122 ?_
  refine s_callV X (m_F12_storeAll l) tw_1172 tw_1173 tw_1618 tw_134 tw_1174 rfl (by decide +kernel) ⟨by decide, by decide⟩ dF12_text_123 ?_
  refine s_nw ?_
  refine s_iload_n X rfl dF12_text_126 ?_
  exact s_iret X dF12_text_127
set_option maxRecDepth 100000 in
def b_F12_text_100 (J : Nat → List qV → List qV → qW → Prop) (Q : qR) : qK := x_istore 3 (x_aload 0 (x_get 12 5 (x_iload 1 (x_dup2 (x_iald (x_iload 2 (x_int (-1) (x_icmp_ne (x_int 0 (b_F12_text_118 J Q)) (x_int 1 (b_F12_text_118 J Q))))))))))
set_option maxRecDepth 100000 in
theorem s_F12_text_100 {p : Program} {l : Launch} {e : Env} {R : Room} {s : State} {m : MethodId} {args : Array Value} {below : List Frame} {meth : Method} {c : Code} {nW : Nat} {dC : Nat → ClassId} {dI : Nat → Nat → Nat} {k : Nat → ClassId} {g : Nat → Nat} {A : Nat → Prop} {J : Nat → List qV → List qV → qW → Prop} {Q : qR} (X : q_X p R s m args meth c cX12_text 4 nW 9 208 RX12 (some .int) dC dI k g A) (hJ : ∀ d : Nat, q_Sd p l e R s m args below meth c 4 nW dC dI k g A (MQ below (q_post (dC, dI) k g nW Q A) args s 0 0 A) d (x_cut (is_F12_text d) (J d))) : q_Sd p l e R s m args below meth c 4 nW dC dI k g A (MQ below (q_post (dC, dI) k g nW Q A) args s 0 0 A) 100 (b_F12_text_100 J Q) := by
  unfold b_F12_text_100
  refine s_istore_n X rfl (by decide) dF12_text_100 ?_
  refine s_aload_n X rfl dF12_text_101 ?_
  refine s_get X (T := TX12) (C := RX12) (N := 45) tu_X12 rfl (by decide) tw_1002 dF12_text_102 ?_
  refine s_iload_n X rfl dF12_text_105 ?_
  refine s_dup2 X dF12_text_106 ?_
  refine s_iald X dF12_text_107 ?_
  refine s_iload_n X rfl dF12_text_108 ?_
  refine s_iconst X ⟨by decide, by decide⟩ dF12_text_109 ?_
  refine s_icmp_ne X (tgt := 117) dF12_text_110 (by decide) ?_ ?_
  · refine s_iconst X ⟨by decide, by decide⟩ dF12_text_117 ?_
    exact s_F12_text_118 X hJ
  · refine s_iconst X ⟨by decide, by decide⟩ dF12_text_113 ?_
    refine s_goto X (tgt := 118) dF12_text_114 (by decide) ?_
    exact s_F12_text_118 X hJ
set_option maxRecDepth 100000 in
def b_F12_text_75 (J : Nat → List qV → List qV → qW → Prop) (Q : qR) : qK := x_aload 0 (x_iload 1 (x_call (some 12) 2 sp_F12_readText (x_nw (x_if_ne (x_iload 2 (x_int (-1) (x_icmp_ne (x_iload 2 (b_F12_text_100 J Q)) (x_aload 0 (x_get 12 5 (x_iload 1 (x_iald (b_F12_text_100 J Q)))))))) (x_int (-1) (x_iret Q))))))
set_option maxRecDepth 100000 in
theorem s_F12_text_75 {p : Program} {l : Launch} {e : Env} {R : Room} {s : State} {m : MethodId} {args : Array Value} {below : List Frame} {meth : Method} {c : Code} {nW : Nat} {dC : Nat → ClassId} {dI : Nat → Nat → Nat} {k : Nat → ClassId} {g : Nat → Nat} {A : Nat → Prop} {J : Nat → List qV → List qV → qW → Prop} {Q : qR} (X : q_X p R s m args meth c cX12_text 4 nW 9 208 RX12 (some .int) dC dI k g A) (hJ : ∀ d : Nat, q_Sd p l e R s m args below meth c 4 nW dC dI k g A (MQ below (q_post (dC, dI) k g nW Q A) args s 0 0 A) d (x_cut (is_F12_text d) (J d))) : q_Sd p l e R s m args below meth c 4 nW dC dI k g A (MQ below (q_post (dC, dI) k g nW Q A) args s 0 0 A) 75 (b_F12_text_75 J Q) := by
  unfold b_F12_text_75
  refine s_aload_n X rfl dF12_text_75 ?_
  refine s_iload_n X rfl dF12_text_76 ?_
  refine s_callV X (m_F12_readText l) tw_1064 tw_1065 tw_1612 tw_134 tw_1066 rfl (by decide +kernel) ⟨by decide, by decide⟩ dF12_text_77 ?_
  refine s_nw ?_
  refine s_if_ne X (tgt := 85) dF12_text_80 (by decide) ?_ ?_
  · refine s_iload_n X rfl dF12_text_85 ?_
    refine s_iconst X ⟨by decide, by decide⟩ dF12_text_86 ?_
    refine s_icmp_ne X (tgt := 99) dF12_text_87 (by decide) ?_ ?_
    · refine s_iload_n X rfl dF12_text_99 ?_
      exact s_F12_text_100 X hJ
    · refine s_aload_n X rfl dF12_text_90 ?_
      refine s_get X (T := TX12) (C := RX12) (N := 45) tu_X12 rfl (by decide) tw_1002 dF12_text_91 ?_
      refine s_iload_n X rfl dF12_text_94 ?_
      refine s_iald X dF12_text_95 ?_
      refine s_goto X (tgt := 100) dF12_text_96 (by decide) ?_
      exact s_F12_text_100 X hJ
  · refine s_iconst X ⟨by decide, by decide⟩ dF12_text_83 ?_
    exact s_iret X dF12_text_84
set_option maxRecDepth 100000 in
def b_F12_text_72 (J : Nat → List qV → List qV → qW → Prop) (Q : qR) : qK := x_int (-2) (x_iret Q)
set_option maxRecDepth 100000 in
theorem s_F12_text_72 {p : Program} {l : Launch} {e : Env} {R : Room} {s : State} {m : MethodId} {args : Array Value} {below : List Frame} {meth : Method} {c : Code} {nW : Nat} {dC : Nat → ClassId} {dI : Nat → Nat → Nat} {k : Nat → ClassId} {g : Nat → Nat} {A : Nat → Prop} {J : Nat → List qV → List qV → qW → Prop} {Q : qR} (X : q_X p R s m args meth c cX12_text 4 nW 9 208 RX12 (some .int) dC dI k g A) (hJ : ∀ d : Nat, q_Sd p l e R s m args below meth c 4 nW dC dI k g A (MQ below (q_post (dC, dI) k g nW Q A) args s 0 0 A) d (x_cut (is_F12_text d) (J d))) : q_Sd p l e R s m args below meth c 4 nW dC dI k g A (MQ below (q_post (dC, dI) k g nW Q A) args s 0 0 A) 72 (b_F12_text_72 J Q) := by
  unfold b_F12_text_72
  refine s_bipush X ⟨by decide, by decide⟩ (by decide) dF12_text_72 ?_
  exact s_iret X dF12_text_74
set_option maxRecDepth 100000 in
def b_F12_text_36 (J : Nat → List qV → List qV → qW → Prop) (Q : qR) : qK := x_iload 1 (x_int 0 (x_int 3 (x_callr none 3 spr_X12_in (x_if_eq (b_F12_text_72 J Q) (x_iload 2 (x_int (-1) (x_icmp_ne (x_aload 0 (x_iload 1 (x_iload 2 (x_callr (some 12) 3 spr_X12_is (x_if_ne (x_cut [0, 1, 2] (J 75)) (b_F12_text_72 J Q)))))) (x_aload 0 (x_get 12 5 (x_iload 1 (x_iald (x_int 2 (x_icmp_ne (x_cut [0, 1, 2] (J 75)) (b_F12_text_72 J Q))))))))))))))
set_option maxRecDepth 100000 in
theorem s_F12_text_36 {p : Program} {l : Launch} {e : Env} {R : Room} {s : State} {m : MethodId} {args : Array Value} {below : List Frame} {meth : Method} {c : Code} {nW : Nat} {dC : Nat → ClassId} {dI : Nat → Nat → Nat} {k : Nat → ClassId} {g : Nat → Nat} {A : Nat → Prop} {J : Nat → List qV → List qV → qW → Prop} {Q : qR} (X : q_X p R s m args meth c cX12_text 4 nW 9 208 RX12 (some .int) dC dI k g A) (hJ : ∀ d : Nat, q_Sd p l e R s m args below meth c 4 nW dC dI k g A (MQ below (q_post (dC, dI) k g nW Q A) args s 0 0 A) d (x_cut (is_F12_text d) (J d))) : q_Sd p l e R s m args below meth c 4 nW dC dI k g A (MQ below (q_post (dC, dI) k g nW Q A) args s 0 0 A) 36 (b_F12_text_36 J Q) := by
  unfold b_F12_text_36
  refine s_iload_n X rfl dF12_text_36 ?_
  refine s_iconst X ⟨by decide, by decide⟩ dF12_text_37 ?_
  refine s_iconst X ⟨by decide, by decide⟩ dF12_text_38 ?_
  refine s_callSr X (m_X12_in l) tw_1054 tw_1055 tw_134 tw_1056 (by decide +kernel) ⟨by decide, by decide⟩ dF12_text_39 ?_
  refine s_if_eq X (tgt := 72) dF12_text_42 (by decide) ?_ ?_
  · exact s_F12_text_72 X hJ
  · refine s_iload_n X rfl dF12_text_45 ?_
    refine s_iconst X ⟨by decide, by decide⟩ dF12_text_46 ?_
    refine s_icmp_ne X (tgt := 63) dF12_text_47 (by decide) ?_ ?_
    · refine s_aload_n X rfl dF12_text_63 ?_
      refine s_iload_n X rfl dF12_text_64 ?_
      refine s_iload_n X rfl dF12_text_65 ?_
      refine s_callVr X (m_X12_is l) tw_1061 tw_1062 tw_1590 tw_134 tw_1063 rfl (by decide +kernel) ⟨by decide, by decide⟩ dF12_text_66 ?_
      refine s_if_ne X (tgt := 75) dF12_text_69 (by decide) ?_ ?_
      · exact hJ 75
      · exact s_F12_text_72 X hJ
    · refine s_aload_n X rfl dF12_text_50 ?_
      refine s_get X (T := TX12) (C := RX12) (N := 45) tu_X12 rfl (by decide) tw_1002 dF12_text_51 ?_
      refine s_iload_n X rfl dF12_text_54 ?_
      refine s_iald X dF12_text_55 ?_
      refine s_iconst X ⟨by decide, by decide⟩ dF12_text_56 ?_
      refine s_icmp_ne X (tgt := 75) dF12_text_57 (by decide) ?_ ?_
      · exact hJ 75
      · refine s_goto X (tgt := 72) dF12_text_60 (by decide) ?_
        exact s_F12_text_72 X hJ
set_option maxRecDepth 100000 in
def b_F12_text_0 (J : Nat → List qV → List qV → qW → Prop) (Q : qR) : qK := x_aload 0 (x_int 0 (x_put 12 0 q_oki (x_nw (x_aload 0 (x_aload 0 (x_get 12 2 (x_int 0 (x_iald (x_put 12 11 q_oki (x_nw (x_aload 0 (x_get 12 2 (x_int 0 (x_int 0 (x_iast (x_nw (x_aload 0 (x_get 12 3 (x_int 0 (x_int 0 (x_iast (x_nw (x_aload 0 (x_get 12 4 (x_int 0 (x_int (-1) (x_iast (x_nw (b_F12_text_36 J Q)))))))))))))))))))))))))))))
set_option maxRecDepth 100000 in
theorem s_F12_text_0 {p : Program} {l : Launch} {e : Env} {R : Room} {s : State} {m : MethodId} {args : Array Value} {below : List Frame} {meth : Method} {c : Code} {nW : Nat} {dC : Nat → ClassId} {dI : Nat → Nat → Nat} {k : Nat → ClassId} {g : Nat → Nat} {A : Nat → Prop} {J : Nat → List qV → List qV → qW → Prop} {Q : qR} (X : q_X p R s m args meth c cX12_text 4 nW 9 208 RX12 (some .int) dC dI k g A) (hJ : ∀ d : Nat, q_Sd p l e R s m args below meth c 4 nW dC dI k g A (MQ below (q_post (dC, dI) k g nW Q A) args s 0 0 A) d (x_cut (is_F12_text d) (J d))) : q_Sd p l e R s m args below meth c 4 nW dC dI k g A (MQ below (q_post (dC, dI) k g nW Q A) args s 0 0 A) 0 (b_F12_text_0 J Q) := by
  unfold b_F12_text_0
  refine s_aload_n X rfl dF12_text_0 ?_
  refine s_iconst X ⟨by decide, by decide⟩ dF12_text_1 ?_
  refine s_put X (T := TX12) (C := RX12) (N := 45) tu_X12 tyX12_ok nmX12 rfl (by decide) tw_997 rfl (by decide +kernel) q_oki_t dF12_text_2 ?_
  refine s_nw ?_
  refine s_aload_n X rfl dF12_text_5 ?_
  refine s_aload_n X rfl dF12_text_6 ?_
  refine s_get X (T := TX12) (C := RX12) (N := 45) tu_X12 rfl (by decide) tw_999 dF12_text_7 ?_
  refine s_iconst X ⟨by decide, by decide⟩ dF12_text_10 ?_
  refine s_iald X dF12_text_11 ?_
  refine s_put X (T := TX12) (C := RX12) (N := 45) tu_X12 tyX12_ok nmX12 rfl (by decide) tw_1008 rfl (by decide +kernel) q_oki_t dF12_text_12 ?_
  refine s_nw ?_
  refine s_aload_n X rfl dF12_text_15 ?_
  refine s_get X (T := TX12) (C := RX12) (N := 45) tu_X12 rfl (by decide) tw_999 dF12_text_16 ?_
  refine s_iconst X ⟨by decide, by decide⟩ dF12_text_19 ?_
  refine s_iconst X ⟨by decide, by decide⟩ dF12_text_20 ?_
  refine s_iast X dF12_text_21 ?_
  refine s_nw ?_
  refine s_aload_n X rfl dF12_text_22 ?_
  refine s_get X (T := TX12) (C := RX12) (N := 45) tu_X12 rfl (by decide) tw_1000 dF12_text_23 ?_
  refine s_iconst X ⟨by decide, by decide⟩ dF12_text_26 ?_
  refine s_iconst X ⟨by decide, by decide⟩ dF12_text_27 ?_
  refine s_iast X dF12_text_28 ?_
  refine s_nw ?_
  refine s_aload_n X rfl dF12_text_29 ?_
  refine s_get X (T := TX12) (C := RX12) (N := 45) tu_X12 rfl (by decide) tw_1001 dF12_text_30 ?_
  refine s_iconst X ⟨by decide, by decide⟩ dF12_text_33 ?_
  refine s_iconst X ⟨by decide, by decide⟩ dF12_text_34 ?_
  refine s_iast X dF12_text_35 ?_
  refine s_nw ?_
  exact s_F12_text_36 X hJ

def sp_F12_text : qS := fun av w Q => ∃ (mco : Int) (mre : Int) (mle : Int) (mbe : Int) (mso : Int) (mva : Int) (mwo : Int) (mwr : Int) (mlf : Int) (mlp : Int) (mfp : Int) (mfd : Int) (mgo : Int) (mbo : Int) (mpe : Int) (mye : Int) (mpr : Int) (mld : Int) (msi : Int) (mse : Int) (tp : Nat → Int) (siz : Nat → Int) (fa : Nat → Int) (fpl : Nat → Int) (mn : Nat → Int) (bs : Nat → Int) (ys : Nat → Int) (ls : Nat → Int) (ss : Nat → Int) (td : Nat → Int) (re : Nat → Int) (a : Int) (b : Int), av = [q2 0, q1 a, q1 b] ∧ w = [.inr (12, [q1 mco, q2 1, q2 2, q2 3, q2 4, q2 5, q2 6, q2 7, q2 8, q2 9, q1 mre, q1 mle, q1 mbe, q1 mso, q1 mva, q3 mwo, q1 mwr, q1 mlf, q1 mlp, q2 10, q2 11, q1 mfp, q1 mfd, q1 mgo, q1 mbo, q1 mpe, q1 mye, q2 12, q1 mpr, q2 13, q2 14, q2 15, q2 16, q1 mld, q2 17, q1 msi, q2 18, q2 19, q2 20, q2 21, q2 22, q1 mse, q2 23, q2 24, q2 25]), .inl (1, 2400, .inl tp), .inl (0, 4, .inl siz), .inl (0, 4, .inl fa), .inl (0, 4, .inl fpl), .inl (0, 16, .inl mn), .inl (0, 600, .inl bs), .inl (0, 1288, .inl ys), .inl (0, 72, .inl ls), .inl (0, 168, .inl ss), .inl (0, 161, .inl td), .inl (0, 4, .inl re)] ∧ (BI bs) ∧ (YI ys) ∧ (SI ss) ∧ (q_rg 0 2 mn) ∧ (q_rg 0 600 siz) ∧ (∀ (r : Int) (x_mco : Int) (x_mle : Int) (x_mre : Int) (x_mbe : Int) (x_mso : Int) (x_mva : Int) (x_mwo : Int) (x_mwr : Int) (x_mlf : Int) (x_mlp : Int) (x_mgo : Int) (x_mfp : Int) (x_mfd : Int) (x_re : Nat → Int) (x_td : Nat → Int) (x_siz : Nat → Int) (x_fa : Nat → Int) (x_fpl : Nat → Int) (x_mn : Nat → Int) (x_bs : Nat → Int) (x_ys : Nat → Int) (x_ls : Nat → Int) (x_ss : Nat → Int), (BI x_bs ∧ YI x_ys ∧ SI x_ss ∧ q_rg 0 2 x_mn ∧ q_rg 0 600 x_siz ∧ TxM (tc tp) a b r siz fa fpl mn bs ys ls ss x_siz x_fa x_fpl x_mn x_bs x_ys x_ls x_ss) → Q (some (q1 r)) ([.inr (12, [q1 x_mco, q2 1, q2 2, q2 3, q2 4, q2 5, q2 6, q2 7, q2 8, q2 9, q1 x_mre, q1 x_mle, q1 x_mbe, q1 x_mso, q1 x_mva, q3 x_mwo, q1 x_mwr, q1 x_mlf, q1 x_mlp, q2 10, q2 11, q1 x_mfp, q1 x_mfd, q1 x_mgo, q1 mbo, q1 mpe, q1 mye, q2 12, q1 mpr, q2 13, q2 14, q2 15, q2 16, q1 mld, q2 17, q1 msi, q2 18, q2 19, q2 20, q2 21, q2 22, q1 mse, q2 23, q2 24, q2 25]), .inl (1, 2400, .inl tp), .inl (0, 4, .inl x_siz), .inl (0, 4, .inl x_fa), .inl (0, 4, .inl x_fpl), .inl (0, 16, .inl x_mn), .inl (0, 600, .inl x_bs), .inl (0, 1288, .inl x_ys), .inl (0, 72, .inl x_ls), .inl (0, 168, .inl x_ss), .inl (0, 161, .inl x_td), .inl (0, 4, .inl x_re)]))
def I_F12_text (mco : Int) (mre : Int) (mle : Int) (mbe : Int) (mso : Int) (mva : Int) (mwo : Int) (mwr : Int) (mlf : Int) (mlp : Int) (mfp : Int) (mfd : Int) (mgo : Int) (mbo : Int) (mpe : Int) (mye : Int) (mpr : Int) (mld : Int) (msi : Int) (mse : Int) (tp : Nat → Int) (siz : Nat → Int) (fa : Nat → Int) (fpl : Nat → Int) (mn : Nat → Int) (bs : Nat → Int) (ys : Nat → Int) (ls : Nat → Int) (ss : Nat → Int) (td : Nat → Int) (re : Nat → Int) (a : Int) (b : Int) : Nat → Nat → List qV → List qV → qW → Prop := fun dz mz vz sz wz => if dz = 75 then (∃ (y_mco : Int) (y_mle : Int) (y_siz : Nat → Int) (y_fa : Nat → Int) (y_fpl : Nat → Int), vz = [q2 0, q1 a, q1 b] ∧ sz = [] ∧ wz = [.inr (12, [q1 y_mco, q2 1, q2 2, q2 3, q2 4, q2 5, q2 6, q2 7, q2 8, q2 9, q1 mre, q1 y_mle, q1 mbe, q1 mso, q1 mva, q3 mwo, q1 mwr, q1 mlf, q1 mlp, q2 10, q2 11, q1 mfp, q1 mfd, q1 mgo, q1 mbo, q1 mpe, q1 mye, q2 12, q1 mpr, q2 13, q2 14, q2 15, q2 16, q1 mld, q2 17, q1 msi, q2 18, q2 19, q2 20, q2 21, q2 22, q1 mse, q2 23, q2 24, q2 25]), .inl (1, 2400, .inl tp), .inl (0, 4, .inl y_siz), .inl (0, 4, .inl y_fa), .inl (0, 4, .inl y_fpl), .inl (0, 16, .inl mn), .inl (0, 600, .inl bs), .inl (0, 1288, .inl ys), .inl (0, 72, .inl ls), .inl (0, 168, .inl ss), .inl (0, 161, .inl td), .inl (0, 4, .inl re)] ∧ mz = 3 ∧ (0 ≤ a ∧ a ≤ 3 ∧ (b = -1 → ¬ mn a.toNat = 2) ∧ (¬ b = -1 → 0 ≤ b ∧ b ≤ 1)) ∧ (0 ≤ y_mle ∧ y_mle ≤ 600) ∧ (q_rg 0 600 y_siz) ∧ (y_mle = siz 0) ∧ (y_siz = q_up siz 0 0) ∧ (y_fa = q_up fa 0 0 ∧ y_fpl = q_up fpl 0 (-1)) ∧ (PlO a b mn)) else False
set_option maxHeartbeats 4000000 in
set_option maxRecDepth 100000 in
theorem m_F12_text (l : Launch) : q_M l yX12_text cX12_text 4 (some .int) 9 208 sp_F12_text := by
  refine q_meth (by decide) (fun av w Q h => by obtain ⟨mco, mre, mle, mbe, mso, mva, mwo, mwr, mlf, mlp, mfp, mfd, mgo, mbo, mpe, mye, mpr, mld, msi, mse, tp, siz, fa, fpl, mn, bs, ys, ls, ss, td, re, a, b, rfl, rfl, hbi, hyi, hsi, hmn, hsz, hQ⟩ := h; exact Nat.le_of_ble_eq_true rfl) ?_
  intro p e R s m args below meth c dC dI k g A av w Q hsp oka okw X
  obtain ⟨mco, mre, mle, mbe, mso, mva, mwo, mwr, mlf, mlp, mfp, mfd, mgo, mbo, mpe, mye, mpr, mld, msi, mse, tp, siz, fa, fpl, mn, bs, ys, ls, ss, td, re, a, b, rfl, rfl, hbi, hyi, hsi, hmn, hsz, hQ⟩ := hsp
  have o_a : -2147483648 ≤ a ∧ a ≤ 2147483647 := oka _ (List.mem_of_getElem? (i := 1) rfl)
  have o_b : -2147483648 ≤ b ∧ b ≤ 2147483647 := oka _ (List.mem_of_getElem? (i := 2) rfl)
  refine s_mono (s_F12_text_0 X (J := fun dz vz sz wz => ∃ mz, I_F12_text mco mre mle mbe mso mva mwo mwr mlf mlp mfp mfd mgo mbo mpe mye mpr mld msi mse tp siz fa fpl mn bs ys ls ss td re a b dz mz vz sz wz) (q_loopn (I_F12_text mco mre mle mbe mso mva mwo mwr mlf mlp mfp mfd mgo mbo mpe mye mpr mld msi mse tp siz fa fpl mn bs ys ls ss td re a b) (fun dz J => if dz = 75 then b_F12_text_75 J Q else q_F) ?hs ?hv)) ?_
  case hs =>
    intro d J hJ
    by_cases hq_75 : d = 75
    · subst hq_75; exact s_F12_text_75 X hJ
    simp only [hq_75, if_false]
    exact s_F
  case hv =>
    intro dz mz vz sz wz hI okv oks okw hlen
    by_cases hq_75 : dz = 75
    · subst hq_75
      obtain ⟨y_mco, y_mle, y_siz, y_fa, y_fpl, rfl, rfl, rfl, hn, hs, hle, hsy, hn9, hz9, hf9, hP9⟩ := hI
      obtain ⟨rfl, rfl⟩ := hf9
      refine Exists.intro [0, 1, 11, 10, 3, 4, 2, 5, 6, 7, 8, 9, 12, 13, 14, 15, 16, 17, 18, 19, 20, 21, 22, 23, 24, 25] (Exists.intro [q2 0, q1 _] (Exists.intro ([.inr (12, [q1 _, q2 1, q2 6, q2 4, q2 5, q2 7, q2 8, q2 9, q2 10, q2 11, q1 _, q1 _, q1 _, q1 _, q1 _, q3 _, q1 _, q1 _, q1 _, q2 3, q2 2, q1 _, q1 _, q1 _, q1 _, q1 _, q1 _, q2 12, q1 _, q2 13, q2 14, q2 15, q2 16, q1 _, q2 17, q1 _, q2 18, q2 19, q2 20, q2 21, q2 22, q1 _, q2 23, q2 24, q2 25]), .inl (1, 2400, .inl _), .inl (0, 4, .inl _), .inl (0, 161, .inl _), .inl (0, 4, .inl _), .inl (0, 4, .inl _)]) (And.intro rfl (And.intro rfl (And.intro rfl (And.intro ⟨⟨_, rfl⟩, rfl⟩ ?_))))))
      refine Exists.intro _ (Exists.intro _ (Exists.intro _ (Exists.intro _ (Exists.intro _ (Exists.intro _ (Exists.intro _ (Exists.intro _ (Exists.intro _ (Exists.intro _ (Exists.intro _ (Exists.intro _ (Exists.intro _ (Exists.intro _ (Exists.intro _ (Exists.intro _ (Exists.intro _ (Exists.intro _ (Exists.intro _ (Exists.intro _ (Exists.intro _ (Exists.intro _ (Exists.intro _ (Exists.intro _ (Exists.intro _ (Exists.intro _ (And.intro rfl (And.intro rfl (And.intro (by first | omega | assumption | exact q_rg_up (by assumption) (by omega) | exact q_rg_up (q_rg_up (by assumption) (by omega)) (by omega) | exact q_rg_cpy (by assumption) (by assumption)) (And.intro (by first | omega | assumption | exact q_rg_up (by assumption) (by omega) | exact q_rg_up (q_rg_up (by assumption) (by omega)) (by omega) | exact q_rg_cpy (by assumption) (by assumption)) (?_))))))))))))))))))))))))))))))
      intro zq_77 x_mre_77 x_mbe_77 x_mso_77 x_mva_77 x_mwo_77 x_mwr_77 x_mlf_77 x_mlp_77 x_mgo_77 x_mfp_77 x_mfd_77 x_re_77 x_td_77 x_fa_77 x_fpl_77 hq_77
      apply And.intro
      · intro hq_80
        apply And.intro
        · intro hq_87
          apply And.intro
          · exact ⟨by omega, by omega⟩
          intro zq_107 hq_107
          have a107 := q_rg_at hmn hq_107
          apply And.intro
          · intro hq_110
            intro zq_118 hq_118
            first | replace hq_118 := e_add hq_118 (by omega) | replace hq_118 := e_rng hq_118
            apply And.intro
            · exact ⟨by omega, by omega⟩
            refine Exists.intro [0, 10, 6, 7, 8, 9, 1, 2, 3, 4, 5, 11, 12, 13, 14, 15, 16, 17, 18, 19, 20, 21, 22, 23, 24, 25] (Exists.intro [q2 0, q1 _, q1 _] (Exists.intro ([.inr (12, [q1 _, q2 6, q2 7, q2 8, q2 9, q2 10, q2 2, q2 3, q2 4, q2 5, q1 _, q1 _, q1 _, q1 _, q1 _, q3 _, q1 _, q1 _, q1 _, q2 1, q2 11, q1 _, q1 _, q1 _, q1 _, q1 _, q1 _, q2 12, q1 _, q2 13, q2 14, q2 15, q2 16, q1 _, q2 17, q1 _, q2 18, q2 19, q2 20, q2 21, q2 22, q1 _, q2 23, q2 24, q2 25]), .inl (0, 161, .inl _), .inl (0, 600, .inl _), .inl (0, 1288, .inl _), .inl (0, 72, .inl _), .inl (0, 168, .inl _)]) (And.intro rfl (And.intro rfl (And.intro rfl (And.intro ⟨⟨_, rfl⟩, rfl⟩ ?_))))))
            refine Exists.intro _ (Exists.intro _ (Exists.intro _ (Exists.intro _ (Exists.intro _ (Exists.intro _ (Exists.intro _ (Exists.intro _ (Exists.intro _ (Exists.intro _ (Exists.intro _ (Exists.intro _ (Exists.intro _ (Exists.intro _ (Exists.intro _ (Exists.intro _ (Exists.intro _ (Exists.intro _ (Exists.intro _ (Exists.intro _ (Exists.intro _ (Exists.intro _ (Exists.intro _ (Exists.intro _ (Exists.intro _ (Exists.intro _ (Exists.intro _ (And.intro rfl (And.intro rfl (And.intro (by first | omega | assumption | exact q_rg_up (by assumption) (by omega) | exact q_rg_up (q_rg_up (by assumption) (by omega)) (by omega) | exact q_rg_cpy (by assumption) (by assumption)) (And.intro (hq_77.2.1 (by omega)).1 (And.intro (hq_77.2.1 (by omega)).2 (And.intro (by first | omega | assumption | exact q_rg_up (by assumption) (by omega) | exact q_rg_up (q_rg_up (by assumption) (by omega)) (by omega) | exact q_rg_cpy (by assumption) (by assumption)) (And.intro (by first | omega | assumption | exact q_rg_up (by assumption) (by omega) | exact q_rg_up (q_rg_up (by assumption) (by omega)) (by omega) | exact q_rg_cpy (by assumption) (by assumption)) (And.intro (by first | omega | assumption | exact q_rg_up (by assumption) (by omega) | exact q_rg_up (q_rg_up (by assumption) (by omega)) (by omega) | exact q_rg_cpy (by assumption) (by assumption)) (?_)))))))))))))))))))))))))))))))))))
            intro x_bs_123 x_ys_123 x_ls_123 x_ss_123 hq_123
            exact hQ _ _ _ _ _ _ _ _ _ _ _ _ _ _ _ _ _ _ _ _ _ _ _ _ ⟨(by first | assumption | exact hq_123.1.1), (by first | assumption | exact hq_123.1.2.1), (by first | assumption | exact hq_123.1.2.2), (by first | assumption | exact q_rg_up (by assumption) (by omega)), (by first | assumption | exact q_rg_up (by assumption) (by omega)), (by first | exact Tx_2 (fun q9 => by unfold PlO at q9; omega) | (rw [hz9]; exact Tx_1 hP9 hn9 hq_77.2.2 hq_80) | (rw [hz9]; exact Tx_0 hP9 hn9 hq_77.2.2 hq_80 (by first | exact hq_95.trans (by unfold kTx; rw [if_pos (by omega)]) | (unfold kTx; rw [if_neg (by omega)])) (by first | (rw [if_pos (by omega)]; omega) | (rw [if_neg (by omega)]; omega)) hq_123.2))⟩
          · intro hq_110
            intro zq_118 hq_118
            first | replace hq_118 := e_add hq_118 (by omega) | replace hq_118 := e_rng hq_118
            apply And.intro
            · exact ⟨by omega, by omega⟩
            refine Exists.intro [0, 10, 6, 7, 8, 9, 1, 2, 3, 4, 5, 11, 12, 13, 14, 15, 16, 17, 18, 19, 20, 21, 22, 23, 24, 25] (Exists.intro [q2 0, q1 _, q1 _] (Exists.intro ([.inr (12, [q1 _, q2 6, q2 7, q2 8, q2 9, q2 10, q2 2, q2 3, q2 4, q2 5, q1 _, q1 _, q1 _, q1 _, q1 _, q3 _, q1 _, q1 _, q1 _, q2 1, q2 11, q1 _, q1 _, q1 _, q1 _, q1 _, q1 _, q2 12, q1 _, q2 13, q2 14, q2 15, q2 16, q1 _, q2 17, q1 _, q2 18, q2 19, q2 20, q2 21, q2 22, q1 _, q2 23, q2 24, q2 25]), .inl (0, 161, .inl _), .inl (0, 600, .inl _), .inl (0, 1288, .inl _), .inl (0, 72, .inl _), .inl (0, 168, .inl _)]) (And.intro rfl (And.intro rfl (And.intro rfl (And.intro ⟨⟨_, rfl⟩, rfl⟩ ?_))))))
            refine Exists.intro _ (Exists.intro _ (Exists.intro _ (Exists.intro _ (Exists.intro _ (Exists.intro _ (Exists.intro _ (Exists.intro _ (Exists.intro _ (Exists.intro _ (Exists.intro _ (Exists.intro _ (Exists.intro _ (Exists.intro _ (Exists.intro _ (Exists.intro _ (Exists.intro _ (Exists.intro _ (Exists.intro _ (Exists.intro _ (Exists.intro _ (Exists.intro _ (Exists.intro _ (Exists.intro _ (Exists.intro _ (Exists.intro _ (Exists.intro _ (And.intro rfl (And.intro rfl (And.intro (by first | omega | assumption | exact q_rg_up (by assumption) (by omega) | exact q_rg_up (q_rg_up (by assumption) (by omega)) (by omega) | exact q_rg_cpy (by assumption) (by assumption)) (And.intro (hq_77.2.1 (by omega)).1 (And.intro (hq_77.2.1 (by omega)).2 (And.intro (by first | omega | assumption | exact q_rg_up (by assumption) (by omega) | exact q_rg_up (q_rg_up (by assumption) (by omega)) (by omega) | exact q_rg_cpy (by assumption) (by assumption)) (And.intro (by first | omega | assumption | exact q_rg_up (by assumption) (by omega) | exact q_rg_up (q_rg_up (by assumption) (by omega)) (by omega) | exact q_rg_cpy (by assumption) (by assumption)) (And.intro (by first | omega | assumption | exact q_rg_up (by assumption) (by omega) | exact q_rg_up (q_rg_up (by assumption) (by omega)) (by omega) | exact q_rg_cpy (by assumption) (by assumption)) (?_)))))))))))))))))))))))))))))))))))
            intro x_bs_123 x_ys_123 x_ls_123 x_ss_123 hq_123
            exact hQ _ _ _ _ _ _ _ _ _ _ _ _ _ _ _ _ _ _ _ _ _ _ _ _ ⟨(by first | assumption | exact hq_123.1.1), (by first | assumption | exact hq_123.1.2.1), (by first | assumption | exact hq_123.1.2.2), (by first | assumption | exact q_rg_up (by assumption) (by omega)), (by first | assumption | exact q_rg_up (by assumption) (by omega)), (by first | exact Tx_2 (fun q9 => by unfold PlO at q9; omega) | (rw [hz9]; exact Tx_1 hP9 hn9 hq_77.2.2 hq_80) | (rw [hz9]; exact Tx_0 hP9 hn9 hq_77.2.2 hq_80 (by first | exact hq_95.trans (by unfold kTx; rw [if_pos (by omega)]) | (unfold kTx; rw [if_neg (by omega)])) (by first | (rw [if_pos (by omega)]; omega) | (rw [if_neg (by omega)]; omega)) hq_123.2))⟩
        · intro hq_87
          apply And.intro
          · exact ⟨by omega, by omega⟩
          intro zq_95 hq_95
          have a95 := q_rg_at hmn hq_95
          apply And.intro
          · exact ⟨by omega, by omega⟩
          intro zq_107 hq_107
          have a107 := q_rg_at hmn hq_107
          apply And.intro
          · intro hq_110
            intro zq_118 hq_118
            first | replace hq_118 := e_add hq_118 (by omega) | replace hq_118 := e_rng hq_118
            apply And.intro
            · exact ⟨by omega, by omega⟩
            refine Exists.intro [0, 10, 6, 7, 8, 9, 1, 2, 3, 4, 5, 11, 12, 13, 14, 15, 16, 17, 18, 19, 20, 21, 22, 23, 24, 25] (Exists.intro [q2 0, q1 _, q1 _] (Exists.intro ([.inr (12, [q1 _, q2 6, q2 7, q2 8, q2 9, q2 10, q2 2, q2 3, q2 4, q2 5, q1 _, q1 _, q1 _, q1 _, q1 _, q3 _, q1 _, q1 _, q1 _, q2 1, q2 11, q1 _, q1 _, q1 _, q1 _, q1 _, q1 _, q2 12, q1 _, q2 13, q2 14, q2 15, q2 16, q1 _, q2 17, q1 _, q2 18, q2 19, q2 20, q2 21, q2 22, q1 _, q2 23, q2 24, q2 25]), .inl (0, 161, .inl _), .inl (0, 600, .inl _), .inl (0, 1288, .inl _), .inl (0, 72, .inl _), .inl (0, 168, .inl _)]) (And.intro rfl (And.intro rfl (And.intro rfl (And.intro ⟨⟨_, rfl⟩, rfl⟩ ?_))))))
            refine Exists.intro _ (Exists.intro _ (Exists.intro _ (Exists.intro _ (Exists.intro _ (Exists.intro _ (Exists.intro _ (Exists.intro _ (Exists.intro _ (Exists.intro _ (Exists.intro _ (Exists.intro _ (Exists.intro _ (Exists.intro _ (Exists.intro _ (Exists.intro _ (Exists.intro _ (Exists.intro _ (Exists.intro _ (Exists.intro _ (Exists.intro _ (Exists.intro _ (Exists.intro _ (Exists.intro _ (Exists.intro _ (Exists.intro _ (Exists.intro _ (And.intro rfl (And.intro rfl (And.intro (by first | omega | assumption | exact q_rg_up (by assumption) (by omega) | exact q_rg_up (q_rg_up (by assumption) (by omega)) (by omega) | exact q_rg_cpy (by assumption) (by assumption)) (And.intro (hq_77.2.1 (by omega)).1 (And.intro (hq_77.2.1 (by omega)).2 (And.intro (by first | omega | assumption | exact q_rg_up (by assumption) (by omega) | exact q_rg_up (q_rg_up (by assumption) (by omega)) (by omega) | exact q_rg_cpy (by assumption) (by assumption)) (And.intro (by first | omega | assumption | exact q_rg_up (by assumption) (by omega) | exact q_rg_up (q_rg_up (by assumption) (by omega)) (by omega) | exact q_rg_cpy (by assumption) (by assumption)) (And.intro (by first | omega | assumption | exact q_rg_up (by assumption) (by omega) | exact q_rg_up (q_rg_up (by assumption) (by omega)) (by omega) | exact q_rg_cpy (by assumption) (by assumption)) (?_)))))))))))))))))))))))))))))))))))
            intro x_bs_123 x_ys_123 x_ls_123 x_ss_123 hq_123
            exact hQ _ _ _ _ _ _ _ _ _ _ _ _ _ _ _ _ _ _ _ _ _ _ _ _ ⟨(by first | assumption | exact hq_123.1.1), (by first | assumption | exact hq_123.1.2.1), (by first | assumption | exact hq_123.1.2.2), (by first | assumption | exact q_rg_up (by assumption) (by omega)), (by first | assumption | exact q_rg_up (by assumption) (by omega)), (by first | exact Tx_2 (fun q9 => by unfold PlO at q9; omega) | (rw [hz9]; exact Tx_1 hP9 hn9 hq_77.2.2 hq_80) | (rw [hz9]; exact Tx_0 hP9 hn9 hq_77.2.2 hq_80 (by first | exact hq_95.trans (by unfold kTx; rw [if_pos (by omega)]) | (unfold kTx; rw [if_neg (by omega)])) (by first | (rw [if_pos (by omega)]; omega) | (rw [if_neg (by omega)]; omega)) hq_123.2))⟩
          · intro hq_110
            intro zq_118 hq_118
            first | replace hq_118 := e_add hq_118 (by omega) | replace hq_118 := e_rng hq_118
            apply And.intro
            · exact ⟨by omega, by omega⟩
            refine Exists.intro [0, 10, 6, 7, 8, 9, 1, 2, 3, 4, 5, 11, 12, 13, 14, 15, 16, 17, 18, 19, 20, 21, 22, 23, 24, 25] (Exists.intro [q2 0, q1 _, q1 _] (Exists.intro ([.inr (12, [q1 _, q2 6, q2 7, q2 8, q2 9, q2 10, q2 2, q2 3, q2 4, q2 5, q1 _, q1 _, q1 _, q1 _, q1 _, q3 _, q1 _, q1 _, q1 _, q2 1, q2 11, q1 _, q1 _, q1 _, q1 _, q1 _, q1 _, q2 12, q1 _, q2 13, q2 14, q2 15, q2 16, q1 _, q2 17, q1 _, q2 18, q2 19, q2 20, q2 21, q2 22, q1 _, q2 23, q2 24, q2 25]), .inl (0, 161, .inl _), .inl (0, 600, .inl _), .inl (0, 1288, .inl _), .inl (0, 72, .inl _), .inl (0, 168, .inl _)]) (And.intro rfl (And.intro rfl (And.intro rfl (And.intro ⟨⟨_, rfl⟩, rfl⟩ ?_))))))
            refine Exists.intro _ (Exists.intro _ (Exists.intro _ (Exists.intro _ (Exists.intro _ (Exists.intro _ (Exists.intro _ (Exists.intro _ (Exists.intro _ (Exists.intro _ (Exists.intro _ (Exists.intro _ (Exists.intro _ (Exists.intro _ (Exists.intro _ (Exists.intro _ (Exists.intro _ (Exists.intro _ (Exists.intro _ (Exists.intro _ (Exists.intro _ (Exists.intro _ (Exists.intro _ (Exists.intro _ (Exists.intro _ (Exists.intro _ (Exists.intro _ (And.intro rfl (And.intro rfl (And.intro (by first | omega | assumption | exact q_rg_up (by assumption) (by omega) | exact q_rg_up (q_rg_up (by assumption) (by omega)) (by omega) | exact q_rg_cpy (by assumption) (by assumption)) (And.intro (hq_77.2.1 (by omega)).1 (And.intro (hq_77.2.1 (by omega)).2 (And.intro (by first | omega | assumption | exact q_rg_up (by assumption) (by omega) | exact q_rg_up (q_rg_up (by assumption) (by omega)) (by omega) | exact q_rg_cpy (by assumption) (by assumption)) (And.intro (by first | omega | assumption | exact q_rg_up (by assumption) (by omega) | exact q_rg_up (q_rg_up (by assumption) (by omega)) (by omega) | exact q_rg_cpy (by assumption) (by assumption)) (And.intro (by first | omega | assumption | exact q_rg_up (by assumption) (by omega) | exact q_rg_up (q_rg_up (by assumption) (by omega)) (by omega) | exact q_rg_cpy (by assumption) (by assumption)) (?_)))))))))))))))))))))))))))))))))))
            intro x_bs_123 x_ys_123 x_ls_123 x_ss_123 hq_123
            exact hQ _ _ _ _ _ _ _ _ _ _ _ _ _ _ _ _ _ _ _ _ _ _ _ _ ⟨(by first | assumption | exact hq_123.1.1), (by first | assumption | exact hq_123.1.2.1), (by first | assumption | exact hq_123.1.2.2), (by first | assumption | exact q_rg_up (by assumption) (by omega)), (by first | assumption | exact q_rg_up (by assumption) (by omega)), (by first | exact Tx_2 (fun q9 => by unfold PlO at q9; omega) | (rw [hz9]; exact Tx_1 hP9 hn9 hq_77.2.2 hq_80) | (rw [hz9]; exact Tx_0 hP9 hn9 hq_77.2.2 hq_80 (by first | exact hq_95.trans (by unfold kTx; rw [if_pos (by omega)]) | (unfold kTx; rw [if_neg (by omega)])) (by first | (rw [if_pos (by omega)]; omega) | (rw [if_neg (by omega)]; omega)) hq_123.2))⟩
      · intro hq_80
        exact hQ _ _ _ _ _ _ _ _ _ _ _ _ _ _ _ _ _ _ _ _ _ _ _ _ ⟨(by first | assumption | exact hq_123.1.1), (by first | assumption | exact hq_123.1.2.1), (by first | assumption | exact hq_123.1.2.2), (by first | assumption | exact q_rg_up (by assumption) (by omega)), (by first | assumption | exact q_rg_up (by assumption) (by omega)), (by first | exact Tx_2 (fun q9 => by unfold PlO at q9; omega) | (rw [hz9]; exact Tx_1 hP9 hn9 hq_77.2.2 hq_80) | (rw [hz9]; exact Tx_0 hP9 hn9 hq_77.2.2 hq_80 (by first | exact hq_95.trans (by unfold kTx; rw [if_pos (by omega)]) | (unfold kTx; rw [if_neg (by omega)])) (by first | (rw [if_pos (by omega)]; omega) | (rw [if_neg (by omega)]; omega)) hq_123.2))⟩
    simp only [I_F12_text, hq_75, if_false] at hI
  rintro lv st w' ⟨rfl, rfl, rfl⟩
  apply And.intro
  · exact trivial
  apply And.intro
  · exact ⟨by omega, by omega⟩
  intro zq_11 hq_11
  have a11 := q_rg_at hsz hq_11
  apply And.intro
  · exact trivial
  apply And.intro
  · exact ⟨by omega, by omega⟩
  apply And.intro
  · exact ⟨by omega, by omega⟩
  apply And.intro
  · exact ⟨by omega, by omega⟩
  refine Exists.intro [] (Exists.intro [q1 _, q1 _, q1 _] (Exists.intro [] (And.intro rfl (And.intro rfl (And.intro rfl (And.intro trivial ?_))))))
  refine Exists.intro _ (Exists.intro _ (Exists.intro _ (And.intro rfl (And.intro rfl (?_)))))
  intro zq_39 hq_39
  apply And.intro
  · intro hq_42
    first | replace hq_39 := dj1 hq_39 hq_42 | replace hq_39 := dj0 hq_39 hq_42
    exact hQ _ _ _ _ _ _ _ _ _ _ _ _ _ _ _ _ _ _ _ _ _ _ _ _ ⟨(by first | assumption | exact hq_123.1.1), (by first | assumption | exact hq_123.1.2.1), (by first | assumption | exact hq_123.1.2.2), (by first | assumption | exact q_rg_up (by assumption) (by omega)), (by first | assumption | exact q_rg_up (by assumption) (by omega)), (by first | exact Tx_2 (fun q9 => by unfold PlO at q9; omega) | (rw [hz9]; exact Tx_1 hP9 hn9 hq_77.2.2 hq_80) | (rw [hz9]; exact Tx_0 hP9 hn9 hq_77.2.2 hq_80 (by first | exact hq_95.trans (by unfold kTx; rw [if_pos (by omega)]) | (unfold kTx; rw [if_neg (by omega)])) (by first | (rw [if_pos (by omega)]; omega) | (rw [if_neg (by omega)]; omega)) hq_123.2))⟩
  · intro hq_42
    first | replace hq_39 := dj1 hq_39 hq_42 | replace hq_39 := dj0 hq_39 hq_42
    apply And.intro
    · intro hq_47
      refine Exists.intro [0, 5, 1, 2, 3, 4, 6, 7, 8, 9, 10, 11, 12, 13, 14, 15, 16, 17, 18, 19, 20, 21, 22, 23, 24, 25] (Exists.intro [q2 0, q1 _, q1 _] (Exists.intro ([.inr (12, [q1 _, q2 2, q2 3, q2 4, q2 5, q2 1, q2 6, q2 7, q2 8, q2 9, q1 _, q1 _, q1 _, q1 _, q1 _, q3 _, q1 _, q1 _, q1 _, q2 10, q2 11, q1 _, q1 _, q1 _, q1 _, q1 _, q1 _, q2 12, q1 _, q2 13, q2 14, q2 15, q2 16, q1 _, q2 17, q1 _, q2 18, q2 19, q2 20, q2 21, q2 22, q1 _, q2 23, q2 24, q2 25]), .inl (0, 16, .inl _)]) (And.intro rfl (And.intro rfl (And.intro rfl (And.intro ⟨⟨_, rfl⟩, rfl⟩ ?_))))))
      refine Exists.intro _ (Exists.intro _ (Exists.intro _ (Exists.intro _ (Exists.intro _ (Exists.intro _ (Exists.intro _ (Exists.intro _ (Exists.intro _ (Exists.intro _ (Exists.intro _ (Exists.intro _ (Exists.intro _ (Exists.intro _ (Exists.intro _ (Exists.intro _ (Exists.intro _ (Exists.intro _ (Exists.intro _ (Exists.intro _ (Exists.intro _ (Exists.intro _ (Exists.intro _ (And.intro rfl (And.intro rfl (And.intro (by first | omega | assumption | exact q_rg_up (by assumption) (by omega) | exact q_rg_up (q_rg_up (by assumption) (by omega)) (by omega) | exact q_rg_cpy (by assumption) (by assumption)) (And.intro (by first | omega | assumption | exact q_rg_up (by assumption) (by omega) | exact q_rg_up (q_rg_up (by assumption) (by omega)) (by omega) | exact q_rg_cpy (by assumption) (by assumption)) (?_)))))))))))))))))))))))))))
      intro zq_66 hq_66
      apply And.intro
      · intro hq_69
        first | replace hq_66 := dj1 hq_66 hq_69 | replace hq_66 := dj0 hq_66 hq_69
        exact ⟨_, _, _, _, _, _, rfl, rfl, rfl, rfl, (by first | omega | assumption | exact q_rg_up (by assumption) (by omega) | exact q_rg_up (q_rg_up (by assumption) (by omega)) (by omega) | exact q_rg_cpy (by assumption) (by assumption)), (by first | omega | assumption | exact q_rg_up (by assumption) (by omega) | exact q_rg_up (q_rg_up (by assumption) (by omega)) (by omega) | exact q_rg_cpy (by assumption) (by assumption)), (by first | assumption | exact q_rg_up (by assumption) (by omega)), (by exact hq_11), rfl, ⟨rfl, rfl⟩, (by unfold PlO; omega)⟩
      · intro hq_69
        first | replace hq_66 := dj1 hq_66 hq_69 | replace hq_66 := dj0 hq_66 hq_69
        exact hQ _ _ _ _ _ _ _ _ _ _ _ _ _ _ _ _ _ _ _ _ _ _ _ _ ⟨(by first | assumption | exact hq_123.1.1), (by first | assumption | exact hq_123.1.2.1), (by first | assumption | exact hq_123.1.2.2), (by first | assumption | exact q_rg_up (by assumption) (by omega)), (by first | assumption | exact q_rg_up (by assumption) (by omega)), (by first | exact Tx_2 (fun q9 => by unfold PlO at q9; omega) | (rw [hz9]; exact Tx_1 hP9 hn9 hq_77.2.2 hq_80) | (rw [hz9]; exact Tx_0 hP9 hn9 hq_77.2.2 hq_80 (by first | exact hq_95.trans (by unfold kTx; rw [if_pos (by omega)]) | (unfold kTx; rw [if_neg (by omega)])) (by first | (rw [if_pos (by omega)]; omega) | (rw [if_neg (by omega)]; omega)) hq_123.2))⟩
    · intro hq_47
      apply And.intro
      · exact ⟨by omega, by omega⟩
      intro zq_55 hq_55
      have a55 := q_rg_at hmn hq_55
      apply And.intro
      · intro hq_57
        exact ⟨_, _, _, _, _, _, rfl, rfl, rfl, rfl, (by first | omega | assumption | exact q_rg_up (by assumption) (by omega) | exact q_rg_up (q_rg_up (by assumption) (by omega)) (by omega) | exact q_rg_cpy (by assumption) (by assumption)), (by first | omega | assumption | exact q_rg_up (by assumption) (by omega) | exact q_rg_up (q_rg_up (by assumption) (by omega)) (by omega) | exact q_rg_cpy (by assumption) (by assumption)), (by first | assumption | exact q_rg_up (by assumption) (by omega)), (by exact hq_11), rfl, ⟨rfl, rfl⟩, (by unfold PlO; omega)⟩
      · intro hq_57
        exact hQ _ _ _ _ _ _ _ _ _ _ _ _ _ _ _ _ _ _ _ _ _ _ _ _ ⟨(by first | assumption | exact hq_123.1.1), (by first | assumption | exact hq_123.1.2.1), (by first | assumption | exact hq_123.1.2.2), (by first | assumption | exact q_rg_up (by assumption) (by omega)), (by first | assumption | exact q_rg_up (by assumption) (by omega)), (by first | exact Tx_2 (fun q9 => by unfold PlO at q9; omega) | (rw [hz9]; exact Tx_1 hP9 hn9 hq_77.2.2 hq_80) | (rw [hz9]; exact Tx_0 hP9 hn9 hq_77.2.2 hq_80 (by first | exact hq_95.trans (by unfold kTx; rw [if_pos (by omega)]) | (unfold kTx; rw [if_neg (by omega)])) (by first | (rw [if_pos (by omega)]; omega) | (rw [if_neg (by omega)]; omega)) hq_123.2))⟩
