theorem dF6_lineWord_0 : decode cX6_lineWord 0 = .ok (.iload_n 1, 1) := by decide +kernel
theorem dF6_lineWord_1 : decode cX6_lineWord 1 = .ok (.tableswitch 87 0 3 #[31, 36, 41, 71], 31) := by decide +kernel
theorem dF6_lineWord_32 : decode cX6_lineWord 32 = .ok (.aload_n 0, 1) := by decide +kernel
theorem dF6_lineWord_33 : decode cX6_lineWord 33 = .ok (.invokevirtual 142, 3) := by decide +kernel
theorem dF6_lineWord_36 : decode cX6_lineWord 36 = .ok (.ireturn, 1) := by decide +kernel
theorem dF6_lineWord_37 : decode cX6_lineWord 37 = .ok (.aload_n 0, 1) := by decide +kernel
theorem dF6_lineWord_38 : decode cX6_lineWord 38 = .ok (.invokevirtual 145, 3) := by decide +kernel
theorem dF6_lineWord_41 : decode cX6_lineWord 41 = .ok (.ireturn, 1) := by decide +kernel
theorem dF6_lineWord_42 : decode cX6_lineWord 42 = .ok (.aload_n 0, 1) := by decide +kernel
theorem dF6_lineWord_43 : decode cX6_lineWord 43 = .ok (.ldc 148, 2) := by decide +kernel
theorem dF6_lineWord_45 : decode cX6_lineWord 45 = .ok (.invokevirtual 150, 3) := by decide +kernel
theorem dF6_lineWord_48 : decode cX6_lineWord 48 = .ok (.ifCond .eq 8, 3) := by decide +kernel
theorem dF6_lineWord_51 : decode cX6_lineWord 51 = .ok (.bipush 14, 2) := by decide +kernel
theorem dF6_lineWord_53 : decode cX6_lineWord 53 = .ok (.goto 18, 3) := by decide +kernel
theorem dF6_lineWord_56 : decode cX6_lineWord 56 = .ok (.aload_n 0, 1) := by decide +kernel
theorem dF6_lineWord_57 : decode cX6_lineWord 57 = .ok (.ldc 154, 2) := by decide +kernel
theorem dF6_lineWord_59 : decode cX6_lineWord 59 = .ok (.invokevirtual 150, 3) := by decide +kernel
theorem dF6_lineWord_62 : decode cX6_lineWord 62 = .ok (.ifCond .eq 8, 3) := by decide +kernel
theorem dF6_lineWord_65 : decode cX6_lineWord 65 = .ok (.bipush 15, 2) := by decide +kernel
theorem dF6_lineWord_67 : decode cX6_lineWord 67 = .ok (.goto 4, 3) := by decide +kernel
theorem dF6_lineWord_70 : decode cX6_lineWord 70 = .ok (.iconst (-1), 1) := by decide +kernel
theorem dF6_lineWord_71 : decode cX6_lineWord 71 = .ok (.ireturn, 1) := by decide +kernel
theorem dF6_lineWord_72 : decode cX6_lineWord 72 = .ok (.aload_n 0, 1) := by decide +kernel
theorem dF6_lineWord_73 : decode cX6_lineWord 73 = .ok (.ldc 156, 2) := by decide +kernel
theorem dF6_lineWord_75 : decode cX6_lineWord 75 = .ok (.invokevirtual 150, 3) := by decide +kernel
theorem dF6_lineWord_78 : decode cX6_lineWord 78 = .ok (.ifCond .eq 8, 3) := by decide +kernel
theorem dF6_lineWord_81 : decode cX6_lineWord 81 = .ok (.bipush 16, 2) := by decide +kernel
theorem dF6_lineWord_83 : decode cX6_lineWord 83 = .ok (.goto 4, 3) := by decide +kernel
theorem dF6_lineWord_86 : decode cX6_lineWord 86 = .ok (.iconst (-1), 1) := by decide +kernel
theorem dF6_lineWord_87 : decode cX6_lineWord 87 = .ok (.ireturn, 1) := by decide +kernel
theorem dF6_lineWord_88 : decode cX6_lineWord 88 = .ok (.iconst (-1), 1) := by decide +kernel
theorem dF6_lineWord_89 : decode cX6_lineWord 89 = .ok (.ireturn, 1) := by decide +kernel
def is_F6_lineWord : Nat → List Nat := fun d => []
set_option maxRecDepth 100000 in
def b_F6_lineWord_87 (J : Nat → List qV → List qV → qW → Prop) (Q : qR) : qK := x_iret Q
set_option maxRecDepth 100000 in
theorem s_F6_lineWord_87 {p : Program} {l : Launch} {e : Env} {R : Room} {s : State} {m : MethodId} {args : Array Value} {below : List Frame} {meth : Method} {c : Code} {nW : Nat} {dC : Nat → ClassId} {dI : Nat → Nat → Nat} {k : Nat → ClassId} {g : Nat → Nat} {A : Nat → Prop} {J : Nat → List qV → List qV → qW → Prop} {Q : qR} (X : q_X p R s m args meth c cX6_lineWord 2 nW 6 127 RX6 (some .int) dC dI k g A) (hJ : ∀ d : Nat, q_Sd p l e R s m args below meth c 2 nW dC dI k g A (MQ below (q_post (dC, dI) k g nW Q A) args s 0 0 A) d (x_cut (is_F6_lineWord d) (J d))) : q_Sd p l e R s m args below meth c 2 nW dC dI k g A (MQ below (q_post (dC, dI) k g nW Q A) args s 0 0 A) 87 (b_F6_lineWord_87 J Q) := by
  unfold b_F6_lineWord_87
  exact s_iret X dF6_lineWord_87
set_option maxRecDepth 100000 in
def b_F6_lineWord_71 (J : Nat → List qV → List qV → qW → Prop) (Q : qR) : qK := x_iret Q
set_option maxRecDepth 100000 in
theorem s_F6_lineWord_71 {p : Program} {l : Launch} {e : Env} {R : Room} {s : State} {m : MethodId} {args : Array Value} {below : List Frame} {meth : Method} {c : Code} {nW : Nat} {dC : Nat → ClassId} {dI : Nat → Nat → Nat} {k : Nat → ClassId} {g : Nat → Nat} {A : Nat → Prop} {J : Nat → List qV → List qV → qW → Prop} {Q : qR} (X : q_X p R s m args meth c cX6_lineWord 2 nW 6 127 RX6 (some .int) dC dI k g A) (hJ : ∀ d : Nat, q_Sd p l e R s m args below meth c 2 nW dC dI k g A (MQ below (q_post (dC, dI) k g nW Q A) args s 0 0 A) d (x_cut (is_F6_lineWord d) (J d))) : q_Sd p l e R s m args below meth c 2 nW dC dI k g A (MQ below (q_post (dC, dI) k g nW Q A) args s 0 0 A) 71 (b_F6_lineWord_71 J Q) := by
  unfold b_F6_lineWord_71
  exact s_iret X dF6_lineWord_71
set_option maxRecDepth 100000 in
def b_F6_lineWord_0 (J : Nat → List qV → List qV → qW → Prop) (Q : qR) : qK := x_iload 1 (x_sw 0 3 [x_aload 0 (x_callr (some 6) 1 spr_F6_boroughWord (x_iret Q)), x_aload 0 (x_callr (some 6) 1 spr_F6_yearWord (x_iret Q)), x_aload 0 (x_ldcs 14 (x_callr (some 6) 2 spr_F6_is (x_if_eq (x_aload 0 (x_ldcs 15 (x_callr (some 6) 2 spr_F6_is (x_if_eq (x_int (-1) (b_F6_lineWord_71 J Q)) (x_int 15 (b_F6_lineWord_71 J Q)))))) (x_int 14 (b_F6_lineWord_71 J Q))))), x_aload 0 (x_ldcs 16 (x_callr (some 6) 2 spr_F6_is (x_if_eq (x_int (-1) (b_F6_lineWord_87 J Q)) (x_int 16 (b_F6_lineWord_87 J Q)))))] (x_int (-1) (x_iret Q)))
set_option maxRecDepth 100000 in
theorem s_F6_lineWord_0 {p : Program} {l : Launch} {e : Env} {R : Room} {s : State} {m : MethodId} {args : Array Value} {below : List Frame} {meth : Method} {c : Code} {nW : Nat} {dC : Nat → ClassId} {dI : Nat → Nat → Nat} {k : Nat → ClassId} {g : Nat → Nat} {A : Nat → Prop} {J : Nat → List qV → List qV → qW → Prop} {Q : qR} (X : q_X p R s m args meth c cX6_lineWord 2 nW 6 127 RX6 (some .int) dC dI k g A) (hJ : ∀ d : Nat, q_Sd p l e R s m args below meth c 2 nW dC dI k g A (MQ below (q_post (dC, dI) k g nW Q A) args s 0 0 A) d (x_cut (is_F6_lineWord d) (J d))) : q_Sd p l e R s m args below meth c 2 nW dC dI k g A (MQ below (q_post (dC, dI) k g nW Q A) args s 0 0 A) 0 (b_F6_lineWord_0 J Q) := by
  unfold b_F6_lineWord_0
  refine s_iload_n X rfl dF6_lineWord_0 ?_
  refine s_sw X (ts := [32, 37, 42, 72]) (td := 88) dF6_lineWord_1 (by decide) (by decide) (by decide) rfl ?_ ?_
  · intro i t K ht hK
    match i, ht, hK with
    | 0, ht, hK =>
      cases ht
      cases hK
      refine s_aload_n X rfl dF6_lineWord_32 ?_
      refine s_callVr X (m_F6_boroughWord l) tw_408 tw_409 tw_1508 tw_128 tw_410 rfl (by decide +kernel) ⟨by decide, by decide⟩ dF6_lineWord_33 ?_
      exact s_iret X dF6_lineWord_36
    | 1, ht, hK =>
      cases ht
      cases hK
      refine s_aload_n X rfl dF6_lineWord_37 ?_
      refine s_callVr X (m_F6_yearWord l) tw_457 tw_458 tw_1530 tw_128 tw_459 rfl (by decide +kernel) ⟨by decide, by decide⟩ dF6_lineWord_38 ?_
      exact s_iret X dF6_lineWord_41
    | 2, ht, hK =>
      cases ht
      cases hK
      refine s_aload_n X rfl dF6_lineWord_42 ?_
      refine s_ldcs X (i := 14) rfl rfl dF6_lineWord_43 ?_
      refine s_callVr X (m_F6_is l) tw_411 tw_412 tw_1511 tw_128 tw_413 rfl (by decide +kernel) ⟨by decide, by decide⟩ dF6_lineWord_45 ?_
      refine s_if_eq X (tgt := 56) dF6_lineWord_48 (by decide) ?_ ?_
      · refine s_aload_n X rfl dF6_lineWord_56 ?_
        refine s_ldcs X (i := 15) rfl rfl dF6_lineWord_57 ?_
        refine s_callVr X (m_F6_is l) tw_411 tw_412 tw_1511 tw_128 tw_413 rfl (by decide +kernel) ⟨by decide, by decide⟩ dF6_lineWord_59 ?_
        refine s_if_eq X (tgt := 70) dF6_lineWord_62 (by decide) ?_ ?_
        · refine s_iconst X ⟨by decide, by decide⟩ dF6_lineWord_70 ?_
          exact s_F6_lineWord_71 X hJ
        · refine s_bipush X ⟨by decide, by decide⟩ (by decide) dF6_lineWord_65 ?_
          refine s_goto X (tgt := 71) dF6_lineWord_67 (by decide) ?_
          exact s_F6_lineWord_71 X hJ
      · refine s_bipush X ⟨by decide, by decide⟩ (by decide) dF6_lineWord_51 ?_
        refine s_goto X (tgt := 71) dF6_lineWord_53 (by decide) ?_
        exact s_F6_lineWord_71 X hJ
    | 3, ht, hK =>
      cases ht
      cases hK
      refine s_aload_n X rfl dF6_lineWord_72 ?_
      refine s_ldcs X (i := 16) rfl rfl dF6_lineWord_73 ?_
      refine s_callVr X (m_F6_is l) tw_411 tw_412 tw_1511 tw_128 tw_413 rfl (by decide +kernel) ⟨by decide, by decide⟩ dF6_lineWord_75 ?_
      refine s_if_eq X (tgt := 86) dF6_lineWord_78 (by decide) ?_ ?_
      · refine s_iconst X ⟨by decide, by decide⟩ dF6_lineWord_86 ?_
        exact s_F6_lineWord_87 X hJ
      · refine s_bipush X ⟨by decide, by decide⟩ (by decide) dF6_lineWord_81 ?_
        refine s_goto X (tgt := 87) dF6_lineWord_83 (by decide) ?_
        exact s_F6_lineWord_87 X hJ
    | i + 4, ht, hK => exact absurd ht (by simp)
  · refine s_iconst X ⟨by decide, by decide⟩ dF6_lineWord_88 ?_
    exact s_iret X dF6_lineWord_89

def spr_F6_lineWord : List qV → qW → (Option qV → Prop) → Prop := fun av w Q => ∃ (rln : Int) (rfa : Int) (rpl : Int) (rst : Int) (rnx : Int) (rtk : Int) (rnm : Int) (rnp : Int) (rnd : Int) (tp : Nat → Int) (a : Int), av = [q2 0, q1 a] ∧ w = [.inr (6, [q2 2, q2 3, q2 4, q2 5, q2 6, q2 1, q1 rln, q1 rfa, q1 rpl, q1 rst, q1 rnx, q1 rtk, q1 rnm, q1 rnp, q1 rnd]), .inl (1, 600, .inl tp)] ∧ ((0 ≤ rst ∧ rst ≤ 600) ∧ 0 ≤ rnx ∧ rnx ≤ rln ∧ rln ≤ 600) ∧ (∀ (r : Int) , r = liP (tc tp) rst rnx rtk a → Q (some (q1 r)))
def sp_F6_lineWord : qS := fun av w Q => spr_F6_lineWord av w (fun r => Q r w)
set_option maxHeartbeats 4000000 in
set_option maxRecDepth 100000 in
theorem m_F6_lineWord (l : Launch) : q_M l yX6_lineWord cX6_lineWord 2 (some .int) 6 127 sp_F6_lineWord := by
  refine q_meth (by decide) (fun av w Q h => by obtain ⟨rln, rfa, rpl, rst, rnx, rtk, rnm, rnp, rnd, tp, a, rfl, rfl, hw9, hQ⟩ := h; exact Nat.le_of_ble_eq_true rfl) ?_
  intro p e R s m args below meth c dC dI k g A av w Q hsp oka okw X
  obtain ⟨rln, rfa, rpl, rst, rnx, rtk, rnm, rnp, rnd, tp, a, rfl, rfl, hw9, hQ⟩ := hsp
  have o_a : -2147483648 ≤ a ∧ a ≤ 2147483647 := oka _ (List.mem_of_getElem? (i := 1) rfl)
  refine s_mono (s_F6_lineWord_0 X (J := fun _ _ _ _ => False) (fun d => s_cutF)) ?_
  rintro lv st w' ⟨rfl, rfl, rfl⟩
  apply And.intro
  · apply And.intro
    · intro hq_1
      refine Exists.intro [0, 1, 2, 3, 4, 5, 6] (Exists.intro [q2 0] (Exists.intro ([.inr (6, [q2 2, q2 3, q2 4, q2 5, q2 6, q2 1, q1 _, q1 _, q1 _, q1 _, q1 _, q1 _, q1 _, q1 _, q1 _]), .inl (1, 600, .inl _)]) (And.intro rfl (And.intro rfl (And.intro rfl (And.intro ⟨⟨_, rfl⟩, rfl⟩ ?_))))))
      refine Exists.intro _ (Exists.intro _ (Exists.intro _ (Exists.intro _ (Exists.intro _ (Exists.intro _ (Exists.intro _ (Exists.intro _ (Exists.intro _ (Exists.intro _ (And.intro rfl (And.intro rfl (And.intro (by first | assumption | exact q_rg_up (by assumption) (by omega) | exact q_rg_up (q_rg_up (by assumption) (by omega)) (by omega) | exact q_rg_cpy (by assumption) (by assumption) | omega) (?_)))))))))))))
      intro zq_33 hq_33
      exact hQ _ (by first | (unfold liP; rw [if_pos (by omega)]; exact hq_33) | (unfold liP; rw [if_neg (by omega), if_pos (by omega)]; exact hq_38) | (unfold liP leP; rw [if_neg (by omega), if_neg (by omega), if_pos (by omega), pif_t y45]) | (unfold liP leP; rw [if_neg (by omega), if_neg (by omega), if_pos (by omega), pif_f y45, pif_t y59]) | (unfold liP leP; rw [if_neg (by omega), if_neg (by omega), if_pos (by omega), pif_f y45, pif_f y59]) | (unfold liP siP; rw [if_neg (by omega), if_neg (by omega), if_neg (by omega), if_pos (by omega), pif_t y75]) | (unfold liP siP; rw [if_neg (by omega), if_neg (by omega), if_neg (by omega), if_pos (by omega), pif_f y75]) | (unfold liP; rw [if_neg (by omega), if_neg (by omega), if_neg (by omega), if_neg (by omega)]))
    apply And.intro
    · intro hq_1
      refine Exists.intro [0, 1, 2, 3, 4, 5, 6] (Exists.intro [q2 0] (Exists.intro ([.inr (6, [q2 2, q2 3, q2 4, q2 5, q2 6, q2 1, q1 _, q1 _, q1 _, q1 _, q1 _, q1 _, q1 _, q1 _, q1 _]), .inl (1, 600, .inl _)]) (And.intro rfl (And.intro rfl (And.intro rfl (And.intro ⟨⟨_, rfl⟩, rfl⟩ ?_))))))
      refine Exists.intro _ (Exists.intro _ (Exists.intro _ (Exists.intro _ (Exists.intro _ (Exists.intro _ (Exists.intro _ (Exists.intro _ (Exists.intro _ (Exists.intro _ (And.intro rfl (And.intro rfl (And.intro (by first | assumption | exact q_rg_up (by assumption) (by omega) | exact q_rg_up (q_rg_up (by assumption) (by omega)) (by omega) | exact q_rg_cpy (by assumption) (by assumption) | omega) (?_)))))))))))))
      intro zq_38 hq_38
      exact hQ _ (by first | (unfold liP; rw [if_pos (by omega)]; exact hq_33) | (unfold liP; rw [if_neg (by omega), if_pos (by omega)]; exact hq_38) | (unfold liP leP; rw [if_neg (by omega), if_neg (by omega), if_pos (by omega), pif_t y45]) | (unfold liP leP; rw [if_neg (by omega), if_neg (by omega), if_pos (by omega), pif_f y45, pif_t y59]) | (unfold liP leP; rw [if_neg (by omega), if_neg (by omega), if_pos (by omega), pif_f y45, pif_f y59]) | (unfold liP siP; rw [if_neg (by omega), if_neg (by omega), if_neg (by omega), if_pos (by omega), pif_t y75]) | (unfold liP siP; rw [if_neg (by omega), if_neg (by omega), if_neg (by omega), if_pos (by omega), pif_f y75]) | (unfold liP; rw [if_neg (by omega), if_neg (by omega), if_neg (by omega), if_neg (by omega)]))
    apply And.intro
    · intro hq_1
      refine Exists.intro [0, 1, 2, 3, 4, 5, 6] (Exists.intro [q2 0, q2 (14 + 2000)] (Exists.intro ([.inr (6, [q2 2, q2 3, q2 4, q2 5, q2 6, q2 1, q1 _, q1 _, q1 _, q1 _, q1 _, q1 _, q1 _, q1 _, q1 _]), .inl (1, 600, .inl _)]) (And.intro rfl (And.intro rfl (And.intro rfl (And.intro ⟨⟨_, rfl⟩, rfl⟩ ?_))))))
      refine Exists.intro _ (Exists.intro _ (Exists.intro _ (Exists.intro _ (Exists.intro _ (Exists.intro _ (Exists.intro _ (Exists.intro _ (Exists.intro _ (Exists.intro _ (Exists.intro 14 (And.intro rfl (And.intro rfl (And.intro (by decide) (And.intro (by first | assumption | exact q_rg_up (by assumption) (by omega) | exact q_rg_up (q_rg_up (by assumption) (by omega)) (by omega) | exact q_rg_cpy (by assumption) (by assumption) | omega) (?_)))))))))))))))
      intro zq_45 hq_45
      apply And.intro
      · intro hq_48
        have y45 := IsR_0 hq_45 hq_48
        refine Exists.intro [0, 1, 2, 3, 4, 5, 6] (Exists.intro [q2 0, q2 (15 + 2000)] (Exists.intro ([.inr (6, [q2 2, q2 3, q2 4, q2 5, q2 6, q2 1, q1 _, q1 _, q1 _, q1 _, q1 _, q1 _, q1 _, q1 _, q1 _]), .inl (1, 600, .inl _)]) (And.intro rfl (And.intro rfl (And.intro rfl (And.intro ⟨⟨_, rfl⟩, rfl⟩ ?_))))))
        refine Exists.intro _ (Exists.intro _ (Exists.intro _ (Exists.intro _ (Exists.intro _ (Exists.intro _ (Exists.intro _ (Exists.intro _ (Exists.intro _ (Exists.intro _ (Exists.intro 15 (And.intro rfl (And.intro rfl (And.intro (by decide) (And.intro (by first | assumption | exact q_rg_up (by assumption) (by omega) | exact q_rg_up (q_rg_up (by assumption) (by omega)) (by omega) | exact q_rg_cpy (by assumption) (by assumption) | omega) (?_)))))))))))))))
        intro zq_59 hq_59
        apply And.intro
        · intro hq_62
          have y59 := IsR_0 hq_59 hq_62
          exact hQ _ (by first | (unfold liP; rw [if_pos (by omega)]; exact hq_33) | (unfold liP; rw [if_neg (by omega), if_pos (by omega)]; exact hq_38) | (unfold liP leP; rw [if_neg (by omega), if_neg (by omega), if_pos (by omega), pif_t y45]) | (unfold liP leP; rw [if_neg (by omega), if_neg (by omega), if_pos (by omega), pif_f y45, pif_t y59]) | (unfold liP leP; rw [if_neg (by omega), if_neg (by omega), if_pos (by omega), pif_f y45, pif_f y59]) | (unfold liP siP; rw [if_neg (by omega), if_neg (by omega), if_neg (by omega), if_pos (by omega), pif_t y75]) | (unfold liP siP; rw [if_neg (by omega), if_neg (by omega), if_neg (by omega), if_pos (by omega), pif_f y75]) | (unfold liP; rw [if_neg (by omega), if_neg (by omega), if_neg (by omega), if_neg (by omega)]))
        · intro hq_62
          have y59 := IsR_1 hq_59 hq_62
          exact hQ _ (by first | (unfold liP; rw [if_pos (by omega)]; exact hq_33) | (unfold liP; rw [if_neg (by omega), if_pos (by omega)]; exact hq_38) | (unfold liP leP; rw [if_neg (by omega), if_neg (by omega), if_pos (by omega), pif_t y45]) | (unfold liP leP; rw [if_neg (by omega), if_neg (by omega), if_pos (by omega), pif_f y45, pif_t y59]) | (unfold liP leP; rw [if_neg (by omega), if_neg (by omega), if_pos (by omega), pif_f y45, pif_f y59]) | (unfold liP siP; rw [if_neg (by omega), if_neg (by omega), if_neg (by omega), if_pos (by omega), pif_t y75]) | (unfold liP siP; rw [if_neg (by omega), if_neg (by omega), if_neg (by omega), if_pos (by omega), pif_f y75]) | (unfold liP; rw [if_neg (by omega), if_neg (by omega), if_neg (by omega), if_neg (by omega)]))
      · intro hq_48
        have y45 := IsR_1 hq_45 hq_48
        exact hQ _ (by first | (unfold liP; rw [if_pos (by omega)]; exact hq_33) | (unfold liP; rw [if_neg (by omega), if_pos (by omega)]; exact hq_38) | (unfold liP leP; rw [if_neg (by omega), if_neg (by omega), if_pos (by omega), pif_t y45]) | (unfold liP leP; rw [if_neg (by omega), if_neg (by omega), if_pos (by omega), pif_f y45, pif_t y59]) | (unfold liP leP; rw [if_neg (by omega), if_neg (by omega), if_pos (by omega), pif_f y45, pif_f y59]) | (unfold liP siP; rw [if_neg (by omega), if_neg (by omega), if_neg (by omega), if_pos (by omega), pif_t y75]) | (unfold liP siP; rw [if_neg (by omega), if_neg (by omega), if_neg (by omega), if_pos (by omega), pif_f y75]) | (unfold liP; rw [if_neg (by omega), if_neg (by omega), if_neg (by omega), if_neg (by omega)]))
    apply And.intro
    · intro hq_1
      refine Exists.intro [0, 1, 2, 3, 4, 5, 6] (Exists.intro [q2 0, q2 (16 + 2000)] (Exists.intro ([.inr (6, [q2 2, q2 3, q2 4, q2 5, q2 6, q2 1, q1 _, q1 _, q1 _, q1 _, q1 _, q1 _, q1 _, q1 _, q1 _]), .inl (1, 600, .inl _)]) (And.intro rfl (And.intro rfl (And.intro rfl (And.intro ⟨⟨_, rfl⟩, rfl⟩ ?_))))))
      refine Exists.intro _ (Exists.intro _ (Exists.intro _ (Exists.intro _ (Exists.intro _ (Exists.intro _ (Exists.intro _ (Exists.intro _ (Exists.intro _ (Exists.intro _ (Exists.intro 16 (And.intro rfl (And.intro rfl (And.intro (by decide) (And.intro (by first | assumption | exact q_rg_up (by assumption) (by omega) | exact q_rg_up (q_rg_up (by assumption) (by omega)) (by omega) | exact q_rg_cpy (by assumption) (by assumption) | omega) (?_)))))))))))))))
      intro zq_75 hq_75
      apply And.intro
      · intro hq_78
        have y75 := IsR_0 hq_75 hq_78
        exact hQ _ (by first | (unfold liP; rw [if_pos (by omega)]; exact hq_33) | (unfold liP; rw [if_neg (by omega), if_pos (by omega)]; exact hq_38) | (unfold liP leP; rw [if_neg (by omega), if_neg (by omega), if_pos (by omega), pif_t y45]) | (unfold liP leP; rw [if_neg (by omega), if_neg (by omega), if_pos (by omega), pif_f y45, pif_t y59]) | (unfold liP leP; rw [if_neg (by omega), if_neg (by omega), if_pos (by omega), pif_f y45, pif_f y59]) | (unfold liP siP; rw [if_neg (by omega), if_neg (by omega), if_neg (by omega), if_pos (by omega), pif_t y75]) | (unfold liP siP; rw [if_neg (by omega), if_neg (by omega), if_neg (by omega), if_pos (by omega), pif_f y75]) | (unfold liP; rw [if_neg (by omega), if_neg (by omega), if_neg (by omega), if_neg (by omega)]))
      · intro hq_78
        have y75 := IsR_1 hq_75 hq_78
        exact hQ _ (by first | (unfold liP; rw [if_pos (by omega)]; exact hq_33) | (unfold liP; rw [if_neg (by omega), if_pos (by omega)]; exact hq_38) | (unfold liP leP; rw [if_neg (by omega), if_neg (by omega), if_pos (by omega), pif_t y45]) | (unfold liP leP; rw [if_neg (by omega), if_neg (by omega), if_pos (by omega), pif_f y45, pif_t y59]) | (unfold liP leP; rw [if_neg (by omega), if_neg (by omega), if_pos (by omega), pif_f y45, pif_f y59]) | (unfold liP siP; rw [if_neg (by omega), if_neg (by omega), if_neg (by omega), if_pos (by omega), pif_t y75]) | (unfold liP siP; rw [if_neg (by omega), if_neg (by omega), if_neg (by omega), if_pos (by omega), pif_f y75]) | (unfold liP; rw [if_neg (by omega), if_neg (by omega), if_neg (by omega), if_neg (by omega)]))
    exact trivial
  · intro hq_1
    exact hQ _ (by first | (unfold liP; rw [if_pos (by omega)]; exact hq_33) | (unfold liP; rw [if_neg (by omega), if_pos (by omega)]; exact hq_38) | (unfold liP leP; rw [if_neg (by omega), if_neg (by omega), if_pos (by omega), pif_t y45]) | (unfold liP leP; rw [if_neg (by omega), if_neg (by omega), if_pos (by omega), pif_f y45, pif_t y59]) | (unfold liP leP; rw [if_neg (by omega), if_neg (by omega), if_pos (by omega), pif_f y45, pif_f y59]) | (unfold liP siP; rw [if_neg (by omega), if_neg (by omega), if_neg (by omega), if_pos (by omega), pif_t y75]) | (unfold liP siP; rw [if_neg (by omega), if_neg (by omega), if_neg (by omega), if_pos (by omega), pif_f y75]) | (unfold liP; rw [if_neg (by omega), if_neg (by omega), if_neg (by omega), if_neg (by omega)]))

theorem dF6_isFull_0 : decode cX6_isFull 0 = .ok (.iload_n 1, 1) := by decide +kernel
theorem dF6_isFull_1 : decode cX6_isFull 1 = .ok (.lookupswitch 115 #[(0, 43), (3, 61), (4, 79), (16, 97)], 43) := by decide +kernel
theorem dF6_isFull_44 : decode cX6_isFull 44 = .ok (.aload_n 0, 1) := by decide +kernel
theorem dF6_isFull_45 : decode cX6_isFull 45 = .ok (.getfield 12, 3) := by decide +kernel
theorem dF6_isFull_48 : decode cX6_isFull 48 = .ok (.getfield 103, 3) := by decide +kernel
theorem dF6_isFull_51 : decode cX6_isFull 51 = .ok (.bipush 8, 2) := by decide +kernel
theorem dF6_isFull_53 : decode cX6_isFull 53 = .ok (.if_icmp .lt 7, 3) := by decide +kernel
theorem dF6_isFull_56 : decode cX6_isFull 56 = .ok (.iconst 1, 1) := by decide +kernel
theorem dF6_isFull_57 : decode cX6_isFull 57 = .ok (.goto 4, 3) := by decide +kernel
theorem dF6_isFull_60 : decode cX6_isFull 60 = .ok (.iconst 0, 1) := by decide +kernel
theorem dF6_isFull_61 : decode cX6_isFull 61 = .ok (.ireturn, 1) := by decide +kernel
theorem dF6_isFull_62 : decode cX6_isFull 62 = .ok (.aload_n 0, 1) := by decide +kernel
theorem dF6_isFull_63 : decode cX6_isFull 63 = .ok (.getfield 12, 3) := by decide +kernel
theorem dF6_isFull_66 : decode cX6_isFull 66 = .ok (.getfield 110, 3) := by decide +kernel
theorem dF6_isFull_69 : decode cX6_isFull 69 = .ok (.bipush 6, 2) := by decide +kernel
theorem dF6_isFull_71 : decode cX6_isFull 71 = .ok (.if_icmp .lt 7, 3) := by decide +kernel
theorem dF6_isFull_74 : decode cX6_isFull 74 = .ok (.iconst 1, 1) := by decide +kernel
theorem dF6_isFull_75 : decode cX6_isFull 75 = .ok (.goto 4, 3) := by decide +kernel
theorem dF6_isFull_78 : decode cX6_isFull 78 = .ok (.iconst 0, 1) := by decide +kernel
theorem dF6_isFull_79 : decode cX6_isFull 79 = .ok (.ireturn, 1) := by decide +kernel
theorem dF6_isFull_80 : decode cX6_isFull 80 = .ok (.aload_n 0, 1) := by decide +kernel
theorem dF6_isFull_81 : decode cX6_isFull 81 = .ok (.getfield 12, 3) := by decide +kernel
theorem dF6_isFull_84 : decode cX6_isFull 84 = .ok (.getfield 219, 3) := by decide +kernel
theorem dF6_isFull_87 : decode cX6_isFull 87 = .ok (.bipush 6, 2) := by decide +kernel
theorem dF6_isFull_89 : decode cX6_isFull 89 = .ok (.if_icmp .lt 7, 3) := by decide +kernel
theorem dF6_isFull_92 : decode cX6_isFull 92 = .ok (.iconst 1, 1) := by decide +kernel
theorem dF6_isFull_93 : decode cX6_isFull 93 = .ok (.goto 4, 3) := by decide +kernel
theorem dF6_isFull_96 : decode cX6_isFull 96 = .ok (.iconst 0, 1) := by decide +kernel
theorem dF6_isFull_97 : decode cX6_isFull 97 = .ok (.ireturn, 1) := by decide +kernel
theorem dF6_isFull_98 : decode cX6_isFull 98 = .ok (.aload_n 0, 1) := by decide +kernel
theorem dF6_isFull_99 : decode cX6_isFull 99 = .ok (.getfield 35, 3) := by decide +kernel
theorem dF6_isFull_102 : decode cX6_isFull 102 = .ok (.getfield 91, 3) := by decide +kernel
theorem dF6_isFull_105 : decode cX6_isFull 105 = .ok (.bipush 10, 2) := by decide +kernel
theorem dF6_isFull_107 : decode cX6_isFull 107 = .ok (.if_icmp .lt 7, 3) := by decide +kernel
theorem dF6_isFull_110 : decode cX6_isFull 110 = .ok (.iconst 1, 1) := by decide +kernel
theorem dF6_isFull_111 : decode cX6_isFull 111 = .ok (.goto 4, 3) := by decide +kernel
theorem dF6_isFull_114 : decode cX6_isFull 114 = .ok (.iconst 0, 1) := by decide +kernel
theorem dF6_isFull_115 : decode cX6_isFull 115 = .ok (.ireturn, 1) := by decide +kernel
theorem dF6_isFull_116 : decode cX6_isFull 116 = .ok (.iload_n 1, 1) := by decide +kernel
theorem dF6_isFull_117 : decode cX6_isFull 117 = .ok (.bipush 9, 2) := by decide +kernel
theorem dF6_isFull_119 : decode cX6_isFull 119 = .ok (.if_icmp .lt 25, 3) := by decide +kernel
theorem dF6_isFull_122 : decode cX6_isFull 122 = .ok (.iload_n 1, 1) := by decide +kernel
theorem dF6_isFull_123 : decode cX6_isFull 123 = .ok (.bipush 13, 2) := by decide +kernel
theorem dF6_isFull_125 : decode cX6_isFull 125 = .ok (.if_icmp .gt 19, 3) := by decide +kernel
theorem dF6_isFull_128 : decode cX6_isFull 128 = .ok (.aload_n 0, 1) := by decide +kernel
theorem dF6_isFull_129 : decode cX6_isFull 129 = .ok (.getfield 21, 3) := by decide +kernel
theorem dF6_isFull_132 : decode cX6_isFull 132 = .ok (.getfield 87, 3) := by decide +kernel
theorem dF6_isFull_135 : decode cX6_isFull 135 = .ok (.bipush 40, 2) := by decide +kernel
theorem dF6_isFull_137 : decode cX6_isFull 137 = .ok (.if_icmp .lt 7, 3) := by decide +kernel
theorem dF6_isFull_140 : decode cX6_isFull 140 = .ok (.iconst 1, 1) := by decide +kernel
theorem dF6_isFull_141 : decode cX6_isFull 141 = .ok (.goto 4, 3) := by decide +kernel
theorem dF6_isFull_144 : decode cX6_isFull 144 = .ok (.iconst 0, 1) := by decide +kernel
theorem dF6_isFull_145 : decode cX6_isFull 145 = .ok (.ireturn, 1) := by decide +kernel
def is_F6_isFull : Nat → List Nat := fun d => []
set_option maxRecDepth 100000 in
def b_F6_isFull_145 (J : Nat → List qV → List qV → qW → Prop) (Q : qR) : qK := x_zret Q
set_option maxRecDepth 100000 in
theorem s_F6_isFull_145 {p : Program} {l : Launch} {e : Env} {R : Room} {s : State} {m : MethodId} {args : Array Value} {below : List Frame} {meth : Method} {c : Code} {nW : Nat} {dC : Nat → ClassId} {dI : Nat → Nat → Nat} {k : Nat → ClassId} {g : Nat → Nat} {A : Nat → Prop} {J : Nat → List qV → List qV → qW → Prop} {Q : qR} (X : q_X p R s m args meth c cX6_isFull 2 nW 0 0 RX6 (some .boolean) dC dI k g A) (hJ : ∀ d : Nat, q_Sd p l e R s m args below meth c 2 nW dC dI k g A (MQ below (q_post (dC, dI) k g nW Q A) args s 0 0 A) d (x_cut (is_F6_isFull d) (J d))) : q_Sd p l e R s m args below meth c 2 nW dC dI k g A (MQ below (q_post (dC, dI) k g nW Q A) args s 0 0 A) 145 (b_F6_isFull_145 J Q) := by
  unfold b_F6_isFull_145
  exact s_zret X dF6_isFull_145
set_option maxRecDepth 100000 in
def b_F6_isFull_144 (J : Nat → List qV → List qV → qW → Prop) (Q : qR) : qK := x_int 0 (b_F6_isFull_145 J Q)
set_option maxRecDepth 100000 in
theorem s_F6_isFull_144 {p : Program} {l : Launch} {e : Env} {R : Room} {s : State} {m : MethodId} {args : Array Value} {below : List Frame} {meth : Method} {c : Code} {nW : Nat} {dC : Nat → ClassId} {dI : Nat → Nat → Nat} {k : Nat → ClassId} {g : Nat → Nat} {A : Nat → Prop} {J : Nat → List qV → List qV → qW → Prop} {Q : qR} (X : q_X p R s m args meth c cX6_isFull 2 nW 0 0 RX6 (some .boolean) dC dI k g A) (hJ : ∀ d : Nat, q_Sd p l e R s m args below meth c 2 nW dC dI k g A (MQ below (q_post (dC, dI) k g nW Q A) args s 0 0 A) d (x_cut (is_F6_isFull d) (J d))) : q_Sd p l e R s m args below meth c 2 nW dC dI k g A (MQ below (q_post (dC, dI) k g nW Q A) args s 0 0 A) 144 (b_F6_isFull_144 J Q) := by
  unfold b_F6_isFull_144
  refine s_iconst X ⟨by decide, by decide⟩ dF6_isFull_144 ?_
  exact s_F6_isFull_145 X hJ
set_option maxRecDepth 100000 in
def b_F6_isFull_115 (J : Nat → List qV → List qV → qW → Prop) (Q : qR) : qK := x_zret Q
set_option maxRecDepth 100000 in
theorem s_F6_isFull_115 {p : Program} {l : Launch} {e : Env} {R : Room} {s : State} {m : MethodId} {args : Array Value} {below : List Frame} {meth : Method} {c : Code} {nW : Nat} {dC : Nat → ClassId} {dI : Nat → Nat → Nat} {k : Nat → ClassId} {g : Nat → Nat} {A : Nat → Prop} {J : Nat → List qV → List qV → qW → Prop} {Q : qR} (X : q_X p R s m args meth c cX6_isFull 2 nW 0 0 RX6 (some .boolean) dC dI k g A) (hJ : ∀ d : Nat, q_Sd p l e R s m args below meth c 2 nW dC dI k g A (MQ below (q_post (dC, dI) k g nW Q A) args s 0 0 A) d (x_cut (is_F6_isFull d) (J d))) : q_Sd p l e R s m args below meth c 2 nW dC dI k g A (MQ below (q_post (dC, dI) k g nW Q A) args s 0 0 A) 115 (b_F6_isFull_115 J Q) := by
  unfold b_F6_isFull_115
  exact s_zret X dF6_isFull_115
set_option maxRecDepth 100000 in
def b_F6_isFull_97 (J : Nat → List qV → List qV → qW → Prop) (Q : qR) : qK := x_zret Q
set_option maxRecDepth 100000 in
theorem s_F6_isFull_97 {p : Program} {l : Launch} {e : Env} {R : Room} {s : State} {m : MethodId} {args : Array Value} {below : List Frame} {meth : Method} {c : Code} {nW : Nat} {dC : Nat → ClassId} {dI : Nat → Nat → Nat} {k : Nat → ClassId} {g : Nat → Nat} {A : Nat → Prop} {J : Nat → List qV → List qV → qW → Prop} {Q : qR} (X : q_X p R s m args meth c cX6_isFull 2 nW 0 0 RX6 (some .boolean) dC dI k g A) (hJ : ∀ d : Nat, q_Sd p l e R s m args below meth c 2 nW dC dI k g A (MQ below (q_post (dC, dI) k g nW Q A) args s 0 0 A) d (x_cut (is_F6_isFull d) (J d))) : q_Sd p l e R s m args below meth c 2 nW dC dI k g A (MQ below (q_post (dC, dI) k g nW Q A) args s 0 0 A) 97 (b_F6_isFull_97 J Q) := by
  unfold b_F6_isFull_97
  exact s_zret X dF6_isFull_97
set_option maxRecDepth 100000 in
def b_F6_isFull_79 (J : Nat → List qV → List qV → qW → Prop) (Q : qR) : qK := x_zret Q
set_option maxRecDepth 100000 in
theorem s_F6_isFull_79 {p : Program} {l : Launch} {e : Env} {R : Room} {s : State} {m : MethodId} {args : Array Value} {below : List Frame} {meth : Method} {c : Code} {nW : Nat} {dC : Nat → ClassId} {dI : Nat → Nat → Nat} {k : Nat → ClassId} {g : Nat → Nat} {A : Nat → Prop} {J : Nat → List qV → List qV → qW → Prop} {Q : qR} (X : q_X p R s m args meth c cX6_isFull 2 nW 0 0 RX6 (some .boolean) dC dI k g A) (hJ : ∀ d : Nat, q_Sd p l e R s m args below meth c 2 nW dC dI k g A (MQ below (q_post (dC, dI) k g nW Q A) args s 0 0 A) d (x_cut (is_F6_isFull d) (J d))) : q_Sd p l e R s m args below meth c 2 nW dC dI k g A (MQ below (q_post (dC, dI) k g nW Q A) args s 0 0 A) 79 (b_F6_isFull_79 J Q) := by
  unfold b_F6_isFull_79
  exact s_zret X dF6_isFull_79
set_option maxRecDepth 100000 in
def b_F6_isFull_61 (J : Nat → List qV → List qV → qW → Prop) (Q : qR) : qK := x_zret Q
set_option maxRecDepth 100000 in
theorem s_F6_isFull_61 {p : Program} {l : Launch} {e : Env} {R : Room} {s : State} {m : MethodId} {args : Array Value} {below : List Frame} {meth : Method} {c : Code} {nW : Nat} {dC : Nat → ClassId} {dI : Nat → Nat → Nat} {k : Nat → ClassId} {g : Nat → Nat} {A : Nat → Prop} {J : Nat → List qV → List qV → qW → Prop} {Q : qR} (X : q_X p R s m args meth c cX6_isFull 2 nW 0 0 RX6 (some .boolean) dC dI k g A) (hJ : ∀ d : Nat, q_Sd p l e R s m args below meth c 2 nW dC dI k g A (MQ below (q_post (dC, dI) k g nW Q A) args s 0 0 A) d (x_cut (is_F6_isFull d) (J d))) : q_Sd p l e R s m args below meth c 2 nW dC dI k g A (MQ below (q_post (dC, dI) k g nW Q A) args s 0 0 A) 61 (b_F6_isFull_61 J Q) := by
  unfold b_F6_isFull_61
  exact s_zret X dF6_isFull_61
set_option maxRecDepth 100000 in
def b_F6_isFull_0 (J : Nat → List qV → List qV → qW → Prop) (Q : qR) : qK := x_iload 1 (x_lsw (List.map (fun (q : Int × Nat × qK) => (q.1, q.2.2)) [(0, 44, x_aload 0 (x_get 6 0 (x_get 0 7 (x_int 8 (x_icmp_lt (x_int 0 (b_F6_isFull_61 J Q)) (x_int 1 (b_F6_isFull_61 J Q))))))), (3, 62, x_aload 0 (x_get 6 0 (x_get 0 10 (x_int 6 (x_icmp_lt (x_int 0 (b_F6_isFull_79 J Q)) (x_int 1 (b_F6_isFull_79 J Q))))))), (4, 80, x_aload 0 (x_get 6 0 (x_get 0 11 (x_int 6 (x_icmp_lt (x_int 0 (b_F6_isFull_97 J Q)) (x_int 1 (b_F6_isFull_97 J Q))))))), (16, 98, x_aload 0 (x_get 6 3 (x_get 7 2 (x_int 10 (x_icmp_lt (x_int 0 (b_F6_isFull_115 J Q)) (x_int 1 (b_F6_isFull_115 J Q)))))))]) (x_iload 1 (x_int 9 (x_icmp_lt (b_F6_isFull_144 J Q) (x_iload 1 (x_int 13 (x_icmp_gt (b_F6_isFull_144 J Q) (x_aload 0 (x_get 6 1 (x_get 10 4 (x_int 40 (x_icmp_lt (b_F6_isFull_144 J Q) (x_int 1 (b_F6_isFull_145 J Q))))))))))))))
set_option maxRecDepth 100000 in
theorem s_F6_isFull_0 {p : Program} {l : Launch} {e : Env} {R : Room} {s : State} {m : MethodId} {args : Array Value} {below : List Frame} {meth : Method} {c : Code} {nW : Nat} {dC : Nat → ClassId} {dI : Nat → Nat → Nat} {k : Nat → ClassId} {g : Nat → Nat} {A : Nat → Prop} {J : Nat → List qV → List qV → qW → Prop} {Q : qR} (X : q_X p R s m args meth c cX6_isFull 2 nW 0 0 RX6 (some .boolean) dC dI k g A) (hJ : ∀ d : Nat, q_Sd p l e R s m args below meth c 2 nW dC dI k g A (MQ below (q_post (dC, dI) k g nW Q A) args s 0 0 A) d (x_cut (is_F6_isFull d) (J d))) : q_Sd p l e R s m args below meth c 2 nW dC dI k g A (MQ below (q_post (dC, dI) k g nW Q A) args s 0 0 A) 0 (b_F6_isFull_0 J Q) := by
  unfold b_F6_isFull_0
  refine s_iload_n X rfl dF6_isFull_0 ?_
  refine s_lsw X [(0, 44, x_aload 0 (x_get 6 0 (x_get 0 7 (x_int 8 (x_icmp_lt (x_int 0 (b_F6_isFull_61 J Q)) (x_int 1 (b_F6_isFull_61 J Q))))))), (3, 62, x_aload 0 (x_get 6 0 (x_get 0 10 (x_int 6 (x_icmp_lt (x_int 0 (b_F6_isFull_79 J Q)) (x_int 1 (b_F6_isFull_79 J Q))))))), (4, 80, x_aload 0 (x_get 6 0 (x_get 0 11 (x_int 6 (x_icmp_lt (x_int 0 (b_F6_isFull_97 J Q)) (x_int 1 (b_F6_isFull_97 J Q))))))), (16, 98, x_aload 0 (x_get 6 3 (x_get 7 2 (x_int 10 (x_icmp_lt (x_int 0 (b_F6_isFull_115 J Q)) (x_int 1 (b_F6_isFull_115 J Q)))))))] (td := 116) dF6_isFull_1 (by decide) rfl (by decide) ?_ ?_
  · intro q hq
    simp only [List.mem_cons, List.not_mem_nil, or_false] at hq
    rcases hq with rfl | rfl | rfl | rfl
    · show q_Sd p l e R s m args below meth c 2 nW dC dI k g A _ 44 _
      refine s_aload_n X rfl dF6_isFull_44 ?_
      refine s_get X (T := TX6) (C := RX6) (N := 15) tu_X6 rfl (by decide) tw_267 dF6_isFull_45 ?_
      refine s_get X (T := TX0) (C := RX0) (N := 12) tu_X0 rfl (by decide) tw_195 dF6_isFull_48 ?_
      refine s_bipush X ⟨by decide, by decide⟩ (by decide) dF6_isFull_51 ?_
      refine s_icmp_lt X (tgt := 60) dF6_isFull_53 (by decide) ?_ ?_
      · refine s_iconst X ⟨by decide, by decide⟩ dF6_isFull_60 ?_
        exact s_F6_isFull_61 X hJ
      · refine s_iconst X ⟨by decide, by decide⟩ dF6_isFull_56 ?_
        refine s_goto X (tgt := 61) dF6_isFull_57 (by decide) ?_
        exact s_F6_isFull_61 X hJ
    · show q_Sd p l e R s m args below meth c 2 nW dC dI k g A _ 62 _
      refine s_aload_n X rfl dF6_isFull_62 ?_
      refine s_get X (T := TX6) (C := RX6) (N := 15) tu_X6 rfl (by decide) tw_267 dF6_isFull_63 ?_
      refine s_get X (T := TX0) (C := RX0) (N := 12) tu_X0 rfl (by decide) tw_204 dF6_isFull_66 ?_
      refine s_bipush X ⟨by decide, by decide⟩ (by decide) dF6_isFull_69 ?_
      refine s_icmp_lt X (tgt := 78) dF6_isFull_71 (by decide) ?_ ?_
      · refine s_iconst X ⟨by decide, by decide⟩ dF6_isFull_78 ?_
        exact s_F6_isFull_79 X hJ
      · refine s_iconst X ⟨by decide, by decide⟩ dF6_isFull_74 ?_
        refine s_goto X (tgt := 79) dF6_isFull_75 (by decide) ?_
        exact s_F6_isFull_79 X hJ
    · show q_Sd p l e R s m args below meth c 2 nW dC dI k g A _ 80 _
      refine s_aload_n X rfl dF6_isFull_80 ?_
      refine s_get X (T := TX6) (C := RX6) (N := 15) tu_X6 rfl (by decide) tw_267 dF6_isFull_81 ?_
      refine s_get X (T := TX0) (C := RX0) (N := 12) tu_X0 rfl (by decide) tw_209 dF6_isFull_84 ?_
      refine s_bipush X ⟨by decide, by decide⟩ (by decide) dF6_isFull_87 ?_
      refine s_icmp_lt X (tgt := 96) dF6_isFull_89 (by decide) ?_ ?_
      · refine s_iconst X ⟨by decide, by decide⟩ dF6_isFull_96 ?_
        exact s_F6_isFull_97 X hJ
      · refine s_iconst X ⟨by decide, by decide⟩ dF6_isFull_92 ?_
        refine s_goto X (tgt := 97) dF6_isFull_93 (by decide) ?_
        exact s_F6_isFull_97 X hJ
    · show q_Sd p l e R s m args below meth c 2 nW dC dI k g A _ 98 _
      refine s_aload_n X rfl dF6_isFull_98 ?_
      refine s_get X (T := TX6) (C := RX6) (N := 15) tu_X6 rfl (by decide) tw_273 dF6_isFull_99 ?_
      refine s_get X (T := TX7) (C := RX7) (N := 3) tu_X7 rfl (by decide) tw_247 dF6_isFull_102 ?_
      refine s_bipush X ⟨by decide, by decide⟩ (by decide) dF6_isFull_105 ?_
      refine s_icmp_lt X (tgt := 114) dF6_isFull_107 (by decide) ?_ ?_
      · refine s_iconst X ⟨by decide, by decide⟩ dF6_isFull_114 ?_
        exact s_F6_isFull_115 X hJ
      · refine s_iconst X ⟨by decide, by decide⟩ dF6_isFull_110 ?_
        refine s_goto X (tgt := 115) dF6_isFull_111 (by decide) ?_
        exact s_F6_isFull_115 X hJ
  · refine s_iload_n X rfl dF6_isFull_116 ?_
    refine s_bipush X ⟨by decide, by decide⟩ (by decide) dF6_isFull_117 ?_
    refine s_icmp_lt X (tgt := 144) dF6_isFull_119 (by decide) ?_ ?_
    · exact s_F6_isFull_144 X hJ
    · refine s_iload_n X rfl dF6_isFull_122 ?_
      refine s_bipush X ⟨by decide, by decide⟩ (by decide) dF6_isFull_123 ?_
      refine s_icmp_gt X (tgt := 144) dF6_isFull_125 (by decide) ?_ ?_
      · exact s_F6_isFull_144 X hJ
      · refine s_aload_n X rfl dF6_isFull_128 ?_
        refine s_get X (T := TX6) (C := RX6) (N := 15) tu_X6 rfl (by decide) tw_269 dF6_isFull_129 ?_
        refine s_get X (T := TX10) (C := RX10) (N := 5) tu_X10 rfl (by decide) tw_225 dF6_isFull_132 ?_
        refine s_bipush X ⟨by decide, by decide⟩ (by decide) dF6_isFull_135 ?_
        refine s_icmp_lt X (tgt := 144) dF6_isFull_137 (by decide) ?_ ?_
        · exact s_F6_isFull_144 X hJ
        · refine s_iconst X ⟨by decide, by decide⟩ dF6_isFull_140 ?_
          refine s_goto X (tgt := 145) dF6_isFull_141 (by decide) ?_
          exact s_F6_isFull_145 X hJ

def spr_F6_isFull : List qV → qW → (Option qV → Prop) → Prop := fun av w Q => ∃ (rln : Int) (rfa : Int) (rpl : Int) (rst : Int) (rnx : Int) (rtk : Int) (rnm : Int) (rnp : Int) (rnd : Int) (rbf1 : Nat → Int) (rbf2 : Nat → Int) (rbf3 : Nat → Int) (rbf4 : Nat → Int) (rbf5 : Nat → Int) (rbf6 : Nat → Int) (rbf7 : Nat → Int) (rbu0 : Int) (rbu1 : Int) (rbu2 : Int) (rbu3 : Int) (rbu4 : Int) (ryk1 : Nat → Int) (ryk2 : Nat → Int) (ryk3 : Nat → Int) (ryk4 : Nat → Int) (ryd : Int) (rsp : Nat → Int) (rsq : Nat → Int) (rsc : Int) (a : Int), av = [q2 0, q1 a] ∧ w = [.inr (6, [q2 1, q2 9, q2 17, q2 14, q2 18, q2 19, q1 rln, q1 rfa, q1 rpl, q1 rst, q1 rnx, q1 rtk, q1 rnm, q1 rnp, q1 rnd]), .inr (0, [q2 2, q2 3, q2 4, q2 5, q2 6, q2 7, q2 8, q1 rbu0, q1 rbu1, q1 rbu2, q1 rbu3, q1 rbu4]), .inl (0, 8, .inl rbf1), .inl (0, 8, .inl rbf2), .inl (0, 4, .inl rbf3), .inl (0, 32, .inl rbf4), .inl (0, 6, .inl rbf5), .inl (0, 6, .inl rbf6), .inl (0, 6, .inl rbf7), .inr (10, [q2 10, q2 11, q2 12, q2 13, q1 ryd]), .inl (0, 40, .inl ryk1), .inl (0, 40, .inl ryk2), .inl (0, 40, .inl ryk3), .inl (0, 40, .inl ryk4), .inr (7, [q2 15, q2 16, q1 rsc]), .inl (0, 10, .inl rsp), .inl (0, 10, .inl rsq)] ∧ (∀ (r : Int) , (r = 1 ∧ fulC a rbu0 rbu3 rbu4 ryd rsc ∨ r = 0 ∧ ¬ fulC a rbu0 rbu3 rbu4 ryd rsc) → Q (some (q1 r)))
def sp_F6_isFull : qS := fun av w Q => spr_F6_isFull av w (fun r => Q r w)
set_option maxHeartbeats 4000000 in
set_option maxRecDepth 100000 in
theorem m_F6_isFull (l : Launch) : q_M l yX6_isFull cX6_isFull 2 (some .boolean) 0 0 sp_F6_isFull := by
  refine q_meth (by decide) (fun av w Q h => by obtain ⟨rln, rfa, rpl, rst, rnx, rtk, rnm, rnp, rnd, rbf1, rbf2, rbf3, rbf4, rbf5, rbf6, rbf7, rbu0, rbu1, rbu2, rbu3, rbu4, ryk1, ryk2, ryk3, ryk4, ryd, rsp, rsq, rsc, a, rfl, rfl, hQ⟩ := h; exact Nat.le_of_ble_eq_true rfl) ?_
  intro p e R s m args below meth c dC dI k g A av w Q hsp oka okw X
  obtain ⟨rln, rfa, rpl, rst, rnx, rtk, rnm, rnp, rnd, rbf1, rbf2, rbf3, rbf4, rbf5, rbf6, rbf7, rbu0, rbu1, rbu2, rbu3, rbu4, ryk1, ryk2, ryk3, ryk4, ryd, rsp, rsq, rsc, a, rfl, rfl, hQ⟩ := hsp
  have o_a : -2147483648 ≤ a ∧ a ≤ 2147483647 := oka _ (List.mem_of_getElem? (i := 1) rfl)
  refine s_mono (s_F6_isFull_0 X (J := fun _ _ _ _ => False) (fun d => s_cutF)) ?_
  rintro lv st w' ⟨rfl, rfl, rfl⟩
  apply And.intro
  · intro hq_1
    replace hq_1 : _ = (0 : Int) := hq_1
    apply And.intro
    · intro hq_53
      apply And.intro
      · first | exact Or.inl rfl | exact Or.inr rfl | omega
      exact hQ _ (by unfold fulC; omega)
    · intro hq_53
      apply And.intro
      · first | exact Or.inl rfl | exact Or.inr rfl | omega
      exact hQ _ (by unfold fulC; omega)
  · intro h1_0
    replace h1_0 : ¬ _ = (0 : Int) := h1_0
    apply And.intro
    · intro hq_1
      replace hq_1 : _ = (3 : Int) := hq_1
      apply And.intro
      · intro hq_71
        apply And.intro
        · first | exact Or.inl rfl | exact Or.inr rfl | omega
        exact hQ _ (by unfold fulC; omega)
      · intro hq_71
        apply And.intro
        · first | exact Or.inl rfl | exact Or.inr rfl | omega
        exact hQ _ (by unfold fulC; omega)
    · intro h1_1
      replace h1_1 : ¬ _ = (3 : Int) := h1_1
      apply And.intro
      · intro hq_1
        replace hq_1 : _ = (4 : Int) := hq_1
        apply And.intro
        · intro hq_89
          apply And.intro
          · first | exact Or.inl rfl | exact Or.inr rfl | omega
          exact hQ _ (by unfold fulC; omega)
        · intro hq_89
          apply And.intro
          · first | exact Or.inl rfl | exact Or.inr rfl | omega
          exact hQ _ (by unfold fulC; omega)
      · intro h1_2
        replace h1_2 : ¬ _ = (4 : Int) := h1_2
        apply And.intro
        · intro hq_1
          replace hq_1 : _ = (16 : Int) := hq_1
          apply And.intro
          · intro hq_107
            apply And.intro
            · first | exact Or.inl rfl | exact Or.inr rfl | omega
            exact hQ _ (by unfold fulC; omega)
          · intro hq_107
            apply And.intro
            · first | exact Or.inl rfl | exact Or.inr rfl | omega
            exact hQ _ (by unfold fulC; omega)
        · intro h1_3
          replace h1_3 : ¬ _ = (16 : Int) := h1_3
          apply And.intro
          · intro hq_119
            apply And.intro
            · first | exact Or.inl rfl | exact Or.inr rfl | omega
            exact hQ _ (by unfold fulC; omega)
          · intro hq_119
            apply And.intro
            · intro hq_125
              apply And.intro
              · first | exact Or.inl rfl | exact Or.inr rfl | omega
              exact hQ _ (by unfold fulC; omega)
            · intro hq_125
              apply And.intro
              · intro hq_137
                apply And.intro
                · first | exact Or.inl rfl | exact Or.inr rfl | omega
                exact hQ _ (by unfold fulC; omega)
              · intro hq_137
                apply And.intro
                · first | exact Or.inl rfl | exact Or.inr rfl | omega
                exact hQ _ (by unfold fulC; omega)

theorem dF6_tellBorough_0 : decode cX6_tellBorough 0 = .ok (.iload_n 1, 1) := by decide +kernel
theorem dF6_tellBorough_1 : decode cX6_tellBorough 1 = .ok (.tableswitch 139 0 7 #[47, 55, 85, 96, 104, 112, 121, 130], 47) := by decide +kernel
theorem dF6_tellBorough_48 : decode cX6_tellBorough 48 = .ok (.aload_n 0, 1) := by decide +kernel
theorem dF6_tellBorough_49 : decode cX6_tellBorough 49 = .ok (.iload_n 2, 1) := by decide +kernel
theorem dF6_tellBorough_50 : decode cX6_tellBorough 50 = .ok (.invokevirtual 238, 3) := by decide +kernel
theorem dF6_tellBorough_53 : decode cX6_tellBorough 53 = .ok (.goto 95, 3) := by decide +kernel
theorem dF6_tellBorough_56 : decode cX6_tellBorough 56 = .ok (.aload_n 0, 1) := by decide +kernel
theorem dF6_tellBorough_57 : decode cX6_tellBorough 57 = .ok (.dup, 1) := by decide +kernel
theorem dF6_tellBorough_58 : decode cX6_tellBorough 58 = .ok (.getfield 97, 3) := by decide +kernel
theorem dF6_tellBorough_61 : decode cX6_tellBorough 61 = .ok (.iconst 1, 1) := by decide +kernel
theorem dF6_tellBorough_62 : decode cX6_tellBorough 62 = .ok (.iload_n 2, 1) := by decide +kernel
theorem dF6_tellBorough_63 : decode cX6_tellBorough 63 = .ok (.ishl, 1) := by decide +kernel
theorem dF6_tellBorough_64 : decode cX6_tellBorough 64 = .ok (.ior, 1) := by decide +kernel
theorem dF6_tellBorough_65 : decode cX6_tellBorough 65 = .ok (.putfield 97, 3) := by decide +kernel
theorem dF6_tellBorough_68 : decode cX6_tellBorough 68 = .ok (.aload_n 0, 1) := by decide +kernel
theorem dF6_tellBorough_69 : decode cX6_tellBorough 69 = .ok (.getfield 12, 3) := by decide +kernel
theorem dF6_tellBorough_72 : decode cX6_tellBorough 72 = .ok (.dup, 1) := by decide +kernel
theorem dF6_tellBorough_73 : decode cX6_tellBorough 73 = .ok (.getfield 241, 3) := by decide +kernel
theorem dF6_tellBorough_76 : decode cX6_tellBorough 76 = .ok (.iconst 1, 1) := by decide +kernel
theorem dF6_tellBorough_77 : decode cX6_tellBorough 77 = .ok (.iload_n 2, 1) := by decide +kernel
theorem dF6_tellBorough_78 : decode cX6_tellBorough 78 = .ok (.ishl, 1) := by decide +kernel
theorem dF6_tellBorough_79 : decode cX6_tellBorough 79 = .ok (.ior, 1) := by decide +kernel
theorem dF6_tellBorough_80 : decode cX6_tellBorough 80 = .ok (.putfield 241, 3) := by decide +kernel
theorem dF6_tellBorough_83 : decode cX6_tellBorough 83 = .ok (.goto 65, 3) := by decide +kernel
theorem dF6_tellBorough_86 : decode cX6_tellBorough 86 = .ok (.aload_n 0, 1) := by decide +kernel
theorem dF6_tellBorough_87 : decode cX6_tellBorough 87 = .ok (.getfield 12, 3) := by decide +kernel
theorem dF6_tellBorough_90 : decode cX6_tellBorough 90 = .ok (.iload_n 2, 1) := by decide +kernel
theorem dF6_tellBorough_91 : decode cX6_tellBorough 91 = .ok (.putfield 243, 3) := by decide +kernel
theorem dF6_tellBorough_94 : decode cX6_tellBorough 94 = .ok (.goto 54, 3) := by decide +kernel
theorem dF6_tellBorough_97 : decode cX6_tellBorough 97 = .ok (.aload_n 0, 1) := by decide +kernel
theorem dF6_tellBorough_98 : decode cX6_tellBorough 98 = .ok (.iload_n 2, 1) := by decide +kernel
theorem dF6_tellBorough_99 : decode cX6_tellBorough 99 = .ok (.invokevirtual 245, 3) := by decide +kernel
theorem dF6_tellBorough_102 : decode cX6_tellBorough 102 = .ok (.goto 46, 3) := by decide +kernel
theorem dF6_tellBorough_105 : decode cX6_tellBorough 105 = .ok (.aload_n 0, 1) := by decide +kernel
theorem dF6_tellBorough_106 : decode cX6_tellBorough 106 = .ok (.iload_n 2, 1) := by decide +kernel
theorem dF6_tellBorough_107 : decode cX6_tellBorough 107 = .ok (.invokevirtual 248, 3) := by decide +kernel
theorem dF6_tellBorough_110 : decode cX6_tellBorough 110 = .ok (.goto 38, 3) := by decide +kernel
theorem dF6_tellBorough_113 : decode cX6_tellBorough 113 = .ok (.aload_n 0, 1) := by decide +kernel
theorem dF6_tellBorough_114 : decode cX6_tellBorough 114 = .ok (.iload_n 2, 1) := by decide +kernel
theorem dF6_tellBorough_115 : decode cX6_tellBorough 115 = .ok (.iload_n 3, 1) := by decide +kernel
theorem dF6_tellBorough_116 : decode cX6_tellBorough 116 = .ok (.invokevirtual 251, 3) := by decide +kernel
theorem dF6_tellBorough_119 : decode cX6_tellBorough 119 = .ok (.goto 29, 3) := by decide +kernel
theorem dF6_tellBorough_122 : decode cX6_tellBorough 122 = .ok (.aload_n 0, 1) := by decide +kernel
theorem dF6_tellBorough_123 : decode cX6_tellBorough 123 = .ok (.iload_n 2, 1) := by decide +kernel
theorem dF6_tellBorough_124 : decode cX6_tellBorough 124 = .ok (.iload_n 3, 1) := by decide +kernel
theorem dF6_tellBorough_125 : decode cX6_tellBorough 125 = .ok (.invokevirtual 254, 3) := by decide +kernel
theorem dF6_tellBorough_128 : decode cX6_tellBorough 128 = .ok (.goto 20, 3) := by decide +kernel
theorem dF6_tellBorough_131 : decode cX6_tellBorough 131 = .ok (.aload_n 0, 1) := by decide +kernel
theorem dF6_tellBorough_132 : decode cX6_tellBorough 132 = .ok (.iload_n 2, 1) := by decide +kernel
theorem dF6_tellBorough_133 : decode cX6_tellBorough 133 = .ok (.iload_n 3, 1) := by decide +kernel
theorem dF6_tellBorough_134 : decode cX6_tellBorough 134 = .ok (.invokevirtual 257, 3) := by decide +kernel
theorem dF6_tellBorough_137 : decode cX6_tellBorough 137 = .ok (.goto 11, 3) := by decide +kernel
theorem dF6_tellBorough_140 : decode cX6_tellBorough 140 = .ok (.aload_n 0, 1) := by decide +kernel
theorem dF6_tellBorough_141 : decode cX6_tellBorough 141 = .ok (.iload_n 2, 1) := by decide +kernel
theorem dF6_tellBorough_142 : decode cX6_tellBorough 142 = .ok (.iload_n 3, 1) := by decide +kernel
theorem dF6_tellBorough_143 : decode cX6_tellBorough 143 = .ok (.iload 4, 2) := by decide +kernel
theorem dF6_tellBorough_145 : decode cX6_tellBorough 145 = .ok (.invokevirtual 260, 3) := by decide +kernel
theorem dF6_tellBorough_148 : decode cX6_tellBorough 148 = .ok (.return_, 1) := by decide +kernel
def is_F6_tellBorough : Nat → List Nat := fun d => []
set_option maxRecDepth 100000 in
def b_F6_tellBorough_148 (J : Nat → List qV → List qV → qW → Prop) (Q : qR) : qK := x_vret Q
set_option maxRecDepth 100000 in
theorem s_F6_tellBorough_148 {p : Program} {l : Launch} {e : Env} {R : Room} {s : State} {m : MethodId} {args : Array Value} {below : List Frame} {meth : Method} {c : Code} {nW : Nat} {dC : Nat → ClassId} {dI : Nat → Nat → Nat} {k : Nat → ClassId} {g : Nat → Nat} {A : Nat → Prop} {J : Nat → List qV → List qV → qW → Prop} {Q : qR} (X : q_X p R s m args meth c cX6_tellBorough 5 nW 1 24 RX6 none dC dI k g A) (hJ : ∀ d : Nat, q_Sd p l e R s m args below meth c 5 nW dC dI k g A (MQ below (q_post (dC, dI) k g nW Q A) args s 0 0 A) d (x_cut (is_F6_tellBorough d) (J d))) : q_Sd p l e R s m args below meth c 5 nW dC dI k g A (MQ below (q_post (dC, dI) k g nW Q A) args s 0 0 A) 148 (b_F6_tellBorough_148 J Q) := by
  unfold b_F6_tellBorough_148
  exact s_vret X dF6_tellBorough_148
set_option maxRecDepth 100000 in
def b_F6_tellBorough_132 (J : Nat → List qV → List qV → qW → Prop) (Q : qR) : qK := x_iload 2 (x_iload 3 (x_call (some 6) 3 sp_F6_tellFine (x_nw (b_F6_tellBorough_148 J Q))))
set_option maxRecDepth 100000 in
theorem s_F6_tellBorough_132 {p : Program} {l : Launch} {e : Env} {R : Room} {s : State} {m : MethodId} {args : Array Value} {below : List Frame} {meth : Method} {c : Code} {nW : Nat} {dC : Nat → ClassId} {dI : Nat → Nat → Nat} {k : Nat → ClassId} {g : Nat → Nat} {A : Nat → Prop} {J : Nat → List qV → List qV → qW → Prop} {Q : qR} (X : q_X p R s m args meth c cX6_tellBorough 5 nW 1 24 RX6 none dC dI k g A) (hJ : ∀ d : Nat, q_Sd p l e R s m args below meth c 5 nW dC dI k g A (MQ below (q_post (dC, dI) k g nW Q A) args s 0 0 A) d (x_cut (is_F6_tellBorough d) (J d))) : q_Sd p l e R s m args below meth c 5 nW dC dI k g A (MQ below (q_post (dC, dI) k g nW Q A) args s 0 0 A) 132 (b_F6_tellBorough_132 J Q) := by
  unfold b_F6_tellBorough_132
  refine s_iload_n X rfl dF6_tellBorough_132 ?_
  refine s_iload_n X rfl dF6_tellBorough_133 ?_
  refine s_callV X (m_F6_tellFine l) tw_490 tw_491 tw_1524 tw_128 tw_492 rfl (by decide +kernel) ⟨by decide, by decide⟩ dF6_tellBorough_134 ?_
  refine s_nw ?_
  refine s_goto X (tgt := 148) dF6_tellBorough_137 (by decide) ?_
  exact s_F6_tellBorough_148 X hJ
set_option maxRecDepth 100000 in
def b_F6_tellBorough_86 (J : Nat → List qV → List qV → qW → Prop) (Q : qR) : qK := x_aload 0 (x_get 6 0 (x_iload 2 (x_put 0 9 q_oki (x_nw (b_F6_tellBorough_148 J Q)))))
set_option maxRecDepth 100000 in
theorem s_F6_tellBorough_86 {p : Program} {l : Launch} {e : Env} {R : Room} {s : State} {m : MethodId} {args : Array Value} {below : List Frame} {meth : Method} {c : Code} {nW : Nat} {dC : Nat → ClassId} {dI : Nat → Nat → Nat} {k : Nat → ClassId} {g : Nat → Nat} {A : Nat → Prop} {J : Nat → List qV → List qV → qW → Prop} {Q : qR} (X : q_X p R s m args meth c cX6_tellBorough 5 nW 1 24 RX6 none dC dI k g A) (hJ : ∀ d : Nat, q_Sd p l e R s m args below meth c 5 nW dC dI k g A (MQ below (q_post (dC, dI) k g nW Q A) args s 0 0 A) d (x_cut (is_F6_tellBorough d) (J d))) : q_Sd p l e R s m args below meth c 5 nW dC dI k g A (MQ below (q_post (dC, dI) k g nW Q A) args s 0 0 A) 86 (b_F6_tellBorough_86 J Q) := by
  unfold b_F6_tellBorough_86
  refine s_aload_n X rfl dF6_tellBorough_86 ?_
  refine s_get X (T := TX6) (C := RX6) (N := 15) tu_X6 rfl (by decide) tw_267 dF6_tellBorough_87 ?_
  refine s_iload_n X rfl dF6_tellBorough_90 ?_
  refine s_put X (T := TX0) (C := RX0) (N := 12) tu_X0 tyX0_ok nmX0 rfl (by decide) tw_201 rfl (by decide +kernel) q_oki_t dF6_tellBorough_91 ?_
  refine s_nw ?_
  refine s_goto X (tgt := 148) dF6_tellBorough_94 (by decide) ?_
  exact s_F6_tellBorough_148 X hJ
set_option maxRecDepth 100000 in
def b_F6_tellBorough_0 (J : Nat → List qV → List qV → qW → Prop) (Q : qR) : qK := x_iload 1 (x_sw 0 7 [x_aload 0 (x_iload 2 (x_call (some 6) 2 sp_F6_tellPerson (x_nw (b_F6_tellBorough_148 J Q)))), x_aload 0 (x_dup (x_get 6 13 (x_int 1 (x_iload 2 (x_ishl (x_ior (x_put 6 13 q_oki (x_nw (x_aload 0 (x_get 6 0 (x_dup (x_get 0 8 (x_int 1 (x_iload 2 (x_ishl (x_ior (x_put 0 8 q_oki (x_nw (b_F6_tellBorough_148 J Q))))))))))))))))))), b_F6_tellBorough_86 J Q, x_aload 0 (x_iload 2 (x_call (some 6) 2 sp_F6_tellDoor (x_nw (b_F6_tellBorough_148 J Q)))), x_aload 0 (x_iload 2 (x_call (some 6) 2 sp_F6_tellWork (x_nw (b_F6_tellBorough_148 J Q)))), x_aload 0 (x_iload 2 (x_iload 3 (x_call (some 6) 3 sp_F6_tellChild (x_nw (b_F6_tellBorough_148 J Q))))), x_aload 0 (x_iload 2 (x_iload 3 (x_call (some 6) 3 sp_F6_tellPass (x_nw (b_F6_tellBorough_148 J Q))))), x_aload 0 (b_F6_tellBorough_132 J Q)] (x_aload 0 (x_iload 2 (x_iload 3 (x_iload 4 (x_call (some 6) 4 sp_F6_tellWish (x_nw (b_F6_tellBorough_148 J Q))))))))
set_option maxRecDepth 100000 in
theorem s_F6_tellBorough_0 {p : Program} {l : Launch} {e : Env} {R : Room} {s : State} {m : MethodId} {args : Array Value} {below : List Frame} {meth : Method} {c : Code} {nW : Nat} {dC : Nat → ClassId} {dI : Nat → Nat → Nat} {k : Nat → ClassId} {g : Nat → Nat} {A : Nat → Prop} {J : Nat → List qV → List qV → qW → Prop} {Q : qR} (X : q_X p R s m args meth c cX6_tellBorough 5 nW 1 24 RX6 none dC dI k g A) (hJ : ∀ d : Nat, q_Sd p l e R s m args below meth c 5 nW dC dI k g A (MQ below (q_post (dC, dI) k g nW Q A) args s 0 0 A) d (x_cut (is_F6_tellBorough d) (J d))) : q_Sd p l e R s m args below meth c 5 nW dC dI k g A (MQ below (q_post (dC, dI) k g nW Q A) args s 0 0 A) 0 (b_F6_tellBorough_0 J Q) := by
  unfold b_F6_tellBorough_0
  refine s_iload_n X rfl dF6_tellBorough_0 ?_
  refine s_sw X (ts := [48, 56, 86, 97, 105, 113, 122, 131]) (td := 140) dF6_tellBorough_1 (by decide) (by decide) (by decide) rfl ?_ ?_
  · intro i t K ht hK
    match i, ht, hK with
    | 0, ht, hK =>
      cases ht
      cases hK
      refine s_aload_n X rfl dF6_tellBorough_48 ?_
      refine s_iload_n X rfl dF6_tellBorough_49 ?_
      refine s_callV X (m_F6_tellPerson l) tw_475 tw_476 tw_1527 tw_128 tw_477 rfl (by decide +kernel) ⟨by decide, by decide⟩ dF6_tellBorough_50 ?_
      refine s_nw ?_
      refine s_goto X (tgt := 148) dF6_tellBorough_53 (by decide) ?_
      exact s_F6_tellBorough_148 X hJ
    | 1, ht, hK =>
      cases ht
      cases hK
      refine s_aload_n X rfl dF6_tellBorough_56 ?_
      refine s_dup X dF6_tellBorough_57 ?_
      refine s_get X (T := TX6) (C := RX6) (N := 15) tu_X6 rfl (by decide) tw_286 dF6_tellBorough_58 ?_
      refine s_iconst X ⟨by decide, by decide⟩ dF6_tellBorough_61 ?_
      refine s_iload_n X rfl dF6_tellBorough_62 ?_
      refine s_ishl X dF6_tellBorough_63 ?_
      refine s_ior X dF6_tellBorough_64 ?_
      refine s_put X (T := TX6) (C := RX6) (N := 15) tu_X6 tyX6_ok nmX6 rfl (by decide) tw_286 rfl (by decide +kernel) q_oki_t dF6_tellBorough_65 ?_
      refine s_nw ?_
      refine s_aload_n X rfl dF6_tellBorough_68 ?_
      refine s_get X (T := TX6) (C := RX6) (N := 15) tu_X6 rfl (by decide) tw_267 dF6_tellBorough_69 ?_
      refine s_dup X dF6_tellBorough_72 ?_
      refine s_get X (T := TX0) (C := RX0) (N := 12) tu_X0 rfl (by decide) tw_199 dF6_tellBorough_73 ?_
      refine s_iconst X ⟨by decide, by decide⟩ dF6_tellBorough_76 ?_
      refine s_iload_n X rfl dF6_tellBorough_77 ?_
      refine s_ishl X dF6_tellBorough_78 ?_
      refine s_ior X dF6_tellBorough_79 ?_
      refine s_put X (T := TX0) (C := RX0) (N := 12) tu_X0 tyX0_ok nmX0 rfl (by decide) tw_199 rfl (by decide +kernel) q_oki_t dF6_tellBorough_80 ?_
      refine s_nw ?_
      refine s_goto X (tgt := 148) dF6_tellBorough_83 (by decide) ?_
      exact s_F6_tellBorough_148 X hJ
    | 2, ht, hK =>
      cases ht
      cases hK
      exact s_F6_tellBorough_86 X hJ
    | 3, ht, hK =>
      cases ht
      cases hK
      refine s_aload_n X rfl dF6_tellBorough_97 ?_
      refine s_iload_n X rfl dF6_tellBorough_98 ?_
      refine s_callV X (m_F6_tellDoor l) tw_478 tw_479 tw_1523 tw_128 tw_480 rfl (by decide +kernel) ⟨by decide, by decide⟩ dF6_tellBorough_99 ?_
      refine s_nw ?_
      refine s_goto X (tgt := 148) dF6_tellBorough_102 (by decide) ?_
      exact s_F6_tellBorough_148 X hJ
    | 4, ht, hK =>
      cases ht
      cases hK
      refine s_aload_n X rfl dF6_tellBorough_105 ?_
      refine s_iload_n X rfl dF6_tellBorough_106 ?_
      refine s_callV X (m_F6_tellWork l) tw_481 tw_482 tw_1529 tw_128 tw_483 rfl (by decide +kernel) ⟨by decide, by decide⟩ dF6_tellBorough_107 ?_
      refine s_nw ?_
      refine s_goto X (tgt := 148) dF6_tellBorough_110 (by decide) ?_
      exact s_F6_tellBorough_148 X hJ
    | 5, ht, hK =>
      cases ht
      cases hK
      refine s_aload_n X rfl dF6_tellBorough_113 ?_
      refine s_iload_n X rfl dF6_tellBorough_114 ?_
      refine s_iload_n X rfl dF6_tellBorough_115 ?_
      refine s_callV X (m_F6_tellChild l) tw_484 tw_485 tw_1522 tw_128 tw_486 rfl (by decide +kernel) ⟨by decide, by decide⟩ dF6_tellBorough_116 ?_
      refine s_nw ?_
      refine s_goto X (tgt := 148) dF6_tellBorough_119 (by decide) ?_
      exact s_F6_tellBorough_148 X hJ
    | 6, ht, hK =>
      cases ht
      cases hK
      refine s_aload_n X rfl dF6_tellBorough_122 ?_
      refine s_iload_n X rfl dF6_tellBorough_123 ?_
      refine s_iload_n X rfl dF6_tellBorough_124 ?_
      refine s_callV X (m_F6_tellPass l) tw_487 tw_488 tw_1526 tw_128 tw_489 rfl (by decide +kernel) ⟨by decide, by decide⟩ dF6_tellBorough_125 ?_
      refine s_nw ?_
      refine s_goto X (tgt := 148) dF6_tellBorough_128 (by decide) ?_
      exact s_F6_tellBorough_148 X hJ
    | 7, ht, hK =>
      cases ht
      cases hK
      refine s_aload_n X rfl dF6_tellBorough_131 ?_
      exact s_F6_tellBorough_132 X hJ
    | i + 8, ht, hK => exact absurd ht (by simp)
  · refine s_aload_n X rfl dF6_tellBorough_140 ?_
    refine s_iload_n X rfl dF6_tellBorough_141 ?_
    refine s_iload_n X rfl dF6_tellBorough_142 ?_
    refine s_iload X dF6_tellBorough_143 ?_
    refine s_callV X (m_F6_tellWish l) tw_493 tw_494 tw_1528 tw_128 tw_495 rfl (by decide +kernel) ⟨by decide, by decide⟩ dF6_tellBorough_145 ?_
    refine s_nw ?_
    exact s_F6_tellBorough_148 X hJ

def sp_F6_tellBorough : qS := fun av w Q => ∃ (rln : Int) (rfa : Int) (rpl : Int) (rst : Int) (rnx : Int) (rtk : Int) (rnm : Int) (rnp : Int) (rnd : Int) (rbf1 : Nat → Int) (rbf2 : Nat → Int) (rbf3 : Nat → Int) (rbf4 : Nat → Int) (rbf5 : Nat → Int) (rbf6 : Nat → Int) (rbf7 : Nat → Int) (rbu0 : Int) (rbu1 : Int) (rbu2 : Int) (rbu3 : Int) (rbu4 : Int) (gD : Nat → Int) (gf : Int) (gd : Int) (a : Int) (b : Int) (cc : Int) (dd : Int), av = [q2 0, q1 a, q1 b, q1 cc, q1 dd] ∧ w = [.inr (6, [q2 1, q2 9, q2 10, q2 11, q2 12, q2 13, q1 rln, q1 rfa, q1 rpl, q1 rst, q1 rnx, q1 rtk, q1 rnm, q1 rnp, q1 rnd]), .inr (0, [q2 2, q2 3, q2 4, q2 5, q2 6, q2 7, q2 8, q1 rbu0, q1 rbu1, q1 rbu2, q1 rbu3, q1 rbu4]), .inl (0, 8, .inl rbf1), .inl (0, 8, .inl rbf2), .inl (0, 4, .inl rbf3), .inl (0, 32, .inl rbf4), .inl (0, 6, .inl rbf5), .inl (0, 6, .inl rbf6), .inl (0, 6, .inl rbf7)] ∧ (0 ≤ rbu0 ∧ rbu0 ≤ 8 ∧ 0 ≤ rbu3 ∧ rbu3 ≤ 6 ∧ 0 ≤ rbu4 ∧ rbu4 ≤ 6) ∧ (q_rg 0 9 rbf3) ∧ (CB rbf1 rbf2 rbf3 rbf4 rbf5 rbf6 rbf7 rbu0 rbu1 rbu2 rbu3 rbu4 gD) ∧ (NPR rnp gf) ∧ (NPR rnd gd) ∧ (0 ≤ a ∧ a ≤ 8) ∧ (VR a b cc) ∧ (¬ (a = 0 ∧ 8 ≤ rbu0) ∧ ¬ (a = 3 ∧ 6 ≤ rbu3) ∧ ¬ (a = 4 ∧ 6 ≤ rbu4)) ∧ (∀ (x_rbf1 : Nat → Int) (x_rbf2 : Nat → Int) (x_rbf3 : Nat → Int) (x_rbf4 : Nat → Int) (x_rbf5 : Nat → Int) (x_rbf6 : Nat → Int) (x_rbf7 : Nat → Int) (x_rbu0 : Int) (x_rbu1 : Int) (x_rbu2 : Int) (x_rbu3 : Int) (x_rbu4 : Int) (x_rnp : Int) (x_rnd : Int), (CB x_rbf1 x_rbf2 x_rbf3 x_rbf4 x_rbf5 x_rbf6 x_rbf7 x_rbu0 x_rbu1 x_rbu2 x_rbu3 x_rbu4 (tel a b cc dd gD) ∧ NPR x_rnp (fpN a b cc gf) ∧ NPR x_rnd (fdN a cc gd) ∧ (0 ≤ x_rbu0 ∧ x_rbu0 ≤ 8 ∧ 0 ≤ x_rbu3 ∧ x_rbu3 ≤ 6 ∧ 0 ≤ x_rbu4 ∧ x_rbu4 ≤ 6 ∧ q_rg 0 9 x_rbf3)) → Q none ([.inr (6, [q2 1, q2 9, q2 10, q2 11, q2 12, q2 13, q1 rln, q1 rfa, q1 rpl, q1 rst, q1 rnx, q1 rtk, q1 rnm, q1 x_rnp, q1 x_rnd]), .inr (0, [q2 2, q2 3, q2 4, q2 5, q2 6, q2 7, q2 8, q1 x_rbu0, q1 x_rbu1, q1 x_rbu2, q1 x_rbu3, q1 x_rbu4]), .inl (0, 8, .inl x_rbf1), .inl (0, 8, .inl x_rbf2), .inl (0, 4, .inl x_rbf3), .inl (0, 32, .inl x_rbf4), .inl (0, 6, .inl x_rbf5), .inl (0, 6, .inl x_rbf6), .inl (0, 6, .inl x_rbf7)]))
set_option maxHeartbeats 4000000 in
set_option maxRecDepth 100000 in
theorem m_F6_tellBorough (l : Launch) : q_M l yX6_tellBorough cX6_tellBorough 5 none 1 24 sp_F6_tellBorough := by
  refine q_meth (by decide) (fun av w Q h => by obtain ⟨rln, rfa, rpl, rst, rnx, rtk, rnm, rnp, rnd, rbf1, rbf2, rbf3, rbf4, rbf5, rbf6, rbf7, rbu0, rbu1, rbu2, rbu3, rbu4, gD, gf, gd, a, b, cc, dd, rfl, rfl, hrb, hf3, hC, hN, hM, ha, hv, hfl, hQ⟩ := h; exact Nat.le_of_ble_eq_true rfl) ?_
  intro p e R s m args below meth c dC dI k g A av w Q hsp oka okw X
  obtain ⟨rln, rfa, rpl, rst, rnx, rtk, rnm, rnp, rnd, rbf1, rbf2, rbf3, rbf4, rbf5, rbf6, rbf7, rbu0, rbu1, rbu2, rbu3, rbu4, gD, gf, gd, a, b, cc, dd, rfl, rfl, hrb, hf3, hC, hN, hM, ha, hv, hfl, hQ⟩ := hsp
  have o_a : -2147483648 ≤ a ∧ a ≤ 2147483647 := oka _ (List.mem_of_getElem? (i := 1) rfl)
  have o_b : -2147483648 ≤ b ∧ b ≤ 2147483647 := oka _ (List.mem_of_getElem? (i := 2) rfl)
  have o_cc : -2147483648 ≤ cc ∧ cc ≤ 2147483647 := oka _ (List.mem_of_getElem? (i := 3) rfl)
  have o_dd : -2147483648 ≤ dd ∧ dd ≤ 2147483647 := oka _ (List.mem_of_getElem? (i := 4) rfl)
  refine s_mono (s_F6_tellBorough_0 X (J := fun _ _ _ _ => False) (fun d => s_cutF)) ?_
  rintro lv st w' ⟨rfl, rfl, rfl⟩
  apply And.intro
  · apply And.intro
    · intro hq_1
      refine Exists.intro [0, 1, 2, 3, 4, 5, 6, 7, 8, 9, 10, 11, 12, 13] (Exists.intro [q2 0, q1 _] (Exists.intro ([.inr (6, [q2 1, q2 9, q2 10, q2 11, q2 12, q2 13, q1 _, q1 _, q1 _, q1 _, q1 _, q1 _, q1 _, q1 _, q1 _]), .inr (0, [q2 2, q2 3, q2 4, q2 5, q2 6, q2 7, q2 8, q1 _, q1 _, q1 _, q1 _, q1 _]), .inl (0, 8, .inl _), .inl (0, 8, .inl _), .inl (0, 4, .inl _), .inl (0, 32, .inl _), .inl (0, 6, .inl _), .inl (0, 6, .inl _), .inl (0, 6, .inl _)]) (And.intro rfl (And.intro rfl (And.intro rfl (And.intro ⟨⟨_, rfl⟩, rfl⟩ ?_))))))
      refine Exists.intro _ (Exists.intro _ (Exists.intro _ (Exists.intro _ (Exists.intro _ (Exists.intro _ (Exists.intro _ (Exists.intro _ (Exists.intro _ (Exists.intro _ (Exists.intro _ (Exists.intro _ (Exists.intro _ (Exists.intro _ (Exists.intro _ (Exists.intro _ (Exists.intro _ (Exists.intro _ (Exists.intro _ (Exists.intro _ (Exists.intro _ (Exists.intro _ (Exists.intro cc (Exists.intro dd (Exists.intro _ (And.intro rfl (And.intro rfl (And.intro (by first | assumption | exact q_rg_up (by assumption) (by omega) | exact q_rg_up (q_rg_up (by assumption) (by omega)) (by omega) | exact q_rg_cpy (by assumption) (by assumption) | omega) (And.intro (by first | assumption | exact q_rg_up (by assumption) (by omega) | exact q_rg_up (q_rg_up (by assumption) (by omega)) (by omega) | exact q_rg_cpy (by assumption) (by assumption) | omega) (?_)))))))))))))))))))))))))))))
      intro x_rbf1_50 x_rbu0_50 hq_50
      exact hQ _ _ _ _ _ _ _ _ _ _ _ _ _ _ (by first | (rw [show a = (0 : Int) by omega]; exact ⟨hq_50.1, (by rw [fpN_n (by omega)]; exact hN), (by rw [fdN_n (by omega)]; exact hM), ⟨by omega, by omega, by omega, by omega, by omega, by omega, hf3⟩⟩) | (rw [show a = (1 : Int) by omega]; exact ⟨(by rw [e_orI hq_78 hq_79]; exact CB_w1 hC), (by rw [e_orI hq_63 hq_64, fpN_1 (by omega)]; exact NPR_or hN (VR_p hv (by omega))), (by rw [fdN_n (by omega)]; exact hM), ⟨by omega, by omega, by omega, by omega, by omega, by omega, hf3⟩⟩) | (rw [show a = (2 : Int) by omega]; exact ⟨CB_w2 hC, (by rw [fpN_n (by omega)]; exact hN), (by rw [fdN_n (by omega)]; exact hM), ⟨by omega, by omega, by omega, by omega, by omega, by omega, hf3⟩⟩) | (rw [show a = (3 : Int) by omega]; exact ⟨hq_99.1, (by rw [fpN_n (by omega)]; exact hN), (by rw [fdN_n (by omega)]; exact hM), ⟨by omega, by omega, by omega, by omega, by omega, by omega, hf3⟩⟩) | (rw [show a = (4 : Int) by omega]; exact ⟨hq_107.1, (by rw [fpN_n (by omega)]; exact hN), (by rw [fdN_n (by omega)]; exact hM), ⟨by omega, by omega, by omega, by omega, by omega, by omega, hf3⟩⟩) | (rw [show a = (5 : Int) by omega]; exact ⟨hq_116.1, hq_116.2, (by rw [fdN_n (by omega)]; exact hM), ⟨by omega, by omega, by omega, by omega, by omega, by omega, hf3⟩⟩) | (rw [show a = (6 : Int) by omega]; exact ⟨hq_125.1, hq_125.2.1, hq_125.2.2, ⟨by omega, by omega, by omega, by omega, by omega, by omega, hf3⟩⟩) | (rw [show a = (7 : Int) by omega]; exact ⟨hq_134.1, (by rw [fpN_n (by omega)]; exact hN), (by rw [fdN_n (by omega)]; exact hM), ⟨by omega, by omega, by omega, by omega, by omega, by omega, hq_134.2⟩⟩) | (rw [show a = (8 : Int) by omega]; exact ⟨hq_145.1, hq_145.2, (by rw [fdN_n (by omega)]; exact hM), ⟨by omega, by omega, by omega, by omega, by omega, by omega, hf3⟩⟩))
    apply And.intro
    · intro hq_1
      intro zq_63 hq_63
      skip
      intro zq_64 hq_64
      skip
      apply And.intro
      · exact trivial
      intro zq_78 hq_78
      skip
      intro zq_79 hq_79
      skip
      apply And.intro
      · exact trivial
      exact hQ _ _ _ _ _ _ _ _ _ _ _ _ _ _ (by first | (rw [show a = (0 : Int) by omega]; exact ⟨hq_50.1, (by rw [fpN_n (by omega)]; exact hN), (by rw [fdN_n (by omega)]; exact hM), ⟨by omega, by omega, by omega, by omega, by omega, by omega, hf3⟩⟩) | (rw [show a = (1 : Int) by omega]; exact ⟨(by rw [e_orI hq_78 hq_79]; exact CB_w1 hC), (by rw [e_orI hq_63 hq_64, fpN_1 (by omega)]; exact NPR_or hN (VR_p hv (by omega))), (by rw [fdN_n (by omega)]; exact hM), ⟨by omega, by omega, by omega, by omega, by omega, by omega, hf3⟩⟩) | (rw [show a = (2 : Int) by omega]; exact ⟨CB_w2 hC, (by rw [fpN_n (by omega)]; exact hN), (by rw [fdN_n (by omega)]; exact hM), ⟨by omega, by omega, by omega, by omega, by omega, by omega, hf3⟩⟩) | (rw [show a = (3 : Int) by omega]; exact ⟨hq_99.1, (by rw [fpN_n (by omega)]; exact hN), (by rw [fdN_n (by omega)]; exact hM), ⟨by omega, by omega, by omega, by omega, by omega, by omega, hf3⟩⟩) | (rw [show a = (4 : Int) by omega]; exact ⟨hq_107.1, (by rw [fpN_n (by omega)]; exact hN), (by rw [fdN_n (by omega)]; exact hM), ⟨by omega, by omega, by omega, by omega, by omega, by omega, hf3⟩⟩) | (rw [show a = (5 : Int) by omega]; exact ⟨hq_116.1, hq_116.2, (by rw [fdN_n (by omega)]; exact hM), ⟨by omega, by omega, by omega, by omega, by omega, by omega, hf3⟩⟩) | (rw [show a = (6 : Int) by omega]; exact ⟨hq_125.1, hq_125.2.1, hq_125.2.2, ⟨by omega, by omega, by omega, by omega, by omega, by omega, hf3⟩⟩) | (rw [show a = (7 : Int) by omega]; exact ⟨hq_134.1, (by rw [fpN_n (by omega)]; exact hN), (by rw [fdN_n (by omega)]; exact hM), ⟨by omega, by omega, by omega, by omega, by omega, by omega, hq_134.2⟩⟩) | (rw [show a = (8 : Int) by omega]; exact ⟨hq_145.1, hq_145.2, (by rw [fdN_n (by omega)]; exact hM), ⟨by omega, by omega, by omega, by omega, by omega, by omega, hf3⟩⟩))
    apply And.intro
    · intro hq_1
      apply And.intro
      · exact trivial
      exact hQ _ _ _ _ _ _ _ _ _ _ _ _ _ _ (by first | (rw [show a = (0 : Int) by omega]; exact ⟨hq_50.1, (by rw [fpN_n (by omega)]; exact hN), (by rw [fdN_n (by omega)]; exact hM), ⟨by omega, by omega, by omega, by omega, by omega, by omega, hf3⟩⟩) | (rw [show a = (1 : Int) by omega]; exact ⟨(by rw [e_orI hq_78 hq_79]; exact CB_w1 hC), (by rw [e_orI hq_63 hq_64, fpN_1 (by omega)]; exact NPR_or hN (VR_p hv (by omega))), (by rw [fdN_n (by omega)]; exact hM), ⟨by omega, by omega, by omega, by omega, by omega, by omega, hf3⟩⟩) | (rw [show a = (2 : Int) by omega]; exact ⟨CB_w2 hC, (by rw [fpN_n (by omega)]; exact hN), (by rw [fdN_n (by omega)]; exact hM), ⟨by omega, by omega, by omega, by omega, by omega, by omega, hf3⟩⟩) | (rw [show a = (3 : Int) by omega]; exact ⟨hq_99.1, (by rw [fpN_n (by omega)]; exact hN), (by rw [fdN_n (by omega)]; exact hM), ⟨by omega, by omega, by omega, by omega, by omega, by omega, hf3⟩⟩) | (rw [show a = (4 : Int) by omega]; exact ⟨hq_107.1, (by rw [fpN_n (by omega)]; exact hN), (by rw [fdN_n (by omega)]; exact hM), ⟨by omega, by omega, by omega, by omega, by omega, by omega, hf3⟩⟩) | (rw [show a = (5 : Int) by omega]; exact ⟨hq_116.1, hq_116.2, (by rw [fdN_n (by omega)]; exact hM), ⟨by omega, by omega, by omega, by omega, by omega, by omega, hf3⟩⟩) | (rw [show a = (6 : Int) by omega]; exact ⟨hq_125.1, hq_125.2.1, hq_125.2.2, ⟨by omega, by omega, by omega, by omega, by omega, by omega, hf3⟩⟩) | (rw [show a = (7 : Int) by omega]; exact ⟨hq_134.1, (by rw [fpN_n (by omega)]; exact hN), (by rw [fdN_n (by omega)]; exact hM), ⟨by omega, by omega, by omega, by omega, by omega, by omega, hq_134.2⟩⟩) | (rw [show a = (8 : Int) by omega]; exact ⟨hq_145.1, hq_145.2, (by rw [fdN_n (by omega)]; exact hM), ⟨by omega, by omega, by omega, by omega, by omega, by omega, hf3⟩⟩))
    apply And.intro
    · intro hq_1
      refine Exists.intro [0, 1, 2, 3, 4, 5, 6, 7, 8, 9, 10, 11, 12, 13] (Exists.intro [q2 0, q1 _] (Exists.intro ([.inr (6, [q2 1, q2 9, q2 10, q2 11, q2 12, q2 13, q1 _, q1 _, q1 _, q1 _, q1 _, q1 _, q1 _, q1 _, q1 _]), .inr (0, [q2 2, q2 3, q2 4, q2 5, q2 6, q2 7, q2 8, q1 _, q1 _, q1 _, q1 _, q1 _]), .inl (0, 8, .inl _), .inl (0, 8, .inl _), .inl (0, 4, .inl _), .inl (0, 32, .inl _), .inl (0, 6, .inl _), .inl (0, 6, .inl _), .inl (0, 6, .inl _)]) (And.intro rfl (And.intro rfl (And.intro rfl (And.intro ⟨⟨_, rfl⟩, rfl⟩ ?_))))))
      refine Exists.intro _ (Exists.intro _ (Exists.intro _ (Exists.intro _ (Exists.intro _ (Exists.intro _ (Exists.intro _ (Exists.intro _ (Exists.intro _ (Exists.intro _ (Exists.intro _ (Exists.intro _ (Exists.intro _ (Exists.intro _ (Exists.intro _ (Exists.intro _ (Exists.intro _ (Exists.intro _ (Exists.intro _ (Exists.intro _ (Exists.intro _ (Exists.intro _ (Exists.intro cc (Exists.intro dd (Exists.intro _ (And.intro rfl (And.intro rfl (And.intro (by first | assumption | exact q_rg_up (by assumption) (by omega) | exact q_rg_up (q_rg_up (by assumption) (by omega)) (by omega) | exact q_rg_cpy (by assumption) (by assumption) | omega) (And.intro (by first | assumption | exact q_rg_up (by assumption) (by omega) | exact q_rg_up (q_rg_up (by assumption) (by omega)) (by omega) | exact q_rg_cpy (by assumption) (by assumption) | omega) (?_)))))))))))))))))))))))))))))
      intro x_rbf5_99 x_rbu3_99 hq_99
      exact hQ _ _ _ _ _ _ _ _ _ _ _ _ _ _ (by first | (rw [show a = (0 : Int) by omega]; exact ⟨hq_50.1, (by rw [fpN_n (by omega)]; exact hN), (by rw [fdN_n (by omega)]; exact hM), ⟨by omega, by omega, by omega, by omega, by omega, by omega, hf3⟩⟩) | (rw [show a = (1 : Int) by omega]; exact ⟨(by rw [e_orI hq_78 hq_79]; exact CB_w1 hC), (by rw [e_orI hq_63 hq_64, fpN_1 (by omega)]; exact NPR_or hN (VR_p hv (by omega))), (by rw [fdN_n (by omega)]; exact hM), ⟨by omega, by omega, by omega, by omega, by omega, by omega, hf3⟩⟩) | (rw [show a = (2 : Int) by omega]; exact ⟨CB_w2 hC, (by rw [fpN_n (by omega)]; exact hN), (by rw [fdN_n (by omega)]; exact hM), ⟨by omega, by omega, by omega, by omega, by omega, by omega, hf3⟩⟩) | (rw [show a = (3 : Int) by omega]; exact ⟨hq_99.1, (by rw [fpN_n (by omega)]; exact hN), (by rw [fdN_n (by omega)]; exact hM), ⟨by omega, by omega, by omega, by omega, by omega, by omega, hf3⟩⟩) | (rw [show a = (4 : Int) by omega]; exact ⟨hq_107.1, (by rw [fpN_n (by omega)]; exact hN), (by rw [fdN_n (by omega)]; exact hM), ⟨by omega, by omega, by omega, by omega, by omega, by omega, hf3⟩⟩) | (rw [show a = (5 : Int) by omega]; exact ⟨hq_116.1, hq_116.2, (by rw [fdN_n (by omega)]; exact hM), ⟨by omega, by omega, by omega, by omega, by omega, by omega, hf3⟩⟩) | (rw [show a = (6 : Int) by omega]; exact ⟨hq_125.1, hq_125.2.1, hq_125.2.2, ⟨by omega, by omega, by omega, by omega, by omega, by omega, hf3⟩⟩) | (rw [show a = (7 : Int) by omega]; exact ⟨hq_134.1, (by rw [fpN_n (by omega)]; exact hN), (by rw [fdN_n (by omega)]; exact hM), ⟨by omega, by omega, by omega, by omega, by omega, by omega, hq_134.2⟩⟩) | (rw [show a = (8 : Int) by omega]; exact ⟨hq_145.1, hq_145.2, (by rw [fdN_n (by omega)]; exact hM), ⟨by omega, by omega, by omega, by omega, by omega, by omega, hf3⟩⟩))
    apply And.intro
    · intro hq_1
      refine Exists.intro [0, 1, 2, 3, 4, 5, 6, 7, 8, 9, 10, 11, 12, 13] (Exists.intro [q2 0, q1 _] (Exists.intro ([.inr (6, [q2 1, q2 9, q2 10, q2 11, q2 12, q2 13, q1 _, q1 _, q1 _, q1 _, q1 _, q1 _, q1 _, q1 _, q1 _]), .inr (0, [q2 2, q2 3, q2 4, q2 5, q2 6, q2 7, q2 8, q1 _, q1 _, q1 _, q1 _, q1 _]), .inl (0, 8, .inl _), .inl (0, 8, .inl _), .inl (0, 4, .inl _), .inl (0, 32, .inl _), .inl (0, 6, .inl _), .inl (0, 6, .inl _), .inl (0, 6, .inl _)]) (And.intro rfl (And.intro rfl (And.intro rfl (And.intro ⟨⟨_, rfl⟩, rfl⟩ ?_))))))
      refine Exists.intro _ (Exists.intro _ (Exists.intro _ (Exists.intro _ (Exists.intro _ (Exists.intro _ (Exists.intro _ (Exists.intro _ (Exists.intro _ (Exists.intro _ (Exists.intro _ (Exists.intro _ (Exists.intro _ (Exists.intro _ (Exists.intro _ (Exists.intro _ (Exists.intro _ (Exists.intro _ (Exists.intro _ (Exists.intro _ (Exists.intro _ (Exists.intro _ (Exists.intro cc (Exists.intro dd (Exists.intro _ (And.intro rfl (And.intro rfl (And.intro (by first | assumption | exact q_rg_up (by assumption) (by omega) | exact q_rg_up (q_rg_up (by assumption) (by omega)) (by omega) | exact q_rg_cpy (by assumption) (by assumption) | omega) (And.intro (by first | assumption | exact q_rg_up (by assumption) (by omega) | exact q_rg_up (q_rg_up (by assumption) (by omega)) (by omega) | exact q_rg_cpy (by assumption) (by assumption) | omega) (?_)))))))))))))))))))))))))))))
      intro x_rbf7_107 x_rbu4_107 hq_107
      exact hQ _ _ _ _ _ _ _ _ _ _ _ _ _ _ (by first | (rw [show a = (0 : Int) by omega]; exact ⟨hq_50.1, (by rw [fpN_n (by omega)]; exact hN), (by rw [fdN_n (by omega)]; exact hM), ⟨by omega, by omega, by omega, by omega, by omega, by omega, hf3⟩⟩) | (rw [show a = (1 : Int) by omega]; exact ⟨(by rw [e_orI hq_78 hq_79]; exact CB_w1 hC), (by rw [e_orI hq_63 hq_64, fpN_1 (by omega)]; exact NPR_or hN (VR_p hv (by omega))), (by rw [fdN_n (by omega)]; exact hM), ⟨by omega, by omega, by omega, by omega, by omega, by omega, hf3⟩⟩) | (rw [show a = (2 : Int) by omega]; exact ⟨CB_w2 hC, (by rw [fpN_n (by omega)]; exact hN), (by rw [fdN_n (by omega)]; exact hM), ⟨by omega, by omega, by omega, by omega, by omega, by omega, hf3⟩⟩) | (rw [show a = (3 : Int) by omega]; exact ⟨hq_99.1, (by rw [fpN_n (by omega)]; exact hN), (by rw [fdN_n (by omega)]; exact hM), ⟨by omega, by omega, by omega, by omega, by omega, by omega, hf3⟩⟩) | (rw [show a = (4 : Int) by omega]; exact ⟨hq_107.1, (by rw [fpN_n (by omega)]; exact hN), (by rw [fdN_n (by omega)]; exact hM), ⟨by omega, by omega, by omega, by omega, by omega, by omega, hf3⟩⟩) | (rw [show a = (5 : Int) by omega]; exact ⟨hq_116.1, hq_116.2, (by rw [fdN_n (by omega)]; exact hM), ⟨by omega, by omega, by omega, by omega, by omega, by omega, hf3⟩⟩) | (rw [show a = (6 : Int) by omega]; exact ⟨hq_125.1, hq_125.2.1, hq_125.2.2, ⟨by omega, by omega, by omega, by omega, by omega, by omega, hf3⟩⟩) | (rw [show a = (7 : Int) by omega]; exact ⟨hq_134.1, (by rw [fpN_n (by omega)]; exact hN), (by rw [fdN_n (by omega)]; exact hM), ⟨by omega, by omega, by omega, by omega, by omega, by omega, hq_134.2⟩⟩) | (rw [show a = (8 : Int) by omega]; exact ⟨hq_145.1, hq_145.2, (by rw [fdN_n (by omega)]; exact hM), ⟨by omega, by omega, by omega, by omega, by omega, by omega, hf3⟩⟩))
    apply And.intro
    · intro hq_1
      refine Exists.intro [0, 1, 2, 3, 4, 5, 6, 7, 8, 9, 10, 11, 12, 13] (Exists.intro [q2 0, q1 _, q1 _] (Exists.intro ([.inr (6, [q2 1, q2 9, q2 10, q2 11, q2 12, q2 13, q1 _, q1 _, q1 _, q1 _, q1 _, q1 _, q1 _, q1 _, q1 _]), .inr (0, [q2 2, q2 3, q2 4, q2 5, q2 6, q2 7, q2 8, q1 _, q1 _, q1 _, q1 _, q1 _]), .inl (0, 8, .inl _), .inl (0, 8, .inl _), .inl (0, 4, .inl _), .inl (0, 32, .inl _), .inl (0, 6, .inl _), .inl (0, 6, .inl _), .inl (0, 6, .inl _)]) (And.intro rfl (And.intro rfl (And.intro rfl (And.intro ⟨⟨_, rfl⟩, rfl⟩ ?_))))))
      refine Exists.intro _ (Exists.intro _ (Exists.intro _ (Exists.intro _ (Exists.intro _ (Exists.intro _ (Exists.intro _ (Exists.intro _ (Exists.intro _ (Exists.intro _ (Exists.intro _ (Exists.intro _ (Exists.intro _ (Exists.intro _ (Exists.intro _ (Exists.intro _ (Exists.intro _ (Exists.intro _ (Exists.intro _ (Exists.intro _ (Exists.intro _ (Exists.intro _ (Exists.intro _ (Exists.intro dd (Exists.intro _ (Exists.intro _ (And.intro rfl (And.intro rfl (And.intro (by first | assumption | exact q_rg_up (by assumption) (by omega) | exact q_rg_up (q_rg_up (by assumption) (by omega)) (by omega) | exact q_rg_cpy (by assumption) (by assumption) | omega) (And.intro (by first | assumption | exact q_rg_up (by assumption) (by omega) | exact q_rg_up (q_rg_up (by assumption) (by omega)) (by omega) | exact q_rg_cpy (by assumption) (by assumption) | omega) (And.intro (VR_p hv (by omega)) (And.intro (VR_5 hv (by omega)) (?_))))))))))))))))))))))))))))))))
      intro x_rbf2_116 x_rnp_116 hq_116
      exact hQ _ _ _ _ _ _ _ _ _ _ _ _ _ _ (by first | (rw [show a = (0 : Int) by omega]; exact ⟨hq_50.1, (by rw [fpN_n (by omega)]; exact hN), (by rw [fdN_n (by omega)]; exact hM), ⟨by omega, by omega, by omega, by omega, by omega, by omega, hf3⟩⟩) | (rw [show a = (1 : Int) by omega]; exact ⟨(by rw [e_orI hq_78 hq_79]; exact CB_w1 hC), (by rw [e_orI hq_63 hq_64, fpN_1 (by omega)]; exact NPR_or hN (VR_p hv (by omega))), (by rw [fdN_n (by omega)]; exact hM), ⟨by omega, by omega, by omega, by omega, by omega, by omega, hf3⟩⟩) | (rw [show a = (2 : Int) by omega]; exact ⟨CB_w2 hC, (by rw [fpN_n (by omega)]; exact hN), (by rw [fdN_n (by omega)]; exact hM), ⟨by omega, by omega, by omega, by omega, by omega, by omega, hf3⟩⟩) | (rw [show a = (3 : Int) by omega]; exact ⟨hq_99.1, (by rw [fpN_n (by omega)]; exact hN), (by rw [fdN_n (by omega)]; exact hM), ⟨by omega, by omega, by omega, by omega, by omega, by omega, hf3⟩⟩) | (rw [show a = (4 : Int) by omega]; exact ⟨hq_107.1, (by rw [fpN_n (by omega)]; exact hN), (by rw [fdN_n (by omega)]; exact hM), ⟨by omega, by omega, by omega, by omega, by omega, by omega, hf3⟩⟩) | (rw [show a = (5 : Int) by omega]; exact ⟨hq_116.1, hq_116.2, (by rw [fdN_n (by omega)]; exact hM), ⟨by omega, by omega, by omega, by omega, by omega, by omega, hf3⟩⟩) | (rw [show a = (6 : Int) by omega]; exact ⟨hq_125.1, hq_125.2.1, hq_125.2.2, ⟨by omega, by omega, by omega, by omega, by omega, by omega, hf3⟩⟩) | (rw [show a = (7 : Int) by omega]; exact ⟨hq_134.1, (by rw [fpN_n (by omega)]; exact hN), (by rw [fdN_n (by omega)]; exact hM), ⟨by omega, by omega, by omega, by omega, by omega, by omega, hq_134.2⟩⟩) | (rw [show a = (8 : Int) by omega]; exact ⟨hq_145.1, hq_145.2, (by rw [fdN_n (by omega)]; exact hM), ⟨by omega, by omega, by omega, by omega, by omega, by omega, hf3⟩⟩))
    apply And.intro
    · intro hq_1
      refine Exists.intro [0, 1, 2, 3, 4, 5, 6, 7, 8, 9, 10, 11, 12, 13] (Exists.intro [q2 0, q1 _, q1 _] (Exists.intro ([.inr (6, [q2 1, q2 9, q2 10, q2 11, q2 12, q2 13, q1 _, q1 _, q1 _, q1 _, q1 _, q1 _, q1 _, q1 _, q1 _]), .inr (0, [q2 2, q2 3, q2 4, q2 5, q2 6, q2 7, q2 8, q1 _, q1 _, q1 _, q1 _, q1 _]), .inl (0, 8, .inl _), .inl (0, 8, .inl _), .inl (0, 4, .inl _), .inl (0, 32, .inl _), .inl (0, 6, .inl _), .inl (0, 6, .inl _), .inl (0, 6, .inl _)]) (And.intro rfl (And.intro rfl (And.intro rfl (And.intro ⟨⟨_, rfl⟩, rfl⟩ ?_))))))
      refine Exists.intro _ (Exists.intro _ (Exists.intro _ (Exists.intro _ (Exists.intro _ (Exists.intro _ (Exists.intro _ (Exists.intro _ (Exists.intro _ (Exists.intro _ (Exists.intro _ (Exists.intro _ (Exists.intro _ (Exists.intro _ (Exists.intro _ (Exists.intro _ (Exists.intro _ (Exists.intro _ (Exists.intro _ (Exists.intro _ (Exists.intro _ (Exists.intro _ (Exists.intro _ (Exists.intro _ (Exists.intro dd (Exists.intro _ (Exists.intro _ (And.intro rfl (And.intro rfl (And.intro (by first | assumption | exact q_rg_up (by assumption) (by omega) | exact q_rg_up (q_rg_up (by assumption) (by omega)) (by omega) | exact q_rg_cpy (by assumption) (by assumption) | omega) (And.intro (by first | assumption | exact q_rg_up (by assumption) (by omega) | exact q_rg_up (q_rg_up (by assumption) (by omega)) (by omega) | exact q_rg_cpy (by assumption) (by assumption) | omega) (And.intro (by first | assumption | exact q_rg_up (by assumption) (by omega) | exact q_rg_up (q_rg_up (by assumption) (by omega)) (by omega) | exact q_rg_cpy (by assumption) (by assumption) | omega) (And.intro (VR_p hv (by omega)) (And.intro (VR_6 hv (by omega)) (?_))))))))))))))))))))))))))))))))))
      intro x_rbf6_125 x_rnp_125 x_rnd_125 hq_125
      exact hQ _ _ _ _ _ _ _ _ _ _ _ _ _ _ (by first | (rw [show a = (0 : Int) by omega]; exact ⟨hq_50.1, (by rw [fpN_n (by omega)]; exact hN), (by rw [fdN_n (by omega)]; exact hM), ⟨by omega, by omega, by omega, by omega, by omega, by omega, hf3⟩⟩) | (rw [show a = (1 : Int) by omega]; exact ⟨(by rw [e_orI hq_78 hq_79]; exact CB_w1 hC), (by rw [e_orI hq_63 hq_64, fpN_1 (by omega)]; exact NPR_or hN (VR_p hv (by omega))), (by rw [fdN_n (by omega)]; exact hM), ⟨by omega, by omega, by omega, by omega, by omega, by omega, hf3⟩⟩) | (rw [show a = (2 : Int) by omega]; exact ⟨CB_w2 hC, (by rw [fpN_n (by omega)]; exact hN), (by rw [fdN_n (by omega)]; exact hM), ⟨by omega, by omega, by omega, by omega, by omega, by omega, hf3⟩⟩) | (rw [show a = (3 : Int) by omega]; exact ⟨hq_99.1, (by rw [fpN_n (by omega)]; exact hN), (by rw [fdN_n (by omega)]; exact hM), ⟨by omega, by omega, by omega, by omega, by omega, by omega, hf3⟩⟩) | (rw [show a = (4 : Int) by omega]; exact ⟨hq_107.1, (by rw [fpN_n (by omega)]; exact hN), (by rw [fdN_n (by omega)]; exact hM), ⟨by omega, by omega, by omega, by omega, by omega, by omega, hf3⟩⟩) | (rw [show a = (5 : Int) by omega]; exact ⟨hq_116.1, hq_116.2, (by rw [fdN_n (by omega)]; exact hM), ⟨by omega, by omega, by omega, by omega, by omega, by omega, hf3⟩⟩) | (rw [show a = (6 : Int) by omega]; exact ⟨hq_125.1, hq_125.2.1, hq_125.2.2, ⟨by omega, by omega, by omega, by omega, by omega, by omega, hf3⟩⟩) | (rw [show a = (7 : Int) by omega]; exact ⟨hq_134.1, (by rw [fpN_n (by omega)]; exact hN), (by rw [fdN_n (by omega)]; exact hM), ⟨by omega, by omega, by omega, by omega, by omega, by omega, hq_134.2⟩⟩) | (rw [show a = (8 : Int) by omega]; exact ⟨hq_145.1, hq_145.2, (by rw [fdN_n (by omega)]; exact hM), ⟨by omega, by omega, by omega, by omega, by omega, by omega, hf3⟩⟩))
    apply And.intro
    · intro hq_1
      refine Exists.intro [0, 1, 2, 3, 4, 5, 6, 7, 8, 9, 10, 11, 12, 13] (Exists.intro [q2 0, q1 _, q1 _] (Exists.intro ([.inr (6, [q2 1, q2 9, q2 10, q2 11, q2 12, q2 13, q1 _, q1 _, q1 _, q1 _, q1 _, q1 _, q1 _, q1 _, q1 _]), .inr (0, [q2 2, q2 3, q2 4, q2 5, q2 6, q2 7, q2 8, q1 _, q1 _, q1 _, q1 _, q1 _]), .inl (0, 8, .inl _), .inl (0, 8, .inl _), .inl (0, 4, .inl _), .inl (0, 32, .inl _), .inl (0, 6, .inl _), .inl (0, 6, .inl _), .inl (0, 6, .inl _)]) (And.intro rfl (And.intro rfl (And.intro rfl (And.intro ⟨⟨_, rfl⟩, rfl⟩ ?_))))))
      refine Exists.intro _ (Exists.intro _ (Exists.intro _ (Exists.intro _ (Exists.intro _ (Exists.intro _ (Exists.intro _ (Exists.intro _ (Exists.intro _ (Exists.intro _ (Exists.intro _ (Exists.intro _ (Exists.intro _ (Exists.intro _ (Exists.intro _ (Exists.intro _ (Exists.intro _ (Exists.intro _ (Exists.intro _ (Exists.intro _ (Exists.intro _ (Exists.intro _ (Exists.intro dd (Exists.intro _ (Exists.intro _ (And.intro rfl (And.intro rfl (And.intro (by first | assumption | exact q_rg_up (by assumption) (by omega) | exact q_rg_up (q_rg_up (by assumption) (by omega)) (by omega) | exact q_rg_cpy (by assumption) (by assumption) | omega) (And.intro (by first | assumption | exact q_rg_up (by assumption) (by omega) | exact q_rg_up (q_rg_up (by assumption) (by omega)) (by omega) | exact q_rg_cpy (by assumption) (by assumption) | omega) (And.intro (VR_7a hv (by omega)) (And.intro (VR_7b hv (by omega)) (?_)))))))))))))))))))))))))))))))
      intro x_rbf3_134 hq_134
      exact hQ _ _ _ _ _ _ _ _ _ _ _ _ _ _ (by first | (rw [show a = (0 : Int) by omega]; exact ⟨hq_50.1, (by rw [fpN_n (by omega)]; exact hN), (by rw [fdN_n (by omega)]; exact hM), ⟨by omega, by omega, by omega, by omega, by omega, by omega, hf3⟩⟩) | (rw [show a = (1 : Int) by omega]; exact ⟨(by rw [e_orI hq_78 hq_79]; exact CB_w1 hC), (by rw [e_orI hq_63 hq_64, fpN_1 (by omega)]; exact NPR_or hN (VR_p hv (by omega))), (by rw [fdN_n (by omega)]; exact hM), ⟨by omega, by omega, by omega, by omega, by omega, by omega, hf3⟩⟩) | (rw [show a = (2 : Int) by omega]; exact ⟨CB_w2 hC, (by rw [fpN_n (by omega)]; exact hN), (by rw [fdN_n (by omega)]; exact hM), ⟨by omega, by omega, by omega, by omega, by omega, by omega, hf3⟩⟩) | (rw [show a = (3 : Int) by omega]; exact ⟨hq_99.1, (by rw [fpN_n (by omega)]; exact hN), (by rw [fdN_n (by omega)]; exact hM), ⟨by omega, by omega, by omega, by omega, by omega, by omega, hf3⟩⟩) | (rw [show a = (4 : Int) by omega]; exact ⟨hq_107.1, (by rw [fpN_n (by omega)]; exact hN), (by rw [fdN_n (by omega)]; exact hM), ⟨by omega, by omega, by omega, by omega, by omega, by omega, hf3⟩⟩) | (rw [show a = (5 : Int) by omega]; exact ⟨hq_116.1, hq_116.2, (by rw [fdN_n (by omega)]; exact hM), ⟨by omega, by omega, by omega, by omega, by omega, by omega, hf3⟩⟩) | (rw [show a = (6 : Int) by omega]; exact ⟨hq_125.1, hq_125.2.1, hq_125.2.2, ⟨by omega, by omega, by omega, by omega, by omega, by omega, hf3⟩⟩) | (rw [show a = (7 : Int) by omega]; exact ⟨hq_134.1, (by rw [fpN_n (by omega)]; exact hN), (by rw [fdN_n (by omega)]; exact hM), ⟨by omega, by omega, by omega, by omega, by omega, by omega, hq_134.2⟩⟩) | (rw [show a = (8 : Int) by omega]; exact ⟨hq_145.1, hq_145.2, (by rw [fdN_n (by omega)]; exact hM), ⟨by omega, by omega, by omega, by omega, by omega, by omega, hf3⟩⟩))
    exact trivial
  · intro hq_1
    refine Exists.intro [0, 1, 2, 3, 4, 5, 6, 7, 8, 9, 10, 11, 12, 13] (Exists.intro [q2 0, q1 _, q1 _, q1 _] (Exists.intro ([.inr (6, [q2 1, q2 9, q2 10, q2 11, q2 12, q2 13, q1 _, q1 _, q1 _, q1 _, q1 _, q1 _, q1 _, q1 _, q1 _]), .inr (0, [q2 2, q2 3, q2 4, q2 5, q2 6, q2 7, q2 8, q1 _, q1 _, q1 _, q1 _, q1 _]), .inl (0, 8, .inl _), .inl (0, 8, .inl _), .inl (0, 4, .inl _), .inl (0, 32, .inl _), .inl (0, 6, .inl _), .inl (0, 6, .inl _), .inl (0, 6, .inl _)]) (And.intro rfl (And.intro rfl (And.intro rfl (And.intro ⟨⟨_, rfl⟩, rfl⟩ ?_))))))
    refine Exists.intro _ (Exists.intro _ (Exists.intro _ (Exists.intro _ (Exists.intro _ (Exists.intro _ (Exists.intro _ (Exists.intro _ (Exists.intro _ (Exists.intro _ (Exists.intro _ (Exists.intro _ (Exists.intro _ (Exists.intro _ (Exists.intro _ (Exists.intro _ (Exists.intro _ (Exists.intro _ (Exists.intro _ (Exists.intro _ (Exists.intro _ (Exists.intro _ (Exists.intro _ (Exists.intro _ (Exists.intro _ (Exists.intro _ (And.intro rfl (And.intro rfl (And.intro (by first | assumption | exact q_rg_up (by assumption) (by omega) | exact q_rg_up (q_rg_up (by assumption) (by omega)) (by omega) | exact q_rg_cpy (by assumption) (by assumption) | omega) (And.intro (by first | assumption | exact q_rg_up (by assumption) (by omega) | exact q_rg_up (q_rg_up (by assumption) (by omega)) (by omega) | exact q_rg_cpy (by assumption) (by assumption) | omega) (And.intro (VR_p hv (by omega)) (And.intro (VR_8 hv (by omega)) (?_))))))))))))))))))))))))))))))))
    intro x_rbf4_145 x_rnp_145 hq_145
    exact hQ _ _ _ _ _ _ _ _ _ _ _ _ _ _ (by first | (rw [show a = (0 : Int) by omega]; exact ⟨hq_50.1, (by rw [fpN_n (by omega)]; exact hN), (by rw [fdN_n (by omega)]; exact hM), ⟨by omega, by omega, by omega, by omega, by omega, by omega, hf3⟩⟩) | (rw [show a = (1 : Int) by omega]; exact ⟨(by rw [e_orI hq_78 hq_79]; exact CB_w1 hC), (by rw [e_orI hq_63 hq_64, fpN_1 (by omega)]; exact NPR_or hN (VR_p hv (by omega))), (by rw [fdN_n (by omega)]; exact hM), ⟨by omega, by omega, by omega, by omega, by omega, by omega, hf3⟩⟩) | (rw [show a = (2 : Int) by omega]; exact ⟨CB_w2 hC, (by rw [fpN_n (by omega)]; exact hN), (by rw [fdN_n (by omega)]; exact hM), ⟨by omega, by omega, by omega, by omega, by omega, by omega, hf3⟩⟩) | (rw [show a = (3 : Int) by omega]; exact ⟨hq_99.1, (by rw [fpN_n (by omega)]; exact hN), (by rw [fdN_n (by omega)]; exact hM), ⟨by omega, by omega, by omega, by omega, by omega, by omega, hf3⟩⟩) | (rw [show a = (4 : Int) by omega]; exact ⟨hq_107.1, (by rw [fpN_n (by omega)]; exact hN), (by rw [fdN_n (by omega)]; exact hM), ⟨by omega, by omega, by omega, by omega, by omega, by omega, hf3⟩⟩) | (rw [show a = (5 : Int) by omega]; exact ⟨hq_116.1, hq_116.2, (by rw [fdN_n (by omega)]; exact hM), ⟨by omega, by omega, by omega, by omega, by omega, by omega, hf3⟩⟩) | (rw [show a = (6 : Int) by omega]; exact ⟨hq_125.1, hq_125.2.1, hq_125.2.2, ⟨by omega, by omega, by omega, by omega, by omega, by omega, hf3⟩⟩) | (rw [show a = (7 : Int) by omega]; exact ⟨hq_134.1, (by rw [fpN_n (by omega)]; exact hN), (by rw [fdN_n (by omega)]; exact hM), ⟨by omega, by omega, by omega, by omega, by omega, by omega, hq_134.2⟩⟩) | (rw [show a = (8 : Int) by omega]; exact ⟨hq_145.1, hq_145.2, (by rw [fdN_n (by omega)]; exact hM), ⟨by omega, by omega, by omega, by omega, by omega, by omega, hf3⟩⟩))

theorem dF6_tell_0 : decode cX6_tell 0 = .ok (.iload_n 1, 1) := by decide +kernel
theorem dF6_tell_1 : decode cX6_tell 1 = .ok (.bipush 8, 2) := by decide +kernel
theorem dF6_tell_3 : decode cX6_tell 3 = .ok (.if_icmp .gt 29, 3) := by decide +kernel
theorem dF6_tell_6 : decode cX6_tell 6 = .ok (.aload_n 0, 1) := by decide +kernel
theorem dF6_tell_7 : decode cX6_tell 7 = .ok (.iload_n 1, 1) := by decide +kernel
theorem dF6_tell_8 : decode cX6_tell 8 = .ok (.aload_n 0, 1) := by decide +kernel
theorem dF6_tell_9 : decode cX6_tell 9 = .ok (.getfield 39, 3) := by decide +kernel
theorem dF6_tell_12 : decode cX6_tell 12 = .ok (.iconst 0, 1) := by decide +kernel
theorem dF6_tell_13 : decode cX6_tell 13 = .ok (.iaload, 1) := by decide +kernel
theorem dF6_tell_14 : decode cX6_tell 14 = .ok (.aload_n 0, 1) := by decide +kernel
theorem dF6_tell_15 : decode cX6_tell 15 = .ok (.getfield 39, 3) := by decide +kernel
theorem dF6_tell_18 : decode cX6_tell 18 = .ok (.iconst 1, 1) := by decide +kernel
theorem dF6_tell_19 : decode cX6_tell 19 = .ok (.iaload, 1) := by decide +kernel
theorem dF6_tell_20 : decode cX6_tell 20 = .ok (.aload_n 0, 1) := by decide +kernel
theorem dF6_tell_21 : decode cX6_tell 21 = .ok (.getfield 39, 3) := by decide +kernel
theorem dF6_tell_24 : decode cX6_tell 24 = .ok (.iconst 2, 1) := by decide +kernel
theorem dF6_tell_25 : decode cX6_tell 25 = .ok (.iaload, 1) := by decide +kernel
theorem dF6_tell_26 : decode cX6_tell 26 = .ok (.invokevirtual 222, 3) := by decide +kernel
theorem dF6_tell_29 : decode cX6_tell 29 = .ok (.goto 107, 3) := by decide +kernel
theorem dF6_tell_32 : decode cX6_tell 32 = .ok (.iload_n 1, 1) := by decide +kernel
theorem dF6_tell_33 : decode cX6_tell 33 = .ok (.bipush 13, 2) := by decide +kernel
theorem dF6_tell_35 : decode cX6_tell 35 = .ok (.if_icmp .gt 35, 3) := by decide +kernel
theorem dF6_tell_38 : decode cX6_tell 38 = .ok (.aload_n 0, 1) := by decide +kernel
theorem dF6_tell_39 : decode cX6_tell 39 = .ok (.getfield 21, 3) := by decide +kernel
theorem dF6_tell_42 : decode cX6_tell 42 = .ok (.iload_n 1, 1) := by decide +kernel
theorem dF6_tell_43 : decode cX6_tell 43 = .ok (.bipush 9, 2) := by decide +kernel
theorem dF6_tell_45 : decode cX6_tell 45 = .ok (.isub, 1) := by decide +kernel
theorem dF6_tell_46 : decode cX6_tell 46 = .ok (.aload_n 0, 1) := by decide +kernel
theorem dF6_tell_47 : decode cX6_tell 47 = .ok (.getfield 39, 3) := by decide +kernel
theorem dF6_tell_50 : decode cX6_tell 50 = .ok (.iconst 0, 1) := by decide +kernel
theorem dF6_tell_51 : decode cX6_tell 51 = .ok (.iaload, 1) := by decide +kernel
theorem dF6_tell_52 : decode cX6_tell 52 = .ok (.aload_n 0, 1) := by decide +kernel
theorem dF6_tell_53 : decode cX6_tell 53 = .ok (.getfield 39, 3) := by decide +kernel
theorem dF6_tell_56 : decode cX6_tell 56 = .ok (.iconst 1, 1) := by decide +kernel
theorem dF6_tell_57 : decode cX6_tell 57 = .ok (.iaload, 1) := by decide +kernel
theorem dF6_tell_58 : decode cX6_tell 58 = .ok (.aload_n 0, 1) := by decide +kernel
theorem dF6_tell_59 : decode cX6_tell 59 = .ok (.getfield 39, 3) := by decide +kernel
theorem dF6_tell_62 : decode cX6_tell 62 = .ok (.iconst 2, 1) := by decide +kernel
theorem dF6_tell_63 : decode cX6_tell 63 = .ok (.iaload, 1) := by decide +kernel
theorem dF6_tell_64 : decode cX6_tell 64 = .ok (.invokevirtual 226, 3) := by decide +kernel
theorem dF6_tell_67 : decode cX6_tell 67 = .ok (.goto 69, 3) := by decide +kernel
theorem dF6_tell_70 : decode cX6_tell 70 = .ok (.iload_n 1, 1) := by decide +kernel
theorem dF6_tell_71 : decode cX6_tell 71 = .ok (.bipush 14, 2) := by decide +kernel
theorem dF6_tell_73 : decode cX6_tell 73 = .ok (.if_icmp .ne 22, 3) := by decide +kernel
theorem dF6_tell_76 : decode cX6_tell 76 = .ok (.aload_n 0, 1) := by decide +kernel
theorem dF6_tell_77 : decode cX6_tell 77 = .ok (.aload_n 0, 1) := by decide +kernel
theorem dF6_tell_78 : decode cX6_tell 78 = .ok (.getfield 39, 3) := by decide +kernel
theorem dF6_tell_81 : decode cX6_tell 81 = .ok (.iconst 0, 1) := by decide +kernel
theorem dF6_tell_82 : decode cX6_tell 82 = .ok (.iaload, 1) := by decide +kernel
theorem dF6_tell_83 : decode cX6_tell 83 = .ok (.aload_n 0, 1) := by decide +kernel
theorem dF6_tell_84 : decode cX6_tell 84 = .ok (.getfield 39, 3) := by decide +kernel
theorem dF6_tell_87 : decode cX6_tell 87 = .ok (.iconst 1, 1) := by decide +kernel
theorem dF6_tell_88 : decode cX6_tell 88 = .ok (.iaload, 1) := by decide +kernel
theorem dF6_tell_89 : decode cX6_tell 89 = .ok (.invokevirtual 229, 3) := by decide +kernel
theorem dF6_tell_92 : decode cX6_tell 92 = .ok (.goto 44, 3) := by decide +kernel
theorem dF6_tell_95 : decode cX6_tell 95 = .ok (.iload_n 1, 1) := by decide +kernel
theorem dF6_tell_96 : decode cX6_tell 96 = .ok (.bipush 15, 2) := by decide +kernel
theorem dF6_tell_98 : decode cX6_tell 98 = .ok (.if_icmp .ne 19, 3) := by decide +kernel
theorem dF6_tell_101 : decode cX6_tell 101 = .ok (.aload_n 0, 1) := by decide +kernel
theorem dF6_tell_102 : decode cX6_tell 102 = .ok (.getfield 28, 3) := by decide +kernel
theorem dF6_tell_105 : decode cX6_tell 105 = .ok (.aload_n 0, 1) := by decide +kernel
theorem dF6_tell_106 : decode cX6_tell 106 = .ok (.getfield 39, 3) := by decide +kernel
theorem dF6_tell_109 : decode cX6_tell 109 = .ok (.iconst 0, 1) := by decide +kernel
theorem dF6_tell_110 : decode cX6_tell 110 = .ok (.iaload, 1) := by decide +kernel
theorem dF6_tell_111 : decode cX6_tell 111 = .ok (.putfield 232, 3) := by decide +kernel
theorem dF6_tell_114 : decode cX6_tell 114 = .ok (.goto 22, 3) := by decide +kernel
theorem dF6_tell_117 : decode cX6_tell 117 = .ok (.aload_n 0, 1) := by decide +kernel
theorem dF6_tell_118 : decode cX6_tell 118 = .ok (.getfield 35, 3) := by decide +kernel
theorem dF6_tell_121 : decode cX6_tell 121 = .ok (.aload_n 0, 1) := by decide +kernel
theorem dF6_tell_122 : decode cX6_tell 122 = .ok (.getfield 39, 3) := by decide +kernel
theorem dF6_tell_125 : decode cX6_tell 125 = .ok (.iconst 0, 1) := by decide +kernel
theorem dF6_tell_126 : decode cX6_tell 126 = .ok (.iaload, 1) := by decide +kernel
theorem dF6_tell_127 : decode cX6_tell 127 = .ok (.aload_n 0, 1) := by decide +kernel
theorem dF6_tell_128 : decode cX6_tell 128 = .ok (.getfield 39, 3) := by decide +kernel
theorem dF6_tell_131 : decode cX6_tell 131 = .ok (.iconst 1, 1) := by decide +kernel
theorem dF6_tell_132 : decode cX6_tell 132 = .ok (.iaload, 1) := by decide +kernel
theorem dF6_tell_133 : decode cX6_tell 133 = .ok (.invokevirtual 234, 3) := by decide +kernel
theorem dF6_tell_136 : decode cX6_tell 136 = .ok (.return_, 1) := by decide +kernel
def is_F6_tell : Nat → List Nat := fun d => []
set_option maxRecDepth 100000 in
def b_F6_tell_136 (J : Nat → List qV → List qV → qW → Prop) (Q : qR) : qK := x_vret Q
set_option maxRecDepth 100000 in
theorem s_F6_tell_136 {p : Program} {l : Launch} {e : Env} {R : Room} {s : State} {m : MethodId} {args : Array Value} {below : List Frame} {meth : Method} {c : Code} {nW : Nat} {dC : Nat → ClassId} {dI : Nat → Nat → Nat} {k : Nat → ClassId} {g : Nat → Nat} {A : Nat → Prop} {J : Nat → List qV → List qV → qW → Prop} {Q : qR} (X : q_X p R s m args meth c cX6_tell 2 nW 2 48 RX6 none dC dI k g A) (hJ : ∀ d : Nat, q_Sd p l e R s m args below meth c 2 nW dC dI k g A (MQ below (q_post (dC, dI) k g nW Q A) args s 0 0 A) d (x_cut (is_F6_tell d) (J d))) : q_Sd p l e R s m args below meth c 2 nW dC dI k g A (MQ below (q_post (dC, dI) k g nW Q A) args s 0 0 A) 136 (b_F6_tell_136 J Q) := by
  unfold b_F6_tell_136
  exact s_vret X dF6_tell_136
set_option maxRecDepth 100000 in
def b_F6_tell_127 (J : Nat → List qV → List qV → qW → Prop) (Q : qR) : qK := x_aload 0 (x_get 6 4 (x_int 1 (x_iald (x_call (some 7) 3 sp_F7_add (x_nw (b_F6_tell_136 J Q))))))
set_option maxRecDepth 100000 in
theorem s_F6_tell_127 {p : Program} {l : Launch} {e : Env} {R : Room} {s : State} {m : MethodId} {args : Array Value} {below : List Frame} {meth : Method} {c : Code} {nW : Nat} {dC : Nat → ClassId} {dI : Nat → Nat → Nat} {k : Nat → ClassId} {g : Nat → Nat} {A : Nat → Prop} {J : Nat → List qV → List qV → qW → Prop} {Q : qR} (X : q_X p R s m args meth c cX6_tell 2 nW 2 48 RX6 none dC dI k g A) (hJ : ∀ d : Nat, q_Sd p l e R s m args below meth c 2 nW dC dI k g A (MQ below (q_post (dC, dI) k g nW Q A) args s 0 0 A) d (x_cut (is_F6_tell d) (J d))) : q_Sd p l e R s m args below meth c 2 nW dC dI k g A (MQ below (q_post (dC, dI) k g nW Q A) args s 0 0 A) 127 (b_F6_tell_127 J Q) := by
  unfold b_F6_tell_127
  refine s_aload_n X rfl dF6_tell_127 ?_
  refine s_get X (T := TX6) (C := RX6) (N := 15) tu_X6 rfl (by decide) tw_275 dF6_tell_128 ?_
  refine s_iconst X ⟨by decide, by decide⟩ dF6_tell_131 ?_
  refine s_iald X dF6_tell_132 ?_
  refine s_callV X (m_F7_add l) tw_503 tw_504 tw_505 tw_127 tw_506 rfl (by decide +kernel) ⟨by decide, by decide⟩ dF6_tell_133 ?_
  refine s_nw ?_
  exact s_F6_tell_136 X hJ
set_option maxRecDepth 100000 in
def b_F6_tell_82 (J : Nat → List qV → List qV → qW → Prop) (Q : qR) : qK := x_iald (x_aload 0 (x_get 6 4 (x_int 1 (x_iald (x_call (some 6) 3 sp_F6_tellGot (x_nw (b_F6_tell_136 J Q)))))))
set_option maxRecDepth 100000 in
theorem s_F6_tell_82 {p : Program} {l : Launch} {e : Env} {R : Room} {s : State} {m : MethodId} {args : Array Value} {below : List Frame} {meth : Method} {c : Code} {nW : Nat} {dC : Nat → ClassId} {dI : Nat → Nat → Nat} {k : Nat → ClassId} {g : Nat → Nat} {A : Nat → Prop} {J : Nat → List qV → List qV → qW → Prop} {Q : qR} (X : q_X p R s m args meth c cX6_tell 2 nW 2 48 RX6 none dC dI k g A) (hJ : ∀ d : Nat, q_Sd p l e R s m args below meth c 2 nW dC dI k g A (MQ below (q_post (dC, dI) k g nW Q A) args s 0 0 A) d (x_cut (is_F6_tell d) (J d))) : q_Sd p l e R s m args below meth c 2 nW dC dI k g A (MQ below (q_post (dC, dI) k g nW Q A) args s 0 0 A) 82 (b_F6_tell_82 J Q) := by
  unfold b_F6_tell_82
  refine s_iald X dF6_tell_82 ?_
  refine s_aload_n X rfl dF6_tell_83 ?_
  refine s_get X (T := TX6) (C := RX6) (N := 15) tu_X6 rfl (by decide) tw_275 dF6_tell_84 ?_
  refine s_iconst X ⟨by decide, by decide⟩ dF6_tell_87 ?_
  refine s_iald X dF6_tell_88 ?_
  refine s_callV X (m_F6_tellGot l) tw_500 tw_501 tw_1525 tw_128 tw_502 rfl (by decide +kernel) ⟨by decide, by decide⟩ dF6_tell_89 ?_
  refine s_nw ?_
  refine s_goto X (tgt := 136) dF6_tell_92 (by decide) ?_
  exact s_F6_tell_136 X hJ
set_option maxRecDepth 100000 in
def b_F6_tell_42 (J : Nat → List qV → List qV → qW → Prop) (Q : qR) : qK := x_iload 1 (x_int 9 (x_isub (x_aload 0 (x_get 6 4 (x_int 0 (x_iald (x_aload 0 (x_get 6 4 (x_int 1 (x_iald (x_aload 0 (x_get 6 4 (x_int 2 (x_iald (x_call (some 10) 5 sp_F10_add (x_nw (b_F6_tell_136 J Q)))))))))))))))))
set_option maxRecDepth 100000 in
theorem s_F6_tell_42 {p : Program} {l : Launch} {e : Env} {R : Room} {s : State} {m : MethodId} {args : Array Value} {below : List Frame} {meth : Method} {c : Code} {nW : Nat} {dC : Nat → ClassId} {dI : Nat → Nat → Nat} {k : Nat → ClassId} {g : Nat → Nat} {A : Nat → Prop} {J : Nat → List qV → List qV → qW → Prop} {Q : qR} (X : q_X p R s m args meth c cX6_tell 2 nW 2 48 RX6 none dC dI k g A) (hJ : ∀ d : Nat, q_Sd p l e R s m args below meth c 2 nW dC dI k g A (MQ below (q_post (dC, dI) k g nW Q A) args s 0 0 A) d (x_cut (is_F6_tell d) (J d))) : q_Sd p l e R s m args below meth c 2 nW dC dI k g A (MQ below (q_post (dC, dI) k g nW Q A) args s 0 0 A) 42 (b_F6_tell_42 J Q) := by
  unfold b_F6_tell_42
  refine s_iload_n X rfl dF6_tell_42 ?_
  refine s_bipush X ⟨by decide, by decide⟩ (by decide) dF6_tell_43 ?_
  refine s_isub X dF6_tell_45 ?_
  refine s_aload_n X rfl dF6_tell_46 ?_
  refine s_get X (T := TX6) (C := RX6) (N := 15) tu_X6 rfl (by decide) tw_275 dF6_tell_47 ?_
  refine s_iconst X ⟨by decide, by decide⟩ dF6_tell_50 ?_
  refine s_iald X dF6_tell_51 ?_
  refine s_aload_n X rfl dF6_tell_52 ?_
  refine s_get X (T := TX6) (C := RX6) (N := 15) tu_X6 rfl (by decide) tw_275 dF6_tell_53 ?_
  refine s_iconst X ⟨by decide, by decide⟩ dF6_tell_56 ?_
  refine s_iald X dF6_tell_57 ?_
  refine s_aload_n X rfl dF6_tell_58 ?_
  refine s_get X (T := TX6) (C := RX6) (N := 15) tu_X6 rfl (by decide) tw_275 dF6_tell_59 ?_
  refine s_iconst X ⟨by decide, by decide⟩ dF6_tell_62 ?_
  refine s_iald X dF6_tell_63 ?_
  refine s_callV X (m_F10_add l) tw_496 tw_497 tw_498 tw_125 tw_499 rfl (by decide +kernel) ⟨by decide, by decide⟩ dF6_tell_64 ?_
  refine s_nw ?_
  refine s_goto X (tgt := 136) dF6_tell_67 (by decide) ?_
  exact s_F6_tell_136 X hJ
set_option maxRecDepth 100000 in
def b_F6_tell_0 (J : Nat → List qV → List qV → qW → Prop) (Q : qR) : qK := x_iload 1 (x_int 8 (x_icmp_gt (x_iload 1 (x_int 13 (x_icmp_gt (x_iload 1 (x_int 14 (x_icmp_ne (x_iload 1 (x_int 15 (x_icmp_ne (x_aload 0 (x_get 6 3 (x_aload 0 (x_get 6 4 (x_int 0 (x_iald (b_F6_tell_127 J Q))))))) (x_aload 0 (x_get 6 2 (x_aload 0 (x_get 6 4 (x_int 0 (x_iald (x_put 3 1 q_oki (x_nw (b_F6_tell_136 J Q)))))))))))) (x_aload 0 (x_aload 0 (x_get 6 4 (x_int 0 (b_F6_tell_82 J Q)))))))) (x_aload 0 (x_get 6 1 (b_F6_tell_42 J Q)))))) (x_aload 0 (x_iload 1 (x_aload 0 (x_get 6 4 (x_int 0 (x_iald (x_aload 0 (x_get 6 4 (x_int 1 (x_iald (x_aload 0 (x_get 6 4 (x_int 2 (x_iald (x_call (some 6) 5 sp_F6_tellBorough (x_nw (b_F6_tell_136 J Q)))))))))))))))))))
set_option maxRecDepth 100000 in
theorem s_F6_tell_0 {p : Program} {l : Launch} {e : Env} {R : Room} {s : State} {m : MethodId} {args : Array Value} {below : List Frame} {meth : Method} {c : Code} {nW : Nat} {dC : Nat → ClassId} {dI : Nat → Nat → Nat} {k : Nat → ClassId} {g : Nat → Nat} {A : Nat → Prop} {J : Nat → List qV → List qV → qW → Prop} {Q : qR} (X : q_X p R s m args meth c cX6_tell 2 nW 2 48 RX6 none dC dI k g A) (hJ : ∀ d : Nat, q_Sd p l e R s m args below meth c 2 nW dC dI k g A (MQ below (q_post (dC, dI) k g nW Q A) args s 0 0 A) d (x_cut (is_F6_tell d) (J d))) : q_Sd p l e R s m args below meth c 2 nW dC dI k g A (MQ below (q_post (dC, dI) k g nW Q A) args s 0 0 A) 0 (b_F6_tell_0 J Q) := by
  unfold b_F6_tell_0
  refine s_iload_n X rfl dF6_tell_0 ?_
  refine s_bipush X ⟨by decide, by decide⟩ (by decide) dF6_tell_1 ?_
  refine s_icmp_gt X (tgt := 32) dF6_tell_3 (by decide) ?_ ?_
  · refine s_iload_n X rfl dF6_tell_32 ?_
    refine s_bipush X ⟨by decide, by decide⟩ (by decide) dF6_tell_33 ?_
    refine s_icmp_gt X (tgt := 70) dF6_tell_35 (by decide) ?_ ?_
    · refine s_iload_n X rfl dF6_tell_70 ?_
      refine s_bipush X ⟨by decide, by decide⟩ (by decide) dF6_tell_71 ?_
      refine s_icmp_ne X (tgt := 95) dF6_tell_73 (by decide) ?_ ?_
      · refine s_iload_n X rfl dF6_tell_95 ?_
        refine s_bipush X ⟨by decide, by decide⟩ (by decide) dF6_tell_96 ?_
        refine s_icmp_ne X (tgt := 117) dF6_tell_98 (by decide) ?_ ?_
        · refine s_aload_n X rfl dF6_tell_117 ?_
          refine s_get X (T := TX6) (C := RX6) (N := 15) tu_X6 rfl (by decide) tw_273 dF6_tell_118 ?_
          refine s_aload_n X rfl dF6_tell_121 ?_
          refine s_get X (T := TX6) (C := RX6) (N := 15) tu_X6 rfl (by decide) tw_275 dF6_tell_122 ?_
          refine s_iconst X ⟨by decide, by decide⟩ dF6_tell_125 ?_
          refine s_iald X dF6_tell_126 ?_
          exact s_F6_tell_127 X hJ
        · refine s_aload_n X rfl dF6_tell_101 ?_
          refine s_get X (T := TX6) (C := RX6) (N := 15) tu_X6 rfl (by decide) tw_271 dF6_tell_102 ?_
          refine s_aload_n X rfl dF6_tell_105 ?_
          refine s_get X (T := TX6) (C := RX6) (N := 15) tu_X6 rfl (by decide) tw_275 dF6_tell_106 ?_
          refine s_iconst X ⟨by decide, by decide⟩ dF6_tell_109 ?_
          refine s_iald X dF6_tell_110 ?_
          refine s_put X (T := TX3) (C := RX3) (N := 2) tu_X3 tyX3_ok nmX3 rfl (by decide) tw_237 rfl (by decide +kernel) q_oki_t dF6_tell_111 ?_
          refine s_nw ?_
          refine s_goto X (tgt := 136) dF6_tell_114 (by decide) ?_
          exact s_F6_tell_136 X hJ
      · refine s_aload_n X rfl dF6_tell_76 ?_
        refine s_aload_n X rfl dF6_tell_77 ?_
        refine s_get X (T := TX6) (C := RX6) (N := 15) tu_X6 rfl (by decide) tw_275 dF6_tell_78 ?_
        refine s_iconst X ⟨by decide, by decide⟩ dF6_tell_81 ?_
        exact s_F6_tell_82 X hJ
    · refine s_aload_n X rfl dF6_tell_38 ?_
      refine s_get X (T := TX6) (C := RX6) (N := 15) tu_X6 rfl (by decide) tw_269 dF6_tell_39 ?_
      exact s_F6_tell_42 X hJ
  · refine s_aload_n X rfl dF6_tell_6 ?_
    refine s_iload_n X rfl dF6_tell_7 ?_
    refine s_aload_n X rfl dF6_tell_8 ?_
    refine s_get X (T := TX6) (C := RX6) (N := 15) tu_X6 rfl (by decide) tw_275 dF6_tell_9 ?_
    refine s_iconst X ⟨by decide, by decide⟩ dF6_tell_12 ?_
    refine s_iald X dF6_tell_13 ?_
    refine s_aload_n X rfl dF6_tell_14 ?_
    refine s_get X (T := TX6) (C := RX6) (N := 15) tu_X6 rfl (by decide) tw_275 dF6_tell_15 ?_
    refine s_iconst X ⟨by decide, by decide⟩ dF6_tell_18 ?_
    refine s_iald X dF6_tell_19 ?_
    refine s_aload_n X rfl dF6_tell_20 ?_
    refine s_get X (T := TX6) (C := RX6) (N := 15) tu_X6 rfl (by decide) tw_275 dF6_tell_21 ?_
    refine s_iconst X ⟨by decide, by decide⟩ dF6_tell_24 ?_
    refine s_iald X dF6_tell_25 ?_
    refine s_callV X (m_F6_tellBorough l) tw_472 tw_473 tw_1521 tw_128 tw_474 rfl (by decide +kernel) ⟨by decide, by decide⟩ dF6_tell_26 ?_
    refine s_nw ?_
    refine s_goto X (tgt := 136) dF6_tell_29 (by decide) ?_
    exact s_F6_tell_136 X hJ

def sp_F6_tell : qS := fun av w Q => ∃ (rln : Int) (rfa : Int) (rpl : Int) (rst : Int) (rnx : Int) (rtk : Int) (rnm : Int) (rnp : Int) (rnd : Int) (rv : Nat → Int) (rbf1 : Nat → Int) (rbf2 : Nat → Int) (rbf3 : Nat → Int) (rbf4 : Nat → Int) (rbf5 : Nat → Int) (rbf6 : Nat → Int) (rbf7 : Nat → Int) (rbu0 : Int) (rbu1 : Int) (rbu2 : Int) (rbu3 : Int) (rbu4 : Int) (ryk1 : Nat → Int) (ryk2 : Nat → Int) (ryk3 : Nat → Int) (ryk4 : Nat → Int) (ryd : Int) (rlg : Nat → Int) (rlo : Int) (rsp : Nat → Int) (rsq : Nat → Int) (rsc : Int) (gs : Int) (gD : Nat → Int) (gf : Int) (gd : Int) (a : Int), av = [q2 0, q1 a] ∧ w = [.inr (6, [q2 2, q2 10, q2 15, q2 17, q2 1, q2 20, q1 rln, q1 rfa, q1 rpl, q1 rst, q1 rnx, q1 rtk, q1 rnm, q1 rnp, q1 rnd]), .inl (0, 3, .inl rv), .inr (0, [q2 3, q2 4, q2 5, q2 6, q2 7, q2 8, q2 9, q1 rbu0, q1 rbu1, q1 rbu2, q1 rbu3, q1 rbu4]), .inl (0, 8, .inl rbf1), .inl (0, 8, .inl rbf2), .inl (0, 4, .inl rbf3), .inl (0, 32, .inl rbf4), .inl (0, 6, .inl rbf5), .inl (0, 6, .inl rbf6), .inl (0, 6, .inl rbf7), .inr (10, [q2 11, q2 12, q2 13, q2 14, q1 ryd]), .inl (0, 40, .inl ryk1), .inl (0, 40, .inl ryk2), .inl (0, 40, .inl ryk3), .inl (0, 40, .inl ryk4), .inr (3, [q2 16, q1 rlo]), .inl (0, 8, .inl rlg), .inr (7, [q2 18, q2 19, q1 rsc]), .inl (0, 10, .inl rsp), .inl (0, 10, .inl rsq)] ∧ (0 ≤ rbu0 ∧ rbu0 ≤ 8 ∧ 0 ≤ rbu3 ∧ rbu3 ≤ 6 ∧ 0 ≤ rbu4 ∧ rbu4 ≤ 6) ∧ (q_rg 0 9 rbf3) ∧ (0 ≤ ryd ∧ ryd ≤ 40) ∧ (0 ≤ rsc ∧ rsc ≤ 10) ∧ (Cs gs gD gf gd rbf1 rbf2 rbf3 rbf4 rbf5 rbf6 rbf7 rbu0 rbu1 rbu2 rbu3 rbu4 rnp rnd ryk1 ryk2 ryk3 ryk4 ryd rlg rlo rsp rsq rsc) ∧ (wsR gs a) ∧ (VR a (rv 0) (rv 1)) ∧ (¬ fulC a rbu0 rbu3 rbu4 ryd rsc) ∧ (∀ (x_rbf1 : Nat → Int) (x_rbf2 : Nat → Int) (x_rbf3 : Nat → Int) (x_rbf4 : Nat → Int) (x_rbf5 : Nat → Int) (x_rbf6 : Nat → Int) (x_rbf7 : Nat → Int) (x_rbu0 : Int) (x_rbu1 : Int) (x_rbu2 : Int) (x_rbu3 : Int) (x_rbu4 : Int) (x_rnp : Int) (x_rnd : Int) (x_ryk1 : Nat → Int) (x_ryk2 : Nat → Int) (x_ryk3 : Nat → Int) (x_ryk4 : Nat → Int) (x_ryd : Int) (x_rlg : Nat → Int) (x_rlo : Int) (x_rsp : Nat → Int) (x_rsq : Nat → Int) (x_rsc : Int), (Cs gs (tel a (rv 0) (rv 1) (rv 2) gD) (fpN a (rv 0) (rv 1) gf) (fdN a (rv 1) gd) x_rbf1 x_rbf2 x_rbf3 x_rbf4 x_rbf5 x_rbf6 x_rbf7 x_rbu0 x_rbu1 x_rbu2 x_rbu3 x_rbu4 x_rnp x_rnd x_ryk1 x_ryk2 x_ryk3 x_ryk4 x_ryd x_rlg x_rlo x_rsp x_rsq x_rsc ∧ (0 ≤ x_rbu0 ∧ x_rbu0 ≤ 8 ∧ 0 ≤ x_rbu3 ∧ x_rbu3 ≤ 6 ∧ 0 ≤ x_rbu4 ∧ x_rbu4 ≤ 6 ∧ q_rg 0 9 x_rbf3) ∧ (0 ≤ x_ryd ∧ x_ryd ≤ 40) ∧ (0 ≤ x_rsc ∧ x_rsc ≤ 10)) → Q none ([.inr (6, [q2 2, q2 10, q2 15, q2 17, q2 1, q2 20, q1 rln, q1 rfa, q1 rpl, q1 rst, q1 rnx, q1 rtk, q1 rnm, q1 x_rnp, q1 x_rnd]), .inl (0, 3, .inl rv), .inr (0, [q2 3, q2 4, q2 5, q2 6, q2 7, q2 8, q2 9, q1 x_rbu0, q1 x_rbu1, q1 x_rbu2, q1 x_rbu3, q1 x_rbu4]), .inl (0, 8, .inl x_rbf1), .inl (0, 8, .inl x_rbf2), .inl (0, 4, .inl x_rbf3), .inl (0, 32, .inl x_rbf4), .inl (0, 6, .inl x_rbf5), .inl (0, 6, .inl x_rbf6), .inl (0, 6, .inl x_rbf7), .inr (10, [q2 11, q2 12, q2 13, q2 14, q1 x_ryd]), .inl (0, 40, .inl x_ryk1), .inl (0, 40, .inl x_ryk2), .inl (0, 40, .inl x_ryk3), .inl (0, 40, .inl x_ryk4), .inr (3, [q2 16, q1 x_rlo]), .inl (0, 8, .inl x_rlg), .inr (7, [q2 18, q2 19, q1 x_rsc]), .inl (0, 10, .inl x_rsp), .inl (0, 10, .inl x_rsq)]))
set_option maxHeartbeats 4000000 in
set_option maxRecDepth 100000 in
theorem m_F6_tell (l : Launch) : q_M l yX6_tell cX6_tell 2 none 2 48 sp_F6_tell := by
  refine q_meth (by decide) (fun av w Q h => by obtain ⟨rln, rfa, rpl, rst, rnx, rtk, rnm, rnp, rnd, rv, rbf1, rbf2, rbf3, rbf4, rbf5, rbf6, rbf7, rbu0, rbu1, rbu2, rbu3, rbu4, ryk1, ryk2, ryk3, ryk4, ryd, rlg, rlo, rsp, rsq, rsc, gs, gD, gf, gd, a, rfl, rfl, hrb, hf3, hry, hrs, hC, hw9, hv, hfu, hQ⟩ := h; exact Nat.le_of_ble_eq_true rfl) ?_
  intro p e R s m args below meth c dC dI k g A av w Q hsp oka okw X
  obtain ⟨rln, rfa, rpl, rst, rnx, rtk, rnm, rnp, rnd, rv, rbf1, rbf2, rbf3, rbf4, rbf5, rbf6, rbf7, rbu0, rbu1, rbu2, rbu3, rbu4, ryk1, ryk2, ryk3, ryk4, ryd, rlg, rlo, rsp, rsq, rsc, gs, gD, gf, gd, a, rfl, rfl, hrb, hf3, hry, hrs, hC, hw9, hv, hfu, hQ⟩ := hsp
  have o_a : -2147483648 ≤ a ∧ a ≤ 2147483647 := oka _ (List.mem_of_getElem? (i := 1) rfl)
  refine s_mono (s_F6_tell_0 X (J := fun _ _ _ _ => False) (fun d => s_cutF)) ?_
  rintro lv st w' ⟨rfl, rfl, rfl⟩
  have hw8 := hw9
  unfold wsR at hw8
  have hfu8 := hfu
  unfold fulC at hfu8
  apply And.intro
  · intro hq_3
    apply And.intro
    · intro hq_35
      apply And.intro
      · intro hq_73
        apply And.intro
        · intro hq_98
          apply And.intro
          · exact ⟨by omega, by omega⟩
          intro zq_126 hq_126
          have e126 : zq_126 = rv 0 := hq_126
          clear hq_126
          subst e126
          apply And.intro
          · exact ⟨by omega, by omega⟩
          intro zq_132 hq_132
          have e132 : zq_132 = rv 1 := hq_132
          clear hq_132
          subst e132
          refine Exists.intro [17, 18, 19] (Exists.intro [q2 0, q1 _, q1 _] (Exists.intro ((wSo 0 _ _ _)) (And.intro rfl (And.intro rfl (And.intro rfl (And.intro ⟨⟨_, rfl⟩, rfl⟩ ?_))))))
          refine Exists.intro _ (Exists.intro _ (Exists.intro _ (Exists.intro _ (Exists.intro (rv 2) (Exists.intro _ (Exists.intro _ (And.intro rfl (And.intro rfl (And.intro (hC.2.2.2 (by omega)) (And.intro (by first | assumption | exact q_rg_up (by assumption) (by omega) | exact q_rg_up (q_rg_up (by assumption) (by omega)) (by omega) | exact q_rg_cpy (by assumption) (by assumption) | omega) (?_)))))))))))
          intro g1_133 g2_133 t_133 hq_133
          exact hQ _ _ _ _ _ _ _ _ _ _ _ _ _ _ _ _ _ _ _ _ _ _ _ _ (by first | exact ⟨Cs_0 (by omega) ⟨hq_26.1, hq_26.2.1, hq_26.2.2.1⟩, hq_26.2.2.2, by omega, by omega⟩ | exact ⟨Cs_1 (by omega) hq_64.1, (⟨by omega, by omega, by omega, by omega, by omega, by omega, hf3⟩), by omega, by omega⟩ | (rw [show a = (14 : Int) by omega]; exact ⟨Cs_2 (by omega) hq_89, (⟨by omega, by omega, by omega, by omega, by omega, by omega, hf3⟩), by omega, by omega⟩) | (rw [show a = (15 : Int) by omega]; exact ⟨Cs_2 (by omega) (CL_o (hC.2.2.1 (by omega))), (⟨by omega, by omega, by omega, by omega, by omega, by omega, hf3⟩), by omega, by omega⟩) | (rw [show a = (16 : Int) by omega]; exact ⟨Cs_3 (by omega) hq_133.1, (⟨by omega, by omega, by omega, by omega, by omega, by omega, hf3⟩), by omega, by omega⟩))
        · intro hq_98
          apply And.intro
          · exact ⟨by omega, by omega⟩
          intro zq_110 hq_110
          have e110 : zq_110 = rv 0 := hq_110
          clear hq_110
          subst e110
          apply And.intro
          · exact trivial
          exact hQ _ _ _ _ _ _ _ _ _ _ _ _ _ _ _ _ _ _ _ _ _ _ _ _ (by first | exact ⟨Cs_0 (by omega) ⟨hq_26.1, hq_26.2.1, hq_26.2.2.1⟩, hq_26.2.2.2, by omega, by omega⟩ | exact ⟨Cs_1 (by omega) hq_64.1, (⟨by omega, by omega, by omega, by omega, by omega, by omega, hf3⟩), by omega, by omega⟩ | (rw [show a = (14 : Int) by omega]; exact ⟨Cs_2 (by omega) hq_89, (⟨by omega, by omega, by omega, by omega, by omega, by omega, hf3⟩), by omega, by omega⟩) | (rw [show a = (15 : Int) by omega]; exact ⟨Cs_2 (by omega) (CL_o (hC.2.2.1 (by omega))), (⟨by omega, by omega, by omega, by omega, by omega, by omega, hf3⟩), by omega, by omega⟩) | (rw [show a = (16 : Int) by omega]; exact ⟨Cs_3 (by omega) hq_133.1, (⟨by omega, by omega, by omega, by omega, by omega, by omega, hf3⟩), by omega, by omega⟩))
      · intro hq_73
        apply And.intro
        · exact ⟨by omega, by omega⟩
        intro zq_82 hq_82
        have e82 : zq_82 = rv 0 := hq_82
        clear hq_82
        subst e82
        apply And.intro
        · exact ⟨by omega, by omega⟩
        intro zq_88 hq_88
        have e88 : zq_88 = rv 1 := hq_88
        clear hq_88
        subst e88
        refine Exists.intro [0, 15, 16, 2, 10, 17, 1, 20] (Exists.intro [q2 0, q1 _, q1 _] (Exists.intro ([.inr (6, [q2 3, q2 4, q2 1, q2 5, q2 6, q2 7, q1 _, q1 _, q1 _, q1 _, q1 _, q1 _, q1 _, q1 _, q1 _]), .inr (3, [q2 2, q1 _]), .inl (0, 8, .inl _)]) (And.intro rfl (And.intro rfl (And.intro rfl (And.intro ⟨⟨_, rfl⟩, rfl⟩ ?_))))))
        refine Exists.intro _ (Exists.intro _ (Exists.intro _ (Exists.intro _ (Exists.intro _ (Exists.intro _ (Exists.intro _ (Exists.intro _ (Exists.intro _ (Exists.intro _ (Exists.intro _ (Exists.intro _ (Exists.intro (rv 2) (Exists.intro _ (Exists.intro _ (And.intro rfl (And.intro rfl (And.intro (hC.2.2.1 (by omega)) (And.intro (VR_p hv (by omega)) (?_)))))))))))))))))))
        intro x_rlg_89 hq_89
        exact hQ _ _ _ _ _ _ _ _ _ _ _ _ _ _ _ _ _ _ _ _ _ _ _ _ (by first | exact ⟨Cs_0 (by omega) ⟨hq_26.1, hq_26.2.1, hq_26.2.2.1⟩, hq_26.2.2.2, by omega, by omega⟩ | exact ⟨Cs_1 (by omega) hq_64.1, (⟨by omega, by omega, by omega, by omega, by omega, by omega, hf3⟩), by omega, by omega⟩ | (rw [show a = (14 : Int) by omega]; exact ⟨Cs_2 (by omega) hq_89, (⟨by omega, by omega, by omega, by omega, by omega, by omega, hf3⟩), by omega, by omega⟩) | (rw [show a = (15 : Int) by omega]; exact ⟨Cs_2 (by omega) (CL_o (hC.2.2.1 (by omega))), (⟨by omega, by omega, by omega, by omega, by omega, by omega, hf3⟩), by omega, by omega⟩) | (rw [show a = (16 : Int) by omega]; exact ⟨Cs_3 (by omega) hq_133.1, (⟨by omega, by omega, by omega, by omega, by omega, by omega, hf3⟩), by omega, by omega⟩))
    · intro hq_35
      intro zq_45 hq_45
      first | replace hq_45 := e_sub hq_45 (by omega) | replace hq_45 := e_rng hq_45
      apply And.intro
      · exact ⟨by omega, by omega⟩
      intro zq_51 hq_51
      have e51 : zq_51 = rv 0 := hq_51
      clear hq_51
      subst e51
      apply And.intro
      · exact ⟨by omega, by omega⟩
      intro zq_57 hq_57
      have e57 : zq_57 = rv 1 := hq_57
      clear hq_57
      subst e57
      apply And.intro
      · exact ⟨by omega, by omega⟩
      intro zq_63 hq_63
      have e63 : zq_63 = rv 2 := hq_63
      clear hq_63
      subst e63
      refine Exists.intro [10, 11, 12, 13, 14] (Exists.intro [q2 0, q1 _, q1 _, q1 _, q1 _] (Exists.intro ((wYo 0 _ _ _ _ _)) (And.intro rfl (And.intro rfl (And.intro rfl (And.intro ⟨⟨_, rfl⟩, rfl⟩ ?_))))))
      refine Exists.intro _ (Exists.intro _ (Exists.intro _ (Exists.intro _ (Exists.intro _ (Exists.intro _ (Exists.intro a (Exists.intro _ (Exists.intro _ (Exists.intro _ (Exists.intro _ (And.intro rfl (And.intro rfl (And.intro (hC.2.1 (by omega)) (And.intro (by first | assumption | exact q_rg_up (by assumption) (by omega) | exact q_rg_up (q_rg_up (by assumption) (by omega)) (by omega) | exact q_rg_cpy (by assumption) (by assumption) | omega) (And.intro (by first | assumption | exact q_rg_up (by assumption) (by omega) | exact q_rg_up (q_rg_up (by assumption) (by omega)) (by omega) | exact q_rg_cpy (by assumption) (by assumption) | omega) (And.intro (by first | assumption | exact q_rg_up (by assumption) (by omega) | exact q_rg_up (q_rg_up (by assumption) (by omega)) (by omega) | exact q_rg_cpy (by assumption) (by assumption) | omega) (?_)))))))))))))))))
      intro g1_64 g2_64 g3_64 g4_64 t_64 hq_64
      exact hQ _ _ _ _ _ _ _ _ _ _ _ _ _ _ _ _ _ _ _ _ _ _ _ _ (by first | exact ⟨Cs_0 (by omega) ⟨hq_26.1, hq_26.2.1, hq_26.2.2.1⟩, hq_26.2.2.2, by omega, by omega⟩ | exact ⟨Cs_1 (by omega) hq_64.1, (⟨by omega, by omega, by omega, by omega, by omega, by omega, hf3⟩), by omega, by omega⟩ | (rw [show a = (14 : Int) by omega]; exact ⟨Cs_2 (by omega) hq_89, (⟨by omega, by omega, by omega, by omega, by omega, by omega, hf3⟩), by omega, by omega⟩) | (rw [show a = (15 : Int) by omega]; exact ⟨Cs_2 (by omega) (CL_o (hC.2.2.1 (by omega))), (⟨by omega, by omega, by omega, by omega, by omega, by omega, hf3⟩), by omega, by omega⟩) | (rw [show a = (16 : Int) by omega]; exact ⟨Cs_3 (by omega) hq_133.1, (⟨by omega, by omega, by omega, by omega, by omega, by omega, hf3⟩), by omega, by omega⟩))
  · intro hq_3
    apply And.intro
    · exact ⟨by omega, by omega⟩
    intro zq_13 hq_13
    have e13 : zq_13 = rv 0 := hq_13
    clear hq_13
    subst e13
    apply And.intro
    · exact ⟨by omega, by omega⟩
    intro zq_19 hq_19
    have e19 : zq_19 = rv 1 := hq_19
    clear hq_19
    subst e19
    apply And.intro
    · exact ⟨by omega, by omega⟩
    intro zq_25 hq_25
    have e25 : zq_25 = rv 2 := hq_25
    clear hq_25
    subst e25
    refine Exists.intro [0, 2, 3, 4, 5, 6, 7, 8, 9, 10, 15, 17, 1, 20] (Exists.intro [q2 0, q1 _, q1 _, q1 _, q1 _] (Exists.intro ([.inr (6, [q2 1, q2 9, q2 10, q2 11, q2 12, q2 13, q1 _, q1 _, q1 _, q1 _, q1 _, q1 _, q1 _, q1 _, q1 _]), .inr (0, [q2 2, q2 3, q2 4, q2 5, q2 6, q2 7, q2 8, q1 _, q1 _, q1 _, q1 _, q1 _]), .inl (0, 8, .inl _), .inl (0, 8, .inl _), .inl (0, 4, .inl _), .inl (0, 32, .inl _), .inl (0, 6, .inl _), .inl (0, 6, .inl _), .inl (0, 6, .inl _)]) (And.intro rfl (And.intro rfl (And.intro rfl (And.intro ⟨⟨_, rfl⟩, rfl⟩ ?_))))))
    refine Exists.intro _ (Exists.intro _ (Exists.intro _ (Exists.intro _ (Exists.intro _ (Exists.intro _ (Exists.intro _ (Exists.intro _ (Exists.intro _ (Exists.intro _ (Exists.intro _ (Exists.intro _ (Exists.intro _ (Exists.intro _ (Exists.intro _ (Exists.intro _ (Exists.intro _ (Exists.intro _ (Exists.intro _ (Exists.intro _ (Exists.intro _ (Exists.intro _ (Exists.intro _ (Exists.intro _ (Exists.intro _ (Exists.intro _ (Exists.intro _ (Exists.intro _ (And.intro rfl (And.intro rfl (And.intro (by first | assumption | exact q_rg_up (by assumption) (by omega) | exact q_rg_up (q_rg_up (by assumption) (by omega)) (by omega) | exact q_rg_cpy (by assumption) (by assumption) | omega) (And.intro (by first | assumption | exact q_rg_up (by assumption) (by omega) | exact q_rg_up (q_rg_up (by assumption) (by omega)) (by omega) | exact q_rg_cpy (by assumption) (by assumption) | omega) (And.intro (hC.1 (by omega)).1 (And.intro (hC.1 (by omega)).2.1 (And.intro (hC.1 (by omega)).2.2 (And.intro (by first | assumption | exact q_rg_up (by assumption) (by omega) | exact q_rg_up (q_rg_up (by assumption) (by omega)) (by omega) | exact q_rg_cpy (by assumption) (by assumption) | omega) (And.intro hv (And.intro (by first | assumption | exact q_rg_up (by assumption) (by omega) | exact q_rg_up (q_rg_up (by assumption) (by omega)) (by omega) | exact q_rg_cpy (by assumption) (by assumption) | omega) (?_))))))))))))))))))))))))))))))))))))))
    intro x_rbf1_26 x_rbf2_26 x_rbf3_26 x_rbf4_26 x_rbf5_26 x_rbf6_26 x_rbf7_26 x_rbu0_26 x_rbu1_26 x_rbu2_26 x_rbu3_26 x_rbu4_26 x_rnp_26 x_rnd_26 hq_26
    exact hQ _ _ _ _ _ _ _ _ _ _ _ _ _ _ _ _ _ _ _ _ _ _ _ _ (by first | exact ⟨Cs_0 (by omega) ⟨hq_26.1, hq_26.2.1, hq_26.2.2.1⟩, hq_26.2.2.2, by omega, by omega⟩ | exact ⟨Cs_1 (by omega) hq_64.1, (⟨by omega, by omega, by omega, by omega, by omega, by omega, hf3⟩), by omega, by omega⟩ | (rw [show a = (14 : Int) by omega]; exact ⟨Cs_2 (by omega) hq_89, (⟨by omega, by omega, by omega, by omega, by omega, by omega, hf3⟩), by omega, by omega⟩) | (rw [show a = (15 : Int) by omega]; exact ⟨Cs_2 (by omega) (CL_o (hC.2.2.1 (by omega))), (⟨by omega, by omega, by omega, by omega, by omega, by omega, hf3⟩), by omega, by omega⟩) | (rw [show a = (16 : Int) by omega]; exact ⟨Cs_3 (by omega) hq_133.1, (⟨by omega, by omega, by omega, by omega, by omega, by omega, hf3⟩), by omega, by omega⟩))
