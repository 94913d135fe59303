theorem dX12_got_0 : decode cX12_got 0 = .ok (.aload_n 0, 1) := by decide +kernel
theorem dX12_got_1 : decode cX12_got 1 = .ok (.getfield 32, 3) := by decide +kernel
theorem dX12_got_4 : decode cX12_got 4 = .ok (.bipush 9, 2) := by decide +kernel
theorem dX12_got_6 : decode cX12_got 6 = .ok (.aload_n 0, 1) := by decide +kernel
theorem dX12_got_7 : decode cX12_got 7 = .ok (.getfield 428, 3) := by decide +kernel
theorem dX12_got_10 : decode cX12_got 10 = .ok (.imul, 1) := by decide +kernel
theorem dX12_got_11 : decode cX12_got 11 = .ok (.iload_n 1, 1) := by decide +kernel
theorem dX12_got_12 : decode cX12_got 12 = .ok (.iadd, 1) := by decide +kernel
theorem dX12_got_13 : decode cX12_got 13 = .ok (.iaload, 1) := by decide +kernel
theorem dX12_got_14 : decode cX12_got 14 = .ok (.ireturn, 1) := by decide +kernel
def is_X12_got : Nat → List Nat := fun d => []
set_option maxRecDepth 100000 in
def b_X12_got_0 (J : Nat → List qV → List qV → qW → Prop) (Q : qR) : qK := x_aload 0 (x_get 12 8 (x_int 9 (x_aload 0 (x_get 12 33 (x_imul (x_iload 1 (x_iadd (x_iald (x_iret Q)))))))))
set_option maxRecDepth 100000 in
theorem s_X12_got_0 {p : Program} {l : Launch} {e : Env} {R : Room} {s : State} {m : MethodId} {args : Array Value} {below : List Frame} {meth : Method} {c : Code} {nW : Nat} {dC : Nat → ClassId} {dI : Nat → Nat → Nat} {k : Nat → ClassId} {g : Nat → Nat} {A : Nat → Prop} {J : Nat → List qV → List qV → qW → Prop} {Q : qR} (X : q_X p R s m args meth c cX12_got 2 nW 0 0 RX12 (some .int) dC dI k g A) (hJ : ∀ d : Nat, q_Sd p l e R s m args below meth c 2 nW dC dI k g A (MQ below (q_post (dC, dI) k g nW Q A) args s 0 0 A) d (x_cut (is_X12_got d) (J d))) : q_Sd p l e R s m args below meth c 2 nW dC dI k g A (MQ below (q_post (dC, dI) k g nW Q A) args s 0 0 A) 0 (b_X12_got_0 J Q) := by
  unfold b_X12_got_0
  refine s_aload_n X rfl dX12_got_0 ?_
  refine s_get X (T := TX12) (C := RX12) (N := 45) tu_X12 rfl (by decide) tw_1005 dX12_got_1 ?_
  refine s_bipush X ⟨by decide, by decide⟩ (by decide) dX12_got_4 ?_
  refine s_aload_n X rfl dX12_got_6 ?_
  refine s_get X (T := TX12) (C := RX12) (N := 45) tu_X12 rfl (by decide) tw_1030 dX12_got_7 ?_
  refine s_imul X dX12_got_10 ?_
  refine s_iload_n X rfl dX12_got_11 ?_
  refine s_iadd X dX12_got_12 ?_
  refine s_iald X dX12_got_13 ?_
  exact s_iret X dX12_got_14

def spr_X12_got : List qV → qW → (Option qV → Prop) → Prop := fun av w Q => ∃ (mco : Int) (mre : Int) (mle : Int) (mbe : Int) (mso : Int) (mva : Int) (mwo : Int) (mwr : Int) (mlf : Int) (mlp : Int) (mfp : Int) (mfd : Int) (mgo : Int) (mbo : Int) (mpe : Int) (mye : Int) (mpr : Int) (mld : Int) (msi : Int) (mse : Int) (ls : Nat → Int) (a : Int), av = [q2 0, q1 a] ∧ w = [.inr (12, [q1 mco, q2 2, q2 3, q2 4, q2 5, q2 6, q2 7, q2 8, q2 1, q2 9, q1 mre, q1 mle, q1 mbe, q1 mso, q1 mva, q3 mwo, q1 mwr, q1 mlf, q1 mlp, q2 10, q2 11, q1 mfp, q1 mfd, q1 mgo, q1 mbo, q1 mpe, q1 mye, q2 12, q1 mpr, q2 13, q2 14, q2 15, q2 16, q1 mld, q2 17, q1 msi, q2 18, q2 19, q2 20, q2 21, q2 22, q1 mse, q2 23, q2 24, q2 25]), .inl (0, 72, .inl ls)] ∧ (0 ≤ mld ∧ mld ≤ 1) ∧ (0 ≤ a ∧ a ≤ 7) ∧ (∀ (r : Int) , Q (some (q1 r)))
def sp_X12_got : qS := fun av w Q => spr_X12_got av w (fun r => Q r w)
set_option maxHeartbeats 4000000 in
set_option maxRecDepth 100000 in
theorem m_X12_got (l : Launch) : q_M l yX12_got cX12_got 2 (some .int) 0 0 sp_X12_got := by
  refine q_meth (by decide) (fun av w Q h => by obtain ⟨mco, mre, mle, mbe, mso, mva, mwo, mwr, mlf, mlp, mfp, mfd, mgo, mbo, mpe, mye, mpr, mld, msi, mse, ls, a, rfl, rfl, hld, ha, hQ⟩ := h; exact Nat.le_of_ble_eq_true rfl) ?_
  intro p e R s m args below meth c dC dI k g A av w Q hsp oka okw X
  obtain ⟨mco, mre, mle, mbe, mso, mva, mwo, mwr, mlf, mlp, mfp, mfd, mgo, mbo, mpe, mye, mpr, mld, msi, mse, ls, a, rfl, rfl, hld, ha, hQ⟩ := hsp
  have o_a : -2147483648 ≤ a ∧ a ≤ 2147483647 := oka _ (List.mem_of_getElem? (i := 1) rfl)
  refine s_mono (s_X12_got_0 X (J := fun _ _ _ _ => False) (fun d => s_cutF)) ?_
  rintro lv st w' ⟨rfl, rfl, rfl⟩
  intro z10 h10
  first | replace h10 := e_mul h10 (by omega) | replace h10 := e_rng h10
  intro z12 h12
  first | replace h12 := e_add h12 (by omega) | replace h12 := e_rng h12
  apply And.intro
  · exact ⟨by omega, by omega⟩
  intro z13 h13
  exact hQ _

theorem dX12_owed_0 : decode cX12_owed 0 = .ok (.aload_n 0, 1) := by decide +kernel
theorem dX12_owed_1 : decode cX12_owed 1 = .ok (.getfield 32, 3) := by decide +kernel
theorem dX12_owed_4 : decode cX12_owed 4 = .ok (.bipush 9, 2) := by decide +kernel
theorem dX12_owed_6 : decode cX12_owed 6 = .ok (.aload_n 0, 1) := by decide +kernel
theorem dX12_owed_7 : decode cX12_owed 7 = .ok (.getfield 428, 3) := by decide +kernel
theorem dX12_owed_10 : decode cX12_owed 10 = .ok (.imul, 1) := by decide +kernel
theorem dX12_owed_11 : decode cX12_owed 11 = .ok (.bipush 8, 2) := by decide +kernel
theorem dX12_owed_13 : decode cX12_owed 13 = .ok (.iadd, 1) := by decide +kernel
theorem dX12_owed_14 : decode cX12_owed 14 = .ok (.iaload, 1) := by decide +kernel
theorem dX12_owed_15 : decode cX12_owed 15 = .ok (.ireturn, 1) := by decide +kernel
def is_X12_owed : Nat → List Nat := fun d => []
set_option maxRecDepth 100000 in
def b_X12_owed_0 (J : Nat → List qV → List qV → qW → Prop) (Q : qR) : qK := x_aload 0 (x_get 12 8 (x_int 9 (x_aload 0 (x_get 12 33 (x_imul (x_int 8 (x_iadd (x_iald (x_iret Q)))))))))
set_option maxRecDepth 100000 in
theorem s_X12_owed_0 {p : Program} {l : Launch} {e : Env} {R : Room} {s : State} {m : MethodId} {args : Array Value} {below : List Frame} {meth : Method} {c : Code} {nW : Nat} {dC : Nat → ClassId} {dI : Nat → Nat → Nat} {k : Nat → ClassId} {g : Nat → Nat} {A : Nat → Prop} {J : Nat → List qV → List qV → qW → Prop} {Q : qR} (X : q_X p R s m args meth c cX12_owed 1 nW 0 0 RX12 (some .int) dC dI k g A) (hJ : ∀ d : Nat, q_Sd p l e R s m args below meth c 1 nW dC dI k g A (MQ below (q_post (dC, dI) k g nW Q A) args s 0 0 A) d (x_cut (is_X12_owed d) (J d))) : q_Sd p l e R s m args below meth c 1 nW dC dI k g A (MQ below (q_post (dC, dI) k g nW Q A) args s 0 0 A) 0 (b_X12_owed_0 J Q) := by
  unfold b_X12_owed_0
  refine s_aload_n X rfl dX12_owed_0 ?_
  refine s_get X (T := TX12) (C := RX12) (N := 45) tu_X12 rfl (by decide) tw_1005 dX12_owed_1 ?_
  refine s_bipush X ⟨by decide, by decide⟩ (by decide) dX12_owed_4 ?_
  refine s_aload_n X rfl dX12_owed_6 ?_
  refine s_get X (T := TX12) (C := RX12) (N := 45) tu_X12 rfl (by decide) tw_1030 dX12_owed_7 ?_
  refine s_imul X dX12_owed_10 ?_
  refine s_bipush X ⟨by decide, by decide⟩ (by decide) dX12_owed_11 ?_
  refine s_iadd X dX12_owed_13 ?_
  refine s_iald X dX12_owed_14 ?_
  exact s_iret X dX12_owed_15

def spr_X12_owed : List qV → qW → (Option qV → Prop) → Prop := fun av w Q => ∃ (mco : Int) (mre : Int) (mle : Int) (mbe : Int) (mso : Int) (mva : Int) (mwo : Int) (mwr : Int) (mlf : Int) (mlp : Int) (mfp : Int) (mfd : Int) (mgo : Int) (mbo : Int) (mpe : Int) (mye : Int) (mpr : Int) (mld : Int) (msi : Int) (mse : Int) (ls : Nat → Int), av = [q2 0] ∧ w = [.inr (12, [q1 mco, q2 2, q2 3, q2 4, q2 5, q2 6, q2 7, q2 8, q2 1, q2 9, q1 mre, q1 mle, q1 mbe, q1 mso, q1 mva, q3 mwo, q1 mwr, q1 mlf, q1 mlp, q2 10, q2 11, q1 mfp, q1 mfd, q1 mgo, q1 mbo, q1 mpe, q1 mye, q2 12, q1 mpr, q2 13, q2 14, q2 15, q2 16, q1 mld, q2 17, q1 msi, q2 18, q2 19, q2 20, q2 21, q2 22, q1 mse, q2 23, q2 24, q2 25]), .inl (0, 72, .inl ls)] ∧ (0 ≤ mld ∧ mld ≤ 1) ∧ (∀ (r : Int) , Q (some (q1 r)))
def sp_X12_owed : qS := fun av w Q => spr_X12_owed av w (fun r => Q r w)
set_option maxHeartbeats 4000000 in
set_option maxRecDepth 100000 in
theorem m_X12_owed (l : Launch) : q_M l yX12_owed cX12_owed 1 (some .int) 0 0 sp_X12_owed := by
  refine q_meth (by decide) (fun av w Q h => by obtain ⟨mco, mre, mle, mbe, mso, mva, mwo, mwr, mlf, mlp, mfp, mfd, mgo, mbo, mpe, mye, mpr, mld, msi, mse, ls, rfl, rfl, hld, hQ⟩ := h; exact Nat.le_of_ble_eq_true rfl) ?_
  intro p e R s m args below meth c dC dI k g A av w Q hsp oka okw X
  obtain ⟨mco, mre, mle, mbe, mso, mva, mwo, mwr, mlf, mlp, mfp, mfd, mgo, mbo, mpe, mye, mpr, mld, msi, mse, ls, rfl, rfl, hld, hQ⟩ := hsp
  refine s_mono (s_X12_owed_0 X (J := fun _ _ _ _ => False) (fun d => s_cutF)) ?_
  rintro lv st w' ⟨rfl, rfl, rfl⟩
  intro z10 h10
  first | replace h10 := e_mul h10 (by omega) | replace h10 := e_rng h10
  intro z13 h13
  first | replace h13 := e_add h13 (by omega) | replace h13 := e_rng h13
  apply And.intro
  · exact ⟨by omega, by omega⟩
  intro z14 h14
  exact hQ _

theorem dX12_gotBy_0 : decode cX12_gotBy 0 = .ok (.iconst 0, 1) := by decide +kernel
theorem dX12_gotBy_1 : decode cX12_gotBy 1 = .ok (.istore_n 2, 1) := by decide +kernel
theorem dX12_gotBy_2 : decode cX12_gotBy 2 = .ok (.iconst 0, 1) := by decide +kernel
theorem dX12_gotBy_3 : decode cX12_gotBy 3 = .ok (.istore_n 3, 1) := by decide +kernel
theorem dX12_gotBy_4 : decode cX12_gotBy 4 = .ok (.iload_n 3, 1) := by decide +kernel
theorem dX12_gotBy_5 : decode cX12_gotBy 5 = .ok (.bipush 8, 2) := by decide +kernel
theorem dX12_gotBy_7 : decode cX12_gotBy 7 = .ok (.if_icmp .ge 29, 3) := by decide +kernel
theorem dX12_gotBy_10 : decode cX12_gotBy 10 = .ok (.iload_n 2, 1) := by decide +kernel
theorem dX12_gotBy_11 : decode cX12_gotBy 11 = .ok (.iload_n 1, 1) := by decide +kernel
theorem dX12_gotBy_12 : decode cX12_gotBy 12 = .ok (.iload_n 3, 1) := by decide +kernel
theorem dX12_gotBy_13 : decode cX12_gotBy 13 = .ok (.invokestatic 92, 3) := by decide +kernel
theorem dX12_gotBy_16 : decode cX12_gotBy 16 = .ok (.ifCond .eq 11, 3) := by decide +kernel
theorem dX12_gotBy_19 : decode cX12_gotBy 19 = .ok (.aload_n 0, 1) := by decide +kernel
theorem dX12_gotBy_20 : decode cX12_gotBy 20 = .ok (.iload_n 3, 1) := by decide +kernel
theorem dX12_gotBy_21 : decode cX12_gotBy 21 = .ok (.invokevirtual 431, 3) := by decide +kernel
theorem dX12_gotBy_24 : decode cX12_gotBy 24 = .ok (.goto 4, 3) := by decide +kernel
theorem dX12_gotBy_27 : decode cX12_gotBy 27 = .ok (.iconst 0, 1) := by decide +kernel
theorem dX12_gotBy_28 : decode cX12_gotBy 28 = .ok (.iadd, 1) := by decide +kernel
theorem dX12_gotBy_29 : decode cX12_gotBy 29 = .ok (.istore_n 2, 1) := by decide +kernel
theorem dX12_gotBy_30 : decode cX12_gotBy 30 = .ok (.iinc 3 1, 3) := by decide +kernel
theorem dX12_gotBy_33 : decode cX12_gotBy 33 = .ok (.goto (-29), 3) := by decide +kernel
theorem dX12_gotBy_36 : decode cX12_gotBy 36 = .ok (.iload_n 2, 1) := by decide +kernel
theorem dX12_gotBy_37 : decode cX12_gotBy 37 = .ok (.ireturn, 1) := by decide +kernel
def is_X12_gotBy : Nat → List Nat := fun d => if d = 4 then [0, 1, 2, 3] else []
set_option maxRecDepth 100000 in
def b_X12_gotBy_28 (J : Nat → List qV → List qV → qW → Prop) (Q : qR) : qK := x_iadd (x_istore 2 (x_iinc 3 1 (x_cut [0, 1, 2, 3] (J 4))))
set_option maxRecDepth 100000 in
theorem s_X12_gotBy_28 {p : Program} {l : Launch} {e : Env} {R : Room} {s : State} {m : MethodId} {args : Array Value} {below : List Frame} {meth : Method} {c : Code} {nW : Nat} {dC : Nat → ClassId} {dI : Nat → Nat → Nat} {k : Nat → ClassId} {g : Nat → Nat} {A : Nat → Prop} {J : Nat → List qV → List qV → qW → Prop} {Q : qR} (X : q_X p R s m args meth c cX12_gotBy 4 nW 1 21 RX12 (some .int) dC dI k g A) (hJ : ∀ d : Nat, q_Sd p l e R s m args below meth c 4 nW dC dI k g A (MQ below (q_post (dC, dI) k g nW Q A) args s 0 0 A) d (x_cut (is_X12_gotBy d) (J d))) : q_Sd p l e R s m args below meth c 4 nW dC dI k g A (MQ below (q_post (dC, dI) k g nW Q A) args s 0 0 A) 28 (b_X12_gotBy_28 J Q) := by
  unfold b_X12_gotBy_28
  refine s_iadd X dX12_gotBy_28 ?_
  refine s_istore_n X rfl (by decide) dX12_gotBy_29 ?_
  refine s_iinc X (by decide) dX12_gotBy_30 ?_
  refine s_goto X (tgt := 4) dX12_gotBy_33 (by decide) ?_
  exact hJ 4
set_option maxRecDepth 100000 in
def b_X12_gotBy_4 (J : Nat → List qV → List qV → qW → Prop) (Q : qR) : qK := x_iload 3 (x_int 8 (x_icmp_ge (x_iload 2 (x_iret Q)) (x_iload 2 (x_iload 1 (x_iload 3 (x_callr none 2 spr_X12_has (x_if_eq (x_int 0 (b_X12_gotBy_28 J Q)) (x_aload 0 (x_iload 3 (x_callr (some 12) 2 spr_X12_got (b_X12_gotBy_28 J Q)))))))))))
set_option maxRecDepth 100000 in
theorem s_X12_gotBy_4 {p : Program} {l : Launch} {e : Env} {R : Room} {s : State} {m : MethodId} {args : Array Value} {below : List Frame} {meth : Method} {c : Code} {nW : Nat} {dC : Nat → ClassId} {dI : Nat → Nat → Nat} {k : Nat → ClassId} {g : Nat → Nat} {A : Nat → Prop} {J : Nat → List qV → List qV → qW → Prop} {Q : qR} (X : q_X p R s m args meth c cX12_gotBy 4 nW 1 21 RX12 (some .int) dC dI k g A) (hJ : ∀ d : Nat, q_Sd p l e R s m args below meth c 4 nW dC dI k g A (MQ below (q_post (dC, dI) k g nW Q A) args s 0 0 A) d (x_cut (is_X12_gotBy d) (J d))) : q_Sd p l e R s m args below meth c 4 nW dC dI k g A (MQ below (q_post (dC, dI) k g nW Q A) args s 0 0 A) 4 (b_X12_gotBy_4 J Q) := by
  unfold b_X12_gotBy_4
  refine s_iload_n X rfl dX12_gotBy_4 ?_
  refine s_bipush X ⟨by decide, by decide⟩ (by decide) dX12_gotBy_5 ?_
  refine s_icmp_ge X (tgt := 36) dX12_gotBy_7 (by decide) ?_ ?_
  · refine s_iload_n X rfl dX12_gotBy_36 ?_
    exact s_iret X dX12_gotBy_37
  · refine s_iload_n X rfl dX12_gotBy_10 ?_
    refine s_iload_n X rfl dX12_gotBy_11 ?_
    refine s_iload_n X rfl dX12_gotBy_12 ?_
    refine s_callSr X (m_X12_has l) tw_1233 tw_1234 tw_134 tw_1235 (by decide +kernel) ⟨by decide, by decide⟩ dX12_gotBy_13 ?_
    refine s_if_eq X (tgt := 27) dX12_gotBy_16 (by decide) ?_ ?_
    · refine s_iconst X ⟨by decide, by decide⟩ dX12_gotBy_27 ?_
      exact s_X12_gotBy_28 X hJ
    · refine s_aload_n X rfl dX12_gotBy_19 ?_
      refine s_iload_n X rfl dX12_gotBy_20 ?_
      refine s_callVr X (m_X12_got l) tw_1350 tw_1351 tw_1583 tw_134 tw_1352 rfl (by decide +kernel) ⟨by decide, by decide⟩ dX12_gotBy_21 ?_
      refine s_goto X (tgt := 28) dX12_gotBy_24 (by decide) ?_
      exact s_X12_gotBy_28 X hJ
set_option maxRecDepth 100000 in
def b_X12_gotBy_0 (J : Nat → List qV → List qV → qW → Prop) (Q : qR) : qK := x_int 0 (x_istore 2 (x_int 0 (x_istore 3 (x_cut [0, 1, 2, 3] (J 4)))))
set_option maxRecDepth 100000 in
theorem s_X12_gotBy_0 {p : Program} {l : Launch} {e : Env} {R : Room} {s : State} {m : MethodId} {args : Array Value} {below : List Frame} {meth : Method} {c : Code} {nW : Nat} {dC : Nat → ClassId} {dI : Nat → Nat → Nat} {k : Nat → ClassId} {g : Nat → Nat} {A : Nat → Prop} {J : Nat → List qV → List qV → qW → Prop} {Q : qR} (X : q_X p R s m args meth c cX12_gotBy 4 nW 1 21 RX12 (some .int) dC dI k g A) (hJ : ∀ d : Nat, q_Sd p l e R s m args below meth c 4 nW dC dI k g A (MQ below (q_post (dC, dI) k g nW Q A) args s 0 0 A) d (x_cut (is_X12_gotBy d) (J d))) : q_Sd p l e R s m args below meth c 4 nW dC dI k g A (MQ below (q_post (dC, dI) k g nW Q A) args s 0 0 A) 0 (b_X12_gotBy_0 J Q) := by
  unfold b_X12_gotBy_0
  refine s_iconst X ⟨by decide, by decide⟩ dX12_gotBy_0 ?_
  refine s_istore_n X rfl (by decide) dX12_gotBy_1 ?_
  refine s_iconst X ⟨by decide, by decide⟩ dX12_gotBy_2 ?_
  refine s_istore_n X rfl (by decide) dX12_gotBy_3 ?_
  exact hJ 4

def spr_X12_gotBy : List qV → qW → (Option qV → Prop) → Prop := fun av w Q => ∃ (mco : Int) (mre : Int) (mle : Int) (mbe : Int) (mso : Int) (mva : Int) (mwo : Int) (mwr : Int) (mlf : Int) (mlp : Int) (mfp : Int) (mfd : Int) (mgo : Int) (mbo : Int) (mpe : Int) (mye : Int) (mpr : Int) (mld : Int) (msi : Int) (mse : Int) (ls : Nat → Int) (a : Int), av = [q2 0, q1 a] ∧ w = [.inr (12, [q1 mco, q2 2, q2 3, q2 4, q2 5, q2 6, q2 7, q2 8, q2 1, q2 9, q1 mre, q1 mle, q1 mbe, q1 mso, q1 mva, q3 mwo, q1 mwr, q1 mlf, q1 mlp, q2 10, q2 11, q1 mfp, q1 mfd, q1 mgo, q1 mbo, q1 mpe, q1 mye, q2 12, q1 mpr, q2 13, q2 14, q2 15, q2 16, q1 mld, q2 17, q1 msi, q2 18, q2 19, q2 20, q2 21, q2 22, q1 mse, q2 23, q2 24, q2 25]), .inl (0, 72, .inl ls)] ∧ (0 ≤ mld ∧ mld ≤ 1) ∧ (∀ (r : Int) , Q (some (q1 r)))
def sp_X12_gotBy : qS := fun av w Q => spr_X12_gotBy av w (fun r => Q r w)
def I_X12_gotBy (mco : Int) (mre : Int) (mle : Int) (mbe : Int) (mso : Int) (mva : Int) (mwo : Int) (mwr : Int) (mlf : Int) (mlp : Int) (mfp : Int) (mfd : Int) (mgo : Int) (mbo : Int) (mpe : Int) (mye : Int) (mpr : Int) (mld : Int) (msi : Int) (mse : Int) (ls : Nat → Int) (a : Int) : Nat → Nat → List qV → List qV → qW → Prop := fun dz mz vz sz wz => if dz = 4 then (∃ (v2 : Int) (v3 : Int), vz = [q2 0, q1 a, q1 v2, q1 v3] ∧ sz = [] ∧ wz = [.inr (12, [q1 mco, q2 2, q2 3, q2 4, q2 5, q2 6, q2 7, q2 8, q2 1, q2 9, q1 mre, q1 mle, q1 mbe, q1 mso, q1 mva, q3 mwo, q1 mwr, q1 mlf, q1 mlp, q2 10, q2 11, q1 mfp, q1 mfd, q1 mgo, q1 mbo, q1 mpe, q1 mye, q2 12, q1 mpr, q2 13, q2 14, q2 15, q2 16, q1 mld, q2 17, q1 msi, q2 18, q2 19, q2 20, q2 21, q2 22, q1 mse, q2 23, q2 24, q2 25]), .inl (0, 72, .inl ls)] ∧ mz = (8 - v3).toNat ∧ (0 ≤ v3 ∧ v3 ≤ 8)) else False
set_option maxHeartbeats 4000000 in
set_option maxRecDepth 100000 in
theorem m_X12_gotBy (l : Launch) : q_M l yX12_gotBy cX12_gotBy 4 (some .int) 1 21 sp_X12_gotBy := by
  refine q_meth (by decide) (fun av w Q h => by obtain ⟨mco, mre, mle, mbe, mso, mva, mwo, mwr, mlf, mlp, mfp, mfd, mgo, mbo, mpe, mye, mpr, mld, msi, mse, ls, a, rfl, rfl, hld, hQ⟩ := h; exact Nat.le_of_ble_eq_true rfl) ?_
  intro p e R s m args below meth c dC dI k g A av w Q hsp oka okw X
  obtain ⟨mco, mre, mle, mbe, mso, mva, mwo, mwr, mlf, mlp, mfp, mfd, mgo, mbo, mpe, mye, mpr, mld, msi, mse, ls, a, rfl, rfl, hld, hQ⟩ := hsp
  have o_a : -2147483648 ≤ a ∧ a ≤ 2147483647 := oka _ (List.mem_of_getElem? (i := 1) rfl)
  refine s_mono (s_X12_gotBy_0 X (J := fun dz vz sz wz => ∃ mz, I_X12_gotBy mco mre mle mbe mso mva mwo mwr mlf mlp mfp mfd mgo mbo mpe mye mpr mld msi mse ls a dz mz vz sz wz) (q_loopn (I_X12_gotBy mco mre mle mbe mso mva mwo mwr mlf mlp mfp mfd mgo mbo mpe mye mpr mld msi mse ls a) (fun dz J => if dz = 4 then b_X12_gotBy_4 J Q else q_F) ?hs ?hv)) ?_
  case hs =>
    intro d J hJ
    by_cases h4 : d = 4
    · subst h4; exact s_X12_gotBy_4 X hJ
    simp only [h4, if_false]
    exact s_F
  case hv =>
    intro dz mz vz sz wz hI okv oks okw hlen
    by_cases h4 : dz = 4
    · subst h4
      obtain ⟨v2, v3, rfl, rfl, rfl, hn, hp⟩ := hI
      apply And.intro
      · intro h7
        exact hQ _
      · intro h7
        refine Exists.intro [] (Exists.intro [q1 _, q1 _] (Exists.intro [] (And.intro rfl (And.intro rfl (And.intro rfl (And.intro trivial ?_))))))
        refine Exists.intro _ (Exists.intro _ (And.intro rfl (And.intro rfl (?_))))
        intro z13 h13
        apply And.intro
        · intro h16
          intro z28 h28
          first | replace h28 := e_add h28 (by omega) | replace h28 := e_rng h28
          intro z30 h30
          first | replace h30 := e_add h30 (by omega) | replace h30 := e_rng h30
          exact ⟨_, ⟨_, _, rfl, rfl, rfl, rfl, (by first | omega | assumption | exact q_rg_up (by assumption) (by omega) | exact q_rg_up (q_rg_up (by assumption) (by omega)) (by omega) | exact q_rg_cpy (by assumption) (by assumption))⟩, by omega⟩
        · intro h16
          refine Exists.intro [0, 1, 2, 3, 4, 5, 6, 7, 8, 9, 10, 11, 12, 13, 14, 15, 16, 17, 18, 19, 20, 21, 22, 23, 24, 25] (Exists.intro [q2 0, q1 _] (Exists.intro ([.inr (12, [q1 _, q2 2, q2 3, q2 4, q2 5, q2 6, q2 7, q2 8, q2 1, q2 9, q1 _, q1 _, q1 _, q1 _, q1 _, q3 _, q1 _, q1 _, q1 _, q2 10, q2 11, q1 _, q1 _, q1 _, q1 _, q1 _, q1 _, q2 12, q1 _, q2 13, q2 14, q2 15, q2 16, q1 _, q2 17, q1 _, q2 18, q2 19, q2 20, q2 21, q2 22, q1 _, q2 23, q2 24, q2 25]), .inl (0, 72, .inl _)]) (And.intro rfl (And.intro rfl (And.intro rfl (And.intro ⟨⟨_, rfl⟩, rfl⟩ ?_))))))
          refine Exists.intro _ (Exists.intro _ (Exists.intro _ (Exists.intro _ (Exists.intro _ (Exists.intro _ (Exists.intro _ (Exists.intro _ (Exists.intro _ (Exists.intro _ (Exists.intro _ (Exists.intro _ (Exists.intro _ (Exists.intro _ (Exists.intro _ (Exists.intro _ (Exists.intro _ (Exists.intro _ (Exists.intro _ (Exists.intro _ (Exists.intro _ (Exists.intro _ (And.intro rfl (And.intro rfl (And.intro (by first | omega | assumption | exact q_rg_up (by assumption) (by omega) | exact q_rg_up (q_rg_up (by assumption) (by omega)) (by omega) | exact q_rg_cpy (by assumption) (by assumption)) (And.intro (by first | omega | assumption | exact q_rg_up (by assumption) (by omega) | exact q_rg_up (q_rg_up (by assumption) (by omega)) (by omega) | exact q_rg_cpy (by assumption) (by assumption)) (?_))))))))))))))))))))))))))
          intro z21
          intro z28 h28
          first | replace h28 := e_add h28 (by omega) | replace h28 := e_rng h28
          intro z30 h30
          first | replace h30 := e_add h30 (by omega) | replace h30 := e_rng h30
          exact ⟨_, ⟨_, _, rfl, rfl, rfl, rfl, (by first | omega | assumption | exact q_rg_up (by assumption) (by omega) | exact q_rg_up (q_rg_up (by assumption) (by omega)) (by omega) | exact q_rg_cpy (by assumption) (by assumption))⟩, by omega⟩
    simp only [I_X12_gotBy, h4, if_false] at hI
  rintro lv st w' ⟨rfl, rfl, rfl⟩
  exact ⟨_, _, _, rfl, rfl, rfl, rfl, (by first | omega | assumption | exact q_rg_up (by assumption) (by omega) | exact q_rg_up (q_rg_up (by assumption) (by omega)) (by omega) | exact q_rg_cpy (by assumption) (by assumption))⟩

theorem dX12_areSome_0 : decode cX12_areSome 0 = .ok (.iconst 1, 1) := by decide +kernel
theorem dX12_areSome_1 : decode cX12_areSome 1 = .ok (.istore_n 2, 1) := by decide +kernel
theorem dX12_areSome_2 : decode cX12_areSome 2 = .ok (.iconst 0, 1) := by decide +kernel
theorem dX12_areSome_3 : decode cX12_areSome 3 = .ok (.istore_n 3, 1) := by decide +kernel
theorem dX12_areSome_4 : decode cX12_areSome 4 = .ok (.iload_n 3, 1) := by decide +kernel
theorem dX12_areSome_5 : decode cX12_areSome 5 = .ok (.bipush 8, 2) := by decide +kernel
theorem dX12_areSome_7 : decode cX12_areSome 7 = .ok (.if_icmp .ge 35, 3) := by decide +kernel
theorem dX12_areSome_10 : decode cX12_areSome 10 = .ok (.iload_n 2, 1) := by decide +kernel
theorem dX12_areSome_11 : decode cX12_areSome 11 = .ok (.ifCond .eq 23, 3) := by decide +kernel
theorem dX12_areSome_14 : decode cX12_areSome 14 = .ok (.iload_n 1, 1) := by decide +kernel
theorem dX12_areSome_15 : decode cX12_areSome 15 = .ok (.iload_n 3, 1) := by decide +kernel
theorem dX12_areSome_16 : decode cX12_areSome 16 = .ok (.invokestatic 92, 3) := by decide +kernel
theorem dX12_areSome_19 : decode cX12_areSome 19 = .ok (.ifCond .eq 11, 3) := by decide +kernel
theorem dX12_areSome_22 : decode cX12_areSome 22 = .ok (.aload_n 0, 1) := by decide +kernel
theorem dX12_areSome_23 : decode cX12_areSome 23 = .ok (.iload_n 3, 1) := by decide +kernel
theorem dX12_areSome_24 : decode cX12_areSome 24 = .ok (.invokevirtual 431, 3) := by decide +kernel
theorem dX12_areSome_27 : decode cX12_areSome 27 = .ok (.ifCond .le 7, 3) := by decide +kernel
theorem dX12_areSome_30 : decode cX12_areSome 30 = .ok (.iconst 1, 1) := by decide +kernel
theorem dX12_areSome_31 : decode cX12_areSome 31 = .ok (.goto 4, 3) := by decide +kernel
theorem dX12_areSome_34 : decode cX12_areSome 34 = .ok (.iconst 0, 1) := by decide +kernel
theorem dX12_areSome_35 : decode cX12_areSome 35 = .ok (.istore_n 2, 1) := by decide +kernel
theorem dX12_areSome_36 : decode cX12_areSome 36 = .ok (.iinc 3 1, 3) := by decide +kernel
theorem dX12_areSome_39 : decode cX12_areSome 39 = .ok (.goto (-35), 3) := by decide +kernel
theorem dX12_areSome_42 : decode cX12_areSome 42 = .ok (.iload_n 2, 1) := by decide +kernel
theorem dX12_areSome_43 : decode cX12_areSome 43 = .ok (.ireturn, 1) := by decide +kernel
def is_X12_areSome : Nat → List Nat := fun d => if d = 4 then [0, 1, 2, 3] else []
set_option maxRecDepth 100000 in
def b_X12_areSome_35 (J : Nat → List qV → List qV → qW → Prop) (Q : qR) : qK := x_istore 2 (x_iinc 3 1 (x_cut [0, 1, 2, 3] (J 4)))
set_option maxRecDepth 100000 in
theorem s_X12_areSome_35 {p : Program} {l : Launch} {e : Env} {R : Room} {s : State} {m : MethodId} {args : Array Value} {below : List Frame} {meth : Method} {c : Code} {nW : Nat} {dC : Nat → ClassId} {dI : Nat → Nat → Nat} {k : Nat → ClassId} {g : Nat → Nat} {A : Nat → Prop} {J : Nat → List qV → List qV → qW → Prop} {Q : qR} (X : q_X p R s m args meth c cX12_areSome 4 nW 1 21 RX12 (some .boolean) dC dI k g A) (hJ : ∀ d : Nat, q_Sd p l e R s m args below meth c 4 nW dC dI k g A (MQ below (q_post (dC, dI) k g nW Q A) args s 0 0 A) d (x_cut (is_X12_areSome d) (J d))) : q_Sd p l e R s m args below meth c 4 nW dC dI k g A (MQ below (q_post (dC, dI) k g nW Q A) args s 0 0 A) 35 (b_X12_areSome_35 J Q) := by
  unfold b_X12_areSome_35
  refine s_istore_n X rfl (by decide) dX12_areSome_35 ?_
  refine s_iinc X (by decide) dX12_areSome_36 ?_
  refine s_goto X (tgt := 4) dX12_areSome_39 (by decide) ?_
  exact hJ 4
set_option maxRecDepth 100000 in
def b_X12_areSome_34 (J : Nat → List qV → List qV → qW → Prop) (Q : qR) : qK := x_int 0 (b_X12_areSome_35 J Q)
set_option maxRecDepth 100000 in
theorem s_X12_areSome_34 {p : Program} {l : Launch} {e : Env} {R : Room} {s : State} {m : MethodId} {args : Array Value} {below : List Frame} {meth : Method} {c : Code} {nW : Nat} {dC : Nat → ClassId} {dI : Nat → Nat → Nat} {k : Nat → ClassId} {g : Nat → Nat} {A : Nat → Prop} {J : Nat → List qV → List qV → qW → Prop} {Q : qR} (X : q_X p R s m args meth c cX12_areSome 4 nW 1 21 RX12 (some .boolean) dC dI k g A) (hJ : ∀ d : Nat, q_Sd p l e R s m args below meth c 4 nW dC dI k g A (MQ below (q_post (dC, dI) k g nW Q A) args s 0 0 A) d (x_cut (is_X12_areSome d) (J d))) : q_Sd p l e R s m args below meth c 4 nW dC dI k g A (MQ below (q_post (dC, dI) k g nW Q A) args s 0 0 A) 34 (b_X12_areSome_34 J Q) := by
  unfold b_X12_areSome_34
  refine s_iconst X ⟨by decide, by decide⟩ dX12_areSome_34 ?_
  exact s_X12_areSome_35 X hJ
set_option maxRecDepth 100000 in
def b_X12_areSome_30 (J : Nat → List qV → List qV → qW → Prop) (Q : qR) : qK := x_int 1 (b_X12_areSome_35 J Q)
set_option maxRecDepth 100000 in
theorem s_X12_areSome_30 {p : Program} {l : Launch} {e : Env} {R : Room} {s : State} {m : MethodId} {args : Array Value} {below : List Frame} {meth : Method} {c : Code} {nW : Nat} {dC : Nat → ClassId} {dI : Nat → Nat → Nat} {k : Nat → ClassId} {g : Nat → Nat} {A : Nat → Prop} {J : Nat → List qV → List qV → qW → Prop} {Q : qR} (X : q_X p R s m args meth c cX12_areSome 4 nW 1 21 RX12 (some .boolean) dC dI k g A) (hJ : ∀ d : Nat, q_Sd p l e R s m args below meth c 4 nW dC dI k g A (MQ below (q_post (dC, dI) k g nW Q A) args s 0 0 A) d (x_cut (is_X12_areSome d) (J d))) : q_Sd p l e R s m args below meth c 4 nW dC dI k g A (MQ below (q_post (dC, dI) k g nW Q A) args s 0 0 A) 30 (b_X12_areSome_30 J Q) := by
  unfold b_X12_areSome_30
  refine s_iconst X ⟨by decide, by decide⟩ dX12_areSome_30 ?_
  refine s_goto X (tgt := 35) dX12_areSome_31 (by decide) ?_
  exact s_X12_areSome_35 X hJ
set_option maxRecDepth 100000 in
def b_X12_areSome_4 (J : Nat → List qV → List qV → qW → Prop) (Q : qR) : qK := x_iload 3 (x_int 8 (x_icmp_ge (x_iload 2 (x_zret Q)) (x_iload 2 (x_if_eq (b_X12_areSome_34 J Q) (x_iload 1 (x_iload 3 (x_callr none 2 spr_X12_has (x_if_eq (b_X12_areSome_30 J Q) (x_aload 0 (x_iload 3 (x_callr (some 12) 2 spr_X12_got (x_if_le (b_X12_areSome_34 J Q) (b_X12_areSome_30 J Q)))))))))))))
set_option maxRecDepth 100000 in
theorem s_X12_areSome_4 {p : Program} {l : Launch} {e : Env} {R : Room} {s : State} {m : MethodId} {args : Array Value} {below : List Frame} {meth : Method} {c : Code} {nW : Nat} {dC : Nat → ClassId} {dI : Nat → Nat → Nat} {k : Nat → ClassId} {g : Nat → Nat} {A : Nat → Prop} {J : Nat → List qV → List qV → qW → Prop} {Q : qR} (X : q_X p R s m args meth c cX12_areSome 4 nW 1 21 RX12 (some .boolean) dC dI k g A) (hJ : ∀ d : Nat, q_Sd p l e R s m args below meth c 4 nW dC dI k g A (MQ below (q_post (dC, dI) k g nW Q A) args s 0 0 A) d (x_cut (is_X12_areSome d) (J d))) : q_Sd p l e R s m args below meth c 4 nW dC dI k g A (MQ below (q_post (dC, dI) k g nW Q A) args s 0 0 A) 4 (b_X12_areSome_4 J Q) := by
  unfold b_X12_areSome_4
  refine s_iload_n X rfl dX12_areSome_4 ?_
  refine s_bipush X ⟨by decide, by decide⟩ (by decide) dX12_areSome_5 ?_
  refine s_icmp_ge X (tgt := 42) dX12_areSome_7 (by decide) ?_ ?_
  · refine s_iload_n X rfl dX12_areSome_42 ?_
    exact s_zret X dX12_areSome_43
  · refine s_iload_n X rfl dX12_areSome_10 ?_
    refine s_if_eq X (tgt := 34) dX12_areSome_11 (by decide) ?_ ?_
    · exact s_X12_areSome_34 X hJ
    · refine s_iload_n X rfl dX12_areSome_14 ?_
      refine s_iload_n X rfl dX12_areSome_15 ?_
      refine s_callSr X (m_X12_has l) tw_1233 tw_1234 tw_134 tw_1235 (by decide +kernel) ⟨by decide, by decide⟩ dX12_areSome_16 ?_
      refine s_if_eq X (tgt := 30) dX12_areSome_19 (by decide) ?_ ?_
      · exact s_X12_areSome_30 X hJ
      · refine s_aload_n X rfl dX12_areSome_22 ?_
        refine s_iload_n X rfl dX12_areSome_23 ?_
        refine s_callVr X (m_X12_got l) tw_1350 tw_1351 tw_1583 tw_134 tw_1352 rfl (by decide +kernel) ⟨by decide, by decide⟩ dX12_areSome_24 ?_
        refine s_if_le X (tgt := 34) dX12_areSome_27 (by decide) ?_ ?_
        · exact s_X12_areSome_34 X hJ
        · exact s_X12_areSome_30 X hJ
set_option maxRecDepth 100000 in
def b_X12_areSome_0 (J : Nat → List qV → List qV → qW → Prop) (Q : qR) : qK := x_int 1 (x_istore 2 (x_int 0 (x_istore 3 (x_cut [0, 1, 2, 3] (J 4)))))
set_option maxRecDepth 100000 in
theorem s_X12_areSome_0 {p : Program} {l : Launch} {e : Env} {R : Room} {s : State} {m : MethodId} {args : Array Value} {below : List Frame} {meth : Method} {c : Code} {nW : Nat} {dC : Nat → ClassId} {dI : Nat → Nat → Nat} {k : Nat → ClassId} {g : Nat → Nat} {A : Nat → Prop} {J : Nat → List qV → List qV → qW → Prop} {Q : qR} (X : q_X p R s m args meth c cX12_areSome 4 nW 1 21 RX12 (some .boolean) dC dI k g A) (hJ : ∀ d : Nat, q_Sd p l e R s m args below meth c 4 nW dC dI k g A (MQ below (q_post (dC, dI) k g nW Q A) args s 0 0 A) d (x_cut (is_X12_areSome d) (J d))) : q_Sd p l e R s m args below meth c 4 nW dC dI k g A (MQ below (q_post (dC, dI) k g nW Q A) args s 0 0 A) 0 (b_X12_areSome_0 J Q) := by
  unfold b_X12_areSome_0
  refine s_iconst X ⟨by decide, by decide⟩ dX12_areSome_0 ?_
  refine s_istore_n X rfl (by decide) dX12_areSome_1 ?_
  refine s_iconst X ⟨by decide, by decide⟩ dX12_areSome_2 ?_
  refine s_istore_n X rfl (by decide) dX12_areSome_3 ?_
  exact hJ 4

def spr_X12_areSome : List qV → qW → (Option qV → Prop) → Prop := fun av w Q => ∃ (mco : Int) (mre : Int) (mle : Int) (mbe : Int) (mso : Int) (mva : Int) (mwo : Int) (mwr : Int) (mlf : Int) (mlp : Int) (mfp : Int) (mfd : Int) (mgo : Int) (mbo : Int) (mpe : Int) (mye : Int) (mpr : Int) (mld : Int) (msi : Int) (mse : Int) (ls : Nat → Int) (a : Int), av = [q2 0, q1 a] ∧ w = [.inr (12, [q1 mco, q2 2, q2 3, q2 4, q2 5, q2 6, q2 7, q2 8, q2 1, q2 9, q1 mre, q1 mle, q1 mbe, q1 mso, q1 mva, q3 mwo, q1 mwr, q1 mlf, q1 mlp, q2 10, q2 11, q1 mfp, q1 mfd, q1 mgo, q1 mbo, q1 mpe, q1 mye, q2 12, q1 mpr, q2 13, q2 14, q2 15, q2 16, q1 mld, q2 17, q1 msi, q2 18, q2 19, q2 20, q2 21, q2 22, q1 mse, q2 23, q2 24, q2 25]), .inl (0, 72, .inl ls)] ∧ (0 ≤ mld ∧ mld ≤ 1) ∧ (∀ (r : Int) , (r = 0 ∨ r = 1) → Q (some (q1 r)))
def sp_X12_areSome : qS := fun av w Q => spr_X12_areSome av w (fun r => Q r w)
def I_X12_areSome (mco : Int) (mre : Int) (mle : Int) (mbe : Int) (mso : Int) (mva : Int) (mwo : Int) (mwr : Int) (mlf : Int) (mlp : Int) (mfp : Int) (mfd : Int) (mgo : Int) (mbo : Int) (mpe : Int) (mye : Int) (mpr : Int) (mld : Int) (msi : Int) (mse : Int) (ls : Nat → Int) (a : Int) : Nat → Nat → List qV → List qV → qW → Prop := fun dz mz vz sz wz => if dz = 4 then (∃ (v2 : Int) (v3 : Int), vz = [q2 0, q1 a, q1 v2, q1 v3] ∧ sz = [] ∧ wz = [.inr (12, [q1 mco, q2 2, q2 3, q2 4, q2 5, q2 6, q2 7, q2 8, q2 1, q2 9, q1 mre, q1 mle, q1 mbe, q1 mso, q1 mva, q3 mwo, q1 mwr, q1 mlf, q1 mlp, q2 10, q2 11, q1 mfp, q1 mfd, q1 mgo, q1 mbo, q1 mpe, q1 mye, q2 12, q1 mpr, q2 13, q2 14, q2 15, q2 16, q1 mld, q2 17, q1 msi, q2 18, q2 19, q2 20, q2 21, q2 22, q1 mse, q2 23, q2 24, q2 25]), .inl (0, 72, .inl ls)] ∧ mz = (8 - v3).toNat ∧ (0 ≤ v3 ∧ v3 ≤ 8) ∧ (v2 = 0 ∨ v2 = 1)) else False
set_option maxHeartbeats 4000000 in
set_option maxRecDepth 100000 in
theorem m_X12_areSome (l : Launch) : q_M l yX12_areSome cX12_areSome 4 (some .boolean) 1 21 sp_X12_areSome := by
  refine q_meth (by decide) (fun av w Q h => by obtain ⟨mco, mre, mle, mbe, mso, mva, mwo, mwr, mlf, mlp, mfp, mfd, mgo, mbo, mpe, mye, mpr, mld, msi, mse, ls, a, rfl, rfl, hld, hQ⟩ := h; exact Nat.le_of_ble_eq_true rfl) ?_
  intro p e R s m args below meth c dC dI k g A av w Q hsp oka okw X
  obtain ⟨mco, mre, mle, mbe, mso, mva, mwo, mwr, mlf, mlp, mfp, mfd, mgo, mbo, mpe, mye, mpr, mld, msi, mse, ls, a, rfl, rfl, hld, hQ⟩ := hsp
  have o_a : -2147483648 ≤ a ∧ a ≤ 2147483647 := oka _ (List.mem_of_getElem? (i := 1) rfl)
  refine s_mono (s_X12_areSome_0 X (J := fun dz vz sz wz => ∃ mz, I_X12_areSome mco mre mle mbe mso mva mwo mwr mlf mlp mfp mfd mgo mbo mpe mye mpr mld msi mse ls a dz mz vz sz wz) (q_loopn (I_X12_areSome mco mre mle mbe mso mva mwo mwr mlf mlp mfp mfd mgo mbo mpe mye mpr mld msi mse ls a) (fun dz J => if dz = 4 then b_X12_areSome_4 J Q else q_F) ?hs ?hv)) ?_
  case hs =>
    intro d J hJ
    by_cases h4 : d = 4
    · subst h4; exact s_X12_areSome_4 X hJ
    simp only [h4, if_false]
    exact s_F
  case hv =>
    intro dz mz vz sz wz hI okv oks okw hlen
    by_cases h4 : dz = 4
    · subst h4
      obtain ⟨v2, v3, rfl, rfl, rfl, hn, hp, hb⟩ := hI
      apply And.intro
      · intro h7
        apply And.intro
        · first | exact Or.inl rfl | exact Or.inr rfl | omega
        exact hQ _ (by first | omega | assumption | exact q_rg_up (by assumption) (by omega) | exact q_rg_up (q_rg_up (by assumption) (by omega)) (by omega) | exact q_rg_cpy (by assumption) (by assumption))
      · intro h7
        apply And.intro
        · intro h11
          intro z36 h36
          first | replace h36 := e_add h36 (by omega) | replace h36 := e_rng h36
          exact ⟨_, ⟨_, _, rfl, rfl, rfl, rfl, (by first | omega | assumption | exact q_rg_up (by assumption) (by omega) | exact q_rg_up (q_rg_up (by assumption) (by omega)) (by omega) | exact q_rg_cpy (by assumption) (by assumption)), (by first | omega | assumption | exact q_rg_up (by assumption) (by omega) | exact q_rg_up (q_rg_up (by assumption) (by omega)) (by omega) | exact q_rg_cpy (by assumption) (by assumption))⟩, by omega⟩
        · intro h11
          refine Exists.intro [] (Exists.intro [q1 _, q1 _] (Exists.intro [] (And.intro rfl (And.intro rfl (And.intro rfl (And.intro trivial ?_))))))
          refine Exists.intro _ (Exists.intro _ (And.intro rfl (And.intro rfl (?_))))
          intro z16 h16
          apply And.intro
          · intro h19
            intro z36 h36
            first | replace h36 := e_add h36 (by omega) | replace h36 := e_rng h36
            exact ⟨_, ⟨_, _, rfl, rfl, rfl, rfl, (by first | omega | assumption | exact q_rg_up (by assumption) (by omega) | exact q_rg_up (q_rg_up (by assumption) (by omega)) (by omega) | exact q_rg_cpy (by assumption) (by assumption)), (by first | omega | assumption | exact q_rg_up (by assumption) (by omega) | exact q_rg_up (q_rg_up (by assumption) (by omega)) (by omega) | exact q_rg_cpy (by assumption) (by assumption))⟩, by omega⟩
          · intro h19
            refine Exists.intro [0, 1, 2, 3, 4, 5, 6, 7, 8, 9, 10, 11, 12, 13, 14, 15, 16, 17, 18, 19, 20, 21, 22, 23, 24, 25] (Exists.intro [q2 0, q1 _] (Exists.intro ([.inr (12, [q1 _, q2 2, q2 3, q2 4, q2 5, q2 6, q2 7, q2 8, q2 1, q2 9, q1 _, q1 _, q1 _, q1 _, q1 _, q3 _, q1 _, q1 _, q1 _, q2 10, q2 11, q1 _, q1 _, q1 _, q1 _, q1 _, q1 _, q2 12, q1 _, q2 13, q2 14, q2 15, q2 16, q1 _, q2 17, q1 _, q2 18, q2 19, q2 20, q2 21, q2 22, q1 _, q2 23, q2 24, q2 25]), .inl (0, 72, .inl _)]) (And.intro rfl (And.intro rfl (And.intro rfl (And.intro ⟨⟨_, rfl⟩, rfl⟩ ?_))))))
            refine Exists.intro _ (Exists.intro _ (Exists.intro _ (Exists.intro _ (Exists.intro _ (Exists.intro _ (Exists.intro _ (Exists.intro _ (Exists.intro _ (Exists.intro _ (Exists.intro _ (Exists.intro _ (Exists.intro _ (Exists.intro _ (Exists.intro _ (Exists.intro _ (Exists.intro _ (Exists.intro _ (Exists.intro _ (Exists.intro _ (Exists.intro _ (Exists.intro _ (And.intro rfl (And.intro rfl (And.intro (by first | omega | assumption | exact q_rg_up (by assumption) (by omega) | exact q_rg_up (q_rg_up (by assumption) (by omega)) (by omega) | exact q_rg_cpy (by assumption) (by assumption)) (And.intro (by first | omega | assumption | exact q_rg_up (by assumption) (by omega) | exact q_rg_up (q_rg_up (by assumption) (by omega)) (by omega) | exact q_rg_cpy (by assumption) (by assumption)) (?_))))))))))))))))))))))))))
            intro z24
            apply And.intro
            · intro h27
              intro z36 h36
              first | replace h36 := e_add h36 (by omega) | replace h36 := e_rng h36
              exact ⟨_, ⟨_, _, rfl, rfl, rfl, rfl, (by first | omega | assumption | exact q_rg_up (by assumption) (by omega) | exact q_rg_up (q_rg_up (by assumption) (by omega)) (by omega) | exact q_rg_cpy (by assumption) (by assumption)), (by first | omega | assumption | exact q_rg_up (by assumption) (by omega) | exact q_rg_up (q_rg_up (by assumption) (by omega)) (by omega) | exact q_rg_cpy (by assumption) (by assumption))⟩, by omega⟩
            · intro h27
              intro z36 h36
              first | replace h36 := e_add h36 (by omega) | replace h36 := e_rng h36
              exact ⟨_, ⟨_, _, rfl, rfl, rfl, rfl, (by first | omega | assumption | exact q_rg_up (by assumption) (by omega) | exact q_rg_up (q_rg_up (by assumption) (by omega)) (by omega) | exact q_rg_cpy (by assumption) (by assumption)), (by first | omega | assumption | exact q_rg_up (by assumption) (by omega) | exact q_rg_up (q_rg_up (by assumption) (by omega)) (by omega) | exact q_rg_cpy (by assumption) (by assumption))⟩, by omega⟩
    simp only [I_X12_areSome, h4, if_false] at hI
  rintro lv st w' ⟨rfl, rfl, rfl⟩
  exact ⟨_, _, _, rfl, rfl, rfl, rfl, (by first | omega | assumption | exact q_rg_up (by assumption) (by omega) | exact q_rg_up (q_rg_up (by assumption) (by omega)) (by omega) | exact q_rg_cpy (by assumption) (by assumption)), (by first | omega | assumption | exact q_rg_up (by assumption) (by omega) | exact q_rg_up (q_rg_up (by assumption) (by omega)) (by omega) | exact q_rg_cpy (by assumption) (by assumption))⟩

theorem dX12_fewestBack_0 : decode cX12_fewestBack 0 = .ok (.iconst (-1), 1) := by decide +kernel
theorem dX12_fewestBack_1 : decode cX12_fewestBack 1 = .ok (.istore_n 1, 1) := by decide +kernel
theorem dX12_fewestBack_2 : decode cX12_fewestBack 2 = .ok (.iconst 0, 1) := by decide +kernel
theorem dX12_fewestBack_3 : decode cX12_fewestBack 3 = .ok (.istore_n 2, 1) := by decide +kernel
theorem dX12_fewestBack_4 : decode cX12_fewestBack 4 = .ok (.iload_n 2, 1) := by decide +kernel
theorem dX12_fewestBack_5 : decode cX12_fewestBack 5 = .ok (.sipush 256, 3) := by decide +kernel
theorem dX12_fewestBack_8 : decode cX12_fewestBack 8 = .ok (.if_icmp .ge 61, 3) := by decide +kernel
theorem dX12_fewestBack_11 : decode cX12_fewestBack 11 = .ok (.aload_n 0, 1) := by decide +kernel
theorem dX12_fewestBack_12 : decode cX12_fewestBack 12 = .ok (.iload_n 2, 1) := by decide +kernel
theorem dX12_fewestBack_13 : decode cX12_fewestBack 13 = .ok (.invokevirtual 434, 3) := by decide +kernel
theorem dX12_fewestBack_16 : decode cX12_fewestBack 16 = .ok (.ifCond .eq 19, 3) := by decide +kernel
theorem dX12_fewestBack_19 : decode cX12_fewestBack 19 = .ok (.aload_n 0, 1) := by decide +kernel
theorem dX12_fewestBack_20 : decode cX12_fewestBack 20 = .ok (.iload_n 2, 1) := by decide +kernel
theorem dX12_fewestBack_21 : decode cX12_fewestBack 21 = .ok (.invokevirtual 437, 3) := by decide +kernel
theorem dX12_fewestBack_24 : decode cX12_fewestBack 24 = .ok (.aload_n 0, 1) := by decide +kernel
theorem dX12_fewestBack_25 : decode cX12_fewestBack 25 = .ok (.invokevirtual 440, 3) := by decide +kernel
theorem dX12_fewestBack_28 : decode cX12_fewestBack 28 = .ok (.if_icmp .lt 7, 3) := by decide +kernel
theorem dX12_fewestBack_31 : decode cX12_fewestBack 31 = .ok (.iconst 1, 1) := by decide +kernel
theorem dX12_fewestBack_32 : decode cX12_fewestBack 32 = .ok (.goto 4, 3) := by decide +kernel
theorem dX12_fewestBack_35 : decode cX12_fewestBack 35 = .ok (.iconst 0, 1) := by decide +kernel
theorem dX12_fewestBack_36 : decode cX12_fewestBack 36 = .ok (.istore_n 3, 1) := by decide +kernel
theorem dX12_fewestBack_37 : decode cX12_fewestBack 37 = .ok (.iload_n 3, 1) := by decide +kernel
theorem dX12_fewestBack_38 : decode cX12_fewestBack 38 = .ok (.ifCond .eq 23, 3) := by decide +kernel
theorem dX12_fewestBack_41 : decode cX12_fewestBack 41 = .ok (.iload_n 1, 1) := by decide +kernel
theorem dX12_fewestBack_42 : decode cX12_fewestBack 42 = .ok (.iconst (-1), 1) := by decide +kernel
theorem dX12_fewestBack_43 : decode cX12_fewestBack 43 = .ok (.if_icmp .eq 14, 3) := by decide +kernel
theorem dX12_fewestBack_46 : decode cX12_fewestBack 46 = .ok (.iload_n 2, 1) := by decide +kernel
theorem dX12_fewestBack_47 : decode cX12_fewestBack 47 = .ok (.invokestatic 413, 3) := by decide +kernel
theorem dX12_fewestBack_50 : decode cX12_fewestBack 50 = .ok (.iload_n 1, 1) := by decide +kernel
theorem dX12_fewestBack_51 : decode cX12_fewestBack 51 = .ok (.invokestatic 413, 3) := by decide +kernel
theorem dX12_fewestBack_54 : decode cX12_fewestBack 54 = .ok (.if_icmp .ge 7, 3) := by decide +kernel
theorem dX12_fewestBack_57 : decode cX12_fewestBack 57 = .ok (.iload_n 2, 1) := by decide +kernel
theorem dX12_fewestBack_58 : decode cX12_fewestBack 58 = .ok (.goto 4, 3) := by decide +kernel
theorem dX12_fewestBack_61 : decode cX12_fewestBack 61 = .ok (.iload_n 1, 1) := by decide +kernel
theorem dX12_fewestBack_62 : decode cX12_fewestBack 62 = .ok (.istore_n 1, 1) := by decide +kernel
theorem dX12_fewestBack_63 : decode cX12_fewestBack 63 = .ok (.iinc 2 1, 3) := by decide +kernel
theorem dX12_fewestBack_66 : decode cX12_fewestBack 66 = .ok (.goto (-62), 3) := by decide +kernel
theorem dX12_fewestBack_69 : decode cX12_fewestBack 69 = .ok (.iload_n 1, 1) := by decide +kernel
theorem dX12_fewestBack_70 : decode cX12_fewestBack 70 = .ok (.ireturn, 1) := by decide +kernel
def is_X12_fewestBack : Nat → List Nat := fun d => if d = 4 then [0, 1, 2] else []
set_option maxRecDepth 100000 in
def b_X12_fewestBack_62 (J : Nat → List qV → List qV → qW → Prop) (Q : qR) : qK := x_istore 1 (x_iinc 2 1 (x_cut [0, 1, 2] (J 4)))
set_option maxRecDepth 100000 in
theorem s_X12_fewestBack_62 {p : Program} {l : Launch} {e : Env} {R : Room} {s : State} {m : MethodId} {args : Array Value} {below : List Frame} {meth : Method} {c : Code} {nW : Nat} {dC : Nat → ClassId} {dI : Nat → Nat → Nat} {k : Nat → ClassId} {g : Nat → Nat} {A : Nat → Prop} {J : Nat → List qV → List qV → qW → Prop} {Q : qR} (X : q_X p R s m args meth c cX12_fewestBack 4 nW 2 44 RX12 (some .int) dC dI k g A) (hJ : ∀ d : Nat, q_Sd p l e R s m args below meth c 4 nW dC dI k g A (MQ below (q_post (dC, dI) k g nW Q A) args s 0 0 A) d (x_cut (is_X12_fewestBack d) (J d))) : q_Sd p l e R s m args below meth c 4 nW dC dI k g A (MQ below (q_post (dC, dI) k g nW Q A) args s 0 0 A) 62 (b_X12_fewestBack_62 J Q) := by
  unfold b_X12_fewestBack_62
  refine s_istore_n X rfl (by decide) dX12_fewestBack_62 ?_
  refine s_iinc X (by decide) dX12_fewestBack_63 ?_
  refine s_goto X (tgt := 4) dX12_fewestBack_66 (by decide) ?_
  exact hJ 4
set_option maxRecDepth 100000 in
def b_X12_fewestBack_61 (J : Nat → List qV → List qV → qW → Prop) (Q : qR) : qK := x_iload 1 (b_X12_fewestBack_62 J Q)
set_option maxRecDepth 100000 in
theorem s_X12_fewestBack_61 {p : Program} {l : Launch} {e : Env} {R : Room} {s : State} {m : MethodId} {args : Array Value} {below : List Frame} {meth : Method} {c : Code} {nW : Nat} {dC : Nat → ClassId} {dI : Nat → Nat → Nat} {k : Nat → ClassId} {g : Nat → Nat} {A : Nat → Prop} {J : Nat → List qV → List qV → qW → Prop} {Q : qR} (X : q_X p R s m args meth c cX12_fewestBack 4 nW 2 44 RX12 (some .int) dC dI k g A) (hJ : ∀ d : Nat, q_Sd p l e R s m args below meth c 4 nW dC dI k g A (MQ below (q_post (dC, dI) k g nW Q A) args s 0 0 A) d (x_cut (is_X12_fewestBack d) (J d))) : q_Sd p l e R s m args below meth c 4 nW dC dI k g A (MQ below (q_post (dC, dI) k g nW Q A) args s 0 0 A) 61 (b_X12_fewestBack_61 J Q) := by
  unfold b_X12_fewestBack_61
  refine s_iload_n X rfl dX12_fewestBack_61 ?_
  exact s_X12_fewestBack_62 X hJ
set_option maxRecDepth 100000 in
def b_X12_fewestBack_57 (J : Nat → List qV → List qV → qW → Prop) (Q : qR) : qK := x_iload 2 (b_X12_fewestBack_62 J Q)
set_option maxRecDepth 100000 in
theorem s_X12_fewestBack_57 {p : Program} {l : Launch} {e : Env} {R : Room} {s : State} {m : MethodId} {args : Array Value} {below : List Frame} {meth : Method} {c : Code} {nW : Nat} {dC : Nat → ClassId} {dI : Nat → Nat → Nat} {k : Nat → ClassId} {g : Nat → Nat} {A : Nat → Prop} {J : Nat → List qV → List qV → qW → Prop} {Q : qR} (X : q_X p R s m args meth c cX12_fewestBack 4 nW 2 44 RX12 (some .int) dC dI k g A) (hJ : ∀ d : Nat, q_Sd p l e R s m args below meth c 4 nW dC dI k g A (MQ below (q_post (dC, dI) k g nW Q A) args s 0 0 A) d (x_cut (is_X12_fewestBack d) (J d))) : q_Sd p l e R s m args below meth c 4 nW dC dI k g A (MQ below (q_post (dC, dI) k g nW Q A) args s 0 0 A) 57 (b_X12_fewestBack_57 J Q) := by
  unfold b_X12_fewestBack_57
  refine s_iload_n X rfl dX12_fewestBack_57 ?_
  refine s_goto X (tgt := 62) dX12_fewestBack_58 (by decide) ?_
  exact s_X12_fewestBack_62 X hJ
set_option maxRecDepth 100000 in
def b_X12_fewestBack_36 (J : Nat → List qV → List qV → qW → Prop) (Q : qR) : qK := x_istore 3 (x_iload 3 (x_if_eq (b_X12_fewestBack_61 J Q) (x_iload 1 (x_int (-1) (x_icmp_eq (b_X12_fewestBack_57 J Q) (x_iload 2 (x_callr none 1 spr_X12_ones (x_iload 1 (x_callr none 1 spr_X12_ones (x_icmp_ge (b_X12_fewestBack_61 J Q) (b_X12_fewestBack_57 J Q)))))))))))
set_option maxRecDepth 100000 in
theorem s_X12_fewestBack_36 {p : Program} {l : Launch} {e : Env} {R : Room} {s : State} {m : MethodId} {args : Array Value} {below : List Frame} {meth : Method} {c : Code} {nW : Nat} {dC : Nat → ClassId} {dI : Nat → Nat → Nat} {k : Nat → ClassId} {g : Nat → Nat} {A : Nat → Prop} {J : Nat → List qV → List qV → qW → Prop} {Q : qR} (X : q_X p R s m args meth c cX12_fewestBack 4 nW 2 44 RX12 (some .int) dC dI k g A) (hJ : ∀ d : Nat, q_Sd p l e R s m args below meth c 4 nW dC dI k g A (MQ below (q_post (dC, dI) k g nW Q A) args s 0 0 A) d (x_cut (is_X12_fewestBack d) (J d))) : q_Sd p l e R s m args below meth c 4 nW dC dI k g A (MQ below (q_post (dC, dI) k g nW Q A) args s 0 0 A) 36 (b_X12_fewestBack_36 J Q) := by
  unfold b_X12_fewestBack_36
  refine s_istore_n X rfl (by decide) dX12_fewestBack_36 ?_
  refine s_iload_n X rfl dX12_fewestBack_37 ?_
  refine s_if_eq X (tgt := 61) dX12_fewestBack_38 (by decide) ?_ ?_
  · exact s_X12_fewestBack_61 X hJ
  · refine s_iload_n X rfl dX12_fewestBack_41 ?_
    refine s_iconst X ⟨by decide, by decide⟩ dX12_fewestBack_42 ?_
    refine s_icmp_eq X (tgt := 57) dX12_fewestBack_43 (by decide) ?_ ?_
    · exact s_X12_fewestBack_57 X hJ
    · refine s_iload_n X rfl dX12_fewestBack_46 ?_
      refine s_callSr X (m_X12_ones l) tw_1326 tw_1327 tw_134 tw_1328 (by decide +kernel) ⟨by decide, by decide⟩ dX12_fewestBack_47 ?_
      refine s_iload_n X rfl dX12_fewestBack_50 ?_
      refine s_callSr X (m_X12_ones l) tw_1326 tw_1327 tw_134 tw_1328 (by decide +kernel) ⟨by decide, by decide⟩ dX12_fewestBack_51 ?_
      refine s_icmp_ge X (tgt := 61) dX12_fewestBack_54 (by decide) ?_ ?_
      · exact s_X12_fewestBack_61 X hJ
      · exact s_X12_fewestBack_57 X hJ
set_option maxRecDepth 100000 in
def b_X12_fewestBack_35 (J : Nat → List qV → List qV → qW → Prop) (Q : qR) : qK := x_int 0 (b_X12_fewestBack_36 J Q)
set_option maxRecDepth 100000 in
theorem s_X12_fewestBack_35 {p : Program} {l : Launch} {e : Env} {R : Room} {s : State} {m : MethodId} {args : Array Value} {below : List Frame} {meth : Method} {c : Code} {nW : Nat} {dC : Nat → ClassId} {dI : Nat → Nat → Nat} {k : Nat → ClassId} {g : Nat → Nat} {A : Nat → Prop} {J : Nat → List qV → List qV → qW → Prop} {Q : qR} (X : q_X p R s m args meth c cX12_fewestBack 4 nW 2 44 RX12 (some .int) dC dI k g A) (hJ : ∀ d : Nat, q_Sd p l e R s m args below meth c 4 nW dC dI k g A (MQ below (q_post (dC, dI) k g nW Q A) args s 0 0 A) d (x_cut (is_X12_fewestBack d) (J d))) : q_Sd p l e R s m args below meth c 4 nW dC dI k g A (MQ below (q_post (dC, dI) k g nW Q A) args s 0 0 A) 35 (b_X12_fewestBack_35 J Q) := by
  unfold b_X12_fewestBack_35
  refine s_iconst X ⟨by decide, by decide⟩ dX12_fewestBack_35 ?_
  exact s_X12_fewestBack_36 X hJ
set_option maxRecDepth 100000 in
def b_X12_fewestBack_4 (J : Nat → List qV → List qV → qW → Prop) (Q : qR) : qK := x_iload 2 (x_int 256 (x_icmp_ge (x_iload 1 (x_iret Q)) (x_aload 0 (x_iload 2 (x_callr (some 12) 2 spr_X12_areSome (x_if_eq (b_X12_fewestBack_35 J Q) (x_aload 0 (x_iload 2 (x_callr (some 12) 2 spr_X12_gotBy (x_aload 0 (x_callr (some 12) 1 spr_X12_owed (x_icmp_lt (b_X12_fewestBack_35 J Q) (x_int 1 (b_X12_fewestBack_36 J Q))))))))))))))
set_option maxRecDepth 100000 in
theorem s_X12_fewestBack_4 {p : Program} {l : Launch} {e : Env} {R : Room} {s : State} {m : MethodId} {args : Array Value} {below : List Frame} {meth : Method} {c : Code} {nW : Nat} {dC : Nat → ClassId} {dI : Nat → Nat → Nat} {k : Nat → ClassId} {g : Nat → Nat} {A : Nat → Prop} {J : Nat → List qV → List qV → qW → Prop} {Q : qR} (X : q_X p R s m args meth c cX12_fewestBack 4 nW 2 44 RX12 (some .int) dC dI k g A) (hJ : ∀ d : Nat, q_Sd p l e R s m args below meth c 4 nW dC dI k g A (MQ below (q_post (dC, dI) k g nW Q A) args s 0 0 A) d (x_cut (is_X12_fewestBack d) (J d))) : q_Sd p l e R s m args below meth c 4 nW dC dI k g A (MQ below (q_post (dC, dI) k g nW Q A) args s 0 0 A) 4 (b_X12_fewestBack_4 J Q) := by
  unfold b_X12_fewestBack_4
  refine s_iload_n X rfl dX12_fewestBack_4 ?_
  refine s_sipush X ⟨by decide, by decide⟩ (by decide) dX12_fewestBack_5 ?_
  refine s_icmp_ge X (tgt := 69) dX12_fewestBack_8 (by decide) ?_ ?_
  · refine s_iload_n X rfl dX12_fewestBack_69 ?_
    exact s_iret X dX12_fewestBack_70
  · refine s_aload_n X rfl dX12_fewestBack_11 ?_
    refine s_iload_n X rfl dX12_fewestBack_12 ?_
    refine s_callVr X (m_X12_areSome l) tw_1365 tw_1366 tw_1545 tw_134 tw_1367 rfl (by decide +kernel) ⟨by decide, by decide⟩ dX12_fewestBack_13 ?_
    refine s_if_eq X (tgt := 35) dX12_fewestBack_16 (by decide) ?_ ?_
    · exact s_X12_fewestBack_35 X hJ
    · refine s_aload_n X rfl dX12_fewestBack_19 ?_
      refine s_iload_n X rfl dX12_fewestBack_20 ?_
      refine s_callVr X (m_X12_gotBy l) tw_1356 tw_1357 tw_1584 tw_134 tw_1358 rfl (by decide +kernel) ⟨by decide, by decide⟩ dX12_fewestBack_21 ?_
      refine s_aload_n X rfl dX12_fewestBack_24 ?_
      refine s_callVr X (m_X12_owed l) tw_1359 tw_1360 tw_1605 tw_134 tw_1361 rfl (by decide +kernel) ⟨by decide, by decide⟩ dX12_fewestBack_25 ?_
      refine s_icmp_lt X (tgt := 35) dX12_fewestBack_28 (by decide) ?_ ?_
      · exact s_X12_fewestBack_35 X hJ
      · refine s_iconst X ⟨by decide, by decide⟩ dX12_fewestBack_31 ?_
        refine s_goto X (tgt := 36) dX12_fewestBack_32 (by decide) ?_
        exact s_X12_fewestBack_36 X hJ
set_option maxRecDepth 100000 in
def b_X12_fewestBack_0 (J : Nat → List qV → List qV → qW → Prop) (Q : qR) : qK := x_int (-1) (x_istore 1 (x_int 0 (x_istore 2 (x_cut [0, 1, 2] (J 4)))))
set_option maxRecDepth 100000 in
theorem s_X12_fewestBack_0 {p : Program} {l : Launch} {e : Env} {R : Room} {s : State} {m : MethodId} {args : Array Value} {below : List Frame} {meth : Method} {c : Code} {nW : Nat} {dC : Nat → ClassId} {dI : Nat → Nat → Nat} {k : Nat → ClassId} {g : Nat → Nat} {A : Nat → Prop} {J : Nat → List qV → List qV → qW → Prop} {Q : qR} (X : q_X p R s m args meth c cX12_fewestBack 4 nW 2 44 RX12 (some .int) dC dI k g A) (hJ : ∀ d : Nat, q_Sd p l e R s m args below meth c 4 nW dC dI k g A (MQ below (q_post (dC, dI) k g nW Q A) args s 0 0 A) d (x_cut (is_X12_fewestBack d) (J d))) : q_Sd p l e R s m args below meth c 4 nW dC dI k g A (MQ below (q_post (dC, dI) k g nW Q A) args s 0 0 A) 0 (b_X12_fewestBack_0 J Q) := by
  unfold b_X12_fewestBack_0
  refine s_iconst X ⟨by decide, by decide⟩ dX12_fewestBack_0 ?_
  refine s_istore_n X rfl (by decide) dX12_fewestBack_1 ?_
  refine s_iconst X ⟨by decide, by decide⟩ dX12_fewestBack_2 ?_
  refine s_istore_n X rfl (by decide) dX12_fewestBack_3 ?_
  exact hJ 4

def spr_X12_fewestBack : List qV → qW → (Option qV → Prop) → Prop := fun av w Q => ∃ (mco : Int) (mre : Int) (mle : Int) (mbe : Int) (mso : Int) (mva : Int) (mwo : Int) (mwr : Int) (mlf : Int) (mlp : Int) (mfp : Int) (mfd : Int) (mgo : Int) (mbo : Int) (mpe : Int) (mye : Int) (mpr : Int) (mld : Int) (msi : Int) (mse : Int) (ls : Nat → Int), av = [q2 0] ∧ w = [.inr (12, [q1 mco, q2 2, q2 3, q2 4, q2 5, q2 6, q2 7, q2 8, q2 1, q2 9, q1 mre, q1 mle, q1 mbe, q1 mso, q1 mva, q3 mwo, q1 mwr, q1 mlf, q1 mlp, q2 10, q2 11, q1 mfp, q1 mfd, q1 mgo, q1 mbo, q1 mpe, q1 mye, q2 12, q1 mpr, q2 13, q2 14, q2 15, q2 16, q1 mld, q2 17, q1 msi, q2 18, q2 19, q2 20, q2 21, q2 22, q1 mse, q2 23, q2 24, q2 25]), .inl (0, 72, .inl ls)] ∧ (0 ≤ mld ∧ mld ≤ 1) ∧ (∀ (r : Int) , Q (some (q1 r)))
def sp_X12_fewestBack : qS := fun av w Q => spr_X12_fewestBack av w (fun r => Q r w)
def I_X12_fewestBack (mco : Int) (mre : Int) (mle : Int) (mbe : Int) (mso : Int) (mva : Int) (mwo : Int) (mwr : Int) (mlf : Int) (mlp : Int) (mfp : Int) (mfd : Int) (mgo : Int) (mbo : Int) (mpe : Int) (mye : Int) (mpr : Int) (mld : Int) (msi : Int) (mse : Int) (ls : Nat → Int) : Nat → Nat → List qV → List qV → qW → Prop := fun dz mz vz sz wz => if dz = 4 then (∃ (v1 : Int) (v2 : Int), vz = [q2 0, q1 v1, q1 v2] ∧ sz = [] ∧ wz = [.inr (12, [q1 mco, q2 2, q2 3, q2 4, q2 5, q2 6, q2 7, q2 8, q2 1, q2 9, q1 mre, q1 mle, q1 mbe, q1 mso, q1 mva, q3 mwo, q1 mwr, q1 mlf, q1 mlp, q2 10, q2 11, q1 mfp, q1 mfd, q1 mgo, q1 mbo, q1 mpe, q1 mye, q2 12, q1 mpr, q2 13, q2 14, q2 15, q2 16, q1 mld, q2 17, q1 msi, q2 18, q2 19, q2 20, q2 21, q2 22, q1 mse, q2 23, q2 24, q2 25]), .inl (0, 72, .inl ls)] ∧ mz = (256 - v2).toNat ∧ (0 ≤ v2 ∧ v2 ≤ 256)) else False
set_option maxHeartbeats 4000000 in
set_option maxRecDepth 100000 in
theorem m_X12_fewestBack (l : Launch) : q_M l yX12_fewestBack cX12_fewestBack 4 (some .int) 2 44 sp_X12_fewestBack := by
  refine q_meth (by decide) (fun av w Q h => by obtain ⟨mco, mre, mle, mbe, mso, mva, mwo, mwr, mlf, mlp, mfp, mfd, mgo, mbo, mpe, mye, mpr, mld, msi, mse, ls, rfl, rfl, hld, hQ⟩ := h; exact Nat.le_of_ble_eq_true rfl) ?_
  intro p e R s m args below meth c dC dI k g A av w Q hsp oka okw X
  obtain ⟨mco, mre, mle, mbe, mso, mva, mwo, mwr, mlf, mlp, mfp, mfd, mgo, mbo, mpe, mye, mpr, mld, msi, mse, ls, rfl, rfl, hld, hQ⟩ := hsp
  refine s_mono (s_X12_fewestBack_0 X (J := fun dz vz sz wz => ∃ mz, I_X12_fewestBack mco mre mle mbe mso mva mwo mwr mlf mlp mfp mfd mgo mbo mpe mye mpr mld msi mse ls dz mz vz sz wz) (q_loopn (I_X12_fewestBack mco mre mle mbe mso mva mwo mwr mlf mlp mfp mfd mgo mbo mpe mye mpr mld msi mse ls) (fun dz J => if dz = 4 then b_X12_fewestBack_4 J Q else q_F) ?hs ?hv)) ?_
  case hs =>
    intro d J hJ
    by_cases h4 : d = 4
    · subst h4; exact s_X12_fewestBack_4 X hJ
    simp only [h4, if_false]
    exact s_F
  case hv =>
    intro dz mz vz sz wz hI okv oks okw hlen
    by_cases h4 : dz = 4
    · subst h4
      obtain ⟨v1, v2, rfl, rfl, rfl, hn, hp⟩ := hI
      apply And.intro
      · intro h8
        exact hQ _
      · intro h8
        refine Exists.intro [0, 1, 2, 3, 4, 5, 6, 7, 8, 9, 10, 11, 12, 13, 14, 15, 16, 17, 18, 19, 20, 21, 22, 23, 24, 25] (Exists.intro [q2 0, q1 _] (Exists.intro ([.inr (12, [q1 _, q2 2, q2 3, q2 4, q2 5, q2 6, q2 7, q2 8, q2 1, q2 9, q1 _, q1 _, q1 _, q1 _, q1 _, q3 _, q1 _, q1 _, q1 _, q2 10, q2 11, q1 _, q1 _, q1 _, q1 _, q1 _, q1 _, q2 12, q1 _, q2 13, q2 14, q2 15, q2 16, q1 _, q2 17, q1 _, q2 18, q2 19, q2 20, q2 21, q2 22, q1 _, q2 23, q2 24, q2 25]), .inl (0, 72, .inl _)]) (And.intro rfl (And.intro rfl (And.intro rfl (And.intro ⟨⟨_, rfl⟩, rfl⟩ ?_))))))
        refine Exists.intro _ (Exists.intro _ (Exists.intro _ (Exists.intro _ (Exists.intro _ (Exists.intro _ (Exists.intro _ (Exists.intro _ (Exists.intro _ (Exists.intro _ (Exists.intro _ (Exists.intro _ (Exists.intro _ (Exists.intro _ (Exists.intro _ (Exists.intro _ (Exists.intro _ (Exists.intro _ (Exists.intro _ (Exists.intro _ (Exists.intro _ (Exists.intro _ (And.intro rfl (And.intro rfl (And.intro (by first | omega | assumption | exact q_rg_up (by assumption) (by omega) | exact q_rg_up (q_rg_up (by assumption) (by omega)) (by omega) | exact q_rg_cpy (by assumption) (by assumption)) (?_)))))))))))))))))))))))))
        intro z13 h13
        apply And.intro
        · intro h16
          apply And.intro
          · intro h38
            intro z63 h63
            first | replace h63 := e_add h63 (by omega) | replace h63 := e_rng h63
            exact ⟨_, ⟨_, _, rfl, rfl, rfl, rfl, (by first | omega | assumption | exact q_rg_up (by assumption) (by omega) | exact q_rg_up (q_rg_up (by assumption) (by omega)) (by omega) | exact q_rg_cpy (by assumption) (by assumption))⟩, by omega⟩
          · intro h38
            apply And.intro
            · intro h43
              intro z63 h63
              first | replace h63 := e_add h63 (by omega) | replace h63 := e_rng h63
              exact ⟨_, ⟨_, _, rfl, rfl, rfl, rfl, (by first | omega | assumption | exact q_rg_up (by assumption) (by omega) | exact q_rg_up (q_rg_up (by assumption) (by omega)) (by omega) | exact q_rg_cpy (by assumption) (by assumption))⟩, by omega⟩
            · intro h43
              refine Exists.intro [] (Exists.intro [q1 _] (Exists.intro [] (And.intro rfl (And.intro rfl (And.intro rfl (And.intro trivial ?_))))))
              refine Exists.intro _ (And.intro rfl (And.intro rfl (?_)))
              intro z47 h47
              refine Exists.intro [] (Exists.intro [q1 _] (Exists.intro [] (And.intro rfl (And.intro rfl (And.intro rfl (And.intro trivial ?_))))))
              refine Exists.intro _ (And.intro rfl (And.intro rfl (?_)))
              intro z51 h51
              apply And.intro
              · intro h54
                intro z63 h63
                first | replace h63 := e_add h63 (by omega) | replace h63 := e_rng h63
                exact ⟨_, ⟨_, _, rfl, rfl, rfl, rfl, (by first | omega | assumption | exact q_rg_up (by assumption) (by omega) | exact q_rg_up (q_rg_up (by assumption) (by omega)) (by omega) | exact q_rg_cpy (by assumption) (by assumption))⟩, by omega⟩
              · intro h54
                intro z63 h63
                first | replace h63 := e_add h63 (by omega) | replace h63 := e_rng h63
                exact ⟨_, ⟨_, _, rfl, rfl, rfl, rfl, (by first | omega | assumption | exact q_rg_up (by assumption) (by omega) | exact q_rg_up (q_rg_up (by assumption) (by omega)) (by omega) | exact q_rg_cpy (by assumption) (by assumption))⟩, by omega⟩
        · intro h16
          refine Exists.intro [0, 1, 2, 3, 4, 5, 6, 7, 8, 9, 10, 11, 12, 13, 14, 15, 16, 17, 18, 19, 20, 21, 22, 23, 24, 25] (Exists.intro [q2 0, q1 _] (Exists.intro ([.inr (12, [q1 _, q2 2, q2 3, q2 4, q2 5, q2 6, q2 7, q2 8, q2 1, q2 9, q1 _, q1 _, q1 _, q1 _, q1 _, q3 _, q1 _, q1 _, q1 _, q2 10, q2 11, q1 _, q1 _, q1 _, q1 _, q1 _, q1 _, q2 12, q1 _, q2 13, q2 14, q2 15, q2 16, q1 _, q2 17, q1 _, q2 18, q2 19, q2 20, q2 21, q2 22, q1 _, q2 23, q2 24, q2 25]), .inl (0, 72, .inl _)]) (And.intro rfl (And.intro rfl (And.intro rfl (And.intro ⟨⟨_, rfl⟩, rfl⟩ ?_))))))
          refine Exists.intro _ (Exists.intro _ (Exists.intro _ (Exists.intro _ (Exists.intro _ (Exists.intro _ (Exists.intro _ (Exists.intro _ (Exists.intro _ (Exists.intro _ (Exists.intro _ (Exists.intro _ (Exists.intro _ (Exists.intro _ (Exists.intro _ (Exists.intro _ (Exists.intro _ (Exists.intro _ (Exists.intro _ (Exists.intro _ (Exists.intro _ (Exists.intro _ (And.intro rfl (And.intro rfl (And.intro (by first | omega | assumption | exact q_rg_up (by assumption) (by omega) | exact q_rg_up (q_rg_up (by assumption) (by omega)) (by omega) | exact q_rg_cpy (by assumption) (by assumption)) (?_)))))))))))))))))))))))))
          intro z21
          refine Exists.intro [0, 1, 2, 3, 4, 5, 6, 7, 8, 9, 10, 11, 12, 13, 14, 15, 16, 17, 18, 19, 20, 21, 22, 23, 24, 25] (Exists.intro [q2 0] (Exists.intro ([.inr (12, [q1 _, q2 2, q2 3, q2 4, q2 5, q2 6, q2 7, q2 8, q2 1, q2 9, q1 _, q1 _, q1 _, q1 _, q1 _, q3 _, q1 _, q1 _, q1 _, q2 10, q2 11, q1 _, q1 _, q1 _, q1 _, q1 _, q1 _, q2 12, q1 _, q2 13, q2 14, q2 15, q2 16, q1 _, q2 17, q1 _, q2 18, q2 19, q2 20, q2 21, q2 22, q1 _, q2 23, q2 24, q2 25]), .inl (0, 72, .inl _)]) (And.intro rfl (And.intro rfl (And.intro rfl (And.intro ⟨⟨_, rfl⟩, rfl⟩ ?_))))))
          refine Exists.intro _ (Exists.intro _ (Exists.intro _ (Exists.intro _ (Exists.intro _ (Exists.intro _ (Exists.intro _ (Exists.intro _ (Exists.intro _ (Exists.intro _ (Exists.intro _ (Exists.intro _ (Exists.intro _ (Exists.intro _ (Exists.intro _ (Exists.intro _ (Exists.intro _ (Exists.intro _ (Exists.intro _ (Exists.intro _ (Exists.intro _ (And.intro rfl (And.intro rfl (And.intro (by first | omega | assumption | exact q_rg_up (by assumption) (by omega) | exact q_rg_up (q_rg_up (by assumption) (by omega)) (by omega) | exact q_rg_cpy (by assumption) (by assumption)) (?_))))))))))))))))))))))))
          intro z25
          apply And.intro
          · intro h28
            apply And.intro
            · intro h38
              intro z63 h63
              first | replace h63 := e_add h63 (by omega) | replace h63 := e_rng h63
              exact ⟨_, ⟨_, _, rfl, rfl, rfl, rfl, (by first | omega | assumption | exact q_rg_up (by assumption) (by omega) | exact q_rg_up (q_rg_up (by assumption) (by omega)) (by omega) | exact q_rg_cpy (by assumption) (by assumption))⟩, by omega⟩
            · intro h38
              apply And.intro
              · intro h43
                intro z63 h63
                first | replace h63 := e_add h63 (by omega) | replace h63 := e_rng h63
                exact ⟨_, ⟨_, _, rfl, rfl, rfl, rfl, (by first | omega | assumption | exact q_rg_up (by assumption) (by omega) | exact q_rg_up (q_rg_up (by assumption) (by omega)) (by omega) | exact q_rg_cpy (by assumption) (by assumption))⟩, by omega⟩
              · intro h43
                refine Exists.intro [] (Exists.intro [q1 _] (Exists.intro [] (And.intro rfl (And.intro rfl (And.intro rfl (And.intro trivial ?_))))))
                refine Exists.intro _ (And.intro rfl (And.intro rfl (?_)))
                intro z47 h47
                refine Exists.intro [] (Exists.intro [q1 _] (Exists.intro [] (And.intro rfl (And.intro rfl (And.intro rfl (And.intro trivial ?_))))))
                refine Exists.intro _ (And.intro rfl (And.intro rfl (?_)))
                intro z51 h51
                apply And.intro
                · intro h54
                  intro z63 h63
                  first | replace h63 := e_add h63 (by omega) | replace h63 := e_rng h63
                  exact ⟨_, ⟨_, _, rfl, rfl, rfl, rfl, (by first | omega | assumption | exact q_rg_up (by assumption) (by omega) | exact q_rg_up (q_rg_up (by assumption) (by omega)) (by omega) | exact q_rg_cpy (by assumption) (by assumption))⟩, by omega⟩
                · intro h54
                  intro z63 h63
                  first | replace h63 := e_add h63 (by omega) | replace h63 := e_rng h63
                  exact ⟨_, ⟨_, _, rfl, rfl, rfl, rfl, (by first | omega | assumption | exact q_rg_up (by assumption) (by omega) | exact q_rg_up (q_rg_up (by assumption) (by omega)) (by omega) | exact q_rg_cpy (by assumption) (by assumption))⟩, by omega⟩
          · intro h28
            apply And.intro
            · intro h38
              intro z63 h63
              first | replace h63 := e_add h63 (by omega) | replace h63 := e_rng h63
              exact ⟨_, ⟨_, _, rfl, rfl, rfl, rfl, (by first | omega | assumption | exact q_rg_up (by assumption) (by omega) | exact q_rg_up (q_rg_up (by assumption) (by omega)) (by omega) | exact q_rg_cpy (by assumption) (by assumption))⟩, by omega⟩
            · intro h38
              apply And.intro
              · intro h43
                intro z63 h63
                first | replace h63 := e_add h63 (by omega) | replace h63 := e_rng h63
                exact ⟨_, ⟨_, _, rfl, rfl, rfl, rfl, (by first | omega | assumption | exact q_rg_up (by assumption) (by omega) | exact q_rg_up (q_rg_up (by assumption) (by omega)) (by omega) | exact q_rg_cpy (by assumption) (by assumption))⟩, by omega⟩
              · intro h43
                refine Exists.intro [] (Exists.intro [q1 _] (Exists.intro [] (And.intro rfl (And.intro rfl (And.intro rfl (And.intro trivial ?_))))))
                refine Exists.intro _ (And.intro rfl (And.intro rfl (?_)))
                intro z47 h47
                refine Exists.intro [] (Exists.intro [q1 _] (Exists.intro [] (And.intro rfl (And.intro rfl (And.intro rfl (And.intro trivial ?_))))))
                refine Exists.intro _ (And.intro rfl (And.intro rfl (?_)))
                intro z51 h51
                apply And.intro
                · intro h54
                  intro z63 h63
                  first | replace h63 := e_add h63 (by omega) | replace h63 := e_rng h63
                  exact ⟨_, ⟨_, _, rfl, rfl, rfl, rfl, (by first | omega | assumption | exact q_rg_up (by assumption) (by omega) | exact q_rg_up (q_rg_up (by assumption) (by omega)) (by omega) | exact q_rg_cpy (by assumption) (by assumption))⟩, by omega⟩
                · intro h54
                  intro z63 h63
                  first | replace h63 := e_add h63 (by omega) | replace h63 := e_rng h63
                  exact ⟨_, ⟨_, _, rfl, rfl, rfl, rfl, (by first | omega | assumption | exact q_rg_up (by assumption) (by omega) | exact q_rg_up (q_rg_up (by assumption) (by omega)) (by omega) | exact q_rg_cpy (by assumption) (by assumption))⟩, by omega⟩
    simp only [I_X12_fewestBack, h4, if_false] at hI
  rintro lv st w' ⟨rfl, rfl, rfl⟩
  exact ⟨_, _, _, rfl, rfl, rfl, rfl, (by first | omega | assumption | exact q_rg_up (by assumption) (by omega) | exact q_rg_up (q_rg_up (by assumption) (by omega)) (by omega) | exact q_rg_cpy (by assumption) (by assumption))⟩

theorem dX12_exact_0 : decode cX12_exact 0 = .ok (.iconst 0, 1) := by decide +kernel
theorem dX12_exact_1 : decode cX12_exact 1 = .ok (.istore_n 2, 1) := by decide +kernel
theorem dX12_exact_2 : decode cX12_exact 2 = .ok (.iconst (-1), 1) := by decide +kernel
theorem dX12_exact_3 : decode cX12_exact 3 = .ok (.istore_n 3, 1) := by decide +kernel
theorem dX12_exact_4 : decode cX12_exact 4 = .ok (.iconst 0, 1) := by decide +kernel
theorem dX12_exact_5 : decode cX12_exact 5 = .ok (.istore 4, 2) := by decide +kernel
theorem dX12_exact_7 : decode cX12_exact 7 = .ok (.iload 4, 2) := by decide +kernel
theorem dX12_exact_9 : decode cX12_exact 9 = .ok (.sipush 256, 3) := by decide +kernel
theorem dX12_exact_12 : decode cX12_exact 12 = .ok (.if_icmp .ge 46, 3) := by decide +kernel
theorem dX12_exact_15 : decode cX12_exact 15 = .ok (.aload_n 0, 1) := by decide +kernel
theorem dX12_exact_16 : decode cX12_exact 16 = .ok (.iload 4, 2) := by decide +kernel
theorem dX12_exact_18 : decode cX12_exact 18 = .ok (.invokevirtual 434, 3) := by decide +kernel
theorem dX12_exact_21 : decode cX12_exact 21 = .ok (.ifCond .eq 31, 3) := by decide +kernel
theorem dX12_exact_24 : decode cX12_exact 24 = .ok (.aload_n 0, 1) := by decide +kernel
theorem dX12_exact_25 : decode cX12_exact 25 = .ok (.iload 4, 2) := by decide +kernel
theorem dX12_exact_27 : decode cX12_exact 27 = .ok (.invokevirtual 437, 3) := by decide +kernel
theorem dX12_exact_30 : decode cX12_exact 30 = .ok (.aload_n 0, 1) := by decide +kernel
theorem dX12_exact_31 : decode cX12_exact 31 = .ok (.invokevirtual 440, 3) := by decide +kernel
theorem dX12_exact_34 : decode cX12_exact 34 = .ok (.if_icmp .ne 18, 3) := by decide +kernel
theorem dX12_exact_37 : decode cX12_exact 37 = .ok (.iinc 2 1, 3) := by decide +kernel
theorem dX12_exact_40 : decode cX12_exact 40 = .ok (.iload_n 3, 1) := by decide +kernel
theorem dX12_exact_41 : decode cX12_exact 41 = .ok (.iconst (-1), 1) := by decide +kernel
theorem dX12_exact_42 : decode cX12_exact 42 = .ok (.if_icmp .ne 8, 3) := by decide +kernel
theorem dX12_exact_45 : decode cX12_exact 45 = .ok (.iload 4, 2) := by decide +kernel
theorem dX12_exact_47 : decode cX12_exact 47 = .ok (.goto 4, 3) := by decide +kernel
theorem dX12_exact_50 : decode cX12_exact 50 = .ok (.iload_n 3, 1) := by decide +kernel
theorem dX12_exact_51 : decode cX12_exact 51 = .ok (.istore_n 3, 1) := by decide +kernel
theorem dX12_exact_52 : decode cX12_exact 52 = .ok (.iinc 4 1, 3) := by decide +kernel
theorem dX12_exact_55 : decode cX12_exact 55 = .ok (.goto (-48), 3) := by decide +kernel
theorem dX12_exact_58 : decode cX12_exact 58 = .ok (.iload_n 1, 1) := by decide +kernel
theorem dX12_exact_59 : decode cX12_exact 59 = .ok (.ifCond .eq 7, 3) := by decide +kernel
theorem dX12_exact_62 : decode cX12_exact 62 = .ok (.iload_n 3, 1) := by decide +kernel
theorem dX12_exact_63 : decode cX12_exact 63 = .ok (.goto 4, 3) := by decide +kernel
theorem dX12_exact_66 : decode cX12_exact 66 = .ok (.iload_n 2, 1) := by decide +kernel
theorem dX12_exact_67 : decode cX12_exact 67 = .ok (.ireturn, 1) := by decide +kernel
def is_X12_exact : Nat → List Nat := fun d => if d = 7 then [0, 1, 2, 3, 4] else []
set_option maxRecDepth 100000 in
def b_X12_exact_67 (J : Nat → List qV → List qV → qW → Prop) (Q : qR) : qK := x_iret Q
set_option maxRecDepth 100000 in
theorem s_X12_exact_67 {p : Program} {l : Launch} {e : Env} {R : Room} {s : State} {m : MethodId} {args : Array Value} {below : List Frame} {meth : Method} {c : Code} {nW : Nat} {dC : Nat → ClassId} {dI : Nat → Nat → Nat} {k : Nat → ClassId} {g : Nat → Nat} {A : Nat → Prop} {J : Nat → List qV → List qV → qW → Prop} {Q : qR} (X : q_X p R s m args meth c cX12_exact 5 nW 2 44 RX12 (some .int) dC dI k g A) (hJ : ∀ d : Nat, q_Sd p l e R s m args below meth c 5 nW dC dI k g A (MQ below (q_post (dC, dI) k g nW Q A) args s 0 0 A) d (x_cut (is_X12_exact d) (J d))) : q_Sd p l e R s m args below meth c 5 nW dC dI k g A (MQ below (q_post (dC, dI) k g nW Q A) args s 0 0 A) 67 (b_X12_exact_67 J Q) := by
  unfold b_X12_exact_67
  exact s_iret X dX12_exact_67
set_option maxRecDepth 100000 in
def b_X12_exact_52 (J : Nat → List qV → List qV → qW → Prop) (Q : qR) : qK := x_iinc 4 1 (x_cut [0, 1, 2, 3, 4] (J 7))
set_option maxRecDepth 100000 in
theorem s_X12_exact_52 {p : Program} {l : Launch} {e : Env} {R : Room} {s : State} {m : MethodId} {args : Array Value} {below : List Frame} {meth : Method} {c : Code} {nW : Nat} {dC : Nat → ClassId} {dI : Nat → Nat → Nat} {k : Nat → ClassId} {g : Nat → Nat} {A : Nat → Prop} {J : Nat → List qV → List qV → qW → Prop} {Q : qR} (X : q_X p R s m args meth c cX12_exact 5 nW 2 44 RX12 (some .int) dC dI k g A) (hJ : ∀ d : Nat, q_Sd p l e R s m args below meth c 5 nW dC dI k g A (MQ below (q_post (dC, dI) k g nW Q A) args s 0 0 A) d (x_cut (is_X12_exact d) (J d))) : q_Sd p l e R s m args below meth c 5 nW dC dI k g A (MQ below (q_post (dC, dI) k g nW Q A) args s 0 0 A) 52 (b_X12_exact_52 J Q) := by
  unfold b_X12_exact_52
  refine s_iinc X (by decide) dX12_exact_52 ?_
  refine s_goto X (tgt := 7) dX12_exact_55 (by decide) ?_
  exact hJ 7
set_option maxRecDepth 100000 in
def b_X12_exact_51 (J : Nat → List qV → List qV → qW → Prop) (Q : qR) : qK := x_istore 3 (b_X12_exact_52 J Q)
set_option maxRecDepth 100000 in
theorem s_X12_exact_51 {p : Program} {l : Launch} {e : Env} {R : Room} {s : State} {m : MethodId} {args : Array Value} {below : List Frame} {meth : Method} {c : Code} {nW : Nat} {dC : Nat → ClassId} {dI : Nat → Nat → Nat} {k : Nat → ClassId} {g : Nat → Nat} {A : Nat → Prop} {J : Nat → List qV → List qV → qW → Prop} {Q : qR} (X : q_X p R s m args meth c cX12_exact 5 nW 2 44 RX12 (some .int) dC dI k g A) (hJ : ∀ d : Nat, q_Sd p l e R s m args below meth c 5 nW dC dI k g A (MQ below (q_post (dC, dI) k g nW Q A) args s 0 0 A) d (x_cut (is_X12_exact d) (J d))) : q_Sd p l e R s m args below meth c 5 nW dC dI k g A (MQ below (q_post (dC, dI) k g nW Q A) args s 0 0 A) 51 (b_X12_exact_51 J Q) := by
  unfold b_X12_exact_51
  refine s_istore_n X rfl (by decide) dX12_exact_51 ?_
  exact s_X12_exact_52 X hJ
set_option maxRecDepth 100000 in
def b_X12_exact_7 (J : Nat → List qV → List qV → qW → Prop) (Q : qR) : qK := x_iload 4 (x_int 256 (x_icmp_ge (x_iload 1 (x_if_eq (x_iload 2 (b_X12_exact_67 J Q)) (x_iload 3 (b_X12_exact_67 J Q)))) (x_aload 0 (x_iload 4 (x_callr (some 12) 2 spr_X12_areSome (x_if_eq (b_X12_exact_52 J Q) (x_aload 0 (x_iload 4 (x_callr (some 12) 2 spr_X12_gotBy (x_aload 0 (x_callr (some 12) 1 spr_X12_owed (x_icmp_ne (b_X12_exact_52 J Q) (x_iinc 2 1 (x_iload 3 (x_int (-1) (x_icmp_ne (x_iload 3 (b_X12_exact_51 J Q)) (x_iload 4 (b_X12_exact_51 J Q))))))))))))))))))
set_option maxRecDepth 100000 in
theorem s_X12_exact_7 {p : Program} {l : Launch} {e : Env} {R : Room} {s : State} {m : MethodId} {args : Array Value} {below : List Frame} {meth : Method} {c : Code} {nW : Nat} {dC : Nat → ClassId} {dI : Nat → Nat → Nat} {k : Nat → ClassId} {g : Nat → Nat} {A : Nat → Prop} {J : Nat → List qV → List qV → qW → Prop} {Q : qR} (X : q_X p R s m args meth c cX12_exact 5 nW 2 44 RX12 (some .int) dC dI k g A) (hJ : ∀ d : Nat, q_Sd p l e R s m args below meth c 5 nW dC dI k g A (MQ below (q_post (dC, dI) k g nW Q A) args s 0 0 A) d (x_cut (is_X12_exact d) (J d))) : q_Sd p l e R s m args below meth c 5 nW dC dI k g A (MQ below (q_post (dC, dI) k g nW Q A) args s 0 0 A) 7 (b_X12_exact_7 J Q) := by
  unfold b_X12_exact_7
  refine s_iload X dX12_exact_7 ?_
  refine s_sipush X ⟨by decide, by decide⟩ (by decide) dX12_exact_9 ?_
  refine s_icmp_ge X (tgt := 58) dX12_exact_12 (by decide) ?_ ?_
  · refine s_iload_n X rfl dX12_exact_58 ?_
    refine s_if_eq X (tgt := 66) dX12_exact_59 (by decide) ?_ ?_
    · refine s_iload_n X rfl dX12_exact_66 ?_
      exact s_X12_exact_67 X hJ
    · refine s_iload_n X rfl dX12_exact_62 ?_
      refine s_goto X (tgt := 67) dX12_exact_63 (by decide) ?_
      exact s_X12_exact_67 X hJ
  · refine s_aload_n X rfl dX12_exact_15 ?_
    refine s_iload X dX12_exact_16 ?_
    refine s_callVr X (m_X12_areSome l) tw_1365 tw_1366 tw_1545 tw_134 tw_1367 rfl (by decide +kernel) ⟨by decide, by decide⟩ dX12_exact_18 ?_
    refine s_if_eq X (tgt := 52) dX12_exact_21 (by decide) ?_ ?_
    · exact s_X12_exact_52 X hJ
    · refine s_aload_n X rfl dX12_exact_24 ?_
      refine s_iload X dX12_exact_25 ?_
      refine s_callVr X (m_X12_gotBy l) tw_1356 tw_1357 tw_1584 tw_134 tw_1358 rfl (by decide +kernel) ⟨by decide, by decide⟩ dX12_exact_27 ?_
      refine s_aload_n X rfl dX12_exact_30 ?_
      refine s_callVr X (m_X12_owed l) tw_1359 tw_1360 tw_1605 tw_134 tw_1361 rfl (by decide +kernel) ⟨by decide, by decide⟩ dX12_exact_31 ?_
      refine s_icmp_ne X (tgt := 52) dX12_exact_34 (by decide) ?_ ?_
      · exact s_X12_exact_52 X hJ
      · refine s_iinc X (by decide) dX12_exact_37 ?_
        refine s_iload_n X rfl dX12_exact_40 ?_
        refine s_iconst X ⟨by decide, by decide⟩ dX12_exact_41 ?_
        refine s_icmp_ne X (tgt := 50) dX12_exact_42 (by decide) ?_ ?_
        · refine s_iload_n X rfl dX12_exact_50 ?_
          exact s_X12_exact_51 X hJ
        · refine s_iload X dX12_exact_45 ?_
          refine s_goto X (tgt := 51) dX12_exact_47 (by decide) ?_
          exact s_X12_exact_51 X hJ
set_option maxRecDepth 100000 in
def b_X12_exact_0 (J : Nat → List qV → List qV → qW → Prop) (Q : qR) : qK := x_int 0 (x_istore 2 (x_int (-1) (x_istore 3 (x_int 0 (x_istore 4 (x_cut [0, 1, 2, 3, 4] (J 7)))))))
set_option maxRecDepth 100000 in
theorem s_X12_exact_0 {p : Program} {l : Launch} {e : Env} {R : Room} {s : State} {m : MethodId} {args : Array Value} {below : List Frame} {meth : Method} {c : Code} {nW : Nat} {dC : Nat → ClassId} {dI : Nat → Nat → Nat} {k : Nat → ClassId} {g : Nat → Nat} {A : Nat → Prop} {J : Nat → List qV → List qV → qW → Prop} {Q : qR} (X : q_X p R s m args meth c cX12_exact 5 nW 2 44 RX12 (some .int) dC dI k g A) (hJ : ∀ d : Nat, q_Sd p l e R s m args below meth c 5 nW dC dI k g A (MQ below (q_post (dC, dI) k g nW Q A) args s 0 0 A) d (x_cut (is_X12_exact d) (J d))) : q_Sd p l e R s m args below meth c 5 nW dC dI k g A (MQ below (q_post (dC, dI) k g nW Q A) args s 0 0 A) 0 (b_X12_exact_0 J Q) := by
  unfold b_X12_exact_0
  refine s_iconst X ⟨by decide, by decide⟩ dX12_exact_0 ?_
  refine s_istore_n X rfl (by decide) dX12_exact_1 ?_
  refine s_iconst X ⟨by decide, by decide⟩ dX12_exact_2 ?_
  refine s_istore_n X rfl (by decide) dX12_exact_3 ?_
  refine s_iconst X ⟨by decide, by decide⟩ dX12_exact_4 ?_
  refine s_istore X (by decide) dX12_exact_5 ?_
  exact hJ 7

def spr_X12_exact : List qV → qW → (Option qV → Prop) → Prop := fun av w Q => ∃ (mco : Int) (mre : Int) (mle : Int) (mbe : Int) (mso : Int) (mva : Int) (mwo : Int) (mwr : Int) (mlf : Int) (mlp : Int) (mfp : Int) (mfd : Int) (mgo : Int) (mbo : Int) (mpe : Int) (mye : Int) (mpr : Int) (mld : Int) (msi : Int) (mse : Int) (ls : Nat → Int) (a : Int), av = [q2 0, q1 a] ∧ w = [.inr (12, [q1 mco, q2 2, q2 3, q2 4, q2 5, q2 6, q2 7, q2 8, q2 1, q2 9, q1 mre, q1 mle, q1 mbe, q1 mso, q1 mva, q3 mwo, q1 mwr, q1 mlf, q1 mlp, q2 10, q2 11, q1 mfp, q1 mfd, q1 mgo, q1 mbo, q1 mpe, q1 mye, q2 12, q1 mpr, q2 13, q2 14, q2 15, q2 16, q1 mld, q2 17, q1 msi, q2 18, q2 19, q2 20, q2 21, q2 22, q1 mse, q2 23, q2 24, q2 25]), .inl (0, 72, .inl ls)] ∧ (0 ≤ mld ∧ mld ≤ 1) ∧ (∀ (r : Int) , Q (some (q1 r)))
def sp_X12_exact : qS := fun av w Q => spr_X12_exact av w (fun r => Q r w)
def I_X12_exact (mco : Int) (mre : Int) (mle : Int) (mbe : Int) (mso : Int) (mva : Int) (mwo : Int) (mwr : Int) (mlf : Int) (mlp : Int) (mfp : Int) (mfd : Int) (mgo : Int) (mbo : Int) (mpe : Int) (mye : Int) (mpr : Int) (mld : Int) (msi : Int) (mse : Int) (ls : Nat → Int) (a : Int) : Nat → Nat → List qV → List qV → qW → Prop := fun dz mz vz sz wz => if dz = 7 then (∃ (v2 : Int) (v3 : Int) (v4 : Int), vz = [q2 0, q1 a, q1 v2, q1 v3, q1 v4] ∧ sz = [] ∧ wz = [.inr (12, [q1 mco, q2 2, q2 3, q2 4, q2 5, q2 6, q2 7, q2 8, q2 1, q2 9, q1 mre, q1 mle, q1 mbe, q1 mso, q1 mva, q3 mwo, q1 mwr, q1 mlf, q1 mlp, q2 10, q2 11, q1 mfp, q1 mfd, q1 mgo, q1 mbo, q1 mpe, q1 mye, q2 12, q1 mpr, q2 13, q2 14, q2 15, q2 16, q1 mld, q2 17, q1 msi, q2 18, q2 19, q2 20, q2 21, q2 22, q1 mse, q2 23, q2 24, q2 25]), .inl (0, 72, .inl ls)] ∧ mz = (256 - v4).toNat ∧ (0 ≤ v4 ∧ v4 ≤ 256)) else False
set_option maxHeartbeats 4000000 in
set_option maxRecDepth 100000 in
theorem m_X12_exact (l : Launch) : q_M l yX12_exact cX12_exact 5 (some .int) 2 44 sp_X12_exact := by
  refine q_meth (by decide) (fun av w Q h => by obtain ⟨mco, mre, mle, mbe, mso, mva, mwo, mwr, mlf, mlp, mfp, mfd, mgo, mbo, mpe, mye, mpr, mld, msi, mse, ls, a, rfl, rfl, hld, hQ⟩ := h; exact Nat.le_of_ble_eq_true rfl) ?_
  intro p e R s m args below meth c dC dI k g A av w Q hsp oka okw X
  obtain ⟨mco, mre, mle, mbe, mso, mva, mwo, mwr, mlf, mlp, mfp, mfd, mgo, mbo, mpe, mye, mpr, mld, msi, mse, ls, a, rfl, rfl, hld, hQ⟩ := hsp
  have o_a : -2147483648 ≤ a ∧ a ≤ 2147483647 := oka _ (List.mem_of_getElem? (i := 1) rfl)
  refine s_mono (s_X12_exact_0 X (J := fun dz vz sz wz => ∃ mz, I_X12_exact mco mre mle mbe mso mva mwo mwr mlf mlp mfp mfd mgo mbo mpe mye mpr mld msi mse ls a dz mz vz sz wz) (q_loopn (I_X12_exact mco mre mle mbe mso mva mwo mwr mlf mlp mfp mfd mgo mbo mpe mye mpr mld msi mse ls a) (fun dz J => if dz = 7 then b_X12_exact_7 J Q else q_F) ?hs ?hv)) ?_
  case hs =>
    intro d J hJ
    by_cases h7 : d = 7
    · subst h7; exact s_X12_exact_7 X hJ
    simp only [h7, if_false]
    exact s_F
  case hv =>
    intro dz mz vz sz wz hI okv oks okw hlen
    by_cases h7 : dz = 7
    · subst h7
      obtain ⟨v2, v3, v4, rfl, rfl, rfl, hn, hp⟩ := hI
      apply And.intro
      · intro h12
        apply And.intro
        · intro h59
          exact hQ _
        · intro h59
          exact hQ _
      · intro h12
        refine Exists.intro [0, 1, 2, 3, 4, 5, 6, 7, 8, 9, 10, 11, 12, 13, 14, 15, 16, 17, 18, 19, 20, 21, 22, 23, 24, 25] (Exists.intro [q2 0, q1 _] (Exists.intro ([.inr (12, [q1 _, q2 2, q2 3, q2 4, q2 5, q2 6, q2 7, q2 8, q2 1, q2 9, q1 _, q1 _, q1 _, q1 _, q1 _, q3 _, q1 _, q1 _, q1 _, q2 10, q2 11, q1 _, q1 _, q1 _, q1 _, q1 _, q1 _, q2 12, q1 _, q2 13, q2 14, q2 15, q2 16, q1 _, q2 17, q1 _, q2 18, q2 19, q2 20, q2 21, q2 22, q1 _, q2 23, q2 24, q2 25]), .inl (0, 72, .inl _)]) (And.intro rfl (And.intro rfl (And.intro rfl (And.intro ⟨⟨_, rfl⟩, rfl⟩ ?_))))))
        refine Exists.intro _ (Exists.intro _ (Exists.intro _ (Exists.intro _ (Exists.intro _ (Exists.intro _ (Exists.intro _ (Exists.intro _ (Exists.intro _ (Exists.intro _ (Exists.intro _ (Exists.intro _ (Exists.intro _ (Exists.intro _ (Exists.intro _ (Exists.intro _ (Exists.intro _ (Exists.intro _ (Exists.intro _ (Exists.intro _ (Exists.intro _ (Exists.intro _ (And.intro rfl (And.intro rfl (And.intro (by first | omega | assumption | exact q_rg_up (by assumption) (by omega) | exact q_rg_up (q_rg_up (by assumption) (by omega)) (by omega) | exact q_rg_cpy (by assumption) (by assumption)) (?_)))))))))))))))))))))))))
        intro z18 h18
        apply And.intro
        · intro h21
          intro z52 h52
          first | replace h52 := e_add h52 (by omega) | replace h52 := e_rng h52
          exact ⟨_, ⟨_, _, _, rfl, rfl, rfl, rfl, (by first | omega | assumption | exact q_rg_up (by assumption) (by omega) | exact q_rg_up (q_rg_up (by assumption) (by omega)) (by omega) | exact q_rg_cpy (by assumption) (by assumption))⟩, by omega⟩
        · intro h21
          refine Exists.intro [0, 1, 2, 3, 4, 5, 6, 7, 8, 9, 10, 11, 12, 13, 14, 15, 16, 17, 18, 19, 20, 21, 22, 23, 24, 25] (Exists.intro [q2 0, q1 _] (Exists.intro ([.inr (12, [q1 _, q2 2, q2 3, q2 4, q2 5, q2 6, q2 7, q2 8, q2 1, q2 9, q1 _, q1 _, q1 _, q1 _, q1 _, q3 _, q1 _, q1 _, q1 _, q2 10, q2 11, q1 _, q1 _, q1 _, q1 _, q1 _, q1 _, q2 12, q1 _, q2 13, q2 14, q2 15, q2 16, q1 _, q2 17, q1 _, q2 18, q2 19, q2 20, q2 21, q2 22, q1 _, q2 23, q2 24, q2 25]), .inl (0, 72, .inl _)]) (And.intro rfl (And.intro rfl (And.intro rfl (And.intro ⟨⟨_, rfl⟩, rfl⟩ ?_))))))
          refine Exists.intro _ (Exists.intro _ (Exists.intro _ (Exists.intro _ (Exists.intro _ (Exists.intro _ (Exists.intro _ (Exists.intro _ (Exists.intro _ (Exists.intro _ (Exists.intro _ (Exists.intro _ (Exists.intro _ (Exists.intro _ (Exists.intro _ (Exists.intro _ (Exists.intro _ (Exists.intro _ (Exists.intro _ (Exists.intro _ (Exists.intro _ (Exists.intro _ (And.intro rfl (And.intro rfl (And.intro (by first | omega | assumption | exact q_rg_up (by assumption) (by omega) | exact q_rg_up (q_rg_up (by assumption) (by omega)) (by omega) | exact q_rg_cpy (by assumption) (by assumption)) (?_)))))))))))))))))))))))))
          intro z27
          refine Exists.intro [0, 1, 2, 3, 4, 5, 6, 7, 8, 9, 10, 11, 12, 13, 14, 15, 16, 17, 18, 19, 20, 21, 22, 23, 24, 25] (Exists.intro [q2 0] (Exists.intro ([.inr (12, [q1 _, q2 2, q2 3, q2 4, q2 5, q2 6, q2 7, q2 8, q2 1, q2 9, q1 _, q1 _, q1 _, q1 _, q1 _, q3 _, q1 _, q1 _, q1 _, q2 10, q2 11, q1 _, q1 _, q1 _, q1 _, q1 _, q1 _, q2 12, q1 _, q2 13, q2 14, q2 15, q2 16, q1 _, q2 17, q1 _, q2 18, q2 19, q2 20, q2 21, q2 22, q1 _, q2 23, q2 24, q2 25]), .inl (0, 72, .inl _)]) (And.intro rfl (And.intro rfl (And.intro rfl (And.intro ⟨⟨_, rfl⟩, rfl⟩ ?_))))))
          refine Exists.intro _ (Exists.intro _ (Exists.intro _ (Exists.intro _ (Exists.intro _ (Exists.intro _ (Exists.intro _ (Exists.intro _ (Exists.intro _ (Exists.intro _ (Exists.intro _ (Exists.intro _ (Exists.intro _ (Exists.intro _ (Exists.intro _ (Exists.intro _ (Exists.intro _ (Exists.intro _ (Exists.intro _ (Exists.intro _ (Exists.intro _ (And.intro rfl (And.intro rfl (And.intro (by first | omega | assumption | exact q_rg_up (by assumption) (by omega) | exact q_rg_up (q_rg_up (by assumption) (by omega)) (by omega) | exact q_rg_cpy (by assumption) (by assumption)) (?_))))))))))))))))))))))))
          intro z31
          apply And.intro
          · intro h34
            intro z52 h52
            first | replace h52 := e_add h52 (by omega) | replace h52 := e_rng h52
            exact ⟨_, ⟨_, _, _, rfl, rfl, rfl, rfl, (by first | omega | assumption | exact q_rg_up (by assumption) (by omega) | exact q_rg_up (q_rg_up (by assumption) (by omega)) (by omega) | exact q_rg_cpy (by assumption) (by assumption))⟩, by omega⟩
          · intro h34
            intro z37 h37
            first | replace h37 := e_add h37 (by omega) | replace h37 := e_rng h37
            apply And.intro
            · intro h42
              intro z52 h52
              first | replace h52 := e_add h52 (by omega) | replace h52 := e_rng h52
              exact ⟨_, ⟨_, _, _, rfl, rfl, rfl, rfl, (by first | omega | assumption | exact q_rg_up (by assumption) (by omega) | exact q_rg_up (q_rg_up (by assumption) (by omega)) (by omega) | exact q_rg_cpy (by assumption) (by assumption))⟩, by omega⟩
            · intro h42
              intro z52 h52
              first | replace h52 := e_add h52 (by omega) | replace h52 := e_rng h52
              exact ⟨_, ⟨_, _, _, rfl, rfl, rfl, rfl, (by first | omega | assumption | exact q_rg_up (by assumption) (by omega) | exact q_rg_up (q_rg_up (by assumption) (by omega)) (by omega) | exact q_rg_cpy (by assumption) (by assumption))⟩, by omega⟩
    simp only [I_X12_exact, h7, if_false] at hI
  rintro lv st w' ⟨rfl, rfl, rfl⟩
  exact ⟨_, _, _, _, rfl, rfl, rfl, rfl, (by first | omega | assumption | exact q_rg_up (by assumption) (by omega) | exact q_rg_up (q_rg_up (by assumption) (by omega)) (by omega) | exact q_rg_cpy (by assumption) (by assumption))⟩

theorem dX12_fairOf_0 : decode cX12_fairOf 0 = .ok (.aload_n 0, 1) := by decide +kernel
theorem dX12_fairOf_1 : decode cX12_fairOf 1 = .ok (.sipush 255, 3) := by decide +kernel
theorem dX12_fairOf_4 : decode cX12_fairOf 4 = .ok (.invokevirtual 437, 3) := by decide +kernel
theorem dX12_fairOf_7 : decode cX12_fairOf 7 = .ok (.istore_n 2, 1) := by decide +kernel
theorem dX12_fairOf_8 : decode cX12_fairOf 8 = .ok (.iload_n 2, 1) := by decide +kernel
theorem dX12_fairOf_9 : decode cX12_fairOf 9 = .ok (.aload_n 0, 1) := by decide +kernel
theorem dX12_fairOf_10 : decode cX12_fairOf 10 = .ok (.invokevirtual 440, 3) := by decide +kernel
theorem dX12_fairOf_13 : decode cX12_fairOf 13 = .ok (.if_icmp .lt 7, 3) := by decide +kernel
theorem dX12_fairOf_16 : decode cX12_fairOf 16 = .ok (.iload_n 2, 1) := by decide +kernel
theorem dX12_fairOf_17 : decode cX12_fairOf 17 = .ok (.ifCond .ne 5, 3) := by decide +kernel
theorem dX12_fairOf_20 : decode cX12_fairOf 20 = .ok (.iconst 0, 1) := by decide +kernel
theorem dX12_fairOf_21 : decode cX12_fairOf 21 = .ok (.ireturn, 1) := by decide +kernel
theorem dX12_fairOf_22 : decode cX12_fairOf 22 = .ok (.aload_n 0, 1) := by decide +kernel
theorem dX12_fairOf_23 : decode cX12_fairOf 23 = .ok (.invokevirtual 440, 3) := by decide +kernel
theorem dX12_fairOf_26 : decode cX12_fairOf 26 = .ok (.istore_n 3, 1) := by decide +kernel
theorem dX12_fairOf_27 : decode cX12_fairOf 27 = .ok (.iconst 0, 1) := by decide +kernel
theorem dX12_fairOf_28 : decode cX12_fairOf 28 = .ok (.istore 4, 2) := by decide +kernel
theorem dX12_fairOf_30 : decode cX12_fairOf 30 = .ok (.iload 4, 2) := by decide +kernel
theorem dX12_fairOf_32 : decode cX12_fairOf 32 = .ok (.bipush 8, 2) := by decide +kernel
theorem dX12_fairOf_34 : decode cX12_fairOf 34 = .ok (.if_icmp .ge 39, 3) := by decide +kernel
theorem dX12_fairOf_37 : decode cX12_fairOf 37 = .ok (.aload_n 0, 1) := by decide +kernel
theorem dX12_fairOf_38 : decode cX12_fairOf 38 = .ok (.getfield 59, 3) := by decide +kernel
theorem dX12_fairOf_41 : decode cX12_fairOf 41 = .ok (.iload 4, 2) := by decide +kernel
theorem dX12_fairOf_43 : decode cX12_fairOf 43 = .ok (.aload_n 0, 1) := by decide +kernel
theorem dX12_fairOf_44 : decode cX12_fairOf 44 = .ok (.iload 4, 2) := by decide +kernel
theorem dX12_fairOf_46 : decode cX12_fairOf 46 = .ok (.invokevirtual 431, 3) := by decide +kernel
theorem dX12_fairOf_49 : decode cX12_fairOf 49 = .ok (.aload_n 0, 1) := by decide +kernel
theorem dX12_fairOf_50 : decode cX12_fairOf 50 = .ok (.invokevirtual 440, 3) := by decide +kernel
theorem dX12_fairOf_53 : decode cX12_fairOf 53 = .ok (.imul, 1) := by decide +kernel
theorem dX12_fairOf_54 : decode cX12_fairOf 54 = .ok (.iload_n 2, 1) := by decide +kernel
theorem dX12_fairOf_55 : decode cX12_fairOf 55 = .ok (.idiv, 1) := by decide +kernel
theorem dX12_fairOf_56 : decode cX12_fairOf 56 = .ok (.iastore, 1) := by decide +kernel
theorem dX12_fairOf_57 : decode cX12_fairOf 57 = .ok (.iload_n 3, 1) := by decide +kernel
theorem dX12_fairOf_58 : decode cX12_fairOf 58 = .ok (.aload_n 0, 1) := by decide +kernel
theorem dX12_fairOf_59 : decode cX12_fairOf 59 = .ok (.getfield 59, 3) := by decide +kernel
theorem dX12_fairOf_62 : decode cX12_fairOf 62 = .ok (.iload 4, 2) := by decide +kernel
theorem dX12_fairOf_64 : decode cX12_fairOf 64 = .ok (.iaload, 1) := by decide +kernel
theorem dX12_fairOf_65 : decode cX12_fairOf 65 = .ok (.isub, 1) := by decide +kernel
theorem dX12_fairOf_66 : decode cX12_fairOf 66 = .ok (.istore_n 3, 1) := by decide +kernel
theorem dX12_fairOf_67 : decode cX12_fairOf 67 = .ok (.iinc 4 1, 3) := by decide +kernel
theorem dX12_fairOf_70 : decode cX12_fairOf 70 = .ok (.goto (-40), 3) := by decide +kernel
theorem dX12_fairOf_73 : decode cX12_fairOf 73 = .ok (.iconst 0, 1) := by decide +kernel
theorem dX12_fairOf_74 : decode cX12_fairOf 74 = .ok (.istore 4, 2) := by decide +kernel
theorem dX12_fairOf_76 : decode cX12_fairOf 76 = .ok (.iload 4, 2) := by decide +kernel
theorem dX12_fairOf_78 : decode cX12_fairOf 78 = .ok (.bipush 8, 2) := by decide +kernel
theorem dX12_fairOf_80 : decode cX12_fairOf 80 = .ok (.if_icmp .ge 110, 3) := by decide +kernel
theorem dX12_fairOf_83 : decode cX12_fairOf 83 = .ok (.iconst 0, 1) := by decide +kernel
theorem dX12_fairOf_84 : decode cX12_fairOf 84 = .ok (.istore 5, 2) := by decide +kernel
theorem dX12_fairOf_86 : decode cX12_fairOf 86 = .ok (.aload_n 0, 1) := by decide +kernel
theorem dX12_fairOf_87 : decode cX12_fairOf 87 = .ok (.iload 4, 2) := by decide +kernel
theorem dX12_fairOf_89 : decode cX12_fairOf 89 = .ok (.invokevirtual 431, 3) := by decide +kernel
theorem dX12_fairOf_92 : decode cX12_fairOf 92 = .ok (.aload_n 0, 1) := by decide +kernel
theorem dX12_fairOf_93 : decode cX12_fairOf 93 = .ok (.invokevirtual 440, 3) := by decide +kernel
theorem dX12_fairOf_96 : decode cX12_fairOf 96 = .ok (.imul, 1) := by decide +kernel
theorem dX12_fairOf_97 : decode cX12_fairOf 97 = .ok (.iload_n 2, 1) := by decide +kernel
theorem dX12_fairOf_98 : decode cX12_fairOf 98 = .ok (.irem, 1) := by decide +kernel
theorem dX12_fairOf_99 : decode cX12_fairOf 99 = .ok (.istore 6, 2) := by decide +kernel
theorem dX12_fairOf_101 : decode cX12_fairOf 101 = .ok (.iconst 0, 1) := by decide +kernel
theorem dX12_fairOf_102 : decode cX12_fairOf 102 = .ok (.istore 7, 2) := by decide +kernel
theorem dX12_fairOf_104 : decode cX12_fairOf 104 = .ok (.iload 7, 2) := by decide +kernel
theorem dX12_fairOf_106 : decode cX12_fairOf 106 = .ok (.bipush 8, 2) := by decide +kernel
theorem dX12_fairOf_108 : decode cX12_fairOf 108 = .ok (.if_icmp .ge 55, 3) := by decide +kernel
theorem dX12_fairOf_111 : decode cX12_fairOf 111 = .ok (.aload_n 0, 1) := by decide +kernel
theorem dX12_fairOf_112 : decode cX12_fairOf 112 = .ok (.iload 7, 2) := by decide +kernel
theorem dX12_fairOf_114 : decode cX12_fairOf 114 = .ok (.invokevirtual 431, 3) := by decide +kernel
theorem dX12_fairOf_117 : decode cX12_fairOf 117 = .ok (.aload_n 0, 1) := by decide +kernel
theorem dX12_fairOf_118 : decode cX12_fairOf 118 = .ok (.invokevirtual 440, 3) := by decide +kernel
theorem dX12_fairOf_121 : decode cX12_fairOf 121 = .ok (.imul, 1) := by decide +kernel
theorem dX12_fairOf_122 : decode cX12_fairOf 122 = .ok (.iload_n 2, 1) := by decide +kernel
theorem dX12_fairOf_123 : decode cX12_fairOf 123 = .ok (.irem, 1) := by decide +kernel
theorem dX12_fairOf_124 : decode cX12_fairOf 124 = .ok (.istore 8, 2) := by decide +kernel
theorem dX12_fairOf_126 : decode cX12_fairOf 126 = .ok (.iload 5, 2) := by decide +kernel
theorem dX12_fairOf_128 : decode cX12_fairOf 128 = .ok (.iload 8, 2) := by decide +kernel
theorem dX12_fairOf_130 : decode cX12_fairOf 130 = .ok (.iload 6, 2) := by decide +kernel
theorem dX12_fairOf_132 : decode cX12_fairOf 132 = .ok (.if_icmp .gt 17, 3) := by decide +kernel
theorem dX12_fairOf_135 : decode cX12_fairOf 135 = .ok (.iload 8, 2) := by decide +kernel
theorem dX12_fairOf_137 : decode cX12_fairOf 137 = .ok (.iload 6, 2) := by decide +kernel
theorem dX12_fairOf_139 : decode cX12_fairOf 139 = .ok (.if_icmp .ne 14, 3) := by decide +kernel
theorem dX12_fairOf_142 : decode cX12_fairOf 142 = .ok (.iload 7, 2) := by decide +kernel
theorem dX12_fairOf_144 : decode cX12_fairOf 144 = .ok (.iload 4, 2) := by decide +kernel
theorem dX12_fairOf_146 : decode cX12_fairOf 146 = .ok (.if_icmp .ge 7, 3) := by decide +kernel
theorem dX12_fairOf_149 : decode cX12_fairOf 149 = .ok (.iconst 1, 1) := by decide +kernel
theorem dX12_fairOf_150 : decode cX12_fairOf 150 = .ok (.goto 4, 3) := by decide +kernel
theorem dX12_fairOf_153 : decode cX12_fairOf 153 = .ok (.iconst 0, 1) := by decide +kernel
theorem dX12_fairOf_154 : decode cX12_fairOf 154 = .ok (.iadd, 1) := by decide +kernel
theorem dX12_fairOf_155 : decode cX12_fairOf 155 = .ok (.istore 5, 2) := by decide +kernel
theorem dX12_fairOf_157 : decode cX12_fairOf 157 = .ok (.iinc 7 1, 3) := by decide +kernel
theorem dX12_fairOf_160 : decode cX12_fairOf 160 = .ok (.goto (-56), 3) := by decide +kernel
theorem dX12_fairOf_163 : decode cX12_fairOf 163 = .ok (.aload_n 0, 1) := by decide +kernel
theorem dX12_fairOf_164 : decode cX12_fairOf 164 = .ok (.getfield 59, 3) := by decide +kernel
theorem dX12_fairOf_167 : decode cX12_fairOf 167 = .ok (.iload 4, 2) := by decide +kernel
theorem dX12_fairOf_169 : decode cX12_fairOf 169 = .ok (.dup2, 1) := by decide +kernel
theorem dX12_fairOf_170 : decode cX12_fairOf 170 = .ok (.iaload, 1) := by decide +kernel
theorem dX12_fairOf_171 : decode cX12_fairOf 171 = .ok (.iload 5, 2) := by decide +kernel
theorem dX12_fairOf_173 : decode cX12_fairOf 173 = .ok (.iload_n 3, 1) := by decide +kernel
theorem dX12_fairOf_174 : decode cX12_fairOf 174 = .ok (.if_icmp .ge 7, 3) := by decide +kernel
theorem dX12_fairOf_177 : decode cX12_fairOf 177 = .ok (.iconst 1, 1) := by decide +kernel
theorem dX12_fairOf_178 : decode cX12_fairOf 178 = .ok (.goto 4, 3) := by decide +kernel
theorem dX12_fairOf_181 : decode cX12_fairOf 181 = .ok (.iconst 0, 1) := by decide +kernel
theorem dX12_fairOf_182 : decode cX12_fairOf 182 = .ok (.iadd, 1) := by decide +kernel
theorem dX12_fairOf_183 : decode cX12_fairOf 183 = .ok (.iastore, 1) := by decide +kernel
theorem dX12_fairOf_184 : decode cX12_fairOf 184 = .ok (.iinc 4 1, 3) := by decide +kernel
theorem dX12_fairOf_187 : decode cX12_fairOf 187 = .ok (.goto (-111), 3) := by decide +kernel
theorem dX12_fairOf_190 : decode cX12_fairOf 190 = .ok (.aload_n 0, 1) := by decide +kernel
theorem dX12_fairOf_191 : decode cX12_fairOf 191 = .ok (.getfield 59, 3) := by decide +kernel
theorem dX12_fairOf_194 : decode cX12_fairOf 194 = .ok (.iload_n 1, 1) := by decide +kernel
theorem dX12_fairOf_195 : decode cX12_fairOf 195 = .ok (.iaload, 1) := by decide +kernel
theorem dX12_fairOf_196 : decode cX12_fairOf 196 = .ok (.ireturn, 1) := by decide +kernel
def is_X12_fairOf : Nat → List Nat := fun d => if d = 30 then [0, 1, 2, 3, 4] else if d = 76 then [0, 1, 2, 3, 4] else if d = 104 then [0, 1, 2, 3, 4, 5, 6, 7] else []
set_option maxRecDepth 100000 in
def b_X12_fairOf_182 (J : Nat → List qV → List qV → qW → Prop) (Q : qR) : qK := x_iadd (x_iast (x_nw (x_iinc 4 1 (x_cut [0, 1, 2, 3, 4] (J 76)))))
set_option maxRecDepth 100000 in
theorem s_X12_fairOf_182 {p : Program} {l : Launch} {e : Env} {R : Room} {s : State} {m : MethodId} {args : Array Value} {below : List Frame} {meth : Method} {c : Code} {nW : Nat} {dC : Nat → ClassId} {dI : Nat → Nat → Nat} {k : Nat → ClassId} {g : Nat → Nat} {A : Nat → Prop} {J : Nat → List qV → List qV → qW → Prop} {Q : qR} (X : q_X p R s m args meth c cX12_fairOf 9 nW 2 44 RX12 (some .int) dC dI k g A) (hJ : ∀ d : Nat, q_Sd p l e R s m args below meth c 9 nW dC dI k g A (MQ below (q_post (dC, dI) k g nW Q A) args s 0 0 A) d (x_cut (is_X12_fairOf d) (J d))) : q_Sd p l e R s m args below meth c 9 nW dC dI k g A (MQ below (q_post (dC, dI) k g nW Q A) args s 0 0 A) 182 (b_X12_fairOf_182 J Q) := by
  unfold b_X12_fairOf_182
  refine s_iadd X dX12_fairOf_182 ?_
  refine s_iast X dX12_fairOf_183 ?_
  refine s_nw ?_
  refine s_iinc X (by decide) dX12_fairOf_184 ?_
  refine s_goto X (tgt := 76) dX12_fairOf_187 (by decide) ?_
  exact hJ 76
set_option maxRecDepth 100000 in
def b_X12_fairOf_154 (J : Nat → List qV → List qV → qW → Prop) (Q : qR) : qK := x_iadd (x_istore 5 (x_iinc 7 1 (x_cut [0, 1, 2, 3, 4, 5, 6, 7] (J 104))))
set_option maxRecDepth 100000 in
theorem s_X12_fairOf_154 {p : Program} {l : Launch} {e : Env} {R : Room} {s : State} {m : MethodId} {args : Array Value} {below : List Frame} {meth : Method} {c : Code} {nW : Nat} {dC : Nat → ClassId} {dI : Nat → Nat → Nat} {k : Nat → ClassId} {g : Nat → Nat} {A : Nat → Prop} {J : Nat → List qV → List qV → qW → Prop} {Q : qR} (X : q_X p R s m args meth c cX12_fairOf 9 nW 2 44 RX12 (some .int) dC dI k g A) (hJ : ∀ d : Nat, q_Sd p l e R s m args below meth c 9 nW dC dI k g A (MQ below (q_post (dC, dI) k g nW Q A) args s 0 0 A) d (x_cut (is_X12_fairOf d) (J d))) : q_Sd p l e R s m args below meth c 9 nW dC dI k g A (MQ below (q_post (dC, dI) k g nW Q A) args s 0 0 A) 154 (b_X12_fairOf_154 J Q) := by
  unfold b_X12_fairOf_154
  refine s_iadd X dX12_fairOf_154 ?_
  refine s_istore X (by decide) dX12_fairOf_155 ?_
  refine s_iinc X (by decide) dX12_fairOf_157 ?_
  refine s_goto X (tgt := 104) dX12_fairOf_160 (by decide) ?_
  exact hJ 104
set_option maxRecDepth 100000 in
def b_X12_fairOf_153 (J : Nat → List qV → List qV → qW → Prop) (Q : qR) : qK := x_int 0 (b_X12_fairOf_154 J Q)
set_option maxRecDepth 100000 in
theorem s_X12_fairOf_153 {p : Program} {l : Launch} {e : Env} {R : Room} {s : State} {m : MethodId} {args : Array Value} {below : List Frame} {meth : Method} {c : Code} {nW : Nat} {dC : Nat → ClassId} {dI : Nat → Nat → Nat} {k : Nat → ClassId} {g : Nat → Nat} {A : Nat → Prop} {J : Nat → List qV → List qV → qW → Prop} {Q : qR} (X : q_X p R s m args meth c cX12_fairOf 9 nW 2 44 RX12 (some .int) dC dI k g A) (hJ : ∀ d : Nat, q_Sd p l e R s m args below meth c 9 nW dC dI k g A (MQ below (q_post (dC, dI) k g nW Q A) args s 0 0 A) d (x_cut (is_X12_fairOf d) (J d))) : q_Sd p l e R s m args below meth c 9 nW dC dI k g A (MQ below (q_post (dC, dI) k g nW Q A) args s 0 0 A) 153 (b_X12_fairOf_153 J Q) := by
  unfold b_X12_fairOf_153
  refine s_iconst X ⟨by decide, by decide⟩ dX12_fairOf_153 ?_
  exact s_X12_fairOf_154 X hJ
set_option maxRecDepth 100000 in
def b_X12_fairOf_149 (J : Nat → List qV → List qV → qW → Prop) (Q : qR) : qK := x_int 1 (b_X12_fairOf_154 J Q)
set_option maxRecDepth 100000 in
theorem s_X12_fairOf_149 {p : Program} {l : Launch} {e : Env} {R : Room} {s : State} {m : MethodId} {args : Array Value} {below : List Frame} {meth : Method} {c : Code} {nW : Nat} {dC : Nat → ClassId} {dI : Nat → Nat → Nat} {k : Nat → ClassId} {g : Nat → Nat} {A : Nat → Prop} {J : Nat → List qV → List qV → qW → Prop} {Q : qR} (X : q_X p R s m args meth c cX12_fairOf 9 nW 2 44 RX12 (some .int) dC dI k g A) (hJ : ∀ d : Nat, q_Sd p l e R s m args below meth c 9 nW dC dI k g A (MQ below (q_post (dC, dI) k g nW Q A) args s 0 0 A) d (x_cut (is_X12_fairOf d) (J d))) : q_Sd p l e R s m args below meth c 9 nW dC dI k g A (MQ below (q_post (dC, dI) k g nW Q A) args s 0 0 A) 149 (b_X12_fairOf_149 J Q) := by
  unfold b_X12_fairOf_149
  refine s_iconst X ⟨by decide, by decide⟩ dX12_fairOf_149 ?_
  refine s_goto X (tgt := 154) dX12_fairOf_150 (by decide) ?_
  exact s_X12_fairOf_154 X hJ
set_option maxRecDepth 100000 in
def b_X12_fairOf_104 (J : Nat → List qV → List qV → qW → Prop) (Q : qR) : qK := x_iload 7 (x_int 8 (x_icmp_ge (x_aload 0 (x_get 12 34 (x_iload 4 (x_dup2 (x_iald (x_iload 5 (x_iload 3 (x_icmp_ge (x_int 0 (b_X12_fairOf_182 J Q)) (x_int 1 (b_X12_fairOf_182 J Q)))))))))) (x_aload 0 (x_iload 7 (x_callr (some 12) 2 spr_X12_got (x_aload 0 (x_callr (some 12) 1 spr_X12_owed (x_imul (x_iload 2 (x_irem (x_istore 8 (x_iload 5 (x_iload 8 (x_iload 6 (x_icmp_gt (b_X12_fairOf_149 J Q) (x_iload 8 (x_iload 6 (x_icmp_ne (b_X12_fairOf_153 J Q) (x_iload 7 (x_iload 4 (x_icmp_ge (b_X12_fairOf_153 J Q) (b_X12_fairOf_149 J Q))))))))))))))))))))))
set_option maxRecDepth 100000 in
theorem s_X12_fairOf_104 {p : Program} {l : Launch} {e : Env} {R : Room} {s : State} {m : MethodId} {args : Array Value} {below : List Frame} {meth : Method} {c : Code} {nW : Nat} {dC : Nat → ClassId} {dI : Nat → Nat → Nat} {k : Nat → ClassId} {g : Nat → Nat} {A : Nat → Prop} {J : Nat → List qV → List qV → qW → Prop} {Q : qR} (X : q_X p R s m args meth c cX12_fairOf 9 nW 2 44 RX12 (some .int) dC dI k g A) (hJ : ∀ d : Nat, q_Sd p l e R s m args below meth c 9 nW dC dI k g A (MQ below (q_post (dC, dI) k g nW Q A) args s 0 0 A) d (x_cut (is_X12_fairOf d) (J d))) : q_Sd p l e R s m args below meth c 9 nW dC dI k g A (MQ below (q_post (dC, dI) k g nW Q A) args s 0 0 A) 104 (b_X12_fairOf_104 J Q) := by
  unfold b_X12_fairOf_104
  refine s_iload X dX12_fairOf_104 ?_
  refine s_bipush X ⟨by decide, by decide⟩ (by decide) dX12_fairOf_106 ?_
  refine s_icmp_ge X (tgt := 163) dX12_fairOf_108 (by decide) ?_ ?_
  · refine s_aload_n X rfl dX12_fairOf_163 ?_
    refine s_get X (T := TX12) (C := RX12) (N := 45) tu_X12 rfl (by decide) tw_1031 dX12_fairOf_164 ?_
    refine s_iload X dX12_fairOf_167 ?_
    refine s_dup2 X dX12_fairOf_169 ?_
    refine s_iald X dX12_fairOf_170 ?_
    refine s_iload X dX12_fairOf_171 ?_
    refine s_iload_n X rfl dX12_fairOf_173 ?_
    refine s_icmp_ge X (tgt := 181) dX12_fairOf_174 (by decide) ?_ ?_
    · refine s_iconst X ⟨by decide, by decide⟩ dX12_fairOf_181 ?_
      exact s_X12_fairOf_182 X hJ
    · refine s_iconst X ⟨by decide, by decide⟩ dX12_fairOf_177 ?_
      refine s_goto X (tgt := 182) dX12_fairOf_178 (by decide) ?_
      exact s_X12_fairOf_182 X hJ
  · refine s_aload_n X rfl dX12_fairOf_111 ?_
    refine s_iload X dX12_fairOf_112 ?_
    refine s_callVr X (m_X12_got l) tw_1350 tw_1351 tw_1583 tw_134 tw_1352 rfl (by decide +kernel) ⟨by decide, by decide⟩ dX12_fairOf_114 ?_
    refine s_aload_n X rfl dX12_fairOf_117 ?_
    refine s_callVr X (m_X12_owed l) tw_1359 tw_1360 tw_1605 tw_134 tw_1361 rfl (by decide +kernel) ⟨by decide, by decide⟩ dX12_fairOf_118 ?_
    refine s_imul X dX12_fairOf_121 ?_
    refine s_iload_n X rfl dX12_fairOf_122 ?_
    refine s_irem X dX12_fairOf_123 ?_
    refine s_istore X (by decide) dX12_fairOf_124 ?_
    refine s_iload X dX12_fairOf_126 ?_
    refine s_iload X dX12_fairOf_128 ?_
    refine s_iload X dX12_fairOf_130 ?_
    refine s_icmp_gt X (tgt := 149) dX12_fairOf_132 (by decide) ?_ ?_
    · exact s_X12_fairOf_149 X hJ
    · refine s_iload X dX12_fairOf_135 ?_
      refine s_iload X dX12_fairOf_137 ?_
      refine s_icmp_ne X (tgt := 153) dX12_fairOf_139 (by decide) ?_ ?_
      · exact s_X12_fairOf_153 X hJ
      · refine s_iload X dX12_fairOf_142 ?_
        refine s_iload X dX12_fairOf_144 ?_
        refine s_icmp_ge X (tgt := 153) dX12_fairOf_146 (by decide) ?_ ?_
        · exact s_X12_fairOf_153 X hJ
        · exact s_X12_fairOf_149 X hJ
set_option maxRecDepth 100000 in
def b_X12_fairOf_76 (J : Nat → List qV → List qV → qW → Prop) (Q : qR) : qK := x_iload 4 (x_int 8 (x_icmp_ge (x_aload 0 (x_get 12 34 (x_iload 1 (x_iald (x_iret Q))))) (x_int 0 (x_istore 5 (x_aload 0 (x_iload 4 (x_callr (some 12) 2 spr_X12_got (x_aload 0 (x_callr (some 12) 1 spr_X12_owed (x_imul (x_iload 2 (x_irem (x_istore 6 (x_int 0 (x_istore 7 (x_cut [0, 1, 2, 3, 4, 5, 6, 7] (J 104)))))))))))))))))
set_option maxRecDepth 100000 in
theorem s_X12_fairOf_76 {p : Program} {l : Launch} {e : Env} {R : Room} {s : State} {m : MethodId} {args : Array Value} {below : List Frame} {meth : Method} {c : Code} {nW : Nat} {dC : Nat → ClassId} {dI : Nat → Nat → Nat} {k : Nat → ClassId} {g : Nat → Nat} {A : Nat → Prop} {J : Nat → List qV → List qV → qW → Prop} {Q : qR} (X : q_X p R s m args meth c cX12_fairOf 9 nW 2 44 RX12 (some .int) dC dI k g A) (hJ : ∀ d : Nat, q_Sd p l e R s m args below meth c 9 nW dC dI k g A (MQ below (q_post (dC, dI) k g nW Q A) args s 0 0 A) d (x_cut (is_X12_fairOf d) (J d))) : q_Sd p l e R s m args below meth c 9 nW dC dI k g A (MQ below (q_post (dC, dI) k g nW Q A) args s 0 0 A) 76 (b_X12_fairOf_76 J Q) := by
  unfold b_X12_fairOf_76
  refine s_iload X dX12_fairOf_76 ?_
  refine s_bipush X ⟨by decide, by decide⟩ (by decide) dX12_fairOf_78 ?_
  refine s_icmp_ge X (tgt := 190) dX12_fairOf_80 (by decide) ?_ ?_
  · refine s_aload_n X rfl dX12_fairOf_190 ?_
    refine s_get X (T := TX12) (C := RX12) (N := 45) tu_X12 rfl (by decide) tw_1031 dX12_fairOf_191 ?_
    refine s_iload_n X rfl dX12_fairOf_194 ?_
    refine s_iald X dX12_fairOf_195 ?_
    exact s_iret X dX12_fairOf_196
  · refine s_iconst X ⟨by decide, by decide⟩ dX12_fairOf_83 ?_
    refine s_istore X (by decide) dX12_fairOf_84 ?_
    refine s_aload_n X rfl dX12_fairOf_86 ?_
    refine s_iload X dX12_fairOf_87 ?_
    refine s_callVr X (m_X12_got l) tw_1350 tw_1351 tw_1583 tw_134 tw_1352 rfl (by decide +kernel) ⟨by decide, by decide⟩ dX12_fairOf_89 ?_
    refine s_aload_n X rfl dX12_fairOf_92 ?_
    refine s_callVr X (m_X12_owed l) tw_1359 tw_1360 tw_1605 tw_134 tw_1361 rfl (by decide +kernel) ⟨by decide, by decide⟩ dX12_fairOf_93 ?_
    refine s_imul X dX12_fairOf_96 ?_
    refine s_iload_n X rfl dX12_fairOf_97 ?_
    refine s_irem X dX12_fairOf_98 ?_
    refine s_istore X (by decide) dX12_fairOf_99 ?_
    refine s_iconst X ⟨by decide, by decide⟩ dX12_fairOf_101 ?_
    refine s_istore X (by decide) dX12_fairOf_102 ?_
    exact hJ 104
set_option maxRecDepth 100000 in
def b_X12_fairOf_73 (J : Nat → List qV → List qV → qW → Prop) (Q : qR) : qK := x_int 0 (x_istore 4 (x_cut [0, 1, 2, 3, 4] (J 76)))
set_option maxRecDepth 100000 in
theorem s_X12_fairOf_73 {p : Program} {l : Launch} {e : Env} {R : Room} {s : State} {m : MethodId} {args : Array Value} {below : List Frame} {meth : Method} {c : Code} {nW : Nat} {dC : Nat → ClassId} {dI : Nat → Nat → Nat} {k : Nat → ClassId} {g : Nat → Nat} {A : Nat → Prop} {J : Nat → List qV → List qV → qW → Prop} {Q : qR} (X : q_X p R s m args meth c cX12_fairOf 9 nW 2 44 RX12 (some .int) dC dI k g A) (hJ : ∀ d : Nat, q_Sd p l e R s m args below meth c 9 nW dC dI k g A (MQ below (q_post (dC, dI) k g nW Q A) args s 0 0 A) d (x_cut (is_X12_fairOf d) (J d))) : q_Sd p l e R s m args below meth c 9 nW dC dI k g A (MQ below (q_post (dC, dI) k g nW Q A) args s 0 0 A) 73 (b_X12_fairOf_73 J Q) := by
  unfold b_X12_fairOf_73
  refine s_iconst X ⟨by decide, by decide⟩ dX12_fairOf_73 ?_
  refine s_istore X (by decide) dX12_fairOf_74 ?_
  exact hJ 76
set_option maxRecDepth 100000 in
def b_X12_fairOf_30 (J : Nat → List qV → List qV → qW → Prop) (Q : qR) : qK := x_iload 4 (x_int 8 (x_icmp_ge (b_X12_fairOf_73 J Q) (x_aload 0 (x_get 12 34 (x_iload 4 (x_aload 0 (x_iload 4 (x_callr (some 12) 2 spr_X12_got (x_aload 0 (x_callr (some 12) 1 spr_X12_owed (x_imul (x_iload 2 (x_idiv (x_iast (x_nw (x_iload 3 (x_aload 0 (x_get 12 34 (x_iload 4 (x_iald (x_isub (x_istore 3 (x_iinc 4 1 (x_cut [0, 1, 2, 3, 4] (J 30)))))))))))))))))))))))))
set_option maxRecDepth 100000 in
theorem s_X12_fairOf_30 {p : Program} {l : Launch} {e : Env} {R : Room} {s : State} {m : MethodId} {args : Array Value} {below : List Frame} {meth : Method} {c : Code} {nW : Nat} {dC : Nat → ClassId} {dI : Nat → Nat → Nat} {k : Nat → ClassId} {g : Nat → Nat} {A : Nat → Prop} {J : Nat → List qV → List qV → qW → Prop} {Q : qR} (X : q_X p R s m args meth c cX12_fairOf 9 nW 2 44 RX12 (some .int) dC dI k g A) (hJ : ∀ d : Nat, q_Sd p l e R s m args below meth c 9 nW dC dI k g A (MQ below (q_post (dC, dI) k g nW Q A) args s 0 0 A) d (x_cut (is_X12_fairOf d) (J d))) : q_Sd p l e R s m args below meth c 9 nW dC dI k g A (MQ below (q_post (dC, dI) k g nW Q A) args s 0 0 A) 30 (b_X12_fairOf_30 J Q) := by
  unfold b_X12_fairOf_30
  refine s_iload X dX12_fairOf_30 ?_
  refine s_bipush X ⟨by decide, by decide⟩ (by decide) dX12_fairOf_32 ?_
  refine s_icmp_ge X (tgt := 73) dX12_fairOf_34 (by decide) ?_ ?_
  · exact s_X12_fairOf_73 X hJ
  · refine s_aload_n X rfl dX12_fairOf_37 ?_
    refine s_get X (T := TX12) (C := RX12) (N := 45) tu_X12 rfl (by decide) tw_1031 dX12_fairOf_38 ?_
    refine s_iload X dX12_fairOf_41 ?_
    refine s_aload_n X rfl dX12_fairOf_43 ?_
    refine s_iload X dX12_fairOf_44 ?_
    refine s_callVr X (m_X12_got l) tw_1350 tw_1351 tw_1583 tw_134 tw_1352 rfl (by decide +kernel) ⟨by decide, by decide⟩ dX12_fairOf_46 ?_
    refine s_aload_n X rfl dX12_fairOf_49 ?_
    refine s_callVr X (m_X12_owed l) tw_1359 tw_1360 tw_1605 tw_134 tw_1361 rfl (by decide +kernel) ⟨by decide, by decide⟩ dX12_fairOf_50 ?_
    refine s_imul X dX12_fairOf_53 ?_
    refine s_iload_n X rfl dX12_fairOf_54 ?_
    refine s_idiv X dX12_fairOf_55 ?_
    refine s_iast X dX12_fairOf_56 ?_
    refine s_nw ?_
    refine s_iload_n X rfl dX12_fairOf_57 ?_
    refine s_aload_n X rfl dX12_fairOf_58 ?_
    refine s_get X (T := TX12) (C := RX12) (N := 45) tu_X12 rfl (by decide) tw_1031 dX12_fairOf_59 ?_
    refine s_iload X dX12_fairOf_62 ?_
    refine s_iald X dX12_fairOf_64 ?_
    refine s_isub X dX12_fairOf_65 ?_
    refine s_istore_n X rfl (by decide) dX12_fairOf_66 ?_
    refine s_iinc X (by decide) dX12_fairOf_67 ?_
    refine s_goto X (tgt := 30) dX12_fairOf_70 (by decide) ?_
    exact hJ 30
set_option maxRecDepth 100000 in
def b_X12_fairOf_20 (J : Nat → List qV → List qV → qW → Prop) (Q : qR) : qK := x_int 0 (x_iret Q)
set_option maxRecDepth 100000 in
theorem s_X12_fairOf_20 {p : Program} {l : Launch} {e : Env} {R : Room} {s : State} {m : MethodId} {args : Array Value} {below : List Frame} {meth : Method} {c : Code} {nW : Nat} {dC : Nat → ClassId} {dI : Nat → Nat → Nat} {k : Nat → ClassId} {g : Nat → Nat} {A : Nat → Prop} {J : Nat → List qV → List qV → qW → Prop} {Q : qR} (X : q_X p R s m args meth c cX12_fairOf 9 nW 2 44 RX12 (some .int) dC dI k g A) (hJ : ∀ d : Nat, q_Sd p l e R s m args below meth c 9 nW dC dI k g A (MQ below (q_post (dC, dI) k g nW Q A) args s 0 0 A) d (x_cut (is_X12_fairOf d) (J d))) : q_Sd p l e R s m args below meth c 9 nW dC dI k g A (MQ below (q_post (dC, dI) k g nW Q A) args s 0 0 A) 20 (b_X12_fairOf_20 J Q) := by
  unfold b_X12_fairOf_20
  refine s_iconst X ⟨by decide, by decide⟩ dX12_fairOf_20 ?_
  exact s_iret X dX12_fairOf_21
set_option maxRecDepth 100000 in
def b_X12_fairOf_0 (J : Nat → List qV → List qV → qW → Prop) (Q : qR) : qK := x_aload 0 (x_int 255 (x_callr (some 12) 2 spr_X12_gotBy (x_istore 2 (x_iload 2 (x_aload 0 (x_callr (some 12) 1 spr_X12_owed (x_icmp_lt (b_X12_fairOf_20 J Q) (x_iload 2 (x_if_ne (x_aload 0 (x_callr (some 12) 1 spr_X12_owed (x_istore 3 (x_int 0 (x_istore 4 (x_cut [0, 1, 2, 3, 4] (J 30))))))) (b_X12_fairOf_20 J Q))))))))))
set_option maxRecDepth 100000 in
theorem s_X12_fairOf_0 {p : Program} {l : Launch} {e : Env} {R : Room} {s : State} {m : MethodId} {args : Array Value} {below : List Frame} {meth : Method} {c : Code} {nW : Nat} {dC : Nat → ClassId} {dI : Nat → Nat → Nat} {k : Nat → ClassId} {g : Nat → Nat} {A : Nat → Prop} {J : Nat → List qV → List qV → qW → Prop} {Q : qR} (X : q_X p R s m args meth c cX12_fairOf 9 nW 2 44 RX12 (some .int) dC dI k g A) (hJ : ∀ d : Nat, q_Sd p l e R s m args below meth c 9 nW dC dI k g A (MQ below (q_post (dC, dI) k g nW Q A) args s 0 0 A) d (x_cut (is_X12_fairOf d) (J d))) : q_Sd p l e R s m args below meth c 9 nW dC dI k g A (MQ below (q_post (dC, dI) k g nW Q A) args s 0 0 A) 0 (b_X12_fairOf_0 J Q) := by
  unfold b_X12_fairOf_0
  refine s_aload_n X rfl dX12_fairOf_0 ?_
  refine s_sipush X ⟨by decide, by decide⟩ (by decide) dX12_fairOf_1 ?_
  refine s_callVr X (m_X12_gotBy l) tw_1356 tw_1357 tw_1584 tw_134 tw_1358 rfl (by decide +kernel) ⟨by decide, by decide⟩ dX12_fairOf_4 ?_
  refine s_istore_n X rfl (by decide) dX12_fairOf_7 ?_
  refine s_iload_n X rfl dX12_fairOf_8 ?_
  refine s_aload_n X rfl dX12_fairOf_9 ?_
  refine s_callVr X (m_X12_owed l) tw_1359 tw_1360 tw_1605 tw_134 tw_1361 rfl (by decide +kernel) ⟨by decide, by decide⟩ dX12_fairOf_10 ?_
  refine s_icmp_lt X (tgt := 20) dX12_fairOf_13 (by decide) ?_ ?_
  · exact s_X12_fairOf_20 X hJ
  · refine s_iload_n X rfl dX12_fairOf_16 ?_
    refine s_if_ne X (tgt := 22) dX12_fairOf_17 (by decide) ?_ ?_
    · refine s_aload_n X rfl dX12_fairOf_22 ?_
      refine s_callVr X (m_X12_owed l) tw_1359 tw_1360 tw_1605 tw_134 tw_1361 rfl (by decide +kernel) ⟨by decide, by decide⟩ dX12_fairOf_23 ?_
      refine s_istore_n X rfl (by decide) dX12_fairOf_26 ?_
      refine s_iconst X ⟨by decide, by decide⟩ dX12_fairOf_27 ?_
      refine s_istore X (by decide) dX12_fairOf_28 ?_
      exact hJ 30
    · exact s_X12_fairOf_20 X hJ

def sp_X12_fairOf : qS := fun av w Q => ∃ (mco : Int) (mre : Int) (mle : Int) (mbe : Int) (mso : Int) (mva : Int) (mwo : Int) (mwr : Int) (mlf : Int) (mlp : Int) (mfp : Int) (mfd : Int) (mgo : Int) (mbo : Int) (mpe : Int) (mye : Int) (mpr : Int) (mld : Int) (msi : Int) (mse : Int) (ls : Nat → Int) (bk : Nat → Int) (a : Int), av = [q2 0, q1 a] ∧ w = [.inr (12, [q1 mco, q2 3, q2 4, q2 5, q2 6, q2 7, q2 8, q2 9, q2 1, q2 10, q1 mre, q1 mle, q1 mbe, q1 mso, q1 mva, q3 mwo, q1 mwr, q1 mlf, q1 mlp, q2 11, q2 12, q1 mfp, q1 mfd, q1 mgo, q1 mbo, q1 mpe, q1 mye, q2 13, q1 mpr, q2 14, q2 15, q2 16, q2 17, q1 mld, q2 2, q1 msi, q2 18, q2 19, q2 20, q2 21, q2 22, q1 mse, q2 23, q2 24, q2 25]), .inl (0, 72, .inl ls), .inl (0, 8, .inl bk)] ∧ (0 ≤ mld ∧ mld ≤ 1) ∧ (0 ≤ a ∧ a ≤ 7) ∧ (∀ (r : Int) (x_bk : Nat → Int), Q (some (q1 r)) ([.inr (12, [q1 mco, q2 3, q2 4, q2 5, q2 6, q2 7, q2 8, q2 9, q2 1, q2 10, q1 mre, q1 mle, q1 mbe, q1 mso, q1 mva, q3 mwo, q1 mwr, q1 mlf, q1 mlp, q2 11, q2 12, q1 mfp, q1 mfd, q1 mgo, q1 mbo, q1 mpe, q1 mye, q2 13, q1 mpr, q2 14, q2 15, q2 16, q2 17, q1 mld, q2 2, q1 msi, q2 18, q2 19, q2 20, q2 21, q2 22, q1 mse, q2 23, q2 24, q2 25]), .inl (0, 72, .inl ls), .inl (0, 8, .inl x_bk)]))
def I_X12_fairOf (mco : Int) (mre : Int) (mle : Int) (mbe : Int) (mso : Int) (mva : Int) (mwo : Int) (mwr : Int) (mlf : Int) (mlp : Int) (mfp : Int) (mfd : Int) (mgo : Int) (mbo : Int) (mpe : Int) (mye : Int) (mpr : Int) (mld : Int) (msi : Int) (mse : Int) (ls : Nat → Int) (bk : Nat → Int) (a : Int) : Nat → Nat → List qV → List qV → qW → Prop := fun dz mz vz sz wz => if dz = 30 then (∃ (y_bk : Nat → Int) (v2 : Int) (v3 : Int) (v4 : Int), vz = [q2 0, q1 a, q1 v2, q1 v3, q1 v4] ∧ sz = [] ∧ wz = [.inr (12, [q1 mco, q2 3, q2 4, q2 5, q2 6, q2 7, q2 8, q2 9, q2 1, q2 10, q1 mre, q1 mle, q1 mbe, q1 mso, q1 mva, q3 mwo, q1 mwr, q1 mlf, q1 mlp, q2 11, q2 12, q1 mfp, q1 mfd, q1 mgo, q1 mbo, q1 mpe, q1 mye, q2 13, q1 mpr, q2 14, q2 15, q2 16, q2 17, q1 mld, q2 2, q1 msi, q2 18, q2 19, q2 20, q2 21, q2 22, q1 mse, q2 23, q2 24, q2 25]), .inl (0, 72, .inl ls), .inl (0, 8, .inl y_bk)] ∧ mz = 10000 + (8 - v4).toNat ∧ (0 ≤ v4 ∧ v4 ≤ 8) ∧ (¬ v2 = 0)) else if dz = 76 then (∃ (y_bk : Nat → Int) (v2 : Int) (v3 : Int) (v4 : Int), vz = [q2 0, q1 a, q1 v2, q1 v3, q1 v4] ∧ sz = [] ∧ wz = [.inr (12, [q1 mco, q2 3, q2 4, q2 5, q2 6, q2 7, q2 8, q2 9, q2 1, q2 10, q1 mre, q1 mle, q1 mbe, q1 mso, q1 mva, q3 mwo, q1 mwr, q1 mlf, q1 mlp, q2 11, q2 12, q1 mfp, q1 mfd, q1 mgo, q1 mbo, q1 mpe, q1 mye, q2 13, q1 mpr, q2 14, q2 15, q2 16, q2 17, q1 mld, q2 2, q1 msi, q2 18, q2 19, q2 20, q2 21, q2 22, q1 mse, q2 23, q2 24, q2 25]), .inl (0, 72, .inl ls), .inl (0, 8, .inl y_bk)] ∧ mz = 100 * (8 - v4).toNat ∧ (0 ≤ v4 ∧ v4 ≤ 8) ∧ (¬ v2 = 0)) else if dz = 104 then (∃ (y_bk : Nat → Int) (v2 : Int) (v3 : Int) (v4 : Int) (v5 : Int) (v6 : Int) (v7 : Int), vz = [q2 0, q1 a, q1 v2, q1 v3, q1 v4, q1 v5, q1 v6, q1 v7] ∧ sz = [] ∧ wz = [.inr (12, [q1 mco, q2 3, q2 4, q2 5, q2 6, q2 7, q2 8, q2 9, q2 1, q2 10, q1 mre, q1 mle, q1 mbe, q1 mso, q1 mva, q3 mwo, q1 mwr, q1 mlf, q1 mlp, q2 11, q2 12, q1 mfp, q1 mfd, q1 mgo, q1 mbo, q1 mpe, q1 mye, q2 13, q1 mpr, q2 14, q2 15, q2 16, q2 17, q1 mld, q2 2, q1 msi, q2 18, q2 19, q2 20, q2 21, q2 22, q1 mse, q2 23, q2 24, q2 25]), .inl (0, 72, .inl ls), .inl (0, 8, .inl y_bk)] ∧ mz = 100 * (8 - v4).toNat - 50 + (8 - v7).toNat ∧ (¬ v2 = 0) ∧ (0 ≤ v4 ∧ v4 ≤ 7 ∧ 0 ≤ v7 ∧ v7 ≤ 8)) else False
set_option maxHeartbeats 4000000 in
set_option maxRecDepth 100000 in
theorem m_X12_fairOf (l : Launch) : q_M l yX12_fairOf cX12_fairOf 9 (some .int) 2 44 sp_X12_fairOf := by
  refine q_meth (by decide) (fun av w Q h => by obtain ⟨mco, mre, mle, mbe, mso, mva, mwo, mwr, mlf, mlp, mfp, mfd, mgo, mbo, mpe, mye, mpr, mld, msi, mse, ls, bk, a, rfl, rfl, hld, ha, hQ⟩ := h; exact Nat.le_of_ble_eq_true rfl) ?_
  intro p e R s m args below meth c dC dI k g A av w Q hsp oka okw X
  obtain ⟨mco, mre, mle, mbe, mso, mva, mwo, mwr, mlf, mlp, mfp, mfd, mgo, mbo, mpe, mye, mpr, mld, msi, mse, ls, bk, a, rfl, rfl, hld, ha, hQ⟩ := hsp
  have o_a : -2147483648 ≤ a ∧ a ≤ 2147483647 := oka _ (List.mem_of_getElem? (i := 1) rfl)
  refine s_mono (s_X12_fairOf_0 X (J := fun dz vz sz wz => ∃ mz, I_X12_fairOf mco mre mle mbe mso mva mwo mwr mlf mlp mfp mfd mgo mbo mpe mye mpr mld msi mse ls bk a dz mz vz sz wz) (q_loopn (I_X12_fairOf mco mre mle mbe mso mva mwo mwr mlf mlp mfp mfd mgo mbo mpe mye mpr mld msi mse ls bk a) (fun dz J => if dz = 30 then b_X12_fairOf_30 J Q else if dz = 76 then b_X12_fairOf_76 J Q else if dz = 104 then b_X12_fairOf_104 J Q else q_F) ?hs ?hv)) ?_
  case hs =>
    intro d J hJ
    by_cases h30 : d = 30
    · subst h30; exact s_X12_fairOf_30 X hJ
    by_cases h76 : d = 76
    · subst h76; exact s_X12_fairOf_76 X hJ
    by_cases h104 : d = 104
    · subst h104; exact s_X12_fairOf_104 X hJ
    simp only [h30, h76, h104, if_false]
    exact s_F
  case hv =>
    intro dz mz vz sz wz hI okv oks okw hlen
    by_cases h30 : dz = 30
    · subst h30
      obtain ⟨y_bk, v2, v3, v4, rfl, rfl, rfl, hn, hp, hal⟩ := hI
      apply And.intro
      · intro h34
        exact ⟨_, ⟨_, _, _, _, rfl, rfl, rfl, rfl, (by first | omega | assumption | exact q_rg_up (by assumption) (by omega) | exact q_rg_up (q_rg_up (by assumption) (by omega)) (by omega) | exact q_rg_cpy (by assumption) (by assumption)), (by first | omega | assumption | exact q_rg_up (by assumption) (by omega) | exact q_rg_up (q_rg_up (by assumption) (by omega)) (by omega) | exact q_rg_cpy (by assumption) (by assumption))⟩, by omega⟩
      · intro h34
        refine Exists.intro [0, 1, 3, 4, 5, 6, 7, 8, 9, 10, 11, 12, 13, 14, 15, 16, 17, 2, 18, 19, 20, 21, 22, 23, 24, 25] (Exists.intro [q2 0, q1 _] (Exists.intro ([.inr (12, [q1 _, q2 2, q2 3, q2 4, q2 5, q2 6, q2 7, q2 8, q2 1, q2 9, q1 _, q1 _, q1 _, q1 _, q1 _, q3 _, q1 _, q1 _, q1 _, q2 10, q2 11, q1 _, q1 _, q1 _, q1 _, q1 _, q1 _, q2 12, q1 _, q2 13, q2 14, q2 15, q2 16, q1 _, q2 17, q1 _, q2 18, q2 19, q2 20, q2 21, q2 22, q1 _, q2 23, q2 24, q2 25]), .inl (0, 72, .inl _)]) (And.intro rfl (And.intro rfl (And.intro rfl (And.intro ⟨⟨_, rfl⟩, rfl⟩ ?_))))))
        refine Exists.intro _ (Exists.intro _ (Exists.intro _ (Exists.intro _ (Exists.intro _ (Exists.intro _ (Exists.intro _ (Exists.intro _ (Exists.intro _ (Exists.intro _ (Exists.intro _ (Exists.intro _ (Exists.intro _ (Exists.intro _ (Exists.intro _ (Exists.intro _ (Exists.intro _ (Exists.intro _ (Exists.intro _ (Exists.intro _ (Exists.intro _ (Exists.intro _ (And.intro rfl (And.intro rfl (And.intro (by first | omega | assumption | exact q_rg_up (by assumption) (by omega) | exact q_rg_up (q_rg_up (by assumption) (by omega)) (by omega) | exact q_rg_cpy (by assumption) (by assumption)) (And.intro (by first | omega | assumption | exact q_rg_up (by assumption) (by omega) | exact q_rg_up (q_rg_up (by assumption) (by omega)) (by omega) | exact q_rg_cpy (by assumption) (by assumption)) (?_))))))))))))))))))))))))))
        intro z46
        refine Exists.intro [0, 1, 3, 4, 5, 6, 7, 8, 9, 10, 11, 12, 13, 14, 15, 16, 17, 2, 18, 19, 20, 21, 22, 23, 24, 25] (Exists.intro [q2 0] (Exists.intro ([.inr (12, [q1 _, q2 2, q2 3, q2 4, q2 5, q2 6, q2 7, q2 8, q2 1, q2 9, q1 _, q1 _, q1 _, q1 _, q1 _, q3 _, q1 _, q1 _, q1 _, q2 10, q2 11, q1 _, q1 _, q1 _, q1 _, q1 _, q1 _, q2 12, q1 _, q2 13, q2 14, q2 15, q2 16, q1 _, q2 17, q1 _, q2 18, q2 19, q2 20, q2 21, q2 22, q1 _, q2 23, q2 24, q2 25]), .inl (0, 72, .inl _)]) (And.intro rfl (And.intro rfl (And.intro rfl (And.intro ⟨⟨_, rfl⟩, rfl⟩ ?_))))))
        refine Exists.intro _ (Exists.intro _ (Exists.intro _ (Exists.intro _ (Exists.intro _ (Exists.intro _ (Exists.intro _ (Exists.intro _ (Exists.intro _ (Exists.intro _ (Exists.intro _ (Exists.intro _ (Exists.intro _ (Exists.intro _ (Exists.intro _ (Exists.intro _ (Exists.intro _ (Exists.intro _ (Exists.intro _ (Exists.intro _ (Exists.intro _ (And.intro rfl (And.intro rfl (And.intro (by first | omega | assumption | exact q_rg_up (by assumption) (by omega) | exact q_rg_up (q_rg_up (by assumption) (by omega)) (by omega) | exact q_rg_cpy (by assumption) (by assumption)) (?_))))))))))))))))))))))))
        intro z50
        intro z53 h53
        first | replace h53 := e_mul h53 (by omega) | replace h53 := e_rng h53
        apply And.intro
        · first | omega | (intro e9; omega)
        intro z55 h55
        first | replace h55 := e_div h55 (by omega) (by omega) | replace h55 := e_rng h55
        apply And.intro
        · exact ⟨by omega, by omega⟩
        apply And.intro
        · exact ⟨by omega, by omega⟩
        intro z64 h64
        intro z65 h65
        first | replace h65 := e_sub h65 (by omega) | replace h65 := e_rng h65
        intro z67 h67
        first | replace h67 := e_add h67 (by omega) | replace h67 := e_rng h67
        exact ⟨_, ⟨_, _, _, _, rfl, rfl, rfl, rfl, (by first | omega | assumption | exact q_rg_up (by assumption) (by omega) | exact q_rg_up (q_rg_up (by assumption) (by omega)) (by omega) | exact q_rg_cpy (by assumption) (by assumption)), (by first | omega | assumption | exact q_rg_up (by assumption) (by omega) | exact q_rg_up (q_rg_up (by assumption) (by omega)) (by omega) | exact q_rg_cpy (by assumption) (by assumption))⟩, by omega⟩
    by_cases h76 : dz = 76
    · subst h76
      obtain ⟨y_bk, v2, v3, v4, rfl, rfl, rfl, hn, hp, hal⟩ := hI
      apply And.intro
      · intro h80
        apply And.intro
        · exact ⟨by omega, by omega⟩
        intro z195 h195
        exact hQ _ _
      · intro h80
        refine Exists.intro [0, 1, 3, 4, 5, 6, 7, 8, 9, 10, 11, 12, 13, 14, 15, 16, 17, 2, 18, 19, 20, 21, 22, 23, 24, 25] (Exists.intro [q2 0, q1 _] (Exists.intro ([.inr (12, [q1 _, q2 2, q2 3, q2 4, q2 5, q2 6, q2 7, q2 8, q2 1, q2 9, q1 _, q1 _, q1 _, q1 _, q1 _, q3 _, q1 _, q1 _, q1 _, q2 10, q2 11, q1 _, q1 _, q1 _, q1 _, q1 _, q1 _, q2 12, q1 _, q2 13, q2 14, q2 15, q2 16, q1 _, q2 17, q1 _, q2 18, q2 19, q2 20, q2 21, q2 22, q1 _, q2 23, q2 24, q2 25]), .inl (0, 72, .inl _)]) (And.intro rfl (And.intro rfl (And.intro rfl (And.intro ⟨⟨_, rfl⟩, rfl⟩ ?_))))))
        refine Exists.intro _ (Exists.intro _ (Exists.intro _ (Exists.intro _ (Exists.intro _ (Exists.intro _ (Exists.intro _ (Exists.intro _ (Exists.intro _ (Exists.intro _ (Exists.intro _ (Exists.intro _ (Exists.intro _ (Exists.intro _ (Exists.intro _ (Exists.intro _ (Exists.intro _ (Exists.intro _ (Exists.intro _ (Exists.intro _ (Exists.intro _ (Exists.intro _ (And.intro rfl (And.intro rfl (And.intro (by first | omega | assumption | exact q_rg_up (by assumption) (by omega) | exact q_rg_up (q_rg_up (by assumption) (by omega)) (by omega) | exact q_rg_cpy (by assumption) (by assumption)) (And.intro (by first | omega | assumption | exact q_rg_up (by assumption) (by omega) | exact q_rg_up (q_rg_up (by assumption) (by omega)) (by omega) | exact q_rg_cpy (by assumption) (by assumption)) (?_))))))))))))))))))))))))))
        intro z89
        refine Exists.intro [0, 1, 3, 4, 5, 6, 7, 8, 9, 10, 11, 12, 13, 14, 15, 16, 17, 2, 18, 19, 20, 21, 22, 23, 24, 25] (Exists.intro [q2 0] (Exists.intro ([.inr (12, [q1 _, q2 2, q2 3, q2 4, q2 5, q2 6, q2 7, q2 8, q2 1, q2 9, q1 _, q1 _, q1 _, q1 _, q1 _, q3 _, q1 _, q1 _, q1 _, q2 10, q2 11, q1 _, q1 _, q1 _, q1 _, q1 _, q1 _, q2 12, q1 _, q2 13, q2 14, q2 15, q2 16, q1 _, q2 17, q1 _, q2 18, q2 19, q2 20, q2 21, q2 22, q1 _, q2 23, q2 24, q2 25]), .inl (0, 72, .inl _)]) (And.intro rfl (And.intro rfl (And.intro rfl (And.intro ⟨⟨_, rfl⟩, rfl⟩ ?_))))))
        refine Exists.intro _ (Exists.intro _ (Exists.intro _ (Exists.intro _ (Exists.intro _ (Exists.intro _ (Exists.intro _ (Exists.intro _ (Exists.intro _ (Exists.intro _ (Exists.intro _ (Exists.intro _ (Exists.intro _ (Exists.intro _ (Exists.intro _ (Exists.intro _ (Exists.intro _ (Exists.intro _ (Exists.intro _ (Exists.intro _ (Exists.intro _ (And.intro rfl (And.intro rfl (And.intro (by first | omega | assumption | exact q_rg_up (by assumption) (by omega) | exact q_rg_up (q_rg_up (by assumption) (by omega)) (by omega) | exact q_rg_cpy (by assumption) (by assumption)) (?_))))))))))))))))))))))))
        intro z93
        intro z96 h96
        first | replace h96 := e_mul h96 (by omega) | replace h96 := e_rng h96
        apply And.intro
        · first | omega | (intro e9; omega)
        intro z98 h98
        first | replace h98 := e_rem h98 (by omega) (by omega) | replace h98 := e_rng h98
        exact ⟨_, ⟨_, _, _, _, _, _, _, rfl, rfl, rfl, rfl, (by first | omega | assumption | exact q_rg_up (by assumption) (by omega) | exact q_rg_up (q_rg_up (by assumption) (by omega)) (by omega) | exact q_rg_cpy (by assumption) (by assumption)), (by first | omega | assumption | exact q_rg_up (by assumption) (by omega) | exact q_rg_up (q_rg_up (by assumption) (by omega)) (by omega) | exact q_rg_cpy (by assumption) (by assumption))⟩, by omega⟩
    by_cases h104 : dz = 104
    · subst h104
      obtain ⟨y_bk, v2, v3, v4, v5, v6, v7, rfl, rfl, rfl, hn, hal, hp⟩ := hI
      apply And.intro
      · intro h108
        apply And.intro
        · exact ⟨by omega, by omega⟩
        intro z170 h170
        apply And.intro
        · intro h174
          intro z182 h182
          first | replace h182 := e_add h182 (by omega) | replace h182 := e_rng h182
          apply And.intro
          · exact ⟨by omega, by omega⟩
          intro z184 h184
          first | replace h184 := e_add h184 (by omega) | replace h184 := e_rng h184
          exact ⟨_, ⟨_, _, _, _, rfl, rfl, rfl, rfl, (by first | omega | assumption | exact q_rg_up (by assumption) (by omega) | exact q_rg_up (q_rg_up (by assumption) (by omega)) (by omega) | exact q_rg_cpy (by assumption) (by assumption)), (by first | omega | assumption | exact q_rg_up (by assumption) (by omega) | exact q_rg_up (q_rg_up (by assumption) (by omega)) (by omega) | exact q_rg_cpy (by assumption) (by assumption))⟩, by omega⟩
        · intro h174
          intro z182 h182
          first | replace h182 := e_add h182 (by omega) | replace h182 := e_rng h182
          apply And.intro
          · exact ⟨by omega, by omega⟩
          intro z184 h184
          first | replace h184 := e_add h184 (by omega) | replace h184 := e_rng h184
          exact ⟨_, ⟨_, _, _, _, rfl, rfl, rfl, rfl, (by first | omega | assumption | exact q_rg_up (by assumption) (by omega) | exact q_rg_up (q_rg_up (by assumption) (by omega)) (by omega) | exact q_rg_cpy (by assumption) (by assumption)), (by first | omega | assumption | exact q_rg_up (by assumption) (by omega) | exact q_rg_up (q_rg_up (by assumption) (by omega)) (by omega) | exact q_rg_cpy (by assumption) (by assumption))⟩, by omega⟩
      · intro h108
        refine Exists.intro [0, 1, 3, 4, 5, 6, 7, 8, 9, 10, 11, 12, 13, 14, 15, 16, 17, 2, 18, 19, 20, 21, 22, 23, 24, 25] (Exists.intro [q2 0, q1 _] (Exists.intro ([.inr (12, [q1 _, q2 2, q2 3, q2 4, q2 5, q2 6, q2 7, q2 8, q2 1, q2 9, q1 _, q1 _, q1 _, q1 _, q1 _, q3 _, q1 _, q1 _, q1 _, q2 10, q2 11, q1 _, q1 _, q1 _, q1 _, q1 _, q1 _, q2 12, q1 _, q2 13, q2 14, q2 15, q2 16, q1 _, q2 17, q1 _, q2 18, q2 19, q2 20, q2 21, q2 22, q1 _, q2 23, q2 24, q2 25]), .inl (0, 72, .inl _)]) (And.intro rfl (And.intro rfl (And.intro rfl (And.intro ⟨⟨_, rfl⟩, rfl⟩ ?_))))))
        refine Exists.intro _ (Exists.intro _ (Exists.intro _ (Exists.intro _ (Exists.intro _ (Exists.intro _ (Exists.intro _ (Exists.intro _ (Exists.intro _ (Exists.intro _ (Exists.intro _ (Exists.intro _ (Exists.intro _ (Exists.intro _ (Exists.intro _ (Exists.intro _ (Exists.intro _ (Exists.intro _ (Exists.intro _ (Exists.intro _ (Exists.intro _ (Exists.intro _ (And.intro rfl (And.intro rfl (And.intro (by first | omega | assumption | exact q_rg_up (by assumption) (by omega) | exact q_rg_up (q_rg_up (by assumption) (by omega)) (by omega) | exact q_rg_cpy (by assumption) (by assumption)) (And.intro (by first | omega | assumption | exact q_rg_up (by assumption) (by omega) | exact q_rg_up (q_rg_up (by assumption) (by omega)) (by omega) | exact q_rg_cpy (by assumption) (by assumption)) (?_))))))))))))))))))))))))))
        intro z114
        refine Exists.intro [0, 1, 3, 4, 5, 6, 7, 8, 9, 10, 11, 12, 13, 14, 15, 16, 17, 2, 18, 19, 20, 21, 22, 23, 24, 25] (Exists.intro [q2 0] (Exists.intro ([.inr (12, [q1 _, q2 2, q2 3, q2 4, q2 5, q2 6, q2 7, q2 8, q2 1, q2 9, q1 _, q1 _, q1 _, q1 _, q1 _, q3 _, q1 _, q1 _, q1 _, q2 10, q2 11, q1 _, q1 _, q1 _, q1 _, q1 _, q1 _, q2 12, q1 _, q2 13, q2 14, q2 15, q2 16, q1 _, q2 17, q1 _, q2 18, q2 19, q2 20, q2 21, q2 22, q1 _, q2 23, q2 24, q2 25]), .inl (0, 72, .inl _)]) (And.intro rfl (And.intro rfl (And.intro rfl (And.intro ⟨⟨_, rfl⟩, rfl⟩ ?_))))))
        refine Exists.intro _ (Exists.intro _ (Exists.intro _ (Exists.intro _ (Exists.intro _ (Exists.intro _ (Exists.intro _ (Exists.intro _ (Exists.intro _ (Exists.intro _ (Exists.intro _ (Exists.intro _ (Exists.intro _ (Exists.intro _ (Exists.intro _ (Exists.intro _ (Exists.intro _ (Exists.intro _ (Exists.intro _ (Exists.intro _ (Exists.intro _ (And.intro rfl (And.intro rfl (And.intro (by first | omega | assumption | exact q_rg_up (by assumption) (by omega) | exact q_rg_up (q_rg_up (by assumption) (by omega)) (by omega) | exact q_rg_cpy (by assumption) (by assumption)) (?_))))))))))))))))))))))))
        intro z118
        intro z121 h121
        first | replace h121 := e_mul h121 (by omega) | replace h121 := e_rng h121
        apply And.intro
        · first | omega | (intro e9; omega)
        intro z123 h123
        first | replace h123 := e_rem h123 (by omega) (by omega) | replace h123 := e_rng h123
        apply And.intro
        · intro h132
          intro z154 h154
          first | replace h154 := e_add h154 (by omega) | replace h154 := e_rng h154
          intro z157 h157
          first | replace h157 := e_add h157 (by omega) | replace h157 := e_rng h157
          exact ⟨_, ⟨_, _, _, _, _, _, _, rfl, rfl, rfl, rfl, (by first | omega | assumption | exact q_rg_up (by assumption) (by omega) | exact q_rg_up (q_rg_up (by assumption) (by omega)) (by omega) | exact q_rg_cpy (by assumption) (by assumption)), (by first | omega | assumption | exact q_rg_up (by assumption) (by omega) | exact q_rg_up (q_rg_up (by assumption) (by omega)) (by omega) | exact q_rg_cpy (by assumption) (by assumption))⟩, by omega⟩
        · intro h132
          apply And.intro
          · intro h139
            intro z154 h154
            first | replace h154 := e_add h154 (by omega) | replace h154 := e_rng h154
            intro z157 h157
            first | replace h157 := e_add h157 (by omega) | replace h157 := e_rng h157
            exact ⟨_, ⟨_, _, _, _, _, _, _, rfl, rfl, rfl, rfl, (by first | omega | assumption | exact q_rg_up (by assumption) (by omega) | exact q_rg_up (q_rg_up (by assumption) (by omega)) (by omega) | exact q_rg_cpy (by assumption) (by assumption)), (by first | omega | assumption | exact q_rg_up (by assumption) (by omega) | exact q_rg_up (q_rg_up (by assumption) (by omega)) (by omega) | exact q_rg_cpy (by assumption) (by assumption))⟩, by omega⟩
          · intro h139
            apply And.intro
            · intro h146
              intro z154 h154
              first | replace h154 := e_add h154 (by omega) | replace h154 := e_rng h154
              intro z157 h157
              first | replace h157 := e_add h157 (by omega) | replace h157 := e_rng h157
              exact ⟨_, ⟨_, _, _, _, _, _, _, rfl, rfl, rfl, rfl, (by first | omega | assumption | exact q_rg_up (by assumption) (by omega) | exact q_rg_up (q_rg_up (by assumption) (by omega)) (by omega) | exact q_rg_cpy (by assumption) (by assumption)), (by first | omega | assumption | exact q_rg_up (by assumption) (by omega) | exact q_rg_up (q_rg_up (by assumption) (by omega)) (by omega) | exact q_rg_cpy (by assumption) (by assumption))⟩, by omega⟩
            · intro h146
              intro z154 h154
              first | replace h154 := e_add h154 (by omega) | replace h154 := e_rng h154
              intro z157 h157
              first | replace h157 := e_add h157 (by omega) | replace h157 := e_rng h157
              exact ⟨_, ⟨_, _, _, _, _, _, _, rfl, rfl, rfl, rfl, (by first | omega | assumption | exact q_rg_up (by assumption) (by omega) | exact q_rg_up (q_rg_up (by assumption) (by omega)) (by omega) | exact q_rg_cpy (by assumption) (by assumption)), (by first | omega | assumption | exact q_rg_up (by assumption) (by omega) | exact q_rg_up (q_rg_up (by assumption) (by omega)) (by omega) | exact q_rg_cpy (by assumption) (by assumption))⟩, by omega⟩
    simp only [I_X12_fairOf, h30, h76, h104, if_false] at hI
  rintro lv st w' ⟨rfl, rfl, rfl⟩
  refine Exists.intro [0, 1, 3, 4, 5, 6, 7, 8, 9, 10, 11, 12, 13, 14, 15, 16, 17, 2, 18, 19, 20, 21, 22, 23, 24, 25] (Exists.intro [q2 0, q1 _] (Exists.intro ([.inr (12, [q1 _, q2 2, q2 3, q2 4, q2 5, q2 6, q2 7, q2 8, q2 1, q2 9, q1 _, q1 _, q1 _, q1 _, q1 _, q3 _, q1 _, q1 _, q1 _, q2 10, q2 11, q1 _, q1 _, q1 _, q1 _, q1 _, q1 _, q2 12, q1 _, q2 13, q2 14, q2 15, q2 16, q1 _, q2 17, q1 _, q2 18, q2 19, q2 20, q2 21, q2 22, q1 _, q2 23, q2 24, q2 25]), .inl (0, 72, .inl _)]) (And.intro rfl (And.intro rfl (And.intro rfl (And.intro ⟨⟨_, rfl⟩, rfl⟩ ?_))))))
  refine Exists.intro _ (Exists.intro _ (Exists.intro _ (Exists.intro _ (Exists.intro _ (Exists.intro _ (Exists.intro _ (Exists.intro _ (Exists.intro _ (Exists.intro _ (Exists.intro _ (Exists.intro _ (Exists.intro _ (Exists.intro _ (Exists.intro _ (Exists.intro _ (Exists.intro _ (Exists.intro _ (Exists.intro _ (Exists.intro _ (Exists.intro _ (Exists.intro _ (And.intro rfl (And.intro rfl (And.intro (by first | omega | assumption | exact q_rg_up (by assumption) (by omega) | exact q_rg_up (q_rg_up (by assumption) (by omega)) (by omega) | exact q_rg_cpy (by assumption) (by assumption)) (?_)))))))))))))))))))))))))
  intro z4
  refine Exists.intro [0, 1, 3, 4, 5, 6, 7, 8, 9, 10, 11, 12, 13, 14, 15, 16, 17, 2, 18, 19, 20, 21, 22, 23, 24, 25] (Exists.intro [q2 0] (Exists.intro ([.inr (12, [q1 _, q2 2, q2 3, q2 4, q2 5, q2 6, q2 7, q2 8, q2 1, q2 9, q1 _, q1 _, q1 _, q1 _, q1 _, q3 _, q1 _, q1 _, q1 _, q2 10, q2 11, q1 _, q1 _, q1 _, q1 _, q1 _, q1 _, q2 12, q1 _, q2 13, q2 14, q2 15, q2 16, q1 _, q2 17, q1 _, q2 18, q2 19, q2 20, q2 21, q2 22, q1 _, q2 23, q2 24, q2 25]), .inl (0, 72, .inl _)]) (And.intro rfl (And.intro rfl (And.intro rfl (And.intro ⟨⟨_, rfl⟩, rfl⟩ ?_))))))
  refine Exists.intro _ (Exists.intro _ (Exists.intro _ (Exists.intro _ (Exists.intro _ (Exists.intro _ (Exists.intro _ (Exists.intro _ (Exists.intro _ (Exists.intro _ (Exists.intro _ (Exists.intro _ (Exists.intro _ (Exists.intro _ (Exists.intro _ (Exists.intro _ (Exists.intro _ (Exists.intro _ (Exists.intro _ (Exists.intro _ (Exists.intro _ (And.intro rfl (And.intro rfl (And.intro (by first | omega | assumption | exact q_rg_up (by assumption) (by omega) | exact q_rg_up (q_rg_up (by assumption) (by omega)) (by omega) | exact q_rg_cpy (by assumption) (by assumption)) (?_))))))))))))))))))))))))
  intro z10
  apply And.intro
  · intro h13
    exact hQ _ _
  · intro h13
    apply And.intro
    · intro h17
      refine Exists.intro [0, 1, 3, 4, 5, 6, 7, 8, 9, 10, 11, 12, 13, 14, 15, 16, 17, 2, 18, 19, 20, 21, 22, 23, 24, 25] (Exists.intro [q2 0] (Exists.intro ([.inr (12, [q1 _, q2 2, q2 3, q2 4, q2 5, q2 6, q2 7, q2 8, q2 1, q2 9, q1 _, q1 _, q1 _, q1 _, q1 _, q3 _, q1 _, q1 _, q1 _, q2 10, q2 11, q1 _, q1 _, q1 _, q1 _, q1 _, q1 _, q2 12, q1 _, q2 13, q2 14, q2 15, q2 16, q1 _, q2 17, q1 _, q2 18, q2 19, q2 20, q2 21, q2 22, q1 _, q2 23, q2 24, q2 25]), .inl (0, 72, .inl _)]) (And.intro rfl (And.intro rfl (And.intro rfl (And.intro ⟨⟨_, rfl⟩, rfl⟩ ?_))))))
      refine Exists.intro _ (Exists.intro _ (Exists.intro _ (Exists.intro _ (Exists.intro _ (Exists.intro _ (Exists.intro _ (Exists.intro _ (Exists.intro _ (Exists.intro _ (Exists.intro _ (Exists.intro _ (Exists.intro _ (Exists.intro _ (Exists.intro _ (Exists.intro _ (Exists.intro _ (Exists.intro _ (Exists.intro _ (Exists.intro _ (Exists.intro _ (And.intro rfl (And.intro rfl (And.intro (by first | omega | assumption | exact q_rg_up (by assumption) (by omega) | exact q_rg_up (q_rg_up (by assumption) (by omega)) (by omega) | exact q_rg_cpy (by assumption) (by assumption)) (?_))))))))))))))))))))))))
      intro z23
      exact ⟨_, _, _, _, _, rfl, rfl, rfl, rfl, (by first | omega | assumption | exact q_rg_up (by assumption) (by omega) | exact q_rg_up (q_rg_up (by assumption) (by omega)) (by omega) | exact q_rg_cpy (by assumption) (by assumption)), (by first | omega | assumption | exact q_rg_up (by assumption) (by omega) | exact q_rg_up (q_rg_up (by assumption) (by omega)) (by omega) | exact q_rg_cpy (by assumption) (by assumption))⟩
    · intro h17
      exact hQ _ _

theorem dX12_ledger_0 : decode cX12_ledger 0 = .ok (.aload_n 0, 1) := by decide +kernel
theorem dX12_ledger_1 : decode cX12_ledger 1 = .ok (.iconst 0, 1) := by decide +kernel
theorem dX12_ledger_2 : decode cX12_ledger 2 = .ok (.putfield 88, 3) := by decide +kernel
theorem dX12_ledger_5 : decode cX12_ledger 5 = .ok (.aload_n 0, 1) := by decide +kernel
theorem dX12_ledger_6 : decode cX12_ledger 6 = .ok (.iload_n 1, 1) := by decide +kernel
theorem dX12_ledger_7 : decode cX12_ledger 7 = .ok (.invokevirtual 443, 3) := by decide +kernel
theorem dX12_ledger_10 : decode cX12_ledger 10 = .ok (.ifCond .ne 6, 3) := by decide +kernel
theorem dX12_ledger_13 : decode cX12_ledger 13 = .ok (.bipush (-2), 2) := by decide +kernel
theorem dX12_ledger_15 : decode cX12_ledger 15 = .ok (.ireturn, 1) := by decide +kernel
theorem dX12_ledger_16 : decode cX12_ledger 16 = .ok (.iload_n 2, 1) := by decide +kernel
theorem dX12_ledger_17 : decode cX12_ledger 17 = .ok (.bipush 10, 2) := by decide +kernel
theorem dX12_ledger_19 : decode cX12_ledger 19 = .ok (.bipush 17, 2) := by decide +kernel
theorem dX12_ledger_21 : decode cX12_ledger 21 = .ok (.invokestatic 100, 3) := by decide +kernel
theorem dX12_ledger_24 : decode cX12_ledger 24 = .ok (.ifCond .eq 12, 3) := by decide +kernel
theorem dX12_ledger_27 : decode cX12_ledger 27 = .ok (.aload_n 0, 1) := by decide +kernel
theorem dX12_ledger_28 : decode cX12_ledger 28 = .ok (.iload_n 2, 1) := by decide +kernel
theorem dX12_ledger_29 : decode cX12_ledger 29 = .ok (.bipush 10, 2) := by decide +kernel
theorem dX12_ledger_31 : decode cX12_ledger 31 = .ok (.isub, 1) := by decide +kernel
theorem dX12_ledger_32 : decode cX12_ledger 32 = .ok (.invokevirtual 431, 3) := by decide +kernel
theorem dX12_ledger_35 : decode cX12_ledger 35 = .ok (.ireturn, 1) := by decide +kernel
theorem dX12_ledger_36 : decode cX12_ledger 36 = .ok (.iload_n 2, 1) := by decide +kernel
theorem dX12_ledger_37 : decode cX12_ledger 37 = .ok (.bipush 20, 2) := by decide +kernel
theorem dX12_ledger_39 : decode cX12_ledger 39 = .ok (.bipush 27, 2) := by decide +kernel
theorem dX12_ledger_41 : decode cX12_ledger 41 = .ok (.invokestatic 100, 3) := by decide +kernel
theorem dX12_ledger_44 : decode cX12_ledger 44 = .ok (.ifCond .eq 12, 3) := by decide +kernel
theorem dX12_ledger_47 : decode cX12_ledger 47 = .ok (.aload_n 0, 1) := by decide +kernel
theorem dX12_ledger_48 : decode cX12_ledger 48 = .ok (.iload_n 2, 1) := by decide +kernel
theorem dX12_ledger_49 : decode cX12_ledger 49 = .ok (.bipush 20, 2) := by decide +kernel
theorem dX12_ledger_51 : decode cX12_ledger 51 = .ok (.isub, 1) := by decide +kernel
theorem dX12_ledger_52 : decode cX12_ledger 52 = .ok (.invokevirtual 446, 3) := by decide +kernel
theorem dX12_ledger_55 : decode cX12_ledger 55 = .ok (.ireturn, 1) := by decide +kernel
theorem dX12_ledger_56 : decode cX12_ledger 56 = .ok (.iload_n 2, 1) := by decide +kernel
theorem dX12_ledger_57 : decode cX12_ledger 57 = .ok (.tableswitch 53 0 3 #[31, 36, 41, 47], 31) := by decide +kernel
theorem dX12_ledger_88 : decode cX12_ledger 88 = .ok (.aload_n 0, 1) := by decide +kernel
theorem dX12_ledger_89 : decode cX12_ledger 89 = .ok (.invokevirtual 440, 3) := by decide +kernel
theorem dX12_ledger_92 : decode cX12_ledger 92 = .ok (.ireturn, 1) := by decide +kernel
theorem dX12_ledger_93 : decode cX12_ledger 93 = .ok (.aload_n 0, 1) := by decide +kernel
theorem dX12_ledger_94 : decode cX12_ledger 94 = .ok (.invokevirtual 449, 3) := by decide +kernel
theorem dX12_ledger_97 : decode cX12_ledger 97 = .ok (.ireturn, 1) := by decide +kernel
theorem dX12_ledger_98 : decode cX12_ledger 98 = .ok (.aload_n 0, 1) := by decide +kernel
theorem dX12_ledger_99 : decode cX12_ledger 99 = .ok (.iconst 0, 1) := by decide +kernel
theorem dX12_ledger_100 : decode cX12_ledger 100 = .ok (.invokevirtual 452, 3) := by decide +kernel
theorem dX12_ledger_103 : decode cX12_ledger 103 = .ok (.ireturn, 1) := by decide +kernel
theorem dX12_ledger_104 : decode cX12_ledger 104 = .ok (.aload_n 0, 1) := by decide +kernel
theorem dX12_ledger_105 : decode cX12_ledger 105 = .ok (.iconst 1, 1) := by decide +kernel
theorem dX12_ledger_106 : decode cX12_ledger 106 = .ok (.invokevirtual 452, 3) := by decide +kernel
theorem dX12_ledger_109 : decode cX12_ledger 109 = .ok (.ireturn, 1) := by decide +kernel
theorem dX12_ledger_110 : decode cX12_ledger 110 = .ok (.bipush (-2), 2) := by decide +kernel
theorem dX12_ledger_112 : decode cX12_ledger 112 = .ok (.ireturn, 1) := by decide +kernel
def is_X12_ledger : Nat → List Nat := fun d => []
set_option maxRecDepth 100000 in
def b_X12_ledger_112 (J : Nat → List qV → List qV → qW → Prop) (Q : qR) : qK := x_iret Q
set_option maxRecDepth 100000 in
theorem s_X12_ledger_112 {p : Program} {l : Launch} {e : Env} {R : Room} {s : State} {m : MethodId} {args : Array Value} {below : List Frame} {meth : Method} {c : Code} {nW : Nat} {dC : Nat → ClassId} {dI : Nat → Nat → Nat} {k : Nat → ClassId} {g : Nat → Nat} {A : Nat → Prop} {J : Nat → List qV → List qV → qW → Prop} {Q : qR} (X : q_X p R s m args meth c cX12_ledger 3 nW 3 72 RX12 (some .int) dC dI k g A) (hJ : ∀ d : Nat, q_Sd p l e R s m args below meth c 3 nW dC dI k g A (MQ below (q_post (dC, dI) k g nW Q A) args s 0 0 A) d (x_cut (is_X12_ledger d) (J d))) : q_Sd p l e R s m args below meth c 3 nW dC dI k g A (MQ below (q_post (dC, dI) k g nW Q A) args s 0 0 A) 112 (b_X12_ledger_112 J Q) := by
  unfold b_X12_ledger_112
  exact s_iret X dX12_ledger_112
set_option maxRecDepth 100000 in
def b_X12_ledger_44 (J : Nat → List qV → List qV → qW → Prop) (Q : qR) : qK := x_if_eq (x_iload 2 (x_sw 0 3 [x_aload 0 (x_callr (some 12) 1 spr_X12_owed (x_iret Q)), x_aload 0 (x_callr (some 12) 1 spr_X12_fewestBack (x_iret Q)), x_aload 0 (x_int 0 (x_callr (some 12) 2 spr_X12_exact (x_iret Q))), x_aload 0 (x_int 1 (x_callr (some 12) 2 spr_X12_exact (x_iret Q)))] (x_int (-2) (b_X12_ledger_112 J Q)))) (x_aload 0 (x_iload 2 (x_int 20 (x_isub (x_call (some 12) 2 sp_X12_fairOf (x_nw (x_iret Q)))))))
set_option maxRecDepth 100000 in
theorem s_X12_ledger_44 {p : Program} {l : Launch} {e : Env} {R : Room} {s : State} {m : MethodId} {args : Array Value} {below : List Frame} {meth : Method} {c : Code} {nW : Nat} {dC : Nat → ClassId} {dI : Nat → Nat → Nat} {k : Nat → ClassId} {g : Nat → Nat} {A : Nat → Prop} {J : Nat → List qV → List qV → qW → Prop} {Q : qR} (X : q_X p R s m args meth c cX12_ledger 3 nW 3 72 RX12 (some .int) dC dI k g A) (hJ : ∀ d : Nat, q_Sd p l e R s m args below meth c 3 nW dC dI k g A (MQ below (q_post (dC, dI) k g nW Q A) args s 0 0 A) d (x_cut (is_X12_ledger d) (J d))) : q_Sd p l e R s m args below meth c 3 nW dC dI k g A (MQ below (q_post (dC, dI) k g nW Q A) args s 0 0 A) 44 (b_X12_ledger_44 J Q) := by
  unfold b_X12_ledger_44
  refine s_if_eq X (tgt := 56) dX12_ledger_44 (by decide) ?_ ?_
  · refine s_iload_n X rfl dX12_ledger_56 ?_
    refine s_sw X (ts := [88, 93, 98, 104]) (td := 110) dX12_ledger_57 (by decide) (by decide) (by decide) rfl ?_ ?_
    · intro i t K ht hK
      match i, ht, hK with
      | 0, ht, hK =>
        cases ht
        cases hK
        refine s_aload_n X rfl dX12_ledger_88 ?_
        refine s_callVr X (m_X12_owed l) tw_1359 tw_1360 tw_1605 tw_134 tw_1361 rfl (by decide +kernel) ⟨by decide, by decide⟩ dX12_ledger_89 ?_
        exact s_iret X dX12_ledger_92
      | 1, ht, hK =>
        cases ht
        cases hK
        refine s_aload_n X rfl dX12_ledger_93 ?_
        refine s_callVr X (m_X12_fewestBack l) tw_1362 tw_1363 tw_1570 tw_134 tw_1364 rfl (by decide +kernel) ⟨by decide, by decide⟩ dX12_ledger_94 ?_
        exact s_iret X dX12_ledger_97
      | 2, ht, hK =>
        cases ht
        cases hK
        refine s_aload_n X rfl dX12_ledger_98 ?_
        refine s_iconst X ⟨by decide, by decide⟩ dX12_ledger_99 ?_
        refine s_callVr X (m_X12_exact l) tw_1368 tw_1369 tw_1565 tw_134 tw_1370 rfl (by decide +kernel) ⟨by decide, by decide⟩ dX12_ledger_100 ?_
        exact s_iret X dX12_ledger_103
      | 3, ht, hK =>
        cases ht
        cases hK
        refine s_aload_n X rfl dX12_ledger_104 ?_
        refine s_iconst X ⟨by decide, by decide⟩ dX12_ledger_105 ?_
        refine s_callVr X (m_X12_exact l) tw_1368 tw_1369 tw_1565 tw_134 tw_1370 rfl (by decide +kernel) ⟨by decide, by decide⟩ dX12_ledger_106 ?_
        exact s_iret X dX12_ledger_109
      | i + 4, ht, hK => exact absurd ht (by simp)
    · refine s_bipush X ⟨by decide, by decide⟩ (by decide) dX12_ledger_110 ?_
      exact s_X12_ledger_112 X hJ
  · refine s_aload_n X rfl dX12_ledger_47 ?_
    refine s_iload_n X rfl dX12_ledger_48 ?_
    refine s_bipush X ⟨by decide, by decide⟩ (by decide) dX12_ledger_49 ?_
    refine s_isub X dX12_ledger_51 ?_
    refine s_callV X (m_X12_fairOf l) tw_1353 tw_1354 tw_1569 tw_134 tw_1355 rfl (by decide +kernel) ⟨by decide, by decide⟩ dX12_ledger_52 ?_
    refine s_nw ?_
    exact s_iret X dX12_ledger_55
set_option maxRecDepth 100000 in
def b_X12_ledger_0 (J : Nat → List qV → List qV → qW → Prop) (Q : qR) : qK := x_aload 0 (x_int 0 (x_put 12 0 q_oki (x_nw (x_aload 0 (x_iload 1 (x_call (some 12) 2 sp_X12_hasLedger (x_nw (x_if_ne (x_iload 2 (x_int 10 (x_int 17 (x_callr none 3 spr_X12_in (x_if_eq (x_iload 2 (x_int 20 (x_int 27 (x_callr none 3 spr_X12_in (b_X12_ledger_44 J Q))))) (x_aload 0 (x_iload 2 (x_int 10 (x_isub (x_callr (some 12) 2 spr_X12_got (x_iret Q))))))))))) (x_int (-2) (x_iret Q))))))))))
set_option maxRecDepth 100000 in
theorem s_X12_ledger_0 {p : Program} {l : Launch} {e : Env} {R : Room} {s : State} {m : MethodId} {args : Array Value} {below : List Frame} {meth : Method} {c : Code} {nW : Nat} {dC : Nat → ClassId} {dI : Nat → Nat → Nat} {k : Nat → ClassId} {g : Nat → Nat} {A : Nat → Prop} {J : Nat → List qV → List qV → qW → Prop} {Q : qR} (X : q_X p R s m args meth c cX12_ledger 3 nW 3 72 RX12 (some .int) dC dI k g A) (hJ : ∀ d : Nat, q_Sd p l e R s m args below meth c 3 nW dC dI k g A (MQ below (q_post (dC, dI) k g nW Q A) args s 0 0 A) d (x_cut (is_X12_ledger d) (J d))) : q_Sd p l e R s m args below meth c 3 nW dC dI k g A (MQ below (q_post (dC, dI) k g nW Q A) args s 0 0 A) 0 (b_X12_ledger_0 J Q) := by
  unfold b_X12_ledger_0
  refine s_aload_n X rfl dX12_ledger_0 ?_
  refine s_iconst X ⟨by decide, by decide⟩ dX12_ledger_1 ?_
  refine s_put X (T := TX12) (C := RX12) (N := 45) tu_X12 tyX12_ok nmX12 rfl (by decide) tw_997 rfl (by decide +kernel) q_oki_t dX12_ledger_2 ?_
  refine s_nw ?_
  refine s_aload_n X rfl dX12_ledger_5 ?_
  refine s_iload_n X rfl dX12_ledger_6 ?_
  refine s_callV X (m_X12_hasLedger l) tw_1347 tw_1348 tw_1587 tw_134 tw_1349 rfl (by decide +kernel) ⟨by decide, by decide⟩ dX12_ledger_7 ?_
  refine s_nw ?_
  refine s_if_ne X (tgt := 16) dX12_ledger_10 (by decide) ?_ ?_
  · refine s_iload_n X rfl dX12_ledger_16 ?_
    refine s_bipush X ⟨by decide, by decide⟩ (by decide) dX12_ledger_17 ?_
    refine s_bipush X ⟨by decide, by decide⟩ (by decide) dX12_ledger_19 ?_
    refine s_callSr X (m_X12_in l) tw_1054 tw_1055 tw_134 tw_1056 (by decide +kernel) ⟨by decide, by decide⟩ dX12_ledger_21 ?_
    refine s_if_eq X (tgt := 36) dX12_ledger_24 (by decide) ?_ ?_
    · refine s_iload_n X rfl dX12_ledger_36 ?_
      refine s_bipush X ⟨by decide, by decide⟩ (by decide) dX12_ledger_37 ?_
      refine s_bipush X ⟨by decide, by decide⟩ (by decide) dX12_ledger_39 ?_
      refine s_callSr X (m_X12_in l) tw_1054 tw_1055 tw_134 tw_1056 (by decide +kernel) ⟨by decide, by decide⟩ dX12_ledger_41 ?_
      exact s_X12_ledger_44 X hJ
    · refine s_aload_n X rfl dX12_ledger_27 ?_
      refine s_iload_n X rfl dX12_ledger_28 ?_
      refine s_bipush X ⟨by decide, by decide⟩ (by decide) dX12_ledger_29 ?_
      refine s_isub X dX12_ledger_31 ?_
      refine s_callVr X (m_X12_got l) tw_1350 tw_1351 tw_1583 tw_134 tw_1352 rfl (by decide +kernel) ⟨by decide, by decide⟩ dX12_ledger_32 ?_
      exact s_iret X dX12_ledger_35
  · refine s_bipush X ⟨by decide, by decide⟩ (by decide) dX12_ledger_13 ?_
    exact s_iret X dX12_ledger_15

def sp_X12_ledger : qS := fun av w Q => ∃ (mco : Int) (mre : Int) (mle : Int) (mbe : Int) (mso : Int) (mva : Int) (mwo : Int) (mwr : Int) (mlf : Int) (mlp : Int) (mfp : Int) (mfd : Int) (mgo : Int) (mbo : Int) (mpe : Int) (mye : Int) (mpr : Int) (mld : Int) (msi : Int) (mse : Int) (mn : Nat → Int) (ls : Nat → Int) (bk : Nat → Int) (a : Int) (b : Int), av = [q2 0, q1 a, q1 b] ∧ w = [.inr (12, [q1 mco, q2 4, q2 5, q2 6, q2 7, q2 1, q2 8, q2 9, q2 2, q2 10, q1 mre, q1 mle, q1 mbe, q1 mso, q1 mva, q3 mwo, q1 mwr, q1 mlf, q1 mlp, q2 11, q2 12, q1 mfp, q1 mfd, q1 mgo, q1 mbo, q1 mpe, q1 mye, q2 13, q1 mpr, q2 14, q2 15, q2 16, q2 17, q1 mld, q2 3, q1 msi, q2 18, q2 19, q2 20, q2 21, q2 22, q1 mse, q2 23, q2 24, q2 25]), .inl (0, 16, .inl mn), .inl (0, 72, .inl ls), .inl (0, 8, .inl bk)] ∧ (q_rg 0 2 mn) ∧ (∀ (r : Int) (x_mco : Int) (x_mld : Int) (x_bk : Nat → Int), Q (some (q1 r)) ([.inr (12, [q1 x_mco, q2 4, q2 5, q2 6, q2 7, q2 1, q2 8, q2 9, q2 2, q2 10, q1 mre, q1 mle, q1 mbe, q1 mso, q1 mva, q3 mwo, q1 mwr, q1 mlf, q1 mlp, q2 11, q2 12, q1 mfp, q1 mfd, q1 mgo, q1 mbo, q1 mpe, q1 mye, q2 13, q1 mpr, q2 14, q2 15, q2 16, q2 17, q1 x_mld, q2 3, q1 msi, q2 18, q2 19, q2 20, q2 21, q2 22, q1 mse, q2 23, q2 24, q2 25]), .inl (0, 16, .inl mn), .inl (0, 72, .inl ls), .inl (0, 8, .inl x_bk)]))
set_option maxHeartbeats 4000000 in
set_option maxRecDepth 100000 in
theorem m_X12_ledger (l : Launch) : q_M l yX12_ledger cX12_ledger 3 (some .int) 3 72 sp_X12_ledger := by
  refine q_meth (by decide) (fun av w Q h => by obtain ⟨mco, mre, mle, mbe, mso, mva, mwo, mwr, mlf, mlp, mfp, mfd, mgo, mbo, mpe, mye, mpr, mld, msi, mse, mn, ls, bk, a, b, rfl, rfl, hmn, hQ⟩ := h; exact Nat.le_of_ble_eq_true rfl) ?_
  intro p e R s m args below meth c dC dI k g A av w Q hsp oka okw X
  obtain ⟨mco, mre, mle, mbe, mso, mva, mwo, mwr, mlf, mlp, mfp, mfd, mgo, mbo, mpe, mye, mpr, mld, msi, mse, mn, ls, bk, a, b, rfl, rfl, hmn, hQ⟩ := hsp
  have o_a : -2147483648 ≤ a ∧ a ≤ 2147483647 := oka _ (List.mem_of_getElem? (i := 1) rfl)
  have o_b : -2147483648 ≤ b ∧ b ≤ 2147483647 := oka _ (List.mem_of_getElem? (i := 2) rfl)
  refine s_mono (s_X12_ledger_0 X (J := fun _ _ _ _ => False) (fun d => s_cutF)) ?_
  rintro lv st w' ⟨rfl, rfl, rfl⟩
  apply And.intro
  · exact trivial
  refine Exists.intro [0, 1, 4, 5, 6, 7, 8, 9, 2, 10, 11, 12, 13, 14, 15, 16, 17, 3, 18, 19, 20, 21, 22, 23, 24, 25] (Exists.intro [q2 0, q1 _] (Exists.intro ([.inr (12, [q1 _, q2 2, q2 3, q2 4, q2 5, q2 1, q2 6, q2 7, q2 8, q2 9, q1 _, q1 _, q1 _, q1 _, q1 _, q3 _, q1 _, q1 _, q1 _, q2 10, q2 11, q1 _, q1 _, q1 _, q1 _, q1 _, q1 _, q2 12, q1 _, q2 13, q2 14, q2 15, q2 16, q1 _, q2 17, q1 _, q2 18, q2 19, q2 20, q2 21, q2 22, q1 _, q2 23, q2 24, q2 25]), .inl (0, 16, .inl _)]) (And.intro rfl (And.intro rfl (And.intro rfl (And.intro ⟨⟨_, rfl⟩, rfl⟩ ?_))))))
  refine Exists.intro _ (Exists.intro _ (Exists.intro _ (Exists.intro _ (Exists.intro _ (Exists.intro _ (Exists.intro _ (Exists.intro _ (Exists.intro _ (Exists.intro _ (Exists.intro _ (Exists.intro _ (Exists.intro _ (Exists.intro _ (Exists.intro _ (Exists.intro _ (Exists.intro _ (Exists.intro _ (Exists.intro _ (Exists.intro _ (Exists.intro _ (Exists.intro _ (And.intro rfl (And.intro rfl (And.intro (by first | omega | assumption | exact q_rg_up (by assumption) (by omega) | exact q_rg_up (q_rg_up (by assumption) (by omega)) (by omega) | exact q_rg_cpy (by assumption) (by assumption)) (?_)))))))))))))))))))))))))
  intro z7 x_mld_7 h7
  apply And.intro
  · intro h10
    first | replace h7 := dj1 h7 h10 | replace h7 := dj0 h7 h10
    refine Exists.intro [] (Exists.intro [q1 _, q1 _, q1 _] (Exists.intro [] (And.intro rfl (And.intro rfl (And.intro rfl (And.intro trivial ?_))))))
    refine Exists.intro _ (Exists.intro _ (Exists.intro _ (And.intro rfl (And.intro rfl (?_)))))
    intro z21 h21
    apply And.intro
    · intro h24
      first | replace h21 := dj1 h21 h24 | replace h21 := dj0 h21 h24
      refine Exists.intro [] (Exists.intro [q1 _, q1 _, q1 _] (Exists.intro [] (And.intro rfl (And.intro rfl (And.intro rfl (And.intro trivial ?_))))))
      refine Exists.intro _ (Exists.intro _ (Exists.intro _ (And.intro rfl (And.intro rfl (?_)))))
      intro z41 h41
      apply And.intro
      · intro h44
        first | replace h41 := dj1 h41 h44 | replace h41 := dj0 h41 h44
        apply And.intro
        · apply And.intro
          · intro h57
            refine Exists.intro [0, 2, 4, 5, 6, 7, 1, 8, 9, 10, 11, 12, 13, 14, 15, 16, 17, 3, 18, 19, 20, 21, 22, 23, 24, 25] (Exists.intro [q2 0] (Exists.intro ([.inr (12, [q1 _, q2 2, q2 3, q2 4, q2 5, q2 6, q2 7, q2 8, q2 1, q2 9, q1 _, q1 _, q1 _, q1 _, q1 _, q3 _, q1 _, q1 _, q1 _, q2 10, q2 11, q1 _, q1 _, q1 _, q1 _, q1 _, q1 _, q2 12, q1 _, q2 13, q2 14, q2 15, q2 16, q1 _, q2 17, q1 _, q2 18, q2 19, q2 20, q2 21, q2 22, q1 _, q2 23, q2 24, q2 25]), .inl (0, 72, .inl _)]) (And.intro rfl (And.intro rfl (And.intro rfl (And.intro ⟨⟨_, rfl⟩, rfl⟩ ?_))))))
            refine Exists.intro _ (Exists.intro _ (Exists.intro _ (Exists.intro _ (Exists.intro _ (Exists.intro _ (Exists.intro _ (Exists.intro _ (Exists.intro _ (Exists.intro _ (Exists.intro _ (Exists.intro _ (Exists.intro _ (Exists.intro _ (Exists.intro _ (Exists.intro _ (Exists.intro _ (Exists.intro _ (Exists.intro _ (Exists.intro _ (Exists.intro _ (And.intro rfl (And.intro rfl (And.intro (by first | omega | assumption | exact q_rg_up (by assumption) (by omega) | exact q_rg_up (q_rg_up (by assumption) (by omega)) (by omega) | exact q_rg_cpy (by assumption) (by assumption)) (?_))))))))))))))))))))))))
            intro z89
            exact hQ _ _ _ _
          apply And.intro
          · intro h57
            refine Exists.intro [0, 2, 4, 5, 6, 7, 1, 8, 9, 10, 11, 12, 13, 14, 15, 16, 17, 3, 18, 19, 20, 21, 22, 23, 24, 25] (Exists.intro [q2 0] (Exists.intro ([.inr (12, [q1 _, q2 2, q2 3, q2 4, q2 5, q2 6, q2 7, q2 8, q2 1, q2 9, q1 _, q1 _, q1 _, q1 _, q1 _, q3 _, q1 _, q1 _, q1 _, q2 10, q2 11, q1 _, q1 _, q1 _, q1 _, q1 _, q1 _, q2 12, q1 _, q2 13, q2 14, q2 15, q2 16, q1 _, q2 17, q1 _, q2 18, q2 19, q2 20, q2 21, q2 22, q1 _, q2 23, q2 24, q2 25]), .inl (0, 72, .inl _)]) (And.intro rfl (And.intro rfl (And.intro rfl (And.intro ⟨⟨_, rfl⟩, rfl⟩ ?_))))))
            refine Exists.intro _ (Exists.intro _ (Exists.intro _ (Exists.intro _ (Exists.intro _ (Exists.intro _ (Exists.intro _ (Exists.intro _ (Exists.intro _ (Exists.intro _ (Exists.intro _ (Exists.intro _ (Exists.intro _ (Exists.intro _ (Exists.intro _ (Exists.intro _ (Exists.intro _ (Exists.intro _ (Exists.intro _ (Exists.intro _ (Exists.intro _ (And.intro rfl (And.intro rfl (And.intro (by first | omega | assumption | exact q_rg_up (by assumption) (by omega) | exact q_rg_up (q_rg_up (by assumption) (by omega)) (by omega) | exact q_rg_cpy (by assumption) (by assumption)) (?_))))))))))))))))))))))))
            intro z94
            exact hQ _ _ _ _
          apply And.intro
          · intro h57
            refine Exists.intro [0, 2, 4, 5, 6, 7, 1, 8, 9, 10, 11, 12, 13, 14, 15, 16, 17, 3, 18, 19, 20, 21, 22, 23, 24, 25] (Exists.intro [q2 0, q1 _] (Exists.intro ([.inr (12, [q1 _, q2 2, q2 3, q2 4, q2 5, q2 6, q2 7, q2 8, q2 1, q2 9, q1 _, q1 _, q1 _, q1 _, q1 _, q3 _, q1 _, q1 _, q1 _, q2 10, q2 11, q1 _, q1 _, q1 _, q1 _, q1 _, q1 _, q2 12, q1 _, q2 13, q2 14, q2 15, q2 16, q1 _, q2 17, q1 _, q2 18, q2 19, q2 20, q2 21, q2 22, q1 _, q2 23, q2 24, q2 25]), .inl (0, 72, .inl _)]) (And.intro rfl (And.intro rfl (And.intro rfl (And.intro ⟨⟨_, rfl⟩, rfl⟩ ?_))))))
            refine Exists.intro _ (Exists.intro _ (Exists.intro _ (Exists.intro _ (Exists.intro _ (Exists.intro _ (Exists.intro _ (Exists.intro _ (Exists.intro _ (Exists.intro _ (Exists.intro _ (Exists.intro _ (Exists.intro _ (Exists.intro _ (Exists.intro _ (Exists.intro _ (Exists.intro _ (Exists.intro _ (Exists.intro _ (Exists.intro _ (Exists.intro _ (Exists.intro _ (And.intro rfl (And.intro rfl (And.intro (by first | omega | assumption | exact q_rg_up (by assumption) (by omega) | exact q_rg_up (q_rg_up (by assumption) (by omega)) (by omega) | exact q_rg_cpy (by assumption) (by assumption)) (?_)))))))))))))))))))))))))
            intro z100
            exact hQ _ _ _ _
          apply And.intro
          · intro h57
            refine Exists.intro [0, 2, 4, 5, 6, 7, 1, 8, 9, 10, 11, 12, 13, 14, 15, 16, 17, 3, 18, 19, 20, 21, 22, 23, 24, 25] (Exists.intro [q2 0, q1 _] (Exists.intro ([.inr (12, [q1 _, q2 2, q2 3, q2 4, q2 5, q2 6, q2 7, q2 8, q2 1, q2 9, q1 _, q1 _, q1 _, q1 _, q1 _, q3 _, q1 _, q1 _, q1 _, q2 10, q2 11, q1 _, q1 _, q1 _, q1 _, q1 _, q1 _, q2 12, q1 _, q2 13, q2 14, q2 15, q2 16, q1 _, q2 17, q1 _, q2 18, q2 19, q2 20, q2 21, q2 22, q1 _, q2 23, q2 24, q2 25]), .inl (0, 72, .inl _)]) (And.intro rfl (And.intro rfl (And.intro rfl (And.intro ⟨⟨_, rfl⟩, rfl⟩ ?_))))))
            refine Exists.intro _ (Exists.intro _ (Exists.intro _ (Exists.intro _ (Exists.intro _ (Exists.intro _ (Exists.intro _ (Exists.intro _ (Exists.intro _ (Exists.intro _ (Exists.intro _ (Exists.intro _ (Exists.intro _ (Exists.intro _ (Exists.intro _ (Exists.intro _ (Exists.intro _ (Exists.intro _ (Exists.intro _ (Exists.intro _ (Exists.intro _ (Exists.intro _ (And.intro rfl (And.intro rfl (And.intro (by first | omega | assumption | exact q_rg_up (by assumption) (by omega) | exact q_rg_up (q_rg_up (by assumption) (by omega)) (by omega) | exact q_rg_cpy (by assumption) (by assumption)) (?_)))))))))))))))))))))))))
            intro z106
            exact hQ _ _ _ _
          exact trivial
        · intro h57
          exact hQ _ _ _ _
      · intro h44
        first | replace h41 := dj1 h41 h44 | replace h41 := dj0 h41 h44
        intro z51 h51
        first | replace h51 := e_sub h51 (by omega) | replace h51 := e_rng h51
        refine Exists.intro [0, 2, 3, 4, 5, 6, 7, 1, 8, 9, 10, 11, 12, 13, 14, 15, 16, 17, 18, 19, 20, 21, 22, 23, 24, 25] (Exists.intro [q2 0, q1 _] (Exists.intro ([.inr (12, [q1 _, q2 3, q2 4, q2 5, q2 6, q2 7, q2 8, q2 9, q2 1, q2 10, q1 _, q1 _, q1 _, q1 _, q1 _, q3 _, q1 _, q1 _, q1 _, q2 11, q2 12, q1 _, q1 _, q1 _, q1 _, q1 _, q1 _, q2 13, q1 _, q2 14, q2 15, q2 16, q2 17, q1 _, q2 2, q1 _, q2 18, q2 19, q2 20, q2 21, q2 22, q1 _, q2 23, q2 24, q2 25]), .inl (0, 72, .inl _), .inl (0, 8, .inl _)]) (And.intro rfl (And.intro rfl (And.intro rfl (And.intro ⟨⟨_, rfl⟩, rfl⟩ ?_))))))
        refine Exists.intro _ (Exists.intro _ (Exists.intro _ (Exists.intro _ (Exists.intro _ (Exists.intro _ (Exists.intro _ (Exists.intro _ (Exists.intro _ (Exists.intro _ (Exists.intro _ (Exists.intro _ (Exists.intro _ (Exists.intro _ (Exists.intro _ (Exists.intro _ (Exists.intro _ (Exists.intro _ (Exists.intro _ (Exists.intro _ (Exists.intro _ (Exists.intro _ (Exists.intro _ (And.intro rfl (And.intro rfl (And.intro (by first | omega | assumption | exact q_rg_up (by assumption) (by omega) | exact q_rg_up (q_rg_up (by assumption) (by omega)) (by omega) | exact q_rg_cpy (by assumption) (by assumption)) (And.intro (by first | omega | assumption | exact q_rg_up (by assumption) (by omega) | exact q_rg_up (q_rg_up (by assumption) (by omega)) (by omega) | exact q_rg_cpy (by assumption) (by assumption)) (?_)))))))))))))))))))))))))))
        intro z52 x_bk_52
        exact hQ _ _ _ _
    · intro h24
      first | replace h21 := dj1 h21 h24 | replace h21 := dj0 h21 h24
      intro z31 h31
      first | replace h31 := e_sub h31 (by omega) | replace h31 := e_rng h31
      refine Exists.intro [0, 2, 4, 5, 6, 7, 1, 8, 9, 10, 11, 12, 13, 14, 15, 16, 17, 3, 18, 19, 20, 21, 22, 23, 24, 25] (Exists.intro [q2 0, q1 _] (Exists.intro ([.inr (12, [q1 _, q2 2, q2 3, q2 4, q2 5, q2 6, q2 7, q2 8, q2 1, q2 9, q1 _, q1 _, q1 _, q1 _, q1 _, q3 _, q1 _, q1 _, q1 _, q2 10, q2 11, q1 _, q1 _, q1 _, q1 _, q1 _, q1 _, q2 12, q1 _, q2 13, q2 14, q2 15, q2 16, q1 _, q2 17, q1 _, q2 18, q2 19, q2 20, q2 21, q2 22, q1 _, q2 23, q2 24, q2 25]), .inl (0, 72, .inl _)]) (And.intro rfl (And.intro rfl (And.intro rfl (And.intro ⟨⟨_, rfl⟩, rfl⟩ ?_))))))
      refine Exists.intro _ (Exists.intro _ (Exists.intro _ (Exists.intro _ (Exists.intro _ (Exists.intro _ (Exists.intro _ (Exists.intro _ (Exists.intro _ (Exists.intro _ (Exists.intro _ (Exists.intro _ (Exists.intro _ (Exists.intro _ (Exists.intro _ (Exists.intro _ (Exists.intro _ (Exists.intro _ (Exists.intro _ (Exists.intro _ (Exists.intro _ (Exists.intro _ (And.intro rfl (And.intro rfl (And.intro (by first | omega | assumption | exact q_rg_up (by assumption) (by omega) | exact q_rg_up (q_rg_up (by assumption) (by omega)) (by omega) | exact q_rg_cpy (by assumption) (by assumption)) (And.intro (by first | omega | assumption | exact q_rg_up (by assumption) (by omega) | exact q_rg_up (q_rg_up (by assumption) (by omega)) (by omega) | exact q_rg_cpy (by assumption) (by assumption)) (?_))))))))))))))))))))))))))
      intro z32
      exact hQ _ _ _ _
  · intro h10
    first | replace h7 := dj1 h7 h10 | replace h7 := dj0 h7 h10
    exact hQ _ _ _ _
