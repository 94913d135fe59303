/-- a line more of a text -/
theorem RdS_n {t : Nat → Int} {n s st nx fa pl nx' fa' pl' tk b e nm r : Int} {k : Nat} {f1 f2 f3 f4 f5 f6 f7 k1 k2 k3 k4 g p q : Nat → Int} {u0 u1 u2 u3 u4 np nd d o c : Int} {C : Prop} (h : RdS (stS t n s k) nx fa pl C) (hA : AdvR t n nx b e tk nm) (hk : ¬ tk = 0) (hr : ¬ r = 0)
    (hL : LnR t n s (nx, fa, pl, (stS t n s k).2.2.2.1, (stS t n s k).2.2.2.2.1, (stS t n s k).2.2.2.2.2) r st nx' fa' pl' (CsI fa' s (dS t n s (nx, fa, pl, (stS t n s k).2.2.2.1, (stS t n s k).2.2.2.2.1, (stS t n s k).2.2.2.2.2)) (gS t n s (nx, fa, pl, (stS t n s k).2.2.2.1, (stS t n s k).2.2.2.2.1, (stS t n s k).2.2.2.2.2)) (hS t n s (nx, fa, pl, (stS t n s k).2.2.2.1, (stS t n s k).2.2.2.2.1, (stS t n s k).2.2.2.2.2)) f1 f2 f3 f4 f5 f6 f7 u0 u1 u2 u3 u4 np nd k1 k2 k3 k4 d g o p q c)) :
    RdS (stS t n s (k + 1)) nx' fa' pl' (CsI fa' s (stS t n s (k + 1)).2.2.2.1 (stS t n s (k + 1)).2.2.2.2.1 (stS t n s (k + 1)).2.2.2.2.2 f1 f2 f3 f4 f5 f6 f7 u0 u1 u2 u3 u4 np nd k1 k2 k3 k4 d g o p q c) := by
  rw [RdS_S h] at hL
  have e1 : nx = (stS t n s k).1 := h.1
  rcases hL with ⟨-, a1, a2, a3, a4, a5⟩ | ⟨e9, -⟩
  · have hn : ¬ hlt t n s (stS t n s k) := by
      rintro (hq_9 | hq_9)
      · exact hk (by rw [hA.2.2.1, e1]; exact hq_9)
      · exact hq_9 a1
    have e2 : stS t n s (k + 1) = _ := nxS_n hn
    rw [e2]
    refine ⟨a2, a3, a4, fun hq_0 => ?_⟩
    have h0' : fS t n s (stS t n s k) = 0 := by rw [← a3]; exact hq_0
    show Cs s (pifT (fS t n s (stS t n s k) = 0) (dS t n s (stS t n s k)) (stS t n s k).2.2.2.1) (pif (fS t n s (stS t n s k) = 0) (gS t n s (stS t n s k)) (stS t n s k).2.2.2.2.1) (pif (fS t n s (stS t n s k) = 0) (hS t n s (stS t n s k)) (stS t n s k).2.2.2.2.2) _ _ _ _ _ _ _ _ _ _ _ _ _ _ _ _ _ _ _ _ _ _ _ _
    rw [pifT_t h0', pif_t h0', pif_t h0']
    exact a5 hq_0
  · exact absurd e9 hr
/-- a text that breaks off -/
theorem RdO_1 {t : Nat → Int} {n s st nx fa pl nx' fa' pl' tk b e nm r : Int} {k : Nat} {C C' : Prop} (h : RdS (stS t n s k) nx fa pl C) (hA : AdvR t n nx b e tk nm) (hk : ¬ tk = 0) (hr : r = 0) (hL : LnR t n s (nx, fa, pl, (stS t n s k).2.2.2.1, (stS t n s k).2.2.2.2.1, (stS t n s k).2.2.2.2.2) r st nx' fa' pl' C') : RdO t n s 1 st (stS t n s k).2.2.2.1 := by
  rw [RdS_S h] at hL
  have e1 : nx = (stS t n s k).1 := h.1
  have hk0 : ¬ tK t n (stS t n s k).1 = 0 := by rw [← e1, ← hA.2.2.1]; exact hk
  rcases hL with ⟨e9, -⟩ | ⟨-, a1, a2⟩
  · omega
  · exact ⟨k, Or.inr a1, by unfold enF; rw [if_neg hk0], by unfold enP; rw [if_neg hk0]; exact a2, rfl⟩
/-- a text to its end -/
theorem RdO_2 {t : Nat → Int} {n s nx fa pl fa' pl' tk b e nm : Int} {k : Nat} {C : Prop} (h : RdS (stS t n s k) nx fa pl C) (hp : fa = 0 → pl = -1) (hA : AdvR t n nx b e tk nm) (hk : tk = 0) (hL : ClR s (stS t n s k).2.2.2.1 (stS t n s k).2.2.2.2.1 (stS t n s k).2.2.2.2.2 n fa pl fa' pl') : RdO t n s fa' pl' (stS t n s k).2.2.2.1 := by
  obtain ⟨e1, e2, e3, -⟩ := h
  have hk0 : tK t n (stS t n s k).1 = 0 := by rw [← e1, ← hA.2.2.1]; exact hk
  rcases hL with ⟨a1, a2, a3⟩ | ⟨a1, a2, a3⟩
  · rw [hp a1] at a3
    exact ⟨k, Or.inl hk0, by unfold enF; rw [if_pos hk0, ← e2, if_pos a1]; exact a2, by unfold enP; rw [if_pos hk0, ← e2, if_pos a1]; exact a3, rfl⟩
  · exact ⟨k, Or.inl hk0, by unfold enF; rw [if_pos hk0, ← e2, if_neg a1]; exact a2, by unfold enP; rw [if_pos hk0, ← e2, if_neg a1, ← e3]; exact a3, rfl⟩
theorem RdC_c {t : Nat → Int} {n s nx fa pl : Int} {k : Nat} {f1 f2 f3 f4 f5 f6 f7 k1 k2 k3 k4 g p q : Nat → Int} {u0 u1 u2 u3 u4 np nd d o c : Int} (h : RdS (stS t n s k) nx fa pl (CsI fa s (stS t n s k).2.2.2.1 (stS t n s k).2.2.2.2.1 (stS t n s k).2.2.2.2.2 f1 f2 f3 f4 f5 f6 f7 u0 u1 u2 u3 u4 np nd k1 k2 k3 k4 d g o p q c)) : (fa = 0 ∧ XC s (CB f1 f2 f3 f4 f5 f6 f7 u0 u1 u2 u3 u4 (stS t n s k).2.2.2.1 ∧ NPR np (stS t n s k).2.2.2.2.1 ∧ NPR nd (stS t n s k).2.2.2.2.2 ∧ ParD (stS t n s k).2.2.2.1 (stS t n s k).2.2.2.2.1)) ∨ ¬ fa = 0 := by
  by_cases e : fa = 0
  · refine Or.inl ⟨e, fun hs => ?_⟩
    obtain ⟨-, e2, -, hC⟩ := h
    obtain ⟨c1, c2, c3⟩ := (hC e).1 hs
    exact ⟨c1, c2, c3, stS_par hs k (by rw [← e2]; exact e)⟩
  · exact Or.inr e
theorem ClR_k {s fp fd n fa pl fa' pl' : Int} {D : Nat → Int} (h : ClR s D fp fd n fa pl fa' pl') (hq_0 : fa' = 0) : fa = 0 := by
  rcases h with ⟨a, -⟩ | ⟨a, b, -⟩
  · exact a
  · omega
/-- while there is no FAULT its place is NONE -/
theorem stS_pl {t : Nat → Int} {n s : Int} : ∀ k : Nat, (stS t n s k).2.1 = 0 → (stS t n s k).2.2.1 = -1 := by
  intro k
  induction k with
  | zero => intro _; rfl
  | succ k ih =>
    intro h
    by_cases c : hlt t n s (stS t n s k)
    · have e : stS t n s (k + 1) = stS t n s k := pifT_t c
      rw [e] at h ⊢
      exact ih h
    · have e : stS t n s (k + 1) = _ := nxS_n c
      rw [e] at h ⊢
      obtain ⟨S, eS⟩ : ∃ S, S = stS t n s k := ⟨_, rfl⟩
      rw [← eS] at h ih ⊢
      have h : fS t n s S = 0 := h
      show pS t n s S = -1
      have hq_2 : lfa t n (sW t n s S) S.1 (f1S t n s S) 3 = 0 := h
      obtain ⟨hf2, n2⟩ := ntF_0 (by decide) hq_2
      obtain ⟨hf1, n1⟩ := ntF_0 (by decide) hf2
      obtain ⟨hf0, n0⟩ := ntF_0 (by decide) hf1
      obtain ⟨hf, nf⟩ := ntF_0 (by decide) hf0
      have hp := ih hf
      show ntP _ _ _ (ntP _ _ _ (ntP _ _ _ (ntP _ _ _ S.2.2.1))) = -1
      rw [ntP_n n2, ntP_n n1, ntP_n n0, ntP_n nf]
      exact hp
theorem LnR_x {t : Nat → Int} {n s p fa pl fp fd r st nx fa' pl' : Int} {D : Nat → Int} {C : Prop} (h : LnR t n s (p, fa, pl, D, fp, fd) r st nx fa' pl' C) (hr : ¬ r = 0) : nx = lnP t n (liW t n p s) p := by
  rcases h with ⟨-, -, h, -⟩ | ⟨h, -⟩
  · exact h
  · exact absurd h hr

theorem dF6_read_0 : decode cX6_read 0 = .ok (.aload_n 0, 1) := by decide +kernel
theorem dF6_read_1 : decode cX6_read 1 = .ok (.aload_n 2, 1) := by decide +kernel
theorem dF6_read_2 : decode cX6_read 2 = .ok (.iload_n 3, 1) := by decide +kernel
theorem dF6_read_3 : decode cX6_read 3 = .ok (.invokevirtual 47, 3) := by decide +kernel
theorem dF6_read_6 : decode cX6_read 6 = .ok (.iconst 0, 1) := by decide +kernel
theorem dF6_read_7 : decode cX6_read 7 = .ok (.istore 4, 2) := by decide +kernel
theorem dF6_read_9 : decode cX6_read 9 = .ok (.iload 4, 2) := by decide +kernel
theorem dF6_read_11 : decode cX6_read 11 = .ok (.aload_n 0, 1) := by decide +kernel
theorem dF6_read_12 : decode cX6_read 12 = .ok (.getfield 51, 3) := by decide +kernel
theorem dF6_read_15 : decode cX6_read 15 = .ok (.if_icmp .gt 48, 3) := by decide +kernel
theorem dF6_read_18 : decode cX6_read 18 = .ok (.aload_n 0, 1) := by decide +kernel
theorem dF6_read_19 : decode cX6_read 19 = .ok (.invokevirtual 55, 3) := by decide +kernel
theorem dF6_read_22 : decode cX6_read 22 = .ok (.aload_n 0, 1) := by decide +kernel
theorem dF6_read_23 : decode cX6_read 23 = .ok (.getfield 58, 3) := by decide +kernel
theorem dF6_read_26 : decode cX6_read 26 = .ok (.ifCond .ne 9, 3) := by decide +kernel
theorem dF6_read_29 : decode cX6_read 29 = .ok (.aload_n 0, 1) := by decide +kernel
theorem dF6_read_30 : decode cX6_read 30 = .ok (.iload_n 1, 1) := by decide +kernel
theorem dF6_read_31 : decode cX6_read 31 = .ok (.invokevirtual 61, 3) := by decide +kernel
theorem dF6_read_34 : decode cX6_read 34 = .ok (.return_, 1) := by decide +kernel
theorem dF6_read_35 : decode cX6_read 35 = .ok (.aload_n 0, 1) := by decide +kernel
theorem dF6_read_36 : decode cX6_read 36 = .ok (.iload_n 1, 1) := by decide +kernel
theorem dF6_read_37 : decode cX6_read 37 = .ok (.invokevirtual 65, 3) := by decide +kernel
theorem dF6_read_40 : decode cX6_read 40 = .ok (.ifCond .ne 17, 3) := by decide +kernel
theorem dF6_read_43 : decode cX6_read 43 = .ok (.aload_n 0, 1) := by decide +kernel
theorem dF6_read_44 : decode cX6_read 44 = .ok (.iconst 1, 1) := by decide +kernel
theorem dF6_read_45 : decode cX6_read 45 = .ok (.putfield 69, 3) := by decide +kernel
theorem dF6_read_48 : decode cX6_read 48 = .ok (.aload_n 0, 1) := by decide +kernel
theorem dF6_read_49 : decode cX6_read 49 = .ok (.aload_n 0, 1) := by decide +kernel
theorem dF6_read_50 : decode cX6_read 50 = .ok (.getfield 72, 3) := by decide +kernel
theorem dF6_read_53 : decode cX6_read 53 = .ok (.putfield 75, 3) := by decide +kernel
theorem dF6_read_56 : decode cX6_read 56 = .ok (.return_, 1) := by decide +kernel
theorem dF6_read_57 : decode cX6_read 57 = .ok (.iinc 4 1, 3) := by decide +kernel
theorem dF6_read_60 : decode cX6_read 60 = .ok (.goto (-51), 3) := by decide +kernel
theorem dF6_read_63 : decode cX6_read 63 = .ok (.return_, 1) := by decide +kernel
def is_F6_read : Nat → List Nat := fun d => if d = 9 then [0, 1, 4] else []
set_option maxRecDepth 100000 in
def b_F6_read_56 (J : Nat → List qV → List qV → qW → Prop) (Q : qR) : qK := x_vret Q
set_option maxRecDepth 100000 in
theorem s_F6_read_56 {p : Program} {l : Launch} {e : Env} {R : Room} {s : State} {m : MethodId} {args : Array Value} {below : List Frame} {meth : Method} {c : Code} {nW : Nat} {dC : Nat → ClassId} {dI : Nat → Nat → Nat} {k : Nat → ClassId} {g : Nat → Nat} {A : Nat → Prop} {J : Nat → List qV → List qV → qW → Prop} {Q : qR} (X : q_X p R s m args meth c cX6_read 5 nW 8 174 RX6 none dC dI k g A) (hJ : ∀ d : Nat, q_Sd p l e R s m args below meth c 5 nW dC dI k g A (MQ below (q_post (dC, dI) k g nW Q A) args s 0 0 A) d (x_cut (is_F6_read d) (J d))) : q_Sd p l e R s m args below meth c 5 nW dC dI k g A (MQ below (q_post (dC, dI) k g nW Q A) args s 0 0 A) 56 (b_F6_read_56 J Q) := by
  unfold b_F6_read_56
  exact s_vret X dF6_read_56
set_option maxRecDepth 100000 in
def b_F6_read_9 (J : Nat → List qV → List qV → qW → Prop) (Q : qR) : qK := x_iload 4 (x_aload 0 (x_get 6 6 (x_icmp_gt (x_vret Q) (x_aload 0 (x_call (some 6) 1 sp_F6_advance (x_nw (x_aload 0 (x_get 6 11 (x_if_ne (x_aload 0 (x_iload 1 (x_calln (some 6) 2 sp_F6_readLine (x_if_ne (x_iinc 4 1 (x_cut [0, 1, 4] (J 9))) (x_aload 0 (x_int 1 (x_put 6 7 q_oki (x_nw (x_aload 0 (x_aload 0 (x_get 6 9 (x_put 6 8 q_oki (x_nw (b_F6_read_56 J Q)))))))))))))) (x_aload 0 (x_iload 1 (x_call (some 6) 2 sp_F6_close (x_nw (x_vret Q))))))))))))))
set_option maxRecDepth 100000 in
theorem s_F6_read_9 {p : Program} {l : Launch} {e : Env} {R : Room} {s : State} {m : MethodId} {args : Array Value} {below : List Frame} {meth : Method} {c : Code} {nW : Nat} {dC : Nat → ClassId} {dI : Nat → Nat → Nat} {k : Nat → ClassId} {g : Nat → Nat} {A : Nat → Prop} {J : Nat → List qV → List qV → qW → Prop} {Q : qR} (X : q_X p R s m args meth c cX6_read 5 nW 8 174 RX6 none dC dI k g A) (hJ : ∀ d : Nat, q_Sd p l e R s m args below meth c 5 nW dC dI k g A (MQ below (q_post (dC, dI) k g nW Q A) args s 0 0 A) d (x_cut (is_F6_read d) (J d))) : q_Sd p l e R s m args below meth c 5 nW dC dI k g A (MQ below (q_post (dC, dI) k g nW Q A) args s 0 0 A) 9 (b_F6_read_9 J Q) := by
  unfold b_F6_read_9
  refine s_iload X dF6_read_9 ?_
  refine s_aload_n X rfl dF6_read_11 ?_
  refine s_get X (T := TX6) (C := RX6) (N := 15) tu_X6 rfl (by decide) tw_277 dF6_read_12 ?_
  refine s_icmp_gt X (tgt := 63) dF6_read_15 (by decide) ?_ ?_
  · exact s_vret X dF6_read_63
  · refine s_aload_n X rfl dF6_read_18 ?_
    refine s_callV X (m_F6_advance l) tw_373 tw_374 tw_1507 tw_128 tw_375 rfl (by decide +kernel) ⟨by decide, by decide⟩ dF6_read_19 ?_
    refine s_nw ?_
    refine s_aload_n X rfl dF6_read_22 ?_
    refine s_get X (T := TX6) (C := RX6) (N := 15) tu_X6 rfl (by decide) tw_284 dF6_read_23 ?_
    refine s_if_ne X (tgt := 35) dF6_read_26 (by decide) ?_ ?_
    · refine s_aload_n X rfl dF6_read_35 ?_
      refine s_iload_n X rfl dF6_read_36 ?_
      refine s_callVn X (m_F6_readLine l) tw_402 tw_403 tw_1517 tw_128 tw_404 rfl (by decide +kernel) ⟨by decide, by decide⟩ dF6_read_37 ?_
      refine s_if_ne X (tgt := 57) dF6_read_40 (by decide) ?_ ?_
      · refine s_iinc X (by decide) dF6_read_57 ?_
        refine s_goto X (tgt := 9) dF6_read_60 (by decide) ?_
        exact hJ 9
      · refine s_aload_n X rfl dF6_read_43 ?_
        refine s_iconst X ⟨by decide, by decide⟩ dF6_read_44 ?_
        refine s_put X (T := TX6) (C := RX6) (N := 15) tu_X6 tyX6_ok nmX6 rfl (by decide) tw_278 rfl (by decide +kernel) q_oki_t dF6_read_45 ?_
        refine s_nw ?_
        refine s_aload_n X rfl dF6_read_48 ?_
        refine s_aload_n X rfl dF6_read_49 ?_
        refine s_get X (T := TX6) (C := RX6) (N := 15) tu_X6 rfl (by decide) tw_282 dF6_read_50 ?_
        refine s_put X (T := TX6) (C := RX6) (N := 15) tu_X6 tyX6_ok nmX6 rfl (by decide) tw_280 rfl (by decide +kernel) q_oki_t dF6_read_53 ?_
        refine s_nw ?_
        exact s_F6_read_56 X hJ
    · refine s_aload_n X rfl dF6_read_29 ?_
      refine s_iload_n X rfl dF6_read_30 ?_
      refine s_callV X (m_F6_close l) tw_388 tw_389 tw_1510 tw_128 tw_390 rfl (by decide +kernel) ⟨by decide, by decide⟩ dF6_read_31 ?_
      refine s_nw ?_
      exact s_vret X dF6_read_34
set_option maxRecDepth 100000 in
def b_F6_read_0 (J : Nat → List qV → List qV → qW → Prop) (Q : qR) : qK := x_aload 0 (x_aload 2 (x_iload 3 (x_calln (some 6) 3 sp_F6_open (x_int 0 (x_istore 4 (x_cut [0, 1, 4] (J 9)))))))
set_option maxRecDepth 100000 in
theorem s_F6_read_0 {p : Program} {l : Launch} {e : Env} {R : Room} {s : State} {m : MethodId} {args : Array Value} {below : List Frame} {meth : Method} {c : Code} {nW : Nat} {dC : Nat → ClassId} {dI : Nat → Nat → Nat} {k : Nat → ClassId} {g : Nat → Nat} {A : Nat → Prop} {J : Nat → List qV → List qV → qW → Prop} {Q : qR} (X : q_X p R s m args meth c cX6_read 5 nW 8 174 RX6 none dC dI k g A) (hJ : ∀ d : Nat, q_Sd p l e R s m args below meth c 5 nW dC dI k g A (MQ below (q_post (dC, dI) k g nW Q A) args s 0 0 A) d (x_cut (is_F6_read d) (J d))) : q_Sd p l e R s m args below meth c 5 nW dC dI k g A (MQ below (q_post (dC, dI) k g nW Q A) args s 0 0 A) 0 (b_F6_read_0 J Q) := by
  unfold b_F6_read_0
  refine s_aload_n X rfl dF6_read_0 ?_
  refine s_aload_n X rfl dF6_read_1 ?_
  refine s_iload_n X rfl dF6_read_2 ?_
  refine s_callVn X (m_F6_open l) tw_361 tw_362 tw_1516 tw_128 tw_363 rfl (by decide +kernel) ⟨by decide, by decide⟩ dF6_read_3 ?_
  refine s_iconst X ⟨by decide, by decide⟩ dF6_read_6 ?_
  refine s_istore X (by decide) dF6_read_7 ?_
  exact hJ 9

def sp_F6_read : qS := fun av w Q => ∃ (rln : Int) (rfa : Int) (rpl : Int) (rst : Int) (rnx : Int) (rtk : Int) (rnm : Int) (rnp : Int) (rnd : Int) (tp : Nat → Int) (rv : Nat → Int) (rbf1 : Nat → Int) (rbf2 : Nat → Int) (rbf3 : Nat → Int) (rbf4 : Nat → Int) (rbf5 : Nat → Int) (rbf6 : Nat → Int) (rbf7 : Nat → Int) (rbu0 : Int) (rbu1 : Int) (rbu2 : Int) (rbu3 : Int) (rbu4 : Int) (ryk1 : Nat → Int) (ryk2 : Nat → Int) (ryk3 : Nat → Int) (ryk4 : Nat → Int) (ryd : Int) (rlg : Nat → Int) (rlo : Int) (rsp : Nat → Int) (rsq : Nat → Int) (rsc : Int) (a : Int) (b : Int), av = [q2 0, q1 a, q2 1, q1 b] ∧ w = [.inr (6, [q2 3, q2 11, q2 16, q2 18, q2 2, q2 21, q1 rln, q1 rfa, q1 rpl, q1 rst, q1 rnx, q1 rtk, q1 rnm, q1 rnp, q1 rnd]), .inl (1, 600, .inl tp), .inl (0, 3, .inl rv), .inr (0, [q2 4, q2 5, q2 6, q2 7, q2 8, q2 9, q2 10, q1 rbu0, q1 rbu1, q1 rbu2, q1 rbu3, q1 rbu4]), .inl (0, 8, .inl rbf1), .inl (0, 8, .inl rbf2), .inl (0, 4, .inl rbf3), .inl (0, 32, .inl rbf4), .inl (0, 6, .inl rbf5), .inl (0, 6, .inl rbf6), .inl (0, 6, .inl rbf7), .inr (10, [q2 12, q2 13, q2 14, q2 15, q1 ryd]), .inl (0, 40, .inl ryk1), .inl (0, 40, .inl ryk2), .inl (0, 40, .inl ryk3), .inl (0, 40, .inl ryk4), .inr (3, [q2 17, q1 rlo]), .inl (0, 8, .inl rlg), .inr (7, [q2 19, q2 20, q1 rsc]), .inl (0, 10, .inl rsp), .inl (0, 10, .inl rsq)] ∧ (0 ≤ b ∧ b ≤ 600) ∧ (0 ≤ rst ∧ rst ≤ 600) ∧ (q_rg 0 9 rbf3) ∧ (0 ≤ a ∧ a ≤ 3) ∧ (∀ (x_rln : Int) (x_rst : Int) (x_rnx : Int) (x_rtk : Int) (x_rnm : Int) (x_rfa : Int) (x_rpl : Int) (x_rv : Nat → Int) (x_rbf1 : Nat → Int) (x_rbf2 : Nat → Int) (x_rbf3 : Nat → Int) (x_rbf4 : Nat → Int) (x_rbf5 : Nat → Int) (x_rbf6 : Nat → Int) (x_rbf7 : Nat → Int) (x_rbu0 : Int) (x_rbu1 : Int) (x_rbu2 : Int) (x_rbu3 : Int) (x_rbu4 : Int) (x_rnp : Int) (x_rnd : Int) (x_ryk1 : Nat → Int) (x_ryk2 : Nat → Int) (x_ryk3 : Nat → Int) (x_ryk4 : Nat → Int) (x_ryd : Int) (x_rlg : Nat → Int) (x_rlo : Int) (x_rsp : Nat → Int) (x_rsq : Nat → Int) (x_rsc : Int), ((((0 ≤ x_rbu0 ∧ x_rbu0 ≤ 8 ∧ 0 ≤ x_rbu3 ∧ x_rbu3 ≤ 6 ∧ 0 ≤ x_rbu4 ∧ x_rbu4 ≤ 6 ∧ q_rg 0 9 x_rbf3) ∧ (0 ≤ x_ryd ∧ x_ryd ≤ 40) ∧ (0 ≤ x_rsc ∧ x_rsc ≤ 10)) ∧ (0 ≤ x_rst ∧ x_rst ≤ 600)) ∧ (∃ (D : Nat → Int) (fp fd : Int), RdO (tc tp) b a x_rfa x_rpl D ∧ CsI x_rfa a D fp fd x_rbf1 x_rbf2 x_rbf3 x_rbf4 x_rbf5 x_rbf6 x_rbf7 x_rbu0 x_rbu1 x_rbu2 x_rbu3 x_rbu4 x_rnp x_rnd x_ryk1 x_ryk2 x_ryk3 x_ryk4 x_ryd x_rlg x_rlo x_rsp x_rsq x_rsc)) → Q none ([.inr (6, [q2 3, q2 11, q2 16, q2 18, q2 2, q2 1, q1 x_rln, q1 x_rfa, q1 x_rpl, q1 x_rst, q1 x_rnx, q1 x_rtk, q1 x_rnm, q1 x_rnp, q1 x_rnd]), .inl (1, 600, .inl tp), .inl (0, 3, .inl x_rv), .inr (0, [q2 4, q2 5, q2 6, q2 7, q2 8, q2 9, q2 10, q1 x_rbu0, q1 x_rbu1, q1 x_rbu2, q1 x_rbu3, q1 x_rbu4]), .inl (0, 8, .inl x_rbf1), .inl (0, 8, .inl x_rbf2), .inl (0, 4, .inl x_rbf3), .inl (0, 32, .inl x_rbf4), .inl (0, 6, .inl x_rbf5), .inl (0, 6, .inl x_rbf6), .inl (0, 6, .inl x_rbf7), .inr (10, [q2 12, q2 13, q2 14, q2 15, q1 x_ryd]), .inl (0, 40, .inl x_ryk1), .inl (0, 40, .inl x_ryk2), .inl (0, 40, .inl x_ryk3), .inl (0, 40, .inl x_ryk4), .inr (3, [q2 17, q1 x_rlo]), .inl (0, 8, .inl x_rlg), .inr (7, [q2 19, q2 20, q1 x_rsc]), .inl (0, 10, .inl x_rsp), .inl (0, 10, .inl x_rsq)]))
def I_F6_read (rln : Int) (rfa : Int) (rpl : Int) (rst : Int) (rnx : Int) (rtk : Int) (rnm : Int) (rnp : Int) (rnd : Int) (tp : Nat → Int) (rv : Nat → Int) (rbf1 : Nat → Int) (rbf2 : Nat → Int) (rbf3 : Nat → Int) (rbf4 : Nat → Int) (rbf5 : Nat → Int) (rbf6 : Nat → Int) (rbf7 : Nat → Int) (rbu0 : Int) (rbu1 : Int) (rbu2 : Int) (rbu3 : Int) (rbu4 : Int) (ryk1 : Nat → Int) (ryk2 : Nat → Int) (ryk3 : Nat → Int) (ryk4 : Nat → Int) (ryd : Int) (rlg : Nat → Int) (rlo : Int) (rsp : Nat → Int) (rsq : Nat → Int) (rsc : Int) (a : Int) (b : Int) : Nat → Nat → List qV → List qV → qW → Prop := fun dz mz vz sz wz => if dz = 9 then (∃ (y_rst : Int) (y_rnx : Int) (y_rtk : Int) (y_rnm : Int) (y_rfa : Int) (y_rpl : Int) (y_rv : Nat → Int) (y_rbf1 : Nat → Int) (y_rbf2 : Nat → Int) (y_rbf3 : Nat → Int) (y_rbf4 : Nat → Int) (y_rbf5 : Nat → Int) (y_rbf6 : Nat → Int) (y_rbf7 : Nat → Int) (y_rbu0 : Int) (y_rbu1 : Int) (y_rbu2 : Int) (y_rbu3 : Int) (y_rbu4 : Int) (y_rnp : Int) (y_rnd : Int) (y_ryk1 : Nat → Int) (y_ryk2 : Nat → Int) (y_ryk3 : Nat → Int) (y_ryk4 : Nat → Int) (y_ryd : Int) (y_rlg : Nat → Int) (y_rlo : Int) (y_rsp : Nat → Int) (y_rsq : Nat → Int) (y_rsc : Int) (kk : Nat) (v4 : Int), vz = [q2 0, q1 a, q1 v4] ∧ sz = [] ∧ wz = [.inr (6, [q2 3, q2 11, q2 16, q2 18, q2 2, q2 1, q1 b, q1 y_rfa, q1 y_rpl, q1 y_rst, q1 y_rnx, q1 y_rtk, q1 y_rnm, q1 y_rnp, q1 y_rnd]), .inl (1, 600, .inl tp), .inl (0, 3, .inl y_rv), .inr (0, [q2 4, q2 5, q2 6, q2 7, q2 8, q2 9, q2 10, q1 y_rbu0, q1 y_rbu1, q1 y_rbu2, q1 y_rbu3, q1 y_rbu4]), .inl (0, 8, .inl y_rbf1), .inl (0, 8, .inl y_rbf2), .inl (0, 4, .inl y_rbf3), .inl (0, 32, .inl y_rbf4), .inl (0, 6, .inl y_rbf5), .inl (0, 6, .inl y_rbf6), .inl (0, 6, .inl y_rbf7), .inr (10, [q2 12, q2 13, q2 14, q2 15, q1 y_ryd]), .inl (0, 40, .inl y_ryk1), .inl (0, 40, .inl y_ryk2), .inl (0, 40, .inl y_ryk3), .inl (0, 40, .inl y_ryk4), .inr (3, [q2 17, q1 y_rlo]), .inl (0, 8, .inl y_rlg), .inr (7, [q2 19, q2 20, q1 y_rsc]), .inl (0, 10, .inl y_rsp), .inl (0, 10, .inl y_rsq)] ∧ mz = (601 - v4).toNat ∧ (0 ≤ v4 ∧ v4 ≤ 601 ∧ v4 ≤ y_rnx ∧ y_rnx ≤ b ∧ 0 ≤ y_rst ∧ y_rst ≤ 600) ∧ (0 ≤ y_rbu0 ∧ y_rbu0 ≤ 8 ∧ 0 ≤ y_rbu3 ∧ y_rbu3 ≤ 6 ∧ 0 ≤ y_rbu4 ∧ y_rbu4 ≤ 6) ∧ (q_rg 0 9 y_rbf3) ∧ (0 ≤ y_ryd ∧ y_ryd ≤ 40 ∧ 0 ≤ y_rsc ∧ y_rsc ≤ 10) ∧ (RdS (stS (tc tp) b a kk) y_rnx y_rfa y_rpl (CsI y_rfa a (stS (tc tp) b a kk).2.2.2.1 (stS (tc tp) b a kk).2.2.2.2.1 (stS (tc tp) b a kk).2.2.2.2.2 y_rbf1 y_rbf2 y_rbf3 y_rbf4 y_rbf5 y_rbf6 y_rbf7 y_rbu0 y_rbu1 y_rbu2 y_rbu3 y_rbu4 y_rnp y_rnd y_ryk1 y_ryk2 y_ryk3 y_ryk4 y_ryd y_rlg y_rlo y_rsp y_rsq y_rsc))) else False
set_option maxHeartbeats 4000000 in
set_option maxRecDepth 100000 in
theorem m_F6_read (l : Launch) : q_M l yX6_read cX6_read 5 none 8 174 sp_F6_read := by
  refine q_meth (by decide) (fun av w Q h => by obtain ⟨rln, rfa, rpl, rst, rnx, rtk, rnm, rnp, rnd, tp, rv, rbf1, rbf2, rbf3, rbf4, rbf5, rbf6, rbf7, rbu0, rbu1, rbu2, rbu3, rbu4, ryk1, ryk2, ryk3, ryk4, ryd, rlg, rlo, rsp, rsq, rsc, a, b, rfl, rfl, hb, hst0, hf3, ha, hQ⟩ := h; exact Nat.le_of_ble_eq_true rfl) ?_
  intro p e R s m args below meth c dC dI k g A av w Q hsp oka okw X
  obtain ⟨rln, rfa, rpl, rst, rnx, rtk, rnm, rnp, rnd, tp, rv, rbf1, rbf2, rbf3, rbf4, rbf5, rbf6, rbf7, rbu0, rbu1, rbu2, rbu3, rbu4, ryk1, ryk2, ryk3, ryk4, ryd, rlg, rlo, rsp, rsq, rsc, a, b, rfl, rfl, hb, hst0, hf3, ha, hQ⟩ := hsp
  have o_a : -2147483648 ≤ a ∧ a ≤ 2147483647 := oka _ (List.mem_of_getElem? (i := 1) rfl)
  have o_b : -2147483648 ≤ b ∧ b ≤ 2147483647 := oka _ (List.mem_of_getElem? (i := 3) rfl)
  refine s_mono (s_F6_read_0 X (J := fun dz vz sz wz => ∃ mz, I_F6_read rln rfa rpl rst rnx rtk rnm rnp rnd tp rv rbf1 rbf2 rbf3 rbf4 rbf5 rbf6 rbf7 rbu0 rbu1 rbu2 rbu3 rbu4 ryk1 ryk2 ryk3 ryk4 ryd rlg rlo rsp rsq rsc a b dz mz vz sz wz) (q_loopn (I_F6_read rln rfa rpl rst rnx rtk rnm rnp rnd tp rv rbf1 rbf2 rbf3 rbf4 rbf5 rbf6 rbf7 rbu0 rbu1 rbu2 rbu3 rbu4 ryk1 ryk2 ryk3 ryk4 ryd rlg rlo rsp rsq rsc a b) (fun dz J => if dz = 9 then b_F6_read_9 J Q else q_F) ?hs ?hv)) ?_
  case hs =>
    intro d J hJ
    by_cases hq_9 : d = 9
    · subst hq_9; exact s_F6_read_9 X hJ
    simp only [hq_9, if_false]
    exact s_F
  case hv =>
    intro dz mz vz sz wz hI okv oks okw hlen
    by_cases hq_9 : dz = 9
    · subst hq_9
      obtain ⟨y_rst, y_rnx, y_rtk, y_rnm, y_rfa, y_rpl, y_rv, y_rbf1, y_rbf2, y_rbf3, y_rbf4, y_rbf5, y_rbf6, y_rbf7, y_rbu0, y_rbu1, y_rbu2, y_rbu3, y_rbu4, y_rnp, y_rnd, y_ryk1, y_ryk2, y_ryk3, y_ryk4, y_ryd, y_rlg, y_rlo, y_rsp, y_rsq, y_rsc, kk, v4, rfl, rfl, rfl, hn, hp, hyb, hyf, hyd, hS⟩ := hI
      apply And.intro
      · intro hq_15
        exact hQ _ _ _ _ _ _ _ _ _ _ _ _ _ _ _ _ _ _ _ _ _ _ _ _ _ _ _ _ _ _ _ _ (by first | (exfalso; omega) | exact ⟨⟨⟨⟨by omega, by omega, by omega, by omega, by omega, by omega, (by first | assumption | exact q_rg_up (by assumption) (by omega) | exact q_rg_up (q_rg_up (by assumption) (by omega)) (by omega) | exact q_rg_cpy (by assumption) (by assumption) | omega)⟩, by omega, by omega⟩, by omega⟩, ⟨_, 0, 0, RdO_1 hS hq_19.1 hq_26 hq_40 hq_37.1, fun hq_9 => absurd hq_9 (by decide)⟩⟩ | exact ⟨⟨⟨⟨by omega, by omega, by omega, by omega, by omega, by omega, (by first | assumption | exact q_rg_up (by assumption) (by omega) | exact q_rg_up (q_rg_up (by assumption) (by omega)) (by omega) | exact q_rg_cpy (by assumption) (by assumption) | omega)⟩, by omega, by omega⟩, by omega⟩, ⟨_, _, _, RdO_2 hS hpl hq_19.1 hq_26 hq_31, fun hq_9 => hS.2.2.2 (ClR_k hq_31 hq_9)⟩⟩)
      · intro hq_15
        refine Exists.intro [0, 1, 3, 11, 16, 18, 2] (Exists.intro [q2 0] (Exists.intro ([.inr (6, [q2 2, q2 3, q2 4, q2 5, q2 6, q2 1, q1 _, q1 _, q1 _, q1 _, q1 _, q1 _, q1 _, q1 _, q1 _]), .inl (1, 600, .inl _)]) (And.intro rfl (And.intro rfl (And.intro rfl (And.intro ⟨⟨_, rfl⟩, rfl⟩ ?_))))))
        refine Exists.intro _ (Exists.intro _ (Exists.intro _ (Exists.intro _ (Exists.intro _ (Exists.intro _ (Exists.intro _ (Exists.intro _ (Exists.intro _ (Exists.intro _ (And.intro rfl (And.intro rfl (And.intro (by first | assumption | exact q_rg_up (by assumption) (by omega) | exact q_rg_up (q_rg_up (by assumption) (by omega)) (by omega) | exact q_rg_cpy (by assumption) (by assumption) | omega) (?_)))))))))))))
        intro x_rst_19 x_rnx_19 x_rtk_19 x_rnm_19 hq_19
        have hpl : y_rfa = 0 → y_rpl = -1 := fun hq_9 => by rw [hS.2.2.1]; exact stS_pl kk (by rw [← hS.2.1]; exact hq_9)
        have a19 := hq_19.1
        apply And.intro
        · intro hq_26
          refine Exists.intro [0, 1, 2, 3, 4, 5, 6, 7, 8, 9, 10, 11, 12, 13, 14, 15, 16, 17, 18, 19, 20] (Exists.intro [q2 0, q1 _] (Exists.intro ([.inr (6, [q2 3, q2 11, q2 16, q2 18, q2 2, q2 1, q1 _, q1 _, q1 _, q1 _, q1 _, q1 _, q1 _, q1 _, q1 _]), .inl (1, 600, .inl _), .inl (0, 3, .inl _), .inr (0, [q2 4, q2 5, q2 6, q2 7, q2 8, q2 9, q2 10, q1 _, q1 _, q1 _, q1 _, q1 _]), .inl (0, 8, .inl _), .inl (0, 8, .inl _), .inl (0, 4, .inl _), .inl (0, 32, .inl _), .inl (0, 6, .inl _), .inl (0, 6, .inl _), .inl (0, 6, .inl _), .inr (10, [q2 12, q2 13, q2 14, q2 15, q1 _]), .inl (0, 40, .inl _), .inl (0, 40, .inl _), .inl (0, 40, .inl _), .inl (0, 40, .inl _), .inr (3, [q2 17, q1 _]), .inl (0, 8, .inl _), .inr (7, [q2 19, q2 20, q1 _]), .inl (0, 10, .inl _), .inl (0, 10, .inl _)]) (And.intro rfl (And.intro rfl (And.intro rfl (And.intro ⟨⟨_, rfl⟩, rfl⟩ ?_))))))
          refine Exists.intro _ (Exists.intro _ (Exists.intro _ (Exists.intro _ (Exists.intro _ (Exists.intro _ (Exists.intro _ (Exists.intro _ (Exists.intro _ (Exists.intro _ (Exists.intro _ (Exists.intro _ (Exists.intro _ (Exists.intro _ (Exists.intro _ (Exists.intro _ (Exists.intro _ (Exists.intro _ (Exists.intro _ (Exists.intro _ (Exists.intro _ (Exists.intro _ (Exists.intro _ (Exists.intro _ (Exists.intro _ (Exists.intro _ (Exists.intro _ (Exists.intro _ (Exists.intro _ (Exists.intro _ (Exists.intro _ (Exists.intro _ (Exists.intro _ (Exists.intro y_rnx (Exists.intro (stS (tc tp) b a kk).2.2.2.1 (Exists.intro (stS (tc tp) b a kk).2.2.2.2.1 (Exists.intro (stS (tc tp) b a kk).2.2.2.2.2 (Exists.intro _ (And.intro rfl (And.intro rfl (And.intro (by first | assumption | exact q_rg_up (by assumption) (by omega) | exact q_rg_up (q_rg_up (by assumption) (by omega)) (by omega) | exact q_rg_cpy (by assumption) (by assumption) | omega) (And.intro (by first | assumption | exact q_rg_up (by assumption) (by omega) | exact q_rg_up (q_rg_up (by assumption) (by omega)) (by omega) | exact q_rg_cpy (by assumption) (by assumption) | omega) (And.intro (by first | assumption | exact q_rg_up (by assumption) (by omega) | exact q_rg_up (q_rg_up (by assumption) (by omega)) (by omega) | exact q_rg_cpy (by assumption) (by assumption) | omega) (And.intro (by first | assumption | exact q_rg_up (by assumption) (by omega) | exact q_rg_up (q_rg_up (by assumption) (by omega)) (by omega) | exact q_rg_cpy (by assumption) (by assumption) | omega) (And.intro (by first | assumption | exact q_rg_up (by assumption) (by omega) | exact q_rg_up (q_rg_up (by assumption) (by omega)) (by omega) | exact q_rg_cpy (by assumption) (by assumption) | omega) (And.intro (by first | assumption | exact q_rg_up (by assumption) (by omega) | exact q_rg_up (q_rg_up (by assumption) (by omega)) (by omega) | exact q_rg_cpy (by assumption) (by assumption) | omega) (And.intro (by first | assumption | exact q_rg_up (by assumption) (by omega) | exact q_rg_up (q_rg_up (by assumption) (by omega)) (by omega) | exact q_rg_cpy (by assumption) (by assumption) | omega) (And.intro (by first | assumption | exact q_rg_up (by assumption) (by omega) | exact q_rg_up (q_rg_up (by assumption) (by omega)) (by omega) | exact q_rg_cpy (by assumption) (by assumption) | omega) (And.intro hS.2.2.2 (?_)))))))))))))))))))))))))))))))))))))))))))))))))
          intro zq_37 x_rst_37 x_rnx_37 x_rtk_37 x_rnm_37 x_rfa_37 x_rpl_37 x_rv_37 x_rbf1_37 x_rbf2_37 x_rbf3_37 x_rbf4_37 x_rbf5_37 x_rbf6_37 x_rbf7_37 x_rbu0_37 x_rbu1_37 x_rbu2_37 x_rbu3_37 x_rbu4_37 x_rnp_37 x_rnd_37 x_ryk1_37 x_ryk2_37 x_ryk3_37 x_ryk4_37 x_ryd_37 x_rlg_37 x_rlo_37 x_rsp_37 x_rsq_37 x_rsc_37 hq_37
          obtain ⟨l0, l2, ⟨l3, l4, l5, l6, l7, l8, l9⟩, lA, lB⟩ := id hq_37
          apply And.intro
          · intro hq_40
            have m9 := RdS_n hS hq_19.1 hq_26 hq_40 hq_37.1
            have p9 := lnP_gt (t := tc tp) (n := b) (w := liW (tc tp) b y_rnx a) (p := y_rnx) (by omega) (by rw [← hq_19.1.2.2.1]; exact hq_26)
            have p8 : x_rnx_37 = lnP (tc tp) b (liW (tc tp) b y_rnx a) y_rnx := LnR_x hq_37.1 hq_40
            rw [← p8] at p9
            intro zq_57 hq_57
            first | replace hq_57 := e_add hq_57 (by omega) | replace hq_57 := e_rng hq_57
            exact ⟨_, ⟨_, _, _, _, _, _, _, _, _, _, _, _, _, _, _, _, _, _, _, _, _, _, _, _, _, _, _, _, _, _, _, _, _, rfl, rfl, rfl, rfl, (by first | assumption | exact q_rg_up (by assumption) (by omega) | exact q_rg_up (q_rg_up (by assumption) (by omega)) (by omega) | exact q_rg_cpy (by assumption) (by assumption) | omega), (by first | assumption | exact q_rg_up (by assumption) (by omega) | exact q_rg_up (q_rg_up (by assumption) (by omega)) (by omega) | exact q_rg_cpy (by assumption) (by assumption) | omega), (by first | assumption | exact q_rg_up (by assumption) (by omega) | exact q_rg_up (q_rg_up (by assumption) (by omega)) (by omega) | exact q_rg_cpy (by assumption) (by assumption) | omega), (by first | assumption | exact q_rg_up (by assumption) (by omega) | exact q_rg_up (q_rg_up (by assumption) (by omega)) (by omega) | exact q_rg_cpy (by assumption) (by assumption) | omega), (by first | exact m9 | exact (show RdS (stS (tc tp) _ a 0) _ _ _ _ from ⟨o2, oC, oD, fun _ => oE⟩))⟩, by omega⟩
          · intro hq_40
            apply And.intro
            · exact trivial
            apply And.intro
            · exact trivial
            exact hQ _ _ _ _ _ _ _ _ _ _ _ _ _ _ _ _ _ _ _ _ _ _ _ _ _ _ _ _ _ _ _ _ (by first | (exfalso; omega) | exact ⟨⟨⟨⟨by omega, by omega, by omega, by omega, by omega, by omega, (by first | assumption | exact q_rg_up (by assumption) (by omega) | exact q_rg_up (q_rg_up (by assumption) (by omega)) (by omega) | exact q_rg_cpy (by assumption) (by assumption) | omega)⟩, by omega, by omega⟩, by omega⟩, ⟨_, 0, 0, RdO_1 hS hq_19.1 hq_26 hq_40 hq_37.1, fun hq_9 => absurd hq_9 (by decide)⟩⟩ | exact ⟨⟨⟨⟨by omega, by omega, by omega, by omega, by omega, by omega, (by first | assumption | exact q_rg_up (by assumption) (by omega) | exact q_rg_up (q_rg_up (by assumption) (by omega)) (by omega) | exact q_rg_cpy (by assumption) (by assumption) | omega)⟩, by omega, by omega⟩, by omega⟩, ⟨_, _, _, RdO_2 hS hpl hq_19.1 hq_26 hq_31, fun hq_9 => hS.2.2.2 (ClR_k hq_31 hq_9)⟩⟩)
        · intro hq_26
          refine Exists.intro [0, 3, 4, 5, 6, 7, 8, 9, 10, 11, 16, 18, 2, 1] (Exists.intro [q2 0, q1 _] (Exists.intro ([.inr (6, [q2 1, q2 9, q2 10, q2 11, q2 12, q2 13, q1 _, q1 _, q1 _, q1 _, q1 _, q1 _, q1 _, q1 _, q1 _]), .inr (0, [q2 2, q2 3, q2 4, q2 5, q2 6, q2 7, q2 8, q1 _, q1 _, q1 _, q1 _, q1 _]), .inl (0, 8, .inl _), .inl (0, 8, .inl _), .inl (0, 4, .inl _), .inl (0, 32, .inl _), .inl (0, 6, .inl _), .inl (0, 6, .inl _), .inl (0, 6, .inl _)]) (And.intro rfl (And.intro rfl (And.intro rfl (And.intro ⟨⟨_, rfl⟩, rfl⟩ ?_))))))
          refine Exists.intro _ (Exists.intro _ (Exists.intro _ (Exists.intro _ (Exists.intro _ (Exists.intro _ (Exists.intro _ (Exists.intro _ (Exists.intro _ (Exists.intro _ (Exists.intro _ (Exists.intro _ (Exists.intro _ (Exists.intro _ (Exists.intro _ (Exists.intro _ (Exists.intro _ (Exists.intro _ (Exists.intro _ (Exists.intro _ (Exists.intro _ (Exists.intro (stS (tc tp) b a kk).2.2.2.1 (Exists.intro (stS (tc tp) b a kk).2.2.2.2.1 (Exists.intro (stS (tc tp) b a kk).2.2.2.2.2 (Exists.intro _ (And.intro rfl (And.intro rfl (And.intro (by first | assumption | exact q_rg_up (by assumption) (by omega) | exact q_rg_up (q_rg_up (by assumption) (by omega)) (by omega) | exact q_rg_cpy (by assumption) (by assumption) | omega) (And.intro (RdC_c hS) (?_)))))))))))))))))))))))))))))
          intro x_rfa_31 x_rpl_31 hq_31
          exact hQ _ _ _ _ _ _ _ _ _ _ _ _ _ _ _ _ _ _ _ _ _ _ _ _ _ _ _ _ _ _ _ _ (by first | (exfalso; omega) | exact ⟨⟨⟨⟨by omega, by omega, by omega, by omega, by omega, by omega, (by first | assumption | exact q_rg_up (by assumption) (by omega) | exact q_rg_up (q_rg_up (by assumption) (by omega)) (by omega) | exact q_rg_cpy (by assumption) (by assumption) | omega)⟩, by omega, by omega⟩, by omega⟩, ⟨_, 0, 0, RdO_1 hS hq_19.1 hq_26 hq_40 hq_37.1, fun hq_9 => absurd hq_9 (by decide)⟩⟩ | exact ⟨⟨⟨⟨by omega, by omega, by omega, by omega, by omega, by omega, (by first | assumption | exact q_rg_up (by assumption) (by omega) | exact q_rg_up (q_rg_up (by assumption) (by omega)) (by omega) | exact q_rg_cpy (by assumption) (by assumption) | omega)⟩, by omega, by omega⟩, by omega⟩, ⟨_, _, _, RdO_2 hS hpl hq_19.1 hq_26 hq_31, fun hq_9 => hS.2.2.2 (ClR_k hq_31 hq_9)⟩⟩)
    simp only [I_F6_read, hq_9, if_false] at hI
  rintro lv st w' ⟨rfl, rfl, rfl⟩
  refine Exists.intro [0, 1, 3, 4, 5, 6, 7, 8, 9, 10, 11, 12, 13, 14, 15, 16, 17, 18, 19, 20, 2, 21] (Exists.intro [q2 0, q2 1, q1 _] (Exists.intro ([.inr (6, [q2 2, q2 10, q2 15, q2 17, q2 20, q2 21, q1 _, q1 _, q1 _, q1 _, q1 _, q1 _, q1 _, q1 _, q1 _]), .inl (1, 600, .inl _), .inr (0, [q2 3, q2 4, q2 5, q2 6, q2 7, q2 8, q2 9, q1 _, q1 _, q1 _, q1 _, q1 _]), .inl (0, 8, .inl _), .inl (0, 8, .inl _), .inl (0, 4, .inl _), .inl (0, 32, .inl _), .inl (0, 6, .inl _), .inl (0, 6, .inl _), .inl (0, 6, .inl _), .inr (10, [q2 11, q2 12, q2 13, q2 14, q1 _]), .inl (0, 40, .inl _), .inl (0, 40, .inl _), .inl (0, 40, .inl _), .inl (0, 40, .inl _), .inr (3, [q2 16, q1 _]), .inl (0, 8, .inl _), .inr (7, [q2 18, q2 19, q1 _]), .inl (0, 10, .inl _), .inl (0, 10, .inl _)]) (And.intro rfl (And.intro rfl (And.intro rfl (And.intro ⟨⟨_, rfl⟩, rfl⟩ ?_))))))
  refine Exists.intro _ (Exists.intro _ (Exists.intro _ (Exists.intro _ (Exists.intro _ (Exists.intro _ (Exists.intro _ (Exists.intro _ (Exists.intro _ (Exists.intro _ (Exists.intro _ (Exists.intro _ (Exists.intro _ (Exists.intro _ (Exists.intro _ (Exists.intro _ (Exists.intro _ (Exists.intro _ (Exists.intro _ (Exists.intro _ (Exists.intro _ (Exists.intro _ (Exists.intro _ (Exists.intro _ (Exists.intro _ (Exists.intro _ (Exists.intro _ (Exists.intro _ (Exists.intro _ (Exists.intro _ (Exists.intro _ (Exists.intro _ (Exists.intro a (Exists.intro _ (And.intro rfl (And.intro rfl (And.intro (by first | assumption | exact q_rg_up (by assumption) (by omega) | exact q_rg_up (q_rg_up (by assumption) (by omega)) (by omega) | exact q_rg_cpy (by assumption) (by assumption) | omega) (And.intro (by first | assumption | exact q_rg_up (by assumption) (by omega) | exact q_rg_up (q_rg_up (by assumption) (by omega)) (by omega) | exact q_rg_cpy (by assumption) (by assumption) | omega) (?_))))))))))))))))))))))))))))))))))))))
  intro x_rln_3 x_rfa_3 x_rpl_3 x_rnx_3 x_rnp_3 x_rnd_3 x_rbf1_3 x_rbf2_3 x_rbf3_3 x_rbf4_3 x_rbf5_3 x_rbf6_3 x_rbf7_3 x_rbu0_3 x_rbu1_3 x_rbu2_3 x_rbu3_3 x_rbu4_3 x_ryd_3 x_rlg_3 x_rlo_3 x_rsc_3 hq_3
  obtain ⟨⟨o1, o2, ⟨o3, o4, o5, o6, o7, o8, o9⟩, oA, oB⟩, ⟨oC, oD⟩, oE⟩ := hq_3
  subst o1
  exact ⟨_, _, _, _, _, _, _, _, _, _, _, _, _, _, _, _, _, _, _, _, _, _, _, _, _, _, _, _, _, _, _, _, _, _, rfl, rfl, rfl, rfl, (by first | assumption | exact q_rg_up (by assumption) (by omega) | exact q_rg_up (q_rg_up (by assumption) (by omega)) (by omega) | exact q_rg_cpy (by assumption) (by assumption) | omega), (by first | assumption | exact q_rg_up (by assumption) (by omega) | exact q_rg_up (q_rg_up (by assumption) (by omega)) (by omega) | exact q_rg_cpy (by assumption) (by assumption) | omega), (by first | assumption | exact q_rg_up (by assumption) (by omega) | exact q_rg_up (q_rg_up (by assumption) (by omega)) (by omega) | exact q_rg_cpy (by assumption) (by assumption) | omega), (by first | assumption | exact q_rg_up (by assumption) (by omega) | exact q_rg_up (q_rg_up (by assumption) (by omega)) (by omega) | exact q_rg_cpy (by assumption) (by assumption) | omega), (by first | exact m9 | exact (show RdS (stS (tc tp) _ a 0) _ _ _ _ from ⟨o2, oC, oD, fun _ => oE⟩))⟩
