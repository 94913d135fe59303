theorem fl_e {g f : Nat → Int} {n : Nat} {a : Int} (h : ∀ j : Nat, g j = if (j : Int) < n then a else f j) {i : Nat} (hi : i < n) : g i = a := by rw [h i, if_pos (by omega)]
theorem blk_a : ∀ i : Fin 8, blk 0 (5 + i.val) = 0 ∧ blk 0 (13 + i.val) = -1 := by decide
theorem blk_b : ∀ i : Fin 6, blk 0 (25 + i.val) = 0 ∧ blk 0 (31 + i.val) = 0 ∧ blk 0 (37 + i.val) = 0 := by decide
theorem blk_c : ∀ i : Fin 32, blk 0 (43 + i.val) = 0 := by decide
theorem blk_d : ∀ i : Fin 4, qs_0.getD i.val 0 = blk 0 (21 + i.val) := by decide
theorem CB_0 {g1 g2 g4 g5 g6 g7 f1 f2 f3 f4 f5 f6 f7 : Nat → Int} (hq_1 : ∀ j : Nat, g1 j = if (j : Int) < (8 : Nat) then 0 else f1 j) (hq_2 : ∀ j : Nat, g2 j = if (j : Int) < (8 : Nat) then -1 else f2 j) (hq_4 : ∀ j : Nat, g4 j = if (j : Int) < (32 : Nat) then 0 else f4 j) (hq_5 : ∀ j : Nat, g5 j = if (j : Int) < (6 : Nat) then 0 else f5 j) (hq_6 : ∀ j : Nat, g6 j = if (j : Int) < (6 : Nat) then 0 else f6 j) (hq_7 : ∀ j : Nat, g7 j = if (j : Int) < (6 : Nat) then 0 else f7 j) : CB g1 g2 (va_cpy (fun i => qs_0.getD i 0) f3 0 0 4) g4 g5 g6 g7 0 0 5 0 0 (blk 0) := by
  refine ⟨⟨rfl, rfl, rfl, rfl, rfl⟩, fun i hi => ?_, fun i hi => ?_, fun i hi => ?_, fun i hi => ?_, fun i hi => ?_, fun i hi => ?_, fun i hi => ?_⟩
  · rw [fl_e hq_1 hi]; exact (blk_a ⟨i, hi⟩).1.symm
  · rw [fl_e hq_2 hi]; exact (blk_a ⟨i, hi⟩).2.symm
  · unfold va_cpy
    rw [if_pos (by omega), show 0 + (i - 0) = i by omega]
    exact blk_d ⟨i, hi⟩
  · rw [fl_e hq_4 hi]; exact (blk_c ⟨i, hi⟩).symm
  · rw [fl_e hq_5 hi]; exact (blk_b ⟨i, hi⟩).1.symm
  · rw [fl_e hq_6 hi]; exact (blk_b ⟨i, hi⟩).2.1.symm
  · rw [fl_e hq_7 hi]; exact (blk_b ⟨i, hi⟩).2.2.symm
theorem CL_0 {h g : Nat → Int} (hq_1 : ∀ j : Nat, h j = if (j : Int) < (8 : Nat) then 0 else g j) : CL h 0 (blk 2) := ⟨rfl, fun i hi => by rw [fl_e hq_1 hi]; rfl⟩
theorem Cs_b {s : Int} {f1 f2 f3 f4 f5 f6 f7 k1 k2 k3 k4 g p q : Nat → Int} {u0 u1 u2 u3 u4 np nd d o c : Int} (hB : CB f1 f2 f3 f4 f5 f6 f7 u0 u1 u2 u3 u4 (blk 0)) (hp : np = 0) (hn : nd = 0) (hd : d = 0) (hL : CL g o (blk 2)) (hc : c = 0) : Cs s (blk s) (-1) (-1) f1 f2 f3 f4 f5 f6 f7 u0 u1 u2 u3 u4 np nd k1 k2 k3 k4 d g o p q c := by
  subst hp
  subst hn
  refine ⟨fun e => ?_, fun e => ?_, fun e => ?_, fun e => ?_⟩
  · subst e; exact ⟨hB, NPR_0, NPR_0⟩
  · subst e; exact ⟨hd, fun i hi => by have hi : (i : Int) < 0 := hi; omega⟩
  · subst e; exact hL
  · subst e; exact ⟨hc, fun i hi => by have hi : (i : Int) < 0 := hi; omega⟩

theorem dF0_wipe_0 : decode cX0_wipe 0 = .ok (.aload_n 0, 1) := by decide +kernel
theorem dF0_wipe_1 : decode cX0_wipe 1 = .ok (.getfield 9, 3) := by decide +kernel
theorem dF0_wipe_4 : decode cX0_wipe 4 = .ok (.iconst 0, 1) := by decide +kernel
theorem dF0_wipe_5 : decode cX0_wipe 5 = .ok (.invokestatic 36, 3) := by decide +kernel
theorem dF0_wipe_8 : decode cX0_wipe 8 = .ok (.aload_n 0, 1) := by decide +kernel
theorem dF0_wipe_9 : decode cX0_wipe 9 = .ok (.getfield 15, 3) := by decide +kernel
theorem dF0_wipe_12 : decode cX0_wipe 12 = .ok (.iconst (-1), 1) := by decide +kernel
theorem dF0_wipe_13 : decode cX0_wipe 13 = .ok (.invokestatic 36, 3) := by decide +kernel
theorem dF0_wipe_16 : decode cX0_wipe 16 = .ok (.getstatic 42, 3) := by decide +kernel
theorem dF0_wipe_19 : decode cX0_wipe 19 = .ok (.iconst 0, 1) := by decide +kernel
theorem dF0_wipe_20 : decode cX0_wipe 20 = .ok (.aload_n 0, 1) := by decide +kernel
theorem dF0_wipe_21 : decode cX0_wipe 21 = .ok (.getfield 18, 3) := by decide +kernel
theorem dF0_wipe_24 : decode cX0_wipe 24 = .ok (.iconst 0, 1) := by decide +kernel
theorem dF0_wipe_25 : decode cX0_wipe 25 = .ok (.iconst 4, 1) := by decide +kernel
theorem dF0_wipe_26 : decode cX0_wipe 26 = .ok (.invokestatic 45, 3) := by decide +kernel
theorem dF0_wipe_29 : decode cX0_wipe 29 = .ok (.aload_n 0, 1) := by decide +kernel
theorem dF0_wipe_30 : decode cX0_wipe 30 = .ok (.getfield 21, 3) := by decide +kernel
theorem dF0_wipe_33 : decode cX0_wipe 33 = .ok (.iconst 0, 1) := by decide +kernel
theorem dF0_wipe_34 : decode cX0_wipe 34 = .ok (.invokestatic 36, 3) := by decide +kernel
theorem dF0_wipe_37 : decode cX0_wipe 37 = .ok (.aload_n 0, 1) := by decide +kernel
theorem dF0_wipe_38 : decode cX0_wipe 38 = .ok (.getfield 24, 3) := by decide +kernel
theorem dF0_wipe_41 : decode cX0_wipe 41 = .ok (.iconst 0, 1) := by decide +kernel
theorem dF0_wipe_42 : decode cX0_wipe 42 = .ok (.invokestatic 36, 3) := by decide +kernel
theorem dF0_wipe_45 : decode cX0_wipe 45 = .ok (.aload_n 0, 1) := by decide +kernel
theorem dF0_wipe_46 : decode cX0_wipe 46 = .ok (.getfield 27, 3) := by decide +kernel
theorem dF0_wipe_49 : decode cX0_wipe 49 = .ok (.iconst 0, 1) := by decide +kernel
theorem dF0_wipe_50 : decode cX0_wipe 50 = .ok (.invokestatic 36, 3) := by decide +kernel
theorem dF0_wipe_53 : decode cX0_wipe 53 = .ok (.aload_n 0, 1) := by decide +kernel
theorem dF0_wipe_54 : decode cX0_wipe 54 = .ok (.getfield 30, 3) := by decide +kernel
theorem dF0_wipe_57 : decode cX0_wipe 57 = .ok (.iconst 0, 1) := by decide +kernel
theorem dF0_wipe_58 : decode cX0_wipe 58 = .ok (.invokestatic 36, 3) := by decide +kernel
theorem dF0_wipe_61 : decode cX0_wipe 61 = .ok (.aload_n 0, 1) := by decide +kernel
theorem dF0_wipe_62 : decode cX0_wipe 62 = .ok (.iconst 0, 1) := by decide +kernel
theorem dF0_wipe_63 : decode cX0_wipe 63 = .ok (.putfield 51, 3) := by decide +kernel
theorem dF0_wipe_66 : decode cX0_wipe 66 = .ok (.aload_n 0, 1) := by decide +kernel
theorem dF0_wipe_67 : decode cX0_wipe 67 = .ok (.iconst 0, 1) := by decide +kernel
theorem dF0_wipe_68 : decode cX0_wipe 68 = .ok (.putfield 55, 3) := by decide +kernel
theorem dF0_wipe_71 : decode cX0_wipe 71 = .ok (.aload_n 0, 1) := by decide +kernel
theorem dF0_wipe_72 : decode cX0_wipe 72 = .ok (.iconst 5, 1) := by decide +kernel
theorem dF0_wipe_73 : decode cX0_wipe 73 = .ok (.putfield 58, 3) := by decide +kernel
theorem dF0_wipe_76 : decode cX0_wipe 76 = .ok (.aload_n 0, 1) := by decide +kernel
theorem dF0_wipe_77 : decode cX0_wipe 77 = .ok (.iconst 0, 1) := by decide +kernel
theorem dF0_wipe_78 : decode cX0_wipe 78 = .ok (.putfield 61, 3) := by decide +kernel
theorem dF0_wipe_81 : decode cX0_wipe 81 = .ok (.aload_n 0, 1) := by decide +kernel
theorem dF0_wipe_82 : decode cX0_wipe 82 = .ok (.iconst 0, 1) := by decide +kernel
theorem dF0_wipe_83 : decode cX0_wipe 83 = .ok (.putfield 64, 3) := by decide +kernel
theorem dF0_wipe_86 : decode cX0_wipe 86 = .ok (.return_, 1) := by decide +kernel
def is_F0_wipe : Nat → List Nat := fun d => []
set_option maxRecDepth 100000 in
def b_F0_wipe_46 (J : Nat → List qV → List qV → qW → Prop) (Q : qR) : qK := x_get 0 5 (x_int 0 (x_call none 2 sp_J7_fill_53178 (x_nw (x_aload 0 (x_get 0 6 (x_int 0 (x_call none 2 sp_J7_fill_53178 (x_nw (x_aload 0 (x_int 0 (x_put 0 7 q_oki (x_nw (x_aload 0 (x_int 0 (x_put 0 8 q_oki (x_nw (x_aload 0 (x_int 5 (x_put 0 9 q_oki (x_nw (x_aload 0 (x_int 0 (x_put 0 10 q_oki (x_nw (x_aload 0 (x_int 0 (x_put 0 11 q_oki (x_nw (x_vret Q)))))))))))))))))))))))))))))
set_option maxRecDepth 100000 in
theorem s_F0_wipe_46 {p : Program} {l : Launch} {e : Env} {R : Room} {s : State} {m : MethodId} {args : Array Value} {below : List Frame} {meth : Method} {c : Code} {nW : Nat} {dC : Nat → ClassId} {dI : Nat → Nat → Nat} {k : Nat → ClassId} {g : Nat → Nat} {A : Nat → Prop} {J : Nat → List qV → List qV → qW → Prop} {Q : qR} (X : q_X p R s m args meth c cX0_wipe 1 nW 1 68 RX0 none dC dI k g A) (hJ : ∀ d : Nat, q_Sd p l e R s m args below meth c 1 nW dC dI k g A (MQ below (q_post (dC, dI) k g nW Q A) args s 0 0 A) d (x_cut (is_F0_wipe d) (J d))) : q_Sd p l e R s m args below meth c 1 nW dC dI k g A (MQ below (q_post (dC, dI) k g nW Q A) args s 0 0 A) 46 (b_F0_wipe_46 J Q) := by
  unfold b_F0_wipe_46
  refine s_get X (T := TX0) (C := RX0) (N := 12) tu_X0 rfl (by decide) tw_184 dF0_wipe_46 ?_
  refine s_iconst X ⟨by decide, by decide⟩ dF0_wipe_49 ?_
  refine s_callS X (m_J7_fill_53178 l) tw_158 tw_159 tw_123 tw_160 (by decide +kernel) ⟨by decide, by decide⟩ dF0_wipe_50 ?_
  refine s_nw ?_
  refine s_aload_n X rfl dF0_wipe_53 ?_
  refine s_get X (T := TX0) (C := RX0) (N := 12) tu_X0 rfl (by decide) tw_187 dF0_wipe_54 ?_
  refine s_iconst X ⟨by decide, by decide⟩ dF0_wipe_57 ?_
  refine s_callS X (m_J7_fill_53178 l) tw_158 tw_159 tw_123 tw_160 (by decide +kernel) ⟨by decide, by decide⟩ dF0_wipe_58 ?_
  refine s_nw ?_
  refine s_aload_n X rfl dF0_wipe_61 ?_
  refine s_iconst X ⟨by decide, by decide⟩ dF0_wipe_62 ?_
  refine s_put X (T := TX0) (C := RX0) (N := 12) tu_X0 tyX0_ok nmX0 rfl (by decide) tw_193 rfl (by decide +kernel) q_oki_t dF0_wipe_63 ?_
  refine s_nw ?_
  refine s_aload_n X rfl dF0_wipe_66 ?_
  refine s_iconst X ⟨by decide, by decide⟩ dF0_wipe_67 ?_
  refine s_put X (T := TX0) (C := RX0) (N := 12) tu_X0 tyX0_ok nmX0 rfl (by decide) tw_198 rfl (by decide +kernel) q_oki_t dF0_wipe_68 ?_
  refine s_nw ?_
  refine s_aload_n X rfl dF0_wipe_71 ?_
  refine s_iconst X ⟨by decide, by decide⟩ dF0_wipe_72 ?_
  refine s_put X (T := TX0) (C := RX0) (N := 12) tu_X0 tyX0_ok nmX0 rfl (by decide) tw_200 rfl (by decide +kernel) q_oki_t dF0_wipe_73 ?_
  refine s_nw ?_
  refine s_aload_n X rfl dF0_wipe_76 ?_
  refine s_iconst X ⟨by decide, by decide⟩ dF0_wipe_77 ?_
  refine s_put X (T := TX0) (C := RX0) (N := 12) tu_X0 tyX0_ok nmX0 rfl (by decide) tw_203 rfl (by decide +kernel) q_oki_t dF0_wipe_78 ?_
  refine s_nw ?_
  refine s_aload_n X rfl dF0_wipe_81 ?_
  refine s_iconst X ⟨by decide, by decide⟩ dF0_wipe_82 ?_
  refine s_put X (T := TX0) (C := RX0) (N := 12) tu_X0 tyX0_ok nmX0 rfl (by decide) tw_207 rfl (by decide +kernel) q_oki_t dF0_wipe_83 ?_
  refine s_nw ?_
  exact s_vret X dF0_wipe_86
set_option maxRecDepth 100000 in
def b_F0_wipe_0 (J : Nat → List qV → List qV → qW → Prop) (Q : qR) : qK := x_aload 0 (x_get 0 0 (x_int 0 (x_call none 2 sp_J7_fill_53178 (x_nw (x_aload 0 (x_get 0 1 (x_int (-1) (x_call none 2 sp_J7_fill_53178 (x_nw (x_stat 0 (x_int 0 (x_aload 0 (x_get 0 2 (x_int 0 (x_int 4 (x_copys 0 qs_0 (x_nw (x_aload 0 (x_get 0 3 (x_int 0 (x_call none 2 sp_J7_fill_53178 (x_nw (x_aload 0 (x_get 0 4 (x_int 0 (x_call none 2 sp_J7_fill_53178 (x_nw (x_aload 0 (b_F0_wipe_46 J Q)))))))))))))))))))))))))))))
set_option maxRecDepth 100000 in
theorem s_F0_wipe_0 {p : Program} {l : Launch} {e : Env} {R : Room} {s : State} {m : MethodId} {args : Array Value} {below : List Frame} {meth : Method} {c : Code} {nW : Nat} {dC : Nat → ClassId} {dI : Nat → Nat → Nat} {k : Nat → ClassId} {g : Nat → Nat} {A : Nat → Prop} {J : Nat → List qV → List qV → qW → Prop} {Q : qR} (X : q_X p R s m args meth c cX0_wipe 1 nW 1 68 RX0 none dC dI k g A) (hJ : ∀ d : Nat, q_Sd p l e R s m args below meth c 1 nW dC dI k g A (MQ below (q_post (dC, dI) k g nW Q A) args s 0 0 A) d (x_cut (is_F0_wipe d) (J d))) : q_Sd p l e R s m args below meth c 1 nW dC dI k g A (MQ below (q_post (dC, dI) k g nW Q A) args s 0 0 A) 0 (b_F0_wipe_0 J Q) := by
  unfold b_F0_wipe_0
  refine s_aload_n X rfl dF0_wipe_0 ?_
  refine s_get X (T := TX0) (C := RX0) (N := 12) tu_X0 rfl (by decide) tw_164 dF0_wipe_1 ?_
  refine s_iconst X ⟨by decide, by decide⟩ dF0_wipe_4 ?_
  refine s_callS X (m_J7_fill_53178 l) tw_158 tw_159 tw_123 tw_160 (by decide +kernel) ⟨by decide, by decide⟩ dF0_wipe_5 ?_
  refine s_nw ?_
  refine s_aload_n X rfl dF0_wipe_8 ?_
  refine s_get X (T := TX0) (C := RX0) (N := 12) tu_X0 rfl (by decide) tw_172 dF0_wipe_9 ?_
  refine s_iconst X ⟨by decide, by decide⟩ dF0_wipe_12 ?_
  refine s_callS X (m_J7_fill_53178 l) tw_158 tw_159 tw_123 tw_160 (by decide +kernel) ⟨by decide, by decide⟩ dF0_wipe_13 ?_
  refine s_nw ?_
  refine s_stat X (nm := _) (xs := qs_0) rfl (List.mem_of_getElem? (i := 5) rfl) dF0_wipe_16 ?_
  refine s_iconst X ⟨by decide, by decide⟩ dF0_wipe_19 ?_
  refine s_aload_n X rfl dF0_wipe_20 ?_
  refine s_get X (T := TX0) (C := RX0) (N := 12) tu_X0 rfl (by decide) tw_175 dF0_wipe_21 ?_
  refine s_iconst X ⟨by decide, by decide⟩ dF0_wipe_24 ?_
  refine s_iconst X ⟨by decide, by decide⟩ dF0_wipe_25 ?_
  refine s_copys X (nm := _) rfl qs_0_ok tw_161 tw_163 tw_162 tw_124 ⟨by decide, by decide⟩ dF0_wipe_26 ?_
  refine s_nw ?_
  refine s_aload_n X rfl dF0_wipe_29 ?_
  refine s_get X (T := TX0) (C := RX0) (N := 12) tu_X0 rfl (by decide) tw_179 dF0_wipe_30 ?_
  refine s_iconst X ⟨by decide, by decide⟩ dF0_wipe_33 ?_
  refine s_callS X (m_J7_fill_53178 l) tw_158 tw_159 tw_123 tw_160 (by decide +kernel) ⟨by decide, by decide⟩ dF0_wipe_34 ?_
  refine s_nw ?_
  refine s_aload_n X rfl dF0_wipe_37 ?_
  refine s_get X (T := TX0) (C := RX0) (N := 12) tu_X0 rfl (by decide) tw_181 dF0_wipe_38 ?_
  refine s_iconst X ⟨by decide, by decide⟩ dF0_wipe_41 ?_
  refine s_callS X (m_J7_fill_53178 l) tw_158 tw_159 tw_123 tw_160 (by decide +kernel) ⟨by decide, by decide⟩ dF0_wipe_42 ?_
  refine s_nw ?_
  refine s_aload_n X rfl dF0_wipe_45 ?_
  exact s_F0_wipe_46 X hJ

def sp_F0_wipe : qS := fun av w Q => ∃ (f1 : Nat → Int) (f2 : Nat → Int) (f3 : Nat → Int) (f4 : Nat → Int) (f5 : Nat → Int) (f6 : Nat → Int) (f7 : Nat → Int) (u0 : Int) (u1 : Int) (u2 : Int) (u3 : Int) (u4 : Int), av = [q2 0] ∧ w = wB f1 f2 f3 f4 f5 f6 f7 u0 u1 u2 u3 u4 ∧ (∀ (g1 : Nat → Int) (g2 : Nat → Int) (g4 : Nat → Int) (g5 : Nat → Int) (g6 : Nat → Int) (g7 : Nat → Int), CB g1 g2 (va_cpy (fun i => qs_0.getD i 0) f3 0 0 4) g4 g5 g6 g7 0 0 5 0 0 (blk 0) → Q none (wB g1 g2 (va_cpy (fun i => qs_0.getD i 0) f3 0 0 4) g4 g5 g6 g7 0 0 5 0 0))
set_option maxHeartbeats 4000000 in
set_option maxRecDepth 100000 in
theorem m_F0_wipe (l : Launch) : q_M l yX0_wipe cX0_wipe 1 none 1 68 sp_F0_wipe := by
  refine q_meth (by decide) (fun av w Q h => by obtain ⟨f1, f2, f3, f4, f5, f6, f7, u0, u1, u2, u3, u4, rfl, rfl, hQ⟩ := h; exact Nat.le_of_ble_eq_true rfl) ?_
  intro p e R s m args below meth c dC dI k g A av w Q hsp oka okw X
  obtain ⟨f1, f2, f3, f4, f5, f6, f7, u0, u1, u2, u3, u4, rfl, rfl, hQ⟩ := hsp
  refine s_mono (s_F0_wipe_0 X (J := fun _ _ _ _ => False) (fun d => s_cutF)) ?_
  rintro lv st w' ⟨rfl, rfl, rfl⟩
  refine Exists.intro [1] (Exists.intro [q2 0, q1 _] (Exists.intro ([.inl (0, _, .inl _)]) (And.intro rfl (And.intro rfl (And.intro rfl (And.intro trivial ?_))))))
  refine Exists.intro _ (Exists.intro _ (Exists.intro _ (And.intro rfl (And.intro rfl (And.intro (by first | assumption | exact q_rg_up (by assumption) (by omega) | exact q_rg_up (q_rg_up (by assumption) (by omega)) (by omega) | exact q_rg_cpy (by assumption) (by assumption) | omega) (?_))))))
  intro g_5 hq_5
  refine Exists.intro [2] (Exists.intro [q2 0, q1 _] (Exists.intro ([.inl (0, _, .inl _)]) (And.intro rfl (And.intro rfl (And.intro rfl (And.intro trivial ?_))))))
  refine Exists.intro _ (Exists.intro _ (Exists.intro _ (And.intro rfl (And.intro rfl (And.intro (by first | assumption | exact q_rg_up (by assumption) (by omega) | exact q_rg_up (q_rg_up (by assumption) (by omega)) (by omega) | exact q_rg_cpy (by assumption) (by assumption) | omega) (?_))))))
  intro g_13 hq_13
  apply And.intro
  · exact ⟨by omega, by omega, by omega, by first | omega | decide, by omega⟩
  refine Exists.intro [4] (Exists.intro [q2 0, q1 _] (Exists.intro ([.inl (0, _, .inl _)]) (And.intro rfl (And.intro rfl (And.intro rfl (And.intro trivial ?_))))))
  refine Exists.intro _ (Exists.intro _ (Exists.intro _ (And.intro rfl (And.intro rfl (And.intro (by first | assumption | exact q_rg_up (by assumption) (by omega) | exact q_rg_up (q_rg_up (by assumption) (by omega)) (by omega) | exact q_rg_cpy (by assumption) (by assumption) | omega) (?_))))))
  intro g_34 hq_34
  refine Exists.intro [5] (Exists.intro [q2 0, q1 _] (Exists.intro ([.inl (0, _, .inl _)]) (And.intro rfl (And.intro rfl (And.intro rfl (And.intro trivial ?_))))))
  refine Exists.intro _ (Exists.intro _ (Exists.intro _ (And.intro rfl (And.intro rfl (And.intro (by first | assumption | exact q_rg_up (by assumption) (by omega) | exact q_rg_up (q_rg_up (by assumption) (by omega)) (by omega) | exact q_rg_cpy (by assumption) (by assumption) | omega) (?_))))))
  intro g_42 hq_42
  refine Exists.intro [6] (Exists.intro [q2 0, q1 _] (Exists.intro ([.inl (0, _, .inl _)]) (And.intro rfl (And.intro rfl (And.intro rfl (And.intro trivial ?_))))))
  refine Exists.intro _ (Exists.intro _ (Exists.intro _ (And.intro rfl (And.intro rfl (And.intro (by first | assumption | exact q_rg_up (by assumption) (by omega) | exact q_rg_up (q_rg_up (by assumption) (by omega)) (by omega) | exact q_rg_cpy (by assumption) (by assumption) | omega) (?_))))))
  intro g_50 hq_50
  refine Exists.intro [7] (Exists.intro [q2 0, q1 _] (Exists.intro ([.inl (0, _, .inl _)]) (And.intro rfl (And.intro rfl (And.intro rfl (And.intro trivial ?_))))))
  refine Exists.intro _ (Exists.intro _ (Exists.intro _ (And.intro rfl (And.intro rfl (And.intro (by first | assumption | exact q_rg_up (by assumption) (by omega) | exact q_rg_up (q_rg_up (by assumption) (by omega)) (by omega) | exact q_rg_cpy (by assumption) (by assumption) | omega) (?_))))))
  intro g_58 hq_58
  apply And.intro
  · exact trivial
  apply And.intro
  · exact trivial
  apply And.intro
  · exact trivial
  apply And.intro
  · exact trivial
  apply And.intro
  · exact trivial
  exact hQ _ _ _ _ _ _ (CB_0 hq_5 hq_13 hq_34 hq_42 hq_50 hq_58)

theorem dF3_wipe_0 : decode cX3_wipe 0 = .ok (.aload_n 0, 1) := by decide +kernel
theorem dF3_wipe_1 : decode cX3_wipe 1 = .ok (.getfield 9, 3) := by decide +kernel
theorem dF3_wipe_4 : decode cX3_wipe 4 = .ok (.iconst 0, 1) := by decide +kernel
theorem dF3_wipe_5 : decode cX3_wipe 5 = .ok (.invokestatic 15, 3) := by decide +kernel
theorem dF3_wipe_8 : decode cX3_wipe 8 = .ok (.aload_n 0, 1) := by decide +kernel
theorem dF3_wipe_9 : decode cX3_wipe 9 = .ok (.iconst 0, 1) := by decide +kernel
theorem dF3_wipe_10 : decode cX3_wipe 10 = .ok (.putfield 21, 3) := by decide +kernel
theorem dF3_wipe_13 : decode cX3_wipe 13 = .ok (.return_, 1) := by decide +kernel
def is_F3_wipe : Nat → List Nat := fun d => []
set_option maxRecDepth 100000 in
def b_F3_wipe_0 (J : Nat → List qV → List qV → qW → Prop) (Q : qR) : qK := x_aload 0 (x_get 3 0 (x_int 0 (x_call none 2 sp_J7_fill_53178 (x_nw (x_aload 0 (x_int 0 (x_put 3 1 q_oki (x_nw (x_vret Q)))))))))
set_option maxRecDepth 100000 in
theorem s_F3_wipe_0 {p : Program} {l : Launch} {e : Env} {R : Room} {s : State} {m : MethodId} {args : Array Value} {below : List Frame} {meth : Method} {c : Code} {nW : Nat} {dC : Nat → ClassId} {dI : Nat → Nat → Nat} {k : Nat → ClassId} {g : Nat → Nat} {A : Nat → Prop} {J : Nat → List qV → List qV → qW → Prop} {Q : qR} (X : q_X p R s m args meth c cX3_wipe 1 nW 1 23 RX3 none dC dI k g A) (hJ : ∀ d : Nat, q_Sd p l e R s m args below meth c 1 nW dC dI k g A (MQ below (q_post (dC, dI) k g nW Q A) args s 0 0 A) d (x_cut (is_F3_wipe d) (J d))) : q_Sd p l e R s m args below meth c 1 nW dC dI k g A (MQ below (q_post (dC, dI) k g nW Q A) args s 0 0 A) 0 (b_F3_wipe_0 J Q) := by
  unfold b_F3_wipe_0
  refine s_aload_n X rfl dF3_wipe_0 ?_
  refine s_get X (T := TX3) (C := RX3) (N := 2) tu_X3 rfl (by decide) tw_230 dF3_wipe_1 ?_
  refine s_iconst X ⟨by decide, by decide⟩ dF3_wipe_4 ?_
  refine s_callS X (m_J7_fill_53178 l) tw_372 tw_159 tw_123 tw_160 (by decide +kernel) ⟨by decide, by decide⟩ dF3_wipe_5 ?_
  refine s_nw ?_
  refine s_aload_n X rfl dF3_wipe_8 ?_
  refine s_iconst X ⟨by decide, by decide⟩ dF3_wipe_9 ?_
  refine s_put X (T := TX3) (C := RX3) (N := 2) tu_X3 tyX3_ok nmX3 rfl (by decide) tw_234 rfl (by decide +kernel) q_oki_t dF3_wipe_10 ?_
  refine s_nw ?_
  exact s_vret X dF3_wipe_13

def sp_F3_wipe : qS := fun av w Q => ∃ (g1 : Nat → Int) (o1 : Int), av = [q2 0] ∧ w = (wLo 0 g1 o1) ∧ (∀ (h : Nat → Int), CL h 0 (blk 2) → Q none ((wLo 0 h 0)))
set_option maxHeartbeats 4000000 in
set_option maxRecDepth 100000 in
theorem m_F3_wipe (l : Launch) : q_M l yX3_wipe cX3_wipe 1 none 1 23 sp_F3_wipe := by
  refine q_meth (by decide) (fun av w Q h => by obtain ⟨g1, o1, rfl, rfl, hQ⟩ := h; exact Nat.le_of_ble_eq_true rfl) ?_
  intro p e R s m args below meth c dC dI k g A av w Q hsp oka okw X
  obtain ⟨g1, o1, rfl, rfl, hQ⟩ := hsp
  refine s_mono (s_F3_wipe_0 X (J := fun _ _ _ _ => False) (fun d => s_cutF)) ?_
  rintro lv st w' ⟨rfl, rfl, rfl⟩
  refine Exists.intro [1] (Exists.intro [q2 0, q1 _] (Exists.intro ([.inl (0, _, .inl _)]) (And.intro rfl (And.intro rfl (And.intro rfl (And.intro trivial ?_))))))
  refine Exists.intro _ (Exists.intro _ (Exists.intro _ (And.intro rfl (And.intro rfl (And.intro (by first | assumption | exact q_rg_up (by assumption) (by omega) | exact q_rg_up (q_rg_up (by assumption) (by omega)) (by omega) | exact q_rg_cpy (by assumption) (by assumption) | omega) (?_))))))
  intro g_5 hq_5
  apply And.intro
  · exact trivial
  exact hQ _ (CL_0 hq_5)

theorem dF6_open_0 : decode cX6_open 0 = .ok (.aload_n 0, 1) := by decide +kernel
theorem dF6_open_1 : decode cX6_open 1 = .ok (.aload_n 1, 1) := by decide +kernel
theorem dF6_open_2 : decode cX6_open 2 = .ok (.putfield 43, 3) := by decide +kernel
theorem dF6_open_5 : decode cX6_open 5 = .ok (.aload_n 0, 1) := by decide +kernel
theorem dF6_open_6 : decode cX6_open 6 = .ok (.iload_n 2, 1) := by decide +kernel
theorem dF6_open_7 : decode cX6_open 7 = .ok (.aload_n 1, 1) := by decide +kernel
theorem dF6_open_8 : decode cX6_open 8 = .ok (.arraylength, 1) := by decide +kernel
theorem dF6_open_9 : decode cX6_open 9 = .ok (.invokestatic 78, 3) := by decide +kernel
theorem dF6_open_12 : decode cX6_open 12 = .ok (.putfield 51, 3) := by decide +kernel
theorem dF6_open_15 : decode cX6_open 15 = .ok (.aload_n 0, 1) := by decide +kernel
theorem dF6_open_16 : decode cX6_open 16 = .ok (.getfield 12, 3) := by decide +kernel
theorem dF6_open_19 : decode cX6_open 19 = .ok (.invokevirtual 84, 3) := by decide +kernel
theorem dF6_open_22 : decode cX6_open 22 = .ok (.aload_n 0, 1) := by decide +kernel
theorem dF6_open_23 : decode cX6_open 23 = .ok (.getfield 21, 3) := by decide +kernel
theorem dF6_open_26 : decode cX6_open 26 = .ok (.iconst 0, 1) := by decide +kernel
theorem dF6_open_27 : decode cX6_open 27 = .ok (.putfield 87, 3) := by decide +kernel
theorem dF6_open_30 : decode cX6_open 30 = .ok (.aload_n 0, 1) := by decide +kernel
theorem dF6_open_31 : decode cX6_open 31 = .ok (.getfield 28, 3) := by decide +kernel
theorem dF6_open_34 : decode cX6_open 34 = .ok (.invokevirtual 90, 3) := by decide +kernel
theorem dF6_open_37 : decode cX6_open 37 = .ok (.aload_n 0, 1) := by decide +kernel
theorem dF6_open_38 : decode cX6_open 38 = .ok (.getfield 35, 3) := by decide +kernel
theorem dF6_open_41 : decode cX6_open 41 = .ok (.iconst 0, 1) := by decide +kernel
theorem dF6_open_42 : decode cX6_open 42 = .ok (.putfield 91, 3) := by decide +kernel
theorem dF6_open_45 : decode cX6_open 45 = .ok (.aload_n 0, 1) := by decide +kernel
theorem dF6_open_46 : decode cX6_open 46 = .ok (.iconst 0, 1) := by decide +kernel
theorem dF6_open_47 : decode cX6_open 47 = .ok (.putfield 69, 3) := by decide +kernel
theorem dF6_open_50 : decode cX6_open 50 = .ok (.aload_n 0, 1) := by decide +kernel
theorem dF6_open_51 : decode cX6_open 51 = .ok (.iconst (-1), 1) := by decide +kernel
theorem dF6_open_52 : decode cX6_open 52 = .ok (.putfield 75, 3) := by decide +kernel
theorem dF6_open_55 : decode cX6_open 55 = .ok (.aload_n 0, 1) := by decide +kernel
theorem dF6_open_56 : decode cX6_open 56 = .ok (.iconst 0, 1) := by decide +kernel
theorem dF6_open_57 : decode cX6_open 57 = .ok (.putfield 94, 3) := by decide +kernel
theorem dF6_open_60 : decode cX6_open 60 = .ok (.aload_n 0, 1) := by decide +kernel
theorem dF6_open_61 : decode cX6_open 61 = .ok (.iconst 0, 1) := by decide +kernel
theorem dF6_open_62 : decode cX6_open 62 = .ok (.putfield 97, 3) := by decide +kernel
theorem dF6_open_65 : decode cX6_open 65 = .ok (.aload_n 0, 1) := by decide +kernel
theorem dF6_open_66 : decode cX6_open 66 = .ok (.iconst 0, 1) := by decide +kernel
theorem dF6_open_67 : decode cX6_open 67 = .ok (.putfield 100, 3) := by decide +kernel
theorem dF6_open_70 : decode cX6_open 70 = .ok (.return_, 1) := by decide +kernel
def is_F6_open : Nat → List Nat := fun d => []
set_option maxRecDepth 100000 in
def b_F6_open_46 (J : Nat → List qV → List qV → qW → Prop) (Q : qR) : qK := x_int 0 (x_put 6 7 q_oki (x_nw (x_aload 0 (x_int (-1) (x_put 6 8 q_oki (x_nw (x_aload 0 (x_int 0 (x_put 6 10 q_oki (x_nw (x_aload 0 (x_int 0 (x_put 6 13 q_oki (x_nw (x_aload 0 (x_int 0 (x_put 6 14 q_oki (x_nw (x_vret Q)))))))))))))))))))
set_option maxRecDepth 100000 in
theorem s_F6_open_46 {p : Program} {l : Launch} {e : Env} {R : Room} {s : State} {m : MethodId} {args : Array Value} {below : List Frame} {meth : Method} {c : Code} {nW : Nat} {dC : Nat → ClassId} {dI : Nat → Nat → Nat} {k : Nat → ClassId} {g : Nat → Nat} {A : Nat → Prop} {J : Nat → List qV → List qV → qW → Prop} {Q : qR} (X : q_X p R s m args meth c cX6_open 3 nW 2 88 RX6 none dC dI k g A) (hJ : ∀ d : Nat, q_Sd p l e R s m args below meth c 3 nW dC dI k g A (MQ below (q_post (dC, dI) k g nW Q A) args s 0 0 A) d (x_cut (is_F6_open d) (J d))) : q_Sd p l e R s m args below meth c 3 nW dC dI k g A (MQ below (q_post (dC, dI) k g nW Q A) args s 0 0 A) 46 (b_F6_open_46 J Q) := by
  unfold b_F6_open_46
  refine s_iconst X ⟨by decide, by decide⟩ dF6_open_46 ?_
  refine s_put X (T := TX6) (C := RX6) (N := 15) tu_X6 tyX6_ok nmX6 rfl (by decide) tw_278 rfl (by decide +kernel) q_oki_t dF6_open_47 ?_
  refine s_nw ?_
  refine s_aload_n X rfl dF6_open_50 ?_
  refine s_iconst X ⟨by decide, by decide⟩ dF6_open_51 ?_
  refine s_put X (T := TX6) (C := RX6) (N := 15) tu_X6 tyX6_ok nmX6 rfl (by decide) tw_280 rfl (by decide +kernel) q_oki_t dF6_open_52 ?_
  refine s_nw ?_
  refine s_aload_n X rfl dF6_open_55 ?_
  refine s_iconst X ⟨by decide, by decide⟩ dF6_open_56 ?_
  refine s_put X (T := TX6) (C := RX6) (N := 15) tu_X6 tyX6_ok nmX6 rfl (by decide) tw_283 rfl (by decide +kernel) q_oki_t dF6_open_57 ?_
  refine s_nw ?_
  refine s_aload_n X rfl dF6_open_60 ?_
  refine s_iconst X ⟨by decide, by decide⟩ dF6_open_61 ?_
  refine s_put X (T := TX6) (C := RX6) (N := 15) tu_X6 tyX6_ok nmX6 rfl (by decide) tw_286 rfl (by decide +kernel) q_oki_t dF6_open_62 ?_
  refine s_nw ?_
  refine s_aload_n X rfl dF6_open_65 ?_
  refine s_iconst X ⟨by decide, by decide⟩ dF6_open_66 ?_
  refine s_put X (T := TX6) (C := RX6) (N := 15) tu_X6 tyX6_ok nmX6 rfl (by decide) tw_287 rfl (by decide +kernel) q_oki_t dF6_open_67 ?_
  refine s_nw ?_
  exact s_vret X dF6_open_70
set_option maxRecDepth 100000 in
def b_F6_open_0 (J : Nat → List qV → List qV → qW → Prop) (Q : qR) : qK := x_aload 0 (x_aload 1 (x_put 6 5 q_okr (x_nw (x_aload 0 (x_iload 2 (x_aload 1 (x_alen (x_min (x_put 6 6 q_oki (x_nw (x_aload 0 (x_get 6 0 (x_calln (some 0) 1 sp_F0_wipe (x_aload 0 (x_get 6 1 (x_int 0 (x_put 10 4 q_oki (x_nw (x_aload 0 (x_get 6 2 (x_calln (some 3) 1 sp_F3_wipe (x_aload 0 (x_get 6 3 (x_int 0 (x_put 7 2 q_oki (x_nw (x_aload 0 (b_F6_open_46 J Q))))))))))))))))))))))))))))
set_option maxRecDepth 100000 in
theorem s_F6_open_0 {p : Program} {l : Launch} {e : Env} {R : Room} {s : State} {m : MethodId} {args : Array Value} {below : List Frame} {meth : Method} {c : Code} {nW : Nat} {dC : Nat → ClassId} {dI : Nat → Nat → Nat} {k : Nat → ClassId} {g : Nat → Nat} {A : Nat → Prop} {J : Nat → List qV → List qV → qW → Prop} {Q : qR} (X : q_X p R s m args meth c cX6_open 3 nW 2 88 RX6 none dC dI k g A) (hJ : ∀ d : Nat, q_Sd p l e R s m args below meth c 3 nW dC dI k g A (MQ below (q_post (dC, dI) k g nW Q A) args s 0 0 A) d (x_cut (is_F6_open d) (J d))) : q_Sd p l e R s m args below meth c 3 nW dC dI k g A (MQ below (q_post (dC, dI) k g nW Q A) args s 0 0 A) 0 (b_F6_open_0 J Q) := by
  unfold b_F6_open_0
  refine s_aload_n X rfl dF6_open_0 ?_
  refine s_aload_n X rfl dF6_open_1 ?_
  refine s_put X (T := TX6) (C := RX6) (N := 15) tu_X6 tyX6_ok nmX6 rfl (by decide) tw_276 rfl (by decide +kernel) q_okb_t dF6_open_2 ?_
  refine s_nw ?_
  refine s_aload_n X rfl dF6_open_5 ?_
  refine s_iload_n X rfl dF6_open_6 ?_
  refine s_aload_n X rfl dF6_open_7 ?_
  refine s_alen X dF6_open_8 ?_
  refine s_min X tw_364 tw_365 tw_135 tw_366 ⟨by decide, by decide⟩ dF6_open_9 ?_
  refine s_put X (T := TX6) (C := RX6) (N := 15) tu_X6 tyX6_ok nmX6 rfl (by decide) tw_277 rfl (by decide +kernel) q_oki_t dF6_open_12 ?_
  refine s_nw ?_
  refine s_aload_n X rfl dF6_open_15 ?_
  refine s_get X (T := TX6) (C := RX6) (N := 15) tu_X6 rfl (by decide) tw_267 dF6_open_16 ?_
  refine s_callVn X (m_F0_wipe l) tw_367 tw_155 tw_156 tw_122 tw_157 rfl (by decide +kernel) ⟨by decide, by decide⟩ dF6_open_19 ?_
  refine s_aload_n X rfl dF6_open_22 ?_
  refine s_get X (T := TX6) (C := RX6) (N := 15) tu_X6 rfl (by decide) tw_269 dF6_open_23 ?_
  refine s_iconst X ⟨by decide, by decide⟩ dF6_open_26 ?_
  refine s_put X (T := TX10) (C := RX10) (N := 5) tu_X10 tyX10_ok nmX10 rfl (by decide) tw_225 rfl (by decide +kernel) q_oki_t dF6_open_27 ?_
  refine s_nw ?_
  refine s_aload_n X rfl dF6_open_30 ?_
  refine s_get X (T := TX6) (C := RX6) (N := 15) tu_X6 rfl (by decide) tw_271 dF6_open_31 ?_
  refine s_callVn X (m_F3_wipe l) tw_368 tw_369 tw_370 tw_126 tw_371 rfl (by decide +kernel) ⟨by decide, by decide⟩ dF6_open_34 ?_
  refine s_aload_n X rfl dF6_open_37 ?_
  refine s_get X (T := TX6) (C := RX6) (N := 15) tu_X6 rfl (by decide) tw_273 dF6_open_38 ?_
  refine s_iconst X ⟨by decide, by decide⟩ dF6_open_41 ?_
  refine s_put X (T := TX7) (C := RX7) (N := 3) tu_X7 tyX7_ok nmX7 rfl (by decide) tw_247 rfl (by decide +kernel) q_oki_t dF6_open_42 ?_
  refine s_nw ?_
  refine s_aload_n X rfl dF6_open_45 ?_
  exact s_F6_open_46 X hJ

def sp_F6_open : qS := fun av w Q => ∃ (rln : Int) (rfa : Int) (rpl : Int) (rst : Int) (rnx : Int) (rtk : Int) (rnm : Int) (rnp : Int) (rnd : Int) (tp : Nat → Int) (rbf1 : Nat → Int) (rbf2 : Nat → Int) (rbf3 : Nat → Int) (rbf4 : Nat → Int) (rbf5 : Nat → Int) (rbf6 : Nat → Int) (rbf7 : Nat → Int) (rbu0 : Int) (rbu1 : Int) (rbu2 : Int) (rbu3 : Int) (rbu4 : Int) (ryk1 : Nat → Int) (ryk2 : Nat → Int) (ryk3 : Nat → Int) (ryk4 : Nat → Int) (ryd : Int) (rlg : Nat → Int) (rlo : Int) (rsp : Nat → Int) (rsq : Nat → Int) (rsc : Int) (gs : Int) (a : Int), av = [q2 0, q2 1, q1 a] ∧ w = [.inr (6, [q2 2, q2 10, q2 15, q2 17, q2 20, q2 21, q1 rln, q1 rfa, q1 rpl, q1 rst, q1 rnx, q1 rtk, q1 rnm, q1 rnp, q1 rnd]), .inl (1, 600, .inl tp), .inr (0, [q2 3, q2 4, q2 5, q2 6, q2 7, q2 8, q2 9, q1 rbu0, q1 rbu1, q1 rbu2, q1 rbu3, q1 rbu4]), .inl (0, 8, .inl rbf1), .inl (0, 8, .inl rbf2), .inl (0, 4, .inl rbf3), .inl (0, 32, .inl rbf4), .inl (0, 6, .inl rbf5), .inl (0, 6, .inl rbf6), .inl (0, 6, .inl rbf7), .inr (10, [q2 11, q2 12, q2 13, q2 14, q1 ryd]), .inl (0, 40, .inl ryk1), .inl (0, 40, .inl ryk2), .inl (0, 40, .inl ryk3), .inl (0, 40, .inl ryk4), .inr (3, [q2 16, q1 rlo]), .inl (0, 8, .inl rlg), .inr (7, [q2 18, q2 19, q1 rsc]), .inl (0, 10, .inl rsp), .inl (0, 10, .inl rsq)] ∧ (0 ≤ a ∧ a ≤ 600) ∧ (q_rg 0 9 rbf3) ∧ (∀ (x_rln : Int) (x_rfa : Int) (x_rpl : Int) (x_rnx : Int) (x_rnp : Int) (x_rnd : Int) (x_rbf1 : Nat → Int) (x_rbf2 : Nat → Int) (x_rbf3 : Nat → Int) (x_rbf4 : Nat → Int) (x_rbf5 : Nat → Int) (x_rbf6 : Nat → Int) (x_rbf7 : Nat → Int) (x_rbu0 : Int) (x_rbu1 : Int) (x_rbu2 : Int) (x_rbu3 : Int) (x_rbu4 : Int) (x_ryd : Int) (x_rlg : Nat → Int) (x_rlo : Int) (x_rsc : Int), ((x_rln = a ∧ x_rnx = 0 ∧ (0 ≤ x_rbu0 ∧ x_rbu0 ≤ 8 ∧ 0 ≤ x_rbu3 ∧ x_rbu3 ≤ 6 ∧ 0 ≤ x_rbu4 ∧ x_rbu4 ≤ 6 ∧ q_rg 0 9 x_rbf3) ∧ (0 ≤ x_ryd ∧ x_ryd ≤ 40) ∧ (0 ≤ x_rsc ∧ x_rsc ≤ 10)) ∧ (x_rfa = 0 ∧ x_rpl = -1) ∧ Cs gs (blk gs) (-1) (-1) x_rbf1 x_rbf2 x_rbf3 x_rbf4 x_rbf5 x_rbf6 x_rbf7 x_rbu0 x_rbu1 x_rbu2 x_rbu3 x_rbu4 x_rnp x_rnd ryk1 ryk2 ryk3 ryk4 x_ryd x_rlg x_rlo rsp rsq x_rsc) → Q none ([.inr (6, [q2 2, q2 10, q2 15, q2 17, q2 20, q2 1, q1 x_rln, q1 x_rfa, q1 x_rpl, q1 rst, q1 x_rnx, q1 rtk, q1 rnm, q1 x_rnp, q1 x_rnd]), .inl (1, 600, .inl tp), .inr (0, [q2 3, q2 4, q2 5, q2 6, q2 7, q2 8, q2 9, q1 x_rbu0, q1 x_rbu1, q1 x_rbu2, q1 x_rbu3, q1 x_rbu4]), .inl (0, 8, .inl x_rbf1), .inl (0, 8, .inl x_rbf2), .inl (0, 4, .inl x_rbf3), .inl (0, 32, .inl x_rbf4), .inl (0, 6, .inl x_rbf5), .inl (0, 6, .inl x_rbf6), .inl (0, 6, .inl x_rbf7), .inr (10, [q2 11, q2 12, q2 13, q2 14, q1 x_ryd]), .inl (0, 40, .inl ryk1), .inl (0, 40, .inl ryk2), .inl (0, 40, .inl ryk3), .inl (0, 40, .inl ryk4), .inr (3, [q2 16, q1 x_rlo]), .inl (0, 8, .inl x_rlg), .inr (7, [q2 18, q2 19, q1 x_rsc]), .inl (0, 10, .inl rsp), .inl (0, 10, .inl rsq)]))
set_option maxHeartbeats 4000000 in
set_option maxRecDepth 100000 in
theorem m_F6_open (l : Launch) : q_M l yX6_open cX6_open 3 none 2 88 sp_F6_open := by
  refine q_meth (by decide) (fun av w Q h => by obtain ⟨rln, rfa, rpl, rst, rnx, rtk, rnm, rnp, rnd, tp, rbf1, rbf2, rbf3, rbf4, rbf5, rbf6, rbf7, rbu0, rbu1, rbu2, rbu3, rbu4, ryk1, ryk2, ryk3, ryk4, ryd, rlg, rlo, rsp, rsq, rsc, gs, a, rfl, rfl, ha, hf3, hQ⟩ := h; exact Nat.le_of_ble_eq_true rfl) ?_
  intro p e R s m args below meth c dC dI k g A av w Q hsp oka okw X
  obtain ⟨rln, rfa, rpl, rst, rnx, rtk, rnm, rnp, rnd, tp, rbf1, rbf2, rbf3, rbf4, rbf5, rbf6, rbf7, rbu0, rbu1, rbu2, rbu3, rbu4, ryk1, ryk2, ryk3, ryk4, ryd, rlg, rlo, rsp, rsq, rsc, gs, a, rfl, rfl, ha, hf3, hQ⟩ := hsp
  have o_a : -2147483648 ≤ a ∧ a ≤ 2147483647 := oka _ (List.mem_of_getElem? (i := 2) rfl)
  refine s_mono (s_F6_open_0 X (J := fun _ _ _ _ => False) (fun d => s_cutF)) ?_
  rintro lv st w' ⟨rfl, rfl, rfl⟩
  apply And.intro
  · exact trivial
  apply And.intro
  · omega
  intro zq_9 hq_9
  apply And.intro
  · exact trivial
  refine Exists.intro [2, 3, 4, 5, 6, 7, 8, 9] (Exists.intro [q2 0] (Exists.intro (wB _ _ _ _ _ _ _ _ _ _ _ _) (And.intro rfl (And.intro rfl (And.intro rfl (And.intro ⟨⟨_, rfl⟩, rfl⟩ ?_))))))
  refine Exists.intro _ (Exists.intro _ (Exists.intro _ (Exists.intro _ (Exists.intro _ (Exists.intro _ (Exists.intro _ (Exists.intro _ (Exists.intro _ (Exists.intro _ (Exists.intro _ (Exists.intro _ (And.intro rfl (And.intro rfl (?_))))))))))))))
  intro g1_19 g2_19 g4_19 g5_19 g6_19 g7_19 hq_19
  apply And.intro
  · exact trivial
  refine Exists.intro [15, 16] (Exists.intro [q2 0] (Exists.intro ((wLo 0 _ _)) (And.intro rfl (And.intro rfl (And.intro rfl (And.intro ⟨⟨_, rfl⟩, rfl⟩ ?_))))))
  refine Exists.intro _ (Exists.intro _ (And.intro rfl (And.intro rfl (?_))))
  intro h_34 hq_34
  apply And.intro
  · exact trivial
  apply And.intro
  · exact trivial
  apply And.intro
  · exact trivial
  apply And.intro
  · exact trivial
  apply And.intro
  · exact trivial
  apply And.intro
  · exact trivial
  exact hQ _ _ _ _ _ _ _ _ _ _ _ _ _ _ _ _ _ _ _ _ _ _ ⟨⟨by omega, by omega, ⟨by omega, by omega, by omega, by omega, by omega, by omega, q_rg_cpy q_rg_qs0 hf3⟩, by omega, by omega⟩, ⟨rfl, rfl⟩, Cs_b hq_19 rfl rfl rfl hq_34 rfl⟩
