theorem dX0_wipe_0 : decode cX0_wipe 0 = .ok (.aload_n 0, 1) := by decide +kernel
theorem dX0_wipe_1 : decode cX0_wipe 1 = .ok (.getfield 9, 3) := by decide +kernel
theorem dX0_wipe_4 : decode cX0_wipe 4 = .ok (.iconst 0, 1) := by decide +kernel
theorem dX0_wipe_5 : decode cX0_wipe 5 = .ok (.invokestatic 36, 3) := by decide +kernel
theorem dX0_wipe_8 : decode cX0_wipe 8 = .ok (.aload_n 0, 1) := by decide +kernel
theorem dX0_wipe_9 : decode cX0_wipe 9 = .ok (.getfield 15, 3) := by decide +kernel
theorem dX0_wipe_12 : decode cX0_wipe 12 = .ok (.iconst (-1), 1) := by decide +kernel
theorem dX0_wipe_13 : decode cX0_wipe 13 = .ok (.invokestatic 36, 3) := by decide +kernel
theorem dX0_wipe_16 : decode cX0_wipe 16 = .ok (.getstatic 42, 3) := by decide +kernel
theorem dX0_wipe_19 : decode cX0_wipe 19 = .ok (.iconst 0, 1) := by decide +kernel
theorem dX0_wipe_20 : decode cX0_wipe 20 = .ok (.aload_n 0, 1) := by decide +kernel
theorem dX0_wipe_21 : decode cX0_wipe 21 = .ok (.getfield 18, 3) := by decide +kernel
theorem dX0_wipe_24 : decode cX0_wipe 24 = .ok (.iconst 0, 1) := by decide +kernel
theorem dX0_wipe_25 : decode cX0_wipe 25 = .ok (.iconst 4, 1) := by decide +kernel
theorem dX0_wipe_26 : decode cX0_wipe 26 = .ok (.invokestatic 45, 3) := by decide +kernel
theorem dX0_wipe_29 : decode cX0_wipe 29 = .ok (.aload_n 0, 1) := by decide +kernel
theorem dX0_wipe_30 : decode cX0_wipe 30 = .ok (.getfield 21, 3) := by decide +kernel
theorem dX0_wipe_33 : decode cX0_wipe 33 = .ok (.iconst 0, 1) := by decide +kernel
theorem dX0_wipe_34 : decode cX0_wipe 34 = .ok (.invokestatic 36, 3) := by decide +kernel
theorem dX0_wipe_37 : decode cX0_wipe 37 = .ok (.aload_n 0, 1) := by decide +kernel
theorem dX0_wipe_38 : decode cX0_wipe 38 = .ok (.getfield 24, 3) := by decide +kernel
theorem dX0_wipe_41 : decode cX0_wipe 41 = .ok (.iconst 0, 1) := by decide +kernel
theorem dX0_wipe_42 : decode cX0_wipe 42 = .ok (.invokestatic 36, 3) := by decide +kernel
theorem dX0_wipe_45 : decode cX0_wipe 45 = .ok (.aload_n 0, 1) := by decide +kernel
theorem dX0_wipe_46 : decode cX0_wipe 46 = .ok (.getfield 27, 3) := by decide +kernel
theorem dX0_wipe_49 : decode cX0_wipe 49 = .ok (.iconst 0, 1) := by decide +kernel
theorem dX0_wipe_50 : decode cX0_wipe 50 = .ok (.invokestatic 36, 3) := by decide +kernel
theorem dX0_wipe_53 : decode cX0_wipe 53 = .ok (.aload_n 0, 1) := by decide +kernel
theorem dX0_wipe_54 : decode cX0_wipe 54 = .ok (.getfield 30, 3) := by decide +kernel
theorem dX0_wipe_57 : decode cX0_wipe 57 = .ok (.iconst 0, 1) := by decide +kernel
theorem dX0_wipe_58 : decode cX0_wipe 58 = .ok (.invokestatic 36, 3) := by decide +kernel
theorem dX0_wipe_61 : decode cX0_wipe 61 = .ok (.aload_n 0, 1) := by decide +kernel
theorem dX0_wipe_62 : decode cX0_wipe 62 = .ok (.iconst 0, 1) := by decide +kernel
theorem dX0_wipe_63 : decode cX0_wipe 63 = .ok (.putfield 51, 3) := by decide +kernel
theorem dX0_wipe_66 : decode cX0_wipe 66 = .ok (.aload_n 0, 1) := by decide +kernel
theorem dX0_wipe_67 : decode cX0_wipe 67 = .ok (.iconst 0, 1) := by decide +kernel
theorem dX0_wipe_68 : decode cX0_wipe 68 = .ok (.putfield 55, 3) := by decide +kernel
theorem dX0_wipe_71 : decode cX0_wipe 71 = .ok (.aload_n 0, 1) := by decide +kernel
theorem dX0_wipe_72 : decode cX0_wipe 72 = .ok (.iconst 5, 1) := by decide +kernel
theorem dX0_wipe_73 : decode cX0_wipe 73 = .ok (.putfield 58, 3) := by decide +kernel
theorem dX0_wipe_76 : decode cX0_wipe 76 = .ok (.aload_n 0, 1) := by decide +kernel
theorem dX0_wipe_77 : decode cX0_wipe 77 = .ok (.iconst 0, 1) := by decide +kernel
theorem dX0_wipe_78 : decode cX0_wipe 78 = .ok (.putfield 61, 3) := by decide +kernel
theorem dX0_wipe_81 : decode cX0_wipe 81 = .ok (.aload_n 0, 1) := by decide +kernel
theorem dX0_wipe_82 : decode cX0_wipe 82 = .ok (.iconst 0, 1) := by decide +kernel
theorem dX0_wipe_83 : decode cX0_wipe 83 = .ok (.putfield 64, 3) := by decide +kernel
theorem dX0_wipe_86 : decode cX0_wipe 86 = .ok (.return_, 1) := by decide +kernel
def is_X0_wipe : Nat → List Nat := fun d => []
set_option maxRecDepth 100000 in
def b_X0_wipe_46 (J : Nat → List qV → List qV → qW → Prop) (Q : qR) : qK := x_get 0 5 (x_int 0 (x_call none 2 sp_J7_fill_53178 (x_nw (x_aload 0 (x_get 0 6 (x_int 0 (x_call none 2 sp_J7_fill_53178 (x_nw (x_aload 0 (x_int 0 (x_put 0 7 q_oki (x_nw (x_aload 0 (x_int 0 (x_put 0 8 q_oki (x_nw (x_aload 0 (x_int 5 (x_put 0 9 q_oki (x_nw (x_aload 0 (x_int 0 (x_put 0 10 q_oki (x_nw (x_aload 0 (x_int 0 (x_put 0 11 q_oki (x_nw (x_vret Q)))))))))))))))))))))))))))))
set_option maxRecDepth 100000 in
theorem s_X0_wipe_46 {p : Program} {l : Launch} {e : Env} {R : Room} {s : State} {m : MethodId} {args : Array Value} {below : List Frame} {meth : Method} {c : Code} {nW : Nat} {dC : Nat → ClassId} {dI : Nat → Nat → Nat} {k : Nat → ClassId} {g : Nat → Nat} {A : Nat → Prop} {J : Nat → List qV → List qV → qW → Prop} {Q : qR} (X : q_X p R s m args meth c cX0_wipe 1 nW 1 68 RX0 none dC dI k g A) (hJ : ∀ d : Nat, q_Sd p l e R s m args below meth c 1 nW dC dI k g A (MQ below (q_post (dC, dI) k g nW Q A) args s 0 0 A) d (x_cut (is_X0_wipe d) (J d))) : q_Sd p l e R s m args below meth c 1 nW dC dI k g A (MQ below (q_post (dC, dI) k g nW Q A) args s 0 0 A) 46 (b_X0_wipe_46 J Q) := by
  unfold b_X0_wipe_46
  refine s_get X (T := TX0) (C := RX0) (N := 12) tu_X0 rfl (by decide) tw_184 dX0_wipe_46 ?_
  refine s_iconst X ⟨by decide, by decide⟩ dX0_wipe_49 ?_
  refine s_callS X (m_J7_fill_53178 l) tw_158 tw_159 tw_123 tw_160 (by decide +kernel) ⟨by decide, by decide⟩ dX0_wipe_50 ?_
  refine s_nw ?_
  refine s_aload_n X rfl dX0_wipe_53 ?_
  refine s_get X (T := TX0) (C := RX0) (N := 12) tu_X0 rfl (by decide) tw_187 dX0_wipe_54 ?_
  refine s_iconst X ⟨by decide, by decide⟩ dX0_wipe_57 ?_
  refine s_callS X (m_J7_fill_53178 l) tw_158 tw_159 tw_123 tw_160 (by decide +kernel) ⟨by decide, by decide⟩ dX0_wipe_58 ?_
  refine s_nw ?_
  refine s_aload_n X rfl dX0_wipe_61 ?_
  refine s_iconst X ⟨by decide, by decide⟩ dX0_wipe_62 ?_
  refine s_put X (T := TX0) (C := RX0) (N := 12) tu_X0 tyX0_ok nmX0 rfl (by decide) tw_193 rfl (by decide +kernel) q_oki_t dX0_wipe_63 ?_
  refine s_nw ?_
  refine s_aload_n X rfl dX0_wipe_66 ?_
  refine s_iconst X ⟨by decide, by decide⟩ dX0_wipe_67 ?_
  refine s_put X (T := TX0) (C := RX0) (N := 12) tu_X0 tyX0_ok nmX0 rfl (by decide) tw_198 rfl (by decide +kernel) q_oki_t dX0_wipe_68 ?_
  refine s_nw ?_
  refine s_aload_n X rfl dX0_wipe_71 ?_
  refine s_iconst X ⟨by decide, by decide⟩ dX0_wipe_72 ?_
  refine s_put X (T := TX0) (C := RX0) (N := 12) tu_X0 tyX0_ok nmX0 rfl (by decide) tw_200 rfl (by decide +kernel) q_oki_t dX0_wipe_73 ?_
  refine s_nw ?_
  refine s_aload_n X rfl dX0_wipe_76 ?_
  refine s_iconst X ⟨by decide, by decide⟩ dX0_wipe_77 ?_
  refine s_put X (T := TX0) (C := RX0) (N := 12) tu_X0 tyX0_ok nmX0 rfl (by decide) tw_203 rfl (by decide +kernel) q_oki_t dX0_wipe_78 ?_
  refine s_nw ?_
  refine s_aload_n X rfl dX0_wipe_81 ?_
  refine s_iconst X ⟨by decide, by decide⟩ dX0_wipe_82 ?_
  refine s_put X (T := TX0) (C := RX0) (N := 12) tu_X0 tyX0_ok nmX0 rfl (by decide) tw_207 rfl (by decide +kernel) q_oki_t dX0_wipe_83 ?_
  refine s_nw ?_
  exact s_vret X dX0_wipe_86
set_option maxRecDepth 100000 in
def b_X0_wipe_0 (J : Nat → List qV → List qV → qW → Prop) (Q : qR) : qK := x_aload 0 (x_get 0 0 (x_int 0 (x_call none 2 sp_J7_fill_53178 (x_nw (x_aload 0 (x_get 0 1 (x_int (-1) (x_call none 2 sp_J7_fill_53178 (x_nw (x_stat 0 (x_int 0 (x_aload 0 (x_get 0 2 (x_int 0 (x_int 4 (x_copys 0 qs_0 (x_nw (x_aload 0 (x_get 0 3 (x_int 0 (x_call none 2 sp_J7_fill_53178 (x_nw (x_aload 0 (x_get 0 4 (x_int 0 (x_call none 2 sp_J7_fill_53178 (x_nw (x_aload 0 (b_X0_wipe_46 J Q)))))))))))))))))))))))))))))
set_option maxRecDepth 100000 in
theorem s_X0_wipe_0 {p : Program} {l : Launch} {e : Env} {R : Room} {s : State} {m : MethodId} {args : Array Value} {below : List Frame} {meth : Method} {c : Code} {nW : Nat} {dC : Nat → ClassId} {dI : Nat → Nat → Nat} {k : Nat → ClassId} {g : Nat → Nat} {A : Nat → Prop} {J : Nat → List qV → List qV → qW → Prop} {Q : qR} (X : q_X p R s m args meth c cX0_wipe 1 nW 1 68 RX0 none dC dI k g A) (hJ : ∀ d : Nat, q_Sd p l e R s m args below meth c 1 nW dC dI k g A (MQ below (q_post (dC, dI) k g nW Q A) args s 0 0 A) d (x_cut (is_X0_wipe d) (J d))) : q_Sd p l e R s m args below meth c 1 nW dC dI k g A (MQ below (q_post (dC, dI) k g nW Q A) args s 0 0 A) 0 (b_X0_wipe_0 J Q) := by
  unfold b_X0_wipe_0
  refine s_aload_n X rfl dX0_wipe_0 ?_
  refine s_get X (T := TX0) (C := RX0) (N := 12) tu_X0 rfl (by decide) tw_164 dX0_wipe_1 ?_
  refine s_iconst X ⟨by decide, by decide⟩ dX0_wipe_4 ?_
  refine s_callS X (m_J7_fill_53178 l) tw_158 tw_159 tw_123 tw_160 (by decide +kernel) ⟨by decide, by decide⟩ dX0_wipe_5 ?_
  refine s_nw ?_
  refine s_aload_n X rfl dX0_wipe_8 ?_
  refine s_get X (T := TX0) (C := RX0) (N := 12) tu_X0 rfl (by decide) tw_172 dX0_wipe_9 ?_
  refine s_iconst X ⟨by decide, by decide⟩ dX0_wipe_12 ?_
  refine s_callS X (m_J7_fill_53178 l) tw_158 tw_159 tw_123 tw_160 (by decide +kernel) ⟨by decide, by decide⟩ dX0_wipe_13 ?_
  refine s_nw ?_
  refine s_stat X (nm := _) (xs := qs_0) rfl (List.mem_of_getElem? (i := 5) rfl) dX0_wipe_16 ?_
  refine s_iconst X ⟨by decide, by decide⟩ dX0_wipe_19 ?_
  refine s_aload_n X rfl dX0_wipe_20 ?_
  refine s_get X (T := TX0) (C := RX0) (N := 12) tu_X0 rfl (by decide) tw_175 dX0_wipe_21 ?_
  refine s_iconst X ⟨by decide, by decide⟩ dX0_wipe_24 ?_
  refine s_iconst X ⟨by decide, by decide⟩ dX0_wipe_25 ?_
  refine s_copys X (nm := _) rfl qs_0_ok tw_161 tw_163 tw_162 tw_124 ⟨by decide, by decide⟩ dX0_wipe_26 ?_
  refine s_nw ?_
  refine s_aload_n X rfl dX0_wipe_29 ?_
  refine s_get X (T := TX0) (C := RX0) (N := 12) tu_X0 rfl (by decide) tw_179 dX0_wipe_30 ?_
  refine s_iconst X ⟨by decide, by decide⟩ dX0_wipe_33 ?_
  refine s_callS X (m_J7_fill_53178 l) tw_158 tw_159 tw_123 tw_160 (by decide +kernel) ⟨by decide, by decide⟩ dX0_wipe_34 ?_
  refine s_nw ?_
  refine s_aload_n X rfl dX0_wipe_37 ?_
  refine s_get X (T := TX0) (C := RX0) (N := 12) tu_X0 rfl (by decide) tw_181 dX0_wipe_38 ?_
  refine s_iconst X ⟨by decide, by decide⟩ dX0_wipe_41 ?_
  refine s_callS X (m_J7_fill_53178 l) tw_158 tw_159 tw_123 tw_160 (by decide +kernel) ⟨by decide, by decide⟩ dX0_wipe_42 ?_
  refine s_nw ?_
  refine s_aload_n X rfl dX0_wipe_45 ?_
  exact s_X0_wipe_46 X hJ

def sp_X0_wipe : qS := fun av w Q => ∃ (f1 : Nat → Int) (f2 : Nat → Int) (f3 : Nat → Int) (f4 : Nat → Int) (f5 : Nat → Int) (f6 : Nat → Int) (f7 : Nat → Int) (u0 : Int) (u1 : Int) (u2 : Int) (u3 : Int) (u4 : Int), av = [q2 0] ∧ w = wB f1 f2 f3 f4 f5 f6 f7 u0 u1 u2 u3 u4 ∧ (∀ (g1 : Nat → Int) (g2 : Nat → Int) (g4 : Nat → Int) (g5 : Nat → Int) (g6 : Nat → Int) (g7 : Nat → Int), Q none (wB g1 g2 (va_cpy (fun i => qs_0.getD i 0) f3 0 0 4) g4 g5 g6 g7 0 0 5 0 0))
set_option maxHeartbeats 4000000 in
set_option maxRecDepth 100000 in
theorem m_X0_wipe (l : Launch) : q_M l yX0_wipe cX0_wipe 1 none 1 68 sp_X0_wipe := by
  refine q_meth (by decide) (fun av w Q h => by obtain ⟨f1, f2, f3, f4, f5, f6, f7, u0, u1, u2, u3, u4, rfl, rfl, hQ⟩ := h; exact Nat.le_of_ble_eq_true rfl) ?_
  intro p e R s m args below meth c dC dI k g A av w Q hsp oka okw X
  obtain ⟨f1, f2, f3, f4, f5, f6, f7, u0, u1, u2, u3, u4, rfl, rfl, hQ⟩ := hsp
  refine s_mono (s_X0_wipe_0 X (J := fun _ _ _ _ => False) (fun d => s_cutF)) ?_
  rintro lv st w' ⟨rfl, rfl, rfl⟩
  refine Exists.intro [1] (Exists.intro [q2 0, q1 _] (Exists.intro ([.inl (0, _, .inl _)]) (And.intro rfl (And.intro rfl (And.intro rfl (And.intro trivial ?_))))))
  refine Exists.intro _ (Exists.intro _ (Exists.intro _ (And.intro rfl (And.intro rfl (And.intro (by first | omega | assumption | exact q_rg_up (by assumption) (by omega) | exact q_rg_up (q_rg_up (by assumption) (by omega)) (by omega) | exact q_rg_cpy (by assumption) (by assumption)) (?_))))))
  intro g_5 h5
  refine Exists.intro [2] (Exists.intro [q2 0, q1 _] (Exists.intro ([.inl (0, _, .inl _)]) (And.intro rfl (And.intro rfl (And.intro rfl (And.intro trivial ?_))))))
  refine Exists.intro _ (Exists.intro _ (Exists.intro _ (And.intro rfl (And.intro rfl (And.intro (by first | omega | assumption | exact q_rg_up (by assumption) (by omega) | exact q_rg_up (q_rg_up (by assumption) (by omega)) (by omega) | exact q_rg_cpy (by assumption) (by assumption)) (?_))))))
  intro g_13 h13
  apply And.intro
  · exact ⟨by omega, by omega, by omega, by first | omega | decide, by omega⟩
  refine Exists.intro [4] (Exists.intro [q2 0, q1 _] (Exists.intro ([.inl (0, _, .inl _)]) (And.intro rfl (And.intro rfl (And.intro rfl (And.intro trivial ?_))))))
  refine Exists.intro _ (Exists.intro _ (Exists.intro _ (And.intro rfl (And.intro rfl (And.intro (by first | omega | assumption | exact q_rg_up (by assumption) (by omega) | exact q_rg_up (q_rg_up (by assumption) (by omega)) (by omega) | exact q_rg_cpy (by assumption) (by assumption)) (?_))))))
  intro g_34 h34
  refine Exists.intro [5] (Exists.intro [q2 0, q1 _] (Exists.intro ([.inl (0, _, .inl _)]) (And.intro rfl (And.intro rfl (And.intro rfl (And.intro trivial ?_))))))
  refine Exists.intro _ (Exists.intro _ (Exists.intro _ (And.intro rfl (And.intro rfl (And.intro (by first | omega | assumption | exact q_rg_up (by assumption) (by omega) | exact q_rg_up (q_rg_up (by assumption) (by omega)) (by omega) | exact q_rg_cpy (by assumption) (by assumption)) (?_))))))
  intro g_42 h42
  refine Exists.intro [6] (Exists.intro [q2 0, q1 _] (Exists.intro ([.inl (0, _, .inl _)]) (And.intro rfl (And.intro rfl (And.intro rfl (And.intro trivial ?_))))))
  refine Exists.intro _ (Exists.intro _ (Exists.intro _ (And.intro rfl (And.intro rfl (And.intro (by first | omega | assumption | exact q_rg_up (by assumption) (by omega) | exact q_rg_up (q_rg_up (by assumption) (by omega)) (by omega) | exact q_rg_cpy (by assumption) (by assumption)) (?_))))))
  intro g_50 h50
  refine Exists.intro [7] (Exists.intro [q2 0, q1 _] (Exists.intro ([.inl (0, _, .inl _)]) (And.intro rfl (And.intro rfl (And.intro rfl (And.intro trivial ?_))))))
  refine Exists.intro _ (Exists.intro _ (Exists.intro _ (And.intro rfl (And.intro rfl (And.intro (by first | omega | assumption | exact q_rg_up (by assumption) (by omega) | exact q_rg_up (q_rg_up (by assumption) (by omega)) (by omega) | exact q_rg_cpy (by assumption) (by assumption)) (?_))))))
  intro g_58 h58
  apply And.intro
  · exact trivial
  apply And.intro
  · exact trivial
  apply And.intro
  · exact trivial
  apply And.intro
  · exact trivial
  apply And.intro
  · exact trivial
  exact hQ _ _ _ _ _ _

theorem dX0_copy_0 : decode cX0_copy 0 = .ok (.aload_n 1, 1) := by decide +kernel
theorem dX0_copy_1 : decode cX0_copy 1 = .ok (.getfield 9, 3) := by decide +kernel
theorem dX0_copy_4 : decode cX0_copy 4 = .ok (.iconst 0, 1) := by decide +kernel
theorem dX0_copy_5 : decode cX0_copy 5 = .ok (.aload_n 0, 1) := by decide +kernel
theorem dX0_copy_6 : decode cX0_copy 6 = .ok (.getfield 9, 3) := by decide +kernel
theorem dX0_copy_9 : decode cX0_copy 9 = .ok (.iconst 0, 1) := by decide +kernel
theorem dX0_copy_10 : decode cX0_copy 10 = .ok (.bipush 8, 2) := by decide +kernel
theorem dX0_copy_12 : decode cX0_copy 12 = .ok (.invokestatic 45, 3) := by decide +kernel
theorem dX0_copy_15 : decode cX0_copy 15 = .ok (.aload_n 1, 1) := by decide +kernel
theorem dX0_copy_16 : decode cX0_copy 16 = .ok (.getfield 15, 3) := by decide +kernel
theorem dX0_copy_19 : decode cX0_copy 19 = .ok (.iconst 0, 1) := by decide +kernel
theorem dX0_copy_20 : decode cX0_copy 20 = .ok (.aload_n 0, 1) := by decide +kernel
theorem dX0_copy_21 : decode cX0_copy 21 = .ok (.getfield 15, 3) := by decide +kernel
theorem dX0_copy_24 : decode cX0_copy 24 = .ok (.iconst 0, 1) := by decide +kernel
theorem dX0_copy_25 : decode cX0_copy 25 = .ok (.bipush 8, 2) := by decide +kernel
theorem dX0_copy_27 : decode cX0_copy 27 = .ok (.invokestatic 45, 3) := by decide +kernel
theorem dX0_copy_30 : decode cX0_copy 30 = .ok (.aload_n 1, 1) := by decide +kernel
theorem dX0_copy_31 : decode cX0_copy 31 = .ok (.getfield 18, 3) := by decide +kernel
theorem dX0_copy_34 : decode cX0_copy 34 = .ok (.iconst 0, 1) := by decide +kernel
theorem dX0_copy_35 : decode cX0_copy 35 = .ok (.aload_n 0, 1) := by decide +kernel
theorem dX0_copy_36 : decode cX0_copy 36 = .ok (.getfield 18, 3) := by decide +kernel
theorem dX0_copy_39 : decode cX0_copy 39 = .ok (.iconst 0, 1) := by decide +kernel
theorem dX0_copy_40 : decode cX0_copy 40 = .ok (.iconst 4, 1) := by decide +kernel
theorem dX0_copy_41 : decode cX0_copy 41 = .ok (.invokestatic 45, 3) := by decide +kernel
theorem dX0_copy_44 : decode cX0_copy 44 = .ok (.aload_n 1, 1) := by decide +kernel
theorem dX0_copy_45 : decode cX0_copy 45 = .ok (.getfield 21, 3) := by decide +kernel
theorem dX0_copy_48 : decode cX0_copy 48 = .ok (.iconst 0, 1) := by decide +kernel
theorem dX0_copy_49 : decode cX0_copy 49 = .ok (.aload_n 0, 1) := by decide +kernel
theorem dX0_copy_50 : decode cX0_copy 50 = .ok (.getfield 21, 3) := by decide +kernel
theorem dX0_copy_53 : decode cX0_copy 53 = .ok (.iconst 0, 1) := by decide +kernel
theorem dX0_copy_54 : decode cX0_copy 54 = .ok (.bipush 32, 2) := by decide +kernel
theorem dX0_copy_56 : decode cX0_copy 56 = .ok (.invokestatic 45, 3) := by decide +kernel
theorem dX0_copy_59 : decode cX0_copy 59 = .ok (.aload_n 1, 1) := by decide +kernel
theorem dX0_copy_60 : decode cX0_copy 60 = .ok (.getfield 24, 3) := by decide +kernel
theorem dX0_copy_63 : decode cX0_copy 63 = .ok (.iconst 0, 1) := by decide +kernel
theorem dX0_copy_64 : decode cX0_copy 64 = .ok (.aload_n 0, 1) := by decide +kernel
theorem dX0_copy_65 : decode cX0_copy 65 = .ok (.getfield 24, 3) := by decide +kernel
theorem dX0_copy_68 : decode cX0_copy 68 = .ok (.iconst 0, 1) := by decide +kernel
theorem dX0_copy_69 : decode cX0_copy 69 = .ok (.bipush 6, 2) := by decide +kernel
theorem dX0_copy_71 : decode cX0_copy 71 = .ok (.invokestatic 45, 3) := by decide +kernel
theorem dX0_copy_74 : decode cX0_copy 74 = .ok (.aload_n 1, 1) := by decide +kernel
theorem dX0_copy_75 : decode cX0_copy 75 = .ok (.getfield 27, 3) := by decide +kernel
theorem dX0_copy_78 : decode cX0_copy 78 = .ok (.iconst 0, 1) := by decide +kernel
theorem dX0_copy_79 : decode cX0_copy 79 = .ok (.aload_n 0, 1) := by decide +kernel
theorem dX0_copy_80 : decode cX0_copy 80 = .ok (.getfield 27, 3) := by decide +kernel
theorem dX0_copy_83 : decode cX0_copy 83 = .ok (.iconst 0, 1) := by decide +kernel
theorem dX0_copy_84 : decode cX0_copy 84 = .ok (.bipush 6, 2) := by decide +kernel
theorem dX0_copy_86 : decode cX0_copy 86 = .ok (.invokestatic 45, 3) := by decide +kernel
theorem dX0_copy_89 : decode cX0_copy 89 = .ok (.aload_n 1, 1) := by decide +kernel
theorem dX0_copy_90 : decode cX0_copy 90 = .ok (.getfield 30, 3) := by decide +kernel
theorem dX0_copy_93 : decode cX0_copy 93 = .ok (.iconst 0, 1) := by decide +kernel
theorem dX0_copy_94 : decode cX0_copy 94 = .ok (.aload_n 0, 1) := by decide +kernel
theorem dX0_copy_95 : decode cX0_copy 95 = .ok (.getfield 30, 3) := by decide +kernel
theorem dX0_copy_98 : decode cX0_copy 98 = .ok (.iconst 0, 1) := by decide +kernel
theorem dX0_copy_99 : decode cX0_copy 99 = .ok (.bipush 6, 2) := by decide +kernel
theorem dX0_copy_101 : decode cX0_copy 101 = .ok (.invokestatic 45, 3) := by decide +kernel
theorem dX0_copy_104 : decode cX0_copy 104 = .ok (.aload_n 0, 1) := by decide +kernel
theorem dX0_copy_105 : decode cX0_copy 105 = .ok (.aload_n 1, 1) := by decide +kernel
theorem dX0_copy_106 : decode cX0_copy 106 = .ok (.getfield 51, 3) := by decide +kernel
theorem dX0_copy_109 : decode cX0_copy 109 = .ok (.putfield 51, 3) := by decide +kernel
theorem dX0_copy_112 : decode cX0_copy 112 = .ok (.aload_n 0, 1) := by decide +kernel
theorem dX0_copy_113 : decode cX0_copy 113 = .ok (.aload_n 1, 1) := by decide +kernel
theorem dX0_copy_114 : decode cX0_copy 114 = .ok (.getfield 55, 3) := by decide +kernel
theorem dX0_copy_117 : decode cX0_copy 117 = .ok (.putfield 55, 3) := by decide +kernel
theorem dX0_copy_120 : decode cX0_copy 120 = .ok (.aload_n 0, 1) := by decide +kernel
theorem dX0_copy_121 : decode cX0_copy 121 = .ok (.aload_n 1, 1) := by decide +kernel
theorem dX0_copy_122 : decode cX0_copy 122 = .ok (.getfield 58, 3) := by decide +kernel
theorem dX0_copy_125 : decode cX0_copy 125 = .ok (.putfield 58, 3) := by decide +kernel
theorem dX0_copy_128 : decode cX0_copy 128 = .ok (.aload_n 0, 1) := by decide +kernel
theorem dX0_copy_129 : decode cX0_copy 129 = .ok (.aload_n 1, 1) := by decide +kernel
theorem dX0_copy_130 : decode cX0_copy 130 = .ok (.getfield 61, 3) := by decide +kernel
theorem dX0_copy_133 : decode cX0_copy 133 = .ok (.putfield 61, 3) := by decide +kernel
theorem dX0_copy_136 : decode cX0_copy 136 = .ok (.aload_n 0, 1) := by decide +kernel
theorem dX0_copy_137 : decode cX0_copy 137 = .ok (.aload_n 1, 1) := by decide +kernel
theorem dX0_copy_138 : decode cX0_copy 138 = .ok (.getfield 64, 3) := by decide +kernel
theorem dX0_copy_141 : decode cX0_copy 141 = .ok (.putfield 64, 3) := by decide +kernel
theorem dX0_copy_144 : decode cX0_copy 144 = .ok (.return_, 1) := by decide +kernel
def is_X0_copy : Nat → List Nat := fun d => []
set_option maxRecDepth 100000 in
def b_X0_copy_136 (J : Nat → List qV → List qV → qW → Prop) (Q : qR) : qK := x_aload 0 (x_aload 1 (x_get 0 11 (x_put 0 11 q_oki (x_nw (x_vret Q)))))
set_option maxRecDepth 100000 in
theorem s_X0_copy_136 {p : Program} {l : Launch} {e : Env} {R : Room} {s : State} {m : MethodId} {args : Array Value} {below : List Frame} {meth : Method} {c : Code} {nW : Nat} {dC : Nat → ClassId} {dI : Nat → Nat → Nat} {k : Nat → ClassId} {g : Nat → Nat} {A : Nat → Prop} {J : Nat → List qV → List qV → qW → Prop} {Q : qR} (X : q_X p R s m args meth c cX0_copy 2 nW 1 68 RX0 none dC dI k g A) (hJ : ∀ d : Nat, q_Sd p l e R s m args below meth c 2 nW dC dI k g A (MQ below (q_post (dC, dI) k g nW Q A) args s 0 0 A) d (x_cut (is_X0_copy d) (J d))) : q_Sd p l e R s m args below meth c 2 nW dC dI k g A (MQ below (q_post (dC, dI) k g nW Q A) args s 0 0 A) 136 (b_X0_copy_136 J Q) := by
  unfold b_X0_copy_136
  refine s_aload_n X rfl dX0_copy_136 ?_
  refine s_aload_n X rfl dX0_copy_137 ?_
  refine s_get X (T := TX0) (C := RX0) (N := 12) tu_X0 rfl (by decide) tw_207 dX0_copy_138 ?_
  refine s_put X (T := TX0) (C := RX0) (N := 12) tu_X0 tyX0_ok nmX0 rfl (by decide) tw_207 rfl (by decide +kernel) q_oki_t dX0_copy_141 ?_
  refine s_nw ?_
  exact s_vret X dX0_copy_144
set_option maxRecDepth 100000 in
def b_X0_copy_89 (J : Nat → List qV → List qV → qW → Prop) (Q : qR) : qK := x_aload 1 (x_get 0 6 (x_int 0 (x_aload 0 (x_get 0 6 (x_int 0 (x_int 6 (x_copy (x_nw (x_aload 0 (x_aload 1 (x_get 0 7 (x_put 0 7 q_oki (x_nw (x_aload 0 (x_aload 1 (x_get 0 8 (x_put 0 8 q_oki (x_nw (x_aload 0 (x_aload 1 (x_get 0 9 (x_put 0 9 q_oki (x_nw (x_aload 0 (x_aload 1 (x_get 0 10 (x_put 0 10 q_oki (x_nw (b_X0_copy_136 J Q)))))))))))))))))))))))))))))
set_option maxRecDepth 100000 in
theorem s_X0_copy_89 {p : Program} {l : Launch} {e : Env} {R : Room} {s : State} {m : MethodId} {args : Array Value} {below : List Frame} {meth : Method} {c : Code} {nW : Nat} {dC : Nat → ClassId} {dI : Nat → Nat → Nat} {k : Nat → ClassId} {g : Nat → Nat} {A : Nat → Prop} {J : Nat → List qV → List qV → qW → Prop} {Q : qR} (X : q_X p R s m args meth c cX0_copy 2 nW 1 68 RX0 none dC dI k g A) (hJ : ∀ d : Nat, q_Sd p l e R s m args below meth c 2 nW dC dI k g A (MQ below (q_post (dC, dI) k g nW Q A) args s 0 0 A) d (x_cut (is_X0_copy d) (J d))) : q_Sd p l e R s m args below meth c 2 nW dC dI k g A (MQ below (q_post (dC, dI) k g nW Q A) args s 0 0 A) 89 (b_X0_copy_89 J Q) := by
  unfold b_X0_copy_89
  refine s_aload_n X rfl dX0_copy_89 ?_
  refine s_get X (T := TX0) (C := RX0) (N := 12) tu_X0 rfl (by decide) tw_187 dX0_copy_90 ?_
  refine s_iconst X ⟨by decide, by decide⟩ dX0_copy_93 ?_
  refine s_aload_n X rfl dX0_copy_94 ?_
  refine s_get X (T := TX0) (C := RX0) (N := 12) tu_X0 rfl (by decide) tw_187 dX0_copy_95 ?_
  refine s_iconst X ⟨by decide, by decide⟩ dX0_copy_98 ?_
  refine s_bipush X ⟨by decide, by decide⟩ (by decide) dX0_copy_99 ?_
  refine s_copy X tw_161 tw_163 tw_162 tw_124 ⟨by decide, by decide⟩ dX0_copy_101 ?_
  refine s_nw ?_
  refine s_aload_n X rfl dX0_copy_104 ?_
  refine s_aload_n X rfl dX0_copy_105 ?_
  refine s_get X (T := TX0) (C := RX0) (N := 12) tu_X0 rfl (by decide) tw_193 dX0_copy_106 ?_
  refine s_put X (T := TX0) (C := RX0) (N := 12) tu_X0 tyX0_ok nmX0 rfl (by decide) tw_193 rfl (by decide +kernel) q_oki_t dX0_copy_109 ?_
  refine s_nw ?_
  refine s_aload_n X rfl dX0_copy_112 ?_
  refine s_aload_n X rfl dX0_copy_113 ?_
  refine s_get X (T := TX0) (C := RX0) (N := 12) tu_X0 rfl (by decide) tw_198 dX0_copy_114 ?_
  refine s_put X (T := TX0) (C := RX0) (N := 12) tu_X0 tyX0_ok nmX0 rfl (by decide) tw_198 rfl (by decide +kernel) q_oki_t dX0_copy_117 ?_
  refine s_nw ?_
  refine s_aload_n X rfl dX0_copy_120 ?_
  refine s_aload_n X rfl dX0_copy_121 ?_
  refine s_get X (T := TX0) (C := RX0) (N := 12) tu_X0 rfl (by decide) tw_200 dX0_copy_122 ?_
  refine s_put X (T := TX0) (C := RX0) (N := 12) tu_X0 tyX0_ok nmX0 rfl (by decide) tw_200 rfl (by decide +kernel) q_oki_t dX0_copy_125 ?_
  refine s_nw ?_
  refine s_aload_n X rfl dX0_copy_128 ?_
  refine s_aload_n X rfl dX0_copy_129 ?_
  refine s_get X (T := TX0) (C := RX0) (N := 12) tu_X0 rfl (by decide) tw_203 dX0_copy_130 ?_
  refine s_put X (T := TX0) (C := RX0) (N := 12) tu_X0 tyX0_ok nmX0 rfl (by decide) tw_203 rfl (by decide +kernel) q_oki_t dX0_copy_133 ?_
  refine s_nw ?_
  exact s_X0_copy_136 X hJ
set_option maxRecDepth 100000 in
def b_X0_copy_44 (J : Nat → List qV → List qV → qW → Prop) (Q : qR) : qK := x_aload 1 (x_get 0 3 (x_int 0 (x_aload 0 (x_get 0 3 (x_int 0 (x_int 32 (x_copy (x_nw (x_aload 1 (x_get 0 4 (x_int 0 (x_aload 0 (x_get 0 4 (x_int 0 (x_int 6 (x_copy (x_nw (x_aload 1 (x_get 0 5 (x_int 0 (x_aload 0 (x_get 0 5 (x_int 0 (x_int 6 (x_copy (x_nw (b_X0_copy_89 J Q)))))))))))))))))))))))))))
set_option maxRecDepth 100000 in
theorem s_X0_copy_44 {p : Program} {l : Launch} {e : Env} {R : Room} {s : State} {m : MethodId} {args : Array Value} {below : List Frame} {meth : Method} {c : Code} {nW : Nat} {dC : Nat → ClassId} {dI : Nat → Nat → Nat} {k : Nat → ClassId} {g : Nat → Nat} {A : Nat → Prop} {J : Nat → List qV → List qV → qW → Prop} {Q : qR} (X : q_X p R s m args meth c cX0_copy 2 nW 1 68 RX0 none dC dI k g A) (hJ : ∀ d : Nat, q_Sd p l e R s m args below meth c 2 nW dC dI k g A (MQ below (q_post (dC, dI) k g nW Q A) args s 0 0 A) d (x_cut (is_X0_copy d) (J d))) : q_Sd p l e R s m args below meth c 2 nW dC dI k g A (MQ below (q_post (dC, dI) k g nW Q A) args s 0 0 A) 44 (b_X0_copy_44 J Q) := by
  unfold b_X0_copy_44
  refine s_aload_n X rfl dX0_copy_44 ?_
  refine s_get X (T := TX0) (C := RX0) (N := 12) tu_X0 rfl (by decide) tw_179 dX0_copy_45 ?_
  refine s_iconst X ⟨by decide, by decide⟩ dX0_copy_48 ?_
  refine s_aload_n X rfl dX0_copy_49 ?_
  refine s_get X (T := TX0) (C := RX0) (N := 12) tu_X0 rfl (by decide) tw_179 dX0_copy_50 ?_
  refine s_iconst X ⟨by decide, by decide⟩ dX0_copy_53 ?_
  refine s_bipush X ⟨by decide, by decide⟩ (by decide) dX0_copy_54 ?_
  refine s_copy X tw_161 tw_163 tw_162 tw_124 ⟨by decide, by decide⟩ dX0_copy_56 ?_
  refine s_nw ?_
  refine s_aload_n X rfl dX0_copy_59 ?_
  refine s_get X (T := TX0) (C := RX0) (N := 12) tu_X0 rfl (by decide) tw_181 dX0_copy_60 ?_
  refine s_iconst X ⟨by decide, by decide⟩ dX0_copy_63 ?_
  refine s_aload_n X rfl dX0_copy_64 ?_
  refine s_get X (T := TX0) (C := RX0) (N := 12) tu_X0 rfl (by decide) tw_181 dX0_copy_65 ?_
  refine s_iconst X ⟨by decide, by decide⟩ dX0_copy_68 ?_
  refine s_bipush X ⟨by decide, by decide⟩ (by decide) dX0_copy_69 ?_
  refine s_copy X tw_161 tw_163 tw_162 tw_124 ⟨by decide, by decide⟩ dX0_copy_71 ?_
  refine s_nw ?_
  refine s_aload_n X rfl dX0_copy_74 ?_
  refine s_get X (T := TX0) (C := RX0) (N := 12) tu_X0 rfl (by decide) tw_184 dX0_copy_75 ?_
  refine s_iconst X ⟨by decide, by decide⟩ dX0_copy_78 ?_
  refine s_aload_n X rfl dX0_copy_79 ?_
  refine s_get X (T := TX0) (C := RX0) (N := 12) tu_X0 rfl (by decide) tw_184 dX0_copy_80 ?_
  refine s_iconst X ⟨by decide, by decide⟩ dX0_copy_83 ?_
  refine s_bipush X ⟨by decide, by decide⟩ (by decide) dX0_copy_84 ?_
  refine s_copy X tw_161 tw_163 tw_162 tw_124 ⟨by decide, by decide⟩ dX0_copy_86 ?_
  refine s_nw ?_
  exact s_X0_copy_89 X hJ
set_option maxRecDepth 100000 in
def b_X0_copy_0 (J : Nat → List qV → List qV → qW → Prop) (Q : qR) : qK := x_aload 1 (x_get 0 0 (x_int 0 (x_aload 0 (x_get 0 0 (x_int 0 (x_int 8 (x_copy (x_nw (x_aload 1 (x_get 0 1 (x_int 0 (x_aload 0 (x_get 0 1 (x_int 0 (x_int 8 (x_copy (x_nw (x_aload 1 (x_get 0 2 (x_int 0 (x_aload 0 (x_get 0 2 (x_int 0 (x_int 4 (x_copy (x_nw (b_X0_copy_44 J Q)))))))))))))))))))))))))))
set_option maxRecDepth 100000 in
theorem s_X0_copy_0 {p : Program} {l : Launch} {e : Env} {R : Room} {s : State} {m : MethodId} {args : Array Value} {below : List Frame} {meth : Method} {c : Code} {nW : Nat} {dC : Nat → ClassId} {dI : Nat → Nat → Nat} {k : Nat → ClassId} {g : Nat → Nat} {A : Nat → Prop} {J : Nat → List qV → List qV → qW → Prop} {Q : qR} (X : q_X p R s m args meth c cX0_copy 2 nW 1 68 RX0 none dC dI k g A) (hJ : ∀ d : Nat, q_Sd p l e R s m args below meth c 2 nW dC dI k g A (MQ below (q_post (dC, dI) k g nW Q A) args s 0 0 A) d (x_cut (is_X0_copy d) (J d))) : q_Sd p l e R s m args below meth c 2 nW dC dI k g A (MQ below (q_post (dC, dI) k g nW Q A) args s 0 0 A) 0 (b_X0_copy_0 J Q) := by
  unfold b_X0_copy_0
  refine s_aload_n X rfl dX0_copy_0 ?_
  refine s_get X (T := TX0) (C := RX0) (N := 12) tu_X0 rfl (by decide) tw_164 dX0_copy_1 ?_
  refine s_iconst X ⟨by decide, by decide⟩ dX0_copy_4 ?_
  refine s_aload_n X rfl dX0_copy_5 ?_
  refine s_get X (T := TX0) (C := RX0) (N := 12) tu_X0 rfl (by decide) tw_164 dX0_copy_6 ?_
  refine s_iconst X ⟨by decide, by decide⟩ dX0_copy_9 ?_
  refine s_bipush X ⟨by decide, by decide⟩ (by decide) dX0_copy_10 ?_
  refine s_copy X tw_161 tw_163 tw_162 tw_124 ⟨by decide, by decide⟩ dX0_copy_12 ?_
  refine s_nw ?_
  refine s_aload_n X rfl dX0_copy_15 ?_
  refine s_get X (T := TX0) (C := RX0) (N := 12) tu_X0 rfl (by decide) tw_172 dX0_copy_16 ?_
  refine s_iconst X ⟨by decide, by decide⟩ dX0_copy_19 ?_
  refine s_aload_n X rfl dX0_copy_20 ?_
  refine s_get X (T := TX0) (C := RX0) (N := 12) tu_X0 rfl (by decide) tw_172 dX0_copy_21 ?_
  refine s_iconst X ⟨by decide, by decide⟩ dX0_copy_24 ?_
  refine s_bipush X ⟨by decide, by decide⟩ (by decide) dX0_copy_25 ?_
  refine s_copy X tw_161 tw_163 tw_162 tw_124 ⟨by decide, by decide⟩ dX0_copy_27 ?_
  refine s_nw ?_
  refine s_aload_n X rfl dX0_copy_30 ?_
  refine s_get X (T := TX0) (C := RX0) (N := 12) tu_X0 rfl (by decide) tw_175 dX0_copy_31 ?_
  refine s_iconst X ⟨by decide, by decide⟩ dX0_copy_34 ?_
  refine s_aload_n X rfl dX0_copy_35 ?_
  refine s_get X (T := TX0) (C := RX0) (N := 12) tu_X0 rfl (by decide) tw_175 dX0_copy_36 ?_
  refine s_iconst X ⟨by decide, by decide⟩ dX0_copy_39 ?_
  refine s_iconst X ⟨by decide, by decide⟩ dX0_copy_40 ?_
  refine s_copy X tw_161 tw_163 tw_162 tw_124 ⟨by decide, by decide⟩ dX0_copy_41 ?_
  refine s_nw ?_
  exact s_X0_copy_44 X hJ

def sp_X0_copy : qS := fun av w Q => ∃ (f1 : Nat → Int) (f2 : Nat → Int) (f3 : Nat → Int) (f4 : Nat → Int) (f5 : Nat → Int) (f6 : Nat → Int) (f7 : Nat → Int) (u0 : Int) (u1 : Int) (u2 : Int) (u3 : Int) (u4 : Int) (g1 : Nat → Int) (g2 : Nat → Int) (g3 : Nat → Int) (g4 : Nat → Int) (g5 : Nat → Int) (g6 : Nat → Int) (g7 : Nat → Int) (t0 : Int) (t1 : Int) (t2 : Int) (t3 : Int) (t4 : Int), av = [q2 0, q2 8] ∧ w = (wBo 0 f1 f2 f3 f4 f5 f6 f7 u0 u1 u2 u3 u4 ++ wBo 8 g1 g2 g3 g4 g5 g6 g7 t0 t1 t2 t3 t4) ∧ (Q none ((wBo 0 (va_cpy g1 f1 0 0 8) (va_cpy g2 f2 0 0 8) (va_cpy g3 f3 0 0 4) (va_cpy g4 f4 0 0 32) (va_cpy g5 f5 0 0 6) (va_cpy g6 f6 0 0 6) (va_cpy g7 f7 0 0 6) t0 t1 t2 t3 t4 ++ wBo 8 g1 g2 g3 g4 g5 g6 g7 t0 t1 t2 t3 t4)))
set_option maxHeartbeats 4000000 in
set_option maxRecDepth 100000 in
theorem m_X0_copy (l : Launch) : q_M l yX0_copy cX0_copy 2 none 1 68 sp_X0_copy := by
  refine q_meth (by decide) (fun av w Q h => by obtain ⟨f1, f2, f3, f4, f5, f6, f7, u0, u1, u2, u3, u4, g1, g2, g3, g4, g5, g6, g7, t0, t1, t2, t3, t4, rfl, rfl, hQ⟩ := h; exact Nat.le_of_ble_eq_true rfl) ?_
  intro p e R s m args below meth c dC dI k g A av w Q hsp oka okw X
  obtain ⟨f1, f2, f3, f4, f5, f6, f7, u0, u1, u2, u3, u4, g1, g2, g3, g4, g5, g6, g7, t0, t1, t2, t3, t4, rfl, rfl, hQ⟩ := hsp
  refine s_mono (s_X0_copy_0 X (J := fun _ _ _ _ => False) (fun d => s_cutF)) ?_
  rintro lv st w' ⟨rfl, rfl, rfl⟩
  apply And.intro
  · exact ⟨by omega, by omega, by omega, by first | omega | decide, by omega⟩
  apply And.intro
  · exact ⟨by omega, by omega, by omega, by first | omega | decide, by omega⟩
  apply And.intro
  · exact ⟨by omega, by omega, by omega, by first | omega | decide, by omega⟩
  apply And.intro
  · exact ⟨by omega, by omega, by omega, by first | omega | decide, by omega⟩
  apply And.intro
  · exact ⟨by omega, by omega, by omega, by first | omega | decide, by omega⟩
  apply And.intro
  · exact ⟨by omega, by omega, by omega, by first | omega | decide, by omega⟩
  apply And.intro
  · exact ⟨by omega, by omega, by omega, by first | omega | decide, by omega⟩
  apply And.intro
  · exact trivial
  apply And.intro
  · exact trivial
  apply And.intro
  · exact trivial
  apply And.intro
  · exact trivial
  apply And.intro
  · exact trivial
  exact hQ
