theorem dX6_isFull_0 : decode cX6_isFull 0 = .ok (.iload_n 1, 1) := by decide +kernel
theorem dX6_isFull_1 : decode cX6_isFull 1 = .ok (.lookupswitch 115 #[(0, 43), (3, 61), (4, 79), (16, 97)], 43) := by decide +kernel
theorem dX6_isFull_44 : decode cX6_isFull 44 = .ok (.aload_n 0, 1) := by decide +kernel
theorem dX6_isFull_45 : decode cX6_isFull 45 = .ok (.getfield 12, 3) := by decide +kernel
theorem dX6_isFull_48 : decode cX6_isFull 48 = .ok (.getfield 103, 3) := by decide +kernel
theorem dX6_isFull_51 : decode cX6_isFull 51 = .ok (.bipush 8, 2) := by decide +kernel
theorem dX6_isFull_53 : decode cX6_isFull 53 = .ok (.if_icmp .lt 7, 3) := by decide +kernel
theorem dX6_isFull_56 : decode cX6_isFull 56 = .ok (.iconst 1, 1) := by decide +kernel
theorem dX6_isFull_57 : decode cX6_isFull 57 = .ok (.goto 4, 3) := by decide +kernel
theorem dX6_isFull_60 : decode cX6_isFull 60 = .ok (.iconst 0, 1) := by decide +kernel
theorem dX6_isFull_61 : decode cX6_isFull 61 = .ok (.ireturn, 1) := by decide +kernel
theorem dX6_isFull_62 : decode cX6_isFull 62 = .ok (.aload_n 0, 1) := by decide +kernel
theorem dX6_isFull_63 : decode cX6_isFull 63 = .ok (.getfield 12, 3) := by decide +kernel
theorem dX6_isFull_66 : decode cX6_isFull 66 = .ok (.getfield 110, 3) := by decide +kernel
theorem dX6_isFull_69 : decode cX6_isFull 69 = .ok (.bipush 6, 2) := by decide +kernel
theorem dX6_isFull_71 : decode cX6_isFull 71 = .ok (.if_icmp .lt 7, 3) := by decide +kernel
theorem dX6_isFull_74 : decode cX6_isFull 74 = .ok (.iconst 1, 1) := by decide +kernel
theorem dX6_isFull_75 : decode cX6_isFull 75 = .ok (.goto 4, 3) := by decide +kernel
theorem dX6_isFull_78 : decode cX6_isFull 78 = .ok (.iconst 0, 1) := by decide +kernel
theorem dX6_isFull_79 : decode cX6_isFull 79 = .ok (.ireturn, 1) := by decide +kernel
theorem dX6_isFull_80 : decode cX6_isFull 80 = .ok (.aload_n 0, 1) := by decide +kernel
theorem dX6_isFull_81 : decode cX6_isFull 81 = .ok (.getfield 12, 3) := by decide +kernel
theorem dX6_isFull_84 : decode cX6_isFull 84 = .ok (.getfield 219, 3) := by decide +kernel
theorem dX6_isFull_87 : decode cX6_isFull 87 = .ok (.bipush 6, 2) := by decide +kernel
theorem dX6_isFull_89 : decode cX6_isFull 89 = .ok (.if_icmp .lt 7, 3) := by decide +kernel
theorem dX6_isFull_92 : decode cX6_isFull 92 = .ok (.iconst 1, 1) := by decide +kernel
theorem dX6_isFull_93 : decode cX6_isFull 93 = .ok (.goto 4, 3) := by decide +kernel
theorem dX6_isFull_96 : decode cX6_isFull 96 = .ok (.iconst 0, 1) := by decide +kernel
theorem dX6_isFull_97 : decode cX6_isFull 97 = .ok (.ireturn, 1) := by decide +kernel
theorem dX6_isFull_98 : decode cX6_isFull 98 = .ok (.aload_n 0, 1) := by decide +kernel
theorem dX6_isFull_99 : decode cX6_isFull 99 = .ok (.getfield 35, 3) := by decide +kernel
theorem dX6_isFull_102 : decode cX6_isFull 102 = .ok (.getfield 91, 3) := by decide +kernel
theorem dX6_isFull_105 : decode cX6_isFull 105 = .ok (.bipush 10, 2) := by decide +kernel
theorem dX6_isFull_107 : decode cX6_isFull 107 = .ok (.if_icmp .lt 7, 3) := by decide +kernel
theorem dX6_isFull_110 : decode cX6_isFull 110 = .ok (.iconst 1, 1) := by decide +kernel
theorem dX6_isFull_111 : decode cX6_isFull 111 = .ok (.goto 4, 3) := by decide +kernel
theorem dX6_isFull_114 : decode cX6_isFull 114 = .ok (.iconst 0, 1) := by decide +kernel
theorem dX6_isFull_115 : decode cX6_isFull 115 = .ok (.ireturn, 1) := by decide +kernel
theorem dX6_isFull_116 : decode cX6_isFull 116 = .ok (.iload_n 1, 1) := by decide +kernel
theorem dX6_isFull_117 : decode cX6_isFull 117 = .ok (.bipush 9, 2) := by decide +kernel
theorem dX6_isFull_119 : decode cX6_isFull 119 = .ok (.if_icmp .lt 25, 3) := by decide +kernel
theorem dX6_isFull_122 : decode cX6_isFull 122 = .ok (.iload_n 1, 1) := by decide +kernel
theorem dX6_isFull_123 : decode cX6_isFull 123 = .ok (.bipush 13, 2) := by decide +kernel
theorem dX6_isFull_125 : decode cX6_isFull 125 = .ok (.if_icmp .gt 19, 3) := by decide +kernel
theorem dX6_isFull_128 : decode cX6_isFull 128 = .ok (.aload_n 0, 1) := by decide +kernel
theorem dX6_isFull_129 : decode cX6_isFull 129 = .ok (.getfield 21, 3) := by decide +kernel
theorem dX6_isFull_132 : decode cX6_isFull 132 = .ok (.getfield 87, 3) := by decide +kernel
theorem dX6_isFull_135 : decode cX6_isFull 135 = .ok (.bipush 40, 2) := by decide +kernel
theorem dX6_isFull_137 : decode cX6_isFull 137 = .ok (.if_icmp .lt 7, 3) := by decide +kernel
theorem dX6_isFull_140 : decode cX6_isFull 140 = .ok (.iconst 1, 1) := by decide +kernel
theorem dX6_isFull_141 : decode cX6_isFull 141 = .ok (.goto 4, 3) := by decide +kernel
theorem dX6_isFull_144 : decode cX6_isFull 144 = .ok (.iconst 0, 1) := by decide +kernel
theorem dX6_isFull_145 : decode cX6_isFull 145 = .ok (.ireturn, 1) := by decide +kernel
def is_X6_isFull : Nat → List Nat := fun d => []
set_option maxRecDepth 100000 in
def b_X6_isFull_145 (J : Nat → List qV → List qV → qW → Prop) (Q : qR) : qK := x_zret Q
set_option maxRecDepth 100000 in
theorem s_X6_isFull_145 {p : Program} {l : Launch} {e : Env} {R : Room} {s : State} {m : MethodId} {args : Array Value} {below : List Frame} {meth : Method} {c : Code} {nW : Nat} {dC : Nat → ClassId} {dI : Nat → Nat → Nat} {k : Nat → ClassId} {g : Nat → Nat} {A : Nat → Prop} {J : Nat → List qV → List qV → qW → Prop} {Q : qR} (X : q_X p R s m args meth c cX6_isFull 2 nW 0 0 RX6 (some .boolean) dC dI k g A) (hJ : ∀ d : Nat, q_Sd p l e R s m args below meth c 2 nW dC dI k g A (MQ below (q_post (dC, dI) k g nW Q A) args s 0 0 A) d (x_cut (is_X6_isFull d) (J d))) : q_Sd p l e R s m args below meth c 2 nW dC dI k g A (MQ below (q_post (dC, dI) k g nW Q A) args s 0 0 A) 145 (b_X6_isFull_145 J Q) := by
  unfold b_X6_isFull_145
  exact s_zret X dX6_isFull_145
set_option maxRecDepth 100000 in
def b_X6_isFull_144 (J : Nat → List qV → List qV → qW → Prop) (Q : qR) : qK := x_int 0 (b_X6_isFull_145 J Q)
set_option maxRecDepth 100000 in
theorem s_X6_isFull_144 {p : Program} {l : Launch} {e : Env} {R : Room} {s : State} {m : MethodId} {args : Array Value} {below : List Frame} {meth : Method} {c : Code} {nW : Nat} {dC : Nat → ClassId} {dI : Nat → Nat → Nat} {k : Nat → ClassId} {g : Nat → Nat} {A : Nat → Prop} {J : Nat → List qV → List qV → qW → Prop} {Q : qR} (X : q_X p R s m args meth c cX6_isFull 2 nW 0 0 RX6 (some .boolean) dC dI k g A) (hJ : ∀ d : Nat, q_Sd p l e R s m args below meth c 2 nW dC dI k g A (MQ below (q_post (dC, dI) k g nW Q A) args s 0 0 A) d (x_cut (is_X6_isFull d) (J d))) : q_Sd p l e R s m args below meth c 2 nW dC dI k g A (MQ below (q_post (dC, dI) k g nW Q A) args s 0 0 A) 144 (b_X6_isFull_144 J Q) := by
  unfold b_X6_isFull_144
  refine s_iconst X ⟨by decide, by decide⟩ dX6_isFull_144 ?_
  exact s_X6_isFull_145 X hJ
set_option maxRecDepth 100000 in
def b_X6_isFull_115 (J : Nat → List qV → List qV → qW → Prop) (Q : qR) : qK := x_zret Q
set_option maxRecDepth 100000 in
theorem s_X6_isFull_115 {p : Program} {l : Launch} {e : Env} {R : Room} {s : State} {m : MethodId} {args : Array Value} {below : List Frame} {meth : Method} {c : Code} {nW : Nat} {dC : Nat → ClassId} {dI : Nat → Nat → Nat} {k : Nat → ClassId} {g : Nat → Nat} {A : Nat → Prop} {J : Nat → List qV → List qV → qW → Prop} {Q : qR} (X : q_X p R s m args meth c cX6_isFull 2 nW 0 0 RX6 (some .boolean) dC dI k g A) (hJ : ∀ d : Nat, q_Sd p l e R s m args below meth c 2 nW dC dI k g A (MQ below (q_post (dC, dI) k g nW Q A) args s 0 0 A) d (x_cut (is_X6_isFull d) (J d))) : q_Sd p l e R s m args below meth c 2 nW dC dI k g A (MQ below (q_post (dC, dI) k g nW Q A) args s 0 0 A) 115 (b_X6_isFull_115 J Q) := by
  unfold b_X6_isFull_115
  exact s_zret X dX6_isFull_115
set_option maxRecDepth 100000 in
def b_X6_isFull_97 (J : Nat → List qV → List qV → qW → Prop) (Q : qR) : qK := x_zret Q
set_option maxRecDepth 100000 in
theorem s_X6_isFull_97 {p : Program} {l : Launch} {e : Env} {R : Room} {s : State} {m : MethodId} {args : Array Value} {below : List Frame} {meth : Method} {c : Code} {nW : Nat} {dC : Nat → ClassId} {dI : Nat → Nat → Nat} {k : Nat → ClassId} {g : Nat → Nat} {A : Nat → Prop} {J : Nat → List qV → List qV → qW → Prop} {Q : qR} (X : q_X p R s m args meth c cX6_isFull 2 nW 0 0 RX6 (some .boolean) dC dI k g A) (hJ : ∀ d : Nat, q_Sd p l e R s m args below meth c 2 nW dC dI k g A (MQ below (q_post (dC, dI) k g nW Q A) args s 0 0 A) d (x_cut (is_X6_isFull d) (J d))) : q_Sd p l e R s m args below meth c 2 nW dC dI k g A (MQ below (q_post (dC, dI) k g nW Q A) args s 0 0 A) 97 (b_X6_isFull_97 J Q) := by
  unfold b_X6_isFull_97
  exact s_zret X dX6_isFull_97
set_option maxRecDepth 100000 in
def b_X6_isFull_79 (J : Nat → List qV → List qV → qW → Prop) (Q : qR) : qK := x_zret Q
set_option maxRecDepth 100000 in
theorem s_X6_isFull_79 {p : Program} {l : Launch} {e : Env} {R : Room} {s : State} {m : MethodId} {args : Array Value} {below : List Frame} {meth : Method} {c : Code} {nW : Nat} {dC : Nat → ClassId} {dI : Nat → Nat → Nat} {k : Nat → ClassId} {g : Nat → Nat} {A : Nat → Prop} {J : Nat → List qV → List qV → qW → Prop} {Q : qR} (X : q_X p R s m args meth c cX6_isFull 2 nW 0 0 RX6 (some .boolean) dC dI k g A) (hJ : ∀ d : Nat, q_Sd p l e R s m args below meth c 2 nW dC dI k g A (MQ below (q_post (dC, dI) k g nW Q A) args s 0 0 A) d (x_cut (is_X6_isFull d) (J d))) : q_Sd p l e R s m args below meth c 2 nW dC dI k g A (MQ below (q_post (dC, dI) k g nW Q A) args s 0 0 A) 79 (b_X6_isFull_79 J Q) := by
  unfold b_X6_isFull_79
  exact s_zret X dX6_isFull_79
set_option maxRecDepth 100000 in
def b_X6_isFull_61 (J : Nat → List qV → List qV → qW → Prop) (Q : qR) : qK := x_zret Q
set_option maxRecDepth 100000 in
theorem s_X6_isFull_61 {p : Program} {l : Launch} {e : Env} {R : Room} {s : State} {m : MethodId} {args : Array Value} {below : List Frame} {meth : Method} {c : Code} {nW : Nat} {dC : Nat → ClassId} {dI : Nat → Nat → Nat} {k : Nat → ClassId} {g : Nat → Nat} {A : Nat → Prop} {J : Nat → List qV → List qV → qW → Prop} {Q : qR} (X : q_X p R s m args meth c cX6_isFull 2 nW 0 0 RX6 (some .boolean) dC dI k g A) (hJ : ∀ d : Nat, q_Sd p l e R s m args below meth c 2 nW dC dI k g A (MQ below (q_post (dC, dI) k g nW Q A) args s 0 0 A) d (x_cut (is_X6_isFull d) (J d))) : q_Sd p l e R s m args below meth c 2 nW dC dI k g A (MQ below (q_post (dC, dI) k g nW Q A) args s 0 0 A) 61 (b_X6_isFull_61 J Q) := by
  unfold b_X6_isFull_61
  exact s_zret X dX6_isFull_61
set_option maxRecDepth 100000 in
def b_X6_isFull_0 (J : Nat → List qV → List qV → qW → Prop) (Q : qR) : qK := x_iload 1 (x_lsw (List.map (fun (q : Int × Nat × qK) => (q.1, q.2.2)) [(0, 44, x_aload 0 (x_get 6 0 (x_get 0 7 (x_int 8 (x_icmp_lt (x_int 0 (b_X6_isFull_61 J Q)) (x_int 1 (b_X6_isFull_61 J Q))))))), (3, 62, x_aload 0 (x_get 6 0 (x_get 0 10 (x_int 6 (x_icmp_lt (x_int 0 (b_X6_isFull_79 J Q)) (x_int 1 (b_X6_isFull_79 J Q))))))), (4, 80, x_aload 0 (x_get 6 0 (x_get 0 11 (x_int 6 (x_icmp_lt (x_int 0 (b_X6_isFull_97 J Q)) (x_int 1 (b_X6_isFull_97 J Q))))))), (16, 98, x_aload 0 (x_get 6 3 (x_get 7 2 (x_int 10 (x_icmp_lt (x_int 0 (b_X6_isFull_115 J Q)) (x_int 1 (b_X6_isFull_115 J Q)))))))]) (x_iload 1 (x_int 9 (x_icmp_lt (b_X6_isFull_144 J Q) (x_iload 1 (x_int 13 (x_icmp_gt (b_X6_isFull_144 J Q) (x_aload 0 (x_get 6 1 (x_get 10 4 (x_int 40 (x_icmp_lt (b_X6_isFull_144 J Q) (x_int 1 (b_X6_isFull_145 J Q))))))))))))))
set_option maxRecDepth 100000 in
theorem s_X6_isFull_0 {p : Program} {l : Launch} {e : Env} {R : Room} {s : State} {m : MethodId} {args : Array Value} {below : List Frame} {meth : Method} {c : Code} {nW : Nat} {dC : Nat → ClassId} {dI : Nat → Nat → Nat} {k : Nat → ClassId} {g : Nat → Nat} {A : Nat → Prop} {J : Nat → List qV → List qV → qW → Prop} {Q : qR} (X : q_X p R s m args meth c cX6_isFull 2 nW 0 0 RX6 (some .boolean) dC dI k g A) (hJ : ∀ d : Nat, q_Sd p l e R s m args below meth c 2 nW dC dI k g A (MQ below (q_post (dC, dI) k g nW Q A) args s 0 0 A) d (x_cut (is_X6_isFull d) (J d))) : q_Sd p l e R s m args below meth c 2 nW dC dI k g A (MQ below (q_post (dC, dI) k g nW Q A) args s 0 0 A) 0 (b_X6_isFull_0 J Q) := by
  unfold b_X6_isFull_0
  refine s_iload_n X rfl dX6_isFull_0 ?_
  refine s_lsw X [(0, 44, x_aload 0 (x_get 6 0 (x_get 0 7 (x_int 8 (x_icmp_lt (x_int 0 (b_X6_isFull_61 J Q)) (x_int 1 (b_X6_isFull_61 J Q))))))), (3, 62, x_aload 0 (x_get 6 0 (x_get 0 10 (x_int 6 (x_icmp_lt (x_int 0 (b_X6_isFull_79 J Q)) (x_int 1 (b_X6_isFull_79 J Q))))))), (4, 80, x_aload 0 (x_get 6 0 (x_get 0 11 (x_int 6 (x_icmp_lt (x_int 0 (b_X6_isFull_97 J Q)) (x_int 1 (b_X6_isFull_97 J Q))))))), (16, 98, x_aload 0 (x_get 6 3 (x_get 7 2 (x_int 10 (x_icmp_lt (x_int 0 (b_X6_isFull_115 J Q)) (x_int 1 (b_X6_isFull_115 J Q)))))))] (td := 116) dX6_isFull_1 (by decide) (by decide) (by decide) ?_ ?_
  · intro q hq
    simp only [List.mem_cons, List.not_mem_nil, or_false] at hq
    rcases hq with rfl | rfl | rfl | rfl
    · refine s_aload_n X rfl dX6_isFull_44 ?_
      refine s_get X (T := TX6) (C := RX6) (N := 15) tu_X6 rfl (by decide) tw_267 dX6_isFull_45 ?_
      refine s_get X (T := TX0) (C := RX0) (N := 12) tu_X0 rfl (by decide) tw_195 dX6_isFull_48 ?_
      refine s_bipush X ⟨by decide, by decide⟩ (by decide) dX6_isFull_51 ?_
      refine s_icmp_lt X (tgt := 60) dX6_isFull_53 (by decide) ?_ ?_
      · refine s_iconst X ⟨by decide, by decide⟩ dX6_isFull_60 ?_
        exact s_X6_isFull_61 X hJ
      · refine s_iconst X ⟨by decide, by decide⟩ dX6_isFull_56 ?_
        refine s_goto X (tgt := 61) dX6_isFull_57 (by decide) ?_
        exact s_X6_isFull_61 X hJ
    · refine s_aload_n X rfl dX6_isFull_62 ?_
      refine s_get X (T := TX6) (C := RX6) (N := 15) tu_X6 rfl (by decide) tw_267 dX6_isFull_63 ?_
      refine s_get X (T := TX0) (C := RX0) (N := 12) tu_X0 rfl (by decide) tw_204 dX6_isFull_66 ?_
      refine s_bipush X ⟨by decide, by decide⟩ (by decide) dX6_isFull_69 ?_
      refine s_icmp_lt X (tgt := 78) dX6_isFull_71 (by decide) ?_ ?_
      · refine s_iconst X ⟨by decide, by decide⟩ dX6_isFull_78 ?_
        exact s_X6_isFull_79 X hJ
      · refine s_iconst X ⟨by decide, by decide⟩ dX6_isFull_74 ?_
        refine s_goto X (tgt := 79) dX6_isFull_75 (by decide) ?_
        exact s_X6_isFull_79 X hJ
    · refine s_aload_n X rfl dX6_isFull_80 ?_
      refine s_get X (T := TX6) (C := RX6) (N := 15) tu_X6 rfl (by decide) tw_267 dX6_isFull_81 ?_
      refine s_get X (T := TX0) (C := RX0) (N := 12) tu_X0 rfl (by decide) tw_209 dX6_isFull_84 ?_
      refine s_bipush X ⟨by decide, by decide⟩ (by decide) dX6_isFull_87 ?_
      refine s_icmp_lt X (tgt := 96) dX6_isFull_89 (by decide) ?_ ?_
      · refine s_iconst X ⟨by decide, by decide⟩ dX6_isFull_96 ?_
        exact s_X6_isFull_97 X hJ
      · refine s_iconst X ⟨by decide, by decide⟩ dX6_isFull_92 ?_
        refine s_goto X (tgt := 97) dX6_isFull_93 (by decide) ?_
        exact s_X6_isFull_97 X hJ
    · refine s_aload_n X rfl dX6_isFull_98 ?_
      refine s_get X (T := TX6) (C := RX6) (N := 15) tu_X6 rfl (by decide) tw_273 dX6_isFull_99 ?_
      refine s_get X (T := TX7) (C := RX7) (N := 3) tu_X7 rfl (by decide) tw_247 dX6_isFull_102 ?_
      refine s_bipush X ⟨by decide, by decide⟩ (by decide) dX6_isFull_105 ?_
      refine s_icmp_lt X (tgt := 114) dX6_isFull_107 (by decide) ?_ ?_
      · refine s_iconst X ⟨by decide, by decide⟩ dX6_isFull_114 ?_
        exact s_X6_isFull_115 X hJ
      · refine s_iconst X ⟨by decide, by decide⟩ dX6_isFull_110 ?_
        refine s_goto X (tgt := 115) dX6_isFull_111 (by decide) ?_
        exact s_X6_isFull_115 X hJ
  · refine s_iload_n X rfl dX6_isFull_116 ?_
    refine s_bipush X ⟨by decide, by decide⟩ (by decide) dX6_isFull_117 ?_
    refine s_icmp_lt X (tgt := 144) dX6_isFull_119 (by decide) ?_ ?_
    · exact s_X6_isFull_144 X hJ
    · refine s_iload_n X rfl dX6_isFull_122 ?_
      refine s_bipush X ⟨by decide, by decide⟩ (by decide) dX6_isFull_123 ?_
      refine s_icmp_gt X (tgt := 144) dX6_isFull_125 (by decide) ?_ ?_
      · exact s_X6_isFull_144 X hJ
      · refine s_aload_n X rfl dX6_isFull_128 ?_
        refine s_get X (T := TX6) (C := RX6) (N := 15) tu_X6 rfl (by decide) tw_269 dX6_isFull_129 ?_
        refine s_get X (T := TX10) (C := RX10) (N := 5) tu_X10 rfl (by decide) tw_225 dX6_isFull_132 ?_
        refine s_bipush X ⟨by decide, by decide⟩ (by decide) dX6_isFull_135 ?_
        refine s_icmp_lt X (tgt := 144) dX6_isFull_137 (by decide) ?_ ?_
        · exact s_X6_isFull_144 X hJ
        · refine s_iconst X ⟨by decide, by decide⟩ dX6_isFull_140 ?_
          refine s_goto X (tgt := 145) dX6_isFull_141 (by decide) ?_
          exact s_X6_isFull_145 X hJ

def spr_X6_isFull : List qV → qW → (Option qV → Prop) → Prop := fun av w Q => ∃ (rln : Int) (rfa : Int) (rpl : Int) (rst : Int) (rnx : Int) (rtk : Int) (rnm : Int) (rnp : Int) (rnd : Int) (rbf1 : Nat → Int) (rbf2 : Nat → Int) (rbf3 : Nat → Int) (rbf4 : Nat → Int) (rbf5 : Nat → Int) (rbf6 : Nat → Int) (rbf7 : Nat → Int) (rbu0 : Int) (rbu1 : Int) (rbu2 : Int) (rbu3 : Int) (rbu4 : Int) (ryk1 : Nat → Int) (ryk2 : Nat → Int) (ryk3 : Nat → Int) (ryk4 : Nat → Int) (ryd : Int) (rsp : Nat → Int) (rsq : Nat → Int) (rsc : Int) (a : Int), av = [q2 0, q1 a] ∧ w = [.inr (6, [q2 1, q2 9, q2 17, q2 14, q2 18, q2 19, q1 rln, q1 rfa, q1 rpl, q1 rst, q1 rnx, q1 rtk, q1 rnm, q1 rnp, q1 rnd]), .inr (0, [q2 2, q2 3, q2 4, q2 5, q2 6, q2 7, q2 8, q1 rbu0, q1 rbu1, q1 rbu2, q1 rbu3, q1 rbu4]), .inl (0, 8, .inl rbf1), .inl (0, 8, .inl rbf2), .inl (0, 4, .inl rbf3), .inl (0, 32, .inl rbf4), .inl (0, 6, .inl rbf5), .inl (0, 6, .inl rbf6), .inl (0, 6, .inl rbf7), .inr (10, [q2 10, q2 11, q2 12, q2 13, q1 ryd]), .inl (0, 40, .inl ryk1), .inl (0, 40, .inl ryk2), .inl (0, 40, .inl ryk3), .inl (0, 40, .inl ryk4), .inr (7, [q2 15, q2 16, q1 rsc]), .inl (0, 10, .inl rsp), .inl (0, 10, .inl rsq)] ∧ (∀ (r : Int) , (r = 0 ∨ r = 1) → Q (some (q1 r)))
def sp_X6_isFull : qS := fun av w Q => spr_X6_isFull av w (fun r => Q r w)
set_option maxHeartbeats 4000000 in
set_option maxRecDepth 100000 in
theorem m_X6_isFull (l : Launch) : q_M l yX6_isFull cX6_isFull 2 (some .boolean) 0 0 sp_X6_isFull := by
  refine q_meth (by decide) (fun av w Q h => by obtain ⟨rln, rfa, rpl, rst, rnx, rtk, rnm, rnp, rnd, rbf1, rbf2, rbf3, rbf4, rbf5, rbf6, rbf7, rbu0, rbu1, rbu2, rbu3, rbu4, ryk1, ryk2, ryk3, ryk4, ryd, rsp, rsq, rsc, a, rfl, rfl, hQ⟩ := h; exact Nat.le_of_ble_eq_true rfl) ?_
  intro p e R s m args below meth c dC dI k g A av w Q hsp oka okw X
  obtain ⟨rln, rfa, rpl, rst, rnx, rtk, rnm, rnp, rnd, rbf1, rbf2, rbf3, rbf4, rbf5, rbf6, rbf7, rbu0, rbu1, rbu2, rbu3, rbu4, ryk1, ryk2, ryk3, ryk4, ryd, rsp, rsq, rsc, a, rfl, rfl, hQ⟩ := hsp
  have o_a : -2147483648 ≤ a ∧ a ≤ 2147483647 := oka _ (List.mem_of_getElem? (i := 1) rfl)
  refine s_mono (s_X6_isFull_0 X (J := fun _ _ _ _ => False) (fun d => s_cutF)) ?_
  rintro lv st w' ⟨rfl, rfl, rfl⟩
  apply And.intro
  · intro h1
    apply And.intro
    · intro h53
      apply And.intro
      · first | exact Or.inl rfl | exact Or.inr rfl | omega
      exact hQ _ (by first | omega | assumption | exact q_rg_up (by assumption) (by omega) | exact q_rg_up (q_rg_up (by assumption) (by omega)) (by omega) | exact q_rg_cpy (by assumption) (by assumption))
    · intro h53
      apply And.intro
      · first | exact Or.inl rfl | exact Or.inr rfl | omega
      exact hQ _ (by first | omega | assumption | exact q_rg_up (by assumption) (by omega) | exact q_rg_up (q_rg_up (by assumption) (by omega)) (by omega) | exact q_rg_cpy (by assumption) (by assumption))
  · intro h1_0
    apply And.intro
    · intro h1
      apply And.intro
      · intro h71
        apply And.intro
        · first | exact Or.inl rfl | exact Or.inr rfl | omega
        exact hQ _ (by first | omega | assumption | exact q_rg_up (by assumption) (by omega) | exact q_rg_up (q_rg_up (by assumption) (by omega)) (by omega) | exact q_rg_cpy (by assumption) (by assumption))
      · intro h71
        apply And.intro
        · first | exact Or.inl rfl | exact Or.inr rfl | omega
        exact hQ _ (by first | omega | assumption | exact q_rg_up (by assumption) (by omega) | exact q_rg_up (q_rg_up (by assumption) (by omega)) (by omega) | exact q_rg_cpy (by assumption) (by assumption))
    · intro h1_1
      apply And.intro
      · intro h1
        apply And.intro
        · intro h89
          apply And.intro
          · first | exact Or.inl rfl | exact Or.inr rfl | omega
          exact hQ _ (by first | omega | assumption | exact q_rg_up (by assumption) (by omega) | exact q_rg_up (q_rg_up (by assumption) (by omega)) (by omega) | exact q_rg_cpy (by assumption) (by assumption))
        · intro h89
          apply And.intro
          · first | exact Or.inl rfl | exact Or.inr rfl | omega
          exact hQ _ (by first | omega | assumption | exact q_rg_up (by assumption) (by omega) | exact q_rg_up (q_rg_up (by assumption) (by omega)) (by omega) | exact q_rg_cpy (by assumption) (by assumption))
      · intro h1_2
        apply And.intro
        · intro h1
          apply And.intro
          · intro h107
            apply And.intro
            · first | exact Or.inl rfl | exact Or.inr rfl | omega
            exact hQ _ (by first | omega | assumption | exact q_rg_up (by assumption) (by omega) | exact q_rg_up (q_rg_up (by assumption) (by omega)) (by omega) | exact q_rg_cpy (by assumption) (by assumption))
          · intro h107
            apply And.intro
            · first | exact Or.inl rfl | exact Or.inr rfl | omega
            exact hQ _ (by first | omega | assumption | exact q_rg_up (by assumption) (by omega) | exact q_rg_up (q_rg_up (by assumption) (by omega)) (by omega) | exact q_rg_cpy (by assumption) (by assumption))
        · intro h1_3
          apply And.intro
          · intro h119
            apply And.intro
            · first | exact Or.inl rfl | exact Or.inr rfl | omega
            exact hQ _ (by first | omega | assumption | exact q_rg_up (by assumption) (by omega) | exact q_rg_up (q_rg_up (by assumption) (by omega)) (by omega) | exact q_rg_cpy (by assumption) (by assumption))
          · intro h119
            apply And.intro
            · intro h125
              apply And.intro
              · first | exact Or.inl rfl | exact Or.inr rfl | omega
              exact hQ _ (by first | omega | assumption | exact q_rg_up (by assumption) (by omega) | exact q_rg_up (q_rg_up (by assumption) (by omega)) (by omega) | exact q_rg_cpy (by assumption) (by assumption))
            · intro h125
              apply And.intro
              · intro h137
                apply And.intro
                · first | exact Or.inl rfl | exact Or.inr rfl | omega
                exact hQ _ (by first | omega | assumption | exact q_rg_up (by assumption) (by omega) | exact q_rg_up (q_rg_up (by assumption) (by omega)) (by omega) | exact q_rg_cpy (by assumption) (by assumption))
              · intro h137
                apply And.intro
                · first | exact Or.inl rfl | exact Or.inr rfl | omega
                exact hQ _ (by first | omega | assumption | exact q_rg_up (by assumption) (by omega) | exact q_rg_up (q_rg_up (by assumption) (by omega)) (by omega) | exact q_rg_cpy (by assumption) (by assumption))
