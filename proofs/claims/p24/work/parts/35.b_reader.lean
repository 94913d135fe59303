theorem dX6_isFull_0 : decode cX6_isFull 0 = .ok (.iload_n 1, 1) := by decide +kernel
theorem dX6_isFull_1 : decode cX6_isFull 1 = .ok (.lookupswitch 115 #[(0, 43), (3, 61), (4, 79), (16, 97)], 43) := by decide +kernel
theorem dX6_isFull_44 : decode cX6_isFull 44 = .ok (.aload_n 0, 1) := by decide +kernel
theorem dX6_isFull_45 : decode cX6_isFull 45 = .ok (.getfield 12, 3) := by decide +kernel
theorem dX6_isFull_48 : decode cX6_isFull 48 = .ok (.getfield 103, 3) := by decide +kernel
theorem dX6_isFull_51 : decode cX6_isFull 51 = .ok (.bipush 8, 2) := by decide +kernel
theorem dX6_isFull_53 : decode cX6_isFull 53 = .ok (.if_icmp .lt 7, 3) := by decide +kernel
theorem dX6_isFull_56 : decode cX6_isFull 56 = .ok (.iconst 1, 1) := by decide +kernel
theorem dX6_isFull_57 : decode cX6_isFull 57 = .ok (.goto 4, 3) := by decide +kernel
theorem dX6_isFull_60 : decode cX6_isFull 60 = .ok (.iconst 0, 1) := by decide +kernel
theorem dX6_isFull_61 : decode cX6_isFull 61 = .ok (.ireturn, 1) := by decide +kernel
theorem dX6_isFull_62 : decode cX6_isFull 62 = .ok (.aload_n 0, 1) := by decide +kernel
theorem dX6_isFull_63 : decode cX6_isFull 63 = .ok (.getfield 12, 3) := by decide +kernel
theorem dX6_isFull_66 : decode cX6_isFull 66 = .ok (.getfield 110, 3) := by decide +kernel
theorem dX6_isFull_69 : decode cX6_isFull 69 = .ok (.bipush 6, 2) := by decide +kernel
theorem dX6_isFull_71 : decode cX6_isFull 71 = .ok (.if_icmp .lt 7, 3) := by decide +kernel
theorem dX6_isFull_74 : decode cX6_isFull 74 = .ok (.iconst 1, 1) := by decide +kernel
theorem dX6_isFull_75 : decode cX6_isFull 75 = .ok (.goto 4, 3) := by decide +kernel
theorem dX6_isFull_78 : decode cX6_isFull 78 = .ok (.iconst 0, 1) := by decide +kernel
theorem dX6_isFull_79 : decode cX6_isFull 79 = .ok (.ireturn, 1) := by decide +kernel
theorem dX6_isFull_80 : decode cX6_isFull 80 = .ok (.aload_n 0, 1) := by decide +kernel
theorem dX6_isFull_81 : decode cX6_isFull 81 = .ok (.getfield 12, 3) := by decide +kernel
theorem dX6_isFull_84 : decode cX6_isFull 84 = .ok (.getfield 219, 3) := by decide +kernel
theorem dX6_isFull_87 : decode cX6_isFull 87 = .ok (.bipush 6, 2) := by decide +kernel
theorem dX6_isFull_89 : decode cX6_isFull 89 = .ok (.if_icmp .lt 7, 3) := by decide +kernel
theorem dX6_isFull_92 : decode cX6_isFull 92 = .ok (.iconst 1, 1) := by decide +kernel
theorem dX6_isFull_93 : decode cX6_isFull 93 = .ok (.goto 4, 3) := by decide +kernel
theorem dX6_isFull_96 : decode cX6_isFull 96 = .ok (.iconst 0, 1) := by decide +kernel
theorem dX6_isFull_97 : decode cX6_isFull 97 = .ok (.ireturn, 1) := by decide +kernel
theorem dX6_isFull_98 : decode cX6_isFull 98 = .ok (.aload_n 0, 1) := by decide +kernel
theorem dX6_isFull_99 : decode cX6_isFull 99 = .ok (.getfield 35, 3) := by decide +kernel
theorem dX6_isFull_102 : decode cX6_isFull 102 = .ok (.getfield 91, 3) := by decide +kernel
theorem dX6_isFull_105 : decode cX6_isFull 105 = .ok (.bipush 10, 2) := by decide +kernel
theorem dX6_isFull_107 : decode cX6_isFull 107 = .ok (.if_icmp .lt 7, 3) := by decide +kernel
theorem dX6_isFull_110 : decode cX6_isFull 110 = .ok (.iconst 1, 1) := by decide +kernel
theorem dX6_isFull_111 : decode cX6_isFull 111 = .ok (.goto 4, 3) := by decide +kernel
theorem dX6_isFull_114 : decode cX6_isFull 114 = .ok (.iconst 0, 1) := by decide +kernel
theorem dX6_isFull_115 : decode cX6_isFull 115 = .ok (.ireturn, 1) := by decide +kernel
theorem dX6_isFull_116 : decode cX6_isFull 116 = .ok (.iload_n 1, 1) := by decide +kernel
theorem dX6_isFull_117 : decode cX6_isFull 117 = .ok (.bipush 9, 2) := by decide +kernel
theorem dX6_isFull_119 : decode cX6_isFull 119 = .ok (.if_icmp .lt 25, 3) := by decide +kernel
theorem dX6_isFull_122 : decode cX6_isFull 122 = .ok (.iload_n 1, 1) := by decide +kernel
theorem dX6_isFull_123 : decode cX6_isFull 123 = .ok (.bipush 13, 2) := by decide +kernel
theorem dX6_isFull_125 : decode cX6_isFull 125 = .ok (.if_icmp .gt 19, 3) := by decide +kernel
theorem dX6_isFull_128 : decode cX6_isFull 128 = .ok (.aload_n 0, 1) := by decide +kernel
theorem dX6_isFull_129 : decode cX6_isFull 129 = .ok (.getfield 21, 3) := by decide +kernel
theorem dX6_isFull_132 : decode cX6_isFull 132 = .ok (.getfield 87, 3) := by decide +kernel
theorem dX6_isFull_135 : decode cX6_isFull 135 = .ok (.bipush 40, 2) := by decide +kernel
theorem dX6_isFull_137 : decode cX6_isFull 137 = .ok (.if_icmp .lt 7, 3) := by decide +kernel
theorem dX6_isFull_140 : decode cX6_isFull 140 = .ok (.iconst 1, 1) := by decide +kernel
theorem dX6_isFull_141 : decode cX6_isFull 141 = .ok (.goto 4, 3) := by decide +kernel
theorem dX6_isFull_144 : decode cX6_isFull 144 = .ok (.iconst 0, 1) := by decide +kernel
theorem dX6_isFull_145 : decode cX6_isFull 145 = .ok (.ireturn, 1) := by decide +kernel
def is_X6_isFull : Nat → List Nat := fun d => []
set_option maxRecDepth 100000 in
def b_X6_isFull_145 (J : Nat → List qV → List qV → qW → Prop) (Q : qR) : qK := x_zret Q
set_option maxRecDepth 100000 in
theorem s_X6_isFull_145 {p : Program} {l : Launch} {e : Env} {R : Room} {s : State} {m : MethodId} {args : Array Value} {below : List Frame} {meth : Method} {c : Code} {nW : Nat} {dC : Nat → ClassId} {dI : Nat → Nat → Nat} {k : Nat → ClassId} {g : Nat → Nat} {A : Nat → Prop} {J : Nat → List qV → List qV → qW → Prop} {Q : qR} (X : q_X p R s m args meth c cX6_isFull 2 nW 0 0 RX6 (some .boolean) dC dI k g A) (hJ : ∀ d : Nat, q_Sd p l e R s m args below meth c 2 nW dC dI k g A (MQ below (q_post (dC, dI) k g nW Q A) args s 0 0 A) d (x_cut (is_X6_isFull d) (J d))) : q_Sd p l e R s m args below meth c 2 nW dC dI k g A (MQ below (q_post (dC, dI) k g nW Q A) args s 0 0 A) 145 (b_X6_isFull_145 J Q) := by
  unfold b_X6_isFull_145
  exact s_zret X dX6_isFull_145
set_option maxRecDepth 100000 in
def b_X6_isFull_144 (J : Nat → List qV → List qV → qW → Prop) (Q : qR) : qK := x_int 0 (b_X6_isFull_145 J Q)
set_option maxRecDepth 100000 in
theorem s_X6_isFull_144 {p : Program} {l : Launch} {e : Env} {R : Room} {s : State} {m : MethodId} {args : Array Value} {below : List Frame} {meth : Method} {c : Code} {nW : Nat} {dC : Nat → ClassId} {dI : Nat → Nat → Nat} {k : Nat → ClassId} {g : Nat → Nat} {A : Nat → Prop} {J : Nat → List qV → List qV → qW → Prop} {Q : qR} (X : q_X p R s m args meth c cX6_isFull 2 nW 0 0 RX6 (some .boolean) dC dI k g A) (hJ : ∀ d : Nat, q_Sd p l e R s m args below meth c 2 nW dC dI k g A (MQ below (q_post (dC, dI) k g nW Q A) args s 0 0 A) d (x_cut (is_X6_isFull d) (J d))) : q_Sd p l e R s m args below meth c 2 nW dC dI k g A (MQ below (q_post (dC, dI) k g nW Q A) args s 0 0 A) 144 (b_X6_isFull_144 J Q) := by
  unfold b_X6_isFull_144
  refine s_iconst X ⟨by decide, by decide⟩ dX6_isFull_144 ?_
  exact s_X6_isFull_145 X hJ
set_option maxRecDepth 100000 in
def b_X6_isFull_115 (J : Nat → List qV → List qV → qW → Prop) (Q : qR) : qK := x_zret Q
set_option maxRecDepth 100000 in
theorem s_X6_isFull_115 {p : Program} {l : Launch} {e : Env} {R : Room} {s : State} {m : MethodId} {args : Array Value} {below : List Frame} {meth : Method} {c : Code} {nW : Nat} {dC : Nat → ClassId} {dI : Nat → Nat → Nat} {k : Nat → ClassId} {g : Nat → Nat} {A : Nat → Prop} {J : Nat → List qV → List qV → qW → Prop} {Q : qR} (X : q_X p R s m args meth c cX6_isFull 2 nW 0 0 RX6 (some .boolean) dC dI k g A) (hJ : ∀ d : Nat, q_Sd p l e R s m args below meth c 2 nW dC dI k g A (MQ below (q_post (dC, dI) k g nW Q A) args s 0 0 A) d (x_cut (is_X6_isFull d) (J d))) : q_Sd p l e R s m args below meth c 2 nW dC dI k g A (MQ below (q_post (dC, dI) k g nW Q A) args s 0 0 A) 115 (b_X6_isFull_115 J Q) := by
  unfold b_X6_isFull_115
  exact s_zret X dX6_isFull_115
set_option maxRecDepth 100000 in
def b_X6_isFull_97 (J : Nat → List qV → List qV → qW → Prop) (Q : qR) : qK := x_zret Q
set_option maxRecDepth 100000 in
theorem s_X6_isFull_97 {p : Program} {l : Launch} {e : Env} {R : Room} {s : State} {m : MethodId} {args : Array Value} {below : List Frame} {meth : Method} {c : Code} {nW : Nat} {dC : Nat → ClassId} {dI : Nat → Nat → Nat} {k : Nat → ClassId} {g : Nat → Nat} {A : Nat → Prop} {J : Nat → List qV → List qV → qW → Prop} {Q : qR} (X : q_X p R s m args meth c cX6_isFull 2 nW 0 0 RX6 (some .boolean) dC dI k g A) (hJ : ∀ d : Nat, q_Sd p l e R s m args below meth c 2 nW dC dI k g A (MQ below (q_post (dC, dI) k g nW Q A) args s 0 0 A) d (x_cut (is_X6_isFull d) (J d))) : q_Sd p l e R s m args below meth c 2 nW dC dI k g A (MQ below (q_post (dC, dI) k g nW Q A) args s 0 0 A) 97 (b_X6_isFull_97 J Q) := by
  unfold b_X6_isFull_97
  exact s_zret X dX6_isFull_97
set_option maxRecDepth 100000 in
def b_X6_isFull_79 (J : Nat → List qV → List qV → qW → Prop) (Q : qR) : qK := x_zret Q
set_option maxRecDepth 100000 in
theorem s_X6_isFull_79 {p : Program} {l : Launch} {e : Env} {R : Room} {s : State} {m : MethodId} {args : Array Value} {below : List Frame} {meth : Method} {c : Code} {nW : Nat} {dC : Nat → ClassId} {dI : Nat → Nat → Nat} {k : Nat → ClassId} {g : Nat → Nat} {A : Nat → Prop} {J : Nat → List qV → List qV → qW → Prop} {Q : qR} (X : q_X p R s m args meth c cX6_isFull 2 nW 0 0 RX6 (some .boolean) dC dI k g A) (hJ : ∀ d : Nat, q_Sd p l e R s m args below meth c 2 nW dC dI k g A (MQ below (q_post (dC, dI) k g nW Q A) args s 0 0 A) d (x_cut (is_X6_isFull d) (J d))) : q_Sd p l e R s m args below meth c 2 nW dC dI k g A (MQ below (q_post (dC, dI) k g nW Q A) args s 0 0 A) 79 (b_X6_isFull_79 J Q) := by
  unfold b_X6_isFull_79
  exact s_zret X dX6_isFull_79
set_option maxRecDepth 100000 in
def b_X6_isFull_61 (J : Nat → List qV → List qV → qW → Prop) (Q : qR) : qK := x_zret Q
set_option maxRecDepth 100000 in
theorem s_X6_isFull_61 {p : Program} {l : Launch} {e : Env} {R : Room} {s : State} {m : MethodId} {args : Array Value} {below : List Frame} {meth : Method} {c : Code} {nW : Nat} {dC : Nat → ClassId} {dI : Nat → Nat → Nat} {k : Nat → ClassId} {g : Nat → Nat} {A : Nat → Prop} {J : Nat → List qV → List qV → qW → Prop} {Q : qR} (X : q_X p R s m args meth c cX6_isFull 2 nW 0 0 RX6 (some .boolean) dC dI k g A) (hJ : ∀ d : Nat, q_Sd p l e R s m args below meth c 2 nW dC dI k g A (MQ below (q_post (dC, dI) k g nW Q A) args s 0 0 A) d (x_cut (is_X6_isFull d) (J d))) : q_Sd p l e R s m args below meth c 2 nW dC dI k g A (MQ below (q_post (dC, dI) k g nW Q A) args s 0 0 A) 61 (b_X6_isFull_61 J Q) := by
  unfold b_X6_isFull_61
  exact s_zret X dX6_isFull_61
set_option maxRecDepth 100000 in
def b_X6_isFull_0 (J : Nat → List qV → List qV → qW → Prop) (Q : qR) : qK := x_iload 1 (x_lsw (List.map (fun (q : Int × Nat × qK) => (q.1, q.2.2)) [(0, 44, x_aload 0 (x_get 6 0 (x_get 0 7 (x_int 8 (x_icmp_lt (x_int 0 (b_X6_isFull_61 J Q)) (x_int 1 (b_X6_isFull_61 J Q))))))), (3, 62, x_aload 0 (x_get 6 0 (x_get 0 10 (x_int 6 (x_icmp_lt (x_int 0 (b_X6_isFull_79 J Q)) (x_int 1 (b_X6_isFull_79 J Q))))))), (4, 80, x_aload 0 (x_get 6 0 (x_get 0 11 (x_int 6 (x_icmp_lt (x_int 0 (b_X6_isFull_97 J Q)) (x_int 1 (b_X6_isFull_97 J Q))))))), (16, 98, x_aload 0 (x_get 6 3 (x_get 7 2 (x_int 10 (x_icmp_lt (x_int 0 (b_X6_isFull_115 J Q)) (x_int 1 (b_X6_isFull_115 J Q)))))))]) (x_iload 1 (x_int 9 (x_icmp_lt (b_X6_isFull_144 J Q) (x_iload 1 (x_int 13 (x_icmp_gt (b_X6_isFull_144 J Q) (x_aload 0 (x_get 6 1 (x_get 10 4 (x_int 40 (x_icmp_lt (b_X6_isFull_144 J Q) (x_int 1 (b_X6_isFull_145 J Q))))))))))))))
set_option maxRecDepth 100000 in
theorem s_X6_isFull_0 {p : Program} {l : Launch} {e : Env} {R : Room} {s : State} {m : MethodId} {args : Array Value} {below : List Frame} {meth : Method} {c : Code} {nW : Nat} {dC : Nat → ClassId} {dI : Nat → Nat → Nat} {k : Nat → ClassId} {g : Nat → Nat} {A : Nat → Prop} {J : Nat → List qV → List qV → qW → Prop} {Q : qR} (X : q_X p R s m args meth c cX6_isFull 2 nW 0 0 RX6 (some .boolean) dC dI k g A) (hJ : ∀ d : Nat, q_Sd p l e R s m args below meth c 2 nW dC dI k g A (MQ below (q_post (dC, dI) k g nW Q A) args s 0 0 A) d (x_cut (is_X6_isFull d) (J d))) : q_Sd p l e R s m args below meth c 2 nW dC dI k g A (MQ below (q_post (dC, dI) k g nW Q A) args s 0 0 A) 0 (b_X6_isFull_0 J Q) := by
  unfold b_X6_isFull_0
  refine s_iload_n X rfl dX6_isFull_0 ?_
  refine s_lsw X [(0, 44, x_aload 0 (x_get 6 0 (x_get 0 7 (x_int 8 (x_icmp_lt (x_int 0 (b_X6_isFull_61 J Q)) (x_int 1 (b_X6_isFull_61 J Q))))))), (3, 62, x_aload 0 (x_get 6 0 (x_get 0 10 (x_int 6 (x_icmp_lt (x_int 0 (b_X6_isFull_79 J Q)) (x_int 1 (b_X6_isFull_79 J Q))))))), (4, 80, x_aload 0 (x_get 6 0 (x_get 0 11 (x_int 6 (x_icmp_lt (x_int 0 (b_X6_isFull_97 J Q)) (x_int 1 (b_X6_isFull_97 J Q))))))), (16, 98, x_aload 0 (x_get 6 3 (x_get 7 2 (x_int 10 (x_icmp_lt (x_int 0 (b_X6_isFull_115 J Q)) (x_int 1 (b_X6_isFull_115 J Q)))))))] (td := 116) dX6_isFull_1 (by decide) rfl (by decide) ?_ ?_
  · intro q hq
    simp only [List.mem_cons, List.not_mem_nil, or_false] at hq
    rcases hq with rfl | rfl | rfl | rfl
    · show q_Sd p l e R s m args below meth c 2 nW dC dI k g A _ 44 _
      refine s_aload_n X rfl dX6_isFull_44 ?_
      refine s_get X (T := TX6) (C := RX6) (N := 15) tu_X6 rfl (by decide) tw_267 dX6_isFull_45 ?_
      refine s_get X (T := TX0) (C := RX0) (N := 12) tu_X0 rfl (by decide) tw_195 dX6_isFull_48 ?_
      refine s_bipush X ⟨by decide, by decide⟩ (by decide) dX6_isFull_51 ?_
      refine s_icmp_lt X (tgt := 60) dX6_isFull_53 (by decide) ?_ ?_
      · refine s_iconst X ⟨by decide, by decide⟩ dX6_isFull_60 ?_
        exact s_X6_isFull_61 X hJ
      · refine s_iconst X ⟨by decide, by decide⟩ dX6_isFull_56 ?_
        refine s_goto X (tgt := 61) dX6_isFull_57 (by decide) ?_
        exact s_X6_isFull_61 X hJ
    · show q_Sd p l e R s m args below meth c 2 nW dC dI k g A _ 62 _
      refine s_aload_n X rfl dX6_isFull_62 ?_
      refine s_get X (T := TX6) (C := RX6) (N := 15) tu_X6 rfl (by decide) tw_267 dX6_isFull_63 ?_
      refine s_get X (T := TX0) (C := RX0) (N := 12) tu_X0 rfl (by decide) tw_204 dX6_isFull_66 ?_
      refine s_bipush X ⟨by decide, by decide⟩ (by decide) dX6_isFull_69 ?_
      refine s_icmp_lt X (tgt := 78) dX6_isFull_71 (by decide) ?_ ?_
      · refine s_iconst X ⟨by decide, by decide⟩ dX6_isFull_78 ?_
        exact s_X6_isFull_79 X hJ
      · refine s_iconst X ⟨by decide, by decide⟩ dX6_isFull_74 ?_
        refine s_goto X (tgt := 79) dX6_isFull_75 (by decide) ?_
        exact s_X6_isFull_79 X hJ
    · show q_Sd p l e R s m args below meth c 2 nW dC dI k g A _ 80 _
      refine s_aload_n X rfl dX6_isFull_80 ?_
      refine s_get X (T := TX6) (C := RX6) (N := 15) tu_X6 rfl (by decide) tw_267 dX6_isFull_81 ?_
      refine s_get X (T := TX0) (C := RX0) (N := 12) tu_X0 rfl (by decide) tw_209 dX6_isFull_84 ?_
      refine s_bipush X ⟨by decide, by decide⟩ (by decide) dX6_isFull_87 ?_
      refine s_icmp_lt X (tgt := 96) dX6_isFull_89 (by decide) ?_ ?_
      · refine s_iconst X ⟨by decide, by decide⟩ dX6_isFull_96 ?_
        exact s_X6_isFull_97 X hJ
      · refine s_iconst X ⟨by decide, by decide⟩ dX6_isFull_92 ?_
        refine s_goto X (tgt := 97) dX6_isFull_93 (by decide) ?_
        exact s_X6_isFull_97 X hJ
    · show q_Sd p l e R s m args below meth c 2 nW dC dI k g A _ 98 _
      refine s_aload_n X rfl dX6_isFull_98 ?_
      refine s_get X (T := TX6) (C := RX6) (N := 15) tu_X6 rfl (by decide) tw_273 dX6_isFull_99 ?_
      refine s_get X (T := TX7) (C := RX7) (N := 3) tu_X7 rfl (by decide) tw_247 dX6_isFull_102 ?_
      refine s_bipush X ⟨by decide, by decide⟩ (by decide) dX6_isFull_105 ?_
      refine s_icmp_lt X (tgt := 114) dX6_isFull_107 (by decide) ?_ ?_
      · refine s_iconst X ⟨by decide, by decide⟩ dX6_isFull_114 ?_
        exact s_X6_isFull_115 X hJ
      · refine s_iconst X ⟨by decide, by decide⟩ dX6_isFull_110 ?_
        refine s_goto X (tgt := 115) dX6_isFull_111 (by decide) ?_
        exact s_X6_isFull_115 X hJ
  · refine s_iload_n X rfl dX6_isFull_116 ?_
    refine s_bipush X ⟨by decide, by decide⟩ (by decide) dX6_isFull_117 ?_
    refine s_icmp_lt X (tgt := 144) dX6_isFull_119 (by decide) ?_ ?_
    · exact s_X6_isFull_144 X hJ
    · refine s_iload_n X rfl dX6_isFull_122 ?_
      refine s_bipush X ⟨by decide, by decide⟩ (by decide) dX6_isFull_123 ?_
      refine s_icmp_gt X (tgt := 144) dX6_isFull_125 (by decide) ?_ ?_
      · exact s_X6_isFull_144 X hJ
      · refine s_aload_n X rfl dX6_isFull_128 ?_
        refine s_get X (T := TX6) (C := RX6) (N := 15) tu_X6 rfl (by decide) tw_269 dX6_isFull_129 ?_
        refine s_get X (T := TX10) (C := RX10) (N := 5) tu_X10 rfl (by decide) tw_225 dX6_isFull_132 ?_
        refine s_bipush X ⟨by decide, by decide⟩ (by decide) dX6_isFull_135 ?_
        refine s_icmp_lt X (tgt := 144) dX6_isFull_137 (by decide) ?_ ?_
        · exact s_X6_isFull_144 X hJ
        · refine s_iconst X ⟨by decide, by decide⟩ dX6_isFull_140 ?_
          refine s_goto X (tgt := 145) dX6_isFull_141 (by decide) ?_
          exact s_X6_isFull_145 X hJ

def spr_X6_isFull : List qV → qW → (Option qV → Prop) → Prop := fun av w Q => ∃ (rln : Int) (rfa : Int) (rpl : Int) (rst : Int) (rnx : Int) (rtk : Int) (rnm : Int) (rnp : Int) (rnd : Int) (rbf1 : Nat → Int) (rbf2 : Nat → Int) (rbf3 : Nat → Int) (rbf4 : Nat → Int) (rbf5 : Nat → Int) (rbf6 : Nat → Int) (rbf7 : Nat → Int) (rbu0 : Int) (rbu1 : Int) (rbu2 : Int) (rbu3 : Int) (rbu4 : Int) (ryk1 : Nat → Int) (ryk2 : Nat → Int) (ryk3 : Nat → Int) (ryk4 : Nat → Int) (ryd : Int) (rsp : Nat → Int) (rsq : Nat → Int) (rsc : Int) (a : Int), av = [q2 0, q1 a] ∧ w = [.inr (6, [q2 1, q2 9, q2 17, q2 14, q2 18, q2 19, q1 rln, q1 rfa, q1 rpl, q1 rst, q1 rnx, q1 rtk, q1 rnm, q1 rnp, q1 rnd]), .inr (0, [q2 2, q2 3, q2 4, q2 5, q2 6, q2 7, q2 8, q1 rbu0, q1 rbu1, q1 rbu2, q1 rbu3, q1 rbu4]), .inl (0, 8, .inl rbf1), .inl (0, 8, .inl rbf2), .inl (0, 4, .inl rbf3), .inl (0, 32, .inl rbf4), .inl (0, 6, .inl rbf5), .inl (0, 6, .inl rbf6), .inl (0, 6, .inl rbf7), .inr (10, [q2 10, q2 11, q2 12, q2 13, q1 ryd]), .inl (0, 40, .inl ryk1), .inl (0, 40, .inl ryk2), .inl (0, 40, .inl ryk3), .inl (0, 40, .inl ryk4), .inr (7, [q2 15, q2 16, q1 rsc]), .inl (0, 10, .inl rsp), .inl (0, 10, .inl rsq)] ∧ (∀ (r : Int) , (r = 0 ∨ r = 1) → Q (some (q1 r)))
def sp_X6_isFull : qS := fun av w Q => spr_X6_isFull av w (fun r => Q r w)
set_option maxHeartbeats 4000000 in
set_option maxRecDepth 100000 in
theorem m_X6_isFull (l : Launch) : q_M l yX6_isFull cX6_isFull 2 (some .boolean) 0 0 sp_X6_isFull := by
  refine q_meth (by decide) (fun av w Q h => by obtain ⟨rln, rfa, rpl, rst, rnx, rtk, rnm, rnp, rnd, rbf1, rbf2, rbf3, rbf4, rbf5, rbf6, rbf7, rbu0, rbu1, rbu2, rbu3, rbu4, ryk1, ryk2, ryk3, ryk4, ryd, rsp, rsq, rsc, a, rfl, rfl, hQ⟩ := h; exact Nat.le_of_ble_eq_true rfl) ?_
  intro p e R s m args below meth c dC dI k g A av w Q hsp oka okw X
  obtain ⟨rln, rfa, rpl, rst, rnx, rtk, rnm, rnp, rnd, rbf1, rbf2, rbf3, rbf4, rbf5, rbf6, rbf7, rbu0, rbu1, rbu2, rbu3, rbu4, ryk1, ryk2, ryk3, ryk4, ryd, rsp, rsq, rsc, a, rfl, rfl, hQ⟩ := hsp
  have o_a : -2147483648 ≤ a ∧ a ≤ 2147483647 := oka _ (List.mem_of_getElem? (i := 1) rfl)
  refine s_mono (s_X6_isFull_0 X (J := fun _ _ _ _ => False) (fun d => s_cutF)) ?_
  rintro lv st w' ⟨rfl, rfl, rfl⟩
  apply And.intro
  · intro h1
    replace h1 : _ = (0 : Int) := h1
    apply And.intro
    · intro h53
      apply And.intro
      · first | exact Or.inl rfl | exact Or.inr rfl | omega
      exact hQ _ (by first | omega | assumption | exact q_rg_up (by assumption) (by omega) | exact q_rg_up (q_rg_up (by assumption) (by omega)) (by omega) | exact q_rg_cpy (by assumption) (by assumption))
    · intro h53
      apply And.intro
      · first | exact Or.inl rfl | exact Or.inr rfl | omega
      exact hQ _ (by first | omega | assumption | exact q_rg_up (by assumption) (by omega) | exact q_rg_up (q_rg_up (by assumption) (by omega)) (by omega) | exact q_rg_cpy (by assumption) (by assumption))
  · intro h1_0
    replace h1_0 : ¬ _ = (0 : Int) := h1_0
    apply And.intro
    · intro h1
      replace h1 : _ = (3 : Int) := h1
      apply And.intro
      · intro h71
        apply And.intro
        · first | exact Or.inl rfl | exact Or.inr rfl | omega
        exact hQ _ (by first | omega | assumption | exact q_rg_up (by assumption) (by omega) | exact q_rg_up (q_rg_up (by assumption) (by omega)) (by omega) | exact q_rg_cpy (by assumption) (by assumption))
      · intro h71
        apply And.intro
        · first | exact Or.inl rfl | exact Or.inr rfl | omega
        exact hQ _ (by first | omega | assumption | exact q_rg_up (by assumption) (by omega) | exact q_rg_up (q_rg_up (by assumption) (by omega)) (by omega) | exact q_rg_cpy (by assumption) (by assumption))
    · intro h1_1
      replace h1_1 : ¬ _ = (3 : Int) := h1_1
      apply And.intro
      · intro h1
        replace h1 : _ = (4 : Int) := h1
        apply And.intro
        · intro h89
          apply And.intro
          · first | exact Or.inl rfl | exact Or.inr rfl | omega
          exact hQ _ (by first | omega | assumption | exact q_rg_up (by assumption) (by omega) | exact q_rg_up (q_rg_up (by assumption) (by omega)) (by omega) | exact q_rg_cpy (by assumption) (by assumption))
        · intro h89
          apply And.intro
          · first | exact Or.inl rfl | exact Or.inr rfl | omega
          exact hQ _ (by first | omega | assumption | exact q_rg_up (by assumption) (by omega) | exact q_rg_up (q_rg_up (by assumption) (by omega)) (by omega) | exact q_rg_cpy (by assumption) (by assumption))
      · intro h1_2
        replace h1_2 : ¬ _ = (4 : Int) := h1_2
        apply And.intro
        · intro h1
          replace h1 : _ = (16 : Int) := h1
          apply And.intro
          · intro h107
            apply And.intro
            · first | exact Or.inl rfl | exact Or.inr rfl | omega
            exact hQ _ (by first | omega | assumption | exact q_rg_up (by assumption) (by omega) | exact q_rg_up (q_rg_up (by assumption) (by omega)) (by omega) | exact q_rg_cpy (by assumption) (by assumption))
          · intro h107
            apply And.intro
            · first | exact Or.inl rfl | exact Or.inr rfl | omega
            exact hQ _ (by first | omega | assumption | exact q_rg_up (by assumption) (by omega) | exact q_rg_up (q_rg_up (by assumption) (by omega)) (by omega) | exact q_rg_cpy (by assumption) (by assumption))
        · intro h1_3
          replace h1_3 : ¬ _ = (16 : Int) := h1_3
          apply And.intro
          · intro h119
            apply And.intro
            · first | exact Or.inl rfl | exact Or.inr rfl | omega
            exact hQ _ (by first | omega | assumption | exact q_rg_up (by assumption) (by omega) | exact q_rg_up (q_rg_up (by assumption) (by omega)) (by omega) | exact q_rg_cpy (by assumption) (by assumption))
          · intro h119
            apply And.intro
            · intro h125
              apply And.intro
              · first | exact Or.inl rfl | exact Or.inr rfl | omega
              exact hQ _ (by first | omega | assumption | exact q_rg_up (by assumption) (by omega) | exact q_rg_up (q_rg_up (by assumption) (by omega)) (by omega) | exact q_rg_cpy (by assumption) (by assumption))
            · intro h125
              apply And.intro
              · intro h137
                apply And.intro
                · first | exact Or.inl rfl | exact Or.inr rfl | omega
                exact hQ _ (by first | omega | assumption | exact q_rg_up (by assumption) (by omega) | exact q_rg_up (q_rg_up (by assumption) (by omega)) (by omega) | exact q_rg_cpy (by assumption) (by assumption))
              · intro h137
                apply And.intro
                · first | exact Or.inl rfl | exact Or.inr rfl | omega
                exact hQ _ (by first | omega | assumption | exact q_rg_up (by assumption) (by omega) | exact q_rg_up (q_rg_up (by assumption) (by omega)) (by omega) | exact q_rg_cpy (by assumption) (by assumption))

theorem dX6_tellGot_0 : decode cX6_tellGot 0 = .ok (.iload_n 1, 1) := by decide +kernel
theorem dX6_tellGot_1 : decode cX6_tellGot 1 = .ok (.ifCond .lt 19, 3) := by decide +kernel
theorem dX6_tellGot_4 : decode cX6_tellGot 4 = .ok (.iload_n 1, 1) := by decide +kernel
theorem dX6_tellGot_5 : decode cX6_tellGot 5 = .ok (.bipush 8, 2) := by decide +kernel
theorem dX6_tellGot_7 : decode cX6_tellGot 7 = .ok (.if_icmp .ge 13, 3) := by decide +kernel
theorem dX6_tellGot_10 : decode cX6_tellGot 10 = .ok (.aload_n 0, 1) := by decide +kernel
theorem dX6_tellGot_11 : decode cX6_tellGot 11 = .ok (.getfield 28, 3) := by decide +kernel
theorem dX6_tellGot_14 : decode cX6_tellGot 14 = .ok (.getfield 236, 3) := by decide +kernel
theorem dX6_tellGot_17 : decode cX6_tellGot 17 = .ok (.iload_n 1, 1) := by decide +kernel
theorem dX6_tellGot_18 : decode cX6_tellGot 18 = .ok (.iload_n 2, 1) := by decide +kernel
theorem dX6_tellGot_19 : decode cX6_tellGot 19 = .ok (.iastore, 1) := by decide +kernel
theorem dX6_tellGot_20 : decode cX6_tellGot 20 = .ok (.return_, 1) := by decide +kernel
def is_X6_tellGot : Nat → List Nat := fun d => []
set_option maxRecDepth 100000 in
def b_X6_tellGot_20 (J : Nat → List qV → List qV → qW → Prop) (Q : qR) : qK := x_vret Q
set_option maxRecDepth 100000 in
theorem s_X6_tellGot_20 {p : Program} {l : Launch} {e : Env} {R : Room} {s : State} {m : MethodId} {args : Array Value} {below : List Frame} {meth : Method} {c : Code} {nW : Nat} {dC : Nat → ClassId} {dI : Nat → Nat → Nat} {k : Nat → ClassId} {g : Nat → Nat} {A : Nat → Prop} {J : Nat → List qV → List qV → qW → Prop} {Q : qR} (X : q_X p R s m args meth c cX6_tellGot 3 nW 0 0 RX6 none dC dI k g A) (hJ : ∀ d : Nat, q_Sd p l e R s m args below meth c 3 nW dC dI k g A (MQ below (q_post (dC, dI) k g nW Q A) args s 0 0 A) d (x_cut (is_X6_tellGot d) (J d))) : q_Sd p l e R s m args below meth c 3 nW dC dI k g A (MQ below (q_post (dC, dI) k g nW Q A) args s 0 0 A) 20 (b_X6_tellGot_20 J Q) := by
  unfold b_X6_tellGot_20
  exact s_vret X dX6_tellGot_20
set_option maxRecDepth 100000 in
def b_X6_tellGot_0 (J : Nat → List qV → List qV → qW → Prop) (Q : qR) : qK := x_iload 1 (x_if_lt (b_X6_tellGot_20 J Q) (x_iload 1 (x_int 8 (x_icmp_ge (b_X6_tellGot_20 J Q) (x_aload 0 (x_get 6 2 (x_get 3 0 (x_iload 1 (x_iload 2 (x_iast (x_nw (b_X6_tellGot_20 J Q))))))))))))
set_option maxRecDepth 100000 in
theorem s_X6_tellGot_0 {p : Program} {l : Launch} {e : Env} {R : Room} {s : State} {m : MethodId} {args : Array Value} {below : List Frame} {meth : Method} {c : Code} {nW : Nat} {dC : Nat → ClassId} {dI : Nat → Nat → Nat} {k : Nat → ClassId} {g : Nat → Nat} {A : Nat → Prop} {J : Nat → List qV → List qV → qW → Prop} {Q : qR} (X : q_X p R s m args meth c cX6_tellGot 3 nW 0 0 RX6 none dC dI k g A) (hJ : ∀ d : Nat, q_Sd p l e R s m args below meth c 3 nW dC dI k g A (MQ below (q_post (dC, dI) k g nW Q A) args s 0 0 A) d (x_cut (is_X6_tellGot d) (J d))) : q_Sd p l e R s m args below meth c 3 nW dC dI k g A (MQ below (q_post (dC, dI) k g nW Q A) args s 0 0 A) 0 (b_X6_tellGot_0 J Q) := by
  unfold b_X6_tellGot_0
  refine s_iload_n X rfl dX6_tellGot_0 ?_
  refine s_if_lt X (tgt := 20) dX6_tellGot_1 (by decide) ?_ ?_
  · exact s_X6_tellGot_20 X hJ
  · refine s_iload_n X rfl dX6_tellGot_4 ?_
    refine s_bipush X ⟨by decide, by decide⟩ (by decide) dX6_tellGot_5 ?_
    refine s_icmp_ge X (tgt := 20) dX6_tellGot_7 (by decide) ?_ ?_
    · exact s_X6_tellGot_20 X hJ
    · refine s_aload_n X rfl dX6_tellGot_10 ?_
      refine s_get X (T := TX6) (C := RX6) (N := 15) tu_X6 rfl (by decide) tw_271 dX6_tellGot_11 ?_
      refine s_get X (T := TX3) (C := RX3) (N := 2) tu_X3 rfl (by decide) tw_233 dX6_tellGot_14 ?_
      refine s_iload_n X rfl dX6_tellGot_17 ?_
      refine s_iload_n X rfl dX6_tellGot_18 ?_
      refine s_iast X dX6_tellGot_19 ?_
      refine s_nw ?_
      exact s_X6_tellGot_20 X hJ

def sp_X6_tellGot : qS := fun av w Q => ∃ (rln : Int) (rfa : Int) (rpl : Int) (rst : Int) (rnx : Int) (rtk : Int) (rnm : Int) (rnp : Int) (rnd : Int) (rlg : Nat → Int) (rlo : Int) (a : Int) (b : Int), av = [q2 0, q1 a, q1 b] ∧ w = [.inr (6, [q2 3, q2 4, q2 1, q2 5, q2 6, q2 7, q1 rln, q1 rfa, q1 rpl, q1 rst, q1 rnx, q1 rtk, q1 rnm, q1 rnp, q1 rnd]), .inr (3, [q2 2, q1 rlo]), .inl (0, 8, .inl rlg)] ∧ (∀ (x_rlg : Nat → Int), Q none ([.inr (6, [q2 3, q2 4, q2 1, q2 5, q2 6, q2 7, q1 rln, q1 rfa, q1 rpl, q1 rst, q1 rnx, q1 rtk, q1 rnm, q1 rnp, q1 rnd]), .inr (3, [q2 2, q1 rlo]), .inl (0, 8, .inl x_rlg)]))
set_option maxHeartbeats 4000000 in
set_option maxRecDepth 100000 in
theorem m_X6_tellGot (l : Launch) : q_M l yX6_tellGot cX6_tellGot 3 none 0 0 sp_X6_tellGot := by
  refine q_meth (by decide) (fun av w Q h => by obtain ⟨rln, rfa, rpl, rst, rnx, rtk, rnm, rnp, rnd, rlg, rlo, a, b, rfl, rfl, hQ⟩ := h; exact Nat.le_of_ble_eq_true rfl) ?_
  intro p e R s m args below meth c dC dI k g A av w Q hsp oka okw X
  obtain ⟨rln, rfa, rpl, rst, rnx, rtk, rnm, rnp, rnd, rlg, rlo, a, b, rfl, rfl, hQ⟩ := hsp
  have o_a : -2147483648 ≤ a ∧ a ≤ 2147483647 := oka _ (List.mem_of_getElem? (i := 1) rfl)
  have o_b : -2147483648 ≤ b ∧ b ≤ 2147483647 := oka _ (List.mem_of_getElem? (i := 2) rfl)
  refine s_mono (s_X6_tellGot_0 X (J := fun _ _ _ _ => False) (fun d => s_cutF)) ?_
  rintro lv st w' ⟨rfl, rfl, rfl⟩
  apply And.intro
  · intro h1
    exact hQ _
  · intro h1
    apply And.intro
    · intro h7
      exact hQ _
    · intro h7
      apply And.intro
      · exact ⟨by omega, by omega⟩
      exact hQ _

theorem dX6_tellPerson_0 : decode cX6_tellPerson 0 = .ok (.aload_n 0, 1) := by decide +kernel
theorem dX6_tellPerson_1 : decode cX6_tellPerson 1 = .ok (.getfield 12, 3) := by decide +kernel
theorem dX6_tellPerson_4 : decode cX6_tellPerson 4 = .ok (.getfield 103, 3) := by decide +kernel
theorem dX6_tellPerson_7 : decode cX6_tellPerson 7 = .ok (.bipush 8, 2) := by decide +kernel
theorem dX6_tellPerson_9 : decode cX6_tellPerson 9 = .ok (.if_icmp .ge 32, 3) := by decide +kernel
theorem dX6_tellPerson_12 : decode cX6_tellPerson 12 = .ok (.aload_n 0, 1) := by decide +kernel
theorem dX6_tellPerson_13 : decode cX6_tellPerson 13 = .ok (.getfield 12, 3) := by decide +kernel
theorem dX6_tellPerson_16 : decode cX6_tellPerson 16 = .ok (.getfield 264, 3) := by decide +kernel
theorem dX6_tellPerson_19 : decode cX6_tellPerson 19 = .ok (.aload_n 0, 1) := by decide +kernel
theorem dX6_tellPerson_20 : decode cX6_tellPerson 20 = .ok (.getfield 12, 3) := by decide +kernel
theorem dX6_tellPerson_23 : decode cX6_tellPerson 23 = .ok (.getfield 103, 3) := by decide +kernel
theorem dX6_tellPerson_26 : decode cX6_tellPerson 26 = .ok (.iload_n 1, 1) := by decide +kernel
theorem dX6_tellPerson_27 : decode cX6_tellPerson 27 = .ok (.iastore, 1) := by decide +kernel
theorem dX6_tellPerson_28 : decode cX6_tellPerson 28 = .ok (.aload_n 0, 1) := by decide +kernel
theorem dX6_tellPerson_29 : decode cX6_tellPerson 29 = .ok (.getfield 12, 3) := by decide +kernel
theorem dX6_tellPerson_32 : decode cX6_tellPerson 32 = .ok (.dup, 1) := by decide +kernel
theorem dX6_tellPerson_33 : decode cX6_tellPerson 33 = .ok (.getfield 103, 3) := by decide +kernel
theorem dX6_tellPerson_36 : decode cX6_tellPerson 36 = .ok (.iconst 1, 1) := by decide +kernel
theorem dX6_tellPerson_37 : decode cX6_tellPerson 37 = .ok (.iadd, 1) := by decide +kernel
theorem dX6_tellPerson_38 : decode cX6_tellPerson 38 = .ok (.putfield 103, 3) := by decide +kernel
theorem dX6_tellPerson_41 : decode cX6_tellPerson 41 = .ok (.return_, 1) := by decide +kernel
def is_X6_tellPerson : Nat → List Nat := fun d => []
set_option maxRecDepth 100000 in
def b_X6_tellPerson_41 (J : Nat → List qV → List qV → qW → Prop) (Q : qR) : qK := x_vret Q
set_option maxRecDepth 100000 in
theorem s_X6_tellPerson_41 {p : Program} {l : Launch} {e : Env} {R : Room} {s : State} {m : MethodId} {args : Array Value} {below : List Frame} {meth : Method} {c : Code} {nW : Nat} {dC : Nat → ClassId} {dI : Nat → Nat → Nat} {k : Nat → ClassId} {g : Nat → Nat} {A : Nat → Prop} {J : Nat → List qV → List qV → qW → Prop} {Q : qR} (X : q_X p R s m args meth c cX6_tellPerson 2 nW 0 0 RX6 none dC dI k g A) (hJ : ∀ d : Nat, q_Sd p l e R s m args below meth c 2 nW dC dI k g A (MQ below (q_post (dC, dI) k g nW Q A) args s 0 0 A) d (x_cut (is_X6_tellPerson d) (J d))) : q_Sd p l e R s m args below meth c 2 nW dC dI k g A (MQ below (q_post (dC, dI) k g nW Q A) args s 0 0 A) 41 (b_X6_tellPerson_41 J Q) := by
  unfold b_X6_tellPerson_41
  exact s_vret X dX6_tellPerson_41
set_option maxRecDepth 100000 in
def b_X6_tellPerson_0 (J : Nat → List qV → List qV → qW → Prop) (Q : qR) : qK := x_aload 0 (x_get 6 0 (x_get 0 7 (x_int 8 (x_icmp_ge (b_X6_tellPerson_41 J Q) (x_aload 0 (x_get 6 0 (x_get 0 0 (x_aload 0 (x_get 6 0 (x_get 0 7 (x_iload 1 (x_iast (x_nw (x_aload 0 (x_get 6 0 (x_dup (x_get 0 7 (x_int 1 (x_iadd (x_put 0 7 q_oki (x_nw (b_X6_tellPerson_41 J Q))))))))))))))))))))))
set_option maxRecDepth 100000 in
theorem s_X6_tellPerson_0 {p : Program} {l : Launch} {e : Env} {R : Room} {s : State} {m : MethodId} {args : Array Value} {below : List Frame} {meth : Method} {c : Code} {nW : Nat} {dC : Nat → ClassId} {dI : Nat → Nat → Nat} {k : Nat → ClassId} {g : Nat → Nat} {A : Nat → Prop} {J : Nat → List qV → List qV → qW → Prop} {Q : qR} (X : q_X p R s m args meth c cX6_tellPerson 2 nW 0 0 RX6 none dC dI k g A) (hJ : ∀ d : Nat, q_Sd p l e R s m args below meth c 2 nW dC dI k g A (MQ below (q_post (dC, dI) k g nW Q A) args s 0 0 A) d (x_cut (is_X6_tellPerson d) (J d))) : q_Sd p l e R s m args below meth c 2 nW dC dI k g A (MQ below (q_post (dC, dI) k g nW Q A) args s 0 0 A) 0 (b_X6_tellPerson_0 J Q) := by
  unfold b_X6_tellPerson_0
  refine s_aload_n X rfl dX6_tellPerson_0 ?_
  refine s_get X (T := TX6) (C := RX6) (N := 15) tu_X6 rfl (by decide) tw_267 dX6_tellPerson_1 ?_
  refine s_get X (T := TX0) (C := RX0) (N := 12) tu_X0 rfl (by decide) tw_195 dX6_tellPerson_4 ?_
  refine s_bipush X ⟨by decide, by decide⟩ (by decide) dX6_tellPerson_7 ?_
  refine s_icmp_ge X (tgt := 41) dX6_tellPerson_9 (by decide) ?_ ?_
  · exact s_X6_tellPerson_41 X hJ
  · refine s_aload_n X rfl dX6_tellPerson_12 ?_
    refine s_get X (T := TX6) (C := RX6) (N := 15) tu_X6 rfl (by decide) tw_267 dX6_tellPerson_13 ?_
    refine s_get X (T := TX0) (C := RX0) (N := 12) tu_X0 rfl (by decide) tw_170 dX6_tellPerson_16 ?_
    refine s_aload_n X rfl dX6_tellPerson_19 ?_
    refine s_get X (T := TX6) (C := RX6) (N := 15) tu_X6 rfl (by decide) tw_267 dX6_tellPerson_20 ?_
    refine s_get X (T := TX0) (C := RX0) (N := 12) tu_X0 rfl (by decide) tw_195 dX6_tellPerson_23 ?_
    refine s_iload_n X rfl dX6_tellPerson_26 ?_
    refine s_iast X dX6_tellPerson_27 ?_
    refine s_nw ?_
    refine s_aload_n X rfl dX6_tellPerson_28 ?_
    refine s_get X (T := TX6) (C := RX6) (N := 15) tu_X6 rfl (by decide) tw_267 dX6_tellPerson_29 ?_
    refine s_dup X dX6_tellPerson_32 ?_
    refine s_get X (T := TX0) (C := RX0) (N := 12) tu_X0 rfl (by decide) tw_195 dX6_tellPerson_33 ?_
    refine s_iconst X ⟨by decide, by decide⟩ dX6_tellPerson_36 ?_
    refine s_iadd X dX6_tellPerson_37 ?_
    refine s_put X (T := TX0) (C := RX0) (N := 12) tu_X0 tyX0_ok nmX0 rfl (by decide) tw_195 rfl (by decide +kernel) q_oki_t dX6_tellPerson_38 ?_
    refine s_nw ?_
    exact s_X6_tellPerson_41 X hJ

def sp_X6_tellPerson : qS := fun av w Q => ∃ (rln : Int) (rfa : Int) (rpl : Int) (rst : Int) (rnx : Int) (rtk : Int) (rnm : Int) (rnp : Int) (rnd : Int) (rbf1 : Nat → Int) (rbf2 : Nat → Int) (rbf3 : Nat → Int) (rbf4 : Nat → Int) (rbf5 : Nat → Int) (rbf6 : Nat → Int) (rbf7 : Nat → Int) (rbu0 : Int) (rbu1 : Int) (rbu2 : Int) (rbu3 : Int) (rbu4 : Int) (a : Int), av = [q2 0, q1 a] ∧ w = [.inr (6, [q2 1, q2 9, q2 10, q2 11, q2 12, q2 13, q1 rln, q1 rfa, q1 rpl, q1 rst, q1 rnx, q1 rtk, q1 rnm, q1 rnp, q1 rnd]), .inr (0, [q2 2, q2 3, q2 4, q2 5, q2 6, q2 7, q2 8, q1 rbu0, q1 rbu1, q1 rbu2, q1 rbu3, q1 rbu4]), .inl (0, 8, .inl rbf1), .inl (0, 8, .inl rbf2), .inl (0, 4, .inl rbf3), .inl (0, 32, .inl rbf4), .inl (0, 6, .inl rbf5), .inl (0, 6, .inl rbf6), .inl (0, 6, .inl rbf7)] ∧ (0 ≤ rbu0 ∧ rbu0 ≤ 8 ∧ 0 ≤ rbu3 ∧ rbu3 ≤ 6 ∧ 0 ≤ rbu4 ∧ rbu4 ≤ 6) ∧ (∀ (x_rbf1 : Nat → Int) (x_rbu0 : Int), 0 ≤ x_rbu0 ∧ x_rbu0 ≤ 8 → Q none ([.inr (6, [q2 1, q2 9, q2 10, q2 11, q2 12, q2 13, q1 rln, q1 rfa, q1 rpl, q1 rst, q1 rnx, q1 rtk, q1 rnm, q1 rnp, q1 rnd]), .inr (0, [q2 2, q2 3, q2 4, q2 5, q2 6, q2 7, q2 8, q1 x_rbu0, q1 rbu1, q1 rbu2, q1 rbu3, q1 rbu4]), .inl (0, 8, .inl x_rbf1), .inl (0, 8, .inl rbf2), .inl (0, 4, .inl rbf3), .inl (0, 32, .inl rbf4), .inl (0, 6, .inl rbf5), .inl (0, 6, .inl rbf6), .inl (0, 6, .inl rbf7)]))
set_option maxHeartbeats 4000000 in
set_option maxRecDepth 100000 in
theorem m_X6_tellPerson (l : Launch) : q_M l yX6_tellPerson cX6_tellPerson 2 none 0 0 sp_X6_tellPerson := by
  refine q_meth (by decide) (fun av w Q h => by obtain ⟨rln, rfa, rpl, rst, rnx, rtk, rnm, rnp, rnd, rbf1, rbf2, rbf3, rbf4, rbf5, rbf6, rbf7, rbu0, rbu1, rbu2, rbu3, rbu4, a, rfl, rfl, hrb, hQ⟩ := h; exact Nat.le_of_ble_eq_true rfl) ?_
  intro p e R s m args below meth c dC dI k g A av w Q hsp oka okw X
  obtain ⟨rln, rfa, rpl, rst, rnx, rtk, rnm, rnp, rnd, rbf1, rbf2, rbf3, rbf4, rbf5, rbf6, rbf7, rbu0, rbu1, rbu2, rbu3, rbu4, a, rfl, rfl, hrb, hQ⟩ := hsp
  have o_a : -2147483648 ≤ a ∧ a ≤ 2147483647 := oka _ (List.mem_of_getElem? (i := 1) rfl)
  refine s_mono (s_X6_tellPerson_0 X (J := fun _ _ _ _ => False) (fun d => s_cutF)) ?_
  rintro lv st w' ⟨rfl, rfl, rfl⟩
  apply And.intro
  · intro h9
    exact hQ _ _ (by first | omega | assumption | exact q_rg_up (by assumption) (by omega) | exact q_rg_up (q_rg_up (by assumption) (by omega)) (by omega) | exact q_rg_cpy (by assumption) (by assumption))
  · intro h9
    apply And.intro
    · exact ⟨by omega, by omega⟩
    intro z37 h37
    first | replace h37 := e_add h37 (by omega) | replace h37 := e_rng h37
    apply And.intro
    · exact trivial
    exact hQ _ _ (by first | omega | assumption | exact q_rg_up (by assumption) (by omega) | exact q_rg_up (q_rg_up (by assumption) (by omega)) (by omega) | exact q_rg_cpy (by assumption) (by assumption))

theorem dX6_tellDoor_0 : decode cX6_tellDoor 0 = .ok (.aload_n 0, 1) := by decide +kernel
theorem dX6_tellDoor_1 : decode cX6_tellDoor 1 = .ok (.getfield 12, 3) := by decide +kernel
theorem dX6_tellDoor_4 : decode cX6_tellDoor 4 = .ok (.getfield 110, 3) := by decide +kernel
theorem dX6_tellDoor_7 : decode cX6_tellDoor 7 = .ok (.bipush 6, 2) := by decide +kernel
theorem dX6_tellDoor_9 : decode cX6_tellDoor 9 = .ok (.if_icmp .ge 32, 3) := by decide +kernel
theorem dX6_tellDoor_12 : decode cX6_tellDoor 12 = .ok (.aload_n 0, 1) := by decide +kernel
theorem dX6_tellDoor_13 : decode cX6_tellDoor 13 = .ok (.getfield 12, 3) := by decide +kernel
theorem dX6_tellDoor_16 : decode cX6_tellDoor 16 = .ok (.getfield 267, 3) := by decide +kernel
theorem dX6_tellDoor_19 : decode cX6_tellDoor 19 = .ok (.aload_n 0, 1) := by decide +kernel
theorem dX6_tellDoor_20 : decode cX6_tellDoor 20 = .ok (.getfield 12, 3) := by decide +kernel
theorem dX6_tellDoor_23 : decode cX6_tellDoor 23 = .ok (.getfield 110, 3) := by decide +kernel
theorem dX6_tellDoor_26 : decode cX6_tellDoor 26 = .ok (.iload_n 1, 1) := by decide +kernel
theorem dX6_tellDoor_27 : decode cX6_tellDoor 27 = .ok (.iastore, 1) := by decide +kernel
theorem dX6_tellDoor_28 : decode cX6_tellDoor 28 = .ok (.aload_n 0, 1) := by decide +kernel
theorem dX6_tellDoor_29 : decode cX6_tellDoor 29 = .ok (.getfield 12, 3) := by decide +kernel
theorem dX6_tellDoor_32 : decode cX6_tellDoor 32 = .ok (.dup, 1) := by decide +kernel
theorem dX6_tellDoor_33 : decode cX6_tellDoor 33 = .ok (.getfield 110, 3) := by decide +kernel
theorem dX6_tellDoor_36 : decode cX6_tellDoor 36 = .ok (.iconst 1, 1) := by decide +kernel
theorem dX6_tellDoor_37 : decode cX6_tellDoor 37 = .ok (.iadd, 1) := by decide +kernel
theorem dX6_tellDoor_38 : decode cX6_tellDoor 38 = .ok (.putfield 110, 3) := by decide +kernel
theorem dX6_tellDoor_41 : decode cX6_tellDoor 41 = .ok (.return_, 1) := by decide +kernel
def is_X6_tellDoor : Nat → List Nat := fun d => []
set_option maxRecDepth 100000 in
def b_X6_tellDoor_41 (J : Nat → List qV → List qV → qW → Prop) (Q : qR) : qK := x_vret Q
set_option maxRecDepth 100000 in
theorem s_X6_tellDoor_41 {p : Program} {l : Launch} {e : Env} {R : Room} {s : State} {m : MethodId} {args : Array Value} {below : List Frame} {meth : Method} {c : Code} {nW : Nat} {dC : Nat → ClassId} {dI : Nat → Nat → Nat} {k : Nat → ClassId} {g : Nat → Nat} {A : Nat → Prop} {J : Nat → List qV → List qV → qW → Prop} {Q : qR} (X : q_X p R s m args meth c cX6_tellDoor 2 nW 0 0 RX6 none dC dI k g A) (hJ : ∀ d : Nat, q_Sd p l e R s m args below meth c 2 nW dC dI k g A (MQ below (q_post (dC, dI) k g nW Q A) args s 0 0 A) d (x_cut (is_X6_tellDoor d) (J d))) : q_Sd p l e R s m args below meth c 2 nW dC dI k g A (MQ below (q_post (dC, dI) k g nW Q A) args s 0 0 A) 41 (b_X6_tellDoor_41 J Q) := by
  unfold b_X6_tellDoor_41
  exact s_vret X dX6_tellDoor_41
set_option maxRecDepth 100000 in
def b_X6_tellDoor_0 (J : Nat → List qV → List qV → qW → Prop) (Q : qR) : qK := x_aload 0 (x_get 6 0 (x_get 0 10 (x_int 6 (x_icmp_ge (b_X6_tellDoor_41 J Q) (x_aload 0 (x_get 6 0 (x_get 0 4 (x_aload 0 (x_get 6 0 (x_get 0 10 (x_iload 1 (x_iast (x_nw (x_aload 0 (x_get 6 0 (x_dup (x_get 0 10 (x_int 1 (x_iadd (x_put 0 10 q_oki (x_nw (b_X6_tellDoor_41 J Q))))))))))))))))))))))
set_option maxRecDepth 100000 in
theorem s_X6_tellDoor_0 {p : Program} {l : Launch} {e : Env} {R : Room} {s : State} {m : MethodId} {args : Array Value} {below : List Frame} {meth : Method} {c : Code} {nW : Nat} {dC : Nat → ClassId} {dI : Nat → Nat → Nat} {k : Nat → ClassId} {g : Nat → Nat} {A : Nat → Prop} {J : Nat → List qV → List qV → qW → Prop} {Q : qR} (X : q_X p R s m args meth c cX6_tellDoor 2 nW 0 0 RX6 none dC dI k g A) (hJ : ∀ d : Nat, q_Sd p l e R s m args below meth c 2 nW dC dI k g A (MQ below (q_post (dC, dI) k g nW Q A) args s 0 0 A) d (x_cut (is_X6_tellDoor d) (J d))) : q_Sd p l e R s m args below meth c 2 nW dC dI k g A (MQ below (q_post (dC, dI) k g nW Q A) args s 0 0 A) 0 (b_X6_tellDoor_0 J Q) := by
  unfold b_X6_tellDoor_0
  refine s_aload_n X rfl dX6_tellDoor_0 ?_
  refine s_get X (T := TX6) (C := RX6) (N := 15) tu_X6 rfl (by decide) tw_267 dX6_tellDoor_1 ?_
  refine s_get X (T := TX0) (C := RX0) (N := 12) tu_X0 rfl (by decide) tw_204 dX6_tellDoor_4 ?_
  refine s_bipush X ⟨by decide, by decide⟩ (by decide) dX6_tellDoor_7 ?_
  refine s_icmp_ge X (tgt := 41) dX6_tellDoor_9 (by decide) ?_ ?_
  · exact s_X6_tellDoor_41 X hJ
  · refine s_aload_n X rfl dX6_tellDoor_12 ?_
    refine s_get X (T := TX6) (C := RX6) (N := 15) tu_X6 rfl (by decide) tw_267 dX6_tellDoor_13 ?_
    refine s_get X (T := TX0) (C := RX0) (N := 12) tu_X0 rfl (by decide) tw_183 dX6_tellDoor_16 ?_
    refine s_aload_n X rfl dX6_tellDoor_19 ?_
    refine s_get X (T := TX6) (C := RX6) (N := 15) tu_X6 rfl (by decide) tw_267 dX6_tellDoor_20 ?_
    refine s_get X (T := TX0) (C := RX0) (N := 12) tu_X0 rfl (by decide) tw_204 dX6_tellDoor_23 ?_
    refine s_iload_n X rfl dX6_tellDoor_26 ?_
    refine s_iast X dX6_tellDoor_27 ?_
    refine s_nw ?_
    refine s_aload_n X rfl dX6_tellDoor_28 ?_
    refine s_get X (T := TX6) (C := RX6) (N := 15) tu_X6 rfl (by decide) tw_267 dX6_tellDoor_29 ?_
    refine s_dup X dX6_tellDoor_32 ?_
    refine s_get X (T := TX0) (C := RX0) (N := 12) tu_X0 rfl (by decide) tw_204 dX6_tellDoor_33 ?_
    refine s_iconst X ⟨by decide, by decide⟩ dX6_tellDoor_36 ?_
    refine s_iadd X dX6_tellDoor_37 ?_
    refine s_put X (T := TX0) (C := RX0) (N := 12) tu_X0 tyX0_ok nmX0 rfl (by decide) tw_204 rfl (by decide +kernel) q_oki_t dX6_tellDoor_38 ?_
    refine s_nw ?_
    exact s_X6_tellDoor_41 X hJ

def sp_X6_tellDoor : qS := fun av w Q => ∃ (rln : Int) (rfa : Int) (rpl : Int) (rst : Int) (rnx : Int) (rtk : Int) (rnm : Int) (rnp : Int) (rnd : Int) (rbf1 : Nat → Int) (rbf2 : Nat → Int) (rbf3 : Nat → Int) (rbf4 : Nat → Int) (rbf5 : Nat → Int) (rbf6 : Nat → Int) (rbf7 : Nat → Int) (rbu0 : Int) (rbu1 : Int) (rbu2 : Int) (rbu3 : Int) (rbu4 : Int) (a : Int), av = [q2 0, q1 a] ∧ w = [.inr (6, [q2 1, q2 9, q2 10, q2 11, q2 12, q2 13, q1 rln, q1 rfa, q1 rpl, q1 rst, q1 rnx, q1 rtk, q1 rnm, q1 rnp, q1 rnd]), .inr (0, [q2 2, q2 3, q2 4, q2 5, q2 6, q2 7, q2 8, q1 rbu0, q1 rbu1, q1 rbu2, q1 rbu3, q1 rbu4]), .inl (0, 8, .inl rbf1), .inl (0, 8, .inl rbf2), .inl (0, 4, .inl rbf3), .inl (0, 32, .inl rbf4), .inl (0, 6, .inl rbf5), .inl (0, 6, .inl rbf6), .inl (0, 6, .inl rbf7)] ∧ (0 ≤ rbu0 ∧ rbu0 ≤ 8 ∧ 0 ≤ rbu3 ∧ rbu3 ≤ 6 ∧ 0 ≤ rbu4 ∧ rbu4 ≤ 6) ∧ (∀ (x_rbf5 : Nat → Int) (x_rbu3 : Int), 0 ≤ x_rbu3 ∧ x_rbu3 ≤ 6 → Q none ([.inr (6, [q2 1, q2 9, q2 10, q2 11, q2 12, q2 13, q1 rln, q1 rfa, q1 rpl, q1 rst, q1 rnx, q1 rtk, q1 rnm, q1 rnp, q1 rnd]), .inr (0, [q2 2, q2 3, q2 4, q2 5, q2 6, q2 7, q2 8, q1 rbu0, q1 rbu1, q1 rbu2, q1 x_rbu3, q1 rbu4]), .inl (0, 8, .inl rbf1), .inl (0, 8, .inl rbf2), .inl (0, 4, .inl rbf3), .inl (0, 32, .inl rbf4), .inl (0, 6, .inl x_rbf5), .inl (0, 6, .inl rbf6), .inl (0, 6, .inl rbf7)]))
set_option maxHeartbeats 4000000 in
set_option maxRecDepth 100000 in
theorem m_X6_tellDoor (l : Launch) : q_M l yX6_tellDoor cX6_tellDoor 2 none 0 0 sp_X6_tellDoor := by
  refine q_meth (by decide) (fun av w Q h => by obtain ⟨rln, rfa, rpl, rst, rnx, rtk, rnm, rnp, rnd, rbf1, rbf2, rbf3, rbf4, rbf5, rbf6, rbf7, rbu0, rbu1, rbu2, rbu3, rbu4, a, rfl, rfl, hrb, hQ⟩ := h; exact Nat.le_of_ble_eq_true rfl) ?_
  intro p e R s m args below meth c dC dI k g A av w Q hsp oka okw X
  obtain ⟨rln, rfa, rpl, rst, rnx, rtk, rnm, rnp, rnd, rbf1, rbf2, rbf3, rbf4, rbf5, rbf6, rbf7, rbu0, rbu1, rbu2, rbu3, rbu4, a, rfl, rfl, hrb, hQ⟩ := hsp
  have o_a : -2147483648 ≤ a ∧ a ≤ 2147483647 := oka _ (List.mem_of_getElem? (i := 1) rfl)
  refine s_mono (s_X6_tellDoor_0 X (J := fun _ _ _ _ => False) (fun d => s_cutF)) ?_
  rintro lv st w' ⟨rfl, rfl, rfl⟩
  apply And.intro
  · intro h9
    exact hQ _ _ (by first | omega | assumption | exact q_rg_up (by assumption) (by omega) | exact q_rg_up (q_rg_up (by assumption) (by omega)) (by omega) | exact q_rg_cpy (by assumption) (by assumption))
  · intro h9
    apply And.intro
    · exact ⟨by omega, by omega⟩
    intro z37 h37
    first | replace h37 := e_add h37 (by omega) | replace h37 := e_rng h37
    apply And.intro
    · exact trivial
    exact hQ _ _ (by first | omega | assumption | exact q_rg_up (by assumption) (by omega) | exact q_rg_up (q_rg_up (by assumption) (by omega)) (by omega) | exact q_rg_cpy (by assumption) (by assumption))

theorem dX6_tellWork_0 : decode cX6_tellWork 0 = .ok (.aload_n 0, 1) := by decide +kernel
theorem dX6_tellWork_1 : decode cX6_tellWork 1 = .ok (.getfield 12, 3) := by decide +kernel
theorem dX6_tellWork_4 : decode cX6_tellWork 4 = .ok (.getfield 219, 3) := by decide +kernel
theorem dX6_tellWork_7 : decode cX6_tellWork 7 = .ok (.bipush 6, 2) := by decide +kernel
theorem dX6_tellWork_9 : decode cX6_tellWork 9 = .ok (.if_icmp .ge 32, 3) := by decide +kernel
theorem dX6_tellWork_12 : decode cX6_tellWork 12 = .ok (.aload_n 0, 1) := by decide +kernel
theorem dX6_tellWork_13 : decode cX6_tellWork 13 = .ok (.getfield 12, 3) := by decide +kernel
theorem dX6_tellWork_16 : decode cX6_tellWork 16 = .ok (.getfield 270, 3) := by decide +kernel
theorem dX6_tellWork_19 : decode cX6_tellWork 19 = .ok (.aload_n 0, 1) := by decide +kernel
theorem dX6_tellWork_20 : decode cX6_tellWork 20 = .ok (.getfield 12, 3) := by decide +kernel
theorem dX6_tellWork_23 : decode cX6_tellWork 23 = .ok (.getfield 219, 3) := by decide +kernel
theorem dX6_tellWork_26 : decode cX6_tellWork 26 = .ok (.iload_n 1, 1) := by decide +kernel
theorem dX6_tellWork_27 : decode cX6_tellWork 27 = .ok (.iastore, 1) := by decide +kernel
theorem dX6_tellWork_28 : decode cX6_tellWork 28 = .ok (.aload_n 0, 1) := by decide +kernel
theorem dX6_tellWork_29 : decode cX6_tellWork 29 = .ok (.getfield 12, 3) := by decide +kernel
theorem dX6_tellWork_32 : decode cX6_tellWork 32 = .ok (.dup, 1) := by decide +kernel
theorem dX6_tellWork_33 : decode cX6_tellWork 33 = .ok (.getfield 219, 3) := by decide +kernel
theorem dX6_tellWork_36 : decode cX6_tellWork 36 = .ok (.iconst 1, 1) := by decide +kernel
theorem dX6_tellWork_37 : decode cX6_tellWork 37 = .ok (.iadd, 1) := by decide +kernel
theorem dX6_tellWork_38 : decode cX6_tellWork 38 = .ok (.putfield 219, 3) := by decide +kernel
theorem dX6_tellWork_41 : decode cX6_tellWork 41 = .ok (.return_, 1) := by decide +kernel
def is_X6_tellWork : Nat → List Nat := fun d => []
set_option maxRecDepth 100000 in
def b_X6_tellWork_41 (J : Nat → List qV → List qV → qW → Prop) (Q : qR) : qK := x_vret Q
set_option maxRecDepth 100000 in
theorem s_X6_tellWork_41 {p : Program} {l : Launch} {e : Env} {R : Room} {s : State} {m : MethodId} {args : Array Value} {below : List Frame} {meth : Method} {c : Code} {nW : Nat} {dC : Nat → ClassId} {dI : Nat → Nat → Nat} {k : Nat → ClassId} {g : Nat → Nat} {A : Nat → Prop} {J : Nat → List qV → List qV → qW → Prop} {Q : qR} (X : q_X p R s m args meth c cX6_tellWork 2 nW 0 0 RX6 none dC dI k g A) (hJ : ∀ d : Nat, q_Sd p l e R s m args below meth c 2 nW dC dI k g A (MQ below (q_post (dC, dI) k g nW Q A) args s 0 0 A) d (x_cut (is_X6_tellWork d) (J d))) : q_Sd p l e R s m args below meth c 2 nW dC dI k g A (MQ below (q_post (dC, dI) k g nW Q A) args s 0 0 A) 41 (b_X6_tellWork_41 J Q) := by
  unfold b_X6_tellWork_41
  exact s_vret X dX6_tellWork_41
set_option maxRecDepth 100000 in
def b_X6_tellWork_0 (J : Nat → List qV → List qV → qW → Prop) (Q : qR) : qK := x_aload 0 (x_get 6 0 (x_get 0 11 (x_int 6 (x_icmp_ge (b_X6_tellWork_41 J Q) (x_aload 0 (x_get 6 0 (x_get 0 6 (x_aload 0 (x_get 6 0 (x_get 0 11 (x_iload 1 (x_iast (x_nw (x_aload 0 (x_get 6 0 (x_dup (x_get 0 11 (x_int 1 (x_iadd (x_put 0 11 q_oki (x_nw (b_X6_tellWork_41 J Q))))))))))))))))))))))
set_option maxRecDepth 100000 in
theorem s_X6_tellWork_0 {p : Program} {l : Launch} {e : Env} {R : Room} {s : State} {m : MethodId} {args : Array Value} {below : List Frame} {meth : Method} {c : Code} {nW : Nat} {dC : Nat → ClassId} {dI : Nat → Nat → Nat} {k : Nat → ClassId} {g : Nat → Nat} {A : Nat → Prop} {J : Nat → List qV → List qV → qW → Prop} {Q : qR} (X : q_X p R s m args meth c cX6_tellWork 2 nW 0 0 RX6 none dC dI k g A) (hJ : ∀ d : Nat, q_Sd p l e R s m args below meth c 2 nW dC dI k g A (MQ below (q_post (dC, dI) k g nW Q A) args s 0 0 A) d (x_cut (is_X6_tellWork d) (J d))) : q_Sd p l e R s m args below meth c 2 nW dC dI k g A (MQ below (q_post (dC, dI) k g nW Q A) args s 0 0 A) 0 (b_X6_tellWork_0 J Q) := by
  unfold b_X6_tellWork_0
  refine s_aload_n X rfl dX6_tellWork_0 ?_
  refine s_get X (T := TX6) (C := RX6) (N := 15) tu_X6 rfl (by decide) tw_267 dX6_tellWork_1 ?_
  refine s_get X (T := TX0) (C := RX0) (N := 12) tu_X0 rfl (by decide) tw_209 dX6_tellWork_4 ?_
  refine s_bipush X ⟨by decide, by decide⟩ (by decide) dX6_tellWork_7 ?_
  refine s_icmp_ge X (tgt := 41) dX6_tellWork_9 (by decide) ?_ ?_
  · exact s_X6_tellWork_41 X hJ
  · refine s_aload_n X rfl dX6_tellWork_12 ?_
    refine s_get X (T := TX6) (C := RX6) (N := 15) tu_X6 rfl (by decide) tw_267 dX6_tellWork_13 ?_
    refine s_get X (T := TX0) (C := RX0) (N := 12) tu_X0 rfl (by decide) tw_189 dX6_tellWork_16 ?_
    refine s_aload_n X rfl dX6_tellWork_19 ?_
    refine s_get X (T := TX6) (C := RX6) (N := 15) tu_X6 rfl (by decide) tw_267 dX6_tellWork_20 ?_
    refine s_get X (T := TX0) (C := RX0) (N := 12) tu_X0 rfl (by decide) tw_209 dX6_tellWork_23 ?_
    refine s_iload_n X rfl dX6_tellWork_26 ?_
    refine s_iast X dX6_tellWork_27 ?_
    refine s_nw ?_
    refine s_aload_n X rfl dX6_tellWork_28 ?_
    refine s_get X (T := TX6) (C := RX6) (N := 15) tu_X6 rfl (by decide) tw_267 dX6_tellWork_29 ?_
    refine s_dup X dX6_tellWork_32 ?_
    refine s_get X (T := TX0) (C := RX0) (N := 12) tu_X0 rfl (by decide) tw_209 dX6_tellWork_33 ?_
    refine s_iconst X ⟨by decide, by decide⟩ dX6_tellWork_36 ?_
    refine s_iadd X dX6_tellWork_37 ?_
    refine s_put X (T := TX0) (C := RX0) (N := 12) tu_X0 tyX0_ok nmX0 rfl (by decide) tw_209 rfl (by decide +kernel) q_oki_t dX6_tellWork_38 ?_
    refine s_nw ?_
    exact s_X6_tellWork_41 X hJ

def sp_X6_tellWork : qS := fun av w Q => ∃ (rln : Int) (rfa : Int) (rpl : Int) (rst : Int) (rnx : Int) (rtk : Int) (rnm : Int) (rnp : Int) (rnd : Int) (rbf1 : Nat → Int) (rbf2 : Nat → Int) (rbf3 : Nat → Int) (rbf4 : Nat → Int) (rbf5 : Nat → Int) (rbf6 : Nat → Int) (rbf7 : Nat → Int) (rbu0 : Int) (rbu1 : Int) (rbu2 : Int) (rbu3 : Int) (rbu4 : Int) (a : Int), av = [q2 0, q1 a] ∧ w = [.inr (6, [q2 1, q2 9, q2 10, q2 11, q2 12, q2 13, q1 rln, q1 rfa, q1 rpl, q1 rst, q1 rnx, q1 rtk, q1 rnm, q1 rnp, q1 rnd]), .inr (0, [q2 2, q2 3, q2 4, q2 5, q2 6, q2 7, q2 8, q1 rbu0, q1 rbu1, q1 rbu2, q1 rbu3, q1 rbu4]), .inl (0, 8, .inl rbf1), .inl (0, 8, .inl rbf2), .inl (0, 4, .inl rbf3), .inl (0, 32, .inl rbf4), .inl (0, 6, .inl rbf5), .inl (0, 6, .inl rbf6), .inl (0, 6, .inl rbf7)] ∧ (0 ≤ rbu0 ∧ rbu0 ≤ 8 ∧ 0 ≤ rbu3 ∧ rbu3 ≤ 6 ∧ 0 ≤ rbu4 ∧ rbu4 ≤ 6) ∧ (∀ (x_rbf7 : Nat → Int) (x_rbu4 : Int), 0 ≤ x_rbu4 ∧ x_rbu4 ≤ 6 → Q none ([.inr (6, [q2 1, q2 9, q2 10, q2 11, q2 12, q2 13, q1 rln, q1 rfa, q1 rpl, q1 rst, q1 rnx, q1 rtk, q1 rnm, q1 rnp, q1 rnd]), .inr (0, [q2 2, q2 3, q2 4, q2 5, q2 6, q2 7, q2 8, q1 rbu0, q1 rbu1, q1 rbu2, q1 rbu3, q1 x_rbu4]), .inl (0, 8, .inl rbf1), .inl (0, 8, .inl rbf2), .inl (0, 4, .inl rbf3), .inl (0, 32, .inl rbf4), .inl (0, 6, .inl rbf5), .inl (0, 6, .inl rbf6), .inl (0, 6, .inl x_rbf7)]))
set_option maxHeartbeats 4000000 in
set_option maxRecDepth 100000 in
theorem m_X6_tellWork (l : Launch) : q_M l yX6_tellWork cX6_tellWork 2 none 0 0 sp_X6_tellWork := by
  refine q_meth (by decide) (fun av w Q h => by obtain ⟨rln, rfa, rpl, rst, rnx, rtk, rnm, rnp, rnd, rbf1, rbf2, rbf3, rbf4, rbf5, rbf6, rbf7, rbu0, rbu1, rbu2, rbu3, rbu4, a, rfl, rfl, hrb, hQ⟩ := h; exact Nat.le_of_ble_eq_true rfl) ?_
  intro p e R s m args below meth c dC dI k g A av w Q hsp oka okw X
  obtain ⟨rln, rfa, rpl, rst, rnx, rtk, rnm, rnp, rnd, rbf1, rbf2, rbf3, rbf4, rbf5, rbf6, rbf7, rbu0, rbu1, rbu2, rbu3, rbu4, a, rfl, rfl, hrb, hQ⟩ := hsp
  have o_a : -2147483648 ≤ a ∧ a ≤ 2147483647 := oka _ (List.mem_of_getElem? (i := 1) rfl)
  refine s_mono (s_X6_tellWork_0 X (J := fun _ _ _ _ => False) (fun d => s_cutF)) ?_
  rintro lv st w' ⟨rfl, rfl, rfl⟩
  apply And.intro
  · intro h9
    exact hQ _ _ (by first | omega | assumption | exact q_rg_up (by assumption) (by omega) | exact q_rg_up (q_rg_up (by assumption) (by omega)) (by omega) | exact q_rg_cpy (by assumption) (by assumption))
  · intro h9
    apply And.intro
    · exact ⟨by omega, by omega⟩
    intro z37 h37
    first | replace h37 := e_add h37 (by omega) | replace h37 := e_rng h37
    apply And.intro
    · exact trivial
    exact hQ _ _ (by first | omega | assumption | exact q_rg_up (by assumption) (by omega) | exact q_rg_up (q_rg_up (by assumption) (by omega)) (by omega) | exact q_rg_cpy (by assumption) (by assumption))

theorem dX6_tellChild_0 : decode cX6_tellChild 0 = .ok (.iload_n 1, 1) := by decide +kernel
theorem dX6_tellChild_1 : decode cX6_tellChild 1 = .ok (.ifCond .lt 35, 3) := by decide +kernel
theorem dX6_tellChild_4 : decode cX6_tellChild 4 = .ok (.iload_n 1, 1) := by decide +kernel
theorem dX6_tellChild_5 : decode cX6_tellChild 5 = .ok (.bipush 8, 2) := by decide +kernel
theorem dX6_tellChild_7 : decode cX6_tellChild 7 = .ok (.if_icmp .ge 29, 3) := by decide +kernel
theorem dX6_tellChild_10 : decode cX6_tellChild 10 = .ok (.aload_n 0, 1) := by decide +kernel
theorem dX6_tellChild_11 : decode cX6_tellChild 11 = .ok (.getfield 12, 3) := by decide +kernel
theorem dX6_tellChild_14 : decode cX6_tellChild 14 = .ok (.getfield 273, 3) := by decide +kernel
theorem dX6_tellChild_17 : decode cX6_tellChild 17 = .ok (.iload_n 1, 1) := by decide +kernel
theorem dX6_tellChild_18 : decode cX6_tellChild 18 = .ok (.iload_n 2, 1) := by decide +kernel
theorem dX6_tellChild_19 : decode cX6_tellChild 19 = .ok (.iastore, 1) := by decide +kernel
theorem dX6_tellChild_20 : decode cX6_tellChild 20 = .ok (.aload_n 0, 1) := by decide +kernel
theorem dX6_tellChild_21 : decode cX6_tellChild 21 = .ok (.dup, 1) := by decide +kernel
theorem dX6_tellChild_22 : decode cX6_tellChild 22 = .ok (.getfield 97, 3) := by decide +kernel
theorem dX6_tellChild_25 : decode cX6_tellChild 25 = .ok (.iconst 1, 1) := by decide +kernel
theorem dX6_tellChild_26 : decode cX6_tellChild 26 = .ok (.iload_n 1, 1) := by decide +kernel
theorem dX6_tellChild_27 : decode cX6_tellChild 27 = .ok (.ishl, 1) := by decide +kernel
theorem dX6_tellChild_28 : decode cX6_tellChild 28 = .ok (.iconst 1, 1) := by decide +kernel
theorem dX6_tellChild_29 : decode cX6_tellChild 29 = .ok (.iload_n 2, 1) := by decide +kernel
theorem dX6_tellChild_30 : decode cX6_tellChild 30 = .ok (.ishl, 1) := by decide +kernel
theorem dX6_tellChild_31 : decode cX6_tellChild 31 = .ok (.ior, 1) := by decide +kernel
theorem dX6_tellChild_32 : decode cX6_tellChild 32 = .ok (.ior, 1) := by decide +kernel
theorem dX6_tellChild_33 : decode cX6_tellChild 33 = .ok (.putfield 97, 3) := by decide +kernel
theorem dX6_tellChild_36 : decode cX6_tellChild 36 = .ok (.return_, 1) := by decide +kernel
def is_X6_tellChild : Nat → List Nat := fun d => []
set_option maxRecDepth 100000 in
def b_X6_tellChild_36 (J : Nat → List qV → List qV → qW → Prop) (Q : qR) : qK := x_vret Q
set_option maxRecDepth 100000 in
theorem s_X6_tellChild_36 {p : Program} {l : Launch} {e : Env} {R : Room} {s : State} {m : MethodId} {args : Array Value} {below : List Frame} {meth : Method} {c : Code} {nW : Nat} {dC : Nat → ClassId} {dI : Nat → Nat → Nat} {k : Nat → ClassId} {g : Nat → Nat} {A : Nat → Prop} {J : Nat → List qV → List qV → qW → Prop} {Q : qR} (X : q_X p R s m args meth c cX6_tellChild 3 nW 0 0 RX6 none dC dI k g A) (hJ : ∀ d : Nat, q_Sd p l e R s m args below meth c 3 nW dC dI k g A (MQ below (q_post (dC, dI) k g nW Q A) args s 0 0 A) d (x_cut (is_X6_tellChild d) (J d))) : q_Sd p l e R s m args below meth c 3 nW dC dI k g A (MQ below (q_post (dC, dI) k g nW Q A) args s 0 0 A) 36 (b_X6_tellChild_36 J Q) := by
  unfold b_X6_tellChild_36
  exact s_vret X dX6_tellChild_36
set_option maxRecDepth 100000 in
def b_X6_tellChild_0 (J : Nat → List qV → List qV → qW → Prop) (Q : qR) : qK := x_iload 1 (x_if_lt (b_X6_tellChild_36 J Q) (x_iload 1 (x_int 8 (x_icmp_ge (b_X6_tellChild_36 J Q) (x_aload 0 (x_get 6 0 (x_get 0 1 (x_iload 1 (x_iload 2 (x_iast (x_nw (x_aload 0 (x_dup (x_get 6 13 (x_int 1 (x_iload 1 (x_ishl (x_int 1 (x_iload 2 (x_ishl (x_ior (x_ior (x_put 6 13 q_oki (x_nw (b_X6_tellChild_36 J Q)))))))))))))))))))))))))
set_option maxRecDepth 100000 in
theorem s_X6_tellChild_0 {p : Program} {l : Launch} {e : Env} {R : Room} {s : State} {m : MethodId} {args : Array Value} {below : List Frame} {meth : Method} {c : Code} {nW : Nat} {dC : Nat → ClassId} {dI : Nat → Nat → Nat} {k : Nat → ClassId} {g : Nat → Nat} {A : Nat → Prop} {J : Nat → List qV → List qV → qW → Prop} {Q : qR} (X : q_X p R s m args meth c cX6_tellChild 3 nW 0 0 RX6 none dC dI k g A) (hJ : ∀ d : Nat, q_Sd p l e R s m args below meth c 3 nW dC dI k g A (MQ below (q_post (dC, dI) k g nW Q A) args s 0 0 A) d (x_cut (is_X6_tellChild d) (J d))) : q_Sd p l e R s m args below meth c 3 nW dC dI k g A (MQ below (q_post (dC, dI) k g nW Q A) args s 0 0 A) 0 (b_X6_tellChild_0 J Q) := by
  unfold b_X6_tellChild_0
  refine s_iload_n X rfl dX6_tellChild_0 ?_
  refine s_if_lt X (tgt := 36) dX6_tellChild_1 (by decide) ?_ ?_
  · exact s_X6_tellChild_36 X hJ
  · refine s_iload_n X rfl dX6_tellChild_4 ?_
    refine s_bipush X ⟨by decide, by decide⟩ (by decide) dX6_tellChild_5 ?_
    refine s_icmp_ge X (tgt := 36) dX6_tellChild_7 (by decide) ?_ ?_
    · exact s_X6_tellChild_36 X hJ
    · refine s_aload_n X rfl dX6_tellChild_10 ?_
      refine s_get X (T := TX6) (C := RX6) (N := 15) tu_X6 rfl (by decide) tw_267 dX6_tellChild_11 ?_
      refine s_get X (T := TX0) (C := RX0) (N := 12) tu_X0 rfl (by decide) tw_174 dX6_tellChild_14 ?_
      refine s_iload_n X rfl dX6_tellChild_17 ?_
      refine s_iload_n X rfl dX6_tellChild_18 ?_
      refine s_iast X dX6_tellChild_19 ?_
      refine s_nw ?_
      refine s_aload_n X rfl dX6_tellChild_20 ?_
      refine s_dup X dX6_tellChild_21 ?_
      refine s_get X (T := TX6) (C := RX6) (N := 15) tu_X6 rfl (by decide) tw_286 dX6_tellChild_22 ?_
      refine s_iconst X ⟨by decide, by decide⟩ dX6_tellChild_25 ?_
      refine s_iload_n X rfl dX6_tellChild_26 ?_
      refine s_ishl X dX6_tellChild_27 ?_
      refine s_iconst X ⟨by decide, by decide⟩ dX6_tellChild_28 ?_
      refine s_iload_n X rfl dX6_tellChild_29 ?_
      refine s_ishl X dX6_tellChild_30 ?_
      refine s_ior X dX6_tellChild_31 ?_
      refine s_ior X dX6_tellChild_32 ?_
      refine s_put X (T := TX6) (C := RX6) (N := 15) tu_X6 tyX6_ok nmX6 rfl (by decide) tw_286 rfl (by decide +kernel) q_oki_t dX6_tellChild_33 ?_
      refine s_nw ?_
      exact s_X6_tellChild_36 X hJ

def sp_X6_tellChild : qS := fun av w Q => ∃ (rln : Int) (rfa : Int) (rpl : Int) (rst : Int) (rnx : Int) (rtk : Int) (rnm : Int) (rnp : Int) (rnd : Int) (rbf1 : Nat → Int) (rbf2 : Nat → Int) (rbf3 : Nat → Int) (rbf4 : Nat → Int) (rbf5 : Nat → Int) (rbf6 : Nat → Int) (rbf7 : Nat → Int) (rbu0 : Int) (rbu1 : Int) (rbu2 : Int) (rbu3 : Int) (rbu4 : Int) (a : Int) (b : Int), av = [q2 0, q1 a, q1 b] ∧ w = [.inr (6, [q2 1, q2 9, q2 10, q2 11, q2 12, q2 13, q1 rln, q1 rfa, q1 rpl, q1 rst, q1 rnx, q1 rtk, q1 rnm, q1 rnp, q1 rnd]), .inr (0, [q2 2, q2 3, q2 4, q2 5, q2 6, q2 7, q2 8, q1 rbu0, q1 rbu1, q1 rbu2, q1 rbu3, q1 rbu4]), .inl (0, 8, .inl rbf1), .inl (0, 8, .inl rbf2), .inl (0, 4, .inl rbf3), .inl (0, 32, .inl rbf4), .inl (0, 6, .inl rbf5), .inl (0, 6, .inl rbf6), .inl (0, 6, .inl rbf7)] ∧ (∀ (x_rbf2 : Nat → Int) (x_rnp : Int), Q none ([.inr (6, [q2 1, q2 9, q2 10, q2 11, q2 12, q2 13, q1 rln, q1 rfa, q1 rpl, q1 rst, q1 rnx, q1 rtk, q1 rnm, q1 x_rnp, q1 rnd]), .inr (0, [q2 2, q2 3, q2 4, q2 5, q2 6, q2 7, q2 8, q1 rbu0, q1 rbu1, q1 rbu2, q1 rbu3, q1 rbu4]), .inl (0, 8, .inl rbf1), .inl (0, 8, .inl x_rbf2), .inl (0, 4, .inl rbf3), .inl (0, 32, .inl rbf4), .inl (0, 6, .inl rbf5), .inl (0, 6, .inl rbf6), .inl (0, 6, .inl rbf7)]))
set_option maxHeartbeats 4000000 in
set_option maxRecDepth 100000 in
theorem m_X6_tellChild (l : Launch) : q_M l yX6_tellChild cX6_tellChild 3 none 0 0 sp_X6_tellChild := by
  refine q_meth (by decide) (fun av w Q h => by obtain ⟨rln, rfa, rpl, rst, rnx, rtk, rnm, rnp, rnd, rbf1, rbf2, rbf3, rbf4, rbf5, rbf6, rbf7, rbu0, rbu1, rbu2, rbu3, rbu4, a, b, rfl, rfl, hQ⟩ := h; exact Nat.le_of_ble_eq_true rfl) ?_
  intro p e R s m args below meth c dC dI k g A av w Q hsp oka okw X
  obtain ⟨rln, rfa, rpl, rst, rnx, rtk, rnm, rnp, rnd, rbf1, rbf2, rbf3, rbf4, rbf5, rbf6, rbf7, rbu0, rbu1, rbu2, rbu3, rbu4, a, b, rfl, rfl, hQ⟩ := hsp
  have o_a : -2147483648 ≤ a ∧ a ≤ 2147483647 := oka _ (List.mem_of_getElem? (i := 1) rfl)
  have o_b : -2147483648 ≤ b ∧ b ≤ 2147483647 := oka _ (List.mem_of_getElem? (i := 2) rfl)
  refine s_mono (s_X6_tellChild_0 X (J := fun _ _ _ _ => False) (fun d => s_cutF)) ?_
  rintro lv st w' ⟨rfl, rfl, rfl⟩
  apply And.intro
  · intro h1
    exact hQ _ _
  · intro h1
    apply And.intro
    · intro h7
      exact hQ _ _
    · intro h7
      apply And.intro
      · exact ⟨by omega, by omega⟩
      intro z27 h27
      first | replace h27 := e_shl h27 (by omega) | replace h27 := e_rng h27
      intro z30 h30
      first | replace h30 := e_shl h30 (by omega) | replace h30 := e_rng h30
      intro z31 h31
      first | replace h31 := e_or8 h31 (by omega) (by omega) | replace h31 := e_or9 h31 (by omega) (by omega) | replace h31 := e_rng h31
      intro z32 h32
      first | replace h32 := e_or8 h32 (by omega) (by omega) | replace h32 := e_or9 h32 (by omega) (by omega) | replace h32 := e_rng h32
      apply And.intro
      · exact trivial
      exact hQ _ _

theorem dX6_tellPass_0 : decode cX6_tellPass 0 = .ok (.iload_n 2, 1) := by decide +kernel
theorem dX6_tellPass_1 : decode cX6_tellPass 1 = .ok (.ifCond .lt 48, 3) := by decide +kernel
theorem dX6_tellPass_4 : decode cX6_tellPass 4 = .ok (.iload_n 2, 1) := by decide +kernel
theorem dX6_tellPass_5 : decode cX6_tellPass 5 = .ok (.bipush 6, 2) := by decide +kernel
theorem dX6_tellPass_7 : decode cX6_tellPass 7 = .ok (.if_icmp .ge 42, 3) := by decide +kernel
theorem dX6_tellPass_10 : decode cX6_tellPass 10 = .ok (.aload_n 0, 1) := by decide +kernel
theorem dX6_tellPass_11 : decode cX6_tellPass 11 = .ok (.getfield 12, 3) := by decide +kernel
theorem dX6_tellPass_14 : decode cX6_tellPass 14 = .ok (.getfield 276, 3) := by decide +kernel
theorem dX6_tellPass_17 : decode cX6_tellPass 17 = .ok (.iload_n 2, 1) := by decide +kernel
theorem dX6_tellPass_18 : decode cX6_tellPass 18 = .ok (.dup2, 1) := by decide +kernel
theorem dX6_tellPass_19 : decode cX6_tellPass 19 = .ok (.iaload, 1) := by decide +kernel
theorem dX6_tellPass_20 : decode cX6_tellPass 20 = .ok (.iconst 1, 1) := by decide +kernel
theorem dX6_tellPass_21 : decode cX6_tellPass 21 = .ok (.iload_n 1, 1) := by decide +kernel
theorem dX6_tellPass_22 : decode cX6_tellPass 22 = .ok (.ishl, 1) := by decide +kernel
theorem dX6_tellPass_23 : decode cX6_tellPass 23 = .ok (.ior, 1) := by decide +kernel
theorem dX6_tellPass_24 : decode cX6_tellPass 24 = .ok (.iastore, 1) := by decide +kernel
theorem dX6_tellPass_25 : decode cX6_tellPass 25 = .ok (.aload_n 0, 1) := by decide +kernel
theorem dX6_tellPass_26 : decode cX6_tellPass 26 = .ok (.dup, 1) := by decide +kernel
theorem dX6_tellPass_27 : decode cX6_tellPass 27 = .ok (.getfield 97, 3) := by decide +kernel
theorem dX6_tellPass_30 : decode cX6_tellPass 30 = .ok (.iconst 1, 1) := by decide +kernel
theorem dX6_tellPass_31 : decode cX6_tellPass 31 = .ok (.iload_n 1, 1) := by decide +kernel
theorem dX6_tellPass_32 : decode cX6_tellPass 32 = .ok (.ishl, 1) := by decide +kernel
theorem dX6_tellPass_33 : decode cX6_tellPass 33 = .ok (.ior, 1) := by decide +kernel
theorem dX6_tellPass_34 : decode cX6_tellPass 34 = .ok (.putfield 97, 3) := by decide +kernel
theorem dX6_tellPass_37 : decode cX6_tellPass 37 = .ok (.aload_n 0, 1) := by decide +kernel
theorem dX6_tellPass_38 : decode cX6_tellPass 38 = .ok (.dup, 1) := by decide +kernel
theorem dX6_tellPass_39 : decode cX6_tellPass 39 = .ok (.getfield 100, 3) := by decide +kernel
theorem dX6_tellPass_42 : decode cX6_tellPass 42 = .ok (.iconst 1, 1) := by decide +kernel
theorem dX6_tellPass_43 : decode cX6_tellPass 43 = .ok (.iload_n 2, 1) := by decide +kernel
theorem dX6_tellPass_44 : decode cX6_tellPass 44 = .ok (.ishl, 1) := by decide +kernel
theorem dX6_tellPass_45 : decode cX6_tellPass 45 = .ok (.ior, 1) := by decide +kernel
theorem dX6_tellPass_46 : decode cX6_tellPass 46 = .ok (.putfield 100, 3) := by decide +kernel
theorem dX6_tellPass_49 : decode cX6_tellPass 49 = .ok (.return_, 1) := by decide +kernel
def is_X6_tellPass : Nat → List Nat := fun d => []
set_option maxRecDepth 100000 in
def b_X6_tellPass_49 (J : Nat → List qV → List qV → qW → Prop) (Q : qR) : qK := x_vret Q
set_option maxRecDepth 100000 in
theorem s_X6_tellPass_49 {p : Program} {l : Launch} {e : Env} {R : Room} {s : State} {m : MethodId} {args : Array Value} {below : List Frame} {meth : Method} {c : Code} {nW : Nat} {dC : Nat → ClassId} {dI : Nat → Nat → Nat} {k : Nat → ClassId} {g : Nat → Nat} {A : Nat → Prop} {J : Nat → List qV → List qV → qW → Prop} {Q : qR} (X : q_X p R s m args meth c cX6_tellPass 3 nW 0 0 RX6 none dC dI k g A) (hJ : ∀ d : Nat, q_Sd p l e R s m args below meth c 3 nW dC dI k g A (MQ below (q_post (dC, dI) k g nW Q A) args s 0 0 A) d (x_cut (is_X6_tellPass d) (J d))) : q_Sd p l e R s m args below meth c 3 nW dC dI k g A (MQ below (q_post (dC, dI) k g nW Q A) args s 0 0 A) 49 (b_X6_tellPass_49 J Q) := by
  unfold b_X6_tellPass_49
  exact s_vret X dX6_tellPass_49
set_option maxRecDepth 100000 in
def b_X6_tellPass_37 (J : Nat → List qV → List qV → qW → Prop) (Q : qR) : qK := x_aload 0 (x_dup (x_get 6 14 (x_int 1 (x_iload 2 (x_ishl (x_ior (x_put 6 14 q_oki (x_nw (b_X6_tellPass_49 J Q)))))))))
set_option maxRecDepth 100000 in
theorem s_X6_tellPass_37 {p : Program} {l : Launch} {e : Env} {R : Room} {s : State} {m : MethodId} {args : Array Value} {below : List Frame} {meth : Method} {c : Code} {nW : Nat} {dC : Nat → ClassId} {dI : Nat → Nat → Nat} {k : Nat → ClassId} {g : Nat → Nat} {A : Nat → Prop} {J : Nat → List qV → List qV → qW → Prop} {Q : qR} (X : q_X p R s m args meth c cX6_tellPass 3 nW 0 0 RX6 none dC dI k g A) (hJ : ∀ d : Nat, q_Sd p l e R s m args below meth c 3 nW dC dI k g A (MQ below (q_post (dC, dI) k g nW Q A) args s 0 0 A) d (x_cut (is_X6_tellPass d) (J d))) : q_Sd p l e R s m args below meth c 3 nW dC dI k g A (MQ below (q_post (dC, dI) k g nW Q A) args s 0 0 A) 37 (b_X6_tellPass_37 J Q) := by
  unfold b_X6_tellPass_37
  refine s_aload_n X rfl dX6_tellPass_37 ?_
  refine s_dup X dX6_tellPass_38 ?_
  refine s_get X (T := TX6) (C := RX6) (N := 15) tu_X6 rfl (by decide) tw_287 dX6_tellPass_39 ?_
  refine s_iconst X ⟨by decide, by decide⟩ dX6_tellPass_42 ?_
  refine s_iload_n X rfl dX6_tellPass_43 ?_
  refine s_ishl X dX6_tellPass_44 ?_
  refine s_ior X dX6_tellPass_45 ?_
  refine s_put X (T := TX6) (C := RX6) (N := 15) tu_X6 tyX6_ok nmX6 rfl (by decide) tw_287 rfl (by decide +kernel) q_oki_t dX6_tellPass_46 ?_
  refine s_nw ?_
  exact s_X6_tellPass_49 X hJ
set_option maxRecDepth 100000 in
def b_X6_tellPass_0 (J : Nat → List qV → List qV → qW → Prop) (Q : qR) : qK := x_iload 2 (x_if_lt (b_X6_tellPass_49 J Q) (x_iload 2 (x_int 6 (x_icmp_ge (b_X6_tellPass_49 J Q) (x_aload 0 (x_get 6 0 (x_get 0 5 (x_iload 2 (x_dup2 (x_iald (x_int 1 (x_iload 1 (x_ishl (x_ior (x_iast (x_nw (x_aload 0 (x_dup (x_get 6 13 (x_int 1 (x_iload 1 (x_ishl (x_ior (x_put 6 13 q_oki (x_nw (b_X6_tellPass_37 J Q))))))))))))))))))))))))))
set_option maxRecDepth 100000 in
theorem s_X6_tellPass_0 {p : Program} {l : Launch} {e : Env} {R : Room} {s : State} {m : MethodId} {args : Array Value} {below : List Frame} {meth : Method} {c : Code} {nW : Nat} {dC : Nat → ClassId} {dI : Nat → Nat → Nat} {k : Nat → ClassId} {g : Nat → Nat} {A : Nat → Prop} {J : Nat → List qV → List qV → qW → Prop} {Q : qR} (X : q_X p R s m args meth c cX6_tellPass 3 nW 0 0 RX6 none dC dI k g A) (hJ : ∀ d : Nat, q_Sd p l e R s m args below meth c 3 nW dC dI k g A (MQ below (q_post (dC, dI) k g nW Q A) args s 0 0 A) d (x_cut (is_X6_tellPass d) (J d))) : q_Sd p l e R s m args below meth c 3 nW dC dI k g A (MQ below (q_post (dC, dI) k g nW Q A) args s 0 0 A) 0 (b_X6_tellPass_0 J Q) := by
  unfold b_X6_tellPass_0
  refine s_iload_n X rfl dX6_tellPass_0 ?_
  refine s_if_lt X (tgt := 49) dX6_tellPass_1 (by decide) ?_ ?_
  · exact s_X6_tellPass_49 X hJ
  · refine s_iload_n X rfl dX6_tellPass_4 ?_
    refine s_bipush X ⟨by decide, by decide⟩ (by decide) dX6_tellPass_5 ?_
    refine s_icmp_ge X (tgt := 49) dX6_tellPass_7 (by decide) ?_ ?_
    · exact s_X6_tellPass_49 X hJ
    · refine s_aload_n X rfl dX6_tellPass_10 ?_
      refine s_get X (T := TX6) (C := RX6) (N := 15) tu_X6 rfl (by decide) tw_267 dX6_tellPass_11 ?_
      refine s_get X (T := TX0) (C := RX0) (N := 12) tu_X0 rfl (by decide) tw_186 dX6_tellPass_14 ?_
      refine s_iload_n X rfl dX6_tellPass_17 ?_
      refine s_dup2 X dX6_tellPass_18 ?_
      refine s_iald X dX6_tellPass_19 ?_
      refine s_iconst X ⟨by decide, by decide⟩ dX6_tellPass_20 ?_
      refine s_iload_n X rfl dX6_tellPass_21 ?_
      refine s_ishl X dX6_tellPass_22 ?_
      refine s_ior X dX6_tellPass_23 ?_
      refine s_iast X dX6_tellPass_24 ?_
      refine s_nw ?_
      refine s_aload_n X rfl dX6_tellPass_25 ?_
      refine s_dup X dX6_tellPass_26 ?_
      refine s_get X (T := TX6) (C := RX6) (N := 15) tu_X6 rfl (by decide) tw_286 dX6_tellPass_27 ?_
      refine s_iconst X ⟨by decide, by decide⟩ dX6_tellPass_30 ?_
      refine s_iload_n X rfl dX6_tellPass_31 ?_
      refine s_ishl X dX6_tellPass_32 ?_
      refine s_ior X dX6_tellPass_33 ?_
      refine s_put X (T := TX6) (C := RX6) (N := 15) tu_X6 tyX6_ok nmX6 rfl (by decide) tw_286 rfl (by decide +kernel) q_oki_t dX6_tellPass_34 ?_
      refine s_nw ?_
      exact s_X6_tellPass_37 X hJ

def sp_X6_tellPass : qS := fun av w Q => ∃ (rln : Int) (rfa : Int) (rpl : Int) (rst : Int) (rnx : Int) (rtk : Int) (rnm : Int) (rnp : Int) (rnd : Int) (rbf1 : Nat → Int) (rbf2 : Nat → Int) (rbf3 : Nat → Int) (rbf4 : Nat → Int) (rbf5 : Nat → Int) (rbf6 : Nat → Int) (rbf7 : Nat → Int) (rbu0 : Int) (rbu1 : Int) (rbu2 : Int) (rbu3 : Int) (rbu4 : Int) (a : Int) (b : Int), av = [q2 0, q1 a, q1 b] ∧ w = [.inr (6, [q2 1, q2 9, q2 10, q2 11, q2 12, q2 13, q1 rln, q1 rfa, q1 rpl, q1 rst, q1 rnx, q1 rtk, q1 rnm, q1 rnp, q1 rnd]), .inr (0, [q2 2, q2 3, q2 4, q2 5, q2 6, q2 7, q2 8, q1 rbu0, q1 rbu1, q1 rbu2, q1 rbu3, q1 rbu4]), .inl (0, 8, .inl rbf1), .inl (0, 8, .inl rbf2), .inl (0, 4, .inl rbf3), .inl (0, 32, .inl rbf4), .inl (0, 6, .inl rbf5), .inl (0, 6, .inl rbf6), .inl (0, 6, .inl rbf7)] ∧ (∀ (x_rbf6 : Nat → Int) (x_rnp : Int) (x_rnd : Int), Q none ([.inr (6, [q2 1, q2 9, q2 10, q2 11, q2 12, q2 13, q1 rln, q1 rfa, q1 rpl, q1 rst, q1 rnx, q1 rtk, q1 rnm, q1 x_rnp, q1 x_rnd]), .inr (0, [q2 2, q2 3, q2 4, q2 5, q2 6, q2 7, q2 8, q1 rbu0, q1 rbu1, q1 rbu2, q1 rbu3, q1 rbu4]), .inl (0, 8, .inl rbf1), .inl (0, 8, .inl rbf2), .inl (0, 4, .inl rbf3), .inl (0, 32, .inl rbf4), .inl (0, 6, .inl rbf5), .inl (0, 6, .inl x_rbf6), .inl (0, 6, .inl rbf7)]))
set_option maxHeartbeats 4000000 in
set_option maxRecDepth 100000 in
theorem m_X6_tellPass (l : Launch) : q_M l yX6_tellPass cX6_tellPass 3 none 0 0 sp_X6_tellPass := by
  refine q_meth (by decide) (fun av w Q h => by obtain ⟨rln, rfa, rpl, rst, rnx, rtk, rnm, rnp, rnd, rbf1, rbf2, rbf3, rbf4, rbf5, rbf6, rbf7, rbu0, rbu1, rbu2, rbu3, rbu4, a, b, rfl, rfl, hQ⟩ := h; exact Nat.le_of_ble_eq_true rfl) ?_
  intro p e R s m args below meth c dC dI k g A av w Q hsp oka okw X
  obtain ⟨rln, rfa, rpl, rst, rnx, rtk, rnm, rnp, rnd, rbf1, rbf2, rbf3, rbf4, rbf5, rbf6, rbf7, rbu0, rbu1, rbu2, rbu3, rbu4, a, b, rfl, rfl, hQ⟩ := hsp
  have o_a : -2147483648 ≤ a ∧ a ≤ 2147483647 := oka _ (List.mem_of_getElem? (i := 1) rfl)
  have o_b : -2147483648 ≤ b ∧ b ≤ 2147483647 := oka _ (List.mem_of_getElem? (i := 2) rfl)
  refine s_mono (s_X6_tellPass_0 X (J := fun _ _ _ _ => False) (fun d => s_cutF)) ?_
  rintro lv st w' ⟨rfl, rfl, rfl⟩
  apply And.intro
  · intro h1
    exact hQ _ _ _
  · intro h1
    apply And.intro
    · intro h7
      exact hQ _ _ _
    · intro h7
      apply And.intro
      · exact ⟨by omega, by omega⟩
      intro z19 h19
      intro z22 h22
      first | replace h22 := e_shl h22 (by omega) | replace h22 := e_rng h22
      intro z23 h23
      first | replace h23 := e_or8 h23 (by omega) (by omega) | replace h23 := e_or9 h23 (by omega) (by omega) | replace h23 := e_rng h23
      apply And.intro
      · exact ⟨by omega, by omega⟩
      intro z32 h32
      first | replace h32 := e_shl h32 (by omega) | replace h32 := e_rng h32
      intro z33 h33
      first | replace h33 := e_or8 h33 (by omega) (by omega) | replace h33 := e_or9 h33 (by omega) (by omega) | replace h33 := e_rng h33
      apply And.intro
      · exact trivial
      intro z44 h44
      first | replace h44 := e_shl h44 (by omega) | replace h44 := e_rng h44
      intro z45 h45
      first | replace h45 := e_or8 h45 (by omega) (by omega) | replace h45 := e_or9 h45 (by omega) (by omega) | replace h45 := e_rng h45
      apply And.intro
      · exact trivial
      exact hQ _ _ _

theorem dX6_tellFine_0 : decode cX6_tellFine 0 = .ok (.iload_n 1, 1) := by decide +kernel
theorem dX6_tellFine_1 : decode cX6_tellFine 1 = .ok (.ifCond .lt 18, 3) := by decide +kernel
theorem dX6_tellFine_4 : decode cX6_tellFine 4 = .ok (.iload_n 1, 1) := by decide +kernel
theorem dX6_tellFine_5 : decode cX6_tellFine 5 = .ok (.iconst 4, 1) := by decide +kernel
theorem dX6_tellFine_6 : decode cX6_tellFine 6 = .ok (.if_icmp .ge 13, 3) := by decide +kernel
theorem dX6_tellFine_9 : decode cX6_tellFine 9 = .ok (.aload_n 0, 1) := by decide +kernel
theorem dX6_tellFine_10 : decode cX6_tellFine 10 = .ok (.getfield 12, 3) := by decide +kernel
theorem dX6_tellFine_13 : decode cX6_tellFine 13 = .ok (.getfield 278, 3) := by decide +kernel
theorem dX6_tellFine_16 : decode cX6_tellFine 16 = .ok (.iload_n 1, 1) := by decide +kernel
theorem dX6_tellFine_17 : decode cX6_tellFine 17 = .ok (.iload_n 2, 1) := by decide +kernel
theorem dX6_tellFine_18 : decode cX6_tellFine 18 = .ok (.iastore, 1) := by decide +kernel
theorem dX6_tellFine_19 : decode cX6_tellFine 19 = .ok (.return_, 1) := by decide +kernel
def is_X6_tellFine : Nat → List Nat := fun d => []
set_option maxRecDepth 100000 in
def b_X6_tellFine_19 (J : Nat → List qV → List qV → qW → Prop) (Q : qR) : qK := x_vret Q
set_option maxRecDepth 100000 in
theorem s_X6_tellFine_19 {p : Program} {l : Launch} {e : Env} {R : Room} {s : State} {m : MethodId} {args : Array Value} {below : List Frame} {meth : Method} {c : Code} {nW : Nat} {dC : Nat → ClassId} {dI : Nat → Nat → Nat} {k : Nat → ClassId} {g : Nat → Nat} {A : Nat → Prop} {J : Nat → List qV → List qV → qW → Prop} {Q : qR} (X : q_X p R s m args meth c cX6_tellFine 3 nW 0 0 RX6 none dC dI k g A) (hJ : ∀ d : Nat, q_Sd p l e R s m args below meth c 3 nW dC dI k g A (MQ below (q_post (dC, dI) k g nW Q A) args s 0 0 A) d (x_cut (is_X6_tellFine d) (J d))) : q_Sd p l e R s m args below meth c 3 nW dC dI k g A (MQ below (q_post (dC, dI) k g nW Q A) args s 0 0 A) 19 (b_X6_tellFine_19 J Q) := by
  unfold b_X6_tellFine_19
  exact s_vret X dX6_tellFine_19
set_option maxRecDepth 100000 in
def b_X6_tellFine_0 (J : Nat → List qV → List qV → qW → Prop) (Q : qR) : qK := x_iload 1 (x_if_lt (b_X6_tellFine_19 J Q) (x_iload 1 (x_int 4 (x_icmp_ge (b_X6_tellFine_19 J Q) (x_aload 0 (x_get 6 0 (x_get 0 2 (x_iload 1 (x_iload 2 (x_iast (x_nw (b_X6_tellFine_19 J Q))))))))))))
set_option maxRecDepth 100000 in
theorem s_X6_tellFine_0 {p : Program} {l : Launch} {e : Env} {R : Room} {s : State} {m : MethodId} {args : Array Value} {below : List Frame} {meth : Method} {c : Code} {nW : Nat} {dC : Nat → ClassId} {dI : Nat → Nat → Nat} {k : Nat → ClassId} {g : Nat → Nat} {A : Nat → Prop} {J : Nat → List qV → List qV → qW → Prop} {Q : qR} (X : q_X p R s m args meth c cX6_tellFine 3 nW 0 0 RX6 none dC dI k g A) (hJ : ∀ d : Nat, q_Sd p l e R s m args below meth c 3 nW dC dI k g A (MQ below (q_post (dC, dI) k g nW Q A) args s 0 0 A) d (x_cut (is_X6_tellFine d) (J d))) : q_Sd p l e R s m args below meth c 3 nW dC dI k g A (MQ below (q_post (dC, dI) k g nW Q A) args s 0 0 A) 0 (b_X6_tellFine_0 J Q) := by
  unfold b_X6_tellFine_0
  refine s_iload_n X rfl dX6_tellFine_0 ?_
  refine s_if_lt X (tgt := 19) dX6_tellFine_1 (by decide) ?_ ?_
  · exact s_X6_tellFine_19 X hJ
  · refine s_iload_n X rfl dX6_tellFine_4 ?_
    refine s_iconst X ⟨by decide, by decide⟩ dX6_tellFine_5 ?_
    refine s_icmp_ge X (tgt := 19) dX6_tellFine_6 (by decide) ?_ ?_
    · exact s_X6_tellFine_19 X hJ
    · refine s_aload_n X rfl dX6_tellFine_9 ?_
      refine s_get X (T := TX6) (C := RX6) (N := 15) tu_X6 rfl (by decide) tw_267 dX6_tellFine_10 ?_
      refine s_get X (T := TX0) (C := RX0) (N := 12) tu_X0 rfl (by decide) tw_178 dX6_tellFine_13 ?_
      refine s_iload_n X rfl dX6_tellFine_16 ?_
      refine s_iload_n X rfl dX6_tellFine_17 ?_
      refine s_iast X dX6_tellFine_18 ?_
      refine s_nw ?_
      exact s_X6_tellFine_19 X hJ

def sp_X6_tellFine : qS := fun av w Q => ∃ (rln : Int) (rfa : Int) (rpl : Int) (rst : Int) (rnx : Int) (rtk : Int) (rnm : Int) (rnp : Int) (rnd : Int) (rbf1 : Nat → Int) (rbf2 : Nat → Int) (rbf3 : Nat → Int) (rbf4 : Nat → Int) (rbf5 : Nat → Int) (rbf6 : Nat → Int) (rbf7 : Nat → Int) (rbu0 : Int) (rbu1 : Int) (rbu2 : Int) (rbu3 : Int) (rbu4 : Int) (a : Int) (b : Int), av = [q2 0, q1 a, q1 b] ∧ w = [.inr (6, [q2 1, q2 9, q2 10, q2 11, q2 12, q2 13, q1 rln, q1 rfa, q1 rpl, q1 rst, q1 rnx, q1 rtk, q1 rnm, q1 rnp, q1 rnd]), .inr (0, [q2 2, q2 3, q2 4, q2 5, q2 6, q2 7, q2 8, q1 rbu0, q1 rbu1, q1 rbu2, q1 rbu3, q1 rbu4]), .inl (0, 8, .inl rbf1), .inl (0, 8, .inl rbf2), .inl (0, 4, .inl rbf3), .inl (0, 32, .inl rbf4), .inl (0, 6, .inl rbf5), .inl (0, 6, .inl rbf6), .inl (0, 6, .inl rbf7)] ∧ (q_rg 0 9 rbf3) ∧ (0 ≤ b ∧ b ≤ 9) ∧ (∀ (x_rbf3 : Nat → Int), q_rg 0 9 x_rbf3 → Q none ([.inr (6, [q2 1, q2 9, q2 10, q2 11, q2 12, q2 13, q1 rln, q1 rfa, q1 rpl, q1 rst, q1 rnx, q1 rtk, q1 rnm, q1 rnp, q1 rnd]), .inr (0, [q2 2, q2 3, q2 4, q2 5, q2 6, q2 7, q2 8, q1 rbu0, q1 rbu1, q1 rbu2, q1 rbu3, q1 rbu4]), .inl (0, 8, .inl rbf1), .inl (0, 8, .inl rbf2), .inl (0, 4, .inl x_rbf3), .inl (0, 32, .inl rbf4), .inl (0, 6, .inl rbf5), .inl (0, 6, .inl rbf6), .inl (0, 6, .inl rbf7)]))
set_option maxHeartbeats 4000000 in
set_option maxRecDepth 100000 in
theorem m_X6_tellFine (l : Launch) : q_M l yX6_tellFine cX6_tellFine 3 none 0 0 sp_X6_tellFine := by
  refine q_meth (by decide) (fun av w Q h => by obtain ⟨rln, rfa, rpl, rst, rnx, rtk, rnm, rnp, rnd, rbf1, rbf2, rbf3, rbf4, rbf5, rbf6, rbf7, rbu0, rbu1, rbu2, rbu3, rbu4, a, b, rfl, rfl, hf3, hb9, hQ⟩ := h; exact Nat.le_of_ble_eq_true rfl) ?_
  intro p e R s m args below meth c dC dI k g A av w Q hsp oka okw X
  obtain ⟨rln, rfa, rpl, rst, rnx, rtk, rnm, rnp, rnd, rbf1, rbf2, rbf3, rbf4, rbf5, rbf6, rbf7, rbu0, rbu1, rbu2, rbu3, rbu4, a, b, rfl, rfl, hf3, hb9, hQ⟩ := hsp
  have o_a : -2147483648 ≤ a ∧ a ≤ 2147483647 := oka _ (List.mem_of_getElem? (i := 1) rfl)
  have o_b : -2147483648 ≤ b ∧ b ≤ 2147483647 := oka _ (List.mem_of_getElem? (i := 2) rfl)
  refine s_mono (s_X6_tellFine_0 X (J := fun _ _ _ _ => False) (fun d => s_cutF)) ?_
  rintro lv st w' ⟨rfl, rfl, rfl⟩
  apply And.intro
  · intro h1
    exact hQ _ (by first | omega | assumption | exact q_rg_up (by assumption) (by omega) | exact q_rg_up (q_rg_up (by assumption) (by omega)) (by omega) | exact q_rg_cpy (by assumption) (by assumption))
  · intro h1
    apply And.intro
    · intro h6
      exact hQ _ (by first | omega | assumption | exact q_rg_up (by assumption) (by omega) | exact q_rg_up (q_rg_up (by assumption) (by omega)) (by omega) | exact q_rg_cpy (by assumption) (by assumption))
    · intro h6
      apply And.intro
      · exact ⟨by omega, by omega⟩
      exact hQ _ (by first | omega | assumption | exact q_rg_up (by assumption) (by omega) | exact q_rg_up (q_rg_up (by assumption) (by omega)) (by omega) | exact q_rg_cpy (by assumption) (by assumption))

theorem dX6_tellWish_0 : decode cX6_tellWish 0 = .ok (.iconst 4, 1) := by decide +kernel
theorem dX6_tellWish_1 : decode cX6_tellWish 1 = .ok (.iload_n 1, 1) := by decide +kernel
theorem dX6_tellWish_2 : decode cX6_tellWish 2 = .ok (.imul, 1) := by decide +kernel
theorem dX6_tellWish_3 : decode cX6_tellWish 3 = .ok (.iload_n 2, 1) := by decide +kernel
theorem dX6_tellWish_4 : decode cX6_tellWish 4 = .ok (.iadd, 1) := by decide +kernel
theorem dX6_tellWish_5 : decode cX6_tellWish 5 = .ok (.istore 4, 2) := by decide +kernel
theorem dX6_tellWish_7 : decode cX6_tellWish 7 = .ok (.iload 4, 2) := by decide +kernel
theorem dX6_tellWish_9 : decode cX6_tellWish 9 = .ok (.ifCond .lt 39, 3) := by decide +kernel
theorem dX6_tellWish_12 : decode cX6_tellWish 12 = .ok (.iload 4, 2) := by decide +kernel
theorem dX6_tellWish_14 : decode cX6_tellWish 14 = .ok (.aload_n 0, 1) := by decide +kernel
theorem dX6_tellWish_15 : decode cX6_tellWish 15 = .ok (.getfield 12, 3) := by decide +kernel
theorem dX6_tellWish_18 : decode cX6_tellWish 18 = .ok (.getfield 280, 3) := by decide +kernel
theorem dX6_tellWish_21 : decode cX6_tellWish 21 = .ok (.arraylength, 1) := by decide +kernel
theorem dX6_tellWish_22 : decode cX6_tellWish 22 = .ok (.if_icmp .ge 26, 3) := by decide +kernel
theorem dX6_tellWish_25 : decode cX6_tellWish 25 = .ok (.aload_n 0, 1) := by decide +kernel
theorem dX6_tellWish_26 : decode cX6_tellWish 26 = .ok (.getfield 12, 3) := by decide +kernel
theorem dX6_tellWish_29 : decode cX6_tellWish 29 = .ok (.getfield 280, 3) := by decide +kernel
theorem dX6_tellWish_32 : decode cX6_tellWish 32 = .ok (.iload 4, 2) := by decide +kernel
theorem dX6_tellWish_34 : decode cX6_tellWish 34 = .ok (.iload_n 3, 1) := by decide +kernel
theorem dX6_tellWish_35 : decode cX6_tellWish 35 = .ok (.iastore, 1) := by decide +kernel
theorem dX6_tellWish_36 : decode cX6_tellWish 36 = .ok (.aload_n 0, 1) := by decide +kernel
theorem dX6_tellWish_37 : decode cX6_tellWish 37 = .ok (.dup, 1) := by decide +kernel
theorem dX6_tellWish_38 : decode cX6_tellWish 38 = .ok (.getfield 97, 3) := by decide +kernel
theorem dX6_tellWish_41 : decode cX6_tellWish 41 = .ok (.iconst 1, 1) := by decide +kernel
theorem dX6_tellWish_42 : decode cX6_tellWish 42 = .ok (.iload_n 1, 1) := by decide +kernel
theorem dX6_tellWish_43 : decode cX6_tellWish 43 = .ok (.ishl, 1) := by decide +kernel
theorem dX6_tellWish_44 : decode cX6_tellWish 44 = .ok (.ior, 1) := by decide +kernel
theorem dX6_tellWish_45 : decode cX6_tellWish 45 = .ok (.putfield 97, 3) := by decide +kernel
theorem dX6_tellWish_48 : decode cX6_tellWish 48 = .ok (.return_, 1) := by decide +kernel
def is_X6_tellWish : Nat → List Nat := fun d => []
set_option maxRecDepth 100000 in
def b_X6_tellWish_48 (J : Nat → List qV → List qV → qW → Prop) (Q : qR) : qK := x_vret Q
set_option maxRecDepth 100000 in
theorem s_X6_tellWish_48 {p : Program} {l : Launch} {e : Env} {R : Room} {s : State} {m : MethodId} {args : Array Value} {below : List Frame} {meth : Method} {c : Code} {nW : Nat} {dC : Nat → ClassId} {dI : Nat → Nat → Nat} {k : Nat → ClassId} {g : Nat → Nat} {A : Nat → Prop} {J : Nat → List qV → List qV → qW → Prop} {Q : qR} (X : q_X p R s m args meth c cX6_tellWish 5 nW 0 0 RX6 none dC dI k g A) (hJ : ∀ d : Nat, q_Sd p l e R s m args below meth c 5 nW dC dI k g A (MQ below (q_post (dC, dI) k g nW Q A) args s 0 0 A) d (x_cut (is_X6_tellWish d) (J d))) : q_Sd p l e R s m args below meth c 5 nW dC dI k g A (MQ below (q_post (dC, dI) k g nW Q A) args s 0 0 A) 48 (b_X6_tellWish_48 J Q) := by
  unfold b_X6_tellWish_48
  exact s_vret X dX6_tellWish_48
set_option maxRecDepth 100000 in
def b_X6_tellWish_42 (J : Nat → List qV → List qV → qW → Prop) (Q : qR) : qK := x_iload 1 (x_ishl (x_ior (x_put 6 13 q_oki (x_nw (b_X6_tellWish_48 J Q)))))
set_option maxRecDepth 100000 in
theorem s_X6_tellWish_42 {p : Program} {l : Launch} {e : Env} {R : Room} {s : State} {m : MethodId} {args : Array Value} {below : List Frame} {meth : Method} {c : Code} {nW : Nat} {dC : Nat → ClassId} {dI : Nat → Nat → Nat} {k : Nat → ClassId} {g : Nat → Nat} {A : Nat → Prop} {J : Nat → List qV → List qV → qW → Prop} {Q : qR} (X : q_X p R s m args meth c cX6_tellWish 5 nW 0 0 RX6 none dC dI k g A) (hJ : ∀ d : Nat, q_Sd p l e R s m args below meth c 5 nW dC dI k g A (MQ below (q_post (dC, dI) k g nW Q A) args s 0 0 A) d (x_cut (is_X6_tellWish d) (J d))) : q_Sd p l e R s m args below meth c 5 nW dC dI k g A (MQ below (q_post (dC, dI) k g nW Q A) args s 0 0 A) 42 (b_X6_tellWish_42 J Q) := by
  unfold b_X6_tellWish_42
  refine s_iload_n X rfl dX6_tellWish_42 ?_
  refine s_ishl X dX6_tellWish_43 ?_
  refine s_ior X dX6_tellWish_44 ?_
  refine s_put X (T := TX6) (C := RX6) (N := 15) tu_X6 tyX6_ok nmX6 rfl (by decide) tw_286 rfl (by decide +kernel) q_oki_t dX6_tellWish_45 ?_
  refine s_nw ?_
  exact s_X6_tellWish_48 X hJ
set_option maxRecDepth 100000 in
def b_X6_tellWish_0 (J : Nat → List qV → List qV → qW → Prop) (Q : qR) : qK := x_int 4 (x_iload 1 (x_imul (x_iload 2 (x_iadd (x_istore 4 (x_iload 4 (x_if_lt (b_X6_tellWish_48 J Q) (x_iload 4 (x_aload 0 (x_get 6 0 (x_get 0 3 (x_alen (x_icmp_ge (b_X6_tellWish_48 J Q) (x_aload 0 (x_get 6 0 (x_get 0 3 (x_iload 4 (x_iload 3 (x_iast (x_nw (x_aload 0 (x_dup (x_get 6 13 (x_int 1 (b_X6_tellWish_42 J Q)))))))))))))))))))))))))
set_option maxRecDepth 100000 in
theorem s_X6_tellWish_0 {p : Program} {l : Launch} {e : Env} {R : Room} {s : State} {m : MethodId} {args : Array Value} {below : List Frame} {meth : Method} {c : Code} {nW : Nat} {dC : Nat → ClassId} {dI : Nat → Nat → Nat} {k : Nat → ClassId} {g : Nat → Nat} {A : Nat → Prop} {J : Nat → List qV → List qV → qW → Prop} {Q : qR} (X : q_X p R s m args meth c cX6_tellWish 5 nW 0 0 RX6 none dC dI k g A) (hJ : ∀ d : Nat, q_Sd p l e R s m args below meth c 5 nW dC dI k g A (MQ below (q_post (dC, dI) k g nW Q A) args s 0 0 A) d (x_cut (is_X6_tellWish d) (J d))) : q_Sd p l e R s m args below meth c 5 nW dC dI k g A (MQ below (q_post (dC, dI) k g nW Q A) args s 0 0 A) 0 (b_X6_tellWish_0 J Q) := by
  unfold b_X6_tellWish_0
  refine s_iconst X ⟨by decide, by decide⟩ dX6_tellWish_0 ?_
  refine s_iload_n X rfl dX6_tellWish_1 ?_
  refine s_imul X dX6_tellWish_2 ?_
  refine s_iload_n X rfl dX6_tellWish_3 ?_
  refine s_iadd X dX6_tellWish_4 ?_
  refine s_istore X (by decide) dX6_tellWish_5 ?_
  refine s_iload X dX6_tellWish_7 ?_
  refine s_if_lt X (tgt := 48) dX6_tellWish_9 (by decide) ?_ ?_
  · exact s_X6_tellWish_48 X hJ
  · refine s_iload X dX6_tellWish_12 ?_
    refine s_aload_n X rfl dX6_tellWish_14 ?_
    refine s_get X (T := TX6) (C := RX6) (N := 15) tu_X6 rfl (by decide) tw_267 dX6_tellWish_15 ?_
    refine s_get X (T := TX0) (C := RX0) (N := 12) tu_X0 rfl (by decide) tw_180 dX6_tellWish_18 ?_
    refine s_alen X dX6_tellWish_21 ?_
    refine s_icmp_ge X (tgt := 48) dX6_tellWish_22 (by decide) ?_ ?_
    · exact s_X6_tellWish_48 X hJ
    · refine s_aload_n X rfl dX6_tellWish_25 ?_
      refine s_get X (T := TX6) (C := RX6) (N := 15) tu_X6 rfl (by decide) tw_267 dX6_tellWish_26 ?_
      refine s_get X (T := TX0) (C := RX0) (N := 12) tu_X0 rfl (by decide) tw_180 dX6_tellWish_29 ?_
      refine s_iload X dX6_tellWish_32 ?_
      refine s_iload_n X rfl dX6_tellWish_34 ?_
      refine s_iast X dX6_tellWish_35 ?_
      refine s_nw ?_
      refine s_aload_n X rfl dX6_tellWish_36 ?_
      refine s_dup X dX6_tellWish_37 ?_
      refine s_get X (T := TX6) (C := RX6) (N := 15) tu_X6 rfl (by decide) tw_286 dX6_tellWish_38 ?_
      refine s_iconst X ⟨by decide, by decide⟩ dX6_tellWish_41 ?_
      exact s_X6_tellWish_42 X hJ

def sp_X6_tellWish : qS := fun av w Q => ∃ (rln : Int) (rfa : Int) (rpl : Int) (rst : Int) (rnx : Int) (rtk : Int) (rnm : Int) (rnp : Int) (rnd : Int) (rbf1 : Nat → Int) (rbf2 : Nat → Int) (rbf3 : Nat → Int) (rbf4 : Nat → Int) (rbf5 : Nat → Int) (rbf6 : Nat → Int) (rbf7 : Nat → Int) (rbu0 : Int) (rbu1 : Int) (rbu2 : Int) (rbu3 : Int) (rbu4 : Int) (a : Int) (b : Int) (cc : Int), av = [q2 0, q1 a, q1 b, q1 cc] ∧ w = [.inr (6, [q2 1, q2 9, q2 10, q2 11, q2 12, q2 13, q1 rln, q1 rfa, q1 rpl, q1 rst, q1 rnx, q1 rtk, q1 rnm, q1 rnp, q1 rnd]), .inr (0, [q2 2, q2 3, q2 4, q2 5, q2 6, q2 7, q2 8, q1 rbu0, q1 rbu1, q1 rbu2, q1 rbu3, q1 rbu4]), .inl (0, 8, .inl rbf1), .inl (0, 8, .inl rbf2), .inl (0, 4, .inl rbf3), .inl (0, 32, .inl rbf4), .inl (0, 6, .inl rbf5), .inl (0, 6, .inl rbf6), .inl (0, 6, .inl rbf7)] ∧ (∀ (x_rbf4 : Nat → Int) (x_rnp : Int), Q none ([.inr (6, [q2 1, q2 9, q2 10, q2 11, q2 12, q2 13, q1 rln, q1 rfa, q1 rpl, q1 rst, q1 rnx, q1 rtk, q1 rnm, q1 x_rnp, q1 rnd]), .inr (0, [q2 2, q2 3, q2 4, q2 5, q2 6, q2 7, q2 8, q1 rbu0, q1 rbu1, q1 rbu2, q1 rbu3, q1 rbu4]), .inl (0, 8, .inl rbf1), .inl (0, 8, .inl rbf2), .inl (0, 4, .inl rbf3), .inl (0, 32, .inl x_rbf4), .inl (0, 6, .inl rbf5), .inl (0, 6, .inl rbf6), .inl (0, 6, .inl rbf7)]))
set_option maxHeartbeats 4000000 in
set_option maxRecDepth 100000 in
theorem m_X6_tellWish (l : Launch) : q_M l yX6_tellWish cX6_tellWish 5 none 0 0 sp_X6_tellWish := by
  refine q_meth (by decide) (fun av w Q h => by obtain ⟨rln, rfa, rpl, rst, rnx, rtk, rnm, rnp, rnd, rbf1, rbf2, rbf3, rbf4, rbf5, rbf6, rbf7, rbu0, rbu1, rbu2, rbu3, rbu4, a, b, cc, rfl, rfl, hQ⟩ := h; exact Nat.le_of_ble_eq_true rfl) ?_
  intro p e R s m args below meth c dC dI k g A av w Q hsp oka okw X
  obtain ⟨rln, rfa, rpl, rst, rnx, rtk, rnm, rnp, rnd, rbf1, rbf2, rbf3, rbf4, rbf5, rbf6, rbf7, rbu0, rbu1, rbu2, rbu3, rbu4, a, b, cc, rfl, rfl, hQ⟩ := hsp
  have o_a : -2147483648 ≤ a ∧ a ≤ 2147483647 := oka _ (List.mem_of_getElem? (i := 1) rfl)
  have o_b : -2147483648 ≤ b ∧ b ≤ 2147483647 := oka _ (List.mem_of_getElem? (i := 2) rfl)
  have o_cc : -2147483648 ≤ cc ∧ cc ≤ 2147483647 := oka _ (List.mem_of_getElem? (i := 3) rfl)
  refine s_mono (s_X6_tellWish_0 X (J := fun _ _ _ _ => False) (fun d => s_cutF)) ?_
  rintro lv st w' ⟨rfl, rfl, rfl⟩
  intro z2 h2
  first | replace h2 := e_mul h2 (by omega) | replace h2 := e_rng h2
  intro z4 h4
  first | replace h4 := e_add h4 (by omega) | replace h4 := e_rng h4
  apply And.intro
  · intro h9
    exact hQ _ _
  · intro h9
    apply And.intro
    · omega
    apply And.intro
    · intro h22
      exact hQ _ _
    · intro h22
      apply And.intro
      · exact ⟨by omega, by omega⟩
      intro z43 h43
      first | replace h43 := e_shl h43 (by omega) | replace h43 := e_rng h43
      intro z44 h44
      first | replace h44 := e_or8 h44 (by omega) (by omega) | replace h44 := e_or9 h44 (by omega) (by omega) | replace h44 := e_rng h44
      apply And.intro
      · exact trivial
      exact hQ _ _

theorem dX6_tellBorough_0 : decode cX6_tellBorough 0 = .ok (.iload_n 1, 1) := by decide +kernel
theorem dX6_tellBorough_1 : decode cX6_tellBorough 1 = .ok (.tableswitch 139 0 7 #[47, 55, 85, 96, 104, 112, 121, 130], 47) := by decide +kernel
theorem dX6_tellBorough_48 : decode cX6_tellBorough 48 = .ok (.aload_n 0, 1) := by decide +kernel
theorem dX6_tellBorough_49 : decode cX6_tellBorough 49 = .ok (.iload_n 2, 1) := by decide +kernel
theorem dX6_tellBorough_50 : decode cX6_tellBorough 50 = .ok (.invokevirtual 238, 3) := by decide +kernel
theorem dX6_tellBorough_53 : decode cX6_tellBorough 53 = .ok (.goto 95, 3) := by decide +kernel
theorem dX6_tellBorough_56 : decode cX6_tellBorough 56 = .ok (.aload_n 0, 1) := by decide +kernel
theorem dX6_tellBorough_57 : decode cX6_tellBorough 57 = .ok (.dup, 1) := by decide +kernel
theorem dX6_tellBorough_58 : decode cX6_tellBorough 58 = .ok (.getfield 97, 3) := by decide +kernel
theorem dX6_tellBorough_61 : decode cX6_tellBorough 61 = .ok (.iconst 1, 1) := by decide +kernel
theorem dX6_tellBorough_62 : decode cX6_tellBorough 62 = .ok (.iload_n 2, 1) := by decide +kernel
theorem dX6_tellBorough_63 : decode cX6_tellBorough 63 = .ok (.ishl, 1) := by decide +kernel
theorem dX6_tellBorough_64 : decode cX6_tellBorough 64 = .ok (.ior, 1) := by decide +kernel
theorem dX6_tellBorough_65 : decode cX6_tellBorough 65 = .ok (.putfield 97, 3) := by decide +kernel
theorem dX6_tellBorough_68 : decode cX6_tellBorough 68 = .ok (.aload_n 0, 1) := by decide +kernel
theorem dX6_tellBorough_69 : decode cX6_tellBorough 69 = .ok (.getfield 12, 3) := by decide +kernel
theorem dX6_tellBorough_72 : decode cX6_tellBorough 72 = .ok (.dup, 1) := by decide +kernel
theorem dX6_tellBorough_73 : decode cX6_tellBorough 73 = .ok (.getfield 241, 3) := by decide +kernel
theorem dX6_tellBorough_76 : decode cX6_tellBorough 76 = .ok (.iconst 1, 1) := by decide +kernel
theorem dX6_tellBorough_77 : decode cX6_tellBorough 77 = .ok (.iload_n 2, 1) := by decide +kernel
theorem dX6_tellBorough_78 : decode cX6_tellBorough 78 = .ok (.ishl, 1) := by decide +kernel
theorem dX6_tellBorough_79 : decode cX6_tellBorough 79 = .ok (.ior, 1) := by decide +kernel
theorem dX6_tellBorough_80 : decode cX6_tellBorough 80 = .ok (.putfield 241, 3) := by decide +kernel
theorem dX6_tellBorough_83 : decode cX6_tellBorough 83 = .ok (.goto 65, 3) := by decide +kernel
theorem dX6_tellBorough_86 : decode cX6_tellBorough 86 = .ok (.aload_n 0, 1) := by decide +kernel
theorem dX6_tellBorough_87 : decode cX6_tellBorough 87 = .ok (.getfield 12, 3) := by decide +kernel
theorem dX6_tellBorough_90 : decode cX6_tellBorough 90 = .ok (.iload_n 2, 1) := by decide +kernel
theorem dX6_tellBorough_91 : decode cX6_tellBorough 91 = .ok (.putfield 243, 3) := by decide +kernel
theorem dX6_tellBorough_94 : decode cX6_tellBorough 94 = .ok (.goto 54, 3) := by decide +kernel
theorem dX6_tellBorough_97 : decode cX6_tellBorough 97 = .ok (.aload_n 0, 1) := by decide +kernel
theorem dX6_tellBorough_98 : decode cX6_tellBorough 98 = .ok (.iload_n 2, 1) := by decide +kernel
theorem dX6_tellBorough_99 : decode cX6_tellBorough 99 = .ok (.invokevirtual 245, 3) := by decide +kernel
theorem dX6_tellBorough_102 : decode cX6_tellBorough 102 = .ok (.goto 46, 3) := by decide +kernel
theorem dX6_tellBorough_105 : decode cX6_tellBorough 105 = .ok (.aload_n 0, 1) := by decide +kernel
theorem dX6_tellBorough_106 : decode cX6_tellBorough 106 = .ok (.iload_n 2, 1) := by decide +kernel
theorem dX6_tellBorough_107 : decode cX6_tellBorough 107 = .ok (.invokevirtual 248, 3) := by decide +kernel
theorem dX6_tellBorough_110 : decode cX6_tellBorough 110 = .ok (.goto 38, 3) := by decide +kernel
theorem dX6_tellBorough_113 : decode cX6_tellBorough 113 = .ok (.aload_n 0, 1) := by decide +kernel
theorem dX6_tellBorough_114 : decode cX6_tellBorough 114 = .ok (.iload_n 2, 1) := by decide +kernel
theorem dX6_tellBorough_115 : decode cX6_tellBorough 115 = .ok (.iload_n 3, 1) := by decide +kernel
theorem dX6_tellBorough_116 : decode cX6_tellBorough 116 = .ok (.invokevirtual 251, 3) := by decide +kernel
theorem dX6_tellBorough_119 : decode cX6_tellBorough 119 = .ok (.goto 29, 3) := by decide +kernel
theorem dX6_tellBorough_122 : decode cX6_tellBorough 122 = .ok (.aload_n 0, 1) := by decide +kernel
theorem dX6_tellBorough_123 : decode cX6_tellBorough 123 = .ok (.iload_n 2, 1) := by decide +kernel
theorem dX6_tellBorough_124 : decode cX6_tellBorough 124 = .ok (.iload_n 3, 1) := by decide +kernel
theorem dX6_tellBorough_125 : decode cX6_tellBorough 125 = .ok (.invokevirtual 254, 3) := by decide +kernel
theorem dX6_tellBorough_128 : decode cX6_tellBorough 128 = .ok (.goto 20, 3) := by decide +kernel
theorem dX6_tellBorough_131 : decode cX6_tellBorough 131 = .ok (.aload_n 0, 1) := by decide +kernel
theorem dX6_tellBorough_132 : decode cX6_tellBorough 132 = .ok (.iload_n 2, 1) := by decide +kernel
theorem dX6_tellBorough_133 : decode cX6_tellBorough 133 = .ok (.iload_n 3, 1) := by decide +kernel
theorem dX6_tellBorough_134 : decode cX6_tellBorough 134 = .ok (.invokevirtual 257, 3) := by decide +kernel
theorem dX6_tellBorough_137 : decode cX6_tellBorough 137 = .ok (.goto 11, 3) := by decide +kernel
theorem dX6_tellBorough_140 : decode cX6_tellBorough 140 = .ok (.aload_n 0, 1) := by decide +kernel
theorem dX6_tellBorough_141 : decode cX6_tellBorough 141 = .ok (.iload_n 2, 1) := by decide +kernel
theorem dX6_tellBorough_142 : decode cX6_tellBorough 142 = .ok (.iload_n 3, 1) := by decide +kernel
theorem dX6_tellBorough_143 : decode cX6_tellBorough 143 = .ok (.iload 4, 2) := by decide +kernel
theorem dX6_tellBorough_145 : decode cX6_tellBorough 145 = .ok (.invokevirtual 260, 3) := by decide +kernel
theorem dX6_tellBorough_148 : decode cX6_tellBorough 148 = .ok (.return_, 1) := by decide +kernel
def is_X6_tellBorough : Nat → List Nat := fun d => []
set_option maxRecDepth 100000 in
def b_X6_tellBorough_148 (J : Nat → List qV → List qV → qW → Prop) (Q : qR) : qK := x_vret Q
set_option maxRecDepth 100000 in
theorem s_X6_tellBorough_148 {p : Program} {l : Launch} {e : Env} {R : Room} {s : State} {m : MethodId} {args : Array Value} {below : List Frame} {meth : Method} {c : Code} {nW : Nat} {dC : Nat → ClassId} {dI : Nat → Nat → Nat} {k : Nat → ClassId} {g : Nat → Nat} {A : Nat → Prop} {J : Nat → List qV → List qV → qW → Prop} {Q : qR} (X : q_X p R s m args meth c cX6_tellBorough 5 nW 1 24 RX6 none dC dI k g A) (hJ : ∀ d : Nat, q_Sd p l e R s m args below meth c 5 nW dC dI k g A (MQ below (q_post (dC, dI) k g nW Q A) args s 0 0 A) d (x_cut (is_X6_tellBorough d) (J d))) : q_Sd p l e R s m args below meth c 5 nW dC dI k g A (MQ below (q_post (dC, dI) k g nW Q A) args s 0 0 A) 148 (b_X6_tellBorough_148 J Q) := by
  unfold b_X6_tellBorough_148
  exact s_vret X dX6_tellBorough_148
set_option maxRecDepth 100000 in
def b_X6_tellBorough_132 (J : Nat → List qV → List qV → qW → Prop) (Q : qR) : qK := x_iload 2 (x_iload 3 (x_call (some 6) 3 sp_X6_tellFine (x_nw (b_X6_tellBorough_148 J Q))))
set_option maxRecDepth 100000 in
theorem s_X6_tellBorough_132 {p : Program} {l : Launch} {e : Env} {R : Room} {s : State} {m : MethodId} {args : Array Value} {below : List Frame} {meth : Method} {c : Code} {nW : Nat} {dC : Nat → ClassId} {dI : Nat → Nat → Nat} {k : Nat → ClassId} {g : Nat → Nat} {A : Nat → Prop} {J : Nat → List qV → List qV → qW → Prop} {Q : qR} (X : q_X p R s m args meth c cX6_tellBorough 5 nW 1 24 RX6 none dC dI k g A) (hJ : ∀ d : Nat, q_Sd p l e R s m args below meth c 5 nW dC dI k g A (MQ below (q_post (dC, dI) k g nW Q A) args s 0 0 A) d (x_cut (is_X6_tellBorough d) (J d))) : q_Sd p l e R s m args below meth c 5 nW dC dI k g A (MQ below (q_post (dC, dI) k g nW Q A) args s 0 0 A) 132 (b_X6_tellBorough_132 J Q) := by
  unfold b_X6_tellBorough_132
  refine s_iload_n X rfl dX6_tellBorough_132 ?_
  refine s_iload_n X rfl dX6_tellBorough_133 ?_
  refine s_callV X (m_X6_tellFine l) tw_490 tw_491 tw_1524 tw_128 tw_492 rfl (by decide +kernel) ⟨by decide, by decide⟩ dX6_tellBorough_134 ?_
  refine s_nw ?_
  refine s_goto X (tgt := 148) dX6_tellBorough_137 (by decide) ?_
  exact s_X6_tellBorough_148 X hJ
set_option maxRecDepth 100000 in
def b_X6_tellBorough_86 (J : Nat → List qV → List qV → qW → Prop) (Q : qR) : qK := x_aload 0 (x_get 6 0 (x_iload 2 (x_put 0 9 q_oki (x_nw (b_X6_tellBorough_148 J Q)))))
set_option maxRecDepth 100000 in
theorem s_X6_tellBorough_86 {p : Program} {l : Launch} {e : Env} {R : Room} {s : State} {m : MethodId} {args : Array Value} {below : List Frame} {meth : Method} {c : Code} {nW : Nat} {dC : Nat → ClassId} {dI : Nat → Nat → Nat} {k : Nat → ClassId} {g : Nat → Nat} {A : Nat → Prop} {J : Nat → List qV → List qV → qW → Prop} {Q : qR} (X : q_X p R s m args meth c cX6_tellBorough 5 nW 1 24 RX6 none dC dI k g A) (hJ : ∀ d : Nat, q_Sd p l e R s m args below meth c 5 nW dC dI k g A (MQ below (q_post (dC, dI) k g nW Q A) args s 0 0 A) d (x_cut (is_X6_tellBorough d) (J d))) : q_Sd p l e R s m args below meth c 5 nW dC dI k g A (MQ below (q_post (dC, dI) k g nW Q A) args s 0 0 A) 86 (b_X6_tellBorough_86 J Q) := by
  unfold b_X6_tellBorough_86
  refine s_aload_n X rfl dX6_tellBorough_86 ?_
  refine s_get X (T := TX6) (C := RX6) (N := 15) tu_X6 rfl (by decide) tw_267 dX6_tellBorough_87 ?_
  refine s_iload_n X rfl dX6_tellBorough_90 ?_
  refine s_put X (T := TX0) (C := RX0) (N := 12) tu_X0 tyX0_ok nmX0 rfl (by decide) tw_201 rfl (by decide +kernel) q_oki_t dX6_tellBorough_91 ?_
  refine s_nw ?_
  refine s_goto X (tgt := 148) dX6_tellBorough_94 (by decide) ?_
  exact s_X6_tellBorough_148 X hJ
set_option maxRecDepth 100000 in
def b_X6_tellBorough_0 (J : Nat → List qV → List qV → qW → Prop) (Q : qR) : qK := x_iload 1 (x_sw 0 7 [x_aload 0 (x_iload 2 (x_call (some 6) 2 sp_X6_tellPerson (x_nw (b_X6_tellBorough_148 J Q)))), x_aload 0 (x_dup (x_get 6 13 (x_int 1 (x_iload 2 (x_ishl (x_ior (x_put 6 13 q_oki (x_nw (x_aload 0 (x_get 6 0 (x_dup (x_get 0 8 (x_int 1 (x_iload 2 (x_ishl (x_ior (x_put 0 8 q_oki (x_nw (b_X6_tellBorough_148 J Q))))))))))))))))))), b_X6_tellBorough_86 J Q, x_aload 0 (x_iload 2 (x_call (some 6) 2 sp_X6_tellDoor (x_nw (b_X6_tellBorough_148 J Q)))), x_aload 0 (x_iload 2 (x_call (some 6) 2 sp_X6_tellWork (x_nw (b_X6_tellBorough_148 J Q)))), x_aload 0 (x_iload 2 (x_iload 3 (x_call (some 6) 3 sp_X6_tellChild (x_nw (b_X6_tellBorough_148 J Q))))), x_aload 0 (x_iload 2 (x_iload 3 (x_call (some 6) 3 sp_X6_tellPass (x_nw (b_X6_tellBorough_148 J Q))))), x_aload 0 (b_X6_tellBorough_132 J Q)] (x_aload 0 (x_iload 2 (x_iload 3 (x_iload 4 (x_call (some 6) 4 sp_X6_tellWish (x_nw (b_X6_tellBorough_148 J Q))))))))
set_option maxRecDepth 100000 in
theorem s_X6_tellBorough_0 {p : Program} {l : Launch} {e : Env} {R : Room} {s : State} {m : MethodId} {args : Array Value} {below : List Frame} {meth : Method} {c : Code} {nW : Nat} {dC : Nat → ClassId} {dI : Nat → Nat → Nat} {k : Nat → ClassId} {g : Nat → Nat} {A : Nat → Prop} {J : Nat → List qV → List qV → qW → Prop} {Q : qR} (X : q_X p R s m args meth c cX6_tellBorough 5 nW 1 24 RX6 none dC dI k g A) (hJ : ∀ d : Nat, q_Sd p l e R s m args below meth c 5 nW dC dI k g A (MQ below (q_post (dC, dI) k g nW Q A) args s 0 0 A) d (x_cut (is_X6_tellBorough d) (J d))) : q_Sd p l e R s m args below meth c 5 nW dC dI k g A (MQ below (q_post (dC, dI) k g nW Q A) args s 0 0 A) 0 (b_X6_tellBorough_0 J Q) := by
  unfold b_X6_tellBorough_0
  refine s_iload_n X rfl dX6_tellBorough_0 ?_
  refine s_sw X (ts := [48, 56, 86, 97, 105, 113, 122, 131]) (td := 140) dX6_tellBorough_1 (by decide) (by decide) (by decide) rfl ?_ ?_
  · intro i t K ht hK
    match i, ht, hK with
    | 0, ht, hK =>
      cases ht
      cases hK
      refine s_aload_n X rfl dX6_tellBorough_48 ?_
      refine s_iload_n X rfl dX6_tellBorough_49 ?_
      refine s_callV X (m_X6_tellPerson l) tw_475 tw_476 tw_1527 tw_128 tw_477 rfl (by decide +kernel) ⟨by decide, by decide⟩ dX6_tellBorough_50 ?_
      refine s_nw ?_
      refine s_goto X (tgt := 148) dX6_tellBorough_53 (by decide) ?_
      exact s_X6_tellBorough_148 X hJ
    | 1, ht, hK =>
      cases ht
      cases hK
      refine s_aload_n X rfl dX6_tellBorough_56 ?_
      refine s_dup X dX6_tellBorough_57 ?_
      refine s_get X (T := TX6) (C := RX6) (N := 15) tu_X6 rfl (by decide) tw_286 dX6_tellBorough_58 ?_
      refine s_iconst X ⟨by decide, by decide⟩ dX6_tellBorough_61 ?_
      refine s_iload_n X rfl dX6_tellBorough_62 ?_
      refine s_ishl X dX6_tellBorough_63 ?_
      refine s_ior X dX6_tellBorough_64 ?_
      refine s_put X (T := TX6) (C := RX6) (N := 15) tu_X6 tyX6_ok nmX6 rfl (by decide) tw_286 rfl (by decide +kernel) q_oki_t dX6_tellBorough_65 ?_
      refine s_nw ?_
      refine s_aload_n X rfl dX6_tellBorough_68 ?_
      refine s_get X (T := TX6) (C := RX6) (N := 15) tu_X6 rfl (by decide) tw_267 dX6_tellBorough_69 ?_
      refine s_dup X dX6_tellBorough_72 ?_
      refine s_get X (T := TX0) (C := RX0) (N := 12) tu_X0 rfl (by decide) tw_199 dX6_tellBorough_73 ?_
      refine s_iconst X ⟨by decide, by decide⟩ dX6_tellBorough_76 ?_
      refine s_iload_n X rfl dX6_tellBorough_77 ?_
      refine s_ishl X dX6_tellBorough_78 ?_
      refine s_ior X dX6_tellBorough_79 ?_
      refine s_put X (T := TX0) (C := RX0) (N := 12) tu_X0 tyX0_ok nmX0 rfl (by decide) tw_199 rfl (by decide +kernel) q_oki_t dX6_tellBorough_80 ?_
      refine s_nw ?_
      refine s_goto X (tgt := 148) dX6_tellBorough_83 (by decide) ?_
      exact s_X6_tellBorough_148 X hJ
    | 2, ht, hK =>
      cases ht
      cases hK
      exact s_X6_tellBorough_86 X hJ
    | 3, ht, hK =>
      cases ht
      cases hK
      refine s_aload_n X rfl dX6_tellBorough_97 ?_
      refine s_iload_n X rfl dX6_tellBorough_98 ?_
      refine s_callV X (m_X6_tellDoor l) tw_478 tw_479 tw_1523 tw_128 tw_480 rfl (by decide +kernel) ⟨by decide, by decide⟩ dX6_tellBorough_99 ?_
      refine s_nw ?_
      refine s_goto X (tgt := 148) dX6_tellBorough_102 (by decide) ?_
      exact s_X6_tellBorough_148 X hJ
    | 4, ht, hK =>
      cases ht
      cases hK
      refine s_aload_n X rfl dX6_tellBorough_105 ?_
      refine s_iload_n X rfl dX6_tellBorough_106 ?_
      refine s_callV X (m_X6_tellWork l) tw_481 tw_482 tw_1529 tw_128 tw_483 rfl (by decide +kernel) ⟨by decide, by decide⟩ dX6_tellBorough_107 ?_
      refine s_nw ?_
      refine s_goto X (tgt := 148) dX6_tellBorough_110 (by decide) ?_
      exact s_X6_tellBorough_148 X hJ
    | 5, ht, hK =>
      cases ht
      cases hK
      refine s_aload_n X rfl dX6_tellBorough_113 ?_
      refine s_iload_n X rfl dX6_tellBorough_114 ?_
      refine s_iload_n X rfl dX6_tellBorough_115 ?_
      refine s_callV X (m_X6_tellChild l) tw_484 tw_485 tw_1522 tw_128 tw_486 rfl (by decide +kernel) ⟨by decide, by decide⟩ dX6_tellBorough_116 ?_
      refine s_nw ?_
      refine s_goto X (tgt := 148) dX6_tellBorough_119 (by decide) ?_
      exact s_X6_tellBorough_148 X hJ
    | 6, ht, hK =>
      cases ht
      cases hK
      refine s_aload_n X rfl dX6_tellBorough_122 ?_
      refine s_iload_n X rfl dX6_tellBorough_123 ?_
      refine s_iload_n X rfl dX6_tellBorough_124 ?_
      refine s_callV X (m_X6_tellPass l) tw_487 tw_488 tw_1526 tw_128 tw_489 rfl (by decide +kernel) ⟨by decide, by decide⟩ dX6_tellBorough_125 ?_
      refine s_nw ?_
      refine s_goto X (tgt := 148) dX6_tellBorough_128 (by decide) ?_
      exact s_X6_tellBorough_148 X hJ
    | 7, ht, hK =>
      cases ht
      cases hK
      refine s_aload_n X rfl dX6_tellBorough_131 ?_
      exact s_X6_tellBorough_132 X hJ
    | i + 8, ht, hK => exact absurd ht (by simp)
  · refine s_aload_n X rfl dX6_tellBorough_140 ?_
    refine s_iload_n X rfl dX6_tellBorough_141 ?_
    refine s_iload_n X rfl dX6_tellBorough_142 ?_
    refine s_iload X dX6_tellBorough_143 ?_
    refine s_callV X (m_X6_tellWish l) tw_493 tw_494 tw_1528 tw_128 tw_495 rfl (by decide +kernel) ⟨by decide, by decide⟩ dX6_tellBorough_145 ?_
    refine s_nw ?_
    exact s_X6_tellBorough_148 X hJ

def sp_X6_tellBorough : qS := fun av w Q => ∃ (rln : Int) (rfa : Int) (rpl : Int) (rst : Int) (rnx : Int) (rtk : Int) (rnm : Int) (rnp : Int) (rnd : Int) (rbf1 : Nat → Int) (rbf2 : Nat → Int) (rbf3 : Nat → Int) (rbf4 : Nat → Int) (rbf5 : Nat → Int) (rbf6 : Nat → Int) (rbf7 : Nat → Int) (rbu0 : Int) (rbu1 : Int) (rbu2 : Int) (rbu3 : Int) (rbu4 : Int) (a : Int) (b : Int) (cc : Int) (dd : Int), av = [q2 0, q1 a, q1 b, q1 cc, q1 dd] ∧ w = [.inr (6, [q2 1, q2 9, q2 10, q2 11, q2 12, q2 13, q1 rln, q1 rfa, q1 rpl, q1 rst, q1 rnx, q1 rtk, q1 rnm, q1 rnp, q1 rnd]), .inr (0, [q2 2, q2 3, q2 4, q2 5, q2 6, q2 7, q2 8, q1 rbu0, q1 rbu1, q1 rbu2, q1 rbu3, q1 rbu4]), .inl (0, 8, .inl rbf1), .inl (0, 8, .inl rbf2), .inl (0, 4, .inl rbf3), .inl (0, 32, .inl rbf4), .inl (0, 6, .inl rbf5), .inl (0, 6, .inl rbf6), .inl (0, 6, .inl rbf7)] ∧ (0 ≤ rbu0 ∧ rbu0 ≤ 8 ∧ 0 ≤ rbu3 ∧ rbu3 ≤ 6 ∧ 0 ≤ rbu4 ∧ rbu4 ≤ 6) ∧ (q_rg 0 9 rbf3) ∧ (a = 7 → 0 ≤ cc ∧ cc ≤ 9) ∧ (∀ (x_rbf1 : Nat → Int) (x_rbf2 : Nat → Int) (x_rbf3 : Nat → Int) (x_rbf4 : Nat → Int) (x_rbf5 : Nat → Int) (x_rbf6 : Nat → Int) (x_rbf7 : Nat → Int) (x_rbu0 : Int) (x_rbu1 : Int) (x_rbu2 : Int) (x_rbu3 : Int) (x_rbu4 : Int) (x_rnp : Int) (x_rnd : Int), (0 ≤ x_rbu0 ∧ x_rbu0 ≤ 8 ∧ 0 ≤ x_rbu3 ∧ x_rbu3 ≤ 6 ∧ 0 ≤ x_rbu4 ∧ x_rbu4 ≤ 6 ∧ q_rg 0 9 x_rbf3) → Q none ([.inr (6, [q2 1, q2 9, q2 10, q2 11, q2 12, q2 13, q1 rln, q1 rfa, q1 rpl, q1 rst, q1 rnx, q1 rtk, q1 rnm, q1 x_rnp, q1 x_rnd]), .inr (0, [q2 2, q2 3, q2 4, q2 5, q2 6, q2 7, q2 8, q1 x_rbu0, q1 x_rbu1, q1 x_rbu2, q1 x_rbu3, q1 x_rbu4]), .inl (0, 8, .inl x_rbf1), .inl (0, 8, .inl x_rbf2), .inl (0, 4, .inl x_rbf3), .inl (0, 32, .inl x_rbf4), .inl (0, 6, .inl x_rbf5), .inl (0, 6, .inl x_rbf6), .inl (0, 6, .inl x_rbf7)]))
set_option maxHeartbeats 4000000 in
set_option maxRecDepth 100000 in
theorem m_X6_tellBorough (l : Launch) : q_M l yX6_tellBorough cX6_tellBorough 5 none 1 24 sp_X6_tellBorough := by
  refine q_meth (by decide) (fun av w Q h => by obtain ⟨rln, rfa, rpl, rst, rnx, rtk, rnm, rnp, rnd, rbf1, rbf2, rbf3, rbf4, rbf5, rbf6, rbf7, rbu0, rbu1, rbu2, rbu3, rbu4, a, b, cc, dd, rfl, rfl, hrb, hf3, hc9, hQ⟩ := h; exact Nat.le_of_ble_eq_true rfl) ?_
  intro p e R s m args below meth c dC dI k g A av w Q hsp oka okw X
  obtain ⟨rln, rfa, rpl, rst, rnx, rtk, rnm, rnp, rnd, rbf1, rbf2, rbf3, rbf4, rbf5, rbf6, rbf7, rbu0, rbu1, rbu2, rbu3, rbu4, a, b, cc, dd, rfl, rfl, hrb, hf3, hc9, hQ⟩ := hsp
  have o_a : -2147483648 ≤ a ∧ a ≤ 2147483647 := oka _ (List.mem_of_getElem? (i := 1) rfl)
  have o_b : -2147483648 ≤ b ∧ b ≤ 2147483647 := oka _ (List.mem_of_getElem? (i := 2) rfl)
  have o_cc : -2147483648 ≤ cc ∧ cc ≤ 2147483647 := oka _ (List.mem_of_getElem? (i := 3) rfl)
  have o_dd : -2147483648 ≤ dd ∧ dd ≤ 2147483647 := oka _ (List.mem_of_getElem? (i := 4) rfl)
  refine s_mono (s_X6_tellBorough_0 X (J := fun _ _ _ _ => False) (fun d => s_cutF)) ?_
  rintro lv st w' ⟨rfl, rfl, rfl⟩
  apply And.intro
  · apply And.intro
    · intro h1
      refine Exists.intro [0, 1, 2, 3, 4, 5, 6, 7, 8, 9, 10, 11, 12, 13] (Exists.intro [q2 0, q1 _] (Exists.intro ([.inr (6, [q2 1, q2 9, q2 10, q2 11, q2 12, q2 13, q1 _, q1 _, q1 _, q1 _, q1 _, q1 _, q1 _, q1 _, q1 _]), .inr (0, [q2 2, q2 3, q2 4, q2 5, q2 6, q2 7, q2 8, q1 _, q1 _, q1 _, q1 _, q1 _]), .inl (0, 8, .inl _), .inl (0, 8, .inl _), .inl (0, 4, .inl _), .inl (0, 32, .inl _), .inl (0, 6, .inl _), .inl (0, 6, .inl _), .inl (0, 6, .inl _)]) (And.intro rfl (And.intro rfl (And.intro rfl (And.intro ⟨⟨_, rfl⟩, rfl⟩ ?_))))))
      refine Exists.intro _ (Exists.intro _ (Exists.intro _ (Exists.intro _ (Exists.intro _ (Exists.intro _ (Exists.intro _ (Exists.intro _ (Exists.intro _ (Exists.intro _ (Exists.intro _ (Exists.intro _ (Exists.intro _ (Exists.intro _ (Exists.intro _ (Exists.intro _ (Exists.intro _ (Exists.intro _ (Exists.intro _ (Exists.intro _ (Exists.intro _ (Exists.intro _ (And.intro rfl (And.intro rfl (And.intro (by first | omega | assumption | exact q_rg_up (by assumption) (by omega) | exact q_rg_up (q_rg_up (by assumption) (by omega)) (by omega) | exact q_rg_cpy (by assumption) (by assumption)) (?_)))))))))))))))))))))))))
      intro x_rbf1_50 x_rbu0_50 h50
      exact hQ _ _ _ _ _ _ _ _ _ _ _ _ _ _ ⟨by omega, by omega, by omega, by omega, by omega, by omega, (by first | omega | assumption | exact q_rg_up (by assumption) (by omega) | exact q_rg_up (q_rg_up (by assumption) (by omega)) (by omega) | exact q_rg_cpy (by assumption) (by assumption))⟩
    apply And.intro
    · intro h1
      intro z63 h63
      first | replace h63 := e_shl h63 (by omega) | replace h63 := e_rng h63
      intro z64 h64
      first | replace h64 := e_or8 h64 (by omega) (by omega) | replace h64 := e_or9 h64 (by omega) (by omega) | replace h64 := e_rng h64
      apply And.intro
      · exact trivial
      intro z78 h78
      first | replace h78 := e_shl h78 (by omega) | replace h78 := e_rng h78
      intro z79 h79
      first | replace h79 := e_or8 h79 (by omega) (by omega) | replace h79 := e_or9 h79 (by omega) (by omega) | replace h79 := e_rng h79
      apply And.intro
      · exact trivial
      exact hQ _ _ _ _ _ _ _ _ _ _ _ _ _ _ ⟨by omega, by omega, by omega, by omega, by omega, by omega, (by first | omega | assumption | exact q_rg_up (by assumption) (by omega) | exact q_rg_up (q_rg_up (by assumption) (by omega)) (by omega) | exact q_rg_cpy (by assumption) (by assumption))⟩
    apply And.intro
    · intro h1
      apply And.intro
      · exact trivial
      exact hQ _ _ _ _ _ _ _ _ _ _ _ _ _ _ ⟨by omega, by omega, by omega, by omega, by omega, by omega, (by first | omega | assumption | exact q_rg_up (by assumption) (by omega) | exact q_rg_up (q_rg_up (by assumption) (by omega)) (by omega) | exact q_rg_cpy (by assumption) (by assumption))⟩
    apply And.intro
    · intro h1
      refine Exists.intro [0, 1, 2, 3, 4, 5, 6, 7, 8, 9, 10, 11, 12, 13] (Exists.intro [q2 0, q1 _] (Exists.intro ([.inr (6, [q2 1, q2 9, q2 10, q2 11, q2 12, q2 13, q1 _, q1 _, q1 _, q1 _, q1 _, q1 _, q1 _, q1 _, q1 _]), .inr (0, [q2 2, q2 3, q2 4, q2 5, q2 6, q2 7, q2 8, q1 _, q1 _, q1 _, q1 _, q1 _]), .inl (0, 8, .inl _), .inl (0, 8, .inl _), .inl (0, 4, .inl _), .inl (0, 32, .inl _), .inl (0, 6, .inl _), .inl (0, 6, .inl _), .inl (0, 6, .inl _)]) (And.intro rfl (And.intro rfl (And.intro rfl (And.intro ⟨⟨_, rfl⟩, rfl⟩ ?_))))))
      refine Exists.intro _ (Exists.intro _ (Exists.intro _ (Exists.intro _ (Exists.intro _ (Exists.intro _ (Exists.intro _ (Exists.intro _ (Exists.intro _ (Exists.intro _ (Exists.intro _ (Exists.intro _ (Exists.intro _ (Exists.intro _ (Exists.intro _ (Exists.intro _ (Exists.intro _ (Exists.intro _ (Exists.intro _ (Exists.intro _ (Exists.intro _ (Exists.intro _ (And.intro rfl (And.intro rfl (And.intro (by first | omega | assumption | exact q_rg_up (by assumption) (by omega) | exact q_rg_up (q_rg_up (by assumption) (by omega)) (by omega) | exact q_rg_cpy (by assumption) (by assumption)) (?_)))))))))))))))))))))))))
      intro x_rbf5_99 x_rbu3_99 h99
      exact hQ _ _ _ _ _ _ _ _ _ _ _ _ _ _ ⟨by omega, by omega, by omega, by omega, by omega, by omega, (by first | omega | assumption | exact q_rg_up (by assumption) (by omega) | exact q_rg_up (q_rg_up (by assumption) (by omega)) (by omega) | exact q_rg_cpy (by assumption) (by assumption))⟩
    apply And.intro
    · intro h1
      refine Exists.intro [0, 1, 2, 3, 4, 5, 6, 7, 8, 9, 10, 11, 12, 13] (Exists.intro [q2 0, q1 _] (Exists.intro ([.inr (6, [q2 1, q2 9, q2 10, q2 11, q2 12, q2 13, q1 _, q1 _, q1 _, q1 _, q1 _, q1 _, q1 _, q1 _, q1 _]), .inr (0, [q2 2, q2 3, q2 4, q2 5, q2 6, q2 7, q2 8, q1 _, q1 _, q1 _, q1 _, q1 _]), .inl (0, 8, .inl _), .inl (0, 8, .inl _), .inl (0, 4, .inl _), .inl (0, 32, .inl _), .inl (0, 6, .inl _), .inl (0, 6, .inl _), .inl (0, 6, .inl _)]) (And.intro rfl (And.intro rfl (And.intro rfl (And.intro ⟨⟨_, rfl⟩, rfl⟩ ?_))))))
      refine Exists.intro _ (Exists.intro _ (Exists.intro _ (Exists.intro _ (Exists.intro _ (Exists.intro _ (Exists.intro _ (Exists.intro _ (Exists.intro _ (Exists.intro _ (Exists.intro _ (Exists.intro _ (Exists.intro _ (Exists.intro _ (Exists.intro _ (Exists.intro _ (Exists.intro _ (Exists.intro _ (Exists.intro _ (Exists.intro _ (Exists.intro _ (Exists.intro _ (And.intro rfl (And.intro rfl (And.intro (by first | omega | assumption | exact q_rg_up (by assumption) (by omega) | exact q_rg_up (q_rg_up (by assumption) (by omega)) (by omega) | exact q_rg_cpy (by assumption) (by assumption)) (?_)))))))))))))))))))))))))
      intro x_rbf7_107 x_rbu4_107 h107
      exact hQ _ _ _ _ _ _ _ _ _ _ _ _ _ _ ⟨by omega, by omega, by omega, by omega, by omega, by omega, (by first | omega | assumption | exact q_rg_up (by assumption) (by omega) | exact q_rg_up (q_rg_up (by assumption) (by omega)) (by omega) | exact q_rg_cpy (by assumption) (by assumption))⟩
    apply And.intro
    · intro h1
      refine Exists.intro [0, 1, 2, 3, 4, 5, 6, 7, 8, 9, 10, 11, 12, 13] (Exists.intro [q2 0, q1 _, q1 _] (Exists.intro ([.inr (6, [q2 1, q2 9, q2 10, q2 11, q2 12, q2 13, q1 _, q1 _, q1 _, q1 _, q1 _, q1 _, q1 _, q1 _, q1 _]), .inr (0, [q2 2, q2 3, q2 4, q2 5, q2 6, q2 7, q2 8, q1 _, q1 _, q1 _, q1 _, q1 _]), .inl (0, 8, .inl _), .inl (0, 8, .inl _), .inl (0, 4, .inl _), .inl (0, 32, .inl _), .inl (0, 6, .inl _), .inl (0, 6, .inl _), .inl (0, 6, .inl _)]) (And.intro rfl (And.intro rfl (And.intro rfl (And.intro ⟨⟨_, rfl⟩, rfl⟩ ?_))))))
      refine Exists.intro _ (Exists.intro _ (Exists.intro _ (Exists.intro _ (Exists.intro _ (Exists.intro _ (Exists.intro _ (Exists.intro _ (Exists.intro _ (Exists.intro _ (Exists.intro _ (Exists.intro _ (Exists.intro _ (Exists.intro _ (Exists.intro _ (Exists.intro _ (Exists.intro _ (Exists.intro _ (Exists.intro _ (Exists.intro _ (Exists.intro _ (Exists.intro _ (Exists.intro _ (And.intro rfl (And.intro rfl (?_)))))))))))))))))))))))))
      intro x_rbf2_116 x_rnp_116
      exact hQ _ _ _ _ _ _ _ _ _ _ _ _ _ _ ⟨by omega, by omega, by omega, by omega, by omega, by omega, (by first | omega | assumption | exact q_rg_up (by assumption) (by omega) | exact q_rg_up (q_rg_up (by assumption) (by omega)) (by omega) | exact q_rg_cpy (by assumption) (by assumption))⟩
    apply And.intro
    · intro h1
      refine Exists.intro [0, 1, 2, 3, 4, 5, 6, 7, 8, 9, 10, 11, 12, 13] (Exists.intro [q2 0, q1 _, q1 _] (Exists.intro ([.inr (6, [q2 1, q2 9, q2 10, q2 11, q2 12, q2 13, q1 _, q1 _, q1 _, q1 _, q1 _, q1 _, q1 _, q1 _, q1 _]), .inr (0, [q2 2, q2 3, q2 4, q2 5, q2 6, q2 7, q2 8, q1 _, q1 _, q1 _, q1 _, q1 _]), .inl (0, 8, .inl _), .inl (0, 8, .inl _), .inl (0, 4, .inl _), .inl (0, 32, .inl _), .inl (0, 6, .inl _), .inl (0, 6, .inl _), .inl (0, 6, .inl _)]) (And.intro rfl (And.intro rfl (And.intro rfl (And.intro ⟨⟨_, rfl⟩, rfl⟩ ?_))))))
      refine Exists.intro _ (Exists.intro _ (Exists.intro _ (Exists.intro _ (Exists.intro _ (Exists.intro _ (Exists.intro _ (Exists.intro _ (Exists.intro _ (Exists.intro _ (Exists.intro _ (Exists.intro _ (Exists.intro _ (Exists.intro _ (Exists.intro _ (Exists.intro _ (Exists.intro _ (Exists.intro _ (Exists.intro _ (Exists.intro _ (Exists.intro _ (Exists.intro _ (Exists.intro _ (And.intro rfl (And.intro rfl (?_)))))))))))))))))))))))))
      intro x_rbf6_125 x_rnp_125 x_rnd_125
      exact hQ _ _ _ _ _ _ _ _ _ _ _ _ _ _ ⟨by omega, by omega, by omega, by omega, by omega, by omega, (by first | omega | assumption | exact q_rg_up (by assumption) (by omega) | exact q_rg_up (q_rg_up (by assumption) (by omega)) (by omega) | exact q_rg_cpy (by assumption) (by assumption))⟩
    apply And.intro
    · intro h1
      refine Exists.intro [0, 1, 2, 3, 4, 5, 6, 7, 8, 9, 10, 11, 12, 13] (Exists.intro [q2 0, q1 _, q1 _] (Exists.intro ([.inr (6, [q2 1, q2 9, q2 10, q2 11, q2 12, q2 13, q1 _, q1 _, q1 _, q1 _, q1 _, q1 _, q1 _, q1 _, q1 _]), .inr (0, [q2 2, q2 3, q2 4, q2 5, q2 6, q2 7, q2 8, q1 _, q1 _, q1 _, q1 _, q1 _]), .inl (0, 8, .inl _), .inl (0, 8, .inl _), .inl (0, 4, .inl _), .inl (0, 32, .inl _), .inl (0, 6, .inl _), .inl (0, 6, .inl _), .inl (0, 6, .inl _)]) (And.intro rfl (And.intro rfl (And.intro rfl (And.intro ⟨⟨_, rfl⟩, rfl⟩ ?_))))))
      refine Exists.intro _ (Exists.intro _ (Exists.intro _ (Exists.intro _ (Exists.intro _ (Exists.intro _ (Exists.intro _ (Exists.intro _ (Exists.intro _ (Exists.intro _ (Exists.intro _ (Exists.intro _ (Exists.intro _ (Exists.intro _ (Exists.intro _ (Exists.intro _ (Exists.intro _ (Exists.intro _ (Exists.intro _ (Exists.intro _ (Exists.intro _ (Exists.intro _ (Exists.intro _ (And.intro rfl (And.intro rfl (And.intro (by first | omega | assumption | exact q_rg_up (by assumption) (by omega) | exact q_rg_up (q_rg_up (by assumption) (by omega)) (by omega) | exact q_rg_cpy (by assumption) (by assumption)) (And.intro (by first | omega | assumption | exact q_rg_up (by assumption) (by omega) | exact q_rg_up (q_rg_up (by assumption) (by omega)) (by omega) | exact q_rg_cpy (by assumption) (by assumption)) (?_)))))))))))))))))))))))))))
      intro x_rbf3_134 h134
      exact hQ _ _ _ _ _ _ _ _ _ _ _ _ _ _ ⟨by omega, by omega, by omega, by omega, by omega, by omega, (by first | omega | assumption | exact q_rg_up (by assumption) (by omega) | exact q_rg_up (q_rg_up (by assumption) (by omega)) (by omega) | exact q_rg_cpy (by assumption) (by assumption))⟩
    exact trivial
  · intro h1
    refine Exists.intro [0, 1, 2, 3, 4, 5, 6, 7, 8, 9, 10, 11, 12, 13] (Exists.intro [q2 0, q1 _, q1 _, q1 _] (Exists.intro ([.inr (6, [q2 1, q2 9, q2 10, q2 11, q2 12, q2 13, q1 _, q1 _, q1 _, q1 _, q1 _, q1 _, q1 _, q1 _, q1 _]), .inr (0, [q2 2, q2 3, q2 4, q2 5, q2 6, q2 7, q2 8, q1 _, q1 _, q1 _, q1 _, q1 _]), .inl (0, 8, .inl _), .inl (0, 8, .inl _), .inl (0, 4, .inl _), .inl (0, 32, .inl _), .inl (0, 6, .inl _), .inl (0, 6, .inl _), .inl (0, 6, .inl _)]) (And.intro rfl (And.intro rfl (And.intro rfl (And.intro ⟨⟨_, rfl⟩, rfl⟩ ?_))))))
    refine Exists.intro _ (Exists.intro _ (Exists.intro _ (Exists.intro _ (Exists.intro _ (Exists.intro _ (Exists.intro _ (Exists.intro _ (Exists.intro _ (Exists.intro _ (Exists.intro _ (Exists.intro _ (Exists.intro _ (Exists.intro _ (Exists.intro _ (Exists.intro _ (Exists.intro _ (Exists.intro _ (Exists.intro _ (Exists.intro _ (Exists.intro _ (Exists.intro _ (Exists.intro _ (Exists.intro _ (And.intro rfl (And.intro rfl (?_))))))))))))))))))))))))))
    intro x_rbf4_145 x_rnp_145
    exact hQ _ _ _ _ _ _ _ _ _ _ _ _ _ _ ⟨by omega, by omega, by omega, by omega, by omega, by omega, (by first | omega | assumption | exact q_rg_up (by assumption) (by omega) | exact q_rg_up (q_rg_up (by assumption) (by omega)) (by omega) | exact q_rg_cpy (by assumption) (by assumption))⟩

theorem dX6_tell_0 : decode cX6_tell 0 = .ok (.iload_n 1, 1) := by decide +kernel
theorem dX6_tell_1 : decode cX6_tell 1 = .ok (.bipush 8, 2) := by decide +kernel
theorem dX6_tell_3 : decode cX6_tell 3 = .ok (.if_icmp .gt 29, 3) := by decide +kernel
theorem dX6_tell_6 : decode cX6_tell 6 = .ok (.aload_n 0, 1) := by decide +kernel
theorem dX6_tell_7 : decode cX6_tell 7 = .ok (.iload_n 1, 1) := by decide +kernel
theorem dX6_tell_8 : decode cX6_tell 8 = .ok (.aload_n 0, 1) := by decide +kernel
theorem dX6_tell_9 : decode cX6_tell 9 = .ok (.getfield 39, 3) := by decide +kernel
theorem dX6_tell_12 : decode cX6_tell 12 = .ok (.iconst 0, 1) := by decide +kernel
theorem dX6_tell_13 : decode cX6_tell 13 = .ok (.iaload, 1) := by decide +kernel
theorem dX6_tell_14 : decode cX6_tell 14 = .ok (.aload_n 0, 1) := by decide +kernel
theorem dX6_tell_15 : decode cX6_tell 15 = .ok (.getfield 39, 3) := by decide +kernel
theorem dX6_tell_18 : decode cX6_tell 18 = .ok (.iconst 1, 1) := by decide +kernel
theorem dX6_tell_19 : decode cX6_tell 19 = .ok (.iaload, 1) := by decide +kernel
theorem dX6_tell_20 : decode cX6_tell 20 = .ok (.aload_n 0, 1) := by decide +kernel
theorem dX6_tell_21 : decode cX6_tell 21 = .ok (.getfield 39, 3) := by decide +kernel
theorem dX6_tell_24 : decode cX6_tell 24 = .ok (.iconst 2, 1) := by decide +kernel
theorem dX6_tell_25 : decode cX6_tell 25 = .ok (.iaload, 1) := by decide +kernel
theorem dX6_tell_26 : decode cX6_tell 26 = .ok (.invokevirtual 222, 3) := by decide +kernel
theorem dX6_tell_29 : decode cX6_tell 29 = .ok (.goto 107, 3) := by decide +kernel
theorem dX6_tell_32 : decode cX6_tell 32 = .ok (.iload_n 1, 1) := by decide +kernel
theorem dX6_tell_33 : decode cX6_tell 33 = .ok (.bipush 13, 2) := by decide +kernel
theorem dX6_tell_35 : decode cX6_tell 35 = .ok (.if_icmp .gt 35, 3) := by decide +kernel
theorem dX6_tell_38 : decode cX6_tell 38 = .ok (.aload_n 0, 1) := by decide +kernel
theorem dX6_tell_39 : decode cX6_tell 39 = .ok (.getfield 21, 3) := by decide +kernel
theorem dX6_tell_42 : decode cX6_tell 42 = .ok (.iload_n 1, 1) := by decide +kernel
theorem dX6_tell_43 : decode cX6_tell 43 = .ok (.bipush 9, 2) := by decide +kernel
theorem dX6_tell_45 : decode cX6_tell 45 = .ok (.isub, 1) := by decide +kernel
theorem dX6_tell_46 : decode cX6_tell 46 = .ok (.aload_n 0, 1) := by decide +kernel
theorem dX6_tell_47 : decode cX6_tell 47 = .ok (.getfield 39, 3) := by decide +kernel
theorem dX6_tell_50 : decode cX6_tell 50 = .ok (.iconst 0, 1) := by decide +kernel
theorem dX6_tell_51 : decode cX6_tell 51 = .ok (.iaload, 1) := by decide +kernel
theorem dX6_tell_52 : decode cX6_tell 52 = .ok (.aload_n 0, 1) := by decide +kernel
theorem dX6_tell_53 : decode cX6_tell 53 = .ok (.getfield 39, 3) := by decide +kernel
theorem dX6_tell_56 : decode cX6_tell 56 = .ok (.iconst 1, 1) := by decide +kernel
theorem dX6_tell_57 : decode cX6_tell 57 = .ok (.iaload, 1) := by decide +kernel
theorem dX6_tell_58 : decode cX6_tell 58 = .ok (.aload_n 0, 1) := by decide +kernel
theorem dX6_tell_59 : decode cX6_tell 59 = .ok (.getfield 39, 3) := by decide +kernel
theorem dX6_tell_62 : decode cX6_tell 62 = .ok (.iconst 2, 1) := by decide +kernel
theorem dX6_tell_63 : decode cX6_tell 63 = .ok (.iaload, 1) := by decide +kernel
theorem dX6_tell_64 : decode cX6_tell 64 = .ok (.invokevirtual 226, 3) := by decide +kernel
theorem dX6_tell_67 : decode cX6_tell 67 = .ok (.goto 69, 3) := by decide +kernel
theorem dX6_tell_70 : decode cX6_tell 70 = .ok (.iload_n 1, 1) := by decide +kernel
theorem dX6_tell_71 : decode cX6_tell 71 = .ok (.bipush 14, 2) := by decide +kernel
theorem dX6_tell_73 : decode cX6_tell 73 = .ok (.if_icmp .ne 22, 3) := by decide +kernel
theorem dX6_tell_76 : decode cX6_tell 76 = .ok (.aload_n 0, 1) := by decide +kernel
theorem dX6_tell_77 : decode cX6_tell 77 = .ok (.aload_n 0, 1) := by decide +kernel
theorem dX6_tell_78 : decode cX6_tell 78 = .ok (.getfield 39, 3) := by decide +kernel
theorem dX6_tell_81 : decode cX6_tell 81 = .ok (.iconst 0, 1) := by decide +kernel
theorem dX6_tell_82 : decode cX6_tell 82 = .ok (.iaload, 1) := by decide +kernel
theorem dX6_tell_83 : decode cX6_tell 83 = .ok (.aload_n 0, 1) := by decide +kernel
theorem dX6_tell_84 : decode cX6_tell 84 = .ok (.getfield 39, 3) := by decide +kernel
theorem dX6_tell_87 : decode cX6_tell 87 = .ok (.iconst 1, 1) := by decide +kernel
theorem dX6_tell_88 : decode cX6_tell 88 = .ok (.iaload, 1) := by decide +kernel
theorem dX6_tell_89 : decode cX6_tell 89 = .ok (.invokevirtual 229, 3) := by decide +kernel
theorem dX6_tell_92 : decode cX6_tell 92 = .ok (.goto 44, 3) := by decide +kernel
theorem dX6_tell_95 : decode cX6_tell 95 = .ok (.iload_n 1, 1) := by decide +kernel
theorem dX6_tell_96 : decode cX6_tell 96 = .ok (.bipush 15, 2) := by decide +kernel
theorem dX6_tell_98 : decode cX6_tell 98 = .ok (.if_icmp .ne 19, 3) := by decide +kernel
theorem dX6_tell_101 : decode cX6_tell 101 = .ok (.aload_n 0, 1) := by decide +kernel
theorem dX6_tell_102 : decode cX6_tell 102 = .ok (.getfield 28, 3) := by decide +kernel
theorem dX6_tell_105 : decode cX6_tell 105 = .ok (.aload_n 0, 1) := by decide +kernel
theorem dX6_tell_106 : decode cX6_tell 106 = .ok (.getfield 39, 3) := by decide +kernel
theorem dX6_tell_109 : decode cX6_tell 109 = .ok (.iconst 0, 1) := by decide +kernel
theorem dX6_tell_110 : decode cX6_tell 110 = .ok (.iaload, 1) := by decide +kernel
theorem dX6_tell_111 : decode cX6_tell 111 = .ok (.putfield 232, 3) := by decide +kernel
theorem dX6_tell_114 : decode cX6_tell 114 = .ok (.goto 22, 3) := by decide +kernel
theorem dX6_tell_117 : decode cX6_tell 117 = .ok (.aload_n 0, 1) := by decide +kernel
theorem dX6_tell_118 : decode cX6_tell 118 = .ok (.getfield 35, 3) := by decide +kernel
theorem dX6_tell_121 : decode cX6_tell 121 = .ok (.aload_n 0, 1) := by decide +kernel
theorem dX6_tell_122 : decode cX6_tell 122 = .ok (.getfield 39, 3) := by decide +kernel
theorem dX6_tell_125 : decode cX6_tell 125 = .ok (.iconst 0, 1) := by decide +kernel
theorem dX6_tell_126 : decode cX6_tell 126 = .ok (.iaload, 1) := by decide +kernel
theorem dX6_tell_127 : decode cX6_tell 127 = .ok (.aload_n 0, 1) := by decide +kernel
theorem dX6_tell_128 : decode cX6_tell 128 = .ok (.getfield 39, 3) := by decide +kernel
theorem dX6_tell_131 : decode cX6_tell 131 = .ok (.iconst 1, 1) := by decide +kernel
theorem dX6_tell_132 : decode cX6_tell 132 = .ok (.iaload, 1) := by decide +kernel
theorem dX6_tell_133 : decode cX6_tell 133 = .ok (.invokevirtual 234, 3) := by decide +kernel
theorem dX6_tell_136 : decode cX6_tell 136 = .ok (.return_, 1) := by decide +kernel
def is_X6_tell : Nat → List Nat := fun d => []
set_option maxRecDepth 100000 in
def b_X6_tell_136 (J : Nat → List qV → List qV → qW → Prop) (Q : qR) : qK := x_vret Q
set_option maxRecDepth 100000 in
theorem s_X6_tell_136 {p : Program} {l : Launch} {e : Env} {R : Room} {s : State} {m : MethodId} {args : Array Value} {below : List Frame} {meth : Method} {c : Code} {nW : Nat} {dC : Nat → ClassId} {dI : Nat → Nat → Nat} {k : Nat → ClassId} {g : Nat → Nat} {A : Nat → Prop} {J : Nat → List qV → List qV → qW → Prop} {Q : qR} (X : q_X p R s m args meth c cX6_tell 2 nW 2 48 RX6 none dC dI k g A) (hJ : ∀ d : Nat, q_Sd p l e R s m args below meth c 2 nW dC dI k g A (MQ below (q_post (dC, dI) k g nW Q A) args s 0 0 A) d (x_cut (is_X6_tell d) (J d))) : q_Sd p l e R s m args below meth c 2 nW dC dI k g A (MQ below (q_post (dC, dI) k g nW Q A) args s 0 0 A) 136 (b_X6_tell_136 J Q) := by
  unfold b_X6_tell_136
  exact s_vret X dX6_tell_136
set_option maxRecDepth 100000 in
def b_X6_tell_127 (J : Nat → List qV → List qV → qW → Prop) (Q : qR) : qK := x_aload 0 (x_get 6 4 (x_int 1 (x_iald (x_call (some 7) 3 sp_X7_add (x_nw (b_X6_tell_136 J Q))))))
set_option maxRecDepth 100000 in
theorem s_X6_tell_127 {p : Program} {l : Launch} {e : Env} {R : Room} {s : State} {m : MethodId} {args : Array Value} {below : List Frame} {meth : Method} {c : Code} {nW : Nat} {dC : Nat → ClassId} {dI : Nat → Nat → Nat} {k : Nat → ClassId} {g : Nat → Nat} {A : Nat → Prop} {J : Nat → List qV → List qV → qW → Prop} {Q : qR} (X : q_X p R s m args meth c cX6_tell 2 nW 2 48 RX6 none dC dI k g A) (hJ : ∀ d : Nat, q_Sd p l e R s m args below meth c 2 nW dC dI k g A (MQ below (q_post (dC, dI) k g nW Q A) args s 0 0 A) d (x_cut (is_X6_tell d) (J d))) : q_Sd p l e R s m args below meth c 2 nW dC dI k g A (MQ below (q_post (dC, dI) k g nW Q A) args s 0 0 A) 127 (b_X6_tell_127 J Q) := by
  unfold b_X6_tell_127
  refine s_aload_n X rfl dX6_tell_127 ?_
  refine s_get X (T := TX6) (C := RX6) (N := 15) tu_X6 rfl (by decide) tw_275 dX6_tell_128 ?_
  refine s_iconst X ⟨by decide, by decide⟩ dX6_tell_131 ?_
  refine s_iald X dX6_tell_132 ?_
  refine s_callV X (m_X7_add l) tw_503 tw_504 tw_505 tw_127 tw_506 rfl (by decide +kernel) ⟨by decide, by decide⟩ dX6_tell_133 ?_
  refine s_nw ?_
  exact s_X6_tell_136 X hJ
set_option maxRecDepth 100000 in
def b_X6_tell_82 (J : Nat → List qV → List qV → qW → Prop) (Q : qR) : qK := x_iald (x_aload 0 (x_get 6 4 (x_int 1 (x_iald (x_call (some 6) 3 sp_X6_tellGot (x_nw (b_X6_tell_136 J Q)))))))
set_option maxRecDepth 100000 in
theorem s_X6_tell_82 {p : Program} {l : Launch} {e : Env} {R : Room} {s : State} {m : MethodId} {args : Array Value} {below : List Frame} {meth : Method} {c : Code} {nW : Nat} {dC : Nat → ClassId} {dI : Nat → Nat → Nat} {k : Nat → ClassId} {g : Nat → Nat} {A : Nat → Prop} {J : Nat → List qV → List qV → qW → Prop} {Q : qR} (X : q_X p R s m args meth c cX6_tell 2 nW 2 48 RX6 none dC dI k g A) (hJ : ∀ d : Nat, q_Sd p l e R s m args below meth c 2 nW dC dI k g A (MQ below (q_post (dC, dI) k g nW Q A) args s 0 0 A) d (x_cut (is_X6_tell d) (J d))) : q_Sd p l e R s m args below meth c 2 nW dC dI k g A (MQ below (q_post (dC, dI) k g nW Q A) args s 0 0 A) 82 (b_X6_tell_82 J Q) := by
  unfold b_X6_tell_82
  refine s_iald X dX6_tell_82 ?_
  refine s_aload_n X rfl dX6_tell_83 ?_
  refine s_get X (T := TX6) (C := RX6) (N := 15) tu_X6 rfl (by decide) tw_275 dX6_tell_84 ?_
  refine s_iconst X ⟨by decide, by decide⟩ dX6_tell_87 ?_
  refine s_iald X dX6_tell_88 ?_
  refine s_callV X (m_X6_tellGot l) tw_500 tw_501 tw_1525 tw_128 tw_502 rfl (by decide +kernel) ⟨by decide, by decide⟩ dX6_tell_89 ?_
  refine s_nw ?_
  refine s_goto X (tgt := 136) dX6_tell_92 (by decide) ?_
  exact s_X6_tell_136 X hJ
set_option maxRecDepth 100000 in
def b_X6_tell_42 (J : Nat → List qV → List qV → qW → Prop) (Q : qR) : qK := x_iload 1 (x_int 9 (x_isub (x_aload 0 (x_get 6 4 (x_int 0 (x_iald (x_aload 0 (x_get 6 4 (x_int 1 (x_iald (x_aload 0 (x_get 6 4 (x_int 2 (x_iald (x_call (some 10) 5 sp_X10_add (x_nw (b_X6_tell_136 J Q)))))))))))))))))
set_option maxRecDepth 100000 in
theorem s_X6_tell_42 {p : Program} {l : Launch} {e : Env} {R : Room} {s : State} {m : MethodId} {args : Array Value} {below : List Frame} {meth : Method} {c : Code} {nW : Nat} {dC : Nat → ClassId} {dI : Nat → Nat → Nat} {k : Nat → ClassId} {g : Nat → Nat} {A : Nat → Prop} {J : Nat → List qV → List qV → qW → Prop} {Q : qR} (X : q_X p R s m args meth c cX6_tell 2 nW 2 48 RX6 none dC dI k g A) (hJ : ∀ d : Nat, q_Sd p l e R s m args below meth c 2 nW dC dI k g A (MQ below (q_post (dC, dI) k g nW Q A) args s 0 0 A) d (x_cut (is_X6_tell d) (J d))) : q_Sd p l e R s m args below meth c 2 nW dC dI k g A (MQ below (q_post (dC, dI) k g nW Q A) args s 0 0 A) 42 (b_X6_tell_42 J Q) := by
  unfold b_X6_tell_42
  refine s_iload_n X rfl dX6_tell_42 ?_
  refine s_bipush X ⟨by decide, by decide⟩ (by decide) dX6_tell_43 ?_
  refine s_isub X dX6_tell_45 ?_
  refine s_aload_n X rfl dX6_tell_46 ?_
  refine s_get X (T := TX6) (C := RX6) (N := 15) tu_X6 rfl (by decide) tw_275 dX6_tell_47 ?_
  refine s_iconst X ⟨by decide, by decide⟩ dX6_tell_50 ?_
  refine s_iald X dX6_tell_51 ?_
  refine s_aload_n X rfl dX6_tell_52 ?_
  refine s_get X (T := TX6) (C := RX6) (N := 15) tu_X6 rfl (by decide) tw_275 dX6_tell_53 ?_
  refine s_iconst X ⟨by decide, by decide⟩ dX6_tell_56 ?_
  refine s_iald X dX6_tell_57 ?_
  refine s_aload_n X rfl dX6_tell_58 ?_
  refine s_get X (T := TX6) (C := RX6) (N := 15) tu_X6 rfl (by decide) tw_275 dX6_tell_59 ?_
  refine s_iconst X ⟨by decide, by decide⟩ dX6_tell_62 ?_
  refine s_iald X dX6_tell_63 ?_
  refine s_callV X (m_X10_add l) tw_496 tw_497 tw_498 tw_125 tw_499 rfl (by decide +kernel) ⟨by decide, by decide⟩ dX6_tell_64 ?_
  refine s_nw ?_
  refine s_goto X (tgt := 136) dX6_tell_67 (by decide) ?_
  exact s_X6_tell_136 X hJ
set_option maxRecDepth 100000 in
def b_X6_tell_0 (J : Nat → List qV → List qV → qW → Prop) (Q : qR) : qK := x_iload 1 (x_int 8 (x_icmp_gt (x_iload 1 (x_int 13 (x_icmp_gt (x_iload 1 (x_int 14 (x_icmp_ne (x_iload 1 (x_int 15 (x_icmp_ne (x_aload 0 (x_get 6 3 (x_aload 0 (x_get 6 4 (x_int 0 (x_iald (b_X6_tell_127 J Q))))))) (x_aload 0 (x_get 6 2 (x_aload 0 (x_get 6 4 (x_int 0 (x_iald (x_put 3 1 q_oki (x_nw (b_X6_tell_136 J Q)))))))))))) (x_aload 0 (x_aload 0 (x_get 6 4 (x_int 0 (b_X6_tell_82 J Q)))))))) (x_aload 0 (x_get 6 1 (b_X6_tell_42 J Q)))))) (x_aload 0 (x_iload 1 (x_aload 0 (x_get 6 4 (x_int 0 (x_iald (x_aload 0 (x_get 6 4 (x_int 1 (x_iald (x_aload 0 (x_get 6 4 (x_int 2 (x_iald (x_call (some 6) 5 sp_X6_tellBorough (x_nw (b_X6_tell_136 J Q)))))))))))))))))))
set_option maxRecDepth 100000 in
theorem s_X6_tell_0 {p : Program} {l : Launch} {e : Env} {R : Room} {s : State} {m : MethodId} {args : Array Value} {below : List Frame} {meth : Method} {c : Code} {nW : Nat} {dC : Nat → ClassId} {dI : Nat → Nat → Nat} {k : Nat → ClassId} {g : Nat → Nat} {A : Nat → Prop} {J : Nat → List qV → List qV → qW → Prop} {Q : qR} (X : q_X p R s m args meth c cX6_tell 2 nW 2 48 RX6 none dC dI k g A) (hJ : ∀ d : Nat, q_Sd p l e R s m args below meth c 2 nW dC dI k g A (MQ below (q_post (dC, dI) k g nW Q A) args s 0 0 A) d (x_cut (is_X6_tell d) (J d))) : q_Sd p l e R s m args below meth c 2 nW dC dI k g A (MQ below (q_post (dC, dI) k g nW Q A) args s 0 0 A) 0 (b_X6_tell_0 J Q) := by
  unfold b_X6_tell_0
  refine s_iload_n X rfl dX6_tell_0 ?_
  refine s_bipush X ⟨by decide, by decide⟩ (by decide) dX6_tell_1 ?_
  refine s_icmp_gt X (tgt := 32) dX6_tell_3 (by decide) ?_ ?_
  · refine s_iload_n X rfl dX6_tell_32 ?_
    refine s_bipush X ⟨by decide, by decide⟩ (by decide) dX6_tell_33 ?_
    refine s_icmp_gt X (tgt := 70) dX6_tell_35 (by decide) ?_ ?_
    · refine s_iload_n X rfl dX6_tell_70 ?_
      refine s_bipush X ⟨by decide, by decide⟩ (by decide) dX6_tell_71 ?_
      refine s_icmp_ne X (tgt := 95) dX6_tell_73 (by decide) ?_ ?_
      · refine s_iload_n X rfl dX6_tell_95 ?_
        refine s_bipush X ⟨by decide, by decide⟩ (by decide) dX6_tell_96 ?_
        refine s_icmp_ne X (tgt := 117) dX6_tell_98 (by decide) ?_ ?_
        · refine s_aload_n X rfl dX6_tell_117 ?_
          refine s_get X (T := TX6) (C := RX6) (N := 15) tu_X6 rfl (by decide) tw_273 dX6_tell_118 ?_
          refine s_aload_n X rfl dX6_tell_121 ?_
          refine s_get X (T := TX6) (C := RX6) (N := 15) tu_X6 rfl (by decide) tw_275 dX6_tell_122 ?_
          refine s_iconst X ⟨by decide, by decide⟩ dX6_tell_125 ?_
          refine s_iald X dX6_tell_126 ?_
          exact s_X6_tell_127 X hJ
        · refine s_aload_n X rfl dX6_tell_101 ?_
          refine s_get X (T := TX6) (C := RX6) (N := 15) tu_X6 rfl (by decide) tw_271 dX6_tell_102 ?_
          refine s_aload_n X rfl dX6_tell_105 ?_
          refine s_get X (T := TX6) (C := RX6) (N := 15) tu_X6 rfl (by decide) tw_275 dX6_tell_106 ?_
          refine s_iconst X ⟨by decide, by decide⟩ dX6_tell_109 ?_
          refine s_iald X dX6_tell_110 ?_
          refine s_put X (T := TX3) (C := RX3) (N := 2) tu_X3 tyX3_ok nmX3 rfl (by decide) tw_237 rfl (by decide +kernel) q_oki_t dX6_tell_111 ?_
          refine s_nw ?_
          refine s_goto X (tgt := 136) dX6_tell_114 (by decide) ?_
          exact s_X6_tell_136 X hJ
      · refine s_aload_n X rfl dX6_tell_76 ?_
        refine s_aload_n X rfl dX6_tell_77 ?_
        refine s_get X (T := TX6) (C := RX6) (N := 15) tu_X6 rfl (by decide) tw_275 dX6_tell_78 ?_
        refine s_iconst X ⟨by decide, by decide⟩ dX6_tell_81 ?_
        exact s_X6_tell_82 X hJ
    · refine s_aload_n X rfl dX6_tell_38 ?_
      refine s_get X (T := TX6) (C := RX6) (N := 15) tu_X6 rfl (by decide) tw_269 dX6_tell_39 ?_
      exact s_X6_tell_42 X hJ
  · refine s_aload_n X rfl dX6_tell_6 ?_
    refine s_iload_n X rfl dX6_tell_7 ?_
    refine s_aload_n X rfl dX6_tell_8 ?_
    refine s_get X (T := TX6) (C := RX6) (N := 15) tu_X6 rfl (by decide) tw_275 dX6_tell_9 ?_
    refine s_iconst X ⟨by decide, by decide⟩ dX6_tell_12 ?_
    refine s_iald X dX6_tell_13 ?_
    refine s_aload_n X rfl dX6_tell_14 ?_
    refine s_get X (T := TX6) (C := RX6) (N := 15) tu_X6 rfl (by decide) tw_275 dX6_tell_15 ?_
    refine s_iconst X ⟨by decide, by decide⟩ dX6_tell_18 ?_
    refine s_iald X dX6_tell_19 ?_
    refine s_aload_n X rfl dX6_tell_20 ?_
    refine s_get X (T := TX6) (C := RX6) (N := 15) tu_X6 rfl (by decide) tw_275 dX6_tell_21 ?_
    refine s_iconst X ⟨by decide, by decide⟩ dX6_tell_24 ?_
    refine s_iald X dX6_tell_25 ?_
    refine s_callV X (m_X6_tellBorough l) tw_472 tw_473 tw_1521 tw_128 tw_474 rfl (by decide +kernel) ⟨by decide, by decide⟩ dX6_tell_26 ?_
    refine s_nw ?_
    refine s_goto X (tgt := 136) dX6_tell_29 (by decide) ?_
    exact s_X6_tell_136 X hJ

def sp_X6_tell : qS := fun av w Q => ∃ (rln : Int) (rfa : Int) (rpl : Int) (rst : Int) (rnx : Int) (rtk : Int) (rnm : Int) (rnp : Int) (rnd : Int) (rv : Nat → Int) (rbf1 : Nat → Int) (rbf2 : Nat → Int) (rbf3 : Nat → Int) (rbf4 : Nat → Int) (rbf5 : Nat → Int) (rbf6 : Nat → Int) (rbf7 : Nat → Int) (rbu0 : Int) (rbu1 : Int) (rbu2 : Int) (rbu3 : Int) (rbu4 : Int) (ryk1 : Nat → Int) (ryk2 : Nat → Int) (ryk3 : Nat → Int) (ryk4 : Nat → Int) (ryd : Int) (rlg : Nat → Int) (rlo : Int) (rsp : Nat → Int) (rsq : Nat → Int) (rsc : Int) (a : Int), av = [q2 0, q1 a] ∧ w = [.inr (6, [q2 2, q2 10, q2 15, q2 17, q2 1, q2 20, q1 rln, q1 rfa, q1 rpl, q1 rst, q1 rnx, q1 rtk, q1 rnm, q1 rnp, q1 rnd]), .inl (0, 3, .inl rv), .inr (0, [q2 3, q2 4, q2 5, q2 6, q2 7, q2 8, q2 9, q1 rbu0, q1 rbu1, q1 rbu2, q1 rbu3, q1 rbu4]), .inl (0, 8, .inl rbf1), .inl (0, 8, .inl rbf2), .inl (0, 4, .inl rbf3), .inl (0, 32, .inl rbf4), .inl (0, 6, .inl rbf5), .inl (0, 6, .inl rbf6), .inl (0, 6, .inl rbf7), .inr (10, [q2 11, q2 12, q2 13, q2 14, q1 ryd]), .inl (0, 40, .inl ryk1), .inl (0, 40, .inl ryk2), .inl (0, 40, .inl ryk3), .inl (0, 40, .inl ryk4), .inr (3, [q2 16, q1 rlo]), .inl (0, 8, .inl rlg), .inr (7, [q2 18, q2 19, q1 rsc]), .inl (0, 10, .inl rsp), .inl (0, 10, .inl rsq)] ∧ (0 ≤ rbu0 ∧ rbu0 ≤ 8 ∧ 0 ≤ rbu3 ∧ rbu3 ≤ 6 ∧ 0 ≤ rbu4 ∧ rbu4 ≤ 6) ∧ (q_rg 0 9 rbf3) ∧ (0 ≤ ryd ∧ ryd ≤ 40) ∧ (0 ≤ rsc ∧ rsc ≤ 10) ∧ (a = 7 → 0 ≤ rv 1 ∧ rv 1 ≤ 9) ∧ (0 ≤ a ∧ a ≤ 16) ∧ (∀ (x_rbf1 : Nat → Int) (x_rbf2 : Nat → Int) (x_rbf3 : Nat → Int) (x_rbf4 : Nat → Int) (x_rbf5 : Nat → Int) (x_rbf6 : Nat → Int) (x_rbf7 : Nat → Int) (x_rbu0 : Int) (x_rbu1 : Int) (x_rbu2 : Int) (x_rbu3 : Int) (x_rbu4 : Int) (x_rnp : Int) (x_rnd : Int) (x_ryk1 : Nat → Int) (x_ryk2 : Nat → Int) (x_ryk3 : Nat → Int) (x_ryk4 : Nat → Int) (x_ryd : Int) (x_rlg : Nat → Int) (x_rlo : Int) (x_rsp : Nat → Int) (x_rsq : Nat → Int) (x_rsc : Int), ((0 ≤ x_rbu0 ∧ x_rbu0 ≤ 8 ∧ 0 ≤ x_rbu3 ∧ x_rbu3 ≤ 6 ∧ 0 ≤ x_rbu4 ∧ x_rbu4 ≤ 6 ∧ q_rg 0 9 x_rbf3) ∧ (0 ≤ x_ryd ∧ x_ryd ≤ 40) ∧ (0 ≤ x_rsc ∧ x_rsc ≤ 10)) → Q none ([.inr (6, [q2 2, q2 10, q2 15, q2 17, q2 1, q2 20, q1 rln, q1 rfa, q1 rpl, q1 rst, q1 rnx, q1 rtk, q1 rnm, q1 x_rnp, q1 x_rnd]), .inl (0, 3, .inl rv), .inr (0, [q2 3, q2 4, q2 5, q2 6, q2 7, q2 8, q2 9, q1 x_rbu0, q1 x_rbu1, q1 x_rbu2, q1 x_rbu3, q1 x_rbu4]), .inl (0, 8, .inl x_rbf1), .inl (0, 8, .inl x_rbf2), .inl (0, 4, .inl x_rbf3), .inl (0, 32, .inl x_rbf4), .inl (0, 6, .inl x_rbf5), .inl (0, 6, .inl x_rbf6), .inl (0, 6, .inl x_rbf7), .inr (10, [q2 11, q2 12, q2 13, q2 14, q1 x_ryd]), .inl (0, 40, .inl x_ryk1), .inl (0, 40, .inl x_ryk2), .inl (0, 40, .inl x_ryk3), .inl (0, 40, .inl x_ryk4), .inr (3, [q2 16, q1 x_rlo]), .inl (0, 8, .inl x_rlg), .inr (7, [q2 18, q2 19, q1 x_rsc]), .inl (0, 10, .inl x_rsp), .inl (0, 10, .inl x_rsq)]))
set_option maxHeartbeats 4000000 in
set_option maxRecDepth 100000 in
theorem m_X6_tell (l : Launch) : q_M l yX6_tell cX6_tell 2 none 2 48 sp_X6_tell := by
  refine q_meth (by decide) (fun av w Q h => by obtain ⟨rln, rfa, rpl, rst, rnx, rtk, rnm, rnp, rnd, rv, rbf1, rbf2, rbf3, rbf4, rbf5, rbf6, rbf7, rbu0, rbu1, rbu2, rbu3, rbu4, ryk1, ryk2, ryk3, ryk4, ryd, rlg, rlo, rsp, rsq, rsc, a, rfl, rfl, hrb, hf3, hry, hrs, hc9, ha, hQ⟩ := h; exact Nat.le_of_ble_eq_true rfl) ?_
  intro p e R s m args below meth c dC dI k g A av w Q hsp oka okw X
  obtain ⟨rln, rfa, rpl, rst, rnx, rtk, rnm, rnp, rnd, rv, rbf1, rbf2, rbf3, rbf4, rbf5, rbf6, rbf7, rbu0, rbu1, rbu2, rbu3, rbu4, ryk1, ryk2, ryk3, ryk4, ryd, rlg, rlo, rsp, rsq, rsc, a, rfl, rfl, hrb, hf3, hry, hrs, hc9, ha, hQ⟩ := hsp
  have o_a : -2147483648 ≤ a ∧ a ≤ 2147483647 := oka _ (List.mem_of_getElem? (i := 1) rfl)
  refine s_mono (s_X6_tell_0 X (J := fun _ _ _ _ => False) (fun d => s_cutF)) ?_
  rintro lv st w' ⟨rfl, rfl, rfl⟩
  apply And.intro
  · intro h3
    apply And.intro
    · intro h35
      apply And.intro
      · intro h73
        apply And.intro
        · intro h98
          apply And.intro
          · exact ⟨by omega, by omega⟩
          intro z126 h126
          apply And.intro
          · exact ⟨by omega, by omega⟩
          intro z132 h132
          refine Exists.intro [17, 18, 19] (Exists.intro [q2 0, q1 _, q1 _] (Exists.intro ((wSo 0 _ _ _)) (And.intro rfl (And.intro rfl (And.intro rfl (And.intro ⟨⟨_, rfl⟩, rfl⟩ ?_))))))
          refine Exists.intro _ (Exists.intro _ (Exists.intro _ (Exists.intro _ (Exists.intro _ (And.intro rfl (And.intro rfl (And.intro (by first | omega | assumption | exact q_rg_up (by assumption) (by omega) | exact q_rg_up (q_rg_up (by assumption) (by omega)) (by omega) | exact q_rg_cpy (by assumption) (by assumption)) (?_))))))))
          intro g1_133 g2_133 t_133 h133
          exact hQ _ _ _ _ _ _ _ _ _ _ _ _ _ _ _ _ _ _ _ _ _ _ _ _ ⟨⟨by omega, by omega, by omega, by omega, by omega, by omega, (by first | omega | assumption | exact q_rg_up (by assumption) (by omega) | exact q_rg_up (q_rg_up (by assumption) (by omega)) (by omega) | exact q_rg_cpy (by assumption) (by assumption))⟩, by omega, by omega⟩
        · intro h98
          apply And.intro
          · exact ⟨by omega, by omega⟩
          intro z110 h110
          apply And.intro
          · exact trivial
          exact hQ _ _ _ _ _ _ _ _ _ _ _ _ _ _ _ _ _ _ _ _ _ _ _ _ ⟨⟨by omega, by omega, by omega, by omega, by omega, by omega, (by first | omega | assumption | exact q_rg_up (by assumption) (by omega) | exact q_rg_up (q_rg_up (by assumption) (by omega)) (by omega) | exact q_rg_cpy (by assumption) (by assumption))⟩, by omega, by omega⟩
      · intro h73
        apply And.intro
        · exact ⟨by omega, by omega⟩
        intro z82 h82
        apply And.intro
        · exact ⟨by omega, by omega⟩
        intro z88 h88
        refine Exists.intro [0, 15, 16, 2, 10, 17, 1, 20] (Exists.intro [q2 0, q1 _, q1 _] (Exists.intro ([.inr (6, [q2 3, q2 4, q2 1, q2 5, q2 6, q2 7, q1 _, q1 _, q1 _, q1 _, q1 _, q1 _, q1 _, q1 _, q1 _]), .inr (3, [q2 2, q1 _]), .inl (0, 8, .inl _)]) (And.intro rfl (And.intro rfl (And.intro rfl (And.intro ⟨⟨_, rfl⟩, rfl⟩ ?_))))))
        refine Exists.intro _ (Exists.intro _ (Exists.intro _ (Exists.intro _ (Exists.intro _ (Exists.intro _ (Exists.intro _ (Exists.intro _ (Exists.intro _ (Exists.intro _ (Exists.intro _ (Exists.intro _ (Exists.intro _ (And.intro rfl (And.intro rfl (?_)))))))))))))))
        intro x_rlg_89
        exact hQ _ _ _ _ _ _ _ _ _ _ _ _ _ _ _ _ _ _ _ _ _ _ _ _ ⟨⟨by omega, by omega, by omega, by omega, by omega, by omega, (by first | omega | assumption | exact q_rg_up (by assumption) (by omega) | exact q_rg_up (q_rg_up (by assumption) (by omega)) (by omega) | exact q_rg_cpy (by assumption) (by assumption))⟩, by omega, by omega⟩
    · intro h35
      intro z45 h45
      first | replace h45 := e_sub h45 (by omega) | replace h45 := e_rng h45
      apply And.intro
      · exact ⟨by omega, by omega⟩
      intro z51 h51
      apply And.intro
      · exact ⟨by omega, by omega⟩
      intro z57 h57
      apply And.intro
      · exact ⟨by omega, by omega⟩
      intro z63 h63
      refine Exists.intro [10, 11, 12, 13, 14] (Exists.intro [q2 0, q1 _, q1 _, q1 _, q1 _] (Exists.intro ((wYo 0 _ _ _ _ _)) (And.intro rfl (And.intro rfl (And.intro rfl (And.intro ⟨⟨_, rfl⟩, rfl⟩ ?_))))))
      refine Exists.intro _ (Exists.intro _ (Exists.intro _ (Exists.intro _ (Exists.intro _ (Exists.intro _ (Exists.intro _ (Exists.intro _ (Exists.intro _ (And.intro rfl (And.intro rfl (And.intro (by first | omega | assumption | exact q_rg_up (by assumption) (by omega) | exact q_rg_up (q_rg_up (by assumption) (by omega)) (by omega) | exact q_rg_cpy (by assumption) (by assumption)) (?_))))))))))))
      intro g1_64 g2_64 g3_64 g4_64 t_64 h64
      exact hQ _ _ _ _ _ _ _ _ _ _ _ _ _ _ _ _ _ _ _ _ _ _ _ _ ⟨⟨by omega, by omega, by omega, by omega, by omega, by omega, (by first | omega | assumption | exact q_rg_up (by assumption) (by omega) | exact q_rg_up (q_rg_up (by assumption) (by omega)) (by omega) | exact q_rg_cpy (by assumption) (by assumption))⟩, by omega, by omega⟩
  · intro h3
    apply And.intro
    · exact ⟨by omega, by omega⟩
    intro z13 h13
    apply And.intro
    · exact ⟨by omega, by omega⟩
    intro z19 h19
    apply And.intro
    · exact ⟨by omega, by omega⟩
    intro z25 h25
    refine Exists.intro [0, 2, 3, 4, 5, 6, 7, 8, 9, 10, 15, 17, 1, 20] (Exists.intro [q2 0, q1 _, q1 _, q1 _, q1 _] (Exists.intro ([.inr (6, [q2 1, q2 9, q2 10, q2 11, q2 12, q2 13, q1 _, q1 _, q1 _, q1 _, q1 _, q1 _, q1 _, q1 _, q1 _]), .inr (0, [q2 2, q2 3, q2 4, q2 5, q2 6, q2 7, q2 8, q1 _, q1 _, q1 _, q1 _, q1 _]), .inl (0, 8, .inl _), .inl (0, 8, .inl _), .inl (0, 4, .inl _), .inl (0, 32, .inl _), .inl (0, 6, .inl _), .inl (0, 6, .inl _), .inl (0, 6, .inl _)]) (And.intro rfl (And.intro rfl (And.intro rfl (And.intro ⟨⟨_, rfl⟩, rfl⟩ ?_))))))
    refine Exists.intro _ (Exists.intro _ (Exists.intro _ (Exists.intro _ (Exists.intro _ (Exists.intro _ (Exists.intro _ (Exists.intro _ (Exists.intro _ (Exists.intro _ (Exists.intro _ (Exists.intro _ (Exists.intro _ (Exists.intro _ (Exists.intro _ (Exists.intro _ (Exists.intro _ (Exists.intro _ (Exists.intro _ (Exists.intro _ (Exists.intro _ (Exists.intro _ (Exists.intro _ (Exists.intro _ (Exists.intro _ (And.intro rfl (And.intro rfl (And.intro (by first | omega | assumption | exact q_rg_up (by assumption) (by omega) | exact q_rg_up (q_rg_up (by assumption) (by omega)) (by omega) | exact q_rg_cpy (by assumption) (by assumption)) (And.intro (by first | omega | assumption | exact q_rg_up (by assumption) (by omega) | exact q_rg_up (q_rg_up (by assumption) (by omega)) (by omega) | exact q_rg_cpy (by assumption) (by assumption)) (And.intro (by intro e7; rw [h19]; exact hc9 e7) (?_))))))))))))))))))))))))))))))
    intro x_rbf1_26 x_rbf2_26 x_rbf3_26 x_rbf4_26 x_rbf5_26 x_rbf6_26 x_rbf7_26 x_rbu0_26 x_rbu1_26 x_rbu2_26 x_rbu3_26 x_rbu4_26 x_rnp_26 x_rnd_26 h26
    obtain ⟨t1, t2, t3, t4, t5, t6, t7⟩ := h26
    exact hQ _ _ _ _ _ _ _ _ _ _ _ _ _ _ _ _ _ _ _ _ _ _ _ _ ⟨⟨by omega, by omega, by omega, by omega, by omega, by omega, (by first | omega | assumption | exact q_rg_up (by assumption) (by omega) | exact q_rg_up (q_rg_up (by assumption) (by omega)) (by omega) | exact q_rg_cpy (by assumption) (by assumption))⟩, by omega, by omega⟩
