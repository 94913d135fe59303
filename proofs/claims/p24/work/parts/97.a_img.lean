section QRM
variable {p : Program} {l : Launch} {e : Env} {R : Room} {s : State} {m : MethodId} {args : Array Value} {below : List Frame} {meth : Method} {c : Code} {cc : ByteArray} {nL nW fr lo : Nat} {own : String} {ret : Option FieldType} {dC : Nat → ClassId} {dI : Nat → Nat → Nat} {k : Nat → ClassId} {g : Nat → Nat} {A : Nat → Prop} {Qf : State → Prop} {pc : Nat} {K K1 K2 : qK}
variable {nc ns : Nat}
theorem sN_if_lt (X : q_X p R s m args meth c cc nL nW fr lo own ret dC dI k g A) {off : Int} {tgt : Nat} (hd : decode cc pc = .ok (.ifCond .lt off, 3)) (ht : (pc : Int) + off = (tgt : Int)) (hk1 : q_SdN nc ns p l e R s m args below meth c nL nW dC dI k g A Qf (tgt) (K1)) (hk2 : q_SdN nc ns p l e R s m args below meth c nL nW dC dI k g A Qf (pc + 3) (K2)) : q_SdN nc ns p l e R s m args below meth c nL nW dC dI k g A Qf (pc) (x_if_lt K1 K2) := by
  intro H locs ls lv st w h hP hW hS hl okl oks okw
  obtain ⟨hx, hb, hml, hown, hts, hK, hA, hE, hfr, hlo, hlk, hret, hDg⟩ := X
  unfold x_if_lt at h
  split at h
  · rename_i x r
    exact lv_if_lt hx hb hd ht (fun h0 => (hk1 H locs ls (lv) (r) (w) (h.1 ((q_lt_iff (q_oks_h oks) q_i0).mp h0)) hP hW hS hl okl (q_oks_t oks) okw)) (fun h0 => (hk2 H locs ls (lv) (r) (w) (h.2 (fun e0 => h0 ((q_lt_iff (q_oks_h oks) q_i0).mpr e0))) hP hW hS hl okl (q_oks_t oks) okw))
  · exact h.elim
theorem sN_icmp_lt (X : q_X p R s m args meth c cc nL nW fr lo own ret dC dI k g A) {off : Int} {tgt : Nat} (hd : decode cc pc = .ok (.if_icmp .lt off, 3)) (ht : (pc : Int) + off = (tgt : Int)) (hk1 : q_SdN nc ns p l e R s m args below meth c nL nW dC dI k g A Qf (tgt) (K1)) (hk2 : q_SdN nc ns p l e R s m args below meth c nL nW dC dI k g A Qf (pc + 3) (K2)) : q_SdN nc ns p l e R s m args below meth c nL nW dC dI k g A Qf (pc) (x_icmp_lt K1 K2) := by
  intro H locs ls lv st w h hP hW hS hl okl oks okw
  obtain ⟨hx, hb, hml, hown, hts, hK, hA, hE, hfr, hlo, hlk, hret, hDg⟩ := X
  unfold x_icmp_lt at h
  split at h
  · rename_i y x r
    exact lv_icmp_lt hx hb hd ht (fun h0 => (hk1 H locs ls (lv) (r) (w) (h.1 ((q_lt_iff (q_oks_h (q_oks_t oks)) (q_oks_h oks)).mp h0)) hP hW hS hl okl (q_oks_t (q_oks_t oks)) okw)) (fun h0 => (hk2 H locs ls (lv) (r) (w) (h.2 (fun e0 => h0 ((q_lt_iff (q_oks_h (q_oks_t oks)) (q_oks_h oks)).mpr e0))) hP hW hS hl okl (q_oks_t (q_oks_t oks)) okw))
  · exact h.elim
theorem sN_ifnonnull (X : q_X p R s m args meth c cc nL nW fr lo own ret dC dI k g A) {off : Int} {tgt : Nat} (hd : decode cc pc = .ok (.ifnonnull off, 3)) (ht : (pc : Int) + off = (tgt : Int)) (hk1 : q_SdN nc ns p l e R s m args below meth c nL nW dC dI k g A Qf (tgt) (K1)) (hk2 : q_SdN nc ns p l e R s m args below meth c nL nW dC dI k g A Qf (pc + 3) (K2)) : q_SdN nc ns p l e R s m args below meth c nL nW dC dI k g A Qf (pc) (x_ifnonnull K1 K2) := by
  intro H locs ls lv st w h hP hW hS hl okl oks okw
  obtain ⟨hx, hb, hml, hown, hts, hK, hA, hE, hfr, hlo, hlk, hret, hDg⟩ := X
  unfold x_ifnonnull at h
  split at h
  · rename_i r
    exact lv_ifnonnullN hx hb hd (hk2 H locs ls (lv) (r) (w) h hP hW hS hl okl (q_oks_t oks) okw)
  · rename_i a r
    exact lv_ifnonnull hx hb hd ht (hk1 H locs ls (lv) (r) (w) h hP hW hS hl okl (q_oks_t oks) okw)
  · exact h.elim
end QRM
theorem dX11_image_0 : decode cX11_image 0 = .ok (.iload_n 1, 1) := by decide +kernel
theorem dX11_image_1 : decode cX11_image 1 = .ok (.ifCond .lt 8, 3) := by decide +kernel
theorem dX11_image_4 : decode cX11_image 4 = .ok (.iload_n 1, 1) := by decide +kernel
theorem dX11_image_5 : decode cX11_image 5 = .ok (.iconst 3, 1) := by decide +kernel
theorem dX11_image_6 : decode cX11_image 6 = .ok (.if_icmp .lt 5, 3) := by decide +kernel
theorem dX11_image_9 : decode cX11_image 9 = .ok (.iconst 0, 1) := by decide +kernel
theorem dX11_image_10 : decode cX11_image 10 = .ok (.ireturn, 1) := by decide +kernel
theorem dX11_image_11 : decode cX11_image 11 = .ok (.aload_n 0, 1) := by decide +kernel
theorem dX11_image_12 : decode cX11_image 12 = .ok (.getfield 16, 3) := by decide +kernel
theorem dX11_image_15 : decode cX11_image 15 = .ok (.iload_n 1, 1) := by decide +kernel
theorem dX11_image_16 : decode cX11_image 16 = .ok (.aaload, 1) := by decide +kernel
theorem dX11_image_17 : decode cX11_image 17 = .ok (.ifnonnull 16, 3) := by decide +kernel
theorem dX11_image_20 : decode cX11_image 20 = .ok (.aload_n 0, 1) := by decide +kernel
theorem dX11_image_21 : decode cX11_image 21 = .ok (.getfield 16, 3) := by decide +kernel
theorem dX11_image_24 : decode cX11_image 24 = .ok (.iload_n 1, 1) := by decide +kernel
theorem dX11_image_25 : decode cX11_image 25 = .ok (.new 7, 3) := by decide +kernel
theorem dX11_image_28 : decode cX11_image 28 = .ok (.dup, 1) := by decide +kernel
theorem dX11_image_29 : decode cX11_image 29 = .ok (.invokespecial 9, 3) := by decide +kernel
theorem dX11_image_32 : decode cX11_image 32 = .ok (.aastore, 1) := by decide +kernel
theorem dX11_image_33 : decode cX11_image 33 = .ok (.aload_n 0, 1) := by decide +kernel
theorem dX11_image_34 : decode cX11_image 34 = .ok (.getfield 16, 3) := by decide +kernel
theorem dX11_image_37 : decode cX11_image 37 = .ok (.iload_n 1, 1) := by decide +kernel
theorem dX11_image_38 : decode cX11_image 38 = .ok (.aaload, 1) := by decide +kernel
theorem dX11_image_39 : decode cX11_image 39 = .ok (.aload_n 0, 1) := by decide +kernel
theorem dX11_image_40 : decode cX11_image 40 = .ok (.getfield 10, 3) := by decide +kernel
theorem dX11_image_43 : decode cX11_image 43 = .ok (.invokevirtual 293, 3) := by decide +kernel
theorem dX11_image_46 : decode cX11_image 46 = .ok (.iconst 1, 1) := by decide +kernel
theorem dX11_image_47 : decode cX11_image 47 = .ok (.ireturn, 1) := by decide +kernel
def bI_33 (J : Nat → List qV → List qV → qW → Prop) : qK := x_aload 0 (x_get 11 1 (x_iload 1 (x_aald (x_aload 0 (x_get 11 0 (x_callN 8 2 (sU 1) (x_cut [0, 1] (J 46))))))))
def bI_11 (J : Nat → List qV → List qV → qW → Prop) : qK := x_aload 0 (x_get 11 1 (x_iload 1 (x_aald (x_ifnonnull (x_cut [0, 1] (J 33)) (x_aload 0 (x_get 11 1 (x_iload 1 (x_cut [0, 1] (J 25)))))))))
def bI_0 (J : Nat → List qV → List qV → qW → Prop) : qK := x_iload 1 (x_if_lt (x_cut [0, 1] (J 9)) (x_iload 1 (x_int 3 (x_icmp_lt (bI_11 J) (x_cut [0, 1] (J 9))))))
theorem sI_33 {p : Program} {l : Launch} {e : Env} {R : Room} {s : State} {m : MethodId} {args : Array Value} {below : List Frame} {meth : Method} {c : Code} {nc ns nW : Nat} {dC : Nat → ClassId} {dI : Nat → Nat → Nat} {k : Nat → ClassId} {g : Nat → Nat} {A : Nat → Prop} {Qf : State → Prop} {J : Nat → List qV → List qV → qW → Prop} (X : q_X p R s m args meth c cX11_image 2 nW 4 128 RX11 (some .boolean) dC dI k g A) (hcells : nc + 0 ≤ R.cells ∧ ns + 0 ≤ R.slots) (hJ : ∀ d : Nat, q_SdN nc ns p l e R s m args below meth c 2 nW dC dI k g A Qf d (x_cut [0, 1] (J d))) : q_SdN nc ns p l e R s m args below meth c 2 nW dC dI k g A Qf 33 (bI_33 J) := by
  unfold bI_33
  refine sN_aload_n X rfl dX11_image_33 ?_
  refine sN_get X (T := TX11) (C := RX11) (N := 8) tu_X11 rfl (by decide) tw_327 dX11_image_34 ?_
  refine sN_iload_n X rfl dX11_image_37 ?_
  refine sN_aald X dX11_image_38 ?_
  refine sN_aload_n X rfl dX11_image_39 ?_
  refine sN_get X (T := TX11) (C := RX11) (N := 8) tu_X11 rfl (by decide) tw_326 dX11_image_40 ?_
  refine sN_callN X hcells (mU_1 l) tw_984 tw_985 tw_986 tw_121 tw_987 rfl (by decide +kernel) ⟨by decide, by decide⟩ (sU_mo 1) dX11_image_43 ?_
  exact hJ 46
theorem sI_11 {p : Program} {l : Launch} {e : Env} {R : Room} {s : State} {m : MethodId} {args : Array Value} {below : List Frame} {meth : Method} {c : Code} {nc ns nW : Nat} {dC : Nat → ClassId} {dI : Nat → Nat → Nat} {k : Nat → ClassId} {g : Nat → Nat} {A : Nat → Prop} {Qf : State → Prop} {J : Nat → List qV → List qV → qW → Prop} (X : q_X p R s m args meth c cX11_image 2 nW 4 128 RX11 (some .boolean) dC dI k g A) (hJ : ∀ d : Nat, q_SdN nc ns p l e R s m args below meth c 2 nW dC dI k g A Qf d (x_cut [0, 1] (J d))) : q_SdN nc ns p l e R s m args below meth c 2 nW dC dI k g A Qf 11 (bI_11 J) := by
  unfold bI_11
  refine sN_aload_n X rfl dX11_image_11 ?_
  refine sN_get X (T := TX11) (C := RX11) (N := 8) tu_X11 rfl (by decide) tw_327 dX11_image_12 ?_
  refine sN_iload_n X rfl dX11_image_15 ?_
  refine sN_aald X dX11_image_16 ?_
  refine sN_ifnonnull X (tgt := 33) dX11_image_17 (by decide) ?_ ?_
  · exact hJ 33
  · refine sN_aload_n X rfl dX11_image_20 ?_
    refine sN_get X (T := TX11) (C := RX11) (N := 8) tu_X11 rfl (by decide) tw_327 dX11_image_21 ?_
    refine sN_iload_n X rfl dX11_image_24 ?_
    exact hJ 25
theorem sI_0 {p : Program} {l : Launch} {e : Env} {R : Room} {s : State} {m : MethodId} {args : Array Value} {below : List Frame} {meth : Method} {c : Code} {nc ns nW : Nat} {dC : Nat → ClassId} {dI : Nat → Nat → Nat} {k : Nat → ClassId} {g : Nat → Nat} {A : Nat → Prop} {Qf : State → Prop} {J : Nat → List qV → List qV → qW → Prop} (X : q_X p R s m args meth c cX11_image 2 nW 4 128 RX11 (some .boolean) dC dI k g A) (hJ : ∀ d : Nat, q_SdN nc ns p l e R s m args below meth c 2 nW dC dI k g A Qf d (x_cut [0, 1] (J d))) : q_SdN nc ns p l e R s m args below meth c 2 nW dC dI k g A Qf 0 (bI_0 J) := by
  unfold bI_0
  refine sN_iload_n X rfl dX11_image_0 ?_
  refine sN_if_lt X (tgt := 9) dX11_image_1 (by decide) ?_ ?_
  · exact hJ 9
  · refine sN_iload_n X rfl dX11_image_4 ?_
    refine sN_iconst X ⟨by decide, by decide⟩ dX11_image_5 ?_
    refine sN_icmp_lt X (tgt := 11) dX11_image_6 (by decide) ?_ ?_
    · exact sI_11 X hJ
    · exact hJ 9
set_option maxRecDepth 100000 in
theorem vI_33 {γ : qG} {n : Nat} {w : qW} {a : Int} {J : Nat → List qV → List qV → qW → Prop} (hPN : PN γ n w) (ha : 0 ≤ a ∧ a ≤ 2) {j : Nat} (hj : j < n) (hq : γ.2.2 a.toNat = some (111 + 43 * j)) (h46 : ∀ γ' w', PN γ' n w' → w'.length = w.length → cpG 1 j γ γ' → J 46 [q2 0, q1 a] [] w') : bI_33 J [(0, q2 0), (1, q1 a)] [] w := by
  obtain ⟨hPW, hlen9, ⟨eI, -⟩, hb⟩ := id hPN
  obtain ⟨_, eH, rfl⟩ := hPW 0 _ rfl
  have hn3 := PN_3 hPN
  obtain ⟨x, hx, hp⟩ := hb j hj 0 _ rfl
  obtain ⟨ln, fa, pl, rfl, -⟩ := hp
  have hg9 : [γ.2.2 0, γ.2.2 1, γ.2.2 2].getD a.toNat none = some (111 + 43 * j) := by
    rcases (show a = 0 ∨ a = 1 ∨ a = 2 by omega) with rfl | rfl | rfl <;> exact hq
  refine p_get eH rfl ?_
  refine p_aald eI rfl ⟨by omega, by omega⟩ ?_
  rw [hg9]
  refine p_get eH rfl ?_
  exact ⟨111 + 43 * j, [q2 1], [], _, rfl, rfl, hx, Nat.le_of_ble_eq_true rfl, ⟨γ, n, j, hPN, hj, by omega, rfl, fun γ' w' hw' hl' hc' _ => h46 γ' w' hw' hl' hc'⟩⟩
