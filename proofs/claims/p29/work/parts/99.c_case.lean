theorem dL_law_1323 : decode code 1323 = .ok (.aload_n 1, 1) := by decide +kernel
theorem dL_law_1324 : decode code 1324 = .ok (.aload_n 0, 1) := by decide +kernel
theorem dL_law_1325 : decode code 1325 = .ok (.iload_n 3, 1) := by decide +kernel
theorem dL_law_1326 : decode code 1326 = .ok (.iconst 1, 1) := by decide +kernel
theorem dL_law_1327 : decode code 1327 = .ok (.iadd, 1) := by decide +kernel
theorem dL_law_1328 : decode code 1328 = .ok (.iaload, 1) := by decide +kernel
theorem dL_law_1329 : decode code 1329 = .ok (.invokevirtual 130, 3) := by decide +kernel
theorem dL_law_1332 : decode code 1332 = .ok (.aload_n 2, 1) := by decide +kernel
theorem dL_law_1333 : decode code 1333 = .ok (.aload_n 0, 1) := by decide +kernel
theorem dL_law_1334 : decode code 1334 = .ok (.iload_n 3, 1) := by decide +kernel
theorem dL_law_1335 : decode code 1335 = .ok (.iconst 1, 1) := by decide +kernel
theorem dL_law_1336 : decode code 1336 = .ok (.iadd, 1) := by decide +kernel
theorem dL_law_1337 : decode code 1337 = .ok (.iaload, 1) := by decide +kernel
theorem dL_law_1338 : decode code 1338 = .ok (.invokevirtual 134, 3) := by decide +kernel
theorem dL_law_1341 : decode code 1341 = .ok (.if_icmp .eq 28, 3) := by decide +kernel
theorem dL_law_1344 : decode code 1344 = .ok (.iconst 0, 1) := by decide +kernel
theorem dL_law_1345 : decode code 1345 = .ok (.ireturn, 1) := by decide +kernel
def spZ (n : Nat) : qS := fun av w Q => ∃ a : Int, PN n w ∧ av = [q2 85, q1 a] ∧ ∀ (z : Int) (w' : qW), PN n w' → w'.length = w.length → (z = 1 ∧ (0 ≤ a ∧ a ≤ 2) ∨ z = 0 ∧ ¬ (0 ≤ a ∧ a ≤ 2)) → Q (some (q1 z)) w'
theorem spZ_mo (n : Nat) : ∀ (av : List qV) (w : qW) (P P' : Option qV → qW → Prop), (∀ r w1, P r w1 → P' r w1) → spZ n av w P → spZ n av w P' := fun av w P P' h hs => by
  obtain ⟨a, h1, h2, h4⟩ := hs
  exact ⟨a, h1, h2, fun z w' a b c => h _ _ (h4 z w' a b c)⟩
set_option maxHeartbeats 2000000 in
set_option maxRecDepth 100000 in
theorem mZ_image (l : Launch) (n : Nat) : q_M l yX12_image cX12_image 2 (some .boolean) 2 47 (spZ n) := by
  refine q_M_mono (fun av w Q h9 => ?_) (q_M_fr (m_X12_image l))
  obtain ⟨a, hPN9, rfl, hQ9⟩ := h9
  have h9 := hPN9.1
  obtain ⟨_, e9_0, mco, mre, mle, mbe, mso, mva, mwo, mwr, mlf, mlp, mfp, mfd, mgo, mbo, mpe, mye, mpr, mld, msi, mse, rfl⟩ := h9 85 _ rfl
  obtain ⟨_, e9_1, tp, rfl⟩ := h9 86 _ rfl
  obtain ⟨_, e9_2, siz, rfl, i9_2_0⟩ := h9 87 _ rfl
  obtain ⟨_, e9_3, fa, rfl⟩ := h9 88 _ rfl
  obtain ⟨_, e9_4, fpl, rfl⟩ := h9 89 _ rfl
  obtain ⟨_, e9_5, mn, rfl, i9_5_0⟩ := h9 90 _ rfl
  obtain ⟨_, e9_6, bs, rfl, i9_6_0⟩ := h9 91 _ rfl
  obtain ⟨_, e9_7, ys, rfl, i9_7_0⟩ := h9 92 _ rfl
  obtain ⟨_, e9_8, ls, rfl⟩ := h9 93 _ rfl
  obtain ⟨_, e9_9, ss, rfl, i9_9_0⟩ := h9 94 _ rfl
  obtain ⟨_, e9_10, kp, rfl⟩ := h9 110 _ rfl
  refine ⟨[85, 86, 87, 88, 89, 90, 91, 92, 93, 94, 110, 95, 96, 97, 98, 99, 100, 101, 102, 103, 104, 105, 106, 107, 108, 109], [q2 0, q1 a], [.inr (12, [q1 mco, q2 1, q2 2, q2 3, q2 4, q2 5, q2 6, q2 7, q2 8, q2 9, q1 mre, q1 mle, q1 mbe, q1 mso, q1 mva, q3 mwo, q1 mwr, q1 mlf, q1 mlp, q2 11, q2 12, q1 mfp, q1 mfd, q1 mgo, q1 mbo, q1 mpe, q1 mye, q2 13, q1 mpr, q2 14, q2 15, q2 16, q2 17, q1 mld, q2 18, q1 msi, q2 19, q2 20, q2 21, q2 22, q2 23, q1 mse, q2 24, q2 25, q2 10]), .inl (1, 2400, .inl tp), .inl (0, 4, .inl siz), .inl (0, 4, .inl fa), .inl (0, 4, .inl fpl), .inl (0, 16, .inl mn), .inl (0, 600, .inl bs), .inl (0, 1288, .inl ys), .inl (0, 72, .inl ls), .inl (0, 168, .inl ss), .inl (2, 3, .inl kp)], rfl, ?_, rfl, ?_⟩
  · show [w[85]?, w[86]?, w[87]?, w[88]?, w[89]?, w[90]?, w[91]?, w[92]?, w[93]?, w[94]?, w[110]?] = _
    rw [e9_0, e9_1, e9_2, e9_3, e9_4, e9_5, e9_6, e9_7, e9_8, e9_9, e9_10]
    rfl
  · refine ⟨mco, mre, mle, mbe, mso, mva, mwo, mwr, mlf, mlp, mfp, mfd, mgo, mbo, mpe, mye, mpr, mld, msi, mse, tp, siz, fa, fpl, mn, bs, ys, ls, ss, kp, a, rfl, rfl, (by first | assumption | omega), (by first | assumption | omega), (by first | assumption | omega), (by first | assumption | omega), (by first | assumption | omega), fun r x_mco x_tp x_siz x_fa x_fpl x_mn x_bs x_ys x_ls x_ss x_kp hp hlen => ?_⟩
    try simp only [and_assoc] at hp
    refine hQ9 r _ (PN_of hPN9 (PW_bw h9 rfl ?_) (by rw [q_bw_len]) (bw_out rfl)) (by rw [q_bw_len]) hp.1
    refine ⟨(show PM_M _ from ⟨_, _, _, _, _, _, _, _, _, _, _, _, _, _, _, _, _, _, _, _, rfl⟩), ?_⟩
    refine ⟨(show PM_TP _ from ⟨_, rfl⟩), ?_⟩
    refine ⟨(show PM_SZ _ from ⟨_, rfl, (by first | assumption | omega | exact hp.1 | exact hp.2.1 | exact hp.2.2.1 | exact hp.2.2.2.1 | exact hp.2.2.2.2.1 | exact hp.2.2.2.2.2 | exact hp.2.2.2.2 | exact hp.2.2.2 | exact hp.2.2 | exact hp.2)⟩), ?_⟩
    refine ⟨(show PM_FA _ from ⟨_, rfl⟩), ?_⟩
    refine ⟨(show PM_FP _ from ⟨_, rfl⟩), ?_⟩
    refine ⟨(show PM_MN _ from ⟨_, rfl, (by first | assumption | omega | exact hp.1 | exact hp.2.1 | exact hp.2.2.1 | exact hp.2.2.2.1 | exact hp.2.2.2.2.1 | exact hp.2.2.2.2.2 | exact hp.2.2.2.2 | exact hp.2.2.2 | exact hp.2.2 | exact hp.2)⟩), ?_⟩
    refine ⟨(show PM_BS _ from ⟨_, rfl, (by first | assumption | omega | exact hp.1 | exact hp.2.1 | exact hp.2.2.1 | exact hp.2.2.2.1 | exact hp.2.2.2.2.1 | exact hp.2.2.2.2.2 | exact hp.2.2.2.2 | exact hp.2.2.2 | exact hp.2.2 | exact hp.2)⟩), ?_⟩
    refine ⟨(show PM_YS _ from ⟨_, rfl, (by first | assumption | omega | exact hp.1 | exact hp.2.1 | exact hp.2.2.1 | exact hp.2.2.2.1 | exact hp.2.2.2.2.1 | exact hp.2.2.2.2.2 | exact hp.2.2.2.2 | exact hp.2.2.2 | exact hp.2.2 | exact hp.2)⟩), ?_⟩
    refine ⟨(show PM_LS _ from ⟨_, rfl⟩), ?_⟩
    refine ⟨(show PM_SS _ from ⟨_, rfl, (by first | assumption | omega | exact hp.1 | exact hp.2.1 | exact hp.2.2.1 | exact hp.2.2.2.1 | exact hp.2.2.2.2.1 | exact hp.2.2.2.2.2 | exact hp.2.2.2.2 | exact hp.2.2.2 | exact hp.2.2 | exact hp.2)⟩), ?_⟩
    refine ⟨(show PM_KP _ from ⟨_, rfl⟩), ?_⟩
    exact trivial
section QA9
variable {p : Program} {l : Launch} {e : Env} {R : Room} {s : State} {m : MethodId} {args : Array Value} {below : List Frame} {meth : Method} {c : Code} {n nc ns nW b L : Nat} {xs : Nat → Int32} {dC : Nat → ClassId} {dI : Nat → Nat → Nat} {k : Nat → ClassId} {g : Nat → Nat} {A : Nat → Prop} {Qf : State → Prop} {J : Nat → List qV → List qV → qW → Prop}
def bA_1323 (L : Nat) (xs : Nat → Int32) (J : Nat → List qV → List qV → qW → Prop) : qK := x_aload 1 (x_aload 0 (x_iload 3 (x_int 1 (x_iadd (x_sldL L xs (x_cut [0, 1, 2, 3] (J 1329)))))))
def bA_1332 (n L : Nat) (xs : Nat → Int32) (J : Nat → List qV → List qV → qW → Prop) : qK := x_aload 2 (x_aload 0 (x_iload 3 (x_int 1 (x_iadd (x_sldL L xs (x_callN 12 2 (spZ n) (x_icmp_eq (b_law_1369 n L xs J) (x_cut [0, 1, 2, 3] (J 1344)))))))))
theorem sA_1323 (X : q_X p R s m args meth c code 4 nW 10 231 R_law ret dC dI k g A) (hXs : va_X b L xs s s.heap) (hbl : b < s.heap.size) (hbA : ¬ A b) (hg9 : g 900 = b) (hJ : ∀ d : Nat, q_SdN nc ns p l e R s m args below meth c 4 nW dC dI k g A Qf d (x_cut [0, 1, 2, 3] (J d))) : q_SdN nc ns p l e R s m args below meth c 4 nW dC dI k g A Qf 1323 (bA_1323 L xs J) := by
  unfold bA_1323
  refine sN_aload_n X rfl dL_law_1323 ?_
  refine sN_aload_n X rfl dL_law_1324 ?_
  refine sN_iload_n X rfl dL_law_1325 ?_
  refine sN_iconst X ⟨by decide, by decide⟩ dL_law_1326 ?_
  refine sN_iadd X dL_law_1327 ?_
  refine sN_sld X hXs hbl hbA hg9 dL_law_1328 ?_
  exact hJ 1329
theorem sA_1332 (X : q_X p R s m args meth c code 4 nW 10 231 R_law ret dC dI k g A) (hcells : nc + 0 ≤ R.cells ∧ ns + 0 ≤ R.slots) (hL : L ≤ 3072) (hXs : va_X b L xs s s.heap) (hbl : b < s.heap.size) (hbA : ¬ A b) (hg9 : g 900 = b) (hJ : ∀ d : Nat, q_SdN nc ns p l e R s m args below meth c 4 nW dC dI k g A Qf d (x_cut [0, 1, 2, 3] (J d))) : q_SdN nc ns p l e R s m args below meth c 4 nW dC dI k g A Qf 1332 (bA_1332 n L xs J) := by
  unfold bA_1332
  refine sN_aload_n X rfl dL_law_1332 ?_
  refine sN_aload_n X rfl dL_law_1333 ?_
  refine sN_iload_n X rfl dL_law_1334 ?_
  refine sN_iconst X ⟨by decide, by decide⟩ dL_law_1335 ?_
  refine sN_iadd X dL_law_1336 ?_
  refine sN_sld X hXs hbl hbA hg9 dL_law_1337 ?_
  refine sN_callN X hcells (mZ_image l n) tw_1469 tw_1470 tw_1471 tw_134 tw_1472 rfl (by decide +kernel) ⟨by decide, by decide⟩ (spZ_mo n) dL_law_1338 ?_
  refine sN_icmp_eq X (tgt := 1369) dL_law_1341 (by decide) ?_ ?_
  · exact s_law_1369 X hcells hL hXs hbl hbA hg9 hJ
  · exact hJ 1344
end QA9
theorem vA_1323 {L : Nat} {xs : Nat → Int32} {J : Nat → List qV → List qV → qW → Prop} {i : Int} {w : qW} (hi : 0 ≤ i ∧ i + 6 ≤ L ∧ L ≤ 3072) (h : ∀ z : Int, z = (xs (i + 1).toNat).toInt → J 1329 [q2 900, q2 0, q2 85, q1 i] [q1 z, q2 0] w) : bA_1323 L xs J [(0, q2 900), (1, q2 0), (2, q2 85), (3, q1 i)] [] w := by
  intro z1 h1
  replace h1 := e_add h1 (by omega)
  apply And.intro
  · exact ⟨rfl, by omega, by omega⟩
  intro z2 h2
  exact h z2 (by rw [h2, h1])
set_option maxRecDepth 100000 in
theorem vA_1332 {n L : Nat} {xs : Nat → Int32} {J : Nat → List qV → List qV → qW → Prop} {i r z : Int} {w : qW} (hi : 0 ≤ i ∧ i + 6 ≤ L ∧ L ≤ 3072) (hW : PN n w) (hz : z = (xs (i + 1).toNat).toInt) (hr : r = 1 ∧ (0 ≤ z ∧ z ≤ 2) ∨ r = 0 ∧ ¬ (0 ≤ z ∧ z ≤ 2)) (hk : ∀ (j : Int) (w' : qW), j = i + 6 → PN n w' → J 18 [q2 900, q2 0, q2 85, q1 j] [] w') : bA_1332 n L xs J [(0, q2 900), (1, q2 0), (2, q2 85), (3, q1 i)] [q1 r] w := by
  intro z1 h1
  replace h1 := e_add h1 (by omega)
  apply And.intro
  · exact ⟨rfl, by omega, by omega⟩
  intro z2 h2
  have hzz : z2 = z := by rw [h2, h1, hz]
  obtain ⟨_, e1338, m0, m1, m2, m3, m4, m5, m6, m7, m8, m9, m10, m11, m12, m13, m14, m15, m16, m17, m18, m19, rfl⟩ := hW.1 85 _ rfl
  refine ⟨85, [q1 z2], [q1 r], _, rfl, rfl, e1338, Nat.le_of_ble_eq_true rfl, ⟨z2, hW, rfl, fun z3 w' a1 a2 a3 _ => ?_⟩⟩
  apply And.intro
  · intro h5
    intro z6 h6
    replace h6 := e_add h6 (by omega)
    exact hk _ _ (by omega) a1
  · intro h5
    exfalso
    apply h5
    rw [hzz] at a3
    rcases hr with ⟨rfl, u1⟩ | ⟨rfl, u1⟩ <;> rcases a3 with ⟨rfl, u2⟩ | ⟨rfl, u2⟩
    · rfl
    · exact absurd u1 u2
    · exact absurd u2 u1
    · rfl
set_option maxRecDepth 100000 in
theorem wsI_lawT : GoodIn lw_tbl ([.classLink RX11 7 RX8, .instantiable RX8 9] ++ ws_c_Tinit) := goodIn_r (big := lw_tbl) _ (179 :: 180 :: 183 :: 184 :: 177 :: 178 :: 275 :: 349 :: 276 :: 351 :: 185 :: 187 :: 152 :: 188 :: 189 :: 190 :: 191 :: 204 :: 212 :: 215 :: 219 :: 221 :: 224 :: 227 :: 192 :: 193 :: 194 :: 195 :: 196 :: 197 :: 153 :: 198 :: 201 :: 203 :: 202 :: 154 :: 233 :: 238 :: 240 :: 243 :: 247 :: 353 :: 277 :: 279 :: 155 :: 281 :: 282 :: 283 :: 284 :: 286 :: 288 :: 290 :: 354 :: 307 :: 309 :: 156 :: 311 :: 312 :: 313 :: 314 :: 355 :: 327 :: 329 :: 157 :: 331 :: 332 :: 333 :: 334 :: 336 :: 356 :: 361 :: 250 :: 252 :: 254 :: 256 :: 258 :: 260 :: 262 :: 264 :: 266 :: 268 :: 270 :: 272 :: 322 :: 324 :: 342 :: 344 :: 346 :: 363 :: 365 :: 367 :: 369 :: 371 :: 373 :: 375 :: 377 :: 379 :: 296 :: 298 :: 300 :: 302 :: 304 :: []) (by decide +kernel) (by decide +kernel)
theorem wsI_law : GoodIn lw_tbl (wsV R_law 130 RX11 yX11_image wsI) := by
  intro w hw
  unfold wsV at hw
  rcases List.mem_append.mp hw with h1 | h1
  · simp only [List.mem_cons, List.not_mem_nil, or_false] at h1
    rcases h1 with rfl | rfl | rfl | rfl
    · exact ⟨TB_in _ tw_980, TB_ok tw_980⟩
    · exact ⟨TB_in _ tw_981, TB_ok tw_981⟩
    · exact ⟨TB_in _ tw_982, TB_ok tw_982⟩
    · exact ⟨TB_in _ tw_120, TB_ok tw_120⟩
  · rcases List.mem_cons.mp h1 with h2 | h2
    · rw [h2]; exact ⟨TB_in _ tw_983, TB_ok tw_983⟩
    · rcases List.mem_append.mp h2 with h3 | h3
      · exact ⟨TB_in _ h3, TB_ok h3⟩
      · exact wsI_lawT w h3
theorem okl_i {i : Int} (h : -2147483648 ≤ i ∧ i ≤ 2147483647) : q_okl (lvI i) := by
  intro q hq
  simp only [lvI, List.mem_cons, List.not_mem_nil, or_false] at hq
  rcases hq with rfl | rfl | rfl | rfl
  · exact trivial
  · exact trivial
  · exact trivial
  · exact h
section LI9
variable {p : Program} {l : Launch} {e : Env} {s : State} {m : MethodId} {below : List Frame} {meth : Method} {c : Code} {b L : Nat} {xs : Nat → Int32}
set_option maxHeartbeats 2000000 in
theorem law_img2 (hL : L ≤ 3072) (C0 : lw_At p s m meth c b L xs) {dC : Nat → ClassId} {dI : Nat → Nat → Nat} {k : Nat → ClassId} {hi : Nat → Nat} (hK : va_K (dC, dI) vwCl (tyL k) s) (hhi : hi 900 = b) (hE : ∀ g : Nat → Nat, (∀ i : Nat, 900 ≤ i → g i = hi i) → qE g (aA s) s) {c0 s0 : Nat} (hc0 : c0 + 129 ≤ 600000 ∧ s0 + 3543 ≤ 7302250)
    (n : Nat) (g : Nat → Nat) (w : qW) (H : Heap) (locs : List Loc) (ls : Array Slot) (i r z : Int) (hV : LIv s dC dI k hi n g w H locs) (hl : lv_has ls 4 (q_lv g (lvI i))) (h0 : 0 ≤ i) (h1 : i + 6 ≤ L) (hz : z = (xs (i + 1).toNat).toInt) (hr : r = 1 ∧ (0 ≤ z ∧ z ≤ 2) ∨ r = 0 ∧ ¬ (0 ≤ z ∧ z ≤ 2))
    (kk : ∀ (n' : Nat) (g' : Nat → Nat) (w' : qW) (H' : Heap) (locs' : List Loc) (ls' : Array Slot), LIv s dC dI k hi n' g' w' H' locs' → lv_has ls' 4 (q_lv g' (lvI (i + 6))) → W p l e room_1 s m #[Value.ref b] below meth c H' locs' (c0 + 43 * n') (s0 + 1181 * n') (lw_Z below #[Value.ref b] s) (F0 m 18 ls' [])) : W p l e room_1 s m #[Value.ref b] below meth c H locs (c0 + 43 * n) (s0 + 1181 * n) (lw_Z below #[Value.ref b] s) (F0 m 1332 ls [.int (Int32.ofInt r)]) := by
  obtain ⟨hPN, hg, hD, hP, hS, okw⟩ := id hV
  have hn3 := PN_3 hPN
  obtain ⟨hx, hb, hret, hml, hown, hts, hX, hbl, hlocks, hgv⟩ := id C0
  have hbA : ¬ aA s b := fun h => absurd h (Nat.not_le.mpr hbl)
  have X : q_X p room_1 s m #[Value.ref b] meth c code 4 w.length 10 231 R_law ret dC dI k g (aA s) := ⟨hx, hb, hml, hown, fun w' h' => hts w' (TB_in w' h'), hK, fun q h => h, hE g hg, by decide, by decide, hlocks, hret, hD⟩
  have hi9 : g 900 = b := by rw [hg 900 (Nat.le_refl _)]; exact hhi
  have hJ : ∀ d : Nat, q_SdN (c0 + 43 * n) (s0 + 1181 * n) p l e room_1 s m #[Value.ref b] below meth c 4 w.length dC dI k g (aA s) (lw_Z below #[Value.ref b] s) d (x_cut [0, 1, 2, 3] ((fun d vs st w' => d = 18 ∧ st = [] ∧ PN n w' ∧ vs = [q2 900, q2 0, q2 85, q1 (i + 6)]) d)) := by
    intro d H locs ls lv st w' h hP hW hS hl okl oks okw
    unfold x_cut at h
    split at h
    case h_2 => exact h.elim
    rename_i vs hvs
    obtain ⟨rfl, rfl, hPN', rfl⟩ := h
    have hls : lv_has ls 4 (q_lv g (([0, 1, 2, 3] : List Nat).zip [q2 900, q2 0, q2 85, q1 (i + 6)])) := ⟨hl.1, hl.2.1, fun q hq => by
      obtain ⟨x, hx, rfl⟩ := List.mem_map.mp hq
      exact hl.2.2 _ (List.mem_map.mpr ⟨x, q_pk_mem hvs x hx, rfl⟩)⟩
    exact kk n g w' H locs ls ⟨hPN', hg, by rw [hW]; exact hD, hP, hS, okw⟩ hls
  have okr : q_oks [q1 r] := by
    intro v hv
    simp only [List.mem_cons, List.not_mem_nil, or_false] at hv
    subst hv
    exact ⟨by omega, by omega⟩
  exact sA_1332 (n := n) X ⟨by show c0 + 43 * n + 0 ≤ 600000; omega, by show s0 + 1181 * n + 0 ≤ 7302250; omega⟩ hL hX hbl hbA hi9 hJ H locs ls (lvI i) [q1 r] w (vA_1332 ⟨h0, h1, hL⟩ hPN hz hr (fun j w' e1 hw' => ⟨rfl, rfl, hw', by rw [e1]⟩)) hP rfl hS hl (okl_i ⟨by omega, by omega⟩) okr okw
theorem FGv_0 : FGv (fun _ => 0) := fun _ _ => ⟨by show (0 : Int) ≤ (0 : Int32).toInt; decide, by show (0 : Int32).toInt ≤ 9; decide⟩
set_option maxHeartbeats 4000000 in
set_option maxRecDepth 100000 in
theorem law_img (hL : L ≤ 3072) (C0 : lw_At p s m meth c b L xs) {dC : Nat → ClassId} {dI : Nat → Nat → Nat} {k : Nat → ClassId} {hi : Nat → Nat} (hK : va_K (dC, dI) vwCl (tyL k) s) (hhi : hi 900 = b) (hE : ∀ g : Nat → Nat, (∀ i : Nat, 900 ≤ i → g i = hi i) → qE g (aA s) s) {c0 s0 : Nat} (hc0 : c0 + 129 ≤ 600000 ∧ s0 + 3543 ≤ 7302250) :
    ∀ (n : Nat) (g : Nat → Nat) (w : qW) (H : Heap) (locs : List Loc) (ls : Array Slot) (i : Int), LIv s dC dI k hi n g w H locs → lv_has ls 4 (q_lv g (lvI i)) → 0 ≤ i → i + 6 ≤ L → (∀ (n' : Nat) (g' : Nat → Nat) (w' : qW) (H' : Heap) (locs' : List Loc) (ls' : Array Slot), LIv s dC dI k hi n' g' w' H' locs' → lv_has ls' 4 (q_lv g' (lvI (i + 6))) → W p l e room_1 s m #[Value.ref b] below meth c H' locs' (c0 + 43 * n') (s0 + 1181 * n') (lw_Z below #[Value.ref b] s) (F0 m 18 ls' [])) → W p l e room_1 s m #[Value.ref b] below meth c H locs (c0 + 43 * n) (s0 + 1181 * n) (lw_Z below #[Value.ref b] s) (F0 m 1323 ls []) := by
  intro n g w H locs ls i hV hl h0 h1 kk
  obtain ⟨hPN, hg, hD, hP, hS, okw⟩ := id hV
  have hn3 := PN_3 hPN
  obtain ⟨hx, hb, hret, hml, hown, hts, hX, hbl, hlocks, hgv⟩ := id C0
  have hbA : ¬ aA s b := fun h => absurd h (Nat.not_le.mpr hbl)
  have X : q_X p room_1 s m #[Value.ref b] meth c code 4 w.length 10 231 R_law ret dC dI k g (aA s) := ⟨hx, hb, hml, hown, fun w' h' => hts w' (TB_in w' h'), hK, fun q h => h, hE g hg, by decide, by decide, hlocks, hret, hD⟩
  have hi9 : g 900 = b := by rw [hg 900 (Nat.le_refl _)]; exact hhi
  have hc1 : c0 + 43 * n + 0 ≤ room_1.cells ∧ s0 + 1181 * n + 0 ≤ room_1.slots := ⟨by show c0 + 43 * n + 0 ≤ 600000; omega, by show s0 + 1181 * n + 0 ≤ 7302250; omega⟩
  have hJ : ∀ d : Nat, q_SdN (c0 + 43 * n) (s0 + 1181 * n) p l e room_1 s m #[Value.ref b] below meth c 4 w.length dC dI k g (aA s) (lw_Z below #[Value.ref b] s) d (x_cut [0, 1, 2, 3] ((fun d vs st w' => d = 1329 ∧ vs = [q2 900, q2 0, q2 85, q1 i] ∧ w' = w ∧ st = [q1 (xs (i + 1).toNat).toInt, q2 0]) d)) := by
    intro d H locs ls lv st w' h hPi hWi hSi hl okl oks okwi
    unfold x_cut at h
    split at h
    case h_2 => exact h.elim
    rename_i vs hvs
    obtain ⟨rfl, rfl, rfl, rfl⟩ := h
    have hls : lv_has ls 4 (q_lv g (lvI i)) := ⟨hl.1, hl.2.1, fun q hq => by
      obtain ⟨x, hx, rfl⟩ := List.mem_map.mp hq
      exact hl.2.2 _ (List.mem_map.mpr ⟨x, q_pk_mem hvs x hx, rfl⟩)⟩
    obtain ⟨z, hz⟩ : ∃ z : Int, z = (xs (i + 1).toNat).toInt := ⟨_, rfl⟩
    rw [← hz] at oks ⊢
    obtain ⟨hPW, hlen, ⟨i0, i1, i2, eI, -⟩, -⟩ := id hPN
    obtain ⟨_, eH, rfl⟩ := hPW 0 _ rfl
    by_cases hm : (0 ≤ z ∧ z ≤ 2) ∧ [i0, i1, i2].getD z.toNat none = none
    · obtain ⟨hz2, hm⟩ := hm
      have hn2 := (PN_new (G := fun _ _ => 0) hPN eI hz2 hm FGv_0 FGv_0).1
      have hno : ∀ x0 x1 x2 : Option Nat, w'[44]? = some (.inl (8, 3, .inr (.inr [x0, x1, x2]))) → [x0, x1, x2].getD z.toNat none = none := by
        intro x0 x1 x2 hx0
        rw [eI] at hx0
        cases hx0
        exact hm
      have hDv := q_D_va (k := k) (w := w') hD
      have hFc : ∀ q, va_A (q_w k g w') H.size q → aA s q := by
        rintro q (⟨j, e0, he0⟩ | hsz)
        · exact hDv.2 j _ he0
        · exact Nat.le_trans hSi.1 hsz
      show W p l e room_1 s m #[Value.ref b] below meth c H locs (c0 + 43 * n) (s0 + 1181 * n) (lw_Z below #[Value.ref b] s) (F0 m 1329 ls [.int (Int32.ofInt z), .ref (g 0)])
      refine va_calli (va_runV (Ts := lw_tbl) (own := R_law) (nL := 4) (As := [.int (Int32.ofInt z)]) (b := g 0) (rest := []) ⟨hx, hb, hml, hown, hts⟩ (mI_new l n dC dI k g z w' H.size hPN hz2 hno okwi) (cwV 1 hts wsI_law rfl rfl rfl (by decide +kernel) ⟨Nat.le_of_ble_eq_true rfl, Nat.le_of_ble_eq_true rfl⟩) ⟨q_pre_blind, va_recv hK hPi (ci := 11) (q0 := 0) rfl (q_w_at eH), fun U hU hWm => ⟨rfl, by rw [hU], by rw [hU]; exact hPi, va_K.moved hWm.alike hK, ⟨fun i j hi hj => hD.1 i j hi hj, fun _ _ => trivial⟩, qE_go (hE g hg) hSi hFc hU hWm⟩⟩ rfl rfl hls.1 rfl (lv_room (Nat.le_of_ble_eq_true rfl)) dL_law_1329 ⟨by show c0 + 43 * n + 43 ≤ 600000; omega, by show s0 + 1181 * n + 1181 ≤ 7302250; omega⟩) hSi (fun q _ h => hFc q h) hFc (fun r u t H1 locs1 ht hvm hpost hB hz1 hk1 hS1 => ?_)
      obtain ⟨g', w2⟩ := u
      obtain ⟨rfl, hPN2, hgl, hg9, okw2, hD2⟩ := hpost
      have hgl : ∀ i : Nat, i < w'.length → g' i = g i := hgl
      have hg9 : ∀ i : Nat, 900 ≤ i → g' i = g i := hg9
      rw [ht] at hB
      have hl2 : lv_has ls 4 (q_lv g' (lvI i)) := by
        have e9 : q_lv g' (lvI i) = q_lv g (lvI i) := by
          show [(0, Value.ref (g' 900)), (1, Value.ref (g' 0)), (2, Value.ref (g' 85)), (3, Value.int (Int32.ofInt i))] = [(0, Value.ref (g 900)), (1, Value.ref (g 0)), (2, Value.ref (g 85)), (3, Value.int (Int32.ofInt i))]
          rw [hg9 900 (Nat.le_refl _), hgl 0 (by rw [hlen]; omega), hgl 85 (by rw [hlen]; omega)]
        rw [e9]; exact hls
      rw [show c0 + 43 * n + 43 = c0 + 43 * (n + 1) by omega, show s0 + 1181 * n + 1181 = s0 + 1181 * (n + 1) by omega]
      exact law_img2 hL C0 hK hhi hE hc0 (n + 1) g' w2 H1 locs1 ls i 1 z ⟨hPN2, fun j hj => by rw [hg9 j hj]; exact hg j hj, ⟨hD2.1, fun j hj => hFc _ (hD2.2 j hj)⟩, hB, hS1, okw2⟩ hl2 h0 h1 hz (Or.inl ⟨rfl, hz2⟩) kk
    · have hne : ∀ x0 x1 x2 : Option Nat, w'[44]? = some (.inl (8, 3, .inr (.inr [x0, x1, x2]))) → 0 ≤ z ∧ z ≤ 2 → ¬ [x0, x1, x2].getD z.toNat none = none := by
        intro x0 x1 x2 hx0 h2 h3
        rw [eI] at hx0
        cases hx0
        exact hm ⟨h2, h3⟩
      refine sN_callN (np := 2) (ci := 11) (K := fun lv st w2 => lv = lvI i ∧ PN n w2 ∧ ∃ r : Int, st = [q1 r] ∧ (r = 1 ∧ (0 ≤ z ∧ z ≤ 2) ∨ r = 0 ∧ ¬ (0 ≤ z ∧ z ≤ 2))) X hc1 (mN_image0 l n) tw_980 tw_981 tw_982 tw_120 tw_983 rfl (by decide +kernel) ⟨by decide, by decide⟩ (spI_mo n) dL_law_1329 ?_ H locs ls (lvI i) [q1 z, q2 0] w' ⟨0, [q1 z], [], _, rfl, rfl, eH, Nat.le_of_ble_eq_true rfl, ⟨z, hPN, rfl, hne, fun r w2 a1 a2 a3 _ => ⟨rfl, a1, r, rfl, a3⟩⟩⟩ hPi hWi hSi hls (okl_i ⟨by omega, by omega⟩) oks okwi
      intro H locs ls lv st w2 h hP hW hS hl okl oks okw
      obtain ⟨rfl, hPN2, r, rfl, hr⟩ := h
      exact law_img2 hL C0 hK hhi hE hc0 n g w2 H locs ls i r z ⟨hPN2, hg, by rw [hW]; exact hD, hP, hS, okw⟩ hl h0 h1 hz hr kk
  exact sA_1323 X hX hbl hbA hi9 hJ H locs ls (lvI i) [] w (vA_1323 ⟨h0, h1, hL⟩ (fun z hz => ⟨rfl, rfl, rfl, by rw [hz]⟩)) hP rfl hS hl (okl_i ⟨by omega, by omega⟩) (fun v hv => by cases hv) okw
end LI9
