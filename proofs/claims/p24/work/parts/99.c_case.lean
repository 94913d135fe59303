theorem q_up_up {f : Nat → Int} {i : Nat} {v v' : Int} : q_up (q_up f i v) i v' = q_up f i v' := by
  funext j
  unfold q_up
  split
  · rfl
  · rfl
def imX (γ : qG) (n : Nat) (a z : Int) (γ1 : qG) : Prop := imC γ a z γ1 ∨ (z = 1 ∧ (0 ≤ a ∧ a ≤ 2) ∧ γ.2.2 a.toNat = none ∧ ∃ G : Nat → Nat → Int32, cpG 1 n (gNew γ n a G) γ1)
theorem REL_N {F U : Nat → Nat → Int} {E : Nat → Option Nat} {n : Nat} {G : Nat → Nat → Int32} (hR : REL (F, U, E)) (hI : ∀ j : Nat, j < 3 → IMk n (E j)) : REL (FN F (111 + 43 * n) G, UN U (111 + 43 * n), E) := by
  have hM : ∀ i : Nat, EqM F i (FN F (111 + 43 * n) G) i := fun i => by
    have e : ∀ p : Nat, p < 111 → FN F (111 + 43 * n) G p = F p := fun p hp => FN_l (by omega)
    unfold EqM
    rw [e 86 (by decide), e 87 (by decide), e 88 (by decide), e 89 (by decide), e 90 (by decide), e 91 (by decide), e 92 (by decide), e 93 (by decide), e 94 (by decide)]
    exact ⟨⟨rfl, rfl, rfl⟩, fun _ _ => rfl, fun _ _ => rfl, fun _ _ => rfl, fun _ _ => rfl, fun _ _ => rfl, fun _ _ => rfl⟩
  refine ⟨RB_tr (EqC_of (fun q h1 h2 => ⟨FN_l (by omega), UN_l (by omega)⟩)) (hM 0) hR.1, fun j hj => ?_, hR.2.2⟩
  rcases hR.2.1 j hj with ⟨x1, x2⟩ | ⟨q, x1, x2, x3⟩
  · exact Or.inl ⟨x1, by show FN F (111 + 43 * n) G 110 j = 0; rw [FN_l (by omega)]; exact x2⟩
  · have hqn : q < n := by
      rcases hI j hj with h9 | ⟨q', h8, h9⟩
      · have x1 : E j = some (111 + 43 * q) := x1
        rw [h9] at x1; cases x1
      · have x1 : E j = some (111 + 43 * q) := x1
        rw [h9] at x1
        have := Option.some.inj x1
        omega
    exact Or.inr ⟨q, x1, by show ¬ FN F (111 + 43 * n) G 110 j = 0; rw [FN_l (by omega)]; exact x2, RB_tr (EqC_of (fun p h1 h2 => ⟨FN_l (by omega), UN_l (by omega)⟩)) (hM (j + 1)) x3⟩
theorem RLIm {γ γ1 γ2 : qG} {n : Nat} {a z1 z2 : Int} (hR : REL γ) (hI : IMk n (γ.2.2 0) ∧ IMk n (γ.2.2 1) ∧ IMk n (γ.2.2 2)) (h1 : imX γ n a z1 γ1) (h2 : rlImM γ1 [q2 85, q1 a] (some (q1 z2)) γ2) : REL γ2 ∧ z1 = z2 := by
  have hI3 : ∀ i : Nat, i < 3 → IMk n (γ.2.2 i) := fun i hi => by
    rcases (show i = 0 ∨ i = 1 ∨ i = 2 by omega) with rfl | rfl | rfl
    · exact hI.1
    · exact hI.2.1
    · exact hI.2.2
  obtain ⟨hE9, b2, y2, d2, e2, f2, g2, u2⟩ := h2
  cases d2
  cases e2
  rcases h1 with h1 | ⟨rfl, ha, hno, G, hc⟩
  · rcases h1 with ⟨rfl, ha, j, hj, hc⟩ | ⟨rfl, ha, rfl⟩
    · rcases f2 with ⟨rfl, -, hk, hM⟩ | ⟨rfl, hn, -⟩
      · obtain ⟨hc0, hc1⟩ := hc
        have h9 := REL_im (E := γ.2.2) (E1 := γ2.2.2) ha (show REL (γ.1, γ.2.1, γ.2.2) from hR) hc1 hM g2 hk (fun i hi hn => by
          have hd := hR.2.2 i a.toNat hi (by omega) hn
          unfold imD at hd
          rw [hj] at hd
          exact hd) (by rw [hE9, hc0]; exact hj) (fun i _ _ => by rw [hE9, hc0])
        refine ⟨?_, rfl⟩
        show REL (γ2.1, γ2.2.1, γ2.2.2)
        rw [u2]
        exact h9
      · exact absurd ha hn
    · rcases f2 with ⟨rfl, hn, -⟩ | ⟨rfl, -, hk, h86, h87, h88, h89, h90, h91, h92, h93, h94⟩
      · exact absurd hn ha
      · refine ⟨?_, rfl⟩
        have eF : γ2.1 = γ1.1 := by
          funext p
          by_cases c : 86 ≤ p ∧ p ≤ 94
          · rcases (show p = 86 ∨ p = 87 ∨ p = 88 ∨ p = 89 ∨ p = 90 ∨ p = 91 ∨ p = 92 ∨ p = 93 ∨ p = 94 by omega) with rfl | rfl | rfl | rfl | rfl | rfl | rfl | rfl | rfl
            · exact h86
            · exact h87
            · exact h88
            · exact h89
            · exact h90
            · exact h91
            · exact h92
            · exact h93
            · exact h94
          · by_cases c2 : p = 110
            · subst c2; exact hk
            · exact g2 p c c2
        show REL (γ2.1, γ2.2.1, γ2.2.2)
        rw [eF, u2, hE9]
        exact hR
  · rcases f2 with ⟨rfl, -, hk, hM⟩ | ⟨rfl, hn, -⟩
    · obtain ⟨hc0, hc1⟩ := hc
      have h9 := REL_im (E := γ.2.2) (E1 := γ2.2.2) (q := n) ha (REL_N (n := n) (G := G) (show REL (γ.1, γ.2.1, γ.2.2) from hR) hI3) hc1 hM g2 hk (fun i hi hn => by
        rcases hI3 i hi with hk | ⟨q, hq, hk⟩
        · exact Or.inl hk
        · right
          rw [hk]
          intro h9
          have := Option.some.inj h9
          omega) (by rw [hE9, hc0]; exact upO_s) (fun i _ hn => by rw [hE9, hc0]; exact upO_n hn)
      refine ⟨?_, rfl⟩
      show REL (γ2.1, γ2.2.1, γ2.2.2)
      rw [u2]
      exact h9
    · exact absurd ha hn
theorem okIm {γ γ1 : qG} {n : Nat} {a z : Int} (hO : OKR γ.1) (h1 : imX γ n a z γ1) : OKR γ1.1 := by
  rcases h1 with h1 | ⟨-, -, -, G, hc⟩
  · rcases h1 with ⟨-, -, j, -, hc⟩ | ⟨-, -, rfl⟩
    · have h9 : EqT (111 + 43 * j) 1 γ.1 γ.2.1 γ1.1 γ1.2.1 := hc.2
      exact OKR_eq hO (fun p h1 h2 => (h9.1 p (by omega)).1)
    · exact hO
  · have h9 : EqT (111 + 43 * n) 1 (FN γ.1 (111 + 43 * n) G) (UN γ.2.1 (111 + 43 * n)) γ1.1 γ1.2.1 := hc.2
    exact OKR_eq hO (fun p h1 h2 => ((h9.1 p (by omega)).1).trans (FN_l (by omega)))
theorem RL2Im {γ γ1 γ2 : qG} {n : Nat} {a z1 z2 : Int} (hR : REL2 γ) (hI : IMk n (γ.2.2 0) ∧ IMk n (γ.2.2 1) ∧ IMk n (γ.2.2 2)) (h1 : imX γ n a z1 γ1) (h2 : rlImM γ1 [q2 85, q1 a] (some (q1 z2)) γ2) : REL2 γ2 ∧ z1 = z2 := by
  obtain ⟨h8, h9⟩ := RLIm hR.1 hI h1 h2
  exact ⟨⟨h8, okImM (okIm hR.2 h1) h2⟩, h9⟩
set_option maxRecDepth 100000 in
theorem wsI_lawT : GoodIn lw_tbl ([.classLink RX11 7 RX8, .instantiable RX8 9] ++ ws_c_Tinit) := goodIn_r (big := lw_tbl) _ (179 :: 180 :: 183 :: 184 :: 177 :: 178 :: 275 :: 349 :: 276 :: 351 :: 185 :: 187 :: 152 :: 188 :: 189 :: 190 :: 191 :: 204 :: 212 :: 215 :: 219 :: 221 :: 224 :: 227 :: 192 :: 193 :: 194 :: 195 :: 196 :: 197 :: 153 :: 198 :: 201 :: 203 :: 202 :: 154 :: 233 :: 238 :: 240 :: 243 :: 247 :: 353 :: 277 :: 279 :: 155 :: 281 :: 282 :: 283 :: 284 :: 286 :: 288 :: 290 :: 354 :: 307 :: 309 :: 156 :: 311 :: 312 :: 313 :: 314 :: 355 :: 327 :: 329 :: 157 :: 331 :: 332 :: 333 :: 334 :: 336 :: 356 :: 361 :: 250 :: 252 :: 254 :: 256 :: 258 :: 260 :: 262 :: 264 :: 266 :: 268 :: 270 :: 272 :: 322 :: 324 :: 342 :: 344 :: 346 :: 363 :: 365 :: 367 :: 369 :: 371 :: 373 :: 375 :: 377 :: 379 :: 296 :: 298 :: 300 :: 302 :: 304 :: []) (by decide +kernel) (by decide +kernel)
theorem wsI_law : GoodIn lw_tbl (wsV R_law 130 RX11 yX11_image wsI) := by
  intro w hw
  unfold wsV at hw
  rcases List.mem_append.mp hw with h1 | h1
  · simp only [List.mem_cons, List.not_mem_nil, or_false] at h1
    rcases h1 with rfl | rfl | rfl | rfl
    · exact ⟨TB_in _ tw_980, TB_ok tw_980⟩
    · exact ⟨TB_in _ tw_981, TB_ok tw_981⟩
    · exact ⟨TB_in _ tw_982, TB_ok tw_982⟩
    · exact ⟨TB_in _ tw_120, TB_ok tw_120⟩
  · rcases List.mem_cons.mp h1 with h2 | h2
    · rw [h2]; exact ⟨TB_in _ tw_983, TB_ok tw_983⟩
    · rcases List.mem_append.mp h2 with h3 | h3
      · exact ⟨TB_in _ h3, TB_ok h3⟩
      · exact wsI_lawT w h3
theorem okl_i {i : Int} (h : -2147483648 ≤ i ∧ i ≤ 2147483647) : q_okl (lvI i) := by
  intro q hq
  simp only [lvI, List.mem_cons, List.not_mem_nil, or_false] at hq
  rcases hq with rfl | rfl | rfl | rfl
  · exact trivial
  · exact trivial
  · exact trivial
  · exact h
section LI9
variable {p : Program} {l : Launch} {e : Env} {s : State} {m : MethodId} {below : List Frame} {meth : Method} {c : Code} {b L : Nat} {xs : Nat → Int32}
set_option maxHeartbeats 2000000 in
theorem law_img2 (hL : L ≤ 3072) (C0 : lw_At p s m meth c b L xs) {dC : Nat → ClassId} {dI : Nat → Nat → Nat} {k : Nat → ClassId} {hi : Nat → Nat} (hK : va_K (dC, dI) vwCl (tyL k) s) (hhi : hi 900 = b) (hE : ∀ g : Nat → Nat, (∀ i : Nat, 900 ≤ i → g i = hi i) → qE g (aA s) s) {c0 s0 : Nat} (hc0 : c0 + 129 ≤ 600000 ∧ s0 + 3543 ≤ 7302250)
    (γ : qG) (n : Nat) (g : Nat → Nat) (w : qW) (H : Heap) (locs : List Loc) (ls : Array Slot) (i r z : Int) (hF : ∀ (a2 z2 : Int) (γ2 : qG), z = a2 → rlImM γ [q2 85, q1 a2] (some (q1 z2)) γ2 → REL2 γ2 ∧ r = z2) (hPN : PN γ n w) (hg : ∀ j : Nat, 900 ≤ j → g j = hi j) (hD : q_D (aA s) g w.length) (hP : va_P (dC, dI) vwCl (q_w k g w) H) (hS : va_S (aA s) s.heap H locs) (okw : q_okw w) (hl : lv_has ls 4 (q_lv g (lvI i))) (h0 : 0 ≤ i) (h1 : i + 6 ≤ L) (hz : z = (xs (i + 1).toNat).toInt) (hr : r = 0 ∨ r = 1)
    (kk : ∀ (γ' : qG) (n' : Nat) (g' : Nat → Nat) (w' : qW) (H' : Heap) (locs' : List Loc) (ls' : Array Slot), LIv s dC dI k hi γ' n' g' w' H' locs' → lv_has ls' 4 (q_lv g' (lvI (i + 6))) → W p l e room_1 s m #[Value.ref b] below meth c H' locs' (c0 + 43 * n') (s0 + 1181 * n') (lw_Z below #[Value.ref b] s) (F0 m 18 ls' [])) : W p l e room_1 s m #[Value.ref b] below meth c H locs (c0 + 43 * n) (s0 + 1181 * n) (lw_Z below #[Value.ref b] s) (F0 m 1332 ls [.int (Int32.ofInt r)]) := by
  have hn3 := PN_3 hPN
  obtain ⟨hx, hb, hret, hml, hown, hts, hX, hbl, hlocks, hgv⟩ := id C0
  have hbA : ¬ aA s b := fun h => absurd h (Nat.not_le.mpr hbl)
  have X : q_X p room_1 s m #[Value.ref b] meth c code 4 w.length 10 231 R_law ret dC dI k g (aA s) := ⟨hx, hb, hml, hown, fun w' h' => hts w' (TB_in w' h'), hK, fun q h => h, hE g hg, by decide, by decide, hlocks, hret, hD⟩
  have hi9 : g 900 = b := by rw [hg 900 (Nat.le_refl _)]; exact hhi
  have hJ : ∀ d : Nat, q_SdN (c0 + 43 * n) (s0 + 1181 * n) p l e room_1 s m #[Value.ref b] below meth c 4 w.length dC dI k g (aA s) (lw_Z below #[Value.ref b] s) d (x_cut [0, 1, 2, 3] ((fun d vs st w' => d = 18 ∧ st = [] ∧ (∃ γ' : qG, REL2 γ' ∧ PN γ' n w') ∧ vs = [q2 900, q2 0, q2 85, q1 (i + 6)]) d)) := by
    intro d H locs ls lv st w' h hP hW hS hl okl oks okw
    unfold x_cut at h
    split at h
    case h_2 => exact h.elim
    rename_i vs hvs
    obtain ⟨rfl, rfl, ⟨γ', hR', hPN'⟩, rfl⟩ := h
    have hls : lv_has ls 4 (q_lv g (([0, 1, 2, 3] : List Nat).zip [q2 900, q2 0, q2 85, q1 (i + 6)])) := ⟨hl.1, hl.2.1, fun q hq => by
      obtain ⟨x, hx, rfl⟩ := List.mem_map.mp hq
      exact hl.2.2 _ (List.mem_map.mpr ⟨x, q_pk_mem hvs x hx, rfl⟩)⟩
    exact kk γ' n g w' H locs ls ⟨hR', hPN', hg, by rw [hW]; exact hD, hP, hS, okw⟩ hls
  have okr : q_oks [q1 r] := by
    intro v hv
    simp only [List.mem_cons, List.not_mem_nil, or_false] at hv
    subst hv
    exact ⟨by omega, by omega⟩
  exact s_law_1332 (n := n) X ⟨by show c0 + 43 * n + 0 ≤ 600000; omega, by show s0 + 1181 * n + 0 ≤ 7302250; omega⟩ hL hX hbl hbA hi9 hJ H locs ls (lvI i) [q1 r] w (v_img2 ⟨h0, h1, hL⟩ hz hF hPN (fun j γ' w' e1 hw' hr' => ⟨rfl, rfl, ⟨γ', hr', hw'⟩, by rw [e1]⟩)) hP rfl hS hl (okl_i ⟨by omega, by omega⟩) okr okw
theorem FGv_0 : FGv (fun _ => 0) := fun _ _ => ⟨by show (0 : Int) ≤ (0 : Int32).toInt; decide, by show (0 : Int32).toInt ≤ 9; decide⟩
set_option maxHeartbeats 4000000 in
set_option maxRecDepth 100000 in
theorem law_img (hL : L ≤ 3072) (C0 : lw_At p s m meth c b L xs) {dC : Nat → ClassId} {dI : Nat → Nat → Nat} {k : Nat → ClassId} {hi : Nat → Nat} (hK : va_K (dC, dI) vwCl (tyL k) s) (hhi : hi 900 = b) (hE : ∀ g : Nat → Nat, (∀ i : Nat, 900 ≤ i → g i = hi i) → qE g (aA s) s) {c0 s0 : Nat} (hc0 : c0 + 129 ≤ 600000 ∧ s0 + 3543 ≤ 7302250) :
    ∀ (γ : qG) (n : Nat) (g : Nat → Nat) (w : qW) (H : Heap) (locs : List Loc) (ls : Array Slot) (i : Int), LIv s dC dI k hi γ n g w H locs → lv_has ls 4 (q_lv g (lvI i)) → 0 ≤ i → i + 6 ≤ L → (∀ (γ' : qG) (n' : Nat) (g' : Nat → Nat) (w' : qW) (H' : Heap) (locs' : List Loc) (ls' : Array Slot), LIv s dC dI k hi γ' n' g' w' H' locs' → lv_has ls' 4 (q_lv g' (lvI (i + 6))) → W p l e room_1 s m #[Value.ref b] below meth c H' locs' (c0 + 43 * n') (s0 + 1181 * n') (lw_Z below #[Value.ref b] s) (F0 m 18 ls' [])) → W p l e room_1 s m #[Value.ref b] below meth c H locs (c0 + 43 * n) (s0 + 1181 * n) (lw_Z below #[Value.ref b] s) (F0 m 1323 ls []) := by
  intro γ n g w H locs ls i hV hl h0 h1 kk
  obtain ⟨hR, hPN, hg, hD, hP, hS, okw⟩ := id hV
  have hn3 := PN_3 hPN
  obtain ⟨hx, hb, hret, hml, hown, hts, hX, hbl, hlocks, hgv⟩ := id C0
  have hbA : ¬ aA s b := fun h => absurd h (Nat.not_le.mpr hbl)
  have X : q_X p room_1 s m #[Value.ref b] meth c code 4 w.length 10 231 R_law ret dC dI k g (aA s) := ⟨hx, hb, hml, hown, fun w' h' => hts w' (TB_in w' h'), hK, fun q h => h, hE g hg, by decide, by decide, hlocks, hret, hD⟩
  have hi9 : g 900 = b := by rw [hg 900 (Nat.le_refl _)]; exact hhi
  have hc1 : c0 + 43 * n + 0 ≤ room_1.cells ∧ s0 + 1181 * n + 0 ≤ room_1.slots := ⟨by show c0 + 43 * n + 0 ≤ 600000; omega, by show s0 + 1181 * n + 0 ≤ 7302250; omega⟩
  have hJ : ∀ d : Nat, q_SdN (c0 + 43 * n) (s0 + 1181 * n) p l e room_1 s m #[Value.ref b] below meth c 4 w.length dC dI k g (aA s) (lw_Z below #[Value.ref b] s) d (x_cut [0, 1, 2, 3] ((fun d vs st w' => d = 1329 ∧ vs = [q2 900, q2 0, q2 85, q1 i] ∧ w' = w ∧ st = [q1 (xs (i + 1).toNat).toInt, q2 0]) d)) := by
    intro d H locs ls lv st w' h hPi hWi hSi hl okl oks okwi
    unfold x_cut at h
    split at h
    case h_2 => exact h.elim
    rename_i vs hvs
    obtain ⟨rfl, rfl, rfl, rfl⟩ := h
    have hls : lv_has ls 4 (q_lv g (lvI i)) := ⟨hl.1, hl.2.1, fun q hq => by
      obtain ⟨x, hx, rfl⟩ := List.mem_map.mp hq
      exact hl.2.2 _ (List.mem_map.mpr ⟨x, q_pk_mem hvs x hx, rfl⟩)⟩
    obtain ⟨z, hz⟩ : ∃ z : Int, z = (xs (i + 1).toNat).toInt := ⟨_, rfl⟩
    rw [← hz] at oks ⊢
    obtain ⟨hPW, hlen, ⟨eI, k0, k1, k2, -⟩, -⟩ := id hPN
    obtain ⟨_, eH, rfl⟩ := hPW 0 _ rfl
    by_cases hm : (0 ≤ z ∧ z ≤ 2) ∧ γ.2.2 z.toNat = none
    · obtain ⟨hz2, hm⟩ := hm
      have hn2 := (PN_new (G := fun _ _ => 0) hPN hz2 hm FGv_0 FGv_0).1
      have hDv := q_D_va (k := k) (w := w') hD
      have hFc : ∀ q, va_A (q_w k g w') H.size q → aA s q := by
        rintro q (⟨j, e0, he0⟩ | hsz)
        · exact hDv.2 j _ he0
        · exact Nat.le_trans hSi.1 hsz
      show W p l e room_1 s m #[Value.ref b] below meth c H locs (c0 + 43 * n) (s0 + 1181 * n) (lw_Z below #[Value.ref b] s) (F0 m 1329 ls [.int (Int32.ofInt z), .ref (g 0)])
      refine va_calli (va_runV (Ts := lw_tbl) (own := R_law) (nL := 4) (As := [.int (Int32.ofInt z)]) (b := g 0) (rest := []) ⟨hx, hb, hml, hown, hts⟩ (mI_new l γ n dC dI k g z w' H.size hPN hz2 hm okwi) (cwV 1 hts wsI_law rfl rfl rfl (by decide +kernel) ⟨Nat.le_of_ble_eq_true rfl, Nat.le_of_ble_eq_true rfl⟩) ⟨q_pre_blind, va_recv hK hPi (ci := 11) (q0 := 0) rfl (q_w_at eH), fun U hU hWm => ⟨rfl, by rw [hU], by rw [hU]; exact hPi, va_K.moved hWm.alike hK, ⟨fun i j hi hj => hD.1 i j hi hj, fun _ _ => trivial⟩, qE_go (hE g hg) hSi hFc hU hWm⟩⟩ rfl rfl hls.1 rfl (lv_room (Nat.le_of_ble_eq_true rfl)) dL_law_1329 ⟨by show c0 + 43 * n + 43 ≤ 600000; omega, by show s0 + 1181 * n + 1181 ≤ 7302250; omega⟩) hSi (fun q _ h => hFc q h) hFc (fun r u t H1 locs1 ht hvm hpost hB hz1 hk1 hS1 => ?_)
      obtain ⟨g', w2⟩ := u
      obtain ⟨rfl, ⟨G, γ1, hPN2, hc2⟩, hgl, hg9, okw2, hD2⟩ := hpost
      have hgl : ∀ i : Nat, i < w'.length → g' i = g i := hgl
      have hg9 : ∀ i : Nat, 900 ≤ i → g' i = g i := hg9
      rw [ht] at hB
      have hl2 : lv_has ls 4 (q_lv g' (lvI i)) := by
        have e9 : q_lv g' (lvI i) = q_lv g (lvI i) := by
          show [(0, Value.ref (g' 900)), (1, Value.ref (g' 0)), (2, Value.ref (g' 85)), (3, Value.int (Int32.ofInt i))] = [(0, Value.ref (g 900)), (1, Value.ref (g 0)), (2, Value.ref (g 85)), (3, Value.int (Int32.ofInt i))]
          rw [hg9 900 (Nat.le_refl _), hgl 0 (by rw [hlen]; omega), hgl 85 (by rw [hlen]; omega)]
        rw [e9]; exact hls
      rw [show c0 + 43 * n + 43 = c0 + 43 * (n + 1) by omega, show s0 + 1181 * n + 1181 = s0 + 1181 * (n + 1) by omega]
      exact law_img2 hL C0 hK hhi hE hc0 γ1 (n + 1) g' w2 H1 locs1 ls i 1 z (fun a2 z2 γ2 e9 hr => by subst e9; exact RL2Im (n := n) hR ⟨k0, k1, k2⟩ (Or.inr ⟨rfl, hz2, hm, G, hc2⟩) hr) hPN2 (fun j hj => by rw [hg9 j hj]; exact hg j hj) ⟨hD2.1, fun j hj => hFc _ (hD2.2 j hj)⟩ hB hS1 okw2 hl2 h0 h1 hz (Or.inr rfl) kk
    · refine sN_callN (np := 2) (ci := 11) (K := fun lv st w2 => lv = lvI i ∧ ∃ (γ1 : qG) (r : Int), PN γ1 n w2 ∧ st = [q1 r] ∧ imC γ z r γ1) X hc1 (mN_image0 l n) tw_980 tw_981 tw_982 tw_120 tw_983 rfl (by decide +kernel) ⟨by decide, by decide⟩ (spI_mo n) dL_law_1329 ?_ H locs ls (lvI i) [q1 z, q2 0] w' ⟨0, [q1 z], [], _, rfl, rfl, eH, Nat.le_of_ble_eq_true rfl, ⟨γ, z, hPN, rfl, fun h2 h3 => hm ⟨h2, h3⟩, fun r γ1 w2 a1 a2 a3 _ => ⟨rfl, γ1, r, a1, rfl, a3⟩⟩⟩ hPi hWi hSi hls (okl_i ⟨by omega, by omega⟩) oks okwi
      intro H locs ls lv st w2 h hP hW hS hl okl oks okw
      obtain ⟨rfl, γ1, r, hPN2, rfl, hr⟩ := h
      have hr01 : r = 0 ∨ r = 1 := by
        rcases hr with ⟨rfl, -⟩ | ⟨rfl, -⟩
        · exact Or.inr rfl
        · exact Or.inl rfl
      exact law_img2 hL C0 hK hhi hE hc0 γ1 n g w2 H locs ls i r z (fun a2 z2 γ2 e9 hr2 => by subst e9; exact RL2Im (n := n) hR ⟨k0, k1, k2⟩ (Or.inl hr) hr2) hPN2 hg (by rw [hW]; exact hD) hP hS okw hl h0 h1 hz hr01 kk
  exact s_law_1323 (n := n) X hc1 hL hX hbl hbA hi9 hJ H locs ls (lvI i) [] w (v_img1 ⟨h0, h1, hL⟩ (fun z hz => ⟨rfl, rfl, rfl, by rw [hz]⟩)) hP rfl hS hl (okl_i ⟨by omega, by omega⟩) (fun v hv => by cases hv) okw
end LI9
