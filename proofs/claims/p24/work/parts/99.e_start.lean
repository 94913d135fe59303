theorem dL_law_0 : decode code 0 = .ok (.new 7, 3) := by decide +kernel
theorem dL_law_3 : decode code 3 = .ok (.dup, 1) := by decide +kernel
theorem dL_law_4 : decode code 4 = .ok (.invokespecial 9, 3) := by decide +kernel
theorem dL_law_7 : decode code 7 = .ok (.astore_n 1, 1) := by decide +kernel
theorem dL_law_8 : decode code 8 = .ok (.new 10, 3) := by decide +kernel
theorem dL_law_11 : decode code 11 = .ok (.dup, 1) := by decide +kernel
theorem dL_law_12 : decode code 12 = .ok (.invokespecial 12, 3) := by decide +kernel
theorem dL_law_15 : decode code 15 = .ok (.astore_n 2, 1) := by decide +kernel
theorem dL_law_16 : decode code 16 = .ok (.iconst 0, 1) := by decide +kernel
theorem dL_law_17 : decode code 17 = .ok (.istore_n 3, 1) := by decide +kernel
set_option maxHeartbeats 8000000 in
set_option maxRecDepth 100000 in
theorem whole_start {p : Program} {e : Env} {s : State} {m : MethodId} {below : List Frame} {meth : Method} {c : Code} (l : Launch) {b L : Nat} {xs : Nat → Int32} (hL : L ≤ 3072) (C0 : lw_At p s m meth c b L xs) : W p l e room_1 s m #[Value.ref b] below meth c s.heap [] 0 0 (lw_Z below #[Value.ref b] s) (entryFrame m ([Value.ref b] : List Value).toArray 4) := by
  obtain ⟨hx, hb, hr, hml, hown, hts, hX, hbl, hlocks, hgv⟩ := id C0
  obtain ⟨dC, dI, k, tF, hi, hK, -, hhi, hE⟩ := law_qE hts hgv
  have hE0 : qE hi (aA s) s := hE hi (fun _ _ => rfl)
  have hA : ∀ q : Nat, s.heap.size ≤ q → aA s q := fun q h => h
  have hS : va_S (aA s) s.heap s.heap [] := va_S.rf
  have hP : va_P (dC, dI) vwCl [] s.heap := zz_P0
  have hD : va_D (aA s) [] := zz_D0
  have hl := lv_entry ([.ref b]) (n := 4) (Nat.le_of_ble_eq_true rfl)
  rw [lg_entry_eq]
  generalize (lg_sl ([.ref b]) ++ List.replicate (4 - (lg_sl ([.ref b])).length) Slot.unset).toArray = ls at hl ⊢
  have hl : lv_has ls 4 [(0, .ref b)] := hl
  refine va_new (ci := 11) (fs := [.null, .null, .null, .null, .null, .null, .null, .null]) (C := RX11) (T := TX11) (N := 8) hx hb hts in_law_11 tyX11 tyX11_ok hown (hts (.classLink R_law 7 RX11) (List.mem_of_getElem? (i := 171) (by decide +kernel))) (hts (.instantiable RX11 8) (List.mem_of_getElem? (i := 172) (by decide +kernel))) (hts (.initialized RX11) (List.mem_of_getElem? (i := 150) (by decide +kernel))) hK hP hD hS hA rfl (df_X11) (by decide +kernel) (by decide +kernel) dL_law_0 (fun q1 H1 hP1 hD1 hS1 => ?_)
  refine lv_dup hx hb dL_law_3 rfl ?_
  have hPc := P_last hP1
  have hDc := D_last hD1
  have hFc := F_last hD1 hS1 hA
  refine va_callv (va_runI (As := []) (rest := [.ref q1]) ⟨hx, hb, hml, hown, hts⟩ (c_Hinit l dC dI k q1 (hi 1000) H1.size) (cwI 0 hts glaw_c_Hinit rfl rfl rfl (hts (.initialized RX11) (List.mem_of_getElem? (i := 150) (by decide +kernel))) (hts (.methodLink R_law 9 yX11_init) (List.mem_of_getElem? (i := 173) (by decide +kernel))) (hts (.instanceMethod yX11_init) (List.mem_of_getElem? (i := 174) (by decide +kernel))) rfl (by decide +kernel) ⟨Nat.le_of_ble_eq_true rfl, Nat.le_of_ble_eq_true rfl⟩) ⟨prF_blind, fun U hU hW => ⟨rfl, prF_go hPc hDc hK (ew_qE hE0) hS1 hFc hU hW⟩⟩ rfl rfl hl.1 rfl (lv_room (Nat.le_of_ble_eq_true rfl)) dL_law_4 ⟨by decide +kernel, by decide +kernel⟩) hS1 (fun q _ h => hFc q h) hFc (fun u t H2 locs2 ht hvm hw hB hz1 hk1 hS2 => ?_)
  obtain ⟨a, G⟩ := u
  obtain ⟨h13, h23, h104⟩ : FGv (G 13) ∧ FGv (G 23) ∧ FGv (G 104) := hw
  obtain ⟨hPH, hDH⟩ := hB
  rw [ht] at hPH
  have hPH : va_P (dC, dI) vwCl (HCv k q1 a G) H2 := hPH
  have hDH : va_D (va_A [(q1, .inr (11, [.null, .null, .null, .null, .null, .null, .null, .null]))] H1.size) (HCv k q1 a G) := hDH
  refine lv_astore_n (lv' := [(1, .ref q1), (0, .ref b)]) hx hb dL_law_7 rfl hl (by decide) rfl (fun ls hl => ?_)
  refine va_new (ci := 12) (fs := [.int 0, .null, .null, .null, .null, .null, .null, .null, .null, .null, .int 0, .int 0, .int 0, .int 0, .int 0, .long 0, .int 0, .int 0, .int 0, .null, .null, .int 0, .int 0, .int 0, .int 0, .int 0, .int 0, .null, .int 0, .null, .null, .null, .null, .int 0, .null, .int 0, .null, .null, .null, .null, .null, .int 0, .null, .null, .null]) (C := RX12) (T := TX12) (N := 45) hx hb hts in_law_12 tyX12 tyX12_ok hown (hts (.classLink R_law 10 RX12) (List.mem_of_getElem? (i := 1325) (by decide +kernel))) (hts (.instantiable RX12 45) (List.mem_of_getElem? (i := 1326) (by decide +kernel))) (hts (.initialized RX12) (List.mem_of_getElem? (i := 164) (by decide +kernel))) hK hPH (hDH.weaken (fun _ _ _ h => hFc _ h)) hS2 hA rfl (df_X12) (by decide +kernel) (by decide +kernel) dL_law_8 (fun q4 H3 hP3 hD3 hS3 => ?_)
  refine lv_dup hx hb dL_law_11 rfl ?_
  have hPd := P_last hP3
  have hDd := D_last hD3
  have hFd := F_last hD3 hS3 hA
  refine va_callv (va_runI (As := []) (rest := [.ref q4]) ⟨hx, hb, hml, hown, hts⟩ (m_init l dC dI k q4 H3.size) (cwI 0 hts glaw_m_init rfl rfl rfl (hts (.initialized RX12) (List.mem_of_getElem? (i := 164) (by decide +kernel))) (hts (.methodLink R_law 12 yX12_init) (List.mem_of_getElem? (i := 1327) (by decide +kernel))) (hts (.instanceMethod yX12_init) (List.mem_of_getElem? (i := 1328) (by decide +kernel))) rfl (by decide +kernel) ⟨Nat.le_of_ble_eq_true rfl, Nat.le_of_ble_eq_true rfl⟩) ⟨prW_blind, fun U hU hW => ⟨rfl, prW_go hPd hDd hK hU hW⟩⟩ rfl rfl hl.1 rfl (lv_room (Nat.le_of_ble_eq_true rfl)) dL_law_12 ⟨by decide +kernel, by decide +kernel⟩) hS3 (fun q _ h => hFd q h) hFd (fun u t H4 locs4 ht hvm hw hB hz1 hk1 hS4 => ?_)
  obtain ⟨am, rfl⟩ : ∃ z, z = u := ⟨_, rfl⟩
  obtain ⟨hPM, hDM⟩ := hB
  rw [ht] at hPM
  have hPM : va_P (dC, dI) vwCl (MCv k q4 am) H4 := hPM
  have hDM : va_D (va_A [(q4, .inr (12, [.int 0, .null, .null, .null, .null, .null, .null, .null, .null, .null, .int 0, .int 0, .int 0, .int 0, .int 0, .long 0, .int 0, .int 0, .int 0, .null, .null, .int 0, .int 0, .int 0, .int 0, .int 0, .int 0, .null, .int 0, .null, .null, .null, .null, .int 0, .null, .int 0, .null, .null, .null, .null, .null, .int 0, .null, .null, .null]))] H3.size) (MCv k q4 am) := hDM
  have hPH4 : va_P (dC, dI) vwCl (HCv k q1 a G) H4 := va_P_new hP3 hD3 hk1
  refine lv_astore_n (lv' := [(2, .ref q4), (1, .ref q1), (0, .ref b)]) hx hb dL_law_15 rfl hl (by decide) rfl (fun ls hl => ?_)
  refine lv_iconst (v := 0) hx hb dL_law_16 (by decide) ?_
  refine lv_istore_n (lv' := [(3, .int 0), (2, .ref q4), (1, .ref q1), (0, .ref b)]) hx hb dL_law_17 rfl hl (by decide) rfl (fun ls hl => ?_)
  have hl := lv_sub (l' := [(0, .ref b), (1, .ref q1), (2, .ref q4), (3, .int 0)]) hl [3, 2, 1, 0] rfl
  have lH : (ADH q1 a).length = 85 := rfl
  have lM : (ADM q4 am).length = 26 := rfl
  obtain ⟨g1, hg1⟩ : ∃ g1 : Nat → Nat, g1 = gN hi 0 (ADH q1 a) := ⟨_, rfl⟩
  have hgH : ∀ j : Nat, j < 85 → g1 j = (ADH q1 a).getD j 0 := fun j hj => by
    have h9 := gN_ad (g := hi) (N := 0) (ad := ADH q1 a) (j := j) (by rw [lH]; exact hj)
    rw [Nat.zero_add] at h9
    rw [hg1]; exact h9
  obtain ⟨g, hg⟩ : ∃ g : Nat → Nat, g = gN g1 85 (ADM q4 am) := ⟨_, rfl⟩
  have hg85 : ∀ j : Nat, j < 85 → g j = g1 j := fun j hj => by rw [hg]; exact gN_lt hj
  have hgM : ∀ j : Nat, j < 26 → g (85 + j) = (ADM q4 am).getD j 0 := fun j hj => by rw [hg]; exact gN_ad (by rw [lM]; exact hj)
  have hg9 : ∀ i : Nat, 900 ≤ i → g i = hi i := fun i hi9 => by rw [hg, gN_hi (by rw [lM]; omega), hg1, gN_hi (by rw [lH]; omega)]
  have hgH2 : ∀ j : Nat, j < 85 → g j = (ADH q1 a).getD j 0 := fun j hj => by rw [hg85 j hj]; exact hgH j hj
  have hq1 : q_D (aA s) g1 (0 + 85) := q_D_app (g := hi) (N := 0) ⟨fun i j h => absurd h (Nat.not_lt_zero i), fun i h => absurd h (Nat.not_lt_zero i)⟩ (fun i h => absurd h (Nat.not_lt_zero i)) (fun i h => absurd h (Nat.not_lt_zero i)) hDH (HCv_f k q1 a G) lH (fun i h => absurd h (Nat.not_lt_zero i)) (fun j hj => by rw [Nat.zero_add]; exact hgH j hj) hFc
  rw [Nat.zero_add] at hq1
  have hq2 : q_D (aA s) g (85 + 26) := q_D_app hq1 (fun i h => by rw [hgH i h]; exact P_lt hP3 (HCv_f k q1 a G) i (by rw [lH]; exact h)) (fun i h => by rw [hgH i h]; exact P_ne hD3 (HCv_f k q1 a G) i (by rw [lH]; exact h)) hDM (MCv_f k q4 am) lM hg85 hgM hFd
  have hl2 : lv_has ls 4 (q_lv g (lvI 0)) := by
    have e9 : q_lv g (lvI 0) = [(0, .ref b), (1, .ref q1), (2, .ref q4), (3, .int 0)] := by
      show [(0, Value.ref (g 900)), (1, Value.ref (g 0)), (2, Value.ref (g 85)), (3, Value.int 0)] = _
      rw [hg9 900 (Nat.le_refl _), hhi, show g 0 = q1 from hgH2 0 (by decide), show g 85 = q4 from hgM 0 (by decide)]
    rw [e9]; exact hl
  have hc0 : 111 + 129 ≤ 600000 ∧ 27470 + 3543 ≤ 7302250 := ⟨by decide, by decide⟩
  refine W.widen (k := 111 + 43 * 0) (n := 27470 + 1181 * 0) (Nat.le_of_ble_eq_true rfl) (Nat.le_of_ble_eq_true rfl) ?_
  exact law_loop hL C0 hK hhi hE hc0 (law_img hL C0 hK hhi hE hc0) 514 (g00 G) 0 g (W0 G) H4 locs4 ls 0 ⟨g00_R2 G, W0_PN h13 h23 h104, hg9, by rw [W0_len]; exact hq2, W0_P hgH2 hgM hPH4 hPM, hS4, W0_ok G⟩ hl2 (by omega) (by omega) (by omega)
