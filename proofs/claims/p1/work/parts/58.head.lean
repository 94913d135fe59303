set_option maxHeartbeats 8000000 in
set_option maxRecDepth 100000 in
theorem law_head {p : Program} {l : Launch} {e : Env} {s : State} {m : MethodId} {below : List Frame} {meth : Method} {c : Code} {dC : Nat → ClassId} {dI : Nat → Nat → Nat} {k : Nat → ClassId} {b tF : Nat} {xs : Nat → Int32} {A : Nat → Prop} (hA : ∀ q : Nat, s.heap.size ≤ q → A q) (hAq : ∀ q : Nat, A q → s.heap.size ≤ q) {L : Nat} (hL : L ≤ 6) (C0 : lw_At p s m meth c b L xs) (hK : va_K (dC, dI) vwCl (tyL k) s) (hE : ev tF A s) {qh qm : Nat} {a am : Nat → Nat} {g : Nat → Nat → Int32} {H : Heap} {locs : List Loc} {ls : Array Slot} (hP : va_P (dC, dI) vwCl (lawW k qh qm a am g) H) (hD : va_D A (lawW k qh qm a am g)) (hS : va_S A s.heap H locs) (hl : lv_has ls 4 [(3, .int 0), (2, .ref qm), (1, .ref qh), (0, .ref b)]) : W p l e room_1 s m #[Value.ref b] below meth c H locs 111 27470 (lw_Z below #[Value.ref b] s) (F0 m 18 ls []) := by
  obtain ⟨hx, hb, hr, hml, hown, hts, hX, hbl, hlocks, hgv⟩ := id C0
  have hbA : ¬ A b := fun h => absurd (hAq b h) (Nat.not_le.mpr hbl)
  refine lv_iload_n hx hb dL_law_18 rfl (lv_at hl 0 rfl) ?_
  refine lv_aload_n hx hb dL_law_19 rfl (lv_at hl 3 rfl) ?_
  refine va_slen hx hb hX hbl hbA hS dL_law_20 ?_
  refine lv_bipush (v := 6) hx hb dL_law_21 (by decide) ?_
  refine lv_isub hx hb dL_law_23 ?_
  rcases Nat.lt_or_ge L 6 with h6 | h6
  · refine lv_icmp_gt (tgt := 1377) hx hb dL_law_24 (by decide) (fun _ => ?_) (fun c9 => absurd (law_lt h6) c9)
    refine lv_iconst (v := 1) hx hb dL_law_1377 (by decide) ?_
    refine va_forget (fun q hq => hAq _ (hS.2.2 q hq)) ?_
    refine W.widen (k := 600000) (n := 7302250) (by decide +kernel) (by decide +kernel) ?_
    exact lw_ret hx hb hr hlocks dL_law_1378
  · have hL6 : L = 6 := by omega
    subst hL6
    refine lv_icmp_gt (tgt := 1377) hx hb dL_law_24 (by decide) (fun c9 => absurd c9 (by decide)) (fun _ => ?_)
    refine lv_aload_n hx hb dL_law_27 rfl (lv_at hl 3 rfl) ?_
    refine lv_iload_n hx hb dL_law_28 rfl (lv_at hl 0 rfl) ?_
    refine va_sld hx hb hX hbl hbA hS (i := 0) (zz_in (by decide)) dL_law_29 ?_
    refine lv_bipush (v := 31) hx hb dL_law_30 (by decide) ?_
    refine lv_iand hx hb dL_law_32 ?_
    obtain ⟨j, hj, ej⟩ := pk_andE (xs 0) (m := 31) 5 (by decide)
    refine W.eq (g2 := F0 m 33 ls [.int (nI j)]) (congrArg (fun z => F0 m 33 ls [.int z]) ej) ?_
    have hj2 : j = 0 ∨ j = 1 ∨ j = 2 ∨ j = 3 ∨ j = 4 ∨ j = 5 ∨ j = 6 ∨ j = 7 ∨ j = 8 ∨ j = 9 ∨ j = 10 ∨ j = 11 ∨ j = 12 ∨ j = 13 ∨ j = 14 ∨ j = 15 ∨ j = 16 ∨ j = 17 ∨ j = 18 ∨ j = 19 ∨ j = 20 ∨ j = 21 ∨ j = 22 ∨ j = 23 ∨ j = 24 ∨ j = 25 ∨ j = 26 ∨ j = 27 ∨ j = 28 ∨ j = 29 ∨ j = 30 ∨ j = 31 := by omega
    clear hj ej
    rcases hj2 with rfl | rfl | rfl | rfl | rfl | rfl | rfl | rfl | rfl | rfl | rfl | rfl | rfl | rfl | rfl | rfl | rfl | rfl | rfl | rfl | rfl | rfl | rfl | rfl | rfl | rfl | rfl | rfl | rfl | rfl | rfl | rfl
    · refine lv_tableIn (off := 131) (tgt := 164) hx hb dL_law_33 (by decide) (by decide) (by decide +kernel) (by decide) ?_
      exact law_feed hA hAq C0 hK hE hP hD hS hl
    · refine lv_tableIn (off := 194) (tgt := 227) hx hb dL_law_33 (by decide) (by decide) (by decide +kernel) (by decide) ?_
      exact law_end hA hAq C0 hK hE hP hD hS hl
    · refine lv_tableIn (off := 217) (tgt := 250) hx hb dL_law_33 (by decide) (by decide) (by decide +kernel) (by decide) ?_
      rcases pfR_or (xs 1) (xs 2) with h | ⟨h | h | h | h, h2⟩
      · exact law_text_no hA hAq C0 hK hE hP hD hS hl h
      · exact law_text_0 hA hAq C0 hK hE hP hD hS hl h h2
      · exact law_text_1 hA hAq C0 hK hE hP hD hS hl h h2
      · exact law_text_2 hA hAq C0 hK hE hP hD hS hl h h2
      · exact law_text_3 hA hAq C0 hK hE hP hD hS hl h h2
    · refine lv_tableIn (off := 250) (tgt := 283) hx hb dL_law_33 (by decide) (by decide) (by decide +kernel) (by decide) ?_
      exact law_fault hA hAq C0 hK hE hP hD hS hl
    · refine lv_tableIn (off := 273) (tgt := 306) hx hb dL_law_33 (by decide) (by decide) (by decide +kernel) (by decide) ?_
      exact law_borough hA hAq C0 hK hE hP hD hS hl
    · refine lv_tableIn (off := 306) (tgt := 339) hx hb dL_law_33 (by decide) (by decide) (by decide +kernel) (by decide) ?_
      exact law_deed hA hAq C0 hK hE hP hD hS hl
    · refine lv_tableIn (off := 349) (tgt := 382) hx hb dL_law_33 (by decide) (by decide) (by decide +kernel) (by decide) ?_
      exact law_stop hA hAq C0 hK hE hP hD hS hl
    · refine lv_tableIn (off := 382) (tgt := 415) hx hb dL_law_33 (by decide) (by decide) (by decide +kernel) (by decide) ?_
      exact law_state hA hAq C0 hK hE hP hD hS hl
    · refine lv_tableIn (off := 435) (tgt := 468) hx hb dL_law_33 (by decide) (by decide) (by decide +kernel) (by decide) ?_
      exact law_reached hA hAq C0 hK hE hP hD hS hl
    · refine lv_tableIn (off := 478) (tgt := 511) hx hb dL_law_33 (by decide) (by decide) (by decide +kernel) (by decide) ?_
      exact law_cut hA hAq C0 hK hE hP hD hS hl
    · refine lv_tableIn (off := 521) (tgt := 554) hx hb dL_law_33 (by decide) (by decide) (by decide +kernel) (by decide) ?_
      exact law_love hA hAq C0 hK hE hP hD hS hl
    · refine lv_tableIn (off := 580) (tgt := 613) hx hb dL_law_33 (by decide) (by decide) (by decide +kernel) (by decide) ?_
      exact law_dares hA hAq C0 hK hE hP hD hS hl
    · refine lv_tableIn (off := 633) (tgt := 666) hx hb dL_law_33 (by decide) (by decide) (by decide +kernel) (by decide) ?_
      exact law_share hA hAq C0 hK hE hP hD hS hl
    · refine lv_tableIn (off := 686) (tgt := 719) hx hb dL_law_33 (by decide) (by decide) (by decide +kernel) (by decide) ?_
      exact law_elder hA hAq C0 hK hE hP hD hS hl
    · refine lv_tableIn (off := 729) (tgt := 762) hx hb dL_law_33 (by decide) (by decide) (by decide +kernel) (by decide) ?_
      exact law_ledger hA hAq C0 hK hE hP hD hS hl
    · refine lv_tableIn (off := 762) (tgt := 795) hx hb dL_law_33 (by decide) (by decide) (by decide +kernel) (by decide) ?_
      exact law_fact hA hAq C0 hK hE hP hD hS hl
    · refine lv_tableIn (off := 805) (tgt := 838) hx hb dL_law_33 (by decide) (by decide) (by decide +kernel) (by decide) ?_
      exact law_rows hA hAq C0 hK hE hP hD hS hl
    · refine lv_tableIn (off := 869) (tgt := 902) hx hb dL_law_33 (by decide) (by decide) (by decide +kernel) (by decide) ?_
      exact law_sure hA hAq C0 hK hE hP hD hS hl
    · refine lv_tableIn (off := 922) (tgt := 955) hx hb dL_law_33 (by decide) (by decide) (by decide +kernel) (by decide) ?_
      exact law_drawn hA hAq C0 hK hE hP hD hS hl
    · refine lv_tableIn (off := 975) (tgt := 1008) hx hb dL_law_33 (by decide) (by decide) (by decide +kernel) (by decide) ?_
      exact law_family hA hAq C0 hK hE hP hD hS hl
    · refine lv_tableIn (off := 1018) (tgt := 1051) hx hb dL_law_33 (by decide) (by decide) (by decide +kernel) (by decide) ?_
      exact law_views hA hAq C0 hK hE hP hD hS hl
    · refine lv_tableIn (off := 1052) (tgt := 1085) hx hb dL_law_33 (by decide) (by decide) (by decide +kernel) (by decide) ?_
      exact law_shoulders hA hAq C0 hK hE hP hD hS hl
    · refine lv_tableIn (off := 1085) (tgt := 1118) hx hb dL_law_33 (by decide) (by decide) (by decide +kernel) (by decide) ?_
      exact law_hats hA hAq C0 hK hE hP hD hS hl
    · refine lv_tableIn (off := 1134) (tgt := 1167) hx hb dL_law_33 (by decide) (by decide) (by decide +kernel) (by decide) ?_
      exact law_teams hA hAq C0 hK hE hP hD hS hl
    · refine lv_tableIn (off := 1183) (tgt := 1216) hx hb dL_law_33 (by decide) (by decide) (by decide +kernel) (by decide) ?_
      exact law_assumed hA hAq C0 hK hE hP hD hS hl
    · refine lv_tableIn (off := 1226) (tgt := 1259) hx hb dL_law_33 (by decide) (by decide) (by decide +kernel) (by decide) ?_
      exact law_settled hA hAq C0 hK hE hP hD hS hl
    · refine lv_tableIn (off := 1269) (tgt := 1302) hx hb dL_law_33 (by decide) (by decide) (by decide +kernel) (by decide) ?_
      exact law_count hA hAq C0 hK hE hP hD hS hl
    · refine lv_tableIn (off := 1292) (tgt := 1325) hx hb dL_law_33 (by decide) (by decide) (by decide +kernel) (by decide) ?_
      rcases law_im (xs 1) with h | h | h | h
      · exact law_image_no hA hAq C0 hK hE hP hD hS hl h
      · exact law_image_0 hA hAq C0 hK hE hP hD hS hl h
      · exact law_image_1 hA hAq C0 hK hE hP hD hS hl h
      · exact law_image_2 hA hAq C0 hK hE hP hD hS hl h
    · refine lv_tableIn (off := 1315) (tgt := 1348) hx hb dL_law_33 (by decide) (by decide) (by decide +kernel) (by decide) ?_
      exact law_again hA hAq C0 hK hE hP hD hS hl
    · refine lv_tableOut (tgt := 1371) hx hb dL_law_33 (by decide) (by decide) ?_
      exact law_tail hAq C0 (by decide +kernel) (by decide +kernel) hS (lv_sub hl [0, 3] rfl)
    · refine lv_tableOut (tgt := 1371) hx hb dL_law_33 (by decide) (by decide) ?_
      exact law_tail hAq C0 (by decide +kernel) (by decide +kernel) hS (lv_sub hl [0, 3] rfl)
    · refine lv_tableOut (tgt := 1371) hx hb dL_law_33 (by decide) (by decide) ?_
      exact law_tail hAq C0 (by decide +kernel) (by decide +kernel) hS (lv_sub hl [0, 3] rfl)
