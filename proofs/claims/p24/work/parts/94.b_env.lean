theorem vk_S_ext {N : Nat} {len : List Nat} {byt : List (List Int32)} {a1 a2 b1 b2 : Nat → Nat} {A : Nat → Prop} {U : State} {H : Heap} (h : vk_S N len byt a1 b1 A U H) (ha : ∀ i : Nat, i < N → a2 i = a1 i) (hb : ∀ i : Nat, i < N → b2 i = b1 i) : vk_S N len byt a2 b2 A U H := ⟨fun i hi => by rw [ha i hi, hb i hi]; exact h.1 i hi, fun i j hi hj e => h.2 i j hi hj (by rw [← ha i hi, ← ha j hj]; exact e)⟩
set_option maxRecDepth 100000 in
theorem env_sr0 : ∀ c ∈ (List.range 21).map (fun i => Cond.stringRef "HeightFine$Reader" (qTx.getD i (0, "")).1 (qTx.getD i (0, "")).2), c ∈ lw_tbl := mem_pos (659 :: 712 :: 713 :: 714 :: 715 :: 716 :: 717 :: 718 :: 719 :: 724 :: 725 :: 726 :: 727 :: 728 :: 729 :: 730 :: 731 :: 746 :: 747 :: 748 :: 749 :: []) (by decide +kernel)
theorem env_sr1 : ∀ i : Fin 21, (qTx.getD i.val (0, "")).1 = txI.getD i.val 0 := by decide +kernel
theorem env_sr (i : Fin 21) : Cond.stringRef "HeightFine$Reader" (qTx.getD i.val (0, "")).1 (qTx.getD i.val (0, "")).2 ∈ lw_tbl ∧ (qTx.getD i.val (0, "")).1 = txI.getD i.val 0 := ⟨env_sr0 _ (List.mem_map.mpr ⟨i.val, List.mem_range.mpr i.isLt, rfl⟩), env_sr1 i⟩
def hiE (b t0 t1 t2 t3 t4 xS : Nat) (adK adV : Nat → Nat) : Nat → Nat := fun i => if i = 900 then b else if i = 1000 then t0 else if i = 1001 then t1 else if i = 1002 then t2 else if i = 1003 then t3 else if i = 1004 then t4 else if i < 2100 then adK (i - 2000) else if i < 2200 then adV (i - 2100) else xS
set_option maxHeartbeats 2000000 in
set_option maxRecDepth 100000 in
theorem law_qE {s : State} {b : Nat} (hts : ∀ w ∈ lw_tbl, w.before #[Value.ref b] s = true) (hgv : (Jvm.Cond.and given_1 narrow_1).before #[Value.ref b] s = true) : ∃ (dC : Nat → ClassId) (dI : Nat → Nat → Nat) (k : Nat → ClassId) (tF : Nat) (hi : Nat → Nat), va_K (dC, dI) vwCl (tyL k) s ∧ ev tF (fun q => s.heap.size ≤ q) s ∧ hi 900 = b ∧ ∀ g : Nat → Nat, (∀ i : Nat, 900 ≤ i → g i = hi i) → qE g (fun q => s.heap.size ≤ q) s := by
  obtain ⟨dC, dI, k, tF, hK, hev⟩ := law_env hts hgv
  have hq : ∀ c ∈ flT, c.before #[Value.ref b] s = true := flat_of_before _ hgv
  obtain ⟨t0, z0, x0, l0⟩ := env_s0 hts hq
  obtain ⟨t1, z1, x1, l1⟩ := env_s1 hts hq
  obtain ⟨t2, z2, x2, l2⟩ := env_s2 hts hq
  obtain ⟨t3, z3, x3, l3⟩ := env_s3 hts hq
  obtain ⟨t4, z4, x4, l4⟩ := env_s4 hts hq
  obtain ⟨adK, adV, hS, hev2⟩ := env_tx hq
  have hC : va_Z "java/lang/String" "COMPACT_STRINGS" "Z" (.int 1) (fun q => s.heap.size ≤ q) s s.heap := va_Zof (hts (.laysStatic "java/lang/String" "COMPACT_STRINGS" "Z") (List.mem_of_getElem? (i := 673) (by decide +kernel))) (hts (.initialized "java/lang/String") (List.mem_of_getElem? (i := 166) (by decide +kernel))) (va_eqt (hq (Cond.eq (.static "java/lang/String" "COMPACT_STRINGS" "Z") (.int 1)) (List.mem_of_getElem? (i := 11) (by decide +kernel)))) (fun q h => Nat.not_le.mpr h)
  have hF : ∃ xS : Nat, va_Z "jdk/internal/util/Preconditions" "SIOOBE_FORMATTER" "Ljava/util/function/BiFunction;" .null (fun q => s.heap.size ≤ q) s s.heap ∨ va_Z "jdk/internal/util/Preconditions" "SIOOBE_FORMATTER" "Ljava/util/function/BiFunction;" (.ref xS) (fun q => s.heap.size ≤ q) s s.heap := by
    have h9 := va_Zqof (A := fun q => s.heap.size ≤ q) (hts (.laysStatic "jdk/internal/util/Preconditions" "SIOOBE_FORMATTER" "Ljava/util/function/BiFunction;") (List.mem_of_getElem? (i := 689) (by decide +kernel))) (hts (.initialized "jdk/internal/util/Preconditions") (List.mem_of_getElem? (i := 168) (by decide +kernel))) (hq (Cond.isRef (.static "jdk/internal/util/Preconditions" "SIOOBE_FORMATTER" "Ljava/util/function/BiFunction;")) (List.mem_of_getElem? (i := 12) (by decide +kernel))) (fun q h => Nat.not_le.mpr h)
    rcases h9 with h9 | ⟨xS, h9⟩
    · exact ⟨0, Or.inl h9⟩
    · exact ⟨xS, Or.inr h9⟩
  obtain ⟨xS, hF⟩ := hF
  refine ⟨dC, dI, k, tF, hiE b t0 t1 t2 t3 t4 xS adK adV, hK, hev, rfl, fun g hg => ⟨hev.1, fun w hw => ?_, fun j nm xs hj => ?_, ?_, fun i x hx => ?_, hC, ?_⟩⟩
  · have hm : w ∈ lw_tbl := by
      rw [show qNw = ((736 :: 750 :: 752 :: 1168 :: 1245 :: 199 :: []) : List Nat).filterMap (fun i => lw_tbl[i]?) by decide +kernel] at hw
      obtain ⟨i, -, hi⟩ := List.mem_filterMap.mp hw
      exact List.mem_of_getElem? hi
    have h1 := hts w hm
    simp only [qNw, List.mem_cons, List.not_mem_nil, or_false] at hw
    rcases hw with rfl | rfl | rfl | rfl | rfl | rfl
    all_goals exact va_Nw.of rfl h1
  · match j, hj with
    | 0, hj => cases hj; rw [show g (1000 + 0) = t0 from hg 1000 (by omega)]; exact ⟨z0, x0, l0, Nat.not_le.mpr l0⟩
    | 1, hj => cases hj; rw [show g (1000 + 1) = t1 from hg 1001 (by omega)]; exact ⟨z1, x1, l1, Nat.not_le.mpr l1⟩
    | 2, hj => cases hj; rw [show g (1000 + 2) = t2 from hg 1002 (by omega)]; exact ⟨z2, x2, l2, Nat.not_le.mpr l2⟩
    | 3, hj => cases hj; rw [show g (1000 + 3) = t3 from hg 1003 (by omega)]; exact ⟨z3, x3, l3, Nat.not_le.mpr l3⟩
    | 4, hj => cases hj; rw [show g (1000 + 4) = t4 from hg 1004 (by omega)]; exact ⟨z4, x4, l4, Nat.not_le.mpr l4⟩
    | j + 5, hj => exact absurd hj (by simp [qSt])
  · refine vk_S_ext hS (fun i hi => ?_) (fun i hi => ?_)
    · rw [hg (2000 + i) (by omega)]
      unfold hiE
      rw [if_neg (by omega), if_neg (by omega), if_neg (by omega), if_neg (by omega), if_neg (by omega), if_neg (by omega), if_pos (by omega)]
      congr 1; omega
    · rw [hg (2100 + i) (by omega)]
      unfold hiE
      rw [if_neg (by omega), if_neg (by omega), if_neg (by omega), if_neg (by omega), if_neg (by omega), if_neg (by omega), if_neg (by omega), if_pos (by omega)]
      congr 1; omega
  · have hi : i < 21 := (List.getElem?_eq_some_iff.mp hx).1
    have h1 := env_sr ⟨i, hi⟩
    have e1 : qTx.getD i (0, "") = x := by rw [List.getD_eq_getElem?_getD, hx]; rfl
    have h2 : Cond.stringRef "HeightFine$Reader" x.1 x.2 ∈ lw_tbl := by rw [← e1]; exact h1.1
    have h3 : x.1 = txI.getD i 0 := by rw [← e1]; exact h1.2
    have h4 : g (2000 + i) = adK i := by
      rw [hg (2000 + i) (by omega)]
      unfold hiE
      rw [if_neg (by omega), if_neg (by omega), if_neg (by omega), if_neg (by omega), if_neg (by omega), if_neg (by omega), if_pos (by omega)]
      congr 1; omega
    rw [h4]
    refine vk_R.of (A := #[Value.ref b]) (hts _ h2) ?_
    rw [h3]; exact hev2 i hi
  · rw [show g 2200 = xS from hg 2200 (by omega)]; exact hF
