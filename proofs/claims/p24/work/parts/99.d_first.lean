theorem up1_at {D : va_G} {cl : List vw_C} {k : Nat → ClassId} {g : Nat → Nat} {A t n : Nat} {H : Heap} (h : va_at D cl (A, .inl (k t, n, .inl (upd (fun _ => 0) 0 (-1)))) H) : va_at D cl (A, q_c k g (.inl (t, n, .inl (fun i => if i = 0 then -1 else 0)))) H := by
  have e1 : (fun i : Nat => Int32.ofInt (if i = 0 then -1 else 0)) = upd (fun _ => 0) 0 (-1) := by
    funext i
    unfold upd
    by_cases h0 : i = 0
    · rw [if_pos h0, if_pos h0]; rfl
    · rw [if_neg h0, if_neg h0]; rfl
  show va_at D cl (A, .inl (k t, n, .inl (fun i : Nat => Int32.ofInt (if i = 0 then -1 else 0)))) H
  rw [e1]
  exact h
theorem oku : q_okc (.inl (0, 4, .inl (fun i => if i = 0 then -1 else 0))) := by
  refine ⟨fun i => ?_, fun h => absurd h (by decide)⟩
  show q_i (if i = 0 then -1 else 0)
  split
  · exact ⟨by decide, by decide⟩
  · exact q_i0
theorem i0_BI : BI (fun _ => 0) := fun j _ => ⟨⟨(show (0 : Int) ≤ 0 ∧ (0 : Int) ≤ 8 by decide), (show (0 : Int) ≤ 0 ∧ (0 : Int) ≤ 6 by decide), (show (0 : Int) ≤ 0 ∧ (0 : Int) ≤ 6 by decide), fun _ _ => (show (-1 : Int) ≤ 0 ∧ (0 : Int) ≤ 7 by decide), fun _ _ => (show (0 : Int) ≤ 0 ∧ (0 : Int) ≤ 9 by decide)⟩, fun q hq => by
  have hq : (q : Int) < 0 := hq
  omega⟩
theorem i0_YI : YI (fun _ => 0) := fun j _ => ⟨(show (0 : Int) ≤ 0 ∧ (0 : Int) ≤ 40 by decide), fun _ _ _ => (show (0 : Int) ≤ 0 ∧ (0 : Int) ≤ 3 by decide)⟩
theorem i0_SI : SI (fun _ => 0) := fun j _ => (show (0 : Int) ≤ 0 ∧ (0 : Int) ≤ 10 by decide)
theorem P_lt {D : va_G} {cl : List vw_C} {V : va_W} {x : Nat × va_E} {ad : List Nat} {H : Heap} (hP : va_P D cl (V ++ [x]) H) (hfst : V.map Prod.fst = ad) : ∀ i : Nat, i < ad.length → ad.getD i 0 < H.size := by
  intro i hi
  have hl : i < V.length := by rw [← hfst, List.length_map] at hi; exact hi
  have h1 := (hP i (V[i]'hl) (by rw [List.getElem?_append_left hl]; exact List.getElem?_eq_getElem hl)).lt
  rw [← hfst, List.getD_eq_getElem?_getD, List.getElem?_map, List.getElem?_eq_getElem hl]
  exact h1
theorem P_ne {A : Nat → Prop} {V : va_W} {q : Nat} {e : va_E} {ad : List Nat} (hD : va_D A (V ++ [(q, e)])) (hfst : V.map Prod.fst = ad) : ∀ i : Nat, i < ad.length → ad.getD i 0 ≠ q := by
  intro i hi he
  have hl : i < V.length := by rw [← hfst, List.length_map] at hi; exact hi
  have h1 := hD.1 i V.length (V[i]'hl) (q, e) (by rw [List.getElem?_append_left hl]; exact List.getElem?_eq_getElem hl) (by rw [List.getElem?_append_right (Nat.le_refl _), Nat.sub_self]; rfl) (by
    rw [← hfst, List.getD_eq_getElem?_getD, List.getElem?_map, List.getElem?_eq_getElem hl] at he
    exact he)
  omega
def ADH (h : Nat) (a : Nat → Nat) : List Nat := (h :: (a 0) :: (a 1) :: (a 2) :: (a 3) :: (a 4) :: (a 5) :: (a 6) :: (a 10) :: (a 11) :: (a 12) :: (a 13) :: (a 14) :: (a 15) :: (a 16) :: (a 17) :: (a 20) :: (a 21) :: (a 22) :: (a 23) :: (a 24) :: (a 25) :: (a 26) :: (a 27) :: (a 30) :: (a 31) :: (a 32) :: (a 33) :: (a 34) :: (a 35) :: (a 36) :: (a 37) :: (a 38) :: (a 39) :: (a 40) :: (a 41) :: (a 42) :: (a 43) :: (a 44) :: (a 45) :: (a 46) :: (a 47) :: (a 48) :: (a 49) :: (a 50) :: (a 100) :: (a 140) :: (a 141) :: (a 101) :: (a 102) :: (a 103) :: (a 104) :: (a 105) :: (a 106) :: (a 107) :: (a 108) :: (a 110) :: (a 111) :: (a 112) :: (a 113) :: (a 114) :: (a 120) :: (a 121) :: (a 130) :: (a 131) :: (a 132) :: (a 150) :: (a 160) :: (a 161) :: (a 162) :: (a 151) :: (a 163) :: (a 152) :: (a 164) :: (a 165) :: (a 166) :: (a 153) :: (a 167) :: (a 168) :: (a 169) :: (a 170) :: (a 154) :: (a 171) :: (a 172) :: (a 173) :: [])
def ADM (h : Nat) (a : Nat → Nat) : List Nat := (h :: (a 1) :: (a 2) :: (a 3) :: (a 4) :: (a 5) :: (a 6) :: (a 7) :: (a 8) :: (a 9) :: (a 19) :: (a 20) :: (a 27) :: (a 29) :: (a 30) :: (a 31) :: (a 32) :: (a 34) :: (a 36) :: (a 37) :: (a 38) :: (a 39) :: (a 40) :: (a 42) :: (a 43) :: (a 44) :: [])
set_option maxRecDepth 100000 in
def HCv (k : Nat → ClassId) (h : Nat) (a : Nat → Nat) (G : Nat → Nat → Int32) : va_W := ((h, .inr (11, [.ref (a 0), .ref (a 50), .ref (a 100), .ref (a 150), .ref (a 151), .ref (a 152), .ref (a 153), .ref (a 154)])) :: ((a 0), .inr (8, [.ref (a 1), .ref (a 2), .ref (a 3), .ref (a 4), .ref (a 5), .ref (a 6), .int 0, .int 0, .int (-1)])) :: ((a 1), .inl (k 1, 600, .inl (fun _ => 0))) :: ((a 2), .inl (k 0, 4, .inl (fun _ => 0))) :: ((a 3), .inl (k 4, 2, .inr (.inr (.inr (.inr (va_up (va_up (fun _ => none) 0 (some (a 10))) 1 (some (a 20)))))))) :: ((a 4), .inl (k 5, 2, .inr (.inr (.inr (.inr (va_up (va_up (fun _ => none) 0 (some (a 30))) 1 (some (a 35)))))))) :: ((a 5), .inl (k 6, 2, .inr (.inr (.inr (.inr (va_up (va_up (fun _ => none) 0 (some (a 40))) 1 (some (a 42)))))))) :: ((a 6), .inl (k 7, 2, .inr (.inr (.inr (.inr (va_up (va_up (fun _ => none) 0 (some (a 44))) 1 (some (a 47)))))))) :: ((a 10), .inr (0, [.ref (a 11), .ref (a 12), .ref (a 13), .ref (a 14), .ref (a 15), .ref (a 16), .ref (a 17), .int 0, .int 0, .int 5, .int 0, .int 0])) :: ((a 11), .inl (k 0, 8, .inl (G 11))) :: ((a 12), .inl (k 0, 8, .inl (G 12))) :: ((a 13), .inl (k 0, 4, .inl (G 13))) :: ((a 14), .inl (k 0, 32, .inl (G 14))) :: ((a 15), .inl (k 0, 6, .inl (G 15))) :: ((a 16), .inl (k 0, 6, .inl (G 16))) :: ((a 17), .inl (k 0, 6, .inl (G 17))) :: ((a 20), .inr (0, [.ref (a 21), .ref (a 22), .ref (a 23), .ref (a 24), .ref (a 25), .ref (a 26), .ref (a 27), .int 0, .int 0, .int 5, .int 0, .int 0])) :: ((a 21), .inl (k 0, 8, .inl (G 21))) :: ((a 22), .inl (k 0, 8, .inl (G 22))) :: ((a 23), .inl (k 0, 4, .inl (G 23))) :: ((a 24), .inl (k 0, 32, .inl (G 24))) :: ((a 25), .inl (k 0, 6, .inl (G 25))) :: ((a 26), .inl (k 0, 6, .inl (G 26))) :: ((a 27), .inl (k 0, 6, .inl (G 27))) :: ((a 30), .inr (10, [.ref (a 31), .ref (a 32), .ref (a 33), .ref (a 34), .int 0])) :: ((a 31), .inl (k 0, 40, .inl (fun _ => 0))) :: ((a 32), .inl (k 0, 40, .inl (fun _ => 0))) :: ((a 33), .inl (k 0, 40, .inl (fun _ => 0))) :: ((a 34), .inl (k 0, 40, .inl (fun _ => 0))) :: ((a 35), .inr (10, [.ref (a 36), .ref (a 37), .ref (a 38), .ref (a 39), .int 0])) :: ((a 36), .inl (k 0, 40, .inl (fun _ => 0))) :: ((a 37), .inl (k 0, 40, .inl (fun _ => 0))) :: ((a 38), .inl (k 0, 40, .inl (fun _ => 0))) :: ((a 39), .inl (k 0, 40, .inl (fun _ => 0))) :: ((a 40), .inr (3, [.ref (a 41), .int 0])) :: ((a 41), .inl (k 0, 8, .inl (fun _ => 0))) :: ((a 42), .inr (3, [.ref (a 43), .int 0])) :: ((a 43), .inl (k 0, 8, .inl (fun _ => 0))) :: ((a 44), .inr (7, [.ref (a 45), .ref (a 46), .int 0])) :: ((a 45), .inl (k 0, 10, .inl (fun _ => 0))) :: ((a 46), .inl (k 0, 10, .inl (fun _ => 0))) :: ((a 47), .inr (7, [.ref (a 48), .ref (a 49), .int 0])) :: ((a 48), .inl (k 0, 10, .inl (fun _ => 0))) :: ((a 49), .inl (k 0, 10, .inl (fun _ => 0))) :: ((a 50), .inl (k 8, 3, .inr (.inr (.inr (.inr (fun _ => none)))))) :: ((a 100), .inr (6, [.ref (a 101), .ref (a 110), .ref (a 120), .ref (a 130), .ref (a 140), .ref (a 141), .int 0, .int 0, .int 0, .int 0, .int 0, .int 0, .int 0, .int 0, .int 0])) :: ((a 140), .inl (k 0, 3, .inl (fun _ => 0))) :: ((a 141), .inl (k 1, 0, .inl (fun _ => 0))) :: ((a 101), .inr (0, [.ref (a 102), .ref (a 103), .ref (a 104), .ref (a 105), .ref (a 106), .ref (a 107), .ref (a 108), .int 0, .int 0, .int 5, .int 0, .int 0])) :: ((a 102), .inl (k 0, 8, .inl (G 102))) :: ((a 103), .inl (k 0, 8, .inl (G 103))) :: ((a 104), .inl (k 0, 4, .inl (G 104))) :: ((a 105), .inl (k 0, 32, .inl (G 105))) :: ((a 106), .inl (k 0, 6, .inl (G 106))) :: ((a 107), .inl (k 0, 6, .inl (G 107))) :: ((a 108), .inl (k 0, 6, .inl (G 108))) :: ((a 110), .inr (10, [.ref (a 111), .ref (a 112), .ref (a 113), .ref (a 114), .int 0])) :: ((a 111), .inl (k 0, 40, .inl (fun _ => 0))) :: ((a 112), .inl (k 0, 40, .inl (fun _ => 0))) :: ((a 113), .inl (k 0, 40, .inl (fun _ => 0))) :: ((a 114), .inl (k 0, 40, .inl (fun _ => 0))) :: ((a 120), .inr (3, [.ref (a 121), .int 0])) :: ((a 121), .inl (k 0, 8, .inl (fun _ => 0))) :: ((a 130), .inr (7, [.ref (a 131), .ref (a 132), .int 0])) :: ((a 131), .inl (k 0, 10, .inl (fun _ => 0))) :: ((a 132), .inl (k 0, 10, .inl (fun _ => 0))) :: ((a 150), .inr (9, [.ref (a 160), .ref (a 161), .ref (a 162), .int 0, .int 0])) :: ((a 160), .inl (k 0, 8, .inl (fun _ => 0))) :: ((a 161), .inl (k 0, 512, .inl (fun _ => 0))) :: ((a 162), .inl (k 0, 512, .inl (fun _ => 0))) :: ((a 151), .inr (5, [.ref (a 163), .int 0, .int 0])) :: ((a 163), .inl (k 0, 1792, .inl (fun _ => 0))) :: ((a 152), .inr (4, [.ref (a 164), .ref (a 165), .ref (a 166), .int 0])) :: ((a 164), .inl (k 0, 700, .inl (fun _ => 0))) :: ((a 165), .inl (k 0, 9, .inl (fun _ => 0))) :: ((a 166), .inl (k 0, 9, .inl (fun _ => 0))) :: ((a 153), .inr (2, [.ref (a 167), .ref (a 168), .ref (a 169), .ref (a 170), .int 0])) :: ((a 167), .inl (k 3, 657, .inr (.inl (fun _ => 0)))) :: ((a 168), .inl (k 3, 72, .inr (.inl (fun _ => 0)))) :: ((a 169), .inl (k 3, 9, .inr (.inl (fun _ => 0)))) :: ((a 170), .inl (k 0, 8, .inl (fun _ => 0))) :: ((a 154), .inr (1, [.ref (a 171), .ref (a 172), .ref (a 173)])) :: ((a 171), .inl (k 0, 8, .inl (fun _ => 0))) :: ((a 172), .inl (k 0, 256, .inl (fun _ => 0))) :: ((a 173), .inl (k 3, 9, .inr (.inl (fun _ => 0)))) :: [])
set_option maxRecDepth 100000 in
def MCv (k : Nat → ClassId) (h : Nat) (a : Nat → Nat) : va_W := ((h, .inr (12, [.int 0, .ref (a 1), .ref (a 2), .ref (a 3), .ref (a 4), .ref (a 5), .ref (a 6), .ref (a 7), .ref (a 8), .ref (a 9), .int 0, .int 0, .int 0, .int 0, .int 0, .long 0, .int 0, .int 0, .int 0, .ref (a 19), .ref (a 20), .int 0, .int 0, .int 0, .int 0, .int 0, .int 0, .ref (a 27), .int 0, .ref (a 29), .ref (a 30), .ref (a 31), .ref (a 32), .int 0, .ref (a 34), .int 0, .ref (a 36), .ref (a 37), .ref (a 38), .ref (a 39), .ref (a 40), .int 0, .ref (a 42), .ref (a 43), .ref (a 44)])) :: ((a 1), .inl (k 1, 2400, .inl (fun _ => 0))) :: ((a 2), .inl (k 0, 4, .inl (fun _ => 0))) :: ((a 3), .inl (k 0, 4, .inl (fun _ => 0))) :: ((a 4), .inl (k 0, 4, .inl (upd (fun _ => 0) 0 (-1)))) :: ((a 5), .inl (k 0, 16, .inl (fun _ => 0))) :: ((a 6), .inl (k 0, 600, .inl (fun _ => 0))) :: ((a 7), .inl (k 0, 1288, .inl (fun _ => 0))) :: ((a 8), .inl (k 0, 72, .inl (fun _ => 0))) :: ((a 9), .inl (k 0, 168, .inl (fun _ => 0))) :: ((a 19), .inl (k 0, 161, .inl (fun _ => 0))) :: ((a 20), .inl (k 0, 4, .inl (fun _ => 0))) :: ((a 27), .inl (k 0, 8, .inl (fun _ => 0))) :: ((a 29), .inl (k 0, 12544, .inl (fun _ => 0))) :: ((a 30), .inl (k 0, 700, .inl (fun _ => 0))) :: ((a 31), .inl (k 0, 256, .inl (fun _ => 0))) :: ((a 32), .inl (k 0, 8, .inl (fun _ => 0))) :: ((a 34), .inl (k 0, 8, .inl (fun _ => 0))) :: ((a 36), .inl (k 3, 72, .inr (.inl (fun _ => 0)))) :: ((a 37), .inl (k 3, 9, .inr (.inl (fun _ => 0)))) :: ((a 38), .inl (k 3, 9, .inr (.inl (fun _ => 0)))) :: ((a 39), .inl (k 3, 100, .inr (.inl (fun _ => 0)))) :: ((a 40), .inl (k 3, 100, .inr (.inl (fun _ => 0)))) :: ((a 42), .inl (k 3, 2304, .inr (.inl (fun _ => 0)))) :: ((a 43), .inl (k 0, 512, .inl (fun _ => 0))) :: ((a 44), .inl (k 2, 3, .inl (fun _ => 0))) :: [])
set_option maxRecDepth 100000 in
def W0 (G : Nat → Nat → Int32) : qW := (.inr (11, [q2 1, q2 44, q2 45, q2 66, q2 70, q2 72, q2 76, q2 81]) :: .inr (8, [q2 2, q2 3, q2 4, q2 5, q2 6, q2 7, q1 0, q1 0, q1 (-1)]) :: .inl (1, 600, .inl (fun _ => 0)) :: .inl (0, 4, .inl (fun _ => 0)) :: .inl (4, 2, .inr (.inr [some 8, some 16])) :: .inl (5, 2, .inr (.inr [some 24, some 29])) :: .inl (6, 2, .inr (.inr [some 34, some 36])) :: .inl (7, 2, .inr (.inr [some 38, some 41])) :: .inr (0, [q2 9, q2 10, q2 11, q2 12, q2 13, q2 14, q2 15, q1 0, q1 0, q1 5, q1 0, q1 0]) :: .inl (0, 8, .inl (ti 8 (G 11))) :: .inl (0, 8, .inl (ti 8 (G 12))) :: .inl (0, 4, .inl (ti 4 (G 13))) :: .inl (0, 32, .inl (ti 32 (G 14))) :: .inl (0, 6, .inl (ti 6 (G 15))) :: .inl (0, 6, .inl (ti 6 (G 16))) :: .inl (0, 6, .inl (ti 6 (G 17))) :: .inr (0, [q2 17, q2 18, q2 19, q2 20, q2 21, q2 22, q2 23, q1 0, q1 0, q1 5, q1 0, q1 0]) :: .inl (0, 8, .inl (ti 8 (G 21))) :: .inl (0, 8, .inl (ti 8 (G 22))) :: .inl (0, 4, .inl (ti 4 (G 23))) :: .inl (0, 32, .inl (ti 32 (G 24))) :: .inl (0, 6, .inl (ti 6 (G 25))) :: .inl (0, 6, .inl (ti 6 (G 26))) :: .inl (0, 6, .inl (ti 6 (G 27))) :: .inr (10, [q2 25, q2 26, q2 27, q2 28, q1 0]) :: .inl (0, 40, .inl (fun _ => 0)) :: .inl (0, 40, .inl (fun _ => 0)) :: .inl (0, 40, .inl (fun _ => 0)) :: .inl (0, 40, .inl (fun _ => 0)) :: .inr (10, [q2 30, q2 31, q2 32, q2 33, q1 0]) :: .inl (0, 40, .inl (fun _ => 0)) :: .inl (0, 40, .inl (fun _ => 0)) :: .inl (0, 40, .inl (fun _ => 0)) :: .inl (0, 40, .inl (fun _ => 0)) :: .inr (3, [q2 35, q1 0]) :: .inl (0, 8, .inl (fun _ => 0)) :: .inr (3, [q2 37, q1 0]) :: .inl (0, 8, .inl (fun _ => 0)) :: .inr (7, [q2 39, q2 40, q1 0]) :: .inl (0, 10, .inl (fun _ => 0)) :: .inl (0, 10, .inl (fun _ => 0)) :: .inr (7, [q2 42, q2 43, q1 0]) :: .inl (0, 10, .inl (fun _ => 0)) :: .inl (0, 10, .inl (fun _ => 0)) :: .inl (8, 3, .inr (.inr [none, none, none])) :: .inr (6, [q2 48, q2 56, q2 61, q2 63, q2 46, q2 47, q1 0, q1 0, q1 0, q1 0, q1 0, q1 0, q1 0, q1 0, q1 0]) :: .inl (0, 3, .inl (fun _ => 0)) :: .inl (1, 0, .inl (fun _ => 0)) :: .inr (0, [q2 49, q2 50, q2 51, q2 52, q2 53, q2 54, q2 55, q1 0, q1 0, q1 5, q1 0, q1 0]) :: .inl (0, 8, .inl (ti 8 (G 102))) :: .inl (0, 8, .inl (ti 8 (G 103))) :: .inl (0, 4, .inl (ti 4 (G 104))) :: .inl (0, 32, .inl (ti 32 (G 105))) :: .inl (0, 6, .inl (ti 6 (G 106))) :: .inl (0, 6, .inl (ti 6 (G 107))) :: .inl (0, 6, .inl (ti 6 (G 108))) :: .inr (10, [q2 57, q2 58, q2 59, q2 60, q1 0]) :: .inl (0, 40, .inl (fun _ => 0)) :: .inl (0, 40, .inl (fun _ => 0)) :: .inl (0, 40, .inl (fun _ => 0)) :: .inl (0, 40, .inl (fun _ => 0)) :: .inr (3, [q2 62, q1 0]) :: .inl (0, 8, .inl (fun _ => 0)) :: .inr (7, [q2 64, q2 65, q1 0]) :: .inl (0, 10, .inl (fun _ => 0)) :: .inl (0, 10, .inl (fun _ => 0)) :: .inr (9, [q2 67, q2 68, q2 69, q1 0, q1 0]) :: .inl (0, 8, .inl (fun _ => 0)) :: .inl (0, 512, .inl (fun _ => 0)) :: .inl (0, 512, .inl (fun _ => 0)) :: .inr (5, [q2 71, q1 0, q1 0]) :: .inl (0, 1792, .inl (fun _ => 0)) :: .inr (4, [q2 73, q2 74, q2 75, q1 0]) :: .inl (0, 700, .inl (fun _ => 0)) :: .inl (0, 9, .inl (fun _ => 0)) :: .inl (0, 9, .inl (fun _ => 0)) :: .inr (2, [q2 77, q2 78, q2 79, q2 80, q1 0]) :: .inl (3, 657, .inr (.inl (fun _ => 0))) :: .inl (3, 72, .inr (.inl (fun _ => 0))) :: .inl (3, 9, .inr (.inl (fun _ => 0))) :: .inl (0, 8, .inl (fun _ => 0)) :: .inr (1, [q2 82, q2 83, q2 84]) :: .inl (0, 8, .inl (fun _ => 0)) :: .inl (0, 256, .inl (fun _ => 0)) :: .inl (3, 9, .inr (.inl (fun _ => 0))) :: .inr (12, [q1 0, q2 86, q2 87, q2 88, q2 89, q2 90, q2 91, q2 92, q2 93, q2 94, q1 0, q1 0, q1 0, q1 0, q1 0, q3 0, q1 0, q1 0, q1 0, q2 95, q2 96, q1 0, q1 0, q1 0, q1 0, q1 0, q1 0, q2 97, q1 0, q2 98, q2 99, q2 100, q2 101, q1 0, q2 102, q1 0, q2 103, q2 104, q2 105, q2 106, q2 107, q1 0, q2 108, q2 109, q2 110]) :: .inl (1, 2400, .inl (fun _ => 0)) :: .inl (0, 4, .inl (fun _ => 0)) :: .inl (0, 4, .inl (fun _ => 0)) :: .inl (0, 4, .inl (fun i => if i = 0 then -1 else 0)) :: .inl (0, 16, .inl (fun _ => 0)) :: .inl (0, 600, .inl (fun _ => 0)) :: .inl (0, 1288, .inl (fun _ => 0)) :: .inl (0, 72, .inl (fun _ => 0)) :: .inl (0, 168, .inl (fun _ => 0)) :: .inl (0, 161, .inl (fun _ => 0)) :: .inl (0, 4, .inl (fun _ => 0)) :: .inl (0, 8, .inl (fun _ => 0)) :: .inl (0, 12544, .inl (fun _ => 0)) :: .inl (0, 700, .inl (fun _ => 0)) :: .inl (0, 256, .inl (fun _ => 0)) :: .inl (0, 8, .inl (fun _ => 0)) :: .inl (0, 8, .inl (fun _ => 0)) :: .inl (3, 72, .inr (.inl (fun _ => 0))) :: .inl (3, 9, .inr (.inl (fun _ => 0))) :: .inl (3, 9, .inr (.inl (fun _ => 0))) :: .inl (3, 100, .inr (.inl (fun _ => 0))) :: .inl (3, 100, .inr (.inl (fun _ => 0))) :: .inl (3, 2304, .inr (.inl (fun _ => 0))) :: .inl (0, 512, .inl (fun _ => 0)) :: .inl (2, 3, .inl (fun _ => 0)) :: [])
set_option maxRecDepth 100000 in
theorem HCv_f (k : Nat → ClassId) (h : Nat) (a : Nat → Nat) (G : Nat → Nat → Int32) : (HCv k h a G).map Prod.fst = ADH h a := rfl
set_option maxRecDepth 100000 in
theorem MCv_f (k : Nat → ClassId) (h : Nat) (a : Nat → Nat) : (MCv k h a).map Prod.fst = ADM h a := rfl
set_option maxRecDepth 100000 in
theorem hq_0 {D : va_G} {k : Nat → ClassId} {g : Nat → Nat} {H : Heap} {h : Nat} {a : Nat → Nat} {G : Nat → Nat → Int32} (hg : ∀ j : Nat, j < 85 → g j = (ADH h a).getD j 0) (hP : va_P D vwCl (HCv k h a G) H) : va_at D vwCl (g 0, q_c k g (.inr (11, [q2 1, q2 44, q2 45, q2 66, q2 70, q2 72, q2 76, q2 81]))) H := by
  show va_at D vwCl (g 0, .inr (11, [.ref (g 1), .ref (g 44), .ref (g 45), .ref (g 66), .ref (g 70), .ref (g 72), .ref (g 76), .ref (g 81)])) H
  rw [(show g 0 = h from hg 0 (by decide)), (show g 1 = (a 0) from hg 1 (by decide)), (show g 44 = (a 50) from hg 44 (by decide)), (show g 45 = (a 100) from hg 45 (by decide)), (show g 66 = (a 150) from hg 66 (by decide)), (show g 70 = (a 151) from hg 70 (by decide)), (show g 72 = (a 152) from hg 72 (by decide)), (show g 76 = (a 153) from hg 76 (by decide)), (show g 81 = (a 154) from hg 81 (by decide))]
  exact hP 0 _ rfl
set_option maxRecDepth 100000 in
theorem hq_1 {D : va_G} {k : Nat → ClassId} {g : Nat → Nat} {H : Heap} {h : Nat} {a : Nat → Nat} {G : Nat → Nat → Int32} (hg : ∀ j : Nat, j < 85 → g j = (ADH h a).getD j 0) (hP : va_P D vwCl (HCv k h a G) H) : va_at D vwCl (g 1, q_c k g (.inr (8, [q2 2, q2 3, q2 4, q2 5, q2 6, q2 7, q1 0, q1 0, q1 (-1)]))) H := by
  show va_at D vwCl (g 1, .inr (8, [.ref (g 2), .ref (g 3), .ref (g 4), .ref (g 5), .ref (g 6), .ref (g 7), .int 0, .int 0, .int (-1)])) H
  rw [(show g 1 = (a 0) from hg 1 (by decide)), (show g 2 = (a 1) from hg 2 (by decide)), (show g 3 = (a 2) from hg 3 (by decide)), (show g 4 = (a 3) from hg 4 (by decide)), (show g 5 = (a 4) from hg 5 (by decide)), (show g 6 = (a 5) from hg 6 (by decide)), (show g 7 = (a 6) from hg 7 (by decide))]
  exact hP 1 _ rfl
set_option maxRecDepth 100000 in
theorem hq_2 {D : va_G} {k : Nat → ClassId} {g : Nat → Nat} {H : Heap} {h : Nat} {a : Nat → Nat} {G : Nat → Nat → Int32} (hg : ∀ j : Nat, j < 85 → g j = (ADH h a).getD j 0) (hP : va_P D vwCl (HCv k h a G) H) : va_at D vwCl (g 2, q_c k g (.inl (1, 600, .inl (fun _ => 0)))) H := by
  rw [(show g 2 = (a 1) from hg 2 (by decide))]
  exact hP 2 _ rfl
set_option maxRecDepth 100000 in
theorem hq_3 {D : va_G} {k : Nat → ClassId} {g : Nat → Nat} {H : Heap} {h : Nat} {a : Nat → Nat} {G : Nat → Nat → Int32} (hg : ∀ j : Nat, j < 85 → g j = (ADH h a).getD j 0) (hP : va_P D vwCl (HCv k h a G) H) : va_at D vwCl (g 3, q_c k g (.inl (0, 4, .inl (fun _ => 0)))) H := by
  rw [(show g 3 = (a 2) from hg 3 (by decide))]
  exact hP 3 _ rfl
set_option maxRecDepth 100000 in
theorem hq_4 {D : va_G} {k : Nat → ClassId} {g : Nat → Nat} {H : Heap} {h : Nat} {a : Nat → Nat} {G : Nat → Nat → Int32} (hg : ∀ j : Nat, j < 85 → g j = (ADH h a).getD j 0) (hP : va_P D vwCl (HCv k h a G) H) : va_at D vwCl (g 4, q_c k g (.inl (4, 2, .inr (.inr [some 8, some 16])))) H := by
  rw [(show g 4 = (a 3) from hg 4 (by decide))]
  exact rf2_at (hP 4 _ rfl) (show g 8 = (a 10) from hg 8 (by decide)) (show g 16 = (a 20) from hg 16 (by decide))
set_option maxRecDepth 100000 in
theorem hq_5 {D : va_G} {k : Nat → ClassId} {g : Nat → Nat} {H : Heap} {h : Nat} {a : Nat → Nat} {G : Nat → Nat → Int32} (hg : ∀ j : Nat, j < 85 → g j = (ADH h a).getD j 0) (hP : va_P D vwCl (HCv k h a G) H) : va_at D vwCl (g 5, q_c k g (.inl (5, 2, .inr (.inr [some 24, some 29])))) H := by
  rw [(show g 5 = (a 4) from hg 5 (by decide))]
  exact rf2_at (hP 5 _ rfl) (show g 24 = (a 30) from hg 24 (by decide)) (show g 29 = (a 35) from hg 29 (by decide))
set_option maxRecDepth 100000 in
theorem hq_6 {D : va_G} {k : Nat → ClassId} {g : Nat → Nat} {H : Heap} {h : Nat} {a : Nat → Nat} {G : Nat → Nat → Int32} (hg : ∀ j : Nat, j < 85 → g j = (ADH h a).getD j 0) (hP : va_P D vwCl (HCv k h a G) H) : va_at D vwCl (g 6, q_c k g (.inl (6, 2, .inr (.inr [some 34, some 36])))) H := by
  rw [(show g 6 = (a 5) from hg 6 (by decide))]
  exact rf2_at (hP 6 _ rfl) (show g 34 = (a 40) from hg 34 (by decide)) (show g 36 = (a 42) from hg 36 (by decide))
set_option maxRecDepth 100000 in
theorem hq_7 {D : va_G} {k : Nat → ClassId} {g : Nat → Nat} {H : Heap} {h : Nat} {a : Nat → Nat} {G : Nat → Nat → Int32} (hg : ∀ j : Nat, j < 85 → g j = (ADH h a).getD j 0) (hP : va_P D vwCl (HCv k h a G) H) : va_at D vwCl (g 7, q_c k g (.inl (7, 2, .inr (.inr [some 38, some 41])))) H := by
  rw [(show g 7 = (a 6) from hg 7 (by decide))]
  exact rf2_at (hP 7 _ rfl) (show g 38 = (a 44) from hg 38 (by decide)) (show g 41 = (a 47) from hg 41 (by decide))
set_option maxRecDepth 100000 in
theorem hq_8 {D : va_G} {k : Nat → ClassId} {g : Nat → Nat} {H : Heap} {h : Nat} {a : Nat → Nat} {G : Nat → Nat → Int32} (hg : ∀ j : Nat, j < 85 → g j = (ADH h a).getD j 0) (hP : va_P D vwCl (HCv k h a G) H) : va_at D vwCl (g 8, q_c k g (.inr (0, [q2 9, q2 10, q2 11, q2 12, q2 13, q2 14, q2 15, q1 0, q1 0, q1 5, q1 0, q1 0]))) H := by
  show va_at D vwCl (g 8, .inr (0, [.ref (g 9), .ref (g 10), .ref (g 11), .ref (g 12), .ref (g 13), .ref (g 14), .ref (g 15), .int 0, .int 0, .int 5, .int 0, .int 0])) H
  rw [(show g 8 = (a 10) from hg 8 (by decide)), (show g 9 = (a 11) from hg 9 (by decide)), (show g 10 = (a 12) from hg 10 (by decide)), (show g 11 = (a 13) from hg 11 (by decide)), (show g 12 = (a 14) from hg 12 (by decide)), (show g 13 = (a 15) from hg 13 (by decide)), (show g 14 = (a 16) from hg 14 (by decide)), (show g 15 = (a 17) from hg 15 (by decide))]
  exact hP 8 _ rfl
set_option maxRecDepth 100000 in
theorem hq_9 {D : va_G} {k : Nat → ClassId} {g : Nat → Nat} {H : Heap} {h : Nat} {a : Nat → Nat} {G : Nat → Nat → Int32} (hg : ∀ j : Nat, j < 85 → g j = (ADH h a).getD j 0) (hP : va_P D vwCl (HCv k h a G) H) : va_at D vwCl (g 9, q_c k g (.inl (0, 8, .inl (ti 8 (G 11))))) H := by
  rw [(show g 9 = (a 11) from hg 9 (by decide))]
  exact ti_at (hP 9 _ rfl)
set_option maxRecDepth 100000 in
theorem hq_10 {D : va_G} {k : Nat → ClassId} {g : Nat → Nat} {H : Heap} {h : Nat} {a : Nat → Nat} {G : Nat → Nat → Int32} (hg : ∀ j : Nat, j < 85 → g j = (ADH h a).getD j 0) (hP : va_P D vwCl (HCv k h a G) H) : va_at D vwCl (g 10, q_c k g (.inl (0, 8, .inl (ti 8 (G 12))))) H := by
  rw [(show g 10 = (a 12) from hg 10 (by decide))]
  exact ti_at (hP 10 _ rfl)
set_option maxRecDepth 100000 in
theorem hq_11 {D : va_G} {k : Nat → ClassId} {g : Nat → Nat} {H : Heap} {h : Nat} {a : Nat → Nat} {G : Nat → Nat → Int32} (hg : ∀ j : Nat, j < 85 → g j = (ADH h a).getD j 0) (hP : va_P D vwCl (HCv k h a G) H) : va_at D vwCl (g 11, q_c k g (.inl (0, 4, .inl (ti 4 (G 13))))) H := by
  rw [(show g 11 = (a 13) from hg 11 (by decide))]
  exact ti_at (hP 11 _ rfl)
set_option maxRecDepth 100000 in
theorem hq_12 {D : va_G} {k : Nat → ClassId} {g : Nat → Nat} {H : Heap} {h : Nat} {a : Nat → Nat} {G : Nat → Nat → Int32} (hg : ∀ j : Nat, j < 85 → g j = (ADH h a).getD j 0) (hP : va_P D vwCl (HCv k h a G) H) : va_at D vwCl (g 12, q_c k g (.inl (0, 32, .inl (ti 32 (G 14))))) H := by
  rw [(show g 12 = (a 14) from hg 12 (by decide))]
  exact ti_at (hP 12 _ rfl)
set_option maxRecDepth 100000 in
theorem hq_13 {D : va_G} {k : Nat → ClassId} {g : Nat → Nat} {H : Heap} {h : Nat} {a : Nat → Nat} {G : Nat → Nat → Int32} (hg : ∀ j : Nat, j < 85 → g j = (ADH h a).getD j 0) (hP : va_P D vwCl (HCv k h a G) H) : va_at D vwCl (g 13, q_c k g (.inl (0, 6, .inl (ti 6 (G 15))))) H := by
  rw [(show g 13 = (a 15) from hg 13 (by decide))]
  exact ti_at (hP 13 _ rfl)
set_option maxRecDepth 100000 in
theorem hq_14 {D : va_G} {k : Nat → ClassId} {g : Nat → Nat} {H : Heap} {h : Nat} {a : Nat → Nat} {G : Nat → Nat → Int32} (hg : ∀ j : Nat, j < 85 → g j = (ADH h a).getD j 0) (hP : va_P D vwCl (HCv k h a G) H) : va_at D vwCl (g 14, q_c k g (.inl (0, 6, .inl (ti 6 (G 16))))) H := by
  rw [(show g 14 = (a 16) from hg 14 (by decide))]
  exact ti_at (hP 14 _ rfl)
set_option maxRecDepth 100000 in
theorem hq_15 {D : va_G} {k : Nat → ClassId} {g : Nat → Nat} {H : Heap} {h : Nat} {a : Nat → Nat} {G : Nat → Nat → Int32} (hg : ∀ j : Nat, j < 85 → g j = (ADH h a).getD j 0) (hP : va_P D vwCl (HCv k h a G) H) : va_at D vwCl (g 15, q_c k g (.inl (0, 6, .inl (ti 6 (G 17))))) H := by
  rw [(show g 15 = (a 17) from hg 15 (by decide))]
  exact ti_at (hP 15 _ rfl)
set_option maxRecDepth 100000 in
theorem hq_16 {D : va_G} {k : Nat → ClassId} {g : Nat → Nat} {H : Heap} {h : Nat} {a : Nat → Nat} {G : Nat → Nat → Int32} (hg : ∀ j : Nat, j < 85 → g j = (ADH h a).getD j 0) (hP : va_P D vwCl (HCv k h a G) H) : va_at D vwCl (g 16, q_c k g (.inr (0, [q2 17, q2 18, q2 19, q2 20, q2 21, q2 22, q2 23, q1 0, q1 0, q1 5, q1 0, q1 0]))) H := by
  show va_at D vwCl (g 16, .inr (0, [.ref (g 17), .ref (g 18), .ref (g 19), .ref (g 20), .ref (g 21), .ref (g 22), .ref (g 23), .int 0, .int 0, .int 5, .int 0, .int 0])) H
  rw [(show g 16 = (a 20) from hg 16 (by decide)), (show g 17 = (a 21) from hg 17 (by decide)), (show g 18 = (a 22) from hg 18 (by decide)), (show g 19 = (a 23) from hg 19 (by decide)), (show g 20 = (a 24) from hg 20 (by decide)), (show g 21 = (a 25) from hg 21 (by decide)), (show g 22 = (a 26) from hg 22 (by decide)), (show g 23 = (a 27) from hg 23 (by decide))]
  exact hP 16 _ rfl
set_option maxRecDepth 100000 in
theorem hq_17 {D : va_G} {k : Nat → ClassId} {g : Nat → Nat} {H : Heap} {h : Nat} {a : Nat → Nat} {G : Nat → Nat → Int32} (hg : ∀ j : Nat, j < 85 → g j = (ADH h a).getD j 0) (hP : va_P D vwCl (HCv k h a G) H) : va_at D vwCl (g 17, q_c k g (.inl (0, 8, .inl (ti 8 (G 21))))) H := by
  rw [(show g 17 = (a 21) from hg 17 (by decide))]
  exact ti_at (hP 17 _ rfl)
set_option maxRecDepth 100000 in
theorem hq_18 {D : va_G} {k : Nat → ClassId} {g : Nat → Nat} {H : Heap} {h : Nat} {a : Nat → Nat} {G : Nat → Nat → Int32} (hg : ∀ j : Nat, j < 85 → g j = (ADH h a).getD j 0) (hP : va_P D vwCl (HCv k h a G) H) : va_at D vwCl (g 18, q_c k g (.inl (0, 8, .inl (ti 8 (G 22))))) H := by
  rw [(show g 18 = (a 22) from hg 18 (by decide))]
  exact ti_at (hP 18 _ rfl)
set_option maxRecDepth 100000 in
theorem hq_19 {D : va_G} {k : Nat → ClassId} {g : Nat → Nat} {H : Heap} {h : Nat} {a : Nat → Nat} {G : Nat → Nat → Int32} (hg : ∀ j : Nat, j < 85 → g j = (ADH h a).getD j 0) (hP : va_P D vwCl (HCv k h a G) H) : va_at D vwCl (g 19, q_c k g (.inl (0, 4, .inl (ti 4 (G 23))))) H := by
  rw [(show g 19 = (a 23) from hg 19 (by decide))]
  exact ti_at (hP 19 _ rfl)
set_option maxRecDepth 100000 in
theorem hq_20 {D : va_G} {k : Nat → ClassId} {g : Nat → Nat} {H : Heap} {h : Nat} {a : Nat → Nat} {G : Nat → Nat → Int32} (hg : ∀ j : Nat, j < 85 → g j = (ADH h a).getD j 0) (hP : va_P D vwCl (HCv k h a G) H) : va_at D vwCl (g 20, q_c k g (.inl (0, 32, .inl (ti 32 (G 24))))) H := by
  rw [(show g 20 = (a 24) from hg 20 (by decide))]
  exact ti_at (hP 20 _ rfl)
set_option maxRecDepth 100000 in
theorem hq_21 {D : va_G} {k : Nat → ClassId} {g : Nat → Nat} {H : Heap} {h : Nat} {a : Nat → Nat} {G : Nat → Nat → Int32} (hg : ∀ j : Nat, j < 85 → g j = (ADH h a).getD j 0) (hP : va_P D vwCl (HCv k h a G) H) : va_at D vwCl (g 21, q_c k g (.inl (0, 6, .inl (ti 6 (G 25))))) H := by
  rw [(show g 21 = (a 25) from hg 21 (by decide))]
  exact ti_at (hP 21 _ rfl)
set_option maxRecDepth 100000 in
theorem hq_22 {D : va_G} {k : Nat → ClassId} {g : Nat → Nat} {H : Heap} {h : Nat} {a : Nat → Nat} {G : Nat → Nat → Int32} (hg : ∀ j : Nat, j < 85 → g j = (ADH h a).getD j 0) (hP : va_P D vwCl (HCv k h a G) H) : va_at D vwCl (g 22, q_c k g (.inl (0, 6, .inl (ti 6 (G 26))))) H := by
  rw [(show g 22 = (a 26) from hg 22 (by decide))]
  exact ti_at (hP 22 _ rfl)
set_option maxRecDepth 100000 in
theorem hq_23 {D : va_G} {k : Nat → ClassId} {g : Nat → Nat} {H : Heap} {h : Nat} {a : Nat → Nat} {G : Nat → Nat → Int32} (hg : ∀ j : Nat, j < 85 → g j = (ADH h a).getD j 0) (hP : va_P D vwCl (HCv k h a G) H) : va_at D vwCl (g 23, q_c k g (.inl (0, 6, .inl (ti 6 (G 27))))) H := by
  rw [(show g 23 = (a 27) from hg 23 (by decide))]
  exact ti_at (hP 23 _ rfl)
set_option maxRecDepth 100000 in
theorem hq_24 {D : va_G} {k : Nat → ClassId} {g : Nat → Nat} {H : Heap} {h : Nat} {a : Nat → Nat} {G : Nat → Nat → Int32} (hg : ∀ j : Nat, j < 85 → g j = (ADH h a).getD j 0) (hP : va_P D vwCl (HCv k h a G) H) : va_at D vwCl (g 24, q_c k g (.inr (10, [q2 25, q2 26, q2 27, q2 28, q1 0]))) H := by
  show va_at D vwCl (g 24, .inr (10, [.ref (g 25), .ref (g 26), .ref (g 27), .ref (g 28), .int 0])) H
  rw [(show g 24 = (a 30) from hg 24 (by decide)), (show g 25 = (a 31) from hg 25 (by decide)), (show g 26 = (a 32) from hg 26 (by decide)), (show g 27 = (a 33) from hg 27 (by decide)), (show g 28 = (a 34) from hg 28 (by decide))]
  exact hP 24 _ rfl
set_option maxRecDepth 100000 in
theorem hq_25 {D : va_G} {k : Nat → ClassId} {g : Nat → Nat} {H : Heap} {h : Nat} {a : Nat → Nat} {G : Nat → Nat → Int32} (hg : ∀ j : Nat, j < 85 → g j = (ADH h a).getD j 0) (hP : va_P D vwCl (HCv k h a G) H) : va_at D vwCl (g 25, q_c k g (.inl (0, 40, .inl (fun _ => 0)))) H := by
  rw [(show g 25 = (a 31) from hg 25 (by decide))]
  exact hP 25 _ rfl
set_option maxRecDepth 100000 in
theorem hq_26 {D : va_G} {k : Nat → ClassId} {g : Nat → Nat} {H : Heap} {h : Nat} {a : Nat → Nat} {G : Nat → Nat → Int32} (hg : ∀ j : Nat, j < 85 → g j = (ADH h a).getD j 0) (hP : va_P D vwCl (HCv k h a G) H) : va_at D vwCl (g 26, q_c k g (.inl (0, 40, .inl (fun _ => 0)))) H := by
  rw [(show g 26 = (a 32) from hg 26 (by decide))]
  exact hP 26 _ rfl
set_option maxRecDepth 100000 in
theorem hq_27 {D : va_G} {k : Nat → ClassId} {g : Nat → Nat} {H : Heap} {h : Nat} {a : Nat → Nat} {G : Nat → Nat → Int32} (hg : ∀ j : Nat, j < 85 → g j = (ADH h a).getD j 0) (hP : va_P D vwCl (HCv k h a G) H) : va_at D vwCl (g 27, q_c k g (.inl (0, 40, .inl (fun _ => 0)))) H := by
  rw [(show g 27 = (a 33) from hg 27 (by decide))]
  exact hP 27 _ rfl
set_option maxRecDepth 100000 in
theorem hq_28 {D : va_G} {k : Nat → ClassId} {g : Nat → Nat} {H : Heap} {h : Nat} {a : Nat → Nat} {G : Nat → Nat → Int32} (hg : ∀ j : Nat, j < 85 → g j = (ADH h a).getD j 0) (hP : va_P D vwCl (HCv k h a G) H) : va_at D vwCl (g 28, q_c k g (.inl (0, 40, .inl (fun _ => 0)))) H := by
  rw [(show g 28 = (a 34) from hg 28 (by decide))]
  exact hP 28 _ rfl
set_option maxRecDepth 100000 in
theorem hq_29 {D : va_G} {k : Nat → ClassId} {g : Nat → Nat} {H : Heap} {h : Nat} {a : Nat → Nat} {G : Nat → Nat → Int32} (hg : ∀ j : Nat, j < 85 → g j = (ADH h a).getD j 0) (hP : va_P D vwCl (HCv k h a G) H) : va_at D vwCl (g 29, q_c k g (.inr (10, [q2 30, q2 31, q2 32, q2 33, q1 0]))) H := by
  show va_at D vwCl (g 29, .inr (10, [.ref (g 30), .ref (g 31), .ref (g 32), .ref (g 33), .int 0])) H
  rw [(show g 29 = (a 35) from hg 29 (by decide)), (show g 30 = (a 36) from hg 30 (by decide)), (show g 31 = (a 37) from hg 31 (by decide)), (show g 32 = (a 38) from hg 32 (by decide)), (show g 33 = (a 39) from hg 33 (by decide))]
  exact hP 29 _ rfl
set_option maxRecDepth 100000 in
theorem hq_30 {D : va_G} {k : Nat → ClassId} {g : Nat → Nat} {H : Heap} {h : Nat} {a : Nat → Nat} {G : Nat → Nat → Int32} (hg : ∀ j : Nat, j < 85 → g j = (ADH h a).getD j 0) (hP : va_P D vwCl (HCv k h a G) H) : va_at D vwCl (g 30, q_c k g (.inl (0, 40, .inl (fun _ => 0)))) H := by
  rw [(show g 30 = (a 36) from hg 30 (by decide))]
  exact hP 30 _ rfl
set_option maxRecDepth 100000 in
theorem hq_31 {D : va_G} {k : Nat → ClassId} {g : Nat → Nat} {H : Heap} {h : Nat} {a : Nat → Nat} {G : Nat → Nat → Int32} (hg : ∀ j : Nat, j < 85 → g j = (ADH h a).getD j 0) (hP : va_P D vwCl (HCv k h a G) H) : va_at D vwCl (g 31, q_c k g (.inl (0, 40, .inl (fun _ => 0)))) H := by
  rw [(show g 31 = (a 37) from hg 31 (by decide))]
  exact hP 31 _ rfl
set_option maxRecDepth 100000 in
theorem hq_32 {D : va_G} {k : Nat → ClassId} {g : Nat → Nat} {H : Heap} {h : Nat} {a : Nat → Nat} {G : Nat → Nat → Int32} (hg : ∀ j : Nat, j < 85 → g j = (ADH h a).getD j 0) (hP : va_P D vwCl (HCv k h a G) H) : va_at D vwCl (g 32, q_c k g (.inl (0, 40, .inl (fun _ => 0)))) H := by
  rw [(show g 32 = (a 38) from hg 32 (by decide))]
  exact hP 32 _ rfl
set_option maxRecDepth 100000 in
theorem hq_33 {D : va_G} {k : Nat → ClassId} {g : Nat → Nat} {H : Heap} {h : Nat} {a : Nat → Nat} {G : Nat → Nat → Int32} (hg : ∀ j : Nat, j < 85 → g j = (ADH h a).getD j 0) (hP : va_P D vwCl (HCv k h a G) H) : va_at D vwCl (g 33, q_c k g (.inl (0, 40, .inl (fun _ => 0)))) H := by
  rw [(show g 33 = (a 39) from hg 33 (by decide))]
  exact hP 33 _ rfl
set_option maxRecDepth 100000 in
theorem hq_34 {D : va_G} {k : Nat → ClassId} {g : Nat → Nat} {H : Heap} {h : Nat} {a : Nat → Nat} {G : Nat → Nat → Int32} (hg : ∀ j : Nat, j < 85 → g j = (ADH h a).getD j 0) (hP : va_P D vwCl (HCv k h a G) H) : va_at D vwCl (g 34, q_c k g (.inr (3, [q2 35, q1 0]))) H := by
  show va_at D vwCl (g 34, .inr (3, [.ref (g 35), .int 0])) H
  rw [(show g 34 = (a 40) from hg 34 (by decide)), (show g 35 = (a 41) from hg 35 (by decide))]
  exact hP 34 _ rfl
set_option maxRecDepth 100000 in
theorem hq_35 {D : va_G} {k : Nat → ClassId} {g : Nat → Nat} {H : Heap} {h : Nat} {a : Nat → Nat} {G : Nat → Nat → Int32} (hg : ∀ j : Nat, j < 85 → g j = (ADH h a).getD j 0) (hP : va_P D vwCl (HCv k h a G) H) : va_at D vwCl (g 35, q_c k g (.inl (0, 8, .inl (fun _ => 0)))) H := by
  rw [(show g 35 = (a 41) from hg 35 (by decide))]
  exact hP 35 _ rfl
set_option maxRecDepth 100000 in
theorem hq_36 {D : va_G} {k : Nat → ClassId} {g : Nat → Nat} {H : Heap} {h : Nat} {a : Nat → Nat} {G : Nat → Nat → Int32} (hg : ∀ j : Nat, j < 85 → g j = (ADH h a).getD j 0) (hP : va_P D vwCl (HCv k h a G) H) : va_at D vwCl (g 36, q_c k g (.inr (3, [q2 37, q1 0]))) H := by
  show va_at D vwCl (g 36, .inr (3, [.ref (g 37), .int 0])) H
  rw [(show g 36 = (a 42) from hg 36 (by decide)), (show g 37 = (a 43) from hg 37 (by decide))]
  exact hP 36 _ rfl
set_option maxRecDepth 100000 in
theorem hq_37 {D : va_G} {k : Nat → ClassId} {g : Nat → Nat} {H : Heap} {h : Nat} {a : Nat → Nat} {G : Nat → Nat → Int32} (hg : ∀ j : Nat, j < 85 → g j = (ADH h a).getD j 0) (hP : va_P D vwCl (HCv k h a G) H) : va_at D vwCl (g 37, q_c k g (.inl (0, 8, .inl (fun _ => 0)))) H := by
  rw [(show g 37 = (a 43) from hg 37 (by decide))]
  exact hP 37 _ rfl
set_option maxRecDepth 100000 in
theorem hq_38 {D : va_G} {k : Nat → ClassId} {g : Nat → Nat} {H : Heap} {h : Nat} {a : Nat → Nat} {G : Nat → Nat → Int32} (hg : ∀ j : Nat, j < 85 → g j = (ADH h a).getD j 0) (hP : va_P D vwCl (HCv k h a G) H) : va_at D vwCl (g 38, q_c k g (.inr (7, [q2 39, q2 40, q1 0]))) H := by
  show va_at D vwCl (g 38, .inr (7, [.ref (g 39), .ref (g 40), .int 0])) H
  rw [(show g 38 = (a 44) from hg 38 (by decide)), (show g 39 = (a 45) from hg 39 (by decide)), (show g 40 = (a 46) from hg 40 (by decide))]
  exact hP 38 _ rfl
set_option maxRecDepth 100000 in
theorem hq_39 {D : va_G} {k : Nat → ClassId} {g : Nat → Nat} {H : Heap} {h : Nat} {a : Nat → Nat} {G : Nat → Nat → Int32} (hg : ∀ j : Nat, j < 85 → g j = (ADH h a).getD j 0) (hP : va_P D vwCl (HCv k h a G) H) : va_at D vwCl (g 39, q_c k g (.inl (0, 10, .inl (fun _ => 0)))) H := by
  rw [(show g 39 = (a 45) from hg 39 (by decide))]
  exact hP 39 _ rfl
set_option maxRecDepth 100000 in
theorem hq_40 {D : va_G} {k : Nat → ClassId} {g : Nat → Nat} {H : Heap} {h : Nat} {a : Nat → Nat} {G : Nat → Nat → Int32} (hg : ∀ j : Nat, j < 85 → g j = (ADH h a).getD j 0) (hP : va_P D vwCl (HCv k h a G) H) : va_at D vwCl (g 40, q_c k g (.inl (0, 10, .inl (fun _ => 0)))) H := by
  rw [(show g 40 = (a 46) from hg 40 (by decide))]
  exact hP 40 _ rfl
set_option maxRecDepth 100000 in
theorem hq_41 {D : va_G} {k : Nat → ClassId} {g : Nat → Nat} {H : Heap} {h : Nat} {a : Nat → Nat} {G : Nat → Nat → Int32} (hg : ∀ j : Nat, j < 85 → g j = (ADH h a).getD j 0) (hP : va_P D vwCl (HCv k h a G) H) : va_at D vwCl (g 41, q_c k g (.inr (7, [q2 42, q2 43, q1 0]))) H := by
  show va_at D vwCl (g 41, .inr (7, [.ref (g 42), .ref (g 43), .int 0])) H
  rw [(show g 41 = (a 47) from hg 41 (by decide)), (show g 42 = (a 48) from hg 42 (by decide)), (show g 43 = (a 49) from hg 43 (by decide))]
  exact hP 41 _ rfl
set_option maxRecDepth 100000 in
theorem hq_42 {D : va_G} {k : Nat → ClassId} {g : Nat → Nat} {H : Heap} {h : Nat} {a : Nat → Nat} {G : Nat → Nat → Int32} (hg : ∀ j : Nat, j < 85 → g j = (ADH h a).getD j 0) (hP : va_P D vwCl (HCv k h a G) H) : va_at D vwCl (g 42, q_c k g (.inl (0, 10, .inl (fun _ => 0)))) H := by
  rw [(show g 42 = (a 48) from hg 42 (by decide))]
  exact hP 42 _ rfl
set_option maxRecDepth 100000 in
theorem hq_43 {D : va_G} {k : Nat → ClassId} {g : Nat → Nat} {H : Heap} {h : Nat} {a : Nat → Nat} {G : Nat → Nat → Int32} (hg : ∀ j : Nat, j < 85 → g j = (ADH h a).getD j 0) (hP : va_P D vwCl (HCv k h a G) H) : va_at D vwCl (g 43, q_c k g (.inl (0, 10, .inl (fun _ => 0)))) H := by
  rw [(show g 43 = (a 49) from hg 43 (by decide))]
  exact hP 43 _ rfl
set_option maxRecDepth 100000 in
theorem hq_44 {D : va_G} {k : Nat → ClassId} {g : Nat → Nat} {H : Heap} {h : Nat} {a : Nat → Nat} {G : Nat → Nat → Int32} (hg : ∀ j : Nat, j < 85 → g j = (ADH h a).getD j 0) (hP : va_P D vwCl (HCv k h a G) H) : va_at D vwCl (g 44, q_c k g (.inl (8, 3, .inr (.inr [none, none, none])))) H := by
  rw [(show g 44 = (a 50) from hg 44 (by decide))]
  exact rf3_at (hP 44 _ rfl)
set_option maxRecDepth 100000 in
theorem hq_45 {D : va_G} {k : Nat → ClassId} {g : Nat → Nat} {H : Heap} {h : Nat} {a : Nat → Nat} {G : Nat → Nat → Int32} (hg : ∀ j : Nat, j < 85 → g j = (ADH h a).getD j 0) (hP : va_P D vwCl (HCv k h a G) H) : va_at D vwCl (g 45, q_c k g (.inr (6, [q2 48, q2 56, q2 61, q2 63, q2 46, q2 47, q1 0, q1 0, q1 0, q1 0, q1 0, q1 0, q1 0, q1 0, q1 0]))) H := by
  show va_at D vwCl (g 45, .inr (6, [.ref (g 48), .ref (g 56), .ref (g 61), .ref (g 63), .ref (g 46), .ref (g 47), .int 0, .int 0, .int 0, .int 0, .int 0, .int 0, .int 0, .int 0, .int 0])) H
  rw [(show g 45 = (a 100) from hg 45 (by decide)), (show g 48 = (a 101) from hg 48 (by decide)), (show g 56 = (a 110) from hg 56 (by decide)), (show g 61 = (a 120) from hg 61 (by decide)), (show g 63 = (a 130) from hg 63 (by decide)), (show g 46 = (a 140) from hg 46 (by decide)), (show g 47 = (a 141) from hg 47 (by decide))]
  exact hP 45 _ rfl
set_option maxRecDepth 100000 in
theorem hq_46 {D : va_G} {k : Nat → ClassId} {g : Nat → Nat} {H : Heap} {h : Nat} {a : Nat → Nat} {G : Nat → Nat → Int32} (hg : ∀ j : Nat, j < 85 → g j = (ADH h a).getD j 0) (hP : va_P D vwCl (HCv k h a G) H) : va_at D vwCl (g 46, q_c k g (.inl (0, 3, .inl (fun _ => 0)))) H := by
  rw [(show g 46 = (a 140) from hg 46 (by decide))]
  exact hP 46 _ rfl
set_option maxRecDepth 100000 in
theorem hq_47 {D : va_G} {k : Nat → ClassId} {g : Nat → Nat} {H : Heap} {h : Nat} {a : Nat → Nat} {G : Nat → Nat → Int32} (hg : ∀ j : Nat, j < 85 → g j = (ADH h a).getD j 0) (hP : va_P D vwCl (HCv k h a G) H) : va_at D vwCl (g 47, q_c k g (.inl (1, 0, .inl (fun _ => 0)))) H := by
  rw [(show g 47 = (a 141) from hg 47 (by decide))]
  exact hP 47 _ rfl
set_option maxRecDepth 100000 in
theorem hq_48 {D : va_G} {k : Nat → ClassId} {g : Nat → Nat} {H : Heap} {h : Nat} {a : Nat → Nat} {G : Nat → Nat → Int32} (hg : ∀ j : Nat, j < 85 → g j = (ADH h a).getD j 0) (hP : va_P D vwCl (HCv k h a G) H) : va_at D vwCl (g 48, q_c k g (.inr (0, [q2 49, q2 50, q2 51, q2 52, q2 53, q2 54, q2 55, q1 0, q1 0, q1 5, q1 0, q1 0]))) H := by
  show va_at D vwCl (g 48, .inr (0, [.ref (g 49), .ref (g 50), .ref (g 51), .ref (g 52), .ref (g 53), .ref (g 54), .ref (g 55), .int 0, .int 0, .int 5, .int 0, .int 0])) H
  rw [(show g 48 = (a 101) from hg 48 (by decide)), (show g 49 = (a 102) from hg 49 (by decide)), (show g 50 = (a 103) from hg 50 (by decide)), (show g 51 = (a 104) from hg 51 (by decide)), (show g 52 = (a 105) from hg 52 (by decide)), (show g 53 = (a 106) from hg 53 (by decide)), (show g 54 = (a 107) from hg 54 (by decide)), (show g 55 = (a 108) from hg 55 (by decide))]
  exact hP 48 _ rfl
set_option maxRecDepth 100000 in
theorem hq_49 {D : va_G} {k : Nat → ClassId} {g : Nat → Nat} {H : Heap} {h : Nat} {a : Nat → Nat} {G : Nat → Nat → Int32} (hg : ∀ j : Nat, j < 85 → g j = (ADH h a).getD j 0) (hP : va_P D vwCl (HCv k h a G) H) : va_at D vwCl (g 49, q_c k g (.inl (0, 8, .inl (ti 8 (G 102))))) H := by
  rw [(show g 49 = (a 102) from hg 49 (by decide))]
  exact ti_at (hP 49 _ rfl)
set_option maxRecDepth 100000 in
theorem hq_50 {D : va_G} {k : Nat → ClassId} {g : Nat → Nat} {H : Heap} {h : Nat} {a : Nat → Nat} {G : Nat → Nat → Int32} (hg : ∀ j : Nat, j < 85 → g j = (ADH h a).getD j 0) (hP : va_P D vwCl (HCv k h a G) H) : va_at D vwCl (g 50, q_c k g (.inl (0, 8, .inl (ti 8 (G 103))))) H := by
  rw [(show g 50 = (a 103) from hg 50 (by decide))]
  exact ti_at (hP 50 _ rfl)
set_option maxRecDepth 100000 in
theorem hq_51 {D : va_G} {k : Nat → ClassId} {g : Nat → Nat} {H : Heap} {h : Nat} {a : Nat → Nat} {G : Nat → Nat → Int32} (hg : ∀ j : Nat, j < 85 → g j = (ADH h a).getD j 0) (hP : va_P D vwCl (HCv k h a G) H) : va_at D vwCl (g 51, q_c k g (.inl (0, 4, .inl (ti 4 (G 104))))) H := by
  rw [(show g 51 = (a 104) from hg 51 (by decide))]
  exact ti_at (hP 51 _ rfl)
set_option maxRecDepth 100000 in
theorem hq_52 {D : va_G} {k : Nat → ClassId} {g : Nat → Nat} {H : Heap} {h : Nat} {a : Nat → Nat} {G : Nat → Nat → Int32} (hg : ∀ j : Nat, j < 85 → g j = (ADH h a).getD j 0) (hP : va_P D vwCl (HCv k h a G) H) : va_at D vwCl (g 52, q_c k g (.inl (0, 32, .inl (ti 32 (G 105))))) H := by
  rw [(show g 52 = (a 105) from hg 52 (by decide))]
  exact ti_at (hP 52 _ rfl)
set_option maxRecDepth 100000 in
theorem hq_53 {D : va_G} {k : Nat → ClassId} {g : Nat → Nat} {H : Heap} {h : Nat} {a : Nat → Nat} {G : Nat → Nat → Int32} (hg : ∀ j : Nat, j < 85 → g j = (ADH h a).getD j 0) (hP : va_P D vwCl (HCv k h a G) H) : va_at D vwCl (g 53, q_c k g (.inl (0, 6, .inl (ti 6 (G 106))))) H := by
  rw [(show g 53 = (a 106) from hg 53 (by decide))]
  exact ti_at (hP 53 _ rfl)
set_option maxRecDepth 100000 in
theorem hq_54 {D : va_G} {k : Nat → ClassId} {g : Nat → Nat} {H : Heap} {h : Nat} {a : Nat → Nat} {G : Nat → Nat → Int32} (hg : ∀ j : Nat, j < 85 → g j = (ADH h a).getD j 0) (hP : va_P D vwCl (HCv k h a G) H) : va_at D vwCl (g 54, q_c k g (.inl (0, 6, .inl (ti 6 (G 107))))) H := by
  rw [(show g 54 = (a 107) from hg 54 (by decide))]
  exact ti_at (hP 54 _ rfl)
set_option maxRecDepth 100000 in
theorem hq_55 {D : va_G} {k : Nat → ClassId} {g : Nat → Nat} {H : Heap} {h : Nat} {a : Nat → Nat} {G : Nat → Nat → Int32} (hg : ∀ j : Nat, j < 85 → g j = (ADH h a).getD j 0) (hP : va_P D vwCl (HCv k h a G) H) : va_at D vwCl (g 55, q_c k g (.inl (0, 6, .inl (ti 6 (G 108))))) H := by
  rw [(show g 55 = (a 108) from hg 55 (by decide))]
  exact ti_at (hP 55 _ rfl)
set_option maxRecDepth 100000 in
theorem hq_56 {D : va_G} {k : Nat → ClassId} {g : Nat → Nat} {H : Heap} {h : Nat} {a : Nat → Nat} {G : Nat → Nat → Int32} (hg : ∀ j : Nat, j < 85 → g j = (ADH h a).getD j 0) (hP : va_P D vwCl (HCv k h a G) H) : va_at D vwCl (g 56, q_c k g (.inr (10, [q2 57, q2 58, q2 59, q2 60, q1 0]))) H := by
  show va_at D vwCl (g 56, .inr (10, [.ref (g 57), .ref (g 58), .ref (g 59), .ref (g 60), .int 0])) H
  rw [(show g 56 = (a 110) from hg 56 (by decide)), (show g 57 = (a 111) from hg 57 (by decide)), (show g 58 = (a 112) from hg 58 (by decide)), (show g 59 = (a 113) from hg 59 (by decide)), (show g 60 = (a 114) from hg 60 (by decide))]
  exact hP 56 _ rfl
set_option maxRecDepth 100000 in
theorem hq_57 {D : va_G} {k : Nat → ClassId} {g : Nat → Nat} {H : Heap} {h : Nat} {a : Nat → Nat} {G : Nat → Nat → Int32} (hg : ∀ j : Nat, j < 85 → g j = (ADH h a).getD j 0) (hP : va_P D vwCl (HCv k h a G) H) : va_at D vwCl (g 57, q_c k g (.inl (0, 40, .inl (fun _ => 0)))) H := by
  rw [(show g 57 = (a 111) from hg 57 (by decide))]
  exact hP 57 _ rfl
set_option maxRecDepth 100000 in
theorem hq_58 {D : va_G} {k : Nat → ClassId} {g : Nat → Nat} {H : Heap} {h : Nat} {a : Nat → Nat} {G : Nat → Nat → Int32} (hg : ∀ j : Nat, j < 85 → g j = (ADH h a).getD j 0) (hP : va_P D vwCl (HCv k h a G) H) : va_at D vwCl (g 58, q_c k g (.inl (0, 40, .inl (fun _ => 0)))) H := by
  rw [(show g 58 = (a 112) from hg 58 (by decide))]
  exact hP 58 _ rfl
set_option maxRecDepth 100000 in
theorem hq_59 {D : va_G} {k : Nat → ClassId} {g : Nat → Nat} {H : Heap} {h : Nat} {a : Nat → Nat} {G : Nat → Nat → Int32} (hg : ∀ j : Nat, j < 85 → g j = (ADH h a).getD j 0) (hP : va_P D vwCl (HCv k h a G) H) : va_at D vwCl (g 59, q_c k g (.inl (0, 40, .inl (fun _ => 0)))) H := by
  rw [(show g 59 = (a 113) from hg 59 (by decide))]
  exact hP 59 _ rfl
set_option maxRecDepth 100000 in
theorem hq_60 {D : va_G} {k : Nat → ClassId} {g : Nat → Nat} {H : Heap} {h : Nat} {a : Nat → Nat} {G : Nat → Nat → Int32} (hg : ∀ j : Nat, j < 85 → g j = (ADH h a).getD j 0) (hP : va_P D vwCl (HCv k h a G) H) : va_at D vwCl (g 60, q_c k g (.inl (0, 40, .inl (fun _ => 0)))) H := by
  rw [(show g 60 = (a 114) from hg 60 (by decide))]
  exact hP 60 _ rfl
set_option maxRecDepth 100000 in
theorem hq_61 {D : va_G} {k : Nat → ClassId} {g : Nat → Nat} {H : Heap} {h : Nat} {a : Nat → Nat} {G : Nat → Nat → Int32} (hg : ∀ j : Nat, j < 85 → g j = (ADH h a).getD j 0) (hP : va_P D vwCl (HCv k h a G) H) : va_at D vwCl (g 61, q_c k g (.inr (3, [q2 62, q1 0]))) H := by
  show va_at D vwCl (g 61, .inr (3, [.ref (g 62), .int 0])) H
  rw [(show g 61 = (a 120) from hg 61 (by decide)), (show g 62 = (a 121) from hg 62 (by decide))]
  exact hP 61 _ rfl
set_option maxRecDepth 100000 in
theorem hq_62 {D : va_G} {k : Nat → ClassId} {g : Nat → Nat} {H : Heap} {h : Nat} {a : Nat → Nat} {G : Nat → Nat → Int32} (hg : ∀ j : Nat, j < 85 → g j = (ADH h a).getD j 0) (hP : va_P D vwCl (HCv k h a G) H) : va_at D vwCl (g 62, q_c k g (.inl (0, 8, .inl (fun _ => 0)))) H := by
  rw [(show g 62 = (a 121) from hg 62 (by decide))]
  exact hP 62 _ rfl
set_option maxRecDepth 100000 in
theorem hq_63 {D : va_G} {k : Nat → ClassId} {g : Nat → Nat} {H : Heap} {h : Nat} {a : Nat → Nat} {G : Nat → Nat → Int32} (hg : ∀ j : Nat, j < 85 → g j = (ADH h a).getD j 0) (hP : va_P D vwCl (HCv k h a G) H) : va_at D vwCl (g 63, q_c k g (.inr (7, [q2 64, q2 65, q1 0]))) H := by
  show va_at D vwCl (g 63, .inr (7, [.ref (g 64), .ref (g 65), .int 0])) H
  rw [(show g 63 = (a 130) from hg 63 (by decide)), (show g 64 = (a 131) from hg 64 (by decide)), (show g 65 = (a 132) from hg 65 (by decide))]
  exact hP 63 _ rfl
set_option maxRecDepth 100000 in
theorem hq_64 {D : va_G} {k : Nat → ClassId} {g : Nat → Nat} {H : Heap} {h : Nat} {a : Nat → Nat} {G : Nat → Nat → Int32} (hg : ∀ j : Nat, j < 85 → g j = (ADH h a).getD j 0) (hP : va_P D vwCl (HCv k h a G) H) : va_at D vwCl (g 64, q_c k g (.inl (0, 10, .inl (fun _ => 0)))) H := by
  rw [(show g 64 = (a 131) from hg 64 (by decide))]
  exact hP 64 _ rfl
set_option maxRecDepth 100000 in
theorem hq_65 {D : va_G} {k : Nat → ClassId} {g : Nat → Nat} {H : Heap} {h : Nat} {a : Nat → Nat} {G : Nat → Nat → Int32} (hg : ∀ j : Nat, j < 85 → g j = (ADH h a).getD j 0) (hP : va_P D vwCl (HCv k h a G) H) : va_at D vwCl (g 65, q_c k g (.inl (0, 10, .inl (fun _ => 0)))) H := by
  rw [(show g 65 = (a 132) from hg 65 (by decide))]
  exact hP 65 _ rfl
set_option maxRecDepth 100000 in
theorem hq_66 {D : va_G} {k : Nat → ClassId} {g : Nat → Nat} {H : Heap} {h : Nat} {a : Nat → Nat} {G : Nat → Nat → Int32} (hg : ∀ j : Nat, j < 85 → g j = (ADH h a).getD j 0) (hP : va_P D vwCl (HCv k h a G) H) : va_at D vwCl (g 66, q_c k g (.inr (9, [q2 67, q2 68, q2 69, q1 0, q1 0]))) H := by
  show va_at D vwCl (g 66, .inr (9, [.ref (g 67), .ref (g 68), .ref (g 69), .int 0, .int 0])) H
  rw [(show g 66 = (a 150) from hg 66 (by decide)), (show g 67 = (a 160) from hg 67 (by decide)), (show g 68 = (a 161) from hg 68 (by decide)), (show g 69 = (a 162) from hg 69 (by decide))]
  exact hP 66 _ rfl
set_option maxRecDepth 100000 in
theorem hq_67 {D : va_G} {k : Nat → ClassId} {g : Nat → Nat} {H : Heap} {h : Nat} {a : Nat → Nat} {G : Nat → Nat → Int32} (hg : ∀ j : Nat, j < 85 → g j = (ADH h a).getD j 0) (hP : va_P D vwCl (HCv k h a G) H) : va_at D vwCl (g 67, q_c k g (.inl (0, 8, .inl (fun _ => 0)))) H := by
  rw [(show g 67 = (a 160) from hg 67 (by decide))]
  exact hP 67 _ rfl
set_option maxRecDepth 100000 in
theorem hq_68 {D : va_G} {k : Nat → ClassId} {g : Nat → Nat} {H : Heap} {h : Nat} {a : Nat → Nat} {G : Nat → Nat → Int32} (hg : ∀ j : Nat, j < 85 → g j = (ADH h a).getD j 0) (hP : va_P D vwCl (HCv k h a G) H) : va_at D vwCl (g 68, q_c k g (.inl (0, 512, .inl (fun _ => 0)))) H := by
  rw [(show g 68 = (a 161) from hg 68 (by decide))]
  exact hP 68 _ rfl
set_option maxRecDepth 100000 in
theorem hq_69 {D : va_G} {k : Nat → ClassId} {g : Nat → Nat} {H : Heap} {h : Nat} {a : Nat → Nat} {G : Nat → Nat → Int32} (hg : ∀ j : Nat, j < 85 → g j = (ADH h a).getD j 0) (hP : va_P D vwCl (HCv k h a G) H) : va_at D vwCl (g 69, q_c k g (.inl (0, 512, .inl (fun _ => 0)))) H := by
  rw [(show g 69 = (a 162) from hg 69 (by decide))]
  exact hP 69 _ rfl
set_option maxRecDepth 100000 in
theorem hq_70 {D : va_G} {k : Nat → ClassId} {g : Nat → Nat} {H : Heap} {h : Nat} {a : Nat → Nat} {G : Nat → Nat → Int32} (hg : ∀ j : Nat, j < 85 → g j = (ADH h a).getD j 0) (hP : va_P D vwCl (HCv k h a G) H) : va_at D vwCl (g 70, q_c k g (.inr (5, [q2 71, q1 0, q1 0]))) H := by
  show va_at D vwCl (g 70, .inr (5, [.ref (g 71), .int 0, .int 0])) H
  rw [(show g 70 = (a 151) from hg 70 (by decide)), (show g 71 = (a 163) from hg 71 (by decide))]
  exact hP 70 _ rfl
set_option maxRecDepth 100000 in
theorem hq_71 {D : va_G} {k : Nat → ClassId} {g : Nat → Nat} {H : Heap} {h : Nat} {a : Nat → Nat} {G : Nat → Nat → Int32} (hg : ∀ j : Nat, j < 85 → g j = (ADH h a).getD j 0) (hP : va_P D vwCl (HCv k h a G) H) : va_at D vwCl (g 71, q_c k g (.inl (0, 1792, .inl (fun _ => 0)))) H := by
  rw [(show g 71 = (a 163) from hg 71 (by decide))]
  exact hP 71 _ rfl
set_option maxRecDepth 100000 in
theorem hq_72 {D : va_G} {k : Nat → ClassId} {g : Nat → Nat} {H : Heap} {h : Nat} {a : Nat → Nat} {G : Nat → Nat → Int32} (hg : ∀ j : Nat, j < 85 → g j = (ADH h a).getD j 0) (hP : va_P D vwCl (HCv k h a G) H) : va_at D vwCl (g 72, q_c k g (.inr (4, [q2 73, q2 74, q2 75, q1 0]))) H := by
  show va_at D vwCl (g 72, .inr (4, [.ref (g 73), .ref (g 74), .ref (g 75), .int 0])) H
  rw [(show g 72 = (a 152) from hg 72 (by decide)), (show g 73 = (a 164) from hg 73 (by decide)), (show g 74 = (a 165) from hg 74 (by decide)), (show g 75 = (a 166) from hg 75 (by decide))]
  exact hP 72 _ rfl
set_option maxRecDepth 100000 in
theorem hq_73 {D : va_G} {k : Nat → ClassId} {g : Nat → Nat} {H : Heap} {h : Nat} {a : Nat → Nat} {G : Nat → Nat → Int32} (hg : ∀ j : Nat, j < 85 → g j = (ADH h a).getD j 0) (hP : va_P D vwCl (HCv k h a G) H) : va_at D vwCl (g 73, q_c k g (.inl (0, 700, .inl (fun _ => 0)))) H := by
  rw [(show g 73 = (a 164) from hg 73 (by decide))]
  exact hP 73 _ rfl
set_option maxRecDepth 100000 in
theorem hq_74 {D : va_G} {k : Nat → ClassId} {g : Nat → Nat} {H : Heap} {h : Nat} {a : Nat → Nat} {G : Nat → Nat → Int32} (hg : ∀ j : Nat, j < 85 → g j = (ADH h a).getD j 0) (hP : va_P D vwCl (HCv k h a G) H) : va_at D vwCl (g 74, q_c k g (.inl (0, 9, .inl (fun _ => 0)))) H := by
  rw [(show g 74 = (a 165) from hg 74 (by decide))]
  exact hP 74 _ rfl
set_option maxRecDepth 100000 in
theorem hq_75 {D : va_G} {k : Nat → ClassId} {g : Nat → Nat} {H : Heap} {h : Nat} {a : Nat → Nat} {G : Nat → Nat → Int32} (hg : ∀ j : Nat, j < 85 → g j = (ADH h a).getD j 0) (hP : va_P D vwCl (HCv k h a G) H) : va_at D vwCl (g 75, q_c k g (.inl (0, 9, .inl (fun _ => 0)))) H := by
  rw [(show g 75 = (a 166) from hg 75 (by decide))]
  exact hP 75 _ rfl
set_option maxRecDepth 100000 in
theorem hq_76 {D : va_G} {k : Nat → ClassId} {g : Nat → Nat} {H : Heap} {h : Nat} {a : Nat → Nat} {G : Nat → Nat → Int32} (hg : ∀ j : Nat, j < 85 → g j = (ADH h a).getD j 0) (hP : va_P D vwCl (HCv k h a G) H) : va_at D vwCl (g 76, q_c k g (.inr (2, [q2 77, q2 78, q2 79, q2 80, q1 0]))) H := by
  show va_at D vwCl (g 76, .inr (2, [.ref (g 77), .ref (g 78), .ref (g 79), .ref (g 80), .int 0])) H
  rw [(show g 76 = (a 153) from hg 76 (by decide)), (show g 77 = (a 167) from hg 77 (by decide)), (show g 78 = (a 168) from hg 78 (by decide)), (show g 79 = (a 169) from hg 79 (by decide)), (show g 80 = (a 170) from hg 80 (by decide))]
  exact hP 76 _ rfl
set_option maxRecDepth 100000 in
theorem hq_77 {D : va_G} {k : Nat → ClassId} {g : Nat → Nat} {H : Heap} {h : Nat} {a : Nat → Nat} {G : Nat → Nat → Int32} (hg : ∀ j : Nat, j < 85 → g j = (ADH h a).getD j 0) (hP : va_P D vwCl (HCv k h a G) H) : va_at D vwCl (g 77, q_c k g (.inl (3, 657, .inr (.inl (fun _ => 0))))) H := by
  rw [(show g 77 = (a 167) from hg 77 (by decide))]
  exact hP 77 _ rfl
set_option maxRecDepth 100000 in
theorem hq_78 {D : va_G} {k : Nat → ClassId} {g : Nat → Nat} {H : Heap} {h : Nat} {a : Nat → Nat} {G : Nat → Nat → Int32} (hg : ∀ j : Nat, j < 85 → g j = (ADH h a).getD j 0) (hP : va_P D vwCl (HCv k h a G) H) : va_at D vwCl (g 78, q_c k g (.inl (3, 72, .inr (.inl (fun _ => 0))))) H := by
  rw [(show g 78 = (a 168) from hg 78 (by decide))]
  exact hP 78 _ rfl
set_option maxRecDepth 100000 in
theorem hq_79 {D : va_G} {k : Nat → ClassId} {g : Nat → Nat} {H : Heap} {h : Nat} {a : Nat → Nat} {G : Nat → Nat → Int32} (hg : ∀ j : Nat, j < 85 → g j = (ADH h a).getD j 0) (hP : va_P D vwCl (HCv k h a G) H) : va_at D vwCl (g 79, q_c k g (.inl (3, 9, .inr (.inl (fun _ => 0))))) H := by
  rw [(show g 79 = (a 169) from hg 79 (by decide))]
  exact hP 79 _ rfl
set_option maxRecDepth 100000 in
theorem hq_80 {D : va_G} {k : Nat → ClassId} {g : Nat → Nat} {H : Heap} {h : Nat} {a : Nat → Nat} {G : Nat → Nat → Int32} (hg : ∀ j : Nat, j < 85 → g j = (ADH h a).getD j 0) (hP : va_P D vwCl (HCv k h a G) H) : va_at D vwCl (g 80, q_c k g (.inl (0, 8, .inl (fun _ => 0)))) H := by
  rw [(show g 80 = (a 170) from hg 80 (by decide))]
  exact hP 80 _ rfl
set_option maxRecDepth 100000 in
theorem hq_81 {D : va_G} {k : Nat → ClassId} {g : Nat → Nat} {H : Heap} {h : Nat} {a : Nat → Nat} {G : Nat → Nat → Int32} (hg : ∀ j : Nat, j < 85 → g j = (ADH h a).getD j 0) (hP : va_P D vwCl (HCv k h a G) H) : va_at D vwCl (g 81, q_c k g (.inr (1, [q2 82, q2 83, q2 84]))) H := by
  show va_at D vwCl (g 81, .inr (1, [.ref (g 82), .ref (g 83), .ref (g 84)])) H
  rw [(show g 81 = (a 154) from hg 81 (by decide)), (show g 82 = (a 171) from hg 82 (by decide)), (show g 83 = (a 172) from hg 83 (by decide)), (show g 84 = (a 173) from hg 84 (by decide))]
  exact hP 81 _ rfl
set_option maxRecDepth 100000 in
theorem hq_82 {D : va_G} {k : Nat → ClassId} {g : Nat → Nat} {H : Heap} {h : Nat} {a : Nat → Nat} {G : Nat → Nat → Int32} (hg : ∀ j : Nat, j < 85 → g j = (ADH h a).getD j 0) (hP : va_P D vwCl (HCv k h a G) H) : va_at D vwCl (g 82, q_c k g (.inl (0, 8, .inl (fun _ => 0)))) H := by
  rw [(show g 82 = (a 171) from hg 82 (by decide))]
  exact hP 82 _ rfl
set_option maxRecDepth 100000 in
theorem hq_83 {D : va_G} {k : Nat → ClassId} {g : Nat → Nat} {H : Heap} {h : Nat} {a : Nat → Nat} {G : Nat → Nat → Int32} (hg : ∀ j : Nat, j < 85 → g j = (ADH h a).getD j 0) (hP : va_P D vwCl (HCv k h a G) H) : va_at D vwCl (g 83, q_c k g (.inl (0, 256, .inl (fun _ => 0)))) H := by
  rw [(show g 83 = (a 172) from hg 83 (by decide))]
  exact hP 83 _ rfl
set_option maxRecDepth 100000 in
theorem hq_84 {D : va_G} {k : Nat → ClassId} {g : Nat → Nat} {H : Heap} {h : Nat} {a : Nat → Nat} {G : Nat → Nat → Int32} (hg : ∀ j : Nat, j < 85 → g j = (ADH h a).getD j 0) (hP : va_P D vwCl (HCv k h a G) H) : va_at D vwCl (g 84, q_c k g (.inl (3, 9, .inr (.inl (fun _ => 0))))) H := by
  rw [(show g 84 = (a 173) from hg 84 (by decide))]
  exact hP 84 _ rfl
set_option maxRecDepth 100000 in
theorem hq_85 {D : va_G} {k : Nat → ClassId} {g : Nat → Nat} {H : Heap} {h : Nat} {a : Nat → Nat} (hg : ∀ j : Nat, j < 26 → g (85 + j) = (ADM h a).getD j 0) (hP : va_P D vwCl (MCv k h a) H) : va_at D vwCl (g 85, q_c k g (.inr (12, [q1 0, q2 86, q2 87, q2 88, q2 89, q2 90, q2 91, q2 92, q2 93, q2 94, q1 0, q1 0, q1 0, q1 0, q1 0, q3 0, q1 0, q1 0, q1 0, q2 95, q2 96, q1 0, q1 0, q1 0, q1 0, q1 0, q1 0, q2 97, q1 0, q2 98, q2 99, q2 100, q2 101, q1 0, q2 102, q1 0, q2 103, q2 104, q2 105, q2 106, q2 107, q1 0, q2 108, q2 109, q2 110]))) H := by
  show va_at D vwCl (g 85, .inr (12, [.int 0, .ref (g 86), .ref (g 87), .ref (g 88), .ref (g 89), .ref (g 90), .ref (g 91), .ref (g 92), .ref (g 93), .ref (g 94), .int 0, .int 0, .int 0, .int 0, .int 0, .long 0, .int 0, .int 0, .int 0, .ref (g 95), .ref (g 96), .int 0, .int 0, .int 0, .int 0, .int 0, .int 0, .ref (g 97), .int 0, .ref (g 98), .ref (g 99), .ref (g 100), .ref (g 101), .int 0, .ref (g 102), .int 0, .ref (g 103), .ref (g 104), .ref (g 105), .ref (g 106), .ref (g 107), .int 0, .ref (g 108), .ref (g 109), .ref (g 110)])) H
  rw [(show g 85 = h from hg 0 (by decide)), (show g 86 = (a 1) from hg 1 (by decide)), (show g 87 = (a 2) from hg 2 (by decide)), (show g 88 = (a 3) from hg 3 (by decide)), (show g 89 = (a 4) from hg 4 (by decide)), (show g 90 = (a 5) from hg 5 (by decide)), (show g 91 = (a 6) from hg 6 (by decide)), (show g 92 = (a 7) from hg 7 (by decide)), (show g 93 = (a 8) from hg 8 (by decide)), (show g 94 = (a 9) from hg 9 (by decide)), (show g 95 = (a 19) from hg 10 (by decide)), (show g 96 = (a 20) from hg 11 (by decide)), (show g 97 = (a 27) from hg 12 (by decide)), (show g 98 = (a 29) from hg 13 (by decide)), (show g 99 = (a 30) from hg 14 (by decide)), (show g 100 = (a 31) from hg 15 (by decide)), (show g 101 = (a 32) from hg 16 (by decide)), (show g 102 = (a 34) from hg 17 (by decide)), (show g 103 = (a 36) from hg 18 (by decide)), (show g 104 = (a 37) from hg 19 (by decide)), (show g 105 = (a 38) from hg 20 (by decide)), (show g 106 = (a 39) from hg 21 (by decide)), (show g 107 = (a 40) from hg 22 (by decide)), (show g 108 = (a 42) from hg 23 (by decide)), (show g 109 = (a 43) from hg 24 (by decide)), (show g 110 = (a 44) from hg 25 (by decide))]
  exact hP 0 _ rfl
set_option maxRecDepth 100000 in
theorem hq_86 {D : va_G} {k : Nat → ClassId} {g : Nat → Nat} {H : Heap} {h : Nat} {a : Nat → Nat} (hg : ∀ j : Nat, j < 26 → g (85 + j) = (ADM h a).getD j 0) (hP : va_P D vwCl (MCv k h a) H) : va_at D vwCl (g 86, q_c k g (.inl (1, 2400, .inl (fun _ => 0)))) H := by
  rw [(show g 86 = (a 1) from hg 1 (by decide))]
  exact hP 1 _ rfl
set_option maxRecDepth 100000 in
theorem hq_87 {D : va_G} {k : Nat → ClassId} {g : Nat → Nat} {H : Heap} {h : Nat} {a : Nat → Nat} (hg : ∀ j : Nat, j < 26 → g (85 + j) = (ADM h a).getD j 0) (hP : va_P D vwCl (MCv k h a) H) : va_at D vwCl (g 87, q_c k g (.inl (0, 4, .inl (fun _ => 0)))) H := by
  rw [(show g 87 = (a 2) from hg 2 (by decide))]
  exact hP 2 _ rfl
set_option maxRecDepth 100000 in
theorem hq_88 {D : va_G} {k : Nat → ClassId} {g : Nat → Nat} {H : Heap} {h : Nat} {a : Nat → Nat} (hg : ∀ j : Nat, j < 26 → g (85 + j) = (ADM h a).getD j 0) (hP : va_P D vwCl (MCv k h a) H) : va_at D vwCl (g 88, q_c k g (.inl (0, 4, .inl (fun _ => 0)))) H := by
  rw [(show g 88 = (a 3) from hg 3 (by decide))]
  exact hP 3 _ rfl
set_option maxRecDepth 100000 in
theorem hq_89 {D : va_G} {k : Nat → ClassId} {g : Nat → Nat} {H : Heap} {h : Nat} {a : Nat → Nat} (hg : ∀ j : Nat, j < 26 → g (85 + j) = (ADM h a).getD j 0) (hP : va_P D vwCl (MCv k h a) H) : va_at D vwCl (g 89, q_c k g (.inl (0, 4, .inl (fun i => if i = 0 then -1 else 0)))) H := by
  rw [(show g 89 = (a 4) from hg 4 (by decide))]
  exact up1_at (hP 4 _ rfl)
set_option maxRecDepth 100000 in
theorem hq_90 {D : va_G} {k : Nat → ClassId} {g : Nat → Nat} {H : Heap} {h : Nat} {a : Nat → Nat} (hg : ∀ j : Nat, j < 26 → g (85 + j) = (ADM h a).getD j 0) (hP : va_P D vwCl (MCv k h a) H) : va_at D vwCl (g 90, q_c k g (.inl (0, 16, .inl (fun _ => 0)))) H := by
  rw [(show g 90 = (a 5) from hg 5 (by decide))]
  exact hP 5 _ rfl
set_option maxRecDepth 100000 in
theorem hq_91 {D : va_G} {k : Nat → ClassId} {g : Nat → Nat} {H : Heap} {h : Nat} {a : Nat → Nat} (hg : ∀ j : Nat, j < 26 → g (85 + j) = (ADM h a).getD j 0) (hP : va_P D vwCl (MCv k h a) H) : va_at D vwCl (g 91, q_c k g (.inl (0, 600, .inl (fun _ => 0)))) H := by
  rw [(show g 91 = (a 6) from hg 6 (by decide))]
  exact hP 6 _ rfl
set_option maxRecDepth 100000 in
theorem hq_92 {D : va_G} {k : Nat → ClassId} {g : Nat → Nat} {H : Heap} {h : Nat} {a : Nat → Nat} (hg : ∀ j : Nat, j < 26 → g (85 + j) = (ADM h a).getD j 0) (hP : va_P D vwCl (MCv k h a) H) : va_at D vwCl (g 92, q_c k g (.inl (0, 1288, .inl (fun _ => 0)))) H := by
  rw [(show g 92 = (a 7) from hg 7 (by decide))]
  exact hP 7 _ rfl
set_option maxRecDepth 100000 in
theorem hq_93 {D : va_G} {k : Nat → ClassId} {g : Nat → Nat} {H : Heap} {h : Nat} {a : Nat → Nat} (hg : ∀ j : Nat, j < 26 → g (85 + j) = (ADM h a).getD j 0) (hP : va_P D vwCl (MCv k h a) H) : va_at D vwCl (g 93, q_c k g (.inl (0, 72, .inl (fun _ => 0)))) H := by
  rw [(show g 93 = (a 8) from hg 8 (by decide))]
  exact hP 8 _ rfl
set_option maxRecDepth 100000 in
theorem hq_94 {D : va_G} {k : Nat → ClassId} {g : Nat → Nat} {H : Heap} {h : Nat} {a : Nat → Nat} (hg : ∀ j : Nat, j < 26 → g (85 + j) = (ADM h a).getD j 0) (hP : va_P D vwCl (MCv k h a) H) : va_at D vwCl (g 94, q_c k g (.inl (0, 168, .inl (fun _ => 0)))) H := by
  rw [(show g 94 = (a 9) from hg 9 (by decide))]
  exact hP 9 _ rfl
set_option maxRecDepth 100000 in
theorem hq_95 {D : va_G} {k : Nat → ClassId} {g : Nat → Nat} {H : Heap} {h : Nat} {a : Nat → Nat} (hg : ∀ j : Nat, j < 26 → g (85 + j) = (ADM h a).getD j 0) (hP : va_P D vwCl (MCv k h a) H) : va_at D vwCl (g 95, q_c k g (.inl (0, 161, .inl (fun _ => 0)))) H := by
  rw [(show g 95 = (a 19) from hg 10 (by decide))]
  exact hP 10 _ rfl
set_option maxRecDepth 100000 in
theorem hq_96 {D : va_G} {k : Nat → ClassId} {g : Nat → Nat} {H : Heap} {h : Nat} {a : Nat → Nat} (hg : ∀ j : Nat, j < 26 → g (85 + j) = (ADM h a).getD j 0) (hP : va_P D vwCl (MCv k h a) H) : va_at D vwCl (g 96, q_c k g (.inl (0, 4, .inl (fun _ => 0)))) H := by
  rw [(show g 96 = (a 20) from hg 11 (by decide))]
  exact hP 11 _ rfl
set_option maxRecDepth 100000 in
theorem hq_97 {D : va_G} {k : Nat → ClassId} {g : Nat → Nat} {H : Heap} {h : Nat} {a : Nat → Nat} (hg : ∀ j : Nat, j < 26 → g (85 + j) = (ADM h a).getD j 0) (hP : va_P D vwCl (MCv k h a) H) : va_at D vwCl (g 97, q_c k g (.inl (0, 8, .inl (fun _ => 0)))) H := by
  rw [(show g 97 = (a 27) from hg 12 (by decide))]
  exact hP 12 _ rfl
set_option maxRecDepth 100000 in
theorem hq_98 {D : va_G} {k : Nat → ClassId} {g : Nat → Nat} {H : Heap} {h : Nat} {a : Nat → Nat} (hg : ∀ j : Nat, j < 26 → g (85 + j) = (ADM h a).getD j 0) (hP : va_P D vwCl (MCv k h a) H) : va_at D vwCl (g 98, q_c k g (.inl (0, 12544, .inl (fun _ => 0)))) H := by
  rw [(show g 98 = (a 29) from hg 13 (by decide))]
  exact hP 13 _ rfl
set_option maxRecDepth 100000 in
theorem hq_99 {D : va_G} {k : Nat → ClassId} {g : Nat → Nat} {H : Heap} {h : Nat} {a : Nat → Nat} (hg : ∀ j : Nat, j < 26 → g (85 + j) = (ADM h a).getD j 0) (hP : va_P D vwCl (MCv k h a) H) : va_at D vwCl (g 99, q_c k g (.inl (0, 700, .inl (fun _ => 0)))) H := by
  rw [(show g 99 = (a 30) from hg 14 (by decide))]
  exact hP 14 _ rfl
set_option maxRecDepth 100000 in
theorem hq_100 {D : va_G} {k : Nat → ClassId} {g : Nat → Nat} {H : Heap} {h : Nat} {a : Nat → Nat} (hg : ∀ j : Nat, j < 26 → g (85 + j) = (ADM h a).getD j 0) (hP : va_P D vwCl (MCv k h a) H) : va_at D vwCl (g 100, q_c k g (.inl (0, 256, .inl (fun _ => 0)))) H := by
  rw [(show g 100 = (a 31) from hg 15 (by decide))]
  exact hP 15 _ rfl
set_option maxRecDepth 100000 in
theorem hq_101 {D : va_G} {k : Nat → ClassId} {g : Nat → Nat} {H : Heap} {h : Nat} {a : Nat → Nat} (hg : ∀ j : Nat, j < 26 → g (85 + j) = (ADM h a).getD j 0) (hP : va_P D vwCl (MCv k h a) H) : va_at D vwCl (g 101, q_c k g (.inl (0, 8, .inl (fun _ => 0)))) H := by
  rw [(show g 101 = (a 32) from hg 16 (by decide))]
  exact hP 16 _ rfl
set_option maxRecDepth 100000 in
theorem hq_102 {D : va_G} {k : Nat → ClassId} {g : Nat → Nat} {H : Heap} {h : Nat} {a : Nat → Nat} (hg : ∀ j : Nat, j < 26 → g (85 + j) = (ADM h a).getD j 0) (hP : va_P D vwCl (MCv k h a) H) : va_at D vwCl (g 102, q_c k g (.inl (0, 8, .inl (fun _ => 0)))) H := by
  rw [(show g 102 = (a 34) from hg 17 (by decide))]
  exact hP 17 _ rfl
set_option maxRecDepth 100000 in
theorem hq_103 {D : va_G} {k : Nat → ClassId} {g : Nat → Nat} {H : Heap} {h : Nat} {a : Nat → Nat} (hg : ∀ j : Nat, j < 26 → g (85 + j) = (ADM h a).getD j 0) (hP : va_P D vwCl (MCv k h a) H) : va_at D vwCl (g 103, q_c k g (.inl (3, 72, .inr (.inl (fun _ => 0))))) H := by
  rw [(show g 103 = (a 36) from hg 18 (by decide))]
  exact hP 18 _ rfl
set_option maxRecDepth 100000 in
theorem hq_104 {D : va_G} {k : Nat → ClassId} {g : Nat → Nat} {H : Heap} {h : Nat} {a : Nat → Nat} (hg : ∀ j : Nat, j < 26 → g (85 + j) = (ADM h a).getD j 0) (hP : va_P D vwCl (MCv k h a) H) : va_at D vwCl (g 104, q_c k g (.inl (3, 9, .inr (.inl (fun _ => 0))))) H := by
  rw [(show g 104 = (a 37) from hg 19 (by decide))]
  exact hP 19 _ rfl
set_option maxRecDepth 100000 in
theorem hq_105 {D : va_G} {k : Nat → ClassId} {g : Nat → Nat} {H : Heap} {h : Nat} {a : Nat → Nat} (hg : ∀ j : Nat, j < 26 → g (85 + j) = (ADM h a).getD j 0) (hP : va_P D vwCl (MCv k h a) H) : va_at D vwCl (g 105, q_c k g (.inl (3, 9, .inr (.inl (fun _ => 0))))) H := by
  rw [(show g 105 = (a 38) from hg 20 (by decide))]
  exact hP 20 _ rfl
set_option maxRecDepth 100000 in
theorem hq_106 {D : va_G} {k : Nat → ClassId} {g : Nat → Nat} {H : Heap} {h : Nat} {a : Nat → Nat} (hg : ∀ j : Nat, j < 26 → g (85 + j) = (ADM h a).getD j 0) (hP : va_P D vwCl (MCv k h a) H) : va_at D vwCl (g 106, q_c k g (.inl (3, 100, .inr (.inl (fun _ => 0))))) H := by
  rw [(show g 106 = (a 39) from hg 21 (by decide))]
  exact hP 21 _ rfl
set_option maxRecDepth 100000 in
theorem hq_107 {D : va_G} {k : Nat → ClassId} {g : Nat → Nat} {H : Heap} {h : Nat} {a : Nat → Nat} (hg : ∀ j : Nat, j < 26 → g (85 + j) = (ADM h a).getD j 0) (hP : va_P D vwCl (MCv k h a) H) : va_at D vwCl (g 107, q_c k g (.inl (3, 100, .inr (.inl (fun _ => 0))))) H := by
  rw [(show g 107 = (a 40) from hg 22 (by decide))]
  exact hP 22 _ rfl
set_option maxRecDepth 100000 in
theorem hq_108 {D : va_G} {k : Nat → ClassId} {g : Nat → Nat} {H : Heap} {h : Nat} {a : Nat → Nat} (hg : ∀ j : Nat, j < 26 → g (85 + j) = (ADM h a).getD j 0) (hP : va_P D vwCl (MCv k h a) H) : va_at D vwCl (g 108, q_c k g (.inl (3, 2304, .inr (.inl (fun _ => 0))))) H := by
  rw [(show g 108 = (a 42) from hg 23 (by decide))]
  exact hP 23 _ rfl
set_option maxRecDepth 100000 in
theorem hq_109 {D : va_G} {k : Nat → ClassId} {g : Nat → Nat} {H : Heap} {h : Nat} {a : Nat → Nat} (hg : ∀ j : Nat, j < 26 → g (85 + j) = (ADM h a).getD j 0) (hP : va_P D vwCl (MCv k h a) H) : va_at D vwCl (g 109, q_c k g (.inl (0, 512, .inl (fun _ => 0)))) H := by
  rw [(show g 109 = (a 43) from hg 24 (by decide))]
  exact hP 24 _ rfl
set_option maxRecDepth 100000 in
theorem hq_110 {D : va_G} {k : Nat → ClassId} {g : Nat → Nat} {H : Heap} {h : Nat} {a : Nat → Nat} (hg : ∀ j : Nat, j < 26 → g (85 + j) = (ADM h a).getD j 0) (hP : va_P D vwCl (MCv k h a) H) : va_at D vwCl (g 110, q_c k g (.inl (2, 3, .inl (fun _ => 0)))) H := by
  rw [(show g 110 = (a 44) from hg 25 (by decide))]
  exact hP 25 _ rfl
set_option maxRecDepth 100000 in
theorem W0_QL {D : va_G} {k : Nat → ClassId} {g : Nat → Nat} {H : Heap} {h hm : Nat} {a am : Nat → Nat} {G : Nat → Nat → Int32} (hg : ∀ j : Nat, j < 85 → g j = (ADH h a).getD j 0) (hg2 : ∀ j : Nat, j < 26 → g (85 + j) = (ADM hm am).getD j 0) (hP : va_P D vwCl (HCv k h a G) H) (hP2 : va_P D vwCl (MCv k hm am) H) : QL D k g H (List.range 111) (W0 G) := ⟨hq_0 hg hP, hq_1 hg hP, hq_2 hg hP, hq_3 hg hP, hq_4 hg hP, hq_5 hg hP, hq_6 hg hP, hq_7 hg hP, hq_8 hg hP, hq_9 hg hP, hq_10 hg hP, hq_11 hg hP, hq_12 hg hP, hq_13 hg hP, hq_14 hg hP, hq_15 hg hP, hq_16 hg hP, hq_17 hg hP, hq_18 hg hP, hq_19 hg hP, hq_20 hg hP, hq_21 hg hP, hq_22 hg hP, hq_23 hg hP, hq_24 hg hP, hq_25 hg hP, hq_26 hg hP, hq_27 hg hP, hq_28 hg hP, hq_29 hg hP, hq_30 hg hP, hq_31 hg hP, hq_32 hg hP, hq_33 hg hP, hq_34 hg hP, hq_35 hg hP, hq_36 hg hP, hq_37 hg hP, hq_38 hg hP, hq_39 hg hP, hq_40 hg hP, hq_41 hg hP, hq_42 hg hP, hq_43 hg hP, hq_44 hg hP, hq_45 hg hP, hq_46 hg hP, hq_47 hg hP, hq_48 hg hP, hq_49 hg hP, hq_50 hg hP, hq_51 hg hP, hq_52 hg hP, hq_53 hg hP, hq_54 hg hP, hq_55 hg hP, hq_56 hg hP, hq_57 hg hP, hq_58 hg hP, hq_59 hg hP, hq_60 hg hP, hq_61 hg hP, hq_62 hg hP, hq_63 hg hP, hq_64 hg hP, hq_65 hg hP, hq_66 hg hP, hq_67 hg hP, hq_68 hg hP, hq_69 hg hP, hq_70 hg hP, hq_71 hg hP, hq_72 hg hP, hq_73 hg hP, hq_74 hg hP, hq_75 hg hP, hq_76 hg hP, hq_77 hg hP, hq_78 hg hP, hq_79 hg hP, hq_80 hg hP, hq_81 hg hP, hq_82 hg hP, hq_83 hg hP, hq_84 hg hP, hq_85 hg2 hP2, hq_86 hg2 hP2, hq_87 hg2 hP2, hq_88 hg2 hP2, hq_89 hg2 hP2, hq_90 hg2 hP2, hq_91 hg2 hP2, hq_92 hg2 hP2, hq_93 hg2 hP2, hq_94 hg2 hP2, hq_95 hg2 hP2, hq_96 hg2 hP2, hq_97 hg2 hP2, hq_98 hg2 hP2, hq_99 hg2 hP2, hq_100 hg2 hP2, hq_101 hg2 hP2, hq_102 hg2 hP2, hq_103 hg2 hP2, hq_104 hg2 hP2, hq_105 hg2 hP2, hq_106 hg2 hP2, hq_107 hg2 hP2, hq_108 hg2 hP2, hq_109 hg2 hP2, hq_110 hg2 hP2, trivial⟩
set_option maxRecDepth 100000 in
theorem W0_len (G : Nat → Nat → Int32) : (W0 G).length = 111 := rfl
theorem W0_P {D : va_G} {k : Nat → ClassId} {g : Nat → Nat} {H : Heap} {h hm : Nat} {a am : Nat → Nat} {G : Nat → Nat → Int32} (hg : ∀ j : Nat, j < 85 → g j = (ADH h a).getD j 0) (hg2 : ∀ j : Nat, j < 26 → g (85 + j) = (ADM hm am).getD j 0) (hP : va_P D vwCl (HCv k h a G) H) (hP2 : va_P D vwCl (MCv k hm am) H) : va_P D vwCl (q_w k g (W0 G)) H := by
  intro i q hi
  obtain ⟨x, hx, rfl⟩ := q_w_of hi
  have hl : i < 111 := by have := (List.getElem?_eq_some_iff.mp hx).1; rw [W0_len] at this; exact this
  exact QL_at _ _ (W0_QL hg hg2 hP hP2) i i x (List.getElem?_range hl) hx
set_option maxRecDepth 100000 in
theorem W0_ok (G : Nat → Nat → Int32) : q_okw (W0 G) := okw_c (oko rfl) (okw_c (oko rfl) (okw_c (okz _ _) (okw_c (okz _ _) (okw_c (okr _ _ _) (okw_c (okr _ _ _) (okw_c (okr _ _ _) (okw_c (okr _ _ _) (okw_c (oko rfl) (okw_c (okt _ _) (okw_c (okt _ _) (okw_c (okt _ _) (okw_c (okt _ _) (okw_c (okt _ _) (okw_c (okt _ _) (okw_c (okt _ _) (okw_c (oko rfl) (okw_c (okt _ _) (okw_c (okt _ _) (okw_c (okt _ _) (okw_c (okt _ _) (okw_c (okt _ _) (okw_c (okt _ _) (okw_c (okt _ _) (okw_c (oko rfl) (okw_c (okz _ _) (okw_c (okz _ _) (okw_c (okz _ _) (okw_c (okz _ _) (okw_c (oko rfl) (okw_c (okz _ _) (okw_c (okz _ _) (okw_c (okz _ _) (okw_c (okz _ _) (okw_c (oko rfl) (okw_c (okz _ _) (okw_c (oko rfl) (okw_c (okz _ _) (okw_c (oko rfl) (okw_c (okz _ _) (okw_c (okz _ _) (okw_c (oko rfl) (okw_c (okz _ _) (okw_c (okz _ _) (okw_c (okr _ _ _) (okw_c (oko rfl) (okw_c (okz _ _) (okw_c (okz _ _) (okw_c (oko rfl) (okw_c (okt _ _) (okw_c (okt _ _) (okw_c (okt _ _) (okw_c (okt _ _) (okw_c (okt _ _) (okw_c (okt _ _) (okw_c (okt _ _) (okw_c (oko rfl) (okw_c (okz _ _) (okw_c (okz _ _) (okw_c (okz _ _) (okw_c (okz _ _) (okw_c (oko rfl) (okw_c (okz _ _) (okw_c (oko rfl) (okw_c (okz _ _) (okw_c (okz _ _) (okw_c (oko rfl) (okw_c (okz _ _) (okw_c (okz _ _) (okw_c (okz _ _) (okw_c (oko rfl) (okw_c (okz _ _) (okw_c (oko rfl) (okw_c (okz _ _) (okw_c (okz _ _) (okw_c (okz _ _) (okw_c (oko rfl) (okw_c (okzl _ _) (okw_c (okzl _ _) (okw_c (okzl _ _) (okw_c (okz _ _) (okw_c (oko rfl) (okw_c (okz _ _) (okw_c (okz _ _) (okw_c (okzl _ _) (okw_c (oko rfl) (okw_c (okz _ _) (okw_c (okz _ _) (okw_c (okz _ _) (okw_c oku (okw_c (okz _ _) (okw_c (okz _ _) (okw_c (okz _ _) (okw_c (okz _ _) (okw_c (okz _ _) (okw_c (okz _ _) (okw_c (okz _ _) (okw_c (okz _ _) (okw_c (okz _ _) (okw_c (okz _ _) (okw_c (okz _ _) (okw_c (okz _ _) (okw_c (okz _ _) (okw_c (okzl _ _) (okw_c (okzl _ _) (okw_c (okzl _ _) (okw_c (okzl _ _) (okw_c (okzl _ _) (okw_c (okzl _ _) (okw_c (okz _ _) (okw_c (okz _ _) (okw_0)))))))))))))))))))))))))))))))))))))))))))))))))))))))))))))))))))))))))))))))))))))))))))))))))))))))))))))))
set_option maxRecDepth 100000 in
/-- what the law starts with -/
def Fst9 (G : Nat → Nat → Int32) : Nat → Nat → Int := fun j => (((fun _ => 0) :: (fun _ => 0) :: (fun _ => 0) :: (fun _ => 0) :: (fun _ => 0) :: (fun _ => 0) :: (fun _ => 0) :: (fun _ => 0) :: (fun _ => 0) :: (ti 8 (G 11)) :: (ti 8 (G 12)) :: (ti 4 (G 13)) :: (ti 32 (G 14)) :: (ti 6 (G 15)) :: (ti 6 (G 16)) :: (ti 6 (G 17)) :: (fun _ => 0) :: (ti 8 (G 21)) :: (ti 8 (G 22)) :: (ti 4 (G 23)) :: (ti 32 (G 24)) :: (ti 6 (G 25)) :: (ti 6 (G 26)) :: (ti 6 (G 27)) :: (fun _ => 0) :: (fun _ => 0) :: (fun _ => 0) :: (fun _ => 0) :: (fun _ => 0) :: (fun _ => 0) :: (fun _ => 0) :: (fun _ => 0) :: (fun _ => 0) :: (fun _ => 0) :: (fun _ => 0) :: (fun _ => 0) :: (fun _ => 0) :: (fun _ => 0) :: (fun _ => 0) :: (fun _ => 0) :: (fun _ => 0) :: (fun _ => 0) :: (fun _ => 0) :: (fun _ => 0) :: (fun _ => 0) :: (fun _ => 0) :: (fun _ => 0) :: (fun _ => 0) :: (fun _ => 0) :: (ti 8 (G 102)) :: (ti 8 (G 103)) :: (ti 4 (G 104)) :: (ti 32 (G 105)) :: (ti 6 (G 106)) :: (ti 6 (G 107)) :: (ti 6 (G 108)) :: (fun _ => 0) :: (fun _ => 0) :: (fun _ => 0) :: (fun _ => 0) :: (fun _ => 0) :: (fun _ => 0) :: (fun _ => 0) :: (fun _ => 0) :: (fun _ => 0) :: (fun _ => 0) :: (fun _ => 0) :: (fun _ => 0) :: (fun _ => 0) :: (fun _ => 0) :: (fun _ => 0) :: (fun _ => 0) :: (fun _ => 0) :: (fun _ => 0) :: (fun _ => 0) :: (fun _ => 0) :: (fun _ => 0) :: (fun _ => 0) :: (fun _ => 0) :: (fun _ => 0) :: (fun _ => 0) :: (fun _ => 0) :: (fun _ => 0) :: (fun _ => 0) :: (fun _ => 0) :: (fun _ => 0) :: (fun _ => 0) :: (fun _ => 0) :: (fun _ => 0) :: (fun i => if i = 0 then -1 else 0) :: (fun _ => 0) :: (fun _ => 0) :: (fun _ => 0) :: (fun _ => 0) :: (fun _ => 0) :: (fun _ => 0) :: (fun _ => 0) :: (fun _ => 0) :: (fun _ => 0) :: (fun _ => 0) :: (fun _ => 0) :: (fun _ => 0) :: (fun _ => 0) :: (fun _ => 0) :: (fun _ => 0) :: (fun _ => 0) :: (fun _ => 0) :: (fun _ => 0) :: (fun _ => 0) :: (fun _ => 0) :: (fun _ => 0) :: []) : List (Nat → Int)).getD j (fun _ => 0)
set_option maxRecDepth 100000 in
def Ust9 : Nat → Nat → Int := fun j i => ((([] :: [0, 0, (-1)] :: [] :: [] :: [] :: [] :: [] :: [] :: [0, 0, 5, 0, 0] :: [] :: [] :: [] :: [] :: [] :: [] :: [] :: [0, 0, 5, 0, 0] :: [] :: [] :: [] :: [] :: [] :: [] :: [] :: [0] :: [] :: [] :: [] :: [] :: [0] :: [] :: [] :: [] :: [] :: [0] :: [] :: [0] :: [] :: [0] :: [] :: [] :: [0] :: [] :: [] :: [] :: [0, 0, 0, 0, 0, 0, 0, 0, 0] :: [] :: [] :: [0, 0, 5, 0, 0] :: [] :: [] :: [] :: [] :: [] :: [] :: [] :: [0] :: [] :: [] :: [] :: [] :: [0] :: [] :: [0] :: [] :: [] :: [0, 0] :: [] :: [] :: [] :: [0, 0] :: [] :: [0] :: [] :: [] :: [] :: [0] :: [] :: [] :: [] :: [] :: [] :: [] :: [] :: [] :: [0, 0, 0, 0, 0, 0, 0, 0, 0, 0, 0, 0, 0, 0, 0, 0, 0, 0, 0, 0] :: [] :: [] :: [] :: [] :: [] :: [] :: [] :: [] :: [] :: [] :: [] :: [] :: [] :: [] :: [] :: [] :: [] :: [] :: [] :: [] :: [] :: [] :: [] :: [] :: [] :: []) : List (List Int)).getD j []).getD i 0
set_option maxRecDepth 100000 in
theorem W0_PL {G : Nat → Nat → Int32} (h13 : FGv (G 13)) (h23 : FGv (G 23)) (h104 : FGv (G 104)) : PL (LC (Fst9 G) Ust9) (W0 G) := ⟨(show PX_H _ from rfl), (show PX_T (Ust9 1) _ from ⟨0, 0, (-1), rfl, (by decide), ⟨(congrFun ((show Ust9 1 = Ust9 1 from rfl)) 0).symm, (congrFun ((show Ust9 1 = Ust9 1 from rfl)) 1).symm, (congrFun ((show Ust9 1 = Ust9 1 from rfl)) 2).symm⟩⟩), (show PX_Ttp (Fst9 G 2) _ from ⟨_, rfl, ((show Fst9 G 2 = _ from rfl)).symm⟩), (show PX_Tct (Fst9 G 3) _ from ⟨_, rfl, (rg_0 (by decide)), ((show Fst9 G 3 = _ from rfl)).symm⟩), (show PX_TBa _ from rfl), (show PX_TYa _ from rfl), (show PX_TLa _ from rfl), (show PX_TSa _ from rfl), (show PX_B0 (Ust9 8) _ from ⟨0, 0, 5, 0, 0, rfl, (by decide), ⟨(congrFun ((show Ust9 8 = Ust9 8 from rfl)) 0).symm, (congrFun ((show Ust9 8 = Ust9 8 from rfl)) 1).symm, (congrFun ((show Ust9 8 = Ust9 8 from rfl)) 2).symm, (congrFun ((show Ust9 8 = Ust9 8 from rfl)) 3).symm, (congrFun ((show Ust9 8 = Ust9 8 from rfl)) 4).symm⟩⟩), (show PX_B0_1 (Fst9 G 9) _ from ⟨_, rfl, ((show Fst9 G 9 = _ from rfl)).symm⟩), (show PX_B0_2 (Fst9 G 10) _ from ⟨_, rfl, ((show Fst9 G 10 = _ from rfl)).symm⟩), (show PX_B0_3 (Fst9 G 11) _ from ⟨_, rfl, (ti_rg h13 (by decide)), ((show Fst9 G 11 = _ from rfl)).symm⟩), (show PX_B0_4 (Fst9 G 12) _ from ⟨_, rfl, ((show Fst9 G 12 = _ from rfl)).symm⟩), (show PX_B0_5 (Fst9 G 13) _ from ⟨_, rfl, ((show Fst9 G 13 = _ from rfl)).symm⟩), (show PX_B0_6 (Fst9 G 14) _ from ⟨_, rfl, ((show Fst9 G 14 = _ from rfl)).symm⟩), (show PX_B0_7 (Fst9 G 15) _ from ⟨_, rfl, ((show Fst9 G 15 = _ from rfl)).symm⟩), (show PX_B1 (Ust9 16) _ from ⟨0, 0, 5, 0, 0, rfl, (by decide), ⟨(congrFun ((show Ust9 16 = Ust9 16 from rfl)) 0).symm, (congrFun ((show Ust9 16 = Ust9 16 from rfl)) 1).symm, (congrFun ((show Ust9 16 = Ust9 16 from rfl)) 2).symm, (congrFun ((show Ust9 16 = Ust9 16 from rfl)) 3).symm, (congrFun ((show Ust9 16 = Ust9 16 from rfl)) 4).symm⟩⟩), (show PX_B1_1 (Fst9 G 17) _ from ⟨_, rfl, ((show Fst9 G 17 = _ from rfl)).symm⟩), (show PX_B1_2 (Fst9 G 18) _ from ⟨_, rfl, ((show Fst9 G 18 = _ from rfl)).symm⟩), (show PX_B1_3 (Fst9 G 19) _ from ⟨_, rfl, (ti_rg h23 (by decide)), ((show Fst9 G 19 = _ from rfl)).symm⟩), (show PX_B1_4 (Fst9 G 20) _ from ⟨_, rfl, ((show Fst9 G 20 = _ from rfl)).symm⟩), (show PX_B1_5 (Fst9 G 21) _ from ⟨_, rfl, ((show Fst9 G 21 = _ from rfl)).symm⟩), (show PX_B1_6 (Fst9 G 22) _ from ⟨_, rfl, ((show Fst9 G 22 = _ from rfl)).symm⟩), (show PX_B1_7 (Fst9 G 23) _ from ⟨_, rfl, ((show Fst9 G 23 = _ from rfl)).symm⟩), (show PX_Y0 (Ust9 24) _ from ⟨0, rfl, (by decide), (congrFun ((show Ust9 24 = Ust9 24 from rfl)) 0).symm⟩), (show PX_Y0_1 (Fst9 G 25) _ from ⟨_, rfl, ((show Fst9 G 25 = _ from rfl)).symm⟩), (show PX_Y0_2 (Fst9 G 26) _ from ⟨_, rfl, ((show Fst9 G 26 = _ from rfl)).symm⟩), (show PX_Y0_3 (Fst9 G 27) _ from ⟨_, rfl, ((show Fst9 G 27 = _ from rfl)).symm⟩), (show PX_Y0_4 (Fst9 G 28) _ from ⟨_, rfl, ((show Fst9 G 28 = _ from rfl)).symm⟩), (show PX_Y1 (Ust9 29) _ from ⟨0, rfl, (by decide), (congrFun ((show Ust9 29 = Ust9 29 from rfl)) 0).symm⟩), (show PX_Y1_1 (Fst9 G 30) _ from ⟨_, rfl, ((show Fst9 G 30 = _ from rfl)).symm⟩), (show PX_Y1_2 (Fst9 G 31) _ from ⟨_, rfl, ((show Fst9 G 31 = _ from rfl)).symm⟩), (show PX_Y1_3 (Fst9 G 32) _ from ⟨_, rfl, ((show Fst9 G 32 = _ from rfl)).symm⟩), (show PX_Y1_4 (Fst9 G 33) _ from ⟨_, rfl, ((show Fst9 G 33 = _ from rfl)).symm⟩), (show PX_L0 (Ust9 34) _ from ⟨0, rfl, (congrFun ((show Ust9 34 = Ust9 34 from rfl)) 0).symm⟩), (show PX_L0_1 (Fst9 G 35) _ from ⟨_, rfl, ((show Fst9 G 35 = _ from rfl)).symm⟩), (show PX_L1 (Ust9 36) _ from ⟨0, rfl, (congrFun ((show Ust9 36 = Ust9 36 from rfl)) 0).symm⟩), (show PX_L1_1 (Fst9 G 37) _ from ⟨_, rfl, ((show Fst9 G 37 = _ from rfl)).symm⟩), (show PX_S0 (Ust9 38) _ from ⟨0, rfl, (by decide), (congrFun ((show Ust9 38 = Ust9 38 from rfl)) 0).symm⟩), (show PX_S0_1 (Fst9 G 39) _ from ⟨_, rfl, ((show Fst9 G 39 = _ from rfl)).symm⟩), (show PX_S0_2 (Fst9 G 40) _ from ⟨_, rfl, ((show Fst9 G 40 = _ from rfl)).symm⟩), (show PX_S1 (Ust9 41) _ from ⟨0, rfl, (by decide), (congrFun ((show Ust9 41 = Ust9 41 from rfl)) 0).symm⟩), (show PX_S1_1 (Fst9 G 42) _ from ⟨_, rfl, ((show Fst9 G 42 = _ from rfl)).symm⟩), (show PX_S1_2 (Fst9 G 43) _ from ⟨_, rfl, ((show Fst9 G 43 = _ from rfl)).symm⟩), (show PX_IM _ from ⟨none, none, none, rfl⟩), (show PX_RD (Ust9 45) _ from ⟨47, 0, 0, 0, 0, 0, 0, 0, 0, 0, rfl, (by decide), ⟨(congrFun ((show Ust9 45 = Ust9 45 from rfl)) 0).symm, (congrFun ((show Ust9 45 = Ust9 45 from rfl)) 1).symm, (congrFun ((show Ust9 45 = Ust9 45 from rfl)) 2).symm, (congrFun ((show Ust9 45 = Ust9 45 from rfl)) 3).symm, (congrFun ((show Ust9 45 = Ust9 45 from rfl)) 4).symm, (congrFun ((show Ust9 45 = Ust9 45 from rfl)) 5).symm, (congrFun ((show Ust9 45 = Ust9 45 from rfl)) 6).symm, (congrFun ((show Ust9 45 = Ust9 45 from rfl)) 7).symm, (congrFun ((show Ust9 45 = Ust9 45 from rfl)) 8).symm⟩, (Or.inr rfl)⟩), (show PX_RV _ from ⟨_, rfl⟩), (show PX_RT _ from ⟨_, rfl⟩), (show PX_RB (Ust9 48) _ from ⟨0, 0, 5, 0, 0, rfl, (by decide), ⟨(congrFun ((show Ust9 48 = Ust9 48 from rfl)) 0).symm, (congrFun ((show Ust9 48 = Ust9 48 from rfl)) 1).symm, (congrFun ((show Ust9 48 = Ust9 48 from rfl)) 2).symm, (congrFun ((show Ust9 48 = Ust9 48 from rfl)) 3).symm, (congrFun ((show Ust9 48 = Ust9 48 from rfl)) 4).symm⟩⟩), (show PX_RB_1 (Fst9 G 49) _ from ⟨_, rfl, ((show Fst9 G 49 = _ from rfl)).symm⟩), (show PX_RB_2 (Fst9 G 50) _ from ⟨_, rfl, ((show Fst9 G 50 = _ from rfl)).symm⟩), (show PX_RB_3 (Fst9 G 51) _ from ⟨_, rfl, (ti_rg h104 (by decide)), ((show Fst9 G 51 = _ from rfl)).symm⟩), (show PX_RB_4 (Fst9 G 52) _ from ⟨_, rfl, ((show Fst9 G 52 = _ from rfl)).symm⟩), (show PX_RB_5 (Fst9 G 53) _ from ⟨_, rfl, ((show Fst9 G 53 = _ from rfl)).symm⟩), (show PX_RB_6 (Fst9 G 54) _ from ⟨_, rfl, ((show Fst9 G 54 = _ from rfl)).symm⟩), (show PX_RB_7 (Fst9 G 55) _ from ⟨_, rfl, ((show Fst9 G 55 = _ from rfl)).symm⟩), (show PX_RY (Ust9 56) _ from ⟨0, rfl, (by decide), (congrFun ((show Ust9 56 = Ust9 56 from rfl)) 0).symm⟩), (show PX_RY_1 (Fst9 G 57) _ from ⟨_, rfl, ((show Fst9 G 57 = _ from rfl)).symm⟩), (show PX_RY_2 (Fst9 G 58) _ from ⟨_, rfl, ((show Fst9 G 58 = _ from rfl)).symm⟩), (show PX_RY_3 (Fst9 G 59) _ from ⟨_, rfl, ((show Fst9 G 59 = _ from rfl)).symm⟩), (show PX_RY_4 (Fst9 G 60) _ from ⟨_, rfl, ((show Fst9 G 60 = _ from rfl)).symm⟩), (show PX_RL (Ust9 61) _ from ⟨0, rfl, (congrFun ((show Ust9 61 = Ust9 61 from rfl)) 0).symm⟩), (show PX_RL_1 (Fst9 G 62) _ from ⟨_, rfl, ((show Fst9 G 62 = _ from rfl)).symm⟩), (show PX_RS (Ust9 63) _ from ⟨0, rfl, (by decide), (congrFun ((show Ust9 63 = Ust9 63 from rfl)) 0).symm⟩), (show PX_RS_1 (Fst9 G 64) _ from ⟨_, rfl, ((show Fst9 G 64 = _ from rfl)).symm⟩), (show PX_RS_2 (Fst9 G 65) _ from ⟨_, rfl, ((show Fst9 G 65 = _ from rfl)).symm⟩), (show PX_WK _ from ⟨0, 0, rfl⟩), (show PX_WK_1 _ from ⟨_, rfl⟩), (show PX_WK_2 _ from ⟨_, rfl⟩), (show PX_WK_3 _ from ⟨_, rfl⟩), (show PX_RC _ from ⟨0, 0, rfl⟩), (show PX_RC_1 _ from ⟨_, rfl⟩), (show PX_RZ _ from ⟨0, rfl⟩), (show PX_RZ_1 _ from ⟨_, rfl⟩), (show PX_RZ_2 _ from ⟨_, rfl, (rg_0 (by decide))⟩), (show PX_RZ_3 _ from ⟨_, rfl, (rg_0 (by decide))⟩), (show PX_GU _ from ⟨0, rfl, (by decide)⟩), (show PX_GU_1 _ from ⟨_, rfl⟩), (show PX_GU_2 _ from ⟨_, rfl⟩), (show PX_GU_3 _ from ⟨_, rfl⟩), (show PX_GU_4 _ from ⟨_, rfl⟩), (show PX_CR _ from rfl), (show PX_CR_1 _ from ⟨_, rfl⟩), (show PX_CR_2 _ from ⟨_, rfl⟩), (show PX_CR_3 _ from ⟨_, rfl⟩), (show PM_M _ from ⟨0, 0, 0, 0, 0, 0, 0, 0, 0, 0, 0, 0, 0, 0, 0, 0, 0, 0, 0, 0, rfl⟩), (show PM_TP (Fst9 G 86) _ from ⟨_, rfl, ((show Fst9 G 86 = _ from rfl)).symm⟩), (show PM_SZ (Fst9 G 87) _ from ⟨_, rfl, (rg_0 (by decide)), ((show Fst9 G 87 = _ from rfl)).symm⟩), (show PM_FA (Fst9 G 88) _ from ⟨_, rfl, ((show Fst9 G 88 = _ from rfl)).symm⟩), (show PM_FP (Fst9 G 89) _ from ⟨_, rfl, ((show Fst9 G 89 = _ from rfl)).symm⟩), (show PM_MN (Fst9 G 90) _ from ⟨_, rfl, (rg_0 (by decide)), ((show Fst9 G 90 = _ from rfl)).symm⟩), (show PM_BS (Fst9 G 91) _ from ⟨_, rfl, i0_BI, ((show Fst9 G 91 = _ from rfl)).symm⟩), (show PM_YS (Fst9 G 92) _ from ⟨_, rfl, i0_YI, ((show Fst9 G 92 = _ from rfl)).symm⟩), (show PM_LS (Fst9 G 93) _ from ⟨_, rfl, ((show Fst9 G 93 = _ from rfl)).symm⟩), (show PM_SS (Fst9 G 94) _ from ⟨_, rfl, i0_SI, ((show Fst9 G 94 = _ from rfl)).symm⟩), (show PM_TD _ from ⟨_, rfl⟩), (show PM_RE _ from ⟨_, rfl⟩), (show PM_TL _ from ⟨_, rfl⟩), (show PM_IN _ from ⟨_, rfl⟩), (show PM_PS _ from ⟨_, rfl⟩), (show PM_CP _ from ⟨_, rfl⟩), (show PM_LO _ from ⟨_, rfl⟩), (show PM_BK _ from ⟨_, rfl⟩), (show PM_OW _ from ⟨_, rfl⟩), (show PM_RW _ from ⟨_, rfl⟩), (show PM_TH _ from ⟨_, rfl⟩), (show PM_LX _ from ⟨_, rfl⟩), (show PM_FU _ from ⟨_, rfl⟩), (show PM_SE _ from ⟨_, rfl⟩), (show PM_PA _ from ⟨_, rfl⟩), (show PM_KP (Fst9 G 110) _ from ⟨_, rfl, ((show Fst9 G 110 = _ from rfl)).symm⟩), trivial⟩
def g00 (G : Nat → Nat → Int32) : qG := (Fst9 G, Ust9, fun _ => none)
theorem g00_R (G : Nat → Nat → Int32) : REL (g00 G) := by
  have e90 : Fst9 G 90 = fun _ => 0 := rfl
  have hK : ∀ (C : (Nat → Nat → Int) → (Nat → Nat → Int) → Nat → (Nat → Int) → Prop) (m W c p0 st : Nat), KCl C m W c p0 st (Fst9 G) Ust9 1 0 := fun C m W c p0 st k _ h => by
    rw [e90] at h
    have h : (k : Int) < 0 := h
    omega
  exact ⟨⟨⟨⟨rfl, rfl, rfl⟩, fun _ _ => rfl, fun _ _ => rfl⟩, hK _ _ _ _ _ _, hK _ _ _ _ _ _, hK _ _ _ _ _ _, hK _ _ _ _ _ _⟩, fun _ _ => Or.inl ⟨rfl, rfl⟩, fun _ _ _ _ _ => Or.inl rfl⟩
theorem g00_R2 (G : Nat → Nat → Int32) : REL2 (g00 G) := by
  have e90 : Fst9 G 90 = fun _ => 0 := rfl
  have hK : ∀ (s : Int) (W m c i : Nat), OKK s W m c (Fst9 G) i := fun s W m c i k _ h => by
    rw [e90] at h
    have h : (k : Int) < 0 := h
    omega
  exact ⟨g00_R G, fun i _ => ⟨fun c _ => by show 0 ≤ Fst9 G 90 (4 * i + c) ∧ Fst9 G 90 (4 * i + c) ≤ 2; rw [e90]; exact ⟨(show (0 : Int) ≤ 0 by decide), (show (0 : Int) ≤ 2 by decide)⟩, hK _ _ _ _ _, hK _ _ _ _ _, hK _ _ _ _ _, hK _ _ _ _ _⟩⟩
set_option maxRecDepth 100000 in
theorem W0_PN {G : Nat → Nat → Int32} (h13 : FGv (G 13)) (h23 : FGv (G 23)) (h104 : FGv (G 104)) : PN (g00 G) 0 (W0 G) := ⟨PL_PW _ _ (W0_PL h13 h23 h104), rfl, ⟨rfl, Or.inl rfl, Or.inl rfl, Or.inl rfl, rfl⟩, fun j hj => absurd hj (Nat.not_lt_zero j)⟩
set_option maxRecDepth 100000 in
theorem glaw_c_Hinit : GoodIn lw_tbl ws_c_Hinit := goodIn_r (big := lw_tbl) _ (175 :: 176 :: 177 :: 178 :: 179 :: 180 :: 151 :: 182 :: 183 :: 184 :: 275 :: 349 :: 276 :: 351 :: 185 :: 187 :: 152 :: 188 :: 189 :: 190 :: 191 :: 204 :: 212 :: 215 :: 219 :: 221 :: 224 :: 227 :: 192 :: 193 :: 194 :: 195 :: 196 :: 197 :: 153 :: 198 :: 201 :: 203 :: 202 :: 154 :: 233 :: 238 :: 240 :: 243 :: 247 :: 353 :: 277 :: 279 :: 155 :: 281 :: 282 :: 283 :: 284 :: 286 :: 288 :: 290 :: 354 :: 307 :: 309 :: 156 :: 311 :: 312 :: 313 :: 314 :: 355 :: 327 :: 329 :: 157 :: 331 :: 332 :: 333 :: 334 :: 336 :: 356 :: 361 :: 547 :: 548 :: 383 :: 384 :: 158 :: 386 :: 387 :: 388 :: 389 :: 390 :: 397 :: 391 :: 399 :: 393 :: 401 :: 395 :: 403 :: 405 :: 406 :: 549 :: 449 :: 450 :: 159 :: 452 :: 453 :: 454 :: 455 :: 456 :: 457 :: 550 :: 471 :: 472 :: 160 :: 474 :: 475 :: 476 :: 477 :: 551 :: 489 :: 490 :: 161 :: 492 :: 493 :: 494 :: 495 :: 496 :: 497 :: 552 :: 508 :: 509 :: 162 :: 511 :: 512 :: 513 :: 530 :: 514 :: 515 :: 516 :: 517 :: 553 :: 531 :: 532 :: 163 :: 534 :: 535 :: 536 :: 537 :: 538 :: 539 :: 554 :: 250 :: 252 :: 254 :: 256 :: 258 :: 260 :: 262 :: 264 :: 266 :: 268 :: 270 :: 272 :: 540 :: 542 :: 544 :: 519 :: 521 :: 523 :: 525 :: 527 :: 322 :: 324 :: 499 :: 501 :: 503 :: 505 :: 482 :: 484 :: 486 :: 418 :: 420 :: 422 :: 424 :: 426 :: 428 :: 430 :: 432 :: 434 :: 436 :: 438 :: 440 :: 442 :: 444 :: 446 :: 342 :: 344 :: 346 :: 363 :: 365 :: 367 :: 369 :: 371 :: 373 :: 375 :: 377 :: 379 :: 460 :: 462 :: 464 :: 466 :: 468 :: 296 :: 298 :: 300 :: 302 :: 304 :: 555 :: 557 :: 559 :: 561 :: 563 :: 565 :: 567 :: 569 :: []) (by decide +kernel) (by decide +kernel)
set_option maxRecDepth 100000 in
theorem glaw_m_init : GoodIn lw_tbl ws_m_init := goodIn_r (big := lw_tbl) _ (1329 :: 1330 :: 177 :: 178 :: 275 :: 1332 :: 276 :: 1333 :: 1334 :: 1335 :: 1336 :: 1337 :: 1338 :: 1339 :: 1340 :: 1350 :: 1351 :: 1358 :: 1360 :: 1361 :: 1362 :: 1363 :: 1365 :: 530 :: 1367 :: 1368 :: 1369 :: 1370 :: 1371 :: 1373 :: 1374 :: 1467 :: 1375 :: 1376 :: 1378 :: 1380 :: 1382 :: 1384 :: 1386 :: 1388 :: 1390 :: 1392 :: 1394 :: 1396 :: 1398 :: 1400 :: 1402 :: 1404 :: 1406 :: 1408 :: 1410 :: 1412 :: 1414 :: 1416 :: 1418 :: 1420 :: 1422 :: 1424 :: 1426 :: 1428 :: 1430 :: 1432 :: 1434 :: 1436 :: 1438 :: 1440 :: 1442 :: 1444 :: 1446 :: 1448 :: 1450 :: 1452 :: 1454 :: 1456 :: 1458 :: 1460 :: 1462 :: 1464 :: []) (by decide +kernel) (by decide +kernel)
