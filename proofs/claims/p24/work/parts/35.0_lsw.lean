section QW
variable {p : Program} {l : Launch} {e : Env} {R : Room} {s : State} {m : MethodId} {args : Array Value} {below : List Frame} {meth : Method} {c : Code} {cc : ByteArray} {nL nW fr lo : Nat} {own : String} {ret : Option FieldType} {dC : Nat → ClassId} {dI : Nat → Nat → Nat} {k : Nat → ClassId} {g : Nat → Nat} {A : Nat → Prop} {Qf : State → Prop} {pc : Nat} {K K1 K2 : qK}
def q_lsc : List (Int × qK) → qK → Int → qL → List qV → qW → Prop
  | [], Kd, _, lv, r, w => Kd lv r w
  | q :: ps, Kd, x, lv, r, w => (x = q.1 → q.2 lv r w) ∧ (¬ x = q.1 → q_lsc ps Kd x lv r w)
def x_lsw (ps : List (Int × qK)) (Kd : qK) : qK := fun lv st w => match st with
  | .inl x :: r => q_lsc ps Kd x lv r w
  | _ => False
theorem s_lsw (X : q_X p R s m args meth c cc nL nW fr lo own ret dC dI k g A) {dflt : Int} {arr : Array (Int × Int)} {len td : Nat} (Ls : List (Int × Nat × qK)) {Kd : qK} (hd : decode cc pc = .ok (.lookupswitch dflt arr, len)) (hp : (arr.toList.zip (arr.toList.drop 1)).all (fun (a, next) => a.1 < next.1) = true) (harr : arr.toList = Ls.map (fun q => (q.1, (q.2.1 : Int) - (pc : Int)))) (htd : (pc : Int) + dflt = (td : Int)) (hk : ∀ q ∈ Ls, q_Sd p l e R s m args below meth c nL nW dC dI k g A Qf (q.2.1) (q.2.2)) (hkd : q_Sd p l e R s m args below meth c nL nW dC dI k g A Qf (td) (Kd)) : q_Sd p l e R s m args below meth c nL nW dC dI k g A Qf (pc) (x_lsw (Ls.map (fun q => (q.1, q.2.2))) Kd) := by
  intro H locs ls lv st w h hP hW hS hl okl oks okw
  obtain ⟨hx, hb, -⟩ := X
  unfold x_lsw at h
  split at h
  · rename_i x r
    have hi' : q_i x := q_oks_h oks
    have key : ∀ Ls' : List (Int × Nat × qK), (∀ q ∈ Ls', q ∈ Ls) → q_lsc (Ls'.map (fun q => (q.1, q.2.2))) Kd x lv r w → ∃ (t : Nat) (K : qK), Op.lookupswitch.offset (Ls'.map (fun q => (q.1, (q.2.1 : Int) - (pc : Int)))) dflt x = (t : Int) - (pc : Int) ∧ (q_Sd p l e R s m args below meth c nL nW dC dI k g A Qf (t) (K)) ∧ K lv r w := by
      intro Ls'
      induction Ls' with
      | nil => intro _ h2; exact ⟨td, Kd, by rw [List.map_nil, Op.lookupswitch.offset_nil]; omega, hkd, h2⟩
      | cons q Ls' ih =>
        intro hm h2
        rw [List.map_cons, Op.lookupswitch.offset_cons]
        by_cases e : x = q.1
        · exact ⟨q.2.1, q.2.2, by rw [if_pos e.symm], hk q (hm q List.mem_cons_self), h2.1 e⟩
        · obtain ⟨t, K, h3, h4, h5⟩ := ih (fun q' hq' => hm q' (List.mem_cons_of_mem _ hq')) (h2.2 e)
          exact ⟨t, K, by rw [if_neg (fun z => e z.symm)]; exact h3, h4, h5⟩
    obtain ⟨t, K, h3, h4, h5⟩ := key Ls (fun q h => h) h
    exact lv_lookup hx hb hd hp (off := (t : Int) - (pc : Int)) (by rw [q_io hi', harr]; exact h3) (by omega) (h4 H locs ls lv r w h5 hP hW hS hl okl (q_oks_t oks) okw)
  · exact h.elim
end QW
