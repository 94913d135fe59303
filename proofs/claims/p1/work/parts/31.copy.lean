theorem dX0_copy_0 : decode cX0_copy 0 = .ok (.aload_n 1, 1) := by decide +kernel
theorem dX0_copy_1 : decode cX0_copy 1 = .ok (.getfield 9, 3) := by decide +kernel
theorem dX0_copy_4 : decode cX0_copy 4 = .ok (.iconst 0, 1) := by decide +kernel
theorem dX0_copy_5 : decode cX0_copy 5 = .ok (.aload_n 0, 1) := by decide +kernel
theorem dX0_copy_6 : decode cX0_copy 6 = .ok (.getfield 9, 3) := by decide +kernel
theorem dX0_copy_9 : decode cX0_copy 9 = .ok (.iconst 0, 1) := by decide +kernel
theorem dX0_copy_10 : decode cX0_copy 10 = .ok (.bipush 8, 2) := by decide +kernel
theorem dX0_copy_12 : decode cX0_copy 12 = .ok (.invokestatic 45, 3) := by decide +kernel
theorem dX0_copy_15 : decode cX0_copy 15 = .ok (.aload_n 1, 1) := by decide +kernel
theorem dX0_copy_16 : decode cX0_copy 16 = .ok (.getfield 15, 3) := by decide +kernel
theorem dX0_copy_19 : decode cX0_copy 19 = .ok (.iconst 0, 1) := by decide +kernel
theorem dX0_copy_20 : decode cX0_copy 20 = .ok (.aload_n 0, 1) := by decide +kernel
theorem dX0_copy_21 : decode cX0_copy 21 = .ok (.getfield 15, 3) := by decide +kernel
theorem dX0_copy_24 : decode cX0_copy 24 = .ok (.iconst 0, 1) := by decide +kernel
theorem dX0_copy_25 : decode cX0_copy 25 = .ok (.bipush 8, 2) := by decide +kernel
theorem dX0_copy_27 : decode cX0_copy 27 = .ok (.invokestatic 45, 3) := by decide +kernel
theorem dX0_copy_30 : decode cX0_copy 30 = .ok (.aload_n 1, 1) := by decide +kernel
theorem dX0_copy_31 : decode cX0_copy 31 = .ok (.getfield 18, 3) := by decide +kernel
theorem dX0_copy_34 : decode cX0_copy 34 = .ok (.iconst 0, 1) := by decide +kernel
theorem dX0_copy_35 : decode cX0_copy 35 = .ok (.aload_n 0, 1) := by decide +kernel
theorem dX0_copy_36 : decode cX0_copy 36 = .ok (.getfield 18, 3) := by decide +kernel
theorem dX0_copy_39 : decode cX0_copy 39 = .ok (.iconst 0, 1) := by decide +kernel
theorem dX0_copy_40 : decode cX0_copy 40 = .ok (.iconst 4, 1) := by decide +kernel
theorem dX0_copy_41 : decode cX0_copy 41 = .ok (.invokestatic 45, 3) := by decide +kernel
theorem dX0_copy_44 : decode cX0_copy 44 = .ok (.aload_n 1, 1) := by decide +kernel
theorem dX0_copy_45 : decode cX0_copy 45 = .ok (.getfield 21, 3) := by decide +kernel
theorem dX0_copy_48 : decode cX0_copy 48 = .ok (.iconst 0, 1) := by decide +kernel
theorem dX0_copy_49 : decode cX0_copy 49 = .ok (.aload_n 0, 1) := by decide +kernel
theorem dX0_copy_50 : decode cX0_copy 50 = .ok (.getfield 21, 3) := by decide +kernel
theorem dX0_copy_53 : decode cX0_copy 53 = .ok (.iconst 0, 1) := by decide +kernel
theorem dX0_copy_54 : decode cX0_copy 54 = .ok (.bipush 32, 2) := by decide +kernel
theorem dX0_copy_56 : decode cX0_copy 56 = .ok (.invokestatic 45, 3) := by decide +kernel
theorem dX0_copy_59 : decode cX0_copy 59 = .ok (.aload_n 1, 1) := by decide +kernel
theorem dX0_copy_60 : decode cX0_copy 60 = .ok (.getfield 24, 3) := by decide +kernel
theorem dX0_copy_63 : decode cX0_copy 63 = .ok (.iconst 0, 1) := by decide +kernel
theorem dX0_copy_64 : decode cX0_copy 64 = .ok (.aload_n 0, 1) := by decide +kernel
theorem dX0_copy_65 : decode cX0_copy 65 = .ok (.getfield 24, 3) := by decide +kernel
theorem dX0_copy_68 : decode cX0_copy 68 = .ok (.iconst 0, 1) := by decide +kernel
theorem dX0_copy_69 : decode cX0_copy 69 = .ok (.bipush 6, 2) := by decide +kernel
theorem dX0_copy_71 : decode cX0_copy 71 = .ok (.invokestatic 45, 3) := by decide +kernel
theorem dX0_copy_74 : decode cX0_copy 74 = .ok (.aload_n 1, 1) := by decide +kernel
theorem dX0_copy_75 : decode cX0_copy 75 = .ok (.getfield 27, 3) := by decide +kernel
theorem dX0_copy_78 : decode cX0_copy 78 = .ok (.iconst 0, 1) := by decide +kernel
theorem dX0_copy_79 : decode cX0_copy 79 = .ok (.aload_n 0, 1) := by decide +kernel
theorem dX0_copy_80 : decode cX0_copy 80 = .ok (.getfield 27, 3) := by decide +kernel
theorem dX0_copy_83 : decode cX0_copy 83 = .ok (.iconst 0, 1) := by decide +kernel
theorem dX0_copy_84 : decode cX0_copy 84 = .ok (.bipush 6, 2) := by decide +kernel
theorem dX0_copy_86 : decode cX0_copy 86 = .ok (.invokestatic 45, 3) := by decide +kernel
theorem dX0_copy_89 : decode cX0_copy 89 = .ok (.aload_n 1, 1) := by decide +kernel
theorem dX0_copy_90 : decode cX0_copy 90 = .ok (.getfield 30, 3) := by decide +kernel
theorem dX0_copy_93 : decode cX0_copy 93 = .ok (.iconst 0, 1) := by decide +kernel
theorem dX0_copy_94 : decode cX0_copy 94 = .ok (.aload_n 0, 1) := by decide +kernel
theorem dX0_copy_95 : decode cX0_copy 95 = .ok (.getfield 30, 3) := by decide +kernel
theorem dX0_copy_98 : decode cX0_copy 98 = .ok (.iconst 0, 1) := by decide +kernel
theorem dX0_copy_99 : decode cX0_copy 99 = .ok (.bipush 6, 2) := by decide +kernel
theorem dX0_copy_101 : decode cX0_copy 101 = .ok (.invokestatic 45, 3) := by decide +kernel
theorem dX0_copy_104 : decode cX0_copy 104 = .ok (.aload_n 0, 1) := by decide +kernel
theorem dX0_copy_105 : decode cX0_copy 105 = .ok (.aload_n 1, 1) := by decide +kernel
theorem dX0_copy_106 : decode cX0_copy 106 = .ok (.getfield 51, 3) := by decide +kernel
theorem dX0_copy_109 : decode cX0_copy 109 = .ok (.putfield 51, 3) := by decide +kernel
theorem dX0_copy_112 : decode cX0_copy 112 = .ok (.aload_n 0, 1) := by decide +kernel
theorem dX0_copy_113 : decode cX0_copy 113 = .ok (.aload_n 1, 1) := by decide +kernel
theorem dX0_copy_114 : decode cX0_copy 114 = .ok (.getfield 55, 3) := by decide +kernel
theorem dX0_copy_117 : decode cX0_copy 117 = .ok (.putfield 55, 3) := by decide +kernel
theorem dX0_copy_120 : decode cX0_copy 120 = .ok (.aload_n 0, 1) := by decide +kernel
theorem dX0_copy_121 : decode cX0_copy 121 = .ok (.aload_n 1, 1) := by decide +kernel
theorem dX0_copy_122 : decode cX0_copy 122 = .ok (.getfield 58, 3) := by decide +kernel
theorem dX0_copy_125 : decode cX0_copy 125 = .ok (.putfield 58, 3) := by decide +kernel
theorem dX0_copy_128 : decode cX0_copy 128 = .ok (.aload_n 0, 1) := by decide +kernel
theorem dX0_copy_129 : decode cX0_copy 129 = .ok (.aload_n 1, 1) := by decide +kernel
theorem dX0_copy_130 : decode cX0_copy 130 = .ok (.getfield 61, 3) := by decide +kernel
theorem dX0_copy_133 : decode cX0_copy 133 = .ok (.putfield 61, 3) := by decide +kernel
theorem dX0_copy_136 : decode cX0_copy 136 = .ok (.aload_n 0, 1) := by decide +kernel
theorem dX0_copy_137 : decode cX0_copy 137 = .ok (.aload_n 1, 1) := by decide +kernel
theorem dX0_copy_138 : decode cX0_copy 138 = .ok (.getfield 64, 3) := by decide +kernel
theorem dX0_copy_141 : decode cX0_copy 141 = .ok (.putfield 64, 3) := by decide +kernel
theorem dX0_copy_144 : decode cX0_copy 144 = .ok (.return_, 1) := by decide +kernel
theorem dX10_copy_0 : decode cX10_copy 0 = .ok (.aload_n 1, 1) := by decide +kernel
theorem dX10_copy_1 : decode cX10_copy 1 = .ok (.getfield 9, 3) := by decide +kernel
theorem dX10_copy_4 : decode cX10_copy 4 = .ok (.iconst 0, 1) := by decide +kernel
theorem dX10_copy_5 : decode cX10_copy 5 = .ok (.aload_n 0, 1) := by decide +kernel
theorem dX10_copy_6 : decode cX10_copy 6 = .ok (.getfield 9, 3) := by decide +kernel
theorem dX10_copy_9 : decode cX10_copy 9 = .ok (.iconst 0, 1) := by decide +kernel
theorem dX10_copy_10 : decode cX10_copy 10 = .ok (.bipush 40, 2) := by decide +kernel
theorem dX10_copy_12 : decode cX10_copy 12 = .ok (.invokestatic 24, 3) := by decide +kernel
theorem dX10_copy_15 : decode cX10_copy 15 = .ok (.aload_n 1, 1) := by decide +kernel
theorem dX10_copy_16 : decode cX10_copy 16 = .ok (.getfield 15, 3) := by decide +kernel
theorem dX10_copy_19 : decode cX10_copy 19 = .ok (.iconst 0, 1) := by decide +kernel
theorem dX10_copy_20 : decode cX10_copy 20 = .ok (.aload_n 0, 1) := by decide +kernel
theorem dX10_copy_21 : decode cX10_copy 21 = .ok (.getfield 15, 3) := by decide +kernel
theorem dX10_copy_24 : decode cX10_copy 24 = .ok (.iconst 0, 1) := by decide +kernel
theorem dX10_copy_25 : decode cX10_copy 25 = .ok (.bipush 40, 2) := by decide +kernel
theorem dX10_copy_27 : decode cX10_copy 27 = .ok (.invokestatic 24, 3) := by decide +kernel
theorem dX10_copy_30 : decode cX10_copy 30 = .ok (.aload_n 1, 1) := by decide +kernel
theorem dX10_copy_31 : decode cX10_copy 31 = .ok (.getfield 18, 3) := by decide +kernel
theorem dX10_copy_34 : decode cX10_copy 34 = .ok (.iconst 0, 1) := by decide +kernel
theorem dX10_copy_35 : decode cX10_copy 35 = .ok (.aload_n 0, 1) := by decide +kernel
theorem dX10_copy_36 : decode cX10_copy 36 = .ok (.getfield 18, 3) := by decide +kernel
theorem dX10_copy_39 : decode cX10_copy 39 = .ok (.iconst 0, 1) := by decide +kernel
theorem dX10_copy_40 : decode cX10_copy 40 = .ok (.bipush 40, 2) := by decide +kernel
theorem dX10_copy_42 : decode cX10_copy 42 = .ok (.invokestatic 24, 3) := by decide +kernel
theorem dX10_copy_45 : decode cX10_copy 45 = .ok (.aload_n 1, 1) := by decide +kernel
theorem dX10_copy_46 : decode cX10_copy 46 = .ok (.getfield 21, 3) := by decide +kernel
theorem dX10_copy_49 : decode cX10_copy 49 = .ok (.iconst 0, 1) := by decide +kernel
theorem dX10_copy_50 : decode cX10_copy 50 = .ok (.aload_n 0, 1) := by decide +kernel
theorem dX10_copy_51 : decode cX10_copy 51 = .ok (.getfield 21, 3) := by decide +kernel
theorem dX10_copy_54 : decode cX10_copy 54 = .ok (.iconst 0, 1) := by decide +kernel
theorem dX10_copy_55 : decode cX10_copy 55 = .ok (.bipush 40, 2) := by decide +kernel
theorem dX10_copy_57 : decode cX10_copy 57 = .ok (.invokestatic 24, 3) := by decide +kernel
theorem dX10_copy_60 : decode cX10_copy 60 = .ok (.aload_n 0, 1) := by decide +kernel
theorem dX10_copy_61 : decode cX10_copy 61 = .ok (.aload_n 1, 1) := by decide +kernel
theorem dX10_copy_62 : decode cX10_copy 62 = .ok (.getfield 30, 3) := by decide +kernel
theorem dX10_copy_65 : decode cX10_copy 65 = .ok (.putfield 30, 3) := by decide +kernel
theorem dX10_copy_68 : decode cX10_copy 68 = .ok (.return_, 1) := by decide +kernel
theorem dX3_copy_0 : decode cX3_copy 0 = .ok (.aload_n 1, 1) := by decide +kernel
theorem dX3_copy_1 : decode cX3_copy 1 = .ok (.getfield 9, 3) := by decide +kernel
theorem dX3_copy_4 : decode cX3_copy 4 = .ok (.iconst 0, 1) := by decide +kernel
theorem dX3_copy_5 : decode cX3_copy 5 = .ok (.aload_n 0, 1) := by decide +kernel
theorem dX3_copy_6 : decode cX3_copy 6 = .ok (.getfield 9, 3) := by decide +kernel
theorem dX3_copy_9 : decode cX3_copy 9 = .ok (.iconst 0, 1) := by decide +kernel
theorem dX3_copy_10 : decode cX3_copy 10 = .ok (.bipush 8, 2) := by decide +kernel
theorem dX3_copy_12 : decode cX3_copy 12 = .ok (.invokestatic 25, 3) := by decide +kernel
theorem dX3_copy_15 : decode cX3_copy 15 = .ok (.aload_n 0, 1) := by decide +kernel
theorem dX3_copy_16 : decode cX3_copy 16 = .ok (.aload_n 1, 1) := by decide +kernel
theorem dX3_copy_17 : decode cX3_copy 17 = .ok (.getfield 21, 3) := by decide +kernel
theorem dX3_copy_20 : decode cX3_copy 20 = .ok (.putfield 21, 3) := by decide +kernel
theorem dX3_copy_23 : decode cX3_copy 23 = .ok (.return_, 1) := by decide +kernel
theorem dX7_copy_0 : decode cX7_copy 0 = .ok (.aload_n 1, 1) := by decide +kernel
theorem dX7_copy_1 : decode cX7_copy 1 = .ok (.getfield 9, 3) := by decide +kernel
theorem dX7_copy_4 : decode cX7_copy 4 = .ok (.iconst 0, 1) := by decide +kernel
theorem dX7_copy_5 : decode cX7_copy 5 = .ok (.aload_n 0, 1) := by decide +kernel
theorem dX7_copy_6 : decode cX7_copy 6 = .ok (.getfield 9, 3) := by decide +kernel
theorem dX7_copy_9 : decode cX7_copy 9 = .ok (.iconst 0, 1) := by decide +kernel
theorem dX7_copy_10 : decode cX7_copy 10 = .ok (.bipush 10, 2) := by decide +kernel
theorem dX7_copy_12 : decode cX7_copy 12 = .ok (.invokestatic 18, 3) := by decide +kernel
theorem dX7_copy_15 : decode cX7_copy 15 = .ok (.aload_n 1, 1) := by decide +kernel
theorem dX7_copy_16 : decode cX7_copy 16 = .ok (.getfield 15, 3) := by decide +kernel
theorem dX7_copy_19 : decode cX7_copy 19 = .ok (.iconst 0, 1) := by decide +kernel
theorem dX7_copy_20 : decode cX7_copy 20 = .ok (.aload_n 0, 1) := by decide +kernel
theorem dX7_copy_21 : decode cX7_copy 21 = .ok (.getfield 15, 3) := by decide +kernel
theorem dX7_copy_24 : decode cX7_copy 24 = .ok (.iconst 0, 1) := by decide +kernel
theorem dX7_copy_25 : decode cX7_copy 25 = .ok (.bipush 10, 2) := by decide +kernel
theorem dX7_copy_27 : decode cX7_copy 27 = .ok (.invokestatic 18, 3) := by decide +kernel
theorem dX7_copy_30 : decode cX7_copy 30 = .ok (.aload_n 0, 1) := by decide +kernel
theorem dX7_copy_31 : decode cX7_copy 31 = .ok (.aload_n 1, 1) := by decide +kernel
theorem dX7_copy_32 : decode cX7_copy 32 = .ok (.getfield 24, 3) := by decide +kernel
theorem dX7_copy_35 : decode cX7_copy 35 = .ok (.putfield 24, 3) := by decide +kernel
theorem dX7_copy_38 : decode cX7_copy 38 = .ok (.return_, 1) := by decide +kernel

def ws_c_Bcopy : List Cond := .code yX0_copy cX0_copy 2 none :: ([.fieldLink RX0 9 "HeightFine$Borough" "inches" "[I", .methodLink RX0 45 arraycopyName, .native arraycopyName, .static arraycopyName, .initialized "java/lang/System", .fieldLink RX0 15 "HeightFine$Borough" "parent" "[I", .fieldLink RX0 18 "HeightFine$Borough" "fine" "[I", .fieldLink RX0 21 "HeightFine$Borough" "wish" "[I", .fieldLink RX0 24 "HeightFine$Borough" "top" "[I", .fieldLink RX0 27 "HeightFine$Borough" "pass" "[I", .fieldLink RX0 30 "HeightFine$Borough" "reach" "[I", .fieldLink RX0 51 "HeightFine$Borough" "people" "I", .fieldLink RX0 55 "HeightFine$Borough" "poor" "I", .fieldLink RX0 58 "HeightFine$Borough" "caught" "I", .fieldLink RX0 61 "HeightFine$Borough" "doors" "I", .fieldLink RX0 64 "HeightFine$Borough" "works" "I"] ++ u_ws RX0 TX0 12)
set_option maxRecDepth 20000 in
theorem in_c_Bcopy_0 : ∀ w ∈ u_ws RX0 TX0 12, w ∈ ws_c_Bcopy := by decide +kernel
set_option maxHeartbeats 4000000 in
set_option maxRecDepth 100000 in
theorem c_Bcopy (l : Launch) (dC : Nat → ClassId) (dI : Nat → Nat → Nat) (k : Nat → ClassId) (ph : Nat) (p1 : Nat) (p2 : Nat) (p3 : Nat) (p4 : Nat) (p5 : Nat) (p6 : Nat) (p7 : Nat) (pf1 : Nat → Int32) (pf2 : Nat → Int32) (pf3 : Nat → Int32) (pf4 : Nat → Int32) (pf5 : Nat → Int32) (pf6 : Nat → Int32) (pf7 : Nat → Int32) (pu0 : Int32) (pu1 : Int32) (pu2 : Int32) (pu3 : Int32) (pu4 : Int32) (qh : Nat) (q1 : Nat) (q2 : Nat) (q3 : Nat) (q4 : Nat) (q5 : Nat) (q6 : Nat) (q7 : Nat) (qf1 : Nat → Int32) (qf2 : Nat → Int32) (qf3 : Nat → Int32) (qf4 : Nat → Int32) (qf5 : Nat → Int32) (qf6 : Nat → Int32) (qf7 : Nat → Int32) (qu0 : Int32) (qu1 : Int32) (qu2 : Int32) (qu3 : Int32) (qu4 : Int32) (sz : Nat) : Met l yX0_copy ws_c_Bcopy ({ frames := 1, cells := 0, slots := 0, locals := 68 }) (va_Pc [.ref ph, .ref qh] (prW dC dI k [(ph, .inr (0, [.ref p1, .ref p2, .ref p3, .ref p4, .ref p5, .ref p6, .ref p7, .int pu0, .int pu1, .int pu2, .int pu3, .int pu4])), (p1, .inl (k 0, 8, .inl pf1)), (p2, .inl (k 0, 8, .inl pf2)), (p3, .inl (k 0, 4, .inl pf3)), (p4, .inl (k 0, 32, .inl pf4)), (p5, .inl (k 0, 6, .inl pf5)), (p6, .inl (k 0, 6, .inl pf6)), (p7, .inl (k 0, 6, .inl pf7)), (qh, .inr (0, [.ref q1, .ref q2, .ref q3, .ref q4, .ref q5, .ref q6, .ref q7, .int qu0, .int qu1, .int qu2, .int qu3, .int qu4])), (q1, .inl (k 0, 8, .inl qf1)), (q2, .inl (k 0, 8, .inl qf2)), (q3, .inl (k 0, 4, .inl qf3)), (q4, .inl (k 0, 32, .inl qf4)), (q5, .inl (k 0, 6, .inl qf5)), (q6, .inl (k 0, 6, .inl qf6)), (q7, .inl (k 0, 6, .inl qf7))] sz)) (va_Qv (fun (_ : (Nat → Nat → Int32)) => True) (fun (g : (Nat → Nat → Int32)) (t : State) => po (dC, dI) (va_A [(ph, .inr (0, [.ref p1, .ref p2, .ref p3, .ref p4, .ref p5, .ref p6, .ref p7, .int pu0, .int pu1, .int pu2, .int pu3, .int pu4])), (p1, .inl (k 0, 8, .inl pf1)), (p2, .inl (k 0, 8, .inl pf2)), (p3, .inl (k 0, 4, .inl pf3)), (p4, .inl (k 0, 32, .inl pf4)), (p5, .inl (k 0, 6, .inl pf5)), (p6, .inl (k 0, 6, .inl pf6)), (p7, .inl (k 0, 6, .inl pf7)), (qh, .inr (0, [.ref q1, .ref q2, .ref q3, .ref q4, .ref q5, .ref q6, .ref q7, .int qu0, .int qu1, .int qu2, .int qu3, .int qu4])), (q1, .inl (k 0, 8, .inl qf1)), (q2, .inl (k 0, 8, .inl qf2)), (q3, .inl (k 0, 4, .inl qf3)), (q4, .inl (k 0, 32, .inl qf4)), (q5, .inl (k 0, 6, .inl qf5)), (q6, .inl (k 0, 6, .inl qf6)), (q7, .inl (k 0, 6, .inl qf7))] sz) [(ph, .inr (0, [.ref p1, .ref p2, .ref p3, .ref p4, .ref p5, .ref p6, .ref p7, .int qu0, .int qu1, .int qu2, .int qu3, .int qu4])), (p1, .inl (k 0, 8, .inl (g 1))), (p2, .inl (k 0, 8, .inl (g 2))), (p3, .inl (k 0, 4, .inl (g 3))), (p4, .inl (k 0, 32, .inl (g 4))), (p5, .inl (k 0, 6, .inl (g 5))), (p6, .inl (k 0, 6, .inl (g 6))), (p7, .inl (k 0, 6, .inl (g 7))), (qh, .inr (0, [.ref q1, .ref q2, .ref q3, .ref q4, .ref q5, .ref q6, .ref q7, .int qu0, .int qu1, .int qu2, .int qu3, .int qu4])), (q1, .inl (k 0, 8, .inl qf1)), (q2, .inl (k 0, 8, .inl qf2)), (q3, .inl (k 0, 4, .inl qf3)), (q4, .inl (k 0, 32, .inl qf4)), (q5, .inl (k 0, 6, .inl qf5)), (q6, .inl (k 0, 6, .inl qf6)), (q7, .inl (k 0, 6, .inl qf7))] t) (va_A [(ph, .inr (0, [.ref p1, .ref p2, .ref p3, .ref p4, .ref p5, .ref p6, .ref p7, .int pu0, .int pu1, .int pu2, .int pu3, .int pu4])), (p1, .inl (k 0, 8, .inl pf1)), (p2, .inl (k 0, 8, .inl pf2)), (p3, .inl (k 0, 4, .inl pf3)), (p4, .inl (k 0, 32, .inl pf4)), (p5, .inl (k 0, 6, .inl pf5)), (p6, .inl (k 0, 6, .inl pf6)), (p7, .inl (k 0, 6, .inl pf7)), (qh, .inr (0, [.ref q1, .ref q2, .ref q3, .ref q4, .ref q5, .ref q6, .ref q7, .int qu0, .int qu1, .int qu2, .int qu3, .int qu4])), (q1, .inl (k 0, 8, .inl qf1)), (q2, .inl (k 0, 8, .inl qf2)), (q3, .inl (k 0, 4, .inl qf3)), (q4, .inl (k 0, 32, .inl qf4)), (q5, .inl (k 0, 6, .inl qf5)), (q6, .inl (k 0, 6, .inl qf6)), (q7, .inl (k 0, 6, .inl qf7))] sz)) 0 0 (va_A [(ph, .inr (0, [.ref p1, .ref p2, .ref p3, .ref p4, .ref p5, .ref p6, .ref p7, .int pu0, .int pu1, .int pu2, .int pu3, .int pu4])), (p1, .inl (k 0, 8, .inl pf1)), (p2, .inl (k 0, 8, .inl pf2)), (p3, .inl (k 0, 4, .inl pf3)), (p4, .inl (k 0, 32, .inl pf4)), (p5, .inl (k 0, 6, .inl pf5)), (p6, .inl (k 0, 6, .inl pf6)), (p7, .inl (k 0, 6, .inl pf7)), (qh, .inr (0, [.ref q1, .ref q2, .ref q3, .ref q4, .ref q5, .ref q6, .ref q7, .int qu0, .int qu1, .int qu2, .int qu3, .int qu4])), (q1, .inl (k 0, 8, .inl qf1)), (q2, .inl (k 0, 8, .inl qf2)), (q3, .inl (k 0, 4, .inl qf3)), (q4, .inl (k 0, 32, .inl qf4)), (q5, .inl (k 0, 6, .inl qf5)), (q6, .inl (k 0, 6, .inl qf6)), (q7, .inl (k 0, 6, .inl qf7))] sz) := by
  refine Met.ofW (cc := cX0_copy) (maxL := 2) (ret := none) (by decide) rfl ?_
  intro p e s m args below meth c s₁ B hml hv
  obtain ⟨rfl, hsz, hP, hK, hD0⟩ := hv
  have hx := B.exec
  have hb := B.bytes
  have hr := B.returns
  have hts := atoms_spec (ws := ws_c_Bcopy) B.pre
  have hown : s.vm.findClass RX0 = some m.cls := findClass_of_methodNamed B.named
  have hi0 := in_c_Bcopy_0
  subst hsz
  have hD := hD0.self (sz := s.heap.size)
  generalize hAe : va_A [(ph, .inr (0, [.ref p1, .ref p2, .ref p3, .ref p4, .ref p5, .ref p6, .ref p7, .int pu0, .int pu1, .int pu2, .int pu3, .int pu4])), (p1, .inl (k 0, 8, .inl pf1)), (p2, .inl (k 0, 8, .inl pf2)), (p3, .inl (k 0, 4, .inl pf3)), (p4, .inl (k 0, 32, .inl pf4)), (p5, .inl (k 0, 6, .inl pf5)), (p6, .inl (k 0, 6, .inl pf6)), (p7, .inl (k 0, 6, .inl pf7)), (qh, .inr (0, [.ref q1, .ref q2, .ref q3, .ref q4, .ref q5, .ref q6, .ref q7, .int qu0, .int qu1, .int qu2, .int qu3, .int qu4])), (q1, .inl (k 0, 8, .inl qf1)), (q2, .inl (k 0, 8, .inl qf2)), (q3, .inl (k 0, 4, .inl qf3)), (q4, .inl (k 0, 32, .inl qf4)), (q5, .inl (k 0, 6, .inl qf5)), (q6, .inl (k 0, 6, .inl qf6)), (q7, .inl (k 0, 6, .inl qf7))] s.heap.size = A at hD ⊢
  have hA : ∀ q : Nat, s.heap.size ≤ q → A q := fun q h => by rw [← hAe]; exact Or.inr h
  have hS : va_S A s.heap s.heap [] := va_S.rf
  have hP : va_P (dC, dI) vwCl [(ph, .inr (0, [.ref p1, .ref p2, .ref p3, .ref p4, .ref p5, .ref p6, .ref p7, .int pu0, .int pu1, .int pu2, .int pu3, .int pu4])), (p1, .inl (k 0, 8, .inl pf1)), (p2, .inl (k 0, 8, .inl pf2)), (p3, .inl (k 0, 4, .inl pf3)), (p4, .inl (k 0, 32, .inl pf4)), (p5, .inl (k 0, 6, .inl pf5)), (p6, .inl (k 0, 6, .inl pf6)), (p7, .inl (k 0, 6, .inl pf7)), (qh, .inr (0, [.ref q1, .ref q2, .ref q3, .ref q4, .ref q5, .ref q6, .ref q7, .int qu0, .int qu1, .int qu2, .int qu3, .int qu4])), (q1, .inl (k 0, 8, .inl qf1)), (q2, .inl (k 0, 8, .inl qf2)), (q3, .inl (k 0, 4, .inl qf3)), (q4, .inl (k 0, 32, .inl qf4)), (q5, .inl (k 0, 6, .inl qf5)), (q6, .inl (k 0, 6, .inl qf6)), (q7, .inl (k 0, 6, .inl qf7))] s.heap := hP
  have hl := lv_entry ([.ref ph, .ref qh]) (n := 2) (Nat.le_of_ble_eq_true rfl)
  rw [lg_entry_eq]
  generalize (lg_sl ([.ref ph, .ref qh]) ++ List.replicate (2 - (lg_sl ([.ref ph, .ref qh])).length) Slot.unset).toArray = ls at hl ⊢
  have hl : lv_has ls 2 [(0, .ref ph), (1, .ref qh)] := hl
  refine lv_aload_n hx hb dX0_copy_0 rfl (lv_at hl 1 rfl) ?_
  refine va_get (D := (dC, dI)) (ci := 0) (v := .ref q1) (C := RX0) (T := TX0) (N := 12) hx hb hts hi0 hown hK hP 8 rfl rfl 0 (by decide) (hts (.fieldLink RX0 9 "HeightFine$Borough" "inches" "[I") (by decide +kernel)) (fun _ h9 => h9) rfl dX0_copy_1 ?_
  refine lv_iconst (v := 0) hx hb dX0_copy_4 (by decide) ?_
  refine lv_aload_n hx hb dX0_copy_5 rfl (lv_at hl 0 rfl) ?_
  refine va_get (D := (dC, dI)) (ci := 0) (v := .ref p1) (C := RX0) (T := TX0) (N := 12) hx hb hts hi0 hown hK hP 0 rfl rfl 0 (by decide) (hts (.fieldLink RX0 9 "HeightFine$Borough" "inches" "[I") (by decide +kernel)) (fun _ h9 => h9) rfl dX0_copy_6 ?_
  refine lv_iconst (v := 0) hx hb dX0_copy_9 (by decide) ?_
  refine lv_bipush (v := 8) hx hb dX0_copy_10 (by decide) ?_
  refine va_copyi hx hb (by rw [hml]; exact hl.1.symm) hown (hts (.methodLink RX0 45 arraycopyName) (by decide +kernel)) (hts (.native arraycopyName) (by decide +kernel)) (hts (.static arraycopyName) (by decide +kernel)) (hts (.initialized "java/lang/System") (by decide +kernel)) hK hP hD hS 9 1 0 0 rfl rfl rfl rfl rfl (sp := 0) (dp := 0) (n := 8) (by decide) (by decide) (by decide) (by decide) (by decide) (fun _ _ => rfl) (by decide) (by decide) dX0_copy_12 (fun H locs hP hD hS => ?_)
  obtain ⟨f_1, hP, hD⟩ := zz_anyc hP hD
  have hP : va_P (dC, dI) vwCl [(ph, .inr (0, [.ref p1, .ref p2, .ref p3, .ref p4, .ref p5, .ref p6, .ref p7, .int pu0, .int pu1, .int pu2, .int pu3, .int pu4])), (p1, .inl (k 0, 8, .inl f_1)), (p2, .inl (k 0, 8, .inl pf2)), (p3, .inl (k 0, 4, .inl pf3)), (p4, .inl (k 0, 32, .inl pf4)), (p5, .inl (k 0, 6, .inl pf5)), (p6, .inl (k 0, 6, .inl pf6)), (p7, .inl (k 0, 6, .inl pf7)), (qh, .inr (0, [.ref q1, .ref q2, .ref q3, .ref q4, .ref q5, .ref q6, .ref q7, .int qu0, .int qu1, .int qu2, .int qu3, .int qu4])), (q1, .inl (k 0, 8, .inl qf1)), (q2, .inl (k 0, 8, .inl qf2)), (q3, .inl (k 0, 4, .inl qf3)), (q4, .inl (k 0, 32, .inl qf4)), (q5, .inl (k 0, 6, .inl qf5)), (q6, .inl (k 0, 6, .inl qf6)), (q7, .inl (k 0, 6, .inl qf7))] H := hP
  have hD : va_D A [(ph, .inr (0, [.ref p1, .ref p2, .ref p3, .ref p4, .ref p5, .ref p6, .ref p7, .int pu0, .int pu1, .int pu2, .int pu3, .int pu4])), (p1, .inl (k 0, 8, .inl f_1)), (p2, .inl (k 0, 8, .inl pf2)), (p3, .inl (k 0, 4, .inl pf3)), (p4, .inl (k 0, 32, .inl pf4)), (p5, .inl (k 0, 6, .inl pf5)), (p6, .inl (k 0, 6, .inl pf6)), (p7, .inl (k 0, 6, .inl pf7)), (qh, .inr (0, [.ref q1, .ref q2, .ref q3, .ref q4, .ref q5, .ref q6, .ref q7, .int qu0, .int qu1, .int qu2, .int qu3, .int qu4])), (q1, .inl (k 0, 8, .inl qf1)), (q2, .inl (k 0, 8, .inl qf2)), (q3, .inl (k 0, 4, .inl qf3)), (q4, .inl (k 0, 32, .inl qf4)), (q5, .inl (k 0, 6, .inl qf5)), (q6, .inl (k 0, 6, .inl qf6)), (q7, .inl (k 0, 6, .inl qf7))] := hD
  refine lv_aload_n hx hb dX0_copy_15 rfl (lv_at hl 1 rfl) ?_
  refine va_get (D := (dC, dI)) (ci := 0) (v := .ref q2) (C := RX0) (T := TX0) (N := 12) hx hb hts hi0 hown hK hP 8 rfl rfl 1 (by decide) (hts (.fieldLink RX0 15 "HeightFine$Borough" "parent" "[I") (by decide +kernel)) (fun _ h9 => h9) rfl dX0_copy_16 ?_
  refine lv_iconst (v := 0) hx hb dX0_copy_19 (by decide) ?_
  refine lv_aload_n hx hb dX0_copy_20 rfl (lv_at hl 0 rfl) ?_
  refine va_get (D := (dC, dI)) (ci := 0) (v := .ref p2) (C := RX0) (T := TX0) (N := 12) hx hb hts hi0 hown hK hP 0 rfl rfl 1 (by decide) (hts (.fieldLink RX0 15 "HeightFine$Borough" "parent" "[I") (by decide +kernel)) (fun _ h9 => h9) rfl dX0_copy_21 ?_
  refine lv_iconst (v := 0) hx hb dX0_copy_24 (by decide) ?_
  refine lv_bipush (v := 8) hx hb dX0_copy_25 (by decide) ?_
  refine va_copyi hx hb (by rw [hml]; exact hl.1.symm) hown (hts (.methodLink RX0 45 arraycopyName) (by decide +kernel)) (hts (.native arraycopyName) (by decide +kernel)) (hts (.static arraycopyName) (by decide +kernel)) (hts (.initialized "java/lang/System") (by decide +kernel)) hK hP hD hS 10 2 0 0 rfl rfl rfl rfl rfl (sp := 0) (dp := 0) (n := 8) (by decide) (by decide) (by decide) (by decide) (by decide) (fun _ _ => rfl) (by decide) (by decide) dX0_copy_27 (fun H locs hP hD hS => ?_)
  obtain ⟨f_2, hP, hD⟩ := zz_anyc hP hD
  have hP : va_P (dC, dI) vwCl [(ph, .inr (0, [.ref p1, .ref p2, .ref p3, .ref p4, .ref p5, .ref p6, .ref p7, .int pu0, .int pu1, .int pu2, .int pu3, .int pu4])), (p1, .inl (k 0, 8, .inl f_1)), (p2, .inl (k 0, 8, .inl f_2)), (p3, .inl (k 0, 4, .inl pf3)), (p4, .inl (k 0, 32, .inl pf4)), (p5, .inl (k 0, 6, .inl pf5)), (p6, .inl (k 0, 6, .inl pf6)), (p7, .inl (k 0, 6, .inl pf7)), (qh, .inr (0, [.ref q1, .ref q2, .ref q3, .ref q4, .ref q5, .ref q6, .ref q7, .int qu0, .int qu1, .int qu2, .int qu3, .int qu4])), (q1, .inl (k 0, 8, .inl qf1)), (q2, .inl (k 0, 8, .inl qf2)), (q3, .inl (k 0, 4, .inl qf3)), (q4, .inl (k 0, 32, .inl qf4)), (q5, .inl (k 0, 6, .inl qf5)), (q6, .inl (k 0, 6, .inl qf6)), (q7, .inl (k 0, 6, .inl qf7))] H := hP
  have hD : va_D A [(ph, .inr (0, [.ref p1, .ref p2, .ref p3, .ref p4, .ref p5, .ref p6, .ref p7, .int pu0, .int pu1, .int pu2, .int pu3, .int pu4])), (p1, .inl (k 0, 8, .inl f_1)), (p2, .inl (k 0, 8, .inl f_2)), (p3, .inl (k 0, 4, .inl pf3)), (p4, .inl (k 0, 32, .inl pf4)), (p5, .inl (k 0, 6, .inl pf5)), (p6, .inl (k 0, 6, .inl pf6)), (p7, .inl (k 0, 6, .inl pf7)), (qh, .inr (0, [.ref q1, .ref q2, .ref q3, .ref q4, .ref q5, .ref q6, .ref q7, .int qu0, .int qu1, .int qu2, .int qu3, .int qu4])), (q1, .inl (k 0, 8, .inl qf1)), (q2, .inl (k 0, 8, .inl qf2)), (q3, .inl (k 0, 4, .inl qf3)), (q4, .inl (k 0, 32, .inl qf4)), (q5, .inl (k 0, 6, .inl qf5)), (q6, .inl (k 0, 6, .inl qf6)), (q7, .inl (k 0, 6, .inl qf7))] := hD
  refine lv_aload_n hx hb dX0_copy_30 rfl (lv_at hl 1 rfl) ?_
  refine va_get (D := (dC, dI)) (ci := 0) (v := .ref q3) (C := RX0) (T := TX0) (N := 12) hx hb hts hi0 hown hK hP 8 rfl rfl 2 (by decide) (hts (.fieldLink RX0 18 "HeightFine$Borough" "fine" "[I") (by decide +kernel)) (fun _ h9 => h9) rfl dX0_copy_31 ?_
  refine lv_iconst (v := 0) hx hb dX0_copy_34 (by decide) ?_
  refine lv_aload_n hx hb dX0_copy_35 rfl (lv_at hl 0 rfl) ?_
  refine va_get (D := (dC, dI)) (ci := 0) (v := .ref p3) (C := RX0) (T := TX0) (N := 12) hx hb hts hi0 hown hK hP 0 rfl rfl 2 (by decide) (hts (.fieldLink RX0 18 "HeightFine$Borough" "fine" "[I") (by decide +kernel)) (fun _ h9 => h9) rfl dX0_copy_36 ?_
  refine lv_iconst (v := 0) hx hb dX0_copy_39 (by decide) ?_
  refine lv_iconst (v := 4) hx hb dX0_copy_40 (by decide) ?_
  refine va_copyi hx hb (by rw [hml]; exact hl.1.symm) hown (hts (.methodLink RX0 45 arraycopyName) (by decide +kernel)) (hts (.native arraycopyName) (by decide +kernel)) (hts (.static arraycopyName) (by decide +kernel)) (hts (.initialized "java/lang/System") (by decide +kernel)) hK hP hD hS 11 3 0 0 rfl rfl rfl rfl rfl (sp := 0) (dp := 0) (n := 4) (by decide) (by decide) (by decide) (by decide) (by decide) (fun _ _ => rfl) (by decide) (by decide) dX0_copy_41 (fun H locs hP hD hS => ?_)
  obtain ⟨f_3, hP, hD⟩ := zz_anyc hP hD
  have hP : va_P (dC, dI) vwCl [(ph, .inr (0, [.ref p1, .ref p2, .ref p3, .ref p4, .ref p5, .ref p6, .ref p7, .int pu0, .int pu1, .int pu2, .int pu3, .int pu4])), (p1, .inl (k 0, 8, .inl f_1)), (p2, .inl (k 0, 8, .inl f_2)), (p3, .inl (k 0, 4, .inl f_3)), (p4, .inl (k 0, 32, .inl pf4)), (p5, .inl (k 0, 6, .inl pf5)), (p6, .inl (k 0, 6, .inl pf6)), (p7, .inl (k 0, 6, .inl pf7)), (qh, .inr (0, [.ref q1, .ref q2, .ref q3, .ref q4, .ref q5, .ref q6, .ref q7, .int qu0, .int qu1, .int qu2, .int qu3, .int qu4])), (q1, .inl (k 0, 8, .inl qf1)), (q2, .inl (k 0, 8, .inl qf2)), (q3, .inl (k 0, 4, .inl qf3)), (q4, .inl (k 0, 32, .inl qf4)), (q5, .inl (k 0, 6, .inl qf5)), (q6, .inl (k 0, 6, .inl qf6)), (q7, .inl (k 0, 6, .inl qf7))] H := hP
  have hD : va_D A [(ph, .inr (0, [.ref p1, .ref p2, .ref p3, .ref p4, .ref p5, .ref p6, .ref p7, .int pu0, .int pu1, .int pu2, .int pu3, .int pu4])), (p1, .inl (k 0, 8, .inl f_1)), (p2, .inl (k 0, 8, .inl f_2)), (p3, .inl (k 0, 4, .inl f_3)), (p4, .inl (k 0, 32, .inl pf4)), (p5, .inl (k 0, 6, .inl pf5)), (p6, .inl (k 0, 6, .inl pf6)), (p7, .inl (k 0, 6, .inl pf7)), (qh, .inr (0, [.ref q1, .ref q2, .ref q3, .ref q4, .ref q5, .ref q6, .ref q7, .int qu0, .int qu1, .int qu2, .int qu3, .int qu4])), (q1, .inl (k 0, 8, .inl qf1)), (q2, .inl (k 0, 8, .inl qf2)), (q3, .inl (k 0, 4, .inl qf3)), (q4, .inl (k 0, 32, .inl qf4)), (q5, .inl (k 0, 6, .inl qf5)), (q6, .inl (k 0, 6, .inl qf6)), (q7, .inl (k 0, 6, .inl qf7))] := hD
  refine lv_aload_n hx hb dX0_copy_44 rfl (lv_at hl 1 rfl) ?_
  refine va_get (D := (dC, dI)) (ci := 0) (v := .ref q4) (C := RX0) (T := TX0) (N := 12) hx hb hts hi0 hown hK hP 8 rfl rfl 3 (by decide) (hts (.fieldLink RX0 21 "HeightFine$Borough" "wish" "[I") (by decide +kernel)) (fun _ h9 => h9) rfl dX0_copy_45 ?_
  refine lv_iconst (v := 0) hx hb dX0_copy_48 (by decide) ?_
  refine lv_aload_n hx hb dX0_copy_49 rfl (lv_at hl 0 rfl) ?_
  refine va_get (D := (dC, dI)) (ci := 0) (v := .ref p4) (C := RX0) (T := TX0) (N := 12) hx hb hts hi0 hown hK hP 0 rfl rfl 3 (by decide) (hts (.fieldLink RX0 21 "HeightFine$Borough" "wish" "[I") (by decide +kernel)) (fun _ h9 => h9) rfl dX0_copy_50 ?_
  refine lv_iconst (v := 0) hx hb dX0_copy_53 (by decide) ?_
  refine lv_bipush (v := 32) hx hb dX0_copy_54 (by decide) ?_
  refine va_copyi hx hb (by rw [hml]; exact hl.1.symm) hown (hts (.methodLink RX0 45 arraycopyName) (by decide +kernel)) (hts (.native arraycopyName) (by decide +kernel)) (hts (.static arraycopyName) (by decide +kernel)) (hts (.initialized "java/lang/System") (by decide +kernel)) hK hP hD hS 12 4 0 0 rfl rfl rfl rfl rfl (sp := 0) (dp := 0) (n := 32) (by decide) (by decide) (by decide) (by decide) (by decide) (fun _ _ => rfl) (by decide) (by decide) dX0_copy_56 (fun H locs hP hD hS => ?_)
  obtain ⟨f_4, hP, hD⟩ := zz_anyc hP hD
  have hP : va_P (dC, dI) vwCl [(ph, .inr (0, [.ref p1, .ref p2, .ref p3, .ref p4, .ref p5, .ref p6, .ref p7, .int pu0, .int pu1, .int pu2, .int pu3, .int pu4])), (p1, .inl (k 0, 8, .inl f_1)), (p2, .inl (k 0, 8, .inl f_2)), (p3, .inl (k 0, 4, .inl f_3)), (p4, .inl (k 0, 32, .inl f_4)), (p5, .inl (k 0, 6, .inl pf5)), (p6, .inl (k 0, 6, .inl pf6)), (p7, .inl (k 0, 6, .inl pf7)), (qh, .inr (0, [.ref q1, .ref q2, .ref q3, .ref q4, .ref q5, .ref q6, .ref q7, .int qu0, .int qu1, .int qu2, .int qu3, .int qu4])), (q1, .inl (k 0, 8, .inl qf1)), (q2, .inl (k 0, 8, .inl qf2)), (q3, .inl (k 0, 4, .inl qf3)), (q4, .inl (k 0, 32, .inl qf4)), (q5, .inl (k 0, 6, .inl qf5)), (q6, .inl (k 0, 6, .inl qf6)), (q7, .inl (k 0, 6, .inl qf7))] H := hP
  have hD : va_D A [(ph, .inr (0, [.ref p1, .ref p2, .ref p3, .ref p4, .ref p5, .ref p6, .ref p7, .int pu0, .int pu1, .int pu2, .int pu3, .int pu4])), (p1, .inl (k 0, 8, .inl f_1)), (p2, .inl (k 0, 8, .inl f_2)), (p3, .inl (k 0, 4, .inl f_3)), (p4, .inl (k 0, 32, .inl f_4)), (p5, .inl (k 0, 6, .inl pf5)), (p6, .inl (k 0, 6, .inl pf6)), (p7, .inl (k 0, 6, .inl pf7)), (qh, .inr (0, [.ref q1, .ref q2, .ref q3, .ref q4, .ref q5, .ref q6, .ref q7, .int qu0, .int qu1, .int qu2, .int qu3, .int qu4])), (q1, .inl (k 0, 8, .inl qf1)), (q2, .inl (k 0, 8, .inl qf2)), (q3, .inl (k 0, 4, .inl qf3)), (q4, .inl (k 0, 32, .inl qf4)), (q5, .inl (k 0, 6, .inl qf5)), (q6, .inl (k 0, 6, .inl qf6)), (q7, .inl (k 0, 6, .inl qf7))] := hD
  refine lv_aload_n hx hb dX0_copy_59 rfl (lv_at hl 1 rfl) ?_
  refine va_get (D := (dC, dI)) (ci := 0) (v := .ref q5) (C := RX0) (T := TX0) (N := 12) hx hb hts hi0 hown hK hP 8 rfl rfl 4 (by decide) (hts (.fieldLink RX0 24 "HeightFine$Borough" "top" "[I") (by decide +kernel)) (fun _ h9 => h9) rfl dX0_copy_60 ?_
  refine lv_iconst (v := 0) hx hb dX0_copy_63 (by decide) ?_
  refine lv_aload_n hx hb dX0_copy_64 rfl (lv_at hl 0 rfl) ?_
  refine va_get (D := (dC, dI)) (ci := 0) (v := .ref p5) (C := RX0) (T := TX0) (N := 12) hx hb hts hi0 hown hK hP 0 rfl rfl 4 (by decide) (hts (.fieldLink RX0 24 "HeightFine$Borough" "top" "[I") (by decide +kernel)) (fun _ h9 => h9) rfl dX0_copy_65 ?_
  refine lv_iconst (v := 0) hx hb dX0_copy_68 (by decide) ?_
  refine lv_bipush (v := 6) hx hb dX0_copy_69 (by decide) ?_
  refine va_copyi hx hb (by rw [hml]; exact hl.1.symm) hown (hts (.methodLink RX0 45 arraycopyName) (by decide +kernel)) (hts (.native arraycopyName) (by decide +kernel)) (hts (.static arraycopyName) (by decide +kernel)) (hts (.initialized "java/lang/System") (by decide +kernel)) hK hP hD hS 13 5 0 0 rfl rfl rfl rfl rfl (sp := 0) (dp := 0) (n := 6) (by decide) (by decide) (by decide) (by decide) (by decide) (fun _ _ => rfl) (by decide) (by decide) dX0_copy_71 (fun H locs hP hD hS => ?_)
  obtain ⟨f_5, hP, hD⟩ := zz_anyc hP hD
  have hP : va_P (dC, dI) vwCl [(ph, .inr (0, [.ref p1, .ref p2, .ref p3, .ref p4, .ref p5, .ref p6, .ref p7, .int pu0, .int pu1, .int pu2, .int pu3, .int pu4])), (p1, .inl (k 0, 8, .inl f_1)), (p2, .inl (k 0, 8, .inl f_2)), (p3, .inl (k 0, 4, .inl f_3)), (p4, .inl (k 0, 32, .inl f_4)), (p5, .inl (k 0, 6, .inl f_5)), (p6, .inl (k 0, 6, .inl pf6)), (p7, .inl (k 0, 6, .inl pf7)), (qh, .inr (0, [.ref q1, .ref q2, .ref q3, .ref q4, .ref q5, .ref q6, .ref q7, .int qu0, .int qu1, .int qu2, .int qu3, .int qu4])), (q1, .inl (k 0, 8, .inl qf1)), (q2, .inl (k 0, 8, .inl qf2)), (q3, .inl (k 0, 4, .inl qf3)), (q4, .inl (k 0, 32, .inl qf4)), (q5, .inl (k 0, 6, .inl qf5)), (q6, .inl (k 0, 6, .inl qf6)), (q7, .inl (k 0, 6, .inl qf7))] H := hP
  have hD : va_D A [(ph, .inr (0, [.ref p1, .ref p2, .ref p3, .ref p4, .ref p5, .ref p6, .ref p7, .int pu0, .int pu1, .int pu2, .int pu3, .int pu4])), (p1, .inl (k 0, 8, .inl f_1)), (p2, .inl (k 0, 8, .inl f_2)), (p3, .inl (k 0, 4, .inl f_3)), (p4, .inl (k 0, 32, .inl f_4)), (p5, .inl (k 0, 6, .inl f_5)), (p6, .inl (k 0, 6, .inl pf6)), (p7, .inl (k 0, 6, .inl pf7)), (qh, .inr (0, [.ref q1, .ref q2, .ref q3, .ref q4, .ref q5, .ref q6, .ref q7, .int qu0, .int qu1, .int qu2, .int qu3, .int qu4])), (q1, .inl (k 0, 8, .inl qf1)), (q2, .inl (k 0, 8, .inl qf2)), (q3, .inl (k 0, 4, .inl qf3)), (q4, .inl (k 0, 32, .inl qf4)), (q5, .inl (k 0, 6, .inl qf5)), (q6, .inl (k 0, 6, .inl qf6)), (q7, .inl (k 0, 6, .inl qf7))] := hD
  refine lv_aload_n hx hb dX0_copy_74 rfl (lv_at hl 1 rfl) ?_
  refine va_get (D := (dC, dI)) (ci := 0) (v := .ref q6) (C := RX0) (T := TX0) (N := 12) hx hb hts hi0 hown hK hP 8 rfl rfl 5 (by decide) (hts (.fieldLink RX0 27 "HeightFine$Borough" "pass" "[I") (by decide +kernel)) (fun _ h9 => h9) rfl dX0_copy_75 ?_
  refine lv_iconst (v := 0) hx hb dX0_copy_78 (by decide) ?_
  refine lv_aload_n hx hb dX0_copy_79 rfl (lv_at hl 0 rfl) ?_
  refine va_get (D := (dC, dI)) (ci := 0) (v := .ref p6) (C := RX0) (T := TX0) (N := 12) hx hb hts hi0 hown hK hP 0 rfl rfl 5 (by decide) (hts (.fieldLink RX0 27 "HeightFine$Borough" "pass" "[I") (by decide +kernel)) (fun _ h9 => h9) rfl dX0_copy_80 ?_
  refine lv_iconst (v := 0) hx hb dX0_copy_83 (by decide) ?_
  refine lv_bipush (v := 6) hx hb dX0_copy_84 (by decide) ?_
  refine va_copyi hx hb (by rw [hml]; exact hl.1.symm) hown (hts (.methodLink RX0 45 arraycopyName) (by decide +kernel)) (hts (.native arraycopyName) (by decide +kernel)) (hts (.static arraycopyName) (by decide +kernel)) (hts (.initialized "java/lang/System") (by decide +kernel)) hK hP hD hS 14 6 0 0 rfl rfl rfl rfl rfl (sp := 0) (dp := 0) (n := 6) (by decide) (by decide) (by decide) (by decide) (by decide) (fun _ _ => rfl) (by decide) (by decide) dX0_copy_86 (fun H locs hP hD hS => ?_)
  obtain ⟨f_6, hP, hD⟩ := zz_anyc hP hD
  have hP : va_P (dC, dI) vwCl [(ph, .inr (0, [.ref p1, .ref p2, .ref p3, .ref p4, .ref p5, .ref p6, .ref p7, .int pu0, .int pu1, .int pu2, .int pu3, .int pu4])), (p1, .inl (k 0, 8, .inl f_1)), (p2, .inl (k 0, 8, .inl f_2)), (p3, .inl (k 0, 4, .inl f_3)), (p4, .inl (k 0, 32, .inl f_4)), (p5, .inl (k 0, 6, .inl f_5)), (p6, .inl (k 0, 6, .inl f_6)), (p7, .inl (k 0, 6, .inl pf7)), (qh, .inr (0, [.ref q1, .ref q2, .ref q3, .ref q4, .ref q5, .ref q6, .ref q7, .int qu0, .int qu1, .int qu2, .int qu3, .int qu4])), (q1, .inl (k 0, 8, .inl qf1)), (q2, .inl (k 0, 8, .inl qf2)), (q3, .inl (k 0, 4, .inl qf3)), (q4, .inl (k 0, 32, .inl qf4)), (q5, .inl (k 0, 6, .inl qf5)), (q6, .inl (k 0, 6, .inl qf6)), (q7, .inl (k 0, 6, .inl qf7))] H := hP
  have hD : va_D A [(ph, .inr (0, [.ref p1, .ref p2, .ref p3, .ref p4, .ref p5, .ref p6, .ref p7, .int pu0, .int pu1, .int pu2, .int pu3, .int pu4])), (p1, .inl (k 0, 8, .inl f_1)), (p2, .inl (k 0, 8, .inl f_2)), (p3, .inl (k 0, 4, .inl f_3)), (p4, .inl (k 0, 32, .inl f_4)), (p5, .inl (k 0, 6, .inl f_5)), (p6, .inl (k 0, 6, .inl f_6)), (p7, .inl (k 0, 6, .inl pf7)), (qh, .inr (0, [.ref q1, .ref q2, .ref q3, .ref q4, .ref q5, .ref q6, .ref q7, .int qu0, .int qu1, .int qu2, .int qu3, .int qu4])), (q1, .inl (k 0, 8, .inl qf1)), (q2, .inl (k 0, 8, .inl qf2)), (q3, .inl (k 0, 4, .inl qf3)), (q4, .inl (k 0, 32, .inl qf4)), (q5, .inl (k 0, 6, .inl qf5)), (q6, .inl (k 0, 6, .inl qf6)), (q7, .inl (k 0, 6, .inl qf7))] := hD
  refine lv_aload_n hx hb dX0_copy_89 rfl (lv_at hl 1 rfl) ?_
  refine va_get (D := (dC, dI)) (ci := 0) (v := .ref q7) (C := RX0) (T := TX0) (N := 12) hx hb hts hi0 hown hK hP 8 rfl rfl 6 (by decide) (hts (.fieldLink RX0 30 "HeightFine$Borough" "reach" "[I") (by decide +kernel)) (fun _ h9 => h9) rfl dX0_copy_90 ?_
  refine lv_iconst (v := 0) hx hb dX0_copy_93 (by decide) ?_
  refine lv_aload_n hx hb dX0_copy_94 rfl (lv_at hl 0 rfl) ?_
  refine va_get (D := (dC, dI)) (ci := 0) (v := .ref p7) (C := RX0) (T := TX0) (N := 12) hx hb hts hi0 hown hK hP 0 rfl rfl 6 (by decide) (hts (.fieldLink RX0 30 "HeightFine$Borough" "reach" "[I") (by decide +kernel)) (fun _ h9 => h9) rfl dX0_copy_95 ?_
  refine lv_iconst (v := 0) hx hb dX0_copy_98 (by decide) ?_
  refine lv_bipush (v := 6) hx hb dX0_copy_99 (by decide) ?_
  refine va_copyi hx hb (by rw [hml]; exact hl.1.symm) hown (hts (.methodLink RX0 45 arraycopyName) (by decide +kernel)) (hts (.native arraycopyName) (by decide +kernel)) (hts (.static arraycopyName) (by decide +kernel)) (hts (.initialized "java/lang/System") (by decide +kernel)) hK hP hD hS 15 7 0 0 rfl rfl rfl rfl rfl (sp := 0) (dp := 0) (n := 6) (by decide) (by decide) (by decide) (by decide) (by decide) (fun _ _ => rfl) (by decide) (by decide) dX0_copy_101 (fun H locs hP hD hS => ?_)
  obtain ⟨f_7, hP, hD⟩ := zz_anyc hP hD
  have hP : va_P (dC, dI) vwCl [(ph, .inr (0, [.ref p1, .ref p2, .ref p3, .ref p4, .ref p5, .ref p6, .ref p7, .int pu0, .int pu1, .int pu2, .int pu3, .int pu4])), (p1, .inl (k 0, 8, .inl f_1)), (p2, .inl (k 0, 8, .inl f_2)), (p3, .inl (k 0, 4, .inl f_3)), (p4, .inl (k 0, 32, .inl f_4)), (p5, .inl (k 0, 6, .inl f_5)), (p6, .inl (k 0, 6, .inl f_6)), (p7, .inl (k 0, 6, .inl f_7)), (qh, .inr (0, [.ref q1, .ref q2, .ref q3, .ref q4, .ref q5, .ref q6, .ref q7, .int qu0, .int qu1, .int qu2, .int qu3, .int qu4])), (q1, .inl (k 0, 8, .inl qf1)), (q2, .inl (k 0, 8, .inl qf2)), (q3, .inl (k 0, 4, .inl qf3)), (q4, .inl (k 0, 32, .inl qf4)), (q5, .inl (k 0, 6, .inl qf5)), (q6, .inl (k 0, 6, .inl qf6)), (q7, .inl (k 0, 6, .inl qf7))] H := hP
  have hD : va_D A [(ph, .inr (0, [.ref p1, .ref p2, .ref p3, .ref p4, .ref p5, .ref p6, .ref p7, .int pu0, .int pu1, .int pu2, .int pu3, .int pu4])), (p1, .inl (k 0, 8, .inl f_1)), (p2, .inl (k 0, 8, .inl f_2)), (p3, .inl (k 0, 4, .inl f_3)), (p4, .inl (k 0, 32, .inl f_4)), (p5, .inl (k 0, 6, .inl f_5)), (p6, .inl (k 0, 6, .inl f_6)), (p7, .inl (k 0, 6, .inl f_7)), (qh, .inr (0, [.ref q1, .ref q2, .ref q3, .ref q4, .ref q5, .ref q6, .ref q7, .int qu0, .int qu1, .int qu2, .int qu3, .int qu4])), (q1, .inl (k 0, 8, .inl qf1)), (q2, .inl (k 0, 8, .inl qf2)), (q3, .inl (k 0, 4, .inl qf3)), (q4, .inl (k 0, 32, .inl qf4)), (q5, .inl (k 0, 6, .inl qf5)), (q6, .inl (k 0, 6, .inl qf6)), (q7, .inl (k 0, 6, .inl qf7))] := hD
  refine lv_aload_n hx hb dX0_copy_104 rfl (lv_at hl 0 rfl) ?_
  refine lv_aload_n hx hb dX0_copy_105 rfl (lv_at hl 1 rfl) ?_
  refine va_get (D := (dC, dI)) (ci := 0) (v := .int qu0) (C := RX0) (T := TX0) (N := 12) hx hb hts hi0 hown hK hP 8 rfl rfl 7 (by decide) (hts (.fieldLink RX0 51 "HeightFine$Borough" "people" "I") (by decide +kernel)) (fun _ h9 => h9) rfl dX0_copy_106 ?_
  refine va_put (D := (dC, dI)) (ci := 0) (v := .int qu0) (ty := .int) (C := RX0) (T := TX0) (N := 12) hx hb hts hi0 tyX0 tyX0_ok nmX0 hown hK hP hD hS 0 rfl rfl 7 (by decide) (hts (.fieldLink RX0 51 "HeightFine$Borough" "people" "I") (by decide +kernel)) (fun _ h9 => h9) rfl (by decide +kernel) rfl rfl (Nat.le_of_ble_eq_true rfl) dX0_copy_109 (fun H locs hP hD hS => ?_)
  have hP : va_P (dC, dI) vwCl [(ph, .inr (0, [.ref p1, .ref p2, .ref p3, .ref p4, .ref p5, .ref p6, .ref p7, .int qu0, .int pu1, .int pu2, .int pu3, .int pu4])), (p1, .inl (k 0, 8, .inl f_1)), (p2, .inl (k 0, 8, .inl f_2)), (p3, .inl (k 0, 4, .inl f_3)), (p4, .inl (k 0, 32, .inl f_4)), (p5, .inl (k 0, 6, .inl f_5)), (p6, .inl (k 0, 6, .inl f_6)), (p7, .inl (k 0, 6, .inl f_7)), (qh, .inr (0, [.ref q1, .ref q2, .ref q3, .ref q4, .ref q5, .ref q6, .ref q7, .int qu0, .int qu1, .int qu2, .int qu3, .int qu4])), (q1, .inl (k 0, 8, .inl qf1)), (q2, .inl (k 0, 8, .inl qf2)), (q3, .inl (k 0, 4, .inl qf3)), (q4, .inl (k 0, 32, .inl qf4)), (q5, .inl (k 0, 6, .inl qf5)), (q6, .inl (k 0, 6, .inl qf6)), (q7, .inl (k 0, 6, .inl qf7))] H := hP
  have hD : va_D A [(ph, .inr (0, [.ref p1, .ref p2, .ref p3, .ref p4, .ref p5, .ref p6, .ref p7, .int qu0, .int pu1, .int pu2, .int pu3, .int pu4])), (p1, .inl (k 0, 8, .inl f_1)), (p2, .inl (k 0, 8, .inl f_2)), (p3, .inl (k 0, 4, .inl f_3)), (p4, .inl (k 0, 32, .inl f_4)), (p5, .inl (k 0, 6, .inl f_5)), (p6, .inl (k 0, 6, .inl f_6)), (p7, .inl (k 0, 6, .inl f_7)), (qh, .inr (0, [.ref q1, .ref q2, .ref q3, .ref q4, .ref q5, .ref q6, .ref q7, .int qu0, .int qu1, .int qu2, .int qu3, .int qu4])), (q1, .inl (k 0, 8, .inl qf1)), (q2, .inl (k 0, 8, .inl qf2)), (q3, .inl (k 0, 4, .inl qf3)), (q4, .inl (k 0, 32, .inl qf4)), (q5, .inl (k 0, 6, .inl qf5)), (q6, .inl (k 0, 6, .inl qf6)), (q7, .inl (k 0, 6, .inl qf7))] := hD
  refine lv_aload_n hx hb dX0_copy_112 rfl (lv_at hl 0 rfl) ?_
  refine lv_aload_n hx hb dX0_copy_113 rfl (lv_at hl 1 rfl) ?_
  refine va_get (D := (dC, dI)) (ci := 0) (v := .int qu1) (C := RX0) (T := TX0) (N := 12) hx hb hts hi0 hown hK hP 8 rfl rfl 8 (by decide) (hts (.fieldLink RX0 55 "HeightFine$Borough" "poor" "I") (by decide +kernel)) (fun _ h9 => h9) rfl dX0_copy_114 ?_
  refine va_put (D := (dC, dI)) (ci := 0) (v := .int qu1) (ty := .int) (C := RX0) (T := TX0) (N := 12) hx hb hts hi0 tyX0 tyX0_ok nmX0 hown hK hP hD hS 0 rfl rfl 8 (by decide) (hts (.fieldLink RX0 55 "HeightFine$Borough" "poor" "I") (by decide +kernel)) (fun _ h9 => h9) rfl (by decide +kernel) rfl rfl (Nat.le_of_ble_eq_true rfl) dX0_copy_117 (fun H locs hP hD hS => ?_)
  have hP : va_P (dC, dI) vwCl [(ph, .inr (0, [.ref p1, .ref p2, .ref p3, .ref p4, .ref p5, .ref p6, .ref p7, .int qu0, .int qu1, .int pu2, .int pu3, .int pu4])), (p1, .inl (k 0, 8, .inl f_1)), (p2, .inl (k 0, 8, .inl f_2)), (p3, .inl (k 0, 4, .inl f_3)), (p4, .inl (k 0, 32, .inl f_4)), (p5, .inl (k 0, 6, .inl f_5)), (p6, .inl (k 0, 6, .inl f_6)), (p7, .inl (k 0, 6, .inl f_7)), (qh, .inr (0, [.ref q1, .ref q2, .ref q3, .ref q4, .ref q5, .ref q6, .ref q7, .int qu0, .int qu1, .int qu2, .int qu3, .int qu4])), (q1, .inl (k 0, 8, .inl qf1)), (q2, .inl (k 0, 8, .inl qf2)), (q3, .inl (k 0, 4, .inl qf3)), (q4, .inl (k 0, 32, .inl qf4)), (q5, .inl (k 0, 6, .inl qf5)), (q6, .inl (k 0, 6, .inl qf6)), (q7, .inl (k 0, 6, .inl qf7))] H := hP
  have hD : va_D A [(ph, .inr (0, [.ref p1, .ref p2, .ref p3, .ref p4, .ref p5, .ref p6, .ref p7, .int qu0, .int qu1, .int pu2, .int pu3, .int pu4])), (p1, .inl (k 0, 8, .inl f_1)), (p2, .inl (k 0, 8, .inl f_2)), (p3, .inl (k 0, 4, .inl f_3)), (p4, .inl (k 0, 32, .inl f_4)), (p5, .inl (k 0, 6, .inl f_5)), (p6, .inl (k 0, 6, .inl f_6)), (p7, .inl (k 0, 6, .inl f_7)), (qh, .inr (0, [.ref q1, .ref q2, .ref q3, .ref q4, .ref q5, .ref q6, .ref q7, .int qu0, .int qu1, .int qu2, .int qu3, .int qu4])), (q1, .inl (k 0, 8, .inl qf1)), (q2, .inl (k 0, 8, .inl qf2)), (q3, .inl (k 0, 4, .inl qf3)), (q4, .inl (k 0, 32, .inl qf4)), (q5, .inl (k 0, 6, .inl qf5)), (q6, .inl (k 0, 6, .inl qf6)), (q7, .inl (k 0, 6, .inl qf7))] := hD
  refine lv_aload_n hx hb dX0_copy_120 rfl (lv_at hl 0 rfl) ?_
  refine lv_aload_n hx hb dX0_copy_121 rfl (lv_at hl 1 rfl) ?_
  refine va_get (D := (dC, dI)) (ci := 0) (v := .int qu2) (C := RX0) (T := TX0) (N := 12) hx hb hts hi0 hown hK hP 8 rfl rfl 9 (by decide) (hts (.fieldLink RX0 58 "HeightFine$Borough" "caught" "I") (by decide +kernel)) (fun _ h9 => h9) rfl dX0_copy_122 ?_
  refine va_put (D := (dC, dI)) (ci := 0) (v := .int qu2) (ty := .int) (C := RX0) (T := TX0) (N := 12) hx hb hts hi0 tyX0 tyX0_ok nmX0 hown hK hP hD hS 0 rfl rfl 9 (by decide) (hts (.fieldLink RX0 58 "HeightFine$Borough" "caught" "I") (by decide +kernel)) (fun _ h9 => h9) rfl (by decide +kernel) rfl rfl (Nat.le_of_ble_eq_true rfl) dX0_copy_125 (fun H locs hP hD hS => ?_)
  have hP : va_P (dC, dI) vwCl [(ph, .inr (0, [.ref p1, .ref p2, .ref p3, .ref p4, .ref p5, .ref p6, .ref p7, .int qu0, .int qu1, .int qu2, .int pu3, .int pu4])), (p1, .inl (k 0, 8, .inl f_1)), (p2, .inl (k 0, 8, .inl f_2)), (p3, .inl (k 0, 4, .inl f_3)), (p4, .inl (k 0, 32, .inl f_4)), (p5, .inl (k 0, 6, .inl f_5)), (p6, .inl (k 0, 6, .inl f_6)), (p7, .inl (k 0, 6, .inl f_7)), (qh, .inr (0, [.ref q1, .ref q2, .ref q3, .ref q4, .ref q5, .ref q6, .ref q7, .int qu0, .int qu1, .int qu2, .int qu3, .int qu4])), (q1, .inl (k 0, 8, .inl qf1)), (q2, .inl (k 0, 8, .inl qf2)), (q3, .inl (k 0, 4, .inl qf3)), (q4, .inl (k 0, 32, .inl qf4)), (q5, .inl (k 0, 6, .inl qf5)), (q6, .inl (k 0, 6, .inl qf6)), (q7, .inl (k 0, 6, .inl qf7))] H := hP
  have hD : va_D A [(ph, .inr (0, [.ref p1, .ref p2, .ref p3, .ref p4, .ref p5, .ref p6, .ref p7, .int qu0, .int qu1, .int qu2, .int pu3, .int pu4])), (p1, .inl (k 0, 8, .inl f_1)), (p2, .inl (k 0, 8, .inl f_2)), (p3, .inl (k 0, 4, .inl f_3)), (p4, .inl (k 0, 32, .inl f_4)), (p5, .inl (k 0, 6, .inl f_5)), (p6, .inl (k 0, 6, .inl f_6)), (p7, .inl (k 0, 6, .inl f_7)), (qh, .inr (0, [.ref q1, .ref q2, .ref q3, .ref q4, .ref q5, .ref q6, .ref q7, .int qu0, .int qu1, .int qu2, .int qu3, .int qu4])), (q1, .inl (k 0, 8, .inl qf1)), (q2, .inl (k 0, 8, .inl qf2)), (q3, .inl (k 0, 4, .inl qf3)), (q4, .inl (k 0, 32, .inl qf4)), (q5, .inl (k 0, 6, .inl qf5)), (q6, .inl (k 0, 6, .inl qf6)), (q7, .inl (k 0, 6, .inl qf7))] := hD
  refine lv_aload_n hx hb dX0_copy_128 rfl (lv_at hl 0 rfl) ?_
  refine lv_aload_n hx hb dX0_copy_129 rfl (lv_at hl 1 rfl) ?_
  refine va_get (D := (dC, dI)) (ci := 0) (v := .int qu3) (C := RX0) (T := TX0) (N := 12) hx hb hts hi0 hown hK hP 8 rfl rfl 10 (by decide) (hts (.fieldLink RX0 61 "HeightFine$Borough" "doors" "I") (by decide +kernel)) (fun _ h9 => h9) rfl dX0_copy_130 ?_
  refine va_put (D := (dC, dI)) (ci := 0) (v := .int qu3) (ty := .int) (C := RX0) (T := TX0) (N := 12) hx hb hts hi0 tyX0 tyX0_ok nmX0 hown hK hP hD hS 0 rfl rfl 10 (by decide) (hts (.fieldLink RX0 61 "HeightFine$Borough" "doors" "I") (by decide +kernel)) (fun _ h9 => h9) rfl (by decide +kernel) rfl rfl (Nat.le_of_ble_eq_true rfl) dX0_copy_133 (fun H locs hP hD hS => ?_)
  have hP : va_P (dC, dI) vwCl [(ph, .inr (0, [.ref p1, .ref p2, .ref p3, .ref p4, .ref p5, .ref p6, .ref p7, .int qu0, .int qu1, .int qu2, .int qu3, .int pu4])), (p1, .inl (k 0, 8, .inl f_1)), (p2, .inl (k 0, 8, .inl f_2)), (p3, .inl (k 0, 4, .inl f_3)), (p4, .inl (k 0, 32, .inl f_4)), (p5, .inl (k 0, 6, .inl f_5)), (p6, .inl (k 0, 6, .inl f_6)), (p7, .inl (k 0, 6, .inl f_7)), (qh, .inr (0, [.ref q1, .ref q2, .ref q3, .ref q4, .ref q5, .ref q6, .ref q7, .int qu0, .int qu1, .int qu2, .int qu3, .int qu4])), (q1, .inl (k 0, 8, .inl qf1)), (q2, .inl (k 0, 8, .inl qf2)), (q3, .inl (k 0, 4, .inl qf3)), (q4, .inl (k 0, 32, .inl qf4)), (q5, .inl (k 0, 6, .inl qf5)), (q6, .inl (k 0, 6, .inl qf6)), (q7, .inl (k 0, 6, .inl qf7))] H := hP
  have hD : va_D A [(ph, .inr (0, [.ref p1, .ref p2, .ref p3, .ref p4, .ref p5, .ref p6, .ref p7, .int qu0, .int qu1, .int qu2, .int qu3, .int pu4])), (p1, .inl (k 0, 8, .inl f_1)), (p2, .inl (k 0, 8, .inl f_2)), (p3, .inl (k 0, 4, .inl f_3)), (p4, .inl (k 0, 32, .inl f_4)), (p5, .inl (k 0, 6, .inl f_5)), (p6, .inl (k 0, 6, .inl f_6)), (p7, .inl (k 0, 6, .inl f_7)), (qh, .inr (0, [.ref q1, .ref q2, .ref q3, .ref q4, .ref q5, .ref q6, .ref q7, .int qu0, .int qu1, .int qu2, .int qu3, .int qu4])), (q1, .inl (k 0, 8, .inl qf1)), (q2, .inl (k 0, 8, .inl qf2)), (q3, .inl (k 0, 4, .inl qf3)), (q4, .inl (k 0, 32, .inl qf4)), (q5, .inl (k 0, 6, .inl qf5)), (q6, .inl (k 0, 6, .inl qf6)), (q7, .inl (k 0, 6, .inl qf7))] := hD
  refine lv_aload_n hx hb dX0_copy_136 rfl (lv_at hl 0 rfl) ?_
  refine lv_aload_n hx hb dX0_copy_137 rfl (lv_at hl 1 rfl) ?_
  refine va_get (D := (dC, dI)) (ci := 0) (v := .int qu4) (C := RX0) (T := TX0) (N := 12) hx hb hts hi0 hown hK hP 8 rfl rfl 11 (by decide) (hts (.fieldLink RX0 64 "HeightFine$Borough" "works" "I") (by decide +kernel)) (fun _ h9 => h9) rfl dX0_copy_138 ?_
  refine va_put (D := (dC, dI)) (ci := 0) (v := .int qu4) (ty := .int) (C := RX0) (T := TX0) (N := 12) hx hb hts hi0 tyX0 tyX0_ok nmX0 hown hK hP hD hS 0 rfl rfl 11 (by decide) (hts (.fieldLink RX0 64 "HeightFine$Borough" "works" "I") (by decide +kernel)) (fun _ h9 => h9) rfl (by decide +kernel) rfl rfl (Nat.le_of_ble_eq_true rfl) dX0_copy_141 (fun H locs hP hD hS => ?_)
  have hP : va_P (dC, dI) vwCl [(ph, .inr (0, [.ref p1, .ref p2, .ref p3, .ref p4, .ref p5, .ref p6, .ref p7, .int qu0, .int qu1, .int qu2, .int qu3, .int qu4])), (p1, .inl (k 0, 8, .inl f_1)), (p2, .inl (k 0, 8, .inl f_2)), (p3, .inl (k 0, 4, .inl f_3)), (p4, .inl (k 0, 32, .inl f_4)), (p5, .inl (k 0, 6, .inl f_5)), (p6, .inl (k 0, 6, .inl f_6)), (p7, .inl (k 0, 6, .inl f_7)), (qh, .inr (0, [.ref q1, .ref q2, .ref q3, .ref q4, .ref q5, .ref q6, .ref q7, .int qu0, .int qu1, .int qu2, .int qu3, .int qu4])), (q1, .inl (k 0, 8, .inl qf1)), (q2, .inl (k 0, 8, .inl qf2)), (q3, .inl (k 0, 4, .inl qf3)), (q4, .inl (k 0, 32, .inl qf4)), (q5, .inl (k 0, 6, .inl qf5)), (q6, .inl (k 0, 6, .inl qf6)), (q7, .inl (k 0, 6, .inl qf7))] H := hP
  have hD : va_D A [(ph, .inr (0, [.ref p1, .ref p2, .ref p3, .ref p4, .ref p5, .ref p6, .ref p7, .int qu0, .int qu1, .int qu2, .int qu3, .int qu4])), (p1, .inl (k 0, 8, .inl f_1)), (p2, .inl (k 0, 8, .inl f_2)), (p3, .inl (k 0, 4, .inl f_3)), (p4, .inl (k 0, 32, .inl f_4)), (p5, .inl (k 0, 6, .inl f_5)), (p6, .inl (k 0, 6, .inl f_6)), (p7, .inl (k 0, 6, .inl f_7)), (qh, .inr (0, [.ref q1, .ref q2, .ref q3, .ref q4, .ref q5, .ref q6, .ref q7, .int qu0, .int qu1, .int qu2, .int qu3, .int qu4])), (q1, .inl (k 0, 8, .inl qf1)), (q2, .inl (k 0, 8, .inl qf2)), (q3, .inl (k 0, 4, .inl qf3)), (q4, .inl (k 0, 32, .inl qf4)), (q5, .inl (k 0, 6, .inl qf5)), (q6, .inl (k 0, 6, .inl qf6)), (q7, .inl (k 0, 6, .inl qf7))] := hD
  have hP9 : va_P (dC, dI) vwCl [(ph, .inr (0, [.ref p1, .ref p2, .ref p3, .ref p4, .ref p5, .ref p6, .ref p7, .int qu0, .int qu1, .int qu2, .int qu3, .int qu4])), (p1, .inl (k 0, 8, .inl ((fc [(fun _ => 0), f_1, f_2, f_3, f_4, f_5, f_6, f_7]) 1))), (p2, .inl (k 0, 8, .inl ((fc [(fun _ => 0), f_1, f_2, f_3, f_4, f_5, f_6, f_7]) 2))), (p3, .inl (k 0, 4, .inl ((fc [(fun _ => 0), f_1, f_2, f_3, f_4, f_5, f_6, f_7]) 3))), (p4, .inl (k 0, 32, .inl ((fc [(fun _ => 0), f_1, f_2, f_3, f_4, f_5, f_6, f_7]) 4))), (p5, .inl (k 0, 6, .inl ((fc [(fun _ => 0), f_1, f_2, f_3, f_4, f_5, f_6, f_7]) 5))), (p6, .inl (k 0, 6, .inl ((fc [(fun _ => 0), f_1, f_2, f_3, f_4, f_5, f_6, f_7]) 6))), (p7, .inl (k 0, 6, .inl ((fc [(fun _ => 0), f_1, f_2, f_3, f_4, f_5, f_6, f_7]) 7))), (qh, .inr (0, [.ref q1, .ref q2, .ref q3, .ref q4, .ref q5, .ref q6, .ref q7, .int qu0, .int qu1, .int qu2, .int qu3, .int qu4])), (q1, .inl (k 0, 8, .inl qf1)), (q2, .inl (k 0, 8, .inl qf2)), (q3, .inl (k 0, 4, .inl qf3)), (q4, .inl (k 0, 32, .inl qf4)), (q5, .inl (k 0, 6, .inl qf5)), (q6, .inl (k 0, 6, .inl qf6)), (q7, .inl (k 0, 6, .inl qf7))] H := hP.sub (ws' := [(ph, .inr (0, [.ref p1, .ref p2, .ref p3, .ref p4, .ref p5, .ref p6, .ref p7, .int qu0, .int qu1, .int qu2, .int qu3, .int qu4])), (p1, .inl (k 0, 8, .inl f_1)), (p2, .inl (k 0, 8, .inl f_2)), (p3, .inl (k 0, 4, .inl f_3)), (p4, .inl (k 0, 32, .inl f_4)), (p5, .inl (k 0, 6, .inl f_5)), (p6, .inl (k 0, 6, .inl f_6)), (p7, .inl (k 0, 6, .inl f_7)), (qh, .inr (0, [.ref q1, .ref q2, .ref q3, .ref q4, .ref q5, .ref q6, .ref q7, .int qu0, .int qu1, .int qu2, .int qu3, .int qu4])), (q1, .inl (k 0, 8, .inl qf1)), (q2, .inl (k 0, 8, .inl qf2)), (q3, .inl (k 0, 4, .inl qf3)), (q4, .inl (k 0, 32, .inl qf4)), (q5, .inl (k 0, 6, .inl qf5)), (q6, .inl (k 0, 6, .inl qf6)), (q7, .inl (k 0, 6, .inl qf7))]) [0, 1, 2, 3, 4, 5, 6, 7, 8, 9, 10, 11, 12, 13, 14, 15] rfl
  have hD9 : va_D A [(ph, .inr (0, [.ref p1, .ref p2, .ref p3, .ref p4, .ref p5, .ref p6, .ref p7, .int qu0, .int qu1, .int qu2, .int qu3, .int qu4])), (p1, .inl (k 0, 8, .inl ((fc [(fun _ => 0), f_1, f_2, f_3, f_4, f_5, f_6, f_7]) 1))), (p2, .inl (k 0, 8, .inl ((fc [(fun _ => 0), f_1, f_2, f_3, f_4, f_5, f_6, f_7]) 2))), (p3, .inl (k 0, 4, .inl ((fc [(fun _ => 0), f_1, f_2, f_3, f_4, f_5, f_6, f_7]) 3))), (p4, .inl (k 0, 32, .inl ((fc [(fun _ => 0), f_1, f_2, f_3, f_4, f_5, f_6, f_7]) 4))), (p5, .inl (k 0, 6, .inl ((fc [(fun _ => 0), f_1, f_2, f_3, f_4, f_5, f_6, f_7]) 5))), (p6, .inl (k 0, 6, .inl ((fc [(fun _ => 0), f_1, f_2, f_3, f_4, f_5, f_6, f_7]) 6))), (p7, .inl (k 0, 6, .inl ((fc [(fun _ => 0), f_1, f_2, f_3, f_4, f_5, f_6, f_7]) 7))), (qh, .inr (0, [.ref q1, .ref q2, .ref q3, .ref q4, .ref q5, .ref q6, .ref q7, .int qu0, .int qu1, .int qu2, .int qu3, .int qu4])), (q1, .inl (k 0, 8, .inl qf1)), (q2, .inl (k 0, 8, .inl qf2)), (q3, .inl (k 0, 4, .inl qf3)), (q4, .inl (k 0, 32, .inl qf4)), (q5, .inl (k 0, 6, .inl qf5)), (q6, .inl (k 0, 6, .inl qf6)), (q7, .inl (k 0, 6, .inl qf7))] := hD.sub (ws' := [(ph, .inr (0, [.ref p1, .ref p2, .ref p3, .ref p4, .ref p5, .ref p6, .ref p7, .int qu0, .int qu1, .int qu2, .int qu3, .int qu4])), (p1, .inl (k 0, 8, .inl f_1)), (p2, .inl (k 0, 8, .inl f_2)), (p3, .inl (k 0, 4, .inl f_3)), (p4, .inl (k 0, 32, .inl f_4)), (p5, .inl (k 0, 6, .inl f_5)), (p6, .inl (k 0, 6, .inl f_6)), (p7, .inl (k 0, 6, .inl f_7)), (qh, .inr (0, [.ref q1, .ref q2, .ref q3, .ref q4, .ref q5, .ref q6, .ref q7, .int qu0, .int qu1, .int qu2, .int qu3, .int qu4])), (q1, .inl (k 0, 8, .inl qf1)), (q2, .inl (k 0, 8, .inl qf2)), (q3, .inl (k 0, 4, .inl qf3)), (q4, .inl (k 0, 32, .inl qf4)), (q5, .inl (k 0, 6, .inl qf5)), (q6, .inl (k 0, 6, .inl qf6)), (q7, .inl (k 0, 6, .inl qf7))]) [0, 1, 2, 3, 4, 5, 6, 7, 8, 9, 10, 11, 12, 13, 14, 15] (by decide) rfl
  refine W.widen (k := 0) (n := 0) (by decide +kernel) (by decide +kernel) ?_
  exact W.vret hx hb hr (fun t ht hW => ⟨⟨(fc [(fun _ => 0), f_1, f_2, f_3, f_4, f_5, f_6, f_7]), rfl, trivial, by rw [ht]; exact hP9, hD9⟩, hS.F ht⟩) hS.2.2 dX0_copy_144

def ws_c_Ycopy : List Cond := .code yX10_copy cX10_copy 2 none :: ([.fieldLink RX10 9 "HeightFine$Year" "kind" "[I", .methodLink RX10 24 arraycopyName, .native arraycopyName, .static arraycopyName, .initialized "java/lang/System", .fieldLink RX10 15 "HeightFine$Year" "first" "[I", .fieldLink RX10 18 "HeightFine$Year" "second" "[I", .fieldLink RX10 21 "HeightFine$Year" "third" "[I", .fieldLink RX10 30 "HeightFine$Year" "deeds" "I"] ++ u_ws RX10 TX10 5)
set_option maxRecDepth 20000 in
theorem in_c_Ycopy_10 : ∀ w ∈ u_ws RX10 TX10 5, w ∈ ws_c_Ycopy := by decide +kernel
set_option maxHeartbeats 4000000 in
set_option maxRecDepth 100000 in
theorem c_Ycopy (l : Launch) (dC : Nat → ClassId) (dI : Nat → Nat → Nat) (k : Nat → ClassId) (ph : Nat) (p1 : Nat) (p2 : Nat) (p3 : Nat) (p4 : Nat) (pf1 : Nat → Int32) (pf2 : Nat → Int32) (pf3 : Nat → Int32) (pf4 : Nat → Int32) (pu0 : Int32) (qh : Nat) (q1 : Nat) (q2 : Nat) (q3 : Nat) (q4 : Nat) (qf1 : Nat → Int32) (qf2 : Nat → Int32) (qf3 : Nat → Int32) (qf4 : Nat → Int32) (qu0 : Int32) (sz : Nat) : Met l yX10_copy ws_c_Ycopy ({ frames := 1, cells := 0, slots := 0, locals := 68 }) (va_Pc [.ref ph, .ref qh] (prW dC dI k [(ph, .inr (10, [.ref p1, .ref p2, .ref p3, .ref p4, .int pu0])), (p1, .inl (k 0, 40, .inl pf1)), (p2, .inl (k 0, 40, .inl pf2)), (p3, .inl (k 0, 40, .inl pf3)), (p4, .inl (k 0, 40, .inl pf4)), (qh, .inr (10, [.ref q1, .ref q2, .ref q3, .ref q4, .int qu0])), (q1, .inl (k 0, 40, .inl qf1)), (q2, .inl (k 0, 40, .inl qf2)), (q3, .inl (k 0, 40, .inl qf3)), (q4, .inl (k 0, 40, .inl qf4))] sz)) (va_Qv (fun (_ : (Nat → Nat → Int32)) => True) (fun (g : (Nat → Nat → Int32)) (t : State) => po (dC, dI) (va_A [(ph, .inr (10, [.ref p1, .ref p2, .ref p3, .ref p4, .int pu0])), (p1, .inl (k 0, 40, .inl pf1)), (p2, .inl (k 0, 40, .inl pf2)), (p3, .inl (k 0, 40, .inl pf3)), (p4, .inl (k 0, 40, .inl pf4)), (qh, .inr (10, [.ref q1, .ref q2, .ref q3, .ref q4, .int qu0])), (q1, .inl (k 0, 40, .inl qf1)), (q2, .inl (k 0, 40, .inl qf2)), (q3, .inl (k 0, 40, .inl qf3)), (q4, .inl (k 0, 40, .inl qf4))] sz) [(ph, .inr (10, [.ref p1, .ref p2, .ref p3, .ref p4, .int qu0])), (p1, .inl (k 0, 40, .inl (g 1))), (p2, .inl (k 0, 40, .inl (g 2))), (p3, .inl (k 0, 40, .inl (g 3))), (p4, .inl (k 0, 40, .inl (g 4))), (qh, .inr (10, [.ref q1, .ref q2, .ref q3, .ref q4, .int qu0])), (q1, .inl (k 0, 40, .inl qf1)), (q2, .inl (k 0, 40, .inl qf2)), (q3, .inl (k 0, 40, .inl qf3)), (q4, .inl (k 0, 40, .inl qf4))] t) (va_A [(ph, .inr (10, [.ref p1, .ref p2, .ref p3, .ref p4, .int pu0])), (p1, .inl (k 0, 40, .inl pf1)), (p2, .inl (k 0, 40, .inl pf2)), (p3, .inl (k 0, 40, .inl pf3)), (p4, .inl (k 0, 40, .inl pf4)), (qh, .inr (10, [.ref q1, .ref q2, .ref q3, .ref q4, .int qu0])), (q1, .inl (k 0, 40, .inl qf1)), (q2, .inl (k 0, 40, .inl qf2)), (q3, .inl (k 0, 40, .inl qf3)), (q4, .inl (k 0, 40, .inl qf4))] sz)) 0 0 (va_A [(ph, .inr (10, [.ref p1, .ref p2, .ref p3, .ref p4, .int pu0])), (p1, .inl (k 0, 40, .inl pf1)), (p2, .inl (k 0, 40, .inl pf2)), (p3, .inl (k 0, 40, .inl pf3)), (p4, .inl (k 0, 40, .inl pf4)), (qh, .inr (10, [.ref q1, .ref q2, .ref q3, .ref q4, .int qu0])), (q1, .inl (k 0, 40, .inl qf1)), (q2, .inl (k 0, 40, .inl qf2)), (q3, .inl (k 0, 40, .inl qf3)), (q4, .inl (k 0, 40, .inl qf4))] sz) := by
  refine Met.ofW (cc := cX10_copy) (maxL := 2) (ret := none) (by decide) rfl ?_
  intro p e s m args below meth c s₁ B hml hv
  obtain ⟨rfl, hsz, hP, hK, hD0⟩ := hv
  have hx := B.exec
  have hb := B.bytes
  have hr := B.returns
  have hts := atoms_spec (ws := ws_c_Ycopy) B.pre
  have hown : s.vm.findClass RX10 = some m.cls := findClass_of_methodNamed B.named
  have hi10 := in_c_Ycopy_10
  subst hsz
  have hD := hD0.self (sz := s.heap.size)
  generalize hAe : va_A [(ph, .inr (10, [.ref p1, .ref p2, .ref p3, .ref p4, .int pu0])), (p1, .inl (k 0, 40, .inl pf1)), (p2, .inl (k 0, 40, .inl pf2)), (p3, .inl (k 0, 40, .inl pf3)), (p4, .inl (k 0, 40, .inl pf4)), (qh, .inr (10, [.ref q1, .ref q2, .ref q3, .ref q4, .int qu0])), (q1, .inl (k 0, 40, .inl qf1)), (q2, .inl (k 0, 40, .inl qf2)), (q3, .inl (k 0, 40, .inl qf3)), (q4, .inl (k 0, 40, .inl qf4))] s.heap.size = A at hD ⊢
  have hA : ∀ q : Nat, s.heap.size ≤ q → A q := fun q h => by rw [← hAe]; exact Or.inr h
  have hS : va_S A s.heap s.heap [] := va_S.rf
  have hP : va_P (dC, dI) vwCl [(ph, .inr (10, [.ref p1, .ref p2, .ref p3, .ref p4, .int pu0])), (p1, .inl (k 0, 40, .inl pf1)), (p2, .inl (k 0, 40, .inl pf2)), (p3, .inl (k 0, 40, .inl pf3)), (p4, .inl (k 0, 40, .inl pf4)), (qh, .inr (10, [.ref q1, .ref q2, .ref q3, .ref q4, .int qu0])), (q1, .inl (k 0, 40, .inl qf1)), (q2, .inl (k 0, 40, .inl qf2)), (q3, .inl (k 0, 40, .inl qf3)), (q4, .inl (k 0, 40, .inl qf4))] s.heap := hP
  have hl := lv_entry ([.ref ph, .ref qh]) (n := 2) (Nat.le_of_ble_eq_true rfl)
  rw [lg_entry_eq]
  generalize (lg_sl ([.ref ph, .ref qh]) ++ List.replicate (2 - (lg_sl ([.ref ph, .ref qh])).length) Slot.unset).toArray = ls at hl ⊢
  have hl : lv_has ls 2 [(0, .ref ph), (1, .ref qh)] := hl
  refine lv_aload_n hx hb dX10_copy_0 rfl (lv_at hl 1 rfl) ?_
  refine va_get (D := (dC, dI)) (ci := 10) (v := .ref q1) (C := RX10) (T := TX10) (N := 5) hx hb hts hi10 hown hK hP 5 rfl rfl 0 (by decide) (hts (.fieldLink RX10 9 "HeightFine$Year" "kind" "[I") (by decide +kernel)) (fun _ h9 => h9) rfl dX10_copy_1 ?_
  refine lv_iconst (v := 0) hx hb dX10_copy_4 (by decide) ?_
  refine lv_aload_n hx hb dX10_copy_5 rfl (lv_at hl 0 rfl) ?_
  refine va_get (D := (dC, dI)) (ci := 10) (v := .ref p1) (C := RX10) (T := TX10) (N := 5) hx hb hts hi10 hown hK hP 0 rfl rfl 0 (by decide) (hts (.fieldLink RX10 9 "HeightFine$Year" "kind" "[I") (by decide +kernel)) (fun _ h9 => h9) rfl dX10_copy_6 ?_
  refine lv_iconst (v := 0) hx hb dX10_copy_9 (by decide) ?_
  refine lv_bipush (v := 40) hx hb dX10_copy_10 (by decide) ?_
  refine va_copyi hx hb (by rw [hml]; exact hl.1.symm) hown (hts (.methodLink RX10 24 arraycopyName) (by decide +kernel)) (hts (.native arraycopyName) (by decide +kernel)) (hts (.static arraycopyName) (by decide +kernel)) (hts (.initialized "java/lang/System") (by decide +kernel)) hK hP hD hS 6 1 0 0 rfl rfl rfl rfl rfl (sp := 0) (dp := 0) (n := 40) (by decide) (by decide) (by decide) (by decide) (by decide) (fun _ _ => rfl) (by decide) (by decide) dX10_copy_12 (fun H locs hP hD hS => ?_)
  obtain ⟨f_1, hP, hD⟩ := zz_anyc hP hD
  have hP : va_P (dC, dI) vwCl [(ph, .inr (10, [.ref p1, .ref p2, .ref p3, .ref p4, .int pu0])), (p1, .inl (k 0, 40, .inl f_1)), (p2, .inl (k 0, 40, .inl pf2)), (p3, .inl (k 0, 40, .inl pf3)), (p4, .inl (k 0, 40, .inl pf4)), (qh, .inr (10, [.ref q1, .ref q2, .ref q3, .ref q4, .int qu0])), (q1, .inl (k 0, 40, .inl qf1)), (q2, .inl (k 0, 40, .inl qf2)), (q3, .inl (k 0, 40, .inl qf3)), (q4, .inl (k 0, 40, .inl qf4))] H := hP
  have hD : va_D A [(ph, .inr (10, [.ref p1, .ref p2, .ref p3, .ref p4, .int pu0])), (p1, .inl (k 0, 40, .inl f_1)), (p2, .inl (k 0, 40, .inl pf2)), (p3, .inl (k 0, 40, .inl pf3)), (p4, .inl (k 0, 40, .inl pf4)), (qh, .inr (10, [.ref q1, .ref q2, .ref q3, .ref q4, .int qu0])), (q1, .inl (k 0, 40, .inl qf1)), (q2, .inl (k 0, 40, .inl qf2)), (q3, .inl (k 0, 40, .inl qf3)), (q4, .inl (k 0, 40, .inl qf4))] := hD
  refine lv_aload_n hx hb dX10_copy_15 rfl (lv_at hl 1 rfl) ?_
  refine va_get (D := (dC, dI)) (ci := 10) (v := .ref q2) (C := RX10) (T := TX10) (N := 5) hx hb hts hi10 hown hK hP 5 rfl rfl 1 (by decide) (hts (.fieldLink RX10 15 "HeightFine$Year" "first" "[I") (by decide +kernel)) (fun _ h9 => h9) rfl dX10_copy_16 ?_
  refine lv_iconst (v := 0) hx hb dX10_copy_19 (by decide) ?_
  refine lv_aload_n hx hb dX10_copy_20 rfl (lv_at hl 0 rfl) ?_
  refine va_get (D := (dC, dI)) (ci := 10) (v := .ref p2) (C := RX10) (T := TX10) (N := 5) hx hb hts hi10 hown hK hP 0 rfl rfl 1 (by decide) (hts (.fieldLink RX10 15 "HeightFine$Year" "first" "[I") (by decide +kernel)) (fun _ h9 => h9) rfl dX10_copy_21 ?_
  refine lv_iconst (v := 0) hx hb dX10_copy_24 (by decide) ?_
  refine lv_bipush (v := 40) hx hb dX10_copy_25 (by decide) ?_
  refine va_copyi hx hb (by rw [hml]; exact hl.1.symm) hown (hts (.methodLink RX10 24 arraycopyName) (by decide +kernel)) (hts (.native arraycopyName) (by decide +kernel)) (hts (.static arraycopyName) (by decide +kernel)) (hts (.initialized "java/lang/System") (by decide +kernel)) hK hP hD hS 7 2 0 0 rfl rfl rfl rfl rfl (sp := 0) (dp := 0) (n := 40) (by decide) (by decide) (by decide) (by decide) (by decide) (fun _ _ => rfl) (by decide) (by decide) dX10_copy_27 (fun H locs hP hD hS => ?_)
  obtain ⟨f_2, hP, hD⟩ := zz_anyc hP hD
  have hP : va_P (dC, dI) vwCl [(ph, .inr (10, [.ref p1, .ref p2, .ref p3, .ref p4, .int pu0])), (p1, .inl (k 0, 40, .inl f_1)), (p2, .inl (k 0, 40, .inl f_2)), (p3, .inl (k 0, 40, .inl pf3)), (p4, .inl (k 0, 40, .inl pf4)), (qh, .inr (10, [.ref q1, .ref q2, .ref q3, .ref q4, .int qu0])), (q1, .inl (k 0, 40, .inl qf1)), (q2, .inl (k 0, 40, .inl qf2)), (q3, .inl (k 0, 40, .inl qf3)), (q4, .inl (k 0, 40, .inl qf4))] H := hP
  have hD : va_D A [(ph, .inr (10, [.ref p1, .ref p2, .ref p3, .ref p4, .int pu0])), (p1, .inl (k 0, 40, .inl f_1)), (p2, .inl (k 0, 40, .inl f_2)), (p3, .inl (k 0, 40, .inl pf3)), (p4, .inl (k 0, 40, .inl pf4)), (qh, .inr (10, [.ref q1, .ref q2, .ref q3, .ref q4, .int qu0])), (q1, .inl (k 0, 40, .inl qf1)), (q2, .inl (k 0, 40, .inl qf2)), (q3, .inl (k 0, 40, .inl qf3)), (q4, .inl (k 0, 40, .inl qf4))] := hD
  refine lv_aload_n hx hb dX10_copy_30 rfl (lv_at hl 1 rfl) ?_
  refine va_get (D := (dC, dI)) (ci := 10) (v := .ref q3) (C := RX10) (T := TX10) (N := 5) hx hb hts hi10 hown hK hP 5 rfl rfl 2 (by decide) (hts (.fieldLink RX10 18 "HeightFine$Year" "second" "[I") (by decide +kernel)) (fun _ h9 => h9) rfl dX10_copy_31 ?_
  refine lv_iconst (v := 0) hx hb dX10_copy_34 (by decide) ?_
  refine lv_aload_n hx hb dX10_copy_35 rfl (lv_at hl 0 rfl) ?_
  refine va_get (D := (dC, dI)) (ci := 10) (v := .ref p3) (C := RX10) (T := TX10) (N := 5) hx hb hts hi10 hown hK hP 0 rfl rfl 2 (by decide) (hts (.fieldLink RX10 18 "HeightFine$Year" "second" "[I") (by decide +kernel)) (fun _ h9 => h9) rfl dX10_copy_36 ?_
  refine lv_iconst (v := 0) hx hb dX10_copy_39 (by decide) ?_
  refine lv_bipush (v := 40) hx hb dX10_copy_40 (by decide) ?_
  refine va_copyi hx hb (by rw [hml]; exact hl.1.symm) hown (hts (.methodLink RX10 24 arraycopyName) (by decide +kernel)) (hts (.native arraycopyName) (by decide +kernel)) (hts (.static arraycopyName) (by decide +kernel)) (hts (.initialized "java/lang/System") (by decide +kernel)) hK hP hD hS 8 3 0 0 rfl rfl rfl rfl rfl (sp := 0) (dp := 0) (n := 40) (by decide) (by decide) (by decide) (by decide) (by decide) (fun _ _ => rfl) (by decide) (by decide) dX10_copy_42 (fun H locs hP hD hS => ?_)
  obtain ⟨f_3, hP, hD⟩ := zz_anyc hP hD
  have hP : va_P (dC, dI) vwCl [(ph, .inr (10, [.ref p1, .ref p2, .ref p3, .ref p4, .int pu0])), (p1, .inl (k 0, 40, .inl f_1)), (p2, .inl (k 0, 40, .inl f_2)), (p3, .inl (k 0, 40, .inl f_3)), (p4, .inl (k 0, 40, .inl pf4)), (qh, .inr (10, [.ref q1, .ref q2, .ref q3, .ref q4, .int qu0])), (q1, .inl (k 0, 40, .inl qf1)), (q2, .inl (k 0, 40, .inl qf2)), (q3, .inl (k 0, 40, .inl qf3)), (q4, .inl (k 0, 40, .inl qf4))] H := hP
  have hD : va_D A [(ph, .inr (10, [.ref p1, .ref p2, .ref p3, .ref p4, .int pu0])), (p1, .inl (k 0, 40, .inl f_1)), (p2, .inl (k 0, 40, .inl f_2)), (p3, .inl (k 0, 40, .inl f_3)), (p4, .inl (k 0, 40, .inl pf4)), (qh, .inr (10, [.ref q1, .ref q2, .ref q3, .ref q4, .int qu0])), (q1, .inl (k 0, 40, .inl qf1)), (q2, .inl (k 0, 40, .inl qf2)), (q3, .inl (k 0, 40, .inl qf3)), (q4, .inl (k 0, 40, .inl qf4))] := hD
  refine lv_aload_n hx hb dX10_copy_45 rfl (lv_at hl 1 rfl) ?_
  refine va_get (D := (dC, dI)) (ci := 10) (v := .ref q4) (C := RX10) (T := TX10) (N := 5) hx hb hts hi10 hown hK hP 5 rfl rfl 3 (by decide) (hts (.fieldLink RX10 21 "HeightFine$Year" "third" "[I") (by decide +kernel)) (fun _ h9 => h9) rfl dX10_copy_46 ?_
  refine lv_iconst (v := 0) hx hb dX10_copy_49 (by decide) ?_
  refine lv_aload_n hx hb dX10_copy_50 rfl (lv_at hl 0 rfl) ?_
  refine va_get (D := (dC, dI)) (ci := 10) (v := .ref p4) (C := RX10) (T := TX10) (N := 5) hx hb hts hi10 hown hK hP 0 rfl rfl 3 (by decide) (hts (.fieldLink RX10 21 "HeightFine$Year" "third" "[I") (by decide +kernel)) (fun _ h9 => h9) rfl dX10_copy_51 ?_
  refine lv_iconst (v := 0) hx hb dX10_copy_54 (by decide) ?_
  refine lv_bipush (v := 40) hx hb dX10_copy_55 (by decide) ?_
  refine va_copyi hx hb (by rw [hml]; exact hl.1.symm) hown (hts (.methodLink RX10 24 arraycopyName) (by decide +kernel)) (hts (.native arraycopyName) (by decide +kernel)) (hts (.static arraycopyName) (by decide +kernel)) (hts (.initialized "java/lang/System") (by decide +kernel)) hK hP hD hS 9 4 0 0 rfl rfl rfl rfl rfl (sp := 0) (dp := 0) (n := 40) (by decide) (by decide) (by decide) (by decide) (by decide) (fun _ _ => rfl) (by decide) (by decide) dX10_copy_57 (fun H locs hP hD hS => ?_)
  obtain ⟨f_4, hP, hD⟩ := zz_anyc hP hD
  have hP : va_P (dC, dI) vwCl [(ph, .inr (10, [.ref p1, .ref p2, .ref p3, .ref p4, .int pu0])), (p1, .inl (k 0, 40, .inl f_1)), (p2, .inl (k 0, 40, .inl f_2)), (p3, .inl (k 0, 40, .inl f_3)), (p4, .inl (k 0, 40, .inl f_4)), (qh, .inr (10, [.ref q1, .ref q2, .ref q3, .ref q4, .int qu0])), (q1, .inl (k 0, 40, .inl qf1)), (q2, .inl (k 0, 40, .inl qf2)), (q3, .inl (k 0, 40, .inl qf3)), (q4, .inl (k 0, 40, .inl qf4))] H := hP
  have hD : va_D A [(ph, .inr (10, [.ref p1, .ref p2, .ref p3, .ref p4, .int pu0])), (p1, .inl (k 0, 40, .inl f_1)), (p2, .inl (k 0, 40, .inl f_2)), (p3, .inl (k 0, 40, .inl f_3)), (p4, .inl (k 0, 40, .inl f_4)), (qh, .inr (10, [.ref q1, .ref q2, .ref q3, .ref q4, .int qu0])), (q1, .inl (k 0, 40, .inl qf1)), (q2, .inl (k 0, 40, .inl qf2)), (q3, .inl (k 0, 40, .inl qf3)), (q4, .inl (k 0, 40, .inl qf4))] := hD
  refine lv_aload_n hx hb dX10_copy_60 rfl (lv_at hl 0 rfl) ?_
  refine lv_aload_n hx hb dX10_copy_61 rfl (lv_at hl 1 rfl) ?_
  refine va_get (D := (dC, dI)) (ci := 10) (v := .int qu0) (C := RX10) (T := TX10) (N := 5) hx hb hts hi10 hown hK hP 5 rfl rfl 4 (by decide) (hts (.fieldLink RX10 30 "HeightFine$Year" "deeds" "I") (by decide +kernel)) (fun _ h9 => h9) rfl dX10_copy_62 ?_
  refine va_put (D := (dC, dI)) (ci := 10) (v := .int qu0) (ty := .int) (C := RX10) (T := TX10) (N := 5) hx hb hts hi10 tyX10 tyX10_ok nmX10 hown hK hP hD hS 0 rfl rfl 4 (by decide) (hts (.fieldLink RX10 30 "HeightFine$Year" "deeds" "I") (by decide +kernel)) (fun _ h9 => h9) rfl (by decide +kernel) rfl rfl (Nat.le_of_ble_eq_true rfl) dX10_copy_65 (fun H locs hP hD hS => ?_)
  have hP : va_P (dC, dI) vwCl [(ph, .inr (10, [.ref p1, .ref p2, .ref p3, .ref p4, .int qu0])), (p1, .inl (k 0, 40, .inl f_1)), (p2, .inl (k 0, 40, .inl f_2)), (p3, .inl (k 0, 40, .inl f_3)), (p4, .inl (k 0, 40, .inl f_4)), (qh, .inr (10, [.ref q1, .ref q2, .ref q3, .ref q4, .int qu0])), (q1, .inl (k 0, 40, .inl qf1)), (q2, .inl (k 0, 40, .inl qf2)), (q3, .inl (k 0, 40, .inl qf3)), (q4, .inl (k 0, 40, .inl qf4))] H := hP
  have hD : va_D A [(ph, .inr (10, [.ref p1, .ref p2, .ref p3, .ref p4, .int qu0])), (p1, .inl (k 0, 40, .inl f_1)), (p2, .inl (k 0, 40, .inl f_2)), (p3, .inl (k 0, 40, .inl f_3)), (p4, .inl (k 0, 40, .inl f_4)), (qh, .inr (10, [.ref q1, .ref q2, .ref q3, .ref q4, .int qu0])), (q1, .inl (k 0, 40, .inl qf1)), (q2, .inl (k 0, 40, .inl qf2)), (q3, .inl (k 0, 40, .inl qf3)), (q4, .inl (k 0, 40, .inl qf4))] := hD
  have hP9 : va_P (dC, dI) vwCl [(ph, .inr (10, [.ref p1, .ref p2, .ref p3, .ref p4, .int qu0])), (p1, .inl (k 0, 40, .inl ((fc [(fun _ => 0), f_1, f_2, f_3, f_4]) 1))), (p2, .inl (k 0, 40, .inl ((fc [(fun _ => 0), f_1, f_2, f_3, f_4]) 2))), (p3, .inl (k 0, 40, .inl ((fc [(fun _ => 0), f_1, f_2, f_3, f_4]) 3))), (p4, .inl (k 0, 40, .inl ((fc [(fun _ => 0), f_1, f_2, f_3, f_4]) 4))), (qh, .inr (10, [.ref q1, .ref q2, .ref q3, .ref q4, .int qu0])), (q1, .inl (k 0, 40, .inl qf1)), (q2, .inl (k 0, 40, .inl qf2)), (q3, .inl (k 0, 40, .inl qf3)), (q4, .inl (k 0, 40, .inl qf4))] H := hP.sub (ws' := [(ph, .inr (10, [.ref p1, .ref p2, .ref p3, .ref p4, .int qu0])), (p1, .inl (k 0, 40, .inl f_1)), (p2, .inl (k 0, 40, .inl f_2)), (p3, .inl (k 0, 40, .inl f_3)), (p4, .inl (k 0, 40, .inl f_4)), (qh, .inr (10, [.ref q1, .ref q2, .ref q3, .ref q4, .int qu0])), (q1, .inl (k 0, 40, .inl qf1)), (q2, .inl (k 0, 40, .inl qf2)), (q3, .inl (k 0, 40, .inl qf3)), (q4, .inl (k 0, 40, .inl qf4))]) [0, 1, 2, 3, 4, 5, 6, 7, 8, 9] rfl
  have hD9 : va_D A [(ph, .inr (10, [.ref p1, .ref p2, .ref p3, .ref p4, .int qu0])), (p1, .inl (k 0, 40, .inl ((fc [(fun _ => 0), f_1, f_2, f_3, f_4]) 1))), (p2, .inl (k 0, 40, .inl ((fc [(fun _ => 0), f_1, f_2, f_3, f_4]) 2))), (p3, .inl (k 0, 40, .inl ((fc [(fun _ => 0), f_1, f_2, f_3, f_4]) 3))), (p4, .inl (k 0, 40, .inl ((fc [(fun _ => 0), f_1, f_2, f_3, f_4]) 4))), (qh, .inr (10, [.ref q1, .ref q2, .ref q3, .ref q4, .int qu0])), (q1, .inl (k 0, 40, .inl qf1)), (q2, .inl (k 0, 40, .inl qf2)), (q3, .inl (k 0, 40, .inl qf3)), (q4, .inl (k 0, 40, .inl qf4))] := hD.sub (ws' := [(ph, .inr (10, [.ref p1, .ref p2, .ref p3, .ref p4, .int qu0])), (p1, .inl (k 0, 40, .inl f_1)), (p2, .inl (k 0, 40, .inl f_2)), (p3, .inl (k 0, 40, .inl f_3)), (p4, .inl (k 0, 40, .inl f_4)), (qh, .inr (10, [.ref q1, .ref q2, .ref q3, .ref q4, .int qu0])), (q1, .inl (k 0, 40, .inl qf1)), (q2, .inl (k 0, 40, .inl qf2)), (q3, .inl (k 0, 40, .inl qf3)), (q4, .inl (k 0, 40, .inl qf4))]) [0, 1, 2, 3, 4, 5, 6, 7, 8, 9] (by decide) rfl
  refine W.widen (k := 0) (n := 0) (by decide +kernel) (by decide +kernel) ?_
  exact W.vret hx hb hr (fun t ht hW => ⟨⟨(fc [(fun _ => 0), f_1, f_2, f_3, f_4]), rfl, trivial, by rw [ht]; exact hP9, hD9⟩, hS.F ht⟩) hS.2.2 dX10_copy_68

def ws_c_Lcopy : List Cond := .code yX3_copy cX3_copy 2 none :: ([.fieldLink RX3 9 "HeightFine$Ledger" "got" "[I", .methodLink RX3 25 arraycopyName, .native arraycopyName, .static arraycopyName, .initialized "java/lang/System", .fieldLink RX3 21 "HeightFine$Ledger" "owed" "I"] ++ u_ws RX3 TX3 2)
set_option maxRecDepth 20000 in
theorem in_c_Lcopy_3 : ∀ w ∈ u_ws RX3 TX3 2, w ∈ ws_c_Lcopy := by decide +kernel
set_option maxHeartbeats 4000000 in
set_option maxRecDepth 100000 in
theorem c_Lcopy (l : Launch) (dC : Nat → ClassId) (dI : Nat → Nat → Nat) (k : Nat → ClassId) (ph : Nat) (p1 : Nat) (pf1 : Nat → Int32) (pu0 : Int32) (qh : Nat) (q1 : Nat) (qf1 : Nat → Int32) (qu0 : Int32) (sz : Nat) : Met l yX3_copy ws_c_Lcopy ({ frames := 1, cells := 0, slots := 0, locals := 68 }) (va_Pc [.ref ph, .ref qh] (prW dC dI k [(ph, .inr (3, [.ref p1, .int pu0])), (p1, .inl (k 0, 8, .inl pf1)), (qh, .inr (3, [.ref q1, .int qu0])), (q1, .inl (k 0, 8, .inl qf1))] sz)) (va_Qv (fun (_ : (Nat → Nat → Int32)) => True) (fun (g : (Nat → Nat → Int32)) (t : State) => po (dC, dI) (va_A [(ph, .inr (3, [.ref p1, .int pu0])), (p1, .inl (k 0, 8, .inl pf1)), (qh, .inr (3, [.ref q1, .int qu0])), (q1, .inl (k 0, 8, .inl qf1))] sz) [(ph, .inr (3, [.ref p1, .int qu0])), (p1, .inl (k 0, 8, .inl (g 1))), (qh, .inr (3, [.ref q1, .int qu0])), (q1, .inl (k 0, 8, .inl qf1))] t) (va_A [(ph, .inr (3, [.ref p1, .int pu0])), (p1, .inl (k 0, 8, .inl pf1)), (qh, .inr (3, [.ref q1, .int qu0])), (q1, .inl (k 0, 8, .inl qf1))] sz)) 0 0 (va_A [(ph, .inr (3, [.ref p1, .int pu0])), (p1, .inl (k 0, 8, .inl pf1)), (qh, .inr (3, [.ref q1, .int qu0])), (q1, .inl (k 0, 8, .inl qf1))] sz) := by
  refine Met.ofW (cc := cX3_copy) (maxL := 2) (ret := none) (by decide) rfl ?_
  intro p e s m args below meth c s₁ B hml hv
  obtain ⟨rfl, hsz, hP, hK, hD0⟩ := hv
  have hx := B.exec
  have hb := B.bytes
  have hr := B.returns
  have hts := atoms_spec (ws := ws_c_Lcopy) B.pre
  have hown : s.vm.findClass RX3 = some m.cls := findClass_of_methodNamed B.named
  have hi3 := in_c_Lcopy_3
  subst hsz
  have hD := hD0.self (sz := s.heap.size)
  generalize hAe : va_A [(ph, .inr (3, [.ref p1, .int pu0])), (p1, .inl (k 0, 8, .inl pf1)), (qh, .inr (3, [.ref q1, .int qu0])), (q1, .inl (k 0, 8, .inl qf1))] s.heap.size = A at hD ⊢
  have hA : ∀ q : Nat, s.heap.size ≤ q → A q := fun q h => by rw [← hAe]; exact Or.inr h
  have hS : va_S A s.heap s.heap [] := va_S.rf
  have hP : va_P (dC, dI) vwCl [(ph, .inr (3, [.ref p1, .int pu0])), (p1, .inl (k 0, 8, .inl pf1)), (qh, .inr (3, [.ref q1, .int qu0])), (q1, .inl (k 0, 8, .inl qf1))] s.heap := hP
  have hl := lv_entry ([.ref ph, .ref qh]) (n := 2) (Nat.le_of_ble_eq_true rfl)
  rw [lg_entry_eq]
  generalize (lg_sl ([.ref ph, .ref qh]) ++ List.replicate (2 - (lg_sl ([.ref ph, .ref qh])).length) Slot.unset).toArray = ls at hl ⊢
  have hl : lv_has ls 2 [(0, .ref ph), (1, .ref qh)] := hl
  refine lv_aload_n hx hb dX3_copy_0 rfl (lv_at hl 1 rfl) ?_
  refine va_get (D := (dC, dI)) (ci := 3) (v := .ref q1) (C := RX3) (T := TX3) (N := 2) hx hb hts hi3 hown hK hP 2 rfl rfl 0 (by decide) (hts (.fieldLink RX3 9 "HeightFine$Ledger" "got" "[I") (by decide +kernel)) (fun _ h9 => h9) rfl dX3_copy_1 ?_
  refine lv_iconst (v := 0) hx hb dX3_copy_4 (by decide) ?_
  refine lv_aload_n hx hb dX3_copy_5 rfl (lv_at hl 0 rfl) ?_
  refine va_get (D := (dC, dI)) (ci := 3) (v := .ref p1) (C := RX3) (T := TX3) (N := 2) hx hb hts hi3 hown hK hP 0 rfl rfl 0 (by decide) (hts (.fieldLink RX3 9 "HeightFine$Ledger" "got" "[I") (by decide +kernel)) (fun _ h9 => h9) rfl dX3_copy_6 ?_
  refine lv_iconst (v := 0) hx hb dX3_copy_9 (by decide) ?_
  refine lv_bipush (v := 8) hx hb dX3_copy_10 (by decide) ?_
  refine va_copyi hx hb (by rw [hml]; exact hl.1.symm) hown (hts (.methodLink RX3 25 arraycopyName) (by decide +kernel)) (hts (.native arraycopyName) (by decide +kernel)) (hts (.static arraycopyName) (by decide +kernel)) (hts (.initialized "java/lang/System") (by decide +kernel)) hK hP hD hS 3 1 0 0 rfl rfl rfl rfl rfl (sp := 0) (dp := 0) (n := 8) (by decide) (by decide) (by decide) (by decide) (by decide) (fun _ _ => rfl) (by decide) (by decide) dX3_copy_12 (fun H locs hP hD hS => ?_)
  obtain ⟨f_1, hP, hD⟩ := zz_anyc hP hD
  have hP : va_P (dC, dI) vwCl [(ph, .inr (3, [.ref p1, .int pu0])), (p1, .inl (k 0, 8, .inl f_1)), (qh, .inr (3, [.ref q1, .int qu0])), (q1, .inl (k 0, 8, .inl qf1))] H := hP
  have hD : va_D A [(ph, .inr (3, [.ref p1, .int pu0])), (p1, .inl (k 0, 8, .inl f_1)), (qh, .inr (3, [.ref q1, .int qu0])), (q1, .inl (k 0, 8, .inl qf1))] := hD
  refine lv_aload_n hx hb dX3_copy_15 rfl (lv_at hl 0 rfl) ?_
  refine lv_aload_n hx hb dX3_copy_16 rfl (lv_at hl 1 rfl) ?_
  refine va_get (D := (dC, dI)) (ci := 3) (v := .int qu0) (C := RX3) (T := TX3) (N := 2) hx hb hts hi3 hown hK hP 2 rfl rfl 1 (by decide) (hts (.fieldLink RX3 21 "HeightFine$Ledger" "owed" "I") (by decide +kernel)) (fun _ h9 => h9) rfl dX3_copy_17 ?_
  refine va_put (D := (dC, dI)) (ci := 3) (v := .int qu0) (ty := .int) (C := RX3) (T := TX3) (N := 2) hx hb hts hi3 tyX3 tyX3_ok nmX3 hown hK hP hD hS 0 rfl rfl 1 (by decide) (hts (.fieldLink RX3 21 "HeightFine$Ledger" "owed" "I") (by decide +kernel)) (fun _ h9 => h9) rfl (by decide +kernel) rfl rfl (Nat.le_of_ble_eq_true rfl) dX3_copy_20 (fun H locs hP hD hS => ?_)
  have hP : va_P (dC, dI) vwCl [(ph, .inr (3, [.ref p1, .int qu0])), (p1, .inl (k 0, 8, .inl f_1)), (qh, .inr (3, [.ref q1, .int qu0])), (q1, .inl (k 0, 8, .inl qf1))] H := hP
  have hD : va_D A [(ph, .inr (3, [.ref p1, .int qu0])), (p1, .inl (k 0, 8, .inl f_1)), (qh, .inr (3, [.ref q1, .int qu0])), (q1, .inl (k 0, 8, .inl qf1))] := hD
  have hP9 : va_P (dC, dI) vwCl [(ph, .inr (3, [.ref p1, .int qu0])), (p1, .inl (k 0, 8, .inl ((fc [(fun _ => 0), f_1]) 1))), (qh, .inr (3, [.ref q1, .int qu0])), (q1, .inl (k 0, 8, .inl qf1))] H := hP.sub (ws' := [(ph, .inr (3, [.ref p1, .int qu0])), (p1, .inl (k 0, 8, .inl f_1)), (qh, .inr (3, [.ref q1, .int qu0])), (q1, .inl (k 0, 8, .inl qf1))]) [0, 1, 2, 3] rfl
  have hD9 : va_D A [(ph, .inr (3, [.ref p1, .int qu0])), (p1, .inl (k 0, 8, .inl ((fc [(fun _ => 0), f_1]) 1))), (qh, .inr (3, [.ref q1, .int qu0])), (q1, .inl (k 0, 8, .inl qf1))] := hD.sub (ws' := [(ph, .inr (3, [.ref p1, .int qu0])), (p1, .inl (k 0, 8, .inl f_1)), (qh, .inr (3, [.ref q1, .int qu0])), (q1, .inl (k 0, 8, .inl qf1))]) [0, 1, 2, 3] (by decide) rfl
  refine W.widen (k := 0) (n := 0) (by decide +kernel) (by decide +kernel) ?_
  exact W.vret hx hb hr (fun t ht hW => ⟨⟨(fc [(fun _ => 0), f_1]), rfl, trivial, by rw [ht]; exact hP9, hD9⟩, hS.F ht⟩) hS.2.2 dX3_copy_23

def ws_c_Scopy : List Cond := .code yX7_copy cX7_copy 2 none :: ([.fieldLink RX7 9 "HeightFine$Sight" "person" "[I", .methodLink RX7 18 arraycopyName, .native arraycopyName, .static arraycopyName, .initialized "java/lang/System", .fieldLink RX7 15 "HeightFine$Sight" "tall" "[I", .fieldLink RX7 24 "HeightFine$Sight" "facts" "I"] ++ u_ws RX7 TX7 3)
set_option maxRecDepth 20000 in
theorem in_c_Scopy_7 : ∀ w ∈ u_ws RX7 TX7 3, w ∈ ws_c_Scopy := by decide +kernel
set_option maxHeartbeats 4000000 in
set_option maxRecDepth 100000 in
theorem c_Scopy (l : Launch) (dC : Nat → ClassId) (dI : Nat → Nat → Nat) (k : Nat → ClassId) (ph : Nat) (p1 : Nat) (p2 : Nat) (pf1 : Nat → Int32) (pf2 : Nat → Int32) (pu0 : Int32) (qh : Nat) (q1 : Nat) (q2 : Nat) (qf1 : Nat → Int32) (qf2 : Nat → Int32) (qu0 : Int32) (sz : Nat) : Met l yX7_copy ws_c_Scopy ({ frames := 1, cells := 0, slots := 0, locals := 68 }) (va_Pc [.ref ph, .ref qh] (prW dC dI k [(ph, .inr (7, [.ref p1, .ref p2, .int pu0])), (p1, .inl (k 0, 10, .inl pf1)), (p2, .inl (k 0, 10, .inl pf2)), (qh, .inr (7, [.ref q1, .ref q2, .int qu0])), (q1, .inl (k 0, 10, .inl qf1)), (q2, .inl (k 0, 10, .inl qf2))] sz)) (va_Qv (fun (_ : (Nat → Nat → Int32)) => True) (fun (g : (Nat → Nat → Int32)) (t : State) => po (dC, dI) (va_A [(ph, .inr (7, [.ref p1, .ref p2, .int pu0])), (p1, .inl (k 0, 10, .inl pf1)), (p2, .inl (k 0, 10, .inl pf2)), (qh, .inr (7, [.ref q1, .ref q2, .int qu0])), (q1, .inl (k 0, 10, .inl qf1)), (q2, .inl (k 0, 10, .inl qf2))] sz) [(ph, .inr (7, [.ref p1, .ref p2, .int qu0])), (p1, .inl (k 0, 10, .inl (g 1))), (p2, .inl (k 0, 10, .inl (g 2))), (qh, .inr (7, [.ref q1, .ref q2, .int qu0])), (q1, .inl (k 0, 10, .inl qf1)), (q2, .inl (k 0, 10, .inl qf2))] t) (va_A [(ph, .inr (7, [.ref p1, .ref p2, .int pu0])), (p1, .inl (k 0, 10, .inl pf1)), (p2, .inl (k 0, 10, .inl pf2)), (qh, .inr (7, [.ref q1, .ref q2, .int qu0])), (q1, .inl (k 0, 10, .inl qf1)), (q2, .inl (k 0, 10, .inl qf2))] sz)) 0 0 (va_A [(ph, .inr (7, [.ref p1, .ref p2, .int pu0])), (p1, .inl (k 0, 10, .inl pf1)), (p2, .inl (k 0, 10, .inl pf2)), (qh, .inr (7, [.ref q1, .ref q2, .int qu0])), (q1, .inl (k 0, 10, .inl qf1)), (q2, .inl (k 0, 10, .inl qf2))] sz) := by
  refine Met.ofW (cc := cX7_copy) (maxL := 2) (ret := none) (by decide) rfl ?_
  intro p e s m args below meth c s₁ B hml hv
  obtain ⟨rfl, hsz, hP, hK, hD0⟩ := hv
  have hx := B.exec
  have hb := B.bytes
  have hr := B.returns
  have hts := atoms_spec (ws := ws_c_Scopy) B.pre
  have hown : s.vm.findClass RX7 = some m.cls := findClass_of_methodNamed B.named
  have hi7 := in_c_Scopy_7
  subst hsz
  have hD := hD0.self (sz := s.heap.size)
  generalize hAe : va_A [(ph, .inr (7, [.ref p1, .ref p2, .int pu0])), (p1, .inl (k 0, 10, .inl pf1)), (p2, .inl (k 0, 10, .inl pf2)), (qh, .inr (7, [.ref q1, .ref q2, .int qu0])), (q1, .inl (k 0, 10, .inl qf1)), (q2, .inl (k 0, 10, .inl qf2))] s.heap.size = A at hD ⊢
  have hA : ∀ q : Nat, s.heap.size ≤ q → A q := fun q h => by rw [← hAe]; exact Or.inr h
  have hS : va_S A s.heap s.heap [] := va_S.rf
  have hP : va_P (dC, dI) vwCl [(ph, .inr (7, [.ref p1, .ref p2, .int pu0])), (p1, .inl (k 0, 10, .inl pf1)), (p2, .inl (k 0, 10, .inl pf2)), (qh, .inr (7, [.ref q1, .ref q2, .int qu0])), (q1, .inl (k 0, 10, .inl qf1)), (q2, .inl (k 0, 10, .inl qf2))] s.heap := hP
  have hl := lv_entry ([.ref ph, .ref qh]) (n := 2) (Nat.le_of_ble_eq_true rfl)
  rw [lg_entry_eq]
  generalize (lg_sl ([.ref ph, .ref qh]) ++ List.replicate (2 - (lg_sl ([.ref ph, .ref qh])).length) Slot.unset).toArray = ls at hl ⊢
  have hl : lv_has ls 2 [(0, .ref ph), (1, .ref qh)] := hl
  refine lv_aload_n hx hb dX7_copy_0 rfl (lv_at hl 1 rfl) ?_
  refine va_get (D := (dC, dI)) (ci := 7) (v := .ref q1) (C := RX7) (T := TX7) (N := 3) hx hb hts hi7 hown hK hP 3 rfl rfl 0 (by decide) (hts (.fieldLink RX7 9 "HeightFine$Sight" "person" "[I") (by decide +kernel)) (fun _ h9 => h9) rfl dX7_copy_1 ?_
  refine lv_iconst (v := 0) hx hb dX7_copy_4 (by decide) ?_
  refine lv_aload_n hx hb dX7_copy_5 rfl (lv_at hl 0 rfl) ?_
  refine va_get (D := (dC, dI)) (ci := 7) (v := .ref p1) (C := RX7) (T := TX7) (N := 3) hx hb hts hi7 hown hK hP 0 rfl rfl 0 (by decide) (hts (.fieldLink RX7 9 "HeightFine$Sight" "person" "[I") (by decide +kernel)) (fun _ h9 => h9) rfl dX7_copy_6 ?_
  refine lv_iconst (v := 0) hx hb dX7_copy_9 (by decide) ?_
  refine lv_bipush (v := 10) hx hb dX7_copy_10 (by decide) ?_
  refine va_copyi hx hb (by rw [hml]; exact hl.1.symm) hown (hts (.methodLink RX7 18 arraycopyName) (by decide +kernel)) (hts (.native arraycopyName) (by decide +kernel)) (hts (.static arraycopyName) (by decide +kernel)) (hts (.initialized "java/lang/System") (by decide +kernel)) hK hP hD hS 4 1 0 0 rfl rfl rfl rfl rfl (sp := 0) (dp := 0) (n := 10) (by decide) (by decide) (by decide) (by decide) (by decide) (fun _ _ => rfl) (by decide) (by decide) dX7_copy_12 (fun H locs hP hD hS => ?_)
  obtain ⟨f_1, hP, hD⟩ := zz_anyc hP hD
  have hP : va_P (dC, dI) vwCl [(ph, .inr (7, [.ref p1, .ref p2, .int pu0])), (p1, .inl (k 0, 10, .inl f_1)), (p2, .inl (k 0, 10, .inl pf2)), (qh, .inr (7, [.ref q1, .ref q2, .int qu0])), (q1, .inl (k 0, 10, .inl qf1)), (q2, .inl (k 0, 10, .inl qf2))] H := hP
  have hD : va_D A [(ph, .inr (7, [.ref p1, .ref p2, .int pu0])), (p1, .inl (k 0, 10, .inl f_1)), (p2, .inl (k 0, 10, .inl pf2)), (qh, .inr (7, [.ref q1, .ref q2, .int qu0])), (q1, .inl (k 0, 10, .inl qf1)), (q2, .inl (k 0, 10, .inl qf2))] := hD
  refine lv_aload_n hx hb dX7_copy_15 rfl (lv_at hl 1 rfl) ?_
  refine va_get (D := (dC, dI)) (ci := 7) (v := .ref q2) (C := RX7) (T := TX7) (N := 3) hx hb hts hi7 hown hK hP 3 rfl rfl 1 (by decide) (hts (.fieldLink RX7 15 "HeightFine$Sight" "tall" "[I") (by decide +kernel)) (fun _ h9 => h9) rfl dX7_copy_16 ?_
  refine lv_iconst (v := 0) hx hb dX7_copy_19 (by decide) ?_
  refine lv_aload_n hx hb dX7_copy_20 rfl (lv_at hl 0 rfl) ?_
  refine va_get (D := (dC, dI)) (ci := 7) (v := .ref p2) (C := RX7) (T := TX7) (N := 3) hx hb hts hi7 hown hK hP 0 rfl rfl 1 (by decide) (hts (.fieldLink RX7 15 "HeightFine$Sight" "tall" "[I") (by decide +kernel)) (fun _ h9 => h9) rfl dX7_copy_21 ?_
  refine lv_iconst (v := 0) hx hb dX7_copy_24 (by decide) ?_
  refine lv_bipush (v := 10) hx hb dX7_copy_25 (by decide) ?_
  refine va_copyi hx hb (by rw [hml]; exact hl.1.symm) hown (hts (.methodLink RX7 18 arraycopyName) (by decide +kernel)) (hts (.native arraycopyName) (by decide +kernel)) (hts (.static arraycopyName) (by decide +kernel)) (hts (.initialized "java/lang/System") (by decide +kernel)) hK hP hD hS 5 2 0 0 rfl rfl rfl rfl rfl (sp := 0) (dp := 0) (n := 10) (by decide) (by decide) (by decide) (by decide) (by decide) (fun _ _ => rfl) (by decide) (by decide) dX7_copy_27 (fun H locs hP hD hS => ?_)
  obtain ⟨f_2, hP, hD⟩ := zz_anyc hP hD
  have hP : va_P (dC, dI) vwCl [(ph, .inr (7, [.ref p1, .ref p2, .int pu0])), (p1, .inl (k 0, 10, .inl f_1)), (p2, .inl (k 0, 10, .inl f_2)), (qh, .inr (7, [.ref q1, .ref q2, .int qu0])), (q1, .inl (k 0, 10, .inl qf1)), (q2, .inl (k 0, 10, .inl qf2))] H := hP
  have hD : va_D A [(ph, .inr (7, [.ref p1, .ref p2, .int pu0])), (p1, .inl (k 0, 10, .inl f_1)), (p2, .inl (k 0, 10, .inl f_2)), (qh, .inr (7, [.ref q1, .ref q2, .int qu0])), (q1, .inl (k 0, 10, .inl qf1)), (q2, .inl (k 0, 10, .inl qf2))] := hD
  refine lv_aload_n hx hb dX7_copy_30 rfl (lv_at hl 0 rfl) ?_
  refine lv_aload_n hx hb dX7_copy_31 rfl (lv_at hl 1 rfl) ?_
  refine va_get (D := (dC, dI)) (ci := 7) (v := .int qu0) (C := RX7) (T := TX7) (N := 3) hx hb hts hi7 hown hK hP 3 rfl rfl 2 (by decide) (hts (.fieldLink RX7 24 "HeightFine$Sight" "facts" "I") (by decide +kernel)) (fun _ h9 => h9) rfl dX7_copy_32 ?_
  refine va_put (D := (dC, dI)) (ci := 7) (v := .int qu0) (ty := .int) (C := RX7) (T := TX7) (N := 3) hx hb hts hi7 tyX7 tyX7_ok nmX7 hown hK hP hD hS 0 rfl rfl 2 (by decide) (hts (.fieldLink RX7 24 "HeightFine$Sight" "facts" "I") (by decide +kernel)) (fun _ h9 => h9) rfl (by decide +kernel) rfl rfl (Nat.le_of_ble_eq_true rfl) dX7_copy_35 (fun H locs hP hD hS => ?_)
  have hP : va_P (dC, dI) vwCl [(ph, .inr (7, [.ref p1, .ref p2, .int qu0])), (p1, .inl (k 0, 10, .inl f_1)), (p2, .inl (k 0, 10, .inl f_2)), (qh, .inr (7, [.ref q1, .ref q2, .int qu0])), (q1, .inl (k 0, 10, .inl qf1)), (q2, .inl (k 0, 10, .inl qf2))] H := hP
  have hD : va_D A [(ph, .inr (7, [.ref p1, .ref p2, .int qu0])), (p1, .inl (k 0, 10, .inl f_1)), (p2, .inl (k 0, 10, .inl f_2)), (qh, .inr (7, [.ref q1, .ref q2, .int qu0])), (q1, .inl (k 0, 10, .inl qf1)), (q2, .inl (k 0, 10, .inl qf2))] := hD
  have hP9 : va_P (dC, dI) vwCl [(ph, .inr (7, [.ref p1, .ref p2, .int qu0])), (p1, .inl (k 0, 10, .inl ((fc [(fun _ => 0), f_1, f_2]) 1))), (p2, .inl (k 0, 10, .inl ((fc [(fun _ => 0), f_1, f_2]) 2))), (qh, .inr (7, [.ref q1, .ref q2, .int qu0])), (q1, .inl (k 0, 10, .inl qf1)), (q2, .inl (k 0, 10, .inl qf2))] H := hP.sub (ws' := [(ph, .inr (7, [.ref p1, .ref p2, .int qu0])), (p1, .inl (k 0, 10, .inl f_1)), (p2, .inl (k 0, 10, .inl f_2)), (qh, .inr (7, [.ref q1, .ref q2, .int qu0])), (q1, .inl (k 0, 10, .inl qf1)), (q2, .inl (k 0, 10, .inl qf2))]) [0, 1, 2, 3, 4, 5] rfl
  have hD9 : va_D A [(ph, .inr (7, [.ref p1, .ref p2, .int qu0])), (p1, .inl (k 0, 10, .inl ((fc [(fun _ => 0), f_1, f_2]) 1))), (p2, .inl (k 0, 10, .inl ((fc [(fun _ => 0), f_1, f_2]) 2))), (qh, .inr (7, [.ref q1, .ref q2, .int qu0])), (q1, .inl (k 0, 10, .inl qf1)), (q2, .inl (k 0, 10, .inl qf2))] := hD.sub (ws' := [(ph, .inr (7, [.ref p1, .ref p2, .int qu0])), (p1, .inl (k 0, 10, .inl f_1)), (p2, .inl (k 0, 10, .inl f_2)), (qh, .inr (7, [.ref q1, .ref q2, .int qu0])), (q1, .inl (k 0, 10, .inl qf1)), (q2, .inl (k 0, 10, .inl qf2))]) [0, 1, 2, 3, 4, 5] (by decide) rfl
  refine W.widen (k := 0) (n := 0) (by decide +kernel) (by decide +kernel) ?_
  exact W.vret hx hb hr (fun t ht hW => ⟨⟨(fc [(fun _ => 0), f_1, f_2]), rfl, trivial, by rw [ht]; exact hP9, hD9⟩, hS.F ht⟩) hS.2.2 dX7_copy_38
