set_option maxRecDepth 100000 in
theorem tbI_27 : ∀ w ∈ TB_27, w ∈ lw_tbl := fun w h => List.mem_of_mem_drop (i := 1128) (memIn_r (big := List.drop 1128 lw_tbl) TB_27 (0 :: 1 :: 2 :: 4 :: 5 :: 6 :: 7 :: 8 :: 9 :: 10 :: 12 :: 13 :: 14 :: 15 :: 16 :: 18 :: 19 :: 20 :: 21 :: 22 :: 23 :: 25 :: 26 :: 27 :: 28 :: 29 :: 30 :: 31 :: 32 :: 33 :: []) (by decide +kernel) w h)
set_option maxRecDepth 100000 in
theorem tbI_28 : ∀ w ∈ TB_28, w ∈ lw_tbl := fun w h => List.mem_of_mem_drop (i := 1163) (memIn_r (big := List.drop 1163 lw_tbl) TB_28 (0 :: 1 :: 2 :: 3 :: 4 :: 7 :: 9 :: 10 :: 11 :: 12 :: 13 :: 14 :: 15 :: 17 :: 18 :: 19 :: 20 :: 21 :: 22 :: 23 :: 24 :: 25 :: 26 :: 27 :: 28 :: 30 :: 31 :: 32 :: 33 :: 34 :: []) (by decide +kernel) w h)
set_option maxRecDepth 100000 in
theorem tbI_29 : ∀ w ∈ TB_29, w ∈ lw_tbl := fun w h => List.mem_of_mem_drop (i := 1198) (memIn_r (big := List.drop 1198 lw_tbl) TB_29 (0 :: 1 :: 2 :: 3 :: 4 :: 5 :: 6 :: 7 :: 8 :: 9 :: 10 :: 11 :: 12 :: 14 :: 15 :: 16 :: 17 :: 18 :: 19 :: 20 :: 21 :: 22 :: 23 :: 24 :: 25 :: 26 :: 27 :: 28 :: 29 :: 30 :: []) (by decide +kernel) w h)
set_option maxRecDepth 100000 in
theorem tbI_30 : ∀ w ∈ TB_30, w ∈ lw_tbl := fun w h => List.mem_of_mem_drop (i := 1229) (memIn_r (big := List.drop 1229 lw_tbl) TB_30 (0 :: 1 :: 2 :: 3 :: 4 :: 5 :: 6 :: 7 :: 8 :: 9 :: 10 :: 11 :: 12 :: 14 :: 15 :: 17 :: 18 :: 19 :: 20 :: 21 :: 22 :: 23 :: 24 :: 25 :: 26 :: 27 :: 28 :: 29 :: 30 :: 31 :: []) (by decide +kernel) w h)
set_option maxRecDepth 100000 in
theorem tbI_31 : ∀ w ∈ TB_31, w ∈ lw_tbl := fun w h => List.mem_of_mem_drop (i := 1261) (memIn_r (big := List.drop 1261 lw_tbl) TB_31 (0 :: 1 :: 2 :: 3 :: 4 :: 5 :: 6 :: 7 :: 8 :: 9 :: 10 :: 11 :: 12 :: 13 :: 14 :: 15 :: 16 :: 17 :: 18 :: 19 :: 20 :: 21 :: 22 :: 23 :: 24 :: 25 :: 26 :: 27 :: 28 :: 29 :: []) (by decide +kernel) w h)
set_option maxRecDepth 100000 in
theorem tbI_32 : ∀ w ∈ TB_32, w ∈ lw_tbl := fun w h => List.mem_of_mem_drop (i := 1291) (memIn_r (big := List.drop 1291 lw_tbl) TB_32 (0 :: 1 :: 2 :: 3 :: 4 :: 5 :: 6 :: 7 :: 8 :: 9 :: 10 :: 11 :: 12 :: 13 :: 15 :: 16 :: 17 :: 18 :: 19 :: 20 :: 21 :: 22 :: 23 :: 24 :: 25 :: 26 :: 27 :: 28 :: 29 :: 30 :: []) (by decide +kernel) w h)
set_option maxRecDepth 100000 in
theorem tbI_33 : ∀ w ∈ TB_33, w ∈ lw_tbl := fun w h => List.mem_of_mem_drop (i := 1322) (memIn_r (big := List.drop 1322 lw_tbl) TB_33 (0 :: 1 :: 2 :: 5 :: 6 :: 7 :: 8 :: 9 :: 10 :: 11 :: 12 :: 13 :: 14 :: 15 :: 16 :: 17 :: 18 :: 19 :: 20 :: 21 :: 22 :: 23 :: 24 :: 25 :: 26 :: 27 :: 28 :: 29 :: 30 :: 31 :: []) (by decide +kernel) w h)
set_option maxRecDepth 100000 in
theorem tbI_34 : ∀ w ∈ TB_34, w ∈ lw_tbl := fun w h => List.mem_of_mem_drop (i := 1354) (memIn_r (big := List.drop 1354 lw_tbl) TB_34 (0 :: 1 :: 2 :: 3 :: 4 :: 5 :: 6 :: 7 :: 8 :: 9 :: 10 :: 11 :: 12 :: 13 :: 14 :: 15 :: 16 :: 17 :: 18 :: 19 :: 20 :: 21 :: 113 :: 114 :: 115 :: 116 :: 117 :: 118 :: 120 :: 121 :: []) (by decide +kernel) w h)
set_option maxRecDepth 100000 in
theorem tbI_35 : ∀ w ∈ TB_35, w ∈ lw_tbl := fun w h => List.mem_of_mem_drop (i := 1476) (memIn_r (big := List.drop 1476 lw_tbl) TB_35 (0 :: 1 :: 2 :: 3 :: 4 :: 5 :: 6 :: 7 :: 8 :: 9 :: 10 :: 11 :: 13 :: 14 :: 15 :: 17 :: 18 :: 19 :: 21 :: 22 :: 23 :: 25 :: 26 :: 27 :: 29 :: 30 :: 31 :: 33 :: 34 :: 35 :: []) (by decide +kernel) w h)
set_option maxRecDepth 100000 in
theorem tbI_36 : ∀ w ∈ TB_36, w ∈ lw_tbl := fun w h => List.mem_of_mem_drop (i := 1513) (memIn_r (big := List.drop 1513 lw_tbl) TB_36 (0 :: 1 :: 2 :: 4 :: 5 :: 6 :: 7 :: 8 :: 9 :: 11 :: 12 :: 13 :: 15 :: 16 :: 17 :: 19 :: 20 :: 21 :: 23 :: 24 :: 25 :: 27 :: 28 :: 29 :: 31 :: 32 :: 33 :: 34 :: 35 :: 36 :: []) (by decide +kernel) w h)
set_option maxRecDepth 100000 in
theorem tbI_37 : ∀ w ∈ TB_37, w ∈ lw_tbl := fun w h => List.mem_of_mem_drop (i := 1550) (memIn_r (big := List.drop 1550 lw_tbl) TB_37 (0 :: 1 :: 2 :: 4 :: 5 :: 6 :: 8 :: 9 :: 10 :: 11 :: 12 :: 13 :: 15 :: 16 :: 17 :: 19 :: 20 :: 21 :: 23 :: 24 :: 25 :: 27 :: 28 :: 29 :: 31 :: 32 :: 33 :: 34 :: 35 :: 36 :: []) (by decide +kernel) w h)
set_option maxRecDepth 100000 in
theorem tbI_38 : ∀ w ∈ TB_38, w ∈ lw_tbl := fun w h => List.mem_of_mem_drop (i := 1587) (memIn_r (big := List.drop 1587 lw_tbl) TB_38 (0 :: 2 :: 3 :: 4 :: 6 :: 7 :: 8 :: 9 :: 10 :: 11 :: 12 :: 13 :: 14 :: 15 :: 16 :: 18 :: 19 :: 20 :: 22 :: 23 :: 24 :: 25 :: 26 :: 28 :: 29 :: 30 :: 31 :: 33 :: 34 :: 35 :: []) (by decide +kernel) w h)
set_option maxRecDepth 100000 in
theorem tbI_39 : ∀ w ∈ TB_39, w ∈ lw_tbl := fun w h => List.mem_of_mem_drop (i := 1624) (memIn_r (big := List.drop 1624 lw_tbl) TB_39 (0 :: 1 :: 2 :: 4 :: 5 :: 6 :: 8 :: 9 :: 10 :: 11 :: 12 :: 13 :: 14 :: 15 :: 16 :: 17 :: 18 :: 20 :: 21 :: 22 :: 24 :: 25 :: 26 :: 28 :: 29 :: 30 :: 31 :: 32 :: 33 :: 34 :: []) (by decide +kernel) w h)
set_option maxRecDepth 100000 in
theorem tbI_40 : ∀ w ∈ TB_40, w ∈ lw_tbl := fun w h => List.mem_of_mem_drop (i := 1660) (memIn_r (big := List.drop 1660 lw_tbl) TB_40 (0 :: 1 :: 2 :: 4 :: 5 :: 6 :: 8 :: 9 :: 10 :: 11 :: 12 :: 13 :: 14 :: 16 :: 17 :: 18 :: 20 :: 21 :: 22 :: 24 :: 25 :: 26 :: 28 :: 29 :: 30 :: 32 :: 33 :: 34 :: 36 :: 37 :: []) (by decide +kernel) w h)
set_option maxRecDepth 100000 in
theorem tbI_41 : ∀ w ∈ TB_41, w ∈ lw_tbl := fun w h => List.mem_of_mem_drop (i := 1698) (memIn_r (big := List.drop 1698 lw_tbl) TB_41 (0 :: 2 :: 3 :: 4 :: 5 :: 6 :: 7 :: 9 :: 10 :: 11 :: 12 :: 13 :: 14 :: 16 :: 17 :: 18 :: 19 :: 20 :: 21 :: 22 :: 24 :: 25 :: 26 :: 28 :: 29 :: 30 :: 32 :: 33 :: 34 :: 35 :: []) (by decide +kernel) w h)
set_option maxRecDepth 100000 in
theorem tbI_42 : ∀ w ∈ TB_42, w ∈ lw_tbl := fun w h => List.mem_of_mem_drop (i := 1734) (memIn_r (big := List.drop 1734 lw_tbl) TB_42 (0 :: 1 :: 2 :: 4 :: 5 :: 6 :: 8 :: 9 :: 10 :: 11 :: 12 :: 13 :: 14 :: 16 :: 17 :: 18 :: 20 :: 21 :: 22 :: 24 :: 25 :: 26 :: 27 :: 28 :: 29 :: 30 :: 32 :: 33 :: 34 :: 36 :: []) (by decide +kernel) w h)
set_option maxRecDepth 100000 in
theorem tbI_43 : ∀ w ∈ TB_43, w ∈ lw_tbl := fun w h => List.mem_of_mem_drop (i := 1771) (memIn_r (big := List.drop 1771 lw_tbl) TB_43 (0 :: 1 :: 3 :: 4 :: 5 :: 6 :: 7 :: 8 :: 9 :: 11 :: 12 :: 13 :: 15 :: 16 :: 17 :: 19 :: 20 :: 21 :: 22 :: 23 :: 24 :: 26 :: 27 :: 28 :: 29 :: 30 :: 31 :: 32 :: 34 :: 35 :: []) (by decide +kernel) w h)
set_option maxRecDepth 100000 in
theorem tbI_44 : ∀ w ∈ TB_44, w ∈ lw_tbl := fun w h => List.mem_of_mem_drop (i := 1807) (memIn_r (big := List.drop 1807 lw_tbl) TB_44 (0 :: 2 :: 3 :: 4 :: 6 :: 7 :: 8 :: 9 :: 10 :: 11 :: 12 :: 13 :: 14 :: 15 :: 17 :: 18 :: 19 :: 20 :: 21 :: 22 :: 23 :: 25 :: 26 :: 27 :: 28 :: 29 :: 30 :: 31 :: 33 :: 34 :: []) (by decide +kernel) w h)
set_option maxRecDepth 100000 in
theorem tbI_45 : ∀ w ∈ TB_45, w ∈ lw_tbl := fun w h => List.mem_of_mem_drop (i := 1842) (memIn_r (big := List.drop 1842 lw_tbl) TB_45 (0 :: 2 :: 3 :: 4 :: 6 :: 7 :: 8 :: 10 :: 11 :: 12 :: 14 :: 15 :: 16 :: 18 :: 19 :: 20 :: 22 :: 23 :: 24 :: 26 :: 27 :: 28 :: 29 :: 30 :: 31 :: 32 :: 34 :: 35 :: 36 :: 38 :: []) (by decide +kernel) w h)
set_option maxRecDepth 100000 in
theorem tbI_46 : ∀ w ∈ TB_46, w ∈ lw_tbl := fun w h => List.mem_of_mem_drop (i := 1881) (memIn_r (big := List.drop 1881 lw_tbl) TB_46 (0 :: 1 :: 3 :: 4 :: 5 :: 6 :: 7 :: 8 :: 9 :: 11 :: 12 :: 13 :: 14 :: 16 :: 17 :: 18 :: 20 :: 21 :: 22 :: 24 :: 25 :: 26 :: 28 :: 29 :: 30 :: 31 :: 32 :: 33 :: 34 :: 35 :: []) (by decide +kernel) w h)
set_option maxRecDepth 100000 in
theorem tbI_47 : ∀ w ∈ TB_47, w ∈ lw_tbl := fun w h => List.mem_of_mem_drop (i := 1917) (memIn_r (big := List.drop 1917 lw_tbl) TB_47 (0 :: 1 :: 3 :: 4 :: 5 :: 6 :: 7 :: 8 :: 9 :: 11 :: 12 :: 13 :: 15 :: 16 :: 17 :: 18 :: 19 :: 20 :: 21 :: 22 :: 23 :: 24 :: 25 :: 26 :: 28 :: 29 :: 30 :: 31 :: 32 :: 33 :: []) (by decide +kernel) w h)
set_option maxRecDepth 100000 in
theorem tbI_48 : ∀ w ∈ TB_48, w ∈ lw_tbl := fun w h => List.mem_of_mem_drop (i := 1951) (memIn_r (big := List.drop 1951 lw_tbl) TB_48 (0 :: 1 :: 2 :: 3 :: 4 :: 5 :: 6 :: 7 :: 8 :: 9 :: 10 :: 11 :: 12 :: 14 :: 15 :: 16 :: 18 :: 19 :: 20 :: 21 :: 22 :: 23 :: 24 :: 26 :: 27 :: 28 :: 29 :: 30 :: 31 :: 32 :: []) (by decide +kernel) w h)
set_option maxRecDepth 100000 in
theorem tbI_49 : ∀ w ∈ TB_49, w ∈ lw_tbl := fun w h => List.mem_of_mem_drop (i := 25) (memIn_r (big := List.drop 25 lw_tbl) TB_49 (1959 :: 1960 :: 1961 :: 1962 :: 1964 :: 1965 :: 1966 :: 1967 :: 1968 :: 1969 :: 1970 :: 1971 :: 1972 :: 1973 :: 1974 :: 23 :: 7 :: 20 :: 0 :: 22 :: 32 :: 19 :: 25 :: 29 :: 26 :: 24 :: 30 :: 28 :: 27 :: 21 :: []) (by decide +kernel) w h)
set_option maxRecDepth 100000 in
theorem tbI_50 : ∀ w ∈ TB_50, w ∈ lw_tbl := fun w h => List.mem_of_mem_drop (i := 1) (memIn_r (big := List.drop 1 lw_tbl) TB_50 (40 :: 41 :: 42 :: 38 :: 39 :: 37 :: 36 :: 1 :: 8 :: 2 :: 4 :: 9 :: 11 :: 7 :: 5 :: 13 :: 0 :: 6 :: 12 :: 3 :: 14 :: 15 :: 19 :: 17 :: 21 :: 23 :: 20 :: 16 :: 22 :: 18 :: []) (by decide +kernel) w h)
set_option maxRecDepth 100000 in
theorem tbI_51 : ∀ w ∈ TB_51, w ∈ lw_tbl := fun w h => List.mem_of_mem_drop (i := 0) (memIn_r (big := List.drop 0 lw_tbl) TB_51 (11 :: 0 :: 27 :: 34 :: 29 :: 26 :: 56 :: 35 :: 36 :: 28 :: 31 :: 30 :: 58 :: 33 :: 119 :: 131 :: 141 :: 86 :: 101 :: 98 :: 62 :: 67 :: 76 :: 77 :: 148 :: 79 :: 118 :: 120 :: 95 :: 94 :: []) (by decide +kernel) w h)
set_option maxRecDepth 100000 in
theorem tbI_52 : ∀ w ∈ TB_52, w ∈ lw_tbl := fun w h => List.mem_of_mem_drop (i := 59) (memIn_r (big := List.drop 59 lw_tbl) TB_52 (53 :: 40 :: 84 :: 83 :: 57 :: 73 :: 76 :: 75 :: 14 :: 68 :: 71 :: 78 :: 79 :: 54 :: 64 :: 50 :: 41 :: 0 :: 9 :: 11 :: 45 :: 43 :: 28 :: 67 :: 69 :: 31 :: 62 :: 66 :: 74 :: 34 :: []) (by decide +kernel) w h)
set_option maxRecDepth 100000 in
theorem tbI_53 : ∀ w ∈ TB_53, w ∈ lw_tbl := fun w h => List.mem_of_mem_drop (i := 60) (memIn_r (big := List.drop 60 lw_tbl) TB_53 (0 :: 32 :: 23 :: 51 :: 9 :: 36 :: 76 :: 50 :: 24 :: 6 :: 5 :: 79 :: 87 :: 31 :: 45 :: 69 :: 18 :: 54 :: 37 :: 14 :: 55 :: 46 :: 1 :: 80 :: 4 :: 25 :: 64 :: 29 :: 28 :: 43 :: []) (by decide +kernel) w h)
set_option maxRecDepth 100000 in
theorem tbI_54 : ∀ w ∈ TB_54, w ∈ lw_tbl := fun w h => List.mem_of_mem_drop (i := 63) (memIn_r (big := List.drop 63 lw_tbl) TB_54 (54 :: 8 :: 9 :: 17 :: 12 :: 59 :: 81 :: 0 :: 83 :: 44 :: 18 :: 45 :: 82 :: 19 :: []) (by decide +kernel) w h)
