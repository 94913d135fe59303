theorem memIn_r {big : List Cond} (ws : List Cond) (ps : List Nat) (hp : ws = ps.filterMap (fun i => big[i]?)) : ∀ w ∈ ws, w ∈ big := fun w hw => by
  rw [hp] at hw
  obtain ⟨i, -, hi⟩ := List.mem_filterMap.mp hw
  first | exact List.mem_of_getElem? hi | exact List.getElem?_mem hi
set_option maxRecDepth 100000 in
theorem tbI_0 : ∀ w ∈ TB_0, w ∈ lw_tbl := fun w h => List.mem_of_mem_drop (i := 264) (memIn_r (big := List.drop 264 lw_tbl) TB_0 (0 :: 2 :: 4 :: 6 :: 8 :: 40 :: 60 :: 82 :: 111 :: 113 :: 115 :: 164 :: 166 :: 168 :: 170 :: 172 :: 174 :: 176 :: 178 :: 180 :: 182 :: 202 :: 204 :: 220 :: 222 :: 241 :: 263 :: 1112 :: 1132 :: 1134 :: []) (by decide +kernel) w h)
set_option maxRecDepth 100000 in
theorem tbI_1 : ∀ w ∈ TB_1, w ∈ lw_tbl := fun w h => List.mem_of_mem_drop (i := 250) (memIn_r (big := List.drop 250 lw_tbl) TB_1 (1150 :: 1152 :: 1154 :: 1156 :: 1158 :: 1160 :: 1162 :: 1168 :: 1170 :: 1172 :: 1174 :: 1176 :: 1178 :: 1182 :: 1192 :: 1196 :: 1208 :: 0 :: 2 :: 4 :: 6 :: 8 :: 10 :: 12 :: 46 :: 48 :: 50 :: 52 :: 72 :: 92 :: []) (by decide +kernel) w h)
set_option maxRecDepth 100000 in
theorem tbI_2 : ∀ w ∈ TB_2, w ∈ lw_tbl := fun w h => List.mem_of_mem_drop (i := 344) (memIn_r (big := List.drop 344 lw_tbl) TB_2 (0 :: 19 :: 21 :: 23 :: 25 :: 27 :: 29 :: 74 :: 76 :: 78 :: 80 :: 82 :: 116 :: 118 :: 120 :: 138 :: 155 :: 157 :: 159 :: 175 :: 177 :: 179 :: 181 :: 196 :: 198 :: 200 :: 211 :: 213 :: 215 :: 217 :: []) (by decide +kernel) w h)
set_option maxRecDepth 100000 in
theorem tbI_3 : ∀ w ∈ TB_3, w ∈ lw_tbl := fun w h => List.mem_of_mem_drop (i := 149) (memIn_r (big := List.drop 149 lw_tbl) TB_3 (414 :: 416 :: 418 :: 420 :: 1229 :: 1231 :: 1233 :: 1235 :: 1237 :: 1239 :: 1241 :: 1243 :: 1245 :: 1265 :: 1267 :: 1281 :: 1285 :: 1287 :: 1289 :: 1291 :: 1295 :: 1299 :: 1301 :: 1303 :: 1305 :: 1307 :: 1311 :: 1313 :: 1315 :: 0 :: []) (by decide +kernel) w h)
set_option maxRecDepth 100000 in
theorem tbI_4 : ∀ w ∈ TB_4, w ∈ lw_tbl := fun w h => List.mem_of_mem_drop (i := 150) (memIn_r (big := List.drop 150 lw_tbl) TB_4 (0 :: 1 :: 2 :: 3 :: 4 :: 5 :: 6 :: 7 :: 8 :: 9 :: 10 :: 11 :: 12 :: 13 :: 14 :: 15 :: 16 :: 17 :: 18 :: 19 :: 20 :: 23 :: 24 :: 25 :: 26 :: 27 :: 28 :: 32 :: 33 :: 34 :: []) (by decide +kernel) w h)
set_option maxRecDepth 100000 in
theorem tbI_5 : ∀ w ∈ TB_5, w ∈ lw_tbl := fun w h => List.mem_of_mem_drop (i := 188) (memIn_r (big := List.drop 188 lw_tbl) TB_5 (0 :: 1 :: 2 :: 3 :: 4 :: 5 :: 6 :: 7 :: 8 :: 9 :: 10 :: 13 :: 14 :: 15 :: 16 :: 17 :: 18 :: 19 :: 20 :: 21 :: 22 :: 23 :: 24 :: 25 :: 26 :: 27 :: 28 :: 29 :: 30 :: 31 :: []) (by decide +kernel) w h)
set_option maxRecDepth 100000 in
theorem tbI_6 : ∀ w ∈ TB_6, w ∈ lw_tbl := fun w h => List.mem_of_mem_drop (i := 220) (memIn_r (big := List.drop 220 lw_tbl) TB_6 (0 :: 1 :: 2 :: 3 :: 4 :: 5 :: 6 :: 7 :: 8 :: 9 :: 10 :: 11 :: 12 :: 13 :: 14 :: 15 :: 16 :: 17 :: 18 :: 19 :: 20 :: 21 :: 22 :: 23 :: 24 :: 25 :: 26 :: 27 :: 28 :: 29 :: []) (by decide +kernel) w h)
set_option maxRecDepth 100000 in
theorem tbI_7 : ∀ w ∈ TB_7, w ∈ lw_tbl := fun w h => List.mem_of_mem_drop (i := 275) (memIn_r (big := List.drop 275 lw_tbl) TB_7 (0 :: 1 :: 6 :: 7 :: 8 :: 9 :: 10 :: 11 :: 12 :: 13 :: 14 :: 15 :: 16 :: 17 :: 18 :: 19 :: 20 :: 36 :: 37 :: 38 :: 39 :: 40 :: 41 :: 42 :: 43 :: 44 :: 45 :: 46 :: 56 :: 57 :: []) (by decide +kernel) w h)
set_option maxRecDepth 100000 in
theorem tbI_8 : ∀ w ∈ TB_8, w ∈ lw_tbl := fun w h => List.mem_of_mem_drop (i := 333) (memIn_r (big := List.drop 333 lw_tbl) TB_8 (0 :: 1 :: 2 :: 3 :: 4 :: 5 :: 6 :: 7 :: 8 :: 16 :: 17 :: 18 :: 19 :: 20 :: 21 :: 22 :: 23 :: 24 :: 25 :: 26 :: 27 :: 28 :: 29 :: 53 :: 54 :: 55 :: 57 :: 64 :: 65 :: 66 :: []) (by decide +kernel) w h)
set_option maxRecDepth 100000 in
theorem tbI_9 : ∀ w ∈ TB_9, w ∈ lw_tbl := fun w h => List.mem_of_mem_drop (i := 400) (memIn_r (big := List.drop 400 lw_tbl) TB_9 (0 :: 1 :: 2 :: 3 :: 4 :: 5 :: 6 :: 7 :: 8 :: 9 :: 10 :: 11 :: 12 :: 13 :: 14 :: 15 :: 16 :: 17 :: 52 :: 53 :: 54 :: 55 :: 56 :: 57 :: 58 :: 59 :: 74 :: 75 :: 76 :: 77 :: []) (by decide +kernel) w h)
set_option maxRecDepth 100000 in
theorem tbI_10 : ∀ w ∈ TB_10, w ∈ lw_tbl := fun w h => List.mem_of_mem_drop (i := 478) (memIn_r (big := List.drop 478 lw_tbl) TB_10 (0 :: 1 :: 2 :: 3 :: 14 :: 15 :: 16 :: 17 :: 18 :: 19 :: 20 :: 33 :: 34 :: 35 :: 36 :: 37 :: 38 :: 39 :: 40 :: 52 :: 56 :: 57 :: 58 :: 59 :: 60 :: 61 :: 69 :: 70 :: 71 :: 72 :: []) (by decide +kernel) w h)
set_option maxRecDepth 100000 in
theorem tbI_11 : ∀ w ∈ TB_11, w ∈ lw_tbl := fun w h => List.mem_of_mem_drop (i := 551) (memIn_r (big := List.drop 551 lw_tbl) TB_11 (0 :: 1 :: 2 :: 3 :: 21 :: 22 :: 23 :: 24 :: 25 :: 26 :: 27 :: 28 :: 29 :: 30 :: 31 :: 32 :: 33 :: 34 :: 35 :: 36 :: 37 :: 38 :: 39 :: 40 :: 41 :: 43 :: 44 :: 45 :: 46 :: 47 :: []) (by decide +kernel) w h)
set_option maxRecDepth 100000 in
theorem tbI_12 : ∀ w ∈ TB_12, w ∈ lw_tbl := fun w h => List.mem_of_mem_drop (i := 599) (memIn_r (big := List.drop 599 lw_tbl) TB_12 (0 :: 1 :: 3 :: 4 :: 5 :: 6 :: 7 :: 8 :: 9 :: 10 :: 11 :: 12 :: 13 :: 14 :: 16 :: 17 :: 18 :: 20 :: 21 :: 22 :: 23 :: 24 :: 25 :: 26 :: 27 :: 28 :: 30 :: 31 :: 32 :: 34 :: []) (by decide +kernel) w h)
set_option maxRecDepth 100000 in
theorem tbI_13 : ∀ w ∈ TB_13, w ∈ lw_tbl := fun w h => List.mem_of_mem_drop (i := 634) (memIn_r (big := List.drop 634 lw_tbl) TB_13 (0 :: 1 :: 3 :: 4 :: 5 :: 6 :: 7 :: 8 :: 9 :: 10 :: 11 :: 12 :: 13 :: 15 :: 16 :: 17 :: 19 :: 20 :: 21 :: 23 :: 24 :: 26 :: 28 :: 29 :: 30 :: 31 :: 32 :: 33 :: 34 :: 35 :: []) (by decide +kernel) w h)
set_option maxRecDepth 100000 in
theorem tbI_14 : ∀ w ∈ TB_14, w ∈ lw_tbl := fun w h => List.mem_of_mem_drop (i := 670) (memIn_r (big := List.drop 670 lw_tbl) TB_14 (0 :: 1 :: 2 :: 4 :: 5 :: 6 :: 7 :: 8 :: 9 :: 10 :: 11 :: 12 :: 13 :: 14 :: 15 :: 16 :: 17 :: 18 :: 20 :: 21 :: 22 :: 23 :: 24 :: 25 :: 26 :: 27 :: 28 :: 29 :: 30 :: 31 :: []) (by decide +kernel) w h)
set_option maxRecDepth 100000 in
theorem tbI_15 : ∀ w ∈ TB_15, w ∈ lw_tbl := fun w h => List.mem_of_mem_drop (i := 702) (memIn_r (big := List.drop 702 lw_tbl) TB_15 (0 :: 1 :: 2 :: 3 :: 4 :: 6 :: 8 :: 18 :: 20 :: 21 :: 30 :: 32 :: 33 :: 36 :: 38 :: 39 :: 40 :: 42 :: 43 :: 52 :: 54 :: 55 :: 56 :: 58 :: 59 :: 60 :: 62 :: 63 :: 64 :: 66 :: []) (by decide +kernel) w h)
set_option maxRecDepth 100000 in
theorem tbI_16 : ∀ w ∈ TB_16, w ∈ lw_tbl := fun w h => List.mem_of_mem_drop (i := 769) (memIn_r (big := List.drop 769 lw_tbl) TB_16 (0 :: 1 :: 3 :: 4 :: 5 :: 7 :: 8 :: 9 :: 11 :: 12 :: 13 :: 15 :: 16 :: 17 :: 19 :: 20 :: 21 :: 22 :: 23 :: 24 :: 25 :: 27 :: 28 :: 29 :: 30 :: 31 :: 32 :: 33 :: 34 :: 35 :: []) (by decide +kernel) w h)
set_option maxRecDepth 100000 in
theorem tbI_17 : ∀ w ∈ TB_17, w ∈ lw_tbl := fun w h => List.mem_of_mem_drop (i := 805) (memIn_r (big := List.drop 805 lw_tbl) TB_17 (0 :: 1 :: 2 :: 3 :: 4 :: 5 :: 6 :: 7 :: 8 :: 9 :: 10 :: 11 :: 12 :: 13 :: 14 :: 15 :: 16 :: 17 :: 18 :: 19 :: 20 :: 21 :: 22 :: 23 :: 24 :: 25 :: 26 :: 27 :: 28 :: 29 :: []) (by decide +kernel) w h)
set_option maxRecDepth 100000 in
theorem tbI_18 : ∀ w ∈ TB_18, w ∈ lw_tbl := fun w h => List.mem_of_mem_drop (i := 835) (memIn_r (big := List.drop 835 lw_tbl) TB_18 (0 :: 1 :: 2 :: 3 :: 4 :: 5 :: 6 :: 7 :: 8 :: 9 :: 11 :: 12 :: 13 :: 14 :: 15 :: 16 :: 17 :: 18 :: 19 :: 20 :: 21 :: 22 :: 23 :: 24 :: 25 :: 26 :: 27 :: 28 :: 29 :: 30 :: []) (by decide +kernel) w h)
set_option maxRecDepth 100000 in
theorem tbI_19 : ∀ w ∈ TB_19, w ∈ lw_tbl := fun w h => List.mem_of_mem_drop (i := 866) (memIn_r (big := List.drop 866 lw_tbl) TB_19 (0 :: 1 :: 2 :: 3 :: 4 :: 5 :: 7 :: 8 :: 9 :: 10 :: 12 :: 13 :: 14 :: 15 :: 17 :: 18 :: 19 :: 21 :: 22 :: 23 :: 25 :: 26 :: 27 :: 28 :: 29 :: 30 :: 31 :: 32 :: 33 :: 35 :: []) (by decide +kernel) w h)
set_option maxRecDepth 100000 in
theorem tbI_20 : ∀ w ∈ TB_20, w ∈ lw_tbl := fun w h => List.mem_of_mem_drop (i := 902) (memIn_r (big := List.drop 902 lw_tbl) TB_20 (0 :: 1 :: 2 :: 3 :: 4 :: 5 :: 7 :: 8 :: 9 :: 10 :: 11 :: 12 :: 13 :: 15 :: 16 :: 17 :: 19 :: 20 :: 21 :: 23 :: 24 :: 25 :: 27 :: 28 :: 29 :: 30 :: 31 :: 32 :: 33 :: 34 :: []) (by decide +kernel) w h)
set_option maxRecDepth 100000 in
theorem tbI_21 : ∀ w ∈ TB_21, w ∈ lw_tbl := fun w h => List.mem_of_mem_drop (i := 937) (memIn_r (big := List.drop 937 lw_tbl) TB_21 (0 :: 1 :: 2 :: 3 :: 4 :: 6 :: 7 :: 8 :: 10 :: 11 :: 12 :: 13 :: 14 :: 15 :: 16 :: 17 :: 18 :: 19 :: 20 :: 21 :: 22 :: 23 :: 24 :: 25 :: 26 :: 27 :: 29 :: 30 :: 31 :: 33 :: []) (by decide +kernel) w h)
set_option maxRecDepth 100000 in
theorem tbI_22 : ∀ w ∈ TB_22, w ∈ lw_tbl := fun w h => List.mem_of_mem_drop (i := 971) (memIn_r (big := List.drop 971 lw_tbl) TB_22 (0 :: 1 :: 2 :: 3 :: 4 :: 5 :: 6 :: 7 :: 8 :: 9 :: 10 :: 12 :: 13 :: 14 :: 15 :: 16 :: 17 :: 19 :: 20 :: 21 :: 22 :: 23 :: 24 :: 25 :: 26 :: 28 :: 29 :: 30 :: 31 :: 32 :: []) (by decide +kernel) w h)
set_option maxRecDepth 100000 in
theorem tbI_23 : ∀ w ∈ TB_23, w ∈ lw_tbl := fun w h => List.mem_of_mem_drop (i := 1004) (memIn_r (big := List.drop 1004 lw_tbl) TB_23 (0 :: 1 :: 2 :: 3 :: 4 :: 5 :: 6 :: 7 :: 8 :: 9 :: 10 :: 11 :: 12 :: 13 :: 14 :: 15 :: 16 :: 17 :: 18 :: 20 :: 21 :: 22 :: 23 :: 24 :: 25 :: 26 :: 27 :: 28 :: 29 :: 30 :: []) (by decide +kernel) w h)
set_option maxRecDepth 100000 in
theorem tbI_24 : ∀ w ∈ TB_24, w ∈ lw_tbl := fun w h => List.mem_of_mem_drop (i := 1035) (memIn_r (big := List.drop 1035 lw_tbl) TB_24 (0 :: 1 :: 2 :: 3 :: 4 :: 5 :: 6 :: 7 :: 8 :: 9 :: 10 :: 11 :: 12 :: 13 :: 14 :: 15 :: 16 :: 17 :: 18 :: 19 :: 20 :: 21 :: 22 :: 23 :: 24 :: 25 :: 26 :: 27 :: 28 :: 29 :: []) (by decide +kernel) w h)
set_option maxRecDepth 100000 in
theorem tbI_25 : ∀ w ∈ TB_25, w ∈ lw_tbl := fun w h => List.mem_of_mem_drop (i := 1065) (memIn_r (big := List.drop 1065 lw_tbl) TB_25 (0 :: 1 :: 2 :: 3 :: 4 :: 5 :: 6 :: 8 :: 9 :: 10 :: 11 :: 12 :: 13 :: 14 :: 15 :: 16 :: 17 :: 18 :: 19 :: 20 :: 21 :: 22 :: 24 :: 25 :: 26 :: 27 :: 28 :: 29 :: 30 :: 32 :: []) (by decide +kernel) w h)
set_option maxRecDepth 100000 in
theorem tbI_26 : ∀ w ∈ TB_26, w ∈ lw_tbl := fun w h => List.mem_of_mem_drop (i := 1098) (memIn_r (big := List.drop 1098 lw_tbl) TB_26 (0 :: 1 :: 2 :: 3 :: 4 :: 5 :: 6 :: 7 :: 8 :: 9 :: 10 :: 11 :: 12 :: 13 :: 14 :: 15 :: 16 :: 17 :: 18 :: 19 :: 20 :: 21 :: 22 :: 23 :: 24 :: 25 :: 26 :: 27 :: 28 :: 29 :: []) (by decide +kernel) w h)
