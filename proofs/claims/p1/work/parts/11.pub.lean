theorem dX11_borough_0 : decode cX11_borough 0 = .ok (.aload_n 0, 1) := by decide +kernel
theorem dX11_borough_1 : decode cX11_borough 1 = .ok (.getfield 10, 3) := by decide +kernel
theorem dX11_borough_4 : decode cX11_borough 4 = .ok (.iload_n 1, 1) := by decide +kernel
theorem dX11_borough_5 : decode cX11_borough 5 = .ok (.invokevirtual 94, 3) := by decide +kernel
theorem dX11_borough_8 : decode cX11_borough 8 = .ok (.astore_n 3, 1) := by decide +kernel
theorem dX11_borough_9 : decode cX11_borough 9 = .ok (.aload_n 3, 1) := by decide +kernel
theorem dX11_borough_10 : decode cX11_borough 10 = .ok (.ifnonnull 8, 3) := by decide +kernel
theorem dX11_borough_13 : decode cX11_borough 13 = .ok (.bipush (-2), 2) := by decide +kernel
theorem dX11_borough_15 : decode cX11_borough 15 = .ok (.goto 8, 3) := by decide +kernel
theorem dX11_borough_23 : decode cX11_borough 23 = .ok (.ireturn, 1) := by decide +kernel
theorem dX11_deed_0 : decode cX11_deed 0 = .ok (.aload_n 0, 1) := by decide +kernel
theorem dX11_deed_1 : decode cX11_deed 1 = .ok (.getfield 10, 3) := by decide +kernel
theorem dX11_deed_4 : decode cX11_deed 4 = .ok (.iload_n 1, 1) := by decide +kernel
theorem dX11_deed_5 : decode cX11_deed 5 = .ok (.invokevirtual 104, 3) := by decide +kernel
theorem dX11_deed_8 : decode cX11_deed 8 = .ok (.astore 4, 2) := by decide +kernel
theorem dX11_deed_10 : decode cX11_deed 10 = .ok (.aload 4, 2) := by decide +kernel
theorem dX11_deed_12 : decode cX11_deed 12 = .ok (.ifnonnull 6, 3) := by decide +kernel
theorem dX11_deed_15 : decode cX11_deed 15 = .ok (.bipush (-2), 2) := by decide +kernel
theorem dX11_deed_17 : decode cX11_deed 17 = .ok (.ireturn, 1) := by decide +kernel
theorem dX11_stop_0 : decode cX11_stop 0 = .ok (.aload_n 0, 1) := by decide +kernel
theorem dX11_stop_1 : decode cX11_stop 1 = .ok (.getfield 10, 3) := by decide +kernel
theorem dX11_stop_4 : decode cX11_stop 4 = .ok (.iload_n 1, 1) := by decide +kernel
theorem dX11_stop_5 : decode cX11_stop 5 = .ok (.invokevirtual 94, 3) := by decide +kernel
theorem dX11_stop_8 : decode cX11_stop 8 = .ok (.astore_n 3, 1) := by decide +kernel
theorem dX11_stop_9 : decode cX11_stop 9 = .ok (.aload_n 0, 1) := by decide +kernel
theorem dX11_stop_10 : decode cX11_stop 10 = .ok (.getfield 10, 3) := by decide +kernel
theorem dX11_stop_13 : decode cX11_stop 13 = .ok (.iload_n 2, 1) := by decide +kernel
theorem dX11_stop_14 : decode cX11_stop 14 = .ok (.invokevirtual 104, 3) := by decide +kernel
theorem dX11_stop_17 : decode cX11_stop 17 = .ok (.astore 4, 2) := by decide +kernel
theorem dX11_stop_19 : decode cX11_stop 19 = .ok (.aload_n 3, 1) := by decide +kernel
theorem dX11_stop_20 : decode cX11_stop 20 = .ok (.ifnull 8, 3) := by decide +kernel
theorem dX11_stop_28 : decode cX11_stop 28 = .ok (.iconst (-1), 1) := by decide +kernel
theorem dX11_stop_29 : decode cX11_stop 29 = .ok (.ireturn, 1) := by decide +kernel
theorem dX11_reached_0 : decode cX11_reached 0 = .ok (.aload_n 0, 1) := by decide +kernel
theorem dX11_reached_1 : decode cX11_reached 1 = .ok (.getfield 10, 3) := by decide +kernel
theorem dX11_reached_4 : decode cX11_reached 4 = .ok (.iload_n 1, 1) := by decide +kernel
theorem dX11_reached_5 : decode cX11_reached 5 = .ok (.invokevirtual 94, 3) := by decide +kernel
theorem dX11_reached_8 : decode cX11_reached 8 = .ok (.astore 4, 2) := by decide +kernel
theorem dX11_reached_10 : decode cX11_reached 10 = .ok (.aload 4, 2) := by decide +kernel
theorem dX11_reached_12 : decode cX11_reached 12 = .ok (.ifnull 13, 3) := by decide +kernel
theorem dX11_reached_25 : decode cX11_reached 25 = .ok (.iconst (-1), 1) := by decide +kernel
theorem dX11_reached_26 : decode cX11_reached 26 = .ok (.ireturn, 1) := by decide +kernel
theorem dX11_cut_0 : decode cX11_cut 0 = .ok (.aload_n 0, 1) := by decide +kernel
theorem dX11_cut_1 : decode cX11_cut 1 = .ok (.getfield 10, 3) := by decide +kernel
theorem dX11_cut_4 : decode cX11_cut 4 = .ok (.iload_n 1, 1) := by decide +kernel
theorem dX11_cut_5 : decode cX11_cut 5 = .ok (.invokevirtual 94, 3) := by decide +kernel
theorem dX11_cut_8 : decode cX11_cut 8 = .ok (.astore 4, 2) := by decide +kernel
theorem dX11_cut_10 : decode cX11_cut 10 = .ok (.aload 4, 2) := by decide +kernel
theorem dX11_cut_12 : decode cX11_cut 12 = .ok (.ifnull 13, 3) := by decide +kernel
theorem dX11_cut_25 : decode cX11_cut 25 = .ok (.iconst (-1), 1) := by decide +kernel
theorem dX11_cut_26 : decode cX11_cut 26 = .ok (.ireturn, 1) := by decide +kernel
theorem dX11_love_0 : decode cX11_love 0 = .ok (.aload_n 0, 1) := by decide +kernel
theorem dX11_love_1 : decode cX11_love 1 = .ok (.getfield 10, 3) := by decide +kernel
theorem dX11_love_4 : decode cX11_love 4 = .ok (.iload_n 1, 1) := by decide +kernel
theorem dX11_love_5 : decode cX11_love 5 = .ok (.invokevirtual 94, 3) := by decide +kernel
theorem dX11_love_8 : decode cX11_love 8 = .ok (.astore 4, 2) := by decide +kernel
theorem dX11_love_10 : decode cX11_love 10 = .ok (.aload 4, 2) := by decide +kernel
theorem dX11_love_12 : decode cX11_love 12 = .ok (.ifnull 13, 3) := by decide +kernel
theorem dX11_love_25 : decode cX11_love 25 = .ok (.iconst (-1), 1) := by decide +kernel
theorem dX11_love_26 : decode cX11_love 26 = .ok (.ireturn, 1) := by decide +kernel
theorem dX11_dares_0 : decode cX11_dares 0 = .ok (.aload_n 0, 1) := by decide +kernel
theorem dX11_dares_1 : decode cX11_dares 1 = .ok (.getfield 10, 3) := by decide +kernel
theorem dX11_dares_4 : decode cX11_dares 4 = .ok (.iload_n 1, 1) := by decide +kernel
theorem dX11_dares_5 : decode cX11_dares 5 = .ok (.invokevirtual 94, 3) := by decide +kernel
theorem dX11_dares_8 : decode cX11_dares 8 = .ok (.astore 5, 2) := by decide +kernel
theorem dX11_dares_10 : decode cX11_dares 10 = .ok (.aload 5, 2) := by decide +kernel
theorem dX11_dares_12 : decode cX11_dares 12 = .ok (.ifnull 12, 3) := by decide +kernel
theorem dX11_dares_24 : decode cX11_dares 24 = .ok (.bipush (-2), 2) := by decide +kernel
theorem dX11_dares_26 : decode cX11_dares 26 = .ok (.ireturn, 1) := by decide +kernel
theorem dX11_share_0 : decode cX11_share 0 = .ok (.aload_n 0, 1) := by decide +kernel
theorem dX11_share_1 : decode cX11_share 1 = .ok (.getfield 10, 3) := by decide +kernel
theorem dX11_share_4 : decode cX11_share 4 = .ok (.iload_n 1, 1) := by decide +kernel
theorem dX11_share_5 : decode cX11_share 5 = .ok (.invokevirtual 94, 3) := by decide +kernel
theorem dX11_share_8 : decode cX11_share 8 = .ok (.astore 5, 2) := by decide +kernel
theorem dX11_share_10 : decode cX11_share 10 = .ok (.aload 5, 2) := by decide +kernel
theorem dX11_share_12 : decode cX11_share 12 = .ok (.ifnull 23, 3) := by decide +kernel
theorem dX11_share_35 : decode cX11_share 35 = .ok (.iconst (-1), 1) := by decide +kernel
theorem dX11_share_36 : decode cX11_share 36 = .ok (.ireturn, 1) := by decide +kernel
theorem dX11_elder_0 : decode cX11_elder 0 = .ok (.aload_n 0, 1) := by decide +kernel
theorem dX11_elder_1 : decode cX11_elder 1 = .ok (.getfield 10, 3) := by decide +kernel
theorem dX11_elder_4 : decode cX11_elder 4 = .ok (.iload_n 1, 1) := by decide +kernel
theorem dX11_elder_5 : decode cX11_elder 5 = .ok (.invokevirtual 94, 3) := by decide +kernel
theorem dX11_elder_8 : decode cX11_elder 8 = .ok (.astore 4, 2) := by decide +kernel
theorem dX11_elder_10 : decode cX11_elder 10 = .ok (.aload 4, 2) := by decide +kernel
theorem dX11_elder_12 : decode cX11_elder 12 = .ok (.ifnull 21, 3) := by decide +kernel
theorem dX11_elder_33 : decode cX11_elder 33 = .ok (.iconst (-1), 1) := by decide +kernel
theorem dX11_elder_34 : decode cX11_elder 34 = .ok (.ireturn, 1) := by decide +kernel
theorem dX11_ledger_0 : decode cX11_ledger 0 = .ok (.aload_n 0, 1) := by decide +kernel
theorem dX11_ledger_1 : decode cX11_ledger 1 = .ok (.getfield 10, 3) := by decide +kernel
theorem dX11_ledger_4 : decode cX11_ledger 4 = .ok (.iload_n 1, 1) := by decide +kernel
theorem dX11_ledger_5 : decode cX11_ledger 5 = .ok (.invokevirtual 184, 3) := by decide +kernel
theorem dX11_ledger_8 : decode cX11_ledger 8 = .ok (.astore_n 3, 1) := by decide +kernel
theorem dX11_ledger_9 : decode cX11_ledger 9 = .ok (.aload_n 3, 1) := by decide +kernel
theorem dX11_ledger_10 : decode cX11_ledger 10 = .ok (.ifnonnull 6, 3) := by decide +kernel
theorem dX11_ledger_13 : decode cX11_ledger 13 = .ok (.bipush (-2), 2) := by decide +kernel
theorem dX11_ledger_15 : decode cX11_ledger 15 = .ok (.ireturn, 1) := by decide +kernel
theorem dX11_fact_0 : decode cX11_fact 0 = .ok (.aload_n 0, 1) := by decide +kernel
theorem dX11_fact_1 : decode cX11_fact 1 = .ok (.getfield 10, 3) := by decide +kernel
theorem dX11_fact_4 : decode cX11_fact 4 = .ok (.iload_n 1, 1) := by decide +kernel
theorem dX11_fact_5 : decode cX11_fact 5 = .ok (.invokevirtual 210, 3) := by decide +kernel
theorem dX11_fact_8 : decode cX11_fact 8 = .ok (.astore 4, 2) := by decide +kernel
theorem dX11_fact_10 : decode cX11_fact 10 = .ok (.aload 4, 2) := by decide +kernel
theorem dX11_fact_12 : decode cX11_fact 12 = .ok (.ifnonnull 6, 3) := by decide +kernel
theorem dX11_fact_15 : decode cX11_fact 15 = .ok (.bipush (-2), 2) := by decide +kernel
theorem dX11_fact_17 : decode cX11_fact 17 = .ok (.ireturn, 1) := by decide +kernel
theorem dX11_sure_0 : decode cX11_sure 0 = .ok (.aload_n 0, 1) := by decide +kernel
theorem dX11_sure_1 : decode cX11_sure 1 = .ok (.getfield 10, 3) := by decide +kernel
theorem dX11_sure_4 : decode cX11_sure 4 = .ok (.iload_n 1, 1) := by decide +kernel
theorem dX11_sure_5 : decode cX11_sure 5 = .ok (.invokevirtual 94, 3) := by decide +kernel
theorem dX11_sure_8 : decode cX11_sure 8 = .ok (.astore 5, 2) := by decide +kernel
theorem dX11_sure_10 : decode cX11_sure 10 = .ok (.aload 5, 2) := by decide +kernel
theorem dX11_sure_12 : decode cX11_sure 12 = .ok (.ifnull 21, 3) := by decide +kernel
theorem dX11_sure_33 : decode cX11_sure 33 = .ok (.iconst (-1), 1) := by decide +kernel
theorem dX11_sure_34 : decode cX11_sure 34 = .ok (.ireturn, 1) := by decide +kernel
theorem dX11_drawn_0 : decode cX11_drawn 0 = .ok (.aload_n 0, 1) := by decide +kernel
theorem dX11_drawn_1 : decode cX11_drawn 1 = .ok (.getfield 10, 3) := by decide +kernel
theorem dX11_drawn_4 : decode cX11_drawn 4 = .ok (.iload_n 1, 1) := by decide +kernel
theorem dX11_drawn_5 : decode cX11_drawn 5 = .ok (.invokevirtual 94, 3) := by decide +kernel
theorem dX11_drawn_8 : decode cX11_drawn 8 = .ok (.astore 5, 2) := by decide +kernel
theorem dX11_drawn_10 : decode cX11_drawn 10 = .ok (.aload 5, 2) := by decide +kernel
theorem dX11_drawn_12 : decode cX11_drawn 12 = .ok (.ifnull 21, 3) := by decide +kernel
theorem dX11_drawn_33 : decode cX11_drawn 33 = .ok (.bipush (-2), 2) := by decide +kernel
theorem dX11_drawn_35 : decode cX11_drawn 35 = .ok (.ireturn, 1) := by decide +kernel
theorem dX11_family_0 : decode cX11_family 0 = .ok (.aload_n 0, 1) := by decide +kernel
theorem dX11_family_1 : decode cX11_family 1 = .ok (.getfield 10, 3) := by decide +kernel
theorem dX11_family_4 : decode cX11_family 4 = .ok (.iload_n 1, 1) := by decide +kernel
theorem dX11_family_5 : decode cX11_family 5 = .ok (.invokevirtual 94, 3) := by decide +kernel
theorem dX11_family_8 : decode cX11_family 8 = .ok (.astore 4, 2) := by decide +kernel
theorem dX11_family_10 : decode cX11_family 10 = .ok (.aload 4, 2) := by decide +kernel
theorem dX11_family_12 : decode cX11_family 12 = .ok (.ifnull 12, 3) := by decide +kernel
theorem dX11_family_24 : decode cX11_family 24 = .ok (.iconst (-1), 1) := by decide +kernel
theorem dX11_family_25 : decode cX11_family 25 = .ok (.ireturn, 1) := by decide +kernel
theorem dX11_shoulders_0 : decode cX11_shoulders 0 = .ok (.aload_n 0, 1) := by decide +kernel
theorem dX11_shoulders_1 : decode cX11_shoulders 1 = .ok (.getfield 10, 3) := by decide +kernel
theorem dX11_shoulders_4 : decode cX11_shoulders 4 = .ok (.iload_n 1, 1) := by decide +kernel
theorem dX11_shoulders_5 : decode cX11_shoulders 5 = .ok (.invokevirtual 94, 3) := by decide +kernel
theorem dX11_shoulders_8 : decode cX11_shoulders 8 = .ok (.astore_n 3, 1) := by decide +kernel
theorem dX11_shoulders_9 : decode cX11_shoulders 9 = .ok (.aload_n 3, 1) := by decide +kernel
theorem dX11_shoulders_10 : decode cX11_shoulders 10 = .ok (.ifnonnull 7, 3) := by decide +kernel
theorem dX11_shoulders_13 : decode cX11_shoulders 13 = .ok (.iconst (-1), 1) := by decide +kernel
theorem dX11_shoulders_14 : decode cX11_shoulders 14 = .ok (.goto 19, 3) := by decide +kernel
theorem dX11_shoulders_33 : decode cX11_shoulders 33 = .ok (.ireturn, 1) := by decide +kernel
theorem dX11_hats_0 : decode cX11_hats 0 = .ok (.aload_n 0, 1) := by decide +kernel
theorem dX11_hats_1 : decode cX11_hats 1 = .ok (.getfield 10, 3) := by decide +kernel
theorem dX11_hats_4 : decode cX11_hats 4 = .ok (.iload_n 1, 1) := by decide +kernel
theorem dX11_hats_5 : decode cX11_hats 5 = .ok (.invokevirtual 94, 3) := by decide +kernel
theorem dX11_hats_8 : decode cX11_hats 8 = .ok (.astore_n 3, 1) := by decide +kernel
theorem dX11_hats_9 : decode cX11_hats 9 = .ok (.aload_n 3, 1) := by decide +kernel
theorem dX11_hats_10 : decode cX11_hats 10 = .ok (.ifnonnull 5, 3) := by decide +kernel
theorem dX11_hats_13 : decode cX11_hats 13 = .ok (.iconst (-1), 1) := by decide +kernel
theorem dX11_hats_14 : decode cX11_hats 14 = .ok (.ireturn, 1) := by decide +kernel
theorem dX11_teams_0 : decode cX11_teams 0 = .ok (.aload_n 0, 1) := by decide +kernel
theorem dX11_teams_1 : decode cX11_teams 1 = .ok (.getfield 10, 3) := by decide +kernel
theorem dX11_teams_4 : decode cX11_teams 4 = .ok (.iload_n 1, 1) := by decide +kernel
theorem dX11_teams_5 : decode cX11_teams 5 = .ok (.invokevirtual 94, 3) := by decide +kernel
theorem dX11_teams_8 : decode cX11_teams 8 = .ok (.astore_n 3, 1) := by decide +kernel
theorem dX11_teams_9 : decode cX11_teams 9 = .ok (.aload_n 3, 1) := by decide +kernel
theorem dX11_teams_10 : decode cX11_teams 10 = .ok (.ifnull 11, 3) := by decide +kernel
theorem dX11_teams_21 : decode cX11_teams 21 = .ok (.iconst (-1), 1) := by decide +kernel
theorem dX11_teams_22 : decode cX11_teams 22 = .ok (.ireturn, 1) := by decide +kernel
theorem dX11_assumed_0 : decode cX11_assumed 0 = .ok (.aload_n 0, 1) := by decide +kernel
theorem dX11_assumed_1 : decode cX11_assumed 1 = .ok (.getfield 10, 3) := by decide +kernel
theorem dX11_assumed_4 : decode cX11_assumed 4 = .ok (.iload_n 1, 1) := by decide +kernel
theorem dX11_assumed_5 : decode cX11_assumed 5 = .ok (.invokevirtual 94, 3) := by decide +kernel
theorem dX11_assumed_8 : decode cX11_assumed 8 = .ok (.astore 4, 2) := by decide +kernel
theorem dX11_assumed_10 : decode cX11_assumed 10 = .ok (.aload 4, 2) := by decide +kernel
theorem dX11_assumed_12 : decode cX11_assumed 12 = .ok (.ifnonnull 5, 3) := by decide +kernel
theorem dX11_assumed_15 : decode cX11_assumed 15 = .ok (.iconst (-1), 1) := by decide +kernel
theorem dX11_assumed_16 : decode cX11_assumed 16 = .ok (.ireturn, 1) := by decide +kernel
theorem dX11_settled_0 : decode cX11_settled 0 = .ok (.aload_n 0, 1) := by decide +kernel
theorem dX11_settled_1 : decode cX11_settled 1 = .ok (.getfield 10, 3) := by decide +kernel
theorem dX11_settled_4 : decode cX11_settled 4 = .ok (.iload_n 1, 1) := by decide +kernel
theorem dX11_settled_5 : decode cX11_settled 5 = .ok (.invokevirtual 94, 3) := by decide +kernel
theorem dX11_settled_8 : decode cX11_settled 8 = .ok (.astore 4, 2) := by decide +kernel
theorem dX11_settled_10 : decode cX11_settled 10 = .ok (.aload 4, 2) := by decide +kernel
theorem dX11_settled_12 : decode cX11_settled 12 = .ok (.ifnull 21, 3) := by decide +kernel
theorem dX11_settled_33 : decode cX11_settled 33 = .ok (.iconst (-1), 1) := by decide +kernel
theorem dX11_settled_34 : decode cX11_settled 34 = .ok (.ireturn, 1) := by decide +kernel
theorem dX11_state_0 : decode cX11_state 0 = .ok (.aload_n 0, 1) := by decide +kernel
theorem dX11_state_1 : decode cX11_state 1 = .ok (.getfield 10, 3) := by decide +kernel
theorem dX11_state_4 : decode cX11_state 4 = .ok (.iload_n 1, 1) := by decide +kernel
theorem dX11_state_5 : decode cX11_state 5 = .ok (.invokevirtual 94, 3) := by decide +kernel
theorem dX11_state_8 : decode cX11_state 8 = .ok (.astore 5, 2) := by decide +kernel
theorem dX11_state_10 : decode cX11_state 10 = .ok (.aload 5, 2) := by decide +kernel
theorem dX11_state_12 : decode cX11_state 12 = .ok (.ifnull 21, 3) := by decide +kernel
theorem dX11_state_33 : decode cX11_state 33 = .ok (.bipush (-2), 2) := by decide +kernel
theorem dX11_state_35 : decode cX11_state 35 = .ok (.ireturn, 1) := by decide +kernel
theorem dX11_rows_0 : decode cX11_rows 0 = .ok (.aload_n 0, 1) := by decide +kernel
theorem dX11_rows_1 : decode cX11_rows 1 = .ok (.getfield 10, 3) := by decide +kernel
theorem dX11_rows_4 : decode cX11_rows 4 = .ok (.iload_n 1, 1) := by decide +kernel
theorem dX11_rows_5 : decode cX11_rows 5 = .ok (.invokevirtual 94, 3) := by decide +kernel
theorem dX11_rows_8 : decode cX11_rows 8 = .ok (.astore 6, 2) := by decide +kernel
theorem dX11_rows_10 : decode cX11_rows 10 = .ok (.aload 6, 2) := by decide +kernel
theorem dX11_rows_12 : decode cX11_rows 12 = .ok (.ifnull 32, 3) := by decide +kernel
theorem dX11_rows_44 : decode cX11_rows 44 = .ok (.ldc2_w 224, 3) := by decide +kernel
theorem dX11_rows_47 : decode cX11_rows 47 = .ok (.lreturn, 1) := by decide +kernel
theorem dX11_views_0 : decode cX11_views 0 = .ok (.aload_n 0, 1) := by decide +kernel
theorem dX11_views_1 : decode cX11_views 1 = .ok (.getfield 10, 3) := by decide +kernel
theorem dX11_views_4 : decode cX11_views 4 = .ok (.iload_n 1, 1) := by decide +kernel
theorem dX11_views_5 : decode cX11_views 5 = .ok (.invokevirtual 94, 3) := by decide +kernel
theorem dX11_views_8 : decode cX11_views 8 = .ok (.astore_n 3, 1) := by decide +kernel
theorem dX11_views_9 : decode cX11_views 9 = .ok (.aload_n 3, 1) := by decide +kernel
theorem dX11_views_10 : decode cX11_views 10 = .ok (.ifnonnull 9, 3) := by decide +kernel
theorem dX11_views_13 : decode cX11_views 13 = .ok (.ldc2_w 224, 3) := by decide +kernel
theorem dX11_views_16 : decode cX11_views 16 = .ok (.goto 12, 3) := by decide +kernel
theorem dX11_views_28 : decode cX11_views 28 = .ok (.lreturn, 1) := by decide +kernel

def ws_c_borough : List Cond := .code yX11_borough cX11_borough 4 (some .int) :: ([.fieldLink RX11 10 "HeightFine" "told" "LHeightFine$Told;", .methodLink RX11 94 yX8_boroughAt, .instanceMethod yX8_boroughAt, .selects RX8 yX8_boroughAt yX8_boroughAt, .initialized RX8, .code yX8_boroughAt cX8_boroughAt 2 (some (.object "HeightFine$Borough")), .methodLink RX8 76 yX8_holds, .instanceMethod yX8_holds, .selects RX8 yX8_holds yX8_holds, .code yX8_holds cX8_holds 3 (some .boolean), .fieldLink RX8 15 "HeightFine$Told" "counts" "[I"] ++ u_ws RX8 TX8 9 ++ u_ws RX11 TX11 8)
set_option maxRecDepth 20000 in
theorem in_c_borough_8 : ∀ w ∈ u_ws RX8 TX8 9, w ∈ ws_c_borough := by decide +kernel
set_option maxRecDepth 20000 in
theorem in_c_borough_11 : ∀ w ∈ u_ws RX11 TX11 8, w ∈ ws_c_borough := by decide +kernel
set_option maxRecDepth 20000 in
theorem gc_borough_c_boroughAt : GoodIn ws_c_borough (wsV RX11 94 RX8 yX8_boroughAt ws_c_boroughAt) := goodIn_app (goodIn_of _ (by decide +kernel)) (goodIn_r _ [6, 7, 8, 9, 5, 10, 11, 12, 13, 14, 15, 16, 17, 18, 19, 20] (by decide +kernel) (by decide +kernel))
set_option maxHeartbeats 4000000 in
set_option maxRecDepth 100000 in
theorem c_borough (l : Launch) (dC : Nat → ClassId) (dI : Nat → Nat → Nat) (k : Nat → ClassId) (h : Nat) (g0 : Nat) (g1 : Nat) (g2 : Nat) (g3 : Nat) (g4 : Nat) (g5 : Nat) (g6 : Nat) (g7 : Nat) (t0 : Nat) (t1 : Nat) (t2 : Nat) (t3 : Nat) (t4 : Nat) (t5 : Nat) (x6 : Int32) (x7 : Int32) (x8 : Int32) (p0 : Int32) (p1 : Int32) : Met l yX11_borough ws_c_borough ({ frames := 2, cells := 0, slots := 0, locals := 43 }) (va_Pc [.ref h, .int p0, .int p1] (prR dC dI k [(h, .inr (11, [.ref g0, .ref g1, .ref g2, .ref g3, .ref g4, .ref g5, .ref g6, .ref g7])), (g0, .inr (8, [.ref t0, .ref t1, .ref t2, .ref t3, .ref t4, .ref t5, .int x6, .int x7, .int x8])), (t1, .inl (k 0, 4, .inl (fun _ => 0)))])) (vp_Si (fun r => r = (-2))) 0 0 (fun _ => False) := by
  refine Met.ofW (cc := cX11_borough) (maxL := 4) (ret := (some .int)) (by decide) rfl ?_
  intro p e s m args below meth c s₁ B hml hv
  obtain ⟨rfl, hP, hK⟩ := hv
  have hx := B.exec
  have hb := B.bytes
  have hr := B.returns
  have hts := atoms_spec (ws := ws_c_borough) B.pre
  have hown : s.vm.findClass RX11 = some m.cls := findClass_of_methodNamed B.named
  have hi8 := in_c_borough_8
  have hi11 := in_c_borough_11
  have hP : va_P (dC, dI) vwCl [(h, .inr (11, [.ref g0, .ref g1, .ref g2, .ref g3, .ref g4, .ref g5, .ref g6, .ref g7])), (g0, .inr (8, [.ref t0, .ref t1, .ref t2, .ref t3, .ref t4, .ref t5, .int x6, .int x7, .int x8])), (t1, .inl (k 0, 4, .inl (fun _ => 0)))] s.heap := hP
  have hl := lv_entry ([.ref h, .int p0, .int p1]) (n := 4) (Nat.le_of_ble_eq_true rfl)
  rw [lg_entry_eq]
  generalize (lg_sl ([.ref h, .int p0, .int p1]) ++ List.replicate (4 - (lg_sl ([.ref h, .int p0, .int p1])).length) Slot.unset).toArray = ls at hl ⊢
  have hl : lv_has ls 4 [(0, .ref h), (1, .int p0), (2, .int p1)] := hl
  refine lv_aload_n hx hb dX11_borough_0 rfl (lv_at hl 0 rfl) ?_
  refine va_get (D := (dC, dI)) (ci := 11) (v := .ref g0) (C := RX11) (T := TX11) (N := 8) hx hb hts hi11 hown hK hP 0 rfl rfl 0 (by decide) (hts (.fieldLink RX11 10 "HeightFine" "told" "LHeightFine$Told;") (by decide +kernel)) (fun _ h9 => h9) rfl dX11_borough_1 ?_
  refine lv_iload_n hx hb dX11_borough_4 rfl (lv_at hl 1 rfl) ?_
  have hPc := hP.sub (ws' := [(g0, .inr (8, [.ref t0, .ref t1, .ref t2, .ref t3, .ref t4, .ref t5, .int x6, .int x7, .int x8])), (t1, .inl (k 0, 4, .inl (fun _ => 0)))]) [1, 2] rfl
  refine va_csq (W.runV (As := [.int p0]) (rest := []) ⟨hx, hb, hml, hown, hts⟩ (c_boroughAt l dC dI k g0 t0 t1 t2 t3 t4 t5 x6 x7 x8 p0) (cwV 1 hts gc_borough_c_boroughAt rfl rfl rfl (by decide +kernel) ⟨Nat.le_of_ble_eq_true rfl, Nat.le_of_ble_eq_true rfl⟩) ⟨prR_blind, va_recv hK hPc (ci := 8) (q0 := 0) rfl rfl, fun U hU hW => ⟨rfl, prR_go hPc hK hU hW⟩⟩ rfl rfl hl.1 rfl (lv_room (Nat.le_of_ble_eq_true rfl)) dX11_borough_5 ⟨by decide +kernel, by decide +kernel⟩) (fun r_1 er_1 => ?_)
  subst er_1
  refine W.eq (g2 := F0 m 8 ls [.null]) rfl ?_
  refine lv_astore_nN (lv' := [(3, .null), (0, .ref h), (1, .int p0), (2, .int p1)]) hx hb dX11_borough_8 rfl hl (by decide) rfl (fun ls hl => ?_)
  refine lv_aload_nN hx hb dX11_borough_9 rfl (lv_at hl 0 rfl) ?_
  refine lv_ifnonnullN hx hb dX11_borough_10 ?_
  refine lv_bipush (v := (-2)) hx hb dX11_borough_13 (by decide) ?_
  refine lv_goto (tgt := 23) hx hb dX11_borough_15 (by decide) ?_
  exact W.iret (v := (-2)) hx hb hr (fun t ht hW => ⟨(-2), rfl, rfl, ht⟩) (fun q h => absurd h List.not_mem_nil) dX11_borough_23

def ws_c_deed : List Cond := .code yX11_deed cX11_deed 5 (some .int) :: ([.fieldLink RX11 10 "HeightFine" "told" "LHeightFine$Told;", .methodLink RX11 104 yX8_yearAt, .instanceMethod yX8_yearAt, .selects RX8 yX8_yearAt yX8_yearAt, .initialized RX8, .code yX8_yearAt cX8_yearAt 2 (some (.object "HeightFine$Year")), .methodLink RX8 76 yX8_holds, .instanceMethod yX8_holds, .selects RX8 yX8_holds yX8_holds, .code yX8_holds cX8_holds 3 (some .boolean), .fieldLink RX8 15 "HeightFine$Told" "counts" "[I"] ++ u_ws RX8 TX8 9 ++ u_ws RX11 TX11 8)
set_option maxRecDepth 20000 in
theorem in_c_deed_8 : ∀ w ∈ u_ws RX8 TX8 9, w ∈ ws_c_deed := by decide +kernel
set_option maxRecDepth 20000 in
theorem in_c_deed_11 : ∀ w ∈ u_ws RX11 TX11 8, w ∈ ws_c_deed := by decide +kernel
set_option maxRecDepth 20000 in
theorem gc_deed_c_yearAt : GoodIn ws_c_deed (wsV RX11 104 RX8 yX8_yearAt ws_c_yearAt) := goodIn_app (goodIn_of _ (by decide +kernel)) (goodIn_r _ [6, 7, 8, 9, 5, 10, 11, 12, 13, 14, 15, 16, 17, 18, 19, 20] (by decide +kernel) (by decide +kernel))
set_option maxHeartbeats 4000000 in
set_option maxRecDepth 100000 in
theorem c_deed (l : Launch) (dC : Nat → ClassId) (dI : Nat → Nat → Nat) (k : Nat → ClassId) (h : Nat) (g0 : Nat) (g1 : Nat) (g2 : Nat) (g3 : Nat) (g4 : Nat) (g5 : Nat) (g6 : Nat) (g7 : Nat) (t0 : Nat) (t1 : Nat) (t2 : Nat) (t3 : Nat) (t4 : Nat) (t5 : Nat) (x6 : Int32) (x7 : Int32) (x8 : Int32) (p0 : Int32) (p1 : Int32) (p2 : Int32) : Met l yX11_deed ws_c_deed ({ frames := 2, cells := 0, slots := 0, locals := 43 }) (va_Pc [.ref h, .int p0, .int p1, .int p2] (prR dC dI k [(h, .inr (11, [.ref g0, .ref g1, .ref g2, .ref g3, .ref g4, .ref g5, .ref g6, .ref g7])), (g0, .inr (8, [.ref t0, .ref t1, .ref t2, .ref t3, .ref t4, .ref t5, .int x6, .int x7, .int x8])), (t1, .inl (k 0, 4, .inl (fun _ => 0)))])) (vp_Si (fun r => r = (-2))) 0 0 (fun _ => False) := by
  refine Met.ofW (cc := cX11_deed) (maxL := 5) (ret := (some .int)) (by decide) rfl ?_
  intro p e s m args below meth c s₁ B hml hv
  obtain ⟨rfl, hP, hK⟩ := hv
  have hx := B.exec
  have hb := B.bytes
  have hr := B.returns
  have hts := atoms_spec (ws := ws_c_deed) B.pre
  have hown : s.vm.findClass RX11 = some m.cls := findClass_of_methodNamed B.named
  have hi8 := in_c_deed_8
  have hi11 := in_c_deed_11
  have hP : va_P (dC, dI) vwCl [(h, .inr (11, [.ref g0, .ref g1, .ref g2, .ref g3, .ref g4, .ref g5, .ref g6, .ref g7])), (g0, .inr (8, [.ref t0, .ref t1, .ref t2, .ref t3, .ref t4, .ref t5, .int x6, .int x7, .int x8])), (t1, .inl (k 0, 4, .inl (fun _ => 0)))] s.heap := hP
  have hl := lv_entry ([.ref h, .int p0, .int p1, .int p2]) (n := 5) (Nat.le_of_ble_eq_true rfl)
  rw [lg_entry_eq]
  generalize (lg_sl ([.ref h, .int p0, .int p1, .int p2]) ++ List.replicate (5 - (lg_sl ([.ref h, .int p0, .int p1, .int p2])).length) Slot.unset).toArray = ls at hl ⊢
  have hl : lv_has ls 5 [(0, .ref h), (1, .int p0), (2, .int p1), (3, .int p2)] := hl
  refine lv_aload_n hx hb dX11_deed_0 rfl (lv_at hl 0 rfl) ?_
  refine va_get (D := (dC, dI)) (ci := 11) (v := .ref g0) (C := RX11) (T := TX11) (N := 8) hx hb hts hi11 hown hK hP 0 rfl rfl 0 (by decide) (hts (.fieldLink RX11 10 "HeightFine" "told" "LHeightFine$Told;") (by decide +kernel)) (fun _ h9 => h9) rfl dX11_deed_1 ?_
  refine lv_iload_n hx hb dX11_deed_4 rfl (lv_at hl 1 rfl) ?_
  have hPc := hP.sub (ws' := [(g0, .inr (8, [.ref t0, .ref t1, .ref t2, .ref t3, .ref t4, .ref t5, .int x6, .int x7, .int x8])), (t1, .inl (k 0, 4, .inl (fun _ => 0)))]) [1, 2] rfl
  refine va_csq (W.runV (As := [.int p0]) (rest := []) ⟨hx, hb, hml, hown, hts⟩ (c_yearAt l dC dI k g0 t0 t1 t2 t3 t4 t5 x6 x7 x8 p0) (cwV 1 hts gc_deed_c_yearAt rfl rfl rfl (by decide +kernel) ⟨Nat.le_of_ble_eq_true rfl, Nat.le_of_ble_eq_true rfl⟩) ⟨prR_blind, va_recv hK hPc (ci := 8) (q0 := 0) rfl rfl, fun U hU hW => ⟨rfl, prR_go hPc hK hU hW⟩⟩ rfl rfl hl.1 rfl (lv_room (Nat.le_of_ble_eq_true rfl)) dX11_deed_5 ⟨by decide +kernel, by decide +kernel⟩) (fun r_1 er_1 => ?_)
  subst er_1
  refine W.eq (g2 := F0 m 8 ls [.null]) rfl ?_
  refine lv_astoreN (lv' := [(4, .null), (0, .ref h), (1, .int p0), (2, .int p1), (3, .int p2)]) hx hb dX11_deed_8 hl (by decide) rfl (fun ls hl => ?_)
  refine lv_aloadN hx hb dX11_deed_10 (lv_at hl 0 rfl) ?_
  refine lv_ifnonnullN hx hb dX11_deed_12 ?_
  refine lv_bipush (v := (-2)) hx hb dX11_deed_15 (by decide) ?_
  exact W.iret (v := (-2)) hx hb hr (fun t ht hW => ⟨(-2), rfl, rfl, ht⟩) (fun q h => absurd h List.not_mem_nil) dX11_deed_17

def ws_c_stop : List Cond := .code yX11_stop cX11_stop 5 (some .int) :: ([.fieldLink RX11 10 "HeightFine" "told" "LHeightFine$Told;", .methodLink RX11 94 yX8_boroughAt, .instanceMethod yX8_boroughAt, .selects RX8 yX8_boroughAt yX8_boroughAt, .initialized RX8, .code yX8_boroughAt cX8_boroughAt 2 (some (.object "HeightFine$Borough")), .methodLink RX8 76 yX8_holds, .instanceMethod yX8_holds, .selects RX8 yX8_holds yX8_holds, .code yX8_holds cX8_holds 3 (some .boolean), .fieldLink RX8 15 "HeightFine$Told" "counts" "[I", .methodLink RX11 104 yX8_yearAt, .instanceMethod yX8_yearAt, .selects RX8 yX8_yearAt yX8_yearAt, .code yX8_yearAt cX8_yearAt 2 (some (.object "HeightFine$Year"))] ++ u_ws RX8 TX8 9 ++ u_ws RX11 TX11 8)
set_option maxRecDepth 20000 in
theorem in_c_stop_8 : ∀ w ∈ u_ws RX8 TX8 9, w ∈ ws_c_stop := by decide +kernel
set_option maxRecDepth 20000 in
theorem in_c_stop_11 : ∀ w ∈ u_ws RX11 TX11 8, w ∈ ws_c_stop := by decide +kernel
set_option maxRecDepth 20000 in
theorem gc_stop_c_boroughAt : GoodIn ws_c_stop (wsV RX11 94 RX8 yX8_boroughAt ws_c_boroughAt) := goodIn_app (goodIn_of _ (by decide +kernel)) (goodIn_r _ [6, 7, 8, 9, 5, 10, 11, 16, 17, 18, 19, 20, 21, 22, 23, 24] (by decide +kernel) (by decide +kernel))
set_option maxRecDepth 20000 in
theorem gc_stop_c_yearAt : GoodIn ws_c_stop (wsV RX11 104 RX8 yX8_yearAt ws_c_yearAt) := goodIn_app (goodIn_of _ (by decide +kernel)) (goodIn_r _ [15, 7, 8, 9, 5, 10, 11, 16, 17, 18, 19, 20, 21, 22, 23, 24] (by decide +kernel) (by decide +kernel))
set_option maxHeartbeats 4000000 in
set_option maxRecDepth 100000 in
theorem c_stop (l : Launch) (dC : Nat → ClassId) (dI : Nat → Nat → Nat) (k : Nat → ClassId) (h : Nat) (g0 : Nat) (g1 : Nat) (g2 : Nat) (g3 : Nat) (g4 : Nat) (g5 : Nat) (g6 : Nat) (g7 : Nat) (t0 : Nat) (t1 : Nat) (t2 : Nat) (t3 : Nat) (t4 : Nat) (t5 : Nat) (x6 : Int32) (x7 : Int32) (x8 : Int32) (p0 : Int32) (p1 : Int32) : Met l yX11_stop ws_c_stop ({ frames := 2, cells := 0, slots := 0, locals := 43 }) (va_Pc [.ref h, .int p0, .int p1] (prR dC dI k [(h, .inr (11, [.ref g0, .ref g1, .ref g2, .ref g3, .ref g4, .ref g5, .ref g6, .ref g7])), (g0, .inr (8, [.ref t0, .ref t1, .ref t2, .ref t3, .ref t4, .ref t5, .int x6, .int x7, .int x8])), (t1, .inl (k 0, 4, .inl (fun _ => 0)))])) (vp_Si (fun r => r = (-1))) 0 0 (fun _ => False) := by
  refine Met.ofW (cc := cX11_stop) (maxL := 5) (ret := (some .int)) (by decide) rfl ?_
  intro p e s m args below meth c s₁ B hml hv
  obtain ⟨rfl, hP, hK⟩ := hv
  have hx := B.exec
  have hb := B.bytes
  have hr := B.returns
  have hts := atoms_spec (ws := ws_c_stop) B.pre
  have hown : s.vm.findClass RX11 = some m.cls := findClass_of_methodNamed B.named
  have hi8 := in_c_stop_8
  have hi11 := in_c_stop_11
  have hP : va_P (dC, dI) vwCl [(h, .inr (11, [.ref g0, .ref g1, .ref g2, .ref g3, .ref g4, .ref g5, .ref g6, .ref g7])), (g0, .inr (8, [.ref t0, .ref t1, .ref t2, .ref t3, .ref t4, .ref t5, .int x6, .int x7, .int x8])), (t1, .inl (k 0, 4, .inl (fun _ => 0)))] s.heap := hP
  have hl := lv_entry ([.ref h, .int p0, .int p1]) (n := 5) (Nat.le_of_ble_eq_true rfl)
  rw [lg_entry_eq]
  generalize (lg_sl ([.ref h, .int p0, .int p1]) ++ List.replicate (5 - (lg_sl ([.ref h, .int p0, .int p1])).length) Slot.unset).toArray = ls at hl ⊢
  have hl : lv_has ls 5 [(0, .ref h), (1, .int p0), (2, .int p1)] := hl
  refine lv_aload_n hx hb dX11_stop_0 rfl (lv_at hl 0 rfl) ?_
  refine va_get (D := (dC, dI)) (ci := 11) (v := .ref g0) (C := RX11) (T := TX11) (N := 8) hx hb hts hi11 hown hK hP 0 rfl rfl 0 (by decide) (hts (.fieldLink RX11 10 "HeightFine" "told" "LHeightFine$Told;") (by decide +kernel)) (fun _ h9 => h9) rfl dX11_stop_1 ?_
  refine lv_iload_n hx hb dX11_stop_4 rfl (lv_at hl 1 rfl) ?_
  have hPc := hP.sub (ws' := [(g0, .inr (8, [.ref t0, .ref t1, .ref t2, .ref t3, .ref t4, .ref t5, .int x6, .int x7, .int x8])), (t1, .inl (k 0, 4, .inl (fun _ => 0)))]) [1, 2] rfl
  refine va_csq (W.runV (As := [.int p0]) (rest := []) ⟨hx, hb, hml, hown, hts⟩ (c_boroughAt l dC dI k g0 t0 t1 t2 t3 t4 t5 x6 x7 x8 p0) (cwV 1 hts gc_stop_c_boroughAt rfl rfl rfl (by decide +kernel) ⟨Nat.le_of_ble_eq_true rfl, Nat.le_of_ble_eq_true rfl⟩) ⟨prR_blind, va_recv hK hPc (ci := 8) (q0 := 0) rfl rfl, fun U hU hW => ⟨rfl, prR_go hPc hK hU hW⟩⟩ rfl rfl hl.1 rfl (lv_room (Nat.le_of_ble_eq_true rfl)) dX11_stop_5 ⟨by decide +kernel, by decide +kernel⟩) (fun r_1 er_1 => ?_)
  subst er_1
  refine W.eq (g2 := F0 m 8 ls [.null]) rfl ?_
  refine lv_astore_nN (lv' := [(3, .null), (0, .ref h), (1, .int p0), (2, .int p1)]) hx hb dX11_stop_8 rfl hl (by decide) rfl (fun ls hl => ?_)
  refine lv_aload_n hx hb dX11_stop_9 rfl (lv_at hl 1 rfl) ?_
  refine va_get (D := (dC, dI)) (ci := 11) (v := .ref g0) (C := RX11) (T := TX11) (N := 8) hx hb hts hi11 hown hK hP 0 rfl rfl 0 (by decide) (hts (.fieldLink RX11 10 "HeightFine" "told" "LHeightFine$Told;") (by decide +kernel)) (fun _ h9 => h9) rfl dX11_stop_10 ?_
  refine lv_iload_n hx hb dX11_stop_13 rfl (lv_at hl 3 rfl) ?_
  have hPc := hP.sub (ws' := [(g0, .inr (8, [.ref t0, .ref t1, .ref t2, .ref t3, .ref t4, .ref t5, .int x6, .int x7, .int x8])), (t1, .inl (k 0, 4, .inl (fun _ => 0)))]) [1, 2] rfl
  refine va_csq (W.runV (As := [.int p1]) (rest := []) ⟨hx, hb, hml, hown, hts⟩ (c_yearAt l dC dI k g0 t0 t1 t2 t3 t4 t5 x6 x7 x8 p1) (cwV 1 hts gc_stop_c_yearAt rfl rfl rfl (by decide +kernel) ⟨Nat.le_of_ble_eq_true rfl, Nat.le_of_ble_eq_true rfl⟩) ⟨prR_blind, va_recv hK hPc (ci := 8) (q0 := 0) rfl rfl, fun U hU hW => ⟨rfl, prR_go hPc hK hU hW⟩⟩ rfl rfl hl.1 rfl (lv_room (Nat.le_of_ble_eq_true rfl)) dX11_stop_14 ⟨by decide +kernel, by decide +kernel⟩) (fun r_2 er_2 => ?_)
  subst er_2
  refine W.eq (g2 := F0 m 17 ls [.null]) rfl ?_
  refine lv_astoreN (lv' := [(4, .null), (3, .null), (0, .ref h), (1, .int p0), (2, .int p1)]) hx hb dX11_stop_17 hl (by decide) rfl (fun ls hl => ?_)
  refine lv_aload_nN hx hb dX11_stop_19 rfl (lv_at hl 1 rfl) ?_
  refine lv_ifnullN (tgt := 28) hx hb dX11_stop_20 (by decide) ?_
  refine lv_iconst (v := (-1)) hx hb dX11_stop_28 (by decide) ?_
  exact W.iret (v := (-1)) hx hb hr (fun t ht hW => ⟨(-1), rfl, rfl, ht⟩) (fun q h => absurd h List.not_mem_nil) dX11_stop_29

def ws_c_reached : List Cond := .code yX11_reached cX11_reached 6 (some .int) :: ([.fieldLink RX11 10 "HeightFine" "told" "LHeightFine$Told;", .methodLink RX11 94 yX8_boroughAt, .instanceMethod yX8_boroughAt, .selects RX8 yX8_boroughAt yX8_boroughAt, .initialized RX8, .code yX8_boroughAt cX8_boroughAt 2 (some (.object "HeightFine$Borough")), .methodLink RX8 76 yX8_holds, .instanceMethod yX8_holds, .selects RX8 yX8_holds yX8_holds, .code yX8_holds cX8_holds 3 (some .boolean), .fieldLink RX8 15 "HeightFine$Told" "counts" "[I"] ++ u_ws RX8 TX8 9 ++ u_ws RX11 TX11 8)
set_option maxRecDepth 20000 in
theorem in_c_reached_8 : ∀ w ∈ u_ws RX8 TX8 9, w ∈ ws_c_reached := by decide +kernel
set_option maxRecDepth 20000 in
theorem in_c_reached_11 : ∀ w ∈ u_ws RX11 TX11 8, w ∈ ws_c_reached := by decide +kernel
set_option maxRecDepth 20000 in
theorem gc_reached_c_boroughAt : GoodIn ws_c_reached (wsV RX11 94 RX8 yX8_boroughAt ws_c_boroughAt) := goodIn_app (goodIn_of _ (by decide +kernel)) (goodIn_r _ [6, 7, 8, 9, 5, 10, 11, 12, 13, 14, 15, 16, 17, 18, 19, 20] (by decide +kernel) (by decide +kernel))
set_option maxHeartbeats 4000000 in
set_option maxRecDepth 100000 in
theorem c_reached (l : Launch) (dC : Nat → ClassId) (dI : Nat → Nat → Nat) (k : Nat → ClassId) (h : Nat) (g0 : Nat) (g1 : Nat) (g2 : Nat) (g3 : Nat) (g4 : Nat) (g5 : Nat) (g6 : Nat) (g7 : Nat) (t0 : Nat) (t1 : Nat) (t2 : Nat) (t3 : Nat) (t4 : Nat) (t5 : Nat) (x6 : Int32) (x7 : Int32) (x8 : Int32) (p0 : Int32) (p1 : Int32) (p2 : Int32) : Met l yX11_reached ws_c_reached ({ frames := 2, cells := 0, slots := 0, locals := 43 }) (va_Pc [.ref h, .int p0, .int p1, .int p2] (prR dC dI k [(h, .inr (11, [.ref g0, .ref g1, .ref g2, .ref g3, .ref g4, .ref g5, .ref g6, .ref g7])), (g0, .inr (8, [.ref t0, .ref t1, .ref t2, .ref t3, .ref t4, .ref t5, .int x6, .int x7, .int x8])), (t1, .inl (k 0, 4, .inl (fun _ => 0)))])) (vp_Si (fun r => r = (-1))) 0 0 (fun _ => False) := by
  refine Met.ofW (cc := cX11_reached) (maxL := 6) (ret := (some .int)) (by decide) rfl ?_
  intro p e s m args below meth c s₁ B hml hv
  obtain ⟨rfl, hP, hK⟩ := hv
  have hx := B.exec
  have hb := B.bytes
  have hr := B.returns
  have hts := atoms_spec (ws := ws_c_reached) B.pre
  have hown : s.vm.findClass RX11 = some m.cls := findClass_of_methodNamed B.named
  have hi8 := in_c_reached_8
  have hi11 := in_c_reached_11
  have hP : va_P (dC, dI) vwCl [(h, .inr (11, [.ref g0, .ref g1, .ref g2, .ref g3, .ref g4, .ref g5, .ref g6, .ref g7])), (g0, .inr (8, [.ref t0, .ref t1, .ref t2, .ref t3, .ref t4, .ref t5, .int x6, .int x7, .int x8])), (t1, .inl (k 0, 4, .inl (fun _ => 0)))] s.heap := hP
  have hl := lv_entry ([.ref h, .int p0, .int p1, .int p2]) (n := 6) (Nat.le_of_ble_eq_true rfl)
  rw [lg_entry_eq]
  generalize (lg_sl ([.ref h, .int p0, .int p1, .int p2]) ++ List.replicate (6 - (lg_sl ([.ref h, .int p0, .int p1, .int p2])).length) Slot.unset).toArray = ls at hl ⊢
  have hl : lv_has ls 6 [(0, .ref h), (1, .int p0), (2, .int p1), (3, .int p2)] := hl
  refine lv_aload_n hx hb dX11_reached_0 rfl (lv_at hl 0 rfl) ?_
  refine va_get (D := (dC, dI)) (ci := 11) (v := .ref g0) (C := RX11) (T := TX11) (N := 8) hx hb hts hi11 hown hK hP 0 rfl rfl 0 (by decide) (hts (.fieldLink RX11 10 "HeightFine" "told" "LHeightFine$Told;") (by decide +kernel)) (fun _ h9 => h9) rfl dX11_reached_1 ?_
  refine lv_iload_n hx hb dX11_reached_4 rfl (lv_at hl 1 rfl) ?_
  have hPc := hP.sub (ws' := [(g0, .inr (8, [.ref t0, .ref t1, .ref t2, .ref t3, .ref t4, .ref t5, .int x6, .int x7, .int x8])), (t1, .inl (k 0, 4, .inl (fun _ => 0)))]) [1, 2] rfl
  refine va_csq (W.runV (As := [.int p0]) (rest := []) ⟨hx, hb, hml, hown, hts⟩ (c_boroughAt l dC dI k g0 t0 t1 t2 t3 t4 t5 x6 x7 x8 p0) (cwV 1 hts gc_reached_c_boroughAt rfl rfl rfl (by decide +kernel) ⟨Nat.le_of_ble_eq_true rfl, Nat.le_of_ble_eq_true rfl⟩) ⟨prR_blind, va_recv hK hPc (ci := 8) (q0 := 0) rfl rfl, fun U hU hW => ⟨rfl, prR_go hPc hK hU hW⟩⟩ rfl rfl hl.1 rfl (lv_room (Nat.le_of_ble_eq_true rfl)) dX11_reached_5 ⟨by decide +kernel, by decide +kernel⟩) (fun r_1 er_1 => ?_)
  subst er_1
  refine W.eq (g2 := F0 m 8 ls [.null]) rfl ?_
  refine lv_astoreN (lv' := [(4, .null), (0, .ref h), (1, .int p0), (2, .int p1), (3, .int p2)]) hx hb dX11_reached_8 hl (by decide) rfl (fun ls hl => ?_)
  refine lv_aloadN hx hb dX11_reached_10 (lv_at hl 0 rfl) ?_
  refine lv_ifnullN (tgt := 25) hx hb dX11_reached_12 (by decide) ?_
  refine lv_iconst (v := (-1)) hx hb dX11_reached_25 (by decide) ?_
  exact W.iret (v := (-1)) hx hb hr (fun t ht hW => ⟨(-1), rfl, rfl, ht⟩) (fun q h => absurd h List.not_mem_nil) dX11_reached_26

def ws_c_cut : List Cond := .code yX11_cut cX11_cut 6 (some .int) :: ([.fieldLink RX11 10 "HeightFine" "told" "LHeightFine$Told;", .methodLink RX11 94 yX8_boroughAt, .instanceMethod yX8_boroughAt, .selects RX8 yX8_boroughAt yX8_boroughAt, .initialized RX8, .code yX8_boroughAt cX8_boroughAt 2 (some (.object "HeightFine$Borough")), .methodLink RX8 76 yX8_holds, .instanceMethod yX8_holds, .selects RX8 yX8_holds yX8_holds, .code yX8_holds cX8_holds 3 (some .boolean), .fieldLink RX8 15 "HeightFine$Told" "counts" "[I"] ++ u_ws RX8 TX8 9 ++ u_ws RX11 TX11 8)
set_option maxRecDepth 20000 in
theorem in_c_cut_8 : ∀ w ∈ u_ws RX8 TX8 9, w ∈ ws_c_cut := by decide +kernel
set_option maxRecDepth 20000 in
theorem in_c_cut_11 : ∀ w ∈ u_ws RX11 TX11 8, w ∈ ws_c_cut := by decide +kernel
set_option maxRecDepth 20000 in
theorem gc_cut_c_boroughAt : GoodIn ws_c_cut (wsV RX11 94 RX8 yX8_boroughAt ws_c_boroughAt) := goodIn_app (goodIn_of _ (by decide +kernel)) (goodIn_r _ [6, 7, 8, 9, 5, 10, 11, 12, 13, 14, 15, 16, 17, 18, 19, 20] (by decide +kernel) (by decide +kernel))
set_option maxHeartbeats 4000000 in
set_option maxRecDepth 100000 in
theorem c_cut (l : Launch) (dC : Nat → ClassId) (dI : Nat → Nat → Nat) (k : Nat → ClassId) (h : Nat) (g0 : Nat) (g1 : Nat) (g2 : Nat) (g3 : Nat) (g4 : Nat) (g5 : Nat) (g6 : Nat) (g7 : Nat) (t0 : Nat) (t1 : Nat) (t2 : Nat) (t3 : Nat) (t4 : Nat) (t5 : Nat) (x6 : Int32) (x7 : Int32) (x8 : Int32) (p0 : Int32) (p1 : Int32) (p2 : Int32) : Met l yX11_cut ws_c_cut ({ frames := 2, cells := 0, slots := 0, locals := 43 }) (va_Pc [.ref h, .int p0, .int p1, .int p2] (prR dC dI k [(h, .inr (11, [.ref g0, .ref g1, .ref g2, .ref g3, .ref g4, .ref g5, .ref g6, .ref g7])), (g0, .inr (8, [.ref t0, .ref t1, .ref t2, .ref t3, .ref t4, .ref t5, .int x6, .int x7, .int x8])), (t1, .inl (k 0, 4, .inl (fun _ => 0)))])) (vp_Si (fun r => r = (-1))) 0 0 (fun _ => False) := by
  refine Met.ofW (cc := cX11_cut) (maxL := 6) (ret := (some .int)) (by decide) rfl ?_
  intro p e s m args below meth c s₁ B hml hv
  obtain ⟨rfl, hP, hK⟩ := hv
  have hx := B.exec
  have hb := B.bytes
  have hr := B.returns
  have hts := atoms_spec (ws := ws_c_cut) B.pre
  have hown : s.vm.findClass RX11 = some m.cls := findClass_of_methodNamed B.named
  have hi8 := in_c_cut_8
  have hi11 := in_c_cut_11
  have hP : va_P (dC, dI) vwCl [(h, .inr (11, [.ref g0, .ref g1, .ref g2, .ref g3, .ref g4, .ref g5, .ref g6, .ref g7])), (g0, .inr (8, [.ref t0, .ref t1, .ref t2, .ref t3, .ref t4, .ref t5, .int x6, .int x7, .int x8])), (t1, .inl (k 0, 4, .inl (fun _ => 0)))] s.heap := hP
  have hl := lv_entry ([.ref h, .int p0, .int p1, .int p2]) (n := 6) (Nat.le_of_ble_eq_true rfl)
  rw [lg_entry_eq]
  generalize (lg_sl ([.ref h, .int p0, .int p1, .int p2]) ++ List.replicate (6 - (lg_sl ([.ref h, .int p0, .int p1, .int p2])).length) Slot.unset).toArray = ls at hl ⊢
  have hl : lv_has ls 6 [(0, .ref h), (1, .int p0), (2, .int p1), (3, .int p2)] := hl
  refine lv_aload_n hx hb dX11_cut_0 rfl (lv_at hl 0 rfl) ?_
  refine va_get (D := (dC, dI)) (ci := 11) (v := .ref g0) (C := RX11) (T := TX11) (N := 8) hx hb hts hi11 hown hK hP 0 rfl rfl 0 (by decide) (hts (.fieldLink RX11 10 "HeightFine" "told" "LHeightFine$Told;") (by decide +kernel)) (fun _ h9 => h9) rfl dX11_cut_1 ?_
  refine lv_iload_n hx hb dX11_cut_4 rfl (lv_at hl 1 rfl) ?_
  have hPc := hP.sub (ws' := [(g0, .inr (8, [.ref t0, .ref t1, .ref t2, .ref t3, .ref t4, .ref t5, .int x6, .int x7, .int x8])), (t1, .inl (k 0, 4, .inl (fun _ => 0)))]) [1, 2] rfl
  refine va_csq (W.runV (As := [.int p0]) (rest := []) ⟨hx, hb, hml, hown, hts⟩ (c_boroughAt l dC dI k g0 t0 t1 t2 t3 t4 t5 x6 x7 x8 p0) (cwV 1 hts gc_cut_c_boroughAt rfl rfl rfl (by decide +kernel) ⟨Nat.le_of_ble_eq_true rfl, Nat.le_of_ble_eq_true rfl⟩) ⟨prR_blind, va_recv hK hPc (ci := 8) (q0 := 0) rfl rfl, fun U hU hW => ⟨rfl, prR_go hPc hK hU hW⟩⟩ rfl rfl hl.1 rfl (lv_room (Nat.le_of_ble_eq_true rfl)) dX11_cut_5 ⟨by decide +kernel, by decide +kernel⟩) (fun r_1 er_1 => ?_)
  subst er_1
  refine W.eq (g2 := F0 m 8 ls [.null]) rfl ?_
  refine lv_astoreN (lv' := [(4, .null), (0, .ref h), (1, .int p0), (2, .int p1), (3, .int p2)]) hx hb dX11_cut_8 hl (by decide) rfl (fun ls hl => ?_)
  refine lv_aloadN hx hb dX11_cut_10 (lv_at hl 0 rfl) ?_
  refine lv_ifnullN (tgt := 25) hx hb dX11_cut_12 (by decide) ?_
  refine lv_iconst (v := (-1)) hx hb dX11_cut_25 (by decide) ?_
  exact W.iret (v := (-1)) hx hb hr (fun t ht hW => ⟨(-1), rfl, rfl, ht⟩) (fun q h => absurd h List.not_mem_nil) dX11_cut_26

def ws_c_love : List Cond := .code yX11_love cX11_love 5 (some .int) :: ([.fieldLink RX11 10 "HeightFine" "told" "LHeightFine$Told;", .methodLink RX11 94 yX8_boroughAt, .instanceMethod yX8_boroughAt, .selects RX8 yX8_boroughAt yX8_boroughAt, .initialized RX8, .code yX8_boroughAt cX8_boroughAt 2 (some (.object "HeightFine$Borough")), .methodLink RX8 76 yX8_holds, .instanceMethod yX8_holds, .selects RX8 yX8_holds yX8_holds, .code yX8_holds cX8_holds 3 (some .boolean), .fieldLink RX8 15 "HeightFine$Told" "counts" "[I"] ++ u_ws RX8 TX8 9 ++ u_ws RX11 TX11 8)
set_option maxRecDepth 20000 in
theorem in_c_love_8 : ∀ w ∈ u_ws RX8 TX8 9, w ∈ ws_c_love := by decide +kernel
set_option maxRecDepth 20000 in
theorem in_c_love_11 : ∀ w ∈ u_ws RX11 TX11 8, w ∈ ws_c_love := by decide +kernel
set_option maxRecDepth 20000 in
theorem gc_love_c_boroughAt : GoodIn ws_c_love (wsV RX11 94 RX8 yX8_boroughAt ws_c_boroughAt) := goodIn_app (goodIn_of _ (by decide +kernel)) (goodIn_r _ [6, 7, 8, 9, 5, 10, 11, 12, 13, 14, 15, 16, 17, 18, 19, 20] (by decide +kernel) (by decide +kernel))
set_option maxHeartbeats 4000000 in
set_option maxRecDepth 100000 in
theorem c_love (l : Launch) (dC : Nat → ClassId) (dI : Nat → Nat → Nat) (k : Nat → ClassId) (h : Nat) (g0 : Nat) (g1 : Nat) (g2 : Nat) (g3 : Nat) (g4 : Nat) (g5 : Nat) (g6 : Nat) (g7 : Nat) (t0 : Nat) (t1 : Nat) (t2 : Nat) (t3 : Nat) (t4 : Nat) (t5 : Nat) (x6 : Int32) (x7 : Int32) (x8 : Int32) (p0 : Int32) (p1 : Int32) (p2 : Int32) : Met l yX11_love ws_c_love ({ frames := 2, cells := 0, slots := 0, locals := 43 }) (va_Pc [.ref h, .int p0, .int p1, .int p2] (prR dC dI k [(h, .inr (11, [.ref g0, .ref g1, .ref g2, .ref g3, .ref g4, .ref g5, .ref g6, .ref g7])), (g0, .inr (8, [.ref t0, .ref t1, .ref t2, .ref t3, .ref t4, .ref t5, .int x6, .int x7, .int x8])), (t1, .inl (k 0, 4, .inl (fun _ => 0)))])) (vp_Si (fun r => r = (-1))) 0 0 (fun _ => False) := by
  refine Met.ofW (cc := cX11_love) (maxL := 5) (ret := (some .int)) (by decide) rfl ?_
  intro p e s m args below meth c s₁ B hml hv
  obtain ⟨rfl, hP, hK⟩ := hv
  have hx := B.exec
  have hb := B.bytes
  have hr := B.returns
  have hts := atoms_spec (ws := ws_c_love) B.pre
  have hown : s.vm.findClass RX11 = some m.cls := findClass_of_methodNamed B.named
  have hi8 := in_c_love_8
  have hi11 := in_c_love_11
  have hP : va_P (dC, dI) vwCl [(h, .inr (11, [.ref g0, .ref g1, .ref g2, .ref g3, .ref g4, .ref g5, .ref g6, .ref g7])), (g0, .inr (8, [.ref t0, .ref t1, .ref t2, .ref t3, .ref t4, .ref t5, .int x6, .int x7, .int x8])), (t1, .inl (k 0, 4, .inl (fun _ => 0)))] s.heap := hP
  have hl := lv_entry ([.ref h, .int p0, .int p1, .int p2]) (n := 5) (Nat.le_of_ble_eq_true rfl)
  rw [lg_entry_eq]
  generalize (lg_sl ([.ref h, .int p0, .int p1, .int p2]) ++ List.replicate (5 - (lg_sl ([.ref h, .int p0, .int p1, .int p2])).length) Slot.unset).toArray = ls at hl ⊢
  have hl : lv_has ls 5 [(0, .ref h), (1, .int p0), (2, .int p1), (3, .int p2)] := hl
  refine lv_aload_n hx hb dX11_love_0 rfl (lv_at hl 0 rfl) ?_
  refine va_get (D := (dC, dI)) (ci := 11) (v := .ref g0) (C := RX11) (T := TX11) (N := 8) hx hb hts hi11 hown hK hP 0 rfl rfl 0 (by decide) (hts (.fieldLink RX11 10 "HeightFine" "told" "LHeightFine$Told;") (by decide +kernel)) (fun _ h9 => h9) rfl dX11_love_1 ?_
  refine lv_iload_n hx hb dX11_love_4 rfl (lv_at hl 1 rfl) ?_
  have hPc := hP.sub (ws' := [(g0, .inr (8, [.ref t0, .ref t1, .ref t2, .ref t3, .ref t4, .ref t5, .int x6, .int x7, .int x8])), (t1, .inl (k 0, 4, .inl (fun _ => 0)))]) [1, 2] rfl
  refine va_csq (W.runV (As := [.int p0]) (rest := []) ⟨hx, hb, hml, hown, hts⟩ (c_boroughAt l dC dI k g0 t0 t1 t2 t3 t4 t5 x6 x7 x8 p0) (cwV 1 hts gc_love_c_boroughAt rfl rfl rfl (by decide +kernel) ⟨Nat.le_of_ble_eq_true rfl, Nat.le_of_ble_eq_true rfl⟩) ⟨prR_blind, va_recv hK hPc (ci := 8) (q0 := 0) rfl rfl, fun U hU hW => ⟨rfl, prR_go hPc hK hU hW⟩⟩ rfl rfl hl.1 rfl (lv_room (Nat.le_of_ble_eq_true rfl)) dX11_love_5 ⟨by decide +kernel, by decide +kernel⟩) (fun r_1 er_1 => ?_)
  subst er_1
  refine W.eq (g2 := F0 m 8 ls [.null]) rfl ?_
  refine lv_astoreN (lv' := [(4, .null), (0, .ref h), (1, .int p0), (2, .int p1), (3, .int p2)]) hx hb dX11_love_8 hl (by decide) rfl (fun ls hl => ?_)
  refine lv_aloadN hx hb dX11_love_10 (lv_at hl 0 rfl) ?_
  refine lv_ifnullN (tgt := 25) hx hb dX11_love_12 (by decide) ?_
  refine lv_iconst (v := (-1)) hx hb dX11_love_25 (by decide) ?_
  exact W.iret (v := (-1)) hx hb hr (fun t ht hW => ⟨(-1), rfl, rfl, ht⟩) (fun q h => absurd h List.not_mem_nil) dX11_love_26

def ws_c_dares : List Cond := .code yX11_dares cX11_dares 6 (some .int) :: ([.fieldLink RX11 10 "HeightFine" "told" "LHeightFine$Told;", .methodLink RX11 94 yX8_boroughAt, .instanceMethod yX8_boroughAt, .selects RX8 yX8_boroughAt yX8_boroughAt, .initialized RX8, .code yX8_boroughAt cX8_boroughAt 2 (some (.object "HeightFine$Borough")), .methodLink RX8 76 yX8_holds, .instanceMethod yX8_holds, .selects RX8 yX8_holds yX8_holds, .code yX8_holds cX8_holds 3 (some .boolean), .fieldLink RX8 15 "HeightFine$Told" "counts" "[I"] ++ u_ws RX8 TX8 9 ++ u_ws RX11 TX11 8)
set_option maxRecDepth 20000 in
theorem in_c_dares_8 : ∀ w ∈ u_ws RX8 TX8 9, w ∈ ws_c_dares := by decide +kernel
set_option maxRecDepth 20000 in
theorem in_c_dares_11 : ∀ w ∈ u_ws RX11 TX11 8, w ∈ ws_c_dares := by decide +kernel
set_option maxRecDepth 20000 in
theorem gc_dares_c_boroughAt : GoodIn ws_c_dares (wsV RX11 94 RX8 yX8_boroughAt ws_c_boroughAt) := goodIn_app (goodIn_of _ (by decide +kernel)) (goodIn_r _ [6, 7, 8, 9, 5, 10, 11, 12, 13, 14, 15, 16, 17, 18, 19, 20] (by decide +kernel) (by decide +kernel))
set_option maxHeartbeats 4000000 in
set_option maxRecDepth 100000 in
theorem c_dares (l : Launch) (dC : Nat → ClassId) (dI : Nat → Nat → Nat) (k : Nat → ClassId) (h : Nat) (g0 : Nat) (g1 : Nat) (g2 : Nat) (g3 : Nat) (g4 : Nat) (g5 : Nat) (g6 : Nat) (g7 : Nat) (t0 : Nat) (t1 : Nat) (t2 : Nat) (t3 : Nat) (t4 : Nat) (t5 : Nat) (x6 : Int32) (x7 : Int32) (x8 : Int32) (p0 : Int32) (p1 : Int32) (p2 : Int32) (p3 : Int32) : Met l yX11_dares ws_c_dares ({ frames := 2, cells := 0, slots := 0, locals := 43 }) (va_Pc [.ref h, .int p0, .int p1, .int p2, .int p3] (prR dC dI k [(h, .inr (11, [.ref g0, .ref g1, .ref g2, .ref g3, .ref g4, .ref g5, .ref g6, .ref g7])), (g0, .inr (8, [.ref t0, .ref t1, .ref t2, .ref t3, .ref t4, .ref t5, .int x6, .int x7, .int x8])), (t1, .inl (k 0, 4, .inl (fun _ => 0)))])) (vp_Si (fun r => r = (-2))) 0 0 (fun _ => False) := by
  refine Met.ofW (cc := cX11_dares) (maxL := 6) (ret := (some .int)) (by decide) rfl ?_
  intro p e s m args below meth c s₁ B hml hv
  obtain ⟨rfl, hP, hK⟩ := hv
  have hx := B.exec
  have hb := B.bytes
  have hr := B.returns
  have hts := atoms_spec (ws := ws_c_dares) B.pre
  have hown : s.vm.findClass RX11 = some m.cls := findClass_of_methodNamed B.named
  have hi8 := in_c_dares_8
  have hi11 := in_c_dares_11
  have hP : va_P (dC, dI) vwCl [(h, .inr (11, [.ref g0, .ref g1, .ref g2, .ref g3, .ref g4, .ref g5, .ref g6, .ref g7])), (g0, .inr (8, [.ref t0, .ref t1, .ref t2, .ref t3, .ref t4, .ref t5, .int x6, .int x7, .int x8])), (t1, .inl (k 0, 4, .inl (fun _ => 0)))] s.heap := hP
  have hl := lv_entry ([.ref h, .int p0, .int p1, .int p2, .int p3]) (n := 6) (Nat.le_of_ble_eq_true rfl)
  rw [lg_entry_eq]
  generalize (lg_sl ([.ref h, .int p0, .int p1, .int p2, .int p3]) ++ List.replicate (6 - (lg_sl ([.ref h, .int p0, .int p1, .int p2, .int p3])).length) Slot.unset).toArray = ls at hl ⊢
  have hl : lv_has ls 6 [(0, .ref h), (1, .int p0), (2, .int p1), (3, .int p2), (4, .int p3)] := hl
  refine lv_aload_n hx hb dX11_dares_0 rfl (lv_at hl 0 rfl) ?_
  refine va_get (D := (dC, dI)) (ci := 11) (v := .ref g0) (C := RX11) (T := TX11) (N := 8) hx hb hts hi11 hown hK hP 0 rfl rfl 0 (by decide) (hts (.fieldLink RX11 10 "HeightFine" "told" "LHeightFine$Told;") (by decide +kernel)) (fun _ h9 => h9) rfl dX11_dares_1 ?_
  refine lv_iload_n hx hb dX11_dares_4 rfl (lv_at hl 1 rfl) ?_
  have hPc := hP.sub (ws' := [(g0, .inr (8, [.ref t0, .ref t1, .ref t2, .ref t3, .ref t4, .ref t5, .int x6, .int x7, .int x8])), (t1, .inl (k 0, 4, .inl (fun _ => 0)))]) [1, 2] rfl
  refine va_csq (W.runV (As := [.int p0]) (rest := []) ⟨hx, hb, hml, hown, hts⟩ (c_boroughAt l dC dI k g0 t0 t1 t2 t3 t4 t5 x6 x7 x8 p0) (cwV 1 hts gc_dares_c_boroughAt rfl rfl rfl (by decide +kernel) ⟨Nat.le_of_ble_eq_true rfl, Nat.le_of_ble_eq_true rfl⟩) ⟨prR_blind, va_recv hK hPc (ci := 8) (q0 := 0) rfl rfl, fun U hU hW => ⟨rfl, prR_go hPc hK hU hW⟩⟩ rfl rfl hl.1 rfl (lv_room (Nat.le_of_ble_eq_true rfl)) dX11_dares_5 ⟨by decide +kernel, by decide +kernel⟩) (fun r_1 er_1 => ?_)
  subst er_1
  refine W.eq (g2 := F0 m 8 ls [.null]) rfl ?_
  refine lv_astoreN (lv' := [(5, .null), (0, .ref h), (1, .int p0), (2, .int p1), (3, .int p2), (4, .int p3)]) hx hb dX11_dares_8 hl (by decide) rfl (fun ls hl => ?_)
  refine lv_aloadN hx hb dX11_dares_10 (lv_at hl 0 rfl) ?_
  refine lv_ifnullN (tgt := 24) hx hb dX11_dares_12 (by decide) ?_
  refine lv_bipush (v := (-2)) hx hb dX11_dares_24 (by decide) ?_
  exact W.iret (v := (-2)) hx hb hr (fun t ht hW => ⟨(-2), rfl, rfl, ht⟩) (fun q h => absurd h List.not_mem_nil) dX11_dares_26

def ws_c_share : List Cond := .code yX11_share cX11_share 6 (some .int) :: ([.fieldLink RX11 10 "HeightFine" "told" "LHeightFine$Told;", .methodLink RX11 94 yX8_boroughAt, .instanceMethod yX8_boroughAt, .selects RX8 yX8_boroughAt yX8_boroughAt, .initialized RX8, .code yX8_boroughAt cX8_boroughAt 2 (some (.object "HeightFine$Borough")), .methodLink RX8 76 yX8_holds, .instanceMethod yX8_holds, .selects RX8 yX8_holds yX8_holds, .code yX8_holds cX8_holds 3 (some .boolean), .fieldLink RX8 15 "HeightFine$Told" "counts" "[I"] ++ u_ws RX8 TX8 9 ++ u_ws RX11 TX11 8)
set_option maxRecDepth 20000 in
theorem in_c_share_8 : ∀ w ∈ u_ws RX8 TX8 9, w ∈ ws_c_share := by decide +kernel
set_option maxRecDepth 20000 in
theorem in_c_share_11 : ∀ w ∈ u_ws RX11 TX11 8, w ∈ ws_c_share := by decide +kernel
set_option maxRecDepth 20000 in
theorem gc_share_c_boroughAt : GoodIn ws_c_share (wsV RX11 94 RX8 yX8_boroughAt ws_c_boroughAt) := goodIn_app (goodIn_of _ (by decide +kernel)) (goodIn_r _ [6, 7, 8, 9, 5, 10, 11, 12, 13, 14, 15, 16, 17, 18, 19, 20] (by decide +kernel) (by decide +kernel))
set_option maxHeartbeats 4000000 in
set_option maxRecDepth 100000 in
theorem c_share (l : Launch) (dC : Nat → ClassId) (dI : Nat → Nat → Nat) (k : Nat → ClassId) (h : Nat) (g0 : Nat) (g1 : Nat) (g2 : Nat) (g3 : Nat) (g4 : Nat) (g5 : Nat) (g6 : Nat) (g7 : Nat) (t0 : Nat) (t1 : Nat) (t2 : Nat) (t3 : Nat) (t4 : Nat) (t5 : Nat) (x6 : Int32) (x7 : Int32) (x8 : Int32) (p0 : Int32) (p1 : Int32) (p2 : Int32) (p3 : Int32) : Met l yX11_share ws_c_share ({ frames := 2, cells := 0, slots := 0, locals := 43 }) (va_Pc [.ref h, .int p0, .int p1, .int p2, .int p3] (prR dC dI k [(h, .inr (11, [.ref g0, .ref g1, .ref g2, .ref g3, .ref g4, .ref g5, .ref g6, .ref g7])), (g0, .inr (8, [.ref t0, .ref t1, .ref t2, .ref t3, .ref t4, .ref t5, .int x6, .int x7, .int x8])), (t1, .inl (k 0, 4, .inl (fun _ => 0)))])) (vp_Si (fun r => r = (-1))) 0 0 (fun _ => False) := by
  refine Met.ofW (cc := cX11_share) (maxL := 6) (ret := (some .int)) (by decide) rfl ?_
  intro p e s m args below meth c s₁ B hml hv
  obtain ⟨rfl, hP, hK⟩ := hv
  have hx := B.exec
  have hb := B.bytes
  have hr := B.returns
  have hts := atoms_spec (ws := ws_c_share) B.pre
  have hown : s.vm.findClass RX11 = some m.cls := findClass_of_methodNamed B.named
  have hi8 := in_c_share_8
  have hi11 := in_c_share_11
  have hP : va_P (dC, dI) vwCl [(h, .inr (11, [.ref g0, .ref g1, .ref g2, .ref g3, .ref g4, .ref g5, .ref g6, .ref g7])), (g0, .inr (8, [.ref t0, .ref t1, .ref t2, .ref t3, .ref t4, .ref t5, .int x6, .int x7, .int x8])), (t1, .inl (k 0, 4, .inl (fun _ => 0)))] s.heap := hP
  have hl := lv_entry ([.ref h, .int p0, .int p1, .int p2, .int p3]) (n := 6) (Nat.le_of_ble_eq_true rfl)
  rw [lg_entry_eq]
  generalize (lg_sl ([.ref h, .int p0, .int p1, .int p2, .int p3]) ++ List.replicate (6 - (lg_sl ([.ref h, .int p0, .int p1, .int p2, .int p3])).length) Slot.unset).toArray = ls at hl ⊢
  have hl : lv_has ls 6 [(0, .ref h), (1, .int p0), (2, .int p1), (3, .int p2), (4, .int p3)] := hl
  refine lv_aload_n hx hb dX11_share_0 rfl (lv_at hl 0 rfl) ?_
  refine va_get (D := (dC, dI)) (ci := 11) (v := .ref g0) (C := RX11) (T := TX11) (N := 8) hx hb hts hi11 hown hK hP 0 rfl rfl 0 (by decide) (hts (.fieldLink RX11 10 "HeightFine" "told" "LHeightFine$Told;") (by decide +kernel)) (fun _ h9 => h9) rfl dX11_share_1 ?_
  refine lv_iload_n hx hb dX11_share_4 rfl (lv_at hl 1 rfl) ?_
  have hPc := hP.sub (ws' := [(g0, .inr (8, [.ref t0, .ref t1, .ref t2, .ref t3, .ref t4, .ref t5, .int x6, .int x7, .int x8])), (t1, .inl (k 0, 4, .inl (fun _ => 0)))]) [1, 2] rfl
  refine va_csq (W.runV (As := [.int p0]) (rest := []) ⟨hx, hb, hml, hown, hts⟩ (c_boroughAt l dC dI k g0 t0 t1 t2 t3 t4 t5 x6 x7 x8 p0) (cwV 1 hts gc_share_c_boroughAt rfl rfl rfl (by decide +kernel) ⟨Nat.le_of_ble_eq_true rfl, Nat.le_of_ble_eq_true rfl⟩) ⟨prR_blind, va_recv hK hPc (ci := 8) (q0 := 0) rfl rfl, fun U hU hW => ⟨rfl, prR_go hPc hK hU hW⟩⟩ rfl rfl hl.1 rfl (lv_room (Nat.le_of_ble_eq_true rfl)) dX11_share_5 ⟨by decide +kernel, by decide +kernel⟩) (fun r_1 er_1 => ?_)
  subst er_1
  refine W.eq (g2 := F0 m 8 ls [.null]) rfl ?_
  refine lv_astoreN (lv' := [(5, .null), (0, .ref h), (1, .int p0), (2, .int p1), (3, .int p2), (4, .int p3)]) hx hb dX11_share_8 hl (by decide) rfl (fun ls hl => ?_)
  refine lv_aloadN hx hb dX11_share_10 (lv_at hl 0 rfl) ?_
  refine lv_ifnullN (tgt := 35) hx hb dX11_share_12 (by decide) ?_
  refine lv_iconst (v := (-1)) hx hb dX11_share_35 (by decide) ?_
  exact W.iret (v := (-1)) hx hb hr (fun t ht hW => ⟨(-1), rfl, rfl, ht⟩) (fun q h => absurd h List.not_mem_nil) dX11_share_36

def ws_c_elder : List Cond := .code yX11_elder cX11_elder 5 (some .int) :: ([.fieldLink RX11 10 "HeightFine" "told" "LHeightFine$Told;", .methodLink RX11 94 yX8_boroughAt, .instanceMethod yX8_boroughAt, .selects RX8 yX8_boroughAt yX8_boroughAt, .initialized RX8, .code yX8_boroughAt cX8_boroughAt 2 (some (.object "HeightFine$Borough")), .methodLink RX8 76 yX8_holds, .instanceMethod yX8_holds, .selects RX8 yX8_holds yX8_holds, .code yX8_holds cX8_holds 3 (some .boolean), .fieldLink RX8 15 "HeightFine$Told" "counts" "[I"] ++ u_ws RX8 TX8 9 ++ u_ws RX11 TX11 8)
set_option maxRecDepth 20000 in
theorem in_c_elder_8 : ∀ w ∈ u_ws RX8 TX8 9, w ∈ ws_c_elder := by decide +kernel
set_option maxRecDepth 20000 in
theorem in_c_elder_11 : ∀ w ∈ u_ws RX11 TX11 8, w ∈ ws_c_elder := by decide +kernel
set_option maxRecDepth 20000 in
theorem gc_elder_c_boroughAt : GoodIn ws_c_elder (wsV RX11 94 RX8 yX8_boroughAt ws_c_boroughAt) := goodIn_app (goodIn_of _ (by decide +kernel)) (goodIn_r _ [6, 7, 8, 9, 5, 10, 11, 12, 13, 14, 15, 16, 17, 18, 19, 20] (by decide +kernel) (by decide +kernel))
set_option maxHeartbeats 4000000 in
set_option maxRecDepth 100000 in
theorem c_elder (l : Launch) (dC : Nat → ClassId) (dI : Nat → Nat → Nat) (k : Nat → ClassId) (h : Nat) (g0 : Nat) (g1 : Nat) (g2 : Nat) (g3 : Nat) (g4 : Nat) (g5 : Nat) (g6 : Nat) (g7 : Nat) (t0 : Nat) (t1 : Nat) (t2 : Nat) (t3 : Nat) (t4 : Nat) (t5 : Nat) (x6 : Int32) (x7 : Int32) (x8 : Int32) (p0 : Int32) (p1 : Int32) (p2 : Int32) : Met l yX11_elder ws_c_elder ({ frames := 2, cells := 0, slots := 0, locals := 43 }) (va_Pc [.ref h, .int p0, .int p1, .int p2] (prR dC dI k [(h, .inr (11, [.ref g0, .ref g1, .ref g2, .ref g3, .ref g4, .ref g5, .ref g6, .ref g7])), (g0, .inr (8, [.ref t0, .ref t1, .ref t2, .ref t3, .ref t4, .ref t5, .int x6, .int x7, .int x8])), (t1, .inl (k 0, 4, .inl (fun _ => 0)))])) (vp_Si (fun r => r = (-1))) 0 0 (fun _ => False) := by
  refine Met.ofW (cc := cX11_elder) (maxL := 5) (ret := (some .int)) (by decide) rfl ?_
  intro p e s m args below meth c s₁ B hml hv
  obtain ⟨rfl, hP, hK⟩ := hv
  have hx := B.exec
  have hb := B.bytes
  have hr := B.returns
  have hts := atoms_spec (ws := ws_c_elder) B.pre
  have hown : s.vm.findClass RX11 = some m.cls := findClass_of_methodNamed B.named
  have hi8 := in_c_elder_8
  have hi11 := in_c_elder_11
  have hP : va_P (dC, dI) vwCl [(h, .inr (11, [.ref g0, .ref g1, .ref g2, .ref g3, .ref g4, .ref g5, .ref g6, .ref g7])), (g0, .inr (8, [.ref t0, .ref t1, .ref t2, .ref t3, .ref t4, .ref t5, .int x6, .int x7, .int x8])), (t1, .inl (k 0, 4, .inl (fun _ => 0)))] s.heap := hP
  have hl := lv_entry ([.ref h, .int p0, .int p1, .int p2]) (n := 5) (Nat.le_of_ble_eq_true rfl)
  rw [lg_entry_eq]
  generalize (lg_sl ([.ref h, .int p0, .int p1, .int p2]) ++ List.replicate (5 - (lg_sl ([.ref h, .int p0, .int p1, .int p2])).length) Slot.unset).toArray = ls at hl ⊢
  have hl : lv_has ls 5 [(0, .ref h), (1, .int p0), (2, .int p1), (3, .int p2)] := hl
  refine lv_aload_n hx hb dX11_elder_0 rfl (lv_at hl 0 rfl) ?_
  refine va_get (D := (dC, dI)) (ci := 11) (v := .ref g0) (C := RX11) (T := TX11) (N := 8) hx hb hts hi11 hown hK hP 0 rfl rfl 0 (by decide) (hts (.fieldLink RX11 10 "HeightFine" "told" "LHeightFine$Told;") (by decide +kernel)) (fun _ h9 => h9) rfl dX11_elder_1 ?_
  refine lv_iload_n hx hb dX11_elder_4 rfl (lv_at hl 1 rfl) ?_
  have hPc := hP.sub (ws' := [(g0, .inr (8, [.ref t0, .ref t1, .ref t2, .ref t3, .ref t4, .ref t5, .int x6, .int x7, .int x8])), (t1, .inl (k 0, 4, .inl (fun _ => 0)))]) [1, 2] rfl
  refine va_csq (W.runV (As := [.int p0]) (rest := []) ⟨hx, hb, hml, hown, hts⟩ (c_boroughAt l dC dI k g0 t0 t1 t2 t3 t4 t5 x6 x7 x8 p0) (cwV 1 hts gc_elder_c_boroughAt rfl rfl rfl (by decide +kernel) ⟨Nat.le_of_ble_eq_true rfl, Nat.le_of_ble_eq_true rfl⟩) ⟨prR_blind, va_recv hK hPc (ci := 8) (q0 := 0) rfl rfl, fun U hU hW => ⟨rfl, prR_go hPc hK hU hW⟩⟩ rfl rfl hl.1 rfl (lv_room (Nat.le_of_ble_eq_true rfl)) dX11_elder_5 ⟨by decide +kernel, by decide +kernel⟩) (fun r_1 er_1 => ?_)
  subst er_1
  refine W.eq (g2 := F0 m 8 ls [.null]) rfl ?_
  refine lv_astoreN (lv' := [(4, .null), (0, .ref h), (1, .int p0), (2, .int p1), (3, .int p2)]) hx hb dX11_elder_8 hl (by decide) rfl (fun ls hl => ?_)
  refine lv_aloadN hx hb dX11_elder_10 (lv_at hl 0 rfl) ?_
  refine lv_ifnullN (tgt := 33) hx hb dX11_elder_12 (by decide) ?_
  refine lv_iconst (v := (-1)) hx hb dX11_elder_33 (by decide) ?_
  exact W.iret (v := (-1)) hx hb hr (fun t ht hW => ⟨(-1), rfl, rfl, ht⟩) (fun q h => absurd h List.not_mem_nil) dX11_elder_34

def ws_c_ledger : List Cond := .code yX11_ledger cX11_ledger 4 (some .int) :: ([.fieldLink RX11 10 "HeightFine" "told" "LHeightFine$Told;", .methodLink RX11 184 yX8_ledgerAt, .instanceMethod yX8_ledgerAt, .selects RX8 yX8_ledgerAt yX8_ledgerAt, .initialized RX8, .code yX8_ledgerAt cX8_ledgerAt 2 (some (.object "HeightFine$Ledger")), .methodLink RX8 76 yX8_holds, .instanceMethod yX8_holds, .selects RX8 yX8_holds yX8_holds, .code yX8_holds cX8_holds 3 (some .boolean), .fieldLink RX8 15 "HeightFine$Told" "counts" "[I"] ++ u_ws RX8 TX8 9 ++ u_ws RX11 TX11 8)
set_option maxRecDepth 20000 in
theorem in_c_ledger_8 : ∀ w ∈ u_ws RX8 TX8 9, w ∈ ws_c_ledger := by decide +kernel
set_option maxRecDepth 20000 in
theorem in_c_ledger_11 : ∀ w ∈ u_ws RX11 TX11 8, w ∈ ws_c_ledger := by decide +kernel
set_option maxRecDepth 20000 in
theorem gc_ledger_c_ledgerAt : GoodIn ws_c_ledger (wsV RX11 184 RX8 yX8_ledgerAt ws_c_ledgerAt) := goodIn_app (goodIn_of _ (by decide +kernel)) (goodIn_r _ [6, 7, 8, 9, 5, 10, 11, 12, 13, 14, 15, 16, 17, 18, 19, 20] (by decide +kernel) (by decide +kernel))
set_option maxHeartbeats 4000000 in
set_option maxRecDepth 100000 in
theorem c_ledger (l : Launch) (dC : Nat → ClassId) (dI : Nat → Nat → Nat) (k : Nat → ClassId) (h : Nat) (g0 : Nat) (g1 : Nat) (g2 : Nat) (g3 : Nat) (g4 : Nat) (g5 : Nat) (g6 : Nat) (g7 : Nat) (t0 : Nat) (t1 : Nat) (t2 : Nat) (t3 : Nat) (t4 : Nat) (t5 : Nat) (x6 : Int32) (x7 : Int32) (x8 : Int32) (p0 : Int32) (p1 : Int32) : Met l yX11_ledger ws_c_ledger ({ frames := 2, cells := 0, slots := 0, locals := 43 }) (va_Pc [.ref h, .int p0, .int p1] (prR dC dI k [(h, .inr (11, [.ref g0, .ref g1, .ref g2, .ref g3, .ref g4, .ref g5, .ref g6, .ref g7])), (g0, .inr (8, [.ref t0, .ref t1, .ref t2, .ref t3, .ref t4, .ref t5, .int x6, .int x7, .int x8])), (t1, .inl (k 0, 4, .inl (fun _ => 0)))])) (vp_Si (fun r => r = (-2))) 0 0 (fun _ => False) := by
  refine Met.ofW (cc := cX11_ledger) (maxL := 4) (ret := (some .int)) (by decide) rfl ?_
  intro p e s m args below meth c s₁ B hml hv
  obtain ⟨rfl, hP, hK⟩ := hv
  have hx := B.exec
  have hb := B.bytes
  have hr := B.returns
  have hts := atoms_spec (ws := ws_c_ledger) B.pre
  have hown : s.vm.findClass RX11 = some m.cls := findClass_of_methodNamed B.named
  have hi8 := in_c_ledger_8
  have hi11 := in_c_ledger_11
  have hP : va_P (dC, dI) vwCl [(h, .inr (11, [.ref g0, .ref g1, .ref g2, .ref g3, .ref g4, .ref g5, .ref g6, .ref g7])), (g0, .inr (8, [.ref t0, .ref t1, .ref t2, .ref t3, .ref t4, .ref t5, .int x6, .int x7, .int x8])), (t1, .inl (k 0, 4, .inl (fun _ => 0)))] s.heap := hP
  have hl := lv_entry ([.ref h, .int p0, .int p1]) (n := 4) (Nat.le_of_ble_eq_true rfl)
  rw [lg_entry_eq]
  generalize (lg_sl ([.ref h, .int p0, .int p1]) ++ List.replicate (4 - (lg_sl ([.ref h, .int p0, .int p1])).length) Slot.unset).toArray = ls at hl ⊢
  have hl : lv_has ls 4 [(0, .ref h), (1, .int p0), (2, .int p1)] := hl
  refine lv_aload_n hx hb dX11_ledger_0 rfl (lv_at hl 0 rfl) ?_
  refine va_get (D := (dC, dI)) (ci := 11) (v := .ref g0) (C := RX11) (T := TX11) (N := 8) hx hb hts hi11 hown hK hP 0 rfl rfl 0 (by decide) (hts (.fieldLink RX11 10 "HeightFine" "told" "LHeightFine$Told;") (by decide +kernel)) (fun _ h9 => h9) rfl dX11_ledger_1 ?_
  refine lv_iload_n hx hb dX11_ledger_4 rfl (lv_at hl 1 rfl) ?_
  have hPc := hP.sub (ws' := [(g0, .inr (8, [.ref t0, .ref t1, .ref t2, .ref t3, .ref t4, .ref t5, .int x6, .int x7, .int x8])), (t1, .inl (k 0, 4, .inl (fun _ => 0)))]) [1, 2] rfl
  refine va_csq (W.runV (As := [.int p0]) (rest := []) ⟨hx, hb, hml, hown, hts⟩ (c_ledgerAt l dC dI k g0 t0 t1 t2 t3 t4 t5 x6 x7 x8 p0) (cwV 1 hts gc_ledger_c_ledgerAt rfl rfl rfl (by decide +kernel) ⟨Nat.le_of_ble_eq_true rfl, Nat.le_of_ble_eq_true rfl⟩) ⟨prR_blind, va_recv hK hPc (ci := 8) (q0 := 0) rfl rfl, fun U hU hW => ⟨rfl, prR_go hPc hK hU hW⟩⟩ rfl rfl hl.1 rfl (lv_room (Nat.le_of_ble_eq_true rfl)) dX11_ledger_5 ⟨by decide +kernel, by decide +kernel⟩) (fun r_1 er_1 => ?_)
  subst er_1
  refine W.eq (g2 := F0 m 8 ls [.null]) rfl ?_
  refine lv_astore_nN (lv' := [(3, .null), (0, .ref h), (1, .int p0), (2, .int p1)]) hx hb dX11_ledger_8 rfl hl (by decide) rfl (fun ls hl => ?_)
  refine lv_aload_nN hx hb dX11_ledger_9 rfl (lv_at hl 0 rfl) ?_
  refine lv_ifnonnullN hx hb dX11_ledger_10 ?_
  refine lv_bipush (v := (-2)) hx hb dX11_ledger_13 (by decide) ?_
  exact W.iret (v := (-2)) hx hb hr (fun t ht hW => ⟨(-2), rfl, rfl, ht⟩) (fun q h => absurd h List.not_mem_nil) dX11_ledger_15

def ws_c_fact : List Cond := .code yX11_fact cX11_fact 5 (some .int) :: ([.fieldLink RX11 10 "HeightFine" "told" "LHeightFine$Told;", .methodLink RX11 210 yX8_sightAt, .instanceMethod yX8_sightAt, .selects RX8 yX8_sightAt yX8_sightAt, .initialized RX8, .code yX8_sightAt cX8_sightAt 2 (some (.object "HeightFine$Sight")), .methodLink RX8 76 yX8_holds, .instanceMethod yX8_holds, .selects RX8 yX8_holds yX8_holds, .code yX8_holds cX8_holds 3 (some .boolean), .fieldLink RX8 15 "HeightFine$Told" "counts" "[I"] ++ u_ws RX8 TX8 9 ++ u_ws RX11 TX11 8)
set_option maxRecDepth 20000 in
theorem in_c_fact_8 : ∀ w ∈ u_ws RX8 TX8 9, w ∈ ws_c_fact := by decide +kernel
set_option maxRecDepth 20000 in
theorem in_c_fact_11 : ∀ w ∈ u_ws RX11 TX11 8, w ∈ ws_c_fact := by decide +kernel
set_option maxRecDepth 20000 in
theorem gc_fact_c_sightAt : GoodIn ws_c_fact (wsV RX11 210 RX8 yX8_sightAt ws_c_sightAt) := goodIn_app (goodIn_of _ (by decide +kernel)) (goodIn_r _ [6, 7, 8, 9, 5, 10, 11, 12, 13, 14, 15, 16, 17, 18, 19, 20] (by decide +kernel) (by decide +kernel))
set_option maxHeartbeats 4000000 in
set_option maxRecDepth 100000 in
theorem c_fact (l : Launch) (dC : Nat → ClassId) (dI : Nat → Nat → Nat) (k : Nat → ClassId) (h : Nat) (g0 : Nat) (g1 : Nat) (g2 : Nat) (g3 : Nat) (g4 : Nat) (g5 : Nat) (g6 : Nat) (g7 : Nat) (t0 : Nat) (t1 : Nat) (t2 : Nat) (t3 : Nat) (t4 : Nat) (t5 : Nat) (x6 : Int32) (x7 : Int32) (x8 : Int32) (p0 : Int32) (p1 : Int32) (p2 : Int32) : Met l yX11_fact ws_c_fact ({ frames := 2, cells := 0, slots := 0, locals := 43 }) (va_Pc [.ref h, .int p0, .int p1, .int p2] (prR dC dI k [(h, .inr (11, [.ref g0, .ref g1, .ref g2, .ref g3, .ref g4, .ref g5, .ref g6, .ref g7])), (g0, .inr (8, [.ref t0, .ref t1, .ref t2, .ref t3, .ref t4, .ref t5, .int x6, .int x7, .int x8])), (t1, .inl (k 0, 4, .inl (fun _ => 0)))])) (vp_Si (fun r => r = (-2))) 0 0 (fun _ => False) := by
  refine Met.ofW (cc := cX11_fact) (maxL := 5) (ret := (some .int)) (by decide) rfl ?_
  intro p e s m args below meth c s₁ B hml hv
  obtain ⟨rfl, hP, hK⟩ := hv
  have hx := B.exec
  have hb := B.bytes
  have hr := B.returns
  have hts := atoms_spec (ws := ws_c_fact) B.pre
  have hown : s.vm.findClass RX11 = some m.cls := findClass_of_methodNamed B.named
  have hi8 := in_c_fact_8
  have hi11 := in_c_fact_11
  have hP : va_P (dC, dI) vwCl [(h, .inr (11, [.ref g0, .ref g1, .ref g2, .ref g3, .ref g4, .ref g5, .ref g6, .ref g7])), (g0, .inr (8, [.ref t0, .ref t1, .ref t2, .ref t3, .ref t4, .ref t5, .int x6, .int x7, .int x8])), (t1, .inl (k 0, 4, .inl (fun _ => 0)))] s.heap := hP
  have hl := lv_entry ([.ref h, .int p0, .int p1, .int p2]) (n := 5) (Nat.le_of_ble_eq_true rfl)
  rw [lg_entry_eq]
  generalize (lg_sl ([.ref h, .int p0, .int p1, .int p2]) ++ List.replicate (5 - (lg_sl ([.ref h, .int p0, .int p1, .int p2])).length) Slot.unset).toArray = ls at hl ⊢
  have hl : lv_has ls 5 [(0, .ref h), (1, .int p0), (2, .int p1), (3, .int p2)] := hl
  refine lv_aload_n hx hb dX11_fact_0 rfl (lv_at hl 0 rfl) ?_
  refine va_get (D := (dC, dI)) (ci := 11) (v := .ref g0) (C := RX11) (T := TX11) (N := 8) hx hb hts hi11 hown hK hP 0 rfl rfl 0 (by decide) (hts (.fieldLink RX11 10 "HeightFine" "told" "LHeightFine$Told;") (by decide +kernel)) (fun _ h9 => h9) rfl dX11_fact_1 ?_
  refine lv_iload_n hx hb dX11_fact_4 rfl (lv_at hl 1 rfl) ?_
  have hPc := hP.sub (ws' := [(g0, .inr (8, [.ref t0, .ref t1, .ref t2, .ref t3, .ref t4, .ref t5, .int x6, .int x7, .int x8])), (t1, .inl (k 0, 4, .inl (fun _ => 0)))]) [1, 2] rfl
  refine va_csq (W.runV (As := [.int p0]) (rest := []) ⟨hx, hb, hml, hown, hts⟩ (c_sightAt l dC dI k g0 t0 t1 t2 t3 t4 t5 x6 x7 x8 p0) (cwV 1 hts gc_fact_c_sightAt rfl rfl rfl (by decide +kernel) ⟨Nat.le_of_ble_eq_true rfl, Nat.le_of_ble_eq_true rfl⟩) ⟨prR_blind, va_recv hK hPc (ci := 8) (q0 := 0) rfl rfl, fun U hU hW => ⟨rfl, prR_go hPc hK hU hW⟩⟩ rfl rfl hl.1 rfl (lv_room (Nat.le_of_ble_eq_true rfl)) dX11_fact_5 ⟨by decide +kernel, by decide +kernel⟩) (fun r_1 er_1 => ?_)
  subst er_1
  refine W.eq (g2 := F0 m 8 ls [.null]) rfl ?_
  refine lv_astoreN (lv' := [(4, .null), (0, .ref h), (1, .int p0), (2, .int p1), (3, .int p2)]) hx hb dX11_fact_8 hl (by decide) rfl (fun ls hl => ?_)
  refine lv_aloadN hx hb dX11_fact_10 (lv_at hl 0 rfl) ?_
  refine lv_ifnonnullN hx hb dX11_fact_12 ?_
  refine lv_bipush (v := (-2)) hx hb dX11_fact_15 (by decide) ?_
  exact W.iret (v := (-2)) hx hb hr (fun t ht hW => ⟨(-2), rfl, rfl, ht⟩) (fun q h => absurd h List.not_mem_nil) dX11_fact_17

def ws_c_sure : List Cond := .code yX11_sure cX11_sure 6 (some .int) :: ([.fieldLink RX11 10 "HeightFine" "told" "LHeightFine$Told;", .methodLink RX11 94 yX8_boroughAt, .instanceMethod yX8_boroughAt, .selects RX8 yX8_boroughAt yX8_boroughAt, .initialized RX8, .code yX8_boroughAt cX8_boroughAt 2 (some (.object "HeightFine$Borough")), .methodLink RX8 76 yX8_holds, .instanceMethod yX8_holds, .selects RX8 yX8_holds yX8_holds, .code yX8_holds cX8_holds 3 (some .boolean), .fieldLink RX8 15 "HeightFine$Told" "counts" "[I"] ++ u_ws RX8 TX8 9 ++ u_ws RX11 TX11 8)
set_option maxRecDepth 20000 in
theorem in_c_sure_8 : ∀ w ∈ u_ws RX8 TX8 9, w ∈ ws_c_sure := by decide +kernel
set_option maxRecDepth 20000 in
theorem in_c_sure_11 : ∀ w ∈ u_ws RX11 TX11 8, w ∈ ws_c_sure := by decide +kernel
set_option maxRecDepth 20000 in
theorem gc_sure_c_boroughAt : GoodIn ws_c_sure (wsV RX11 94 RX8 yX8_boroughAt ws_c_boroughAt) := goodIn_app (goodIn_of _ (by decide +kernel)) (goodIn_r _ [6, 7, 8, 9, 5, 10, 11, 12, 13, 14, 15, 16, 17, 18, 19, 20] (by decide +kernel) (by decide +kernel))
set_option maxHeartbeats 4000000 in
set_option maxRecDepth 100000 in
theorem c_sure (l : Launch) (dC : Nat → ClassId) (dI : Nat → Nat → Nat) (k : Nat → ClassId) (h : Nat) (g0 : Nat) (g1 : Nat) (g2 : Nat) (g3 : Nat) (g4 : Nat) (g5 : Nat) (g6 : Nat) (g7 : Nat) (t0 : Nat) (t1 : Nat) (t2 : Nat) (t3 : Nat) (t4 : Nat) (t5 : Nat) (x6 : Int32) (x7 : Int32) (x8 : Int32) (p0 : Int32) (p1 : Int32) (p2 : Int32) (p3 : Int32) : Met l yX11_sure ws_c_sure ({ frames := 2, cells := 0, slots := 0, locals := 43 }) (va_Pc [.ref h, .int p0, .int p1, .int p2, .int p3] (prR dC dI k [(h, .inr (11, [.ref g0, .ref g1, .ref g2, .ref g3, .ref g4, .ref g5, .ref g6, .ref g7])), (g0, .inr (8, [.ref t0, .ref t1, .ref t2, .ref t3, .ref t4, .ref t5, .int x6, .int x7, .int x8])), (t1, .inl (k 0, 4, .inl (fun _ => 0)))])) (vp_Si (fun r => r = (-1))) 0 0 (fun _ => False) := by
  refine Met.ofW (cc := cX11_sure) (maxL := 6) (ret := (some .int)) (by decide) rfl ?_
  intro p e s m args below meth c s₁ B hml hv
  obtain ⟨rfl, hP, hK⟩ := hv
  have hx := B.exec
  have hb := B.bytes
  have hr := B.returns
  have hts := atoms_spec (ws := ws_c_sure) B.pre
  have hown : s.vm.findClass RX11 = some m.cls := findClass_of_methodNamed B.named
  have hi8 := in_c_sure_8
  have hi11 := in_c_sure_11
  have hP : va_P (dC, dI) vwCl [(h, .inr (11, [.ref g0, .ref g1, .ref g2, .ref g3, .ref g4, .ref g5, .ref g6, .ref g7])), (g0, .inr (8, [.ref t0, .ref t1, .ref t2, .ref t3, .ref t4, .ref t5, .int x6, .int x7, .int x8])), (t1, .inl (k 0, 4, .inl (fun _ => 0)))] s.heap := hP
  have hl := lv_entry ([.ref h, .int p0, .int p1, .int p2, .int p3]) (n := 6) (Nat.le_of_ble_eq_true rfl)
  rw [lg_entry_eq]
  generalize (lg_sl ([.ref h, .int p0, .int p1, .int p2, .int p3]) ++ List.replicate (6 - (lg_sl ([.ref h, .int p0, .int p1, .int p2, .int p3])).length) Slot.unset).toArray = ls at hl ⊢
  have hl : lv_has ls 6 [(0, .ref h), (1, .int p0), (2, .int p1), (3, .int p2), (4, .int p3)] := hl
  refine lv_aload_n hx hb dX11_sure_0 rfl (lv_at hl 0 rfl) ?_
  refine va_get (D := (dC, dI)) (ci := 11) (v := .ref g0) (C := RX11) (T := TX11) (N := 8) hx hb hts hi11 hown hK hP 0 rfl rfl 0 (by decide) (hts (.fieldLink RX11 10 "HeightFine" "told" "LHeightFine$Told;") (by decide +kernel)) (fun _ h9 => h9) rfl dX11_sure_1 ?_
  refine lv_iload_n hx hb dX11_sure_4 rfl (lv_at hl 1 rfl) ?_
  have hPc := hP.sub (ws' := [(g0, .inr (8, [.ref t0, .ref t1, .ref t2, .ref t3, .ref t4, .ref t5, .int x6, .int x7, .int x8])), (t1, .inl (k 0, 4, .inl (fun _ => 0)))]) [1, 2] rfl
  refine va_csq (W.runV (As := [.int p0]) (rest := []) ⟨hx, hb, hml, hown, hts⟩ (c_boroughAt l dC dI k g0 t0 t1 t2 t3 t4 t5 x6 x7 x8 p0) (cwV 1 hts gc_sure_c_boroughAt rfl rfl rfl (by decide +kernel) ⟨Nat.le_of_ble_eq_true rfl, Nat.le_of_ble_eq_true rfl⟩) ⟨prR_blind, va_recv hK hPc (ci := 8) (q0 := 0) rfl rfl, fun U hU hW => ⟨rfl, prR_go hPc hK hU hW⟩⟩ rfl rfl hl.1 rfl (lv_room (Nat.le_of_ble_eq_true rfl)) dX11_sure_5 ⟨by decide +kernel, by decide +kernel⟩) (fun r_1 er_1 => ?_)
  subst er_1
  refine W.eq (g2 := F0 m 8 ls [.null]) rfl ?_
  refine lv_astoreN (lv' := [(5, .null), (0, .ref h), (1, .int p0), (2, .int p1), (3, .int p2), (4, .int p3)]) hx hb dX11_sure_8 hl (by decide) rfl (fun ls hl => ?_)
  refine lv_aloadN hx hb dX11_sure_10 (lv_at hl 0 rfl) ?_
  refine lv_ifnullN (tgt := 33) hx hb dX11_sure_12 (by decide) ?_
  refine lv_iconst (v := (-1)) hx hb dX11_sure_33 (by decide) ?_
  exact W.iret (v := (-1)) hx hb hr (fun t ht hW => ⟨(-1), rfl, rfl, ht⟩) (fun q h => absurd h List.not_mem_nil) dX11_sure_34

def ws_c_drawn : List Cond := .code yX11_drawn cX11_drawn 6 (some .int) :: ([.fieldLink RX11 10 "HeightFine" "told" "LHeightFine$Told;", .methodLink RX11 94 yX8_boroughAt, .instanceMethod yX8_boroughAt, .selects RX8 yX8_boroughAt yX8_boroughAt, .initialized RX8, .code yX8_boroughAt cX8_boroughAt 2 (some (.object "HeightFine$Borough")), .methodLink RX8 76 yX8_holds, .instanceMethod yX8_holds, .selects RX8 yX8_holds yX8_holds, .code yX8_holds cX8_holds 3 (some .boolean), .fieldLink RX8 15 "HeightFine$Told" "counts" "[I"] ++ u_ws RX8 TX8 9 ++ u_ws RX11 TX11 8)
set_option maxRecDepth 20000 in
theorem in_c_drawn_8 : ∀ w ∈ u_ws RX8 TX8 9, w ∈ ws_c_drawn := by decide +kernel
set_option maxRecDepth 20000 in
theorem in_c_drawn_11 : ∀ w ∈ u_ws RX11 TX11 8, w ∈ ws_c_drawn := by decide +kernel
set_option maxRecDepth 20000 in
theorem gc_drawn_c_boroughAt : GoodIn ws_c_drawn (wsV RX11 94 RX8 yX8_boroughAt ws_c_boroughAt) := goodIn_app (goodIn_of _ (by decide +kernel)) (goodIn_r _ [6, 7, 8, 9, 5, 10, 11, 12, 13, 14, 15, 16, 17, 18, 19, 20] (by decide +kernel) (by decide +kernel))
set_option maxHeartbeats 4000000 in
set_option maxRecDepth 100000 in
theorem c_drawn (l : Launch) (dC : Nat → ClassId) (dI : Nat → Nat → Nat) (k : Nat → ClassId) (h : Nat) (g0 : Nat) (g1 : Nat) (g2 : Nat) (g3 : Nat) (g4 : Nat) (g5 : Nat) (g6 : Nat) (g7 : Nat) (t0 : Nat) (t1 : Nat) (t2 : Nat) (t3 : Nat) (t4 : Nat) (t5 : Nat) (x6 : Int32) (x7 : Int32) (x8 : Int32) (p0 : Int32) (p1 : Int32) (p2 : Int32) (p3 : Int32) : Met l yX11_drawn ws_c_drawn ({ frames := 2, cells := 0, slots := 0, locals := 43 }) (va_Pc [.ref h, .int p0, .int p1, .int p2, .int p3] (prR dC dI k [(h, .inr (11, [.ref g0, .ref g1, .ref g2, .ref g3, .ref g4, .ref g5, .ref g6, .ref g7])), (g0, .inr (8, [.ref t0, .ref t1, .ref t2, .ref t3, .ref t4, .ref t5, .int x6, .int x7, .int x8])), (t1, .inl (k 0, 4, .inl (fun _ => 0)))])) (vp_Si (fun r => r = (-2))) 0 0 (fun _ => False) := by
  refine Met.ofW (cc := cX11_drawn) (maxL := 6) (ret := (some .int)) (by decide) rfl ?_
  intro p e s m args below meth c s₁ B hml hv
  obtain ⟨rfl, hP, hK⟩ := hv
  have hx := B.exec
  have hb := B.bytes
  have hr := B.returns
  have hts := atoms_spec (ws := ws_c_drawn) B.pre
  have hown : s.vm.findClass RX11 = some m.cls := findClass_of_methodNamed B.named
  have hi8 := in_c_drawn_8
  have hi11 := in_c_drawn_11
  have hP : va_P (dC, dI) vwCl [(h, .inr (11, [.ref g0, .ref g1, .ref g2, .ref g3, .ref g4, .ref g5, .ref g6, .ref g7])), (g0, .inr (8, [.ref t0, .ref t1, .ref t2, .ref t3, .ref t4, .ref t5, .int x6, .int x7, .int x8])), (t1, .inl (k 0, 4, .inl (fun _ => 0)))] s.heap := hP
  have hl := lv_entry ([.ref h, .int p0, .int p1, .int p2, .int p3]) (n := 6) (Nat.le_of_ble_eq_true rfl)
  rw [lg_entry_eq]
  generalize (lg_sl ([.ref h, .int p0, .int p1, .int p2, .int p3]) ++ List.replicate (6 - (lg_sl ([.ref h, .int p0, .int p1, .int p2, .int p3])).length) Slot.unset).toArray = ls at hl ⊢
  have hl : lv_has ls 6 [(0, .ref h), (1, .int p0), (2, .int p1), (3, .int p2), (4, .int p3)] := hl
  refine lv_aload_n hx hb dX11_drawn_0 rfl (lv_at hl 0 rfl) ?_
  refine va_get (D := (dC, dI)) (ci := 11) (v := .ref g0) (C := RX11) (T := TX11) (N := 8) hx hb hts hi11 hown hK hP 0 rfl rfl 0 (by decide) (hts (.fieldLink RX11 10 "HeightFine" "told" "LHeightFine$Told;") (by decide +kernel)) (fun _ h9 => h9) rfl dX11_drawn_1 ?_
  refine lv_iload_n hx hb dX11_drawn_4 rfl (lv_at hl 1 rfl) ?_
  have hPc := hP.sub (ws' := [(g0, .inr (8, [.ref t0, .ref t1, .ref t2, .ref t3, .ref t4, .ref t5, .int x6, .int x7, .int x8])), (t1, .inl (k 0, 4, .inl (fun _ => 0)))]) [1, 2] rfl
  refine va_csq (W.runV (As := [.int p0]) (rest := []) ⟨hx, hb, hml, hown, hts⟩ (c_boroughAt l dC dI k g0 t0 t1 t2 t3 t4 t5 x6 x7 x8 p0) (cwV 1 hts gc_drawn_c_boroughAt rfl rfl rfl (by decide +kernel) ⟨Nat.le_of_ble_eq_true rfl, Nat.le_of_ble_eq_true rfl⟩) ⟨prR_blind, va_recv hK hPc (ci := 8) (q0 := 0) rfl rfl, fun U hU hW => ⟨rfl, prR_go hPc hK hU hW⟩⟩ rfl rfl hl.1 rfl (lv_room (Nat.le_of_ble_eq_true rfl)) dX11_drawn_5 ⟨by decide +kernel, by decide +kernel⟩) (fun r_1 er_1 => ?_)
  subst er_1
  refine W.eq (g2 := F0 m 8 ls [.null]) rfl ?_
  refine lv_astoreN (lv' := [(5, .null), (0, .ref h), (1, .int p0), (2, .int p1), (3, .int p2), (4, .int p3)]) hx hb dX11_drawn_8 hl (by decide) rfl (fun ls hl => ?_)
  refine lv_aloadN hx hb dX11_drawn_10 (lv_at hl 0 rfl) ?_
  refine lv_ifnullN (tgt := 33) hx hb dX11_drawn_12 (by decide) ?_
  refine lv_bipush (v := (-2)) hx hb dX11_drawn_33 (by decide) ?_
  exact W.iret (v := (-2)) hx hb hr (fun t ht hW => ⟨(-2), rfl, rfl, ht⟩) (fun q h => absurd h List.not_mem_nil) dX11_drawn_35

def ws_c_family : List Cond := .code yX11_family cX11_family 5 (some .int) :: ([.fieldLink RX11 10 "HeightFine" "told" "LHeightFine$Told;", .methodLink RX11 94 yX8_boroughAt, .instanceMethod yX8_boroughAt, .selects RX8 yX8_boroughAt yX8_boroughAt, .initialized RX8, .code yX8_boroughAt cX8_boroughAt 2 (some (.object "HeightFine$Borough")), .methodLink RX8 76 yX8_holds, .instanceMethod yX8_holds, .selects RX8 yX8_holds yX8_holds, .code yX8_holds cX8_holds 3 (some .boolean), .fieldLink RX8 15 "HeightFine$Told" "counts" "[I"] ++ u_ws RX8 TX8 9 ++ u_ws RX11 TX11 8)
set_option maxRecDepth 20000 in
theorem in_c_family_8 : ∀ w ∈ u_ws RX8 TX8 9, w ∈ ws_c_family := by decide +kernel
set_option maxRecDepth 20000 in
theorem in_c_family_11 : ∀ w ∈ u_ws RX11 TX11 8, w ∈ ws_c_family := by decide +kernel
set_option maxRecDepth 20000 in
theorem gc_family_c_boroughAt : GoodIn ws_c_family (wsV RX11 94 RX8 yX8_boroughAt ws_c_boroughAt) := goodIn_app (goodIn_of _ (by decide +kernel)) (goodIn_r _ [6, 7, 8, 9, 5, 10, 11, 12, 13, 14, 15, 16, 17, 18, 19, 20] (by decide +kernel) (by decide +kernel))
set_option maxHeartbeats 4000000 in
set_option maxRecDepth 100000 in
theorem c_family (l : Launch) (dC : Nat → ClassId) (dI : Nat → Nat → Nat) (k : Nat → ClassId) (h : Nat) (g0 : Nat) (g1 : Nat) (g2 : Nat) (g3 : Nat) (g4 : Nat) (g5 : Nat) (g6 : Nat) (g7 : Nat) (t0 : Nat) (t1 : Nat) (t2 : Nat) (t3 : Nat) (t4 : Nat) (t5 : Nat) (x6 : Int32) (x7 : Int32) (x8 : Int32) (p0 : Int32) (p1 : Int32) (p2 : Int32) : Met l yX11_family ws_c_family ({ frames := 2, cells := 0, slots := 0, locals := 43 }) (va_Pc [.ref h, .int p0, .int p1, .int p2] (prR dC dI k [(h, .inr (11, [.ref g0, .ref g1, .ref g2, .ref g3, .ref g4, .ref g5, .ref g6, .ref g7])), (g0, .inr (8, [.ref t0, .ref t1, .ref t2, .ref t3, .ref t4, .ref t5, .int x6, .int x7, .int x8])), (t1, .inl (k 0, 4, .inl (fun _ => 0)))])) (vp_Si (fun r => r = (-1))) 0 0 (fun _ => False) := by
  refine Met.ofW (cc := cX11_family) (maxL := 5) (ret := (some .int)) (by decide) rfl ?_
  intro p e s m args below meth c s₁ B hml hv
  obtain ⟨rfl, hP, hK⟩ := hv
  have hx := B.exec
  have hb := B.bytes
  have hr := B.returns
  have hts := atoms_spec (ws := ws_c_family) B.pre
  have hown : s.vm.findClass RX11 = some m.cls := findClass_of_methodNamed B.named
  have hi8 := in_c_family_8
  have hi11 := in_c_family_11
  have hP : va_P (dC, dI) vwCl [(h, .inr (11, [.ref g0, .ref g1, .ref g2, .ref g3, .ref g4, .ref g5, .ref g6, .ref g7])), (g0, .inr (8, [.ref t0, .ref t1, .ref t2, .ref t3, .ref t4, .ref t5, .int x6, .int x7, .int x8])), (t1, .inl (k 0, 4, .inl (fun _ => 0)))] s.heap := hP
  have hl := lv_entry ([.ref h, .int p0, .int p1, .int p2]) (n := 5) (Nat.le_of_ble_eq_true rfl)
  rw [lg_entry_eq]
  generalize (lg_sl ([.ref h, .int p0, .int p1, .int p2]) ++ List.replicate (5 - (lg_sl ([.ref h, .int p0, .int p1, .int p2])).length) Slot.unset).toArray = ls at hl ⊢
  have hl : lv_has ls 5 [(0, .ref h), (1, .int p0), (2, .int p1), (3, .int p2)] := hl
  refine lv_aload_n hx hb dX11_family_0 rfl (lv_at hl 0 rfl) ?_
  refine va_get (D := (dC, dI)) (ci := 11) (v := .ref g0) (C := RX11) (T := TX11) (N := 8) hx hb hts hi11 hown hK hP 0 rfl rfl 0 (by decide) (hts (.fieldLink RX11 10 "HeightFine" "told" "LHeightFine$Told;") (by decide +kernel)) (fun _ h9 => h9) rfl dX11_family_1 ?_
  refine lv_iload_n hx hb dX11_family_4 rfl (lv_at hl 1 rfl) ?_
  have hPc := hP.sub (ws' := [(g0, .inr (8, [.ref t0, .ref t1, .ref t2, .ref t3, .ref t4, .ref t5, .int x6, .int x7, .int x8])), (t1, .inl (k 0, 4, .inl (fun _ => 0)))]) [1, 2] rfl
  refine va_csq (W.runV (As := [.int p0]) (rest := []) ⟨hx, hb, hml, hown, hts⟩ (c_boroughAt l dC dI k g0 t0 t1 t2 t3 t4 t5 x6 x7 x8 p0) (cwV 1 hts gc_family_c_boroughAt rfl rfl rfl (by decide +kernel) ⟨Nat.le_of_ble_eq_true rfl, Nat.le_of_ble_eq_true rfl⟩) ⟨prR_blind, va_recv hK hPc (ci := 8) (q0 := 0) rfl rfl, fun U hU hW => ⟨rfl, prR_go hPc hK hU hW⟩⟩ rfl rfl hl.1 rfl (lv_room (Nat.le_of_ble_eq_true rfl)) dX11_family_5 ⟨by decide +kernel, by decide +kernel⟩) (fun r_1 er_1 => ?_)
  subst er_1
  refine W.eq (g2 := F0 m 8 ls [.null]) rfl ?_
  refine lv_astoreN (lv' := [(4, .null), (0, .ref h), (1, .int p0), (2, .int p1), (3, .int p2)]) hx hb dX11_family_8 hl (by decide) rfl (fun ls hl => ?_)
  refine lv_aloadN hx hb dX11_family_10 (lv_at hl 0 rfl) ?_
  refine lv_ifnullN (tgt := 24) hx hb dX11_family_12 (by decide) ?_
  refine lv_iconst (v := (-1)) hx hb dX11_family_24 (by decide) ?_
  exact W.iret (v := (-1)) hx hb hr (fun t ht hW => ⟨(-1), rfl, rfl, ht⟩) (fun q h => absurd h List.not_mem_nil) dX11_family_25

def ws_c_shoulders : List Cond := .code yX11_shoulders cX11_shoulders 4 (some .int) :: ([.fieldLink RX11 10 "HeightFine" "told" "LHeightFine$Told;", .methodLink RX11 94 yX8_boroughAt, .instanceMethod yX8_boroughAt, .selects RX8 yX8_boroughAt yX8_boroughAt, .initialized RX8, .code yX8_boroughAt cX8_boroughAt 2 (some (.object "HeightFine$Borough")), .methodLink RX8 76 yX8_holds, .instanceMethod yX8_holds, .selects RX8 yX8_holds yX8_holds, .code yX8_holds cX8_holds 3 (some .boolean), .fieldLink RX8 15 "HeightFine$Told" "counts" "[I"] ++ u_ws RX8 TX8 9 ++ u_ws RX11 TX11 8)
set_option maxRecDepth 20000 in
theorem in_c_shoulders_8 : ∀ w ∈ u_ws RX8 TX8 9, w ∈ ws_c_shoulders := by decide +kernel
set_option maxRecDepth 20000 in
theorem in_c_shoulders_11 : ∀ w ∈ u_ws RX11 TX11 8, w ∈ ws_c_shoulders := by decide +kernel
set_option maxRecDepth 20000 in
theorem gc_shoulders_c_boroughAt : GoodIn ws_c_shoulders (wsV RX11 94 RX8 yX8_boroughAt ws_c_boroughAt) := goodIn_app (goodIn_of _ (by decide +kernel)) (goodIn_r _ [6, 7, 8, 9, 5, 10, 11, 12, 13, 14, 15, 16, 17, 18, 19, 20] (by decide +kernel) (by decide +kernel))
set_option maxHeartbeats 4000000 in
set_option maxRecDepth 100000 in
theorem c_shoulders (l : Launch) (dC : Nat → ClassId) (dI : Nat → Nat → Nat) (k : Nat → ClassId) (h : Nat) (g0 : Nat) (g1 : Nat) (g2 : Nat) (g3 : Nat) (g4 : Nat) (g5 : Nat) (g6 : Nat) (g7 : Nat) (t0 : Nat) (t1 : Nat) (t2 : Nat) (t3 : Nat) (t4 : Nat) (t5 : Nat) (x6 : Int32) (x7 : Int32) (x8 : Int32) (p0 : Int32) (p1 : Int32) : Met l yX11_shoulders ws_c_shoulders ({ frames := 2, cells := 0, slots := 0, locals := 43 }) (va_Pc [.ref h, .int p0, .int p1] (prR dC dI k [(h, .inr (11, [.ref g0, .ref g1, .ref g2, .ref g3, .ref g4, .ref g5, .ref g6, .ref g7])), (g0, .inr (8, [.ref t0, .ref t1, .ref t2, .ref t3, .ref t4, .ref t5, .int x6, .int x7, .int x8])), (t1, .inl (k 0, 4, .inl (fun _ => 0)))])) (vp_Si (fun r => r = (-1))) 0 0 (fun _ => False) := by
  refine Met.ofW (cc := cX11_shoulders) (maxL := 4) (ret := (some .int)) (by decide) rfl ?_
  intro p e s m args below meth c s₁ B hml hv
  obtain ⟨rfl, hP, hK⟩ := hv
  have hx := B.exec
  have hb := B.bytes
  have hr := B.returns
  have hts := atoms_spec (ws := ws_c_shoulders) B.pre
  have hown : s.vm.findClass RX11 = some m.cls := findClass_of_methodNamed B.named
  have hi8 := in_c_shoulders_8
  have hi11 := in_c_shoulders_11
  have hP : va_P (dC, dI) vwCl [(h, .inr (11, [.ref g0, .ref g1, .ref g2, .ref g3, .ref g4, .ref g5, .ref g6, .ref g7])), (g0, .inr (8, [.ref t0, .ref t1, .ref t2, .ref t3, .ref t4, .ref t5, .int x6, .int x7, .int x8])), (t1, .inl (k 0, 4, .inl (fun _ => 0)))] s.heap := hP
  have hl := lv_entry ([.ref h, .int p0, .int p1]) (n := 4) (Nat.le_of_ble_eq_true rfl)
  rw [lg_entry_eq]
  generalize (lg_sl ([.ref h, .int p0, .int p1]) ++ List.replicate (4 - (lg_sl ([.ref h, .int p0, .int p1])).length) Slot.unset).toArray = ls at hl ⊢
  have hl : lv_has ls 4 [(0, .ref h), (1, .int p0), (2, .int p1)] := hl
  refine lv_aload_n hx hb dX11_shoulders_0 rfl (lv_at hl 0 rfl) ?_
  refine va_get (D := (dC, dI)) (ci := 11) (v := .ref g0) (C := RX11) (T := TX11) (N := 8) hx hb hts hi11 hown hK hP 0 rfl rfl 0 (by decide) (hts (.fieldLink RX11 10 "HeightFine" "told" "LHeightFine$Told;") (by decide +kernel)) (fun _ h9 => h9) rfl dX11_shoulders_1 ?_
  refine lv_iload_n hx hb dX11_shoulders_4 rfl (lv_at hl 1 rfl) ?_
  have hPc := hP.sub (ws' := [(g0, .inr (8, [.ref t0, .ref t1, .ref t2, .ref t3, .ref t4, .ref t5, .int x6, .int x7, .int x8])), (t1, .inl (k 0, 4, .inl (fun _ => 0)))]) [1, 2] rfl
  refine va_csq (W.runV (As := [.int p0]) (rest := []) ⟨hx, hb, hml, hown, hts⟩ (c_boroughAt l dC dI k g0 t0 t1 t2 t3 t4 t5 x6 x7 x8 p0) (cwV 1 hts gc_shoulders_c_boroughAt rfl rfl rfl (by decide +kernel) ⟨Nat.le_of_ble_eq_true rfl, Nat.le_of_ble_eq_true rfl⟩) ⟨prR_blind, va_recv hK hPc (ci := 8) (q0 := 0) rfl rfl, fun U hU hW => ⟨rfl, prR_go hPc hK hU hW⟩⟩ rfl rfl hl.1 rfl (lv_room (Nat.le_of_ble_eq_true rfl)) dX11_shoulders_5 ⟨by decide +kernel, by decide +kernel⟩) (fun r_1 er_1 => ?_)
  subst er_1
  refine W.eq (g2 := F0 m 8 ls [.null]) rfl ?_
  refine lv_astore_nN (lv' := [(3, .null), (0, .ref h), (1, .int p0), (2, .int p1)]) hx hb dX11_shoulders_8 rfl hl (by decide) rfl (fun ls hl => ?_)
  refine lv_aload_nN hx hb dX11_shoulders_9 rfl (lv_at hl 0 rfl) ?_
  refine lv_ifnonnullN hx hb dX11_shoulders_10 ?_
  refine lv_iconst (v := (-1)) hx hb dX11_shoulders_13 (by decide) ?_
  refine lv_goto (tgt := 33) hx hb dX11_shoulders_14 (by decide) ?_
  exact W.iret (v := (-1)) hx hb hr (fun t ht hW => ⟨(-1), rfl, rfl, ht⟩) (fun q h => absurd h List.not_mem_nil) dX11_shoulders_33

def ws_c_hats : List Cond := .code yX11_hats cX11_hats 4 (some .int) :: ([.fieldLink RX11 10 "HeightFine" "told" "LHeightFine$Told;", .methodLink RX11 94 yX8_boroughAt, .instanceMethod yX8_boroughAt, .selects RX8 yX8_boroughAt yX8_boroughAt, .initialized RX8, .code yX8_boroughAt cX8_boroughAt 2 (some (.object "HeightFine$Borough")), .methodLink RX8 76 yX8_holds, .instanceMethod yX8_holds, .selects RX8 yX8_holds yX8_holds, .code yX8_holds cX8_holds 3 (some .boolean), .fieldLink RX8 15 "HeightFine$Told" "counts" "[I"] ++ u_ws RX8 TX8 9 ++ u_ws RX11 TX11 8)
set_option maxRecDepth 20000 in
theorem in_c_hats_8 : ∀ w ∈ u_ws RX8 TX8 9, w ∈ ws_c_hats := by decide +kernel
set_option maxRecDepth 20000 in
theorem in_c_hats_11 : ∀ w ∈ u_ws RX11 TX11 8, w ∈ ws_c_hats := by decide +kernel
set_option maxRecDepth 20000 in
theorem gc_hats_c_boroughAt : GoodIn ws_c_hats (wsV RX11 94 RX8 yX8_boroughAt ws_c_boroughAt) := goodIn_app (goodIn_of _ (by decide +kernel)) (goodIn_r _ [6, 7, 8, 9, 5, 10, 11, 12, 13, 14, 15, 16, 17, 18, 19, 20] (by decide +kernel) (by decide +kernel))
set_option maxHeartbeats 4000000 in
set_option maxRecDepth 100000 in
theorem c_hats (l : Launch) (dC : Nat → ClassId) (dI : Nat → Nat → Nat) (k : Nat → ClassId) (h : Nat) (g0 : Nat) (g1 : Nat) (g2 : Nat) (g3 : Nat) (g4 : Nat) (g5 : Nat) (g6 : Nat) (g7 : Nat) (t0 : Nat) (t1 : Nat) (t2 : Nat) (t3 : Nat) (t4 : Nat) (t5 : Nat) (x6 : Int32) (x7 : Int32) (x8 : Int32) (p0 : Int32) (p1 : Int32) : Met l yX11_hats ws_c_hats ({ frames := 2, cells := 0, slots := 0, locals := 43 }) (va_Pc [.ref h, .int p0, .int p1] (prR dC dI k [(h, .inr (11, [.ref g0, .ref g1, .ref g2, .ref g3, .ref g4, .ref g5, .ref g6, .ref g7])), (g0, .inr (8, [.ref t0, .ref t1, .ref t2, .ref t3, .ref t4, .ref t5, .int x6, .int x7, .int x8])), (t1, .inl (k 0, 4, .inl (fun _ => 0)))])) (vp_Si (fun r => r = (-1))) 0 0 (fun _ => False) := by
  refine Met.ofW (cc := cX11_hats) (maxL := 4) (ret := (some .int)) (by decide) rfl ?_
  intro p e s m args below meth c s₁ B hml hv
  obtain ⟨rfl, hP, hK⟩ := hv
  have hx := B.exec
  have hb := B.bytes
  have hr := B.returns
  have hts := atoms_spec (ws := ws_c_hats) B.pre
  have hown : s.vm.findClass RX11 = some m.cls := findClass_of_methodNamed B.named
  have hi8 := in_c_hats_8
  have hi11 := in_c_hats_11
  have hP : va_P (dC, dI) vwCl [(h, .inr (11, [.ref g0, .ref g1, .ref g2, .ref g3, .ref g4, .ref g5, .ref g6, .ref g7])), (g0, .inr (8, [.ref t0, .ref t1, .ref t2, .ref t3, .ref t4, .ref t5, .int x6, .int x7, .int x8])), (t1, .inl (k 0, 4, .inl (fun _ => 0)))] s.heap := hP
  have hl := lv_entry ([.ref h, .int p0, .int p1]) (n := 4) (Nat.le_of_ble_eq_true rfl)
  rw [lg_entry_eq]
  generalize (lg_sl ([.ref h, .int p0, .int p1]) ++ List.replicate (4 - (lg_sl ([.ref h, .int p0, .int p1])).length) Slot.unset).toArray = ls at hl ⊢
  have hl : lv_has ls 4 [(0, .ref h), (1, .int p0), (2, .int p1)] := hl
  refine lv_aload_n hx hb dX11_hats_0 rfl (lv_at hl 0 rfl) ?_
  refine va_get (D := (dC, dI)) (ci := 11) (v := .ref g0) (C := RX11) (T := TX11) (N := 8) hx hb hts hi11 hown hK hP 0 rfl rfl 0 (by decide) (hts (.fieldLink RX11 10 "HeightFine" "told" "LHeightFine$Told;") (by decide +kernel)) (fun _ h9 => h9) rfl dX11_hats_1 ?_
  refine lv_iload_n hx hb dX11_hats_4 rfl (lv_at hl 1 rfl) ?_
  have hPc := hP.sub (ws' := [(g0, .inr (8, [.ref t0, .ref t1, .ref t2, .ref t3, .ref t4, .ref t5, .int x6, .int x7, .int x8])), (t1, .inl (k 0, 4, .inl (fun _ => 0)))]) [1, 2] rfl
  refine va_csq (W.runV (As := [.int p0]) (rest := []) ⟨hx, hb, hml, hown, hts⟩ (c_boroughAt l dC dI k g0 t0 t1 t2 t3 t4 t5 x6 x7 x8 p0) (cwV 1 hts gc_hats_c_boroughAt rfl rfl rfl (by decide +kernel) ⟨Nat.le_of_ble_eq_true rfl, Nat.le_of_ble_eq_true rfl⟩) ⟨prR_blind, va_recv hK hPc (ci := 8) (q0 := 0) rfl rfl, fun U hU hW => ⟨rfl, prR_go hPc hK hU hW⟩⟩ rfl rfl hl.1 rfl (lv_room (Nat.le_of_ble_eq_true rfl)) dX11_hats_5 ⟨by decide +kernel, by decide +kernel⟩) (fun r_1 er_1 => ?_)
  subst er_1
  refine W.eq (g2 := F0 m 8 ls [.null]) rfl ?_
  refine lv_astore_nN (lv' := [(3, .null), (0, .ref h), (1, .int p0), (2, .int p1)]) hx hb dX11_hats_8 rfl hl (by decide) rfl (fun ls hl => ?_)
  refine lv_aload_nN hx hb dX11_hats_9 rfl (lv_at hl 0 rfl) ?_
  refine lv_ifnonnullN hx hb dX11_hats_10 ?_
  refine lv_iconst (v := (-1)) hx hb dX11_hats_13 (by decide) ?_
  exact W.iret (v := (-1)) hx hb hr (fun t ht hW => ⟨(-1), rfl, rfl, ht⟩) (fun q h => absurd h List.not_mem_nil) dX11_hats_14

def ws_c_teams : List Cond := .code yX11_teams cX11_teams 5 (some .int) :: ([.fieldLink RX11 10 "HeightFine" "told" "LHeightFine$Told;", .methodLink RX11 94 yX8_boroughAt, .instanceMethod yX8_boroughAt, .selects RX8 yX8_boroughAt yX8_boroughAt, .initialized RX8, .code yX8_boroughAt cX8_boroughAt 2 (some (.object "HeightFine$Borough")), .methodLink RX8 76 yX8_holds, .instanceMethod yX8_holds, .selects RX8 yX8_holds yX8_holds, .code yX8_holds cX8_holds 3 (some .boolean), .fieldLink RX8 15 "HeightFine$Told" "counts" "[I"] ++ u_ws RX8 TX8 9 ++ u_ws RX11 TX11 8)
set_option maxRecDepth 20000 in
theorem in_c_teams_8 : ∀ w ∈ u_ws RX8 TX8 9, w ∈ ws_c_teams := by decide +kernel
set_option maxRecDepth 20000 in
theorem in_c_teams_11 : ∀ w ∈ u_ws RX11 TX11 8, w ∈ ws_c_teams := by decide +kernel
set_option maxRecDepth 20000 in
theorem gc_teams_c_boroughAt : GoodIn ws_c_teams (wsV RX11 94 RX8 yX8_boroughAt ws_c_boroughAt) := goodIn_app (goodIn_of _ (by decide +kernel)) (goodIn_r _ [6, 7, 8, 9, 5, 10, 11, 12, 13, 14, 15, 16, 17, 18, 19, 20] (by decide +kernel) (by decide +kernel))
set_option maxHeartbeats 4000000 in
set_option maxRecDepth 100000 in
theorem c_teams (l : Launch) (dC : Nat → ClassId) (dI : Nat → Nat → Nat) (k : Nat → ClassId) (h : Nat) (g0 : Nat) (g1 : Nat) (g2 : Nat) (g3 : Nat) (g4 : Nat) (g5 : Nat) (g6 : Nat) (g7 : Nat) (t0 : Nat) (t1 : Nat) (t2 : Nat) (t3 : Nat) (t4 : Nat) (t5 : Nat) (x6 : Int32) (x7 : Int32) (x8 : Int32) (p0 : Int32) (p1 : Int32) : Met l yX11_teams ws_c_teams ({ frames := 2, cells := 0, slots := 0, locals := 43 }) (va_Pc [.ref h, .int p0, .int p1] (prR dC dI k [(h, .inr (11, [.ref g0, .ref g1, .ref g2, .ref g3, .ref g4, .ref g5, .ref g6, .ref g7])), (g0, .inr (8, [.ref t0, .ref t1, .ref t2, .ref t3, .ref t4, .ref t5, .int x6, .int x7, .int x8])), (t1, .inl (k 0, 4, .inl (fun _ => 0)))])) (vp_Si (fun r => r = (-1))) 0 0 (fun _ => False) := by
  refine Met.ofW (cc := cX11_teams) (maxL := 5) (ret := (some .int)) (by decide) rfl ?_
  intro p e s m args below meth c s₁ B hml hv
  obtain ⟨rfl, hP, hK⟩ := hv
  have hx := B.exec
  have hb := B.bytes
  have hr := B.returns
  have hts := atoms_spec (ws := ws_c_teams) B.pre
  have hown : s.vm.findClass RX11 = some m.cls := findClass_of_methodNamed B.named
  have hi8 := in_c_teams_8
  have hi11 := in_c_teams_11
  have hP : va_P (dC, dI) vwCl [(h, .inr (11, [.ref g0, .ref g1, .ref g2, .ref g3, .ref g4, .ref g5, .ref g6, .ref g7])), (g0, .inr (8, [.ref t0, .ref t1, .ref t2, .ref t3, .ref t4, .ref t5, .int x6, .int x7, .int x8])), (t1, .inl (k 0, 4, .inl (fun _ => 0)))] s.heap := hP
  have hl := lv_entry ([.ref h, .int p0, .int p1]) (n := 5) (Nat.le_of_ble_eq_true rfl)
  rw [lg_entry_eq]
  generalize (lg_sl ([.ref h, .int p0, .int p1]) ++ List.replicate (5 - (lg_sl ([.ref h, .int p0, .int p1])).length) Slot.unset).toArray = ls at hl ⊢
  have hl : lv_has ls 5 [(0, .ref h), (1, .int p0), (2, .int p1)] := hl
  refine lv_aload_n hx hb dX11_teams_0 rfl (lv_at hl 0 rfl) ?_
  refine va_get (D := (dC, dI)) (ci := 11) (v := .ref g0) (C := RX11) (T := TX11) (N := 8) hx hb hts hi11 hown hK hP 0 rfl rfl 0 (by decide) (hts (.fieldLink RX11 10 "HeightFine" "told" "LHeightFine$Told;") (by decide +kernel)) (fun _ h9 => h9) rfl dX11_teams_1 ?_
  refine lv_iload_n hx hb dX11_teams_4 rfl (lv_at hl 1 rfl) ?_
  have hPc := hP.sub (ws' := [(g0, .inr (8, [.ref t0, .ref t1, .ref t2, .ref t3, .ref t4, .ref t5, .int x6, .int x7, .int x8])), (t1, .inl (k 0, 4, .inl (fun _ => 0)))]) [1, 2] rfl
  refine va_csq (W.runV (As := [.int p0]) (rest := []) ⟨hx, hb, hml, hown, hts⟩ (c_boroughAt l dC dI k g0 t0 t1 t2 t3 t4 t5 x6 x7 x8 p0) (cwV 1 hts gc_teams_c_boroughAt rfl rfl rfl (by decide +kernel) ⟨Nat.le_of_ble_eq_true rfl, Nat.le_of_ble_eq_true rfl⟩) ⟨prR_blind, va_recv hK hPc (ci := 8) (q0 := 0) rfl rfl, fun U hU hW => ⟨rfl, prR_go hPc hK hU hW⟩⟩ rfl rfl hl.1 rfl (lv_room (Nat.le_of_ble_eq_true rfl)) dX11_teams_5 ⟨by decide +kernel, by decide +kernel⟩) (fun r_1 er_1 => ?_)
  subst er_1
  refine W.eq (g2 := F0 m 8 ls [.null]) rfl ?_
  refine lv_astore_nN (lv' := [(3, .null), (0, .ref h), (1, .int p0), (2, .int p1)]) hx hb dX11_teams_8 rfl hl (by decide) rfl (fun ls hl => ?_)
  refine lv_aload_nN hx hb dX11_teams_9 rfl (lv_at hl 0 rfl) ?_
  refine lv_ifnullN (tgt := 21) hx hb dX11_teams_10 (by decide) ?_
  refine lv_iconst (v := (-1)) hx hb dX11_teams_21 (by decide) ?_
  exact W.iret (v := (-1)) hx hb hr (fun t ht hW => ⟨(-1), rfl, rfl, ht⟩) (fun q h => absurd h List.not_mem_nil) dX11_teams_22

def ws_c_assumed : List Cond := .code yX11_assumed cX11_assumed 5 (some .int) :: ([.fieldLink RX11 10 "HeightFine" "told" "LHeightFine$Told;", .methodLink RX11 94 yX8_boroughAt, .instanceMethod yX8_boroughAt, .selects RX8 yX8_boroughAt yX8_boroughAt, .initialized RX8, .code yX8_boroughAt cX8_boroughAt 2 (some (.object "HeightFine$Borough")), .methodLink RX8 76 yX8_holds, .instanceMethod yX8_holds, .selects RX8 yX8_holds yX8_holds, .code yX8_holds cX8_holds 3 (some .boolean), .fieldLink RX8 15 "HeightFine$Told" "counts" "[I"] ++ u_ws RX8 TX8 9 ++ u_ws RX11 TX11 8)
set_option maxRecDepth 20000 in
theorem in_c_assumed_8 : ∀ w ∈ u_ws RX8 TX8 9, w ∈ ws_c_assumed := by decide +kernel
set_option maxRecDepth 20000 in
theorem in_c_assumed_11 : ∀ w ∈ u_ws RX11 TX11 8, w ∈ ws_c_assumed := by decide +kernel
set_option maxRecDepth 20000 in
theorem gc_assumed_c_boroughAt : GoodIn ws_c_assumed (wsV RX11 94 RX8 yX8_boroughAt ws_c_boroughAt) := goodIn_app (goodIn_of _ (by decide +kernel)) (goodIn_r _ [6, 7, 8, 9, 5, 10, 11, 12, 13, 14, 15, 16, 17, 18, 19, 20] (by decide +kernel) (by decide +kernel))
set_option maxHeartbeats 4000000 in
set_option maxRecDepth 100000 in
theorem c_assumed (l : Launch) (dC : Nat → ClassId) (dI : Nat → Nat → Nat) (k : Nat → ClassId) (h : Nat) (g0 : Nat) (g1 : Nat) (g2 : Nat) (g3 : Nat) (g4 : Nat) (g5 : Nat) (g6 : Nat) (g7 : Nat) (t0 : Nat) (t1 : Nat) (t2 : Nat) (t3 : Nat) (t4 : Nat) (t5 : Nat) (x6 : Int32) (x7 : Int32) (x8 : Int32) (p0 : Int32) (p1 : Int32) (p2 : Int32) : Met l yX11_assumed ws_c_assumed ({ frames := 2, cells := 0, slots := 0, locals := 43 }) (va_Pc [.ref h, .int p0, .int p1, .int p2] (prR dC dI k [(h, .inr (11, [.ref g0, .ref g1, .ref g2, .ref g3, .ref g4, .ref g5, .ref g6, .ref g7])), (g0, .inr (8, [.ref t0, .ref t1, .ref t2, .ref t3, .ref t4, .ref t5, .int x6, .int x7, .int x8])), (t1, .inl (k 0, 4, .inl (fun _ => 0)))])) (vp_Si (fun r => r = (-1))) 0 0 (fun _ => False) := by
  refine Met.ofW (cc := cX11_assumed) (maxL := 5) (ret := (some .int)) (by decide) rfl ?_
  intro p e s m args below meth c s₁ B hml hv
  obtain ⟨rfl, hP, hK⟩ := hv
  have hx := B.exec
  have hb := B.bytes
  have hr := B.returns
  have hts := atoms_spec (ws := ws_c_assumed) B.pre
  have hown : s.vm.findClass RX11 = some m.cls := findClass_of_methodNamed B.named
  have hi8 := in_c_assumed_8
  have hi11 := in_c_assumed_11
  have hP : va_P (dC, dI) vwCl [(h, .inr (11, [.ref g0, .ref g1, .ref g2, .ref g3, .ref g4, .ref g5, .ref g6, .ref g7])), (g0, .inr (8, [.ref t0, .ref t1, .ref t2, .ref t3, .ref t4, .ref t5, .int x6, .int x7, .int x8])), (t1, .inl (k 0, 4, .inl (fun _ => 0)))] s.heap := hP
  have hl := lv_entry ([.ref h, .int p0, .int p1, .int p2]) (n := 5) (Nat.le_of_ble_eq_true rfl)
  rw [lg_entry_eq]
  generalize (lg_sl ([.ref h, .int p0, .int p1, .int p2]) ++ List.replicate (5 - (lg_sl ([.ref h, .int p0, .int p1, .int p2])).length) Slot.unset).toArray = ls at hl ⊢
  have hl : lv_has ls 5 [(0, .ref h), (1, .int p0), (2, .int p1), (3, .int p2)] := hl
  refine lv_aload_n hx hb dX11_assumed_0 rfl (lv_at hl 0 rfl) ?_
  refine va_get (D := (dC, dI)) (ci := 11) (v := .ref g0) (C := RX11) (T := TX11) (N := 8) hx hb hts hi11 hown hK hP 0 rfl rfl 0 (by decide) (hts (.fieldLink RX11 10 "HeightFine" "told" "LHeightFine$Told;") (by decide +kernel)) (fun _ h9 => h9) rfl dX11_assumed_1 ?_
  refine lv_iload_n hx hb dX11_assumed_4 rfl (lv_at hl 1 rfl) ?_
  have hPc := hP.sub (ws' := [(g0, .inr (8, [.ref t0, .ref t1, .ref t2, .ref t3, .ref t4, .ref t5, .int x6, .int x7, .int x8])), (t1, .inl (k 0, 4, .inl (fun _ => 0)))]) [1, 2] rfl
  refine va_csq (W.runV (As := [.int p0]) (rest := []) ⟨hx, hb, hml, hown, hts⟩ (c_boroughAt l dC dI k g0 t0 t1 t2 t3 t4 t5 x6 x7 x8 p0) (cwV 1 hts gc_assumed_c_boroughAt rfl rfl rfl (by decide +kernel) ⟨Nat.le_of_ble_eq_true rfl, Nat.le_of_ble_eq_true rfl⟩) ⟨prR_blind, va_recv hK hPc (ci := 8) (q0 := 0) rfl rfl, fun U hU hW => ⟨rfl, prR_go hPc hK hU hW⟩⟩ rfl rfl hl.1 rfl (lv_room (Nat.le_of_ble_eq_true rfl)) dX11_assumed_5 ⟨by decide +kernel, by decide +kernel⟩) (fun r_1 er_1 => ?_)
  subst er_1
  refine W.eq (g2 := F0 m 8 ls [.null]) rfl ?_
  refine lv_astoreN (lv' := [(4, .null), (0, .ref h), (1, .int p0), (2, .int p1), (3, .int p2)]) hx hb dX11_assumed_8 hl (by decide) rfl (fun ls hl => ?_)
  refine lv_aloadN hx hb dX11_assumed_10 (lv_at hl 0 rfl) ?_
  refine lv_ifnonnullN hx hb dX11_assumed_12 ?_
  refine lv_iconst (v := (-1)) hx hb dX11_assumed_15 (by decide) ?_
  exact W.iret (v := (-1)) hx hb hr (fun t ht hW => ⟨(-1), rfl, rfl, ht⟩) (fun q h => absurd h List.not_mem_nil) dX11_assumed_16

def ws_c_settled : List Cond := .code yX11_settled cX11_settled 5 (some .int) :: ([.fieldLink RX11 10 "HeightFine" "told" "LHeightFine$Told;", .methodLink RX11 94 yX8_boroughAt, .instanceMethod yX8_boroughAt, .selects RX8 yX8_boroughAt yX8_boroughAt, .initialized RX8, .code yX8_boroughAt cX8_boroughAt 2 (some (.object "HeightFine$Borough")), .methodLink RX8 76 yX8_holds, .instanceMethod yX8_holds, .selects RX8 yX8_holds yX8_holds, .code yX8_holds cX8_holds 3 (some .boolean), .fieldLink RX8 15 "HeightFine$Told" "counts" "[I"] ++ u_ws RX8 TX8 9 ++ u_ws RX11 TX11 8)
set_option maxRecDepth 20000 in
theorem in_c_settled_8 : ∀ w ∈ u_ws RX8 TX8 9, w ∈ ws_c_settled := by decide +kernel
set_option maxRecDepth 20000 in
theorem in_c_settled_11 : ∀ w ∈ u_ws RX11 TX11 8, w ∈ ws_c_settled := by decide +kernel
set_option maxRecDepth 20000 in
theorem gc_settled_c_boroughAt : GoodIn ws_c_settled (wsV RX11 94 RX8 yX8_boroughAt ws_c_boroughAt) := goodIn_app (goodIn_of _ (by decide +kernel)) (goodIn_r _ [6, 7, 8, 9, 5, 10, 11, 12, 13, 14, 15, 16, 17, 18, 19, 20] (by decide +kernel) (by decide +kernel))
set_option maxHeartbeats 4000000 in
set_option maxRecDepth 100000 in
theorem c_settled (l : Launch) (dC : Nat → ClassId) (dI : Nat → Nat → Nat) (k : Nat → ClassId) (h : Nat) (g0 : Nat) (g1 : Nat) (g2 : Nat) (g3 : Nat) (g4 : Nat) (g5 : Nat) (g6 : Nat) (g7 : Nat) (t0 : Nat) (t1 : Nat) (t2 : Nat) (t3 : Nat) (t4 : Nat) (t5 : Nat) (x6 : Int32) (x7 : Int32) (x8 : Int32) (p0 : Int32) (p1 : Int32) (p2 : Int32) : Met l yX11_settled ws_c_settled ({ frames := 2, cells := 0, slots := 0, locals := 43 }) (va_Pc [.ref h, .int p0, .int p1, .int p2] (prR dC dI k [(h, .inr (11, [.ref g0, .ref g1, .ref g2, .ref g3, .ref g4, .ref g5, .ref g6, .ref g7])), (g0, .inr (8, [.ref t0, .ref t1, .ref t2, .ref t3, .ref t4, .ref t5, .int x6, .int x7, .int x8])), (t1, .inl (k 0, 4, .inl (fun _ => 0)))])) (vp_Si (fun r => r = (-1))) 0 0 (fun _ => False) := by
  refine Met.ofW (cc := cX11_settled) (maxL := 5) (ret := (some .int)) (by decide) rfl ?_
  intro p e s m args below meth c s₁ B hml hv
  obtain ⟨rfl, hP, hK⟩ := hv
  have hx := B.exec
  have hb := B.bytes
  have hr := B.returns
  have hts := atoms_spec (ws := ws_c_settled) B.pre
  have hown : s.vm.findClass RX11 = some m.cls := findClass_of_methodNamed B.named
  have hi8 := in_c_settled_8
  have hi11 := in_c_settled_11
  have hP : va_P (dC, dI) vwCl [(h, .inr (11, [.ref g0, .ref g1, .ref g2, .ref g3, .ref g4, .ref g5, .ref g6, .ref g7])), (g0, .inr (8, [.ref t0, .ref t1, .ref t2, .ref t3, .ref t4, .ref t5, .int x6, .int x7, .int x8])), (t1, .inl (k 0, 4, .inl (fun _ => 0)))] s.heap := hP
  have hl := lv_entry ([.ref h, .int p0, .int p1, .int p2]) (n := 5) (Nat.le_of_ble_eq_true rfl)
  rw [lg_entry_eq]
  generalize (lg_sl ([.ref h, .int p0, .int p1, .int p2]) ++ List.replicate (5 - (lg_sl ([.ref h, .int p0, .int p1, .int p2])).length) Slot.unset).toArray = ls at hl ⊢
  have hl : lv_has ls 5 [(0, .ref h), (1, .int p0), (2, .int p1), (3, .int p2)] := hl
  refine lv_aload_n hx hb dX11_settled_0 rfl (lv_at hl 0 rfl) ?_
  refine va_get (D := (dC, dI)) (ci := 11) (v := .ref g0) (C := RX11) (T := TX11) (N := 8) hx hb hts hi11 hown hK hP 0 rfl rfl 0 (by decide) (hts (.fieldLink RX11 10 "HeightFine" "told" "LHeightFine$Told;") (by decide +kernel)) (fun _ h9 => h9) rfl dX11_settled_1 ?_
  refine lv_iload_n hx hb dX11_settled_4 rfl (lv_at hl 1 rfl) ?_
  have hPc := hP.sub (ws' := [(g0, .inr (8, [.ref t0, .ref t1, .ref t2, .ref t3, .ref t4, .ref t5, .int x6, .int x7, .int x8])), (t1, .inl (k 0, 4, .inl (fun _ => 0)))]) [1, 2] rfl
  refine va_csq (W.runV (As := [.int p0]) (rest := []) ⟨hx, hb, hml, hown, hts⟩ (c_boroughAt l dC dI k g0 t0 t1 t2 t3 t4 t5 x6 x7 x8 p0) (cwV 1 hts gc_settled_c_boroughAt rfl rfl rfl (by decide +kernel) ⟨Nat.le_of_ble_eq_true rfl, Nat.le_of_ble_eq_true rfl⟩) ⟨prR_blind, va_recv hK hPc (ci := 8) (q0 := 0) rfl rfl, fun U hU hW => ⟨rfl, prR_go hPc hK hU hW⟩⟩ rfl rfl hl.1 rfl (lv_room (Nat.le_of_ble_eq_true rfl)) dX11_settled_5 ⟨by decide +kernel, by decide +kernel⟩) (fun r_1 er_1 => ?_)
  subst er_1
  refine W.eq (g2 := F0 m 8 ls [.null]) rfl ?_
  refine lv_astoreN (lv' := [(4, .null), (0, .ref h), (1, .int p0), (2, .int p1), (3, .int p2)]) hx hb dX11_settled_8 hl (by decide) rfl (fun ls hl => ?_)
  refine lv_aloadN hx hb dX11_settled_10 (lv_at hl 0 rfl) ?_
  refine lv_ifnullN (tgt := 33) hx hb dX11_settled_12 (by decide) ?_
  refine lv_iconst (v := (-1)) hx hb dX11_settled_33 (by decide) ?_
  exact W.iret (v := (-1)) hx hb hr (fun t ht hW => ⟨(-1), rfl, rfl, ht⟩) (fun q h => absurd h List.not_mem_nil) dX11_settled_34

def ws_c_state : List Cond := .code yX11_state cX11_state 6 (some .int) :: ([.fieldLink RX11 10 "HeightFine" "told" "LHeightFine$Told;", .methodLink RX11 94 yX8_boroughAt, .instanceMethod yX8_boroughAt, .selects RX8 yX8_boroughAt yX8_boroughAt, .initialized RX8, .code yX8_boroughAt cX8_boroughAt 2 (some (.object "HeightFine$Borough")), .methodLink RX8 76 yX8_holds, .instanceMethod yX8_holds, .selects RX8 yX8_holds yX8_holds, .code yX8_holds cX8_holds 3 (some .boolean), .fieldLink RX8 15 "HeightFine$Told" "counts" "[I"] ++ u_ws RX8 TX8 9 ++ u_ws RX11 TX11 8)
set_option maxRecDepth 20000 in
theorem in_c_state_8 : ∀ w ∈ u_ws RX8 TX8 9, w ∈ ws_c_state := by decide +kernel
set_option maxRecDepth 20000 in
theorem in_c_state_11 : ∀ w ∈ u_ws RX11 TX11 8, w ∈ ws_c_state := by decide +kernel
set_option maxRecDepth 20000 in
theorem gc_state_c_boroughAt : GoodIn ws_c_state (wsV RX11 94 RX8 yX8_boroughAt ws_c_boroughAt) := goodIn_app (goodIn_of _ (by decide +kernel)) (goodIn_r _ [6, 7, 8, 9, 5, 10, 11, 12, 13, 14, 15, 16, 17, 18, 19, 20] (by decide +kernel) (by decide +kernel))
set_option maxHeartbeats 4000000 in
set_option maxRecDepth 100000 in
theorem c_state (l : Launch) (dC : Nat → ClassId) (dI : Nat → Nat → Nat) (k : Nat → ClassId) (h : Nat) (g0 : Nat) (g1 : Nat) (g2 : Nat) (g3 : Nat) (g4 : Nat) (g5 : Nat) (g6 : Nat) (g7 : Nat) (t0 : Nat) (t1 : Nat) (t2 : Nat) (t3 : Nat) (t4 : Nat) (t5 : Nat) (x6 : Int32) (x7 : Int32) (x8 : Int32) (p0 : Int32) (p1 : Int32) (p2 : Int32) (p3 : Int32) : Met l yX11_state ws_c_state ({ frames := 2, cells := 0, slots := 0, locals := 43 }) (va_Pc [.ref h, .int p0, .int p1, .int p2, .int p3] (prR dC dI k [(h, .inr (11, [.ref g0, .ref g1, .ref g2, .ref g3, .ref g4, .ref g5, .ref g6, .ref g7])), (g0, .inr (8, [.ref t0, .ref t1, .ref t2, .ref t3, .ref t4, .ref t5, .int x6, .int x7, .int x8])), (t1, .inl (k 0, 4, .inl (fun _ => 0)))])) (vp_Si (fun r => r = (-2))) 0 0 (fun _ => False) := by
  refine Met.ofW (cc := cX11_state) (maxL := 6) (ret := (some .int)) (by decide) rfl ?_
  intro p e s m args below meth c s₁ B hml hv
  obtain ⟨rfl, hP, hK⟩ := hv
  have hx := B.exec
  have hb := B.bytes
  have hr := B.returns
  have hts := atoms_spec (ws := ws_c_state) B.pre
  have hown : s.vm.findClass RX11 = some m.cls := findClass_of_methodNamed B.named
  have hi8 := in_c_state_8
  have hi11 := in_c_state_11
  have hP : va_P (dC, dI) vwCl [(h, .inr (11, [.ref g0, .ref g1, .ref g2, .ref g3, .ref g4, .ref g5, .ref g6, .ref g7])), (g0, .inr (8, [.ref t0, .ref t1, .ref t2, .ref t3, .ref t4, .ref t5, .int x6, .int x7, .int x8])), (t1, .inl (k 0, 4, .inl (fun _ => 0)))] s.heap := hP
  have hl := lv_entry ([.ref h, .int p0, .int p1, .int p2, .int p3]) (n := 6) (Nat.le_of_ble_eq_true rfl)
  rw [lg_entry_eq]
  generalize (lg_sl ([.ref h, .int p0, .int p1, .int p2, .int p3]) ++ List.replicate (6 - (lg_sl ([.ref h, .int p0, .int p1, .int p2, .int p3])).length) Slot.unset).toArray = ls at hl ⊢
  have hl : lv_has ls 6 [(0, .ref h), (1, .int p0), (2, .int p1), (3, .int p2), (4, .int p3)] := hl
  refine lv_aload_n hx hb dX11_state_0 rfl (lv_at hl 0 rfl) ?_
  refine va_get (D := (dC, dI)) (ci := 11) (v := .ref g0) (C := RX11) (T := TX11) (N := 8) hx hb hts hi11 hown hK hP 0 rfl rfl 0 (by decide) (hts (.fieldLink RX11 10 "HeightFine" "told" "LHeightFine$Told;") (by decide +kernel)) (fun _ h9 => h9) rfl dX11_state_1 ?_
  refine lv_iload_n hx hb dX11_state_4 rfl (lv_at hl 1 rfl) ?_
  have hPc := hP.sub (ws' := [(g0, .inr (8, [.ref t0, .ref t1, .ref t2, .ref t3, .ref t4, .ref t5, .int x6, .int x7, .int x8])), (t1, .inl (k 0, 4, .inl (fun _ => 0)))]) [1, 2] rfl
  refine va_csq (W.runV (As := [.int p0]) (rest := []) ⟨hx, hb, hml, hown, hts⟩ (c_boroughAt l dC dI k g0 t0 t1 t2 t3 t4 t5 x6 x7 x8 p0) (cwV 1 hts gc_state_c_boroughAt rfl rfl rfl (by decide +kernel) ⟨Nat.le_of_ble_eq_true rfl, Nat.le_of_ble_eq_true rfl⟩) ⟨prR_blind, va_recv hK hPc (ci := 8) (q0 := 0) rfl rfl, fun U hU hW => ⟨rfl, prR_go hPc hK hU hW⟩⟩ rfl rfl hl.1 rfl (lv_room (Nat.le_of_ble_eq_true rfl)) dX11_state_5 ⟨by decide +kernel, by decide +kernel⟩) (fun r_1 er_1 => ?_)
  subst er_1
  refine W.eq (g2 := F0 m 8 ls [.null]) rfl ?_
  refine lv_astoreN (lv' := [(5, .null), (0, .ref h), (1, .int p0), (2, .int p1), (3, .int p2), (4, .int p3)]) hx hb dX11_state_8 hl (by decide) rfl (fun ls hl => ?_)
  refine lv_aloadN hx hb dX11_state_10 (lv_at hl 0 rfl) ?_
  refine lv_ifnullN (tgt := 33) hx hb dX11_state_12 (by decide) ?_
  refine lv_bipush (v := (-2)) hx hb dX11_state_33 (by decide) ?_
  exact W.iret (v := (-2)) hx hb hr (fun t ht hW => ⟨(-2), rfl, rfl, ht⟩) (fun q h => absurd h List.not_mem_nil) dX11_state_35

def ws_c_rows : List Cond := .code yX11_rows cX11_rows 7 (some .long) :: ([.fieldLink RX11 10 "HeightFine" "told" "LHeightFine$Told;", .methodLink RX11 94 yX8_boroughAt, .instanceMethod yX8_boroughAt, .selects RX8 yX8_boroughAt yX8_boroughAt, .initialized RX8, .code yX8_boroughAt cX8_boroughAt 2 (some (.object "HeightFine$Borough")), .methodLink RX8 76 yX8_holds, .instanceMethod yX8_holds, .selects RX8 yX8_holds yX8_holds, .code yX8_holds cX8_holds 3 (some .boolean), .fieldLink RX8 15 "HeightFine$Told" "counts" "[I", .constantLong RX11 224 (-1)] ++ u_ws RX8 TX8 9 ++ u_ws RX11 TX11 8)
set_option maxRecDepth 20000 in
theorem in_c_rows_8 : ∀ w ∈ u_ws RX8 TX8 9, w ∈ ws_c_rows := by decide +kernel
set_option maxRecDepth 20000 in
theorem in_c_rows_11 : ∀ w ∈ u_ws RX11 TX11 8, w ∈ ws_c_rows := by decide +kernel
set_option maxRecDepth 20000 in
theorem gc_rows_c_boroughAt : GoodIn ws_c_rows (wsV RX11 94 RX8 yX8_boroughAt ws_c_boroughAt) := goodIn_app (goodIn_of _ (by decide +kernel)) (goodIn_r _ [6, 7, 8, 9, 5, 10, 11, 13, 14, 15, 16, 17, 18, 19, 20, 21] (by decide +kernel) (by decide +kernel))
set_option maxHeartbeats 4000000 in
set_option maxRecDepth 100000 in
theorem c_rows (l : Launch) (dC : Nat → ClassId) (dI : Nat → Nat → Nat) (k : Nat → ClassId) (h : Nat) (g0 : Nat) (g1 : Nat) (g2 : Nat) (g3 : Nat) (g4 : Nat) (g5 : Nat) (g6 : Nat) (g7 : Nat) (t0 : Nat) (t1 : Nat) (t2 : Nat) (t3 : Nat) (t4 : Nat) (t5 : Nat) (x6 : Int32) (x7 : Int32) (x8 : Int32) (p0 : Int32) (p1 : Int32) (p2 : Int32) (p3 : Int32) (p4 : Int32) : Met l yX11_rows ws_c_rows ({ frames := 2, cells := 0, slots := 0, locals := 43 }) (va_Pc [.ref h, .int p0, .int p1, .int p2, .int p3, .int p4] (prR dC dI k [(h, .inr (11, [.ref g0, .ref g1, .ref g2, .ref g3, .ref g4, .ref g5, .ref g6, .ref g7])), (g0, .inr (8, [.ref t0, .ref t1, .ref t2, .ref t3, .ref t4, .ref t5, .int x6, .int x7, .int x8])), (t1, .inl (k 0, 4, .inl (fun _ => 0)))])) (vp_Sl (fun r => r = (-1))) 0 0 (fun _ => False) := by
  refine Met.ofW (cc := cX11_rows) (maxL := 7) (ret := (some .long)) (by decide) rfl ?_
  intro p e s m args below meth c s₁ B hml hv
  obtain ⟨rfl, hP, hK⟩ := hv
  have hx := B.exec
  have hb := B.bytes
  have hr := B.returns
  have hts := atoms_spec (ws := ws_c_rows) B.pre
  have hown : s.vm.findClass RX11 = some m.cls := findClass_of_methodNamed B.named
  have hi8 := in_c_rows_8
  have hi11 := in_c_rows_11
  have hP : va_P (dC, dI) vwCl [(h, .inr (11, [.ref g0, .ref g1, .ref g2, .ref g3, .ref g4, .ref g5, .ref g6, .ref g7])), (g0, .inr (8, [.ref t0, .ref t1, .ref t2, .ref t3, .ref t4, .ref t5, .int x6, .int x7, .int x8])), (t1, .inl (k 0, 4, .inl (fun _ => 0)))] s.heap := hP
  have hl := lv_entry ([.ref h, .int p0, .int p1, .int p2, .int p3, .int p4]) (n := 7) (Nat.le_of_ble_eq_true rfl)
  rw [lg_entry_eq]
  generalize (lg_sl ([.ref h, .int p0, .int p1, .int p2, .int p3, .int p4]) ++ List.replicate (7 - (lg_sl ([.ref h, .int p0, .int p1, .int p2, .int p3, .int p4])).length) Slot.unset).toArray = ls at hl ⊢
  have hl : lv_has ls 7 [(0, .ref h), (1, .int p0), (2, .int p1), (3, .int p2), (4, .int p3), (5, .int p4)] := hl
  refine lv_aload_n hx hb dX11_rows_0 rfl (lv_at hl 0 rfl) ?_
  refine va_get (D := (dC, dI)) (ci := 11) (v := .ref g0) (C := RX11) (T := TX11) (N := 8) hx hb hts hi11 hown hK hP 0 rfl rfl 0 (by decide) (hts (.fieldLink RX11 10 "HeightFine" "told" "LHeightFine$Told;") (by decide +kernel)) (fun _ h9 => h9) rfl dX11_rows_1 ?_
  refine lv_iload_n hx hb dX11_rows_4 rfl (lv_at hl 1 rfl) ?_
  have hPc := hP.sub (ws' := [(g0, .inr (8, [.ref t0, .ref t1, .ref t2, .ref t3, .ref t4, .ref t5, .int x6, .int x7, .int x8])), (t1, .inl (k 0, 4, .inl (fun _ => 0)))]) [1, 2] rfl
  refine va_csq (W.runV (As := [.int p0]) (rest := []) ⟨hx, hb, hml, hown, hts⟩ (c_boroughAt l dC dI k g0 t0 t1 t2 t3 t4 t5 x6 x7 x8 p0) (cwV 1 hts gc_rows_c_boroughAt rfl rfl rfl (by decide +kernel) ⟨Nat.le_of_ble_eq_true rfl, Nat.le_of_ble_eq_true rfl⟩) ⟨prR_blind, va_recv hK hPc (ci := 8) (q0 := 0) rfl rfl, fun U hU hW => ⟨rfl, prR_go hPc hK hU hW⟩⟩ rfl rfl hl.1 rfl (lv_room (Nat.le_of_ble_eq_true rfl)) dX11_rows_5 ⟨by decide +kernel, by decide +kernel⟩) (fun r_1 er_1 => ?_)
  subst er_1
  refine W.eq (g2 := F0 m 8 ls [.null]) rfl ?_
  refine lv_astoreN (lv' := [(6, .null), (0, .ref h), (1, .int p0), (2, .int p1), (3, .int p2), (4, .int p3), (5, .int p4)]) hx hb dX11_rows_8 hl (by decide) rfl (fun ls hl => ?_)
  refine lv_aloadN hx hb dX11_rows_10 (lv_at hl 0 rfl) ?_
  refine lv_ifnullN (tgt := 44) hx hb dX11_rows_12 (by decide) ?_
  refine lv_ldc2 (v := (-1)) hx hb hown (hts (.constantLong RX11 224 (-1)) (by decide +kernel)) dX11_rows_44 ?_
  exact W.lret (v := (-1)) hx hb hr (fun t ht hW => ⟨(-1), rfl, rfl, ht⟩) (fun q h => absurd h List.not_mem_nil) dX11_rows_47

def ws_c_views : List Cond := .code yX11_views cX11_views 4 (some .long) :: ([.fieldLink RX11 10 "HeightFine" "told" "LHeightFine$Told;", .methodLink RX11 94 yX8_boroughAt, .instanceMethod yX8_boroughAt, .selects RX8 yX8_boroughAt yX8_boroughAt, .initialized RX8, .code yX8_boroughAt cX8_boroughAt 2 (some (.object "HeightFine$Borough")), .methodLink RX8 76 yX8_holds, .instanceMethod yX8_holds, .selects RX8 yX8_holds yX8_holds, .code yX8_holds cX8_holds 3 (some .boolean), .fieldLink RX8 15 "HeightFine$Told" "counts" "[I", .constantLong RX11 224 (-1)] ++ u_ws RX8 TX8 9 ++ u_ws RX11 TX11 8)
set_option maxRecDepth 20000 in
theorem in_c_views_8 : ∀ w ∈ u_ws RX8 TX8 9, w ∈ ws_c_views := by decide +kernel
set_option maxRecDepth 20000 in
theorem in_c_views_11 : ∀ w ∈ u_ws RX11 TX11 8, w ∈ ws_c_views := by decide +kernel
set_option maxRecDepth 20000 in
theorem gc_views_c_boroughAt : GoodIn ws_c_views (wsV RX11 94 RX8 yX8_boroughAt ws_c_boroughAt) := goodIn_app (goodIn_of _ (by decide +kernel)) (goodIn_r _ [6, 7, 8, 9, 5, 10, 11, 13, 14, 15, 16, 17, 18, 19, 20, 21] (by decide +kernel) (by decide +kernel))
set_option maxHeartbeats 4000000 in
set_option maxRecDepth 100000 in
theorem c_views (l : Launch) (dC : Nat → ClassId) (dI : Nat → Nat → Nat) (k : Nat → ClassId) (h : Nat) (g0 : Nat) (g1 : Nat) (g2 : Nat) (g3 : Nat) (g4 : Nat) (g5 : Nat) (g6 : Nat) (g7 : Nat) (t0 : Nat) (t1 : Nat) (t2 : Nat) (t3 : Nat) (t4 : Nat) (t5 : Nat) (x6 : Int32) (x7 : Int32) (x8 : Int32) (p0 : Int32) (p1 : Int32) : Met l yX11_views ws_c_views ({ frames := 2, cells := 0, slots := 0, locals := 43 }) (va_Pc [.ref h, .int p0, .int p1] (prR dC dI k [(h, .inr (11, [.ref g0, .ref g1, .ref g2, .ref g3, .ref g4, .ref g5, .ref g6, .ref g7])), (g0, .inr (8, [.ref t0, .ref t1, .ref t2, .ref t3, .ref t4, .ref t5, .int x6, .int x7, .int x8])), (t1, .inl (k 0, 4, .inl (fun _ => 0)))])) (vp_Sl (fun r => r = (-1))) 0 0 (fun _ => False) := by
  refine Met.ofW (cc := cX11_views) (maxL := 4) (ret := (some .long)) (by decide) rfl ?_
  intro p e s m args below meth c s₁ B hml hv
  obtain ⟨rfl, hP, hK⟩ := hv
  have hx := B.exec
  have hb := B.bytes
  have hr := B.returns
  have hts := atoms_spec (ws := ws_c_views) B.pre
  have hown : s.vm.findClass RX11 = some m.cls := findClass_of_methodNamed B.named
  have hi8 := in_c_views_8
  have hi11 := in_c_views_11
  have hP : va_P (dC, dI) vwCl [(h, .inr (11, [.ref g0, .ref g1, .ref g2, .ref g3, .ref g4, .ref g5, .ref g6, .ref g7])), (g0, .inr (8, [.ref t0, .ref t1, .ref t2, .ref t3, .ref t4, .ref t5, .int x6, .int x7, .int x8])), (t1, .inl (k 0, 4, .inl (fun _ => 0)))] s.heap := hP
  have hl := lv_entry ([.ref h, .int p0, .int p1]) (n := 4) (Nat.le_of_ble_eq_true rfl)
  rw [lg_entry_eq]
  generalize (lg_sl ([.ref h, .int p0, .int p1]) ++ List.replicate (4 - (lg_sl ([.ref h, .int p0, .int p1])).length) Slot.unset).toArray = ls at hl ⊢
  have hl : lv_has ls 4 [(0, .ref h), (1, .int p0), (2, .int p1)] := hl
  refine lv_aload_n hx hb dX11_views_0 rfl (lv_at hl 0 rfl) ?_
  refine va_get (D := (dC, dI)) (ci := 11) (v := .ref g0) (C := RX11) (T := TX11) (N := 8) hx hb hts hi11 hown hK hP 0 rfl rfl 0 (by decide) (hts (.fieldLink RX11 10 "HeightFine" "told" "LHeightFine$Told;") (by decide +kernel)) (fun _ h9 => h9) rfl dX11_views_1 ?_
  refine lv_iload_n hx hb dX11_views_4 rfl (lv_at hl 1 rfl) ?_
  have hPc := hP.sub (ws' := [(g0, .inr (8, [.ref t0, .ref t1, .ref t2, .ref t3, .ref t4, .ref t5, .int x6, .int x7, .int x8])), (t1, .inl (k 0, 4, .inl (fun _ => 0)))]) [1, 2] rfl
  refine va_csq (W.runV (As := [.int p0]) (rest := []) ⟨hx, hb, hml, hown, hts⟩ (c_boroughAt l dC dI k g0 t0 t1 t2 t3 t4 t5 x6 x7 x8 p0) (cwV 1 hts gc_views_c_boroughAt rfl rfl rfl (by decide +kernel) ⟨Nat.le_of_ble_eq_true rfl, Nat.le_of_ble_eq_true rfl⟩) ⟨prR_blind, va_recv hK hPc (ci := 8) (q0 := 0) rfl rfl, fun U hU hW => ⟨rfl, prR_go hPc hK hU hW⟩⟩ rfl rfl hl.1 rfl (lv_room (Nat.le_of_ble_eq_true rfl)) dX11_views_5 ⟨by decide +kernel, by decide +kernel⟩) (fun r_1 er_1 => ?_)
  subst er_1
  refine W.eq (g2 := F0 m 8 ls [.null]) rfl ?_
  refine lv_astore_nN (lv' := [(3, .null), (0, .ref h), (1, .int p0), (2, .int p1)]) hx hb dX11_views_8 rfl hl (by decide) rfl (fun ls hl => ?_)
  refine lv_aload_nN hx hb dX11_views_9 rfl (lv_at hl 0 rfl) ?_
  refine lv_ifnonnullN hx hb dX11_views_10 ?_
  refine lv_ldc2 (v := (-1)) hx hb hown (hts (.constantLong RX11 224 (-1)) (by decide +kernel)) dX11_views_13 ?_
  refine lv_goto (tgt := 28) hx hb dX11_views_16 (by decide) ?_
  exact W.lret (v := (-1)) hx hb hr (fun t ht hW => ⟨(-1), rfl, rfl, ht⟩) (fun q h => absurd h List.not_mem_nil) dX11_views_28
