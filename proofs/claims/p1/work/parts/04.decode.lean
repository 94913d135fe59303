theorem dX11_assumed_0 : decode cX11_assumed 0 = .ok (.aload_n 0, 1) := by decide +kernel
theorem dX11_assumed_1 : decode cX11_assumed 1 = .ok (.getfield 10, 3) := by decide +kernel
theorem dX11_assumed_4 : decode cX11_assumed 4 = .ok (.iload_n 1, 1) := by decide +kernel
theorem dX11_assumed_5 : decode cX11_assumed 5 = .ok (.invokevirtual 94, 3) := by decide +kernel
theorem dX11_assumed_8 : decode cX11_assumed 8 = .ok (.astore 4, 2) := by decide +kernel
theorem dX11_assumed_10 : decode cX11_assumed 10 = .ok (.aload 4, 2) := by decide +kernel
theorem dX11_assumed_12 : decode cX11_assumed 12 = .ok (.ifnonnull 5, 3) := by decide +kernel
theorem dX11_assumed_15 : decode cX11_assumed 15 = .ok (.iconst (-1), 1) := by decide +kernel
theorem dX11_assumed_16 : decode cX11_assumed 16 = .ok (.ireturn, 1) := by decide +kernel
theorem dX11_borough_0 : decode cX11_borough 0 = .ok (.aload_n 0, 1) := by decide +kernel
theorem dX11_borough_1 : decode cX11_borough 1 = .ok (.getfield 10, 3) := by decide +kernel
theorem dX11_borough_4 : decode cX11_borough 4 = .ok (.iload_n 1, 1) := by decide +kernel
theorem dX11_borough_5 : decode cX11_borough 5 = .ok (.invokevirtual 94, 3) := by decide +kernel
theorem dX11_borough_8 : decode cX11_borough 8 = .ok (.astore_n 3, 1) := by decide +kernel
theorem dX11_borough_9 : decode cX11_borough 9 = .ok (.aload_n 3, 1) := by decide +kernel
theorem dX11_borough_10 : decode cX11_borough 10 = .ok (.ifnonnull 8, 3) := by decide +kernel
theorem dX11_borough_13 : decode cX11_borough 13 = .ok (.bipush (-2), 2) := by decide +kernel
theorem dX11_borough_15 : decode cX11_borough 15 = .ok (.goto 8, 3) := by decide +kernel
theorem dX11_borough_23 : decode cX11_borough 23 = .ok (.ireturn, 1) := by decide +kernel
theorem dX11_cut_0 : decode cX11_cut 0 = .ok (.aload_n 0, 1) := by decide +kernel
theorem dX11_cut_1 : decode cX11_cut 1 = .ok (.getfield 10, 3) := by decide +kernel
theorem dX11_cut_4 : decode cX11_cut 4 = .ok (.iload_n 1, 1) := by decide +kernel
theorem dX11_cut_5 : decode cX11_cut 5 = .ok (.invokevirtual 94, 3) := by decide +kernel
theorem dX11_cut_8 : decode cX11_cut 8 = .ok (.astore 4, 2) := by decide +kernel
theorem dX11_cut_10 : decode cX11_cut 10 = .ok (.aload 4, 2) := by decide +kernel
theorem dX11_cut_12 : decode cX11_cut 12 = .ok (.ifnull 13, 3) := by decide +kernel
theorem dX11_cut_25 : decode cX11_cut 25 = .ok (.iconst (-1), 1) := by decide +kernel
theorem dX11_cut_26 : decode cX11_cut 26 = .ok (.ireturn, 1) := by decide +kernel
theorem dX11_dares_0 : decode cX11_dares 0 = .ok (.aload_n 0, 1) := by decide +kernel
theorem dX11_dares_1 : decode cX11_dares 1 = .ok (.getfield 10, 3) := by decide +kernel
theorem dX11_dares_4 : decode cX11_dares 4 = .ok (.iload_n 1, 1) := by decide +kernel
theorem dX11_dares_5 : decode cX11_dares 5 = .ok (.invokevirtual 94, 3) := by decide +kernel
theorem dX11_dares_8 : decode cX11_dares 8 = .ok (.astore 5, 2) := by decide +kernel
theorem dX11_dares_10 : decode cX11_dares 10 = .ok (.aload 5, 2) := by decide +kernel
theorem dX11_dares_12 : decode cX11_dares 12 = .ok (.ifnull 12, 3) := by decide +kernel
theorem dX11_dares_24 : decode cX11_dares 24 = .ok (.bipush (-2), 2) := by decide +kernel
theorem dX11_dares_26 : decode cX11_dares 26 = .ok (.ireturn, 1) := by decide +kernel
theorem dX11_deed_0 : decode cX11_deed 0 = .ok (.aload_n 0, 1) := by decide +kernel
theorem dX11_deed_1 : decode cX11_deed 1 = .ok (.getfield 10, 3) := by decide +kernel
theorem dX11_deed_4 : decode cX11_deed 4 = .ok (.iload_n 1, 1) := by decide +kernel
theorem dX11_deed_5 : decode cX11_deed 5 = .ok (.invokevirtual 104, 3) := by decide +kernel
theorem dX11_deed_8 : decode cX11_deed 8 = .ok (.astore 4, 2) := by decide +kernel
theorem dX11_deed_10 : decode cX11_deed 10 = .ok (.aload 4, 2) := by decide +kernel
theorem dX11_deed_12 : decode cX11_deed 12 = .ok (.ifnonnull 6, 3) := by decide +kernel
theorem dX11_deed_15 : decode cX11_deed 15 = .ok (.bipush (-2), 2) := by decide +kernel
theorem dX11_deed_17 : decode cX11_deed 17 = .ok (.ireturn, 1) := by decide +kernel
theorem dX11_drawn_0 : decode cX11_drawn 0 = .ok (.aload_n 0, 1) := by decide +kernel
theorem dX11_drawn_1 : decode cX11_drawn 1 = .ok (.getfield 10, 3) := by decide +kernel
theorem dX11_drawn_4 : decode cX11_drawn 4 = .ok (.iload_n 1, 1) := by decide +kernel
theorem dX11_drawn_5 : decode cX11_drawn 5 = .ok (.invokevirtual 94, 3) := by decide +kernel
theorem dX11_drawn_8 : decode cX11_drawn 8 = .ok (.astore 5, 2) := by decide +kernel
theorem dX11_drawn_10 : decode cX11_drawn 10 = .ok (.aload 5, 2) := by decide +kernel
theorem dX11_drawn_12 : decode cX11_drawn 12 = .ok (.ifnull 21, 3) := by decide +kernel
theorem dX11_drawn_33 : decode cX11_drawn 33 = .ok (.bipush (-2), 2) := by decide +kernel
theorem dX11_drawn_35 : decode cX11_drawn 35 = .ok (.ireturn, 1) := by decide +kernel
theorem dX11_elder_0 : decode cX11_elder 0 = .ok (.aload_n 0, 1) := by decide +kernel
theorem dX11_elder_1 : decode cX11_elder 1 = .ok (.getfield 10, 3) := by decide +kernel
theorem dX11_elder_4 : decode cX11_elder 4 = .ok (.iload_n 1, 1) := by decide +kernel
theorem dX11_elder_5 : decode cX11_elder 5 = .ok (.invokevirtual 94, 3) := by decide +kernel
theorem dX11_elder_8 : decode cX11_elder 8 = .ok (.astore 4, 2) := by decide +kernel
theorem dX11_elder_10 : decode cX11_elder 10 = .ok (.aload 4, 2) := by decide +kernel
theorem dX11_elder_12 : decode cX11_elder 12 = .ok (.ifnull 21, 3) := by decide +kernel
theorem dX11_elder_33 : decode cX11_elder 33 = .ok (.iconst (-1), 1) := by decide +kernel
theorem dX11_elder_34 : decode cX11_elder 34 = .ok (.ireturn, 1) := by decide +kernel
theorem dX11_fact_0 : decode cX11_fact 0 = .ok (.aload_n 0, 1) := by decide +kernel
theorem dX11_fact_1 : decode cX11_fact 1 = .ok (.getfield 10, 3) := by decide +kernel
theorem dX11_fact_4 : decode cX11_fact 4 = .ok (.iload_n 1, 1) := by decide +kernel
theorem dX11_fact_5 : decode cX11_fact 5 = .ok (.invokevirtual 210, 3) := by decide +kernel
theorem dX11_fact_8 : decode cX11_fact 8 = .ok (.astore 4, 2) := by decide +kernel
theorem dX11_fact_10 : decode cX11_fact 10 = .ok (.aload 4, 2) := by decide +kernel
theorem dX11_fact_12 : decode cX11_fact 12 = .ok (.ifnonnull 6, 3) := by decide +kernel
theorem dX11_fact_15 : decode cX11_fact 15 = .ok (.bipush (-2), 2) := by decide +kernel
theorem dX11_fact_17 : decode cX11_fact 17 = .ok (.ireturn, 1) := by decide +kernel
theorem dX11_family_0 : decode cX11_family 0 = .ok (.aload_n 0, 1) := by decide +kernel
theorem dX11_family_1 : decode cX11_family 1 = .ok (.getfield 10, 3) := by decide +kernel
theorem dX11_family_4 : decode cX11_family 4 = .ok (.iload_n 1, 1) := by decide +kernel
theorem dX11_family_5 : decode cX11_family 5 = .ok (.invokevirtual 94, 3) := by decide +kernel
theorem dX11_family_8 : decode cX11_family 8 = .ok (.astore 4, 2) := by decide +kernel
theorem dX11_family_10 : decode cX11_family 10 = .ok (.aload 4, 2) := by decide +kernel
theorem dX11_family_12 : decode cX11_family 12 = .ok (.ifnull 12, 3) := by decide +kernel
theorem dX11_family_24 : decode cX11_family 24 = .ok (.iconst (-1), 1) := by decide +kernel
theorem dX11_family_25 : decode cX11_family 25 = .ok (.ireturn, 1) := by decide +kernel
theorem dX11_hats_0 : decode cX11_hats 0 = .ok (.aload_n 0, 1) := by decide +kernel
theorem dX11_hats_1 : decode cX11_hats 1 = .ok (.getfield 10, 3) := by decide +kernel
theorem dX11_hats_4 : decode cX11_hats 4 = .ok (.iload_n 1, 1) := by decide +kernel
theorem dX11_hats_5 : decode cX11_hats 5 = .ok (.invokevirtual 94, 3) := by decide +kernel
theorem dX11_hats_8 : decode cX11_hats 8 = .ok (.astore_n 3, 1) := by decide +kernel
theorem dX11_hats_9 : decode cX11_hats 9 = .ok (.aload_n 3, 1) := by decide +kernel
theorem dX11_hats_10 : decode cX11_hats 10 = .ok (.ifnonnull 5, 3) := by decide +kernel
theorem dX11_hats_13 : decode cX11_hats 13 = .ok (.iconst (-1), 1) := by decide +kernel
theorem dX11_hats_14 : decode cX11_hats 14 = .ok (.ireturn, 1) := by decide +kernel
theorem dX11_ledger_0 : decode cX11_ledger 0 = .ok (.aload_n 0, 1) := by decide +kernel
theorem dX11_ledger_1 : decode cX11_ledger 1 = .ok (.getfield 10, 3) := by decide +kernel
theorem dX11_ledger_4 : decode cX11_ledger 4 = .ok (.iload_n 1, 1) := by decide +kernel
theorem dX11_ledger_5 : decode cX11_ledger 5 = .ok (.invokevirtual 184, 3) := by decide +kernel
theorem dX11_ledger_8 : decode cX11_ledger 8 = .ok (.astore_n 3, 1) := by decide +kernel
theorem dX11_ledger_9 : decode cX11_ledger 9 = .ok (.aload_n 3, 1) := by decide +kernel
theorem dX11_ledger_10 : decode cX11_ledger 10 = .ok (.ifnonnull 6, 3) := by decide +kernel
theorem dX11_ledger_13 : decode cX11_ledger 13 = .ok (.bipush (-2), 2) := by decide +kernel
theorem dX11_ledger_15 : decode cX11_ledger 15 = .ok (.ireturn, 1) := by decide +kernel
theorem dX11_love_0 : decode cX11_love 0 = .ok (.aload_n 0, 1) := by decide +kernel
theorem dX11_love_1 : decode cX11_love 1 = .ok (.getfield 10, 3) := by decide +kernel
theorem dX11_love_4 : decode cX11_love 4 = .ok (.iload_n 1, 1) := by decide +kernel
theorem dX11_love_5 : decode cX11_love 5 = .ok (.invokevirtual 94, 3) := by decide +kernel
theorem dX11_love_8 : decode cX11_love 8 = .ok (.astore 4, 2) := by decide +kernel
theorem dX11_love_10 : decode cX11_love 10 = .ok (.aload 4, 2) := by decide +kernel
theorem dX11_love_12 : decode cX11_love 12 = .ok (.ifnull 13, 3) := by decide +kernel
theorem dX11_love_25 : decode cX11_love 25 = .ok (.iconst (-1), 1) := by decide +kernel
theorem dX11_love_26 : decode cX11_love 26 = .ok (.ireturn, 1) := by decide +kernel
theorem dX11_reached_0 : decode cX11_reached 0 = .ok (.aload_n 0, 1) := by decide +kernel
theorem dX11_reached_1 : decode cX11_reached 1 = .ok (.getfield 10, 3) := by decide +kernel
theorem dX11_reached_4 : decode cX11_reached 4 = .ok (.iload_n 1, 1) := by decide +kernel
theorem dX11_reached_5 : decode cX11_reached 5 = .ok (.invokevirtual 94, 3) := by decide +kernel
theorem dX11_reached_8 : decode cX11_reached 8 = .ok (.astore 4, 2) := by decide +kernel
theorem dX11_reached_10 : decode cX11_reached 10 = .ok (.aload 4, 2) := by decide +kernel
theorem dX11_reached_12 : decode cX11_reached 12 = .ok (.ifnull 13, 3) := by decide +kernel
theorem dX11_reached_25 : decode cX11_reached 25 = .ok (.iconst (-1), 1) := by decide +kernel
theorem dX11_reached_26 : decode cX11_reached 26 = .ok (.ireturn, 1) := by decide +kernel
theorem dX11_rows_0 : decode cX11_rows 0 = .ok (.aload_n 0, 1) := by decide +kernel
theorem dX11_rows_1 : decode cX11_rows 1 = .ok (.getfield 10, 3) := by decide +kernel
theorem dX11_rows_4 : decode cX11_rows 4 = .ok (.iload_n 1, 1) := by decide +kernel
theorem dX11_rows_5 : decode cX11_rows 5 = .ok (.invokevirtual 94, 3) := by decide +kernel
theorem dX11_rows_8 : decode cX11_rows 8 = .ok (.astore 6, 2) := by decide +kernel
theorem dX11_rows_10 : decode cX11_rows 10 = .ok (.aload 6, 2) := by decide +kernel
theorem dX11_rows_12 : decode cX11_rows 12 = .ok (.ifnull 32, 3) := by decide +kernel
theorem dX11_rows_44 : decode cX11_rows 44 = .ok (.ldc2_w 224, 3) := by decide +kernel
theorem dX11_rows_47 : decode cX11_rows 47 = .ok (.lreturn, 1) := by decide +kernel
theorem dX11_settled_0 : decode cX11_settled 0 = .ok (.aload_n 0, 1) := by decide +kernel
theorem dX11_settled_1 : decode cX11_settled 1 = .ok (.getfield 10, 3) := by decide +kernel
theorem dX11_settled_4 : decode cX11_settled 4 = .ok (.iload_n 1, 1) := by decide +kernel
theorem dX11_settled_5 : decode cX11_settled 5 = .ok (.invokevirtual 94, 3) := by decide +kernel
theorem dX11_settled_8 : decode cX11_settled 8 = .ok (.astore 4, 2) := by decide +kernel
theorem dX11_settled_10 : decode cX11_settled 10 = .ok (.aload 4, 2) := by decide +kernel
theorem dX11_settled_12 : decode cX11_settled 12 = .ok (.ifnull 21, 3) := by decide +kernel
theorem dX11_settled_33 : decode cX11_settled 33 = .ok (.iconst (-1), 1) := by decide +kernel
theorem dX11_settled_34 : decode cX11_settled 34 = .ok (.ireturn, 1) := by decide +kernel
theorem dX11_share_0 : decode cX11_share 0 = .ok (.aload_n 0, 1) := by decide +kernel
theorem dX11_share_1 : decode cX11_share 1 = .ok (.getfield 10, 3) := by decide +kernel
theorem dX11_share_4 : decode cX11_share 4 = .ok (.iload_n 1, 1) := by decide +kernel
theorem dX11_share_5 : decode cX11_share 5 = .ok (.invokevirtual 94, 3) := by decide +kernel
theorem dX11_share_8 : decode cX11_share 8 = .ok (.astore 5, 2) := by decide +kernel
theorem dX11_share_10 : decode cX11_share 10 = .ok (.aload 5, 2) := by decide +kernel
theorem dX11_share_12 : decode cX11_share 12 = .ok (.ifnull 23, 3) := by decide +kernel
theorem dX11_share_35 : decode cX11_share 35 = .ok (.iconst (-1), 1) := by decide +kernel
theorem dX11_share_36 : decode cX11_share 36 = .ok (.ireturn, 1) := by decide +kernel
theorem dX11_shoulders_0 : decode cX11_shoulders 0 = .ok (.aload_n 0, 1) := by decide +kernel
theorem dX11_shoulders_1 : decode cX11_shoulders 1 = .ok (.getfield 10, 3) := by decide +kernel
theorem dX11_shoulders_4 : decode cX11_shoulders 4 = .ok (.iload_n 1, 1) := by decide +kernel
theorem dX11_shoulders_5 : decode cX11_shoulders 5 = .ok (.invokevirtual 94, 3) := by decide +kernel
theorem dX11_shoulders_8 : decode cX11_shoulders 8 = .ok (.astore_n 3, 1) := by decide +kernel
theorem dX11_shoulders_9 : decode cX11_shoulders 9 = .ok (.aload_n 3, 1) := by decide +kernel
theorem dX11_shoulders_10 : decode cX11_shoulders 10 = .ok (.ifnonnull 7, 3) := by decide +kernel
theorem dX11_shoulders_13 : decode cX11_shoulders 13 = .ok (.iconst (-1), 1) := by decide +kernel
theorem dX11_shoulders_14 : decode cX11_shoulders 14 = .ok (.goto 19, 3) := by decide +kernel
theorem dX11_shoulders_33 : decode cX11_shoulders 33 = .ok (.ireturn, 1) := by decide +kernel
theorem dX11_state_0 : decode cX11_state 0 = .ok (.aload_n 0, 1) := by decide +kernel
theorem dX11_state_1 : decode cX11_state 1 = .ok (.getfield 10, 3) := by decide +kernel
theorem dX11_state_4 : decode cX11_state 4 = .ok (.iload_n 1, 1) := by decide +kernel
theorem dX11_state_5 : decode cX11_state 5 = .ok (.invokevirtual 94, 3) := by decide +kernel
theorem dX11_state_8 : decode cX11_state 8 = .ok (.astore 5, 2) := by decide +kernel
theorem dX11_state_10 : decode cX11_state 10 = .ok (.aload 5, 2) := by decide +kernel
theorem dX11_state_12 : decode cX11_state 12 = .ok (.ifnull 21, 3) := by decide +kernel
theorem dX11_state_33 : decode cX11_state 33 = .ok (.bipush (-2), 2) := by decide +kernel
theorem dX11_state_35 : decode cX11_state 35 = .ok (.ireturn, 1) := by decide +kernel
theorem dX11_stop_0 : decode cX11_stop 0 = .ok (.aload_n 0, 1) := by decide +kernel
theorem dX11_stop_1 : decode cX11_stop 1 = .ok (.getfield 10, 3) := by decide +kernel
theorem dX11_stop_4 : decode cX11_stop 4 = .ok (.iload_n 1, 1) := by decide +kernel
theorem dX11_stop_5 : decode cX11_stop 5 = .ok (.invokevirtual 94, 3) := by decide +kernel
theorem dX11_stop_8 : decode cX11_stop 8 = .ok (.astore_n 3, 1) := by decide +kernel
theorem dX11_stop_9 : decode cX11_stop 9 = .ok (.aload_n 0, 1) := by decide +kernel
theorem dX11_stop_10 : decode cX11_stop 10 = .ok (.getfield 10, 3) := by decide +kernel
theorem dX11_stop_13 : decode cX11_stop 13 = .ok (.iload_n 2, 1) := by decide +kernel
theorem dX11_stop_14 : decode cX11_stop 14 = .ok (.invokevirtual 104, 3) := by decide +kernel
theorem dX11_stop_17 : decode cX11_stop 17 = .ok (.astore 4, 2) := by decide +kernel
theorem dX11_stop_19 : decode cX11_stop 19 = .ok (.aload_n 3, 1) := by decide +kernel
theorem dX11_stop_20 : decode cX11_stop 20 = .ok (.ifnull 8, 3) := by decide +kernel
theorem dX11_stop_28 : decode cX11_stop 28 = .ok (.iconst (-1), 1) := by decide +kernel
theorem dX11_stop_29 : decode cX11_stop 29 = .ok (.ireturn, 1) := by decide +kernel
theorem dX11_sure_0 : decode cX11_sure 0 = .ok (.aload_n 0, 1) := by decide +kernel
theorem dX11_sure_1 : decode cX11_sure 1 = .ok (.getfield 10, 3) := by decide +kernel
theorem dX11_sure_4 : decode cX11_sure 4 = .ok (.iload_n 1, 1) := by decide +kernel
theorem dX11_sure_5 : decode cX11_sure 5 = .ok (.invokevirtual 94, 3) := by decide +kernel
theorem dX11_sure_8 : decode cX11_sure 8 = .ok (.astore 5, 2) := by decide +kernel
theorem dX11_sure_10 : decode cX11_sure 10 = .ok (.aload 5, 2) := by decide +kernel
theorem dX11_sure_12 : decode cX11_sure 12 = .ok (.ifnull 21, 3) := by decide +kernel
theorem dX11_sure_33 : decode cX11_sure 33 = .ok (.iconst (-1), 1) := by decide +kernel
theorem dX11_sure_34 : decode cX11_sure 34 = .ok (.ireturn, 1) := by decide +kernel
theorem dX11_teams_0 : decode cX11_teams 0 = .ok (.aload_n 0, 1) := by decide +kernel
theorem dX11_teams_1 : decode cX11_teams 1 = .ok (.getfield 10, 3) := by decide +kernel
theorem dX11_teams_4 : decode cX11_teams 4 = .ok (.iload_n 1, 1) := by decide +kernel
theorem dX11_teams_5 : decode cX11_teams 5 = .ok (.invokevirtual 94, 3) := by decide +kernel
theorem dX11_teams_8 : decode cX11_teams 8 = .ok (.astore_n 3, 1) := by decide +kernel
theorem dX11_teams_9 : decode cX11_teams 9 = .ok (.aload_n 3, 1) := by decide +kernel
theorem dX11_teams_10 : decode cX11_teams 10 = .ok (.ifnull 11, 3) := by decide +kernel
theorem dX11_teams_21 : decode cX11_teams 21 = .ok (.iconst (-1), 1) := by decide +kernel
theorem dX11_teams_22 : decode cX11_teams 22 = .ok (.ireturn, 1) := by decide +kernel
theorem dX11_views_0 : decode cX11_views 0 = .ok (.aload_n 0, 1) := by decide +kernel
theorem dX11_views_1 : decode cX11_views 1 = .ok (.getfield 10, 3) := by decide +kernel
theorem dX11_views_4 : decode cX11_views 4 = .ok (.iload_n 1, 1) := by decide +kernel
theorem dX11_views_5 : decode cX11_views 5 = .ok (.invokevirtual 94, 3) := by decide +kernel
theorem dX11_views_8 : decode cX11_views 8 = .ok (.astore_n 3, 1) := by decide +kernel
theorem dX11_views_9 : decode cX11_views 9 = .ok (.aload_n 3, 1) := by decide +kernel
theorem dX11_views_10 : decode cX11_views 10 = .ok (.ifnonnull 9, 3) := by decide +kernel
theorem dX11_views_13 : decode cX11_views 13 = .ok (.ldc2_w 224, 3) := by decide +kernel
theorem dX11_views_16 : decode cX11_views 16 = .ok (.goto 12, 3) := by decide +kernel
theorem dX11_views_28 : decode cX11_views 28 = .ok (.lreturn, 1) := by decide +kernel
theorem dX8_boroughAt_0 : decode cX8_boroughAt 0 = .ok (.aload_n 0, 1) := by decide +kernel
theorem dX8_boroughAt_1 : decode cX8_boroughAt 1 = .ok (.iconst 0, 1) := by decide +kernel
theorem dX8_boroughAt_2 : decode cX8_boroughAt 2 = .ok (.iload_n 1, 1) := by decide +kernel
theorem dX8_boroughAt_3 : decode cX8_boroughAt 3 = .ok (.invokevirtual 76, 3) := by decide +kernel
theorem dX8_boroughAt_6 : decode cX8_boroughAt 6 = .ok (.ifCond .eq 12, 3) := by decide +kernel
theorem dX8_boroughAt_18 : decode cX8_boroughAt 18 = .ok (.aconst_null, 1) := by decide +kernel
theorem dX8_boroughAt_19 : decode cX8_boroughAt 19 = .ok (.areturn, 1) := by decide +kernel
theorem dX8_holds_0 : decode cX8_holds 0 = .ok (.iload_n 2, 1) := by decide +kernel
theorem dX8_holds_1 : decode cX8_holds 1 = .ok (.ifCond .lt 22, 3) := by decide +kernel
theorem dX8_holds_4 : decode cX8_holds 4 = .ok (.iload_n 2, 1) := by decide +kernel
theorem dX8_holds_5 : decode cX8_holds 5 = .ok (.aload_n 0, 1) := by decide +kernel
theorem dX8_holds_6 : decode cX8_holds 6 = .ok (.getfield 15, 3) := by decide +kernel
theorem dX8_holds_9 : decode cX8_holds 9 = .ok (.iload_n 1, 1) := by decide +kernel
theorem dX8_holds_10 : decode cX8_holds 10 = .ok (.iaload, 1) := by decide +kernel
theorem dX8_holds_11 : decode cX8_holds 11 = .ok (.if_icmp .ge 12, 3) := by decide +kernel
theorem dX8_holds_23 : decode cX8_holds 23 = .ok (.iconst 0, 1) := by decide +kernel
theorem dX8_holds_24 : decode cX8_holds 24 = .ok (.ireturn, 1) := by decide +kernel
theorem dX8_ledgerAt_0 : decode cX8_ledgerAt 0 = .ok (.aload_n 0, 1) := by decide +kernel
theorem dX8_ledgerAt_1 : decode cX8_ledgerAt 1 = .ok (.iconst 2, 1) := by decide +kernel
theorem dX8_ledgerAt_2 : decode cX8_ledgerAt 2 = .ok (.iload_n 1, 1) := by decide +kernel
theorem dX8_ledgerAt_3 : decode cX8_ledgerAt 3 = .ok (.invokevirtual 76, 3) := by decide +kernel
theorem dX8_ledgerAt_6 : decode cX8_ledgerAt 6 = .ok (.ifCond .eq 12, 3) := by decide +kernel
theorem dX8_ledgerAt_18 : decode cX8_ledgerAt 18 = .ok (.aconst_null, 1) := by decide +kernel
theorem dX8_ledgerAt_19 : decode cX8_ledgerAt 19 = .ok (.areturn, 1) := by decide +kernel
theorem dX8_sightAt_0 : decode cX8_sightAt 0 = .ok (.aload_n 0, 1) := by decide +kernel
theorem dX8_sightAt_1 : decode cX8_sightAt 1 = .ok (.iconst 3, 1) := by decide +kernel
theorem dX8_sightAt_2 : decode cX8_sightAt 2 = .ok (.iload_n 1, 1) := by decide +kernel
theorem dX8_sightAt_3 : decode cX8_sightAt 3 = .ok (.invokevirtual 76, 3) := by decide +kernel
theorem dX8_sightAt_6 : decode cX8_sightAt 6 = .ok (.ifCond .eq 12, 3) := by decide +kernel
theorem dX8_sightAt_18 : decode cX8_sightAt 18 = .ok (.aconst_null, 1) := by decide +kernel
theorem dX8_sightAt_19 : decode cX8_sightAt 19 = .ok (.areturn, 1) := by decide +kernel
theorem dX8_yearAt_0 : decode cX8_yearAt 0 = .ok (.aload_n 0, 1) := by decide +kernel
theorem dX8_yearAt_1 : decode cX8_yearAt 1 = .ok (.iconst 1, 1) := by decide +kernel
theorem dX8_yearAt_2 : decode cX8_yearAt 2 = .ok (.iload_n 1, 1) := by decide +kernel
theorem dX8_yearAt_3 : decode cX8_yearAt 3 = .ok (.invokevirtual 76, 3) := by decide +kernel
theorem dX8_yearAt_6 : decode cX8_yearAt 6 = .ok (.ifCond .eq 12, 3) := by decide +kernel
theorem dX8_yearAt_18 : decode cX8_yearAt 18 = .ok (.aconst_null, 1) := by decide +kernel
theorem dX8_yearAt_19 : decode cX8_yearAt 19 = .ok (.areturn, 1) := by decide +kernel
