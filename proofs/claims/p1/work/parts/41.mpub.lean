theorem dX12_borough_0 : decode cX12_borough 0 = .ok (.aload_n 0, 1) := by decide +kernel
theorem dX12_borough_1 : decode cX12_borough 1 = .ok (.iconst 0, 1) := by decide +kernel
theorem dX12_borough_2 : decode cX12_borough 2 = .ok (.putfield 88, 3) := by decide +kernel
theorem dX12_borough_5 : decode cX12_borough 5 = .ok (.aload_n 0, 1) := by decide +kernel
theorem dX12_borough_6 : decode cX12_borough 6 = .ok (.iload_n 1, 1) := by decide +kernel
theorem dX12_borough_7 : decode cX12_borough 7 = .ok (.invokevirtual 306, 3) := by decide +kernel
theorem dX12_borough_10 : decode cX12_borough 10 = .ok (.ifCond .ne 6, 3) := by decide +kernel
theorem dX12_borough_13 : decode cX12_borough 13 = .ok (.bipush (-2), 2) := by decide +kernel
theorem dX12_borough_15 : decode cX12_borough 15 = .ok (.ireturn, 1) := by decide +kernel
theorem dX12_deed_0 : decode cX12_deed 0 = .ok (.aload_n 0, 1) := by decide +kernel
theorem dX12_deed_1 : decode cX12_deed 1 = .ok (.iconst 0, 1) := by decide +kernel
theorem dX12_deed_2 : decode cX12_deed 2 = .ok (.putfield 88, 3) := by decide +kernel
theorem dX12_deed_5 : decode cX12_deed 5 = .ok (.aload_n 0, 1) := by decide +kernel
theorem dX12_deed_6 : decode cX12_deed 6 = .ok (.iload_n 1, 1) := by decide +kernel
theorem dX12_deed_7 : decode cX12_deed 7 = .ok (.invokevirtual 315, 3) := by decide +kernel
theorem dX12_deed_10 : decode cX12_deed 10 = .ok (.ifCond .ne 6, 3) := by decide +kernel
theorem dX12_deed_13 : decode cX12_deed 13 = .ok (.bipush (-2), 2) := by decide +kernel
theorem dX12_deed_15 : decode cX12_deed 15 = .ok (.ireturn, 1) := by decide +kernel
theorem dX12_stop_0 : decode cX12_stop 0 = .ok (.aload_n 0, 1) := by decide +kernel
theorem dX12_stop_1 : decode cX12_stop 1 = .ok (.iconst 0, 1) := by decide +kernel
theorem dX12_stop_2 : decode cX12_stop 2 = .ok (.putfield 88, 3) := by decide +kernel
theorem dX12_stop_5 : decode cX12_stop 5 = .ok (.aload_n 0, 1) := by decide +kernel
theorem dX12_stop_6 : decode cX12_stop 6 = .ok (.iload_n 1, 1) := by decide +kernel
theorem dX12_stop_7 : decode cX12_stop 7 = .ok (.iload_n 2, 1) := by decide +kernel
theorem dX12_stop_8 : decode cX12_stop 8 = .ok (.invokevirtual 351, 3) := by decide +kernel
theorem dX12_stop_11 : decode cX12_stop 11 = .ok (.ifCond .eq 14, 3) := by decide +kernel
theorem dX12_stop_25 : decode cX12_stop 25 = .ok (.iconst (-1), 1) := by decide +kernel
theorem dX12_stop_26 : decode cX12_stop 26 = .ok (.ireturn, 1) := by decide +kernel
theorem dX12_reached_0 : decode cX12_reached 0 = .ok (.aload_n 0, 1) := by decide +kernel
theorem dX12_reached_1 : decode cX12_reached 1 = .ok (.iconst 0, 1) := by decide +kernel
theorem dX12_reached_2 : decode cX12_reached 2 = .ok (.putfield 88, 3) := by decide +kernel
theorem dX12_reached_5 : decode cX12_reached 5 = .ok (.iload_n 2, 1) := by decide +kernel
theorem dX12_reached_6 : decode cX12_reached 6 = .ok (.iconst 0, 1) := by decide +kernel
theorem dX12_reached_7 : decode cX12_reached 7 = .ok (.bipush 99, 2) := by decide +kernel
theorem dX12_reached_9 : decode cX12_reached 9 = .ok (.invokestatic 100, 3) := by decide +kernel
theorem dX12_reached_12 : decode cX12_reached 12 = .ok (.ifCond .eq 36, 3) := by decide +kernel
theorem dX12_reached_15 : decode cX12_reached 15 = .ok (.aload_n 0, 1) := by decide +kernel
theorem dX12_reached_16 : decode cX12_reached 16 = .ok (.iload_n 1, 1) := by decide +kernel
theorem dX12_reached_17 : decode cX12_reached 17 = .ok (.invokevirtual 306, 3) := by decide +kernel
theorem dX12_reached_20 : decode cX12_reached 20 = .ok (.ifCond .eq 28, 3) := by decide +kernel
theorem dX12_reached_48 : decode cX12_reached 48 = .ok (.iconst (-1), 1) := by decide +kernel
theorem dX12_reached_49 : decode cX12_reached 49 = .ok (.ireturn, 1) := by decide +kernel
theorem dX12_cut_0 : decode cX12_cut 0 = .ok (.aload_n 0, 1) := by decide +kernel
theorem dX12_cut_1 : decode cX12_cut 1 = .ok (.iconst 0, 1) := by decide +kernel
theorem dX12_cut_2 : decode cX12_cut 2 = .ok (.putfield 88, 3) := by decide +kernel
theorem dX12_cut_5 : decode cX12_cut 5 = .ok (.iload_n 2, 1) := by decide +kernel
theorem dX12_cut_6 : decode cX12_cut 6 = .ok (.iconst 0, 1) := by decide +kernel
theorem dX12_cut_7 : decode cX12_cut 7 = .ok (.bipush 99, 2) := by decide +kernel
theorem dX12_cut_9 : decode cX12_cut 9 = .ok (.invokestatic 100, 3) := by decide +kernel
theorem dX12_cut_12 : decode cX12_cut 12 = .ok (.ifCond .eq 32, 3) := by decide +kernel
theorem dX12_cut_15 : decode cX12_cut 15 = .ok (.aload_n 0, 1) := by decide +kernel
theorem dX12_cut_16 : decode cX12_cut 16 = .ok (.iload_n 1, 1) := by decide +kernel
theorem dX12_cut_17 : decode cX12_cut 17 = .ok (.invokevirtual 306, 3) := by decide +kernel
theorem dX12_cut_20 : decode cX12_cut 20 = .ok (.ifCond .eq 24, 3) := by decide +kernel
theorem dX12_cut_44 : decode cX12_cut 44 = .ok (.iconst (-1), 1) := by decide +kernel
theorem dX12_cut_45 : decode cX12_cut 45 = .ok (.ireturn, 1) := by decide +kernel
theorem dX12_love_0 : decode cX12_love 0 = .ok (.aload_n 0, 1) := by decide +kernel
theorem dX12_love_1 : decode cX12_love 1 = .ok (.iconst 0, 1) := by decide +kernel
theorem dX12_love_2 : decode cX12_love 2 = .ok (.putfield 88, 3) := by decide +kernel
theorem dX12_love_5 : decode cX12_love 5 = .ok (.iload_n 2, 1) := by decide +kernel
theorem dX12_love_6 : decode cX12_love 6 = .ok (.iconst 0, 1) := by decide +kernel
theorem dX12_love_7 : decode cX12_love 7 = .ok (.bipush 99, 2) := by decide +kernel
theorem dX12_love_9 : decode cX12_love 9 = .ok (.invokestatic 100, 3) := by decide +kernel
theorem dX12_love_12 : decode cX12_love 12 = .ok (.ifCond .eq 11, 3) := by decide +kernel
theorem dX12_love_15 : decode cX12_love 15 = .ok (.aload_n 0, 1) := by decide +kernel
theorem dX12_love_16 : decode cX12_love 16 = .ok (.iload_n 1, 1) := by decide +kernel
theorem dX12_love_17 : decode cX12_love 17 = .ok (.invokevirtual 306, 3) := by decide +kernel
theorem dX12_love_20 : decode cX12_love 20 = .ok (.ifCond .ne 5, 3) := by decide +kernel
theorem dX12_love_23 : decode cX12_love 23 = .ok (.iconst (-1), 1) := by decide +kernel
theorem dX12_love_24 : decode cX12_love 24 = .ok (.ireturn, 1) := by decide +kernel
theorem dX12_dares_0 : decode cX12_dares 0 = .ok (.aload_n 0, 1) := by decide +kernel
theorem dX12_dares_1 : decode cX12_dares 1 = .ok (.iconst 0, 1) := by decide +kernel
theorem dX12_dares_2 : decode cX12_dares 2 = .ok (.putfield 88, 3) := by decide +kernel
theorem dX12_dares_5 : decode cX12_dares 5 = .ok (.aload_n 0, 1) := by decide +kernel
theorem dX12_dares_6 : decode cX12_dares 6 = .ok (.iload_n 1, 1) := by decide +kernel
theorem dX12_dares_7 : decode cX12_dares 7 = .ok (.invokevirtual 306, 3) := by decide +kernel
theorem dX12_dares_10 : decode cX12_dares 10 = .ok (.ifCond .eq 32, 3) := by decide +kernel
theorem dX12_dares_42 : decode cX12_dares 42 = .ok (.bipush (-2), 2) := by decide +kernel
theorem dX12_dares_44 : decode cX12_dares 44 = .ok (.ireturn, 1) := by decide +kernel
theorem dX12_share_0 : decode cX12_share 0 = .ok (.aload_n 0, 1) := by decide +kernel
theorem dX12_share_1 : decode cX12_share 1 = .ok (.iconst 0, 1) := by decide +kernel
theorem dX12_share_2 : decode cX12_share 2 = .ok (.putfield 88, 3) := by decide +kernel
theorem dX12_share_5 : decode cX12_share 5 = .ok (.aload_n 0, 1) := by decide +kernel
theorem dX12_share_6 : decode cX12_share 6 = .ok (.iload_n 1, 1) := by decide +kernel
theorem dX12_share_7 : decode cX12_share 7 = .ok (.invokevirtual 306, 3) := by decide +kernel
theorem dX12_share_10 : decode cX12_share 10 = .ok (.ifCond .eq 36, 3) := by decide +kernel
theorem dX12_share_46 : decode cX12_share 46 = .ok (.iconst (-1), 1) := by decide +kernel
theorem dX12_share_47 : decode cX12_share 47 = .ok (.ireturn, 1) := by decide +kernel
theorem dX12_elder_0 : decode cX12_elder 0 = .ok (.aload_n 0, 1) := by decide +kernel
theorem dX12_elder_1 : decode cX12_elder 1 = .ok (.iconst 0, 1) := by decide +kernel
theorem dX12_elder_2 : decode cX12_elder 2 = .ok (.putfield 88, 3) := by decide +kernel
theorem dX12_elder_5 : decode cX12_elder 5 = .ok (.aload_n 0, 1) := by decide +kernel
theorem dX12_elder_6 : decode cX12_elder 6 = .ok (.iload_n 1, 1) := by decide +kernel
theorem dX12_elder_7 : decode cX12_elder 7 = .ok (.invokevirtual 306, 3) := by decide +kernel
theorem dX12_elder_10 : decode cX12_elder 10 = .ok (.ifCond .eq 19, 3) := by decide +kernel
theorem dX12_elder_29 : decode cX12_elder 29 = .ok (.iconst (-1), 1) := by decide +kernel
theorem dX12_elder_30 : decode cX12_elder 30 = .ok (.ireturn, 1) := by decide +kernel
theorem dX12_ledger_0 : decode cX12_ledger 0 = .ok (.aload_n 0, 1) := by decide +kernel
theorem dX12_ledger_1 : decode cX12_ledger 1 = .ok (.iconst 0, 1) := by decide +kernel
theorem dX12_ledger_2 : decode cX12_ledger 2 = .ok (.putfield 88, 3) := by decide +kernel
theorem dX12_ledger_5 : decode cX12_ledger 5 = .ok (.aload_n 0, 1) := by decide +kernel
theorem dX12_ledger_6 : decode cX12_ledger 6 = .ok (.iload_n 1, 1) := by decide +kernel
theorem dX12_ledger_7 : decode cX12_ledger 7 = .ok (.invokevirtual 443, 3) := by decide +kernel
theorem dX12_ledger_10 : decode cX12_ledger 10 = .ok (.ifCond .ne 6, 3) := by decide +kernel
theorem dX12_ledger_13 : decode cX12_ledger 13 = .ok (.bipush (-2), 2) := by decide +kernel
theorem dX12_ledger_15 : decode cX12_ledger 15 = .ok (.ireturn, 1) := by decide +kernel
theorem dX12_fact_0 : decode cX12_fact 0 = .ok (.aload_n 0, 1) := by decide +kernel
theorem dX12_fact_1 : decode cX12_fact 1 = .ok (.iconst 0, 1) := by decide +kernel
theorem dX12_fact_2 : decode cX12_fact 2 = .ok (.putfield 88, 3) := by decide +kernel
theorem dX12_fact_5 : decode cX12_fact 5 = .ok (.aload_n 0, 1) := by decide +kernel
theorem dX12_fact_6 : decode cX12_fact 6 = .ok (.iload_n 1, 1) := by decide +kernel
theorem dX12_fact_7 : decode cX12_fact 7 = .ok (.invokevirtual 459, 3) := by decide +kernel
theorem dX12_fact_10 : decode cX12_fact 10 = .ok (.ifCond .ne 6, 3) := by decide +kernel
theorem dX12_fact_13 : decode cX12_fact 13 = .ok (.bipush (-2), 2) := by decide +kernel
theorem dX12_fact_15 : decode cX12_fact 15 = .ok (.ireturn, 1) := by decide +kernel
theorem dX12_sure_0 : decode cX12_sure 0 = .ok (.aload_n 0, 1) := by decide +kernel
theorem dX12_sure_1 : decode cX12_sure 1 = .ok (.iconst 0, 1) := by decide +kernel
theorem dX12_sure_2 : decode cX12_sure 2 = .ok (.putfield 88, 3) := by decide +kernel
theorem dX12_sure_5 : decode cX12_sure 5 = .ok (.aload_n 0, 1) := by decide +kernel
theorem dX12_sure_6 : decode cX12_sure 6 = .ok (.iload_n 1, 1) := by decide +kernel
theorem dX12_sure_7 : decode cX12_sure 7 = .ok (.iload_n 2, 1) := by decide +kernel
theorem dX12_sure_8 : decode cX12_sure 8 = .ok (.iload_n 3, 1) := by decide +kernel
theorem dX12_sure_9 : decode cX12_sure 9 = .ok (.invokevirtual 478, 3) := by decide +kernel
theorem dX12_sure_12 : decode cX12_sure 12 = .ok (.ifCond .eq 18, 3) := by decide +kernel
theorem dX12_sure_30 : decode cX12_sure 30 = .ok (.iconst (-1), 1) := by decide +kernel
theorem dX12_sure_31 : decode cX12_sure 31 = .ok (.ireturn, 1) := by decide +kernel
theorem dX12_drawn_0 : decode cX12_drawn 0 = .ok (.aload_n 0, 1) := by decide +kernel
theorem dX12_drawn_1 : decode cX12_drawn 1 = .ok (.iconst 0, 1) := by decide +kernel
theorem dX12_drawn_2 : decode cX12_drawn 2 = .ok (.putfield 88, 3) := by decide +kernel
theorem dX12_drawn_5 : decode cX12_drawn 5 = .ok (.iload_n 3, 1) := by decide +kernel
theorem dX12_drawn_6 : decode cX12_drawn 6 = .ok (.iconst 0, 1) := by decide +kernel
theorem dX12_drawn_7 : decode cX12_drawn 7 = .ok (.bipush 60, 2) := by decide +kernel
theorem dX12_drawn_9 : decode cX12_drawn 9 = .ok (.invokestatic 100, 3) := by decide +kernel
theorem dX12_drawn_12 : decode cX12_drawn 12 = .ok (.ifCond .eq 18, 3) := by decide +kernel
theorem dX12_drawn_15 : decode cX12_drawn 15 = .ok (.aload_n 0, 1) := by decide +kernel
theorem dX12_drawn_16 : decode cX12_drawn 16 = .ok (.iload_n 1, 1) := by decide +kernel
theorem dX12_drawn_17 : decode cX12_drawn 17 = .ok (.invokevirtual 306, 3) := by decide +kernel
theorem dX12_drawn_20 : decode cX12_drawn 20 = .ok (.ifCond .eq 10, 3) := by decide +kernel
theorem dX12_drawn_30 : decode cX12_drawn 30 = .ok (.bipush (-2), 2) := by decide +kernel
theorem dX12_drawn_32 : decode cX12_drawn 32 = .ok (.ireturn, 1) := by decide +kernel
theorem dX12_family_0 : decode cX12_family 0 = .ok (.aload_n 0, 1) := by decide +kernel
theorem dX12_family_1 : decode cX12_family 1 = .ok (.iconst 0, 1) := by decide +kernel
theorem dX12_family_2 : decode cX12_family 2 = .ok (.putfield 88, 3) := by decide +kernel
theorem dX12_family_5 : decode cX12_family 5 = .ok (.aload_n 0, 1) := by decide +kernel
theorem dX12_family_6 : decode cX12_family 6 = .ok (.iload_n 1, 1) := by decide +kernel
theorem dX12_family_7 : decode cX12_family 7 = .ok (.invokevirtual 306, 3) := by decide +kernel
theorem dX12_family_10 : decode cX12_family 10 = .ok (.ifCond .eq 20, 3) := by decide +kernel
theorem dX12_family_30 : decode cX12_family 30 = .ok (.iconst (-1), 1) := by decide +kernel
theorem dX12_family_31 : decode cX12_family 31 = .ok (.ireturn, 1) := by decide +kernel
theorem dX12_shoulders_0 : decode cX12_shoulders 0 = .ok (.aload_n 0, 1) := by decide +kernel
theorem dX12_shoulders_1 : decode cX12_shoulders 1 = .ok (.iconst 0, 1) := by decide +kernel
theorem dX12_shoulders_2 : decode cX12_shoulders 2 = .ok (.putfield 88, 3) := by decide +kernel
theorem dX12_shoulders_5 : decode cX12_shoulders 5 = .ok (.aload_n 0, 1) := by decide +kernel
theorem dX12_shoulders_6 : decode cX12_shoulders 6 = .ok (.iload_n 1, 1) := by decide +kernel
theorem dX12_shoulders_7 : decode cX12_shoulders 7 = .ok (.invokevirtual 306, 3) := by decide +kernel
theorem dX12_shoulders_10 : decode cX12_shoulders 10 = .ok (.ifCond .ne 5, 3) := by decide +kernel
theorem dX12_shoulders_13 : decode cX12_shoulders 13 = .ok (.iconst (-1), 1) := by decide +kernel
theorem dX12_shoulders_14 : decode cX12_shoulders 14 = .ok (.ireturn, 1) := by decide +kernel
theorem dX12_hats_0 : decode cX12_hats 0 = .ok (.aload_n 0, 1) := by decide +kernel
theorem dX12_hats_1 : decode cX12_hats 1 = .ok (.iconst 0, 1) := by decide +kernel
theorem dX12_hats_2 : decode cX12_hats 2 = .ok (.putfield 88, 3) := by decide +kernel
theorem dX12_hats_5 : decode cX12_hats 5 = .ok (.aload_n 0, 1) := by decide +kernel
theorem dX12_hats_6 : decode cX12_hats 6 = .ok (.iload_n 1, 1) := by decide +kernel
theorem dX12_hats_7 : decode cX12_hats 7 = .ok (.invokevirtual 306, 3) := by decide +kernel
theorem dX12_hats_10 : decode cX12_hats 10 = .ok (.ifCond .ne 5, 3) := by decide +kernel
theorem dX12_hats_13 : decode cX12_hats 13 = .ok (.iconst (-1), 1) := by decide +kernel
theorem dX12_hats_14 : decode cX12_hats 14 = .ok (.ireturn, 1) := by decide +kernel
theorem dX12_teams_0 : decode cX12_teams 0 = .ok (.aload_n 0, 1) := by decide +kernel
theorem dX12_teams_1 : decode cX12_teams 1 = .ok (.iconst 0, 1) := by decide +kernel
theorem dX12_teams_2 : decode cX12_teams 2 = .ok (.putfield 88, 3) := by decide +kernel
theorem dX12_teams_5 : decode cX12_teams 5 = .ok (.aload_n 0, 1) := by decide +kernel
theorem dX12_teams_6 : decode cX12_teams 6 = .ok (.iload_n 1, 1) := by decide +kernel
theorem dX12_teams_7 : decode cX12_teams 7 = .ok (.invokevirtual 306, 3) := by decide +kernel
theorem dX12_teams_10 : decode cX12_teams 10 = .ok (.ifCond .eq 11, 3) := by decide +kernel
theorem dX12_teams_21 : decode cX12_teams 21 = .ok (.iconst (-1), 1) := by decide +kernel
theorem dX12_teams_22 : decode cX12_teams 22 = .ok (.ireturn, 1) := by decide +kernel
theorem dX12_assumed_0 : decode cX12_assumed 0 = .ok (.aload_n 0, 1) := by decide +kernel
theorem dX12_assumed_1 : decode cX12_assumed 1 = .ok (.iconst 0, 1) := by decide +kernel
theorem dX12_assumed_2 : decode cX12_assumed 2 = .ok (.putfield 88, 3) := by decide +kernel
theorem dX12_assumed_5 : decode cX12_assumed 5 = .ok (.iload_n 2, 1) := by decide +kernel
theorem dX12_assumed_6 : decode cX12_assumed 6 = .ok (.iconst 0, 1) := by decide +kernel
theorem dX12_assumed_7 : decode cX12_assumed 7 = .ok (.bipush 99, 2) := by decide +kernel
theorem dX12_assumed_9 : decode cX12_assumed 9 = .ok (.invokestatic 100, 3) := by decide +kernel
theorem dX12_assumed_12 : decode cX12_assumed 12 = .ok (.ifCond .eq 20, 3) := by decide +kernel
theorem dX12_assumed_15 : decode cX12_assumed 15 = .ok (.aload_n 0, 1) := by decide +kernel
theorem dX12_assumed_16 : decode cX12_assumed 16 = .ok (.iload_n 1, 1) := by decide +kernel
theorem dX12_assumed_17 : decode cX12_assumed 17 = .ok (.invokevirtual 306, 3) := by decide +kernel
theorem dX12_assumed_20 : decode cX12_assumed 20 = .ok (.ifCond .eq 12, 3) := by decide +kernel
theorem dX12_assumed_32 : decode cX12_assumed 32 = .ok (.iconst (-1), 1) := by decide +kernel
theorem dX12_assumed_33 : decode cX12_assumed 33 = .ok (.ireturn, 1) := by decide +kernel
theorem dX12_settled_0 : decode cX12_settled 0 = .ok (.aload_n 0, 1) := by decide +kernel
theorem dX12_settled_1 : decode cX12_settled 1 = .ok (.iconst 0, 1) := by decide +kernel
theorem dX12_settled_2 : decode cX12_settled 2 = .ok (.putfield 88, 3) := by decide +kernel
theorem dX12_settled_5 : decode cX12_settled 5 = .ok (.aload_n 0, 1) := by decide +kernel
theorem dX12_settled_6 : decode cX12_settled 6 = .ok (.iload_n 1, 1) := by decide +kernel
theorem dX12_settled_7 : decode cX12_settled 7 = .ok (.iload_n 2, 1) := by decide +kernel
theorem dX12_settled_8 : decode cX12_settled 8 = .ok (.invokevirtual 351, 3) := by decide +kernel
theorem dX12_settled_11 : decode cX12_settled 11 = .ok (.ifCond .eq 24, 3) := by decide +kernel
theorem dX12_settled_35 : decode cX12_settled 35 = .ok (.iconst (-1), 1) := by decide +kernel
theorem dX12_settled_36 : decode cX12_settled 36 = .ok (.ireturn, 1) := by decide +kernel
theorem dX12_state_0 : decode cX12_state 0 = .ok (.aload_n 0, 1) := by decide +kernel
theorem dX12_state_1 : decode cX12_state 1 = .ok (.iconst 0, 1) := by decide +kernel
theorem dX12_state_2 : decode cX12_state 2 = .ok (.putfield 88, 3) := by decide +kernel
theorem dX12_state_5 : decode cX12_state 5 = .ok (.aload_n 0, 1) := by decide +kernel
theorem dX12_state_6 : decode cX12_state 6 = .ok (.iload_n 1, 1) := by decide +kernel
theorem dX12_state_7 : decode cX12_state 7 = .ok (.iload_n 2, 1) := by decide +kernel
theorem dX12_state_8 : decode cX12_state 8 = .ok (.invokevirtual 351, 3) := by decide +kernel
theorem dX12_state_11 : decode cX12_state 11 = .ok (.ifCond .eq 33, 3) := by decide +kernel
theorem dX12_state_44 : decode cX12_state 44 = .ok (.bipush (-2), 2) := by decide +kernel
theorem dX12_state_46 : decode cX12_state 46 = .ok (.ireturn, 1) := by decide +kernel
theorem dX12_rows_0 : decode cX12_rows 0 = .ok (.aload_n 0, 1) := by decide +kernel
theorem dX12_rows_1 : decode cX12_rows 1 = .ok (.iconst 0, 1) := by decide +kernel
theorem dX12_rows_2 : decode cX12_rows 2 = .ok (.putfield 88, 3) := by decide +kernel
theorem dX12_rows_5 : decode cX12_rows 5 = .ok (.aload_n 0, 1) := by decide +kernel
theorem dX12_rows_6 : decode cX12_rows 6 = .ok (.iload_n 1, 1) := by decide +kernel
theorem dX12_rows_7 : decode cX12_rows 7 = .ok (.iload_n 2, 1) := by decide +kernel
theorem dX12_rows_8 : decode cX12_rows 8 = .ok (.iload_n 3, 1) := by decide +kernel
theorem dX12_rows_9 : decode cX12_rows 9 = .ok (.invokevirtual 478, 3) := by decide +kernel
theorem dX12_rows_12 : decode cX12_rows 12 = .ok (.ifCond .eq 28, 3) := by decide +kernel
theorem dX12_rows_40 : decode cX12_rows 40 = .ok (.ldc2_w 481, 3) := by decide +kernel
theorem dX12_rows_43 : decode cX12_rows 43 = .ok (.lreturn, 1) := by decide +kernel
theorem dX12_views_0 : decode cX12_views 0 = .ok (.aload_n 0, 1) := by decide +kernel
theorem dX12_views_1 : decode cX12_views 1 = .ok (.iconst 0, 1) := by decide +kernel
theorem dX12_views_2 : decode cX12_views 2 = .ok (.putfield 88, 3) := by decide +kernel
theorem dX12_views_5 : decode cX12_views 5 = .ok (.aload_n 0, 1) := by decide +kernel
theorem dX12_views_6 : decode cX12_views 6 = .ok (.iload_n 1, 1) := by decide +kernel
theorem dX12_views_7 : decode cX12_views 7 = .ok (.invokevirtual 306, 3) := by decide +kernel
theorem dX12_views_10 : decode cX12_views 10 = .ok (.ifCond .ne 7, 3) := by decide +kernel
theorem dX12_views_13 : decode cX12_views 13 = .ok (.ldc2_w 481, 3) := by decide +kernel
theorem dX12_views_16 : decode cX12_views 16 = .ok (.lreturn, 1) := by decide +kernel

def ws_m_borough : List Cond := .code yX12_borough cX12_borough 4 (some .int) :: ([.fieldLink RX12 88 "HeightFineModel" "code" "I", .methodLink RX12 306 yX12_hand, .instanceMethod yX12_hand, .selects RX12 yX12_hand yX12_hand, .initialized RX12, .code yX12_hand cX12_hand 2 (some .boolean), .methodLink RX12 287 yX12_is, .instanceMethod yX12_is, .selects RX12 yX12_is yX12_is, .code yX12_is cX12_is 3 (some .boolean), .fieldLink RX12 23 "HeightFineModel" "many" "[I", .methodLink RX12 100 yX12_in, .static yX12_in, .code yX12_in cX12_in 3 (some .boolean)] ++ u_ws RX12 TX12 45)
set_option maxRecDepth 20000 in
theorem in_m_borough_12 : ∀ w ∈ u_ws RX12 TX12 45, w ∈ ws_m_borough := by decide +kernel
set_option maxRecDepth 20000 in
theorem gm_borough_m_hand : GoodIn ws_m_borough (wsV RX12 306 RX12 yX12_hand ws_m_hand) := goodIn_app (goodIn_of _ (by decide +kernel)) (goodIn_r _ [6, 7, 8, 9, 5, 10, 11, 12, 13, 14, 15, 16, 17, 18, 19, 20, 21, 22, 23, 24, 25, 26, 27, 28, 29, 30, 31, 32, 33, 34, 35, 36, 37, 38, 39, 40, 41, 42, 43, 44, 45, 46, 47, 48, 49, 50, 51, 52, 53, 54, 55, 56, 57, 58, 59] (by decide +kernel) (by decide +kernel))
set_option maxHeartbeats 4000000 in
set_option maxRecDepth 100000 in
theorem m_borough (l : Launch) (dC : Nat → ClassId) (dI : Nat → Nat → Nat) (k : Nat → ClassId) (h : Nat) (v0 : Int32) (m1 : Nat) (m2 : Nat) (m3 : Nat) (m4 : Nat) (m5 : Nat) (m6 : Nat) (m7 : Nat) (m8 : Nat) (m9 : Nat) (v10 : Int32) (v11 : Int32) (v12 : Int32) (v13 : Int32) (v14 : Int32) (v15 : Int64) (v16 : Int32) (v17 : Int32) (v18 : Int32) (m19 : Nat) (m20 : Nat) (v21 : Int32) (v22 : Int32) (v23 : Int32) (v24 : Int32) (v25 : Int32) (v26 : Int32) (m27 : Nat) (v28 : Int32) (m29 : Nat) (m30 : Nat) (m31 : Nat) (m32 : Nat) (v33 : Int32) (m34 : Nat) (v35 : Int32) (m36 : Nat) (m37 : Nat) (m38 : Nat) (m39 : Nat) (m40 : Nat) (v41 : Int32) (m42 : Nat) (m43 : Nat) (m44 : Nat) (p0 : Int32) (p1 : Int32) (sz : Nat) : Met l yX12_borough ws_m_borough ({ frames := 3, cells := 0, slots := 0, locals := 65 }) (va_Pc [.ref h, .int p0, .int p1] (prW dC dI k [(h, .inr (12, [.int v0, .ref m1, .ref m2, .ref m3, .ref m4, .ref m5, .ref m6, .ref m7, .ref m8, .ref m9, .int v10, .int v11, .int v12, .int v13, .int v14, .long v15, .int v16, .int v17, .int v18, .ref m19, .ref m20, .int v21, .int v22, .int v23, .int v24, .int v25, .int v26, .ref m27, .int v28, .ref m29, .ref m30, .ref m31, .ref m32, .int v33, .ref m34, .int v35, .ref m36, .ref m37, .ref m38, .ref m39, .ref m40, .int v41, .ref m42, .ref m43, .ref m44])), (m5, .inl (k 0, 16, .inl (fun _ => 0)))] sz)) (va_Qi (fun (r : Int32) (_ : Unit) => r = (-2)) (fun (u : Unit) (t : State) => po (dC, dI) (va_A [(h, .inr (12, [.int v0, .ref m1, .ref m2, .ref m3, .ref m4, .ref m5, .ref m6, .ref m7, .ref m8, .ref m9, .int v10, .int v11, .int v12, .int v13, .int v14, .long v15, .int v16, .int v17, .int v18, .ref m19, .ref m20, .int v21, .int v22, .int v23, .int v24, .int v25, .int v26, .ref m27, .int v28, .ref m29, .ref m30, .ref m31, .ref m32, .int v33, .ref m34, .int v35, .ref m36, .ref m37, .ref m38, .ref m39, .ref m40, .int v41, .ref m42, .ref m43, .ref m44])), (m5, .inl (k 0, 16, .inl (fun _ => 0)))] sz) [] t) (va_A [(h, .inr (12, [.int v0, .ref m1, .ref m2, .ref m3, .ref m4, .ref m5, .ref m6, .ref m7, .ref m8, .ref m9, .int v10, .int v11, .int v12, .int v13, .int v14, .long v15, .int v16, .int v17, .int v18, .ref m19, .ref m20, .int v21, .int v22, .int v23, .int v24, .int v25, .int v26, .ref m27, .int v28, .ref m29, .ref m30, .ref m31, .ref m32, .int v33, .ref m34, .int v35, .ref m36, .ref m37, .ref m38, .ref m39, .ref m40, .int v41, .ref m42, .ref m43, .ref m44])), (m5, .inl (k 0, 16, .inl (fun _ => 0)))] sz)) 0 0 (va_A [(h, .inr (12, [.int v0, .ref m1, .ref m2, .ref m3, .ref m4, .ref m5, .ref m6, .ref m7, .ref m8, .ref m9, .int v10, .int v11, .int v12, .int v13, .int v14, .long v15, .int v16, .int v17, .int v18, .ref m19, .ref m20, .int v21, .int v22, .int v23, .int v24, .int v25, .int v26, .ref m27, .int v28, .ref m29, .ref m30, .ref m31, .ref m32, .int v33, .ref m34, .int v35, .ref m36, .ref m37, .ref m38, .ref m39, .ref m40, .int v41, .ref m42, .ref m43, .ref m44])), (m5, .inl (k 0, 16, .inl (fun _ => 0)))] sz) := by
  refine Met.ofW (cc := cX12_borough) (maxL := 4) (ret := (some .int)) (by decide) rfl ?_
  intro p e s m args below meth c s₁ B hml hv
  obtain ⟨rfl, hsz, hP, hK, hD0⟩ := hv
  have hx := B.exec
  have hb := B.bytes
  have hr := B.returns
  have hts := atoms_spec (ws := ws_m_borough) B.pre
  have hown : s.vm.findClass RX12 = some m.cls := findClass_of_methodNamed B.named
  have hi12 := in_m_borough_12
  subst hsz
  have hD := hD0.self (sz := s.heap.size)
  generalize hAe : va_A [(h, .inr (12, [.int v0, .ref m1, .ref m2, .ref m3, .ref m4, .ref m5, .ref m6, .ref m7, .ref m8, .ref m9, .int v10, .int v11, .int v12, .int v13, .int v14, .long v15, .int v16, .int v17, .int v18, .ref m19, .ref m20, .int v21, .int v22, .int v23, .int v24, .int v25, .int v26, .ref m27, .int v28, .ref m29, .ref m30, .ref m31, .ref m32, .int v33, .ref m34, .int v35, .ref m36, .ref m37, .ref m38, .ref m39, .ref m40, .int v41, .ref m42, .ref m43, .ref m44])), (m5, .inl (k 0, 16, .inl (fun _ => 0)))] s.heap.size = A at hD ⊢
  have hA : ∀ q : Nat, s.heap.size ≤ q → A q := fun q h => by rw [← hAe]; exact Or.inr h
  have hS : va_S A s.heap s.heap [] := va_S.rf
  have hP : va_P (dC, dI) vwCl [(h, .inr (12, [.int v0, .ref m1, .ref m2, .ref m3, .ref m4, .ref m5, .ref m6, .ref m7, .ref m8, .ref m9, .int v10, .int v11, .int v12, .int v13, .int v14, .long v15, .int v16, .int v17, .int v18, .ref m19, .ref m20, .int v21, .int v22, .int v23, .int v24, .int v25, .int v26, .ref m27, .int v28, .ref m29, .ref m30, .ref m31, .ref m32, .int v33, .ref m34, .int v35, .ref m36, .ref m37, .ref m38, .ref m39, .ref m40, .int v41, .ref m42, .ref m43, .ref m44])), (m5, .inl (k 0, 16, .inl (fun _ => 0)))] s.heap := hP
  have hl := lv_entry ([.ref h, .int p0, .int p1]) (n := 4) (Nat.le_of_ble_eq_true rfl)
  rw [lg_entry_eq]
  generalize (lg_sl ([.ref h, .int p0, .int p1]) ++ List.replicate (4 - (lg_sl ([.ref h, .int p0, .int p1])).length) Slot.unset).toArray = ls at hl ⊢
  have hl : lv_has ls 4 [(0, .ref h), (1, .int p0), (2, .int p1)] := hl
  refine lv_aload_n hx hb dX12_borough_0 rfl (lv_at hl 0 rfl) ?_
  refine lv_iconst (v := 0) hx hb dX12_borough_1 (by decide) ?_
  refine va_put (D := (dC, dI)) (ci := 12) (v := .int 0) (ty := .int) (C := RX12) (T := TX12) (N := 45) hx hb hts hi12 tyX12 tyX12_ok nmX12 hown hK hP hD hS 0 rfl rfl 0 (by decide) (hts (.fieldLink RX12 88 "HeightFineModel" "code" "I") (by decide +kernel)) (fun _ h9 => h9) rfl (by decide +kernel) rfl rfl (Nat.le_of_ble_eq_true rfl) dX12_borough_2 (fun H locs hP hD hS => ?_)
  have hP : va_P (dC, dI) vwCl [(h, .inr (12, [.int 0, .ref m1, .ref m2, .ref m3, .ref m4, .ref m5, .ref m6, .ref m7, .ref m8, .ref m9, .int v10, .int v11, .int v12, .int v13, .int v14, .long v15, .int v16, .int v17, .int v18, .ref m19, .ref m20, .int v21, .int v22, .int v23, .int v24, .int v25, .int v26, .ref m27, .int v28, .ref m29, .ref m30, .ref m31, .ref m32, .int v33, .ref m34, .int v35, .ref m36, .ref m37, .ref m38, .ref m39, .ref m40, .int v41, .ref m42, .ref m43, .ref m44])), (m5, .inl (k 0, 16, .inl (fun _ => 0)))] H := hP
  have hD : va_D A [(h, .inr (12, [.int 0, .ref m1, .ref m2, .ref m3, .ref m4, .ref m5, .ref m6, .ref m7, .ref m8, .ref m9, .int v10, .int v11, .int v12, .int v13, .int v14, .long v15, .int v16, .int v17, .int v18, .ref m19, .ref m20, .int v21, .int v22, .int v23, .int v24, .int v25, .int v26, .ref m27, .int v28, .ref m29, .ref m30, .ref m31, .ref m32, .int v33, .ref m34, .int v35, .ref m36, .ref m37, .ref m38, .ref m39, .ref m40, .int v41, .ref m42, .ref m43, .ref m44])), (m5, .inl (k 0, 16, .inl (fun _ => 0)))] := hD
  refine lv_aload_n hx hb dX12_borough_5 rfl (lv_at hl 0 rfl) ?_
  refine lv_iload_n hx hb dX12_borough_6 rfl (lv_at hl 1 rfl) ?_
  have hPc := hP.sub (ws' := [(h, .inr (12, [.int 0, .ref m1, .ref m2, .ref m3, .ref m4, .ref m5, .ref m6, .ref m7, .ref m8, .ref m9, .int v10, .int v11, .int v12, .int v13, .int v14, .long v15, .int v16, .int v17, .int v18, .ref m19, .ref m20, .int v21, .int v22, .int v23, .int v24, .int v25, .int v26, .ref m27, .int v28, .ref m29, .ref m30, .ref m31, .ref m32, .int v33, .ref m34, .int v35, .ref m36, .ref m37, .ref m38, .ref m39, .ref m40, .int v41, .ref m42, .ref m43, .ref m44])), (m5, .inl (k 0, 16, .inl (fun _ => 0)))]) [0, 1] rfl
  refine vp_callSi (W.runV (As := [.int p0]) (rest := []) ⟨hx, hb, hml, hown, hts⟩ (m_hand l dC dI k h 0 m1 m2 m3 m4 m5 m6 m7 m8 m9 v10 v11 v12 v13 v14 v15 v16 v17 v18 m19 m20 v21 v22 v23 v24 v25 v26 m27 v28 m29 m30 m31 m32 v33 m34 v35 m36 m37 m38 m39 m40 v41 m42 m43 m44 p0) (cwV 1 hts gm_borough_m_hand rfl rfl rfl (by decide +kernel) ⟨Nat.le_of_ble_eq_true rfl, Nat.le_of_ble_eq_true rfl⟩) ⟨prR_blind, va_recv hK hPc (ci := 12) (q0 := 0) rfl rfl, fun U hU hW => ⟨rfl, prR_go hPc hK hU hW⟩⟩ rfl rfl hl.1 rfl (lv_room (Nat.le_of_ble_eq_true rfl)) dX12_borough_7 ⟨by decide +kernel, by decide +kernel⟩) (fun r_1 er_1 => ?_)
  subst er_1
  refine W.eq (g2 := F0 m 10 ls [.int 0]) rfl ?_
  refine lv_if_ne (tgt := 16) hx hb dX12_borough_10 (by decide) (fun c_2 => absurd (by decide) c_2) (fun _ => ?_)
  refine lv_bipush (v := (-2)) hx hb dX12_borough_13 (by decide) ?_
  have hP9 : va_P (dC, dI) vwCl [] H := hP.sub (ws' := []) [] rfl
  have hD9 : va_D A [] := hD.sub (ws' := []) [] (by decide) rfl
  refine W.widen (k := 0) (n := 0) (by decide +kernel) (by decide +kernel) ?_
  exact W.iret (v := (-2)) hx hb hr (fun t ht hW => ⟨⟨(-2), (), rfl, rfl, by rw [ht]; exact hP9, hD9⟩, hS.F ht⟩) hS.2.2 dX12_borough_15

def ws_m_deed : List Cond := .code yX12_deed cX12_deed 4 (some .int) :: ([.fieldLink RX12 88 "HeightFineModel" "code" "I", .methodLink RX12 315 yX12_hasYear, .instanceMethod yX12_hasYear, .selects RX12 yX12_hasYear yX12_hasYear, .initialized RX12, .code yX12_hasYear cX12_hasYear 2 (some .boolean), .fieldLink RX12 312 "HeightFineModel" "year" "I", .methodLink RX12 287 yX12_is, .instanceMethod yX12_is, .selects RX12 yX12_is yX12_is, .code yX12_is cX12_is 3 (some .boolean), .fieldLink RX12 23 "HeightFineModel" "many" "[I", .methodLink RX12 100 yX12_in, .static yX12_in, .code yX12_in cX12_in 3 (some .boolean)] ++ u_ws RX12 TX12 45)
set_option maxRecDepth 20000 in
theorem in_m_deed_12 : ∀ w ∈ u_ws RX12 TX12 45, w ∈ ws_m_deed := by decide +kernel
set_option maxRecDepth 20000 in
theorem gm_deed_m_hasYear : GoodIn ws_m_deed (wsV RX12 315 RX12 yX12_hasYear ws_m_hasYear) := goodIn_app (goodIn_of _ (by decide +kernel)) (goodIn_r _ [6, 7, 8, 9, 10, 5, 11, 12, 13, 14, 15, 16, 17, 18, 19, 20, 21, 22, 23, 24, 25, 26, 27, 28, 29, 30, 31, 32, 33, 34, 35, 36, 37, 38, 39, 40, 41, 42, 43, 44, 45, 46, 47, 48, 49, 50, 51, 52, 53, 54, 55, 56, 57, 58, 59, 60] (by decide +kernel) (by decide +kernel))
set_option maxHeartbeats 4000000 in
set_option maxRecDepth 100000 in
theorem m_deed (l : Launch) (dC : Nat → ClassId) (dI : Nat → Nat → Nat) (k : Nat → ClassId) (h : Nat) (v0 : Int32) (m1 : Nat) (m2 : Nat) (m3 : Nat) (m4 : Nat) (m5 : Nat) (m6 : Nat) (m7 : Nat) (m8 : Nat) (m9 : Nat) (v10 : Int32) (v11 : Int32) (v12 : Int32) (v13 : Int32) (v14 : Int32) (v15 : Int64) (v16 : Int32) (v17 : Int32) (v18 : Int32) (m19 : Nat) (m20 : Nat) (v21 : Int32) (v22 : Int32) (v23 : Int32) (v24 : Int32) (v25 : Int32) (v26 : Int32) (m27 : Nat) (v28 : Int32) (m29 : Nat) (m30 : Nat) (m31 : Nat) (m32 : Nat) (v33 : Int32) (m34 : Nat) (v35 : Int32) (m36 : Nat) (m37 : Nat) (m38 : Nat) (m39 : Nat) (m40 : Nat) (v41 : Int32) (m42 : Nat) (m43 : Nat) (m44 : Nat) (p0 : Int32) (p1 : Int32) (p2 : Int32) (sz : Nat) : Met l yX12_deed ws_m_deed ({ frames := 3, cells := 0, slots := 0, locals := 65 }) (va_Pc [.ref h, .int p0, .int p1, .int p2] (prW dC dI k [(h, .inr (12, [.int v0, .ref m1, .ref m2, .ref m3, .ref m4, .ref m5, .ref m6, .ref m7, .ref m8, .ref m9, .int v10, .int v11, .int v12, .int v13, .int v14, .long v15, .int v16, .int v17, .int v18, .ref m19, .ref m20, .int v21, .int v22, .int v23, .int v24, .int v25, .int v26, .ref m27, .int v28, .ref m29, .ref m30, .ref m31, .ref m32, .int v33, .ref m34, .int v35, .ref m36, .ref m37, .ref m38, .ref m39, .ref m40, .int v41, .ref m42, .ref m43, .ref m44])), (m5, .inl (k 0, 16, .inl (fun _ => 0)))] sz)) (va_Qi (fun (r : Int32) (_ : Unit) => r = (-2)) (fun (u : Unit) (t : State) => po (dC, dI) (va_A [(h, .inr (12, [.int v0, .ref m1, .ref m2, .ref m3, .ref m4, .ref m5, .ref m6, .ref m7, .ref m8, .ref m9, .int v10, .int v11, .int v12, .int v13, .int v14, .long v15, .int v16, .int v17, .int v18, .ref m19, .ref m20, .int v21, .int v22, .int v23, .int v24, .int v25, .int v26, .ref m27, .int v28, .ref m29, .ref m30, .ref m31, .ref m32, .int v33, .ref m34, .int v35, .ref m36, .ref m37, .ref m38, .ref m39, .ref m40, .int v41, .ref m42, .ref m43, .ref m44])), (m5, .inl (k 0, 16, .inl (fun _ => 0)))] sz) [] t) (va_A [(h, .inr (12, [.int v0, .ref m1, .ref m2, .ref m3, .ref m4, .ref m5, .ref m6, .ref m7, .ref m8, .ref m9, .int v10, .int v11, .int v12, .int v13, .int v14, .long v15, .int v16, .int v17, .int v18, .ref m19, .ref m20, .int v21, .int v22, .int v23, .int v24, .int v25, .int v26, .ref m27, .int v28, .ref m29, .ref m30, .ref m31, .ref m32, .int v33, .ref m34, .int v35, .ref m36, .ref m37, .ref m38, .ref m39, .ref m40, .int v41, .ref m42, .ref m43, .ref m44])), (m5, .inl (k 0, 16, .inl (fun _ => 0)))] sz)) 0 0 (va_A [(h, .inr (12, [.int v0, .ref m1, .ref m2, .ref m3, .ref m4, .ref m5, .ref m6, .ref m7, .ref m8, .ref m9, .int v10, .int v11, .int v12, .int v13, .int v14, .long v15, .int v16, .int v17, .int v18, .ref m19, .ref m20, .int v21, .int v22, .int v23, .int v24, .int v25, .int v26, .ref m27, .int v28, .ref m29, .ref m30, .ref m31, .ref m32, .int v33, .ref m34, .int v35, .ref m36, .ref m37, .ref m38, .ref m39, .ref m40, .int v41, .ref m42, .ref m43, .ref m44])), (m5, .inl (k 0, 16, .inl (fun _ => 0)))] sz) := by
  refine Met.ofW (cc := cX12_deed) (maxL := 4) (ret := (some .int)) (by decide) rfl ?_
  intro p e s m args below meth c s₁ B hml hv
  obtain ⟨rfl, hsz, hP, hK, hD0⟩ := hv
  have hx := B.exec
  have hb := B.bytes
  have hr := B.returns
  have hts := atoms_spec (ws := ws_m_deed) B.pre
  have hown : s.vm.findClass RX12 = some m.cls := findClass_of_methodNamed B.named
  have hi12 := in_m_deed_12
  subst hsz
  have hD := hD0.self (sz := s.heap.size)
  generalize hAe : va_A [(h, .inr (12, [.int v0, .ref m1, .ref m2, .ref m3, .ref m4, .ref m5, .ref m6, .ref m7, .ref m8, .ref m9, .int v10, .int v11, .int v12, .int v13, .int v14, .long v15, .int v16, .int v17, .int v18, .ref m19, .ref m20, .int v21, .int v22, .int v23, .int v24, .int v25, .int v26, .ref m27, .int v28, .ref m29, .ref m30, .ref m31, .ref m32, .int v33, .ref m34, .int v35, .ref m36, .ref m37, .ref m38, .ref m39, .ref m40, .int v41, .ref m42, .ref m43, .ref m44])), (m5, .inl (k 0, 16, .inl (fun _ => 0)))] s.heap.size = A at hD ⊢
  have hA : ∀ q : Nat, s.heap.size ≤ q → A q := fun q h => by rw [← hAe]; exact Or.inr h
  have hS : va_S A s.heap s.heap [] := va_S.rf
  have hP : va_P (dC, dI) vwCl [(h, .inr (12, [.int v0, .ref m1, .ref m2, .ref m3, .ref m4, .ref m5, .ref m6, .ref m7, .ref m8, .ref m9, .int v10, .int v11, .int v12, .int v13, .int v14, .long v15, .int v16, .int v17, .int v18, .ref m19, .ref m20, .int v21, .int v22, .int v23, .int v24, .int v25, .int v26, .ref m27, .int v28, .ref m29, .ref m30, .ref m31, .ref m32, .int v33, .ref m34, .int v35, .ref m36, .ref m37, .ref m38, .ref m39, .ref m40, .int v41, .ref m42, .ref m43, .ref m44])), (m5, .inl (k 0, 16, .inl (fun _ => 0)))] s.heap := hP
  have hl := lv_entry ([.ref h, .int p0, .int p1, .int p2]) (n := 4) (Nat.le_of_ble_eq_true rfl)
  rw [lg_entry_eq]
  generalize (lg_sl ([.ref h, .int p0, .int p1, .int p2]) ++ List.replicate (4 - (lg_sl ([.ref h, .int p0, .int p1, .int p2])).length) Slot.unset).toArray = ls at hl ⊢
  have hl : lv_has ls 4 [(0, .ref h), (1, .int p0), (2, .int p1), (3, .int p2)] := hl
  refine lv_aload_n hx hb dX12_deed_0 rfl (lv_at hl 0 rfl) ?_
  refine lv_iconst (v := 0) hx hb dX12_deed_1 (by decide) ?_
  refine va_put (D := (dC, dI)) (ci := 12) (v := .int 0) (ty := .int) (C := RX12) (T := TX12) (N := 45) hx hb hts hi12 tyX12 tyX12_ok nmX12 hown hK hP hD hS 0 rfl rfl 0 (by decide) (hts (.fieldLink RX12 88 "HeightFineModel" "code" "I") (by decide +kernel)) (fun _ h9 => h9) rfl (by decide +kernel) rfl rfl (Nat.le_of_ble_eq_true rfl) dX12_deed_2 (fun H locs hP hD hS => ?_)
  have hP : va_P (dC, dI) vwCl [(h, .inr (12, [.int 0, .ref m1, .ref m2, .ref m3, .ref m4, .ref m5, .ref m6, .ref m7, .ref m8, .ref m9, .int v10, .int v11, .int v12, .int v13, .int v14, .long v15, .int v16, .int v17, .int v18, .ref m19, .ref m20, .int v21, .int v22, .int v23, .int v24, .int v25, .int v26, .ref m27, .int v28, .ref m29, .ref m30, .ref m31, .ref m32, .int v33, .ref m34, .int v35, .ref m36, .ref m37, .ref m38, .ref m39, .ref m40, .int v41, .ref m42, .ref m43, .ref m44])), (m5, .inl (k 0, 16, .inl (fun _ => 0)))] H := hP
  have hD : va_D A [(h, .inr (12, [.int 0, .ref m1, .ref m2, .ref m3, .ref m4, .ref m5, .ref m6, .ref m7, .ref m8, .ref m9, .int v10, .int v11, .int v12, .int v13, .int v14, .long v15, .int v16, .int v17, .int v18, .ref m19, .ref m20, .int v21, .int v22, .int v23, .int v24, .int v25, .int v26, .ref m27, .int v28, .ref m29, .ref m30, .ref m31, .ref m32, .int v33, .ref m34, .int v35, .ref m36, .ref m37, .ref m38, .ref m39, .ref m40, .int v41, .ref m42, .ref m43, .ref m44])), (m5, .inl (k 0, 16, .inl (fun _ => 0)))] := hD
  refine lv_aload_n hx hb dX12_deed_5 rfl (lv_at hl 0 rfl) ?_
  refine lv_iload_n hx hb dX12_deed_6 rfl (lv_at hl 1 rfl) ?_
  have hPc := hP.sub (ws' := [(h, .inr (12, [.int 0, .ref m1, .ref m2, .ref m3, .ref m4, .ref m5, .ref m6, .ref m7, .ref m8, .ref m9, .int v10, .int v11, .int v12, .int v13, .int v14, .long v15, .int v16, .int v17, .int v18, .ref m19, .ref m20, .int v21, .int v22, .int v23, .int v24, .int v25, .int v26, .ref m27, .int v28, .ref m29, .ref m30, .ref m31, .ref m32, .int v33, .ref m34, .int v35, .ref m36, .ref m37, .ref m38, .ref m39, .ref m40, .int v41, .ref m42, .ref m43, .ref m44])), (m5, .inl (k 0, 16, .inl (fun _ => 0)))]) [0, 1] rfl
  have hDc := hD.sub (ws' := [(h, .inr (12, [.int 0, .ref m1, .ref m2, .ref m3, .ref m4, .ref m5, .ref m6, .ref m7, .ref m8, .ref m9, .int v10, .int v11, .int v12, .int v13, .int v14, .long v15, .int v16, .int v17, .int v18, .ref m19, .ref m20, .int v21, .int v22, .int v23, .int v24, .int v25, .int v26, .ref m27, .int v28, .ref m29, .ref m30, .ref m31, .ref m32, .int v33, .ref m34, .int v35, .ref m36, .ref m37, .ref m38, .ref m39, .ref m40, .int v41, .ref m42, .ref m43, .ref m44])), (m5, .inl (k 0, 16, .inl (fun _ => 0)))]) [0, 1] (by decide) rfl
  have hFc := va_free (wc := [(h, .inr (12, [.int 0, .ref m1, .ref m2, .ref m3, .ref m4, .ref m5, .ref m6, .ref m7, .ref m8, .ref m9, .int v10, .int v11, .int v12, .int v13, .int v14, .long v15, .int v16, .int v17, .int v18, .ref m19, .ref m20, .int v21, .int v22, .int v23, .int v24, .int v25, .int v26, .ref m27, .int v28, .ref m29, .ref m30, .ref m31, .ref m32, .int v33, .ref m34, .int v35, .ref m36, .ref m37, .ref m38, .ref m39, .ref m40, .int v41, .ref m42, .ref m43, .ref m44])), (m5, .inl (k 0, 16, .inl (fun _ => 0)))]) hD hS hA [0, 1] rfl
  refine va_calli (va_runV (As := [.int p0]) (rest := []) ⟨hx, hb, hml, hown, hts⟩ (m_hasYear l dC dI k h 0 m1 m2 m3 m4 m5 m6 m7 m8 m9 v10 v11 v12 v13 v14 v15 v16 v17 v18 m19 m20 v21 v22 v23 v24 v25 v26 m27 v28 m29 m30 m31 m32 v33 m34 v35 m36 m37 m38 m39 m40 v41 m42 m43 m44 p0 H.size) (cwV 1 hts gm_deed_m_hasYear rfl rfl rfl (by decide +kernel) ⟨Nat.le_of_ble_eq_true rfl, Nat.le_of_ble_eq_true rfl⟩) ⟨prW_blind, va_recv hK hPc (ci := 12) (q0 := 0) rfl rfl, fun U hU hW => ⟨rfl, prW_go hPc hDc hK hU hW⟩⟩ rfl rfl hl.1 rfl (lv_room (Nat.le_of_ble_eq_true rfl)) dX12_deed_7 ⟨by decide +kernel, by decide +kernel⟩) hS (fun q _ h => hFc q h) hFc (fun r_1 u t H1 locs ht hvm hw hB hz1 hk1 hS => ?_)
  obtain ⟨hP1, hD1⟩ := hB
  rw [ht] at hP1
  obtain ⟨hP, hD⟩ := va_join (wr := []) (w1 := []) hP hD [0, 1] [] rfl rfl (by decide) (by decide) hk1 hFc hP1 hD1
  clear hk1 hz1 ht hPc hDc hP1 hD1 hvm
  generalize H1 = H at hP hS ⊢
  have hP : va_P (dC, dI) vwCl [] H := hP
  have hD : va_D A [] := hD
  have hw : r_1 = 0 := hw
  subst hw
  refine lv_if_ne (tgt := 16) hx hb dX12_deed_10 (by decide) (fun c_2 => absurd (by decide) c_2) (fun _ => ?_)
  refine lv_bipush (v := (-2)) hx hb dX12_deed_13 (by decide) ?_
  have hP9 : va_P (dC, dI) vwCl [] H := hP.sub (ws' := []) [] rfl
  have hD9 : va_D A [] := hD.sub (ws' := []) [] (by decide) rfl
  refine W.widen (k := 0) (n := 0) (by decide +kernel) (by decide +kernel) ?_
  exact W.iret (v := (-2)) hx hb hr (fun t ht hW => ⟨⟨(-2), (), rfl, rfl, by rw [ht]; exact hP9, hD9⟩, hS.F ht⟩) hS.2.2 dX12_deed_15

def ws_m_stop : List Cond := .code yX12_stop cX12_stop 3 (some .int) :: ([.fieldLink RX12 88 "HeightFineModel" "code" "I", .methodLink RX12 351 yX12_layAll, .instanceMethod yX12_layAll, .selects RX12 yX12_layAll yX12_layAll, .initialized RX12, .code yX12_layAll cX12_layAll 3 (some .boolean), .methodLink RX12 315 yX12_hasYear, .instanceMethod yX12_hasYear, .selects RX12 yX12_hasYear yX12_hasYear, .code yX12_hasYear cX12_hasYear 2 (some .boolean), .fieldLink RX12 312 "HeightFineModel" "year" "I", .methodLink RX12 287 yX12_is, .instanceMethod yX12_is, .selects RX12 yX12_is yX12_is, .code yX12_is cX12_is 3 (some .boolean), .fieldLink RX12 23 "HeightFineModel" "many" "[I", .methodLink RX12 100 yX12_in, .static yX12_in, .code yX12_in cX12_in 3 (some .boolean)] ++ u_ws RX12 TX12 45)
set_option maxRecDepth 20000 in
theorem in_m_stop_12 : ∀ w ∈ u_ws RX12 TX12 45, w ∈ ws_m_stop := by decide +kernel
set_option maxRecDepth 20000 in
theorem gm_stop_m_layAll : GoodIn ws_m_stop (wsV RX12 351 RX12 yX12_layAll ws_m_layAll) := goodIn_app (goodIn_of _ (by decide +kernel)) (goodIn_r _ [6, 7, 8, 9, 5, 10, 11, 12, 13, 14, 15, 16, 17, 18, 19, 20, 21, 22, 23, 24, 25, 26, 27, 28, 29, 30, 31, 32, 33, 34, 35, 36, 37, 38, 39, 40, 41, 42, 43, 44, 45, 46, 47, 48, 49, 50, 51, 52, 53, 54, 55, 56, 57, 58, 59, 60, 61, 62, 63, 64] (by decide +kernel) (by decide +kernel))
set_option maxHeartbeats 4000000 in
set_option maxRecDepth 100000 in
theorem m_stop (l : Launch) (dC : Nat → ClassId) (dI : Nat → Nat → Nat) (k : Nat → ClassId) (h : Nat) (v0 : Int32) (m1 : Nat) (m2 : Nat) (m3 : Nat) (m4 : Nat) (m5 : Nat) (m6 : Nat) (m7 : Nat) (m8 : Nat) (m9 : Nat) (v10 : Int32) (v11 : Int32) (v12 : Int32) (v13 : Int32) (v14 : Int32) (v15 : Int64) (v16 : Int32) (v17 : Int32) (v18 : Int32) (m19 : Nat) (m20 : Nat) (v21 : Int32) (v22 : Int32) (v23 : Int32) (v24 : Int32) (v25 : Int32) (v26 : Int32) (m27 : Nat) (v28 : Int32) (m29 : Nat) (m30 : Nat) (m31 : Nat) (m32 : Nat) (v33 : Int32) (m34 : Nat) (v35 : Int32) (m36 : Nat) (m37 : Nat) (m38 : Nat) (m39 : Nat) (m40 : Nat) (v41 : Int32) (m42 : Nat) (m43 : Nat) (m44 : Nat) (p0 : Int32) (p1 : Int32) (sz : Nat) : Met l yX12_stop ws_m_stop ({ frames := 4, cells := 0, slots := 0, locals := 87 }) (va_Pc [.ref h, .int p0, .int p1] (prW dC dI k [(h, .inr (12, [.int v0, .ref m1, .ref m2, .ref m3, .ref m4, .ref m5, .ref m6, .ref m7, .ref m8, .ref m9, .int v10, .int v11, .int v12, .int v13, .int v14, .long v15, .int v16, .int v17, .int v18, .ref m19, .ref m20, .int v21, .int v22, .int v23, .int v24, .int v25, .int v26, .ref m27, .int v28, .ref m29, .ref m30, .ref m31, .ref m32, .int v33, .ref m34, .int v35, .ref m36, .ref m37, .ref m38, .ref m39, .ref m40, .int v41, .ref m42, .ref m43, .ref m44])), (m5, .inl (k 0, 16, .inl (fun _ => 0)))] sz)) (va_Qi (fun (r : Int32) (_ : Unit) => r = (-1)) (fun (u : Unit) (t : State) => po (dC, dI) (va_A [(h, .inr (12, [.int v0, .ref m1, .ref m2, .ref m3, .ref m4, .ref m5, .ref m6, .ref m7, .ref m8, .ref m9, .int v10, .int v11, .int v12, .int v13, .int v14, .long v15, .int v16, .int v17, .int v18, .ref m19, .ref m20, .int v21, .int v22, .int v23, .int v24, .int v25, .int v26, .ref m27, .int v28, .ref m29, .ref m30, .ref m31, .ref m32, .int v33, .ref m34, .int v35, .ref m36, .ref m37, .ref m38, .ref m39, .ref m40, .int v41, .ref m42, .ref m43, .ref m44])), (m5, .inl (k 0, 16, .inl (fun _ => 0)))] sz) [] t) (va_A [(h, .inr (12, [.int v0, .ref m1, .ref m2, .ref m3, .ref m4, .ref m5, .ref m6, .ref m7, .ref m8, .ref m9, .int v10, .int v11, .int v12, .int v13, .int v14, .long v15, .int v16, .int v17, .int v18, .ref m19, .ref m20, .int v21, .int v22, .int v23, .int v24, .int v25, .int v26, .ref m27, .int v28, .ref m29, .ref m30, .ref m31, .ref m32, .int v33, .ref m34, .int v35, .ref m36, .ref m37, .ref m38, .ref m39, .ref m40, .int v41, .ref m42, .ref m43, .ref m44])), (m5, .inl (k 0, 16, .inl (fun _ => 0)))] sz)) 0 0 (va_A [(h, .inr (12, [.int v0, .ref m1, .ref m2, .ref m3, .ref m4, .ref m5, .ref m6, .ref m7, .ref m8, .ref m9, .int v10, .int v11, .int v12, .int v13, .int v14, .long v15, .int v16, .int v17, .int v18, .ref m19, .ref m20, .int v21, .int v22, .int v23, .int v24, .int v25, .int v26, .ref m27, .int v28, .ref m29, .ref m30, .ref m31, .ref m32, .int v33, .ref m34, .int v35, .ref m36, .ref m37, .ref m38, .ref m39, .ref m40, .int v41, .ref m42, .ref m43, .ref m44])), (m5, .inl (k 0, 16, .inl (fun _ => 0)))] sz) := by
  refine Met.ofW (cc := cX12_stop) (maxL := 3) (ret := (some .int)) (by decide) rfl ?_
  intro p e s m args below meth c s₁ B hml hv
  obtain ⟨rfl, hsz, hP, hK, hD0⟩ := hv
  have hx := B.exec
  have hb := B.bytes
  have hr := B.returns
  have hts := atoms_spec (ws := ws_m_stop) B.pre
  have hown : s.vm.findClass RX12 = some m.cls := findClass_of_methodNamed B.named
  have hi12 := in_m_stop_12
  subst hsz
  have hD := hD0.self (sz := s.heap.size)
  generalize hAe : va_A [(h, .inr (12, [.int v0, .ref m1, .ref m2, .ref m3, .ref m4, .ref m5, .ref m6, .ref m7, .ref m8, .ref m9, .int v10, .int v11, .int v12, .int v13, .int v14, .long v15, .int v16, .int v17, .int v18, .ref m19, .ref m20, .int v21, .int v22, .int v23, .int v24, .int v25, .int v26, .ref m27, .int v28, .ref m29, .ref m30, .ref m31, .ref m32, .int v33, .ref m34, .int v35, .ref m36, .ref m37, .ref m38, .ref m39, .ref m40, .int v41, .ref m42, .ref m43, .ref m44])), (m5, .inl (k 0, 16, .inl (fun _ => 0)))] s.heap.size = A at hD ⊢
  have hA : ∀ q : Nat, s.heap.size ≤ q → A q := fun q h => by rw [← hAe]; exact Or.inr h
  have hS : va_S A s.heap s.heap [] := va_S.rf
  have hP : va_P (dC, dI) vwCl [(h, .inr (12, [.int v0, .ref m1, .ref m2, .ref m3, .ref m4, .ref m5, .ref m6, .ref m7, .ref m8, .ref m9, .int v10, .int v11, .int v12, .int v13, .int v14, .long v15, .int v16, .int v17, .int v18, .ref m19, .ref m20, .int v21, .int v22, .int v23, .int v24, .int v25, .int v26, .ref m27, .int v28, .ref m29, .ref m30, .ref m31, .ref m32, .int v33, .ref m34, .int v35, .ref m36, .ref m37, .ref m38, .ref m39, .ref m40, .int v41, .ref m42, .ref m43, .ref m44])), (m5, .inl (k 0, 16, .inl (fun _ => 0)))] s.heap := hP
  have hl := lv_entry ([.ref h, .int p0, .int p1]) (n := 3) (Nat.le_of_ble_eq_true rfl)
  rw [lg_entry_eq]
  generalize (lg_sl ([.ref h, .int p0, .int p1]) ++ List.replicate (3 - (lg_sl ([.ref h, .int p0, .int p1])).length) Slot.unset).toArray = ls at hl ⊢
  have hl : lv_has ls 3 [(0, .ref h), (1, .int p0), (2, .int p1)] := hl
  refine lv_aload_n hx hb dX12_stop_0 rfl (lv_at hl 0 rfl) ?_
  refine lv_iconst (v := 0) hx hb dX12_stop_1 (by decide) ?_
  refine va_put (D := (dC, dI)) (ci := 12) (v := .int 0) (ty := .int) (C := RX12) (T := TX12) (N := 45) hx hb hts hi12 tyX12 tyX12_ok nmX12 hown hK hP hD hS 0 rfl rfl 0 (by decide) (hts (.fieldLink RX12 88 "HeightFineModel" "code" "I") (by decide +kernel)) (fun _ h9 => h9) rfl (by decide +kernel) rfl rfl (Nat.le_of_ble_eq_true rfl) dX12_stop_2 (fun H locs hP hD hS => ?_)
  have hP : va_P (dC, dI) vwCl [(h, .inr (12, [.int 0, .ref m1, .ref m2, .ref m3, .ref m4, .ref m5, .ref m6, .ref m7, .ref m8, .ref m9, .int v10, .int v11, .int v12, .int v13, .int v14, .long v15, .int v16, .int v17, .int v18, .ref m19, .ref m20, .int v21, .int v22, .int v23, .int v24, .int v25, .int v26, .ref m27, .int v28, .ref m29, .ref m30, .ref m31, .ref m32, .int v33, .ref m34, .int v35, .ref m36, .ref m37, .ref m38, .ref m39, .ref m40, .int v41, .ref m42, .ref m43, .ref m44])), (m5, .inl (k 0, 16, .inl (fun _ => 0)))] H := hP
  have hD : va_D A [(h, .inr (12, [.int 0, .ref m1, .ref m2, .ref m3, .ref m4, .ref m5, .ref m6, .ref m7, .ref m8, .ref m9, .int v10, .int v11, .int v12, .int v13, .int v14, .long v15, .int v16, .int v17, .int v18, .ref m19, .ref m20, .int v21, .int v22, .int v23, .int v24, .int v25, .int v26, .ref m27, .int v28, .ref m29, .ref m30, .ref m31, .ref m32, .int v33, .ref m34, .int v35, .ref m36, .ref m37, .ref m38, .ref m39, .ref m40, .int v41, .ref m42, .ref m43, .ref m44])), (m5, .inl (k 0, 16, .inl (fun _ => 0)))] := hD
  refine lv_aload_n hx hb dX12_stop_5 rfl (lv_at hl 0 rfl) ?_
  refine lv_iload_n hx hb dX12_stop_6 rfl (lv_at hl 1 rfl) ?_
  refine lv_iload_n hx hb dX12_stop_7 rfl (lv_at hl 2 rfl) ?_
  have hPc := hP.sub (ws' := [(h, .inr (12, [.int 0, .ref m1, .ref m2, .ref m3, .ref m4, .ref m5, .ref m6, .ref m7, .ref m8, .ref m9, .int v10, .int v11, .int v12, .int v13, .int v14, .long v15, .int v16, .int v17, .int v18, .ref m19, .ref m20, .int v21, .int v22, .int v23, .int v24, .int v25, .int v26, .ref m27, .int v28, .ref m29, .ref m30, .ref m31, .ref m32, .int v33, .ref m34, .int v35, .ref m36, .ref m37, .ref m38, .ref m39, .ref m40, .int v41, .ref m42, .ref m43, .ref m44])), (m5, .inl (k 0, 16, .inl (fun _ => 0)))]) [0, 1] rfl
  have hDc := hD.sub (ws' := [(h, .inr (12, [.int 0, .ref m1, .ref m2, .ref m3, .ref m4, .ref m5, .ref m6, .ref m7, .ref m8, .ref m9, .int v10, .int v11, .int v12, .int v13, .int v14, .long v15, .int v16, .int v17, .int v18, .ref m19, .ref m20, .int v21, .int v22, .int v23, .int v24, .int v25, .int v26, .ref m27, .int v28, .ref m29, .ref m30, .ref m31, .ref m32, .int v33, .ref m34, .int v35, .ref m36, .ref m37, .ref m38, .ref m39, .ref m40, .int v41, .ref m42, .ref m43, .ref m44])), (m5, .inl (k 0, 16, .inl (fun _ => 0)))]) [0, 1] (by decide) rfl
  have hFc := va_free (wc := [(h, .inr (12, [.int 0, .ref m1, .ref m2, .ref m3, .ref m4, .ref m5, .ref m6, .ref m7, .ref m8, .ref m9, .int v10, .int v11, .int v12, .int v13, .int v14, .long v15, .int v16, .int v17, .int v18, .ref m19, .ref m20, .int v21, .int v22, .int v23, .int v24, .int v25, .int v26, .ref m27, .int v28, .ref m29, .ref m30, .ref m31, .ref m32, .int v33, .ref m34, .int v35, .ref m36, .ref m37, .ref m38, .ref m39, .ref m40, .int v41, .ref m42, .ref m43, .ref m44])), (m5, .inl (k 0, 16, .inl (fun _ => 0)))]) hD hS hA [0, 1] rfl
  refine va_calli (va_runV (As := [.int p0, .int p1]) (rest := []) ⟨hx, hb, hml, hown, hts⟩ (m_layAll l dC dI k h 0 m1 m2 m3 m4 m5 m6 m7 m8 m9 v10 v11 v12 v13 v14 v15 v16 v17 v18 m19 m20 v21 v22 v23 v24 v25 v26 m27 v28 m29 m30 m31 m32 v33 m34 v35 m36 m37 m38 m39 m40 v41 m42 m43 m44 p0 p1 H.size) (cwV 2 hts gm_stop_m_layAll rfl rfl rfl (by decide +kernel) ⟨Nat.le_of_ble_eq_true rfl, Nat.le_of_ble_eq_true rfl⟩) ⟨prW_blind, va_recv hK hPc (ci := 12) (q0 := 0) rfl rfl, fun U hU hW => ⟨rfl, prW_go hPc hDc hK hU hW⟩⟩ rfl rfl hl.1 rfl (lv_room (Nat.le_of_ble_eq_true rfl)) dX12_stop_8 ⟨by decide +kernel, by decide +kernel⟩) hS (fun q _ h => hFc q h) hFc (fun r_1 u t H1 locs ht hvm hw hB hz1 hk1 hS => ?_)
  obtain ⟨hP1, hD1⟩ := hB
  rw [ht] at hP1
  obtain ⟨hP, hD⟩ := va_join (wr := []) (w1 := []) hP hD [0, 1] [] rfl rfl (by decide) (by decide) hk1 hFc hP1 hD1
  clear hk1 hz1 ht hPc hDc hP1 hD1 hvm
  generalize H1 = H at hP hS ⊢
  have hP : va_P (dC, dI) vwCl [] H := hP
  have hD : va_D A [] := hD
  have hw : r_1 = 0 := hw
  subst hw
  refine lv_if_eq (tgt := 25) hx hb dX12_stop_11 (by decide) (fun _ => ?_) (fun c_2 => absurd (by decide) c_2)
  refine lv_iconst (v := (-1)) hx hb dX12_stop_25 (by decide) ?_
  have hP9 : va_P (dC, dI) vwCl [] H := hP.sub (ws' := []) [] rfl
  have hD9 : va_D A [] := hD.sub (ws' := []) [] (by decide) rfl
  refine W.widen (k := 0) (n := 0) (by decide +kernel) (by decide +kernel) ?_
  exact W.iret (v := (-1)) hx hb hr (fun t ht hW => ⟨⟨(-1), (), rfl, rfl, by rw [ht]; exact hP9, hD9⟩, hS.F ht⟩) hS.2.2 dX12_stop_26

def ws_m_reached : List Cond := .code yX12_reached cX12_reached 5 (some .int) :: ([.fieldLink RX12 88 "HeightFineModel" "code" "I", .methodLink RX12 100 yX12_in, .static yX12_in, .initialized RX12, .code yX12_in cX12_in 3 (some .boolean), .methodLink RX12 306 yX12_hand, .instanceMethod yX12_hand, .selects RX12 yX12_hand yX12_hand, .code yX12_hand cX12_hand 2 (some .boolean), .methodLink RX12 287 yX12_is, .instanceMethod yX12_is, .selects RX12 yX12_is yX12_is, .code yX12_is cX12_is 3 (some .boolean), .fieldLink RX12 23 "HeightFineModel" "many" "[I"] ++ u_ws RX12 TX12 45)
set_option maxRecDepth 20000 in
theorem in_m_reached_12 : ∀ w ∈ u_ws RX12 TX12 45, w ∈ ws_m_reached := by decide +kernel
set_option maxRecDepth 20000 in
theorem gm_reached_m_in : GoodIn ws_m_reached (va_wsS RX12 100 yX12_in ws_m_in) := goodIn_app (goodIn_of _ (by decide +kernel)) (goodIn_r _ [5] (by decide +kernel) (by decide +kernel))
set_option maxRecDepth 20000 in
theorem gm_reached_m_hand : GoodIn ws_m_reached (wsV RX12 306 RX12 yX12_hand ws_m_hand) := goodIn_app (goodIn_of _ (by decide +kernel)) (goodIn_r _ [9, 10, 11, 12, 4, 13, 14, 2, 3, 5, 15, 16, 17, 18, 19, 20, 21, 22, 23, 24, 25, 26, 27, 28, 29, 30, 31, 32, 33, 34, 35, 36, 37, 38, 39, 40, 41, 42, 43, 44, 45, 46, 47, 48, 49, 50, 51, 52, 53, 54, 55, 56, 57, 58, 59] (by decide +kernel) (by decide +kernel))
set_option maxHeartbeats 4000000 in
set_option maxRecDepth 100000 in
theorem m_reached (l : Launch) (dC : Nat → ClassId) (dI : Nat → Nat → Nat) (k : Nat → ClassId) (h : Nat) (v0 : Int32) (m1 : Nat) (m2 : Nat) (m3 : Nat) (m4 : Nat) (m5 : Nat) (m6 : Nat) (m7 : Nat) (m8 : Nat) (m9 : Nat) (v10 : Int32) (v11 : Int32) (v12 : Int32) (v13 : Int32) (v14 : Int32) (v15 : Int64) (v16 : Int32) (v17 : Int32) (v18 : Int32) (m19 : Nat) (m20 : Nat) (v21 : Int32) (v22 : Int32) (v23 : Int32) (v24 : Int32) (v25 : Int32) (v26 : Int32) (m27 : Nat) (v28 : Int32) (m29 : Nat) (m30 : Nat) (m31 : Nat) (m32 : Nat) (v33 : Int32) (m34 : Nat) (v35 : Int32) (m36 : Nat) (m37 : Nat) (m38 : Nat) (m39 : Nat) (m40 : Nat) (v41 : Int32) (m42 : Nat) (m43 : Nat) (m44 : Nat) (p0 : Int32) (p1 : Int32) (p2 : Int32) (sz : Nat) : Met l yX12_reached ws_m_reached ({ frames := 3, cells := 0, slots := 0, locals := 65 }) (va_Pc [.ref h, .int p0, .int p1, .int p2] (prW dC dI k [(h, .inr (12, [.int v0, .ref m1, .ref m2, .ref m3, .ref m4, .ref m5, .ref m6, .ref m7, .ref m8, .ref m9, .int v10, .int v11, .int v12, .int v13, .int v14, .long v15, .int v16, .int v17, .int v18, .ref m19, .ref m20, .int v21, .int v22, .int v23, .int v24, .int v25, .int v26, .ref m27, .int v28, .ref m29, .ref m30, .ref m31, .ref m32, .int v33, .ref m34, .int v35, .ref m36, .ref m37, .ref m38, .ref m39, .ref m40, .int v41, .ref m42, .ref m43, .ref m44])), (m5, .inl (k 0, 16, .inl (fun _ => 0)))] sz)) (va_Qi (fun (r : Int32) (_ : Unit) => r = (-1)) (fun (u : Unit) (t : State) => po (dC, dI) (va_A [(h, .inr (12, [.int v0, .ref m1, .ref m2, .ref m3, .ref m4, .ref m5, .ref m6, .ref m7, .ref m8, .ref m9, .int v10, .int v11, .int v12, .int v13, .int v14, .long v15, .int v16, .int v17, .int v18, .ref m19, .ref m20, .int v21, .int v22, .int v23, .int v24, .int v25, .int v26, .ref m27, .int v28, .ref m29, .ref m30, .ref m31, .ref m32, .int v33, .ref m34, .int v35, .ref m36, .ref m37, .ref m38, .ref m39, .ref m40, .int v41, .ref m42, .ref m43, .ref m44])), (m5, .inl (k 0, 16, .inl (fun _ => 0)))] sz) [] t) (va_A [(h, .inr (12, [.int v0, .ref m1, .ref m2, .ref m3, .ref m4, .ref m5, .ref m6, .ref m7, .ref m8, .ref m9, .int v10, .int v11, .int v12, .int v13, .int v14, .long v15, .int v16, .int v17, .int v18, .ref m19, .ref m20, .int v21, .int v22, .int v23, .int v24, .int v25, .int v26, .ref m27, .int v28, .ref m29, .ref m30, .ref m31, .ref m32, .int v33, .ref m34, .int v35, .ref m36, .ref m37, .ref m38, .ref m39, .ref m40, .int v41, .ref m42, .ref m43, .ref m44])), (m5, .inl (k 0, 16, .inl (fun _ => 0)))] sz)) 0 0 (va_A [(h, .inr (12, [.int v0, .ref m1, .ref m2, .ref m3, .ref m4, .ref m5, .ref m6, .ref m7, .ref m8, .ref m9, .int v10, .int v11, .int v12, .int v13, .int v14, .long v15, .int v16, .int v17, .int v18, .ref m19, .ref m20, .int v21, .int v22, .int v23, .int v24, .int v25, .int v26, .ref m27, .int v28, .ref m29, .ref m30, .ref m31, .ref m32, .int v33, .ref m34, .int v35, .ref m36, .ref m37, .ref m38, .ref m39, .ref m40, .int v41, .ref m42, .ref m43, .ref m44])), (m5, .inl (k 0, 16, .inl (fun _ => 0)))] sz) := by
  refine Met.ofW (cc := cX12_reached) (maxL := 5) (ret := (some .int)) (by decide) rfl ?_
  intro p e s m args below meth c s₁ B hml hv
  obtain ⟨rfl, hsz, hP, hK, hD0⟩ := hv
  have hx := B.exec
  have hb := B.bytes
  have hr := B.returns
  have hts := atoms_spec (ws := ws_m_reached) B.pre
  have hown : s.vm.findClass RX12 = some m.cls := findClass_of_methodNamed B.named
  have hi12 := in_m_reached_12
  subst hsz
  have hD := hD0.self (sz := s.heap.size)
  generalize hAe : va_A [(h, .inr (12, [.int v0, .ref m1, .ref m2, .ref m3, .ref m4, .ref m5, .ref m6, .ref m7, .ref m8, .ref m9, .int v10, .int v11, .int v12, .int v13, .int v14, .long v15, .int v16, .int v17, .int v18, .ref m19, .ref m20, .int v21, .int v22, .int v23, .int v24, .int v25, .int v26, .ref m27, .int v28, .ref m29, .ref m30, .ref m31, .ref m32, .int v33, .ref m34, .int v35, .ref m36, .ref m37, .ref m38, .ref m39, .ref m40, .int v41, .ref m42, .ref m43, .ref m44])), (m5, .inl (k 0, 16, .inl (fun _ => 0)))] s.heap.size = A at hD ⊢
  have hA : ∀ q : Nat, s.heap.size ≤ q → A q := fun q h => by rw [← hAe]; exact Or.inr h
  have hS : va_S A s.heap s.heap [] := va_S.rf
  have hP : va_P (dC, dI) vwCl [(h, .inr (12, [.int v0, .ref m1, .ref m2, .ref m3, .ref m4, .ref m5, .ref m6, .ref m7, .ref m8, .ref m9, .int v10, .int v11, .int v12, .int v13, .int v14, .long v15, .int v16, .int v17, .int v18, .ref m19, .ref m20, .int v21, .int v22, .int v23, .int v24, .int v25, .int v26, .ref m27, .int v28, .ref m29, .ref m30, .ref m31, .ref m32, .int v33, .ref m34, .int v35, .ref m36, .ref m37, .ref m38, .ref m39, .ref m40, .int v41, .ref m42, .ref m43, .ref m44])), (m5, .inl (k 0, 16, .inl (fun _ => 0)))] s.heap := hP
  have hl := lv_entry ([.ref h, .int p0, .int p1, .int p2]) (n := 5) (Nat.le_of_ble_eq_true rfl)
  rw [lg_entry_eq]
  generalize (lg_sl ([.ref h, .int p0, .int p1, .int p2]) ++ List.replicate (5 - (lg_sl ([.ref h, .int p0, .int p1, .int p2])).length) Slot.unset).toArray = ls at hl ⊢
  have hl : lv_has ls 5 [(0, .ref h), (1, .int p0), (2, .int p1), (3, .int p2)] := hl
  refine lv_aload_n hx hb dX12_reached_0 rfl (lv_at hl 0 rfl) ?_
  refine lv_iconst (v := 0) hx hb dX12_reached_1 (by decide) ?_
  refine va_put (D := (dC, dI)) (ci := 12) (v := .int 0) (ty := .int) (C := RX12) (T := TX12) (N := 45) hx hb hts hi12 tyX12 tyX12_ok nmX12 hown hK hP hD hS 0 rfl rfl 0 (by decide) (hts (.fieldLink RX12 88 "HeightFineModel" "code" "I") (by decide +kernel)) (fun _ h9 => h9) rfl (by decide +kernel) rfl rfl (Nat.le_of_ble_eq_true rfl) dX12_reached_2 (fun H locs hP hD hS => ?_)
  have hP : va_P (dC, dI) vwCl [(h, .inr (12, [.int 0, .ref m1, .ref m2, .ref m3, .ref m4, .ref m5, .ref m6, .ref m7, .ref m8, .ref m9, .int v10, .int v11, .int v12, .int v13, .int v14, .long v15, .int v16, .int v17, .int v18, .ref m19, .ref m20, .int v21, .int v22, .int v23, .int v24, .int v25, .int v26, .ref m27, .int v28, .ref m29, .ref m30, .ref m31, .ref m32, .int v33, .ref m34, .int v35, .ref m36, .ref m37, .ref m38, .ref m39, .ref m40, .int v41, .ref m42, .ref m43, .ref m44])), (m5, .inl (k 0, 16, .inl (fun _ => 0)))] H := hP
  have hD : va_D A [(h, .inr (12, [.int 0, .ref m1, .ref m2, .ref m3, .ref m4, .ref m5, .ref m6, .ref m7, .ref m8, .ref m9, .int v10, .int v11, .int v12, .int v13, .int v14, .long v15, .int v16, .int v17, .int v18, .ref m19, .ref m20, .int v21, .int v22, .int v23, .int v24, .int v25, .int v26, .ref m27, .int v28, .ref m29, .ref m30, .ref m31, .ref m32, .int v33, .ref m34, .int v35, .ref m36, .ref m37, .ref m38, .ref m39, .ref m40, .int v41, .ref m42, .ref m43, .ref m44])), (m5, .inl (k 0, 16, .inl (fun _ => 0)))] := hD
  refine lv_iload_n hx hb dX12_reached_5 rfl (lv_at hl 2 rfl) ?_
  refine lv_iconst (v := 0) hx hb dX12_reached_6 (by decide) ?_
  refine lv_bipush (v := 99) hx hb dX12_reached_7 (by decide) ?_
  refine vp_callSi (W.runS (As := [.int p1, .int 0, .int 99]) (rest := []) ⟨hx, hb, hml, hown, hts⟩ (m_in l p1 0 99) (va_cwS 3 hts gm_reached_m_in rfl rfl rfl (by decide +kernel) ⟨Nat.le_of_ble_eq_true rfl, Nat.le_of_ble_eq_true rfl⟩) ⟨prN_blind, fun U hU hW => ⟨rfl, trivial⟩⟩ rfl rfl hl.1 rfl (lv_room (Nat.le_of_ble_eq_true rfl)) dX12_reached_9 ⟨by decide +kernel, by decide +kernel⟩) (fun r_1 er_1 => ?_)
  subst er_1
  refine W.eq (g2 := F0 m 12 ls [.int (inR p1 0 99)]) rfl ?_
  refine lv_if_eq (tgt := 48) hx hb dX12_reached_12 (by decide) (fun c_2 => ?_) (fun c_2 => ?_)
  · refine lv_iconst (v := (-1)) hx hb dX12_reached_48 (by decide) ?_
    have hP9 : va_P (dC, dI) vwCl [] H := hP.sub (ws' := []) [] rfl
    have hD9 : va_D A [] := hD.sub (ws' := []) [] (by decide) rfl
    refine W.widen (k := 0) (n := 0) (by decide +kernel) (by decide +kernel) ?_
    exact W.iret (v := (-1)) hx hb hr (fun t ht hW => ⟨⟨(-1), (), rfl, rfl, by rw [ht]; exact hP9, hD9⟩, hS.F ht⟩) hS.2.2 dX12_reached_49
  · refine lv_aload_n hx hb dX12_reached_15 rfl (lv_at hl 0 rfl) ?_
    refine lv_iload_n hx hb dX12_reached_16 rfl (lv_at hl 1 rfl) ?_
    have hPc := hP.sub (ws' := [(h, .inr (12, [.int 0, .ref m1, .ref m2, .ref m3, .ref m4, .ref m5, .ref m6, .ref m7, .ref m8, .ref m9, .int v10, .int v11, .int v12, .int v13, .int v14, .long v15, .int v16, .int v17, .int v18, .ref m19, .ref m20, .int v21, .int v22, .int v23, .int v24, .int v25, .int v26, .ref m27, .int v28, .ref m29, .ref m30, .ref m31, .ref m32, .int v33, .ref m34, .int v35, .ref m36, .ref m37, .ref m38, .ref m39, .ref m40, .int v41, .ref m42, .ref m43, .ref m44])), (m5, .inl (k 0, 16, .inl (fun _ => 0)))]) [0, 1] rfl
    refine vp_callSi (W.runV (As := [.int p0]) (rest := []) ⟨hx, hb, hml, hown, hts⟩ (m_hand l dC dI k h 0 m1 m2 m3 m4 m5 m6 m7 m8 m9 v10 v11 v12 v13 v14 v15 v16 v17 v18 m19 m20 v21 v22 v23 v24 v25 v26 m27 v28 m29 m30 m31 m32 v33 m34 v35 m36 m37 m38 m39 m40 v41 m42 m43 m44 p0) (cwV 1 hts gm_reached_m_hand rfl rfl rfl (by decide +kernel) ⟨Nat.le_of_ble_eq_true rfl, Nat.le_of_ble_eq_true rfl⟩) ⟨prR_blind, va_recv hK hPc (ci := 12) (q0 := 0) rfl rfl, fun U hU hW => ⟨rfl, prR_go hPc hK hU hW⟩⟩ rfl rfl hl.1 rfl (lv_room (Nat.le_of_ble_eq_true rfl)) dX12_reached_17 ⟨by decide +kernel, by decide +kernel⟩) (fun r_3 er_3 => ?_)
    subst er_3
    refine W.eq (g2 := F0 m 20 ls [.int 0]) rfl ?_
    refine lv_if_eq (tgt := 48) hx hb dX12_reached_20 (by decide) (fun _ => ?_) (fun c_4 => absurd (by decide) c_4)
    refine lv_iconst (v := (-1)) hx hb dX12_reached_48 (by decide) ?_
    have hP9 : va_P (dC, dI) vwCl [] H := hP.sub (ws' := []) [] rfl
    have hD9 : va_D A [] := hD.sub (ws' := []) [] (by decide) rfl
    refine W.widen (k := 0) (n := 0) (by decide +kernel) (by decide +kernel) ?_
    exact W.iret (v := (-1)) hx hb hr (fun t ht hW => ⟨⟨(-1), (), rfl, rfl, by rw [ht]; exact hP9, hD9⟩, hS.F ht⟩) hS.2.2 dX12_reached_49

def ws_m_cut : List Cond := .code yX12_cut cX12_cut 4 (some .int) :: ([.fieldLink RX12 88 "HeightFineModel" "code" "I", .methodLink RX12 100 yX12_in, .static yX12_in, .initialized RX12, .code yX12_in cX12_in 3 (some .boolean), .methodLink RX12 306 yX12_hand, .instanceMethod yX12_hand, .selects RX12 yX12_hand yX12_hand, .code yX12_hand cX12_hand 2 (some .boolean), .methodLink RX12 287 yX12_is, .instanceMethod yX12_is, .selects RX12 yX12_is yX12_is, .code yX12_is cX12_is 3 (some .boolean), .fieldLink RX12 23 "HeightFineModel" "many" "[I"] ++ u_ws RX12 TX12 45)
set_option maxRecDepth 20000 in
theorem in_m_cut_12 : ∀ w ∈ u_ws RX12 TX12 45, w ∈ ws_m_cut := by decide +kernel
set_option maxRecDepth 20000 in
theorem gm_cut_m_in : GoodIn ws_m_cut (va_wsS RX12 100 yX12_in ws_m_in) := goodIn_app (goodIn_of _ (by decide +kernel)) (goodIn_r _ [5] (by decide +kernel) (by decide +kernel))
set_option maxRecDepth 20000 in
theorem gm_cut_m_hand : GoodIn ws_m_cut (wsV RX12 306 RX12 yX12_hand ws_m_hand) := goodIn_app (goodIn_of _ (by decide +kernel)) (goodIn_r _ [9, 10, 11, 12, 4, 13, 14, 2, 3, 5, 15, 16, 17, 18, 19, 20, 21, 22, 23, 24, 25, 26, 27, 28, 29, 30, 31, 32, 33, 34, 35, 36, 37, 38, 39, 40, 41, 42, 43, 44, 45, 46, 47, 48, 49, 50, 51, 52, 53, 54, 55, 56, 57, 58, 59] (by decide +kernel) (by decide +kernel))
set_option maxHeartbeats 4000000 in
set_option maxRecDepth 100000 in
theorem m_cut (l : Launch) (dC : Nat → ClassId) (dI : Nat → Nat → Nat) (k : Nat → ClassId) (h : Nat) (v0 : Int32) (m1 : Nat) (m2 : Nat) (m3 : Nat) (m4 : Nat) (m5 : Nat) (m6 : Nat) (m7 : Nat) (m8 : Nat) (m9 : Nat) (v10 : Int32) (v11 : Int32) (v12 : Int32) (v13 : Int32) (v14 : Int32) (v15 : Int64) (v16 : Int32) (v17 : Int32) (v18 : Int32) (m19 : Nat) (m20 : Nat) (v21 : Int32) (v22 : Int32) (v23 : Int32) (v24 : Int32) (v25 : Int32) (v26 : Int32) (m27 : Nat) (v28 : Int32) (m29 : Nat) (m30 : Nat) (m31 : Nat) (m32 : Nat) (v33 : Int32) (m34 : Nat) (v35 : Int32) (m36 : Nat) (m37 : Nat) (m38 : Nat) (m39 : Nat) (m40 : Nat) (v41 : Int32) (m42 : Nat) (m43 : Nat) (m44 : Nat) (p0 : Int32) (p1 : Int32) (p2 : Int32) (sz : Nat) : Met l yX12_cut ws_m_cut ({ frames := 3, cells := 0, slots := 0, locals := 65 }) (va_Pc [.ref h, .int p0, .int p1, .int p2] (prW dC dI k [(h, .inr (12, [.int v0, .ref m1, .ref m2, .ref m3, .ref m4, .ref m5, .ref m6, .ref m7, .ref m8, .ref m9, .int v10, .int v11, .int v12, .int v13, .int v14, .long v15, .int v16, .int v17, .int v18, .ref m19, .ref m20, .int v21, .int v22, .int v23, .int v24, .int v25, .int v26, .ref m27, .int v28, .ref m29, .ref m30, .ref m31, .ref m32, .int v33, .ref m34, .int v35, .ref m36, .ref m37, .ref m38, .ref m39, .ref m40, .int v41, .ref m42, .ref m43, .ref m44])), (m5, .inl (k 0, 16, .inl (fun _ => 0)))] sz)) (va_Qi (fun (r : Int32) (_ : Unit) => r = (-1)) (fun (u : Unit) (t : State) => po (dC, dI) (va_A [(h, .inr (12, [.int v0, .ref m1, .ref m2, .ref m3, .ref m4, .ref m5, .ref m6, .ref m7, .ref m8, .ref m9, .int v10, .int v11, .int v12, .int v13, .int v14, .long v15, .int v16, .int v17, .int v18, .ref m19, .ref m20, .int v21, .int v22, .int v23, .int v24, .int v25, .int v26, .ref m27, .int v28, .ref m29, .ref m30, .ref m31, .ref m32, .int v33, .ref m34, .int v35, .ref m36, .ref m37, .ref m38, .ref m39, .ref m40, .int v41, .ref m42, .ref m43, .ref m44])), (m5, .inl (k 0, 16, .inl (fun _ => 0)))] sz) [] t) (va_A [(h, .inr (12, [.int v0, .ref m1, .ref m2, .ref m3, .ref m4, .ref m5, .ref m6, .ref m7, .ref m8, .ref m9, .int v10, .int v11, .int v12, .int v13, .int v14, .long v15, .int v16, .int v17, .int v18, .ref m19, .ref m20, .int v21, .int v22, .int v23, .int v24, .int v25, .int v26, .ref m27, .int v28, .ref m29, .ref m30, .ref m31, .ref m32, .int v33, .ref m34, .int v35, .ref m36, .ref m37, .ref m38, .ref m39, .ref m40, .int v41, .ref m42, .ref m43, .ref m44])), (m5, .inl (k 0, 16, .inl (fun _ => 0)))] sz)) 0 0 (va_A [(h, .inr (12, [.int v0, .ref m1, .ref m2, .ref m3, .ref m4, .ref m5, .ref m6, .ref m7, .ref m8, .ref m9, .int v10, .int v11, .int v12, .int v13, .int v14, .long v15, .int v16, .int v17, .int v18, .ref m19, .ref m20, .int v21, .int v22, .int v23, .int v24, .int v25, .int v26, .ref m27, .int v28, .ref m29, .ref m30, .ref m31, .ref m32, .int v33, .ref m34, .int v35, .ref m36, .ref m37, .ref m38, .ref m39, .ref m40, .int v41, .ref m42, .ref m43, .ref m44])), (m5, .inl (k 0, 16, .inl (fun _ => 0)))] sz) := by
  refine Met.ofW (cc := cX12_cut) (maxL := 4) (ret := (some .int)) (by decide) rfl ?_
  intro p e s m args below meth c s₁ B hml hv
  obtain ⟨rfl, hsz, hP, hK, hD0⟩ := hv
  have hx := B.exec
  have hb := B.bytes
  have hr := B.returns
  have hts := atoms_spec (ws := ws_m_cut) B.pre
  have hown : s.vm.findClass RX12 = some m.cls := findClass_of_methodNamed B.named
  have hi12 := in_m_cut_12
  subst hsz
  have hD := hD0.self (sz := s.heap.size)
  generalize hAe : va_A [(h, .inr (12, [.int v0, .ref m1, .ref m2, .ref m3, .ref m4, .ref m5, .ref m6, .ref m7, .ref m8, .ref m9, .int v10, .int v11, .int v12, .int v13, .int v14, .long v15, .int v16, .int v17, .int v18, .ref m19, .ref m20, .int v21, .int v22, .int v23, .int v24, .int v25, .int v26, .ref m27, .int v28, .ref m29, .ref m30, .ref m31, .ref m32, .int v33, .ref m34, .int v35, .ref m36, .ref m37, .ref m38, .ref m39, .ref m40, .int v41, .ref m42, .ref m43, .ref m44])), (m5, .inl (k 0, 16, .inl (fun _ => 0)))] s.heap.size = A at hD ⊢
  have hA : ∀ q : Nat, s.heap.size ≤ q → A q := fun q h => by rw [← hAe]; exact Or.inr h
  have hS : va_S A s.heap s.heap [] := va_S.rf
  have hP : va_P (dC, dI) vwCl [(h, .inr (12, [.int v0, .ref m1, .ref m2, .ref m3, .ref m4, .ref m5, .ref m6, .ref m7, .ref m8, .ref m9, .int v10, .int v11, .int v12, .int v13, .int v14, .long v15, .int v16, .int v17, .int v18, .ref m19, .ref m20, .int v21, .int v22, .int v23, .int v24, .int v25, .int v26, .ref m27, .int v28, .ref m29, .ref m30, .ref m31, .ref m32, .int v33, .ref m34, .int v35, .ref m36, .ref m37, .ref m38, .ref m39, .ref m40, .int v41, .ref m42, .ref m43, .ref m44])), (m5, .inl (k 0, 16, .inl (fun _ => 0)))] s.heap := hP
  have hl := lv_entry ([.ref h, .int p0, .int p1, .int p2]) (n := 4) (Nat.le_of_ble_eq_true rfl)
  rw [lg_entry_eq]
  generalize (lg_sl ([.ref h, .int p0, .int p1, .int p2]) ++ List.replicate (4 - (lg_sl ([.ref h, .int p0, .int p1, .int p2])).length) Slot.unset).toArray = ls at hl ⊢
  have hl : lv_has ls 4 [(0, .ref h), (1, .int p0), (2, .int p1), (3, .int p2)] := hl
  refine lv_aload_n hx hb dX12_cut_0 rfl (lv_at hl 0 rfl) ?_
  refine lv_iconst (v := 0) hx hb dX12_cut_1 (by decide) ?_
  refine va_put (D := (dC, dI)) (ci := 12) (v := .int 0) (ty := .int) (C := RX12) (T := TX12) (N := 45) hx hb hts hi12 tyX12 tyX12_ok nmX12 hown hK hP hD hS 0 rfl rfl 0 (by decide) (hts (.fieldLink RX12 88 "HeightFineModel" "code" "I") (by decide +kernel)) (fun _ h9 => h9) rfl (by decide +kernel) rfl rfl (Nat.le_of_ble_eq_true rfl) dX12_cut_2 (fun H locs hP hD hS => ?_)
  have hP : va_P (dC, dI) vwCl [(h, .inr (12, [.int 0, .ref m1, .ref m2, .ref m3, .ref m4, .ref m5, .ref m6, .ref m7, .ref m8, .ref m9, .int v10, .int v11, .int v12, .int v13, .int v14, .long v15, .int v16, .int v17, .int v18, .ref m19, .ref m20, .int v21, .int v22, .int v23, .int v24, .int v25, .int v26, .ref m27, .int v28, .ref m29, .ref m30, .ref m31, .ref m32, .int v33, .ref m34, .int v35, .ref m36, .ref m37, .ref m38, .ref m39, .ref m40, .int v41, .ref m42, .ref m43, .ref m44])), (m5, .inl (k 0, 16, .inl (fun _ => 0)))] H := hP
  have hD : va_D A [(h, .inr (12, [.int 0, .ref m1, .ref m2, .ref m3, .ref m4, .ref m5, .ref m6, .ref m7, .ref m8, .ref m9, .int v10, .int v11, .int v12, .int v13, .int v14, .long v15, .int v16, .int v17, .int v18, .ref m19, .ref m20, .int v21, .int v22, .int v23, .int v24, .int v25, .int v26, .ref m27, .int v28, .ref m29, .ref m30, .ref m31, .ref m32, .int v33, .ref m34, .int v35, .ref m36, .ref m37, .ref m38, .ref m39, .ref m40, .int v41, .ref m42, .ref m43, .ref m44])), (m5, .inl (k 0, 16, .inl (fun _ => 0)))] := hD
  refine lv_iload_n hx hb dX12_cut_5 rfl (lv_at hl 2 rfl) ?_
  refine lv_iconst (v := 0) hx hb dX12_cut_6 (by decide) ?_
  refine lv_bipush (v := 99) hx hb dX12_cut_7 (by decide) ?_
  refine vp_callSi (W.runS (As := [.int p1, .int 0, .int 99]) (rest := []) ⟨hx, hb, hml, hown, hts⟩ (m_in l p1 0 99) (va_cwS 3 hts gm_cut_m_in rfl rfl rfl (by decide +kernel) ⟨Nat.le_of_ble_eq_true rfl, Nat.le_of_ble_eq_true rfl⟩) ⟨prN_blind, fun U hU hW => ⟨rfl, trivial⟩⟩ rfl rfl hl.1 rfl (lv_room (Nat.le_of_ble_eq_true rfl)) dX12_cut_9 ⟨by decide +kernel, by decide +kernel⟩) (fun r_1 er_1 => ?_)
  subst er_1
  refine W.eq (g2 := F0 m 12 ls [.int (inR p1 0 99)]) rfl ?_
  refine lv_if_eq (tgt := 44) hx hb dX12_cut_12 (by decide) (fun c_2 => ?_) (fun c_2 => ?_)
  · refine lv_iconst (v := (-1)) hx hb dX12_cut_44 (by decide) ?_
    have hP9 : va_P (dC, dI) vwCl [] H := hP.sub (ws' := []) [] rfl
    have hD9 : va_D A [] := hD.sub (ws' := []) [] (by decide) rfl
    refine W.widen (k := 0) (n := 0) (by decide +kernel) (by decide +kernel) ?_
    exact W.iret (v := (-1)) hx hb hr (fun t ht hW => ⟨⟨(-1), (), rfl, rfl, by rw [ht]; exact hP9, hD9⟩, hS.F ht⟩) hS.2.2 dX12_cut_45
  · refine lv_aload_n hx hb dX12_cut_15 rfl (lv_at hl 0 rfl) ?_
    refine lv_iload_n hx hb dX12_cut_16 rfl (lv_at hl 1 rfl) ?_
    have hPc := hP.sub (ws' := [(h, .inr (12, [.int 0, .ref m1, .ref m2, .ref m3, .ref m4, .ref m5, .ref m6, .ref m7, .ref m8, .ref m9, .int v10, .int v11, .int v12, .int v13, .int v14, .long v15, .int v16, .int v17, .int v18, .ref m19, .ref m20, .int v21, .int v22, .int v23, .int v24, .int v25, .int v26, .ref m27, .int v28, .ref m29, .ref m30, .ref m31, .ref m32, .int v33, .ref m34, .int v35, .ref m36, .ref m37, .ref m38, .ref m39, .ref m40, .int v41, .ref m42, .ref m43, .ref m44])), (m5, .inl (k 0, 16, .inl (fun _ => 0)))]) [0, 1] rfl
    refine vp_callSi (W.runV (As := [.int p0]) (rest := []) ⟨hx, hb, hml, hown, hts⟩ (m_hand l dC dI k h 0 m1 m2 m3 m4 m5 m6 m7 m8 m9 v10 v11 v12 v13 v14 v15 v16 v17 v18 m19 m20 v21 v22 v23 v24 v25 v26 m27 v28 m29 m30 m31 m32 v33 m34 v35 m36 m37 m38 m39 m40 v41 m42 m43 m44 p0) (cwV 1 hts gm_cut_m_hand rfl rfl rfl (by decide +kernel) ⟨Nat.le_of_ble_eq_true rfl, Nat.le_of_ble_eq_true rfl⟩) ⟨prR_blind, va_recv hK hPc (ci := 12) (q0 := 0) rfl rfl, fun U hU hW => ⟨rfl, prR_go hPc hK hU hW⟩⟩ rfl rfl hl.1 rfl (lv_room (Nat.le_of_ble_eq_true rfl)) dX12_cut_17 ⟨by decide +kernel, by decide +kernel⟩) (fun r_3 er_3 => ?_)
    subst er_3
    refine W.eq (g2 := F0 m 20 ls [.int 0]) rfl ?_
    refine lv_if_eq (tgt := 44) hx hb dX12_cut_20 (by decide) (fun _ => ?_) (fun c_4 => absurd (by decide) c_4)
    refine lv_iconst (v := (-1)) hx hb dX12_cut_44 (by decide) ?_
    have hP9 : va_P (dC, dI) vwCl [] H := hP.sub (ws' := []) [] rfl
    have hD9 : va_D A [] := hD.sub (ws' := []) [] (by decide) rfl
    refine W.widen (k := 0) (n := 0) (by decide +kernel) (by decide +kernel) ?_
    exact W.iret (v := (-1)) hx hb hr (fun t ht hW => ⟨⟨(-1), (), rfl, rfl, by rw [ht]; exact hP9, hD9⟩, hS.F ht⟩) hS.2.2 dX12_cut_45

def ws_m_love : List Cond := .code yX12_love cX12_love 4 (some .int) :: ([.fieldLink RX12 88 "HeightFineModel" "code" "I", .methodLink RX12 100 yX12_in, .static yX12_in, .initialized RX12, .code yX12_in cX12_in 3 (some .boolean), .methodLink RX12 306 yX12_hand, .instanceMethod yX12_hand, .selects RX12 yX12_hand yX12_hand, .code yX12_hand cX12_hand 2 (some .boolean), .methodLink RX12 287 yX12_is, .instanceMethod yX12_is, .selects RX12 yX12_is yX12_is, .code yX12_is cX12_is 3 (some .boolean), .fieldLink RX12 23 "HeightFineModel" "many" "[I"] ++ u_ws RX12 TX12 45)
set_option maxRecDepth 20000 in
theorem in_m_love_12 : ∀ w ∈ u_ws RX12 TX12 45, w ∈ ws_m_love := by decide +kernel
set_option maxRecDepth 20000 in
theorem gm_love_m_in : GoodIn ws_m_love (va_wsS RX12 100 yX12_in ws_m_in) := goodIn_app (goodIn_of _ (by decide +kernel)) (goodIn_r _ [5] (by decide +kernel) (by decide +kernel))
set_option maxRecDepth 20000 in
theorem gm_love_m_hand : GoodIn ws_m_love (wsV RX12 306 RX12 yX12_hand ws_m_hand) := goodIn_app (goodIn_of _ (by decide +kernel)) (goodIn_r _ [9, 10, 11, 12, 4, 13, 14, 2, 3, 5, 15, 16, 17, 18, 19, 20, 21, 22, 23, 24, 25, 26, 27, 28, 29, 30, 31, 32, 33, 34, 35, 36, 37, 38, 39, 40, 41, 42, 43, 44, 45, 46, 47, 48, 49, 50, 51, 52, 53, 54, 55, 56, 57, 58, 59] (by decide +kernel) (by decide +kernel))
set_option maxHeartbeats 4000000 in
set_option maxRecDepth 100000 in
theorem m_love (l : Launch) (dC : Nat → ClassId) (dI : Nat → Nat → Nat) (k : Nat → ClassId) (h : Nat) (v0 : Int32) (m1 : Nat) (m2 : Nat) (m3 : Nat) (m4 : Nat) (m5 : Nat) (m6 : Nat) (m7 : Nat) (m8 : Nat) (m9 : Nat) (v10 : Int32) (v11 : Int32) (v12 : Int32) (v13 : Int32) (v14 : Int32) (v15 : Int64) (v16 : Int32) (v17 : Int32) (v18 : Int32) (m19 : Nat) (m20 : Nat) (v21 : Int32) (v22 : Int32) (v23 : Int32) (v24 : Int32) (v25 : Int32) (v26 : Int32) (m27 : Nat) (v28 : Int32) (m29 : Nat) (m30 : Nat) (m31 : Nat) (m32 : Nat) (v33 : Int32) (m34 : Nat) (v35 : Int32) (m36 : Nat) (m37 : Nat) (m38 : Nat) (m39 : Nat) (m40 : Nat) (v41 : Int32) (m42 : Nat) (m43 : Nat) (m44 : Nat) (p0 : Int32) (p1 : Int32) (p2 : Int32) (sz : Nat) : Met l yX12_love ws_m_love ({ frames := 3, cells := 0, slots := 0, locals := 65 }) (va_Pc [.ref h, .int p0, .int p1, .int p2] (prW dC dI k [(h, .inr (12, [.int v0, .ref m1, .ref m2, .ref m3, .ref m4, .ref m5, .ref m6, .ref m7, .ref m8, .ref m9, .int v10, .int v11, .int v12, .int v13, .int v14, .long v15, .int v16, .int v17, .int v18, .ref m19, .ref m20, .int v21, .int v22, .int v23, .int v24, .int v25, .int v26, .ref m27, .int v28, .ref m29, .ref m30, .ref m31, .ref m32, .int v33, .ref m34, .int v35, .ref m36, .ref m37, .ref m38, .ref m39, .ref m40, .int v41, .ref m42, .ref m43, .ref m44])), (m5, .inl (k 0, 16, .inl (fun _ => 0)))] sz)) (va_Qi (fun (r : Int32) (_ : Unit) => r = (-1)) (fun (u : Unit) (t : State) => po (dC, dI) (va_A [(h, .inr (12, [.int v0, .ref m1, .ref m2, .ref m3, .ref m4, .ref m5, .ref m6, .ref m7, .ref m8, .ref m9, .int v10, .int v11, .int v12, .int v13, .int v14, .long v15, .int v16, .int v17, .int v18, .ref m19, .ref m20, .int v21, .int v22, .int v23, .int v24, .int v25, .int v26, .ref m27, .int v28, .ref m29, .ref m30, .ref m31, .ref m32, .int v33, .ref m34, .int v35, .ref m36, .ref m37, .ref m38, .ref m39, .ref m40, .int v41, .ref m42, .ref m43, .ref m44])), (m5, .inl (k 0, 16, .inl (fun _ => 0)))] sz) [] t) (va_A [(h, .inr (12, [.int v0, .ref m1, .ref m2, .ref m3, .ref m4, .ref m5, .ref m6, .ref m7, .ref m8, .ref m9, .int v10, .int v11, .int v12, .int v13, .int v14, .long v15, .int v16, .int v17, .int v18, .ref m19, .ref m20, .int v21, .int v22, .int v23, .int v24, .int v25, .int v26, .ref m27, .int v28, .ref m29, .ref m30, .ref m31, .ref m32, .int v33, .ref m34, .int v35, .ref m36, .ref m37, .ref m38, .ref m39, .ref m40, .int v41, .ref m42, .ref m43, .ref m44])), (m5, .inl (k 0, 16, .inl (fun _ => 0)))] sz)) 0 0 (va_A [(h, .inr (12, [.int v0, .ref m1, .ref m2, .ref m3, .ref m4, .ref m5, .ref m6, .ref m7, .ref m8, .ref m9, .int v10, .int v11, .int v12, .int v13, .int v14, .long v15, .int v16, .int v17, .int v18, .ref m19, .ref m20, .int v21, .int v22, .int v23, .int v24, .int v25, .int v26, .ref m27, .int v28, .ref m29, .ref m30, .ref m31, .ref m32, .int v33, .ref m34, .int v35, .ref m36, .ref m37, .ref m38, .ref m39, .ref m40, .int v41, .ref m42, .ref m43, .ref m44])), (m5, .inl (k 0, 16, .inl (fun _ => 0)))] sz) := by
  refine Met.ofW (cc := cX12_love) (maxL := 4) (ret := (some .int)) (by decide) rfl ?_
  intro p e s m args below meth c s₁ B hml hv
  obtain ⟨rfl, hsz, hP, hK, hD0⟩ := hv
  have hx := B.exec
  have hb := B.bytes
  have hr := B.returns
  have hts := atoms_spec (ws := ws_m_love) B.pre
  have hown : s.vm.findClass RX12 = some m.cls := findClass_of_methodNamed B.named
  have hi12 := in_m_love_12
  subst hsz
  have hD := hD0.self (sz := s.heap.size)
  generalize hAe : va_A [(h, .inr (12, [.int v0, .ref m1, .ref m2, .ref m3, .ref m4, .ref m5, .ref m6, .ref m7, .ref m8, .ref m9, .int v10, .int v11, .int v12, .int v13, .int v14, .long v15, .int v16, .int v17, .int v18, .ref m19, .ref m20, .int v21, .int v22, .int v23, .int v24, .int v25, .int v26, .ref m27, .int v28, .ref m29, .ref m30, .ref m31, .ref m32, .int v33, .ref m34, .int v35, .ref m36, .ref m37, .ref m38, .ref m39, .ref m40, .int v41, .ref m42, .ref m43, .ref m44])), (m5, .inl (k 0, 16, .inl (fun _ => 0)))] s.heap.size = A at hD ⊢
  have hA : ∀ q : Nat, s.heap.size ≤ q → A q := fun q h => by rw [← hAe]; exact Or.inr h
  have hS : va_S A s.heap s.heap [] := va_S.rf
  have hP : va_P (dC, dI) vwCl [(h, .inr (12, [.int v0, .ref m1, .ref m2, .ref m3, .ref m4, .ref m5, .ref m6, .ref m7, .ref m8, .ref m9, .int v10, .int v11, .int v12, .int v13, .int v14, .long v15, .int v16, .int v17, .int v18, .ref m19, .ref m20, .int v21, .int v22, .int v23, .int v24, .int v25, .int v26, .ref m27, .int v28, .ref m29, .ref m30, .ref m31, .ref m32, .int v33, .ref m34, .int v35, .ref m36, .ref m37, .ref m38, .ref m39, .ref m40, .int v41, .ref m42, .ref m43, .ref m44])), (m5, .inl (k 0, 16, .inl (fun _ => 0)))] s.heap := hP
  have hl := lv_entry ([.ref h, .int p0, .int p1, .int p2]) (n := 4) (Nat.le_of_ble_eq_true rfl)
  rw [lg_entry_eq]
  generalize (lg_sl ([.ref h, .int p0, .int p1, .int p2]) ++ List.replicate (4 - (lg_sl ([.ref h, .int p0, .int p1, .int p2])).length) Slot.unset).toArray = ls at hl ⊢
  have hl : lv_has ls 4 [(0, .ref h), (1, .int p0), (2, .int p1), (3, .int p2)] := hl
  refine lv_aload_n hx hb dX12_love_0 rfl (lv_at hl 0 rfl) ?_
  refine lv_iconst (v := 0) hx hb dX12_love_1 (by decide) ?_
  refine va_put (D := (dC, dI)) (ci := 12) (v := .int 0) (ty := .int) (C := RX12) (T := TX12) (N := 45) hx hb hts hi12 tyX12 tyX12_ok nmX12 hown hK hP hD hS 0 rfl rfl 0 (by decide) (hts (.fieldLink RX12 88 "HeightFineModel" "code" "I") (by decide +kernel)) (fun _ h9 => h9) rfl (by decide +kernel) rfl rfl (Nat.le_of_ble_eq_true rfl) dX12_love_2 (fun H locs hP hD hS => ?_)
  have hP : va_P (dC, dI) vwCl [(h, .inr (12, [.int 0, .ref m1, .ref m2, .ref m3, .ref m4, .ref m5, .ref m6, .ref m7, .ref m8, .ref m9, .int v10, .int v11, .int v12, .int v13, .int v14, .long v15, .int v16, .int v17, .int v18, .ref m19, .ref m20, .int v21, .int v22, .int v23, .int v24, .int v25, .int v26, .ref m27, .int v28, .ref m29, .ref m30, .ref m31, .ref m32, .int v33, .ref m34, .int v35, .ref m36, .ref m37, .ref m38, .ref m39, .ref m40, .int v41, .ref m42, .ref m43, .ref m44])), (m5, .inl (k 0, 16, .inl (fun _ => 0)))] H := hP
  have hD : va_D A [(h, .inr (12, [.int 0, .ref m1, .ref m2, .ref m3, .ref m4, .ref m5, .ref m6, .ref m7, .ref m8, .ref m9, .int v10, .int v11, .int v12, .int v13, .int v14, .long v15, .int v16, .int v17, .int v18, .ref m19, .ref m20, .int v21, .int v22, .int v23, .int v24, .int v25, .int v26, .ref m27, .int v28, .ref m29, .ref m30, .ref m31, .ref m32, .int v33, .ref m34, .int v35, .ref m36, .ref m37, .ref m38, .ref m39, .ref m40, .int v41, .ref m42, .ref m43, .ref m44])), (m5, .inl (k 0, 16, .inl (fun _ => 0)))] := hD
  refine lv_iload_n hx hb dX12_love_5 rfl (lv_at hl 2 rfl) ?_
  refine lv_iconst (v := 0) hx hb dX12_love_6 (by decide) ?_
  refine lv_bipush (v := 99) hx hb dX12_love_7 (by decide) ?_
  refine vp_callSi (W.runS (As := [.int p1, .int 0, .int 99]) (rest := []) ⟨hx, hb, hml, hown, hts⟩ (m_in l p1 0 99) (va_cwS 3 hts gm_love_m_in rfl rfl rfl (by decide +kernel) ⟨Nat.le_of_ble_eq_true rfl, Nat.le_of_ble_eq_true rfl⟩) ⟨prN_blind, fun U hU hW => ⟨rfl, trivial⟩⟩ rfl rfl hl.1 rfl (lv_room (Nat.le_of_ble_eq_true rfl)) dX12_love_9 ⟨by decide +kernel, by decide +kernel⟩) (fun r_1 er_1 => ?_)
  subst er_1
  refine W.eq (g2 := F0 m 12 ls [.int (inR p1 0 99)]) rfl ?_
  refine lv_if_eq (tgt := 23) hx hb dX12_love_12 (by decide) (fun c_2 => ?_) (fun c_2 => ?_)
  · refine lv_iconst (v := (-1)) hx hb dX12_love_23 (by decide) ?_
    have hP9 : va_P (dC, dI) vwCl [] H := hP.sub (ws' := []) [] rfl
    have hD9 : va_D A [] := hD.sub (ws' := []) [] (by decide) rfl
    refine W.widen (k := 0) (n := 0) (by decide +kernel) (by decide +kernel) ?_
    exact W.iret (v := (-1)) hx hb hr (fun t ht hW => ⟨⟨(-1), (), rfl, rfl, by rw [ht]; exact hP9, hD9⟩, hS.F ht⟩) hS.2.2 dX12_love_24
  · refine lv_aload_n hx hb dX12_love_15 rfl (lv_at hl 0 rfl) ?_
    refine lv_iload_n hx hb dX12_love_16 rfl (lv_at hl 1 rfl) ?_
    have hPc := hP.sub (ws' := [(h, .inr (12, [.int 0, .ref m1, .ref m2, .ref m3, .ref m4, .ref m5, .ref m6, .ref m7, .ref m8, .ref m9, .int v10, .int v11, .int v12, .int v13, .int v14, .long v15, .int v16, .int v17, .int v18, .ref m19, .ref m20, .int v21, .int v22, .int v23, .int v24, .int v25, .int v26, .ref m27, .int v28, .ref m29, .ref m30, .ref m31, .ref m32, .int v33, .ref m34, .int v35, .ref m36, .ref m37, .ref m38, .ref m39, .ref m40, .int v41, .ref m42, .ref m43, .ref m44])), (m5, .inl (k 0, 16, .inl (fun _ => 0)))]) [0, 1] rfl
    refine vp_callSi (W.runV (As := [.int p0]) (rest := []) ⟨hx, hb, hml, hown, hts⟩ (m_hand l dC dI k h 0 m1 m2 m3 m4 m5 m6 m7 m8 m9 v10 v11 v12 v13 v14 v15 v16 v17 v18 m19 m20 v21 v22 v23 v24 v25 v26 m27 v28 m29 m30 m31 m32 v33 m34 v35 m36 m37 m38 m39 m40 v41 m42 m43 m44 p0) (cwV 1 hts gm_love_m_hand rfl rfl rfl (by decide +kernel) ⟨Nat.le_of_ble_eq_true rfl, Nat.le_of_ble_eq_true rfl⟩) ⟨prR_blind, va_recv hK hPc (ci := 12) (q0 := 0) rfl rfl, fun U hU hW => ⟨rfl, prR_go hPc hK hU hW⟩⟩ rfl rfl hl.1 rfl (lv_room (Nat.le_of_ble_eq_true rfl)) dX12_love_17 ⟨by decide +kernel, by decide +kernel⟩) (fun r_3 er_3 => ?_)
    subst er_3
    refine W.eq (g2 := F0 m 20 ls [.int 0]) rfl ?_
    refine lv_if_ne (tgt := 25) hx hb dX12_love_20 (by decide) (fun c_4 => absurd (by decide) c_4) (fun _ => ?_)
    refine lv_iconst (v := (-1)) hx hb dX12_love_23 (by decide) ?_
    have hP9 : va_P (dC, dI) vwCl [] H := hP.sub (ws' := []) [] rfl
    have hD9 : va_D A [] := hD.sub (ws' := []) [] (by decide) rfl
    refine W.widen (k := 0) (n := 0) (by decide +kernel) (by decide +kernel) ?_
    exact W.iret (v := (-1)) hx hb hr (fun t ht hW => ⟨⟨(-1), (), rfl, rfl, by rw [ht]; exact hP9, hD9⟩, hS.F ht⟩) hS.2.2 dX12_love_24

def ws_m_dares : List Cond := .code yX12_dares cX12_dares 8 (some .int) :: ([.fieldLink RX12 88 "HeightFineModel" "code" "I", .methodLink RX12 306 yX12_hand, .instanceMethod yX12_hand, .selects RX12 yX12_hand yX12_hand, .initialized RX12, .code yX12_hand cX12_hand 2 (some .boolean), .methodLink RX12 287 yX12_is, .instanceMethod yX12_is, .selects RX12 yX12_is yX12_is, .code yX12_is cX12_is 3 (some .boolean), .fieldLink RX12 23 "HeightFineModel" "many" "[I", .methodLink RX12 100 yX12_in, .static yX12_in, .code yX12_in cX12_in 3 (some .boolean)] ++ u_ws RX12 TX12 45)
set_option maxRecDepth 20000 in
theorem in_m_dares_12 : ∀ w ∈ u_ws RX12 TX12 45, w ∈ ws_m_dares := by decide +kernel
set_option maxRecDepth 20000 in
theorem gm_dares_m_hand : GoodIn ws_m_dares (wsV RX12 306 RX12 yX12_hand ws_m_hand) := goodIn_app (goodIn_of _ (by decide +kernel)) (goodIn_r _ [6, 7, 8, 9, 5, 10, 11, 12, 13, 14, 15, 16, 17, 18, 19, 20, 21, 22, 23, 24, 25, 26, 27, 28, 29, 30, 31, 32, 33, 34, 35, 36, 37, 38, 39, 40, 41, 42, 43, 44, 45, 46, 47, 48, 49, 50, 51, 52, 53, 54, 55, 56, 57, 58, 59] (by decide +kernel) (by decide +kernel))
set_option maxHeartbeats 4000000 in
set_option maxRecDepth 100000 in
theorem m_dares (l : Launch) (dC : Nat → ClassId) (dI : Nat → Nat → Nat) (k : Nat → ClassId) (h : Nat) (v0 : Int32) (m1 : Nat) (m2 : Nat) (m3 : Nat) (m4 : Nat) (m5 : Nat) (m6 : Nat) (m7 : Nat) (m8 : Nat) (m9 : Nat) (v10 : Int32) (v11 : Int32) (v12 : Int32) (v13 : Int32) (v14 : Int32) (v15 : Int64) (v16 : Int32) (v17 : Int32) (v18 : Int32) (m19 : Nat) (m20 : Nat) (v21 : Int32) (v22 : Int32) (v23 : Int32) (v24 : Int32) (v25 : Int32) (v26 : Int32) (m27 : Nat) (v28 : Int32) (m29 : Nat) (m30 : Nat) (m31 : Nat) (m32 : Nat) (v33 : Int32) (m34 : Nat) (v35 : Int32) (m36 : Nat) (m37 : Nat) (m38 : Nat) (m39 : Nat) (m40 : Nat) (v41 : Int32) (m42 : Nat) (m43 : Nat) (m44 : Nat) (p0 : Int32) (p1 : Int32) (p2 : Int32) (p3 : Int32) (sz : Nat) : Met l yX12_dares ws_m_dares ({ frames := 3, cells := 0, slots := 0, locals := 65 }) (va_Pc [.ref h, .int p0, .int p1, .int p2, .int p3] (prW dC dI k [(h, .inr (12, [.int v0, .ref m1, .ref m2, .ref m3, .ref m4, .ref m5, .ref m6, .ref m7, .ref m8, .ref m9, .int v10, .int v11, .int v12, .int v13, .int v14, .long v15, .int v16, .int v17, .int v18, .ref m19, .ref m20, .int v21, .int v22, .int v23, .int v24, .int v25, .int v26, .ref m27, .int v28, .ref m29, .ref m30, .ref m31, .ref m32, .int v33, .ref m34, .int v35, .ref m36, .ref m37, .ref m38, .ref m39, .ref m40, .int v41, .ref m42, .ref m43, .ref m44])), (m5, .inl (k 0, 16, .inl (fun _ => 0)))] sz)) (va_Qi (fun (r : Int32) (_ : Unit) => r = (-2)) (fun (u : Unit) (t : State) => po (dC, dI) (va_A [(h, .inr (12, [.int v0, .ref m1, .ref m2, .ref m3, .ref m4, .ref m5, .ref m6, .ref m7, .ref m8, .ref m9, .int v10, .int v11, .int v12, .int v13, .int v14, .long v15, .int v16, .int v17, .int v18, .ref m19, .ref m20, .int v21, .int v22, .int v23, .int v24, .int v25, .int v26, .ref m27, .int v28, .ref m29, .ref m30, .ref m31, .ref m32, .int v33, .ref m34, .int v35, .ref m36, .ref m37, .ref m38, .ref m39, .ref m40, .int v41, .ref m42, .ref m43, .ref m44])), (m5, .inl (k 0, 16, .inl (fun _ => 0)))] sz) [] t) (va_A [(h, .inr (12, [.int v0, .ref m1, .ref m2, .ref m3, .ref m4, .ref m5, .ref m6, .ref m7, .ref m8, .ref m9, .int v10, .int v11, .int v12, .int v13, .int v14, .long v15, .int v16, .int v17, .int v18, .ref m19, .ref m20, .int v21, .int v22, .int v23, .int v24, .int v25, .int v26, .ref m27, .int v28, .ref m29, .ref m30, .ref m31, .ref m32, .int v33, .ref m34, .int v35, .ref m36, .ref m37, .ref m38, .ref m39, .ref m40, .int v41, .ref m42, .ref m43, .ref m44])), (m5, .inl (k 0, 16, .inl (fun _ => 0)))] sz)) 0 0 (va_A [(h, .inr (12, [.int v0, .ref m1, .ref m2, .ref m3, .ref m4, .ref m5, .ref m6, .ref m7, .ref m8, .ref m9, .int v10, .int v11, .int v12, .int v13, .int v14, .long v15, .int v16, .int v17, .int v18, .ref m19, .ref m20, .int v21, .int v22, .int v23, .int v24, .int v25, .int v26, .ref m27, .int v28, .ref m29, .ref m30, .ref m31, .ref m32, .int v33, .ref m34, .int v35, .ref m36, .ref m37, .ref m38, .ref m39, .ref m40, .int v41, .ref m42, .ref m43, .ref m44])), (m5, .inl (k 0, 16, .inl (fun _ => 0)))] sz) := by
  refine Met.ofW (cc := cX12_dares) (maxL := 8) (ret := (some .int)) (by decide) rfl ?_
  intro p e s m args below meth c s₁ B hml hv
  obtain ⟨rfl, hsz, hP, hK, hD0⟩ := hv
  have hx := B.exec
  have hb := B.bytes
  have hr := B.returns
  have hts := atoms_spec (ws := ws_m_dares) B.pre
  have hown : s.vm.findClass RX12 = some m.cls := findClass_of_methodNamed B.named
  have hi12 := in_m_dares_12
  subst hsz
  have hD := hD0.self (sz := s.heap.size)
  generalize hAe : va_A [(h, .inr (12, [.int v0, .ref m1, .ref m2, .ref m3, .ref m4, .ref m5, .ref m6, .ref m7, .ref m8, .ref m9, .int v10, .int v11, .int v12, .int v13, .int v14, .long v15, .int v16, .int v17, .int v18, .ref m19, .ref m20, .int v21, .int v22, .int v23, .int v24, .int v25, .int v26, .ref m27, .int v28, .ref m29, .ref m30, .ref m31, .ref m32, .int v33, .ref m34, .int v35, .ref m36, .ref m37, .ref m38, .ref m39, .ref m40, .int v41, .ref m42, .ref m43, .ref m44])), (m5, .inl (k 0, 16, .inl (fun _ => 0)))] s.heap.size = A at hD ⊢
  have hA : ∀ q : Nat, s.heap.size ≤ q → A q := fun q h => by rw [← hAe]; exact Or.inr h
  have hS : va_S A s.heap s.heap [] := va_S.rf
  have hP : va_P (dC, dI) vwCl [(h, .inr (12, [.int v0, .ref m1, .ref m2, .ref m3, .ref m4, .ref m5, .ref m6, .ref m7, .ref m8, .ref m9, .int v10, .int v11, .int v12, .int v13, .int v14, .long v15, .int v16, .int v17, .int v18, .ref m19, .ref m20, .int v21, .int v22, .int v23, .int v24, .int v25, .int v26, .ref m27, .int v28, .ref m29, .ref m30, .ref m31, .ref m32, .int v33, .ref m34, .int v35, .ref m36, .ref m37, .ref m38, .ref m39, .ref m40, .int v41, .ref m42, .ref m43, .ref m44])), (m5, .inl (k 0, 16, .inl (fun _ => 0)))] s.heap := hP
  have hl := lv_entry ([.ref h, .int p0, .int p1, .int p2, .int p3]) (n := 8) (Nat.le_of_ble_eq_true rfl)
  rw [lg_entry_eq]
  generalize (lg_sl ([.ref h, .int p0, .int p1, .int p2, .int p3]) ++ List.replicate (8 - (lg_sl ([.ref h, .int p0, .int p1, .int p2, .int p3])).length) Slot.unset).toArray = ls at hl ⊢
  have hl : lv_has ls 8 [(0, .ref h), (1, .int p0), (2, .int p1), (3, .int p2), (4, .int p3)] := hl
  refine lv_aload_n hx hb dX12_dares_0 rfl (lv_at hl 0 rfl) ?_
  refine lv_iconst (v := 0) hx hb dX12_dares_1 (by decide) ?_
  refine va_put (D := (dC, dI)) (ci := 12) (v := .int 0) (ty := .int) (C := RX12) (T := TX12) (N := 45) hx hb hts hi12 tyX12 tyX12_ok nmX12 hown hK hP hD hS 0 rfl rfl 0 (by decide) (hts (.fieldLink RX12 88 "HeightFineModel" "code" "I") (by decide +kernel)) (fun _ h9 => h9) rfl (by decide +kernel) rfl rfl (Nat.le_of_ble_eq_true rfl) dX12_dares_2 (fun H locs hP hD hS => ?_)
  have hP : va_P (dC, dI) vwCl [(h, .inr (12, [.int 0, .ref m1, .ref m2, .ref m3, .ref m4, .ref m5, .ref m6, .ref m7, .ref m8, .ref m9, .int v10, .int v11, .int v12, .int v13, .int v14, .long v15, .int v16, .int v17, .int v18, .ref m19, .ref m20, .int v21, .int v22, .int v23, .int v24, .int v25, .int v26, .ref m27, .int v28, .ref m29, .ref m30, .ref m31, .ref m32, .int v33, .ref m34, .int v35, .ref m36, .ref m37, .ref m38, .ref m39, .ref m40, .int v41, .ref m42, .ref m43, .ref m44])), (m5, .inl (k 0, 16, .inl (fun _ => 0)))] H := hP
  have hD : va_D A [(h, .inr (12, [.int 0, .ref m1, .ref m2, .ref m3, .ref m4, .ref m5, .ref m6, .ref m7, .ref m8, .ref m9, .int v10, .int v11, .int v12, .int v13, .int v14, .long v15, .int v16, .int v17, .int v18, .ref m19, .ref m20, .int v21, .int v22, .int v23, .int v24, .int v25, .int v26, .ref m27, .int v28, .ref m29, .ref m30, .ref m31, .ref m32, .int v33, .ref m34, .int v35, .ref m36, .ref m37, .ref m38, .ref m39, .ref m40, .int v41, .ref m42, .ref m43, .ref m44])), (m5, .inl (k 0, 16, .inl (fun _ => 0)))] := hD
  refine lv_aload_n hx hb dX12_dares_5 rfl (lv_at hl 0 rfl) ?_
  refine lv_iload_n hx hb dX12_dares_6 rfl (lv_at hl 1 rfl) ?_
  have hPc := hP.sub (ws' := [(h, .inr (12, [.int 0, .ref m1, .ref m2, .ref m3, .ref m4, .ref m5, .ref m6, .ref m7, .ref m8, .ref m9, .int v10, .int v11, .int v12, .int v13, .int v14, .long v15, .int v16, .int v17, .int v18, .ref m19, .ref m20, .int v21, .int v22, .int v23, .int v24, .int v25, .int v26, .ref m27, .int v28, .ref m29, .ref m30, .ref m31, .ref m32, .int v33, .ref m34, .int v35, .ref m36, .ref m37, .ref m38, .ref m39, .ref m40, .int v41, .ref m42, .ref m43, .ref m44])), (m5, .inl (k 0, 16, .inl (fun _ => 0)))]) [0, 1] rfl
  refine vp_callSi (W.runV (As := [.int p0]) (rest := []) ⟨hx, hb, hml, hown, hts⟩ (m_hand l dC dI k h 0 m1 m2 m3 m4 m5 m6 m7 m8 m9 v10 v11 v12 v13 v14 v15 v16 v17 v18 m19 m20 v21 v22 v23 v24 v25 v26 m27 v28 m29 m30 m31 m32 v33 m34 v35 m36 m37 m38 m39 m40 v41 m42 m43 m44 p0) (cwV 1 hts gm_dares_m_hand rfl rfl rfl (by decide +kernel) ⟨Nat.le_of_ble_eq_true rfl, Nat.le_of_ble_eq_true rfl⟩) ⟨prR_blind, va_recv hK hPc (ci := 12) (q0 := 0) rfl rfl, fun U hU hW => ⟨rfl, prR_go hPc hK hU hW⟩⟩ rfl rfl hl.1 rfl (lv_room (Nat.le_of_ble_eq_true rfl)) dX12_dares_7 ⟨by decide +kernel, by decide +kernel⟩) (fun r_1 er_1 => ?_)
  subst er_1
  refine W.eq (g2 := F0 m 10 ls [.int 0]) rfl ?_
  refine lv_if_eq (tgt := 42) hx hb dX12_dares_10 (by decide) (fun _ => ?_) (fun c_2 => absurd (by decide) c_2)
  refine lv_bipush (v := (-2)) hx hb dX12_dares_42 (by decide) ?_
  have hP9 : va_P (dC, dI) vwCl [] H := hP.sub (ws' := []) [] rfl
  have hD9 : va_D A [] := hD.sub (ws' := []) [] (by decide) rfl
  refine W.widen (k := 0) (n := 0) (by decide +kernel) (by decide +kernel) ?_
  exact W.iret (v := (-2)) hx hb hr (fun t ht hW => ⟨⟨(-2), (), rfl, rfl, by rw [ht]; exact hP9, hD9⟩, hS.F ht⟩) hS.2.2 dX12_dares_44

def ws_m_share : List Cond := .code yX12_share cX12_share 6 (some .int) :: ([.fieldLink RX12 88 "HeightFineModel" "code" "I", .methodLink RX12 306 yX12_hand, .instanceMethod yX12_hand, .selects RX12 yX12_hand yX12_hand, .initialized RX12, .code yX12_hand cX12_hand 2 (some .boolean), .methodLink RX12 287 yX12_is, .instanceMethod yX12_is, .selects RX12 yX12_is yX12_is, .code yX12_is cX12_is 3 (some .boolean), .fieldLink RX12 23 "HeightFineModel" "many" "[I", .methodLink RX12 100 yX12_in, .static yX12_in, .code yX12_in cX12_in 3 (some .boolean)] ++ u_ws RX12 TX12 45)
set_option maxRecDepth 20000 in
theorem in_m_share_12 : ∀ w ∈ u_ws RX12 TX12 45, w ∈ ws_m_share := by decide +kernel
set_option maxRecDepth 20000 in
theorem gm_share_m_hand : GoodIn ws_m_share (wsV RX12 306 RX12 yX12_hand ws_m_hand) := goodIn_app (goodIn_of _ (by decide +kernel)) (goodIn_r _ [6, 7, 8, 9, 5, 10, 11, 12, 13, 14, 15, 16, 17, 18, 19, 20, 21, 22, 23, 24, 25, 26, 27, 28, 29, 30, 31, 32, 33, 34, 35, 36, 37, 38, 39, 40, 41, 42, 43, 44, 45, 46, 47, 48, 49, 50, 51, 52, 53, 54, 55, 56, 57, 58, 59] (by decide +kernel) (by decide +kernel))
set_option maxHeartbeats 4000000 in
set_option maxRecDepth 100000 in
theorem m_share (l : Launch) (dC : Nat → ClassId) (dI : Nat → Nat → Nat) (k : Nat → ClassId) (h : Nat) (v0 : Int32) (m1 : Nat) (m2 : Nat) (m3 : Nat) (m4 : Nat) (m5 : Nat) (m6 : Nat) (m7 : Nat) (m8 : Nat) (m9 : Nat) (v10 : Int32) (v11 : Int32) (v12 : Int32) (v13 : Int32) (v14 : Int32) (v15 : Int64) (v16 : Int32) (v17 : Int32) (v18 : Int32) (m19 : Nat) (m20 : Nat) (v21 : Int32) (v22 : Int32) (v23 : Int32) (v24 : Int32) (v25 : Int32) (v26 : Int32) (m27 : Nat) (v28 : Int32) (m29 : Nat) (m30 : Nat) (m31 : Nat) (m32 : Nat) (v33 : Int32) (m34 : Nat) (v35 : Int32) (m36 : Nat) (m37 : Nat) (m38 : Nat) (m39 : Nat) (m40 : Nat) (v41 : Int32) (m42 : Nat) (m43 : Nat) (m44 : Nat) (p0 : Int32) (p1 : Int32) (p2 : Int32) (p3 : Int32) (sz : Nat) : Met l yX12_share ws_m_share ({ frames := 3, cells := 0, slots := 0, locals := 65 }) (va_Pc [.ref h, .int p0, .int p1, .int p2, .int p3] (prW dC dI k [(h, .inr (12, [.int v0, .ref m1, .ref m2, .ref m3, .ref m4, .ref m5, .ref m6, .ref m7, .ref m8, .ref m9, .int v10, .int v11, .int v12, .int v13, .int v14, .long v15, .int v16, .int v17, .int v18, .ref m19, .ref m20, .int v21, .int v22, .int v23, .int v24, .int v25, .int v26, .ref m27, .int v28, .ref m29, .ref m30, .ref m31, .ref m32, .int v33, .ref m34, .int v35, .ref m36, .ref m37, .ref m38, .ref m39, .ref m40, .int v41, .ref m42, .ref m43, .ref m44])), (m5, .inl (k 0, 16, .inl (fun _ => 0)))] sz)) (va_Qi (fun (r : Int32) (_ : Unit) => r = (-1)) (fun (u : Unit) (t : State) => po (dC, dI) (va_A [(h, .inr (12, [.int v0, .ref m1, .ref m2, .ref m3, .ref m4, .ref m5, .ref m6, .ref m7, .ref m8, .ref m9, .int v10, .int v11, .int v12, .int v13, .int v14, .long v15, .int v16, .int v17, .int v18, .ref m19, .ref m20, .int v21, .int v22, .int v23, .int v24, .int v25, .int v26, .ref m27, .int v28, .ref m29, .ref m30, .ref m31, .ref m32, .int v33, .ref m34, .int v35, .ref m36, .ref m37, .ref m38, .ref m39, .ref m40, .int v41, .ref m42, .ref m43, .ref m44])), (m5, .inl (k 0, 16, .inl (fun _ => 0)))] sz) [] t) (va_A [(h, .inr (12, [.int v0, .ref m1, .ref m2, .ref m3, .ref m4, .ref m5, .ref m6, .ref m7, .ref m8, .ref m9, .int v10, .int v11, .int v12, .int v13, .int v14, .long v15, .int v16, .int v17, .int v18, .ref m19, .ref m20, .int v21, .int v22, .int v23, .int v24, .int v25, .int v26, .ref m27, .int v28, .ref m29, .ref m30, .ref m31, .ref m32, .int v33, .ref m34, .int v35, .ref m36, .ref m37, .ref m38, .ref m39, .ref m40, .int v41, .ref m42, .ref m43, .ref m44])), (m5, .inl (k 0, 16, .inl (fun _ => 0)))] sz)) 0 0 (va_A [(h, .inr (12, [.int v0, .ref m1, .ref m2, .ref m3, .ref m4, .ref m5, .ref m6, .ref m7, .ref m8, .ref m9, .int v10, .int v11, .int v12, .int v13, .int v14, .long v15, .int v16, .int v17, .int v18, .ref m19, .ref m20, .int v21, .int v22, .int v23, .int v24, .int v25, .int v26, .ref m27, .int v28, .ref m29, .ref m30, .ref m31, .ref m32, .int v33, .ref m34, .int v35, .ref m36, .ref m37, .ref m38, .ref m39, .ref m40, .int v41, .ref m42, .ref m43, .ref m44])), (m5, .inl (k 0, 16, .inl (fun _ => 0)))] sz) := by
  refine Met.ofW (cc := cX12_share) (maxL := 6) (ret := (some .int)) (by decide) rfl ?_
  intro p e s m args below meth c s₁ B hml hv
  obtain ⟨rfl, hsz, hP, hK, hD0⟩ := hv
  have hx := B.exec
  have hb := B.bytes
  have hr := B.returns
  have hts := atoms_spec (ws := ws_m_share) B.pre
  have hown : s.vm.findClass RX12 = some m.cls := findClass_of_methodNamed B.named
  have hi12 := in_m_share_12
  subst hsz
  have hD := hD0.self (sz := s.heap.size)
  generalize hAe : va_A [(h, .inr (12, [.int v0, .ref m1, .ref m2, .ref m3, .ref m4, .ref m5, .ref m6, .ref m7, .ref m8, .ref m9, .int v10, .int v11, .int v12, .int v13, .int v14, .long v15, .int v16, .int v17, .int v18, .ref m19, .ref m20, .int v21, .int v22, .int v23, .int v24, .int v25, .int v26, .ref m27, .int v28, .ref m29, .ref m30, .ref m31, .ref m32, .int v33, .ref m34, .int v35, .ref m36, .ref m37, .ref m38, .ref m39, .ref m40, .int v41, .ref m42, .ref m43, .ref m44])), (m5, .inl (k 0, 16, .inl (fun _ => 0)))] s.heap.size = A at hD ⊢
  have hA : ∀ q : Nat, s.heap.size ≤ q → A q := fun q h => by rw [← hAe]; exact Or.inr h
  have hS : va_S A s.heap s.heap [] := va_S.rf
  have hP : va_P (dC, dI) vwCl [(h, .inr (12, [.int v0, .ref m1, .ref m2, .ref m3, .ref m4, .ref m5, .ref m6, .ref m7, .ref m8, .ref m9, .int v10, .int v11, .int v12, .int v13, .int v14, .long v15, .int v16, .int v17, .int v18, .ref m19, .ref m20, .int v21, .int v22, .int v23, .int v24, .int v25, .int v26, .ref m27, .int v28, .ref m29, .ref m30, .ref m31, .ref m32, .int v33, .ref m34, .int v35, .ref m36, .ref m37, .ref m38, .ref m39, .ref m40, .int v41, .ref m42, .ref m43, .ref m44])), (m5, .inl (k 0, 16, .inl (fun _ => 0)))] s.heap := hP
  have hl := lv_entry ([.ref h, .int p0, .int p1, .int p2, .int p3]) (n := 6) (Nat.le_of_ble_eq_true rfl)
  rw [lg_entry_eq]
  generalize (lg_sl ([.ref h, .int p0, .int p1, .int p2, .int p3]) ++ List.replicate (6 - (lg_sl ([.ref h, .int p0, .int p1, .int p2, .int p3])).length) Slot.unset).toArray = ls at hl ⊢
  have hl : lv_has ls 6 [(0, .ref h), (1, .int p0), (2, .int p1), (3, .int p2), (4, .int p3)] := hl
  refine lv_aload_n hx hb dX12_share_0 rfl (lv_at hl 0 rfl) ?_
  refine lv_iconst (v := 0) hx hb dX12_share_1 (by decide) ?_
  refine va_put (D := (dC, dI)) (ci := 12) (v := .int 0) (ty := .int) (C := RX12) (T := TX12) (N := 45) hx hb hts hi12 tyX12 tyX12_ok nmX12 hown hK hP hD hS 0 rfl rfl 0 (by decide) (hts (.fieldLink RX12 88 "HeightFineModel" "code" "I") (by decide +kernel)) (fun _ h9 => h9) rfl (by decide +kernel) rfl rfl (Nat.le_of_ble_eq_true rfl) dX12_share_2 (fun H locs hP hD hS => ?_)
  have hP : va_P (dC, dI) vwCl [(h, .inr (12, [.int 0, .ref m1, .ref m2, .ref m3, .ref m4, .ref m5, .ref m6, .ref m7, .ref m8, .ref m9, .int v10, .int v11, .int v12, .int v13, .int v14, .long v15, .int v16, .int v17, .int v18, .ref m19, .ref m20, .int v21, .int v22, .int v23, .int v24, .int v25, .int v26, .ref m27, .int v28, .ref m29, .ref m30, .ref m31, .ref m32, .int v33, .ref m34, .int v35, .ref m36, .ref m37, .ref m38, .ref m39, .ref m40, .int v41, .ref m42, .ref m43, .ref m44])), (m5, .inl (k 0, 16, .inl (fun _ => 0)))] H := hP
  have hD : va_D A [(h, .inr (12, [.int 0, .ref m1, .ref m2, .ref m3, .ref m4, .ref m5, .ref m6, .ref m7, .ref m8, .ref m9, .int v10, .int v11, .int v12, .int v13, .int v14, .long v15, .int v16, .int v17, .int v18, .ref m19, .ref m20, .int v21, .int v22, .int v23, .int v24, .int v25, .int v26, .ref m27, .int v28, .ref m29, .ref m30, .ref m31, .ref m32, .int v33, .ref m34, .int v35, .ref m36, .ref m37, .ref m38, .ref m39, .ref m40, .int v41, .ref m42, .ref m43, .ref m44])), (m5, .inl (k 0, 16, .inl (fun _ => 0)))] := hD
  refine lv_aload_n hx hb dX12_share_5 rfl (lv_at hl 0 rfl) ?_
  refine lv_iload_n hx hb dX12_share_6 rfl (lv_at hl 1 rfl) ?_
  have hPc := hP.sub (ws' := [(h, .inr (12, [.int 0, .ref m1, .ref m2, .ref m3, .ref m4, .ref m5, .ref m6, .ref m7, .ref m8, .ref m9, .int v10, .int v11, .int v12, .int v13, .int v14, .long v15, .int v16, .int v17, .int v18, .ref m19, .ref m20, .int v21, .int v22, .int v23, .int v24, .int v25, .int v26, .ref m27, .int v28, .ref m29, .ref m30, .ref m31, .ref m32, .int v33, .ref m34, .int v35, .ref m36, .ref m37, .ref m38, .ref m39, .ref m40, .int v41, .ref m42, .ref m43, .ref m44])), (m5, .inl (k 0, 16, .inl (fun _ => 0)))]) [0, 1] rfl
  refine vp_callSi (W.runV (As := [.int p0]) (rest := []) ⟨hx, hb, hml, hown, hts⟩ (m_hand l dC dI k h 0 m1 m2 m3 m4 m5 m6 m7 m8 m9 v10 v11 v12 v13 v14 v15 v16 v17 v18 m19 m20 v21 v22 v23 v24 v25 v26 m27 v28 m29 m30 m31 m32 v33 m34 v35 m36 m37 m38 m39 m40 v41 m42 m43 m44 p0) (cwV 1 hts gm_share_m_hand rfl rfl rfl (by decide +kernel) ⟨Nat.le_of_ble_eq_true rfl, Nat.le_of_ble_eq_true rfl⟩) ⟨prR_blind, va_recv hK hPc (ci := 12) (q0 := 0) rfl rfl, fun U hU hW => ⟨rfl, prR_go hPc hK hU hW⟩⟩ rfl rfl hl.1 rfl (lv_room (Nat.le_of_ble_eq_true rfl)) dX12_share_7 ⟨by decide +kernel, by decide +kernel⟩) (fun r_1 er_1 => ?_)
  subst er_1
  refine W.eq (g2 := F0 m 10 ls [.int 0]) rfl ?_
  refine lv_if_eq (tgt := 46) hx hb dX12_share_10 (by decide) (fun _ => ?_) (fun c_2 => absurd (by decide) c_2)
  refine lv_iconst (v := (-1)) hx hb dX12_share_46 (by decide) ?_
  have hP9 : va_P (dC, dI) vwCl [] H := hP.sub (ws' := []) [] rfl
  have hD9 : va_D A [] := hD.sub (ws' := []) [] (by decide) rfl
  refine W.widen (k := 0) (n := 0) (by decide +kernel) (by decide +kernel) ?_
  exact W.iret (v := (-1)) hx hb hr (fun t ht hW => ⟨⟨(-1), (), rfl, rfl, by rw [ht]; exact hP9, hD9⟩, hS.F ht⟩) hS.2.2 dX12_share_47

def ws_m_elder : List Cond := .code yX12_elder cX12_elder 10 (some .int) :: ([.fieldLink RX12 88 "HeightFineModel" "code" "I", .methodLink RX12 306 yX12_hand, .instanceMethod yX12_hand, .selects RX12 yX12_hand yX12_hand, .initialized RX12, .code yX12_hand cX12_hand 2 (some .boolean), .methodLink RX12 287 yX12_is, .instanceMethod yX12_is, .selects RX12 yX12_is yX12_is, .code yX12_is cX12_is 3 (some .boolean), .fieldLink RX12 23 "HeightFineModel" "many" "[I", .methodLink RX12 100 yX12_in, .static yX12_in, .code yX12_in cX12_in 3 (some .boolean)] ++ u_ws RX12 TX12 45)
set_option maxRecDepth 20000 in
theorem in_m_elder_12 : ∀ w ∈ u_ws RX12 TX12 45, w ∈ ws_m_elder := by decide +kernel
set_option maxRecDepth 20000 in
theorem gm_elder_m_hand : GoodIn ws_m_elder (wsV RX12 306 RX12 yX12_hand ws_m_hand) := goodIn_app (goodIn_of _ (by decide +kernel)) (goodIn_r _ [6, 7, 8, 9, 5, 10, 11, 12, 13, 14, 15, 16, 17, 18, 19, 20, 21, 22, 23, 24, 25, 26, 27, 28, 29, 30, 31, 32, 33, 34, 35, 36, 37, 38, 39, 40, 41, 42, 43, 44, 45, 46, 47, 48, 49, 50, 51, 52, 53, 54, 55, 56, 57, 58, 59] (by decide +kernel) (by decide +kernel))
set_option maxHeartbeats 4000000 in
set_option maxRecDepth 100000 in
theorem m_elder (l : Launch) (dC : Nat → ClassId) (dI : Nat → Nat → Nat) (k : Nat → ClassId) (h : Nat) (v0 : Int32) (m1 : Nat) (m2 : Nat) (m3 : Nat) (m4 : Nat) (m5 : Nat) (m6 : Nat) (m7 : Nat) (m8 : Nat) (m9 : Nat) (v10 : Int32) (v11 : Int32) (v12 : Int32) (v13 : Int32) (v14 : Int32) (v15 : Int64) (v16 : Int32) (v17 : Int32) (v18 : Int32) (m19 : Nat) (m20 : Nat) (v21 : Int32) (v22 : Int32) (v23 : Int32) (v24 : Int32) (v25 : Int32) (v26 : Int32) (m27 : Nat) (v28 : Int32) (m29 : Nat) (m30 : Nat) (m31 : Nat) (m32 : Nat) (v33 : Int32) (m34 : Nat) (v35 : Int32) (m36 : Nat) (m37 : Nat) (m38 : Nat) (m39 : Nat) (m40 : Nat) (v41 : Int32) (m42 : Nat) (m43 : Nat) (m44 : Nat) (p0 : Int32) (p1 : Int32) (p2 : Int32) (sz : Nat) : Met l yX12_elder ws_m_elder ({ frames := 3, cells := 0, slots := 0, locals := 65 }) (va_Pc [.ref h, .int p0, .int p1, .int p2] (prW dC dI k [(h, .inr (12, [.int v0, .ref m1, .ref m2, .ref m3, .ref m4, .ref m5, .ref m6, .ref m7, .ref m8, .ref m9, .int v10, .int v11, .int v12, .int v13, .int v14, .long v15, .int v16, .int v17, .int v18, .ref m19, .ref m20, .int v21, .int v22, .int v23, .int v24, .int v25, .int v26, .ref m27, .int v28, .ref m29, .ref m30, .ref m31, .ref m32, .int v33, .ref m34, .int v35, .ref m36, .ref m37, .ref m38, .ref m39, .ref m40, .int v41, .ref m42, .ref m43, .ref m44])), (m5, .inl (k 0, 16, .inl (fun _ => 0)))] sz)) (va_Qi (fun (r : Int32) (_ : Unit) => r = (-1)) (fun (u : Unit) (t : State) => po (dC, dI) (va_A [(h, .inr (12, [.int v0, .ref m1, .ref m2, .ref m3, .ref m4, .ref m5, .ref m6, .ref m7, .ref m8, .ref m9, .int v10, .int v11, .int v12, .int v13, .int v14, .long v15, .int v16, .int v17, .int v18, .ref m19, .ref m20, .int v21, .int v22, .int v23, .int v24, .int v25, .int v26, .ref m27, .int v28, .ref m29, .ref m30, .ref m31, .ref m32, .int v33, .ref m34, .int v35, .ref m36, .ref m37, .ref m38, .ref m39, .ref m40, .int v41, .ref m42, .ref m43, .ref m44])), (m5, .inl (k 0, 16, .inl (fun _ => 0)))] sz) [] t) (va_A [(h, .inr (12, [.int v0, .ref m1, .ref m2, .ref m3, .ref m4, .ref m5, .ref m6, .ref m7, .ref m8, .ref m9, .int v10, .int v11, .int v12, .int v13, .int v14, .long v15, .int v16, .int v17, .int v18, .ref m19, .ref m20, .int v21, .int v22, .int v23, .int v24, .int v25, .int v26, .ref m27, .int v28, .ref m29, .ref m30, .ref m31, .ref m32, .int v33, .ref m34, .int v35, .ref m36, .ref m37, .ref m38, .ref m39, .ref m40, .int v41, .ref m42, .ref m43, .ref m44])), (m5, .inl (k 0, 16, .inl (fun _ => 0)))] sz)) 0 0 (va_A [(h, .inr (12, [.int v0, .ref m1, .ref m2, .ref m3, .ref m4, .ref m5, .ref m6, .ref m7, .ref m8, .ref m9, .int v10, .int v11, .int v12, .int v13, .int v14, .long v15, .int v16, .int v17, .int v18, .ref m19, .ref m20, .int v21, .int v22, .int v23, .int v24, .int v25, .int v26, .ref m27, .int v28, .ref m29, .ref m30, .ref m31, .ref m32, .int v33, .ref m34, .int v35, .ref m36, .ref m37, .ref m38, .ref m39, .ref m40, .int v41, .ref m42, .ref m43, .ref m44])), (m5, .inl (k 0, 16, .inl (fun _ => 0)))] sz) := by
  refine Met.ofW (cc := cX12_elder) (maxL := 10) (ret := (some .int)) (by decide) rfl ?_
  intro p e s m args below meth c s₁ B hml hv
  obtain ⟨rfl, hsz, hP, hK, hD0⟩ := hv
  have hx := B.exec
  have hb := B.bytes
  have hr := B.returns
  have hts := atoms_spec (ws := ws_m_elder) B.pre
  have hown : s.vm.findClass RX12 = some m.cls := findClass_of_methodNamed B.named
  have hi12 := in_m_elder_12
  subst hsz
  have hD := hD0.self (sz := s.heap.size)
  generalize hAe : va_A [(h, .inr (12, [.int v0, .ref m1, .ref m2, .ref m3, .ref m4, .ref m5, .ref m6, .ref m7, .ref m8, .ref m9, .int v10, .int v11, .int v12, .int v13, .int v14, .long v15, .int v16, .int v17, .int v18, .ref m19, .ref m20, .int v21, .int v22, .int v23, .int v24, .int v25, .int v26, .ref m27, .int v28, .ref m29, .ref m30, .ref m31, .ref m32, .int v33, .ref m34, .int v35, .ref m36, .ref m37, .ref m38, .ref m39, .ref m40, .int v41, .ref m42, .ref m43, .ref m44])), (m5, .inl (k 0, 16, .inl (fun _ => 0)))] s.heap.size = A at hD ⊢
  have hA : ∀ q : Nat, s.heap.size ≤ q → A q := fun q h => by rw [← hAe]; exact Or.inr h
  have hS : va_S A s.heap s.heap [] := va_S.rf
  have hP : va_P (dC, dI) vwCl [(h, .inr (12, [.int v0, .ref m1, .ref m2, .ref m3, .ref m4, .ref m5, .ref m6, .ref m7, .ref m8, .ref m9, .int v10, .int v11, .int v12, .int v13, .int v14, .long v15, .int v16, .int v17, .int v18, .ref m19, .ref m20, .int v21, .int v22, .int v23, .int v24, .int v25, .int v26, .ref m27, .int v28, .ref m29, .ref m30, .ref m31, .ref m32, .int v33, .ref m34, .int v35, .ref m36, .ref m37, .ref m38, .ref m39, .ref m40, .int v41, .ref m42, .ref m43, .ref m44])), (m5, .inl (k 0, 16, .inl (fun _ => 0)))] s.heap := hP
  have hl := lv_entry ([.ref h, .int p0, .int p1, .int p2]) (n := 10) (Nat.le_of_ble_eq_true rfl)
  rw [lg_entry_eq]
  generalize (lg_sl ([.ref h, .int p0, .int p1, .int p2]) ++ List.replicate (10 - (lg_sl ([.ref h, .int p0, .int p1, .int p2])).length) Slot.unset).toArray = ls at hl ⊢
  have hl : lv_has ls 10 [(0, .ref h), (1, .int p0), (2, .int p1), (3, .int p2)] := hl
  refine lv_aload_n hx hb dX12_elder_0 rfl (lv_at hl 0 rfl) ?_
  refine lv_iconst (v := 0) hx hb dX12_elder_1 (by decide) ?_
  refine va_put (D := (dC, dI)) (ci := 12) (v := .int 0) (ty := .int) (C := RX12) (T := TX12) (N := 45) hx hb hts hi12 tyX12 tyX12_ok nmX12 hown hK hP hD hS 0 rfl rfl 0 (by decide) (hts (.fieldLink RX12 88 "HeightFineModel" "code" "I") (by decide +kernel)) (fun _ h9 => h9) rfl (by decide +kernel) rfl rfl (Nat.le_of_ble_eq_true rfl) dX12_elder_2 (fun H locs hP hD hS => ?_)
  have hP : va_P (dC, dI) vwCl [(h, .inr (12, [.int 0, .ref m1, .ref m2, .ref m3, .ref m4, .ref m5, .ref m6, .ref m7, .ref m8, .ref m9, .int v10, .int v11, .int v12, .int v13, .int v14, .long v15, .int v16, .int v17, .int v18, .ref m19, .ref m20, .int v21, .int v22, .int v23, .int v24, .int v25, .int v26, .ref m27, .int v28, .ref m29, .ref m30, .ref m31, .ref m32, .int v33, .ref m34, .int v35, .ref m36, .ref m37, .ref m38, .ref m39, .ref m40, .int v41, .ref m42, .ref m43, .ref m44])), (m5, .inl (k 0, 16, .inl (fun _ => 0)))] H := hP
  have hD : va_D A [(h, .inr (12, [.int 0, .ref m1, .ref m2, .ref m3, .ref m4, .ref m5, .ref m6, .ref m7, .ref m8, .ref m9, .int v10, .int v11, .int v12, .int v13, .int v14, .long v15, .int v16, .int v17, .int v18, .ref m19, .ref m20, .int v21, .int v22, .int v23, .int v24, .int v25, .int v26, .ref m27, .int v28, .ref m29, .ref m30, .ref m31, .ref m32, .int v33, .ref m34, .int v35, .ref m36, .ref m37, .ref m38, .ref m39, .ref m40, .int v41, .ref m42, .ref m43, .ref m44])), (m5, .inl (k 0, 16, .inl (fun _ => 0)))] := hD
  refine lv_aload_n hx hb dX12_elder_5 rfl (lv_at hl 0 rfl) ?_
  refine lv_iload_n hx hb dX12_elder_6 rfl (lv_at hl 1 rfl) ?_
  have hPc := hP.sub (ws' := [(h, .inr (12, [.int 0, .ref m1, .ref m2, .ref m3, .ref m4, .ref m5, .ref m6, .ref m7, .ref m8, .ref m9, .int v10, .int v11, .int v12, .int v13, .int v14, .long v15, .int v16, .int v17, .int v18, .ref m19, .ref m20, .int v21, .int v22, .int v23, .int v24, .int v25, .int v26, .ref m27, .int v28, .ref m29, .ref m30, .ref m31, .ref m32, .int v33, .ref m34, .int v35, .ref m36, .ref m37, .ref m38, .ref m39, .ref m40, .int v41, .ref m42, .ref m43, .ref m44])), (m5, .inl (k 0, 16, .inl (fun _ => 0)))]) [0, 1] rfl
  refine vp_callSi (W.runV (As := [.int p0]) (rest := []) ⟨hx, hb, hml, hown, hts⟩ (m_hand l dC dI k h 0 m1 m2 m3 m4 m5 m6 m7 m8 m9 v10 v11 v12 v13 v14 v15 v16 v17 v18 m19 m20 v21 v22 v23 v24 v25 v26 m27 v28 m29 m30 m31 m32 v33 m34 v35 m36 m37 m38 m39 m40 v41 m42 m43 m44 p0) (cwV 1 hts gm_elder_m_hand rfl rfl rfl (by decide +kernel) ⟨Nat.le_of_ble_eq_true rfl, Nat.le_of_ble_eq_true rfl⟩) ⟨prR_blind, va_recv hK hPc (ci := 12) (q0 := 0) rfl rfl, fun U hU hW => ⟨rfl, prR_go hPc hK hU hW⟩⟩ rfl rfl hl.1 rfl (lv_room (Nat.le_of_ble_eq_true rfl)) dX12_elder_7 ⟨by decide +kernel, by decide +kernel⟩) (fun r_1 er_1 => ?_)
  subst er_1
  refine W.eq (g2 := F0 m 10 ls [.int 0]) rfl ?_
  refine lv_if_eq (tgt := 29) hx hb dX12_elder_10 (by decide) (fun _ => ?_) (fun c_2 => absurd (by decide) c_2)
  refine lv_iconst (v := (-1)) hx hb dX12_elder_29 (by decide) ?_
  have hP9 : va_P (dC, dI) vwCl [] H := hP.sub (ws' := []) [] rfl
  have hD9 : va_D A [] := hD.sub (ws' := []) [] (by decide) rfl
  refine W.widen (k := 0) (n := 0) (by decide +kernel) (by decide +kernel) ?_
  exact W.iret (v := (-1)) hx hb hr (fun t ht hW => ⟨⟨(-1), (), rfl, rfl, by rw [ht]; exact hP9, hD9⟩, hS.F ht⟩) hS.2.2 dX12_elder_30

def ws_m_ledger : List Cond := .code yX12_ledger cX12_ledger 3 (some .int) :: ([.fieldLink RX12 88 "HeightFineModel" "code" "I", .methodLink RX12 443 yX12_hasLedger, .instanceMethod yX12_hasLedger, .selects RX12 yX12_hasLedger yX12_hasLedger, .initialized RX12, .code yX12_hasLedger cX12_hasLedger 2 (some .boolean), .fieldLink RX12 428 "HeightFineModel" "ledger" "I", .methodLink RX12 287 yX12_is, .instanceMethod yX12_is, .selects RX12 yX12_is yX12_is, .code yX12_is cX12_is 3 (some .boolean), .fieldLink RX12 23 "HeightFineModel" "many" "[I", .methodLink RX12 100 yX12_in, .static yX12_in, .code yX12_in cX12_in 3 (some .boolean)] ++ u_ws RX12 TX12 45)
set_option maxRecDepth 20000 in
theorem in_m_ledger_12 : ∀ w ∈ u_ws RX12 TX12 45, w ∈ ws_m_ledger := by decide +kernel
set_option maxRecDepth 20000 in
theorem gm_ledger_m_hasLedger : GoodIn ws_m_ledger (wsV RX12 443 RX12 yX12_hasLedger ws_m_hasLedger) := goodIn_app (goodIn_of _ (by decide +kernel)) (goodIn_r _ [6, 7, 8, 9, 10, 5, 11, 12, 13, 14, 15, 16, 17, 18, 19, 20, 21, 22, 23, 24, 25, 26, 27, 28, 29, 30, 31, 32, 33, 34, 35, 36, 37, 38, 39, 40, 41, 42, 43, 44, 45, 46, 47, 48, 49, 50, 51, 52, 53, 54, 55, 56, 57, 58, 59, 60] (by decide +kernel) (by decide +kernel))
set_option maxHeartbeats 4000000 in
set_option maxRecDepth 100000 in
theorem m_ledger (l : Launch) (dC : Nat → ClassId) (dI : Nat → Nat → Nat) (k : Nat → ClassId) (h : Nat) (v0 : Int32) (m1 : Nat) (m2 : Nat) (m3 : Nat) (m4 : Nat) (m5 : Nat) (m6 : Nat) (m7 : Nat) (m8 : Nat) (m9 : Nat) (v10 : Int32) (v11 : Int32) (v12 : Int32) (v13 : Int32) (v14 : Int32) (v15 : Int64) (v16 : Int32) (v17 : Int32) (v18 : Int32) (m19 : Nat) (m20 : Nat) (v21 : Int32) (v22 : Int32) (v23 : Int32) (v24 : Int32) (v25 : Int32) (v26 : Int32) (m27 : Nat) (v28 : Int32) (m29 : Nat) (m30 : Nat) (m31 : Nat) (m32 : Nat) (v33 : Int32) (m34 : Nat) (v35 : Int32) (m36 : Nat) (m37 : Nat) (m38 : Nat) (m39 : Nat) (m40 : Nat) (v41 : Int32) (m42 : Nat) (m43 : Nat) (m44 : Nat) (p0 : Int32) (p1 : Int32) (sz : Nat) : Met l yX12_ledger ws_m_ledger ({ frames := 3, cells := 0, slots := 0, locals := 65 }) (va_Pc [.ref h, .int p0, .int p1] (prW dC dI k [(h, .inr (12, [.int v0, .ref m1, .ref m2, .ref m3, .ref m4, .ref m5, .ref m6, .ref m7, .ref m8, .ref m9, .int v10, .int v11, .int v12, .int v13, .int v14, .long v15, .int v16, .int v17, .int v18, .ref m19, .ref m20, .int v21, .int v22, .int v23, .int v24, .int v25, .int v26, .ref m27, .int v28, .ref m29, .ref m30, .ref m31, .ref m32, .int v33, .ref m34, .int v35, .ref m36, .ref m37, .ref m38, .ref m39, .ref m40, .int v41, .ref m42, .ref m43, .ref m44])), (m5, .inl (k 0, 16, .inl (fun _ => 0)))] sz)) (va_Qi (fun (r : Int32) (_ : Unit) => r = (-2)) (fun (u : Unit) (t : State) => po (dC, dI) (va_A [(h, .inr (12, [.int v0, .ref m1, .ref m2, .ref m3, .ref m4, .ref m5, .ref m6, .ref m7, .ref m8, .ref m9, .int v10, .int v11, .int v12, .int v13, .int v14, .long v15, .int v16, .int v17, .int v18, .ref m19, .ref m20, .int v21, .int v22, .int v23, .int v24, .int v25, .int v26, .ref m27, .int v28, .ref m29, .ref m30, .ref m31, .ref m32, .int v33, .ref m34, .int v35, .ref m36, .ref m37, .ref m38, .ref m39, .ref m40, .int v41, .ref m42, .ref m43, .ref m44])), (m5, .inl (k 0, 16, .inl (fun _ => 0)))] sz) [] t) (va_A [(h, .inr (12, [.int v0, .ref m1, .ref m2, .ref m3, .ref m4, .ref m5, .ref m6, .ref m7, .ref m8, .ref m9, .int v10, .int v11, .int v12, .int v13, .int v14, .long v15, .int v16, .int v17, .int v18, .ref m19, .ref m20, .int v21, .int v22, .int v23, .int v24, .int v25, .int v26, .ref m27, .int v28, .ref m29, .ref m30, .ref m31, .ref m32, .int v33, .ref m34, .int v35, .ref m36, .ref m37, .ref m38, .ref m39, .ref m40, .int v41, .ref m42, .ref m43, .ref m44])), (m5, .inl (k 0, 16, .inl (fun _ => 0)))] sz)) 0 0 (va_A [(h, .inr (12, [.int v0, .ref m1, .ref m2, .ref m3, .ref m4, .ref m5, .ref m6, .ref m7, .ref m8, .ref m9, .int v10, .int v11, .int v12, .int v13, .int v14, .long v15, .int v16, .int v17, .int v18, .ref m19, .ref m20, .int v21, .int v22, .int v23, .int v24, .int v25, .int v26, .ref m27, .int v28, .ref m29, .ref m30, .ref m31, .ref m32, .int v33, .ref m34, .int v35, .ref m36, .ref m37, .ref m38, .ref m39, .ref m40, .int v41, .ref m42, .ref m43, .ref m44])), (m5, .inl (k 0, 16, .inl (fun _ => 0)))] sz) := by
  refine Met.ofW (cc := cX12_ledger) (maxL := 3) (ret := (some .int)) (by decide) rfl ?_
  intro p e s m args below meth c s₁ B hml hv
  obtain ⟨rfl, hsz, hP, hK, hD0⟩ := hv
  have hx := B.exec
  have hb := B.bytes
  have hr := B.returns
  have hts := atoms_spec (ws := ws_m_ledger) B.pre
  have hown : s.vm.findClass RX12 = some m.cls := findClass_of_methodNamed B.named
  have hi12 := in_m_ledger_12
  subst hsz
  have hD := hD0.self (sz := s.heap.size)
  generalize hAe : va_A [(h, .inr (12, [.int v0, .ref m1, .ref m2, .ref m3, .ref m4, .ref m5, .ref m6, .ref m7, .ref m8, .ref m9, .int v10, .int v11, .int v12, .int v13, .int v14, .long v15, .int v16, .int v17, .int v18, .ref m19, .ref m20, .int v21, .int v22, .int v23, .int v24, .int v25, .int v26, .ref m27, .int v28, .ref m29, .ref m30, .ref m31, .ref m32, .int v33, .ref m34, .int v35, .ref m36, .ref m37, .ref m38, .ref m39, .ref m40, .int v41, .ref m42, .ref m43, .ref m44])), (m5, .inl (k 0, 16, .inl (fun _ => 0)))] s.heap.size = A at hD ⊢
  have hA : ∀ q : Nat, s.heap.size ≤ q → A q := fun q h => by rw [← hAe]; exact Or.inr h
  have hS : va_S A s.heap s.heap [] := va_S.rf
  have hP : va_P (dC, dI) vwCl [(h, .inr (12, [.int v0, .ref m1, .ref m2, .ref m3, .ref m4, .ref m5, .ref m6, .ref m7, .ref m8, .ref m9, .int v10, .int v11, .int v12, .int v13, .int v14, .long v15, .int v16, .int v17, .int v18, .ref m19, .ref m20, .int v21, .int v22, .int v23, .int v24, .int v25, .int v26, .ref m27, .int v28, .ref m29, .ref m30, .ref m31, .ref m32, .int v33, .ref m34, .int v35, .ref m36, .ref m37, .ref m38, .ref m39, .ref m40, .int v41, .ref m42, .ref m43, .ref m44])), (m5, .inl (k 0, 16, .inl (fun _ => 0)))] s.heap := hP
  have hl := lv_entry ([.ref h, .int p0, .int p1]) (n := 3) (Nat.le_of_ble_eq_true rfl)
  rw [lg_entry_eq]
  generalize (lg_sl ([.ref h, .int p0, .int p1]) ++ List.replicate (3 - (lg_sl ([.ref h, .int p0, .int p1])).length) Slot.unset).toArray = ls at hl ⊢
  have hl : lv_has ls 3 [(0, .ref h), (1, .int p0), (2, .int p1)] := hl
  refine lv_aload_n hx hb dX12_ledger_0 rfl (lv_at hl 0 rfl) ?_
  refine lv_iconst (v := 0) hx hb dX12_ledger_1 (by decide) ?_
  refine va_put (D := (dC, dI)) (ci := 12) (v := .int 0) (ty := .int) (C := RX12) (T := TX12) (N := 45) hx hb hts hi12 tyX12 tyX12_ok nmX12 hown hK hP hD hS 0 rfl rfl 0 (by decide) (hts (.fieldLink RX12 88 "HeightFineModel" "code" "I") (by decide +kernel)) (fun _ h9 => h9) rfl (by decide +kernel) rfl rfl (Nat.le_of_ble_eq_true rfl) dX12_ledger_2 (fun H locs hP hD hS => ?_)
  have hP : va_P (dC, dI) vwCl [(h, .inr (12, [.int 0, .ref m1, .ref m2, .ref m3, .ref m4, .ref m5, .ref m6, .ref m7, .ref m8, .ref m9, .int v10, .int v11, .int v12, .int v13, .int v14, .long v15, .int v16, .int v17, .int v18, .ref m19, .ref m20, .int v21, .int v22, .int v23, .int v24, .int v25, .int v26, .ref m27, .int v28, .ref m29, .ref m30, .ref m31, .ref m32, .int v33, .ref m34, .int v35, .ref m36, .ref m37, .ref m38, .ref m39, .ref m40, .int v41, .ref m42, .ref m43, .ref m44])), (m5, .inl (k 0, 16, .inl (fun _ => 0)))] H := hP
  have hD : va_D A [(h, .inr (12, [.int 0, .ref m1, .ref m2, .ref m3, .ref m4, .ref m5, .ref m6, .ref m7, .ref m8, .ref m9, .int v10, .int v11, .int v12, .int v13, .int v14, .long v15, .int v16, .int v17, .int v18, .ref m19, .ref m20, .int v21, .int v22, .int v23, .int v24, .int v25, .int v26, .ref m27, .int v28, .ref m29, .ref m30, .ref m31, .ref m32, .int v33, .ref m34, .int v35, .ref m36, .ref m37, .ref m38, .ref m39, .ref m40, .int v41, .ref m42, .ref m43, .ref m44])), (m5, .inl (k 0, 16, .inl (fun _ => 0)))] := hD
  refine lv_aload_n hx hb dX12_ledger_5 rfl (lv_at hl 0 rfl) ?_
  refine lv_iload_n hx hb dX12_ledger_6 rfl (lv_at hl 1 rfl) ?_
  have hPc := hP.sub (ws' := [(h, .inr (12, [.int 0, .ref m1, .ref m2, .ref m3, .ref m4, .ref m5, .ref m6, .ref m7, .ref m8, .ref m9, .int v10, .int v11, .int v12, .int v13, .int v14, .long v15, .int v16, .int v17, .int v18, .ref m19, .ref m20, .int v21, .int v22, .int v23, .int v24, .int v25, .int v26, .ref m27, .int v28, .ref m29, .ref m30, .ref m31, .ref m32, .int v33, .ref m34, .int v35, .ref m36, .ref m37, .ref m38, .ref m39, .ref m40, .int v41, .ref m42, .ref m43, .ref m44])), (m5, .inl (k 0, 16, .inl (fun _ => 0)))]) [0, 1] rfl
  have hDc := hD.sub (ws' := [(h, .inr (12, [.int 0, .ref m1, .ref m2, .ref m3, .ref m4, .ref m5, .ref m6, .ref m7, .ref m8, .ref m9, .int v10, .int v11, .int v12, .int v13, .int v14, .long v15, .int v16, .int v17, .int v18, .ref m19, .ref m20, .int v21, .int v22, .int v23, .int v24, .int v25, .int v26, .ref m27, .int v28, .ref m29, .ref m30, .ref m31, .ref m32, .int v33, .ref m34, .int v35, .ref m36, .ref m37, .ref m38, .ref m39, .ref m40, .int v41, .ref m42, .ref m43, .ref m44])), (m5, .inl (k 0, 16, .inl (fun _ => 0)))]) [0, 1] (by decide) rfl
  have hFc := va_free (wc := [(h, .inr (12, [.int 0, .ref m1, .ref m2, .ref m3, .ref m4, .ref m5, .ref m6, .ref m7, .ref m8, .ref m9, .int v10, .int v11, .int v12, .int v13, .int v14, .long v15, .int v16, .int v17, .int v18, .ref m19, .ref m20, .int v21, .int v22, .int v23, .int v24, .int v25, .int v26, .ref m27, .int v28, .ref m29, .ref m30, .ref m31, .ref m32, .int v33, .ref m34, .int v35, .ref m36, .ref m37, .ref m38, .ref m39, .ref m40, .int v41, .ref m42, .ref m43, .ref m44])), (m5, .inl (k 0, 16, .inl (fun _ => 0)))]) hD hS hA [0, 1] rfl
  refine va_calli (va_runV (As := [.int p0]) (rest := []) ⟨hx, hb, hml, hown, hts⟩ (m_hasLedger l dC dI k h 0 m1 m2 m3 m4 m5 m6 m7 m8 m9 v10 v11 v12 v13 v14 v15 v16 v17 v18 m19 m20 v21 v22 v23 v24 v25 v26 m27 v28 m29 m30 m31 m32 v33 m34 v35 m36 m37 m38 m39 m40 v41 m42 m43 m44 p0 H.size) (cwV 1 hts gm_ledger_m_hasLedger rfl rfl rfl (by decide +kernel) ⟨Nat.le_of_ble_eq_true rfl, Nat.le_of_ble_eq_true rfl⟩) ⟨prW_blind, va_recv hK hPc (ci := 12) (q0 := 0) rfl rfl, fun U hU hW => ⟨rfl, prW_go hPc hDc hK hU hW⟩⟩ rfl rfl hl.1 rfl (lv_room (Nat.le_of_ble_eq_true rfl)) dX12_ledger_7 ⟨by decide +kernel, by decide +kernel⟩) hS (fun q _ h => hFc q h) hFc (fun r_1 u t H1 locs ht hvm hw hB hz1 hk1 hS => ?_)
  obtain ⟨hP1, hD1⟩ := hB
  rw [ht] at hP1
  obtain ⟨hP, hD⟩ := va_join (wr := []) (w1 := []) hP hD [0, 1] [] rfl rfl (by decide) (by decide) hk1 hFc hP1 hD1
  clear hk1 hz1 ht hPc hDc hP1 hD1 hvm
  generalize H1 = H at hP hS ⊢
  have hP : va_P (dC, dI) vwCl [] H := hP
  have hD : va_D A [] := hD
  have hw : r_1 = 0 := hw
  subst hw
  refine lv_if_ne (tgt := 16) hx hb dX12_ledger_10 (by decide) (fun c_2 => absurd (by decide) c_2) (fun _ => ?_)
  refine lv_bipush (v := (-2)) hx hb dX12_ledger_13 (by decide) ?_
  have hP9 : va_P (dC, dI) vwCl [] H := hP.sub (ws' := []) [] rfl
  have hD9 : va_D A [] := hD.sub (ws' := []) [] (by decide) rfl
  refine W.widen (k := 0) (n := 0) (by decide +kernel) (by decide +kernel) ?_
  exact W.iret (v := (-2)) hx hb hr (fun t ht hW => ⟨⟨(-2), (), rfl, rfl, by rw [ht]; exact hP9, hD9⟩, hS.F ht⟩) hS.2.2 dX12_ledger_15

def ws_m_fact : List Cond := .code yX12_fact cX12_fact 4 (some .int) :: ([.fieldLink RX12 88 "HeightFineModel" "code" "I", .methodLink RX12 459 yX12_hasSight, .instanceMethod yX12_hasSight, .selects RX12 yX12_hasSight yX12_hasSight, .initialized RX12, .code yX12_hasSight cX12_hasSight 2 (some .boolean), .fieldLink RX12 456 "HeightFineModel" "sight" "I", .methodLink RX12 287 yX12_is, .instanceMethod yX12_is, .selects RX12 yX12_is yX12_is, .code yX12_is cX12_is 3 (some .boolean), .fieldLink RX12 23 "HeightFineModel" "many" "[I", .methodLink RX12 100 yX12_in, .static yX12_in, .code yX12_in cX12_in 3 (some .boolean)] ++ u_ws RX12 TX12 45)
set_option maxRecDepth 20000 in
theorem in_m_fact_12 : ∀ w ∈ u_ws RX12 TX12 45, w ∈ ws_m_fact := by decide +kernel
set_option maxRecDepth 20000 in
theorem gm_fact_m_hasSight : GoodIn ws_m_fact (wsV RX12 459 RX12 yX12_hasSight ws_m_hasSight) := goodIn_app (goodIn_of _ (by decide +kernel)) (goodIn_r _ [6, 7, 8, 9, 10, 5, 11, 12, 13, 14, 15, 16, 17, 18, 19, 20, 21, 22, 23, 24, 25, 26, 27, 28, 29, 30, 31, 32, 33, 34, 35, 36, 37, 38, 39, 40, 41, 42, 43, 44, 45, 46, 47, 48, 49, 50, 51, 52, 53, 54, 55, 56, 57, 58, 59, 60] (by decide +kernel) (by decide +kernel))
set_option maxHeartbeats 4000000 in
set_option maxRecDepth 100000 in
theorem m_fact (l : Launch) (dC : Nat → ClassId) (dI : Nat → Nat → Nat) (k : Nat → ClassId) (h : Nat) (v0 : Int32) (m1 : Nat) (m2 : Nat) (m3 : Nat) (m4 : Nat) (m5 : Nat) (m6 : Nat) (m7 : Nat) (m8 : Nat) (m9 : Nat) (v10 : Int32) (v11 : Int32) (v12 : Int32) (v13 : Int32) (v14 : Int32) (v15 : Int64) (v16 : Int32) (v17 : Int32) (v18 : Int32) (m19 : Nat) (m20 : Nat) (v21 : Int32) (v22 : Int32) (v23 : Int32) (v24 : Int32) (v25 : Int32) (v26 : Int32) (m27 : Nat) (v28 : Int32) (m29 : Nat) (m30 : Nat) (m31 : Nat) (m32 : Nat) (v33 : Int32) (m34 : Nat) (v35 : Int32) (m36 : Nat) (m37 : Nat) (m38 : Nat) (m39 : Nat) (m40 : Nat) (v41 : Int32) (m42 : Nat) (m43 : Nat) (m44 : Nat) (p0 : Int32) (p1 : Int32) (p2 : Int32) (sz : Nat) : Met l yX12_fact ws_m_fact ({ frames := 3, cells := 0, slots := 0, locals := 65 }) (va_Pc [.ref h, .int p0, .int p1, .int p2] (prW dC dI k [(h, .inr (12, [.int v0, .ref m1, .ref m2, .ref m3, .ref m4, .ref m5, .ref m6, .ref m7, .ref m8, .ref m9, .int v10, .int v11, .int v12, .int v13, .int v14, .long v15, .int v16, .int v17, .int v18, .ref m19, .ref m20, .int v21, .int v22, .int v23, .int v24, .int v25, .int v26, .ref m27, .int v28, .ref m29, .ref m30, .ref m31, .ref m32, .int v33, .ref m34, .int v35, .ref m36, .ref m37, .ref m38, .ref m39, .ref m40, .int v41, .ref m42, .ref m43, .ref m44])), (m5, .inl (k 0, 16, .inl (fun _ => 0)))] sz)) (va_Qi (fun (r : Int32) (_ : Unit) => r = (-2)) (fun (u : Unit) (t : State) => po (dC, dI) (va_A [(h, .inr (12, [.int v0, .ref m1, .ref m2, .ref m3, .ref m4, .ref m5, .ref m6, .ref m7, .ref m8, .ref m9, .int v10, .int v11, .int v12, .int v13, .int v14, .long v15, .int v16, .int v17, .int v18, .ref m19, .ref m20, .int v21, .int v22, .int v23, .int v24, .int v25, .int v26, .ref m27, .int v28, .ref m29, .ref m30, .ref m31, .ref m32, .int v33, .ref m34, .int v35, .ref m36, .ref m37, .ref m38, .ref m39, .ref m40, .int v41, .ref m42, .ref m43, .ref m44])), (m5, .inl (k 0, 16, .inl (fun _ => 0)))] sz) [] t) (va_A [(h, .inr (12, [.int v0, .ref m1, .ref m2, .ref m3, .ref m4, .ref m5, .ref m6, .ref m7, .ref m8, .ref m9, .int v10, .int v11, .int v12, .int v13, .int v14, .long v15, .int v16, .int v17, .int v18, .ref m19, .ref m20, .int v21, .int v22, .int v23, .int v24, .int v25, .int v26, .ref m27, .int v28, .ref m29, .ref m30, .ref m31, .ref m32, .int v33, .ref m34, .int v35, .ref m36, .ref m37, .ref m38, .ref m39, .ref m40, .int v41, .ref m42, .ref m43, .ref m44])), (m5, .inl (k 0, 16, .inl (fun _ => 0)))] sz)) 0 0 (va_A [(h, .inr (12, [.int v0, .ref m1, .ref m2, .ref m3, .ref m4, .ref m5, .ref m6, .ref m7, .ref m8, .ref m9, .int v10, .int v11, .int v12, .int v13, .int v14, .long v15, .int v16, .int v17, .int v18, .ref m19, .ref m20, .int v21, .int v22, .int v23, .int v24, .int v25, .int v26, .ref m27, .int v28, .ref m29, .ref m30, .ref m31, .ref m32, .int v33, .ref m34, .int v35, .ref m36, .ref m37, .ref m38, .ref m39, .ref m40, .int v41, .ref m42, .ref m43, .ref m44])), (m5, .inl (k 0, 16, .inl (fun _ => 0)))] sz) := by
  refine Met.ofW (cc := cX12_fact) (maxL := 4) (ret := (some .int)) (by decide) rfl ?_
  intro p e s m args below meth c s₁ B hml hv
  obtain ⟨rfl, hsz, hP, hK, hD0⟩ := hv
  have hx := B.exec
  have hb := B.bytes
  have hr := B.returns
  have hts := atoms_spec (ws := ws_m_fact) B.pre
  have hown : s.vm.findClass RX12 = some m.cls := findClass_of_methodNamed B.named
  have hi12 := in_m_fact_12
  subst hsz
  have hD := hD0.self (sz := s.heap.size)
  generalize hAe : va_A [(h, .inr (12, [.int v0, .ref m1, .ref m2, .ref m3, .ref m4, .ref m5, .ref m6, .ref m7, .ref m8, .ref m9, .int v10, .int v11, .int v12, .int v13, .int v14, .long v15, .int v16, .int v17, .int v18, .ref m19, .ref m20, .int v21, .int v22, .int v23, .int v24, .int v25, .int v26, .ref m27, .int v28, .ref m29, .ref m30, .ref m31, .ref m32, .int v33, .ref m34, .int v35, .ref m36, .ref m37, .ref m38, .ref m39, .ref m40, .int v41, .ref m42, .ref m43, .ref m44])), (m5, .inl (k 0, 16, .inl (fun _ => 0)))] s.heap.size = A at hD ⊢
  have hA : ∀ q : Nat, s.heap.size ≤ q → A q := fun q h => by rw [← hAe]; exact Or.inr h
  have hS : va_S A s.heap s.heap [] := va_S.rf
  have hP : va_P (dC, dI) vwCl [(h, .inr (12, [.int v0, .ref m1, .ref m2, .ref m3, .ref m4, .ref m5, .ref m6, .ref m7, .ref m8, .ref m9, .int v10, .int v11, .int v12, .int v13, .int v14, .long v15, .int v16, .int v17, .int v18, .ref m19, .ref m20, .int v21, .int v22, .int v23, .int v24, .int v25, .int v26, .ref m27, .int v28, .ref m29, .ref m30, .ref m31, .ref m32, .int v33, .ref m34, .int v35, .ref m36, .ref m37, .ref m38, .ref m39, .ref m40, .int v41, .ref m42, .ref m43, .ref m44])), (m5, .inl (k 0, 16, .inl (fun _ => 0)))] s.heap := hP
  have hl := lv_entry ([.ref h, .int p0, .int p1, .int p2]) (n := 4) (Nat.le_of_ble_eq_true rfl)
  rw [lg_entry_eq]
  generalize (lg_sl ([.ref h, .int p0, .int p1, .int p2]) ++ List.replicate (4 - (lg_sl ([.ref h, .int p0, .int p1, .int p2])).length) Slot.unset).toArray = ls at hl ⊢
  have hl : lv_has ls 4 [(0, .ref h), (1, .int p0), (2, .int p1), (3, .int p2)] := hl
  refine lv_aload_n hx hb dX12_fact_0 rfl (lv_at hl 0 rfl) ?_
  refine lv_iconst (v := 0) hx hb dX12_fact_1 (by decide) ?_
  refine va_put (D := (dC, dI)) (ci := 12) (v := .int 0) (ty := .int) (C := RX12) (T := TX12) (N := 45) hx hb hts hi12 tyX12 tyX12_ok nmX12 hown hK hP hD hS 0 rfl rfl 0 (by decide) (hts (.fieldLink RX12 88 "HeightFineModel" "code" "I") (by decide +kernel)) (fun _ h9 => h9) rfl (by decide +kernel) rfl rfl (Nat.le_of_ble_eq_true rfl) dX12_fact_2 (fun H locs hP hD hS => ?_)
  have hP : va_P (dC, dI) vwCl [(h, .inr (12, [.int 0, .ref m1, .ref m2, .ref m3, .ref m4, .ref m5, .ref m6, .ref m7, .ref m8, .ref m9, .int v10, .int v11, .int v12, .int v13, .int v14, .long v15, .int v16, .int v17, .int v18, .ref m19, .ref m20, .int v21, .int v22, .int v23, .int v24, .int v25, .int v26, .ref m27, .int v28, .ref m29, .ref m30, .ref m31, .ref m32, .int v33, .ref m34, .int v35, .ref m36, .ref m37, .ref m38, .ref m39, .ref m40, .int v41, .ref m42, .ref m43, .ref m44])), (m5, .inl (k 0, 16, .inl (fun _ => 0)))] H := hP
  have hD : va_D A [(h, .inr (12, [.int 0, .ref m1, .ref m2, .ref m3, .ref m4, .ref m5, .ref m6, .ref m7, .ref m8, .ref m9, .int v10, .int v11, .int v12, .int v13, .int v14, .long v15, .int v16, .int v17, .int v18, .ref m19, .ref m20, .int v21, .int v22, .int v23, .int v24, .int v25, .int v26, .ref m27, .int v28, .ref m29, .ref m30, .ref m31, .ref m32, .int v33, .ref m34, .int v35, .ref m36, .ref m37, .ref m38, .ref m39, .ref m40, .int v41, .ref m42, .ref m43, .ref m44])), (m5, .inl (k 0, 16, .inl (fun _ => 0)))] := hD
  refine lv_aload_n hx hb dX12_fact_5 rfl (lv_at hl 0 rfl) ?_
  refine lv_iload_n hx hb dX12_fact_6 rfl (lv_at hl 1 rfl) ?_
  have hPc := hP.sub (ws' := [(h, .inr (12, [.int 0, .ref m1, .ref m2, .ref m3, .ref m4, .ref m5, .ref m6, .ref m7, .ref m8, .ref m9, .int v10, .int v11, .int v12, .int v13, .int v14, .long v15, .int v16, .int v17, .int v18, .ref m19, .ref m20, .int v21, .int v22, .int v23, .int v24, .int v25, .int v26, .ref m27, .int v28, .ref m29, .ref m30, .ref m31, .ref m32, .int v33, .ref m34, .int v35, .ref m36, .ref m37, .ref m38, .ref m39, .ref m40, .int v41, .ref m42, .ref m43, .ref m44])), (m5, .inl (k 0, 16, .inl (fun _ => 0)))]) [0, 1] rfl
  have hDc := hD.sub (ws' := [(h, .inr (12, [.int 0, .ref m1, .ref m2, .ref m3, .ref m4, .ref m5, .ref m6, .ref m7, .ref m8, .ref m9, .int v10, .int v11, .int v12, .int v13, .int v14, .long v15, .int v16, .int v17, .int v18, .ref m19, .ref m20, .int v21, .int v22, .int v23, .int v24, .int v25, .int v26, .ref m27, .int v28, .ref m29, .ref m30, .ref m31, .ref m32, .int v33, .ref m34, .int v35, .ref m36, .ref m37, .ref m38, .ref m39, .ref m40, .int v41, .ref m42, .ref m43, .ref m44])), (m5, .inl (k 0, 16, .inl (fun _ => 0)))]) [0, 1] (by decide) rfl
  have hFc := va_free (wc := [(h, .inr (12, [.int 0, .ref m1, .ref m2, .ref m3, .ref m4, .ref m5, .ref m6, .ref m7, .ref m8, .ref m9, .int v10, .int v11, .int v12, .int v13, .int v14, .long v15, .int v16, .int v17, .int v18, .ref m19, .ref m20, .int v21, .int v22, .int v23, .int v24, .int v25, .int v26, .ref m27, .int v28, .ref m29, .ref m30, .ref m31, .ref m32, .int v33, .ref m34, .int v35, .ref m36, .ref m37, .ref m38, .ref m39, .ref m40, .int v41, .ref m42, .ref m43, .ref m44])), (m5, .inl (k 0, 16, .inl (fun _ => 0)))]) hD hS hA [0, 1] rfl
  refine va_calli (va_runV (As := [.int p0]) (rest := []) ⟨hx, hb, hml, hown, hts⟩ (m_hasSight l dC dI k h 0 m1 m2 m3 m4 m5 m6 m7 m8 m9 v10 v11 v12 v13 v14 v15 v16 v17 v18 m19 m20 v21 v22 v23 v24 v25 v26 m27 v28 m29 m30 m31 m32 v33 m34 v35 m36 m37 m38 m39 m40 v41 m42 m43 m44 p0 H.size) (cwV 1 hts gm_fact_m_hasSight rfl rfl rfl (by decide +kernel) ⟨Nat.le_of_ble_eq_true rfl, Nat.le_of_ble_eq_true rfl⟩) ⟨prW_blind, va_recv hK hPc (ci := 12) (q0 := 0) rfl rfl, fun U hU hW => ⟨rfl, prW_go hPc hDc hK hU hW⟩⟩ rfl rfl hl.1 rfl (lv_room (Nat.le_of_ble_eq_true rfl)) dX12_fact_7 ⟨by decide +kernel, by decide +kernel⟩) hS (fun q _ h => hFc q h) hFc (fun r_1 u t H1 locs ht hvm hw hB hz1 hk1 hS => ?_)
  obtain ⟨hP1, hD1⟩ := hB
  rw [ht] at hP1
  obtain ⟨hP, hD⟩ := va_join (wr := []) (w1 := []) hP hD [0, 1] [] rfl rfl (by decide) (by decide) hk1 hFc hP1 hD1
  clear hk1 hz1 ht hPc hDc hP1 hD1 hvm
  generalize H1 = H at hP hS ⊢
  have hP : va_P (dC, dI) vwCl [] H := hP
  have hD : va_D A [] := hD
  have hw : r_1 = 0 := hw
  subst hw
  refine lv_if_ne (tgt := 16) hx hb dX12_fact_10 (by decide) (fun c_2 => absurd (by decide) c_2) (fun _ => ?_)
  refine lv_bipush (v := (-2)) hx hb dX12_fact_13 (by decide) ?_
  have hP9 : va_P (dC, dI) vwCl [] H := hP.sub (ws' := []) [] rfl
  have hD9 : va_D A [] := hD.sub (ws' := []) [] (by decide) rfl
  refine W.widen (k := 0) (n := 0) (by decide +kernel) (by decide +kernel) ?_
  exact W.iret (v := (-2)) hx hb hr (fun t ht hW => ⟨⟨(-2), (), rfl, rfl, by rw [ht]; exact hP9, hD9⟩, hS.F ht⟩) hS.2.2 dX12_fact_15

def ws_m_sure : List Cond := .code yX12_sure cX12_sure 8 (some .int) :: ([.fieldLink RX12 88 "HeightFineModel" "code" "I", .methodLink RX12 478 yX12_laySight, .instanceMethod yX12_laySight, .selects RX12 yX12_laySight yX12_laySight, .initialized RX12, .code yX12_laySight cX12_laySight 5 (some .boolean), .methodLink RX12 100 yX12_in, .static yX12_in, .code yX12_in cX12_in 3 (some .boolean), .methodLink RX12 459 yX12_hasSight, .instanceMethod yX12_hasSight, .selects RX12 yX12_hasSight yX12_hasSight, .code yX12_hasSight cX12_hasSight 2 (some .boolean), .fieldLink RX12 456 "HeightFineModel" "sight" "I", .methodLink RX12 287 yX12_is, .instanceMethod yX12_is, .selects RX12 yX12_is yX12_is, .code yX12_is cX12_is 3 (some .boolean), .fieldLink RX12 23 "HeightFineModel" "many" "[I"] ++ u_ws RX12 TX12 45)
set_option maxRecDepth 20000 in
theorem in_m_sure_12 : ∀ w ∈ u_ws RX12 TX12 45, w ∈ ws_m_sure := by decide +kernel
set_option maxRecDepth 20000 in
theorem gm_sure_m_laySight : GoodIn ws_m_sure (wsV RX12 478 RX12 yX12_laySight ws_m_laySight) := goodIn_app (goodIn_of _ (by decide +kernel)) (goodIn_r _ [6, 7, 8, 5, 9, 10, 11, 12, 13, 14, 15, 16, 17, 18, 19, 20, 21, 22, 23, 24, 25, 26, 27, 28, 29, 30, 31, 32, 33, 34, 35, 36, 37, 38, 39, 40, 41, 42, 43, 44, 45, 46, 47, 48, 49, 50, 51, 52, 53, 54, 55, 56, 57, 58, 59, 60, 61, 62, 63, 64] (by decide +kernel) (by decide +kernel))
set_option maxHeartbeats 4000000 in
set_option maxRecDepth 100000 in
theorem m_sure (l : Launch) (dC : Nat → ClassId) (dI : Nat → Nat → Nat) (k : Nat → ClassId) (h : Nat) (v0 : Int32) (m1 : Nat) (m2 : Nat) (m3 : Nat) (m4 : Nat) (m5 : Nat) (m6 : Nat) (m7 : Nat) (m8 : Nat) (m9 : Nat) (v10 : Int32) (v11 : Int32) (v12 : Int32) (v13 : Int32) (v14 : Int32) (v15 : Int64) (v16 : Int32) (v17 : Int32) (v18 : Int32) (m19 : Nat) (m20 : Nat) (v21 : Int32) (v22 : Int32) (v23 : Int32) (v24 : Int32) (v25 : Int32) (v26 : Int32) (m27 : Nat) (v28 : Int32) (m29 : Nat) (m30 : Nat) (m31 : Nat) (m32 : Nat) (v33 : Int32) (m34 : Nat) (v35 : Int32) (m36 : Nat) (m37 : Nat) (m38 : Nat) (m39 : Nat) (m40 : Nat) (v41 : Int32) (m42 : Nat) (m43 : Nat) (m44 : Nat) (p0 : Int32) (p1 : Int32) (p2 : Int32) (p3 : Int32) (sz : Nat) : Met l yX12_sure ws_m_sure ({ frames := 4, cells := 0, slots := 0, locals := 89 }) (va_Pc [.ref h, .int p0, .int p1, .int p2, .int p3] (prW dC dI k [(h, .inr (12, [.int v0, .ref m1, .ref m2, .ref m3, .ref m4, .ref m5, .ref m6, .ref m7, .ref m8, .ref m9, .int v10, .int v11, .int v12, .int v13, .int v14, .long v15, .int v16, .int v17, .int v18, .ref m19, .ref m20, .int v21, .int v22, .int v23, .int v24, .int v25, .int v26, .ref m27, .int v28, .ref m29, .ref m30, .ref m31, .ref m32, .int v33, .ref m34, .int v35, .ref m36, .ref m37, .ref m38, .ref m39, .ref m40, .int v41, .ref m42, .ref m43, .ref m44])), (m5, .inl (k 0, 16, .inl (fun _ => 0)))] sz)) (va_Qi (fun (r : Int32) (_ : Unit) => r = (-1)) (fun (u : Unit) (t : State) => po (dC, dI) (va_A [(h, .inr (12, [.int v0, .ref m1, .ref m2, .ref m3, .ref m4, .ref m5, .ref m6, .ref m7, .ref m8, .ref m9, .int v10, .int v11, .int v12, .int v13, .int v14, .long v15, .int v16, .int v17, .int v18, .ref m19, .ref m20, .int v21, .int v22, .int v23, .int v24, .int v25, .int v26, .ref m27, .int v28, .ref m29, .ref m30, .ref m31, .ref m32, .int v33, .ref m34, .int v35, .ref m36, .ref m37, .ref m38, .ref m39, .ref m40, .int v41, .ref m42, .ref m43, .ref m44])), (m5, .inl (k 0, 16, .inl (fun _ => 0)))] sz) [] t) (va_A [(h, .inr (12, [.int v0, .ref m1, .ref m2, .ref m3, .ref m4, .ref m5, .ref m6, .ref m7, .ref m8, .ref m9, .int v10, .int v11, .int v12, .int v13, .int v14, .long v15, .int v16, .int v17, .int v18, .ref m19, .ref m20, .int v21, .int v22, .int v23, .int v24, .int v25, .int v26, .ref m27, .int v28, .ref m29, .ref m30, .ref m31, .ref m32, .int v33, .ref m34, .int v35, .ref m36, .ref m37, .ref m38, .ref m39, .ref m40, .int v41, .ref m42, .ref m43, .ref m44])), (m5, .inl (k 0, 16, .inl (fun _ => 0)))] sz)) 0 0 (va_A [(h, .inr (12, [.int v0, .ref m1, .ref m2, .ref m3, .ref m4, .ref m5, .ref m6, .ref m7, .ref m8, .ref m9, .int v10, .int v11, .int v12, .int v13, .int v14, .long v15, .int v16, .int v17, .int v18, .ref m19, .ref m20, .int v21, .int v22, .int v23, .int v24, .int v25, .int v26, .ref m27, .int v28, .ref m29, .ref m30, .ref m31, .ref m32, .int v33, .ref m34, .int v35, .ref m36, .ref m37, .ref m38, .ref m39, .ref m40, .int v41, .ref m42, .ref m43, .ref m44])), (m5, .inl (k 0, 16, .inl (fun _ => 0)))] sz) := by
  refine Met.ofW (cc := cX12_sure) (maxL := 8) (ret := (some .int)) (by decide) rfl ?_
  intro p e s m args below meth c s₁ B hml hv
  obtain ⟨rfl, hsz, hP, hK, hD0⟩ := hv
  have hx := B.exec
  have hb := B.bytes
  have hr := B.returns
  have hts := atoms_spec (ws := ws_m_sure) B.pre
  have hown : s.vm.findClass RX12 = some m.cls := findClass_of_methodNamed B.named
  have hi12 := in_m_sure_12
  subst hsz
  have hD := hD0.self (sz := s.heap.size)
  generalize hAe : va_A [(h, .inr (12, [.int v0, .ref m1, .ref m2, .ref m3, .ref m4, .ref m5, .ref m6, .ref m7, .ref m8, .ref m9, .int v10, .int v11, .int v12, .int v13, .int v14, .long v15, .int v16, .int v17, .int v18, .ref m19, .ref m20, .int v21, .int v22, .int v23, .int v24, .int v25, .int v26, .ref m27, .int v28, .ref m29, .ref m30, .ref m31, .ref m32, .int v33, .ref m34, .int v35, .ref m36, .ref m37, .ref m38, .ref m39, .ref m40, .int v41, .ref m42, .ref m43, .ref m44])), (m5, .inl (k 0, 16, .inl (fun _ => 0)))] s.heap.size = A at hD ⊢
  have hA : ∀ q : Nat, s.heap.size ≤ q → A q := fun q h => by rw [← hAe]; exact Or.inr h
  have hS : va_S A s.heap s.heap [] := va_S.rf
  have hP : va_P (dC, dI) vwCl [(h, .inr (12, [.int v0, .ref m1, .ref m2, .ref m3, .ref m4, .ref m5, .ref m6, .ref m7, .ref m8, .ref m9, .int v10, .int v11, .int v12, .int v13, .int v14, .long v15, .int v16, .int v17, .int v18, .ref m19, .ref m20, .int v21, .int v22, .int v23, .int v24, .int v25, .int v26, .ref m27, .int v28, .ref m29, .ref m30, .ref m31, .ref m32, .int v33, .ref m34, .int v35, .ref m36, .ref m37, .ref m38, .ref m39, .ref m40, .int v41, .ref m42, .ref m43, .ref m44])), (m5, .inl (k 0, 16, .inl (fun _ => 0)))] s.heap := hP
  have hl := lv_entry ([.ref h, .int p0, .int p1, .int p2, .int p3]) (n := 8) (Nat.le_of_ble_eq_true rfl)
  rw [lg_entry_eq]
  generalize (lg_sl ([.ref h, .int p0, .int p1, .int p2, .int p3]) ++ List.replicate (8 - (lg_sl ([.ref h, .int p0, .int p1, .int p2, .int p3])).length) Slot.unset).toArray = ls at hl ⊢
  have hl : lv_has ls 8 [(0, .ref h), (1, .int p0), (2, .int p1), (3, .int p2), (4, .int p3)] := hl
  refine lv_aload_n hx hb dX12_sure_0 rfl (lv_at hl 0 rfl) ?_
  refine lv_iconst (v := 0) hx hb dX12_sure_1 (by decide) ?_
  refine va_put (D := (dC, dI)) (ci := 12) (v := .int 0) (ty := .int) (C := RX12) (T := TX12) (N := 45) hx hb hts hi12 tyX12 tyX12_ok nmX12 hown hK hP hD hS 0 rfl rfl 0 (by decide) (hts (.fieldLink RX12 88 "HeightFineModel" "code" "I") (by decide +kernel)) (fun _ h9 => h9) rfl (by decide +kernel) rfl rfl (Nat.le_of_ble_eq_true rfl) dX12_sure_2 (fun H locs hP hD hS => ?_)
  have hP : va_P (dC, dI) vwCl [(h, .inr (12, [.int 0, .ref m1, .ref m2, .ref m3, .ref m4, .ref m5, .ref m6, .ref m7, .ref m8, .ref m9, .int v10, .int v11, .int v12, .int v13, .int v14, .long v15, .int v16, .int v17, .int v18, .ref m19, .ref m20, .int v21, .int v22, .int v23, .int v24, .int v25, .int v26, .ref m27, .int v28, .ref m29, .ref m30, .ref m31, .ref m32, .int v33, .ref m34, .int v35, .ref m36, .ref m37, .ref m38, .ref m39, .ref m40, .int v41, .ref m42, .ref m43, .ref m44])), (m5, .inl (k 0, 16, .inl (fun _ => 0)))] H := hP
  have hD : va_D A [(h, .inr (12, [.int 0, .ref m1, .ref m2, .ref m3, .ref m4, .ref m5, .ref m6, .ref m7, .ref m8, .ref m9, .int v10, .int v11, .int v12, .int v13, .int v14, .long v15, .int v16, .int v17, .int v18, .ref m19, .ref m20, .int v21, .int v22, .int v23, .int v24, .int v25, .int v26, .ref m27, .int v28, .ref m29, .ref m30, .ref m31, .ref m32, .int v33, .ref m34, .int v35, .ref m36, .ref m37, .ref m38, .ref m39, .ref m40, .int v41, .ref m42, .ref m43, .ref m44])), (m5, .inl (k 0, 16, .inl (fun _ => 0)))] := hD
  refine lv_aload_n hx hb dX12_sure_5 rfl (lv_at hl 0 rfl) ?_
  refine lv_iload_n hx hb dX12_sure_6 rfl (lv_at hl 1 rfl) ?_
  refine lv_iload_n hx hb dX12_sure_7 rfl (lv_at hl 2 rfl) ?_
  refine lv_iload_n hx hb dX12_sure_8 rfl (lv_at hl 3 rfl) ?_
  have hPc := hP.sub (ws' := [(h, .inr (12, [.int 0, .ref m1, .ref m2, .ref m3, .ref m4, .ref m5, .ref m6, .ref m7, .ref m8, .ref m9, .int v10, .int v11, .int v12, .int v13, .int v14, .long v15, .int v16, .int v17, .int v18, .ref m19, .ref m20, .int v21, .int v22, .int v23, .int v24, .int v25, .int v26, .ref m27, .int v28, .ref m29, .ref m30, .ref m31, .ref m32, .int v33, .ref m34, .int v35, .ref m36, .ref m37, .ref m38, .ref m39, .ref m40, .int v41, .ref m42, .ref m43, .ref m44])), (m5, .inl (k 0, 16, .inl (fun _ => 0)))]) [0, 1] rfl
  have hDc := hD.sub (ws' := [(h, .inr (12, [.int 0, .ref m1, .ref m2, .ref m3, .ref m4, .ref m5, .ref m6, .ref m7, .ref m8, .ref m9, .int v10, .int v11, .int v12, .int v13, .int v14, .long v15, .int v16, .int v17, .int v18, .ref m19, .ref m20, .int v21, .int v22, .int v23, .int v24, .int v25, .int v26, .ref m27, .int v28, .ref m29, .ref m30, .ref m31, .ref m32, .int v33, .ref m34, .int v35, .ref m36, .ref m37, .ref m38, .ref m39, .ref m40, .int v41, .ref m42, .ref m43, .ref m44])), (m5, .inl (k 0, 16, .inl (fun _ => 0)))]) [0, 1] (by decide) rfl
  have hFc := va_free (wc := [(h, .inr (12, [.int 0, .ref m1, .ref m2, .ref m3, .ref m4, .ref m5, .ref m6, .ref m7, .ref m8, .ref m9, .int v10, .int v11, .int v12, .int v13, .int v14, .long v15, .int v16, .int v17, .int v18, .ref m19, .ref m20, .int v21, .int v22, .int v23, .int v24, .int v25, .int v26, .ref m27, .int v28, .ref m29, .ref m30, .ref m31, .ref m32, .int v33, .ref m34, .int v35, .ref m36, .ref m37, .ref m38, .ref m39, .ref m40, .int v41, .ref m42, .ref m43, .ref m44])), (m5, .inl (k 0, 16, .inl (fun _ => 0)))]) hD hS hA [0, 1] rfl
  refine va_calli (va_runV (As := [.int p0, .int p1, .int p2]) (rest := []) ⟨hx, hb, hml, hown, hts⟩ (m_laySight l dC dI k h 0 m1 m2 m3 m4 m5 m6 m7 m8 m9 v10 v11 v12 v13 v14 v15 v16 v17 v18 m19 m20 v21 v22 v23 v24 v25 v26 m27 v28 m29 m30 m31 m32 v33 m34 v35 m36 m37 m38 m39 m40 v41 m42 m43 m44 p0 p1 p2 H.size) (cwV 3 hts gm_sure_m_laySight rfl rfl rfl (by decide +kernel) ⟨Nat.le_of_ble_eq_true rfl, Nat.le_of_ble_eq_true rfl⟩) ⟨prW_blind, va_recv hK hPc (ci := 12) (q0 := 0) rfl rfl, fun U hU hW => ⟨rfl, prW_go hPc hDc hK hU hW⟩⟩ rfl rfl hl.1 rfl (lv_room (Nat.le_of_ble_eq_true rfl)) dX12_sure_9 ⟨by decide +kernel, by decide +kernel⟩) hS (fun q _ h => hFc q h) hFc (fun r_1 u t H1 locs ht hvm hw hB hz1 hk1 hS => ?_)
  obtain ⟨hP1, hD1⟩ := hB
  rw [ht] at hP1
  obtain ⟨hP, hD⟩ := va_join (wr := []) (w1 := []) hP hD [0, 1] [] rfl rfl (by decide) (by decide) hk1 hFc hP1 hD1
  clear hk1 hz1 ht hPc hDc hP1 hD1 hvm
  generalize H1 = H at hP hS ⊢
  have hP : va_P (dC, dI) vwCl [] H := hP
  have hD : va_D A [] := hD
  have hw : r_1 = 0 := hw
  subst hw
  refine lv_if_eq (tgt := 30) hx hb dX12_sure_12 (by decide) (fun _ => ?_) (fun c_2 => absurd (by decide) c_2)
  refine lv_iconst (v := (-1)) hx hb dX12_sure_30 (by decide) ?_
  have hP9 : va_P (dC, dI) vwCl [] H := hP.sub (ws' := []) [] rfl
  have hD9 : va_D A [] := hD.sub (ws' := []) [] (by decide) rfl
  refine W.widen (k := 0) (n := 0) (by decide +kernel) (by decide +kernel) ?_
  exact W.iret (v := (-1)) hx hb hr (fun t ht hW => ⟨⟨(-1), (), rfl, rfl, by rw [ht]; exact hP9, hD9⟩, hS.F ht⟩) hS.2.2 dX12_sure_31

def ws_m_drawn : List Cond := .code yX12_drawn cX12_drawn 6 (some .int) :: ([.fieldLink RX12 88 "HeightFineModel" "code" "I", .methodLink RX12 100 yX12_in, .static yX12_in, .initialized RX12, .code yX12_in cX12_in 3 (some .boolean), .methodLink RX12 306 yX12_hand, .instanceMethod yX12_hand, .selects RX12 yX12_hand yX12_hand, .code yX12_hand cX12_hand 2 (some .boolean), .methodLink RX12 287 yX12_is, .instanceMethod yX12_is, .selects RX12 yX12_is yX12_is, .code yX12_is cX12_is 3 (some .boolean), .fieldLink RX12 23 "HeightFineModel" "many" "[I"] ++ u_ws RX12 TX12 45)
set_option maxRecDepth 20000 in
theorem in_m_drawn_12 : ∀ w ∈ u_ws RX12 TX12 45, w ∈ ws_m_drawn := by decide +kernel
set_option maxRecDepth 20000 in
theorem gm_drawn_m_in : GoodIn ws_m_drawn (va_wsS RX12 100 yX12_in ws_m_in) := goodIn_app (goodIn_of _ (by decide +kernel)) (goodIn_r _ [5] (by decide +kernel) (by decide +kernel))
set_option maxRecDepth 20000 in
theorem gm_drawn_m_hand : GoodIn ws_m_drawn (wsV RX12 306 RX12 yX12_hand ws_m_hand) := goodIn_app (goodIn_of _ (by decide +kernel)) (goodIn_r _ [9, 10, 11, 12, 4, 13, 14, 2, 3, 5, 15, 16, 17, 18, 19, 20, 21, 22, 23, 24, 25, 26, 27, 28, 29, 30, 31, 32, 33, 34, 35, 36, 37, 38, 39, 40, 41, 42, 43, 44, 45, 46, 47, 48, 49, 50, 51, 52, 53, 54, 55, 56, 57, 58, 59] (by decide +kernel) (by decide +kernel))
set_option maxHeartbeats 4000000 in
set_option maxRecDepth 100000 in
theorem m_drawn (l : Launch) (dC : Nat → ClassId) (dI : Nat → Nat → Nat) (k : Nat → ClassId) (h : Nat) (v0 : Int32) (m1 : Nat) (m2 : Nat) (m3 : Nat) (m4 : Nat) (m5 : Nat) (m6 : Nat) (m7 : Nat) (m8 : Nat) (m9 : Nat) (v10 : Int32) (v11 : Int32) (v12 : Int32) (v13 : Int32) (v14 : Int32) (v15 : Int64) (v16 : Int32) (v17 : Int32) (v18 : Int32) (m19 : Nat) (m20 : Nat) (v21 : Int32) (v22 : Int32) (v23 : Int32) (v24 : Int32) (v25 : Int32) (v26 : Int32) (m27 : Nat) (v28 : Int32) (m29 : Nat) (m30 : Nat) (m31 : Nat) (m32 : Nat) (v33 : Int32) (m34 : Nat) (v35 : Int32) (m36 : Nat) (m37 : Nat) (m38 : Nat) (m39 : Nat) (m40 : Nat) (v41 : Int32) (m42 : Nat) (m43 : Nat) (m44 : Nat) (p0 : Int32) (p1 : Int32) (p2 : Int32) (p3 : Int32) (sz : Nat) : Met l yX12_drawn ws_m_drawn ({ frames := 3, cells := 0, slots := 0, locals := 65 }) (va_Pc [.ref h, .int p0, .int p1, .int p2, .int p3] (prW dC dI k [(h, .inr (12, [.int v0, .ref m1, .ref m2, .ref m3, .ref m4, .ref m5, .ref m6, .ref m7, .ref m8, .ref m9, .int v10, .int v11, .int v12, .int v13, .int v14, .long v15, .int v16, .int v17, .int v18, .ref m19, .ref m20, .int v21, .int v22, .int v23, .int v24, .int v25, .int v26, .ref m27, .int v28, .ref m29, .ref m30, .ref m31, .ref m32, .int v33, .ref m34, .int v35, .ref m36, .ref m37, .ref m38, .ref m39, .ref m40, .int v41, .ref m42, .ref m43, .ref m44])), (m5, .inl (k 0, 16, .inl (fun _ => 0)))] sz)) (va_Qi (fun (r : Int32) (_ : Unit) => r = (-2)) (fun (u : Unit) (t : State) => po (dC, dI) (va_A [(h, .inr (12, [.int v0, .ref m1, .ref m2, .ref m3, .ref m4, .ref m5, .ref m6, .ref m7, .ref m8, .ref m9, .int v10, .int v11, .int v12, .int v13, .int v14, .long v15, .int v16, .int v17, .int v18, .ref m19, .ref m20, .int v21, .int v22, .int v23, .int v24, .int v25, .int v26, .ref m27, .int v28, .ref m29, .ref m30, .ref m31, .ref m32, .int v33, .ref m34, .int v35, .ref m36, .ref m37, .ref m38, .ref m39, .ref m40, .int v41, .ref m42, .ref m43, .ref m44])), (m5, .inl (k 0, 16, .inl (fun _ => 0)))] sz) [] t) (va_A [(h, .inr (12, [.int v0, .ref m1, .ref m2, .ref m3, .ref m4, .ref m5, .ref m6, .ref m7, .ref m8, .ref m9, .int v10, .int v11, .int v12, .int v13, .int v14, .long v15, .int v16, .int v17, .int v18, .ref m19, .ref m20, .int v21, .int v22, .int v23, .int v24, .int v25, .int v26, .ref m27, .int v28, .ref m29, .ref m30, .ref m31, .ref m32, .int v33, .ref m34, .int v35, .ref m36, .ref m37, .ref m38, .ref m39, .ref m40, .int v41, .ref m42, .ref m43, .ref m44])), (m5, .inl (k 0, 16, .inl (fun _ => 0)))] sz)) 0 0 (va_A [(h, .inr (12, [.int v0, .ref m1, .ref m2, .ref m3, .ref m4, .ref m5, .ref m6, .ref m7, .ref m8, .ref m9, .int v10, .int v11, .int v12, .int v13, .int v14, .long v15, .int v16, .int v17, .int v18, .ref m19, .ref m20, .int v21, .int v22, .int v23, .int v24, .int v25, .int v26, .ref m27, .int v28, .ref m29, .ref m30, .ref m31, .ref m32, .int v33, .ref m34, .int v35, .ref m36, .ref m37, .ref m38, .ref m39, .ref m40, .int v41, .ref m42, .ref m43, .ref m44])), (m5, .inl (k 0, 16, .inl (fun _ => 0)))] sz) := by
  refine Met.ofW (cc := cX12_drawn) (maxL := 6) (ret := (some .int)) (by decide) rfl ?_
  intro p e s m args below meth c s₁ B hml hv
  obtain ⟨rfl, hsz, hP, hK, hD0⟩ := hv
  have hx := B.exec
  have hb := B.bytes
  have hr := B.returns
  have hts := atoms_spec (ws := ws_m_drawn) B.pre
  have hown : s.vm.findClass RX12 = some m.cls := findClass_of_methodNamed B.named
  have hi12 := in_m_drawn_12
  subst hsz
  have hD := hD0.self (sz := s.heap.size)
  generalize hAe : va_A [(h, .inr (12, [.int v0, .ref m1, .ref m2, .ref m3, .ref m4, .ref m5, .ref m6, .ref m7, .ref m8, .ref m9, .int v10, .int v11, .int v12, .int v13, .int v14, .long v15, .int v16, .int v17, .int v18, .ref m19, .ref m20, .int v21, .int v22, .int v23, .int v24, .int v25, .int v26, .ref m27, .int v28, .ref m29, .ref m30, .ref m31, .ref m32, .int v33, .ref m34, .int v35, .ref m36, .ref m37, .ref m38, .ref m39, .ref m40, .int v41, .ref m42, .ref m43, .ref m44])), (m5, .inl (k 0, 16, .inl (fun _ => 0)))] s.heap.size = A at hD ⊢
  have hA : ∀ q : Nat, s.heap.size ≤ q → A q := fun q h => by rw [← hAe]; exact Or.inr h
  have hS : va_S A s.heap s.heap [] := va_S.rf
  have hP : va_P (dC, dI) vwCl [(h, .inr (12, [.int v0, .ref m1, .ref m2, .ref m3, .ref m4, .ref m5, .ref m6, .ref m7, .ref m8, .ref m9, .int v10, .int v11, .int v12, .int v13, .int v14, .long v15, .int v16, .int v17, .int v18, .ref m19, .ref m20, .int v21, .int v22, .int v23, .int v24, .int v25, .int v26, .ref m27, .int v28, .ref m29, .ref m30, .ref m31, .ref m32, .int v33, .ref m34, .int v35, .ref m36, .ref m37, .ref m38, .ref m39, .ref m40, .int v41, .ref m42, .ref m43, .ref m44])), (m5, .inl (k 0, 16, .inl (fun _ => 0)))] s.heap := hP
  have hl := lv_entry ([.ref h, .int p0, .int p1, .int p2, .int p3]) (n := 6) (Nat.le_of_ble_eq_true rfl)
  rw [lg_entry_eq]
  generalize (lg_sl ([.ref h, .int p0, .int p1, .int p2, .int p3]) ++ List.replicate (6 - (lg_sl ([.ref h, .int p0, .int p1, .int p2, .int p3])).length) Slot.unset).toArray = ls at hl ⊢
  have hl : lv_has ls 6 [(0, .ref h), (1, .int p0), (2, .int p1), (3, .int p2), (4, .int p3)] := hl
  refine lv_aload_n hx hb dX12_drawn_0 rfl (lv_at hl 0 rfl) ?_
  refine lv_iconst (v := 0) hx hb dX12_drawn_1 (by decide) ?_
  refine va_put (D := (dC, dI)) (ci := 12) (v := .int 0) (ty := .int) (C := RX12) (T := TX12) (N := 45) hx hb hts hi12 tyX12 tyX12_ok nmX12 hown hK hP hD hS 0 rfl rfl 0 (by decide) (hts (.fieldLink RX12 88 "HeightFineModel" "code" "I") (by decide +kernel)) (fun _ h9 => h9) rfl (by decide +kernel) rfl rfl (Nat.le_of_ble_eq_true rfl) dX12_drawn_2 (fun H locs hP hD hS => ?_)
  have hP : va_P (dC, dI) vwCl [(h, .inr (12, [.int 0, .ref m1, .ref m2, .ref m3, .ref m4, .ref m5, .ref m6, .ref m7, .ref m8, .ref m9, .int v10, .int v11, .int v12, .int v13, .int v14, .long v15, .int v16, .int v17, .int v18, .ref m19, .ref m20, .int v21, .int v22, .int v23, .int v24, .int v25, .int v26, .ref m27, .int v28, .ref m29, .ref m30, .ref m31, .ref m32, .int v33, .ref m34, .int v35, .ref m36, .ref m37, .ref m38, .ref m39, .ref m40, .int v41, .ref m42, .ref m43, .ref m44])), (m5, .inl (k 0, 16, .inl (fun _ => 0)))] H := hP
  have hD : va_D A [(h, .inr (12, [.int 0, .ref m1, .ref m2, .ref m3, .ref m4, .ref m5, .ref m6, .ref m7, .ref m8, .ref m9, .int v10, .int v11, .int v12, .int v13, .int v14, .long v15, .int v16, .int v17, .int v18, .ref m19, .ref m20, .int v21, .int v22, .int v23, .int v24, .int v25, .int v26, .ref m27, .int v28, .ref m29, .ref m30, .ref m31, .ref m32, .int v33, .ref m34, .int v35, .ref m36, .ref m37, .ref m38, .ref m39, .ref m40, .int v41, .ref m42, .ref m43, .ref m44])), (m5, .inl (k 0, 16, .inl (fun _ => 0)))] := hD
  refine lv_iload_n hx hb dX12_drawn_5 rfl (lv_at hl 3 rfl) ?_
  refine lv_iconst (v := 0) hx hb dX12_drawn_6 (by decide) ?_
  refine lv_bipush (v := 60) hx hb dX12_drawn_7 (by decide) ?_
  refine vp_callSi (W.runS (As := [.int p2, .int 0, .int 60]) (rest := []) ⟨hx, hb, hml, hown, hts⟩ (m_in l p2 0 60) (va_cwS 3 hts gm_drawn_m_in rfl rfl rfl (by decide +kernel) ⟨Nat.le_of_ble_eq_true rfl, Nat.le_of_ble_eq_true rfl⟩) ⟨prN_blind, fun U hU hW => ⟨rfl, trivial⟩⟩ rfl rfl hl.1 rfl (lv_room (Nat.le_of_ble_eq_true rfl)) dX12_drawn_9 ⟨by decide +kernel, by decide +kernel⟩) (fun r_1 er_1 => ?_)
  subst er_1
  refine W.eq (g2 := F0 m 12 ls [.int (inR p2 0 60)]) rfl ?_
  refine lv_if_eq (tgt := 30) hx hb dX12_drawn_12 (by decide) (fun c_2 => ?_) (fun c_2 => ?_)
  · refine lv_bipush (v := (-2)) hx hb dX12_drawn_30 (by decide) ?_
    have hP9 : va_P (dC, dI) vwCl [] H := hP.sub (ws' := []) [] rfl
    have hD9 : va_D A [] := hD.sub (ws' := []) [] (by decide) rfl
    refine W.widen (k := 0) (n := 0) (by decide +kernel) (by decide +kernel) ?_
    exact W.iret (v := (-2)) hx hb hr (fun t ht hW => ⟨⟨(-2), (), rfl, rfl, by rw [ht]; exact hP9, hD9⟩, hS.F ht⟩) hS.2.2 dX12_drawn_32
  · refine lv_aload_n hx hb dX12_drawn_15 rfl (lv_at hl 0 rfl) ?_
    refine lv_iload_n hx hb dX12_drawn_16 rfl (lv_at hl 1 rfl) ?_
    have hPc := hP.sub (ws' := [(h, .inr (12, [.int 0, .ref m1, .ref m2, .ref m3, .ref m4, .ref m5, .ref m6, .ref m7, .ref m8, .ref m9, .int v10, .int v11, .int v12, .int v13, .int v14, .long v15, .int v16, .int v17, .int v18, .ref m19, .ref m20, .int v21, .int v22, .int v23, .int v24, .int v25, .int v26, .ref m27, .int v28, .ref m29, .ref m30, .ref m31, .ref m32, .int v33, .ref m34, .int v35, .ref m36, .ref m37, .ref m38, .ref m39, .ref m40, .int v41, .ref m42, .ref m43, .ref m44])), (m5, .inl (k 0, 16, .inl (fun _ => 0)))]) [0, 1] rfl
    refine vp_callSi (W.runV (As := [.int p0]) (rest := []) ⟨hx, hb, hml, hown, hts⟩ (m_hand l dC dI k h 0 m1 m2 m3 m4 m5 m6 m7 m8 m9 v10 v11 v12 v13 v14 v15 v16 v17 v18 m19 m20 v21 v22 v23 v24 v25 v26 m27 v28 m29 m30 m31 m32 v33 m34 v35 m36 m37 m38 m39 m40 v41 m42 m43 m44 p0) (cwV 1 hts gm_drawn_m_hand rfl rfl rfl (by decide +kernel) ⟨Nat.le_of_ble_eq_true rfl, Nat.le_of_ble_eq_true rfl⟩) ⟨prR_blind, va_recv hK hPc (ci := 12) (q0 := 0) rfl rfl, fun U hU hW => ⟨rfl, prR_go hPc hK hU hW⟩⟩ rfl rfl hl.1 rfl (lv_room (Nat.le_of_ble_eq_true rfl)) dX12_drawn_17 ⟨by decide +kernel, by decide +kernel⟩) (fun r_3 er_3 => ?_)
    subst er_3
    refine W.eq (g2 := F0 m 20 ls [.int 0]) rfl ?_
    refine lv_if_eq (tgt := 30) hx hb dX12_drawn_20 (by decide) (fun _ => ?_) (fun c_4 => absurd (by decide) c_4)
    refine lv_bipush (v := (-2)) hx hb dX12_drawn_30 (by decide) ?_
    have hP9 : va_P (dC, dI) vwCl [] H := hP.sub (ws' := []) [] rfl
    have hD9 : va_D A [] := hD.sub (ws' := []) [] (by decide) rfl
    refine W.widen (k := 0) (n := 0) (by decide +kernel) (by decide +kernel) ?_
    exact W.iret (v := (-2)) hx hb hr (fun t ht hW => ⟨⟨(-2), (), rfl, rfl, by rw [ht]; exact hP9, hD9⟩, hS.F ht⟩) hS.2.2 dX12_drawn_32

def ws_m_family : List Cond := .code yX12_family cX12_family 8 (some .int) :: ([.fieldLink RX12 88 "HeightFineModel" "code" "I", .methodLink RX12 306 yX12_hand, .instanceMethod yX12_hand, .selects RX12 yX12_hand yX12_hand, .initialized RX12, .code yX12_hand cX12_hand 2 (some .boolean), .methodLink RX12 287 yX12_is, .instanceMethod yX12_is, .selects RX12 yX12_is yX12_is, .code yX12_is cX12_is 3 (some .boolean), .fieldLink RX12 23 "HeightFineModel" "many" "[I", .methodLink RX12 100 yX12_in, .static yX12_in, .code yX12_in cX12_in 3 (some .boolean)] ++ u_ws RX12 TX12 45)
set_option maxRecDepth 20000 in
theorem in_m_family_12 : ∀ w ∈ u_ws RX12 TX12 45, w ∈ ws_m_family := by decide +kernel
set_option maxRecDepth 20000 in
theorem gm_family_m_hand : GoodIn ws_m_family (wsV RX12 306 RX12 yX12_hand ws_m_hand) := goodIn_app (goodIn_of _ (by decide +kernel)) (goodIn_r _ [6, 7, 8, 9, 5, 10, 11, 12, 13, 14, 15, 16, 17, 18, 19, 20, 21, 22, 23, 24, 25, 26, 27, 28, 29, 30, 31, 32, 33, 34, 35, 36, 37, 38, 39, 40, 41, 42, 43, 44, 45, 46, 47, 48, 49, 50, 51, 52, 53, 54, 55, 56, 57, 58, 59] (by decide +kernel) (by decide +kernel))
set_option maxHeartbeats 4000000 in
set_option maxRecDepth 100000 in
theorem m_family (l : Launch) (dC : Nat → ClassId) (dI : Nat → Nat → Nat) (k : Nat → ClassId) (h : Nat) (v0 : Int32) (m1 : Nat) (m2 : Nat) (m3 : Nat) (m4 : Nat) (m5 : Nat) (m6 : Nat) (m7 : Nat) (m8 : Nat) (m9 : Nat) (v10 : Int32) (v11 : Int32) (v12 : Int32) (v13 : Int32) (v14 : Int32) (v15 : Int64) (v16 : Int32) (v17 : Int32) (v18 : Int32) (m19 : Nat) (m20 : Nat) (v21 : Int32) (v22 : Int32) (v23 : Int32) (v24 : Int32) (v25 : Int32) (v26 : Int32) (m27 : Nat) (v28 : Int32) (m29 : Nat) (m30 : Nat) (m31 : Nat) (m32 : Nat) (v33 : Int32) (m34 : Nat) (v35 : Int32) (m36 : Nat) (m37 : Nat) (m38 : Nat) (m39 : Nat) (m40 : Nat) (v41 : Int32) (m42 : Nat) (m43 : Nat) (m44 : Nat) (p0 : Int32) (p1 : Int32) (p2 : Int32) (sz : Nat) : Met l yX12_family ws_m_family ({ frames := 3, cells := 0, slots := 0, locals := 65 }) (va_Pc [.ref h, .int p0, .int p1, .int p2] (prW dC dI k [(h, .inr (12, [.int v0, .ref m1, .ref m2, .ref m3, .ref m4, .ref m5, .ref m6, .ref m7, .ref m8, .ref m9, .int v10, .int v11, .int v12, .int v13, .int v14, .long v15, .int v16, .int v17, .int v18, .ref m19, .ref m20, .int v21, .int v22, .int v23, .int v24, .int v25, .int v26, .ref m27, .int v28, .ref m29, .ref m30, .ref m31, .ref m32, .int v33, .ref m34, .int v35, .ref m36, .ref m37, .ref m38, .ref m39, .ref m40, .int v41, .ref m42, .ref m43, .ref m44])), (m5, .inl (k 0, 16, .inl (fun _ => 0)))] sz)) (va_Qi (fun (r : Int32) (_ : Unit) => r = (-1)) (fun (u : Unit) (t : State) => po (dC, dI) (va_A [(h, .inr (12, [.int v0, .ref m1, .ref m2, .ref m3, .ref m4, .ref m5, .ref m6, .ref m7, .ref m8, .ref m9, .int v10, .int v11, .int v12, .int v13, .int v14, .long v15, .int v16, .int v17, .int v18, .ref m19, .ref m20, .int v21, .int v22, .int v23, .int v24, .int v25, .int v26, .ref m27, .int v28, .ref m29, .ref m30, .ref m31, .ref m32, .int v33, .ref m34, .int v35, .ref m36, .ref m37, .ref m38, .ref m39, .ref m40, .int v41, .ref m42, .ref m43, .ref m44])), (m5, .inl (k 0, 16, .inl (fun _ => 0)))] sz) [] t) (va_A [(h, .inr (12, [.int v0, .ref m1, .ref m2, .ref m3, .ref m4, .ref m5, .ref m6, .ref m7, .ref m8, .ref m9, .int v10, .int v11, .int v12, .int v13, .int v14, .long v15, .int v16, .int v17, .int v18, .ref m19, .ref m20, .int v21, .int v22, .int v23, .int v24, .int v25, .int v26, .ref m27, .int v28, .ref m29, .ref m30, .ref m31, .ref m32, .int v33, .ref m34, .int v35, .ref m36, .ref m37, .ref m38, .ref m39, .ref m40, .int v41, .ref m42, .ref m43, .ref m44])), (m5, .inl (k 0, 16, .inl (fun _ => 0)))] sz)) 0 0 (va_A [(h, .inr (12, [.int v0, .ref m1, .ref m2, .ref m3, .ref m4, .ref m5, .ref m6, .ref m7, .ref m8, .ref m9, .int v10, .int v11, .int v12, .int v13, .int v14, .long v15, .int v16, .int v17, .int v18, .ref m19, .ref m20, .int v21, .int v22, .int v23, .int v24, .int v25, .int v26, .ref m27, .int v28, .ref m29, .ref m30, .ref m31, .ref m32, .int v33, .ref m34, .int v35, .ref m36, .ref m37, .ref m38, .ref m39, .ref m40, .int v41, .ref m42, .ref m43, .ref m44])), (m5, .inl (k 0, 16, .inl (fun _ => 0)))] sz) := by
  refine Met.ofW (cc := cX12_family) (maxL := 8) (ret := (some .int)) (by decide) rfl ?_
  intro p e s m args below meth c s₁ B hml hv
  obtain ⟨rfl, hsz, hP, hK, hD0⟩ := hv
  have hx := B.exec
  have hb := B.bytes
  have hr := B.returns
  have hts := atoms_spec (ws := ws_m_family) B.pre
  have hown : s.vm.findClass RX12 = some m.cls := findClass_of_methodNamed B.named
  have hi12 := in_m_family_12
  subst hsz
  have hD := hD0.self (sz := s.heap.size)
  generalize hAe : va_A [(h, .inr (12, [.int v0, .ref m1, .ref m2, .ref m3, .ref m4, .ref m5, .ref m6, .ref m7, .ref m8, .ref m9, .int v10, .int v11, .int v12, .int v13, .int v14, .long v15, .int v16, .int v17, .int v18, .ref m19, .ref m20, .int v21, .int v22, .int v23, .int v24, .int v25, .int v26, .ref m27, .int v28, .ref m29, .ref m30, .ref m31, .ref m32, .int v33, .ref m34, .int v35, .ref m36, .ref m37, .ref m38, .ref m39, .ref m40, .int v41, .ref m42, .ref m43, .ref m44])), (m5, .inl (k 0, 16, .inl (fun _ => 0)))] s.heap.size = A at hD ⊢
  have hA : ∀ q : Nat, s.heap.size ≤ q → A q := fun q h => by rw [← hAe]; exact Or.inr h
  have hS : va_S A s.heap s.heap [] := va_S.rf
  have hP : va_P (dC, dI) vwCl [(h, .inr (12, [.int v0, .ref m1, .ref m2, .ref m3, .ref m4, .ref m5, .ref m6, .ref m7, .ref m8, .ref m9, .int v10, .int v11, .int v12, .int v13, .int v14, .long v15, .int v16, .int v17, .int v18, .ref m19, .ref m20, .int v21, .int v22, .int v23, .int v24, .int v25, .int v26, .ref m27, .int v28, .ref m29, .ref m30, .ref m31, .ref m32, .int v33, .ref m34, .int v35, .ref m36, .ref m37, .ref m38, .ref m39, .ref m40, .int v41, .ref m42, .ref m43, .ref m44])), (m5, .inl (k 0, 16, .inl (fun _ => 0)))] s.heap := hP
  have hl := lv_entry ([.ref h, .int p0, .int p1, .int p2]) (n := 8) (Nat.le_of_ble_eq_true rfl)
  rw [lg_entry_eq]
  generalize (lg_sl ([.ref h, .int p0, .int p1, .int p2]) ++ List.replicate (8 - (lg_sl ([.ref h, .int p0, .int p1, .int p2])).length) Slot.unset).toArray = ls at hl ⊢
  have hl : lv_has ls 8 [(0, .ref h), (1, .int p0), (2, .int p1), (3, .int p2)] := hl
  refine lv_aload_n hx hb dX12_family_0 rfl (lv_at hl 0 rfl) ?_
  refine lv_iconst (v := 0) hx hb dX12_family_1 (by decide) ?_
  refine va_put (D := (dC, dI)) (ci := 12) (v := .int 0) (ty := .int) (C := RX12) (T := TX12) (N := 45) hx hb hts hi12 tyX12 tyX12_ok nmX12 hown hK hP hD hS 0 rfl rfl 0 (by decide) (hts (.fieldLink RX12 88 "HeightFineModel" "code" "I") (by decide +kernel)) (fun _ h9 => h9) rfl (by decide +kernel) rfl rfl (Nat.le_of_ble_eq_true rfl) dX12_family_2 (fun H locs hP hD hS => ?_)
  have hP : va_P (dC, dI) vwCl [(h, .inr (12, [.int 0, .ref m1, .ref m2, .ref m3, .ref m4, .ref m5, .ref m6, .ref m7, .ref m8, .ref m9, .int v10, .int v11, .int v12, .int v13, .int v14, .long v15, .int v16, .int v17, .int v18, .ref m19, .ref m20, .int v21, .int v22, .int v23, .int v24, .int v25, .int v26, .ref m27, .int v28, .ref m29, .ref m30, .ref m31, .ref m32, .int v33, .ref m34, .int v35, .ref m36, .ref m37, .ref m38, .ref m39, .ref m40, .int v41, .ref m42, .ref m43, .ref m44])), (m5, .inl (k 0, 16, .inl (fun _ => 0)))] H := hP
  have hD : va_D A [(h, .inr (12, [.int 0, .ref m1, .ref m2, .ref m3, .ref m4, .ref m5, .ref m6, .ref m7, .ref m8, .ref m9, .int v10, .int v11, .int v12, .int v13, .int v14, .long v15, .int v16, .int v17, .int v18, .ref m19, .ref m20, .int v21, .int v22, .int v23, .int v24, .int v25, .int v26, .ref m27, .int v28, .ref m29, .ref m30, .ref m31, .ref m32, .int v33, .ref m34, .int v35, .ref m36, .ref m37, .ref m38, .ref m39, .ref m40, .int v41, .ref m42, .ref m43, .ref m44])), (m5, .inl (k 0, 16, .inl (fun _ => 0)))] := hD
  refine lv_aload_n hx hb dX12_family_5 rfl (lv_at hl 0 rfl) ?_
  refine lv_iload_n hx hb dX12_family_6 rfl (lv_at hl 1 rfl) ?_
  have hPc := hP.sub (ws' := [(h, .inr (12, [.int 0, .ref m1, .ref m2, .ref m3, .ref m4, .ref m5, .ref m6, .ref m7, .ref m8, .ref m9, .int v10, .int v11, .int v12, .int v13, .int v14, .long v15, .int v16, .int v17, .int v18, .ref m19, .ref m20, .int v21, .int v22, .int v23, .int v24, .int v25, .int v26, .ref m27, .int v28, .ref m29, .ref m30, .ref m31, .ref m32, .int v33, .ref m34, .int v35, .ref m36, .ref m37, .ref m38, .ref m39, .ref m40, .int v41, .ref m42, .ref m43, .ref m44])), (m5, .inl (k 0, 16, .inl (fun _ => 0)))]) [0, 1] rfl
  refine vp_callSi (W.runV (As := [.int p0]) (rest := []) ⟨hx, hb, hml, hown, hts⟩ (m_hand l dC dI k h 0 m1 m2 m3 m4 m5 m6 m7 m8 m9 v10 v11 v12 v13 v14 v15 v16 v17 v18 m19 m20 v21 v22 v23 v24 v25 v26 m27 v28 m29 m30 m31 m32 v33 m34 v35 m36 m37 m38 m39 m40 v41 m42 m43 m44 p0) (cwV 1 hts gm_family_m_hand rfl rfl rfl (by decide +kernel) ⟨Nat.le_of_ble_eq_true rfl, Nat.le_of_ble_eq_true rfl⟩) ⟨prR_blind, va_recv hK hPc (ci := 12) (q0 := 0) rfl rfl, fun U hU hW => ⟨rfl, prR_go hPc hK hU hW⟩⟩ rfl rfl hl.1 rfl (lv_room (Nat.le_of_ble_eq_true rfl)) dX12_family_7 ⟨by decide +kernel, by decide +kernel⟩) (fun r_1 er_1 => ?_)
  subst er_1
  refine W.eq (g2 := F0 m 10 ls [.int 0]) rfl ?_
  refine lv_if_eq (tgt := 30) hx hb dX12_family_10 (by decide) (fun _ => ?_) (fun c_2 => absurd (by decide) c_2)
  refine lv_iconst (v := (-1)) hx hb dX12_family_30 (by decide) ?_
  have hP9 : va_P (dC, dI) vwCl [] H := hP.sub (ws' := []) [] rfl
  have hD9 : va_D A [] := hD.sub (ws' := []) [] (by decide) rfl
  refine W.widen (k := 0) (n := 0) (by decide +kernel) (by decide +kernel) ?_
  exact W.iret (v := (-1)) hx hb hr (fun t ht hW => ⟨⟨(-1), (), rfl, rfl, by rw [ht]; exact hP9, hD9⟩, hS.F ht⟩) hS.2.2 dX12_family_31

def ws_m_shoulders : List Cond := .code yX12_shoulders cX12_shoulders 5 (some .int) :: ([.fieldLink RX12 88 "HeightFineModel" "code" "I", .methodLink RX12 306 yX12_hand, .instanceMethod yX12_hand, .selects RX12 yX12_hand yX12_hand, .initialized RX12, .code yX12_hand cX12_hand 2 (some .boolean), .methodLink RX12 287 yX12_is, .instanceMethod yX12_is, .selects RX12 yX12_is yX12_is, .code yX12_is cX12_is 3 (some .boolean), .fieldLink RX12 23 "HeightFineModel" "many" "[I", .methodLink RX12 100 yX12_in, .static yX12_in, .code yX12_in cX12_in 3 (some .boolean)] ++ u_ws RX12 TX12 45)
set_option maxRecDepth 20000 in
theorem in_m_shoulders_12 : ∀ w ∈ u_ws RX12 TX12 45, w ∈ ws_m_shoulders := by decide +kernel
set_option maxRecDepth 20000 in
theorem gm_shoulders_m_hand : GoodIn ws_m_shoulders (wsV RX12 306 RX12 yX12_hand ws_m_hand) := goodIn_app (goodIn_of _ (by decide +kernel)) (goodIn_r _ [6, 7, 8, 9, 5, 10, 11, 12, 13, 14, 15, 16, 17, 18, 19, 20, 21, 22, 23, 24, 25, 26, 27, 28, 29, 30, 31, 32, 33, 34, 35, 36, 37, 38, 39, 40, 41, 42, 43, 44, 45, 46, 47, 48, 49, 50, 51, 52, 53, 54, 55, 56, 57, 58, 59] (by decide +kernel) (by decide +kernel))
set_option maxHeartbeats 4000000 in
set_option maxRecDepth 100000 in
theorem m_shoulders (l : Launch) (dC : Nat → ClassId) (dI : Nat → Nat → Nat) (k : Nat → ClassId) (h : Nat) (v0 : Int32) (m1 : Nat) (m2 : Nat) (m3 : Nat) (m4 : Nat) (m5 : Nat) (m6 : Nat) (m7 : Nat) (m8 : Nat) (m9 : Nat) (v10 : Int32) (v11 : Int32) (v12 : Int32) (v13 : Int32) (v14 : Int32) (v15 : Int64) (v16 : Int32) (v17 : Int32) (v18 : Int32) (m19 : Nat) (m20 : Nat) (v21 : Int32) (v22 : Int32) (v23 : Int32) (v24 : Int32) (v25 : Int32) (v26 : Int32) (m27 : Nat) (v28 : Int32) (m29 : Nat) (m30 : Nat) (m31 : Nat) (m32 : Nat) (v33 : Int32) (m34 : Nat) (v35 : Int32) (m36 : Nat) (m37 : Nat) (m38 : Nat) (m39 : Nat) (m40 : Nat) (v41 : Int32) (m42 : Nat) (m43 : Nat) (m44 : Nat) (p0 : Int32) (p1 : Int32) (sz : Nat) : Met l yX12_shoulders ws_m_shoulders ({ frames := 3, cells := 0, slots := 0, locals := 65 }) (va_Pc [.ref h, .int p0, .int p1] (prW dC dI k [(h, .inr (12, [.int v0, .ref m1, .ref m2, .ref m3, .ref m4, .ref m5, .ref m6, .ref m7, .ref m8, .ref m9, .int v10, .int v11, .int v12, .int v13, .int v14, .long v15, .int v16, .int v17, .int v18, .ref m19, .ref m20, .int v21, .int v22, .int v23, .int v24, .int v25, .int v26, .ref m27, .int v28, .ref m29, .ref m30, .ref m31, .ref m32, .int v33, .ref m34, .int v35, .ref m36, .ref m37, .ref m38, .ref m39, .ref m40, .int v41, .ref m42, .ref m43, .ref m44])), (m5, .inl (k 0, 16, .inl (fun _ => 0)))] sz)) (va_Qi (fun (r : Int32) (_ : Unit) => r = (-1)) (fun (u : Unit) (t : State) => po (dC, dI) (va_A [(h, .inr (12, [.int v0, .ref m1, .ref m2, .ref m3, .ref m4, .ref m5, .ref m6, .ref m7, .ref m8, .ref m9, .int v10, .int v11, .int v12, .int v13, .int v14, .long v15, .int v16, .int v17, .int v18, .ref m19, .ref m20, .int v21, .int v22, .int v23, .int v24, .int v25, .int v26, .ref m27, .int v28, .ref m29, .ref m30, .ref m31, .ref m32, .int v33, .ref m34, .int v35, .ref m36, .ref m37, .ref m38, .ref m39, .ref m40, .int v41, .ref m42, .ref m43, .ref m44])), (m5, .inl (k 0, 16, .inl (fun _ => 0)))] sz) [] t) (va_A [(h, .inr (12, [.int v0, .ref m1, .ref m2, .ref m3, .ref m4, .ref m5, .ref m6, .ref m7, .ref m8, .ref m9, .int v10, .int v11, .int v12, .int v13, .int v14, .long v15, .int v16, .int v17, .int v18, .ref m19, .ref m20, .int v21, .int v22, .int v23, .int v24, .int v25, .int v26, .ref m27, .int v28, .ref m29, .ref m30, .ref m31, .ref m32, .int v33, .ref m34, .int v35, .ref m36, .ref m37, .ref m38, .ref m39, .ref m40, .int v41, .ref m42, .ref m43, .ref m44])), (m5, .inl (k 0, 16, .inl (fun _ => 0)))] sz)) 0 0 (va_A [(h, .inr (12, [.int v0, .ref m1, .ref m2, .ref m3, .ref m4, .ref m5, .ref m6, .ref m7, .ref m8, .ref m9, .int v10, .int v11, .int v12, .int v13, .int v14, .long v15, .int v16, .int v17, .int v18, .ref m19, .ref m20, .int v21, .int v22, .int v23, .int v24, .int v25, .int v26, .ref m27, .int v28, .ref m29, .ref m30, .ref m31, .ref m32, .int v33, .ref m34, .int v35, .ref m36, .ref m37, .ref m38, .ref m39, .ref m40, .int v41, .ref m42, .ref m43, .ref m44])), (m5, .inl (k 0, 16, .inl (fun _ => 0)))] sz) := by
  refine Met.ofW (cc := cX12_shoulders) (maxL := 5) (ret := (some .int)) (by decide) rfl ?_
  intro p e s m args below meth c s₁ B hml hv
  obtain ⟨rfl, hsz, hP, hK, hD0⟩ := hv
  have hx := B.exec
  have hb := B.bytes
  have hr := B.returns
  have hts := atoms_spec (ws := ws_m_shoulders) B.pre
  have hown : s.vm.findClass RX12 = some m.cls := findClass_of_methodNamed B.named
  have hi12 := in_m_shoulders_12
  subst hsz
  have hD := hD0.self (sz := s.heap.size)
  generalize hAe : va_A [(h, .inr (12, [.int v0, .ref m1, .ref m2, .ref m3, .ref m4, .ref m5, .ref m6, .ref m7, .ref m8, .ref m9, .int v10, .int v11, .int v12, .int v13, .int v14, .long v15, .int v16, .int v17, .int v18, .ref m19, .ref m20, .int v21, .int v22, .int v23, .int v24, .int v25, .int v26, .ref m27, .int v28, .ref m29, .ref m30, .ref m31, .ref m32, .int v33, .ref m34, .int v35, .ref m36, .ref m37, .ref m38, .ref m39, .ref m40, .int v41, .ref m42, .ref m43, .ref m44])), (m5, .inl (k 0, 16, .inl (fun _ => 0)))] s.heap.size = A at hD ⊢
  have hA : ∀ q : Nat, s.heap.size ≤ q → A q := fun q h => by rw [← hAe]; exact Or.inr h
  have hS : va_S A s.heap s.heap [] := va_S.rf
  have hP : va_P (dC, dI) vwCl [(h, .inr (12, [.int v0, .ref m1, .ref m2, .ref m3, .ref m4, .ref m5, .ref m6, .ref m7, .ref m8, .ref m9, .int v10, .int v11, .int v12, .int v13, .int v14, .long v15, .int v16, .int v17, .int v18, .ref m19, .ref m20, .int v21, .int v22, .int v23, .int v24, .int v25, .int v26, .ref m27, .int v28, .ref m29, .ref m30, .ref m31, .ref m32, .int v33, .ref m34, .int v35, .ref m36, .ref m37, .ref m38, .ref m39, .ref m40, .int v41, .ref m42, .ref m43, .ref m44])), (m5, .inl (k 0, 16, .inl (fun _ => 0)))] s.heap := hP
  have hl := lv_entry ([.ref h, .int p0, .int p1]) (n := 5) (Nat.le_of_ble_eq_true rfl)
  rw [lg_entry_eq]
  generalize (lg_sl ([.ref h, .int p0, .int p1]) ++ List.replicate (5 - (lg_sl ([.ref h, .int p0, .int p1])).length) Slot.unset).toArray = ls at hl ⊢
  have hl : lv_has ls 5 [(0, .ref h), (1, .int p0), (2, .int p1)] := hl
  refine lv_aload_n hx hb dX12_shoulders_0 rfl (lv_at hl 0 rfl) ?_
  refine lv_iconst (v := 0) hx hb dX12_shoulders_1 (by decide) ?_
  refine va_put (D := (dC, dI)) (ci := 12) (v := .int 0) (ty := .int) (C := RX12) (T := TX12) (N := 45) hx hb hts hi12 tyX12 tyX12_ok nmX12 hown hK hP hD hS 0 rfl rfl 0 (by decide) (hts (.fieldLink RX12 88 "HeightFineModel" "code" "I") (by decide +kernel)) (fun _ h9 => h9) rfl (by decide +kernel) rfl rfl (Nat.le_of_ble_eq_true rfl) dX12_shoulders_2 (fun H locs hP hD hS => ?_)
  have hP : va_P (dC, dI) vwCl [(h, .inr (12, [.int 0, .ref m1, .ref m2, .ref m3, .ref m4, .ref m5, .ref m6, .ref m7, .ref m8, .ref m9, .int v10, .int v11, .int v12, .int v13, .int v14, .long v15, .int v16, .int v17, .int v18, .ref m19, .ref m20, .int v21, .int v22, .int v23, .int v24, .int v25, .int v26, .ref m27, .int v28, .ref m29, .ref m30, .ref m31, .ref m32, .int v33, .ref m34, .int v35, .ref m36, .ref m37, .ref m38, .ref m39, .ref m40, .int v41, .ref m42, .ref m43, .ref m44])), (m5, .inl (k 0, 16, .inl (fun _ => 0)))] H := hP
  have hD : va_D A [(h, .inr (12, [.int 0, .ref m1, .ref m2, .ref m3, .ref m4, .ref m5, .ref m6, .ref m7, .ref m8, .ref m9, .int v10, .int v11, .int v12, .int v13, .int v14, .long v15, .int v16, .int v17, .int v18, .ref m19, .ref m20, .int v21, .int v22, .int v23, .int v24, .int v25, .int v26, .ref m27, .int v28, .ref m29, .ref m30, .ref m31, .ref m32, .int v33, .ref m34, .int v35, .ref m36, .ref m37, .ref m38, .ref m39, .ref m40, .int v41, .ref m42, .ref m43, .ref m44])), (m5, .inl (k 0, 16, .inl (fun _ => 0)))] := hD
  refine lv_aload_n hx hb dX12_shoulders_5 rfl (lv_at hl 0 rfl) ?_
  refine lv_iload_n hx hb dX12_shoulders_6 rfl (lv_at hl 1 rfl) ?_
  have hPc := hP.sub (ws' := [(h, .inr (12, [.int 0, .ref m1, .ref m2, .ref m3, .ref m4, .ref m5, .ref m6, .ref m7, .ref m8, .ref m9, .int v10, .int v11, .int v12, .int v13, .int v14, .long v15, .int v16, .int v17, .int v18, .ref m19, .ref m20, .int v21, .int v22, .int v23, .int v24, .int v25, .int v26, .ref m27, .int v28, .ref m29, .ref m30, .ref m31, .ref m32, .int v33, .ref m34, .int v35, .ref m36, .ref m37, .ref m38, .ref m39, .ref m40, .int v41, .ref m42, .ref m43, .ref m44])), (m5, .inl (k 0, 16, .inl (fun _ => 0)))]) [0, 1] rfl
  refine vp_callSi (W.runV (As := [.int p0]) (rest := []) ⟨hx, hb, hml, hown, hts⟩ (m_hand l dC dI k h 0 m1 m2 m3 m4 m5 m6 m7 m8 m9 v10 v11 v12 v13 v14 v15 v16 v17 v18 m19 m20 v21 v22 v23 v24 v25 v26 m27 v28 m29 m30 m31 m32 v33 m34 v35 m36 m37 m38 m39 m40 v41 m42 m43 m44 p0) (cwV 1 hts gm_shoulders_m_hand rfl rfl rfl (by decide +kernel) ⟨Nat.le_of_ble_eq_true rfl, Nat.le_of_ble_eq_true rfl⟩) ⟨prR_blind, va_recv hK hPc (ci := 12) (q0 := 0) rfl rfl, fun U hU hW => ⟨rfl, prR_go hPc hK hU hW⟩⟩ rfl rfl hl.1 rfl (lv_room (Nat.le_of_ble_eq_true rfl)) dX12_shoulders_7 ⟨by decide +kernel, by decide +kernel⟩) (fun r_1 er_1 => ?_)
  subst er_1
  refine W.eq (g2 := F0 m 10 ls [.int 0]) rfl ?_
  refine lv_if_ne (tgt := 15) hx hb dX12_shoulders_10 (by decide) (fun c_2 => absurd (by decide) c_2) (fun _ => ?_)
  refine lv_iconst (v := (-1)) hx hb dX12_shoulders_13 (by decide) ?_
  have hP9 : va_P (dC, dI) vwCl [] H := hP.sub (ws' := []) [] rfl
  have hD9 : va_D A [] := hD.sub (ws' := []) [] (by decide) rfl
  refine W.widen (k := 0) (n := 0) (by decide +kernel) (by decide +kernel) ?_
  exact W.iret (v := (-1)) hx hb hr (fun t ht hW => ⟨⟨(-1), (), rfl, rfl, by rw [ht]; exact hP9, hD9⟩, hS.F ht⟩) hS.2.2 dX12_shoulders_14

def ws_m_hats : List Cond := .code yX12_hats cX12_hats 7 (some .int) :: ([.fieldLink RX12 88 "HeightFineModel" "code" "I", .methodLink RX12 306 yX12_hand, .instanceMethod yX12_hand, .selects RX12 yX12_hand yX12_hand, .initialized RX12, .code yX12_hand cX12_hand 2 (some .boolean), .methodLink RX12 287 yX12_is, .instanceMethod yX12_is, .selects RX12 yX12_is yX12_is, .code yX12_is cX12_is 3 (some .boolean), .fieldLink RX12 23 "HeightFineModel" "many" "[I", .methodLink RX12 100 yX12_in, .static yX12_in, .code yX12_in cX12_in 3 (some .boolean)] ++ u_ws RX12 TX12 45)
set_option maxRecDepth 20000 in
theorem in_m_hats_12 : ∀ w ∈ u_ws RX12 TX12 45, w ∈ ws_m_hats := by decide +kernel
set_option maxRecDepth 20000 in
theorem gm_hats_m_hand : GoodIn ws_m_hats (wsV RX12 306 RX12 yX12_hand ws_m_hand) := goodIn_app (goodIn_of _ (by decide +kernel)) (goodIn_r _ [6, 7, 8, 9, 5, 10, 11, 12, 13, 14, 15, 16, 17, 18, 19, 20, 21, 22, 23, 24, 25, 26, 27, 28, 29, 30, 31, 32, 33, 34, 35, 36, 37, 38, 39, 40, 41, 42, 43, 44, 45, 46, 47, 48, 49, 50, 51, 52, 53, 54, 55, 56, 57, 58, 59] (by decide +kernel) (by decide +kernel))
set_option maxHeartbeats 4000000 in
set_option maxRecDepth 100000 in
theorem m_hats (l : Launch) (dC : Nat → ClassId) (dI : Nat → Nat → Nat) (k : Nat → ClassId) (h : Nat) (v0 : Int32) (m1 : Nat) (m2 : Nat) (m3 : Nat) (m4 : Nat) (m5 : Nat) (m6 : Nat) (m7 : Nat) (m8 : Nat) (m9 : Nat) (v10 : Int32) (v11 : Int32) (v12 : Int32) (v13 : Int32) (v14 : Int32) (v15 : Int64) (v16 : Int32) (v17 : Int32) (v18 : Int32) (m19 : Nat) (m20 : Nat) (v21 : Int32) (v22 : Int32) (v23 : Int32) (v24 : Int32) (v25 : Int32) (v26 : Int32) (m27 : Nat) (v28 : Int32) (m29 : Nat) (m30 : Nat) (m31 : Nat) (m32 : Nat) (v33 : Int32) (m34 : Nat) (v35 : Int32) (m36 : Nat) (m37 : Nat) (m38 : Nat) (m39 : Nat) (m40 : Nat) (v41 : Int32) (m42 : Nat) (m43 : Nat) (m44 : Nat) (p0 : Int32) (p1 : Int32) (sz : Nat) : Met l yX12_hats ws_m_hats ({ frames := 3, cells := 0, slots := 0, locals := 65 }) (va_Pc [.ref h, .int p0, .int p1] (prW dC dI k [(h, .inr (12, [.int v0, .ref m1, .ref m2, .ref m3, .ref m4, .ref m5, .ref m6, .ref m7, .ref m8, .ref m9, .int v10, .int v11, .int v12, .int v13, .int v14, .long v15, .int v16, .int v17, .int v18, .ref m19, .ref m20, .int v21, .int v22, .int v23, .int v24, .int v25, .int v26, .ref m27, .int v28, .ref m29, .ref m30, .ref m31, .ref m32, .int v33, .ref m34, .int v35, .ref m36, .ref m37, .ref m38, .ref m39, .ref m40, .int v41, .ref m42, .ref m43, .ref m44])), (m5, .inl (k 0, 16, .inl (fun _ => 0)))] sz)) (va_Qi (fun (r : Int32) (_ : Unit) => r = (-1)) (fun (u : Unit) (t : State) => po (dC, dI) (va_A [(h, .inr (12, [.int v0, .ref m1, .ref m2, .ref m3, .ref m4, .ref m5, .ref m6, .ref m7, .ref m8, .ref m9, .int v10, .int v11, .int v12, .int v13, .int v14, .long v15, .int v16, .int v17, .int v18, .ref m19, .ref m20, .int v21, .int v22, .int v23, .int v24, .int v25, .int v26, .ref m27, .int v28, .ref m29, .ref m30, .ref m31, .ref m32, .int v33, .ref m34, .int v35, .ref m36, .ref m37, .ref m38, .ref m39, .ref m40, .int v41, .ref m42, .ref m43, .ref m44])), (m5, .inl (k 0, 16, .inl (fun _ => 0)))] sz) [] t) (va_A [(h, .inr (12, [.int v0, .ref m1, .ref m2, .ref m3, .ref m4, .ref m5, .ref m6, .ref m7, .ref m8, .ref m9, .int v10, .int v11, .int v12, .int v13, .int v14, .long v15, .int v16, .int v17, .int v18, .ref m19, .ref m20, .int v21, .int v22, .int v23, .int v24, .int v25, .int v26, .ref m27, .int v28, .ref m29, .ref m30, .ref m31, .ref m32, .int v33, .ref m34, .int v35, .ref m36, .ref m37, .ref m38, .ref m39, .ref m40, .int v41, .ref m42, .ref m43, .ref m44])), (m5, .inl (k 0, 16, .inl (fun _ => 0)))] sz)) 0 0 (va_A [(h, .inr (12, [.int v0, .ref m1, .ref m2, .ref m3, .ref m4, .ref m5, .ref m6, .ref m7, .ref m8, .ref m9, .int v10, .int v11, .int v12, .int v13, .int v14, .long v15, .int v16, .int v17, .int v18, .ref m19, .ref m20, .int v21, .int v22, .int v23, .int v24, .int v25, .int v26, .ref m27, .int v28, .ref m29, .ref m30, .ref m31, .ref m32, .int v33, .ref m34, .int v35, .ref m36, .ref m37, .ref m38, .ref m39, .ref m40, .int v41, .ref m42, .ref m43, .ref m44])), (m5, .inl (k 0, 16, .inl (fun _ => 0)))] sz) := by
  refine Met.ofW (cc := cX12_hats) (maxL := 7) (ret := (some .int)) (by decide) rfl ?_
  intro p e s m args below meth c s₁ B hml hv
  obtain ⟨rfl, hsz, hP, hK, hD0⟩ := hv
  have hx := B.exec
  have hb := B.bytes
  have hr := B.returns
  have hts := atoms_spec (ws := ws_m_hats) B.pre
  have hown : s.vm.findClass RX12 = some m.cls := findClass_of_methodNamed B.named
  have hi12 := in_m_hats_12
  subst hsz
  have hD := hD0.self (sz := s.heap.size)
  generalize hAe : va_A [(h, .inr (12, [.int v0, .ref m1, .ref m2, .ref m3, .ref m4, .ref m5, .ref m6, .ref m7, .ref m8, .ref m9, .int v10, .int v11, .int v12, .int v13, .int v14, .long v15, .int v16, .int v17, .int v18, .ref m19, .ref m20, .int v21, .int v22, .int v23, .int v24, .int v25, .int v26, .ref m27, .int v28, .ref m29, .ref m30, .ref m31, .ref m32, .int v33, .ref m34, .int v35, .ref m36, .ref m37, .ref m38, .ref m39, .ref m40, .int v41, .ref m42, .ref m43, .ref m44])), (m5, .inl (k 0, 16, .inl (fun _ => 0)))] s.heap.size = A at hD ⊢
  have hA : ∀ q : Nat, s.heap.size ≤ q → A q := fun q h => by rw [← hAe]; exact Or.inr h
  have hS : va_S A s.heap s.heap [] := va_S.rf
  have hP : va_P (dC, dI) vwCl [(h, .inr (12, [.int v0, .ref m1, .ref m2, .ref m3, .ref m4, .ref m5, .ref m6, .ref m7, .ref m8, .ref m9, .int v10, .int v11, .int v12, .int v13, .int v14, .long v15, .int v16, .int v17, .int v18, .ref m19, .ref m20, .int v21, .int v22, .int v23, .int v24, .int v25, .int v26, .ref m27, .int v28, .ref m29, .ref m30, .ref m31, .ref m32, .int v33, .ref m34, .int v35, .ref m36, .ref m37, .ref m38, .ref m39, .ref m40, .int v41, .ref m42, .ref m43, .ref m44])), (m5, .inl (k 0, 16, .inl (fun _ => 0)))] s.heap := hP
  have hl := lv_entry ([.ref h, .int p0, .int p1]) (n := 7) (Nat.le_of_ble_eq_true rfl)
  rw [lg_entry_eq]
  generalize (lg_sl ([.ref h, .int p0, .int p1]) ++ List.replicate (7 - (lg_sl ([.ref h, .int p0, .int p1])).length) Slot.unset).toArray = ls at hl ⊢
  have hl : lv_has ls 7 [(0, .ref h), (1, .int p0), (2, .int p1)] := hl
  refine lv_aload_n hx hb dX12_hats_0 rfl (lv_at hl 0 rfl) ?_
  refine lv_iconst (v := 0) hx hb dX12_hats_1 (by decide) ?_
  refine va_put (D := (dC, dI)) (ci := 12) (v := .int 0) (ty := .int) (C := RX12) (T := TX12) (N := 45) hx hb hts hi12 tyX12 tyX12_ok nmX12 hown hK hP hD hS 0 rfl rfl 0 (by decide) (hts (.fieldLink RX12 88 "HeightFineModel" "code" "I") (by decide +kernel)) (fun _ h9 => h9) rfl (by decide +kernel) rfl rfl (Nat.le_of_ble_eq_true rfl) dX12_hats_2 (fun H locs hP hD hS => ?_)
  have hP : va_P (dC, dI) vwCl [(h, .inr (12, [.int 0, .ref m1, .ref m2, .ref m3, .ref m4, .ref m5, .ref m6, .ref m7, .ref m8, .ref m9, .int v10, .int v11, .int v12, .int v13, .int v14, .long v15, .int v16, .int v17, .int v18, .ref m19, .ref m20, .int v21, .int v22, .int v23, .int v24, .int v25, .int v26, .ref m27, .int v28, .ref m29, .ref m30, .ref m31, .ref m32, .int v33, .ref m34, .int v35, .ref m36, .ref m37, .ref m38, .ref m39, .ref m40, .int v41, .ref m42, .ref m43, .ref m44])), (m5, .inl (k 0, 16, .inl (fun _ => 0)))] H := hP
  have hD : va_D A [(h, .inr (12, [.int 0, .ref m1, .ref m2, .ref m3, .ref m4, .ref m5, .ref m6, .ref m7, .ref m8, .ref m9, .int v10, .int v11, .int v12, .int v13, .int v14, .long v15, .int v16, .int v17, .int v18, .ref m19, .ref m20, .int v21, .int v22, .int v23, .int v24, .int v25, .int v26, .ref m27, .int v28, .ref m29, .ref m30, .ref m31, .ref m32, .int v33, .ref m34, .int v35, .ref m36, .ref m37, .ref m38, .ref m39, .ref m40, .int v41, .ref m42, .ref m43, .ref m44])), (m5, .inl (k 0, 16, .inl (fun _ => 0)))] := hD
  refine lv_aload_n hx hb dX12_hats_5 rfl (lv_at hl 0 rfl) ?_
  refine lv_iload_n hx hb dX12_hats_6 rfl (lv_at hl 1 rfl) ?_
  have hPc := hP.sub (ws' := [(h, .inr (12, [.int 0, .ref m1, .ref m2, .ref m3, .ref m4, .ref m5, .ref m6, .ref m7, .ref m8, .ref m9, .int v10, .int v11, .int v12, .int v13, .int v14, .long v15, .int v16, .int v17, .int v18, .ref m19, .ref m20, .int v21, .int v22, .int v23, .int v24, .int v25, .int v26, .ref m27, .int v28, .ref m29, .ref m30, .ref m31, .ref m32, .int v33, .ref m34, .int v35, .ref m36, .ref m37, .ref m38, .ref m39, .ref m40, .int v41, .ref m42, .ref m43, .ref m44])), (m5, .inl (k 0, 16, .inl (fun _ => 0)))]) [0, 1] rfl
  refine vp_callSi (W.runV (As := [.int p0]) (rest := []) ⟨hx, hb, hml, hown, hts⟩ (m_hand l dC dI k h 0 m1 m2 m3 m4 m5 m6 m7 m8 m9 v10 v11 v12 v13 v14 v15 v16 v17 v18 m19 m20 v21 v22 v23 v24 v25 v26 m27 v28 m29 m30 m31 m32 v33 m34 v35 m36 m37 m38 m39 m40 v41 m42 m43 m44 p0) (cwV 1 hts gm_hats_m_hand rfl rfl rfl (by decide +kernel) ⟨Nat.le_of_ble_eq_true rfl, Nat.le_of_ble_eq_true rfl⟩) ⟨prR_blind, va_recv hK hPc (ci := 12) (q0 := 0) rfl rfl, fun U hU hW => ⟨rfl, prR_go hPc hK hU hW⟩⟩ rfl rfl hl.1 rfl (lv_room (Nat.le_of_ble_eq_true rfl)) dX12_hats_7 ⟨by decide +kernel, by decide +kernel⟩) (fun r_1 er_1 => ?_)
  subst er_1
  refine W.eq (g2 := F0 m 10 ls [.int 0]) rfl ?_
  refine lv_if_ne (tgt := 15) hx hb dX12_hats_10 (by decide) (fun c_2 => absurd (by decide) c_2) (fun _ => ?_)
  refine lv_iconst (v := (-1)) hx hb dX12_hats_13 (by decide) ?_
  have hP9 : va_P (dC, dI) vwCl [] H := hP.sub (ws' := []) [] rfl
  have hD9 : va_D A [] := hD.sub (ws' := []) [] (by decide) rfl
  refine W.widen (k := 0) (n := 0) (by decide +kernel) (by decide +kernel) ?_
  exact W.iret (v := (-1)) hx hb hr (fun t ht hW => ⟨⟨(-1), (), rfl, rfl, by rw [ht]; exact hP9, hD9⟩, hS.F ht⟩) hS.2.2 dX12_hats_14

def ws_m_teams : List Cond := .code yX12_teams cX12_teams 9 (some .int) :: ([.fieldLink RX12 88 "HeightFineModel" "code" "I", .methodLink RX12 306 yX12_hand, .instanceMethod yX12_hand, .selects RX12 yX12_hand yX12_hand, .initialized RX12, .code yX12_hand cX12_hand 2 (some .boolean), .methodLink RX12 287 yX12_is, .instanceMethod yX12_is, .selects RX12 yX12_is yX12_is, .code yX12_is cX12_is 3 (some .boolean), .fieldLink RX12 23 "HeightFineModel" "many" "[I", .methodLink RX12 100 yX12_in, .static yX12_in, .code yX12_in cX12_in 3 (some .boolean)] ++ u_ws RX12 TX12 45)
set_option maxRecDepth 20000 in
theorem in_m_teams_12 : ∀ w ∈ u_ws RX12 TX12 45, w ∈ ws_m_teams := by decide +kernel
set_option maxRecDepth 20000 in
theorem gm_teams_m_hand : GoodIn ws_m_teams (wsV RX12 306 RX12 yX12_hand ws_m_hand) := goodIn_app (goodIn_of _ (by decide +kernel)) (goodIn_r _ [6, 7, 8, 9, 5, 10, 11, 12, 13, 14, 15, 16, 17, 18, 19, 20, 21, 22, 23, 24, 25, 26, 27, 28, 29, 30, 31, 32, 33, 34, 35, 36, 37, 38, 39, 40, 41, 42, 43, 44, 45, 46, 47, 48, 49, 50, 51, 52, 53, 54, 55, 56, 57, 58, 59] (by decide +kernel) (by decide +kernel))
set_option maxHeartbeats 4000000 in
set_option maxRecDepth 100000 in
theorem m_teams (l : Launch) (dC : Nat → ClassId) (dI : Nat → Nat → Nat) (k : Nat → ClassId) (h : Nat) (v0 : Int32) (m1 : Nat) (m2 : Nat) (m3 : Nat) (m4 : Nat) (m5 : Nat) (m6 : Nat) (m7 : Nat) (m8 : Nat) (m9 : Nat) (v10 : Int32) (v11 : Int32) (v12 : Int32) (v13 : Int32) (v14 : Int32) (v15 : Int64) (v16 : Int32) (v17 : Int32) (v18 : Int32) (m19 : Nat) (m20 : Nat) (v21 : Int32) (v22 : Int32) (v23 : Int32) (v24 : Int32) (v25 : Int32) (v26 : Int32) (m27 : Nat) (v28 : Int32) (m29 : Nat) (m30 : Nat) (m31 : Nat) (m32 : Nat) (v33 : Int32) (m34 : Nat) (v35 : Int32) (m36 : Nat) (m37 : Nat) (m38 : Nat) (m39 : Nat) (m40 : Nat) (v41 : Int32) (m42 : Nat) (m43 : Nat) (m44 : Nat) (p0 : Int32) (p1 : Int32) (sz : Nat) : Met l yX12_teams ws_m_teams ({ frames := 3, cells := 0, slots := 0, locals := 65 }) (va_Pc [.ref h, .int p0, .int p1] (prW dC dI k [(h, .inr (12, [.int v0, .ref m1, .ref m2, .ref m3, .ref m4, .ref m5, .ref m6, .ref m7, .ref m8, .ref m9, .int v10, .int v11, .int v12, .int v13, .int v14, .long v15, .int v16, .int v17, .int v18, .ref m19, .ref m20, .int v21, .int v22, .int v23, .int v24, .int v25, .int v26, .ref m27, .int v28, .ref m29, .ref m30, .ref m31, .ref m32, .int v33, .ref m34, .int v35, .ref m36, .ref m37, .ref m38, .ref m39, .ref m40, .int v41, .ref m42, .ref m43, .ref m44])), (m5, .inl (k 0, 16, .inl (fun _ => 0)))] sz)) (va_Qi (fun (r : Int32) (_ : Unit) => r = (-1)) (fun (u : Unit) (t : State) => po (dC, dI) (va_A [(h, .inr (12, [.int v0, .ref m1, .ref m2, .ref m3, .ref m4, .ref m5, .ref m6, .ref m7, .ref m8, .ref m9, .int v10, .int v11, .int v12, .int v13, .int v14, .long v15, .int v16, .int v17, .int v18, .ref m19, .ref m20, .int v21, .int v22, .int v23, .int v24, .int v25, .int v26, .ref m27, .int v28, .ref m29, .ref m30, .ref m31, .ref m32, .int v33, .ref m34, .int v35, .ref m36, .ref m37, .ref m38, .ref m39, .ref m40, .int v41, .ref m42, .ref m43, .ref m44])), (m5, .inl (k 0, 16, .inl (fun _ => 0)))] sz) [] t) (va_A [(h, .inr (12, [.int v0, .ref m1, .ref m2, .ref m3, .ref m4, .ref m5, .ref m6, .ref m7, .ref m8, .ref m9, .int v10, .int v11, .int v12, .int v13, .int v14, .long v15, .int v16, .int v17, .int v18, .ref m19, .ref m20, .int v21, .int v22, .int v23, .int v24, .int v25, .int v26, .ref m27, .int v28, .ref m29, .ref m30, .ref m31, .ref m32, .int v33, .ref m34, .int v35, .ref m36, .ref m37, .ref m38, .ref m39, .ref m40, .int v41, .ref m42, .ref m43, .ref m44])), (m5, .inl (k 0, 16, .inl (fun _ => 0)))] sz)) 0 0 (va_A [(h, .inr (12, [.int v0, .ref m1, .ref m2, .ref m3, .ref m4, .ref m5, .ref m6, .ref m7, .ref m8, .ref m9, .int v10, .int v11, .int v12, .int v13, .int v14, .long v15, .int v16, .int v17, .int v18, .ref m19, .ref m20, .int v21, .int v22, .int v23, .int v24, .int v25, .int v26, .ref m27, .int v28, .ref m29, .ref m30, .ref m31, .ref m32, .int v33, .ref m34, .int v35, .ref m36, .ref m37, .ref m38, .ref m39, .ref m40, .int v41, .ref m42, .ref m43, .ref m44])), (m5, .inl (k 0, 16, .inl (fun _ => 0)))] sz) := by
  refine Met.ofW (cc := cX12_teams) (maxL := 9) (ret := (some .int)) (by decide) rfl ?_
  intro p e s m args below meth c s₁ B hml hv
  obtain ⟨rfl, hsz, hP, hK, hD0⟩ := hv
  have hx := B.exec
  have hb := B.bytes
  have hr := B.returns
  have hts := atoms_spec (ws := ws_m_teams) B.pre
  have hown : s.vm.findClass RX12 = some m.cls := findClass_of_methodNamed B.named
  have hi12 := in_m_teams_12
  subst hsz
  have hD := hD0.self (sz := s.heap.size)
  generalize hAe : va_A [(h, .inr (12, [.int v0, .ref m1, .ref m2, .ref m3, .ref m4, .ref m5, .ref m6, .ref m7, .ref m8, .ref m9, .int v10, .int v11, .int v12, .int v13, .int v14, .long v15, .int v16, .int v17, .int v18, .ref m19, .ref m20, .int v21, .int v22, .int v23, .int v24, .int v25, .int v26, .ref m27, .int v28, .ref m29, .ref m30, .ref m31, .ref m32, .int v33, .ref m34, .int v35, .ref m36, .ref m37, .ref m38, .ref m39, .ref m40, .int v41, .ref m42, .ref m43, .ref m44])), (m5, .inl (k 0, 16, .inl (fun _ => 0)))] s.heap.size = A at hD ⊢
  have hA : ∀ q : Nat, s.heap.size ≤ q → A q := fun q h => by rw [← hAe]; exact Or.inr h
  have hS : va_S A s.heap s.heap [] := va_S.rf
  have hP : va_P (dC, dI) vwCl [(h, .inr (12, [.int v0, .ref m1, .ref m2, .ref m3, .ref m4, .ref m5, .ref m6, .ref m7, .ref m8, .ref m9, .int v10, .int v11, .int v12, .int v13, .int v14, .long v15, .int v16, .int v17, .int v18, .ref m19, .ref m20, .int v21, .int v22, .int v23, .int v24, .int v25, .int v26, .ref m27, .int v28, .ref m29, .ref m30, .ref m31, .ref m32, .int v33, .ref m34, .int v35, .ref m36, .ref m37, .ref m38, .ref m39, .ref m40, .int v41, .ref m42, .ref m43, .ref m44])), (m5, .inl (k 0, 16, .inl (fun _ => 0)))] s.heap := hP
  have hl := lv_entry ([.ref h, .int p0, .int p1]) (n := 9) (Nat.le_of_ble_eq_true rfl)
  rw [lg_entry_eq]
  generalize (lg_sl ([.ref h, .int p0, .int p1]) ++ List.replicate (9 - (lg_sl ([.ref h, .int p0, .int p1])).length) Slot.unset).toArray = ls at hl ⊢
  have hl : lv_has ls 9 [(0, .ref h), (1, .int p0), (2, .int p1)] := hl
  refine lv_aload_n hx hb dX12_teams_0 rfl (lv_at hl 0 rfl) ?_
  refine lv_iconst (v := 0) hx hb dX12_teams_1 (by decide) ?_
  refine va_put (D := (dC, dI)) (ci := 12) (v := .int 0) (ty := .int) (C := RX12) (T := TX12) (N := 45) hx hb hts hi12 tyX12 tyX12_ok nmX12 hown hK hP hD hS 0 rfl rfl 0 (by decide) (hts (.fieldLink RX12 88 "HeightFineModel" "code" "I") (by decide +kernel)) (fun _ h9 => h9) rfl (by decide +kernel) rfl rfl (Nat.le_of_ble_eq_true rfl) dX12_teams_2 (fun H locs hP hD hS => ?_)
  have hP : va_P (dC, dI) vwCl [(h, .inr (12, [.int 0, .ref m1, .ref m2, .ref m3, .ref m4, .ref m5, .ref m6, .ref m7, .ref m8, .ref m9, .int v10, .int v11, .int v12, .int v13, .int v14, .long v15, .int v16, .int v17, .int v18, .ref m19, .ref m20, .int v21, .int v22, .int v23, .int v24, .int v25, .int v26, .ref m27, .int v28, .ref m29, .ref m30, .ref m31, .ref m32, .int v33, .ref m34, .int v35, .ref m36, .ref m37, .ref m38, .ref m39, .ref m40, .int v41, .ref m42, .ref m43, .ref m44])), (m5, .inl (k 0, 16, .inl (fun _ => 0)))] H := hP
  have hD : va_D A [(h, .inr (12, [.int 0, .ref m1, .ref m2, .ref m3, .ref m4, .ref m5, .ref m6, .ref m7, .ref m8, .ref m9, .int v10, .int v11, .int v12, .int v13, .int v14, .long v15, .int v16, .int v17, .int v18, .ref m19, .ref m20, .int v21, .int v22, .int v23, .int v24, .int v25, .int v26, .ref m27, .int v28, .ref m29, .ref m30, .ref m31, .ref m32, .int v33, .ref m34, .int v35, .ref m36, .ref m37, .ref m38, .ref m39, .ref m40, .int v41, .ref m42, .ref m43, .ref m44])), (m5, .inl (k 0, 16, .inl (fun _ => 0)))] := hD
  refine lv_aload_n hx hb dX12_teams_5 rfl (lv_at hl 0 rfl) ?_
  refine lv_iload_n hx hb dX12_teams_6 rfl (lv_at hl 1 rfl) ?_
  have hPc := hP.sub (ws' := [(h, .inr (12, [.int 0, .ref m1, .ref m2, .ref m3, .ref m4, .ref m5, .ref m6, .ref m7, .ref m8, .ref m9, .int v10, .int v11, .int v12, .int v13, .int v14, .long v15, .int v16, .int v17, .int v18, .ref m19, .ref m20, .int v21, .int v22, .int v23, .int v24, .int v25, .int v26, .ref m27, .int v28, .ref m29, .ref m30, .ref m31, .ref m32, .int v33, .ref m34, .int v35, .ref m36, .ref m37, .ref m38, .ref m39, .ref m40, .int v41, .ref m42, .ref m43, .ref m44])), (m5, .inl (k 0, 16, .inl (fun _ => 0)))]) [0, 1] rfl
  refine vp_callSi (W.runV (As := [.int p0]) (rest := []) ⟨hx, hb, hml, hown, hts⟩ (m_hand l dC dI k h 0 m1 m2 m3 m4 m5 m6 m7 m8 m9 v10 v11 v12 v13 v14 v15 v16 v17 v18 m19 m20 v21 v22 v23 v24 v25 v26 m27 v28 m29 m30 m31 m32 v33 m34 v35 m36 m37 m38 m39 m40 v41 m42 m43 m44 p0) (cwV 1 hts gm_teams_m_hand rfl rfl rfl (by decide +kernel) ⟨Nat.le_of_ble_eq_true rfl, Nat.le_of_ble_eq_true rfl⟩) ⟨prR_blind, va_recv hK hPc (ci := 12) (q0 := 0) rfl rfl, fun U hU hW => ⟨rfl, prR_go hPc hK hU hW⟩⟩ rfl rfl hl.1 rfl (lv_room (Nat.le_of_ble_eq_true rfl)) dX12_teams_7 ⟨by decide +kernel, by decide +kernel⟩) (fun r_1 er_1 => ?_)
  subst er_1
  refine W.eq (g2 := F0 m 10 ls [.int 0]) rfl ?_
  refine lv_if_eq (tgt := 21) hx hb dX12_teams_10 (by decide) (fun _ => ?_) (fun c_2 => absurd (by decide) c_2)
  refine lv_iconst (v := (-1)) hx hb dX12_teams_21 (by decide) ?_
  have hP9 : va_P (dC, dI) vwCl [] H := hP.sub (ws' := []) [] rfl
  have hD9 : va_D A [] := hD.sub (ws' := []) [] (by decide) rfl
  refine W.widen (k := 0) (n := 0) (by decide +kernel) (by decide +kernel) ?_
  exact W.iret (v := (-1)) hx hb hr (fun t ht hW => ⟨⟨(-1), (), rfl, rfl, by rw [ht]; exact hP9, hD9⟩, hS.F ht⟩) hS.2.2 dX12_teams_22

def ws_m_assumed : List Cond := .code yX12_assumed cX12_assumed 7 (some .int) :: ([.fieldLink RX12 88 "HeightFineModel" "code" "I", .methodLink RX12 100 yX12_in, .static yX12_in, .initialized RX12, .code yX12_in cX12_in 3 (some .boolean), .methodLink RX12 306 yX12_hand, .instanceMethod yX12_hand, .selects RX12 yX12_hand yX12_hand, .code yX12_hand cX12_hand 2 (some .boolean), .methodLink RX12 287 yX12_is, .instanceMethod yX12_is, .selects RX12 yX12_is yX12_is, .code yX12_is cX12_is 3 (some .boolean), .fieldLink RX12 23 "HeightFineModel" "many" "[I"] ++ u_ws RX12 TX12 45)
set_option maxRecDepth 20000 in
theorem in_m_assumed_12 : ∀ w ∈ u_ws RX12 TX12 45, w ∈ ws_m_assumed := by decide +kernel
set_option maxRecDepth 20000 in
theorem gm_assumed_m_in : GoodIn ws_m_assumed (va_wsS RX12 100 yX12_in ws_m_in) := goodIn_app (goodIn_of _ (by decide +kernel)) (goodIn_r _ [5] (by decide +kernel) (by decide +kernel))
set_option maxRecDepth 20000 in
theorem gm_assumed_m_hand : GoodIn ws_m_assumed (wsV RX12 306 RX12 yX12_hand ws_m_hand) := goodIn_app (goodIn_of _ (by decide +kernel)) (goodIn_r _ [9, 10, 11, 12, 4, 13, 14, 2, 3, 5, 15, 16, 17, 18, 19, 20, 21, 22, 23, 24, 25, 26, 27, 28, 29, 30, 31, 32, 33, 34, 35, 36, 37, 38, 39, 40, 41, 42, 43, 44, 45, 46, 47, 48, 49, 50, 51, 52, 53, 54, 55, 56, 57, 58, 59] (by decide +kernel) (by decide +kernel))
set_option maxHeartbeats 4000000 in
set_option maxRecDepth 100000 in
theorem m_assumed (l : Launch) (dC : Nat → ClassId) (dI : Nat → Nat → Nat) (k : Nat → ClassId) (h : Nat) (v0 : Int32) (m1 : Nat) (m2 : Nat) (m3 : Nat) (m4 : Nat) (m5 : Nat) (m6 : Nat) (m7 : Nat) (m8 : Nat) (m9 : Nat) (v10 : Int32) (v11 : Int32) (v12 : Int32) (v13 : Int32) (v14 : Int32) (v15 : Int64) (v16 : Int32) (v17 : Int32) (v18 : Int32) (m19 : Nat) (m20 : Nat) (v21 : Int32) (v22 : Int32) (v23 : Int32) (v24 : Int32) (v25 : Int32) (v26 : Int32) (m27 : Nat) (v28 : Int32) (m29 : Nat) (m30 : Nat) (m31 : Nat) (m32 : Nat) (v33 : Int32) (m34 : Nat) (v35 : Int32) (m36 : Nat) (m37 : Nat) (m38 : Nat) (m39 : Nat) (m40 : Nat) (v41 : Int32) (m42 : Nat) (m43 : Nat) (m44 : Nat) (p0 : Int32) (p1 : Int32) (p2 : Int32) (sz : Nat) : Met l yX12_assumed ws_m_assumed ({ frames := 3, cells := 0, slots := 0, locals := 65 }) (va_Pc [.ref h, .int p0, .int p1, .int p2] (prW dC dI k [(h, .inr (12, [.int v0, .ref m1, .ref m2, .ref m3, .ref m4, .ref m5, .ref m6, .ref m7, .ref m8, .ref m9, .int v10, .int v11, .int v12, .int v13, .int v14, .long v15, .int v16, .int v17, .int v18, .ref m19, .ref m20, .int v21, .int v22, .int v23, .int v24, .int v25, .int v26, .ref m27, .int v28, .ref m29, .ref m30, .ref m31, .ref m32, .int v33, .ref m34, .int v35, .ref m36, .ref m37, .ref m38, .ref m39, .ref m40, .int v41, .ref m42, .ref m43, .ref m44])), (m5, .inl (k 0, 16, .inl (fun _ => 0)))] sz)) (va_Qi (fun (r : Int32) (_ : Unit) => r = (-1)) (fun (u : Unit) (t : State) => po (dC, dI) (va_A [(h, .inr (12, [.int v0, .ref m1, .ref m2, .ref m3, .ref m4, .ref m5, .ref m6, .ref m7, .ref m8, .ref m9, .int v10, .int v11, .int v12, .int v13, .int v14, .long v15, .int v16, .int v17, .int v18, .ref m19, .ref m20, .int v21, .int v22, .int v23, .int v24, .int v25, .int v26, .ref m27, .int v28, .ref m29, .ref m30, .ref m31, .ref m32, .int v33, .ref m34, .int v35, .ref m36, .ref m37, .ref m38, .ref m39, .ref m40, .int v41, .ref m42, .ref m43, .ref m44])), (m5, .inl (k 0, 16, .inl (fun _ => 0)))] sz) [] t) (va_A [(h, .inr (12, [.int v0, .ref m1, .ref m2, .ref m3, .ref m4, .ref m5, .ref m6, .ref m7, .ref m8, .ref m9, .int v10, .int v11, .int v12, .int v13, .int v14, .long v15, .int v16, .int v17, .int v18, .ref m19, .ref m20, .int v21, .int v22, .int v23, .int v24, .int v25, .int v26, .ref m27, .int v28, .ref m29, .ref m30, .ref m31, .ref m32, .int v33, .ref m34, .int v35, .ref m36, .ref m37, .ref m38, .ref m39, .ref m40, .int v41, .ref m42, .ref m43, .ref m44])), (m5, .inl (k 0, 16, .inl (fun _ => 0)))] sz)) 0 0 (va_A [(h, .inr (12, [.int v0, .ref m1, .ref m2, .ref m3, .ref m4, .ref m5, .ref m6, .ref m7, .ref m8, .ref m9, .int v10, .int v11, .int v12, .int v13, .int v14, .long v15, .int v16, .int v17, .int v18, .ref m19, .ref m20, .int v21, .int v22, .int v23, .int v24, .int v25, .int v26, .ref m27, .int v28, .ref m29, .ref m30, .ref m31, .ref m32, .int v33, .ref m34, .int v35, .ref m36, .ref m37, .ref m38, .ref m39, .ref m40, .int v41, .ref m42, .ref m43, .ref m44])), (m5, .inl (k 0, 16, .inl (fun _ => 0)))] sz) := by
  refine Met.ofW (cc := cX12_assumed) (maxL := 7) (ret := (some .int)) (by decide) rfl ?_
  intro p e s m args below meth c s₁ B hml hv
  obtain ⟨rfl, hsz, hP, hK, hD0⟩ := hv
  have hx := B.exec
  have hb := B.bytes
  have hr := B.returns
  have hts := atoms_spec (ws := ws_m_assumed) B.pre
  have hown : s.vm.findClass RX12 = some m.cls := findClass_of_methodNamed B.named
  have hi12 := in_m_assumed_12
  subst hsz
  have hD := hD0.self (sz := s.heap.size)
  generalize hAe : va_A [(h, .inr (12, [.int v0, .ref m1, .ref m2, .ref m3, .ref m4, .ref m5, .ref m6, .ref m7, .ref m8, .ref m9, .int v10, .int v11, .int v12, .int v13, .int v14, .long v15, .int v16, .int v17, .int v18, .ref m19, .ref m20, .int v21, .int v22, .int v23, .int v24, .int v25, .int v26, .ref m27, .int v28, .ref m29, .ref m30, .ref m31, .ref m32, .int v33, .ref m34, .int v35, .ref m36, .ref m37, .ref m38, .ref m39, .ref m40, .int v41, .ref m42, .ref m43, .ref m44])), (m5, .inl (k 0, 16, .inl (fun _ => 0)))] s.heap.size = A at hD ⊢
  have hA : ∀ q : Nat, s.heap.size ≤ q → A q := fun q h => by rw [← hAe]; exact Or.inr h
  have hS : va_S A s.heap s.heap [] := va_S.rf
  have hP : va_P (dC, dI) vwCl [(h, .inr (12, [.int v0, .ref m1, .ref m2, .ref m3, .ref m4, .ref m5, .ref m6, .ref m7, .ref m8, .ref m9, .int v10, .int v11, .int v12, .int v13, .int v14, .long v15, .int v16, .int v17, .int v18, .ref m19, .ref m20, .int v21, .int v22, .int v23, .int v24, .int v25, .int v26, .ref m27, .int v28, .ref m29, .ref m30, .ref m31, .ref m32, .int v33, .ref m34, .int v35, .ref m36, .ref m37, .ref m38, .ref m39, .ref m40, .int v41, .ref m42, .ref m43, .ref m44])), (m5, .inl (k 0, 16, .inl (fun _ => 0)))] s.heap := hP
  have hl := lv_entry ([.ref h, .int p0, .int p1, .int p2]) (n := 7) (Nat.le_of_ble_eq_true rfl)
  rw [lg_entry_eq]
  generalize (lg_sl ([.ref h, .int p0, .int p1, .int p2]) ++ List.replicate (7 - (lg_sl ([.ref h, .int p0, .int p1, .int p2])).length) Slot.unset).toArray = ls at hl ⊢
  have hl : lv_has ls 7 [(0, .ref h), (1, .int p0), (2, .int p1), (3, .int p2)] := hl
  refine lv_aload_n hx hb dX12_assumed_0 rfl (lv_at hl 0 rfl) ?_
  refine lv_iconst (v := 0) hx hb dX12_assumed_1 (by decide) ?_
  refine va_put (D := (dC, dI)) (ci := 12) (v := .int 0) (ty := .int) (C := RX12) (T := TX12) (N := 45) hx hb hts hi12 tyX12 tyX12_ok nmX12 hown hK hP hD hS 0 rfl rfl 0 (by decide) (hts (.fieldLink RX12 88 "HeightFineModel" "code" "I") (by decide +kernel)) (fun _ h9 => h9) rfl (by decide +kernel) rfl rfl (Nat.le_of_ble_eq_true rfl) dX12_assumed_2 (fun H locs hP hD hS => ?_)
  have hP : va_P (dC, dI) vwCl [(h, .inr (12, [.int 0, .ref m1, .ref m2, .ref m3, .ref m4, .ref m5, .ref m6, .ref m7, .ref m8, .ref m9, .int v10, .int v11, .int v12, .int v13, .int v14, .long v15, .int v16, .int v17, .int v18, .ref m19, .ref m20, .int v21, .int v22, .int v23, .int v24, .int v25, .int v26, .ref m27, .int v28, .ref m29, .ref m30, .ref m31, .ref m32, .int v33, .ref m34, .int v35, .ref m36, .ref m37, .ref m38, .ref m39, .ref m40, .int v41, .ref m42, .ref m43, .ref m44])), (m5, .inl (k 0, 16, .inl (fun _ => 0)))] H := hP
  have hD : va_D A [(h, .inr (12, [.int 0, .ref m1, .ref m2, .ref m3, .ref m4, .ref m5, .ref m6, .ref m7, .ref m8, .ref m9, .int v10, .int v11, .int v12, .int v13, .int v14, .long v15, .int v16, .int v17, .int v18, .ref m19, .ref m20, .int v21, .int v22, .int v23, .int v24, .int v25, .int v26, .ref m27, .int v28, .ref m29, .ref m30, .ref m31, .ref m32, .int v33, .ref m34, .int v35, .ref m36, .ref m37, .ref m38, .ref m39, .ref m40, .int v41, .ref m42, .ref m43, .ref m44])), (m5, .inl (k 0, 16, .inl (fun _ => 0)))] := hD
  refine lv_iload_n hx hb dX12_assumed_5 rfl (lv_at hl 2 rfl) ?_
  refine lv_iconst (v := 0) hx hb dX12_assumed_6 (by decide) ?_
  refine lv_bipush (v := 99) hx hb dX12_assumed_7 (by decide) ?_
  refine vp_callSi (W.runS (As := [.int p1, .int 0, .int 99]) (rest := []) ⟨hx, hb, hml, hown, hts⟩ (m_in l p1 0 99) (va_cwS 3 hts gm_assumed_m_in rfl rfl rfl (by decide +kernel) ⟨Nat.le_of_ble_eq_true rfl, Nat.le_of_ble_eq_true rfl⟩) ⟨prN_blind, fun U hU hW => ⟨rfl, trivial⟩⟩ rfl rfl hl.1 rfl (lv_room (Nat.le_of_ble_eq_true rfl)) dX12_assumed_9 ⟨by decide +kernel, by decide +kernel⟩) (fun r_1 er_1 => ?_)
  subst er_1
  refine W.eq (g2 := F0 m 12 ls [.int (inR p1 0 99)]) rfl ?_
  refine lv_if_eq (tgt := 32) hx hb dX12_assumed_12 (by decide) (fun c_2 => ?_) (fun c_2 => ?_)
  · refine lv_iconst (v := (-1)) hx hb dX12_assumed_32 (by decide) ?_
    have hP9 : va_P (dC, dI) vwCl [] H := hP.sub (ws' := []) [] rfl
    have hD9 : va_D A [] := hD.sub (ws' := []) [] (by decide) rfl
    refine W.widen (k := 0) (n := 0) (by decide +kernel) (by decide +kernel) ?_
    exact W.iret (v := (-1)) hx hb hr (fun t ht hW => ⟨⟨(-1), (), rfl, rfl, by rw [ht]; exact hP9, hD9⟩, hS.F ht⟩) hS.2.2 dX12_assumed_33
  · refine lv_aload_n hx hb dX12_assumed_15 rfl (lv_at hl 0 rfl) ?_
    refine lv_iload_n hx hb dX12_assumed_16 rfl (lv_at hl 1 rfl) ?_
    have hPc := hP.sub (ws' := [(h, .inr (12, [.int 0, .ref m1, .ref m2, .ref m3, .ref m4, .ref m5, .ref m6, .ref m7, .ref m8, .ref m9, .int v10, .int v11, .int v12, .int v13, .int v14, .long v15, .int v16, .int v17, .int v18, .ref m19, .ref m20, .int v21, .int v22, .int v23, .int v24, .int v25, .int v26, .ref m27, .int v28, .ref m29, .ref m30, .ref m31, .ref m32, .int v33, .ref m34, .int v35, .ref m36, .ref m37, .ref m38, .ref m39, .ref m40, .int v41, .ref m42, .ref m43, .ref m44])), (m5, .inl (k 0, 16, .inl (fun _ => 0)))]) [0, 1] rfl
    refine vp_callSi (W.runV (As := [.int p0]) (rest := []) ⟨hx, hb, hml, hown, hts⟩ (m_hand l dC dI k h 0 m1 m2 m3 m4 m5 m6 m7 m8 m9 v10 v11 v12 v13 v14 v15 v16 v17 v18 m19 m20 v21 v22 v23 v24 v25 v26 m27 v28 m29 m30 m31 m32 v33 m34 v35 m36 m37 m38 m39 m40 v41 m42 m43 m44 p0) (cwV 1 hts gm_assumed_m_hand rfl rfl rfl (by decide +kernel) ⟨Nat.le_of_ble_eq_true rfl, Nat.le_of_ble_eq_true rfl⟩) ⟨prR_blind, va_recv hK hPc (ci := 12) (q0 := 0) rfl rfl, fun U hU hW => ⟨rfl, prR_go hPc hK hU hW⟩⟩ rfl rfl hl.1 rfl (lv_room (Nat.le_of_ble_eq_true rfl)) dX12_assumed_17 ⟨by decide +kernel, by decide +kernel⟩) (fun r_3 er_3 => ?_)
    subst er_3
    refine W.eq (g2 := F0 m 20 ls [.int 0]) rfl ?_
    refine lv_if_eq (tgt := 32) hx hb dX12_assumed_20 (by decide) (fun _ => ?_) (fun c_4 => absurd (by decide) c_4)
    refine lv_iconst (v := (-1)) hx hb dX12_assumed_32 (by decide) ?_
    have hP9 : va_P (dC, dI) vwCl [] H := hP.sub (ws' := []) [] rfl
    have hD9 : va_D A [] := hD.sub (ws' := []) [] (by decide) rfl
    refine W.widen (k := 0) (n := 0) (by decide +kernel) (by decide +kernel) ?_
    exact W.iret (v := (-1)) hx hb hr (fun t ht hW => ⟨⟨(-1), (), rfl, rfl, by rw [ht]; exact hP9, hD9⟩, hS.F ht⟩) hS.2.2 dX12_assumed_33

def ws_m_settled : List Cond := .code yX12_settled cX12_settled 9 (some .int) :: ([.fieldLink RX12 88 "HeightFineModel" "code" "I", .methodLink RX12 351 yX12_layAll, .instanceMethod yX12_layAll, .selects RX12 yX12_layAll yX12_layAll, .initialized RX12, .code yX12_layAll cX12_layAll 3 (some .boolean), .methodLink RX12 315 yX12_hasYear, .instanceMethod yX12_hasYear, .selects RX12 yX12_hasYear yX12_hasYear, .code yX12_hasYear cX12_hasYear 2 (some .boolean), .fieldLink RX12 312 "HeightFineModel" "year" "I", .methodLink RX12 287 yX12_is, .instanceMethod yX12_is, .selects RX12 yX12_is yX12_is, .code yX12_is cX12_is 3 (some .boolean), .fieldLink RX12 23 "HeightFineModel" "many" "[I", .methodLink RX12 100 yX12_in, .static yX12_in, .code yX12_in cX12_in 3 (some .boolean)] ++ u_ws RX12 TX12 45)
set_option maxRecDepth 20000 in
theorem in_m_settled_12 : ∀ w ∈ u_ws RX12 TX12 45, w ∈ ws_m_settled := by decide +kernel
set_option maxRecDepth 20000 in
theorem gm_settled_m_layAll : GoodIn ws_m_settled (wsV RX12 351 RX12 yX12_layAll ws_m_layAll) := goodIn_app (goodIn_of _ (by decide +kernel)) (goodIn_r _ [6, 7, 8, 9, 5, 10, 11, 12, 13, 14, 15, 16, 17, 18, 19, 20, 21, 22, 23, 24, 25, 26, 27, 28, 29, 30, 31, 32, 33, 34, 35, 36, 37, 38, 39, 40, 41, 42, 43, 44, 45, 46, 47, 48, 49, 50, 51, 52, 53, 54, 55, 56, 57, 58, 59, 60, 61, 62, 63, 64] (by decide +kernel) (by decide +kernel))
set_option maxHeartbeats 4000000 in
set_option maxRecDepth 100000 in
theorem m_settled (l : Launch) (dC : Nat → ClassId) (dI : Nat → Nat → Nat) (k : Nat → ClassId) (h : Nat) (v0 : Int32) (m1 : Nat) (m2 : Nat) (m3 : Nat) (m4 : Nat) (m5 : Nat) (m6 : Nat) (m7 : Nat) (m8 : Nat) (m9 : Nat) (v10 : Int32) (v11 : Int32) (v12 : Int32) (v13 : Int32) (v14 : Int32) (v15 : Int64) (v16 : Int32) (v17 : Int32) (v18 : Int32) (m19 : Nat) (m20 : Nat) (v21 : Int32) (v22 : Int32) (v23 : Int32) (v24 : Int32) (v25 : Int32) (v26 : Int32) (m27 : Nat) (v28 : Int32) (m29 : Nat) (m30 : Nat) (m31 : Nat) (m32 : Nat) (v33 : Int32) (m34 : Nat) (v35 : Int32) (m36 : Nat) (m37 : Nat) (m38 : Nat) (m39 : Nat) (m40 : Nat) (v41 : Int32) (m42 : Nat) (m43 : Nat) (m44 : Nat) (p0 : Int32) (p1 : Int32) (p2 : Int32) (sz : Nat) : Met l yX12_settled ws_m_settled ({ frames := 4, cells := 0, slots := 0, locals := 87 }) (va_Pc [.ref h, .int p0, .int p1, .int p2] (prW dC dI k [(h, .inr (12, [.int v0, .ref m1, .ref m2, .ref m3, .ref m4, .ref m5, .ref m6, .ref m7, .ref m8, .ref m9, .int v10, .int v11, .int v12, .int v13, .int v14, .long v15, .int v16, .int v17, .int v18, .ref m19, .ref m20, .int v21, .int v22, .int v23, .int v24, .int v25, .int v26, .ref m27, .int v28, .ref m29, .ref m30, .ref m31, .ref m32, .int v33, .ref m34, .int v35, .ref m36, .ref m37, .ref m38, .ref m39, .ref m40, .int v41, .ref m42, .ref m43, .ref m44])), (m5, .inl (k 0, 16, .inl (fun _ => 0)))] sz)) (va_Qi (fun (r : Int32) (_ : Unit) => r = (-1)) (fun (u : Unit) (t : State) => po (dC, dI) (va_A [(h, .inr (12, [.int v0, .ref m1, .ref m2, .ref m3, .ref m4, .ref m5, .ref m6, .ref m7, .ref m8, .ref m9, .int v10, .int v11, .int v12, .int v13, .int v14, .long v15, .int v16, .int v17, .int v18, .ref m19, .ref m20, .int v21, .int v22, .int v23, .int v24, .int v25, .int v26, .ref m27, .int v28, .ref m29, .ref m30, .ref m31, .ref m32, .int v33, .ref m34, .int v35, .ref m36, .ref m37, .ref m38, .ref m39, .ref m40, .int v41, .ref m42, .ref m43, .ref m44])), (m5, .inl (k 0, 16, .inl (fun _ => 0)))] sz) [] t) (va_A [(h, .inr (12, [.int v0, .ref m1, .ref m2, .ref m3, .ref m4, .ref m5, .ref m6, .ref m7, .ref m8, .ref m9, .int v10, .int v11, .int v12, .int v13, .int v14, .long v15, .int v16, .int v17, .int v18, .ref m19, .ref m20, .int v21, .int v22, .int v23, .int v24, .int v25, .int v26, .ref m27, .int v28, .ref m29, .ref m30, .ref m31, .ref m32, .int v33, .ref m34, .int v35, .ref m36, .ref m37, .ref m38, .ref m39, .ref m40, .int v41, .ref m42, .ref m43, .ref m44])), (m5, .inl (k 0, 16, .inl (fun _ => 0)))] sz)) 0 0 (va_A [(h, .inr (12, [.int v0, .ref m1, .ref m2, .ref m3, .ref m4, .ref m5, .ref m6, .ref m7, .ref m8, .ref m9, .int v10, .int v11, .int v12, .int v13, .int v14, .long v15, .int v16, .int v17, .int v18, .ref m19, .ref m20, .int v21, .int v22, .int v23, .int v24, .int v25, .int v26, .ref m27, .int v28, .ref m29, .ref m30, .ref m31, .ref m32, .int v33, .ref m34, .int v35, .ref m36, .ref m37, .ref m38, .ref m39, .ref m40, .int v41, .ref m42, .ref m43, .ref m44])), (m5, .inl (k 0, 16, .inl (fun _ => 0)))] sz) := by
  refine Met.ofW (cc := cX12_settled) (maxL := 9) (ret := (some .int)) (by decide) rfl ?_
  intro p e s m args below meth c s₁ B hml hv
  obtain ⟨rfl, hsz, hP, hK, hD0⟩ := hv
  have hx := B.exec
  have hb := B.bytes
  have hr := B.returns
  have hts := atoms_spec (ws := ws_m_settled) B.pre
  have hown : s.vm.findClass RX12 = some m.cls := findClass_of_methodNamed B.named
  have hi12 := in_m_settled_12
  subst hsz
  have hD := hD0.self (sz := s.heap.size)
  generalize hAe : va_A [(h, .inr (12, [.int v0, .ref m1, .ref m2, .ref m3, .ref m4, .ref m5, .ref m6, .ref m7, .ref m8, .ref m9, .int v10, .int v11, .int v12, .int v13, .int v14, .long v15, .int v16, .int v17, .int v18, .ref m19, .ref m20, .int v21, .int v22, .int v23, .int v24, .int v25, .int v26, .ref m27, .int v28, .ref m29, .ref m30, .ref m31, .ref m32, .int v33, .ref m34, .int v35, .ref m36, .ref m37, .ref m38, .ref m39, .ref m40, .int v41, .ref m42, .ref m43, .ref m44])), (m5, .inl (k 0, 16, .inl (fun _ => 0)))] s.heap.size = A at hD ⊢
  have hA : ∀ q : Nat, s.heap.size ≤ q → A q := fun q h => by rw [← hAe]; exact Or.inr h
  have hS : va_S A s.heap s.heap [] := va_S.rf
  have hP : va_P (dC, dI) vwCl [(h, .inr (12, [.int v0, .ref m1, .ref m2, .ref m3, .ref m4, .ref m5, .ref m6, .ref m7, .ref m8, .ref m9, .int v10, .int v11, .int v12, .int v13, .int v14, .long v15, .int v16, .int v17, .int v18, .ref m19, .ref m20, .int v21, .int v22, .int v23, .int v24, .int v25, .int v26, .ref m27, .int v28, .ref m29, .ref m30, .ref m31, .ref m32, .int v33, .ref m34, .int v35, .ref m36, .ref m37, .ref m38, .ref m39, .ref m40, .int v41, .ref m42, .ref m43, .ref m44])), (m5, .inl (k 0, 16, .inl (fun _ => 0)))] s.heap := hP
  have hl := lv_entry ([.ref h, .int p0, .int p1, .int p2]) (n := 9) (Nat.le_of_ble_eq_true rfl)
  rw [lg_entry_eq]
  generalize (lg_sl ([.ref h, .int p0, .int p1, .int p2]) ++ List.replicate (9 - (lg_sl ([.ref h, .int p0, .int p1, .int p2])).length) Slot.unset).toArray = ls at hl ⊢
  have hl : lv_has ls 9 [(0, .ref h), (1, .int p0), (2, .int p1), (3, .int p2)] := hl
  refine lv_aload_n hx hb dX12_settled_0 rfl (lv_at hl 0 rfl) ?_
  refine lv_iconst (v := 0) hx hb dX12_settled_1 (by decide) ?_
  refine va_put (D := (dC, dI)) (ci := 12) (v := .int 0) (ty := .int) (C := RX12) (T := TX12) (N := 45) hx hb hts hi12 tyX12 tyX12_ok nmX12 hown hK hP hD hS 0 rfl rfl 0 (by decide) (hts (.fieldLink RX12 88 "HeightFineModel" "code" "I") (by decide +kernel)) (fun _ h9 => h9) rfl (by decide +kernel) rfl rfl (Nat.le_of_ble_eq_true rfl) dX12_settled_2 (fun H locs hP hD hS => ?_)
  have hP : va_P (dC, dI) vwCl [(h, .inr (12, [.int 0, .ref m1, .ref m2, .ref m3, .ref m4, .ref m5, .ref m6, .ref m7, .ref m8, .ref m9, .int v10, .int v11, .int v12, .int v13, .int v14, .long v15, .int v16, .int v17, .int v18, .ref m19, .ref m20, .int v21, .int v22, .int v23, .int v24, .int v25, .int v26, .ref m27, .int v28, .ref m29, .ref m30, .ref m31, .ref m32, .int v33, .ref m34, .int v35, .ref m36, .ref m37, .ref m38, .ref m39, .ref m40, .int v41, .ref m42, .ref m43, .ref m44])), (m5, .inl (k 0, 16, .inl (fun _ => 0)))] H := hP
  have hD : va_D A [(h, .inr (12, [.int 0, .ref m1, .ref m2, .ref m3, .ref m4, .ref m5, .ref m6, .ref m7, .ref m8, .ref m9, .int v10, .int v11, .int v12, .int v13, .int v14, .long v15, .int v16, .int v17, .int v18, .ref m19, .ref m20, .int v21, .int v22, .int v23, .int v24, .int v25, .int v26, .ref m27, .int v28, .ref m29, .ref m30, .ref m31, .ref m32, .int v33, .ref m34, .int v35, .ref m36, .ref m37, .ref m38, .ref m39, .ref m40, .int v41, .ref m42, .ref m43, .ref m44])), (m5, .inl (k 0, 16, .inl (fun _ => 0)))] := hD
  refine lv_aload_n hx hb dX12_settled_5 rfl (lv_at hl 0 rfl) ?_
  refine lv_iload_n hx hb dX12_settled_6 rfl (lv_at hl 1 rfl) ?_
  refine lv_iload_n hx hb dX12_settled_7 rfl (lv_at hl 2 rfl) ?_
  have hPc := hP.sub (ws' := [(h, .inr (12, [.int 0, .ref m1, .ref m2, .ref m3, .ref m4, .ref m5, .ref m6, .ref m7, .ref m8, .ref m9, .int v10, .int v11, .int v12, .int v13, .int v14, .long v15, .int v16, .int v17, .int v18, .ref m19, .ref m20, .int v21, .int v22, .int v23, .int v24, .int v25, .int v26, .ref m27, .int v28, .ref m29, .ref m30, .ref m31, .ref m32, .int v33, .ref m34, .int v35, .ref m36, .ref m37, .ref m38, .ref m39, .ref m40, .int v41, .ref m42, .ref m43, .ref m44])), (m5, .inl (k 0, 16, .inl (fun _ => 0)))]) [0, 1] rfl
  have hDc := hD.sub (ws' := [(h, .inr (12, [.int 0, .ref m1, .ref m2, .ref m3, .ref m4, .ref m5, .ref m6, .ref m7, .ref m8, .ref m9, .int v10, .int v11, .int v12, .int v13, .int v14, .long v15, .int v16, .int v17, .int v18, .ref m19, .ref m20, .int v21, .int v22, .int v23, .int v24, .int v25, .int v26, .ref m27, .int v28, .ref m29, .ref m30, .ref m31, .ref m32, .int v33, .ref m34, .int v35, .ref m36, .ref m37, .ref m38, .ref m39, .ref m40, .int v41, .ref m42, .ref m43, .ref m44])), (m5, .inl (k 0, 16, .inl (fun _ => 0)))]) [0, 1] (by decide) rfl
  have hFc := va_free (wc := [(h, .inr (12, [.int 0, .ref m1, .ref m2, .ref m3, .ref m4, .ref m5, .ref m6, .ref m7, .ref m8, .ref m9, .int v10, .int v11, .int v12, .int v13, .int v14, .long v15, .int v16, .int v17, .int v18, .ref m19, .ref m20, .int v21, .int v22, .int v23, .int v24, .int v25, .int v26, .ref m27, .int v28, .ref m29, .ref m30, .ref m31, .ref m32, .int v33, .ref m34, .int v35, .ref m36, .ref m37, .ref m38, .ref m39, .ref m40, .int v41, .ref m42, .ref m43, .ref m44])), (m5, .inl (k 0, 16, .inl (fun _ => 0)))]) hD hS hA [0, 1] rfl
  refine va_calli (va_runV (As := [.int p0, .int p1]) (rest := []) ⟨hx, hb, hml, hown, hts⟩ (m_layAll l dC dI k h 0 m1 m2 m3 m4 m5 m6 m7 m8 m9 v10 v11 v12 v13 v14 v15 v16 v17 v18 m19 m20 v21 v22 v23 v24 v25 v26 m27 v28 m29 m30 m31 m32 v33 m34 v35 m36 m37 m38 m39 m40 v41 m42 m43 m44 p0 p1 H.size) (cwV 2 hts gm_settled_m_layAll rfl rfl rfl (by decide +kernel) ⟨Nat.le_of_ble_eq_true rfl, Nat.le_of_ble_eq_true rfl⟩) ⟨prW_blind, va_recv hK hPc (ci := 12) (q0 := 0) rfl rfl, fun U hU hW => ⟨rfl, prW_go hPc hDc hK hU hW⟩⟩ rfl rfl hl.1 rfl (lv_room (Nat.le_of_ble_eq_true rfl)) dX12_settled_8 ⟨by decide +kernel, by decide +kernel⟩) hS (fun q _ h => hFc q h) hFc (fun r_1 u t H1 locs ht hvm hw hB hz1 hk1 hS => ?_)
  obtain ⟨hP1, hD1⟩ := hB
  rw [ht] at hP1
  obtain ⟨hP, hD⟩ := va_join (wr := []) (w1 := []) hP hD [0, 1] [] rfl rfl (by decide) (by decide) hk1 hFc hP1 hD1
  clear hk1 hz1 ht hPc hDc hP1 hD1 hvm
  generalize H1 = H at hP hS ⊢
  have hP : va_P (dC, dI) vwCl [] H := hP
  have hD : va_D A [] := hD
  have hw : r_1 = 0 := hw
  subst hw
  refine lv_if_eq (tgt := 35) hx hb dX12_settled_11 (by decide) (fun _ => ?_) (fun c_2 => absurd (by decide) c_2)
  refine lv_iconst (v := (-1)) hx hb dX12_settled_35 (by decide) ?_
  have hP9 : va_P (dC, dI) vwCl [] H := hP.sub (ws' := []) [] rfl
  have hD9 : va_D A [] := hD.sub (ws' := []) [] (by decide) rfl
  refine W.widen (k := 0) (n := 0) (by decide +kernel) (by decide +kernel) ?_
  exact W.iret (v := (-1)) hx hb hr (fun t ht hW => ⟨⟨(-1), (), rfl, rfl, by rw [ht]; exact hP9, hD9⟩, hS.F ht⟩) hS.2.2 dX12_settled_36

def ws_m_state : List Cond := .code yX12_state cX12_state 5 (some .int) :: ([.fieldLink RX12 88 "HeightFineModel" "code" "I", .methodLink RX12 351 yX12_layAll, .instanceMethod yX12_layAll, .selects RX12 yX12_layAll yX12_layAll, .initialized RX12, .code yX12_layAll cX12_layAll 3 (some .boolean), .methodLink RX12 315 yX12_hasYear, .instanceMethod yX12_hasYear, .selects RX12 yX12_hasYear yX12_hasYear, .code yX12_hasYear cX12_hasYear 2 (some .boolean), .fieldLink RX12 312 "HeightFineModel" "year" "I", .methodLink RX12 287 yX12_is, .instanceMethod yX12_is, .selects RX12 yX12_is yX12_is, .code yX12_is cX12_is 3 (some .boolean), .fieldLink RX12 23 "HeightFineModel" "many" "[I", .methodLink RX12 100 yX12_in, .static yX12_in, .code yX12_in cX12_in 3 (some .boolean)] ++ u_ws RX12 TX12 45)
set_option maxRecDepth 20000 in
theorem in_m_state_12 : ∀ w ∈ u_ws RX12 TX12 45, w ∈ ws_m_state := by decide +kernel
set_option maxRecDepth 20000 in
theorem gm_state_m_layAll : GoodIn ws_m_state (wsV RX12 351 RX12 yX12_layAll ws_m_layAll) := goodIn_app (goodIn_of _ (by decide +kernel)) (goodIn_r _ [6, 7, 8, 9, 5, 10, 11, 12, 13, 14, 15, 16, 17, 18, 19, 20, 21, 22, 23, 24, 25, 26, 27, 28, 29, 30, 31, 32, 33, 34, 35, 36, 37, 38, 39, 40, 41, 42, 43, 44, 45, 46, 47, 48, 49, 50, 51, 52, 53, 54, 55, 56, 57, 58, 59, 60, 61, 62, 63, 64] (by decide +kernel) (by decide +kernel))
set_option maxHeartbeats 4000000 in
set_option maxRecDepth 100000 in
theorem m_state (l : Launch) (dC : Nat → ClassId) (dI : Nat → Nat → Nat) (k : Nat → ClassId) (h : Nat) (v0 : Int32) (m1 : Nat) (m2 : Nat) (m3 : Nat) (m4 : Nat) (m5 : Nat) (m6 : Nat) (m7 : Nat) (m8 : Nat) (m9 : Nat) (v10 : Int32) (v11 : Int32) (v12 : Int32) (v13 : Int32) (v14 : Int32) (v15 : Int64) (v16 : Int32) (v17 : Int32) (v18 : Int32) (m19 : Nat) (m20 : Nat) (v21 : Int32) (v22 : Int32) (v23 : Int32) (v24 : Int32) (v25 : Int32) (v26 : Int32) (m27 : Nat) (v28 : Int32) (m29 : Nat) (m30 : Nat) (m31 : Nat) (m32 : Nat) (v33 : Int32) (m34 : Nat) (v35 : Int32) (m36 : Nat) (m37 : Nat) (m38 : Nat) (m39 : Nat) (m40 : Nat) (v41 : Int32) (m42 : Nat) (m43 : Nat) (m44 : Nat) (p0 : Int32) (p1 : Int32) (p2 : Int32) (p3 : Int32) (sz : Nat) : Met l yX12_state ws_m_state ({ frames := 4, cells := 0, slots := 0, locals := 87 }) (va_Pc [.ref h, .int p0, .int p1, .int p2, .int p3] (prW dC dI k [(h, .inr (12, [.int v0, .ref m1, .ref m2, .ref m3, .ref m4, .ref m5, .ref m6, .ref m7, .ref m8, .ref m9, .int v10, .int v11, .int v12, .int v13, .int v14, .long v15, .int v16, .int v17, .int v18, .ref m19, .ref m20, .int v21, .int v22, .int v23, .int v24, .int v25, .int v26, .ref m27, .int v28, .ref m29, .ref m30, .ref m31, .ref m32, .int v33, .ref m34, .int v35, .ref m36, .ref m37, .ref m38, .ref m39, .ref m40, .int v41, .ref m42, .ref m43, .ref m44])), (m5, .inl (k 0, 16, .inl (fun _ => 0)))] sz)) (va_Qi (fun (r : Int32) (_ : Unit) => r = (-2)) (fun (u : Unit) (t : State) => po (dC, dI) (va_A [(h, .inr (12, [.int v0, .ref m1, .ref m2, .ref m3, .ref m4, .ref m5, .ref m6, .ref m7, .ref m8, .ref m9, .int v10, .int v11, .int v12, .int v13, .int v14, .long v15, .int v16, .int v17, .int v18, .ref m19, .ref m20, .int v21, .int v22, .int v23, .int v24, .int v25, .int v26, .ref m27, .int v28, .ref m29, .ref m30, .ref m31, .ref m32, .int v33, .ref m34, .int v35, .ref m36, .ref m37, .ref m38, .ref m39, .ref m40, .int v41, .ref m42, .ref m43, .ref m44])), (m5, .inl (k 0, 16, .inl (fun _ => 0)))] sz) [] t) (va_A [(h, .inr (12, [.int v0, .ref m1, .ref m2, .ref m3, .ref m4, .ref m5, .ref m6, .ref m7, .ref m8, .ref m9, .int v10, .int v11, .int v12, .int v13, .int v14, .long v15, .int v16, .int v17, .int v18, .ref m19, .ref m20, .int v21, .int v22, .int v23, .int v24, .int v25, .int v26, .ref m27, .int v28, .ref m29, .ref m30, .ref m31, .ref m32, .int v33, .ref m34, .int v35, .ref m36, .ref m37, .ref m38, .ref m39, .ref m40, .int v41, .ref m42, .ref m43, .ref m44])), (m5, .inl (k 0, 16, .inl (fun _ => 0)))] sz)) 0 0 (va_A [(h, .inr (12, [.int v0, .ref m1, .ref m2, .ref m3, .ref m4, .ref m5, .ref m6, .ref m7, .ref m8, .ref m9, .int v10, .int v11, .int v12, .int v13, .int v14, .long v15, .int v16, .int v17, .int v18, .ref m19, .ref m20, .int v21, .int v22, .int v23, .int v24, .int v25, .int v26, .ref m27, .int v28, .ref m29, .ref m30, .ref m31, .ref m32, .int v33, .ref m34, .int v35, .ref m36, .ref m37, .ref m38, .ref m39, .ref m40, .int v41, .ref m42, .ref m43, .ref m44])), (m5, .inl (k 0, 16, .inl (fun _ => 0)))] sz) := by
  refine Met.ofW (cc := cX12_state) (maxL := 5) (ret := (some .int)) (by decide) rfl ?_
  intro p e s m args below meth c s₁ B hml hv
  obtain ⟨rfl, hsz, hP, hK, hD0⟩ := hv
  have hx := B.exec
  have hb := B.bytes
  have hr := B.returns
  have hts := atoms_spec (ws := ws_m_state) B.pre
  have hown : s.vm.findClass RX12 = some m.cls := findClass_of_methodNamed B.named
  have hi12 := in_m_state_12
  subst hsz
  have hD := hD0.self (sz := s.heap.size)
  generalize hAe : va_A [(h, .inr (12, [.int v0, .ref m1, .ref m2, .ref m3, .ref m4, .ref m5, .ref m6, .ref m7, .ref m8, .ref m9, .int v10, .int v11, .int v12, .int v13, .int v14, .long v15, .int v16, .int v17, .int v18, .ref m19, .ref m20, .int v21, .int v22, .int v23, .int v24, .int v25, .int v26, .ref m27, .int v28, .ref m29, .ref m30, .ref m31, .ref m32, .int v33, .ref m34, .int v35, .ref m36, .ref m37, .ref m38, .ref m39, .ref m40, .int v41, .ref m42, .ref m43, .ref m44])), (m5, .inl (k 0, 16, .inl (fun _ => 0)))] s.heap.size = A at hD ⊢
  have hA : ∀ q : Nat, s.heap.size ≤ q → A q := fun q h => by rw [← hAe]; exact Or.inr h
  have hS : va_S A s.heap s.heap [] := va_S.rf
  have hP : va_P (dC, dI) vwCl [(h, .inr (12, [.int v0, .ref m1, .ref m2, .ref m3, .ref m4, .ref m5, .ref m6, .ref m7, .ref m8, .ref m9, .int v10, .int v11, .int v12, .int v13, .int v14, .long v15, .int v16, .int v17, .int v18, .ref m19, .ref m20, .int v21, .int v22, .int v23, .int v24, .int v25, .int v26, .ref m27, .int v28, .ref m29, .ref m30, .ref m31, .ref m32, .int v33, .ref m34, .int v35, .ref m36, .ref m37, .ref m38, .ref m39, .ref m40, .int v41, .ref m42, .ref m43, .ref m44])), (m5, .inl (k 0, 16, .inl (fun _ => 0)))] s.heap := hP
  have hl := lv_entry ([.ref h, .int p0, .int p1, .int p2, .int p3]) (n := 5) (Nat.le_of_ble_eq_true rfl)
  rw [lg_entry_eq]
  generalize (lg_sl ([.ref h, .int p0, .int p1, .int p2, .int p3]) ++ List.replicate (5 - (lg_sl ([.ref h, .int p0, .int p1, .int p2, .int p3])).length) Slot.unset).toArray = ls at hl ⊢
  have hl : lv_has ls 5 [(0, .ref h), (1, .int p0), (2, .int p1), (3, .int p2), (4, .int p3)] := hl
  refine lv_aload_n hx hb dX12_state_0 rfl (lv_at hl 0 rfl) ?_
  refine lv_iconst (v := 0) hx hb dX12_state_1 (by decide) ?_
  refine va_put (D := (dC, dI)) (ci := 12) (v := .int 0) (ty := .int) (C := RX12) (T := TX12) (N := 45) hx hb hts hi12 tyX12 tyX12_ok nmX12 hown hK hP hD hS 0 rfl rfl 0 (by decide) (hts (.fieldLink RX12 88 "HeightFineModel" "code" "I") (by decide +kernel)) (fun _ h9 => h9) rfl (by decide +kernel) rfl rfl (Nat.le_of_ble_eq_true rfl) dX12_state_2 (fun H locs hP hD hS => ?_)
  have hP : va_P (dC, dI) vwCl [(h, .inr (12, [.int 0, .ref m1, .ref m2, .ref m3, .ref m4, .ref m5, .ref m6, .ref m7, .ref m8, .ref m9, .int v10, .int v11, .int v12, .int v13, .int v14, .long v15, .int v16, .int v17, .int v18, .ref m19, .ref m20, .int v21, .int v22, .int v23, .int v24, .int v25, .int v26, .ref m27, .int v28, .ref m29, .ref m30, .ref m31, .ref m32, .int v33, .ref m34, .int v35, .ref m36, .ref m37, .ref m38, .ref m39, .ref m40, .int v41, .ref m42, .ref m43, .ref m44])), (m5, .inl (k 0, 16, .inl (fun _ => 0)))] H := hP
  have hD : va_D A [(h, .inr (12, [.int 0, .ref m1, .ref m2, .ref m3, .ref m4, .ref m5, .ref m6, .ref m7, .ref m8, .ref m9, .int v10, .int v11, .int v12, .int v13, .int v14, .long v15, .int v16, .int v17, .int v18, .ref m19, .ref m20, .int v21, .int v22, .int v23, .int v24, .int v25, .int v26, .ref m27, .int v28, .ref m29, .ref m30, .ref m31, .ref m32, .int v33, .ref m34, .int v35, .ref m36, .ref m37, .ref m38, .ref m39, .ref m40, .int v41, .ref m42, .ref m43, .ref m44])), (m5, .inl (k 0, 16, .inl (fun _ => 0)))] := hD
  refine lv_aload_n hx hb dX12_state_5 rfl (lv_at hl 0 rfl) ?_
  refine lv_iload_n hx hb dX12_state_6 rfl (lv_at hl 1 rfl) ?_
  refine lv_iload_n hx hb dX12_state_7 rfl (lv_at hl 2 rfl) ?_
  have hPc := hP.sub (ws' := [(h, .inr (12, [.int 0, .ref m1, .ref m2, .ref m3, .ref m4, .ref m5, .ref m6, .ref m7, .ref m8, .ref m9, .int v10, .int v11, .int v12, .int v13, .int v14, .long v15, .int v16, .int v17, .int v18, .ref m19, .ref m20, .int v21, .int v22, .int v23, .int v24, .int v25, .int v26, .ref m27, .int v28, .ref m29, .ref m30, .ref m31, .ref m32, .int v33, .ref m34, .int v35, .ref m36, .ref m37, .ref m38, .ref m39, .ref m40, .int v41, .ref m42, .ref m43, .ref m44])), (m5, .inl (k 0, 16, .inl (fun _ => 0)))]) [0, 1] rfl
  have hDc := hD.sub (ws' := [(h, .inr (12, [.int 0, .ref m1, .ref m2, .ref m3, .ref m4, .ref m5, .ref m6, .ref m7, .ref m8, .ref m9, .int v10, .int v11, .int v12, .int v13, .int v14, .long v15, .int v16, .int v17, .int v18, .ref m19, .ref m20, .int v21, .int v22, .int v23, .int v24, .int v25, .int v26, .ref m27, .int v28, .ref m29, .ref m30, .ref m31, .ref m32, .int v33, .ref m34, .int v35, .ref m36, .ref m37, .ref m38, .ref m39, .ref m40, .int v41, .ref m42, .ref m43, .ref m44])), (m5, .inl (k 0, 16, .inl (fun _ => 0)))]) [0, 1] (by decide) rfl
  have hFc := va_free (wc := [(h, .inr (12, [.int 0, .ref m1, .ref m2, .ref m3, .ref m4, .ref m5, .ref m6, .ref m7, .ref m8, .ref m9, .int v10, .int v11, .int v12, .int v13, .int v14, .long v15, .int v16, .int v17, .int v18, .ref m19, .ref m20, .int v21, .int v22, .int v23, .int v24, .int v25, .int v26, .ref m27, .int v28, .ref m29, .ref m30, .ref m31, .ref m32, .int v33, .ref m34, .int v35, .ref m36, .ref m37, .ref m38, .ref m39, .ref m40, .int v41, .ref m42, .ref m43, .ref m44])), (m5, .inl (k 0, 16, .inl (fun _ => 0)))]) hD hS hA [0, 1] rfl
  refine va_calli (va_runV (As := [.int p0, .int p1]) (rest := []) ⟨hx, hb, hml, hown, hts⟩ (m_layAll l dC dI k h 0 m1 m2 m3 m4 m5 m6 m7 m8 m9 v10 v11 v12 v13 v14 v15 v16 v17 v18 m19 m20 v21 v22 v23 v24 v25 v26 m27 v28 m29 m30 m31 m32 v33 m34 v35 m36 m37 m38 m39 m40 v41 m42 m43 m44 p0 p1 H.size) (cwV 2 hts gm_state_m_layAll rfl rfl rfl (by decide +kernel) ⟨Nat.le_of_ble_eq_true rfl, Nat.le_of_ble_eq_true rfl⟩) ⟨prW_blind, va_recv hK hPc (ci := 12) (q0 := 0) rfl rfl, fun U hU hW => ⟨rfl, prW_go hPc hDc hK hU hW⟩⟩ rfl rfl hl.1 rfl (lv_room (Nat.le_of_ble_eq_true rfl)) dX12_state_8 ⟨by decide +kernel, by decide +kernel⟩) hS (fun q _ h => hFc q h) hFc (fun r_1 u t H1 locs ht hvm hw hB hz1 hk1 hS => ?_)
  obtain ⟨hP1, hD1⟩ := hB
  rw [ht] at hP1
  obtain ⟨hP, hD⟩ := va_join (wr := []) (w1 := []) hP hD [0, 1] [] rfl rfl (by decide) (by decide) hk1 hFc hP1 hD1
  clear hk1 hz1 ht hPc hDc hP1 hD1 hvm
  generalize H1 = H at hP hS ⊢
  have hP : va_P (dC, dI) vwCl [] H := hP
  have hD : va_D A [] := hD
  have hw : r_1 = 0 := hw
  subst hw
  refine lv_if_eq (tgt := 44) hx hb dX12_state_11 (by decide) (fun _ => ?_) (fun c_2 => absurd (by decide) c_2)
  refine lv_bipush (v := (-2)) hx hb dX12_state_44 (by decide) ?_
  have hP9 : va_P (dC, dI) vwCl [] H := hP.sub (ws' := []) [] rfl
  have hD9 : va_D A [] := hD.sub (ws' := []) [] (by decide) rfl
  refine W.widen (k := 0) (n := 0) (by decide +kernel) (by decide +kernel) ?_
  exact W.iret (v := (-2)) hx hb hr (fun t ht hW => ⟨⟨(-2), (), rfl, rfl, by rw [ht]; exact hP9, hD9⟩, hS.F ht⟩) hS.2.2 dX12_state_46

def ws_m_rows : List Cond := .code yX12_rows cX12_rows 6 (some .long) :: ([.fieldLink RX12 88 "HeightFineModel" "code" "I", .methodLink RX12 478 yX12_laySight, .instanceMethod yX12_laySight, .selects RX12 yX12_laySight yX12_laySight, .initialized RX12, .code yX12_laySight cX12_laySight 5 (some .boolean), .methodLink RX12 100 yX12_in, .static yX12_in, .code yX12_in cX12_in 3 (some .boolean), .methodLink RX12 459 yX12_hasSight, .instanceMethod yX12_hasSight, .selects RX12 yX12_hasSight yX12_hasSight, .code yX12_hasSight cX12_hasSight 2 (some .boolean), .fieldLink RX12 456 "HeightFineModel" "sight" "I", .methodLink RX12 287 yX12_is, .instanceMethod yX12_is, .selects RX12 yX12_is yX12_is, .code yX12_is cX12_is 3 (some .boolean), .fieldLink RX12 23 "HeightFineModel" "many" "[I", .constantLong RX12 481 (-1)] ++ u_ws RX12 TX12 45)
set_option maxRecDepth 20000 in
theorem in_m_rows_12 : ∀ w ∈ u_ws RX12 TX12 45, w ∈ ws_m_rows := by decide +kernel
set_option maxRecDepth 20000 in
theorem gm_rows_m_laySight : GoodIn ws_m_rows (wsV RX12 478 RX12 yX12_laySight ws_m_laySight) := goodIn_app (goodIn_of _ (by decide +kernel)) (goodIn_r _ [6, 7, 8, 5, 9, 10, 11, 12, 13, 14, 15, 16, 17, 18, 19, 21, 22, 23, 24, 25, 26, 27, 28, 29, 30, 31, 32, 33, 34, 35, 36, 37, 38, 39, 40, 41, 42, 43, 44, 45, 46, 47, 48, 49, 50, 51, 52, 53, 54, 55, 56, 57, 58, 59, 60, 61, 62, 63, 64, 65] (by decide +kernel) (by decide +kernel))
set_option maxHeartbeats 4000000 in
set_option maxRecDepth 100000 in
theorem m_rows (l : Launch) (dC : Nat → ClassId) (dI : Nat → Nat → Nat) (k : Nat → ClassId) (h : Nat) (v0 : Int32) (m1 : Nat) (m2 : Nat) (m3 : Nat) (m4 : Nat) (m5 : Nat) (m6 : Nat) (m7 : Nat) (m8 : Nat) (m9 : Nat) (v10 : Int32) (v11 : Int32) (v12 : Int32) (v13 : Int32) (v14 : Int32) (v15 : Int64) (v16 : Int32) (v17 : Int32) (v18 : Int32) (m19 : Nat) (m20 : Nat) (v21 : Int32) (v22 : Int32) (v23 : Int32) (v24 : Int32) (v25 : Int32) (v26 : Int32) (m27 : Nat) (v28 : Int32) (m29 : Nat) (m30 : Nat) (m31 : Nat) (m32 : Nat) (v33 : Int32) (m34 : Nat) (v35 : Int32) (m36 : Nat) (m37 : Nat) (m38 : Nat) (m39 : Nat) (m40 : Nat) (v41 : Int32) (m42 : Nat) (m43 : Nat) (m44 : Nat) (p0 : Int32) (p1 : Int32) (p2 : Int32) (p3 : Int32) (p4 : Int32) (sz : Nat) : Met l yX12_rows ws_m_rows ({ frames := 4, cells := 0, slots := 0, locals := 89 }) (va_Pc [.ref h, .int p0, .int p1, .int p2, .int p3, .int p4] (prW dC dI k [(h, .inr (12, [.int v0, .ref m1, .ref m2, .ref m3, .ref m4, .ref m5, .ref m6, .ref m7, .ref m8, .ref m9, .int v10, .int v11, .int v12, .int v13, .int v14, .long v15, .int v16, .int v17, .int v18, .ref m19, .ref m20, .int v21, .int v22, .int v23, .int v24, .int v25, .int v26, .ref m27, .int v28, .ref m29, .ref m30, .ref m31, .ref m32, .int v33, .ref m34, .int v35, .ref m36, .ref m37, .ref m38, .ref m39, .ref m40, .int v41, .ref m42, .ref m43, .ref m44])), (m5, .inl (k 0, 16, .inl (fun _ => 0)))] sz)) (va_Ql (fun (r : Int64) (_ : Unit) => r = (-1)) (fun (u : Unit) (t : State) => po (dC, dI) (va_A [(h, .inr (12, [.int v0, .ref m1, .ref m2, .ref m3, .ref m4, .ref m5, .ref m6, .ref m7, .ref m8, .ref m9, .int v10, .int v11, .int v12, .int v13, .int v14, .long v15, .int v16, .int v17, .int v18, .ref m19, .ref m20, .int v21, .int v22, .int v23, .int v24, .int v25, .int v26, .ref m27, .int v28, .ref m29, .ref m30, .ref m31, .ref m32, .int v33, .ref m34, .int v35, .ref m36, .ref m37, .ref m38, .ref m39, .ref m40, .int v41, .ref m42, .ref m43, .ref m44])), (m5, .inl (k 0, 16, .inl (fun _ => 0)))] sz) [] t) (va_A [(h, .inr (12, [.int v0, .ref m1, .ref m2, .ref m3, .ref m4, .ref m5, .ref m6, .ref m7, .ref m8, .ref m9, .int v10, .int v11, .int v12, .int v13, .int v14, .long v15, .int v16, .int v17, .int v18, .ref m19, .ref m20, .int v21, .int v22, .int v23, .int v24, .int v25, .int v26, .ref m27, .int v28, .ref m29, .ref m30, .ref m31, .ref m32, .int v33, .ref m34, .int v35, .ref m36, .ref m37, .ref m38, .ref m39, .ref m40, .int v41, .ref m42, .ref m43, .ref m44])), (m5, .inl (k 0, 16, .inl (fun _ => 0)))] sz)) 0 0 (va_A [(h, .inr (12, [.int v0, .ref m1, .ref m2, .ref m3, .ref m4, .ref m5, .ref m6, .ref m7, .ref m8, .ref m9, .int v10, .int v11, .int v12, .int v13, .int v14, .long v15, .int v16, .int v17, .int v18, .ref m19, .ref m20, .int v21, .int v22, .int v23, .int v24, .int v25, .int v26, .ref m27, .int v28, .ref m29, .ref m30, .ref m31, .ref m32, .int v33, .ref m34, .int v35, .ref m36, .ref m37, .ref m38, .ref m39, .ref m40, .int v41, .ref m42, .ref m43, .ref m44])), (m5, .inl (k 0, 16, .inl (fun _ => 0)))] sz) := by
  refine Met.ofW (cc := cX12_rows) (maxL := 6) (ret := (some .long)) (by decide) rfl ?_
  intro p e s m args below meth c s₁ B hml hv
  obtain ⟨rfl, hsz, hP, hK, hD0⟩ := hv
  have hx := B.exec
  have hb := B.bytes
  have hr := B.returns
  have hts := atoms_spec (ws := ws_m_rows) B.pre
  have hown : s.vm.findClass RX12 = some m.cls := findClass_of_methodNamed B.named
  have hi12 := in_m_rows_12
  subst hsz
  have hD := hD0.self (sz := s.heap.size)
  generalize hAe : va_A [(h, .inr (12, [.int v0, .ref m1, .ref m2, .ref m3, .ref m4, .ref m5, .ref m6, .ref m7, .ref m8, .ref m9, .int v10, .int v11, .int v12, .int v13, .int v14, .long v15, .int v16, .int v17, .int v18, .ref m19, .ref m20, .int v21, .int v22, .int v23, .int v24, .int v25, .int v26, .ref m27, .int v28, .ref m29, .ref m30, .ref m31, .ref m32, .int v33, .ref m34, .int v35, .ref m36, .ref m37, .ref m38, .ref m39, .ref m40, .int v41, .ref m42, .ref m43, .ref m44])), (m5, .inl (k 0, 16, .inl (fun _ => 0)))] s.heap.size = A at hD ⊢
  have hA : ∀ q : Nat, s.heap.size ≤ q → A q := fun q h => by rw [← hAe]; exact Or.inr h
  have hS : va_S A s.heap s.heap [] := va_S.rf
  have hP : va_P (dC, dI) vwCl [(h, .inr (12, [.int v0, .ref m1, .ref m2, .ref m3, .ref m4, .ref m5, .ref m6, .ref m7, .ref m8, .ref m9, .int v10, .int v11, .int v12, .int v13, .int v14, .long v15, .int v16, .int v17, .int v18, .ref m19, .ref m20, .int v21, .int v22, .int v23, .int v24, .int v25, .int v26, .ref m27, .int v28, .ref m29, .ref m30, .ref m31, .ref m32, .int v33, .ref m34, .int v35, .ref m36, .ref m37, .ref m38, .ref m39, .ref m40, .int v41, .ref m42, .ref m43, .ref m44])), (m5, .inl (k 0, 16, .inl (fun _ => 0)))] s.heap := hP
  have hl := lv_entry ([.ref h, .int p0, .int p1, .int p2, .int p3, .int p4]) (n := 6) (Nat.le_of_ble_eq_true rfl)
  rw [lg_entry_eq]
  generalize (lg_sl ([.ref h, .int p0, .int p1, .int p2, .int p3, .int p4]) ++ List.replicate (6 - (lg_sl ([.ref h, .int p0, .int p1, .int p2, .int p3, .int p4])).length) Slot.unset).toArray = ls at hl ⊢
  have hl : lv_has ls 6 [(0, .ref h), (1, .int p0), (2, .int p1), (3, .int p2), (4, .int p3), (5, .int p4)] := hl
  refine lv_aload_n hx hb dX12_rows_0 rfl (lv_at hl 0 rfl) ?_
  refine lv_iconst (v := 0) hx hb dX12_rows_1 (by decide) ?_
  refine va_put (D := (dC, dI)) (ci := 12) (v := .int 0) (ty := .int) (C := RX12) (T := TX12) (N := 45) hx hb hts hi12 tyX12 tyX12_ok nmX12 hown hK hP hD hS 0 rfl rfl 0 (by decide) (hts (.fieldLink RX12 88 "HeightFineModel" "code" "I") (by decide +kernel)) (fun _ h9 => h9) rfl (by decide +kernel) rfl rfl (Nat.le_of_ble_eq_true rfl) dX12_rows_2 (fun H locs hP hD hS => ?_)
  have hP : va_P (dC, dI) vwCl [(h, .inr (12, [.int 0, .ref m1, .ref m2, .ref m3, .ref m4, .ref m5, .ref m6, .ref m7, .ref m8, .ref m9, .int v10, .int v11, .int v12, .int v13, .int v14, .long v15, .int v16, .int v17, .int v18, .ref m19, .ref m20, .int v21, .int v22, .int v23, .int v24, .int v25, .int v26, .ref m27, .int v28, .ref m29, .ref m30, .ref m31, .ref m32, .int v33, .ref m34, .int v35, .ref m36, .ref m37, .ref m38, .ref m39, .ref m40, .int v41, .ref m42, .ref m43, .ref m44])), (m5, .inl (k 0, 16, .inl (fun _ => 0)))] H := hP
  have hD : va_D A [(h, .inr (12, [.int 0, .ref m1, .ref m2, .ref m3, .ref m4, .ref m5, .ref m6, .ref m7, .ref m8, .ref m9, .int v10, .int v11, .int v12, .int v13, .int v14, .long v15, .int v16, .int v17, .int v18, .ref m19, .ref m20, .int v21, .int v22, .int v23, .int v24, .int v25, .int v26, .ref m27, .int v28, .ref m29, .ref m30, .ref m31, .ref m32, .int v33, .ref m34, .int v35, .ref m36, .ref m37, .ref m38, .ref m39, .ref m40, .int v41, .ref m42, .ref m43, .ref m44])), (m5, .inl (k 0, 16, .inl (fun _ => 0)))] := hD
  refine lv_aload_n hx hb dX12_rows_5 rfl (lv_at hl 0 rfl) ?_
  refine lv_iload_n hx hb dX12_rows_6 rfl (lv_at hl 1 rfl) ?_
  refine lv_iload_n hx hb dX12_rows_7 rfl (lv_at hl 2 rfl) ?_
  refine lv_iload_n hx hb dX12_rows_8 rfl (lv_at hl 3 rfl) ?_
  have hPc := hP.sub (ws' := [(h, .inr (12, [.int 0, .ref m1, .ref m2, .ref m3, .ref m4, .ref m5, .ref m6, .ref m7, .ref m8, .ref m9, .int v10, .int v11, .int v12, .int v13, .int v14, .long v15, .int v16, .int v17, .int v18, .ref m19, .ref m20, .int v21, .int v22, .int v23, .int v24, .int v25, .int v26, .ref m27, .int v28, .ref m29, .ref m30, .ref m31, .ref m32, .int v33, .ref m34, .int v35, .ref m36, .ref m37, .ref m38, .ref m39, .ref m40, .int v41, .ref m42, .ref m43, .ref m44])), (m5, .inl (k 0, 16, .inl (fun _ => 0)))]) [0, 1] rfl
  have hDc := hD.sub (ws' := [(h, .inr (12, [.int 0, .ref m1, .ref m2, .ref m3, .ref m4, .ref m5, .ref m6, .ref m7, .ref m8, .ref m9, .int v10, .int v11, .int v12, .int v13, .int v14, .long v15, .int v16, .int v17, .int v18, .ref m19, .ref m20, .int v21, .int v22, .int v23, .int v24, .int v25, .int v26, .ref m27, .int v28, .ref m29, .ref m30, .ref m31, .ref m32, .int v33, .ref m34, .int v35, .ref m36, .ref m37, .ref m38, .ref m39, .ref m40, .int v41, .ref m42, .ref m43, .ref m44])), (m5, .inl (k 0, 16, .inl (fun _ => 0)))]) [0, 1] (by decide) rfl
  have hFc := va_free (wc := [(h, .inr (12, [.int 0, .ref m1, .ref m2, .ref m3, .ref m4, .ref m5, .ref m6, .ref m7, .ref m8, .ref m9, .int v10, .int v11, .int v12, .int v13, .int v14, .long v15, .int v16, .int v17, .int v18, .ref m19, .ref m20, .int v21, .int v22, .int v23, .int v24, .int v25, .int v26, .ref m27, .int v28, .ref m29, .ref m30, .ref m31, .ref m32, .int v33, .ref m34, .int v35, .ref m36, .ref m37, .ref m38, .ref m39, .ref m40, .int v41, .ref m42, .ref m43, .ref m44])), (m5, .inl (k 0, 16, .inl (fun _ => 0)))]) hD hS hA [0, 1] rfl
  refine va_calli (va_runV (As := [.int p0, .int p1, .int p2]) (rest := []) ⟨hx, hb, hml, hown, hts⟩ (m_laySight l dC dI k h 0 m1 m2 m3 m4 m5 m6 m7 m8 m9 v10 v11 v12 v13 v14 v15 v16 v17 v18 m19 m20 v21 v22 v23 v24 v25 v26 m27 v28 m29 m30 m31 m32 v33 m34 v35 m36 m37 m38 m39 m40 v41 m42 m43 m44 p0 p1 p2 H.size) (cwV 3 hts gm_rows_m_laySight rfl rfl rfl (by decide +kernel) ⟨Nat.le_of_ble_eq_true rfl, Nat.le_of_ble_eq_true rfl⟩) ⟨prW_blind, va_recv hK hPc (ci := 12) (q0 := 0) rfl rfl, fun U hU hW => ⟨rfl, prW_go hPc hDc hK hU hW⟩⟩ rfl rfl hl.1 rfl (lv_room (Nat.le_of_ble_eq_true rfl)) dX12_rows_9 ⟨by decide +kernel, by decide +kernel⟩) hS (fun q _ h => hFc q h) hFc (fun r_1 u t H1 locs ht hvm hw hB hz1 hk1 hS => ?_)
  obtain ⟨hP1, hD1⟩ := hB
  rw [ht] at hP1
  obtain ⟨hP, hD⟩ := va_join (wr := []) (w1 := []) hP hD [0, 1] [] rfl rfl (by decide) (by decide) hk1 hFc hP1 hD1
  clear hk1 hz1 ht hPc hDc hP1 hD1 hvm
  generalize H1 = H at hP hS ⊢
  have hP : va_P (dC, dI) vwCl [] H := hP
  have hD : va_D A [] := hD
  have hw : r_1 = 0 := hw
  subst hw
  refine lv_if_eq (tgt := 40) hx hb dX12_rows_12 (by decide) (fun _ => ?_) (fun c_2 => absurd (by decide) c_2)
  refine lv_ldc2 (v := (-1)) hx hb hown (hts (.constantLong RX12 481 (-1)) (by decide +kernel)) dX12_rows_40 ?_
  have hP9 : va_P (dC, dI) vwCl [] H := hP.sub (ws' := []) [] rfl
  have hD9 : va_D A [] := hD.sub (ws' := []) [] (by decide) rfl
  refine W.widen (k := 0) (n := 0) (by decide +kernel) (by decide +kernel) ?_
  exact W.lret (v := (-1)) hx hb hr (fun t ht hW => ⟨⟨(-1), (), rfl, rfl, by rw [ht]; exact hP9, hD9⟩, hS.F ht⟩) hS.2.2 dX12_rows_43

def ws_m_views : List Cond := .code yX12_views cX12_views 7 (some .long) :: ([.fieldLink RX12 88 "HeightFineModel" "code" "I", .methodLink RX12 306 yX12_hand, .instanceMethod yX12_hand, .selects RX12 yX12_hand yX12_hand, .initialized RX12, .code yX12_hand cX12_hand 2 (some .boolean), .methodLink RX12 287 yX12_is, .instanceMethod yX12_is, .selects RX12 yX12_is yX12_is, .code yX12_is cX12_is 3 (some .boolean), .fieldLink RX12 23 "HeightFineModel" "many" "[I", .methodLink RX12 100 yX12_in, .static yX12_in, .code yX12_in cX12_in 3 (some .boolean), .constantLong RX12 481 (-1)] ++ u_ws RX12 TX12 45)
set_option maxRecDepth 20000 in
theorem in_m_views_12 : ∀ w ∈ u_ws RX12 TX12 45, w ∈ ws_m_views := by decide +kernel
set_option maxRecDepth 20000 in
theorem gm_views_m_hand : GoodIn ws_m_views (wsV RX12 306 RX12 yX12_hand ws_m_hand) := goodIn_app (goodIn_of _ (by decide +kernel)) (goodIn_r _ [6, 7, 8, 9, 5, 10, 11, 12, 13, 14, 16, 17, 18, 19, 20, 21, 22, 23, 24, 25, 26, 27, 28, 29, 30, 31, 32, 33, 34, 35, 36, 37, 38, 39, 40, 41, 42, 43, 44, 45, 46, 47, 48, 49, 50, 51, 52, 53, 54, 55, 56, 57, 58, 59, 60] (by decide +kernel) (by decide +kernel))
set_option maxHeartbeats 4000000 in
set_option maxRecDepth 100000 in
theorem m_views (l : Launch) (dC : Nat → ClassId) (dI : Nat → Nat → Nat) (k : Nat → ClassId) (h : Nat) (v0 : Int32) (m1 : Nat) (m2 : Nat) (m3 : Nat) (m4 : Nat) (m5 : Nat) (m6 : Nat) (m7 : Nat) (m8 : Nat) (m9 : Nat) (v10 : Int32) (v11 : Int32) (v12 : Int32) (v13 : Int32) (v14 : Int32) (v15 : Int64) (v16 : Int32) (v17 : Int32) (v18 : Int32) (m19 : Nat) (m20 : Nat) (v21 : Int32) (v22 : Int32) (v23 : Int32) (v24 : Int32) (v25 : Int32) (v26 : Int32) (m27 : Nat) (v28 : Int32) (m29 : Nat) (m30 : Nat) (m31 : Nat) (m32 : Nat) (v33 : Int32) (m34 : Nat) (v35 : Int32) (m36 : Nat) (m37 : Nat) (m38 : Nat) (m39 : Nat) (m40 : Nat) (v41 : Int32) (m42 : Nat) (m43 : Nat) (m44 : Nat) (p0 : Int32) (p1 : Int32) (sz : Nat) : Met l yX12_views ws_m_views ({ frames := 3, cells := 0, slots := 0, locals := 65 }) (va_Pc [.ref h, .int p0, .int p1] (prW dC dI k [(h, .inr (12, [.int v0, .ref m1, .ref m2, .ref m3, .ref m4, .ref m5, .ref m6, .ref m7, .ref m8, .ref m9, .int v10, .int v11, .int v12, .int v13, .int v14, .long v15, .int v16, .int v17, .int v18, .ref m19, .ref m20, .int v21, .int v22, .int v23, .int v24, .int v25, .int v26, .ref m27, .int v28, .ref m29, .ref m30, .ref m31, .ref m32, .int v33, .ref m34, .int v35, .ref m36, .ref m37, .ref m38, .ref m39, .ref m40, .int v41, .ref m42, .ref m43, .ref m44])), (m5, .inl (k 0, 16, .inl (fun _ => 0)))] sz)) (va_Ql (fun (r : Int64) (_ : Unit) => r = (-1)) (fun (u : Unit) (t : State) => po (dC, dI) (va_A [(h, .inr (12, [.int v0, .ref m1, .ref m2, .ref m3, .ref m4, .ref m5, .ref m6, .ref m7, .ref m8, .ref m9, .int v10, .int v11, .int v12, .int v13, .int v14, .long v15, .int v16, .int v17, .int v18, .ref m19, .ref m20, .int v21, .int v22, .int v23, .int v24, .int v25, .int v26, .ref m27, .int v28, .ref m29, .ref m30, .ref m31, .ref m32, .int v33, .ref m34, .int v35, .ref m36, .ref m37, .ref m38, .ref m39, .ref m40, .int v41, .ref m42, .ref m43, .ref m44])), (m5, .inl (k 0, 16, .inl (fun _ => 0)))] sz) [] t) (va_A [(h, .inr (12, [.int v0, .ref m1, .ref m2, .ref m3, .ref m4, .ref m5, .ref m6, .ref m7, .ref m8, .ref m9, .int v10, .int v11, .int v12, .int v13, .int v14, .long v15, .int v16, .int v17, .int v18, .ref m19, .ref m20, .int v21, .int v22, .int v23, .int v24, .int v25, .int v26, .ref m27, .int v28, .ref m29, .ref m30, .ref m31, .ref m32, .int v33, .ref m34, .int v35, .ref m36, .ref m37, .ref m38, .ref m39, .ref m40, .int v41, .ref m42, .ref m43, .ref m44])), (m5, .inl (k 0, 16, .inl (fun _ => 0)))] sz)) 0 0 (va_A [(h, .inr (12, [.int v0, .ref m1, .ref m2, .ref m3, .ref m4, .ref m5, .ref m6, .ref m7, .ref m8, .ref m9, .int v10, .int v11, .int v12, .int v13, .int v14, .long v15, .int v16, .int v17, .int v18, .ref m19, .ref m20, .int v21, .int v22, .int v23, .int v24, .int v25, .int v26, .ref m27, .int v28, .ref m29, .ref m30, .ref m31, .ref m32, .int v33, .ref m34, .int v35, .ref m36, .ref m37, .ref m38, .ref m39, .ref m40, .int v41, .ref m42, .ref m43, .ref m44])), (m5, .inl (k 0, 16, .inl (fun _ => 0)))] sz) := by
  refine Met.ofW (cc := cX12_views) (maxL := 7) (ret := (some .long)) (by decide) rfl ?_
  intro p e s m args below meth c s₁ B hml hv
  obtain ⟨rfl, hsz, hP, hK, hD0⟩ := hv
  have hx := B.exec
  have hb := B.bytes
  have hr := B.returns
  have hts := atoms_spec (ws := ws_m_views) B.pre
  have hown : s.vm.findClass RX12 = some m.cls := findClass_of_methodNamed B.named
  have hi12 := in_m_views_12
  subst hsz
  have hD := hD0.self (sz := s.heap.size)
  generalize hAe : va_A [(h, .inr (12, [.int v0, .ref m1, .ref m2, .ref m3, .ref m4, .ref m5, .ref m6, .ref m7, .ref m8, .ref m9, .int v10, .int v11, .int v12, .int v13, .int v14, .long v15, .int v16, .int v17, .int v18, .ref m19, .ref m20, .int v21, .int v22, .int v23, .int v24, .int v25, .int v26, .ref m27, .int v28, .ref m29, .ref m30, .ref m31, .ref m32, .int v33, .ref m34, .int v35, .ref m36, .ref m37, .ref m38, .ref m39, .ref m40, .int v41, .ref m42, .ref m43, .ref m44])), (m5, .inl (k 0, 16, .inl (fun _ => 0)))] s.heap.size = A at hD ⊢
  have hA : ∀ q : Nat, s.heap.size ≤ q → A q := fun q h => by rw [← hAe]; exact Or.inr h
  have hS : va_S A s.heap s.heap [] := va_S.rf
  have hP : va_P (dC, dI) vwCl [(h, .inr (12, [.int v0, .ref m1, .ref m2, .ref m3, .ref m4, .ref m5, .ref m6, .ref m7, .ref m8, .ref m9, .int v10, .int v11, .int v12, .int v13, .int v14, .long v15, .int v16, .int v17, .int v18, .ref m19, .ref m20, .int v21, .int v22, .int v23, .int v24, .int v25, .int v26, .ref m27, .int v28, .ref m29, .ref m30, .ref m31, .ref m32, .int v33, .ref m34, .int v35, .ref m36, .ref m37, .ref m38, .ref m39, .ref m40, .int v41, .ref m42, .ref m43, .ref m44])), (m5, .inl (k 0, 16, .inl (fun _ => 0)))] s.heap := hP
  have hl := lv_entry ([.ref h, .int p0, .int p1]) (n := 7) (Nat.le_of_ble_eq_true rfl)
  rw [lg_entry_eq]
  generalize (lg_sl ([.ref h, .int p0, .int p1]) ++ List.replicate (7 - (lg_sl ([.ref h, .int p0, .int p1])).length) Slot.unset).toArray = ls at hl ⊢
  have hl : lv_has ls 7 [(0, .ref h), (1, .int p0), (2, .int p1)] := hl
  refine lv_aload_n hx hb dX12_views_0 rfl (lv_at hl 0 rfl) ?_
  refine lv_iconst (v := 0) hx hb dX12_views_1 (by decide) ?_
  refine va_put (D := (dC, dI)) (ci := 12) (v := .int 0) (ty := .int) (C := RX12) (T := TX12) (N := 45) hx hb hts hi12 tyX12 tyX12_ok nmX12 hown hK hP hD hS 0 rfl rfl 0 (by decide) (hts (.fieldLink RX12 88 "HeightFineModel" "code" "I") (by decide +kernel)) (fun _ h9 => h9) rfl (by decide +kernel) rfl rfl (Nat.le_of_ble_eq_true rfl) dX12_views_2 (fun H locs hP hD hS => ?_)
  have hP : va_P (dC, dI) vwCl [(h, .inr (12, [.int 0, .ref m1, .ref m2, .ref m3, .ref m4, .ref m5, .ref m6, .ref m7, .ref m8, .ref m9, .int v10, .int v11, .int v12, .int v13, .int v14, .long v15, .int v16, .int v17, .int v18, .ref m19, .ref m20, .int v21, .int v22, .int v23, .int v24, .int v25, .int v26, .ref m27, .int v28, .ref m29, .ref m30, .ref m31, .ref m32, .int v33, .ref m34, .int v35, .ref m36, .ref m37, .ref m38, .ref m39, .ref m40, .int v41, .ref m42, .ref m43, .ref m44])), (m5, .inl (k 0, 16, .inl (fun _ => 0)))] H := hP
  have hD : va_D A [(h, .inr (12, [.int 0, .ref m1, .ref m2, .ref m3, .ref m4, .ref m5, .ref m6, .ref m7, .ref m8, .ref m9, .int v10, .int v11, .int v12, .int v13, .int v14, .long v15, .int v16, .int v17, .int v18, .ref m19, .ref m20, .int v21, .int v22, .int v23, .int v24, .int v25, .int v26, .ref m27, .int v28, .ref m29, .ref m30, .ref m31, .ref m32, .int v33, .ref m34, .int v35, .ref m36, .ref m37, .ref m38, .ref m39, .ref m40, .int v41, .ref m42, .ref m43, .ref m44])), (m5, .inl (k 0, 16, .inl (fun _ => 0)))] := hD
  refine lv_aload_n hx hb dX12_views_5 rfl (lv_at hl 0 rfl) ?_
  refine lv_iload_n hx hb dX12_views_6 rfl (lv_at hl 1 rfl) ?_
  have hPc := hP.sub (ws' := [(h, .inr (12, [.int 0, .ref m1, .ref m2, .ref m3, .ref m4, .ref m5, .ref m6, .ref m7, .ref m8, .ref m9, .int v10, .int v11, .int v12, .int v13, .int v14, .long v15, .int v16, .int v17, .int v18, .ref m19, .ref m20, .int v21, .int v22, .int v23, .int v24, .int v25, .int v26, .ref m27, .int v28, .ref m29, .ref m30, .ref m31, .ref m32, .int v33, .ref m34, .int v35, .ref m36, .ref m37, .ref m38, .ref m39, .ref m40, .int v41, .ref m42, .ref m43, .ref m44])), (m5, .inl (k 0, 16, .inl (fun _ => 0)))]) [0, 1] rfl
  refine vp_callSi (W.runV (As := [.int p0]) (rest := []) ⟨hx, hb, hml, hown, hts⟩ (m_hand l dC dI k h 0 m1 m2 m3 m4 m5 m6 m7 m8 m9 v10 v11 v12 v13 v14 v15 v16 v17 v18 m19 m20 v21 v22 v23 v24 v25 v26 m27 v28 m29 m30 m31 m32 v33 m34 v35 m36 m37 m38 m39 m40 v41 m42 m43 m44 p0) (cwV 1 hts gm_views_m_hand rfl rfl rfl (by decide +kernel) ⟨Nat.le_of_ble_eq_true rfl, Nat.le_of_ble_eq_true rfl⟩) ⟨prR_blind, va_recv hK hPc (ci := 12) (q0 := 0) rfl rfl, fun U hU hW => ⟨rfl, prR_go hPc hK hU hW⟩⟩ rfl rfl hl.1 rfl (lv_room (Nat.le_of_ble_eq_true rfl)) dX12_views_7 ⟨by decide +kernel, by decide +kernel⟩) (fun r_1 er_1 => ?_)
  subst er_1
  refine W.eq (g2 := F0 m 10 ls [.int 0]) rfl ?_
  refine lv_if_ne (tgt := 17) hx hb dX12_views_10 (by decide) (fun c_2 => absurd (by decide) c_2) (fun _ => ?_)
  refine lv_ldc2 (v := (-1)) hx hb hown (hts (.constantLong RX12 481 (-1)) (by decide +kernel)) dX12_views_13 ?_
  have hP9 : va_P (dC, dI) vwCl [] H := hP.sub (ws' := []) [] rfl
  have hD9 : va_D A [] := hD.sub (ws' := []) [] (by decide) rfl
  refine W.widen (k := 0) (n := 0) (by decide +kernel) (by decide +kernel) ?_
  exact W.lret (v := (-1)) hx hb hr (fun t ht hW => ⟨⟨(-1), (), rfl, rfl, by rw [ht]; exact hP9, hD9⟩, hS.F ht⟩) hS.2.2 dX12_views_16
