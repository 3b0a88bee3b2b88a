theorem fL_write_0 : zf mL_write 0 = some (.aload 4, 2, 2) := by decide +kernel
theorem fL_write_2 : zf mL_write 2 = some (.iconst 0, 1, 3) := by decide +kernel
theorem fL_write_3 : zf mL_write 3 = some (.aload_n 0, 1, 4) := by decide +kernel
theorem fL_write_4 : zf mL_write 4 = some (.iload_n 1, 1, 5) := by decide +kernel
theorem fL_write_5 : zf mL_write 5 = some (.iload_n 2, 1, 6) := by decide +kernel
theorem fL_write_6 : zf mL_write 6 = some (.iload_n 3, 1, 7) := by decide +kernel
theorem fL_write_7 : zf mL_write 7 = some (.invokevirtual 7, 3, 10) := by decide +kernel
theorem fL_write_10 : zf mL_write 10 = some (.i2l, 1, 11) := by decide +kernel
theorem fL_write_11 : zf mL_write 11 = some (.lastore, 1, 12) := by decide +kernel
theorem fL_write_12 : zf mL_write 12 = some (.goto 7, 3, 15) := by decide +kernel
theorem fL_write_15 : zf mL_write 15 = some (.astore 5, 2, 17) := by decide +kernel
theorem fL_write_17 : zf mL_write 17 = some (.iconst 1, 1, 18) := by decide +kernel
theorem fL_write_18 : zf mL_write 18 = some (.ireturn, 1, 19) := by decide +kernel
theorem fL_write_19 : zf mL_write 19 = some (.iconst 0, 1, 20) := by decide +kernel
theorem fL_write_20 : zf mL_write 20 = some (.ireturn, 1, 21) := by decide +kernel
theorem fL_graft_0 : zf mL_graft 0 = some (.aload 5, 2, 2) := by decide +kernel
theorem fL_graft_2 : zf mL_graft 2 = some (.iconst 0, 1, 3) := by decide +kernel
theorem fL_graft_3 : zf mL_graft 3 = some (.aload_n 0, 1, 4) := by decide +kernel
theorem fL_graft_4 : zf mL_graft 4 = some (.iload_n 1, 1, 5) := by decide +kernel
theorem fL_graft_5 : zf mL_graft 5 = some (.iload_n 2, 1, 6) := by decide +kernel
theorem fL_graft_6 : zf mL_graft 6 = some (.iload_n 3, 1, 7) := by decide +kernel
theorem fL_graft_7 : zf mL_graft 7 = some (.iload 4, 2, 9) := by decide +kernel
theorem fL_graft_9 : zf mL_graft 9 = some (.invokevirtual 15, 3, 12) := by decide +kernel
theorem fL_graft_12 : zf mL_graft 12 = some (.i2l, 1, 13) := by decide +kernel
theorem fL_graft_13 : zf mL_graft 13 = some (.lastore, 1, 14) := by decide +kernel
theorem fL_graft_14 : zf mL_graft 14 = some (.goto 7, 3, 17) := by decide +kernel
theorem fL_graft_17 : zf mL_graft 17 = some (.astore 6, 2, 19) := by decide +kernel
theorem fL_graft_19 : zf mL_graft 19 = some (.iconst 1, 1, 20) := by decide +kernel
theorem fL_graft_20 : zf mL_graft 20 = some (.ireturn, 1, 21) := by decide +kernel
theorem fL_graft_21 : zf mL_graft 21 = some (.iconst 0, 1, 22) := by decide +kernel
theorem fL_graft_22 : zf mL_graft 22 = some (.ireturn, 1, 23) := by decide +kernel
theorem fL_fork_0 : zf mL_fork 0 = some (.aload_n 3, 1, 1) := by decide +kernel
theorem fL_fork_1 : zf mL_fork 1 = some (.iconst 0, 1, 2) := by decide +kernel
theorem fL_fork_2 : zf mL_fork 2 = some (.aload_n 0, 1, 3) := by decide +kernel
theorem fL_fork_3 : zf mL_fork 3 = some (.iload_n 1, 1, 4) := by decide +kernel
theorem fL_fork_4 : zf mL_fork 4 = some (.iload_n 2, 1, 5) := by decide +kernel
theorem fL_fork_5 : zf mL_fork 5 = some (.invokevirtual 19, 3, 8) := by decide +kernel
theorem fL_fork_8 : zf mL_fork 8 = some (.i2l, 1, 9) := by decide +kernel
theorem fL_fork_9 : zf mL_fork 9 = some (.lastore, 1, 10) := by decide +kernel
theorem fL_fork_10 : zf mL_fork 10 = some (.goto 7, 3, 13) := by decide +kernel
theorem fL_fork_13 : zf mL_fork 13 = some (.astore 4, 2, 15) := by decide +kernel
theorem fL_fork_15 : zf mL_fork 15 = some (.iconst 1, 1, 16) := by decide +kernel
theorem fL_fork_16 : zf mL_fork 16 = some (.ireturn, 1, 17) := by decide +kernel
theorem fL_fork_17 : zf mL_fork 17 = some (.iconst 0, 1, 18) := by decide +kernel
theorem fL_fork_18 : zf mL_fork 18 = some (.ireturn, 1, 19) := by decide +kernel
theorem fL_back_0 : zf mL_back 0 = some (.aload_n 3, 1, 1) := by decide +kernel
theorem fL_back_1 : zf mL_back 1 = some (.iconst 0, 1, 2) := by decide +kernel
theorem fL_back_2 : zf mL_back 2 = some (.aload_n 0, 1, 3) := by decide +kernel
theorem fL_back_3 : zf mL_back 3 = some (.iload_n 1, 1, 4) := by decide +kernel
theorem fL_back_4 : zf mL_back 4 = some (.iload_n 2, 1, 5) := by decide +kernel
theorem fL_back_5 : zf mL_back 5 = some (.invokevirtual 23, 3, 8) := by decide +kernel
theorem fL_back_8 : zf mL_back 8 = some (.i2l, 1, 9) := by decide +kernel
theorem fL_back_9 : zf mL_back 9 = some (.lastore, 1, 10) := by decide +kernel
theorem fL_back_10 : zf mL_back 10 = some (.goto 7, 3, 13) := by decide +kernel
theorem fL_back_13 : zf mL_back 13 = some (.astore 4, 2, 15) := by decide +kernel
theorem fL_back_15 : zf mL_back 15 = some (.iconst 1, 1, 16) := by decide +kernel
theorem fL_back_16 : zf mL_back 16 = some (.ireturn, 1, 17) := by decide +kernel
theorem fL_back_17 : zf mL_back 17 = some (.iconst 0, 1, 18) := by decide +kernel
theorem fL_back_18 : zf mL_back 18 = some (.ireturn, 1, 19) := by decide +kernel
theorem fL_pass_0 : zf mL_pass 0 = some (.aload_n 2, 1, 1) := by decide +kernel
theorem fL_pass_1 : zf mL_pass 1 = some (.iconst 0, 1, 2) := by decide +kernel
theorem fL_pass_2 : zf mL_pass 2 = some (.aload_n 0, 1, 3) := by decide +kernel
theorem fL_pass_3 : zf mL_pass 3 = some (.iload_n 1, 1, 4) := by decide +kernel
theorem fL_pass_4 : zf mL_pass 4 = some (.invokevirtual 26, 3, 7) := by decide +kernel
theorem fL_pass_7 : zf mL_pass 7 = some (.i2l, 1, 8) := by decide +kernel
theorem fL_pass_8 : zf mL_pass 8 = some (.lastore, 1, 9) := by decide +kernel
theorem fL_pass_9 : zf mL_pass 9 = some (.goto 6, 3, 12) := by decide +kernel
theorem fL_pass_12 : zf mL_pass 12 = some (.astore_n 3, 1, 13) := by decide +kernel
theorem fL_pass_13 : zf mL_pass 13 = some (.iconst 1, 1, 14) := by decide +kernel
theorem fL_pass_14 : zf mL_pass 14 = some (.ireturn, 1, 15) := by decide +kernel
theorem fL_pass_15 : zf mL_pass 15 = some (.iconst 0, 1, 16) := by decide +kernel
theorem fL_pass_16 : zf mL_pass 16 = some (.ireturn, 1, 17) := by decide +kernel
theorem fL_ledger_0 : zf mL_ledger 0 = some (.aload_n 2, 1, 1) := by decide +kernel
theorem fL_ledger_1 : zf mL_ledger 1 = some (.iconst 0, 1, 2) := by decide +kernel
theorem fL_ledger_2 : zf mL_ledger 2 = some (.aload_n 0, 1, 3) := by decide +kernel
theorem fL_ledger_3 : zf mL_ledger 3 = some (.iload_n 1, 1, 4) := by decide +kernel
theorem fL_ledger_4 : zf mL_ledger 4 = some (.invokevirtual 30, 3, 7) := by decide +kernel
theorem fL_ledger_7 : zf mL_ledger 7 = some (.i2l, 1, 8) := by decide +kernel
theorem fL_ledger_8 : zf mL_ledger 8 = some (.lastore, 1, 9) := by decide +kernel
theorem fL_ledger_9 : zf mL_ledger 9 = some (.goto 6, 3, 12) := by decide +kernel
theorem fL_ledger_12 : zf mL_ledger 12 = some (.astore_n 3, 1, 13) := by decide +kernel
theorem fL_ledger_13 : zf mL_ledger 13 = some (.iconst 1, 1, 14) := by decide +kernel
theorem fL_ledger_14 : zf mL_ledger 14 = some (.ireturn, 1, 15) := by decide +kernel
theorem fL_ledger_15 : zf mL_ledger 15 = some (.iconst 0, 1, 16) := by decide +kernel
theorem fL_ledger_16 : zf mL_ledger 16 = some (.ireturn, 1, 17) := by decide +kernel
theorem fL_amount_0 : zf mL_amount 0 = some (.aload_n 3, 1, 1) := by decide +kernel
theorem fL_amount_1 : zf mL_amount 1 = some (.iconst 0, 1, 2) := by decide +kernel
theorem fL_amount_2 : zf mL_amount 2 = some (.aload_n 0, 1, 3) := by decide +kernel
theorem fL_amount_3 : zf mL_amount 3 = some (.iload_n 1, 1, 4) := by decide +kernel
theorem fL_amount_4 : zf mL_amount 4 = some (.iload_n 2, 1, 5) := by decide +kernel
theorem fL_amount_5 : zf mL_amount 5 = some (.invokevirtual 35, 3, 8) := by decide +kernel
theorem fL_amount_8 : zf mL_amount 8 = some (.i2l, 1, 9) := by decide +kernel
theorem fL_amount_9 : zf mL_amount 9 = some (.lastore, 1, 10) := by decide +kernel
theorem fL_amount_10 : zf mL_amount 10 = some (.goto 11, 3, 13) := by decide +kernel
theorem fL_amount_13 : zf mL_amount 13 = some (.astore 4, 2, 15) := by decide +kernel
theorem fL_amount_15 : zf mL_amount 15 = some (.iconst 1, 1, 16) := by decide +kernel
theorem fL_amount_16 : zf mL_amount 16 = some (.ireturn, 1, 17) := by decide +kernel
theorem fL_amount_17 : zf mL_amount 17 = some (.astore 4, 2, 19) := by decide +kernel
theorem fL_amount_19 : zf mL_amount 19 = some (.iconst 2, 1, 20) := by decide +kernel
theorem fL_amount_20 : zf mL_amount 20 = some (.ireturn, 1, 21) := by decide +kernel
theorem fL_amount_21 : zf mL_amount 21 = some (.iconst 0, 1, 22) := by decide +kernel
theorem fL_amount_22 : zf mL_amount 22 = some (.ireturn, 1, 23) := by decide +kernel
theorem fL_sum_0 : zf mL_sum 0 = some (.aload 4, 2, 2) := by decide +kernel
theorem fL_sum_2 : zf mL_sum 2 = some (.iconst 0, 1, 3) := by decide +kernel
theorem fL_sum_3 : zf mL_sum 3 = some (.aload_n 0, 1, 4) := by decide +kernel
theorem fL_sum_4 : zf mL_sum 4 = some (.iload_n 1, 1, 5) := by decide +kernel
theorem fL_sum_5 : zf mL_sum 5 = some (.iload_n 2, 1, 6) := by decide +kernel
theorem fL_sum_6 : zf mL_sum 6 = some (.iload_n 3, 1, 7) := by decide +kernel
theorem fL_sum_7 : zf mL_sum 7 = some (.invokevirtual 40, 3, 10) := by decide +kernel
theorem fL_sum_10 : zf mL_sum 10 = some (.i2l, 1, 11) := by decide +kernel
theorem fL_sum_11 : zf mL_sum 11 = some (.lastore, 1, 12) := by decide +kernel
theorem fL_sum_12 : zf mL_sum 12 = some (.goto 11, 3, 15) := by decide +kernel
theorem fL_sum_15 : zf mL_sum 15 = some (.astore 5, 2, 17) := by decide +kernel
theorem fL_sum_17 : zf mL_sum 17 = some (.iconst 1, 1, 18) := by decide +kernel
theorem fL_sum_18 : zf mL_sum 18 = some (.ireturn, 1, 19) := by decide +kernel
theorem fL_sum_19 : zf mL_sum 19 = some (.astore 5, 2, 21) := by decide +kernel
theorem fL_sum_21 : zf mL_sum 21 = some (.iconst 2, 1, 22) := by decide +kernel
theorem fL_sum_22 : zf mL_sum 22 = some (.ireturn, 1, 23) := by decide +kernel
theorem fL_sum_23 : zf mL_sum 23 = some (.iconst 0, 1, 24) := by decide +kernel
theorem fL_sum_24 : zf mL_sum 24 = some (.ireturn, 1, 25) := by decide +kernel
theorem fL_sumAgain_0 : zf mL_sumAgain 0 = some (.aload 4, 2, 2) := by decide +kernel
theorem fL_sumAgain_2 : zf mL_sumAgain 2 = some (.iconst 0, 1, 3) := by decide +kernel
theorem fL_sumAgain_3 : zf mL_sumAgain 3 = some (.aload_n 0, 1, 4) := by decide +kernel
theorem fL_sumAgain_4 : zf mL_sumAgain 4 = some (.iload_n 1, 1, 5) := by decide +kernel
theorem fL_sumAgain_5 : zf mL_sumAgain 5 = some (.iload_n 2, 1, 6) := by decide +kernel
theorem fL_sumAgain_6 : zf mL_sumAgain 6 = some (.iload_n 3, 1, 7) := by decide +kernel
theorem fL_sumAgain_7 : zf mL_sumAgain 7 = some (.invokevirtual 43, 3, 10) := by decide +kernel
theorem fL_sumAgain_10 : zf mL_sumAgain 10 = some (.i2l, 1, 11) := by decide +kernel
theorem fL_sumAgain_11 : zf mL_sumAgain 11 = some (.lastore, 1, 12) := by decide +kernel
theorem fL_sumAgain_12 : zf mL_sumAgain 12 = some (.goto 11, 3, 15) := by decide +kernel
theorem fL_sumAgain_15 : zf mL_sumAgain 15 = some (.astore 5, 2, 17) := by decide +kernel
theorem fL_sumAgain_17 : zf mL_sumAgain 17 = some (.iconst 1, 1, 18) := by decide +kernel
theorem fL_sumAgain_18 : zf mL_sumAgain 18 = some (.ireturn, 1, 19) := by decide +kernel
theorem fL_sumAgain_19 : zf mL_sumAgain 19 = some (.astore 5, 2, 21) := by decide +kernel
theorem fL_sumAgain_21 : zf mL_sumAgain 21 = some (.iconst 2, 1, 22) := by decide +kernel
theorem fL_sumAgain_22 : zf mL_sumAgain 22 = some (.ireturn, 1, 23) := by decide +kernel
theorem fL_sumAgain_23 : zf mL_sumAgain 23 = some (.iconst 0, 1, 24) := by decide +kernel
theorem fL_sumAgain_24 : zf mL_sumAgain 24 = some (.ireturn, 1, 25) := by decide +kernel
theorem fL_most_0 : zf mL_most 0 = some (.aload 4, 2, 2) := by decide +kernel
theorem fL_most_2 : zf mL_most 2 = some (.iconst 0, 1, 3) := by decide +kernel
theorem fL_most_3 : zf mL_most 3 = some (.aload_n 0, 1, 4) := by decide +kernel
theorem fL_most_4 : zf mL_most 4 = some (.iload_n 1, 1, 5) := by decide +kernel
theorem fL_most_5 : zf mL_most 5 = some (.iload_n 2, 1, 6) := by decide +kernel
theorem fL_most_6 : zf mL_most 6 = some (.iload_n 3, 1, 7) := by decide +kernel
theorem fL_most_7 : zf mL_most 7 = some (.invokevirtual 46, 3, 10) := by decide +kernel
theorem fL_most_10 : zf mL_most 10 = some (.i2l, 1, 11) := by decide +kernel
theorem fL_most_11 : zf mL_most 11 = some (.lastore, 1, 12) := by decide +kernel
theorem fL_most_12 : zf mL_most 12 = some (.goto 11, 3, 15) := by decide +kernel
theorem fL_most_15 : zf mL_most 15 = some (.astore 5, 2, 17) := by decide +kernel
theorem fL_most_17 : zf mL_most 17 = some (.iconst 1, 1, 18) := by decide +kernel
theorem fL_most_18 : zf mL_most 18 = some (.ireturn, 1, 19) := by decide +kernel
theorem fL_most_19 : zf mL_most 19 = some (.astore 5, 2, 21) := by decide +kernel
theorem fL_most_21 : zf mL_most 21 = some (.iconst 2, 1, 22) := by decide +kernel
theorem fL_most_22 : zf mL_most 22 = some (.ireturn, 1, 23) := by decide +kernel
theorem fL_most_23 : zf mL_most 23 = some (.iconst 0, 1, 24) := by decide +kernel
theorem fL_most_24 : zf mL_most 24 = some (.ireturn, 1, 25) := by decide +kernel
theorem fL_reached_0 : zf mL_reached 0 = some (.aload_n 3, 1, 1) := by decide +kernel
theorem fL_reached_1 : zf mL_reached 1 = some (.iconst 0, 1, 2) := by decide +kernel
theorem fL_reached_2 : zf mL_reached 2 = some (.aload_n 0, 1, 3) := by decide +kernel
theorem fL_reached_3 : zf mL_reached 3 = some (.iload_n 1, 1, 4) := by decide +kernel
theorem fL_reached_4 : zf mL_reached 4 = some (.iload_n 2, 1, 5) := by decide +kernel
theorem fL_reached_5 : zf mL_reached 5 = some (.invokevirtual 49, 3, 8) := by decide +kernel
theorem fL_reached_8 : zf mL_reached 8 = some (.i2l, 1, 9) := by decide +kernel
theorem fL_reached_9 : zf mL_reached 9 = some (.lastore, 1, 10) := by decide +kernel
theorem fL_reached_10 : zf mL_reached 10 = some (.goto 11, 3, 13) := by decide +kernel
theorem fL_reached_13 : zf mL_reached 13 = some (.astore 4, 2, 15) := by decide +kernel
theorem fL_reached_15 : zf mL_reached 15 = some (.iconst 1, 1, 16) := by decide +kernel
theorem fL_reached_16 : zf mL_reached 16 = some (.ireturn, 1, 17) := by decide +kernel
theorem fL_reached_17 : zf mL_reached 17 = some (.astore 4, 2, 19) := by decide +kernel
theorem fL_reached_19 : zf mL_reached 19 = some (.iconst 2, 1, 20) := by decide +kernel
theorem fL_reached_20 : zf mL_reached 20 = some (.ireturn, 1, 21) := by decide +kernel
theorem fL_reached_21 : zf mL_reached 21 = some (.iconst 0, 1, 22) := by decide +kernel
theorem fL_reached_22 : zf mL_reached 22 = some (.ireturn, 1, 23) := by decide +kernel
theorem fL_versionOf_0 : zf mL_versionOf 0 = some (.aload_n 3, 1, 1) := by decide +kernel
theorem fL_versionOf_1 : zf mL_versionOf 1 = some (.iconst 0, 1, 2) := by decide +kernel
theorem fL_versionOf_2 : zf mL_versionOf 2 = some (.aload_n 0, 1, 3) := by decide +kernel
theorem fL_versionOf_3 : zf mL_versionOf 3 = some (.iload_n 1, 1, 4) := by decide +kernel
theorem fL_versionOf_4 : zf mL_versionOf 4 = some (.iload_n 2, 1, 5) := by decide +kernel
theorem fL_versionOf_5 : zf mL_versionOf 5 = some (.invokevirtual 54, 3, 8) := by decide +kernel
theorem fL_versionOf_8 : zf mL_versionOf 8 = some (.i2l, 1, 9) := by decide +kernel
theorem fL_versionOf_9 : zf mL_versionOf 9 = some (.lastore, 1, 10) := by decide +kernel
theorem fL_versionOf_10 : zf mL_versionOf 10 = some (.goto 11, 3, 13) := by decide +kernel
theorem fL_versionOf_13 : zf mL_versionOf 13 = some (.astore 4, 2, 15) := by decide +kernel
theorem fL_versionOf_15 : zf mL_versionOf 15 = some (.iconst 1, 1, 16) := by decide +kernel
theorem fL_versionOf_16 : zf mL_versionOf 16 = some (.ireturn, 1, 17) := by decide +kernel
theorem fL_versionOf_17 : zf mL_versionOf 17 = some (.astore 4, 2, 19) := by decide +kernel
theorem fL_versionOf_19 : zf mL_versionOf 19 = some (.iconst 2, 1, 20) := by decide +kernel
theorem fL_versionOf_20 : zf mL_versionOf 20 = some (.ireturn, 1, 21) := by decide +kernel
theorem fL_versionOf_21 : zf mL_versionOf 21 = some (.iconst 0, 1, 22) := by decide +kernel
theorem fL_versionOf_22 : zf mL_versionOf 22 = some (.ireturn, 1, 23) := by decide +kernel
theorem fL_maker_0 : zf mL_maker 0 = some (.aload_n 3, 1, 1) := by decide +kernel
theorem fL_maker_1 : zf mL_maker 1 = some (.iconst 0, 1, 2) := by decide +kernel
theorem fL_maker_2 : zf mL_maker 2 = some (.aload_n 0, 1, 3) := by decide +kernel
theorem fL_maker_3 : zf mL_maker 3 = some (.iload_n 1, 1, 4) := by decide +kernel
theorem fL_maker_4 : zf mL_maker 4 = some (.iload_n 2, 1, 5) := by decide +kernel
theorem fL_maker_5 : zf mL_maker 5 = some (.invokevirtual 57, 3, 8) := by decide +kernel
theorem fL_maker_8 : zf mL_maker 8 = some (.i2l, 1, 9) := by decide +kernel
theorem fL_maker_9 : zf mL_maker 9 = some (.lastore, 1, 10) := by decide +kernel
theorem fL_maker_10 : zf mL_maker 10 = some (.goto 11, 3, 13) := by decide +kernel
theorem fL_maker_13 : zf mL_maker 13 = some (.astore 4, 2, 15) := by decide +kernel
theorem fL_maker_15 : zf mL_maker 15 = some (.iconst 1, 1, 16) := by decide +kernel
theorem fL_maker_16 : zf mL_maker 16 = some (.ireturn, 1, 17) := by decide +kernel
theorem fL_maker_17 : zf mL_maker 17 = some (.astore 4, 2, 19) := by decide +kernel
theorem fL_maker_19 : zf mL_maker 19 = some (.iconst 2, 1, 20) := by decide +kernel
theorem fL_maker_20 : zf mL_maker 20 = some (.ireturn, 1, 21) := by decide +kernel
theorem fL_maker_21 : zf mL_maker 21 = some (.iconst 0, 1, 22) := by decide +kernel
theorem fL_maker_22 : zf mL_maker 22 = some (.ireturn, 1, 23) := by decide +kernel
theorem fL_had_0 : zf mL_had 0 = some (.aload_n 3, 1, 1) := by decide +kernel
theorem fL_had_1 : zf mL_had 1 = some (.iconst 0, 1, 2) := by decide +kernel
theorem fL_had_2 : zf mL_had 2 = some (.aload_n 0, 1, 3) := by decide +kernel
theorem fL_had_3 : zf mL_had 3 = some (.iload_n 1, 1, 4) := by decide +kernel
theorem fL_had_4 : zf mL_had 4 = some (.iload_n 2, 1, 5) := by decide +kernel
theorem fL_had_5 : zf mL_had 5 = some (.invokevirtual 60, 3, 8) := by decide +kernel
theorem fL_had_8 : zf mL_had 8 = some (.i2l, 1, 9) := by decide +kernel
theorem fL_had_9 : zf mL_had 9 = some (.lastore, 1, 10) := by decide +kernel
theorem fL_had_10 : zf mL_had 10 = some (.goto 11, 3, 13) := by decide +kernel
theorem fL_had_13 : zf mL_had 13 = some (.astore 4, 2, 15) := by decide +kernel
theorem fL_had_15 : zf mL_had 15 = some (.iconst 1, 1, 16) := by decide +kernel
theorem fL_had_16 : zf mL_had 16 = some (.ireturn, 1, 17) := by decide +kernel
theorem fL_had_17 : zf mL_had 17 = some (.astore 4, 2, 19) := by decide +kernel
theorem fL_had_19 : zf mL_had 19 = some (.iconst 2, 1, 20) := by decide +kernel
theorem fL_had_20 : zf mL_had 20 = some (.ireturn, 1, 21) := by decide +kernel
theorem fL_had_21 : zf mL_had 21 = some (.iconst 0, 1, 22) := by decide +kernel
theorem fL_had_22 : zf mL_had 22 = some (.ireturn, 1, 23) := by decide +kernel
theorem fL_since_0 : zf mL_since 0 = some (.aload_n 3, 1, 1) := by decide +kernel
theorem fL_since_1 : zf mL_since 1 = some (.iconst 0, 1, 2) := by decide +kernel
theorem fL_since_2 : zf mL_since 2 = some (.aload_n 0, 1, 3) := by decide +kernel
theorem fL_since_3 : zf mL_since 3 = some (.iload_n 1, 1, 4) := by decide +kernel
theorem fL_since_4 : zf mL_since 4 = some (.iload_n 2, 1, 5) := by decide +kernel
theorem fL_since_5 : zf mL_since 5 = some (.invokevirtual 63, 3, 8) := by decide +kernel
theorem fL_since_8 : zf mL_since 8 = some (.i2l, 1, 9) := by decide +kernel
theorem fL_since_9 : zf mL_since 9 = some (.lastore, 1, 10) := by decide +kernel
theorem fL_since_10 : zf mL_since 10 = some (.goto 11, 3, 13) := by decide +kernel
theorem fL_since_13 : zf mL_since 13 = some (.astore 4, 2, 15) := by decide +kernel
theorem fL_since_15 : zf mL_since 15 = some (.iconst 1, 1, 16) := by decide +kernel
theorem fL_since_16 : zf mL_since 16 = some (.ireturn, 1, 17) := by decide +kernel
theorem fL_since_17 : zf mL_since 17 = some (.astore 4, 2, 19) := by decide +kernel
theorem fL_since_19 : zf mL_since 19 = some (.iconst 2, 1, 20) := by decide +kernel
theorem fL_since_20 : zf mL_since 20 = some (.ireturn, 1, 21) := by decide +kernel
theorem fL_since_21 : zf mL_since 21 = some (.iconst 0, 1, 22) := by decide +kernel
theorem fL_since_22 : zf mL_since 22 = some (.ireturn, 1, 23) := by decide +kernel
theorem fL_common_0 : zf mL_common 0 = some (.aload_n 3, 1, 1) := by decide +kernel
theorem fL_common_1 : zf mL_common 1 = some (.iconst 0, 1, 2) := by decide +kernel
theorem fL_common_2 : zf mL_common 2 = some (.aload_n 0, 1, 3) := by decide +kernel
theorem fL_common_3 : zf mL_common 3 = some (.iload_n 1, 1, 4) := by decide +kernel
theorem fL_common_4 : zf mL_common 4 = some (.iload_n 2, 1, 5) := by decide +kernel
theorem fL_common_5 : zf mL_common 5 = some (.invokevirtual 66, 3, 8) := by decide +kernel
theorem fL_common_8 : zf mL_common 8 = some (.i2l, 1, 9) := by decide +kernel
theorem fL_common_9 : zf mL_common 9 = some (.lastore, 1, 10) := by decide +kernel
theorem fL_common_10 : zf mL_common 10 = some (.goto 7, 3, 13) := by decide +kernel
theorem fL_common_13 : zf mL_common 13 = some (.astore 4, 2, 15) := by decide +kernel
theorem fL_common_15 : zf mL_common 15 = some (.iconst 1, 1, 16) := by decide +kernel
theorem fL_common_16 : zf mL_common 16 = some (.ireturn, 1, 17) := by decide +kernel
theorem fL_common_17 : zf mL_common 17 = some (.iconst 0, 1, 18) := by decide +kernel
theorem fL_common_18 : zf mL_common 18 = some (.ireturn, 1, 19) := by decide +kernel
theorem fL_apart_0 : zf mL_apart 0 = some (.aload_n 3, 1, 1) := by decide +kernel
theorem fL_apart_1 : zf mL_apart 1 = some (.iconst 0, 1, 2) := by decide +kernel
theorem fL_apart_2 : zf mL_apart 2 = some (.aload_n 0, 1, 3) := by decide +kernel
theorem fL_apart_3 : zf mL_apart 3 = some (.iload_n 1, 1, 4) := by decide +kernel
theorem fL_apart_4 : zf mL_apart 4 = some (.iload_n 2, 1, 5) := by decide +kernel
theorem fL_apart_5 : zf mL_apart 5 = some (.invokevirtual 69, 3, 8) := by decide +kernel
theorem fL_apart_8 : zf mL_apart 8 = some (.i2l, 1, 9) := by decide +kernel
theorem fL_apart_9 : zf mL_apart 9 = some (.lastore, 1, 10) := by decide +kernel
theorem fL_apart_10 : zf mL_apart 10 = some (.goto 7, 3, 13) := by decide +kernel
theorem fL_apart_13 : zf mL_apart 13 = some (.astore 4, 2, 15) := by decide +kernel
theorem fL_apart_15 : zf mL_apart 15 = some (.iconst 1, 1, 16) := by decide +kernel
theorem fL_apart_16 : zf mL_apart 16 = some (.ireturn, 1, 17) := by decide +kernel
theorem fL_apart_17 : zf mL_apart 17 = some (.iconst 0, 1, 18) := by decide +kernel
theorem fL_apart_18 : zf mL_apart 18 = some (.ireturn, 1, 19) := by decide +kernel
theorem fL_shared_0 : zf mL_shared 0 = some (.aload_n 3, 1, 1) := by decide +kernel
theorem fL_shared_1 : zf mL_shared 1 = some (.iconst 0, 1, 2) := by decide +kernel
theorem fL_shared_2 : zf mL_shared 2 = some (.aload_n 0, 1, 3) := by decide +kernel
theorem fL_shared_3 : zf mL_shared 3 = some (.iload_n 1, 1, 4) := by decide +kernel
theorem fL_shared_4 : zf mL_shared 4 = some (.iload_n 2, 1, 5) := by decide +kernel
theorem fL_shared_5 : zf mL_shared 5 = some (.invokevirtual 72, 3, 8) := by decide +kernel
theorem fL_shared_8 : zf mL_shared 8 = some (.i2l, 1, 9) := by decide +kernel
theorem fL_shared_9 : zf mL_shared 9 = some (.lastore, 1, 10) := by decide +kernel
theorem fL_shared_10 : zf mL_shared 10 = some (.goto 7, 3, 13) := by decide +kernel
theorem fL_shared_13 : zf mL_shared 13 = some (.astore 4, 2, 15) := by decide +kernel
theorem fL_shared_15 : zf mL_shared 15 = some (.iconst 1, 1, 16) := by decide +kernel
theorem fL_shared_16 : zf mL_shared 16 = some (.ireturn, 1, 17) := by decide +kernel
theorem fL_shared_17 : zf mL_shared 17 = some (.iconst 0, 1, 18) := by decide +kernel
theorem fL_shared_18 : zf mL_shared 18 = some (.ireturn, 1, 19) := by decide +kernel
theorem fL_isOf_0 : zf mL_isOf 0 = some (.aload_n 3, 1, 1) := by decide +kernel
theorem fL_isOf_1 : zf mL_isOf 1 = some (.iconst 0, 1, 2) := by decide +kernel
theorem fL_isOf_2 : zf mL_isOf 2 = some (.aload_n 0, 1, 3) := by decide +kernel
theorem fL_isOf_3 : zf mL_isOf 3 = some (.iload_n 1, 1, 4) := by decide +kernel
theorem fL_isOf_4 : zf mL_isOf 4 = some (.iload_n 2, 1, 5) := by decide +kernel
theorem fL_isOf_5 : zf mL_isOf 5 = some (.invokevirtual 75, 3, 8) := by decide +kernel
theorem fL_isOf_8 : zf mL_isOf 8 = some (.ifCond .eq 7, 3, 11) := by decide +kernel
theorem fL_isOf_11 : zf mL_isOf 11 = some (.lconst 1, 1, 12) := by decide +kernel
theorem fL_isOf_12 : zf mL_isOf 12 = some (.goto 4, 3, 15) := by decide +kernel
theorem fL_isOf_15 : zf mL_isOf 15 = some (.lconst 0, 1, 16) := by decide +kernel
theorem fL_isOf_16 : zf mL_isOf 16 = some (.lastore, 1, 17) := by decide +kernel
theorem fL_isOf_17 : zf mL_isOf 17 = some (.goto 7, 3, 20) := by decide +kernel
theorem fL_isOf_20 : zf mL_isOf 20 = some (.astore 4, 2, 22) := by decide +kernel
theorem fL_isOf_22 : zf mL_isOf 22 = some (.iconst 1, 1, 23) := by decide +kernel
theorem fL_isOf_23 : zf mL_isOf 23 = some (.ireturn, 1, 24) := by decide +kernel
theorem fL_isOf_24 : zf mL_isOf 24 = some (.iconst 0, 1, 25) := by decide +kernel
theorem fL_isOf_25 : zf mL_isOf 25 = some (.ireturn, 1, 26) := by decide +kernel
theorem fL_users_0 : zf mL_users 0 = some (.aload_n 3, 1, 1) := by decide +kernel
theorem fL_users_1 : zf mL_users 1 = some (.iconst 0, 1, 2) := by decide +kernel
theorem fL_users_2 : zf mL_users 2 = some (.aload_n 0, 1, 3) := by decide +kernel
theorem fL_users_3 : zf mL_users 3 = some (.iload_n 1, 1, 4) := by decide +kernel
theorem fL_users_4 : zf mL_users 4 = some (.iload_n 2, 1, 5) := by decide +kernel
theorem fL_users_5 : zf mL_users 5 = some (.invokevirtual 79, 3, 8) := by decide +kernel
theorem fL_users_8 : zf mL_users 8 = some (.i2l, 1, 9) := by decide +kernel
theorem fL_users_9 : zf mL_users 9 = some (.lastore, 1, 10) := by decide +kernel
theorem fL_users_10 : zf mL_users 10 = some (.goto 11, 3, 13) := by decide +kernel
theorem fL_users_13 : zf mL_users 13 = some (.astore 4, 2, 15) := by decide +kernel
theorem fL_users_15 : zf mL_users 15 = some (.iconst 1, 1, 16) := by decide +kernel
theorem fL_users_16 : zf mL_users 16 = some (.ireturn, 1, 17) := by decide +kernel
theorem fL_users_17 : zf mL_users 17 = some (.astore 4, 2, 19) := by decide +kernel
theorem fL_users_19 : zf mL_users 19 = some (.iconst 2, 1, 20) := by decide +kernel
theorem fL_users_20 : zf mL_users 20 = some (.ireturn, 1, 21) := by decide +kernel
theorem fL_users_21 : zf mL_users 21 = some (.iconst 0, 1, 22) := by decide +kernel
theorem fL_users_22 : zf mL_users 22 = some (.ireturn, 1, 23) := by decide +kernel
theorem fL_wouldMake_0 : zf mL_wouldMake 0 = some (.aload_n 3, 1, 1) := by decide +kernel
theorem fL_wouldMake_1 : zf mL_wouldMake 1 = some (.iconst 0, 1, 2) := by decide +kernel
theorem fL_wouldMake_2 : zf mL_wouldMake 2 = some (.aload_n 0, 1, 3) := by decide +kernel
theorem fL_wouldMake_3 : zf mL_wouldMake 3 = some (.iload_n 1, 1, 4) := by decide +kernel
theorem fL_wouldMake_4 : zf mL_wouldMake 4 = some (.iload_n 2, 1, 5) := by decide +kernel
theorem fL_wouldMake_5 : zf mL_wouldMake 5 = some (.invokevirtual 82, 3, 8) := by decide +kernel
theorem fL_wouldMake_8 : zf mL_wouldMake 8 = some (.i2l, 1, 9) := by decide +kernel
theorem fL_wouldMake_9 : zf mL_wouldMake 9 = some (.lastore, 1, 10) := by decide +kernel
theorem fL_wouldMake_10 : zf mL_wouldMake 10 = some (.goto 7, 3, 13) := by decide +kernel
theorem fL_wouldMake_13 : zf mL_wouldMake 13 = some (.astore 4, 2, 15) := by decide +kernel
theorem fL_wouldMake_15 : zf mL_wouldMake 15 = some (.iconst 1, 1, 16) := by decide +kernel
theorem fL_wouldMake_16 : zf mL_wouldMake 16 = some (.ireturn, 1, 17) := by decide +kernel
theorem fL_wouldMake_17 : zf mL_wouldMake 17 = some (.iconst 0, 1, 18) := by decide +kernel
theorem fL_wouldMake_18 : zf mL_wouldMake 18 = some (.ireturn, 1, 19) := by decide +kernel
theorem fL_alike_0 : zf mL_alike 0 = some (.aload_n 2, 1, 1) := by decide +kernel
theorem fL_alike_1 : zf mL_alike 1 = some (.iconst 0, 1, 2) := by decide +kernel
theorem fL_alike_2 : zf mL_alike 2 = some (.aload_n 0, 1, 3) := by decide +kernel
theorem fL_alike_3 : zf mL_alike 3 = some (.iload_n 1, 1, 4) := by decide +kernel
theorem fL_alike_4 : zf mL_alike 4 = some (.invokevirtual 85, 3, 7) := by decide +kernel
theorem fL_alike_7 : zf mL_alike 7 = some (.i2l, 1, 8) := by decide +kernel
theorem fL_alike_8 : zf mL_alike 8 = some (.lastore, 1, 9) := by decide +kernel
theorem fL_alike_9 : zf mL_alike 9 = some (.goto 6, 3, 12) := by decide +kernel
theorem fL_alike_12 : zf mL_alike 12 = some (.astore_n 3, 1, 13) := by decide +kernel
theorem fL_alike_13 : zf mL_alike 13 = some (.iconst 1, 1, 14) := by decide +kernel
theorem fL_alike_14 : zf mL_alike 14 = some (.ireturn, 1, 15) := by decide +kernel
theorem fL_alike_15 : zf mL_alike 15 = some (.iconst 0, 1, 16) := by decide +kernel
theorem fL_alike_16 : zf mL_alike 16 = some (.ireturn, 1, 17) := by decide +kernel
theorem fL_richest_0 : zf mL_richest 0 = some (.aload_n 2, 1, 1) := by decide +kernel
theorem fL_richest_1 : zf mL_richest 1 = some (.iconst 0, 1, 2) := by decide +kernel
theorem fL_richest_2 : zf mL_richest 2 = some (.aload_n 0, 1, 3) := by decide +kernel
theorem fL_richest_3 : zf mL_richest 3 = some (.iload_n 1, 1, 4) := by decide +kernel
theorem fL_richest_4 : zf mL_richest 4 = some (.invokevirtual 88, 3, 7) := by decide +kernel
theorem fL_richest_7 : zf mL_richest 7 = some (.i2l, 1, 8) := by decide +kernel
theorem fL_richest_8 : zf mL_richest 8 = some (.lastore, 1, 9) := by decide +kernel
theorem fL_richest_9 : zf mL_richest 9 = some (.goto 6, 3, 12) := by decide +kernel
theorem fL_richest_12 : zf mL_richest 12 = some (.astore_n 3, 1, 13) := by decide +kernel
theorem fL_richest_13 : zf mL_richest 13 = some (.iconst 1, 1, 14) := by decide +kernel
theorem fL_richest_14 : zf mL_richest 14 = some (.ireturn, 1, 15) := by decide +kernel
theorem fL_richest_15 : zf mL_richest 15 = some (.iconst 0, 1, 16) := by decide +kernel
theorem fL_richest_16 : zf mL_richest 16 = some (.ireturn, 1, 17) := by decide +kernel
theorem fL_busiest_0 : zf mL_busiest 0 = some (.aload_n 1, 1, 1) := by decide +kernel
theorem fL_busiest_1 : zf mL_busiest 1 = some (.iconst 0, 1, 2) := by decide +kernel
theorem fL_busiest_2 : zf mL_busiest 2 = some (.aload_n 0, 1, 3) := by decide +kernel
theorem fL_busiest_3 : zf mL_busiest 3 = some (.invokevirtual 91, 3, 6) := by decide +kernel
theorem fL_busiest_6 : zf mL_busiest 6 = some (.i2l, 1, 7) := by decide +kernel
theorem fL_busiest_7 : zf mL_busiest 7 = some (.lastore, 1, 8) := by decide +kernel
theorem fL_busiest_8 : zf mL_busiest 8 = some (.goto 6, 3, 11) := by decide +kernel
theorem fL_busiest_11 : zf mL_busiest 11 = some (.astore_n 2, 1, 12) := by decide +kernel
theorem fL_busiest_12 : zf mL_busiest 12 = some (.iconst 1, 1, 13) := by decide +kernel
theorem fL_busiest_13 : zf mL_busiest 13 = some (.ireturn, 1, 14) := by decide +kernel
theorem fL_busiest_14 : zf mL_busiest 14 = some (.iconst 0, 1, 15) := by decide +kernel
theorem fL_busiest_15 : zf mL_busiest 15 = some (.ireturn, 1, 16) := by decide +kernel
theorem fL_append_0 : zf mL_append 0 = some (.aload_n 2, 1, 1) := by decide +kernel
theorem fL_append_1 : zf mL_append 1 = some (.iconst 0, 1, 2) := by decide +kernel
theorem fL_append_2 : zf mL_append 2 = some (.aload_n 0, 1, 3) := by decide +kernel
theorem fL_append_3 : zf mL_append 3 = some (.iload_n 1, 1, 4) := by decide +kernel
theorem fL_append_4 : zf mL_append 4 = some (.invokevirtual 95, 3, 7) := by decide +kernel
theorem fL_append_7 : zf mL_append 7 = some (.i2l, 1, 8) := by decide +kernel
theorem fL_append_8 : zf mL_append 8 = some (.lastore, 1, 9) := by decide +kernel
theorem fL_append_9 : zf mL_append 9 = some (.goto 6, 3, 12) := by decide +kernel
theorem fL_append_12 : zf mL_append 12 = some (.astore_n 3, 1, 13) := by decide +kernel
theorem fL_append_13 : zf mL_append 13 = some (.iconst 1, 1, 14) := by decide +kernel
theorem fL_append_14 : zf mL_append 14 = some (.ireturn, 1, 15) := by decide +kernel
theorem fL_append_15 : zf mL_append 15 = some (.iconst 0, 1, 16) := by decide +kernel
theorem fL_append_16 : zf mL_append 16 = some (.ireturn, 1, 17) := by decide +kernel
theorem fL_commands_0 : zf mL_commands 0 = some (.aload_n 1, 1, 1) := by decide +kernel
theorem fL_commands_1 : zf mL_commands 1 = some (.iconst 0, 1, 2) := by decide +kernel
theorem fL_commands_2 : zf mL_commands 2 = some (.aload_n 0, 1, 3) := by decide +kernel
theorem fL_commands_3 : zf mL_commands 3 = some (.invokevirtual 101, 3, 6) := by decide +kernel
theorem fL_commands_6 : zf mL_commands 6 = some (.i2l, 1, 7) := by decide +kernel
theorem fL_commands_7 : zf mL_commands 7 = some (.lastore, 1, 8) := by decide +kernel
theorem fL_commands_8 : zf mL_commands 8 = some (.goto 9, 3, 11) := by decide +kernel
theorem fL_commands_11 : zf mL_commands 11 = some (.astore_n 2, 1, 12) := by decide +kernel
theorem fL_commands_12 : zf mL_commands 12 = some (.iconst 1, 1, 13) := by decide +kernel
theorem fL_commands_13 : zf mL_commands 13 = some (.ireturn, 1, 14) := by decide +kernel
theorem fL_commands_14 : zf mL_commands 14 = some (.astore_n 2, 1, 15) := by decide +kernel
theorem fL_commands_15 : zf mL_commands 15 = some (.iconst 2, 1, 16) := by decide +kernel
theorem fL_commands_16 : zf mL_commands 16 = some (.ireturn, 1, 17) := by decide +kernel
theorem fL_commands_17 : zf mL_commands 17 = some (.iconst 0, 1, 18) := by decide +kernel
theorem fL_commands_18 : zf mL_commands 18 = some (.ireturn, 1, 19) := by decide +kernel
theorem fL_reason_0 : zf mL_reason 0 = some (.aload_n 2, 1, 1) := by decide +kernel
theorem fL_reason_1 : zf mL_reason 1 = some (.iconst 0, 1, 2) := by decide +kernel
theorem fL_reason_2 : zf mL_reason 2 = some (.aload_n 0, 1, 3) := by decide +kernel
theorem fL_reason_3 : zf mL_reason 3 = some (.iload_n 1, 1, 4) := by decide +kernel
theorem fL_reason_4 : zf mL_reason 4 = some (.invokevirtual 104, 3, 7) := by decide +kernel
theorem fL_reason_7 : zf mL_reason 7 = some (.i2l, 1, 8) := by decide +kernel
theorem fL_reason_8 : zf mL_reason 8 = some (.lastore, 1, 9) := by decide +kernel
theorem fL_reason_9 : zf mL_reason 9 = some (.goto 9, 3, 12) := by decide +kernel
theorem fL_reason_12 : zf mL_reason 12 = some (.astore_n 3, 1, 13) := by decide +kernel
theorem fL_reason_13 : zf mL_reason 13 = some (.iconst 1, 1, 14) := by decide +kernel
theorem fL_reason_14 : zf mL_reason 14 = some (.ireturn, 1, 15) := by decide +kernel
theorem fL_reason_15 : zf mL_reason 15 = some (.astore_n 3, 1, 16) := by decide +kernel
theorem fL_reason_16 : zf mL_reason 16 = some (.iconst 2, 1, 17) := by decide +kernel
theorem fL_reason_17 : zf mL_reason 17 = some (.ireturn, 1, 18) := by decide +kernel
theorem fL_reason_18 : zf mL_reason 18 = some (.iconst 0, 1, 19) := by decide +kernel
theorem fL_reason_19 : zf mL_reason 19 = some (.ireturn, 1, 20) := by decide +kernel
theorem fL_line_0 : zf mL_line 0 = some (.aload_n 2, 1, 1) := by decide +kernel
theorem fL_line_1 : zf mL_line 1 = some (.iconst 0, 1, 2) := by decide +kernel
theorem fL_line_2 : zf mL_line 2 = some (.aload_n 0, 1, 3) := by decide +kernel
theorem fL_line_3 : zf mL_line 3 = some (.iload_n 1, 1, 4) := by decide +kernel
theorem fL_line_4 : zf mL_line 4 = some (.invokevirtual 107, 3, 7) := by decide +kernel
theorem fL_line_7 : zf mL_line 7 = some (.i2l, 1, 8) := by decide +kernel
theorem fL_line_8 : zf mL_line 8 = some (.lastore, 1, 9) := by decide +kernel
theorem fL_line_9 : zf mL_line 9 = some (.goto 6, 3, 12) := by decide +kernel
theorem fL_line_12 : zf mL_line 12 = some (.astore_n 3, 1, 13) := by decide +kernel
theorem fL_line_13 : zf mL_line 13 = some (.iconst 1, 1, 14) := by decide +kernel
theorem fL_line_14 : zf mL_line 14 = some (.ireturn, 1, 15) := by decide +kernel
theorem fL_line_15 : zf mL_line 15 = some (.iconst 0, 1, 16) := by decide +kernel
theorem fL_line_16 : zf mL_line 16 = some (.ireturn, 1, 17) := by decide +kernel
theorem fL_lineage_0 : zf mL_lineage 0 = some (.aload_n 2, 1, 1) := by decide +kernel
theorem fL_lineage_1 : zf mL_lineage 1 = some (.iconst 0, 1, 2) := by decide +kernel
theorem fL_lineage_2 : zf mL_lineage 2 = some (.aload_n 0, 1, 3) := by decide +kernel
theorem fL_lineage_3 : zf mL_lineage 3 = some (.iload_n 1, 1, 4) := by decide +kernel
theorem fL_lineage_4 : zf mL_lineage 4 = some (.invokevirtual 110, 3, 7) := by decide +kernel
theorem fL_lineage_7 : zf mL_lineage 7 = some (.i2l, 1, 8) := by decide +kernel
theorem fL_lineage_8 : zf mL_lineage 8 = some (.lastore, 1, 9) := by decide +kernel
theorem fL_lineage_9 : zf mL_lineage 9 = some (.goto 6, 3, 12) := by decide +kernel
theorem fL_lineage_12 : zf mL_lineage 12 = some (.astore_n 3, 1, 13) := by decide +kernel
theorem fL_lineage_13 : zf mL_lineage 13 = some (.iconst 1, 1, 14) := by decide +kernel
theorem fL_lineage_14 : zf mL_lineage 14 = some (.ireturn, 1, 15) := by decide +kernel
theorem fL_lineage_15 : zf mL_lineage 15 = some (.iconst 0, 1, 16) := by decide +kernel
theorem fL_lineage_16 : zf mL_lineage 16 = some (.ireturn, 1, 17) := by decide +kernel
theorem fL_character_0 : zf mL_character 0 = some (.aload_n 2, 1, 1) := by decide +kernel
theorem fL_character_1 : zf mL_character 1 = some (.iconst 0, 1, 2) := by decide +kernel
theorem fL_character_2 : zf mL_character 2 = some (.aload_n 0, 1, 3) := by decide +kernel
theorem fL_character_3 : zf mL_character 3 = some (.iload_n 1, 1, 4) := by decide +kernel
theorem fL_character_4 : zf mL_character 4 = some (.invokevirtual 113, 3, 7) := by decide +kernel
theorem fL_character_7 : zf mL_character 7 = some (.i2l, 1, 8) := by decide +kernel
theorem fL_character_8 : zf mL_character 8 = some (.lastore, 1, 9) := by decide +kernel
theorem fL_character_9 : zf mL_character 9 = some (.goto 6, 3, 12) := by decide +kernel
theorem fL_character_12 : zf mL_character 12 = some (.astore_n 3, 1, 13) := by decide +kernel
theorem fL_character_13 : zf mL_character 13 = some (.iconst 1, 1, 14) := by decide +kernel
theorem fL_character_14 : zf mL_character 14 = some (.ireturn, 1, 15) := by decide +kernel
theorem fL_character_15 : zf mL_character 15 = some (.iconst 0, 1, 16) := by decide +kernel
theorem fL_character_16 : zf mL_character 16 = some (.ireturn, 1, 17) := by decide +kernel
theorem fL_mean_0 : zf mL_mean 0 = some (.aload_n 2, 1, 1) := by decide +kernel
theorem fL_mean_1 : zf mL_mean 1 = some (.iconst 0, 1, 2) := by decide +kernel
theorem fL_mean_2 : zf mL_mean 2 = some (.aload_n 0, 1, 3) := by decide +kernel
theorem fL_mean_3 : zf mL_mean 3 = some (.iload_n 1, 1, 4) := by decide +kernel
theorem fL_mean_4 : zf mL_mean 4 = some (.invokevirtual 117, 3, 7) := by decide +kernel
theorem fL_mean_7 : zf mL_mean 7 = some (.dastore, 1, 8) := by decide +kernel
theorem fL_mean_8 : zf mL_mean 8 = some (.goto 6, 3, 11) := by decide +kernel
theorem fL_mean_11 : zf mL_mean 11 = some (.astore_n 3, 1, 12) := by decide +kernel
theorem fL_mean_12 : zf mL_mean 12 = some (.iconst 1, 1, 13) := by decide +kernel
theorem fL_mean_13 : zf mL_mean 13 = some (.ireturn, 1, 14) := by decide +kernel
theorem fL_mean_14 : zf mL_mean 14 = some (.iconst 0, 1, 15) := by decide +kernel
theorem fL_mean_15 : zf mL_mean 15 = some (.ireturn, 1, 16) := by decide +kernel
theorem fL_account_0 : zf mL_account 0 = some (.aload_n 2, 1, 1) := by decide +kernel
theorem fL_account_1 : zf mL_account 1 = some (.iconst 0, 1, 2) := by decide +kernel
theorem fL_account_2 : zf mL_account 2 = some (.aload_n 0, 1, 3) := by decide +kernel
theorem fL_account_3 : zf mL_account 3 = some (.iload_n 1, 1, 4) := by decide +kernel
theorem fL_account_4 : zf mL_account 4 = some (.invokevirtual 121, 3, 7) := by decide +kernel
theorem fL_account_7 : zf mL_account 7 = some (.i2l, 1, 8) := by decide +kernel
theorem fL_account_8 : zf mL_account 8 = some (.lastore, 1, 9) := by decide +kernel
theorem fL_account_9 : zf mL_account 9 = some (.goto 6, 3, 12) := by decide +kernel
theorem fL_account_12 : zf mL_account 12 = some (.astore_n 3, 1, 13) := by decide +kernel
theorem fL_account_13 : zf mL_account 13 = some (.iconst 1, 1, 14) := by decide +kernel
theorem fL_account_14 : zf mL_account 14 = some (.ireturn, 1, 15) := by decide +kernel
theorem fL_account_15 : zf mL_account 15 = some (.iconst 0, 1, 16) := by decide +kernel
theorem fL_account_16 : zf mL_account 16 = some (.ireturn, 1, 17) := by decide +kernel
theorem fL_undo_0 : zf mL_undo 0 = some (.aload_n 1, 1, 1) := by decide +kernel
theorem fL_undo_1 : zf mL_undo 1 = some (.iconst 0, 1, 2) := by decide +kernel
theorem fL_undo_2 : zf mL_undo 2 = some (.aload_n 0, 1, 3) := by decide +kernel
theorem fL_undo_3 : zf mL_undo 3 = some (.invokevirtual 124, 3, 6) := by decide +kernel
theorem fL_undo_6 : zf mL_undo 6 = some (.i2l, 1, 7) := by decide +kernel
theorem fL_undo_7 : zf mL_undo 7 = some (.lastore, 1, 8) := by decide +kernel
theorem fL_undo_8 : zf mL_undo 8 = some (.goto 6, 3, 11) := by decide +kernel
theorem fL_undo_11 : zf mL_undo 11 = some (.astore_n 2, 1, 12) := by decide +kernel
theorem fL_undo_12 : zf mL_undo 12 = some (.iconst 1, 1, 13) := by decide +kernel
theorem fL_undo_13 : zf mL_undo 13 = some (.ireturn, 1, 14) := by decide +kernel
theorem fL_undo_14 : zf mL_undo 14 = some (.iconst 0, 1, 15) := by decide +kernel
theorem fL_undo_15 : zf mL_undo 15 = some (.ireturn, 1, 16) := by decide +kernel
theorem fL_restore_0 : zf mL_restore 0 = some (.aload_n 1, 1, 1) := by decide +kernel
theorem fL_restore_1 : zf mL_restore 1 = some (.iconst 0, 1, 2) := by decide +kernel
theorem fL_restore_2 : zf mL_restore 2 = some (.aload_n 0, 1, 3) := by decide +kernel
theorem fL_restore_3 : zf mL_restore 3 = some (.invokevirtual 127, 3, 6) := by decide +kernel
theorem fL_restore_6 : zf mL_restore 6 = some (.i2l, 1, 7) := by decide +kernel
theorem fL_restore_7 : zf mL_restore 7 = some (.lastore, 1, 8) := by decide +kernel
theorem fL_restore_8 : zf mL_restore 8 = some (.goto 6, 3, 11) := by decide +kernel
theorem fL_restore_11 : zf mL_restore 11 = some (.astore_n 2, 1, 12) := by decide +kernel
theorem fL_restore_12 : zf mL_restore 12 = some (.iconst 1, 1, 13) := by decide +kernel
theorem fL_restore_13 : zf mL_restore 13 = some (.ireturn, 1, 14) := by decide +kernel
theorem fL_restore_14 : zf mL_restore 14 = some (.iconst 0, 1, 15) := by decide +kernel
theorem fL_restore_15 : zf mL_restore 15 = some (.ireturn, 1, 16) := by decide +kernel
