-- L_cell
theorem dL_cell_0 : decode cL_cell 0 = .ok (.iload_n 1, 1) := by decide +kernel
theorem dL_cell_1 : decode cL_cell 1 = .ok (.aload_n 0, 1) := by decide +kernel
theorem dL_cell_2 : decode cL_cell 2 = .ok (.arraylength, 1) := by decide +kernel
theorem dL_cell_3 : decode cL_cell 3 = .ok (.if_icmp .ge 9, 3) := by decide +kernel
theorem dL_cell_6 : decode cL_cell 6 = .ok (.aload_n 0, 1) := by decide +kernel
theorem dL_cell_7 : decode cL_cell 7 = .ok (.iload_n 1, 1) := by decide +kernel
theorem dL_cell_8 : decode cL_cell 8 = .ok (.iaload, 1) := by decide +kernel
theorem dL_cell_9 : decode cL_cell 9 = .ok (.goto 4, 3) := by decide +kernel
theorem dL_cell_12 : decode cL_cell 12 = .ok (.iconst 0, 1) := by decide +kernel
theorem dL_cell_13 : decode cL_cell 13 = .ok (.ireturn, 1) := by decide +kernel
-- L_commit
theorem dL_commit_0 : decode cL_commit 0 = .ok (.aload 4, 2) := by decide +kernel
theorem dL_commit_2 : decode cL_commit 2 = .ok (.iconst 0, 1) := by decide +kernel
theorem dL_commit_3 : decode cL_commit 3 = .ok (.aload_n 0, 1) := by decide +kernel
theorem dL_commit_4 : decode cL_commit 4 = .ok (.iload_n 1, 1) := by decide +kernel
theorem dL_commit_5 : decode cL_commit 5 = .ok (.lload_n 2, 1) := by decide +kernel
theorem dL_commit_6 : decode cL_commit 6 = .ok (.invokevirtual 7, 3) := by decide +kernel
theorem dL_commit_9 : decode cL_commit 9 = .ok (.lastore, 1) := by decide +kernel
theorem dL_commit_10 : decode cL_commit 10 = .ok (.goto 11, 3) := by decide +kernel
theorem dL_commit_13 : decode cL_commit 13 = .ok (.astore 5, 2) := by decide +kernel
theorem dL_commit_15 : decode cL_commit 15 = .ok (.iconst 1, 1) := by decide +kernel
theorem dL_commit_16 : decode cL_commit 16 = .ok (.ireturn, 1) := by decide +kernel
theorem dL_commit_17 : decode cL_commit 17 = .ok (.astore 5, 2) := by decide +kernel
theorem dL_commit_19 : decode cL_commit 19 = .ok (.iconst 2, 1) := by decide +kernel
theorem dL_commit_20 : decode cL_commit 20 = .ok (.ireturn, 1) := by decide +kernel
theorem dL_commit_21 : decode cL_commit 21 = .ok (.iconst 0, 1) := by decide +kernel
theorem dL_commit_22 : decode cL_commit 22 = .ok (.ireturn, 1) := by decide +kernel
-- L_begin
theorem dL_begin_0 : decode cL_begin 0 = .ok (.aload 4, 2) := by decide +kernel
theorem dL_begin_2 : decode cL_begin 2 = .ok (.iconst 0, 1) := by decide +kernel
theorem dL_begin_3 : decode cL_begin 3 = .ok (.aload_n 0, 1) := by decide +kernel
theorem dL_begin_4 : decode cL_begin 4 = .ok (.iload_n 1, 1) := by decide +kernel
theorem dL_begin_5 : decode cL_begin 5 = .ok (.lload_n 2, 1) := by decide +kernel
theorem dL_begin_6 : decode cL_begin 6 = .ok (.invokevirtual 17, 3) := by decide +kernel
theorem dL_begin_9 : decode cL_begin 9 = .ok (.lastore, 1) := by decide +kernel
theorem dL_begin_10 : decode cL_begin 10 = .ok (.goto 11, 3) := by decide +kernel
theorem dL_begin_13 : decode cL_begin 13 = .ok (.astore 5, 2) := by decide +kernel
theorem dL_begin_15 : decode cL_begin 15 = .ok (.iconst 1, 1) := by decide +kernel
theorem dL_begin_16 : decode cL_begin 16 = .ok (.ireturn, 1) := by decide +kernel
theorem dL_begin_17 : decode cL_begin 17 = .ok (.astore 5, 2) := by decide +kernel
theorem dL_begin_19 : decode cL_begin 19 = .ok (.iconst 2, 1) := by decide +kernel
theorem dL_begin_20 : decode cL_begin 20 = .ok (.ireturn, 1) := by decide +kernel
theorem dL_begin_21 : decode cL_begin 21 = .ok (.iconst 0, 1) := by decide +kernel
theorem dL_begin_22 : decode cL_begin 22 = .ok (.ireturn, 1) := by decide +kernel
-- L_sign
theorem dL_sign_0 : decode cL_sign 0 = .ok (.aload_n 2, 1) := by decide +kernel
theorem dL_sign_1 : decode cL_sign 1 = .ok (.iconst 0, 1) := by decide +kernel
theorem dL_sign_2 : decode cL_sign 2 = .ok (.aload_n 0, 1) := by decide +kernel
theorem dL_sign_3 : decode cL_sign 3 = .ok (.iload_n 1, 1) := by decide +kernel
theorem dL_sign_4 : decode cL_sign 4 = .ok (.invokevirtual 20, 3) := by decide +kernel
theorem dL_sign_7 : decode cL_sign 7 = .ok (.lastore, 1) := by decide +kernel
theorem dL_sign_8 : decode cL_sign 8 = .ok (.goto 9, 3) := by decide +kernel
theorem dL_sign_11 : decode cL_sign 11 = .ok (.astore_n 3, 1) := by decide +kernel
theorem dL_sign_12 : decode cL_sign 12 = .ok (.iconst 1, 1) := by decide +kernel
theorem dL_sign_13 : decode cL_sign 13 = .ok (.ireturn, 1) := by decide +kernel
theorem dL_sign_14 : decode cL_sign 14 = .ok (.astore_n 3, 1) := by decide +kernel
theorem dL_sign_15 : decode cL_sign 15 = .ok (.iconst 2, 1) := by decide +kernel
theorem dL_sign_16 : decode cL_sign 16 = .ok (.ireturn, 1) := by decide +kernel
theorem dL_sign_17 : decode cL_sign 17 = .ok (.iconst 0, 1) := by decide +kernel
theorem dL_sign_18 : decode cL_sign 18 = .ok (.ireturn, 1) := by decide +kernel
-- L_submit
theorem dL_submit_0 : decode cL_submit 0 = .ok (.aload 4, 2) := by decide +kernel
theorem dL_submit_2 : decode cL_submit 2 = .ok (.iconst 0, 1) := by decide +kernel
theorem dL_submit_3 : decode cL_submit 3 = .ok (.aload_n 0, 1) := by decide +kernel
theorem dL_submit_4 : decode cL_submit 4 = .ok (.iload_n 1, 1) := by decide +kernel
theorem dL_submit_5 : decode cL_submit 5 = .ok (.lload_n 2, 1) := by decide +kernel
theorem dL_submit_6 : decode cL_submit 6 = .ok (.invokevirtual 24, 3) := by decide +kernel
theorem dL_submit_9 : decode cL_submit 9 = .ok (.ifCond .eq 7, 3) := by decide +kernel
theorem dL_submit_12 : decode cL_submit 12 = .ok (.lconst 1, 1) := by decide +kernel
theorem dL_submit_13 : decode cL_submit 13 = .ok (.goto 4, 3) := by decide +kernel
theorem dL_submit_16 : decode cL_submit 16 = .ok (.lconst 0, 1) := by decide +kernel
theorem dL_submit_17 : decode cL_submit 17 = .ok (.lastore, 1) := by decide +kernel
theorem dL_submit_18 : decode cL_submit 18 = .ok (.goto 11, 3) := by decide +kernel
theorem dL_submit_21 : decode cL_submit 21 = .ok (.astore 5, 2) := by decide +kernel
theorem dL_submit_23 : decode cL_submit 23 = .ok (.iconst 1, 1) := by decide +kernel
theorem dL_submit_24 : decode cL_submit 24 = .ok (.ireturn, 1) := by decide +kernel
theorem dL_submit_25 : decode cL_submit 25 = .ok (.astore 5, 2) := by decide +kernel
theorem dL_submit_27 : decode cL_submit 27 = .ok (.iconst 2, 1) := by decide +kernel
theorem dL_submit_28 : decode cL_submit 28 = .ok (.ireturn, 1) := by decide +kernel
theorem dL_submit_29 : decode cL_submit 29 = .ok (.iconst 0, 1) := by decide +kernel
theorem dL_submit_30 : decode cL_submit 30 = .ok (.ireturn, 1) := by decide +kernel
-- L_relay
theorem dL_relay_0 : decode cL_relay 0 = .ok (.aload 4, 2) := by decide +kernel
theorem dL_relay_2 : decode cL_relay 2 = .ok (.iconst 0, 1) := by decide +kernel
theorem dL_relay_3 : decode cL_relay 3 = .ok (.aload_n 0, 1) := by decide +kernel
theorem dL_relay_4 : decode cL_relay 4 = .ok (.iload_n 1, 1) := by decide +kernel
theorem dL_relay_5 : decode cL_relay 5 = .ok (.lload_n 2, 1) := by decide +kernel
theorem dL_relay_6 : decode cL_relay 6 = .ok (.invokevirtual 28, 3) := by decide +kernel
theorem dL_relay_9 : decode cL_relay 9 = .ok (.ifCond .eq 7, 3) := by decide +kernel
theorem dL_relay_12 : decode cL_relay 12 = .ok (.lconst 1, 1) := by decide +kernel
theorem dL_relay_13 : decode cL_relay 13 = .ok (.goto 4, 3) := by decide +kernel
theorem dL_relay_16 : decode cL_relay 16 = .ok (.lconst 0, 1) := by decide +kernel
theorem dL_relay_17 : decode cL_relay 17 = .ok (.lastore, 1) := by decide +kernel
theorem dL_relay_18 : decode cL_relay 18 = .ok (.goto 11, 3) := by decide +kernel
theorem dL_relay_21 : decode cL_relay 21 = .ok (.astore 5, 2) := by decide +kernel
theorem dL_relay_23 : decode cL_relay 23 = .ok (.iconst 1, 1) := by decide +kernel
theorem dL_relay_24 : decode cL_relay 24 = .ok (.ireturn, 1) := by decide +kernel
theorem dL_relay_25 : decode cL_relay 25 = .ok (.astore 5, 2) := by decide +kernel
theorem dL_relay_27 : decode cL_relay 27 = .ok (.iconst 2, 1) := by decide +kernel
theorem dL_relay_28 : decode cL_relay 28 = .ok (.ireturn, 1) := by decide +kernel
theorem dL_relay_29 : decode cL_relay 29 = .ok (.iconst 0, 1) := by decide +kernel
theorem dL_relay_30 : decode cL_relay 30 = .ok (.ireturn, 1) := by decide +kernel
-- L_seal
theorem dL_seal_0 : decode cL_seal 0 = .ok (.aload_n 1, 1) := by decide +kernel
theorem dL_seal_1 : decode cL_seal 1 = .ok (.iconst 0, 1) := by decide +kernel
theorem dL_seal_2 : decode cL_seal 2 = .ok (.aload_n 0, 1) := by decide +kernel
theorem dL_seal_3 : decode cL_seal 3 = .ok (.invokevirtual 31, 3) := by decide +kernel
theorem dL_seal_6 : decode cL_seal 6 = .ok (.lastore, 1) := by decide +kernel
theorem dL_seal_7 : decode cL_seal 7 = .ok (.goto 6, 3) := by decide +kernel
theorem dL_seal_10 : decode cL_seal 10 = .ok (.astore_n 2, 1) := by decide +kernel
theorem dL_seal_11 : decode cL_seal 11 = .ok (.iconst 1, 1) := by decide +kernel
theorem dL_seal_12 : decode cL_seal 12 = .ok (.ireturn, 1) := by decide +kernel
theorem dL_seal_13 : decode cL_seal 13 = .ok (.iconst 0, 1) := by decide +kernel
theorem dL_seal_14 : decode cL_seal 14 = .ok (.ireturn, 1) := by decide +kernel
-- L_holds
theorem dL_holds_0 : decode cL_holds 0 = .ok (.aload 5, 2) := by decide +kernel
theorem dL_holds_2 : decode cL_holds 2 = .ok (.iconst 0, 1) := by decide +kernel
theorem dL_holds_3 : decode cL_holds 3 = .ok (.aload_n 0, 1) := by decide +kernel
theorem dL_holds_4 : decode cL_holds 4 = .ok (.lload_n 1, 1) := by decide +kernel
theorem dL_holds_5 : decode cL_holds 5 = .ok (.lload_n 3, 1) := by decide +kernel
theorem dL_holds_6 : decode cL_holds 6 = .ok (.invokevirtual 35, 3) := by decide +kernel
theorem dL_holds_9 : decode cL_holds 9 = .ok (.ifCond .eq 7, 3) := by decide +kernel
theorem dL_holds_12 : decode cL_holds 12 = .ok (.lconst 1, 1) := by decide +kernel
theorem dL_holds_13 : decode cL_holds 13 = .ok (.goto 4, 3) := by decide +kernel
theorem dL_holds_16 : decode cL_holds 16 = .ok (.lconst 0, 1) := by decide +kernel
theorem dL_holds_17 : decode cL_holds 17 = .ok (.lastore, 1) := by decide +kernel
theorem dL_holds_18 : decode cL_holds 18 = .ok (.goto 11, 3) := by decide +kernel
theorem dL_holds_21 : decode cL_holds 21 = .ok (.astore 6, 2) := by decide +kernel
theorem dL_holds_23 : decode cL_holds 23 = .ok (.iconst 1, 1) := by decide +kernel
theorem dL_holds_24 : decode cL_holds 24 = .ok (.ireturn, 1) := by decide +kernel
theorem dL_holds_25 : decode cL_holds 25 = .ok (.astore 6, 2) := by decide +kernel
theorem dL_holds_27 : decode cL_holds 27 = .ok (.iconst 2, 1) := by decide +kernel
theorem dL_holds_28 : decode cL_holds 28 = .ok (.ireturn, 1) := by decide +kernel
theorem dL_holds_29 : decode cL_holds 29 = .ok (.iconst 0, 1) := by decide +kernel
theorem dL_holds_30 : decode cL_holds 30 = .ok (.ireturn, 1) := by decide +kernel
-- L_recover
theorem dL_recover_0 : decode cL_recover 0 = .ok (.aload_n 2, 1) := by decide +kernel
theorem dL_recover_1 : decode cL_recover 1 = .ok (.iconst 0, 1) := by decide +kernel
theorem dL_recover_2 : decode cL_recover 2 = .ok (.aload_n 0, 1) := by decide +kernel
theorem dL_recover_3 : decode cL_recover 3 = .ok (.iload_n 1, 1) := by decide +kernel
theorem dL_recover_4 : decode cL_recover 4 = .ok (.invokevirtual 39, 3) := by decide +kernel
theorem dL_recover_7 : decode cL_recover 7 = .ok (.lastore, 1) := by decide +kernel
theorem dL_recover_8 : decode cL_recover 8 = .ok (.goto 9, 3) := by decide +kernel
theorem dL_recover_11 : decode cL_recover 11 = .ok (.astore_n 3, 1) := by decide +kernel
theorem dL_recover_12 : decode cL_recover 12 = .ok (.iconst 1, 1) := by decide +kernel
theorem dL_recover_13 : decode cL_recover 13 = .ok (.ireturn, 1) := by decide +kernel
theorem dL_recover_14 : decode cL_recover 14 = .ok (.astore_n 3, 1) := by decide +kernel
theorem dL_recover_15 : decode cL_recover 15 = .ok (.iconst 2, 1) := by decide +kernel
theorem dL_recover_16 : decode cL_recover 16 = .ok (.ireturn, 1) := by decide +kernel
theorem dL_recover_17 : decode cL_recover 17 = .ok (.iconst 0, 1) := by decide +kernel
theorem dL_recover_18 : decode cL_recover 18 = .ok (.ireturn, 1) := by decide +kernel
