-- S_init
theorem dS_init_0 : decode cS_init 0 = .ok (.aload_n 0, 1) := by decide +kernel
theorem dS_init_1 : decode cS_init 1 = .ok (.invokespecial 1, 3) := by decide +kernel
theorem dS_init_4 : decode cS_init 4 = .ok (.aload_n 0, 1) := by decide +kernel
theorem dS_init_5 : decode cS_init 5 = .ok (.iload_n 1, 1) := by decide +kernel
theorem dS_init_6 : decode cS_init 6 = .ok (.iconst 1, 1) := by decide +kernel
theorem dS_init_7 : decode cS_init 7 = .ok (.invokestatic 7, 3) := by decide +kernel
theorem dS_init_10 : decode cS_init 10 = .ok (.bipush 6, 2) := by decide +kernel
theorem dS_init_12 : decode cS_init 12 = .ok (.invokestatic 15, 3) := by decide +kernel
theorem dS_init_15 : decode cS_init 15 = .ok (.putfield 18, 3) := by decide +kernel
theorem dS_init_18 : decode cS_init 18 = .ok (.aload_n 0, 1) := by decide +kernel
theorem dS_init_19 : decode cS_init 19 = .ok (.iload_n 2, 1) := by decide +kernel
theorem dS_init_20 : decode cS_init 20 = .ok (.iconst 1, 1) := by decide +kernel
theorem dS_init_21 : decode cS_init 21 = .ok (.invokestatic 7, 3) := by decide +kernel
theorem dS_init_24 : decode cS_init 24 = .ok (.aload_n 0, 1) := by decide +kernel
theorem dS_init_25 : decode cS_init 25 = .ok (.getfield 18, 3) := by decide +kernel
theorem dS_init_28 : decode cS_init 28 = .ok (.invokestatic 15, 3) := by decide +kernel
theorem dS_init_31 : decode cS_init 31 = .ok (.putfield 22, 3) := by decide +kernel
theorem dS_init_34 : decode cS_init 34 = .ok (.aload_n 0, 1) := by decide +kernel
theorem dS_init_35 : decode cS_init 35 = .ok (.new 25, 3) := by decide +kernel
theorem dS_init_38 : decode cS_init 38 = .ok (.dup, 1) := by decide +kernel
theorem dS_init_39 : decode cS_init 39 = .ok (.aload_n 0, 1) := by decide +kernel
theorem dS_init_40 : decode cS_init 40 = .ok (.getfield 18, 3) := by decide +kernel
theorem dS_init_43 : decode cS_init 43 = .ok (.aload_n 0, 1) := by decide +kernel
theorem dS_init_44 : decode cS_init 44 = .ok (.getfield 22, 3) := by decide +kernel
theorem dS_init_47 : decode cS_init 47 = .ok (.invokespecial 27, 3) := by decide +kernel
theorem dS_init_50 : decode cS_init 50 = .ok (.putfield 30, 3) := by decide +kernel
theorem dS_init_53 : decode cS_init 53 = .ok (.aload_n 0, 1) := by decide +kernel
theorem dS_init_54 : decode cS_init 54 = .ok (.new 34, 3) := by decide +kernel
theorem dS_init_57 : decode cS_init 57 = .ok (.dup, 1) := by decide +kernel
theorem dS_init_58 : decode cS_init 58 = .ok (.aload_n 0, 1) := by decide +kernel
theorem dS_init_59 : decode cS_init 59 = .ok (.getfield 18, 3) := by decide +kernel
theorem dS_init_62 : decode cS_init 62 = .ok (.invokespecial 36, 3) := by decide +kernel
theorem dS_init_65 : decode cS_init 65 = .ok (.putfield 39, 3) := by decide +kernel
theorem dS_init_68 : decode cS_init 68 = .ok (.aload_n 0, 1) := by decide +kernel
theorem dS_init_69 : decode cS_init 69 = .ok (.new 43, 3) := by decide +kernel
theorem dS_init_72 : decode cS_init 72 = .ok (.dup, 1) := by decide +kernel
theorem dS_init_73 : decode cS_init 73 = .ok (.aload_n 0, 1) := by decide +kernel
theorem dS_init_74 : decode cS_init 74 = .ok (.getfield 18, 3) := by decide +kernel
theorem dS_init_77 : decode cS_init 77 = .ok (.invokespecial 45, 3) := by decide +kernel
theorem dS_init_80 : decode cS_init 80 = .ok (.putfield 46, 3) := by decide +kernel
theorem dS_init_83 : decode cS_init 83 = .ok (.return_, 1) := by decide +kernel
-- S_deal
theorem dS_deal_0 : decode cS_deal 0 = .ok (.aload_n 0, 1) := by decide +kernel
theorem dS_deal_1 : decode cS_deal 1 = .ok (.getfield 30, 3) := by decide +kernel
theorem dS_deal_4 : decode cS_deal 4 = .ok (.lload_n 1, 1) := by decide +kernel
theorem dS_deal_5 : decode cS_deal 5 = .ok (.invokevirtual 50, 3) := by decide +kernel
theorem dS_deal_8 : decode cS_deal 8 = .ok (.aload_n 0, 1) := by decide +kernel
theorem dS_deal_9 : decode cS_deal 9 = .ok (.getfield 39, 3) := by decide +kernel
theorem dS_deal_12 : decode cS_deal 12 = .ok (.invokevirtual 54, 3) := by decide +kernel
theorem dS_deal_15 : decode cS_deal 15 = .ok (.aload_n 0, 1) := by decide +kernel
theorem dS_deal_16 : decode cS_deal 16 = .ok (.getfield 46, 3) := by decide +kernel
theorem dS_deal_19 : decode cS_deal 19 = .ok (.invokevirtual 57, 3) := by decide +kernel
theorem dS_deal_22 : decode cS_deal 22 = .ok (.aload_n 0, 1) := by decide +kernel
theorem dS_deal_23 : decode cS_deal 23 = .ok (.getfield 30, 3) := by decide +kernel
theorem dS_deal_26 : decode cS_deal 26 = .ok (.invokevirtual 60, 3) := by decide +kernel
theorem dS_deal_29 : decode cS_deal 29 = .ok (.lreturn, 1) := by decide +kernel
-- S_commit
theorem dS_commit_0 : decode cS_commit 0 = .ok (.aload_n 0, 1) := by decide +kernel
theorem dS_commit_1 : decode cS_commit 1 = .ok (.iload_n 1, 1) := by decide +kernel
theorem dS_commit_2 : decode cS_commit 2 = .ok (.invokevirtual 64, 3) := by decide +kernel
theorem dS_commit_5 : decode cS_commit 5 = .ok (.aload_n 0, 1) := by decide +kernel
theorem dS_commit_6 : decode cS_commit 6 = .ok (.invokevirtual 67, 3) := by decide +kernel
theorem dS_commit_9 : decode cS_commit 9 = .ok (.aload_n 0, 1) := by decide +kernel
theorem dS_commit_10 : decode cS_commit 10 = .ok (.getfield 39, 3) := by decide +kernel
theorem dS_commit_13 : decode cS_commit 13 = .ok (.iload_n 1, 1) := by decide +kernel
theorem dS_commit_14 : decode cS_commit 14 = .ok (.lload_n 2, 1) := by decide +kernel
theorem dS_commit_15 : decode cS_commit 15 = .ok (.invokevirtual 70, 3) := by decide +kernel
theorem dS_commit_18 : decode cS_commit 18 = .ok (.aload_n 0, 1) := by decide +kernel
theorem dS_commit_19 : decode cS_commit 19 = .ok (.getfield 46, 3) := by decide +kernel
theorem dS_commit_22 : decode cS_commit 22 = .ok (.iload_n 1, 1) := by decide +kernel
theorem dS_commit_23 : decode cS_commit 23 = .ok (.invokevirtual 74, 3) := by decide +kernel
theorem dS_commit_26 : decode cS_commit 26 = .ok (.aload_n 0, 1) := by decide +kernel
theorem dS_commit_27 : decode cS_commit 27 = .ok (.getfield 39, 3) := by decide +kernel
theorem dS_commit_30 : decode cS_commit 30 = .ok (.getfield 77, 3) := by decide +kernel
theorem dS_commit_33 : decode cS_commit 33 = .ok (.iload_n 1, 1) := by decide +kernel
theorem dS_commit_34 : decode cS_commit 34 = .ok (.laload, 1) := by decide +kernel
theorem dS_commit_35 : decode cS_commit 35 = .ok (.lreturn, 1) := by decide +kernel
-- S_begin
theorem dS_begin_0 : decode cS_begin 0 = .ok (.aload_n 0, 1) := by decide +kernel
theorem dS_begin_1 : decode cS_begin 1 = .ok (.iload_n 1, 1) := by decide +kernel
theorem dS_begin_2 : decode cS_begin 2 = .ok (.invokevirtual 81, 3) := by decide +kernel
theorem dS_begin_5 : decode cS_begin 5 = .ok (.aload_n 0, 1) := by decide +kernel
theorem dS_begin_6 : decode cS_begin 6 = .ok (.invokevirtual 67, 3) := by decide +kernel
theorem dS_begin_9 : decode cS_begin 9 = .ok (.aload_n 0, 1) := by decide +kernel
theorem dS_begin_10 : decode cS_begin 10 = .ok (.getfield 39, 3) := by decide +kernel
theorem dS_begin_13 : decode cS_begin 13 = .ok (.iload_n 1, 1) := by decide +kernel
theorem dS_begin_14 : decode cS_begin 14 = .ok (.invokevirtual 84, 3) := by decide +kernel
theorem dS_begin_17 : decode cS_begin 17 = .ok (.ifCond .ne 13, 3) := by decide +kernel
theorem dS_begin_20 : decode cS_begin 20 = .ok (.new 88, 3) := by decide +kernel
theorem dS_begin_23 : decode cS_begin 23 = .ok (.dup, 1) := by decide +kernel
theorem dS_begin_24 : decode cS_begin 24 = .ok (.ldc 90, 2) := by decide +kernel
theorem dS_begin_26 : decode cS_begin 26 = .ok (.invokespecial 92, 3) := by decide +kernel
theorem dS_begin_29 : decode cS_begin 29 = .ok (.athrow, 1) := by decide +kernel
theorem dS_begin_30 : decode cS_begin 30 = .ok (.aload_n 0, 1) := by decide +kernel
theorem dS_begin_31 : decode cS_begin 31 = .ok (.getfield 46, 3) := by decide +kernel
theorem dS_begin_34 : decode cS_begin 34 = .ok (.iload_n 1, 1) := by decide +kernel
theorem dS_begin_35 : decode cS_begin 35 = .ok (.lload_n 2, 1) := by decide +kernel
theorem dS_begin_36 : decode cS_begin 36 = .ok (.aload_n 0, 1) := by decide +kernel
theorem dS_begin_37 : decode cS_begin 37 = .ok (.getfield 30, 3) := by decide +kernel
theorem dS_begin_40 : decode cS_begin 40 = .ok (.invokevirtual 60, 3) := by decide +kernel
theorem dS_begin_43 : decode cS_begin 43 = .ok (.aload_n 0, 1) := by decide +kernel
theorem dS_begin_44 : decode cS_begin 44 = .ok (.getfield 39, 3) := by decide +kernel
theorem dS_begin_47 : decode cS_begin 47 = .ok (.invokevirtual 95, 3) := by decide +kernel
theorem dS_begin_50 : decode cS_begin 50 = .ok (.aload_n 0, 1) := by decide +kernel
theorem dS_begin_51 : decode cS_begin 51 = .ok (.getfield 46, 3) := by decide +kernel
theorem dS_begin_54 : decode cS_begin 54 = .ok (.getfield 99, 3) := by decide +kernel
theorem dS_begin_57 : decode cS_begin 57 = .ok (.lreturn, 1) := by decide +kernel
-- S_sign
theorem dS_sign_0 : decode cS_sign 0 = .ok (.aload_n 0, 1) := by decide +kernel
theorem dS_sign_1 : decode cS_sign 1 = .ok (.iload_n 1, 1) := by decide +kernel
theorem dS_sign_2 : decode cS_sign 2 = .ok (.invokevirtual 64, 3) := by decide +kernel
theorem dS_sign_5 : decode cS_sign 5 = .ok (.aload_n 0, 1) := by decide +kernel
theorem dS_sign_6 : decode cS_sign 6 = .ok (.getfield 46, 3) := by decide +kernel
theorem dS_sign_9 : decode cS_sign 9 = .ok (.getfield 103, 3) := by decide +kernel
theorem dS_sign_12 : decode cS_sign 12 = .ok (.iload_n 1, 1) := by decide +kernel
theorem dS_sign_13 : decode cS_sign 13 = .ok (.invokestatic 106, 3) := by decide +kernel
theorem dS_sign_16 : decode cS_sign 16 = .ok (.ifCond .ne 13, 3) := by decide +kernel
theorem dS_sign_19 : decode cS_sign 19 = .ok (.new 88, 3) := by decide +kernel
theorem dS_sign_22 : decode cS_sign 22 = .ok (.dup, 1) := by decide +kernel
theorem dS_sign_23 : decode cS_sign 23 = .ok (.ldc 112, 2) := by decide +kernel
theorem dS_sign_25 : decode cS_sign 25 = .ok (.invokespecial 92, 3) := by decide +kernel
theorem dS_sign_28 : decode cS_sign 28 = .ok (.athrow, 1) := by decide +kernel
theorem dS_sign_29 : decode cS_sign 29 = .ok (.aload_n 0, 1) := by decide +kernel
theorem dS_sign_30 : decode cS_sign 30 = .ok (.getfield 46, 3) := by decide +kernel
theorem dS_sign_33 : decode cS_sign 33 = .ok (.iload_n 1, 1) := by decide +kernel
theorem dS_sign_34 : decode cS_sign 34 = .ok (.aload_n 0, 1) := by decide +kernel
theorem dS_sign_35 : decode cS_sign 35 = .ok (.getfield 30, 3) := by decide +kernel
theorem dS_sign_38 : decode cS_sign 38 = .ok (.getfield 114, 3) := by decide +kernel
theorem dS_sign_41 : decode cS_sign 41 = .ok (.iload_n 1, 1) := by decide +kernel
theorem dS_sign_42 : decode cS_sign 42 = .ok (.laload, 1) := by decide +kernel
theorem dS_sign_43 : decode cS_sign 43 = .ok (.aload_n 0, 1) := by decide +kernel
theorem dS_sign_44 : decode cS_sign 44 = .ok (.getfield 39, 3) := by decide +kernel
theorem dS_sign_47 : decode cS_sign 47 = .ok (.invokevirtual 117, 3) := by decide +kernel
theorem dS_sign_50 : decode cS_sign 50 = .ok (.aload_n 0, 1) := by decide +kernel
theorem dS_sign_51 : decode cS_sign 51 = .ok (.getfield 46, 3) := by decide +kernel
theorem dS_sign_54 : decode cS_sign 54 = .ok (.iload_n 1, 1) := by decide +kernel
theorem dS_sign_55 : decode cS_sign 55 = .ok (.invokevirtual 74, 3) := by decide +kernel
theorem dS_sign_58 : decode cS_sign 58 = .ok (.aload_n 0, 1) := by decide +kernel
theorem dS_sign_59 : decode cS_sign 59 = .ok (.getfield 39, 3) := by decide +kernel
theorem dS_sign_62 : decode cS_sign 62 = .ok (.iload_n 1, 1) := by decide +kernel
theorem dS_sign_63 : decode cS_sign 63 = .ok (.invokevirtual 121, 3) := by decide +kernel
theorem dS_sign_66 : decode cS_sign 66 = .ok (.aload_n 0, 1) := by decide +kernel
theorem dS_sign_67 : decode cS_sign 67 = .ok (.getfield 46, 3) := by decide +kernel
theorem dS_sign_70 : decode cS_sign 70 = .ok (.getfield 124, 3) := by decide +kernel
theorem dS_sign_73 : decode cS_sign 73 = .ok (.iload_n 1, 1) := by decide +kernel
theorem dS_sign_74 : decode cS_sign 74 = .ok (.laload, 1) := by decide +kernel
theorem dS_sign_75 : decode cS_sign 75 = .ok (.lreturn, 1) := by decide +kernel
-- S_submit
theorem dS_submit_0 : decode cS_submit 0 = .ok (.aload_n 0, 1) := by decide +kernel
theorem dS_submit_1 : decode cS_submit 1 = .ok (.iload_n 1, 1) := by decide +kernel
theorem dS_submit_2 : decode cS_submit 2 = .ok (.invokevirtual 64, 3) := by decide +kernel
theorem dS_submit_5 : decode cS_submit 5 = .ok (.aload_n 0, 1) := by decide +kernel
theorem dS_submit_6 : decode cS_submit 6 = .ok (.lload_n 2, 1) := by decide +kernel
theorem dS_submit_7 : decode cS_submit 7 = .ok (.invokevirtual 127, 3) := by decide +kernel
theorem dS_submit_10 : decode cS_submit 10 = .ok (.aload_n 0, 1) := by decide +kernel
theorem dS_submit_11 : decode cS_submit 11 = .ok (.iload_n 1, 1) := by decide +kernel
theorem dS_submit_12 : decode cS_submit 12 = .ok (.invokevirtual 130, 3) := by decide +kernel
theorem dS_submit_15 : decode cS_submit 15 = .ok (.aload_n 0, 1) := by decide +kernel
theorem dS_submit_16 : decode cS_submit 16 = .ok (.getfield 46, 3) := by decide +kernel
theorem dS_submit_19 : decode cS_submit 19 = .ok (.iload_n 1, 1) := by decide +kernel
theorem dS_submit_20 : decode cS_submit 20 = .ok (.lload_n 2, 1) := by decide +kernel
theorem dS_submit_21 : decode cS_submit 21 = .ok (.aload_n 0, 1) := by decide +kernel
theorem dS_submit_22 : decode cS_submit 22 = .ok (.getfield 30, 3) := by decide +kernel
theorem dS_submit_25 : decode cS_submit 25 = .ok (.getfield 133, 3) := by decide +kernel
theorem dS_submit_28 : decode cS_submit 28 = .ok (.iload_n 1, 1) := by decide +kernel
theorem dS_submit_29 : decode cS_submit 29 = .ok (.laload, 1) := by decide +kernel
theorem dS_submit_30 : decode cS_submit 30 = .ok (.invokevirtual 136, 3) := by decide +kernel
theorem dS_submit_33 : decode cS_submit 33 = .ok (.ireturn, 1) := by decide +kernel
-- S_relay
theorem dS_relay_0 : decode cS_relay 0 = .ok (.aload_n 0, 1) := by decide +kernel
theorem dS_relay_1 : decode cS_relay 1 = .ok (.iload_n 1, 1) := by decide +kernel
theorem dS_relay_2 : decode cS_relay 2 = .ok (.invokevirtual 64, 3) := by decide +kernel
theorem dS_relay_5 : decode cS_relay 5 = .ok (.aload_n 0, 1) := by decide +kernel
theorem dS_relay_6 : decode cS_relay 6 = .ok (.lload_n 2, 1) := by decide +kernel
theorem dS_relay_7 : decode cS_relay 7 = .ok (.invokevirtual 127, 3) := by decide +kernel
theorem dS_relay_10 : decode cS_relay 10 = .ok (.aload_n 0, 1) := by decide +kernel
theorem dS_relay_11 : decode cS_relay 11 = .ok (.iload_n 1, 1) := by decide +kernel
theorem dS_relay_12 : decode cS_relay 12 = .ok (.invokevirtual 130, 3) := by decide +kernel
theorem dS_relay_15 : decode cS_relay 15 = .ok (.aload_n 0, 1) := by decide +kernel
theorem dS_relay_16 : decode cS_relay 16 = .ok (.getfield 46, 3) := by decide +kernel
theorem dS_relay_19 : decode cS_relay 19 = .ok (.getfield 140, 3) := by decide +kernel
theorem dS_relay_22 : decode cS_relay 22 = .ok (.iload_n 1, 1) := by decide +kernel
theorem dS_relay_23 : decode cS_relay 23 = .ok (.invokestatic 106, 3) := by decide +kernel
theorem dS_relay_26 : decode cS_relay 26 = .ok (.ifCond .ne 13, 3) := by decide +kernel
theorem dS_relay_29 : decode cS_relay 29 = .ok (.new 88, 3) := by decide +kernel
theorem dS_relay_32 : decode cS_relay 32 = .ok (.dup, 1) := by decide +kernel
theorem dS_relay_33 : decode cS_relay 33 = .ok (.ldc 143, 2) := by decide +kernel
theorem dS_relay_35 : decode cS_relay 35 = .ok (.invokespecial 92, 3) := by decide +kernel
theorem dS_relay_38 : decode cS_relay 38 = .ok (.athrow, 1) := by decide +kernel
theorem dS_relay_39 : decode cS_relay 39 = .ok (.aload_n 0, 1) := by decide +kernel
theorem dS_relay_40 : decode cS_relay 40 = .ok (.getfield 46, 3) := by decide +kernel
theorem dS_relay_43 : decode cS_relay 43 = .ok (.iload_n 1, 1) := by decide +kernel
theorem dS_relay_44 : decode cS_relay 44 = .ok (.aload_n 0, 1) := by decide +kernel
theorem dS_relay_45 : decode cS_relay 45 = .ok (.getfield 46, 3) := by decide +kernel
theorem dS_relay_48 : decode cS_relay 48 = .ok (.getfield 124, 3) := by decide +kernel
theorem dS_relay_51 : decode cS_relay 51 = .ok (.iload_n 1, 1) := by decide +kernel
theorem dS_relay_52 : decode cS_relay 52 = .ok (.laload, 1) := by decide +kernel
theorem dS_relay_53 : decode cS_relay 53 = .ok (.lload_n 2, 1) := by decide +kernel
theorem dS_relay_54 : decode cS_relay 54 = .ok (.invokestatic 145, 3) := by decide +kernel
theorem dS_relay_57 : decode cS_relay 57 = .ok (.aload_n 0, 1) := by decide +kernel
theorem dS_relay_58 : decode cS_relay 58 = .ok (.getfield 30, 3) := by decide +kernel
theorem dS_relay_61 : decode cS_relay 61 = .ok (.getfield 133, 3) := by decide +kernel
theorem dS_relay_64 : decode cS_relay 64 = .ok (.iload_n 1, 1) := by decide +kernel
theorem dS_relay_65 : decode cS_relay 65 = .ok (.laload, 1) := by decide +kernel
theorem dS_relay_66 : decode cS_relay 66 = .ok (.invokevirtual 136, 3) := by decide +kernel
theorem dS_relay_69 : decode cS_relay 69 = .ok (.ireturn, 1) := by decide +kernel
-- S_seal
theorem dS_seal_0 : decode cS_seal 0 = .ok (.aload_n 0, 1) := by decide +kernel
theorem dS_seal_1 : decode cS_seal 1 = .ok (.invokevirtual 151, 3) := by decide +kernel
theorem dS_seal_4 : decode cS_seal 4 = .ok (.aload_n 0, 1) := by decide +kernel
theorem dS_seal_5 : decode cS_seal 5 = .ok (.getfield 46, 3) := by decide +kernel
theorem dS_seal_8 : decode cS_seal 8 = .ok (.getfield 154, 3) := by decide +kernel
theorem dS_seal_11 : decode cS_seal 11 = .ok (.lreturn, 1) := by decide +kernel
-- S_check
theorem dS_check_0 : decode cS_check 0 = .ok (.aload_n 0, 1) := by decide +kernel
theorem dS_check_1 : decode cS_check 1 = .ok (.getfield 30, 3) := by decide +kernel
theorem dS_check_4 : decode cS_check 4 = .ok (.getfield 157, 3) := by decide +kernel
theorem dS_check_7 : decode cS_check 7 = .ok (.ifCond .eq 18, 3) := by decide +kernel
theorem dS_check_10 : decode cS_check 10 = .ok (.aload_n 0, 1) := by decide +kernel
theorem dS_check_11 : decode cS_check 11 = .ok (.lload_n 1, 1) := by decide +kernel
theorem dS_check_12 : decode cS_check 12 = .ok (.lload_n 3, 1) := by decide +kernel
theorem dS_check_13 : decode cS_check 13 = .ok (.lload 5, 2) := by decide +kernel
theorem dS_check_15 : decode cS_check 15 = .ok (.invokevirtual 161, 3) := by decide +kernel
theorem dS_check_18 : decode cS_check 18 = .ok (.ifCond .eq 7, 3) := by decide +kernel
theorem dS_check_21 : decode cS_check 21 = .ok (.iconst 1, 1) := by decide +kernel
theorem dS_check_22 : decode cS_check 22 = .ok (.goto 4, 3) := by decide +kernel
theorem dS_check_25 : decode cS_check 25 = .ok (.iconst 0, 1) := by decide +kernel
theorem dS_check_26 : decode cS_check 26 = .ok (.ireturn, 1) := by decide +kernel
-- S_holds
theorem dS_holds_0 : decode cS_holds 0 = .ok (.aload_n 0, 1) := by decide +kernel
theorem dS_holds_1 : decode cS_holds 1 = .ok (.lload_n 3, 1) := by decide +kernel
theorem dS_holds_2 : decode cS_holds 2 = .ok (.invokevirtual 127, 3) := by decide +kernel
theorem dS_holds_5 : decode cS_holds 5 = .ok (.aload_n 0, 1) := by decide +kernel
theorem dS_holds_6 : decode cS_holds 6 = .ok (.invokevirtual 151, 3) := by decide +kernel
theorem dS_holds_9 : decode cS_holds 9 = .ok (.aload_n 0, 1) := by decide +kernel
theorem dS_holds_10 : decode cS_holds 10 = .ok (.lload_n 1, 1) := by decide +kernel
theorem dS_holds_11 : decode cS_holds 11 = .ok (.aload_n 0, 1) := by decide +kernel
theorem dS_holds_12 : decode cS_holds 12 = .ok (.getfield 46, 3) := by decide +kernel
theorem dS_holds_15 : decode cS_holds 15 = .ok (.getfield 99, 3) := by decide +kernel
theorem dS_holds_18 : decode cS_holds 18 = .ok (.aload_n 0, 1) := by decide +kernel
theorem dS_holds_19 : decode cS_holds 19 = .ok (.getfield 46, 3) := by decide +kernel
theorem dS_holds_22 : decode cS_holds 22 = .ok (.getfield 154, 3) := by decide +kernel
theorem dS_holds_25 : decode cS_holds 25 = .ok (.lload_n 3, 1) := by decide +kernel
theorem dS_holds_26 : decode cS_holds 26 = .ok (.invokestatic 145, 3) := by decide +kernel
theorem dS_holds_29 : decode cS_holds 29 = .ok (.invokevirtual 161, 3) := by decide +kernel
theorem dS_holds_32 : decode cS_holds 32 = .ok (.ireturn, 1) := by decide +kernel
-- S_recover
theorem dS_recover_0 : decode cS_recover 0 = .ok (.aload_n 0, 1) := by decide +kernel
theorem dS_recover_1 : decode cS_recover 1 = .ok (.iload_n 1, 1) := by decide +kernel
theorem dS_recover_2 : decode cS_recover 2 = .ok (.invokevirtual 81, 3) := by decide +kernel
theorem dS_recover_5 : decode cS_recover 5 = .ok (.aload_n 0, 1) := by decide +kernel
theorem dS_recover_6 : decode cS_recover 6 = .ok (.invokevirtual 67, 3) := by decide +kernel
theorem dS_recover_9 : decode cS_recover 9 = .ok (.lconst 0, 1) := by decide +kernel
theorem dS_recover_10 : decode cS_recover 10 = .ok (.lstore_n 2, 1) := by decide +kernel
theorem dS_recover_11 : decode cS_recover 11 = .ok (.iconst 1, 1) := by decide +kernel
theorem dS_recover_12 : decode cS_recover 12 = .ok (.istore 4, 2) := by decide +kernel
theorem dS_recover_14 : decode cS_recover 14 = .ok (.iload 4, 2) := by decide +kernel
theorem dS_recover_16 : decode cS_recover 16 = .ok (.aload_n 0, 1) := by decide +kernel
theorem dS_recover_17 : decode cS_recover 17 = .ok (.getfield 18, 3) := by decide +kernel
theorem dS_recover_20 : decode cS_recover 20 = .ok (.if_icmp .gt 50, 3) := by decide +kernel
theorem dS_recover_23 : decode cS_recover 23 = .ok (.iload_n 1, 1) := by decide +kernel
theorem dS_recover_24 : decode cS_recover 24 = .ok (.iload 4, 2) := by decide +kernel
theorem dS_recover_26 : decode cS_recover 26 = .ok (.invokestatic 106, 3) := by decide +kernel
theorem dS_recover_29 : decode cS_recover 29 = .ok (.ifCond .eq 35, 3) := by decide +kernel
theorem dS_recover_32 : decode cS_recover 32 = .ok (.iload_n 1, 1) := by decide +kernel
theorem dS_recover_33 : decode cS_recover 33 = .ok (.iload 4, 2) := by decide +kernel
theorem dS_recover_35 : decode cS_recover 35 = .ok (.aload_n 0, 1) := by decide +kernel
theorem dS_recover_36 : decode cS_recover 36 = .ok (.getfield 18, 3) := by decide +kernel
theorem dS_recover_39 : decode cS_recover 39 = .ok (.invokestatic 165, 3) := by decide +kernel
theorem dS_recover_42 : decode cS_recover 42 = .ok (.aload_n 0, 1) := by decide +kernel
theorem dS_recover_43 : decode cS_recover 43 = .ok (.getfield 30, 3) := by decide +kernel
theorem dS_recover_46 : decode cS_recover 46 = .ok (.getfield 114, 3) := by decide +kernel
theorem dS_recover_49 : decode cS_recover 49 = .ok (.iload 4, 2) := by decide +kernel
theorem dS_recover_51 : decode cS_recover 51 = .ok (.laload, 1) := by decide +kernel
theorem dS_recover_52 : decode cS_recover 52 = .ok (.invokestatic 169, 3) := by decide +kernel
theorem dS_recover_55 : decode cS_recover 55 = .ok (.lstore 5, 2) := by decide +kernel
theorem dS_recover_57 : decode cS_recover 57 = .ok (.lload_n 2, 1) := by decide +kernel
theorem dS_recover_58 : decode cS_recover 58 = .ok (.lload 5, 2) := by decide +kernel
theorem dS_recover_60 : decode cS_recover 60 = .ok (.invokestatic 145, 3) := by decide +kernel
theorem dS_recover_63 : decode cS_recover 63 = .ok (.lstore_n 2, 1) := by decide +kernel
theorem dS_recover_64 : decode cS_recover 64 = .ok (.iinc 4 1, 3) := by decide +kernel
theorem dS_recover_67 : decode cS_recover 67 = .ok (.goto (-53), 3) := by decide +kernel
theorem dS_recover_70 : decode cS_recover 70 = .ok (.lload_n 2, 1) := by decide +kernel
theorem dS_recover_71 : decode cS_recover 71 = .ok (.lreturn, 1) := by decide +kernel
-- S_key
theorem dS_key_0 : decode cS_key 0 = .ok (.aload_n 0, 1) := by decide +kernel
theorem dS_key_1 : decode cS_key 1 = .ok (.getfield 30, 3) := by decide +kernel
theorem dS_key_4 : decode cS_key 4 = .ok (.getfield 157, 3) := by decide +kernel
theorem dS_key_7 : decode cS_key 7 = .ok (.ifCond .eq 19, 3) := by decide +kernel
theorem dS_key_10 : decode cS_key 10 = .ok (.iload_n 1, 1) := by decide +kernel
theorem dS_key_11 : decode cS_key 11 = .ok (.ifCond .eq 11, 3) := by decide +kernel
theorem dS_key_14 : decode cS_key 14 = .ok (.aload_n 0, 1) := by decide +kernel
theorem dS_key_15 : decode cS_key 15 = .ok (.iload_n 1, 1) := by decide +kernel
theorem dS_key_16 : decode cS_key 16 = .ok (.invokevirtual 172, 3) := by decide +kernel
theorem dS_key_19 : decode cS_key 19 = .ok (.ifCond .eq 7, 3) := by decide +kernel
theorem dS_key_22 : decode cS_key 22 = .ok (.iconst 1, 1) := by decide +kernel
theorem dS_key_23 : decode cS_key 23 = .ok (.goto 4, 3) := by decide +kernel
theorem dS_key_26 : decode cS_key 26 = .ok (.iconst 0, 1) := by decide +kernel
theorem dS_key_27 : decode cS_key 27 = .ok (.istore_n 2, 1) := by decide +kernel
theorem dS_key_28 : decode cS_key 28 = .ok (.iload_n 2, 1) := by decide +kernel
theorem dS_key_29 : decode cS_key 29 = .ok (.ifCond .eq 15, 3) := by decide +kernel
theorem dS_key_32 : decode cS_key 32 = .ok (.aload_n 0, 1) := by decide +kernel
theorem dS_key_33 : decode cS_key 33 = .ok (.getfield 30, 3) := by decide +kernel
theorem dS_key_36 : decode cS_key 36 = .ok (.getfield 133, 3) := by decide +kernel
theorem dS_key_39 : decode cS_key 39 = .ok (.iload_n 1, 1) := by decide +kernel
theorem dS_key_40 : decode cS_key 40 = .ok (.laload, 1) := by decide +kernel
theorem dS_key_41 : decode cS_key 41 = .ok (.goto 6, 3) := by decide +kernel
theorem dS_key_44 : decode cS_key 44 = .ok (.ldc2_w 175, 3) := by decide +kernel
theorem dS_key_47 : decode cS_key 47 = .ok (.lreturn, 1) := by decide +kernel
-- S_secret
theorem dS_secret_0 : decode cS_secret 0 = .ok (.aload_n 0, 1) := by decide +kernel
theorem dS_secret_1 : decode cS_secret 1 = .ok (.getfield 30, 3) := by decide +kernel
theorem dS_secret_4 : decode cS_secret 4 = .ok (.getfield 157, 3) := by decide +kernel
theorem dS_secret_7 : decode cS_secret 7 = .ok (.ifCond .eq 23, 3) := by decide +kernel
theorem dS_secret_10 : decode cS_secret 10 = .ok (.aload_n 0, 1) := by decide +kernel
theorem dS_secret_11 : decode cS_secret 11 = .ok (.iload_n 1, 1) := by decide +kernel
theorem dS_secret_12 : decode cS_secret 12 = .ok (.invokevirtual 172, 3) := by decide +kernel
theorem dS_secret_15 : decode cS_secret 15 = .ok (.ifCond .eq 15, 3) := by decide +kernel
theorem dS_secret_18 : decode cS_secret 18 = .ok (.aload_n 0, 1) := by decide +kernel
theorem dS_secret_19 : decode cS_secret 19 = .ok (.getfield 30, 3) := by decide +kernel
theorem dS_secret_22 : decode cS_secret 22 = .ok (.getfield 114, 3) := by decide +kernel
theorem dS_secret_25 : decode cS_secret 25 = .ok (.iload_n 1, 1) := by decide +kernel
theorem dS_secret_26 : decode cS_secret 26 = .ok (.laload, 1) := by decide +kernel
theorem dS_secret_27 : decode cS_secret 27 = .ok (.goto 6, 3) := by decide +kernel
theorem dS_secret_30 : decode cS_secret 30 = .ok (.ldc2_w 175, 3) := by decide +kernel
theorem dS_secret_33 : decode cS_secret 33 = .ok (.lreturn, 1) := by decide +kernel
-- S_commitment
theorem dS_commitment_0 : decode cS_commitment 0 = .ok (.aload_n 0, 1) := by decide +kernel
theorem dS_commitment_1 : decode cS_commitment 1 = .ok (.iload_n 1, 1) := by decide +kernel
theorem dS_commitment_2 : decode cS_commitment 2 = .ok (.invokevirtual 172, 3) := by decide +kernel
theorem dS_commitment_5 : decode cS_commitment 5 = .ok (.ifCond .eq 17, 3) := by decide +kernel
theorem dS_commitment_8 : decode cS_commitment 8 = .ok (.aload_n 0, 1) := by decide +kernel
theorem dS_commitment_9 : decode cS_commitment 9 = .ok (.getfield 39, 3) := by decide +kernel
theorem dS_commitment_12 : decode cS_commitment 12 = .ok (.getfield 177, 3) := by decide +kernel
theorem dS_commitment_15 : decode cS_commitment 15 = .ok (.iload_n 1, 1) := by decide +kernel
theorem dS_commitment_16 : decode cS_commitment 16 = .ok (.invokestatic 106, 3) := by decide +kernel
theorem dS_commitment_19 : decode cS_commitment 19 = .ok (.ifCond .ne 7, 3) := by decide +kernel
theorem dS_commitment_22 : decode cS_commitment 22 = .ok (.ldc2_w 175, 3) := by decide +kernel
theorem dS_commitment_25 : decode cS_commitment 25 = .ok (.lreturn, 1) := by decide +kernel
theorem dS_commitment_26 : decode cS_commitment 26 = .ok (.iload_n 2, 1) := by decide +kernel
theorem dS_commitment_27 : decode cS_commitment 27 = .ok (.ifCond .eq 15, 3) := by decide +kernel
theorem dS_commitment_30 : decode cS_commitment 30 = .ok (.aload_n 0, 1) := by decide +kernel
theorem dS_commitment_31 : decode cS_commitment 31 = .ok (.getfield 39, 3) := by decide +kernel
theorem dS_commitment_34 : decode cS_commitment 34 = .ok (.getfield 180, 3) := by decide +kernel
theorem dS_commitment_37 : decode cS_commitment 37 = .ok (.iload_n 1, 1) := by decide +kernel
theorem dS_commitment_38 : decode cS_commitment 38 = .ok (.laload, 1) := by decide +kernel
theorem dS_commitment_39 : decode cS_commitment 39 = .ok (.goto 12, 3) := by decide +kernel
theorem dS_commitment_42 : decode cS_commitment 42 = .ok (.aload_n 0, 1) := by decide +kernel
theorem dS_commitment_43 : decode cS_commitment 43 = .ok (.getfield 39, 3) := by decide +kernel
theorem dS_commitment_46 : decode cS_commitment 46 = .ok (.getfield 77, 3) := by decide +kernel
theorem dS_commitment_49 : decode cS_commitment 49 = .ok (.iload_n 1, 1) := by decide +kernel
theorem dS_commitment_50 : decode cS_commitment 50 = .ok (.laload, 1) := by decide +kernel
theorem dS_commitment_51 : decode cS_commitment 51 = .ok (.lreturn, 1) := by decide +kernel
-- S_factor
theorem dS_factor_0 : decode cS_factor 0 = .ok (.aload_n 0, 1) := by decide +kernel
theorem dS_factor_1 : decode cS_factor 1 = .ok (.iload_n 1, 1) := by decide +kernel
theorem dS_factor_2 : decode cS_factor 2 = .ok (.invokevirtual 183, 3) := by decide +kernel
theorem dS_factor_5 : decode cS_factor 5 = .ok (.ifCond .eq 15, 3) := by decide +kernel
theorem dS_factor_8 : decode cS_factor 8 = .ok (.aload_n 0, 1) := by decide +kernel
theorem dS_factor_9 : decode cS_factor 9 = .ok (.getfield 46, 3) := by decide +kernel
theorem dS_factor_12 : decode cS_factor 12 = .ok (.getfield 186, 3) := by decide +kernel
theorem dS_factor_15 : decode cS_factor 15 = .ok (.iload_n 1, 1) := by decide +kernel
theorem dS_factor_16 : decode cS_factor 16 = .ok (.laload, 1) := by decide +kernel
theorem dS_factor_17 : decode cS_factor 17 = .ok (.goto 6, 3) := by decide +kernel
theorem dS_factor_20 : decode cS_factor 20 = .ok (.ldc2_w 175, 3) := by decide +kernel
theorem dS_factor_23 : decode cS_factor 23 = .ok (.lreturn, 1) := by decide +kernel
-- S_weight
theorem dS_weight_0 : decode cS_weight 0 = .ok (.aload_n 0, 1) := by decide +kernel
theorem dS_weight_1 : decode cS_weight 1 = .ok (.iload_n 1, 1) := by decide +kernel
theorem dS_weight_2 : decode cS_weight 2 = .ok (.invokevirtual 183, 3) := by decide +kernel
theorem dS_weight_5 : decode cS_weight 5 = .ok (.ifCond .eq 15, 3) := by decide +kernel
theorem dS_weight_8 : decode cS_weight 8 = .ok (.aload_n 0, 1) := by decide +kernel
theorem dS_weight_9 : decode cS_weight 9 = .ok (.getfield 46, 3) := by decide +kernel
theorem dS_weight_12 : decode cS_weight 12 = .ok (.getfield 189, 3) := by decide +kernel
theorem dS_weight_15 : decode cS_weight 15 = .ok (.iload_n 1, 1) := by decide +kernel
theorem dS_weight_16 : decode cS_weight 16 = .ok (.laload, 1) := by decide +kernel
theorem dS_weight_17 : decode cS_weight 17 = .ok (.goto 6, 3) := by decide +kernel
theorem dS_weight_20 : decode cS_weight 20 = .ok (.ldc2_w 175, 3) := by decide +kernel
theorem dS_weight_23 : decode cS_weight 23 = .ok (.lreturn, 1) := by decide +kernel
-- S_challenge
theorem dS_challenge_0 : decode cS_challenge 0 = .ok (.aload_n 0, 1) := by decide +kernel
theorem dS_challenge_1 : decode cS_challenge 1 = .ok (.getfield 46, 3) := by decide +kernel
theorem dS_challenge_4 : decode cS_challenge 4 = .ok (.invokevirtual 192, 3) := by decide +kernel
theorem dS_challenge_7 : decode cS_challenge 7 = .ok (.ifCond .eq 13, 3) := by decide +kernel
theorem dS_challenge_10 : decode cS_challenge 10 = .ok (.aload_n 0, 1) := by decide +kernel
theorem dS_challenge_11 : decode cS_challenge 11 = .ok (.getfield 46, 3) := by decide +kernel
theorem dS_challenge_14 : decode cS_challenge 14 = .ok (.getfield 196, 3) := by decide +kernel
theorem dS_challenge_17 : decode cS_challenge 17 = .ok (.goto 6, 3) := by decide +kernel
theorem dS_challenge_20 : decode cS_challenge 20 = .ok (.ldc2_w 175, 3) := by decide +kernel
theorem dS_challenge_23 : decode cS_challenge 23 = .ok (.lreturn, 1) := by decide +kernel
-- S_members
theorem dS_members_0 : decode cS_members 0 = .ok (.aload_n 0, 1) := by decide +kernel
theorem dS_members_1 : decode cS_members 1 = .ok (.getfield 46, 3) := by decide +kernel
theorem dS_members_4 : decode cS_members 4 = .ok (.getfield 199, 3) := by decide +kernel
theorem dS_members_7 : decode cS_members 7 = .ok (.ireturn, 1) := by decide +kernel
-- S_taken
theorem dS_taken_0 : decode cS_taken 0 = .ok (.aload_n 0, 1) := by decide +kernel
theorem dS_taken_1 : decode cS_taken 1 = .ok (.getfield 46, 3) := by decide +kernel
theorem dS_taken_4 : decode cS_taken 4 = .ok (.getfield 202, 3) := by decide +kernel
theorem dS_taken_7 : decode cS_taken 7 = .ok (.ireturn, 1) := by decide +kernel
-- S_blamed
theorem dS_blamed_0 : decode cS_blamed 0 = .ok (.aload_n 0, 1) := by decide +kernel
theorem dS_blamed_1 : decode cS_blamed 1 = .ok (.getfield 46, 3) := by decide +kernel
theorem dS_blamed_4 : decode cS_blamed 4 = .ok (.getfield 205, 3) := by decide +kernel
theorem dS_blamed_7 : decode cS_blamed 7 = .ok (.ireturn, 1) := by decide +kernel
-- S_isSigner
theorem dS_isSigner_0 : decode cS_isSigner 0 = .ok (.iload_n 1, 1) := by decide +kernel
theorem dS_isSigner_1 : decode cS_isSigner 1 = .ok (.iconst 1, 1) := by decide +kernel
theorem dS_isSigner_2 : decode cS_isSigner 2 = .ok (.if_icmp .lt 15, 3) := by decide +kernel
theorem dS_isSigner_5 : decode cS_isSigner 5 = .ok (.iload_n 1, 1) := by decide +kernel
theorem dS_isSigner_6 : decode cS_isSigner 6 = .ok (.aload_n 0, 1) := by decide +kernel
theorem dS_isSigner_7 : decode cS_isSigner 7 = .ok (.getfield 18, 3) := by decide +kernel
theorem dS_isSigner_10 : decode cS_isSigner 10 = .ok (.if_icmp .gt 7, 3) := by decide +kernel
theorem dS_isSigner_13 : decode cS_isSigner 13 = .ok (.iconst 1, 1) := by decide +kernel
theorem dS_isSigner_14 : decode cS_isSigner 14 = .ok (.goto 4, 3) := by decide +kernel
theorem dS_isSigner_17 : decode cS_isSigner 17 = .ok (.iconst 0, 1) := by decide +kernel
theorem dS_isSigner_18 : decode cS_isSigner 18 = .ok (.ireturn, 1) := by decide +kernel
-- S_isMember
theorem dS_isMember_0 : decode cS_isMember 0 = .ok (.aload_n 0, 1) := by decide +kernel
theorem dS_isMember_1 : decode cS_isMember 1 = .ok (.iload_n 1, 1) := by decide +kernel
theorem dS_isMember_2 : decode cS_isMember 2 = .ok (.invokevirtual 172, 3) := by decide +kernel
theorem dS_isMember_5 : decode cS_isMember 5 = .ok (.ifCond .eq 21, 3) := by decide +kernel
theorem dS_isMember_8 : decode cS_isMember 8 = .ok (.aload_n 0, 1) := by decide +kernel
theorem dS_isMember_9 : decode cS_isMember 9 = .ok (.getfield 46, 3) := by decide +kernel
theorem dS_isMember_12 : decode cS_isMember 12 = .ok (.getfield 199, 3) := by decide +kernel
theorem dS_isMember_15 : decode cS_isMember 15 = .ok (.iload_n 1, 1) := by decide +kernel
theorem dS_isMember_16 : decode cS_isMember 16 = .ok (.invokestatic 106, 3) := by decide +kernel
theorem dS_isMember_19 : decode cS_isMember 19 = .ok (.ifCond .eq 7, 3) := by decide +kernel
theorem dS_isMember_22 : decode cS_isMember 22 = .ok (.iconst 1, 1) := by decide +kernel
theorem dS_isMember_23 : decode cS_isMember 23 = .ok (.goto 4, 3) := by decide +kernel
theorem dS_isMember_26 : decode cS_isMember 26 = .ok (.iconst 0, 1) := by decide +kernel
theorem dS_isMember_27 : decode cS_isMember 27 = .ok (.ireturn, 1) := by decide +kernel
-- S_sealHolds
theorem dS_sealHolds_0 : decode cS_sealHolds 0 = .ok (.lload_n 3, 1) := by decide +kernel
theorem dS_sealHolds_1 : decode cS_sealHolds 1 = .ok (.invokestatic 208, 3) := by decide +kernel
theorem dS_sealHolds_4 : decode cS_sealHolds 4 = .ok (.ifCond .eq 11, 3) := by decide +kernel
theorem dS_sealHolds_7 : decode cS_sealHolds 7 = .ok (.lload 5, 2) := by decide +kernel
theorem dS_sealHolds_9 : decode cS_sealHolds 9 = .ok (.invokestatic 214, 3) := by decide +kernel
theorem dS_sealHolds_12 : decode cS_sealHolds 12 = .ok (.ifCond .ne 5, 3) := by decide +kernel
theorem dS_sealHolds_15 : decode cS_sealHolds 15 = .ok (.iconst 0, 1) := by decide +kernel
theorem dS_sealHolds_16 : decode cS_sealHolds 16 = .ok (.ireturn, 1) := by decide +kernel
theorem dS_sealHolds_17 : decode cS_sealHolds 17 = .ok (.aload_n 0, 1) := by decide +kernel
theorem dS_sealHolds_18 : decode cS_sealHolds 18 = .ok (.getfield 30, 3) := by decide +kernel
theorem dS_sealHolds_21 : decode cS_sealHolds 21 = .ok (.invokevirtual 60, 3) := by decide +kernel
theorem dS_sealHolds_24 : decode cS_sealHolds 24 = .ok (.lstore 7, 2) := by decide +kernel
theorem dS_sealHolds_26 : decode cS_sealHolds 26 = .ok (.lload_n 3, 1) := by decide +kernel
theorem dS_sealHolds_27 : decode cS_sealHolds 27 = .ok (.lload 7, 2) := by decide +kernel
theorem dS_sealHolds_29 : decode cS_sealHolds 29 = .ok (.lload_n 1, 1) := by decide +kernel
theorem dS_sealHolds_30 : decode cS_sealHolds 30 = .ok (.invokestatic 217, 3) := by decide +kernel
theorem dS_sealHolds_33 : decode cS_sealHolds 33 = .ok (.lstore 9, 2) := by decide +kernel
theorem dS_sealHolds_35 : decode cS_sealHolds 35 = .ok (.lload 5, 2) := by decide +kernel
theorem dS_sealHolds_37 : decode cS_sealHolds 37 = .ok (.invokestatic 223, 3) := by decide +kernel
theorem dS_sealHolds_40 : decode cS_sealHolds 40 = .ok (.lload_n 3, 1) := by decide +kernel
theorem dS_sealHolds_41 : decode cS_sealHolds 41 = .ok (.lload 7, 2) := by decide +kernel
theorem dS_sealHolds_43 : decode cS_sealHolds 43 = .ok (.lload 9, 2) := by decide +kernel
theorem dS_sealHolds_45 : decode cS_sealHolds 45 = .ok (.invokestatic 227, 3) := by decide +kernel
theorem dS_sealHolds_48 : decode cS_sealHolds 48 = .ok (.invokestatic 230, 3) := by decide +kernel
theorem dS_sealHolds_51 : decode cS_sealHolds 51 = .ok (.lcmp, 1) := by decide +kernel
theorem dS_sealHolds_52 : decode cS_sealHolds 52 = .ok (.ifCond .ne 7, 3) := by decide +kernel
theorem dS_sealHolds_55 : decode cS_sealHolds 55 = .ok (.iconst 1, 1) := by decide +kernel
theorem dS_sealHolds_56 : decode cS_sealHolds 56 = .ok (.goto 4, 3) := by decide +kernel
theorem dS_sealHolds_59 : decode cS_sealHolds 59 = .ok (.iconst 0, 1) := by decide +kernel
theorem dS_sealHolds_60 : decode cS_sealHolds 60 = .ok (.ireturn, 1) := by decide +kernel
-- S_requireSigner
theorem dS_requireSigner_0 : decode cS_requireSigner 0 = .ok (.aload_n 0, 1) := by decide +kernel
theorem dS_requireSigner_1 : decode cS_requireSigner 1 = .ok (.iload_n 1, 1) := by decide +kernel
theorem dS_requireSigner_2 : decode cS_requireSigner 2 = .ok (.invokevirtual 172, 3) := by decide +kernel
theorem dS_requireSigner_5 : decode cS_requireSigner 5 = .ok (.ifCond .ne 13, 3) := by decide +kernel
theorem dS_requireSigner_8 : decode cS_requireSigner 8 = .ok (.new 231, 3) := by decide +kernel
theorem dS_requireSigner_11 : decode cS_requireSigner 11 = .ok (.dup, 1) := by decide +kernel
theorem dS_requireSigner_12 : decode cS_requireSigner 12 = .ok (.ldc 233, 2) := by decide +kernel
theorem dS_requireSigner_14 : decode cS_requireSigner 14 = .ok (.invokespecial 235, 3) := by decide +kernel
theorem dS_requireSigner_17 : decode cS_requireSigner 17 = .ok (.athrow, 1) := by decide +kernel
theorem dS_requireSigner_18 : decode cS_requireSigner 18 = .ok (.return_, 1) := by decide +kernel
-- S_requireNumber
theorem dS_requireNumber_0 : decode cS_requireNumber 0 = .ok (.lload_n 1, 1) := by decide +kernel
theorem dS_requireNumber_1 : decode cS_requireNumber 1 = .ok (.invokestatic 214, 3) := by decide +kernel
theorem dS_requireNumber_4 : decode cS_requireNumber 4 = .ok (.ifCond .ne 13, 3) := by decide +kernel
theorem dS_requireNumber_7 : decode cS_requireNumber 7 = .ok (.new 231, 3) := by decide +kernel
theorem dS_requireNumber_10 : decode cS_requireNumber 10 = .ok (.dup, 1) := by decide +kernel
theorem dS_requireNumber_11 : decode cS_requireNumber 11 = .ok (.ldc 236, 2) := by decide +kernel
theorem dS_requireNumber_13 : decode cS_requireNumber 13 = .ok (.invokespecial 235, 3) := by decide +kernel
theorem dS_requireNumber_16 : decode cS_requireNumber 16 = .ok (.athrow, 1) := by decide +kernel
theorem dS_requireNumber_17 : decode cS_requireNumber 17 = .ok (.return_, 1) := by decide +kernel
-- S_requireEnough
theorem dS_requireEnough_0 : decode cS_requireEnough 0 = .ok (.iload_n 1, 1) := by decide +kernel
theorem dS_requireEnough_1 : decode cS_requireEnough 1 = .ok (.aload_n 0, 1) := by decide +kernel
theorem dS_requireEnough_2 : decode cS_requireEnough 2 = .ok (.getfield 18, 3) := by decide +kernel
theorem dS_requireEnough_5 : decode cS_requireEnough 5 = .ok (.iushr, 1) := by decide +kernel
theorem dS_requireEnough_6 : decode cS_requireEnough 6 = .ok (.ifCond .ne 14, 3) := by decide +kernel
theorem dS_requireEnough_9 : decode cS_requireEnough 9 = .ok (.iload_n 1, 1) := by decide +kernel
theorem dS_requireEnough_10 : decode cS_requireEnough 10 = .ok (.invokestatic 238, 3) := by decide +kernel
theorem dS_requireEnough_13 : decode cS_requireEnough 13 = .ok (.aload_n 0, 1) := by decide +kernel
theorem dS_requireEnough_14 : decode cS_requireEnough 14 = .ok (.getfield 22, 3) := by decide +kernel
theorem dS_requireEnough_17 : decode cS_requireEnough 17 = .ok (.if_icmp .ge 13, 3) := by decide +kernel
theorem dS_requireEnough_20 : decode cS_requireEnough 20 = .ok (.new 231, 3) := by decide +kernel
theorem dS_requireEnough_23 : decode cS_requireEnough 23 = .ok (.dup, 1) := by decide +kernel
theorem dS_requireEnough_24 : decode cS_requireEnough 24 = .ok (.ldc 244, 2) := by decide +kernel
theorem dS_requireEnough_26 : decode cS_requireEnough 26 = .ok (.invokespecial 235, 3) := by decide +kernel
theorem dS_requireEnough_29 : decode cS_requireEnough 29 = .ok (.athrow, 1) := by decide +kernel
theorem dS_requireEnough_30 : decode cS_requireEnough 30 = .ok (.return_, 1) := by decide +kernel
-- S_requireDealt
theorem dS_requireDealt_0 : decode cS_requireDealt 0 = .ok (.aload_n 0, 1) := by decide +kernel
theorem dS_requireDealt_1 : decode cS_requireDealt 1 = .ok (.getfield 30, 3) := by decide +kernel
theorem dS_requireDealt_4 : decode cS_requireDealt 4 = .ok (.getfield 157, 3) := by decide +kernel
theorem dS_requireDealt_7 : decode cS_requireDealt 7 = .ok (.ifCond .ne 13, 3) := by decide +kernel
theorem dS_requireDealt_10 : decode cS_requireDealt 10 = .ok (.new 88, 3) := by decide +kernel
theorem dS_requireDealt_13 : decode cS_requireDealt 13 = .ok (.dup, 1) := by decide +kernel
theorem dS_requireDealt_14 : decode cS_requireDealt 14 = .ok (.ldc 246, 2) := by decide +kernel
theorem dS_requireDealt_16 : decode cS_requireDealt 16 = .ok (.invokespecial 92, 3) := by decide +kernel
theorem dS_requireDealt_19 : decode cS_requireDealt 19 = .ok (.athrow, 1) := by decide +kernel
theorem dS_requireDealt_20 : decode cS_requireDealt 20 = .ok (.return_, 1) := by decide +kernel
-- S_requireUntaken
theorem dS_requireUntaken_0 : decode cS_requireUntaken 0 = .ok (.aload_n 0, 1) := by decide +kernel
theorem dS_requireUntaken_1 : decode cS_requireUntaken 1 = .ok (.iload_n 1, 1) := by decide +kernel
theorem dS_requireUntaken_2 : decode cS_requireUntaken 2 = .ok (.invokevirtual 183, 3) := by decide +kernel
theorem dS_requireUntaken_5 : decode cS_requireUntaken 5 = .ok (.ifCond .eq 17, 3) := by decide +kernel
theorem dS_requireUntaken_8 : decode cS_requireUntaken 8 = .ok (.aload_n 0, 1) := by decide +kernel
theorem dS_requireUntaken_9 : decode cS_requireUntaken 9 = .ok (.getfield 46, 3) := by decide +kernel
theorem dS_requireUntaken_12 : decode cS_requireUntaken 12 = .ok (.getfield 202, 3) := by decide +kernel
theorem dS_requireUntaken_15 : decode cS_requireUntaken 15 = .ok (.iload_n 1, 1) := by decide +kernel
theorem dS_requireUntaken_16 : decode cS_requireUntaken 16 = .ok (.invokestatic 106, 3) := by decide +kernel
theorem dS_requireUntaken_19 : decode cS_requireUntaken 19 = .ok (.ifCond .eq 13, 3) := by decide +kernel
theorem dS_requireUntaken_22 : decode cS_requireUntaken 22 = .ok (.new 88, 3) := by decide +kernel
theorem dS_requireUntaken_25 : decode cS_requireUntaken 25 = .ok (.dup, 1) := by decide +kernel
theorem dS_requireUntaken_26 : decode cS_requireUntaken 26 = .ok (.ldc 248, 2) := by decide +kernel
theorem dS_requireUntaken_28 : decode cS_requireUntaken 28 = .ok (.invokespecial 92, 3) := by decide +kernel
theorem dS_requireUntaken_31 : decode cS_requireUntaken 31 = .ok (.athrow, 1) := by decide +kernel
theorem dS_requireUntaken_32 : decode cS_requireUntaken 32 = .ok (.return_, 1) := by decide +kernel
-- S_requireSealed
theorem dS_requireSealed_0 : decode cS_requireSealed 0 = .ok (.aload_n 0, 1) := by decide +kernel
theorem dS_requireSealed_1 : decode cS_requireSealed 1 = .ok (.getfield 46, 3) := by decide +kernel
theorem dS_requireSealed_4 : decode cS_requireSealed 4 = .ok (.invokevirtual 192, 3) := by decide +kernel
theorem dS_requireSealed_7 : decode cS_requireSealed 7 = .ok (.ifCond .eq 20, 3) := by decide +kernel
theorem dS_requireSealed_10 : decode cS_requireSealed 10 = .ok (.aload_n 0, 1) := by decide +kernel
theorem dS_requireSealed_11 : decode cS_requireSealed 11 = .ok (.getfield 46, 3) := by decide +kernel
theorem dS_requireSealed_14 : decode cS_requireSealed 14 = .ok (.getfield 202, 3) := by decide +kernel
theorem dS_requireSealed_17 : decode cS_requireSealed 17 = .ok (.aload_n 0, 1) := by decide +kernel
theorem dS_requireSealed_18 : decode cS_requireSealed 18 = .ok (.getfield 46, 3) := by decide +kernel
theorem dS_requireSealed_21 : decode cS_requireSealed 21 = .ok (.getfield 199, 3) := by decide +kernel
theorem dS_requireSealed_24 : decode cS_requireSealed 24 = .ok (.if_icmp .eq 13, 3) := by decide +kernel
theorem dS_requireSealed_27 : decode cS_requireSealed 27 = .ok (.new 88, 3) := by decide +kernel
theorem dS_requireSealed_30 : decode cS_requireSealed 30 = .ok (.dup, 1) := by decide +kernel
theorem dS_requireSealed_31 : decode cS_requireSealed 31 = .ok (.ldc 250, 2) := by decide +kernel
theorem dS_requireSealed_33 : decode cS_requireSealed 33 = .ok (.invokespecial 92, 3) := by decide +kernel
theorem dS_requireSealed_36 : decode cS_requireSealed 36 = .ok (.athrow, 1) := by decide +kernel
theorem dS_requireSealed_37 : decode cS_requireSealed 37 = .ok (.return_, 1) := by decide +kernel
-- D_init
theorem dD_init_0 : decode cD_init 0 = .ok (.aload_n 0, 1) := by decide +kernel
theorem dD_init_1 : decode cD_init 1 = .ok (.invokespecial 1, 3) := by decide +kernel
theorem dD_init_4 : decode cD_init 4 = .ok (.aload_n 0, 1) := by decide +kernel
theorem dD_init_5 : decode cD_init 5 = .ok (.iload_n 1, 1) := by decide +kernel
theorem dD_init_6 : decode cD_init 6 = .ok (.putfield 7, 3) := by decide +kernel
theorem dD_init_9 : decode cD_init 9 = .ok (.aload_n 0, 1) := by decide +kernel
theorem dD_init_10 : decode cD_init 10 = .ok (.iload_n 2, 1) := by decide +kernel
theorem dD_init_11 : decode cD_init 11 = .ok (.putfield 13, 3) := by decide +kernel
theorem dD_init_14 : decode cD_init 14 = .ok (.aload_n 0, 1) := by decide +kernel
theorem dD_init_15 : decode cD_init 15 = .ok (.iload_n 2, 1) := by decide +kernel
theorem dD_init_16 : decode cD_init 16 = .ok (.newarray .long, 2) := by decide +kernel
theorem dD_init_18 : decode cD_init 18 = .ok (.putfield 16, 3) := by decide +kernel
theorem dD_init_21 : decode cD_init 21 = .ok (.aload_n 0, 1) := by decide +kernel
theorem dD_init_22 : decode cD_init 22 = .ok (.iload_n 1, 1) := by decide +kernel
theorem dD_init_23 : decode cD_init 23 = .ok (.iconst 1, 1) := by decide +kernel
theorem dD_init_24 : decode cD_init 24 = .ok (.iadd, 1) := by decide +kernel
theorem dD_init_25 : decode cD_init 25 = .ok (.newarray .long, 2) := by decide +kernel
theorem dD_init_27 : decode cD_init 27 = .ok (.putfield 20, 3) := by decide +kernel
theorem dD_init_30 : decode cD_init 30 = .ok (.aload_n 0, 1) := by decide +kernel
theorem dD_init_31 : decode cD_init 31 = .ok (.iload_n 1, 1) := by decide +kernel
theorem dD_init_32 : decode cD_init 32 = .ok (.iconst 1, 1) := by decide +kernel
theorem dD_init_33 : decode cD_init 33 = .ok (.iadd, 1) := by decide +kernel
theorem dD_init_34 : decode cD_init 34 = .ok (.newarray .long, 2) := by decide +kernel
theorem dD_init_36 : decode cD_init 36 = .ok (.putfield 23, 3) := by decide +kernel
theorem dD_init_39 : decode cD_init 39 = .ok (.return_, 1) := by decide +kernel
-- D_make
theorem dD_make_0 : decode cD_make 0 = .ok (.iconst 0, 1) := by decide +kernel
theorem dD_make_1 : decode cD_make 1 = .ok (.istore_n 3, 1) := by decide +kernel
theorem dD_make_2 : decode cD_make 2 = .ok (.iload_n 3, 1) := by decide +kernel
theorem dD_make_3 : decode cD_make 3 = .ok (.aload_n 0, 1) := by decide +kernel
theorem dD_make_4 : decode cD_make 4 = .ok (.getfield 13, 3) := by decide +kernel
theorem dD_make_7 : decode cD_make 7 = .ok (.if_icmp .ge 22, 3) := by decide +kernel
theorem dD_make_10 : decode cD_make 10 = .ok (.aload_n 0, 1) := by decide +kernel
theorem dD_make_11 : decode cD_make 11 = .ok (.getfield 16, 3) := by decide +kernel
theorem dD_make_14 : decode cD_make 14 = .ok (.iload_n 3, 1) := by decide +kernel
theorem dD_make_15 : decode cD_make 15 = .ok (.lconst 1, 1) := by decide +kernel
theorem dD_make_16 : decode cD_make 16 = .ok (.lload_n 1, 1) := by decide +kernel
theorem dD_make_17 : decode cD_make 17 = .ok (.iload_n 3, 1) := by decide +kernel
theorem dD_make_18 : decode cD_make 18 = .ok (.i2l, 1) := by decide +kernel
theorem dD_make_19 : decode cD_make 19 = .ok (.invokestatic 26, 3) := by decide +kernel
theorem dD_make_22 : decode cD_make 22 = .ok (.lastore, 1) := by decide +kernel
theorem dD_make_23 : decode cD_make 23 = .ok (.iinc 3 1, 3) := by decide +kernel
theorem dD_make_26 : decode cD_make 26 = .ok (.goto (-24), 3) := by decide +kernel
theorem dD_make_29 : decode cD_make 29 = .ok (.iconst 0, 1) := by decide +kernel
theorem dD_make_30 : decode cD_make 30 = .ok (.istore_n 3, 1) := by decide +kernel
theorem dD_make_31 : decode cD_make 31 = .ok (.iload_n 3, 1) := by decide +kernel
theorem dD_make_32 : decode cD_make 32 = .ok (.aload_n 0, 1) := by decide +kernel
theorem dD_make_33 : decode cD_make 33 = .ok (.getfield 7, 3) := by decide +kernel
theorem dD_make_36 : decode cD_make 36 = .ok (.if_icmp .gt 35, 3) := by decide +kernel
theorem dD_make_39 : decode cD_make 39 = .ok (.aload_n 0, 1) := by decide +kernel
theorem dD_make_40 : decode cD_make 40 = .ok (.getfield 20, 3) := by decide +kernel
theorem dD_make_43 : decode cD_make 43 = .ok (.iload_n 3, 1) := by decide +kernel
theorem dD_make_44 : decode cD_make 44 = .ok (.aload_n 0, 1) := by decide +kernel
theorem dD_make_45 : decode cD_make 45 = .ok (.iload_n 3, 1) := by decide +kernel
theorem dD_make_46 : decode cD_make 46 = .ok (.invokevirtual 32, 3) := by decide +kernel
theorem dD_make_49 : decode cD_make 49 = .ok (.lastore, 1) := by decide +kernel
theorem dD_make_50 : decode cD_make 50 = .ok (.aload_n 0, 1) := by decide +kernel
theorem dD_make_51 : decode cD_make 51 = .ok (.getfield 23, 3) := by decide +kernel
theorem dD_make_54 : decode cD_make 54 = .ok (.iload_n 3, 1) := by decide +kernel
theorem dD_make_55 : decode cD_make 55 = .ok (.aload_n 0, 1) := by decide +kernel
theorem dD_make_56 : decode cD_make 56 = .ok (.getfield 20, 3) := by decide +kernel
theorem dD_make_59 : decode cD_make 59 = .ok (.iload_n 3, 1) := by decide +kernel
theorem dD_make_60 : decode cD_make 60 = .ok (.laload, 1) := by decide +kernel
theorem dD_make_61 : decode cD_make 61 = .ok (.invokestatic 36, 3) := by decide +kernel
theorem dD_make_64 : decode cD_make 64 = .ok (.lastore, 1) := by decide +kernel
theorem dD_make_65 : decode cD_make 65 = .ok (.iinc 3 1, 3) := by decide +kernel
theorem dD_make_68 : decode cD_make 68 = .ok (.goto (-37), 3) := by decide +kernel
theorem dD_make_71 : decode cD_make 71 = .ok (.aload_n 0, 1) := by decide +kernel
theorem dD_make_72 : decode cD_make 72 = .ok (.iconst 1, 1) := by decide +kernel
theorem dD_make_73 : decode cD_make 73 = .ok (.putfield 42, 3) := by decide +kernel
theorem dD_make_76 : decode cD_make 76 = .ok (.return_, 1) := by decide +kernel
-- D_keyOfAll
theorem dD_keyOfAll_0 : decode cD_keyOfAll 0 = .ok (.aload_n 0, 1) := by decide +kernel
theorem dD_keyOfAll_1 : decode cD_keyOfAll 1 = .ok (.getfield 23, 3) := by decide +kernel
theorem dD_keyOfAll_4 : decode cD_keyOfAll 4 = .ok (.iconst 0, 1) := by decide +kernel
theorem dD_keyOfAll_5 : decode cD_keyOfAll 5 = .ok (.laload, 1) := by decide +kernel
theorem dD_keyOfAll_6 : decode cD_keyOfAll 6 = .ok (.lreturn, 1) := by decide +kernel
-- D_valueAt
theorem dD_valueAt_0 : decode cD_valueAt 0 = .ok (.lconst 0, 1) := by decide +kernel
theorem dD_valueAt_1 : decode cD_valueAt 1 = .ok (.lstore_n 2, 1) := by decide +kernel
theorem dD_valueAt_2 : decode cD_valueAt 2 = .ok (.aload_n 0, 1) := by decide +kernel
theorem dD_valueAt_3 : decode cD_valueAt 3 = .ok (.getfield 13, 3) := by decide +kernel
theorem dD_valueAt_6 : decode cD_valueAt 6 = .ok (.iconst 1, 1) := by decide +kernel
theorem dD_valueAt_7 : decode cD_valueAt 7 = .ok (.isub, 1) := by decide +kernel
theorem dD_valueAt_8 : decode cD_valueAt 8 = .ok (.istore 4, 2) := by decide +kernel
theorem dD_valueAt_10 : decode cD_valueAt 10 = .ok (.iload 4, 2) := by decide +kernel
theorem dD_valueAt_12 : decode cD_valueAt 12 = .ok (.ifCond .lt 26, 3) := by decide +kernel
theorem dD_valueAt_15 : decode cD_valueAt 15 = .ok (.lload_n 2, 1) := by decide +kernel
theorem dD_valueAt_16 : decode cD_valueAt 16 = .ok (.iload_n 1, 1) := by decide +kernel
theorem dD_valueAt_17 : decode cD_valueAt 17 = .ok (.i2l, 1) := by decide +kernel
theorem dD_valueAt_18 : decode cD_valueAt 18 = .ok (.invokestatic 46, 3) := by decide +kernel
theorem dD_valueAt_21 : decode cD_valueAt 21 = .ok (.aload_n 0, 1) := by decide +kernel
theorem dD_valueAt_22 : decode cD_valueAt 22 = .ok (.getfield 16, 3) := by decide +kernel
theorem dD_valueAt_25 : decode cD_valueAt 25 = .ok (.iload 4, 2) := by decide +kernel
theorem dD_valueAt_27 : decode cD_valueAt 27 = .ok (.laload, 1) := by decide +kernel
theorem dD_valueAt_28 : decode cD_valueAt 28 = .ok (.invokestatic 52, 3) := by decide +kernel
theorem dD_valueAt_31 : decode cD_valueAt 31 = .ok (.lstore_n 2, 1) := by decide +kernel
theorem dD_valueAt_32 : decode cD_valueAt 32 = .ok (.iinc 4 (-1), 3) := by decide +kernel
theorem dD_valueAt_35 : decode cD_valueAt 35 = .ok (.goto (-25), 3) := by decide +kernel
theorem dD_valueAt_38 : decode cD_valueAt 38 = .ok (.lload_n 2, 1) := by decide +kernel
theorem dD_valueAt_39 : decode cD_valueAt 39 = .ok (.lreturn, 1) := by decide +kernel
-- G_mix
theorem dG_mix_0 : decode cG_mix 0 = .ok (.lload_n 0, 1) := by decide +kernel
theorem dG_mix_1 : decode cG_mix 1 = .ok (.lload_n 2, 1) := by decide +kernel
theorem dG_mix_2 : decode cG_mix 2 = .ok (.lxor, 1) := by decide +kernel
theorem dG_mix_3 : decode cG_mix 3 = .ok (.ldc2_w 9, 3) := by decide +kernel
theorem dG_mix_6 : decode cG_mix 6 = .ok (.lmul, 1) := by decide +kernel
theorem dG_mix_7 : decode cG_mix 7 = .ok (.lstore 4, 2) := by decide +kernel
theorem dG_mix_9 : decode cG_mix 9 = .ok (.lload 4, 2) := by decide +kernel
theorem dG_mix_11 : decode cG_mix 11 = .ok (.lload 4, 2) := by decide +kernel
theorem dG_mix_13 : decode cG_mix 13 = .ok (.bipush 31, 2) := by decide +kernel
theorem dG_mix_15 : decode cG_mix 15 = .ok (.lushr, 1) := by decide +kernel
theorem dG_mix_16 : decode cG_mix 16 = .ok (.lxor, 1) := by decide +kernel
theorem dG_mix_17 : decode cG_mix 17 = .ok (.lreturn, 1) := by decide +kernel
-- G_finish
theorem dG_finish_0 : decode cG_finish 0 = .ok (.lload_n 0, 1) := by decide +kernel
theorem dG_finish_1 : decode cG_finish 1 = .ok (.iconst 1, 1) := by decide +kernel
theorem dG_finish_2 : decode cG_finish 2 = .ok (.lushr, 1) := by decide +kernel
theorem dG_finish_3 : decode cG_finish 3 = .ok (.ldc2_w 13, 3) := by decide +kernel
theorem dG_finish_6 : decode cG_finish 6 = .ok (.lrem, 1) := by decide +kernel
theorem dG_finish_7 : decode cG_finish 7 = .ok (.lreturn, 1) := by decide +kernel
-- G_ofThree
theorem dG_ofThree_0 : decode cG_ofThree 0 = .ok (.lconst 0, 1) := by decide +kernel
theorem dG_ofThree_1 : decode cG_ofThree 1 = .ok (.lload_n 0, 1) := by decide +kernel
theorem dG_ofThree_2 : decode cG_ofThree 2 = .ok (.invokestatic 15, 3) := by decide +kernel
theorem dG_ofThree_5 : decode cG_ofThree 5 = .ok (.lload_n 2, 1) := by decide +kernel
theorem dG_ofThree_6 : decode cG_ofThree 6 = .ok (.invokestatic 15, 3) := by decide +kernel
theorem dG_ofThree_9 : decode cG_ofThree 9 = .ok (.lload 4, 2) := by decide +kernel
theorem dG_ofThree_11 : decode cG_ofThree 11 = .ok (.invokestatic 15, 3) := by decide +kernel
theorem dG_ofThree_14 : decode cG_ofThree 14 = .ok (.invokestatic 19, 3) := by decide +kernel
theorem dG_ofThree_17 : decode cG_ofThree 17 = .ok (.lreturn, 1) := by decide +kernel
-- G_ofSeal
theorem dG_ofSeal_0 : decode cG_ofSeal 0 = .ok (.lconst 0, 1) := by decide +kernel
theorem dG_ofSeal_1 : decode cG_ofSeal 1 = .ok (.ldc2_w 23, 3) := by decide +kernel
theorem dG_ofSeal_4 : decode cG_ofSeal 4 = .ok (.invokestatic 15, 3) := by decide +kernel
theorem dG_ofSeal_7 : decode cG_ofSeal 7 = .ok (.lload_n 0, 1) := by decide +kernel
theorem dG_ofSeal_8 : decode cG_ofSeal 8 = .ok (.invokestatic 15, 3) := by decide +kernel
theorem dG_ofSeal_11 : decode cG_ofSeal 11 = .ok (.lload_n 2, 1) := by decide +kernel
theorem dG_ofSeal_12 : decode cG_ofSeal 12 = .ok (.invokestatic 15, 3) := by decide +kernel
theorem dG_ofSeal_15 : decode cG_ofSeal 15 = .ok (.lload 4, 2) := by decide +kernel
theorem dG_ofSeal_17 : decode cG_ofSeal 17 = .ok (.invokestatic 15, 3) := by decide +kernel
theorem dG_ofSeal_20 : decode cG_ofSeal 20 = .ok (.invokestatic 19, 3) := by decide +kernel
theorem dG_ofSeal_23 : decode cG_ofSeal 23 = .ok (.lreturn, 1) := by decide +kernel
-- E_isElement
theorem dE_isElement_0 : decode cE_isElement 0 = .ok (.lload_n 0, 1) := by decide +kernel
theorem dE_isElement_1 : decode cE_isElement 1 = .ok (.lconst 1, 1) := by decide +kernel
theorem dE_isElement_2 : decode cE_isElement 2 = .ok (.lcmp, 1) := by decide +kernel
theorem dE_isElement_3 : decode cE_isElement 3 = .ok (.ifCond .lt 15, 3) := by decide +kernel
theorem dE_isElement_6 : decode cE_isElement 6 = .ok (.lload_n 0, 1) := by decide +kernel
theorem dE_isElement_7 : decode cE_isElement 7 = .ok (.ldc2_w 9, 3) := by decide +kernel
theorem dE_isElement_10 : decode cE_isElement 10 = .ok (.lcmp, 1) := by decide +kernel
theorem dE_isElement_11 : decode cE_isElement 11 = .ok (.ifCond .ge 7, 3) := by decide +kernel
theorem dE_isElement_14 : decode cE_isElement 14 = .ok (.iconst 1, 1) := by decide +kernel
theorem dE_isElement_15 : decode cE_isElement 15 = .ok (.goto 4, 3) := by decide +kernel
theorem dE_isElement_18 : decode cE_isElement 18 = .ok (.iconst 0, 1) := by decide +kernel
theorem dE_isElement_19 : decode cE_isElement 19 = .ok (.ireturn, 1) := by decide +kernel
-- E_times
theorem dE_times_0 : decode cE_times 0 = .ok (.lload_n 0, 1) := by decide +kernel
theorem dE_times_1 : decode cE_times 1 = .ok (.lload_n 2, 1) := by decide +kernel
theorem dE_times_2 : decode cE_times 2 = .ok (.lmul, 1) := by decide +kernel
theorem dE_times_3 : decode cE_times 3 = .ok (.ldc2_w 9, 3) := by decide +kernel
theorem dE_times_6 : decode cE_times 6 = .ok (.lrem, 1) := by decide +kernel
theorem dE_times_7 : decode cE_times 7 = .ok (.lreturn, 1) := by decide +kernel
-- E_power
theorem dE_power_0 : decode cE_power 0 = .ok (.lconst 1, 1) := by decide +kernel
theorem dE_power_1 : decode cE_power 1 = .ok (.lstore 4, 2) := by decide +kernel
theorem dE_power_3 : decode cE_power 3 = .ok (.bipush 29, 2) := by decide +kernel
theorem dE_power_5 : decode cE_power 5 = .ok (.istore 6, 2) := by decide +kernel
theorem dE_power_7 : decode cE_power 7 = .ok (.iload 6, 2) := by decide +kernel
theorem dE_power_9 : decode cE_power 9 = .ok (.ifCond .lt 37, 3) := by decide +kernel
theorem dE_power_12 : decode cE_power 12 = .ok (.lload 4, 2) := by decide +kernel
theorem dE_power_14 : decode cE_power 14 = .ok (.lload 4, 2) := by decide +kernel
theorem dE_power_16 : decode cE_power 16 = .ok (.invokestatic 13, 3) := by decide +kernel
theorem dE_power_19 : decode cE_power 19 = .ok (.lstore 4, 2) := by decide +kernel
theorem dE_power_21 : decode cE_power 21 = .ok (.lload_n 2, 1) := by decide +kernel
theorem dE_power_22 : decode cE_power 22 = .ok (.iload 6, 2) := by decide +kernel
theorem dE_power_24 : decode cE_power 24 = .ok (.lshr, 1) := by decide +kernel
theorem dE_power_25 : decode cE_power 25 = .ok (.lconst 1, 1) := by decide +kernel
theorem dE_power_26 : decode cE_power 26 = .ok (.land, 1) := by decide +kernel
theorem dE_power_27 : decode cE_power 27 = .ok (.lconst 1, 1) := by decide +kernel
theorem dE_power_28 : decode cE_power 28 = .ok (.lcmp, 1) := by decide +kernel
theorem dE_power_29 : decode cE_power 29 = .ok (.ifCond .ne 11, 3) := by decide +kernel
theorem dE_power_32 : decode cE_power 32 = .ok (.lload 4, 2) := by decide +kernel
theorem dE_power_34 : decode cE_power 34 = .ok (.lload_n 0, 1) := by decide +kernel
theorem dE_power_35 : decode cE_power 35 = .ok (.invokestatic 13, 3) := by decide +kernel
theorem dE_power_38 : decode cE_power 38 = .ok (.lstore 4, 2) := by decide +kernel
theorem dE_power_40 : decode cE_power 40 = .ok (.iinc 6 (-1), 3) := by decide +kernel
theorem dE_power_43 : decode cE_power 43 = .ok (.goto (-36), 3) := by decide +kernel
theorem dE_power_46 : decode cE_power 46 = .ok (.lload 4, 2) := by decide +kernel
theorem dE_power_48 : decode cE_power 48 = .ok (.lreturn, 1) := by decide +kernel
-- E_ofNumber
theorem dE_ofNumber_0 : decode cE_ofNumber 0 = .ok (.ldc2_w 17, 3) := by decide +kernel
theorem dE_ofNumber_3 : decode cE_ofNumber 3 = .ok (.lload_n 0, 1) := by decide +kernel
theorem dE_ofNumber_4 : decode cE_ofNumber 4 = .ok (.invokestatic 19, 3) := by decide +kernel
theorem dE_ofNumber_7 : decode cE_ofNumber 7 = .ok (.lreturn, 1) := by decide +kernel
-- N_isNumber
theorem dN_isNumber_0 : decode cN_isNumber 0 = .ok (.lload_n 0, 1) := by decide +kernel
theorem dN_isNumber_1 : decode cN_isNumber 1 = .ok (.lconst 0, 1) := by decide +kernel
theorem dN_isNumber_2 : decode cN_isNumber 2 = .ok (.lcmp, 1) := by decide +kernel
theorem dN_isNumber_3 : decode cN_isNumber 3 = .ok (.ifCond .lt 15, 3) := by decide +kernel
theorem dN_isNumber_6 : decode cN_isNumber 6 = .ok (.lload_n 0, 1) := by decide +kernel
theorem dN_isNumber_7 : decode cN_isNumber 7 = .ok (.ldc2_w 9, 3) := by decide +kernel
theorem dN_isNumber_10 : decode cN_isNumber 10 = .ok (.lcmp, 1) := by decide +kernel
theorem dN_isNumber_11 : decode cN_isNumber 11 = .ok (.ifCond .ge 7, 3) := by decide +kernel
theorem dN_isNumber_14 : decode cN_isNumber 14 = .ok (.iconst 1, 1) := by decide +kernel
theorem dN_isNumber_15 : decode cN_isNumber 15 = .ok (.goto 4, 3) := by decide +kernel
theorem dN_isNumber_18 : decode cN_isNumber 18 = .ok (.iconst 0, 1) := by decide +kernel
theorem dN_isNumber_19 : decode cN_isNumber 19 = .ok (.ireturn, 1) := by decide +kernel
-- N_plus
theorem dN_plus_0 : decode cN_plus 0 = .ok (.lload_n 0, 1) := by decide +kernel
theorem dN_plus_1 : decode cN_plus 1 = .ok (.lload_n 2, 1) := by decide +kernel
theorem dN_plus_2 : decode cN_plus 2 = .ok (.ladd, 1) := by decide +kernel
theorem dN_plus_3 : decode cN_plus 3 = .ok (.ldc2_w 9, 3) := by decide +kernel
theorem dN_plus_6 : decode cN_plus 6 = .ok (.lrem, 1) := by decide +kernel
theorem dN_plus_7 : decode cN_plus 7 = .ok (.lreturn, 1) := by decide +kernel
-- N_minus
theorem dN_minus_0 : decode cN_minus 0 = .ok (.lload_n 0, 1) := by decide +kernel
theorem dN_minus_1 : decode cN_minus 1 = .ok (.ldc2_w 9, 3) := by decide +kernel
theorem dN_minus_4 : decode cN_minus 4 = .ok (.ladd, 1) := by decide +kernel
theorem dN_minus_5 : decode cN_minus 5 = .ok (.lload_n 2, 1) := by decide +kernel
theorem dN_minus_6 : decode cN_minus 6 = .ok (.lsub, 1) := by decide +kernel
theorem dN_minus_7 : decode cN_minus 7 = .ok (.ldc2_w 9, 3) := by decide +kernel
theorem dN_minus_10 : decode cN_minus 10 = .ok (.lrem, 1) := by decide +kernel
theorem dN_minus_11 : decode cN_minus 11 = .ok (.lreturn, 1) := by decide +kernel
-- N_times
theorem dN_times_0 : decode cN_times 0 = .ok (.lload_n 0, 1) := by decide +kernel
theorem dN_times_1 : decode cN_times 1 = .ok (.lload_n 2, 1) := by decide +kernel
theorem dN_times_2 : decode cN_times 2 = .ok (.lmul, 1) := by decide +kernel
theorem dN_times_3 : decode cN_times 3 = .ok (.ldc2_w 9, 3) := by decide +kernel
theorem dN_times_6 : decode cN_times 6 = .ok (.lrem, 1) := by decide +kernel
theorem dN_times_7 : decode cN_times 7 = .ok (.lreturn, 1) := by decide +kernel
-- N_inverse
theorem dN_inverse_0 : decode cN_inverse 0 = .ok (.lconst 1, 1) := by decide +kernel
theorem dN_inverse_1 : decode cN_inverse 1 = .ok (.lstore_n 2, 1) := by decide +kernel
theorem dN_inverse_2 : decode cN_inverse 2 = .ok (.bipush 29, 2) := by decide +kernel
theorem dN_inverse_4 : decode cN_inverse 4 = .ok (.istore 4, 2) := by decide +kernel
theorem dN_inverse_6 : decode cN_inverse 6 = .ok (.iload 4, 2) := by decide +kernel
theorem dN_inverse_8 : decode cN_inverse 8 = .ok (.ifCond .lt 34, 3) := by decide +kernel
theorem dN_inverse_11 : decode cN_inverse 11 = .ok (.lload_n 2, 1) := by decide +kernel
theorem dN_inverse_12 : decode cN_inverse 12 = .ok (.lload_n 2, 1) := by decide +kernel
theorem dN_inverse_13 : decode cN_inverse 13 = .ok (.invokestatic 11, 3) := by decide +kernel
theorem dN_inverse_16 : decode cN_inverse 16 = .ok (.lstore_n 2, 1) := by decide +kernel
theorem dN_inverse_17 : decode cN_inverse 17 = .ok (.ldc2_w 15, 3) := by decide +kernel
theorem dN_inverse_20 : decode cN_inverse 20 = .ok (.iload 4, 2) := by decide +kernel
theorem dN_inverse_22 : decode cN_inverse 22 = .ok (.lshr, 1) := by decide +kernel
theorem dN_inverse_23 : decode cN_inverse 23 = .ok (.lconst 1, 1) := by decide +kernel
theorem dN_inverse_24 : decode cN_inverse 24 = .ok (.land, 1) := by decide +kernel
theorem dN_inverse_25 : decode cN_inverse 25 = .ok (.lconst 1, 1) := by decide +kernel
theorem dN_inverse_26 : decode cN_inverse 26 = .ok (.lcmp, 1) := by decide +kernel
theorem dN_inverse_27 : decode cN_inverse 27 = .ok (.ifCond .ne 9, 3) := by decide +kernel
theorem dN_inverse_30 : decode cN_inverse 30 = .ok (.lload_n 2, 1) := by decide +kernel
theorem dN_inverse_31 : decode cN_inverse 31 = .ok (.lload_n 0, 1) := by decide +kernel
theorem dN_inverse_32 : decode cN_inverse 32 = .ok (.invokestatic 11, 3) := by decide +kernel
theorem dN_inverse_35 : decode cN_inverse 35 = .ok (.lstore_n 2, 1) := by decide +kernel
theorem dN_inverse_36 : decode cN_inverse 36 = .ok (.iinc 4 (-1), 3) := by decide +kernel
theorem dN_inverse_39 : decode cN_inverse 39 = .ok (.goto (-33), 3) := by decide +kernel
theorem dN_inverse_42 : decode cN_inverse 42 = .ok (.lload_n 2, 1) := by decide +kernel
theorem dN_inverse_43 : decode cN_inverse 43 = .ok (.lreturn, 1) := by decide +kernel
-- P_init
theorem dP_init_0 : decode cP_init 0 = .ok (.aload_n 0, 1) := by decide +kernel
theorem dP_init_1 : decode cP_init 1 = .ok (.invokespecial 1, 3) := by decide +kernel
theorem dP_init_4 : decode cP_init 4 = .ok (.aload_n 0, 1) := by decide +kernel
theorem dP_init_5 : decode cP_init 5 = .ok (.iload_n 1, 1) := by decide +kernel
theorem dP_init_6 : decode cP_init 6 = .ok (.iconst 1, 1) := by decide +kernel
theorem dP_init_7 : decode cP_init 7 = .ok (.iadd, 1) := by decide +kernel
theorem dP_init_8 : decode cP_init 8 = .ok (.newarray .long, 2) := by decide +kernel
theorem dP_init_10 : decode cP_init 10 = .ok (.putfield 7, 3) := by decide +kernel
theorem dP_init_13 : decode cP_init 13 = .ok (.aload_n 0, 1) := by decide +kernel
theorem dP_init_14 : decode cP_init 14 = .ok (.iload_n 1, 1) := by decide +kernel
theorem dP_init_15 : decode cP_init 15 = .ok (.iconst 1, 1) := by decide +kernel
theorem dP_init_16 : decode cP_init 16 = .ok (.iadd, 1) := by decide +kernel
theorem dP_init_17 : decode cP_init 17 = .ok (.newarray .long, 2) := by decide +kernel
theorem dP_init_19 : decode cP_init 19 = .ok (.putfield 13, 3) := by decide +kernel
theorem dP_init_22 : decode cP_init 22 = .ok (.aload_n 0, 1) := by decide +kernel
theorem dP_init_23 : decode cP_init 23 = .ok (.iload_n 1, 1) := by decide +kernel
theorem dP_init_24 : decode cP_init 24 = .ok (.iconst 1, 1) := by decide +kernel
theorem dP_init_25 : decode cP_init 25 = .ok (.iadd, 1) := by decide +kernel
theorem dP_init_26 : decode cP_init 26 = .ok (.newarray .long, 2) := by decide +kernel
theorem dP_init_28 : decode cP_init 28 = .ok (.putfield 16, 3) := by decide +kernel
theorem dP_init_31 : decode cP_init 31 = .ok (.aload_n 0, 1) := by decide +kernel
theorem dP_init_32 : decode cP_init 32 = .ok (.iload_n 1, 1) := by decide +kernel
theorem dP_init_33 : decode cP_init 33 = .ok (.iconst 1, 1) := by decide +kernel
theorem dP_init_34 : decode cP_init 34 = .ok (.iadd, 1) := by decide +kernel
theorem dP_init_35 : decode cP_init 35 = .ok (.newarray .long, 2) := by decide +kernel
theorem dP_init_37 : decode cP_init 37 = .ok (.putfield 19, 3) := by decide +kernel
theorem dP_init_40 : decode cP_init 40 = .ok (.return_, 1) := by decide +kernel
-- P_open
theorem dP_open_0 : decode cP_open 0 = .ok (.aload_n 0, 1) := by decide +kernel
theorem dP_open_1 : decode cP_open 1 = .ok (.getfield 7, 3) := by decide +kernel
theorem dP_open_4 : decode cP_open 4 = .ok (.iload_n 1, 1) := by decide +kernel
theorem dP_open_5 : decode cP_open 5 = .ok (.ldc2_w 22, 3) := by decide +kernel
theorem dP_open_8 : decode cP_open 8 = .ok (.lload_n 2, 1) := by decide +kernel
theorem dP_open_9 : decode cP_open 9 = .ok (.iload_n 1, 1) := by decide +kernel
theorem dP_open_10 : decode cP_open 10 = .ok (.i2l, 1) := by decide +kernel
theorem dP_open_11 : decode cP_open 11 = .ok (.invokestatic 24, 3) := by decide +kernel
theorem dP_open_14 : decode cP_open 14 = .ok (.lastore, 1) := by decide +kernel
theorem dP_open_15 : decode cP_open 15 = .ok (.aload_n 0, 1) := by decide +kernel
theorem dP_open_16 : decode cP_open 16 = .ok (.getfield 13, 3) := by decide +kernel
theorem dP_open_19 : decode cP_open 19 = .ok (.iload_n 1, 1) := by decide +kernel
theorem dP_open_20 : decode cP_open 20 = .ok (.ldc2_w 30, 3) := by decide +kernel
theorem dP_open_23 : decode cP_open 23 = .ok (.lload_n 2, 1) := by decide +kernel
theorem dP_open_24 : decode cP_open 24 = .ok (.iload_n 1, 1) := by decide +kernel
theorem dP_open_25 : decode cP_open 25 = .ok (.i2l, 1) := by decide +kernel
theorem dP_open_26 : decode cP_open 26 = .ok (.invokestatic 24, 3) := by decide +kernel
theorem dP_open_29 : decode cP_open 29 = .ok (.lastore, 1) := by decide +kernel
theorem dP_open_30 : decode cP_open 30 = .ok (.aload_n 0, 1) := by decide +kernel
theorem dP_open_31 : decode cP_open 31 = .ok (.getfield 16, 3) := by decide +kernel
theorem dP_open_34 : decode cP_open 34 = .ok (.iload_n 1, 1) := by decide +kernel
theorem dP_open_35 : decode cP_open 35 = .ok (.aload_n 0, 1) := by decide +kernel
theorem dP_open_36 : decode cP_open 36 = .ok (.getfield 7, 3) := by decide +kernel
theorem dP_open_39 : decode cP_open 39 = .ok (.iload_n 1, 1) := by decide +kernel
theorem dP_open_40 : decode cP_open 40 = .ok (.laload, 1) := by decide +kernel
theorem dP_open_41 : decode cP_open 41 = .ok (.invokestatic 32, 3) := by decide +kernel
theorem dP_open_44 : decode cP_open 44 = .ok (.lastore, 1) := by decide +kernel
theorem dP_open_45 : decode cP_open 45 = .ok (.aload_n 0, 1) := by decide +kernel
theorem dP_open_46 : decode cP_open 46 = .ok (.getfield 19, 3) := by decide +kernel
theorem dP_open_49 : decode cP_open 49 = .ok (.iload_n 1, 1) := by decide +kernel
theorem dP_open_50 : decode cP_open 50 = .ok (.aload_n 0, 1) := by decide +kernel
theorem dP_open_51 : decode cP_open 51 = .ok (.getfield 13, 3) := by decide +kernel
theorem dP_open_54 : decode cP_open 54 = .ok (.iload_n 1, 1) := by decide +kernel
theorem dP_open_55 : decode cP_open 55 = .ok (.laload, 1) := by decide +kernel
theorem dP_open_56 : decode cP_open 56 = .ok (.invokestatic 32, 3) := by decide +kernel
theorem dP_open_59 : decode cP_open 59 = .ok (.lastore, 1) := by decide +kernel
theorem dP_open_60 : decode cP_open 60 = .ok (.aload_n 0, 1) := by decide +kernel
theorem dP_open_61 : decode cP_open 61 = .ok (.dup, 1) := by decide +kernel
theorem dP_open_62 : decode cP_open 62 = .ok (.getfield 38, 3) := by decide +kernel
theorem dP_open_65 : decode cP_open 65 = .ok (.iload_n 1, 1) := by decide +kernel
theorem dP_open_66 : decode cP_open 66 = .ok (.invokestatic 42, 3) := by decide +kernel
theorem dP_open_69 : decode cP_open 69 = .ok (.ior, 1) := by decide +kernel
theorem dP_open_70 : decode cP_open 70 = .ok (.putfield 38, 3) := by decide +kernel
theorem dP_open_73 : decode cP_open 73 = .ok (.return_, 1) := by decide +kernel
-- P_areOpen
theorem dP_areOpen_0 : decode cP_areOpen 0 = .ok (.iload_n 1, 1) := by decide +kernel
theorem dP_areOpen_1 : decode cP_areOpen 1 = .ok (.aload_n 0, 1) := by decide +kernel
theorem dP_areOpen_2 : decode cP_areOpen 2 = .ok (.getfield 38, 3) := by decide +kernel
theorem dP_areOpen_5 : decode cP_areOpen 5 = .ok (.iconst (-1), 1) := by decide +kernel
theorem dP_areOpen_6 : decode cP_areOpen 6 = .ok (.ixor, 1) := by decide +kernel
theorem dP_areOpen_7 : decode cP_areOpen 7 = .ok (.iand, 1) := by decide +kernel
theorem dP_areOpen_8 : decode cP_areOpen 8 = .ok (.ifCond .ne 7, 3) := by decide +kernel
theorem dP_areOpen_11 : decode cP_areOpen 11 = .ok (.iconst 1, 1) := by decide +kernel
theorem dP_areOpen_12 : decode cP_areOpen 12 = .ok (.goto 4, 3) := by decide +kernel
theorem dP_areOpen_15 : decode cP_areOpen 15 = .ok (.iconst 0, 1) := by decide +kernel
theorem dP_areOpen_16 : decode cP_areOpen 16 = .ok (.ireturn, 1) := by decide +kernel
-- P_drop
theorem dP_drop_0 : decode cP_drop 0 = .ok (.aload_n 0, 1) := by decide +kernel
theorem dP_drop_1 : decode cP_drop 1 = .ok (.dup, 1) := by decide +kernel
theorem dP_drop_2 : decode cP_drop 2 = .ok (.getfield 38, 3) := by decide +kernel
theorem dP_drop_5 : decode cP_drop 5 = .ok (.iload_n 1, 1) := by decide +kernel
theorem dP_drop_6 : decode cP_drop 6 = .ok (.invokestatic 42, 3) := by decide +kernel
theorem dP_drop_9 : decode cP_drop 9 = .ok (.iconst (-1), 1) := by decide +kernel
theorem dP_drop_10 : decode cP_drop 10 = .ok (.ixor, 1) := by decide +kernel
theorem dP_drop_11 : decode cP_drop 11 = .ok (.iand, 1) := by decide +kernel
theorem dP_drop_12 : decode cP_drop 12 = .ok (.putfield 38, 3) := by decide +kernel
theorem dP_drop_15 : decode cP_drop 15 = .ok (.return_, 1) := by decide +kernel
-- P_dropAll
theorem dP_dropAll_0 : decode cP_dropAll 0 = .ok (.aload_n 0, 1) := by decide +kernel
theorem dP_dropAll_1 : decode cP_dropAll 1 = .ok (.iconst 0, 1) := by decide +kernel
theorem dP_dropAll_2 : decode cP_dropAll 2 = .ok (.putfield 38, 3) := by decide +kernel
theorem dP_dropAll_5 : decode cP_dropAll 5 = .ok (.return_, 1) := by decide +kernel
-- X_init
theorem dX_init_0 : decode cX_init 0 = .ok (.aload_n 0, 1) := by decide +kernel
theorem dX_init_1 : decode cX_init 1 = .ok (.invokespecial 1, 3) := by decide +kernel
theorem dX_init_4 : decode cX_init 4 = .ok (.aload_n 0, 1) := by decide +kernel
theorem dX_init_5 : decode cX_init 5 = .ok (.iload_n 1, 1) := by decide +kernel
theorem dX_init_6 : decode cX_init 6 = .ok (.putfield 7, 3) := by decide +kernel
theorem dX_init_9 : decode cX_init 9 = .ok (.aload_n 0, 1) := by decide +kernel
theorem dX_init_10 : decode cX_init 10 = .ok (.iload_n 1, 1) := by decide +kernel
theorem dX_init_11 : decode cX_init 11 = .ok (.iconst 1, 1) := by decide +kernel
theorem dX_init_12 : decode cX_init 12 = .ok (.iadd, 1) := by decide +kernel
theorem dX_init_13 : decode cX_init 13 = .ok (.newarray .long, 2) := by decide +kernel
theorem dX_init_15 : decode cX_init 15 = .ok (.putfield 13, 3) := by decide +kernel
theorem dX_init_18 : decode cX_init 18 = .ok (.aload_n 0, 1) := by decide +kernel
theorem dX_init_19 : decode cX_init 19 = .ok (.iload_n 1, 1) := by decide +kernel
theorem dX_init_20 : decode cX_init 20 = .ok (.iconst 1, 1) := by decide +kernel
theorem dX_init_21 : decode cX_init 21 = .ok (.iadd, 1) := by decide +kernel
theorem dX_init_22 : decode cX_init 22 = .ok (.newarray .long, 2) := by decide +kernel
theorem dX_init_24 : decode cX_init 24 = .ok (.putfield 17, 3) := by decide +kernel
theorem dX_init_27 : decode cX_init 27 = .ok (.aload_n 0, 1) := by decide +kernel
theorem dX_init_28 : decode cX_init 28 = .ok (.iload_n 1, 1) := by decide +kernel
theorem dX_init_29 : decode cX_init 29 = .ok (.iconst 1, 1) := by decide +kernel
theorem dX_init_30 : decode cX_init 30 = .ok (.iadd, 1) := by decide +kernel
theorem dX_init_31 : decode cX_init 31 = .ok (.newarray .long, 2) := by decide +kernel
theorem dX_init_33 : decode cX_init 33 = .ok (.putfield 20, 3) := by decide +kernel
theorem dX_init_36 : decode cX_init 36 = .ok (.aload_n 0, 1) := by decide +kernel
theorem dX_init_37 : decode cX_init 37 = .ok (.iload_n 1, 1) := by decide +kernel
theorem dX_init_38 : decode cX_init 38 = .ok (.iconst 1, 1) := by decide +kernel
theorem dX_init_39 : decode cX_init 39 = .ok (.iadd, 1) := by decide +kernel
theorem dX_init_40 : decode cX_init 40 = .ok (.newarray .long, 2) := by decide +kernel
theorem dX_init_42 : decode cX_init 42 = .ok (.putfield 23, 3) := by decide +kernel
theorem dX_init_45 : decode cX_init 45 = .ok (.aload_n 0, 1) := by decide +kernel
theorem dX_init_46 : decode cX_init 46 = .ok (.iload_n 1, 1) := by decide +kernel
theorem dX_init_47 : decode cX_init 47 = .ok (.iconst 1, 1) := by decide +kernel
theorem dX_init_48 : decode cX_init 48 = .ok (.iadd, 1) := by decide +kernel
theorem dX_init_49 : decode cX_init 49 = .ok (.newarray .long, 2) := by decide +kernel
theorem dX_init_51 : decode cX_init 51 = .ok (.putfield 26, 3) := by decide +kernel
theorem dX_init_54 : decode cX_init 54 = .ok (.return_, 1) := by decide +kernel
-- X_isOn
theorem dX_isOn_0 : decode cX_isOn 0 = .ok (.aload_n 0, 1) := by decide +kernel
theorem dX_isOn_1 : decode cX_isOn 1 = .ok (.getfield 29, 3) := by decide +kernel
theorem dX_isOn_4 : decode cX_isOn 4 = .ok (.ifCond .eq 7, 3) := by decide +kernel
theorem dX_isOn_7 : decode cX_isOn 7 = .ok (.iconst 1, 1) := by decide +kernel
theorem dX_isOn_8 : decode cX_isOn 8 = .ok (.goto 4, 3) := by decide +kernel
theorem dX_isOn_11 : decode cX_isOn 11 = .ok (.iconst 0, 1) := by decide +kernel
theorem dX_isOn_12 : decode cX_isOn 12 = .ok (.ireturn, 1) := by decide +kernel
-- X_end
theorem dX_end_0 : decode cX_end 0 = .ok (.aload_n 0, 1) := by decide +kernel
theorem dX_end_1 : decode cX_end 1 = .ok (.iconst 0, 1) := by decide +kernel
theorem dX_end_2 : decode cX_end 2 = .ok (.invokevirtual 32, 3) := by decide +kernel
theorem dX_end_5 : decode cX_end 5 = .ok (.return_, 1) := by decide +kernel
-- X_start
theorem dX_start_0 : decode cX_start 0 = .ok (.aload_n 0, 1) := by decide +kernel
theorem dX_start_1 : decode cX_start 1 = .ok (.iload_n 1, 1) := by decide +kernel
theorem dX_start_2 : decode cX_start 2 = .ok (.invokevirtual 32, 3) := by decide +kernel
theorem dX_start_5 : decode cX_start 5 = .ok (.iconst 1, 1) := by decide +kernel
theorem dX_start_6 : decode cX_start 6 = .ok (.istore 7, 2) := by decide +kernel
theorem dX_start_8 : decode cX_start 8 = .ok (.iload 7, 2) := by decide +kernel
theorem dX_start_10 : decode cX_start 10 = .ok (.aload_n 0, 1) := by decide +kernel
theorem dX_start_11 : decode cX_start 11 = .ok (.getfield 7, 3) := by decide +kernel
theorem dX_start_14 : decode cX_start 14 = .ok (.if_icmp .gt 39, 3) := by decide +kernel
theorem dX_start_17 : decode cX_start 17 = .ok (.aload_n 0, 1) := by decide +kernel
theorem dX_start_18 : decode cX_start 18 = .ok (.getfield 13, 3) := by decide +kernel
theorem dX_start_21 : decode cX_start 21 = .ok (.iload 7, 2) := by decide +kernel
theorem dX_start_23 : decode cX_start 23 = .ok (.aload 6, 2) := by decide +kernel
theorem dX_start_25 : decode cX_start 25 = .ok (.getfield 36, 3) := by decide +kernel
theorem dX_start_28 : decode cX_start 28 = .ok (.iload 7, 2) := by decide +kernel
theorem dX_start_30 : decode cX_start 30 = .ok (.laload, 1) := by decide +kernel
theorem dX_start_31 : decode cX_start 31 = .ok (.lastore, 1) := by decide +kernel
theorem dX_start_32 : decode cX_start 32 = .ok (.aload_n 0, 1) := by decide +kernel
theorem dX_start_33 : decode cX_start 33 = .ok (.getfield 17, 3) := by decide +kernel
theorem dX_start_36 : decode cX_start 36 = .ok (.iload 7, 2) := by decide +kernel
theorem dX_start_38 : decode cX_start 38 = .ok (.aload 6, 2) := by decide +kernel
theorem dX_start_40 : decode cX_start 40 = .ok (.getfield 39, 3) := by decide +kernel
theorem dX_start_43 : decode cX_start 43 = .ok (.iload 7, 2) := by decide +kernel
theorem dX_start_45 : decode cX_start 45 = .ok (.laload, 1) := by decide +kernel
theorem dX_start_46 : decode cX_start 46 = .ok (.lastore, 1) := by decide +kernel
theorem dX_start_47 : decode cX_start 47 = .ok (.iinc 7 1, 3) := by decide +kernel
theorem dX_start_50 : decode cX_start 50 = .ok (.goto (-42), 3) := by decide +kernel
theorem dX_start_53 : decode cX_start 53 = .ok (.iconst 1, 1) := by decide +kernel
theorem dX_start_54 : decode cX_start 54 = .ok (.istore 7, 2) := by decide +kernel
theorem dX_start_56 : decode cX_start 56 = .ok (.iload 7, 2) := by decide +kernel
theorem dX_start_58 : decode cX_start 58 = .ok (.aload_n 0, 1) := by decide +kernel
theorem dX_start_59 : decode cX_start 59 = .ok (.getfield 7, 3) := by decide +kernel
theorem dX_start_62 : decode cX_start 62 = .ok (.if_icmp .gt 68, 3) := by decide +kernel
theorem dX_start_65 : decode cX_start 65 = .ok (.iload_n 1, 1) := by decide +kernel
theorem dX_start_66 : decode cX_start 66 = .ok (.iload 7, 2) := by decide +kernel
theorem dX_start_68 : decode cX_start 68 = .ok (.invokestatic 40, 3) := by decide +kernel
theorem dX_start_71 : decode cX_start 71 = .ok (.ifCond .eq 53, 3) := by decide +kernel
theorem dX_start_74 : decode cX_start 74 = .ok (.aload_n 0, 1) := by decide +kernel
theorem dX_start_75 : decode cX_start 75 = .ok (.getfield 20, 3) := by decide +kernel
theorem dX_start_78 : decode cX_start 78 = .ok (.iload 7, 2) := by decide +kernel
theorem dX_start_80 : decode cX_start 80 = .ok (.aload_n 0, 1) := by decide +kernel
theorem dX_start_81 : decode cX_start 81 = .ok (.iload 7, 2) := by decide +kernel
theorem dX_start_83 : decode cX_start 83 = .ok (.lload_n 2, 1) := by decide +kernel
theorem dX_start_84 : decode cX_start 84 = .ok (.lload 4, 2) := by decide +kernel
theorem dX_start_86 : decode cX_start 86 = .ok (.invokevirtual 46, 3) := by decide +kernel
theorem dX_start_89 : decode cX_start 89 = .ok (.lastore, 1) := by decide +kernel
theorem dX_start_90 : decode cX_start 90 = .ok (.aload_n 0, 1) := by decide +kernel
theorem dX_start_91 : decode cX_start 91 = .ok (.getfield 23, 3) := by decide +kernel
theorem dX_start_94 : decode cX_start 94 = .ok (.iload 7, 2) := by decide +kernel
theorem dX_start_96 : decode cX_start 96 = .ok (.iload_n 1, 1) := by decide +kernel
theorem dX_start_97 : decode cX_start 97 = .ok (.iload 7, 2) := by decide +kernel
theorem dX_start_99 : decode cX_start 99 = .ok (.aload_n 0, 1) := by decide +kernel
theorem dX_start_100 : decode cX_start 100 = .ok (.getfield 7, 3) := by decide +kernel
theorem dX_start_103 : decode cX_start 103 = .ok (.invokestatic 50, 3) := by decide +kernel
theorem dX_start_106 : decode cX_start 106 = .ok (.lastore, 1) := by decide +kernel
theorem dX_start_107 : decode cX_start 107 = .ok (.aload_n 0, 1) := by decide +kernel
theorem dX_start_108 : decode cX_start 108 = .ok (.aload_n 0, 1) := by decide +kernel
theorem dX_start_109 : decode cX_start 109 = .ok (.getfield 54, 3) := by decide +kernel
theorem dX_start_112 : decode cX_start 112 = .ok (.aload_n 0, 1) := by decide +kernel
theorem dX_start_113 : decode cX_start 113 = .ok (.iload 7, 2) := by decide +kernel
theorem dX_start_115 : decode cX_start 115 = .ok (.invokevirtual 58, 3) := by decide +kernel
theorem dX_start_118 : decode cX_start 118 = .ok (.invokestatic 62, 3) := by decide +kernel
theorem dX_start_121 : decode cX_start 121 = .ok (.putfield 54, 3) := by decide +kernel
theorem dX_start_124 : decode cX_start 124 = .ok (.iinc 7 1, 3) := by decide +kernel
theorem dX_start_127 : decode cX_start 127 = .ok (.goto (-71), 3) := by decide +kernel
theorem dX_start_130 : decode cX_start 130 = .ok (.aload_n 0, 1) := by decide +kernel
theorem dX_start_131 : decode cX_start 131 = .ok (.aload_n 0, 1) := by decide +kernel
theorem dX_start_132 : decode cX_start 132 = .ok (.getfield 54, 3) := by decide +kernel
theorem dX_start_135 : decode cX_start 135 = .ok (.lload 4, 2) := by decide +kernel
theorem dX_start_137 : decode cX_start 137 = .ok (.lload_n 2, 1) := by decide +kernel
theorem dX_start_138 : decode cX_start 138 = .ok (.invokestatic 68, 3) := by decide +kernel
theorem dX_start_141 : decode cX_start 141 = .ok (.putfield 74, 3) := by decide +kernel
theorem dX_start_144 : decode cX_start 144 = .ok (.return_, 1) := by decide +kernel
-- X_losePair
theorem dX_losePair_0 : decode cX_losePair 0 = .ok (.aload_n 0, 1) := by decide +kernel
theorem dX_losePair_1 : decode cX_losePair 1 = .ok (.dup, 1) := by decide +kernel
theorem dX_losePair_2 : decode cX_losePair 2 = .ok (.getfield 77, 3) := by decide +kernel
theorem dX_losePair_5 : decode cX_losePair 5 = .ok (.iload_n 1, 1) := by decide +kernel
theorem dX_losePair_6 : decode cX_losePair 6 = .ok (.invokestatic 80, 3) := by decide +kernel
theorem dX_losePair_9 : decode cX_losePair 9 = .ok (.iconst (-1), 1) := by decide +kernel
theorem dX_losePair_10 : decode cX_losePair 10 = .ok (.ixor, 1) := by decide +kernel
theorem dX_losePair_11 : decode cX_losePair 11 = .ok (.iand, 1) := by decide +kernel
theorem dX_losePair_12 : decode cX_losePair 12 = .ok (.putfield 77, 3) := by decide +kernel
theorem dX_losePair_15 : decode cX_losePair 15 = .ok (.return_, 1) := by decide +kernel
-- X_makeShare
theorem dX_makeShare_0 : decode cX_makeShare 0 = .ok (.aload 4, 2) := by decide +kernel
theorem dX_makeShare_2 : decode cX_makeShare 2 = .ok (.getfield 84, 3) := by decide +kernel
theorem dX_makeShare_5 : decode cX_makeShare 5 = .ok (.iload_n 1, 1) := by decide +kernel
theorem dX_makeShare_6 : decode cX_makeShare 6 = .ok (.laload, 1) := by decide +kernel
theorem dX_makeShare_7 : decode cX_makeShare 7 = .ok (.aload 4, 2) := by decide +kernel
theorem dX_makeShare_9 : decode cX_makeShare 9 = .ok (.getfield 87, 3) := by decide +kernel
theorem dX_makeShare_12 : decode cX_makeShare 12 = .ok (.iload_n 1, 1) := by decide +kernel
theorem dX_makeShare_13 : decode cX_makeShare 13 = .ok (.laload, 1) := by decide +kernel
theorem dX_makeShare_14 : decode cX_makeShare 14 = .ok (.aload_n 0, 1) := by decide +kernel
theorem dX_makeShare_15 : decode cX_makeShare 15 = .ok (.getfield 20, 3) := by decide +kernel
theorem dX_makeShare_18 : decode cX_makeShare 18 = .ok (.iload_n 1, 1) := by decide +kernel
theorem dX_makeShare_19 : decode cX_makeShare 19 = .ok (.laload, 1) := by decide +kernel
theorem dX_makeShare_20 : decode cX_makeShare 20 = .ok (.invokestatic 90, 3) := by decide +kernel
theorem dX_makeShare_23 : decode cX_makeShare 23 = .ok (.invokestatic 93, 3) := by decide +kernel
theorem dX_makeShare_26 : decode cX_makeShare 26 = .ok (.lstore 5, 2) := by decide +kernel
theorem dX_makeShare_28 : decode cX_makeShare 28 = .ok (.aload_n 0, 1) := by decide +kernel
theorem dX_makeShare_29 : decode cX_makeShare 29 = .ok (.getfield 26, 3) := by decide +kernel
theorem dX_makeShare_32 : decode cX_makeShare 32 = .ok (.iload_n 1, 1) := by decide +kernel
theorem dX_makeShare_33 : decode cX_makeShare 33 = .ok (.lload 5, 2) := by decide +kernel
theorem dX_makeShare_35 : decode cX_makeShare 35 = .ok (.aload_n 0, 1) := by decide +kernel
theorem dX_makeShare_36 : decode cX_makeShare 36 = .ok (.iload_n 1, 1) := by decide +kernel
theorem dX_makeShare_37 : decode cX_makeShare 37 = .ok (.invokevirtual 96, 3) := by decide +kernel
theorem dX_makeShare_40 : decode cX_makeShare 40 = .ok (.lload_n 2, 1) := by decide +kernel
theorem dX_makeShare_41 : decode cX_makeShare 41 = .ok (.invokestatic 90, 3) := by decide +kernel
theorem dX_makeShare_44 : decode cX_makeShare 44 = .ok (.invokestatic 93, 3) := by decide +kernel
theorem dX_makeShare_47 : decode cX_makeShare 47 = .ok (.lastore, 1) := by decide +kernel
theorem dX_makeShare_48 : decode cX_makeShare 48 = .ok (.aload_n 0, 1) := by decide +kernel
theorem dX_makeShare_49 : decode cX_makeShare 49 = .ok (.dup, 1) := by decide +kernel
theorem dX_makeShare_50 : decode cX_makeShare 50 = .ok (.getfield 99, 3) := by decide +kernel
theorem dX_makeShare_53 : decode cX_makeShare 53 = .ok (.iload_n 1, 1) := by decide +kernel
theorem dX_makeShare_54 : decode cX_makeShare 54 = .ok (.invokestatic 80, 3) := by decide +kernel
theorem dX_makeShare_57 : decode cX_makeShare 57 = .ok (.ior, 1) := by decide +kernel
theorem dX_makeShare_58 : decode cX_makeShare 58 = .ok (.putfield 99, 3) := by decide +kernel
theorem dX_makeShare_61 : decode cX_makeShare 61 = .ok (.return_, 1) := by decide +kernel
-- X_tell
theorem dX_tell_0 : decode cX_tell 0 = .ok (.aload_n 0, 1) := by decide +kernel
theorem dX_tell_1 : decode cX_tell 1 = .ok (.iload_n 1, 1) := by decide +kernel
theorem dX_tell_2 : decode cX_tell 2 = .ok (.lload_n 2, 1) := by decide +kernel
theorem dX_tell_3 : decode cX_tell 3 = .ok (.lload 4, 2) := by decide +kernel
theorem dX_tell_5 : decode cX_tell 5 = .ok (.invokevirtual 102, 3) := by decide +kernel
theorem dX_tell_8 : decode cX_tell 8 = .ok (.ifCond .ne 18, 3) := by decide +kernel
theorem dX_tell_11 : decode cX_tell 11 = .ok (.aload_n 0, 1) := by decide +kernel
theorem dX_tell_12 : decode cX_tell 12 = .ok (.dup, 1) := by decide +kernel
theorem dX_tell_13 : decode cX_tell 13 = .ok (.getfield 106, 3) := by decide +kernel
theorem dX_tell_16 : decode cX_tell 16 = .ok (.iload_n 1, 1) := by decide +kernel
theorem dX_tell_17 : decode cX_tell 17 = .ok (.invokestatic 80, 3) := by decide +kernel
theorem dX_tell_20 : decode cX_tell 20 = .ok (.ior, 1) := by decide +kernel
theorem dX_tell_21 : decode cX_tell 21 = .ok (.putfield 106, 3) := by decide +kernel
theorem dX_tell_24 : decode cX_tell 24 = .ok (.iconst 0, 1) := by decide +kernel
theorem dX_tell_25 : decode cX_tell 25 = .ok (.ireturn, 1) := by decide +kernel
theorem dX_tell_26 : decode cX_tell 26 = .ok (.aload_n 0, 1) := by decide +kernel
theorem dX_tell_27 : decode cX_tell 27 = .ok (.dup, 1) := by decide +kernel
theorem dX_tell_28 : decode cX_tell 28 = .ok (.getfield 109, 3) := by decide +kernel
theorem dX_tell_31 : decode cX_tell 31 = .ok (.iload_n 1, 1) := by decide +kernel
theorem dX_tell_32 : decode cX_tell 32 = .ok (.invokestatic 80, 3) := by decide +kernel
theorem dX_tell_35 : decode cX_tell 35 = .ok (.ior, 1) := by decide +kernel
theorem dX_tell_36 : decode cX_tell 36 = .ok (.putfield 109, 3) := by decide +kernel
theorem dX_tell_39 : decode cX_tell 39 = .ok (.aload_n 0, 1) := by decide +kernel
theorem dX_tell_40 : decode cX_tell 40 = .ok (.aload_n 0, 1) := by decide +kernel
theorem dX_tell_41 : decode cX_tell 41 = .ok (.getfield 112, 3) := by decide +kernel
theorem dX_tell_44 : decode cX_tell 44 = .ok (.lload_n 2, 1) := by decide +kernel
theorem dX_tell_45 : decode cX_tell 45 = .ok (.invokestatic 93, 3) := by decide +kernel
theorem dX_tell_48 : decode cX_tell 48 = .ok (.putfield 112, 3) := by decide +kernel
theorem dX_tell_51 : decode cX_tell 51 = .ok (.iconst 1, 1) := by decide +kernel
theorem dX_tell_52 : decode cX_tell 52 = .ok (.ireturn, 1) := by decide +kernel
-- X_reset
theorem dX_reset_0 : decode cX_reset 0 = .ok (.aload_n 0, 1) := by decide +kernel
theorem dX_reset_1 : decode cX_reset 1 = .ok (.iload_n 1, 1) := by decide +kernel
theorem dX_reset_2 : decode cX_reset 2 = .ok (.putfield 29, 3) := by decide +kernel
theorem dX_reset_5 : decode cX_reset 5 = .ok (.aload_n 0, 1) := by decide +kernel
theorem dX_reset_6 : decode cX_reset 6 = .ok (.iload_n 1, 1) := by decide +kernel
theorem dX_reset_7 : decode cX_reset 7 = .ok (.putfield 77, 3) := by decide +kernel
theorem dX_reset_10 : decode cX_reset 10 = .ok (.aload_n 0, 1) := by decide +kernel
theorem dX_reset_11 : decode cX_reset 11 = .ok (.iconst 0, 1) := by decide +kernel
theorem dX_reset_12 : decode cX_reset 12 = .ok (.putfield 99, 3) := by decide +kernel
theorem dX_reset_15 : decode cX_reset 15 = .ok (.aload_n 0, 1) := by decide +kernel
theorem dX_reset_16 : decode cX_reset 16 = .ok (.iconst 0, 1) := by decide +kernel
theorem dX_reset_17 : decode cX_reset 17 = .ok (.putfield 109, 3) := by decide +kernel
theorem dX_reset_20 : decode cX_reset 20 = .ok (.aload_n 0, 1) := by decide +kernel
theorem dX_reset_21 : decode cX_reset 21 = .ok (.iconst 0, 1) := by decide +kernel
theorem dX_reset_22 : decode cX_reset 22 = .ok (.putfield 106, 3) := by decide +kernel
theorem dX_reset_25 : decode cX_reset 25 = .ok (.aload_n 0, 1) := by decide +kernel
theorem dX_reset_26 : decode cX_reset 26 = .ok (.lconst 1, 1) := by decide +kernel
theorem dX_reset_27 : decode cX_reset 27 = .ok (.putfield 54, 3) := by decide +kernel
theorem dX_reset_30 : decode cX_reset 30 = .ok (.aload_n 0, 1) := by decide +kernel
theorem dX_reset_31 : decode cX_reset 31 = .ok (.lconst 0, 1) := by decide +kernel
theorem dX_reset_32 : decode cX_reset 32 = .ok (.putfield 112, 3) := by decide +kernel
theorem dX_reset_35 : decode cX_reset 35 = .ok (.return_, 1) := by decide +kernel
-- X_factorFor
theorem dX_factorFor_0 : decode cX_factorFor 0 = .ok (.lconst 0, 1) := by decide +kernel
theorem dX_factorFor_1 : decode cX_factorFor 1 = .ok (.ldc2_w 115, 3) := by decide +kernel
theorem dX_factorFor_4 : decode cX_factorFor 4 = .ok (.invokestatic 117, 3) := by decide +kernel
theorem dX_factorFor_7 : decode cX_factorFor 7 = .ok (.lload 4, 2) := by decide +kernel
theorem dX_factorFor_9 : decode cX_factorFor 9 = .ok (.invokestatic 117, 3) := by decide +kernel
theorem dX_factorFor_12 : decode cX_factorFor 12 = .ok (.lstore 6, 2) := by decide +kernel
theorem dX_factorFor_14 : decode cX_factorFor 14 = .ok (.lload 6, 2) := by decide +kernel
theorem dX_factorFor_16 : decode cX_factorFor 16 = .ok (.lload_n 2, 1) := by decide +kernel
theorem dX_factorFor_17 : decode cX_factorFor 17 = .ok (.invokestatic 117, 3) := by decide +kernel
theorem dX_factorFor_20 : decode cX_factorFor 20 = .ok (.iload_n 1, 1) := by decide +kernel
theorem dX_factorFor_21 : decode cX_factorFor 21 = .ok (.i2l, 1) := by decide +kernel
theorem dX_factorFor_22 : decode cX_factorFor 22 = .ok (.invokestatic 117, 3) := by decide +kernel
theorem dX_factorFor_25 : decode cX_factorFor 25 = .ok (.lstore 6, 2) := by decide +kernel
theorem dX_factorFor_27 : decode cX_factorFor 27 = .ok (.iconst 1, 1) := by decide +kernel
theorem dX_factorFor_28 : decode cX_factorFor 28 = .ok (.istore 8, 2) := by decide +kernel
theorem dX_factorFor_30 : decode cX_factorFor 30 = .ok (.iload 8, 2) := by decide +kernel
theorem dX_factorFor_32 : decode cX_factorFor 32 = .ok (.aload_n 0, 1) := by decide +kernel
theorem dX_factorFor_33 : decode cX_factorFor 33 = .ok (.getfield 7, 3) := by decide +kernel
theorem dX_factorFor_36 : decode cX_factorFor 36 = .ok (.if_icmp .gt 55, 3) := by decide +kernel
theorem dX_factorFor_39 : decode cX_factorFor 39 = .ok (.aload_n 0, 1) := by decide +kernel
theorem dX_factorFor_40 : decode cX_factorFor 40 = .ok (.getfield 29, 3) := by decide +kernel
theorem dX_factorFor_43 : decode cX_factorFor 43 = .ok (.iload 8, 2) := by decide +kernel
theorem dX_factorFor_45 : decode cX_factorFor 45 = .ok (.invokestatic 40, 3) := by decide +kernel
theorem dX_factorFor_48 : decode cX_factorFor 48 = .ok (.ifCond .eq 37, 3) := by decide +kernel
theorem dX_factorFor_51 : decode cX_factorFor 51 = .ok (.lload 6, 2) := by decide +kernel
theorem dX_factorFor_53 : decode cX_factorFor 53 = .ok (.iload 8, 2) := by decide +kernel
theorem dX_factorFor_55 : decode cX_factorFor 55 = .ok (.i2l, 1) := by decide +kernel
theorem dX_factorFor_56 : decode cX_factorFor 56 = .ok (.invokestatic 117, 3) := by decide +kernel
theorem dX_factorFor_59 : decode cX_factorFor 59 = .ok (.aload_n 0, 1) := by decide +kernel
theorem dX_factorFor_60 : decode cX_factorFor 60 = .ok (.getfield 13, 3) := by decide +kernel
theorem dX_factorFor_63 : decode cX_factorFor 63 = .ok (.iload 8, 2) := by decide +kernel
theorem dX_factorFor_65 : decode cX_factorFor 65 = .ok (.laload, 1) := by decide +kernel
theorem dX_factorFor_66 : decode cX_factorFor 66 = .ok (.invokestatic 117, 3) := by decide +kernel
theorem dX_factorFor_69 : decode cX_factorFor 69 = .ok (.lstore 6, 2) := by decide +kernel
theorem dX_factorFor_71 : decode cX_factorFor 71 = .ok (.lload 6, 2) := by decide +kernel
theorem dX_factorFor_73 : decode cX_factorFor 73 = .ok (.aload_n 0, 1) := by decide +kernel
theorem dX_factorFor_74 : decode cX_factorFor 74 = .ok (.getfield 17, 3) := by decide +kernel
theorem dX_factorFor_77 : decode cX_factorFor 77 = .ok (.iload 8, 2) := by decide +kernel
theorem dX_factorFor_79 : decode cX_factorFor 79 = .ok (.laload, 1) := by decide +kernel
theorem dX_factorFor_80 : decode cX_factorFor 80 = .ok (.invokestatic 117, 3) := by decide +kernel
theorem dX_factorFor_83 : decode cX_factorFor 83 = .ok (.lstore 6, 2) := by decide +kernel
theorem dX_factorFor_85 : decode cX_factorFor 85 = .ok (.iinc 8 1, 3) := by decide +kernel
theorem dX_factorFor_88 : decode cX_factorFor 88 = .ok (.goto (-58), 3) := by decide +kernel
theorem dX_factorFor_91 : decode cX_factorFor 91 = .ok (.lload 6, 2) := by decide +kernel
theorem dX_factorFor_93 : decode cX_factorFor 93 = .ok (.invokestatic 120, 3) := by decide +kernel
theorem dX_factorFor_96 : decode cX_factorFor 96 = .ok (.lreturn, 1) := by decide +kernel
-- X_toldPart
theorem dX_toldPart_0 : decode cX_toldPart 0 = .ok (.aload_n 0, 1) := by decide +kernel
theorem dX_toldPart_1 : decode cX_toldPart 1 = .ok (.getfield 13, 3) := by decide +kernel
theorem dX_toldPart_4 : decode cX_toldPart 4 = .ok (.iload_n 1, 1) := by decide +kernel
theorem dX_toldPart_5 : decode cX_toldPart 5 = .ok (.laload, 1) := by decide +kernel
theorem dX_toldPart_6 : decode cX_toldPart 6 = .ok (.aload_n 0, 1) := by decide +kernel
theorem dX_toldPart_7 : decode cX_toldPart 7 = .ok (.getfield 17, 3) := by decide +kernel
theorem dX_toldPart_10 : decode cX_toldPart 10 = .ok (.iload_n 1, 1) := by decide +kernel
theorem dX_toldPart_11 : decode cX_toldPart 11 = .ok (.laload, 1) := by decide +kernel
theorem dX_toldPart_12 : decode cX_toldPart 12 = .ok (.aload_n 0, 1) := by decide +kernel
theorem dX_toldPart_13 : decode cX_toldPart 13 = .ok (.getfield 20, 3) := by decide +kernel
theorem dX_toldPart_16 : decode cX_toldPart 16 = .ok (.iload_n 1, 1) := by decide +kernel
theorem dX_toldPart_17 : decode cX_toldPart 17 = .ok (.laload, 1) := by decide +kernel
theorem dX_toldPart_18 : decode cX_toldPart 18 = .ok (.invokestatic 124, 3) := by decide +kernel
theorem dX_toldPart_21 : decode cX_toldPart 21 = .ok (.invokestatic 62, 3) := by decide +kernel
theorem dX_toldPart_24 : decode cX_toldPart 24 = .ok (.lreturn, 1) := by decide +kernel
-- X_keyExponent
theorem dX_keyExponent_0 : decode cX_keyExponent 0 = .ok (.aload_n 0, 1) := by decide +kernel
theorem dX_keyExponent_1 : decode cX_keyExponent 1 = .ok (.getfield 74, 3) := by decide +kernel
theorem dX_keyExponent_4 : decode cX_keyExponent 4 = .ok (.aload_n 0, 1) := by decide +kernel
theorem dX_keyExponent_5 : decode cX_keyExponent 5 = .ok (.getfield 23, 3) := by decide +kernel
theorem dX_keyExponent_8 : decode cX_keyExponent 8 = .ok (.iload_n 1, 1) := by decide +kernel
theorem dX_keyExponent_9 : decode cX_keyExponent 9 = .ok (.laload, 1) := by decide +kernel
theorem dX_keyExponent_10 : decode cX_keyExponent 10 = .ok (.invokestatic 90, 3) := by decide +kernel
theorem dX_keyExponent_13 : decode cX_keyExponent 13 = .ok (.lreturn, 1) := by decide +kernel
-- X_isRight
theorem dX_isRight_0 : decode cX_isRight 0 = .ok (.lload 4, 2) := by decide +kernel
theorem dX_isRight_2 : decode cX_isRight 2 = .ok (.aload_n 0, 1) := by decide +kernel
theorem dX_isRight_3 : decode cX_isRight 3 = .ok (.iload_n 1, 1) := by decide +kernel
theorem dX_isRight_4 : decode cX_isRight 4 = .ok (.invokevirtual 96, 3) := by decide +kernel
theorem dX_isRight_7 : decode cX_isRight 7 = .ok (.invokestatic 124, 3) := by decide +kernel
theorem dX_isRight_10 : decode cX_isRight 10 = .ok (.lstore 6, 2) := by decide +kernel
theorem dX_isRight_12 : decode cX_isRight 12 = .ok (.lload_n 2, 1) := by decide +kernel
theorem dX_isRight_13 : decode cX_isRight 13 = .ok (.invokestatic 127, 3) := by decide +kernel
theorem dX_isRight_16 : decode cX_isRight 16 = .ok (.aload_n 0, 1) := by decide +kernel
theorem dX_isRight_17 : decode cX_isRight 17 = .ok (.iload_n 1, 1) := by decide +kernel
theorem dX_isRight_18 : decode cX_isRight 18 = .ok (.invokevirtual 58, 3) := by decide +kernel
theorem dX_isRight_21 : decode cX_isRight 21 = .ok (.lload 6, 2) := by decide +kernel
theorem dX_isRight_23 : decode cX_isRight 23 = .ok (.invokestatic 62, 3) := by decide +kernel
theorem dX_isRight_26 : decode cX_isRight 26 = .ok (.lcmp, 1) := by decide +kernel
theorem dX_isRight_27 : decode cX_isRight 27 = .ok (.ifCond .ne 7, 3) := by decide +kernel
theorem dX_isRight_30 : decode cX_isRight 30 = .ok (.iconst 1, 1) := by decide +kernel
theorem dX_isRight_31 : decode cX_isRight 31 = .ok (.goto 4, 3) := by decide +kernel
theorem dX_isRight_34 : decode cX_isRight 34 = .ok (.iconst 0, 1) := by decide +kernel
theorem dX_isRight_35 : decode cX_isRight 35 = .ok (.ireturn, 1) := by decide +kernel
-- I_only
theorem dI_only_0 : decode cI_only 0 = .ok (.iconst 1, 1) := by decide +kernel
theorem dI_only_1 : decode cI_only 1 = .ok (.iload_n 0, 1) := by decide +kernel
theorem dI_only_2 : decode cI_only 2 = .ok (.iconst 1, 1) := by decide +kernel
theorem dI_only_3 : decode cI_only 3 = .ok (.isub, 1) := by decide +kernel
theorem dI_only_4 : decode cI_only 4 = .ok (.ishl, 1) := by decide +kernel
theorem dI_only_5 : decode cI_only 5 = .ok (.ireturn, 1) := by decide +kernel
-- I_has
theorem dI_has_0 : decode cI_has 0 = .ok (.iload_n 0, 1) := by decide +kernel
theorem dI_has_1 : decode cI_has 1 = .ok (.iload_n 1, 1) := by decide +kernel
theorem dI_has_2 : decode cI_has 2 = .ok (.invokestatic 7, 3) := by decide +kernel
theorem dI_has_5 : decode cI_has 5 = .ok (.iand, 1) := by decide +kernel
theorem dI_has_6 : decode cI_has 6 = .ok (.ifCond .eq 7, 3) := by decide +kernel
theorem dI_has_9 : decode cI_has 9 = .ok (.iconst 1, 1) := by decide +kernel
theorem dI_has_10 : decode cI_has 10 = .ok (.goto 4, 3) := by decide +kernel
theorem dI_has_13 : decode cI_has 13 = .ok (.iconst 0, 1) := by decide +kernel
theorem dI_has_14 : decode cI_has 14 = .ok (.ireturn, 1) := by decide +kernel
-- I_weightIn
theorem dI_weightIn_0 : decode cI_weightIn 0 = .ok (.lconst 1, 1) := by decide +kernel
theorem dI_weightIn_1 : decode cI_weightIn 1 = .ok (.lstore_n 3, 1) := by decide +kernel
theorem dI_weightIn_2 : decode cI_weightIn 2 = .ok (.lconst 1, 1) := by decide +kernel
theorem dI_weightIn_3 : decode cI_weightIn 3 = .ok (.lstore 5, 2) := by decide +kernel
theorem dI_weightIn_5 : decode cI_weightIn 5 = .ok (.iconst 1, 1) := by decide +kernel
theorem dI_weightIn_6 : decode cI_weightIn 6 = .ok (.istore 7, 2) := by decide +kernel
theorem dI_weightIn_8 : decode cI_weightIn 8 = .ok (.iload 7, 2) := by decide +kernel
theorem dI_weightIn_10 : decode cI_weightIn 10 = .ok (.iload_n 2, 1) := by decide +kernel
theorem dI_weightIn_11 : decode cI_weightIn 11 = .ok (.if_icmp .gt 47, 3) := by decide +kernel
theorem dI_weightIn_14 : decode cI_weightIn 14 = .ok (.iload 7, 2) := by decide +kernel
theorem dI_weightIn_16 : decode cI_weightIn 16 = .ok (.iload_n 1, 1) := by decide +kernel
theorem dI_weightIn_17 : decode cI_weightIn 17 = .ok (.if_icmp .eq 35, 3) := by decide +kernel
theorem dI_weightIn_20 : decode cI_weightIn 20 = .ok (.iload_n 0, 1) := by decide +kernel
theorem dI_weightIn_21 : decode cI_weightIn 21 = .ok (.iload 7, 2) := by decide +kernel
theorem dI_weightIn_23 : decode cI_weightIn 23 = .ok (.invokestatic 13, 3) := by decide +kernel
theorem dI_weightIn_26 : decode cI_weightIn 26 = .ok (.ifCond .eq 26, 3) := by decide +kernel
theorem dI_weightIn_29 : decode cI_weightIn 29 = .ok (.lload_n 3, 1) := by decide +kernel
theorem dI_weightIn_30 : decode cI_weightIn 30 = .ok (.iload 7, 2) := by decide +kernel
theorem dI_weightIn_32 : decode cI_weightIn 32 = .ok (.i2l, 1) := by decide +kernel
theorem dI_weightIn_33 : decode cI_weightIn 33 = .ok (.invokestatic 17, 3) := by decide +kernel
theorem dI_weightIn_36 : decode cI_weightIn 36 = .ok (.lstore_n 3, 1) := by decide +kernel
theorem dI_weightIn_37 : decode cI_weightIn 37 = .ok (.lload 5, 2) := by decide +kernel
theorem dI_weightIn_39 : decode cI_weightIn 39 = .ok (.iload 7, 2) := by decide +kernel
theorem dI_weightIn_41 : decode cI_weightIn 41 = .ok (.i2l, 1) := by decide +kernel
theorem dI_weightIn_42 : decode cI_weightIn 42 = .ok (.iload_n 1, 1) := by decide +kernel
theorem dI_weightIn_43 : decode cI_weightIn 43 = .ok (.i2l, 1) := by decide +kernel
theorem dI_weightIn_44 : decode cI_weightIn 44 = .ok (.invokestatic 23, 3) := by decide +kernel
theorem dI_weightIn_47 : decode cI_weightIn 47 = .ok (.invokestatic 17, 3) := by decide +kernel
theorem dI_weightIn_50 : decode cI_weightIn 50 = .ok (.lstore 5, 2) := by decide +kernel
theorem dI_weightIn_52 : decode cI_weightIn 52 = .ok (.iinc 7 1, 3) := by decide +kernel
theorem dI_weightIn_55 : decode cI_weightIn 55 = .ok (.goto (-47), 3) := by decide +kernel
theorem dI_weightIn_58 : decode cI_weightIn 58 = .ok (.lload_n 3, 1) := by decide +kernel
theorem dI_weightIn_59 : decode cI_weightIn 59 = .ok (.lload 5, 2) := by decide +kernel
theorem dI_weightIn_61 : decode cI_weightIn 61 = .ok (.invokestatic 26, 3) := by decide +kernel
theorem dI_weightIn_64 : decode cI_weightIn 64 = .ok (.invokestatic 17, 3) := by decide +kernel
theorem dI_weightIn_67 : decode cI_weightIn 67 = .ok (.lreturn, 1) := by decide +kernel
