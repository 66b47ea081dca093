-- M_init
theorem dM_init_0 : decode cM_init 0 = .ok (.aload_n 0, 1) := by decide +kernel
theorem dM_init_1 : decode cM_init 1 = .ok (.invokespecial 1, 3) := by decide +kernel
theorem dM_init_4 : decode cM_init 4 = .ok (.aload_n 0, 1) := by decide +kernel
theorem dM_init_5 : decode cM_init 5 = .ok (.bipush 7, 2) := by decide +kernel
theorem dM_init_7 : decode cM_init 7 = .ok (.newarray .long, 2) := by decide +kernel
theorem dM_init_9 : decode cM_init 9 = .ok (.putfield 7, 3) := by decide +kernel
theorem dM_init_12 : decode cM_init 12 = .ok (.aload_n 0, 1) := by decide +kernel
theorem dM_init_13 : decode cM_init 13 = .ok (.bipush 7, 2) := by decide +kernel
theorem dM_init_15 : decode cM_init 15 = .ok (.newarray .long, 2) := by decide +kernel
theorem dM_init_17 : decode cM_init 17 = .ok (.putfield 13, 3) := by decide +kernel
theorem dM_init_20 : decode cM_init 20 = .ok (.aload_n 0, 1) := by decide +kernel
theorem dM_init_21 : decode cM_init 21 = .ok (.bipush 7, 2) := by decide +kernel
theorem dM_init_23 : decode cM_init 23 = .ok (.newarray .boolean, 2) := by decide +kernel
theorem dM_init_25 : decode cM_init 25 = .ok (.putfield 16, 3) := by decide +kernel
theorem dM_init_28 : decode cM_init 28 = .ok (.aload_n 0, 1) := by decide +kernel
theorem dM_init_29 : decode cM_init 29 = .ok (.bipush 7, 2) := by decide +kernel
theorem dM_init_31 : decode cM_init 31 = .ok (.newarray .long, 2) := by decide +kernel
theorem dM_init_33 : decode cM_init 33 = .ok (.putfield 20, 3) := by decide +kernel
theorem dM_init_36 : decode cM_init 36 = .ok (.aload_n 0, 1) := by decide +kernel
theorem dM_init_37 : decode cM_init 37 = .ok (.bipush 7, 2) := by decide +kernel
theorem dM_init_39 : decode cM_init 39 = .ok (.newarray .long, 2) := by decide +kernel
theorem dM_init_41 : decode cM_init 41 = .ok (.putfield 23, 3) := by decide +kernel
theorem dM_init_44 : decode cM_init 44 = .ok (.aload_n 0, 1) := by decide +kernel
theorem dM_init_45 : decode cM_init 45 = .ok (.bipush 7, 2) := by decide +kernel
theorem dM_init_47 : decode cM_init 47 = .ok (.newarray .long, 2) := by decide +kernel
theorem dM_init_49 : decode cM_init 49 = .ok (.putfield 26, 3) := by decide +kernel
theorem dM_init_52 : decode cM_init 52 = .ok (.aload_n 0, 1) := by decide +kernel
theorem dM_init_53 : decode cM_init 53 = .ok (.bipush 7, 2) := by decide +kernel
theorem dM_init_55 : decode cM_init 55 = .ok (.newarray .long, 2) := by decide +kernel
theorem dM_init_57 : decode cM_init 57 = .ok (.putfield 29, 3) := by decide +kernel
theorem dM_init_60 : decode cM_init 60 = .ok (.aload_n 0, 1) := by decide +kernel
theorem dM_init_61 : decode cM_init 61 = .ok (.bipush 7, 2) := by decide +kernel
theorem dM_init_63 : decode cM_init 63 = .ok (.newarray .long, 2) := by decide +kernel
theorem dM_init_65 : decode cM_init 65 = .ok (.putfield 32, 3) := by decide +kernel
theorem dM_init_68 : decode cM_init 68 = .ok (.aload_n 0, 1) := by decide +kernel
theorem dM_init_69 : decode cM_init 69 = .ok (.bipush 7, 2) := by decide +kernel
theorem dM_init_71 : decode cM_init 71 = .ok (.newarray .long, 2) := by decide +kernel
theorem dM_init_73 : decode cM_init 73 = .ok (.putfield 35, 3) := by decide +kernel
theorem dM_init_76 : decode cM_init 76 = .ok (.aload_n 0, 1) := by decide +kernel
theorem dM_init_77 : decode cM_init 77 = .ok (.bipush 7, 2) := by decide +kernel
theorem dM_init_79 : decode cM_init 79 = .ok (.newarray .long, 2) := by decide +kernel
theorem dM_init_81 : decode cM_init 81 = .ok (.putfield 38, 3) := by decide +kernel
theorem dM_init_84 : decode cM_init 84 = .ok (.aload_n 0, 1) := by decide +kernel
theorem dM_init_85 : decode cM_init 85 = .ok (.bipush 7, 2) := by decide +kernel
theorem dM_init_87 : decode cM_init 87 = .ok (.newarray .long, 2) := by decide +kernel
theorem dM_init_89 : decode cM_init 89 = .ok (.putfield 41, 3) := by decide +kernel
theorem dM_init_92 : decode cM_init 92 = .ok (.aload_n 0, 1) := by decide +kernel
theorem dM_init_93 : decode cM_init 93 = .ok (.bipush 7, 2) := by decide +kernel
theorem dM_init_95 : decode cM_init 95 = .ok (.newarray .boolean, 2) := by decide +kernel
theorem dM_init_97 : decode cM_init 97 = .ok (.putfield 44, 3) := by decide +kernel
theorem dM_init_100 : decode cM_init 100 = .ok (.aload_n 0, 1) := by decide +kernel
theorem dM_init_101 : decode cM_init 101 = .ok (.bipush 7, 2) := by decide +kernel
theorem dM_init_103 : decode cM_init 103 = .ok (.newarray .boolean, 2) := by decide +kernel
theorem dM_init_105 : decode cM_init 105 = .ok (.putfield 47, 3) := by decide +kernel
theorem dM_init_108 : decode cM_init 108 = .ok (.aload_n 0, 1) := by decide +kernel
theorem dM_init_109 : decode cM_init 109 = .ok (.bipush 7, 2) := by decide +kernel
theorem dM_init_111 : decode cM_init 111 = .ok (.newarray .long, 2) := by decide +kernel
theorem dM_init_113 : decode cM_init 113 = .ok (.putfield 50, 3) := by decide +kernel
theorem dM_init_116 : decode cM_init 116 = .ok (.aload_n 0, 1) := by decide +kernel
theorem dM_init_117 : decode cM_init 117 = .ok (.bipush 7, 2) := by decide +kernel
theorem dM_init_119 : decode cM_init 119 = .ok (.newarray .long, 2) := by decide +kernel
theorem dM_init_121 : decode cM_init 121 = .ok (.putfield 53, 3) := by decide +kernel
theorem dM_init_124 : decode cM_init 124 = .ok (.aload_n 0, 1) := by decide +kernel
theorem dM_init_125 : decode cM_init 125 = .ok (.iload_n 1, 1) := by decide +kernel
theorem dM_init_126 : decode cM_init 126 = .ok (.iconst 1, 1) := by decide +kernel
theorem dM_init_127 : decode cM_init 127 = .ok (.if_icmp .ge 7, 3) := by decide +kernel
theorem dM_init_130 : decode cM_init 130 = .ok (.iconst 1, 1) := by decide +kernel
theorem dM_init_131 : decode cM_init 131 = .ok (.goto 15, 3) := by decide +kernel
theorem dM_init_134 : decode cM_init 134 = .ok (.iload_n 1, 1) := by decide +kernel
theorem dM_init_135 : decode cM_init 135 = .ok (.bipush 6, 2) := by decide +kernel
theorem dM_init_137 : decode cM_init 137 = .ok (.if_icmp .le 8, 3) := by decide +kernel
theorem dM_init_140 : decode cM_init 140 = .ok (.bipush 6, 2) := by decide +kernel
theorem dM_init_142 : decode cM_init 142 = .ok (.goto 4, 3) := by decide +kernel
theorem dM_init_145 : decode cM_init 145 = .ok (.iload_n 1, 1) := by decide +kernel
theorem dM_init_146 : decode cM_init 146 = .ok (.putfield 56, 3) := by decide +kernel
theorem dM_init_149 : decode cM_init 149 = .ok (.aload_n 0, 1) := by decide +kernel
theorem dM_init_150 : decode cM_init 150 = .ok (.iload_n 2, 1) := by decide +kernel
theorem dM_init_151 : decode cM_init 151 = .ok (.iconst 1, 1) := by decide +kernel
theorem dM_init_152 : decode cM_init 152 = .ok (.if_icmp .ge 7, 3) := by decide +kernel
theorem dM_init_155 : decode cM_init 155 = .ok (.iconst 1, 1) := by decide +kernel
theorem dM_init_156 : decode cM_init 156 = .ok (.goto 19, 3) := by decide +kernel
theorem dM_init_159 : decode cM_init 159 = .ok (.iload_n 2, 1) := by decide +kernel
theorem dM_init_160 : decode cM_init 160 = .ok (.aload_n 0, 1) := by decide +kernel
theorem dM_init_161 : decode cM_init 161 = .ok (.getfield 56, 3) := by decide +kernel
theorem dM_init_164 : decode cM_init 164 = .ok (.if_icmp .le 10, 3) := by decide +kernel
theorem dM_init_167 : decode cM_init 167 = .ok (.aload_n 0, 1) := by decide +kernel
theorem dM_init_168 : decode cM_init 168 = .ok (.getfield 56, 3) := by decide +kernel
theorem dM_init_171 : decode cM_init 171 = .ok (.goto 4, 3) := by decide +kernel
theorem dM_init_174 : decode cM_init 174 = .ok (.iload_n 2, 1) := by decide +kernel
theorem dM_init_175 : decode cM_init 175 = .ok (.putfield 60, 3) := by decide +kernel
theorem dM_init_178 : decode cM_init 178 = .ok (.return_, 1) := by decide +kernel
-- M_thrown
theorem dM_thrown_0 : decode cM_thrown 0 = .ok (.aload_n 0, 1) := by decide +kernel
theorem dM_thrown_1 : decode cM_thrown 1 = .ok (.getfield 63, 3) := by decide +kernel
theorem dM_thrown_4 : decode cM_thrown 4 = .ok (.ireturn, 1) := by decide +kernel
-- M_power
theorem dM_power_0 : decode cM_power 0 = .ok (.lconst 1, 1) := by decide +kernel
theorem dM_power_1 : decode cM_power 1 = .ok (.lstore 6, 2) := by decide +kernel
theorem dM_power_3 : decode cM_power 3 = .ok (.bipush 30, 2) := by decide +kernel
theorem dM_power_5 : decode cM_power 5 = .ok (.istore 8, 2) := by decide +kernel
theorem dM_power_7 : decode cM_power 7 = .ok (.iload 8, 2) := by decide +kernel
theorem dM_power_9 : decode cM_power 9 = .ok (.ifCond .lt 64, 3) := by decide +kernel
theorem dM_power_12 : decode cM_power 12 = .ok (.lload 6, 2) := by decide +kernel
theorem dM_power_14 : decode cM_power 14 = .ok (.lload 6, 2) := by decide +kernel
theorem dM_power_16 : decode cM_power 16 = .ok (.lmul, 1) := by decide +kernel
theorem dM_power_17 : decode cM_power 17 = .ok (.lload 4, 2) := by decide +kernel
theorem dM_power_19 : decode cM_power 19 = .ok (.lrem, 1) := by decide +kernel
theorem dM_power_20 : decode cM_power 20 = .ok (.lstore 6, 2) := by decide +kernel
theorem dM_power_22 : decode cM_power 22 = .ok (.lload 6, 2) := by decide +kernel
theorem dM_power_24 : decode cM_power 24 = .ok (.lload 6, 2) := by decide +kernel
theorem dM_power_26 : decode cM_power 26 = .ok (.lmul, 1) := by decide +kernel
theorem dM_power_27 : decode cM_power 27 = .ok (.lload 4, 2) := by decide +kernel
theorem dM_power_29 : decode cM_power 29 = .ok (.lrem, 1) := by decide +kernel
theorem dM_power_30 : decode cM_power 30 = .ok (.lstore 6, 2) := by decide +kernel
theorem dM_power_32 : decode cM_power 32 = .ok (.lload_n 2, 1) := by decide +kernel
theorem dM_power_33 : decode cM_power 33 = .ok (.iload 8, 2) := by decide +kernel
theorem dM_power_35 : decode cM_power 35 = .ok (.lshr, 1) := by decide +kernel
theorem dM_power_36 : decode cM_power 36 = .ok (.ldc2_w 66, 3) := by decide +kernel
theorem dM_power_39 : decode cM_power 39 = .ok (.land, 1) := by decide +kernel
theorem dM_power_40 : decode cM_power 40 = .ok (.lstore 9, 2) := by decide +kernel
theorem dM_power_42 : decode cM_power 42 = .ok (.lload 9, 2) := by decide +kernel
theorem dM_power_44 : decode cM_power 44 = .ok (.lconst 0, 1) := by decide +kernel
theorem dM_power_45 : decode cM_power 45 = .ok (.lcmp, 1) := by decide +kernel
theorem dM_power_46 : decode cM_power 46 = .ok (.ifCond .le 21, 3) := by decide +kernel
theorem dM_power_49 : decode cM_power 49 = .ok (.lload 6, 2) := by decide +kernel
theorem dM_power_51 : decode cM_power 51 = .ok (.lload_n 0, 1) := by decide +kernel
theorem dM_power_52 : decode cM_power 52 = .ok (.lmul, 1) := by decide +kernel
theorem dM_power_53 : decode cM_power 53 = .ok (.lload 4, 2) := by decide +kernel
theorem dM_power_55 : decode cM_power 55 = .ok (.lrem, 1) := by decide +kernel
theorem dM_power_56 : decode cM_power 56 = .ok (.lstore 6, 2) := by decide +kernel
theorem dM_power_58 : decode cM_power 58 = .ok (.lload 9, 2) := by decide +kernel
theorem dM_power_60 : decode cM_power 60 = .ok (.lconst 1, 1) := by decide +kernel
theorem dM_power_61 : decode cM_power 61 = .ok (.lsub, 1) := by decide +kernel
theorem dM_power_62 : decode cM_power 62 = .ok (.lstore 9, 2) := by decide +kernel
theorem dM_power_64 : decode cM_power 64 = .ok (.goto (-22), 3) := by decide +kernel
theorem dM_power_67 : decode cM_power 67 = .ok (.iinc 8 (-2), 3) := by decide +kernel
theorem dM_power_70 : decode cM_power 70 = .ok (.goto (-63), 3) := by decide +kernel
theorem dM_power_73 : decode cM_power 73 = .ok (.lload 6, 2) := by decide +kernel
theorem dM_power_75 : decode cM_power 75 = .ok (.lreturn, 1) := by decide +kernel
-- M_isNumber
theorem dM_isNumber_0 : decode cM_isNumber 0 = .ok (.lload_n 0, 1) := by decide +kernel
theorem dM_isNumber_1 : decode cM_isNumber 1 = .ok (.lconst 0, 1) := by decide +kernel
theorem dM_isNumber_2 : decode cM_isNumber 2 = .ok (.lcmp, 1) := by decide +kernel
theorem dM_isNumber_3 : decode cM_isNumber 3 = .ok (.ifCond .lt 15, 3) := by decide +kernel
theorem dM_isNumber_6 : decode cM_isNumber 6 = .ok (.lload_n 0, 1) := by decide +kernel
theorem dM_isNumber_7 : decode cM_isNumber 7 = .ok (.ldc2_w 68, 3) := by decide +kernel
theorem dM_isNumber_10 : decode cM_isNumber 10 = .ok (.lcmp, 1) := by decide +kernel
theorem dM_isNumber_11 : decode cM_isNumber 11 = .ok (.ifCond .ge 7, 3) := by decide +kernel
theorem dM_isNumber_14 : decode cM_isNumber 14 = .ok (.iconst 1, 1) := by decide +kernel
theorem dM_isNumber_15 : decode cM_isNumber 15 = .ok (.goto 4, 3) := by decide +kernel
theorem dM_isNumber_18 : decode cM_isNumber 18 = .ok (.iconst 0, 1) := by decide +kernel
theorem dM_isNumber_19 : decode cM_isNumber 19 = .ok (.ireturn, 1) := by decide +kernel
-- M_begins
theorem dM_begins_0 : decode cM_begins 0 = .ok (.aload_n 0, 1) := by decide +kernel
theorem dM_begins_1 : decode cM_begins 1 = .ok (.lconst 0, 1) := by decide +kernel
theorem dM_begins_2 : decode cM_begins 2 = .ok (.putfield 70, 3) := by decide +kernel
theorem dM_begins_5 : decode cM_begins 5 = .ok (.aload_n 0, 1) := by decide +kernel
theorem dM_begins_6 : decode cM_begins 6 = .ok (.lload_n 1, 1) := by decide +kernel
theorem dM_begins_7 : decode cM_begins 7 = .ok (.invokevirtual 74, 3) := by decide +kernel
theorem dM_begins_10 : decode cM_begins 10 = .ok (.return_, 1) := by decide +kernel
-- M_mix
theorem dM_mix_0 : decode cM_mix 0 = .ok (.aload_n 0, 1) := by decide +kernel
theorem dM_mix_1 : decode cM_mix 1 = .ok (.getfield 70, 3) := by decide +kernel
theorem dM_mix_4 : decode cM_mix 4 = .ok (.lload_n 1, 1) := by decide +kernel
theorem dM_mix_5 : decode cM_mix 5 = .ok (.lxor, 1) := by decide +kernel
theorem dM_mix_6 : decode cM_mix 6 = .ok (.ldc2_w 78, 3) := by decide +kernel
theorem dM_mix_9 : decode cM_mix 9 = .ok (.lmul, 1) := by decide +kernel
theorem dM_mix_10 : decode cM_mix 10 = .ok (.lstore_n 3, 1) := by decide +kernel
theorem dM_mix_11 : decode cM_mix 11 = .ok (.aload_n 0, 1) := by decide +kernel
theorem dM_mix_12 : decode cM_mix 12 = .ok (.lload_n 3, 1) := by decide +kernel
theorem dM_mix_13 : decode cM_mix 13 = .ok (.lload_n 3, 1) := by decide +kernel
theorem dM_mix_14 : decode cM_mix 14 = .ok (.bipush 31, 2) := by decide +kernel
theorem dM_mix_16 : decode cM_mix 16 = .ok (.lushr, 1) := by decide +kernel
theorem dM_mix_17 : decode cM_mix 17 = .ok (.lxor, 1) := by decide +kernel
theorem dM_mix_18 : decode cM_mix 18 = .ok (.putfield 70, 3) := by decide +kernel
theorem dM_mix_21 : decode cM_mix 21 = .ok (.return_, 1) := by decide +kernel
-- M_digest
theorem dM_digest_0 : decode cM_digest 0 = .ok (.aload_n 0, 1) := by decide +kernel
theorem dM_digest_1 : decode cM_digest 1 = .ok (.getfield 70, 3) := by decide +kernel
theorem dM_digest_4 : decode cM_digest 4 = .ok (.iconst 1, 1) := by decide +kernel
theorem dM_digest_5 : decode cM_digest 5 = .ok (.lushr, 1) := by decide +kernel
theorem dM_digest_6 : decode cM_digest 6 = .ok (.ldc2_w 68, 3) := by decide +kernel
theorem dM_digest_9 : decode cM_digest 9 = .ok (.lrem, 1) := by decide +kernel
theorem dM_digest_10 : decode cM_digest 10 = .ok (.lreturn, 1) := by decide +kernel
-- M_pairNumber
theorem dM_pairNumber_0 : decode cM_pairNumber 0 = .ok (.aload_n 0, 1) := by decide +kernel
theorem dM_pairNumber_1 : decode cM_pairNumber 1 = .ok (.lload_n 1, 1) := by decide +kernel
theorem dM_pairNumber_2 : decode cM_pairNumber 2 = .ok (.invokevirtual 80, 3) := by decide +kernel
theorem dM_pairNumber_5 : decode cM_pairNumber 5 = .ok (.aload_n 0, 1) := by decide +kernel
theorem dM_pairNumber_6 : decode cM_pairNumber 6 = .ok (.lload_n 3, 1) := by decide +kernel
theorem dM_pairNumber_7 : decode cM_pairNumber 7 = .ok (.invokevirtual 74, 3) := by decide +kernel
theorem dM_pairNumber_10 : decode cM_pairNumber 10 = .ok (.aload_n 0, 1) := by decide +kernel
theorem dM_pairNumber_11 : decode cM_pairNumber 11 = .ok (.iload 5, 2) := by decide +kernel
theorem dM_pairNumber_13 : decode cM_pairNumber 13 = .ok (.i2l, 1) := by decide +kernel
theorem dM_pairNumber_14 : decode cM_pairNumber 14 = .ok (.invokevirtual 74, 3) := by decide +kernel
theorem dM_pairNumber_17 : decode cM_pairNumber 17 = .ok (.aload_n 0, 1) := by decide +kernel
theorem dM_pairNumber_18 : decode cM_pairNumber 18 = .ok (.invokevirtual 83, 3) := by decide +kernel
theorem dM_pairNumber_21 : decode cM_pairNumber 21 = .ok (.lreturn, 1) := by decide +kernel
-- M_challengeOf
theorem dM_challengeOf_0 : decode cM_challengeOf 0 = .ok (.aload_n 0, 1) := by decide +kernel
theorem dM_challengeOf_1 : decode cM_challengeOf 1 = .ok (.ldc2_w 87, 3) := by decide +kernel
theorem dM_challengeOf_4 : decode cM_challengeOf 4 = .ok (.invokevirtual 80, 3) := by decide +kernel
theorem dM_challengeOf_7 : decode cM_challengeOf 7 = .ok (.aload_n 0, 1) := by decide +kernel
theorem dM_challengeOf_8 : decode cM_challengeOf 8 = .ok (.lload_n 1, 1) := by decide +kernel
theorem dM_challengeOf_9 : decode cM_challengeOf 9 = .ok (.invokevirtual 74, 3) := by decide +kernel
theorem dM_challengeOf_12 : decode cM_challengeOf 12 = .ok (.aload_n 0, 1) := by decide +kernel
theorem dM_challengeOf_13 : decode cM_challengeOf 13 = .ok (.aload_n 0, 1) := by decide +kernel
theorem dM_challengeOf_14 : decode cM_challengeOf 14 = .ok (.getfield 13, 3) := by decide +kernel
theorem dM_challengeOf_17 : decode cM_challengeOf 17 = .ok (.iconst 0, 1) := by decide +kernel
theorem dM_challengeOf_18 : decode cM_challengeOf 18 = .ok (.laload, 1) := by decide +kernel
theorem dM_challengeOf_19 : decode cM_challengeOf 19 = .ok (.invokevirtual 74, 3) := by decide +kernel
theorem dM_challengeOf_22 : decode cM_challengeOf 22 = .ok (.aload_n 0, 1) := by decide +kernel
theorem dM_challengeOf_23 : decode cM_challengeOf 23 = .ok (.lload_n 3, 1) := by decide +kernel
theorem dM_challengeOf_24 : decode cM_challengeOf 24 = .ok (.invokevirtual 74, 3) := by decide +kernel
theorem dM_challengeOf_27 : decode cM_challengeOf 27 = .ok (.aload_n 0, 1) := by decide +kernel
theorem dM_challengeOf_28 : decode cM_challengeOf 28 = .ok (.invokevirtual 83, 3) := by decide +kernel
theorem dM_challengeOf_31 : decode cM_challengeOf 31 = .ok (.lreturn, 1) := by decide +kernel
-- M_isSigner
theorem dM_isSigner_0 : decode cM_isSigner 0 = .ok (.iload_n 1, 1) := by decide +kernel
theorem dM_isSigner_1 : decode cM_isSigner 1 = .ok (.iconst 1, 1) := by decide +kernel
theorem dM_isSigner_2 : decode cM_isSigner 2 = .ok (.if_icmp .lt 15, 3) := by decide +kernel
theorem dM_isSigner_5 : decode cM_isSigner 5 = .ok (.iload_n 1, 1) := by decide +kernel
theorem dM_isSigner_6 : decode cM_isSigner 6 = .ok (.aload_n 0, 1) := by decide +kernel
theorem dM_isSigner_7 : decode cM_isSigner 7 = .ok (.getfield 56, 3) := by decide +kernel
theorem dM_isSigner_10 : decode cM_isSigner 10 = .ok (.if_icmp .gt 7, 3) := by decide +kernel
theorem dM_isSigner_13 : decode cM_isSigner 13 = .ok (.iconst 1, 1) := by decide +kernel
theorem dM_isSigner_14 : decode cM_isSigner 14 = .ok (.goto 4, 3) := by decide +kernel
theorem dM_isSigner_17 : decode cM_isSigner 17 = .ok (.iconst 0, 1) := by decide +kernel
theorem dM_isSigner_18 : decode cM_isSigner 18 = .ok (.ireturn, 1) := by decide +kernel
-- M_in
theorem dM_in_0 : decode cM_in 0 = .ok (.iload_n 0, 1) := by decide +kernel
theorem dM_in_1 : decode cM_in 1 = .ok (.iload_n 1, 1) := by decide +kernel
theorem dM_in_2 : decode cM_in 2 = .ok (.iconst 1, 1) := by decide +kernel
theorem dM_in_3 : decode cM_in 3 = .ok (.isub, 1) := by decide +kernel
theorem dM_in_4 : decode cM_in 4 = .ok (.ishr, 1) := by decide +kernel
theorem dM_in_5 : decode cM_in 5 = .ok (.iconst 1, 1) := by decide +kernel
theorem dM_in_6 : decode cM_in 6 = .ok (.iand, 1) := by decide +kernel
theorem dM_in_7 : decode cM_in 7 = .ok (.iconst 1, 1) := by decide +kernel
theorem dM_in_8 : decode cM_in 8 = .ok (.if_icmp .ne 7, 3) := by decide +kernel
theorem dM_in_11 : decode cM_in 11 = .ok (.iconst 1, 1) := by decide +kernel
theorem dM_in_12 : decode cM_in 12 = .ok (.goto 4, 3) := by decide +kernel
theorem dM_in_15 : decode cM_in 15 = .ok (.iconst 0, 1) := by decide +kernel
theorem dM_in_16 : decode cM_in 16 = .ok (.ireturn, 1) := by decide +kernel
-- M_isSet
theorem dM_isSet_0 : decode cM_isSet 0 = .ok (.iconst 0, 1) := by decide +kernel
theorem dM_isSet_1 : decode cM_isSet 1 = .ok (.istore_n 2, 1) := by decide +kernel
theorem dM_isSet_2 : decode cM_isSet 2 = .ok (.iconst 1, 1) := by decide +kernel
theorem dM_isSet_3 : decode cM_isSet 3 = .ok (.istore_n 3, 1) := by decide +kernel
theorem dM_isSet_4 : decode cM_isSet 4 = .ok (.iload_n 3, 1) := by decide +kernel
theorem dM_isSet_5 : decode cM_isSet 5 = .ok (.aload_n 0, 1) := by decide +kernel
theorem dM_isSet_6 : decode cM_isSet 6 = .ok (.getfield 56, 3) := by decide +kernel
theorem dM_isSet_9 : decode cM_isSet 9 = .ok (.if_icmp .gt 25, 3) := by decide +kernel
theorem dM_isSet_12 : decode cM_isSet 12 = .ok (.iload_n 1, 1) := by decide +kernel
theorem dM_isSet_13 : decode cM_isSet 13 = .ok (.iload_n 3, 1) := by decide +kernel
theorem dM_isSet_14 : decode cM_isSet 14 = .ok (.invokestatic 89, 3) := by decide +kernel
theorem dM_isSet_17 : decode cM_isSet 17 = .ok (.ifCond .eq 9, 3) := by decide +kernel
theorem dM_isSet_20 : decode cM_isSet 20 = .ok (.iload_n 2, 1) := by decide +kernel
theorem dM_isSet_21 : decode cM_isSet 21 = .ok (.iconst 1, 1) := by decide +kernel
theorem dM_isSet_22 : decode cM_isSet 22 = .ok (.iadd, 1) := by decide +kernel
theorem dM_isSet_23 : decode cM_isSet 23 = .ok (.goto 4, 3) := by decide +kernel
theorem dM_isSet_26 : decode cM_isSet 26 = .ok (.iload_n 2, 1) := by decide +kernel
theorem dM_isSet_27 : decode cM_isSet 27 = .ok (.istore_n 2, 1) := by decide +kernel
theorem dM_isSet_28 : decode cM_isSet 28 = .ok (.iinc 3 1, 3) := by decide +kernel
theorem dM_isSet_31 : decode cM_isSet 31 = .ok (.goto (-27), 3) := by decide +kernel
theorem dM_isSet_34 : decode cM_isSet 34 = .ok (.iload_n 1, 1) := by decide +kernel
theorem dM_isSet_35 : decode cM_isSet 35 = .ok (.ifCond .lt 25, 3) := by decide +kernel
theorem dM_isSet_38 : decode cM_isSet 38 = .ok (.iload_n 1, 1) := by decide +kernel
theorem dM_isSet_39 : decode cM_isSet 39 = .ok (.iconst 1, 1) := by decide +kernel
theorem dM_isSet_40 : decode cM_isSet 40 = .ok (.aload_n 0, 1) := by decide +kernel
theorem dM_isSet_41 : decode cM_isSet 41 = .ok (.getfield 56, 3) := by decide +kernel
theorem dM_isSet_44 : decode cM_isSet 44 = .ok (.ishl, 1) := by decide +kernel
theorem dM_isSet_45 : decode cM_isSet 45 = .ok (.if_icmp .ge 15, 3) := by decide +kernel
theorem dM_isSet_48 : decode cM_isSet 48 = .ok (.iload_n 2, 1) := by decide +kernel
theorem dM_isSet_49 : decode cM_isSet 49 = .ok (.aload_n 0, 1) := by decide +kernel
theorem dM_isSet_50 : decode cM_isSet 50 = .ok (.getfield 60, 3) := by decide +kernel
theorem dM_isSet_53 : decode cM_isSet 53 = .ok (.if_icmp .lt 7, 3) := by decide +kernel
theorem dM_isSet_56 : decode cM_isSet 56 = .ok (.iconst 1, 1) := by decide +kernel
theorem dM_isSet_57 : decode cM_isSet 57 = .ok (.goto 4, 3) := by decide +kernel
theorem dM_isSet_60 : decode cM_isSet 60 = .ok (.iconst 0, 1) := by decide +kernel
theorem dM_isSet_61 : decode cM_isSet 61 = .ok (.ireturn, 1) := by decide +kernel
-- M_weightIn
theorem dM_weightIn_0 : decode cM_weightIn 0 = .ok (.lconst 1, 1) := by decide +kernel
theorem dM_weightIn_1 : decode cM_weightIn 1 = .ok (.lstore_n 3, 1) := by decide +kernel
theorem dM_weightIn_2 : decode cM_weightIn 2 = .ok (.lconst 1, 1) := by decide +kernel
theorem dM_weightIn_3 : decode cM_weightIn 3 = .ok (.lstore 5, 2) := by decide +kernel
theorem dM_weightIn_5 : decode cM_weightIn 5 = .ok (.iconst 1, 1) := by decide +kernel
theorem dM_weightIn_6 : decode cM_weightIn 6 = .ok (.istore 7, 2) := by decide +kernel
theorem dM_weightIn_8 : decode cM_weightIn 8 = .ok (.iload 7, 2) := by decide +kernel
theorem dM_weightIn_10 : decode cM_weightIn 10 = .ok (.aload_n 0, 1) := by decide +kernel
theorem dM_weightIn_11 : decode cM_weightIn 11 = .ok (.getfield 56, 3) := by decide +kernel
theorem dM_weightIn_14 : decode cM_weightIn 14 = .ok (.if_icmp .gt 56, 3) := by decide +kernel
theorem dM_weightIn_17 : decode cM_weightIn 17 = .ok (.iload_n 1, 1) := by decide +kernel
theorem dM_weightIn_18 : decode cM_weightIn 18 = .ok (.iload 7, 2) := by decide +kernel
theorem dM_weightIn_20 : decode cM_weightIn 20 = .ok (.invokestatic 89, 3) := by decide +kernel
theorem dM_weightIn_23 : decode cM_weightIn 23 = .ok (.ifCond .eq 41, 3) := by decide +kernel
theorem dM_weightIn_26 : decode cM_weightIn 26 = .ok (.iload 7, 2) := by decide +kernel
theorem dM_weightIn_28 : decode cM_weightIn 28 = .ok (.iload_n 2, 1) := by decide +kernel
theorem dM_weightIn_29 : decode cM_weightIn 29 = .ok (.if_icmp .eq 35, 3) := by decide +kernel
theorem dM_weightIn_32 : decode cM_weightIn 32 = .ok (.lload_n 3, 1) := by decide +kernel
theorem dM_weightIn_33 : decode cM_weightIn 33 = .ok (.iload 7, 2) := by decide +kernel
theorem dM_weightIn_35 : decode cM_weightIn 35 = .ok (.i2l, 1) := by decide +kernel
theorem dM_weightIn_36 : decode cM_weightIn 36 = .ok (.lmul, 1) := by decide +kernel
theorem dM_weightIn_37 : decode cM_weightIn 37 = .ok (.ldc2_w 68, 3) := by decide +kernel
theorem dM_weightIn_40 : decode cM_weightIn 40 = .ok (.lrem, 1) := by decide +kernel
theorem dM_weightIn_41 : decode cM_weightIn 41 = .ok (.lstore_n 3, 1) := by decide +kernel
theorem dM_weightIn_42 : decode cM_weightIn 42 = .ok (.lload 5, 2) := by decide +kernel
theorem dM_weightIn_44 : decode cM_weightIn 44 = .ok (.iload 7, 2) := by decide +kernel
theorem dM_weightIn_46 : decode cM_weightIn 46 = .ok (.iload_n 2, 1) := by decide +kernel
theorem dM_weightIn_47 : decode cM_weightIn 47 = .ok (.isub, 1) := by decide +kernel
theorem dM_weightIn_48 : decode cM_weightIn 48 = .ok (.i2l, 1) := by decide +kernel
theorem dM_weightIn_49 : decode cM_weightIn 49 = .ok (.ldc2_w 68, 3) := by decide +kernel
theorem dM_weightIn_52 : decode cM_weightIn 52 = .ok (.ladd, 1) := by decide +kernel
theorem dM_weightIn_53 : decode cM_weightIn 53 = .ok (.ldc2_w 68, 3) := by decide +kernel
theorem dM_weightIn_56 : decode cM_weightIn 56 = .ok (.lrem, 1) := by decide +kernel
theorem dM_weightIn_57 : decode cM_weightIn 57 = .ok (.lmul, 1) := by decide +kernel
theorem dM_weightIn_58 : decode cM_weightIn 58 = .ok (.ldc2_w 68, 3) := by decide +kernel
theorem dM_weightIn_61 : decode cM_weightIn 61 = .ok (.lrem, 1) := by decide +kernel
theorem dM_weightIn_62 : decode cM_weightIn 62 = .ok (.lstore 5, 2) := by decide +kernel
theorem dM_weightIn_64 : decode cM_weightIn 64 = .ok (.iinc 7 1, 3) := by decide +kernel
theorem dM_weightIn_67 : decode cM_weightIn 67 = .ok (.goto (-59), 3) := by decide +kernel
theorem dM_weightIn_70 : decode cM_weightIn 70 = .ok (.lload_n 3, 1) := by decide +kernel
theorem dM_weightIn_71 : decode cM_weightIn 71 = .ok (.lload 5, 2) := by decide +kernel
theorem dM_weightIn_73 : decode cM_weightIn 73 = .ok (.ldc2_w 93, 3) := by decide +kernel
theorem dM_weightIn_76 : decode cM_weightIn 76 = .ok (.ldc2_w 68, 3) := by decide +kernel
theorem dM_weightIn_79 : decode cM_weightIn 79 = .ok (.invokestatic 95, 3) := by decide +kernel
theorem dM_weightIn_82 : decode cM_weightIn 82 = .ok (.lmul, 1) := by decide +kernel
theorem dM_weightIn_83 : decode cM_weightIn 83 = .ok (.ldc2_w 68, 3) := by decide +kernel
theorem dM_weightIn_86 : decode cM_weightIn 86 = .ok (.lrem, 1) := by decide +kernel
theorem dM_weightIn_87 : decode cM_weightIn 87 = .ok (.lreturn, 1) := by decide +kernel
-- M_deal
theorem dM_deal_0 : decode cM_deal 0 = .ok (.aload_n 0, 1) := by decide +kernel
theorem dM_deal_1 : decode cM_deal 1 = .ok (.iconst 0, 1) := by decide +kernel
theorem dM_deal_2 : decode cM_deal 2 = .ok (.putfield 63, 3) := by decide +kernel
theorem dM_deal_5 : decode cM_deal 5 = .ok (.iconst 0, 1) := by decide +kernel
theorem dM_deal_6 : decode cM_deal 6 = .ok (.istore_n 3, 1) := by decide +kernel
theorem dM_deal_7 : decode cM_deal 7 = .ok (.iload_n 3, 1) := by decide +kernel
theorem dM_deal_8 : decode cM_deal 8 = .ok (.aload_n 0, 1) := by decide +kernel
theorem dM_deal_9 : decode cM_deal 9 = .ok (.getfield 56, 3) := by decide +kernel
theorem dM_deal_12 : decode cM_deal 12 = .ok (.if_icmp .gt 109, 3) := by decide +kernel
theorem dM_deal_15 : decode cM_deal 15 = .ok (.lconst 0, 1) := by decide +kernel
theorem dM_deal_16 : decode cM_deal 16 = .ok (.lstore 4, 2) := by decide +kernel
theorem dM_deal_18 : decode cM_deal 18 = .ok (.lconst 1, 1) := by decide +kernel
theorem dM_deal_19 : decode cM_deal 19 = .ok (.lstore 6, 2) := by decide +kernel
theorem dM_deal_21 : decode cM_deal 21 = .ok (.iconst 0, 1) := by decide +kernel
theorem dM_deal_22 : decode cM_deal 22 = .ok (.istore 8, 2) := by decide +kernel
theorem dM_deal_24 : decode cM_deal 24 = .ok (.iload 8, 2) := by decide +kernel
theorem dM_deal_26 : decode cM_deal 26 = .ok (.aload_n 0, 1) := by decide +kernel
theorem dM_deal_27 : decode cM_deal 27 = .ok (.getfield 60, 3) := by decide +kernel
theorem dM_deal_30 : decode cM_deal 30 = .ok (.if_icmp .ge 53, 3) := by decide +kernel
theorem dM_deal_33 : decode cM_deal 33 = .ok (.aload_n 0, 1) := by decide +kernel
theorem dM_deal_34 : decode cM_deal 34 = .ok (.lconst 1, 1) := by decide +kernel
theorem dM_deal_35 : decode cM_deal 35 = .ok (.invokevirtual 80, 3) := by decide +kernel
theorem dM_deal_38 : decode cM_deal 38 = .ok (.aload_n 0, 1) := by decide +kernel
theorem dM_deal_39 : decode cM_deal 39 = .ok (.lload_n 1, 1) := by decide +kernel
theorem dM_deal_40 : decode cM_deal 40 = .ok (.invokevirtual 74, 3) := by decide +kernel
theorem dM_deal_43 : decode cM_deal 43 = .ok (.aload_n 0, 1) := by decide +kernel
theorem dM_deal_44 : decode cM_deal 44 = .ok (.iload 8, 2) := by decide +kernel
theorem dM_deal_46 : decode cM_deal 46 = .ok (.i2l, 1) := by decide +kernel
theorem dM_deal_47 : decode cM_deal 47 = .ok (.invokevirtual 74, 3) := by decide +kernel
theorem dM_deal_50 : decode cM_deal 50 = .ok (.lload 4, 2) := by decide +kernel
theorem dM_deal_52 : decode cM_deal 52 = .ok (.aload_n 0, 1) := by decide +kernel
theorem dM_deal_53 : decode cM_deal 53 = .ok (.invokevirtual 83, 3) := by decide +kernel
theorem dM_deal_56 : decode cM_deal 56 = .ok (.lload 6, 2) := by decide +kernel
theorem dM_deal_58 : decode cM_deal 58 = .ok (.lmul, 1) := by decide +kernel
theorem dM_deal_59 : decode cM_deal 59 = .ok (.ladd, 1) := by decide +kernel
theorem dM_deal_60 : decode cM_deal 60 = .ok (.ldc2_w 68, 3) := by decide +kernel
theorem dM_deal_63 : decode cM_deal 63 = .ok (.lrem, 1) := by decide +kernel
theorem dM_deal_64 : decode cM_deal 64 = .ok (.lstore 4, 2) := by decide +kernel
theorem dM_deal_66 : decode cM_deal 66 = .ok (.lload 6, 2) := by decide +kernel
theorem dM_deal_68 : decode cM_deal 68 = .ok (.iload_n 3, 1) := by decide +kernel
theorem dM_deal_69 : decode cM_deal 69 = .ok (.i2l, 1) := by decide +kernel
theorem dM_deal_70 : decode cM_deal 70 = .ok (.lmul, 1) := by decide +kernel
theorem dM_deal_71 : decode cM_deal 71 = .ok (.ldc2_w 68, 3) := by decide +kernel
theorem dM_deal_74 : decode cM_deal 74 = .ok (.lrem, 1) := by decide +kernel
theorem dM_deal_75 : decode cM_deal 75 = .ok (.lstore 6, 2) := by decide +kernel
theorem dM_deal_77 : decode cM_deal 77 = .ok (.iinc 8 1, 3) := by decide +kernel
theorem dM_deal_80 : decode cM_deal 80 = .ok (.goto (-56), 3) := by decide +kernel
theorem dM_deal_83 : decode cM_deal 83 = .ok (.aload_n 0, 1) := by decide +kernel
theorem dM_deal_84 : decode cM_deal 84 = .ok (.getfield 7, 3) := by decide +kernel
theorem dM_deal_87 : decode cM_deal 87 = .ok (.iload_n 3, 1) := by decide +kernel
theorem dM_deal_88 : decode cM_deal 88 = .ok (.lload 4, 2) := by decide +kernel
theorem dM_deal_90 : decode cM_deal 90 = .ok (.lastore, 1) := by decide +kernel
theorem dM_deal_91 : decode cM_deal 91 = .ok (.aload_n 0, 1) := by decide +kernel
theorem dM_deal_92 : decode cM_deal 92 = .ok (.getfield 13, 3) := by decide +kernel
theorem dM_deal_95 : decode cM_deal 95 = .ok (.iload_n 3, 1) := by decide +kernel
theorem dM_deal_96 : decode cM_deal 96 = .ok (.ldc2_w 99, 3) := by decide +kernel
theorem dM_deal_99 : decode cM_deal 99 = .ok (.lload 4, 2) := by decide +kernel
theorem dM_deal_101 : decode cM_deal 101 = .ok (.ldc2_w 101, 3) := by decide +kernel
theorem dM_deal_104 : decode cM_deal 104 = .ok (.invokestatic 95, 3) := by decide +kernel
theorem dM_deal_107 : decode cM_deal 107 = .ok (.lastore, 1) := by decide +kernel
theorem dM_deal_108 : decode cM_deal 108 = .ok (.aload_n 0, 1) := by decide +kernel
theorem dM_deal_109 : decode cM_deal 109 = .ok (.getfield 16, 3) := by decide +kernel
theorem dM_deal_112 : decode cM_deal 112 = .ok (.iload_n 3, 1) := by decide +kernel
theorem dM_deal_113 : decode cM_deal 113 = .ok (.iconst 0, 1) := by decide +kernel
theorem dM_deal_114 : decode cM_deal 114 = .ok (.bastore, 1) := by decide +kernel
theorem dM_deal_115 : decode cM_deal 115 = .ok (.iinc 3 1, 3) := by decide +kernel
theorem dM_deal_118 : decode cM_deal 118 = .ok (.goto (-111), 3) := by decide +kernel
theorem dM_deal_121 : decode cM_deal 121 = .ok (.aload_n 0, 1) := by decide +kernel
theorem dM_deal_122 : decode cM_deal 122 = .ok (.iconst 1, 1) := by decide +kernel
theorem dM_deal_123 : decode cM_deal 123 = .ok (.putfield 103, 3) := by decide +kernel
theorem dM_deal_126 : decode cM_deal 126 = .ok (.aload_n 0, 1) := by decide +kernel
theorem dM_deal_127 : decode cM_deal 127 = .ok (.iconst 0, 1) := by decide +kernel
theorem dM_deal_128 : decode cM_deal 128 = .ok (.putfield 107, 3) := by decide +kernel
theorem dM_deal_131 : decode cM_deal 131 = .ok (.aload_n 0, 1) := by decide +kernel
theorem dM_deal_132 : decode cM_deal 132 = .ok (.iconst 0, 1) := by decide +kernel
theorem dM_deal_133 : decode cM_deal 133 = .ok (.putfield 110, 3) := by decide +kernel
theorem dM_deal_136 : decode cM_deal 136 = .ok (.aload_n 0, 1) := by decide +kernel
theorem dM_deal_137 : decode cM_deal 137 = .ok (.iconst 0, 1) := by decide +kernel
theorem dM_deal_138 : decode cM_deal 138 = .ok (.putfield 113, 3) := by decide +kernel
theorem dM_deal_141 : decode cM_deal 141 = .ok (.aload_n 0, 1) := by decide +kernel
theorem dM_deal_142 : decode cM_deal 142 = .ok (.getfield 13, 3) := by decide +kernel
theorem dM_deal_145 : decode cM_deal 145 = .ok (.iconst 0, 1) := by decide +kernel
theorem dM_deal_146 : decode cM_deal 146 = .ok (.laload, 1) := by decide +kernel
theorem dM_deal_147 : decode cM_deal 147 = .ok (.lreturn, 1) := by decide +kernel
-- M_commit
theorem dM_commit_0 : decode cM_commit 0 = .ok (.aload_n 0, 1) := by decide +kernel
theorem dM_commit_1 : decode cM_commit 1 = .ok (.aload_n 0, 1) := by decide +kernel
theorem dM_commit_2 : decode cM_commit 2 = .ok (.iload_n 1, 1) := by decide +kernel
theorem dM_commit_3 : decode cM_commit 3 = .ok (.invokevirtual 116, 3) := by decide +kernel
theorem dM_commit_6 : decode cM_commit 6 = .ok (.ifCond .ne 7, 3) := by decide +kernel
theorem dM_commit_9 : decode cM_commit 9 = .ok (.iconst 1, 1) := by decide +kernel
theorem dM_commit_10 : decode cM_commit 10 = .ok (.goto 15, 3) := by decide +kernel
theorem dM_commit_13 : decode cM_commit 13 = .ok (.aload_n 0, 1) := by decide +kernel
theorem dM_commit_14 : decode cM_commit 14 = .ok (.getfield 103, 3) := by decide +kernel
theorem dM_commit_17 : decode cM_commit 17 = .ok (.ifCond .ne 7, 3) := by decide +kernel
theorem dM_commit_20 : decode cM_commit 20 = .ok (.iconst 2, 1) := by decide +kernel
theorem dM_commit_21 : decode cM_commit 21 = .ok (.goto 4, 3) := by decide +kernel
theorem dM_commit_24 : decode cM_commit 24 = .ok (.iconst 0, 1) := by decide +kernel
theorem dM_commit_25 : decode cM_commit 25 = .ok (.putfield 63, 3) := by decide +kernel
theorem dM_commit_28 : decode cM_commit 28 = .ok (.aload_n 0, 1) := by decide +kernel
theorem dM_commit_29 : decode cM_commit 29 = .ok (.getfield 63, 3) := by decide +kernel
theorem dM_commit_32 : decode cM_commit 32 = .ok (.ifCond .eq 5, 3) := by decide +kernel
theorem dM_commit_35 : decode cM_commit 35 = .ok (.lconst 0, 1) := by decide +kernel
theorem dM_commit_36 : decode cM_commit 36 = .ok (.lreturn, 1) := by decide +kernel
theorem dM_commit_37 : decode cM_commit 37 = .ok (.aload_n 0, 1) := by decide +kernel
theorem dM_commit_38 : decode cM_commit 38 = .ok (.getfield 16, 3) := by decide +kernel
theorem dM_commit_41 : decode cM_commit 41 = .ok (.iload_n 1, 1) := by decide +kernel
theorem dM_commit_42 : decode cM_commit 42 = .ok (.iconst 1, 1) := by decide +kernel
theorem dM_commit_43 : decode cM_commit 43 = .ok (.bastore, 1) := by decide +kernel
theorem dM_commit_44 : decode cM_commit 44 = .ok (.aload_n 0, 1) := by decide +kernel
theorem dM_commit_45 : decode cM_commit 45 = .ok (.getfield 44, 3) := by decide +kernel
theorem dM_commit_48 : decode cM_commit 48 = .ok (.iload_n 1, 1) := by decide +kernel
theorem dM_commit_49 : decode cM_commit 49 = .ok (.iconst 0, 1) := by decide +kernel
theorem dM_commit_50 : decode cM_commit 50 = .ok (.bastore, 1) := by decide +kernel
theorem dM_commit_51 : decode cM_commit 51 = .ok (.aload_n 0, 1) := by decide +kernel
theorem dM_commit_52 : decode cM_commit 52 = .ok (.getfield 20, 3) := by decide +kernel
theorem dM_commit_55 : decode cM_commit 55 = .ok (.iload_n 1, 1) := by decide +kernel
theorem dM_commit_56 : decode cM_commit 56 = .ok (.aload_n 0, 1) := by decide +kernel
theorem dM_commit_57 : decode cM_commit 57 = .ok (.ldc2_w 120, 3) := by decide +kernel
theorem dM_commit_60 : decode cM_commit 60 = .ok (.lload_n 2, 1) := by decide +kernel
theorem dM_commit_61 : decode cM_commit 61 = .ok (.iload_n 1, 1) := by decide +kernel
theorem dM_commit_62 : decode cM_commit 62 = .ok (.invokevirtual 122, 3) := by decide +kernel
theorem dM_commit_65 : decode cM_commit 65 = .ok (.lastore, 1) := by decide +kernel
theorem dM_commit_66 : decode cM_commit 66 = .ok (.aload_n 0, 1) := by decide +kernel
theorem dM_commit_67 : decode cM_commit 67 = .ok (.getfield 23, 3) := by decide +kernel
theorem dM_commit_70 : decode cM_commit 70 = .ok (.iload_n 1, 1) := by decide +kernel
theorem dM_commit_71 : decode cM_commit 71 = .ok (.aload_n 0, 1) := by decide +kernel
theorem dM_commit_72 : decode cM_commit 72 = .ok (.ldc2_w 66, 3) := by decide +kernel
theorem dM_commit_75 : decode cM_commit 75 = .ok (.lload_n 2, 1) := by decide +kernel
theorem dM_commit_76 : decode cM_commit 76 = .ok (.iload_n 1, 1) := by decide +kernel
theorem dM_commit_77 : decode cM_commit 77 = .ok (.invokevirtual 122, 3) := by decide +kernel
theorem dM_commit_80 : decode cM_commit 80 = .ok (.lastore, 1) := by decide +kernel
theorem dM_commit_81 : decode cM_commit 81 = .ok (.aload_n 0, 1) := by decide +kernel
theorem dM_commit_82 : decode cM_commit 82 = .ok (.getfield 26, 3) := by decide +kernel
theorem dM_commit_85 : decode cM_commit 85 = .ok (.iload_n 1, 1) := by decide +kernel
theorem dM_commit_86 : decode cM_commit 86 = .ok (.ldc2_w 99, 3) := by decide +kernel
theorem dM_commit_89 : decode cM_commit 89 = .ok (.aload_n 0, 1) := by decide +kernel
theorem dM_commit_90 : decode cM_commit 90 = .ok (.getfield 20, 3) := by decide +kernel
theorem dM_commit_93 : decode cM_commit 93 = .ok (.iload_n 1, 1) := by decide +kernel
theorem dM_commit_94 : decode cM_commit 94 = .ok (.laload, 1) := by decide +kernel
theorem dM_commit_95 : decode cM_commit 95 = .ok (.ldc2_w 101, 3) := by decide +kernel
theorem dM_commit_98 : decode cM_commit 98 = .ok (.invokestatic 95, 3) := by decide +kernel
theorem dM_commit_101 : decode cM_commit 101 = .ok (.lastore, 1) := by decide +kernel
theorem dM_commit_102 : decode cM_commit 102 = .ok (.aload_n 0, 1) := by decide +kernel
theorem dM_commit_103 : decode cM_commit 103 = .ok (.getfield 29, 3) := by decide +kernel
theorem dM_commit_106 : decode cM_commit 106 = .ok (.iload_n 1, 1) := by decide +kernel
theorem dM_commit_107 : decode cM_commit 107 = .ok (.ldc2_w 99, 3) := by decide +kernel
theorem dM_commit_110 : decode cM_commit 110 = .ok (.aload_n 0, 1) := by decide +kernel
theorem dM_commit_111 : decode cM_commit 111 = .ok (.getfield 23, 3) := by decide +kernel
theorem dM_commit_114 : decode cM_commit 114 = .ok (.iload_n 1, 1) := by decide +kernel
theorem dM_commit_115 : decode cM_commit 115 = .ok (.laload, 1) := by decide +kernel
theorem dM_commit_116 : decode cM_commit 116 = .ok (.ldc2_w 101, 3) := by decide +kernel
theorem dM_commit_119 : decode cM_commit 119 = .ok (.invokestatic 95, 3) := by decide +kernel
theorem dM_commit_122 : decode cM_commit 122 = .ok (.lastore, 1) := by decide +kernel
theorem dM_commit_123 : decode cM_commit 123 = .ok (.aload_n 0, 1) := by decide +kernel
theorem dM_commit_124 : decode cM_commit 124 = .ok (.getfield 26, 3) := by decide +kernel
theorem dM_commit_127 : decode cM_commit 127 = .ok (.iload_n 1, 1) := by decide +kernel
theorem dM_commit_128 : decode cM_commit 128 = .ok (.laload, 1) := by decide +kernel
theorem dM_commit_129 : decode cM_commit 129 = .ok (.lreturn, 1) := by decide +kernel
-- M_allOpen
theorem dM_allOpen_0 : decode cM_allOpen 0 = .ok (.iconst 1, 1) := by decide +kernel
theorem dM_allOpen_1 : decode cM_allOpen 1 = .ok (.istore_n 2, 1) := by decide +kernel
theorem dM_allOpen_2 : decode cM_allOpen 2 = .ok (.iconst 1, 1) := by decide +kernel
theorem dM_allOpen_3 : decode cM_allOpen 3 = .ok (.istore_n 3, 1) := by decide +kernel
theorem dM_allOpen_4 : decode cM_allOpen 4 = .ok (.iload_n 3, 1) := by decide +kernel
theorem dM_allOpen_5 : decode cM_allOpen 5 = .ok (.aload_n 0, 1) := by decide +kernel
theorem dM_allOpen_6 : decode cM_allOpen 6 = .ok (.getfield 56, 3) := by decide +kernel
theorem dM_allOpen_9 : decode cM_allOpen 9 = .ok (.if_icmp .gt 36, 3) := by decide +kernel
theorem dM_allOpen_12 : decode cM_allOpen 12 = .ok (.iload_n 2, 1) := by decide +kernel
theorem dM_allOpen_13 : decode cM_allOpen 13 = .ok (.ifCond .eq 24, 3) := by decide +kernel
theorem dM_allOpen_16 : decode cM_allOpen 16 = .ok (.iload_n 1, 1) := by decide +kernel
theorem dM_allOpen_17 : decode cM_allOpen 17 = .ok (.iload_n 3, 1) := by decide +kernel
theorem dM_allOpen_18 : decode cM_allOpen 18 = .ok (.invokestatic 89, 3) := by decide +kernel
theorem dM_allOpen_21 : decode cM_allOpen 21 = .ok (.ifCond .eq 12, 3) := by decide +kernel
theorem dM_allOpen_24 : decode cM_allOpen 24 = .ok (.aload_n 0, 1) := by decide +kernel
theorem dM_allOpen_25 : decode cM_allOpen 25 = .ok (.getfield 16, 3) := by decide +kernel
theorem dM_allOpen_28 : decode cM_allOpen 28 = .ok (.iload_n 3, 1) := by decide +kernel
theorem dM_allOpen_29 : decode cM_allOpen 29 = .ok (.baload, 1) := by decide +kernel
theorem dM_allOpen_30 : decode cM_allOpen 30 = .ok (.ifCond .eq 7, 3) := by decide +kernel
theorem dM_allOpen_33 : decode cM_allOpen 33 = .ok (.iconst 1, 1) := by decide +kernel
theorem dM_allOpen_34 : decode cM_allOpen 34 = .ok (.goto 4, 3) := by decide +kernel
theorem dM_allOpen_37 : decode cM_allOpen 37 = .ok (.iconst 0, 1) := by decide +kernel
theorem dM_allOpen_38 : decode cM_allOpen 38 = .ok (.istore_n 2, 1) := by decide +kernel
theorem dM_allOpen_39 : decode cM_allOpen 39 = .ok (.iinc 3 1, 3) := by decide +kernel
theorem dM_allOpen_42 : decode cM_allOpen 42 = .ok (.goto (-38), 3) := by decide +kernel
theorem dM_allOpen_45 : decode cM_allOpen 45 = .ok (.iload_n 2, 1) := by decide +kernel
theorem dM_allOpen_46 : decode cM_allOpen 46 = .ok (.ireturn, 1) := by decide +kernel
-- M_factorOf
theorem dM_factorOf_0 : decode cM_factorOf 0 = .ok (.aload_n 0, 1) := by decide +kernel
theorem dM_factorOf_1 : decode cM_factorOf 1 = .ok (.ldc2_w 99, 3) := by decide +kernel
theorem dM_factorOf_4 : decode cM_factorOf 4 = .ok (.invokevirtual 80, 3) := by decide +kernel
theorem dM_factorOf_7 : decode cM_factorOf 7 = .ok (.aload_n 0, 1) := by decide +kernel
theorem dM_factorOf_8 : decode cM_factorOf 8 = .ok (.aload_n 0, 1) := by decide +kernel
theorem dM_factorOf_9 : decode cM_factorOf 9 = .ok (.getfield 13, 3) := by decide +kernel
theorem dM_factorOf_12 : decode cM_factorOf 12 = .ok (.iconst 0, 1) := by decide +kernel
theorem dM_factorOf_13 : decode cM_factorOf 13 = .ok (.laload, 1) := by decide +kernel
theorem dM_factorOf_14 : decode cM_factorOf 14 = .ok (.invokevirtual 74, 3) := by decide +kernel
theorem dM_factorOf_17 : decode cM_factorOf 17 = .ok (.aload_n 0, 1) := by decide +kernel
theorem dM_factorOf_18 : decode cM_factorOf 18 = .ok (.lload_n 2, 1) := by decide +kernel
theorem dM_factorOf_19 : decode cM_factorOf 19 = .ok (.invokevirtual 74, 3) := by decide +kernel
theorem dM_factorOf_22 : decode cM_factorOf 22 = .ok (.aload_n 0, 1) := by decide +kernel
theorem dM_factorOf_23 : decode cM_factorOf 23 = .ok (.iload 4, 2) := by decide +kernel
theorem dM_factorOf_25 : decode cM_factorOf 25 = .ok (.i2l, 1) := by decide +kernel
theorem dM_factorOf_26 : decode cM_factorOf 26 = .ok (.invokevirtual 74, 3) := by decide +kernel
theorem dM_factorOf_29 : decode cM_factorOf 29 = .ok (.iconst 1, 1) := by decide +kernel
theorem dM_factorOf_30 : decode cM_factorOf 30 = .ok (.istore 5, 2) := by decide +kernel
theorem dM_factorOf_32 : decode cM_factorOf 32 = .ok (.iload 5, 2) := by decide +kernel
theorem dM_factorOf_34 : decode cM_factorOf 34 = .ok (.aload_n 0, 1) := by decide +kernel
theorem dM_factorOf_35 : decode cM_factorOf 35 = .ok (.getfield 56, 3) := by decide +kernel
theorem dM_factorOf_38 : decode cM_factorOf 38 = .ok (.if_icmp .gt 47, 3) := by decide +kernel
theorem dM_factorOf_41 : decode cM_factorOf 41 = .ok (.iload_n 1, 1) := by decide +kernel
theorem dM_factorOf_42 : decode cM_factorOf 42 = .ok (.iload 5, 2) := by decide +kernel
theorem dM_factorOf_44 : decode cM_factorOf 44 = .ok (.invokestatic 89, 3) := by decide +kernel
theorem dM_factorOf_47 : decode cM_factorOf 47 = .ok (.ifCond .eq 32, 3) := by decide +kernel
theorem dM_factorOf_50 : decode cM_factorOf 50 = .ok (.aload_n 0, 1) := by decide +kernel
theorem dM_factorOf_51 : decode cM_factorOf 51 = .ok (.iload 5, 2) := by decide +kernel
theorem dM_factorOf_53 : decode cM_factorOf 53 = .ok (.i2l, 1) := by decide +kernel
theorem dM_factorOf_54 : decode cM_factorOf 54 = .ok (.invokevirtual 74, 3) := by decide +kernel
theorem dM_factorOf_57 : decode cM_factorOf 57 = .ok (.aload_n 0, 1) := by decide +kernel
theorem dM_factorOf_58 : decode cM_factorOf 58 = .ok (.aload_n 0, 1) := by decide +kernel
theorem dM_factorOf_59 : decode cM_factorOf 59 = .ok (.getfield 26, 3) := by decide +kernel
theorem dM_factorOf_62 : decode cM_factorOf 62 = .ok (.iload 5, 2) := by decide +kernel
theorem dM_factorOf_64 : decode cM_factorOf 64 = .ok (.laload, 1) := by decide +kernel
theorem dM_factorOf_65 : decode cM_factorOf 65 = .ok (.invokevirtual 74, 3) := by decide +kernel
theorem dM_factorOf_68 : decode cM_factorOf 68 = .ok (.aload_n 0, 1) := by decide +kernel
theorem dM_factorOf_69 : decode cM_factorOf 69 = .ok (.aload_n 0, 1) := by decide +kernel
theorem dM_factorOf_70 : decode cM_factorOf 70 = .ok (.getfield 29, 3) := by decide +kernel
theorem dM_factorOf_73 : decode cM_factorOf 73 = .ok (.iload 5, 2) := by decide +kernel
theorem dM_factorOf_75 : decode cM_factorOf 75 = .ok (.laload, 1) := by decide +kernel
theorem dM_factorOf_76 : decode cM_factorOf 76 = .ok (.invokevirtual 74, 3) := by decide +kernel
theorem dM_factorOf_79 : decode cM_factorOf 79 = .ok (.iinc 5 1, 3) := by decide +kernel
theorem dM_factorOf_82 : decode cM_factorOf 82 = .ok (.goto (-50), 3) := by decide +kernel
theorem dM_factorOf_85 : decode cM_factorOf 85 = .ok (.aload_n 0, 1) := by decide +kernel
theorem dM_factorOf_86 : decode cM_factorOf 86 = .ok (.invokevirtual 83, 3) := by decide +kernel
theorem dM_factorOf_89 : decode cM_factorOf 89 = .ok (.lreturn, 1) := by decide +kernel
-- M_begin
theorem dM_begin_0 : decode cM_begin 0 = .ok (.aload_n 0, 1) := by decide +kernel
theorem dM_begin_1 : decode cM_begin 1 = .ok (.aload_n 0, 1) := by decide +kernel
theorem dM_begin_2 : decode cM_begin 2 = .ok (.iload_n 1, 1) := by decide +kernel
theorem dM_begin_3 : decode cM_begin 3 = .ok (.invokevirtual 126, 3) := by decide +kernel
theorem dM_begin_6 : decode cM_begin 6 = .ok (.ifCond .ne 7, 3) := by decide +kernel
theorem dM_begin_9 : decode cM_begin 9 = .ok (.iconst 1, 1) := by decide +kernel
theorem dM_begin_10 : decode cM_begin 10 = .ok (.goto 23, 3) := by decide +kernel
theorem dM_begin_13 : decode cM_begin 13 = .ok (.aload_n 0, 1) := by decide +kernel
theorem dM_begin_14 : decode cM_begin 14 = .ok (.getfield 103, 3) := by decide +kernel
theorem dM_begin_17 : decode cM_begin 17 = .ok (.ifCond .eq 11, 3) := by decide +kernel
theorem dM_begin_20 : decode cM_begin 20 = .ok (.aload_n 0, 1) := by decide +kernel
theorem dM_begin_21 : decode cM_begin 21 = .ok (.iload_n 1, 1) := by decide +kernel
theorem dM_begin_22 : decode cM_begin 22 = .ok (.invokevirtual 129, 3) := by decide +kernel
theorem dM_begin_25 : decode cM_begin 25 = .ok (.ifCond .ne 7, 3) := by decide +kernel
theorem dM_begin_28 : decode cM_begin 28 = .ok (.iconst 2, 1) := by decide +kernel
theorem dM_begin_29 : decode cM_begin 29 = .ok (.goto 4, 3) := by decide +kernel
theorem dM_begin_32 : decode cM_begin 32 = .ok (.iconst 0, 1) := by decide +kernel
theorem dM_begin_33 : decode cM_begin 33 = .ok (.putfield 63, 3) := by decide +kernel
theorem dM_begin_36 : decode cM_begin 36 = .ok (.aload_n 0, 1) := by decide +kernel
theorem dM_begin_37 : decode cM_begin 37 = .ok (.getfield 63, 3) := by decide +kernel
theorem dM_begin_40 : decode cM_begin 40 = .ok (.ifCond .eq 5, 3) := by decide +kernel
theorem dM_begin_43 : decode cM_begin 43 = .ok (.lconst 0, 1) := by decide +kernel
theorem dM_begin_44 : decode cM_begin 44 = .ok (.lreturn, 1) := by decide +kernel
theorem dM_begin_45 : decode cM_begin 45 = .ok (.aload_n 0, 1) := by decide +kernel
theorem dM_begin_46 : decode cM_begin 46 = .ok (.iload_n 1, 1) := by decide +kernel
theorem dM_begin_47 : decode cM_begin 47 = .ok (.putfield 107, 3) := by decide +kernel
theorem dM_begin_50 : decode cM_begin 50 = .ok (.aload_n 0, 1) := by decide +kernel
theorem dM_begin_51 : decode cM_begin 51 = .ok (.iconst 0, 1) := by decide +kernel
theorem dM_begin_52 : decode cM_begin 52 = .ok (.putfield 110, 3) := by decide +kernel
theorem dM_begin_55 : decode cM_begin 55 = .ok (.aload_n 0, 1) := by decide +kernel
theorem dM_begin_56 : decode cM_begin 56 = .ok (.iconst 0, 1) := by decide +kernel
theorem dM_begin_57 : decode cM_begin 57 = .ok (.putfield 113, 3) := by decide +kernel
theorem dM_begin_60 : decode cM_begin 60 = .ok (.aload_n 0, 1) := by decide +kernel
theorem dM_begin_61 : decode cM_begin 61 = .ok (.lconst 1, 1) := by decide +kernel
theorem dM_begin_62 : decode cM_begin 62 = .ok (.putfield 132, 3) := by decide +kernel
theorem dM_begin_65 : decode cM_begin 65 = .ok (.iconst 1, 1) := by decide +kernel
theorem dM_begin_66 : decode cM_begin 66 = .ok (.istore 4, 2) := by decide +kernel
theorem dM_begin_68 : decode cM_begin 68 = .ok (.iload 4, 2) := by decide +kernel
theorem dM_begin_70 : decode cM_begin 70 = .ok (.aload_n 0, 1) := by decide +kernel
theorem dM_begin_71 : decode cM_begin 71 = .ok (.getfield 56, 3) := by decide +kernel
theorem dM_begin_74 : decode cM_begin 74 = .ok (.if_icmp .gt 136, 3) := by decide +kernel
theorem dM_begin_77 : decode cM_begin 77 = .ok (.iload_n 1, 1) := by decide +kernel
theorem dM_begin_78 : decode cM_begin 78 = .ok (.iload 4, 2) := by decide +kernel
theorem dM_begin_80 : decode cM_begin 80 = .ok (.invokestatic 89, 3) := by decide +kernel
theorem dM_begin_83 : decode cM_begin 83 = .ok (.ifCond .eq 121, 3) := by decide +kernel
theorem dM_begin_86 : decode cM_begin 86 = .ok (.aload_n 0, 1) := by decide +kernel
theorem dM_begin_87 : decode cM_begin 87 = .ok (.getfield 32, 3) := by decide +kernel
theorem dM_begin_90 : decode cM_begin 90 = .ok (.iload 4, 2) := by decide +kernel
theorem dM_begin_92 : decode cM_begin 92 = .ok (.aload_n 0, 1) := by decide +kernel
theorem dM_begin_93 : decode cM_begin 93 = .ok (.getfield 26, 3) := by decide +kernel
theorem dM_begin_96 : decode cM_begin 96 = .ok (.iload 4, 2) := by decide +kernel
theorem dM_begin_98 : decode cM_begin 98 = .ok (.laload, 1) := by decide +kernel
theorem dM_begin_99 : decode cM_begin 99 = .ok (.lastore, 1) := by decide +kernel
theorem dM_begin_100 : decode cM_begin 100 = .ok (.aload_n 0, 1) := by decide +kernel
theorem dM_begin_101 : decode cM_begin 101 = .ok (.getfield 35, 3) := by decide +kernel
theorem dM_begin_104 : decode cM_begin 104 = .ok (.iload 4, 2) := by decide +kernel
theorem dM_begin_106 : decode cM_begin 106 = .ok (.aload_n 0, 1) := by decide +kernel
theorem dM_begin_107 : decode cM_begin 107 = .ok (.getfield 29, 3) := by decide +kernel
theorem dM_begin_110 : decode cM_begin 110 = .ok (.iload 4, 2) := by decide +kernel
theorem dM_begin_112 : decode cM_begin 112 = .ok (.laload, 1) := by decide +kernel
theorem dM_begin_113 : decode cM_begin 113 = .ok (.lastore, 1) := by decide +kernel
theorem dM_begin_114 : decode cM_begin 114 = .ok (.aload_n 0, 1) := by decide +kernel
theorem dM_begin_115 : decode cM_begin 115 = .ok (.getfield 38, 3) := by decide +kernel
theorem dM_begin_118 : decode cM_begin 118 = .ok (.iload 4, 2) := by decide +kernel
theorem dM_begin_120 : decode cM_begin 120 = .ok (.aload_n 0, 1) := by decide +kernel
theorem dM_begin_121 : decode cM_begin 121 = .ok (.iload_n 1, 1) := by decide +kernel
theorem dM_begin_122 : decode cM_begin 122 = .ok (.lload_n 2, 1) := by decide +kernel
theorem dM_begin_123 : decode cM_begin 123 = .ok (.iload 4, 2) := by decide +kernel
theorem dM_begin_125 : decode cM_begin 125 = .ok (.invokevirtual 135, 3) := by decide +kernel
theorem dM_begin_128 : decode cM_begin 128 = .ok (.lastore, 1) := by decide +kernel
theorem dM_begin_129 : decode cM_begin 129 = .ok (.aload_n 0, 1) := by decide +kernel
theorem dM_begin_130 : decode cM_begin 130 = .ok (.getfield 41, 3) := by decide +kernel
theorem dM_begin_133 : decode cM_begin 133 = .ok (.iload 4, 2) := by decide +kernel
theorem dM_begin_135 : decode cM_begin 135 = .ok (.aload_n 0, 1) := by decide +kernel
theorem dM_begin_136 : decode cM_begin 136 = .ok (.iload_n 1, 1) := by decide +kernel
theorem dM_begin_137 : decode cM_begin 137 = .ok (.iload 4, 2) := by decide +kernel
theorem dM_begin_139 : decode cM_begin 139 = .ok (.invokevirtual 139, 3) := by decide +kernel
theorem dM_begin_142 : decode cM_begin 142 = .ok (.lastore, 1) := by decide +kernel
theorem dM_begin_143 : decode cM_begin 143 = .ok (.aload_n 0, 1) := by decide +kernel
theorem dM_begin_144 : decode cM_begin 144 = .ok (.getfield 44, 3) := by decide +kernel
theorem dM_begin_147 : decode cM_begin 147 = .ok (.iload 4, 2) := by decide +kernel
theorem dM_begin_149 : decode cM_begin 149 = .ok (.iconst 1, 1) := by decide +kernel
theorem dM_begin_150 : decode cM_begin 150 = .ok (.bastore, 1) := by decide +kernel
theorem dM_begin_151 : decode cM_begin 151 = .ok (.aload_n 0, 1) := by decide +kernel
theorem dM_begin_152 : decode cM_begin 152 = .ok (.getfield 47, 3) := by decide +kernel
theorem dM_begin_155 : decode cM_begin 155 = .ok (.iload 4, 2) := by decide +kernel
theorem dM_begin_157 : decode cM_begin 157 = .ok (.iconst 0, 1) := by decide +kernel
theorem dM_begin_158 : decode cM_begin 158 = .ok (.bastore, 1) := by decide +kernel
theorem dM_begin_159 : decode cM_begin 159 = .ok (.aload_n 0, 1) := by decide +kernel
theorem dM_begin_160 : decode cM_begin 160 = .ok (.aload_n 0, 1) := by decide +kernel
theorem dM_begin_161 : decode cM_begin 161 = .ok (.getfield 132, 3) := by decide +kernel
theorem dM_begin_164 : decode cM_begin 164 = .ok (.aload_n 0, 1) := by decide +kernel
theorem dM_begin_165 : decode cM_begin 165 = .ok (.getfield 32, 3) := by decide +kernel
theorem dM_begin_168 : decode cM_begin 168 = .ok (.iload 4, 2) := by decide +kernel
theorem dM_begin_170 : decode cM_begin 170 = .ok (.laload, 1) := by decide +kernel
theorem dM_begin_171 : decode cM_begin 171 = .ok (.lmul, 1) := by decide +kernel
theorem dM_begin_172 : decode cM_begin 172 = .ok (.ldc2_w 101, 3) := by decide +kernel
theorem dM_begin_175 : decode cM_begin 175 = .ok (.lrem, 1) := by decide +kernel
theorem dM_begin_176 : decode cM_begin 176 = .ok (.aload_n 0, 1) := by decide +kernel
theorem dM_begin_177 : decode cM_begin 177 = .ok (.getfield 35, 3) := by decide +kernel
theorem dM_begin_180 : decode cM_begin 180 = .ok (.iload 4, 2) := by decide +kernel
theorem dM_begin_182 : decode cM_begin 182 = .ok (.laload, 1) := by decide +kernel
theorem dM_begin_183 : decode cM_begin 183 = .ok (.aload_n 0, 1) := by decide +kernel
theorem dM_begin_184 : decode cM_begin 184 = .ok (.getfield 38, 3) := by decide +kernel
theorem dM_begin_187 : decode cM_begin 187 = .ok (.iload 4, 2) := by decide +kernel
theorem dM_begin_189 : decode cM_begin 189 = .ok (.laload, 1) := by decide +kernel
theorem dM_begin_190 : decode cM_begin 190 = .ok (.ldc2_w 101, 3) := by decide +kernel
theorem dM_begin_193 : decode cM_begin 193 = .ok (.invokestatic 95, 3) := by decide +kernel
theorem dM_begin_196 : decode cM_begin 196 = .ok (.lmul, 1) := by decide +kernel
theorem dM_begin_197 : decode cM_begin 197 = .ok (.ldc2_w 101, 3) := by decide +kernel
theorem dM_begin_200 : decode cM_begin 200 = .ok (.lrem, 1) := by decide +kernel
theorem dM_begin_201 : decode cM_begin 201 = .ok (.putfield 132, 3) := by decide +kernel
theorem dM_begin_204 : decode cM_begin 204 = .ok (.iinc 4 1, 3) := by decide +kernel
theorem dM_begin_207 : decode cM_begin 207 = .ok (.goto (-139), 3) := by decide +kernel
theorem dM_begin_210 : decode cM_begin 210 = .ok (.aload_n 0, 1) := by decide +kernel
theorem dM_begin_211 : decode cM_begin 211 = .ok (.aload_n 0, 1) := by decide +kernel
theorem dM_begin_212 : decode cM_begin 212 = .ok (.aload_n 0, 1) := by decide +kernel
theorem dM_begin_213 : decode cM_begin 213 = .ok (.getfield 132, 3) := by decide +kernel
theorem dM_begin_216 : decode cM_begin 216 = .ok (.lload_n 2, 1) := by decide +kernel
theorem dM_begin_217 : decode cM_begin 217 = .ok (.invokevirtual 143, 3) := by decide +kernel
theorem dM_begin_220 : decode cM_begin 220 = .ok (.putfield 147, 3) := by decide +kernel
theorem dM_begin_223 : decode cM_begin 223 = .ok (.aload_n 0, 1) := by decide +kernel
theorem dM_begin_224 : decode cM_begin 224 = .ok (.getfield 132, 3) := by decide +kernel
theorem dM_begin_227 : decode cM_begin 227 = .ok (.lreturn, 1) := by decide +kernel
-- M_isMember
theorem dM_isMember_0 : decode cM_isMember 0 = .ok (.aload_n 0, 1) := by decide +kernel
theorem dM_isMember_1 : decode cM_isMember 1 = .ok (.iload_n 1, 1) := by decide +kernel
theorem dM_isMember_2 : decode cM_isMember 2 = .ok (.invokevirtual 116, 3) := by decide +kernel
theorem dM_isMember_5 : decode cM_isMember 5 = .ok (.ifCond .eq 18, 3) := by decide +kernel
theorem dM_isMember_8 : decode cM_isMember 8 = .ok (.aload_n 0, 1) := by decide +kernel
theorem dM_isMember_9 : decode cM_isMember 9 = .ok (.getfield 107, 3) := by decide +kernel
theorem dM_isMember_12 : decode cM_isMember 12 = .ok (.iload_n 1, 1) := by decide +kernel
theorem dM_isMember_13 : decode cM_isMember 13 = .ok (.invokestatic 89, 3) := by decide +kernel
theorem dM_isMember_16 : decode cM_isMember 16 = .ok (.ifCond .eq 7, 3) := by decide +kernel
theorem dM_isMember_19 : decode cM_isMember 19 = .ok (.iconst 1, 1) := by decide +kernel
theorem dM_isMember_20 : decode cM_isMember 20 = .ok (.goto 4, 3) := by decide +kernel
theorem dM_isMember_23 : decode cM_isMember 23 = .ok (.iconst 0, 1) := by decide +kernel
theorem dM_isMember_24 : decode cM_isMember 24 = .ok (.ireturn, 1) := by decide +kernel
-- M_sign
theorem dM_sign_0 : decode cM_sign 0 = .ok (.aload_n 0, 1) := by decide +kernel
theorem dM_sign_1 : decode cM_sign 1 = .ok (.aload_n 0, 1) := by decide +kernel
theorem dM_sign_2 : decode cM_sign 2 = .ok (.iload_n 1, 1) := by decide +kernel
theorem dM_sign_3 : decode cM_sign 3 = .ok (.invokevirtual 116, 3) := by decide +kernel
theorem dM_sign_6 : decode cM_sign 6 = .ok (.ifCond .ne 7, 3) := by decide +kernel
theorem dM_sign_9 : decode cM_sign 9 = .ok (.iconst 1, 1) := by decide +kernel
theorem dM_sign_10 : decode cM_sign 10 = .ok (.goto 25, 3) := by decide +kernel
theorem dM_sign_13 : decode cM_sign 13 = .ok (.aload_n 0, 1) := by decide +kernel
theorem dM_sign_14 : decode cM_sign 14 = .ok (.iload_n 1, 1) := by decide +kernel
theorem dM_sign_15 : decode cM_sign 15 = .ok (.invokevirtual 150, 3) := by decide +kernel
theorem dM_sign_18 : decode cM_sign 18 = .ok (.ifCond .eq 12, 3) := by decide +kernel
theorem dM_sign_21 : decode cM_sign 21 = .ok (.aload_n 0, 1) := by decide +kernel
theorem dM_sign_22 : decode cM_sign 22 = .ok (.getfield 44, 3) := by decide +kernel
theorem dM_sign_25 : decode cM_sign 25 = .ok (.iload_n 1, 1) := by decide +kernel
theorem dM_sign_26 : decode cM_sign 26 = .ok (.baload, 1) := by decide +kernel
theorem dM_sign_27 : decode cM_sign 27 = .ok (.ifCond .ne 7, 3) := by decide +kernel
theorem dM_sign_30 : decode cM_sign 30 = .ok (.iconst 2, 1) := by decide +kernel
theorem dM_sign_31 : decode cM_sign 31 = .ok (.goto 4, 3) := by decide +kernel
theorem dM_sign_34 : decode cM_sign 34 = .ok (.iconst 0, 1) := by decide +kernel
theorem dM_sign_35 : decode cM_sign 35 = .ok (.putfield 63, 3) := by decide +kernel
theorem dM_sign_38 : decode cM_sign 38 = .ok (.aload_n 0, 1) := by decide +kernel
theorem dM_sign_39 : decode cM_sign 39 = .ok (.getfield 63, 3) := by decide +kernel
theorem dM_sign_42 : decode cM_sign 42 = .ok (.ifCond .eq 5, 3) := by decide +kernel
theorem dM_sign_45 : decode cM_sign 45 = .ok (.lconst 0, 1) := by decide +kernel
theorem dM_sign_46 : decode cM_sign 46 = .ok (.lreturn, 1) := by decide +kernel
theorem dM_sign_47 : decode cM_sign 47 = .ok (.aload_n 0, 1) := by decide +kernel
theorem dM_sign_48 : decode cM_sign 48 = .ok (.getfield 23, 3) := by decide +kernel
theorem dM_sign_51 : decode cM_sign 51 = .ok (.iload_n 1, 1) := by decide +kernel
theorem dM_sign_52 : decode cM_sign 52 = .ok (.laload, 1) := by decide +kernel
theorem dM_sign_53 : decode cM_sign 53 = .ok (.aload_n 0, 1) := by decide +kernel
theorem dM_sign_54 : decode cM_sign 54 = .ok (.getfield 38, 3) := by decide +kernel
theorem dM_sign_57 : decode cM_sign 57 = .ok (.iload_n 1, 1) := by decide +kernel
theorem dM_sign_58 : decode cM_sign 58 = .ok (.laload, 1) := by decide +kernel
theorem dM_sign_59 : decode cM_sign 59 = .ok (.lmul, 1) := by decide +kernel
theorem dM_sign_60 : decode cM_sign 60 = .ok (.ldc2_w 68, 3) := by decide +kernel
theorem dM_sign_63 : decode cM_sign 63 = .ok (.lrem, 1) := by decide +kernel
theorem dM_sign_64 : decode cM_sign 64 = .ok (.lstore_n 2, 1) := by decide +kernel
theorem dM_sign_65 : decode cM_sign 65 = .ok (.aload_n 0, 1) := by decide +kernel
theorem dM_sign_66 : decode cM_sign 66 = .ok (.getfield 147, 3) := by decide +kernel
theorem dM_sign_69 : decode cM_sign 69 = .ok (.aload_n 0, 1) := by decide +kernel
theorem dM_sign_70 : decode cM_sign 70 = .ok (.getfield 41, 3) := by decide +kernel
theorem dM_sign_73 : decode cM_sign 73 = .ok (.iload_n 1, 1) := by decide +kernel
theorem dM_sign_74 : decode cM_sign 74 = .ok (.laload, 1) := by decide +kernel
theorem dM_sign_75 : decode cM_sign 75 = .ok (.lmul, 1) := by decide +kernel
theorem dM_sign_76 : decode cM_sign 76 = .ok (.ldc2_w 68, 3) := by decide +kernel
theorem dM_sign_79 : decode cM_sign 79 = .ok (.lrem, 1) := by decide +kernel
theorem dM_sign_80 : decode cM_sign 80 = .ok (.aload_n 0, 1) := by decide +kernel
theorem dM_sign_81 : decode cM_sign 81 = .ok (.getfield 7, 3) := by decide +kernel
theorem dM_sign_84 : decode cM_sign 84 = .ok (.iload_n 1, 1) := by decide +kernel
theorem dM_sign_85 : decode cM_sign 85 = .ok (.laload, 1) := by decide +kernel
theorem dM_sign_86 : decode cM_sign 86 = .ok (.lmul, 1) := by decide +kernel
theorem dM_sign_87 : decode cM_sign 87 = .ok (.ldc2_w 68, 3) := by decide +kernel
theorem dM_sign_90 : decode cM_sign 90 = .ok (.lrem, 1) := by decide +kernel
theorem dM_sign_91 : decode cM_sign 91 = .ok (.lstore 4, 2) := by decide +kernel
theorem dM_sign_93 : decode cM_sign 93 = .ok (.aload_n 0, 1) := by decide +kernel
theorem dM_sign_94 : decode cM_sign 94 = .ok (.getfield 50, 3) := by decide +kernel
theorem dM_sign_97 : decode cM_sign 97 = .ok (.iload_n 1, 1) := by decide +kernel
theorem dM_sign_98 : decode cM_sign 98 = .ok (.aload_n 0, 1) := by decide +kernel
theorem dM_sign_99 : decode cM_sign 99 = .ok (.getfield 20, 3) := by decide +kernel
theorem dM_sign_102 : decode cM_sign 102 = .ok (.iload_n 1, 1) := by decide +kernel
theorem dM_sign_103 : decode cM_sign 103 = .ok (.laload, 1) := by decide +kernel
theorem dM_sign_104 : decode cM_sign 104 = .ok (.lload_n 2, 1) := by decide +kernel
theorem dM_sign_105 : decode cM_sign 105 = .ok (.ladd, 1) := by decide +kernel
theorem dM_sign_106 : decode cM_sign 106 = .ok (.lload 4, 2) := by decide +kernel
theorem dM_sign_108 : decode cM_sign 108 = .ok (.ladd, 1) := by decide +kernel
theorem dM_sign_109 : decode cM_sign 109 = .ok (.ldc2_w 68, 3) := by decide +kernel
theorem dM_sign_112 : decode cM_sign 112 = .ok (.lrem, 1) := by decide +kernel
theorem dM_sign_113 : decode cM_sign 113 = .ok (.lastore, 1) := by decide +kernel
theorem dM_sign_114 : decode cM_sign 114 = .ok (.aload_n 0, 1) := by decide +kernel
theorem dM_sign_115 : decode cM_sign 115 = .ok (.getfield 47, 3) := by decide +kernel
theorem dM_sign_118 : decode cM_sign 118 = .ok (.iload_n 1, 1) := by decide +kernel
theorem dM_sign_119 : decode cM_sign 119 = .ok (.iconst 1, 1) := by decide +kernel
theorem dM_sign_120 : decode cM_sign 120 = .ok (.bastore, 1) := by decide +kernel
theorem dM_sign_121 : decode cM_sign 121 = .ok (.aload_n 0, 1) := by decide +kernel
theorem dM_sign_122 : decode cM_sign 122 = .ok (.getfield 44, 3) := by decide +kernel
theorem dM_sign_125 : decode cM_sign 125 = .ok (.iload_n 1, 1) := by decide +kernel
theorem dM_sign_126 : decode cM_sign 126 = .ok (.iconst 0, 1) := by decide +kernel
theorem dM_sign_127 : decode cM_sign 127 = .ok (.bastore, 1) := by decide +kernel
theorem dM_sign_128 : decode cM_sign 128 = .ok (.aload_n 0, 1) := by decide +kernel
theorem dM_sign_129 : decode cM_sign 129 = .ok (.getfield 16, 3) := by decide +kernel
theorem dM_sign_132 : decode cM_sign 132 = .ok (.iload_n 1, 1) := by decide +kernel
theorem dM_sign_133 : decode cM_sign 133 = .ok (.iconst 0, 1) := by decide +kernel
theorem dM_sign_134 : decode cM_sign 134 = .ok (.bastore, 1) := by decide +kernel
theorem dM_sign_135 : decode cM_sign 135 = .ok (.aload_n 0, 1) := by decide +kernel
theorem dM_sign_136 : decode cM_sign 136 = .ok (.getfield 50, 3) := by decide +kernel
theorem dM_sign_139 : decode cM_sign 139 = .ok (.iload_n 1, 1) := by decide +kernel
theorem dM_sign_140 : decode cM_sign 140 = .ok (.laload, 1) := by decide +kernel
theorem dM_sign_141 : decode cM_sign 141 = .ok (.lreturn, 1) := by decide +kernel
-- M_tell
theorem dM_tell_0 : decode cM_tell 0 = .ok (.aload_n 0, 1) := by decide +kernel
theorem dM_tell_1 : decode cM_tell 1 = .ok (.getfield 32, 3) := by decide +kernel
theorem dM_tell_4 : decode cM_tell 4 = .ok (.iload_n 1, 1) := by decide +kernel
theorem dM_tell_5 : decode cM_tell 5 = .ok (.laload, 1) := by decide +kernel
theorem dM_tell_6 : decode cM_tell 6 = .ok (.aload_n 0, 1) := by decide +kernel
theorem dM_tell_7 : decode cM_tell 7 = .ok (.getfield 35, 3) := by decide +kernel
theorem dM_tell_10 : decode cM_tell 10 = .ok (.iload_n 1, 1) := by decide +kernel
theorem dM_tell_11 : decode cM_tell 11 = .ok (.laload, 1) := by decide +kernel
theorem dM_tell_12 : decode cM_tell 12 = .ok (.aload_n 0, 1) := by decide +kernel
theorem dM_tell_13 : decode cM_tell 13 = .ok (.getfield 38, 3) := by decide +kernel
theorem dM_tell_16 : decode cM_tell 16 = .ok (.iload_n 1, 1) := by decide +kernel
theorem dM_tell_17 : decode cM_tell 17 = .ok (.laload, 1) := by decide +kernel
theorem dM_tell_18 : decode cM_tell 18 = .ok (.ldc2_w 101, 3) := by decide +kernel
theorem dM_tell_21 : decode cM_tell 21 = .ok (.invokestatic 95, 3) := by decide +kernel
theorem dM_tell_24 : decode cM_tell 24 = .ok (.lmul, 1) := by decide +kernel
theorem dM_tell_25 : decode cM_tell 25 = .ok (.ldc2_w 101, 3) := by decide +kernel
theorem dM_tell_28 : decode cM_tell 28 = .ok (.lrem, 1) := by decide +kernel
theorem dM_tell_29 : decode cM_tell 29 = .ok (.lstore 4, 2) := by decide +kernel
theorem dM_tell_31 : decode cM_tell 31 = .ok (.aload_n 0, 1) := by decide +kernel
theorem dM_tell_32 : decode cM_tell 32 = .ok (.getfield 147, 3) := by decide +kernel
theorem dM_tell_35 : decode cM_tell 35 = .ok (.aload_n 0, 1) := by decide +kernel
theorem dM_tell_36 : decode cM_tell 36 = .ok (.getfield 41, 3) := by decide +kernel
theorem dM_tell_39 : decode cM_tell 39 = .ok (.iload_n 1, 1) := by decide +kernel
theorem dM_tell_40 : decode cM_tell 40 = .ok (.laload, 1) := by decide +kernel
theorem dM_tell_41 : decode cM_tell 41 = .ok (.lmul, 1) := by decide +kernel
theorem dM_tell_42 : decode cM_tell 42 = .ok (.ldc2_w 68, 3) := by decide +kernel
theorem dM_tell_45 : decode cM_tell 45 = .ok (.lrem, 1) := by decide +kernel
theorem dM_tell_46 : decode cM_tell 46 = .ok (.lstore 6, 2) := by decide +kernel
theorem dM_tell_48 : decode cM_tell 48 = .ok (.lload 4, 2) := by decide +kernel
theorem dM_tell_50 : decode cM_tell 50 = .ok (.aload_n 0, 1) := by decide +kernel
theorem dM_tell_51 : decode cM_tell 51 = .ok (.getfield 13, 3) := by decide +kernel
theorem dM_tell_54 : decode cM_tell 54 = .ok (.iload_n 1, 1) := by decide +kernel
theorem dM_tell_55 : decode cM_tell 55 = .ok (.laload, 1) := by decide +kernel
theorem dM_tell_56 : decode cM_tell 56 = .ok (.lload 6, 2) := by decide +kernel
theorem dM_tell_58 : decode cM_tell 58 = .ok (.ldc2_w 101, 3) := by decide +kernel
theorem dM_tell_61 : decode cM_tell 61 = .ok (.invokestatic 95, 3) := by decide +kernel
theorem dM_tell_64 : decode cM_tell 64 = .ok (.lmul, 1) := by decide +kernel
theorem dM_tell_65 : decode cM_tell 65 = .ok (.ldc2_w 101, 3) := by decide +kernel
theorem dM_tell_68 : decode cM_tell 68 = .ok (.lrem, 1) := by decide +kernel
theorem dM_tell_69 : decode cM_tell 69 = .ok (.lstore 4, 2) := by decide +kernel
theorem dM_tell_71 : decode cM_tell 71 = .ok (.iconst 1, 1) := by decide +kernel
theorem dM_tell_72 : decode cM_tell 72 = .ok (.iload_n 1, 1) := by decide +kernel
theorem dM_tell_73 : decode cM_tell 73 = .ok (.iconst 1, 1) := by decide +kernel
theorem dM_tell_74 : decode cM_tell 74 = .ok (.isub, 1) := by decide +kernel
theorem dM_tell_75 : decode cM_tell 75 = .ok (.ishl, 1) := by decide +kernel
theorem dM_tell_76 : decode cM_tell 76 = .ok (.istore 8, 2) := by decide +kernel
theorem dM_tell_78 : decode cM_tell 78 = .ok (.ldc2_w 99, 3) := by decide +kernel
theorem dM_tell_81 : decode cM_tell 81 = .ok (.lload_n 2, 1) := by decide +kernel
theorem dM_tell_82 : decode cM_tell 82 = .ok (.ldc2_w 101, 3) := by decide +kernel
theorem dM_tell_85 : decode cM_tell 85 = .ok (.invokestatic 95, 3) := by decide +kernel
theorem dM_tell_88 : decode cM_tell 88 = .ok (.lload 4, 2) := by decide +kernel
theorem dM_tell_90 : decode cM_tell 90 = .ok (.lcmp, 1) := by decide +kernel
theorem dM_tell_91 : decode cM_tell 91 = .ok (.ifCond .eq 16, 3) := by decide +kernel
theorem dM_tell_94 : decode cM_tell 94 = .ok (.aload_n 0, 1) := by decide +kernel
theorem dM_tell_95 : decode cM_tell 95 = .ok (.aload_n 0, 1) := by decide +kernel
theorem dM_tell_96 : decode cM_tell 96 = .ok (.getfield 113, 3) := by decide +kernel
theorem dM_tell_99 : decode cM_tell 99 = .ok (.iload 8, 2) := by decide +kernel
theorem dM_tell_101 : decode cM_tell 101 = .ok (.ior, 1) := by decide +kernel
theorem dM_tell_102 : decode cM_tell 102 = .ok (.putfield 113, 3) := by decide +kernel
theorem dM_tell_105 : decode cM_tell 105 = .ok (.iconst 0, 1) := by decide +kernel
theorem dM_tell_106 : decode cM_tell 106 = .ok (.ireturn, 1) := by decide +kernel
theorem dM_tell_107 : decode cM_tell 107 = .ok (.aload_n 0, 1) := by decide +kernel
theorem dM_tell_108 : decode cM_tell 108 = .ok (.aload_n 0, 1) := by decide +kernel
theorem dM_tell_109 : decode cM_tell 109 = .ok (.getfield 110, 3) := by decide +kernel
theorem dM_tell_112 : decode cM_tell 112 = .ok (.iload 8, 2) := by decide +kernel
theorem dM_tell_114 : decode cM_tell 114 = .ok (.ior, 1) := by decide +kernel
theorem dM_tell_115 : decode cM_tell 115 = .ok (.putfield 110, 3) := by decide +kernel
theorem dM_tell_118 : decode cM_tell 118 = .ok (.aload_n 0, 1) := by decide +kernel
theorem dM_tell_119 : decode cM_tell 119 = .ok (.getfield 53, 3) := by decide +kernel
theorem dM_tell_122 : decode cM_tell 122 = .ok (.iload_n 1, 1) := by decide +kernel
theorem dM_tell_123 : decode cM_tell 123 = .ok (.lload_n 2, 1) := by decide +kernel
theorem dM_tell_124 : decode cM_tell 124 = .ok (.lastore, 1) := by decide +kernel
theorem dM_tell_125 : decode cM_tell 125 = .ok (.iconst 1, 1) := by decide +kernel
theorem dM_tell_126 : decode cM_tell 126 = .ok (.ireturn, 1) := by decide +kernel
-- M_submit
theorem dM_submit_0 : decode cM_submit 0 = .ok (.aload_n 0, 1) := by decide +kernel
theorem dM_submit_1 : decode cM_submit 1 = .ok (.aload_n 0, 1) := by decide +kernel
theorem dM_submit_2 : decode cM_submit 2 = .ok (.iload_n 1, 1) := by decide +kernel
theorem dM_submit_3 : decode cM_submit 3 = .ok (.invokevirtual 116, 3) := by decide +kernel
theorem dM_submit_6 : decode cM_submit 6 = .ok (.ifCond .eq 10, 3) := by decide +kernel
theorem dM_submit_9 : decode cM_submit 9 = .ok (.lload_n 2, 1) := by decide +kernel
theorem dM_submit_10 : decode cM_submit 10 = .ok (.invokestatic 153, 3) := by decide +kernel
theorem dM_submit_13 : decode cM_submit 13 = .ok (.ifCond .ne 7, 3) := by decide +kernel
theorem dM_submit_16 : decode cM_submit 16 = .ok (.iconst 1, 1) := by decide +kernel
theorem dM_submit_17 : decode cM_submit 17 = .ok (.goto 27, 3) := by decide +kernel
theorem dM_submit_20 : decode cM_submit 20 = .ok (.aload_n 0, 1) := by decide +kernel
theorem dM_submit_21 : decode cM_submit 21 = .ok (.iload_n 1, 1) := by decide +kernel
theorem dM_submit_22 : decode cM_submit 22 = .ok (.invokevirtual 150, 3) := by decide +kernel
theorem dM_submit_25 : decode cM_submit 25 = .ok (.ifCond .eq 14, 3) := by decide +kernel
theorem dM_submit_28 : decode cM_submit 28 = .ok (.aload_n 0, 1) := by decide +kernel
theorem dM_submit_29 : decode cM_submit 29 = .ok (.getfield 110, 3) := by decide +kernel
theorem dM_submit_32 : decode cM_submit 32 = .ok (.iload_n 1, 1) := by decide +kernel
theorem dM_submit_33 : decode cM_submit 33 = .ok (.invokestatic 89, 3) := by decide +kernel
theorem dM_submit_36 : decode cM_submit 36 = .ok (.ifCond .eq 7, 3) := by decide +kernel
theorem dM_submit_39 : decode cM_submit 39 = .ok (.iconst 2, 1) := by decide +kernel
theorem dM_submit_40 : decode cM_submit 40 = .ok (.goto 4, 3) := by decide +kernel
theorem dM_submit_43 : decode cM_submit 43 = .ok (.iconst 0, 1) := by decide +kernel
theorem dM_submit_44 : decode cM_submit 44 = .ok (.putfield 63, 3) := by decide +kernel
theorem dM_submit_47 : decode cM_submit 47 = .ok (.aload_n 0, 1) := by decide +kernel
theorem dM_submit_48 : decode cM_submit 48 = .ok (.getfield 63, 3) := by decide +kernel
theorem dM_submit_51 : decode cM_submit 51 = .ok (.ifCond .ne 16, 3) := by decide +kernel
theorem dM_submit_54 : decode cM_submit 54 = .ok (.aload_n 0, 1) := by decide +kernel
theorem dM_submit_55 : decode cM_submit 55 = .ok (.iload_n 1, 1) := by decide +kernel
theorem dM_submit_56 : decode cM_submit 56 = .ok (.lload_n 2, 1) := by decide +kernel
theorem dM_submit_57 : decode cM_submit 57 = .ok (.invokevirtual 157, 3) := by decide +kernel
theorem dM_submit_60 : decode cM_submit 60 = .ok (.ifCond .eq 7, 3) := by decide +kernel
theorem dM_submit_63 : decode cM_submit 63 = .ok (.iconst 1, 1) := by decide +kernel
theorem dM_submit_64 : decode cM_submit 64 = .ok (.goto 4, 3) := by decide +kernel
theorem dM_submit_67 : decode cM_submit 67 = .ok (.iconst 0, 1) := by decide +kernel
theorem dM_submit_68 : decode cM_submit 68 = .ok (.ireturn, 1) := by decide +kernel
-- M_relay
theorem dM_relay_0 : decode cM_relay 0 = .ok (.aload_n 0, 1) := by decide +kernel
theorem dM_relay_1 : decode cM_relay 1 = .ok (.aload_n 0, 1) := by decide +kernel
theorem dM_relay_2 : decode cM_relay 2 = .ok (.iload_n 1, 1) := by decide +kernel
theorem dM_relay_3 : decode cM_relay 3 = .ok (.invokevirtual 116, 3) := by decide +kernel
theorem dM_relay_6 : decode cM_relay 6 = .ok (.ifCond .eq 10, 3) := by decide +kernel
theorem dM_relay_9 : decode cM_relay 9 = .ok (.lload_n 2, 1) := by decide +kernel
theorem dM_relay_10 : decode cM_relay 10 = .ok (.invokestatic 153, 3) := by decide +kernel
theorem dM_relay_13 : decode cM_relay 13 = .ok (.ifCond .ne 7, 3) := by decide +kernel
theorem dM_relay_16 : decode cM_relay 16 = .ok (.iconst 1, 1) := by decide +kernel
theorem dM_relay_17 : decode cM_relay 17 = .ok (.goto 36, 3) := by decide +kernel
theorem dM_relay_20 : decode cM_relay 20 = .ok (.aload_n 0, 1) := by decide +kernel
theorem dM_relay_21 : decode cM_relay 21 = .ok (.iload_n 1, 1) := by decide +kernel
theorem dM_relay_22 : decode cM_relay 22 = .ok (.invokevirtual 150, 3) := by decide +kernel
theorem dM_relay_25 : decode cM_relay 25 = .ok (.ifCond .eq 23, 3) := by decide +kernel
theorem dM_relay_28 : decode cM_relay 28 = .ok (.aload_n 0, 1) := by decide +kernel
theorem dM_relay_29 : decode cM_relay 29 = .ok (.getfield 47, 3) := by decide +kernel
theorem dM_relay_32 : decode cM_relay 32 = .ok (.iload_n 1, 1) := by decide +kernel
theorem dM_relay_33 : decode cM_relay 33 = .ok (.baload, 1) := by decide +kernel
theorem dM_relay_34 : decode cM_relay 34 = .ok (.ifCond .eq 14, 3) := by decide +kernel
theorem dM_relay_37 : decode cM_relay 37 = .ok (.aload_n 0, 1) := by decide +kernel
theorem dM_relay_38 : decode cM_relay 38 = .ok (.getfield 110, 3) := by decide +kernel
theorem dM_relay_41 : decode cM_relay 41 = .ok (.iload_n 1, 1) := by decide +kernel
theorem dM_relay_42 : decode cM_relay 42 = .ok (.invokestatic 89, 3) := by decide +kernel
theorem dM_relay_45 : decode cM_relay 45 = .ok (.ifCond .eq 7, 3) := by decide +kernel
theorem dM_relay_48 : decode cM_relay 48 = .ok (.iconst 2, 1) := by decide +kernel
theorem dM_relay_49 : decode cM_relay 49 = .ok (.goto 4, 3) := by decide +kernel
theorem dM_relay_52 : decode cM_relay 52 = .ok (.iconst 0, 1) := by decide +kernel
theorem dM_relay_53 : decode cM_relay 53 = .ok (.putfield 63, 3) := by decide +kernel
theorem dM_relay_56 : decode cM_relay 56 = .ok (.aload_n 0, 1) := by decide +kernel
theorem dM_relay_57 : decode cM_relay 57 = .ok (.getfield 63, 3) := by decide +kernel
theorem dM_relay_60 : decode cM_relay 60 = .ok (.ifCond .ne 27, 3) := by decide +kernel
theorem dM_relay_63 : decode cM_relay 63 = .ok (.aload_n 0, 1) := by decide +kernel
theorem dM_relay_64 : decode cM_relay 64 = .ok (.iload_n 1, 1) := by decide +kernel
theorem dM_relay_65 : decode cM_relay 65 = .ok (.aload_n 0, 1) := by decide +kernel
theorem dM_relay_66 : decode cM_relay 66 = .ok (.getfield 50, 3) := by decide +kernel
theorem dM_relay_69 : decode cM_relay 69 = .ok (.iload_n 1, 1) := by decide +kernel
theorem dM_relay_70 : decode cM_relay 70 = .ok (.laload, 1) := by decide +kernel
theorem dM_relay_71 : decode cM_relay 71 = .ok (.lload_n 2, 1) := by decide +kernel
theorem dM_relay_72 : decode cM_relay 72 = .ok (.ladd, 1) := by decide +kernel
theorem dM_relay_73 : decode cM_relay 73 = .ok (.ldc2_w 68, 3) := by decide +kernel
theorem dM_relay_76 : decode cM_relay 76 = .ok (.lrem, 1) := by decide +kernel
theorem dM_relay_77 : decode cM_relay 77 = .ok (.invokevirtual 157, 3) := by decide +kernel
theorem dM_relay_80 : decode cM_relay 80 = .ok (.ifCond .eq 7, 3) := by decide +kernel
theorem dM_relay_83 : decode cM_relay 83 = .ok (.iconst 1, 1) := by decide +kernel
theorem dM_relay_84 : decode cM_relay 84 = .ok (.goto 4, 3) := by decide +kernel
theorem dM_relay_87 : decode cM_relay 87 = .ok (.iconst 0, 1) := by decide +kernel
theorem dM_relay_88 : decode cM_relay 88 = .ok (.ireturn, 1) := by decide +kernel
-- M_isWhole
theorem dM_isWhole_0 : decode cM_isWhole 0 = .ok (.aload_n 0, 1) := by decide +kernel
theorem dM_isWhole_1 : decode cM_isWhole 1 = .ok (.getfield 107, 3) := by decide +kernel
theorem dM_isWhole_4 : decode cM_isWhole 4 = .ok (.ifCond .eq 18, 3) := by decide +kernel
theorem dM_isWhole_7 : decode cM_isWhole 7 = .ok (.aload_n 0, 1) := by decide +kernel
theorem dM_isWhole_8 : decode cM_isWhole 8 = .ok (.getfield 110, 3) := by decide +kernel
theorem dM_isWhole_11 : decode cM_isWhole 11 = .ok (.aload_n 0, 1) := by decide +kernel
theorem dM_isWhole_12 : decode cM_isWhole 12 = .ok (.getfield 107, 3) := by decide +kernel
theorem dM_isWhole_15 : decode cM_isWhole 15 = .ok (.if_icmp .ne 7, 3) := by decide +kernel
theorem dM_isWhole_18 : decode cM_isWhole 18 = .ok (.iconst 1, 1) := by decide +kernel
theorem dM_isWhole_19 : decode cM_isWhole 19 = .ok (.goto 4, 3) := by decide +kernel
theorem dM_isWhole_22 : decode cM_isWhole 22 = .ok (.iconst 0, 1) := by decide +kernel
theorem dM_isWhole_23 : decode cM_isWhole 23 = .ok (.ireturn, 1) := by decide +kernel
-- M_sum
theorem dM_sum_0 : decode cM_sum 0 = .ok (.lconst 0, 1) := by decide +kernel
theorem dM_sum_1 : decode cM_sum 1 = .ok (.lstore_n 1, 1) := by decide +kernel
theorem dM_sum_2 : decode cM_sum 2 = .ok (.iconst 1, 1) := by decide +kernel
theorem dM_sum_3 : decode cM_sum 3 = .ok (.istore_n 3, 1) := by decide +kernel
theorem dM_sum_4 : decode cM_sum 4 = .ok (.iload_n 3, 1) := by decide +kernel
theorem dM_sum_5 : decode cM_sum 5 = .ok (.aload_n 0, 1) := by decide +kernel
theorem dM_sum_6 : decode cM_sum 6 = .ok (.getfield 56, 3) := by decide +kernel
theorem dM_sum_9 : decode cM_sum 9 = .ok (.if_icmp .gt 37, 3) := by decide +kernel
theorem dM_sum_12 : decode cM_sum 12 = .ok (.aload_n 0, 1) := by decide +kernel
theorem dM_sum_13 : decode cM_sum 13 = .ok (.getfield 107, 3) := by decide +kernel
theorem dM_sum_16 : decode cM_sum 16 = .ok (.iload_n 3, 1) := by decide +kernel
theorem dM_sum_17 : decode cM_sum 17 = .ok (.invokestatic 89, 3) := by decide +kernel
theorem dM_sum_20 : decode cM_sum 20 = .ok (.ifCond .eq 18, 3) := by decide +kernel
theorem dM_sum_23 : decode cM_sum 23 = .ok (.lload_n 1, 1) := by decide +kernel
theorem dM_sum_24 : decode cM_sum 24 = .ok (.aload_n 0, 1) := by decide +kernel
theorem dM_sum_25 : decode cM_sum 25 = .ok (.getfield 53, 3) := by decide +kernel
theorem dM_sum_28 : decode cM_sum 28 = .ok (.iload_n 3, 1) := by decide +kernel
theorem dM_sum_29 : decode cM_sum 29 = .ok (.laload, 1) := by decide +kernel
theorem dM_sum_30 : decode cM_sum 30 = .ok (.ladd, 1) := by decide +kernel
theorem dM_sum_31 : decode cM_sum 31 = .ok (.ldc2_w 68, 3) := by decide +kernel
theorem dM_sum_34 : decode cM_sum 34 = .ok (.lrem, 1) := by decide +kernel
theorem dM_sum_35 : decode cM_sum 35 = .ok (.goto 4, 3) := by decide +kernel
theorem dM_sum_38 : decode cM_sum 38 = .ok (.lload_n 1, 1) := by decide +kernel
theorem dM_sum_39 : decode cM_sum 39 = .ok (.lstore_n 1, 1) := by decide +kernel
theorem dM_sum_40 : decode cM_sum 40 = .ok (.iinc 3 1, 3) := by decide +kernel
theorem dM_sum_43 : decode cM_sum 43 = .ok (.goto (-39), 3) := by decide +kernel
theorem dM_sum_46 : decode cM_sum 46 = .ok (.lload_n 1, 1) := by decide +kernel
theorem dM_sum_47 : decode cM_sum 47 = .ok (.lreturn, 1) := by decide +kernel
-- M_seal
theorem dM_seal_0 : decode cM_seal 0 = .ok (.aload_n 0, 1) := by decide +kernel
theorem dM_seal_1 : decode cM_seal 1 = .ok (.aload_n 0, 1) := by decide +kernel
theorem dM_seal_2 : decode cM_seal 2 = .ok (.invokevirtual 161, 3) := by decide +kernel
theorem dM_seal_5 : decode cM_seal 5 = .ok (.ifCond .eq 7, 3) := by decide +kernel
theorem dM_seal_8 : decode cM_seal 8 = .ok (.iconst 0, 1) := by decide +kernel
theorem dM_seal_9 : decode cM_seal 9 = .ok (.goto 4, 3) := by decide +kernel
theorem dM_seal_12 : decode cM_seal 12 = .ok (.iconst 1, 1) := by decide +kernel
theorem dM_seal_13 : decode cM_seal 13 = .ok (.putfield 63, 3) := by decide +kernel
theorem dM_seal_16 : decode cM_seal 16 = .ok (.aload_n 0, 1) := by decide +kernel
theorem dM_seal_17 : decode cM_seal 17 = .ok (.getfield 63, 3) := by decide +kernel
theorem dM_seal_20 : decode cM_seal 20 = .ok (.ifCond .ne 10, 3) := by decide +kernel
theorem dM_seal_23 : decode cM_seal 23 = .ok (.aload_n 0, 1) := by decide +kernel
theorem dM_seal_24 : decode cM_seal 24 = .ok (.invokevirtual 165, 3) := by decide +kernel
theorem dM_seal_27 : decode cM_seal 27 = .ok (.goto 4, 3) := by decide +kernel
theorem dM_seal_30 : decode cM_seal 30 = .ok (.lconst 0, 1) := by decide +kernel
theorem dM_seal_31 : decode cM_seal 31 = .ok (.lreturn, 1) := by decide +kernel
-- M_isSealOf
theorem dM_isSealOf_0 : decode cM_isSealOf 0 = .ok (.aload_n 0, 1) := by decide +kernel
theorem dM_isSealOf_1 : decode cM_isSealOf 1 = .ok (.getfield 103, 3) := by decide +kernel
theorem dM_isSealOf_4 : decode cM_isSealOf 4 = .ok (.ifCond .eq 25, 3) := by decide +kernel
theorem dM_isSealOf_7 : decode cM_isSealOf 7 = .ok (.lload_n 3, 1) := by decide +kernel
theorem dM_isSealOf_8 : decode cM_isSealOf 8 = .ok (.lconst 1, 1) := by decide +kernel
theorem dM_isSealOf_9 : decode cM_isSealOf 9 = .ok (.lcmp, 1) := by decide +kernel
theorem dM_isSealOf_10 : decode cM_isSealOf 10 = .ok (.ifCond .lt 19, 3) := by decide +kernel
theorem dM_isSealOf_13 : decode cM_isSealOf 13 = .ok (.lload_n 3, 1) := by decide +kernel
theorem dM_isSealOf_14 : decode cM_isSealOf 14 = .ok (.ldc2_w 101, 3) := by decide +kernel
theorem dM_isSealOf_17 : decode cM_isSealOf 17 = .ok (.lcmp, 1) := by decide +kernel
theorem dM_isSealOf_18 : decode cM_isSealOf 18 = .ok (.ifCond .ge 11, 3) := by decide +kernel
theorem dM_isSealOf_21 : decode cM_isSealOf 21 = .ok (.lload 5, 2) := by decide +kernel
theorem dM_isSealOf_23 : decode cM_isSealOf 23 = .ok (.invokestatic 153, 3) := by decide +kernel
theorem dM_isSealOf_26 : decode cM_isSealOf 26 = .ok (.ifCond .ne 5, 3) := by decide +kernel
theorem dM_isSealOf_29 : decode cM_isSealOf 29 = .ok (.iconst 0, 1) := by decide +kernel
theorem dM_isSealOf_30 : decode cM_isSealOf 30 = .ok (.ireturn, 1) := by decide +kernel
theorem dM_isSealOf_31 : decode cM_isSealOf 31 = .ok (.aload_n 0, 1) := by decide +kernel
theorem dM_isSealOf_32 : decode cM_isSealOf 32 = .ok (.lload_n 3, 1) := by decide +kernel
theorem dM_isSealOf_33 : decode cM_isSealOf 33 = .ok (.lload_n 1, 1) := by decide +kernel
theorem dM_isSealOf_34 : decode cM_isSealOf 34 = .ok (.invokevirtual 143, 3) := by decide +kernel
theorem dM_isSealOf_37 : decode cM_isSealOf 37 = .ok (.lstore 7, 2) := by decide +kernel
theorem dM_isSealOf_39 : decode cM_isSealOf 39 = .ok (.ldc2_w 99, 3) := by decide +kernel
theorem dM_isSealOf_42 : decode cM_isSealOf 42 = .ok (.lload 5, 2) := by decide +kernel
theorem dM_isSealOf_44 : decode cM_isSealOf 44 = .ok (.ldc2_w 101, 3) := by decide +kernel
theorem dM_isSealOf_47 : decode cM_isSealOf 47 = .ok (.invokestatic 95, 3) := by decide +kernel
theorem dM_isSealOf_50 : decode cM_isSealOf 50 = .ok (.lload_n 3, 1) := by decide +kernel
theorem dM_isSealOf_51 : decode cM_isSealOf 51 = .ok (.aload_n 0, 1) := by decide +kernel
theorem dM_isSealOf_52 : decode cM_isSealOf 52 = .ok (.getfield 13, 3) := by decide +kernel
theorem dM_isSealOf_55 : decode cM_isSealOf 55 = .ok (.iconst 0, 1) := by decide +kernel
theorem dM_isSealOf_56 : decode cM_isSealOf 56 = .ok (.laload, 1) := by decide +kernel
theorem dM_isSealOf_57 : decode cM_isSealOf 57 = .ok (.lload 7, 2) := by decide +kernel
theorem dM_isSealOf_59 : decode cM_isSealOf 59 = .ok (.ldc2_w 101, 3) := by decide +kernel
theorem dM_isSealOf_62 : decode cM_isSealOf 62 = .ok (.invokestatic 95, 3) := by decide +kernel
theorem dM_isSealOf_65 : decode cM_isSealOf 65 = .ok (.lmul, 1) := by decide +kernel
theorem dM_isSealOf_66 : decode cM_isSealOf 66 = .ok (.ldc2_w 101, 3) := by decide +kernel
theorem dM_isSealOf_69 : decode cM_isSealOf 69 = .ok (.lrem, 1) := by decide +kernel
theorem dM_isSealOf_70 : decode cM_isSealOf 70 = .ok (.lcmp, 1) := by decide +kernel
theorem dM_isSealOf_71 : decode cM_isSealOf 71 = .ok (.ifCond .ne 7, 3) := by decide +kernel
theorem dM_isSealOf_74 : decode cM_isSealOf 74 = .ok (.iconst 1, 1) := by decide +kernel
theorem dM_isSealOf_75 : decode cM_isSealOf 75 = .ok (.goto 4, 3) := by decide +kernel
theorem dM_isSealOf_78 : decode cM_isSealOf 78 = .ok (.iconst 0, 1) := by decide +kernel
theorem dM_isSealOf_79 : decode cM_isSealOf 79 = .ok (.ireturn, 1) := by decide +kernel
-- M_check
theorem dM_check_0 : decode cM_check 0 = .ok (.aload_n 0, 1) := by decide +kernel
theorem dM_check_1 : decode cM_check 1 = .ok (.iconst 0, 1) := by decide +kernel
theorem dM_check_2 : decode cM_check 2 = .ok (.putfield 63, 3) := by decide +kernel
theorem dM_check_5 : decode cM_check 5 = .ok (.aload_n 0, 1) := by decide +kernel
theorem dM_check_6 : decode cM_check 6 = .ok (.lload_n 1, 1) := by decide +kernel
theorem dM_check_7 : decode cM_check 7 = .ok (.lload_n 3, 1) := by decide +kernel
theorem dM_check_8 : decode cM_check 8 = .ok (.lload 5, 2) := by decide +kernel
theorem dM_check_10 : decode cM_check 10 = .ok (.invokevirtual 168, 3) := by decide +kernel
theorem dM_check_13 : decode cM_check 13 = .ok (.ireturn, 1) := by decide +kernel
-- M_holds
theorem dM_holds_0 : decode cM_holds 0 = .ok (.aload_n 0, 1) := by decide +kernel
theorem dM_holds_1 : decode cM_holds 1 = .ok (.lload_n 3, 1) := by decide +kernel
theorem dM_holds_2 : decode cM_holds 2 = .ok (.invokestatic 153, 3) := by decide +kernel
theorem dM_holds_5 : decode cM_holds 5 = .ok (.ifCond .ne 7, 3) := by decide +kernel
theorem dM_holds_8 : decode cM_holds 8 = .ok (.iconst 1, 1) := by decide +kernel
theorem dM_holds_9 : decode cM_holds 9 = .ok (.goto 15, 3) := by decide +kernel
theorem dM_holds_12 : decode cM_holds 12 = .ok (.aload_n 0, 1) := by decide +kernel
theorem dM_holds_13 : decode cM_holds 13 = .ok (.invokevirtual 161, 3) := by decide +kernel
theorem dM_holds_16 : decode cM_holds 16 = .ok (.ifCond .ne 7, 3) := by decide +kernel
theorem dM_holds_19 : decode cM_holds 19 = .ok (.iconst 2, 1) := by decide +kernel
theorem dM_holds_20 : decode cM_holds 20 = .ok (.goto 4, 3) := by decide +kernel
theorem dM_holds_23 : decode cM_holds 23 = .ok (.iconst 0, 1) := by decide +kernel
theorem dM_holds_24 : decode cM_holds 24 = .ok (.putfield 63, 3) := by decide +kernel
theorem dM_holds_27 : decode cM_holds 27 = .ok (.aload_n 0, 1) := by decide +kernel
theorem dM_holds_28 : decode cM_holds 28 = .ok (.getfield 63, 3) := by decide +kernel
theorem dM_holds_31 : decode cM_holds 31 = .ok (.ifCond .ne 29, 3) := by decide +kernel
theorem dM_holds_34 : decode cM_holds 34 = .ok (.aload_n 0, 1) := by decide +kernel
theorem dM_holds_35 : decode cM_holds 35 = .ok (.lload_n 1, 1) := by decide +kernel
theorem dM_holds_36 : decode cM_holds 36 = .ok (.aload_n 0, 1) := by decide +kernel
theorem dM_holds_37 : decode cM_holds 37 = .ok (.getfield 132, 3) := by decide +kernel
theorem dM_holds_40 : decode cM_holds 40 = .ok (.aload_n 0, 1) := by decide +kernel
theorem dM_holds_41 : decode cM_holds 41 = .ok (.invokevirtual 165, 3) := by decide +kernel
theorem dM_holds_44 : decode cM_holds 44 = .ok (.lload_n 3, 1) := by decide +kernel
theorem dM_holds_45 : decode cM_holds 45 = .ok (.ladd, 1) := by decide +kernel
theorem dM_holds_46 : decode cM_holds 46 = .ok (.ldc2_w 68, 3) := by decide +kernel
theorem dM_holds_49 : decode cM_holds 49 = .ok (.lrem, 1) := by decide +kernel
theorem dM_holds_50 : decode cM_holds 50 = .ok (.invokevirtual 168, 3) := by decide +kernel
theorem dM_holds_53 : decode cM_holds 53 = .ok (.ifCond .eq 7, 3) := by decide +kernel
theorem dM_holds_56 : decode cM_holds 56 = .ok (.iconst 1, 1) := by decide +kernel
theorem dM_holds_57 : decode cM_holds 57 = .ok (.goto 4, 3) := by decide +kernel
theorem dM_holds_60 : decode cM_holds 60 = .ok (.iconst 0, 1) := by decide +kernel
theorem dM_holds_61 : decode cM_holds 61 = .ok (.ireturn, 1) := by decide +kernel
-- M_recover
theorem dM_recover_0 : decode cM_recover 0 = .ok (.aload_n 0, 1) := by decide +kernel
theorem dM_recover_1 : decode cM_recover 1 = .ok (.aload_n 0, 1) := by decide +kernel
theorem dM_recover_2 : decode cM_recover 2 = .ok (.iload_n 1, 1) := by decide +kernel
theorem dM_recover_3 : decode cM_recover 3 = .ok (.invokevirtual 126, 3) := by decide +kernel
theorem dM_recover_6 : decode cM_recover 6 = .ok (.ifCond .ne 7, 3) := by decide +kernel
theorem dM_recover_9 : decode cM_recover 9 = .ok (.iconst 1, 1) := by decide +kernel
theorem dM_recover_10 : decode cM_recover 10 = .ok (.goto 15, 3) := by decide +kernel
theorem dM_recover_13 : decode cM_recover 13 = .ok (.aload_n 0, 1) := by decide +kernel
theorem dM_recover_14 : decode cM_recover 14 = .ok (.getfield 103, 3) := by decide +kernel
theorem dM_recover_17 : decode cM_recover 17 = .ok (.ifCond .ne 7, 3) := by decide +kernel
theorem dM_recover_20 : decode cM_recover 20 = .ok (.iconst 2, 1) := by decide +kernel
theorem dM_recover_21 : decode cM_recover 21 = .ok (.goto 4, 3) := by decide +kernel
theorem dM_recover_24 : decode cM_recover 24 = .ok (.iconst 0, 1) := by decide +kernel
theorem dM_recover_25 : decode cM_recover 25 = .ok (.putfield 63, 3) := by decide +kernel
theorem dM_recover_28 : decode cM_recover 28 = .ok (.aload_n 0, 1) := by decide +kernel
theorem dM_recover_29 : decode cM_recover 29 = .ok (.getfield 63, 3) := by decide +kernel
theorem dM_recover_32 : decode cM_recover 32 = .ok (.ifCond .eq 5, 3) := by decide +kernel
theorem dM_recover_35 : decode cM_recover 35 = .ok (.lconst 0, 1) := by decide +kernel
theorem dM_recover_36 : decode cM_recover 36 = .ok (.lreturn, 1) := by decide +kernel
theorem dM_recover_37 : decode cM_recover 37 = .ok (.lconst 0, 1) := by decide +kernel
theorem dM_recover_38 : decode cM_recover 38 = .ok (.lstore_n 2, 1) := by decide +kernel
theorem dM_recover_39 : decode cM_recover 39 = .ok (.iconst 1, 1) := by decide +kernel
theorem dM_recover_40 : decode cM_recover 40 = .ok (.istore 4, 2) := by decide +kernel
theorem dM_recover_42 : decode cM_recover 42 = .ok (.iload 4, 2) := by decide +kernel
theorem dM_recover_44 : decode cM_recover 44 = .ok (.aload_n 0, 1) := by decide +kernel
theorem dM_recover_45 : decode cM_recover 45 = .ok (.getfield 56, 3) := by decide +kernel
theorem dM_recover_48 : decode cM_recover 48 = .ok (.if_icmp .gt 44, 3) := by decide +kernel
theorem dM_recover_51 : decode cM_recover 51 = .ok (.iload_n 1, 1) := by decide +kernel
theorem dM_recover_52 : decode cM_recover 52 = .ok (.iload 4, 2) := by decide +kernel
theorem dM_recover_54 : decode cM_recover 54 = .ok (.invokestatic 89, 3) := by decide +kernel
theorem dM_recover_57 : decode cM_recover 57 = .ok (.ifCond .eq 29, 3) := by decide +kernel
theorem dM_recover_60 : decode cM_recover 60 = .ok (.aload_n 0, 1) := by decide +kernel
theorem dM_recover_61 : decode cM_recover 61 = .ok (.iload_n 1, 1) := by decide +kernel
theorem dM_recover_62 : decode cM_recover 62 = .ok (.iload 4, 2) := by decide +kernel
theorem dM_recover_64 : decode cM_recover 64 = .ok (.invokevirtual 139, 3) := by decide +kernel
theorem dM_recover_67 : decode cM_recover 67 = .ok (.lstore 5, 2) := by decide +kernel
theorem dM_recover_69 : decode cM_recover 69 = .ok (.lload_n 2, 1) := by decide +kernel
theorem dM_recover_70 : decode cM_recover 70 = .ok (.lload 5, 2) := by decide +kernel
theorem dM_recover_72 : decode cM_recover 72 = .ok (.aload_n 0, 1) := by decide +kernel
theorem dM_recover_73 : decode cM_recover 73 = .ok (.getfield 7, 3) := by decide +kernel
theorem dM_recover_76 : decode cM_recover 76 = .ok (.iload 4, 2) := by decide +kernel
theorem dM_recover_78 : decode cM_recover 78 = .ok (.laload, 1) := by decide +kernel
theorem dM_recover_79 : decode cM_recover 79 = .ok (.lmul, 1) := by decide +kernel
theorem dM_recover_80 : decode cM_recover 80 = .ok (.ladd, 1) := by decide +kernel
theorem dM_recover_81 : decode cM_recover 81 = .ok (.ldc2_w 68, 3) := by decide +kernel
theorem dM_recover_84 : decode cM_recover 84 = .ok (.lrem, 1) := by decide +kernel
theorem dM_recover_85 : decode cM_recover 85 = .ok (.lstore_n 2, 1) := by decide +kernel
theorem dM_recover_86 : decode cM_recover 86 = .ok (.iinc 4 1, 3) := by decide +kernel
theorem dM_recover_89 : decode cM_recover 89 = .ok (.goto (-47), 3) := by decide +kernel
theorem dM_recover_92 : decode cM_recover 92 = .ok (.lload_n 2, 1) := by decide +kernel
theorem dM_recover_93 : decode cM_recover 93 = .ok (.lreturn, 1) := by decide +kernel
-- M_key
theorem dM_key_0 : decode cM_key 0 = .ok (.aload_n 0, 1) := by decide +kernel
theorem dM_key_1 : decode cM_key 1 = .ok (.iconst 0, 1) := by decide +kernel
theorem dM_key_2 : decode cM_key 2 = .ok (.putfield 63, 3) := by decide +kernel
theorem dM_key_5 : decode cM_key 5 = .ok (.aload_n 0, 1) := by decide +kernel
theorem dM_key_6 : decode cM_key 6 = .ok (.getfield 103, 3) := by decide +kernel
theorem dM_key_9 : decode cM_key 9 = .ok (.ifCond .eq 24, 3) := by decide +kernel
theorem dM_key_12 : decode cM_key 12 = .ok (.iload_n 1, 1) := by decide +kernel
theorem dM_key_13 : decode cM_key 13 = .ok (.ifCond .eq 11, 3) := by decide +kernel
theorem dM_key_16 : decode cM_key 16 = .ok (.aload_n 0, 1) := by decide +kernel
theorem dM_key_17 : decode cM_key 17 = .ok (.iload_n 1, 1) := by decide +kernel
theorem dM_key_18 : decode cM_key 18 = .ok (.invokevirtual 116, 3) := by decide +kernel
theorem dM_key_21 : decode cM_key 21 = .ok (.ifCond .eq 12, 3) := by decide +kernel
theorem dM_key_24 : decode cM_key 24 = .ok (.aload_n 0, 1) := by decide +kernel
theorem dM_key_25 : decode cM_key 25 = .ok (.getfield 13, 3) := by decide +kernel
theorem dM_key_28 : decode cM_key 28 = .ok (.iload_n 1, 1) := by decide +kernel
theorem dM_key_29 : decode cM_key 29 = .ok (.laload, 1) := by decide +kernel
theorem dM_key_30 : decode cM_key 30 = .ok (.goto 6, 3) := by decide +kernel
theorem dM_key_33 : decode cM_key 33 = .ok (.ldc2_w 172, 3) := by decide +kernel
theorem dM_key_36 : decode cM_key 36 = .ok (.lreturn, 1) := by decide +kernel
-- M_secret
theorem dM_secret_0 : decode cM_secret 0 = .ok (.aload_n 0, 1) := by decide +kernel
theorem dM_secret_1 : decode cM_secret 1 = .ok (.iconst 0, 1) := by decide +kernel
theorem dM_secret_2 : decode cM_secret 2 = .ok (.putfield 63, 3) := by decide +kernel
theorem dM_secret_5 : decode cM_secret 5 = .ok (.aload_n 0, 1) := by decide +kernel
theorem dM_secret_6 : decode cM_secret 6 = .ok (.getfield 103, 3) := by decide +kernel
theorem dM_secret_9 : decode cM_secret 9 = .ok (.ifCond .eq 20, 3) := by decide +kernel
theorem dM_secret_12 : decode cM_secret 12 = .ok (.aload_n 0, 1) := by decide +kernel
theorem dM_secret_13 : decode cM_secret 13 = .ok (.iload_n 1, 1) := by decide +kernel
theorem dM_secret_14 : decode cM_secret 14 = .ok (.invokevirtual 116, 3) := by decide +kernel
theorem dM_secret_17 : decode cM_secret 17 = .ok (.ifCond .eq 12, 3) := by decide +kernel
theorem dM_secret_20 : decode cM_secret 20 = .ok (.aload_n 0, 1) := by decide +kernel
theorem dM_secret_21 : decode cM_secret 21 = .ok (.getfield 7, 3) := by decide +kernel
theorem dM_secret_24 : decode cM_secret 24 = .ok (.iload_n 1, 1) := by decide +kernel
theorem dM_secret_25 : decode cM_secret 25 = .ok (.laload, 1) := by decide +kernel
theorem dM_secret_26 : decode cM_secret 26 = .ok (.goto 6, 3) := by decide +kernel
theorem dM_secret_29 : decode cM_secret 29 = .ok (.ldc2_w 172, 3) := by decide +kernel
theorem dM_secret_32 : decode cM_secret 32 = .ok (.lreturn, 1) := by decide +kernel
-- M_commitment
theorem dM_commitment_0 : decode cM_commitment 0 = .ok (.aload_n 0, 1) := by decide +kernel
theorem dM_commitment_1 : decode cM_commitment 1 = .ok (.iconst 0, 1) := by decide +kernel
theorem dM_commitment_2 : decode cM_commitment 2 = .ok (.putfield 63, 3) := by decide +kernel
theorem dM_commitment_5 : decode cM_commitment 5 = .ok (.aload_n 0, 1) := by decide +kernel
theorem dM_commitment_6 : decode cM_commitment 6 = .ok (.iload_n 1, 1) := by decide +kernel
theorem dM_commitment_7 : decode cM_commitment 7 = .ok (.invokevirtual 116, 3) := by decide +kernel
theorem dM_commitment_10 : decode cM_commitment 10 = .ok (.ifCond .eq 12, 3) := by decide +kernel
theorem dM_commitment_13 : decode cM_commitment 13 = .ok (.aload_n 0, 1) := by decide +kernel
theorem dM_commitment_14 : decode cM_commitment 14 = .ok (.getfield 16, 3) := by decide +kernel
theorem dM_commitment_17 : decode cM_commitment 17 = .ok (.iload_n 1, 1) := by decide +kernel
theorem dM_commitment_18 : decode cM_commitment 18 = .ok (.baload, 1) := by decide +kernel
theorem dM_commitment_19 : decode cM_commitment 19 = .ok (.ifCond .ne 9, 3) := by decide +kernel
theorem dM_commitment_22 : decode cM_commitment 22 = .ok (.ldc2_w 172, 3) := by decide +kernel
theorem dM_commitment_25 : decode cM_commitment 25 = .ok (.goto 22, 3) := by decide +kernel
theorem dM_commitment_28 : decode cM_commitment 28 = .ok (.iload_n 2, 1) := by decide +kernel
theorem dM_commitment_29 : decode cM_commitment 29 = .ok (.ifCond .eq 12, 3) := by decide +kernel
theorem dM_commitment_32 : decode cM_commitment 32 = .ok (.aload_n 0, 1) := by decide +kernel
theorem dM_commitment_33 : decode cM_commitment 33 = .ok (.getfield 29, 3) := by decide +kernel
theorem dM_commitment_36 : decode cM_commitment 36 = .ok (.iload_n 1, 1) := by decide +kernel
theorem dM_commitment_37 : decode cM_commitment 37 = .ok (.laload, 1) := by decide +kernel
theorem dM_commitment_38 : decode cM_commitment 38 = .ok (.goto 9, 3) := by decide +kernel
theorem dM_commitment_41 : decode cM_commitment 41 = .ok (.aload_n 0, 1) := by decide +kernel
theorem dM_commitment_42 : decode cM_commitment 42 = .ok (.getfield 26, 3) := by decide +kernel
theorem dM_commitment_45 : decode cM_commitment 45 = .ok (.iload_n 1, 1) := by decide +kernel
theorem dM_commitment_46 : decode cM_commitment 46 = .ok (.laload, 1) := by decide +kernel
theorem dM_commitment_47 : decode cM_commitment 47 = .ok (.lreturn, 1) := by decide +kernel
-- M_factor
theorem dM_factor_0 : decode cM_factor 0 = .ok (.aload_n 0, 1) := by decide +kernel
theorem dM_factor_1 : decode cM_factor 1 = .ok (.iconst 0, 1) := by decide +kernel
theorem dM_factor_2 : decode cM_factor 2 = .ok (.putfield 63, 3) := by decide +kernel
theorem dM_factor_5 : decode cM_factor 5 = .ok (.aload_n 0, 1) := by decide +kernel
theorem dM_factor_6 : decode cM_factor 6 = .ok (.iload_n 1, 1) := by decide +kernel
theorem dM_factor_7 : decode cM_factor 7 = .ok (.invokevirtual 150, 3) := by decide +kernel
theorem dM_factor_10 : decode cM_factor 10 = .ok (.ifCond .eq 12, 3) := by decide +kernel
theorem dM_factor_13 : decode cM_factor 13 = .ok (.aload_n 0, 1) := by decide +kernel
theorem dM_factor_14 : decode cM_factor 14 = .ok (.getfield 38, 3) := by decide +kernel
theorem dM_factor_17 : decode cM_factor 17 = .ok (.iload_n 1, 1) := by decide +kernel
theorem dM_factor_18 : decode cM_factor 18 = .ok (.laload, 1) := by decide +kernel
theorem dM_factor_19 : decode cM_factor 19 = .ok (.goto 6, 3) := by decide +kernel
theorem dM_factor_22 : decode cM_factor 22 = .ok (.ldc2_w 172, 3) := by decide +kernel
theorem dM_factor_25 : decode cM_factor 25 = .ok (.lreturn, 1) := by decide +kernel
-- M_weight
theorem dM_weight_0 : decode cM_weight 0 = .ok (.aload_n 0, 1) := by decide +kernel
theorem dM_weight_1 : decode cM_weight 1 = .ok (.iconst 0, 1) := by decide +kernel
theorem dM_weight_2 : decode cM_weight 2 = .ok (.putfield 63, 3) := by decide +kernel
theorem dM_weight_5 : decode cM_weight 5 = .ok (.aload_n 0, 1) := by decide +kernel
theorem dM_weight_6 : decode cM_weight 6 = .ok (.iload_n 1, 1) := by decide +kernel
theorem dM_weight_7 : decode cM_weight 7 = .ok (.invokevirtual 150, 3) := by decide +kernel
theorem dM_weight_10 : decode cM_weight 10 = .ok (.ifCond .eq 12, 3) := by decide +kernel
theorem dM_weight_13 : decode cM_weight 13 = .ok (.aload_n 0, 1) := by decide +kernel
theorem dM_weight_14 : decode cM_weight 14 = .ok (.getfield 41, 3) := by decide +kernel
theorem dM_weight_17 : decode cM_weight 17 = .ok (.iload_n 1, 1) := by decide +kernel
theorem dM_weight_18 : decode cM_weight 18 = .ok (.laload, 1) := by decide +kernel
theorem dM_weight_19 : decode cM_weight 19 = .ok (.goto 6, 3) := by decide +kernel
theorem dM_weight_22 : decode cM_weight 22 = .ok (.ldc2_w 172, 3) := by decide +kernel
theorem dM_weight_25 : decode cM_weight 25 = .ok (.lreturn, 1) := by decide +kernel
-- M_challenge
theorem dM_challenge_0 : decode cM_challenge 0 = .ok (.aload_n 0, 1) := by decide +kernel
theorem dM_challenge_1 : decode cM_challenge 1 = .ok (.iconst 0, 1) := by decide +kernel
theorem dM_challenge_2 : decode cM_challenge 2 = .ok (.putfield 63, 3) := by decide +kernel
theorem dM_challenge_5 : decode cM_challenge 5 = .ok (.aload_n 0, 1) := by decide +kernel
theorem dM_challenge_6 : decode cM_challenge 6 = .ok (.getfield 107, 3) := by decide +kernel
theorem dM_challenge_9 : decode cM_challenge 9 = .ok (.ifCond .eq 10, 3) := by decide +kernel
theorem dM_challenge_12 : decode cM_challenge 12 = .ok (.aload_n 0, 1) := by decide +kernel
theorem dM_challenge_13 : decode cM_challenge 13 = .ok (.getfield 147, 3) := by decide +kernel
theorem dM_challenge_16 : decode cM_challenge 16 = .ok (.goto 6, 3) := by decide +kernel
theorem dM_challenge_19 : decode cM_challenge 19 = .ok (.ldc2_w 172, 3) := by decide +kernel
theorem dM_challenge_22 : decode cM_challenge 22 = .ok (.lreturn, 1) := by decide +kernel
-- M_members
theorem dM_members_0 : decode cM_members 0 = .ok (.aload_n 0, 1) := by decide +kernel
theorem dM_members_1 : decode cM_members 1 = .ok (.iconst 0, 1) := by decide +kernel
theorem dM_members_2 : decode cM_members 2 = .ok (.putfield 63, 3) := by decide +kernel
theorem dM_members_5 : decode cM_members 5 = .ok (.aload_n 0, 1) := by decide +kernel
theorem dM_members_6 : decode cM_members 6 = .ok (.getfield 107, 3) := by decide +kernel
theorem dM_members_9 : decode cM_members 9 = .ok (.ireturn, 1) := by decide +kernel
-- M_taken
theorem dM_taken_0 : decode cM_taken 0 = .ok (.aload_n 0, 1) := by decide +kernel
theorem dM_taken_1 : decode cM_taken 1 = .ok (.iconst 0, 1) := by decide +kernel
theorem dM_taken_2 : decode cM_taken 2 = .ok (.putfield 63, 3) := by decide +kernel
theorem dM_taken_5 : decode cM_taken 5 = .ok (.aload_n 0, 1) := by decide +kernel
theorem dM_taken_6 : decode cM_taken 6 = .ok (.getfield 110, 3) := by decide +kernel
theorem dM_taken_9 : decode cM_taken 9 = .ok (.ireturn, 1) := by decide +kernel
-- M_blamed
theorem dM_blamed_0 : decode cM_blamed 0 = .ok (.aload_n 0, 1) := by decide +kernel
theorem dM_blamed_1 : decode cM_blamed 1 = .ok (.iconst 0, 1) := by decide +kernel
theorem dM_blamed_2 : decode cM_blamed 2 = .ok (.putfield 63, 3) := by decide +kernel
theorem dM_blamed_5 : decode cM_blamed 5 = .ok (.aload_n 0, 1) := by decide +kernel
theorem dM_blamed_6 : decode cM_blamed 6 = .ok (.getfield 113, 3) := by decide +kernel
theorem dM_blamed_9 : decode cM_blamed 9 = .ok (.ireturn, 1) := by decide +kernel
