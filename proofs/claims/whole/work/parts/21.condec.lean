theorem d_Msg_init_0 : decode b_Msg_init 0 = .ok (.aload_n 0, 1) := by decide +kernel
theorem d_Msg_init_1 : decode b_Msg_init 1 = .ok (.invokespecial 3, 3) := by decide +kernel
theorem d_Msg_init_4 : decode b_Msg_init 4 = .ok (.return_, 1) := by decide +kernel
theorem d_Wire_init_0 : decode b_Wire_init 0 = .ok (.aload_n 0, 1) := by decide +kernel
theorem d_Wire_init_1 : decode b_Wire_init 1 = .ok (.invokespecial 3, 3) := by decide +kernel
theorem d_Wire_init_4 : decode b_Wire_init 4 = .ok (.aload_n 0, 1) := by decide +kernel
theorem d_Wire_init_5 : decode b_Wire_init 5 = .ok (.bipush 41, 2) := by decide +kernel
theorem d_Wire_init_7 : decode b_Wire_init 7 = .ok (.anewarray 9, 3) := by decide +kernel
theorem d_Wire_init_10 : decode b_Wire_init 10 = .ok (.putfield 11, 3) := by decide +kernel
theorem d_Wire_init_13 : decode b_Wire_init 13 = .ok (.iconst 0, 1) := by decide +kernel
theorem d_Wire_init_14 : decode b_Wire_init 14 = .ok (.istore_n 1, 1) := by decide +kernel
theorem d_Wire_init_15 : decode b_Wire_init 15 = .ok (.iload_n 1, 1) := by decide +kernel
theorem d_Wire_init_16 : decode b_Wire_init 16 = .ok (.bipush 40, 2) := by decide +kernel
theorem d_Wire_init_18 : decode b_Wire_init 18 = .ok (.if_icmp .gt 22, 3) := by decide +kernel
theorem d_Wire_init_21 : decode b_Wire_init 21 = .ok (.aload_n 0, 1) := by decide +kernel
theorem d_Wire_init_22 : decode b_Wire_init 22 = .ok (.getfield 11, 3) := by decide +kernel
theorem d_Wire_init_25 : decode b_Wire_init 25 = .ok (.iload_n 1, 1) := by decide +kernel
theorem d_Wire_init_26 : decode b_Wire_init 26 = .ok (.new 9, 3) := by decide +kernel
theorem d_Wire_init_29 : decode b_Wire_init 29 = .ok (.dup, 1) := by decide +kernel
theorem d_Wire_init_30 : decode b_Wire_init 30 = .ok (.invokespecial 17, 3) := by decide +kernel
theorem d_Wire_init_33 : decode b_Wire_init 33 = .ok (.aastore, 1) := by decide +kernel
theorem d_Wire_init_34 : decode b_Wire_init 34 = .ok (.iinc 1 1, 3) := by decide +kernel
theorem d_Wire_init_37 : decode b_Wire_init 37 = .ok (.goto (-22), 3) := by decide +kernel
theorem d_Wire_init_40 : decode b_Wire_init 40 = .ok (.return_, 1) := by decide +kernel
theorem d_Mob_init_0 : decode b_Mob_init 0 = .ok (.aload_n 0, 1) := by decide +kernel
theorem d_Mob_init_1 : decode b_Mob_init 1 = .ok (.invokespecial 3, 3) := by decide +kernel
theorem d_Mob_init_4 : decode b_Mob_init 4 = .ok (.aload_n 0, 1) := by decide +kernel
theorem d_Mob_init_5 : decode b_Mob_init 5 = .ok (.iload_n 1, 1) := by decide +kernel
theorem d_Mob_init_6 : decode b_Mob_init 6 = .ok (.putfield 9, 3) := by decide +kernel
theorem d_Mob_init_9 : decode b_Mob_init 9 = .ok (.aload_n 0, 1) := by decide +kernel
theorem d_Mob_init_10 : decode b_Mob_init 10 = .ok (.iload_n 2, 1) := by decide +kernel
theorem d_Mob_init_11 : decode b_Mob_init 11 = .ok (.putfield 15, 3) := by decide +kernel
theorem d_Mob_init_14 : decode b_Mob_init 14 = .ok (.aload_n 0, 1) := by decide +kernel
theorem d_Mob_init_15 : decode b_Mob_init 15 = .ok (.aload_n 3, 1) := by decide +kernel
theorem d_Mob_init_16 : decode b_Mob_init 16 = .ok (.putfield 18, 3) := by decide +kernel
theorem d_Mob_init_19 : decode b_Mob_init 19 = .ok (.aload_n 0, 1) := by decide +kernel
theorem d_Mob_init_20 : decode b_Mob_init 20 = .ok (.iconst 0, 1) := by decide +kernel
theorem d_Mob_init_21 : decode b_Mob_init 21 = .ok (.putfield 22, 3) := by decide +kernel
theorem d_Mob_init_24 : decode b_Mob_init 24 = .ok (.aload_n 0, 1) := by decide +kernel
theorem d_Mob_init_25 : decode b_Mob_init 25 = .ok (.ldc 25, 2) := by decide +kernel
theorem d_Mob_init_27 : decode b_Mob_init 27 = .ok (.putfield 26, 3) := by decide +kernel
theorem d_Mob_init_30 : decode b_Mob_init 30 = .ok (.aload_n 0, 1) := by decide +kernel
theorem d_Mob_init_31 : decode b_Mob_init 31 = .ok (.iconst (-1), 1) := by decide +kernel
theorem d_Mob_init_32 : decode b_Mob_init 32 = .ok (.putfield 29, 3) := by decide +kernel
theorem d_Mob_init_35 : decode b_Mob_init 35 = .ok (.return_, 1) := by decide +kernel
theorem d_Home_init_0 : decode b_Home_init 0 = .ok (.aload_n 0, 1) := by decide +kernel
theorem d_Home_init_1 : decode b_Home_init 1 = .ok (.invokespecial 3, 3) := by decide +kernel
theorem d_Home_init_4 : decode b_Home_init 4 = .ok (.aload_n 0, 1) := by decide +kernel
theorem d_Home_init_5 : decode b_Home_init 5 = .ok (.iload_n 1, 1) := by decide +kernel
theorem d_Home_init_6 : decode b_Home_init 6 = .ok (.putfield 9, 3) := by decide +kernel
theorem d_Home_init_9 : decode b_Home_init 9 = .ok (.aload_n 0, 1) := by decide +kernel
theorem d_Home_init_10 : decode b_Home_init 10 = .ok (.aload_n 2, 1) := by decide +kernel
theorem d_Home_init_11 : decode b_Home_init 11 = .ok (.putfield 15, 3) := by decide +kernel
theorem d_Home_init_14 : decode b_Home_init 14 = .ok (.aload_n 0, 1) := by decide +kernel
theorem d_Home_init_15 : decode b_Home_init 15 = .ok (.iconst 2, 1) := by decide +kernel
theorem d_Home_init_16 : decode b_Home_init 16 = .ok (.newarray .int, 2) := by decide +kernel
theorem d_Home_init_18 : decode b_Home_init 18 = .ok (.putfield 19, 3) := by decide +kernel
theorem d_Home_init_21 : decode b_Home_init 21 = .ok (.aload_n 0, 1) := by decide +kernel
theorem d_Home_init_22 : decode b_Home_init 22 = .ok (.iconst 2, 1) := by decide +kernel
theorem d_Home_init_23 : decode b_Home_init 23 = .ok (.newarray .int, 2) := by decide +kernel
theorem d_Home_init_25 : decode b_Home_init 25 = .ok (.putfield 23, 3) := by decide +kernel
theorem d_Home_init_28 : decode b_Home_init 28 = .ok (.aload_n 0, 1) := by decide +kernel
theorem d_Home_init_29 : decode b_Home_init 29 = .ok (.iconst 2, 1) := by decide +kernel
theorem d_Home_init_30 : decode b_Home_init 30 = .ok (.newarray .int, 2) := by decide +kernel
theorem d_Home_init_32 : decode b_Home_init 32 = .ok (.putfield 26, 3) := by decide +kernel
theorem d_Home_init_35 : decode b_Home_init 35 = .ok (.aload_n 0, 1) := by decide +kernel
theorem d_Home_init_36 : decode b_Home_init 36 = .ok (.iconst 2, 1) := by decide +kernel
theorem d_Home_init_37 : decode b_Home_init 37 = .ok (.newarray .int, 2) := by decide +kernel
theorem d_Home_init_39 : decode b_Home_init 39 = .ok (.putfield 29, 3) := by decide +kernel
theorem d_Home_init_42 : decode b_Home_init 42 = .ok (.return_, 1) := by decide +kernel
theorem d_Fa_init_0 : decode b_Fa_init 0 = .ok (.aload_n 0, 1) := by decide +kernel
theorem d_Fa_init_1 : decode b_Fa_init 1 = .ok (.invokespecial 3, 3) := by decide +kernel
theorem d_Fa_init_4 : decode b_Fa_init 4 = .ok (.aload_n 0, 1) := by decide +kernel
theorem d_Fa_init_5 : decode b_Fa_init 5 = .ok (.iload_n 1, 1) := by decide +kernel
theorem d_Fa_init_6 : decode b_Fa_init 6 = .ok (.putfield 9, 3) := by decide +kernel
theorem d_Fa_init_9 : decode b_Fa_init 9 = .ok (.aload_n 0, 1) := by decide +kernel
theorem d_Fa_init_10 : decode b_Fa_init 10 = .ok (.iload_n 2, 1) := by decide +kernel
theorem d_Fa_init_11 : decode b_Fa_init 11 = .ok (.putfield 15, 3) := by decide +kernel
theorem d_Fa_init_14 : decode b_Fa_init 14 = .ok (.aload_n 0, 1) := by decide +kernel
theorem d_Fa_init_15 : decode b_Fa_init 15 = .ok (.aload_n 3, 1) := by decide +kernel
theorem d_Fa_init_16 : decode b_Fa_init 16 = .ok (.putfield 18, 3) := by decide +kernel
theorem d_Fa_init_19 : decode b_Fa_init 19 = .ok (.aload_n 0, 1) := by decide +kernel
theorem d_Fa_init_20 : decode b_Fa_init 20 = .ok (.iconst 2, 1) := by decide +kernel
theorem d_Fa_init_21 : decode b_Fa_init 21 = .ok (.newarray .int, 2) := by decide +kernel
theorem d_Fa_init_23 : decode b_Fa_init 23 = .ok (.putfield 22, 3) := by decide +kernel
theorem d_Fa_init_26 : decode b_Fa_init 26 = .ok (.aload_n 0, 1) := by decide +kernel
theorem d_Fa_init_27 : decode b_Fa_init 27 = .ok (.iconst 2, 1) := by decide +kernel
theorem d_Fa_init_28 : decode b_Fa_init 28 = .ok (.newarray .int, 2) := by decide +kernel
theorem d_Fa_init_30 : decode b_Fa_init 30 = .ok (.putfield 26, 3) := by decide +kernel
theorem d_Fa_init_33 : decode b_Fa_init 33 = .ok (.aload_n 0, 1) := by decide +kernel
theorem d_Fa_init_34 : decode b_Fa_init 34 = .ok (.iconst 2, 1) := by decide +kernel
theorem d_Fa_init_35 : decode b_Fa_init 35 = .ok (.newarray .int, 2) := by decide +kernel
theorem d_Fa_init_37 : decode b_Fa_init 37 = .ok (.putfield 29, 3) := by decide +kernel
theorem d_Fa_init_40 : decode b_Fa_init 40 = .ok (.return_, 1) := by decide +kernel
theorem d_Corr_init_0 : decode b_Corr_init 0 = .ok (.aload_n 0, 1) := by decide +kernel
theorem d_Corr_init_1 : decode b_Corr_init 1 = .ok (.invokespecial 3, 3) := by decide +kernel
theorem d_Corr_init_4 : decode b_Corr_init 4 = .ok (.aload_n 0, 1) := by decide +kernel
theorem d_Corr_init_5 : decode b_Corr_init 5 = .ok (.aload_n 1, 1) := by decide +kernel
theorem d_Corr_init_6 : decode b_Corr_init 6 = .ok (.putfield 9, 3) := by decide +kernel
theorem d_Corr_init_9 : decode b_Corr_init 9 = .ok (.aload_n 0, 1) := by decide +kernel
theorem d_Corr_init_10 : decode b_Corr_init 10 = .ok (.iconst 2, 1) := by decide +kernel
theorem d_Corr_init_11 : decode b_Corr_init 11 = .ok (.newarray .int, 2) := by decide +kernel
theorem d_Corr_init_13 : decode b_Corr_init 13 = .ok (.putfield 15, 3) := by decide +kernel
theorem d_Corr_init_16 : decode b_Corr_init 16 = .ok (.aload_n 0, 1) := by decide +kernel
theorem d_Corr_init_17 : decode b_Corr_init 17 = .ok (.iconst 2, 1) := by decide +kernel
theorem d_Corr_init_18 : decode b_Corr_init 18 = .ok (.newarray .int, 2) := by decide +kernel
theorem d_Corr_init_20 : decode b_Corr_init 20 = .ok (.putfield 19, 3) := by decide +kernel
theorem d_Corr_init_23 : decode b_Corr_init 23 = .ok (.aload_n 0, 1) := by decide +kernel
theorem d_Corr_init_24 : decode b_Corr_init 24 = .ok (.iconst 2, 1) := by decide +kernel
theorem d_Corr_init_25 : decode b_Corr_init 25 = .ok (.newarray .int, 2) := by decide +kernel
theorem d_Corr_init_27 : decode b_Corr_init 27 = .ok (.putfield 22, 3) := by decide +kernel
theorem d_Corr_init_30 : decode b_Corr_init 30 = .ok (.aload_n 0, 1) := by decide +kernel
theorem d_Corr_init_31 : decode b_Corr_init 31 = .ok (.iconst 2, 1) := by decide +kernel
theorem d_Corr_init_32 : decode b_Corr_init 32 = .ok (.newarray .int, 2) := by decide +kernel
theorem d_Corr_init_34 : decode b_Corr_init 34 = .ok (.putfield 25, 3) := by decide +kernel
theorem d_Corr_init_37 : decode b_Corr_init 37 = .ok (.return_, 1) := by decide +kernel
theorem d_Net_init_0 : decode b_Net_init 0 = .ok (.aload_n 0, 1) := by decide +kernel
theorem d_Net_init_1 : decode b_Net_init 1 = .ok (.invokespecial 3, 3) := by decide +kernel
theorem d_Net_init_4 : decode b_Net_init 4 = .ok (.iload_n 1, 1) := by decide +kernel
theorem d_Net_init_5 : decode b_Net_init 5 = .ok (.bipush 6, 2) := by decide +kernel
theorem d_Net_init_7 : decode b_Net_init 7 = .ok (.bipush 60, 2) := by decide +kernel
theorem d_Net_init_9 : decode b_Net_init 9 = .ok (.invokestatic 11, 3) := by decide +kernel
theorem d_Net_init_12 : decode b_Net_init 12 = .ok (.ifCond .eq 7, 3) := by decide +kernel
theorem d_Net_init_15 : decode b_Net_init 15 = .ok (.iload_n 1, 1) := by decide +kernel
theorem d_Net_init_16 : decode b_Net_init 16 = .ok (.goto 5, 3) := by decide +kernel
theorem d_Net_init_19 : decode b_Net_init 19 = .ok (.bipush 20, 2) := by decide +kernel
theorem d_Net_init_21 : decode b_Net_init 21 = .ok (.istore 4, 2) := by decide +kernel
theorem d_Net_init_23 : decode b_Net_init 23 = .ok (.iload_n 2, 1) := by decide +kernel
theorem d_Net_init_24 : decode b_Net_init 24 = .ok (.bipush 6, 2) := by decide +kernel
theorem d_Net_init_26 : decode b_Net_init 26 = .ok (.bipush 60, 2) := by decide +kernel
theorem d_Net_init_28 : decode b_Net_init 28 = .ok (.invokestatic 11, 3) := by decide +kernel
theorem d_Net_init_31 : decode b_Net_init 31 = .ok (.ifCond .eq 7, 3) := by decide +kernel
theorem d_Net_init_34 : decode b_Net_init 34 = .ok (.iload_n 2, 1) := by decide +kernel
theorem d_Net_init_35 : decode b_Net_init 35 = .ok (.goto 5, 3) := by decide +kernel
theorem d_Net_init_38 : decode b_Net_init 38 = .ok (.bipush 30, 2) := by decide +kernel
theorem d_Net_init_40 : decode b_Net_init 40 = .ok (.istore 5, 2) := by decide +kernel
theorem d_Net_init_42 : decode b_Net_init 42 = .ok (.iload_n 3, 1) := by decide +kernel
theorem d_Net_init_43 : decode b_Net_init 43 = .ok (.iconst 1, 1) := by decide +kernel
theorem d_Net_init_44 : decode b_Net_init 44 = .ok (.if_icmp .ne 7, 3) := by decide +kernel
theorem d_Net_init_47 : decode b_Net_init 47 = .ok (.iconst 1, 1) := by decide +kernel
theorem d_Net_init_48 : decode b_Net_init 48 = .ok (.goto 4, 3) := by decide +kernel
theorem d_Net_init_51 : decode b_Net_init 51 = .ok (.iconst 2, 1) := by decide +kernel
theorem d_Net_init_52 : decode b_Net_init 52 = .ok (.istore 6, 2) := by decide +kernel
theorem d_Net_init_54 : decode b_Net_init 54 = .ok (.aload_n 0, 1) := by decide +kernel
theorem d_Net_init_55 : decode b_Net_init 55 = .ok (.new 15, 3) := by decide +kernel
theorem d_Net_init_58 : decode b_Net_init 58 = .ok (.dup, 1) := by decide +kernel
theorem d_Net_init_59 : decode b_Net_init 59 = .ok (.invokespecial 17, 3) := by decide +kernel
theorem d_Net_init_62 : decode b_Net_init 62 = .ok (.putfield 18, 3) := by decide +kernel
theorem d_Net_init_65 : decode b_Net_init 65 = .ok (.aload_n 0, 1) := by decide +kernel
theorem d_Net_init_66 : decode b_Net_init 66 = .ok (.new 22, 3) := by decide +kernel
theorem d_Net_init_69 : decode b_Net_init 69 = .ok (.dup, 1) := by decide +kernel
theorem d_Net_init_70 : decode b_Net_init 70 = .ok (.invokespecial 24, 3) := by decide +kernel
theorem d_Net_init_73 : decode b_Net_init 73 = .ok (.putfield 25, 3) := by decide +kernel
theorem d_Net_init_76 : decode b_Net_init 76 = .ok (.aload_n 0, 1) := by decide +kernel
theorem d_Net_init_77 : decode b_Net_init 77 = .ok (.iconst 2, 1) := by decide +kernel
theorem d_Net_init_78 : decode b_Net_init 78 = .ok (.anewarray 29, 3) := by decide +kernel
theorem d_Net_init_81 : decode b_Net_init 81 = .ok (.putfield 31, 3) := by decide +kernel
theorem d_Net_init_84 : decode b_Net_init 84 = .ok (.iconst 0, 1) := by decide +kernel
theorem d_Net_init_85 : decode b_Net_init 85 = .ok (.istore 7, 2) := by decide +kernel
theorem d_Net_init_87 : decode b_Net_init 87 = .ok (.iload 7, 2) := by decide +kernel
theorem d_Net_init_89 : decode b_Net_init 89 = .ok (.iconst 2, 1) := by decide +kernel
theorem d_Net_init_90 : decode b_Net_init 90 = .ok (.if_icmp .ge 31, 3) := by decide +kernel
theorem d_Net_init_93 : decode b_Net_init 93 = .ok (.aload_n 0, 1) := by decide +kernel
theorem d_Net_init_94 : decode b_Net_init 94 = .ok (.getfield 31, 3) := by decide +kernel
theorem d_Net_init_97 : decode b_Net_init 97 = .ok (.iload 7, 2) := by decide +kernel
theorem d_Net_init_99 : decode b_Net_init 99 = .ok (.new 29, 3) := by decide +kernel
theorem d_Net_init_102 : decode b_Net_init 102 = .ok (.dup, 1) := by decide +kernel
theorem d_Net_init_103 : decode b_Net_init 103 = .ok (.iload 7, 2) := by decide +kernel
theorem d_Net_init_105 : decode b_Net_init 105 = .ok (.iload 4, 2) := by decide +kernel
theorem d_Net_init_107 : decode b_Net_init 107 = .ok (.aload_n 0, 1) := by decide +kernel
theorem d_Net_init_108 : decode b_Net_init 108 = .ok (.getfield 18, 3) := by decide +kernel
theorem d_Net_init_111 : decode b_Net_init 111 = .ok (.invokespecial 35, 3) := by decide +kernel
theorem d_Net_init_114 : decode b_Net_init 114 = .ok (.aastore, 1) := by decide +kernel
theorem d_Net_init_115 : decode b_Net_init 115 = .ok (.iinc 7 1, 3) := by decide +kernel
theorem d_Net_init_118 : decode b_Net_init 118 = .ok (.goto (-31), 3) := by decide +kernel
theorem d_Net_init_121 : decode b_Net_init 121 = .ok (.aload_n 0, 1) := by decide +kernel
theorem d_Net_init_122 : decode b_Net_init 122 = .ok (.new 38, 3) := by decide +kernel
theorem d_Net_init_125 : decode b_Net_init 125 = .ok (.dup, 1) := by decide +kernel
theorem d_Net_init_126 : decode b_Net_init 126 = .ok (.iload 5, 2) := by decide +kernel
theorem d_Net_init_128 : decode b_Net_init 128 = .ok (.aload_n 0, 1) := by decide +kernel
theorem d_Net_init_129 : decode b_Net_init 129 = .ok (.getfield 18, 3) := by decide +kernel
theorem d_Net_init_132 : decode b_Net_init 132 = .ok (.invokespecial 40, 3) := by decide +kernel
theorem d_Net_init_135 : decode b_Net_init 135 = .ok (.putfield 43, 3) := by decide +kernel
theorem d_Net_init_138 : decode b_Net_init 138 = .ok (.aload_n 0, 1) := by decide +kernel
theorem d_Net_init_139 : decode b_Net_init 139 = .ok (.iconst 3, 1) := by decide +kernel
theorem d_Net_init_140 : decode b_Net_init 140 = .ok (.anewarray 47, 3) := by decide +kernel
theorem d_Net_init_143 : decode b_Net_init 143 = .ok (.putfield 49, 3) := by decide +kernel
theorem d_Net_init_146 : decode b_Net_init 146 = .ok (.iconst 1, 1) := by decide +kernel
theorem d_Net_init_147 : decode b_Net_init 147 = .ok (.istore 7, 2) := by decide +kernel
theorem d_Net_init_149 : decode b_Net_init 149 = .ok (.iload 7, 2) := by decide +kernel
theorem d_Net_init_151 : decode b_Net_init 151 = .ok (.iconst 4, 1) := by decide +kernel
theorem d_Net_init_152 : decode b_Net_init 152 = .ok (.if_icmp .ge 33, 3) := by decide +kernel
theorem d_Net_init_155 : decode b_Net_init 155 = .ok (.aload_n 0, 1) := by decide +kernel
theorem d_Net_init_156 : decode b_Net_init 156 = .ok (.getfield 49, 3) := by decide +kernel
theorem d_Net_init_159 : decode b_Net_init 159 = .ok (.iload 7, 2) := by decide +kernel
theorem d_Net_init_161 : decode b_Net_init 161 = .ok (.iconst 1, 1) := by decide +kernel
theorem d_Net_init_162 : decode b_Net_init 162 = .ok (.isub, 1) := by decide +kernel
theorem d_Net_init_163 : decode b_Net_init 163 = .ok (.new 47, 3) := by decide +kernel
theorem d_Net_init_166 : decode b_Net_init 166 = .ok (.dup, 1) := by decide +kernel
theorem d_Net_init_167 : decode b_Net_init 167 = .ok (.iload 7, 2) := by decide +kernel
theorem d_Net_init_169 : decode b_Net_init 169 = .ok (.iload 6, 2) := by decide +kernel
theorem d_Net_init_171 : decode b_Net_init 171 = .ok (.aload_n 0, 1) := by decide +kernel
theorem d_Net_init_172 : decode b_Net_init 172 = .ok (.getfield 18, 3) := by decide +kernel
theorem d_Net_init_175 : decode b_Net_init 175 = .ok (.invokespecial 53, 3) := by decide +kernel
theorem d_Net_init_178 : decode b_Net_init 178 = .ok (.aastore, 1) := by decide +kernel
theorem d_Net_init_179 : decode b_Net_init 179 = .ok (.iinc 7 1, 3) := by decide +kernel
theorem d_Net_init_182 : decode b_Net_init 182 = .ok (.goto (-33), 3) := by decide +kernel
theorem d_Net_init_185 : decode b_Net_init 185 = .ok (.aload_n 0, 1) := by decide +kernel
theorem d_Net_init_186 : decode b_Net_init 186 = .ok (.new 54, 3) := by decide +kernel
theorem d_Net_init_189 : decode b_Net_init 189 = .ok (.dup, 1) := by decide +kernel
theorem d_Net_init_190 : decode b_Net_init 190 = .ok (.aload_n 0, 1) := by decide +kernel
theorem d_Net_init_191 : decode b_Net_init 191 = .ok (.getfield 18, 3) := by decide +kernel
theorem d_Net_init_194 : decode b_Net_init 194 = .ok (.invokespecial 56, 3) := by decide +kernel
theorem d_Net_init_197 : decode b_Net_init 197 = .ok (.putfield 59, 3) := by decide +kernel
theorem d_Net_init_200 : decode b_Net_init 200 = .ok (.return_, 1) := by decide +kernel
theorem d_Mod_init_0 : decode b_Mod_init 0 = .ok (.aload_n 0, 1) := by decide +kernel
theorem d_Mod_init_1 : decode b_Mod_init 1 = .ok (.invokespecial 1, 3) := by decide +kernel
theorem d_Mod_init_4 : decode b_Mod_init 4 = .ok (.aload_n 0, 1) := by decide +kernel
theorem d_Mod_init_5 : decode b_Mod_init 5 = .ok (.sipush 369, 3) := by decide +kernel
theorem d_Mod_init_8 : decode b_Mod_init 8 = .ok (.newarray .int, 2) := by decide +kernel
theorem d_Mod_init_10 : decode b_Mod_init 10 = .ok (.putfield 7, 3) := by decide +kernel
theorem d_Mod_init_13 : decode b_Mod_init 13 = .ok (.aload_n 0, 1) := by decide +kernel
theorem d_Mod_init_14 : decode b_Mod_init 14 = .ok (.bipush 9, 2) := by decide +kernel
theorem d_Mod_init_16 : decode b_Mod_init 16 = .ok (.newarray .int, 2) := by decide +kernel
theorem d_Mod_init_18 : decode b_Mod_init 18 = .ok (.putfield 13, 3) := by decide +kernel
theorem d_Mod_init_21 : decode b_Mod_init 21 = .ok (.aload_n 0, 1) := by decide +kernel
theorem d_Mod_init_22 : decode b_Mod_init 22 = .ok (.iconst 2, 1) := by decide +kernel
theorem d_Mod_init_23 : decode b_Mod_init 23 = .ok (.newarray .int, 2) := by decide +kernel
theorem d_Mod_init_25 : decode b_Mod_init 25 = .ok (.putfield 16, 3) := by decide +kernel
theorem d_Mod_init_28 : decode b_Mod_init 28 = .ok (.aload_n 0, 1) := by decide +kernel
theorem d_Mod_init_29 : decode b_Mod_init 29 = .ok (.iconst 2, 1) := by decide +kernel
theorem d_Mod_init_30 : decode b_Mod_init 30 = .ok (.newarray .int, 2) := by decide +kernel
theorem d_Mod_init_32 : decode b_Mod_init 32 = .ok (.putfield 19, 3) := by decide +kernel
theorem d_Mod_init_35 : decode b_Mod_init 35 = .ok (.aload_n 0, 1) := by decide +kernel
theorem d_Mod_init_36 : decode b_Mod_init 36 = .ok (.iconst 2, 1) := by decide +kernel
theorem d_Mod_init_37 : decode b_Mod_init 37 = .ok (.newarray .int, 2) := by decide +kernel
theorem d_Mod_init_39 : decode b_Mod_init 39 = .ok (.putfield 22, 3) := by decide +kernel
theorem d_Mod_init_42 : decode b_Mod_init 42 = .ok (.aload_n 0, 1) := by decide +kernel
theorem d_Mod_init_43 : decode b_Mod_init 43 = .ok (.iconst 2, 1) := by decide +kernel
theorem d_Mod_init_44 : decode b_Mod_init 44 = .ok (.newarray .int, 2) := by decide +kernel
theorem d_Mod_init_46 : decode b_Mod_init 46 = .ok (.putfield 25, 3) := by decide +kernel
theorem d_Mod_init_49 : decode b_Mod_init 49 = .ok (.aload_n 0, 1) := by decide +kernel
theorem d_Mod_init_50 : decode b_Mod_init 50 = .ok (.iconst 2, 1) := by decide +kernel
theorem d_Mod_init_51 : decode b_Mod_init 51 = .ok (.newarray .int, 2) := by decide +kernel
theorem d_Mod_init_53 : decode b_Mod_init 53 = .ok (.putfield 28, 3) := by decide +kernel
theorem d_Mod_init_56 : decode b_Mod_init 56 = .ok (.aload_n 0, 1) := by decide +kernel
theorem d_Mod_init_57 : decode b_Mod_init 57 = .ok (.iconst 2, 1) := by decide +kernel
theorem d_Mod_init_58 : decode b_Mod_init 58 = .ok (.newarray .int, 2) := by decide +kernel
theorem d_Mod_init_60 : decode b_Mod_init 60 = .ok (.putfield 31, 3) := by decide +kernel
theorem d_Mod_init_63 : decode b_Mod_init 63 = .ok (.aload_n 0, 1) := by decide +kernel
theorem d_Mod_init_64 : decode b_Mod_init 64 = .ok (.iconst 2, 1) := by decide +kernel
theorem d_Mod_init_65 : decode b_Mod_init 65 = .ok (.newarray .int, 2) := by decide +kernel
theorem d_Mod_init_67 : decode b_Mod_init 67 = .ok (.putfield 34, 3) := by decide +kernel
theorem d_Mod_init_70 : decode b_Mod_init 70 = .ok (.aload_n 0, 1) := by decide +kernel
theorem d_Mod_init_71 : decode b_Mod_init 71 = .ok (.iconst 2, 1) := by decide +kernel
theorem d_Mod_init_72 : decode b_Mod_init 72 = .ok (.newarray .int, 2) := by decide +kernel
theorem d_Mod_init_74 : decode b_Mod_init 74 = .ok (.putfield 37, 3) := by decide +kernel
theorem d_Mod_init_77 : decode b_Mod_init 77 = .ok (.aload_n 0, 1) := by decide +kernel
theorem d_Mod_init_78 : decode b_Mod_init 78 = .ok (.iconst 2, 1) := by decide +kernel
theorem d_Mod_init_79 : decode b_Mod_init 79 = .ok (.newarray .int, 2) := by decide +kernel
theorem d_Mod_init_81 : decode b_Mod_init 81 = .ok (.putfield 40, 3) := by decide +kernel
theorem d_Mod_init_84 : decode b_Mod_init 84 = .ok (.aload_n 0, 1) := by decide +kernel
theorem d_Mod_init_85 : decode b_Mod_init 85 = .ok (.iconst 2, 1) := by decide +kernel
theorem d_Mod_init_86 : decode b_Mod_init 86 = .ok (.newarray .int, 2) := by decide +kernel
theorem d_Mod_init_88 : decode b_Mod_init 88 = .ok (.putfield 43, 3) := by decide +kernel
theorem d_Mod_init_91 : decode b_Mod_init 91 = .ok (.aload_n 0, 1) := by decide +kernel
theorem d_Mod_init_92 : decode b_Mod_init 92 = .ok (.iconst 2, 1) := by decide +kernel
theorem d_Mod_init_93 : decode b_Mod_init 93 = .ok (.newarray .int, 2) := by decide +kernel
theorem d_Mod_init_95 : decode b_Mod_init 95 = .ok (.putfield 46, 3) := by decide +kernel
theorem d_Mod_init_98 : decode b_Mod_init 98 = .ok (.aload_n 0, 1) := by decide +kernel
theorem d_Mod_init_99 : decode b_Mod_init 99 = .ok (.iconst 2, 1) := by decide +kernel
theorem d_Mod_init_100 : decode b_Mod_init 100 = .ok (.newarray .int, 2) := by decide +kernel
theorem d_Mod_init_102 : decode b_Mod_init 102 = .ok (.putfield 49, 3) := by decide +kernel
theorem d_Mod_init_105 : decode b_Mod_init 105 = .ok (.aload_n 0, 1) := by decide +kernel
theorem d_Mod_init_106 : decode b_Mod_init 106 = .ok (.iconst 2, 1) := by decide +kernel
theorem d_Mod_init_107 : decode b_Mod_init 107 = .ok (.newarray .int, 2) := by decide +kernel
theorem d_Mod_init_109 : decode b_Mod_init 109 = .ok (.putfield 52, 3) := by decide +kernel
theorem d_Mod_init_112 : decode b_Mod_init 112 = .ok (.aload_n 0, 1) := by decide +kernel
theorem d_Mod_init_113 : decode b_Mod_init 113 = .ok (.iconst 2, 1) := by decide +kernel
theorem d_Mod_init_114 : decode b_Mod_init 114 = .ok (.newarray .int, 2) := by decide +kernel
theorem d_Mod_init_116 : decode b_Mod_init 116 = .ok (.putfield 55, 3) := by decide +kernel
theorem d_Mod_init_119 : decode b_Mod_init 119 = .ok (.aload_n 0, 1) := by decide +kernel
theorem d_Mod_init_120 : decode b_Mod_init 120 = .ok (.iconst 2, 1) := by decide +kernel
theorem d_Mod_init_121 : decode b_Mod_init 121 = .ok (.newarray .int, 2) := by decide +kernel
theorem d_Mod_init_123 : decode b_Mod_init 123 = .ok (.putfield 58, 3) := by decide +kernel
theorem d_Mod_init_126 : decode b_Mod_init 126 = .ok (.aload_n 0, 1) := by decide +kernel
theorem d_Mod_init_127 : decode b_Mod_init 127 = .ok (.bipush 8, 2) := by decide +kernel
theorem d_Mod_init_129 : decode b_Mod_init 129 = .ok (.newarray .int, 2) := by decide +kernel
theorem d_Mod_init_131 : decode b_Mod_init 131 = .ok (.putfield 61, 3) := by decide +kernel
theorem d_Mod_init_134 : decode b_Mod_init 134 = .ok (.aload_n 0, 1) := by decide +kernel
theorem d_Mod_init_135 : decode b_Mod_init 135 = .ok (.bipush 8, 2) := by decide +kernel
theorem d_Mod_init_137 : decode b_Mod_init 137 = .ok (.newarray .int, 2) := by decide +kernel
theorem d_Mod_init_139 : decode b_Mod_init 139 = .ok (.putfield 64, 3) := by decide +kernel
theorem d_Mod_init_142 : decode b_Mod_init 142 = .ok (.aload_n 0, 1) := by decide +kernel
theorem d_Mod_init_143 : decode b_Mod_init 143 = .ok (.bipush 8, 2) := by decide +kernel
theorem d_Mod_init_145 : decode b_Mod_init 145 = .ok (.newarray .int, 2) := by decide +kernel
theorem d_Mod_init_147 : decode b_Mod_init 147 = .ok (.putfield 67, 3) := by decide +kernel
theorem d_Mod_init_150 : decode b_Mod_init 150 = .ok (.aload_n 0, 1) := by decide +kernel
theorem d_Mod_init_151 : decode b_Mod_init 151 = .ok (.iconst 2, 1) := by decide +kernel
theorem d_Mod_init_152 : decode b_Mod_init 152 = .ok (.newarray .int, 2) := by decide +kernel
theorem d_Mod_init_154 : decode b_Mod_init 154 = .ok (.putfield 70, 3) := by decide +kernel
theorem d_Mod_init_157 : decode b_Mod_init 157 = .ok (.aload_n 0, 1) := by decide +kernel
theorem d_Mod_init_158 : decode b_Mod_init 158 = .ok (.iconst 2, 1) := by decide +kernel
theorem d_Mod_init_159 : decode b_Mod_init 159 = .ok (.newarray .int, 2) := by decide +kernel
theorem d_Mod_init_161 : decode b_Mod_init 161 = .ok (.putfield 73, 3) := by decide +kernel
theorem d_Mod_init_164 : decode b_Mod_init 164 = .ok (.aload_n 0, 1) := by decide +kernel
theorem d_Mod_init_165 : decode b_Mod_init 165 = .ok (.iconst 2, 1) := by decide +kernel
theorem d_Mod_init_166 : decode b_Mod_init 166 = .ok (.newarray .int, 2) := by decide +kernel
theorem d_Mod_init_168 : decode b_Mod_init 168 = .ok (.putfield 76, 3) := by decide +kernel
theorem d_Mod_init_171 : decode b_Mod_init 171 = .ok (.aload_n 0, 1) := by decide +kernel
theorem d_Mod_init_172 : decode b_Mod_init 172 = .ok (.iconst 2, 1) := by decide +kernel
theorem d_Mod_init_173 : decode b_Mod_init 173 = .ok (.newarray .int, 2) := by decide +kernel
theorem d_Mod_init_175 : decode b_Mod_init 175 = .ok (.putfield 79, 3) := by decide +kernel
theorem d_Mod_init_178 : decode b_Mod_init 178 = .ok (.aload_n 0, 1) := by decide +kernel
theorem d_Mod_init_179 : decode b_Mod_init 179 = .ok (.iload_n 1, 1) := by decide +kernel
theorem d_Mod_init_180 : decode b_Mod_init 180 = .ok (.bipush 6, 2) := by decide +kernel
theorem d_Mod_init_182 : decode b_Mod_init 182 = .ok (.if_icmp .lt 13, 3) := by decide +kernel
theorem d_Mod_init_185 : decode b_Mod_init 185 = .ok (.iload_n 1, 1) := by decide +kernel
theorem d_Mod_init_186 : decode b_Mod_init 186 = .ok (.bipush 60, 2) := by decide +kernel
theorem d_Mod_init_188 : decode b_Mod_init 188 = .ok (.if_icmp .gt 7, 3) := by decide +kernel
theorem d_Mod_init_191 : decode b_Mod_init 191 = .ok (.iload_n 1, 1) := by decide +kernel
theorem d_Mod_init_192 : decode b_Mod_init 192 = .ok (.goto 5, 3) := by decide +kernel
theorem d_Mod_init_195 : decode b_Mod_init 195 = .ok (.bipush 20, 2) := by decide +kernel
theorem d_Mod_init_197 : decode b_Mod_init 197 = .ok (.putfield 82, 3) := by decide +kernel
theorem d_Mod_init_200 : decode b_Mod_init 200 = .ok (.aload_n 0, 1) := by decide +kernel
theorem d_Mod_init_201 : decode b_Mod_init 201 = .ok (.iload_n 2, 1) := by decide +kernel
theorem d_Mod_init_202 : decode b_Mod_init 202 = .ok (.bipush 6, 2) := by decide +kernel
theorem d_Mod_init_204 : decode b_Mod_init 204 = .ok (.if_icmp .lt 13, 3) := by decide +kernel
theorem d_Mod_init_207 : decode b_Mod_init 207 = .ok (.iload_n 2, 1) := by decide +kernel
theorem d_Mod_init_208 : decode b_Mod_init 208 = .ok (.bipush 60, 2) := by decide +kernel
theorem d_Mod_init_210 : decode b_Mod_init 210 = .ok (.if_icmp .gt 7, 3) := by decide +kernel
theorem d_Mod_init_213 : decode b_Mod_init 213 = .ok (.iload_n 2, 1) := by decide +kernel
theorem d_Mod_init_214 : decode b_Mod_init 214 = .ok (.goto 5, 3) := by decide +kernel
theorem d_Mod_init_217 : decode b_Mod_init 217 = .ok (.bipush 30, 2) := by decide +kernel
theorem d_Mod_init_219 : decode b_Mod_init 219 = .ok (.putfield 86, 3) := by decide +kernel
theorem d_Mod_init_222 : decode b_Mod_init 222 = .ok (.aload_n 0, 1) := by decide +kernel
theorem d_Mod_init_223 : decode b_Mod_init 223 = .ok (.iload_n 3, 1) := by decide +kernel
theorem d_Mod_init_224 : decode b_Mod_init 224 = .ok (.iconst 1, 1) := by decide +kernel
theorem d_Mod_init_225 : decode b_Mod_init 225 = .ok (.if_icmp .ne 7, 3) := by decide +kernel
theorem d_Mod_init_228 : decode b_Mod_init 228 = .ok (.iconst 1, 1) := by decide +kernel
theorem d_Mod_init_229 : decode b_Mod_init 229 = .ok (.goto 4, 3) := by decide +kernel
theorem d_Mod_init_232 : decode b_Mod_init 232 = .ok (.iconst 2, 1) := by decide +kernel
theorem d_Mod_init_233 : decode b_Mod_init 233 = .ok (.putfield 89, 3) := by decide +kernel
theorem d_Mod_init_236 : decode b_Mod_init 236 = .ok (.iconst 0, 1) := by decide +kernel
theorem d_Mod_init_237 : decode b_Mod_init 237 = .ok (.istore 4, 2) := by decide +kernel
theorem d_Mod_init_239 : decode b_Mod_init 239 = .ok (.iload 4, 2) := by decide +kernel
theorem d_Mod_init_241 : decode b_Mod_init 241 = .ok (.iconst 2, 1) := by decide +kernel
theorem d_Mod_init_242 : decode b_Mod_init 242 = .ok (.if_icmp .ge 26, 3) := by decide +kernel
theorem d_Mod_init_245 : decode b_Mod_init 245 = .ok (.aload_n 0, 1) := by decide +kernel
theorem d_Mod_init_246 : decode b_Mod_init 246 = .ok (.getfield 28, 3) := by decide +kernel
theorem d_Mod_init_249 : decode b_Mod_init 249 = .ok (.iload 4, 2) := by decide +kernel
theorem d_Mod_init_251 : decode b_Mod_init 251 = .ok (.ldc 92, 2) := by decide +kernel
theorem d_Mod_init_253 : decode b_Mod_init 253 = .ok (.iastore, 1) := by decide +kernel
theorem d_Mod_init_254 : decode b_Mod_init 254 = .ok (.aload_n 0, 1) := by decide +kernel
theorem d_Mod_init_255 : decode b_Mod_init 255 = .ok (.getfield 31, 3) := by decide +kernel
theorem d_Mod_init_258 : decode b_Mod_init 258 = .ok (.iload 4, 2) := by decide +kernel
theorem d_Mod_init_260 : decode b_Mod_init 260 = .ok (.iconst (-1), 1) := by decide +kernel
theorem d_Mod_init_261 : decode b_Mod_init 261 = .ok (.iastore, 1) := by decide +kernel
theorem d_Mod_init_262 : decode b_Mod_init 262 = .ok (.iinc 4 1, 3) := by decide +kernel
theorem d_Mod_init_265 : decode b_Mod_init 265 = .ok (.goto (-26), 3) := by decide +kernel
theorem d_Mod_init_268 : decode b_Mod_init 268 = .ok (.return_, 1) := by decide +kernel
