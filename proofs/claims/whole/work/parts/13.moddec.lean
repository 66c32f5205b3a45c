theorem d_Mod_isMobile_0 : decode b_Mod_isMobile 0 = .ok (.iload_n 0, 1) := by decide +kernel
theorem d_Mod_isMobile_1 : decode b_Mod_isMobile 1 = .ok (.ifCond .eq 8, 3) := by decide +kernel
theorem d_Mod_isMobile_4 : decode b_Mod_isMobile 4 = .ok (.iload_n 0, 1) := by decide +kernel
theorem d_Mod_isMobile_5 : decode b_Mod_isMobile 5 = .ok (.iconst 1, 1) := by decide +kernel
theorem d_Mod_isMobile_6 : decode b_Mod_isMobile 6 = .ok (.if_icmp .ne 7, 3) := by decide +kernel
theorem d_Mod_isMobile_9 : decode b_Mod_isMobile 9 = .ok (.iconst 1, 1) := by decide +kernel
theorem d_Mod_isMobile_10 : decode b_Mod_isMobile 10 = .ok (.goto 4, 3) := by decide +kernel
theorem d_Mod_isMobile_13 : decode b_Mod_isMobile 13 = .ok (.iconst 0, 1) := by decide +kernel
theorem d_Mod_isMobile_14 : decode b_Mod_isMobile 14 = .ok (.ireturn, 1) := by decide +kernel
theorem d_Mod_mixed_0 : decode b_Mod_mixed 0 = .ok (.iload_n 0, 1) := by decide +kernel
theorem d_Mod_mixed_1 : decode b_Mod_mixed 1 = .ok (.iload_n 1, 1) := by decide +kernel
theorem d_Mod_mixed_2 : decode b_Mod_mixed 2 = .ok (.ixor, 1) := by decide +kernel
theorem d_Mod_mixed_3 : decode b_Mod_mixed 3 = .ok (.ldc 96, 2) := by decide +kernel
theorem d_Mod_mixed_5 : decode b_Mod_mixed 5 = .ok (.imul, 1) := by decide +kernel
theorem d_Mod_mixed_6 : decode b_Mod_mixed 6 = .ok (.istore_n 2, 1) := by decide +kernel
theorem d_Mod_mixed_7 : decode b_Mod_mixed 7 = .ok (.iload_n 2, 1) := by decide +kernel
theorem d_Mod_mixed_8 : decode b_Mod_mixed 8 = .ok (.iload_n 2, 1) := by decide +kernel
theorem d_Mod_mixed_9 : decode b_Mod_mixed 9 = .ok (.bipush 15, 2) := by decide +kernel
theorem d_Mod_mixed_11 : decode b_Mod_mixed 11 = .ok (.iushr, 1) := by decide +kernel
theorem d_Mod_mixed_12 : decode b_Mod_mixed 12 = .ok (.ixor, 1) := by decide +kernel
theorem d_Mod_mixed_13 : decode b_Mod_mixed 13 = .ok (.ireturn, 1) := by decide +kernel
theorem d_Mod_requestSeal_0 : decode b_Mod_requestSeal 0 = .ok (.iload_n 0, 1) := by decide +kernel
theorem d_Mod_requestSeal_1 : decode b_Mod_requestSeal 1 = .ok (.iconst 2, 1) := by decide +kernel
theorem d_Mod_requestSeal_2 : decode b_Mod_requestSeal 2 = .ok (.invokestatic 97, 3) := by decide +kernel
theorem d_Mod_requestSeal_5 : decode b_Mod_requestSeal 5 = .ok (.iload_n 1, 1) := by decide +kernel
theorem d_Mod_requestSeal_6 : decode b_Mod_requestSeal 6 = .ok (.invokestatic 97, 3) := by decide +kernel
theorem d_Mod_requestSeal_9 : decode b_Mod_requestSeal 9 = .ok (.iload_n 2, 1) := by decide +kernel
theorem d_Mod_requestSeal_10 : decode b_Mod_requestSeal 10 = .ok (.invokestatic 97, 3) := by decide +kernel
theorem d_Mod_requestSeal_13 : decode b_Mod_requestSeal 13 = .ok (.iload_n 3, 1) := by decide +kernel
theorem d_Mod_requestSeal_14 : decode b_Mod_requestSeal 14 = .ok (.invokestatic 97, 3) := by decide +kernel
theorem d_Mod_requestSeal_17 : decode b_Mod_requestSeal 17 = .ok (.iload 4, 2) := by decide +kernel
theorem d_Mod_requestSeal_19 : decode b_Mod_requestSeal 19 = .ok (.invokestatic 97, 3) := by decide +kernel
theorem d_Mod_requestSeal_22 : decode b_Mod_requestSeal 22 = .ok (.ireturn, 1) := by decide +kernel
theorem d_Mod_replySeal_0 : decode b_Mod_replySeal 0 = .ok (.iload_n 0, 1) := by decide +kernel
theorem d_Mod_replySeal_1 : decode b_Mod_replySeal 1 = .ok (.iconst 3, 1) := by decide +kernel
theorem d_Mod_replySeal_2 : decode b_Mod_replySeal 2 = .ok (.invokestatic 97, 3) := by decide +kernel
theorem d_Mod_replySeal_5 : decode b_Mod_replySeal 5 = .ok (.iload_n 1, 1) := by decide +kernel
theorem d_Mod_replySeal_6 : decode b_Mod_replySeal 6 = .ok (.invokestatic 97, 3) := by decide +kernel
theorem d_Mod_replySeal_9 : decode b_Mod_replySeal 9 = .ok (.iload_n 2, 1) := by decide +kernel
theorem d_Mod_replySeal_10 : decode b_Mod_replySeal 10 = .ok (.invokestatic 97, 3) := by decide +kernel
theorem d_Mod_replySeal_13 : decode b_Mod_replySeal 13 = .ok (.iload_n 3, 1) := by decide +kernel
theorem d_Mod_replySeal_14 : decode b_Mod_replySeal 14 = .ok (.invokestatic 97, 3) := by decide +kernel
theorem d_Mod_replySeal_17 : decode b_Mod_replySeal 17 = .ok (.iload 4, 2) := by decide +kernel
theorem d_Mod_replySeal_19 : decode b_Mod_replySeal 19 = .ok (.invokestatic 97, 3) := by decide +kernel
theorem d_Mod_replySeal_22 : decode b_Mod_replySeal 22 = .ok (.iload 5, 2) := by decide +kernel
theorem d_Mod_replySeal_24 : decode b_Mod_replySeal 24 = .ok (.invokestatic 97, 3) := by decide +kernel
theorem d_Mod_replySeal_27 : decode b_Mod_replySeal 27 = .ok (.ireturn, 1) := by decide +kernel
theorem d_Mod_isMessage_0 : decode b_Mod_isMessage 0 = .ok (.iload_n 1, 1) := by decide +kernel
theorem d_Mod_isMessage_1 : decode b_Mod_isMessage 1 = .ok (.ifCond .lt 15, 3) := by decide +kernel
theorem d_Mod_isMessage_4 : decode b_Mod_isMessage 4 = .ok (.iload_n 1, 1) := by decide +kernel
theorem d_Mod_isMessage_5 : decode b_Mod_isMessage 5 = .ok (.aload_n 0, 1) := by decide +kernel
theorem d_Mod_isMessage_6 : decode b_Mod_isMessage 6 = .ok (.getfield 93, 3) := by decide +kernel
theorem d_Mod_isMessage_9 : decode b_Mod_isMessage 9 = .ok (.if_icmp .ge 7, 3) := by decide +kernel
theorem d_Mod_isMessage_12 : decode b_Mod_isMessage 12 = .ok (.iconst 1, 1) := by decide +kernel
theorem d_Mod_isMessage_13 : decode b_Mod_isMessage 13 = .ok (.goto 4, 3) := by decide +kernel
theorem d_Mod_isMessage_16 : decode b_Mod_isMessage 16 = .ok (.iconst 0, 1) := by decide +kernel
theorem d_Mod_isMessage_17 : decode b_Mod_isMessage 17 = .ok (.ireturn, 1) := by decide +kernel
theorem d_Mod_send_0 : decode b_Mod_send 0 = .ok (.aload_n 0, 1) := by decide +kernel
theorem d_Mod_send_1 : decode b_Mod_send 1 = .ok (.getfield 93, 3) := by decide +kernel
theorem d_Mod_send_4 : decode b_Mod_send 4 = .ok (.bipush 40, 2) := by decide +kernel
theorem d_Mod_send_6 : decode b_Mod_send 6 = .ok (.if_icmp .lt 4, 3) := by decide +kernel
theorem d_Mod_send_9 : decode b_Mod_send 9 = .ok (.return_, 1) := by decide +kernel
theorem d_Mod_send_10 : decode b_Mod_send 10 = .ok (.bipush 9, 2) := by decide +kernel
theorem d_Mod_send_12 : decode b_Mod_send 12 = .ok (.aload_n 0, 1) := by decide +kernel
theorem d_Mod_send_13 : decode b_Mod_send 13 = .ok (.getfield 93, 3) := by decide +kernel
theorem d_Mod_send_16 : decode b_Mod_send 16 = .ok (.imul, 1) := by decide +kernel
theorem d_Mod_send_17 : decode b_Mod_send 17 = .ok (.istore 10, 2) := by decide +kernel
theorem d_Mod_send_19 : decode b_Mod_send 19 = .ok (.aload_n 0, 1) := by decide +kernel
theorem d_Mod_send_20 : decode b_Mod_send 20 = .ok (.getfield 7, 3) := by decide +kernel
theorem d_Mod_send_23 : decode b_Mod_send 23 = .ok (.iload 10, 2) := by decide +kernel
theorem d_Mod_send_25 : decode b_Mod_send 25 = .ok (.iload_n 1, 1) := by decide +kernel
theorem d_Mod_send_26 : decode b_Mod_send 26 = .ok (.iastore, 1) := by decide +kernel
theorem d_Mod_send_27 : decode b_Mod_send 27 = .ok (.aload_n 0, 1) := by decide +kernel
theorem d_Mod_send_28 : decode b_Mod_send 28 = .ok (.getfield 7, 3) := by decide +kernel
theorem d_Mod_send_31 : decode b_Mod_send 31 = .ok (.iload 10, 2) := by decide +kernel
theorem d_Mod_send_33 : decode b_Mod_send 33 = .ok (.iconst 1, 1) := by decide +kernel
theorem d_Mod_send_34 : decode b_Mod_send 34 = .ok (.iadd, 1) := by decide +kernel
theorem d_Mod_send_35 : decode b_Mod_send 35 = .ok (.iload_n 2, 1) := by decide +kernel
theorem d_Mod_send_36 : decode b_Mod_send 36 = .ok (.iastore, 1) := by decide +kernel
theorem d_Mod_send_37 : decode b_Mod_send 37 = .ok (.aload_n 0, 1) := by decide +kernel
theorem d_Mod_send_38 : decode b_Mod_send 38 = .ok (.getfield 7, 3) := by decide +kernel
theorem d_Mod_send_41 : decode b_Mod_send 41 = .ok (.iload 10, 2) := by decide +kernel
theorem d_Mod_send_43 : decode b_Mod_send 43 = .ok (.iconst 2, 1) := by decide +kernel
theorem d_Mod_send_44 : decode b_Mod_send 44 = .ok (.iadd, 1) := by decide +kernel
theorem d_Mod_send_45 : decode b_Mod_send 45 = .ok (.iload_n 3, 1) := by decide +kernel
theorem d_Mod_send_46 : decode b_Mod_send 46 = .ok (.iastore, 1) := by decide +kernel
theorem d_Mod_send_47 : decode b_Mod_send 47 = .ok (.aload_n 0, 1) := by decide +kernel
theorem d_Mod_send_48 : decode b_Mod_send 48 = .ok (.getfield 7, 3) := by decide +kernel
theorem d_Mod_send_51 : decode b_Mod_send 51 = .ok (.iload 10, 2) := by decide +kernel
theorem d_Mod_send_53 : decode b_Mod_send 53 = .ok (.iconst 3, 1) := by decide +kernel
theorem d_Mod_send_54 : decode b_Mod_send 54 = .ok (.iadd, 1) := by decide +kernel
theorem d_Mod_send_55 : decode b_Mod_send 55 = .ok (.iload 4, 2) := by decide +kernel
theorem d_Mod_send_57 : decode b_Mod_send 57 = .ok (.iastore, 1) := by decide +kernel
theorem d_Mod_send_58 : decode b_Mod_send 58 = .ok (.aload_n 0, 1) := by decide +kernel
theorem d_Mod_send_59 : decode b_Mod_send 59 = .ok (.getfield 7, 3) := by decide +kernel
theorem d_Mod_send_62 : decode b_Mod_send 62 = .ok (.iload 10, 2) := by decide +kernel
theorem d_Mod_send_64 : decode b_Mod_send 64 = .ok (.iconst 4, 1) := by decide +kernel
theorem d_Mod_send_65 : decode b_Mod_send 65 = .ok (.iadd, 1) := by decide +kernel
theorem d_Mod_send_66 : decode b_Mod_send 66 = .ok (.iload 5, 2) := by decide +kernel
theorem d_Mod_send_68 : decode b_Mod_send 68 = .ok (.iastore, 1) := by decide +kernel
theorem d_Mod_send_69 : decode b_Mod_send 69 = .ok (.aload_n 0, 1) := by decide +kernel
theorem d_Mod_send_70 : decode b_Mod_send 70 = .ok (.getfield 7, 3) := by decide +kernel
theorem d_Mod_send_73 : decode b_Mod_send 73 = .ok (.iload 10, 2) := by decide +kernel
theorem d_Mod_send_75 : decode b_Mod_send 75 = .ok (.iconst 5, 1) := by decide +kernel
theorem d_Mod_send_76 : decode b_Mod_send 76 = .ok (.iadd, 1) := by decide +kernel
theorem d_Mod_send_77 : decode b_Mod_send 77 = .ok (.iload 6, 2) := by decide +kernel
theorem d_Mod_send_79 : decode b_Mod_send 79 = .ok (.iastore, 1) := by decide +kernel
theorem d_Mod_send_80 : decode b_Mod_send 80 = .ok (.aload_n 0, 1) := by decide +kernel
theorem d_Mod_send_81 : decode b_Mod_send 81 = .ok (.getfield 7, 3) := by decide +kernel
theorem d_Mod_send_84 : decode b_Mod_send 84 = .ok (.iload 10, 2) := by decide +kernel
theorem d_Mod_send_86 : decode b_Mod_send 86 = .ok (.bipush 6, 2) := by decide +kernel
theorem d_Mod_send_88 : decode b_Mod_send 88 = .ok (.iadd, 1) := by decide +kernel
theorem d_Mod_send_89 : decode b_Mod_send 89 = .ok (.iload 7, 2) := by decide +kernel
theorem d_Mod_send_91 : decode b_Mod_send 91 = .ok (.iastore, 1) := by decide +kernel
theorem d_Mod_send_92 : decode b_Mod_send 92 = .ok (.aload_n 0, 1) := by decide +kernel
theorem d_Mod_send_93 : decode b_Mod_send 93 = .ok (.getfield 7, 3) := by decide +kernel
theorem d_Mod_send_96 : decode b_Mod_send 96 = .ok (.iload 10, 2) := by decide +kernel
theorem d_Mod_send_98 : decode b_Mod_send 98 = .ok (.bipush 7, 2) := by decide +kernel
theorem d_Mod_send_100 : decode b_Mod_send 100 = .ok (.iadd, 1) := by decide +kernel
theorem d_Mod_send_101 : decode b_Mod_send 101 = .ok (.iload 8, 2) := by decide +kernel
theorem d_Mod_send_103 : decode b_Mod_send 103 = .ok (.iastore, 1) := by decide +kernel
theorem d_Mod_send_104 : decode b_Mod_send 104 = .ok (.aload_n 0, 1) := by decide +kernel
theorem d_Mod_send_105 : decode b_Mod_send 105 = .ok (.getfield 7, 3) := by decide +kernel
theorem d_Mod_send_108 : decode b_Mod_send 108 = .ok (.iload 10, 2) := by decide +kernel
theorem d_Mod_send_110 : decode b_Mod_send 110 = .ok (.bipush 8, 2) := by decide +kernel
theorem d_Mod_send_112 : decode b_Mod_send 112 = .ok (.iadd, 1) := by decide +kernel
theorem d_Mod_send_113 : decode b_Mod_send 113 = .ok (.iload 9, 2) := by decide +kernel
theorem d_Mod_send_115 : decode b_Mod_send 115 = .ok (.iastore, 1) := by decide +kernel
theorem d_Mod_send_116 : decode b_Mod_send 116 = .ok (.aload_n 0, 1) := by decide +kernel
theorem d_Mod_send_117 : decode b_Mod_send 117 = .ok (.dup, 1) := by decide +kernel
theorem d_Mod_send_118 : decode b_Mod_send 118 = .ok (.getfield 93, 3) := by decide +kernel
theorem d_Mod_send_121 : decode b_Mod_send 121 = .ok (.iconst 1, 1) := by decide +kernel
theorem d_Mod_send_122 : decode b_Mod_send 122 = .ok (.iadd, 1) := by decide +kernel
theorem d_Mod_send_123 : decode b_Mod_send 123 = .ok (.putfield 93, 3) := by decide +kernel
theorem d_Mod_send_126 : decode b_Mod_send 126 = .ok (.return_, 1) := by decide +kernel
theorem d_Mod_key_0 : decode b_Mod_key 0 = .ok (.iload_n 1, 1) := by decide +kernel
theorem d_Mod_key_1 : decode b_Mod_key 1 = .ok (.ifCond .eq 8, 3) := by decide +kernel
theorem d_Mod_key_4 : decode b_Mod_key 4 = .ok (.iload_n 1, 1) := by decide +kernel
theorem d_Mod_key_5 : decode b_Mod_key 5 = .ok (.iconst 1, 1) := by decide +kernel
theorem d_Mod_key_6 : decode b_Mod_key 6 = .ok (.if_icmp .ne 10, 3) := by decide +kernel
theorem d_Mod_key_9 : decode b_Mod_key 9 = .ok (.iload_n 2, 1) := by decide +kernel
theorem d_Mod_key_10 : decode b_Mod_key 10 = .ok (.invokestatic 101, 3) := by decide +kernel
theorem d_Mod_key_13 : decode b_Mod_key 13 = .ok (.ifCond .ne 5, 3) := by decide +kernel
theorem d_Mod_key_16 : decode b_Mod_key 16 = .ok (.iconst 0, 1) := by decide +kernel
theorem d_Mod_key_17 : decode b_Mod_key 17 = .ok (.ireturn, 1) := by decide +kernel
theorem d_Mod_key_18 : decode b_Mod_key 18 = .ok (.aload_n 0, 1) := by decide +kernel
theorem d_Mod_key_19 : decode b_Mod_key 19 = .ok (.getfield 19, 3) := by decide +kernel
theorem d_Mod_key_22 : decode b_Mod_key 22 = .ok (.iload_n 2, 1) := by decide +kernel
theorem d_Mod_key_23 : decode b_Mod_key 23 = .ok (.iload_n 1, 1) := by decide +kernel
theorem d_Mod_key_24 : decode b_Mod_key 24 = .ok (.iconst 1, 1) := by decide +kernel
theorem d_Mod_key_25 : decode b_Mod_key 25 = .ok (.if_icmp .ne 7, 3) := by decide +kernel
theorem d_Mod_key_28 : decode b_Mod_key 28 = .ok (.iload_n 3, 1) := by decide +kernel
theorem d_Mod_key_29 : decode b_Mod_key 29 = .ok (.goto 9, 3) := by decide +kernel
theorem d_Mod_key_32 : decode b_Mod_key 32 = .ok (.aload_n 0, 1) := by decide +kernel
theorem d_Mod_key_33 : decode b_Mod_key 33 = .ok (.getfield 19, 3) := by decide +kernel
theorem d_Mod_key_36 : decode b_Mod_key 36 = .ok (.iload_n 2, 1) := by decide +kernel
theorem d_Mod_key_37 : decode b_Mod_key 37 = .ok (.iaload, 1) := by decide +kernel
theorem d_Mod_key_38 : decode b_Mod_key 38 = .ok (.iastore, 1) := by decide +kernel
theorem d_Mod_key_39 : decode b_Mod_key 39 = .ok (.aload_n 0, 1) := by decide +kernel
theorem d_Mod_key_40 : decode b_Mod_key 40 = .ok (.getfield 49, 3) := by decide +kernel
theorem d_Mod_key_43 : decode b_Mod_key 43 = .ok (.iload_n 2, 1) := by decide +kernel
theorem d_Mod_key_44 : decode b_Mod_key 44 = .ok (.iload_n 1, 1) := by decide +kernel
theorem d_Mod_key_45 : decode b_Mod_key 45 = .ok (.ifCond .ne 7, 3) := by decide +kernel
theorem d_Mod_key_48 : decode b_Mod_key 48 = .ok (.iload_n 3, 1) := by decide +kernel
theorem d_Mod_key_49 : decode b_Mod_key 49 = .ok (.goto 9, 3) := by decide +kernel
theorem d_Mod_key_52 : decode b_Mod_key 52 = .ok (.aload_n 0, 1) := by decide +kernel
theorem d_Mod_key_53 : decode b_Mod_key 53 = .ok (.getfield 49, 3) := by decide +kernel
theorem d_Mod_key_56 : decode b_Mod_key 56 = .ok (.iload_n 2, 1) := by decide +kernel
theorem d_Mod_key_57 : decode b_Mod_key 57 = .ok (.iaload, 1) := by decide +kernel
theorem d_Mod_key_58 : decode b_Mod_key 58 = .ok (.iastore, 1) := by decide +kernel
theorem d_Mod_key_59 : decode b_Mod_key 59 = .ok (.iconst 1, 1) := by decide +kernel
theorem d_Mod_key_60 : decode b_Mod_key 60 = .ok (.ireturn, 1) := by decide +kernel
theorem d_Mod_move_0 : decode b_Mod_move 0 = .ok (.iload_n 1, 1) := by decide +kernel
theorem d_Mod_move_1 : decode b_Mod_move 1 = .ok (.invokestatic 101, 3) := by decide +kernel
theorem d_Mod_move_4 : decode b_Mod_move 4 = .ok (.ifCond .eq 12, 3) := by decide +kernel
theorem d_Mod_move_7 : decode b_Mod_move 7 = .ok (.iload_n 2, 1) := by decide +kernel
theorem d_Mod_move_8 : decode b_Mod_move 8 = .ok (.ifCond .lt 8, 3) := by decide +kernel
theorem d_Mod_move_11 : decode b_Mod_move 11 = .ok (.iload_n 2, 1) := by decide +kernel
theorem d_Mod_move_12 : decode b_Mod_move 12 = .ok (.iconst 4, 1) := by decide +kernel
theorem d_Mod_move_13 : decode b_Mod_move 13 = .ok (.if_icmp .le 5, 3) := by decide +kernel
theorem d_Mod_move_16 : decode b_Mod_move 16 = .ok (.iconst 0, 1) := by decide +kernel
theorem d_Mod_move_17 : decode b_Mod_move 17 = .ok (.ireturn, 1) := by decide +kernel
theorem d_Mod_move_18 : decode b_Mod_move 18 = .ok (.aload_n 0, 1) := by decide +kernel
theorem d_Mod_move_19 : decode b_Mod_move 19 = .ok (.getfield 16, 3) := by decide +kernel
theorem d_Mod_move_22 : decode b_Mod_move 22 = .ok (.iload_n 1, 1) := by decide +kernel
theorem d_Mod_move_23 : decode b_Mod_move 23 = .ok (.iload_n 2, 1) := by decide +kernel
theorem d_Mod_move_24 : decode b_Mod_move 24 = .ok (.iastore, 1) := by decide +kernel
theorem d_Mod_move_25 : decode b_Mod_move 25 = .ok (.iconst 1, 1) := by decide +kernel
theorem d_Mod_move_26 : decode b_Mod_move 26 = .ok (.ireturn, 1) := by decide +kernel
theorem d_Mod_register_0 : decode b_Mod_register 0 = .ok (.aload_n 0, 1) := by decide +kernel
theorem d_Mod_register_1 : decode b_Mod_register 1 = .ok (.getfield 22, 3) := by decide +kernel
theorem d_Mod_register_4 : decode b_Mod_register 4 = .ok (.iload_n 1, 1) := by decide +kernel
theorem d_Mod_register_5 : decode b_Mod_register 5 = .ok (.dup2, 1) := by decide +kernel
theorem d_Mod_register_6 : decode b_Mod_register 6 = .ok (.iaload, 1) := by decide +kernel
theorem d_Mod_register_7 : decode b_Mod_register 7 = .ok (.iconst 1, 1) := by decide +kernel
theorem d_Mod_register_8 : decode b_Mod_register 8 = .ok (.iadd, 1) := by decide +kernel
theorem d_Mod_register_9 : decode b_Mod_register 9 = .ok (.iastore, 1) := by decide +kernel
theorem d_Mod_register_10 : decode b_Mod_register 10 = .ok (.iload_n 2, 1) := by decide +kernel
theorem d_Mod_register_11 : decode b_Mod_register 11 = .ok (.ifCond .ne 7, 3) := by decide +kernel
theorem d_Mod_register_14 : decode b_Mod_register 14 = .ok (.iconst 0, 1) := by decide +kernel
theorem d_Mod_register_15 : decode b_Mod_register 15 = .ok (.goto 7, 3) := by decide +kernel
theorem d_Mod_register_18 : decode b_Mod_register 18 = .ok (.aload_n 0, 1) := by decide +kernel
theorem d_Mod_register_19 : decode b_Mod_register 19 = .ok (.getfield 82, 3) := by decide +kernel
theorem d_Mod_register_22 : decode b_Mod_register 22 = .ok (.istore_n 3, 1) := by decide +kernel
theorem d_Mod_register_23 : decode b_Mod_register 23 = .ok (.aload_n 0, 1) := by decide +kernel
theorem d_Mod_register_24 : decode b_Mod_register 24 = .ok (.iconst 2, 1) := by decide +kernel
theorem d_Mod_register_25 : decode b_Mod_register 25 = .ok (.iload_n 2, 1) := by decide +kernel
theorem d_Mod_register_26 : decode b_Mod_register 26 = .ok (.iload_n 1, 1) := by decide +kernel
theorem d_Mod_register_27 : decode b_Mod_register 27 = .ok (.iconst 0, 1) := by decide +kernel
theorem d_Mod_register_28 : decode b_Mod_register 28 = .ok (.aload_n 0, 1) := by decide +kernel
theorem d_Mod_register_29 : decode b_Mod_register 29 = .ok (.getfield 22, 3) := by decide +kernel
theorem d_Mod_register_32 : decode b_Mod_register 32 = .ok (.iload_n 1, 1) := by decide +kernel
theorem d_Mod_register_33 : decode b_Mod_register 33 = .ok (.iaload, 1) := by decide +kernel
theorem d_Mod_register_34 : decode b_Mod_register 34 = .ok (.iload_n 2, 1) := by decide +kernel
theorem d_Mod_register_35 : decode b_Mod_register 35 = .ok (.iload_n 3, 1) := by decide +kernel
theorem d_Mod_register_36 : decode b_Mod_register 36 = .ok (.iconst 0, 1) := by decide +kernel
theorem d_Mod_register_37 : decode b_Mod_register 37 = .ok (.aload_n 0, 1) := by decide +kernel
theorem d_Mod_register_38 : decode b_Mod_register 38 = .ok (.getfield 19, 3) := by decide +kernel
theorem d_Mod_register_41 : decode b_Mod_register 41 = .ok (.iload_n 1, 1) := by decide +kernel
theorem d_Mod_register_42 : decode b_Mod_register 42 = .ok (.iaload, 1) := by decide +kernel
theorem d_Mod_register_43 : decode b_Mod_register 43 = .ok (.iload_n 1, 1) := by decide +kernel
theorem d_Mod_register_44 : decode b_Mod_register 44 = .ok (.iload_n 2, 1) := by decide +kernel
theorem d_Mod_register_45 : decode b_Mod_register 45 = .ok (.iload_n 3, 1) := by decide +kernel
theorem d_Mod_register_46 : decode b_Mod_register 46 = .ok (.aload_n 0, 1) := by decide +kernel
theorem d_Mod_register_47 : decode b_Mod_register 47 = .ok (.getfield 22, 3) := by decide +kernel
theorem d_Mod_register_50 : decode b_Mod_register 50 = .ok (.iload_n 1, 1) := by decide +kernel
theorem d_Mod_register_51 : decode b_Mod_register 51 = .ok (.iaload, 1) := by decide +kernel
theorem d_Mod_register_52 : decode b_Mod_register 52 = .ok (.invokestatic 105, 3) := by decide +kernel
theorem d_Mod_register_55 : decode b_Mod_register 55 = .ok (.invokevirtual 109, 3) := by decide +kernel
theorem d_Mod_register_58 : decode b_Mod_register 58 = .ok (.aload_n 0, 1) := by decide +kernel
theorem d_Mod_register_59 : decode b_Mod_register 59 = .ok (.getfield 37, 3) := by decide +kernel
theorem d_Mod_register_62 : decode b_Mod_register 62 = .ok (.iload_n 1, 1) := by decide +kernel
theorem d_Mod_register_63 : decode b_Mod_register 63 = .ok (.aload_n 0, 1) := by decide +kernel
theorem d_Mod_register_64 : decode b_Mod_register 64 = .ok (.getfield 22, 3) := by decide +kernel
theorem d_Mod_register_67 : decode b_Mod_register 67 = .ok (.iload_n 1, 1) := by decide +kernel
theorem d_Mod_register_68 : decode b_Mod_register 68 = .ok (.iaload, 1) := by decide +kernel
theorem d_Mod_register_69 : decode b_Mod_register 69 = .ok (.iastore, 1) := by decide +kernel
theorem d_Mod_register_70 : decode b_Mod_register 70 = .ok (.aload_n 0, 1) := by decide +kernel
theorem d_Mod_register_71 : decode b_Mod_register 71 = .ok (.getfield 40, 3) := by decide +kernel
theorem d_Mod_register_74 : decode b_Mod_register 74 = .ok (.iload_n 1, 1) := by decide +kernel
theorem d_Mod_register_75 : decode b_Mod_register 75 = .ok (.iload_n 2, 1) := by decide +kernel
theorem d_Mod_register_76 : decode b_Mod_register 76 = .ok (.iastore, 1) := by decide +kernel
theorem d_Mod_register_77 : decode b_Mod_register 77 = .ok (.aload_n 0, 1) := by decide +kernel
theorem d_Mod_register_78 : decode b_Mod_register 78 = .ok (.getfield 43, 3) := by decide +kernel
theorem d_Mod_register_81 : decode b_Mod_register 81 = .ok (.iload_n 1, 1) := by decide +kernel
theorem d_Mod_register_82 : decode b_Mod_register 82 = .ok (.aload_n 0, 1) := by decide +kernel
theorem d_Mod_register_83 : decode b_Mod_register 83 = .ok (.getfield 113, 3) := by decide +kernel
theorem d_Mod_register_86 : decode b_Mod_register 86 = .ok (.iastore, 1) := by decide +kernel
theorem d_Mod_register_87 : decode b_Mod_register 87 = .ok (.return_, 1) := by decide +kernel
theorem d_Mod_advert_0 : decode b_Mod_advert 0 = .ok (.aload_n 0, 1) := by decide +kernel
theorem d_Mod_advert_1 : decode b_Mod_advert 1 = .ok (.getfield 31, 3) := by decide +kernel
theorem d_Mod_advert_4 : decode b_Mod_advert 4 = .ok (.iload_n 1, 1) := by decide +kernel
theorem d_Mod_advert_5 : decode b_Mod_advert 5 = .ok (.iload_n 2, 1) := by decide +kernel
theorem d_Mod_advert_6 : decode b_Mod_advert 6 = .ok (.iastore, 1) := by decide +kernel
theorem d_Mod_advert_7 : decode b_Mod_advert 7 = .ok (.aload_n 0, 1) := by decide +kernel
theorem d_Mod_advert_8 : decode b_Mod_advert 8 = .ok (.getfield 34, 3) := by decide +kernel
theorem d_Mod_advert_11 : decode b_Mod_advert 11 = .ok (.iload_n 1, 1) := by decide +kernel
theorem d_Mod_advert_12 : decode b_Mod_advert 12 = .ok (.aload_n 0, 1) := by decide +kernel
theorem d_Mod_advert_13 : decode b_Mod_advert 13 = .ok (.getfield 113, 3) := by decide +kernel
theorem d_Mod_advert_16 : decode b_Mod_advert 16 = .ok (.bipush 12, 2) := by decide +kernel
theorem d_Mod_advert_18 : decode b_Mod_advert 18 = .ok (.iadd, 1) := by decide +kernel
theorem d_Mod_advert_19 : decode b_Mod_advert 19 = .ok (.iastore, 1) := by decide +kernel
theorem d_Mod_advert_20 : decode b_Mod_advert 20 = .ok (.aload_n 0, 1) := by decide +kernel
theorem d_Mod_advert_21 : decode b_Mod_advert 21 = .ok (.getfield 25, 3) := by decide +kernel
theorem d_Mod_advert_24 : decode b_Mod_advert 24 = .ok (.iload_n 1, 1) := by decide +kernel
theorem d_Mod_advert_25 : decode b_Mod_advert 25 = .ok (.iaload, 1) := by decide +kernel
theorem d_Mod_advert_26 : decode b_Mod_advert 26 = .ok (.ifCond .le 22, 3) := by decide +kernel
theorem d_Mod_advert_29 : decode b_Mod_advert 29 = .ok (.aload_n 0, 1) := by decide +kernel
theorem d_Mod_advert_30 : decode b_Mod_advert 30 = .ok (.getfield 28, 3) := by decide +kernel
theorem d_Mod_advert_33 : decode b_Mod_advert 33 = .ok (.iload_n 1, 1) := by decide +kernel
theorem d_Mod_advert_34 : decode b_Mod_advert 34 = .ok (.iaload, 1) := by decide +kernel
theorem d_Mod_advert_35 : decode b_Mod_advert 35 = .ok (.aload_n 0, 1) := by decide +kernel
theorem d_Mod_advert_36 : decode b_Mod_advert 36 = .ok (.getfield 113, 3) := by decide +kernel
theorem d_Mod_advert_39 : decode b_Mod_advert 39 = .ok (.iconst 4, 1) := by decide +kernel
theorem d_Mod_advert_40 : decode b_Mod_advert 40 = .ok (.iadd, 1) := by decide +kernel
theorem d_Mod_advert_41 : decode b_Mod_advert 41 = .ok (.if_icmp .gt 7, 3) := by decide +kernel
theorem d_Mod_advert_44 : decode b_Mod_advert 44 = .ok (.iconst 1, 1) := by decide +kernel
theorem d_Mod_advert_45 : decode b_Mod_advert 45 = .ok (.goto 4, 3) := by decide +kernel
theorem d_Mod_advert_48 : decode b_Mod_advert 48 = .ok (.iconst 0, 1) := by decide +kernel
theorem d_Mod_advert_49 : decode b_Mod_advert 49 = .ok (.istore_n 3, 1) := by decide +kernel
theorem d_Mod_advert_50 : decode b_Mod_advert 50 = .ok (.aload_n 0, 1) := by decide +kernel
theorem d_Mod_advert_51 : decode b_Mod_advert 51 = .ok (.getfield 37, 3) := by decide +kernel
theorem d_Mod_advert_54 : decode b_Mod_advert 54 = .ok (.iload_n 1, 1) := by decide +kernel
theorem d_Mod_advert_55 : decode b_Mod_advert 55 = .ok (.iaload, 1) := by decide +kernel
theorem d_Mod_advert_56 : decode b_Mod_advert 56 = .ok (.ifCond .le 17, 3) := by decide +kernel
theorem d_Mod_advert_59 : decode b_Mod_advert 59 = .ok (.aload_n 0, 1) := by decide +kernel
theorem d_Mod_advert_60 : decode b_Mod_advert 60 = .ok (.getfield 40, 3) := by decide +kernel
theorem d_Mod_advert_63 : decode b_Mod_advert 63 = .ok (.iload_n 1, 1) := by decide +kernel
theorem d_Mod_advert_64 : decode b_Mod_advert 64 = .ok (.iaload, 1) := by decide +kernel
theorem d_Mod_advert_65 : decode b_Mod_advert 65 = .ok (.iload_n 2, 1) := by decide +kernel
theorem d_Mod_advert_66 : decode b_Mod_advert 66 = .ok (.if_icmp .ne 7, 3) := by decide +kernel
theorem d_Mod_advert_69 : decode b_Mod_advert 69 = .ok (.iconst 1, 1) := by decide +kernel
theorem d_Mod_advert_70 : decode b_Mod_advert 70 = .ok (.goto 4, 3) := by decide +kernel
theorem d_Mod_advert_73 : decode b_Mod_advert 73 = .ok (.iconst 0, 1) := by decide +kernel
theorem d_Mod_advert_74 : decode b_Mod_advert 74 = .ok (.istore 4, 2) := by decide +kernel
theorem d_Mod_advert_76 : decode b_Mod_advert 76 = .ok (.aload_n 0, 1) := by decide +kernel
theorem d_Mod_advert_77 : decode b_Mod_advert 77 = .ok (.getfield 25, 3) := by decide +kernel
theorem d_Mod_advert_80 : decode b_Mod_advert 80 = .ok (.iload_n 1, 1) := by decide +kernel
theorem d_Mod_advert_81 : decode b_Mod_advert 81 = .ok (.iaload, 1) := by decide +kernel
theorem d_Mod_advert_82 : decode b_Mod_advert 82 = .ok (.iload_n 2, 1) := by decide +kernel
theorem d_Mod_advert_83 : decode b_Mod_advert 83 = .ok (.if_icmp .ne 7, 3) := by decide +kernel
theorem d_Mod_advert_86 : decode b_Mod_advert 86 = .ok (.iload_n 3, 1) := by decide +kernel
theorem d_Mod_advert_87 : decode b_Mod_advert 87 = .ok (.ifCond .eq 14, 3) := by decide +kernel
theorem d_Mod_advert_90 : decode b_Mod_advert 90 = .ok (.iload 4, 2) := by decide +kernel
theorem d_Mod_advert_92 : decode b_Mod_advert 92 = .ok (.ifCond .ne 9, 3) := by decide +kernel
theorem d_Mod_advert_95 : decode b_Mod_advert 95 = .ok (.aload_n 0, 1) := by decide +kernel
theorem d_Mod_advert_96 : decode b_Mod_advert 96 = .ok (.iload_n 1, 1) := by decide +kernel
theorem d_Mod_advert_97 : decode b_Mod_advert 97 = .ok (.iload_n 2, 1) := by decide +kernel
theorem d_Mod_advert_98 : decode b_Mod_advert 98 = .ok (.invokevirtual 116, 3) := by decide +kernel
theorem d_Mod_advert_101 : decode b_Mod_advert 101 = .ok (.return_, 1) := by decide +kernel
theorem d_Mod_replyAtMobile_0 : decode b_Mod_replyAtMobile 0 = .ok (.aload_n 0, 1) := by decide +kernel
theorem d_Mod_replyAtMobile_1 : decode b_Mod_replyAtMobile 1 = .ok (.getfield 37, 3) := by decide +kernel
theorem d_Mod_replyAtMobile_4 : decode b_Mod_replyAtMobile 4 = .ok (.iload_n 1, 1) := by decide +kernel
theorem d_Mod_replyAtMobile_5 : decode b_Mod_replyAtMobile 5 = .ok (.iaload, 1) := by decide +kernel
theorem d_Mod_replyAtMobile_6 : decode b_Mod_replyAtMobile 6 = .ok (.ifCond .eq 18, 3) := by decide +kernel
theorem d_Mod_replyAtMobile_9 : decode b_Mod_replyAtMobile 9 = .ok (.aload_n 0, 1) := by decide +kernel
theorem d_Mod_replyAtMobile_10 : decode b_Mod_replyAtMobile 10 = .ok (.getfield 13, 3) := by decide +kernel
theorem d_Mod_replyAtMobile_13 : decode b_Mod_replyAtMobile 13 = .ok (.iconst 4, 1) := by decide +kernel
theorem d_Mod_replyAtMobile_14 : decode b_Mod_replyAtMobile 14 = .ok (.iaload, 1) := by decide +kernel
theorem d_Mod_replyAtMobile_15 : decode b_Mod_replyAtMobile 15 = .ok (.aload_n 0, 1) := by decide +kernel
theorem d_Mod_replyAtMobile_16 : decode b_Mod_replyAtMobile 16 = .ok (.getfield 37, 3) := by decide +kernel
theorem d_Mod_replyAtMobile_19 : decode b_Mod_replyAtMobile 19 = .ok (.iload_n 1, 1) := by decide +kernel
theorem d_Mod_replyAtMobile_20 : decode b_Mod_replyAtMobile 20 = .ok (.iaload, 1) := by decide +kernel
theorem d_Mod_replyAtMobile_21 : decode b_Mod_replyAtMobile 21 = .ok (.if_icmp .eq 4, 3) := by decide +kernel
theorem d_Mod_replyAtMobile_24 : decode b_Mod_replyAtMobile 24 = .ok (.return_, 1) := by decide +kernel
theorem d_Mod_replyAtMobile_25 : decode b_Mod_replyAtMobile 25 = .ok (.aload_n 0, 1) := by decide +kernel
theorem d_Mod_replyAtMobile_26 : decode b_Mod_replyAtMobile 26 = .ok (.getfield 13, 3) := by decide +kernel
theorem d_Mod_replyAtMobile_29 : decode b_Mod_replyAtMobile 29 = .ok (.bipush 7, 2) := by decide +kernel
theorem d_Mod_replyAtMobile_31 : decode b_Mod_replyAtMobile 31 = .ok (.iaload, 1) := by decide +kernel
theorem d_Mod_replyAtMobile_32 : decode b_Mod_replyAtMobile 32 = .ok (.bipush 66, 2) := by decide +kernel
theorem d_Mod_replyAtMobile_34 : decode b_Mod_replyAtMobile 34 = .ok (.if_icmp .ne 11, 3) := by decide +kernel
theorem d_Mod_replyAtMobile_37 : decode b_Mod_replyAtMobile 37 = .ok (.aload_n 0, 1) := by decide +kernel
theorem d_Mod_replyAtMobile_38 : decode b_Mod_replyAtMobile 38 = .ok (.getfield 37, 3) := by decide +kernel
theorem d_Mod_replyAtMobile_41 : decode b_Mod_replyAtMobile 41 = .ok (.iload_n 1, 1) := by decide +kernel
theorem d_Mod_replyAtMobile_42 : decode b_Mod_replyAtMobile 42 = .ok (.iconst 0, 1) := by decide +kernel
theorem d_Mod_replyAtMobile_43 : decode b_Mod_replyAtMobile 43 = .ok (.iastore, 1) := by decide +kernel
theorem d_Mod_replyAtMobile_44 : decode b_Mod_replyAtMobile 44 = .ok (.return_, 1) := by decide +kernel
theorem d_Mod_replyAtMobile_45 : decode b_Mod_replyAtMobile 45 = .ok (.aload_n 0, 1) := by decide +kernel
theorem d_Mod_replyAtMobile_46 : decode b_Mod_replyAtMobile 46 = .ok (.getfield 13, 3) := by decide +kernel
theorem d_Mod_replyAtMobile_49 : decode b_Mod_replyAtMobile 49 = .ok (.bipush 8, 2) := by decide +kernel
theorem d_Mod_replyAtMobile_51 : decode b_Mod_replyAtMobile 51 = .ok (.iaload, 1) := by decide +kernel
theorem d_Mod_replyAtMobile_52 : decode b_Mod_replyAtMobile 52 = .ok (.aload_n 0, 1) := by decide +kernel
theorem d_Mod_replyAtMobile_53 : decode b_Mod_replyAtMobile 53 = .ok (.getfield 19, 3) := by decide +kernel
theorem d_Mod_replyAtMobile_56 : decode b_Mod_replyAtMobile 56 = .ok (.iload_n 1, 1) := by decide +kernel
theorem d_Mod_replyAtMobile_57 : decode b_Mod_replyAtMobile 57 = .ok (.iaload, 1) := by decide +kernel
theorem d_Mod_replyAtMobile_58 : decode b_Mod_replyAtMobile 58 = .ok (.iload_n 1, 1) := by decide +kernel
theorem d_Mod_replyAtMobile_59 : decode b_Mod_replyAtMobile 59 = .ok (.aload_n 0, 1) := by decide +kernel
theorem d_Mod_replyAtMobile_60 : decode b_Mod_replyAtMobile 60 = .ok (.getfield 13, 3) := by decide +kernel
theorem d_Mod_replyAtMobile_63 : decode b_Mod_replyAtMobile 63 = .ok (.iconst 5, 1) := by decide +kernel
theorem d_Mod_replyAtMobile_64 : decode b_Mod_replyAtMobile 64 = .ok (.iaload, 1) := by decide +kernel
theorem d_Mod_replyAtMobile_65 : decode b_Mod_replyAtMobile 65 = .ok (.aload_n 0, 1) := by decide +kernel
theorem d_Mod_replyAtMobile_66 : decode b_Mod_replyAtMobile 66 = .ok (.getfield 13, 3) := by decide +kernel
theorem d_Mod_replyAtMobile_69 : decode b_Mod_replyAtMobile 69 = .ok (.bipush 7, 2) := by decide +kernel
theorem d_Mod_replyAtMobile_71 : decode b_Mod_replyAtMobile 71 = .ok (.iaload, 1) := by decide +kernel
theorem d_Mod_replyAtMobile_72 : decode b_Mod_replyAtMobile 72 = .ok (.aload_n 0, 1) := by decide +kernel
theorem d_Mod_replyAtMobile_73 : decode b_Mod_replyAtMobile 73 = .ok (.getfield 13, 3) := by decide +kernel
theorem d_Mod_replyAtMobile_76 : decode b_Mod_replyAtMobile 76 = .ok (.bipush 6, 2) := by decide +kernel
theorem d_Mod_replyAtMobile_78 : decode b_Mod_replyAtMobile 78 = .ok (.iaload, 1) := by decide +kernel
theorem d_Mod_replyAtMobile_79 : decode b_Mod_replyAtMobile 79 = .ok (.aload_n 0, 1) := by decide +kernel
theorem d_Mod_replyAtMobile_80 : decode b_Mod_replyAtMobile 80 = .ok (.getfield 13, 3) := by decide +kernel
theorem d_Mod_replyAtMobile_83 : decode b_Mod_replyAtMobile 83 = .ok (.iconst 4, 1) := by decide +kernel
theorem d_Mod_replyAtMobile_84 : decode b_Mod_replyAtMobile 84 = .ok (.iaload, 1) := by decide +kernel
theorem d_Mod_replyAtMobile_85 : decode b_Mod_replyAtMobile 85 = .ok (.invokestatic 120, 3) := by decide +kernel
theorem d_Mod_replyAtMobile_88 : decode b_Mod_replyAtMobile 88 = .ok (.if_icmp .eq 4, 3) := by decide +kernel
theorem d_Mod_replyAtMobile_91 : decode b_Mod_replyAtMobile 91 = .ok (.return_, 1) := by decide +kernel
theorem d_Mod_replyAtMobile_92 : decode b_Mod_replyAtMobile 92 = .ok (.aload_n 0, 1) := by decide +kernel
theorem d_Mod_replyAtMobile_93 : decode b_Mod_replyAtMobile 93 = .ok (.getfield 37, 3) := by decide +kernel
theorem d_Mod_replyAtMobile_96 : decode b_Mod_replyAtMobile 96 = .ok (.iload_n 1, 1) := by decide +kernel
theorem d_Mod_replyAtMobile_97 : decode b_Mod_replyAtMobile 97 = .ok (.iconst 0, 1) := by decide +kernel
theorem d_Mod_replyAtMobile_98 : decode b_Mod_replyAtMobile 98 = .ok (.iastore, 1) := by decide +kernel
theorem d_Mod_replyAtMobile_99 : decode b_Mod_replyAtMobile 99 = .ok (.aload_n 0, 1) := by decide +kernel
theorem d_Mod_replyAtMobile_100 : decode b_Mod_replyAtMobile 100 = .ok (.getfield 13, 3) := by decide +kernel
theorem d_Mod_replyAtMobile_103 : decode b_Mod_replyAtMobile 103 = .ok (.bipush 7, 2) := by decide +kernel
theorem d_Mod_replyAtMobile_105 : decode b_Mod_replyAtMobile 105 = .ok (.iaload, 1) := by decide +kernel
theorem d_Mod_replyAtMobile_106 : decode b_Mod_replyAtMobile 106 = .ok (.ifCond .ne 49, 3) := by decide +kernel
theorem d_Mod_replyAtMobile_109 : decode b_Mod_replyAtMobile 109 = .ok (.aload_n 0, 1) := by decide +kernel
theorem d_Mod_replyAtMobile_110 : decode b_Mod_replyAtMobile 110 = .ok (.getfield 25, 3) := by decide +kernel
theorem d_Mod_replyAtMobile_113 : decode b_Mod_replyAtMobile 113 = .ok (.iload_n 1, 1) := by decide +kernel
theorem d_Mod_replyAtMobile_114 : decode b_Mod_replyAtMobile 114 = .ok (.aload_n 0, 1) := by decide +kernel
theorem d_Mod_replyAtMobile_115 : decode b_Mod_replyAtMobile 115 = .ok (.getfield 13, 3) := by decide +kernel
theorem d_Mod_replyAtMobile_118 : decode b_Mod_replyAtMobile 118 = .ok (.iconst 5, 1) := by decide +kernel
theorem d_Mod_replyAtMobile_119 : decode b_Mod_replyAtMobile 119 = .ok (.iaload, 1) := by decide +kernel
theorem d_Mod_replyAtMobile_120 : decode b_Mod_replyAtMobile 120 = .ok (.iastore, 1) := by decide +kernel
theorem d_Mod_replyAtMobile_121 : decode b_Mod_replyAtMobile 121 = .ok (.aload_n 0, 1) := by decide +kernel
theorem d_Mod_replyAtMobile_122 : decode b_Mod_replyAtMobile 122 = .ok (.getfield 28, 3) := by decide +kernel
theorem d_Mod_replyAtMobile_125 : decode b_Mod_replyAtMobile 125 = .ok (.iload_n 1, 1) := by decide +kernel
theorem d_Mod_replyAtMobile_126 : decode b_Mod_replyAtMobile 126 = .ok (.aload_n 0, 1) := by decide +kernel
theorem d_Mod_replyAtMobile_127 : decode b_Mod_replyAtMobile 127 = .ok (.getfield 13, 3) := by decide +kernel
theorem d_Mod_replyAtMobile_130 : decode b_Mod_replyAtMobile 130 = .ok (.iconst 5, 1) := by decide +kernel
theorem d_Mod_replyAtMobile_131 : decode b_Mod_replyAtMobile 131 = .ok (.iaload, 1) := by decide +kernel
theorem d_Mod_replyAtMobile_132 : decode b_Mod_replyAtMobile 132 = .ok (.ifCond .ne 8, 3) := by decide +kernel
theorem d_Mod_replyAtMobile_135 : decode b_Mod_replyAtMobile 135 = .ok (.ldc 92, 2) := by decide +kernel
theorem d_Mod_replyAtMobile_137 : decode b_Mod_replyAtMobile 137 = .ok (.goto 17, 3) := by decide +kernel
theorem d_Mod_replyAtMobile_140 : decode b_Mod_replyAtMobile 140 = .ok (.aload_n 0, 1) := by decide +kernel
theorem d_Mod_replyAtMobile_141 : decode b_Mod_replyAtMobile 141 = .ok (.getfield 43, 3) := by decide +kernel
theorem d_Mod_replyAtMobile_144 : decode b_Mod_replyAtMobile 144 = .ok (.iload_n 1, 1) := by decide +kernel
theorem d_Mod_replyAtMobile_145 : decode b_Mod_replyAtMobile 145 = .ok (.iaload, 1) := by decide +kernel
theorem d_Mod_replyAtMobile_146 : decode b_Mod_replyAtMobile 146 = .ok (.aload_n 0, 1) := by decide +kernel
theorem d_Mod_replyAtMobile_147 : decode b_Mod_replyAtMobile 147 = .ok (.getfield 13, 3) := by decide +kernel
theorem d_Mod_replyAtMobile_150 : decode b_Mod_replyAtMobile 150 = .ok (.bipush 6, 2) := by decide +kernel
theorem d_Mod_replyAtMobile_152 : decode b_Mod_replyAtMobile 152 = .ok (.iaload, 1) := by decide +kernel
theorem d_Mod_replyAtMobile_153 : decode b_Mod_replyAtMobile 153 = .ok (.iadd, 1) := by decide +kernel
theorem d_Mod_replyAtMobile_154 : decode b_Mod_replyAtMobile 154 = .ok (.iastore, 1) := by decide +kernel
theorem d_Mod_replyAtMobile_155 : decode b_Mod_replyAtMobile 155 = .ok (.return_, 1) := by decide +kernel
theorem d_Mod_dataAtMobile_0 : decode b_Mod_dataAtMobile 0 = .ok (.aload_n 0, 1) := by decide +kernel
theorem d_Mod_dataAtMobile_1 : decode b_Mod_dataAtMobile 1 = .ok (.getfield 46, 3) := by decide +kernel
theorem d_Mod_dataAtMobile_4 : decode b_Mod_dataAtMobile 4 = .ok (.iload_n 1, 1) := by decide +kernel
theorem d_Mod_dataAtMobile_5 : decode b_Mod_dataAtMobile 5 = .ok (.aload_n 0, 1) := by decide +kernel
theorem d_Mod_dataAtMobile_6 : decode b_Mod_dataAtMobile 6 = .ok (.getfield 13, 3) := by decide +kernel
theorem d_Mod_dataAtMobile_9 : decode b_Mod_dataAtMobile 9 = .ok (.iconst 4, 1) := by decide +kernel
theorem d_Mod_dataAtMobile_10 : decode b_Mod_dataAtMobile 10 = .ok (.iaload, 1) := by decide +kernel
theorem d_Mod_dataAtMobile_11 : decode b_Mod_dataAtMobile 11 = .ok (.aload_n 0, 1) := by decide +kernel
theorem d_Mod_dataAtMobile_12 : decode b_Mod_dataAtMobile 12 = .ok (.getfield 46, 3) := by decide +kernel
theorem d_Mod_dataAtMobile_15 : decode b_Mod_dataAtMobile 15 = .ok (.iload_n 1, 1) := by decide +kernel
theorem d_Mod_dataAtMobile_16 : decode b_Mod_dataAtMobile 16 = .ok (.iaload, 1) := by decide +kernel
theorem d_Mod_dataAtMobile_17 : decode b_Mod_dataAtMobile 17 = .ok (.iconst 1, 1) := by decide +kernel
theorem d_Mod_dataAtMobile_18 : decode b_Mod_dataAtMobile 18 = .ok (.iadd, 1) := by decide +kernel
theorem d_Mod_dataAtMobile_19 : decode b_Mod_dataAtMobile 19 = .ok (.if_icmp .ne 12, 3) := by decide +kernel
theorem d_Mod_dataAtMobile_22 : decode b_Mod_dataAtMobile 22 = .ok (.aload_n 0, 1) := by decide +kernel
theorem d_Mod_dataAtMobile_23 : decode b_Mod_dataAtMobile 23 = .ok (.getfield 13, 3) := by decide +kernel
theorem d_Mod_dataAtMobile_26 : decode b_Mod_dataAtMobile 26 = .ok (.iconst 4, 1) := by decide +kernel
theorem d_Mod_dataAtMobile_27 : decode b_Mod_dataAtMobile 27 = .ok (.iaload, 1) := by decide +kernel
theorem d_Mod_dataAtMobile_28 : decode b_Mod_dataAtMobile 28 = .ok (.goto 9, 3) := by decide +kernel
theorem d_Mod_dataAtMobile_31 : decode b_Mod_dataAtMobile 31 = .ok (.aload_n 0, 1) := by decide +kernel
theorem d_Mod_dataAtMobile_32 : decode b_Mod_dataAtMobile 32 = .ok (.getfield 46, 3) := by decide +kernel
theorem d_Mod_dataAtMobile_35 : decode b_Mod_dataAtMobile 35 = .ok (.iload_n 1, 1) := by decide +kernel
theorem d_Mod_dataAtMobile_36 : decode b_Mod_dataAtMobile 36 = .ok (.iaload, 1) := by decide +kernel
theorem d_Mod_dataAtMobile_37 : decode b_Mod_dataAtMobile 37 = .ok (.iastore, 1) := by decide +kernel
theorem d_Mod_dataAtMobile_38 : decode b_Mod_dataAtMobile 38 = .ok (.aload_n 0, 1) := by decide +kernel
theorem d_Mod_dataAtMobile_39 : decode b_Mod_dataAtMobile 39 = .ok (.bipush 6, 2) := by decide +kernel
theorem d_Mod_dataAtMobile_41 : decode b_Mod_dataAtMobile 41 = .ok (.iconst 4, 1) := by decide +kernel
theorem d_Mod_dataAtMobile_42 : decode b_Mod_dataAtMobile 42 = .ok (.iload_n 1, 1) := by decide +kernel
theorem d_Mod_dataAtMobile_43 : decode b_Mod_dataAtMobile 43 = .ok (.iconst 0, 1) := by decide +kernel
theorem d_Mod_dataAtMobile_44 : decode b_Mod_dataAtMobile 44 = .ok (.aload_n 0, 1) := by decide +kernel
theorem d_Mod_dataAtMobile_45 : decode b_Mod_dataAtMobile 45 = .ok (.getfield 46, 3) := by decide +kernel
theorem d_Mod_dataAtMobile_48 : decode b_Mod_dataAtMobile 48 = .ok (.iload_n 1, 1) := by decide +kernel
theorem d_Mod_dataAtMobile_49 : decode b_Mod_dataAtMobile 49 = .ok (.iaload, 1) := by decide +kernel
theorem d_Mod_dataAtMobile_50 : decode b_Mod_dataAtMobile 50 = .ok (.iconst 0, 1) := by decide +kernel
theorem d_Mod_dataAtMobile_51 : decode b_Mod_dataAtMobile 51 = .ok (.iconst 0, 1) := by decide +kernel
theorem d_Mod_dataAtMobile_52 : decode b_Mod_dataAtMobile 52 = .ok (.iconst 0, 1) := by decide +kernel
theorem d_Mod_dataAtMobile_53 : decode b_Mod_dataAtMobile 53 = .ok (.iconst 0, 1) := by decide +kernel
theorem d_Mod_dataAtMobile_54 : decode b_Mod_dataAtMobile 54 = .ok (.invokevirtual 109, 3) := by decide +kernel
theorem d_Mod_dataAtMobile_57 : decode b_Mod_dataAtMobile 57 = .ok (.return_, 1) := by decide +kernel
theorem d_Mod_requestAtHome_0 : decode b_Mod_requestAtHome 0 = .ok (.aload_n 0, 1) := by decide +kernel
theorem d_Mod_requestAtHome_1 : decode b_Mod_requestAtHome 1 = .ok (.getfield 13, 3) := by decide +kernel
theorem d_Mod_requestAtHome_4 : decode b_Mod_requestAtHome 4 = .ok (.bipush 8, 2) := by decide +kernel
theorem d_Mod_requestAtHome_6 : decode b_Mod_requestAtHome 6 = .ok (.iaload, 1) := by decide +kernel
theorem d_Mod_requestAtHome_7 : decode b_Mod_requestAtHome 7 = .ok (.aload_n 0, 1) := by decide +kernel
theorem d_Mod_requestAtHome_8 : decode b_Mod_requestAtHome 8 = .ok (.getfield 49, 3) := by decide +kernel
theorem d_Mod_requestAtHome_11 : decode b_Mod_requestAtHome 11 = .ok (.iload_n 1, 1) := by decide +kernel
theorem d_Mod_requestAtHome_12 : decode b_Mod_requestAtHome 12 = .ok (.iaload, 1) := by decide +kernel
theorem d_Mod_requestAtHome_13 : decode b_Mod_requestAtHome 13 = .ok (.iload_n 1, 1) := by decide +kernel
theorem d_Mod_requestAtHome_14 : decode b_Mod_requestAtHome 14 = .ok (.aload_n 0, 1) := by decide +kernel
theorem d_Mod_requestAtHome_15 : decode b_Mod_requestAtHome 15 = .ok (.getfield 13, 3) := by decide +kernel
theorem d_Mod_requestAtHome_18 : decode b_Mod_requestAtHome 18 = .ok (.iconst 5, 1) := by decide +kernel
theorem d_Mod_requestAtHome_19 : decode b_Mod_requestAtHome 19 = .ok (.iaload, 1) := by decide +kernel
theorem d_Mod_requestAtHome_20 : decode b_Mod_requestAtHome 20 = .ok (.aload_n 0, 1) := by decide +kernel
theorem d_Mod_requestAtHome_21 : decode b_Mod_requestAtHome 21 = .ok (.getfield 13, 3) := by decide +kernel
theorem d_Mod_requestAtHome_24 : decode b_Mod_requestAtHome 24 = .ok (.bipush 6, 2) := by decide +kernel
theorem d_Mod_requestAtHome_26 : decode b_Mod_requestAtHome 26 = .ok (.iaload, 1) := by decide +kernel
theorem d_Mod_requestAtHome_27 : decode b_Mod_requestAtHome 27 = .ok (.aload_n 0, 1) := by decide +kernel
theorem d_Mod_requestAtHome_28 : decode b_Mod_requestAtHome 28 = .ok (.getfield 13, 3) := by decide +kernel
theorem d_Mod_requestAtHome_31 : decode b_Mod_requestAtHome 31 = .ok (.iconst 4, 1) := by decide +kernel
theorem d_Mod_requestAtHome_32 : decode b_Mod_requestAtHome 32 = .ok (.iaload, 1) := by decide +kernel
theorem d_Mod_requestAtHome_33 : decode b_Mod_requestAtHome 33 = .ok (.invokestatic 105, 3) := by decide +kernel
theorem d_Mod_requestAtHome_36 : decode b_Mod_requestAtHome 36 = .ok (.if_icmp .ne 7, 3) := by decide +kernel
theorem d_Mod_requestAtHome_39 : decode b_Mod_requestAtHome 39 = .ok (.iconst 1, 1) := by decide +kernel
theorem d_Mod_requestAtHome_40 : decode b_Mod_requestAtHome 40 = .ok (.goto 4, 3) := by decide +kernel
theorem d_Mod_requestAtHome_43 : decode b_Mod_requestAtHome 43 = .ok (.iconst 0, 1) := by decide +kernel
theorem d_Mod_requestAtHome_44 : decode b_Mod_requestAtHome 44 = .ok (.istore_n 2, 1) := by decide +kernel
theorem d_Mod_requestAtHome_45 : decode b_Mod_requestAtHome 45 = .ok (.iload_n 2, 1) := by decide +kernel
theorem d_Mod_requestAtHome_46 : decode b_Mod_requestAtHome 46 = .ok (.ifCond .ne 9, 3) := by decide +kernel
theorem d_Mod_requestAtHome_49 : decode b_Mod_requestAtHome 49 = .ok (.sipush 131, 3) := by decide +kernel
theorem d_Mod_requestAtHome_52 : decode b_Mod_requestAtHome 52 = .ok (.goto 25, 3) := by decide +kernel
theorem d_Mod_requestAtHome_55 : decode b_Mod_requestAtHome 55 = .ok (.aload_n 0, 1) := by decide +kernel
theorem d_Mod_requestAtHome_56 : decode b_Mod_requestAtHome 56 = .ok (.getfield 13, 3) := by decide +kernel
theorem d_Mod_requestAtHome_59 : decode b_Mod_requestAtHome 59 = .ok (.iconst 4, 1) := by decide +kernel
theorem d_Mod_requestAtHome_60 : decode b_Mod_requestAtHome 60 = .ok (.iaload, 1) := by decide +kernel
theorem d_Mod_requestAtHome_61 : decode b_Mod_requestAtHome 61 = .ok (.aload_n 0, 1) := by decide +kernel
theorem d_Mod_requestAtHome_62 : decode b_Mod_requestAtHome 62 = .ok (.getfield 52, 3) := by decide +kernel
theorem d_Mod_requestAtHome_65 : decode b_Mod_requestAtHome 65 = .ok (.iload_n 1, 1) := by decide +kernel
theorem d_Mod_requestAtHome_66 : decode b_Mod_requestAtHome 66 = .ok (.iaload, 1) := by decide +kernel
theorem d_Mod_requestAtHome_67 : decode b_Mod_requestAtHome 67 = .ok (.if_icmp .gt 9, 3) := by decide +kernel
theorem d_Mod_requestAtHome_70 : decode b_Mod_requestAtHome 70 = .ok (.sipush 133, 3) := by decide +kernel
theorem d_Mod_requestAtHome_73 : decode b_Mod_requestAtHome 73 = .ok (.goto 4, 3) := by decide +kernel
theorem d_Mod_requestAtHome_76 : decode b_Mod_requestAtHome 76 = .ok (.iconst 0, 1) := by decide +kernel
theorem d_Mod_requestAtHome_77 : decode b_Mod_requestAtHome 77 = .ok (.istore_n 3, 1) := by decide +kernel
theorem d_Mod_requestAtHome_78 : decode b_Mod_requestAtHome 78 = .ok (.iload_n 3, 1) := by decide +kernel
theorem d_Mod_requestAtHome_79 : decode b_Mod_requestAtHome 79 = .ok (.ifCond .eq 7, 3) := by decide +kernel
theorem d_Mod_requestAtHome_82 : decode b_Mod_requestAtHome 82 = .ok (.iconst 0, 1) := by decide +kernel
theorem d_Mod_requestAtHome_83 : decode b_Mod_requestAtHome 83 = .ok (.goto 31, 3) := by decide +kernel
theorem d_Mod_requestAtHome_86 : decode b_Mod_requestAtHome 86 = .ok (.aload_n 0, 1) := by decide +kernel
theorem d_Mod_requestAtHome_87 : decode b_Mod_requestAtHome 87 = .ok (.getfield 13, 3) := by decide +kernel
theorem d_Mod_requestAtHome_90 : decode b_Mod_requestAtHome 90 = .ok (.bipush 6, 2) := by decide +kernel
theorem d_Mod_requestAtHome_92 : decode b_Mod_requestAtHome 92 = .ok (.iaload, 1) := by decide +kernel
theorem d_Mod_requestAtHome_93 : decode b_Mod_requestAtHome 93 = .ok (.aload_n 0, 1) := by decide +kernel
theorem d_Mod_requestAtHome_94 : decode b_Mod_requestAtHome 94 = .ok (.getfield 86, 3) := by decide +kernel
theorem d_Mod_requestAtHome_97 : decode b_Mod_requestAtHome 97 = .ok (.if_icmp .ge 13, 3) := by decide +kernel
theorem d_Mod_requestAtHome_100 : decode b_Mod_requestAtHome 100 = .ok (.aload_n 0, 1) := by decide +kernel
theorem d_Mod_requestAtHome_101 : decode b_Mod_requestAtHome 101 = .ok (.getfield 13, 3) := by decide +kernel
theorem d_Mod_requestAtHome_104 : decode b_Mod_requestAtHome 104 = .ok (.bipush 6, 2) := by decide +kernel
theorem d_Mod_requestAtHome_106 : decode b_Mod_requestAtHome 106 = .ok (.iaload, 1) := by decide +kernel
theorem d_Mod_requestAtHome_107 : decode b_Mod_requestAtHome 107 = .ok (.goto 7, 3) := by decide +kernel
theorem d_Mod_requestAtHome_110 : decode b_Mod_requestAtHome 110 = .ok (.aload_n 0, 1) := by decide +kernel
theorem d_Mod_requestAtHome_111 : decode b_Mod_requestAtHome 111 = .ok (.getfield 86, 3) := by decide +kernel
theorem d_Mod_requestAtHome_114 : decode b_Mod_requestAtHome 114 = .ok (.istore 4, 2) := by decide +kernel
theorem d_Mod_requestAtHome_116 : decode b_Mod_requestAtHome 116 = .ok (.iload_n 3, 1) := by decide +kernel
theorem d_Mod_requestAtHome_117 : decode b_Mod_requestAtHome 117 = .ok (.ifCond .ne 54, 3) := by decide +kernel
theorem d_Mod_requestAtHome_120 : decode b_Mod_requestAtHome 120 = .ok (.aload_n 0, 1) := by decide +kernel
theorem d_Mod_requestAtHome_121 : decode b_Mod_requestAtHome 121 = .ok (.getfield 52, 3) := by decide +kernel
theorem d_Mod_requestAtHome_124 : decode b_Mod_requestAtHome 124 = .ok (.iload_n 1, 1) := by decide +kernel
theorem d_Mod_requestAtHome_125 : decode b_Mod_requestAtHome 125 = .ok (.aload_n 0, 1) := by decide +kernel
theorem d_Mod_requestAtHome_126 : decode b_Mod_requestAtHome 126 = .ok (.getfield 13, 3) := by decide +kernel
theorem d_Mod_requestAtHome_129 : decode b_Mod_requestAtHome 129 = .ok (.iconst 4, 1) := by decide +kernel
theorem d_Mod_requestAtHome_130 : decode b_Mod_requestAtHome 130 = .ok (.iaload, 1) := by decide +kernel
theorem d_Mod_requestAtHome_131 : decode b_Mod_requestAtHome 131 = .ok (.iastore, 1) := by decide +kernel
theorem d_Mod_requestAtHome_132 : decode b_Mod_requestAtHome 132 = .ok (.aload_n 0, 1) := by decide +kernel
theorem d_Mod_requestAtHome_133 : decode b_Mod_requestAtHome 133 = .ok (.getfield 55, 3) := by decide +kernel
theorem d_Mod_requestAtHome_136 : decode b_Mod_requestAtHome 136 = .ok (.iload_n 1, 1) := by decide +kernel
theorem d_Mod_requestAtHome_137 : decode b_Mod_requestAtHome 137 = .ok (.aload_n 0, 1) := by decide +kernel
theorem d_Mod_requestAtHome_138 : decode b_Mod_requestAtHome 138 = .ok (.getfield 13, 3) := by decide +kernel
theorem d_Mod_requestAtHome_141 : decode b_Mod_requestAtHome 141 = .ok (.iconst 5, 1) := by decide +kernel
theorem d_Mod_requestAtHome_142 : decode b_Mod_requestAtHome 142 = .ok (.iaload, 1) := by decide +kernel
theorem d_Mod_requestAtHome_143 : decode b_Mod_requestAtHome 143 = .ok (.iastore, 1) := by decide +kernel
theorem d_Mod_requestAtHome_144 : decode b_Mod_requestAtHome 144 = .ok (.aload_n 0, 1) := by decide +kernel
theorem d_Mod_requestAtHome_145 : decode b_Mod_requestAtHome 145 = .ok (.getfield 58, 3) := by decide +kernel
theorem d_Mod_requestAtHome_148 : decode b_Mod_requestAtHome 148 = .ok (.iload_n 1, 1) := by decide +kernel
theorem d_Mod_requestAtHome_149 : decode b_Mod_requestAtHome 149 = .ok (.aload_n 0, 1) := by decide +kernel
theorem d_Mod_requestAtHome_150 : decode b_Mod_requestAtHome 150 = .ok (.getfield 13, 3) := by decide +kernel
theorem d_Mod_requestAtHome_153 : decode b_Mod_requestAtHome 153 = .ok (.bipush 6, 2) := by decide +kernel
theorem d_Mod_requestAtHome_155 : decode b_Mod_requestAtHome 155 = .ok (.iaload, 1) := by decide +kernel
theorem d_Mod_requestAtHome_156 : decode b_Mod_requestAtHome 156 = .ok (.ifCond .ne 7, 3) := by decide +kernel
theorem d_Mod_requestAtHome_159 : decode b_Mod_requestAtHome 159 = .ok (.iconst 0, 1) := by decide +kernel
theorem d_Mod_requestAtHome_160 : decode b_Mod_requestAtHome 160 = .ok (.goto 10, 3) := by decide +kernel
theorem d_Mod_requestAtHome_163 : decode b_Mod_requestAtHome 163 = .ok (.aload_n 0, 1) := by decide +kernel
theorem d_Mod_requestAtHome_164 : decode b_Mod_requestAtHome 164 = .ok (.getfield 113, 3) := by decide +kernel
theorem d_Mod_requestAtHome_167 : decode b_Mod_requestAtHome 167 = .ok (.iload 4, 2) := by decide +kernel
theorem d_Mod_requestAtHome_169 : decode b_Mod_requestAtHome 169 = .ok (.iadd, 1) := by decide +kernel
theorem d_Mod_requestAtHome_170 : decode b_Mod_requestAtHome 170 = .ok (.iastore, 1) := by decide +kernel
theorem d_Mod_requestAtHome_171 : decode b_Mod_requestAtHome 171 = .ok (.aload_n 0, 1) := by decide +kernel
theorem d_Mod_requestAtHome_172 : decode b_Mod_requestAtHome 172 = .ok (.getfield 49, 3) := by decide +kernel
theorem d_Mod_requestAtHome_175 : decode b_Mod_requestAtHome 175 = .ok (.iload_n 1, 1) := by decide +kernel
theorem d_Mod_requestAtHome_176 : decode b_Mod_requestAtHome 176 = .ok (.iaload, 1) := by decide +kernel
theorem d_Mod_requestAtHome_177 : decode b_Mod_requestAtHome 177 = .ok (.iload_n 1, 1) := by decide +kernel
theorem d_Mod_requestAtHome_178 : decode b_Mod_requestAtHome 178 = .ok (.aload_n 0, 1) := by decide +kernel
theorem d_Mod_requestAtHome_179 : decode b_Mod_requestAtHome 179 = .ok (.getfield 13, 3) := by decide +kernel
theorem d_Mod_requestAtHome_182 : decode b_Mod_requestAtHome 182 = .ok (.iconst 5, 1) := by decide +kernel
theorem d_Mod_requestAtHome_183 : decode b_Mod_requestAtHome 183 = .ok (.iaload, 1) := by decide +kernel
theorem d_Mod_requestAtHome_184 : decode b_Mod_requestAtHome 184 = .ok (.iload_n 3, 1) := by decide +kernel
theorem d_Mod_requestAtHome_185 : decode b_Mod_requestAtHome 185 = .ok (.iload 4, 2) := by decide +kernel
theorem d_Mod_requestAtHome_187 : decode b_Mod_requestAtHome 187 = .ok (.aload_n 0, 1) := by decide +kernel
theorem d_Mod_requestAtHome_188 : decode b_Mod_requestAtHome 188 = .ok (.getfield 13, 3) := by decide +kernel
theorem d_Mod_requestAtHome_191 : decode b_Mod_requestAtHome 191 = .ok (.iconst 4, 1) := by decide +kernel
theorem d_Mod_requestAtHome_192 : decode b_Mod_requestAtHome 192 = .ok (.iaload, 1) := by decide +kernel
theorem d_Mod_requestAtHome_193 : decode b_Mod_requestAtHome 193 = .ok (.invokestatic 120, 3) := by decide +kernel
theorem d_Mod_requestAtHome_196 : decode b_Mod_requestAtHome 196 = .ok (.istore 5, 2) := by decide +kernel
theorem d_Mod_requestAtHome_198 : decode b_Mod_requestAtHome 198 = .ok (.aload_n 0, 1) := by decide +kernel
theorem d_Mod_requestAtHome_199 : decode b_Mod_requestAtHome 199 = .ok (.iconst 3, 1) := by decide +kernel
theorem d_Mod_requestAtHome_200 : decode b_Mod_requestAtHome 200 = .ok (.aload_n 0, 1) := by decide +kernel
theorem d_Mod_requestAtHome_201 : decode b_Mod_requestAtHome 201 = .ok (.getfield 13, 3) := by decide +kernel
theorem d_Mod_requestAtHome_204 : decode b_Mod_requestAtHome 204 = .ok (.iconst 5, 1) := by decide +kernel
theorem d_Mod_requestAtHome_205 : decode b_Mod_requestAtHome 205 = .ok (.iaload, 1) := by decide +kernel
theorem d_Mod_requestAtHome_206 : decode b_Mod_requestAtHome 206 = .ok (.ifCond .ne 7, 3) := by decide +kernel
theorem d_Mod_requestAtHome_209 : decode b_Mod_requestAtHome 209 = .ok (.iconst 5, 1) := by decide +kernel
theorem d_Mod_requestAtHome_210 : decode b_Mod_requestAtHome 210 = .ok (.goto 9, 3) := by decide +kernel
theorem d_Mod_requestAtHome_213 : decode b_Mod_requestAtHome 213 = .ok (.aload_n 0, 1) := by decide +kernel
theorem d_Mod_requestAtHome_214 : decode b_Mod_requestAtHome 214 = .ok (.getfield 13, 3) := by decide +kernel
theorem d_Mod_requestAtHome_217 : decode b_Mod_requestAtHome 217 = .ok (.iconst 5, 1) := by decide +kernel
theorem d_Mod_requestAtHome_218 : decode b_Mod_requestAtHome 218 = .ok (.iaload, 1) := by decide +kernel
theorem d_Mod_requestAtHome_219 : decode b_Mod_requestAtHome 219 = .ok (.iload_n 1, 1) := by decide +kernel
theorem d_Mod_requestAtHome_220 : decode b_Mod_requestAtHome 220 = .ok (.iconst 0, 1) := by decide +kernel
theorem d_Mod_requestAtHome_221 : decode b_Mod_requestAtHome 221 = .ok (.aload_n 0, 1) := by decide +kernel
theorem d_Mod_requestAtHome_222 : decode b_Mod_requestAtHome 222 = .ok (.getfield 13, 3) := by decide +kernel
theorem d_Mod_requestAtHome_225 : decode b_Mod_requestAtHome 225 = .ok (.iconst 4, 1) := by decide +kernel
theorem d_Mod_requestAtHome_226 : decode b_Mod_requestAtHome 226 = .ok (.iaload, 1) := by decide +kernel
theorem d_Mod_requestAtHome_227 : decode b_Mod_requestAtHome 227 = .ok (.aload_n 0, 1) := by decide +kernel
theorem d_Mod_requestAtHome_228 : decode b_Mod_requestAtHome 228 = .ok (.getfield 13, 3) := by decide +kernel
theorem d_Mod_requestAtHome_231 : decode b_Mod_requestAtHome 231 = .ok (.iconst 5, 1) := by decide +kernel
theorem d_Mod_requestAtHome_232 : decode b_Mod_requestAtHome 232 = .ok (.iaload, 1) := by decide +kernel
theorem d_Mod_requestAtHome_233 : decode b_Mod_requestAtHome 233 = .ok (.iload 4, 2) := by decide +kernel
theorem d_Mod_requestAtHome_235 : decode b_Mod_requestAtHome 235 = .ok (.iload_n 3, 1) := by decide +kernel
theorem d_Mod_requestAtHome_236 : decode b_Mod_requestAtHome 236 = .ok (.iload 5, 2) := by decide +kernel
theorem d_Mod_requestAtHome_238 : decode b_Mod_requestAtHome 238 = .ok (.invokevirtual 109, 3) := by decide +kernel
theorem d_Mod_requestAtHome_241 : decode b_Mod_requestAtHome 241 = .ok (.return_, 1) := by decide +kernel
theorem d_Mod_dataAtHome_0 : decode b_Mod_dataAtHome 0 = .ok (.aload_n 0, 1) := by decide +kernel
theorem d_Mod_dataAtHome_1 : decode b_Mod_dataAtHome 1 = .ok (.getfield 113, 3) := by decide +kernel
theorem d_Mod_dataAtHome_4 : decode b_Mod_dataAtHome 4 = .ok (.aload_n 0, 1) := by decide +kernel
theorem d_Mod_dataAtHome_5 : decode b_Mod_dataAtHome 5 = .ok (.getfield 58, 3) := by decide +kernel
theorem d_Mod_dataAtHome_8 : decode b_Mod_dataAtHome 8 = .ok (.iload_n 1, 1) := by decide +kernel
theorem d_Mod_dataAtHome_9 : decode b_Mod_dataAtHome 9 = .ok (.iaload, 1) := by decide +kernel
theorem d_Mod_dataAtHome_10 : decode b_Mod_dataAtHome 10 = .ok (.if_icmp .ge 7, 3) := by decide +kernel
theorem d_Mod_dataAtHome_13 : decode b_Mod_dataAtHome 13 = .ok (.iconst 1, 1) := by decide +kernel
theorem d_Mod_dataAtHome_14 : decode b_Mod_dataAtHome 14 = .ok (.goto 4, 3) := by decide +kernel
theorem d_Mod_dataAtHome_17 : decode b_Mod_dataAtHome 17 = .ok (.iconst 0, 1) := by decide +kernel
theorem d_Mod_dataAtHome_18 : decode b_Mod_dataAtHome 18 = .ok (.istore_n 2, 1) := by decide +kernel
theorem d_Mod_dataAtHome_19 : decode b_Mod_dataAtHome 19 = .ok (.aload_n 0, 1) := by decide +kernel
theorem d_Mod_dataAtHome_20 : decode b_Mod_dataAtHome 20 = .ok (.iload_n 2, 1) := by decide +kernel
theorem d_Mod_dataAtHome_21 : decode b_Mod_dataAtHome 21 = .ok (.ifCond .eq 7, 3) := by decide +kernel
theorem d_Mod_dataAtHome_24 : decode b_Mod_dataAtHome 24 = .ok (.iconst 5, 1) := by decide +kernel
theorem d_Mod_dataAtHome_25 : decode b_Mod_dataAtHome 25 = .ok (.goto 4, 3) := by decide +kernel
theorem d_Mod_dataAtHome_28 : decode b_Mod_dataAtHome 28 = .ok (.iconst 4, 1) := by decide +kernel
theorem d_Mod_dataAtHome_29 : decode b_Mod_dataAtHome 29 = .ok (.iload_n 2, 1) := by decide +kernel
theorem d_Mod_dataAtHome_30 : decode b_Mod_dataAtHome 30 = .ok (.ifCond .eq 12, 3) := by decide +kernel
theorem d_Mod_dataAtHome_33 : decode b_Mod_dataAtHome 33 = .ok (.aload_n 0, 1) := by decide +kernel
theorem d_Mod_dataAtHome_34 : decode b_Mod_dataAtHome 34 = .ok (.getfield 55, 3) := by decide +kernel
theorem d_Mod_dataAtHome_37 : decode b_Mod_dataAtHome 37 = .ok (.iload_n 1, 1) := by decide +kernel
theorem d_Mod_dataAtHome_38 : decode b_Mod_dataAtHome 38 = .ok (.iaload, 1) := by decide +kernel
theorem d_Mod_dataAtHome_39 : decode b_Mod_dataAtHome 39 = .ok (.goto 4, 3) := by decide +kernel
theorem d_Mod_dataAtHome_42 : decode b_Mod_dataAtHome 42 = .ok (.iconst 5, 1) := by decide +kernel
theorem d_Mod_dataAtHome_43 : decode b_Mod_dataAtHome 43 = .ok (.iload_n 1, 1) := by decide +kernel
theorem d_Mod_dataAtHome_44 : decode b_Mod_dataAtHome 44 = .ok (.iconst 0, 1) := by decide +kernel
theorem d_Mod_dataAtHome_45 : decode b_Mod_dataAtHome 45 = .ok (.aload_n 0, 1) := by decide +kernel
theorem d_Mod_dataAtHome_46 : decode b_Mod_dataAtHome 46 = .ok (.getfield 13, 3) := by decide +kernel
theorem d_Mod_dataAtHome_49 : decode b_Mod_dataAtHome 49 = .ok (.iconst 4, 1) := by decide +kernel
theorem d_Mod_dataAtHome_50 : decode b_Mod_dataAtHome 50 = .ok (.iaload, 1) := by decide +kernel
theorem d_Mod_dataAtHome_51 : decode b_Mod_dataAtHome 51 = .ok (.iconst 0, 1) := by decide +kernel
theorem d_Mod_dataAtHome_52 : decode b_Mod_dataAtHome 52 = .ok (.iconst 0, 1) := by decide +kernel
theorem d_Mod_dataAtHome_53 : decode b_Mod_dataAtHome 53 = .ok (.iconst 0, 1) := by decide +kernel
theorem d_Mod_dataAtHome_54 : decode b_Mod_dataAtHome 54 = .ok (.iconst 0, 1) := by decide +kernel
theorem d_Mod_dataAtHome_55 : decode b_Mod_dataAtHome 55 = .ok (.invokevirtual 109, 3) := by decide +kernel
theorem d_Mod_dataAtHome_58 : decode b_Mod_dataAtHome 58 = .ok (.return_, 1) := by decide +kernel
theorem d_Mod_takesPlace_0 : decode b_Mod_takesPlace 0 = .ok (.aload_n 0, 1) := by decide +kernel
theorem d_Mod_takesPlace_1 : decode b_Mod_takesPlace 1 = .ok (.getfield 113, 3) := by decide +kernel
theorem d_Mod_takesPlace_4 : decode b_Mod_takesPlace 4 = .ok (.aload_n 0, 1) := by decide +kernel
theorem d_Mod_takesPlace_5 : decode b_Mod_takesPlace 5 = .ok (.getfield 61, 3) := by decide +kernel
theorem d_Mod_takesPlace_8 : decode b_Mod_takesPlace 8 = .ok (.iconst 2, 1) := by decide +kernel
theorem d_Mod_takesPlace_9 : decode b_Mod_takesPlace 9 = .ok (.iload_n 1, 1) := by decide +kernel
theorem d_Mod_takesPlace_10 : decode b_Mod_takesPlace 10 = .ok (.imul, 1) := by decide +kernel
theorem d_Mod_takesPlace_11 : decode b_Mod_takesPlace 11 = .ok (.iload_n 2, 1) := by decide +kernel
theorem d_Mod_takesPlace_12 : decode b_Mod_takesPlace 12 = .ok (.iadd, 1) := by decide +kernel
theorem d_Mod_takesPlace_13 : decode b_Mod_takesPlace 13 = .ok (.iaload, 1) := by decide +kernel
theorem d_Mod_takesPlace_14 : decode b_Mod_takesPlace 14 = .ok (.if_icmp .lt 20, 3) := by decide +kernel
theorem d_Mod_takesPlace_17 : decode b_Mod_takesPlace 17 = .ok (.aload_n 0, 1) := by decide +kernel
theorem d_Mod_takesPlace_18 : decode b_Mod_takesPlace 18 = .ok (.getfield 113, 3) := by decide +kernel
theorem d_Mod_takesPlace_21 : decode b_Mod_takesPlace 21 = .ok (.aload_n 0, 1) := by decide +kernel
theorem d_Mod_takesPlace_22 : decode b_Mod_takesPlace 22 = .ok (.getfield 67, 3) := by decide +kernel
theorem d_Mod_takesPlace_25 : decode b_Mod_takesPlace 25 = .ok (.iconst 2, 1) := by decide +kernel
theorem d_Mod_takesPlace_26 : decode b_Mod_takesPlace 26 = .ok (.iload_n 1, 1) := by decide +kernel
theorem d_Mod_takesPlace_27 : decode b_Mod_takesPlace 27 = .ok (.imul, 1) := by decide +kernel
theorem d_Mod_takesPlace_28 : decode b_Mod_takesPlace 28 = .ok (.iload_n 2, 1) := by decide +kernel
theorem d_Mod_takesPlace_29 : decode b_Mod_takesPlace 29 = .ok (.iadd, 1) := by decide +kernel
theorem d_Mod_takesPlace_30 : decode b_Mod_takesPlace 30 = .ok (.iaload, 1) := by decide +kernel
theorem d_Mod_takesPlace_31 : decode b_Mod_takesPlace 31 = .ok (.if_icmp .ge 7, 3) := by decide +kernel
theorem d_Mod_takesPlace_34 : decode b_Mod_takesPlace 34 = .ok (.iconst 1, 1) := by decide +kernel
theorem d_Mod_takesPlace_35 : decode b_Mod_takesPlace 35 = .ok (.goto 4, 3) := by decide +kernel
theorem d_Mod_takesPlace_38 : decode b_Mod_takesPlace 38 = .ok (.iconst 0, 1) := by decide +kernel
theorem d_Mod_takesPlace_39 : decode b_Mod_takesPlace 39 = .ok (.ireturn, 1) := by decide +kernel
theorem d_Mod_requestAtForeign_0 : decode b_Mod_requestAtForeign 0 = .ok (.aload_n 0, 1) := by decide +kernel
theorem d_Mod_requestAtForeign_1 : decode b_Mod_requestAtForeign 1 = .ok (.getfield 13, 3) := by decide +kernel
theorem d_Mod_requestAtForeign_4 : decode b_Mod_requestAtForeign 4 = .ok (.iconst 5, 1) := by decide +kernel
theorem d_Mod_requestAtForeign_5 : decode b_Mod_requestAtForeign 5 = .ok (.iaload, 1) := by decide +kernel
theorem d_Mod_requestAtForeign_6 : decode b_Mod_requestAtForeign 6 = .ok (.iload_n 1, 1) := by decide +kernel
theorem d_Mod_requestAtForeign_7 : decode b_Mod_requestAtForeign 7 = .ok (.if_icmp .eq 4, 3) := by decide +kernel
theorem d_Mod_requestAtForeign_10 : decode b_Mod_requestAtForeign 10 = .ok (.return_, 1) := by decide +kernel
theorem d_Mod_requestAtForeign_11 : decode b_Mod_requestAtForeign 11 = .ok (.aload_n 0, 1) := by decide +kernel
theorem d_Mod_requestAtForeign_12 : decode b_Mod_requestAtForeign 12 = .ok (.iload_n 1, 1) := by decide +kernel
theorem d_Mod_requestAtForeign_13 : decode b_Mod_requestAtForeign 13 = .ok (.iconst 0, 1) := by decide +kernel
theorem d_Mod_requestAtForeign_14 : decode b_Mod_requestAtForeign 14 = .ok (.invokevirtual 124, 3) := by decide +kernel
theorem d_Mod_requestAtForeign_17 : decode b_Mod_requestAtForeign 17 = .ok (.ifCond .eq 7, 3) := by decide +kernel
theorem d_Mod_requestAtForeign_20 : decode b_Mod_requestAtForeign 20 = .ok (.iconst 1, 1) := by decide +kernel
theorem d_Mod_requestAtForeign_21 : decode b_Mod_requestAtForeign 21 = .ok (.goto 4, 3) := by decide +kernel
theorem d_Mod_requestAtForeign_24 : decode b_Mod_requestAtForeign 24 = .ok (.iconst 0, 1) := by decide +kernel
theorem d_Mod_requestAtForeign_25 : decode b_Mod_requestAtForeign 25 = .ok (.aload_n 0, 1) := by decide +kernel
theorem d_Mod_requestAtForeign_26 : decode b_Mod_requestAtForeign 26 = .ok (.iload_n 1, 1) := by decide +kernel
theorem d_Mod_requestAtForeign_27 : decode b_Mod_requestAtForeign 27 = .ok (.iconst 1, 1) := by decide +kernel
theorem d_Mod_requestAtForeign_28 : decode b_Mod_requestAtForeign 28 = .ok (.invokevirtual 124, 3) := by decide +kernel
theorem d_Mod_requestAtForeign_31 : decode b_Mod_requestAtForeign 31 = .ok (.ifCond .eq 7, 3) := by decide +kernel
theorem d_Mod_requestAtForeign_34 : decode b_Mod_requestAtForeign 34 = .ok (.iconst 1, 1) := by decide +kernel
theorem d_Mod_requestAtForeign_35 : decode b_Mod_requestAtForeign 35 = .ok (.goto 4, 3) := by decide +kernel
theorem d_Mod_requestAtForeign_38 : decode b_Mod_requestAtForeign 38 = .ok (.iconst 0, 1) := by decide +kernel
theorem d_Mod_requestAtForeign_39 : decode b_Mod_requestAtForeign 39 = .ok (.iadd, 1) := by decide +kernel
theorem d_Mod_requestAtForeign_40 : decode b_Mod_requestAtForeign 40 = .ok (.istore_n 3, 1) := by decide +kernel
theorem d_Mod_requestAtForeign_41 : decode b_Mod_requestAtForeign 41 = .ok (.aload_n 0, 1) := by decide +kernel
theorem d_Mod_requestAtForeign_42 : decode b_Mod_requestAtForeign 42 = .ok (.iload_n 1, 1) := by decide +kernel
theorem d_Mod_requestAtForeign_43 : decode b_Mod_requestAtForeign 43 = .ok (.iload_n 2, 1) := by decide +kernel
theorem d_Mod_requestAtForeign_44 : decode b_Mod_requestAtForeign 44 = .ok (.invokevirtual 124, 3) := by decide +kernel
theorem d_Mod_requestAtForeign_47 : decode b_Mod_requestAtForeign 47 = .ok (.ifCond .ne 31, 3) := by decide +kernel
theorem d_Mod_requestAtForeign_50 : decode b_Mod_requestAtForeign 50 = .ok (.iload_n 3, 1) := by decide +kernel
theorem d_Mod_requestAtForeign_51 : decode b_Mod_requestAtForeign 51 = .ok (.aload_n 0, 1) := by decide +kernel
theorem d_Mod_requestAtForeign_52 : decode b_Mod_requestAtForeign 52 = .ok (.getfield 89, 3) := by decide +kernel
theorem d_Mod_requestAtForeign_55 : decode b_Mod_requestAtForeign 55 = .ok (.if_icmp .lt 23, 3) := by decide +kernel
theorem d_Mod_requestAtForeign_58 : decode b_Mod_requestAtForeign 58 = .ok (.aload_n 0, 1) := by decide +kernel
theorem d_Mod_requestAtForeign_59 : decode b_Mod_requestAtForeign 59 = .ok (.iconst 3, 1) := by decide +kernel
theorem d_Mod_requestAtForeign_60 : decode b_Mod_requestAtForeign 60 = .ok (.iconst 5, 1) := by decide +kernel
theorem d_Mod_requestAtForeign_61 : decode b_Mod_requestAtForeign 61 = .ok (.iload_n 2, 1) := by decide +kernel
theorem d_Mod_requestAtForeign_62 : decode b_Mod_requestAtForeign 62 = .ok (.iload_n 1, 1) := by decide +kernel
theorem d_Mod_requestAtForeign_63 : decode b_Mod_requestAtForeign 63 = .ok (.aload_n 0, 1) := by decide +kernel
theorem d_Mod_requestAtForeign_64 : decode b_Mod_requestAtForeign 64 = .ok (.getfield 13, 3) := by decide +kernel
theorem d_Mod_requestAtForeign_67 : decode b_Mod_requestAtForeign 67 = .ok (.iconst 4, 1) := by decide +kernel
theorem d_Mod_requestAtForeign_68 : decode b_Mod_requestAtForeign 68 = .ok (.iaload, 1) := by decide +kernel
theorem d_Mod_requestAtForeign_69 : decode b_Mod_requestAtForeign 69 = .ok (.iload_n 1, 1) := by decide +kernel
theorem d_Mod_requestAtForeign_70 : decode b_Mod_requestAtForeign 70 = .ok (.iconst 0, 1) := by decide +kernel
theorem d_Mod_requestAtForeign_71 : decode b_Mod_requestAtForeign 71 = .ok (.bipush 66, 2) := by decide +kernel
theorem d_Mod_requestAtForeign_73 : decode b_Mod_requestAtForeign 73 = .ok (.iconst 0, 1) := by decide +kernel
theorem d_Mod_requestAtForeign_74 : decode b_Mod_requestAtForeign 74 = .ok (.invokevirtual 109, 3) := by decide +kernel
theorem d_Mod_requestAtForeign_77 : decode b_Mod_requestAtForeign 77 = .ok (.return_, 1) := by decide +kernel
theorem d_Mod_requestAtForeign_78 : decode b_Mod_requestAtForeign 78 = .ok (.aload_n 0, 1) := by decide +kernel
theorem d_Mod_requestAtForeign_79 : decode b_Mod_requestAtForeign 79 = .ok (.getfield 64, 3) := by decide +kernel
theorem d_Mod_requestAtForeign_82 : decode b_Mod_requestAtForeign 82 = .ok (.iconst 2, 1) := by decide +kernel
theorem d_Mod_requestAtForeign_83 : decode b_Mod_requestAtForeign 83 = .ok (.iload_n 1, 1) := by decide +kernel
theorem d_Mod_requestAtForeign_84 : decode b_Mod_requestAtForeign 84 = .ok (.imul, 1) := by decide +kernel
theorem d_Mod_requestAtForeign_85 : decode b_Mod_requestAtForeign 85 = .ok (.iload_n 2, 1) := by decide +kernel
theorem d_Mod_requestAtForeign_86 : decode b_Mod_requestAtForeign 86 = .ok (.iadd, 1) := by decide +kernel
theorem d_Mod_requestAtForeign_87 : decode b_Mod_requestAtForeign 87 = .ok (.aload_n 0, 1) := by decide +kernel
theorem d_Mod_requestAtForeign_88 : decode b_Mod_requestAtForeign 88 = .ok (.getfield 13, 3) := by decide +kernel
theorem d_Mod_requestAtForeign_91 : decode b_Mod_requestAtForeign 91 = .ok (.iconst 4, 1) := by decide +kernel
theorem d_Mod_requestAtForeign_92 : decode b_Mod_requestAtForeign 92 = .ok (.iaload, 1) := by decide +kernel
theorem d_Mod_requestAtForeign_93 : decode b_Mod_requestAtForeign 93 = .ok (.iastore, 1) := by decide +kernel
theorem d_Mod_requestAtForeign_94 : decode b_Mod_requestAtForeign 94 = .ok (.aload_n 0, 1) := by decide +kernel
theorem d_Mod_requestAtForeign_95 : decode b_Mod_requestAtForeign 95 = .ok (.getfield 67, 3) := by decide +kernel
theorem d_Mod_requestAtForeign_98 : decode b_Mod_requestAtForeign 98 = .ok (.iconst 2, 1) := by decide +kernel
theorem d_Mod_requestAtForeign_99 : decode b_Mod_requestAtForeign 99 = .ok (.iload_n 1, 1) := by decide +kernel
theorem d_Mod_requestAtForeign_100 : decode b_Mod_requestAtForeign 100 = .ok (.imul, 1) := by decide +kernel
theorem d_Mod_requestAtForeign_101 : decode b_Mod_requestAtForeign 101 = .ok (.iload_n 2, 1) := by decide +kernel
theorem d_Mod_requestAtForeign_102 : decode b_Mod_requestAtForeign 102 = .ok (.iadd, 1) := by decide +kernel
theorem d_Mod_requestAtForeign_103 : decode b_Mod_requestAtForeign 103 = .ok (.aload_n 0, 1) := by decide +kernel
theorem d_Mod_requestAtForeign_104 : decode b_Mod_requestAtForeign 104 = .ok (.getfield 113, 3) := by decide +kernel
theorem d_Mod_requestAtForeign_107 : decode b_Mod_requestAtForeign 107 = .ok (.bipush 8, 2) := by decide +kernel
theorem d_Mod_requestAtForeign_109 : decode b_Mod_requestAtForeign 109 = .ok (.iadd, 1) := by decide +kernel
theorem d_Mod_requestAtForeign_110 : decode b_Mod_requestAtForeign 110 = .ok (.iastore, 1) := by decide +kernel
theorem d_Mod_requestAtForeign_111 : decode b_Mod_requestAtForeign 111 = .ok (.aload_n 0, 1) := by decide +kernel
theorem d_Mod_requestAtForeign_112 : decode b_Mod_requestAtForeign 112 = .ok (.iconst 2, 1) := by decide +kernel
theorem d_Mod_requestAtForeign_113 : decode b_Mod_requestAtForeign 113 = .ok (.iconst 0, 1) := by decide +kernel
theorem d_Mod_requestAtForeign_114 : decode b_Mod_requestAtForeign 114 = .ok (.iload_n 2, 1) := by decide +kernel
theorem d_Mod_requestAtForeign_115 : decode b_Mod_requestAtForeign 115 = .ok (.iconst 0, 1) := by decide +kernel
theorem d_Mod_requestAtForeign_116 : decode b_Mod_requestAtForeign 116 = .ok (.aload_n 0, 1) := by decide +kernel
theorem d_Mod_requestAtForeign_117 : decode b_Mod_requestAtForeign 117 = .ok (.getfield 13, 3) := by decide +kernel
theorem d_Mod_requestAtForeign_120 : decode b_Mod_requestAtForeign 120 = .ok (.iconst 4, 1) := by decide +kernel
theorem d_Mod_requestAtForeign_121 : decode b_Mod_requestAtForeign 121 = .ok (.iaload, 1) := by decide +kernel
theorem d_Mod_requestAtForeign_122 : decode b_Mod_requestAtForeign 122 = .ok (.aload_n 0, 1) := by decide +kernel
theorem d_Mod_requestAtForeign_123 : decode b_Mod_requestAtForeign 123 = .ok (.getfield 13, 3) := by decide +kernel
theorem d_Mod_requestAtForeign_126 : decode b_Mod_requestAtForeign 126 = .ok (.iconst 5, 1) := by decide +kernel
theorem d_Mod_requestAtForeign_127 : decode b_Mod_requestAtForeign 127 = .ok (.iaload, 1) := by decide +kernel
theorem d_Mod_requestAtForeign_128 : decode b_Mod_requestAtForeign 128 = .ok (.aload_n 0, 1) := by decide +kernel
theorem d_Mod_requestAtForeign_129 : decode b_Mod_requestAtForeign 129 = .ok (.getfield 13, 3) := by decide +kernel
theorem d_Mod_requestAtForeign_132 : decode b_Mod_requestAtForeign 132 = .ok (.bipush 6, 2) := by decide +kernel
theorem d_Mod_requestAtForeign_134 : decode b_Mod_requestAtForeign 134 = .ok (.iaload, 1) := by decide +kernel
theorem d_Mod_requestAtForeign_135 : decode b_Mod_requestAtForeign 135 = .ok (.iconst 0, 1) := by decide +kernel
theorem d_Mod_requestAtForeign_136 : decode b_Mod_requestAtForeign 136 = .ok (.aload_n 0, 1) := by decide +kernel
theorem d_Mod_requestAtForeign_137 : decode b_Mod_requestAtForeign 137 = .ok (.getfield 13, 3) := by decide +kernel
theorem d_Mod_requestAtForeign_140 : decode b_Mod_requestAtForeign 140 = .ok (.bipush 8, 2) := by decide +kernel
theorem d_Mod_requestAtForeign_142 : decode b_Mod_requestAtForeign 142 = .ok (.iaload, 1) := by decide +kernel
theorem d_Mod_requestAtForeign_143 : decode b_Mod_requestAtForeign 143 = .ok (.invokevirtual 109, 3) := by decide +kernel
theorem d_Mod_requestAtForeign_146 : decode b_Mod_requestAtForeign 146 = .ok (.return_, 1) := by decide +kernel
theorem d_Mod_replyAtForeign_0 : decode b_Mod_replyAtForeign 0 = .ok (.iconst 2, 1) := by decide +kernel
theorem d_Mod_replyAtForeign_1 : decode b_Mod_replyAtForeign 1 = .ok (.iload_n 1, 1) := by decide +kernel
theorem d_Mod_replyAtForeign_2 : decode b_Mod_replyAtForeign 2 = .ok (.imul, 1) := by decide +kernel
theorem d_Mod_replyAtForeign_3 : decode b_Mod_replyAtForeign 3 = .ok (.iload_n 2, 1) := by decide +kernel
theorem d_Mod_replyAtForeign_4 : decode b_Mod_replyAtForeign 4 = .ok (.iadd, 1) := by decide +kernel
theorem d_Mod_replyAtForeign_5 : decode b_Mod_replyAtForeign 5 = .ok (.istore_n 3, 1) := by decide +kernel
theorem d_Mod_replyAtForeign_6 : decode b_Mod_replyAtForeign 6 = .ok (.aload_n 0, 1) := by decide +kernel
theorem d_Mod_replyAtForeign_7 : decode b_Mod_replyAtForeign 7 = .ok (.getfield 113, 3) := by decide +kernel
theorem d_Mod_replyAtForeign_10 : decode b_Mod_replyAtForeign 10 = .ok (.aload_n 0, 1) := by decide +kernel
theorem d_Mod_replyAtForeign_11 : decode b_Mod_replyAtForeign 11 = .ok (.getfield 67, 3) := by decide +kernel
theorem d_Mod_replyAtForeign_14 : decode b_Mod_replyAtForeign 14 = .ok (.iload_n 3, 1) := by decide +kernel
theorem d_Mod_replyAtForeign_15 : decode b_Mod_replyAtForeign 15 = .ok (.iaload, 1) := by decide +kernel
theorem d_Mod_replyAtForeign_16 : decode b_Mod_replyAtForeign 16 = .ok (.if_icmp .ge 18, 3) := by decide +kernel
theorem d_Mod_replyAtForeign_19 : decode b_Mod_replyAtForeign 19 = .ok (.aload_n 0, 1) := by decide +kernel
theorem d_Mod_replyAtForeign_20 : decode b_Mod_replyAtForeign 20 = .ok (.getfield 64, 3) := by decide +kernel
theorem d_Mod_replyAtForeign_23 : decode b_Mod_replyAtForeign 23 = .ok (.iload_n 3, 1) := by decide +kernel
theorem d_Mod_replyAtForeign_24 : decode b_Mod_replyAtForeign 24 = .ok (.iaload, 1) := by decide +kernel
theorem d_Mod_replyAtForeign_25 : decode b_Mod_replyAtForeign 25 = .ok (.aload_n 0, 1) := by decide +kernel
theorem d_Mod_replyAtForeign_26 : decode b_Mod_replyAtForeign 26 = .ok (.getfield 13, 3) := by decide +kernel
theorem d_Mod_replyAtForeign_29 : decode b_Mod_replyAtForeign 29 = .ok (.iconst 4, 1) := by decide +kernel
theorem d_Mod_replyAtForeign_30 : decode b_Mod_replyAtForeign 30 = .ok (.iaload, 1) := by decide +kernel
theorem d_Mod_replyAtForeign_31 : decode b_Mod_replyAtForeign 31 = .ok (.if_icmp .eq 4, 3) := by decide +kernel
theorem d_Mod_replyAtForeign_34 : decode b_Mod_replyAtForeign 34 = .ok (.return_, 1) := by decide +kernel
theorem d_Mod_replyAtForeign_35 : decode b_Mod_replyAtForeign 35 = .ok (.aload_n 0, 1) := by decide +kernel
theorem d_Mod_replyAtForeign_36 : decode b_Mod_replyAtForeign 36 = .ok (.getfield 67, 3) := by decide +kernel
theorem d_Mod_replyAtForeign_39 : decode b_Mod_replyAtForeign 39 = .ok (.iload_n 3, 1) := by decide +kernel
theorem d_Mod_replyAtForeign_40 : decode b_Mod_replyAtForeign 40 = .ok (.iconst 0, 1) := by decide +kernel
theorem d_Mod_replyAtForeign_41 : decode b_Mod_replyAtForeign 41 = .ok (.iastore, 1) := by decide +kernel
theorem d_Mod_replyAtForeign_42 : decode b_Mod_replyAtForeign 42 = .ok (.aload_n 0, 1) := by decide +kernel
theorem d_Mod_replyAtForeign_43 : decode b_Mod_replyAtForeign 43 = .ok (.getfield 61, 3) := by decide +kernel
theorem d_Mod_replyAtForeign_46 : decode b_Mod_replyAtForeign 46 = .ok (.iload_n 3, 1) := by decide +kernel
theorem d_Mod_replyAtForeign_47 : decode b_Mod_replyAtForeign 47 = .ok (.aload_n 0, 1) := by decide +kernel
theorem d_Mod_replyAtForeign_48 : decode b_Mod_replyAtForeign 48 = .ok (.getfield 13, 3) := by decide +kernel
theorem d_Mod_replyAtForeign_51 : decode b_Mod_replyAtForeign 51 = .ok (.bipush 7, 2) := by decide +kernel
theorem d_Mod_replyAtForeign_53 : decode b_Mod_replyAtForeign 53 = .ok (.iaload, 1) := by decide +kernel
theorem d_Mod_replyAtForeign_54 : decode b_Mod_replyAtForeign 54 = .ok (.ifCond .ne 18, 3) := by decide +kernel
theorem d_Mod_replyAtForeign_57 : decode b_Mod_replyAtForeign 57 = .ok (.aload_n 0, 1) := by decide +kernel
theorem d_Mod_replyAtForeign_58 : decode b_Mod_replyAtForeign 58 = .ok (.getfield 113, 3) := by decide +kernel
theorem d_Mod_replyAtForeign_61 : decode b_Mod_replyAtForeign 61 = .ok (.aload_n 0, 1) := by decide +kernel
theorem d_Mod_replyAtForeign_62 : decode b_Mod_replyAtForeign 62 = .ok (.getfield 13, 3) := by decide +kernel
theorem d_Mod_replyAtForeign_65 : decode b_Mod_replyAtForeign 65 = .ok (.bipush 6, 2) := by decide +kernel
theorem d_Mod_replyAtForeign_67 : decode b_Mod_replyAtForeign 67 = .ok (.iaload, 1) := by decide +kernel
theorem d_Mod_replyAtForeign_68 : decode b_Mod_replyAtForeign 68 = .ok (.iadd, 1) := by decide +kernel
theorem d_Mod_replyAtForeign_69 : decode b_Mod_replyAtForeign 69 = .ok (.goto 9, 3) := by decide +kernel
theorem d_Mod_replyAtForeign_72 : decode b_Mod_replyAtForeign 72 = .ok (.aload_n 0, 1) := by decide +kernel
theorem d_Mod_replyAtForeign_73 : decode b_Mod_replyAtForeign 73 = .ok (.getfield 61, 3) := by decide +kernel
theorem d_Mod_replyAtForeign_76 : decode b_Mod_replyAtForeign 76 = .ok (.iload_n 3, 1) := by decide +kernel
theorem d_Mod_replyAtForeign_77 : decode b_Mod_replyAtForeign 77 = .ok (.iaload, 1) := by decide +kernel
theorem d_Mod_replyAtForeign_78 : decode b_Mod_replyAtForeign 78 = .ok (.iastore, 1) := by decide +kernel
theorem d_Mod_replyAtForeign_79 : decode b_Mod_replyAtForeign 79 = .ok (.aload_n 0, 1) := by decide +kernel
theorem d_Mod_replyAtForeign_80 : decode b_Mod_replyAtForeign 80 = .ok (.iconst 3, 1) := by decide +kernel
theorem d_Mod_replyAtForeign_81 : decode b_Mod_replyAtForeign 81 = .ok (.iconst 5, 1) := by decide +kernel
theorem d_Mod_replyAtForeign_82 : decode b_Mod_replyAtForeign 82 = .ok (.iload_n 2, 1) := by decide +kernel
theorem d_Mod_replyAtForeign_83 : decode b_Mod_replyAtForeign 83 = .ok (.iload_n 1, 1) := by decide +kernel
theorem d_Mod_replyAtForeign_84 : decode b_Mod_replyAtForeign 84 = .ok (.aload_n 0, 1) := by decide +kernel
theorem d_Mod_replyAtForeign_85 : decode b_Mod_replyAtForeign 85 = .ok (.getfield 13, 3) := by decide +kernel
theorem d_Mod_replyAtForeign_88 : decode b_Mod_replyAtForeign 88 = .ok (.iconst 4, 1) := by decide +kernel
theorem d_Mod_replyAtForeign_89 : decode b_Mod_replyAtForeign 89 = .ok (.iaload, 1) := by decide +kernel
theorem d_Mod_replyAtForeign_90 : decode b_Mod_replyAtForeign 90 = .ok (.aload_n 0, 1) := by decide +kernel
theorem d_Mod_replyAtForeign_91 : decode b_Mod_replyAtForeign 91 = .ok (.getfield 13, 3) := by decide +kernel
theorem d_Mod_replyAtForeign_94 : decode b_Mod_replyAtForeign 94 = .ok (.iconst 5, 1) := by decide +kernel
theorem d_Mod_replyAtForeign_95 : decode b_Mod_replyAtForeign 95 = .ok (.iaload, 1) := by decide +kernel
theorem d_Mod_replyAtForeign_96 : decode b_Mod_replyAtForeign 96 = .ok (.aload_n 0, 1) := by decide +kernel
theorem d_Mod_replyAtForeign_97 : decode b_Mod_replyAtForeign 97 = .ok (.getfield 13, 3) := by decide +kernel
theorem d_Mod_replyAtForeign_100 : decode b_Mod_replyAtForeign 100 = .ok (.bipush 6, 2) := by decide +kernel
theorem d_Mod_replyAtForeign_102 : decode b_Mod_replyAtForeign 102 = .ok (.iaload, 1) := by decide +kernel
theorem d_Mod_replyAtForeign_103 : decode b_Mod_replyAtForeign 103 = .ok (.aload_n 0, 1) := by decide +kernel
theorem d_Mod_replyAtForeign_104 : decode b_Mod_replyAtForeign 104 = .ok (.getfield 13, 3) := by decide +kernel
theorem d_Mod_replyAtForeign_107 : decode b_Mod_replyAtForeign 107 = .ok (.bipush 7, 2) := by decide +kernel
theorem d_Mod_replyAtForeign_109 : decode b_Mod_replyAtForeign 109 = .ok (.iaload, 1) := by decide +kernel
theorem d_Mod_replyAtForeign_110 : decode b_Mod_replyAtForeign 110 = .ok (.aload_n 0, 1) := by decide +kernel
theorem d_Mod_replyAtForeign_111 : decode b_Mod_replyAtForeign 111 = .ok (.getfield 13, 3) := by decide +kernel
theorem d_Mod_replyAtForeign_114 : decode b_Mod_replyAtForeign 114 = .ok (.bipush 8, 2) := by decide +kernel
theorem d_Mod_replyAtForeign_116 : decode b_Mod_replyAtForeign 116 = .ok (.iaload, 1) := by decide +kernel
theorem d_Mod_replyAtForeign_117 : decode b_Mod_replyAtForeign 117 = .ok (.invokevirtual 109, 3) := by decide +kernel
theorem d_Mod_replyAtForeign_120 : decode b_Mod_replyAtForeign 120 = .ok (.return_, 1) := by decide +kernel
theorem d_Mod_tickMobile_0 : decode b_Mod_tickMobile 0 = .ok (.aload_n 0, 1) := by decide +kernel
theorem d_Mod_tickMobile_1 : decode b_Mod_tickMobile 1 = .ok (.getfield 31, 3) := by decide +kernel
theorem d_Mod_tickMobile_4 : decode b_Mod_tickMobile 4 = .ok (.iload_n 1, 1) := by decide +kernel
theorem d_Mod_tickMobile_5 : decode b_Mod_tickMobile 5 = .ok (.aload_n 0, 1) := by decide +kernel
theorem d_Mod_tickMobile_6 : decode b_Mod_tickMobile 6 = .ok (.getfield 34, 3) := by decide +kernel
theorem d_Mod_tickMobile_9 : decode b_Mod_tickMobile 9 = .ok (.iload_n 1, 1) := by decide +kernel
theorem d_Mod_tickMobile_10 : decode b_Mod_tickMobile 10 = .ok (.iaload, 1) := by decide +kernel
theorem d_Mod_tickMobile_11 : decode b_Mod_tickMobile 11 = .ok (.aload_n 0, 1) := by decide +kernel
theorem d_Mod_tickMobile_12 : decode b_Mod_tickMobile 12 = .ok (.getfield 113, 3) := by decide +kernel
theorem d_Mod_tickMobile_15 : decode b_Mod_tickMobile 15 = .ok (.if_icmp .gt 7, 3) := by decide +kernel
theorem d_Mod_tickMobile_18 : decode b_Mod_tickMobile 18 = .ok (.iconst (-1), 1) := by decide +kernel
theorem d_Mod_tickMobile_19 : decode b_Mod_tickMobile 19 = .ok (.goto 9, 3) := by decide +kernel
theorem d_Mod_tickMobile_22 : decode b_Mod_tickMobile 22 = .ok (.aload_n 0, 1) := by decide +kernel
theorem d_Mod_tickMobile_23 : decode b_Mod_tickMobile 23 = .ok (.getfield 31, 3) := by decide +kernel
theorem d_Mod_tickMobile_26 : decode b_Mod_tickMobile 26 = .ok (.iload_n 1, 1) := by decide +kernel
theorem d_Mod_tickMobile_27 : decode b_Mod_tickMobile 27 = .ok (.iaload, 1) := by decide +kernel
theorem d_Mod_tickMobile_28 : decode b_Mod_tickMobile 28 = .ok (.iastore, 1) := by decide +kernel
theorem d_Mod_tickMobile_29 : decode b_Mod_tickMobile 29 = .ok (.aload_n 0, 1) := by decide +kernel
theorem d_Mod_tickMobile_30 : decode b_Mod_tickMobile 30 = .ok (.getfield 25, 3) := by decide +kernel
theorem d_Mod_tickMobile_33 : decode b_Mod_tickMobile 33 = .ok (.iload_n 1, 1) := by decide +kernel
theorem d_Mod_tickMobile_34 : decode b_Mod_tickMobile 34 = .ok (.aload_n 0, 1) := by decide +kernel
theorem d_Mod_tickMobile_35 : decode b_Mod_tickMobile 35 = .ok (.getfield 28, 3) := by decide +kernel
theorem d_Mod_tickMobile_38 : decode b_Mod_tickMobile 38 = .ok (.iload_n 1, 1) := by decide +kernel
theorem d_Mod_tickMobile_39 : decode b_Mod_tickMobile 39 = .ok (.iaload, 1) := by decide +kernel
theorem d_Mod_tickMobile_40 : decode b_Mod_tickMobile 40 = .ok (.aload_n 0, 1) := by decide +kernel
theorem d_Mod_tickMobile_41 : decode b_Mod_tickMobile 41 = .ok (.getfield 113, 3) := by decide +kernel
theorem d_Mod_tickMobile_44 : decode b_Mod_tickMobile 44 = .ok (.if_icmp .gt 7, 3) := by decide +kernel
theorem d_Mod_tickMobile_47 : decode b_Mod_tickMobile 47 = .ok (.iconst (-1), 1) := by decide +kernel
theorem d_Mod_tickMobile_48 : decode b_Mod_tickMobile 48 = .ok (.goto 9, 3) := by decide +kernel
theorem d_Mod_tickMobile_51 : decode b_Mod_tickMobile 51 = .ok (.aload_n 0, 1) := by decide +kernel
theorem d_Mod_tickMobile_52 : decode b_Mod_tickMobile 52 = .ok (.getfield 25, 3) := by decide +kernel
theorem d_Mod_tickMobile_55 : decode b_Mod_tickMobile 55 = .ok (.iload_n 1, 1) := by decide +kernel
theorem d_Mod_tickMobile_56 : decode b_Mod_tickMobile 56 = .ok (.iaload, 1) := by decide +kernel
theorem d_Mod_tickMobile_57 : decode b_Mod_tickMobile 57 = .ok (.iastore, 1) := by decide +kernel
theorem d_Mod_tickMobile_58 : decode b_Mod_tickMobile 58 = .ok (.aload_n 0, 1) := by decide +kernel
theorem d_Mod_tickMobile_59 : decode b_Mod_tickMobile 59 = .ok (.getfield 37, 3) := by decide +kernel
theorem d_Mod_tickMobile_62 : decode b_Mod_tickMobile 62 = .ok (.iload_n 1, 1) := by decide +kernel
theorem d_Mod_tickMobile_63 : decode b_Mod_tickMobile 63 = .ok (.iaload, 1) := by decide +kernel
theorem d_Mod_tickMobile_64 : decode b_Mod_tickMobile 64 = .ok (.ifCond .le 22, 3) := by decide +kernel
theorem d_Mod_tickMobile_67 : decode b_Mod_tickMobile 67 = .ok (.aload_n 0, 1) := by decide +kernel
theorem d_Mod_tickMobile_68 : decode b_Mod_tickMobile 68 = .ok (.getfield 113, 3) := by decide +kernel
theorem d_Mod_tickMobile_71 : decode b_Mod_tickMobile 71 = .ok (.aload_n 0, 1) := by decide +kernel
theorem d_Mod_tickMobile_72 : decode b_Mod_tickMobile 72 = .ok (.getfield 43, 3) := by decide +kernel
theorem d_Mod_tickMobile_75 : decode b_Mod_tickMobile 75 = .ok (.iload_n 1, 1) := by decide +kernel
theorem d_Mod_tickMobile_76 : decode b_Mod_tickMobile 76 = .ok (.iaload, 1) := by decide +kernel
theorem d_Mod_tickMobile_77 : decode b_Mod_tickMobile 77 = .ok (.isub, 1) := by decide +kernel
theorem d_Mod_tickMobile_78 : decode b_Mod_tickMobile 78 = .ok (.iconst 3, 1) := by decide +kernel
theorem d_Mod_tickMobile_79 : decode b_Mod_tickMobile 79 = .ok (.if_icmp .lt 7, 3) := by decide +kernel
theorem d_Mod_tickMobile_82 : decode b_Mod_tickMobile 82 = .ok (.iconst 1, 1) := by decide +kernel
theorem d_Mod_tickMobile_83 : decode b_Mod_tickMobile 83 = .ok (.goto 4, 3) := by decide +kernel
theorem d_Mod_tickMobile_86 : decode b_Mod_tickMobile 86 = .ok (.iconst 0, 1) := by decide +kernel
theorem d_Mod_tickMobile_87 : decode b_Mod_tickMobile 87 = .ok (.istore_n 2, 1) := by decide +kernel
theorem d_Mod_tickMobile_88 : decode b_Mod_tickMobile 88 = .ok (.iload_n 2, 1) := by decide +kernel
theorem d_Mod_tickMobile_89 : decode b_Mod_tickMobile 89 = .ok (.ifCond .eq 32, 3) := by decide +kernel
theorem d_Mod_tickMobile_92 : decode b_Mod_tickMobile 92 = .ok (.aload_n 0, 1) := by decide +kernel
theorem d_Mod_tickMobile_93 : decode b_Mod_tickMobile 93 = .ok (.getfield 31, 3) := by decide +kernel
theorem d_Mod_tickMobile_96 : decode b_Mod_tickMobile 96 = .ok (.iload_n 1, 1) := by decide +kernel
theorem d_Mod_tickMobile_97 : decode b_Mod_tickMobile 97 = .ok (.iaload, 1) := by decide +kernel
theorem d_Mod_tickMobile_98 : decode b_Mod_tickMobile 98 = .ok (.aload_n 0, 1) := by decide +kernel
theorem d_Mod_tickMobile_99 : decode b_Mod_tickMobile 99 = .ok (.getfield 40, 3) := by decide +kernel
theorem d_Mod_tickMobile_102 : decode b_Mod_tickMobile 102 = .ok (.iload_n 1, 1) := by decide +kernel
theorem d_Mod_tickMobile_103 : decode b_Mod_tickMobile 103 = .ok (.iaload, 1) := by decide +kernel
theorem d_Mod_tickMobile_104 : decode b_Mod_tickMobile 104 = .ok (.if_icmp .ne 17, 3) := by decide +kernel
theorem d_Mod_tickMobile_107 : decode b_Mod_tickMobile 107 = .ok (.aload_n 0, 1) := by decide +kernel
theorem d_Mod_tickMobile_108 : decode b_Mod_tickMobile 108 = .ok (.iload_n 1, 1) := by decide +kernel
theorem d_Mod_tickMobile_109 : decode b_Mod_tickMobile 109 = .ok (.aload_n 0, 1) := by decide +kernel
theorem d_Mod_tickMobile_110 : decode b_Mod_tickMobile 110 = .ok (.getfield 40, 3) := by decide +kernel
theorem d_Mod_tickMobile_113 : decode b_Mod_tickMobile 113 = .ok (.iload_n 1, 1) := by decide +kernel
theorem d_Mod_tickMobile_114 : decode b_Mod_tickMobile 114 = .ok (.iaload, 1) := by decide +kernel
theorem d_Mod_tickMobile_115 : decode b_Mod_tickMobile 115 = .ok (.invokevirtual 116, 3) := by decide +kernel
theorem d_Mod_tickMobile_118 : decode b_Mod_tickMobile 118 = .ok (.goto 14, 3) := by decide +kernel
theorem d_Mod_tickMobile_121 : decode b_Mod_tickMobile 121 = .ok (.iload_n 2, 1) := by decide +kernel
theorem d_Mod_tickMobile_122 : decode b_Mod_tickMobile 122 = .ok (.ifCond .eq 10, 3) := by decide +kernel
theorem d_Mod_tickMobile_125 : decode b_Mod_tickMobile 125 = .ok (.aload_n 0, 1) := by decide +kernel
theorem d_Mod_tickMobile_126 : decode b_Mod_tickMobile 126 = .ok (.getfield 37, 3) := by decide +kernel
theorem d_Mod_tickMobile_129 : decode b_Mod_tickMobile 129 = .ok (.iload_n 1, 1) := by decide +kernel
theorem d_Mod_tickMobile_130 : decode b_Mod_tickMobile 130 = .ok (.iconst 0, 1) := by decide +kernel
theorem d_Mod_tickMobile_131 : decode b_Mod_tickMobile 131 = .ok (.iastore, 1) := by decide +kernel
theorem d_Mod_tickMobile_132 : decode b_Mod_tickMobile 132 = .ok (.return_, 1) := by decide +kernel
theorem d_Mod_inject_0 : decode b_Mod_inject 0 = .ok (.iload_n 1, 1) := by decide +kernel
theorem d_Mod_inject_1 : decode b_Mod_inject 1 = .ok (.ifCond .lt 54, 3) := by decide +kernel
theorem d_Mod_inject_4 : decode b_Mod_inject 4 = .ok (.iload_n 1, 1) := by decide +kernel
theorem d_Mod_inject_5 : decode b_Mod_inject 5 = .ok (.iconst 3, 1) := by decide +kernel
theorem d_Mod_inject_6 : decode b_Mod_inject 6 = .ok (.if_icmp .gt 49, 3) := by decide +kernel
theorem d_Mod_inject_9 : decode b_Mod_inject 9 = .ok (.iload_n 2, 1) := by decide +kernel
theorem d_Mod_inject_10 : decode b_Mod_inject 10 = .ok (.invokestatic 101, 3) := by decide +kernel
theorem d_Mod_inject_13 : decode b_Mod_inject 13 = .ok (.ifCond .eq 42, 3) := by decide +kernel
theorem d_Mod_inject_16 : decode b_Mod_inject 16 = .ok (.iload_n 3, 1) := by decide +kernel
theorem d_Mod_inject_17 : decode b_Mod_inject 17 = .ok (.ifCond .lt 38, 3) := by decide +kernel
theorem d_Mod_inject_20 : decode b_Mod_inject 20 = .ok (.iload_n 3, 1) := by decide +kernel
theorem d_Mod_inject_21 : decode b_Mod_inject 21 = .ok (.iconst 3, 1) := by decide +kernel
theorem d_Mod_inject_22 : decode b_Mod_inject 22 = .ok (.if_icmp .gt 33, 3) := by decide +kernel
theorem d_Mod_inject_25 : decode b_Mod_inject 25 = .ok (.iload 4, 2) := by decide +kernel
theorem d_Mod_inject_27 : decode b_Mod_inject 27 = .ok (.ifCond .lt 28, 3) := by decide +kernel
theorem d_Mod_inject_30 : decode b_Mod_inject 30 = .ok (.iload 4, 2) := by decide +kernel
theorem d_Mod_inject_32 : decode b_Mod_inject 32 = .ok (.bipush 60, 2) := by decide +kernel
theorem d_Mod_inject_34 : decode b_Mod_inject 34 = .ok (.if_icmp .gt 21, 3) := by decide +kernel
theorem d_Mod_inject_37 : decode b_Mod_inject 37 = .ok (.iload 5, 2) := by decide +kernel
theorem d_Mod_inject_39 : decode b_Mod_inject 39 = .ok (.iconst 1, 1) := by decide +kernel
theorem d_Mod_inject_40 : decode b_Mod_inject 40 = .ok (.if_icmp .lt 15, 3) := by decide +kernel
theorem d_Mod_inject_43 : decode b_Mod_inject 43 = .ok (.iload 5, 2) := by decide +kernel
theorem d_Mod_inject_45 : decode b_Mod_inject 45 = .ok (.sipush 9999, 3) := by decide +kernel
theorem d_Mod_inject_48 : decode b_Mod_inject 48 = .ok (.if_icmp .gt 7, 3) := by decide +kernel
theorem d_Mod_inject_51 : decode b_Mod_inject 51 = .ok (.iconst 1, 1) := by decide +kernel
theorem d_Mod_inject_52 : decode b_Mod_inject 52 = .ok (.goto 4, 3) := by decide +kernel
theorem d_Mod_inject_55 : decode b_Mod_inject 55 = .ok (.iconst 0, 1) := by decide +kernel
theorem d_Mod_inject_56 : decode b_Mod_inject 56 = .ok (.istore 7, 2) := by decide +kernel
theorem d_Mod_inject_58 : decode b_Mod_inject 58 = .ok (.iload 7, 2) := by decide +kernel
theorem d_Mod_inject_60 : decode b_Mod_inject 60 = .ok (.ifCond .eq 34, 3) := by decide +kernel
theorem d_Mod_inject_63 : decode b_Mod_inject 63 = .ok (.iload_n 3, 1) := by decide +kernel
theorem d_Mod_inject_64 : decode b_Mod_inject 64 = .ok (.ifCond .ne 7, 3) := by decide +kernel
theorem d_Mod_inject_67 : decode b_Mod_inject 67 = .ok (.iconst 1, 1) := by decide +kernel
theorem d_Mod_inject_68 : decode b_Mod_inject 68 = .ok (.goto 4, 3) := by decide +kernel
theorem d_Mod_inject_71 : decode b_Mod_inject 71 = .ok (.iconst 0, 1) := by decide +kernel
theorem d_Mod_inject_72 : decode b_Mod_inject 72 = .ok (.iload 4, 2) := by decide +kernel
theorem d_Mod_inject_74 : decode b_Mod_inject 74 = .ok (.ifCond .ne 7, 3) := by decide +kernel
theorem d_Mod_inject_77 : decode b_Mod_inject 77 = .ok (.iconst 1, 1) := by decide +kernel
theorem d_Mod_inject_78 : decode b_Mod_inject 78 = .ok (.goto 4, 3) := by decide +kernel
theorem d_Mod_inject_81 : decode b_Mod_inject 81 = .ok (.iconst 0, 1) := by decide +kernel
theorem d_Mod_inject_82 : decode b_Mod_inject 82 = .ok (.if_icmp .ne 12, 3) := by decide +kernel
theorem d_Mod_inject_85 : decode b_Mod_inject 85 = .ok (.aload_n 0, 1) := by decide +kernel
theorem d_Mod_inject_86 : decode b_Mod_inject 86 = .ok (.getfield 93, 3) := by decide +kernel
theorem d_Mod_inject_89 : decode b_Mod_inject 89 = .ok (.bipush 40, 2) := by decide +kernel
theorem d_Mod_inject_91 : decode b_Mod_inject 91 = .ok (.if_icmp .lt 5, 3) := by decide +kernel
theorem d_Mod_inject_94 : decode b_Mod_inject 94 = .ok (.iconst 0, 1) := by decide +kernel
theorem d_Mod_inject_95 : decode b_Mod_inject 95 = .ok (.ireturn, 1) := by decide +kernel
theorem d_Mod_inject_96 : decode b_Mod_inject 96 = .ok (.aload_n 0, 1) := by decide +kernel
theorem d_Mod_inject_97 : decode b_Mod_inject 97 = .ok (.iconst 2, 1) := by decide +kernel
theorem d_Mod_inject_98 : decode b_Mod_inject 98 = .ok (.iload_n 1, 1) := by decide +kernel
theorem d_Mod_inject_99 : decode b_Mod_inject 99 = .ok (.iload_n 2, 1) := by decide +kernel
theorem d_Mod_inject_100 : decode b_Mod_inject 100 = .ok (.iconst 0, 1) := by decide +kernel
theorem d_Mod_inject_101 : decode b_Mod_inject 101 = .ok (.iload 5, 2) := by decide +kernel
theorem d_Mod_inject_103 : decode b_Mod_inject 103 = .ok (.iload_n 3, 1) := by decide +kernel
theorem d_Mod_inject_104 : decode b_Mod_inject 104 = .ok (.iload 4, 2) := by decide +kernel
theorem d_Mod_inject_106 : decode b_Mod_inject 106 = .ok (.iconst 0, 1) := by decide +kernel
theorem d_Mod_inject_107 : decode b_Mod_inject 107 = .ok (.iload 6, 2) := by decide +kernel
theorem d_Mod_inject_109 : decode b_Mod_inject 109 = .ok (.invokevirtual 109, 3) := by decide +kernel
theorem d_Mod_inject_112 : decode b_Mod_inject 112 = .ok (.iconst 1, 1) := by decide +kernel
theorem d_Mod_inject_113 : decode b_Mod_inject 113 = .ok (.ireturn, 1) := by decide +kernel
theorem d_Mod_messages_0 : decode b_Mod_messages 0 = .ok (.aload_n 0, 1) := by decide +kernel
theorem d_Mod_messages_1 : decode b_Mod_messages 1 = .ok (.getfield 93, 3) := by decide +kernel
theorem d_Mod_messages_4 : decode b_Mod_messages 4 = .ok (.ireturn, 1) := by decide +kernel
theorem d_Mod_message_0 : decode b_Mod_message 0 = .ok (.aload_n 0, 1) := by decide +kernel
theorem d_Mod_message_1 : decode b_Mod_message 1 = .ok (.iload_n 1, 1) := by decide +kernel
theorem d_Mod_message_2 : decode b_Mod_message 2 = .ok (.invokevirtual 132, 3) := by decide +kernel
theorem d_Mod_message_5 : decode b_Mod_message 5 = .ok (.ifCond .eq 61, 3) := by decide +kernel
theorem d_Mod_message_8 : decode b_Mod_message 8 = .ok (.ldc 168, 2) := by decide +kernel
theorem d_Mod_message_10 : decode b_Mod_message 10 = .ok (.aload_n 0, 1) := by decide +kernel
theorem d_Mod_message_11 : decode b_Mod_message 11 = .ok (.getfield 7, 3) := by decide +kernel
theorem d_Mod_message_14 : decode b_Mod_message 14 = .ok (.bipush 9, 2) := by decide +kernel
theorem d_Mod_message_16 : decode b_Mod_message 16 = .ok (.iload_n 1, 1) := by decide +kernel
theorem d_Mod_message_17 : decode b_Mod_message 17 = .ok (.imul, 1) := by decide +kernel
theorem d_Mod_message_18 : decode b_Mod_message 18 = .ok (.iaload, 1) := by decide +kernel
theorem d_Mod_message_19 : decode b_Mod_message 19 = .ok (.imul, 1) := by decide +kernel
theorem d_Mod_message_20 : decode b_Mod_message 20 = .ok (.ldc 169, 2) := by decide +kernel
theorem d_Mod_message_22 : decode b_Mod_message 22 = .ok (.aload_n 0, 1) := by decide +kernel
theorem d_Mod_message_23 : decode b_Mod_message 23 = .ok (.getfield 7, 3) := by decide +kernel
theorem d_Mod_message_26 : decode b_Mod_message 26 = .ok (.bipush 9, 2) := by decide +kernel
theorem d_Mod_message_28 : decode b_Mod_message 28 = .ok (.iload_n 1, 1) := by decide +kernel
theorem d_Mod_message_29 : decode b_Mod_message 29 = .ok (.imul, 1) := by decide +kernel
theorem d_Mod_message_30 : decode b_Mod_message 30 = .ok (.iconst 1, 1) := by decide +kernel
theorem d_Mod_message_31 : decode b_Mod_message 31 = .ok (.iadd, 1) := by decide +kernel
theorem d_Mod_message_32 : decode b_Mod_message 32 = .ok (.iaload, 1) := by decide +kernel
theorem d_Mod_message_33 : decode b_Mod_message 33 = .ok (.imul, 1) := by decide +kernel
theorem d_Mod_message_34 : decode b_Mod_message 34 = .ok (.iadd, 1) := by decide +kernel
theorem d_Mod_message_35 : decode b_Mod_message 35 = .ok (.sipush 10000, 3) := by decide +kernel
theorem d_Mod_message_38 : decode b_Mod_message 38 = .ok (.aload_n 0, 1) := by decide +kernel
theorem d_Mod_message_39 : decode b_Mod_message 39 = .ok (.getfield 7, 3) := by decide +kernel
theorem d_Mod_message_42 : decode b_Mod_message 42 = .ok (.bipush 9, 2) := by decide +kernel
theorem d_Mod_message_44 : decode b_Mod_message 44 = .ok (.iload_n 1, 1) := by decide +kernel
theorem d_Mod_message_45 : decode b_Mod_message 45 = .ok (.imul, 1) := by decide +kernel
theorem d_Mod_message_46 : decode b_Mod_message 46 = .ok (.iconst 2, 1) := by decide +kernel
theorem d_Mod_message_47 : decode b_Mod_message 47 = .ok (.iadd, 1) := by decide +kernel
theorem d_Mod_message_48 : decode b_Mod_message 48 = .ok (.iaload, 1) := by decide +kernel
theorem d_Mod_message_49 : decode b_Mod_message 49 = .ok (.imul, 1) := by decide +kernel
theorem d_Mod_message_50 : decode b_Mod_message 50 = .ok (.iadd, 1) := by decide +kernel
theorem d_Mod_message_51 : decode b_Mod_message 51 = .ok (.aload_n 0, 1) := by decide +kernel
theorem d_Mod_message_52 : decode b_Mod_message 52 = .ok (.getfield 7, 3) := by decide +kernel
theorem d_Mod_message_55 : decode b_Mod_message 55 = .ok (.bipush 9, 2) := by decide +kernel
theorem d_Mod_message_57 : decode b_Mod_message 57 = .ok (.iload_n 1, 1) := by decide +kernel
theorem d_Mod_message_58 : decode b_Mod_message 58 = .ok (.imul, 1) := by decide +kernel
theorem d_Mod_message_59 : decode b_Mod_message 59 = .ok (.iconst 4, 1) := by decide +kernel
theorem d_Mod_message_60 : decode b_Mod_message 60 = .ok (.iadd, 1) := by decide +kernel
theorem d_Mod_message_61 : decode b_Mod_message 61 = .ok (.iaload, 1) := by decide +kernel
theorem d_Mod_message_62 : decode b_Mod_message 62 = .ok (.iadd, 1) := by decide +kernel
theorem d_Mod_message_63 : decode b_Mod_message 63 = .ok (.goto 4, 3) := by decide +kernel
theorem d_Mod_message_66 : decode b_Mod_message 66 = .ok (.iconst (-1), 1) := by decide +kernel
theorem d_Mod_message_67 : decode b_Mod_message 67 = .ok (.ireturn, 1) := by decide +kernel
theorem d_Mod_place_0 : decode b_Mod_place 0 = .ok (.iload_n 1, 1) := by decide +kernel
theorem d_Mod_place_1 : decode b_Mod_place 1 = .ok (.invokestatic 101, 3) := by decide +kernel
theorem d_Mod_place_4 : decode b_Mod_place 4 = .ok (.ifCond .eq 12, 3) := by decide +kernel
theorem d_Mod_place_7 : decode b_Mod_place 7 = .ok (.aload_n 0, 1) := by decide +kernel
theorem d_Mod_place_8 : decode b_Mod_place 8 = .ok (.getfield 16, 3) := by decide +kernel
theorem d_Mod_place_11 : decode b_Mod_place 11 = .ok (.iload_n 1, 1) := by decide +kernel
theorem d_Mod_place_12 : decode b_Mod_place 12 = .ok (.iaload, 1) := by decide +kernel
theorem d_Mod_place_13 : decode b_Mod_place 13 = .ok (.goto 4, 3) := by decide +kernel
theorem d_Mod_place_16 : decode b_Mod_place 16 = .ok (.iconst (-1), 1) := by decide +kernel
theorem d_Mod_place_17 : decode b_Mod_place 17 = .ok (.ireturn, 1) := by decide +kernel
theorem d_Mod_registered_0 : decode b_Mod_registered 0 = .ok (.iload_n 1, 1) := by decide +kernel
theorem d_Mod_registered_1 : decode b_Mod_registered 1 = .ok (.invokestatic 101, 3) := by decide +kernel
theorem d_Mod_registered_4 : decode b_Mod_registered 4 = .ok (.ifCond .eq 12, 3) := by decide +kernel
theorem d_Mod_registered_7 : decode b_Mod_registered 7 = .ok (.aload_n 0, 1) := by decide +kernel
theorem d_Mod_registered_8 : decode b_Mod_registered 8 = .ok (.getfield 25, 3) := by decide +kernel
theorem d_Mod_registered_11 : decode b_Mod_registered 11 = .ok (.iload_n 1, 1) := by decide +kernel
theorem d_Mod_registered_12 : decode b_Mod_registered 12 = .ok (.iaload, 1) := by decide +kernel
theorem d_Mod_registered_13 : decode b_Mod_registered 13 = .ok (.goto 4, 3) := by decide +kernel
theorem d_Mod_registered_16 : decode b_Mod_registered 16 = .ok (.iconst (-1), 1) := by decide +kernel
theorem d_Mod_registered_17 : decode b_Mod_registered 17 = .ok (.ireturn, 1) := by decide +kernel
theorem d_Mod_open_0 : decode b_Mod_open 0 = .ok (.iload_n 1, 1) := by decide +kernel
theorem d_Mod_open_1 : decode b_Mod_open 1 = .ok (.invokestatic 101, 3) := by decide +kernel
theorem d_Mod_open_4 : decode b_Mod_open 4 = .ok (.ifCond .eq 12, 3) := by decide +kernel
theorem d_Mod_open_7 : decode b_Mod_open 7 = .ok (.aload_n 0, 1) := by decide +kernel
theorem d_Mod_open_8 : decode b_Mod_open 8 = .ok (.getfield 37, 3) := by decide +kernel
theorem d_Mod_open_11 : decode b_Mod_open 11 = .ok (.iload_n 1, 1) := by decide +kernel
theorem d_Mod_open_12 : decode b_Mod_open 12 = .ok (.iaload, 1) := by decide +kernel
theorem d_Mod_open_13 : decode b_Mod_open 13 = .ok (.goto 4, 3) := by decide +kernel
theorem d_Mod_open_16 : decode b_Mod_open 16 = .ok (.iconst 0, 1) := by decide +kernel
theorem d_Mod_open_17 : decode b_Mod_open 17 = .ok (.ireturn, 1) := by decide +kernel
theorem d_Mod_binding_0 : decode b_Mod_binding 0 = .ok (.iload_n 1, 1) := by decide +kernel
theorem d_Mod_binding_1 : decode b_Mod_binding 1 = .ok (.invokestatic 101, 3) := by decide +kernel
theorem d_Mod_binding_4 : decode b_Mod_binding 4 = .ok (.ifCond .eq 40, 3) := by decide +kernel
theorem d_Mod_binding_7 : decode b_Mod_binding 7 = .ok (.aload_n 0, 1) := by decide +kernel
theorem d_Mod_binding_8 : decode b_Mod_binding 8 = .ok (.getfield 113, 3) := by decide +kernel
theorem d_Mod_binding_11 : decode b_Mod_binding 11 = .ok (.aload_n 0, 1) := by decide +kernel
theorem d_Mod_binding_12 : decode b_Mod_binding 12 = .ok (.getfield 58, 3) := by decide +kernel
theorem d_Mod_binding_15 : decode b_Mod_binding 15 = .ok (.iload_n 1, 1) := by decide +kernel
theorem d_Mod_binding_16 : decode b_Mod_binding 16 = .ok (.iaload, 1) := by decide +kernel
theorem d_Mod_binding_17 : decode b_Mod_binding 17 = .ok (.if_icmp .ge 27, 3) := by decide +kernel
theorem d_Mod_binding_20 : decode b_Mod_binding 20 = .ok (.bipush 100, 2) := by decide +kernel
theorem d_Mod_binding_22 : decode b_Mod_binding 22 = .ok (.aload_n 0, 1) := by decide +kernel
theorem d_Mod_binding_23 : decode b_Mod_binding 23 = .ok (.getfield 55, 3) := by decide +kernel
theorem d_Mod_binding_26 : decode b_Mod_binding 26 = .ok (.iload_n 1, 1) := by decide +kernel
theorem d_Mod_binding_27 : decode b_Mod_binding 27 = .ok (.iaload, 1) := by decide +kernel
theorem d_Mod_binding_28 : decode b_Mod_binding 28 = .ok (.imul, 1) := by decide +kernel
theorem d_Mod_binding_29 : decode b_Mod_binding 29 = .ok (.aload_n 0, 1) := by decide +kernel
theorem d_Mod_binding_30 : decode b_Mod_binding 30 = .ok (.getfield 58, 3) := by decide +kernel
theorem d_Mod_binding_33 : decode b_Mod_binding 33 = .ok (.iload_n 1, 1) := by decide +kernel
theorem d_Mod_binding_34 : decode b_Mod_binding 34 = .ok (.iaload, 1) := by decide +kernel
theorem d_Mod_binding_35 : decode b_Mod_binding 35 = .ok (.iadd, 1) := by decide +kernel
theorem d_Mod_binding_36 : decode b_Mod_binding 36 = .ok (.aload_n 0, 1) := by decide +kernel
theorem d_Mod_binding_37 : decode b_Mod_binding 37 = .ok (.getfield 113, 3) := by decide +kernel
theorem d_Mod_binding_40 : decode b_Mod_binding 40 = .ok (.isub, 1) := by decide +kernel
theorem d_Mod_binding_41 : decode b_Mod_binding 41 = .ok (.goto 4, 3) := by decide +kernel
theorem d_Mod_binding_44 : decode b_Mod_binding 44 = .ok (.iconst 0, 1) := by decide +kernel
theorem d_Mod_binding_45 : decode b_Mod_binding 45 = .ok (.ireturn, 1) := by decide +kernel
theorem d_Mod_visit_0 : decode b_Mod_visit 0 = .ok (.iload_n 2, 1) := by decide +kernel
theorem d_Mod_visit_1 : decode b_Mod_visit 1 = .ok (.invokestatic 101, 3) := by decide +kernel
theorem d_Mod_visit_4 : decode b_Mod_visit 4 = .ok (.ifCond .eq 13, 3) := by decide +kernel
theorem d_Mod_visit_7 : decode b_Mod_visit 7 = .ok (.iload_n 1, 1) := by decide +kernel
theorem d_Mod_visit_8 : decode b_Mod_visit 8 = .ok (.iconst 1, 1) := by decide +kernel
theorem d_Mod_visit_9 : decode b_Mod_visit 9 = .ok (.if_icmp .lt 8, 3) := by decide +kernel
theorem d_Mod_visit_12 : decode b_Mod_visit 12 = .ok (.iload_n 1, 1) := by decide +kernel
theorem d_Mod_visit_13 : decode b_Mod_visit 13 = .ok (.iconst 3, 1) := by decide +kernel
theorem d_Mod_visit_14 : decode b_Mod_visit 14 = .ok (.if_icmp .le 5, 3) := by decide +kernel
theorem d_Mod_visit_17 : decode b_Mod_visit 17 = .ok (.iconst 0, 1) := by decide +kernel
theorem d_Mod_visit_18 : decode b_Mod_visit 18 = .ok (.ireturn, 1) := by decide +kernel
theorem d_Mod_visit_19 : decode b_Mod_visit 19 = .ok (.aload_n 0, 1) := by decide +kernel
theorem d_Mod_visit_20 : decode b_Mod_visit 20 = .ok (.getfield 61, 3) := by decide +kernel
theorem d_Mod_visit_23 : decode b_Mod_visit 23 = .ok (.iconst 2, 1) := by decide +kernel
theorem d_Mod_visit_24 : decode b_Mod_visit 24 = .ok (.iload_n 1, 1) := by decide +kernel
theorem d_Mod_visit_25 : decode b_Mod_visit 25 = .ok (.imul, 1) := by decide +kernel
theorem d_Mod_visit_26 : decode b_Mod_visit 26 = .ok (.iload_n 2, 1) := by decide +kernel
theorem d_Mod_visit_27 : decode b_Mod_visit 27 = .ok (.iadd, 1) := by decide +kernel
theorem d_Mod_visit_28 : decode b_Mod_visit 28 = .ok (.iaload, 1) := by decide +kernel
theorem d_Mod_visit_29 : decode b_Mod_visit 29 = .ok (.aload_n 0, 1) := by decide +kernel
theorem d_Mod_visit_30 : decode b_Mod_visit 30 = .ok (.getfield 113, 3) := by decide +kernel
theorem d_Mod_visit_33 : decode b_Mod_visit 33 = .ok (.isub, 1) := by decide +kernel
theorem d_Mod_visit_34 : decode b_Mod_visit 34 = .ok (.istore_n 3, 1) := by decide +kernel
theorem d_Mod_visit_35 : decode b_Mod_visit 35 = .ok (.iload_n 3, 1) := by decide +kernel
theorem d_Mod_visit_36 : decode b_Mod_visit 36 = .ok (.ifCond .le 7, 3) := by decide +kernel
theorem d_Mod_visit_39 : decode b_Mod_visit 39 = .ok (.iload_n 3, 1) := by decide +kernel
theorem d_Mod_visit_40 : decode b_Mod_visit 40 = .ok (.goto 4, 3) := by decide +kernel
theorem d_Mod_visit_43 : decode b_Mod_visit 43 = .ok (.iconst 0, 1) := by decide +kernel
theorem d_Mod_visit_44 : decode b_Mod_visit 44 = .ok (.ireturn, 1) := by decide +kernel
theorem d_Mod_count_0 : decode b_Mod_count 0 = .ok (.iload_n 2, 1) := by decide +kernel
theorem d_Mod_count_1 : decode b_Mod_count 1 = .ok (.invokestatic 101, 3) := by decide +kernel
theorem d_Mod_count_4 : decode b_Mod_count 4 = .ok (.ifCond .eq 12, 3) := by decide +kernel
theorem d_Mod_count_7 : decode b_Mod_count 7 = .ok (.iload_n 1, 1) := by decide +kernel
theorem d_Mod_count_8 : decode b_Mod_count 8 = .ok (.ifCond .lt 8, 3) := by decide +kernel
theorem d_Mod_count_11 : decode b_Mod_count 11 = .ok (.iload_n 1, 1) := by decide +kernel
theorem d_Mod_count_12 : decode b_Mod_count 12 = .ok (.iconst 3, 1) := by decide +kernel
theorem d_Mod_count_13 : decode b_Mod_count 13 = .ok (.if_icmp .le 5, 3) := by decide +kernel
theorem d_Mod_count_16 : decode b_Mod_count 16 = .ok (.iconst (-1), 1) := by decide +kernel
theorem d_Mod_count_17 : decode b_Mod_count 17 = .ok (.ireturn, 1) := by decide +kernel
theorem d_Mod_count_18 : decode b_Mod_count 18 = .ok (.iload_n 1, 1) := by decide +kernel
theorem d_Mod_count_19 : decode b_Mod_count 19 = .ok (.ifCond .ne 12, 3) := by decide +kernel
theorem d_Mod_count_22 : decode b_Mod_count 22 = .ok (.aload_n 0, 1) := by decide +kernel
theorem d_Mod_count_23 : decode b_Mod_count 23 = .ok (.getfield 46, 3) := by decide +kernel
theorem d_Mod_count_26 : decode b_Mod_count 26 = .ok (.iload_n 2, 1) := by decide +kernel
theorem d_Mod_count_27 : decode b_Mod_count 27 = .ok (.iaload, 1) := by decide +kernel
theorem d_Mod_count_28 : decode b_Mod_count 28 = .ok (.goto 37, 3) := by decide +kernel
theorem d_Mod_count_31 : decode b_Mod_count 31 = .ok (.iload_n 1, 1) := by decide +kernel
theorem d_Mod_count_32 : decode b_Mod_count 32 = .ok (.iconst 1, 1) := by decide +kernel
theorem d_Mod_count_33 : decode b_Mod_count 33 = .ok (.if_icmp .ne 12, 3) := by decide +kernel
theorem d_Mod_count_36 : decode b_Mod_count 36 = .ok (.aload_n 0, 1) := by decide +kernel
theorem d_Mod_count_37 : decode b_Mod_count 37 = .ok (.getfield 73, 3) := by decide +kernel
theorem d_Mod_count_40 : decode b_Mod_count 40 = .ok (.iload_n 2, 1) := by decide +kernel
theorem d_Mod_count_41 : decode b_Mod_count 41 = .ok (.iaload, 1) := by decide +kernel
theorem d_Mod_count_42 : decode b_Mod_count 42 = .ok (.goto 23, 3) := by decide +kernel
theorem d_Mod_count_45 : decode b_Mod_count 45 = .ok (.iload_n 1, 1) := by decide +kernel
theorem d_Mod_count_46 : decode b_Mod_count 46 = .ok (.iconst 2, 1) := by decide +kernel
theorem d_Mod_count_47 : decode b_Mod_count 47 = .ok (.if_icmp .ne 12, 3) := by decide +kernel
theorem d_Mod_count_50 : decode b_Mod_count 50 = .ok (.aload_n 0, 1) := by decide +kernel
theorem d_Mod_count_51 : decode b_Mod_count 51 = .ok (.getfield 76, 3) := by decide +kernel
theorem d_Mod_count_54 : decode b_Mod_count 54 = .ok (.iload_n 2, 1) := by decide +kernel
theorem d_Mod_count_55 : decode b_Mod_count 55 = .ok (.iaload, 1) := by decide +kernel
theorem d_Mod_count_56 : decode b_Mod_count 56 = .ok (.goto 9, 3) := by decide +kernel
theorem d_Mod_count_59 : decode b_Mod_count 59 = .ok (.aload_n 0, 1) := by decide +kernel
theorem d_Mod_count_60 : decode b_Mod_count 60 = .ok (.getfield 70, 3) := by decide +kernel
theorem d_Mod_count_63 : decode b_Mod_count 63 = .ok (.iload_n 2, 1) := by decide +kernel
theorem d_Mod_count_64 : decode b_Mod_count 64 = .ok (.iaload, 1) := by decide +kernel
theorem d_Mod_count_65 : decode b_Mod_count 65 = .ok (.ireturn, 1) := by decide +kernel
theorem d_Mod_take_0 : decode b_Mod_take 0 = .ok (.iconst 0, 1) := by decide +kernel
theorem d_Mod_take_1 : decode b_Mod_take 1 = .ok (.istore_n 2, 1) := by decide +kernel
theorem d_Mod_take_2 : decode b_Mod_take 2 = .ok (.iload_n 2, 1) := by decide +kernel
theorem d_Mod_take_3 : decode b_Mod_take 3 = .ok (.bipush 9, 2) := by decide +kernel
theorem d_Mod_take_5 : decode b_Mod_take 5 = .ok (.if_icmp .ge 26, 3) := by decide +kernel
theorem d_Mod_take_8 : decode b_Mod_take 8 = .ok (.aload_n 0, 1) := by decide +kernel
theorem d_Mod_take_9 : decode b_Mod_take 9 = .ok (.getfield 13, 3) := by decide +kernel
theorem d_Mod_take_12 : decode b_Mod_take 12 = .ok (.iload_n 2, 1) := by decide +kernel
theorem d_Mod_take_13 : decode b_Mod_take 13 = .ok (.aload_n 0, 1) := by decide +kernel
theorem d_Mod_take_14 : decode b_Mod_take 14 = .ok (.getfield 7, 3) := by decide +kernel
theorem d_Mod_take_17 : decode b_Mod_take 17 = .ok (.bipush 9, 2) := by decide +kernel
theorem d_Mod_take_19 : decode b_Mod_take 19 = .ok (.iload_n 1, 1) := by decide +kernel
theorem d_Mod_take_20 : decode b_Mod_take 20 = .ok (.imul, 1) := by decide +kernel
theorem d_Mod_take_21 : decode b_Mod_take 21 = .ok (.iload_n 2, 1) := by decide +kernel
theorem d_Mod_take_22 : decode b_Mod_take 22 = .ok (.iadd, 1) := by decide +kernel
theorem d_Mod_take_23 : decode b_Mod_take 23 = .ok (.iaload, 1) := by decide +kernel
theorem d_Mod_take_24 : decode b_Mod_take 24 = .ok (.iastore, 1) := by decide +kernel
theorem d_Mod_take_25 : decode b_Mod_take 25 = .ok (.iinc 2 1, 3) := by decide +kernel
theorem d_Mod_take_28 : decode b_Mod_take 28 = .ok (.goto (-26), 3) := by decide +kernel
theorem d_Mod_take_31 : decode b_Mod_take 31 = .ok (.aload_n 0, 1) := by decide +kernel
theorem d_Mod_take_32 : decode b_Mod_take 32 = .ok (.dup, 1) := by decide +kernel
theorem d_Mod_take_33 : decode b_Mod_take 33 = .ok (.getfield 93, 3) := by decide +kernel
theorem d_Mod_take_36 : decode b_Mod_take 36 = .ok (.iconst 1, 1) := by decide +kernel
theorem d_Mod_take_37 : decode b_Mod_take 37 = .ok (.isub, 1) := by decide +kernel
theorem d_Mod_take_38 : decode b_Mod_take 38 = .ok (.putfield 93, 3) := by decide +kernel
theorem d_Mod_take_41 : decode b_Mod_take 41 = .ok (.bipush 9, 2) := by decide +kernel
theorem d_Mod_take_43 : decode b_Mod_take 43 = .ok (.iload_n 1, 1) := by decide +kernel
theorem d_Mod_take_44 : decode b_Mod_take 44 = .ok (.imul, 1) := by decide +kernel
theorem d_Mod_take_45 : decode b_Mod_take 45 = .ok (.istore_n 2, 1) := by decide +kernel
theorem d_Mod_take_46 : decode b_Mod_take 46 = .ok (.iload_n 2, 1) := by decide +kernel
theorem d_Mod_take_47 : decode b_Mod_take 47 = .ok (.bipush 9, 2) := by decide +kernel
theorem d_Mod_take_49 : decode b_Mod_take 49 = .ok (.aload_n 0, 1) := by decide +kernel
theorem d_Mod_take_50 : decode b_Mod_take 50 = .ok (.getfield 93, 3) := by decide +kernel
theorem d_Mod_take_53 : decode b_Mod_take 53 = .ok (.imul, 1) := by decide +kernel
theorem d_Mod_take_54 : decode b_Mod_take 54 = .ok (.if_icmp .ge 24, 3) := by decide +kernel
theorem d_Mod_take_57 : decode b_Mod_take 57 = .ok (.aload_n 0, 1) := by decide +kernel
theorem d_Mod_take_58 : decode b_Mod_take 58 = .ok (.getfield 7, 3) := by decide +kernel
theorem d_Mod_take_61 : decode b_Mod_take 61 = .ok (.iload_n 2, 1) := by decide +kernel
theorem d_Mod_take_62 : decode b_Mod_take 62 = .ok (.aload_n 0, 1) := by decide +kernel
theorem d_Mod_take_63 : decode b_Mod_take 63 = .ok (.getfield 7, 3) := by decide +kernel
theorem d_Mod_take_66 : decode b_Mod_take 66 = .ok (.iload_n 2, 1) := by decide +kernel
theorem d_Mod_take_67 : decode b_Mod_take 67 = .ok (.bipush 9, 2) := by decide +kernel
theorem d_Mod_take_69 : decode b_Mod_take 69 = .ok (.iadd, 1) := by decide +kernel
theorem d_Mod_take_70 : decode b_Mod_take 70 = .ok (.iaload, 1) := by decide +kernel
theorem d_Mod_take_71 : decode b_Mod_take 71 = .ok (.iastore, 1) := by decide +kernel
theorem d_Mod_take_72 : decode b_Mod_take 72 = .ok (.iinc 2 1, 3) := by decide +kernel
theorem d_Mod_take_75 : decode b_Mod_take 75 = .ok (.goto (-29), 3) := by decide +kernel
theorem d_Mod_take_78 : decode b_Mod_take 78 = .ok (.return_, 1) := by decide +kernel
theorem d_Mod_pump_0 : decode b_Mod_pump 0 = .ok (.iconst 0, 1) := by decide +kernel
theorem d_Mod_pump_1 : decode b_Mod_pump 1 = .ok (.istore_n 2, 1) := by decide +kernel
theorem d_Mod_pump_2 : decode b_Mod_pump 2 = .ok (.iload_n 2, 1) := by decide +kernel
theorem d_Mod_pump_3 : decode b_Mod_pump 3 = .ok (.iconst 3, 1) := by decide +kernel
theorem d_Mod_pump_4 : decode b_Mod_pump 4 = .ok (.if_icmp .ge 79, 3) := by decide +kernel
theorem d_Mod_pump_7 : decode b_Mod_pump 7 = .ok (.aload_n 0, 1) := by decide +kernel
theorem d_Mod_pump_8 : decode b_Mod_pump 8 = .ok (.getfield 73, 3) := by decide +kernel
theorem d_Mod_pump_11 : decode b_Mod_pump 11 = .ok (.iload_n 1, 1) := by decide +kernel
theorem d_Mod_pump_12 : decode b_Mod_pump 12 = .ok (.iaload, 1) := by decide +kernel
theorem d_Mod_pump_13 : decode b_Mod_pump 13 = .ok (.aload_n 0, 1) := by decide +kernel
theorem d_Mod_pump_14 : decode b_Mod_pump 14 = .ok (.getfield 70, 3) := by decide +kernel
theorem d_Mod_pump_17 : decode b_Mod_pump 17 = .ok (.iload_n 1, 1) := by decide +kernel
theorem d_Mod_pump_18 : decode b_Mod_pump 18 = .ok (.iaload, 1) := by decide +kernel
theorem d_Mod_pump_19 : decode b_Mod_pump 19 = .ok (.if_icmp .ge 58, 3) := by decide +kernel
theorem d_Mod_pump_22 : decode b_Mod_pump 22 = .ok (.aload_n 0, 1) := by decide +kernel
theorem d_Mod_pump_23 : decode b_Mod_pump 23 = .ok (.getfield 73, 3) := by decide +kernel
theorem d_Mod_pump_26 : decode b_Mod_pump 26 = .ok (.iload_n 1, 1) := by decide +kernel
theorem d_Mod_pump_27 : decode b_Mod_pump 27 = .ok (.iaload, 1) := by decide +kernel
theorem d_Mod_pump_28 : decode b_Mod_pump 28 = .ok (.aload_n 0, 1) := by decide +kernel
theorem d_Mod_pump_29 : decode b_Mod_pump 29 = .ok (.getfield 76, 3) := by decide +kernel
theorem d_Mod_pump_32 : decode b_Mod_pump 32 = .ok (.iload_n 1, 1) := by decide +kernel
theorem d_Mod_pump_33 : decode b_Mod_pump 33 = .ok (.iaload, 1) := by decide +kernel
theorem d_Mod_pump_34 : decode b_Mod_pump 34 = .ok (.iconst 3, 1) := by decide +kernel
theorem d_Mod_pump_35 : decode b_Mod_pump 35 = .ok (.iadd, 1) := by decide +kernel
theorem d_Mod_pump_36 : decode b_Mod_pump 36 = .ok (.if_icmp .ge 41, 3) := by decide +kernel
theorem d_Mod_pump_39 : decode b_Mod_pump 39 = .ok (.aload_n 0, 1) := by decide +kernel
theorem d_Mod_pump_40 : decode b_Mod_pump 40 = .ok (.getfield 73, 3) := by decide +kernel
theorem d_Mod_pump_43 : decode b_Mod_pump 43 = .ok (.iload_n 1, 1) := by decide +kernel
theorem d_Mod_pump_44 : decode b_Mod_pump 44 = .ok (.dup2, 1) := by decide +kernel
theorem d_Mod_pump_45 : decode b_Mod_pump 45 = .ok (.iaload, 1) := by decide +kernel
theorem d_Mod_pump_46 : decode b_Mod_pump 46 = .ok (.iconst 1, 1) := by decide +kernel
theorem d_Mod_pump_47 : decode b_Mod_pump 47 = .ok (.iadd, 1) := by decide +kernel
theorem d_Mod_pump_48 : decode b_Mod_pump 48 = .ok (.iastore, 1) := by decide +kernel
theorem d_Mod_pump_49 : decode b_Mod_pump 49 = .ok (.aload_n 0, 1) := by decide +kernel
theorem d_Mod_pump_50 : decode b_Mod_pump 50 = .ok (.iconst 4, 1) := by decide +kernel
theorem d_Mod_pump_51 : decode b_Mod_pump 51 = .ok (.iconst 0, 1) := by decide +kernel
theorem d_Mod_pump_52 : decode b_Mod_pump 52 = .ok (.iload_n 1, 1) := by decide +kernel
theorem d_Mod_pump_53 : decode b_Mod_pump 53 = .ok (.iconst 0, 1) := by decide +kernel
theorem d_Mod_pump_54 : decode b_Mod_pump 54 = .ok (.aload_n 0, 1) := by decide +kernel
theorem d_Mod_pump_55 : decode b_Mod_pump 55 = .ok (.getfield 73, 3) := by decide +kernel
theorem d_Mod_pump_58 : decode b_Mod_pump 58 = .ok (.iload_n 1, 1) := by decide +kernel
theorem d_Mod_pump_59 : decode b_Mod_pump 59 = .ok (.iaload, 1) := by decide +kernel
theorem d_Mod_pump_60 : decode b_Mod_pump 60 = .ok (.iconst 0, 1) := by decide +kernel
theorem d_Mod_pump_61 : decode b_Mod_pump 61 = .ok (.iconst 0, 1) := by decide +kernel
theorem d_Mod_pump_62 : decode b_Mod_pump 62 = .ok (.iconst 0, 1) := by decide +kernel
theorem d_Mod_pump_63 : decode b_Mod_pump 63 = .ok (.iconst 0, 1) := by decide +kernel
theorem d_Mod_pump_64 : decode b_Mod_pump 64 = .ok (.invokevirtual 109, 3) := by decide +kernel
theorem d_Mod_pump_67 : decode b_Mod_pump 67 = .ok (.aload_n 0, 1) := by decide +kernel
theorem d_Mod_pump_68 : decode b_Mod_pump 68 = .ok (.getfield 79, 3) := by decide +kernel
theorem d_Mod_pump_71 : decode b_Mod_pump 71 = .ok (.iload_n 1, 1) := by decide +kernel
theorem d_Mod_pump_72 : decode b_Mod_pump 72 = .ok (.aload_n 0, 1) := by decide +kernel
theorem d_Mod_pump_73 : decode b_Mod_pump 73 = .ok (.getfield 113, 3) := by decide +kernel
theorem d_Mod_pump_76 : decode b_Mod_pump 76 = .ok (.iastore, 1) := by decide +kernel
theorem d_Mod_pump_77 : decode b_Mod_pump 77 = .ok (.iinc 2 1, 3) := by decide +kernel
theorem d_Mod_pump_80 : decode b_Mod_pump 80 = .ok (.goto (-78), 3) := by decide +kernel
theorem d_Mod_pump_83 : decode b_Mod_pump 83 = .ok (.return_, 1) := by decide +kernel
theorem d_Mod_duplicate_0 : decode b_Mod_duplicate 0 = .ok (.aload_n 0, 1) := by decide +kernel
theorem d_Mod_duplicate_1 : decode b_Mod_duplicate 1 = .ok (.iload_n 1, 1) := by decide +kernel
theorem d_Mod_duplicate_2 : decode b_Mod_duplicate 2 = .ok (.invokevirtual 132, 3) := by decide +kernel
theorem d_Mod_duplicate_5 : decode b_Mod_duplicate 5 = .ok (.ifCond .eq 12, 3) := by decide +kernel
theorem d_Mod_duplicate_8 : decode b_Mod_duplicate 8 = .ok (.aload_n 0, 1) := by decide +kernel
theorem d_Mod_duplicate_9 : decode b_Mod_duplicate 9 = .ok (.getfield 93, 3) := by decide +kernel
theorem d_Mod_duplicate_12 : decode b_Mod_duplicate 12 = .ok (.bipush 40, 2) := by decide +kernel
theorem d_Mod_duplicate_14 : decode b_Mod_duplicate 14 = .ok (.if_icmp .lt 5, 3) := by decide +kernel
theorem d_Mod_duplicate_17 : decode b_Mod_duplicate 17 = .ok (.iconst 0, 1) := by decide +kernel
theorem d_Mod_duplicate_18 : decode b_Mod_duplicate 18 = .ok (.ireturn, 1) := by decide +kernel
theorem d_Mod_duplicate_19 : decode b_Mod_duplicate 19 = .ok (.iconst 0, 1) := by decide +kernel
theorem d_Mod_duplicate_20 : decode b_Mod_duplicate 20 = .ok (.istore_n 2, 1) := by decide +kernel
theorem d_Mod_duplicate_21 : decode b_Mod_duplicate 21 = .ok (.iload_n 2, 1) := by decide +kernel
theorem d_Mod_duplicate_22 : decode b_Mod_duplicate 22 = .ok (.bipush 9, 2) := by decide +kernel
theorem d_Mod_duplicate_24 : decode b_Mod_duplicate 24 = .ok (.if_icmp .ge 34, 3) := by decide +kernel
theorem d_Mod_duplicate_27 : decode b_Mod_duplicate 27 = .ok (.aload_n 0, 1) := by decide +kernel
theorem d_Mod_duplicate_28 : decode b_Mod_duplicate 28 = .ok (.getfield 7, 3) := by decide +kernel
theorem d_Mod_duplicate_31 : decode b_Mod_duplicate 31 = .ok (.bipush 9, 2) := by decide +kernel
theorem d_Mod_duplicate_33 : decode b_Mod_duplicate 33 = .ok (.aload_n 0, 1) := by decide +kernel
theorem d_Mod_duplicate_34 : decode b_Mod_duplicate 34 = .ok (.getfield 93, 3) := by decide +kernel
theorem d_Mod_duplicate_37 : decode b_Mod_duplicate 37 = .ok (.imul, 1) := by decide +kernel
theorem d_Mod_duplicate_38 : decode b_Mod_duplicate 38 = .ok (.iload_n 2, 1) := by decide +kernel
theorem d_Mod_duplicate_39 : decode b_Mod_duplicate 39 = .ok (.iadd, 1) := by decide +kernel
theorem d_Mod_duplicate_40 : decode b_Mod_duplicate 40 = .ok (.aload_n 0, 1) := by decide +kernel
theorem d_Mod_duplicate_41 : decode b_Mod_duplicate 41 = .ok (.getfield 7, 3) := by decide +kernel
theorem d_Mod_duplicate_44 : decode b_Mod_duplicate 44 = .ok (.bipush 9, 2) := by decide +kernel
theorem d_Mod_duplicate_46 : decode b_Mod_duplicate 46 = .ok (.iload_n 1, 1) := by decide +kernel
theorem d_Mod_duplicate_47 : decode b_Mod_duplicate 47 = .ok (.imul, 1) := by decide +kernel
theorem d_Mod_duplicate_48 : decode b_Mod_duplicate 48 = .ok (.iload_n 2, 1) := by decide +kernel
theorem d_Mod_duplicate_49 : decode b_Mod_duplicate 49 = .ok (.iadd, 1) := by decide +kernel
theorem d_Mod_duplicate_50 : decode b_Mod_duplicate 50 = .ok (.iaload, 1) := by decide +kernel
theorem d_Mod_duplicate_51 : decode b_Mod_duplicate 51 = .ok (.iastore, 1) := by decide +kernel
theorem d_Mod_duplicate_52 : decode b_Mod_duplicate 52 = .ok (.iinc 2 1, 3) := by decide +kernel
theorem d_Mod_duplicate_55 : decode b_Mod_duplicate 55 = .ok (.goto (-34), 3) := by decide +kernel
theorem d_Mod_duplicate_58 : decode b_Mod_duplicate 58 = .ok (.aload_n 0, 1) := by decide +kernel
theorem d_Mod_duplicate_59 : decode b_Mod_duplicate 59 = .ok (.dup, 1) := by decide +kernel
theorem d_Mod_duplicate_60 : decode b_Mod_duplicate 60 = .ok (.getfield 93, 3) := by decide +kernel
theorem d_Mod_duplicate_63 : decode b_Mod_duplicate 63 = .ok (.iconst 1, 1) := by decide +kernel
theorem d_Mod_duplicate_64 : decode b_Mod_duplicate 64 = .ok (.iadd, 1) := by decide +kernel
theorem d_Mod_duplicate_65 : decode b_Mod_duplicate 65 = .ok (.putfield 93, 3) := by decide +kernel
theorem d_Mod_duplicate_68 : decode b_Mod_duplicate 68 = .ok (.iconst 1, 1) := by decide +kernel
theorem d_Mod_duplicate_69 : decode b_Mod_duplicate 69 = .ok (.ireturn, 1) := by decide +kernel
theorem d_Mod_say_0 : decode b_Mod_say 0 = .ok (.iload_n 1, 1) := by decide +kernel
theorem d_Mod_say_1 : decode b_Mod_say 1 = .ok (.invokestatic 101, 3) := by decide +kernel
theorem d_Mod_say_4 : decode b_Mod_say 4 = .ok (.ifCond .eq 15, 3) := by decide +kernel
theorem d_Mod_say_7 : decode b_Mod_say 7 = .ok (.aload_n 0, 1) := by decide +kernel
theorem d_Mod_say_8 : decode b_Mod_say 8 = .ok (.getfield 70, 3) := by decide +kernel
theorem d_Mod_say_11 : decode b_Mod_say 11 = .ok (.iload_n 1, 1) := by decide +kernel
theorem d_Mod_say_12 : decode b_Mod_say 12 = .ok (.iaload, 1) := by decide +kernel
theorem d_Mod_say_13 : decode b_Mod_say 13 = .ok (.sipush 200, 3) := by decide +kernel
theorem d_Mod_say_16 : decode b_Mod_say 16 = .ok (.if_icmp .lt 5, 3) := by decide +kernel
theorem d_Mod_say_19 : decode b_Mod_say 19 = .ok (.iconst (-1), 1) := by decide +kernel
theorem d_Mod_say_20 : decode b_Mod_say 20 = .ok (.ireturn, 1) := by decide +kernel
theorem d_Mod_say_21 : decode b_Mod_say 21 = .ok (.aload_n 0, 1) := by decide +kernel
theorem d_Mod_say_22 : decode b_Mod_say 22 = .ok (.getfield 70, 3) := by decide +kernel
theorem d_Mod_say_25 : decode b_Mod_say 25 = .ok (.iload_n 1, 1) := by decide +kernel
theorem d_Mod_say_26 : decode b_Mod_say 26 = .ok (.dup2, 1) := by decide +kernel
theorem d_Mod_say_27 : decode b_Mod_say 27 = .ok (.iaload, 1) := by decide +kernel
theorem d_Mod_say_28 : decode b_Mod_say 28 = .ok (.iconst 1, 1) := by decide +kernel
theorem d_Mod_say_29 : decode b_Mod_say 29 = .ok (.iadd, 1) := by decide +kernel
theorem d_Mod_say_30 : decode b_Mod_say 30 = .ok (.iastore, 1) := by decide +kernel
theorem d_Mod_say_31 : decode b_Mod_say 31 = .ok (.aload_n 0, 1) := by decide +kernel
theorem d_Mod_say_32 : decode b_Mod_say 32 = .ok (.iload_n 1, 1) := by decide +kernel
theorem d_Mod_say_33 : decode b_Mod_say 33 = .ok (.invokevirtual 128, 3) := by decide +kernel
theorem d_Mod_say_36 : decode b_Mod_say 36 = .ok (.aload_n 0, 1) := by decide +kernel
theorem d_Mod_say_37 : decode b_Mod_say 37 = .ok (.getfield 70, 3) := by decide +kernel
theorem d_Mod_say_40 : decode b_Mod_say 40 = .ok (.iload_n 1, 1) := by decide +kernel
theorem d_Mod_say_41 : decode b_Mod_say 41 = .ok (.iaload, 1) := by decide +kernel
theorem d_Mod_say_42 : decode b_Mod_say 42 = .ok (.ireturn, 1) := by decide +kernel
theorem d_Mod_ack_0 : decode b_Mod_ack 0 = .ok (.aload_n 0, 1) := by decide +kernel
theorem d_Mod_ack_1 : decode b_Mod_ack 1 = .ok (.getfield 13, 3) := by decide +kernel
theorem d_Mod_ack_4 : decode b_Mod_ack 4 = .ok (.iconst 4, 1) := by decide +kernel
theorem d_Mod_ack_5 : decode b_Mod_ack 5 = .ok (.iaload, 1) := by decide +kernel
theorem d_Mod_ack_6 : decode b_Mod_ack 6 = .ok (.aload_n 0, 1) := by decide +kernel
theorem d_Mod_ack_7 : decode b_Mod_ack 7 = .ok (.getfield 76, 3) := by decide +kernel
theorem d_Mod_ack_10 : decode b_Mod_ack 10 = .ok (.iload_n 1, 1) := by decide +kernel
theorem d_Mod_ack_11 : decode b_Mod_ack 11 = .ok (.iaload, 1) := by decide +kernel
theorem d_Mod_ack_12 : decode b_Mod_ack 12 = .ok (.if_icmp .gt 4, 3) := by decide +kernel
theorem d_Mod_ack_15 : decode b_Mod_ack 15 = .ok (.return_, 1) := by decide +kernel
theorem d_Mod_ack_16 : decode b_Mod_ack 16 = .ok (.aload_n 0, 1) := by decide +kernel
theorem d_Mod_ack_17 : decode b_Mod_ack 17 = .ok (.getfield 76, 3) := by decide +kernel
theorem d_Mod_ack_20 : decode b_Mod_ack 20 = .ok (.iload_n 1, 1) := by decide +kernel
theorem d_Mod_ack_21 : decode b_Mod_ack 21 = .ok (.aload_n 0, 1) := by decide +kernel
theorem d_Mod_ack_22 : decode b_Mod_ack 22 = .ok (.getfield 13, 3) := by decide +kernel
theorem d_Mod_ack_25 : decode b_Mod_ack 25 = .ok (.iconst 4, 1) := by decide +kernel
theorem d_Mod_ack_26 : decode b_Mod_ack 26 = .ok (.iaload, 1) := by decide +kernel
theorem d_Mod_ack_27 : decode b_Mod_ack 27 = .ok (.iastore, 1) := by decide +kernel
theorem d_Mod_ack_28 : decode b_Mod_ack 28 = .ok (.aload_n 0, 1) := by decide +kernel
theorem d_Mod_ack_29 : decode b_Mod_ack 29 = .ok (.getfield 79, 3) := by decide +kernel
theorem d_Mod_ack_32 : decode b_Mod_ack 32 = .ok (.iload_n 1, 1) := by decide +kernel
theorem d_Mod_ack_33 : decode b_Mod_ack 33 = .ok (.aload_n 0, 1) := by decide +kernel
theorem d_Mod_ack_34 : decode b_Mod_ack 34 = .ok (.getfield 113, 3) := by decide +kernel
theorem d_Mod_ack_37 : decode b_Mod_ack 37 = .ok (.iastore, 1) := by decide +kernel
theorem d_Mod_ack_38 : decode b_Mod_ack 38 = .ok (.aload_n 0, 1) := by decide +kernel
theorem d_Mod_ack_39 : decode b_Mod_ack 39 = .ok (.iload_n 1, 1) := by decide +kernel
theorem d_Mod_ack_40 : decode b_Mod_ack 40 = .ok (.invokevirtual 128, 3) := by decide +kernel
theorem d_Mod_ack_43 : decode b_Mod_ack 43 = .ok (.return_, 1) := by decide +kernel
theorem d_Mod_drop_0 : decode b_Mod_drop 0 = .ok (.aload_n 0, 1) := by decide +kernel
theorem d_Mod_drop_1 : decode b_Mod_drop 1 = .ok (.iload_n 1, 1) := by decide +kernel
theorem d_Mod_drop_2 : decode b_Mod_drop 2 = .ok (.invokevirtual 132, 3) := by decide +kernel
theorem d_Mod_drop_5 : decode b_Mod_drop 5 = .ok (.ifCond .ne 5, 3) := by decide +kernel
theorem d_Mod_drop_8 : decode b_Mod_drop 8 = .ok (.iconst 0, 1) := by decide +kernel
theorem d_Mod_drop_9 : decode b_Mod_drop 9 = .ok (.ireturn, 1) := by decide +kernel
theorem d_Mod_drop_10 : decode b_Mod_drop 10 = .ok (.aload_n 0, 1) := by decide +kernel
theorem d_Mod_drop_11 : decode b_Mod_drop 11 = .ok (.iload_n 1, 1) := by decide +kernel
theorem d_Mod_drop_12 : decode b_Mod_drop 12 = .ok (.invokevirtual 135, 3) := by decide +kernel
theorem d_Mod_drop_15 : decode b_Mod_drop 15 = .ok (.iconst 1, 1) := by decide +kernel
theorem d_Mod_drop_16 : decode b_Mod_drop 16 = .ok (.ireturn, 1) := by decide +kernel
theorem d_Mod_oneTick_0 : decode b_Mod_oneTick 0 = .ok (.aload_n 0, 1) := by decide +kernel
theorem d_Mod_oneTick_1 : decode b_Mod_oneTick 1 = .ok (.dup, 1) := by decide +kernel
theorem d_Mod_oneTick_2 : decode b_Mod_oneTick 2 = .ok (.getfield 113, 3) := by decide +kernel
theorem d_Mod_oneTick_5 : decode b_Mod_oneTick 5 = .ok (.iconst 1, 1) := by decide +kernel
theorem d_Mod_oneTick_6 : decode b_Mod_oneTick 6 = .ok (.iadd, 1) := by decide +kernel
theorem d_Mod_oneTick_7 : decode b_Mod_oneTick 7 = .ok (.putfield 113, 3) := by decide +kernel
theorem d_Mod_oneTick_10 : decode b_Mod_oneTick 10 = .ok (.iconst 0, 1) := by decide +kernel
theorem d_Mod_oneTick_11 : decode b_Mod_oneTick 11 = .ok (.istore_n 1, 1) := by decide +kernel
theorem d_Mod_oneTick_12 : decode b_Mod_oneTick 12 = .ok (.iload_n 1, 1) := by decide +kernel
theorem d_Mod_oneTick_13 : decode b_Mod_oneTick 13 = .ok (.bipush 8, 2) := by decide +kernel
theorem d_Mod_oneTick_15 : decode b_Mod_oneTick 15 = .ok (.if_icmp .ge 51, 3) := by decide +kernel
theorem d_Mod_oneTick_18 : decode b_Mod_oneTick 18 = .ok (.aload_n 0, 1) := by decide +kernel
theorem d_Mod_oneTick_19 : decode b_Mod_oneTick 19 = .ok (.getfield 113, 3) := by decide +kernel
theorem d_Mod_oneTick_22 : decode b_Mod_oneTick 22 = .ok (.iconst 4, 1) := by decide +kernel
theorem d_Mod_oneTick_23 : decode b_Mod_oneTick 23 = .ok (.irem, 1) := by decide +kernel
theorem d_Mod_oneTick_24 : decode b_Mod_oneTick 24 = .ok (.ifCond .ne 36, 3) := by decide +kernel
theorem d_Mod_oneTick_27 : decode b_Mod_oneTick 27 = .ok (.aload_n 0, 1) := by decide +kernel
theorem d_Mod_oneTick_28 : decode b_Mod_oneTick 28 = .ok (.getfield 16, 3) := by decide +kernel
theorem d_Mod_oneTick_31 : decode b_Mod_oneTick 31 = .ok (.iload_n 1, 1) := by decide +kernel
theorem d_Mod_oneTick_32 : decode b_Mod_oneTick 32 = .ok (.iconst 2, 1) := by decide +kernel
theorem d_Mod_oneTick_33 : decode b_Mod_oneTick 33 = .ok (.irem, 1) := by decide +kernel
theorem d_Mod_oneTick_34 : decode b_Mod_oneTick 34 = .ok (.iaload, 1) := by decide +kernel
theorem d_Mod_oneTick_35 : decode b_Mod_oneTick 35 = .ok (.iload_n 1, 1) := by decide +kernel
theorem d_Mod_oneTick_36 : decode b_Mod_oneTick 36 = .ok (.iconst 2, 1) := by decide +kernel
theorem d_Mod_oneTick_37 : decode b_Mod_oneTick 37 = .ok (.idiv, 1) := by decide +kernel
theorem d_Mod_oneTick_38 : decode b_Mod_oneTick 38 = .ok (.if_icmp .ne 22, 3) := by decide +kernel
theorem d_Mod_oneTick_41 : decode b_Mod_oneTick 41 = .ok (.aload_n 0, 1) := by decide +kernel
theorem d_Mod_oneTick_42 : decode b_Mod_oneTick 42 = .ok (.iconst 1, 1) := by decide +kernel
theorem d_Mod_oneTick_43 : decode b_Mod_oneTick 43 = .ok (.iconst 5, 1) := by decide +kernel
theorem d_Mod_oneTick_44 : decode b_Mod_oneTick 44 = .ok (.iload_n 1, 1) := by decide +kernel
theorem d_Mod_oneTick_45 : decode b_Mod_oneTick 45 = .ok (.iconst 2, 1) := by decide +kernel
theorem d_Mod_oneTick_46 : decode b_Mod_oneTick 46 = .ok (.irem, 1) := by decide +kernel
theorem d_Mod_oneTick_47 : decode b_Mod_oneTick 47 = .ok (.iload_n 1, 1) := by decide +kernel
theorem d_Mod_oneTick_48 : decode b_Mod_oneTick 48 = .ok (.iconst 2, 1) := by decide +kernel
theorem d_Mod_oneTick_49 : decode b_Mod_oneTick 49 = .ok (.idiv, 1) := by decide +kernel
theorem d_Mod_oneTick_50 : decode b_Mod_oneTick 50 = .ok (.iload_n 1, 1) := by decide +kernel
theorem d_Mod_oneTick_51 : decode b_Mod_oneTick 51 = .ok (.iconst 2, 1) := by decide +kernel
theorem d_Mod_oneTick_52 : decode b_Mod_oneTick 52 = .ok (.idiv, 1) := by decide +kernel
theorem d_Mod_oneTick_53 : decode b_Mod_oneTick 53 = .ok (.iconst 0, 1) := by decide +kernel
theorem d_Mod_oneTick_54 : decode b_Mod_oneTick 54 = .ok (.iconst 0, 1) := by decide +kernel
theorem d_Mod_oneTick_55 : decode b_Mod_oneTick 55 = .ok (.iconst 0, 1) := by decide +kernel
theorem d_Mod_oneTick_56 : decode b_Mod_oneTick 56 = .ok (.iconst 0, 1) := by decide +kernel
theorem d_Mod_oneTick_57 : decode b_Mod_oneTick 57 = .ok (.invokevirtual 109, 3) := by decide +kernel
theorem d_Mod_oneTick_60 : decode b_Mod_oneTick 60 = .ok (.iinc 1 1, 3) := by decide +kernel
theorem d_Mod_oneTick_63 : decode b_Mod_oneTick 63 = .ok (.goto (-51), 3) := by decide +kernel
theorem d_Mod_oneTick_66 : decode b_Mod_oneTick 66 = .ok (.aload_n 0, 1) := by decide +kernel
theorem d_Mod_oneTick_67 : decode b_Mod_oneTick 67 = .ok (.iconst 0, 1) := by decide +kernel
theorem d_Mod_oneTick_68 : decode b_Mod_oneTick 68 = .ok (.invokevirtual 162, 3) := by decide +kernel
theorem d_Mod_oneTick_71 : decode b_Mod_oneTick 71 = .ok (.aload_n 0, 1) := by decide +kernel
theorem d_Mod_oneTick_72 : decode b_Mod_oneTick 72 = .ok (.iconst 1, 1) := by decide +kernel
theorem d_Mod_oneTick_73 : decode b_Mod_oneTick 73 = .ok (.invokevirtual 162, 3) := by decide +kernel
theorem d_Mod_oneTick_76 : decode b_Mod_oneTick 76 = .ok (.iconst 0, 1) := by decide +kernel
theorem d_Mod_oneTick_77 : decode b_Mod_oneTick 77 = .ok (.istore_n 1, 1) := by decide +kernel
theorem d_Mod_oneTick_78 : decode b_Mod_oneTick 78 = .ok (.iload_n 1, 1) := by decide +kernel
theorem d_Mod_oneTick_79 : decode b_Mod_oneTick 79 = .ok (.iconst 2, 1) := by decide +kernel
theorem d_Mod_oneTick_80 : decode b_Mod_oneTick 80 = .ok (.if_icmp .ge 110, 3) := by decide +kernel
theorem d_Mod_oneTick_83 : decode b_Mod_oneTick 83 = .ok (.aload_n 0, 1) := by decide +kernel
theorem d_Mod_oneTick_84 : decode b_Mod_oneTick 84 = .ok (.getfield 73, 3) := by decide +kernel
theorem d_Mod_oneTick_87 : decode b_Mod_oneTick 87 = .ok (.iload_n 1, 1) := by decide +kernel
theorem d_Mod_oneTick_88 : decode b_Mod_oneTick 88 = .ok (.iaload, 1) := by decide +kernel
theorem d_Mod_oneTick_89 : decode b_Mod_oneTick 89 = .ok (.aload_n 0, 1) := by decide +kernel
theorem d_Mod_oneTick_90 : decode b_Mod_oneTick 90 = .ok (.getfield 76, 3) := by decide +kernel
theorem d_Mod_oneTick_93 : decode b_Mod_oneTick 93 = .ok (.iload_n 1, 1) := by decide +kernel
theorem d_Mod_oneTick_94 : decode b_Mod_oneTick 94 = .ok (.iaload, 1) := by decide +kernel
theorem d_Mod_oneTick_95 : decode b_Mod_oneTick 95 = .ok (.if_icmp .le 22, 3) := by decide +kernel
theorem d_Mod_oneTick_98 : decode b_Mod_oneTick 98 = .ok (.aload_n 0, 1) := by decide +kernel
theorem d_Mod_oneTick_99 : decode b_Mod_oneTick 99 = .ok (.getfield 113, 3) := by decide +kernel
theorem d_Mod_oneTick_102 : decode b_Mod_oneTick 102 = .ok (.aload_n 0, 1) := by decide +kernel
theorem d_Mod_oneTick_103 : decode b_Mod_oneTick 103 = .ok (.getfield 79, 3) := by decide +kernel
theorem d_Mod_oneTick_106 : decode b_Mod_oneTick 106 = .ok (.iload_n 1, 1) := by decide +kernel
theorem d_Mod_oneTick_107 : decode b_Mod_oneTick 107 = .ok (.iaload, 1) := by decide +kernel
theorem d_Mod_oneTick_108 : decode b_Mod_oneTick 108 = .ok (.isub, 1) := by decide +kernel
theorem d_Mod_oneTick_109 : decode b_Mod_oneTick 109 = .ok (.iconst 5, 1) := by decide +kernel
theorem d_Mod_oneTick_110 : decode b_Mod_oneTick 110 = .ok (.if_icmp .lt 7, 3) := by decide +kernel
theorem d_Mod_oneTick_113 : decode b_Mod_oneTick 113 = .ok (.iconst 1, 1) := by decide +kernel
theorem d_Mod_oneTick_114 : decode b_Mod_oneTick 114 = .ok (.goto 4, 3) := by decide +kernel
theorem d_Mod_oneTick_117 : decode b_Mod_oneTick 117 = .ok (.iconst 0, 1) := by decide +kernel
theorem d_Mod_oneTick_118 : decode b_Mod_oneTick 118 = .ok (.istore_n 2, 1) := by decide +kernel
theorem d_Mod_oneTick_119 : decode b_Mod_oneTick 119 = .ok (.aload_n 0, 1) := by decide +kernel
theorem d_Mod_oneTick_120 : decode b_Mod_oneTick 120 = .ok (.getfield 76, 3) := by decide +kernel
theorem d_Mod_oneTick_123 : decode b_Mod_oneTick 123 = .ok (.iload_n 1, 1) := by decide +kernel
theorem d_Mod_oneTick_124 : decode b_Mod_oneTick 124 = .ok (.iaload, 1) := by decide +kernel
theorem d_Mod_oneTick_125 : decode b_Mod_oneTick 125 = .ok (.iconst 1, 1) := by decide +kernel
theorem d_Mod_oneTick_126 : decode b_Mod_oneTick 126 = .ok (.iadd, 1) := by decide +kernel
theorem d_Mod_oneTick_127 : decode b_Mod_oneTick 127 = .ok (.istore_n 3, 1) := by decide +kernel
theorem d_Mod_oneTick_128 : decode b_Mod_oneTick 128 = .ok (.iload_n 3, 1) := by decide +kernel
theorem d_Mod_oneTick_129 : decode b_Mod_oneTick 129 = .ok (.aload_n 0, 1) := by decide +kernel
theorem d_Mod_oneTick_130 : decode b_Mod_oneTick 130 = .ok (.getfield 73, 3) := by decide +kernel
theorem d_Mod_oneTick_133 : decode b_Mod_oneTick 133 = .ok (.iload_n 1, 1) := by decide +kernel
theorem d_Mod_oneTick_134 : decode b_Mod_oneTick 134 = .ok (.iaload, 1) := by decide +kernel
theorem d_Mod_oneTick_135 : decode b_Mod_oneTick 135 = .ok (.if_icmp .gt 26, 3) := by decide +kernel
theorem d_Mod_oneTick_138 : decode b_Mod_oneTick 138 = .ok (.iload_n 2, 1) := by decide +kernel
theorem d_Mod_oneTick_139 : decode b_Mod_oneTick 139 = .ok (.ifCond .eq 22, 3) := by decide +kernel
theorem d_Mod_oneTick_142 : decode b_Mod_oneTick 142 = .ok (.aload_n 0, 1) := by decide +kernel
theorem d_Mod_oneTick_143 : decode b_Mod_oneTick 143 = .ok (.iconst 4, 1) := by decide +kernel
theorem d_Mod_oneTick_144 : decode b_Mod_oneTick 144 = .ok (.iconst 0, 1) := by decide +kernel
theorem d_Mod_oneTick_145 : decode b_Mod_oneTick 145 = .ok (.iload_n 1, 1) := by decide +kernel
theorem d_Mod_oneTick_146 : decode b_Mod_oneTick 146 = .ok (.iconst 0, 1) := by decide +kernel
theorem d_Mod_oneTick_147 : decode b_Mod_oneTick 147 = .ok (.iload_n 3, 1) := by decide +kernel
theorem d_Mod_oneTick_148 : decode b_Mod_oneTick 148 = .ok (.iconst 0, 1) := by decide +kernel
theorem d_Mod_oneTick_149 : decode b_Mod_oneTick 149 = .ok (.iconst 0, 1) := by decide +kernel
theorem d_Mod_oneTick_150 : decode b_Mod_oneTick 150 = .ok (.iconst 0, 1) := by decide +kernel
theorem d_Mod_oneTick_151 : decode b_Mod_oneTick 151 = .ok (.iconst 0, 1) := by decide +kernel
theorem d_Mod_oneTick_152 : decode b_Mod_oneTick 152 = .ok (.invokevirtual 109, 3) := by decide +kernel
theorem d_Mod_oneTick_155 : decode b_Mod_oneTick 155 = .ok (.iinc 3 1, 3) := by decide +kernel
theorem d_Mod_oneTick_158 : decode b_Mod_oneTick 158 = .ok (.goto (-30), 3) := by decide +kernel
theorem d_Mod_oneTick_161 : decode b_Mod_oneTick 161 = .ok (.aload_n 0, 1) := by decide +kernel
theorem d_Mod_oneTick_162 : decode b_Mod_oneTick 162 = .ok (.getfield 79, 3) := by decide +kernel
theorem d_Mod_oneTick_165 : decode b_Mod_oneTick 165 = .ok (.iload_n 1, 1) := by decide +kernel
theorem d_Mod_oneTick_166 : decode b_Mod_oneTick 166 = .ok (.iload_n 2, 1) := by decide +kernel
theorem d_Mod_oneTick_167 : decode b_Mod_oneTick 167 = .ok (.ifCond .eq 10, 3) := by decide +kernel
theorem d_Mod_oneTick_170 : decode b_Mod_oneTick 170 = .ok (.aload_n 0, 1) := by decide +kernel
theorem d_Mod_oneTick_171 : decode b_Mod_oneTick 171 = .ok (.getfield 113, 3) := by decide +kernel
theorem d_Mod_oneTick_174 : decode b_Mod_oneTick 174 = .ok (.goto 9, 3) := by decide +kernel
theorem d_Mod_oneTick_177 : decode b_Mod_oneTick 177 = .ok (.aload_n 0, 1) := by decide +kernel
theorem d_Mod_oneTick_178 : decode b_Mod_oneTick 178 = .ok (.getfield 79, 3) := by decide +kernel
theorem d_Mod_oneTick_181 : decode b_Mod_oneTick 181 = .ok (.iload_n 1, 1) := by decide +kernel
theorem d_Mod_oneTick_182 : decode b_Mod_oneTick 182 = .ok (.iaload, 1) := by decide +kernel
theorem d_Mod_oneTick_183 : decode b_Mod_oneTick 183 = .ok (.iastore, 1) := by decide +kernel
theorem d_Mod_oneTick_184 : decode b_Mod_oneTick 184 = .ok (.iinc 1 1, 3) := by decide +kernel
theorem d_Mod_oneTick_187 : decode b_Mod_oneTick 187 = .ok (.goto (-109), 3) := by decide +kernel
theorem d_Mod_oneTick_190 : decode b_Mod_oneTick 190 = .ok (.return_, 1) := by decide +kernel
theorem d_Mod_tick_0 : decode b_Mod_tick 0 = .ok (.iload_n 1, 1) := by decide +kernel
theorem d_Mod_tick_1 : decode b_Mod_tick 1 = .ok (.iconst 1, 1) := by decide +kernel
theorem d_Mod_tick_2 : decode b_Mod_tick 2 = .ok (.if_icmp .lt 9, 3) := by decide +kernel
theorem d_Mod_tick_5 : decode b_Mod_tick 5 = .ok (.iload_n 1, 1) := by decide +kernel
theorem d_Mod_tick_6 : decode b_Mod_tick 6 = .ok (.bipush 20, 2) := by decide +kernel
theorem d_Mod_tick_8 : decode b_Mod_tick 8 = .ok (.if_icmp .le 5, 3) := by decide +kernel
theorem d_Mod_tick_11 : decode b_Mod_tick 11 = .ok (.iconst 0, 1) := by decide +kernel
theorem d_Mod_tick_12 : decode b_Mod_tick 12 = .ok (.ireturn, 1) := by decide +kernel
theorem d_Mod_tick_13 : decode b_Mod_tick 13 = .ok (.iconst 0, 1) := by decide +kernel
theorem d_Mod_tick_14 : decode b_Mod_tick 14 = .ok (.istore_n 2, 1) := by decide +kernel
theorem d_Mod_tick_15 : decode b_Mod_tick 15 = .ok (.iload_n 2, 1) := by decide +kernel
theorem d_Mod_tick_16 : decode b_Mod_tick 16 = .ok (.iload_n 1, 1) := by decide +kernel
theorem d_Mod_tick_17 : decode b_Mod_tick 17 = .ok (.if_icmp .ge 13, 3) := by decide +kernel
theorem d_Mod_tick_20 : decode b_Mod_tick 20 = .ok (.aload_n 0, 1) := by decide +kernel
theorem d_Mod_tick_21 : decode b_Mod_tick 21 = .ok (.invokevirtual 165, 3) := by decide +kernel
theorem d_Mod_tick_24 : decode b_Mod_tick 24 = .ok (.iinc 2 1, 3) := by decide +kernel
theorem d_Mod_tick_27 : decode b_Mod_tick 27 = .ok (.goto (-12), 3) := by decide +kernel
theorem d_Mod_tick_30 : decode b_Mod_tick 30 = .ok (.iconst 1, 1) := by decide +kernel
theorem d_Mod_tick_31 : decode b_Mod_tick 31 = .ok (.ireturn, 1) := by decide +kernel
theorem d_Mod_deliver_0 : decode b_Mod_deliver 0 = .ok (.aload_n 0, 1) := by decide +kernel
theorem d_Mod_deliver_1 : decode b_Mod_deliver 1 = .ok (.iload_n 1, 1) := by decide +kernel
theorem d_Mod_deliver_2 : decode b_Mod_deliver 2 = .ok (.invokevirtual 132, 3) := by decide +kernel
theorem d_Mod_deliver_5 : decode b_Mod_deliver 5 = .ok (.ifCond .ne 5, 3) := by decide +kernel
theorem d_Mod_deliver_8 : decode b_Mod_deliver 8 = .ok (.iconst 0, 1) := by decide +kernel
theorem d_Mod_deliver_9 : decode b_Mod_deliver 9 = .ok (.ireturn, 1) := by decide +kernel
theorem d_Mod_deliver_10 : decode b_Mod_deliver 10 = .ok (.aload_n 0, 1) := by decide +kernel
theorem d_Mod_deliver_11 : decode b_Mod_deliver 11 = .ok (.iload_n 1, 1) := by decide +kernel
theorem d_Mod_deliver_12 : decode b_Mod_deliver 12 = .ok (.invokevirtual 135, 3) := by decide +kernel
theorem d_Mod_deliver_15 : decode b_Mod_deliver 15 = .ok (.aload_n 0, 1) := by decide +kernel
theorem d_Mod_deliver_16 : decode b_Mod_deliver 16 = .ok (.getfield 13, 3) := by decide +kernel
theorem d_Mod_deliver_19 : decode b_Mod_deliver 19 = .ok (.iconst 2, 1) := by decide +kernel
theorem d_Mod_deliver_20 : decode b_Mod_deliver 20 = .ok (.iaload, 1) := by decide +kernel
theorem d_Mod_deliver_21 : decode b_Mod_deliver 21 = .ok (.istore_n 2, 1) := by decide +kernel
theorem d_Mod_deliver_22 : decode b_Mod_deliver 22 = .ok (.aload_n 0, 1) := by decide +kernel
theorem d_Mod_deliver_23 : decode b_Mod_deliver 23 = .ok (.getfield 13, 3) := by decide +kernel
theorem d_Mod_deliver_26 : decode b_Mod_deliver 26 = .ok (.iconst 1, 1) := by decide +kernel
theorem d_Mod_deliver_27 : decode b_Mod_deliver 27 = .ok (.iaload, 1) := by decide +kernel
theorem d_Mod_deliver_28 : decode b_Mod_deliver 28 = .ok (.istore_n 3, 1) := by decide +kernel
theorem d_Mod_deliver_29 : decode b_Mod_deliver 29 = .ok (.iload_n 3, 1) := by decide +kernel
theorem d_Mod_deliver_30 : decode b_Mod_deliver 30 = .ok (.iconst 5, 1) := by decide +kernel
theorem d_Mod_deliver_31 : decode b_Mod_deliver 31 = .ok (.if_icmp .ne 20, 3) := by decide +kernel
theorem d_Mod_deliver_34 : decode b_Mod_deliver 34 = .ok (.aload_n 0, 1) := by decide +kernel
theorem d_Mod_deliver_35 : decode b_Mod_deliver 35 = .ok (.getfield 16, 3) := by decide +kernel
theorem d_Mod_deliver_38 : decode b_Mod_deliver 38 = .ok (.iload_n 2, 1) := by decide +kernel
theorem d_Mod_deliver_39 : decode b_Mod_deliver 39 = .ok (.iaload, 1) := by decide +kernel
theorem d_Mod_deliver_40 : decode b_Mod_deliver 40 = .ok (.aload_n 0, 1) := by decide +kernel
theorem d_Mod_deliver_41 : decode b_Mod_deliver 41 = .ok (.getfield 13, 3) := by decide +kernel
theorem d_Mod_deliver_44 : decode b_Mod_deliver 44 = .ok (.iconst 3, 1) := by decide +kernel
theorem d_Mod_deliver_45 : decode b_Mod_deliver 45 = .ok (.iaload, 1) := by decide +kernel
theorem d_Mod_deliver_46 : decode b_Mod_deliver 46 = .ok (.if_icmp .eq 5, 3) := by decide +kernel
theorem d_Mod_deliver_49 : decode b_Mod_deliver 49 = .ok (.iconst 1, 1) := by decide +kernel
theorem d_Mod_deliver_50 : decode b_Mod_deliver 50 = .ok (.ireturn, 1) := by decide +kernel
theorem d_Mod_deliver_51 : decode b_Mod_deliver 51 = .ok (.iload_n 3, 1) := by decide +kernel
theorem d_Mod_deliver_52 : decode b_Mod_deliver 52 = .ok (.iconst 5, 1) := by decide +kernel
theorem d_Mod_deliver_53 : decode b_Mod_deliver 53 = .ok (.if_icmp .ne 57, 3) := by decide +kernel
theorem d_Mod_deliver_56 : decode b_Mod_deliver 56 = .ok (.aload_n 0, 1) := by decide +kernel
theorem d_Mod_deliver_57 : decode b_Mod_deliver 57 = .ok (.getfield 13, 3) := by decide +kernel
theorem d_Mod_deliver_60 : decode b_Mod_deliver 60 = .ok (.iconst 0, 1) := by decide +kernel
theorem d_Mod_deliver_61 : decode b_Mod_deliver 61 = .ok (.iaload, 1) := by decide +kernel
theorem d_Mod_deliver_62 : decode b_Mod_deliver 62 = .ok (.iconst 1, 1) := by decide +kernel
theorem d_Mod_deliver_63 : decode b_Mod_deliver 63 = .ok (.if_icmp .ne 14, 3) := by decide +kernel
theorem d_Mod_deliver_66 : decode b_Mod_deliver 66 = .ok (.aload_n 0, 1) := by decide +kernel
theorem d_Mod_deliver_67 : decode b_Mod_deliver 67 = .ok (.iload_n 2, 1) := by decide +kernel
theorem d_Mod_deliver_68 : decode b_Mod_deliver 68 = .ok (.aload_n 0, 1) := by decide +kernel
theorem d_Mod_deliver_69 : decode b_Mod_deliver 69 = .ok (.getfield 13, 3) := by decide +kernel
theorem d_Mod_deliver_72 : decode b_Mod_deliver 72 = .ok (.iconst 4, 1) := by decide +kernel
theorem d_Mod_deliver_73 : decode b_Mod_deliver 73 = .ok (.iaload, 1) := by decide +kernel
theorem d_Mod_deliver_74 : decode b_Mod_deliver 74 = .ok (.invokevirtual 138, 3) := by decide +kernel
theorem d_Mod_deliver_77 : decode b_Mod_deliver 77 = .ok (.aload_n 0, 1) := by decide +kernel
theorem d_Mod_deliver_78 : decode b_Mod_deliver 78 = .ok (.getfield 13, 3) := by decide +kernel
theorem d_Mod_deliver_81 : decode b_Mod_deliver 81 = .ok (.iconst 0, 1) := by decide +kernel
theorem d_Mod_deliver_82 : decode b_Mod_deliver 82 = .ok (.iaload, 1) := by decide +kernel
theorem d_Mod_deliver_83 : decode b_Mod_deliver 83 = .ok (.iconst 3, 1) := by decide +kernel
theorem d_Mod_deliver_84 : decode b_Mod_deliver 84 = .ok (.if_icmp .ne 8, 3) := by decide +kernel
theorem d_Mod_deliver_87 : decode b_Mod_deliver 87 = .ok (.aload_n 0, 1) := by decide +kernel
theorem d_Mod_deliver_88 : decode b_Mod_deliver 88 = .ok (.iload_n 2, 1) := by decide +kernel
theorem d_Mod_deliver_89 : decode b_Mod_deliver 89 = .ok (.invokevirtual 141, 3) := by decide +kernel
theorem d_Mod_deliver_92 : decode b_Mod_deliver 92 = .ok (.aload_n 0, 1) := by decide +kernel
theorem d_Mod_deliver_93 : decode b_Mod_deliver 93 = .ok (.getfield 13, 3) := by decide +kernel
theorem d_Mod_deliver_96 : decode b_Mod_deliver 96 = .ok (.iconst 0, 1) := by decide +kernel
theorem d_Mod_deliver_97 : decode b_Mod_deliver 97 = .ok (.iaload, 1) := by decide +kernel
theorem d_Mod_deliver_98 : decode b_Mod_deliver 98 = .ok (.iconst 4, 1) := by decide +kernel
theorem d_Mod_deliver_99 : decode b_Mod_deliver 99 = .ok (.if_icmp .ne 138, 3) := by decide +kernel
theorem d_Mod_deliver_102 : decode b_Mod_deliver 102 = .ok (.aload_n 0, 1) := by decide +kernel
theorem d_Mod_deliver_103 : decode b_Mod_deliver 103 = .ok (.iload_n 2, 1) := by decide +kernel
theorem d_Mod_deliver_104 : decode b_Mod_deliver 104 = .ok (.invokevirtual 144, 3) := by decide +kernel
theorem d_Mod_deliver_107 : decode b_Mod_deliver 107 = .ok (.goto 130, 3) := by decide +kernel
theorem d_Mod_deliver_110 : decode b_Mod_deliver 110 = .ok (.iload_n 3, 1) := by decide +kernel
theorem d_Mod_deliver_111 : decode b_Mod_deliver 111 = .ok (.iconst 4, 1) := by decide +kernel
theorem d_Mod_deliver_112 : decode b_Mod_deliver 112 = .ok (.if_icmp .ne 11, 3) := by decide +kernel
theorem d_Mod_deliver_115 : decode b_Mod_deliver 115 = .ok (.aload_n 0, 1) := by decide +kernel
theorem d_Mod_deliver_116 : decode b_Mod_deliver 116 = .ok (.iload_n 2, 1) := by decide +kernel
theorem d_Mod_deliver_117 : decode b_Mod_deliver 117 = .ok (.invokevirtual 147, 3) := by decide +kernel
theorem d_Mod_deliver_120 : decode b_Mod_deliver 120 = .ok (.goto 117, 3) := by decide +kernel
theorem d_Mod_deliver_123 : decode b_Mod_deliver 123 = .ok (.iload_n 3, 1) := by decide +kernel
theorem d_Mod_deliver_124 : decode b_Mod_deliver 124 = .ok (.ifCond .ne 36, 3) := by decide +kernel
theorem d_Mod_deliver_127 : decode b_Mod_deliver 127 = .ok (.aload_n 0, 1) := by decide +kernel
theorem d_Mod_deliver_128 : decode b_Mod_deliver 128 = .ok (.getfield 13, 3) := by decide +kernel
theorem d_Mod_deliver_131 : decode b_Mod_deliver 131 = .ok (.iconst 0, 1) := by decide +kernel
theorem d_Mod_deliver_132 : decode b_Mod_deliver 132 = .ok (.iaload, 1) := by decide +kernel
theorem d_Mod_deliver_133 : decode b_Mod_deliver 133 = .ok (.iconst 2, 1) := by decide +kernel
theorem d_Mod_deliver_134 : decode b_Mod_deliver 134 = .ok (.if_icmp .ne 8, 3) := by decide +kernel
theorem d_Mod_deliver_137 : decode b_Mod_deliver 137 = .ok (.aload_n 0, 1) := by decide +kernel
theorem d_Mod_deliver_138 : decode b_Mod_deliver 138 = .ok (.iload_n 2, 1) := by decide +kernel
theorem d_Mod_deliver_139 : decode b_Mod_deliver 139 = .ok (.invokevirtual 150, 3) := by decide +kernel
theorem d_Mod_deliver_142 : decode b_Mod_deliver 142 = .ok (.aload_n 0, 1) := by decide +kernel
theorem d_Mod_deliver_143 : decode b_Mod_deliver 143 = .ok (.getfield 13, 3) := by decide +kernel
theorem d_Mod_deliver_146 : decode b_Mod_deliver 146 = .ok (.iconst 0, 1) := by decide +kernel
theorem d_Mod_deliver_147 : decode b_Mod_deliver 147 = .ok (.iaload, 1) := by decide +kernel
theorem d_Mod_deliver_148 : decode b_Mod_deliver 148 = .ok (.iconst 4, 1) := by decide +kernel
theorem d_Mod_deliver_149 : decode b_Mod_deliver 149 = .ok (.if_icmp .ne 88, 3) := by decide +kernel
theorem d_Mod_deliver_152 : decode b_Mod_deliver 152 = .ok (.aload_n 0, 1) := by decide +kernel
theorem d_Mod_deliver_153 : decode b_Mod_deliver 153 = .ok (.iload_n 2, 1) := by decide +kernel
theorem d_Mod_deliver_154 : decode b_Mod_deliver 154 = .ok (.invokevirtual 153, 3) := by decide +kernel
theorem d_Mod_deliver_157 : decode b_Mod_deliver 157 = .ok (.goto 80, 3) := by decide +kernel
theorem d_Mod_deliver_160 : decode b_Mod_deliver 160 = .ok (.aload_n 0, 1) := by decide +kernel
theorem d_Mod_deliver_161 : decode b_Mod_deliver 161 = .ok (.getfield 13, 3) := by decide +kernel
theorem d_Mod_deliver_164 : decode b_Mod_deliver 164 = .ok (.iconst 0, 1) := by decide +kernel
theorem d_Mod_deliver_165 : decode b_Mod_deliver 165 = .ok (.iaload, 1) := by decide +kernel
theorem d_Mod_deliver_166 : decode b_Mod_deliver 166 = .ok (.iconst 2, 1) := by decide +kernel
theorem d_Mod_deliver_167 : decode b_Mod_deliver 167 = .ok (.if_icmp .ne 9, 3) := by decide +kernel
theorem d_Mod_deliver_170 : decode b_Mod_deliver 170 = .ok (.aload_n 0, 1) := by decide +kernel
theorem d_Mod_deliver_171 : decode b_Mod_deliver 171 = .ok (.iload_n 3, 1) := by decide +kernel
theorem d_Mod_deliver_172 : decode b_Mod_deliver 172 = .ok (.iload_n 2, 1) := by decide +kernel
theorem d_Mod_deliver_173 : decode b_Mod_deliver 173 = .ok (.invokevirtual 156, 3) := by decide +kernel
theorem d_Mod_deliver_176 : decode b_Mod_deliver 176 = .ok (.aload_n 0, 1) := by decide +kernel
theorem d_Mod_deliver_177 : decode b_Mod_deliver 177 = .ok (.getfield 13, 3) := by decide +kernel
theorem d_Mod_deliver_180 : decode b_Mod_deliver 180 = .ok (.iconst 0, 1) := by decide +kernel
theorem d_Mod_deliver_181 : decode b_Mod_deliver 181 = .ok (.iaload, 1) := by decide +kernel
theorem d_Mod_deliver_182 : decode b_Mod_deliver 182 = .ok (.iconst 3, 1) := by decide +kernel
theorem d_Mod_deliver_183 : decode b_Mod_deliver 183 = .ok (.if_icmp .ne 9, 3) := by decide +kernel
theorem d_Mod_deliver_186 : decode b_Mod_deliver 186 = .ok (.aload_n 0, 1) := by decide +kernel
theorem d_Mod_deliver_187 : decode b_Mod_deliver 187 = .ok (.iload_n 3, 1) := by decide +kernel
theorem d_Mod_deliver_188 : decode b_Mod_deliver 188 = .ok (.iload_n 2, 1) := by decide +kernel
theorem d_Mod_deliver_189 : decode b_Mod_deliver 189 = .ok (.invokevirtual 159, 3) := by decide +kernel
theorem d_Mod_deliver_192 : decode b_Mod_deliver 192 = .ok (.aload_n 0, 1) := by decide +kernel
theorem d_Mod_deliver_193 : decode b_Mod_deliver 193 = .ok (.getfield 13, 3) := by decide +kernel
theorem d_Mod_deliver_196 : decode b_Mod_deliver 196 = .ok (.iconst 0, 1) := by decide +kernel
theorem d_Mod_deliver_197 : decode b_Mod_deliver 197 = .ok (.iaload, 1) := by decide +kernel
theorem d_Mod_deliver_198 : decode b_Mod_deliver 198 = .ok (.iconst 5, 1) := by decide +kernel
theorem d_Mod_deliver_199 : decode b_Mod_deliver 199 = .ok (.if_icmp .ne 38, 3) := by decide +kernel
theorem d_Mod_deliver_202 : decode b_Mod_deliver 202 = .ok (.aload_n 0, 1) := by decide +kernel
theorem d_Mod_deliver_203 : decode b_Mod_deliver 203 = .ok (.getfield 113, 3) := by decide +kernel
theorem d_Mod_deliver_206 : decode b_Mod_deliver 206 = .ok (.aload_n 0, 1) := by decide +kernel
theorem d_Mod_deliver_207 : decode b_Mod_deliver 207 = .ok (.getfield 61, 3) := by decide +kernel
theorem d_Mod_deliver_210 : decode b_Mod_deliver 210 = .ok (.iconst 2, 1) := by decide +kernel
theorem d_Mod_deliver_211 : decode b_Mod_deliver 211 = .ok (.iload_n 3, 1) := by decide +kernel
theorem d_Mod_deliver_212 : decode b_Mod_deliver 212 = .ok (.imul, 1) := by decide +kernel
theorem d_Mod_deliver_213 : decode b_Mod_deliver 213 = .ok (.iload_n 2, 1) := by decide +kernel
theorem d_Mod_deliver_214 : decode b_Mod_deliver 214 = .ok (.iadd, 1) := by decide +kernel
theorem d_Mod_deliver_215 : decode b_Mod_deliver 215 = .ok (.iaload, 1) := by decide +kernel
theorem d_Mod_deliver_216 : decode b_Mod_deliver 216 = .ok (.if_icmp .ge 21, 3) := by decide +kernel
theorem d_Mod_deliver_219 : decode b_Mod_deliver 219 = .ok (.aload_n 0, 1) := by decide +kernel
theorem d_Mod_deliver_220 : decode b_Mod_deliver 220 = .ok (.iconst 4, 1) := by decide +kernel
theorem d_Mod_deliver_221 : decode b_Mod_deliver 221 = .ok (.iconst 5, 1) := by decide +kernel
theorem d_Mod_deliver_222 : decode b_Mod_deliver 222 = .ok (.iload_n 2, 1) := by decide +kernel
theorem d_Mod_deliver_223 : decode b_Mod_deliver 223 = .ok (.iload_n 3, 1) := by decide +kernel
theorem d_Mod_deliver_224 : decode b_Mod_deliver 224 = .ok (.aload_n 0, 1) := by decide +kernel
theorem d_Mod_deliver_225 : decode b_Mod_deliver 225 = .ok (.getfield 13, 3) := by decide +kernel
theorem d_Mod_deliver_228 : decode b_Mod_deliver 228 = .ok (.iconst 4, 1) := by decide +kernel
theorem d_Mod_deliver_229 : decode b_Mod_deliver 229 = .ok (.iaload, 1) := by decide +kernel
theorem d_Mod_deliver_230 : decode b_Mod_deliver 230 = .ok (.iconst 0, 1) := by decide +kernel
theorem d_Mod_deliver_231 : decode b_Mod_deliver 231 = .ok (.iconst 0, 1) := by decide +kernel
theorem d_Mod_deliver_232 : decode b_Mod_deliver 232 = .ok (.iconst 0, 1) := by decide +kernel
theorem d_Mod_deliver_233 : decode b_Mod_deliver 233 = .ok (.iconst 0, 1) := by decide +kernel
theorem d_Mod_deliver_234 : decode b_Mod_deliver 234 = .ok (.invokevirtual 109, 3) := by decide +kernel
theorem d_Mod_deliver_237 : decode b_Mod_deliver 237 = .ok (.iconst 1, 1) := by decide +kernel
theorem d_Mod_deliver_238 : decode b_Mod_deliver 238 = .ok (.ireturn, 1) := by decide +kernel
