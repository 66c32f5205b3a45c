theorem d_Net_isWithin_0 : decode b_Net_isWithin 0 = .ok (.iload_n 0, 1) := by decide +kernel
theorem d_Net_isWithin_1 : decode b_Net_isWithin 1 = .ok (.iload_n 1, 1) := by decide +kernel
theorem d_Net_isWithin_2 : decode b_Net_isWithin 2 = .ok (.if_icmp .lt 12, 3) := by decide +kernel
theorem d_Net_isWithin_5 : decode b_Net_isWithin 5 = .ok (.iload_n 0, 1) := by decide +kernel
theorem d_Net_isWithin_6 : decode b_Net_isWithin 6 = .ok (.iload_n 2, 1) := by decide +kernel
theorem d_Net_isWithin_7 : decode b_Net_isWithin 7 = .ok (.if_icmp .gt 7, 3) := by decide +kernel
theorem d_Net_isWithin_10 : decode b_Net_isWithin 10 = .ok (.iconst 1, 1) := by decide +kernel
theorem d_Net_isWithin_11 : decode b_Net_isWithin 11 = .ok (.goto 4, 3) := by decide +kernel
theorem d_Net_isWithin_14 : decode b_Net_isWithin 14 = .ok (.iconst 0, 1) := by decide +kernel
theorem d_Net_isWithin_15 : decode b_Net_isWithin 15 = .ok (.ireturn, 1) := by decide +kernel
theorem d_Msg_stir_0 : decode b_Msg_stir 0 = .ok (.iload_n 0, 1) := by decide +kernel
theorem d_Msg_stir_1 : decode b_Msg_stir 1 = .ok (.iload_n 1, 1) := by decide +kernel
theorem d_Msg_stir_2 : decode b_Msg_stir 2 = .ok (.ixor, 1) := by decide +kernel
theorem d_Msg_stir_3 : decode b_Msg_stir 3 = .ok (.ldc 45, 2) := by decide +kernel
theorem d_Msg_stir_5 : decode b_Msg_stir 5 = .ok (.imul, 1) := by decide +kernel
theorem d_Msg_stir_6 : decode b_Msg_stir 6 = .ok (.istore_n 2, 1) := by decide +kernel
theorem d_Msg_stir_7 : decode b_Msg_stir 7 = .ok (.iload_n 2, 1) := by decide +kernel
theorem d_Msg_stir_8 : decode b_Msg_stir 8 = .ok (.iload_n 2, 1) := by decide +kernel
theorem d_Msg_stir_9 : decode b_Msg_stir 9 = .ok (.bipush 15, 2) := by decide +kernel
theorem d_Msg_stir_11 : decode b_Msg_stir 11 = .ok (.iushr, 1) := by decide +kernel
theorem d_Msg_stir_12 : decode b_Msg_stir 12 = .ok (.ixor, 1) := by decide +kernel
theorem d_Msg_stir_13 : decode b_Msg_stir 13 = .ok (.ireturn, 1) := by decide +kernel
theorem d_Msg_begin_0 : decode b_Msg_begin 0 = .ok (.aload_n 0, 1) := by decide +kernel
theorem d_Msg_begin_1 : decode b_Msg_begin 1 = .ok (.iload_n 1, 1) := by decide +kernel
theorem d_Msg_begin_2 : decode b_Msg_begin 2 = .ok (.putfield 9, 3) := by decide +kernel
theorem d_Msg_begin_5 : decode b_Msg_begin 5 = .ok (.aload_n 0, 1) := by decide +kernel
theorem d_Msg_begin_6 : decode b_Msg_begin 6 = .ok (.iload_n 2, 1) := by decide +kernel
theorem d_Msg_begin_7 : decode b_Msg_begin 7 = .ok (.putfield 15, 3) := by decide +kernel
theorem d_Msg_begin_10 : decode b_Msg_begin 10 = .ok (.aload_n 0, 1) := by decide +kernel
theorem d_Msg_begin_11 : decode b_Msg_begin 11 = .ok (.iload_n 3, 1) := by decide +kernel
theorem d_Msg_begin_12 : decode b_Msg_begin 12 = .ok (.putfield 18, 3) := by decide +kernel
theorem d_Msg_begin_15 : decode b_Msg_begin 15 = .ok (.aload_n 0, 1) := by decide +kernel
theorem d_Msg_begin_16 : decode b_Msg_begin 16 = .ok (.iload 4, 2) := by decide +kernel
theorem d_Msg_begin_18 : decode b_Msg_begin 18 = .ok (.putfield 21, 3) := by decide +kernel
theorem d_Msg_begin_21 : decode b_Msg_begin 21 = .ok (.aload_n 0, 1) := by decide +kernel
theorem d_Msg_begin_22 : decode b_Msg_begin 22 = .ok (.iconst (-1), 1) := by decide +kernel
theorem d_Msg_begin_23 : decode b_Msg_begin 23 = .ok (.putfield 24, 3) := by decide +kernel
theorem d_Msg_begin_26 : decode b_Msg_begin 26 = .ok (.aload_n 0, 1) := by decide +kernel
theorem d_Msg_begin_27 : decode b_Msg_begin 27 = .ok (.iconst 0, 1) := by decide +kernel
theorem d_Msg_begin_28 : decode b_Msg_begin 28 = .ok (.putfield 27, 3) := by decide +kernel
theorem d_Msg_begin_31 : decode b_Msg_begin 31 = .ok (.aload_n 0, 1) := by decide +kernel
theorem d_Msg_begin_32 : decode b_Msg_begin 32 = .ok (.iconst 0, 1) := by decide +kernel
theorem d_Msg_begin_33 : decode b_Msg_begin 33 = .ok (.putfield 30, 3) := by decide +kernel
theorem d_Msg_begin_36 : decode b_Msg_begin 36 = .ok (.aload_n 0, 1) := by decide +kernel
theorem d_Msg_begin_37 : decode b_Msg_begin 37 = .ok (.iconst 0, 1) := by decide +kernel
theorem d_Msg_begin_38 : decode b_Msg_begin 38 = .ok (.putfield 33, 3) := by decide +kernel
theorem d_Msg_begin_41 : decode b_Msg_begin 41 = .ok (.aload_n 0, 1) := by decide +kernel
theorem d_Msg_begin_42 : decode b_Msg_begin 42 = .ok (.iconst 0, 1) := by decide +kernel
theorem d_Msg_begin_43 : decode b_Msg_begin 43 = .ok (.putfield 36, 3) := by decide +kernel
theorem d_Msg_begin_46 : decode b_Msg_begin 46 = .ok (.return_, 1) := by decide +kernel
theorem d_Msg_summary_0 : decode b_Msg_summary 0 = .ok (.ldc 39, 2) := by decide +kernel
theorem d_Msg_summary_2 : decode b_Msg_summary 2 = .ok (.aload_n 0, 1) := by decide +kernel
theorem d_Msg_summary_3 : decode b_Msg_summary 3 = .ok (.getfield 9, 3) := by decide +kernel
theorem d_Msg_summary_6 : decode b_Msg_summary 6 = .ok (.imul, 1) := by decide +kernel
theorem d_Msg_summary_7 : decode b_Msg_summary 7 = .ok (.ldc 40, 2) := by decide +kernel
theorem d_Msg_summary_9 : decode b_Msg_summary 9 = .ok (.aload_n 0, 1) := by decide +kernel
theorem d_Msg_summary_10 : decode b_Msg_summary 10 = .ok (.getfield 15, 3) := by decide +kernel
theorem d_Msg_summary_13 : decode b_Msg_summary 13 = .ok (.imul, 1) := by decide +kernel
theorem d_Msg_summary_14 : decode b_Msg_summary 14 = .ok (.iadd, 1) := by decide +kernel
theorem d_Msg_summary_15 : decode b_Msg_summary 15 = .ok (.sipush 10000, 3) := by decide +kernel
theorem d_Msg_summary_18 : decode b_Msg_summary 18 = .ok (.aload_n 0, 1) := by decide +kernel
theorem d_Msg_summary_19 : decode b_Msg_summary 19 = .ok (.getfield 18, 3) := by decide +kernel
theorem d_Msg_summary_22 : decode b_Msg_summary 22 = .ok (.imul, 1) := by decide +kernel
theorem d_Msg_summary_23 : decode b_Msg_summary 23 = .ok (.iadd, 1) := by decide +kernel
theorem d_Msg_summary_24 : decode b_Msg_summary 24 = .ok (.aload_n 0, 1) := by decide +kernel
theorem d_Msg_summary_25 : decode b_Msg_summary 25 = .ok (.getfield 21, 3) := by decide +kernel
theorem d_Msg_summary_28 : decode b_Msg_summary 28 = .ok (.iadd, 1) := by decide +kernel
theorem d_Msg_summary_29 : decode b_Msg_summary 29 = .ok (.ireturn, 1) := by decide +kernel
theorem d_Wire_isFull_0 : decode b_Wire_isFull 0 = .ok (.aload_n 0, 1) := by decide +kernel
theorem d_Wire_isFull_1 : decode b_Wire_isFull 1 = .ok (.getfield 18, 3) := by decide +kernel
theorem d_Wire_isFull_4 : decode b_Wire_isFull 4 = .ok (.bipush 40, 2) := by decide +kernel
theorem d_Wire_isFull_6 : decode b_Wire_isFull 6 = .ok (.if_icmp .lt 7, 3) := by decide +kernel
theorem d_Wire_isFull_9 : decode b_Wire_isFull 9 = .ok (.iconst 1, 1) := by decide +kernel
theorem d_Wire_isFull_10 : decode b_Wire_isFull 10 = .ok (.goto 4, 3) := by decide +kernel
theorem d_Wire_isFull_13 : decode b_Wire_isFull 13 = .ok (.iconst 0, 1) := by decide +kernel
theorem d_Wire_isFull_14 : decode b_Wire_isFull 14 = .ok (.ireturn, 1) := by decide +kernel
theorem d_Wire_holds_0 : decode b_Wire_holds 0 = .ok (.iload_n 1, 1) := by decide +kernel
theorem d_Wire_holds_1 : decode b_Wire_holds 1 = .ok (.ifCond .lt 15, 3) := by decide +kernel
theorem d_Wire_holds_4 : decode b_Wire_holds 4 = .ok (.iload_n 1, 1) := by decide +kernel
theorem d_Wire_holds_5 : decode b_Wire_holds 5 = .ok (.aload_n 0, 1) := by decide +kernel
theorem d_Wire_holds_6 : decode b_Wire_holds 6 = .ok (.getfield 18, 3) := by decide +kernel
theorem d_Wire_holds_9 : decode b_Wire_holds 9 = .ok (.if_icmp .ge 7, 3) := by decide +kernel
theorem d_Wire_holds_12 : decode b_Wire_holds 12 = .ok (.iconst 1, 1) := by decide +kernel
theorem d_Wire_holds_13 : decode b_Wire_holds 13 = .ok (.goto 4, 3) := by decide +kernel
theorem d_Wire_holds_16 : decode b_Wire_holds 16 = .ok (.iconst 0, 1) := by decide +kernel
theorem d_Wire_holds_17 : decode b_Wire_holds 17 = .ok (.ireturn, 1) := by decide +kernel
theorem d_Msg_copyFrom_0 : decode b_Msg_copyFrom 0 = .ok (.aload_n 0, 1) := by decide +kernel
theorem d_Msg_copyFrom_1 : decode b_Msg_copyFrom 1 = .ok (.aload_n 1, 1) := by decide +kernel
theorem d_Msg_copyFrom_2 : decode b_Msg_copyFrom 2 = .ok (.getfield 9, 3) := by decide +kernel
theorem d_Msg_copyFrom_5 : decode b_Msg_copyFrom 5 = .ok (.putfield 9, 3) := by decide +kernel
theorem d_Msg_copyFrom_8 : decode b_Msg_copyFrom 8 = .ok (.aload_n 0, 1) := by decide +kernel
theorem d_Msg_copyFrom_9 : decode b_Msg_copyFrom 9 = .ok (.aload_n 1, 1) := by decide +kernel
theorem d_Msg_copyFrom_10 : decode b_Msg_copyFrom 10 = .ok (.getfield 15, 3) := by decide +kernel
theorem d_Msg_copyFrom_13 : decode b_Msg_copyFrom 13 = .ok (.putfield 15, 3) := by decide +kernel
theorem d_Msg_copyFrom_16 : decode b_Msg_copyFrom 16 = .ok (.aload_n 0, 1) := by decide +kernel
theorem d_Msg_copyFrom_17 : decode b_Msg_copyFrom 17 = .ok (.aload_n 1, 1) := by decide +kernel
theorem d_Msg_copyFrom_18 : decode b_Msg_copyFrom 18 = .ok (.getfield 24, 3) := by decide +kernel
theorem d_Msg_copyFrom_21 : decode b_Msg_copyFrom 21 = .ok (.putfield 24, 3) := by decide +kernel
theorem d_Msg_copyFrom_24 : decode b_Msg_copyFrom 24 = .ok (.aload_n 0, 1) := by decide +kernel
theorem d_Msg_copyFrom_25 : decode b_Msg_copyFrom 25 = .ok (.aload_n 1, 1) := by decide +kernel
theorem d_Msg_copyFrom_26 : decode b_Msg_copyFrom 26 = .ok (.getfield 18, 3) := by decide +kernel
theorem d_Msg_copyFrom_29 : decode b_Msg_copyFrom 29 = .ok (.putfield 18, 3) := by decide +kernel
theorem d_Msg_copyFrom_32 : decode b_Msg_copyFrom 32 = .ok (.aload_n 0, 1) := by decide +kernel
theorem d_Msg_copyFrom_33 : decode b_Msg_copyFrom 33 = .ok (.aload_n 1, 1) := by decide +kernel
theorem d_Msg_copyFrom_34 : decode b_Msg_copyFrom 34 = .ok (.getfield 21, 3) := by decide +kernel
theorem d_Msg_copyFrom_37 : decode b_Msg_copyFrom 37 = .ok (.putfield 21, 3) := by decide +kernel
theorem d_Msg_copyFrom_40 : decode b_Msg_copyFrom 40 = .ok (.aload_n 0, 1) := by decide +kernel
theorem d_Msg_copyFrom_41 : decode b_Msg_copyFrom 41 = .ok (.aload_n 1, 1) := by decide +kernel
theorem d_Msg_copyFrom_42 : decode b_Msg_copyFrom 42 = .ok (.getfield 27, 3) := by decide +kernel
theorem d_Msg_copyFrom_45 : decode b_Msg_copyFrom 45 = .ok (.putfield 27, 3) := by decide +kernel
theorem d_Msg_copyFrom_48 : decode b_Msg_copyFrom 48 = .ok (.aload_n 0, 1) := by decide +kernel
theorem d_Msg_copyFrom_49 : decode b_Msg_copyFrom 49 = .ok (.aload_n 1, 1) := by decide +kernel
theorem d_Msg_copyFrom_50 : decode b_Msg_copyFrom 50 = .ok (.getfield 30, 3) := by decide +kernel
theorem d_Msg_copyFrom_53 : decode b_Msg_copyFrom 53 = .ok (.putfield 30, 3) := by decide +kernel
theorem d_Msg_copyFrom_56 : decode b_Msg_copyFrom 56 = .ok (.aload_n 0, 1) := by decide +kernel
theorem d_Msg_copyFrom_57 : decode b_Msg_copyFrom 57 = .ok (.aload_n 1, 1) := by decide +kernel
theorem d_Msg_copyFrom_58 : decode b_Msg_copyFrom 58 = .ok (.getfield 33, 3) := by decide +kernel
theorem d_Msg_copyFrom_61 : decode b_Msg_copyFrom 61 = .ok (.putfield 33, 3) := by decide +kernel
theorem d_Msg_copyFrom_64 : decode b_Msg_copyFrom 64 = .ok (.aload_n 0, 1) := by decide +kernel
theorem d_Msg_copyFrom_65 : decode b_Msg_copyFrom 65 = .ok (.aload_n 1, 1) := by decide +kernel
theorem d_Msg_copyFrom_66 : decode b_Msg_copyFrom 66 = .ok (.getfield 36, 3) := by decide +kernel
theorem d_Msg_copyFrom_69 : decode b_Msg_copyFrom 69 = .ok (.putfield 36, 3) := by decide +kernel
theorem d_Msg_copyFrom_72 : decode b_Msg_copyFrom 72 = .ok (.return_, 1) := by decide +kernel
theorem d_Mob_endsSoon_0 : decode b_Mob_endsSoon 0 = .ok (.aload_n 0, 1) := by decide +kernel
theorem d_Mob_endsSoon_1 : decode b_Mob_endsSoon 1 = .ok (.getfield 22, 3) := by decide +kernel
theorem d_Mob_endsSoon_4 : decode b_Mob_endsSoon 4 = .ok (.ifCond .eq 23, 3) := by decide +kernel
theorem d_Mob_endsSoon_7 : decode b_Mob_endsSoon 7 = .ok (.aload_n 0, 1) := by decide +kernel
theorem d_Mob_endsSoon_8 : decode b_Mob_endsSoon 8 = .ok (.getfield 26, 3) := by decide +kernel
theorem d_Mob_endsSoon_11 : decode b_Mob_endsSoon 11 = .ok (.aload_n 0, 1) := by decide +kernel
theorem d_Mob_endsSoon_12 : decode b_Mob_endsSoon 12 = .ok (.getfield 18, 3) := by decide +kernel
theorem d_Mob_endsSoon_15 : decode b_Mob_endsSoon 15 = .ok (.getfield 55, 3) := by decide +kernel
theorem d_Mob_endsSoon_18 : decode b_Mob_endsSoon 18 = .ok (.iconst 4, 1) := by decide +kernel
theorem d_Mob_endsSoon_19 : decode b_Mob_endsSoon 19 = .ok (.iadd, 1) := by decide +kernel
theorem d_Mob_endsSoon_20 : decode b_Mob_endsSoon 20 = .ok (.if_icmp .gt 7, 3) := by decide +kernel
theorem d_Mob_endsSoon_23 : decode b_Mob_endsSoon 23 = .ok (.iconst 1, 1) := by decide +kernel
theorem d_Mob_endsSoon_24 : decode b_Mob_endsSoon 24 = .ok (.goto 4, 3) := by decide +kernel
theorem d_Mob_endsSoon_27 : decode b_Mob_endsSoon 27 = .ok (.iconst 0, 1) := by decide +kernel
theorem d_Mob_endsSoon_28 : decode b_Mob_endsSoon 28 = .ok (.ireturn, 1) := by decide +kernel
theorem d_Home_isBound_0 : decode b_Home_isBound 0 = .ok (.aload_n 0, 1) := by decide +kernel
theorem d_Home_isBound_1 : decode b_Home_isBound 1 = .ok (.getfield 15, 3) := by decide +kernel
theorem d_Home_isBound_4 : decode b_Home_isBound 4 = .ok (.getfield 32, 3) := by decide +kernel
theorem d_Home_isBound_7 : decode b_Home_isBound 7 = .ok (.aload_n 0, 1) := by decide +kernel
theorem d_Home_isBound_8 : decode b_Home_isBound 8 = .ok (.getfield 29, 3) := by decide +kernel
theorem d_Home_isBound_11 : decode b_Home_isBound 11 = .ok (.iload_n 1, 1) := by decide +kernel
theorem d_Home_isBound_12 : decode b_Home_isBound 12 = .ok (.iaload, 1) := by decide +kernel
theorem d_Home_isBound_13 : decode b_Home_isBound 13 = .ok (.if_icmp .ge 7, 3) := by decide +kernel
theorem d_Home_isBound_16 : decode b_Home_isBound 16 = .ok (.iconst 1, 1) := by decide +kernel
theorem d_Home_isBound_17 : decode b_Home_isBound 17 = .ok (.goto 4, 3) := by decide +kernel
theorem d_Home_isBound_20 : decode b_Home_isBound 20 = .ok (.iconst 0, 1) := by decide +kernel
theorem d_Home_isBound_21 : decode b_Home_isBound 21 = .ok (.ireturn, 1) := by decide +kernel
