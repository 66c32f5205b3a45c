theorem d_Net_isWithin_0 : decode b_Net_isWithin 0 = .ok (.iload_n 0, 1) := by decide +kernel
theorem d_Net_isWithin_1 : decode b_Net_isWithin 1 = .ok (.iload_n 1, 1) := by decide +kernel
theorem d_Net_isWithin_2 : decode b_Net_isWithin 2 = .ok (.if_icmp .lt 12, 3) := by decide +kernel
theorem d_Net_isWithin_5 : decode b_Net_isWithin 5 = .ok (.iload_n 0, 1) := by decide +kernel
theorem d_Net_isWithin_6 : decode b_Net_isWithin 6 = .ok (.iload_n 2, 1) := by decide +kernel
theorem d_Net_isWithin_7 : decode b_Net_isWithin 7 = .ok (.if_icmp .gt 7, 3) := by decide +kernel
theorem d_Net_isWithin_10 : decode b_Net_isWithin 10 = .ok (.iconst 1, 1) := by decide +kernel
theorem d_Net_isWithin_11 : decode b_Net_isWithin 11 = .ok (.goto 4, 3) := by decide +kernel
theorem d_Net_isWithin_14 : decode b_Net_isWithin 14 = .ok (.iconst 0, 1) := by decide +kernel
theorem d_Net_isWithin_15 : decode b_Net_isWithin 15 = .ok (.ireturn, 1) := by decide +kernel
theorem d_Net_isMobile_0 : decode b_Net_isMobile 0 = .ok (.iload_n 0, 1) := by decide +kernel
theorem d_Net_isMobile_1 : decode b_Net_isMobile 1 = .ok (.iconst 0, 1) := by decide +kernel
theorem d_Net_isMobile_2 : decode b_Net_isMobile 2 = .ok (.iconst 1, 1) := by decide +kernel
theorem d_Net_isMobile_3 : decode b_Net_isMobile 3 = .ok (.invokestatic 11, 3) := by decide +kernel
theorem d_Net_isMobile_6 : decode b_Net_isMobile 6 = .ok (.ireturn, 1) := by decide +kernel
theorem d_Net_isAgent_0 : decode b_Net_isAgent 0 = .ok (.iload_n 0, 1) := by decide +kernel
theorem d_Net_isAgent_1 : decode b_Net_isAgent 1 = .ok (.iconst 0, 1) := by decide +kernel
theorem d_Net_isAgent_2 : decode b_Net_isAgent 2 = .ok (.iconst 3, 1) := by decide +kernel
theorem d_Net_isAgent_3 : decode b_Net_isAgent 3 = .ok (.invokestatic 11, 3) := by decide +kernel
theorem d_Net_isAgent_6 : decode b_Net_isAgent 6 = .ok (.ireturn, 1) := by decide +kernel
theorem d_Msg_stir_0 : decode b_Msg_stir 0 = .ok (.iload_n 0, 1) := by decide +kernel
theorem d_Msg_stir_1 : decode b_Msg_stir 1 = .ok (.iload_n 1, 1) := by decide +kernel
theorem d_Msg_stir_2 : decode b_Msg_stir 2 = .ok (.ixor, 1) := by decide +kernel
theorem d_Msg_stir_3 : decode b_Msg_stir 3 = .ok (.ldc 45, 2) := by decide +kernel
theorem d_Msg_stir_5 : decode b_Msg_stir 5 = .ok (.imul, 1) := by decide +kernel
theorem d_Msg_stir_6 : decode b_Msg_stir 6 = .ok (.istore_n 2, 1) := by decide +kernel
theorem d_Msg_stir_7 : decode b_Msg_stir 7 = .ok (.iload_n 2, 1) := by decide +kernel
theorem d_Msg_stir_8 : decode b_Msg_stir 8 = .ok (.iload_n 2, 1) := by decide +kernel
theorem d_Msg_stir_9 : decode b_Msg_stir 9 = .ok (.bipush 15, 2) := by decide +kernel
theorem d_Msg_stir_11 : decode b_Msg_stir 11 = .ok (.iushr, 1) := by decide +kernel
theorem d_Msg_stir_12 : decode b_Msg_stir 12 = .ok (.ixor, 1) := by decide +kernel
theorem d_Msg_stir_13 : decode b_Msg_stir 13 = .ok (.ireturn, 1) := by decide +kernel
theorem d_Msg_begin_0 : decode b_Msg_begin 0 = .ok (.aload_n 0, 1) := by decide +kernel
theorem d_Msg_begin_1 : decode b_Msg_begin 1 = .ok (.iload_n 1, 1) := by decide +kernel
theorem d_Msg_begin_2 : decode b_Msg_begin 2 = .ok (.putfield 9, 3) := by decide +kernel
theorem d_Msg_begin_5 : decode b_Msg_begin 5 = .ok (.aload_n 0, 1) := by decide +kernel
theorem d_Msg_begin_6 : decode b_Msg_begin 6 = .ok (.iload_n 2, 1) := by decide +kernel
theorem d_Msg_begin_7 : decode b_Msg_begin 7 = .ok (.putfield 15, 3) := by decide +kernel
theorem d_Msg_begin_10 : decode b_Msg_begin 10 = .ok (.aload_n 0, 1) := by decide +kernel
theorem d_Msg_begin_11 : decode b_Msg_begin 11 = .ok (.iload_n 3, 1) := by decide +kernel
theorem d_Msg_begin_12 : decode b_Msg_begin 12 = .ok (.putfield 18, 3) := by decide +kernel
theorem d_Msg_begin_15 : decode b_Msg_begin 15 = .ok (.aload_n 0, 1) := by decide +kernel
theorem d_Msg_begin_16 : decode b_Msg_begin 16 = .ok (.iload 4, 2) := by decide +kernel
theorem d_Msg_begin_18 : decode b_Msg_begin 18 = .ok (.putfield 21, 3) := by decide +kernel
theorem d_Msg_begin_21 : decode b_Msg_begin 21 = .ok (.aload_n 0, 1) := by decide +kernel
theorem d_Msg_begin_22 : decode b_Msg_begin 22 = .ok (.iconst (-1), 1) := by decide +kernel
theorem d_Msg_begin_23 : decode b_Msg_begin 23 = .ok (.putfield 24, 3) := by decide +kernel
theorem d_Msg_begin_26 : decode b_Msg_begin 26 = .ok (.aload_n 0, 1) := by decide +kernel
theorem d_Msg_begin_27 : decode b_Msg_begin 27 = .ok (.iconst 0, 1) := by decide +kernel
theorem d_Msg_begin_28 : decode b_Msg_begin 28 = .ok (.putfield 27, 3) := by decide +kernel
theorem d_Msg_begin_31 : decode b_Msg_begin 31 = .ok (.aload_n 0, 1) := by decide +kernel
theorem d_Msg_begin_32 : decode b_Msg_begin 32 = .ok (.iconst 0, 1) := by decide +kernel
theorem d_Msg_begin_33 : decode b_Msg_begin 33 = .ok (.putfield 30, 3) := by decide +kernel
theorem d_Msg_begin_36 : decode b_Msg_begin 36 = .ok (.aload_n 0, 1) := by decide +kernel
theorem d_Msg_begin_37 : decode b_Msg_begin 37 = .ok (.iconst 0, 1) := by decide +kernel
theorem d_Msg_begin_38 : decode b_Msg_begin 38 = .ok (.putfield 33, 3) := by decide +kernel
theorem d_Msg_begin_41 : decode b_Msg_begin 41 = .ok (.aload_n 0, 1) := by decide +kernel
theorem d_Msg_begin_42 : decode b_Msg_begin 42 = .ok (.iconst 0, 1) := by decide +kernel
theorem d_Msg_begin_43 : decode b_Msg_begin 43 = .ok (.putfield 36, 3) := by decide +kernel
theorem d_Msg_begin_46 : decode b_Msg_begin 46 = .ok (.return_, 1) := by decide +kernel
theorem d_Msg_copyFrom_0 : decode b_Msg_copyFrom 0 = .ok (.aload_n 0, 1) := by decide +kernel
theorem d_Msg_copyFrom_1 : decode b_Msg_copyFrom 1 = .ok (.aload_n 1, 1) := by decide +kernel
theorem d_Msg_copyFrom_2 : decode b_Msg_copyFrom 2 = .ok (.getfield 9, 3) := by decide +kernel
theorem d_Msg_copyFrom_5 : decode b_Msg_copyFrom 5 = .ok (.putfield 9, 3) := by decide +kernel
theorem d_Msg_copyFrom_8 : decode b_Msg_copyFrom 8 = .ok (.aload_n 0, 1) := by decide +kernel
theorem d_Msg_copyFrom_9 : decode b_Msg_copyFrom 9 = .ok (.aload_n 1, 1) := by decide +kernel
theorem d_Msg_copyFrom_10 : decode b_Msg_copyFrom 10 = .ok (.getfield 15, 3) := by decide +kernel
theorem d_Msg_copyFrom_13 : decode b_Msg_copyFrom 13 = .ok (.putfield 15, 3) := by decide +kernel
theorem d_Msg_copyFrom_16 : decode b_Msg_copyFrom 16 = .ok (.aload_n 0, 1) := by decide +kernel
theorem d_Msg_copyFrom_17 : decode b_Msg_copyFrom 17 = .ok (.aload_n 1, 1) := by decide +kernel
theorem d_Msg_copyFrom_18 : decode b_Msg_copyFrom 18 = .ok (.getfield 24, 3) := by decide +kernel
theorem d_Msg_copyFrom_21 : decode b_Msg_copyFrom 21 = .ok (.putfield 24, 3) := by decide +kernel
theorem d_Msg_copyFrom_24 : decode b_Msg_copyFrom 24 = .ok (.aload_n 0, 1) := by decide +kernel
theorem d_Msg_copyFrom_25 : decode b_Msg_copyFrom 25 = .ok (.aload_n 1, 1) := by decide +kernel
theorem d_Msg_copyFrom_26 : decode b_Msg_copyFrom 26 = .ok (.getfield 18, 3) := by decide +kernel
theorem d_Msg_copyFrom_29 : decode b_Msg_copyFrom 29 = .ok (.putfield 18, 3) := by decide +kernel
theorem d_Msg_copyFrom_32 : decode b_Msg_copyFrom 32 = .ok (.aload_n 0, 1) := by decide +kernel
theorem d_Msg_copyFrom_33 : decode b_Msg_copyFrom 33 = .ok (.aload_n 1, 1) := by decide +kernel
theorem d_Msg_copyFrom_34 : decode b_Msg_copyFrom 34 = .ok (.getfield 21, 3) := by decide +kernel
theorem d_Msg_copyFrom_37 : decode b_Msg_copyFrom 37 = .ok (.putfield 21, 3) := by decide +kernel
theorem d_Msg_copyFrom_40 : decode b_Msg_copyFrom 40 = .ok (.aload_n 0, 1) := by decide +kernel
theorem d_Msg_copyFrom_41 : decode b_Msg_copyFrom 41 = .ok (.aload_n 1, 1) := by decide +kernel
theorem d_Msg_copyFrom_42 : decode b_Msg_copyFrom 42 = .ok (.getfield 27, 3) := by decide +kernel
theorem d_Msg_copyFrom_45 : decode b_Msg_copyFrom 45 = .ok (.putfield 27, 3) := by decide +kernel
theorem d_Msg_copyFrom_48 : decode b_Msg_copyFrom 48 = .ok (.aload_n 0, 1) := by decide +kernel
theorem d_Msg_copyFrom_49 : decode b_Msg_copyFrom 49 = .ok (.aload_n 1, 1) := by decide +kernel
theorem d_Msg_copyFrom_50 : decode b_Msg_copyFrom 50 = .ok (.getfield 30, 3) := by decide +kernel
theorem d_Msg_copyFrom_53 : decode b_Msg_copyFrom 53 = .ok (.putfield 30, 3) := by decide +kernel
theorem d_Msg_copyFrom_56 : decode b_Msg_copyFrom 56 = .ok (.aload_n 0, 1) := by decide +kernel
theorem d_Msg_copyFrom_57 : decode b_Msg_copyFrom 57 = .ok (.aload_n 1, 1) := by decide +kernel
theorem d_Msg_copyFrom_58 : decode b_Msg_copyFrom 58 = .ok (.getfield 33, 3) := by decide +kernel
theorem d_Msg_copyFrom_61 : decode b_Msg_copyFrom 61 = .ok (.putfield 33, 3) := by decide +kernel
theorem d_Msg_copyFrom_64 : decode b_Msg_copyFrom 64 = .ok (.aload_n 0, 1) := by decide +kernel
theorem d_Msg_copyFrom_65 : decode b_Msg_copyFrom 65 = .ok (.aload_n 1, 1) := by decide +kernel
theorem d_Msg_copyFrom_66 : decode b_Msg_copyFrom 66 = .ok (.getfield 36, 3) := by decide +kernel
theorem d_Msg_copyFrom_69 : decode b_Msg_copyFrom 69 = .ok (.putfield 36, 3) := by decide +kernel
theorem d_Msg_copyFrom_72 : decode b_Msg_copyFrom 72 = .ok (.return_, 1) := by decide +kernel
theorem d_Msg_summary_0 : decode b_Msg_summary 0 = .ok (.ldc 39, 2) := by decide +kernel
theorem d_Msg_summary_2 : decode b_Msg_summary 2 = .ok (.aload_n 0, 1) := by decide +kernel
theorem d_Msg_summary_3 : decode b_Msg_summary 3 = .ok (.getfield 9, 3) := by decide +kernel
theorem d_Msg_summary_6 : decode b_Msg_summary 6 = .ok (.imul, 1) := by decide +kernel
theorem d_Msg_summary_7 : decode b_Msg_summary 7 = .ok (.ldc 40, 2) := by decide +kernel
theorem d_Msg_summary_9 : decode b_Msg_summary 9 = .ok (.aload_n 0, 1) := by decide +kernel
theorem d_Msg_summary_10 : decode b_Msg_summary 10 = .ok (.getfield 15, 3) := by decide +kernel
theorem d_Msg_summary_13 : decode b_Msg_summary 13 = .ok (.imul, 1) := by decide +kernel
theorem d_Msg_summary_14 : decode b_Msg_summary 14 = .ok (.iadd, 1) := by decide +kernel
theorem d_Msg_summary_15 : decode b_Msg_summary 15 = .ok (.sipush 10000, 3) := by decide +kernel
theorem d_Msg_summary_18 : decode b_Msg_summary 18 = .ok (.aload_n 0, 1) := by decide +kernel
theorem d_Msg_summary_19 : decode b_Msg_summary 19 = .ok (.getfield 18, 3) := by decide +kernel
theorem d_Msg_summary_22 : decode b_Msg_summary 22 = .ok (.imul, 1) := by decide +kernel
theorem d_Msg_summary_23 : decode b_Msg_summary 23 = .ok (.iadd, 1) := by decide +kernel
theorem d_Msg_summary_24 : decode b_Msg_summary 24 = .ok (.aload_n 0, 1) := by decide +kernel
theorem d_Msg_summary_25 : decode b_Msg_summary 25 = .ok (.getfield 21, 3) := by decide +kernel
theorem d_Msg_summary_28 : decode b_Msg_summary 28 = .ok (.iadd, 1) := by decide +kernel
theorem d_Msg_summary_29 : decode b_Msg_summary 29 = .ok (.ireturn, 1) := by decide +kernel
theorem d_Msg_requestSeal_0 : decode b_Msg_requestSeal 0 = .ok (.iload_n 1, 1) := by decide +kernel
theorem d_Msg_requestSeal_1 : decode b_Msg_requestSeal 1 = .ok (.iconst 2, 1) := by decide +kernel
theorem d_Msg_requestSeal_2 : decode b_Msg_requestSeal 2 = .ok (.invokestatic 41, 3) := by decide +kernel
theorem d_Msg_requestSeal_5 : decode b_Msg_requestSeal 5 = .ok (.istore_n 2, 1) := by decide +kernel
theorem d_Msg_requestSeal_6 : decode b_Msg_requestSeal 6 = .ok (.iload_n 2, 1) := by decide +kernel
theorem d_Msg_requestSeal_7 : decode b_Msg_requestSeal 7 = .ok (.aload_n 0, 1) := by decide +kernel
theorem d_Msg_requestSeal_8 : decode b_Msg_requestSeal 8 = .ok (.getfield 18, 3) := by decide +kernel
theorem d_Msg_requestSeal_11 : decode b_Msg_requestSeal 11 = .ok (.invokestatic 41, 3) := by decide +kernel
theorem d_Msg_requestSeal_14 : decode b_Msg_requestSeal 14 = .ok (.istore_n 2, 1) := by decide +kernel
theorem d_Msg_requestSeal_15 : decode b_Msg_requestSeal 15 = .ok (.iload_n 2, 1) := by decide +kernel
theorem d_Msg_requestSeal_16 : decode b_Msg_requestSeal 16 = .ok (.aload_n 0, 1) := by decide +kernel
theorem d_Msg_requestSeal_17 : decode b_Msg_requestSeal 17 = .ok (.getfield 27, 3) := by decide +kernel
theorem d_Msg_requestSeal_20 : decode b_Msg_requestSeal 20 = .ok (.invokestatic 41, 3) := by decide +kernel
theorem d_Msg_requestSeal_23 : decode b_Msg_requestSeal 23 = .ok (.istore_n 2, 1) := by decide +kernel
theorem d_Msg_requestSeal_24 : decode b_Msg_requestSeal 24 = .ok (.iload_n 2, 1) := by decide +kernel
theorem d_Msg_requestSeal_25 : decode b_Msg_requestSeal 25 = .ok (.aload_n 0, 1) := by decide +kernel
theorem d_Msg_requestSeal_26 : decode b_Msg_requestSeal 26 = .ok (.getfield 33, 3) := by decide +kernel
theorem d_Msg_requestSeal_29 : decode b_Msg_requestSeal 29 = .ok (.invokestatic 41, 3) := by decide +kernel
theorem d_Msg_requestSeal_32 : decode b_Msg_requestSeal 32 = .ok (.istore_n 2, 1) := by decide +kernel
theorem d_Msg_requestSeal_33 : decode b_Msg_requestSeal 33 = .ok (.iload_n 2, 1) := by decide +kernel
theorem d_Msg_requestSeal_34 : decode b_Msg_requestSeal 34 = .ok (.aload_n 0, 1) := by decide +kernel
theorem d_Msg_requestSeal_35 : decode b_Msg_requestSeal 35 = .ok (.getfield 21, 3) := by decide +kernel
theorem d_Msg_requestSeal_38 : decode b_Msg_requestSeal 38 = .ok (.invokestatic 41, 3) := by decide +kernel
theorem d_Msg_requestSeal_41 : decode b_Msg_requestSeal 41 = .ok (.ireturn, 1) := by decide +kernel
theorem d_Msg_replySeal_0 : decode b_Msg_replySeal 0 = .ok (.iload_n 1, 1) := by decide +kernel
theorem d_Msg_replySeal_1 : decode b_Msg_replySeal 1 = .ok (.iconst 3, 1) := by decide +kernel
theorem d_Msg_replySeal_2 : decode b_Msg_replySeal 2 = .ok (.invokestatic 41, 3) := by decide +kernel
theorem d_Msg_replySeal_5 : decode b_Msg_replySeal 5 = .ok (.istore_n 2, 1) := by decide +kernel
theorem d_Msg_replySeal_6 : decode b_Msg_replySeal 6 = .ok (.iload_n 2, 1) := by decide +kernel
theorem d_Msg_replySeal_7 : decode b_Msg_replySeal 7 = .ok (.aload_n 0, 1) := by decide +kernel
theorem d_Msg_replySeal_8 : decode b_Msg_replySeal 8 = .ok (.getfield 18, 3) := by decide +kernel
theorem d_Msg_replySeal_11 : decode b_Msg_replySeal 11 = .ok (.invokestatic 41, 3) := by decide +kernel
theorem d_Msg_replySeal_14 : decode b_Msg_replySeal 14 = .ok (.istore_n 2, 1) := by decide +kernel
theorem d_Msg_replySeal_15 : decode b_Msg_replySeal 15 = .ok (.iload_n 2, 1) := by decide +kernel
theorem d_Msg_replySeal_16 : decode b_Msg_replySeal 16 = .ok (.aload_n 0, 1) := by decide +kernel
theorem d_Msg_replySeal_17 : decode b_Msg_replySeal 17 = .ok (.getfield 27, 3) := by decide +kernel
theorem d_Msg_replySeal_20 : decode b_Msg_replySeal 20 = .ok (.invokestatic 41, 3) := by decide +kernel
theorem d_Msg_replySeal_23 : decode b_Msg_replySeal 23 = .ok (.istore_n 2, 1) := by decide +kernel
theorem d_Msg_replySeal_24 : decode b_Msg_replySeal 24 = .ok (.iload_n 2, 1) := by decide +kernel
theorem d_Msg_replySeal_25 : decode b_Msg_replySeal 25 = .ok (.aload_n 0, 1) := by decide +kernel
theorem d_Msg_replySeal_26 : decode b_Msg_replySeal 26 = .ok (.getfield 30, 3) := by decide +kernel
theorem d_Msg_replySeal_29 : decode b_Msg_replySeal 29 = .ok (.invokestatic 41, 3) := by decide +kernel
theorem d_Msg_replySeal_32 : decode b_Msg_replySeal 32 = .ok (.istore_n 2, 1) := by decide +kernel
theorem d_Msg_replySeal_33 : decode b_Msg_replySeal 33 = .ok (.iload_n 2, 1) := by decide +kernel
theorem d_Msg_replySeal_34 : decode b_Msg_replySeal 34 = .ok (.aload_n 0, 1) := by decide +kernel
theorem d_Msg_replySeal_35 : decode b_Msg_replySeal 35 = .ok (.getfield 33, 3) := by decide +kernel
theorem d_Msg_replySeal_38 : decode b_Msg_replySeal 38 = .ok (.invokestatic 41, 3) := by decide +kernel
theorem d_Msg_replySeal_41 : decode b_Msg_replySeal 41 = .ok (.istore_n 2, 1) := by decide +kernel
theorem d_Msg_replySeal_42 : decode b_Msg_replySeal 42 = .ok (.iload_n 2, 1) := by decide +kernel
theorem d_Msg_replySeal_43 : decode b_Msg_replySeal 43 = .ok (.aload_n 0, 1) := by decide +kernel
theorem d_Msg_replySeal_44 : decode b_Msg_replySeal 44 = .ok (.getfield 21, 3) := by decide +kernel
theorem d_Msg_replySeal_47 : decode b_Msg_replySeal 47 = .ok (.invokestatic 41, 3) := by decide +kernel
theorem d_Msg_replySeal_50 : decode b_Msg_replySeal 50 = .ok (.ireturn, 1) := by decide +kernel
theorem d_Wire_holds_0 : decode b_Wire_holds 0 = .ok (.iload_n 1, 1) := by decide +kernel
theorem d_Wire_holds_1 : decode b_Wire_holds 1 = .ok (.ifCond .lt 15, 3) := by decide +kernel
theorem d_Wire_holds_4 : decode b_Wire_holds 4 = .ok (.iload_n 1, 1) := by decide +kernel
theorem d_Wire_holds_5 : decode b_Wire_holds 5 = .ok (.aload_n 0, 1) := by decide +kernel
theorem d_Wire_holds_6 : decode b_Wire_holds 6 = .ok (.getfield 18, 3) := by decide +kernel
theorem d_Wire_holds_9 : decode b_Wire_holds 9 = .ok (.if_icmp .ge 7, 3) := by decide +kernel
theorem d_Wire_holds_12 : decode b_Wire_holds 12 = .ok (.iconst 1, 1) := by decide +kernel
theorem d_Wire_holds_13 : decode b_Wire_holds 13 = .ok (.goto 4, 3) := by decide +kernel
theorem d_Wire_holds_16 : decode b_Wire_holds 16 = .ok (.iconst 0, 1) := by decide +kernel
theorem d_Wire_holds_17 : decode b_Wire_holds 17 = .ok (.ireturn, 1) := by decide +kernel
theorem d_Wire_isFull_0 : decode b_Wire_isFull 0 = .ok (.aload_n 0, 1) := by decide +kernel
theorem d_Wire_isFull_1 : decode b_Wire_isFull 1 = .ok (.getfield 18, 3) := by decide +kernel
theorem d_Wire_isFull_4 : decode b_Wire_isFull 4 = .ok (.bipush 40, 2) := by decide +kernel
theorem d_Wire_isFull_6 : decode b_Wire_isFull 6 = .ok (.if_icmp .lt 7, 3) := by decide +kernel
theorem d_Wire_isFull_9 : decode b_Wire_isFull 9 = .ok (.iconst 1, 1) := by decide +kernel
theorem d_Wire_isFull_10 : decode b_Wire_isFull 10 = .ok (.goto 4, 3) := by decide +kernel
theorem d_Wire_isFull_13 : decode b_Wire_isFull 13 = .ok (.iconst 0, 1) := by decide +kernel
theorem d_Wire_isFull_14 : decode b_Wire_isFull 14 = .ok (.ireturn, 1) := by decide +kernel
theorem d_Wire_nextRow_0 : decode b_Wire_nextRow 0 = .ok (.aload_n 0, 1) := by decide +kernel
theorem d_Wire_nextRow_1 : decode b_Wire_nextRow 1 = .ok (.invokevirtual 22, 3) := by decide +kernel
theorem d_Wire_nextRow_4 : decode b_Wire_nextRow 4 = .ok (.ifCond .eq 11, 3) := by decide +kernel
theorem d_Wire_nextRow_7 : decode b_Wire_nextRow 7 = .ok (.aload_n 0, 1) := by decide +kernel
theorem d_Wire_nextRow_8 : decode b_Wire_nextRow 8 = .ok (.getfield 11, 3) := by decide +kernel
theorem d_Wire_nextRow_11 : decode b_Wire_nextRow 11 = .ok (.bipush 40, 2) := by decide +kernel
theorem d_Wire_nextRow_13 : decode b_Wire_nextRow 13 = .ok (.aaload, 1) := by decide +kernel
theorem d_Wire_nextRow_14 : decode b_Wire_nextRow 14 = .ok (.areturn, 1) := by decide +kernel
theorem d_Wire_nextRow_15 : decode b_Wire_nextRow 15 = .ok (.aload_n 0, 1) := by decide +kernel
theorem d_Wire_nextRow_16 : decode b_Wire_nextRow 16 = .ok (.dup, 1) := by decide +kernel
theorem d_Wire_nextRow_17 : decode b_Wire_nextRow 17 = .ok (.getfield 18, 3) := by decide +kernel
theorem d_Wire_nextRow_20 : decode b_Wire_nextRow 20 = .ok (.iconst 1, 1) := by decide +kernel
theorem d_Wire_nextRow_21 : decode b_Wire_nextRow 21 = .ok (.iadd, 1) := by decide +kernel
theorem d_Wire_nextRow_22 : decode b_Wire_nextRow 22 = .ok (.putfield 18, 3) := by decide +kernel
theorem d_Wire_nextRow_25 : decode b_Wire_nextRow 25 = .ok (.aload_n 0, 1) := by decide +kernel
theorem d_Wire_nextRow_26 : decode b_Wire_nextRow 26 = .ok (.getfield 11, 3) := by decide +kernel
theorem d_Wire_nextRow_29 : decode b_Wire_nextRow 29 = .ok (.aload_n 0, 1) := by decide +kernel
theorem d_Wire_nextRow_30 : decode b_Wire_nextRow 30 = .ok (.getfield 18, 3) := by decide +kernel
theorem d_Wire_nextRow_33 : decode b_Wire_nextRow 33 = .ok (.iconst 1, 1) := by decide +kernel
theorem d_Wire_nextRow_34 : decode b_Wire_nextRow 34 = .ok (.isub, 1) := by decide +kernel
theorem d_Wire_nextRow_35 : decode b_Wire_nextRow 35 = .ok (.aaload, 1) := by decide +kernel
theorem d_Wire_nextRow_36 : decode b_Wire_nextRow 36 = .ok (.areturn, 1) := by decide +kernel
theorem d_Wire_sendTo_0 : decode b_Wire_sendTo 0 = .ok (.aload_n 0, 1) := by decide +kernel
theorem d_Wire_sendTo_1 : decode b_Wire_sendTo 1 = .ok (.invokevirtual 26, 3) := by decide +kernel
theorem d_Wire_sendTo_4 : decode b_Wire_sendTo 4 = .ok (.astore 5, 2) := by decide +kernel
theorem d_Wire_sendTo_6 : decode b_Wire_sendTo 6 = .ok (.aload 5, 2) := by decide +kernel
theorem d_Wire_sendTo_8 : decode b_Wire_sendTo 8 = .ok (.iload_n 2, 1) := by decide +kernel
theorem d_Wire_sendTo_9 : decode b_Wire_sendTo 9 = .ok (.iload_n 1, 1) := by decide +kernel
theorem d_Wire_sendTo_10 : decode b_Wire_sendTo 10 = .ok (.iload_n 3, 1) := by decide +kernel
theorem d_Wire_sendTo_11 : decode b_Wire_sendTo 11 = .ok (.iload 4, 2) := by decide +kernel
theorem d_Wire_sendTo_13 : decode b_Wire_sendTo 13 = .ok (.invokevirtual 30, 3) := by decide +kernel
theorem d_Wire_sendTo_16 : decode b_Wire_sendTo 16 = .ok (.aload 5, 2) := by decide +kernel
theorem d_Wire_sendTo_18 : decode b_Wire_sendTo 18 = .ok (.areturn, 1) := by decide +kernel
theorem d_Wire_sendInNetwork_0 : decode b_Wire_sendInNetwork 0 = .ok (.aload_n 0, 1) := by decide +kernel
theorem d_Wire_sendInNetwork_1 : decode b_Wire_sendInNetwork 1 = .ok (.iconst 5, 1) := by decide +kernel
theorem d_Wire_sendInNetwork_2 : decode b_Wire_sendInNetwork 2 = .ok (.iload_n 2, 1) := by decide +kernel
theorem d_Wire_sendInNetwork_3 : decode b_Wire_sendInNetwork 3 = .ok (.iload_n 3, 1) := by decide +kernel
theorem d_Wire_sendInNetwork_4 : decode b_Wire_sendInNetwork 4 = .ok (.iload 4, 2) := by decide +kernel
theorem d_Wire_sendInNetwork_6 : decode b_Wire_sendInNetwork 6 = .ok (.invokevirtual 34, 3) := by decide +kernel
theorem d_Wire_sendInNetwork_9 : decode b_Wire_sendInNetwork 9 = .ok (.astore 5, 2) := by decide +kernel
theorem d_Wire_sendInNetwork_11 : decode b_Wire_sendInNetwork 11 = .ok (.aload 5, 2) := by decide +kernel
theorem d_Wire_sendInNetwork_13 : decode b_Wire_sendInNetwork 13 = .ok (.iload_n 1, 1) := by decide +kernel
theorem d_Wire_sendInNetwork_14 : decode b_Wire_sendInNetwork 14 = .ok (.putfield 38, 3) := by decide +kernel
theorem d_Wire_sendInNetwork_17 : decode b_Wire_sendInNetwork 17 = .ok (.aload 5, 2) := by decide +kernel
theorem d_Wire_sendInNetwork_19 : decode b_Wire_sendInNetwork 19 = .ok (.areturn, 1) := by decide +kernel
theorem d_Wire_sendOn_0 : decode b_Wire_sendOn 0 = .ok (.aload_n 0, 1) := by decide +kernel
theorem d_Wire_sendOn_1 : decode b_Wire_sendOn 1 = .ok (.invokevirtual 26, 3) := by decide +kernel
theorem d_Wire_sendOn_4 : decode b_Wire_sendOn 4 = .ok (.astore 4, 2) := by decide +kernel
theorem d_Wire_sendOn_6 : decode b_Wire_sendOn 6 = .ok (.aload 4, 2) := by decide +kernel
theorem d_Wire_sendOn_8 : decode b_Wire_sendOn 8 = .ok (.aload_n 1, 1) := by decide +kernel
theorem d_Wire_sendOn_9 : decode b_Wire_sendOn 9 = .ok (.invokevirtual 41, 3) := by decide +kernel
theorem d_Wire_sendOn_12 : decode b_Wire_sendOn 12 = .ok (.aload 4, 2) := by decide +kernel
theorem d_Wire_sendOn_14 : decode b_Wire_sendOn 14 = .ok (.iload_n 2, 1) := by decide +kernel
theorem d_Wire_sendOn_15 : decode b_Wire_sendOn 15 = .ok (.putfield 45, 3) := by decide +kernel
theorem d_Wire_sendOn_18 : decode b_Wire_sendOn 18 = .ok (.aload 4, 2) := by decide +kernel
theorem d_Wire_sendOn_20 : decode b_Wire_sendOn 20 = .ok (.iload_n 3, 1) := by decide +kernel
theorem d_Wire_sendOn_21 : decode b_Wire_sendOn 21 = .ok (.putfield 38, 3) := by decide +kernel
theorem d_Wire_sendOn_24 : decode b_Wire_sendOn 24 = .ok (.return_, 1) := by decide +kernel
theorem d_Mob_endsSoon_0 : decode b_Mob_endsSoon 0 = .ok (.aload_n 0, 1) := by decide +kernel
theorem d_Mob_endsSoon_1 : decode b_Mob_endsSoon 1 = .ok (.getfield 22, 3) := by decide +kernel
theorem d_Mob_endsSoon_4 : decode b_Mob_endsSoon 4 = .ok (.ifCond .eq 23, 3) := by decide +kernel
theorem d_Mob_endsSoon_7 : decode b_Mob_endsSoon 7 = .ok (.aload_n 0, 1) := by decide +kernel
theorem d_Mob_endsSoon_8 : decode b_Mob_endsSoon 8 = .ok (.getfield 26, 3) := by decide +kernel
theorem d_Mob_endsSoon_11 : decode b_Mob_endsSoon 11 = .ok (.aload_n 0, 1) := by decide +kernel
theorem d_Mob_endsSoon_12 : decode b_Mob_endsSoon 12 = .ok (.getfield 18, 3) := by decide +kernel
theorem d_Mob_endsSoon_15 : decode b_Mob_endsSoon 15 = .ok (.getfield 55, 3) := by decide +kernel
theorem d_Mob_endsSoon_18 : decode b_Mob_endsSoon 18 = .ok (.iconst 4, 1) := by decide +kernel
theorem d_Mob_endsSoon_19 : decode b_Mob_endsSoon 19 = .ok (.iadd, 1) := by decide +kernel
theorem d_Mob_endsSoon_20 : decode b_Mob_endsSoon 20 = .ok (.if_icmp .gt 7, 3) := by decide +kernel
theorem d_Mob_endsSoon_23 : decode b_Mob_endsSoon 23 = .ok (.iconst 1, 1) := by decide +kernel
theorem d_Mob_endsSoon_24 : decode b_Mob_endsSoon 24 = .ok (.goto 4, 3) := by decide +kernel
theorem d_Mob_endsSoon_27 : decode b_Mob_endsSoon 27 = .ok (.iconst 0, 1) := by decide +kernel
theorem d_Mob_endsSoon_28 : decode b_Mob_endsSoon 28 = .ok (.ireturn, 1) := by decide +kernel
theorem d_Mob_registerWith_0 : decode b_Mob_registerWith 0 = .ok (.aload_n 0, 1) := by decide +kernel
theorem d_Mob_registerWith_1 : decode b_Mob_registerWith 1 = .ok (.dup, 1) := by decide +kernel
theorem d_Mob_registerWith_2 : decode b_Mob_registerWith 2 = .ok (.getfield 76, 3) := by decide +kernel
theorem d_Mob_registerWith_5 : decode b_Mob_registerWith 5 = .ok (.iconst 1, 1) := by decide +kernel
theorem d_Mob_registerWith_6 : decode b_Mob_registerWith 6 = .ok (.iadd, 1) := by decide +kernel
theorem d_Mob_registerWith_7 : decode b_Mob_registerWith 7 = .ok (.putfield 76, 3) := by decide +kernel
theorem d_Mob_registerWith_10 : decode b_Mob_registerWith 10 = .ok (.aload_n 0, 1) := by decide +kernel
theorem d_Mob_registerWith_11 : decode b_Mob_registerWith 11 = .ok (.getfield 18, 3) := by decide +kernel
theorem d_Mob_registerWith_14 : decode b_Mob_registerWith 14 = .ok (.iload_n 1, 1) := by decide +kernel
theorem d_Mob_registerWith_15 : decode b_Mob_registerWith 15 = .ok (.iconst 2, 1) := by decide +kernel
theorem d_Mob_registerWith_16 : decode b_Mob_registerWith 16 = .ok (.aload_n 0, 1) := by decide +kernel
theorem d_Mob_registerWith_17 : decode b_Mob_registerWith 17 = .ok (.getfield 9, 3) := by decide +kernel
theorem d_Mob_registerWith_20 : decode b_Mob_registerWith 20 = .ok (.aload_n 0, 1) := by decide +kernel
theorem d_Mob_registerWith_21 : decode b_Mob_registerWith 21 = .ok (.getfield 76, 3) := by decide +kernel
theorem d_Mob_registerWith_24 : decode b_Mob_registerWith 24 = .ok (.invokevirtual 79, 3) := by decide +kernel
theorem d_Mob_registerWith_27 : decode b_Mob_registerWith 27 = .ok (.astore_n 2, 1) := by decide +kernel
theorem d_Mob_registerWith_28 : decode b_Mob_registerWith 28 = .ok (.aload_n 2, 1) := by decide +kernel
theorem d_Mob_registerWith_29 : decode b_Mob_registerWith 29 = .ok (.iload_n 1, 1) := by decide +kernel
theorem d_Mob_registerWith_30 : decode b_Mob_registerWith 30 = .ok (.putfield 83, 3) := by decide +kernel
theorem d_Mob_registerWith_33 : decode b_Mob_registerWith 33 = .ok (.aload_n 2, 1) := by decide +kernel
theorem d_Mob_registerWith_34 : decode b_Mob_registerWith 34 = .ok (.iload_n 1, 1) := by decide +kernel
theorem d_Mob_registerWith_35 : decode b_Mob_registerWith 35 = .ok (.ifCond .ne 7, 3) := by decide +kernel
theorem d_Mob_registerWith_38 : decode b_Mob_registerWith 38 = .ok (.iconst 0, 1) := by decide +kernel
theorem d_Mob_registerWith_39 : decode b_Mob_registerWith 39 = .ok (.goto 7, 3) := by decide +kernel
theorem d_Mob_registerWith_42 : decode b_Mob_registerWith 42 = .ok (.aload_n 0, 1) := by decide +kernel
theorem d_Mob_registerWith_43 : decode b_Mob_registerWith 43 = .ok (.getfield 15, 3) := by decide +kernel
theorem d_Mob_registerWith_46 : decode b_Mob_registerWith 46 = .ok (.putfield 86, 3) := by decide +kernel
theorem d_Mob_registerWith_49 : decode b_Mob_registerWith 49 = .ok (.aload_n 2, 1) := by decide +kernel
theorem d_Mob_registerWith_50 : decode b_Mob_registerWith 50 = .ok (.aload_n 2, 1) := by decide +kernel
theorem d_Mob_registerWith_51 : decode b_Mob_registerWith 51 = .ok (.aload_n 0, 1) := by decide +kernel
theorem d_Mob_registerWith_52 : decode b_Mob_registerWith 52 = .ok (.getfield 89, 3) := by decide +kernel
theorem d_Mob_registerWith_55 : decode b_Mob_registerWith 55 = .ok (.invokevirtual 92, 3) := by decide +kernel
theorem d_Mob_registerWith_58 : decode b_Mob_registerWith 58 = .ok (.putfield 96, 3) := by decide +kernel
theorem d_Mob_registerWith_61 : decode b_Mob_registerWith 61 = .ok (.aload_n 0, 1) := by decide +kernel
theorem d_Mob_registerWith_62 : decode b_Mob_registerWith 62 = .ok (.aload_n 0, 1) := by decide +kernel
theorem d_Mob_registerWith_63 : decode b_Mob_registerWith 63 = .ok (.getfield 76, 3) := by decide +kernel
theorem d_Mob_registerWith_66 : decode b_Mob_registerWith 66 = .ok (.putfield 63, 3) := by decide +kernel
theorem d_Mob_registerWith_69 : decode b_Mob_registerWith 69 = .ok (.aload_n 0, 1) := by decide +kernel
theorem d_Mob_registerWith_70 : decode b_Mob_registerWith 70 = .ok (.iload_n 1, 1) := by decide +kernel
theorem d_Mob_registerWith_71 : decode b_Mob_registerWith 71 = .ok (.putfield 66, 3) := by decide +kernel
theorem d_Mob_registerWith_74 : decode b_Mob_registerWith 74 = .ok (.aload_n 0, 1) := by decide +kernel
theorem d_Mob_registerWith_75 : decode b_Mob_registerWith 75 = .ok (.aload_n 0, 1) := by decide +kernel
theorem d_Mob_registerWith_76 : decode b_Mob_registerWith 76 = .ok (.getfield 18, 3) := by decide +kernel
theorem d_Mob_registerWith_79 : decode b_Mob_registerWith 79 = .ok (.getfield 55, 3) := by decide +kernel
theorem d_Mob_registerWith_82 : decode b_Mob_registerWith 82 = .ok (.putfield 99, 3) := by decide +kernel
theorem d_Mob_registerWith_85 : decode b_Mob_registerWith 85 = .ok (.return_, 1) := by decide +kernel
theorem d_Mob_takeAdvert_0 : decode b_Mob_takeAdvert 0 = .ok (.aload_n 0, 1) := by decide +kernel
theorem d_Mob_takeAdvert_1 : decode b_Mob_takeAdvert 1 = .ok (.iload_n 1, 1) := by decide +kernel
theorem d_Mob_takeAdvert_2 : decode b_Mob_takeAdvert 2 = .ok (.putfield 29, 3) := by decide +kernel
theorem d_Mob_takeAdvert_5 : decode b_Mob_takeAdvert 5 = .ok (.aload_n 0, 1) := by decide +kernel
theorem d_Mob_takeAdvert_6 : decode b_Mob_takeAdvert 6 = .ok (.aload_n 0, 1) := by decide +kernel
theorem d_Mob_takeAdvert_7 : decode b_Mob_takeAdvert 7 = .ok (.getfield 18, 3) := by decide +kernel
theorem d_Mob_takeAdvert_10 : decode b_Mob_takeAdvert 10 = .ok (.getfield 55, 3) := by decide +kernel
theorem d_Mob_takeAdvert_13 : decode b_Mob_takeAdvert 13 = .ok (.bipush 12, 2) := by decide +kernel
theorem d_Mob_takeAdvert_15 : decode b_Mob_takeAdvert 15 = .ok (.iadd, 1) := by decide +kernel
theorem d_Mob_takeAdvert_16 : decode b_Mob_takeAdvert 16 = .ok (.putfield 60, 3) := by decide +kernel
theorem d_Mob_takeAdvert_19 : decode b_Mob_takeAdvert 19 = .ok (.aload_n 0, 1) := by decide +kernel
theorem d_Mob_takeAdvert_20 : decode b_Mob_takeAdvert 20 = .ok (.getfield 63, 3) := by decide +kernel
theorem d_Mob_takeAdvert_23 : decode b_Mob_takeAdvert 23 = .ok (.ifCond .eq 15, 3) := by decide +kernel
theorem d_Mob_takeAdvert_26 : decode b_Mob_takeAdvert 26 = .ok (.aload_n 0, 1) := by decide +kernel
theorem d_Mob_takeAdvert_27 : decode b_Mob_takeAdvert 27 = .ok (.getfield 66, 3) := by decide +kernel
theorem d_Mob_takeAdvert_30 : decode b_Mob_takeAdvert 30 = .ok (.iload_n 1, 1) := by decide +kernel
theorem d_Mob_takeAdvert_31 : decode b_Mob_takeAdvert 31 = .ok (.if_icmp .ne 7, 3) := by decide +kernel
theorem d_Mob_takeAdvert_34 : decode b_Mob_takeAdvert 34 = .ok (.iconst 1, 1) := by decide +kernel
theorem d_Mob_takeAdvert_35 : decode b_Mob_takeAdvert 35 = .ok (.goto 4, 3) := by decide +kernel
theorem d_Mob_takeAdvert_38 : decode b_Mob_takeAdvert 38 = .ok (.iconst 0, 1) := by decide +kernel
theorem d_Mob_takeAdvert_39 : decode b_Mob_takeAdvert 39 = .ok (.istore_n 2, 1) := by decide +kernel
theorem d_Mob_takeAdvert_40 : decode b_Mob_takeAdvert 40 = .ok (.aload_n 0, 1) := by decide +kernel
theorem d_Mob_takeAdvert_41 : decode b_Mob_takeAdvert 41 = .ok (.getfield 22, 3) := by decide +kernel
theorem d_Mob_takeAdvert_44 : decode b_Mob_takeAdvert 44 = .ok (.iload_n 1, 1) := by decide +kernel
theorem d_Mob_takeAdvert_45 : decode b_Mob_takeAdvert 45 = .ok (.if_icmp .ne 10, 3) := by decide +kernel
theorem d_Mob_takeAdvert_48 : decode b_Mob_takeAdvert 48 = .ok (.aload_n 0, 1) := by decide +kernel
theorem d_Mob_takeAdvert_49 : decode b_Mob_takeAdvert 49 = .ok (.invokevirtual 69, 3) := by decide +kernel
theorem d_Mob_takeAdvert_52 : decode b_Mob_takeAdvert 52 = .ok (.ifCond .eq 12, 3) := by decide +kernel
theorem d_Mob_takeAdvert_55 : decode b_Mob_takeAdvert 55 = .ok (.iload_n 2, 1) := by decide +kernel
theorem d_Mob_takeAdvert_56 : decode b_Mob_takeAdvert 56 = .ok (.ifCond .ne 8, 3) := by decide +kernel
theorem d_Mob_takeAdvert_59 : decode b_Mob_takeAdvert 59 = .ok (.aload_n 0, 1) := by decide +kernel
theorem d_Mob_takeAdvert_60 : decode b_Mob_takeAdvert 60 = .ok (.iload_n 1, 1) := by decide +kernel
theorem d_Mob_takeAdvert_61 : decode b_Mob_takeAdvert 61 = .ok (.invokevirtual 73, 3) := by decide +kernel
theorem d_Mob_takeAdvert_64 : decode b_Mob_takeAdvert 64 = .ok (.return_, 1) := by decide +kernel
theorem d_Mob_takeReply_0 : decode b_Mob_takeReply 0 = .ok (.aload_n 0, 1) := by decide +kernel
theorem d_Mob_takeReply_1 : decode b_Mob_takeReply 1 = .ok (.getfield 63, 3) := by decide +kernel
theorem d_Mob_takeReply_4 : decode b_Mob_takeReply 4 = .ok (.ifCond .eq 14, 3) := by decide +kernel
theorem d_Mob_takeReply_7 : decode b_Mob_takeReply 7 = .ok (.aload_n 0, 1) := by decide +kernel
theorem d_Mob_takeReply_8 : decode b_Mob_takeReply 8 = .ok (.getfield 63, 3) := by decide +kernel
theorem d_Mob_takeReply_11 : decode b_Mob_takeReply 11 = .ok (.aload_n 1, 1) := by decide +kernel
theorem d_Mob_takeReply_12 : decode b_Mob_takeReply 12 = .ok (.getfield 41, 3) := by decide +kernel
theorem d_Mob_takeReply_15 : decode b_Mob_takeReply 15 = .ok (.if_icmp .eq 4, 3) := by decide +kernel
theorem d_Mob_takeReply_18 : decode b_Mob_takeReply 18 = .ok (.return_, 1) := by decide +kernel
theorem d_Mob_takeReply_19 : decode b_Mob_takeReply 19 = .ok (.aload_n 1, 1) := by decide +kernel
theorem d_Mob_takeReply_20 : decode b_Mob_takeReply 20 = .ok (.getfield 102, 3) := by decide +kernel
theorem d_Mob_takeReply_23 : decode b_Mob_takeReply 23 = .ok (.bipush 66, 2) := by decide +kernel
theorem d_Mob_takeReply_25 : decode b_Mob_takeReply 25 = .ok (.if_icmp .ne 11, 3) := by decide +kernel
theorem d_Mob_takeReply_28 : decode b_Mob_takeReply 28 = .ok (.aload_n 0, 1) := by decide +kernel
theorem d_Mob_takeReply_29 : decode b_Mob_takeReply 29 = .ok (.iconst 0, 1) := by decide +kernel
theorem d_Mob_takeReply_30 : decode b_Mob_takeReply 30 = .ok (.putfield 63, 3) := by decide +kernel
theorem d_Mob_takeReply_33 : decode b_Mob_takeReply 33 = .ok (.goto 63, 3) := by decide +kernel
theorem d_Mob_takeReply_36 : decode b_Mob_takeReply 36 = .ok (.aload_n 1, 1) := by decide +kernel
theorem d_Mob_takeReply_37 : decode b_Mob_takeReply 37 = .ok (.getfield 96, 3) := by decide +kernel
theorem d_Mob_takeReply_40 : decode b_Mob_takeReply 40 = .ok (.aload_n 1, 1) := by decide +kernel
theorem d_Mob_takeReply_41 : decode b_Mob_takeReply 41 = .ok (.aload_n 0, 1) := by decide +kernel
theorem d_Mob_takeReply_42 : decode b_Mob_takeReply 42 = .ok (.getfield 89, 3) := by decide +kernel
theorem d_Mob_takeReply_45 : decode b_Mob_takeReply 45 = .ok (.invokevirtual 105, 3) := by decide +kernel
theorem d_Mob_takeReply_48 : decode b_Mob_takeReply 48 = .ok (.if_icmp .ne 48, 3) := by decide +kernel
theorem d_Mob_takeReply_51 : decode b_Mob_takeReply 51 = .ok (.aload_n 0, 1) := by decide +kernel
theorem d_Mob_takeReply_52 : decode b_Mob_takeReply 52 = .ok (.iconst 0, 1) := by decide +kernel
theorem d_Mob_takeReply_53 : decode b_Mob_takeReply 53 = .ok (.putfield 63, 3) := by decide +kernel
theorem d_Mob_takeReply_56 : decode b_Mob_takeReply 56 = .ok (.aload_n 1, 1) := by decide +kernel
theorem d_Mob_takeReply_57 : decode b_Mob_takeReply 57 = .ok (.getfield 102, 3) := by decide +kernel
theorem d_Mob_takeReply_60 : decode b_Mob_takeReply 60 = .ok (.ifCond .ne 36, 3) := by decide +kernel
theorem d_Mob_takeReply_63 : decode b_Mob_takeReply 63 = .ok (.aload_n 0, 1) := by decide +kernel
theorem d_Mob_takeReply_64 : decode b_Mob_takeReply 64 = .ok (.aload_n 1, 1) := by decide +kernel
theorem d_Mob_takeReply_65 : decode b_Mob_takeReply 65 = .ok (.getfield 83, 3) := by decide +kernel
theorem d_Mob_takeReply_68 : decode b_Mob_takeReply 68 = .ok (.putfield 22, 3) := by decide +kernel
theorem d_Mob_takeReply_71 : decode b_Mob_takeReply 71 = .ok (.aload_n 0, 1) := by decide +kernel
theorem d_Mob_takeReply_72 : decode b_Mob_takeReply 72 = .ok (.aload_n 0, 1) := by decide +kernel
theorem d_Mob_takeReply_73 : decode b_Mob_takeReply 73 = .ok (.getfield 22, 3) := by decide +kernel
theorem d_Mob_takeReply_76 : decode b_Mob_takeReply 76 = .ok (.ifCond .ne 8, 3) := by decide +kernel
theorem d_Mob_takeReply_79 : decode b_Mob_takeReply 79 = .ok (.ldc 25, 2) := by decide +kernel
theorem d_Mob_takeReply_81 : decode b_Mob_takeReply 81 = .ok (.goto 12, 3) := by decide +kernel
theorem d_Mob_takeReply_84 : decode b_Mob_takeReply 84 = .ok (.aload_n 0, 1) := by decide +kernel
theorem d_Mob_takeReply_85 : decode b_Mob_takeReply 85 = .ok (.getfield 99, 3) := by decide +kernel
theorem d_Mob_takeReply_88 : decode b_Mob_takeReply 88 = .ok (.aload_n 1, 1) := by decide +kernel
theorem d_Mob_takeReply_89 : decode b_Mob_takeReply 89 = .ok (.getfield 86, 3) := by decide +kernel
theorem d_Mob_takeReply_92 : decode b_Mob_takeReply 92 = .ok (.iadd, 1) := by decide +kernel
theorem d_Mob_takeReply_93 : decode b_Mob_takeReply 93 = .ok (.putfield 26, 3) := by decide +kernel
theorem d_Mob_takeReply_96 : decode b_Mob_takeReply 96 = .ok (.return_, 1) := by decide +kernel
theorem d_Mob_takeData_0 : decode b_Mob_takeData 0 = .ok (.iload_n 1, 1) := by decide +kernel
theorem d_Mob_takeData_1 : decode b_Mob_takeData 1 = .ok (.aload_n 0, 1) := by decide +kernel
theorem d_Mob_takeData_2 : decode b_Mob_takeData 2 = .ok (.getfield 108, 3) := by decide +kernel
theorem d_Mob_takeData_5 : decode b_Mob_takeData 5 = .ok (.iconst 1, 1) := by decide +kernel
theorem d_Mob_takeData_6 : decode b_Mob_takeData 6 = .ok (.iadd, 1) := by decide +kernel
theorem d_Mob_takeData_7 : decode b_Mob_takeData 7 = .ok (.if_icmp .ne 13, 3) := by decide +kernel
theorem d_Mob_takeData_10 : decode b_Mob_takeData 10 = .ok (.aload_n 0, 1) := by decide +kernel
theorem d_Mob_takeData_11 : decode b_Mob_takeData 11 = .ok (.dup, 1) := by decide +kernel
theorem d_Mob_takeData_12 : decode b_Mob_takeData 12 = .ok (.getfield 108, 3) := by decide +kernel
theorem d_Mob_takeData_15 : decode b_Mob_takeData 15 = .ok (.iconst 1, 1) := by decide +kernel
theorem d_Mob_takeData_16 : decode b_Mob_takeData 16 = .ok (.iadd, 1) := by decide +kernel
theorem d_Mob_takeData_17 : decode b_Mob_takeData 17 = .ok (.putfield 108, 3) := by decide +kernel
theorem d_Mob_takeData_20 : decode b_Mob_takeData 20 = .ok (.aload_n 0, 1) := by decide +kernel
theorem d_Mob_takeData_21 : decode b_Mob_takeData 21 = .ok (.getfield 18, 3) := by decide +kernel
theorem d_Mob_takeData_24 : decode b_Mob_takeData 24 = .ok (.iconst 4, 1) := by decide +kernel
theorem d_Mob_takeData_25 : decode b_Mob_takeData 25 = .ok (.bipush 6, 2) := by decide +kernel
theorem d_Mob_takeData_27 : decode b_Mob_takeData 27 = .ok (.aload_n 0, 1) := by decide +kernel
theorem d_Mob_takeData_28 : decode b_Mob_takeData 28 = .ok (.getfield 9, 3) := by decide +kernel
theorem d_Mob_takeData_31 : decode b_Mob_takeData 31 = .ok (.aload_n 0, 1) := by decide +kernel
theorem d_Mob_takeData_32 : decode b_Mob_takeData 32 = .ok (.getfield 108, 3) := by decide +kernel
theorem d_Mob_takeData_35 : decode b_Mob_takeData 35 = .ok (.invokevirtual 79, 3) := by decide +kernel
theorem d_Mob_takeData_38 : decode b_Mob_takeData 38 = .ok (.pop, 1) := by decide +kernel
theorem d_Mob_takeData_39 : decode b_Mob_takeData 39 = .ok (.return_, 1) := by decide +kernel
theorem d_Mob_receive_0 : decode b_Mob_receive 0 = .ok (.aload_n 1, 1) := by decide +kernel
theorem d_Mob_receive_1 : decode b_Mob_receive 1 = .ok (.getfield 32, 3) := by decide +kernel
theorem d_Mob_receive_4 : decode b_Mob_receive 4 = .ok (.aload_n 0, 1) := by decide +kernel
theorem d_Mob_receive_5 : decode b_Mob_receive 5 = .ok (.getfield 37, 3) := by decide +kernel
theorem d_Mob_receive_8 : decode b_Mob_receive 8 = .ok (.if_icmp .eq 4, 3) := by decide +kernel
theorem d_Mob_receive_11 : decode b_Mob_receive 11 = .ok (.return_, 1) := by decide +kernel
theorem d_Mob_receive_12 : decode b_Mob_receive 12 = .ok (.aload_n 1, 1) := by decide +kernel
theorem d_Mob_receive_13 : decode b_Mob_receive 13 = .ok (.getfield 38, 3) := by decide +kernel
theorem d_Mob_receive_16 : decode b_Mob_receive 16 = .ok (.iconst 1, 1) := by decide +kernel
theorem d_Mob_receive_17 : decode b_Mob_receive 17 = .ok (.if_icmp .ne 14, 3) := by decide +kernel
theorem d_Mob_receive_20 : decode b_Mob_receive 20 = .ok (.aload_n 0, 1) := by decide +kernel
theorem d_Mob_receive_21 : decode b_Mob_receive 21 = .ok (.aload_n 1, 1) := by decide +kernel
theorem d_Mob_receive_22 : decode b_Mob_receive 22 = .ok (.getfield 41, 3) := by decide +kernel
theorem d_Mob_receive_25 : decode b_Mob_receive 25 = .ok (.invokevirtual 44, 3) := by decide +kernel
theorem d_Mob_receive_28 : decode b_Mob_receive 28 = .ok (.goto 35, 3) := by decide +kernel
theorem d_Mob_receive_31 : decode b_Mob_receive 31 = .ok (.aload_n 1, 1) := by decide +kernel
theorem d_Mob_receive_32 : decode b_Mob_receive 32 = .ok (.getfield 38, 3) := by decide +kernel
theorem d_Mob_receive_35 : decode b_Mob_receive 35 = .ok (.iconst 3, 1) := by decide +kernel
theorem d_Mob_receive_36 : decode b_Mob_receive 36 = .ok (.if_icmp .ne 11, 3) := by decide +kernel
theorem d_Mob_receive_39 : decode b_Mob_receive 39 = .ok (.aload_n 0, 1) := by decide +kernel
theorem d_Mob_receive_40 : decode b_Mob_receive 40 = .ok (.aload_n 1, 1) := by decide +kernel
theorem d_Mob_receive_41 : decode b_Mob_receive 41 = .ok (.invokevirtual 48, 3) := by decide +kernel
theorem d_Mob_receive_44 : decode b_Mob_receive 44 = .ok (.goto 19, 3) := by decide +kernel
theorem d_Mob_receive_47 : decode b_Mob_receive 47 = .ok (.aload_n 1, 1) := by decide +kernel
theorem d_Mob_receive_48 : decode b_Mob_receive 48 = .ok (.getfield 38, 3) := by decide +kernel
theorem d_Mob_receive_51 : decode b_Mob_receive 51 = .ok (.iconst 4, 1) := by decide +kernel
theorem d_Mob_receive_52 : decode b_Mob_receive 52 = .ok (.if_icmp .ne 11, 3) := by decide +kernel
theorem d_Mob_receive_55 : decode b_Mob_receive 55 = .ok (.aload_n 0, 1) := by decide +kernel
theorem d_Mob_receive_56 : decode b_Mob_receive 56 = .ok (.aload_n 1, 1) := by decide +kernel
theorem d_Mob_receive_57 : decode b_Mob_receive 57 = .ok (.getfield 41, 3) := by decide +kernel
theorem d_Mob_receive_60 : decode b_Mob_receive 60 = .ok (.invokevirtual 52, 3) := by decide +kernel
theorem d_Mob_receive_63 : decode b_Mob_receive 63 = .ok (.return_, 1) := by decide +kernel
theorem d_Mob_notice_0 : decode b_Mob_notice 0 = .ok (.aload_n 0, 1) := by decide +kernel
theorem d_Mob_notice_1 : decode b_Mob_notice 1 = .ok (.getfield 60, 3) := by decide +kernel
theorem d_Mob_notice_4 : decode b_Mob_notice 4 = .ok (.aload_n 0, 1) := by decide +kernel
theorem d_Mob_notice_5 : decode b_Mob_notice 5 = .ok (.getfield 18, 3) := by decide +kernel
theorem d_Mob_notice_8 : decode b_Mob_notice 8 = .ok (.getfield 55, 3) := by decide +kernel
theorem d_Mob_notice_11 : decode b_Mob_notice 11 = .ok (.if_icmp .gt 8, 3) := by decide +kernel
theorem d_Mob_notice_14 : decode b_Mob_notice 14 = .ok (.aload_n 0, 1) := by decide +kernel
theorem d_Mob_notice_15 : decode b_Mob_notice 15 = .ok (.iconst (-1), 1) := by decide +kernel
theorem d_Mob_notice_16 : decode b_Mob_notice 16 = .ok (.putfield 29, 3) := by decide +kernel
theorem d_Mob_notice_19 : decode b_Mob_notice 19 = .ok (.aload_n 0, 1) := by decide +kernel
theorem d_Mob_notice_20 : decode b_Mob_notice 20 = .ok (.getfield 26, 3) := by decide +kernel
theorem d_Mob_notice_23 : decode b_Mob_notice 23 = .ok (.aload_n 0, 1) := by decide +kernel
theorem d_Mob_notice_24 : decode b_Mob_notice 24 = .ok (.getfield 18, 3) := by decide +kernel
theorem d_Mob_notice_27 : decode b_Mob_notice 27 = .ok (.getfield 55, 3) := by decide +kernel
theorem d_Mob_notice_30 : decode b_Mob_notice 30 = .ok (.if_icmp .gt 8, 3) := by decide +kernel
theorem d_Mob_notice_33 : decode b_Mob_notice 33 = .ok (.aload_n 0, 1) := by decide +kernel
theorem d_Mob_notice_34 : decode b_Mob_notice 34 = .ok (.iconst (-1), 1) := by decide +kernel
theorem d_Mob_notice_35 : decode b_Mob_notice 35 = .ok (.putfield 22, 3) := by decide +kernel
theorem d_Mob_notice_38 : decode b_Mob_notice 38 = .ok (.aload_n 0, 1) := by decide +kernel
theorem d_Mob_notice_39 : decode b_Mob_notice 39 = .ok (.getfield 63, 3) := by decide +kernel
theorem d_Mob_notice_42 : decode b_Mob_notice 42 = .ok (.ifCond .eq 46, 3) := by decide +kernel
theorem d_Mob_notice_45 : decode b_Mob_notice 45 = .ok (.aload_n 0, 1) := by decide +kernel
theorem d_Mob_notice_46 : decode b_Mob_notice 46 = .ok (.getfield 18, 3) := by decide +kernel
theorem d_Mob_notice_49 : decode b_Mob_notice 49 = .ok (.getfield 55, 3) := by decide +kernel
theorem d_Mob_notice_52 : decode b_Mob_notice 52 = .ok (.aload_n 0, 1) := by decide +kernel
theorem d_Mob_notice_53 : decode b_Mob_notice 53 = .ok (.getfield 99, 3) := by decide +kernel
theorem d_Mob_notice_56 : decode b_Mob_notice 56 = .ok (.isub, 1) := by decide +kernel
theorem d_Mob_notice_57 : decode b_Mob_notice 57 = .ok (.iconst 3, 1) := by decide +kernel
theorem d_Mob_notice_58 : decode b_Mob_notice 58 = .ok (.if_icmp .lt 30, 3) := by decide +kernel
theorem d_Mob_notice_61 : decode b_Mob_notice 61 = .ok (.aload_n 0, 1) := by decide +kernel
theorem d_Mob_notice_62 : decode b_Mob_notice 62 = .ok (.getfield 66, 3) := by decide +kernel
theorem d_Mob_notice_65 : decode b_Mob_notice 65 = .ok (.aload_n 0, 1) := by decide +kernel
theorem d_Mob_notice_66 : decode b_Mob_notice 66 = .ok (.getfield 29, 3) := by decide +kernel
theorem d_Mob_notice_69 : decode b_Mob_notice 69 = .ok (.if_icmp .ne 14, 3) := by decide +kernel
theorem d_Mob_notice_72 : decode b_Mob_notice 72 = .ok (.aload_n 0, 1) := by decide +kernel
theorem d_Mob_notice_73 : decode b_Mob_notice 73 = .ok (.aload_n 0, 1) := by decide +kernel
theorem d_Mob_notice_74 : decode b_Mob_notice 74 = .ok (.getfield 66, 3) := by decide +kernel
theorem d_Mob_notice_77 : decode b_Mob_notice 77 = .ok (.invokevirtual 73, 3) := by decide +kernel
theorem d_Mob_notice_80 : decode b_Mob_notice 80 = .ok (.goto 8, 3) := by decide +kernel
theorem d_Mob_notice_83 : decode b_Mob_notice 83 = .ok (.aload_n 0, 1) := by decide +kernel
theorem d_Mob_notice_84 : decode b_Mob_notice 84 = .ok (.iconst 0, 1) := by decide +kernel
theorem d_Mob_notice_85 : decode b_Mob_notice 85 = .ok (.putfield 63, 3) := by decide +kernel
theorem d_Mob_notice_88 : decode b_Mob_notice 88 = .ok (.return_, 1) := by decide +kernel
theorem d_Home_isBound_0 : decode b_Home_isBound 0 = .ok (.aload_n 0, 1) := by decide +kernel
theorem d_Home_isBound_1 : decode b_Home_isBound 1 = .ok (.getfield 15, 3) := by decide +kernel
theorem d_Home_isBound_4 : decode b_Home_isBound 4 = .ok (.getfield 32, 3) := by decide +kernel
theorem d_Home_isBound_7 : decode b_Home_isBound 7 = .ok (.aload_n 0, 1) := by decide +kernel
theorem d_Home_isBound_8 : decode b_Home_isBound 8 = .ok (.getfield 29, 3) := by decide +kernel
theorem d_Home_isBound_11 : decode b_Home_isBound 11 = .ok (.iload_n 1, 1) := by decide +kernel
theorem d_Home_isBound_12 : decode b_Home_isBound 12 = .ok (.iaload, 1) := by decide +kernel
theorem d_Home_isBound_13 : decode b_Home_isBound 13 = .ok (.if_icmp .ge 7, 3) := by decide +kernel
theorem d_Home_isBound_16 : decode b_Home_isBound 16 = .ok (.iconst 1, 1) := by decide +kernel
theorem d_Home_isBound_17 : decode b_Home_isBound 17 = .ok (.goto 4, 3) := by decide +kernel
theorem d_Home_isBound_20 : decode b_Home_isBound 20 = .ok (.iconst 0, 1) := by decide +kernel
theorem d_Home_isBound_21 : decode b_Home_isBound 21 = .ok (.ireturn, 1) := by decide +kernel
theorem d_Home_judge_0 : decode b_Home_judge 0 = .ok (.aload_n 1, 1) := by decide +kernel
theorem d_Home_judge_1 : decode b_Home_judge 1 = .ok (.getfield 46, 3) := by decide +kernel
theorem d_Home_judge_4 : decode b_Home_judge 4 = .ok (.istore_n 2, 1) := by decide +kernel
theorem d_Home_judge_5 : decode b_Home_judge 5 = .ok (.aload_n 1, 1) := by decide +kernel
theorem d_Home_judge_6 : decode b_Home_judge 6 = .ok (.getfield 85, 3) := by decide +kernel
theorem d_Home_judge_9 : decode b_Home_judge 9 = .ok (.aload_n 1, 1) := by decide +kernel
theorem d_Home_judge_10 : decode b_Home_judge 10 = .ok (.aload_n 0, 1) := by decide +kernel
theorem d_Home_judge_11 : decode b_Home_judge 11 = .ok (.getfield 19, 3) := by decide +kernel
theorem d_Home_judge_14 : decode b_Home_judge 14 = .ok (.iload_n 2, 1) := by decide +kernel
theorem d_Home_judge_15 : decode b_Home_judge 15 = .ok (.iaload, 1) := by decide +kernel
theorem d_Home_judge_16 : decode b_Home_judge 16 = .ok (.invokevirtual 88, 3) := by decide +kernel
theorem d_Home_judge_19 : decode b_Home_judge 19 = .ok (.if_icmp .eq 7, 3) := by decide +kernel
theorem d_Home_judge_22 : decode b_Home_judge 22 = .ok (.sipush 131, 3) := by decide +kernel
theorem d_Home_judge_25 : decode b_Home_judge 25 = .ok (.ireturn, 1) := by decide +kernel
theorem d_Home_judge_26 : decode b_Home_judge 26 = .ok (.aload_n 1, 1) := by decide +kernel
theorem d_Home_judge_27 : decode b_Home_judge 27 = .ok (.getfield 49, 3) := by decide +kernel
theorem d_Home_judge_30 : decode b_Home_judge 30 = .ok (.aload_n 0, 1) := by decide +kernel
theorem d_Home_judge_31 : decode b_Home_judge 31 = .ok (.getfield 23, 3) := by decide +kernel
theorem d_Home_judge_34 : decode b_Home_judge 34 = .ok (.iload_n 2, 1) := by decide +kernel
theorem d_Home_judge_35 : decode b_Home_judge 35 = .ok (.iaload, 1) := by decide +kernel
theorem d_Home_judge_36 : decode b_Home_judge 36 = .ok (.if_icmp .gt 9, 3) := by decide +kernel
theorem d_Home_judge_39 : decode b_Home_judge 39 = .ok (.sipush 133, 3) := by decide +kernel
theorem d_Home_judge_42 : decode b_Home_judge 42 = .ok (.goto 4, 3) := by decide +kernel
theorem d_Home_judge_45 : decode b_Home_judge 45 = .ok (.iconst 0, 1) := by decide +kernel
theorem d_Home_judge_46 : decode b_Home_judge 46 = .ok (.ireturn, 1) := by decide +kernel
theorem d_Home_takeRequest_0 : decode b_Home_takeRequest 0 = .ok (.aload_n 1, 1) := by decide +kernel
theorem d_Home_takeRequest_1 : decode b_Home_takeRequest 1 = .ok (.getfield 46, 3) := by decide +kernel
theorem d_Home_takeRequest_4 : decode b_Home_takeRequest 4 = .ok (.istore_n 2, 1) := by decide +kernel
theorem d_Home_takeRequest_5 : decode b_Home_takeRequest 5 = .ok (.aload_n 0, 1) := by decide +kernel
theorem d_Home_takeRequest_6 : decode b_Home_takeRequest 6 = .ok (.aload_n 1, 1) := by decide +kernel
theorem d_Home_takeRequest_7 : decode b_Home_takeRequest 7 = .ok (.invokevirtual 56, 3) := by decide +kernel
theorem d_Home_takeRequest_10 : decode b_Home_takeRequest 10 = .ok (.istore_n 3, 1) := by decide +kernel
theorem d_Home_takeRequest_11 : decode b_Home_takeRequest 11 = .ok (.iload_n 3, 1) := by decide +kernel
theorem d_Home_takeRequest_12 : decode b_Home_takeRequest 12 = .ok (.ifCond .ne 17, 3) := by decide +kernel
theorem d_Home_takeRequest_15 : decode b_Home_takeRequest 15 = .ok (.aload_n 1, 1) := by decide +kernel
theorem d_Home_takeRequest_16 : decode b_Home_takeRequest 16 = .ok (.getfield 60, 3) := by decide +kernel
theorem d_Home_takeRequest_19 : decode b_Home_takeRequest 19 = .ok (.aload_n 0, 1) := by decide +kernel
theorem d_Home_takeRequest_20 : decode b_Home_takeRequest 20 = .ok (.getfield 9, 3) := by decide +kernel
theorem d_Home_takeRequest_23 : decode b_Home_takeRequest 23 = .ok (.invokestatic 63, 3) := by decide +kernel
theorem d_Home_takeRequest_26 : decode b_Home_takeRequest 26 = .ok (.goto 4, 3) := by decide +kernel
theorem d_Home_takeRequest_29 : decode b_Home_takeRequest 29 = .ok (.iconst 0, 1) := by decide +kernel
theorem d_Home_takeRequest_30 : decode b_Home_takeRequest 30 = .ok (.istore 4, 2) := by decide +kernel
theorem d_Home_takeRequest_32 : decode b_Home_takeRequest 32 = .ok (.iload_n 3, 1) := by decide +kernel
theorem d_Home_takeRequest_33 : decode b_Home_takeRequest 33 = .ok (.ifCond .ne 39, 3) := by decide +kernel
theorem d_Home_takeRequest_36 : decode b_Home_takeRequest 36 = .ok (.aload_n 0, 1) := by decide +kernel
theorem d_Home_takeRequest_37 : decode b_Home_takeRequest 37 = .ok (.getfield 23, 3) := by decide +kernel
theorem d_Home_takeRequest_40 : decode b_Home_takeRequest 40 = .ok (.iload_n 2, 1) := by decide +kernel
theorem d_Home_takeRequest_41 : decode b_Home_takeRequest 41 = .ok (.aload_n 1, 1) := by decide +kernel
theorem d_Home_takeRequest_42 : decode b_Home_takeRequest 42 = .ok (.getfield 49, 3) := by decide +kernel
theorem d_Home_takeRequest_45 : decode b_Home_takeRequest 45 = .ok (.iastore, 1) := by decide +kernel
theorem d_Home_takeRequest_46 : decode b_Home_takeRequest 46 = .ok (.aload_n 0, 1) := by decide +kernel
theorem d_Home_takeRequest_47 : decode b_Home_takeRequest 47 = .ok (.getfield 26, 3) := by decide +kernel
theorem d_Home_takeRequest_50 : decode b_Home_takeRequest 50 = .ok (.iload_n 2, 1) := by decide +kernel
theorem d_Home_takeRequest_51 : decode b_Home_takeRequest 51 = .ok (.aload_n 1, 1) := by decide +kernel
theorem d_Home_takeRequest_52 : decode b_Home_takeRequest 52 = .ok (.getfield 69, 3) := by decide +kernel
theorem d_Home_takeRequest_55 : decode b_Home_takeRequest 55 = .ok (.iastore, 1) := by decide +kernel
theorem d_Home_takeRequest_56 : decode b_Home_takeRequest 56 = .ok (.aload_n 0, 1) := by decide +kernel
theorem d_Home_takeRequest_57 : decode b_Home_takeRequest 57 = .ok (.getfield 29, 3) := by decide +kernel
theorem d_Home_takeRequest_60 : decode b_Home_takeRequest 60 = .ok (.iload_n 2, 1) := by decide +kernel
theorem d_Home_takeRequest_61 : decode b_Home_takeRequest 61 = .ok (.aload_n 0, 1) := by decide +kernel
theorem d_Home_takeRequest_62 : decode b_Home_takeRequest 62 = .ok (.getfield 15, 3) := by decide +kernel
theorem d_Home_takeRequest_65 : decode b_Home_takeRequest 65 = .ok (.getfield 32, 3) := by decide +kernel
theorem d_Home_takeRequest_68 : decode b_Home_takeRequest 68 = .ok (.iload 4, 2) := by decide +kernel
theorem d_Home_takeRequest_70 : decode b_Home_takeRequest 70 = .ok (.iadd, 1) := by decide +kernel
theorem d_Home_takeRequest_71 : decode b_Home_takeRequest 71 = .ok (.iastore, 1) := by decide +kernel
theorem d_Home_takeRequest_72 : decode b_Home_takeRequest 72 = .ok (.aload_n 1, 1) := by decide +kernel
theorem d_Home_takeRequest_73 : decode b_Home_takeRequest 73 = .ok (.getfield 69, 3) := by decide +kernel
theorem d_Home_takeRequest_76 : decode b_Home_takeRequest 76 = .ok (.ifCond .ne 20, 3) := by decide +kernel
theorem d_Home_takeRequest_79 : decode b_Home_takeRequest 79 = .ok (.aload_n 0, 1) := by decide +kernel
theorem d_Home_takeRequest_80 : decode b_Home_takeRequest 80 = .ok (.getfield 15, 3) := by decide +kernel
theorem d_Home_takeRequest_83 : decode b_Home_takeRequest 83 = .ok (.iconst 0, 1) := by decide +kernel
theorem d_Home_takeRequest_84 : decode b_Home_takeRequest 84 = .ok (.iconst 3, 1) := by decide +kernel
theorem d_Home_takeRequest_85 : decode b_Home_takeRequest 85 = .ok (.iload_n 2, 1) := by decide +kernel
theorem d_Home_takeRequest_86 : decode b_Home_takeRequest 86 = .ok (.aload_n 1, 1) := by decide +kernel
theorem d_Home_takeRequest_87 : decode b_Home_takeRequest 87 = .ok (.getfield 49, 3) := by decide +kernel
theorem d_Home_takeRequest_90 : decode b_Home_takeRequest 90 = .ok (.invokevirtual 71, 3) := by decide +kernel
theorem d_Home_takeRequest_93 : decode b_Home_takeRequest 93 = .ok (.goto 20, 3) := by decide +kernel
theorem d_Home_takeRequest_96 : decode b_Home_takeRequest 96 = .ok (.aload_n 0, 1) := by decide +kernel
theorem d_Home_takeRequest_97 : decode b_Home_takeRequest 97 = .ok (.getfield 15, 3) := by decide +kernel
theorem d_Home_takeRequest_100 : decode b_Home_takeRequest 100 = .ok (.aload_n 1, 1) := by decide +kernel
theorem d_Home_takeRequest_101 : decode b_Home_takeRequest 101 = .ok (.getfield 69, 3) := by decide +kernel
theorem d_Home_takeRequest_104 : decode b_Home_takeRequest 104 = .ok (.iconst 3, 1) := by decide +kernel
theorem d_Home_takeRequest_105 : decode b_Home_takeRequest 105 = .ok (.iload_n 2, 1) := by decide +kernel
theorem d_Home_takeRequest_106 : decode b_Home_takeRequest 106 = .ok (.aload_n 1, 1) := by decide +kernel
theorem d_Home_takeRequest_107 : decode b_Home_takeRequest 107 = .ok (.getfield 49, 3) := by decide +kernel
theorem d_Home_takeRequest_110 : decode b_Home_takeRequest 110 = .ok (.invokevirtual 75, 3) := by decide +kernel
theorem d_Home_takeRequest_113 : decode b_Home_takeRequest 113 = .ok (.astore 5, 2) := by decide +kernel
theorem d_Home_takeRequest_115 : decode b_Home_takeRequest 115 = .ok (.aload 5, 2) := by decide +kernel
theorem d_Home_takeRequest_117 : decode b_Home_takeRequest 117 = .ok (.aload_n 1, 1) := by decide +kernel
theorem d_Home_takeRequest_118 : decode b_Home_takeRequest 118 = .ok (.getfield 69, 3) := by decide +kernel
theorem d_Home_takeRequest_121 : decode b_Home_takeRequest 121 = .ok (.putfield 69, 3) := by decide +kernel
theorem d_Home_takeRequest_124 : decode b_Home_takeRequest 124 = .ok (.aload 5, 2) := by decide +kernel
theorem d_Home_takeRequest_126 : decode b_Home_takeRequest 126 = .ok (.iload_n 3, 1) := by decide +kernel
theorem d_Home_takeRequest_127 : decode b_Home_takeRequest 127 = .ok (.putfield 78, 3) := by decide +kernel
theorem d_Home_takeRequest_130 : decode b_Home_takeRequest 130 = .ok (.aload 5, 2) := by decide +kernel
theorem d_Home_takeRequest_132 : decode b_Home_takeRequest 132 = .ok (.iload 4, 2) := by decide +kernel
theorem d_Home_takeRequest_134 : decode b_Home_takeRequest 134 = .ok (.putfield 60, 3) := by decide +kernel
theorem d_Home_takeRequest_137 : decode b_Home_takeRequest 137 = .ok (.aload 5, 2) := by decide +kernel
theorem d_Home_takeRequest_139 : decode b_Home_takeRequest 139 = .ok (.aload 5, 2) := by decide +kernel
theorem d_Home_takeRequest_141 : decode b_Home_takeRequest 141 = .ok (.aload_n 0, 1) := by decide +kernel
theorem d_Home_takeRequest_142 : decode b_Home_takeRequest 142 = .ok (.getfield 19, 3) := by decide +kernel
theorem d_Home_takeRequest_145 : decode b_Home_takeRequest 145 = .ok (.iload_n 2, 1) := by decide +kernel
theorem d_Home_takeRequest_146 : decode b_Home_takeRequest 146 = .ok (.iaload, 1) := by decide +kernel
theorem d_Home_takeRequest_147 : decode b_Home_takeRequest 147 = .ok (.invokevirtual 81, 3) := by decide +kernel
theorem d_Home_takeRequest_150 : decode b_Home_takeRequest 150 = .ok (.putfield 85, 3) := by decide +kernel
theorem d_Home_takeRequest_153 : decode b_Home_takeRequest 153 = .ok (.return_, 1) := by decide +kernel
theorem d_Home_takeData_0 : decode b_Home_takeData 0 = .ok (.aload_n 0, 1) := by decide +kernel
theorem d_Home_takeData_1 : decode b_Home_takeData 1 = .ok (.iload_n 1, 1) := by decide +kernel
theorem d_Home_takeData_2 : decode b_Home_takeData 2 = .ok (.invokevirtual 91, 3) := by decide +kernel
theorem d_Home_takeData_5 : decode b_Home_takeData 5 = .ok (.ifCond .eq 23, 3) := by decide +kernel
theorem d_Home_takeData_8 : decode b_Home_takeData 8 = .ok (.aload_n 0, 1) := by decide +kernel
theorem d_Home_takeData_9 : decode b_Home_takeData 9 = .ok (.getfield 15, 3) := by decide +kernel
theorem d_Home_takeData_12 : decode b_Home_takeData 12 = .ok (.aload_n 0, 1) := by decide +kernel
theorem d_Home_takeData_13 : decode b_Home_takeData 13 = .ok (.getfield 26, 3) := by decide +kernel
theorem d_Home_takeData_16 : decode b_Home_takeData 16 = .ok (.iload_n 1, 1) := by decide +kernel
theorem d_Home_takeData_17 : decode b_Home_takeData 17 = .ok (.iaload, 1) := by decide +kernel
theorem d_Home_takeData_18 : decode b_Home_takeData 18 = .ok (.iconst 5, 1) := by decide +kernel
theorem d_Home_takeData_19 : decode b_Home_takeData 19 = .ok (.iload_n 1, 1) := by decide +kernel
theorem d_Home_takeData_20 : decode b_Home_takeData 20 = .ok (.iload_n 2, 1) := by decide +kernel
theorem d_Home_takeData_21 : decode b_Home_takeData 21 = .ok (.invokevirtual 75, 3) := by decide +kernel
theorem d_Home_takeData_24 : decode b_Home_takeData 24 = .ok (.pop, 1) := by decide +kernel
theorem d_Home_takeData_25 : decode b_Home_takeData 25 = .ok (.goto 15, 3) := by decide +kernel
theorem d_Home_takeData_28 : decode b_Home_takeData 28 = .ok (.aload_n 0, 1) := by decide +kernel
theorem d_Home_takeData_29 : decode b_Home_takeData 29 = .ok (.getfield 15, 3) := by decide +kernel
theorem d_Home_takeData_32 : decode b_Home_takeData 32 = .ok (.iconst 0, 1) := by decide +kernel
theorem d_Home_takeData_33 : decode b_Home_takeData 33 = .ok (.iconst 4, 1) := by decide +kernel
theorem d_Home_takeData_34 : decode b_Home_takeData 34 = .ok (.iload_n 1, 1) := by decide +kernel
theorem d_Home_takeData_35 : decode b_Home_takeData 35 = .ok (.iload_n 2, 1) := by decide +kernel
theorem d_Home_takeData_36 : decode b_Home_takeData 36 = .ok (.invokevirtual 71, 3) := by decide +kernel
theorem d_Home_takeData_39 : decode b_Home_takeData 39 = .ok (.pop, 1) := by decide +kernel
theorem d_Home_takeData_40 : decode b_Home_takeData 40 = .ok (.return_, 1) := by decide +kernel
theorem d_Home_receive_0 : decode b_Home_receive 0 = .ok (.aload_n 1, 1) := by decide +kernel
theorem d_Home_receive_1 : decode b_Home_receive 1 = .ok (.getfield 37, 3) := by decide +kernel
theorem d_Home_receive_4 : decode b_Home_receive 4 = .ok (.iconst 2, 1) := by decide +kernel
theorem d_Home_receive_5 : decode b_Home_receive 5 = .ok (.if_icmp .ne 11, 3) := by decide +kernel
theorem d_Home_receive_8 : decode b_Home_receive 8 = .ok (.aload_n 0, 1) := by decide +kernel
theorem d_Home_receive_9 : decode b_Home_receive 9 = .ok (.aload_n 1, 1) := by decide +kernel
theorem d_Home_receive_10 : decode b_Home_receive 10 = .ok (.invokevirtual 42, 3) := by decide +kernel
theorem d_Home_receive_13 : decode b_Home_receive 13 = .ok (.goto 23, 3) := by decide +kernel
theorem d_Home_receive_16 : decode b_Home_receive 16 = .ok (.aload_n 1, 1) := by decide +kernel
theorem d_Home_receive_17 : decode b_Home_receive 17 = .ok (.getfield 37, 3) := by decide +kernel
theorem d_Home_receive_20 : decode b_Home_receive 20 = .ok (.iconst 4, 1) := by decide +kernel
theorem d_Home_receive_21 : decode b_Home_receive 21 = .ok (.if_icmp .ne 15, 3) := by decide +kernel
theorem d_Home_receive_24 : decode b_Home_receive 24 = .ok (.aload_n 0, 1) := by decide +kernel
theorem d_Home_receive_25 : decode b_Home_receive 25 = .ok (.aload_n 1, 1) := by decide +kernel
theorem d_Home_receive_26 : decode b_Home_receive 26 = .ok (.getfield 46, 3) := by decide +kernel
theorem d_Home_receive_29 : decode b_Home_receive 29 = .ok (.aload_n 1, 1) := by decide +kernel
theorem d_Home_receive_30 : decode b_Home_receive 30 = .ok (.getfield 49, 3) := by decide +kernel
theorem d_Home_receive_33 : decode b_Home_receive 33 = .ok (.invokevirtual 52, 3) := by decide +kernel
theorem d_Home_receive_36 : decode b_Home_receive 36 = .ok (.return_, 1) := by decide +kernel
theorem d_Fa_isVisited_0 : decode b_Fa_isVisited 0 = .ok (.aload_n 0, 1) := by decide +kernel
theorem d_Fa_isVisited_1 : decode b_Fa_isVisited 1 = .ok (.getfield 18, 3) := by decide +kernel
theorem d_Fa_isVisited_4 : decode b_Fa_isVisited 4 = .ok (.getfield 32, 3) := by decide +kernel
theorem d_Fa_isVisited_7 : decode b_Fa_isVisited 7 = .ok (.aload_n 0, 1) := by decide +kernel
theorem d_Fa_isVisited_8 : decode b_Fa_isVisited 8 = .ok (.getfield 22, 3) := by decide +kernel
theorem d_Fa_isVisited_11 : decode b_Fa_isVisited 11 = .ok (.iload_n 1, 1) := by decide +kernel
theorem d_Fa_isVisited_12 : decode b_Fa_isVisited 12 = .ok (.iaload, 1) := by decide +kernel
theorem d_Fa_isVisited_13 : decode b_Fa_isVisited 13 = .ok (.if_icmp .ge 7, 3) := by decide +kernel
theorem d_Fa_isVisited_16 : decode b_Fa_isVisited 16 = .ok (.iconst 1, 1) := by decide +kernel
theorem d_Fa_isVisited_17 : decode b_Fa_isVisited 17 = .ok (.goto 4, 3) := by decide +kernel
theorem d_Fa_isVisited_20 : decode b_Fa_isVisited 20 = .ok (.iconst 0, 1) := by decide +kernel
theorem d_Fa_isVisited_21 : decode b_Fa_isVisited 21 = .ok (.ireturn, 1) := by decide +kernel
theorem d_Fa_hasEntry_0 : decode b_Fa_hasEntry 0 = .ok (.aload_n 0, 1) := by decide +kernel
theorem d_Fa_hasEntry_1 : decode b_Fa_hasEntry 1 = .ok (.getfield 18, 3) := by decide +kernel
theorem d_Fa_hasEntry_4 : decode b_Fa_hasEntry 4 = .ok (.getfield 32, 3) := by decide +kernel
theorem d_Fa_hasEntry_7 : decode b_Fa_hasEntry 7 = .ok (.aload_n 0, 1) := by decide +kernel
theorem d_Fa_hasEntry_8 : decode b_Fa_hasEntry 8 = .ok (.getfield 29, 3) := by decide +kernel
theorem d_Fa_hasEntry_11 : decode b_Fa_hasEntry 11 = .ok (.iload_n 1, 1) := by decide +kernel
theorem d_Fa_hasEntry_12 : decode b_Fa_hasEntry 12 = .ok (.iaload, 1) := by decide +kernel
theorem d_Fa_hasEntry_13 : decode b_Fa_hasEntry 13 = .ok (.if_icmp .ge 7, 3) := by decide +kernel
theorem d_Fa_hasEntry_16 : decode b_Fa_hasEntry 16 = .ok (.iconst 1, 1) := by decide +kernel
theorem d_Fa_hasEntry_17 : decode b_Fa_hasEntry 17 = .ok (.goto 4, 3) := by decide +kernel
theorem d_Fa_hasEntry_20 : decode b_Fa_hasEntry 20 = .ok (.iconst 0, 1) := by decide +kernel
theorem d_Fa_hasEntry_21 : decode b_Fa_hasEntry 21 = .ok (.ireturn, 1) := by decide +kernel
theorem d_Fa_takesPlace_0 : decode b_Fa_takesPlace 0 = .ok (.aload_n 0, 1) := by decide +kernel
theorem d_Fa_takesPlace_1 : decode b_Fa_takesPlace 1 = .ok (.iload_n 1, 1) := by decide +kernel
theorem d_Fa_takesPlace_2 : decode b_Fa_takesPlace 2 = .ok (.invokevirtual 37, 3) := by decide +kernel
theorem d_Fa_takesPlace_5 : decode b_Fa_takesPlace 5 = .ok (.ifCond .ne 11, 3) := by decide +kernel
theorem d_Fa_takesPlace_8 : decode b_Fa_takesPlace 8 = .ok (.aload_n 0, 1) := by decide +kernel
theorem d_Fa_takesPlace_9 : decode b_Fa_takesPlace 9 = .ok (.iload_n 1, 1) := by decide +kernel
theorem d_Fa_takesPlace_10 : decode b_Fa_takesPlace 10 = .ok (.invokevirtual 41, 3) := by decide +kernel
theorem d_Fa_takesPlace_13 : decode b_Fa_takesPlace 13 = .ok (.ifCond .eq 7, 3) := by decide +kernel
theorem d_Fa_takesPlace_16 : decode b_Fa_takesPlace 16 = .ok (.iconst 1, 1) := by decide +kernel
theorem d_Fa_takesPlace_17 : decode b_Fa_takesPlace 17 = .ok (.goto 4, 3) := by decide +kernel
theorem d_Fa_takesPlace_20 : decode b_Fa_takesPlace 20 = .ok (.iconst 0, 1) := by decide +kernel
theorem d_Fa_takesPlace_21 : decode b_Fa_takesPlace 21 = .ok (.ireturn, 1) := by decide +kernel
theorem d_Fa_isCrowded_0 : decode b_Fa_isCrowded 0 = .ok (.iconst 0, 1) := by decide +kernel
theorem d_Fa_isCrowded_1 : decode b_Fa_isCrowded 1 = .ok (.istore_n 1, 1) := by decide +kernel
theorem d_Fa_isCrowded_2 : decode b_Fa_isCrowded 2 = .ok (.iconst 0, 1) := by decide +kernel
theorem d_Fa_isCrowded_3 : decode b_Fa_isCrowded 3 = .ok (.istore_n 2, 1) := by decide +kernel
theorem d_Fa_isCrowded_4 : decode b_Fa_isCrowded 4 = .ok (.iload_n 2, 1) := by decide +kernel
theorem d_Fa_isCrowded_5 : decode b_Fa_isCrowded 5 = .ok (.iconst 2, 1) := by decide +kernel
theorem d_Fa_isCrowded_6 : decode b_Fa_isCrowded 6 = .ok (.if_icmp .ge 20, 3) := by decide +kernel
theorem d_Fa_isCrowded_9 : decode b_Fa_isCrowded 9 = .ok (.aload_n 0, 1) := by decide +kernel
theorem d_Fa_isCrowded_10 : decode b_Fa_isCrowded 10 = .ok (.iload_n 2, 1) := by decide +kernel
theorem d_Fa_isCrowded_11 : decode b_Fa_isCrowded 11 = .ok (.invokevirtual 44, 3) := by decide +kernel
theorem d_Fa_isCrowded_14 : decode b_Fa_isCrowded 14 = .ok (.ifCond .eq 6, 3) := by decide +kernel
theorem d_Fa_isCrowded_17 : decode b_Fa_isCrowded 17 = .ok (.iinc 1 1, 3) := by decide +kernel
theorem d_Fa_isCrowded_20 : decode b_Fa_isCrowded 20 = .ok (.iinc 2 1, 3) := by decide +kernel
theorem d_Fa_isCrowded_23 : decode b_Fa_isCrowded 23 = .ok (.goto (-19), 3) := by decide +kernel
theorem d_Fa_isCrowded_26 : decode b_Fa_isCrowded 26 = .ok (.iload_n 1, 1) := by decide +kernel
theorem d_Fa_isCrowded_27 : decode b_Fa_isCrowded 27 = .ok (.aload_n 0, 1) := by decide +kernel
theorem d_Fa_isCrowded_28 : decode b_Fa_isCrowded 28 = .ok (.getfield 15, 3) := by decide +kernel
theorem d_Fa_isCrowded_31 : decode b_Fa_isCrowded 31 = .ok (.if_icmp .lt 7, 3) := by decide +kernel
theorem d_Fa_isCrowded_34 : decode b_Fa_isCrowded 34 = .ok (.iconst 1, 1) := by decide +kernel
theorem d_Fa_isCrowded_35 : decode b_Fa_isCrowded 35 = .ok (.goto 4, 3) := by decide +kernel
theorem d_Fa_isCrowded_38 : decode b_Fa_isCrowded 38 = .ok (.iconst 0, 1) := by decide +kernel
theorem d_Fa_isCrowded_39 : decode b_Fa_isCrowded 39 = .ok (.ireturn, 1) := by decide +kernel
theorem d_Fa_takeRequest_0 : decode b_Fa_takeRequest 0 = .ok (.aload_n 1, 1) := by decide +kernel
theorem d_Fa_takeRequest_1 : decode b_Fa_takeRequest 1 = .ok (.getfield 59, 3) := by decide +kernel
theorem d_Fa_takeRequest_4 : decode b_Fa_takeRequest 4 = .ok (.istore_n 2, 1) := by decide +kernel
theorem d_Fa_takeRequest_5 : decode b_Fa_takeRequest 5 = .ok (.aload_n 1, 1) := by decide +kernel
theorem d_Fa_takeRequest_6 : decode b_Fa_takeRequest 6 = .ok (.getfield 69, 3) := by decide +kernel
theorem d_Fa_takeRequest_9 : decode b_Fa_takeRequest 9 = .ok (.aload_n 0, 1) := by decide +kernel
theorem d_Fa_takeRequest_10 : decode b_Fa_takeRequest 10 = .ok (.getfield 9, 3) := by decide +kernel
theorem d_Fa_takeRequest_13 : decode b_Fa_takeRequest 13 = .ok (.if_icmp .eq 4, 3) := by decide +kernel
theorem d_Fa_takeRequest_16 : decode b_Fa_takeRequest 16 = .ok (.return_, 1) := by decide +kernel
theorem d_Fa_takeRequest_17 : decode b_Fa_takeRequest 17 = .ok (.aload_n 0, 1) := by decide +kernel
theorem d_Fa_takeRequest_18 : decode b_Fa_takeRequest 18 = .ok (.iload_n 2, 1) := by decide +kernel
theorem d_Fa_takeRequest_19 : decode b_Fa_takeRequest 19 = .ok (.invokevirtual 44, 3) := by decide +kernel
theorem d_Fa_takeRequest_22 : decode b_Fa_takeRequest 22 = .ok (.ifCond .ne 43, 3) := by decide +kernel
theorem d_Fa_takeRequest_25 : decode b_Fa_takeRequest 25 = .ok (.aload_n 0, 1) := by decide +kernel
theorem d_Fa_takeRequest_26 : decode b_Fa_takeRequest 26 = .ok (.invokevirtual 72, 3) := by decide +kernel
theorem d_Fa_takeRequest_29 : decode b_Fa_takeRequest 29 = .ok (.ifCond .eq 36, 3) := by decide +kernel
theorem d_Fa_takeRequest_32 : decode b_Fa_takeRequest 32 = .ok (.aload_n 0, 1) := by decide +kernel
theorem d_Fa_takeRequest_33 : decode b_Fa_takeRequest 33 = .ok (.getfield 18, 3) := by decide +kernel
theorem d_Fa_takeRequest_36 : decode b_Fa_takeRequest 36 = .ok (.aload_n 0, 1) := by decide +kernel
theorem d_Fa_takeRequest_37 : decode b_Fa_takeRequest 37 = .ok (.getfield 9, 3) := by decide +kernel
theorem d_Fa_takeRequest_40 : decode b_Fa_takeRequest 40 = .ok (.iconst 3, 1) := by decide +kernel
theorem d_Fa_takeRequest_41 : decode b_Fa_takeRequest 41 = .ok (.iload_n 2, 1) := by decide +kernel
theorem d_Fa_takeRequest_42 : decode b_Fa_takeRequest 42 = .ok (.aload_n 1, 1) := by decide +kernel
theorem d_Fa_takeRequest_43 : decode b_Fa_takeRequest 43 = .ok (.getfield 62, 3) := by decide +kernel
theorem d_Fa_takeRequest_46 : decode b_Fa_takeRequest 46 = .ok (.invokevirtual 76, 3) := by decide +kernel
theorem d_Fa_takeRequest_49 : decode b_Fa_takeRequest 49 = .ok (.astore_n 3, 1) := by decide +kernel
theorem d_Fa_takeRequest_50 : decode b_Fa_takeRequest 50 = .ok (.aload_n 3, 1) := by decide +kernel
theorem d_Fa_takeRequest_51 : decode b_Fa_takeRequest 51 = .ok (.aload_n 0, 1) := by decide +kernel
theorem d_Fa_takeRequest_52 : decode b_Fa_takeRequest 52 = .ok (.getfield 9, 3) := by decide +kernel
theorem d_Fa_takeRequest_55 : decode b_Fa_takeRequest 55 = .ok (.putfield 69, 3) := by decide +kernel
theorem d_Fa_takeRequest_58 : decode b_Fa_takeRequest 58 = .ok (.aload_n 3, 1) := by decide +kernel
theorem d_Fa_takeRequest_59 : decode b_Fa_takeRequest 59 = .ok (.bipush 66, 2) := by decide +kernel
theorem d_Fa_takeRequest_61 : decode b_Fa_takeRequest 61 = .ok (.putfield 80, 3) := by decide +kernel
theorem d_Fa_takeRequest_64 : decode b_Fa_takeRequest 64 = .ok (.return_, 1) := by decide +kernel
theorem d_Fa_takeRequest_65 : decode b_Fa_takeRequest 65 = .ok (.aload_n 0, 1) := by decide +kernel
theorem d_Fa_takeRequest_66 : decode b_Fa_takeRequest 66 = .ok (.getfield 26, 3) := by decide +kernel
theorem d_Fa_takeRequest_69 : decode b_Fa_takeRequest 69 = .ok (.iload_n 2, 1) := by decide +kernel
theorem d_Fa_takeRequest_70 : decode b_Fa_takeRequest 70 = .ok (.aload_n 1, 1) := by decide +kernel
theorem d_Fa_takeRequest_71 : decode b_Fa_takeRequest 71 = .ok (.getfield 62, 3) := by decide +kernel
theorem d_Fa_takeRequest_74 : decode b_Fa_takeRequest 74 = .ok (.iastore, 1) := by decide +kernel
theorem d_Fa_takeRequest_75 : decode b_Fa_takeRequest 75 = .ok (.aload_n 0, 1) := by decide +kernel
theorem d_Fa_takeRequest_76 : decode b_Fa_takeRequest 76 = .ok (.getfield 29, 3) := by decide +kernel
theorem d_Fa_takeRequest_79 : decode b_Fa_takeRequest 79 = .ok (.iload_n 2, 1) := by decide +kernel
theorem d_Fa_takeRequest_80 : decode b_Fa_takeRequest 80 = .ok (.aload_n 0, 1) := by decide +kernel
theorem d_Fa_takeRequest_81 : decode b_Fa_takeRequest 81 = .ok (.getfield 18, 3) := by decide +kernel
theorem d_Fa_takeRequest_84 : decode b_Fa_takeRequest 84 = .ok (.getfield 32, 3) := by decide +kernel
theorem d_Fa_takeRequest_87 : decode b_Fa_takeRequest 87 = .ok (.bipush 8, 2) := by decide +kernel
theorem d_Fa_takeRequest_89 : decode b_Fa_takeRequest 89 = .ok (.iadd, 1) := by decide +kernel
theorem d_Fa_takeRequest_90 : decode b_Fa_takeRequest 90 = .ok (.iastore, 1) := by decide +kernel
theorem d_Fa_takeRequest_91 : decode b_Fa_takeRequest 91 = .ok (.aload_n 0, 1) := by decide +kernel
theorem d_Fa_takeRequest_92 : decode b_Fa_takeRequest 92 = .ok (.getfield 18, 3) := by decide +kernel
theorem d_Fa_takeRequest_95 : decode b_Fa_takeRequest 95 = .ok (.aload_n 1, 1) := by decide +kernel
theorem d_Fa_takeRequest_96 : decode b_Fa_takeRequest 96 = .ok (.iconst 0, 1) := by decide +kernel
theorem d_Fa_takeRequest_97 : decode b_Fa_takeRequest 97 = .ok (.iconst (-1), 1) := by decide +kernel
theorem d_Fa_takeRequest_98 : decode b_Fa_takeRequest 98 = .ok (.invokevirtual 83, 3) := by decide +kernel
theorem d_Fa_takeRequest_101 : decode b_Fa_takeRequest 101 = .ok (.return_, 1) := by decide +kernel
theorem d_Fa_takeReply_0 : decode b_Fa_takeReply 0 = .ok (.aload_n 1, 1) := by decide +kernel
theorem d_Fa_takeReply_1 : decode b_Fa_takeReply 1 = .ok (.getfield 59, 3) := by decide +kernel
theorem d_Fa_takeReply_4 : decode b_Fa_takeReply 4 = .ok (.istore_n 2, 1) := by decide +kernel
theorem d_Fa_takeReply_5 : decode b_Fa_takeReply 5 = .ok (.aload_n 0, 1) := by decide +kernel
theorem d_Fa_takeReply_6 : decode b_Fa_takeReply 6 = .ok (.iload_n 2, 1) := by decide +kernel
theorem d_Fa_takeReply_7 : decode b_Fa_takeReply 7 = .ok (.invokevirtual 41, 3) := by decide +kernel
theorem d_Fa_takeReply_10 : decode b_Fa_takeReply 10 = .ok (.ifCond .eq 16, 3) := by decide +kernel
theorem d_Fa_takeReply_13 : decode b_Fa_takeReply 13 = .ok (.aload_n 0, 1) := by decide +kernel
theorem d_Fa_takeReply_14 : decode b_Fa_takeReply 14 = .ok (.getfield 26, 3) := by decide +kernel
theorem d_Fa_takeReply_17 : decode b_Fa_takeReply 17 = .ok (.iload_n 2, 1) := by decide +kernel
theorem d_Fa_takeReply_18 : decode b_Fa_takeReply 18 = .ok (.iaload, 1) := by decide +kernel
theorem d_Fa_takeReply_19 : decode b_Fa_takeReply 19 = .ok (.aload_n 1, 1) := by decide +kernel
theorem d_Fa_takeReply_20 : decode b_Fa_takeReply 20 = .ok (.getfield 62, 3) := by decide +kernel
theorem d_Fa_takeReply_23 : decode b_Fa_takeReply 23 = .ok (.if_icmp .eq 4, 3) := by decide +kernel
theorem d_Fa_takeReply_26 : decode b_Fa_takeReply 26 = .ok (.return_, 1) := by decide +kernel
theorem d_Fa_takeReply_27 : decode b_Fa_takeReply 27 = .ok (.aload_n 0, 1) := by decide +kernel
theorem d_Fa_takeReply_28 : decode b_Fa_takeReply 28 = .ok (.getfield 29, 3) := by decide +kernel
theorem d_Fa_takeReply_31 : decode b_Fa_takeReply 31 = .ok (.iload_n 2, 1) := by decide +kernel
theorem d_Fa_takeReply_32 : decode b_Fa_takeReply 32 = .ok (.iconst 0, 1) := by decide +kernel
theorem d_Fa_takeReply_33 : decode b_Fa_takeReply 33 = .ok (.iastore, 1) := by decide +kernel
theorem d_Fa_takeReply_34 : decode b_Fa_takeReply 34 = .ok (.aload_n 1, 1) := by decide +kernel
theorem d_Fa_takeReply_35 : decode b_Fa_takeReply 35 = .ok (.getfield 80, 3) := by decide +kernel
theorem d_Fa_takeReply_38 : decode b_Fa_takeReply 38 = .ok (.ifCond .ne 21, 3) := by decide +kernel
theorem d_Fa_takeReply_41 : decode b_Fa_takeReply 41 = .ok (.aload_n 0, 1) := by decide +kernel
theorem d_Fa_takeReply_42 : decode b_Fa_takeReply 42 = .ok (.getfield 22, 3) := by decide +kernel
theorem d_Fa_takeReply_45 : decode b_Fa_takeReply 45 = .ok (.iload_n 2, 1) := by decide +kernel
theorem d_Fa_takeReply_46 : decode b_Fa_takeReply 46 = .ok (.aload_n 0, 1) := by decide +kernel
theorem d_Fa_takeReply_47 : decode b_Fa_takeReply 47 = .ok (.getfield 18, 3) := by decide +kernel
theorem d_Fa_takeReply_50 : decode b_Fa_takeReply 50 = .ok (.getfield 32, 3) := by decide +kernel
theorem d_Fa_takeReply_53 : decode b_Fa_takeReply 53 = .ok (.aload_n 1, 1) := by decide +kernel
theorem d_Fa_takeReply_54 : decode b_Fa_takeReply 54 = .ok (.getfield 87, 3) := by decide +kernel
theorem d_Fa_takeReply_57 : decode b_Fa_takeReply 57 = .ok (.iadd, 1) := by decide +kernel
theorem d_Fa_takeReply_58 : decode b_Fa_takeReply 58 = .ok (.iastore, 1) := by decide +kernel
theorem d_Fa_takeReply_59 : decode b_Fa_takeReply 59 = .ok (.aload_n 0, 1) := by decide +kernel
theorem d_Fa_takeReply_60 : decode b_Fa_takeReply 60 = .ok (.getfield 18, 3) := by decide +kernel
theorem d_Fa_takeReply_63 : decode b_Fa_takeReply 63 = .ok (.aload_n 1, 1) := by decide +kernel
theorem d_Fa_takeReply_64 : decode b_Fa_takeReply 64 = .ok (.iconst 5, 1) := by decide +kernel
theorem d_Fa_takeReply_65 : decode b_Fa_takeReply 65 = .ok (.aload_n 0, 1) := by decide +kernel
theorem d_Fa_takeReply_66 : decode b_Fa_takeReply 66 = .ok (.getfield 9, 3) := by decide +kernel
theorem d_Fa_takeReply_69 : decode b_Fa_takeReply 69 = .ok (.invokevirtual 83, 3) := by decide +kernel
theorem d_Fa_takeReply_72 : decode b_Fa_takeReply 72 = .ok (.return_, 1) := by decide +kernel
theorem d_Fa_takeTunnel_0 : decode b_Fa_takeTunnel 0 = .ok (.aload_n 0, 1) := by decide +kernel
theorem d_Fa_takeTunnel_1 : decode b_Fa_takeTunnel 1 = .ok (.iload_n 1, 1) := by decide +kernel
theorem d_Fa_takeTunnel_2 : decode b_Fa_takeTunnel 2 = .ok (.invokevirtual 37, 3) := by decide +kernel
theorem d_Fa_takeTunnel_5 : decode b_Fa_takeTunnel 5 = .ok (.ifCond .eq 18, 3) := by decide +kernel
theorem d_Fa_takeTunnel_8 : decode b_Fa_takeTunnel 8 = .ok (.aload_n 0, 1) := by decide +kernel
theorem d_Fa_takeTunnel_9 : decode b_Fa_takeTunnel 9 = .ok (.getfield 18, 3) := by decide +kernel
theorem d_Fa_takeTunnel_12 : decode b_Fa_takeTunnel 12 = .ok (.aload_n 0, 1) := by decide +kernel
theorem d_Fa_takeTunnel_13 : decode b_Fa_takeTunnel 13 = .ok (.getfield 9, 3) := by decide +kernel
theorem d_Fa_takeTunnel_16 : decode b_Fa_takeTunnel 16 = .ok (.iconst 4, 1) := by decide +kernel
theorem d_Fa_takeTunnel_17 : decode b_Fa_takeTunnel 17 = .ok (.iload_n 1, 1) := by decide +kernel
theorem d_Fa_takeTunnel_18 : decode b_Fa_takeTunnel 18 = .ok (.iload_n 2, 1) := by decide +kernel
theorem d_Fa_takeTunnel_19 : decode b_Fa_takeTunnel 19 = .ok (.invokevirtual 76, 3) := by decide +kernel
theorem d_Fa_takeTunnel_22 : decode b_Fa_takeTunnel 22 = .ok (.pop, 1) := by decide +kernel
theorem d_Fa_takeTunnel_23 : decode b_Fa_takeTunnel 23 = .ok (.return_, 1) := by decide +kernel
theorem d_Fa_receive_0 : decode b_Fa_receive 0 = .ok (.aload_n 1, 1) := by decide +kernel
theorem d_Fa_receive_1 : decode b_Fa_receive 1 = .ok (.getfield 47, 3) := by decide +kernel
theorem d_Fa_receive_4 : decode b_Fa_receive 4 = .ok (.iconst 2, 1) := by decide +kernel
theorem d_Fa_receive_5 : decode b_Fa_receive 5 = .ok (.if_icmp .ne 11, 3) := by decide +kernel
theorem d_Fa_receive_8 : decode b_Fa_receive 8 = .ok (.aload_n 0, 1) := by decide +kernel
theorem d_Fa_receive_9 : decode b_Fa_receive 9 = .ok (.aload_n 1, 1) := by decide +kernel
theorem d_Fa_receive_10 : decode b_Fa_receive 10 = .ok (.invokevirtual 52, 3) := by decide +kernel
theorem d_Fa_receive_13 : decode b_Fa_receive 13 = .ok (.goto 39, 3) := by decide +kernel
theorem d_Fa_receive_16 : decode b_Fa_receive 16 = .ok (.aload_n 1, 1) := by decide +kernel
theorem d_Fa_receive_17 : decode b_Fa_receive 17 = .ok (.getfield 47, 3) := by decide +kernel
theorem d_Fa_receive_20 : decode b_Fa_receive 20 = .ok (.iconst 3, 1) := by decide +kernel
theorem d_Fa_receive_21 : decode b_Fa_receive 21 = .ok (.if_icmp .ne 11, 3) := by decide +kernel
theorem d_Fa_receive_24 : decode b_Fa_receive 24 = .ok (.aload_n 0, 1) := by decide +kernel
theorem d_Fa_receive_25 : decode b_Fa_receive 25 = .ok (.aload_n 1, 1) := by decide +kernel
theorem d_Fa_receive_26 : decode b_Fa_receive 26 = .ok (.invokevirtual 56, 3) := by decide +kernel
theorem d_Fa_receive_29 : decode b_Fa_receive 29 = .ok (.goto 23, 3) := by decide +kernel
theorem d_Fa_receive_32 : decode b_Fa_receive 32 = .ok (.aload_n 1, 1) := by decide +kernel
theorem d_Fa_receive_33 : decode b_Fa_receive 33 = .ok (.getfield 47, 3) := by decide +kernel
theorem d_Fa_receive_36 : decode b_Fa_receive 36 = .ok (.iconst 5, 1) := by decide +kernel
theorem d_Fa_receive_37 : decode b_Fa_receive 37 = .ok (.if_icmp .ne 15, 3) := by decide +kernel
theorem d_Fa_receive_40 : decode b_Fa_receive 40 = .ok (.aload_n 0, 1) := by decide +kernel
theorem d_Fa_receive_41 : decode b_Fa_receive 41 = .ok (.aload_n 1, 1) := by decide +kernel
theorem d_Fa_receive_42 : decode b_Fa_receive 42 = .ok (.getfield 59, 3) := by decide +kernel
theorem d_Fa_receive_45 : decode b_Fa_receive 45 = .ok (.aload_n 1, 1) := by decide +kernel
theorem d_Fa_receive_46 : decode b_Fa_receive 46 = .ok (.getfield 62, 3) := by decide +kernel
theorem d_Fa_receive_49 : decode b_Fa_receive 49 = .ok (.invokevirtual 65, 3) := by decide +kernel
theorem d_Fa_receive_52 : decode b_Fa_receive 52 = .ok (.return_, 1) := by decide +kernel
theorem d_Wire_remove_0 : decode b_Wire_remove 0 = .ok (.aload_n 0, 1) := by decide +kernel
theorem d_Wire_remove_1 : decode b_Wire_remove 1 = .ok (.getfield 11, 3) := by decide +kernel
theorem d_Wire_remove_4 : decode b_Wire_remove 4 = .ok (.iload_n 1, 1) := by decide +kernel
theorem d_Wire_remove_5 : decode b_Wire_remove 5 = .ok (.aaload, 1) := by decide +kernel
theorem d_Wire_remove_6 : decode b_Wire_remove 6 = .ok (.astore_n 2, 1) := by decide +kernel
theorem d_Wire_remove_7 : decode b_Wire_remove 7 = .ok (.iload_n 1, 1) := by decide +kernel
theorem d_Wire_remove_8 : decode b_Wire_remove 8 = .ok (.iconst 1, 1) := by decide +kernel
theorem d_Wire_remove_9 : decode b_Wire_remove 9 = .ok (.iadd, 1) := by decide +kernel
theorem d_Wire_remove_10 : decode b_Wire_remove 10 = .ok (.istore_n 3, 1) := by decide +kernel
theorem d_Wire_remove_11 : decode b_Wire_remove 11 = .ok (.iload_n 3, 1) := by decide +kernel
theorem d_Wire_remove_12 : decode b_Wire_remove 12 = .ok (.aload_n 0, 1) := by decide +kernel
theorem d_Wire_remove_13 : decode b_Wire_remove 13 = .ok (.getfield 18, 3) := by decide +kernel
theorem d_Wire_remove_16 : decode b_Wire_remove 16 = .ok (.if_icmp .ge 23, 3) := by decide +kernel
theorem d_Wire_remove_19 : decode b_Wire_remove 19 = .ok (.aload_n 0, 1) := by decide +kernel
theorem d_Wire_remove_20 : decode b_Wire_remove 20 = .ok (.getfield 11, 3) := by decide +kernel
theorem d_Wire_remove_23 : decode b_Wire_remove 23 = .ok (.iload_n 3, 1) := by decide +kernel
theorem d_Wire_remove_24 : decode b_Wire_remove 24 = .ok (.iconst 1, 1) := by decide +kernel
theorem d_Wire_remove_25 : decode b_Wire_remove 25 = .ok (.isub, 1) := by decide +kernel
theorem d_Wire_remove_26 : decode b_Wire_remove 26 = .ok (.aload_n 0, 1) := by decide +kernel
theorem d_Wire_remove_27 : decode b_Wire_remove 27 = .ok (.getfield 11, 3) := by decide +kernel
theorem d_Wire_remove_30 : decode b_Wire_remove 30 = .ok (.iload_n 3, 1) := by decide +kernel
theorem d_Wire_remove_31 : decode b_Wire_remove 31 = .ok (.aaload, 1) := by decide +kernel
theorem d_Wire_remove_32 : decode b_Wire_remove 32 = .ok (.aastore, 1) := by decide +kernel
theorem d_Wire_remove_33 : decode b_Wire_remove 33 = .ok (.iinc 3 1, 3) := by decide +kernel
theorem d_Wire_remove_36 : decode b_Wire_remove 36 = .ok (.goto (-25), 3) := by decide +kernel
theorem d_Wire_remove_39 : decode b_Wire_remove 39 = .ok (.aload_n 0, 1) := by decide +kernel
theorem d_Wire_remove_40 : decode b_Wire_remove 40 = .ok (.dup, 1) := by decide +kernel
theorem d_Wire_remove_41 : decode b_Wire_remove 41 = .ok (.getfield 18, 3) := by decide +kernel
theorem d_Wire_remove_44 : decode b_Wire_remove 44 = .ok (.iconst 1, 1) := by decide +kernel
theorem d_Wire_remove_45 : decode b_Wire_remove 45 = .ok (.isub, 1) := by decide +kernel
theorem d_Wire_remove_46 : decode b_Wire_remove 46 = .ok (.putfield 18, 3) := by decide +kernel
theorem d_Wire_remove_49 : decode b_Wire_remove 49 = .ok (.aload_n 0, 1) := by decide +kernel
theorem d_Wire_remove_50 : decode b_Wire_remove 50 = .ok (.getfield 11, 3) := by decide +kernel
theorem d_Wire_remove_53 : decode b_Wire_remove 53 = .ok (.aload_n 0, 1) := by decide +kernel
theorem d_Wire_remove_54 : decode b_Wire_remove 54 = .ok (.getfield 18, 3) := by decide +kernel
theorem d_Wire_remove_57 : decode b_Wire_remove 57 = .ok (.aload_n 2, 1) := by decide +kernel
theorem d_Wire_remove_58 : decode b_Wire_remove 58 = .ok (.aastore, 1) := by decide +kernel
theorem d_Wire_remove_59 : decode b_Wire_remove 59 = .ok (.return_, 1) := by decide +kernel
theorem d_Corr_pump_0 : decode b_Corr_pump 0 = .ok (.aload_n 0, 1) := by decide +kernel
theorem d_Corr_pump_1 : decode b_Corr_pump 1 = .ok (.getfield 19, 3) := by decide +kernel
theorem d_Corr_pump_4 : decode b_Corr_pump 4 = .ok (.iload_n 1, 1) := by decide +kernel
theorem d_Corr_pump_5 : decode b_Corr_pump 5 = .ok (.iaload, 1) := by decide +kernel
theorem d_Corr_pump_6 : decode b_Corr_pump 6 = .ok (.aload_n 0, 1) := by decide +kernel
theorem d_Corr_pump_7 : decode b_Corr_pump 7 = .ok (.getfield 15, 3) := by decide +kernel
theorem d_Corr_pump_10 : decode b_Corr_pump 10 = .ok (.iload_n 1, 1) := by decide +kernel
theorem d_Corr_pump_11 : decode b_Corr_pump 11 = .ok (.iaload, 1) := by decide +kernel
theorem d_Corr_pump_12 : decode b_Corr_pump 12 = .ok (.if_icmp .ge 63, 3) := by decide +kernel
theorem d_Corr_pump_15 : decode b_Corr_pump 15 = .ok (.aload_n 0, 1) := by decide +kernel
theorem d_Corr_pump_16 : decode b_Corr_pump 16 = .ok (.getfield 19, 3) := by decide +kernel
theorem d_Corr_pump_19 : decode b_Corr_pump 19 = .ok (.iload_n 1, 1) := by decide +kernel
theorem d_Corr_pump_20 : decode b_Corr_pump 20 = .ok (.iaload, 1) := by decide +kernel
theorem d_Corr_pump_21 : decode b_Corr_pump 21 = .ok (.aload_n 0, 1) := by decide +kernel
theorem d_Corr_pump_22 : decode b_Corr_pump 22 = .ok (.getfield 22, 3) := by decide +kernel
theorem d_Corr_pump_25 : decode b_Corr_pump 25 = .ok (.iload_n 1, 1) := by decide +kernel
theorem d_Corr_pump_26 : decode b_Corr_pump 26 = .ok (.iaload, 1) := by decide +kernel
theorem d_Corr_pump_27 : decode b_Corr_pump 27 = .ok (.iconst 3, 1) := by decide +kernel
theorem d_Corr_pump_28 : decode b_Corr_pump 28 = .ok (.iadd, 1) := by decide +kernel
theorem d_Corr_pump_29 : decode b_Corr_pump 29 = .ok (.if_icmp .ge 46, 3) := by decide +kernel
theorem d_Corr_pump_32 : decode b_Corr_pump 32 = .ok (.aload_n 0, 1) := by decide +kernel
theorem d_Corr_pump_33 : decode b_Corr_pump 33 = .ok (.getfield 19, 3) := by decide +kernel
theorem d_Corr_pump_36 : decode b_Corr_pump 36 = .ok (.iload_n 1, 1) := by decide +kernel
theorem d_Corr_pump_37 : decode b_Corr_pump 37 = .ok (.dup2, 1) := by decide +kernel
theorem d_Corr_pump_38 : decode b_Corr_pump 38 = .ok (.iaload, 1) := by decide +kernel
theorem d_Corr_pump_39 : decode b_Corr_pump 39 = .ok (.iconst 1, 1) := by decide +kernel
theorem d_Corr_pump_40 : decode b_Corr_pump 40 = .ok (.iadd, 1) := by decide +kernel
theorem d_Corr_pump_41 : decode b_Corr_pump 41 = .ok (.iastore, 1) := by decide +kernel
theorem d_Corr_pump_42 : decode b_Corr_pump 42 = .ok (.aload_n 0, 1) := by decide +kernel
theorem d_Corr_pump_43 : decode b_Corr_pump 43 = .ok (.getfield 9, 3) := by decide +kernel
theorem d_Corr_pump_46 : decode b_Corr_pump 46 = .ok (.iconst 0, 1) := by decide +kernel
theorem d_Corr_pump_47 : decode b_Corr_pump 47 = .ok (.iconst 4, 1) := by decide +kernel
theorem d_Corr_pump_48 : decode b_Corr_pump 48 = .ok (.iload_n 1, 1) := by decide +kernel
theorem d_Corr_pump_49 : decode b_Corr_pump 49 = .ok (.aload_n 0, 1) := by decide +kernel
theorem d_Corr_pump_50 : decode b_Corr_pump 50 = .ok (.getfield 19, 3) := by decide +kernel
theorem d_Corr_pump_53 : decode b_Corr_pump 53 = .ok (.iload_n 1, 1) := by decide +kernel
theorem d_Corr_pump_54 : decode b_Corr_pump 54 = .ok (.iaload, 1) := by decide +kernel
theorem d_Corr_pump_55 : decode b_Corr_pump 55 = .ok (.invokevirtual 28, 3) := by decide +kernel
theorem d_Corr_pump_58 : decode b_Corr_pump 58 = .ok (.pop, 1) := by decide +kernel
theorem d_Corr_pump_59 : decode b_Corr_pump 59 = .ok (.aload_n 0, 1) := by decide +kernel
theorem d_Corr_pump_60 : decode b_Corr_pump 60 = .ok (.getfield 25, 3) := by decide +kernel
theorem d_Corr_pump_63 : decode b_Corr_pump 63 = .ok (.iload_n 1, 1) := by decide +kernel
theorem d_Corr_pump_64 : decode b_Corr_pump 64 = .ok (.aload_n 0, 1) := by decide +kernel
theorem d_Corr_pump_65 : decode b_Corr_pump 65 = .ok (.getfield 9, 3) := by decide +kernel
theorem d_Corr_pump_68 : decode b_Corr_pump 68 = .ok (.getfield 34, 3) := by decide +kernel
theorem d_Corr_pump_71 : decode b_Corr_pump 71 = .ok (.iastore, 1) := by decide +kernel
theorem d_Corr_pump_72 : decode b_Corr_pump 72 = .ok (.goto (-72), 3) := by decide +kernel
theorem d_Corr_pump_75 : decode b_Corr_pump 75 = .ok (.return_, 1) := by decide +kernel
theorem d_Corr_resendIfDue_0 : decode b_Corr_resendIfDue 0 = .ok (.aload_n 0, 1) := by decide +kernel
theorem d_Corr_resendIfDue_1 : decode b_Corr_resendIfDue 1 = .ok (.getfield 19, 3) := by decide +kernel
theorem d_Corr_resendIfDue_4 : decode b_Corr_resendIfDue 4 = .ok (.iload_n 1, 1) := by decide +kernel
theorem d_Corr_resendIfDue_5 : decode b_Corr_resendIfDue 5 = .ok (.iaload, 1) := by decide +kernel
theorem d_Corr_resendIfDue_6 : decode b_Corr_resendIfDue 6 = .ok (.aload_n 0, 1) := by decide +kernel
theorem d_Corr_resendIfDue_7 : decode b_Corr_resendIfDue 7 = .ok (.getfield 22, 3) := by decide +kernel
theorem d_Corr_resendIfDue_10 : decode b_Corr_resendIfDue 10 = .ok (.iload_n 1, 1) := by decide +kernel
theorem d_Corr_resendIfDue_11 : decode b_Corr_resendIfDue 11 = .ok (.iaload, 1) := by decide +kernel
theorem d_Corr_resendIfDue_12 : decode b_Corr_resendIfDue 12 = .ok (.if_icmp .le 21, 3) := by decide +kernel
theorem d_Corr_resendIfDue_15 : decode b_Corr_resendIfDue 15 = .ok (.aload_n 0, 1) := by decide +kernel
theorem d_Corr_resendIfDue_16 : decode b_Corr_resendIfDue 16 = .ok (.getfield 9, 3) := by decide +kernel
theorem d_Corr_resendIfDue_19 : decode b_Corr_resendIfDue 19 = .ok (.getfield 34, 3) := by decide +kernel
theorem d_Corr_resendIfDue_22 : decode b_Corr_resendIfDue 22 = .ok (.aload_n 0, 1) := by decide +kernel
theorem d_Corr_resendIfDue_23 : decode b_Corr_resendIfDue 23 = .ok (.getfield 25, 3) := by decide +kernel
theorem d_Corr_resendIfDue_26 : decode b_Corr_resendIfDue 26 = .ok (.iload_n 1, 1) := by decide +kernel
theorem d_Corr_resendIfDue_27 : decode b_Corr_resendIfDue 27 = .ok (.iaload, 1) := by decide +kernel
theorem d_Corr_resendIfDue_28 : decode b_Corr_resendIfDue 28 = .ok (.isub, 1) := by decide +kernel
theorem d_Corr_resendIfDue_29 : decode b_Corr_resendIfDue 29 = .ok (.iconst 5, 1) := by decide +kernel
theorem d_Corr_resendIfDue_30 : decode b_Corr_resendIfDue 30 = .ok (.if_icmp .ge 4, 3) := by decide +kernel
theorem d_Corr_resendIfDue_33 : decode b_Corr_resendIfDue 33 = .ok (.return_, 1) := by decide +kernel
theorem d_Corr_resendIfDue_34 : decode b_Corr_resendIfDue 34 = .ok (.aload_n 0, 1) := by decide +kernel
theorem d_Corr_resendIfDue_35 : decode b_Corr_resendIfDue 35 = .ok (.getfield 22, 3) := by decide +kernel
theorem d_Corr_resendIfDue_38 : decode b_Corr_resendIfDue 38 = .ok (.iload_n 1, 1) := by decide +kernel
theorem d_Corr_resendIfDue_39 : decode b_Corr_resendIfDue 39 = .ok (.iaload, 1) := by decide +kernel
theorem d_Corr_resendIfDue_40 : decode b_Corr_resendIfDue 40 = .ok (.iconst 1, 1) := by decide +kernel
theorem d_Corr_resendIfDue_41 : decode b_Corr_resendIfDue 41 = .ok (.iadd, 1) := by decide +kernel
theorem d_Corr_resendIfDue_42 : decode b_Corr_resendIfDue 42 = .ok (.istore_n 2, 1) := by decide +kernel
theorem d_Corr_resendIfDue_43 : decode b_Corr_resendIfDue 43 = .ok (.iload_n 2, 1) := by decide +kernel
theorem d_Corr_resendIfDue_44 : decode b_Corr_resendIfDue 44 = .ok (.aload_n 0, 1) := by decide +kernel
theorem d_Corr_resendIfDue_45 : decode b_Corr_resendIfDue 45 = .ok (.getfield 19, 3) := by decide +kernel
theorem d_Corr_resendIfDue_48 : decode b_Corr_resendIfDue 48 = .ok (.iload_n 1, 1) := by decide +kernel
theorem d_Corr_resendIfDue_49 : decode b_Corr_resendIfDue 49 = .ok (.iaload, 1) := by decide +kernel
theorem d_Corr_resendIfDue_50 : decode b_Corr_resendIfDue 50 = .ok (.if_icmp .gt 21, 3) := by decide +kernel
theorem d_Corr_resendIfDue_53 : decode b_Corr_resendIfDue 53 = .ok (.aload_n 0, 1) := by decide +kernel
theorem d_Corr_resendIfDue_54 : decode b_Corr_resendIfDue 54 = .ok (.getfield 9, 3) := by decide +kernel
theorem d_Corr_resendIfDue_57 : decode b_Corr_resendIfDue 57 = .ok (.iconst 0, 1) := by decide +kernel
theorem d_Corr_resendIfDue_58 : decode b_Corr_resendIfDue 58 = .ok (.iconst 4, 1) := by decide +kernel
theorem d_Corr_resendIfDue_59 : decode b_Corr_resendIfDue 59 = .ok (.iload_n 1, 1) := by decide +kernel
theorem d_Corr_resendIfDue_60 : decode b_Corr_resendIfDue 60 = .ok (.iload_n 2, 1) := by decide +kernel
theorem d_Corr_resendIfDue_61 : decode b_Corr_resendIfDue 61 = .ok (.invokevirtual 28, 3) := by decide +kernel
theorem d_Corr_resendIfDue_64 : decode b_Corr_resendIfDue 64 = .ok (.pop, 1) := by decide +kernel
theorem d_Corr_resendIfDue_65 : decode b_Corr_resendIfDue 65 = .ok (.iinc 2 1, 3) := by decide +kernel
theorem d_Corr_resendIfDue_68 : decode b_Corr_resendIfDue 68 = .ok (.goto (-25), 3) := by decide +kernel
theorem d_Corr_resendIfDue_71 : decode b_Corr_resendIfDue 71 = .ok (.aload_n 0, 1) := by decide +kernel
theorem d_Corr_resendIfDue_72 : decode b_Corr_resendIfDue 72 = .ok (.getfield 25, 3) := by decide +kernel
theorem d_Corr_resendIfDue_75 : decode b_Corr_resendIfDue 75 = .ok (.iload_n 1, 1) := by decide +kernel
theorem d_Corr_resendIfDue_76 : decode b_Corr_resendIfDue 76 = .ok (.aload_n 0, 1) := by decide +kernel
theorem d_Corr_resendIfDue_77 : decode b_Corr_resendIfDue 77 = .ok (.getfield 9, 3) := by decide +kernel
theorem d_Corr_resendIfDue_80 : decode b_Corr_resendIfDue 80 = .ok (.getfield 34, 3) := by decide +kernel
theorem d_Corr_resendIfDue_83 : decode b_Corr_resendIfDue 83 = .ok (.iastore, 1) := by decide +kernel
theorem d_Corr_resendIfDue_84 : decode b_Corr_resendIfDue 84 = .ok (.return_, 1) := by decide +kernel
theorem d_Corr_receive_0 : decode b_Corr_receive 0 = .ok (.aload_n 1, 1) := by decide +kernel
theorem d_Corr_receive_1 : decode b_Corr_receive 1 = .ok (.getfield 38, 3) := by decide +kernel
theorem d_Corr_receive_4 : decode b_Corr_receive 4 = .ok (.istore_n 2, 1) := by decide +kernel
theorem d_Corr_receive_5 : decode b_Corr_receive 5 = .ok (.aload_n 1, 1) := by decide +kernel
theorem d_Corr_receive_6 : decode b_Corr_receive 6 = .ok (.getfield 43, 3) := by decide +kernel
theorem d_Corr_receive_9 : decode b_Corr_receive 9 = .ok (.bipush 6, 2) := by decide +kernel
theorem d_Corr_receive_11 : decode b_Corr_receive 11 = .ok (.if_icmp .ne 44, 3) := by decide +kernel
theorem d_Corr_receive_14 : decode b_Corr_receive 14 = .ok (.aload_n 1, 1) := by decide +kernel
theorem d_Corr_receive_15 : decode b_Corr_receive 15 = .ok (.getfield 46, 3) := by decide +kernel
theorem d_Corr_receive_18 : decode b_Corr_receive 18 = .ok (.aload_n 0, 1) := by decide +kernel
theorem d_Corr_receive_19 : decode b_Corr_receive 19 = .ok (.getfield 22, 3) := by decide +kernel
theorem d_Corr_receive_22 : decode b_Corr_receive 22 = .ok (.iload_n 2, 1) := by decide +kernel
theorem d_Corr_receive_23 : decode b_Corr_receive 23 = .ok (.iaload, 1) := by decide +kernel
theorem d_Corr_receive_24 : decode b_Corr_receive 24 = .ok (.if_icmp .le 31, 3) := by decide +kernel
theorem d_Corr_receive_27 : decode b_Corr_receive 27 = .ok (.aload_n 0, 1) := by decide +kernel
theorem d_Corr_receive_28 : decode b_Corr_receive 28 = .ok (.getfield 22, 3) := by decide +kernel
theorem d_Corr_receive_31 : decode b_Corr_receive 31 = .ok (.iload_n 2, 1) := by decide +kernel
theorem d_Corr_receive_32 : decode b_Corr_receive 32 = .ok (.aload_n 1, 1) := by decide +kernel
theorem d_Corr_receive_33 : decode b_Corr_receive 33 = .ok (.getfield 46, 3) := by decide +kernel
theorem d_Corr_receive_36 : decode b_Corr_receive 36 = .ok (.iastore, 1) := by decide +kernel
theorem d_Corr_receive_37 : decode b_Corr_receive 37 = .ok (.aload_n 0, 1) := by decide +kernel
theorem d_Corr_receive_38 : decode b_Corr_receive 38 = .ok (.getfield 25, 3) := by decide +kernel
theorem d_Corr_receive_41 : decode b_Corr_receive 41 = .ok (.iload_n 2, 1) := by decide +kernel
theorem d_Corr_receive_42 : decode b_Corr_receive 42 = .ok (.aload_n 0, 1) := by decide +kernel
theorem d_Corr_receive_43 : decode b_Corr_receive 43 = .ok (.getfield 9, 3) := by decide +kernel
theorem d_Corr_receive_46 : decode b_Corr_receive 46 = .ok (.getfield 34, 3) := by decide +kernel
theorem d_Corr_receive_49 : decode b_Corr_receive 49 = .ok (.iastore, 1) := by decide +kernel
theorem d_Corr_receive_50 : decode b_Corr_receive 50 = .ok (.aload_n 0, 1) := by decide +kernel
theorem d_Corr_receive_51 : decode b_Corr_receive 51 = .ok (.iload_n 2, 1) := by decide +kernel
theorem d_Corr_receive_52 : decode b_Corr_receive 52 = .ok (.invokevirtual 49, 3) := by decide +kernel
theorem d_Corr_receive_55 : decode b_Corr_receive 55 = .ok (.return_, 1) := by decide +kernel
theorem d_Net_key_0 : decode b_Net_key 0 = .ok (.iload_n 2, 1) := by decide +kernel
theorem d_Net_key_1 : decode b_Net_key 1 = .ok (.invokestatic 63, 3) := by decide +kernel
theorem d_Net_key_4 : decode b_Net_key 4 = .ok (.ifCond .eq 12, 3) := by decide +kernel
theorem d_Net_key_7 : decode b_Net_key 7 = .ok (.iload_n 1, 1) := by decide +kernel
theorem d_Net_key_8 : decode b_Net_key 8 = .ok (.iconst 0, 1) := by decide +kernel
theorem d_Net_key_9 : decode b_Net_key 9 = .ok (.iconst 1, 1) := by decide +kernel
theorem d_Net_key_10 : decode b_Net_key 10 = .ok (.invokestatic 11, 3) := by decide +kernel
theorem d_Net_key_13 : decode b_Net_key 13 = .ok (.ifCond .ne 5, 3) := by decide +kernel
theorem d_Net_key_16 : decode b_Net_key 16 = .ok (.iconst 0, 1) := by decide +kernel
theorem d_Net_key_17 : decode b_Net_key 17 = .ok (.ireturn, 1) := by decide +kernel
theorem d_Net_key_18 : decode b_Net_key 18 = .ok (.iload_n 1, 1) := by decide +kernel
theorem d_Net_key_19 : decode b_Net_key 19 = .ok (.iconst 1, 1) := by decide +kernel
theorem d_Net_key_20 : decode b_Net_key 20 = .ok (.if_icmp .ne 16, 3) := by decide +kernel
theorem d_Net_key_23 : decode b_Net_key 23 = .ok (.aload_n 0, 1) := by decide +kernel
theorem d_Net_key_24 : decode b_Net_key 24 = .ok (.getfield 31, 3) := by decide +kernel
theorem d_Net_key_27 : decode b_Net_key 27 = .ok (.iload_n 2, 1) := by decide +kernel
theorem d_Net_key_28 : decode b_Net_key 28 = .ok (.aaload, 1) := by decide +kernel
theorem d_Net_key_29 : decode b_Net_key 29 = .ok (.iload_n 3, 1) := by decide +kernel
theorem d_Net_key_30 : decode b_Net_key 30 = .ok (.putfield 67, 3) := by decide +kernel
theorem d_Net_key_33 : decode b_Net_key 33 = .ok (.goto 13, 3) := by decide +kernel
theorem d_Net_key_36 : decode b_Net_key 36 = .ok (.aload_n 0, 1) := by decide +kernel
theorem d_Net_key_37 : decode b_Net_key 37 = .ok (.getfield 43, 3) := by decide +kernel
theorem d_Net_key_40 : decode b_Net_key 40 = .ok (.getfield 71, 3) := by decide +kernel
theorem d_Net_key_43 : decode b_Net_key 43 = .ok (.iload_n 2, 1) := by decide +kernel
theorem d_Net_key_44 : decode b_Net_key 44 = .ok (.iload_n 3, 1) := by decide +kernel
theorem d_Net_key_45 : decode b_Net_key 45 = .ok (.iastore, 1) := by decide +kernel
theorem d_Net_key_46 : decode b_Net_key 46 = .ok (.iconst 1, 1) := by decide +kernel
theorem d_Net_key_47 : decode b_Net_key 47 = .ok (.ireturn, 1) := by decide +kernel
theorem d_Net_move_0 : decode b_Net_move 0 = .ok (.iload_n 1, 1) := by decide +kernel
theorem d_Net_move_1 : decode b_Net_move 1 = .ok (.invokestatic 63, 3) := by decide +kernel
theorem d_Net_move_4 : decode b_Net_move 4 = .ok (.ifCond .eq 12, 3) := by decide +kernel
theorem d_Net_move_7 : decode b_Net_move 7 = .ok (.iload_n 2, 1) := by decide +kernel
theorem d_Net_move_8 : decode b_Net_move 8 = .ok (.iconst 0, 1) := by decide +kernel
theorem d_Net_move_9 : decode b_Net_move 9 = .ok (.iconst 4, 1) := by decide +kernel
theorem d_Net_move_10 : decode b_Net_move 10 = .ok (.invokestatic 11, 3) := by decide +kernel
theorem d_Net_move_13 : decode b_Net_move 13 = .ok (.ifCond .ne 5, 3) := by decide +kernel
theorem d_Net_move_16 : decode b_Net_move 16 = .ok (.iconst 0, 1) := by decide +kernel
theorem d_Net_move_17 : decode b_Net_move 17 = .ok (.ireturn, 1) := by decide +kernel
theorem d_Net_move_18 : decode b_Net_move 18 = .ok (.aload_n 0, 1) := by decide +kernel
theorem d_Net_move_19 : decode b_Net_move 19 = .ok (.getfield 31, 3) := by decide +kernel
theorem d_Net_move_22 : decode b_Net_move 22 = .ok (.iload_n 1, 1) := by decide +kernel
theorem d_Net_move_23 : decode b_Net_move 23 = .ok (.aaload, 1) := by decide +kernel
theorem d_Net_move_24 : decode b_Net_move 24 = .ok (.iload_n 2, 1) := by decide +kernel
theorem d_Net_move_25 : decode b_Net_move 25 = .ok (.putfield 75, 3) := by decide +kernel
theorem d_Net_move_28 : decode b_Net_move 28 = .ok (.iconst 1, 1) := by decide +kernel
theorem d_Net_move_29 : decode b_Net_move 29 = .ok (.ireturn, 1) := by decide +kernel
theorem d_Net_say_0 : decode b_Net_say 0 = .ok (.iload_n 1, 1) := by decide +kernel
theorem d_Net_say_1 : decode b_Net_say 1 = .ok (.invokestatic 63, 3) := by decide +kernel
theorem d_Net_say_4 : decode b_Net_say 4 = .ok (.ifCond .eq 18, 3) := by decide +kernel
theorem d_Net_say_7 : decode b_Net_say 7 = .ok (.aload_n 0, 1) := by decide +kernel
theorem d_Net_say_8 : decode b_Net_say 8 = .ok (.getfield 59, 3) := by decide +kernel
theorem d_Net_say_11 : decode b_Net_say 11 = .ok (.getfield 81, 3) := by decide +kernel
theorem d_Net_say_14 : decode b_Net_say 14 = .ok (.iload_n 1, 1) := by decide +kernel
theorem d_Net_say_15 : decode b_Net_say 15 = .ok (.iaload, 1) := by decide +kernel
theorem d_Net_say_16 : decode b_Net_say 16 = .ok (.sipush 200, 3) := by decide +kernel
theorem d_Net_say_19 : decode b_Net_say 19 = .ok (.if_icmp .lt 5, 3) := by decide +kernel
theorem d_Net_say_22 : decode b_Net_say 22 = .ok (.iconst (-1), 1) := by decide +kernel
theorem d_Net_say_23 : decode b_Net_say 23 = .ok (.ireturn, 1) := by decide +kernel
theorem d_Net_say_24 : decode b_Net_say 24 = .ok (.aload_n 0, 1) := by decide +kernel
theorem d_Net_say_25 : decode b_Net_say 25 = .ok (.getfield 59, 3) := by decide +kernel
theorem d_Net_say_28 : decode b_Net_say 28 = .ok (.getfield 81, 3) := by decide +kernel
theorem d_Net_say_31 : decode b_Net_say 31 = .ok (.iload_n 1, 1) := by decide +kernel
theorem d_Net_say_32 : decode b_Net_say 32 = .ok (.dup2, 1) := by decide +kernel
theorem d_Net_say_33 : decode b_Net_say 33 = .ok (.iaload, 1) := by decide +kernel
theorem d_Net_say_34 : decode b_Net_say 34 = .ok (.iconst 1, 1) := by decide +kernel
theorem d_Net_say_35 : decode b_Net_say 35 = .ok (.iadd, 1) := by decide +kernel
theorem d_Net_say_36 : decode b_Net_say 36 = .ok (.iastore, 1) := by decide +kernel
theorem d_Net_say_37 : decode b_Net_say 37 = .ok (.aload_n 0, 1) := by decide +kernel
theorem d_Net_say_38 : decode b_Net_say 38 = .ok (.getfield 59, 3) := by decide +kernel
theorem d_Net_say_41 : decode b_Net_say 41 = .ok (.iload_n 1, 1) := by decide +kernel
theorem d_Net_say_42 : decode b_Net_say 42 = .ok (.invokevirtual 84, 3) := by decide +kernel
theorem d_Net_say_45 : decode b_Net_say 45 = .ok (.aload_n 0, 1) := by decide +kernel
theorem d_Net_say_46 : decode b_Net_say 46 = .ok (.getfield 59, 3) := by decide +kernel
theorem d_Net_say_49 : decode b_Net_say 49 = .ok (.getfield 81, 3) := by decide +kernel
theorem d_Net_say_52 : decode b_Net_say 52 = .ok (.iload_n 1, 1) := by decide +kernel
theorem d_Net_say_53 : decode b_Net_say 53 = .ok (.iaload, 1) := by decide +kernel
theorem d_Net_say_54 : decode b_Net_say 54 = .ok (.ireturn, 1) := by decide +kernel
theorem d_Net_handOver_0 : decode b_Net_handOver 0 = .ok (.aload_n 1, 1) := by decide +kernel
theorem d_Net_handOver_1 : decode b_Net_handOver 1 = .ok (.getfield 180, 3) := by decide +kernel
theorem d_Net_handOver_4 : decode b_Net_handOver 4 = .ok (.iconst 5, 1) := by decide +kernel
theorem d_Net_handOver_5 : decode b_Net_handOver 5 = .ok (.if_icmp .ne 19, 3) := by decide +kernel
theorem d_Net_handOver_8 : decode b_Net_handOver 8 = .ok (.aload_n 0, 1) := by decide +kernel
theorem d_Net_handOver_9 : decode b_Net_handOver 9 = .ok (.getfield 31, 3) := by decide +kernel
theorem d_Net_handOver_12 : decode b_Net_handOver 12 = .ok (.aload_n 1, 1) := by decide +kernel
theorem d_Net_handOver_13 : decode b_Net_handOver 13 = .ok (.getfield 183, 3) := by decide +kernel
theorem d_Net_handOver_16 : decode b_Net_handOver 16 = .ok (.aaload, 1) := by decide +kernel
theorem d_Net_handOver_17 : decode b_Net_handOver 17 = .ok (.aload_n 1, 1) := by decide +kernel
theorem d_Net_handOver_18 : decode b_Net_handOver 18 = .ok (.invokevirtual 186, 3) := by decide +kernel
theorem d_Net_handOver_21 : decode b_Net_handOver 21 = .ok (.goto 55, 3) := by decide +kernel
theorem d_Net_handOver_24 : decode b_Net_handOver 24 = .ok (.aload_n 1, 1) := by decide +kernel
theorem d_Net_handOver_25 : decode b_Net_handOver 25 = .ok (.getfield 180, 3) := by decide +kernel
theorem d_Net_handOver_28 : decode b_Net_handOver 28 = .ok (.iconst 4, 1) := by decide +kernel
theorem d_Net_handOver_29 : decode b_Net_handOver 29 = .ok (.if_icmp .ne 14, 3) := by decide +kernel
theorem d_Net_handOver_32 : decode b_Net_handOver 32 = .ok (.aload_n 0, 1) := by decide +kernel
theorem d_Net_handOver_33 : decode b_Net_handOver 33 = .ok (.getfield 59, 3) := by decide +kernel
theorem d_Net_handOver_36 : decode b_Net_handOver 36 = .ok (.aload_n 1, 1) := by decide +kernel
theorem d_Net_handOver_37 : decode b_Net_handOver 37 = .ok (.invokevirtual 189, 3) := by decide +kernel
theorem d_Net_handOver_40 : decode b_Net_handOver 40 = .ok (.goto 36, 3) := by decide +kernel
theorem d_Net_handOver_43 : decode b_Net_handOver 43 = .ok (.aload_n 1, 1) := by decide +kernel
theorem d_Net_handOver_44 : decode b_Net_handOver 44 = .ok (.getfield 180, 3) := by decide +kernel
theorem d_Net_handOver_47 : decode b_Net_handOver 47 = .ok (.ifCond .ne 14, 3) := by decide +kernel
theorem d_Net_handOver_50 : decode b_Net_handOver 50 = .ok (.aload_n 0, 1) := by decide +kernel
theorem d_Net_handOver_51 : decode b_Net_handOver 51 = .ok (.getfield 43, 3) := by decide +kernel
theorem d_Net_handOver_54 : decode b_Net_handOver 54 = .ok (.aload_n 1, 1) := by decide +kernel
theorem d_Net_handOver_55 : decode b_Net_handOver 55 = .ok (.invokevirtual 190, 3) := by decide +kernel
theorem d_Net_handOver_58 : decode b_Net_handOver 58 = .ok (.goto 18, 3) := by decide +kernel
theorem d_Net_handOver_61 : decode b_Net_handOver 61 = .ok (.aload_n 0, 1) := by decide +kernel
theorem d_Net_handOver_62 : decode b_Net_handOver 62 = .ok (.getfield 49, 3) := by decide +kernel
theorem d_Net_handOver_65 : decode b_Net_handOver 65 = .ok (.aload_n 1, 1) := by decide +kernel
theorem d_Net_handOver_66 : decode b_Net_handOver 66 = .ok (.getfield 180, 3) := by decide +kernel
theorem d_Net_handOver_69 : decode b_Net_handOver 69 = .ok (.iconst 1, 1) := by decide +kernel
theorem d_Net_handOver_70 : decode b_Net_handOver 70 = .ok (.isub, 1) := by decide +kernel
theorem d_Net_handOver_71 : decode b_Net_handOver 71 = .ok (.aaload, 1) := by decide +kernel
theorem d_Net_handOver_72 : decode b_Net_handOver 72 = .ok (.aload_n 1, 1) := by decide +kernel
theorem d_Net_handOver_73 : decode b_Net_handOver 73 = .ok (.invokevirtual 191, 3) := by decide +kernel
theorem d_Net_handOver_76 : decode b_Net_handOver 76 = .ok (.return_, 1) := by decide +kernel
theorem d_Net_deliver_0 : decode b_Net_deliver 0 = .ok (.aload_n 0, 1) := by decide +kernel
theorem d_Net_deliver_1 : decode b_Net_deliver 1 = .ok (.getfield 18, 3) := by decide +kernel
theorem d_Net_deliver_4 : decode b_Net_deliver 4 = .ok (.iload_n 1, 1) := by decide +kernel
theorem d_Net_deliver_5 : decode b_Net_deliver 5 = .ok (.invokevirtual 88, 3) := by decide +kernel
theorem d_Net_deliver_8 : decode b_Net_deliver 8 = .ok (.ifCond .ne 5, 3) := by decide +kernel
theorem d_Net_deliver_11 : decode b_Net_deliver 11 = .ok (.iconst 0, 1) := by decide +kernel
theorem d_Net_deliver_12 : decode b_Net_deliver 12 = .ok (.ireturn, 1) := by decide +kernel
theorem d_Net_deliver_13 : decode b_Net_deliver 13 = .ok (.aload_n 0, 1) := by decide +kernel
theorem d_Net_deliver_14 : decode b_Net_deliver 14 = .ok (.getfield 25, 3) := by decide +kernel
theorem d_Net_deliver_17 : decode b_Net_deliver 17 = .ok (.aload_n 0, 1) := by decide +kernel
theorem d_Net_deliver_18 : decode b_Net_deliver 18 = .ok (.getfield 18, 3) := by decide +kernel
theorem d_Net_deliver_21 : decode b_Net_deliver 21 = .ok (.getfield 91, 3) := by decide +kernel
theorem d_Net_deliver_24 : decode b_Net_deliver 24 = .ok (.iload_n 1, 1) := by decide +kernel
theorem d_Net_deliver_25 : decode b_Net_deliver 25 = .ok (.aaload, 1) := by decide +kernel
theorem d_Net_deliver_26 : decode b_Net_deliver 26 = .ok (.invokevirtual 95, 3) := by decide +kernel
theorem d_Net_deliver_29 : decode b_Net_deliver 29 = .ok (.aload_n 0, 1) := by decide +kernel
theorem d_Net_deliver_30 : decode b_Net_deliver 30 = .ok (.getfield 18, 3) := by decide +kernel
theorem d_Net_deliver_33 : decode b_Net_deliver 33 = .ok (.iload_n 1, 1) := by decide +kernel
theorem d_Net_deliver_34 : decode b_Net_deliver 34 = .ok (.invokevirtual 99, 3) := by decide +kernel
theorem d_Net_deliver_37 : decode b_Net_deliver 37 = .ok (.aload_n 0, 1) := by decide +kernel
theorem d_Net_deliver_38 : decode b_Net_deliver 38 = .ok (.aload_n 0, 1) := by decide +kernel
theorem d_Net_deliver_39 : decode b_Net_deliver 39 = .ok (.getfield 25, 3) := by decide +kernel
theorem d_Net_deliver_42 : decode b_Net_deliver 42 = .ok (.invokevirtual 102, 3) := by decide +kernel
theorem d_Net_deliver_45 : decode b_Net_deliver 45 = .ok (.iconst 1, 1) := by decide +kernel
theorem d_Net_deliver_46 : decode b_Net_deliver 46 = .ok (.ireturn, 1) := by decide +kernel
theorem d_Net_drop_0 : decode b_Net_drop 0 = .ok (.aload_n 0, 1) := by decide +kernel
theorem d_Net_drop_1 : decode b_Net_drop 1 = .ok (.getfield 18, 3) := by decide +kernel
theorem d_Net_drop_4 : decode b_Net_drop 4 = .ok (.iload_n 1, 1) := by decide +kernel
theorem d_Net_drop_5 : decode b_Net_drop 5 = .ok (.invokevirtual 88, 3) := by decide +kernel
theorem d_Net_drop_8 : decode b_Net_drop 8 = .ok (.ifCond .ne 5, 3) := by decide +kernel
theorem d_Net_drop_11 : decode b_Net_drop 11 = .ok (.iconst 0, 1) := by decide +kernel
theorem d_Net_drop_12 : decode b_Net_drop 12 = .ok (.ireturn, 1) := by decide +kernel
theorem d_Net_drop_13 : decode b_Net_drop 13 = .ok (.aload_n 0, 1) := by decide +kernel
theorem d_Net_drop_14 : decode b_Net_drop 14 = .ok (.getfield 18, 3) := by decide +kernel
theorem d_Net_drop_17 : decode b_Net_drop 17 = .ok (.iload_n 1, 1) := by decide +kernel
theorem d_Net_drop_18 : decode b_Net_drop 18 = .ok (.invokevirtual 99, 3) := by decide +kernel
theorem d_Net_drop_21 : decode b_Net_drop 21 = .ok (.iconst 1, 1) := by decide +kernel
theorem d_Net_drop_22 : decode b_Net_drop 22 = .ok (.ireturn, 1) := by decide +kernel
theorem d_Net_duplicate_0 : decode b_Net_duplicate 0 = .ok (.aload_n 0, 1) := by decide +kernel
theorem d_Net_duplicate_1 : decode b_Net_duplicate 1 = .ok (.getfield 18, 3) := by decide +kernel
theorem d_Net_duplicate_4 : decode b_Net_duplicate 4 = .ok (.iload_n 1, 1) := by decide +kernel
theorem d_Net_duplicate_5 : decode b_Net_duplicate 5 = .ok (.invokevirtual 88, 3) := by decide +kernel
theorem d_Net_duplicate_8 : decode b_Net_duplicate 8 = .ok (.ifCond .eq 13, 3) := by decide +kernel
theorem d_Net_duplicate_11 : decode b_Net_duplicate 11 = .ok (.aload_n 0, 1) := by decide +kernel
theorem d_Net_duplicate_12 : decode b_Net_duplicate 12 = .ok (.getfield 18, 3) := by decide +kernel
theorem d_Net_duplicate_15 : decode b_Net_duplicate 15 = .ok (.invokevirtual 105, 3) := by decide +kernel
theorem d_Net_duplicate_18 : decode b_Net_duplicate 18 = .ok (.ifCond .eq 5, 3) := by decide +kernel
theorem d_Net_duplicate_21 : decode b_Net_duplicate 21 = .ok (.iconst 0, 1) := by decide +kernel
theorem d_Net_duplicate_22 : decode b_Net_duplicate 22 = .ok (.ireturn, 1) := by decide +kernel
theorem d_Net_duplicate_23 : decode b_Net_duplicate 23 = .ok (.aload_n 0, 1) := by decide +kernel
theorem d_Net_duplicate_24 : decode b_Net_duplicate 24 = .ok (.getfield 18, 3) := by decide +kernel
theorem d_Net_duplicate_27 : decode b_Net_duplicate 27 = .ok (.invokevirtual 109, 3) := by decide +kernel
theorem d_Net_duplicate_30 : decode b_Net_duplicate 30 = .ok (.aload_n 0, 1) := by decide +kernel
theorem d_Net_duplicate_31 : decode b_Net_duplicate 31 = .ok (.getfield 18, 3) := by decide +kernel
theorem d_Net_duplicate_34 : decode b_Net_duplicate 34 = .ok (.getfield 91, 3) := by decide +kernel
theorem d_Net_duplicate_37 : decode b_Net_duplicate 37 = .ok (.iload_n 1, 1) := by decide +kernel
theorem d_Net_duplicate_38 : decode b_Net_duplicate 38 = .ok (.aaload, 1) := by decide +kernel
theorem d_Net_duplicate_39 : decode b_Net_duplicate 39 = .ok (.invokevirtual 95, 3) := by decide +kernel
theorem d_Net_duplicate_42 : decode b_Net_duplicate 42 = .ok (.iconst 1, 1) := by decide +kernel
theorem d_Net_duplicate_43 : decode b_Net_duplicate 43 = .ok (.ireturn, 1) := by decide +kernel
theorem d_Net_inject_0 : decode b_Net_inject 0 = .ok (.iload_n 1, 1) := by decide +kernel
theorem d_Net_inject_1 : decode b_Net_inject 1 = .ok (.invokestatic 113, 3) := by decide +kernel
theorem d_Net_inject_4 : decode b_Net_inject 4 = .ok (.ifCond .eq 17, 3) := by decide +kernel
theorem d_Net_inject_7 : decode b_Net_inject 7 = .ok (.iload_n 2, 1) := by decide +kernel
theorem d_Net_inject_8 : decode b_Net_inject 8 = .ok (.invokestatic 63, 3) := by decide +kernel
theorem d_Net_inject_11 : decode b_Net_inject 11 = .ok (.ifCond .eq 10, 3) := by decide +kernel
theorem d_Net_inject_14 : decode b_Net_inject 14 = .ok (.iload_n 3, 1) := by decide +kernel
theorem d_Net_inject_15 : decode b_Net_inject 15 = .ok (.invokestatic 113, 3) := by decide +kernel
theorem d_Net_inject_18 : decode b_Net_inject 18 = .ok (.ifCond .ne 5, 3) := by decide +kernel
theorem d_Net_inject_21 : decode b_Net_inject 21 = .ok (.iconst 0, 1) := by decide +kernel
theorem d_Net_inject_22 : decode b_Net_inject 22 = .ok (.ireturn, 1) := by decide +kernel
theorem d_Net_inject_23 : decode b_Net_inject 23 = .ok (.iload 4, 2) := by decide +kernel
theorem d_Net_inject_25 : decode b_Net_inject 25 = .ok (.iconst 0, 1) := by decide +kernel
theorem d_Net_inject_26 : decode b_Net_inject 26 = .ok (.bipush 60, 2) := by decide +kernel
theorem d_Net_inject_28 : decode b_Net_inject 28 = .ok (.invokestatic 11, 3) := by decide +kernel
theorem d_Net_inject_31 : decode b_Net_inject 31 = .ok (.ifCond .eq 15, 3) := by decide +kernel
theorem d_Net_inject_34 : decode b_Net_inject 34 = .ok (.iload 5, 2) := by decide +kernel
theorem d_Net_inject_36 : decode b_Net_inject 36 = .ok (.iconst 1, 1) := by decide +kernel
theorem d_Net_inject_37 : decode b_Net_inject 37 = .ok (.sipush 9999, 3) := by decide +kernel
theorem d_Net_inject_40 : decode b_Net_inject 40 = .ok (.invokestatic 11, 3) := by decide +kernel
theorem d_Net_inject_43 : decode b_Net_inject 43 = .ok (.ifCond .ne 5, 3) := by decide +kernel
theorem d_Net_inject_46 : decode b_Net_inject 46 = .ok (.iconst 0, 1) := by decide +kernel
theorem d_Net_inject_47 : decode b_Net_inject 47 = .ok (.ireturn, 1) := by decide +kernel
theorem d_Net_inject_48 : decode b_Net_inject 48 = .ok (.iload_n 3, 1) := by decide +kernel
theorem d_Net_inject_49 : decode b_Net_inject 49 = .ok (.ifCond .ne 7, 3) := by decide +kernel
theorem d_Net_inject_52 : decode b_Net_inject 52 = .ok (.iconst 1, 1) := by decide +kernel
theorem d_Net_inject_53 : decode b_Net_inject 53 = .ok (.goto 4, 3) := by decide +kernel
theorem d_Net_inject_56 : decode b_Net_inject 56 = .ok (.iconst 0, 1) := by decide +kernel
theorem d_Net_inject_57 : decode b_Net_inject 57 = .ok (.iload 4, 2) := by decide +kernel
theorem d_Net_inject_59 : decode b_Net_inject 59 = .ok (.ifCond .ne 7, 3) := by decide +kernel
theorem d_Net_inject_62 : decode b_Net_inject 62 = .ok (.iconst 1, 1) := by decide +kernel
theorem d_Net_inject_63 : decode b_Net_inject 63 = .ok (.goto 4, 3) := by decide +kernel
theorem d_Net_inject_66 : decode b_Net_inject 66 = .ok (.iconst 0, 1) := by decide +kernel
theorem d_Net_inject_67 : decode b_Net_inject 67 = .ok (.if_icmp .ne 13, 3) := by decide +kernel
theorem d_Net_inject_70 : decode b_Net_inject 70 = .ok (.aload_n 0, 1) := by decide +kernel
theorem d_Net_inject_71 : decode b_Net_inject 71 = .ok (.getfield 18, 3) := by decide +kernel
theorem d_Net_inject_74 : decode b_Net_inject 74 = .ok (.invokevirtual 105, 3) := by decide +kernel
theorem d_Net_inject_77 : decode b_Net_inject 77 = .ok (.ifCond .eq 5, 3) := by decide +kernel
theorem d_Net_inject_80 : decode b_Net_inject 80 = .ok (.iconst 0, 1) := by decide +kernel
theorem d_Net_inject_81 : decode b_Net_inject 81 = .ok (.ireturn, 1) := by decide +kernel
theorem d_Net_inject_82 : decode b_Net_inject 82 = .ok (.aload_n 0, 1) := by decide +kernel
theorem d_Net_inject_83 : decode b_Net_inject 83 = .ok (.getfield 18, 3) := by decide +kernel
theorem d_Net_inject_86 : decode b_Net_inject 86 = .ok (.iload_n 1, 1) := by decide +kernel
theorem d_Net_inject_87 : decode b_Net_inject 87 = .ok (.iconst 2, 1) := by decide +kernel
theorem d_Net_inject_88 : decode b_Net_inject 88 = .ok (.iload_n 2, 1) := by decide +kernel
theorem d_Net_inject_89 : decode b_Net_inject 89 = .ok (.iload 5, 2) := by decide +kernel
theorem d_Net_inject_91 : decode b_Net_inject 91 = .ok (.invokevirtual 116, 3) := by decide +kernel
theorem d_Net_inject_94 : decode b_Net_inject 94 = .ok (.astore 7, 2) := by decide +kernel
theorem d_Net_inject_96 : decode b_Net_inject 96 = .ok (.aload 7, 2) := by decide +kernel
theorem d_Net_inject_98 : decode b_Net_inject 98 = .ok (.iload_n 3, 1) := by decide +kernel
theorem d_Net_inject_99 : decode b_Net_inject 99 = .ok (.putfield 120, 3) := by decide +kernel
theorem d_Net_inject_102 : decode b_Net_inject 102 = .ok (.aload 7, 2) := by decide +kernel
theorem d_Net_inject_104 : decode b_Net_inject 104 = .ok (.iload 4, 2) := by decide +kernel
theorem d_Net_inject_106 : decode b_Net_inject 106 = .ok (.putfield 123, 3) := by decide +kernel
theorem d_Net_inject_109 : decode b_Net_inject 109 = .ok (.aload 7, 2) := by decide +kernel
theorem d_Net_inject_111 : decode b_Net_inject 111 = .ok (.iload 6, 2) := by decide +kernel
theorem d_Net_inject_113 : decode b_Net_inject 113 = .ok (.putfield 126, 3) := by decide +kernel
theorem d_Net_inject_116 : decode b_Net_inject 116 = .ok (.iconst 1, 1) := by decide +kernel
theorem d_Net_inject_117 : decode b_Net_inject 117 = .ok (.ireturn, 1) := by decide +kernel
theorem d_Net_messages_0 : decode b_Net_messages 0 = .ok (.aload_n 0, 1) := by decide +kernel
theorem d_Net_messages_1 : decode b_Net_messages 1 = .ok (.getfield 18, 3) := by decide +kernel
theorem d_Net_messages_4 : decode b_Net_messages 4 = .ok (.getfield 129, 3) := by decide +kernel
theorem d_Net_messages_7 : decode b_Net_messages 7 = .ok (.ireturn, 1) := by decide +kernel
theorem d_Net_message_0 : decode b_Net_message 0 = .ok (.aload_n 0, 1) := by decide +kernel
theorem d_Net_message_1 : decode b_Net_message 1 = .ok (.getfield 18, 3) := by decide +kernel
theorem d_Net_message_4 : decode b_Net_message 4 = .ok (.iload_n 1, 1) := by decide +kernel
theorem d_Net_message_5 : decode b_Net_message 5 = .ok (.invokevirtual 88, 3) := by decide +kernel
theorem d_Net_message_8 : decode b_Net_message 8 = .ok (.ifCond .eq 18, 3) := by decide +kernel
theorem d_Net_message_11 : decode b_Net_message 11 = .ok (.aload_n 0, 1) := by decide +kernel
theorem d_Net_message_12 : decode b_Net_message 12 = .ok (.getfield 18, 3) := by decide +kernel
theorem d_Net_message_15 : decode b_Net_message 15 = .ok (.getfield 91, 3) := by decide +kernel
theorem d_Net_message_18 : decode b_Net_message 18 = .ok (.iload_n 1, 1) := by decide +kernel
theorem d_Net_message_19 : decode b_Net_message 19 = .ok (.aaload, 1) := by decide +kernel
theorem d_Net_message_20 : decode b_Net_message 20 = .ok (.invokevirtual 132, 3) := by decide +kernel
theorem d_Net_message_23 : decode b_Net_message 23 = .ok (.goto 4, 3) := by decide +kernel
theorem d_Net_message_26 : decode b_Net_message 26 = .ok (.iconst (-1), 1) := by decide +kernel
theorem d_Net_message_27 : decode b_Net_message 27 = .ok (.ireturn, 1) := by decide +kernel
theorem d_Net_place_0 : decode b_Net_place 0 = .ok (.iload_n 1, 1) := by decide +kernel
theorem d_Net_place_1 : decode b_Net_place 1 = .ok (.invokestatic 63, 3) := by decide +kernel
theorem d_Net_place_4 : decode b_Net_place 4 = .ok (.ifCond .eq 15, 3) := by decide +kernel
theorem d_Net_place_7 : decode b_Net_place 7 = .ok (.aload_n 0, 1) := by decide +kernel
theorem d_Net_place_8 : decode b_Net_place 8 = .ok (.getfield 31, 3) := by decide +kernel
theorem d_Net_place_11 : decode b_Net_place 11 = .ok (.iload_n 1, 1) := by decide +kernel
theorem d_Net_place_12 : decode b_Net_place 12 = .ok (.aaload, 1) := by decide +kernel
theorem d_Net_place_13 : decode b_Net_place 13 = .ok (.getfield 75, 3) := by decide +kernel
theorem d_Net_place_16 : decode b_Net_place 16 = .ok (.goto 4, 3) := by decide +kernel
theorem d_Net_place_19 : decode b_Net_place 19 = .ok (.iconst (-1), 1) := by decide +kernel
theorem d_Net_place_20 : decode b_Net_place 20 = .ok (.ireturn, 1) := by decide +kernel
theorem d_Net_registered_0 : decode b_Net_registered 0 = .ok (.iload_n 1, 1) := by decide +kernel
theorem d_Net_registered_1 : decode b_Net_registered 1 = .ok (.invokestatic 63, 3) := by decide +kernel
theorem d_Net_registered_4 : decode b_Net_registered 4 = .ok (.ifCond .eq 15, 3) := by decide +kernel
theorem d_Net_registered_7 : decode b_Net_registered 7 = .ok (.aload_n 0, 1) := by decide +kernel
theorem d_Net_registered_8 : decode b_Net_registered 8 = .ok (.getfield 31, 3) := by decide +kernel
theorem d_Net_registered_11 : decode b_Net_registered 11 = .ok (.iload_n 1, 1) := by decide +kernel
theorem d_Net_registered_12 : decode b_Net_registered 12 = .ok (.aaload, 1) := by decide +kernel
theorem d_Net_registered_13 : decode b_Net_registered 13 = .ok (.getfield 136, 3) := by decide +kernel
theorem d_Net_registered_16 : decode b_Net_registered 16 = .ok (.goto 4, 3) := by decide +kernel
theorem d_Net_registered_19 : decode b_Net_registered 19 = .ok (.iconst (-1), 1) := by decide +kernel
theorem d_Net_registered_20 : decode b_Net_registered 20 = .ok (.ireturn, 1) := by decide +kernel
theorem d_Net_open_0 : decode b_Net_open 0 = .ok (.iload_n 1, 1) := by decide +kernel
theorem d_Net_open_1 : decode b_Net_open 1 = .ok (.invokestatic 63, 3) := by decide +kernel
theorem d_Net_open_4 : decode b_Net_open 4 = .ok (.ifCond .eq 15, 3) := by decide +kernel
theorem d_Net_open_7 : decode b_Net_open 7 = .ok (.aload_n 0, 1) := by decide +kernel
theorem d_Net_open_8 : decode b_Net_open 8 = .ok (.getfield 31, 3) := by decide +kernel
theorem d_Net_open_11 : decode b_Net_open 11 = .ok (.iload_n 1, 1) := by decide +kernel
theorem d_Net_open_12 : decode b_Net_open 12 = .ok (.aaload, 1) := by decide +kernel
theorem d_Net_open_13 : decode b_Net_open 13 = .ok (.getfield 139, 3) := by decide +kernel
theorem d_Net_open_16 : decode b_Net_open 16 = .ok (.goto 4, 3) := by decide +kernel
theorem d_Net_open_19 : decode b_Net_open 19 = .ok (.iconst 0, 1) := by decide +kernel
theorem d_Net_open_20 : decode b_Net_open 20 = .ok (.ireturn, 1) := by decide +kernel
theorem d_Net_binding_0 : decode b_Net_binding 0 = .ok (.iload_n 1, 1) := by decide +kernel
theorem d_Net_binding_1 : decode b_Net_binding 1 = .ok (.invokestatic 63, 3) := by decide +kernel
theorem d_Net_binding_4 : decode b_Net_binding 4 = .ok (.ifCond .eq 14, 3) := by decide +kernel
theorem d_Net_binding_7 : decode b_Net_binding 7 = .ok (.aload_n 0, 1) := by decide +kernel
theorem d_Net_binding_8 : decode b_Net_binding 8 = .ok (.getfield 43, 3) := by decide +kernel
theorem d_Net_binding_11 : decode b_Net_binding 11 = .ok (.iload_n 1, 1) := by decide +kernel
theorem d_Net_binding_12 : decode b_Net_binding 12 = .ok (.invokevirtual 142, 3) := by decide +kernel
theorem d_Net_binding_15 : decode b_Net_binding 15 = .ok (.ifCond .ne 5, 3) := by decide +kernel
theorem d_Net_binding_18 : decode b_Net_binding 18 = .ok (.iconst 0, 1) := by decide +kernel
theorem d_Net_binding_19 : decode b_Net_binding 19 = .ok (.ireturn, 1) := by decide +kernel
theorem d_Net_binding_20 : decode b_Net_binding 20 = .ok (.bipush 100, 2) := by decide +kernel
theorem d_Net_binding_22 : decode b_Net_binding 22 = .ok (.aload_n 0, 1) := by decide +kernel
theorem d_Net_binding_23 : decode b_Net_binding 23 = .ok (.getfield 43, 3) := by decide +kernel
theorem d_Net_binding_26 : decode b_Net_binding 26 = .ok (.getfield 145, 3) := by decide +kernel
theorem d_Net_binding_29 : decode b_Net_binding 29 = .ok (.iload_n 1, 1) := by decide +kernel
theorem d_Net_binding_30 : decode b_Net_binding 30 = .ok (.iaload, 1) := by decide +kernel
theorem d_Net_binding_31 : decode b_Net_binding 31 = .ok (.imul, 1) := by decide +kernel
theorem d_Net_binding_32 : decode b_Net_binding 32 = .ok (.aload_n 0, 1) := by decide +kernel
theorem d_Net_binding_33 : decode b_Net_binding 33 = .ok (.getfield 43, 3) := by decide +kernel
theorem d_Net_binding_36 : decode b_Net_binding 36 = .ok (.getfield 147, 3) := by decide +kernel
theorem d_Net_binding_39 : decode b_Net_binding 39 = .ok (.iload_n 1, 1) := by decide +kernel
theorem d_Net_binding_40 : decode b_Net_binding 40 = .ok (.iaload, 1) := by decide +kernel
theorem d_Net_binding_41 : decode b_Net_binding 41 = .ok (.iadd, 1) := by decide +kernel
theorem d_Net_binding_42 : decode b_Net_binding 42 = .ok (.aload_n 0, 1) := by decide +kernel
theorem d_Net_binding_43 : decode b_Net_binding 43 = .ok (.getfield 18, 3) := by decide +kernel
theorem d_Net_binding_46 : decode b_Net_binding 46 = .ok (.getfield 150, 3) := by decide +kernel
theorem d_Net_binding_49 : decode b_Net_binding 49 = .ok (.isub, 1) := by decide +kernel
theorem d_Net_binding_50 : decode b_Net_binding 50 = .ok (.ireturn, 1) := by decide +kernel
theorem d_Net_visit_0 : decode b_Net_visit 0 = .ok (.iload_n 1, 1) := by decide +kernel
theorem d_Net_visit_1 : decode b_Net_visit 1 = .ok (.invokestatic 113, 3) := by decide +kernel
theorem d_Net_visit_4 : decode b_Net_visit 4 = .ok (.ifCond .eq 14, 3) := by decide +kernel
theorem d_Net_visit_7 : decode b_Net_visit 7 = .ok (.iload_n 1, 1) := by decide +kernel
theorem d_Net_visit_8 : decode b_Net_visit 8 = .ok (.ifCond .eq 10, 3) := by decide +kernel
theorem d_Net_visit_11 : decode b_Net_visit 11 = .ok (.iload_n 2, 1) := by decide +kernel
theorem d_Net_visit_12 : decode b_Net_visit 12 = .ok (.invokestatic 63, 3) := by decide +kernel
theorem d_Net_visit_15 : decode b_Net_visit 15 = .ok (.ifCond .ne 5, 3) := by decide +kernel
theorem d_Net_visit_18 : decode b_Net_visit 18 = .ok (.iconst 0, 1) := by decide +kernel
theorem d_Net_visit_19 : decode b_Net_visit 19 = .ok (.ireturn, 1) := by decide +kernel
theorem d_Net_visit_20 : decode b_Net_visit 20 = .ok (.aload_n 0, 1) := by decide +kernel
theorem d_Net_visit_21 : decode b_Net_visit 21 = .ok (.getfield 49, 3) := by decide +kernel
theorem d_Net_visit_24 : decode b_Net_visit 24 = .ok (.iload_n 1, 1) := by decide +kernel
theorem d_Net_visit_25 : decode b_Net_visit 25 = .ok (.iconst 1, 1) := by decide +kernel
theorem d_Net_visit_26 : decode b_Net_visit 26 = .ok (.isub, 1) := by decide +kernel
theorem d_Net_visit_27 : decode b_Net_visit 27 = .ok (.aaload, 1) := by decide +kernel
theorem d_Net_visit_28 : decode b_Net_visit 28 = .ok (.astore_n 3, 1) := by decide +kernel
theorem d_Net_visit_29 : decode b_Net_visit 29 = .ok (.aload_n 3, 1) := by decide +kernel
theorem d_Net_visit_30 : decode b_Net_visit 30 = .ok (.iload_n 2, 1) := by decide +kernel
theorem d_Net_visit_31 : decode b_Net_visit 31 = .ok (.invokevirtual 153, 3) := by decide +kernel
theorem d_Net_visit_34 : decode b_Net_visit 34 = .ok (.ifCond .eq 20, 3) := by decide +kernel
theorem d_Net_visit_37 : decode b_Net_visit 37 = .ok (.aload_n 3, 1) := by decide +kernel
theorem d_Net_visit_38 : decode b_Net_visit 38 = .ok (.getfield 156, 3) := by decide +kernel
theorem d_Net_visit_41 : decode b_Net_visit 41 = .ok (.iload_n 2, 1) := by decide +kernel
theorem d_Net_visit_42 : decode b_Net_visit 42 = .ok (.iaload, 1) := by decide +kernel
theorem d_Net_visit_43 : decode b_Net_visit 43 = .ok (.aload_n 0, 1) := by decide +kernel
theorem d_Net_visit_44 : decode b_Net_visit 44 = .ok (.getfield 18, 3) := by decide +kernel
theorem d_Net_visit_47 : decode b_Net_visit 47 = .ok (.getfield 150, 3) := by decide +kernel
theorem d_Net_visit_50 : decode b_Net_visit 50 = .ok (.isub, 1) := by decide +kernel
theorem d_Net_visit_51 : decode b_Net_visit 51 = .ok (.goto 4, 3) := by decide +kernel
theorem d_Net_visit_54 : decode b_Net_visit 54 = .ok (.iconst 0, 1) := by decide +kernel
theorem d_Net_visit_55 : decode b_Net_visit 55 = .ok (.ireturn, 1) := by decide +kernel
theorem d_Net_count_0 : decode b_Net_count 0 = .ok (.iload_n 2, 1) := by decide +kernel
theorem d_Net_count_1 : decode b_Net_count 1 = .ok (.invokestatic 63, 3) := by decide +kernel
theorem d_Net_count_4 : decode b_Net_count 4 = .ok (.ifCond .ne 5, 3) := by decide +kernel
theorem d_Net_count_7 : decode b_Net_count 7 = .ok (.iconst (-1), 1) := by decide +kernel
theorem d_Net_count_8 : decode b_Net_count 8 = .ok (.ireturn, 1) := by decide +kernel
theorem d_Net_count_9 : decode b_Net_count 9 = .ok (.iload_n 1, 1) := by decide +kernel
theorem d_Net_count_10 : decode b_Net_count 10 = .ok (.tableswitch 70 0 3 #[30, 40, 50, 60], 30) := by decide +kernel
theorem d_Net_count_40 : decode b_Net_count 40 = .ok (.aload_n 0, 1) := by decide +kernel
theorem d_Net_count_41 : decode b_Net_count 41 = .ok (.getfield 31, 3) := by decide +kernel
theorem d_Net_count_44 : decode b_Net_count 44 = .ok (.iload_n 2, 1) := by decide +kernel
theorem d_Net_count_45 : decode b_Net_count 45 = .ok (.aaload, 1) := by decide +kernel
theorem d_Net_count_46 : decode b_Net_count 46 = .ok (.getfield 159, 3) := by decide +kernel
theorem d_Net_count_49 : decode b_Net_count 49 = .ok (.ireturn, 1) := by decide +kernel
theorem d_Net_count_50 : decode b_Net_count 50 = .ok (.aload_n 0, 1) := by decide +kernel
theorem d_Net_count_51 : decode b_Net_count 51 = .ok (.getfield 59, 3) := by decide +kernel
theorem d_Net_count_54 : decode b_Net_count 54 = .ok (.getfield 162, 3) := by decide +kernel
theorem d_Net_count_57 : decode b_Net_count 57 = .ok (.iload_n 2, 1) := by decide +kernel
theorem d_Net_count_58 : decode b_Net_count 58 = .ok (.iaload, 1) := by decide +kernel
theorem d_Net_count_59 : decode b_Net_count 59 = .ok (.ireturn, 1) := by decide +kernel
theorem d_Net_count_60 : decode b_Net_count 60 = .ok (.aload_n 0, 1) := by decide +kernel
theorem d_Net_count_61 : decode b_Net_count 61 = .ok (.getfield 59, 3) := by decide +kernel
theorem d_Net_count_64 : decode b_Net_count 64 = .ok (.getfield 165, 3) := by decide +kernel
theorem d_Net_count_67 : decode b_Net_count 67 = .ok (.iload_n 2, 1) := by decide +kernel
theorem d_Net_count_68 : decode b_Net_count 68 = .ok (.iaload, 1) := by decide +kernel
theorem d_Net_count_69 : decode b_Net_count 69 = .ok (.ireturn, 1) := by decide +kernel
theorem d_Net_count_70 : decode b_Net_count 70 = .ok (.aload_n 0, 1) := by decide +kernel
theorem d_Net_count_71 : decode b_Net_count 71 = .ok (.getfield 59, 3) := by decide +kernel
theorem d_Net_count_74 : decode b_Net_count 74 = .ok (.getfield 81, 3) := by decide +kernel
theorem d_Net_count_77 : decode b_Net_count 77 = .ok (.iload_n 2, 1) := by decide +kernel
theorem d_Net_count_78 : decode b_Net_count 78 = .ok (.iaload, 1) := by decide +kernel
theorem d_Net_count_79 : decode b_Net_count 79 = .ok (.ireturn, 1) := by decide +kernel
theorem d_Net_count_80 : decode b_Net_count 80 = .ok (.iconst (-1), 1) := by decide +kernel
theorem d_Net_count_81 : decode b_Net_count 81 = .ok (.ireturn, 1) := by decide +kernel
theorem d_Net_advertise_0 : decode b_Net_advertise 0 = .ok (.iconst 0, 1) := by decide +kernel
theorem d_Net_advertise_1 : decode b_Net_advertise 1 = .ok (.istore_n 2, 1) := by decide +kernel
theorem d_Net_advertise_2 : decode b_Net_advertise 2 = .ok (.iload_n 2, 1) := by decide +kernel
theorem d_Net_advertise_3 : decode b_Net_advertise 3 = .ok (.iconst 2, 1) := by decide +kernel
theorem d_Net_advertise_4 : decode b_Net_advertise 4 = .ok (.if_icmp .ge 34, 3) := by decide +kernel
theorem d_Net_advertise_7 : decode b_Net_advertise 7 = .ok (.aload_n 0, 1) := by decide +kernel
theorem d_Net_advertise_8 : decode b_Net_advertise 8 = .ok (.getfield 31, 3) := by decide +kernel
theorem d_Net_advertise_11 : decode b_Net_advertise 11 = .ok (.iload_n 2, 1) := by decide +kernel
theorem d_Net_advertise_12 : decode b_Net_advertise 12 = .ok (.aaload, 1) := by decide +kernel
theorem d_Net_advertise_13 : decode b_Net_advertise 13 = .ok (.getfield 75, 3) := by decide +kernel
theorem d_Net_advertise_16 : decode b_Net_advertise 16 = .ok (.iload_n 1, 1) := by decide +kernel
theorem d_Net_advertise_17 : decode b_Net_advertise 17 = .ok (.if_icmp .ne 15, 3) := by decide +kernel
theorem d_Net_advertise_20 : decode b_Net_advertise 20 = .ok (.aload_n 0, 1) := by decide +kernel
theorem d_Net_advertise_21 : decode b_Net_advertise 21 = .ok (.getfield 18, 3) := by decide +kernel
theorem d_Net_advertise_24 : decode b_Net_advertise 24 = .ok (.iload_n 1, 1) := by decide +kernel
theorem d_Net_advertise_25 : decode b_Net_advertise 25 = .ok (.iconst 1, 1) := by decide +kernel
theorem d_Net_advertise_26 : decode b_Net_advertise 26 = .ok (.iload_n 2, 1) := by decide +kernel
theorem d_Net_advertise_27 : decode b_Net_advertise 27 = .ok (.iload_n 1, 1) := by decide +kernel
theorem d_Net_advertise_28 : decode b_Net_advertise 28 = .ok (.invokevirtual 177, 3) := by decide +kernel
theorem d_Net_advertise_31 : decode b_Net_advertise 31 = .ok (.pop, 1) := by decide +kernel
theorem d_Net_advertise_32 : decode b_Net_advertise 32 = .ok (.iinc 2 1, 3) := by decide +kernel
theorem d_Net_advertise_35 : decode b_Net_advertise 35 = .ok (.goto (-33), 3) := by decide +kernel
theorem d_Net_advertise_38 : decode b_Net_advertise 38 = .ok (.return_, 1) := by decide +kernel
theorem d_Net_passOneTick_0 : decode b_Net_passOneTick 0 = .ok (.aload_n 0, 1) := by decide +kernel
theorem d_Net_passOneTick_1 : decode b_Net_passOneTick 1 = .ok (.getfield 18, 3) := by decide +kernel
theorem d_Net_passOneTick_4 : decode b_Net_passOneTick 4 = .ok (.dup, 1) := by decide +kernel
theorem d_Net_passOneTick_5 : decode b_Net_passOneTick 5 = .ok (.getfield 150, 3) := by decide +kernel
theorem d_Net_passOneTick_8 : decode b_Net_passOneTick 8 = .ok (.iconst 1, 1) := by decide +kernel
theorem d_Net_passOneTick_9 : decode b_Net_passOneTick 9 = .ok (.iadd, 1) := by decide +kernel
theorem d_Net_passOneTick_10 : decode b_Net_passOneTick 10 = .ok (.putfield 150, 3) := by decide +kernel
theorem d_Net_passOneTick_13 : decode b_Net_passOneTick 13 = .ok (.aload_n 0, 1) := by decide +kernel
theorem d_Net_passOneTick_14 : decode b_Net_passOneTick 14 = .ok (.getfield 18, 3) := by decide +kernel
theorem d_Net_passOneTick_17 : decode b_Net_passOneTick 17 = .ok (.getfield 150, 3) := by decide +kernel
theorem d_Net_passOneTick_20 : decode b_Net_passOneTick 20 = .ok (.iconst 4, 1) := by decide +kernel
theorem d_Net_passOneTick_21 : decode b_Net_passOneTick 21 = .ok (.irem, 1) := by decide +kernel
theorem d_Net_passOneTick_22 : decode b_Net_passOneTick 22 = .ok (.ifCond .ne 21, 3) := by decide +kernel
theorem d_Net_passOneTick_25 : decode b_Net_passOneTick 25 = .ok (.iconst 0, 1) := by decide +kernel
theorem d_Net_passOneTick_26 : decode b_Net_passOneTick 26 = .ok (.istore_n 1, 1) := by decide +kernel
theorem d_Net_passOneTick_27 : decode b_Net_passOneTick 27 = .ok (.iload_n 1, 1) := by decide +kernel
theorem d_Net_passOneTick_28 : decode b_Net_passOneTick 28 = .ok (.iconst 4, 1) := by decide +kernel
theorem d_Net_passOneTick_29 : decode b_Net_passOneTick 29 = .ok (.if_icmp .ge 14, 3) := by decide +kernel
theorem d_Net_passOneTick_32 : decode b_Net_passOneTick 32 = .ok (.aload_n 0, 1) := by decide +kernel
theorem d_Net_passOneTick_33 : decode b_Net_passOneTick 33 = .ok (.iload_n 1, 1) := by decide +kernel
theorem d_Net_passOneTick_34 : decode b_Net_passOneTick 34 = .ok (.invokevirtual 168, 3) := by decide +kernel
theorem d_Net_passOneTick_37 : decode b_Net_passOneTick 37 = .ok (.iinc 1 1, 3) := by decide +kernel
theorem d_Net_passOneTick_40 : decode b_Net_passOneTick 40 = .ok (.goto (-13), 3) := by decide +kernel
theorem d_Net_passOneTick_43 : decode b_Net_passOneTick 43 = .ok (.iconst 0, 1) := by decide +kernel
theorem d_Net_passOneTick_44 : decode b_Net_passOneTick 44 = .ok (.istore_n 1, 1) := by decide +kernel
theorem d_Net_passOneTick_45 : decode b_Net_passOneTick 45 = .ok (.iload_n 1, 1) := by decide +kernel
theorem d_Net_passOneTick_46 : decode b_Net_passOneTick 46 = .ok (.iconst 2, 1) := by decide +kernel
theorem d_Net_passOneTick_47 : decode b_Net_passOneTick 47 = .ok (.if_icmp .ge 18, 3) := by decide +kernel
theorem d_Net_passOneTick_50 : decode b_Net_passOneTick 50 = .ok (.aload_n 0, 1) := by decide +kernel
theorem d_Net_passOneTick_51 : decode b_Net_passOneTick 51 = .ok (.getfield 31, 3) := by decide +kernel
theorem d_Net_passOneTick_54 : decode b_Net_passOneTick 54 = .ok (.iload_n 1, 1) := by decide +kernel
theorem d_Net_passOneTick_55 : decode b_Net_passOneTick 55 = .ok (.aaload, 1) := by decide +kernel
theorem d_Net_passOneTick_56 : decode b_Net_passOneTick 56 = .ok (.invokevirtual 171, 3) := by decide +kernel
theorem d_Net_passOneTick_59 : decode b_Net_passOneTick 59 = .ok (.iinc 1 1, 3) := by decide +kernel
theorem d_Net_passOneTick_62 : decode b_Net_passOneTick 62 = .ok (.goto (-17), 3) := by decide +kernel
theorem d_Net_passOneTick_65 : decode b_Net_passOneTick 65 = .ok (.iconst 0, 1) := by decide +kernel
theorem d_Net_passOneTick_66 : decode b_Net_passOneTick 66 = .ok (.istore_n 1, 1) := by decide +kernel
theorem d_Net_passOneTick_67 : decode b_Net_passOneTick 67 = .ok (.iload_n 1, 1) := by decide +kernel
theorem d_Net_passOneTick_68 : decode b_Net_passOneTick 68 = .ok (.iconst 2, 1) := by decide +kernel
theorem d_Net_passOneTick_69 : decode b_Net_passOneTick 69 = .ok (.if_icmp .ge 17, 3) := by decide +kernel
theorem d_Net_passOneTick_72 : decode b_Net_passOneTick 72 = .ok (.aload_n 0, 1) := by decide +kernel
theorem d_Net_passOneTick_73 : decode b_Net_passOneTick 73 = .ok (.getfield 59, 3) := by decide +kernel
theorem d_Net_passOneTick_76 : decode b_Net_passOneTick 76 = .ok (.iload_n 1, 1) := by decide +kernel
theorem d_Net_passOneTick_77 : decode b_Net_passOneTick 77 = .ok (.invokevirtual 174, 3) := by decide +kernel
theorem d_Net_passOneTick_80 : decode b_Net_passOneTick 80 = .ok (.iinc 1 1, 3) := by decide +kernel
theorem d_Net_passOneTick_83 : decode b_Net_passOneTick 83 = .ok (.goto (-16), 3) := by decide +kernel
theorem d_Net_passOneTick_86 : decode b_Net_passOneTick 86 = .ok (.return_, 1) := by decide +kernel
theorem d_Net_tick_0 : decode b_Net_tick 0 = .ok (.iload_n 1, 1) := by decide +kernel
theorem d_Net_tick_1 : decode b_Net_tick 1 = .ok (.iconst 1, 1) := by decide +kernel
theorem d_Net_tick_2 : decode b_Net_tick 2 = .ok (.bipush 20, 2) := by decide +kernel
theorem d_Net_tick_4 : decode b_Net_tick 4 = .ok (.invokestatic 11, 3) := by decide +kernel
theorem d_Net_tick_7 : decode b_Net_tick 7 = .ok (.ifCond .ne 5, 3) := by decide +kernel
theorem d_Net_tick_10 : decode b_Net_tick 10 = .ok (.iconst 0, 1) := by decide +kernel
theorem d_Net_tick_11 : decode b_Net_tick 11 = .ok (.ireturn, 1) := by decide +kernel
theorem d_Net_tick_12 : decode b_Net_tick 12 = .ok (.iconst 0, 1) := by decide +kernel
theorem d_Net_tick_13 : decode b_Net_tick 13 = .ok (.istore_n 2, 1) := by decide +kernel
theorem d_Net_tick_14 : decode b_Net_tick 14 = .ok (.iload_n 2, 1) := by decide +kernel
theorem d_Net_tick_15 : decode b_Net_tick 15 = .ok (.iload_n 1, 1) := by decide +kernel
theorem d_Net_tick_16 : decode b_Net_tick 16 = .ok (.if_icmp .ge 13, 3) := by decide +kernel
theorem d_Net_tick_19 : decode b_Net_tick 19 = .ok (.aload_n 0, 1) := by decide +kernel
theorem d_Net_tick_20 : decode b_Net_tick 20 = .ok (.invokevirtual 78, 3) := by decide +kernel
theorem d_Net_tick_23 : decode b_Net_tick 23 = .ok (.iinc 2 1, 3) := by decide +kernel
theorem d_Net_tick_26 : decode b_Net_tick 26 = .ok (.goto (-12), 3) := by decide +kernel
theorem d_Net_tick_29 : decode b_Net_tick 29 = .ok (.iconst 1, 1) := by decide +kernel
theorem d_Net_tick_30 : decode b_Net_tick 30 = .ok (.ireturn, 1) := by decide +kernel
