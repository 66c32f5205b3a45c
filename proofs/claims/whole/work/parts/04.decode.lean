theorem d_Net_isWithin_0 : decode b_Net_isWithin 0 = .ok (.iload_n 0, 1) := by decide +kernel
theorem d_Net_isWithin_1 : decode b_Net_isWithin 1 = .ok (.iload_n 1, 1) := by decide +kernel
theorem d_Net_isWithin_2 : decode b_Net_isWithin 2 = .ok (.if_icmp .lt 12, 3) := by decide +kernel
theorem d_Net_isWithin_5 : decode b_Net_isWithin 5 = .ok (.iload_n 0, 1) := by decide +kernel
theorem d_Net_isWithin_6 : decode b_Net_isWithin 6 = .ok (.iload_n 2, 1) := by decide +kernel
theorem d_Net_isWithin_7 : decode b_Net_isWithin 7 = .ok (.if_icmp .gt 7, 3) := by decide +kernel
theorem d_Net_isWithin_10 : decode b_Net_isWithin 10 = .ok (.iconst 1, 1) := by decide +kernel
theorem d_Net_isWithin_11 : decode b_Net_isWithin 11 = .ok (.goto 4, 3) := by decide +kernel
theorem d_Net_isWithin_14 : decode b_Net_isWithin 14 = .ok (.iconst 0, 1) := by decide +kernel
theorem d_Net_isWithin_15 : decode b_Net_isWithin 15 = .ok (.ireturn, 1) := by decide +kernel
theorem d_Net_isMobile_0 : decode b_Net_isMobile 0 = .ok (.iload_n 0, 1) := by decide +kernel
theorem d_Net_isMobile_1 : decode b_Net_isMobile 1 = .ok (.iconst 0, 1) := by decide +kernel
theorem d_Net_isMobile_2 : decode b_Net_isMobile 2 = .ok (.iconst 1, 1) := by decide +kernel
theorem d_Net_isMobile_3 : decode b_Net_isMobile 3 = .ok (.invokestatic 11, 3) := by decide +kernel
theorem d_Net_isMobile_6 : decode b_Net_isMobile 6 = .ok (.ireturn, 1) := by decide +kernel
theorem d_Net_isAgent_0 : decode b_Net_isAgent 0 = .ok (.iload_n 0, 1) := by decide +kernel
theorem d_Net_isAgent_1 : decode b_Net_isAgent 1 = .ok (.iconst 0, 1) := by decide +kernel
theorem d_Net_isAgent_2 : decode b_Net_isAgent 2 = .ok (.iconst 3, 1) := by decide +kernel
theorem d_Net_isAgent_3 : decode b_Net_isAgent 3 = .ok (.invokestatic 11, 3) := by decide +kernel
theorem d_Net_isAgent_6 : decode b_Net_isAgent 6 = .ok (.ireturn, 1) := by decide +kernel
theorem d_Msg_stir_0 : decode b_Msg_stir 0 = .ok (.iload_n 0, 1) := by decide +kernel
theorem d_Msg_stir_1 : decode b_Msg_stir 1 = .ok (.iload_n 1, 1) := by decide +kernel
theorem d_Msg_stir_2 : decode b_Msg_stir 2 = .ok (.ixor, 1) := by decide +kernel
theorem d_Msg_stir_3 : decode b_Msg_stir 3 = .ok (.ldc 45, 2) := by decide +kernel
theorem d_Msg_stir_5 : decode b_Msg_stir 5 = .ok (.imul, 1) := by decide +kernel
theorem d_Msg_stir_6 : decode b_Msg_stir 6 = .ok (.istore_n 2, 1) := by decide +kernel
theorem d_Msg_stir_7 : decode b_Msg_stir 7 = .ok (.iload_n 2, 1) := by decide +kernel
theorem d_Msg_stir_8 : decode b_Msg_stir 8 = .ok (.iload_n 2, 1) := by decide +kernel
theorem d_Msg_stir_9 : decode b_Msg_stir 9 = .ok (.bipush 15, 2) := by decide +kernel
theorem d_Msg_stir_11 : decode b_Msg_stir 11 = .ok (.iushr, 1) := by decide +kernel
theorem d_Msg_stir_12 : decode b_Msg_stir 12 = .ok (.ixor, 1) := by decide +kernel
theorem d_Msg_stir_13 : decode b_Msg_stir 13 = .ok (.ireturn, 1) := by decide +kernel
theorem d_Msg_begin_0 : decode b_Msg_begin 0 = .ok (.aload_n 0, 1) := by decide +kernel
theorem d_Msg_begin_1 : decode b_Msg_begin 1 = .ok (.iload_n 1, 1) := by decide +kernel
theorem d_Msg_begin_2 : decode b_Msg_begin 2 = .ok (.putfield 9, 3) := by decide +kernel
theorem d_Msg_begin_5 : decode b_Msg_begin 5 = .ok (.aload_n 0, 1) := by decide +kernel
theorem d_Msg_begin_6 : decode b_Msg_begin 6 = .ok (.iload_n 2, 1) := by decide +kernel
theorem d_Msg_begin_7 : decode b_Msg_begin 7 = .ok (.putfield 15, 3) := by decide +kernel
theorem d_Msg_begin_10 : decode b_Msg_begin 10 = .ok (.aload_n 0, 1) := by decide +kernel
theorem d_Msg_begin_11 : decode b_Msg_begin 11 = .ok (.iload_n 3, 1) := by decide +kernel
theorem d_Msg_begin_12 : decode b_Msg_begin 12 = .ok (.putfield 18, 3) := by decide +kernel
theorem d_Msg_begin_15 : decode b_Msg_begin 15 = .ok (.aload_n 0, 1) := by decide +kernel
theorem d_Msg_begin_16 : decode b_Msg_begin 16 = .ok (.iload 4, 2) := by decide +kernel
theorem d_Msg_begin_18 : decode b_Msg_begin 18 = .ok (.putfield 21, 3) := by decide +kernel
theorem d_Msg_begin_21 : decode b_Msg_begin 21 = .ok (.aload_n 0, 1) := by decide +kernel
theorem d_Msg_begin_22 : decode b_Msg_begin 22 = .ok (.iconst (-1), 1) := by decide +kernel
theorem d_Msg_begin_23 : decode b_Msg_begin 23 = .ok (.putfield 24, 3) := by decide +kernel
theorem d_Msg_begin_26 : decode b_Msg_begin 26 = .ok (.aload_n 0, 1) := by decide +kernel
theorem d_Msg_begin_27 : decode b_Msg_begin 27 = .ok (.iconst 0, 1) := by decide +kernel
theorem d_Msg_begin_28 : decode b_Msg_begin 28 = .ok (.putfield 27, 3) := by decide +kernel
theorem d_Msg_begin_31 : decode b_Msg_begin 31 = .ok (.aload_n 0, 1) := by decide +kernel
theorem d_Msg_begin_32 : decode b_Msg_begin 32 = .ok (.iconst 0, 1) := by decide +kernel
theorem d_Msg_begin_33 : decode b_Msg_begin 33 = .ok (.putfield 30, 3) := by decide +kernel
theorem d_Msg_begin_36 : decode b_Msg_begin 36 = .ok (.aload_n 0, 1) := by decide +kernel
theorem d_Msg_begin_37 : decode b_Msg_begin 37 = .ok (.iconst 0, 1) := by decide +kernel
theorem d_Msg_begin_38 : decode b_Msg_begin 38 = .ok (.putfield 33, 3) := by decide +kernel
theorem d_Msg_begin_41 : decode b_Msg_begin 41 = .ok (.aload_n 0, 1) := by decide +kernel
theorem d_Msg_begin_42 : decode b_Msg_begin 42 = .ok (.iconst 0, 1) := by decide +kernel
theorem d_Msg_begin_43 : decode b_Msg_begin 43 = .ok (.putfield 36, 3) := by decide +kernel
theorem d_Msg_begin_46 : decode b_Msg_begin 46 = .ok (.return_, 1) := by decide +kernel
theorem d_Msg_copyFrom_0 : decode b_Msg_copyFrom 0 = .ok (.aload_n 0, 1) := by decide +kernel
theorem d_Msg_copyFrom_1 : decode b_Msg_copyFrom 1 = .ok (.aload_n 1, 1) := by decide +kernel
theorem d_Msg_copyFrom_2 : decode b_Msg_copyFrom 2 = .ok (.getfield 9, 3) := by decide +kernel
theorem d_Msg_copyFrom_5 : decode b_Msg_copyFrom 5 = .ok (.putfield 9, 3) := by decide +kernel
theorem d_Msg_copyFrom_8 : decode b_Msg_copyFrom 8 = .ok (.aload_n 0, 1) := by decide +kernel
theorem d_Msg_copyFrom_9 : decode b_Msg_copyFrom 9 = .ok (.aload_n 1, 1) := by decide +kernel
theorem d_Msg_copyFrom_10 : decode b_Msg_copyFrom 10 = .ok (.getfield 15, 3) := by decide +kernel
theorem d_Msg_copyFrom_13 : decode b_Msg_copyFrom 13 = .ok (.putfield 15, 3) := by decide +kernel
theorem d_Msg_copyFrom_16 : decode b_Msg_copyFrom 16 = .ok (.aload_n 0, 1) := by decide +kernel
theorem d_Msg_copyFrom_17 : decode b_Msg_copyFrom 17 = .ok (.aload_n 1, 1) := by decide +kernel
theorem d_Msg_copyFrom_18 : decode b_Msg_copyFrom 18 = .ok (.getfield 24, 3) := by decide +kernel
theorem d_Msg_copyFrom_21 : decode b_Msg_copyFrom 21 = .ok (.putfield 24, 3) := by decide +kernel
theorem d_Msg_copyFrom_24 : decode b_Msg_copyFrom 24 = .ok (.aload_n 0, 1) := by decide +kernel
theorem d_Msg_copyFrom_25 : decode b_Msg_copyFrom 25 = .ok (.aload_n 1, 1) := by decide +kernel
theorem d_Msg_copyFrom_26 : decode b_Msg_copyFrom 26 = .ok (.getfield 18, 3) := by decide +kernel
theorem d_Msg_copyFrom_29 : decode b_Msg_copyFrom 29 = .ok (.putfield 18, 3) := by decide +kernel
theorem d_Msg_copyFrom_32 : decode b_Msg_copyFrom 32 = .ok (.aload_n 0, 1) := by decide +kernel
theorem d_Msg_copyFrom_33 : decode b_Msg_copyFrom 33 = .ok (.aload_n 1, 1) := by decide +kernel
theorem d_Msg_copyFrom_34 : decode b_Msg_copyFrom 34 = .ok (.getfield 21, 3) := by decide +kernel
theorem d_Msg_copyFrom_37 : decode b_Msg_copyFrom 37 = .ok (.putfield 21, 3) := by decide +kernel
theorem d_Msg_copyFrom_40 : decode b_Msg_copyFrom 40 = .ok (.aload_n 0, 1) := by decide +kernel
theorem d_Msg_copyFrom_41 : decode b_Msg_copyFrom 41 = .ok (.aload_n 1, 1) := by decide +kernel
theorem d_Msg_copyFrom_42 : decode b_Msg_copyFrom 42 = .ok (.getfield 27, 3) := by decide +kernel
theorem d_Msg_copyFrom_45 : decode b_Msg_copyFrom 45 = .ok (.putfield 27, 3) := by decide +kernel
theorem d_Msg_copyFrom_48 : decode b_Msg_copyFrom 48 = .ok (.aload_n 0, 1) := by decide +kernel
theorem d_Msg_copyFrom_49 : decode b_Msg_copyFrom 49 = .ok (.aload_n 1, 1) := by decide +kernel
theorem d_Msg_copyFrom_50 : decode b_Msg_copyFrom 50 = .ok (.getfield 30, 3) := by decide +kernel
theorem d_Msg_copyFrom_53 : decode b_Msg_copyFrom 53 = .ok (.putfield 30, 3) := by decide +kernel
theorem d_Msg_copyFrom_56 : decode b_Msg_copyFrom 56 = .ok (.aload_n 0, 1) := by decide +kernel
theorem d_Msg_copyFrom_57 : decode b_Msg_copyFrom 57 = .ok (.aload_n 1, 1) := by decide +kernel
theorem d_Msg_copyFrom_58 : decode b_Msg_copyFrom 58 = .ok (.getfield 33, 3) := by decide +kernel
theorem d_Msg_copyFrom_61 : decode b_Msg_copyFrom 61 = .ok (.putfield 33, 3) := by decide +kernel
theorem d_Msg_copyFrom_64 : decode b_Msg_copyFrom 64 = .ok (.aload_n 0, 1) := by decide +kernel
theorem d_Msg_copyFrom_65 : decode b_Msg_copyFrom 65 = .ok (.aload_n 1, 1) := by decide +kernel
theorem d_Msg_copyFrom_66 : decode b_Msg_copyFrom 66 = .ok (.getfield 36, 3) := by decide +kernel
theorem d_Msg_copyFrom_69 : decode b_Msg_copyFrom 69 = .ok (.putfield 36, 3) := by decide +kernel
theorem d_Msg_copyFrom_72 : decode b_Msg_copyFrom 72 = .ok (.return_, 1) := by decide +kernel
theorem d_Msg_summary_0 : decode b_Msg_summary 0 = .ok (.ldc 39, 2) := by decide +kernel
theorem d_Msg_summary_2 : decode b_Msg_summary 2 = .ok (.aload_n 0, 1) := by decide +kernel
theorem d_Msg_summary_3 : decode b_Msg_summary 3 = .ok (.getfield 9, 3) := by decide +kernel
theorem d_Msg_summary_6 : decode b_Msg_summary 6 = .ok (.imul, 1) := by decide +kernel
theorem d_Msg_summary_7 : decode b_Msg_summary 7 = .ok (.ldc 40, 2) := by decide +kernel
theorem d_Msg_summary_9 : decode b_Msg_summary 9 = .ok (.aload_n 0, 1) := by decide +kernel
theorem d_Msg_summary_10 : decode b_Msg_summary 10 = .ok (.getfield 15, 3) := by decide +kernel
theorem d_Msg_summary_13 : decode b_Msg_summary 13 = .ok (.imul, 1) := by decide +kernel
theorem d_Msg_summary_14 : decode b_Msg_summary 14 = .ok (.iadd, 1) := by decide +kernel
theorem d_Msg_summary_15 : decode b_Msg_summary 15 = .ok (.sipush 10000, 3) := by decide +kernel
theorem d_Msg_summary_18 : decode b_Msg_summary 18 = .ok (.aload_n 0, 1) := by decide +kernel
theorem d_Msg_summary_19 : decode b_Msg_summary 19 = .ok (.getfield 18, 3) := by decide +kernel
theorem d_Msg_summary_22 : decode b_Msg_summary 22 = .ok (.imul, 1) := by decide +kernel
theorem d_Msg_summary_23 : decode b_Msg_summary 23 = .ok (.iadd, 1) := by decide +kernel
theorem d_Msg_summary_24 : decode b_Msg_summary 24 = .ok (.aload_n 0, 1) := by decide +kernel
theorem d_Msg_summary_25 : decode b_Msg_summary 25 = .ok (.getfield 21, 3) := by decide +kernel
theorem d_Msg_summary_28 : decode b_Msg_summary 28 = .ok (.iadd, 1) := by decide +kernel
theorem d_Msg_summary_29 : decode b_Msg_summary 29 = .ok (.ireturn, 1) := by decide +kernel
theorem d_Msg_requestSeal_0 : decode b_Msg_requestSeal 0 = .ok (.iload_n 1, 1) := by decide +kernel
theorem d_Msg_requestSeal_1 : decode b_Msg_requestSeal 1 = .ok (.iconst 2, 1) := by decide +kernel
theorem d_Msg_requestSeal_2 : decode b_Msg_requestSeal 2 = .ok (.invokestatic 41, 3) := by decide +kernel
theorem d_Msg_requestSeal_5 : decode b_Msg_requestSeal 5 = .ok (.istore_n 2, 1) := by decide +kernel
theorem d_Msg_requestSeal_6 : decode b_Msg_requestSeal 6 = .ok (.iload_n 2, 1) := by decide +kernel
theorem d_Msg_requestSeal_7 : decode b_Msg_requestSeal 7 = .ok (.aload_n 0, 1) := by decide +kernel
theorem d_Msg_requestSeal_8 : decode b_Msg_requestSeal 8 = .ok (.getfield 18, 3) := by decide +kernel
theorem d_Msg_requestSeal_11 : decode b_Msg_requestSeal 11 = .ok (.invokestatic 41, 3) := by decide +kernel
theorem d_Msg_requestSeal_14 : decode b_Msg_requestSeal 14 = .ok (.istore_n 2, 1) := by decide +kernel
theorem d_Msg_requestSeal_15 : decode b_Msg_requestSeal 15 = .ok (.iload_n 2, 1) := by decide +kernel
theorem d_Msg_requestSeal_16 : decode b_Msg_requestSeal 16 = .ok (.aload_n 0, 1) := by decide +kernel
theorem d_Msg_requestSeal_17 : decode b_Msg_requestSeal 17 = .ok (.getfield 27, 3) := by decide +kernel
theorem d_Msg_requestSeal_20 : decode b_Msg_requestSeal 20 = .ok (.invokestatic 41, 3) := by decide +kernel
theorem d_Msg_requestSeal_23 : decode b_Msg_requestSeal 23 = .ok (.istore_n 2, 1) := by decide +kernel
theorem d_Msg_requestSeal_24 : decode b_Msg_requestSeal 24 = .ok (.iload_n 2, 1) := by decide +kernel
theorem d_Msg_requestSeal_25 : decode b_Msg_requestSeal 25 = .ok (.aload_n 0, 1) := by decide +kernel
theorem d_Msg_requestSeal_26 : decode b_Msg_requestSeal 26 = .ok (.getfield 33, 3) := by decide +kernel
theorem d_Msg_requestSeal_29 : decode b_Msg_requestSeal 29 = .ok (.invokestatic 41, 3) := by decide +kernel
theorem d_Msg_requestSeal_32 : decode b_Msg_requestSeal 32 = .ok (.istore_n 2, 1) := by decide +kernel
theorem d_Msg_requestSeal_33 : decode b_Msg_requestSeal 33 = .ok (.iload_n 2, 1) := by decide +kernel
theorem d_Msg_requestSeal_34 : decode b_Msg_requestSeal 34 = .ok (.aload_n 0, 1) := by decide +kernel
theorem d_Msg_requestSeal_35 : decode b_Msg_requestSeal 35 = .ok (.getfield 21, 3) := by decide +kernel
theorem d_Msg_requestSeal_38 : decode b_Msg_requestSeal 38 = .ok (.invokestatic 41, 3) := by decide +kernel
theorem d_Msg_requestSeal_41 : decode b_Msg_requestSeal 41 = .ok (.ireturn, 1) := by decide +kernel
theorem d_Msg_replySeal_0 : decode b_Msg_replySeal 0 = .ok (.iload_n 1, 1) := by decide +kernel
theorem d_Msg_replySeal_1 : decode b_Msg_replySeal 1 = .ok (.iconst 3, 1) := by decide +kernel
theorem d_Msg_replySeal_2 : decode b_Msg_replySeal 2 = .ok (.invokestatic 41, 3) := by decide +kernel
theorem d_Msg_replySeal_5 : decode b_Msg_replySeal 5 = .ok (.istore_n 2, 1) := by decide +kernel
theorem d_Msg_replySeal_6 : decode b_Msg_replySeal 6 = .ok (.iload_n 2, 1) := by decide +kernel
theorem d_Msg_replySeal_7 : decode b_Msg_replySeal 7 = .ok (.aload_n 0, 1) := by decide +kernel
theorem d_Msg_replySeal_8 : decode b_Msg_replySeal 8 = .ok (.getfield 18, 3) := by decide +kernel
theorem d_Msg_replySeal_11 : decode b_Msg_replySeal 11 = .ok (.invokestatic 41, 3) := by decide +kernel
theorem d_Msg_replySeal_14 : decode b_Msg_replySeal 14 = .ok (.istore_n 2, 1) := by decide +kernel
theorem d_Msg_replySeal_15 : decode b_Msg_replySeal 15 = .ok (.iload_n 2, 1) := by decide +kernel
theorem d_Msg_replySeal_16 : decode b_Msg_replySeal 16 = .ok (.aload_n 0, 1) := by decide +kernel
theorem d_Msg_replySeal_17 : decode b_Msg_replySeal 17 = .ok (.getfield 27, 3) := by decide +kernel
theorem d_Msg_replySeal_20 : decode b_Msg_replySeal 20 = .ok (.invokestatic 41, 3) := by decide +kernel
theorem d_Msg_replySeal_23 : decode b_Msg_replySeal 23 = .ok (.istore_n 2, 1) := by decide +kernel
theorem d_Msg_replySeal_24 : decode b_Msg_replySeal 24 = .ok (.iload_n 2, 1) := by decide +kernel
theorem d_Msg_replySeal_25 : decode b_Msg_replySeal 25 = .ok (.aload_n 0, 1) := by decide +kernel
theorem d_Msg_replySeal_26 : decode b_Msg_replySeal 26 = .ok (.getfield 30, 3) := by decide +kernel
theorem d_Msg_replySeal_29 : decode b_Msg_replySeal 29 = .ok (.invokestatic 41, 3) := by decide +kernel
theorem d_Msg_replySeal_32 : decode b_Msg_replySeal 32 = .ok (.istore_n 2, 1) := by decide +kernel
theorem d_Msg_replySeal_33 : decode b_Msg_replySeal 33 = .ok (.iload_n 2, 1) := by decide +kernel
theorem d_Msg_replySeal_34 : decode b_Msg_replySeal 34 = .ok (.aload_n 0, 1) := by decide +kernel
theorem d_Msg_replySeal_35 : decode b_Msg_replySeal 35 = .ok (.getfield 33, 3) := by decide +kernel
theorem d_Msg_replySeal_38 : decode b_Msg_replySeal 38 = .ok (.invokestatic 41, 3) := by decide +kernel
theorem d_Msg_replySeal_41 : decode b_Msg_replySeal 41 = .ok (.istore_n 2, 1) := by decide +kernel
theorem d_Msg_replySeal_42 : decode b_Msg_replySeal 42 = .ok (.iload_n 2, 1) := by decide +kernel
theorem d_Msg_replySeal_43 : decode b_Msg_replySeal 43 = .ok (.aload_n 0, 1) := by decide +kernel
theorem d_Msg_replySeal_44 : decode b_Msg_replySeal 44 = .ok (.getfield 21, 3) := by decide +kernel
theorem d_Msg_replySeal_47 : decode b_Msg_replySeal 47 = .ok (.invokestatic 41, 3) := by decide +kernel
theorem d_Msg_replySeal_50 : decode b_Msg_replySeal 50 = .ok (.ireturn, 1) := by decide +kernel
theorem d_Wire_holds_0 : decode b_Wire_holds 0 = .ok (.iload_n 1, 1) := by decide +kernel
theorem d_Wire_holds_1 : decode b_Wire_holds 1 = .ok (.ifCond .lt 15, 3) := by decide +kernel
theorem d_Wire_holds_4 : decode b_Wire_holds 4 = .ok (.iload_n 1, 1) := by decide +kernel
theorem d_Wire_holds_5 : decode b_Wire_holds 5 = .ok (.aload_n 0, 1) := by decide +kernel
theorem d_Wire_holds_6 : decode b_Wire_holds 6 = .ok (.getfield 18, 3) := by decide +kernel
theorem d_Wire_holds_9 : decode b_Wire_holds 9 = .ok (.if_icmp .ge 7, 3) := by decide +kernel
theorem d_Wire_holds_12 : decode b_Wire_holds 12 = .ok (.iconst 1, 1) := by decide +kernel
theorem d_Wire_holds_13 : decode b_Wire_holds 13 = .ok (.goto 4, 3) := by decide +kernel
theorem d_Wire_holds_16 : decode b_Wire_holds 16 = .ok (.iconst 0, 1) := by decide +kernel
theorem d_Wire_holds_17 : decode b_Wire_holds 17 = .ok (.ireturn, 1) := by decide +kernel
theorem d_Wire_isFull_0 : decode b_Wire_isFull 0 = .ok (.aload_n 0, 1) := by decide +kernel
theorem d_Wire_isFull_1 : decode b_Wire_isFull 1 = .ok (.getfield 18, 3) := by decide +kernel
theorem d_Wire_isFull_4 : decode b_Wire_isFull 4 = .ok (.bipush 40, 2) := by decide +kernel
theorem d_Wire_isFull_6 : decode b_Wire_isFull 6 = .ok (.if_icmp .lt 7, 3) := by decide +kernel
theorem d_Wire_isFull_9 : decode b_Wire_isFull 9 = .ok (.iconst 1, 1) := by decide +kernel
theorem d_Wire_isFull_10 : decode b_Wire_isFull 10 = .ok (.goto 4, 3) := by decide +kernel
theorem d_Wire_isFull_13 : decode b_Wire_isFull 13 = .ok (.iconst 0, 1) := by decide +kernel
theorem d_Wire_isFull_14 : decode b_Wire_isFull 14 = .ok (.ireturn, 1) := by decide +kernel
theorem d_Wire_nextRow_0 : decode b_Wire_nextRow 0 = .ok (.aload_n 0, 1) := by decide +kernel
theorem d_Wire_nextRow_1 : decode b_Wire_nextRow 1 = .ok (.invokevirtual 22, 3) := by decide +kernel
theorem d_Wire_nextRow_4 : decode b_Wire_nextRow 4 = .ok (.ifCond .eq 11, 3) := by decide +kernel
theorem d_Wire_nextRow_7 : decode b_Wire_nextRow 7 = .ok (.aload_n 0, 1) := by decide +kernel
theorem d_Wire_nextRow_8 : decode b_Wire_nextRow 8 = .ok (.getfield 11, 3) := by decide +kernel
theorem d_Wire_nextRow_11 : decode b_Wire_nextRow 11 = .ok (.bipush 40, 2) := by decide +kernel
theorem d_Wire_nextRow_13 : decode b_Wire_nextRow 13 = .ok (.aaload, 1) := by decide +kernel
theorem d_Wire_nextRow_14 : decode b_Wire_nextRow 14 = .ok (.areturn, 1) := by decide +kernel
theorem d_Wire_nextRow_15 : decode b_Wire_nextRow 15 = .ok (.aload_n 0, 1) := by decide +kernel
theorem d_Wire_nextRow_16 : decode b_Wire_nextRow 16 = .ok (.dup, 1) := by decide +kernel
theorem d_Wire_nextRow_17 : decode b_Wire_nextRow 17 = .ok (.getfield 18, 3) := by decide +kernel
theorem d_Wire_nextRow_20 : decode b_Wire_nextRow 20 = .ok (.iconst 1, 1) := by decide +kernel
theorem d_Wire_nextRow_21 : decode b_Wire_nextRow 21 = .ok (.iadd, 1) := by decide +kernel
theorem d_Wire_nextRow_22 : decode b_Wire_nextRow 22 = .ok (.putfield 18, 3) := by decide +kernel
theorem d_Wire_nextRow_25 : decode b_Wire_nextRow 25 = .ok (.aload_n 0, 1) := by decide +kernel
theorem d_Wire_nextRow_26 : decode b_Wire_nextRow 26 = .ok (.getfield 11, 3) := by decide +kernel
theorem d_Wire_nextRow_29 : decode b_Wire_nextRow 29 = .ok (.aload_n 0, 1) := by decide +kernel
theorem d_Wire_nextRow_30 : decode b_Wire_nextRow 30 = .ok (.getfield 18, 3) := by decide +kernel
theorem d_Wire_nextRow_33 : decode b_Wire_nextRow 33 = .ok (.iconst 1, 1) := by decide +kernel
theorem d_Wire_nextRow_34 : decode b_Wire_nextRow 34 = .ok (.isub, 1) := by decide +kernel
theorem d_Wire_nextRow_35 : decode b_Wire_nextRow 35 = .ok (.aaload, 1) := by decide +kernel
theorem d_Wire_nextRow_36 : decode b_Wire_nextRow 36 = .ok (.areturn, 1) := by decide +kernel
theorem d_Wire_sendTo_0 : decode b_Wire_sendTo 0 = .ok (.aload_n 0, 1) := by decide +kernel
theorem d_Wire_sendTo_1 : decode b_Wire_sendTo 1 = .ok (.invokevirtual 26, 3) := by decide +kernel
theorem d_Wire_sendTo_4 : decode b_Wire_sendTo 4 = .ok (.astore 5, 2) := by decide +kernel
theorem d_Wire_sendTo_6 : decode b_Wire_sendTo 6 = .ok (.aload 5, 2) := by decide +kernel
theorem d_Wire_sendTo_8 : decode b_Wire_sendTo 8 = .ok (.iload_n 2, 1) := by decide +kernel
theorem d_Wire_sendTo_9 : decode b_Wire_sendTo 9 = .ok (.iload_n 1, 1) := by decide +kernel
theorem d_Wire_sendTo_10 : decode b_Wire_sendTo 10 = .ok (.iload_n 3, 1) := by decide +kernel
theorem d_Wire_sendTo_11 : decode b_Wire_sendTo 11 = .ok (.iload 4, 2) := by decide +kernel
theorem d_Wire_sendTo_13 : decode b_Wire_sendTo 13 = .ok (.invokevirtual 30, 3) := by decide +kernel
theorem d_Wire_sendTo_16 : decode b_Wire_sendTo 16 = .ok (.aload 5, 2) := by decide +kernel
theorem d_Wire_sendTo_18 : decode b_Wire_sendTo 18 = .ok (.areturn, 1) := by decide +kernel
theorem d_Wire_sendInNetwork_0 : decode b_Wire_sendInNetwork 0 = .ok (.aload_n 0, 1) := by decide +kernel
theorem d_Wire_sendInNetwork_1 : decode b_Wire_sendInNetwork 1 = .ok (.iconst 5, 1) := by decide +kernel
theorem d_Wire_sendInNetwork_2 : decode b_Wire_sendInNetwork 2 = .ok (.iload_n 2, 1) := by decide +kernel
theorem d_Wire_sendInNetwork_3 : decode b_Wire_sendInNetwork 3 = .ok (.iload_n 3, 1) := by decide +kernel
theorem d_Wire_sendInNetwork_4 : decode b_Wire_sendInNetwork 4 = .ok (.iload 4, 2) := by decide +kernel
theorem d_Wire_sendInNetwork_6 : decode b_Wire_sendInNetwork 6 = .ok (.invokevirtual 34, 3) := by decide +kernel
theorem d_Wire_sendInNetwork_9 : decode b_Wire_sendInNetwork 9 = .ok (.astore 5, 2) := by decide +kernel
theorem d_Wire_sendInNetwork_11 : decode b_Wire_sendInNetwork 11 = .ok (.aload 5, 2) := by decide +kernel
theorem d_Wire_sendInNetwork_13 : decode b_Wire_sendInNetwork 13 = .ok (.iload_n 1, 1) := by decide +kernel
theorem d_Wire_sendInNetwork_14 : decode b_Wire_sendInNetwork 14 = .ok (.putfield 38, 3) := by decide +kernel
theorem d_Wire_sendInNetwork_17 : decode b_Wire_sendInNetwork 17 = .ok (.aload 5, 2) := by decide +kernel
theorem d_Wire_sendInNetwork_19 : decode b_Wire_sendInNetwork 19 = .ok (.areturn, 1) := by decide +kernel
theorem d_Wire_sendOn_0 : decode b_Wire_sendOn 0 = .ok (.aload_n 0, 1) := by decide +kernel
theorem d_Wire_sendOn_1 : decode b_Wire_sendOn 1 = .ok (.invokevirtual 26, 3) := by decide +kernel
theorem d_Wire_sendOn_4 : decode b_Wire_sendOn 4 = .ok (.astore 4, 2) := by decide +kernel
theorem d_Wire_sendOn_6 : decode b_Wire_sendOn 6 = .ok (.aload 4, 2) := by decide +kernel
theorem d_Wire_sendOn_8 : decode b_Wire_sendOn 8 = .ok (.aload_n 1, 1) := by decide +kernel
theorem d_Wire_sendOn_9 : decode b_Wire_sendOn 9 = .ok (.invokevirtual 41, 3) := by decide +kernel
theorem d_Wire_sendOn_12 : decode b_Wire_sendOn 12 = .ok (.aload 4, 2) := by decide +kernel
theorem d_Wire_sendOn_14 : decode b_Wire_sendOn 14 = .ok (.iload_n 2, 1) := by decide +kernel
theorem d_Wire_sendOn_15 : decode b_Wire_sendOn 15 = .ok (.putfield 45, 3) := by decide +kernel
theorem d_Wire_sendOn_18 : decode b_Wire_sendOn 18 = .ok (.aload 4, 2) := by decide +kernel
theorem d_Wire_sendOn_20 : decode b_Wire_sendOn 20 = .ok (.iload_n 3, 1) := by decide +kernel
theorem d_Wire_sendOn_21 : decode b_Wire_sendOn 21 = .ok (.putfield 38, 3) := by decide +kernel
theorem d_Wire_sendOn_24 : decode b_Wire_sendOn 24 = .ok (.return_, 1) := by decide +kernel
