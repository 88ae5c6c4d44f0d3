theorem d_F_ini_0 : decode b_F_ini 0 = .ok (.aload_n 0, 1) := by decide +kernel
theorem d_F_ini_1 : decode b_F_ini 1 = .ok (.invokespecial 3, 3) := by decide +kernel
theorem d_F_ini_4 : decode b_F_ini 4 = .ok (.aload_n 0, 1) := by decide +kernel
theorem d_F_ini_5 : decode b_F_ini 5 = .ok (.bipush 6, 2) := by decide +kernel
theorem d_F_ini_7 : decode b_F_ini 7 = .ok (.newarray .int, 2) := by decide +kernel
theorem d_F_ini_9 : decode b_F_ini 9 = .ok (.putfield 9, 3) := by decide +kernel
theorem d_F_ini_12 : decode b_F_ini 12 = .ok (.aload_n 0, 1) := by decide +kernel
theorem d_F_ini_13 : decode b_F_ini 13 = .ok (.new 15, 3) := by decide +kernel
theorem d_F_ini_16 : decode b_F_ini 16 = .ok (.dup, 1) := by decide +kernel
theorem d_F_ini_17 : decode b_F_ini 17 = .ok (.invokespecial 17, 3) := by decide +kernel
theorem d_F_ini_20 : decode b_F_ini 20 = .ok (.putfield 18, 3) := by decide +kernel
theorem d_F_ini_23 : decode b_F_ini 23 = .ok (.aload_n 0, 1) := by decide +kernel
theorem d_F_ini_24 : decode b_F_ini 24 = .ok (.iload_n 1, 1) := by decide +kernel
theorem d_F_ini_25 : decode b_F_ini 25 = .ok (.putfield 22, 3) := by decide +kernel
theorem d_F_ini_28 : decode b_F_ini 28 = .ok (.aload_n 0, 1) := by decide +kernel
theorem d_F_ini_29 : decode b_F_ini 29 = .ok (.iload_n 1, 1) := by decide +kernel
theorem d_F_ini_30 : decode b_F_ini 30 = .ok (.bipush 6, 2) := by decide +kernel
theorem d_F_ini_32 : decode b_F_ini 32 = .ok (.imul, 1) := by decide +kernel
theorem d_F_ini_33 : decode b_F_ini 33 = .ok (.newarray .int, 2) := by decide +kernel
theorem d_F_ini_35 : decode b_F_ini 35 = .ok (.putfield 26, 3) := by decide +kernel
theorem d_F_ini_38 : decode b_F_ini 38 = .ok (.return_, 1) := by decide +kernel
theorem d_C_ini_0 : decode b_C_ini 0 = .ok (.aload_n 0, 1) := by decide +kernel
theorem d_C_ini_1 : decode b_C_ini 1 = .ok (.invokespecial 5, 3) := by decide +kernel
theorem d_C_ini_4 : decode b_C_ini 4 = .ok (.aload_n 0, 1) := by decide +kernel
theorem d_C_ini_5 : decode b_C_ini 5 = .ok (.sipush 178, 3) := by decide +kernel
theorem d_C_ini_8 : decode b_C_ini 8 = .ok (.newarray .int, 2) := by decide +kernel
theorem d_C_ini_10 : decode b_C_ini 10 = .ok (.putfield 11, 3) := by decide +kernel
theorem d_C_ini_13 : decode b_C_ini 13 = .ok (.aload_n 0, 1) := by decide +kernel
theorem d_C_ini_14 : decode b_C_ini 14 = .ok (.sipush 512, 3) := by decide +kernel
theorem d_C_ini_17 : decode b_C_ini 17 = .ok (.newarray .int, 2) := by decide +kernel
theorem d_C_ini_19 : decode b_C_ini 19 = .ok (.putfield 15, 3) := by decide +kernel
theorem d_C_ini_22 : decode b_C_ini 22 = .ok (.aload_n 0, 1) := by decide +kernel
theorem d_C_ini_23 : decode b_C_ini 23 = .ok (.getfield 15, 3) := by decide +kernel
theorem d_C_ini_26 : decode b_C_ini 26 = .ok (.iconst (-1), 1) := by decide +kernel
theorem d_C_ini_27 : decode b_C_ini 27 = .ok (.invokestatic 18, 3) := by decide +kernel
theorem d_C_ini_30 : decode b_C_ini 30 = .ok (.iconst 1, 1) := by decide +kernel
theorem d_C_ini_31 : decode b_C_ini 31 = .ok (.istore_n 1, 1) := by decide +kernel
theorem d_C_ini_32 : decode b_C_ini 32 = .ok (.iconst 0, 1) := by decide +kernel
theorem d_C_ini_33 : decode b_C_ini 33 = .ok (.istore_n 2, 1) := by decide +kernel
theorem d_C_ini_34 : decode b_C_ini 34 = .ok (.iload_n 2, 1) := by decide +kernel
theorem d_C_ini_35 : decode b_C_ini 35 = .ok (.sipush 178, 3) := by decide +kernel
theorem d_C_ini_38 : decode b_C_ini 38 = .ok (.if_icmp .ge 50, 3) := by decide +kernel
theorem d_C_ini_41 : decode b_C_ini 41 = .ok (.iload_n 2, 1) := by decide +kernel
theorem d_C_ini_42 : decode b_C_ini 42 = .ok (.bipush 18, 2) := by decide +kernel
theorem d_C_ini_44 : decode b_C_ini 44 = .ok (.if_icmp .ge 11, 3) := by decide +kernel
theorem d_C_ini_47 : decode b_C_ini 47 = .ok (.sipush 160, 3) := by decide +kernel
theorem d_C_ini_50 : decode b_C_ini 50 = .ok (.iload_n 2, 1) := by decide +kernel
theorem d_C_ini_51 : decode b_C_ini 51 = .ok (.iadd, 1) := by decide +kernel
theorem d_C_ini_52 : decode b_C_ini 52 = .ok (.goto 7, 3) := by decide +kernel
theorem d_C_ini_55 : decode b_C_ini 55 = .ok (.iload_n 2, 1) := by decide +kernel
theorem d_C_ini_56 : decode b_C_ini 56 = .ok (.bipush 18, 2) := by decide +kernel
theorem d_C_ini_58 : decode b_C_ini 58 = .ok (.isub, 1) := by decide +kernel
theorem d_C_ini_59 : decode b_C_ini 59 = .ok (.istore_n 3, 1) := by decide +kernel
theorem d_C_ini_60 : decode b_C_ini 60 = .ok (.aload_n 0, 1) := by decide +kernel
theorem d_C_ini_61 : decode b_C_ini 61 = .ok (.getfield 11, 3) := by decide +kernel
theorem d_C_ini_64 : decode b_C_ini 64 = .ok (.iload_n 3, 1) := by decide +kernel
theorem d_C_ini_65 : decode b_C_ini 65 = .ok (.iload_n 1, 1) := by decide +kernel
theorem d_C_ini_66 : decode b_C_ini 66 = .ok (.iastore, 1) := by decide +kernel
theorem d_C_ini_67 : decode b_C_ini 67 = .ok (.aload_n 0, 1) := by decide +kernel
theorem d_C_ini_68 : decode b_C_ini 68 = .ok (.getfield 15, 3) := by decide +kernel
theorem d_C_ini_71 : decode b_C_ini 71 = .ok (.iload_n 1, 1) := by decide +kernel
theorem d_C_ini_72 : decode b_C_ini 72 = .ok (.invokestatic 24, 3) := by decide +kernel
theorem d_C_ini_75 : decode b_C_ini 75 = .ok (.iload_n 3, 1) := by decide +kernel
theorem d_C_ini_76 : decode b_C_ini 76 = .ok (.iastore, 1) := by decide +kernel
theorem d_C_ini_77 : decode b_C_ini 77 = .ok (.iload_n 1, 1) := by decide +kernel
theorem d_C_ini_78 : decode b_C_ini 78 = .ok (.invokestatic 28, 3) := by decide +kernel
theorem d_C_ini_81 : decode b_C_ini 81 = .ok (.istore_n 1, 1) := by decide +kernel
theorem d_C_ini_82 : decode b_C_ini 82 = .ok (.iinc 2 1, 3) := by decide +kernel
theorem d_C_ini_85 : decode b_C_ini 85 = .ok (.goto (-51), 3) := by decide +kernel
theorem d_C_ini_88 : decode b_C_ini 88 = .ok (.return_, 1) := by decide +kernel
theorem d_JA_fill_0 : decode b_JA_fill 0 = .ok (.iconst 0, 1) := by decide +kernel
theorem d_JA_fill_1 : decode b_JA_fill 1 = .ok (.istore_n 2, 1) := by decide +kernel
theorem d_JA_fill_2 : decode b_JA_fill 2 = .ok (.aload_n 0, 1) := by decide +kernel
theorem d_JA_fill_3 : decode b_JA_fill 3 = .ok (.arraylength, 1) := by decide +kernel
theorem d_JA_fill_4 : decode b_JA_fill 4 = .ok (.istore_n 3, 1) := by decide +kernel
theorem d_JA_fill_5 : decode b_JA_fill 5 = .ok (.iload_n 2, 1) := by decide +kernel
theorem d_JA_fill_6 : decode b_JA_fill 6 = .ok (.iload_n 3, 1) := by decide +kernel
theorem d_JA_fill_7 : decode b_JA_fill 7 = .ok (.if_icmp .ge 13, 3) := by decide +kernel
theorem d_JA_fill_10 : decode b_JA_fill 10 = .ok (.aload_n 0, 1) := by decide +kernel
theorem d_JA_fill_11 : decode b_JA_fill 11 = .ok (.iload_n 2, 1) := by decide +kernel
theorem d_JA_fill_12 : decode b_JA_fill 12 = .ok (.iload_n 1, 1) := by decide +kernel
theorem d_JA_fill_13 : decode b_JA_fill 13 = .ok (.iastore, 1) := by decide +kernel
theorem d_JA_fill_14 : decode b_JA_fill 14 = .ok (.iinc 2 1, 3) := by decide +kernel
theorem d_JA_fill_17 : decode b_JA_fill 17 = .ok (.goto (-12), 3) := by decide +kernel
theorem d_JA_fill_20 : decode b_JA_fill 20 = .ok (.return_, 1) := by decide +kernel
theorem d_C_fold_0 : decode b_C_fold 0 = .ok (.iload_n 0, 1) := by decide +kernel
theorem d_C_fold_1 : decode b_C_fold 1 = .ok (.istore_n 1, 1) := by decide +kernel
theorem d_C_fold_2 : decode b_C_fold 2 = .ok (.bipush 17, 2) := by decide +kernel
theorem d_C_fold_4 : decode b_C_fold 4 = .ok (.istore_n 2, 1) := by decide +kernel
theorem d_C_fold_5 : decode b_C_fold 5 = .ok (.iload_n 2, 1) := by decide +kernel
theorem d_C_fold_6 : decode b_C_fold 6 = .ok (.bipush 9, 2) := by decide +kernel
theorem d_C_fold_8 : decode b_C_fold 8 = .ok (.if_icmp .lt 28, 3) := by decide +kernel
theorem d_C_fold_11 : decode b_C_fold 11 = .ok (.iload_n 1, 1) := by decide +kernel
theorem d_C_fold_12 : decode b_C_fold 12 = .ok (.iload_n 2, 1) := by decide +kernel
theorem d_C_fold_13 : decode b_C_fold 13 = .ok (.iushr, 1) := by decide +kernel
theorem d_C_fold_14 : decode b_C_fold 14 = .ok (.iconst 1, 1) := by decide +kernel
theorem d_C_fold_15 : decode b_C_fold 15 = .ok (.iand, 1) := by decide +kernel
theorem d_C_fold_16 : decode b_C_fold 16 = .ok (.ifCond .eq 14, 3) := by decide +kernel
theorem d_C_fold_19 : decode b_C_fold 19 = .ok (.iload_n 1, 1) := by decide +kernel
theorem d_C_fold_20 : decode b_C_fold 20 = .ok (.sipush 529, 3) := by decide +kernel
theorem d_C_fold_23 : decode b_C_fold 23 = .ok (.iload_n 2, 1) := by decide +kernel
theorem d_C_fold_24 : decode b_C_fold 24 = .ok (.bipush 9, 2) := by decide +kernel
theorem d_C_fold_26 : decode b_C_fold 26 = .ok (.isub, 1) := by decide +kernel
theorem d_C_fold_27 : decode b_C_fold 27 = .ok (.ishl, 1) := by decide +kernel
theorem d_C_fold_28 : decode b_C_fold 28 = .ok (.ixor, 1) := by decide +kernel
theorem d_C_fold_29 : decode b_C_fold 29 = .ok (.istore_n 1, 1) := by decide +kernel
theorem d_C_fold_30 : decode b_C_fold 30 = .ok (.iinc 2 (-1), 3) := by decide +kernel
theorem d_C_fold_33 : decode b_C_fold 33 = .ok (.goto (-28), 3) := by decide +kernel
theorem d_C_fold_36 : decode b_C_fold 36 = .ok (.iload_n 1, 1) := by decide +kernel
theorem d_C_fold_37 : decode b_C_fold 37 = .ok (.sipush 511, 3) := by decide +kernel
theorem d_C_fold_40 : decode b_C_fold 40 = .ok (.iand, 1) := by decide +kernel
theorem d_C_fold_41 : decode b_C_fold 41 = .ok (.ireturn, 1) := by decide +kernel
theorem d_C_timesX_0 : decode b_C_timesX 0 = .ok (.iload_n 0, 1) := by decide +kernel
theorem d_C_timesX_1 : decode b_C_timesX 1 = .ok (.iconst 1, 1) := by decide +kernel
theorem d_C_timesX_2 : decode b_C_timesX 2 = .ok (.ishl, 1) := by decide +kernel
theorem d_C_timesX_3 : decode b_C_timesX 3 = .ok (.istore_n 1, 1) := by decide +kernel
theorem d_C_timesX_4 : decode b_C_timesX 4 = .ok (.iload_n 1, 1) := by decide +kernel
theorem d_C_timesX_5 : decode b_C_timesX 5 = .ok (.bipush 18, 2) := by decide +kernel
theorem d_C_timesX_7 : decode b_C_timesX 7 = .ok (.iushr, 1) := by decide +kernel
theorem d_C_timesX_8 : decode b_C_timesX 8 = .ok (.iconst 1, 1) := by decide +kernel
theorem d_C_timesX_9 : decode b_C_timesX 9 = .ok (.iand, 1) := by decide +kernel
theorem d_C_timesX_10 : decode b_C_timesX 10 = .ok (.ifCond .eq 10, 3) := by decide +kernel
theorem d_C_timesX_13 : decode b_C_timesX 13 = .ok (.iload_n 1, 1) := by decide +kernel
theorem d_C_timesX_14 : decode b_C_timesX 14 = .ok (.ldc 41, 2) := by decide +kernel
theorem d_C_timesX_16 : decode b_C_timesX 16 = .ok (.ixor, 1) := by decide +kernel
theorem d_C_timesX_17 : decode b_C_timesX 17 = .ok (.goto 4, 3) := by decide +kernel
theorem d_C_timesX_20 : decode b_C_timesX 20 = .ok (.iload_n 1, 1) := by decide +kernel
theorem d_C_timesX_21 : decode b_C_timesX 21 = .ok (.ireturn, 1) := by decide +kernel
theorem d_F_erasePages_0 : decode b_F_erasePages 0 = .ok (.aload_n 0, 1) := by decide +kernel
theorem d_F_erasePages_1 : decode b_F_erasePages 1 = .ok (.invokevirtual 29, 3) := by decide +kernel
theorem d_F_erasePages_4 : decode b_F_erasePages 4 = .ok (.iload_n 1, 1) := by decide +kernel
theorem d_F_erasePages_5 : decode b_F_erasePages 5 = .ok (.istore_n 3, 1) := by decide +kernel
theorem d_F_erasePages_6 : decode b_F_erasePages 6 = .ok (.iload_n 3, 1) := by decide +kernel
theorem d_F_erasePages_7 : decode b_F_erasePages 7 = .ok (.iload_n 2, 1) := by decide +kernel
theorem d_F_erasePages_8 : decode b_F_erasePages 8 = .ok (.if_icmp .ge 14, 3) := by decide +kernel
theorem d_F_erasePages_11 : decode b_F_erasePages 11 = .ok (.aload_n 0, 1) := by decide +kernel
theorem d_F_erasePages_12 : decode b_F_erasePages 12 = .ok (.iload_n 3, 1) := by decide +kernel
theorem d_F_erasePages_13 : decode b_F_erasePages 13 = .ok (.invokevirtual 32, 3) := by decide +kernel
theorem d_F_erasePages_16 : decode b_F_erasePages 16 = .ok (.iinc 3 1, 3) := by decide +kernel
theorem d_F_erasePages_19 : decode b_F_erasePages 19 = .ok (.goto (-13), 3) := by decide +kernel
theorem d_F_erasePages_22 : decode b_F_erasePages 22 = .ok (.return_, 1) := by decide +kernel
theorem d_F_loadErased_0 : decode b_F_loadErased 0 = .ok (.aload_n 0, 1) := by decide +kernel
theorem d_F_loadErased_1 : decode b_F_loadErased 1 = .ok (.getfield 9, 3) := by decide +kernel
theorem d_F_loadErased_4 : decode b_F_loadErased 4 = .ok (.iconst (-1), 1) := by decide +kernel
theorem d_F_loadErased_5 : decode b_F_loadErased 5 = .ok (.invokestatic 71, 3) := by decide +kernel
theorem d_F_loadErased_8 : decode b_F_loadErased 8 = .ok (.aload_n 0, 1) := by decide +kernel
theorem d_F_loadErased_9 : decode b_F_loadErased 9 = .ok (.getfield 9, 3) := by decide +kernel
theorem d_F_loadErased_12 : decode b_F_loadErased 12 = .ok (.iconst 5, 1) := by decide +kernel
theorem d_F_loadErased_13 : decode b_F_loadErased 13 = .ok (.ldc 77, 2) := by decide +kernel
theorem d_F_loadErased_15 : decode b_F_loadErased 15 = .ok (.iastore, 1) := by decide +kernel
theorem d_F_loadErased_16 : decode b_F_loadErased 16 = .ok (.return_, 1) := by decide +kernel
theorem d_F_writeSeen_0 : decode b_F_writeSeen 0 = .ok (.aload_n 0, 1) := by decide +kernel
theorem d_F_writeSeen_1 : decode b_F_writeSeen 1 = .ok (.getfield 9, 3) := by decide +kernel
theorem d_F_writeSeen_4 : decode b_F_writeSeen 4 = .ok (.iconst 0, 1) := by decide +kernel
theorem d_F_writeSeen_5 : decode b_F_writeSeen 5 = .ok (.aload_n 0, 1) := by decide +kernel
theorem d_F_writeSeen_6 : decode b_F_writeSeen 6 = .ok (.getfield 26, 3) := by decide +kernel
theorem d_F_writeSeen_9 : decode b_F_writeSeen 9 = .ok (.iload_n 1, 1) := by decide +kernel
theorem d_F_writeSeen_10 : decode b_F_writeSeen 10 = .ok (.bipush 6, 2) := by decide +kernel
theorem d_F_writeSeen_12 : decode b_F_writeSeen 12 = .ok (.imul, 1) := by decide +kernel
theorem d_F_writeSeen_13 : decode b_F_writeSeen 13 = .ok (.bipush 6, 2) := by decide +kernel
theorem d_F_writeSeen_15 : decode b_F_writeSeen 15 = .ok (.invokestatic 36, 3) := by decide +kernel
theorem d_F_writeSeen_18 : decode b_F_writeSeen 18 = .ok (.return_, 1) := by decide +kernel
theorem d_F_readPage_0 : decode b_F_readPage 0 = .ok (.aload_n 0, 1) := by decide +kernel
theorem d_F_readPage_1 : decode b_F_readPage 1 = .ok (.iload_n 1, 1) := by decide +kernel
theorem d_F_readPage_2 : decode b_F_readPage 2 = .ok (.invokevirtual 49, 3) := by decide +kernel
theorem d_F_readPage_5 : decode b_F_readPage 5 = .ok (.aload_n 0, 1) := by decide +kernel
theorem d_F_readPage_6 : decode b_F_readPage 6 = .ok (.invokevirtual 52, 3) := by decide +kernel
theorem d_F_readPage_9 : decode b_F_readPage 9 = .ok (.iconst 2, 1) := by decide +kernel
theorem d_F_readPage_10 : decode b_F_readPage 10 = .ok (.if_icmp .gt 5, 3) := by decide +kernel
theorem d_F_readPage_13 : decode b_F_readPage 13 = .ok (.iconst 0, 1) := by decide +kernel
theorem d_F_readPage_14 : decode b_F_readPage 14 = .ok (.ireturn, 1) := by decide +kernel
theorem d_F_readPage_15 : decode b_F_readPage 15 = .ok (.aload_n 0, 1) := by decide +kernel
theorem d_F_readPage_16 : decode b_F_readPage 16 = .ok (.getfield 18, 3) := by decide +kernel
theorem d_F_readPage_19 : decode b_F_readPage 19 = .ok (.aload_n 0, 1) := by decide +kernel
theorem d_F_readPage_20 : decode b_F_readPage 20 = .ok (.getfield 9, 3) := by decide +kernel
theorem d_F_readPage_23 : decode b_F_readPage 23 = .ok (.invokevirtual 56, 3) := by decide +kernel
theorem d_F_readPage_26 : decode b_F_readPage 26 = .ok (.istore_n 2, 1) := by decide +kernel
theorem d_F_readPage_27 : decode b_F_readPage 27 = .ok (.iload_n 2, 1) := by decide +kernel
theorem d_F_readPage_28 : decode b_F_readPage 28 = .ok (.invokestatic 59, 3) := by decide +kernel
theorem d_F_readPage_31 : decode b_F_readPage 31 = .ok (.ifCond .eq 17, 3) := by decide +kernel
theorem d_F_readPage_34 : decode b_F_readPage 34 = .ok (.aload_n 0, 1) := by decide +kernel
theorem d_F_readPage_35 : decode b_F_readPage 35 = .ok (.invokevirtual 63, 3) := by decide +kernel
theorem d_F_readPage_38 : decode b_F_readPage 38 = .ok (.ifCond .ne 10, 3) := by decide +kernel
theorem d_F_readPage_41 : decode b_F_readPage 41 = .ok (.aload_n 0, 1) := by decide +kernel
theorem d_F_readPage_42 : decode b_F_readPage 42 = .ok (.iload_n 1, 1) := by decide +kernel
theorem d_F_readPage_43 : decode b_F_readPage 43 = .ok (.invokevirtual 49, 3) := by decide +kernel
theorem d_F_readPage_46 : decode b_F_readPage 46 = .ok (.iconst 3, 1) := by decide +kernel
theorem d_F_readPage_47 : decode b_F_readPage 47 = .ok (.ireturn, 1) := by decide +kernel
theorem d_F_readPage_48 : decode b_F_readPage 48 = .ok (.iload_n 2, 1) := by decide +kernel
theorem d_F_readPage_49 : decode b_F_readPage 49 = .ok (.ireturn, 1) := by decide +kernel
theorem d_F_loadRaw_0 : decode b_F_loadRaw 0 = .ok (.aload_n 0, 1) := by decide +kernel
theorem d_F_loadRaw_1 : decode b_F_loadRaw 1 = .ok (.getfield 26, 3) := by decide +kernel
theorem d_F_loadRaw_4 : decode b_F_loadRaw 4 = .ok (.iload_n 1, 1) := by decide +kernel
theorem d_F_loadRaw_5 : decode b_F_loadRaw 5 = .ok (.bipush 6, 2) := by decide +kernel
theorem d_F_loadRaw_7 : decode b_F_loadRaw 7 = .ok (.imul, 1) := by decide +kernel
theorem d_F_loadRaw_8 : decode b_F_loadRaw 8 = .ok (.aload_n 0, 1) := by decide +kernel
theorem d_F_loadRaw_9 : decode b_F_loadRaw 9 = .ok (.getfield 9, 3) := by decide +kernel
theorem d_F_loadRaw_12 : decode b_F_loadRaw 12 = .ok (.iconst 0, 1) := by decide +kernel
theorem d_F_loadRaw_13 : decode b_F_loadRaw 13 = .ok (.bipush 6, 2) := by decide +kernel
theorem d_F_loadRaw_15 : decode b_F_loadRaw 15 = .ok (.invokestatic 36, 3) := by decide +kernel
theorem d_F_loadRaw_18 : decode b_F_loadRaw 18 = .ok (.return_, 1) := by decide +kernel
theorem d_F_seenZeros_0 : decode b_F_seenZeros 0 = .ok (.sipush 178, 3) := by decide +kernel
theorem d_F_seenZeros_3 : decode b_F_seenZeros 3 = .ok (.istore_n 1, 1) := by decide +kernel
theorem d_F_seenZeros_4 : decode b_F_seenZeros 4 = .ok (.iconst 0, 1) := by decide +kernel
theorem d_F_seenZeros_5 : decode b_F_seenZeros 5 = .ok (.istore_n 2, 1) := by decide +kernel
theorem d_F_seenZeros_6 : decode b_F_seenZeros 6 = .ok (.iload_n 2, 1) := by decide +kernel
theorem d_F_seenZeros_7 : decode b_F_seenZeros 7 = .ok (.bipush 6, 2) := by decide +kernel
theorem d_F_seenZeros_9 : decode b_F_seenZeros 9 = .ok (.if_icmp .ge 21, 3) := by decide +kernel
theorem d_F_seenZeros_12 : decode b_F_seenZeros 12 = .ok (.iload_n 1, 1) := by decide +kernel
theorem d_F_seenZeros_13 : decode b_F_seenZeros 13 = .ok (.aload_n 0, 1) := by decide +kernel
theorem d_F_seenZeros_14 : decode b_F_seenZeros 14 = .ok (.getfield 9, 3) := by decide +kernel
theorem d_F_seenZeros_17 : decode b_F_seenZeros 17 = .ok (.iload_n 2, 1) := by decide +kernel
theorem d_F_seenZeros_18 : decode b_F_seenZeros 18 = .ok (.iaload, 1) := by decide +kernel
theorem d_F_seenZeros_19 : decode b_F_seenZeros 19 = .ok (.invokestatic 78, 3) := by decide +kernel
theorem d_F_seenZeros_22 : decode b_F_seenZeros 22 = .ok (.isub, 1) := by decide +kernel
theorem d_F_seenZeros_23 : decode b_F_seenZeros 23 = .ok (.istore_n 1, 1) := by decide +kernel
theorem d_F_seenZeros_24 : decode b_F_seenZeros 24 = .ok (.iinc 2 1, 3) := by decide +kernel
theorem d_F_seenZeros_27 : decode b_F_seenZeros 27 = .ok (.goto (-21), 3) := by decide +kernel
theorem d_F_seenZeros_30 : decode b_F_seenZeros 30 = .ok (.iload_n 1, 1) := by decide +kernel
theorem d_F_seenZeros_31 : decode b_F_seenZeros 31 = .ok (.ireturn, 1) := by decide +kernel
theorem d_JI_bitCount_0 : decode b_JI_bitCount 0 = .ok (.iload_n 0, 1) := by decide +kernel
theorem d_JI_bitCount_1 : decode b_JI_bitCount 1 = .ok (.iload_n 0, 1) := by decide +kernel
theorem d_JI_bitCount_2 : decode b_JI_bitCount 2 = .ok (.iconst 1, 1) := by decide +kernel
theorem d_JI_bitCount_3 : decode b_JI_bitCount 3 = .ok (.iushr, 1) := by decide +kernel
theorem d_JI_bitCount_4 : decode b_JI_bitCount 4 = .ok (.ldc_w 265, 3) := by decide +kernel
theorem d_JI_bitCount_7 : decode b_JI_bitCount 7 = .ok (.iand, 1) := by decide +kernel
theorem d_JI_bitCount_8 : decode b_JI_bitCount 8 = .ok (.isub, 1) := by decide +kernel
theorem d_JI_bitCount_9 : decode b_JI_bitCount 9 = .ok (.istore_n 0, 1) := by decide +kernel
theorem d_JI_bitCount_10 : decode b_JI_bitCount 10 = .ok (.iload_n 0, 1) := by decide +kernel
theorem d_JI_bitCount_11 : decode b_JI_bitCount 11 = .ok (.ldc_w 266, 3) := by decide +kernel
theorem d_JI_bitCount_14 : decode b_JI_bitCount 14 = .ok (.iand, 1) := by decide +kernel
theorem d_JI_bitCount_15 : decode b_JI_bitCount 15 = .ok (.iload_n 0, 1) := by decide +kernel
theorem d_JI_bitCount_16 : decode b_JI_bitCount 16 = .ok (.iconst 2, 1) := by decide +kernel
theorem d_JI_bitCount_17 : decode b_JI_bitCount 17 = .ok (.iushr, 1) := by decide +kernel
theorem d_JI_bitCount_18 : decode b_JI_bitCount 18 = .ok (.ldc_w 266, 3) := by decide +kernel
theorem d_JI_bitCount_21 : decode b_JI_bitCount 21 = .ok (.iand, 1) := by decide +kernel
theorem d_JI_bitCount_22 : decode b_JI_bitCount 22 = .ok (.iadd, 1) := by decide +kernel
theorem d_JI_bitCount_23 : decode b_JI_bitCount 23 = .ok (.istore_n 0, 1) := by decide +kernel
theorem d_JI_bitCount_24 : decode b_JI_bitCount 24 = .ok (.iload_n 0, 1) := by decide +kernel
theorem d_JI_bitCount_25 : decode b_JI_bitCount 25 = .ok (.iload_n 0, 1) := by decide +kernel
theorem d_JI_bitCount_26 : decode b_JI_bitCount 26 = .ok (.iconst 4, 1) := by decide +kernel
theorem d_JI_bitCount_27 : decode b_JI_bitCount 27 = .ok (.iushr, 1) := by decide +kernel
theorem d_JI_bitCount_28 : decode b_JI_bitCount 28 = .ok (.iadd, 1) := by decide +kernel
theorem d_JI_bitCount_29 : decode b_JI_bitCount 29 = .ok (.ldc_w 267, 3) := by decide +kernel
theorem d_JI_bitCount_32 : decode b_JI_bitCount 32 = .ok (.iand, 1) := by decide +kernel
theorem d_JI_bitCount_33 : decode b_JI_bitCount 33 = .ok (.istore_n 0, 1) := by decide +kernel
theorem d_JI_bitCount_34 : decode b_JI_bitCount 34 = .ok (.iload_n 0, 1) := by decide +kernel
theorem d_JI_bitCount_35 : decode b_JI_bitCount 35 = .ok (.iload_n 0, 1) := by decide +kernel
theorem d_JI_bitCount_36 : decode b_JI_bitCount 36 = .ok (.bipush 8, 2) := by decide +kernel
theorem d_JI_bitCount_38 : decode b_JI_bitCount 38 = .ok (.iushr, 1) := by decide +kernel
theorem d_JI_bitCount_39 : decode b_JI_bitCount 39 = .ok (.iadd, 1) := by decide +kernel
theorem d_JI_bitCount_40 : decode b_JI_bitCount 40 = .ok (.istore_n 0, 1) := by decide +kernel
theorem d_JI_bitCount_41 : decode b_JI_bitCount 41 = .ok (.iload_n 0, 1) := by decide +kernel
theorem d_JI_bitCount_42 : decode b_JI_bitCount 42 = .ok (.iload_n 0, 1) := by decide +kernel
theorem d_JI_bitCount_43 : decode b_JI_bitCount 43 = .ok (.bipush 16, 2) := by decide +kernel
theorem d_JI_bitCount_45 : decode b_JI_bitCount 45 = .ok (.iushr, 1) := by decide +kernel
theorem d_JI_bitCount_46 : decode b_JI_bitCount 46 = .ok (.iadd, 1) := by decide +kernel
theorem d_JI_bitCount_47 : decode b_JI_bitCount 47 = .ok (.istore_n 0, 1) := by decide +kernel
theorem d_JI_bitCount_48 : decode b_JI_bitCount 48 = .ok (.iload_n 0, 1) := by decide +kernel
theorem d_JI_bitCount_49 : decode b_JI_bitCount 49 = .ok (.bipush 63, 2) := by decide +kernel
theorem d_JI_bitCount_51 : decode b_JI_bitCount 51 = .ok (.iand, 1) := by decide +kernel
theorem d_JI_bitCount_52 : decode b_JI_bitCount 52 = .ok (.ireturn, 1) := by decide +kernel
theorem d_C_mend_0 : decode b_C_mend 0 = .ok (.aload_n 0, 1) := by decide +kernel
theorem d_C_mend_1 : decode b_C_mend 1 = .ok (.aload_n 1, 1) := by decide +kernel
theorem d_C_mend_2 : decode b_C_mend 2 = .ok (.sipush 178, 3) := by decide +kernel
theorem d_C_mend_5 : decode b_C_mend 5 = .ok (.invokevirtual 31, 3) := by decide +kernel
theorem d_C_mend_8 : decode b_C_mend 8 = .ok (.istore_n 2, 1) := by decide +kernel
theorem d_C_mend_9 : decode b_C_mend 9 = .ok (.iload_n 2, 1) := by decide +kernel
theorem d_C_mend_10 : decode b_C_mend 10 = .ok (.ifCond .ne 5, 3) := by decide +kernel
theorem d_C_mend_13 : decode b_C_mend 13 = .ok (.iconst 1, 1) := by decide +kernel
theorem d_C_mend_14 : decode b_C_mend 14 = .ok (.ireturn, 1) := by decide +kernel
theorem d_C_mend_15 : decode b_C_mend 15 = .ok (.aload_n 0, 1) := by decide +kernel
theorem d_C_mend_16 : decode b_C_mend 16 = .ok (.iload_n 2, 1) := by decide +kernel
theorem d_C_mend_17 : decode b_C_mend 17 = .ok (.invokevirtual 35, 3) := by decide +kernel
theorem d_C_mend_20 : decode b_C_mend 20 = .ok (.istore_n 3, 1) := by decide +kernel
theorem d_C_mend_21 : decode b_C_mend 21 = .ok (.iload_n 3, 1) := by decide +kernel
theorem d_C_mend_22 : decode b_C_mend 22 = .ok (.iconst (-1), 1) := by decide +kernel
theorem d_C_mend_23 : decode b_C_mend 23 = .ok (.if_icmp .eq 10, 3) := by decide +kernel
theorem d_C_mend_26 : decode b_C_mend 26 = .ok (.aload_n 1, 1) := by decide +kernel
theorem d_C_mend_27 : decode b_C_mend 27 = .ok (.iload_n 3, 1) := by decide +kernel
theorem d_C_mend_28 : decode b_C_mend 28 = .ok (.invokestatic 38, 3) := by decide +kernel
theorem d_C_mend_31 : decode b_C_mend 31 = .ok (.iconst 2, 1) := by decide +kernel
theorem d_C_mend_32 : decode b_C_mend 32 = .ok (.ireturn, 1) := by decide +kernel
theorem d_C_mend_33 : decode b_C_mend 33 = .ok (.iconst 0, 1) := by decide +kernel
theorem d_C_mend_34 : decode b_C_mend 34 = .ok (.istore 4, 2) := by decide +kernel
theorem d_C_mend_36 : decode b_C_mend 36 = .ok (.iload 4, 2) := by decide +kernel
theorem d_C_mend_38 : decode b_C_mend 38 = .ok (.sipush 178, 3) := by decide +kernel
theorem d_C_mend_41 : decode b_C_mend 41 = .ok (.if_icmp .ge 44, 3) := by decide +kernel
theorem d_C_mend_44 : decode b_C_mend 44 = .ok (.aload_n 0, 1) := by decide +kernel
theorem d_C_mend_45 : decode b_C_mend 45 = .ok (.iload_n 2, 1) := by decide +kernel
theorem d_C_mend_46 : decode b_C_mend 46 = .ok (.aload_n 0, 1) := by decide +kernel
theorem d_C_mend_47 : decode b_C_mend 47 = .ok (.getfield 11, 3) := by decide +kernel
theorem d_C_mend_50 : decode b_C_mend 50 = .ok (.iload 4, 2) := by decide +kernel
theorem d_C_mend_52 : decode b_C_mend 52 = .ok (.iaload, 1) := by decide +kernel
theorem d_C_mend_53 : decode b_C_mend 53 = .ok (.ixor, 1) := by decide +kernel
theorem d_C_mend_54 : decode b_C_mend 54 = .ok (.invokevirtual 35, 3) := by decide +kernel
theorem d_C_mend_57 : decode b_C_mend 57 = .ok (.istore 5, 2) := by decide +kernel
theorem d_C_mend_59 : decode b_C_mend 59 = .ok (.iload 5, 2) := by decide +kernel
theorem d_C_mend_61 : decode b_C_mend 61 = .ok (.iconst (-1), 1) := by decide +kernel
theorem d_C_mend_62 : decode b_C_mend 62 = .ok (.if_icmp .eq 17, 3) := by decide +kernel
theorem d_C_mend_65 : decode b_C_mend 65 = .ok (.aload_n 1, 1) := by decide +kernel
theorem d_C_mend_66 : decode b_C_mend 66 = .ok (.iload 4, 2) := by decide +kernel
theorem d_C_mend_68 : decode b_C_mend 68 = .ok (.invokestatic 38, 3) := by decide +kernel
theorem d_C_mend_71 : decode b_C_mend 71 = .ok (.aload_n 1, 1) := by decide +kernel
theorem d_C_mend_72 : decode b_C_mend 72 = .ok (.iload 5, 2) := by decide +kernel
theorem d_C_mend_74 : decode b_C_mend 74 = .ok (.invokestatic 38, 3) := by decide +kernel
theorem d_C_mend_77 : decode b_C_mend 77 = .ok (.iconst 2, 1) := by decide +kernel
theorem d_C_mend_78 : decode b_C_mend 78 = .ok (.ireturn, 1) := by decide +kernel
theorem d_C_mend_79 : decode b_C_mend 79 = .ok (.iinc 4 1, 3) := by decide +kernel
theorem d_C_mend_82 : decode b_C_mend 82 = .ok (.goto (-46), 3) := by decide +kernel
theorem d_C_mend_85 : decode b_C_mend 85 = .ok (.iconst 3, 1) := by decide +kernel
theorem d_C_mend_86 : decode b_C_mend 86 = .ok (.ireturn, 1) := by decide +kernel
theorem d_C_remainder_0 : decode b_C_remainder 0 = .ok (.iconst 0, 1) := by decide +kernel
theorem d_C_remainder_1 : decode b_C_remainder 1 = .ok (.istore_n 3, 1) := by decide +kernel
theorem d_C_remainder_2 : decode b_C_remainder 2 = .ok (.iconst 0, 1) := by decide +kernel
theorem d_C_remainder_3 : decode b_C_remainder 3 = .ok (.istore 4, 2) := by decide +kernel
theorem d_C_remainder_5 : decode b_C_remainder 5 = .ok (.iload 4, 2) := by decide +kernel
theorem d_C_remainder_7 : decode b_C_remainder 7 = .ok (.iload_n 2, 1) := by decide +kernel
theorem d_C_remainder_8 : decode b_C_remainder 8 = .ok (.if_icmp .ge 37, 3) := by decide +kernel
theorem d_C_remainder_11 : decode b_C_remainder 11 = .ok (.aload_n 1, 1) := by decide +kernel
theorem d_C_remainder_12 : decode b_C_remainder 12 = .ok (.iload 4, 2) := by decide +kernel
theorem d_C_remainder_14 : decode b_C_remainder 14 = .ok (.bipush 32, 2) := by decide +kernel
theorem d_C_remainder_16 : decode b_C_remainder 16 = .ok (.idiv, 1) := by decide +kernel
theorem d_C_remainder_17 : decode b_C_remainder 17 = .ok (.iaload, 1) := by decide +kernel
theorem d_C_remainder_18 : decode b_C_remainder 18 = .ok (.iload 4, 2) := by decide +kernel
theorem d_C_remainder_20 : decode b_C_remainder 20 = .ok (.bipush 32, 2) := by decide +kernel
theorem d_C_remainder_22 : decode b_C_remainder 22 = .ok (.irem, 1) := by decide +kernel
theorem d_C_remainder_23 : decode b_C_remainder 23 = .ok (.iushr, 1) := by decide +kernel
theorem d_C_remainder_24 : decode b_C_remainder 24 = .ok (.iconst 1, 1) := by decide +kernel
theorem d_C_remainder_25 : decode b_C_remainder 25 = .ok (.iand, 1) := by decide +kernel
theorem d_C_remainder_26 : decode b_C_remainder 26 = .ok (.ifCond .eq 13, 3) := by decide +kernel
theorem d_C_remainder_29 : decode b_C_remainder 29 = .ok (.iload_n 3, 1) := by decide +kernel
theorem d_C_remainder_30 : decode b_C_remainder 30 = .ok (.aload_n 0, 1) := by decide +kernel
theorem d_C_remainder_31 : decode b_C_remainder 31 = .ok (.getfield 11, 3) := by decide +kernel
theorem d_C_remainder_34 : decode b_C_remainder 34 = .ok (.iload 4, 2) := by decide +kernel
theorem d_C_remainder_36 : decode b_C_remainder 36 = .ok (.iaload, 1) := by decide +kernel
theorem d_C_remainder_37 : decode b_C_remainder 37 = .ok (.ixor, 1) := by decide +kernel
theorem d_C_remainder_38 : decode b_C_remainder 38 = .ok (.istore_n 3, 1) := by decide +kernel
theorem d_C_remainder_39 : decode b_C_remainder 39 = .ok (.iinc 4 1, 3) := by decide +kernel
theorem d_C_remainder_42 : decode b_C_remainder 42 = .ok (.goto (-37), 3) := by decide +kernel
theorem d_C_remainder_45 : decode b_C_remainder 45 = .ok (.iload_n 3, 1) := by decide +kernel
theorem d_C_remainder_46 : decode b_C_remainder 46 = .ok (.ireturn, 1) := by decide +kernel
theorem d_C_bitWith_0 : decode b_C_bitWith 0 = .ok (.aload_n 0, 1) := by decide +kernel
theorem d_C_bitWith_1 : decode b_C_bitWith 1 = .ok (.getfield 15, 3) := by decide +kernel
theorem d_C_bitWith_4 : decode b_C_bitWith 4 = .ok (.iload_n 1, 1) := by decide +kernel
theorem d_C_bitWith_5 : decode b_C_bitWith 5 = .ok (.invokestatic 24, 3) := by decide +kernel
theorem d_C_bitWith_8 : decode b_C_bitWith 8 = .ok (.iaload, 1) := by decide +kernel
theorem d_C_bitWith_9 : decode b_C_bitWith 9 = .ok (.istore_n 2, 1) := by decide +kernel
theorem d_C_bitWith_10 : decode b_C_bitWith 10 = .ok (.iload_n 2, 1) := by decide +kernel
theorem d_C_bitWith_11 : decode b_C_bitWith 11 = .ok (.iconst (-1), 1) := by decide +kernel
theorem d_C_bitWith_12 : decode b_C_bitWith 12 = .ok (.if_icmp .eq 17, 3) := by decide +kernel
theorem d_C_bitWith_15 : decode b_C_bitWith 15 = .ok (.aload_n 0, 1) := by decide +kernel
theorem d_C_bitWith_16 : decode b_C_bitWith 16 = .ok (.getfield 11, 3) := by decide +kernel
theorem d_C_bitWith_19 : decode b_C_bitWith 19 = .ok (.iload_n 2, 1) := by decide +kernel
theorem d_C_bitWith_20 : decode b_C_bitWith 20 = .ok (.iaload, 1) := by decide +kernel
theorem d_C_bitWith_21 : decode b_C_bitWith 21 = .ok (.iload_n 1, 1) := by decide +kernel
theorem d_C_bitWith_22 : decode b_C_bitWith 22 = .ok (.if_icmp .ne 7, 3) := by decide +kernel
theorem d_C_bitWith_25 : decode b_C_bitWith 25 = .ok (.iload_n 2, 1) := by decide +kernel
theorem d_C_bitWith_26 : decode b_C_bitWith 26 = .ok (.goto 4, 3) := by decide +kernel
theorem d_C_bitWith_29 : decode b_C_bitWith 29 = .ok (.iconst (-1), 1) := by decide +kernel
theorem d_C_bitWith_30 : decode b_C_bitWith 30 = .ok (.ireturn, 1) := by decide +kernel
theorem d_C_turn_0 : decode b_C_turn 0 = .ok (.aload_n 0, 1) := by decide +kernel
theorem d_C_turn_1 : decode b_C_turn 1 = .ok (.iload_n 1, 1) := by decide +kernel
theorem d_C_turn_2 : decode b_C_turn 2 = .ok (.bipush 32, 2) := by decide +kernel
theorem d_C_turn_4 : decode b_C_turn 4 = .ok (.idiv, 1) := by decide +kernel
theorem d_C_turn_5 : decode b_C_turn 5 = .ok (.dup2, 1) := by decide +kernel
theorem d_C_turn_6 : decode b_C_turn 6 = .ok (.iaload, 1) := by decide +kernel
theorem d_C_turn_7 : decode b_C_turn 7 = .ok (.iconst 1, 1) := by decide +kernel
theorem d_C_turn_8 : decode b_C_turn 8 = .ok (.iload_n 1, 1) := by decide +kernel
theorem d_C_turn_9 : decode b_C_turn 9 = .ok (.bipush 32, 2) := by decide +kernel
theorem d_C_turn_11 : decode b_C_turn 11 = .ok (.irem, 1) := by decide +kernel
theorem d_C_turn_12 : decode b_C_turn 12 = .ok (.ishl, 1) := by decide +kernel
theorem d_C_turn_13 : decode b_C_turn 13 = .ok (.ixor, 1) := by decide +kernel
theorem d_C_turn_14 : decode b_C_turn 14 = .ok (.iastore, 1) := by decide +kernel
theorem d_C_turn_15 : decode b_C_turn 15 = .ok (.return_, 1) := by decide +kernel
theorem d_F_isRecord_0 : decode b_F_isRecord 0 = .ok (.aload_n 0, 1) := by decide +kernel
theorem d_F_isRecord_1 : decode b_F_isRecord 1 = .ok (.getfield 9, 3) := by decide +kernel
theorem d_F_isRecord_4 : decode b_F_isRecord 4 = .ok (.iconst 4, 1) := by decide +kernel
theorem d_F_isRecord_5 : decode b_F_isRecord 5 = .ok (.iaload, 1) := by decide +kernel
theorem d_F_isRecord_6 : decode b_F_isRecord 6 = .ok (.aload_n 0, 1) := by decide +kernel
theorem d_F_isRecord_7 : decode b_F_isRecord 7 = .ok (.getfield 9, 3) := by decide +kernel
theorem d_F_isRecord_10 : decode b_F_isRecord 10 = .ok (.invokestatic 42, 3) := by decide +kernel
theorem d_F_isRecord_13 : decode b_F_isRecord 13 = .ok (.if_icmp .ne 39, 3) := by decide +kernel
theorem d_F_isRecord_16 : decode b_F_isRecord 16 = .ok (.aload_n 0, 1) := by decide +kernel
theorem d_F_isRecord_17 : decode b_F_isRecord 17 = .ok (.getfield 9, 3) := by decide +kernel
theorem d_F_isRecord_20 : decode b_F_isRecord 20 = .ok (.iconst 1, 1) := by decide +kernel
theorem d_F_isRecord_21 : decode b_F_isRecord 21 = .ok (.iaload, 1) := by decide +kernel
theorem d_F_isRecord_22 : decode b_F_isRecord 22 = .ok (.invokestatic 83, 3) := by decide +kernel
theorem d_F_isRecord_25 : decode b_F_isRecord 25 = .ok (.ifCond .eq 27, 3) := by decide +kernel
theorem d_F_isRecord_28 : decode b_F_isRecord 28 = .ok (.aload_n 0, 1) := by decide +kernel
theorem d_F_isRecord_29 : decode b_F_isRecord 29 = .ok (.getfield 9, 3) := by decide +kernel
theorem d_F_isRecord_32 : decode b_F_isRecord 32 = .ok (.iconst 3, 1) := by decide +kernel
theorem d_F_isRecord_33 : decode b_F_isRecord 33 = .ok (.iaload, 1) := by decide +kernel
theorem d_F_isRecord_34 : decode b_F_isRecord 34 = .ok (.iconst 1, 1) := by decide +kernel
theorem d_F_isRecord_35 : decode b_F_isRecord 35 = .ok (.if_icmp .eq 13, 3) := by decide +kernel
theorem d_F_isRecord_38 : decode b_F_isRecord 38 = .ok (.aload_n 0, 1) := by decide +kernel
theorem d_F_isRecord_39 : decode b_F_isRecord 39 = .ok (.getfield 9, 3) := by decide +kernel
theorem d_F_isRecord_42 : decode b_F_isRecord 42 = .ok (.iconst 3, 1) := by decide +kernel
theorem d_F_isRecord_43 : decode b_F_isRecord 43 = .ok (.iaload, 1) := by decide +kernel
theorem d_F_isRecord_44 : decode b_F_isRecord 44 = .ok (.iconst 2, 1) := by decide +kernel
theorem d_F_isRecord_45 : decode b_F_isRecord 45 = .ok (.if_icmp .ne 7, 3) := by decide +kernel
theorem d_F_isRecord_48 : decode b_F_isRecord 48 = .ok (.iconst 1, 1) := by decide +kernel
theorem d_F_isRecord_49 : decode b_F_isRecord 49 = .ok (.goto 4, 3) := by decide +kernel
theorem d_F_isRecord_52 : decode b_F_isRecord 52 = .ok (.iconst 0, 1) := by decide +kernel
theorem d_F_isRecord_53 : decode b_F_isRecord 53 = .ok (.ireturn, 1) := by decide +kernel
theorem d_C_check_0 : decode b_C_check 0 = .ok (.aload_n 0, 1) := by decide +kernel
theorem d_C_check_1 : decode b_C_check 1 = .ok (.iconst 0, 1) := by decide +kernel
theorem d_C_check_2 : decode b_C_check 2 = .ok (.iaload, 1) := by decide +kernel
theorem d_C_check_3 : decode b_C_check 3 = .ok (.bipush 31, 2) := by decide +kernel
theorem d_C_check_5 : decode b_C_check 5 = .ok (.imul, 1) := by decide +kernel
theorem d_C_check_6 : decode b_C_check 6 = .ok (.aload_n 0, 1) := by decide +kernel
theorem d_C_check_7 : decode b_C_check 7 = .ok (.iconst 1, 1) := by decide +kernel
theorem d_C_check_8 : decode b_C_check 8 = .ok (.iaload, 1) := by decide +kernel
theorem d_C_check_9 : decode b_C_check 9 = .ok (.iadd, 1) := by decide +kernel
theorem d_C_check_10 : decode b_C_check 10 = .ok (.bipush 31, 2) := by decide +kernel
theorem d_C_check_12 : decode b_C_check 12 = .ok (.imul, 1) := by decide +kernel
theorem d_C_check_13 : decode b_C_check 13 = .ok (.aload_n 0, 1) := by decide +kernel
theorem d_C_check_14 : decode b_C_check 14 = .ok (.iconst 2, 1) := by decide +kernel
theorem d_C_check_15 : decode b_C_check 15 = .ok (.iaload, 1) := by decide +kernel
theorem d_C_check_16 : decode b_C_check 16 = .ok (.iadd, 1) := by decide +kernel
theorem d_C_check_17 : decode b_C_check 17 = .ok (.bipush 31, 2) := by decide +kernel
theorem d_C_check_19 : decode b_C_check 19 = .ok (.imul, 1) := by decide +kernel
theorem d_C_check_20 : decode b_C_check 20 = .ok (.aload_n 0, 1) := by decide +kernel
theorem d_C_check_21 : decode b_C_check 21 = .ok (.iconst 3, 1) := by decide +kernel
theorem d_C_check_22 : decode b_C_check 22 = .ok (.iaload, 1) := by decide +kernel
theorem d_C_check_23 : decode b_C_check 23 = .ok (.iadd, 1) := by decide +kernel
theorem d_C_check_24 : decode b_C_check 24 = .ok (.istore_n 1, 1) := by decide +kernel
theorem d_C_check_25 : decode b_C_check 25 = .ok (.iload_n 1, 1) := by decide +kernel
theorem d_C_check_26 : decode b_C_check 26 = .ok (.iload_n 1, 1) := by decide +kernel
theorem d_C_check_27 : decode b_C_check 27 = .ok (.bipush 15, 2) := by decide +kernel
theorem d_C_check_29 : decode b_C_check 29 = .ok (.iushr, 1) := by decide +kernel
theorem d_C_check_30 : decode b_C_check 30 = .ok (.ixor, 1) := by decide +kernel
theorem d_C_check_31 : decode b_C_check 31 = .ok (.ireturn, 1) := by decide +kernel
theorem d_F_loadRecord_0 : decode b_F_loadRecord 0 = .ok (.aload_n 0, 1) := by decide +kernel
theorem d_F_loadRecord_1 : decode b_F_loadRecord 1 = .ok (.getfield 9, 3) := by decide +kernel
theorem d_F_loadRecord_4 : decode b_F_loadRecord 4 = .ok (.iconst 0, 1) := by decide +kernel
theorem d_F_loadRecord_5 : decode b_F_loadRecord 5 = .ok (.iload_n 1, 1) := by decide +kernel
theorem d_F_loadRecord_6 : decode b_F_loadRecord 6 = .ok (.iastore, 1) := by decide +kernel
theorem d_F_loadRecord_7 : decode b_F_loadRecord 7 = .ok (.aload_n 0, 1) := by decide +kernel
theorem d_F_loadRecord_8 : decode b_F_loadRecord 8 = .ok (.getfield 9, 3) := by decide +kernel
theorem d_F_loadRecord_11 : decode b_F_loadRecord 11 = .ok (.iconst 1, 1) := by decide +kernel
theorem d_F_loadRecord_12 : decode b_F_loadRecord 12 = .ok (.iload_n 2, 1) := by decide +kernel
theorem d_F_loadRecord_13 : decode b_F_loadRecord 13 = .ok (.iastore, 1) := by decide +kernel
theorem d_F_loadRecord_14 : decode b_F_loadRecord 14 = .ok (.aload_n 0, 1) := by decide +kernel
theorem d_F_loadRecord_15 : decode b_F_loadRecord 15 = .ok (.getfield 9, 3) := by decide +kernel
theorem d_F_loadRecord_18 : decode b_F_loadRecord 18 = .ok (.iconst 2, 1) := by decide +kernel
theorem d_F_loadRecord_19 : decode b_F_loadRecord 19 = .ok (.iload_n 3, 1) := by decide +kernel
theorem d_F_loadRecord_20 : decode b_F_loadRecord 20 = .ok (.iastore, 1) := by decide +kernel
theorem d_F_loadRecord_21 : decode b_F_loadRecord 21 = .ok (.aload_n 0, 1) := by decide +kernel
theorem d_F_loadRecord_22 : decode b_F_loadRecord 22 = .ok (.getfield 9, 3) := by decide +kernel
theorem d_F_loadRecord_25 : decode b_F_loadRecord 25 = .ok (.iconst 3, 1) := by decide +kernel
theorem d_F_loadRecord_26 : decode b_F_loadRecord 26 = .ok (.iload 4, 2) := by decide +kernel
theorem d_F_loadRecord_28 : decode b_F_loadRecord 28 = .ok (.iastore, 1) := by decide +kernel
theorem d_F_loadRecord_29 : decode b_F_loadRecord 29 = .ok (.aload_n 0, 1) := by decide +kernel
theorem d_F_loadRecord_30 : decode b_F_loadRecord 30 = .ok (.getfield 9, 3) := by decide +kernel
theorem d_F_loadRecord_33 : decode b_F_loadRecord 33 = .ok (.iconst 4, 1) := by decide +kernel
theorem d_F_loadRecord_34 : decode b_F_loadRecord 34 = .ok (.aload_n 0, 1) := by decide +kernel
theorem d_F_loadRecord_35 : decode b_F_loadRecord 35 = .ok (.getfield 9, 3) := by decide +kernel
theorem d_F_loadRecord_38 : decode b_F_loadRecord 38 = .ok (.invokestatic 42, 3) := by decide +kernel
theorem d_F_loadRecord_41 : decode b_F_loadRecord 41 = .ok (.iastore, 1) := by decide +kernel
theorem d_F_loadRecord_42 : decode b_F_loadRecord 42 = .ok (.aload_n 0, 1) := by decide +kernel
theorem d_F_loadRecord_43 : decode b_F_loadRecord 43 = .ok (.getfield 9, 3) := by decide +kernel
theorem d_F_loadRecord_46 : decode b_F_loadRecord 46 = .ok (.iconst 5, 1) := by decide +kernel
theorem d_F_loadRecord_47 : decode b_F_loadRecord 47 = .ok (.aload_n 0, 1) := by decide +kernel
theorem d_F_loadRecord_48 : decode b_F_loadRecord 48 = .ok (.getfield 18, 3) := by decide +kernel
theorem d_F_loadRecord_51 : decode b_F_loadRecord 51 = .ok (.aload_n 0, 1) := by decide +kernel
theorem d_F_loadRecord_52 : decode b_F_loadRecord 52 = .ok (.getfield 9, 3) := by decide +kernel
theorem d_F_loadRecord_55 : decode b_F_loadRecord 55 = .ok (.invokevirtual 46, 3) := by decide +kernel
theorem d_F_loadRecord_58 : decode b_F_loadRecord 58 = .ok (.iastore, 1) := by decide +kernel
theorem d_F_loadRecord_59 : decode b_F_loadRecord 59 = .ok (.return_, 1) := by decide +kernel
theorem d_C_parity_0 : decode b_C_parity 0 = .ok (.aload_n 0, 1) := by decide +kernel
theorem d_C_parity_1 : decode b_C_parity 1 = .ok (.aload_n 1, 1) := by decide +kernel
theorem d_C_parity_2 : decode b_C_parity 2 = .ok (.sipush 160, 3) := by decide +kernel
theorem d_C_parity_5 : decode b_C_parity 5 = .ok (.invokevirtual 31, 3) := by decide +kernel
theorem d_C_parity_8 : decode b_C_parity 8 = .ok (.ireturn, 1) := by decide +kernel
theorem d_F_isPage_0 : decode b_F_isPage 0 = .ok (.iload_n 1, 1) := by decide +kernel
theorem d_F_isPage_1 : decode b_F_isPage 1 = .ok (.ifCond .lt 15, 3) := by decide +kernel
theorem d_F_isPage_4 : decode b_F_isPage 4 = .ok (.iload_n 1, 1) := by decide +kernel
theorem d_F_isPage_5 : decode b_F_isPage 5 = .ok (.aload_n 0, 1) := by decide +kernel
theorem d_F_isPage_6 : decode b_F_isPage 6 = .ok (.getfield 22, 3) := by decide +kernel
theorem d_F_isPage_9 : decode b_F_isPage 9 = .ok (.if_icmp .ge 7, 3) := by decide +kernel
theorem d_F_isPage_12 : decode b_F_isPage 12 = .ok (.iconst 1, 1) := by decide +kernel
theorem d_F_isPage_13 : decode b_F_isPage 13 = .ok (.goto 4, 3) := by decide +kernel
theorem d_F_isPage_16 : decode b_F_isPage 16 = .ok (.iconst 0, 1) := by decide +kernel
theorem d_F_isPage_17 : decode b_F_isPage 17 = .ok (.ireturn, 1) := by decide +kernel
theorem d_F_turnBit_0 : decode b_F_turnBit 0 = .ok (.aload_n 0, 1) := by decide +kernel
theorem d_F_turnBit_1 : decode b_F_turnBit 1 = .ok (.getfield 26, 3) := by decide +kernel
theorem d_F_turnBit_4 : decode b_F_turnBit 4 = .ok (.iload_n 1, 1) := by decide +kernel
theorem d_F_turnBit_5 : decode b_F_turnBit 5 = .ok (.bipush 6, 2) := by decide +kernel
theorem d_F_turnBit_7 : decode b_F_turnBit 7 = .ok (.imul, 1) := by decide +kernel
theorem d_F_turnBit_8 : decode b_F_turnBit 8 = .ok (.iload_n 2, 1) := by decide +kernel
theorem d_F_turnBit_9 : decode b_F_turnBit 9 = .ok (.bipush 32, 2) := by decide +kernel
theorem d_F_turnBit_11 : decode b_F_turnBit 11 = .ok (.idiv, 1) := by decide +kernel
theorem d_F_turnBit_12 : decode b_F_turnBit 12 = .ok (.iadd, 1) := by decide +kernel
theorem d_F_turnBit_13 : decode b_F_turnBit 13 = .ok (.dup2, 1) := by decide +kernel
theorem d_F_turnBit_14 : decode b_F_turnBit 14 = .ok (.iaload, 1) := by decide +kernel
theorem d_F_turnBit_15 : decode b_F_turnBit 15 = .ok (.iconst 1, 1) := by decide +kernel
theorem d_F_turnBit_16 : decode b_F_turnBit 16 = .ok (.iload_n 2, 1) := by decide +kernel
theorem d_F_turnBit_17 : decode b_F_turnBit 17 = .ok (.bipush 32, 2) := by decide +kernel
theorem d_F_turnBit_19 : decode b_F_turnBit 19 = .ok (.irem, 1) := by decide +kernel
theorem d_F_turnBit_20 : decode b_F_turnBit 20 = .ok (.ishl, 1) := by decide +kernel
theorem d_F_turnBit_21 : decode b_F_turnBit 21 = .ok (.ixor, 1) := by decide +kernel
theorem d_F_turnBit_22 : decode b_F_turnBit 22 = .ok (.iastore, 1) := by decide +kernel
theorem d_F_turnBit_23 : decode b_F_turnBit 23 = .ok (.return_, 1) := by decide +kernel
theorem d_F_loadFresh_0 : decode b_F_loadFresh 0 = .ok (.aload_n 0, 1) := by decide +kernel
theorem d_F_loadFresh_1 : decode b_F_loadFresh 1 = .ok (.iload_n 1, 1) := by decide +kernel
theorem d_F_loadFresh_2 : decode b_F_loadFresh 2 = .ok (.invokevirtual 67, 3) := by decide +kernel
theorem d_F_loadFresh_5 : decode b_F_loadFresh 5 = .ok (.istore_n 2, 1) := by decide +kernel
theorem d_F_loadFresh_6 : decode b_F_loadFresh 6 = .ok (.iload_n 2, 1) := by decide +kernel
theorem d_F_loadFresh_7 : decode b_F_loadFresh 7 = .ok (.ifCond .ne 16, 3) := by decide +kernel
theorem d_F_loadFresh_10 : decode b_F_loadFresh 10 = .ok (.aload_n 0, 1) := by decide +kernel
theorem d_F_loadFresh_11 : decode b_F_loadFresh 11 = .ok (.invokevirtual 52, 3) := by decide +kernel
theorem d_F_loadFresh_14 : decode b_F_loadFresh 14 = .ok (.ifCond .le 9, 3) := by decide +kernel
theorem d_F_loadFresh_17 : decode b_F_loadFresh 17 = .ok (.aload_n 0, 1) := by decide +kernel
theorem d_F_loadFresh_18 : decode b_F_loadFresh 18 = .ok (.invokevirtual 29, 3) := by decide +kernel
theorem d_F_loadFresh_21 : decode b_F_loadFresh 21 = .ok (.iconst 1, 1) := by decide +kernel
theorem d_F_loadFresh_22 : decode b_F_loadFresh 22 = .ok (.ireturn, 1) := by decide +kernel
theorem d_F_loadFresh_23 : decode b_F_loadFresh 23 = .ok (.iload_n 2, 1) := by decide +kernel
theorem d_F_loadFresh_24 : decode b_F_loadFresh 24 = .ok (.iconst 2, 1) := by decide +kernel
theorem d_F_loadFresh_25 : decode b_F_loadFresh 25 = .ok (.if_icmp .ne 7, 3) := by decide +kernel
theorem d_F_loadFresh_28 : decode b_F_loadFresh 28 = .ok (.iconst 1, 1) := by decide +kernel
theorem d_F_loadFresh_29 : decode b_F_loadFresh 29 = .ok (.goto 4, 3) := by decide +kernel
theorem d_F_loadFresh_32 : decode b_F_loadFresh 32 = .ok (.iconst 0, 1) := by decide +kernel
theorem d_F_loadFresh_33 : decode b_F_loadFresh 33 = .ok (.ireturn, 1) := by decide +kernel
