theorem d_L_ini_0 : decode b_L_ini 0 = .ok (.aload_n 0, 1) := by decide +kernel
theorem d_L_ini_1 : decode b_L_ini 1 = .ok (.invokespecial 3, 3) := by decide +kernel
theorem d_L_ini_4 : decode b_L_ini 4 = .ok (.aload_n 0, 1) := by decide +kernel
theorem d_L_ini_5 : decode b_L_ini 5 = .ok (.iload_n 1, 1) := by decide +kernel
theorem d_L_ini_6 : decode b_L_ini 6 = .ok (.putfield 9, 3) := by decide +kernel
theorem d_L_ini_9 : decode b_L_ini 9 = .ok (.aload_n 0, 1) := by decide +kernel
theorem d_L_ini_10 : decode b_L_ini 10 = .ok (.iload_n 2, 1) := by decide +kernel
theorem d_L_ini_11 : decode b_L_ini 11 = .ok (.putfield 15, 3) := by decide +kernel
theorem d_L_ini_14 : decode b_L_ini 14 = .ok (.aload_n 0, 1) := by decide +kernel
theorem d_L_ini_15 : decode b_L_ini 15 = .ok (.iload_n 1, 1) := by decide +kernel
theorem d_L_ini_16 : decode b_L_ini 16 = .ok (.iload_n 2, 1) := by decide +kernel
theorem d_L_ini_17 : decode b_L_ini 17 = .ok (.imul, 1) := by decide +kernel
theorem d_L_ini_18 : decode b_L_ini 18 = .ok (.putfield 18, 3) := by decide +kernel
theorem d_L_ini_21 : decode b_L_ini 21 = .ok (.aload_n 0, 1) := by decide +kernel
theorem d_L_ini_22 : decode b_L_ini 22 = .ok (.aload_n 0, 1) := by decide +kernel
theorem d_L_ini_23 : decode b_L_ini 23 = .ok (.getfield 18, 3) := by decide +kernel
theorem d_L_ini_26 : decode b_L_ini 26 = .ok (.newarray .int, 2) := by decide +kernel
theorem d_L_ini_28 : decode b_L_ini 28 = .ok (.putfield 21, 3) := by decide +kernel
theorem d_L_ini_31 : decode b_L_ini 31 = .ok (.aload_n 0, 1) := by decide +kernel
theorem d_L_ini_32 : decode b_L_ini 32 = .ok (.aload_n 0, 1) := by decide +kernel
theorem d_L_ini_33 : decode b_L_ini 33 = .ok (.getfield 18, 3) := by decide +kernel
theorem d_L_ini_36 : decode b_L_ini 36 = .ok (.newarray .int, 2) := by decide +kernel
theorem d_L_ini_38 : decode b_L_ini 38 = .ok (.putfield 25, 3) := by decide +kernel
theorem d_L_ini_41 : decode b_L_ini 41 = .ok (.aload_n 0, 1) := by decide +kernel
theorem d_L_ini_42 : decode b_L_ini 42 = .ok (.aload_n 0, 1) := by decide +kernel
theorem d_L_ini_43 : decode b_L_ini 43 = .ok (.getfield 18, 3) := by decide +kernel
theorem d_L_ini_46 : decode b_L_ini 46 = .ok (.newarray .int, 2) := by decide +kernel
theorem d_L_ini_48 : decode b_L_ini 48 = .ok (.putfield 28, 3) := by decide +kernel
theorem d_L_ini_51 : decode b_L_ini 51 = .ok (.aload_n 0, 1) := by decide +kernel
theorem d_L_ini_52 : decode b_L_ini 52 = .ok (.aload_n 0, 1) := by decide +kernel
theorem d_L_ini_53 : decode b_L_ini 53 = .ok (.getfield 18, 3) := by decide +kernel
theorem d_L_ini_56 : decode b_L_ini 56 = .ok (.newarray .boolean, 2) := by decide +kernel
theorem d_L_ini_58 : decode b_L_ini 58 = .ok (.putfield 31, 3) := by decide +kernel
theorem d_L_ini_61 : decode b_L_ini 61 = .ok (.aload_n 0, 1) := by decide +kernel
theorem d_L_ini_62 : decode b_L_ini 62 = .ok (.aload_n 0, 1) := by decide +kernel
theorem d_L_ini_63 : decode b_L_ini 63 = .ok (.getfield 18, 3) := by decide +kernel
theorem d_L_ini_66 : decode b_L_ini 66 = .ok (.newarray .boolean, 2) := by decide +kernel
theorem d_L_ini_68 : decode b_L_ini 68 = .ok (.putfield 35, 3) := by decide +kernel
theorem d_L_ini_71 : decode b_L_ini 71 = .ok (.return_, 1) := by decide +kernel
theorem d_L_forgetAll_0 : decode b_L_forgetAll 0 = .ok (.iconst 0, 1) := by decide +kernel
theorem d_L_forgetAll_1 : decode b_L_forgetAll 1 = .ok (.istore_n 1, 1) := by decide +kernel
theorem d_L_forgetAll_2 : decode b_L_forgetAll 2 = .ok (.iload_n 1, 1) := by decide +kernel
theorem d_L_forgetAll_3 : decode b_L_forgetAll 3 = .ok (.aload_n 0, 1) := by decide +kernel
theorem d_L_forgetAll_4 : decode b_L_forgetAll 4 = .ok (.getfield 9, 3) := by decide +kernel
theorem d_L_forgetAll_7 : decode b_L_forgetAll 7 = .ok (.if_icmp .ge 14, 3) := by decide +kernel
theorem d_L_forgetAll_10 : decode b_L_forgetAll 10 = .ok (.aload_n 0, 1) := by decide +kernel
theorem d_L_forgetAll_11 : decode b_L_forgetAll 11 = .ok (.iload_n 1, 1) := by decide +kernel
theorem d_L_forgetAll_12 : decode b_L_forgetAll 12 = .ok (.invokevirtual 38, 3) := by decide +kernel
theorem d_L_forgetAll_15 : decode b_L_forgetAll 15 = .ok (.iinc 1 1, 3) := by decide +kernel
theorem d_L_forgetAll_18 : decode b_L_forgetAll 18 = .ok (.goto (-16), 3) := by decide +kernel
theorem d_L_forgetAll_21 : decode b_L_forgetAll 21 = .ok (.aload_n 0, 1) := by decide +kernel
theorem d_L_forgetAll_22 : decode b_L_forgetAll 22 = .ok (.iconst (-1), 1) := by decide +kernel
theorem d_L_forgetAll_23 : decode b_L_forgetAll 23 = .ok (.putfield 42, 3) := by decide +kernel
theorem d_L_forgetAll_26 : decode b_L_forgetAll 26 = .ok (.aload_n 0, 1) := by decide +kernel
theorem d_L_forgetAll_27 : decode b_L_forgetAll 27 = .ok (.iconst 1, 1) := by decide +kernel
theorem d_L_forgetAll_28 : decode b_L_forgetAll 28 = .ok (.putfield 45, 3) := by decide +kernel
theorem d_L_forgetAll_31 : decode b_L_forgetAll 31 = .ok (.return_, 1) := by decide +kernel
theorem d_L_forgetBlock_0 : decode b_L_forgetBlock 0 = .ok (.iconst 0, 1) := by decide +kernel
theorem d_L_forgetBlock_1 : decode b_L_forgetBlock 1 = .ok (.istore_n 2, 1) := by decide +kernel
theorem d_L_forgetBlock_2 : decode b_L_forgetBlock 2 = .ok (.iload_n 2, 1) := by decide +kernel
theorem d_L_forgetBlock_3 : decode b_L_forgetBlock 3 = .ok (.aload_n 0, 1) := by decide +kernel
theorem d_L_forgetBlock_4 : decode b_L_forgetBlock 4 = .ok (.getfield 15, 3) := by decide +kernel
theorem d_L_forgetBlock_7 : decode b_L_forgetBlock 7 = .ok (.if_icmp .ge 23, 3) := by decide +kernel
theorem d_L_forgetBlock_10 : decode b_L_forgetBlock 10 = .ok (.aload_n 0, 1) := by decide +kernel
theorem d_L_forgetBlock_11 : decode b_L_forgetBlock 11 = .ok (.getfield 31, 3) := by decide +kernel
theorem d_L_forgetBlock_14 : decode b_L_forgetBlock 14 = .ok (.iload_n 1, 1) := by decide +kernel
theorem d_L_forgetBlock_15 : decode b_L_forgetBlock 15 = .ok (.aload_n 0, 1) := by decide +kernel
theorem d_L_forgetBlock_16 : decode b_L_forgetBlock 16 = .ok (.getfield 15, 3) := by decide +kernel
theorem d_L_forgetBlock_19 : decode b_L_forgetBlock 19 = .ok (.imul, 1) := by decide +kernel
theorem d_L_forgetBlock_20 : decode b_L_forgetBlock 20 = .ok (.iload_n 2, 1) := by decide +kernel
theorem d_L_forgetBlock_21 : decode b_L_forgetBlock 21 = .ok (.iadd, 1) := by decide +kernel
theorem d_L_forgetBlock_22 : decode b_L_forgetBlock 22 = .ok (.iconst 0, 1) := by decide +kernel
theorem d_L_forgetBlock_23 : decode b_L_forgetBlock 23 = .ok (.bastore, 1) := by decide +kernel
theorem d_L_forgetBlock_24 : decode b_L_forgetBlock 24 = .ok (.iinc 2 1, 3) := by decide +kernel
theorem d_L_forgetBlock_27 : decode b_L_forgetBlock 27 = .ok (.goto (-25), 3) := by decide +kernel
theorem d_L_forgetBlock_30 : decode b_L_forgetBlock 30 = .ok (.return_, 1) := by decide +kernel
theorem d_L_know_0 : decode b_L_know 0 = .ok (.aload_n 0, 1) := by decide +kernel
theorem d_L_know_1 : decode b_L_know 1 = .ok (.getfield 31, 3) := by decide +kernel
theorem d_L_know_4 : decode b_L_know 4 = .ok (.iload_n 1, 1) := by decide +kernel
theorem d_L_know_5 : decode b_L_know 5 = .ok (.iconst 1, 1) := by decide +kernel
theorem d_L_know_6 : decode b_L_know 6 = .ok (.bastore, 1) := by decide +kernel
theorem d_L_know_7 : decode b_L_know 7 = .ok (.aload_n 0, 1) := by decide +kernel
theorem d_L_know_8 : decode b_L_know 8 = .ok (.getfield 21, 3) := by decide +kernel
theorem d_L_know_11 : decode b_L_know 11 = .ok (.iload_n 1, 1) := by decide +kernel
theorem d_L_know_12 : decode b_L_know 12 = .ok (.iload_n 2, 1) := by decide +kernel
theorem d_L_know_13 : decode b_L_know 13 = .ok (.iastore, 1) := by decide +kernel
theorem d_L_know_14 : decode b_L_know 14 = .ok (.aload_n 0, 1) := by decide +kernel
theorem d_L_know_15 : decode b_L_know 15 = .ok (.getfield 25, 3) := by decide +kernel
theorem d_L_know_18 : decode b_L_know 18 = .ok (.iload_n 1, 1) := by decide +kernel
theorem d_L_know_19 : decode b_L_know 19 = .ok (.iload_n 3, 1) := by decide +kernel
theorem d_L_know_20 : decode b_L_know 20 = .ok (.iastore, 1) := by decide +kernel
theorem d_L_know_21 : decode b_L_know 21 = .ok (.aload_n 0, 1) := by decide +kernel
theorem d_L_know_22 : decode b_L_know 22 = .ok (.getfield 28, 3) := by decide +kernel
theorem d_L_know_25 : decode b_L_know 25 = .ok (.iload_n 1, 1) := by decide +kernel
theorem d_L_know_26 : decode b_L_know 26 = .ok (.iload 4, 2) := by decide +kernel
theorem d_L_know_28 : decode b_L_know 28 = .ok (.iastore, 1) := by decide +kernel
theorem d_L_know_29 : decode b_L_know 29 = .ok (.return_, 1) := by decide +kernel
theorem d_L_findNext_0 : decode b_L_findNext 0 = .ok (.iconst (-1), 1) := by decide +kernel
theorem d_L_findNext_1 : decode b_L_findNext 1 = .ok (.istore_n 1, 1) := by decide +kernel
theorem d_L_findNext_2 : decode b_L_findNext 2 = .ok (.iconst 0, 1) := by decide +kernel
theorem d_L_findNext_3 : decode b_L_findNext 3 = .ok (.istore_n 2, 1) := by decide +kernel
theorem d_L_findNext_4 : decode b_L_findNext 4 = .ok (.iload_n 2, 1) := by decide +kernel
theorem d_L_findNext_5 : decode b_L_findNext 5 = .ok (.aload_n 0, 1) := by decide +kernel
theorem d_L_findNext_6 : decode b_L_findNext 6 = .ok (.getfield 18, 3) := by decide +kernel
theorem d_L_findNext_9 : decode b_L_findNext 9 = .ok (.if_icmp .ge 40, 3) := by decide +kernel
theorem d_L_findNext_12 : decode b_L_findNext 12 = .ok (.aload_n 0, 1) := by decide +kernel
theorem d_L_findNext_13 : decode b_L_findNext 13 = .ok (.getfield 31, 3) := by decide +kernel
theorem d_L_findNext_16 : decode b_L_findNext 16 = .ok (.iload_n 2, 1) := by decide +kernel
theorem d_L_findNext_17 : decode b_L_findNext 17 = .ok (.baload, 1) := by decide +kernel
theorem d_L_findNext_18 : decode b_L_findNext 18 = .ok (.ifCond .eq 25, 3) := by decide +kernel
theorem d_L_findNext_21 : decode b_L_findNext 21 = .ok (.iload_n 1, 1) := by decide +kernel
theorem d_L_findNext_22 : decode b_L_findNext 22 = .ok (.iconst (-1), 1) := by decide +kernel
theorem d_L_findNext_23 : decode b_L_findNext 23 = .ok (.if_icmp .eq 18, 3) := by decide +kernel
theorem d_L_findNext_26 : decode b_L_findNext 26 = .ok (.aload_n 0, 1) := by decide +kernel
theorem d_L_findNext_27 : decode b_L_findNext 27 = .ok (.getfield 21, 3) := by decide +kernel
theorem d_L_findNext_30 : decode b_L_findNext 30 = .ok (.iload_n 2, 1) := by decide +kernel
theorem d_L_findNext_31 : decode b_L_findNext 31 = .ok (.iaload, 1) := by decide +kernel
theorem d_L_findNext_32 : decode b_L_findNext 32 = .ok (.aload_n 0, 1) := by decide +kernel
theorem d_L_findNext_33 : decode b_L_findNext 33 = .ok (.getfield 21, 3) := by decide +kernel
theorem d_L_findNext_36 : decode b_L_findNext 36 = .ok (.iload_n 1, 1) := by decide +kernel
theorem d_L_findNext_37 : decode b_L_findNext 37 = .ok (.iaload, 1) := by decide +kernel
theorem d_L_findNext_38 : decode b_L_findNext 38 = .ok (.if_icmp .le 5, 3) := by decide +kernel
theorem d_L_findNext_41 : decode b_L_findNext 41 = .ok (.iload_n 2, 1) := by decide +kernel
theorem d_L_findNext_42 : decode b_L_findNext 42 = .ok (.istore_n 1, 1) := by decide +kernel
theorem d_L_findNext_43 : decode b_L_findNext 43 = .ok (.iinc 2 1, 3) := by decide +kernel
theorem d_L_findNext_46 : decode b_L_findNext 46 = .ok (.goto (-42), 3) := by decide +kernel
theorem d_L_findNext_49 : decode b_L_findNext 49 = .ok (.aload_n 0, 1) := by decide +kernel
theorem d_L_findNext_50 : decode b_L_findNext 50 = .ok (.iload_n 1, 1) := by decide +kernel
theorem d_L_findNext_51 : decode b_L_findNext 51 = .ok (.iconst (-1), 1) := by decide +kernel
theorem d_L_findNext_52 : decode b_L_findNext 52 = .ok (.if_icmp .ne 7, 3) := by decide +kernel
theorem d_L_findNext_55 : decode b_L_findNext 55 = .ok (.iconst 1, 1) := by decide +kernel
theorem d_L_findNext_56 : decode b_L_findNext 56 = .ok (.goto 11, 3) := by decide +kernel
theorem d_L_findNext_59 : decode b_L_findNext 59 = .ok (.aload_n 0, 1) := by decide +kernel
theorem d_L_findNext_60 : decode b_L_findNext 60 = .ok (.getfield 21, 3) := by decide +kernel
theorem d_L_findNext_63 : decode b_L_findNext 63 = .ok (.iload_n 1, 1) := by decide +kernel
theorem d_L_findNext_64 : decode b_L_findNext 64 = .ok (.iaload, 1) := by decide +kernel
theorem d_L_findNext_65 : decode b_L_findNext 65 = .ok (.iconst 1, 1) := by decide +kernel
theorem d_L_findNext_66 : decode b_L_findNext 66 = .ok (.iadd, 1) := by decide +kernel
theorem d_L_findNext_67 : decode b_L_findNext 67 = .ok (.putfield 45, 3) := by decide +kernel
theorem d_L_findNext_70 : decode b_L_findNext 70 = .ok (.return_, 1) := by decide +kernel
theorem d_L_findHead_0 : decode b_L_findHead 0 = .ok (.aload_n 0, 1) := by decide +kernel
theorem d_L_findHead_1 : decode b_L_findHead 1 = .ok (.iconst (-1), 1) := by decide +kernel
theorem d_L_findHead_2 : decode b_L_findHead 2 = .ok (.putfield 42, 3) := by decide +kernel
theorem d_L_findHead_5 : decode b_L_findHead 5 = .ok (.aload_n 0, 1) := by decide +kernel
theorem d_L_findHead_6 : decode b_L_findHead 6 = .ok (.getfield 9, 3) := by decide +kernel
theorem d_L_findHead_9 : decode b_L_findHead 9 = .ok (.iconst 1, 1) := by decide +kernel
theorem d_L_findHead_10 : decode b_L_findHead 10 = .ok (.isub, 1) := by decide +kernel
theorem d_L_findHead_11 : decode b_L_findHead 11 = .ok (.istore_n 1, 1) := by decide +kernel
theorem d_L_findHead_12 : decode b_L_findHead 12 = .ok (.iload_n 1, 1) := by decide +kernel
theorem d_L_findHead_13 : decode b_L_findHead 13 = .ok (.ifCond .lt 30, 3) := by decide +kernel
theorem d_L_findHead_16 : decode b_L_findHead 16 = .ok (.aload_n 0, 1) := by decide +kernel
theorem d_L_findHead_17 : decode b_L_findHead 17 = .ok (.iload_n 1, 1) := by decide +kernel
theorem d_L_findHead_18 : decode b_L_findHead 18 = .ok (.invokevirtual 48, 3) := by decide +kernel
theorem d_L_findHead_21 : decode b_L_findHead 21 = .ok (.ifCond .ne 16, 3) := by decide +kernel
theorem d_L_findHead_24 : decode b_L_findHead 24 = .ok (.aload_n 0, 1) := by decide +kernel
theorem d_L_findHead_25 : decode b_L_findHead 25 = .ok (.iload_n 1, 1) := by decide +kernel
theorem d_L_findHead_26 : decode b_L_findHead 26 = .ok (.invokevirtual 52, 3) := by decide +kernel
theorem d_L_findHead_29 : decode b_L_findHead 29 = .ok (.ifCond .le 8, 3) := by decide +kernel
theorem d_L_findHead_32 : decode b_L_findHead 32 = .ok (.aload_n 0, 1) := by decide +kernel
theorem d_L_findHead_33 : decode b_L_findHead 33 = .ok (.iload_n 1, 1) := by decide +kernel
theorem d_L_findHead_34 : decode b_L_findHead 34 = .ok (.putfield 42, 3) := by decide +kernel
theorem d_L_findHead_37 : decode b_L_findHead 37 = .ok (.iinc 1 (-1), 3) := by decide +kernel
theorem d_L_findHead_40 : decode b_L_findHead 40 = .ok (.goto (-28), 3) := by decide +kernel
theorem d_L_findHead_43 : decode b_L_findHead 43 = .ok (.return_, 1) := by decide +kernel
theorem d_L_isFree_0 : decode b_L_isFree 0 = .ok (.aload_n 0, 1) := by decide +kernel
theorem d_L_isFree_1 : decode b_L_isFree 1 = .ok (.iload_n 1, 1) := by decide +kernel
theorem d_L_isFree_2 : decode b_L_isFree 2 = .ok (.invokevirtual 52, 3) := by decide +kernel
theorem d_L_isFree_5 : decode b_L_isFree 5 = .ok (.aload_n 0, 1) := by decide +kernel
theorem d_L_isFree_6 : decode b_L_isFree 6 = .ok (.getfield 15, 3) := by decide +kernel
theorem d_L_isFree_9 : decode b_L_isFree 9 = .ok (.if_icmp .ne 7, 3) := by decide +kernel
theorem d_L_isFree_12 : decode b_L_isFree 12 = .ok (.iconst 1, 1) := by decide +kernel
theorem d_L_isFree_13 : decode b_L_isFree 13 = .ok (.goto 4, 3) := by decide +kernel
theorem d_L_isFree_16 : decode b_L_isFree 16 = .ok (.iconst 0, 1) := by decide +kernel
theorem d_L_isFree_17 : decode b_L_isFree 17 = .ok (.ireturn, 1) := by decide +kernel
theorem d_L_gaps_0 : decode b_L_gaps 0 = .ok (.iconst 0, 1) := by decide +kernel
theorem d_L_gaps_1 : decode b_L_gaps 1 = .ok (.istore_n 2, 1) := by decide +kernel
theorem d_L_gaps_2 : decode b_L_gaps 2 = .ok (.iconst 0, 1) := by decide +kernel
theorem d_L_gaps_3 : decode b_L_gaps 3 = .ok (.istore_n 3, 1) := by decide +kernel
theorem d_L_gaps_4 : decode b_L_gaps 4 = .ok (.iload_n 3, 1) := by decide +kernel
theorem d_L_gaps_5 : decode b_L_gaps 5 = .ok (.aload_n 0, 1) := by decide +kernel
theorem d_L_gaps_6 : decode b_L_gaps 6 = .ok (.getfield 15, 3) := by decide +kernel
theorem d_L_gaps_9 : decode b_L_gaps 9 = .ok (.if_icmp .ge 28, 3) := by decide +kernel
theorem d_L_gaps_12 : decode b_L_gaps 12 = .ok (.aload_n 0, 1) := by decide +kernel
theorem d_L_gaps_13 : decode b_L_gaps 13 = .ok (.getfield 31, 3) := by decide +kernel
theorem d_L_gaps_16 : decode b_L_gaps 16 = .ok (.iload_n 1, 1) := by decide +kernel
theorem d_L_gaps_17 : decode b_L_gaps 17 = .ok (.aload_n 0, 1) := by decide +kernel
theorem d_L_gaps_18 : decode b_L_gaps 18 = .ok (.getfield 15, 3) := by decide +kernel
theorem d_L_gaps_21 : decode b_L_gaps 21 = .ok (.imul, 1) := by decide +kernel
theorem d_L_gaps_22 : decode b_L_gaps 22 = .ok (.iload_n 3, 1) := by decide +kernel
theorem d_L_gaps_23 : decode b_L_gaps 23 = .ok (.iadd, 1) := by decide +kernel
theorem d_L_gaps_24 : decode b_L_gaps 24 = .ok (.baload, 1) := by decide +kernel
theorem d_L_gaps_25 : decode b_L_gaps 25 = .ok (.ifCond .ne 6, 3) := by decide +kernel
theorem d_L_gaps_28 : decode b_L_gaps 28 = .ok (.iinc 2 1, 3) := by decide +kernel
theorem d_L_gaps_31 : decode b_L_gaps 31 = .ok (.iinc 3 1, 3) := by decide +kernel
theorem d_L_gaps_34 : decode b_L_gaps 34 = .ok (.goto (-30), 3) := by decide +kernel
theorem d_L_gaps_37 : decode b_L_gaps 37 = .ok (.iload_n 2, 1) := by decide +kernel
theorem d_L_gaps_38 : decode b_L_gaps 38 = .ok (.ireturn, 1) := by decide +kernel
theorem d_L_freeBlocks_0 : decode b_L_freeBlocks 0 = .ok (.iconst 0, 1) := by decide +kernel
theorem d_L_freeBlocks_1 : decode b_L_freeBlocks 1 = .ok (.istore_n 1, 1) := by decide +kernel
theorem d_L_freeBlocks_2 : decode b_L_freeBlocks 2 = .ok (.iconst 0, 1) := by decide +kernel
theorem d_L_freeBlocks_3 : decode b_L_freeBlocks 3 = .ok (.istore_n 2, 1) := by decide +kernel
theorem d_L_freeBlocks_4 : decode b_L_freeBlocks 4 = .ok (.iload_n 2, 1) := by decide +kernel
theorem d_L_freeBlocks_5 : decode b_L_freeBlocks 5 = .ok (.aload_n 0, 1) := by decide +kernel
theorem d_L_freeBlocks_6 : decode b_L_freeBlocks 6 = .ok (.getfield 9, 3) := by decide +kernel
theorem d_L_freeBlocks_9 : decode b_L_freeBlocks 9 = .ok (.if_icmp .ge 20, 3) := by decide +kernel
theorem d_L_freeBlocks_12 : decode b_L_freeBlocks 12 = .ok (.aload_n 0, 1) := by decide +kernel
theorem d_L_freeBlocks_13 : decode b_L_freeBlocks 13 = .ok (.iload_n 2, 1) := by decide +kernel
theorem d_L_freeBlocks_14 : decode b_L_freeBlocks 14 = .ok (.invokevirtual 48, 3) := by decide +kernel
theorem d_L_freeBlocks_17 : decode b_L_freeBlocks 17 = .ok (.ifCond .eq 6, 3) := by decide +kernel
theorem d_L_freeBlocks_20 : decode b_L_freeBlocks 20 = .ok (.iinc 1 1, 3) := by decide +kernel
theorem d_L_freeBlocks_23 : decode b_L_freeBlocks 23 = .ok (.iinc 2 1, 3) := by decide +kernel
theorem d_L_freeBlocks_26 : decode b_L_freeBlocks 26 = .ok (.goto (-22), 3) := by decide +kernel
theorem d_L_freeBlocks_29 : decode b_L_freeBlocks 29 = .ok (.iload_n 1, 1) := by decide +kernel
theorem d_L_freeBlocks_30 : decode b_L_freeBlocks 30 = .ok (.ireturn, 1) := by decide +kernel
theorem d_L_chooseBlock_0 : decode b_L_chooseBlock 0 = .ok (.aload_n 0, 1) := by decide +kernel
theorem d_L_chooseBlock_1 : decode b_L_chooseBlock 1 = .ok (.invokevirtual 79, 3) := by decide +kernel
theorem d_L_chooseBlock_4 : decode b_L_chooseBlock 4 = .ok (.aload_n 0, 1) := by decide +kernel
theorem d_L_chooseBlock_5 : decode b_L_chooseBlock 5 = .ok (.invokevirtual 82, 3) := by decide +kernel
theorem d_L_chooseBlock_8 : decode b_L_chooseBlock 8 = .ok (.istore_n 1, 1) := by decide +kernel
theorem d_L_chooseBlock_9 : decode b_L_chooseBlock 9 = .ok (.iload_n 1, 1) := by decide +kernel
theorem d_L_chooseBlock_10 : decode b_L_chooseBlock 10 = .ok (.iconst (-1), 1) := by decide +kernel
theorem d_L_chooseBlock_11 : decode b_L_chooseBlock 11 = .ok (.if_icmp .eq 15, 3) := by decide +kernel
theorem d_L_chooseBlock_14 : decode b_L_chooseBlock 14 = .ok (.aload_n 0, 1) := by decide +kernel
theorem d_L_chooseBlock_15 : decode b_L_chooseBlock 15 = .ok (.iload_n 1, 1) := by decide +kernel
theorem d_L_chooseBlock_16 : decode b_L_chooseBlock 16 = .ok (.invokevirtual 85, 3) := by decide +kernel
theorem d_L_chooseBlock_19 : decode b_L_chooseBlock 19 = .ok (.aload_n 0, 1) := by decide +kernel
theorem d_L_chooseBlock_20 : decode b_L_chooseBlock 20 = .ok (.getfield 15, 3) := by decide +kernel
theorem d_L_chooseBlock_23 : decode b_L_chooseBlock 23 = .ok (.if_icmp .ne 5, 3) := by decide +kernel
theorem d_L_chooseBlock_26 : decode b_L_chooseBlock 26 = .ok (.iconst (-1), 1) := by decide +kernel
theorem d_L_chooseBlock_27 : decode b_L_chooseBlock 27 = .ok (.ireturn, 1) := by decide +kernel
theorem d_L_chooseBlock_28 : decode b_L_chooseBlock 28 = .ok (.aload_n 0, 1) := by decide +kernel
theorem d_L_chooseBlock_29 : decode b_L_chooseBlock 29 = .ok (.invokevirtual 69, 3) := by decide +kernel
theorem d_L_chooseBlock_32 : decode b_L_chooseBlock 32 = .ok (.iconst (-1), 1) := by decide +kernel
theorem d_L_chooseBlock_33 : decode b_L_chooseBlock 33 = .ok (.if_icmp .eq 19, 3) := by decide +kernel
theorem d_L_chooseBlock_36 : decode b_L_chooseBlock 36 = .ok (.aload_n 0, 1) := by decide +kernel
theorem d_L_chooseBlock_37 : decode b_L_chooseBlock 37 = .ok (.iload_n 1, 1) := by decide +kernel
theorem d_L_chooseBlock_38 : decode b_L_chooseBlock 38 = .ok (.invokevirtual 85, 3) := by decide +kernel
theorem d_L_chooseBlock_41 : decode b_L_chooseBlock 41 = .ok (.aload_n 0, 1) := by decide +kernel
theorem d_L_chooseBlock_42 : decode b_L_chooseBlock 42 = .ok (.aload_n 0, 1) := by decide +kernel
theorem d_L_chooseBlock_43 : decode b_L_chooseBlock 43 = .ok (.getfield 42, 3) := by decide +kernel
theorem d_L_chooseBlock_46 : decode b_L_chooseBlock 46 = .ok (.invokevirtual 52, 3) := by decide +kernel
theorem d_L_chooseBlock_49 : decode b_L_chooseBlock 49 = .ok (.if_icmp .gt 7, 3) := by decide +kernel
theorem d_L_chooseBlock_52 : decode b_L_chooseBlock 52 = .ok (.iconst 1, 1) := by decide +kernel
theorem d_L_chooseBlock_53 : decode b_L_chooseBlock 53 = .ok (.goto 4, 3) := by decide +kernel
theorem d_L_chooseBlock_56 : decode b_L_chooseBlock 56 = .ok (.iconst 0, 1) := by decide +kernel
theorem d_L_chooseBlock_57 : decode b_L_chooseBlock 57 = .ok (.istore_n 2, 1) := by decide +kernel
theorem d_L_chooseBlock_58 : decode b_L_chooseBlock 58 = .ok (.iload_n 2, 1) := by decide +kernel
theorem d_L_chooseBlock_59 : decode b_L_chooseBlock 59 = .ok (.ifCond .eq 7, 3) := by decide +kernel
theorem d_L_chooseBlock_62 : decode b_L_chooseBlock 62 = .ok (.iload_n 1, 1) := by decide +kernel
theorem d_L_chooseBlock_63 : decode b_L_chooseBlock 63 = .ok (.goto 4, 3) := by decide +kernel
theorem d_L_chooseBlock_66 : decode b_L_chooseBlock 66 = .ok (.iconst (-1), 1) := by decide +kernel
theorem d_L_chooseBlock_67 : decode b_L_chooseBlock 67 = .ok (.ireturn, 1) := by decide +kernel
theorem d_L_markNeeded_0 : decode b_L_markNeeded 0 = .ok (.iconst 0, 1) := by decide +kernel
theorem d_L_markNeeded_1 : decode b_L_markNeeded 1 = .ok (.istore_n 1, 1) := by decide +kernel
theorem d_L_markNeeded_2 : decode b_L_markNeeded 2 = .ok (.iload_n 1, 1) := by decide +kernel
theorem d_L_markNeeded_3 : decode b_L_markNeeded 3 = .ok (.aload_n 0, 1) := by decide +kernel
theorem d_L_markNeeded_4 : decode b_L_markNeeded 4 = .ok (.getfield 18, 3) := by decide +kernel
theorem d_L_markNeeded_7 : decode b_L_markNeeded 7 = .ok (.if_icmp .ge 61, 3) := by decide +kernel
theorem d_L_markNeeded_10 : decode b_L_markNeeded 10 = .ok (.aload_n 0, 1) := by decide +kernel
theorem d_L_markNeeded_11 : decode b_L_markNeeded 11 = .ok (.getfield 35, 3) := by decide +kernel
theorem d_L_markNeeded_14 : decode b_L_markNeeded 14 = .ok (.iload_n 1, 1) := by decide +kernel
theorem d_L_markNeeded_15 : decode b_L_markNeeded 15 = .ok (.aload_n 0, 1) := by decide +kernel
theorem d_L_markNeeded_16 : decode b_L_markNeeded 16 = .ok (.getfield 31, 3) := by decide +kernel
theorem d_L_markNeeded_19 : decode b_L_markNeeded 19 = .ok (.iload_n 1, 1) := by decide +kernel
theorem d_L_markNeeded_20 : decode b_L_markNeeded 20 = .ok (.baload, 1) := by decide +kernel
theorem d_L_markNeeded_21 : decode b_L_markNeeded 21 = .ok (.ifCond .eq 39, 3) := by decide +kernel
theorem d_L_markNeeded_24 : decode b_L_markNeeded 24 = .ok (.aload_n 0, 1) := by decide +kernel
theorem d_L_markNeeded_25 : decode b_L_markNeeded 25 = .ok (.aload_n 0, 1) := by decide +kernel
theorem d_L_markNeeded_26 : decode b_L_markNeeded 26 = .ok (.getfield 25, 3) := by decide +kernel
theorem d_L_markNeeded_29 : decode b_L_markNeeded 29 = .ok (.iload_n 1, 1) := by decide +kernel
theorem d_L_markNeeded_30 : decode b_L_markNeeded 30 = .ok (.iaload, 1) := by decide +kernel
theorem d_L_markNeeded_31 : decode b_L_markNeeded 31 = .ok (.invokevirtual 56, 3) := by decide +kernel
theorem d_L_markNeeded_34 : decode b_L_markNeeded 34 = .ok (.iload_n 1, 1) := by decide +kernel
theorem d_L_markNeeded_35 : decode b_L_markNeeded 35 = .ok (.if_icmp .ne 25, 3) := by decide +kernel
theorem d_L_markNeeded_38 : decode b_L_markNeeded 38 = .ok (.aload_n 0, 1) := by decide +kernel
theorem d_L_markNeeded_39 : decode b_L_markNeeded 39 = .ok (.getfield 28, 3) := by decide +kernel
theorem d_L_markNeeded_42 : decode b_L_markNeeded 42 = .ok (.iload_n 1, 1) := by decide +kernel
theorem d_L_markNeeded_43 : decode b_L_markNeeded 43 = .ok (.iaload, 1) := by decide +kernel
theorem d_L_markNeeded_44 : decode b_L_markNeeded 44 = .ok (.iconst 1, 1) := by decide +kernel
theorem d_L_markNeeded_45 : decode b_L_markNeeded 45 = .ok (.if_icmp .eq 11, 3) := by decide +kernel
theorem d_L_markNeeded_48 : decode b_L_markNeeded 48 = .ok (.aload_n 0, 1) := by decide +kernel
theorem d_L_markNeeded_49 : decode b_L_markNeeded 49 = .ok (.iload_n 1, 1) := by decide +kernel
theorem d_L_markNeeded_50 : decode b_L_markNeeded 50 = .ok (.invokevirtual 66, 3) := by decide +kernel
theorem d_L_markNeeded_53 : decode b_L_markNeeded 53 = .ok (.ifCond .eq 7, 3) := by decide +kernel
theorem d_L_markNeeded_56 : decode b_L_markNeeded 56 = .ok (.iconst 1, 1) := by decide +kernel
theorem d_L_markNeeded_57 : decode b_L_markNeeded 57 = .ok (.goto 4, 3) := by decide +kernel
theorem d_L_markNeeded_60 : decode b_L_markNeeded 60 = .ok (.iconst 0, 1) := by decide +kernel
theorem d_L_markNeeded_61 : decode b_L_markNeeded 61 = .ok (.bastore, 1) := by decide +kernel
theorem d_L_markNeeded_62 : decode b_L_markNeeded 62 = .ok (.iinc 1 1, 3) := by decide +kernel
theorem d_L_markNeeded_65 : decode b_L_markNeeded 65 = .ok (.goto (-63), 3) := by decide +kernel
theorem d_L_markNeeded_68 : decode b_L_markNeeded 68 = .ok (.return_, 1) := by decide +kernel
theorem d_L_latest_0 : decode b_L_latest 0 = .ok (.iconst (-1), 1) := by decide +kernel
theorem d_L_latest_1 : decode b_L_latest 1 = .ok (.istore_n 2, 1) := by decide +kernel
theorem d_L_latest_2 : decode b_L_latest 2 = .ok (.iconst 0, 1) := by decide +kernel
theorem d_L_latest_3 : decode b_L_latest 3 = .ok (.istore_n 3, 1) := by decide +kernel
theorem d_L_latest_4 : decode b_L_latest 4 = .ok (.iload_n 3, 1) := by decide +kernel
theorem d_L_latest_5 : decode b_L_latest 5 = .ok (.aload_n 0, 1) := by decide +kernel
theorem d_L_latest_6 : decode b_L_latest 6 = .ok (.getfield 18, 3) := by decide +kernel
theorem d_L_latest_9 : decode b_L_latest 9 = .ok (.if_icmp .ge 49, 3) := by decide +kernel
theorem d_L_latest_12 : decode b_L_latest 12 = .ok (.aload_n 0, 1) := by decide +kernel
theorem d_L_latest_13 : decode b_L_latest 13 = .ok (.getfield 31, 3) := by decide +kernel
theorem d_L_latest_16 : decode b_L_latest 16 = .ok (.iload_n 3, 1) := by decide +kernel
theorem d_L_latest_17 : decode b_L_latest 17 = .ok (.baload, 1) := by decide +kernel
theorem d_L_latest_18 : decode b_L_latest 18 = .ok (.ifCond .eq 34, 3) := by decide +kernel
theorem d_L_latest_21 : decode b_L_latest 21 = .ok (.aload_n 0, 1) := by decide +kernel
theorem d_L_latest_22 : decode b_L_latest 22 = .ok (.getfield 25, 3) := by decide +kernel
theorem d_L_latest_25 : decode b_L_latest 25 = .ok (.iload_n 3, 1) := by decide +kernel
theorem d_L_latest_26 : decode b_L_latest 26 = .ok (.iaload, 1) := by decide +kernel
theorem d_L_latest_27 : decode b_L_latest 27 = .ok (.iload_n 1, 1) := by decide +kernel
theorem d_L_latest_28 : decode b_L_latest 28 = .ok (.if_icmp .ne 24, 3) := by decide +kernel
theorem d_L_latest_31 : decode b_L_latest 31 = .ok (.iload_n 2, 1) := by decide +kernel
theorem d_L_latest_32 : decode b_L_latest 32 = .ok (.iconst (-1), 1) := by decide +kernel
theorem d_L_latest_33 : decode b_L_latest 33 = .ok (.if_icmp .eq 17, 3) := by decide +kernel
theorem d_L_latest_36 : decode b_L_latest 36 = .ok (.aload_n 0, 1) := by decide +kernel
theorem d_L_latest_37 : decode b_L_latest 37 = .ok (.iload_n 3, 1) := by decide +kernel
theorem d_L_latest_38 : decode b_L_latest 38 = .ok (.invokevirtual 62, 3) := by decide +kernel
theorem d_L_latest_41 : decode b_L_latest 41 = .ok (.aload_n 0, 1) := by decide +kernel
theorem d_L_latest_42 : decode b_L_latest 42 = .ok (.iload_n 2, 1) := by decide +kernel
theorem d_L_latest_43 : decode b_L_latest 43 = .ok (.invokevirtual 62, 3) := by decide +kernel
theorem d_L_latest_46 : decode b_L_latest 46 = .ok (.lcmp, 1) := by decide +kernel
theorem d_L_latest_47 : decode b_L_latest 47 = .ok (.ifCond .le 5, 3) := by decide +kernel
theorem d_L_latest_50 : decode b_L_latest 50 = .ok (.iload_n 3, 1) := by decide +kernel
theorem d_L_latest_51 : decode b_L_latest 51 = .ok (.istore_n 2, 1) := by decide +kernel
theorem d_L_latest_52 : decode b_L_latest 52 = .ok (.iinc 3 1, 3) := by decide +kernel
theorem d_L_latest_55 : decode b_L_latest 55 = .ok (.goto (-51), 3) := by decide +kernel
theorem d_L_latest_58 : decode b_L_latest 58 = .ok (.iload_n 2, 1) := by decide +kernel
theorem d_L_latest_59 : decode b_L_latest 59 = .ok (.ireturn, 1) := by decide +kernel
theorem d_L_rank_0 : decode b_L_rank 0 = .ok (.aload_n 0, 1) := by decide +kernel
theorem d_L_rank_1 : decode b_L_rank 1 = .ok (.getfield 42, 3) := by decide +kernel
theorem d_L_rank_4 : decode b_L_rank 4 = .ok (.aload_n 0, 1) := by decide +kernel
theorem d_L_rank_5 : decode b_L_rank 5 = .ok (.getfield 15, 3) := by decide +kernel
theorem d_L_rank_8 : decode b_L_rank 8 = .ok (.imul, 1) := by decide +kernel
theorem d_L_rank_9 : decode b_L_rank 9 = .ok (.istore_n 2, 1) := by decide +kernel
theorem d_L_rank_10 : decode b_L_rank 10 = .ok (.aload_n 0, 1) := by decide +kernel
theorem d_L_rank_11 : decode b_L_rank 11 = .ok (.getfield 42, 3) := by decide +kernel
theorem d_L_rank_14 : decode b_L_rank 14 = .ok (.iconst (-1), 1) := by decide +kernel
theorem d_L_rank_15 : decode b_L_rank 15 = .ok (.if_icmp .eq 22, 3) := by decide +kernel
theorem d_L_rank_18 : decode b_L_rank 18 = .ok (.iload_n 1, 1) := by decide +kernel
theorem d_L_rank_19 : decode b_L_rank 19 = .ok (.iload_n 2, 1) := by decide +kernel
theorem d_L_rank_20 : decode b_L_rank 20 = .ok (.if_icmp .lt 17, 3) := by decide +kernel
theorem d_L_rank_23 : decode b_L_rank 23 = .ok (.iload_n 1, 1) := by decide +kernel
theorem d_L_rank_24 : decode b_L_rank 24 = .ok (.iload_n 2, 1) := by decide +kernel
theorem d_L_rank_25 : decode b_L_rank 25 = .ok (.aload_n 0, 1) := by decide +kernel
theorem d_L_rank_26 : decode b_L_rank 26 = .ok (.getfield 15, 3) := by decide +kernel
theorem d_L_rank_29 : decode b_L_rank 29 = .ok (.iadd, 1) := by decide +kernel
theorem d_L_rank_30 : decode b_L_rank 30 = .ok (.if_icmp .ge 7, 3) := by decide +kernel
theorem d_L_rank_33 : decode b_L_rank 33 = .ok (.iconst 1, 1) := by decide +kernel
theorem d_L_rank_34 : decode b_L_rank 34 = .ok (.goto 4, 3) := by decide +kernel
theorem d_L_rank_37 : decode b_L_rank 37 = .ok (.iconst 0, 1) := by decide +kernel
theorem d_L_rank_38 : decode b_L_rank 38 = .ok (.istore_n 3, 1) := by decide +kernel
theorem d_L_rank_39 : decode b_L_rank 39 = .ok (.ldc2_w 88, 3) := by decide +kernel
theorem d_L_rank_42 : decode b_L_rank 42 = .ok (.aload_n 0, 1) := by decide +kernel
theorem d_L_rank_43 : decode b_L_rank 43 = .ok (.getfield 21, 3) := by decide +kernel
theorem d_L_rank_46 : decode b_L_rank 46 = .ok (.iload_n 1, 1) := by decide +kernel
theorem d_L_rank_47 : decode b_L_rank 47 = .ok (.iaload, 1) := by decide +kernel
theorem d_L_rank_48 : decode b_L_rank 48 = .ok (.i2l, 1) := by decide +kernel
theorem d_L_rank_49 : decode b_L_rank 49 = .ok (.lmul, 1) := by decide +kernel
theorem d_L_rank_50 : decode b_L_rank 50 = .ok (.iload_n 3, 1) := by decide +kernel
theorem d_L_rank_51 : decode b_L_rank 51 = .ok (.ifCond .eq 7, 3) := by decide +kernel
theorem d_L_rank_54 : decode b_L_rank 54 = .ok (.iconst 1, 1) := by decide +kernel
theorem d_L_rank_55 : decode b_L_rank 55 = .ok (.goto 4, 3) := by decide +kernel
theorem d_L_rank_58 : decode b_L_rank 58 = .ok (.iconst 0, 1) := by decide +kernel
theorem d_L_rank_59 : decode b_L_rank 59 = .ok (.i2l, 1) := by decide +kernel
theorem d_L_rank_60 : decode b_L_rank 60 = .ok (.ladd, 1) := by decide +kernel
theorem d_L_rank_61 : decode b_L_rank 61 = .ok (.lreturn, 1) := by decide +kernel
theorem d_L_hasOther_0 : decode b_L_hasOther 0 = .ok (.iconst 0, 1) := by decide +kernel
theorem d_L_hasOther_1 : decode b_L_hasOther 1 = .ok (.istore_n 2, 1) := by decide +kernel
theorem d_L_hasOther_2 : decode b_L_hasOther 2 = .ok (.iload_n 2, 1) := by decide +kernel
theorem d_L_hasOther_3 : decode b_L_hasOther 3 = .ok (.aload_n 0, 1) := by decide +kernel
theorem d_L_hasOther_4 : decode b_L_hasOther 4 = .ok (.getfield 18, 3) := by decide +kernel
theorem d_L_hasOther_7 : decode b_L_hasOther 7 = .ok (.if_icmp .ge 40, 3) := by decide +kernel
theorem d_L_hasOther_10 : decode b_L_hasOther 10 = .ok (.iload_n 2, 1) := by decide +kernel
theorem d_L_hasOther_11 : decode b_L_hasOther 11 = .ok (.iload_n 1, 1) := by decide +kernel
theorem d_L_hasOther_12 : decode b_L_hasOther 12 = .ok (.if_icmp .eq 29, 3) := by decide +kernel
theorem d_L_hasOther_15 : decode b_L_hasOther 15 = .ok (.aload_n 0, 1) := by decide +kernel
theorem d_L_hasOther_16 : decode b_L_hasOther 16 = .ok (.getfield 31, 3) := by decide +kernel
theorem d_L_hasOther_19 : decode b_L_hasOther 19 = .ok (.iload_n 2, 1) := by decide +kernel
theorem d_L_hasOther_20 : decode b_L_hasOther 20 = .ok (.baload, 1) := by decide +kernel
theorem d_L_hasOther_21 : decode b_L_hasOther 21 = .ok (.ifCond .eq 20, 3) := by decide +kernel
theorem d_L_hasOther_24 : decode b_L_hasOther 24 = .ok (.aload_n 0, 1) := by decide +kernel
theorem d_L_hasOther_25 : decode b_L_hasOther 25 = .ok (.getfield 25, 3) := by decide +kernel
theorem d_L_hasOther_28 : decode b_L_hasOther 28 = .ok (.iload_n 2, 1) := by decide +kernel
theorem d_L_hasOther_29 : decode b_L_hasOther 29 = .ok (.iaload, 1) := by decide +kernel
theorem d_L_hasOther_30 : decode b_L_hasOther 30 = .ok (.aload_n 0, 1) := by decide +kernel
theorem d_L_hasOther_31 : decode b_L_hasOther 31 = .ok (.getfield 25, 3) := by decide +kernel
theorem d_L_hasOther_34 : decode b_L_hasOther 34 = .ok (.iload_n 1, 1) := by decide +kernel
theorem d_L_hasOther_35 : decode b_L_hasOther 35 = .ok (.iaload, 1) := by decide +kernel
theorem d_L_hasOther_36 : decode b_L_hasOther 36 = .ok (.if_icmp .ne 5, 3) := by decide +kernel
theorem d_L_hasOther_39 : decode b_L_hasOther 39 = .ok (.iconst 1, 1) := by decide +kernel
theorem d_L_hasOther_40 : decode b_L_hasOther 40 = .ok (.ireturn, 1) := by decide +kernel
theorem d_L_hasOther_41 : decode b_L_hasOther 41 = .ok (.iinc 2 1, 3) := by decide +kernel
theorem d_L_hasOther_44 : decode b_L_hasOther 44 = .ok (.goto (-42), 3) := by decide +kernel
theorem d_L_hasOther_47 : decode b_L_hasOther 47 = .ok (.iconst 0, 1) := by decide +kernel
theorem d_L_hasOther_48 : decode b_L_hasOther 48 = .ok (.ireturn, 1) := by decide +kernel
theorem d_L_fewestMarked_0 : decode b_L_fewestMarked 0 = .ok (.aload_n 0, 1) := by decide +kernel
theorem d_L_fewestMarked_1 : decode b_L_fewestMarked 1 = .ok (.invokevirtual 69, 3) := by decide +kernel
theorem d_L_fewestMarked_4 : decode b_L_fewestMarked 4 = .ok (.iconst (-1), 1) := by decide +kernel
theorem d_L_fewestMarked_5 : decode b_L_fewestMarked 5 = .ok (.if_icmp .ne 7, 3) := by decide +kernel
theorem d_L_fewestMarked_8 : decode b_L_fewestMarked 8 = .ok (.iconst (-1), 1) := by decide +kernel
theorem d_L_fewestMarked_9 : decode b_L_fewestMarked 9 = .ok (.goto 7, 3) := by decide +kernel
theorem d_L_fewestMarked_12 : decode b_L_fewestMarked 12 = .ok (.aload_n 0, 1) := by decide +kernel
theorem d_L_fewestMarked_13 : decode b_L_fewestMarked 13 = .ok (.getfield 42, 3) := by decide +kernel
theorem d_L_fewestMarked_16 : decode b_L_fewestMarked 16 = .ok (.istore_n 1, 1) := by decide +kernel
theorem d_L_fewestMarked_17 : decode b_L_fewestMarked 17 = .ok (.iconst (-1), 1) := by decide +kernel
theorem d_L_fewestMarked_18 : decode b_L_fewestMarked 18 = .ok (.istore_n 2, 1) := by decide +kernel
theorem d_L_fewestMarked_19 : decode b_L_fewestMarked 19 = .ok (.iconst 0, 1) := by decide +kernel
theorem d_L_fewestMarked_20 : decode b_L_fewestMarked 20 = .ok (.istore_n 3, 1) := by decide +kernel
theorem d_L_fewestMarked_21 : decode b_L_fewestMarked 21 = .ok (.iload_n 3, 1) := by decide +kernel
theorem d_L_fewestMarked_22 : decode b_L_fewestMarked 22 = .ok (.aload_n 0, 1) := by decide +kernel
theorem d_L_fewestMarked_23 : decode b_L_fewestMarked 23 = .ok (.getfield 9, 3) := by decide +kernel
theorem d_L_fewestMarked_26 : decode b_L_fewestMarked 26 = .ok (.if_icmp .ge 42, 3) := by decide +kernel
theorem d_L_fewestMarked_29 : decode b_L_fewestMarked 29 = .ok (.iload_n 3, 1) := by decide +kernel
theorem d_L_fewestMarked_30 : decode b_L_fewestMarked 30 = .ok (.iload_n 1, 1) := by decide +kernel
theorem d_L_fewestMarked_31 : decode b_L_fewestMarked 31 = .ok (.if_icmp .eq 31, 3) := by decide +kernel
theorem d_L_fewestMarked_34 : decode b_L_fewestMarked 34 = .ok (.aload_n 0, 1) := by decide +kernel
theorem d_L_fewestMarked_35 : decode b_L_fewestMarked 35 = .ok (.iload_n 3, 1) := by decide +kernel
theorem d_L_fewestMarked_36 : decode b_L_fewestMarked 36 = .ok (.invokevirtual 48, 3) := by decide +kernel
theorem d_L_fewestMarked_39 : decode b_L_fewestMarked 39 = .ok (.ifCond .ne 23, 3) := by decide +kernel
theorem d_L_fewestMarked_42 : decode b_L_fewestMarked 42 = .ok (.iload_n 2, 1) := by decide +kernel
theorem d_L_fewestMarked_43 : decode b_L_fewestMarked 43 = .ok (.iconst (-1), 1) := by decide +kernel
theorem d_L_fewestMarked_44 : decode b_L_fewestMarked 44 = .ok (.if_icmp .eq 16, 3) := by decide +kernel
theorem d_L_fewestMarked_47 : decode b_L_fewestMarked 47 = .ok (.aload_n 0, 1) := by decide +kernel
theorem d_L_fewestMarked_48 : decode b_L_fewestMarked 48 = .ok (.iload_n 3, 1) := by decide +kernel
theorem d_L_fewestMarked_49 : decode b_L_fewestMarked 49 = .ok (.invokevirtual 85, 3) := by decide +kernel
theorem d_L_fewestMarked_52 : decode b_L_fewestMarked 52 = .ok (.aload_n 0, 1) := by decide +kernel
theorem d_L_fewestMarked_53 : decode b_L_fewestMarked 53 = .ok (.iload_n 2, 1) := by decide +kernel
theorem d_L_fewestMarked_54 : decode b_L_fewestMarked 54 = .ok (.invokevirtual 85, 3) := by decide +kernel
theorem d_L_fewestMarked_57 : decode b_L_fewestMarked 57 = .ok (.if_icmp .ge 5, 3) := by decide +kernel
theorem d_L_fewestMarked_60 : decode b_L_fewestMarked 60 = .ok (.iload_n 3, 1) := by decide +kernel
theorem d_L_fewestMarked_61 : decode b_L_fewestMarked 61 = .ok (.istore_n 2, 1) := by decide +kernel
theorem d_L_fewestMarked_62 : decode b_L_fewestMarked 62 = .ok (.iinc 3 1, 3) := by decide +kernel
theorem d_L_fewestMarked_65 : decode b_L_fewestMarked 65 = .ok (.goto (-44), 3) := by decide +kernel
theorem d_L_fewestMarked_68 : decode b_L_fewestMarked 68 = .ok (.iload_n 2, 1) := by decide +kernel
theorem d_L_fewestMarked_69 : decode b_L_fewestMarked 69 = .ok (.ireturn, 1) := by decide +kernel
theorem d_L_headGap_0 : decode b_L_headGap 0 = .ok (.aload_n 0, 1) := by decide +kernel
theorem d_L_headGap_1 : decode b_L_headGap 1 = .ok (.getfield 42, 3) := by decide +kernel
theorem d_L_headGap_4 : decode b_L_headGap 4 = .ok (.iconst (-1), 1) := by decide +kernel
theorem d_L_headGap_5 : decode b_L_headGap 5 = .ok (.if_icmp .ne 5, 3) := by decide +kernel
theorem d_L_headGap_8 : decode b_L_headGap 8 = .ok (.iconst (-1), 1) := by decide +kernel
theorem d_L_headGap_9 : decode b_L_headGap 9 = .ok (.ireturn, 1) := by decide +kernel
theorem d_L_headGap_10 : decode b_L_headGap 10 = .ok (.iconst 0, 1) := by decide +kernel
theorem d_L_headGap_11 : decode b_L_headGap 11 = .ok (.istore_n 1, 1) := by decide +kernel
theorem d_L_headGap_12 : decode b_L_headGap 12 = .ok (.iload_n 1, 1) := by decide +kernel
theorem d_L_headGap_13 : decode b_L_headGap 13 = .ok (.aload_n 0, 1) := by decide +kernel
theorem d_L_headGap_14 : decode b_L_headGap 14 = .ok (.getfield 15, 3) := by decide +kernel
theorem d_L_headGap_17 : decode b_L_headGap 17 = .ok (.if_icmp .ge 40, 3) := by decide +kernel
theorem d_L_headGap_20 : decode b_L_headGap 20 = .ok (.aload_n 0, 1) := by decide +kernel
theorem d_L_headGap_21 : decode b_L_headGap 21 = .ok (.getfield 31, 3) := by decide +kernel
theorem d_L_headGap_24 : decode b_L_headGap 24 = .ok (.aload_n 0, 1) := by decide +kernel
theorem d_L_headGap_25 : decode b_L_headGap 25 = .ok (.getfield 42, 3) := by decide +kernel
theorem d_L_headGap_28 : decode b_L_headGap 28 = .ok (.aload_n 0, 1) := by decide +kernel
theorem d_L_headGap_29 : decode b_L_headGap 29 = .ok (.getfield 15, 3) := by decide +kernel
theorem d_L_headGap_32 : decode b_L_headGap 32 = .ok (.imul, 1) := by decide +kernel
theorem d_L_headGap_33 : decode b_L_headGap 33 = .ok (.iload_n 1, 1) := by decide +kernel
theorem d_L_headGap_34 : decode b_L_headGap 34 = .ok (.iadd, 1) := by decide +kernel
theorem d_L_headGap_35 : decode b_L_headGap 35 = .ok (.baload, 1) := by decide +kernel
theorem d_L_headGap_36 : decode b_L_headGap 36 = .ok (.ifCond .ne 15, 3) := by decide +kernel
theorem d_L_headGap_39 : decode b_L_headGap 39 = .ok (.aload_n 0, 1) := by decide +kernel
theorem d_L_headGap_40 : decode b_L_headGap 40 = .ok (.getfield 42, 3) := by decide +kernel
theorem d_L_headGap_43 : decode b_L_headGap 43 = .ok (.aload_n 0, 1) := by decide +kernel
theorem d_L_headGap_44 : decode b_L_headGap 44 = .ok (.getfield 15, 3) := by decide +kernel
theorem d_L_headGap_47 : decode b_L_headGap 47 = .ok (.imul, 1) := by decide +kernel
theorem d_L_headGap_48 : decode b_L_headGap 48 = .ok (.iload_n 1, 1) := by decide +kernel
theorem d_L_headGap_49 : decode b_L_headGap 49 = .ok (.iadd, 1) := by decide +kernel
theorem d_L_headGap_50 : decode b_L_headGap 50 = .ok (.ireturn, 1) := by decide +kernel
theorem d_L_headGap_51 : decode b_L_headGap 51 = .ok (.iinc 1 1, 3) := by decide +kernel
theorem d_L_headGap_54 : decode b_L_headGap 54 = .ok (.goto (-42), 3) := by decide +kernel
theorem d_L_headGap_57 : decode b_L_headGap 57 = .ok (.iconst (-1), 1) := by decide +kernel
theorem d_L_headGap_58 : decode b_L_headGap 58 = .ok (.ireturn, 1) := by decide +kernel
theorem d_L_markedPages_0 : decode b_L_markedPages 0 = .ok (.iconst 0, 1) := by decide +kernel
theorem d_L_markedPages_1 : decode b_L_markedPages 1 = .ok (.istore_n 2, 1) := by decide +kernel
theorem d_L_markedPages_2 : decode b_L_markedPages 2 = .ok (.iconst 0, 1) := by decide +kernel
theorem d_L_markedPages_3 : decode b_L_markedPages 3 = .ok (.istore_n 3, 1) := by decide +kernel
theorem d_L_markedPages_4 : decode b_L_markedPages 4 = .ok (.iload_n 3, 1) := by decide +kernel
theorem d_L_markedPages_5 : decode b_L_markedPages 5 = .ok (.aload_n 0, 1) := by decide +kernel
theorem d_L_markedPages_6 : decode b_L_markedPages 6 = .ok (.getfield 15, 3) := by decide +kernel
theorem d_L_markedPages_9 : decode b_L_markedPages 9 = .ok (.if_icmp .ge 28, 3) := by decide +kernel
theorem d_L_markedPages_12 : decode b_L_markedPages 12 = .ok (.aload_n 0, 1) := by decide +kernel
theorem d_L_markedPages_13 : decode b_L_markedPages 13 = .ok (.getfield 35, 3) := by decide +kernel
theorem d_L_markedPages_16 : decode b_L_markedPages 16 = .ok (.iload_n 1, 1) := by decide +kernel
theorem d_L_markedPages_17 : decode b_L_markedPages 17 = .ok (.aload_n 0, 1) := by decide +kernel
theorem d_L_markedPages_18 : decode b_L_markedPages 18 = .ok (.getfield 15, 3) := by decide +kernel
theorem d_L_markedPages_21 : decode b_L_markedPages 21 = .ok (.imul, 1) := by decide +kernel
theorem d_L_markedPages_22 : decode b_L_markedPages 22 = .ok (.iload_n 3, 1) := by decide +kernel
theorem d_L_markedPages_23 : decode b_L_markedPages 23 = .ok (.iadd, 1) := by decide +kernel
theorem d_L_markedPages_24 : decode b_L_markedPages 24 = .ok (.baload, 1) := by decide +kernel
theorem d_L_markedPages_25 : decode b_L_markedPages 25 = .ok (.ifCond .eq 6, 3) := by decide +kernel
theorem d_L_markedPages_28 : decode b_L_markedPages 28 = .ok (.iinc 2 1, 3) := by decide +kernel
theorem d_L_markedPages_31 : decode b_L_markedPages 31 = .ok (.iinc 3 1, 3) := by decide +kernel
theorem d_L_markedPages_34 : decode b_L_markedPages 34 = .ok (.goto (-30), 3) := by decide +kernel
theorem d_L_markedPages_37 : decode b_L_markedPages 37 = .ok (.iload_n 2, 1) := by decide +kernel
theorem d_L_markedPages_38 : decode b_L_markedPages 38 = .ok (.ireturn, 1) := by decide +kernel
theorem d_L_openHead_0 : decode b_L_openHead 0 = .ok (.aload_n 0, 1) := by decide +kernel
theorem d_L_openHead_1 : decode b_L_openHead 1 = .ok (.invokevirtual 69, 3) := by decide +kernel
theorem d_L_openHead_4 : decode b_L_openHead 4 = .ok (.iconst (-1), 1) := by decide +kernel
theorem d_L_openHead_5 : decode b_L_openHead 5 = .ok (.if_icmp .ne 19, 3) := by decide +kernel
theorem d_L_openHead_8 : decode b_L_openHead 8 = .ok (.aload_n 0, 1) := by decide +kernel
theorem d_L_openHead_9 : decode b_L_openHead 9 = .ok (.invokevirtual 73, 3) := by decide +kernel
theorem d_L_openHead_12 : decode b_L_openHead 12 = .ok (.iload_n 1, 1) := by decide +kernel
theorem d_L_openHead_13 : decode b_L_openHead 13 = .ok (.if_icmp .lt 11, 3) := by decide +kernel
theorem d_L_openHead_16 : decode b_L_openHead 16 = .ok (.aload_n 0, 1) := by decide +kernel
theorem d_L_openHead_17 : decode b_L_openHead 17 = .ok (.aload_n 0, 1) := by decide +kernel
theorem d_L_openHead_18 : decode b_L_openHead 18 = .ok (.invokevirtual 76, 3) := by decide +kernel
theorem d_L_openHead_21 : decode b_L_openHead 21 = .ok (.putfield 42, 3) := by decide +kernel
theorem d_L_openHead_24 : decode b_L_openHead 24 = .ok (.aload_n 0, 1) := by decide +kernel
theorem d_L_openHead_25 : decode b_L_openHead 25 = .ok (.invokevirtual 69, 3) := by decide +kernel
theorem d_L_openHead_28 : decode b_L_openHead 28 = .ok (.iconst (-1), 1) := by decide +kernel
theorem d_L_openHead_29 : decode b_L_openHead 29 = .ok (.if_icmp .eq 7, 3) := by decide +kernel
theorem d_L_openHead_32 : decode b_L_openHead 32 = .ok (.iconst 1, 1) := by decide +kernel
theorem d_L_openHead_33 : decode b_L_openHead 33 = .ok (.goto 4, 3) := by decide +kernel
theorem d_L_openHead_36 : decode b_L_openHead 36 = .ok (.iconst 0, 1) := by decide +kernel
theorem d_L_openHead_37 : decode b_L_openHead 37 = .ok (.ireturn, 1) := by decide +kernel
theorem d_L_lowestFree_0 : decode b_L_lowestFree 0 = .ok (.iconst 0, 1) := by decide +kernel
theorem d_L_lowestFree_1 : decode b_L_lowestFree 1 = .ok (.istore_n 1, 1) := by decide +kernel
theorem d_L_lowestFree_2 : decode b_L_lowestFree 2 = .ok (.iload_n 1, 1) := by decide +kernel
theorem d_L_lowestFree_3 : decode b_L_lowestFree 3 = .ok (.aload_n 0, 1) := by decide +kernel
theorem d_L_lowestFree_4 : decode b_L_lowestFree 4 = .ok (.getfield 9, 3) := by decide +kernel
theorem d_L_lowestFree_7 : decode b_L_lowestFree 7 = .ok (.if_icmp .ge 19, 3) := by decide +kernel
theorem d_L_lowestFree_10 : decode b_L_lowestFree 10 = .ok (.aload_n 0, 1) := by decide +kernel
theorem d_L_lowestFree_11 : decode b_L_lowestFree 11 = .ok (.iload_n 1, 1) := by decide +kernel
theorem d_L_lowestFree_12 : decode b_L_lowestFree 12 = .ok (.invokevirtual 48, 3) := by decide +kernel
theorem d_L_lowestFree_15 : decode b_L_lowestFree 15 = .ok (.ifCond .eq 5, 3) := by decide +kernel
theorem d_L_lowestFree_18 : decode b_L_lowestFree 18 = .ok (.iload_n 1, 1) := by decide +kernel
theorem d_L_lowestFree_19 : decode b_L_lowestFree 19 = .ok (.ireturn, 1) := by decide +kernel
theorem d_L_lowestFree_20 : decode b_L_lowestFree 20 = .ok (.iinc 1 1, 3) := by decide +kernel
theorem d_L_lowestFree_23 : decode b_L_lowestFree 23 = .ok (.goto (-21), 3) := by decide +kernel
theorem d_L_lowestFree_26 : decode b_L_lowestFree 26 = .ok (.iconst (-1), 1) := by decide +kernel
theorem d_L_lowestFree_27 : decode b_L_lowestFree 27 = .ok (.ireturn, 1) := by decide +kernel
theorem d_L_heldKeys_0 : decode b_L_heldKeys 0 = .ok (.iconst 0, 1) := by decide +kernel
theorem d_L_heldKeys_1 : decode b_L_heldKeys 1 = .ok (.istore_n 1, 1) := by decide +kernel
theorem d_L_heldKeys_2 : decode b_L_heldKeys 2 = .ok (.iconst 0, 1) := by decide +kernel
theorem d_L_heldKeys_3 : decode b_L_heldKeys 3 = .ok (.istore_n 2, 1) := by decide +kernel
theorem d_L_heldKeys_4 : decode b_L_heldKeys 4 = .ok (.iload_n 2, 1) := by decide +kernel
theorem d_L_heldKeys_5 : decode b_L_heldKeys 5 = .ok (.bipush 16, 2) := by decide +kernel
theorem d_L_heldKeys_7 : decode b_L_heldKeys 7 = .ok (.if_icmp .ge 20, 3) := by decide +kernel
theorem d_L_heldKeys_10 : decode b_L_heldKeys 10 = .ok (.aload_n 0, 1) := by decide +kernel
theorem d_L_heldKeys_11 : decode b_L_heldKeys 11 = .ok (.iload_n 2, 1) := by decide +kernel
theorem d_L_heldKeys_12 : decode b_L_heldKeys 12 = .ok (.invokevirtual 59, 3) := by decide +kernel
theorem d_L_heldKeys_15 : decode b_L_heldKeys 15 = .ok (.ifCond .eq 6, 3) := by decide +kernel
theorem d_L_heldKeys_18 : decode b_L_heldKeys 18 = .ok (.iinc 1 1, 3) := by decide +kernel
theorem d_L_heldKeys_21 : decode b_L_heldKeys 21 = .ok (.iinc 2 1, 3) := by decide +kernel
theorem d_L_heldKeys_24 : decode b_L_heldKeys 24 = .ok (.goto (-20), 3) := by decide +kernel
theorem d_L_heldKeys_27 : decode b_L_heldKeys 27 = .ok (.iload_n 1, 1) := by decide +kernel
theorem d_L_heldKeys_28 : decode b_L_heldKeys 28 = .ok (.ireturn, 1) := by decide +kernel
theorem d_L_isHeld_0 : decode b_L_isHeld 0 = .ok (.aload_n 0, 1) := by decide +kernel
theorem d_L_isHeld_1 : decode b_L_isHeld 1 = .ok (.iload_n 1, 1) := by decide +kernel
theorem d_L_isHeld_2 : decode b_L_isHeld 2 = .ok (.invokevirtual 56, 3) := by decide +kernel
theorem d_L_isHeld_5 : decode b_L_isHeld 5 = .ok (.istore_n 2, 1) := by decide +kernel
theorem d_L_isHeld_6 : decode b_L_isHeld 6 = .ok (.iload_n 2, 1) := by decide +kernel
theorem d_L_isHeld_7 : decode b_L_isHeld 7 = .ok (.iconst (-1), 1) := by decide +kernel
theorem d_L_isHeld_8 : decode b_L_isHeld 8 = .ok (.if_icmp .eq 17, 3) := by decide +kernel
theorem d_L_isHeld_11 : decode b_L_isHeld 11 = .ok (.aload_n 0, 1) := by decide +kernel
theorem d_L_isHeld_12 : decode b_L_isHeld 12 = .ok (.getfield 28, 3) := by decide +kernel
theorem d_L_isHeld_15 : decode b_L_isHeld 15 = .ok (.iload_n 2, 1) := by decide +kernel
theorem d_L_isHeld_16 : decode b_L_isHeld 16 = .ok (.iaload, 1) := by decide +kernel
theorem d_L_isHeld_17 : decode b_L_isHeld 17 = .ok (.iconst 1, 1) := by decide +kernel
theorem d_L_isHeld_18 : decode b_L_isHeld 18 = .ok (.if_icmp .ne 7, 3) := by decide +kernel
theorem d_L_isHeld_21 : decode b_L_isHeld 21 = .ok (.iconst 1, 1) := by decide +kernel
theorem d_L_isHeld_22 : decode b_L_isHeld 22 = .ok (.goto 4, 3) := by decide +kernel
theorem d_L_isHeld_25 : decode b_L_isHeld 25 = .ok (.iconst 0, 1) := by decide +kernel
theorem d_L_isHeld_26 : decode b_L_isHeld 26 = .ok (.ireturn, 1) := by decide +kernel
