theorem d_M_copy_0 : decode b_M_copy 0 = .ok (.aload_n 0, 1) := by decide +kernel
theorem d_M_copy_1 : decode b_M_copy 1 = .ok (.invokevirtual 118, 3) := by decide +kernel
theorem d_M_copy_4 : decode b_M_copy 4 = .ok (.ifCond .ne 5, 3) := by decide +kernel
theorem d_M_copy_7 : decode b_M_copy 7 = .ok (.iconst 0, 1) := by decide +kernel
theorem d_M_copy_8 : decode b_M_copy 8 = .ok (.ireturn, 1) := by decide +kernel
theorem d_M_copy_9 : decode b_M_copy 9 = .ok (.aload_n 0, 1) := by decide +kernel
theorem d_M_copy_10 : decode b_M_copy 10 = .ok (.invokevirtual 121, 3) := by decide +kernel
theorem d_M_copy_13 : decode b_M_copy 13 = .ok (.istore_n 2, 1) := by decide +kernel
theorem d_M_copy_14 : decode b_M_copy 14 = .ok (.aload_n 0, 1) := by decide +kernel
theorem d_M_copy_15 : decode b_M_copy 15 = .ok (.iload_n 1, 1) := by decide +kernel
theorem d_M_copy_16 : decode b_M_copy 16 = .ok (.invokevirtual 124, 3) := by decide +kernel
theorem d_M_copy_19 : decode b_M_copy 19 = .ok (.iconst 0, 1) := by decide +kernel
theorem d_M_copy_20 : decode b_M_copy 20 = .ok (.istore_n 3, 1) := by decide +kernel
theorem d_M_copy_21 : decode b_M_copy 21 = .ok (.iload_n 3, 1) := by decide +kernel
theorem d_M_copy_22 : decode b_M_copy 22 = .ok (.bipush 6, 2) := by decide +kernel
theorem d_M_copy_24 : decode b_M_copy 24 = .ok (.if_icmp .ge 26, 3) := by decide +kernel
theorem d_M_copy_27 : decode b_M_copy 27 = .ok (.aload_n 0, 1) := by decide +kernel
theorem d_M_copy_28 : decode b_M_copy 28 = .ok (.getfield 7, 3) := by decide +kernel
theorem d_M_copy_31 : decode b_M_copy 31 = .ok (.bipush 6, 2) := by decide +kernel
theorem d_M_copy_33 : decode b_M_copy 33 = .ok (.iload_n 2, 1) := by decide +kernel
theorem d_M_copy_34 : decode b_M_copy 34 = .ok (.imul, 1) := by decide +kernel
theorem d_M_copy_35 : decode b_M_copy 35 = .ok (.iload_n 3, 1) := by decide +kernel
theorem d_M_copy_36 : decode b_M_copy 36 = .ok (.iadd, 1) := by decide +kernel
theorem d_M_copy_37 : decode b_M_copy 37 = .ok (.aload_n 0, 1) := by decide +kernel
theorem d_M_copy_38 : decode b_M_copy 38 = .ok (.getfield 42, 3) := by decide +kernel
theorem d_M_copy_41 : decode b_M_copy 41 = .ok (.iload_n 3, 1) := by decide +kernel
theorem d_M_copy_42 : decode b_M_copy 42 = .ok (.iaload, 1) := by decide +kernel
theorem d_M_copy_43 : decode b_M_copy 43 = .ok (.iastore, 1) := by decide +kernel
theorem d_M_copy_44 : decode b_M_copy 44 = .ok (.iinc 3 1, 3) := by decide +kernel
theorem d_M_copy_47 : decode b_M_copy 47 = .ok (.goto (-26), 3) := by decide +kernel
theorem d_M_copy_50 : decode b_M_copy 50 = .ok (.aload_n 0, 1) := by decide +kernel
theorem d_M_copy_51 : decode b_M_copy 51 = .ok (.getfield 79, 3) := by decide +kernel
theorem d_M_copy_54 : decode b_M_copy 54 = .ok (.iconst 3, 1) := by decide +kernel
theorem d_M_copy_55 : decode b_M_copy 55 = .ok (.if_icmp .ne 39, 3) := by decide +kernel
theorem d_M_copy_58 : decode b_M_copy 58 = .ok (.iconst 0, 1) := by decide +kernel
theorem d_M_copy_59 : decode b_M_copy 59 = .ok (.istore_n 3, 1) := by decide +kernel
theorem d_M_copy_60 : decode b_M_copy 60 = .ok (.iload_n 3, 1) := by decide +kernel
theorem d_M_copy_61 : decode b_M_copy 61 = .ok (.bipush 6, 2) := by decide +kernel
theorem d_M_copy_63 : decode b_M_copy 63 = .ok (.if_icmp .ge 31, 3) := by decide +kernel
theorem d_M_copy_66 : decode b_M_copy 66 = .ok (.aload_n 0, 1) := by decide +kernel
theorem d_M_copy_67 : decode b_M_copy 67 = .ok (.getfield 7, 3) := by decide +kernel
theorem d_M_copy_70 : decode b_M_copy 70 = .ok (.bipush 6, 2) := by decide +kernel
theorem d_M_copy_72 : decode b_M_copy 72 = .ok (.iload_n 2, 1) := by decide +kernel
theorem d_M_copy_73 : decode b_M_copy 73 = .ok (.imul, 1) := by decide +kernel
theorem d_M_copy_74 : decode b_M_copy 74 = .ok (.iload_n 3, 1) := by decide +kernel
theorem d_M_copy_75 : decode b_M_copy 75 = .ok (.iadd, 1) := by decide +kernel
theorem d_M_copy_76 : decode b_M_copy 76 = .ok (.aload_n 0, 1) := by decide +kernel
theorem d_M_copy_77 : decode b_M_copy 77 = .ok (.getfield 7, 3) := by decide +kernel
theorem d_M_copy_80 : decode b_M_copy 80 = .ok (.bipush 6, 2) := by decide +kernel
theorem d_M_copy_82 : decode b_M_copy 82 = .ok (.iload_n 1, 1) := by decide +kernel
theorem d_M_copy_83 : decode b_M_copy 83 = .ok (.imul, 1) := by decide +kernel
theorem d_M_copy_84 : decode b_M_copy 84 = .ok (.iload_n 3, 1) := by decide +kernel
theorem d_M_copy_85 : decode b_M_copy 85 = .ok (.iadd, 1) := by decide +kernel
theorem d_M_copy_86 : decode b_M_copy 86 = .ok (.iaload, 1) := by decide +kernel
theorem d_M_copy_87 : decode b_M_copy 87 = .ok (.iastore, 1) := by decide +kernel
theorem d_M_copy_88 : decode b_M_copy 88 = .ok (.iinc 3 1, 3) := by decide +kernel
theorem d_M_copy_91 : decode b_M_copy 91 = .ok (.goto (-31), 3) := by decide +kernel
theorem d_M_copy_94 : decode b_M_copy 94 = .ok (.aload_n 0, 1) := by decide +kernel
theorem d_M_copy_95 : decode b_M_copy 95 = .ok (.getfield 16, 3) := by decide +kernel
theorem d_M_copy_98 : decode b_M_copy 98 = .ok (.iload_n 2, 1) := by decide +kernel
theorem d_M_copy_99 : decode b_M_copy 99 = .ok (.iconst 1, 1) := by decide +kernel
theorem d_M_copy_100 : decode b_M_copy 100 = .ok (.bastore, 1) := by decide +kernel
theorem d_M_copy_101 : decode b_M_copy 101 = .ok (.aload_n 0, 1) := by decide +kernel
theorem d_M_copy_102 : decode b_M_copy 102 = .ok (.getfield 20, 3) := by decide +kernel
theorem d_M_copy_105 : decode b_M_copy 105 = .ok (.iload_n 2, 1) := by decide +kernel
theorem d_M_copy_106 : decode b_M_copy 106 = .ok (.aload_n 0, 1) := by decide +kernel
theorem d_M_copy_107 : decode b_M_copy 107 = .ok (.getfield 20, 3) := by decide +kernel
theorem d_M_copy_110 : decode b_M_copy 110 = .ok (.iload_n 1, 1) := by decide +kernel
theorem d_M_copy_111 : decode b_M_copy 111 = .ok (.iaload, 1) := by decide +kernel
theorem d_M_copy_112 : decode b_M_copy 112 = .ok (.iastore, 1) := by decide +kernel
theorem d_M_copy_113 : decode b_M_copy 113 = .ok (.aload_n 0, 1) := by decide +kernel
theorem d_M_copy_114 : decode b_M_copy 114 = .ok (.getfield 23, 3) := by decide +kernel
theorem d_M_copy_117 : decode b_M_copy 117 = .ok (.iload_n 2, 1) := by decide +kernel
theorem d_M_copy_118 : decode b_M_copy 118 = .ok (.aload_n 0, 1) := by decide +kernel
theorem d_M_copy_119 : decode b_M_copy 119 = .ok (.getfield 23, 3) := by decide +kernel
theorem d_M_copy_122 : decode b_M_copy 122 = .ok (.iload_n 1, 1) := by decide +kernel
theorem d_M_copy_123 : decode b_M_copy 123 = .ok (.iaload, 1) := by decide +kernel
theorem d_M_copy_124 : decode b_M_copy 124 = .ok (.iastore, 1) := by decide +kernel
theorem d_M_copy_125 : decode b_M_copy 125 = .ok (.aload_n 0, 1) := by decide +kernel
theorem d_M_copy_126 : decode b_M_copy 126 = .ok (.getfield 26, 3) := by decide +kernel
theorem d_M_copy_129 : decode b_M_copy 129 = .ok (.iload_n 2, 1) := by decide +kernel
theorem d_M_copy_130 : decode b_M_copy 130 = .ok (.aload_n 0, 1) := by decide +kernel
theorem d_M_copy_131 : decode b_M_copy 131 = .ok (.getfield 26, 3) := by decide +kernel
theorem d_M_copy_134 : decode b_M_copy 134 = .ok (.iload_n 1, 1) := by decide +kernel
theorem d_M_copy_135 : decode b_M_copy 135 = .ok (.iaload, 1) := by decide +kernel
theorem d_M_copy_136 : decode b_M_copy 136 = .ok (.iastore, 1) := by decide +kernel
theorem d_M_copy_137 : decode b_M_copy 137 = .ok (.iconst 1, 1) := by decide +kernel
theorem d_M_copy_138 : decode b_M_copy 138 = .ok (.ireturn, 1) := by decide +kernel
theorem d_M_act_0 : decode b_M_act 0 = .ok (.aload_n 0, 1) := by decide +kernel
theorem d_M_act_1 : decode b_M_act 1 = .ok (.getfield 39, 3) := by decide +kernel
theorem d_M_act_4 : decode b_M_act 4 = .ok (.ifCond .ne 15, 3) := by decide +kernel
theorem d_M_act_7 : decode b_M_act 7 = .ok (.aload_n 0, 1) := by decide +kernel
theorem d_M_act_8 : decode b_M_act 8 = .ok (.iconst 1, 1) := by decide +kernel
theorem d_M_act_9 : decode b_M_act 9 = .ok (.putfield 69, 3) := by decide +kernel
theorem d_M_act_12 : decode b_M_act 12 = .ok (.aload_n 0, 1) := by decide +kernel
theorem d_M_act_13 : decode b_M_act 13 = .ok (.iconst 0, 1) := by decide +kernel
theorem d_M_act_14 : decode b_M_act 14 = .ok (.putfield 65, 3) := by decide +kernel
theorem d_M_act_17 : decode b_M_act 17 = .ok (.iconst 0, 1) := by decide +kernel
theorem d_M_act_18 : decode b_M_act 18 = .ok (.ireturn, 1) := by decide +kernel
theorem d_M_act_19 : decode b_M_act 19 = .ok (.aload_n 0, 1) := by decide +kernel
theorem d_M_act_20 : decode b_M_act 20 = .ok (.aload_n 0, 1) := by decide +kernel
theorem d_M_act_21 : decode b_M_act 21 = .ok (.getfield 39, 3) := by decide +kernel
theorem d_M_act_24 : decode b_M_act 24 = .ok (.ifCond .le 12, 3) := by decide +kernel
theorem d_M_act_27 : decode b_M_act 27 = .ok (.aload_n 0, 1) := by decide +kernel
theorem d_M_act_28 : decode b_M_act 28 = .ok (.getfield 39, 3) := by decide +kernel
theorem d_M_act_31 : decode b_M_act 31 = .ok (.iconst 1, 1) := by decide +kernel
theorem d_M_act_32 : decode b_M_act 32 = .ok (.isub, 1) := by decide +kernel
theorem d_M_act_33 : decode b_M_act 33 = .ok (.goto 7, 3) := by decide +kernel
theorem d_M_act_36 : decode b_M_act 36 = .ok (.aload_n 0, 1) := by decide +kernel
theorem d_M_act_37 : decode b_M_act 37 = .ok (.getfield 39, 3) := by decide +kernel
theorem d_M_act_40 : decode b_M_act 40 = .ok (.putfield 39, 3) := by decide +kernel
theorem d_M_act_43 : decode b_M_act 43 = .ok (.aload_n 0, 1) := by decide +kernel
theorem d_M_act_44 : decode b_M_act 44 = .ok (.dup, 1) := by decide +kernel
theorem d_M_act_45 : decode b_M_act 45 = .ok (.getfield 104, 3) := by decide +kernel
theorem d_M_act_48 : decode b_M_act 48 = .ok (.iconst 1, 1) := by decide +kernel
theorem d_M_act_49 : decode b_M_act 49 = .ok (.iadd, 1) := by decide +kernel
theorem d_M_act_50 : decode b_M_act 50 = .ok (.putfield 104, 3) := by decide +kernel
theorem d_M_act_53 : decode b_M_act 53 = .ok (.iconst 1, 1) := by decide +kernel
theorem d_M_act_54 : decode b_M_act 54 = .ok (.ireturn, 1) := by decide +kernel
theorem d_M_placeInHead_0 : decode b_M_placeInHead 0 = .ok (.aload_n 0, 1) := by decide +kernel
theorem d_M_placeInHead_1 : decode b_M_placeInHead 1 = .ok (.getfield 32, 3) := by decide +kernel
theorem d_M_placeInHead_4 : decode b_M_placeInHead 4 = .ok (.aload_n 0, 1) := by decide +kernel
theorem d_M_placeInHead_5 : decode b_M_placeInHead 5 = .ok (.getfield 48, 3) := by decide +kernel
theorem d_M_placeInHead_8 : decode b_M_placeInHead 8 = .ok (.imul, 1) := by decide +kernel
theorem d_M_placeInHead_9 : decode b_M_placeInHead 9 = .ok (.istore_n 1, 1) := by decide +kernel
theorem d_M_placeInHead_10 : decode b_M_placeInHead 10 = .ok (.aload_n 0, 1) := by decide +kernel
theorem d_M_placeInHead_11 : decode b_M_placeInHead 11 = .ok (.getfield 16, 3) := by decide +kernel
theorem d_M_placeInHead_14 : decode b_M_placeInHead 14 = .ok (.iload_n 1, 1) := by decide +kernel
theorem d_M_placeInHead_15 : decode b_M_placeInHead 15 = .ok (.baload, 1) := by decide +kernel
theorem d_M_placeInHead_16 : decode b_M_placeInHead 16 = .ok (.ifCond .eq 9, 3) := by decide +kernel
theorem d_M_placeInHead_19 : decode b_M_placeInHead 19 = .ok (.iinc 1 1, 3) := by decide +kernel
theorem d_M_placeInHead_22 : decode b_M_placeInHead 22 = .ok (.goto (-12), 3) := by decide +kernel
theorem d_M_placeInHead_25 : decode b_M_placeInHead 25 = .ok (.iload_n 1, 1) := by decide +kernel
theorem d_M_placeInHead_26 : decode b_M_placeInHead 26 = .ok (.ireturn, 1) := by decide +kernel
theorem d_M_heldKeys_0 : decode b_M_heldKeys 0 = .ok (.iconst 0, 1) := by decide +kernel
theorem d_M_heldKeys_1 : decode b_M_heldKeys 1 = .ok (.istore_n 1, 1) := by decide +kernel
theorem d_M_heldKeys_2 : decode b_M_heldKeys 2 = .ok (.iconst 0, 1) := by decide +kernel
theorem d_M_heldKeys_3 : decode b_M_heldKeys 3 = .ok (.istore_n 2, 1) := by decide +kernel
theorem d_M_heldKeys_4 : decode b_M_heldKeys 4 = .ok (.iload_n 2, 1) := by decide +kernel
theorem d_M_heldKeys_5 : decode b_M_heldKeys 5 = .ok (.bipush 16, 2) := by decide +kernel
theorem d_M_heldKeys_7 : decode b_M_heldKeys 7 = .ok (.if_icmp .ge 25, 3) := by decide +kernel
theorem d_M_heldKeys_10 : decode b_M_heldKeys 10 = .ok (.aload_n 0, 1) := by decide +kernel
theorem d_M_heldKeys_11 : decode b_M_heldKeys 11 = .ok (.iload_n 2, 1) := by decide +kernel
theorem d_M_heldKeys_12 : decode b_M_heldKeys 12 = .ok (.invokevirtual 139, 3) := by decide +kernel
theorem d_M_heldKeys_15 : decode b_M_heldKeys 15 = .ok (.ifCond .eq 9, 3) := by decide +kernel
theorem d_M_heldKeys_18 : decode b_M_heldKeys 18 = .ok (.iload_n 1, 1) := by decide +kernel
theorem d_M_heldKeys_19 : decode b_M_heldKeys 19 = .ok (.iconst 1, 1) := by decide +kernel
theorem d_M_heldKeys_20 : decode b_M_heldKeys 20 = .ok (.iadd, 1) := by decide +kernel
theorem d_M_heldKeys_21 : decode b_M_heldKeys 21 = .ok (.goto 4, 3) := by decide +kernel
theorem d_M_heldKeys_24 : decode b_M_heldKeys 24 = .ok (.iload_n 1, 1) := by decide +kernel
theorem d_M_heldKeys_25 : decode b_M_heldKeys 25 = .ok (.istore_n 1, 1) := by decide +kernel
theorem d_M_heldKeys_26 : decode b_M_heldKeys 26 = .ok (.iinc 2 1, 3) := by decide +kernel
theorem d_M_heldKeys_29 : decode b_M_heldKeys 29 = .ok (.goto (-25), 3) := by decide +kernel
theorem d_M_heldKeys_32 : decode b_M_heldKeys 32 = .ok (.iload_n 1, 1) := by decide +kernel
theorem d_M_heldKeys_33 : decode b_M_heldKeys 33 = .ok (.ireturn, 1) := by decide +kernel
theorem d_M_held_0 : decode b_M_held 0 = .ok (.aload_n 0, 1) := by decide +kernel
theorem d_M_held_1 : decode b_M_held 1 = .ok (.iload_n 1, 1) := by decide +kernel
theorem d_M_held_2 : decode b_M_held 2 = .ok (.invokevirtual 94, 3) := by decide +kernel
theorem d_M_held_5 : decode b_M_held 5 = .ok (.istore_n 2, 1) := by decide +kernel
theorem d_M_held_6 : decode b_M_held 6 = .ok (.iload_n 2, 1) := by decide +kernel
theorem d_M_held_7 : decode b_M_held 7 = .ok (.ifCond .lt 17, 3) := by decide +kernel
theorem d_M_held_10 : decode b_M_held 10 = .ok (.aload_n 0, 1) := by decide +kernel
theorem d_M_held_11 : decode b_M_held 11 = .ok (.getfield 26, 3) := by decide +kernel
theorem d_M_held_14 : decode b_M_held 14 = .ok (.iload_n 2, 1) := by decide +kernel
theorem d_M_held_15 : decode b_M_held 15 = .ok (.iaload, 1) := by decide +kernel
theorem d_M_held_16 : decode b_M_held 16 = .ok (.iconst 1, 1) := by decide +kernel
theorem d_M_held_17 : decode b_M_held 17 = .ok (.if_icmp .ne 7, 3) := by decide +kernel
theorem d_M_held_20 : decode b_M_held 20 = .ok (.iconst 1, 1) := by decide +kernel
theorem d_M_held_21 : decode b_M_held 21 = .ok (.goto 4, 3) := by decide +kernel
theorem d_M_held_24 : decode b_M_held 24 = .ok (.iconst 0, 1) := by decide +kernel
theorem d_M_held_25 : decode b_M_held 25 = .ok (.ireturn, 1) := by decide +kernel
theorem d_M_put_0 : decode b_M_put 0 = .ok (.iload_n 1, 1) := by decide +kernel
theorem d_M_put_1 : decode b_M_put 1 = .ok (.invokestatic 145, 3) := by decide +kernel
theorem d_M_put_4 : decode b_M_put 4 = .ok (.ifCond .ne 6, 3) := by decide +kernel
theorem d_M_put_7 : decode b_M_put 7 = .ok (.bipush (-3), 2) := by decide +kernel
theorem d_M_put_9 : decode b_M_put 9 = .ok (.ireturn, 1) := by decide +kernel
theorem d_M_put_10 : decode b_M_put 10 = .ok (.aload_n 0, 1) := by decide +kernel
theorem d_M_put_11 : decode b_M_put 11 = .ok (.getfield 65, 3) := by decide +kernel
theorem d_M_put_14 : decode b_M_put 14 = .ok (.ifCond .eq 13, 3) := by decide +kernel
theorem d_M_put_17 : decode b_M_put 17 = .ok (.aload_n 0, 1) := by decide +kernel
theorem d_M_put_18 : decode b_M_put 18 = .ok (.iload_n 1, 1) := by decide +kernel
theorem d_M_put_19 : decode b_M_put 19 = .ok (.iload_n 2, 1) := by decide +kernel
theorem d_M_put_20 : decode b_M_put 20 = .ok (.iconst 1, 1) := by decide +kernel
theorem d_M_put_21 : decode b_M_put 21 = .ok (.invokevirtual 148, 3) := by decide +kernel
theorem d_M_put_24 : decode b_M_put 24 = .ok (.goto 5, 3) := by decide +kernel
theorem d_M_put_27 : decode b_M_put 27 = .ok (.bipush (-2), 2) := by decide +kernel
theorem d_M_put_29 : decode b_M_put 29 = .ok (.ireturn, 1) := by decide +kernel
theorem d_M_isKey_0 : decode b_M_isKey 0 = .ok (.iload_n 0, 1) := by decide +kernel
theorem d_M_isKey_1 : decode b_M_isKey 1 = .ok (.ifCond .lt 13, 3) := by decide +kernel
theorem d_M_isKey_4 : decode b_M_isKey 4 = .ok (.iload_n 0, 1) := by decide +kernel
theorem d_M_isKey_5 : decode b_M_isKey 5 = .ok (.bipush 15, 2) := by decide +kernel
theorem d_M_isKey_7 : decode b_M_isKey 7 = .ok (.if_icmp .gt 7, 3) := by decide +kernel
theorem d_M_isKey_10 : decode b_M_isKey 10 = .ok (.iconst 1, 1) := by decide +kernel
theorem d_M_isKey_11 : decode b_M_isKey 11 = .ok (.goto 4, 3) := by decide +kernel
theorem d_M_isKey_14 : decode b_M_isKey 14 = .ok (.iconst 0, 1) := by decide +kernel
theorem d_M_isKey_15 : decode b_M_isKey 15 = .ok (.ireturn, 1) := by decide +kernel
theorem d_M_append_0 : decode b_M_append 0 = .ok (.aload_n 0, 1) := by decide +kernel
theorem d_M_append_1 : decode b_M_append 1 = .ok (.invokevirtual 107, 3) := by decide +kernel
theorem d_M_append_4 : decode b_M_append 4 = .ok (.ifCond .eq 47, 3) := by decide +kernel
theorem d_M_append_7 : decode b_M_append 7 = .ok (.aload_n 0, 1) := by decide +kernel
theorem d_M_append_8 : decode b_M_append 8 = .ok (.invokevirtual 114, 3) := by decide +kernel
theorem d_M_append_11 : decode b_M_append 11 = .ok (.iconst 1, 1) := by decide +kernel
theorem d_M_append_12 : decode b_M_append 12 = .ok (.if_icmp .le 14, 3) := by decide +kernel
theorem d_M_append_15 : decode b_M_append 15 = .ok (.aload_n 0, 1) := by decide +kernel
theorem d_M_append_16 : decode b_M_append 16 = .ok (.aload_n 0, 1) := by decide +kernel
theorem d_M_append_17 : decode b_M_append 17 = .ok (.invokevirtual 127, 3) := by decide +kernel
theorem d_M_append_20 : decode b_M_append 20 = .ok (.putfield 32, 3) := by decide +kernel
theorem d_M_append_23 : decode b_M_append 23 = .ok (.goto 28, 3) := by decide +kernel
theorem d_M_append_26 : decode b_M_append 26 = .ok (.aload_n 0, 1) := by decide +kernel
theorem d_M_append_27 : decode b_M_append 27 = .ok (.invokevirtual 133, 3) := by decide +kernel
theorem d_M_append_30 : decode b_M_append 30 = .ok (.istore 4, 2) := by decide +kernel
theorem d_M_append_32 : decode b_M_append 32 = .ok (.iload 4, 2) := by decide +kernel
theorem d_M_append_34 : decode b_M_append 34 = .ok (.ifCond .ge 5, 3) := by decide +kernel
theorem d_M_append_37 : decode b_M_append 37 = .ok (.iconst (-1), 1) := by decide +kernel
theorem d_M_append_38 : decode b_M_append 38 = .ok (.ireturn, 1) := by decide +kernel
theorem d_M_append_39 : decode b_M_append 39 = .ok (.aload_n 0, 1) := by decide +kernel
theorem d_M_append_40 : decode b_M_append 40 = .ok (.iload 4, 2) := by decide +kernel
theorem d_M_append_42 : decode b_M_append 42 = .ok (.invokevirtual 136, 3) := by decide +kernel
theorem d_M_append_45 : decode b_M_append 45 = .ok (.ifCond .ne 6, 3) := by decide +kernel
theorem d_M_append_48 : decode b_M_append 48 = .ok (.bipush (-2), 2) := by decide +kernel
theorem d_M_append_50 : decode b_M_append 50 = .ok (.ireturn, 1) := by decide +kernel
theorem d_M_append_51 : decode b_M_append 51 = .ok (.aload_n 0, 1) := by decide +kernel
theorem d_M_append_52 : decode b_M_append 52 = .ok (.invokevirtual 118, 3) := by decide +kernel
theorem d_M_append_55 : decode b_M_append 55 = .ok (.ifCond .ne 6, 3) := by decide +kernel
theorem d_M_append_58 : decode b_M_append 58 = .ok (.bipush (-2), 2) := by decide +kernel
theorem d_M_append_60 : decode b_M_append 60 = .ok (.ireturn, 1) := by decide +kernel
theorem d_M_append_61 : decode b_M_append 61 = .ok (.aload_n 0, 1) := by decide +kernel
theorem d_M_append_62 : decode b_M_append 62 = .ok (.invokevirtual 121, 3) := by decide +kernel
theorem d_M_append_65 : decode b_M_append 65 = .ok (.istore 4, 2) := by decide +kernel
theorem d_M_append_67 : decode b_M_append 67 = .ok (.aload_n 0, 1) := by decide +kernel
theorem d_M_append_68 : decode b_M_append 68 = .ok (.getfield 7, 3) := by decide +kernel
theorem d_M_append_71 : decode b_M_append 71 = .ok (.bipush 6, 2) := by decide +kernel
theorem d_M_append_73 : decode b_M_append 73 = .ok (.iload 4, 2) := by decide +kernel
theorem d_M_append_75 : decode b_M_append 75 = .ok (.imul, 1) := by decide +kernel
theorem d_M_append_76 : decode b_M_append 76 = .ok (.aload_n 0, 1) := by decide +kernel
theorem d_M_append_77 : decode b_M_append 77 = .ok (.getfield 36, 3) := by decide +kernel
theorem d_M_append_80 : decode b_M_append 80 = .ok (.iastore, 1) := by decide +kernel
theorem d_M_append_81 : decode b_M_append 81 = .ok (.aload_n 0, 1) := by decide +kernel
theorem d_M_append_82 : decode b_M_append 82 = .ok (.getfield 7, 3) := by decide +kernel
theorem d_M_append_85 : decode b_M_append 85 = .ok (.bipush 6, 2) := by decide +kernel
theorem d_M_append_87 : decode b_M_append 87 = .ok (.iload 4, 2) := by decide +kernel
theorem d_M_append_89 : decode b_M_append 89 = .ok (.imul, 1) := by decide +kernel
theorem d_M_append_90 : decode b_M_append 90 = .ok (.iconst 1, 1) := by decide +kernel
theorem d_M_append_91 : decode b_M_append 91 = .ok (.iadd, 1) := by decide +kernel
theorem d_M_append_92 : decode b_M_append 92 = .ok (.iload_n 1, 1) := by decide +kernel
theorem d_M_append_93 : decode b_M_append 93 = .ok (.iastore, 1) := by decide +kernel
theorem d_M_append_94 : decode b_M_append 94 = .ok (.aload_n 0, 1) := by decide +kernel
theorem d_M_append_95 : decode b_M_append 95 = .ok (.getfield 7, 3) := by decide +kernel
theorem d_M_append_98 : decode b_M_append 98 = .ok (.bipush 6, 2) := by decide +kernel
theorem d_M_append_100 : decode b_M_append 100 = .ok (.iload 4, 2) := by decide +kernel
theorem d_M_append_102 : decode b_M_append 102 = .ok (.imul, 1) := by decide +kernel
theorem d_M_append_103 : decode b_M_append 103 = .ok (.iconst 2, 1) := by decide +kernel
theorem d_M_append_104 : decode b_M_append 104 = .ok (.iadd, 1) := by decide +kernel
theorem d_M_append_105 : decode b_M_append 105 = .ok (.iload_n 2, 1) := by decide +kernel
theorem d_M_append_106 : decode b_M_append 106 = .ok (.iastore, 1) := by decide +kernel
theorem d_M_append_107 : decode b_M_append 107 = .ok (.aload_n 0, 1) := by decide +kernel
theorem d_M_append_108 : decode b_M_append 108 = .ok (.getfield 7, 3) := by decide +kernel
theorem d_M_append_111 : decode b_M_append 111 = .ok (.bipush 6, 2) := by decide +kernel
theorem d_M_append_113 : decode b_M_append 113 = .ok (.iload 4, 2) := by decide +kernel
theorem d_M_append_115 : decode b_M_append 115 = .ok (.imul, 1) := by decide +kernel
theorem d_M_append_116 : decode b_M_append 116 = .ok (.iconst 3, 1) := by decide +kernel
theorem d_M_append_117 : decode b_M_append 117 = .ok (.iadd, 1) := by decide +kernel
theorem d_M_append_118 : decode b_M_append 118 = .ok (.iload_n 3, 1) := by decide +kernel
theorem d_M_append_119 : decode b_M_append 119 = .ok (.iastore, 1) := by decide +kernel
theorem d_M_append_120 : decode b_M_append 120 = .ok (.aload_n 0, 1) := by decide +kernel
theorem d_M_append_121 : decode b_M_append 121 = .ok (.getfield 7, 3) := by decide +kernel
theorem d_M_append_124 : decode b_M_append 124 = .ok (.bipush 6, 2) := by decide +kernel
theorem d_M_append_126 : decode b_M_append 126 = .ok (.iload 4, 2) := by decide +kernel
theorem d_M_append_128 : decode b_M_append 128 = .ok (.imul, 1) := by decide +kernel
theorem d_M_append_129 : decode b_M_append 129 = .ok (.iconst 4, 1) := by decide +kernel
theorem d_M_append_130 : decode b_M_append 130 = .ok (.iadd, 1) := by decide +kernel
theorem d_M_append_131 : decode b_M_append 131 = .ok (.aload_n 0, 1) := by decide +kernel
theorem d_M_append_132 : decode b_M_append 132 = .ok (.getfield 36, 3) := by decide +kernel
theorem d_M_append_135 : decode b_M_append 135 = .ok (.iload_n 1, 1) := by decide +kernel
theorem d_M_append_136 : decode b_M_append 136 = .ok (.iload_n 2, 1) := by decide +kernel
theorem d_M_append_137 : decode b_M_append 137 = .ok (.iload_n 3, 1) := by decide +kernel
theorem d_M_append_138 : decode b_M_append 138 = .ok (.invokestatic 86, 3) := by decide +kernel
theorem d_M_append_141 : decode b_M_append 141 = .ok (.iastore, 1) := by decide +kernel
theorem d_M_append_142 : decode b_M_append 142 = .ok (.aload_n 0, 1) := by decide +kernel
theorem d_M_append_143 : decode b_M_append 143 = .ok (.getfield 7, 3) := by decide +kernel
theorem d_M_append_146 : decode b_M_append 146 = .ok (.bipush 6, 2) := by decide +kernel
theorem d_M_append_148 : decode b_M_append 148 = .ok (.iload 4, 2) := by decide +kernel
theorem d_M_append_150 : decode b_M_append 150 = .ok (.imul, 1) := by decide +kernel
theorem d_M_append_151 : decode b_M_append 151 = .ok (.iconst 5, 1) := by decide +kernel
theorem d_M_append_152 : decode b_M_append 152 = .ok (.iadd, 1) := by decide +kernel
theorem d_M_append_153 : decode b_M_append 153 = .ok (.iconst 0, 1) := by decide +kernel
theorem d_M_append_154 : decode b_M_append 154 = .ok (.iastore, 1) := by decide +kernel
theorem d_M_append_155 : decode b_M_append 155 = .ok (.iconst 0, 1) := by decide +kernel
theorem d_M_append_156 : decode b_M_append 156 = .ok (.istore 5, 2) := by decide +kernel
theorem d_M_append_158 : decode b_M_append 158 = .ok (.iconst 0, 1) := by decide +kernel
theorem d_M_append_159 : decode b_M_append 159 = .ok (.istore 6, 2) := by decide +kernel
theorem d_M_append_161 : decode b_M_append 161 = .ok (.iload 6, 2) := by decide +kernel
theorem d_M_append_163 : decode b_M_append 163 = .ok (.sipush 160, 3) := by decide +kernel
theorem d_M_append_166 : decode b_M_append 166 = .ok (.if_icmp .ge 38, 3) := by decide +kernel
theorem d_M_append_169 : decode b_M_append 169 = .ok (.aload_n 0, 1) := by decide +kernel
theorem d_M_append_170 : decode b_M_append 170 = .ok (.iload 4, 2) := by decide +kernel
theorem d_M_append_172 : decode b_M_append 172 = .ok (.iload 6, 2) := by decide +kernel
theorem d_M_append_174 : decode b_M_append 174 = .ok (.invokevirtual 75, 3) := by decide +kernel
theorem d_M_append_177 : decode b_M_append 177 = .ok (.iconst 1, 1) := by decide +kernel
theorem d_M_append_178 : decode b_M_append 178 = .ok (.if_icmp .ne 16, 3) := by decide +kernel
theorem d_M_append_181 : decode b_M_append 181 = .ok (.iload 5, 2) := by decide +kernel
theorem d_M_append_183 : decode b_M_append 183 = .ok (.aload_n 0, 1) := by decide +kernel
theorem d_M_append_184 : decode b_M_append 184 = .ok (.getfield 13, 3) := by decide +kernel
theorem d_M_append_187 : decode b_M_append 187 = .ok (.iload 6, 2) := by decide +kernel
theorem d_M_append_189 : decode b_M_append 189 = .ok (.iaload, 1) := by decide +kernel
theorem d_M_append_190 : decode b_M_append 190 = .ok (.ixor, 1) := by decide +kernel
theorem d_M_append_191 : decode b_M_append 191 = .ok (.goto 5, 3) := by decide +kernel
theorem d_M_append_194 : decode b_M_append 194 = .ok (.iload 5, 2) := by decide +kernel
theorem d_M_append_196 : decode b_M_append 196 = .ok (.istore 5, 2) := by decide +kernel
theorem d_M_append_198 : decode b_M_append 198 = .ok (.iinc 6 1, 3) := by decide +kernel
theorem d_M_append_201 : decode b_M_append 201 = .ok (.goto (-40), 3) := by decide +kernel
theorem d_M_append_204 : decode b_M_append 204 = .ok (.aload_n 0, 1) := by decide +kernel
theorem d_M_append_205 : decode b_M_append 205 = .ok (.getfield 7, 3) := by decide +kernel
theorem d_M_append_208 : decode b_M_append 208 = .ok (.bipush 6, 2) := by decide +kernel
theorem d_M_append_210 : decode b_M_append 210 = .ok (.iload 4, 2) := by decide +kernel
theorem d_M_append_212 : decode b_M_append 212 = .ok (.imul, 1) := by decide +kernel
theorem d_M_append_213 : decode b_M_append 213 = .ok (.iconst 5, 1) := by decide +kernel
theorem d_M_append_214 : decode b_M_append 214 = .ok (.iadd, 1) := by decide +kernel
theorem d_M_append_215 : decode b_M_append 215 = .ok (.iload 5, 2) := by decide +kernel
theorem d_M_append_217 : decode b_M_append 217 = .ok (.iastore, 1) := by decide +kernel
theorem d_M_append_218 : decode b_M_append 218 = .ok (.aload_n 0, 1) := by decide +kernel
theorem d_M_append_219 : decode b_M_append 219 = .ok (.getfield 16, 3) := by decide +kernel
theorem d_M_append_222 : decode b_M_append 222 = .ok (.iload 4, 2) := by decide +kernel
theorem d_M_append_224 : decode b_M_append 224 = .ok (.iconst 1, 1) := by decide +kernel
theorem d_M_append_225 : decode b_M_append 225 = .ok (.bastore, 1) := by decide +kernel
theorem d_M_append_226 : decode b_M_append 226 = .ok (.aload_n 0, 1) := by decide +kernel
theorem d_M_append_227 : decode b_M_append 227 = .ok (.getfield 20, 3) := by decide +kernel
theorem d_M_append_230 : decode b_M_append 230 = .ok (.iload 4, 2) := by decide +kernel
theorem d_M_append_232 : decode b_M_append 232 = .ok (.aload_n 0, 1) := by decide +kernel
theorem d_M_append_233 : decode b_M_append 233 = .ok (.getfield 36, 3) := by decide +kernel
theorem d_M_append_236 : decode b_M_append 236 = .ok (.iastore, 1) := by decide +kernel
theorem d_M_append_237 : decode b_M_append 237 = .ok (.aload_n 0, 1) := by decide +kernel
theorem d_M_append_238 : decode b_M_append 238 = .ok (.getfield 23, 3) := by decide +kernel
theorem d_M_append_241 : decode b_M_append 241 = .ok (.iload 4, 2) := by decide +kernel
theorem d_M_append_243 : decode b_M_append 243 = .ok (.iload_n 1, 1) := by decide +kernel
theorem d_M_append_244 : decode b_M_append 244 = .ok (.iastore, 1) := by decide +kernel
theorem d_M_append_245 : decode b_M_append 245 = .ok (.aload_n 0, 1) := by decide +kernel
theorem d_M_append_246 : decode b_M_append 246 = .ok (.getfield 26, 3) := by decide +kernel
theorem d_M_append_249 : decode b_M_append 249 = .ok (.iload 4, 2) := by decide +kernel
theorem d_M_append_251 : decode b_M_append 251 = .ok (.iload_n 3, 1) := by decide +kernel
theorem d_M_append_252 : decode b_M_append 252 = .ok (.iastore, 1) := by decide +kernel
theorem d_M_append_253 : decode b_M_append 253 = .ok (.aload_n 0, 1) := by decide +kernel
theorem d_M_append_254 : decode b_M_append 254 = .ok (.dup, 1) := by decide +kernel
theorem d_M_append_255 : decode b_M_append 255 = .ok (.getfield 36, 3) := by decide +kernel
theorem d_M_append_258 : decode b_M_append 258 = .ok (.iconst 1, 1) := by decide +kernel
theorem d_M_append_259 : decode b_M_append 259 = .ok (.iadd, 1) := by decide +kernel
theorem d_M_append_260 : decode b_M_append 260 = .ok (.putfield 36, 3) := by decide +kernel
theorem d_M_append_263 : decode b_M_append 263 = .ok (.iconst 0, 1) := by decide +kernel
theorem d_M_append_264 : decode b_M_append 264 = .ok (.ireturn, 1) := by decide +kernel
theorem d_M_remove_0 : decode b_M_remove 0 = .ok (.iload_n 1, 1) := by decide +kernel
theorem d_M_remove_1 : decode b_M_remove 1 = .ok (.invokestatic 145, 3) := by decide +kernel
theorem d_M_remove_4 : decode b_M_remove 4 = .ok (.ifCond .ne 6, 3) := by decide +kernel
theorem d_M_remove_7 : decode b_M_remove 7 = .ok (.bipush (-3), 2) := by decide +kernel
theorem d_M_remove_9 : decode b_M_remove 9 = .ok (.ireturn, 1) := by decide +kernel
theorem d_M_remove_10 : decode b_M_remove 10 = .ok (.aload_n 0, 1) := by decide +kernel
theorem d_M_remove_11 : decode b_M_remove 11 = .ok (.getfield 65, 3) := by decide +kernel
theorem d_M_remove_14 : decode b_M_remove 14 = .ok (.ifCond .ne 6, 3) := by decide +kernel
theorem d_M_remove_17 : decode b_M_remove 17 = .ok (.bipush (-2), 2) := by decide +kernel
theorem d_M_remove_19 : decode b_M_remove 19 = .ok (.ireturn, 1) := by decide +kernel
theorem d_M_remove_20 : decode b_M_remove 20 = .ok (.aload_n 0, 1) := by decide +kernel
theorem d_M_remove_21 : decode b_M_remove 21 = .ok (.iload_n 1, 1) := by decide +kernel
theorem d_M_remove_22 : decode b_M_remove 22 = .ok (.invokevirtual 139, 3) := by decide +kernel
theorem d_M_remove_25 : decode b_M_remove 25 = .ok (.ifCond .eq 13, 3) := by decide +kernel
theorem d_M_remove_28 : decode b_M_remove 28 = .ok (.aload_n 0, 1) := by decide +kernel
theorem d_M_remove_29 : decode b_M_remove 29 = .ok (.iload_n 1, 1) := by decide +kernel
theorem d_M_remove_30 : decode b_M_remove 30 = .ok (.iconst 0, 1) := by decide +kernel
theorem d_M_remove_31 : decode b_M_remove 31 = .ok (.iconst 2, 1) := by decide +kernel
theorem d_M_remove_32 : decode b_M_remove 32 = .ok (.invokevirtual 148, 3) := by decide +kernel
theorem d_M_remove_35 : decode b_M_remove 35 = .ok (.goto 4, 3) := by decide +kernel
theorem d_M_remove_38 : decode b_M_remove 38 = .ok (.iconst 1, 1) := by decide +kernel
theorem d_M_remove_39 : decode b_M_remove 39 = .ok (.ireturn, 1) := by decide +kernel
theorem d_M_has_0 : decode b_M_has 0 = .ok (.aload_n 0, 1) := by decide +kernel
theorem d_M_has_1 : decode b_M_has 1 = .ok (.getfield 65, 3) := by decide +kernel
theorem d_M_has_4 : decode b_M_has 4 = .ok (.ifCond .eq 22, 3) := by decide +kernel
theorem d_M_has_7 : decode b_M_has 7 = .ok (.iload_n 1, 1) := by decide +kernel
theorem d_M_has_8 : decode b_M_has 8 = .ok (.invokestatic 145, 3) := by decide +kernel
theorem d_M_has_11 : decode b_M_has 11 = .ok (.ifCond .eq 15, 3) := by decide +kernel
theorem d_M_has_14 : decode b_M_has 14 = .ok (.aload_n 0, 1) := by decide +kernel
theorem d_M_has_15 : decode b_M_has 15 = .ok (.iload_n 1, 1) := by decide +kernel
theorem d_M_has_16 : decode b_M_has 16 = .ok (.invokevirtual 139, 3) := by decide +kernel
theorem d_M_has_19 : decode b_M_has 19 = .ok (.ifCond .eq 7, 3) := by decide +kernel
theorem d_M_has_22 : decode b_M_has 22 = .ok (.iconst 1, 1) := by decide +kernel
theorem d_M_has_23 : decode b_M_has 23 = .ok (.goto 4, 3) := by decide +kernel
theorem d_M_has_26 : decode b_M_has 26 = .ok (.iconst 0, 1) := by decide +kernel
theorem d_M_has_27 : decode b_M_has 27 = .ok (.ireturn, 1) := by decide +kernel
theorem d_M_get_0 : decode b_M_get 0 = .ok (.aload_n 0, 1) := by decide +kernel
theorem d_M_get_1 : decode b_M_get 1 = .ok (.iload_n 1, 1) := by decide +kernel
theorem d_M_get_2 : decode b_M_get 2 = .ok (.invokevirtual 152, 3) := by decide +kernel
theorem d_M_get_5 : decode b_M_get 5 = .ok (.ifCond .ne 5, 3) := by decide +kernel
theorem d_M_get_8 : decode b_M_get 8 = .ok (.iconst 0, 1) := by decide +kernel
theorem d_M_get_9 : decode b_M_get 9 = .ok (.ireturn, 1) := by decide +kernel
theorem d_M_get_10 : decode b_M_get 10 = .ok (.aload_n 0, 1) := by decide +kernel
theorem d_M_get_11 : decode b_M_get 11 = .ok (.iload_n 1, 1) := by decide +kernel
theorem d_M_get_12 : decode b_M_get 12 = .ok (.invokevirtual 94, 3) := by decide +kernel
theorem d_M_get_15 : decode b_M_get 15 = .ok (.istore_n 2, 1) := by decide +kernel
theorem d_M_get_16 : decode b_M_get 16 = .ok (.aload_n 0, 1) := by decide +kernel
theorem d_M_get_17 : decode b_M_get 17 = .ok (.iload_n 2, 1) := by decide +kernel
theorem d_M_get_18 : decode b_M_get 18 = .ok (.invokevirtual 124, 3) := by decide +kernel
theorem d_M_get_21 : decode b_M_get 21 = .ok (.aload_n 0, 1) := by decide +kernel
theorem d_M_get_22 : decode b_M_get 22 = .ok (.getfield 79, 3) := by decide +kernel
theorem d_M_get_25 : decode b_M_get 25 = .ok (.iconst 1, 1) := by decide +kernel
theorem d_M_get_26 : decode b_M_get 26 = .ok (.if_icmp .eq 11, 3) := by decide +kernel
theorem d_M_get_29 : decode b_M_get 29 = .ok (.aload_n 0, 1) := by decide +kernel
theorem d_M_get_30 : decode b_M_get 30 = .ok (.getfield 79, 3) := by decide +kernel
theorem d_M_get_33 : decode b_M_get 33 = .ok (.iconst 2, 1) := by decide +kernel
theorem d_M_get_34 : decode b_M_get 34 = .ok (.if_icmp .ne 12, 3) := by decide +kernel
theorem d_M_get_37 : decode b_M_get 37 = .ok (.aload_n 0, 1) := by decide +kernel
theorem d_M_get_38 : decode b_M_get 38 = .ok (.getfield 42, 3) := by decide +kernel
theorem d_M_get_41 : decode b_M_get 41 = .ok (.iconst 2, 1) := by decide +kernel
theorem d_M_get_42 : decode b_M_get 42 = .ok (.iaload, 1) := by decide +kernel
theorem d_M_get_43 : decode b_M_get 43 = .ok (.goto 4, 3) := by decide +kernel
theorem d_M_get_46 : decode b_M_get 46 = .ok (.iconst 0, 1) := by decide +kernel
theorem d_M_get_47 : decode b_M_get 47 = .ok (.ireturn, 1) := by decide +kernel
theorem d_M_size_0 : decode b_M_size 0 = .ok (.aload_n 0, 1) := by decide +kernel
theorem d_M_size_1 : decode b_M_size 1 = .ok (.getfield 65, 3) := by decide +kernel
theorem d_M_size_4 : decode b_M_size 4 = .ok (.ifCond .eq 10, 3) := by decide +kernel
theorem d_M_size_7 : decode b_M_size 7 = .ok (.aload_n 0, 1) := by decide +kernel
theorem d_M_size_8 : decode b_M_size 8 = .ok (.invokevirtual 142, 3) := by decide +kernel
theorem d_M_size_11 : decode b_M_size 11 = .ok (.goto 5, 3) := by decide +kernel
theorem d_M_size_14 : decode b_M_size 14 = .ok (.bipush (-2), 2) := by decide +kernel
theorem d_M_size_16 : decode b_M_size 16 = .ok (.ireturn, 1) := by decide +kernel
theorem d_M_rot_0 : decode b_M_rot 0 = .ok (.aload_n 0, 1) := by decide +kernel
theorem d_M_rot_1 : decode b_M_rot 1 = .ok (.iload_n 1, 1) := by decide +kernel
theorem d_M_rot_2 : decode b_M_rot 2 = .ok (.invokevirtual 155, 3) := by decide +kernel
theorem d_M_rot_5 : decode b_M_rot 5 = .ok (.ifCond .eq 14, 3) := by decide +kernel
theorem d_M_rot_8 : decode b_M_rot 8 = .ok (.iload_n 2, 1) := by decide +kernel
theorem d_M_rot_9 : decode b_M_rot 9 = .ok (.ifCond .lt 10, 3) := by decide +kernel
theorem d_M_rot_12 : decode b_M_rot 12 = .ok (.iload_n 2, 1) := by decide +kernel
theorem d_M_rot_13 : decode b_M_rot 13 = .ok (.sipush 177, 3) := by decide +kernel
theorem d_M_rot_16 : decode b_M_rot 16 = .ok (.if_icmp .le 5, 3) := by decide +kernel
theorem d_M_rot_19 : decode b_M_rot 19 = .ok (.iconst 0, 1) := by decide +kernel
theorem d_M_rot_20 : decode b_M_rot 20 = .ok (.ireturn, 1) := by decide +kernel
theorem d_M_rot_21 : decode b_M_rot 21 = .ok (.aload_n 0, 1) := by decide +kernel
theorem d_M_rot_22 : decode b_M_rot 22 = .ok (.getfield 7, 3) := by decide +kernel
theorem d_M_rot_25 : decode b_M_rot 25 = .ok (.bipush 6, 2) := by decide +kernel
theorem d_M_rot_27 : decode b_M_rot 27 = .ok (.iload_n 1, 1) := by decide +kernel
theorem d_M_rot_28 : decode b_M_rot 28 = .ok (.imul, 1) := by decide +kernel
theorem d_M_rot_29 : decode b_M_rot 29 = .ok (.iload_n 2, 1) := by decide +kernel
theorem d_M_rot_30 : decode b_M_rot 30 = .ok (.bipush 32, 2) := by decide +kernel
theorem d_M_rot_32 : decode b_M_rot 32 = .ok (.idiv, 1) := by decide +kernel
theorem d_M_rot_33 : decode b_M_rot 33 = .ok (.iadd, 1) := by decide +kernel
theorem d_M_rot_34 : decode b_M_rot 34 = .ok (.aload_n 0, 1) := by decide +kernel
theorem d_M_rot_35 : decode b_M_rot 35 = .ok (.getfield 7, 3) := by decide +kernel
theorem d_M_rot_38 : decode b_M_rot 38 = .ok (.bipush 6, 2) := by decide +kernel
theorem d_M_rot_40 : decode b_M_rot 40 = .ok (.iload_n 1, 1) := by decide +kernel
theorem d_M_rot_41 : decode b_M_rot 41 = .ok (.imul, 1) := by decide +kernel
theorem d_M_rot_42 : decode b_M_rot 42 = .ok (.iload_n 2, 1) := by decide +kernel
theorem d_M_rot_43 : decode b_M_rot 43 = .ok (.bipush 32, 2) := by decide +kernel
theorem d_M_rot_45 : decode b_M_rot 45 = .ok (.idiv, 1) := by decide +kernel
theorem d_M_rot_46 : decode b_M_rot 46 = .ok (.iadd, 1) := by decide +kernel
theorem d_M_rot_47 : decode b_M_rot 47 = .ok (.iaload, 1) := by decide +kernel
theorem d_M_rot_48 : decode b_M_rot 48 = .ok (.iconst 1, 1) := by decide +kernel
theorem d_M_rot_49 : decode b_M_rot 49 = .ok (.iload_n 2, 1) := by decide +kernel
theorem d_M_rot_50 : decode b_M_rot 50 = .ok (.bipush 32, 2) := by decide +kernel
theorem d_M_rot_52 : decode b_M_rot 52 = .ok (.irem, 1) := by decide +kernel
theorem d_M_rot_53 : decode b_M_rot 53 = .ok (.ishl, 1) := by decide +kernel
theorem d_M_rot_54 : decode b_M_rot 54 = .ok (.ixor, 1) := by decide +kernel
theorem d_M_rot_55 : decode b_M_rot 55 = .ok (.iastore, 1) := by decide +kernel
theorem d_M_rot_56 : decode b_M_rot 56 = .ok (.iconst 1, 1) := by decide +kernel
theorem d_M_rot_57 : decode b_M_rot 57 = .ok (.ireturn, 1) := by decide +kernel
theorem d_M_isPage_0 : decode b_M_isPage 0 = .ok (.iload_n 1, 1) := by decide +kernel
theorem d_M_isPage_1 : decode b_M_isPage 1 = .ok (.ifCond .lt 15, 3) := by decide +kernel
theorem d_M_isPage_4 : decode b_M_isPage 4 = .ok (.iload_n 1, 1) := by decide +kernel
theorem d_M_isPage_5 : decode b_M_isPage 5 = .ok (.aload_n 0, 1) := by decide +kernel
theorem d_M_isPage_6 : decode b_M_isPage 6 = .ok (.getfield 51, 3) := by decide +kernel
theorem d_M_isPage_9 : decode b_M_isPage 9 = .ok (.if_icmp .ge 7, 3) := by decide +kernel
theorem d_M_isPage_12 : decode b_M_isPage 12 = .ok (.iconst 1, 1) := by decide +kernel
theorem d_M_isPage_13 : decode b_M_isPage 13 = .ok (.goto 4, 3) := by decide +kernel
theorem d_M_isPage_16 : decode b_M_isPage 16 = .ok (.iconst 0, 1) := by decide +kernel
theorem d_M_isPage_17 : decode b_M_isPage 17 = .ok (.ireturn, 1) := by decide +kernel
theorem d_M_scrub_0 : decode b_M_scrub 0 = .ok (.aload_n 0, 1) := by decide +kernel
theorem d_M_scrub_1 : decode b_M_scrub 1 = .ok (.getfield 65, 3) := by decide +kernel
theorem d_M_scrub_4 : decode b_M_scrub 4 = .ok (.ifCond .ne 6, 3) := by decide +kernel
theorem d_M_scrub_7 : decode b_M_scrub 7 = .ok (.bipush (-2), 2) := by decide +kernel
theorem d_M_scrub_9 : decode b_M_scrub 9 = .ok (.ireturn, 1) := by decide +kernel
theorem d_M_scrub_10 : decode b_M_scrub 10 = .ok (.iconst 0, 1) := by decide +kernel
theorem d_M_scrub_11 : decode b_M_scrub 11 = .ok (.istore_n 1, 1) := by decide +kernel
theorem d_M_scrub_12 : decode b_M_scrub 12 = .ok (.iconst 0, 1) := by decide +kernel
theorem d_M_scrub_13 : decode b_M_scrub 13 = .ok (.istore_n 2, 1) := by decide +kernel
theorem d_M_scrub_14 : decode b_M_scrub 14 = .ok (.iload_n 2, 1) := by decide +kernel
theorem d_M_scrub_15 : decode b_M_scrub 15 = .ok (.aload_n 0, 1) := by decide +kernel
theorem d_M_scrub_16 : decode b_M_scrub 16 = .ok (.getfield 51, 3) := by decide +kernel
theorem d_M_scrub_19 : decode b_M_scrub 19 = .ok (.if_icmp .ge 181, 3) := by decide +kernel
theorem d_M_scrub_22 : decode b_M_scrub 22 = .ok (.aload_n 0, 1) := by decide +kernel
theorem d_M_scrub_23 : decode b_M_scrub 23 = .ok (.iload_n 2, 1) := by decide +kernel
theorem d_M_scrub_24 : decode b_M_scrub 24 = .ok (.invokevirtual 124, 3) := by decide +kernel
theorem d_M_scrub_27 : decode b_M_scrub 27 = .ok (.aload_n 0, 1) := by decide +kernel
theorem d_M_scrub_28 : decode b_M_scrub 28 = .ok (.getfield 79, 3) := by decide +kernel
theorem d_M_scrub_31 : decode b_M_scrub 31 = .ok (.ifCond .ne 84, 3) := by decide +kernel
theorem d_M_scrub_34 : decode b_M_scrub 34 = .ok (.aload_n 0, 1) := by decide +kernel
theorem d_M_scrub_35 : decode b_M_scrub 35 = .ok (.getfield 7, 3) := by decide +kernel
theorem d_M_scrub_38 : decode b_M_scrub 38 = .ok (.bipush 6, 2) := by decide +kernel
theorem d_M_scrub_40 : decode b_M_scrub 40 = .ok (.iload_n 2, 1) := by decide +kernel
theorem d_M_scrub_41 : decode b_M_scrub 41 = .ok (.imul, 1) := by decide +kernel
theorem d_M_scrub_42 : decode b_M_scrub 42 = .ok (.iconst 5, 1) := by decide +kernel
theorem d_M_scrub_43 : decode b_M_scrub 43 = .ok (.iadd, 1) := by decide +kernel
theorem d_M_scrub_44 : decode b_M_scrub 44 = .ok (.iaload, 1) := by decide +kernel
theorem d_M_scrub_45 : decode b_M_scrub 45 = .ok (.ldc 60, 2) := by decide +kernel
theorem d_M_scrub_47 : decode b_M_scrub 47 = .ok (.if_icmp .ne 64, 3) := by decide +kernel
theorem d_M_scrub_50 : decode b_M_scrub 50 = .ok (.aload_n 0, 1) := by decide +kernel
theorem d_M_scrub_51 : decode b_M_scrub 51 = .ok (.getfield 7, 3) := by decide +kernel
theorem d_M_scrub_54 : decode b_M_scrub 54 = .ok (.bipush 6, 2) := by decide +kernel
theorem d_M_scrub_56 : decode b_M_scrub 56 = .ok (.iload_n 2, 1) := by decide +kernel
theorem d_M_scrub_57 : decode b_M_scrub 57 = .ok (.imul, 1) := by decide +kernel
theorem d_M_scrub_58 : decode b_M_scrub 58 = .ok (.iaload, 1) := by decide +kernel
theorem d_M_scrub_59 : decode b_M_scrub 59 = .ok (.aload_n 0, 1) := by decide +kernel
theorem d_M_scrub_60 : decode b_M_scrub 60 = .ok (.getfield 7, 3) := by decide +kernel
theorem d_M_scrub_63 : decode b_M_scrub 63 = .ok (.bipush 6, 2) := by decide +kernel
theorem d_M_scrub_65 : decode b_M_scrub 65 = .ok (.iload_n 2, 1) := by decide +kernel
theorem d_M_scrub_66 : decode b_M_scrub 66 = .ok (.imul, 1) := by decide +kernel
theorem d_M_scrub_67 : decode b_M_scrub 67 = .ok (.iconst 1, 1) := by decide +kernel
theorem d_M_scrub_68 : decode b_M_scrub 68 = .ok (.iadd, 1) := by decide +kernel
theorem d_M_scrub_69 : decode b_M_scrub 69 = .ok (.iaload, 1) := by decide +kernel
theorem d_M_scrub_70 : decode b_M_scrub 70 = .ok (.iand, 1) := by decide +kernel
theorem d_M_scrub_71 : decode b_M_scrub 71 = .ok (.aload_n 0, 1) := by decide +kernel
theorem d_M_scrub_72 : decode b_M_scrub 72 = .ok (.getfield 7, 3) := by decide +kernel
theorem d_M_scrub_75 : decode b_M_scrub 75 = .ok (.bipush 6, 2) := by decide +kernel
theorem d_M_scrub_77 : decode b_M_scrub 77 = .ok (.iload_n 2, 1) := by decide +kernel
theorem d_M_scrub_78 : decode b_M_scrub 78 = .ok (.imul, 1) := by decide +kernel
theorem d_M_scrub_79 : decode b_M_scrub 79 = .ok (.iconst 2, 1) := by decide +kernel
theorem d_M_scrub_80 : decode b_M_scrub 80 = .ok (.iadd, 1) := by decide +kernel
theorem d_M_scrub_81 : decode b_M_scrub 81 = .ok (.iaload, 1) := by decide +kernel
theorem d_M_scrub_82 : decode b_M_scrub 82 = .ok (.iand, 1) := by decide +kernel
theorem d_M_scrub_83 : decode b_M_scrub 83 = .ok (.aload_n 0, 1) := by decide +kernel
theorem d_M_scrub_84 : decode b_M_scrub 84 = .ok (.getfield 7, 3) := by decide +kernel
theorem d_M_scrub_87 : decode b_M_scrub 87 = .ok (.bipush 6, 2) := by decide +kernel
theorem d_M_scrub_89 : decode b_M_scrub 89 = .ok (.iload_n 2, 1) := by decide +kernel
theorem d_M_scrub_90 : decode b_M_scrub 90 = .ok (.imul, 1) := by decide +kernel
theorem d_M_scrub_91 : decode b_M_scrub 91 = .ok (.iconst 3, 1) := by decide +kernel
theorem d_M_scrub_92 : decode b_M_scrub 92 = .ok (.iadd, 1) := by decide +kernel
theorem d_M_scrub_93 : decode b_M_scrub 93 = .ok (.iaload, 1) := by decide +kernel
theorem d_M_scrub_94 : decode b_M_scrub 94 = .ok (.iand, 1) := by decide +kernel
theorem d_M_scrub_95 : decode b_M_scrub 95 = .ok (.aload_n 0, 1) := by decide +kernel
theorem d_M_scrub_96 : decode b_M_scrub 96 = .ok (.getfield 7, 3) := by decide +kernel
theorem d_M_scrub_99 : decode b_M_scrub 99 = .ok (.bipush 6, 2) := by decide +kernel
theorem d_M_scrub_101 : decode b_M_scrub 101 = .ok (.iload_n 2, 1) := by decide +kernel
theorem d_M_scrub_102 : decode b_M_scrub 102 = .ok (.imul, 1) := by decide +kernel
theorem d_M_scrub_103 : decode b_M_scrub 103 = .ok (.iconst 4, 1) := by decide +kernel
theorem d_M_scrub_104 : decode b_M_scrub 104 = .ok (.iadd, 1) := by decide +kernel
theorem d_M_scrub_105 : decode b_M_scrub 105 = .ok (.iaload, 1) := by decide +kernel
theorem d_M_scrub_106 : decode b_M_scrub 106 = .ok (.iand, 1) := by decide +kernel
theorem d_M_scrub_107 : decode b_M_scrub 107 = .ok (.iconst (-1), 1) := by decide +kernel
theorem d_M_scrub_108 : decode b_M_scrub 108 = .ok (.if_icmp .eq 7, 3) := by decide +kernel
theorem d_M_scrub_111 : decode b_M_scrub 111 = .ok (.iconst 1, 1) := by decide +kernel
theorem d_M_scrub_112 : decode b_M_scrub 112 = .ok (.goto 4, 3) := by decide +kernel
theorem d_M_scrub_115 : decode b_M_scrub 115 = .ok (.iconst 0, 1) := by decide +kernel
theorem d_M_scrub_116 : decode b_M_scrub 116 = .ok (.istore_n 3, 1) := by decide +kernel
theorem d_M_scrub_117 : decode b_M_scrub 117 = .ok (.aload_n 0, 1) := by decide +kernel
theorem d_M_scrub_118 : decode b_M_scrub 118 = .ok (.getfield 79, 3) := by decide +kernel
theorem d_M_scrub_121 : decode b_M_scrub 121 = .ok (.iconst 2, 1) := by decide +kernel
theorem d_M_scrub_122 : decode b_M_scrub 122 = .ok (.if_icmp .eq 7, 3) := by decide +kernel
theorem d_M_scrub_125 : decode b_M_scrub 125 = .ok (.iload_n 3, 1) := by decide +kernel
theorem d_M_scrub_126 : decode b_M_scrub 126 = .ok (.ifCond .eq 68, 3) := by decide +kernel
theorem d_M_scrub_129 : decode b_M_scrub 129 = .ok (.aload_n 0, 1) := by decide +kernel
theorem d_M_scrub_130 : decode b_M_scrub 130 = .ok (.invokevirtual 118, 3) := by decide +kernel
theorem d_M_scrub_133 : decode b_M_scrub 133 = .ok (.ifCond .ne 6, 3) := by decide +kernel
theorem d_M_scrub_136 : decode b_M_scrub 136 = .ok (.bipush (-2), 2) := by decide +kernel
theorem d_M_scrub_138 : decode b_M_scrub 138 = .ok (.ireturn, 1) := by decide +kernel
theorem d_M_scrub_139 : decode b_M_scrub 139 = .ok (.iinc 1 1, 3) := by decide +kernel
theorem d_M_scrub_142 : decode b_M_scrub 142 = .ok (.iconst 0, 1) := by decide +kernel
theorem d_M_scrub_143 : decode b_M_scrub 143 = .ok (.istore 4, 2) := by decide +kernel
theorem d_M_scrub_145 : decode b_M_scrub 145 = .ok (.iload 4, 2) := by decide +kernel
theorem d_M_scrub_147 : decode b_M_scrub 147 = .ok (.bipush 6, 2) := by decide +kernel
theorem d_M_scrub_149 : decode b_M_scrub 149 = .ok (.if_icmp .ge 36, 3) := by decide +kernel
theorem d_M_scrub_152 : decode b_M_scrub 152 = .ok (.aload_n 0, 1) := by decide +kernel
theorem d_M_scrub_153 : decode b_M_scrub 153 = .ok (.getfield 79, 3) := by decide +kernel
theorem d_M_scrub_156 : decode b_M_scrub 156 = .ok (.iconst 2, 1) := by decide +kernel
theorem d_M_scrub_157 : decode b_M_scrub 157 = .ok (.if_icmp .ne 28, 3) := by decide +kernel
theorem d_M_scrub_160 : decode b_M_scrub 160 = .ok (.aload_n 0, 1) := by decide +kernel
theorem d_M_scrub_161 : decode b_M_scrub 161 = .ok (.getfield 7, 3) := by decide +kernel
theorem d_M_scrub_164 : decode b_M_scrub 164 = .ok (.bipush 6, 2) := by decide +kernel
theorem d_M_scrub_166 : decode b_M_scrub 166 = .ok (.iload_n 2, 1) := by decide +kernel
theorem d_M_scrub_167 : decode b_M_scrub 167 = .ok (.imul, 1) := by decide +kernel
theorem d_M_scrub_168 : decode b_M_scrub 168 = .ok (.iload 4, 2) := by decide +kernel
theorem d_M_scrub_170 : decode b_M_scrub 170 = .ok (.iadd, 1) := by decide +kernel
theorem d_M_scrub_171 : decode b_M_scrub 171 = .ok (.aload_n 0, 1) := by decide +kernel
theorem d_M_scrub_172 : decode b_M_scrub 172 = .ok (.getfield 42, 3) := by decide +kernel
theorem d_M_scrub_175 : decode b_M_scrub 175 = .ok (.iload 4, 2) := by decide +kernel
theorem d_M_scrub_177 : decode b_M_scrub 177 = .ok (.iaload, 1) := by decide +kernel
theorem d_M_scrub_178 : decode b_M_scrub 178 = .ok (.iastore, 1) := by decide +kernel
theorem d_M_scrub_179 : decode b_M_scrub 179 = .ok (.iinc 4 1, 3) := by decide +kernel
theorem d_M_scrub_182 : decode b_M_scrub 182 = .ok (.goto (-37), 3) := by decide +kernel
theorem d_M_scrub_185 : decode b_M_scrub 185 = .ok (.iload_n 3, 1) := by decide +kernel
theorem d_M_scrub_186 : decode b_M_scrub 186 = .ok (.ifCond .eq 8, 3) := by decide +kernel
theorem d_M_scrub_189 : decode b_M_scrub 189 = .ok (.aload_n 0, 1) := by decide +kernel
theorem d_M_scrub_190 : decode b_M_scrub 190 = .ok (.iload_n 2, 1) := by decide +kernel
theorem d_M_scrub_191 : decode b_M_scrub 191 = .ok (.invokevirtual 61, 3) := by decide +kernel
theorem d_M_scrub_194 : decode b_M_scrub 194 = .ok (.iinc 2 1, 3) := by decide +kernel
theorem d_M_scrub_197 : decode b_M_scrub 197 = .ok (.goto (-183), 3) := by decide +kernel
theorem d_M_scrub_200 : decode b_M_scrub 200 = .ok (.iload_n 1, 1) := by decide +kernel
theorem d_M_scrub_201 : decode b_M_scrub 201 = .ok (.ireturn, 1) := by decide +kernel
theorem d_M_arm_0 : decode b_M_arm 0 = .ok (.iload_n 1, 1) := by decide +kernel
theorem d_M_arm_1 : decode b_M_arm 1 = .ok (.ifCond .ge 5, 3) := by decide +kernel
theorem d_M_arm_4 : decode b_M_arm 4 = .ok (.iconst 0, 1) := by decide +kernel
theorem d_M_arm_5 : decode b_M_arm 5 = .ok (.ireturn, 1) := by decide +kernel
theorem d_M_arm_6 : decode b_M_arm 6 = .ok (.aload_n 0, 1) := by decide +kernel
theorem d_M_arm_7 : decode b_M_arm 7 = .ok (.iload_n 1, 1) := by decide +kernel
theorem d_M_arm_8 : decode b_M_arm 8 = .ok (.putfield 39, 3) := by decide +kernel
theorem d_M_arm_11 : decode b_M_arm 11 = .ok (.iconst 1, 1) := by decide +kernel
theorem d_M_arm_12 : decode b_M_arm 12 = .ok (.ireturn, 1) := by decide +kernel
theorem d_M_crashed_0 : decode b_M_crashed 0 = .ok (.aload_n 0, 1) := by decide +kernel
theorem d_M_crashed_1 : decode b_M_crashed 1 = .ok (.getfield 69, 3) := by decide +kernel
theorem d_M_crashed_4 : decode b_M_crashed 4 = .ok (.ireturn, 1) := by decide +kernel
theorem d_M_condition_0 : decode b_M_condition 0 = .ok (.aload_n 0, 1) := by decide +kernel
theorem d_M_condition_1 : decode b_M_condition 1 = .ok (.iload_n 1, 1) := by decide +kernel
theorem d_M_condition_2 : decode b_M_condition 2 = .ok (.invokevirtual 155, 3) := by decide +kernel
theorem d_M_condition_5 : decode b_M_condition 5 = .ok (.ifCond .ne 6, 3) := by decide +kernel
theorem d_M_condition_8 : decode b_M_condition 8 = .ok (.bipush (-3), 2) := by decide +kernel
theorem d_M_condition_10 : decode b_M_condition 10 = .ok (.ireturn, 1) := by decide +kernel
theorem d_M_condition_11 : decode b_M_condition 11 = .ok (.aload_n 0, 1) := by decide +kernel
theorem d_M_condition_12 : decode b_M_condition 12 = .ok (.iload_n 1, 1) := by decide +kernel
theorem d_M_condition_13 : decode b_M_condition 13 = .ok (.invokevirtual 124, 3) := by decide +kernel
theorem d_M_condition_16 : decode b_M_condition 16 = .ok (.aload_n 0, 1) := by decide +kernel
theorem d_M_condition_17 : decode b_M_condition 17 = .ok (.getfield 79, 3) := by decide +kernel
theorem d_M_condition_20 : decode b_M_condition 20 = .ok (.ireturn, 1) := by decide +kernel
theorem d_M_word_0 : decode b_M_word 0 = .ok (.aload_n 0, 1) := by decide +kernel
theorem d_M_word_1 : decode b_M_word 1 = .ok (.iload_n 1, 1) := by decide +kernel
theorem d_M_word_2 : decode b_M_word 2 = .ok (.invokevirtual 155, 3) := by decide +kernel
theorem d_M_word_5 : decode b_M_word 5 = .ok (.ifCond .eq 27, 3) := by decide +kernel
theorem d_M_word_8 : decode b_M_word 8 = .ok (.iload_n 2, 1) := by decide +kernel
theorem d_M_word_9 : decode b_M_word 9 = .ok (.ifCond .lt 23, 3) := by decide +kernel
theorem d_M_word_12 : decode b_M_word 12 = .ok (.iload_n 2, 1) := by decide +kernel
theorem d_M_word_13 : decode b_M_word 13 = .ok (.bipush 6, 2) := by decide +kernel
theorem d_M_word_15 : decode b_M_word 15 = .ok (.if_icmp .ge 17, 3) := by decide +kernel
theorem d_M_word_18 : decode b_M_word 18 = .ok (.aload_n 0, 1) := by decide +kernel
theorem d_M_word_19 : decode b_M_word 19 = .ok (.getfield 7, 3) := by decide +kernel
theorem d_M_word_22 : decode b_M_word 22 = .ok (.bipush 6, 2) := by decide +kernel
theorem d_M_word_24 : decode b_M_word 24 = .ok (.iload_n 1, 1) := by decide +kernel
theorem d_M_word_25 : decode b_M_word 25 = .ok (.imul, 1) := by decide +kernel
theorem d_M_word_26 : decode b_M_word 26 = .ok (.iload_n 2, 1) := by decide +kernel
theorem d_M_word_27 : decode b_M_word 27 = .ok (.iadd, 1) := by decide +kernel
theorem d_M_word_28 : decode b_M_word 28 = .ok (.iaload, 1) := by decide +kernel
theorem d_M_word_29 : decode b_M_word 29 = .ok (.goto 4, 3) := by decide +kernel
theorem d_M_word_32 : decode b_M_word 32 = .ok (.iconst 0, 1) := by decide +kernel
theorem d_M_word_33 : decode b_M_word 33 = .ok (.ireturn, 1) := by decide +kernel
theorem d_M_needed_0 : decode b_M_needed 0 = .ok (.iload_n 1, 1) := by decide +kernel
theorem d_M_needed_1 : decode b_M_needed 1 = .ok (.ifCond .lt 11, 3) := by decide +kernel
theorem d_M_needed_4 : decode b_M_needed 4 = .ok (.iload_n 1, 1) := by decide +kernel
theorem d_M_needed_5 : decode b_M_needed 5 = .ok (.aload_n 0, 1) := by decide +kernel
theorem d_M_needed_6 : decode b_M_needed 6 = .ok (.getfield 45, 3) := by decide +kernel
theorem d_M_needed_9 : decode b_M_needed 9 = .ok (.if_icmp .lt 6, 3) := by decide +kernel
theorem d_M_needed_12 : decode b_M_needed 12 = .ok (.bipush (-3), 2) := by decide +kernel
theorem d_M_needed_14 : decode b_M_needed 14 = .ok (.ireturn, 1) := by decide +kernel
theorem d_M_needed_15 : decode b_M_needed 15 = .ok (.aload_n 0, 1) := by decide +kernel
theorem d_M_needed_16 : decode b_M_needed 16 = .ok (.getfield 65, 3) := by decide +kernel
theorem d_M_needed_19 : decode b_M_needed 19 = .ok (.ifCond .eq 11, 3) := by decide +kernel
theorem d_M_needed_22 : decode b_M_needed 22 = .ok (.aload_n 0, 1) := by decide +kernel
theorem d_M_needed_23 : decode b_M_needed 23 = .ok (.iload_n 1, 1) := by decide +kernel
theorem d_M_needed_24 : decode b_M_needed 24 = .ok (.invokevirtual 111, 3) := by decide +kernel
theorem d_M_needed_27 : decode b_M_needed 27 = .ok (.goto 5, 3) := by decide +kernel
theorem d_M_needed_30 : decode b_M_needed 30 = .ok (.bipush (-2), 2) := by decide +kernel
theorem d_M_needed_32 : decode b_M_needed 32 = .ok (.ireturn, 1) := by decide +kernel
theorem d_M_head_0 : decode b_M_head 0 = .ok (.aload_n 0, 1) := by decide +kernel
theorem d_M_head_1 : decode b_M_head 1 = .ok (.getfield 65, 3) := by decide +kernel
theorem d_M_head_4 : decode b_M_head 4 = .ok (.ifCond .eq 10, 3) := by decide +kernel
theorem d_M_head_7 : decode b_M_head 7 = .ok (.aload_n 0, 1) := by decide +kernel
theorem d_M_head_8 : decode b_M_head 8 = .ok (.getfield 32, 3) := by decide +kernel
theorem d_M_head_11 : decode b_M_head 11 = .ok (.goto 5, 3) := by decide +kernel
theorem d_M_head_14 : decode b_M_head 14 = .ok (.bipush (-2), 2) := by decide +kernel
theorem d_M_head_16 : decode b_M_head 16 = .ok (.ireturn, 1) := by decide +kernel
theorem d_M_acts_0 : decode b_M_acts 0 = .ok (.aload_n 0, 1) := by decide +kernel
theorem d_M_acts_1 : decode b_M_acts 1 = .ok (.getfield 104, 3) := by decide +kernel
theorem d_M_acts_4 : decode b_M_acts 4 = .ok (.ireturn, 1) := by decide +kernel
