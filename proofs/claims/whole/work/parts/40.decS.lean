theorem d_S_ini_0 : decode b_S_ini 0 = .ok (.aload_n 0, 1) := by decide +kernel
theorem d_S_ini_1 : decode b_S_ini 1 = .ok (.invokespecial 3, 3) := by decide +kernel
theorem d_S_ini_4 : decode b_S_ini 4 = .ok (.iconst 3, 1) := by decide +kernel
theorem d_S_ini_5 : decode b_S_ini 5 = .ok (.iconst 5, 1) := by decide +kernel
theorem d_S_ini_6 : decode b_S_ini 6 = .ok (.iload_n 1, 1) := by decide +kernel
theorem d_S_ini_7 : decode b_S_ini 7 = .ok (.invokestatic 9, 3) := by decide +kernel
theorem d_S_ini_10 : decode b_S_ini 10 = .ok (.invokestatic 15, 3) := by decide +kernel
theorem d_S_ini_13 : decode b_S_ini 13 = .ok (.istore_n 3, 1) := by decide +kernel
theorem d_S_ini_14 : decode b_S_ini 14 = .ok (.iconst 2, 1) := by decide +kernel
theorem d_S_ini_15 : decode b_S_ini 15 = .ok (.iconst 4, 1) := by decide +kernel
theorem d_S_ini_16 : decode b_S_ini 16 = .ok (.iload_n 2, 1) := by decide +kernel
theorem d_S_ini_17 : decode b_S_ini 17 = .ok (.invokestatic 9, 3) := by decide +kernel
theorem d_S_ini_20 : decode b_S_ini 20 = .ok (.invokestatic 15, 3) := by decide +kernel
theorem d_S_ini_23 : decode b_S_ini 23 = .ok (.istore 4, 2) := by decide +kernel
theorem d_S_ini_25 : decode b_S_ini 25 = .ok (.aload_n 0, 1) := by decide +kernel
theorem d_S_ini_26 : decode b_S_ini 26 = .ok (.new 18, 3) := by decide +kernel
theorem d_S_ini_29 : decode b_S_ini 29 = .ok (.dup, 1) := by decide +kernel
theorem d_S_ini_30 : decode b_S_ini 30 = .ok (.iload_n 3, 1) := by decide +kernel
theorem d_S_ini_31 : decode b_S_ini 31 = .ok (.iload 4, 2) := by decide +kernel
theorem d_S_ini_33 : decode b_S_ini 33 = .ok (.imul, 1) := by decide +kernel
theorem d_S_ini_34 : decode b_S_ini 34 = .ok (.invokespecial 20, 3) := by decide +kernel
theorem d_S_ini_37 : decode b_S_ini 37 = .ok (.putfield 23, 3) := by decide +kernel
theorem d_S_ini_40 : decode b_S_ini 40 = .ok (.aload_n 0, 1) := by decide +kernel
theorem d_S_ini_41 : decode b_S_ini 41 = .ok (.new 27, 3) := by decide +kernel
theorem d_S_ini_44 : decode b_S_ini 44 = .ok (.dup, 1) := by decide +kernel
theorem d_S_ini_45 : decode b_S_ini 45 = .ok (.iload_n 3, 1) := by decide +kernel
theorem d_S_ini_46 : decode b_S_ini 46 = .ok (.iload 4, 2) := by decide +kernel
theorem d_S_ini_48 : decode b_S_ini 48 = .ok (.invokespecial 29, 3) := by decide +kernel
theorem d_S_ini_51 : decode b_S_ini 51 = .ok (.putfield 32, 3) := by decide +kernel
theorem d_S_ini_54 : decode b_S_ini 54 = .ok (.aload_n 0, 1) := by decide +kernel
theorem d_S_ini_55 : decode b_S_ini 55 = .ok (.invokevirtual 36, 3) := by decide +kernel
theorem d_S_ini_58 : decode b_S_ini 58 = .ok (.return_, 1) := by decide +kernel
theorem d_S_init_0 : decode b_S_init 0 = .ok (.aload_n 0, 1) := by decide +kernel
theorem d_S_init_1 : decode b_S_init 1 = .ok (.invokevirtual 39, 3) := by decide +kernel
theorem d_S_init_4 : decode b_S_init 4 = .ok (.aload_n 0, 1) := by decide +kernel
theorem d_S_init_5 : decode b_S_init 5 = .ok (.getfield 23, 3) := by decide +kernel
theorem d_S_init_8 : decode b_S_init 8 = .ok (.iconst 0, 1) := by decide +kernel
theorem d_S_init_9 : decode b_S_init 9 = .ok (.aload_n 0, 1) := by decide +kernel
theorem d_S_init_10 : decode b_S_init 10 = .ok (.getfield 23, 3) := by decide +kernel
theorem d_S_init_13 : decode b_S_init 13 = .ok (.getfield 42, 3) := by decide +kernel
theorem d_S_init_16 : decode b_S_init 16 = .ok (.invokevirtual 46, 3) := by decide +kernel
theorem d_S_init_19 : decode b_S_init 19 = .ok (.aload_n 0, 1) := by decide +kernel
theorem d_S_init_20 : decode b_S_init 20 = .ok (.getfield 32, 3) := by decide +kernel
theorem d_S_init_23 : decode b_S_init 23 = .ok (.invokevirtual 49, 3) := by decide +kernel
theorem d_S_init_26 : decode b_S_init 26 = .ok (.aload_n 0, 1) := by decide +kernel
theorem d_S_init_27 : decode b_S_init 27 = .ok (.iconst 1, 1) := by decide +kernel
theorem d_S_init_28 : decode b_S_init 28 = .ok (.putfield 52, 3) := by decide +kernel
theorem d_S_init_31 : decode b_S_init 31 = .ok (.return_, 1) := by decide +kernel
theorem d_S_powerUp_0 : decode b_S_powerUp 0 = .ok (.aload_n 0, 1) := by decide +kernel
theorem d_S_powerUp_1 : decode b_S_powerUp 1 = .ok (.iconst 0, 1) := by decide +kernel
theorem d_S_powerUp_2 : decode b_S_powerUp 2 = .ok (.putfield 119, 3) := by decide +kernel
theorem d_S_powerUp_5 : decode b_S_powerUp 5 = .ok (.aload_n 0, 1) := by decide +kernel
theorem d_S_powerUp_6 : decode b_S_powerUp 6 = .ok (.iconst 0, 1) := by decide +kernel
theorem d_S_powerUp_7 : decode b_S_powerUp 7 = .ok (.putfield 113, 3) := by decide +kernel
theorem d_S_powerUp_10 : decode b_S_powerUp 10 = .ok (.aload_n 0, 1) := by decide +kernel
theorem d_S_powerUp_11 : decode b_S_powerUp 11 = .ok (.iconst 0, 1) := by decide +kernel
theorem d_S_powerUp_12 : decode b_S_powerUp 12 = .ok (.putfield 116, 3) := by decide +kernel
theorem d_S_powerUp_15 : decode b_S_powerUp 15 = .ok (.return_, 1) := by decide +kernel
theorem d_S_mount_0 : decode b_S_mount 0 = .ok (.aload_n 0, 1) := by decide +kernel
theorem d_S_mount_1 : decode b_S_mount 1 = .ok (.invokevirtual 39, 3) := by decide +kernel
theorem d_S_mount_4 : decode b_S_mount 4 = .ok (.aload_n 0, 1) := by decide +kernel
theorem d_S_mount_5 : decode b_S_mount 5 = .ok (.aload_n 0, 1) := by decide +kernel
theorem d_S_mount_6 : decode b_S_mount 6 = .ok (.invokevirtual 56, 3) := by decide +kernel
theorem d_S_mount_9 : decode b_S_mount 9 = .ok (.putfield 52, 3) := by decide +kernel
theorem d_S_mount_12 : decode b_S_mount 12 = .ok (.aload_n 0, 1) := by decide +kernel
theorem d_S_mount_13 : decode b_S_mount 13 = .ok (.getfield 52, 3) := by decide +kernel
theorem d_S_mount_16 : decode b_S_mount 16 = .ok (.ifCond .ne 5, 3) := by decide +kernel
theorem d_S_mount_19 : decode b_S_mount 19 = .ok (.iconst (-1), 1) := by decide +kernel
theorem d_S_mount_20 : decode b_S_mount 20 = .ok (.ireturn, 1) := by decide +kernel
theorem d_S_mount_21 : decode b_S_mount 21 = .ok (.aload_n 0, 1) := by decide +kernel
theorem d_S_mount_22 : decode b_S_mount 22 = .ok (.getfield 32, 3) := by decide +kernel
theorem d_S_mount_25 : decode b_S_mount 25 = .ok (.invokevirtual 60, 3) := by decide +kernel
theorem d_S_mount_28 : decode b_S_mount 28 = .ok (.aload_n 0, 1) := by decide +kernel
theorem d_S_mount_29 : decode b_S_mount 29 = .ok (.getfield 32, 3) := by decide +kernel
theorem d_S_mount_32 : decode b_S_mount 32 = .ok (.invokevirtual 63, 3) := by decide +kernel
theorem d_S_mount_35 : decode b_S_mount 35 = .ok (.ifCond .ne 8, 3) := by decide +kernel
theorem d_S_mount_38 : decode b_S_mount 38 = .ok (.aload_n 0, 1) := by decide +kernel
theorem d_S_mount_39 : decode b_S_mount 39 = .ok (.invokevirtual 67, 3) := by decide +kernel
theorem d_S_mount_42 : decode b_S_mount 42 = .ok (.pop, 1) := by decide +kernel
theorem d_S_mount_43 : decode b_S_mount 43 = .ok (.aload_n 0, 1) := by decide +kernel
theorem d_S_mount_44 : decode b_S_mount 44 = .ok (.getfield 32, 3) := by decide +kernel
theorem d_S_mount_47 : decode b_S_mount 47 = .ok (.invokevirtual 70, 3) := by decide +kernel
theorem d_S_mount_50 : decode b_S_mount 50 = .ok (.ireturn, 1) := by decide +kernel
theorem d_S_findPages_0 : decode b_S_findPages 0 = .ok (.aload_n 0, 1) := by decide +kernel
theorem d_S_findPages_1 : decode b_S_findPages 1 = .ok (.getfield 32, 3) := by decide +kernel
theorem d_S_findPages_4 : decode b_S_findPages 4 = .ok (.invokevirtual 49, 3) := by decide +kernel
theorem d_S_findPages_7 : decode b_S_findPages 7 = .ok (.iconst 0, 1) := by decide +kernel
theorem d_S_findPages_8 : decode b_S_findPages 8 = .ok (.istore_n 1, 1) := by decide +kernel
theorem d_S_findPages_9 : decode b_S_findPages 9 = .ok (.iload_n 1, 1) := by decide +kernel
theorem d_S_findPages_10 : decode b_S_findPages 10 = .ok (.aload_n 0, 1) := by decide +kernel
theorem d_S_findPages_11 : decode b_S_findPages 11 = .ok (.getfield 23, 3) := by decide +kernel
theorem d_S_findPages_14 : decode b_S_findPages 14 = .ok (.getfield 42, 3) := by decide +kernel
theorem d_S_findPages_17 : decode b_S_findPages 17 = .ok (.if_icmp .ge 64, 3) := by decide +kernel
theorem d_S_findPages_20 : decode b_S_findPages 20 = .ok (.aload_n 0, 1) := by decide +kernel
theorem d_S_findPages_21 : decode b_S_findPages 21 = .ok (.getfield 23, 3) := by decide +kernel
theorem d_S_findPages_24 : decode b_S_findPages 24 = .ok (.iload_n 1, 1) := by decide +kernel
theorem d_S_findPages_25 : decode b_S_findPages 25 = .ok (.invokevirtual 88, 3) := by decide +kernel
theorem d_S_findPages_28 : decode b_S_findPages 28 = .ok (.istore_n 2, 1) := by decide +kernel
theorem d_S_findPages_29 : decode b_S_findPages 29 = .ok (.iload_n 2, 1) := by decide +kernel
theorem d_S_findPages_30 : decode b_S_findPages 30 = .ok (.iconst 3, 1) := by decide +kernel
theorem d_S_findPages_31 : decode b_S_findPages 31 = .ok (.if_icmp .ne 5, 3) := by decide +kernel
theorem d_S_findPages_34 : decode b_S_findPages 34 = .ok (.iconst 0, 1) := by decide +kernel
theorem d_S_findPages_35 : decode b_S_findPages 35 = .ok (.ireturn, 1) := by decide +kernel
theorem d_S_findPages_36 : decode b_S_findPages 36 = .ok (.iload_n 2, 1) := by decide +kernel
theorem d_S_findPages_37 : decode b_S_findPages 37 = .ok (.ifCond .eq 38, 3) := by decide +kernel
theorem d_S_findPages_40 : decode b_S_findPages 40 = .ok (.aload_n 0, 1) := by decide +kernel
theorem d_S_findPages_41 : decode b_S_findPages 41 = .ok (.getfield 32, 3) := by decide +kernel
theorem d_S_findPages_44 : decode b_S_findPages 44 = .ok (.iload_n 1, 1) := by decide +kernel
theorem d_S_findPages_45 : decode b_S_findPages 45 = .ok (.aload_n 0, 1) := by decide +kernel
theorem d_S_findPages_46 : decode b_S_findPages 46 = .ok (.getfield 23, 3) := by decide +kernel
theorem d_S_findPages_49 : decode b_S_findPages 49 = .ok (.getfield 94, 3) := by decide +kernel
theorem d_S_findPages_52 : decode b_S_findPages 52 = .ok (.iconst 0, 1) := by decide +kernel
theorem d_S_findPages_53 : decode b_S_findPages 53 = .ok (.iaload, 1) := by decide +kernel
theorem d_S_findPages_54 : decode b_S_findPages 54 = .ok (.aload_n 0, 1) := by decide +kernel
theorem d_S_findPages_55 : decode b_S_findPages 55 = .ok (.getfield 23, 3) := by decide +kernel
theorem d_S_findPages_58 : decode b_S_findPages 58 = .ok (.getfield 94, 3) := by decide +kernel
theorem d_S_findPages_61 : decode b_S_findPages 61 = .ok (.iconst 1, 1) := by decide +kernel
theorem d_S_findPages_62 : decode b_S_findPages 62 = .ok (.iaload, 1) := by decide +kernel
theorem d_S_findPages_63 : decode b_S_findPages 63 = .ok (.aload_n 0, 1) := by decide +kernel
theorem d_S_findPages_64 : decode b_S_findPages 64 = .ok (.getfield 23, 3) := by decide +kernel
theorem d_S_findPages_67 : decode b_S_findPages 67 = .ok (.getfield 94, 3) := by decide +kernel
theorem d_S_findPages_70 : decode b_S_findPages 70 = .ok (.iconst 3, 1) := by decide +kernel
theorem d_S_findPages_71 : decode b_S_findPages 71 = .ok (.iaload, 1) := by decide +kernel
theorem d_S_findPages_72 : decode b_S_findPages 72 = .ok (.invokevirtual 140, 3) := by decide +kernel
theorem d_S_findPages_75 : decode b_S_findPages 75 = .ok (.iinc 1 1, 3) := by decide +kernel
theorem d_S_findPages_78 : decode b_S_findPages 78 = .ok (.goto (-69), 3) := by decide +kernel
theorem d_S_findPages_81 : decode b_S_findPages 81 = .ok (.aload_n 0, 1) := by decide +kernel
theorem d_S_findPages_82 : decode b_S_findPages 82 = .ok (.getfield 32, 3) := by decide +kernel
theorem d_S_findPages_85 : decode b_S_findPages 85 = .ok (.invokevirtual 144, 3) := by decide +kernel
theorem d_S_findPages_88 : decode b_S_findPages 88 = .ok (.iconst 1, 1) := by decide +kernel
theorem d_S_findPages_89 : decode b_S_findPages 89 = .ok (.ireturn, 1) := by decide +kernel
theorem d_S_clean_0 : decode b_S_clean 0 = .ok (.aload_n 0, 1) := by decide +kernel
theorem d_S_clean_1 : decode b_S_clean 1 = .ok (.getfield 32, 3) := by decide +kernel
theorem d_S_clean_4 : decode b_S_clean 4 = .ok (.invokevirtual 159, 3) := by decide +kernel
theorem d_S_clean_7 : decode b_S_clean 7 = .ok (.istore_n 1, 1) := by decide +kernel
theorem d_S_clean_8 : decode b_S_clean 8 = .ok (.iload_n 1, 1) := by decide +kernel
theorem d_S_clean_9 : decode b_S_clean 9 = .ok (.iconst (-1), 1) := by decide +kernel
theorem d_S_clean_10 : decode b_S_clean 10 = .ok (.if_icmp .eq 14, 3) := by decide +kernel
theorem d_S_clean_13 : decode b_S_clean 13 = .ok (.aload_n 0, 1) := by decide +kernel
theorem d_S_clean_14 : decode b_S_clean 14 = .ok (.getfield 32, 3) := by decide +kernel
theorem d_S_clean_17 : decode b_S_clean 17 = .ok (.iconst 1, 1) := by decide +kernel
theorem d_S_clean_18 : decode b_S_clean 18 = .ok (.invokevirtual 147, 3) := by decide +kernel
theorem d_S_clean_21 : decode b_S_clean 21 = .ok (.ifCond .ne 5, 3) := by decide +kernel
theorem d_S_clean_24 : decode b_S_clean 24 = .ok (.iconst (-1), 1) := by decide +kernel
theorem d_S_clean_25 : decode b_S_clean 25 = .ok (.ireturn, 1) := by decide +kernel
theorem d_S_clean_26 : decode b_S_clean 26 = .ok (.iload_n 1, 1) := by decide +kernel
theorem d_S_clean_27 : decode b_S_clean 27 = .ok (.aload_n 0, 1) := by decide +kernel
theorem d_S_clean_28 : decode b_S_clean 28 = .ok (.getfield 32, 3) := by decide +kernel
theorem d_S_clean_31 : decode b_S_clean 31 = .ok (.getfield 162, 3) := by decide +kernel
theorem d_S_clean_34 : decode b_S_clean 34 = .ok (.imul, 1) := by decide +kernel
theorem d_S_clean_35 : decode b_S_clean 35 = .ok (.istore_n 2, 1) := by decide +kernel
theorem d_S_clean_36 : decode b_S_clean 36 = .ok (.iload_n 2, 1) := by decide +kernel
theorem d_S_clean_37 : decode b_S_clean 37 = .ok (.aload_n 0, 1) := by decide +kernel
theorem d_S_clean_38 : decode b_S_clean 38 = .ok (.getfield 32, 3) := by decide +kernel
theorem d_S_clean_41 : decode b_S_clean 41 = .ok (.getfield 162, 3) := by decide +kernel
theorem d_S_clean_44 : decode b_S_clean 44 = .ok (.iadd, 1) := by decide +kernel
theorem d_S_clean_45 : decode b_S_clean 45 = .ok (.istore_n 3, 1) := by decide +kernel
theorem d_S_clean_46 : decode b_S_clean 46 = .ok (.iload_n 2, 1) := by decide +kernel
theorem d_S_clean_47 : decode b_S_clean 47 = .ok (.istore 4, 2) := by decide +kernel
theorem d_S_clean_49 : decode b_S_clean 49 = .ok (.iload 4, 2) := by decide +kernel
theorem d_S_clean_51 : decode b_S_clean 51 = .ok (.iload_n 3, 1) := by decide +kernel
theorem d_S_clean_52 : decode b_S_clean 52 = .ok (.if_icmp .ge 76, 3) := by decide +kernel
theorem d_S_clean_55 : decode b_S_clean 55 = .ok (.aload_n 0, 1) := by decide +kernel
theorem d_S_clean_56 : decode b_S_clean 56 = .ok (.getfield 32, 3) := by decide +kernel
theorem d_S_clean_59 : decode b_S_clean 59 = .ok (.getfield 165, 3) := by decide +kernel
theorem d_S_clean_62 : decode b_S_clean 62 = .ok (.iload 4, 2) := by decide +kernel
theorem d_S_clean_64 : decode b_S_clean 64 = .ok (.baload, 1) := by decide +kernel
theorem d_S_clean_65 : decode b_S_clean 65 = .ok (.ifCond .eq 57, 3) := by decide +kernel
theorem d_S_clean_68 : decode b_S_clean 68 = .ok (.aload_n 0, 1) := by decide +kernel
theorem d_S_clean_69 : decode b_S_clean 69 = .ok (.getfield 23, 3) := by decide +kernel
theorem d_S_clean_72 : decode b_S_clean 72 = .ok (.iload 4, 2) := by decide +kernel
theorem d_S_clean_74 : decode b_S_clean 74 = .ok (.invokevirtual 88, 3) := by decide +kernel
theorem d_S_clean_77 : decode b_S_clean 77 = .ok (.pop, 1) := by decide +kernel
theorem d_S_clean_78 : decode b_S_clean 78 = .ok (.aload_n 0, 1) := by decide +kernel
theorem d_S_clean_79 : decode b_S_clean 79 = .ok (.aload_n 0, 1) := by decide +kernel
theorem d_S_clean_80 : decode b_S_clean 80 = .ok (.getfield 32, 3) := by decide +kernel
theorem d_S_clean_83 : decode b_S_clean 83 = .ok (.getfield 169, 3) := by decide +kernel
theorem d_S_clean_86 : decode b_S_clean 86 = .ok (.iload 4, 2) := by decide +kernel
theorem d_S_clean_88 : decode b_S_clean 88 = .ok (.iaload, 1) := by decide +kernel
theorem d_S_clean_89 : decode b_S_clean 89 = .ok (.aload_n 0, 1) := by decide +kernel
theorem d_S_clean_90 : decode b_S_clean 90 = .ok (.getfield 32, 3) := by decide +kernel
theorem d_S_clean_93 : decode b_S_clean 93 = .ok (.getfield 172, 3) := by decide +kernel
theorem d_S_clean_96 : decode b_S_clean 96 = .ok (.iload 4, 2) := by decide +kernel
theorem d_S_clean_98 : decode b_S_clean 98 = .ok (.iaload, 1) := by decide +kernel
theorem d_S_clean_99 : decode b_S_clean 99 = .ok (.aload_n 0, 1) := by decide +kernel
theorem d_S_clean_100 : decode b_S_clean 100 = .ok (.getfield 32, 3) := by decide +kernel
theorem d_S_clean_103 : decode b_S_clean 103 = .ok (.getfield 175, 3) := by decide +kernel
theorem d_S_clean_106 : decode b_S_clean 106 = .ok (.iload 4, 2) := by decide +kernel
theorem d_S_clean_108 : decode b_S_clean 108 = .ok (.iaload, 1) := by decide +kernel
theorem d_S_clean_109 : decode b_S_clean 109 = .ok (.invokevirtual 156, 3) := by decide +kernel
theorem d_S_clean_112 : decode b_S_clean 112 = .ok (.istore 5, 2) := by decide +kernel
theorem d_S_clean_114 : decode b_S_clean 114 = .ok (.iload 5, 2) := by decide +kernel
theorem d_S_clean_116 : decode b_S_clean 116 = .ok (.ifCond .eq 6, 3) := by decide +kernel
theorem d_S_clean_119 : decode b_S_clean 119 = .ok (.iload 5, 2) := by decide +kernel
theorem d_S_clean_121 : decode b_S_clean 121 = .ok (.ireturn, 1) := by decide +kernel
theorem d_S_clean_122 : decode b_S_clean 122 = .ok (.iinc 4 1, 3) := by decide +kernel
theorem d_S_clean_125 : decode b_S_clean 125 = .ok (.goto (-76), 3) := by decide +kernel
theorem d_S_clean_128 : decode b_S_clean 128 = .ok (.aload_n 0, 1) := by decide +kernel
theorem d_S_clean_129 : decode b_S_clean 129 = .ok (.invokevirtual 107, 3) := by decide +kernel
theorem d_S_clean_132 : decode b_S_clean 132 = .ok (.ifCond .ne 6, 3) := by decide +kernel
theorem d_S_clean_135 : decode b_S_clean 135 = .ok (.bipush (-2), 2) := by decide +kernel
theorem d_S_clean_137 : decode b_S_clean 137 = .ok (.ireturn, 1) := by decide +kernel
theorem d_S_clean_138 : decode b_S_clean 138 = .ok (.aload_n 0, 1) := by decide +kernel
theorem d_S_clean_139 : decode b_S_clean 139 = .ok (.getfield 23, 3) := by decide +kernel
theorem d_S_clean_142 : decode b_S_clean 142 = .ok (.iload_n 2, 1) := by decide +kernel
theorem d_S_clean_143 : decode b_S_clean 143 = .ok (.iload_n 3, 1) := by decide +kernel
theorem d_S_clean_144 : decode b_S_clean 144 = .ok (.invokevirtual 46, 3) := by decide +kernel
theorem d_S_clean_147 : decode b_S_clean 147 = .ok (.aload_n 0, 1) := by decide +kernel
theorem d_S_clean_148 : decode b_S_clean 148 = .ok (.getfield 32, 3) := by decide +kernel
theorem d_S_clean_151 : decode b_S_clean 151 = .ok (.iload_n 1, 1) := by decide +kernel
theorem d_S_clean_152 : decode b_S_clean 152 = .ok (.invokevirtual 178, 3) := by decide +kernel
theorem d_S_clean_155 : decode b_S_clean 155 = .ok (.iconst 0, 1) := by decide +kernel
theorem d_S_clean_156 : decode b_S_clean 156 = .ok (.ireturn, 1) := by decide +kernel
theorem d_S_writeToHead_0 : decode b_S_writeToHead 0 = .ok (.aload_n 0, 1) := by decide +kernel
theorem d_S_writeToHead_1 : decode b_S_writeToHead 1 = .ok (.getfield 32, 3) := by decide +kernel
theorem d_S_writeToHead_4 : decode b_S_writeToHead 4 = .ok (.invokevirtual 181, 3) := by decide +kernel
theorem d_S_writeToHead_7 : decode b_S_writeToHead 7 = .ok (.istore 4, 2) := by decide +kernel
theorem d_S_writeToHead_9 : decode b_S_writeToHead 9 = .ok (.iload 4, 2) := by decide +kernel
theorem d_S_writeToHead_11 : decode b_S_writeToHead 11 = .ok (.iconst (-1), 1) := by decide +kernel
theorem d_S_writeToHead_12 : decode b_S_writeToHead 12 = .ok (.if_icmp .ne 5, 3) := by decide +kernel
theorem d_S_writeToHead_15 : decode b_S_writeToHead 15 = .ok (.iconst (-1), 1) := by decide +kernel
theorem d_S_writeToHead_16 : decode b_S_writeToHead 16 = .ok (.ireturn, 1) := by decide +kernel
theorem d_S_writeToHead_17 : decode b_S_writeToHead 17 = .ok (.aload_n 0, 1) := by decide +kernel
theorem d_S_writeToHead_18 : decode b_S_writeToHead 18 = .ok (.invokevirtual 107, 3) := by decide +kernel
theorem d_S_writeToHead_21 : decode b_S_writeToHead 21 = .ok (.ifCond .ne 6, 3) := by decide +kernel
theorem d_S_writeToHead_24 : decode b_S_writeToHead 24 = .ok (.bipush (-2), 2) := by decide +kernel
theorem d_S_writeToHead_26 : decode b_S_writeToHead 26 = .ok (.ireturn, 1) := by decide +kernel
theorem d_S_writeToHead_27 : decode b_S_writeToHead 27 = .ok (.aload_n 0, 1) := by decide +kernel
theorem d_S_writeToHead_28 : decode b_S_writeToHead 28 = .ok (.getfield 23, 3) := by decide +kernel
theorem d_S_writeToHead_31 : decode b_S_writeToHead 31 = .ok (.iload 4, 2) := by decide +kernel
theorem d_S_writeToHead_33 : decode b_S_writeToHead 33 = .ok (.invokevirtual 110, 3) := by decide +kernel
theorem d_S_writeToHead_36 : decode b_S_writeToHead 36 = .ok (.aload_n 0, 1) := by decide +kernel
theorem d_S_writeToHead_37 : decode b_S_writeToHead 37 = .ok (.getfield 32, 3) := by decide +kernel
theorem d_S_writeToHead_40 : decode b_S_writeToHead 40 = .ok (.iload 4, 2) := by decide +kernel
theorem d_S_writeToHead_42 : decode b_S_writeToHead 42 = .ok (.iload_n 1, 1) := by decide +kernel
theorem d_S_writeToHead_43 : decode b_S_writeToHead 43 = .ok (.iload_n 2, 1) := by decide +kernel
theorem d_S_writeToHead_44 : decode b_S_writeToHead 44 = .ok (.iload_n 3, 1) := by decide +kernel
theorem d_S_writeToHead_45 : decode b_S_writeToHead 45 = .ok (.invokevirtual 140, 3) := by decide +kernel
theorem d_S_writeToHead_48 : decode b_S_writeToHead 48 = .ok (.iconst 0, 1) := by decide +kernel
theorem d_S_writeToHead_49 : decode b_S_writeToHead 49 = .ok (.ireturn, 1) := by decide +kernel
theorem d_S_mayAct_0 : decode b_S_mayAct 0 = .ok (.aload_n 0, 1) := by decide +kernel
theorem d_S_mayAct_1 : decode b_S_mayAct 1 = .ok (.getfield 113, 3) := by decide +kernel
theorem d_S_mayAct_4 : decode b_S_mayAct 4 = .ok (.ifCond .eq 22, 3) := by decide +kernel
theorem d_S_mayAct_7 : decode b_S_mayAct 7 = .ok (.aload_n 0, 1) := by decide +kernel
theorem d_S_mayAct_8 : decode b_S_mayAct 8 = .ok (.getfield 116, 3) := by decide +kernel
theorem d_S_mayAct_11 : decode b_S_mayAct 11 = .ok (.ifCond .ne 15, 3) := by decide +kernel
theorem d_S_mayAct_14 : decode b_S_mayAct 14 = .ok (.aload_n 0, 1) := by decide +kernel
theorem d_S_mayAct_15 : decode b_S_mayAct 15 = .ok (.iconst 1, 1) := by decide +kernel
theorem d_S_mayAct_16 : decode b_S_mayAct 16 = .ok (.putfield 119, 3) := by decide +kernel
theorem d_S_mayAct_19 : decode b_S_mayAct 19 = .ok (.aload_n 0, 1) := by decide +kernel
theorem d_S_mayAct_20 : decode b_S_mayAct 20 = .ok (.iconst 0, 1) := by decide +kernel
theorem d_S_mayAct_21 : decode b_S_mayAct 21 = .ok (.putfield 52, 3) := by decide +kernel
theorem d_S_mayAct_24 : decode b_S_mayAct 24 = .ok (.iconst 0, 1) := by decide +kernel
theorem d_S_mayAct_25 : decode b_S_mayAct 25 = .ok (.ireturn, 1) := by decide +kernel
theorem d_S_mayAct_26 : decode b_S_mayAct 26 = .ok (.aload_n 0, 1) := by decide +kernel
theorem d_S_mayAct_27 : decode b_S_mayAct 27 = .ok (.getfield 113, 3) := by decide +kernel
theorem d_S_mayAct_30 : decode b_S_mayAct 30 = .ok (.ifCond .eq 13, 3) := by decide +kernel
theorem d_S_mayAct_33 : decode b_S_mayAct 33 = .ok (.aload_n 0, 1) := by decide +kernel
theorem d_S_mayAct_34 : decode b_S_mayAct 34 = .ok (.dup, 1) := by decide +kernel
theorem d_S_mayAct_35 : decode b_S_mayAct 35 = .ok (.getfield 116, 3) := by decide +kernel
theorem d_S_mayAct_38 : decode b_S_mayAct 38 = .ok (.iconst 1, 1) := by decide +kernel
theorem d_S_mayAct_39 : decode b_S_mayAct 39 = .ok (.isub, 1) := by decide +kernel
theorem d_S_mayAct_40 : decode b_S_mayAct 40 = .ok (.putfield 116, 3) := by decide +kernel
theorem d_S_mayAct_43 : decode b_S_mayAct 43 = .ok (.aload_n 0, 1) := by decide +kernel
theorem d_S_mayAct_44 : decode b_S_mayAct 44 = .ok (.dup, 1) := by decide +kernel
theorem d_S_mayAct_45 : decode b_S_mayAct 45 = .ok (.getfield 137, 3) := by decide +kernel
theorem d_S_mayAct_48 : decode b_S_mayAct 48 = .ok (.iconst 1, 1) := by decide +kernel
theorem d_S_mayAct_49 : decode b_S_mayAct 49 = .ok (.iadd, 1) := by decide +kernel
theorem d_S_mayAct_50 : decode b_S_mayAct 50 = .ok (.putfield 137, 3) := by decide +kernel
theorem d_S_mayAct_53 : decode b_S_mayAct 53 = .ok (.iconst 1, 1) := by decide +kernel
theorem d_S_mayAct_54 : decode b_S_mayAct 54 = .ok (.ireturn, 1) := by decide +kernel
theorem d_S_put_0 : decode b_S_put 0 = .ok (.iload_n 1, 1) := by decide +kernel
theorem d_S_put_1 : decode b_S_put 1 = .ok (.invokestatic 73, 3) := by decide +kernel
theorem d_S_put_4 : decode b_S_put 4 = .ok (.ifCond .ne 6, 3) := by decide +kernel
theorem d_S_put_7 : decode b_S_put 7 = .ok (.bipush (-3), 2) := by decide +kernel
theorem d_S_put_9 : decode b_S_put 9 = .ok (.ireturn, 1) := by decide +kernel
theorem d_S_put_10 : decode b_S_put 10 = .ok (.aload_n 0, 1) := by decide +kernel
theorem d_S_put_11 : decode b_S_put 11 = .ok (.getfield 52, 3) := by decide +kernel
theorem d_S_put_14 : decode b_S_put 14 = .ok (.ifCond .eq 13, 3) := by decide +kernel
theorem d_S_put_17 : decode b_S_put 17 = .ok (.aload_n 0, 1) := by decide +kernel
theorem d_S_put_18 : decode b_S_put 18 = .ok (.iload_n 1, 1) := by decide +kernel
theorem d_S_put_19 : decode b_S_put 19 = .ok (.iload_n 2, 1) := by decide +kernel
theorem d_S_put_20 : decode b_S_put 20 = .ok (.iconst 1, 1) := by decide +kernel
theorem d_S_put_21 : decode b_S_put 21 = .ok (.invokevirtual 77, 3) := by decide +kernel
theorem d_S_put_24 : decode b_S_put 24 = .ok (.goto 5, 3) := by decide +kernel
theorem d_S_put_27 : decode b_S_put 27 = .ok (.bipush (-2), 2) := by decide +kernel
theorem d_S_put_29 : decode b_S_put 29 = .ok (.ireturn, 1) := by decide +kernel
theorem d_S_append_0 : decode b_S_append 0 = .ok (.aload_n 0, 1) := by decide +kernel
theorem d_S_append_1 : decode b_S_append 1 = .ok (.getfield 32, 3) := by decide +kernel
theorem d_S_append_4 : decode b_S_append 4 = .ok (.iconst 2, 1) := by decide +kernel
theorem d_S_append_5 : decode b_S_append 5 = .ok (.invokevirtual 147, 3) := by decide +kernel
theorem d_S_append_8 : decode b_S_append 8 = .ok (.ifCond .eq 7, 3) := by decide +kernel
theorem d_S_append_11 : decode b_S_append 11 = .ok (.iconst 0, 1) := by decide +kernel
theorem d_S_append_12 : decode b_S_append 12 = .ok (.goto 7, 3) := by decide +kernel
theorem d_S_append_15 : decode b_S_append 15 = .ok (.aload_n 0, 1) := by decide +kernel
theorem d_S_append_16 : decode b_S_append 16 = .ok (.invokevirtual 67, 3) := by decide +kernel
theorem d_S_append_19 : decode b_S_append 19 = .ok (.istore 4, 2) := by decide +kernel
theorem d_S_append_21 : decode b_S_append 21 = .ok (.iload 4, 2) := by decide +kernel
theorem d_S_append_23 : decode b_S_append 23 = .ok (.ifCond .ne 35, 3) := by decide +kernel
theorem d_S_append_26 : decode b_S_append 26 = .ok (.aload_n 0, 1) := by decide +kernel
theorem d_S_append_27 : decode b_S_append 27 = .ok (.getfield 23, 3) := by decide +kernel
theorem d_S_append_30 : decode b_S_append 30 = .ok (.aload_n 0, 1) := by decide +kernel
theorem d_S_append_31 : decode b_S_append 31 = .ok (.getfield 32, 3) := by decide +kernel
theorem d_S_append_34 : decode b_S_append 34 = .ok (.getfield 150, 3) := by decide +kernel
theorem d_S_append_37 : decode b_S_append 37 = .ok (.iload_n 1, 1) := by decide +kernel
theorem d_S_append_38 : decode b_S_append 38 = .ok (.iload_n 2, 1) := by decide +kernel
theorem d_S_append_39 : decode b_S_append 39 = .ok (.iload_n 3, 1) := by decide +kernel
theorem d_S_append_40 : decode b_S_append 40 = .ok (.invokevirtual 153, 3) := by decide +kernel
theorem d_S_append_43 : decode b_S_append 43 = .ok (.aload_n 0, 1) := by decide +kernel
theorem d_S_append_44 : decode b_S_append 44 = .ok (.aload_n 0, 1) := by decide +kernel
theorem d_S_append_45 : decode b_S_append 45 = .ok (.getfield 32, 3) := by decide +kernel
theorem d_S_append_48 : decode b_S_append 48 = .ok (.getfield 150, 3) := by decide +kernel
theorem d_S_append_51 : decode b_S_append 51 = .ok (.iload_n 1, 1) := by decide +kernel
theorem d_S_append_52 : decode b_S_append 52 = .ok (.iload_n 3, 1) := by decide +kernel
theorem d_S_append_53 : decode b_S_append 53 = .ok (.invokevirtual 156, 3) := by decide +kernel
theorem d_S_append_56 : decode b_S_append 56 = .ok (.istore 4, 2) := by decide +kernel
theorem d_S_append_58 : decode b_S_append 58 = .ok (.iload 4, 2) := by decide +kernel
theorem d_S_append_60 : decode b_S_append 60 = .ok (.ifCond .ne 16, 3) := by decide +kernel
theorem d_S_append_63 : decode b_S_append 63 = .ok (.aload_n 0, 1) := by decide +kernel
theorem d_S_append_64 : decode b_S_append 64 = .ok (.getfield 32, 3) := by decide +kernel
theorem d_S_append_67 : decode b_S_append 67 = .ok (.dup, 1) := by decide +kernel
theorem d_S_append_68 : decode b_S_append 68 = .ok (.getfield 150, 3) := by decide +kernel
theorem d_S_append_71 : decode b_S_append 71 = .ok (.iconst 1, 1) := by decide +kernel
theorem d_S_append_72 : decode b_S_append 72 = .ok (.iadd, 1) := by decide +kernel
theorem d_S_append_73 : decode b_S_append 73 = .ok (.putfield 150, 3) := by decide +kernel
theorem d_S_append_76 : decode b_S_append 76 = .ok (.iload 4, 2) := by decide +kernel
theorem d_S_append_78 : decode b_S_append 78 = .ok (.ireturn, 1) := by decide +kernel
theorem d_S_remove_0 : decode b_S_remove 0 = .ok (.iload_n 1, 1) := by decide +kernel
theorem d_S_remove_1 : decode b_S_remove 1 = .ok (.invokestatic 73, 3) := by decide +kernel
theorem d_S_remove_4 : decode b_S_remove 4 = .ok (.ifCond .ne 6, 3) := by decide +kernel
theorem d_S_remove_7 : decode b_S_remove 7 = .ok (.bipush (-3), 2) := by decide +kernel
theorem d_S_remove_9 : decode b_S_remove 9 = .ok (.ireturn, 1) := by decide +kernel
theorem d_S_remove_10 : decode b_S_remove 10 = .ok (.aload_n 0, 1) := by decide +kernel
theorem d_S_remove_11 : decode b_S_remove 11 = .ok (.getfield 52, 3) := by decide +kernel
theorem d_S_remove_14 : decode b_S_remove 14 = .ok (.ifCond .ne 6, 3) := by decide +kernel
theorem d_S_remove_17 : decode b_S_remove 17 = .ok (.bipush (-2), 2) := by decide +kernel
theorem d_S_remove_19 : decode b_S_remove 19 = .ok (.ireturn, 1) := by decide +kernel
theorem d_S_remove_20 : decode b_S_remove 20 = .ok (.aload_n 0, 1) := by decide +kernel
theorem d_S_remove_21 : decode b_S_remove 21 = .ok (.getfield 32, 3) := by decide +kernel
theorem d_S_remove_24 : decode b_S_remove 24 = .ok (.iload_n 1, 1) := by decide +kernel
theorem d_S_remove_25 : decode b_S_remove 25 = .ok (.invokevirtual 81, 3) := by decide +kernel
theorem d_S_remove_28 : decode b_S_remove 28 = .ok (.ifCond .eq 13, 3) := by decide +kernel
theorem d_S_remove_31 : decode b_S_remove 31 = .ok (.aload_n 0, 1) := by decide +kernel
theorem d_S_remove_32 : decode b_S_remove 32 = .ok (.iload_n 1, 1) := by decide +kernel
theorem d_S_remove_33 : decode b_S_remove 33 = .ok (.iconst 0, 1) := by decide +kernel
theorem d_S_remove_34 : decode b_S_remove 34 = .ok (.iconst 2, 1) := by decide +kernel
theorem d_S_remove_35 : decode b_S_remove 35 = .ok (.invokevirtual 77, 3) := by decide +kernel
theorem d_S_remove_38 : decode b_S_remove 38 = .ok (.goto 4, 3) := by decide +kernel
theorem d_S_remove_41 : decode b_S_remove 41 = .ok (.iconst 1, 1) := by decide +kernel
theorem d_S_remove_42 : decode b_S_remove 42 = .ok (.ireturn, 1) := by decide +kernel
theorem d_S_has_0 : decode b_S_has 0 = .ok (.aload_n 0, 1) := by decide +kernel
theorem d_S_has_1 : decode b_S_has 1 = .ok (.getfield 52, 3) := by decide +kernel
theorem d_S_has_4 : decode b_S_has 4 = .ok (.ifCond .eq 18, 3) := by decide +kernel
theorem d_S_has_7 : decode b_S_has 7 = .ok (.aload_n 0, 1) := by decide +kernel
theorem d_S_has_8 : decode b_S_has 8 = .ok (.getfield 32, 3) := by decide +kernel
theorem d_S_has_11 : decode b_S_has 11 = .ok (.iload_n 1, 1) := by decide +kernel
theorem d_S_has_12 : decode b_S_has 12 = .ok (.invokevirtual 81, 3) := by decide +kernel
theorem d_S_has_15 : decode b_S_has 15 = .ok (.ifCond .eq 7, 3) := by decide +kernel
theorem d_S_has_18 : decode b_S_has 18 = .ok (.iconst 1, 1) := by decide +kernel
theorem d_S_has_19 : decode b_S_has 19 = .ok (.goto 4, 3) := by decide +kernel
theorem d_S_has_22 : decode b_S_has 22 = .ok (.iconst 0, 1) := by decide +kernel
theorem d_S_has_23 : decode b_S_has 23 = .ok (.ireturn, 1) := by decide +kernel
theorem d_S_get_0 : decode b_S_get 0 = .ok (.aload_n 0, 1) := by decide +kernel
theorem d_S_get_1 : decode b_S_get 1 = .ok (.getfield 52, 3) := by decide +kernel
theorem d_S_get_4 : decode b_S_get 4 = .ok (.ifCond .eq 14, 3) := by decide +kernel
theorem d_S_get_7 : decode b_S_get 7 = .ok (.aload_n 0, 1) := by decide +kernel
theorem d_S_get_8 : decode b_S_get 8 = .ok (.getfield 32, 3) := by decide +kernel
theorem d_S_get_11 : decode b_S_get 11 = .ok (.iload_n 1, 1) := by decide +kernel
theorem d_S_get_12 : decode b_S_get 12 = .ok (.invokevirtual 81, 3) := by decide +kernel
theorem d_S_get_15 : decode b_S_get 15 = .ok (.ifCond .ne 5, 3) := by decide +kernel
theorem d_S_get_18 : decode b_S_get 18 = .ok (.iconst 0, 1) := by decide +kernel
theorem d_S_get_19 : decode b_S_get 19 = .ok (.ireturn, 1) := by decide +kernel
theorem d_S_get_20 : decode b_S_get 20 = .ok (.aload_n 0, 1) := by decide +kernel
theorem d_S_get_21 : decode b_S_get 21 = .ok (.getfield 23, 3) := by decide +kernel
theorem d_S_get_24 : decode b_S_get 24 = .ok (.aload_n 0, 1) := by decide +kernel
theorem d_S_get_25 : decode b_S_get 25 = .ok (.getfield 32, 3) := by decide +kernel
theorem d_S_get_28 : decode b_S_get 28 = .ok (.iload_n 1, 1) := by decide +kernel
theorem d_S_get_29 : decode b_S_get 29 = .ok (.invokevirtual 84, 3) := by decide +kernel
theorem d_S_get_32 : decode b_S_get 32 = .ok (.invokevirtual 88, 3) := by decide +kernel
theorem d_S_get_35 : decode b_S_get 35 = .ok (.invokestatic 91, 3) := by decide +kernel
theorem d_S_get_38 : decode b_S_get 38 = .ok (.ifCond .eq 15, 3) := by decide +kernel
theorem d_S_get_41 : decode b_S_get 41 = .ok (.aload_n 0, 1) := by decide +kernel
theorem d_S_get_42 : decode b_S_get 42 = .ok (.getfield 23, 3) := by decide +kernel
theorem d_S_get_45 : decode b_S_get 45 = .ok (.getfield 94, 3) := by decide +kernel
theorem d_S_get_48 : decode b_S_get 48 = .ok (.iconst 2, 1) := by decide +kernel
theorem d_S_get_49 : decode b_S_get 49 = .ok (.iaload, 1) := by decide +kernel
theorem d_S_get_50 : decode b_S_get 50 = .ok (.goto 4, 3) := by decide +kernel
theorem d_S_get_53 : decode b_S_get 53 = .ok (.iconst 0, 1) := by decide +kernel
theorem d_S_get_54 : decode b_S_get 54 = .ok (.ireturn, 1) := by decide +kernel
theorem d_S_size_0 : decode b_S_size 0 = .ok (.aload_n 0, 1) := by decide +kernel
theorem d_S_size_1 : decode b_S_size 1 = .ok (.getfield 52, 3) := by decide +kernel
theorem d_S_size_4 : decode b_S_size 4 = .ok (.ifCond .eq 13, 3) := by decide +kernel
theorem d_S_size_7 : decode b_S_size 7 = .ok (.aload_n 0, 1) := by decide +kernel
theorem d_S_size_8 : decode b_S_size 8 = .ok (.getfield 32, 3) := by decide +kernel
theorem d_S_size_11 : decode b_S_size 11 = .ok (.invokevirtual 70, 3) := by decide +kernel
theorem d_S_size_14 : decode b_S_size 14 = .ok (.goto 5, 3) := by decide +kernel
theorem d_S_size_17 : decode b_S_size 17 = .ok (.bipush (-2), 2) := by decide +kernel
theorem d_S_size_19 : decode b_S_size 19 = .ok (.ireturn, 1) := by decide +kernel
theorem d_S_rot_0 : decode b_S_rot 0 = .ok (.aload_n 0, 1) := by decide +kernel
theorem d_S_rot_1 : decode b_S_rot 1 = .ok (.getfield 23, 3) := by decide +kernel
theorem d_S_rot_4 : decode b_S_rot 4 = .ok (.iload_n 1, 1) := by decide +kernel
theorem d_S_rot_5 : decode b_S_rot 5 = .ok (.invokevirtual 98, 3) := by decide +kernel
theorem d_S_rot_8 : decode b_S_rot 8 = .ok (.ifCond .eq 14, 3) := by decide +kernel
theorem d_S_rot_11 : decode b_S_rot 11 = .ok (.iload_n 2, 1) := by decide +kernel
theorem d_S_rot_12 : decode b_S_rot 12 = .ok (.ifCond .lt 10, 3) := by decide +kernel
theorem d_S_rot_15 : decode b_S_rot 15 = .ok (.iload_n 2, 1) := by decide +kernel
theorem d_S_rot_16 : decode b_S_rot 16 = .ok (.sipush 178, 3) := by decide +kernel
theorem d_S_rot_19 : decode b_S_rot 19 = .ok (.if_icmp .lt 5, 3) := by decide +kernel
theorem d_S_rot_22 : decode b_S_rot 22 = .ok (.iconst 0, 1) := by decide +kernel
theorem d_S_rot_23 : decode b_S_rot 23 = .ok (.ireturn, 1) := by decide +kernel
theorem d_S_rot_24 : decode b_S_rot 24 = .ok (.aload_n 0, 1) := by decide +kernel
theorem d_S_rot_25 : decode b_S_rot 25 = .ok (.getfield 23, 3) := by decide +kernel
theorem d_S_rot_28 : decode b_S_rot 28 = .ok (.iload_n 1, 1) := by decide +kernel
theorem d_S_rot_29 : decode b_S_rot 29 = .ok (.iload_n 2, 1) := by decide +kernel
theorem d_S_rot_30 : decode b_S_rot 30 = .ok (.invokevirtual 101, 3) := by decide +kernel
theorem d_S_rot_33 : decode b_S_rot 33 = .ok (.iconst 1, 1) := by decide +kernel
theorem d_S_rot_34 : decode b_S_rot 34 = .ok (.ireturn, 1) := by decide +kernel
theorem d_S_scrub_0 : decode b_S_scrub 0 = .ok (.aload_n 0, 1) := by decide +kernel
theorem d_S_scrub_1 : decode b_S_scrub 1 = .ok (.getfield 52, 3) := by decide +kernel
theorem d_S_scrub_4 : decode b_S_scrub 4 = .ok (.ifCond .ne 6, 3) := by decide +kernel
theorem d_S_scrub_7 : decode b_S_scrub 7 = .ok (.bipush (-2), 2) := by decide +kernel
theorem d_S_scrub_9 : decode b_S_scrub 9 = .ok (.ireturn, 1) := by decide +kernel
theorem d_S_scrub_10 : decode b_S_scrub 10 = .ok (.iconst 0, 1) := by decide +kernel
theorem d_S_scrub_11 : decode b_S_scrub 11 = .ok (.istore_n 1, 1) := by decide +kernel
theorem d_S_scrub_12 : decode b_S_scrub 12 = .ok (.iconst 0, 1) := by decide +kernel
theorem d_S_scrub_13 : decode b_S_scrub 13 = .ok (.istore_n 2, 1) := by decide +kernel
theorem d_S_scrub_14 : decode b_S_scrub 14 = .ok (.iload_n 2, 1) := by decide +kernel
theorem d_S_scrub_15 : decode b_S_scrub 15 = .ok (.aload_n 0, 1) := by decide +kernel
theorem d_S_scrub_16 : decode b_S_scrub 16 = .ok (.getfield 23, 3) := by decide +kernel
theorem d_S_scrub_19 : decode b_S_scrub 19 = .ok (.getfield 42, 3) := by decide +kernel
theorem d_S_scrub_22 : decode b_S_scrub 22 = .ok (.if_icmp .ge 41, 3) := by decide +kernel
theorem d_S_scrub_25 : decode b_S_scrub 25 = .ok (.aload_n 0, 1) := by decide +kernel
theorem d_S_scrub_26 : decode b_S_scrub 26 = .ok (.getfield 23, 3) := by decide +kernel
theorem d_S_scrub_29 : decode b_S_scrub 29 = .ok (.iload_n 2, 1) := by decide +kernel
theorem d_S_scrub_30 : decode b_S_scrub 30 = .ok (.invokevirtual 104, 3) := by decide +kernel
theorem d_S_scrub_33 : decode b_S_scrub 33 = .ok (.ifCond .eq 24, 3) := by decide +kernel
theorem d_S_scrub_36 : decode b_S_scrub 36 = .ok (.aload_n 0, 1) := by decide +kernel
theorem d_S_scrub_37 : decode b_S_scrub 37 = .ok (.invokevirtual 107, 3) := by decide +kernel
theorem d_S_scrub_40 : decode b_S_scrub 40 = .ok (.ifCond .ne 6, 3) := by decide +kernel
theorem d_S_scrub_43 : decode b_S_scrub 43 = .ok (.bipush (-2), 2) := by decide +kernel
theorem d_S_scrub_45 : decode b_S_scrub 45 = .ok (.ireturn, 1) := by decide +kernel
theorem d_S_scrub_46 : decode b_S_scrub 46 = .ok (.aload_n 0, 1) := by decide +kernel
theorem d_S_scrub_47 : decode b_S_scrub 47 = .ok (.getfield 23, 3) := by decide +kernel
theorem d_S_scrub_50 : decode b_S_scrub 50 = .ok (.iload_n 2, 1) := by decide +kernel
theorem d_S_scrub_51 : decode b_S_scrub 51 = .ok (.invokevirtual 110, 3) := by decide +kernel
theorem d_S_scrub_54 : decode b_S_scrub 54 = .ok (.iinc 1 1, 3) := by decide +kernel
theorem d_S_scrub_57 : decode b_S_scrub 57 = .ok (.iinc 2 1, 3) := by decide +kernel
theorem d_S_scrub_60 : decode b_S_scrub 60 = .ok (.goto (-46), 3) := by decide +kernel
theorem d_S_scrub_63 : decode b_S_scrub 63 = .ok (.iload_n 1, 1) := by decide +kernel
theorem d_S_scrub_64 : decode b_S_scrub 64 = .ok (.ireturn, 1) := by decide +kernel
theorem d_S_arm_0 : decode b_S_arm 0 = .ok (.iload_n 1, 1) := by decide +kernel
theorem d_S_arm_1 : decode b_S_arm 1 = .ok (.ifCond .ge 5, 3) := by decide +kernel
theorem d_S_arm_4 : decode b_S_arm 4 = .ok (.iconst 0, 1) := by decide +kernel
theorem d_S_arm_5 : decode b_S_arm 5 = .ok (.ireturn, 1) := by decide +kernel
theorem d_S_arm_6 : decode b_S_arm 6 = .ok (.aload_n 0, 1) := by decide +kernel
theorem d_S_arm_7 : decode b_S_arm 7 = .ok (.iconst 1, 1) := by decide +kernel
theorem d_S_arm_8 : decode b_S_arm 8 = .ok (.putfield 113, 3) := by decide +kernel
theorem d_S_arm_11 : decode b_S_arm 11 = .ok (.aload_n 0, 1) := by decide +kernel
theorem d_S_arm_12 : decode b_S_arm 12 = .ok (.iload_n 1, 1) := by decide +kernel
theorem d_S_arm_13 : decode b_S_arm 13 = .ok (.putfield 116, 3) := by decide +kernel
theorem d_S_arm_16 : decode b_S_arm 16 = .ok (.iconst 1, 1) := by decide +kernel
theorem d_S_arm_17 : decode b_S_arm 17 = .ok (.ireturn, 1) := by decide +kernel
theorem d_S_crashed_0 : decode b_S_crashed 0 = .ok (.aload_n 0, 1) := by decide +kernel
theorem d_S_crashed_1 : decode b_S_crashed 1 = .ok (.getfield 119, 3) := by decide +kernel
theorem d_S_crashed_4 : decode b_S_crashed 4 = .ok (.ireturn, 1) := by decide +kernel
theorem d_S_condition_0 : decode b_S_condition 0 = .ok (.aload_n 0, 1) := by decide +kernel
theorem d_S_condition_1 : decode b_S_condition 1 = .ok (.getfield 23, 3) := by decide +kernel
theorem d_S_condition_4 : decode b_S_condition 4 = .ok (.iload_n 1, 1) := by decide +kernel
theorem d_S_condition_5 : decode b_S_condition 5 = .ok (.invokevirtual 98, 3) := by decide +kernel
theorem d_S_condition_8 : decode b_S_condition 8 = .ok (.ifCond .eq 14, 3) := by decide +kernel
theorem d_S_condition_11 : decode b_S_condition 11 = .ok (.aload_n 0, 1) := by decide +kernel
theorem d_S_condition_12 : decode b_S_condition 12 = .ok (.getfield 23, 3) := by decide +kernel
theorem d_S_condition_15 : decode b_S_condition 15 = .ok (.iload_n 1, 1) := by decide +kernel
theorem d_S_condition_16 : decode b_S_condition 16 = .ok (.invokevirtual 88, 3) := by decide +kernel
theorem d_S_condition_19 : decode b_S_condition 19 = .ok (.goto 5, 3) := by decide +kernel
theorem d_S_condition_22 : decode b_S_condition 22 = .ok (.bipush (-3), 2) := by decide +kernel
theorem d_S_condition_24 : decode b_S_condition 24 = .ok (.ireturn, 1) := by decide +kernel
theorem d_S_word_0 : decode b_S_word 0 = .ok (.aload_n 0, 1) := by decide +kernel
theorem d_S_word_1 : decode b_S_word 1 = .ok (.getfield 23, 3) := by decide +kernel
theorem d_S_word_4 : decode b_S_word 4 = .ok (.iload_n 1, 1) := by decide +kernel
theorem d_S_word_5 : decode b_S_word 5 = .ok (.invokevirtual 98, 3) := by decide +kernel
theorem d_S_word_8 : decode b_S_word 8 = .ok (.ifCond .eq 30, 3) := by decide +kernel
theorem d_S_word_11 : decode b_S_word 11 = .ok (.iload_n 2, 1) := by decide +kernel
theorem d_S_word_12 : decode b_S_word 12 = .ok (.ifCond .lt 26, 3) := by decide +kernel
theorem d_S_word_15 : decode b_S_word 15 = .ok (.iload_n 2, 1) := by decide +kernel
theorem d_S_word_16 : decode b_S_word 16 = .ok (.bipush 6, 2) := by decide +kernel
theorem d_S_word_18 : decode b_S_word 18 = .ok (.if_icmp .ge 20, 3) := by decide +kernel
theorem d_S_word_21 : decode b_S_word 21 = .ok (.aload_n 0, 1) := by decide +kernel
theorem d_S_word_22 : decode b_S_word 22 = .ok (.getfield 23, 3) := by decide +kernel
theorem d_S_word_25 : decode b_S_word 25 = .ok (.getfield 122, 3) := by decide +kernel
theorem d_S_word_28 : decode b_S_word 28 = .ok (.iload_n 1, 1) := by decide +kernel
theorem d_S_word_29 : decode b_S_word 29 = .ok (.bipush 6, 2) := by decide +kernel
theorem d_S_word_31 : decode b_S_word 31 = .ok (.imul, 1) := by decide +kernel
theorem d_S_word_32 : decode b_S_word 32 = .ok (.iload_n 2, 1) := by decide +kernel
theorem d_S_word_33 : decode b_S_word 33 = .ok (.iadd, 1) := by decide +kernel
theorem d_S_word_34 : decode b_S_word 34 = .ok (.iaload, 1) := by decide +kernel
theorem d_S_word_35 : decode b_S_word 35 = .ok (.goto 4, 3) := by decide +kernel
theorem d_S_word_38 : decode b_S_word 38 = .ok (.iconst 0, 1) := by decide +kernel
theorem d_S_word_39 : decode b_S_word 39 = .ok (.ireturn, 1) := by decide +kernel
theorem d_S_needed_0 : decode b_S_needed 0 = .ok (.iload_n 1, 1) := by decide +kernel
theorem d_S_needed_1 : decode b_S_needed 1 = .ok (.ifCond .lt 14, 3) := by decide +kernel
theorem d_S_needed_4 : decode b_S_needed 4 = .ok (.iload_n 1, 1) := by decide +kernel
theorem d_S_needed_5 : decode b_S_needed 5 = .ok (.aload_n 0, 1) := by decide +kernel
theorem d_S_needed_6 : decode b_S_needed 6 = .ok (.getfield 32, 3) := by decide +kernel
theorem d_S_needed_9 : decode b_S_needed 9 = .ok (.getfield 125, 3) := by decide +kernel
theorem d_S_needed_12 : decode b_S_needed 12 = .ok (.if_icmp .lt 6, 3) := by decide +kernel
theorem d_S_needed_15 : decode b_S_needed 15 = .ok (.bipush (-3), 2) := by decide +kernel
theorem d_S_needed_17 : decode b_S_needed 17 = .ok (.ireturn, 1) := by decide +kernel
theorem d_S_needed_18 : decode b_S_needed 18 = .ok (.aload_n 0, 1) := by decide +kernel
theorem d_S_needed_19 : decode b_S_needed 19 = .ok (.getfield 52, 3) := by decide +kernel
theorem d_S_needed_22 : decode b_S_needed 22 = .ok (.ifCond .ne 6, 3) := by decide +kernel
theorem d_S_needed_25 : decode b_S_needed 25 = .ok (.bipush (-2), 2) := by decide +kernel
theorem d_S_needed_27 : decode b_S_needed 27 = .ok (.ireturn, 1) := by decide +kernel
theorem d_S_needed_28 : decode b_S_needed 28 = .ok (.aload_n 0, 1) := by decide +kernel
theorem d_S_needed_29 : decode b_S_needed 29 = .ok (.getfield 32, 3) := by decide +kernel
theorem d_S_needed_32 : decode b_S_needed 32 = .ok (.invokevirtual 128, 3) := by decide +kernel
theorem d_S_needed_35 : decode b_S_needed 35 = .ok (.aload_n 0, 1) := by decide +kernel
theorem d_S_needed_36 : decode b_S_needed 36 = .ok (.getfield 32, 3) := by decide +kernel
theorem d_S_needed_39 : decode b_S_needed 39 = .ok (.iload_n 1, 1) := by decide +kernel
theorem d_S_needed_40 : decode b_S_needed 40 = .ok (.invokevirtual 131, 3) := by decide +kernel
theorem d_S_needed_43 : decode b_S_needed 43 = .ok (.ireturn, 1) := by decide +kernel
theorem d_S_head_0 : decode b_S_head 0 = .ok (.aload_n 0, 1) := by decide +kernel
theorem d_S_head_1 : decode b_S_head 1 = .ok (.getfield 52, 3) := by decide +kernel
theorem d_S_head_4 : decode b_S_head 4 = .ok (.ifCond .eq 13, 3) := by decide +kernel
theorem d_S_head_7 : decode b_S_head 7 = .ok (.aload_n 0, 1) := by decide +kernel
theorem d_S_head_8 : decode b_S_head 8 = .ok (.getfield 32, 3) := by decide +kernel
theorem d_S_head_11 : decode b_S_head 11 = .ok (.getfield 134, 3) := by decide +kernel
theorem d_S_head_14 : decode b_S_head 14 = .ok (.goto 5, 3) := by decide +kernel
theorem d_S_head_17 : decode b_S_head 17 = .ok (.bipush (-2), 2) := by decide +kernel
theorem d_S_head_19 : decode b_S_head 19 = .ok (.ireturn, 1) := by decide +kernel
theorem d_S_acts_0 : decode b_S_acts 0 = .ok (.aload_n 0, 1) := by decide +kernel
theorem d_S_acts_1 : decode b_S_acts 1 = .ok (.getfield 137, 3) := by decide +kernel
theorem d_S_acts_4 : decode b_S_acts 4 = .ok (.ireturn, 1) := by decide +kernel
