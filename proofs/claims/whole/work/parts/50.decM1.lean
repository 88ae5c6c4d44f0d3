theorem d_M_ini_0 : decode b_M_ini 0 = .ok (.aload_n 0, 1) := by decide +kernel
theorem d_M_ini_1 : decode b_M_ini 1 = .ok (.invokespecial 1, 3) := by decide +kernel
theorem d_M_ini_4 : decode b_M_ini 4 = .ok (.aload_n 0, 1) := by decide +kernel
theorem d_M_ini_5 : decode b_M_ini 5 = .ok (.bipush 120, 2) := by decide +kernel
theorem d_M_ini_7 : decode b_M_ini 7 = .ok (.newarray .int, 2) := by decide +kernel
theorem d_M_ini_9 : decode b_M_ini 9 = .ok (.putfield 7, 3) := by decide +kernel
theorem d_M_ini_12 : decode b_M_ini 12 = .ok (.aload_n 0, 1) := by decide +kernel
theorem d_M_ini_13 : decode b_M_ini 13 = .ok (.sipush 178, 3) := by decide +kernel
theorem d_M_ini_16 : decode b_M_ini 16 = .ok (.newarray .int, 2) := by decide +kernel
theorem d_M_ini_18 : decode b_M_ini 18 = .ok (.putfield 13, 3) := by decide +kernel
theorem d_M_ini_21 : decode b_M_ini 21 = .ok (.aload_n 0, 1) := by decide +kernel
theorem d_M_ini_22 : decode b_M_ini 22 = .ok (.bipush 20, 2) := by decide +kernel
theorem d_M_ini_24 : decode b_M_ini 24 = .ok (.newarray .boolean, 2) := by decide +kernel
theorem d_M_ini_26 : decode b_M_ini 26 = .ok (.putfield 16, 3) := by decide +kernel
theorem d_M_ini_29 : decode b_M_ini 29 = .ok (.aload_n 0, 1) := by decide +kernel
theorem d_M_ini_30 : decode b_M_ini 30 = .ok (.bipush 20, 2) := by decide +kernel
theorem d_M_ini_32 : decode b_M_ini 32 = .ok (.newarray .int, 2) := by decide +kernel
theorem d_M_ini_34 : decode b_M_ini 34 = .ok (.putfield 20, 3) := by decide +kernel
theorem d_M_ini_37 : decode b_M_ini 37 = .ok (.aload_n 0, 1) := by decide +kernel
theorem d_M_ini_38 : decode b_M_ini 38 = .ok (.bipush 20, 2) := by decide +kernel
theorem d_M_ini_40 : decode b_M_ini 40 = .ok (.newarray .int, 2) := by decide +kernel
theorem d_M_ini_42 : decode b_M_ini 42 = .ok (.putfield 23, 3) := by decide +kernel
theorem d_M_ini_45 : decode b_M_ini 45 = .ok (.aload_n 0, 1) := by decide +kernel
theorem d_M_ini_46 : decode b_M_ini 46 = .ok (.bipush 20, 2) := by decide +kernel
theorem d_M_ini_48 : decode b_M_ini 48 = .ok (.newarray .int, 2) := by decide +kernel
theorem d_M_ini_50 : decode b_M_ini 50 = .ok (.putfield 26, 3) := by decide +kernel
theorem d_M_ini_53 : decode b_M_ini 53 = .ok (.aload_n 0, 1) := by decide +kernel
theorem d_M_ini_54 : decode b_M_ini 54 = .ok (.bipush 20, 2) := by decide +kernel
theorem d_M_ini_56 : decode b_M_ini 56 = .ok (.newarray .boolean, 2) := by decide +kernel
theorem d_M_ini_58 : decode b_M_ini 58 = .ok (.putfield 29, 3) := by decide +kernel
theorem d_M_ini_61 : decode b_M_ini 61 = .ok (.aload_n 0, 1) := by decide +kernel
theorem d_M_ini_62 : decode b_M_ini 62 = .ok (.iconst (-1), 1) := by decide +kernel
theorem d_M_ini_63 : decode b_M_ini 63 = .ok (.putfield 32, 3) := by decide +kernel
theorem d_M_ini_66 : decode b_M_ini 66 = .ok (.aload_n 0, 1) := by decide +kernel
theorem d_M_ini_67 : decode b_M_ini 67 = .ok (.iconst 1, 1) := by decide +kernel
theorem d_M_ini_68 : decode b_M_ini 68 = .ok (.putfield 36, 3) := by decide +kernel
theorem d_M_ini_71 : decode b_M_ini 71 = .ok (.aload_n 0, 1) := by decide +kernel
theorem d_M_ini_72 : decode b_M_ini 72 = .ok (.iconst (-1), 1) := by decide +kernel
theorem d_M_ini_73 : decode b_M_ini 73 = .ok (.putfield 39, 3) := by decide +kernel
theorem d_M_ini_76 : decode b_M_ini 76 = .ok (.aload_n 0, 1) := by decide +kernel
theorem d_M_ini_77 : decode b_M_ini 77 = .ok (.bipush 6, 2) := by decide +kernel
theorem d_M_ini_79 : decode b_M_ini 79 = .ok (.newarray .int, 2) := by decide +kernel
theorem d_M_ini_81 : decode b_M_ini 81 = .ok (.putfield 42, 3) := by decide +kernel
theorem d_M_ini_84 : decode b_M_ini 84 = .ok (.aload_n 0, 1) := by decide +kernel
theorem d_M_ini_85 : decode b_M_ini 85 = .ok (.iload_n 1, 1) := by decide +kernel
theorem d_M_ini_86 : decode b_M_ini 86 = .ok (.iconst 3, 1) := by decide +kernel
theorem d_M_ini_87 : decode b_M_ini 87 = .ok (.if_icmp .ge 7, 3) := by decide +kernel
theorem d_M_ini_90 : decode b_M_ini 90 = .ok (.iconst 3, 1) := by decide +kernel
theorem d_M_ini_91 : decode b_M_ini 91 = .ok (.goto 13, 3) := by decide +kernel
theorem d_M_ini_94 : decode b_M_ini 94 = .ok (.iload_n 1, 1) := by decide +kernel
theorem d_M_ini_95 : decode b_M_ini 95 = .ok (.iconst 5, 1) := by decide +kernel
theorem d_M_ini_96 : decode b_M_ini 96 = .ok (.if_icmp .le 7, 3) := by decide +kernel
theorem d_M_ini_99 : decode b_M_ini 99 = .ok (.iconst 5, 1) := by decide +kernel
theorem d_M_ini_100 : decode b_M_ini 100 = .ok (.goto 4, 3) := by decide +kernel
theorem d_M_ini_103 : decode b_M_ini 103 = .ok (.iload_n 1, 1) := by decide +kernel
theorem d_M_ini_104 : decode b_M_ini 104 = .ok (.putfield 45, 3) := by decide +kernel
theorem d_M_ini_107 : decode b_M_ini 107 = .ok (.aload_n 0, 1) := by decide +kernel
theorem d_M_ini_108 : decode b_M_ini 108 = .ok (.iload_n 2, 1) := by decide +kernel
theorem d_M_ini_109 : decode b_M_ini 109 = .ok (.iconst 2, 1) := by decide +kernel
theorem d_M_ini_110 : decode b_M_ini 110 = .ok (.if_icmp .ge 7, 3) := by decide +kernel
theorem d_M_ini_113 : decode b_M_ini 113 = .ok (.iconst 2, 1) := by decide +kernel
theorem d_M_ini_114 : decode b_M_ini 114 = .ok (.goto 13, 3) := by decide +kernel
theorem d_M_ini_117 : decode b_M_ini 117 = .ok (.iload_n 2, 1) := by decide +kernel
theorem d_M_ini_118 : decode b_M_ini 118 = .ok (.iconst 4, 1) := by decide +kernel
theorem d_M_ini_119 : decode b_M_ini 119 = .ok (.if_icmp .le 7, 3) := by decide +kernel
theorem d_M_ini_122 : decode b_M_ini 122 = .ok (.iconst 4, 1) := by decide +kernel
theorem d_M_ini_123 : decode b_M_ini 123 = .ok (.goto 4, 3) := by decide +kernel
theorem d_M_ini_126 : decode b_M_ini 126 = .ok (.iload_n 2, 1) := by decide +kernel
theorem d_M_ini_127 : decode b_M_ini 127 = .ok (.putfield 48, 3) := by decide +kernel
theorem d_M_ini_130 : decode b_M_ini 130 = .ok (.aload_n 0, 1) := by decide +kernel
theorem d_M_ini_131 : decode b_M_ini 131 = .ok (.aload_n 0, 1) := by decide +kernel
theorem d_M_ini_132 : decode b_M_ini 132 = .ok (.getfield 45, 3) := by decide +kernel
theorem d_M_ini_135 : decode b_M_ini 135 = .ok (.aload_n 0, 1) := by decide +kernel
theorem d_M_ini_136 : decode b_M_ini 136 = .ok (.getfield 48, 3) := by decide +kernel
theorem d_M_ini_139 : decode b_M_ini 139 = .ok (.imul, 1) := by decide +kernel
theorem d_M_ini_140 : decode b_M_ini 140 = .ok (.putfield 51, 3) := by decide +kernel
theorem d_M_ini_143 : decode b_M_ini 143 = .ok (.iconst 0, 1) := by decide +kernel
theorem d_M_ini_144 : decode b_M_ini 144 = .ok (.istore_n 3, 1) := by decide +kernel
theorem d_M_ini_145 : decode b_M_ini 145 = .ok (.iload_n 3, 1) := by decide +kernel
theorem d_M_ini_146 : decode b_M_ini 146 = .ok (.bipush 18, 2) := by decide +kernel
theorem d_M_ini_148 : decode b_M_ini 148 = .ok (.if_icmp .ge 22, 3) := by decide +kernel
theorem d_M_ini_151 : decode b_M_ini 151 = .ok (.aload_n 0, 1) := by decide +kernel
theorem d_M_ini_152 : decode b_M_ini 152 = .ok (.getfield 13, 3) := by decide +kernel
theorem d_M_ini_155 : decode b_M_ini 155 = .ok (.sipush 160, 3) := by decide +kernel
theorem d_M_ini_158 : decode b_M_ini 158 = .ok (.iload_n 3, 1) := by decide +kernel
theorem d_M_ini_159 : decode b_M_ini 159 = .ok (.iadd, 1) := by decide +kernel
theorem d_M_ini_160 : decode b_M_ini 160 = .ok (.iconst 1, 1) := by decide +kernel
theorem d_M_ini_161 : decode b_M_ini 161 = .ok (.iload_n 3, 1) := by decide +kernel
theorem d_M_ini_162 : decode b_M_ini 162 = .ok (.ishl, 1) := by decide +kernel
theorem d_M_ini_163 : decode b_M_ini 163 = .ok (.iastore, 1) := by decide +kernel
theorem d_M_ini_164 : decode b_M_ini 164 = .ok (.iinc 3 1, 3) := by decide +kernel
theorem d_M_ini_167 : decode b_M_ini 167 = .ok (.goto (-22), 3) := by decide +kernel
theorem d_M_ini_170 : decode b_M_ini 170 = .ok (.ldc 54, 2) := by decide +kernel
theorem d_M_ini_172 : decode b_M_ini 172 = .ok (.istore_n 3, 1) := by decide +kernel
theorem d_M_ini_173 : decode b_M_ini 173 = .ok (.iconst 0, 1) := by decide +kernel
theorem d_M_ini_174 : decode b_M_ini 174 = .ok (.istore 4, 2) := by decide +kernel
theorem d_M_ini_176 : decode b_M_ini 176 = .ok (.iload 4, 2) := by decide +kernel
theorem d_M_ini_178 : decode b_M_ini 178 = .ok (.sipush 160, 3) := by decide +kernel
theorem d_M_ini_181 : decode b_M_ini 181 = .ok (.if_icmp .ge 36, 3) := by decide +kernel
theorem d_M_ini_184 : decode b_M_ini 184 = .ok (.iload_n 3, 1) := by decide +kernel
theorem d_M_ini_185 : decode b_M_ini 185 = .ok (.iconst 1, 1) := by decide +kernel
theorem d_M_ini_186 : decode b_M_ini 186 = .ok (.ishl, 1) := by decide +kernel
theorem d_M_ini_187 : decode b_M_ini 187 = .ok (.istore_n 3, 1) := by decide +kernel
theorem d_M_ini_188 : decode b_M_ini 188 = .ok (.iload_n 3, 1) := by decide +kernel
theorem d_M_ini_189 : decode b_M_ini 189 = .ok (.ldc 55, 2) := by decide +kernel
theorem d_M_ini_191 : decode b_M_ini 191 = .ok (.if_icmp .lt 10, 3) := by decide +kernel
theorem d_M_ini_194 : decode b_M_ini 194 = .ok (.iload_n 3, 1) := by decide +kernel
theorem d_M_ini_195 : decode b_M_ini 195 = .ok (.ldc 56, 2) := by decide +kernel
theorem d_M_ini_197 : decode b_M_ini 197 = .ok (.ixor, 1) := by decide +kernel
theorem d_M_ini_198 : decode b_M_ini 198 = .ok (.goto 4, 3) := by decide +kernel
theorem d_M_ini_201 : decode b_M_ini 201 = .ok (.iload_n 3, 1) := by decide +kernel
theorem d_M_ini_202 : decode b_M_ini 202 = .ok (.istore_n 3, 1) := by decide +kernel
theorem d_M_ini_203 : decode b_M_ini 203 = .ok (.aload_n 0, 1) := by decide +kernel
theorem d_M_ini_204 : decode b_M_ini 204 = .ok (.getfield 13, 3) := by decide +kernel
theorem d_M_ini_207 : decode b_M_ini 207 = .ok (.iload 4, 2) := by decide +kernel
theorem d_M_ini_209 : decode b_M_ini 209 = .ok (.iload_n 3, 1) := by decide +kernel
theorem d_M_ini_210 : decode b_M_ini 210 = .ok (.iastore, 1) := by decide +kernel
theorem d_M_ini_211 : decode b_M_ini 211 = .ok (.iinc 4 1, 3) := by decide +kernel
theorem d_M_ini_214 : decode b_M_ini 214 = .ok (.goto (-38), 3) := by decide +kernel
theorem d_M_ini_217 : decode b_M_ini 217 = .ok (.aload_n 0, 1) := by decide +kernel
theorem d_M_ini_218 : decode b_M_ini 218 = .ok (.invokevirtual 57, 3) := by decide +kernel
theorem d_M_ini_221 : decode b_M_ini 221 = .ok (.return_, 1) := by decide +kernel
theorem d_M_begin_0 : decode b_M_begin 0 = .ok (.iconst 0, 1) := by decide +kernel
theorem d_M_begin_1 : decode b_M_begin 1 = .ok (.istore_n 1, 1) := by decide +kernel
theorem d_M_begin_2 : decode b_M_begin 2 = .ok (.iload_n 1, 1) := by decide +kernel
theorem d_M_begin_3 : decode b_M_begin 3 = .ok (.bipush 20, 2) := by decide +kernel
theorem d_M_begin_5 : decode b_M_begin 5 = .ok (.if_icmp .ge 21, 3) := by decide +kernel
theorem d_M_begin_8 : decode b_M_begin 8 = .ok (.aload_n 0, 1) := by decide +kernel
theorem d_M_begin_9 : decode b_M_begin 9 = .ok (.iload_n 1, 1) := by decide +kernel
theorem d_M_begin_10 : decode b_M_begin 10 = .ok (.invokevirtual 61, 3) := by decide +kernel
theorem d_M_begin_13 : decode b_M_begin 13 = .ok (.aload_n 0, 1) := by decide +kernel
theorem d_M_begin_14 : decode b_M_begin 14 = .ok (.getfield 16, 3) := by decide +kernel
theorem d_M_begin_17 : decode b_M_begin 17 = .ok (.iload_n 1, 1) := by decide +kernel
theorem d_M_begin_18 : decode b_M_begin 18 = .ok (.iconst 0, 1) := by decide +kernel
theorem d_M_begin_19 : decode b_M_begin 19 = .ok (.bastore, 1) := by decide +kernel
theorem d_M_begin_20 : decode b_M_begin 20 = .ok (.iinc 1 1, 3) := by decide +kernel
theorem d_M_begin_23 : decode b_M_begin 23 = .ok (.goto (-21), 3) := by decide +kernel
theorem d_M_begin_26 : decode b_M_begin 26 = .ok (.aload_n 0, 1) := by decide +kernel
theorem d_M_begin_27 : decode b_M_begin 27 = .ok (.iconst (-1), 1) := by decide +kernel
theorem d_M_begin_28 : decode b_M_begin 28 = .ok (.putfield 39, 3) := by decide +kernel
theorem d_M_begin_31 : decode b_M_begin 31 = .ok (.aload_n 0, 1) := by decide +kernel
theorem d_M_begin_32 : decode b_M_begin 32 = .ok (.iconst 1, 1) := by decide +kernel
theorem d_M_begin_33 : decode b_M_begin 33 = .ok (.putfield 65, 3) := by decide +kernel
theorem d_M_begin_36 : decode b_M_begin 36 = .ok (.aload_n 0, 1) := by decide +kernel
theorem d_M_begin_37 : decode b_M_begin 37 = .ok (.iconst 0, 1) := by decide +kernel
theorem d_M_begin_38 : decode b_M_begin 38 = .ok (.putfield 69, 3) := by decide +kernel
theorem d_M_begin_41 : decode b_M_begin 41 = .ok (.aload_n 0, 1) := by decide +kernel
theorem d_M_begin_42 : decode b_M_begin 42 = .ok (.iconst (-1), 1) := by decide +kernel
theorem d_M_begin_43 : decode b_M_begin 43 = .ok (.putfield 32, 3) := by decide +kernel
theorem d_M_begin_46 : decode b_M_begin 46 = .ok (.aload_n 0, 1) := by decide +kernel
theorem d_M_begin_47 : decode b_M_begin 47 = .ok (.iconst 1, 1) := by decide +kernel
theorem d_M_begin_48 : decode b_M_begin 48 = .ok (.putfield 36, 3) := by decide +kernel
theorem d_M_begin_51 : decode b_M_begin 51 = .ok (.return_, 1) := by decide +kernel
theorem d_M_erasePage_0 : decode b_M_erasePage 0 = .ok (.iconst 0, 1) := by decide +kernel
theorem d_M_erasePage_1 : decode b_M_erasePage 1 = .ok (.istore_n 2, 1) := by decide +kernel
theorem d_M_erasePage_2 : decode b_M_erasePage 2 = .ok (.iload_n 2, 1) := by decide +kernel
theorem d_M_erasePage_3 : decode b_M_erasePage 3 = .ok (.iconst 5, 1) := by decide +kernel
theorem d_M_erasePage_4 : decode b_M_erasePage 4 = .ok (.if_icmp .ge 21, 3) := by decide +kernel
theorem d_M_erasePage_7 : decode b_M_erasePage 7 = .ok (.aload_n 0, 1) := by decide +kernel
theorem d_M_erasePage_8 : decode b_M_erasePage 8 = .ok (.getfield 7, 3) := by decide +kernel
theorem d_M_erasePage_11 : decode b_M_erasePage 11 = .ok (.bipush 6, 2) := by decide +kernel
theorem d_M_erasePage_13 : decode b_M_erasePage 13 = .ok (.iload_n 1, 1) := by decide +kernel
theorem d_M_erasePage_14 : decode b_M_erasePage 14 = .ok (.imul, 1) := by decide +kernel
theorem d_M_erasePage_15 : decode b_M_erasePage 15 = .ok (.iload_n 2, 1) := by decide +kernel
theorem d_M_erasePage_16 : decode b_M_erasePage 16 = .ok (.iadd, 1) := by decide +kernel
theorem d_M_erasePage_17 : decode b_M_erasePage 17 = .ok (.iconst (-1), 1) := by decide +kernel
theorem d_M_erasePage_18 : decode b_M_erasePage 18 = .ok (.iastore, 1) := by decide +kernel
theorem d_M_erasePage_19 : decode b_M_erasePage 19 = .ok (.iinc 2 1, 3) := by decide +kernel
theorem d_M_erasePage_22 : decode b_M_erasePage 22 = .ok (.goto (-20), 3) := by decide +kernel
theorem d_M_erasePage_25 : decode b_M_erasePage 25 = .ok (.aload_n 0, 1) := by decide +kernel
theorem d_M_erasePage_26 : decode b_M_erasePage 26 = .ok (.getfield 7, 3) := by decide +kernel
theorem d_M_erasePage_29 : decode b_M_erasePage 29 = .ok (.bipush 6, 2) := by decide +kernel
theorem d_M_erasePage_31 : decode b_M_erasePage 31 = .ok (.iload_n 1, 1) := by decide +kernel
theorem d_M_erasePage_32 : decode b_M_erasePage 32 = .ok (.imul, 1) := by decide +kernel
theorem d_M_erasePage_33 : decode b_M_erasePage 33 = .ok (.iconst 5, 1) := by decide +kernel
theorem d_M_erasePage_34 : decode b_M_erasePage 34 = .ok (.iadd, 1) := by decide +kernel
theorem d_M_erasePage_35 : decode b_M_erasePage 35 = .ok (.ldc 60, 2) := by decide +kernel
theorem d_M_erasePage_37 : decode b_M_erasePage 37 = .ok (.iastore, 1) := by decide +kernel
theorem d_M_erasePage_38 : decode b_M_erasePage 38 = .ok (.return_, 1) := by decide +kernel
theorem d_M_init_0 : decode b_M_init 0 = .ok (.aload_n 0, 1) := by decide +kernel
theorem d_M_init_1 : decode b_M_init 1 = .ok (.invokevirtual 57, 3) := by decide +kernel
theorem d_M_init_4 : decode b_M_init 4 = .ok (.return_, 1) := by decide +kernel
theorem d_M_mount_0 : decode b_M_mount 0 = .ok (.aload_n 0, 1) := by decide +kernel
theorem d_M_mount_1 : decode b_M_mount 1 = .ok (.iconst 0, 1) := by decide +kernel
theorem d_M_mount_2 : decode b_M_mount 2 = .ok (.putfield 69, 3) := by decide +kernel
theorem d_M_mount_5 : decode b_M_mount 5 = .ok (.aload_n 0, 1) := by decide +kernel
theorem d_M_mount_6 : decode b_M_mount 6 = .ok (.iconst (-1), 1) := by decide +kernel
theorem d_M_mount_7 : decode b_M_mount 7 = .ok (.putfield 39, 3) := by decide +kernel
theorem d_M_mount_10 : decode b_M_mount 10 = .ok (.aload_n 0, 1) := by decide +kernel
theorem d_M_mount_11 : decode b_M_mount 11 = .ok (.iconst 1, 1) := by decide +kernel
theorem d_M_mount_12 : decode b_M_mount 12 = .ok (.putfield 65, 3) := by decide +kernel
theorem d_M_mount_15 : decode b_M_mount 15 = .ok (.iconst 0, 1) := by decide +kernel
theorem d_M_mount_16 : decode b_M_mount 16 = .ok (.istore_n 1, 1) := by decide +kernel
theorem d_M_mount_17 : decode b_M_mount 17 = .ok (.iconst 0, 1) := by decide +kernel
theorem d_M_mount_18 : decode b_M_mount 18 = .ok (.istore_n 2, 1) := by decide +kernel
theorem d_M_mount_19 : decode b_M_mount 19 = .ok (.iconst 0, 1) := by decide +kernel
theorem d_M_mount_20 : decode b_M_mount 20 = .ok (.istore_n 3, 1) := by decide +kernel
theorem d_M_mount_21 : decode b_M_mount 21 = .ok (.iload_n 3, 1) := by decide +kernel
theorem d_M_mount_22 : decode b_M_mount 22 = .ok (.aload_n 0, 1) := by decide +kernel
theorem d_M_mount_23 : decode b_M_mount 23 = .ok (.getfield 51, 3) := by decide +kernel
theorem d_M_mount_26 : decode b_M_mount 26 = .ok (.if_icmp .ge 154, 3) := by decide +kernel
theorem d_M_mount_29 : decode b_M_mount 29 = .ok (.aload_n 0, 1) := by decide +kernel
theorem d_M_mount_30 : decode b_M_mount 30 = .ok (.iload_n 3, 1) := by decide +kernel
theorem d_M_mount_31 : decode b_M_mount 31 = .ok (.invokevirtual 124, 3) := by decide +kernel
theorem d_M_mount_34 : decode b_M_mount 34 = .ok (.aload_n 0, 1) := by decide +kernel
theorem d_M_mount_35 : decode b_M_mount 35 = .ok (.aload_n 0, 1) := by decide +kernel
theorem d_M_mount_36 : decode b_M_mount 36 = .ok (.getfield 65, 3) := by decide +kernel
theorem d_M_mount_39 : decode b_M_mount 39 = .ok (.ifCond .eq 15, 3) := by decide +kernel
theorem d_M_mount_42 : decode b_M_mount 42 = .ok (.aload_n 0, 1) := by decide +kernel
theorem d_M_mount_43 : decode b_M_mount 43 = .ok (.getfield 79, 3) := by decide +kernel
theorem d_M_mount_46 : decode b_M_mount 46 = .ok (.iconst 3, 1) := by decide +kernel
theorem d_M_mount_47 : decode b_M_mount 47 = .ok (.if_icmp .eq 7, 3) := by decide +kernel
theorem d_M_mount_50 : decode b_M_mount 50 = .ok (.iconst 1, 1) := by decide +kernel
theorem d_M_mount_51 : decode b_M_mount 51 = .ok (.goto 4, 3) := by decide +kernel
theorem d_M_mount_54 : decode b_M_mount 54 = .ok (.iconst 0, 1) := by decide +kernel
theorem d_M_mount_55 : decode b_M_mount 55 = .ok (.putfield 65, 3) := by decide +kernel
theorem d_M_mount_58 : decode b_M_mount 58 = .ok (.aload_n 0, 1) := by decide +kernel
theorem d_M_mount_59 : decode b_M_mount 59 = .ok (.getfield 16, 3) := by decide +kernel
theorem d_M_mount_62 : decode b_M_mount 62 = .ok (.iload_n 3, 1) := by decide +kernel
theorem d_M_mount_63 : decode b_M_mount 63 = .ok (.aload_n 0, 1) := by decide +kernel
theorem d_M_mount_64 : decode b_M_mount 64 = .ok (.getfield 79, 3) := by decide +kernel
theorem d_M_mount_67 : decode b_M_mount 67 = .ok (.iconst 1, 1) := by decide +kernel
theorem d_M_mount_68 : decode b_M_mount 68 = .ok (.if_icmp .eq 11, 3) := by decide +kernel
theorem d_M_mount_71 : decode b_M_mount 71 = .ok (.aload_n 0, 1) := by decide +kernel
theorem d_M_mount_72 : decode b_M_mount 72 = .ok (.getfield 79, 3) := by decide +kernel
theorem d_M_mount_75 : decode b_M_mount 75 = .ok (.iconst 2, 1) := by decide +kernel
theorem d_M_mount_76 : decode b_M_mount 76 = .ok (.if_icmp .ne 7, 3) := by decide +kernel
theorem d_M_mount_79 : decode b_M_mount 79 = .ok (.iconst 1, 1) := by decide +kernel
theorem d_M_mount_80 : decode b_M_mount 80 = .ok (.goto 4, 3) := by decide +kernel
theorem d_M_mount_83 : decode b_M_mount 83 = .ok (.iconst 0, 1) := by decide +kernel
theorem d_M_mount_84 : decode b_M_mount 84 = .ok (.bastore, 1) := by decide +kernel
theorem d_M_mount_85 : decode b_M_mount 85 = .ok (.aload_n 0, 1) := by decide +kernel
theorem d_M_mount_86 : decode b_M_mount 86 = .ok (.getfield 20, 3) := by decide +kernel
theorem d_M_mount_89 : decode b_M_mount 89 = .ok (.iload_n 3, 1) := by decide +kernel
theorem d_M_mount_90 : decode b_M_mount 90 = .ok (.aload_n 0, 1) := by decide +kernel
theorem d_M_mount_91 : decode b_M_mount 91 = .ok (.getfield 42, 3) := by decide +kernel
theorem d_M_mount_94 : decode b_M_mount 94 = .ok (.iconst 0, 1) := by decide +kernel
theorem d_M_mount_95 : decode b_M_mount 95 = .ok (.iaload, 1) := by decide +kernel
theorem d_M_mount_96 : decode b_M_mount 96 = .ok (.iastore, 1) := by decide +kernel
theorem d_M_mount_97 : decode b_M_mount 97 = .ok (.aload_n 0, 1) := by decide +kernel
theorem d_M_mount_98 : decode b_M_mount 98 = .ok (.getfield 23, 3) := by decide +kernel
theorem d_M_mount_101 : decode b_M_mount 101 = .ok (.iload_n 3, 1) := by decide +kernel
theorem d_M_mount_102 : decode b_M_mount 102 = .ok (.aload_n 0, 1) := by decide +kernel
theorem d_M_mount_103 : decode b_M_mount 103 = .ok (.getfield 42, 3) := by decide +kernel
theorem d_M_mount_106 : decode b_M_mount 106 = .ok (.iconst 1, 1) := by decide +kernel
theorem d_M_mount_107 : decode b_M_mount 107 = .ok (.iaload, 1) := by decide +kernel
theorem d_M_mount_108 : decode b_M_mount 108 = .ok (.iastore, 1) := by decide +kernel
theorem d_M_mount_109 : decode b_M_mount 109 = .ok (.aload_n 0, 1) := by decide +kernel
theorem d_M_mount_110 : decode b_M_mount 110 = .ok (.getfield 26, 3) := by decide +kernel
theorem d_M_mount_113 : decode b_M_mount 113 = .ok (.iload_n 3, 1) := by decide +kernel
theorem d_M_mount_114 : decode b_M_mount 114 = .ok (.aload_n 0, 1) := by decide +kernel
theorem d_M_mount_115 : decode b_M_mount 115 = .ok (.getfield 42, 3) := by decide +kernel
theorem d_M_mount_118 : decode b_M_mount 118 = .ok (.iconst 3, 1) := by decide +kernel
theorem d_M_mount_119 : decode b_M_mount 119 = .ok (.iaload, 1) := by decide +kernel
theorem d_M_mount_120 : decode b_M_mount 120 = .ok (.iastore, 1) := by decide +kernel
theorem d_M_mount_121 : decode b_M_mount 121 = .ok (.aload_n 0, 1) := by decide +kernel
theorem d_M_mount_122 : decode b_M_mount 122 = .ok (.getfield 16, 3) := by decide +kernel
theorem d_M_mount_125 : decode b_M_mount 125 = .ok (.iload_n 3, 1) := by decide +kernel
theorem d_M_mount_126 : decode b_M_mount 126 = .ok (.baload, 1) := by decide +kernel
theorem d_M_mount_127 : decode b_M_mount 127 = .ok (.ifCond .eq 26, 3) := by decide +kernel
theorem d_M_mount_130 : decode b_M_mount 130 = .ok (.iload_n 1, 1) := by decide +kernel
theorem d_M_mount_131 : decode b_M_mount 131 = .ok (.ifCond .eq 13, 3) := by decide +kernel
theorem d_M_mount_134 : decode b_M_mount 134 = .ok (.aload_n 0, 1) := by decide +kernel
theorem d_M_mount_135 : decode b_M_mount 135 = .ok (.getfield 42, 3) := by decide +kernel
theorem d_M_mount_138 : decode b_M_mount 138 = .ok (.iconst 0, 1) := by decide +kernel
theorem d_M_mount_139 : decode b_M_mount 139 = .ok (.iaload, 1) := by decide +kernel
theorem d_M_mount_140 : decode b_M_mount 140 = .ok (.iload_n 2, 1) := by decide +kernel
theorem d_M_mount_141 : decode b_M_mount 141 = .ok (.if_icmp .le 12, 3) := by decide +kernel
theorem d_M_mount_144 : decode b_M_mount 144 = .ok (.aload_n 0, 1) := by decide +kernel
theorem d_M_mount_145 : decode b_M_mount 145 = .ok (.getfield 42, 3) := by decide +kernel
theorem d_M_mount_148 : decode b_M_mount 148 = .ok (.iconst 0, 1) := by decide +kernel
theorem d_M_mount_149 : decode b_M_mount 149 = .ok (.iaload, 1) := by decide +kernel
theorem d_M_mount_150 : decode b_M_mount 150 = .ok (.goto 4, 3) := by decide +kernel
theorem d_M_mount_153 : decode b_M_mount 153 = .ok (.iload_n 2, 1) := by decide +kernel
theorem d_M_mount_154 : decode b_M_mount 154 = .ok (.istore_n 2, 1) := by decide +kernel
theorem d_M_mount_155 : decode b_M_mount 155 = .ok (.iload_n 1, 1) := by decide +kernel
theorem d_M_mount_156 : decode b_M_mount 156 = .ok (.ifCond .ne 12, 3) := by decide +kernel
theorem d_M_mount_159 : decode b_M_mount 159 = .ok (.aload_n 0, 1) := by decide +kernel
theorem d_M_mount_160 : decode b_M_mount 160 = .ok (.getfield 16, 3) := by decide +kernel
theorem d_M_mount_163 : decode b_M_mount 163 = .ok (.iload_n 3, 1) := by decide +kernel
theorem d_M_mount_164 : decode b_M_mount 164 = .ok (.baload, 1) := by decide +kernel
theorem d_M_mount_165 : decode b_M_mount 165 = .ok (.ifCond .eq 7, 3) := by decide +kernel
theorem d_M_mount_168 : decode b_M_mount 168 = .ok (.iconst 1, 1) := by decide +kernel
theorem d_M_mount_169 : decode b_M_mount 169 = .ok (.goto 4, 3) := by decide +kernel
theorem d_M_mount_172 : decode b_M_mount 172 = .ok (.iconst 0, 1) := by decide +kernel
theorem d_M_mount_173 : decode b_M_mount 173 = .ok (.istore_n 1, 1) := by decide +kernel
theorem d_M_mount_174 : decode b_M_mount 174 = .ok (.iinc 3 1, 3) := by decide +kernel
theorem d_M_mount_177 : decode b_M_mount 177 = .ok (.goto (-156), 3) := by decide +kernel
theorem d_M_mount_180 : decode b_M_mount 180 = .ok (.aload_n 0, 1) := by decide +kernel
theorem d_M_mount_181 : decode b_M_mount 181 = .ok (.getfield 65, 3) := by decide +kernel
theorem d_M_mount_184 : decode b_M_mount 184 = .ok (.ifCond .ne 5, 3) := by decide +kernel
theorem d_M_mount_187 : decode b_M_mount 187 = .ok (.iconst (-1), 1) := by decide +kernel
theorem d_M_mount_188 : decode b_M_mount 188 = .ok (.ireturn, 1) := by decide +kernel
theorem d_M_mount_189 : decode b_M_mount 189 = .ok (.aload_n 0, 1) := by decide +kernel
theorem d_M_mount_190 : decode b_M_mount 190 = .ok (.iload_n 1, 1) := by decide +kernel
theorem d_M_mount_191 : decode b_M_mount 191 = .ok (.ifCond .eq 9, 3) := by decide +kernel
theorem d_M_mount_194 : decode b_M_mount 194 = .ok (.iload_n 2, 1) := by decide +kernel
theorem d_M_mount_195 : decode b_M_mount 195 = .ok (.iconst 1, 1) := by decide +kernel
theorem d_M_mount_196 : decode b_M_mount 196 = .ok (.iadd, 1) := by decide +kernel
theorem d_M_mount_197 : decode b_M_mount 197 = .ok (.goto 4, 3) := by decide +kernel
theorem d_M_mount_200 : decode b_M_mount 200 = .ok (.iconst 1, 1) := by decide +kernel
theorem d_M_mount_201 : decode b_M_mount 201 = .ok (.putfield 36, 3) := by decide +kernel
theorem d_M_mount_204 : decode b_M_mount 204 = .ok (.aload_n 0, 1) := by decide +kernel
theorem d_M_mount_205 : decode b_M_mount 205 = .ok (.iconst (-1), 1) := by decide +kernel
theorem d_M_mount_206 : decode b_M_mount 206 = .ok (.putfield 32, 3) := by decide +kernel
theorem d_M_mount_209 : decode b_M_mount 209 = .ok (.aload_n 0, 1) := by decide +kernel
theorem d_M_mount_210 : decode b_M_mount 210 = .ok (.getfield 45, 3) := by decide +kernel
theorem d_M_mount_213 : decode b_M_mount 213 = .ok (.iconst 1, 1) := by decide +kernel
theorem d_M_mount_214 : decode b_M_mount 214 = .ok (.isub, 1) := by decide +kernel
theorem d_M_mount_215 : decode b_M_mount 215 = .ok (.istore_n 3, 1) := by decide +kernel
theorem d_M_mount_216 : decode b_M_mount 216 = .ok (.iload_n 3, 1) := by decide +kernel
theorem d_M_mount_217 : decode b_M_mount 217 = .ok (.ifCond .lt 42, 3) := by decide +kernel
theorem d_M_mount_220 : decode b_M_mount 220 = .ok (.aload_n 0, 1) := by decide +kernel
theorem d_M_mount_221 : decode b_M_mount 221 = .ok (.iload_n 3, 1) := by decide +kernel
theorem d_M_mount_222 : decode b_M_mount 222 = .ok (.invokevirtual 101, 3) := by decide +kernel
theorem d_M_mount_225 : decode b_M_mount 225 = .ok (.istore 4, 2) := by decide +kernel
theorem d_M_mount_227 : decode b_M_mount 227 = .ok (.aload_n 0, 1) := by decide +kernel
theorem d_M_mount_228 : decode b_M_mount 228 = .ok (.iload 4, 2) := by decide +kernel
theorem d_M_mount_230 : decode b_M_mount 230 = .ok (.ifCond .le 16, 3) := by decide +kernel
theorem d_M_mount_233 : decode b_M_mount 233 = .ok (.iload 4, 2) := by decide +kernel
theorem d_M_mount_235 : decode b_M_mount 235 = .ok (.aload_n 0, 1) := by decide +kernel
theorem d_M_mount_236 : decode b_M_mount 236 = .ok (.getfield 48, 3) := by decide +kernel
theorem d_M_mount_239 : decode b_M_mount 239 = .ok (.if_icmp .ge 7, 3) := by decide +kernel
theorem d_M_mount_242 : decode b_M_mount 242 = .ok (.iload_n 3, 1) := by decide +kernel
theorem d_M_mount_243 : decode b_M_mount 243 = .ok (.goto 7, 3) := by decide +kernel
theorem d_M_mount_246 : decode b_M_mount 246 = .ok (.aload_n 0, 1) := by decide +kernel
theorem d_M_mount_247 : decode b_M_mount 247 = .ok (.getfield 32, 3) := by decide +kernel
theorem d_M_mount_250 : decode b_M_mount 250 = .ok (.putfield 32, 3) := by decide +kernel
theorem d_M_mount_253 : decode b_M_mount 253 = .ok (.iinc 3 (-1), 3) := by decide +kernel
theorem d_M_mount_256 : decode b_M_mount 256 = .ok (.goto (-40), 3) := by decide +kernel
theorem d_M_mount_259 : decode b_M_mount 259 = .ok (.aload_n 0, 1) := by decide +kernel
theorem d_M_mount_260 : decode b_M_mount 260 = .ok (.invokevirtual 114, 3) := by decide +kernel
theorem d_M_mount_263 : decode b_M_mount 263 = .ok (.ifCond .ne 18, 3) := by decide +kernel
theorem d_M_mount_266 : decode b_M_mount 266 = .ok (.aload_n 0, 1) := by decide +kernel
theorem d_M_mount_267 : decode b_M_mount 267 = .ok (.invokevirtual 133, 3) := by decide +kernel
theorem d_M_mount_270 : decode b_M_mount 270 = .ok (.istore_n 3, 1) := by decide +kernel
theorem d_M_mount_271 : decode b_M_mount 271 = .ok (.iload_n 3, 1) := by decide +kernel
theorem d_M_mount_272 : decode b_M_mount 272 = .ok (.ifCond .lt 9, 3) := by decide +kernel
theorem d_M_mount_275 : decode b_M_mount 275 = .ok (.aload_n 0, 1) := by decide +kernel
theorem d_M_mount_276 : decode b_M_mount 276 = .ok (.iload_n 3, 1) := by decide +kernel
theorem d_M_mount_277 : decode b_M_mount 277 = .ok (.invokevirtual 136, 3) := by decide +kernel
theorem d_M_mount_280 : decode b_M_mount 280 = .ok (.pop, 1) := by decide +kernel
theorem d_M_mount_281 : decode b_M_mount 281 = .ok (.aload_n 0, 1) := by decide +kernel
theorem d_M_mount_282 : decode b_M_mount 282 = .ok (.invokevirtual 142, 3) := by decide +kernel
theorem d_M_mount_285 : decode b_M_mount 285 = .ok (.ireturn, 1) := by decide +kernel
theorem d_M_read_0 : decode b_M_read 0 = .ok (.iconst 0, 1) := by decide +kernel
theorem d_M_read_1 : decode b_M_read 1 = .ok (.istore_n 2, 1) := by decide +kernel
theorem d_M_read_2 : decode b_M_read 2 = .ok (.iconst 0, 1) := by decide +kernel
theorem d_M_read_3 : decode b_M_read 3 = .ok (.istore_n 3, 1) := by decide +kernel
theorem d_M_read_4 : decode b_M_read 4 = .ok (.iconst 0, 1) := by decide +kernel
theorem d_M_read_5 : decode b_M_read 5 = .ok (.istore 4, 2) := by decide +kernel
theorem d_M_read_7 : decode b_M_read 7 = .ok (.iload 4, 2) := by decide +kernel
theorem d_M_read_9 : decode b_M_read 9 = .ok (.sipush 178, 3) := by decide +kernel
theorem d_M_read_12 : decode b_M_read 12 = .ok (.if_icmp .ge 51, 3) := by decide +kernel
theorem d_M_read_15 : decode b_M_read 15 = .ok (.aload_n 0, 1) := by decide +kernel
theorem d_M_read_16 : decode b_M_read 16 = .ok (.iload_n 1, 1) := by decide +kernel
theorem d_M_read_17 : decode b_M_read 17 = .ok (.iload 4, 2) := by decide +kernel
theorem d_M_read_19 : decode b_M_read 19 = .ok (.invokevirtual 75, 3) := by decide +kernel
theorem d_M_read_22 : decode b_M_read 22 = .ok (.istore 5, 2) := by decide +kernel
theorem d_M_read_24 : decode b_M_read 24 = .ok (.iload 5, 2) := by decide +kernel
theorem d_M_read_26 : decode b_M_read 26 = .ok (.ifCond .ne 9, 3) := by decide +kernel
theorem d_M_read_29 : decode b_M_read 29 = .ok (.iload_n 2, 1) := by decide +kernel
theorem d_M_read_30 : decode b_M_read 30 = .ok (.iconst 1, 1) := by decide +kernel
theorem d_M_read_31 : decode b_M_read 31 = .ok (.iadd, 1) := by decide +kernel
theorem d_M_read_32 : decode b_M_read 32 = .ok (.goto 4, 3) := by decide +kernel
theorem d_M_read_35 : decode b_M_read 35 = .ok (.iload_n 2, 1) := by decide +kernel
theorem d_M_read_36 : decode b_M_read 36 = .ok (.istore_n 2, 1) := by decide +kernel
theorem d_M_read_37 : decode b_M_read 37 = .ok (.iload 5, 2) := by decide +kernel
theorem d_M_read_39 : decode b_M_read 39 = .ok (.iconst 1, 1) := by decide +kernel
theorem d_M_read_40 : decode b_M_read 40 = .ok (.if_icmp .ne 15, 3) := by decide +kernel
theorem d_M_read_43 : decode b_M_read 43 = .ok (.iload_n 3, 1) := by decide +kernel
theorem d_M_read_44 : decode b_M_read 44 = .ok (.aload_n 0, 1) := by decide +kernel
theorem d_M_read_45 : decode b_M_read 45 = .ok (.getfield 13, 3) := by decide +kernel
theorem d_M_read_48 : decode b_M_read 48 = .ok (.iload 4, 2) := by decide +kernel
theorem d_M_read_50 : decode b_M_read 50 = .ok (.iaload, 1) := by decide +kernel
theorem d_M_read_51 : decode b_M_read 51 = .ok (.ixor, 1) := by decide +kernel
theorem d_M_read_52 : decode b_M_read 52 = .ok (.goto 4, 3) := by decide +kernel
theorem d_M_read_55 : decode b_M_read 55 = .ok (.iload_n 3, 1) := by decide +kernel
theorem d_M_read_56 : decode b_M_read 56 = .ok (.istore_n 3, 1) := by decide +kernel
theorem d_M_read_57 : decode b_M_read 57 = .ok (.iinc 4 1, 3) := by decide +kernel
theorem d_M_read_60 : decode b_M_read 60 = .ok (.goto (-53), 3) := by decide +kernel
theorem d_M_read_63 : decode b_M_read 63 = .ok (.iconst 0, 1) := by decide +kernel
theorem d_M_read_64 : decode b_M_read 64 = .ok (.istore 4, 2) := by decide +kernel
theorem d_M_read_66 : decode b_M_read 66 = .ok (.iload 4, 2) := by decide +kernel
theorem d_M_read_68 : decode b_M_read 68 = .ok (.bipush 6, 2) := by decide +kernel
theorem d_M_read_70 : decode b_M_read 70 = .ok (.if_icmp .ge 28, 3) := by decide +kernel
theorem d_M_read_73 : decode b_M_read 73 = .ok (.aload_n 0, 1) := by decide +kernel
theorem d_M_read_74 : decode b_M_read 74 = .ok (.getfield 42, 3) := by decide +kernel
theorem d_M_read_77 : decode b_M_read 77 = .ok (.iload 4, 2) := by decide +kernel
theorem d_M_read_79 : decode b_M_read 79 = .ok (.aload_n 0, 1) := by decide +kernel
theorem d_M_read_80 : decode b_M_read 80 = .ok (.getfield 7, 3) := by decide +kernel
theorem d_M_read_83 : decode b_M_read 83 = .ok (.bipush 6, 2) := by decide +kernel
theorem d_M_read_85 : decode b_M_read 85 = .ok (.iload_n 1, 1) := by decide +kernel
theorem d_M_read_86 : decode b_M_read 86 = .ok (.imul, 1) := by decide +kernel
theorem d_M_read_87 : decode b_M_read 87 = .ok (.iload 4, 2) := by decide +kernel
theorem d_M_read_89 : decode b_M_read 89 = .ok (.iadd, 1) := by decide +kernel
theorem d_M_read_90 : decode b_M_read 90 = .ok (.iaload, 1) := by decide +kernel
theorem d_M_read_91 : decode b_M_read 91 = .ok (.iastore, 1) := by decide +kernel
theorem d_M_read_92 : decode b_M_read 92 = .ok (.iinc 4 1, 3) := by decide +kernel
theorem d_M_read_95 : decode b_M_read 95 = .ok (.goto (-29), 3) := by decide +kernel
theorem d_M_read_98 : decode b_M_read 98 = .ok (.iload_n 2, 1) := by decide +kernel
theorem d_M_read_99 : decode b_M_read 99 = .ok (.iconst 2, 1) := by decide +kernel
theorem d_M_read_100 : decode b_M_read 100 = .ok (.if_icmp .gt 9, 3) := by decide +kernel
theorem d_M_read_103 : decode b_M_read 103 = .ok (.aload_n 0, 1) := by decide +kernel
theorem d_M_read_104 : decode b_M_read 104 = .ok (.iconst 0, 1) := by decide +kernel
theorem d_M_read_105 : decode b_M_read 105 = .ok (.putfield 79, 3) := by decide +kernel
theorem d_M_read_108 : decode b_M_read 108 = .ok (.return_, 1) := by decide +kernel
theorem d_M_read_109 : decode b_M_read 109 = .ok (.iload_n 3, 1) := by decide +kernel
theorem d_M_read_110 : decode b_M_read 110 = .ok (.ifCond .eq 11, 3) := by decide +kernel
theorem d_M_read_113 : decode b_M_read 113 = .ok (.aload_n 0, 1) := by decide +kernel
theorem d_M_read_114 : decode b_M_read 114 = .ok (.iload_n 3, 1) := by decide +kernel
theorem d_M_read_115 : decode b_M_read 115 = .ok (.invokevirtual 82, 3) := by decide +kernel
theorem d_M_read_118 : decode b_M_read 118 = .ok (.ifCond .eq 7, 3) := by decide +kernel
theorem d_M_read_121 : decode b_M_read 121 = .ok (.iconst 1, 1) := by decide +kernel
theorem d_M_read_122 : decode b_M_read 122 = .ok (.goto 4, 3) := by decide +kernel
theorem d_M_read_125 : decode b_M_read 125 = .ok (.iconst 0, 1) := by decide +kernel
theorem d_M_read_126 : decode b_M_read 126 = .ok (.istore 4, 2) := by decide +kernel
theorem d_M_read_128 : decode b_M_read 128 = .ok (.aload_n 0, 1) := by decide +kernel
theorem d_M_read_129 : decode b_M_read 129 = .ok (.getfield 42, 3) := by decide +kernel
theorem d_M_read_132 : decode b_M_read 132 = .ok (.iconst 0, 1) := by decide +kernel
theorem d_M_read_133 : decode b_M_read 133 = .ok (.iaload, 1) := by decide +kernel
theorem d_M_read_134 : decode b_M_read 134 = .ok (.aload_n 0, 1) := by decide +kernel
theorem d_M_read_135 : decode b_M_read 135 = .ok (.getfield 42, 3) := by decide +kernel
theorem d_M_read_138 : decode b_M_read 138 = .ok (.iconst 1, 1) := by decide +kernel
theorem d_M_read_139 : decode b_M_read 139 = .ok (.iaload, 1) := by decide +kernel
theorem d_M_read_140 : decode b_M_read 140 = .ok (.aload_n 0, 1) := by decide +kernel
theorem d_M_read_141 : decode b_M_read 141 = .ok (.getfield 42, 3) := by decide +kernel
theorem d_M_read_144 : decode b_M_read 144 = .ok (.iconst 2, 1) := by decide +kernel
theorem d_M_read_145 : decode b_M_read 145 = .ok (.iaload, 1) := by decide +kernel
theorem d_M_read_146 : decode b_M_read 146 = .ok (.aload_n 0, 1) := by decide +kernel
theorem d_M_read_147 : decode b_M_read 147 = .ok (.getfield 42, 3) := by decide +kernel
theorem d_M_read_150 : decode b_M_read 150 = .ok (.iconst 3, 1) := by decide +kernel
theorem d_M_read_151 : decode b_M_read 151 = .ok (.iaload, 1) := by decide +kernel
theorem d_M_read_152 : decode b_M_read 152 = .ok (.invokestatic 86, 3) := by decide +kernel
theorem d_M_read_155 : decode b_M_read 155 = .ok (.istore 5, 2) := by decide +kernel
theorem d_M_read_157 : decode b_M_read 157 = .ok (.iload 4, 2) := by decide +kernel
theorem d_M_read_159 : decode b_M_read 159 = .ok (.ifCond .eq 58, 3) := by decide +kernel
theorem d_M_read_162 : decode b_M_read 162 = .ok (.aload_n 0, 1) := by decide +kernel
theorem d_M_read_163 : decode b_M_read 163 = .ok (.getfield 42, 3) := by decide +kernel
theorem d_M_read_166 : decode b_M_read 166 = .ok (.iconst 4, 1) := by decide +kernel
theorem d_M_read_167 : decode b_M_read 167 = .ok (.iaload, 1) := by decide +kernel
theorem d_M_read_168 : decode b_M_read 168 = .ok (.iload 5, 2) := by decide +kernel
theorem d_M_read_170 : decode b_M_read 170 = .ok (.if_icmp .ne 47, 3) := by decide +kernel
theorem d_M_read_173 : decode b_M_read 173 = .ok (.aload_n 0, 1) := by decide +kernel
theorem d_M_read_174 : decode b_M_read 174 = .ok (.getfield 42, 3) := by decide +kernel
theorem d_M_read_177 : decode b_M_read 177 = .ok (.iconst 1, 1) := by decide +kernel
theorem d_M_read_178 : decode b_M_read 178 = .ok (.iaload, 1) := by decide +kernel
theorem d_M_read_179 : decode b_M_read 179 = .ok (.ifCond .lt 38, 3) := by decide +kernel
theorem d_M_read_182 : decode b_M_read 182 = .ok (.aload_n 0, 1) := by decide +kernel
theorem d_M_read_183 : decode b_M_read 183 = .ok (.getfield 42, 3) := by decide +kernel
theorem d_M_read_186 : decode b_M_read 186 = .ok (.iconst 1, 1) := by decide +kernel
theorem d_M_read_187 : decode b_M_read 187 = .ok (.iaload, 1) := by decide +kernel
theorem d_M_read_188 : decode b_M_read 188 = .ok (.bipush 15, 2) := by decide +kernel
theorem d_M_read_190 : decode b_M_read 190 = .ok (.if_icmp .gt 27, 3) := by decide +kernel
theorem d_M_read_193 : decode b_M_read 193 = .ok (.aload_n 0, 1) := by decide +kernel
theorem d_M_read_194 : decode b_M_read 194 = .ok (.getfield 42, 3) := by decide +kernel
theorem d_M_read_197 : decode b_M_read 197 = .ok (.iconst 3, 1) := by decide +kernel
theorem d_M_read_198 : decode b_M_read 198 = .ok (.iaload, 1) := by decide +kernel
theorem d_M_read_199 : decode b_M_read 199 = .ok (.iconst 1, 1) := by decide +kernel
theorem d_M_read_200 : decode b_M_read 200 = .ok (.if_icmp .eq 13, 3) := by decide +kernel
theorem d_M_read_203 : decode b_M_read 203 = .ok (.aload_n 0, 1) := by decide +kernel
theorem d_M_read_204 : decode b_M_read 204 = .ok (.getfield 42, 3) := by decide +kernel
theorem d_M_read_207 : decode b_M_read 207 = .ok (.iconst 3, 1) := by decide +kernel
theorem d_M_read_208 : decode b_M_read 208 = .ok (.iaload, 1) := by decide +kernel
theorem d_M_read_209 : decode b_M_read 209 = .ok (.iconst 2, 1) := by decide +kernel
theorem d_M_read_210 : decode b_M_read 210 = .ok (.if_icmp .ne 7, 3) := by decide +kernel
theorem d_M_read_213 : decode b_M_read 213 = .ok (.iconst 1, 1) := by decide +kernel
theorem d_M_read_214 : decode b_M_read 214 = .ok (.goto 4, 3) := by decide +kernel
theorem d_M_read_217 : decode b_M_read 217 = .ok (.iconst 0, 1) := by decide +kernel
theorem d_M_read_218 : decode b_M_read 218 = .ok (.istore 4, 2) := by decide +kernel
theorem d_M_read_220 : decode b_M_read 220 = .ok (.aload_n 0, 1) := by decide +kernel
theorem d_M_read_221 : decode b_M_read 221 = .ok (.iload 4, 2) := by decide +kernel
theorem d_M_read_223 : decode b_M_read 223 = .ok (.ifCond .ne 7, 3) := by decide +kernel
theorem d_M_read_226 : decode b_M_read 226 = .ok (.iconst 3, 1) := by decide +kernel
theorem d_M_read_227 : decode b_M_read 227 = .ok (.goto 12, 3) := by decide +kernel
theorem d_M_read_230 : decode b_M_read 230 = .ok (.iload_n 3, 1) := by decide +kernel
theorem d_M_read_231 : decode b_M_read 231 = .ok (.ifCond .ne 7, 3) := by decide +kernel
theorem d_M_read_234 : decode b_M_read 234 = .ok (.iconst 1, 1) := by decide +kernel
theorem d_M_read_235 : decode b_M_read 235 = .ok (.goto 4, 3) := by decide +kernel
theorem d_M_read_238 : decode b_M_read 238 = .ok (.iconst 2, 1) := by decide +kernel
theorem d_M_read_239 : decode b_M_read 239 = .ok (.putfield 79, 3) := by decide +kernel
theorem d_M_read_242 : decode b_M_read 242 = .ok (.return_, 1) := by decide +kernel
theorem d_M_bitOf_0 : decode b_M_bitOf 0 = .ok (.aload_n 0, 1) := by decide +kernel
theorem d_M_bitOf_1 : decode b_M_bitOf 1 = .ok (.getfield 7, 3) := by decide +kernel
theorem d_M_bitOf_4 : decode b_M_bitOf 4 = .ok (.bipush 6, 2) := by decide +kernel
theorem d_M_bitOf_6 : decode b_M_bitOf 6 = .ok (.iload_n 1, 1) := by decide +kernel
theorem d_M_bitOf_7 : decode b_M_bitOf 7 = .ok (.imul, 1) := by decide +kernel
theorem d_M_bitOf_8 : decode b_M_bitOf 8 = .ok (.iload_n 2, 1) := by decide +kernel
theorem d_M_bitOf_9 : decode b_M_bitOf 9 = .ok (.bipush 32, 2) := by decide +kernel
theorem d_M_bitOf_11 : decode b_M_bitOf 11 = .ok (.idiv, 1) := by decide +kernel
theorem d_M_bitOf_12 : decode b_M_bitOf 12 = .ok (.iadd, 1) := by decide +kernel
theorem d_M_bitOf_13 : decode b_M_bitOf 13 = .ok (.iaload, 1) := by decide +kernel
theorem d_M_bitOf_14 : decode b_M_bitOf 14 = .ok (.iload_n 2, 1) := by decide +kernel
theorem d_M_bitOf_15 : decode b_M_bitOf 15 = .ok (.bipush 32, 2) := by decide +kernel
theorem d_M_bitOf_17 : decode b_M_bitOf 17 = .ok (.irem, 1) := by decide +kernel
theorem d_M_bitOf_18 : decode b_M_bitOf 18 = .ok (.ishr, 1) := by decide +kernel
theorem d_M_bitOf_19 : decode b_M_bitOf 19 = .ok (.iconst 1, 1) := by decide +kernel
theorem d_M_bitOf_20 : decode b_M_bitOf 20 = .ok (.iand, 1) := by decide +kernel
theorem d_M_bitOf_21 : decode b_M_bitOf 21 = .ok (.ireturn, 1) := by decide +kernel
theorem d_M_mends_0 : decode b_M_mends 0 = .ok (.iconst 0, 1) := by decide +kernel
theorem d_M_mends_1 : decode b_M_mends 1 = .ok (.istore_n 2, 1) := by decide +kernel
theorem d_M_mends_2 : decode b_M_mends 2 = .ok (.iload_n 2, 1) := by decide +kernel
theorem d_M_mends_3 : decode b_M_mends 3 = .ok (.sipush 178, 3) := by decide +kernel
theorem d_M_mends_6 : decode b_M_mends 6 = .ok (.if_icmp .ge 26, 3) := by decide +kernel
theorem d_M_mends_9 : decode b_M_mends 9 = .ok (.aload_n 0, 1) := by decide +kernel
theorem d_M_mends_10 : decode b_M_mends 10 = .ok (.getfield 13, 3) := by decide +kernel
theorem d_M_mends_13 : decode b_M_mends 13 = .ok (.iload_n 2, 1) := by decide +kernel
theorem d_M_mends_14 : decode b_M_mends 14 = .ok (.iaload, 1) := by decide +kernel
theorem d_M_mends_15 : decode b_M_mends 15 = .ok (.iload_n 1, 1) := by decide +kernel
theorem d_M_mends_16 : decode b_M_mends 16 = .ok (.if_icmp .ne 10, 3) := by decide +kernel
theorem d_M_mends_19 : decode b_M_mends 19 = .ok (.aload_n 0, 1) := by decide +kernel
theorem d_M_mends_20 : decode b_M_mends 20 = .ok (.iload_n 2, 1) := by decide +kernel
theorem d_M_mends_21 : decode b_M_mends 21 = .ok (.invokevirtual 72, 3) := by decide +kernel
theorem d_M_mends_24 : decode b_M_mends 24 = .ok (.iconst 1, 1) := by decide +kernel
theorem d_M_mends_25 : decode b_M_mends 25 = .ok (.ireturn, 1) := by decide +kernel
theorem d_M_mends_26 : decode b_M_mends 26 = .ok (.iinc 2 1, 3) := by decide +kernel
theorem d_M_mends_29 : decode b_M_mends 29 = .ok (.goto (-27), 3) := by decide +kernel
theorem d_M_mends_32 : decode b_M_mends 32 = .ok (.iconst 0, 1) := by decide +kernel
theorem d_M_mends_33 : decode b_M_mends 33 = .ok (.istore_n 2, 1) := by decide +kernel
theorem d_M_mends_34 : decode b_M_mends 34 = .ok (.iload_n 2, 1) := by decide +kernel
theorem d_M_mends_35 : decode b_M_mends 35 = .ok (.sipush 178, 3) := by decide +kernel
theorem d_M_mends_38 : decode b_M_mends 38 = .ok (.if_icmp .ge 51, 3) := by decide +kernel
theorem d_M_mends_41 : decode b_M_mends 41 = .ok (.iconst 0, 1) := by decide +kernel
theorem d_M_mends_42 : decode b_M_mends 42 = .ok (.istore_n 3, 1) := by decide +kernel
theorem d_M_mends_43 : decode b_M_mends 43 = .ok (.iload_n 3, 1) := by decide +kernel
theorem d_M_mends_44 : decode b_M_mends 44 = .ok (.iload_n 2, 1) := by decide +kernel
theorem d_M_mends_45 : decode b_M_mends 45 = .ok (.if_icmp .ge 38, 3) := by decide +kernel
theorem d_M_mends_48 : decode b_M_mends 48 = .ok (.aload_n 0, 1) := by decide +kernel
theorem d_M_mends_49 : decode b_M_mends 49 = .ok (.getfield 13, 3) := by decide +kernel
theorem d_M_mends_52 : decode b_M_mends 52 = .ok (.iload_n 2, 1) := by decide +kernel
theorem d_M_mends_53 : decode b_M_mends 53 = .ok (.iaload, 1) := by decide +kernel
theorem d_M_mends_54 : decode b_M_mends 54 = .ok (.aload_n 0, 1) := by decide +kernel
theorem d_M_mends_55 : decode b_M_mends 55 = .ok (.getfield 13, 3) := by decide +kernel
theorem d_M_mends_58 : decode b_M_mends 58 = .ok (.iload_n 3, 1) := by decide +kernel
theorem d_M_mends_59 : decode b_M_mends 59 = .ok (.iaload, 1) := by decide +kernel
theorem d_M_mends_60 : decode b_M_mends 60 = .ok (.ixor, 1) := by decide +kernel
theorem d_M_mends_61 : decode b_M_mends 61 = .ok (.iload_n 1, 1) := by decide +kernel
theorem d_M_mends_62 : decode b_M_mends 62 = .ok (.if_icmp .ne 15, 3) := by decide +kernel
theorem d_M_mends_65 : decode b_M_mends 65 = .ok (.aload_n 0, 1) := by decide +kernel
theorem d_M_mends_66 : decode b_M_mends 66 = .ok (.iload_n 2, 1) := by decide +kernel
theorem d_M_mends_67 : decode b_M_mends 67 = .ok (.invokevirtual 72, 3) := by decide +kernel
theorem d_M_mends_70 : decode b_M_mends 70 = .ok (.aload_n 0, 1) := by decide +kernel
theorem d_M_mends_71 : decode b_M_mends 71 = .ok (.iload_n 3, 1) := by decide +kernel
theorem d_M_mends_72 : decode b_M_mends 72 = .ok (.invokevirtual 72, 3) := by decide +kernel
theorem d_M_mends_75 : decode b_M_mends 75 = .ok (.iconst 1, 1) := by decide +kernel
theorem d_M_mends_76 : decode b_M_mends 76 = .ok (.ireturn, 1) := by decide +kernel
theorem d_M_mends_77 : decode b_M_mends 77 = .ok (.iinc 3 1, 3) := by decide +kernel
theorem d_M_mends_80 : decode b_M_mends 80 = .ok (.goto (-37), 3) := by decide +kernel
theorem d_M_mends_83 : decode b_M_mends 83 = .ok (.iinc 2 1, 3) := by decide +kernel
theorem d_M_mends_86 : decode b_M_mends 86 = .ok (.goto (-52), 3) := by decide +kernel
theorem d_M_mends_89 : decode b_M_mends 89 = .ok (.iconst 0, 1) := by decide +kernel
theorem d_M_mends_90 : decode b_M_mends 90 = .ok (.ireturn, 1) := by decide +kernel
theorem d_M_turn_0 : decode b_M_turn 0 = .ok (.aload_n 0, 1) := by decide +kernel
theorem d_M_turn_1 : decode b_M_turn 1 = .ok (.getfield 42, 3) := by decide +kernel
theorem d_M_turn_4 : decode b_M_turn 4 = .ok (.iload_n 1, 1) := by decide +kernel
theorem d_M_turn_5 : decode b_M_turn 5 = .ok (.bipush 32, 2) := by decide +kernel
theorem d_M_turn_7 : decode b_M_turn 7 = .ok (.idiv, 1) := by decide +kernel
theorem d_M_turn_8 : decode b_M_turn 8 = .ok (.aload_n 0, 1) := by decide +kernel
theorem d_M_turn_9 : decode b_M_turn 9 = .ok (.getfield 42, 3) := by decide +kernel
theorem d_M_turn_12 : decode b_M_turn 12 = .ok (.iload_n 1, 1) := by decide +kernel
theorem d_M_turn_13 : decode b_M_turn 13 = .ok (.bipush 32, 2) := by decide +kernel
theorem d_M_turn_15 : decode b_M_turn 15 = .ok (.idiv, 1) := by decide +kernel
theorem d_M_turn_16 : decode b_M_turn 16 = .ok (.iaload, 1) := by decide +kernel
theorem d_M_turn_17 : decode b_M_turn 17 = .ok (.iconst 1, 1) := by decide +kernel
theorem d_M_turn_18 : decode b_M_turn 18 = .ok (.iload_n 1, 1) := by decide +kernel
theorem d_M_turn_19 : decode b_M_turn 19 = .ok (.bipush 32, 2) := by decide +kernel
theorem d_M_turn_21 : decode b_M_turn 21 = .ok (.irem, 1) := by decide +kernel
theorem d_M_turn_22 : decode b_M_turn 22 = .ok (.ishl, 1) := by decide +kernel
theorem d_M_turn_23 : decode b_M_turn 23 = .ok (.ixor, 1) := by decide +kernel
theorem d_M_turn_24 : decode b_M_turn 24 = .ok (.iastore, 1) := by decide +kernel
theorem d_M_turn_25 : decode b_M_turn 25 = .ok (.return_, 1) := by decide +kernel
theorem d_M_checkOf_0 : decode b_M_checkOf 0 = .ok (.iload_n 0, 1) := by decide +kernel
theorem d_M_checkOf_1 : decode b_M_checkOf 1 = .ok (.bipush 31, 2) := by decide +kernel
theorem d_M_checkOf_3 : decode b_M_checkOf 3 = .ok (.imul, 1) := by decide +kernel
theorem d_M_checkOf_4 : decode b_M_checkOf 4 = .ok (.iload_n 1, 1) := by decide +kernel
theorem d_M_checkOf_5 : decode b_M_checkOf 5 = .ok (.iadd, 1) := by decide +kernel
theorem d_M_checkOf_6 : decode b_M_checkOf 6 = .ok (.istore 4, 2) := by decide +kernel
theorem d_M_checkOf_8 : decode b_M_checkOf 8 = .ok (.iload 4, 2) := by decide +kernel
theorem d_M_checkOf_10 : decode b_M_checkOf 10 = .ok (.bipush 31, 2) := by decide +kernel
theorem d_M_checkOf_12 : decode b_M_checkOf 12 = .ok (.imul, 1) := by decide +kernel
theorem d_M_checkOf_13 : decode b_M_checkOf 13 = .ok (.iload_n 2, 1) := by decide +kernel
theorem d_M_checkOf_14 : decode b_M_checkOf 14 = .ok (.iadd, 1) := by decide +kernel
theorem d_M_checkOf_15 : decode b_M_checkOf 15 = .ok (.istore 4, 2) := by decide +kernel
theorem d_M_checkOf_17 : decode b_M_checkOf 17 = .ok (.iload 4, 2) := by decide +kernel
theorem d_M_checkOf_19 : decode b_M_checkOf 19 = .ok (.bipush 31, 2) := by decide +kernel
theorem d_M_checkOf_21 : decode b_M_checkOf 21 = .ok (.imul, 1) := by decide +kernel
theorem d_M_checkOf_22 : decode b_M_checkOf 22 = .ok (.iload_n 3, 1) := by decide +kernel
theorem d_M_checkOf_23 : decode b_M_checkOf 23 = .ok (.iadd, 1) := by decide +kernel
theorem d_M_checkOf_24 : decode b_M_checkOf 24 = .ok (.istore 4, 2) := by decide +kernel
theorem d_M_checkOf_26 : decode b_M_checkOf 26 = .ok (.iload 4, 2) := by decide +kernel
theorem d_M_checkOf_28 : decode b_M_checkOf 28 = .ok (.iload 4, 2) := by decide +kernel
theorem d_M_checkOf_30 : decode b_M_checkOf 30 = .ok (.bipush 15, 2) := by decide +kernel
theorem d_M_checkOf_32 : decode b_M_checkOf 32 = .ok (.iushr, 1) := by decide +kernel
theorem d_M_checkOf_33 : decode b_M_checkOf 33 = .ok (.ixor, 1) := by decide +kernel
theorem d_M_checkOf_34 : decode b_M_checkOf 34 = .ok (.ireturn, 1) := by decide +kernel
theorem d_M_writtenOf_0 : decode b_M_writtenOf 0 = .ok (.iconst 0, 1) := by decide +kernel
theorem d_M_writtenOf_1 : decode b_M_writtenOf 1 = .ok (.istore_n 2, 1) := by decide +kernel
theorem d_M_writtenOf_2 : decode b_M_writtenOf 2 = .ok (.iload_n 1, 1) := by decide +kernel
theorem d_M_writtenOf_3 : decode b_M_writtenOf 3 = .ok (.aload_n 0, 1) := by decide +kernel
theorem d_M_writtenOf_4 : decode b_M_writtenOf 4 = .ok (.getfield 48, 3) := by decide +kernel
theorem d_M_writtenOf_7 : decode b_M_writtenOf 7 = .ok (.imul, 1) := by decide +kernel
theorem d_M_writtenOf_8 : decode b_M_writtenOf 8 = .ok (.istore_n 3, 1) := by decide +kernel
theorem d_M_writtenOf_9 : decode b_M_writtenOf 9 = .ok (.iload_n 3, 1) := by decide +kernel
theorem d_M_writtenOf_10 : decode b_M_writtenOf 10 = .ok (.iload_n 1, 1) := by decide +kernel
theorem d_M_writtenOf_11 : decode b_M_writtenOf 11 = .ok (.aload_n 0, 1) := by decide +kernel
theorem d_M_writtenOf_12 : decode b_M_writtenOf 12 = .ok (.getfield 48, 3) := by decide +kernel
theorem d_M_writtenOf_15 : decode b_M_writtenOf 15 = .ok (.imul, 1) := by decide +kernel
theorem d_M_writtenOf_16 : decode b_M_writtenOf 16 = .ok (.aload_n 0, 1) := by decide +kernel
theorem d_M_writtenOf_17 : decode b_M_writtenOf 17 = .ok (.getfield 48, 3) := by decide +kernel
theorem d_M_writtenOf_20 : decode b_M_writtenOf 20 = .ok (.iadd, 1) := by decide +kernel
theorem d_M_writtenOf_21 : decode b_M_writtenOf 21 = .ok (.if_icmp .ge 26, 3) := by decide +kernel
theorem d_M_writtenOf_24 : decode b_M_writtenOf 24 = .ok (.aload_n 0, 1) := by decide +kernel
theorem d_M_writtenOf_25 : decode b_M_writtenOf 25 = .ok (.getfield 16, 3) := by decide +kernel
theorem d_M_writtenOf_28 : decode b_M_writtenOf 28 = .ok (.iload_n 3, 1) := by decide +kernel
theorem d_M_writtenOf_29 : decode b_M_writtenOf 29 = .ok (.baload, 1) := by decide +kernel
theorem d_M_writtenOf_30 : decode b_M_writtenOf 30 = .ok (.ifCond .eq 9, 3) := by decide +kernel
theorem d_M_writtenOf_33 : decode b_M_writtenOf 33 = .ok (.iload_n 2, 1) := by decide +kernel
theorem d_M_writtenOf_34 : decode b_M_writtenOf 34 = .ok (.iconst 1, 1) := by decide +kernel
theorem d_M_writtenOf_35 : decode b_M_writtenOf 35 = .ok (.iadd, 1) := by decide +kernel
theorem d_M_writtenOf_36 : decode b_M_writtenOf 36 = .ok (.goto 4, 3) := by decide +kernel
theorem d_M_writtenOf_39 : decode b_M_writtenOf 39 = .ok (.iload_n 2, 1) := by decide +kernel
theorem d_M_writtenOf_40 : decode b_M_writtenOf 40 = .ok (.istore_n 2, 1) := by decide +kernel
theorem d_M_writtenOf_41 : decode b_M_writtenOf 41 = .ok (.iinc 3 1, 3) := by decide +kernel
theorem d_M_writtenOf_44 : decode b_M_writtenOf 44 = .ok (.goto (-35), 3) := by decide +kernel
theorem d_M_writtenOf_47 : decode b_M_writtenOf 47 = .ok (.iload_n 2, 1) := by decide +kernel
theorem d_M_writtenOf_48 : decode b_M_writtenOf 48 = .ok (.ireturn, 1) := by decide +kernel
theorem d_M_frees_0 : decode b_M_frees 0 = .ok (.iconst 0, 1) := by decide +kernel
theorem d_M_frees_1 : decode b_M_frees 1 = .ok (.istore_n 1, 1) := by decide +kernel
theorem d_M_frees_2 : decode b_M_frees 2 = .ok (.iconst 0, 1) := by decide +kernel
theorem d_M_frees_3 : decode b_M_frees 3 = .ok (.istore_n 2, 1) := by decide +kernel
theorem d_M_frees_4 : decode b_M_frees 4 = .ok (.iload_n 2, 1) := by decide +kernel
theorem d_M_frees_5 : decode b_M_frees 5 = .ok (.aload_n 0, 1) := by decide +kernel
theorem d_M_frees_6 : decode b_M_frees 6 = .ok (.getfield 45, 3) := by decide +kernel
theorem d_M_frees_9 : decode b_M_frees 9 = .ok (.if_icmp .ge 25, 3) := by decide +kernel
theorem d_M_frees_12 : decode b_M_frees 12 = .ok (.aload_n 0, 1) := by decide +kernel
theorem d_M_frees_13 : decode b_M_frees 13 = .ok (.iload_n 2, 1) := by decide +kernel
theorem d_M_frees_14 : decode b_M_frees 14 = .ok (.invokevirtual 101, 3) := by decide +kernel
theorem d_M_frees_17 : decode b_M_frees 17 = .ok (.ifCond .ne 9, 3) := by decide +kernel
theorem d_M_frees_20 : decode b_M_frees 20 = .ok (.iload_n 1, 1) := by decide +kernel
theorem d_M_frees_21 : decode b_M_frees 21 = .ok (.iconst 1, 1) := by decide +kernel
theorem d_M_frees_22 : decode b_M_frees 22 = .ok (.iadd, 1) := by decide +kernel
theorem d_M_frees_23 : decode b_M_frees 23 = .ok (.goto 4, 3) := by decide +kernel
theorem d_M_frees_26 : decode b_M_frees 26 = .ok (.iload_n 1, 1) := by decide +kernel
theorem d_M_frees_27 : decode b_M_frees 27 = .ok (.istore_n 1, 1) := by decide +kernel
theorem d_M_frees_28 : decode b_M_frees 28 = .ok (.iinc 2 1, 3) := by decide +kernel
theorem d_M_frees_31 : decode b_M_frees 31 = .ok (.goto (-27), 3) := by decide +kernel
theorem d_M_frees_34 : decode b_M_frees 34 = .ok (.iload_n 1, 1) := by decide +kernel
theorem d_M_frees_35 : decode b_M_frees 35 = .ok (.ireturn, 1) := by decide +kernel
theorem d_M_chosen_0 : decode b_M_chosen 0 = .ok (.aload_n 0, 1) := by decide +kernel
theorem d_M_chosen_1 : decode b_M_chosen 1 = .ok (.invokevirtual 107, 3) := by decide +kernel
theorem d_M_chosen_4 : decode b_M_chosen 4 = .ok (.istore_n 1, 1) := by decide +kernel
theorem d_M_chosen_5 : decode b_M_chosen 5 = .ok (.iconst (-1), 1) := by decide +kernel
theorem d_M_chosen_6 : decode b_M_chosen 6 = .ok (.istore_n 2, 1) := by decide +kernel
theorem d_M_chosen_7 : decode b_M_chosen 7 = .ok (.iconst 0, 1) := by decide +kernel
theorem d_M_chosen_8 : decode b_M_chosen 8 = .ok (.istore_n 3, 1) := by decide +kernel
theorem d_M_chosen_9 : decode b_M_chosen 9 = .ok (.iconst 0, 1) := by decide +kernel
theorem d_M_chosen_10 : decode b_M_chosen 10 = .ok (.istore 4, 2) := by decide +kernel
theorem d_M_chosen_12 : decode b_M_chosen 12 = .ok (.iload 4, 2) := by decide +kernel
theorem d_M_chosen_14 : decode b_M_chosen 14 = .ok (.aload_n 0, 1) := by decide +kernel
theorem d_M_chosen_15 : decode b_M_chosen 15 = .ok (.getfield 45, 3) := by decide +kernel
theorem d_M_chosen_18 : decode b_M_chosen 18 = .ok (.if_icmp .ge 55, 3) := by decide +kernel
theorem d_M_chosen_21 : decode b_M_chosen 21 = .ok (.aload_n 0, 1) := by decide +kernel
theorem d_M_chosen_22 : decode b_M_chosen 22 = .ok (.iload 4, 2) := by decide +kernel
theorem d_M_chosen_24 : decode b_M_chosen 24 = .ok (.invokevirtual 101, 3) := by decide +kernel
theorem d_M_chosen_27 : decode b_M_chosen 27 = .ok (.ifCond .le 40, 3) := by decide +kernel
theorem d_M_chosen_30 : decode b_M_chosen 30 = .ok (.iload 4, 2) := by decide +kernel
theorem d_M_chosen_32 : decode b_M_chosen 32 = .ok (.aload_n 0, 1) := by decide +kernel
theorem d_M_chosen_33 : decode b_M_chosen 33 = .ok (.getfield 32, 3) := by decide +kernel
theorem d_M_chosen_36 : decode b_M_chosen 36 = .ok (.if_icmp .ne 7, 3) := by decide +kernel
theorem d_M_chosen_39 : decode b_M_chosen 39 = .ok (.iload_n 1, 1) := by decide +kernel
theorem d_M_chosen_40 : decode b_M_chosen 40 = .ok (.ifCond .eq 27, 3) := by decide +kernel
theorem d_M_chosen_43 : decode b_M_chosen 43 = .ok (.aload_n 0, 1) := by decide +kernel
theorem d_M_chosen_44 : decode b_M_chosen 44 = .ok (.iload 4, 2) := by decide +kernel
theorem d_M_chosen_46 : decode b_M_chosen 46 = .ok (.invokevirtual 111, 3) := by decide +kernel
theorem d_M_chosen_49 : decode b_M_chosen 49 = .ok (.istore 5, 2) := by decide +kernel
theorem d_M_chosen_51 : decode b_M_chosen 51 = .ok (.iload_n 2, 1) := by decide +kernel
theorem d_M_chosen_52 : decode b_M_chosen 52 = .ok (.ifCond .lt 9, 3) := by decide +kernel
theorem d_M_chosen_55 : decode b_M_chosen 55 = .ok (.iload 5, 2) := by decide +kernel
theorem d_M_chosen_57 : decode b_M_chosen 57 = .ok (.iload_n 3, 1) := by decide +kernel
theorem d_M_chosen_58 : decode b_M_chosen 58 = .ok (.if_icmp .ge 9, 3) := by decide +kernel
theorem d_M_chosen_61 : decode b_M_chosen 61 = .ok (.iload 4, 2) := by decide +kernel
theorem d_M_chosen_63 : decode b_M_chosen 63 = .ok (.istore_n 2, 1) := by decide +kernel
theorem d_M_chosen_64 : decode b_M_chosen 64 = .ok (.iload 5, 2) := by decide +kernel
theorem d_M_chosen_66 : decode b_M_chosen 66 = .ok (.istore_n 3, 1) := by decide +kernel
theorem d_M_chosen_67 : decode b_M_chosen 67 = .ok (.iinc 4 1, 3) := by decide +kernel
theorem d_M_chosen_70 : decode b_M_chosen 70 = .ok (.goto (-58), 3) := by decide +kernel
theorem d_M_chosen_73 : decode b_M_chosen 73 = .ok (.iload_n 2, 1) := by decide +kernel
theorem d_M_chosen_74 : decode b_M_chosen 74 = .ok (.ifCond .lt 22, 3) := by decide +kernel
theorem d_M_chosen_77 : decode b_M_chosen 77 = .ok (.iload_n 3, 1) := by decide +kernel
theorem d_M_chosen_78 : decode b_M_chosen 78 = .ok (.aload_n 0, 1) := by decide +kernel
theorem d_M_chosen_79 : decode b_M_chosen 79 = .ok (.getfield 48, 3) := by decide +kernel
theorem d_M_chosen_82 : decode b_M_chosen 82 = .ok (.if_icmp .eq 14, 3) := by decide +kernel
theorem d_M_chosen_85 : decode b_M_chosen 85 = .ok (.iload_n 1, 1) := by decide +kernel
theorem d_M_chosen_86 : decode b_M_chosen 86 = .ok (.ifCond .eq 12, 3) := by decide +kernel
theorem d_M_chosen_89 : decode b_M_chosen 89 = .ok (.aload_n 0, 1) := by decide +kernel
theorem d_M_chosen_90 : decode b_M_chosen 90 = .ok (.invokevirtual 114, 3) := by decide +kernel
theorem d_M_chosen_93 : decode b_M_chosen 93 = .ok (.ifCond .ne 5, 3) := by decide +kernel
theorem d_M_chosen_96 : decode b_M_chosen 96 = .ok (.iconst (-1), 1) := by decide +kernel
theorem d_M_chosen_97 : decode b_M_chosen 97 = .ok (.ireturn, 1) := by decide +kernel
theorem d_M_chosen_98 : decode b_M_chosen 98 = .ok (.iload_n 1, 1) := by decide +kernel
theorem d_M_chosen_99 : decode b_M_chosen 99 = .ok (.ifCond .ne 24, 3) := by decide +kernel
theorem d_M_chosen_102 : decode b_M_chosen 102 = .ok (.aload_n 0, 1) := by decide +kernel
theorem d_M_chosen_103 : decode b_M_chosen 103 = .ok (.getfield 48, 3) := by decide +kernel
theorem d_M_chosen_106 : decode b_M_chosen 106 = .ok (.aload_n 0, 1) := by decide +kernel
theorem d_M_chosen_107 : decode b_M_chosen 107 = .ok (.aload_n 0, 1) := by decide +kernel
theorem d_M_chosen_108 : decode b_M_chosen 108 = .ok (.getfield 32, 3) := by decide +kernel
theorem d_M_chosen_111 : decode b_M_chosen 111 = .ok (.invokevirtual 101, 3) := by decide +kernel
theorem d_M_chosen_114 : decode b_M_chosen 114 = .ok (.isub, 1) := by decide +kernel
theorem d_M_chosen_115 : decode b_M_chosen 115 = .ok (.iload_n 3, 1) := by decide +kernel
theorem d_M_chosen_116 : decode b_M_chosen 116 = .ok (.if_icmp .ge 7, 3) := by decide +kernel
theorem d_M_chosen_119 : decode b_M_chosen 119 = .ok (.iconst (-1), 1) := by decide +kernel
theorem d_M_chosen_120 : decode b_M_chosen 120 = .ok (.goto 4, 3) := by decide +kernel
theorem d_M_chosen_123 : decode b_M_chosen 123 = .ok (.iload_n 2, 1) := by decide +kernel
theorem d_M_chosen_124 : decode b_M_chosen 124 = .ok (.ireturn, 1) := by decide +kernel
theorem d_M_headless_0 : decode b_M_headless 0 = .ok (.aload_n 0, 1) := by decide +kernel
theorem d_M_headless_1 : decode b_M_headless 1 = .ok (.getfield 32, 3) := by decide +kernel
theorem d_M_headless_4 : decode b_M_headless 4 = .ok (.ifCond .lt 18, 3) := by decide +kernel
theorem d_M_headless_7 : decode b_M_headless 7 = .ok (.aload_n 0, 1) := by decide +kernel
theorem d_M_headless_8 : decode b_M_headless 8 = .ok (.aload_n 0, 1) := by decide +kernel
theorem d_M_headless_9 : decode b_M_headless 9 = .ok (.getfield 32, 3) := by decide +kernel
theorem d_M_headless_12 : decode b_M_headless 12 = .ok (.invokevirtual 101, 3) := by decide +kernel
theorem d_M_headless_15 : decode b_M_headless 15 = .ok (.aload_n 0, 1) := by decide +kernel
theorem d_M_headless_16 : decode b_M_headless 16 = .ok (.getfield 48, 3) := by decide +kernel
theorem d_M_headless_19 : decode b_M_headless 19 = .ok (.if_icmp .ne 7, 3) := by decide +kernel
theorem d_M_headless_22 : decode b_M_headless 22 = .ok (.iconst 1, 1) := by decide +kernel
theorem d_M_headless_23 : decode b_M_headless 23 = .ok (.goto 4, 3) := by decide +kernel
theorem d_M_headless_26 : decode b_M_headless 26 = .ok (.iconst 0, 1) := by decide +kernel
theorem d_M_headless_27 : decode b_M_headless 27 = .ok (.ireturn, 1) := by decide +kernel
theorem d_M_neededOf_0 : decode b_M_neededOf 0 = .ok (.iconst 0, 1) := by decide +kernel
theorem d_M_neededOf_1 : decode b_M_neededOf 1 = .ok (.istore_n 2, 1) := by decide +kernel
theorem d_M_neededOf_2 : decode b_M_neededOf 2 = .ok (.iload_n 1, 1) := by decide +kernel
theorem d_M_neededOf_3 : decode b_M_neededOf 3 = .ok (.aload_n 0, 1) := by decide +kernel
theorem d_M_neededOf_4 : decode b_M_neededOf 4 = .ok (.getfield 48, 3) := by decide +kernel
theorem d_M_neededOf_7 : decode b_M_neededOf 7 = .ok (.imul, 1) := by decide +kernel
theorem d_M_neededOf_8 : decode b_M_neededOf 8 = .ok (.istore_n 3, 1) := by decide +kernel
theorem d_M_neededOf_9 : decode b_M_neededOf 9 = .ok (.iload_n 3, 1) := by decide +kernel
theorem d_M_neededOf_10 : decode b_M_neededOf 10 = .ok (.iload_n 1, 1) := by decide +kernel
theorem d_M_neededOf_11 : decode b_M_neededOf 11 = .ok (.aload_n 0, 1) := by decide +kernel
theorem d_M_neededOf_12 : decode b_M_neededOf 12 = .ok (.getfield 48, 3) := by decide +kernel
theorem d_M_neededOf_15 : decode b_M_neededOf 15 = .ok (.imul, 1) := by decide +kernel
theorem d_M_neededOf_16 : decode b_M_neededOf 16 = .ok (.aload_n 0, 1) := by decide +kernel
theorem d_M_neededOf_17 : decode b_M_neededOf 17 = .ok (.getfield 48, 3) := by decide +kernel
theorem d_M_neededOf_20 : decode b_M_neededOf 20 = .ok (.iadd, 1) := by decide +kernel
theorem d_M_neededOf_21 : decode b_M_neededOf 21 = .ok (.if_icmp .ge 25, 3) := by decide +kernel
theorem d_M_neededOf_24 : decode b_M_neededOf 24 = .ok (.aload_n 0, 1) := by decide +kernel
theorem d_M_neededOf_25 : decode b_M_neededOf 25 = .ok (.iload_n 3, 1) := by decide +kernel
theorem d_M_neededOf_26 : decode b_M_neededOf 26 = .ok (.invokevirtual 98, 3) := by decide +kernel
theorem d_M_neededOf_29 : decode b_M_neededOf 29 = .ok (.ifCond .eq 9, 3) := by decide +kernel
theorem d_M_neededOf_32 : decode b_M_neededOf 32 = .ok (.iload_n 2, 1) := by decide +kernel
theorem d_M_neededOf_33 : decode b_M_neededOf 33 = .ok (.iconst 1, 1) := by decide +kernel
theorem d_M_neededOf_34 : decode b_M_neededOf 34 = .ok (.iadd, 1) := by decide +kernel
theorem d_M_neededOf_35 : decode b_M_neededOf 35 = .ok (.goto 4, 3) := by decide +kernel
theorem d_M_neededOf_38 : decode b_M_neededOf 38 = .ok (.iload_n 2, 1) := by decide +kernel
theorem d_M_neededOf_39 : decode b_M_neededOf 39 = .ok (.istore_n 2, 1) := by decide +kernel
theorem d_M_neededOf_40 : decode b_M_neededOf 40 = .ok (.iinc 3 1, 3) := by decide +kernel
theorem d_M_neededOf_43 : decode b_M_neededOf 43 = .ok (.goto (-34), 3) := by decide +kernel
theorem d_M_neededOf_46 : decode b_M_neededOf 46 = .ok (.iload_n 2, 1) := by decide +kernel
theorem d_M_neededOf_47 : decode b_M_neededOf 47 = .ok (.ireturn, 1) := by decide +kernel
theorem d_M_isNeeded_0 : decode b_M_isNeeded 0 = .ok (.aload_n 0, 1) := by decide +kernel
theorem d_M_isNeeded_1 : decode b_M_isNeeded 1 = .ok (.getfield 16, 3) := by decide +kernel
theorem d_M_isNeeded_4 : decode b_M_isNeeded 4 = .ok (.iload_n 1, 1) := by decide +kernel
theorem d_M_isNeeded_5 : decode b_M_isNeeded 5 = .ok (.baload, 1) := by decide +kernel
theorem d_M_isNeeded_6 : decode b_M_isNeeded 6 = .ok (.ifCond .eq 17, 3) := by decide +kernel
theorem d_M_isNeeded_9 : decode b_M_isNeeded 9 = .ok (.aload_n 0, 1) := by decide +kernel
theorem d_M_isNeeded_10 : decode b_M_isNeeded 10 = .ok (.aload_n 0, 1) := by decide +kernel
theorem d_M_isNeeded_11 : decode b_M_isNeeded 11 = .ok (.getfield 23, 3) := by decide +kernel
theorem d_M_isNeeded_14 : decode b_M_isNeeded 14 = .ok (.iload_n 1, 1) := by decide +kernel
theorem d_M_isNeeded_15 : decode b_M_isNeeded 15 = .ok (.iaload, 1) := by decide +kernel
theorem d_M_isNeeded_16 : decode b_M_isNeeded 16 = .ok (.invokevirtual 94, 3) := by decide +kernel
theorem d_M_isNeeded_19 : decode b_M_isNeeded 19 = .ok (.iload_n 1, 1) := by decide +kernel
theorem d_M_isNeeded_20 : decode b_M_isNeeded 20 = .ok (.if_icmp .eq 5, 3) := by decide +kernel
theorem d_M_isNeeded_23 : decode b_M_isNeeded 23 = .ok (.iconst 0, 1) := by decide +kernel
theorem d_M_isNeeded_24 : decode b_M_isNeeded 24 = .ok (.ireturn, 1) := by decide +kernel
theorem d_M_isNeeded_25 : decode b_M_isNeeded 25 = .ok (.iconst 0, 1) := by decide +kernel
theorem d_M_isNeeded_26 : decode b_M_isNeeded 26 = .ok (.istore_n 2, 1) := by decide +kernel
theorem d_M_isNeeded_27 : decode b_M_isNeeded 27 = .ok (.iconst 0, 1) := by decide +kernel
theorem d_M_isNeeded_28 : decode b_M_isNeeded 28 = .ok (.istore_n 3, 1) := by decide +kernel
theorem d_M_isNeeded_29 : decode b_M_isNeeded 29 = .ok (.iload_n 3, 1) := by decide +kernel
theorem d_M_isNeeded_30 : decode b_M_isNeeded 30 = .ok (.aload_n 0, 1) := by decide +kernel
theorem d_M_isNeeded_31 : decode b_M_isNeeded 31 = .ok (.getfield 51, 3) := by decide +kernel
theorem d_M_isNeeded_34 : decode b_M_isNeeded 34 = .ok (.if_icmp .ge 48, 3) := by decide +kernel
theorem d_M_isNeeded_37 : decode b_M_isNeeded 37 = .ok (.iload_n 2, 1) := by decide +kernel
theorem d_M_isNeeded_38 : decode b_M_isNeeded 38 = .ok (.ifCond .ne 32, 3) := by decide +kernel
theorem d_M_isNeeded_41 : decode b_M_isNeeded 41 = .ok (.iload_n 3, 1) := by decide +kernel
theorem d_M_isNeeded_42 : decode b_M_isNeeded 42 = .ok (.iload_n 1, 1) := by decide +kernel
theorem d_M_isNeeded_43 : decode b_M_isNeeded 43 = .ok (.if_icmp .eq 31, 3) := by decide +kernel
theorem d_M_isNeeded_46 : decode b_M_isNeeded 46 = .ok (.aload_n 0, 1) := by decide +kernel
theorem d_M_isNeeded_47 : decode b_M_isNeeded 47 = .ok (.getfield 16, 3) := by decide +kernel
theorem d_M_isNeeded_50 : decode b_M_isNeeded 50 = .ok (.iload_n 3, 1) := by decide +kernel
theorem d_M_isNeeded_51 : decode b_M_isNeeded 51 = .ok (.baload, 1) := by decide +kernel
theorem d_M_isNeeded_52 : decode b_M_isNeeded 52 = .ok (.ifCond .eq 22, 3) := by decide +kernel
theorem d_M_isNeeded_55 : decode b_M_isNeeded 55 = .ok (.aload_n 0, 1) := by decide +kernel
theorem d_M_isNeeded_56 : decode b_M_isNeeded 56 = .ok (.getfield 23, 3) := by decide +kernel
theorem d_M_isNeeded_59 : decode b_M_isNeeded 59 = .ok (.iload_n 3, 1) := by decide +kernel
theorem d_M_isNeeded_60 : decode b_M_isNeeded 60 = .ok (.iaload, 1) := by decide +kernel
theorem d_M_isNeeded_61 : decode b_M_isNeeded 61 = .ok (.aload_n 0, 1) := by decide +kernel
theorem d_M_isNeeded_62 : decode b_M_isNeeded 62 = .ok (.getfield 23, 3) := by decide +kernel
theorem d_M_isNeeded_65 : decode b_M_isNeeded 65 = .ok (.iload_n 1, 1) := by decide +kernel
theorem d_M_isNeeded_66 : decode b_M_isNeeded 66 = .ok (.iaload, 1) := by decide +kernel
theorem d_M_isNeeded_67 : decode b_M_isNeeded 67 = .ok (.if_icmp .ne 7, 3) := by decide +kernel
theorem d_M_isNeeded_70 : decode b_M_isNeeded 70 = .ok (.iconst 1, 1) := by decide +kernel
theorem d_M_isNeeded_71 : decode b_M_isNeeded 71 = .ok (.goto 4, 3) := by decide +kernel
theorem d_M_isNeeded_74 : decode b_M_isNeeded 74 = .ok (.iconst 0, 1) := by decide +kernel
theorem d_M_isNeeded_75 : decode b_M_isNeeded 75 = .ok (.istore_n 2, 1) := by decide +kernel
theorem d_M_isNeeded_76 : decode b_M_isNeeded 76 = .ok (.iinc 3 1, 3) := by decide +kernel
theorem d_M_isNeeded_79 : decode b_M_isNeeded 79 = .ok (.goto (-50), 3) := by decide +kernel
theorem d_M_isNeeded_82 : decode b_M_isNeeded 82 = .ok (.aload_n 0, 1) := by decide +kernel
theorem d_M_isNeeded_83 : decode b_M_isNeeded 83 = .ok (.getfield 26, 3) := by decide +kernel
theorem d_M_isNeeded_86 : decode b_M_isNeeded 86 = .ok (.iload_n 1, 1) := by decide +kernel
theorem d_M_isNeeded_87 : decode b_M_isNeeded 87 = .ok (.iaload, 1) := by decide +kernel
theorem d_M_isNeeded_88 : decode b_M_isNeeded 88 = .ok (.iconst 1, 1) := by decide +kernel
theorem d_M_isNeeded_89 : decode b_M_isNeeded 89 = .ok (.if_icmp .eq 7, 3) := by decide +kernel
theorem d_M_isNeeded_92 : decode b_M_isNeeded 92 = .ok (.iload_n 2, 1) := by decide +kernel
theorem d_M_isNeeded_93 : decode b_M_isNeeded 93 = .ok (.ifCond .eq 7, 3) := by decide +kernel
theorem d_M_isNeeded_96 : decode b_M_isNeeded 96 = .ok (.iconst 1, 1) := by decide +kernel
theorem d_M_isNeeded_97 : decode b_M_isNeeded 97 = .ok (.goto 4, 3) := by decide +kernel
theorem d_M_isNeeded_100 : decode b_M_isNeeded 100 = .ok (.iconst 0, 1) := by decide +kernel
theorem d_M_isNeeded_101 : decode b_M_isNeeded 101 = .ok (.ireturn, 1) := by decide +kernel
theorem d_M_latest_0 : decode b_M_latest 0 = .ok (.iconst (-1), 1) := by decide +kernel
theorem d_M_latest_1 : decode b_M_latest 1 = .ok (.istore_n 2, 1) := by decide +kernel
theorem d_M_latest_2 : decode b_M_latest 2 = .ok (.iconst 0, 1) := by decide +kernel
theorem d_M_latest_3 : decode b_M_latest 3 = .ok (.istore_n 3, 1) := by decide +kernel
theorem d_M_latest_4 : decode b_M_latest 4 = .ok (.iload_n 3, 1) := by decide +kernel
theorem d_M_latest_5 : decode b_M_latest 5 = .ok (.aload_n 0, 1) := by decide +kernel
theorem d_M_latest_6 : decode b_M_latest 6 = .ok (.getfield 51, 3) := by decide +kernel
theorem d_M_latest_9 : decode b_M_latest 9 = .ok (.if_icmp .ge 43, 3) := by decide +kernel
theorem d_M_latest_12 : decode b_M_latest 12 = .ok (.aload_n 0, 1) := by decide +kernel
theorem d_M_latest_13 : decode b_M_latest 13 = .ok (.getfield 16, 3) := by decide +kernel
theorem d_M_latest_16 : decode b_M_latest 16 = .ok (.iload_n 3, 1) := by decide +kernel
theorem d_M_latest_17 : decode b_M_latest 17 = .ok (.baload, 1) := by decide +kernel
theorem d_M_latest_18 : decode b_M_latest 18 = .ok (.ifCond .eq 28, 3) := by decide +kernel
theorem d_M_latest_21 : decode b_M_latest 21 = .ok (.aload_n 0, 1) := by decide +kernel
theorem d_M_latest_22 : decode b_M_latest 22 = .ok (.getfield 23, 3) := by decide +kernel
theorem d_M_latest_25 : decode b_M_latest 25 = .ok (.iload_n 3, 1) := by decide +kernel
theorem d_M_latest_26 : decode b_M_latest 26 = .ok (.iaload, 1) := by decide +kernel
theorem d_M_latest_27 : decode b_M_latest 27 = .ok (.iload_n 1, 1) := by decide +kernel
theorem d_M_latest_28 : decode b_M_latest 28 = .ok (.if_icmp .ne 18, 3) := by decide +kernel
theorem d_M_latest_31 : decode b_M_latest 31 = .ok (.iload_n 2, 1) := by decide +kernel
theorem d_M_latest_32 : decode b_M_latest 32 = .ok (.ifCond .lt 12, 3) := by decide +kernel
theorem d_M_latest_35 : decode b_M_latest 35 = .ok (.aload_n 0, 1) := by decide +kernel
theorem d_M_latest_36 : decode b_M_latest 36 = .ok (.iload_n 3, 1) := by decide +kernel
theorem d_M_latest_37 : decode b_M_latest 37 = .ok (.iload_n 2, 1) := by decide +kernel
theorem d_M_latest_38 : decode b_M_latest 38 = .ok (.invokevirtual 90, 3) := by decide +kernel
theorem d_M_latest_41 : decode b_M_latest 41 = .ok (.ifCond .eq 5, 3) := by decide +kernel
theorem d_M_latest_44 : decode b_M_latest 44 = .ok (.iload_n 3, 1) := by decide +kernel
theorem d_M_latest_45 : decode b_M_latest 45 = .ok (.istore_n 2, 1) := by decide +kernel
theorem d_M_latest_46 : decode b_M_latest 46 = .ok (.iinc 3 1, 3) := by decide +kernel
theorem d_M_latest_49 : decode b_M_latest 49 = .ok (.goto (-45), 3) := by decide +kernel
theorem d_M_latest_52 : decode b_M_latest 52 = .ok (.iload_n 2, 1) := by decide +kernel
theorem d_M_latest_53 : decode b_M_latest 53 = .ok (.ireturn, 1) := by decide +kernel
theorem d_M_before_0 : decode b_M_before 0 = .ok (.aload_n 0, 1) := by decide +kernel
theorem d_M_before_1 : decode b_M_before 1 = .ok (.getfield 20, 3) := by decide +kernel
theorem d_M_before_4 : decode b_M_before 4 = .ok (.iload_n 1, 1) := by decide +kernel
theorem d_M_before_5 : decode b_M_before 5 = .ok (.iaload, 1) := by decide +kernel
theorem d_M_before_6 : decode b_M_before 6 = .ok (.aload_n 0, 1) := by decide +kernel
theorem d_M_before_7 : decode b_M_before 7 = .ok (.getfield 20, 3) := by decide +kernel
theorem d_M_before_10 : decode b_M_before 10 = .ok (.iload_n 2, 1) := by decide +kernel
theorem d_M_before_11 : decode b_M_before 11 = .ok (.iaload, 1) := by decide +kernel
theorem d_M_before_12 : decode b_M_before 12 = .ok (.if_icmp .eq 24, 3) := by decide +kernel
theorem d_M_before_15 : decode b_M_before 15 = .ok (.aload_n 0, 1) := by decide +kernel
theorem d_M_before_16 : decode b_M_before 16 = .ok (.getfield 20, 3) := by decide +kernel
theorem d_M_before_19 : decode b_M_before 19 = .ok (.iload_n 1, 1) := by decide +kernel
theorem d_M_before_20 : decode b_M_before 20 = .ok (.iaload, 1) := by decide +kernel
theorem d_M_before_21 : decode b_M_before 21 = .ok (.aload_n 0, 1) := by decide +kernel
theorem d_M_before_22 : decode b_M_before 22 = .ok (.getfield 20, 3) := by decide +kernel
theorem d_M_before_25 : decode b_M_before 25 = .ok (.iload_n 2, 1) := by decide +kernel
theorem d_M_before_26 : decode b_M_before 26 = .ok (.iaload, 1) := by decide +kernel
theorem d_M_before_27 : decode b_M_before 27 = .ok (.if_icmp .le 7, 3) := by decide +kernel
theorem d_M_before_30 : decode b_M_before 30 = .ok (.iconst 1, 1) := by decide +kernel
theorem d_M_before_31 : decode b_M_before 31 = .ok (.goto 4, 3) := by decide +kernel
theorem d_M_before_34 : decode b_M_before 34 = .ok (.iconst 0, 1) := by decide +kernel
theorem d_M_before_35 : decode b_M_before 35 = .ok (.ireturn, 1) := by decide +kernel
theorem d_M_before_36 : decode b_M_before 36 = .ok (.iload_n 1, 1) := by decide +kernel
theorem d_M_before_37 : decode b_M_before 37 = .ok (.aload_n 0, 1) := by decide +kernel
theorem d_M_before_38 : decode b_M_before 38 = .ok (.getfield 48, 3) := by decide +kernel
theorem d_M_before_41 : decode b_M_before 41 = .ok (.idiv, 1) := by decide +kernel
theorem d_M_before_42 : decode b_M_before 42 = .ok (.aload_n 0, 1) := by decide +kernel
theorem d_M_before_43 : decode b_M_before 43 = .ok (.getfield 32, 3) := by decide +kernel
theorem d_M_before_46 : decode b_M_before 46 = .ok (.if_icmp .ne 7, 3) := by decide +kernel
theorem d_M_before_49 : decode b_M_before 49 = .ok (.iconst 1, 1) := by decide +kernel
theorem d_M_before_50 : decode b_M_before 50 = .ok (.goto 4, 3) := by decide +kernel
theorem d_M_before_53 : decode b_M_before 53 = .ok (.iconst 0, 1) := by decide +kernel
theorem d_M_before_54 : decode b_M_before 54 = .ok (.istore_n 3, 1) := by decide +kernel
theorem d_M_before_55 : decode b_M_before 55 = .ok (.iload_n 2, 1) := by decide +kernel
theorem d_M_before_56 : decode b_M_before 56 = .ok (.aload_n 0, 1) := by decide +kernel
theorem d_M_before_57 : decode b_M_before 57 = .ok (.getfield 48, 3) := by decide +kernel
theorem d_M_before_60 : decode b_M_before 60 = .ok (.idiv, 1) := by decide +kernel
theorem d_M_before_61 : decode b_M_before 61 = .ok (.aload_n 0, 1) := by decide +kernel
theorem d_M_before_62 : decode b_M_before 62 = .ok (.getfield 32, 3) := by decide +kernel
theorem d_M_before_65 : decode b_M_before 65 = .ok (.if_icmp .ne 7, 3) := by decide +kernel
theorem d_M_before_68 : decode b_M_before 68 = .ok (.iconst 1, 1) := by decide +kernel
theorem d_M_before_69 : decode b_M_before 69 = .ok (.goto 4, 3) := by decide +kernel
theorem d_M_before_72 : decode b_M_before 72 = .ok (.iconst 0, 1) := by decide +kernel
theorem d_M_before_73 : decode b_M_before 73 = .ok (.istore 4, 2) := by decide +kernel
theorem d_M_before_75 : decode b_M_before 75 = .ok (.iload_n 3, 1) := by decide +kernel
theorem d_M_before_76 : decode b_M_before 76 = .ok (.iload 4, 2) := by decide +kernel
theorem d_M_before_78 : decode b_M_before 78 = .ok (.if_icmp .eq 7, 3) := by decide +kernel
theorem d_M_before_81 : decode b_M_before 81 = .ok (.iload_n 3, 1) := by decide +kernel
theorem d_M_before_82 : decode b_M_before 82 = .ok (.goto 13, 3) := by decide +kernel
theorem d_M_before_85 : decode b_M_before 85 = .ok (.iload_n 1, 1) := by decide +kernel
theorem d_M_before_86 : decode b_M_before 86 = .ok (.iload_n 2, 1) := by decide +kernel
theorem d_M_before_87 : decode b_M_before 87 = .ok (.if_icmp .ge 7, 3) := by decide +kernel
theorem d_M_before_90 : decode b_M_before 90 = .ok (.iconst 1, 1) := by decide +kernel
theorem d_M_before_91 : decode b_M_before 91 = .ok (.goto 4, 3) := by decide +kernel
theorem d_M_before_94 : decode b_M_before 94 = .ok (.iconst 0, 1) := by decide +kernel
theorem d_M_before_95 : decode b_M_before 95 = .ok (.ireturn, 1) := by decide +kernel
theorem d_M_clean_0 : decode b_M_clean 0 = .ok (.iconst 0, 1) := by decide +kernel
theorem d_M_clean_1 : decode b_M_clean 1 = .ok (.istore_n 2, 1) := by decide +kernel
theorem d_M_clean_2 : decode b_M_clean 2 = .ok (.iload_n 2, 1) := by decide +kernel
theorem d_M_clean_3 : decode b_M_clean 3 = .ok (.aload_n 0, 1) := by decide +kernel
theorem d_M_clean_4 : decode b_M_clean 4 = .ok (.getfield 51, 3) := by decide +kernel
theorem d_M_clean_7 : decode b_M_clean 7 = .ok (.if_icmp .ge 38, 3) := by decide +kernel
theorem d_M_clean_10 : decode b_M_clean 10 = .ok (.aload_n 0, 1) := by decide +kernel
theorem d_M_clean_11 : decode b_M_clean 11 = .ok (.getfield 29, 3) := by decide +kernel
theorem d_M_clean_14 : decode b_M_clean 14 = .ok (.iload_n 2, 1) := by decide +kernel
theorem d_M_clean_15 : decode b_M_clean 15 = .ok (.iload_n 2, 1) := by decide +kernel
theorem d_M_clean_16 : decode b_M_clean 16 = .ok (.aload_n 0, 1) := by decide +kernel
theorem d_M_clean_17 : decode b_M_clean 17 = .ok (.getfield 48, 3) := by decide +kernel
theorem d_M_clean_20 : decode b_M_clean 20 = .ok (.idiv, 1) := by decide +kernel
theorem d_M_clean_21 : decode b_M_clean 21 = .ok (.iload_n 1, 1) := by decide +kernel
theorem d_M_clean_22 : decode b_M_clean 22 = .ok (.if_icmp .ne 15, 3) := by decide +kernel
theorem d_M_clean_25 : decode b_M_clean 25 = .ok (.aload_n 0, 1) := by decide +kernel
theorem d_M_clean_26 : decode b_M_clean 26 = .ok (.iload_n 2, 1) := by decide +kernel
theorem d_M_clean_27 : decode b_M_clean 27 = .ok (.invokevirtual 98, 3) := by decide +kernel
theorem d_M_clean_30 : decode b_M_clean 30 = .ok (.ifCond .eq 7, 3) := by decide +kernel
theorem d_M_clean_33 : decode b_M_clean 33 = .ok (.iconst 1, 1) := by decide +kernel
theorem d_M_clean_34 : decode b_M_clean 34 = .ok (.goto 4, 3) := by decide +kernel
theorem d_M_clean_37 : decode b_M_clean 37 = .ok (.iconst 0, 1) := by decide +kernel
theorem d_M_clean_38 : decode b_M_clean 38 = .ok (.bastore, 1) := by decide +kernel
theorem d_M_clean_39 : decode b_M_clean 39 = .ok (.iinc 2 1, 3) := by decide +kernel
theorem d_M_clean_42 : decode b_M_clean 42 = .ok (.goto (-40), 3) := by decide +kernel
theorem d_M_clean_45 : decode b_M_clean 45 = .ok (.aload_n 0, 1) := by decide +kernel
theorem d_M_clean_46 : decode b_M_clean 46 = .ok (.invokevirtual 107, 3) := by decide +kernel
theorem d_M_clean_49 : decode b_M_clean 49 = .ok (.ifCond .eq 11, 3) := by decide +kernel
theorem d_M_clean_52 : decode b_M_clean 52 = .ok (.aload_n 0, 1) := by decide +kernel
theorem d_M_clean_53 : decode b_M_clean 53 = .ok (.aload_n 0, 1) := by decide +kernel
theorem d_M_clean_54 : decode b_M_clean 54 = .ok (.invokevirtual 127, 3) := by decide +kernel
theorem d_M_clean_57 : decode b_M_clean 57 = .ok (.putfield 32, 3) := by decide +kernel
theorem d_M_clean_60 : decode b_M_clean 60 = .ok (.iconst 0, 1) := by decide +kernel
theorem d_M_clean_61 : decode b_M_clean 61 = .ok (.istore_n 2, 1) := by decide +kernel
theorem d_M_clean_62 : decode b_M_clean 62 = .ok (.iload_n 2, 1) := by decide +kernel
theorem d_M_clean_63 : decode b_M_clean 63 = .ok (.aload_n 0, 1) := by decide +kernel
theorem d_M_clean_64 : decode b_M_clean 64 = .ok (.getfield 51, 3) := by decide +kernel
theorem d_M_clean_67 : decode b_M_clean 67 = .ok (.if_icmp .ge 28, 3) := by decide +kernel
theorem d_M_clean_70 : decode b_M_clean 70 = .ok (.aload_n 0, 1) := by decide +kernel
theorem d_M_clean_71 : decode b_M_clean 71 = .ok (.getfield 29, 3) := by decide +kernel
theorem d_M_clean_74 : decode b_M_clean 74 = .ok (.iload_n 2, 1) := by decide +kernel
theorem d_M_clean_75 : decode b_M_clean 75 = .ok (.baload, 1) := by decide +kernel
theorem d_M_clean_76 : decode b_M_clean 76 = .ok (.ifCond .eq 13, 3) := by decide +kernel
theorem d_M_clean_79 : decode b_M_clean 79 = .ok (.aload_n 0, 1) := by decide +kernel
theorem d_M_clean_80 : decode b_M_clean 80 = .ok (.iload_n 2, 1) := by decide +kernel
theorem d_M_clean_81 : decode b_M_clean 81 = .ok (.invokevirtual 130, 3) := by decide +kernel
theorem d_M_clean_84 : decode b_M_clean 84 = .ok (.ifCond .ne 5, 3) := by decide +kernel
theorem d_M_clean_87 : decode b_M_clean 87 = .ok (.iconst 0, 1) := by decide +kernel
theorem d_M_clean_88 : decode b_M_clean 88 = .ok (.ireturn, 1) := by decide +kernel
theorem d_M_clean_89 : decode b_M_clean 89 = .ok (.iinc 2 1, 3) := by decide +kernel
theorem d_M_clean_92 : decode b_M_clean 92 = .ok (.goto (-30), 3) := by decide +kernel
theorem d_M_clean_95 : decode b_M_clean 95 = .ok (.aload_n 0, 1) := by decide +kernel
theorem d_M_clean_96 : decode b_M_clean 96 = .ok (.invokevirtual 118, 3) := by decide +kernel
theorem d_M_clean_99 : decode b_M_clean 99 = .ok (.ifCond .ne 5, 3) := by decide +kernel
theorem d_M_clean_102 : decode b_M_clean 102 = .ok (.iconst 0, 1) := by decide +kernel
theorem d_M_clean_103 : decode b_M_clean 103 = .ok (.ireturn, 1) := by decide +kernel
theorem d_M_clean_104 : decode b_M_clean 104 = .ok (.iload_n 1, 1) := by decide +kernel
theorem d_M_clean_105 : decode b_M_clean 105 = .ok (.aload_n 0, 1) := by decide +kernel
theorem d_M_clean_106 : decode b_M_clean 106 = .ok (.getfield 48, 3) := by decide +kernel
theorem d_M_clean_109 : decode b_M_clean 109 = .ok (.imul, 1) := by decide +kernel
theorem d_M_clean_110 : decode b_M_clean 110 = .ok (.istore_n 2, 1) := by decide +kernel
theorem d_M_clean_111 : decode b_M_clean 111 = .ok (.iload_n 2, 1) := by decide +kernel
theorem d_M_clean_112 : decode b_M_clean 112 = .ok (.iload_n 1, 1) := by decide +kernel
theorem d_M_clean_113 : decode b_M_clean 113 = .ok (.aload_n 0, 1) := by decide +kernel
theorem d_M_clean_114 : decode b_M_clean 114 = .ok (.getfield 48, 3) := by decide +kernel
theorem d_M_clean_117 : decode b_M_clean 117 = .ok (.imul, 1) := by decide +kernel
theorem d_M_clean_118 : decode b_M_clean 118 = .ok (.aload_n 0, 1) := by decide +kernel
theorem d_M_clean_119 : decode b_M_clean 119 = .ok (.getfield 48, 3) := by decide +kernel
theorem d_M_clean_122 : decode b_M_clean 122 = .ok (.iadd, 1) := by decide +kernel
theorem d_M_clean_123 : decode b_M_clean 123 = .ok (.if_icmp .ge 21, 3) := by decide +kernel
theorem d_M_clean_126 : decode b_M_clean 126 = .ok (.aload_n 0, 1) := by decide +kernel
theorem d_M_clean_127 : decode b_M_clean 127 = .ok (.iload_n 2, 1) := by decide +kernel
theorem d_M_clean_128 : decode b_M_clean 128 = .ok (.invokevirtual 61, 3) := by decide +kernel
theorem d_M_clean_131 : decode b_M_clean 131 = .ok (.aload_n 0, 1) := by decide +kernel
theorem d_M_clean_132 : decode b_M_clean 132 = .ok (.getfield 16, 3) := by decide +kernel
theorem d_M_clean_135 : decode b_M_clean 135 = .ok (.iload_n 2, 1) := by decide +kernel
theorem d_M_clean_136 : decode b_M_clean 136 = .ok (.iconst 0, 1) := by decide +kernel
theorem d_M_clean_137 : decode b_M_clean 137 = .ok (.bastore, 1) := by decide +kernel
theorem d_M_clean_138 : decode b_M_clean 138 = .ok (.iinc 2 1, 3) := by decide +kernel
theorem d_M_clean_141 : decode b_M_clean 141 = .ok (.goto (-30), 3) := by decide +kernel
theorem d_M_clean_144 : decode b_M_clean 144 = .ok (.iconst 1, 1) := by decide +kernel
theorem d_M_clean_145 : decode b_M_clean 145 = .ok (.ireturn, 1) := by decide +kernel
theorem d_M_lowestFree_0 : decode b_M_lowestFree 0 = .ok (.iconst (-1), 1) := by decide +kernel
theorem d_M_lowestFree_1 : decode b_M_lowestFree 1 = .ok (.istore_n 1, 1) := by decide +kernel
theorem d_M_lowestFree_2 : decode b_M_lowestFree 2 = .ok (.aload_n 0, 1) := by decide +kernel
theorem d_M_lowestFree_3 : decode b_M_lowestFree 3 = .ok (.getfield 45, 3) := by decide +kernel
theorem d_M_lowestFree_6 : decode b_M_lowestFree 6 = .ok (.iconst 1, 1) := by decide +kernel
theorem d_M_lowestFree_7 : decode b_M_lowestFree 7 = .ok (.isub, 1) := by decide +kernel
theorem d_M_lowestFree_8 : decode b_M_lowestFree 8 = .ok (.istore_n 2, 1) := by decide +kernel
theorem d_M_lowestFree_9 : decode b_M_lowestFree 9 = .ok (.iload_n 2, 1) := by decide +kernel
theorem d_M_lowestFree_10 : decode b_M_lowestFree 10 = .ok (.ifCond .lt 23, 3) := by decide +kernel
theorem d_M_lowestFree_13 : decode b_M_lowestFree 13 = .ok (.aload_n 0, 1) := by decide +kernel
theorem d_M_lowestFree_14 : decode b_M_lowestFree 14 = .ok (.iload_n 2, 1) := by decide +kernel
theorem d_M_lowestFree_15 : decode b_M_lowestFree 15 = .ok (.invokevirtual 101, 3) := by decide +kernel
theorem d_M_lowestFree_18 : decode b_M_lowestFree 18 = .ok (.ifCond .ne 7, 3) := by decide +kernel
theorem d_M_lowestFree_21 : decode b_M_lowestFree 21 = .ok (.iload_n 2, 1) := by decide +kernel
theorem d_M_lowestFree_22 : decode b_M_lowestFree 22 = .ok (.goto 4, 3) := by decide +kernel
theorem d_M_lowestFree_25 : decode b_M_lowestFree 25 = .ok (.iload_n 1, 1) := by decide +kernel
theorem d_M_lowestFree_26 : decode b_M_lowestFree 26 = .ok (.istore_n 1, 1) := by decide +kernel
theorem d_M_lowestFree_27 : decode b_M_lowestFree 27 = .ok (.iinc 2 (-1), 3) := by decide +kernel
theorem d_M_lowestFree_30 : decode b_M_lowestFree 30 = .ok (.goto (-21), 3) := by decide +kernel
theorem d_M_lowestFree_33 : decode b_M_lowestFree 33 = .ok (.iload_n 1, 1) := by decide +kernel
theorem d_M_lowestFree_34 : decode b_M_lowestFree 34 = .ok (.ireturn, 1) := by decide +kernel
