/-! static facts of fields and calls: printed by program -/
section ZFA
theorem pf_S_0 : zf_P 0 F_S 7 t_S true (.object "BitRotStore$Flash") := ⟨t_S_ok, n_S, rfl, by decide +kernel⟩
theorem pf_S_1 : zf_P 1 F_S 7 t_S true (.object "BitRotStore$Log") := ⟨t_S_ok, n_S, rfl, by decide +kernel⟩
theorem pf_S_2 : zf_P 2 F_S 7 t_S false (.boolean) := ⟨t_S_ok, n_S, rfl, by decide +kernel⟩
theorem pf_S_3 : zf_P 3 F_S 7 t_S false (.boolean) := ⟨t_S_ok, n_S, rfl, by decide +kernel⟩
theorem pf_S_4 : zf_P 4 F_S 7 t_S false (.boolean) := ⟨t_S_ok, n_S, rfl, by decide +kernel⟩
theorem pf_S_5 : zf_P 5 F_S 7 t_S false (.int) := ⟨t_S_ok, n_S, rfl, by decide +kernel⟩
theorem pf_S_6 : zf_P 6 F_S 7 t_S false (.int) := ⟨t_S_ok, n_S, rfl, by decide +kernel⟩
theorem pf_F_0 : zf_P 0 F_F 4 t_F true (.int) := ⟨t_F_ok, n_F, rfl, by decide +kernel⟩
theorem pf_F_1 : zf_P 1 F_F 4 t_F true (.array .int) := ⟨t_F_ok, n_F, rfl, by decide +kernel⟩
theorem pf_F_2 : zf_P 2 F_F 4 t_F true (.array .int) := ⟨t_F_ok, n_F, rfl, by decide +kernel⟩
theorem pf_F_3 : zf_P 3 F_F 4 t_F true (.object "BitRotStore$Code") := ⟨t_F_ok, n_F, rfl, by decide +kernel⟩
theorem pf_C_0 : zf_P 0 F_C 2 t_C true (.array .int) := ⟨t_C_ok, n_C, rfl, by decide +kernel⟩
theorem pf_C_1 : zf_P 1 F_C 2 t_C true (.array .int) := ⟨t_C_ok, n_C, rfl, by decide +kernel⟩
theorem pf_L_0 : zf_P 0 F_L 10 t_L true (.int) := ⟨t_L_ok, n_L, rfl, by decide +kernel⟩
theorem pf_L_1 : zf_P 1 F_L 10 t_L true (.int) := ⟨t_L_ok, n_L, rfl, by decide +kernel⟩
theorem pf_L_2 : zf_P 2 F_L 10 t_L true (.array .int) := ⟨t_L_ok, n_L, rfl, by decide +kernel⟩
theorem pf_L_3 : zf_P 3 F_L 10 t_L true (.array .int) := ⟨t_L_ok, n_L, rfl, by decide +kernel⟩
theorem pf_L_4 : zf_P 4 F_L 10 t_L true (.array .int) := ⟨t_L_ok, n_L, rfl, by decide +kernel⟩
theorem pf_L_5 : zf_P 5 F_L 10 t_L true (.array .boolean) := ⟨t_L_ok, n_L, rfl, by decide +kernel⟩
theorem pf_L_6 : zf_P 6 F_L 10 t_L false (.int) := ⟨t_L_ok, n_L, rfl, by decide +kernel⟩
theorem pf_L_7 : zf_P 7 F_L 10 t_L false (.int) := ⟨t_L_ok, n_L, rfl, by decide +kernel⟩
theorem pf_L_8 : zf_P 8 F_L 10 t_L true (.int) := ⟨t_L_ok, n_L, rfl, by decide +kernel⟩
theorem pf_L_9 : zf_P 9 F_L 10 t_L true (.array .boolean) := ⟨t_L_ok, n_L, rfl, by decide +kernel⟩
theorem pf_M_0 : zf_P 0 F_M 18 t_M true (.int) := ⟨t_M_ok, n_M, rfl, by decide +kernel⟩
theorem pf_M_1 : zf_P 1 F_M 18 t_M true (.int) := ⟨t_M_ok, n_M, rfl, by decide +kernel⟩
theorem pf_M_2 : zf_P 2 F_M 18 t_M true (.int) := ⟨t_M_ok, n_M, rfl, by decide +kernel⟩
theorem pf_M_3 : zf_P 3 F_M 18 t_M true (.array .int) := ⟨t_M_ok, n_M, rfl, by decide +kernel⟩
theorem pf_M_4 : zf_P 4 F_M 18 t_M true (.array .int) := ⟨t_M_ok, n_M, rfl, by decide +kernel⟩
theorem pf_M_5 : zf_P 5 F_M 18 t_M true (.array .boolean) := ⟨t_M_ok, n_M, rfl, by decide +kernel⟩
theorem pf_M_6 : zf_P 6 F_M 18 t_M true (.array .int) := ⟨t_M_ok, n_M, rfl, by decide +kernel⟩
theorem pf_M_7 : zf_P 7 F_M 18 t_M true (.array .int) := ⟨t_M_ok, n_M, rfl, by decide +kernel⟩
theorem pf_M_8 : zf_P 8 F_M 18 t_M true (.array .int) := ⟨t_M_ok, n_M, rfl, by decide +kernel⟩
theorem pf_M_9 : zf_P 9 F_M 18 t_M true (.array .boolean) := ⟨t_M_ok, n_M, rfl, by decide +kernel⟩
theorem pf_M_10 : zf_P 10 F_M 18 t_M false (.boolean) := ⟨t_M_ok, n_M, rfl, by decide +kernel⟩
theorem pf_M_11 : zf_P 11 F_M 18 t_M false (.boolean) := ⟨t_M_ok, n_M, rfl, by decide +kernel⟩
theorem pf_M_12 : zf_P 12 F_M 18 t_M false (.int) := ⟨t_M_ok, n_M, rfl, by decide +kernel⟩
theorem pf_M_13 : zf_P 13 F_M 18 t_M false (.int) := ⟨t_M_ok, n_M, rfl, by decide +kernel⟩
theorem pf_M_14 : zf_P 14 F_M 18 t_M false (.int) := ⟨t_M_ok, n_M, rfl, by decide +kernel⟩
theorem pf_M_15 : zf_P 15 F_M 18 t_M false (.int) := ⟨t_M_ok, n_M, rfl, by decide +kernel⟩
theorem pf_M_16 : zf_P 16 F_M 18 t_M false (.int) := ⟨t_M_ok, n_M, rfl, by decide +kernel⟩
theorem pf_M_17 : zf_P 17 F_M 18 t_M true (.array .int) := ⟨t_M_ok, n_M, rfl, by decide +kernel⟩
theorem gf_S_23 : zf_G R_S 23 0 0 R_S F_S 7 := ⟨i_S, rfl, by decide, zn_in (i := 190) (by decide +kernel) (by decide)⟩
theorem gf_S_32 : zf_G R_S 32 0 1 R_S F_S 7 := ⟨i_S, rfl, by decide, zn_in (i := 191) (by decide +kernel) (by decide)⟩
theorem gf_S_42 : zf_G R_S 42 1 0 R_F F_F 4 := ⟨i_F, rfl, by decide, zn_in (i := 96) (by decide +kernel) (by decide)⟩
theorem gf_S_52 : zf_G R_S 52 0 2 R_S F_S 7 := ⟨i_S, rfl, by decide, zn_in (i := 192) (by decide +kernel) (by decide)⟩
theorem gf_S_94 : zf_G R_S 94 1 2 R_F F_F 4 := ⟨i_F, rfl, by decide, zn_in (i := 100) (by decide +kernel) (by decide)⟩
theorem gf_S_113 : zf_G R_S 113 0 4 R_S F_S 7 := ⟨i_S, rfl, by decide, zn_in (i := 194) (by decide +kernel) (by decide)⟩
theorem gf_S_116 : zf_G R_S 116 0 5 R_S F_S 7 := ⟨i_S, rfl, by decide, zn_in (i := 195) (by decide +kernel) (by decide)⟩
theorem gf_S_119 : zf_G R_S 119 0 3 R_S F_S 7 := ⟨i_S, rfl, by decide, zn_in (i := 193) (by decide +kernel) (by decide)⟩
theorem gf_S_122 : zf_G R_S 122 1 1 R_F F_F 4 := ⟨i_F, rfl, by decide, zn_in (i := 98) (by decide +kernel) (by decide)⟩
theorem gf_S_125 : zf_G R_S 125 3 0 R_L F_L 10 := ⟨i_L, rfl, by decide, zn_in (i := 118) (by decide +kernel) (by decide)⟩
theorem gf_S_134 : zf_G R_S 134 3 6 R_L F_L 10 := ⟨i_L, rfl, by decide, zn_in (i := 130) (by decide +kernel) (by decide)⟩
theorem gf_S_137 : zf_G R_S 137 0 6 R_S F_S 7 := ⟨i_S, rfl, by decide, zn_in (i := 196) (by decide +kernel) (by decide)⟩
theorem gf_S_150 : zf_G R_S 150 3 7 R_L F_L 10 := ⟨i_L, rfl, by decide, zn_in (i := 132) (by decide +kernel) (by decide)⟩
theorem gf_S_162 : zf_G R_S 162 3 1 R_L F_L 10 := ⟨i_L, rfl, by decide, zn_in (i := 120) (by decide +kernel) (by decide)⟩
theorem gf_S_165 : zf_G R_S 165 3 5 R_L F_L 10 := ⟨i_L, rfl, by decide, zn_in (i := 128) (by decide +kernel) (by decide)⟩
theorem gf_S_169 : zf_G R_S 169 3 2 R_L F_L 10 := ⟨i_L, rfl, by decide, zn_in (i := 122) (by decide +kernel) (by decide)⟩
theorem gf_S_172 : zf_G R_S 172 3 3 R_L F_L 10 := ⟨i_L, rfl, by decide, zn_in (i := 124) (by decide +kernel) (by decide)⟩
theorem gf_S_175 : zf_G R_S 175 3 4 R_L F_L 10 := ⟨i_L, rfl, by decide, zn_in (i := 126) (by decide +kernel) (by decide)⟩
theorem gf_C_11 : zf_G R_C 11 2 0 R_C F_C 2 := ⟨i_C, rfl, by decide, zn_in (i := 87) (by decide +kernel) (by decide)⟩
theorem gf_C_15 : zf_G R_C 15 2 1 R_C F_C 2 := ⟨i_C, rfl, by decide, zn_in (i := 88) (by decide +kernel) (by decide)⟩
theorem gf_F_9 : zf_G R_F 9 1 2 R_F F_F 4 := ⟨i_F, rfl, by decide, zn_in (i := 99) (by decide +kernel) (by decide)⟩
theorem gf_F_18 : zf_G R_F 18 1 3 R_F F_F 4 := ⟨i_F, rfl, by decide, zn_in (i := 101) (by decide +kernel) (by decide)⟩
theorem gf_F_22 : zf_G R_F 22 1 0 R_F F_F 4 := ⟨i_F, rfl, by decide, zn_in (i := 95) (by decide +kernel) (by decide)⟩
theorem gf_F_26 : zf_G R_F 26 1 1 R_F F_F 4 := ⟨i_F, rfl, by decide, zn_in (i := 97) (by decide +kernel) (by decide)⟩
theorem gf_L_9 : zf_G R_L 9 3 0 R_L F_L 10 := ⟨i_L, rfl, by decide, zn_in (i := 117) (by decide +kernel) (by decide)⟩
theorem gf_L_15 : zf_G R_L 15 3 1 R_L F_L 10 := ⟨i_L, rfl, by decide, zn_in (i := 119) (by decide +kernel) (by decide)⟩
theorem gf_L_18 : zf_G R_L 18 3 8 R_L F_L 10 := ⟨i_L, rfl, by decide, zn_in (i := 133) (by decide +kernel) (by decide)⟩
theorem gf_L_21 : zf_G R_L 21 3 2 R_L F_L 10 := ⟨i_L, rfl, by decide, zn_in (i := 121) (by decide +kernel) (by decide)⟩
theorem gf_L_25 : zf_G R_L 25 3 3 R_L F_L 10 := ⟨i_L, rfl, by decide, zn_in (i := 123) (by decide +kernel) (by decide)⟩
theorem gf_L_28 : zf_G R_L 28 3 4 R_L F_L 10 := ⟨i_L, rfl, by decide, zn_in (i := 125) (by decide +kernel) (by decide)⟩
theorem gf_L_31 : zf_G R_L 31 3 9 R_L F_L 10 := ⟨i_L, rfl, by decide, zn_in (i := 134) (by decide +kernel) (by decide)⟩
theorem gf_L_35 : zf_G R_L 35 3 5 R_L F_L 10 := ⟨i_L, rfl, by decide, zn_in (i := 127) (by decide +kernel) (by decide)⟩
theorem gf_L_42 : zf_G R_L 42 3 6 R_L F_L 10 := ⟨i_L, rfl, by decide, zn_in (i := 129) (by decide +kernel) (by decide)⟩
theorem gf_L_45 : zf_G R_L 45 3 7 R_L F_L 10 := ⟨i_L, rfl, by decide, zn_in (i := 131) (by decide +kernel) (by decide)⟩
theorem gf_M_7 : zf_G R_M 7 4 3 R_M F_M 18 := ⟨i_M, rfl, by decide, zn_in (i := 467) (by decide +kernel) (by decide)⟩
theorem gf_M_13 : zf_G R_M 13 4 4 R_M F_M 18 := ⟨i_M, rfl, by decide, zn_in (i := 468) (by decide +kernel) (by decide)⟩
theorem gf_M_16 : zf_G R_M 16 4 5 R_M F_M 18 := ⟨i_M, rfl, by decide, zn_in (i := 469) (by decide +kernel) (by decide)⟩
theorem gf_M_20 : zf_G R_M 20 4 6 R_M F_M 18 := ⟨i_M, rfl, by decide, zn_in (i := 470) (by decide +kernel) (by decide)⟩
theorem gf_M_23 : zf_G R_M 23 4 7 R_M F_M 18 := ⟨i_M, rfl, by decide, zn_in (i := 471) (by decide +kernel) (by decide)⟩
theorem gf_M_26 : zf_G R_M 26 4 8 R_M F_M 18 := ⟨i_M, rfl, by decide, zn_in (i := 472) (by decide +kernel) (by decide)⟩
theorem gf_M_29 : zf_G R_M 29 4 9 R_M F_M 18 := ⟨i_M, rfl, by decide, zn_in (i := 473) (by decide +kernel) (by decide)⟩
theorem gf_M_32 : zf_G R_M 32 4 12 R_M F_M 18 := ⟨i_M, rfl, by decide, zn_in (i := 476) (by decide +kernel) (by decide)⟩
theorem gf_M_36 : zf_G R_M 36 4 13 R_M F_M 18 := ⟨i_M, rfl, by decide, zn_in (i := 477) (by decide +kernel) (by decide)⟩
theorem gf_M_39 : zf_G R_M 39 4 14 R_M F_M 18 := ⟨i_M, rfl, by decide, zn_in (i := 478) (by decide +kernel) (by decide)⟩
theorem gf_M_42 : zf_G R_M 42 4 17 R_M F_M 18 := ⟨i_M, rfl, by decide, zn_in (i := 481) (by decide +kernel) (by decide)⟩
theorem gf_M_45 : zf_G R_M 45 4 0 R_M F_M 18 := ⟨i_M, rfl, by decide, zn_in (i := 464) (by decide +kernel) (by decide)⟩
theorem gf_M_48 : zf_G R_M 48 4 1 R_M F_M 18 := ⟨i_M, rfl, by decide, zn_in (i := 465) (by decide +kernel) (by decide)⟩
theorem gf_M_51 : zf_G R_M 51 4 2 R_M F_M 18 := ⟨i_M, rfl, by decide, zn_in (i := 466) (by decide +kernel) (by decide)⟩
theorem gf_M_65 : zf_G R_M 65 4 10 R_M F_M 18 := ⟨i_M, rfl, by decide, zn_in (i := 474) (by decide +kernel) (by decide)⟩
theorem gf_M_69 : zf_G R_M 69 4 11 R_M F_M 18 := ⟨i_M, rfl, by decide, zn_in (i := 475) (by decide +kernel) (by decide)⟩
theorem gf_M_79 : zf_G R_M 79 4 16 R_M F_M 18 := ⟨i_M, rfl, by decide, zn_in (i := 480) (by decide +kernel) (by decide)⟩
theorem gf_M_104 : zf_G R_M 104 4 15 R_M F_M 18 := ⟨i_M, rfl, by decide, zn_in (i := 479) (by decide +kernel) (by decide)⟩
theorem ck_C_41 : Cond.constant R_C 41 (300489) ∈ zn_tbl := zn_in (i := 86) (by decide +kernel) (by decide)
theorem ck_F_77 : Cond.constant R_F 77 (262143) ∈ zn_tbl := zn_in (i := 174) (by decide +kernel) (by decide)
theorem ck_L_88 : Cond.constantLong R_L 88 (2) ∈ zn_tbl := zn_in (i := 311) (by decide +kernel) (by decide)
theorem ck_M_54 : Cond.constant R_M 54 (131072) ∈ zn_tbl := zn_in (i := 452) (by decide +kernel) (by decide)
theorem ck_M_55 : Cond.constant R_M 55 (262144) ∈ zn_tbl := zn_in (i := 453) (by decide +kernel) (by decide)
theorem ck_M_56 : Cond.constant R_M 56 (300489) ∈ zn_tbl := zn_in (i := 454) (by decide +kernel) (by decide)
theorem ck_M_60 : Cond.constant R_M 60 (262143) ∈ zn_tbl := zn_in (i := 463) (by decide +kernel) (by decide)
theorem ck_JI_265 : Cond.constant R_JI 265 (1431655765) ∈ zn_tbl := zn_in (i := 236) (by decide +kernel) (by decide)
theorem ck_JI_266 : Cond.constant R_JI 266 (858993459) ∈ zn_tbl := zn_in (i := 237) (by decide +kernel) (by decide)
theorem ck_JI_267 : Cond.constant R_JI 267 (252645135) ∈ zn_tbl := zn_in (i := 238) (by decide +kernel) (by decide)
theorem mt_S_ini : zf_M y_S_ini b_S_ini 5 none 2 := ⟨zn_in (i := 55) (by decide +kernel) (by decide), zn_in (i := 42) (by decide +kernel) (by decide), by decide, by decide +kernel⟩
theorem vt_S_ini : Cond.instanceMethod y_S_ini ∈ zn_tbl ∧ y_S_ini.name = "<init>" := ⟨zn_in (i := 54) (by decide +kernel) (by decide), rfl⟩
theorem mt_F_ini : zf_M y_F_ini b_F_ini 2 none 1 := ⟨zn_in (i := 69) (by decide +kernel) (by decide), zn_in (i := 44) (by decide +kernel) (by decide), by decide, by decide +kernel⟩
theorem vt_F_ini : Cond.instanceMethod y_F_ini ∈ zn_tbl ∧ y_F_ini.name = "<init>" := ⟨zn_in (i := 68) (by decide +kernel) (by decide), rfl⟩
theorem mt_C_ini : zf_M y_C_ini b_C_ini 4 none 0 := ⟨zn_in (i := 75) (by decide +kernel) (by decide), zn_in (i := 45) (by decide +kernel) (by decide), by decide, by decide +kernel⟩
theorem vt_C_ini : Cond.instanceMethod y_C_ini ∈ zn_tbl ∧ y_C_ini.name = "<init>" := ⟨zn_in (i := 74) (by decide +kernel) (by decide), rfl⟩
theorem mt_JA_fill : zf_M y_JA_fill b_JA_fill 4 none 2 := ⟨zn_in (i := 79) (by decide +kernel) (by decide), zn_in (i := 46) (by decide +kernel) (by decide), by decide, by decide +kernel⟩
theorem vt_JA_fill : Cond.static y_JA_fill ∈ zn_tbl := zn_in (i := 78) (by decide +kernel) (by decide)
theorem mt_C_fold : zf_M y_C_fold b_C_fold 3 (some .int) 1 := ⟨zn_in (i := 82) (by decide +kernel) (by decide), zn_in (i := 45) (by decide +kernel) (by decide), by decide, by decide +kernel⟩
theorem vt_C_fold : Cond.static y_C_fold ∈ zn_tbl := zn_in (i := 81) (by decide +kernel) (by decide)
theorem mt_C_timesX : zf_M y_C_timesX b_C_timesX 2 (some .int) 1 := ⟨zn_in (i := 85) (by decide +kernel) (by decide), zn_in (i := 45) (by decide +kernel) (by decide), by decide, by decide +kernel⟩
theorem vt_C_timesX : Cond.static y_C_timesX ∈ zn_tbl := zn_in (i := 84) (by decide +kernel) (by decide)
theorem mt_L_ini : zf_M y_L_ini b_L_ini 3 none 2 := ⟨zn_in (i := 115) (by decide +kernel) (by decide), zn_in (i := 47) (by decide +kernel) (by decide), by decide, by decide +kernel⟩
theorem vt_L_ini : Cond.instanceMethod y_L_ini ∈ zn_tbl ∧ y_L_ini.name = "<init>" := ⟨zn_in (i := 114) (by decide +kernel) (by decide), rfl⟩
theorem mt_S_init : zf_M y_S_init b_S_init 1 none 0 := ⟨zn_in (i := 160) (by decide +kernel) (by decide), zn_in (i := 42) (by decide +kernel) (by decide), by decide, by decide +kernel⟩
theorem vt_S_init : zf_V y_S_init := ⟨zn_in (i := 158) (by decide +kernel) (by decide), zn_in (i := 159) (by decide +kernel) (by decide)⟩
theorem mt_S_powerUp : zf_M y_S_powerUp b_S_powerUp 1 none 0 := ⟨zn_in (i := 164) (by decide +kernel) (by decide), zn_in (i := 42) (by decide +kernel) (by decide), by decide, by decide +kernel⟩
theorem vt_S_powerUp : zf_V y_S_powerUp := ⟨zn_in (i := 163) (by decide +kernel) (by decide), zn_in (i := 0) (by decide +kernel) (by decide)⟩
theorem mt_F_erasePages : zf_M y_F_erasePages b_F_erasePages 4 none 2 := ⟨zn_in (i := 168) (by decide +kernel) (by decide), zn_in (i := 44) (by decide +kernel) (by decide), by decide, by decide +kernel⟩
theorem vt_F_erasePages : zf_V y_F_erasePages := ⟨zn_in (i := 166) (by decide +kernel) (by decide), zn_in (i := 167) (by decide +kernel) (by decide)⟩
theorem mt_F_loadErased : zf_M y_F_loadErased b_F_loadErased 1 none 0 := ⟨zn_in (i := 172) (by decide +kernel) (by decide), zn_in (i := 44) (by decide +kernel) (by decide), by decide, by decide +kernel⟩
theorem vt_F_loadErased : zf_V y_F_loadErased := ⟨zn_in (i := 171) (by decide +kernel) (by decide), zn_in (i := 1) (by decide +kernel) (by decide)⟩
theorem mt_F_writeSeen : zf_M y_F_writeSeen b_F_writeSeen 2 none 1 := ⟨zn_in (i := 178) (by decide +kernel) (by decide), zn_in (i := 44) (by decide +kernel) (by decide), by decide, by decide +kernel⟩
theorem vt_F_writeSeen : zf_V y_F_writeSeen := ⟨zn_in (i := 176) (by decide +kernel) (by decide), zn_in (i := 177) (by decide +kernel) (by decide)⟩
theorem mt_L_forgetAll : zf_M y_L_forgetAll b_L_forgetAll 2 none 0 := ⟨zn_in (i := 185) (by decide +kernel) (by decide), zn_in (i := 47) (by decide +kernel) (by decide), by decide, by decide +kernel⟩
theorem vt_L_forgetAll : zf_V y_L_forgetAll := ⟨zn_in (i := 183) (by decide +kernel) (by decide), zn_in (i := 184) (by decide +kernel) (by decide)⟩
theorem mt_L_forgetBlock : zf_M y_L_forgetBlock b_L_forgetBlock 3 none 1 := ⟨zn_in (i := 189) (by decide +kernel) (by decide), zn_in (i := 47) (by decide +kernel) (by decide), by decide, by decide +kernel⟩
theorem vt_L_forgetBlock : zf_V y_L_forgetBlock := ⟨zn_in (i := 187) (by decide +kernel) (by decide), zn_in (i := 188) (by decide +kernel) (by decide)⟩
theorem mt_S_mount : zf_M y_S_mount b_S_mount 1 (some .int) 0 := ⟨zn_in (i := 216) (by decide +kernel) (by decide), zn_in (i := 42) (by decide +kernel) (by decide), by decide, by decide +kernel⟩
theorem vt_S_mount : zf_V y_S_mount := ⟨zn_in (i := 214) (by decide +kernel) (by decide), zn_in (i := 215) (by decide +kernel) (by decide)⟩
theorem mt_S_findPages : zf_M y_S_findPages b_S_findPages 3 (some .boolean) 0 := ⟨zn_in (i := 220) (by decide +kernel) (by decide), zn_in (i := 42) (by decide +kernel) (by decide), by decide, by decide +kernel⟩
theorem vt_S_findPages : zf_V y_S_findPages := ⟨zn_in (i := 219) (by decide +kernel) (by decide), zn_in (i := 2) (by decide +kernel) (by decide)⟩
theorem mt_F_readPage : zf_M y_F_readPage b_F_readPage 3 (some .int) 1 := ⟨zn_in (i := 224) (by decide +kernel) (by decide), zn_in (i := 44) (by decide +kernel) (by decide), by decide, by decide +kernel⟩
theorem vt_F_readPage : zf_V y_F_readPage := ⟨zn_in (i := 222) (by decide +kernel) (by decide), zn_in (i := 223) (by decide +kernel) (by decide)⟩
theorem mt_F_loadRaw : zf_M y_F_loadRaw b_F_loadRaw 2 none 1 := ⟨zn_in (i := 228) (by decide +kernel) (by decide), zn_in (i := 44) (by decide +kernel) (by decide), by decide, by decide +kernel⟩
theorem vt_F_loadRaw : zf_V y_F_loadRaw := ⟨zn_in (i := 227) (by decide +kernel) (by decide), zn_in (i := 3) (by decide +kernel) (by decide)⟩
theorem mt_F_seenZeros : zf_M y_F_seenZeros b_F_seenZeros 3 (some .int) 0 := ⟨zn_in (i := 232) (by decide +kernel) (by decide), zn_in (i := 44) (by decide +kernel) (by decide), by decide, by decide +kernel⟩
theorem vt_F_seenZeros : zf_V y_F_seenZeros := ⟨zn_in (i := 231) (by decide +kernel) (by decide), zn_in (i := 4) (by decide +kernel) (by decide)⟩
theorem mt_JI_bitCount : zf_M y_JI_bitCount b_JI_bitCount 1 (some .int) 1 := ⟨zn_in (i := 235) (by decide +kernel) (by decide), zn_in (i := 50) (by decide +kernel) (by decide), by decide, by decide +kernel⟩
theorem vt_JI_bitCount : Cond.static y_JI_bitCount ∈ zn_tbl := zn_in (i := 234) (by decide +kernel) (by decide)
theorem mt_C_mend : zf_M y_C_mend b_C_mend 6 (some .int) 1 := ⟨zn_in (i := 242) (by decide +kernel) (by decide), zn_in (i := 45) (by decide +kernel) (by decide), by decide, by decide +kernel⟩
theorem vt_C_mend : zf_V y_C_mend := ⟨zn_in (i := 240) (by decide +kernel) (by decide), zn_in (i := 241) (by decide +kernel) (by decide)⟩
theorem mt_C_remainder : zf_M y_C_remainder b_C_remainder 5 (some .int) 2 := ⟨zn_in (i := 246) (by decide +kernel) (by decide), zn_in (i := 45) (by decide +kernel) (by decide), by decide, by decide +kernel⟩
theorem vt_C_remainder : zf_V y_C_remainder := ⟨zn_in (i := 245) (by decide +kernel) (by decide), zn_in (i := 5) (by decide +kernel) (by decide)⟩
theorem mt_C_bitWith : zf_M y_C_bitWith b_C_bitWith 3 (some .int) 1 := ⟨zn_in (i := 250) (by decide +kernel) (by decide), zn_in (i := 45) (by decide +kernel) (by decide), by decide, by decide +kernel⟩
theorem vt_C_bitWith : zf_V y_C_bitWith := ⟨zn_in (i := 249) (by decide +kernel) (by decide), zn_in (i := 6) (by decide +kernel) (by decide)⟩
theorem mt_C_turn : zf_M y_C_turn b_C_turn 2 none 2 := ⟨zn_in (i := 253) (by decide +kernel) (by decide), zn_in (i := 45) (by decide +kernel) (by decide), by decide, by decide +kernel⟩
theorem vt_C_turn : Cond.static y_C_turn ∈ zn_tbl := zn_in (i := 252) (by decide +kernel) (by decide)
theorem mt_S_isReadable : zf_M y_S_isReadable b_S_isReadable 1 (some .boolean) 1 := ⟨zn_in (i := 256) (by decide +kernel) (by decide), zn_in (i := 42) (by decide +kernel) (by decide), by decide, by decide +kernel⟩
theorem vt_S_isReadable : Cond.static y_S_isReadable ∈ zn_tbl := zn_in (i := 255) (by decide +kernel) (by decide)
theorem mt_F_isRecord : zf_M y_F_isRecord b_F_isRecord 1 (some .boolean) 0 := ⟨zn_in (i := 260) (by decide +kernel) (by decide), zn_in (i := 44) (by decide +kernel) (by decide), by decide, by decide +kernel⟩
theorem vt_F_isRecord : zf_V y_F_isRecord := ⟨zn_in (i := 259) (by decide +kernel) (by decide), zn_in (i := 7) (by decide +kernel) (by decide)⟩
theorem mt_C_check : zf_M y_C_check b_C_check 2 (some .int) 1 := ⟨zn_in (i := 263) (by decide +kernel) (by decide), zn_in (i := 45) (by decide +kernel) (by decide), by decide, by decide +kernel⟩
theorem vt_C_check : Cond.static y_C_check ∈ zn_tbl := zn_in (i := 262) (by decide +kernel) (by decide)
theorem mt_S_isKey : zf_M y_S_isKey b_S_isKey 1 (some .boolean) 1 := ⟨zn_in (i := 266) (by decide +kernel) (by decide), zn_in (i := 42) (by decide +kernel) (by decide), by decide, by decide +kernel⟩
theorem vt_S_isKey : Cond.static y_S_isKey ∈ zn_tbl := zn_in (i := 265) (by decide +kernel) (by decide)
theorem mt_L_know : zf_M y_L_know b_L_know 5 none 4 := ⟨zn_in (i := 270) (by decide +kernel) (by decide), zn_in (i := 47) (by decide +kernel) (by decide), by decide, by decide +kernel⟩
theorem vt_L_know : zf_V y_L_know := ⟨zn_in (i := 268) (by decide +kernel) (by decide), zn_in (i := 269) (by decide +kernel) (by decide)⟩
theorem mt_L_findNext : zf_M y_L_findNext b_L_findNext 3 none 0 := ⟨zn_in (i := 274) (by decide +kernel) (by decide), zn_in (i := 47) (by decide +kernel) (by decide), by decide, by decide +kernel⟩
theorem vt_L_findNext : zf_V y_L_findNext := ⟨zn_in (i := 272) (by decide +kernel) (by decide), zn_in (i := 273) (by decide +kernel) (by decide)⟩
theorem mt_L_findHead : zf_M y_L_findHead b_L_findHead 2 none 0 := ⟨zn_in (i := 278) (by decide +kernel) (by decide), zn_in (i := 47) (by decide +kernel) (by decide), by decide, by decide +kernel⟩
theorem vt_L_findHead : zf_V y_L_findHead := ⟨zn_in (i := 276) (by decide +kernel) (by decide), zn_in (i := 277) (by decide +kernel) (by decide)⟩
theorem mt_L_isFree : zf_M y_L_isFree b_L_isFree 2 (some .boolean) 1 := ⟨zn_in (i := 282) (by decide +kernel) (by decide), zn_in (i := 47) (by decide +kernel) (by decide), by decide, by decide +kernel⟩
theorem vt_L_isFree : zf_V y_L_isFree := ⟨zn_in (i := 281) (by decide +kernel) (by decide), zn_in (i := 8) (by decide +kernel) (by decide)⟩
theorem mt_L_gaps : zf_M y_L_gaps b_L_gaps 4 (some .int) 1 := ⟨zn_in (i := 286) (by decide +kernel) (by decide), zn_in (i := 47) (by decide +kernel) (by decide), by decide, by decide +kernel⟩
theorem vt_L_gaps : zf_V y_L_gaps := ⟨zn_in (i := 285) (by decide +kernel) (by decide), zn_in (i := 9) (by decide +kernel) (by decide)⟩
theorem mt_L_freeBlocks : zf_M y_L_freeBlocks b_L_freeBlocks 3 (some .int) 0 := ⟨zn_in (i := 290) (by decide +kernel) (by decide), zn_in (i := 47) (by decide +kernel) (by decide), by decide, by decide +kernel⟩
theorem vt_L_freeBlocks : zf_V y_L_freeBlocks := ⟨zn_in (i := 288) (by decide +kernel) (by decide), zn_in (i := 289) (by decide +kernel) (by decide)⟩
theorem mt_S_clean : zf_M y_S_clean b_S_clean 6 (some .int) 0 := ⟨zn_in (i := 294) (by decide +kernel) (by decide), zn_in (i := 42) (by decide +kernel) (by decide), by decide, by decide +kernel⟩
theorem vt_S_clean : zf_V y_S_clean := ⟨zn_in (i := 293) (by decide +kernel) (by decide), zn_in (i := 10) (by decide +kernel) (by decide)⟩
theorem mt_L_chooseBlock : zf_M y_L_chooseBlock b_L_chooseBlock 3 (some .int) 0 := ⟨zn_in (i := 298) (by decide +kernel) (by decide), zn_in (i := 47) (by decide +kernel) (by decide), by decide, by decide +kernel⟩
theorem vt_L_chooseBlock : zf_V y_L_chooseBlock := ⟨zn_in (i := 296) (by decide +kernel) (by decide), zn_in (i := 297) (by decide +kernel) (by decide)⟩
theorem mt_L_markNeeded : zf_M y_L_markNeeded b_L_markNeeded 2 none 0 := ⟨zn_in (i := 302) (by decide +kernel) (by decide), zn_in (i := 47) (by decide +kernel) (by decide), by decide, by decide +kernel⟩
theorem vt_L_markNeeded : zf_V y_L_markNeeded := ⟨zn_in (i := 300) (by decide +kernel) (by decide), zn_in (i := 301) (by decide +kernel) (by decide)⟩
theorem mt_L_latest : zf_M y_L_latest b_L_latest 4 (some .int) 1 := ⟨zn_in (i := 306) (by decide +kernel) (by decide), zn_in (i := 47) (by decide +kernel) (by decide), by decide, by decide +kernel⟩
theorem vt_L_latest : zf_V y_L_latest := ⟨zn_in (i := 304) (by decide +kernel) (by decide), zn_in (i := 305) (by decide +kernel) (by decide)⟩
theorem mt_L_rank : zf_M y_L_rank b_L_rank 4 (some .long) 1 := ⟨zn_in (i := 310) (by decide +kernel) (by decide), zn_in (i := 47) (by decide +kernel) (by decide), by decide, by decide +kernel⟩
theorem vt_L_rank : zf_V y_L_rank := ⟨zn_in (i := 309) (by decide +kernel) (by decide), zn_in (i := 11) (by decide +kernel) (by decide)⟩
theorem mt_L_hasOther : zf_M y_L_hasOther b_L_hasOther 3 (some .boolean) 1 := ⟨zn_in (i := 315) (by decide +kernel) (by decide), zn_in (i := 47) (by decide +kernel) (by decide), by decide, by decide +kernel⟩
theorem vt_L_hasOther : zf_V y_L_hasOther := ⟨zn_in (i := 314) (by decide +kernel) (by decide), zn_in (i := 12) (by decide +kernel) (by decide)⟩
theorem mt_L_fewestMarked : zf_M y_L_fewestMarked b_L_fewestMarked 4 (some .int) 0 := ⟨zn_in (i := 319) (by decide +kernel) (by decide), zn_in (i := 47) (by decide +kernel) (by decide), by decide, by decide +kernel⟩
theorem vt_L_fewestMarked : zf_V y_L_fewestMarked := ⟨zn_in (i := 318) (by decide +kernel) (by decide), zn_in (i := 13) (by decide +kernel) (by decide)⟩
theorem mt_L_headGap : zf_M y_L_headGap b_L_headGap 2 (some .int) 0 := ⟨zn_in (i := 323) (by decide +kernel) (by decide), zn_in (i := 47) (by decide +kernel) (by decide), by decide, by decide +kernel⟩
theorem vt_L_headGap : zf_V y_L_headGap := ⟨zn_in (i := 321) (by decide +kernel) (by decide), zn_in (i := 322) (by decide +kernel) (by decide)⟩
theorem mt_L_markedPages : zf_M y_L_markedPages b_L_markedPages 4 (some .int) 1 := ⟨zn_in (i := 327) (by decide +kernel) (by decide), zn_in (i := 47) (by decide +kernel) (by decide), by decide, by decide +kernel⟩
theorem vt_L_markedPages : zf_V y_L_markedPages := ⟨zn_in (i := 325) (by decide +kernel) (by decide), zn_in (i := 326) (by decide +kernel) (by decide)⟩
theorem mt_L_openHead : zf_M y_L_openHead b_L_openHead 2 (some .boolean) 1 := ⟨zn_in (i := 331) (by decide +kernel) (by decide), zn_in (i := 47) (by decide +kernel) (by decide), by decide, by decide +kernel⟩
theorem vt_L_openHead : zf_V y_L_openHead := ⟨zn_in (i := 329) (by decide +kernel) (by decide), zn_in (i := 330) (by decide +kernel) (by decide)⟩
theorem mt_L_lowestFree : zf_M y_L_lowestFree b_L_lowestFree 2 (some .int) 0 := ⟨zn_in (i := 336) (by decide +kernel) (by decide), zn_in (i := 47) (by decide +kernel) (by decide), by decide, by decide +kernel⟩
theorem vt_L_lowestFree : zf_V y_L_lowestFree := ⟨zn_in (i := 335) (by decide +kernel) (by decide), zn_in (i := 14) (by decide +kernel) (by decide)⟩
theorem mt_S_writeToHead : zf_M y_S_writeToHead b_S_writeToHead 5 (some .int) 3 := ⟨zn_in (i := 340) (by decide +kernel) (by decide), zn_in (i := 42) (by decide +kernel) (by decide), by decide, by decide +kernel⟩
theorem vt_S_writeToHead : zf_V y_S_writeToHead := ⟨zn_in (i := 339) (by decide +kernel) (by decide), zn_in (i := 15) (by decide +kernel) (by decide)⟩
theorem mt_S_mayAct : zf_M y_S_mayAct b_S_mayAct 1 (some .boolean) 0 := ⟨zn_in (i := 345) (by decide +kernel) (by decide), zn_in (i := 42) (by decide +kernel) (by decide), by decide, by decide +kernel⟩
theorem vt_S_mayAct : zf_V y_S_mayAct := ⟨zn_in (i := 344) (by decide +kernel) (by decide), zn_in (i := 16) (by decide +kernel) (by decide)⟩
theorem mt_L_heldKeys : zf_M y_L_heldKeys b_L_heldKeys 3 (some .int) 0 := ⟨zn_in (i := 351) (by decide +kernel) (by decide), zn_in (i := 47) (by decide +kernel) (by decide), by decide, by decide +kernel⟩
theorem vt_L_heldKeys : zf_V y_L_heldKeys := ⟨zn_in (i := 349) (by decide +kernel) (by decide), zn_in (i := 350) (by decide +kernel) (by decide)⟩
theorem mt_L_isHeld : zf_M y_L_isHeld b_L_isHeld 3 (some .boolean) 1 := ⟨zn_in (i := 355) (by decide +kernel) (by decide), zn_in (i := 47) (by decide +kernel) (by decide), by decide, by decide +kernel⟩
theorem vt_L_isHeld : zf_V y_L_isHeld := ⟨zn_in (i := 353) (by decide +kernel) (by decide), zn_in (i := 354) (by decide +kernel) (by decide)⟩
theorem mt_S_put : zf_M y_S_put b_S_put 3 (some .int) 2 := ⟨zn_in (i := 359) (by decide +kernel) (by decide), zn_in (i := 42) (by decide +kernel) (by decide), by decide, by decide +kernel⟩
theorem vt_S_put : zf_V y_S_put := ⟨zn_in (i := 357) (by decide +kernel) (by decide), zn_in (i := 358) (by decide +kernel) (by decide)⟩
theorem mt_S_append : zf_M y_S_append b_S_append 5 (some .int) 3 := ⟨zn_in (i := 364) (by decide +kernel) (by decide), zn_in (i := 42) (by decide +kernel) (by decide), by decide, by decide +kernel⟩
theorem vt_S_append : zf_V y_S_append := ⟨zn_in (i := 363) (by decide +kernel) (by decide), zn_in (i := 17) (by decide +kernel) (by decide)⟩
theorem mt_F_loadRecord : zf_M y_F_loadRecord b_F_loadRecord 5 none 4 := ⟨zn_in (i := 368) (by decide +kernel) (by decide), zn_in (i := 44) (by decide +kernel) (by decide), by decide, by decide +kernel⟩
theorem vt_F_loadRecord : zf_V y_F_loadRecord := ⟨zn_in (i := 366) (by decide +kernel) (by decide), zn_in (i := 367) (by decide +kernel) (by decide)⟩
theorem mt_C_parity : zf_M y_C_parity b_C_parity 2 (some .int) 1 := ⟨zn_in (i := 372) (by decide +kernel) (by decide), zn_in (i := 45) (by decide +kernel) (by decide), by decide, by decide +kernel⟩
theorem vt_C_parity : zf_V y_C_parity := ⟨zn_in (i := 370) (by decide +kernel) (by decide), zn_in (i := 371) (by decide +kernel) (by decide)⟩
theorem mt_S_remove : zf_M y_S_remove b_S_remove 2 (some .int) 1 := ⟨zn_in (i := 376) (by decide +kernel) (by decide), zn_in (i := 42) (by decide +kernel) (by decide), by decide, by decide +kernel⟩
theorem vt_S_remove : zf_V y_S_remove := ⟨zn_in (i := 374) (by decide +kernel) (by decide), zn_in (i := 375) (by decide +kernel) (by decide)⟩
theorem mt_S_has : zf_M y_S_has b_S_has 2 (some .boolean) 1 := ⟨zn_in (i := 381) (by decide +kernel) (by decide), zn_in (i := 42) (by decide +kernel) (by decide), by decide, by decide +kernel⟩
theorem vt_S_has : zf_V y_S_has := ⟨zn_in (i := 379) (by decide +kernel) (by decide), zn_in (i := 380) (by decide +kernel) (by decide)⟩
theorem mt_S_get : zf_M y_S_get b_S_get 2 (some .int) 1 := ⟨zn_in (i := 385) (by decide +kernel) (by decide), zn_in (i := 42) (by decide +kernel) (by decide), by decide, by decide +kernel⟩
theorem vt_S_get : zf_V y_S_get := ⟨zn_in (i := 383) (by decide +kernel) (by decide), zn_in (i := 384) (by decide +kernel) (by decide)⟩
theorem mt_S_size : zf_M y_S_size b_S_size 1 (some .int) 0 := ⟨zn_in (i := 391) (by decide +kernel) (by decide), zn_in (i := 42) (by decide +kernel) (by decide), by decide, by decide +kernel⟩
theorem vt_S_size : zf_V y_S_size := ⟨zn_in (i := 389) (by decide +kernel) (by decide), zn_in (i := 390) (by decide +kernel) (by decide)⟩
theorem mt_S_rot : zf_M y_S_rot b_S_rot 3 (some .boolean) 2 := ⟨zn_in (i := 395) (by decide +kernel) (by decide), zn_in (i := 42) (by decide +kernel) (by decide), by decide, by decide +kernel⟩
theorem vt_S_rot : zf_V y_S_rot := ⟨zn_in (i := 393) (by decide +kernel) (by decide), zn_in (i := 394) (by decide +kernel) (by decide)⟩
theorem mt_F_isPage : zf_M y_F_isPage b_F_isPage 2 (some .boolean) 1 := ⟨zn_in (i := 399) (by decide +kernel) (by decide), zn_in (i := 44) (by decide +kernel) (by decide), by decide, by decide +kernel⟩
theorem vt_F_isPage : zf_V y_F_isPage := ⟨zn_in (i := 397) (by decide +kernel) (by decide), zn_in (i := 398) (by decide +kernel) (by decide)⟩
theorem mt_F_turnBit : zf_M y_F_turnBit b_F_turnBit 3 none 2 := ⟨zn_in (i := 403) (by decide +kernel) (by decide), zn_in (i := 44) (by decide +kernel) (by decide), by decide, by decide +kernel⟩
theorem vt_F_turnBit : zf_V y_F_turnBit := ⟨zn_in (i := 401) (by decide +kernel) (by decide), zn_in (i := 402) (by decide +kernel) (by decide)⟩
theorem mt_S_scrub : zf_M y_S_scrub b_S_scrub 3 (some .int) 0 := ⟨zn_in (i := 407) (by decide +kernel) (by decide), zn_in (i := 42) (by decide +kernel) (by decide), by decide, by decide +kernel⟩
theorem vt_S_scrub : zf_V y_S_scrub := ⟨zn_in (i := 405) (by decide +kernel) (by decide), zn_in (i := 406) (by decide +kernel) (by decide)⟩
theorem mt_F_loadFresh : zf_M y_F_loadFresh b_F_loadFresh 3 (some .boolean) 1 := ⟨zn_in (i := 411) (by decide +kernel) (by decide), zn_in (i := 44) (by decide +kernel) (by decide), by decide, by decide +kernel⟩
theorem vt_F_loadFresh : zf_V y_F_loadFresh := ⟨zn_in (i := 409) (by decide +kernel) (by decide), zn_in (i := 410) (by decide +kernel) (by decide)⟩
theorem mt_S_arm : zf_M y_S_arm b_S_arm 2 (some .boolean) 1 := ⟨zn_in (i := 416) (by decide +kernel) (by decide), zn_in (i := 42) (by decide +kernel) (by decide), by decide, by decide +kernel⟩
theorem vt_S_arm : zf_V y_S_arm := ⟨zn_in (i := 414) (by decide +kernel) (by decide), zn_in (i := 415) (by decide +kernel) (by decide)⟩
theorem mt_S_crashed : zf_M y_S_crashed b_S_crashed 1 (some .boolean) 0 := ⟨zn_in (i := 420) (by decide +kernel) (by decide), zn_in (i := 42) (by decide +kernel) (by decide), by decide, by decide +kernel⟩
theorem vt_S_crashed : zf_V y_S_crashed := ⟨zn_in (i := 418) (by decide +kernel) (by decide), zn_in (i := 419) (by decide +kernel) (by decide)⟩
theorem mt_S_condition : zf_M y_S_condition b_S_condition 2 (some .int) 1 := ⟨zn_in (i := 424) (by decide +kernel) (by decide), zn_in (i := 42) (by decide +kernel) (by decide), by decide, by decide +kernel⟩
theorem vt_S_condition : zf_V y_S_condition := ⟨zn_in (i := 422) (by decide +kernel) (by decide), zn_in (i := 423) (by decide +kernel) (by decide)⟩
theorem mt_S_word : zf_M y_S_word b_S_word 3 (some .int) 2 := ⟨zn_in (i := 428) (by decide +kernel) (by decide), zn_in (i := 42) (by decide +kernel) (by decide), by decide, by decide +kernel⟩
theorem vt_S_word : zf_V y_S_word := ⟨zn_in (i := 426) (by decide +kernel) (by decide), zn_in (i := 427) (by decide +kernel) (by decide)⟩
theorem mt_S_needed : zf_M y_S_needed b_S_needed 2 (some .int) 1 := ⟨zn_in (i := 432) (by decide +kernel) (by decide), zn_in (i := 42) (by decide +kernel) (by decide), by decide, by decide +kernel⟩
theorem vt_S_needed : zf_V y_S_needed := ⟨zn_in (i := 430) (by decide +kernel) (by decide), zn_in (i := 431) (by decide +kernel) (by decide)⟩
theorem mt_S_head : zf_M y_S_head b_S_head 1 (some .int) 0 := ⟨zn_in (i := 438) (by decide +kernel) (by decide), zn_in (i := 42) (by decide +kernel) (by decide), by decide, by decide +kernel⟩
theorem vt_S_head : zf_V y_S_head := ⟨zn_in (i := 436) (by decide +kernel) (by decide), zn_in (i := 437) (by decide +kernel) (by decide)⟩
theorem mt_S_acts : zf_M y_S_acts b_S_acts 1 (some .int) 0 := ⟨zn_in (i := 442) (by decide +kernel) (by decide), zn_in (i := 42) (by decide +kernel) (by decide), by decide, by decide +kernel⟩
theorem vt_S_acts : zf_V y_S_acts := ⟨zn_in (i := 440) (by decide +kernel) (by decide), zn_in (i := 441) (by decide +kernel) (by decide)⟩
theorem mt_W_cell : zf_M y_W_cell b_W_cell 2 (some .int) 2 := ⟨zn_in (i := 445) (by decide +kernel) (by decide), zn_in (i := 41) (by decide +kernel) (by decide), by decide, by decide +kernel⟩
theorem vt_W_cell : Cond.static y_W_cell ∈ zn_tbl := zn_in (i := 444) (by decide +kernel) (by decide)
theorem mt_M_ini : zf_M y_M_ini b_M_ini 5 none 2 := ⟨zn_in (i := 450) (by decide +kernel) (by decide), zn_in (i := 49) (by decide +kernel) (by decide), by decide, by decide +kernel⟩
theorem vt_M_ini : Cond.instanceMethod y_M_ini ∈ zn_tbl ∧ y_M_ini.name = "<init>" := ⟨zn_in (i := 449) (by decide +kernel) (by decide), rfl⟩
theorem mt_M_begin : zf_M y_M_begin b_M_begin 2 none 0 := ⟨zn_in (i := 458) (by decide +kernel) (by decide), zn_in (i := 49) (by decide +kernel) (by decide), by decide, by decide +kernel⟩
theorem vt_M_begin : zf_V y_M_begin := ⟨zn_in (i := 457) (by decide +kernel) (by decide), zn_in (i := 18) (by decide +kernel) (by decide)⟩
theorem mt_M_erasePage : zf_M y_M_erasePage b_M_erasePage 3 none 1 := ⟨zn_in (i := 462) (by decide +kernel) (by decide), zn_in (i := 49) (by decide +kernel) (by decide), by decide, by decide +kernel⟩
theorem vt_M_erasePage : zf_V y_M_erasePage := ⟨zn_in (i := 461) (by decide +kernel) (by decide), zn_in (i := 19) (by decide +kernel) (by decide)⟩
theorem mt_M_init : zf_M y_M_init b_M_init 1 none 0 := ⟨zn_in (i := 522) (by decide +kernel) (by decide), zn_in (i := 49) (by decide +kernel) (by decide), by decide, by decide +kernel⟩
theorem vt_M_init : zf_V y_M_init := ⟨zn_in (i := 520) (by decide +kernel) (by decide), zn_in (i := 521) (by decide +kernel) (by decide)⟩
theorem mt_M_mount : zf_M y_M_mount b_M_mount 5 (some .int) 0 := ⟨zn_in (i := 526) (by decide +kernel) (by decide), zn_in (i := 49) (by decide +kernel) (by decide), by decide, by decide +kernel⟩
theorem vt_M_mount : zf_V y_M_mount := ⟨zn_in (i := 524) (by decide +kernel) (by decide), zn_in (i := 525) (by decide +kernel) (by decide)⟩
theorem mt_M_read : zf_M y_M_read b_M_read 6 none 1 := ⟨zn_in (i := 530) (by decide +kernel) (by decide), zn_in (i := 49) (by decide +kernel) (by decide), by decide, by decide +kernel⟩
theorem vt_M_read : zf_V y_M_read := ⟨zn_in (i := 529) (by decide +kernel) (by decide), zn_in (i := 20) (by decide +kernel) (by decide)⟩
theorem mt_M_bitOf : zf_M y_M_bitOf b_M_bitOf 3 (some .int) 2 := ⟨zn_in (i := 534) (by decide +kernel) (by decide), zn_in (i := 49) (by decide +kernel) (by decide), by decide, by decide +kernel⟩
theorem vt_M_bitOf : zf_V y_M_bitOf := ⟨zn_in (i := 533) (by decide +kernel) (by decide), zn_in (i := 21) (by decide +kernel) (by decide)⟩
theorem mt_M_mends : zf_M y_M_mends b_M_mends 4 (some .boolean) 1 := ⟨zn_in (i := 538) (by decide +kernel) (by decide), zn_in (i := 49) (by decide +kernel) (by decide), by decide, by decide +kernel⟩
theorem vt_M_mends : zf_V y_M_mends := ⟨zn_in (i := 537) (by decide +kernel) (by decide), zn_in (i := 22) (by decide +kernel) (by decide)⟩
theorem mt_M_turn : zf_M y_M_turn b_M_turn 2 none 1 := ⟨zn_in (i := 542) (by decide +kernel) (by decide), zn_in (i := 49) (by decide +kernel) (by decide), by decide, by decide +kernel⟩
theorem vt_M_turn : zf_V y_M_turn := ⟨zn_in (i := 541) (by decide +kernel) (by decide), zn_in (i := 23) (by decide +kernel) (by decide)⟩
theorem mt_M_checkOf : zf_M y_M_checkOf b_M_checkOf 5 (some .int) 4 := ⟨zn_in (i := 545) (by decide +kernel) (by decide), zn_in (i := 49) (by decide +kernel) (by decide), by decide, by decide +kernel⟩
theorem vt_M_checkOf : Cond.static y_M_checkOf ∈ zn_tbl := zn_in (i := 544) (by decide +kernel) (by decide)
theorem mt_M_writtenOf : zf_M y_M_writtenOf b_M_writtenOf 4 (some .int) 1 := ⟨zn_in (i := 549) (by decide +kernel) (by decide), zn_in (i := 49) (by decide +kernel) (by decide), by decide, by decide +kernel⟩
theorem vt_M_writtenOf : zf_V y_M_writtenOf := ⟨zn_in (i := 548) (by decide +kernel) (by decide), zn_in (i := 24) (by decide +kernel) (by decide)⟩
theorem mt_M_frees : zf_M y_M_frees b_M_frees 3 (some .int) 0 := ⟨zn_in (i := 553) (by decide +kernel) (by decide), zn_in (i := 49) (by decide +kernel) (by decide), by decide, by decide +kernel⟩
theorem vt_M_frees : zf_V y_M_frees := ⟨zn_in (i := 552) (by decide +kernel) (by decide), zn_in (i := 25) (by decide +kernel) (by decide)⟩
theorem mt_M_chosen : zf_M y_M_chosen b_M_chosen 6 (some .int) 0 := ⟨zn_in (i := 557) (by decide +kernel) (by decide), zn_in (i := 49) (by decide +kernel) (by decide), by decide, by decide +kernel⟩
theorem vt_M_chosen : zf_V y_M_chosen := ⟨zn_in (i := 556) (by decide +kernel) (by decide), zn_in (i := 26) (by decide +kernel) (by decide)⟩
theorem mt_M_headless : zf_M y_M_headless b_M_headless 1 (some .boolean) 0 := ⟨zn_in (i := 561) (by decide +kernel) (by decide), zn_in (i := 49) (by decide +kernel) (by decide), by decide, by decide +kernel⟩
theorem vt_M_headless : zf_V y_M_headless := ⟨zn_in (i := 560) (by decide +kernel) (by decide), zn_in (i := 27) (by decide +kernel) (by decide)⟩
theorem mt_M_neededOf : zf_M y_M_neededOf b_M_neededOf 4 (some .int) 1 := ⟨zn_in (i := 565) (by decide +kernel) (by decide), zn_in (i := 49) (by decide +kernel) (by decide), by decide, by decide +kernel⟩
theorem vt_M_neededOf : zf_V y_M_neededOf := ⟨zn_in (i := 564) (by decide +kernel) (by decide), zn_in (i := 28) (by decide +kernel) (by decide)⟩
theorem mt_M_isNeeded : zf_M y_M_isNeeded b_M_isNeeded 4 (some .boolean) 1 := ⟨zn_in (i := 569) (by decide +kernel) (by decide), zn_in (i := 49) (by decide +kernel) (by decide), by decide, by decide +kernel⟩
theorem vt_M_isNeeded : zf_V y_M_isNeeded := ⟨zn_in (i := 568) (by decide +kernel) (by decide), zn_in (i := 29) (by decide +kernel) (by decide)⟩
theorem mt_M_latest : zf_M y_M_latest b_M_latest 4 (some .int) 1 := ⟨zn_in (i := 573) (by decide +kernel) (by decide), zn_in (i := 49) (by decide +kernel) (by decide), by decide, by decide +kernel⟩
theorem vt_M_latest : zf_V y_M_latest := ⟨zn_in (i := 572) (by decide +kernel) (by decide), zn_in (i := 30) (by decide +kernel) (by decide)⟩
theorem mt_M_before : zf_M y_M_before b_M_before 5 (some .boolean) 2 := ⟨zn_in (i := 577) (by decide +kernel) (by decide), zn_in (i := 49) (by decide +kernel) (by decide), by decide, by decide +kernel⟩
theorem vt_M_before : zf_V y_M_before := ⟨zn_in (i := 576) (by decide +kernel) (by decide), zn_in (i := 31) (by decide +kernel) (by decide)⟩
theorem mt_M_clean : zf_M y_M_clean b_M_clean 3 (some .boolean) 1 := ⟨zn_in (i := 581) (by decide +kernel) (by decide), zn_in (i := 49) (by decide +kernel) (by decide), by decide, by decide +kernel⟩
theorem vt_M_clean : zf_V y_M_clean := ⟨zn_in (i := 580) (by decide +kernel) (by decide), zn_in (i := 32) (by decide +kernel) (by decide)⟩
theorem mt_M_lowestFree : zf_M y_M_lowestFree b_M_lowestFree 3 (some .int) 0 := ⟨zn_in (i := 585) (by decide +kernel) (by decide), zn_in (i := 49) (by decide +kernel) (by decide), by decide, by decide +kernel⟩
theorem vt_M_lowestFree : zf_V y_M_lowestFree := ⟨zn_in (i := 584) (by decide +kernel) (by decide), zn_in (i := 33) (by decide +kernel) (by decide)⟩
theorem mt_M_copy : zf_M y_M_copy b_M_copy 4 (some .boolean) 1 := ⟨zn_in (i := 589) (by decide +kernel) (by decide), zn_in (i := 49) (by decide +kernel) (by decide), by decide, by decide +kernel⟩
theorem vt_M_copy : zf_V y_M_copy := ⟨zn_in (i := 588) (by decide +kernel) (by decide), zn_in (i := 34) (by decide +kernel) (by decide)⟩
theorem mt_M_act : zf_M y_M_act b_M_act 1 (some .boolean) 0 := ⟨zn_in (i := 593) (by decide +kernel) (by decide), zn_in (i := 49) (by decide +kernel) (by decide), by decide, by decide +kernel⟩
theorem vt_M_act : zf_V y_M_act := ⟨zn_in (i := 592) (by decide +kernel) (by decide), zn_in (i := 35) (by decide +kernel) (by decide)⟩
theorem mt_M_placeInHead : zf_M y_M_placeInHead b_M_placeInHead 2 (some .int) 0 := ⟨zn_in (i := 597) (by decide +kernel) (by decide), zn_in (i := 49) (by decide +kernel) (by decide), by decide, by decide +kernel⟩
theorem vt_M_placeInHead : zf_V y_M_placeInHead := ⟨zn_in (i := 596) (by decide +kernel) (by decide), zn_in (i := 36) (by decide +kernel) (by decide)⟩
theorem mt_M_heldKeys : zf_M y_M_heldKeys b_M_heldKeys 3 (some .int) 0 := ⟨zn_in (i := 601) (by decide +kernel) (by decide), zn_in (i := 49) (by decide +kernel) (by decide), by decide, by decide +kernel⟩
theorem vt_M_heldKeys : zf_V y_M_heldKeys := ⟨zn_in (i := 600) (by decide +kernel) (by decide), zn_in (i := 37) (by decide +kernel) (by decide)⟩
theorem mt_M_held : zf_M y_M_held b_M_held 3 (some .boolean) 1 := ⟨zn_in (i := 605) (by decide +kernel) (by decide), zn_in (i := 49) (by decide +kernel) (by decide), by decide, by decide +kernel⟩
theorem vt_M_held : zf_V y_M_held := ⟨zn_in (i := 604) (by decide +kernel) (by decide), zn_in (i := 38) (by decide +kernel) (by decide)⟩
theorem mt_M_put : zf_M y_M_put b_M_put 3 (some .int) 2 := ⟨zn_in (i := 609) (by decide +kernel) (by decide), zn_in (i := 49) (by decide +kernel) (by decide), by decide, by decide +kernel⟩
theorem vt_M_put : zf_V y_M_put := ⟨zn_in (i := 607) (by decide +kernel) (by decide), zn_in (i := 608) (by decide +kernel) (by decide)⟩
theorem mt_M_isKey : zf_M y_M_isKey b_M_isKey 1 (some .boolean) 1 := ⟨zn_in (i := 612) (by decide +kernel) (by decide), zn_in (i := 49) (by decide +kernel) (by decide), by decide, by decide +kernel⟩
theorem vt_M_isKey : Cond.static y_M_isKey ∈ zn_tbl := zn_in (i := 611) (by decide +kernel) (by decide)
theorem mt_M_append : zf_M y_M_append b_M_append 7 (some .int) 3 := ⟨zn_in (i := 616) (by decide +kernel) (by decide), zn_in (i := 49) (by decide +kernel) (by decide), by decide, by decide +kernel⟩
theorem vt_M_append : zf_V y_M_append := ⟨zn_in (i := 615) (by decide +kernel) (by decide), zn_in (i := 39) (by decide +kernel) (by decide)⟩
theorem mt_M_remove : zf_M y_M_remove b_M_remove 2 (some .int) 1 := ⟨zn_in (i := 620) (by decide +kernel) (by decide), zn_in (i := 49) (by decide +kernel) (by decide), by decide, by decide +kernel⟩
theorem vt_M_remove : zf_V y_M_remove := ⟨zn_in (i := 618) (by decide +kernel) (by decide), zn_in (i := 619) (by decide +kernel) (by decide)⟩
theorem mt_M_has : zf_M y_M_has b_M_has 2 (some .boolean) 1 := ⟨zn_in (i := 624) (by decide +kernel) (by decide), zn_in (i := 49) (by decide +kernel) (by decide), by decide, by decide +kernel⟩
theorem vt_M_has : zf_V y_M_has := ⟨zn_in (i := 622) (by decide +kernel) (by decide), zn_in (i := 623) (by decide +kernel) (by decide)⟩
theorem mt_M_get : zf_M y_M_get b_M_get 3 (some .int) 1 := ⟨zn_in (i := 628) (by decide +kernel) (by decide), zn_in (i := 49) (by decide +kernel) (by decide), by decide, by decide +kernel⟩
theorem vt_M_get : zf_V y_M_get := ⟨zn_in (i := 626) (by decide +kernel) (by decide), zn_in (i := 627) (by decide +kernel) (by decide)⟩
theorem mt_M_size : zf_M y_M_size b_M_size 1 (some .int) 0 := ⟨zn_in (i := 633) (by decide +kernel) (by decide), zn_in (i := 49) (by decide +kernel) (by decide), by decide, by decide +kernel⟩
theorem vt_M_size : zf_V y_M_size := ⟨zn_in (i := 631) (by decide +kernel) (by decide), zn_in (i := 632) (by decide +kernel) (by decide)⟩
theorem mt_M_rot : zf_M y_M_rot b_M_rot 3 (some .boolean) 2 := ⟨zn_in (i := 637) (by decide +kernel) (by decide), zn_in (i := 49) (by decide +kernel) (by decide), by decide, by decide +kernel⟩
theorem vt_M_rot : zf_V y_M_rot := ⟨zn_in (i := 635) (by decide +kernel) (by decide), zn_in (i := 636) (by decide +kernel) (by decide)⟩
theorem mt_M_isPage : zf_M y_M_isPage b_M_isPage 2 (some .boolean) 1 := ⟨zn_in (i := 641) (by decide +kernel) (by decide), zn_in (i := 49) (by decide +kernel) (by decide), by decide, by decide +kernel⟩
theorem vt_M_isPage : zf_V y_M_isPage := ⟨zn_in (i := 640) (by decide +kernel) (by decide), zn_in (i := 40) (by decide +kernel) (by decide)⟩
theorem mt_M_scrub : zf_M y_M_scrub b_M_scrub 5 (some .int) 0 := ⟨zn_in (i := 645) (by decide +kernel) (by decide), zn_in (i := 49) (by decide +kernel) (by decide), by decide, by decide +kernel⟩
theorem vt_M_scrub : zf_V y_M_scrub := ⟨zn_in (i := 643) (by decide +kernel) (by decide), zn_in (i := 644) (by decide +kernel) (by decide)⟩
theorem mt_M_arm : zf_M y_M_arm b_M_arm 2 (some .boolean) 1 := ⟨zn_in (i := 649) (by decide +kernel) (by decide), zn_in (i := 49) (by decide +kernel) (by decide), by decide, by decide +kernel⟩
theorem vt_M_arm : zf_V y_M_arm := ⟨zn_in (i := 647) (by decide +kernel) (by decide), zn_in (i := 648) (by decide +kernel) (by decide)⟩
theorem mt_M_crashed : zf_M y_M_crashed b_M_crashed 1 (some .boolean) 0 := ⟨zn_in (i := 653) (by decide +kernel) (by decide), zn_in (i := 49) (by decide +kernel) (by decide), by decide, by decide +kernel⟩
theorem vt_M_crashed : zf_V y_M_crashed := ⟨zn_in (i := 651) (by decide +kernel) (by decide), zn_in (i := 652) (by decide +kernel) (by decide)⟩
theorem mt_M_condition : zf_M y_M_condition b_M_condition 2 (some .int) 1 := ⟨zn_in (i := 657) (by decide +kernel) (by decide), zn_in (i := 49) (by decide +kernel) (by decide), by decide, by decide +kernel⟩
theorem vt_M_condition : zf_V y_M_condition := ⟨zn_in (i := 655) (by decide +kernel) (by decide), zn_in (i := 656) (by decide +kernel) (by decide)⟩
theorem mt_M_word : zf_M y_M_word b_M_word 3 (some .int) 2 := ⟨zn_in (i := 661) (by decide +kernel) (by decide), zn_in (i := 49) (by decide +kernel) (by decide), by decide, by decide +kernel⟩
theorem vt_M_word : zf_V y_M_word := ⟨zn_in (i := 659) (by decide +kernel) (by decide), zn_in (i := 660) (by decide +kernel) (by decide)⟩
theorem mt_M_needed : zf_M y_M_needed b_M_needed 2 (some .int) 1 := ⟨zn_in (i := 665) (by decide +kernel) (by decide), zn_in (i := 49) (by decide +kernel) (by decide), by decide, by decide +kernel⟩
theorem vt_M_needed : zf_V y_M_needed := ⟨zn_in (i := 663) (by decide +kernel) (by decide), zn_in (i := 664) (by decide +kernel) (by decide)⟩
theorem mt_M_head : zf_M y_M_head b_M_head 1 (some .int) 0 := ⟨zn_in (i := 669) (by decide +kernel) (by decide), zn_in (i := 49) (by decide +kernel) (by decide), by decide, by decide +kernel⟩
theorem vt_M_head : zf_V y_M_head := ⟨zn_in (i := 667) (by decide +kernel) (by decide), zn_in (i := 668) (by decide +kernel) (by decide)⟩
theorem mt_M_acts : zf_M y_M_acts b_M_acts 1 (some .int) 0 := ⟨zn_in (i := 673) (by decide +kernel) (by decide), zn_in (i := 49) (by decide +kernel) (by decide), by decide, by decide +kernel⟩
theorem vt_M_acts : zf_V y_M_acts := ⟨zn_in (i := 671) (by decide +kernel) (by decide), zn_in (i := 672) (by decide +kernel) (by decide)⟩
theorem ml_S_20 : Cond.methodLink R_S 20 y_F_ini ∈ zn_tbl := zn_in (i := 67) (by decide +kernel) (by decide)
theorem ml_S_29 : Cond.methodLink R_S 29 y_L_ini ∈ zn_tbl := zn_in (i := 113) (by decide +kernel) (by decide)
theorem ml_S_36 : Cond.methodLink R_S 36 y_S_init ∈ zn_tbl := zn_in (i := 157) (by decide +kernel) (by decide)
theorem ml_S_39 : Cond.methodLink R_S 39 y_S_powerUp ∈ zn_tbl := zn_in (i := 161) (by decide +kernel) (by decide)
theorem ml_S_46 : Cond.methodLink R_S 46 y_F_erasePages ∈ zn_tbl := zn_in (i := 165) (by decide +kernel) (by decide)
theorem ml_S_49 : Cond.methodLink R_S 49 y_L_forgetAll ∈ zn_tbl := zn_in (i := 182) (by decide +kernel) (by decide)
theorem ml_S_56 : Cond.methodLink R_S 56 y_S_findPages ∈ zn_tbl := zn_in (i := 217) (by decide +kernel) (by decide)
theorem ml_S_60 : Cond.methodLink R_S 60 y_L_findHead ∈ zn_tbl := zn_in (i := 275) (by decide +kernel) (by decide)
theorem ml_S_63 : Cond.methodLink R_S 63 y_L_freeBlocks ∈ zn_tbl := zn_in (i := 287) (by decide +kernel) (by decide)
theorem ml_S_67 : Cond.methodLink R_S 67 y_S_clean ∈ zn_tbl := zn_in (i := 291) (by decide +kernel) (by decide)
theorem ml_S_70 : Cond.methodLink R_S 70 y_L_heldKeys ∈ zn_tbl := zn_in (i := 348) (by decide +kernel) (by decide)
theorem ml_S_73 : Cond.methodLink R_S 73 y_S_isKey ∈ zn_tbl := zn_in (i := 360) (by decide +kernel) (by decide)
theorem ml_S_77 : Cond.methodLink R_S 77 y_S_append ∈ zn_tbl := zn_in (i := 361) (by decide +kernel) (by decide)
theorem ml_S_81 : Cond.methodLink R_S 81 y_L_isHeld ∈ zn_tbl := zn_in (i := 377) (by decide +kernel) (by decide)
theorem ml_S_84 : Cond.methodLink R_S 84 y_L_latest ∈ zn_tbl := zn_in (i := 386) (by decide +kernel) (by decide)
theorem ml_S_88 : Cond.methodLink R_S 88 y_F_readPage ∈ zn_tbl := zn_in (i := 221) (by decide +kernel) (by decide)
theorem ml_S_91 : Cond.methodLink R_S 91 y_S_isReadable ∈ zn_tbl := zn_in (i := 387) (by decide +kernel) (by decide)
theorem ml_S_98 : Cond.methodLink R_S 98 y_F_isPage ∈ zn_tbl := zn_in (i := 396) (by decide +kernel) (by decide)
theorem ml_S_101 : Cond.methodLink R_S 101 y_F_turnBit ∈ zn_tbl := zn_in (i := 400) (by decide +kernel) (by decide)
theorem ml_S_104 : Cond.methodLink R_S 104 y_F_loadFresh ∈ zn_tbl := zn_in (i := 408) (by decide +kernel) (by decide)
theorem ml_S_107 : Cond.methodLink R_S 107 y_S_mayAct ∈ zn_tbl := zn_in (i := 342) (by decide +kernel) (by decide)
theorem ml_S_110 : Cond.methodLink R_S 110 y_F_writeSeen ∈ zn_tbl := zn_in (i := 346) (by decide +kernel) (by decide)
theorem ml_S_128 : Cond.methodLink R_S 128 y_L_markNeeded ∈ zn_tbl := zn_in (i := 433) (by decide +kernel) (by decide)
theorem ml_S_131 : Cond.methodLink R_S 131 y_L_markedPages ∈ zn_tbl := zn_in (i := 434) (by decide +kernel) (by decide)
theorem ml_S_140 : Cond.methodLink R_S 140 y_L_know ∈ zn_tbl := zn_in (i := 267) (by decide +kernel) (by decide)
theorem ml_S_144 : Cond.methodLink R_S 144 y_L_findNext ∈ zn_tbl := zn_in (i := 271) (by decide +kernel) (by decide)
theorem ml_S_147 : Cond.methodLink R_S 147 y_L_openHead ∈ zn_tbl := zn_in (i := 328) (by decide +kernel) (by decide)
theorem ml_S_153 : Cond.methodLink R_S 153 y_F_loadRecord ∈ zn_tbl := zn_in (i := 365) (by decide +kernel) (by decide)
theorem ml_S_156 : Cond.methodLink R_S 156 y_S_writeToHead ∈ zn_tbl := zn_in (i := 337) (by decide +kernel) (by decide)
theorem ml_S_159 : Cond.methodLink R_S 159 y_L_chooseBlock ∈ zn_tbl := zn_in (i := 295) (by decide +kernel) (by decide)
theorem ml_S_178 : Cond.methodLink R_S 178 y_L_forgetBlock ∈ zn_tbl := zn_in (i := 347) (by decide +kernel) (by decide)
theorem ml_S_181 : Cond.methodLink R_S 181 y_L_headGap ∈ zn_tbl := zn_in (i := 341) (by decide +kernel) (by decide)
theorem ml_C_18 : Cond.methodLink R_C 18 y_JA_fill ∈ zn_tbl := zn_in (i := 77) (by decide +kernel) (by decide)
theorem ml_C_24 : Cond.methodLink R_C 24 y_C_fold ∈ zn_tbl := zn_in (i := 80) (by decide +kernel) (by decide)
theorem ml_C_28 : Cond.methodLink R_C 28 y_C_timesX ∈ zn_tbl := zn_in (i := 83) (by decide +kernel) (by decide)
theorem ml_C_31 : Cond.methodLink R_C 31 y_C_remainder ∈ zn_tbl := zn_in (i := 243) (by decide +kernel) (by decide)
theorem ml_C_35 : Cond.methodLink R_C 35 y_C_bitWith ∈ zn_tbl := zn_in (i := 247) (by decide +kernel) (by decide)
theorem ml_C_38 : Cond.methodLink R_C 38 y_C_turn ∈ zn_tbl := zn_in (i := 251) (by decide +kernel) (by decide)
theorem ml_F_17 : Cond.methodLink R_F 17 y_C_ini ∈ zn_tbl := zn_in (i := 73) (by decide +kernel) (by decide)
theorem ml_F_29 : Cond.methodLink R_F 29 y_F_loadErased ∈ zn_tbl := zn_in (i := 169) (by decide +kernel) (by decide)
theorem ml_F_32 : Cond.methodLink R_F 32 y_F_writeSeen ∈ zn_tbl := zn_in (i := 175) (by decide +kernel) (by decide)
theorem ml_F_42 : Cond.methodLink R_F 42 y_C_check ∈ zn_tbl := zn_in (i := 261) (by decide +kernel) (by decide)
theorem ml_F_46 : Cond.methodLink R_F 46 y_C_parity ∈ zn_tbl := zn_in (i := 369) (by decide +kernel) (by decide)
theorem ml_F_49 : Cond.methodLink R_F 49 y_F_loadRaw ∈ zn_tbl := zn_in (i := 225) (by decide +kernel) (by decide)
theorem ml_F_52 : Cond.methodLink R_F 52 y_F_seenZeros ∈ zn_tbl := zn_in (i := 229) (by decide +kernel) (by decide)
theorem ml_F_56 : Cond.methodLink R_F 56 y_C_mend ∈ zn_tbl := zn_in (i := 239) (by decide +kernel) (by decide)
theorem ml_F_59 : Cond.methodLinkNest R_F 59 y_S_isReadable "BitRotStore" ∈ zn_tbl := zn_in (i := 254) (by decide +kernel) (by decide)
theorem ml_F_63 : Cond.methodLink R_F 63 y_F_isRecord ∈ zn_tbl := zn_in (i := 257) (by decide +kernel) (by decide)
theorem ml_F_67 : Cond.methodLink R_F 67 y_F_readPage ∈ zn_tbl := zn_in (i := 412) (by decide +kernel) (by decide)
theorem ml_F_71 : Cond.methodLink R_F 71 y_JA_fill ∈ zn_tbl := zn_in (i := 173) (by decide +kernel) (by decide)
theorem ml_F_78 : Cond.methodLink R_F 78 y_JI_bitCount ∈ zn_tbl := zn_in (i := 233) (by decide +kernel) (by decide)
theorem ml_F_83 : Cond.methodLinkNest R_F 83 y_S_isKey "BitRotStore" ∈ zn_tbl := zn_in (i := 264) (by decide +kernel) (by decide)
theorem ml_L_38 : Cond.methodLink R_L 38 y_L_forgetBlock ∈ zn_tbl := zn_in (i := 186) (by decide +kernel) (by decide)
theorem ml_L_48 : Cond.methodLink R_L 48 y_L_isFree ∈ zn_tbl := zn_in (i := 279) (by decide +kernel) (by decide)
theorem ml_L_52 : Cond.methodLink R_L 52 y_L_gaps ∈ zn_tbl := zn_in (i := 283) (by decide +kernel) (by decide)
theorem ml_L_56 : Cond.methodLink R_L 56 y_L_latest ∈ zn_tbl := zn_in (i := 303) (by decide +kernel) (by decide)
theorem ml_L_59 : Cond.methodLink R_L 59 y_L_isHeld ∈ zn_tbl := zn_in (i := 352) (by decide +kernel) (by decide)
theorem ml_L_62 : Cond.methodLink R_L 62 y_L_rank ∈ zn_tbl := zn_in (i := 307) (by decide +kernel) (by decide)
theorem ml_L_66 : Cond.methodLink R_L 66 y_L_hasOther ∈ zn_tbl := zn_in (i := 312) (by decide +kernel) (by decide)
theorem ml_L_69 : Cond.methodLink R_L 69 y_L_headGap ∈ zn_tbl := zn_in (i := 320) (by decide +kernel) (by decide)
theorem ml_L_73 : Cond.methodLink R_L 73 y_L_freeBlocks ∈ zn_tbl := zn_in (i := 332) (by decide +kernel) (by decide)
theorem ml_L_76 : Cond.methodLink R_L 76 y_L_lowestFree ∈ zn_tbl := zn_in (i := 333) (by decide +kernel) (by decide)
theorem ml_L_79 : Cond.methodLink R_L 79 y_L_markNeeded ∈ zn_tbl := zn_in (i := 299) (by decide +kernel) (by decide)
theorem ml_L_82 : Cond.methodLink R_L 82 y_L_fewestMarked ∈ zn_tbl := zn_in (i := 316) (by decide +kernel) (by decide)
theorem ml_L_85 : Cond.methodLink R_L 85 y_L_markedPages ∈ zn_tbl := zn_in (i := 324) (by decide +kernel) (by decide)
theorem ml_W_9 : Cond.methodLink R_W 9 y_W_cell ∈ zn_tbl := zn_in (i := 443) (by decide +kernel) (by decide)
theorem ml_W_15 : Cond.methodLink R_W 15 y_S_ini ∈ zn_tbl := zn_in (i := 53) (by decide +kernel) (by decide)
theorem ml_W_20 : Cond.methodLink R_W 20 y_M_ini ∈ zn_tbl := zn_in (i := 448) (by decide +kernel) (by decide)
theorem ml_W_21 : Cond.methodLink R_W 21 y_S_init ∈ zn_tbl := zn_in (i := 212) (by decide +kernel) (by decide)
theorem ml_W_24 : Cond.methodLink R_W 24 y_M_init ∈ zn_tbl := zn_in (i := 519) (by decide +kernel) (by decide)
theorem ml_W_25 : Cond.methodLink R_W 25 y_S_mount ∈ zn_tbl := zn_in (i := 213) (by decide +kernel) (by decide)
theorem ml_W_29 : Cond.methodLink R_W 29 y_M_mount ∈ zn_tbl := zn_in (i := 523) (by decide +kernel) (by decide)
theorem ml_W_30 : Cond.methodLink R_W 30 y_S_put ∈ zn_tbl := zn_in (i := 356) (by decide +kernel) (by decide)
theorem ml_W_34 : Cond.methodLink R_W 34 y_M_put ∈ zn_tbl := zn_in (i := 606) (by decide +kernel) (by decide)
theorem ml_W_35 : Cond.methodLink R_W 35 y_S_remove ∈ zn_tbl := zn_in (i := 373) (by decide +kernel) (by decide)
theorem ml_W_39 : Cond.methodLink R_W 39 y_M_remove ∈ zn_tbl := zn_in (i := 617) (by decide +kernel) (by decide)
theorem ml_W_40 : Cond.methodLink R_W 40 y_S_has ∈ zn_tbl := zn_in (i := 378) (by decide +kernel) (by decide)
theorem ml_W_44 : Cond.methodLink R_W 44 y_M_has ∈ zn_tbl := zn_in (i := 621) (by decide +kernel) (by decide)
theorem ml_W_45 : Cond.methodLink R_W 45 y_S_get ∈ zn_tbl := zn_in (i := 382) (by decide +kernel) (by decide)
theorem ml_W_48 : Cond.methodLink R_W 48 y_M_get ∈ zn_tbl := zn_in (i := 625) (by decide +kernel) (by decide)
theorem ml_W_49 : Cond.methodLink R_W 49 y_S_size ∈ zn_tbl := zn_in (i := 388) (by decide +kernel) (by decide)
theorem ml_W_52 : Cond.methodLink R_W 52 y_M_size ∈ zn_tbl := zn_in (i := 630) (by decide +kernel) (by decide)
theorem ml_W_53 : Cond.methodLink R_W 53 y_S_rot ∈ zn_tbl := zn_in (i := 392) (by decide +kernel) (by decide)
theorem ml_W_57 : Cond.methodLink R_W 57 y_M_rot ∈ zn_tbl := zn_in (i := 634) (by decide +kernel) (by decide)
theorem ml_W_58 : Cond.methodLink R_W 58 y_S_scrub ∈ zn_tbl := zn_in (i := 404) (by decide +kernel) (by decide)
theorem ml_W_61 : Cond.methodLink R_W 61 y_M_scrub ∈ zn_tbl := zn_in (i := 642) (by decide +kernel) (by decide)
theorem ml_W_62 : Cond.methodLink R_W 62 y_S_arm ∈ zn_tbl := zn_in (i := 413) (by decide +kernel) (by decide)
theorem ml_W_65 : Cond.methodLink R_W 65 y_M_arm ∈ zn_tbl := zn_in (i := 646) (by decide +kernel) (by decide)
theorem ml_W_66 : Cond.methodLink R_W 66 y_S_crashed ∈ zn_tbl := zn_in (i := 417) (by decide +kernel) (by decide)
theorem ml_W_70 : Cond.methodLink R_W 70 y_M_crashed ∈ zn_tbl := zn_in (i := 650) (by decide +kernel) (by decide)
theorem ml_W_71 : Cond.methodLink R_W 71 y_S_condition ∈ zn_tbl := zn_in (i := 421) (by decide +kernel) (by decide)
theorem ml_W_74 : Cond.methodLink R_W 74 y_M_condition ∈ zn_tbl := zn_in (i := 654) (by decide +kernel) (by decide)
theorem ml_W_75 : Cond.methodLink R_W 75 y_S_word ∈ zn_tbl := zn_in (i := 425) (by decide +kernel) (by decide)
theorem ml_W_78 : Cond.methodLink R_W 78 y_M_word ∈ zn_tbl := zn_in (i := 658) (by decide +kernel) (by decide)
theorem ml_W_79 : Cond.methodLink R_W 79 y_S_needed ∈ zn_tbl := zn_in (i := 429) (by decide +kernel) (by decide)
theorem ml_W_82 : Cond.methodLink R_W 82 y_M_needed ∈ zn_tbl := zn_in (i := 662) (by decide +kernel) (by decide)
theorem ml_W_83 : Cond.methodLink R_W 83 y_S_head ∈ zn_tbl := zn_in (i := 435) (by decide +kernel) (by decide)
theorem ml_W_86 : Cond.methodLink R_W 86 y_M_head ∈ zn_tbl := zn_in (i := 666) (by decide +kernel) (by decide)
theorem ml_W_87 : Cond.methodLink R_W 87 y_S_acts ∈ zn_tbl := zn_in (i := 439) (by decide +kernel) (by decide)
theorem ml_W_90 : Cond.methodLink R_W 90 y_M_acts ∈ zn_tbl := zn_in (i := 670) (by decide +kernel) (by decide)
theorem ml_M_57 : Cond.methodLink R_M 57 y_M_begin ∈ zn_tbl := zn_in (i := 455) (by decide +kernel) (by decide)
theorem ml_M_61 : Cond.methodLink R_M 61 y_M_erasePage ∈ zn_tbl := zn_in (i := 459) (by decide +kernel) (by decide)
theorem ml_M_72 : Cond.methodLink R_M 72 y_M_turn ∈ zn_tbl := zn_in (i := 539) (by decide +kernel) (by decide)
theorem ml_M_75 : Cond.methodLink R_M 75 y_M_bitOf ∈ zn_tbl := zn_in (i := 531) (by decide +kernel) (by decide)
theorem ml_M_82 : Cond.methodLink R_M 82 y_M_mends ∈ zn_tbl := zn_in (i := 535) (by decide +kernel) (by decide)
theorem ml_M_86 : Cond.methodLink R_M 86 y_M_checkOf ∈ zn_tbl := zn_in (i := 543) (by decide +kernel) (by decide)
theorem ml_M_90 : Cond.methodLink R_M 90 y_M_before ∈ zn_tbl := zn_in (i := 574) (by decide +kernel) (by decide)
theorem ml_M_94 : Cond.methodLink R_M 94 y_M_latest ∈ zn_tbl := zn_in (i := 570) (by decide +kernel) (by decide)
theorem ml_M_98 : Cond.methodLink R_M 98 y_M_isNeeded ∈ zn_tbl := zn_in (i := 566) (by decide +kernel) (by decide)
theorem ml_M_101 : Cond.methodLink R_M 101 y_M_writtenOf ∈ zn_tbl := zn_in (i := 546) (by decide +kernel) (by decide)
theorem ml_M_107 : Cond.methodLink R_M 107 y_M_headless ∈ zn_tbl := zn_in (i := 558) (by decide +kernel) (by decide)
theorem ml_M_111 : Cond.methodLink R_M 111 y_M_neededOf ∈ zn_tbl := zn_in (i := 562) (by decide +kernel) (by decide)
theorem ml_M_114 : Cond.methodLink R_M 114 y_M_frees ∈ zn_tbl := zn_in (i := 550) (by decide +kernel) (by decide)
theorem ml_M_118 : Cond.methodLink R_M 118 y_M_act ∈ zn_tbl := zn_in (i := 590) (by decide +kernel) (by decide)
theorem ml_M_121 : Cond.methodLink R_M 121 y_M_placeInHead ∈ zn_tbl := zn_in (i := 594) (by decide +kernel) (by decide)
theorem ml_M_124 : Cond.methodLink R_M 124 y_M_read ∈ zn_tbl := zn_in (i := 527) (by decide +kernel) (by decide)
theorem ml_M_127 : Cond.methodLink R_M 127 y_M_lowestFree ∈ zn_tbl := zn_in (i := 582) (by decide +kernel) (by decide)
theorem ml_M_130 : Cond.methodLink R_M 130 y_M_copy ∈ zn_tbl := zn_in (i := 586) (by decide +kernel) (by decide)
theorem ml_M_133 : Cond.methodLink R_M 133 y_M_chosen ∈ zn_tbl := zn_in (i := 554) (by decide +kernel) (by decide)
theorem ml_M_136 : Cond.methodLink R_M 136 y_M_clean ∈ zn_tbl := zn_in (i := 578) (by decide +kernel) (by decide)
theorem ml_M_139 : Cond.methodLink R_M 139 y_M_held ∈ zn_tbl := zn_in (i := 602) (by decide +kernel) (by decide)
theorem ml_M_142 : Cond.methodLink R_M 142 y_M_heldKeys ∈ zn_tbl := zn_in (i := 598) (by decide +kernel) (by decide)
theorem ml_M_145 : Cond.methodLink R_M 145 y_M_isKey ∈ zn_tbl := zn_in (i := 610) (by decide +kernel) (by decide)
theorem ml_M_148 : Cond.methodLink R_M 148 y_M_append ∈ zn_tbl := zn_in (i := 613) (by decide +kernel) (by decide)
theorem ml_M_152 : Cond.methodLink R_M 152 y_M_has ∈ zn_tbl := zn_in (i := 629) (by decide +kernel) (by decide)
theorem ml_M_155 : Cond.methodLink R_M 155 y_M_isPage ∈ zn_tbl := zn_in (i := 638) (by decide +kernel) (by decide)
end ZFA
