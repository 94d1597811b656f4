theorem iX0 : ∀ w ∈ u_ws RX0 TX0 3, w ∈ g_tb := g_tb_mems _ [301, 303, 305] (by decide +kernel) (by decide +kernel)
theorem iX1 : ∀ w ∈ u_ws RX1 TX1 6, w ∈ g_tb := g_tb_mems _ [401, 403, 405, 407, 409, 411] (by decide +kernel) (by decide +kernel)
theorem iX2 : ∀ w ∈ u_ws RX2 TX2 15, w ∈ g_tb := g_tb_mems _ [217, 219, 221, 223, 225, 227, 229, 231, 233, 235, 237, 239, 241, 243, 245] (by decide +kernel) (by decide +kernel)
theorem iX3 : ∀ w ∈ u_ws RX3 TX3 2, w ∈ g_tb := g_tb_mems _ [266, 264] (by decide +kernel) (by decide +kernel)
theorem iX4 : ∀ w ∈ u_ws RX4 TX4 4, w ∈ g_tb := g_tb_mems _ [319, 321, 323, 325] (by decide +kernel) (by decide +kernel)
theorem iX5 : ∀ w ∈ u_ws RX5 TX5 12, w ∈ g_tb := g_tb_mems _ [353, 355, 357, 359, 361, 363, 365, 367, 369, 371, 373, 375] (by decide +kernel) (by decide +kernel)
theorem iX6 : ∀ w ∈ u_ws RX6 TX6 2, w ∈ g_tb := g_tb_mems _ [695, 697] (by decide +kernel) (by decide +kernel)
theorem iX7 : ∀ w ∈ u_ws RX7 TX7 4, w ∈ g_tb := g_tb_mems _ [284, 278, 280, 282] (by decide +kernel) (by decide +kernel)
theorem iX8 : ∀ w ∈ u_ws RX8 TX8 7, w ∈ g_tb := g_tb_mems _ [157, 159, 161, 163, 165, 167, 169] (by decide +kernel) (by decide +kernel)
theorem iX10 : ∀ w ∈ u_ws RX10 TX10 19, w ∈ g_tb := g_tb_mems _ [433, 435, 437, 439, 441, 443, 445, 447, 449, 451, 453, 455, 457, 459, 461, 463, 465, 467, 469] (by decide +kernel) (by decide +kernel)
theorem iX11 : ∀ w ∈ u_ws RX11 TX11 42, w ∈ g_tb := g_tb_mems _ [1108, 1110, 1112, 1114, 1116, 1118, 1120, 1122, 1124, 1126, 1128, 1130, 1132, 1134, 1136, 1138, 1140, 1142, 1144, 1146, 1148, 1150, 1152, 1154, 1156, 1158, 1160, 1162, 1164, 1166, 1168, 1170, 1172, 1174, 1176, 1178, 1180, 1182, 1184, 1186, 1188, 1190] (by decide +kernel) (by decide +kernel)
theorem fl_X8_9_8 : g_fl RX8 9 8 0 := ⟨RX8, TX8, 7, "DutyBeats$Tape", rfl, by decide, iX8, g_tb_mem 141 (by decide +kernel) (by decide +kernel), Or.inl rfl⟩
theorem fl_X8_15_8 : g_fl RX8 15 8 1 := ⟨RX8, TX8, 7, "DutyBeats$Tape", rfl, by decide, iX8, g_tb_mem 142 (by decide +kernel) (by decide +kernel), Or.inl rfl⟩
theorem fl_X10_110_8 : g_fln RX10 110 8 1 := ⟨RX8, TX8, 7, "DutyBeats$Tape", "DutyBeats", rfl, by decide, iX8, List.mem_of_getElem? (i := 143) (by decide +kernel), Or.inl rfl⟩
theorem fl_X8_19_8 : g_fl RX8 19 8 2 := ⟨RX8, TX8, 7, "DutyBeats$Tape", rfl, by decide, iX8, g_tb_mem 144 (by decide +kernel) (by decide +kernel), Or.inl rfl⟩
theorem fl_X8_22_8 : g_fl RX8 22 8 3 := ⟨RX8, TX8, 7, "DutyBeats$Tape", rfl, by decide, iX8, g_tb_mem 145 (by decide +kernel) (by decide +kernel), Or.inl rfl⟩
theorem fl_X9_28_8 : g_fln RX9 28 8 3 := ⟨RX8, TX8, 7, "DutyBeats$Tape", "DutyBeats", rfl, by decide, iX8, List.mem_of_getElem? (i := 146) (by decide +kernel), Or.inl rfl⟩
theorem fl_X3_67_8 : g_fln RX3 67 8 3 := ⟨RX8, TX8, 7, "DutyBeats$Tape", "DutyBeats", rfl, by decide, iX8, List.mem_of_getElem? (i := 147) (by decide +kernel), Or.inl rfl⟩
theorem fl_X7_91_8 : g_fln RX7 91 8 3 := ⟨RX8, TX8, 7, "DutyBeats$Tape", "DutyBeats", rfl, by decide, iX8, List.mem_of_getElem? (i := 148) (by decide +kernel), Or.inl rfl⟩
theorem fl_X8_25_8 : g_fl RX8 25 8 4 := ⟨RX8, TX8, 7, "DutyBeats$Tape", rfl, by decide, iX8, g_tb_mem 149 (by decide +kernel) (by decide +kernel), Or.inl rfl⟩
theorem fl_X8_28_8 : g_fl RX8 28 8 5 := ⟨RX8, TX8, 7, "DutyBeats$Tape", rfl, by decide, iX8, g_tb_mem 150 (by decide +kernel) (by decide +kernel), Or.inl rfl⟩
theorem fl_X3_70_8 : g_fln RX3 70 8 5 := ⟨RX8, TX8, 7, "DutyBeats$Tape", "DutyBeats", rfl, by decide, iX8, List.mem_of_getElem? (i := 151) (by decide +kernel), Or.inl rfl⟩
theorem fl_X7_94_8 : g_fln RX7 94 8 5 := ⟨RX8, TX8, 7, "DutyBeats$Tape", "DutyBeats", rfl, by decide, iX8, List.mem_of_getElem? (i := 152) (by decide +kernel), Or.inl rfl⟩
theorem fl_X8_31_8 : g_fl RX8 31 8 6 := ⟨RX8, TX8, 7, "DutyBeats$Tape", rfl, by decide, iX8, g_tb_mem 153 (by decide +kernel) (by decide +kernel), Or.inl rfl⟩
theorem fl_X9_24_8 : g_fln RX9 24 8 6 := ⟨RX8, TX8, 7, "DutyBeats$Tape", "DutyBeats", rfl, by decide, iX8, List.mem_of_getElem? (i := 154) (by decide +kernel), Or.inl rfl⟩
theorem fl_X3_60_8 : g_fln RX3 60 8 6 := ⟨RX8, TX8, 7, "DutyBeats$Tape", "DutyBeats", rfl, by decide, iX8, List.mem_of_getElem? (i := 155) (by decide +kernel), Or.inl rfl⟩
theorem fl_X7_62_8 : g_fln RX7 62 8 6 := ⟨RX8, TX8, 7, "DutyBeats$Tape", "DutyBeats", rfl, by decide, iX8, List.mem_of_getElem? (i := 156) (by decide +kernel), Or.inl rfl⟩
theorem fl_X2_9_2 : g_fl RX2 9 2 0 := ⟨RX2, TX2, 15, "DutyBeats$Junction", rfl, by decide, iX2, g_tb_mem 179 (by decide +kernel) (by decide +kernel), Or.inl rfl⟩
theorem fl_X5_81_2 : g_fln RX5 81 2 0 := ⟨RX2, TX2, 15, "DutyBeats$Junction", "DutyBeats", rfl, by decide, iX2, List.mem_of_getElem? (i := 180) (by decide +kernel), Or.inl rfl⟩
theorem fl_X10_151_2 : g_fln RX10 151 2 0 := ⟨RX2, TX2, 15, "DutyBeats$Junction", "DutyBeats", rfl, by decide, iX2, List.mem_of_getElem? (i := 181) (by decide +kernel), Or.inl rfl⟩
theorem fl_X2_15_2 : g_fl RX2 15 2 1 := ⟨RX2, TX2, 15, "DutyBeats$Junction", rfl, by decide, iX2, g_tb_mem 182 (by decide +kernel) (by decide +kernel), Or.inl rfl⟩
theorem fl_X10_154_2 : g_fln RX10 154 2 1 := ⟨RX2, TX2, 15, "DutyBeats$Junction", "DutyBeats", rfl, by decide, iX2, List.mem_of_getElem? (i := 183) (by decide +kernel), Or.inl rfl⟩
theorem fl_X2_18_2 : g_fl RX2 18 2 2 := ⟨RX2, TX2, 15, "DutyBeats$Junction", rfl, by decide, iX2, g_tb_mem 184 (by decide +kernel) (by decide +kernel), Or.inl rfl⟩
theorem fl_X10_157_2 : g_fln RX10 157 2 2 := ⟨RX2, TX2, 15, "DutyBeats$Junction", "DutyBeats", rfl, by decide, iX2, List.mem_of_getElem? (i := 185) (by decide +kernel), Or.inl rfl⟩
theorem fl_X2_21_2 : g_fl RX2 21 2 3 := ⟨RX2, TX2, 15, "DutyBeats$Junction", rfl, by decide, iX2, g_tb_mem 186 (by decide +kernel) (by decide +kernel), Or.inl rfl⟩
theorem fl_X3_73_2 : g_fln RX3 73 2 3 := ⟨RX2, TX2, 15, "DutyBeats$Junction", "DutyBeats", rfl, by decide, iX2, List.mem_of_getElem? (i := 187) (by decide +kernel), Or.inl rfl⟩
theorem fl_X10_160_2 : g_fln RX10 160 2 3 := ⟨RX2, TX2, 15, "DutyBeats$Junction", "DutyBeats", rfl, by decide, iX2, List.mem_of_getElem? (i := 188) (by decide +kernel), Or.inl rfl⟩
theorem fl_X2_24_2 : g_fl RX2 24 2 4 := ⟨RX2, TX2, 15, "DutyBeats$Junction", rfl, by decide, iX2, g_tb_mem 189 (by decide +kernel) (by decide +kernel), Or.inl rfl⟩
theorem fl_X10_163_2 : g_fln RX10 163 2 4 := ⟨RX2, TX2, 15, "DutyBeats$Junction", "DutyBeats", rfl, by decide, iX2, List.mem_of_getElem? (i := 190) (by decide +kernel), Or.inl rfl⟩
theorem fl_X2_27_2 : g_fl RX2 27 2 5 := ⟨RX2, TX2, 15, "DutyBeats$Junction", rfl, by decide, iX2, g_tb_mem 191 (by decide +kernel) (by decide +kernel), Or.inl rfl⟩
theorem fl_X5_87_2 : g_fln RX5 87 2 5 := ⟨RX2, TX2, 15, "DutyBeats$Junction", "DutyBeats", rfl, by decide, iX2, List.mem_of_getElem? (i := 192) (by decide +kernel), Or.inl rfl⟩
theorem fl_X10_166_2 : g_fln RX10 166 2 5 := ⟨RX2, TX2, 15, "DutyBeats$Junction", "DutyBeats", rfl, by decide, iX2, List.mem_of_getElem? (i := 193) (by decide +kernel), Or.inl rfl⟩
theorem fl_X2_30_2 : g_fl RX2 30 2 6 := ⟨RX2, TX2, 15, "DutyBeats$Junction", rfl, by decide, iX2, g_tb_mem 194 (by decide +kernel) (by decide +kernel), Or.inl rfl⟩
theorem fl_X2_33_2 : g_fl RX2 33 2 7 := ⟨RX2, TX2, 15, "DutyBeats$Junction", rfl, by decide, iX2, g_tb_mem 195 (by decide +kernel) (by decide +kernel), Or.inl rfl⟩
theorem fl_X10_275_2 : g_fln RX10 275 2 7 := ⟨RX2, TX2, 15, "DutyBeats$Junction", "DutyBeats", rfl, by decide, iX2, List.mem_of_getElem? (i := 196) (by decide +kernel), Or.inl rfl⟩
theorem fl_X2_36_2 : g_fl RX2 36 2 8 := ⟨RX2, TX2, 15, "DutyBeats$Junction", rfl, by decide, iX2, g_tb_mem 197 (by decide +kernel) (by decide +kernel), Or.inl rfl⟩
theorem fl_X3_77_2 : g_fln RX3 77 2 8 := ⟨RX2, TX2, 15, "DutyBeats$Junction", "DutyBeats", rfl, by decide, iX2, List.mem_of_getElem? (i := 198) (by decide +kernel), Or.inl rfl⟩
theorem fl_X10_176_2 : g_fln RX10 176 2 8 := ⟨RX2, TX2, 15, "DutyBeats$Junction", "DutyBeats", rfl, by decide, iX2, List.mem_of_getElem? (i := 199) (by decide +kernel), Or.inl rfl⟩
theorem fl_X2_39_2 : g_fl RX2 39 2 9 := ⟨RX2, TX2, 15, "DutyBeats$Junction", rfl, by decide, iX2, g_tb_mem 200 (by decide +kernel) (by decide +kernel), Or.inl rfl⟩
theorem fl_X3_45_2 : g_fln RX3 45 2 9 := ⟨RX2, TX2, 15, "DutyBeats$Junction", "DutyBeats", rfl, by decide, iX2, List.mem_of_getElem? (i := 201) (by decide +kernel), Or.inl rfl⟩
theorem fl_X10_179_2 : g_fln RX10 179 2 9 := ⟨RX2, TX2, 15, "DutyBeats$Junction", "DutyBeats", rfl, by decide, iX2, List.mem_of_getElem? (i := 202) (by decide +kernel), Or.inl rfl⟩
theorem fl_X2_43_2 : g_fl RX2 43 2 10 := ⟨RX2, TX2, 15, "DutyBeats$Junction", rfl, by decide, iX2, g_tb_mem 203 (by decide +kernel) (by decide +kernel), Or.inl rfl⟩
theorem fl_X3_48_2 : g_fln RX3 48 2 10 := ⟨RX2, TX2, 15, "DutyBeats$Junction", "DutyBeats", rfl, by decide, iX2, List.mem_of_getElem? (i := 204) (by decide +kernel), Or.inl rfl⟩
theorem fl_X10_182_2 : g_fln RX10 182 2 10 := ⟨RX2, TX2, 15, "DutyBeats$Junction", "DutyBeats", rfl, by decide, iX2, List.mem_of_getElem? (i := 205) (by decide +kernel), Or.inl rfl⟩
theorem fl_X2_46_2 : g_fl RX2 46 2 11 := ⟨RX2, TX2, 15, "DutyBeats$Junction", rfl, by decide, iX2, g_tb_mem 206 (by decide +kernel) (by decide +kernel), Or.inl rfl⟩
theorem fl_X5_53_2 : g_fln RX5 53 2 11 := ⟨RX2, TX2, 15, "DutyBeats$Junction", "DutyBeats", rfl, by decide, iX2, List.mem_of_getElem? (i := 207) (by decide +kernel), Or.inl rfl⟩
theorem fl_X3_31_2 : g_fln RX3 31 2 11 := ⟨RX2, TX2, 15, "DutyBeats$Junction", "DutyBeats", rfl, by decide, iX2, List.mem_of_getElem? (i := 208) (by decide +kernel), Or.inl rfl⟩
theorem fl_X10_132_2 : g_fln RX10 132 2 11 := ⟨RX2, TX2, 15, "DutyBeats$Junction", "DutyBeats", rfl, by decide, iX2, List.mem_of_getElem? (i := 209) (by decide +kernel), Or.inl rfl⟩
theorem fl_X2_49_2 : g_fl RX2 49 2 12 := ⟨RX2, TX2, 15, "DutyBeats$Junction", rfl, by decide, iX2, g_tb_mem 210 (by decide +kernel) (by decide +kernel), Or.inl rfl⟩
theorem fl_X10_185_2 : g_fln RX10 185 2 12 := ⟨RX2, TX2, 15, "DutyBeats$Junction", "DutyBeats", rfl, by decide, iX2, List.mem_of_getElem? (i := 211) (by decide +kernel), Or.inl rfl⟩
theorem fl_X2_52_2 : g_fl RX2 52 2 13 := ⟨RX2, TX2, 15, "DutyBeats$Junction", rfl, by decide, iX2, g_tb_mem 212 (by decide +kernel) (by decide +kernel), Or.inl rfl⟩
theorem fl_X5_54_2 : g_fln RX5 54 2 13 := ⟨RX2, TX2, 15, "DutyBeats$Junction", "DutyBeats", rfl, by decide, iX2, List.mem_of_getElem? (i := 213) (by decide +kernel), Or.inl rfl⟩
theorem fl_X10_195_2 : g_fln RX10 195 2 13 := ⟨RX2, TX2, 15, "DutyBeats$Junction", "DutyBeats", rfl, by decide, iX2, List.mem_of_getElem? (i := 214) (by decide +kernel), Or.inl rfl⟩
theorem fl_X2_55_2 : g_fl RX2 55 2 14 := ⟨RX2, TX2, 15, "DutyBeats$Junction", rfl, by decide, iX2, g_tb_mem 215 (by decide +kernel) (by decide +kernel), Or.inl rfl⟩
theorem fl_X10_272_2 : g_fln RX10 272 2 14 := ⟨RX2, TX2, 15, "DutyBeats$Junction", "DutyBeats", rfl, by decide, iX2, List.mem_of_getElem? (i := 216) (by decide +kernel), Or.inl rfl⟩
theorem fl_X3_9_3 : g_fl RX3 9 3 1 := ⟨RX3, TX3, 2, "DutyBeats$JunctionText", rfl, by decide, iX3, g_tb_mem 258 (by decide +kernel) (by decide +kernel), Or.inl rfl⟩
theorem fl_X9_9_3 : g_fl RX9 9 3 0 := ⟨RX3, TX3, 2, "DutyBeats$Text", rfl, by decide, iX3, g_tb_mem 259 (by decide +kernel) (by decide +kernel), Or.inl rfl⟩
theorem fl_X9_9_7 : g_fl RX9 9 7 0 := ⟨RX7, TX7, 4, "DutyBeats$Text", rfl, by decide, iX7, g_tb_mem 259 (by decide +kernel) (by decide +kernel), Or.inl rfl⟩
theorem fl_X3_15_3 : g_fl RX3 15 3 0 := ⟨RX3, TX3, 2, "DutyBeats$JunctionText", rfl, by decide, iX3, g_tb_mem 260 (by decide +kernel) (by decide +kernel), Or.inr (g_tb_mem 261 (by decide +kernel) (by decide +kernel))⟩
theorem fl_X7_39_7 : g_fl RX7 39 7 0 := ⟨RX7, TX7, 4, "DutyBeats$RuleText", rfl, by decide, iX7, g_tb_mem 262 (by decide +kernel) (by decide +kernel), Or.inr (g_tb_mem 263 (by decide +kernel) (by decide +kernel))⟩
theorem fl_X7_9_7 : g_fl RX7 9 7 1 := ⟨RX7, TX7, 4, "DutyBeats$RuleText", rfl, by decide, iX7, g_tb_mem 275 (by decide +kernel) (by decide +kernel), Or.inl rfl⟩
theorem fl_X7_15_7 : g_fl RX7 15 7 2 := ⟨RX7, TX7, 4, "DutyBeats$RuleText", rfl, by decide, iX7, g_tb_mem 276 (by decide +kernel) (by decide +kernel), Or.inl rfl⟩
theorem fl_X7_19_7 : g_fl RX7 19 7 3 := ⟨RX7, TX7, 4, "DutyBeats$RuleText", rfl, by decide, iX7, g_tb_mem 277 (by decide +kernel) (by decide +kernel), Or.inl rfl⟩
theorem fl_X0_11_0 : g_fl RX0 11 0 0 := ⟨RX0, TX0, 3, "DutyBeats$History", rfl, by decide, iX0, g_tb_mem 297 (by decide +kernel) (by decide +kernel), Or.inl rfl⟩
theorem fl_X0_17_0 : g_fl RX0 17 0 1 := ⟨RX0, TX0, 3, "DutyBeats$History", rfl, by decide, iX0, g_tb_mem 298 (by decide +kernel) (by decide +kernel), Or.inl rfl⟩
theorem fl_X0_21_0 : g_fl RX0 21 0 2 := ⟨RX0, TX0, 3, "DutyBeats$History", rfl, by decide, iX0, g_tb_mem 299 (by decide +kernel) (by decide +kernel), Or.inl rfl⟩
theorem fl_X10_131_0 : g_fln RX10 131 0 2 := ⟨RX0, TX0, 3, "DutyBeats$History", "DutyBeats", rfl, by decide, iX0, List.mem_of_getElem? (i := 300) (by decide +kernel), Or.inl rfl⟩
theorem fl_X4_9_4 : g_fl RX4 9 4 0 := ⟨RX4, TX4, 4, "DutyBeats$Notes", rfl, by decide, iX4, g_tb_mem 314 (by decide +kernel) (by decide +kernel), Or.inl rfl⟩
theorem fl_X4_15_4 : g_fl RX4 15 4 1 := ⟨RX4, TX4, 4, "DutyBeats$Notes", rfl, by decide, iX4, g_tb_mem 315 (by decide +kernel) (by decide +kernel), Or.inl rfl⟩
theorem fl_X4_18_4 : g_fl RX4 18 4 2 := ⟨RX4, TX4, 4, "DutyBeats$Notes", rfl, by decide, iX4, g_tb_mem 316 (by decide +kernel) (by decide +kernel), Or.inl rfl⟩
theorem fl_X4_21_4 : g_fl RX4 21 4 3 := ⟨RX4, TX4, 4, "DutyBeats$Notes", rfl, by decide, iX4, g_tb_mem 317 (by decide +kernel) (by decide +kernel), Or.inl rfl⟩
theorem fl_X10_128_4 : g_fln RX10 128 4 3 := ⟨RX4, TX4, 4, "DutyBeats$Notes", "DutyBeats", rfl, by decide, iX4, List.mem_of_getElem? (i := 318) (by decide +kernel), Or.inl rfl⟩
theorem fl_X5_15_5 : g_fl RX5 15 5 0 := ⟨RX5, TX5, 12, "DutyBeats$RowSearch", rfl, by decide, iX5, g_tb_mem 338 (by decide +kernel) (by decide +kernel), Or.inl rfl⟩
theorem fl_X5_18_5 : g_fl RX5 18 5 1 := ⟨RX5, TX5, 12, "DutyBeats$RowSearch", rfl, by decide, iX5, g_tb_mem 339 (by decide +kernel) (by decide +kernel), Or.inl rfl⟩
theorem fl_X5_21_5 : g_fl RX5 21 5 2 := ⟨RX5, TX5, 12, "DutyBeats$RowSearch", rfl, by decide, iX5, g_tb_mem 340 (by decide +kernel) (by decide +kernel), Or.inl rfl⟩
theorem fl_X5_25_5 : g_fl RX5 25 5 3 := ⟨RX5, TX5, 12, "DutyBeats$RowSearch", rfl, by decide, iX5, g_tb_mem 341 (by decide +kernel) (by decide +kernel), Or.inl rfl⟩
theorem fl_X5_28_5 : g_fl RX5 28 5 4 := ⟨RX5, TX5, 12, "DutyBeats$RowSearch", rfl, by decide, iX5, g_tb_mem 342 (by decide +kernel) (by decide +kernel), Or.inl rfl⟩
theorem fl_X5_31_5 : g_fl RX5 31 5 5 := ⟨RX5, TX5, 12, "DutyBeats$RowSearch", rfl, by decide, iX5, g_tb_mem 343 (by decide +kernel) (by decide +kernel), Or.inl rfl⟩
theorem fl_X10_253_5 : g_fln RX10 253 5 5 := ⟨RX5, TX5, 12, "DutyBeats$RowSearch", "DutyBeats", rfl, by decide, iX5, List.mem_of_getElem? (i := 344) (by decide +kernel), Or.inl rfl⟩
theorem fl_X5_34_5 : g_fl RX5 34 5 6 := ⟨RX5, TX5, 12, "DutyBeats$RowSearch", rfl, by decide, iX5, g_tb_mem 345 (by decide +kernel) (by decide +kernel), Or.inl rfl⟩
theorem fl_X5_38_5 : g_fl RX5 38 5 7 := ⟨RX5, TX5, 12, "DutyBeats$RowSearch", rfl, by decide, iX5, g_tb_mem 346 (by decide +kernel) (by decide +kernel), Or.inl rfl⟩
theorem fl_X5_41_5 : g_fl RX5 41 5 8 := ⟨RX5, TX5, 12, "DutyBeats$RowSearch", rfl, by decide, iX5, g_tb_mem 347 (by decide +kernel) (by decide +kernel), Or.inl rfl⟩
theorem fl_X5_44_5 : g_fl RX5 44 5 9 := ⟨RX5, TX5, 12, "DutyBeats$RowSearch", rfl, by decide, iX5, g_tb_mem 348 (by decide +kernel) (by decide +kernel), Or.inl rfl⟩
theorem fl_X5_47_5 : g_fl RX5 47 5 10 := ⟨RX5, TX5, 12, "DutyBeats$RowSearch", rfl, by decide, iX5, g_tb_mem 349 (by decide +kernel) (by decide +kernel), Or.inl rfl⟩
theorem fl_X10_256_5 : g_fln RX10 256 5 10 := ⟨RX5, TX5, 12, "DutyBeats$RowSearch", "DutyBeats", rfl, by decide, iX5, List.mem_of_getElem? (i := 350) (by decide +kernel), Or.inl rfl⟩
theorem fl_X5_50_5 : g_fl RX5 50 5 11 := ⟨RX5, TX5, 12, "DutyBeats$RowSearch", rfl, by decide, iX5, g_tb_mem 351 (by decide +kernel) (by decide +kernel), Or.inl rfl⟩
theorem fl_X10_259_5 : g_fln RX10 259 5 11 := ⟨RX5, TX5, 12, "DutyBeats$RowSearch", "DutyBeats", rfl, by decide, iX5, List.mem_of_getElem? (i := 352) (by decide +kernel), Or.inl rfl⟩
theorem fl_X1_12_1 : g_fl RX1 12 1 0 := ⟨RX1, TX1, 6, "DutyBeats$Image", rfl, by decide, iX1, g_tb_mem 389 (by decide +kernel) (by decide +kernel), Or.inl rfl⟩
theorem fl_X10_338_1 : g_fln RX10 338 1 0 := ⟨RX1, TX1, 6, "DutyBeats$Image", "DutyBeats", rfl, by decide, iX1, List.mem_of_getElem? (i := 390) (by decide +kernel), Or.inl rfl⟩
theorem fl_X1_18_1 : g_fl RX1 18 1 1 := ⟨RX1, TX1, 6, "DutyBeats$Image", rfl, by decide, iX1, g_tb_mem 391 (by decide +kernel) (by decide +kernel), Or.inl rfl⟩
theorem fl_X10_339_1 : g_fln RX10 339 1 1 := ⟨RX1, TX1, 6, "DutyBeats$Image", "DutyBeats", rfl, by decide, iX1, List.mem_of_getElem? (i := 392) (by decide +kernel), Or.inl rfl⟩
theorem fl_X1_24_1 : g_fl RX1 24 1 2 := ⟨RX1, TX1, 6, "DutyBeats$Image", rfl, by decide, iX1, g_tb_mem 393 (by decide +kernel) (by decide +kernel), Or.inl rfl⟩
theorem fl_X10_340_1 : g_fln RX10 340 1 2 := ⟨RX1, TX1, 6, "DutyBeats$Image", "DutyBeats", rfl, by decide, iX1, List.mem_of_getElem? (i := 394) (by decide +kernel), Or.inl rfl⟩
theorem fl_X1_28_1 : g_fl RX1 28 1 3 := ⟨RX1, TX1, 6, "DutyBeats$Image", rfl, by decide, iX1, g_tb_mem 395 (by decide +kernel) (by decide +kernel), Or.inl rfl⟩
theorem fl_X10_335_1 : g_fln RX10 335 1 3 := ⟨RX1, TX1, 6, "DutyBeats$Image", "DutyBeats", rfl, by decide, iX1, List.mem_of_getElem? (i := 396) (by decide +kernel), Or.inl rfl⟩
theorem fl_X1_32_1 : g_fl RX1 32 1 4 := ⟨RX1, TX1, 6, "DutyBeats$Image", rfl, by decide, iX1, g_tb_mem 397 (by decide +kernel) (by decide +kernel), Or.inl rfl⟩
theorem fl_X10_344_1 : g_fln RX10 344 1 4 := ⟨RX1, TX1, 6, "DutyBeats$Image", "DutyBeats", rfl, by decide, iX1, List.mem_of_getElem? (i := 398) (by decide +kernel), Or.inl rfl⟩
theorem fl_X1_36_1 : g_fl RX1 36 1 5 := ⟨RX1, TX1, 6, "DutyBeats$Image", rfl, by decide, iX1, g_tb_mem 399 (by decide +kernel) (by decide +kernel), Or.inl rfl⟩
theorem fl_X10_345_1 : g_fln RX10 345 1 5 := ⟨RX1, TX1, 6, "DutyBeats$Image", "DutyBeats", rfl, by decide, iX1, List.mem_of_getElem? (i := 400) (by decide +kernel), Or.inl rfl⟩
theorem fl_X10_10_9 : g_fl RX10 10 9 0 := ⟨RX10, TX10, 19, "DutyBeats", rfl, by decide, iX10, g_tb_mem 414 (by decide +kernel) (by decide +kernel), Or.inl rfl⟩
theorem fl_X10_19_9 : g_fl RX10 19 9 1 := ⟨RX10, TX10, 19, "DutyBeats", rfl, by decide, iX10, g_tb_mem 415 (by decide +kernel) (by decide +kernel), Or.inl rfl⟩
theorem fl_X10_23_9 : g_fl RX10 23 9 2 := ⟨RX10, TX10, 19, "DutyBeats", rfl, by decide, iX10, g_tb_mem 416 (by decide +kernel) (by decide +kernel), Or.inl rfl⟩
theorem fl_X10_26_9 : g_fl RX10 26 9 3 := ⟨RX10, TX10, 19, "DutyBeats", rfl, by decide, iX10, g_tb_mem 417 (by decide +kernel) (by decide +kernel), Or.inl rfl⟩
theorem fl_X10_34_9 : g_fl RX10 34 9 4 := ⟨RX10, TX10, 19, "DutyBeats", rfl, by decide, iX10, g_tb_mem 418 (by decide +kernel) (by decide +kernel), Or.inl rfl⟩
theorem fl_X10_43_9 : g_fl RX10 43 9 5 := ⟨RX10, TX10, 19, "DutyBeats", rfl, by decide, iX10, g_tb_mem 419 (by decide +kernel) (by decide +kernel), Or.inl rfl⟩
theorem fl_X10_49_9 : g_fl RX10 49 9 6 := ⟨RX10, TX10, 19, "DutyBeats", rfl, by decide, iX10, g_tb_mem 420 (by decide +kernel) (by decide +kernel), Or.inl rfl⟩
theorem fl_X10_56_9 : g_fl RX10 56 9 7 := ⟨RX10, TX10, 19, "DutyBeats", rfl, by decide, iX10, g_tb_mem 421 (by decide +kernel) (by decide +kernel), Or.inl rfl⟩
theorem fl_X10_63_9 : g_fl RX10 63 9 8 := ⟨RX10, TX10, 19, "DutyBeats", rfl, by decide, iX10, g_tb_mem 422 (by decide +kernel) (by decide +kernel), Or.inl rfl⟩
theorem fl_X10_69_9 : g_fl RX10 69 9 9 := ⟨RX10, TX10, 19, "DutyBeats", rfl, by decide, iX10, g_tb_mem 423 (by decide +kernel) (by decide +kernel), Or.inl rfl⟩
theorem fl_X10_76_9 : g_fl RX10 76 9 10 := ⟨RX10, TX10, 19, "DutyBeats", rfl, by decide, iX10, g_tb_mem 424 (by decide +kernel) (by decide +kernel), Or.inl rfl⟩
theorem fl_X10_80_9 : g_fl RX10 80 9 11 := ⟨RX10, TX10, 19, "DutyBeats", rfl, by decide, iX10, g_tb_mem 425 (by decide +kernel) (by decide +kernel), Or.inl rfl⟩
theorem fl_X10_87_9 : g_fl RX10 87 9 12 := ⟨RX10, TX10, 19, "DutyBeats", rfl, by decide, iX10, g_tb_mem 426 (by decide +kernel) (by decide +kernel), Or.inl rfl⟩
theorem fl_X10_90_9 : g_fl RX10 90 9 13 := ⟨RX10, TX10, 19, "DutyBeats", rfl, by decide, iX10, g_tb_mem 427 (by decide +kernel) (by decide +kernel), Or.inl rfl⟩
theorem fl_X10_93_9 : g_fl RX10 93 9 14 := ⟨RX10, TX10, 19, "DutyBeats", rfl, by decide, iX10, g_tb_mem 428 (by decide +kernel) (by decide +kernel), Or.inl rfl⟩
theorem fl_X10_96_9 : g_fl RX10 96 9 15 := ⟨RX10, TX10, 19, "DutyBeats", rfl, by decide, iX10, g_tb_mem 429 (by decide +kernel) (by decide +kernel), Or.inl rfl⟩
theorem fl_X10_99_9 : g_fl RX10 99 9 16 := ⟨RX10, TX10, 19, "DutyBeats", rfl, by decide, iX10, g_tb_mem 430 (by decide +kernel) (by decide +kernel), Or.inl rfl⟩
theorem fl_X10_103_9 : g_fl RX10 103 9 17 := ⟨RX10, TX10, 19, "DutyBeats", rfl, by decide, iX10, g_tb_mem 431 (by decide +kernel) (by decide +kernel), Or.inl rfl⟩
theorem fl_X10_106_9 : g_fl RX10 106 9 18 := ⟨RX10, TX10, 19, "DutyBeats", rfl, by decide, iX10, g_tb_mem 432 (by decide +kernel) (by decide +kernel), Or.inl rfl⟩
theorem fl_X6_13_6 : g_fl RX6 13 6 0 := ⟨RX6, TX6, 2, "DutyBeats$Rule", rfl, by decide, iX6, g_tb_mem 693 (by decide +kernel) (by decide +kernel), Or.inl rfl⟩
theorem fl_X6_9_6 : g_fl RX6 9 6 1 := ⟨RX6, TX6, 2, "DutyBeats$Rule", rfl, by decide, iX6, g_tb_mem 694 (by decide +kernel) (by decide +kernel), Or.inl rfl⟩
theorem fl_X11_7_10 : g_fl RX11 7 10 0 := ⟨RX11, TX11, 42, "DutyBeatsModel", rfl, by decide, iX11, g_tb_mem 1066 (by decide +kernel) (by decide +kernel), Or.inl rfl⟩
theorem fl_X11_92_10 : g_fl RX11 92 10 1 := ⟨RX11, TX11, 42, "DutyBeatsModel", rfl, by decide, iX11, g_tb_mem 1067 (by decide +kernel) (by decide +kernel), Or.inl rfl⟩
theorem fl_X11_267_10 : g_fl RX11 267 10 2 := ⟨RX11, TX11, 42, "DutyBeatsModel", rfl, by decide, iX11, g_tb_mem 1068 (by decide +kernel) (by decide +kernel), Or.inl rfl⟩
theorem fl_X11_13_10 : g_fl RX11 13 10 3 := ⟨RX11, TX11, 42, "DutyBeatsModel", rfl, by decide, iX11, g_tb_mem 1069 (by decide +kernel) (by decide +kernel), Or.inl rfl⟩
theorem fl_X11_17_10 : g_fl RX11 17 10 4 := ⟨RX11, TX11, 42, "DutyBeatsModel", rfl, by decide, iX11, g_tb_mem 1070 (by decide +kernel) (by decide +kernel), Or.inl rfl⟩
theorem fl_X11_20_10 : g_fl RX11 20 10 5 := ⟨RX11, TX11, 42, "DutyBeatsModel", rfl, by decide, iX11, g_tb_mem 1071 (by decide +kernel) (by decide +kernel), Or.inl rfl⟩
theorem fl_X11_23_10 : g_fl RX11 23 10 6 := ⟨RX11, TX11, 42, "DutyBeatsModel", rfl, by decide, iX11, g_tb_mem 1072 (by decide +kernel) (by decide +kernel), Or.inl rfl⟩
theorem fl_X11_26_10 : g_fl RX11 26 10 7 := ⟨RX11, TX11, 42, "DutyBeatsModel", rfl, by decide, iX11, g_tb_mem 1073 (by decide +kernel) (by decide +kernel), Or.inl rfl⟩
theorem fl_X11_102_10 : g_fl RX11 102 10 8 := ⟨RX11, TX11, 42, "DutyBeatsModel", rfl, by decide, iX11, g_tb_mem 1074 (by decide +kernel) (by decide +kernel), Or.inl rfl⟩
theorem fl_X11_99_10 : g_fl RX11 99 10 9 := ⟨RX11, TX11, 42, "DutyBeatsModel", rfl, by decide, iX11, g_tb_mem 1075 (by decide +kernel) (by decide +kernel), Or.inl rfl⟩
theorem fl_X11_127_10 : g_fl RX11 127 10 10 := ⟨RX11, TX11, 42, "DutyBeatsModel", rfl, by decide, iX11, g_tb_mem 1076 (by decide +kernel) (by decide +kernel), Or.inl rfl⟩
theorem fl_X11_158_10 : g_fl RX11 158 10 11 := ⟨RX11, TX11, 42, "DutyBeatsModel", rfl, by decide, iX11, g_tb_mem 1077 (by decide +kernel) (by decide +kernel), Or.inl rfl⟩
theorem fl_X11_161_10 : g_fl RX11 161 10 12 := ⟨RX11, TX11, 42, "DutyBeatsModel", rfl, by decide, iX11, g_tb_mem 1078 (by decide +kernel) (by decide +kernel), Or.inl rfl⟩
theorem fl_X11_164_10 : g_fl RX11 164 10 13 := ⟨RX11, TX11, 42, "DutyBeatsModel", rfl, by decide, iX11, g_tb_mem 1079 (by decide +kernel) (by decide +kernel), Or.inl rfl⟩
theorem fl_X11_255_10 : g_fl RX11 255 10 14 := ⟨RX11, TX11, 42, "DutyBeatsModel", rfl, by decide, iX11, g_tb_mem 1080 (by decide +kernel) (by decide +kernel), Or.inl rfl⟩
theorem fl_X11_29_10 : g_fl RX11 29 10 15 := ⟨RX11, TX11, 42, "DutyBeatsModel", rfl, by decide, iX11, g_tb_mem 1081 (by decide +kernel) (by decide +kernel), Or.inl rfl⟩
theorem fl_X11_167_10 : g_fl RX11 167 10 16 := ⟨RX11, TX11, 42, "DutyBeatsModel", rfl, by decide, iX11, g_tb_mem 1082 (by decide +kernel) (by decide +kernel), Or.inl rfl⟩
theorem fl_X11_32_10 : g_fl RX11 32 10 17 := ⟨RX11, TX11, 42, "DutyBeatsModel", rfl, by decide, iX11, g_tb_mem 1083 (by decide +kernel) (by decide +kernel), Or.inl rfl⟩
theorem fl_X11_279_10 : g_fl RX11 279 10 18 := ⟨RX11, TX11, 42, "DutyBeatsModel", rfl, by decide, iX11, g_tb_mem 1084 (by decide +kernel) (by decide +kernel), Or.inl rfl⟩
theorem fl_X11_36_10 : g_fl RX11 36 10 19 := ⟨RX11, TX11, 42, "DutyBeatsModel", rfl, by decide, iX11, g_tb_mem 1085 (by decide +kernel) (by decide +kernel), Or.inl rfl⟩
theorem fl_X11_39_10 : g_fl RX11 39 10 20 := ⟨RX11, TX11, 42, "DutyBeatsModel", rfl, by decide, iX11, g_tb_mem 1086 (by decide +kernel) (by decide +kernel), Or.inl rfl⟩
theorem fl_X11_42_10 : g_fl RX11 42 10 21 := ⟨RX11, TX11, 42, "DutyBeatsModel", rfl, by decide, iX11, g_tb_mem 1087 (by decide +kernel) (by decide +kernel), Or.inl rfl⟩
theorem fl_X11_454_10 : g_fl RX11 454 10 22 := ⟨RX11, TX11, 42, "DutyBeatsModel", rfl, by decide, iX11, g_tb_mem 1088 (by decide +kernel) (by decide +kernel), Or.inl rfl⟩
theorem fl_X11_46_10 : g_fl RX11 46 10 23 := ⟨RX11, TX11, 42, "DutyBeatsModel", rfl, by decide, iX11, g_tb_mem 1089 (by decide +kernel) (by decide +kernel), Or.inl rfl⟩
theorem fl_X11_49_10 : g_fl RX11 49 10 24 := ⟨RX11, TX11, 42, "DutyBeatsModel", rfl, by decide, iX11, g_tb_mem 1090 (by decide +kernel) (by decide +kernel), Or.inl rfl⟩
theorem fl_X11_52_10 : g_fl RX11 52 10 25 := ⟨RX11, TX11, 42, "DutyBeatsModel", rfl, by decide, iX11, g_tb_mem 1091 (by decide +kernel) (by decide +kernel), Or.inl rfl⟩
theorem fl_X11_55_10 : g_fl RX11 55 10 26 := ⟨RX11, TX11, 42, "DutyBeatsModel", rfl, by decide, iX11, g_tb_mem 1092 (by decide +kernel) (by decide +kernel), Or.inl rfl⟩
theorem fl_X11_276_10 : g_fl RX11 276 10 27 := ⟨RX11, TX11, 42, "DutyBeatsModel", rfl, by decide, iX11, g_tb_mem 1093 (by decide +kernel) (by decide +kernel), Or.inl rfl⟩
theorem fl_X11_58_10 : g_fl RX11 58 10 28 := ⟨RX11, TX11, 42, "DutyBeatsModel", rfl, by decide, iX11, g_tb_mem 1094 (by decide +kernel) (by decide +kernel), Or.inl rfl⟩
theorem fl_X11_61_10 : g_fl RX11 61 10 29 := ⟨RX11, TX11, 42, "DutyBeatsModel", rfl, by decide, iX11, g_tb_mem 1095 (by decide +kernel) (by decide +kernel), Or.inl rfl⟩
theorem fl_X11_64_10 : g_fl RX11 64 10 30 := ⟨RX11, TX11, 42, "DutyBeatsModel", rfl, by decide, iX11, g_tb_mem 1096 (by decide +kernel) (by decide +kernel), Or.inl rfl⟩
theorem fl_X11_403_10 : g_fl RX11 403 10 31 := ⟨RX11, TX11, 42, "DutyBeatsModel", rfl, by decide, iX11, g_tb_mem 1097 (by decide +kernel) (by decide +kernel), Or.inl rfl⟩
theorem fl_X11_406_10 : g_fl RX11 406 10 32 := ⟨RX11, TX11, 42, "DutyBeatsModel", rfl, by decide, iX11, g_tb_mem 1098 (by decide +kernel) (by decide +kernel), Or.inl rfl⟩
theorem fl_X11_67_10 : g_fl RX11 67 10 33 := ⟨RX11, TX11, 42, "DutyBeatsModel", rfl, by decide, iX11, g_tb_mem 1099 (by decide +kernel) (by decide +kernel), Or.inl rfl⟩
theorem fl_X11_70_10 : g_fl RX11 70 10 34 := ⟨RX11, TX11, 42, "DutyBeatsModel", rfl, by decide, iX11, g_tb_mem 1100 (by decide +kernel) (by decide +kernel), Or.inl rfl⟩
theorem fl_X11_73_10 : g_fl RX11 73 10 35 := ⟨RX11, TX11, 42, "DutyBeatsModel", rfl, by decide, iX11, g_tb_mem 1101 (by decide +kernel) (by decide +kernel), Or.inl rfl⟩
theorem fl_X11_77_10 : g_fl RX11 77 10 36 := ⟨RX11, TX11, 42, "DutyBeatsModel", rfl, by decide, iX11, g_tb_mem 1102 (by decide +kernel) (by decide +kernel), Or.inl rfl⟩
theorem fl_X11_457_10 : g_fl RX11 457 10 37 := ⟨RX11, TX11, 42, "DutyBeatsModel", rfl, by decide, iX11, g_tb_mem 1103 (by decide +kernel) (by decide +kernel), Or.inl rfl⟩
theorem fl_X11_80_10 : g_fl RX11 80 10 38 := ⟨RX11, TX11, 42, "DutyBeatsModel", rfl, by decide, iX11, g_tb_mem 1104 (by decide +kernel) (by decide +kernel), Or.inl rfl⟩
theorem fl_X11_83_10 : g_fl RX11 83 10 39 := ⟨RX11, TX11, 42, "DutyBeatsModel", rfl, by decide, iX11, g_tb_mem 1105 (by decide +kernel) (by decide +kernel), Or.inl rfl⟩
theorem fl_X11_86_10 : g_fl RX11 86 10 40 := ⟨RX11, TX11, 42, "DutyBeatsModel", rfl, by decide, iX11, g_tb_mem 1106 (by decide +kernel) (by decide +kernel), Or.inl rfl⟩
theorem fl_X11_89_10 : g_fl RX11 89 10 41 := ⟨RX11, TX11, 42, "DutyBeatsModel", rfl, by decide, iX11, g_tb_mem 1107 (by decide +kernel) (by decide +kernel), Or.inl rfl⟩
theorem fw_0_0 : g_fw 0 0 true (.array (.object "DutyBeats$Junction")) := ⟨RX0, TX0, 3, tyX0, rfl, tyX0_ok, nmX0, rfl, by decide +kernel⟩
theorem fo_0_0 : g_own "DutyBeats$History" 0 0 := ⟨RX0, TX0, 3, rfl, rfl⟩
theorem fw_0_1 : g_fw 0 1 false .int := ⟨RX0, TX0, 3, tyX0, rfl, tyX0_ok, nmX0, rfl, by decide +kernel⟩
theorem fw_0_2 : g_fw 0 2 false .int := ⟨RX0, TX0, 3, tyX0, rfl, tyX0_ok, nmX0, rfl, by decide +kernel⟩
theorem fw_1_0 : g_fw 1 0 true (.object "DutyBeats$Junction") := ⟨RX1, TX1, 6, tyX1, rfl, tyX1_ok, nmX1, rfl, by decide +kernel⟩
theorem fo_1_0 : g_own "DutyBeats$Image" 1 0 := ⟨RX1, TX1, 6, rfl, rfl⟩
theorem fw_1_1 : g_fw 1 1 true (.object "DutyBeats$Junction") := ⟨RX1, TX1, 6, tyX1, rfl, tyX1_ok, nmX1, rfl, by decide +kernel⟩
theorem fo_1_1 : g_own "DutyBeats$Image" 1 1 := ⟨RX1, TX1, 6, rfl, rfl⟩
theorem fw_1_2 : g_fw 1 2 true (.object "DutyBeats$Notes") := ⟨RX1, TX1, 6, tyX1, rfl, tyX1_ok, nmX1, rfl, by decide +kernel⟩
theorem fo_1_2 : g_own "DutyBeats$Image" 1 2 := ⟨RX1, TX1, 6, rfl, rfl⟩
theorem fw_1_3 : g_fw 1 3 false .boolean := ⟨RX1, TX1, 6, tyX1, rfl, tyX1_ok, nmX1, rfl, by decide +kernel⟩
theorem fw_1_4 : g_fw 1 4 false .int := ⟨RX1, TX1, 6, tyX1, rfl, tyX1_ok, nmX1, rfl, by decide +kernel⟩
theorem fw_1_5 : g_fw 1 5 false .int := ⟨RX1, TX1, 6, tyX1, rfl, tyX1_ok, nmX1, rfl, by decide +kernel⟩
theorem fw_2_0 : g_fw 2 0 true (.array .int) := ⟨RX2, TX2, 15, tyX2, rfl, tyX2_ok, nmX2, rfl, by decide +kernel⟩
theorem fo_2_0 : g_own "DutyBeats$Junction" 2 0 := ⟨RX2, TX2, 15, rfl, rfl⟩
theorem fw_2_1 : g_fw 2 1 true (.array .int) := ⟨RX2, TX2, 15, tyX2, rfl, tyX2_ok, nmX2, rfl, by decide +kernel⟩
theorem fo_2_1 : g_own "DutyBeats$Junction" 2 1 := ⟨RX2, TX2, 15, rfl, rfl⟩
theorem fw_2_2 : g_fw 2 2 true (.array .int) := ⟨RX2, TX2, 15, tyX2, rfl, tyX2_ok, nmX2, rfl, by decide +kernel⟩
theorem fo_2_2 : g_own "DutyBeats$Junction" 2 2 := ⟨RX2, TX2, 15, rfl, rfl⟩
theorem fw_2_3 : g_fw 2 3 true (.array .int) := ⟨RX2, TX2, 15, tyX2, rfl, tyX2_ok, nmX2, rfl, by decide +kernel⟩
theorem fo_2_3 : g_own "DutyBeats$Junction" 2 3 := ⟨RX2, TX2, 15, rfl, rfl⟩
theorem fw_2_4 : g_fw 2 4 true (.array .int) := ⟨RX2, TX2, 15, tyX2, rfl, tyX2_ok, nmX2, rfl, by decide +kernel⟩
theorem fo_2_4 : g_own "DutyBeats$Junction" 2 4 := ⟨RX2, TX2, 15, rfl, rfl⟩
theorem fw_2_5 : g_fw 2 5 true (.array .int) := ⟨RX2, TX2, 15, tyX2, rfl, tyX2_ok, nmX2, rfl, by decide +kernel⟩
theorem fo_2_5 : g_own "DutyBeats$Junction" 2 5 := ⟨RX2, TX2, 15, rfl, rfl⟩
theorem fw_2_6 : g_fw 2 6 true (.array .int) := ⟨RX2, TX2, 15, tyX2, rfl, tyX2_ok, nmX2, rfl, by decide +kernel⟩
theorem fo_2_6 : g_own "DutyBeats$Junction" 2 6 := ⟨RX2, TX2, 15, rfl, rfl⟩
theorem fw_2_7 : g_fw 2 7 true (.array .int) := ⟨RX2, TX2, 15, tyX2, rfl, tyX2_ok, nmX2, rfl, by decide +kernel⟩
theorem fo_2_7 : g_own "DutyBeats$Junction" 2 7 := ⟨RX2, TX2, 15, rfl, rfl⟩
theorem fw_2_8 : g_fw 2 8 true (.array .int) := ⟨RX2, TX2, 15, tyX2, rfl, tyX2_ok, nmX2, rfl, by decide +kernel⟩
theorem fo_2_8 : g_own "DutyBeats$Junction" 2 8 := ⟨RX2, TX2, 15, rfl, rfl⟩
theorem fw_2_9 : g_fw 2 9 false .int := ⟨RX2, TX2, 15, tyX2, rfl, tyX2_ok, nmX2, rfl, by decide +kernel⟩
theorem fw_2_10 : g_fw 2 10 false .int := ⟨RX2, TX2, 15, tyX2, rfl, tyX2_ok, nmX2, rfl, by decide +kernel⟩
theorem fw_2_11 : g_fw 2 11 false .int := ⟨RX2, TX2, 15, tyX2, rfl, tyX2_ok, nmX2, rfl, by decide +kernel⟩
theorem fw_2_12 : g_fw 2 12 false .int := ⟨RX2, TX2, 15, tyX2, rfl, tyX2_ok, nmX2, rfl, by decide +kernel⟩
theorem fw_2_13 : g_fw 2 13 false .int := ⟨RX2, TX2, 15, tyX2, rfl, tyX2_ok, nmX2, rfl, by decide +kernel⟩
theorem fw_2_14 : g_fw 2 14 false .int := ⟨RX2, TX2, 15, tyX2, rfl, tyX2_ok, nmX2, rfl, by decide +kernel⟩
theorem fw_3_0 : g_fw 3 0 true (.object "DutyBeats$Tape") := ⟨RX3, TX3, 2, tyX3, rfl, tyX3_ok, nmX3, rfl, by decide +kernel⟩
theorem fo_3_0 : g_own "DutyBeats$Text" 3 0 := ⟨RX3, TX3, 2, rfl, rfl⟩
theorem fw_3_1 : g_fw 3 1 true (.object "DutyBeats$Junction") := ⟨RX3, TX3, 2, tyX3, rfl, tyX3_ok, nmX3, rfl, by decide +kernel⟩
theorem fo_3_1 : g_own "DutyBeats$JunctionText" 3 1 := ⟨RX3, TX3, 2, rfl, rfl⟩
theorem fw_4_0 : g_fw 4 0 true (.array .int) := ⟨RX4, TX4, 4, tyX4, rfl, tyX4_ok, nmX4, rfl, by decide +kernel⟩
theorem fo_4_0 : g_own "DutyBeats$Notes" 4 0 := ⟨RX4, TX4, 4, rfl, rfl⟩
theorem fw_4_1 : g_fw 4 1 true (.array .int) := ⟨RX4, TX4, 4, tyX4, rfl, tyX4_ok, nmX4, rfl, by decide +kernel⟩
theorem fo_4_1 : g_own "DutyBeats$Notes" 4 1 := ⟨RX4, TX4, 4, rfl, rfl⟩
theorem fw_4_2 : g_fw 4 2 true (.array .int) := ⟨RX4, TX4, 4, tyX4, rfl, tyX4_ok, nmX4, rfl, by decide +kernel⟩
theorem fo_4_2 : g_own "DutyBeats$Notes" 4 2 := ⟨RX4, TX4, 4, rfl, rfl⟩
theorem fw_4_3 : g_fw 4 3 false .int := ⟨RX4, TX4, 4, tyX4, rfl, tyX4_ok, nmX4, rfl, by decide +kernel⟩
theorem fw_5_0 : g_fw 5 0 true (.array (.array .int)) := ⟨RX5, TX5, 12, tyX5, rfl, tyX5_ok, nmX5, rfl, by decide +kernel⟩
theorem fo_5_0 : g_own "DutyBeats$RowSearch" 5 0 := ⟨RX5, TX5, 12, rfl, rfl⟩
theorem fw_5_1 : g_fw 5 1 true (.array (.array .int)) := ⟨RX5, TX5, 12, tyX5, rfl, tyX5_ok, nmX5, rfl, by decide +kernel⟩
theorem fo_5_1 : g_own "DutyBeats$RowSearch" 5 1 := ⟨RX5, TX5, 12, rfl, rfl⟩
theorem fw_5_2 : g_fw 5 2 true (.array .int) := ⟨RX5, TX5, 12, tyX5, rfl, tyX5_ok, nmX5, rfl, by decide +kernel⟩
theorem fo_5_2 : g_own "DutyBeats$RowSearch" 5 2 := ⟨RX5, TX5, 12, rfl, rfl⟩
theorem fw_5_3 : g_fw 5 3 true (.array .int) := ⟨RX5, TX5, 12, tyX5, rfl, tyX5_ok, nmX5, rfl, by decide +kernel⟩
theorem fo_5_3 : g_own "DutyBeats$RowSearch" 5 3 := ⟨RX5, TX5, 12, rfl, rfl⟩
theorem fw_5_4 : g_fw 5 4 true (.array .int) := ⟨RX5, TX5, 12, tyX5, rfl, tyX5_ok, nmX5, rfl, by decide +kernel⟩
theorem fo_5_4 : g_own "DutyBeats$RowSearch" 5 4 := ⟨RX5, TX5, 12, rfl, rfl⟩
theorem fw_5_5 : g_fw 5 5 true (.array .int) := ⟨RX5, TX5, 12, tyX5, rfl, tyX5_ok, nmX5, rfl, by decide +kernel⟩
theorem fo_5_5 : g_own "DutyBeats$RowSearch" 5 5 := ⟨RX5, TX5, 12, rfl, rfl⟩
theorem fw_5_6 : g_fw 5 6 false .int := ⟨RX5, TX5, 12, tyX5, rfl, tyX5_ok, nmX5, rfl, by decide +kernel⟩
theorem fw_5_7 : g_fw 5 7 false .int := ⟨RX5, TX5, 12, tyX5, rfl, tyX5_ok, nmX5, rfl, by decide +kernel⟩
theorem fw_5_8 : g_fw 5 8 false .int := ⟨RX5, TX5, 12, tyX5, rfl, tyX5_ok, nmX5, rfl, by decide +kernel⟩
theorem fw_5_9 : g_fw 5 9 false .int := ⟨RX5, TX5, 12, tyX5, rfl, tyX5_ok, nmX5, rfl, by decide +kernel⟩
theorem fw_5_10 : g_fw 5 10 false .int := ⟨RX5, TX5, 12, tyX5, rfl, tyX5_ok, nmX5, rfl, by decide +kernel⟩
theorem fw_5_11 : g_fw 5 11 false .int := ⟨RX5, TX5, 12, tyX5, rfl, tyX5_ok, nmX5, rfl, by decide +kernel⟩
theorem fw_6_0 : g_fw 6 0 true (.array .int) := ⟨RX6, TX6, 2, tyX6, rfl, tyX6_ok, nmX6, rfl, by decide +kernel⟩
theorem fo_6_0 : g_own "DutyBeats$Rule" 6 0 := ⟨RX6, TX6, 2, rfl, rfl⟩
theorem fw_6_1 : g_fw 6 1 true (.array .long) := ⟨RX6, TX6, 2, tyX6, rfl, tyX6_ok, nmX6, rfl, by decide +kernel⟩
theorem fo_6_1 : g_own "DutyBeats$Rule" 6 1 := ⟨RX6, TX6, 2, rfl, rfl⟩
theorem fw_7_0 : g_fw 7 0 true (.object "DutyBeats$Tape") := ⟨RX7, TX7, 4, tyX7, rfl, tyX7_ok, nmX7, rfl, by decide +kernel⟩
theorem fo_7_0 : g_own "DutyBeats$Text" 7 0 := ⟨RX7, TX7, 4, rfl, rfl⟩
theorem fw_7_1 : g_fw 7 1 true (.array .int) := ⟨RX7, TX7, 4, tyX7, rfl, tyX7_ok, nmX7, rfl, by decide +kernel⟩
theorem fo_7_1 : g_own "DutyBeats$RuleText" 7 1 := ⟨RX7, TX7, 4, rfl, rfl⟩
theorem fw_7_2 : g_fw 7 2 false .int := ⟨RX7, TX7, 4, tyX7, rfl, tyX7_ok, nmX7, rfl, by decide +kernel⟩
theorem fw_7_3 : g_fw 7 3 false .int := ⟨RX7, TX7, 4, tyX7, rfl, tyX7_ok, nmX7, rfl, by decide +kernel⟩
theorem fw_8_0 : g_fw 8 0 true (.array .byte) := ⟨RX8, TX8, 7, tyX8, rfl, tyX8_ok, nmX8, rfl, by decide +kernel⟩
theorem fo_8_0 : g_own "DutyBeats$Tape" 8 0 := ⟨RX8, TX8, 7, rfl, rfl⟩
theorem fw_8_1 : g_fw 8 1 false .int := ⟨RX8, TX8, 7, tyX8, rfl, tyX8_ok, nmX8, rfl, by decide +kernel⟩
theorem fw_8_2 : g_fw 8 2 false .int := ⟨RX8, TX8, 7, tyX8, rfl, tyX8_ok, nmX8, rfl, by decide +kernel⟩
theorem fw_8_3 : g_fw 8 3 false .int := ⟨RX8, TX8, 7, tyX8, rfl, tyX8_ok, nmX8, rfl, by decide +kernel⟩
theorem fw_8_4 : g_fw 8 4 false .int := ⟨RX8, TX8, 7, tyX8, rfl, tyX8_ok, nmX8, rfl, by decide +kernel⟩
theorem fw_8_5 : g_fw 8 5 false .int := ⟨RX8, TX8, 7, tyX8, rfl, tyX8_ok, nmX8, rfl, by decide +kernel⟩
theorem fw_8_6 : g_fw 8 6 false .int := ⟨RX8, TX8, 7, tyX8, rfl, tyX8_ok, nmX8, rfl, by decide +kernel⟩
theorem fw_9_0 : g_fw 9 0 true (.object "DutyBeats$Tape") := ⟨RX10, TX10, 19, tyX10, rfl, tyX10_ok, nmX10, rfl, by decide +kernel⟩
theorem fo_9_0 : g_own "DutyBeats" 9 0 := ⟨RX10, TX10, 19, rfl, rfl⟩
theorem fw_9_1 : g_fw 9 1 true (.object "DutyBeats$Junction") := ⟨RX10, TX10, 19, tyX10, rfl, tyX10_ok, nmX10, rfl, by decide +kernel⟩
theorem fo_9_1 : g_own "DutyBeats" 9 1 := ⟨RX10, TX10, 19, rfl, rfl⟩
theorem fw_9_2 : g_fw 9 2 true (.object "DutyBeats$Junction") := ⟨RX10, TX10, 19, tyX10, rfl, tyX10_ok, nmX10, rfl, by decide +kernel⟩
theorem fo_9_2 : g_own "DutyBeats" 9 2 := ⟨RX10, TX10, 19, rfl, rfl⟩
theorem fw_9_3 : g_fw 9 3 true (.object "DutyBeats$Junction") := ⟨RX10, TX10, 19, tyX10, rfl, tyX10_ok, nmX10, rfl, by decide +kernel⟩
theorem fo_9_3 : g_own "DutyBeats" 9 3 := ⟨RX10, TX10, 19, rfl, rfl⟩
theorem fw_9_4 : g_fw 9 4 true (.object "DutyBeats$JunctionText") := ⟨RX10, TX10, 19, tyX10, rfl, tyX10_ok, nmX10, rfl, by decide +kernel⟩
theorem fo_9_4 : g_own "DutyBeats" 9 4 := ⟨RX10, TX10, 19, rfl, rfl⟩
theorem fw_9_5 : g_fw 9 5 true (.object "DutyBeats$RuleText") := ⟨RX10, TX10, 19, tyX10, rfl, tyX10_ok, nmX10, rfl, by decide +kernel⟩
theorem fo_9_5 : g_own "DutyBeats" 9 5 := ⟨RX10, TX10, 19, rfl, rfl⟩
theorem fw_9_6 : g_fw 9 6 true (.array (.object "DutyBeats$Rule")) := ⟨RX10, TX10, 19, tyX10, rfl, tyX10_ok, nmX10, rfl, by decide +kernel⟩
theorem fo_9_6 : g_own "DutyBeats" 9 6 := ⟨RX10, TX10, 19, rfl, rfl⟩
theorem fw_9_7 : g_fw 9 7 true (.object "DutyBeats$History") := ⟨RX10, TX10, 19, tyX10, rfl, tyX10_ok, nmX10, rfl, by decide +kernel⟩
theorem fo_9_7 : g_own "DutyBeats" 9 7 := ⟨RX10, TX10, 19, rfl, rfl⟩
theorem fw_9_8 : g_fw 9 8 true (.object "DutyBeats$Notes") := ⟨RX10, TX10, 19, tyX10, rfl, tyX10_ok, nmX10, rfl, by decide +kernel⟩
theorem fo_9_8 : g_own "DutyBeats" 9 8 := ⟨RX10, TX10, 19, rfl, rfl⟩
theorem fw_9_9 : g_fw 9 9 true (.array (.object "DutyBeats$Image")) := ⟨RX10, TX10, 19, tyX10, rfl, tyX10_ok, nmX10, rfl, by decide +kernel⟩
theorem fo_9_9 : g_own "DutyBeats" 9 9 := ⟨RX10, TX10, 19, rfl, rfl⟩
theorem fw_9_10 : g_fw 9 10 true (.object "DutyBeats$RowSearch") := ⟨RX10, TX10, 19, tyX10, rfl, tyX10_ok, nmX10, rfl, by decide +kernel⟩
theorem fo_9_10 : g_own "DutyBeats" 9 10 := ⟨RX10, TX10, 19, rfl, rfl⟩
theorem fw_9_11 : g_fw 9 11 true (.array .int) := ⟨RX10, TX10, 19, tyX10, rfl, tyX10_ok, nmX10, rfl, by decide +kernel⟩
theorem fo_9_11 : g_own "DutyBeats" 9 11 := ⟨RX10, TX10, 19, rfl, rfl⟩
theorem fw_9_12 : g_fw 9 12 true (.array .int) := ⟨RX10, TX10, 19, tyX10, rfl, tyX10_ok, nmX10, rfl, by decide +kernel⟩
theorem fo_9_12 : g_own "DutyBeats" 9 12 := ⟨RX10, TX10, 19, rfl, rfl⟩
theorem fw_9_13 : g_fw 9 13 true (.array .int) := ⟨RX10, TX10, 19, tyX10, rfl, tyX10_ok, nmX10, rfl, by decide +kernel⟩
theorem fo_9_13 : g_own "DutyBeats" 9 13 := ⟨RX10, TX10, 19, rfl, rfl⟩
theorem fw_9_14 : g_fw 9 14 true (.array .int) := ⟨RX10, TX10, 19, tyX10, rfl, tyX10_ok, nmX10, rfl, by decide +kernel⟩
theorem fo_9_14 : g_own "DutyBeats" 9 14 := ⟨RX10, TX10, 19, rfl, rfl⟩
theorem fw_9_15 : g_fw 9 15 true (.array .int) := ⟨RX10, TX10, 19, tyX10, rfl, tyX10_ok, nmX10, rfl, by decide +kernel⟩
theorem fo_9_15 : g_own "DutyBeats" 9 15 := ⟨RX10, TX10, 19, rfl, rfl⟩
theorem fw_9_16 : g_fw 9 16 false .int := ⟨RX10, TX10, 19, tyX10, rfl, tyX10_ok, nmX10, rfl, by decide +kernel⟩
theorem fw_9_17 : g_fw 9 17 false .int := ⟨RX10, TX10, 19, tyX10, rfl, tyX10_ok, nmX10, rfl, by decide +kernel⟩
theorem fw_9_18 : g_fw 9 18 false .int := ⟨RX10, TX10, 19, tyX10, rfl, tyX10_ok, nmX10, rfl, by decide +kernel⟩
theorem fw_10_0 : g_fw 10 0 true (.array .byte) := ⟨RX11, TX11, 42, tyX11, rfl, tyX11_ok, nmX11, rfl, by decide +kernel⟩
theorem fo_10_0 : g_own "DutyBeatsModel" 10 0 := ⟨RX11, TX11, 42, rfl, rfl⟩
theorem fw_10_1 : g_fw 10 1 false .int := ⟨RX11, TX11, 42, tyX11, rfl, tyX11_ok, nmX11, rfl, by decide +kernel⟩
theorem fw_10_2 : g_fw 10 2 false .int := ⟨RX11, TX11, 42, tyX11, rfl, tyX11_ok, nmX11, rfl, by decide +kernel⟩
theorem fw_10_3 : g_fw 10 3 true (.array .int) := ⟨RX11, TX11, 42, tyX11, rfl, tyX11_ok, nmX11, rfl, by decide +kernel⟩
theorem fo_10_3 : g_own "DutyBeatsModel" 10 3 := ⟨RX11, TX11, 42, rfl, rfl⟩
theorem fw_10_4 : g_fw 10 4 true (.array .int) := ⟨RX11, TX11, 42, tyX11, rfl, tyX11_ok, nmX11, rfl, by decide +kernel⟩
theorem fo_10_4 : g_own "DutyBeatsModel" 10 4 := ⟨RX11, TX11, 42, rfl, rfl⟩
theorem fw_10_5 : g_fw 10 5 true (.array .int) := ⟨RX11, TX11, 42, tyX11, rfl, tyX11_ok, nmX11, rfl, by decide +kernel⟩
theorem fo_10_5 : g_own "DutyBeatsModel" 10 5 := ⟨RX11, TX11, 42, rfl, rfl⟩
theorem fw_10_6 : g_fw 10 6 true (.array .int) := ⟨RX11, TX11, 42, tyX11, rfl, tyX11_ok, nmX11, rfl, by decide +kernel⟩
theorem fo_10_6 : g_own "DutyBeatsModel" 10 6 := ⟨RX11, TX11, 42, rfl, rfl⟩
theorem fw_10_7 : g_fw 10 7 true (.array .int) := ⟨RX11, TX11, 42, tyX11, rfl, tyX11_ok, nmX11, rfl, by decide +kernel⟩
theorem fo_10_7 : g_own "DutyBeatsModel" 10 7 := ⟨RX11, TX11, 42, rfl, rfl⟩
theorem fw_10_8 : g_fw 10 8 false .int := ⟨RX11, TX11, 42, tyX11, rfl, tyX11_ok, nmX11, rfl, by decide +kernel⟩
theorem fw_10_9 : g_fw 10 9 false .int := ⟨RX11, TX11, 42, tyX11, rfl, tyX11_ok, nmX11, rfl, by decide +kernel⟩
theorem fw_10_10 : g_fw 10 10 false .int := ⟨RX11, TX11, 42, tyX11, rfl, tyX11_ok, nmX11, rfl, by decide +kernel⟩
theorem fw_10_11 : g_fw 10 11 false .int := ⟨RX11, TX11, 42, tyX11, rfl, tyX11_ok, nmX11, rfl, by decide +kernel⟩
theorem fw_10_12 : g_fw 10 12 false .int := ⟨RX11, TX11, 42, tyX11, rfl, tyX11_ok, nmX11, rfl, by decide +kernel⟩
theorem fw_10_13 : g_fw 10 13 false .int := ⟨RX11, TX11, 42, tyX11, rfl, tyX11_ok, nmX11, rfl, by decide +kernel⟩
theorem fw_10_14 : g_fw 10 14 false .int := ⟨RX11, TX11, 42, tyX11, rfl, tyX11_ok, nmX11, rfl, by decide +kernel⟩
theorem fw_10_15 : g_fw 10 15 true (.array .int) := ⟨RX11, TX11, 42, tyX11, rfl, tyX11_ok, nmX11, rfl, by decide +kernel⟩
theorem fo_10_15 : g_own "DutyBeatsModel" 10 15 := ⟨RX11, TX11, 42, rfl, rfl⟩
theorem fw_10_16 : g_fw 10 16 false .int := ⟨RX11, TX11, 42, tyX11, rfl, tyX11_ok, nmX11, rfl, by decide +kernel⟩
theorem fw_10_17 : g_fw 10 17 true (.array .long) := ⟨RX11, TX11, 42, tyX11, rfl, tyX11_ok, nmX11, rfl, by decide +kernel⟩
theorem fo_10_17 : g_own "DutyBeatsModel" 10 17 := ⟨RX11, TX11, 42, rfl, rfl⟩
theorem fw_10_18 : g_fw 10 18 false .int := ⟨RX11, TX11, 42, tyX11, rfl, tyX11_ok, nmX11, rfl, by decide +kernel⟩
theorem fw_10_19 : g_fw 10 19 true (.array .long) := ⟨RX11, TX11, 42, tyX11, rfl, tyX11_ok, nmX11, rfl, by decide +kernel⟩
theorem fo_10_19 : g_own "DutyBeatsModel" 10 19 := ⟨RX11, TX11, 42, rfl, rfl⟩
theorem fw_10_20 : g_fw 10 20 true (.array .int) := ⟨RX11, TX11, 42, tyX11, rfl, tyX11_ok, nmX11, rfl, by decide +kernel⟩
theorem fo_10_20 : g_own "DutyBeatsModel" 10 20 := ⟨RX11, TX11, 42, rfl, rfl⟩
theorem fw_10_21 : g_fw 10 21 false .int := ⟨RX11, TX11, 42, tyX11, rfl, tyX11_ok, nmX11, rfl, by decide +kernel⟩
theorem fw_10_22 : g_fw 10 22 false .int := ⟨RX11, TX11, 42, tyX11, rfl, tyX11_ok, nmX11, rfl, by decide +kernel⟩
theorem fw_10_23 : g_fw 10 23 false .int := ⟨RX11, TX11, 42, tyX11, rfl, tyX11_ok, nmX11, rfl, by decide +kernel⟩
theorem fw_10_24 : g_fw 10 24 false .int := ⟨RX11, TX11, 42, tyX11, rfl, tyX11_ok, nmX11, rfl, by decide +kernel⟩
theorem fw_10_25 : g_fw 10 25 true (.array .int) := ⟨RX11, TX11, 42, tyX11, rfl, tyX11_ok, nmX11, rfl, by decide +kernel⟩
theorem fo_10_25 : g_own "DutyBeatsModel" 10 25 := ⟨RX11, TX11, 42, rfl, rfl⟩
theorem fw_10_26 : g_fw 10 26 true (.array .int) := ⟨RX11, TX11, 42, tyX11, rfl, tyX11_ok, nmX11, rfl, by decide +kernel⟩
theorem fo_10_26 : g_own "DutyBeatsModel" 10 26 := ⟨RX11, TX11, 42, rfl, rfl⟩
theorem fw_10_27 : g_fw 10 27 false .int := ⟨RX11, TX11, 42, tyX11, rfl, tyX11_ok, nmX11, rfl, by decide +kernel⟩
theorem fw_10_28 : g_fw 10 28 true (.array .int) := ⟨RX11, TX11, 42, tyX11, rfl, tyX11_ok, nmX11, rfl, by decide +kernel⟩
theorem fo_10_28 : g_own "DutyBeatsModel" 10 28 := ⟨RX11, TX11, 42, rfl, rfl⟩
theorem fw_10_29 : g_fw 10 29 true (.array .int) := ⟨RX11, TX11, 42, tyX11, rfl, tyX11_ok, nmX11, rfl, by decide +kernel⟩
theorem fo_10_29 : g_own "DutyBeatsModel" 10 29 := ⟨RX11, TX11, 42, rfl, rfl⟩
theorem fw_10_30 : g_fw 10 30 true (.array .int) := ⟨RX11, TX11, 42, tyX11, rfl, tyX11_ok, nmX11, rfl, by decide +kernel⟩
theorem fo_10_30 : g_own "DutyBeatsModel" 10 30 := ⟨RX11, TX11, 42, rfl, rfl⟩
theorem fw_10_31 : g_fw 10 31 false .int := ⟨RX11, TX11, 42, tyX11, rfl, tyX11_ok, nmX11, rfl, by decide +kernel⟩
theorem fw_10_32 : g_fw 10 32 false .int := ⟨RX11, TX11, 42, tyX11, rfl, tyX11_ok, nmX11, rfl, by decide +kernel⟩
theorem fw_10_33 : g_fw 10 33 true (.array .int) := ⟨RX11, TX11, 42, tyX11, rfl, tyX11_ok, nmX11, rfl, by decide +kernel⟩
theorem fo_10_33 : g_own "DutyBeatsModel" 10 33 := ⟨RX11, TX11, 42, rfl, rfl⟩
theorem fw_10_34 : g_fw 10 34 true (.array .int) := ⟨RX11, TX11, 42, tyX11, rfl, tyX11_ok, nmX11, rfl, by decide +kernel⟩
theorem fo_10_34 : g_own "DutyBeatsModel" 10 34 := ⟨RX11, TX11, 42, rfl, rfl⟩
theorem fw_10_35 : g_fw 10 35 true (.array .boolean) := ⟨RX11, TX11, 42, tyX11, rfl, tyX11_ok, nmX11, rfl, by decide +kernel⟩
theorem fo_10_35 : g_own "DutyBeatsModel" 10 35 := ⟨RX11, TX11, 42, rfl, rfl⟩
theorem fw_10_36 : g_fw 10 36 true (.array .int) := ⟨RX11, TX11, 42, tyX11, rfl, tyX11_ok, nmX11, rfl, by decide +kernel⟩
theorem fo_10_36 : g_own "DutyBeatsModel" 10 36 := ⟨RX11, TX11, 42, rfl, rfl⟩
theorem fw_10_37 : g_fw 10 37 false .long := ⟨RX11, TX11, 42, tyX11, rfl, tyX11_ok, nmX11, rfl, by decide +kernel⟩
theorem fw_10_38 : g_fw 10 38 true (.array .int) := ⟨RX11, TX11, 42, tyX11, rfl, tyX11_ok, nmX11, rfl, by decide +kernel⟩
theorem fo_10_38 : g_own "DutyBeatsModel" 10 38 := ⟨RX11, TX11, 42, rfl, rfl⟩
theorem fw_10_39 : g_fw 10 39 true (.array .int) := ⟨RX11, TX11, 42, tyX11, rfl, tyX11_ok, nmX11, rfl, by decide +kernel⟩
theorem fo_10_39 : g_own "DutyBeatsModel" 10 39 := ⟨RX11, TX11, 42, rfl, rfl⟩
theorem fw_10_40 : g_fw 10 40 true (.array .int) := ⟨RX11, TX11, 42, tyX11, rfl, tyX11_ok, nmX11, rfl, by decide +kernel⟩
theorem fo_10_40 : g_own "DutyBeatsModel" 10 40 := ⟨RX11, TX11, 42, rfl, rfl⟩
theorem fw_10_41 : g_fw 10 41 true (.array .boolean) := ⟨RX11, TX11, 42, tyX11, rfl, tyX11_ok, nmX11, rfl, by decide +kernel⟩
theorem fo_10_41 : g_own "DutyBeatsModel" 10 41 := ⟨RX11, TX11, 42, rfl, rfl⟩
def mX0_init : gMi := (yX0_init, cX0_init, 2, none)
theorem cd_X0_init : g_cd mX0_init := ⟨g_tb_mem 292 (by decide +kernel) (by decide +kernel), g_tb_mem 113 (by decide +kernel) (by decide +kernel), ⟨by decide +kernel, by decide +kernel⟩, by decide⟩
theorem np_X0_init : g_np mX0_init 0 := (by decide +kernel : (parseMethodDescriptor mX0_init.1.desc).map (fun d => d.parameters.length) = some 0)
def mX0_keep : gMi := (yX0_keep, cX0_keep, 2, none)
theorem cd_X0_keep : g_cd mX0_keep := ⟨g_tb_mem 756 (by decide +kernel) (by decide +kernel), g_tb_mem 113 (by decide +kernel) (by decide +kernel), ⟨by decide +kernel, by decide +kernel⟩, by decide⟩
theorem np_X0_keep : g_np mX0_keep 1 := (by decide +kernel : (parseMethodDescriptor mX0_keep.1.desc).map (fun d => d.parameters.length) = some 1)
def mX0_takeBack : gMi := (yX0_takeBack, cX0_takeBack, 2, none)
theorem cd_X0_takeBack : g_cd mX0_takeBack := ⟨g_tb_mem 849 (by decide +kernel) (by decide +kernel), g_tb_mem 113 (by decide +kernel) (by decide +kernel), ⟨by decide +kernel, by decide +kernel⟩, by decide⟩
theorem np_X0_takeBack : g_np mX0_takeBack 1 := (by decide +kernel : (parseMethodDescriptor mX0_takeBack.1.desc).map (fun d => d.parameters.length) = some 1)
def mX1_init : gMi := (yX1_init, cX1_init, 1, none)
theorem cd_X1_init : g_cd mX1_init := ⟨g_tb_mem 383 (by decide +kernel) (by decide +kernel), g_tb_mem 116 (by decide +kernel) (by decide +kernel), ⟨by decide +kernel, by decide +kernel⟩, by decide⟩
theorem np_X1_init : g_np mX1_init 0 := (by decide +kernel : (parseMethodDescriptor mX1_init.1.desc).map (fun d => d.parameters.length) = some 0)
def mX2_init : gMi := (yX2_init, cX2_init, 1, none)
theorem cd_X2_init : g_cd mX2_init := ⟨g_tb_mem 177 (by decide +kernel) (by decide +kernel), g_tb_mem 109 (by decide +kernel) (by decide +kernel), ⟨by decide +kernel, by decide +kernel⟩, by decide⟩
theorem np_X2_init : g_np mX2_init 0 := (by decide +kernel : (parseMethodDescriptor mX2_init.1.desc).map (fun d => d.parameters.length) = some 0)
def mX2_forget : gMi := (yX2_forget, cX2_forget, 1, none)
theorem cd_X2_forget : g_cd mX2_forget := ⟨g_tb_mem 491 (by decide +kernel) (by decide +kernel), g_tb_mem 109 (by decide +kernel) (by decide +kernel), ⟨by decide +kernel, by decide +kernel⟩, by decide⟩
theorem np_X2_forget : g_np mX2_forget 0 := (by decide +kernel : (parseMethodDescriptor mX2_forget.1.desc).map (fun d => d.parameters.length) = some 0)
def mX2_copyFrom : gMi := (yX2_copyFrom, cX2_copyFrom, 2, none)
theorem cd_X2_copyFrom : g_cd mX2_copyFrom := ⟨g_tb_mem 651 (by decide +kernel) (by decide +kernel), g_tb_mem 109 (by decide +kernel) (by decide +kernel), ⟨by decide +kernel, by decide +kernel⟩, by decide⟩
theorem np_X2_copyFrom : g_np mX2_copyFrom 1 := (by decide +kernel : (parseMethodDescriptor mX2_copyFrom.1.desc).map (fun d => d.parameters.length) = some 1)
def mX2_addRoad : gMi := (yX2_addRoad, cX2_addRoad, 4, none)
theorem cd_X2_addRoad : g_cd mX2_addRoad := ⟨g_tb_mem 589 (by decide +kernel) (by decide +kernel), g_tb_mem 109 (by decide +kernel) (by decide +kernel), ⟨by decide +kernel, by decide +kernel⟩, by decide⟩
theorem np_X2_addRoad : g_np mX2_addRoad 3 := (by decide +kernel : (parseMethodDescriptor mX2_addRoad.1.desc).map (fun d => d.parameters.length) = some 3)
def mX2_isTold : gMi := (yX2_isTold, cX2_isTold, 1, some .boolean)
theorem cd_X2_isTold : g_cd mX2_isTold := ⟨g_tb_mem 752 (by decide +kernel) (by decide +kernel), g_tb_mem 109 (by decide +kernel) (by decide +kernel), ⟨by decide +kernel, by decide +kernel⟩, by decide⟩
theorem np_X2_isTold : g_np mX2_isTold 0 := (by decide +kernel : (parseMethodDescriptor mX2_isTold.1.desc).map (fun d => d.parameters.length) = some 0)
def mX2_hasRoad : gMi := (yX2_hasRoad, cX2_hasRoad, 2, some .boolean)
theorem cd_X2_hasRoad : g_cd mX2_hasRoad := ⟨g_tb_mem 715 (by decide +kernel) (by decide +kernel), g_tb_mem 109 (by decide +kernel) (by decide +kernel), ⟨by decide +kernel, by decide +kernel⟩, by decide⟩
theorem np_X2_hasRoad : g_np mX2_hasRoad 1 := (by decide +kernel : (parseMethodDescriptor mX2_hasRoad.1.desc).map (fun d => d.parameters.length) = some 1)
def mX2_hasBeat : gMi := (yX2_hasBeat, cX2_hasBeat, 2, some .boolean)
theorem cd_X2_hasBeat : g_cd mX2_hasBeat := ⟨g_tb_mem 728 (by decide +kernel) (by decide +kernel), g_tb_mem 109 (by decide +kernel) (by decide +kernel), ⟨by decide +kernel, by decide +kernel⟩, by decide⟩
theorem np_X2_hasBeat : g_np mX2_hasBeat 1 := (by decide +kernel : (parseMethodDescriptor mX2_hasBeat.1.desc).map (fun d => d.parameters.length) = some 1)
def mX2_beatOfBar : gMi := (yX2_beatOfBar, cX2_beatOfBar, 1, some .int)
theorem cd_X2_beatOfBar : g_cd mX2_beatOfBar := ⟨g_tb_mem 736 (by decide +kernel) (by decide +kernel), g_tb_mem 109 (by decide +kernel) (by decide +kernel), ⟨by decide +kernel, by decide +kernel⟩, by decide⟩
theorem np_X2_beatOfBar : g_np mX2_beatOfBar 0 := (by decide +kernel : (parseMethodDescriptor mX2_beatOfBar.1.desc).map (fun d => d.parameters.length) = some 0)
def mX2_sumOf : gMi := (yX2_sumOf, cX2_sumOf, 4, some .int)
theorem cd_X2_sumOf : g_cd mX2_sumOf := ⟨g_tb_mem 740 (by decide +kernel) (by decide +kernel), g_tb_mem 109 (by decide +kernel) (by decide +kernel), ⟨by decide +kernel, by decide +kernel⟩, by decide⟩
theorem np_X2_sumOf : g_np mX2_sumOf 1 := (by decide +kernel : (parseMethodDescriptor mX2_sumOf.1.desc).map (fun d => d.parameters.length) = some 1)
def mX2_fullest : gMi := (yX2_fullest, cX2_fullest, 3, some .int)
theorem cd_X2_fullest : g_cd mX2_fullest := ⟨g_tb_mem 943 (by decide +kernel) (by decide +kernel), g_tb_mem 109 (by decide +kernel) (by decide +kernel), ⟨by decide +kernel, by decide +kernel⟩, by decide⟩
theorem np_X2_fullest : g_np mX2_fullest 0 := (by decide +kernel : (parseMethodDescriptor mX2_fullest.1.desc).map (fun d => d.parameters.length) = some 0)
def mX2_sinceLetIn : gMi := (yX2_sinceLetIn, cX2_sinceLetIn, 2, some .int)
theorem cd_X2_sinceLetIn : g_cd mX2_sinceLetIn := ⟨g_tb_mem 719 (by decide +kernel) (by decide +kernel), g_tb_mem 109 (by decide +kernel) (by decide +kernel), ⟨by decide +kernel, by decide +kernel⟩, by decide⟩
theorem np_X2_sinceLetIn : g_np mX2_sinceLetIn 1 := (by decide +kernel : (parseMethodDescriptor mX2_sinceLetIn.1.desc).map (fun d => d.parameters.length) = some 1)
def mX2_isPeaceful : gMi := (yX2_isPeaceful, cX2_isPeaceful, 3, some .boolean)
theorem cd_X2_isPeaceful : g_cd mX2_isPeaceful := ⟨g_tb_mem 872 (by decide +kernel) (by decide +kernel), g_tb_mem 109 (by decide +kernel) (by decide +kernel), ⟨by decide +kernel, by decide +kernel⟩, by decide⟩
theorem np_X2_isPeaceful : g_np mX2_isPeaceful 1 := (by decide +kernel : (parseMethodDescriptor mX2_isPeaceful.1.desc).map (fun d => d.parameters.length) = some 1)
def mX2_soundOf : gMi := (yX2_soundOf, cX2_soundOf, 4, some .int)
theorem cd_X2_soundOf : g_cd mX2_soundOf := ⟨g_tb_mem 819 (by decide +kernel) (by decide +kernel), g_tb_mem 109 (by decide +kernel) (by decide +kernel), ⟨by decide +kernel, by decide +kernel⟩, by decide⟩
theorem np_X2_soundOf : g_np mX2_soundOf 1 := (by decide +kernel : (parseMethodDescriptor mX2_soundOf.1.desc).map (fun d => d.parameters.length) = some 1)
def mX2_soundWith : gMi := (yX2_soundWith, cX2_soundWith, 6, some .int)
theorem cd_X2_soundWith : g_cd mX2_soundWith := ⟨g_tb_mem 793 (by decide +kernel) (by decide +kernel), g_tb_mem 109 (by decide +kernel) (by decide +kernel), ⟨by decide +kernel, by decide +kernel⟩, by decide⟩
theorem np_X2_soundWith : g_np mX2_soundWith 2 := (by decide +kernel : (parseMethodDescriptor mX2_soundWith.1.desc).map (fun d => d.parameters.length) = some 2)
def mX2_wordFor : gMi := (yX2_wordFor, cX2_wordFor, 4, some .long)
theorem cd_X2_wordFor : g_cd mX2_wordFor := ⟨g_tb_mem 783 (by decide +kernel) (by decide +kernel), g_tb_mem 109 (by decide +kernel) (by decide +kernel), ⟨by decide +kernel, by decide +kernel⟩, by decide⟩
theorem np_X2_wordFor : g_np mX2_wordFor 3 := (by decide +kernel : (parseMethodDescriptor mX2_wordFor.1.desc).map (fun d => d.parameters.length) = some 3)
def mX2_addWaiting : gMi := (yX2_addWaiting, cX2_addWaiting, 3, none)
theorem cd_X2_addWaiting : g_cd mX2_addWaiting := ⟨g_tb_mem 774 (by decide +kernel) (by decide +kernel), g_tb_mem 109 (by decide +kernel) (by decide +kernel), ⟨by decide +kernel, by decide +kernel⟩, by decide⟩
theorem np_X2_addWaiting : g_np mX2_addWaiting 2 := (by decide +kernel : (parseMethodDescriptor mX2_addWaiting.1.desc).map (fun d => d.parameters.length) = some 2)
def mX2_leave : gMi := (yX2_leave, cX2_leave, 3, some .int)
theorem cd_X2_leave : g_cd mX2_leave := ⟨g_tb_mem 814 (by decide +kernel) (by decide +kernel), g_tb_mem 109 (by decide +kernel) (by decide +kernel), ⟨by decide +kernel, by decide +kernel⟩, by decide⟩
theorem np_X2_leave : g_np mX2_leave 1 := (by decide +kernel : (parseMethodDescriptor mX2_leave.1.desc).map (fun d => d.parameters.length) = some 1)
def mX2_oneBeat : gMi := (yX2_oneBeat, cX2_oneBeat, 6, some .int)
theorem cd_X2_oneBeat : g_cd mX2_oneBeat := ⟨g_tb_mem 766 (by decide +kernel) (by decide +kernel), g_tb_mem 109 (by decide +kernel) (by decide +kernel), ⟨by decide +kernel, by decide +kernel⟩, by decide⟩
theorem np_X2_oneBeat : g_np mX2_oneBeat 1 := (by decide +kernel : (parseMethodDescriptor mX2_oneBeat.1.desc).map (fun d => d.parameters.length) = some 1)
def mX2_goOn : gMi := (yX2_goOn, cX2_goOn, 4, none)
theorem cd_X2_goOn : g_cd mX2_goOn := ⟨g_tb_mem 857 (by decide +kernel) (by decide +kernel), g_tb_mem 109 (by decide +kernel) (by decide +kernel), ⟨by decide +kernel, by decide +kernel⟩, by decide⟩
theorem np_X2_goOn : g_np mX2_goOn 2 := (by decide +kernel : (parseMethodDescriptor mX2_goOn.1.desc).map (fun d => d.parameters.length) = some 2)
def mX2_arrive : gMi := (yX2_arrive, cX2_arrive, 2, none)
theorem cd_X2_arrive : g_cd mX2_arrive := ⟨g_tb_mem 770 (by decide +kernel) (by decide +kernel), g_tb_mem 109 (by decide +kernel) (by decide +kernel), ⟨by decide +kernel, by decide +kernel⟩, by decide⟩
theorem np_X2_arrive : g_np mX2_arrive 0 := (by decide +kernel : (parseMethodDescriptor mX2_arrive.1.desc).map (fun d => d.parameters.length) = some 0)
def mX2_goThrough : gMi := (yX2_goThrough, cX2_goThrough, 4, none)
theorem cd_X2_goThrough : g_cd mX2_goThrough := ⟨g_tb_mem 810 (by decide +kernel) (by decide +kernel), g_tb_mem 109 (by decide +kernel) (by decide +kernel), ⟨by decide +kernel, by decide +kernel⟩, by decide⟩
theorem np_X2_goThrough : g_np mX2_goThrough 1 := (by decide +kernel : (parseMethodDescriptor mX2_goThrough.1.desc).map (fun d => d.parameters.length) = some 1)
def mX2_heardBehind : gMi := (yX2_heardBehind, cX2_heardBehind, 2, some .int)
theorem cd_X2_heardBehind : g_cd mX2_heardBehind := ⟨g_tb_mem 822 (by decide +kernel) (by decide +kernel), g_tb_mem 109 (by decide +kernel) (by decide +kernel), ⟨by decide +kernel, by decide +kernel⟩, by decide⟩
theorem np_X2_heardBehind : g_np mX2_heardBehind 2 := (by decide +kernel : (parseMethodDescriptor mX2_heardBehind.1.desc).map (fun d => d.parameters.length) = some 2)
def mX3_init : gMi := (yX3_init, cX3_init, 3, none)
theorem cd_X3_init : g_cd mX3_init := ⟨g_tb_mem 253 (by decide +kernel) (by decide +kernel), g_tb_mem 111 (by decide +kernel) (by decide +kernel), ⟨by decide +kernel, by decide +kernel⟩, by decide⟩
theorem np_X3_init : g_np mX3_init 2 := (by decide +kernel : (parseMethodDescriptor mX3_init.1.desc).map (fun d => d.parameters.length) = some 2)
def mX3_readClause : gMi := (yX3_readClause, cX3_readClause, 5, none)
theorem cd_X3_readClause : g_cd mX3_readClause := ⟨g_tb_mem 514 (by decide +kernel) (by decide +kernel), g_tb_mem 111 (by decide +kernel) (by decide +kernel), ⟨by decide +kernel, by decide +kernel⟩, by decide⟩
theorem np_X3_readClause : g_np mX3_readClause 1 := (by decide +kernel : (parseMethodDescriptor mX3_readClause.1.desc).map (fun d => d.parameters.length) = some 1)
def mX3_readRoad : gMi := (yX3_readRoad, cX3_readRoad, 4, none)
theorem cd_X3_readRoad : g_cd mX3_readRoad := ⟨g_tb_mem 585 (by decide +kernel) (by decide +kernel), g_tb_mem 111 (by decide +kernel) (by decide +kernel), ⟨by decide +kernel, by decide +kernel⟩, by decide⟩
theorem np_X3_readRoad : g_np mX3_readRoad 0 := (by decide +kernel : (parseMethodDescriptor mX3_readRoad.1.desc).map (fun d => d.parameters.length) = some 0)
def mX3_readClash : gMi := (yX3_readClash, cX3_readClash, 3, none)
theorem cd_X3_readClash : g_cd mX3_readClash := ⟨g_tb_mem 593 (by decide +kernel) (by decide +kernel), g_tb_mem 111 (by decide +kernel) (by decide +kernel), ⟨by decide +kernel, by decide +kernel⟩, by decide⟩
theorem np_X3_readClash : g_np mX3_readClash 0 := (by decide +kernel : (parseMethodDescriptor mX3_readClash.1.desc).map (fun d => d.parameters.length) = some 0)
def mX3_readScore : gMi := (yX3_readScore, cX3_readScore, 3, none)
theorem cd_X3_readScore : g_cd mX3_readScore := ⟨g_tb_mem 597 (by decide +kernel) (by decide +kernel), g_tb_mem 111 (by decide +kernel) (by decide +kernel), ⟨by decide +kernel, by decide +kernel⟩, by decide⟩
theorem np_X3_readScore : g_np mX3_readScore 0 := (by decide +kernel : (parseMethodDescriptor mX3_readScore.1.desc).map (fun d => d.parameters.length) = some 0)
def mX4_init : gMi := (yX4_init, cX4_init, 1, none)
theorem cd_X4_init : g_cd mX4_init := ⟨g_tb_mem 312 (by decide +kernel) (by decide +kernel), g_tb_mem 114 (by decide +kernel) (by decide +kernel), ⟨by decide +kernel, by decide +kernel⟩, by decide⟩
theorem np_X4_init : g_np mX4_init 0 := (by decide +kernel : (parseMethodDescriptor mX4_init.1.desc).map (fun d => d.parameters.length) = some 0)
def mX4_add : gMi := (yX4_add, cX4_add, 4, none)
theorem cd_X4_add : g_cd mX4_add := ⟨g_tb_mem 996 (by decide +kernel) (by decide +kernel), g_tb_mem 114 (by decide +kernel) (by decide +kernel), ⟨by decide +kernel, by decide +kernel⟩, by decide⟩
theorem np_X4_add : g_np mX4_add 3 := (by decide +kernel : (parseMethodDescriptor mX4_add.1.desc).map (fun d => d.parameters.length) = some 3)
def mX4_agree : gMi := (yX4_agree, cX4_agree, 4, some .boolean)
theorem cd_X4_agree : g_cd mX4_agree := ⟨g_tb_mem 1012 (by decide +kernel) (by decide +kernel), g_tb_mem 114 (by decide +kernel) (by decide +kernel), ⟨by decide +kernel, by decide +kernel⟩, by decide⟩
theorem np_X4_agree : g_np mX4_agree 2 := (by decide +kernel : (parseMethodDescriptor mX4_agree.1.desc).map (fun d => d.parameters.length) = some 2)
def mX4_copyFrom : gMi := (yX4_copyFrom, cX4_copyFrom, 2, none)
theorem cd_X4_copyFrom : g_cd mX4_copyFrom := ⟨g_tb_mem 1054 (by decide +kernel) (by decide +kernel), g_tb_mem 114 (by decide +kernel) (by decide +kernel), ⟨by decide +kernel, by decide +kernel⟩, by decide⟩
theorem np_X4_copyFrom : g_np mX4_copyFrom 1 := (by decide +kernel : (parseMethodDescriptor mX4_copyFrom.1.desc).map (fun d => d.parameters.length) = some 1)
def mX5_init : gMi := (yX5_init, cX5_init, 1, none)
theorem cd_X5_init : g_cd mX5_init := ⟨g_tb_mem 334 (by decide +kernel) (by decide +kernel), g_tb_mem 115 (by decide +kernel) (by decide +kernel), ⟨by decide +kernel, by decide +kernel⟩, by decide⟩
theorem np_X5_init : g_np mX5_init 0 := (by decide +kernel : (parseMethodDescriptor mX5_init.1.desc).map (fun d => d.parameters.length) = some 0)
def mX5_search : gMi := (yX5_search, cX5_search, 5, none)
theorem cd_X5_search : g_cd mX5_search := ⟨g_tb_mem 900 (by decide +kernel) (by decide +kernel), g_tb_mem 115 (by decide +kernel) (by decide +kernel), ⟨by decide +kernel, by decide +kernel⟩, by decide⟩
theorem np_X5_search : g_np mX5_search 3 := (by decide +kernel : (parseMethodDescriptor mX5_search.1.desc).map (fun d => d.parameters.length) = some 3)
def mX5_tryChoice : gMi := (yX5_tryChoice, cX5_tryChoice, 5, none)
theorem cd_X5_tryChoice : g_cd mX5_tryChoice := ⟨g_tb_mem 908 (by decide +kernel) (by decide +kernel), g_tb_mem 115 (by decide +kernel) (by decide +kernel), ⟨by decide +kernel, by decide +kernel⟩, by decide⟩
theorem np_X5_tryChoice : g_np mX5_tryChoice 2 := (by decide +kernel : (parseMethodDescriptor mX5_tryChoice.1.desc).map (fun d => d.parameters.length) = some 2)
def mX5_choose : gMi := (yX5_choose, cX5_choose, 5, none)
theorem cd_X5_choose : g_cd mX5_choose := ⟨g_tb_mem 914 (by decide +kernel) (by decide +kernel), g_tb_mem 115 (by decide +kernel) (by decide +kernel), ⟨by decide +kernel, by decide +kernel⟩, by decide⟩
theorem np_X5_choose : g_np mX5_choose 1 := (by decide +kernel : (parseMethodDescriptor mX5_choose.1.desc).map (fun d => d.parameters.length) = some 1)
def mX5_waitedAtLeast : gMi := (yX5_waitedAtLeast, cX5_waitedAtLeast, 5, some .int)
theorem cd_X5_waitedAtLeast : g_cd mX5_waitedAtLeast := ⟨g_tb_mem 918 (by decide +kernel) (by decide +kernel), g_tb_mem 115 (by decide +kernel) (by decide +kernel), ⟨by decide +kernel, by decide +kernel⟩, by decide⟩
theorem np_X5_waitedAtLeast : g_np mX5_waitedAtLeast 1 := (by decide +kernel : (parseMethodDescriptor mX5_waitedAtLeast.1.desc).map (fun d => d.parameters.length) = some 1)
def mX5_waitingRoads : gMi := (yX5_waitingRoads, cX5_waitingRoads, 4, some .int)
theorem cd_X5_waitingRoads : g_cd mX5_waitingRoads := ⟨g_tb_mem 931 (by decide +kernel) (by decide +kernel), g_tb_mem 115 (by decide +kernel) (by decide +kernel), ⟨by decide +kernel, by decide +kernel⟩, by decide⟩
theorem np_X5_waitingRoads : g_np mX5_waitingRoads 1 := (by decide +kernel : (parseMethodDescriptor mX5_waitingRoads.1.desc).map (fun d => d.parameters.length) = some 1)
def mX5_choiceOf : gMi := (yX5_choiceOf, cX5_choiceOf, 5, some .int)
theorem cd_X5_choiceOf : g_cd mX5_choiceOf := ⟨g_tb_mem 922 (by decide +kernel) (by decide +kernel), g_tb_mem 115 (by decide +kernel) (by decide +kernel), ⟨by decide +kernel, by decide +kernel⟩, by decide⟩
theorem np_X5_choiceOf : g_np mX5_choiceOf 2 := (by decide +kernel : (parseMethodDescriptor mX5_choiceOf.1.desc).map (fun d => d.parameters.length) = some 2)
def mX5_weigh : gMi := (yX5_weigh, cX5_weigh, 4, none)
theorem cd_X5_weigh : g_cd mX5_weigh := ⟨g_tb_mem 926 (by decide +kernel) (by decide +kernel), g_tb_mem 115 (by decide +kernel) (by decide +kernel), ⟨by decide +kernel, by decide +kernel⟩, by decide⟩
theorem np_X5_weigh : g_np mX5_weigh 1 := (by decide +kernel : (parseMethodDescriptor mX5_weigh.1.desc).map (fun d => d.parameters.length) = some 1)
def mX6_init : gMi := (yX6_init, cX6_init, 2, none)
theorem cd_X6_init : g_cd mX6_init := ⟨g_tb_mem 691 (by decide +kernel) (by decide +kernel), g_tb_mem 124 (by decide +kernel) (by decide +kernel), ⟨by decide +kernel, by decide +kernel⟩, by decide⟩
theorem np_X6_init : g_np mX6_init 1 := (by decide +kernel : (parseMethodDescriptor mX6_init.1.desc).map (fun d => d.parameters.length) = some 1)
def mX6_sumFor : gMi := (yX6_sumFor, cX6_sumFor, 7, some .long)
theorem cd_X6_sumFor : g_cd mX6_sumFor := ⟨g_tb_mem 779 (by decide +kernel) (by decide +kernel), g_tb_mem 124 (by decide +kernel) (by decide +kernel), ⟨by decide +kernel, by decide +kernel⟩, by decide⟩
theorem np_X6_sumFor : g_np mX6_sumFor 3 := (by decide +kernel : (parseMethodDescriptor mX6_sumFor.1.desc).map (fun d => d.parameters.length) = some 3)
def mX6_joined : gMi := (yX6_joined, cX6_joined, 5, some .long)
theorem cd_X6_joined : g_cd mX6_joined := ⟨g_tb_mem 806 (by decide +kernel) (by decide +kernel), g_tb_mem 124 (by decide +kernel) (by decide +kernel), ⟨by decide +kernel, by decide +kernel⟩, by decide⟩
theorem np_X6_joined : g_np mX6_joined 3 := (by decide +kernel : (parseMethodDescriptor mX6_joined.1.desc).map (fun d => d.parameters.length) = some 3)
def mX6_truth : gMi := (yX6_truth, cX6_truth, 1, some .long)
theorem cd_X6_truth : g_cd mX6_truth := ⟨g_tb_mem 803 (by decide +kernel) (by decide +kernel), g_tb_mem 124 (by decide +kernel) (by decide +kernel), ⟨by decide +kernel, by decide +kernel⟩, by decide⟩
theorem np_X6_truth : g_np mX6_truth 1 := (by decide +kernel : (parseMethodDescriptor mX6_truth.1.desc).map (fun d => d.parameters.length) = some 1)
def mX7_init : gMi := (yX7_init, cX7_init, 2, none)
theorem cd_X7_init : g_cd mX7_init := ⟨g_tb_mem 273 (by decide +kernel) (by decide +kernel), g_tb_mem 112 (by decide +kernel) (by decide +kernel), ⟨by decide +kernel, by decide +kernel⟩, by decide⟩
theorem np_X7_init : g_np mX7_init 1 := (by decide +kernel : (parseMethodDescriptor mX7_init.1.desc).map (fun d => d.parameters.length) = some 1)
def mX7_startOver : gMi := (yX7_startOver, cX7_startOver, 1, none)
theorem cd_X7_startOver : g_cd mX7_startOver := ⟨g_tb_mem 662 (by decide +kernel) (by decide +kernel), g_tb_mem 112 (by decide +kernel) (by decide +kernel), ⟨by decide +kernel, by decide +kernel⟩, by decide⟩
theorem np_X7_startOver : g_np mX7_startOver 0 := (by decide +kernel : (parseMethodDescriptor mX7_startOver.1.desc).map (fun d => d.parameters.length) = some 0)
def mX7_made : gMi := (yX7_made, cX7_made, 1, some (.object "DutyBeats$Rule"))
theorem cd_X7_made : g_cd mX7_made := ⟨g_tb_mem 669 (by decide +kernel) (by decide +kernel), g_tb_mem 112 (by decide +kernel) (by decide +kernel), ⟨by decide +kernel, by decide +kernel⟩, by decide⟩
theorem np_X7_made : g_np mX7_made 0 := (by decide +kernel : (parseMethodDescriptor mX7_made.1.desc).map (fun d => d.parameters.length) = some 0)
def mX7_readClause : gMi := (yX7_readClause, cX7_readClause, 2, none)
theorem cd_X7_readClause : g_cd mX7_readClause := ⟨g_tb_mem 600 (by decide +kernel) (by decide +kernel), g_tb_mem 112 (by decide +kernel) (by decide +kernel), ⟨by decide +kernel, by decide +kernel⟩, by decide⟩
theorem np_X7_readClause : g_np mX7_readClause 1 := (by decide +kernel : (parseMethodDescriptor mX7_readClause.1.desc).map (fun d => d.parameters.length) = some 1)
def mX7_readTest : gMi := (yX7_readTest, cX7_readTest, 6, none)
theorem cd_X7_readTest : g_cd mX7_readTest := ⟨g_tb_mem 631 (by decide +kernel) (by decide +kernel), g_tb_mem 112 (by decide +kernel) (by decide +kernel), ⟨by decide +kernel, by decide +kernel⟩, by decide⟩
theorem np_X7_readTest : g_np mX7_readTest 1 := (by decide +kernel : (parseMethodDescriptor mX7_readTest.1.desc).map (fun d => d.parameters.length) = some 1)
def mX7_readFact : gMi := (yX7_readFact, cX7_readFact, 4, none)
theorem cd_X7_readFact : g_cd mX7_readFact := ⟨g_tb_mem 635 (by decide +kernel) (by decide +kernel), g_tb_mem 112 (by decide +kernel) (by decide +kernel), ⟨by decide +kernel, by decide +kernel⟩, by decide⟩
theorem np_X7_readFact : g_np mX7_readFact 1 := (by decide +kernel : (parseMethodDescriptor mX7_readFact.1.desc).map (fun d => d.parameters.length) = some 1)
def mX7_compareSign : gMi := (yX7_compareSign, cX7_compareSign, 1, some .int)
theorem cd_X7_compareSign : g_cd mX7_compareSign := ⟨g_tb_mem 645 (by decide +kernel) (by decide +kernel), g_tb_mem 112 (by decide +kernel) (by decide +kernel), ⟨by decide +kernel, by decide +kernel⟩, by decide⟩
theorem np_X7_compareSign : g_np mX7_compareSign 0 := (by decide +kernel : (parseMethodDescriptor mX7_compareSign.1.desc).map (fun d => d.parameters.length) = some 0)
def mX7_readSum : gMi := (yX7_readSum, cX7_readSum, 4, none)
theorem cd_X7_readSum : g_cd mX7_readSum := ⟨g_tb_mem 608 (by decide +kernel) (by decide +kernel), g_tb_mem 112 (by decide +kernel) (by decide +kernel), ⟨by decide +kernel, by decide +kernel⟩, by decide⟩
theorem np_X7_readSum : g_np mX7_readSum 0 := (by decide +kernel : (parseMethodDescriptor mX7_readSum.1.desc).map (fun d => d.parameters.length) = some 0)
def mX7_joinSign : gMi := (yX7_joinSign, cX7_joinSign, 4, some .int)
theorem cd_X7_joinSign : g_cd mX7_joinSign := ⟨g_tb_mem 622 (by decide +kernel) (by decide +kernel), g_tb_mem 112 (by decide +kernel) (by decide +kernel), ⟨by decide +kernel, by decide +kernel⟩, by decide⟩
theorem np_X7_joinSign : g_np mX7_joinSign 3 := (by decide +kernel : (parseMethodDescriptor mX7_joinSign.1.desc).map (fun d => d.parameters.length) = some 3)
def mX7_readValue : gMi := (yX7_readValue, cX7_readValue, 2, none)
theorem cd_X7_readValue : g_cd mX7_readValue := ⟨g_tb_mem 612 (by decide +kernel) (by decide +kernel), g_tb_mem 112 (by decide +kernel) (by decide +kernel), ⟨by decide +kernel, by decide +kernel⟩, by decide⟩
theorem np_X7_readValue : g_np mX7_readValue 0 := (by decide +kernel : (parseMethodDescriptor mX7_readValue.1.desc).map (fun d => d.parameters.length) = some 0)
def mX7_put : gMi := (yX7_put, cX7_put, 2, none)
theorem cd_X7_put : g_cd mX7_put := ⟨g_tb_mem 618 (by decide +kernel) (by decide +kernel), g_tb_mem 112 (by decide +kernel) (by decide +kernel), ⟨by decide +kernel, by decide +kernel⟩, by decide⟩
theorem np_X7_put : g_np mX7_put 1 := (by decide +kernel : (parseMethodDescriptor mX7_put.1.desc).map (fun d => d.parameters.length) = some 1)
def mX8_init : gMi := (yX8_init, cX8_init, 1, none)
theorem cd_X8_init : g_cd mX8_init := ⟨g_tb_mem 139 (by decide +kernel) (by decide +kernel), g_tb_mem 108 (by decide +kernel) (by decide +kernel), ⟨by decide +kernel, by decide +kernel⟩, by decide⟩
theorem np_X8_init : g_np mX8_init 0 := (by decide +kernel : (parseMethodDescriptor mX8_init.1.desc).map (fun d => d.parameters.length) = some 0)
def mX8_append : gMi := (yX8_append, cX8_append, 3, none)
theorem cd_X8_append : g_cd mX8_append := ⟨g_tb_mem 479 (by decide +kernel) (by decide +kernel), g_tb_mem 108 (by decide +kernel) (by decide +kernel), ⟨by decide +kernel, by decide +kernel⟩, by decide⟩
theorem np_X8_append : g_np mX8_append 1 := (by decide +kernel : (parseMethodDescriptor mX8_append.1.desc).map (fun d => d.parameters.length) = some 1)
def mX8_begin : gMi := (yX8_begin, cX8_begin, 1, none)
theorem cd_X8_begin : g_cd mX8_begin := ⟨g_tb_mem 504 (by decide +kernel) (by decide +kernel), g_tb_mem 108 (by decide +kernel) (by decide +kernel), ⟨by decide +kernel, by decide +kernel⟩, by decide⟩
theorem np_X8_begin : g_np mX8_begin 0 := (by decide +kernel : (parseMethodDescriptor mX8_begin.1.desc).map (fun d => d.parameters.length) = some 0)
def mX8_next : gMi := (yX8_next, cX8_next, 1, none)
theorem cd_X8_next : g_cd mX8_next := ⟨g_tb_mem 508 (by decide +kernel) (by decide +kernel), g_tb_mem 108 (by decide +kernel) (by decide +kernel), ⟨by decide +kernel, by decide +kernel⟩, by decide⟩
theorem np_X8_next : g_np mX8_next 0 := (by decide +kernel : (parseMethodDescriptor mX8_next.1.desc).map (fun d => d.parameters.length) = some 0)
def mX8_wordOf : gMi := (yX8_wordOf, cX8_wordOf, 6, some .int)
theorem cd_X8_wordOf : g_cd mX8_wordOf := ⟨g_tb_mem 519 (by decide +kernel) (by decide +kernel), g_tb_mem 108 (by decide +kernel) (by decide +kernel), ⟨by decide +kernel, by decide +kernel⟩, by decide⟩
theorem np_X8_wordOf : g_np mX8_wordOf 1 := (by decide +kernel : (parseMethodDescriptor mX8_wordOf.1.desc).map (fun d => d.parameters.length) = some 1)
def mX8_isSign : gMi := (yX8_isSign, cX8_isSign, 2, some .boolean)
theorem cd_X8_isSign : g_cd mX8_isSign := ⟨g_tb_mem 626 (by decide +kernel) (by decide +kernel), g_tb_mem 108 (by decide +kernel) (by decide +kernel), ⟨by decide +kernel, by decide +kernel⟩, by decide⟩
theorem np_X8_isSign : g_np mX8_isSign 1 := (by decide +kernel : (parseMethodDescriptor mX8_isSign.1.desc).map (fun d => d.parameters.length) = some 1)
def mX8_takeSign : gMi := (yX8_takeSign, cX8_takeSign, 2, none)
theorem cd_X8_takeSign : g_cd mX8_takeSign := ⟨g_tb_mem 640 (by decide +kernel) (by decide +kernel), g_tb_mem 108 (by decide +kernel) (by decide +kernel), ⟨by decide +kernel, by decide +kernel⟩, by decide⟩
theorem np_X8_takeSign : g_np mX8_takeSign 1 := (by decide +kernel : (parseMethodDescriptor mX8_takeSign.1.desc).map (fun d => d.parameters.length) = some 1)
def mX8_takeNumber : gMi := (yX8_takeNumber, cX8_takeNumber, 4, some .int)
theorem cd_X8_takeNumber : g_cd mX8_takeNumber := ⟨g_tb_mem 576 (by decide +kernel) (by decide +kernel), g_tb_mem 108 (by decide +kernel) (by decide +kernel), ⟨by decide +kernel, by decide +kernel⟩, by decide⟩
theorem np_X8_takeNumber : g_np mX8_takeNumber 2 := (by decide +kernel : (parseMethodDescriptor mX8_takeNumber.1.desc).map (fun d => d.parameters.length) = some 2)
def mX8_hasTooManyDigits : gMi := (yX8_hasTooManyDigits, cX8_hasTooManyDigits, 1, some .boolean)
theorem cd_X8_hasTooManyDigits : g_cd mX8_hasTooManyDigits := ⟨g_tb_mem 581 (by decide +kernel) (by decide +kernel), g_tb_mem 108 (by decide +kernel) (by decide +kernel), ⟨by decide +kernel, by decide +kernel⟩, by decide⟩
theorem np_X8_hasTooManyDigits : g_np mX8_hasTooManyDigits 0 := (by decide +kernel : (parseMethodDescriptor mX8_hasTooManyDigits.1.desc).map (fun d => d.parameters.length) = some 0)
def mX8_fail : gMi := (yX8_fail, cX8_fail, 2, none)
theorem cd_X8_fail : g_cd mX8_fail := ⟨g_tb_mem 571 (by decide +kernel) (by decide +kernel), g_tb_mem 108 (by decide +kernel) (by decide +kernel), ⟨by decide +kernel, by decide +kernel⟩, by decide⟩
theorem np_X8_fail : g_np mX8_fail 1 := (by decide +kernel : (parseMethodDescriptor mX8_fail.1.desc).map (fun d => d.parameters.length) = some 1)
def mX9_init : gMi := (yX9_init, cX9_init, 2, none)
theorem cd_X9_init : g_cd mX9_init := ⟨g_tb_mem 256 (by decide +kernel) (by decide +kernel), g_tb_mem 110 (by decide +kernel) (by decide +kernel), ⟨by decide +kernel, by decide +kernel⟩, by decide⟩
theorem np_X9_init : g_np mX9_init 1 := (by decide +kernel : (parseMethodDescriptor mX9_init.1.desc).map (fun d => d.parameters.length) = some 1)
def mX9_readClauses : gMi := (yX9_readClauses, cX9_readClauses, 2, some .int)
theorem cd_X9_readClauses : g_cd mX9_readClauses := ⟨g_tb_mem 500 (by decide +kernel) (by decide +kernel), g_tb_mem 110 (by decide +kernel) (by decide +kernel), ⟨by decide +kernel, by decide +kernel⟩, by decide⟩
theorem np_X9_readClauses : g_np mX9_readClauses 0 := (by decide +kernel : (parseMethodDescriptor mX9_readClauses.1.desc).map (fun d => d.parameters.length) = some 0)
def mX10_init : gMi := (yX10_init, cX10_init, 2, none)
theorem cd_X10_init : g_cd mX10_init := ⟨g_tb_mem 131 (by decide +kernel) (by decide +kernel), g_tb_mem 107 (by decide +kernel) (by decide +kernel), ⟨by decide +kernel, by decide +kernel⟩, by decide⟩
theorem np_X10_init : g_np mX10_init 0 := (by decide +kernel : (parseMethodDescriptor mX10_init.1.desc).map (fun d => d.parameters.length) = some 0)
def mX10_feed : gMi := (yX10_feed, cX10_feed, 6, some .int)
theorem cd_X10_feed : g_cd mX10_feed := ⟨g_tb_mem 475 (by decide +kernel) (by decide +kernel), g_tb_mem 107 (by decide +kernel) (by decide +kernel), ⟨by decide +kernel, by decide +kernel⟩, by decide⟩
theorem np_X10_feed : g_np mX10_feed 5 := (by decide +kernel : (parseMethodDescriptor mX10_feed.1.desc).map (fun d => d.parameters.length) = some 5)
def mX10_end : gMi := (yX10_end, cX10_end, 2, some .int)
theorem cd_X10_end : g_cd mX10_end := ⟨g_tb_mem 483 (by decide +kernel) (by decide +kernel), g_tb_mem 107 (by decide +kernel) (by decide +kernel), ⟨by decide +kernel, by decide +kernel⟩, by decide⟩
theorem np_X10_end : g_np mX10_end 1 := (by decide +kernel : (parseMethodDescriptor mX10_end.1.desc).map (fun d => d.parameters.length) = some 1)
def mX10_junction : gMi := (yX10_junction, cX10_junction, 2, some .int)
theorem cd_X10_junction : g_cd mX10_junction := ⟨g_tb_mem 487 (by decide +kernel) (by decide +kernel), g_tb_mem 107 (by decide +kernel) (by decide +kernel), ⟨by decide +kernel, by decide +kernel⟩, by decide⟩
theorem np_X10_junction : g_np mX10_junction 0 := (by decide +kernel : (parseMethodDescriptor mX10_junction.1.desc).map (fun d => d.parameters.length) = some 0)
def mX10_rule : gMi := (yX10_rule, cX10_rule, 2, some .int)
theorem cd_X10_rule : g_cd mX10_rule := ⟨g_tb_mem 658 (by decide +kernel) (by decide +kernel), g_tb_mem 107 (by decide +kernel) (by decide +kernel), ⟨by decide +kernel, by decide +kernel⟩, by decide⟩
theorem np_X10_rule : g_np mX10_rule 0 := (by decide +kernel : (parseMethodDescriptor mX10_rule.1.desc).map (fun d => d.parameters.length) = some 0)
def mX10_force : gMi := (yX10_force, cX10_force, 3, some .int)
theorem cd_X10_force : g_cd mX10_force := ⟨g_tb_mem 704 (by decide +kernel) (by decide +kernel), g_tb_mem 107 (by decide +kernel) (by decide +kernel), ⟨by decide +kernel, by decide +kernel⟩, by decide⟩
theorem np_X10_force : g_np mX10_force 1 := (by decide +kernel : (parseMethodDescriptor mX10_force.1.desc).map (fun d => d.parameters.length) = some 1)
def mX10_road : gMi := (yX10_road, cX10_road, 3, some .int)
theorem cd_X10_road : g_cd mX10_road := ⟨g_tb_mem 711 (by decide +kernel) (by decide +kernel), g_tb_mem 107 (by decide +kernel) (by decide +kernel), ⟨by decide +kernel, by decide +kernel⟩, by decide⟩
theorem np_X10_road : g_np mX10_road 2 := (by decide +kernel : (parseMethodDescriptor mX10_road.1.desc).map (fun d => d.parameters.length) = some 2)
def mX10_scored : gMi := (yX10_scored, cX10_scored, 2, some .int)
theorem cd_X10_scored : g_cd mX10_scored := ⟨g_tb_mem 724 (by decide +kernel) (by decide +kernel), g_tb_mem 107 (by decide +kernel) (by decide +kernel), ⟨by decide +kernel, by decide +kernel⟩, by decide⟩
theorem np_X10_scored : g_np mX10_scored 1 := (by decide +kernel : (parseMethodDescriptor mX10_scored.1.desc).map (fun d => d.parameters.length) = some 1)
def mX10_count : gMi := (yX10_count, cX10_count, 2, some .int)
theorem cd_X10_count : g_cd mX10_count := ⟨g_tb_mem 732 (by decide +kernel) (by decide +kernel), g_tb_mem 107 (by decide +kernel) (by decide +kernel), ⟨by decide +kernel, by decide +kernel⟩, by decide⟩
theorem np_X10_count : g_np mX10_count 1 := (by decide +kernel : (parseMethodDescriptor mX10_count.1.desc).map (fun d => d.parameters.length) = some 1)
def mX10_heard : gMi := (yX10_heard, cX10_heard, 1, some .int)
theorem cd_X10_heard : g_cd mX10_heard := ⟨g_tb_mem 744 (by decide +kernel) (by decide +kernel), g_tb_mem 107 (by decide +kernel) (by decide +kernel), ⟨by decide +kernel, by decide +kernel⟩, by decide⟩
theorem np_X10_heard : g_np mX10_heard 0 := (by decide +kernel : (parseMethodDescriptor mX10_heard.1.desc).map (fun d => d.parameters.length) = some 0)
def mX10_beat : gMi := (yX10_beat, cX10_beat, 1, some .int)
theorem cd_X10_beat : g_cd mX10_beat := ⟨g_tb_mem 748 (by decide +kernel) (by decide +kernel), g_tb_mem 107 (by decide +kernel) (by decide +kernel), ⟨by decide +kernel, by decide +kernel⟩, by decide⟩
theorem np_X10_beat : g_np mX10_beat 0 := (by decide +kernel : (parseMethodDescriptor mX10_beat.1.desc).map (fun d => d.parameters.length) = some 0)
def mX10_come : gMi := (yX10_come, cX10_come, 3, some .int)
theorem cd_X10_come : g_cd mX10_come := ⟨g_tb_mem 827 (by decide +kernel) (by decide +kernel), g_tb_mem 107 (by decide +kernel) (by decide +kernel), ⟨by decide +kernel, by decide +kernel⟩, by decide⟩
theorem np_X10_come : g_np mX10_come 2 := (by decide +kernel : (parseMethodDescriptor mX10_come.1.desc).map (fun d => d.parameters.length) = some 2)
def mX10_wave : gMi := (yX10_wave, cX10_wave, 2, some .int)
theorem cd_X10_wave : g_cd mX10_wave := ⟨g_tb_mem 832 (by decide +kernel) (by decide +kernel), g_tb_mem 107 (by decide +kernel) (by decide +kernel), ⟨by decide +kernel, by decide +kernel⟩, by decide⟩
theorem np_X10_wave : g_np mX10_wave 1 := (by decide +kernel : (parseMethodDescriptor mX10_wave.1.desc).map (fun d => d.parameters.length) = some 1)
def mX10_score : gMi := (yX10_score, cX10_score, 3, some .int)
theorem cd_X10_score : g_cd mX10_score := ⟨g_tb_mem 837 (by decide +kernel) (by decide +kernel), g_tb_mem 107 (by decide +kernel) (by decide +kernel), ⟨by decide +kernel, by decide +kernel⟩, by decide⟩
theorem np_X10_score : g_np mX10_score 2 := (by decide +kernel : (parseMethodDescriptor mX10_score.1.desc).map (fun d => d.parameters.length) = some 2)
def mX10_tune : gMi := (yX10_tune, cX10_tune, 4, some .int)
theorem cd_X10_tune : g_cd mX10_tune := ⟨g_tb_mem 841 (by decide +kernel) (by decide +kernel), g_tb_mem 107 (by decide +kernel) (by decide +kernel), ⟨by decide +kernel, by decide +kernel⟩, by decide⟩
theorem np_X10_tune : g_np mX10_tune 2 := (by decide +kernel : (parseMethodDescriptor mX10_tune.1.desc).map (fun d => d.parameters.length) = some 2)
def mX10_undo : gMi := (yX10_undo, cX10_undo, 1, some .int)
theorem cd_X10_undo : g_cd mX10_undo := ⟨g_tb_mem 845 (by decide +kernel) (by decide +kernel), g_tb_mem 107 (by decide +kernel) (by decide +kernel), ⟨by decide +kernel, by decide +kernel⟩, by decide⟩
theorem np_X10_undo : g_np mX10_undo 0 := (by decide +kernel : (parseMethodDescriptor mX10_undo.1.desc).map (fun d => d.parameters.length) = some 0)
def mX10_ahead : gMi := (yX10_ahead, cX10_ahead, 5, some .int)
theorem cd_X10_ahead : g_cd mX10_ahead := ⟨g_tb_mem 853 (by decide +kernel) (by decide +kernel), g_tb_mem 107 (by decide +kernel) (by decide +kernel), ⟨by decide +kernel, by decide +kernel⟩, by decide⟩
theorem np_X10_ahead : g_np mX10_ahead 3 := (by decide +kernel : (parseMethodDescriptor mX10_ahead.1.desc).map (fun d => d.parameters.length) = some 3)
def mX10_clear : gMi := (yX10_clear, cX10_clear, 3, some .int)
theorem cd_X10_clear : g_cd mX10_clear := ⟨g_tb_mem 862 (by decide +kernel) (by decide +kernel), g_tb_mem 107 (by decide +kernel) (by decide +kernel), ⟨by decide +kernel, by decide +kernel⟩, by decide⟩
theorem np_X10_clear : g_np mX10_clear 1 := (by decide +kernel : (parseMethodDescriptor mX10_clear.1.desc).map (fun d => d.parameters.length) = some 1)
def mX10_chord : gMi := (yX10_chord, cX10_chord, 7, some .int)
theorem cd_X10_chord : g_cd mX10_chord := ⟨g_tb_mem 866 (by decide +kernel) (by decide +kernel), g_tb_mem 107 (by decide +kernel) (by decide +kernel), ⟨by decide +kernel, by decide +kernel⟩, by decide⟩
theorem np_X10_chord : g_np mX10_chord 1 := (by decide +kernel : (parseMethodDescriptor mX10_chord.1.desc).map (fun d => d.parameters.length) = some 1)
def mX10_beats : gMi := (yX10_beats, cX10_beats, 3, some .int)
theorem cd_X10_beats : g_cd mX10_beats := ⟨g_tb_mem 876 (by decide +kernel) (by decide +kernel), g_tb_mem 107 (by decide +kernel) (by decide +kernel), ⟨by decide +kernel, by decide +kernel⟩, by decide⟩
theorem np_X10_beats : g_np mX10_beats 1 := (by decide +kernel : (parseMethodDescriptor mX10_beats.1.desc).map (fun d => d.parameters.length) = some 1)
def mX10_share : gMi := (yX10_share, cX10_share, 4, some .boolean)
theorem cd_X10_share : g_cd mX10_share := ⟨g_tb_mem 880 (by decide +kernel) (by decide +kernel), g_tb_mem 107 (by decide +kernel) (by decide +kernel), ⟨by decide +kernel, by decide +kernel⟩, by decide⟩
theorem np_X10_share : g_np mX10_share 2 := (by decide +kernel : (parseMethodDescriptor mX10_share.1.desc).map (fun d => d.parameters.length) = some 2)
def mX10_isFree : gMi := (yX10_isFree, cX10_isFree, 3, some .boolean)
theorem cd_X10_isFree : g_cd mX10_isFree := ⟨g_tb_mem 884 (by decide +kernel) (by decide +kernel), g_tb_mem 107 (by decide +kernel) (by decide +kernel), ⟨by decide +kernel, by decide +kernel⟩, by decide⟩
theorem np_X10_isFree : g_np mX10_isFree 1 := (by decide +kernel : (parseMethodDescriptor mX10_isFree.1.desc).map (fun d => d.parameters.length) = some 1)
def mX10_bestScore : gMi := (yX10_bestScore, cX10_bestScore, 9, some .int)
theorem cd_X10_bestScore : g_cd mX10_bestScore := ⟨g_tb_mem 888 (by decide +kernel) (by decide +kernel), g_tb_mem 107 (by decide +kernel) (by decide +kernel), ⟨by decide +kernel, by decide +kernel⟩, by decide⟩
theorem np_X10_bestScore : g_np mX10_bestScore 2 := (by decide +kernel : (parseMethodDescriptor mX10_bestScore.1.desc).map (fun d => d.parameters.length) = some 2)
def mX10_waitedWith : gMi := (yX10_waitedWith, cX10_waitedWith, 4, some .int)
theorem cd_X10_waitedWith : g_cd mX10_waitedWith := ⟨g_tb_mem 892 (by decide +kernel) (by decide +kernel), g_tb_mem 107 (by decide +kernel) (by decide +kernel), ⟨by decide +kernel, by decide +kernel⟩, by decide⟩
theorem np_X10_waitedWith : g_np mX10_waitedWith 3 := (by decide +kernel : (parseMethodDescriptor mX10_waitedWith.1.desc).map (fun d => d.parameters.length) = some 3)
def mX10_row : gMi := (yX10_row, cX10_row, 3, some .int)
theorem cd_X10_row : g_cd mX10_row := ⟨g_tb_mem 896 (by decide +kernel) (by decide +kernel), g_tb_mem 107 (by decide +kernel) (by decide +kernel), ⟨by decide +kernel, by decide +kernel⟩, by decide⟩
theorem np_X10_row : g_np mX10_row 2 := (by decide +kernel : (parseMethodDescriptor mX10_row.1.desc).map (fun d => d.parameters.length) = some 2)
def mX10_leastRoom : gMi := (yX10_leastRoom, cX10_leastRoom, 3, some .int)
theorem cd_X10_leastRoom : g_cd mX10_leastRoom := ⟨g_tb_mem 935 (by decide +kernel) (by decide +kernel), g_tb_mem 107 (by decide +kernel) (by decide +kernel), ⟨by decide +kernel, by decide +kernel⟩, by decide⟩
theorem np_X10_leastRoom : g_np mX10_leastRoom 1 := (by decide +kernel : (parseMethodDescriptor mX10_leastRoom.1.desc).map (fun d => d.parameters.length) = some 1)
def mX10_neverCrowded : gMi := (yX10_neverCrowded, cX10_neverCrowded, 4, some .boolean)
theorem cd_X10_neverCrowded : g_cd mX10_neverCrowded := ⟨g_tb_mem 939 (by decide +kernel) (by decide +kernel), g_tb_mem 107 (by decide +kernel) (by decide +kernel), ⟨by decide +kernel, by decide +kernel⟩, by decide⟩
theorem np_X10_neverCrowded : g_np mX10_neverCrowded 2 := (by decide +kernel : (parseMethodDescriptor mX10_neverCrowded.1.desc).map (fun d => d.parameters.length) = some 2)
def mX10_shut : gMi := (yX10_shut, cX10_shut, 7, some .int)
theorem cd_X10_shut : g_cd mX10_shut := ⟨g_tb_mem 947 (by decide +kernel) (by decide +kernel), g_tb_mem 107 (by decide +kernel) (by decide +kernel), ⟨by decide +kernel, by decide +kernel⟩, by decide⟩
theorem np_X10_shut : g_np mX10_shut 2 := (by decide +kernel : (parseMethodDescriptor mX10_shut.1.desc).map (fun d => d.parameters.length) = some 2)
def mX10_waitedShut : gMi := (yX10_waitedShut, cX10_waitedShut, 4, some .int)
theorem cd_X10_waitedShut : g_cd mX10_waitedShut := ⟨g_tb_mem 951 (by decide +kernel) (by decide +kernel), g_tb_mem 107 (by decide +kernel) (by decide +kernel), ⟨by decide +kernel, by decide +kernel⟩, by decide⟩
theorem np_X10_waitedShut : g_np mX10_waitedShut 2 := (by decide +kernel : (parseMethodDescriptor mX10_waitedShut.1.desc).map (fun d => d.parameters.length) = some 2)
def mX10_longest : gMi := (yX10_longest, cX10_longest, 8, some .int)
theorem cd_X10_longest : g_cd mX10_longest := ⟨g_tb_mem 955 (by decide +kernel) (by decide +kernel), g_tb_mem 107 (by decide +kernel) (by decide +kernel), ⟨by decide +kernel, by decide +kernel⟩, by decide⟩
theorem np_X10_longest : g_np mX10_longest 2 := (by decide +kernel : (parseMethodDescriptor mX10_longest.1.desc).map (fun d => d.parameters.length) = some 2)
def mX10_cadenza : gMi := (yX10_cadenza, cX10_cadenza, 3, some .int)
theorem cd_X10_cadenza : g_cd mX10_cadenza := ⟨g_tb_mem 959 (by decide +kernel) (by decide +kernel), g_tb_mem 107 (by decide +kernel) (by decide +kernel), ⟨by decide +kernel, by decide +kernel⟩, by decide⟩
theorem np_X10_cadenza : g_np mX10_cadenza 1 := (by decide +kernel : (parseMethodDescriptor mX10_cadenza.1.desc).map (fun d => d.parameters.length) = some 1)
def mX10_rests : gMi := (yX10_rests, cX10_rests, 9, some .int)
theorem cd_X10_rests : g_cd mX10_rests := ⟨g_tb_mem 963 (by decide +kernel) (by decide +kernel), g_tb_mem 107 (by decide +kernel) (by decide +kernel), ⟨by decide +kernel, by decide +kernel⟩, by decide⟩
theorem np_X10_rests : g_np mX10_rests 4 := (by decide +kernel : (parseMethodDescriptor mX10_rests.1.desc).map (fun d => d.parameters.length) = some 4)
def mX10_tryRests : gMi := (yX10_tryRests, cX10_tryRests, 5, none)
theorem cd_X10_tryRests : g_cd mX10_tryRests := ⟨g_tb_mem 967 (by decide +kernel) (by decide +kernel), g_tb_mem 107 (by decide +kernel) (by decide +kernel), ⟨by decide +kernel, by decide +kernel⟩, by decide⟩
theorem np_X10_tryRests : g_np mX10_tryRests 3 := (by decide +kernel : (parseMethodDescriptor mX10_tryRests.1.desc).map (fun d => d.parameters.length) = some 3)
def mX10_isRest : gMi := (yX10_isRest, cX10_isRest, 5, some .boolean)
theorem cd_X10_isRest : g_cd mX10_isRest := ⟨g_tb_mem 971 (by decide +kernel) (by decide +kernel), g_tb_mem 107 (by decide +kernel) (by decide +kernel), ⟨by decide +kernel, by decide +kernel⟩, by decide⟩
theorem np_X10_isRest : g_np mX10_isRest 1 := (by decide +kernel : (parseMethodDescriptor mX10_isRest.1.desc).map (fun d => d.parameters.length) = some 1)
def mX10_ring : gMi := (yX10_ring, cX10_ring, 4, some .int)
theorem cd_X10_ring : g_cd mX10_ring := ⟨g_tb_mem 975 (by decide +kernel) (by decide +kernel), g_tb_mem 107 (by decide +kernel) (by decide +kernel), ⟨by decide +kernel, by decide +kernel⟩, by decide⟩
theorem np_X10_ring : g_np mX10_ring 1 := (by decide +kernel : (parseMethodDescriptor mX10_ring.1.desc).map (fun d => d.parameters.length) = some 1)
def mX10_ringFrom : gMi := (yX10_ringFrom, cX10_ringFrom, 3, some .int)
theorem cd_X10_ringFrom : g_cd mX10_ringFrom := ⟨g_tb_mem 980 (by decide +kernel) (by decide +kernel), g_tb_mem 107 (by decide +kernel) (by decide +kernel), ⟨by decide +kernel, by decide +kernel⟩, by decide⟩
theorem np_X10_ringFrom : g_np mX10_ringFrom 1 := (by decide +kernel : (parseMethodDescriptor mX10_ringFrom.1.desc).map (fun d => d.parameters.length) = some 1)
def mX10_sameBegins : gMi := (yX10_sameBegins, cX10_sameBegins, 4, some .boolean)
theorem cd_X10_sameBegins : g_cd mX10_sameBegins := ⟨g_tb_mem 984 (by decide +kernel) (by decide +kernel), g_tb_mem 107 (by decide +kernel) (by decide +kernel), ⟨by decide +kernel, by decide +kernel⟩, by decide⟩
theorem np_X10_sameBegins : g_np mX10_sameBegins 2 := (by decide +kernel : (parseMethodDescriptor mX10_sameBegins.1.desc).map (fun d => d.parameters.length) = some 2)
def mX10_pence : gMi := (yX10_pence, cX10_pence, 13, some .int)
theorem cd_X10_pence : g_cd mX10_pence := ⟨g_tb_mem 988 (by decide +kernel) (by decide +kernel), g_tb_mem 107 (by decide +kernel) (by decide +kernel), ⟨by decide +kernel, by decide +kernel⟩, by decide⟩
theorem np_X10_pence : g_np mX10_pence 2 := (by decide +kernel : (parseMethodDescriptor mX10_pence.1.desc).map (fun d => d.parameters.length) = some 2)
def mX10_note : gMi := (yX10_note, cX10_note, 5, some .int)
theorem cd_X10_note : g_cd mX10_note := ⟨g_tb_mem 992 (by decide +kernel) (by decide +kernel), g_tb_mem 107 (by decide +kernel) (by decide +kernel), ⟨by decide +kernel, by decide +kernel⟩, by decide⟩
theorem np_X10_note : g_np mX10_note 3 := (by decide +kernel : (parseMethodDescriptor mX10_note.1.desc).map (fun d => d.parameters.length) = some 3)
def mX10_ruled : gMi := (yX10_ruled, cX10_ruled, 3, some .int)
theorem cd_X10_ruled : g_cd mX10_ruled := ⟨g_tb_mem 1000 (by decide +kernel) (by decide +kernel), g_tb_mem 107 (by decide +kernel) (by decide +kernel), ⟨by decide +kernel, by decide +kernel⟩, by decide⟩
theorem np_X10_ruled : g_np mX10_ruled 1 := (by decide +kernel : (parseMethodDescriptor mX10_ruled.1.desc).map (fun d => d.parameters.length) = some 1)
def mX10_look : gMi := (yX10_look, cX10_look, 8, some .int)
theorem cd_X10_look : g_cd mX10_look := ⟨g_tb_mem 1020 (by decide +kernel) (by decide +kernel), g_tb_mem 107 (by decide +kernel) (by decide +kernel), ⟨by decide +kernel, by decide +kernel⟩, by decide⟩
theorem np_X10_look : g_np mX10_look 2 := (by decide +kernel : (parseMethodDescriptor mX10_look.1.desc).map (fun d => d.parameters.length) = some 2)
def mX10_rulesThatAreSo : gMi := (yX10_rulesThatAreSo, cX10_rulesThatAreSo, 4, some .int)
theorem cd_X10_rulesThatAreSo : g_cd mX10_rulesThatAreSo := ⟨g_tb_mem 1004 (by decide +kernel) (by decide +kernel), g_tb_mem 107 (by decide +kernel) (by decide +kernel), ⟨by decide +kernel, by decide +kernel⟩, by decide⟩
theorem np_X10_rulesThatAreSo : g_np mX10_rulesThatAreSo 1 := (by decide +kernel : (parseMethodDescriptor mX10_rulesThatAreSo.1.desc).map (fun d => d.parameters.length) = some 1)
def mX10_isSoBy : gMi := (yX10_isSoBy, cX10_isSoBy, 4, some .boolean)
theorem cd_X10_isSoBy : g_cd mX10_isSoBy := ⟨g_tb_mem 1008 (by decide +kernel) (by decide +kernel), g_tb_mem 107 (by decide +kernel) (by decide +kernel), ⟨by decide +kernel, by decide +kernel⟩, by decide⟩
theorem np_X10_isSoBy : g_np mX10_isSoBy 2 := (by decide +kernel : (parseMethodDescriptor mX10_isSoBy.1.desc).map (fun d => d.parameters.length) = some 2)
def mX10_mostAlike : gMi := (yX10_mostAlike, cX10_mostAlike, 8, some .int)
theorem cd_X10_mostAlike : g_cd mX10_mostAlike := ⟨g_tb_mem 1024 (by decide +kernel) (by decide +kernel), g_tb_mem 107 (by decide +kernel) (by decide +kernel), ⟨by decide +kernel, by decide +kernel⟩, by decide⟩
theorem np_X10_mostAlike : g_np mX10_mostAlike 2 := (by decide +kernel : (parseMethodDescriptor mX10_mostAlike.1.desc).map (fun d => d.parameters.length) = some 2)
def mX10_seed : gMi := (yX10_seed, cX10_seed, 3, some .int)
theorem cd_X10_seed : g_cd mX10_seed := ⟨g_tb_mem 1029 (by decide +kernel) (by decide +kernel), g_tb_mem 107 (by decide +kernel) (by decide +kernel), ⟨by decide +kernel, by decide +kernel⟩, by decide⟩
theorem np_X10_seed : g_np mX10_seed 1 := (by decide +kernel : (parseMethodDescriptor mX10_seed.1.desc).map (fun d => d.parameters.length) = some 1)
def mX10_mornings : gMi := (yX10_mornings, cX10_mornings, 11, some .int)
theorem cd_X10_mornings : g_cd mX10_mornings := ⟨g_tb_mem 1033 (by decide +kernel) (by decide +kernel), g_tb_mem 107 (by decide +kernel) (by decide +kernel), ⟨by decide +kernel, by decide +kernel⟩, by decide⟩
theorem np_X10_mornings : g_np mX10_mornings 4 := (by decide +kernel : (parseMethodDescriptor mX10_mornings.1.desc).map (fun d => d.parameters.length) = some 4)
def mX10_drawCarts : gMi := (yX10_drawCarts, cX10_drawCarts, 2, none)
theorem cd_X10_drawCarts : g_cd mX10_drawCarts := ⟨g_tb_mem 1038 (by decide +kernel) (by decide +kernel), g_tb_mem 107 (by decide +kernel) (by decide +kernel), ⟨by decide +kernel, by decide +kernel⟩, by decide⟩
theorem np_X10_drawCarts : g_np mX10_drawCarts 1 := (by decide +kernel : (parseMethodDescriptor mX10_drawCarts.1.desc).map (fun d => d.parameters.length) = some 1)
def mX10_nextDraw : gMi := (yX10_nextDraw, cX10_nextDraw, 1, some .int)
theorem cd_X10_nextDraw : g_cd mX10_nextDraw := ⟨g_tb_mem 1042 (by decide +kernel) (by decide +kernel), g_tb_mem 107 (by decide +kernel) (by decide +kernel), ⟨by decide +kernel, by decide +kernel⟩, by decide⟩
theorem np_X10_nextDraw : g_np mX10_nextDraw 0 := (by decide +kernel : (parseMethodDescriptor mX10_nextDraw.1.desc).map (fun d => d.parameters.length) = some 0)
def mX10_image : gMi := (yX10_image, cX10_image, 3, some .int)
theorem cd_X10_image : g_cd mX10_image := ⟨g_tb_mem 1050 (by decide +kernel) (by decide +kernel), g_tb_mem 107 (by decide +kernel) (by decide +kernel), ⟨by decide +kernel, by decide +kernel⟩, by decide⟩
theorem np_X10_image : g_np mX10_image 1 := (by decide +kernel : (parseMethodDescriptor mX10_image.1.desc).map (fun d => d.parameters.length) = some 1)
def mX10_back : gMi := (yX10_back, cX10_back, 3, some .int)
theorem cd_X10_back : g_cd mX10_back := ⟨g_tb_mem 1059 (by decide +kernel) (by decide +kernel), g_tb_mem 107 (by decide +kernel) (by decide +kernel), ⟨by decide +kernel, by decide +kernel⟩, by decide⟩
theorem np_X10_back : g_np mX10_back 1 := (by decide +kernel : (parseMethodDescriptor mX10_back.1.desc).map (fun d => d.parameters.length) = some 1)
def mX10_within : gMi := (yX10_within, cX10_within, 3, some .boolean)
theorem cd_X10_within : g_cd mX10_within := ⟨g_tb_mem 707 (by decide +kernel) (by decide +kernel), g_tb_mem 107 (by decide +kernel) (by decide +kernel), ⟨by decide +kernel, by decide +kernel⟩, by decide⟩
theorem np_X10_within : g_np mX10_within 3 := (by decide +kernel : (parseMethodDescriptor mX10_within.1.desc).map (fun d => d.parameters.length) = some 3)
def mX10_ruleOf : gMi := (yX10_ruleOf, cX10_ruleOf, 2, some (.object "DutyBeats$Rule"))
theorem cd_X10_ruleOf : g_cd mX10_ruleOf := ⟨g_tb_mem 762 (by decide +kernel) (by decide +kernel), g_tb_mem 107 (by decide +kernel) (by decide +kernel), ⟨by decide +kernel, by decide +kernel⟩, by decide⟩
theorem np_X10_ruleOf : g_np mX10_ruleOf 1 := (by decide +kernel : (parseMethodDescriptor mX10_ruleOf.1.desc).map (fun d => d.parameters.length) = some 1)
def mX11_init : gMi := (yX11_init, cX11_init, 1, none)
theorem cd_X11_init : g_cd mX11_init := ⟨g_tb_mem 1064 (by decide +kernel) (by decide +kernel), g_tb_mem 117 (by decide +kernel) (by decide +kernel), ⟨by decide +kernel, by decide +kernel⟩, by decide⟩
theorem np_X11_init : g_np mX11_init 0 := (by decide +kernel : (parseMethodDescriptor mX11_init.1.desc).map (fun d => d.parameters.length) = some 0)
def mX11_in : gMi := (yX11_in, cX11_in, 6, some .boolean)
theorem cd_X11_in : g_cd mX11_in := ⟨g_tb_mem 1269 (by decide +kernel) (by decide +kernel), g_tb_mem 117 (by decide +kernel) (by decide +kernel), ⟨by decide +kernel, by decide +kernel⟩, by decide⟩
theorem np_X11_in : g_np mX11_in 3 := (by decide +kernel : (parseMethodDescriptor mX11_in.1.desc).map (fun d => d.parameters.length) = some 3)
def mX11_isOf : gMi := (yX11_isOf, cX11_isOf, 2, some .boolean)
theorem cd_X11_isOf : g_cd mX11_isOf := ⟨g_tb_mem 1450 (by decide +kernel) (by decide +kernel), g_tb_mem 117 (by decide +kernel) (by decide +kernel), ⟨by decide +kernel, by decide +kernel⟩, by decide⟩
theorem np_X11_isOf : g_np mX11_isOf 2 := (by decide +kernel : (parseMethodDescriptor mX11_isOf.1.desc).map (fun d => d.parameters.length) = some 2)
def mX11_bits : gMi := (yX11_bits, cX11_bits, 3, some .int)
theorem cd_X11_bits : g_cd mX11_bits := ⟨g_tb_mem 1453 (by decide +kernel) (by decide +kernel), g_tb_mem 117 (by decide +kernel) (by decide +kernel), ⟨by decide +kernel, by decide +kernel⟩, by decide⟩
theorem np_X11_bits : g_np mX11_bits 1 := (by decide +kernel : (parseMethodDescriptor mX11_bits.1.desc).map (fun d => d.parameters.length) = some 1)
def mX11_four : gMi := (yX11_four, cX11_four, 3, none)
theorem cd_X11_four : g_cd mX11_four := ⟨g_tb_mem 1201 (by decide +kernel) (by decide +kernel), g_tb_mem 117 (by decide +kernel) (by decide +kernel), ⟨by decide +kernel, by decide +kernel⟩, by decide⟩
theorem np_X11_four : g_np mX11_four 1 := (by decide +kernel : (parseMethodDescriptor mX11_four.1.desc).map (fun d => d.parameters.length) = some 1)
def mX11_feed : gMi := (yX11_feed, cX11_feed, 6, some .int)
theorem cd_X11_feed : g_cd mX11_feed := ⟨g_tb_mem 1197 (by decide +kernel) (by decide +kernel), g_tb_mem 117 (by decide +kernel) (by decide +kernel), ⟨by decide +kernel, by decide +kernel⟩, by decide⟩
theorem np_X11_feed : g_np mX11_feed 5 := (by decide +kernel : (parseMethodDescriptor mX11_feed.1.desc).map (fun d => d.parameters.length) = some 5)
def mX11_end : gMi := (yX11_end, cX11_end, 2, some .int)
theorem cd_X11_end : g_cd mX11_end := ⟨g_tb_mem 1205 (by decide +kernel) (by decide +kernel), g_tb_mem 117 (by decide +kernel) (by decide +kernel), ⟨by decide +kernel, by decide +kernel⟩, by decide⟩
theorem np_X11_end : g_np mX11_end 1 := (by decide +kernel : (parseMethodDescriptor mX11_end.1.desc).map (fun d => d.parameters.length) = some 1)
def mX11_fails : gMi := (yX11_fails, cX11_fails, 3, some .boolean)
theorem cd_X11_fails : g_cd mX11_fails := ⟨g_tb_mem 1242 (by decide +kernel) (by decide +kernel), g_tb_mem 117 (by decide +kernel) (by decide +kernel), ⟨by decide +kernel, by decide +kernel⟩, by decide⟩
theorem np_X11_fails : g_np mX11_fails 2 := (by decide +kernel : (parseMethodDescriptor mX11_fails.1.desc).map (fun d => d.parameters.length) = some 2)
def mX11_see : gMi := (yX11_see, cX11_see, 1, some .int)
theorem cd_X11_see : g_cd mX11_see := ⟨g_tb_mem 1221 (by decide +kernel) (by decide +kernel), g_tb_mem 117 (by decide +kernel) (by decide +kernel), ⟨by decide +kernel, by decide +kernel⟩, by decide⟩
theorem np_X11_see : g_np mX11_see 0 := (by decide +kernel : (parseMethodDescriptor mX11_see.1.desc).map (fun d => d.parameters.length) = some 0)
def mX11_isDigit : gMi := (yX11_isDigit, cX11_isDigit, 2, some .boolean)
theorem cd_X11_isDigit : g_cd mX11_isDigit := ⟨g_tb_mem 1266 (by decide +kernel) (by decide +kernel), g_tb_mem 117 (by decide +kernel) (by decide +kernel), ⟨by decide +kernel, by decide +kernel⟩, by decide⟩
theorem np_X11_isDigit : g_np mX11_isDigit 1 := (by decide +kernel : (parseMethodDescriptor mX11_isDigit.1.desc).map (fun d => d.parameters.length) = some 1)
def mX11_isLetter : gMi := (yX11_isLetter, cX11_isLetter, 2, some .boolean)
theorem cd_X11_isLetter : g_cd mX11_isLetter := ⟨g_tb_mem 1234 (by decide +kernel) (by decide +kernel), g_tb_mem 117 (by decide +kernel) (by decide +kernel), ⟨by decide +kernel, by decide +kernel⟩, by decide⟩
theorem np_X11_isLetter : g_np mX11_isLetter 1 := (by decide +kernel : (parseMethodDescriptor mX11_isLetter.1.desc).map (fun d => d.parameters.length) = some 1)
def mX11_isWord : gMi := (yX11_isWord, cX11_isWord, 6, some .boolean)
theorem cd_X11_isWord : g_cd mX11_isWord := ⟨g_tb_mem 1230 (by decide +kernel) (by decide +kernel), g_tb_mem 117 (by decide +kernel) (by decide +kernel), ⟨by decide +kernel, by decide +kernel⟩, by decide⟩
theorem np_X11_isWord : g_np mX11_isWord 1 := (by decide +kernel : (parseMethodDescriptor mX11_isWord.1.desc).map (fun d => d.parameters.length) = some 1)
def mX11_passWord : gMi := (yX11_passWord, cX11_passWord, 1, none)
theorem cd_X11_passWord : g_cd mX11_passWord := ⟨g_tb_mem 1254 (by decide +kernel) (by decide +kernel), g_tb_mem 117 (by decide +kernel) (by decide +kernel), ⟨by decide +kernel, by decide +kernel⟩, by decide⟩
theorem np_X11_passWord : g_np mX11_passWord 0 := (by decide +kernel : (parseMethodDescriptor mX11_passWord.1.desc).map (fun d => d.parameters.length) = some 0)
def mX11_takesWord : gMi := (yX11_takesWord, cX11_takesWord, 3, some .boolean)
theorem cd_X11_takesWord : g_cd mX11_takesWord := ⟨g_tb_mem 1325 (by decide +kernel) (by decide +kernel), g_tb_mem 117 (by decide +kernel) (by decide +kernel), ⟨by decide +kernel, by decide +kernel⟩, by decide⟩
theorem np_X11_takesWord : g_np mX11_takesWord 1 := (by decide +kernel : (parseMethodDescriptor mX11_takesWord.1.desc).map (fun d => d.parameters.length) = some 1)
def mX11_numberHere : gMi := (yX11_numberHere, cX11_numberHere, 5, some .boolean)
theorem cd_X11_numberHere : g_cd mX11_numberHere := ⟨g_tb_mem 1262 (by decide +kernel) (by decide +kernel), g_tb_mem 117 (by decide +kernel) (by decide +kernel), ⟨by decide +kernel, by decide +kernel⟩, by decide⟩
theorem np_X11_numberHere : g_np mX11_numberHere 2 := (by decide +kernel : (parseMethodDescriptor mX11_numberHere.1.desc).map (fun d => d.parameters.length) = some 2)
def mX11_wordHere : gMi := (yX11_wordHere, cX11_wordHere, 1, some .int)
theorem cd_X11_wordHere : g_cd mX11_wordHere := ⟨g_tb_mem 1310 (by decide +kernel) (by decide +kernel), g_tb_mem 117 (by decide +kernel) (by decide +kernel), ⟨by decide +kernel, by decide +kernel⟩, by decide⟩
theorem np_X11_wordHere : g_np mX11_wordHere 0 := (by decide +kernel : (parseMethodDescriptor mX11_wordHere.1.desc).map (fun d => d.parameters.length) = some 0)
def mX11_puts : gMi := (yX11_puts, cX11_puts, 3, none)
theorem cd_X11_puts : g_cd mX11_puts := ⟨g_tb_mem 1306 (by decide +kernel) (by decide +kernel), g_tb_mem 117 (by decide +kernel) (by decide +kernel), ⟨by decide +kernel, by decide +kernel⟩, by decide⟩
theorem np_X11_puts : g_np mX11_puts 2 := (by decide +kernel : (parseMethodDescriptor mX11_puts.1.desc).map (fun d => d.parameters.length) = some 2)
def mX11_makes : gMi := (yX11_makes, cX11_makes, 2, some .boolean)
theorem cd_X11_makes : g_cd mX11_makes := ⟨g_tb_mem 1302 (by decide +kernel) (by decide +kernel), g_tb_mem 117 (by decide +kernel) (by decide +kernel), ⟨by decide +kernel, by decide +kernel⟩, by decide⟩
theorem np_X11_makes : g_np mX11_makes 1 := (by decide +kernel : (parseMethodDescriptor mX11_makes.1.desc).map (fun d => d.parameters.length) = some 1)
def mX11_opens : gMi := (yX11_opens, cX11_opens, 2, some .boolean)
theorem cd_X11_opens : g_cd mX11_opens := ⟨g_tb_mem 1338 (by decide +kernel) (by decide +kernel), g_tb_mem 117 (by decide +kernel) (by decide +kernel), ⟨by decide +kernel, by decide +kernel⟩, by decide⟩
theorem np_X11_opens : g_np mX11_opens 1 := (by decide +kernel : (parseMethodDescriptor mX11_opens.1.desc).map (fun d => d.parameters.length) = some 1)
def mX11_strength : gMi := (yX11_strength, cX11_strength, 1, some .int)
theorem cd_X11_strength : g_cd mX11_strength := ⟨g_tb_mem 1353 (by decide +kernel) (by decide +kernel), g_tb_mem 117 (by decide +kernel) (by decide +kernel), ⟨by decide +kernel, by decide +kernel⟩, by decide⟩
theorem np_X11_strength : g_np mX11_strength 1 := (by decide +kernel : (parseMethodDescriptor mX11_strength.1.desc).map (fun d => d.parameters.length) = some 1)
def mX11_layDown : gMi := (yX11_layDown, cX11_layDown, 2, none)
theorem cd_X11_layDown : g_cd mX11_layDown := ⟨g_tb_mem 1350 (by decide +kernel) (by decide +kernel), g_tb_mem 117 (by decide +kernel) (by decide +kernel), ⟨by decide +kernel, by decide +kernel⟩, by decide⟩
theorem np_X11_layDown : g_np mX11_layDown 1 := (by decide +kernel : (parseMethodDescriptor mX11_layDown.1.desc).map (fun d => d.parameters.length) = some 1)
def mX11_value : gMi := (yX11_value, cX11_value, 3, some .boolean)
theorem cd_X11_value : g_cd mX11_value := ⟨g_tb_mem 1297 (by decide +kernel) (by decide +kernel), g_tb_mem 117 (by decide +kernel) (by decide +kernel), ⟨by decide +kernel, by decide +kernel⟩, by decide⟩
theorem np_X11_value : g_np mX11_value 0 := (by decide +kernel : (parseMethodDescriptor mX11_value.1.desc).map (fun d => d.parameters.length) = some 0)
def mX11_term : gMi := (yX11_term, cX11_term, 2, some .boolean)
theorem cd_X11_term : g_cd mX11_term := ⟨g_tb_mem 1293 (by decide +kernel) (by decide +kernel), g_tb_mem 117 (by decide +kernel) (by decide +kernel), ⟨by decide +kernel, by decide +kernel⟩, by decide⟩
theorem np_X11_term : g_np mX11_term 0 := (by decide +kernel : (parseMethodDescriptor mX11_term.1.desc).map (fun d => d.parameters.length) = some 0)
def mX11_sum : gMi := (yX11_sum, cX11_sum, 2, some .boolean)
theorem cd_X11_sum : g_cd mX11_sum := ⟨g_tb_mem 1289 (by decide +kernel) (by decide +kernel), g_tb_mem 117 (by decide +kernel) (by decide +kernel), ⟨by decide +kernel, by decide +kernel⟩, by decide⟩
theorem np_X11_sum : g_np mX11_sum 0 := (by decide +kernel : (parseMethodDescriptor mX11_sum.1.desc).map (fun d => d.parameters.length) = some 0)
def mX11_compare : gMi := (yX11_compare, cX11_compare, 5, some .boolean)
theorem cd_X11_compare : g_cd mX11_compare := ⟨g_tb_mem 1342 (by decide +kernel) (by decide +kernel), g_tb_mem 117 (by decide +kernel) (by decide +kernel), ⟨by decide +kernel, by decide +kernel⟩, by decide⟩
theorem np_X11_compare : g_np mX11_compare 0 := (by decide +kernel : (parseMethodDescriptor mX11_compare.1.desc).map (fun d => d.parameters.length) = some 0)
def mX11_fact : gMi := (yX11_fact, cX11_fact, 3, some .boolean)
theorem cd_X11_fact : g_cd mX11_fact := ⟨g_tb_mem 1333 (by decide +kernel) (by decide +kernel), g_tb_mem 117 (by decide +kernel) (by decide +kernel), ⟨by decide +kernel, by decide +kernel⟩, by decide⟩
theorem np_X11_fact : g_np mX11_fact 0 := (by decide +kernel : (parseMethodDescriptor mX11_fact.1.desc).map (fun d => d.parameters.length) = some 0)
def mX11_isInside : gMi := (yX11_isInside, cX11_isInside, 2, some .boolean)
theorem cd_X11_isInside : g_cd mX11_isInside := ⟨g_tb_mem 1357 (by decide +kernel) (by decide +kernel), g_tb_mem 117 (by decide +kernel) (by decide +kernel), ⟨by decide +kernel, by decide +kernel⟩, by decide⟩
theorem np_X11_isInside : g_np mX11_isInside 0 := (by decide +kernel : (parseMethodDescriptor mX11_isInside.1.desc).map (fun d => d.parameters.length) = some 0)
def mX11_closes : gMi := (yX11_closes, cX11_closes, 1, none)
theorem cd_X11_closes : g_cd mX11_closes := ⟨g_tb_mem 1346 (by decide +kernel) (by decide +kernel), g_tb_mem 117 (by decide +kernel) (by decide +kernel), ⟨by decide +kernel, by decide +kernel⟩, by decide⟩
theorem np_X11_closes : g_np mX11_closes 0 := (by decide +kernel : (parseMethodDescriptor mX11_closes.1.desc).map (fun d => d.parameters.length) = some 0)
def mX11_tested : gMi := (yX11_tested, cX11_tested, 3, some .boolean)
theorem cd_X11_tested : g_cd mX11_tested := ⟨g_tb_mem 1329 (by decide +kernel) (by decide +kernel), g_tb_mem 117 (by decide +kernel) (by decide +kernel), ⟨by decide +kernel, by decide +kernel⟩, by decide⟩
theorem np_X11_tested : g_np mX11_tested 0 := (by decide +kernel : (parseMethodDescriptor mX11_tested.1.desc).map (fun d => d.parameters.length) = some 0)
def mX11_isLetHere : gMi := (yX11_isLetHere, cX11_isLetHere, 2, some .boolean)
theorem cd_X11_isLetHere : g_cd mX11_isLetHere := ⟨g_tb_mem 1285 (by decide +kernel) (by decide +kernel), g_tb_mem 117 (by decide +kernel) (by decide +kernel), ⟨by decide +kernel, by decide +kernel⟩, by decide⟩
theorem np_X11_isLetHere : g_np mX11_isLetHere 0 := (by decide +kernel : (parseMethodDescriptor mX11_isLetHere.1.desc).map (fun d => d.parameters.length) = some 0)
def mX11_cellHere : gMi := (yX11_cellHere, cX11_cellHere, 4, some .boolean)
theorem cd_X11_cellHere : g_cd mX11_cellHere := ⟨g_tb_mem 1258 (by decide +kernel) (by decide +kernel), g_tb_mem 117 (by decide +kernel) (by decide +kernel), ⟨by decide +kernel, by decide +kernel⟩, by decide⟩
theorem np_X11_cellHere : g_np mX11_cellHere 3 := (by decide +kernel : (parseMethodDescriptor mX11_cellHere.1.desc).map (fun d => d.parameters.length) = some 3)
def mX11_isJunctionHere : gMi := (yX11_isJunctionHere, cX11_isJunctionHere, 2, some .boolean)
theorem cd_X11_isJunctionHere : g_cd mX11_isJunctionHere := ⟨g_tb_mem 1250 (by decide +kernel) (by decide +kernel), g_tb_mem 117 (by decide +kernel) (by decide +kernel), ⟨by decide +kernel, by decide +kernel⟩, by decide⟩
theorem np_X11_isJunctionHere : g_np mX11_isJunctionHere 1 := (by decide +kernel : (parseMethodDescriptor mX11_isJunctionHere.1.desc).map (fun d => d.parameters.length) = some 1)
def mX11_isRoadHere : gMi := (yX11_isRoadHere, cX11_isRoadHere, 3, some .boolean)
theorem cd_X11_isRoadHere : g_cd mX11_isRoadHere := ⟨g_tb_mem 1273 (by decide +kernel) (by decide +kernel), g_tb_mem 117 (by decide +kernel) (by decide +kernel), ⟨by decide +kernel, by decide +kernel⟩, by decide⟩
theorem np_X11_isRoadHere : g_np mX11_isRoadHere 1 := (by decide +kernel : (parseMethodDescriptor mX11_isRoadHere.1.desc).map (fun d => d.parameters.length) = some 1)
def mX11_isClashHere : gMi := (yX11_isClashHere, cX11_isClashHere, 3, some .boolean)
theorem cd_X11_isClashHere : g_cd mX11_isClashHere := ⟨g_tb_mem 1277 (by decide +kernel) (by decide +kernel), g_tb_mem 117 (by decide +kernel) (by decide +kernel), ⟨by decide +kernel, by decide +kernel⟩, by decide⟩
theorem np_X11_isClashHere : g_np mX11_isClashHere 0 := (by decide +kernel : (parseMethodDescriptor mX11_isClashHere.1.desc).map (fun d => d.parameters.length) = some 0)
def mX11_isScoreHere : gMi := (yX11_isScoreHere, cX11_isScoreHere, 2, some .boolean)
theorem cd_X11_isScoreHere : g_cd mX11_isScoreHere := ⟨g_tb_mem 1281 (by decide +kernel) (by decide +kernel), g_tb_mem 117 (by decide +kernel) (by decide +kernel), ⟨by decide +kernel, by decide +kernel⟩, by decide⟩
theorem np_X11_isScoreHere : g_np mX11_isScoreHere 0 := (by decide +kernel : (parseMethodDescriptor mX11_isScoreHere.1.desc).map (fun d => d.parameters.length) = some 0)
def mX11_junctionLineHere : gMi := (yX11_junctionLineHere, cX11_junctionLineHere, 2, some .boolean)
theorem cd_X11_junctionLineHere : g_cd mX11_junctionLineHere := ⟨g_tb_mem 1246 (by decide +kernel) (by decide +kernel), g_tb_mem 117 (by decide +kernel) (by decide +kernel), ⟨by decide +kernel, by decide +kernel⟩, by decide⟩
theorem np_X11_junctionLineHere : g_np mX11_junctionLineHere 1 := (by decide +kernel : (parseMethodDescriptor mX11_junctionLineHere.1.desc).map (fun d => d.parameters.length) = some 1)
def mX11_isJunctionWord : gMi := (yX11_isJunctionWord, cX11_isJunctionWord, 1, some .boolean)
theorem cd_X11_isJunctionWord : g_cd mX11_isJunctionWord := ⟨g_tb_mem 1225 (by decide +kernel) (by decide +kernel), g_tb_mem 117 (by decide +kernel) (by decide +kernel), ⟨by decide +kernel, by decide +kernel⟩, by decide⟩
theorem np_X11_isJunctionWord : g_np mX11_isJunctionWord 0 := (by decide +kernel : (parseMethodDescriptor mX11_isJunctionWord.1.desc).map (fun d => d.parameters.length) = some 0)
def mX11_clauseHere : gMi := (yX11_clauseHere, cX11_clauseHere, 3, some .boolean)
theorem cd_X11_clauseHere : g_cd mX11_clauseHere := ⟨g_tb_mem 1217 (by decide +kernel) (by decide +kernel), g_tb_mem 117 (by decide +kernel) (by decide +kernel), ⟨by decide +kernel, by decide +kernel⟩, by decide⟩
theorem np_X11_clauseHere : g_np mX11_clauseHere 0 := (by decide +kernel : (parseMethodDescriptor mX11_clauseHere.1.desc).map (fun d => d.parameters.length) = some 0)
def mX11_readsAll : gMi := (yX11_readsAll, cX11_readsAll, 2, some .boolean)
theorem cd_X11_readsAll : g_cd mX11_readsAll := ⟨g_tb_mem 1213 (by decide +kernel) (by decide +kernel), g_tb_mem 117 (by decide +kernel) (by decide +kernel), ⟨by decide +kernel, by decide +kernel⟩, by decide⟩
theorem np_X11_readsAll : g_np mX11_readsAll 0 := (by decide +kernel : (parseMethodDescriptor mX11_readsAll.1.desc).map (fun d => d.parameters.length) = some 0)
def mX11_rule : gMi := (yX11_rule, cX11_rule, 1, some .int)
theorem cd_X11_rule : g_cd mX11_rule := ⟨g_tb_mem 1209 (by decide +kernel) (by decide +kernel), g_tb_mem 117 (by decide +kernel) (by decide +kernel), ⟨by decide +kernel, by decide +kernel⟩, by decide⟩
theorem np_X11_rule : g_np mX11_rule 0 := (by decide +kernel : (parseMethodDescriptor mX11_rule.1.desc).map (fun d => d.parameters.length) = some 0)
def mX11_junction : gMi := (yX11_junction, cX11_junction, 2, some .int)
theorem cd_X11_junction : g_cd mX11_junction := ⟨g_tb_mem 1363 (by decide +kernel) (by decide +kernel), g_tb_mem 117 (by decide +kernel) (by decide +kernel), ⟨by decide +kernel, by decide +kernel⟩, by decide⟩
theorem np_X11_junction : g_np mX11_junction 0 := (by decide +kernel : (parseMethodDescriptor mX11_junction.1.desc).map (fun d => d.parameters.length) = some 0)
def mX11_isRule : gMi := (yX11_isRule, cX11_isRule, 2, some .boolean)
theorem cd_X11_isRule : g_cd mX11_isRule := ⟨g_tb_mem 1375 (by decide +kernel) (by decide +kernel), g_tb_mem 117 (by decide +kernel) (by decide +kernel), ⟨by decide +kernel, by decide +kernel⟩, by decide⟩
theorem np_X11_isRule : g_np mX11_isRule 1 := (by decide +kernel : (parseMethodDescriptor mX11_isRule.1.desc).map (fun d => d.parameters.length) = some 1)
def mX11_push : gMi := (yX11_push, cX11_push, 3, none)
theorem cd_X11_push : g_cd mX11_push := ⟨g_tb_mem 1476 (by decide +kernel) (by decide +kernel), g_tb_mem 117 (by decide +kernel) (by decide +kernel), ⟨by decide +kernel, by decide +kernel⟩, by decide⟩
theorem np_X11_push : g_np mX11_push 1 := (by decide +kernel : (parseMethodDescriptor mX11_push.1.desc).map (fun d => d.parameters.length) = some 1)
def mX11_pop : gMi := (yX11_pop, cX11_pop, 1, some .long)
theorem cd_X11_pop : g_cd mX11_pop := ⟨g_tb_mem 1480 (by decide +kernel) (by decide +kernel), g_tb_mem 117 (by decide +kernel) (by decide +kernel), ⟨by decide +kernel, by decide +kernel⟩, by decide⟩
theorem np_X11_pop : g_np mX11_pop 0 := (by decide +kernel : (parseMethodDescriptor mX11_pop.1.desc).map (fun d => d.parameters.length) = some 0)
def mX11_one : gMi := (yX11_one, cX11_one, 5, some .long)
theorem cd_X11_one : g_cd mX11_one := ⟨g_tb_mem 1483 (by decide +kernel) (by decide +kernel), g_tb_mem 117 (by decide +kernel) (by decide +kernel), ⟨by decide +kernel, by decide +kernel⟩, by decide⟩
theorem np_X11_one : g_np mX11_one 3 := (by decide +kernel : (parseMethodDescriptor mX11_one.1.desc).map (fun d => d.parameters.length) = some 3)
def mX11_reckons : gMi := (yX11_reckons, cX11_reckons, 11, some .long)
theorem cd_X11_reckons : g_cd mX11_reckons := ⟨g_tb_mem 1472 (by decide +kernel) (by decide +kernel), g_tb_mem 117 (by decide +kernel) (by decide +kernel), ⟨by decide +kernel, by decide +kernel⟩, by decide⟩
theorem np_X11_reckons : g_np mX11_reckons 3 := (by decide +kernel : (parseMethodDescriptor mX11_reckons.1.desc).map (fun d => d.parameters.length) = some 3)
def mX11_isJunction : gMi := (yX11_isJunction, cX11_isJunction, 1, some .boolean)
theorem cd_X11_isJunction : g_cd mX11_isJunction := ⟨g_tb_mem 1415 (by decide +kernel) (by decide +kernel), g_tb_mem 117 (by decide +kernel) (by decide +kernel), ⟨by decide +kernel, by decide +kernel⟩, by decide⟩
theorem np_X11_isJunction : g_np mX11_isJunction 0 := (by decide +kernel : (parseMethodDescriptor mX11_isJunction.1.desc).map (fun d => d.parameters.length) = some 0)
def mX11_isRoad : gMi := (yX11_isRoad, cX11_isRoad, 2, some .boolean)
theorem cd_X11_isRoad : g_cd mX11_isRoad := ⟨g_tb_mem 1383 (by decide +kernel) (by decide +kernel), g_tb_mem 117 (by decide +kernel) (by decide +kernel), ⟨by decide +kernel, by decide +kernel⟩, by decide⟩
theorem np_X11_isRoad : g_np mX11_isRoad 1 := (by decide +kernel : (parseMethodDescriptor mX11_isRoad.1.desc).map (fun d => d.parameters.length) = some 1)
def mX11_waitOn : gMi := (yX11_waitOn, cX11_waitOn, 2, some .int)
theorem cd_X11_waitOn : g_cd mX11_waitOn := ⟨g_tb_mem 1387 (by decide +kernel) (by decide +kernel), g_tb_mem 117 (by decide +kernel) (by decide +kernel), ⟨by decide +kernel, by decide +kernel⟩, by decide⟩
theorem np_X11_waitOn : g_np mX11_waitOn 1 := (by decide +kernel : (parseMethodDescriptor mX11_waitOn.1.desc).map (fun d => d.parameters.length) = some 1)
def mX11_partOf : gMi := (yX11_partOf, cX11_partOf, 2, some .int)
theorem cd_X11_partOf : g_cd mX11_partOf := ⟨g_tb_mem 1391 (by decide +kernel) (by decide +kernel), g_tb_mem 117 (by decide +kernel) (by decide +kernel), ⟨by decide +kernel, by decide +kernel⟩, by decide⟩
theorem np_X11_partOf : g_np mX11_partOf 1 := (by decide +kernel : (parseMethodDescriptor mX11_partOf.1.desc).map (fun d => d.parameters.length) = some 1)
def mX11_wentFrom : gMi := (yX11_wentFrom, cX11_wentFrom, 2, some .int)
theorem cd_X11_wentFrom : g_cd mX11_wentFrom := ⟨g_tb_mem 1395 (by decide +kernel) (by decide +kernel), g_tb_mem 117 (by decide +kernel) (by decide +kernel), ⟨by decide +kernel, by decide +kernel⟩, by decide⟩
theorem np_X11_wentFrom : g_np mX11_wentFrom 1 := (by decide +kernel : (parseMethodDescriptor mX11_wentFrom.1.desc).map (fun d => d.parameters.length) = some 1)
def mX11_waitedOn : gMi := (yX11_waitedOn, cX11_waitedOn, 2, some .int)
theorem cd_X11_waitedOn : g_cd mX11_waitedOn := ⟨g_tb_mem 1399 (by decide +kernel) (by decide +kernel), g_tb_mem 117 (by decide +kernel) (by decide +kernel), ⟨by decide +kernel, by decide +kernel⟩, by decide⟩
theorem np_X11_waitedOn : g_np mX11_waitedOn 1 := (by decide +kernel : (parseMethodDescriptor mX11_waitedOn.1.desc).map (fun d => d.parameters.length) = some 1)
def mX11_sinceOf : gMi := (yX11_sinceOf, cX11_sinceOf, 4, some .int)
theorem cd_X11_sinceOf : g_cd mX11_sinceOf := ⟨g_tb_mem 1403 (by decide +kernel) (by decide +kernel), g_tb_mem 117 (by decide +kernel) (by decide +kernel), ⟨by decide +kernel, by decide +kernel⟩, by decide⟩
theorem np_X11_sinceOf : g_np mX11_sinceOf 1 := (by decide +kernel : (parseMethodDescriptor mX11_sinceOf.1.desc).map (fun d => d.parameters.length) = some 1)
def mX11_beatOfBar : gMi := (yX11_beatOfBar, cX11_beatOfBar, 1, some .int)
theorem cd_X11_beatOfBar : g_cd mX11_beatOfBar := ⟨g_tb_mem 1447 (by decide +kernel) (by decide +kernel), g_tb_mem 117 (by decide +kernel) (by decide +kernel), ⟨by decide +kernel, by decide +kernel⟩, by decide⟩
theorem np_X11_beatOfBar : g_np mX11_beatOfBar 0 := (by decide +kernel : (parseMethodDescriptor mX11_beatOfBar.1.desc).map (fun d => d.parameters.length) = some 0)
def mX11_sumOver : gMi := (yX11_sumOver, cX11_sumOver, 4, some .int)
theorem cd_X11_sumOver : g_cd mX11_sumOver := ⟨g_tb_mem 1464 (by decide +kernel) (by decide +kernel), g_tb_mem 117 (by decide +kernel) (by decide +kernel), ⟨by decide +kernel, by decide +kernel⟩, by decide⟩
theorem np_X11_sumOver : g_np mX11_sumOver 1 := (by decide +kernel : (parseMethodDescriptor mX11_sumOver.1.desc).map (fun d => d.parameters.length) = some 1)
def mX11_soundOfTwo : gMi := (yX11_soundOfTwo, cX11_soundOfTwo, 1, some .int)
theorem cd_X11_soundOfTwo : g_cd mX11_soundOfTwo := ⟨g_tb_mem 1460 (by decide +kernel) (by decide +kernel), g_tb_mem 117 (by decide +kernel) (by decide +kernel), ⟨by decide +kernel, by decide +kernel⟩, by decide⟩
theorem np_X11_soundOfTwo : g_np mX11_soundOfTwo 1 := (by decide +kernel : (parseMethodDescriptor mX11_soundOfTwo.1.desc).map (fun d => d.parameters.length) = some 1)
def mX11_soundOf : gMi := (yX11_soundOf, cX11_soundOf, 6, some .int)
theorem cd_X11_soundOf : g_cd mX11_soundOf := ⟨g_tb_mem 1457 (by decide +kernel) (by decide +kernel), g_tb_mem 117 (by decide +kernel) (by decide +kernel), ⟨by decide +kernel, by decide +kernel⟩, by decide⟩
theorem np_X11_soundOf : g_np mX11_soundOf 1 := (by decide +kernel : (parseMethodDescriptor mX11_soundOf.1.desc).map (fun d => d.parameters.length) = some 1)
def mX11_isPeace : gMi := (yX11_isPeace, cX11_isPeace, 3, some .boolean)
theorem cd_X11_isPeace : g_cd mX11_isPeace := ⟨g_tb_mem 1543 (by decide +kernel) (by decide +kernel), g_tb_mem 117 (by decide +kernel) (by decide +kernel), ⟨by decide +kernel, by decide +kernel⟩, by decide⟩
theorem np_X11_isPeace : g_np mX11_isPeace 1 := (by decide +kernel : (parseMethodDescriptor mX11_isPeace.1.desc).map (fun d => d.parameters.length) = some 1)
def mX11_begins : gMi := (yX11_begins, cX11_begins, 3, none)
theorem cd_X11_begins : g_cd mX11_begins := ⟨g_tb_mem 1367 (by decide +kernel) (by decide +kernel), g_tb_mem 117 (by decide +kernel) (by decide +kernel), ⟨by decide +kernel, by decide +kernel⟩, by decide⟩
theorem np_X11_begins : g_np mX11_begins 0 := (by decide +kernel : (parseMethodDescriptor mX11_begins.1.desc).map (fun d => d.parameters.length) = some 0)
def mX11_force : gMi := (yX11_force, cX11_force, 3, some .int)
theorem cd_X11_force : g_cd mX11_force := ⟨g_tb_mem 1371 (by decide +kernel) (by decide +kernel), g_tb_mem 117 (by decide +kernel) (by decide +kernel), ⟨by decide +kernel, by decide +kernel⟩, by decide⟩
theorem np_X11_force : g_np mX11_force 1 := (by decide +kernel : (parseMethodDescriptor mX11_force.1.desc).map (fun d => d.parameters.length) = some 1)
def mX11_road : gMi := (yX11_road, cX11_road, 3, some .int)
theorem cd_X11_road : g_cd mX11_road := ⟨g_tb_mem 1379 (by decide +kernel) (by decide +kernel), g_tb_mem 117 (by decide +kernel) (by decide +kernel), ⟨by decide +kernel, by decide +kernel⟩, by decide⟩
theorem np_X11_road : g_np mX11_road 2 := (by decide +kernel : (parseMethodDescriptor mX11_road.1.desc).map (fun d => d.parameters.length) = some 2)
def mX11_isBeat : gMi := (yX11_isBeat, cX11_isBeat, 2, some .boolean)
theorem cd_X11_isBeat : g_cd mX11_isBeat := ⟨g_tb_mem 1411 (by decide +kernel) (by decide +kernel), g_tb_mem 117 (by decide +kernel) (by decide +kernel), ⟨by decide +kernel, by decide +kernel⟩, by decide⟩
theorem np_X11_isBeat : g_np mX11_isBeat 1 := (by decide +kernel : (parseMethodDescriptor mX11_isBeat.1.desc).map (fun d => d.parameters.length) = some 1)
def mX11_scored : gMi := (yX11_scored, cX11_scored, 2, some .int)
theorem cd_X11_scored : g_cd mX11_scored := ⟨g_tb_mem 1407 (by decide +kernel) (by decide +kernel), g_tb_mem 117 (by decide +kernel) (by decide +kernel), ⟨by decide +kernel, by decide +kernel⟩, by decide⟩
theorem np_X11_scored : g_np mX11_scored 1 := (by decide +kernel : (parseMethodDescriptor mX11_scored.1.desc).map (fun d => d.parameters.length) = some 1)
def mX11_summedBy : gMi := (yX11_summedBy, cX11_summedBy, 4, some .long)
theorem cd_X11_summedBy : g_cd mX11_summedBy := ⟨g_tb_mem 1468 (by decide +kernel) (by decide +kernel), g_tb_mem 117 (by decide +kernel) (by decide +kernel), ⟨by decide +kernel, by decide +kernel⟩, by decide⟩
theorem np_X11_summedBy : g_np mX11_summedBy 1 := (by decide +kernel : (parseMethodDescriptor mX11_summedBy.1.desc).map (fun d => d.parameters.length) = some 1)
def mX11_isLetBy : gMi := (yX11_isLetBy, cX11_isLetBy, 4, some .boolean)
theorem cd_X11_isLetBy : g_cd mX11_isLetBy := ⟨g_tb_mem 1443 (by decide +kernel) (by decide +kernel), g_tb_mem 117 (by decide +kernel) (by decide +kernel), ⟨by decide +kernel, by decide +kernel⟩, by decide⟩
theorem np_X11_isLetBy : g_np mX11_isLetBy 2 := (by decide +kernel : (parseMethodDescriptor mX11_isLetBy.1.desc).map (fun d => d.parameters.length) = some 2)
def mX11_letIn : gMi := (yX11_letIn, cX11_letIn, 3, some .int)
theorem cd_X11_letIn : g_cd mX11_letIn := ⟨g_tb_mem 1439 (by decide +kernel) (by decide +kernel), g_tb_mem 117 (by decide +kernel) (by decide +kernel), ⟨by decide +kernel, by decide +kernel⟩, by decide⟩
theorem np_X11_letIn : g_np mX11_letIn 0 := (by decide +kernel : (parseMethodDescriptor mX11_letIn.1.desc).map (fun d => d.parameters.length) = some 0)
def mX11_comes : gMi := (yX11_comes, cX11_comes, 4, none)
theorem cd_X11_comes : g_cd mX11_comes := ⟨g_tb_mem 1435 (by decide +kernel) (by decide +kernel), g_tb_mem 117 (by decide +kernel) (by decide +kernel), ⟨by decide +kernel, by decide +kernel⟩, by decide⟩
theorem np_X11_comes : g_np mX11_comes 2 := (by decide +kernel : (parseMethodDescriptor mX11_comes.1.desc).map (fun d => d.parameters.length) = some 2)
def mX11_goes : gMi := (yX11_goes, cX11_goes, 3, some .int)
theorem cd_X11_goes : g_cd mX11_goes := ⟨g_tb_mem 1487 (by decide +kernel) (by decide +kernel), g_tb_mem 117 (by decide +kernel) (by decide +kernel), ⟨by decide +kernel, by decide +kernel⟩, by decide⟩
theorem np_X11_goes : g_np mX11_goes 1 := (by decide +kernel : (parseMethodDescriptor mX11_goes.1.desc).map (fun d => d.parameters.length) = some 1)
def mX11_sounds : gMi := (yX11_sounds, cX11_sounds, 3, none)
theorem cd_X11_sounds : g_cd mX11_sounds := ⟨g_tb_mem 1491 (by decide +kernel) (by decide +kernel), g_tb_mem 117 (by decide +kernel) (by decide +kernel), ⟨by decide +kernel, by decide +kernel⟩, by decide⟩
theorem np_X11_sounds : g_np mX11_sounds 0 := (by decide +kernel : (parseMethodDescriptor mX11_sounds.1.desc).map (fun d => d.parameters.length) = some 0)
def mX11_passes : gMi := (yX11_passes, cX11_passes, 4, some .int)
theorem cd_X11_passes : g_cd mX11_passes := ⟨g_tb_mem 1431 (by decide +kernel) (by decide +kernel), g_tb_mem 117 (by decide +kernel) (by decide +kernel), ⟨by decide +kernel, by decide +kernel⟩, by decide⟩
theorem np_X11_passes : g_np mX11_passes 0 := (by decide +kernel : (parseMethodDescriptor mX11_passes.1.desc).map (fun d => d.parameters.length) = some 0)
def mX11_passesAll : gMi := (yX11_passesAll, cX11_passesAll, 3, none)
theorem cd_X11_passesAll : g_cd mX11_passesAll := ⟨g_tb_mem 1527 (by decide +kernel) (by decide +kernel), g_tb_mem 117 (by decide +kernel) (by decide +kernel), ⟨by decide +kernel, by decide +kernel⟩, by decide⟩
theorem np_X11_passesAll : g_np mX11_passesAll 1 := (by decide +kernel : (parseMethodDescriptor mX11_passesAll.1.desc).map (fun d => d.parameters.length) = some 1)
def mX11_keepsAct : gMi := (yX11_keepsAct, cX11_keepsAct, 2, none)
theorem cd_X11_keepsAct : g_cd mX11_keepsAct := ⟨g_tb_mem 1427 (by decide +kernel) (by decide +kernel), g_tb_mem 117 (by decide +kernel) (by decide +kernel), ⟨by decide +kernel, by decide +kernel⟩, by decide⟩
theorem np_X11_keepsAct : g_np mX11_keepsAct 0 := (by decide +kernel : (parseMethodDescriptor mX11_keepsAct.1.desc).map (fun d => d.parameters.length) = some 0)
def mX11_undo : gMi := (yX11_undo, cX11_undo, 2, some .int)
theorem cd_X11_undo : g_cd mX11_undo := ⟨g_tb_mem 1419 (by decide +kernel) (by decide +kernel), g_tb_mem 117 (by decide +kernel) (by decide +kernel), ⟨by decide +kernel, by decide +kernel⟩, by decide⟩
theorem np_X11_undo : g_np mX11_undo 0 := (by decide +kernel : (parseMethodDescriptor mX11_undo.1.desc).map (fun d => d.parameters.length) = some 0)
def mX11_beat : gMi := (yX11_beat, cX11_beat, 1, some .int)
theorem cd_X11_beat : g_cd mX11_beat := ⟨g_tb_mem 1423 (by decide +kernel) (by decide +kernel), g_tb_mem 117 (by decide +kernel) (by decide +kernel), ⟨by decide +kernel, by decide +kernel⟩, by decide⟩
theorem np_X11_beat : g_np mX11_beat 0 := (by decide +kernel : (parseMethodDescriptor mX11_beat.1.desc).map (fun d => d.parameters.length) = some 0)
def mX11_come : gMi := (yX11_come, cX11_come, 3, some .int)
theorem cd_X11_come : g_cd mX11_come := ⟨g_tb_mem 1495 (by decide +kernel) (by decide +kernel), g_tb_mem 117 (by decide +kernel) (by decide +kernel), ⟨by decide +kernel, by decide +kernel⟩, by decide⟩
theorem np_X11_come : g_np mX11_come 2 := (by decide +kernel : (parseMethodDescriptor mX11_come.1.desc).map (fun d => d.parameters.length) = some 2)
def mX11_wave : gMi := (yX11_wave, cX11_wave, 2, some .int)
theorem cd_X11_wave : g_cd mX11_wave := ⟨g_tb_mem 1500 (by decide +kernel) (by decide +kernel), g_tb_mem 117 (by decide +kernel) (by decide +kernel), ⟨by decide +kernel, by decide +kernel⟩, by decide⟩
theorem np_X11_wave : g_np mX11_wave 1 := (by decide +kernel : (parseMethodDescriptor mX11_wave.1.desc).map (fun d => d.parameters.length) = some 1)
def mX11_score : gMi := (yX11_score, cX11_score, 3, some .int)
theorem cd_X11_score : g_cd mX11_score := ⟨g_tb_mem 1504 (by decide +kernel) (by decide +kernel), g_tb_mem 117 (by decide +kernel) (by decide +kernel), ⟨by decide +kernel, by decide +kernel⟩, by decide⟩
theorem np_X11_score : g_np mX11_score 2 := (by decide +kernel : (parseMethodDescriptor mX11_score.1.desc).map (fun d => d.parameters.length) = some 2)
def mX11_tune : gMi := (yX11_tune, cX11_tune, 4, some .int)
theorem cd_X11_tune : g_cd mX11_tune := ⟨g_tb_mem 1508 (by decide +kernel) (by decide +kernel), g_tb_mem 117 (by decide +kernel) (by decide +kernel), ⟨by decide +kernel, by decide +kernel⟩, by decide⟩
theorem np_X11_tune : g_np mX11_tune 2 := (by decide +kernel : (parseMethodDescriptor mX11_tune.1.desc).map (fun d => d.parameters.length) = some 2)
def mX11_heard : gMi := (yX11_heard, cX11_heard, 1, some .int)
theorem cd_X11_heard : g_cd mX11_heard := ⟨g_tb_mem 1513 (by decide +kernel) (by decide +kernel), g_tb_mem 117 (by decide +kernel) (by decide +kernel), ⟨by decide +kernel, by decide +kernel⟩, by decide⟩
theorem np_X11_heard : g_np mX11_heard 0 := (by decide +kernel : (parseMethodDescriptor mX11_heard.1.desc).map (fun d => d.parameters.length) = some 0)
def mX11_keeps : gMi := (yX11_keeps, cX11_keeps, 2, none)
theorem cd_X11_keeps : g_cd mX11_keeps := ⟨g_tb_mem 1523 (by decide +kernel) (by decide +kernel), g_tb_mem 117 (by decide +kernel) (by decide +kernel), ⟨by decide +kernel, by decide +kernel⟩, by decide⟩
theorem np_X11_keeps : g_np mX11_keeps 0 := (by decide +kernel : (parseMethodDescriptor mX11_keeps.1.desc).map (fun d => d.parameters.length) = some 0)
def mX11_laysBack : gMi := (yX11_laysBack, cX11_laysBack, 2, none)
theorem cd_X11_laysBack : g_cd mX11_laysBack := ⟨g_tb_mem 1531 (by decide +kernel) (by decide +kernel), g_tb_mem 117 (by decide +kernel) (by decide +kernel), ⟨by decide +kernel, by decide +kernel⟩, by decide⟩
theorem np_X11_laysBack : g_np mX11_laysBack 0 := (by decide +kernel : (parseMethodDescriptor mX11_laysBack.1.desc).map (fun d => d.parameters.length) = some 0)
def mX11_ahead : gMi := (yX11_ahead, cX11_ahead, 5, some .int)
theorem cd_X11_ahead : g_cd mX11_ahead := ⟨g_tb_mem 1517 (by decide +kernel) (by decide +kernel), g_tb_mem 117 (by decide +kernel) (by decide +kernel), ⟨by decide +kernel, by decide +kernel⟩, by decide⟩
theorem np_X11_ahead : g_np mX11_ahead 3 := (by decide +kernel : (parseMethodDescriptor mX11_ahead.1.desc).map (fun d => d.parameters.length) = some 3)
def mX11_clear : gMi := (yX11_clear, cX11_clear, 4, some .int)
theorem cd_X11_clear : g_cd mX11_clear := ⟨g_tb_mem 1535 (by decide +kernel) (by decide +kernel), g_tb_mem 117 (by decide +kernel) (by decide +kernel), ⟨by decide +kernel, by decide +kernel⟩, by decide⟩
theorem np_X11_clear : g_np mX11_clear 1 := (by decide +kernel : (parseMethodDescriptor mX11_clear.1.desc).map (fun d => d.parameters.length) = some 1)
def mX11_chord : gMi := (yX11_chord, cX11_chord, 5, some .int)
theorem cd_X11_chord : g_cd mX11_chord := ⟨g_tb_mem 1539 (by decide +kernel) (by decide +kernel), g_tb_mem 117 (by decide +kernel) (by decide +kernel), ⟨by decide +kernel, by decide +kernel⟩, by decide⟩
theorem np_X11_chord : g_np mX11_chord 1 := (by decide +kernel : (parseMethodDescriptor mX11_chord.1.desc).map (fun d => d.parameters.length) = some 1)
def mX11_isFree : gMi := (yX11_isFree, cX11_isFree, 3, some .boolean)
theorem cd_X11_isFree : g_cd mX11_isFree := ⟨g_tb_mem 1557 (by decide +kernel) (by decide +kernel), g_tb_mem 117 (by decide +kernel) (by decide +kernel), ⟨by decide +kernel, by decide +kernel⟩, by decide⟩
theorem np_X11_isFree : g_np mX11_isFree 1 := (by decide +kernel : (parseMethodDescriptor mX11_isFree.1.desc).map (fun d => d.parameters.length) = some 1)
def mX11_isDoneBy : gMi := (yX11_isDoneBy, cX11_isDoneBy, 3, some .boolean)
theorem cd_X11_isDoneBy : g_cd mX11_isDoneBy := ⟨g_tb_mem 1553 (by decide +kernel) (by decide +kernel), g_tb_mem 117 (by decide +kernel) (by decide +kernel), ⟨by decide +kernel, by decide +kernel⟩, by decide⟩
theorem np_X11_isDoneBy : g_np mX11_isDoneBy 1 := (by decide +kernel : (parseMethodDescriptor mX11_isDoneBy.1.desc).map (fun d => d.parameters.length) = some 1)
def mX11_beats : gMi := (yX11_beats, cX11_beats, 3, some .int)
theorem cd_X11_beats : g_cd mX11_beats := ⟨g_tb_mem 1547 (by decide +kernel) (by decide +kernel), g_tb_mem 117 (by decide +kernel) (by decide +kernel), ⟨by decide +kernel, by decide +kernel⟩, by decide⟩
theorem np_X11_beats : g_np mX11_beats 1 := (by decide +kernel : (parseMethodDescriptor mX11_beats.1.desc).map (fun d => d.parameters.length) = some 1)
def mX11_waitedBy : gMi := (yX11_waitedBy, cX11_waitedBy, 3, some .int)
theorem cd_X11_waitedBy : g_cd mX11_waitedBy := ⟨g_tb_mem 1566 (by decide +kernel) (by decide +kernel), g_tb_mem 117 (by decide +kernel) (by decide +kernel), ⟨by decide +kernel, by decide +kernel⟩, by decide⟩
theorem np_X11_waitedBy : g_np mX11_waitedBy 1 := (by decide +kernel : (parseMethodDescriptor mX11_waitedBy.1.desc).map (fun d => d.parameters.length) = some 1)
def mX11_bestScore : gMi := (yX11_bestScore, cX11_bestScore, 9, some .int)
theorem cd_X11_bestScore : g_cd mX11_bestScore := ⟨g_tb_mem 1561 (by decide +kernel) (by decide +kernel), g_tb_mem 117 (by decide +kernel) (by decide +kernel), ⟨by decide +kernel, by decide +kernel⟩, by decide⟩
theorem np_X11_bestScore : g_np mX11_bestScore 2 := (by decide +kernel : (parseMethodDescriptor mX11_bestScore.1.desc).map (fun d => d.parameters.length) = some 2)
def mX11_fillsRow : gMi := (yX11_fillsRow, cX11_fillsRow, 5, some .boolean)
theorem cd_X11_fillsRow : g_cd mX11_fillsRow := ⟨g_tb_mem 1576 (by decide +kernel) (by decide +kernel), g_tb_mem 117 (by decide +kernel) (by decide +kernel), ⟨by decide +kernel, by decide +kernel⟩, by decide⟩
theorem np_X11_fillsRow : g_np mX11_fillsRow 2 := (by decide +kernel : (parseMethodDescriptor mX11_fillsRow.1.desc).map (fun d => d.parameters.length) = some 2)
def mX11_weighsRow : gMi := (yX11_weighsRow, cX11_weighsRow, 3, none)
theorem cd_X11_weighsRow : g_cd mX11_weighsRow := ⟨g_tb_mem 1580 (by decide +kernel) (by decide +kernel), g_tb_mem 117 (by decide +kernel) (by decide +kernel), ⟨by decide +kernel, by decide +kernel⟩, by decide⟩
theorem np_X11_weighsRow : g_np mX11_weighsRow 1 := (by decide +kernel : (parseMethodDescriptor mX11_weighsRow.1.desc).map (fun d => d.parameters.length) = some 1)
def mX11_row : gMi := (yX11_row, cX11_row, 7, some .int)
theorem cd_X11_row : g_cd mX11_row := ⟨g_tb_mem 1570 (by decide +kernel) (by decide +kernel), g_tb_mem 117 (by decide +kernel) (by decide +kernel), ⟨by decide +kernel, by decide +kernel⟩, by decide⟩
theorem np_X11_row : g_np mX11_row 2 := (by decide +kernel : (parseMethodDescriptor mX11_row.1.desc).map (fun d => d.parameters.length) = some 2)
def mX11_isAnyCrowd : gMi := (yX11_isAnyCrowd, cX11_isAnyCrowd, 2, some .boolean)
theorem cd_X11_isAnyCrowd : g_cd mX11_isAnyCrowd := ⟨g_tb_mem 1589 (by decide +kernel) (by decide +kernel), g_tb_mem 117 (by decide +kernel) (by decide +kernel), ⟨by decide +kernel, by decide +kernel⟩, by decide⟩
theorem np_X11_isAnyCrowd : g_np mX11_isAnyCrowd 0 := (by decide +kernel : (parseMethodDescriptor mX11_isAnyCrowd.1.desc).map (fun d => d.parameters.length) = some 0)
def mX11_leastRoom : gMi := (yX11_leastRoom, cX11_leastRoom, 7, some .int)
theorem cd_X11_leastRoom : g_cd mX11_leastRoom := ⟨g_tb_mem 1584 (by decide +kernel) (by decide +kernel), g_tb_mem 117 (by decide +kernel) (by decide +kernel), ⟨by decide +kernel, by decide +kernel⟩, by decide⟩
theorem np_X11_leastRoom : g_np mX11_leastRoom 1 := (by decide +kernel : (parseMethodDescriptor mX11_leastRoom.1.desc).map (fun d => d.parameters.length) = some 1)
def mX11_shut : gMi := (yX11_shut, cX11_shut, 7, some .int)
theorem cd_X11_shut : g_cd mX11_shut := ⟨g_tb_mem 1593 (by decide +kernel) (by decide +kernel), g_tb_mem 117 (by decide +kernel) (by decide +kernel), ⟨by decide +kernel, by decide +kernel⟩, by decide⟩
theorem np_X11_shut : g_np mX11_shut 2 := (by decide +kernel : (parseMethodDescriptor mX11_shut.1.desc).map (fun d => d.parameters.length) = some 2)
def mX11_longest : gMi := (yX11_longest, cX11_longest, 8, some .int)
theorem cd_X11_longest : g_cd mX11_longest := ⟨g_tb_mem 1597 (by decide +kernel) (by decide +kernel), g_tb_mem 117 (by decide +kernel) (by decide +kernel), ⟨by decide +kernel, by decide +kernel⟩, by decide⟩
theorem np_X11_longest : g_np mX11_longest 2 := (by decide +kernel : (parseMethodDescriptor mX11_longest.1.desc).map (fun d => d.parameters.length) = some 2)
def mX11_isAlone : gMi := (yX11_isAlone, cX11_isAlone, 3, some .boolean)
theorem cd_X11_isAlone : g_cd mX11_isAlone := ⟨g_tb_mem 1605 (by decide +kernel) (by decide +kernel), g_tb_mem 117 (by decide +kernel) (by decide +kernel), ⟨by decide +kernel, by decide +kernel⟩, by decide⟩
theorem np_X11_isAlone : g_np mX11_isAlone 1 := (by decide +kernel : (parseMethodDescriptor mX11_isAlone.1.desc).map (fun d => d.parameters.length) = some 1)
def mX11_cadenza : gMi := (yX11_cadenza, cX11_cadenza, 4, some .int)
theorem cd_X11_cadenza : g_cd mX11_cadenza := ⟨g_tb_mem 1601 (by decide +kernel) (by decide +kernel), g_tb_mem 117 (by decide +kernel) (by decide +kernel), ⟨by decide +kernel, by decide +kernel⟩, by decide⟩
theorem np_X11_cadenza : g_np mX11_cadenza 1 := (by decide +kernel : (parseMethodDescriptor mX11_cadenza.1.desc).map (fun d => d.parameters.length) = some 1)
def mX11_isRest : gMi := (yX11_isRest, cX11_isRest, 4, some .boolean)
theorem cd_X11_isRest : g_cd mX11_isRest := ⟨g_tb_mem 1621 (by decide +kernel) (by decide +kernel), g_tb_mem 117 (by decide +kernel) (by decide +kernel), ⟨by decide +kernel, by decide +kernel⟩, by decide⟩
theorem np_X11_isRest : g_np mX11_isRest 2 := (by decide +kernel : (parseMethodDescriptor mX11_isRest.1.desc).map (fun d => d.parameters.length) = some 2)
def mX11_hasThen : gMi := (yX11_hasThen, cX11_hasThen, 3, some .int)
theorem cd_X11_hasThen : g_cd mX11_hasThen := ⟨g_tb_mem 1617 (by decide +kernel) (by decide +kernel), g_tb_mem 117 (by decide +kernel) (by decide +kernel), ⟨by decide +kernel, by decide +kernel⟩, by decide⟩
theorem np_X11_hasThen : g_np mX11_hasThen 2 := (by decide +kernel : (parseMethodDescriptor mX11_hasThen.1.desc).map (fun d => d.parameters.length) = some 2)
def mX11_fillsRests : gMi := (yX11_fillsRests, cX11_fillsRests, 9, none)
theorem cd_X11_fillsRests : g_cd mX11_fillsRests := ⟨g_tb_mem 1613 (by decide +kernel) (by decide +kernel), g_tb_mem 117 (by decide +kernel) (by decide +kernel), ⟨by decide +kernel, by decide +kernel⟩, by decide⟩
theorem np_X11_fillsRests : g_np mX11_fillsRests 3 := (by decide +kernel : (parseMethodDescriptor mX11_fillsRests.1.desc).map (fun d => d.parameters.length) = some 3)
def mX11_rests : gMi := (yX11_rests, cX11_rests, 8, some .int)
theorem cd_X11_rests : g_cd mX11_rests := ⟨g_tb_mem 1609 (by decide +kernel) (by decide +kernel), g_tb_mem 117 (by decide +kernel) (by decide +kernel), ⟨by decide +kernel, by decide +kernel⟩, by decide⟩
theorem np_X11_rests : g_np mX11_rests 4 := (by decide +kernel : (parseMethodDescriptor mX11_rests.1.desc).map (fun d => d.parameters.length) = some 4)
def mX11_areAlike : gMi := (yX11_areAlike, cX11_areAlike, 4, some .boolean)
theorem cd_X11_areAlike : g_cd mX11_areAlike := ⟨g_tb_mem 1629 (by decide +kernel) (by decide +kernel), g_tb_mem 117 (by decide +kernel) (by decide +kernel), ⟨by decide +kernel, by decide +kernel⟩, by decide⟩
theorem np_X11_areAlike : g_np mX11_areAlike 2 := (by decide +kernel : (parseMethodDescriptor mX11_areAlike.1.desc).map (fun d => d.parameters.length) = some 2)
def mX11_ring : gMi := (yX11_ring, cX11_ring, 4, some .int)
theorem cd_X11_ring : g_cd mX11_ring := ⟨g_tb_mem 1625 (by decide +kernel) (by decide +kernel), g_tb_mem 117 (by decide +kernel) (by decide +kernel), ⟨by decide +kernel, by decide +kernel⟩, by decide⟩
theorem np_X11_ring : g_np mX11_ring 1 := (by decide +kernel : (parseMethodDescriptor mX11_ring.1.desc).map (fun d => d.parameters.length) = some 1)
def mX11_pence : gMi := (yX11_pence, cX11_pence, 9, some .int)
theorem cd_X11_pence : g_cd mX11_pence := ⟨g_tb_mem 1633 (by decide +kernel) (by decide +kernel), g_tb_mem 117 (by decide +kernel) (by decide +kernel), ⟨by decide +kernel, by decide +kernel⟩, by decide⟩
theorem np_X11_pence : g_np mX11_pence 2 := (by decide +kernel : (parseMethodDescriptor mX11_pence.1.desc).map (fun d => d.parameters.length) = some 2)
def mX11_note : gMi := (yX11_note, cX11_note, 5, some .int)
theorem cd_X11_note : g_cd mX11_note := ⟨g_tb_mem 1638 (by decide +kernel) (by decide +kernel), g_tb_mem 117 (by decide +kernel) (by decide +kernel), ⟨by decide +kernel, by decide +kernel⟩, by decide⟩
theorem np_X11_note : g_np mX11_note 3 := (by decide +kernel : (parseMethodDescriptor mX11_note.1.desc).map (fun d => d.parameters.length) = some 3)
def mX11_areNotesSo : gMi := (yX11_areNotesSo, cX11_areNotesSo, 3, some .boolean)
theorem cd_X11_areNotesSo : g_cd mX11_areNotesSo := ⟨g_tb_mem 1651 (by decide +kernel) (by decide +kernel), g_tb_mem 117 (by decide +kernel) (by decide +kernel), ⟨by decide +kernel, by decide +kernel⟩, by decide⟩
theorem np_X11_areNotesSo : g_np mX11_areNotesSo 1 := (by decide +kernel : (parseMethodDescriptor mX11_areNotesSo.1.desc).map (fun d => d.parameters.length) = some 1)
def mX11_fillsFits : gMi := (yX11_fillsFits, cX11_fillsFits, 7, none)
theorem cd_X11_fillsFits : g_cd mX11_fillsFits := ⟨g_tb_mem 1647 (by decide +kernel) (by decide +kernel), g_tb_mem 117 (by decide +kernel) (by decide +kernel), ⟨by decide +kernel, by decide +kernel⟩, by decide⟩
theorem np_X11_fillsFits : g_np mX11_fillsFits 1 := (by decide +kernel : (parseMethodDescriptor mX11_fillsFits.1.desc).map (fun d => d.parameters.length) = some 1)
def mX11_ruled : gMi := (yX11_ruled, cX11_ruled, 5, some .int)
theorem cd_X11_ruled : g_cd mX11_ruled := ⟨g_tb_mem 1643 (by decide +kernel) (by decide +kernel), g_tb_mem 117 (by decide +kernel) (by decide +kernel), ⟨by decide +kernel, by decide +kernel⟩, by decide⟩
theorem np_X11_ruled : g_np mX11_ruled 1 := (by decide +kernel : (parseMethodDescriptor mX11_ruled.1.desc).map (fun d => d.parameters.length) = some 1)
def mX11_alikeAt : gMi := (yX11_alikeAt, cX11_alikeAt, 6, some .int)
theorem cd_X11_alikeAt : g_cd mX11_alikeAt := ⟨g_tb_mem 1659 (by decide +kernel) (by decide +kernel), g_tb_mem 117 (by decide +kernel) (by decide +kernel), ⟨by decide +kernel, by decide +kernel⟩, by decide⟩
theorem np_X11_alikeAt : g_np mX11_alikeAt 1 := (by decide +kernel : (parseMethodDescriptor mX11_alikeAt.1.desc).map (fun d => d.parameters.length) = some 1)
def mX11_look : gMi := (yX11_look, cX11_look, 7, some .int)
theorem cd_X11_look : g_cd mX11_look := ⟨g_tb_mem 1655 (by decide +kernel) (by decide +kernel), g_tb_mem 117 (by decide +kernel) (by decide +kernel), ⟨by decide +kernel, by decide +kernel⟩, by decide⟩
theorem np_X11_look : g_np mX11_look 2 := (by decide +kernel : (parseMethodDescriptor mX11_look.1.desc).map (fun d => d.parameters.length) = some 2)
def mX11_seed : gMi := (yX11_seed, cX11_seed, 3, some .int)
theorem cd_X11_seed : g_cd mX11_seed := ⟨g_tb_mem 1663 (by decide +kernel) (by decide +kernel), g_tb_mem 117 (by decide +kernel) (by decide +kernel), ⟨by decide +kernel, by decide +kernel⟩, by decide⟩
theorem np_X11_seed : g_np mX11_seed 1 := (by decide +kernel : (parseMethodDescriptor mX11_seed.1.desc).map (fun d => d.parameters.length) = some 1)
def mX11_draw : gMi := (yX11_draw, cX11_draw, 2, some .int)
theorem cd_X11_draw : g_cd mX11_draw := ⟨g_tb_mem 1673 (by decide +kernel) (by decide +kernel), g_tb_mem 117 (by decide +kernel) (by decide +kernel), ⟨by decide +kernel, by decide +kernel⟩, by decide⟩
theorem np_X11_draw : g_np mX11_draw 1 := (by decide +kernel : (parseMethodDescriptor mX11_draw.1.desc).map (fun d => d.parameters.length) = some 1)
def mX11_mornings : gMi := (yX11_mornings, cX11_mornings, 10, some .int)
theorem cd_X11_mornings : g_cd mX11_mornings := ⟨g_tb_mem 1667 (by decide +kernel) (by decide +kernel), g_tb_mem 117 (by decide +kernel) (by decide +kernel), ⟨by decide +kernel, by decide +kernel⟩, by decide⟩
theorem np_X11_mornings : g_np mX11_mornings 4 := (by decide +kernel : (parseMethodDescriptor mX11_mornings.1.desc).map (fun d => d.parameters.length) = some 4)
def mX11_count : gMi := (yX11_count, cX11_count, 2, some .int)
theorem cd_X11_count : g_cd mX11_count := ⟨g_tb_mem 1681 (by decide +kernel) (by decide +kernel), g_tb_mem 117 (by decide +kernel) (by decide +kernel), ⟨by decide +kernel, by decide +kernel⟩, by decide⟩
theorem np_X11_count : g_np mX11_count 1 := (by decide +kernel : (parseMethodDescriptor mX11_count.1.desc).map (fun d => d.parameters.length) = some 1)
def mX11_image : gMi := (yX11_image, cX11_image, 3, some .int)
theorem cd_X11_image : g_cd mX11_image := ⟨g_tb_mem 1685 (by decide +kernel) (by decide +kernel), g_tb_mem 117 (by decide +kernel) (by decide +kernel), ⟨by decide +kernel, by decide +kernel⟩, by decide⟩
theorem np_X11_image : g_np mX11_image 1 := (by decide +kernel : (parseMethodDescriptor mX11_image.1.desc).map (fun d => d.parameters.length) = some 1)
def mX11_back : gMi := (yX11_back, cX11_back, 3, some .int)
theorem cd_X11_back : g_cd mX11_back := ⟨g_tb_mem 1689 (by decide +kernel) (by decide +kernel), g_tb_mem 117 (by decide +kernel) (by decide +kernel), ⟨by decide +kernel, by decide +kernel⟩, by decide⟩
theorem np_X11_back : g_np mX11_back 1 := (by decide +kernel : (parseMethodDescriptor mX11_back.1.desc).map (fun d => d.parameters.length) = some 1)
def mJ6_numberOfTrailingZeros_0f7a4 : gMi := (yJ6_numberOfTrailingZeros_0f7a4, cJ6_numberOfTrailingZeros_0f7a4, 2, some .int)
theorem cd_J6_numberOfTrailingZeros_0f7a4 : g_cd mJ6_numberOfTrailingZeros_0f7a4 := ⟨g_tb_mem 1015 (by decide +kernel) (by decide +kernel), g_tb_mem 126 (by decide +kernel) (by decide +kernel), ⟨by decide +kernel, by decide +kernel⟩, by decide⟩
theorem np_J6_numberOfTrailingZeros_0f7a4 : g_np mJ6_numberOfTrailingZeros_0f7a4 1 := (by decide +kernel : (parseMethodDescriptor mJ6_numberOfTrailingZeros_0f7a4.1.desc).map (fun d => d.parameters.length) = some 1)
def mJ6_bitCount_0f7a4 : gMi := (yJ6_bitCount_0f7a4, cJ6_bitCount_0f7a4, 1, some .int)
theorem cd_J6_bitCount_0f7a4 : g_cd mJ6_bitCount_0f7a4 := ⟨g_tb_mem 786 (by decide +kernel) (by decide +kernel), g_tb_mem 126 (by decide +kernel) (by decide +kernel), ⟨by decide +kernel, by decide +kernel⟩, by decide⟩
theorem np_J6_bitCount_0f7a4 : g_np mJ6_bitCount_0f7a4 1 := (by decide +kernel : (parseMethodDescriptor mJ6_bitCount_0f7a4.1.desc).map (fun d => d.parameters.length) = some 1)
def mJ9_abs_0f7a4 : gMi := (yJ9_abs_0f7a4, cJ9_abs_0f7a4, 1, some .int)
theorem cd_J9_abs_0f7a4 : g_cd mJ9_abs_0f7a4 := ⟨g_tb_mem 796 (by decide +kernel) (by decide +kernel), g_tb_mem 125 (by decide +kernel) (by decide +kernel), ⟨by decide +kernel, by decide +kernel⟩, by decide⟩
theorem np_J9_abs_0f7a4 : g_np mJ9_abs_0f7a4 1 := (by decide +kernel : (parseMethodDescriptor mJ9_abs_0f7a4.1.desc).map (fun d => d.parameters.length) = some 1)
def mJ9_max_7cf53 : gMi := (yJ9_max_7cf53, cJ9_max_7cf53, 2, some .int)
theorem cd_J9_max_7cf53 : g_cd mJ9_max_7cf53 := ⟨g_tb_mem 674 (by decide +kernel) (by decide +kernel), g_tb_mem 125 (by decide +kernel) (by decide +kernel), ⟨by decide +kernel, by decide +kernel⟩, by decide⟩
theorem np_J9_max_7cf53 : g_np mJ9_max_7cf53 2 := (by decide +kernel : (parseMethodDescriptor mJ9_max_7cf53.1.desc).map (fun d => d.parameters.length) = some 2)
def mJ9_min_7cf53 : gMi := (yJ9_min_7cf53, cJ9_min_7cf53, 2, some .int)
theorem cd_J9_min_7cf53 : g_cd mJ9_min_7cf53 := ⟨g_tb_mem 687 (by decide +kernel) (by decide +kernel), g_tb_mem 125 (by decide +kernel) (by decide +kernel), ⟨by decide +kernel, by decide +kernel⟩, by decide⟩
theorem np_J9_min_7cf53 : g_np mJ9_min_7cf53 2 := (by decide +kernel : (parseMethodDescriptor mJ9_min_7cf53.1.desc).map (fun d => d.parameters.length) = some 2)
def mJ0_length_8abf5 : gMi := (yJ0_length_8abf5, cJ0_length_8abf5, 1, some .int)
theorem cd_J0_length_8abf5 : g_cd mJ0_length_8abf5 := ⟨g_tb_mem 523 (by decide +kernel) (by decide +kernel), g_tb_mem 119 (by decide +kernel) (by decide +kernel), ⟨by decide +kernel, by decide +kernel⟩, by decide⟩
theorem np_J0_length_8abf5 : g_np mJ0_length_8abf5 0 := (by decide +kernel : (parseMethodDescriptor mJ0_length_8abf5.1.desc).map (fun d => d.parameters.length) = some 0)
def mJ0_charAt_5068e : gMi := (yJ0_charAt_5068e, cJ0_charAt_5068e, 2, some .char)
theorem cd_J0_charAt_5068e : g_cd mJ0_charAt_5068e := ⟨g_tb_mem 533 (by decide +kernel) (by decide +kernel), g_tb_mem 119 (by decide +kernel) (by decide +kernel), ⟨by decide +kernel, by decide +kernel⟩, by decide⟩
theorem np_J0_charAt_5068e : g_np mJ0_charAt_5068e 1 := (by decide +kernel : (parseMethodDescriptor mJ0_charAt_5068e.1.desc).map (fun d => d.parameters.length) = some 1)
def mJ0_coder_7d493 : gMi := (yJ0_coder_7d493, cJ0_coder_7d493, 1, some .byte)
theorem cd_J0_coder_7d493 : g_cd mJ0_coder_7d493 := ⟨g_tb_mem 527 (by decide +kernel) (by decide +kernel), g_tb_mem 119 (by decide +kernel) (by decide +kernel), ⟨by decide +kernel, by decide +kernel⟩, by decide⟩
theorem np_J0_coder_7d493 : g_np mJ0_coder_7d493 0 := (by decide +kernel : (parseMethodDescriptor mJ0_coder_7d493.1.desc).map (fun d => d.parameters.length) = some 0)
def mJ0_isLatin1_aae02 : gMi := (yJ0_isLatin1_aae02, cJ0_isLatin1_aae02, 1, some .boolean)
theorem cd_J0_isLatin1_aae02 : g_cd mJ0_isLatin1_aae02 := ⟨g_tb_mem 537 (by decide +kernel) (by decide +kernel), g_tb_mem 119 (by decide +kernel) (by decide +kernel), ⟨by decide +kernel, by decide +kernel⟩, by decide⟩
theorem np_J0_isLatin1_aae02 : g_np mJ0_isLatin1_aae02 0 := (by decide +kernel : (parseMethodDescriptor mJ0_isLatin1_aae02.1.desc).map (fun d => d.parameters.length) = some 0)
def mJ0_checkIndex_df160 : gMi := (yJ0_checkIndex_df160, cJ0_checkIndex_df160, 2, none)
theorem cd_J0_checkIndex_df160 : g_cd mJ0_checkIndex_df160 := ⟨g_tb_mem 543 (by decide +kernel) (by decide +kernel), g_tb_mem 119 (by decide +kernel) (by decide +kernel), ⟨by decide +kernel, by decide +kernel⟩, by decide⟩
theorem np_J0_checkIndex_df160 : g_np mJ0_checkIndex_df160 2 := (by decide +kernel : (parseMethodDescriptor mJ0_checkIndex_df160.1.desc).map (fun d => d.parameters.length) = some 2)
def mJ1_charAt_3b067 : gMi := (yJ1_charAt_3b067, cJ1_charAt_3b067, 2, some .char)
theorem cd_J1_charAt_3b067 : g_cd mJ1_charAt_3b067 := ⟨g_tb_mem 540 (by decide +kernel) (by decide +kernel), g_tb_mem 120 (by decide +kernel) (by decide +kernel), ⟨by decide +kernel, by decide +kernel⟩, by decide⟩
theorem np_J1_charAt_3b067 : g_np mJ1_charAt_3b067 2 := (by decide +kernel : (parseMethodDescriptor mJ1_charAt_3b067.1.desc).map (fun d => d.parameters.length) = some 2)
def mJ2_getChar_3b067 : gMi := (yJ2_getChar_3b067, cJ2_getChar_3b067, 2, some .char)
theorem cd_J2_getChar_3b067 : g_cd mJ2_getChar_3b067 := ⟨g_tb_mem 561 (by decide +kernel) (by decide +kernel), g_tb_mem 122 (by decide +kernel) (by decide +kernel), ⟨by decide +kernel, by decide +kernel⟩, by decide⟩
theorem np_J2_getChar_3b067 : g_np mJ2_getChar_3b067 2 := (by decide +kernel : (parseMethodDescriptor mJ2_getChar_3b067.1.desc).map (fun d => d.parameters.length) = some 2)
def mJ2_length_9d52b : gMi := (yJ2_length_9d52b, cJ2_length_9d52b, 1, some .int)
theorem cd_J2_length_9d52b : g_cd mJ2_length_9d52b := ⟨g_tb_mem 557 (by decide +kernel) (by decide +kernel), g_tb_mem 122 (by decide +kernel) (by decide +kernel), ⟨by decide +kernel, by decide +kernel⟩, by decide⟩
theorem np_J2_length_9d52b : g_np mJ2_length_9d52b 1 := (by decide +kernel : (parseMethodDescriptor mJ2_length_9d52b.1.desc).map (fun d => d.parameters.length) = some 1)
def mJ2_charAt_3b067 : gMi := (yJ2_charAt_3b067, cJ2_charAt_3b067, 2, some .char)
theorem cd_J2_charAt_3b067 : g_cd mJ2_charAt_3b067 := ⟨g_tb_mem 551 (by decide +kernel) (by decide +kernel), g_tb_mem 122 (by decide +kernel) (by decide +kernel), ⟨by decide +kernel, by decide +kernel⟩, by decide⟩
theorem np_J2_charAt_3b067 : g_np mJ2_charAt_3b067 2 := (by decide +kernel : (parseMethodDescriptor mJ2_charAt_3b067.1.desc).map (fun d => d.parameters.length) = some 2)
def mJ2_checkIndex_2214a : gMi := (yJ2_checkIndex_2214a, cJ2_checkIndex_2214a, 2, none)
theorem cd_J2_checkIndex_2214a : g_cd mJ2_checkIndex_2214a := ⟨g_tb_mem 554 (by decide +kernel) (by decide +kernel), g_tb_mem 122 (by decide +kernel) (by decide +kernel), ⟨by decide +kernel, by decide +kernel⟩, by decide⟩
theorem np_J2_checkIndex_2214a : g_np mJ2_checkIndex_2214a 2 := (by decide +kernel : (parseMethodDescriptor mJ2_checkIndex_2214a.1.desc).map (fun d => d.parameters.length) = some 2)
def mJ7_fill_53178 : gMi := (yJ7_fill_53178, cJ7_fill_53178, 4, none)
theorem cd_J7_fill_53178 : g_cd mJ7_fill_53178 := ⟨g_tb_mem 494 (by decide +kernel) (by decide +kernel), g_tb_mem 118 (by decide +kernel) (by decide +kernel), ⟨by decide +kernel, by decide +kernel⟩, by decide⟩
theorem np_J7_fill_53178 : g_np mJ7_fill_53178 2 := (by decide +kernel : (parseMethodDescriptor mJ7_fill_53178.1.desc).map (fun d => d.parameters.length) = some 2)
def mJ7_copyOf_59c91 : gMi := (yJ7_copyOf_59c91, cJ7_copyOf_59c91, 3, some (.array .int))
theorem cd_J7_copyOf_59c91 : g_cd mJ7_copyOf_59c91 := ⟨g_tb_mem 677 (by decide +kernel) (by decide +kernel), g_tb_mem 118 (by decide +kernel) (by decide +kernel), ⟨by decide +kernel, by decide +kernel⟩, by decide⟩
theorem np_J7_copyOf_59c91 : g_np mJ7_copyOf_59c91 2 := (by decide +kernel : (parseMethodDescriptor mJ7_copyOf_59c91.1.desc).map (fun d => d.parameters.length) = some 2)
def mJ3_checkIndex_8e157 : gMi := (yJ3_checkIndex_8e157, cJ3_checkIndex_8e157, 3, some .int)
theorem cd_J3_checkIndex_8e157 : g_cd mJ3_checkIndex_8e157 := ⟨g_tb_mem 548 (by decide +kernel) (by decide +kernel), g_tb_mem 121 (by decide +kernel) (by decide +kernel), ⟨by decide +kernel, by decide +kernel⟩, by decide⟩
theorem np_J3_checkIndex_8e157 : g_np mJ3_checkIndex_8e157 3 := (by decide +kernel : (parseMethodDescriptor mJ3_checkIndex_8e157.1.desc).map (fun d => d.parameters.length) = some 3)
theorem lk_L_9 : g_lkI RL 9 mX10_init := ⟨g_tb_mem 129 (by decide +kernel) (by decide +kernel), g_tb_mem 130 (by decide +kernel) (by decide +kernel), rfl, rfl, cd_X10_init⟩
theorem lk_X10_9 : g_lkIN RX10 9 mX8_init := ⟨"DutyBeats", List.mem_of_getElem? (i := 137) (by decide +kernel), g_tb_mem 138 (by decide +kernel) (by decide +kernel), rfl, rfl, cd_X8_init⟩
theorem lk_X10_18 : g_lkIN RX10 18 mX2_init := ⟨"DutyBeats", List.mem_of_getElem? (i := 175) (by decide +kernel), g_tb_mem 176 (by decide +kernel) (by decide +kernel), rfl, rfl, cd_X2_init⟩
theorem lk_X10_31 : g_lkI RX10 31 mX3_init := ⟨g_tb_mem 251 (by decide +kernel) (by decide +kernel), g_tb_mem 252 (by decide +kernel) (by decide +kernel), rfl, rfl, cd_X3_init⟩
theorem lk_X3_3 : g_lkI RX3 3 mX9_init := ⟨g_tb_mem 254 (by decide +kernel) (by decide +kernel), g_tb_mem 255 (by decide +kernel) (by decide +kernel), rfl, rfl, cd_X9_init⟩
theorem lk_X10_40 : g_lkI RX10 40 mX7_init := ⟨g_tb_mem 271 (by decide +kernel) (by decide +kernel), g_tb_mem 272 (by decide +kernel) (by decide +kernel), rfl, rfl, cd_X7_init⟩
theorem lk_X7_3 : g_lkI RX7 3 mX9_init := ⟨g_tb_mem 274 (by decide +kernel) (by decide +kernel), g_tb_mem 255 (by decide +kernel) (by decide +kernel), rfl, rfl, cd_X9_init⟩
theorem lk_X10_55 : g_lkI RX10 55 mX0_init := ⟨g_tb_mem 290 (by decide +kernel) (by decide +kernel), g_tb_mem 291 (by decide +kernel) (by decide +kernel), rfl, rfl, cd_X0_init⟩
theorem lk_X0_24 : g_lkIN RX0 24 mX2_init := ⟨"DutyBeats", List.mem_of_getElem? (i := 296) (by decide +kernel), g_tb_mem 176 (by decide +kernel) (by decide +kernel), rfl, rfl, cd_X2_init⟩
theorem lk_X10_62 : g_lkIN RX10 62 mX4_init := ⟨"DutyBeats", List.mem_of_getElem? (i := 310) (by decide +kernel), g_tb_mem 311 (by decide +kernel) (by decide +kernel), rfl, rfl, cd_X4_init⟩
theorem lk_X10_75 : g_lkIN RX10 75 mX5_init := ⟨"DutyBeats", List.mem_of_getElem? (i := 332) (by decide +kernel), g_tb_mem 333 (by decide +kernel) (by decide +kernel), rfl, rfl, cd_X5_init⟩
theorem lk_X10_109 : g_lkIN RX10 109 mX1_init := ⟨"DutyBeats", List.mem_of_getElem? (i := 381) (by decide +kernel), g_tb_mem 382 (by decide +kernel) (by decide +kernel), rfl, rfl, cd_X1_init⟩
theorem lk_X1_11 : g_lkIN RX1 11 mX2_init := ⟨"DutyBeats", List.mem_of_getElem? (i := 386) (by decide +kernel), g_tb_mem 176 (by decide +kernel) (by decide +kernel), rfl, rfl, cd_X2_init⟩
theorem lk_X1_23 : g_lkIN RX1 23 mX4_init := ⟨"DutyBeats", List.mem_of_getElem? (i := 388) (by decide +kernel), g_tb_mem 311 (by decide +kernel) (by decide +kernel), rfl, rfl, cd_X4_init⟩
theorem lk_L_13 : g_lkV RL 13 9 mX10_feed := ⟨TX10, 19, rfl, g_tb_mem 472 (by decide +kernel) (by decide +kernel), g_tb_mem 473 (by decide +kernel) (by decide +kernel), g_tb_mem 474 (by decide +kernel) (by decide +kernel), cd_X10_feed⟩
theorem lk_X10_113 : g_lkV RX10 113 8 mX8_append := ⟨TX8, 7, rfl, g_tb_mem 476 (by decide +kernel) (by decide +kernel), g_tb_mem 477 (by decide +kernel) (by decide +kernel), g_tb_mem 478 (by decide +kernel) (by decide +kernel), cd_X8_append⟩
theorem lk_L_18 : g_lkV RL 18 9 mX10_end := ⟨TX10, 19, rfl, g_tb_mem 480 (by decide +kernel) (by decide +kernel), g_tb_mem 481 (by decide +kernel) (by decide +kernel), g_tb_mem 482 (by decide +kernel) (by decide +kernel), cd_X10_end⟩
theorem lk_L_23 : g_lkV RL 23 9 mX10_junction := ⟨TX10, 19, rfl, g_tb_mem 484 (by decide +kernel) (by decide +kernel), g_tb_mem 485 (by decide +kernel) (by decide +kernel), g_tb_mem 486 (by decide +kernel) (by decide +kernel), cd_X10_junction⟩
theorem lk_X10_117 : g_lkV RX10 117 2 mX2_forget := ⟨TX2, 15, rfl, g_tb_mem 488 (by decide +kernel) (by decide +kernel), g_tb_mem 489 (by decide +kernel) (by decide +kernel), g_tb_mem 490 (by decide +kernel) (by decide +kernel), cd_X2_forget⟩
theorem lk_X2_58 : g_lkS RX2 58 mJ7_fill_53178 := ⟨g_tb_mem 492 (by decide +kernel) (by decide +kernel), g_tb_mem 493 (by decide +kernel) (by decide +kernel), cd_J7_fill_53178⟩
theorem lk_X9_15 : g_lkV RX9 15 8 mX8_begin := ⟨TX8, 7, rfl, g_tb_mem 501 (by decide +kernel) (by decide +kernel), g_tb_mem 502 (by decide +kernel) (by decide +kernel), g_tb_mem 503 (by decide +kernel) (by decide +kernel), cd_X8_begin⟩
theorem lk_X8_34 : g_lkV RX8 34 8 mX8_next := ⟨TX8, 7, rfl, g_tb_mem 505 (by decide +kernel) (by decide +kernel), g_tb_mem 506 (by decide +kernel) (by decide +kernel), g_tb_mem 507 (by decide +kernel) (by decide +kernel), cd_X8_next⟩
theorem lk_X3_21 : g_lkV RX3 21 8 mX8_wordOf := ⟨TX8, 7, rfl, g_tb_mem 516 (by decide +kernel) (by decide +kernel), g_tb_mem 517 (by decide +kernel) (by decide +kernel), g_tb_mem 518 (by decide +kernel) (by decide +kernel), cd_X8_wordOf⟩
theorem lk_J0_495 : g_lkS RJ0 495 mJ1_charAt_3b067 := ⟨g_tb_mem 538 (by decide +kernel) (by decide +kernel), g_tb_mem 539 (by decide +kernel) (by decide +kernel), cd_J1_charAt_3b067⟩
theorem lk_J1_9 : g_lkS RJ1 9 mJ0_checkIndex_df160 := ⟨g_tb_mem 541 (by decide +kernel) (by decide +kernel), g_tb_mem 542 (by decide +kernel) (by decide +kernel), cd_J0_checkIndex_df160⟩
theorem lk_J0_1059 : g_lkS RJ0 1059 mJ3_checkIndex_8e157 := ⟨g_tb_mem 546 (by decide +kernel) (by decide +kernel), g_tb_mem 547 (by decide +kernel) (by decide +kernel), cd_J3_checkIndex_8e157⟩
theorem lk_J0_498 : g_lkS RJ0 498 mJ2_charAt_3b067 := ⟨g_tb_mem 549 (by decide +kernel) (by decide +kernel), g_tb_mem 550 (by decide +kernel) (by decide +kernel), cd_J2_charAt_3b067⟩
theorem lk_J2_67 : g_lkS RJ2 67 mJ2_checkIndex_2214a := ⟨g_tb_mem 552 (by decide +kernel) (by decide +kernel), g_tb_mem 553 (by decide +kernel) (by decide +kernel), cd_J2_checkIndex_2214a⟩
theorem lk_J2_48 : g_lkS RJ2 48 mJ2_length_9d52b := ⟨g_tb_mem 555 (by decide +kernel) (by decide +kernel), g_tb_mem 556 (by decide +kernel) (by decide +kernel), cd_J2_length_9d52b⟩
theorem lk_J2_414 : g_lkS RJ2 414 mJ0_checkIndex_df160 := ⟨g_tb_mem 558 (by decide +kernel) (by decide +kernel), g_tb_mem 542 (by decide +kernel) (by decide +kernel), cd_J0_checkIndex_df160⟩
theorem lk_J2_71 : g_lkS RJ2 71 mJ2_getChar_3b067 := ⟨g_tb_mem 559 (by decide +kernel) (by decide +kernel), g_tb_mem 560 (by decide +kernel) (by decide +kernel), cd_J2_getChar_3b067⟩
theorem lk_X3_27 : g_lkV RX3 27 8 mX8_fail := ⟨TX8, 7, rfl, g_tb_mem 568 (by decide +kernel) (by decide +kernel), g_tb_mem 569 (by decide +kernel) (by decide +kernel), g_tb_mem 570 (by decide +kernel) (by decide +kernel), cd_X8_fail⟩
theorem lk_X3_37 : g_lkV RX3 37 8 mX8_next := ⟨TX8, 7, rfl, g_tb_mem 572 (by decide +kernel) (by decide +kernel), g_tb_mem 506 (by decide +kernel) (by decide +kernel), g_tb_mem 507 (by decide +kernel) (by decide +kernel), cd_X8_next⟩
theorem lk_X3_41 : g_lkV RX3 41 8 mX8_takeNumber := ⟨TX8, 7, rfl, g_tb_mem 573 (by decide +kernel) (by decide +kernel), g_tb_mem 574 (by decide +kernel) (by decide +kernel), g_tb_mem 575 (by decide +kernel) (by decide +kernel), cd_X8_takeNumber⟩
theorem lk_X8_50 : g_lkV RX8 50 8 mX8_fail := ⟨TX8, 7, rfl, g_tb_mem 577 (by decide +kernel) (by decide +kernel), g_tb_mem 569 (by decide +kernel) (by decide +kernel), g_tb_mem 570 (by decide +kernel) (by decide +kernel), cd_X8_fail⟩
theorem lk_X8_54 : g_lkV RX8 54 8 mX8_hasTooManyDigits := ⟨TX8, 7, rfl, g_tb_mem 578 (by decide +kernel) (by decide +kernel), g_tb_mem 579 (by decide +kernel) (by decide +kernel), g_tb_mem 580 (by decide +kernel) (by decide +kernel), cd_X8_hasTooManyDigits⟩
theorem lk_X3_51 : g_lkV RX3 51 3 mX3_readRoad := ⟨TX3, 2, rfl, g_tb_mem 582 (by decide +kernel) (by decide +kernel), g_tb_mem 584 (by decide +kernel) (by decide +kernel), g_tb_mem 0 (by decide +kernel) (by decide +kernel), cd_X3_readRoad⟩
theorem lk_X3_63 : g_lkV RX3 63 2 mX2_addRoad := ⟨TX2, 15, rfl, g_tb_mem 586 (by decide +kernel) (by decide +kernel), g_tb_mem 587 (by decide +kernel) (by decide +kernel), g_tb_mem 588 (by decide +kernel) (by decide +kernel), cd_X2_addRoad⟩
theorem lk_X3_54 : g_lkV RX3 54 3 mX3_readClash := ⟨TX3, 2, rfl, g_tb_mem 590 (by decide +kernel) (by decide +kernel), g_tb_mem 592 (by decide +kernel) (by decide +kernel), g_tb_mem 1 (by decide +kernel) (by decide +kernel), cd_X3_readClash⟩
theorem lk_X3_57 : g_lkV RX3 57 3 mX3_readScore := ⟨TX3, 2, rfl, g_tb_mem 594 (by decide +kernel) (by decide +kernel), g_tb_mem 596 (by decide +kernel) (by decide +kernel), g_tb_mem 2 (by decide +kernel) (by decide +kernel), cd_X3_readScore⟩
theorem lk_X7_45 : g_lkV RX7 45 8 mX8_wordOf := ⟨TX8, 7, rfl, g_tb_mem 602 (by decide +kernel) (by decide +kernel), g_tb_mem 517 (by decide +kernel) (by decide +kernel), g_tb_mem 518 (by decide +kernel) (by decide +kernel), cd_X8_wordOf⟩
theorem lk_X7_51 : g_lkV RX7 51 8 mX8_fail := ⟨TX8, 7, rfl, g_tb_mem 603 (by decide +kernel) (by decide +kernel), g_tb_mem 569 (by decide +kernel) (by decide +kernel), g_tb_mem 570 (by decide +kernel) (by decide +kernel), cd_X8_fail⟩
theorem lk_X7_55 : g_lkV RX7 55 8 mX8_next := ⟨TX8, 7, rfl, g_tb_mem 604 (by decide +kernel) (by decide +kernel), g_tb_mem 506 (by decide +kernel) (by decide +kernel), g_tb_mem 507 (by decide +kernel) (by decide +kernel), cd_X8_next⟩
theorem lk_X7_59 : g_lkV RX7 59 7 mX7_readSum := ⟨TX7, 4, rfl, g_tb_mem 605 (by decide +kernel) (by decide +kernel), g_tb_mem 607 (by decide +kernel) (by decide +kernel), g_tb_mem 3 (by decide +kernel) (by decide +kernel), cd_X7_readSum⟩
theorem lk_X7_97 : g_lkV RX7 97 7 mX7_readValue := ⟨TX7, 4, rfl, g_tb_mem 609 (by decide +kernel) (by decide +kernel), g_tb_mem 611 (by decide +kernel) (by decide +kernel), g_tb_mem 4 (by decide +kernel) (by decide +kernel), cd_X7_readValue⟩
theorem lk_X7_106 : g_lkV RX7 106 8 mX8_hasTooManyDigits := ⟨TX8, 7, rfl, g_tb_mem 614 (by decide +kernel) (by decide +kernel), g_tb_mem 579 (by decide +kernel) (by decide +kernel), g_tb_mem 580 (by decide +kernel) (by decide +kernel), cd_X8_hasTooManyDigits⟩
theorem lk_X7_67 : g_lkV RX7 67 7 mX7_put := ⟨TX7, 4, rfl, g_tb_mem 615 (by decide +kernel) (by decide +kernel), g_tb_mem 617 (by decide +kernel) (by decide +kernel), g_tb_mem 5 (by decide +kernel) (by decide +kernel), cd_X7_put⟩
theorem lk_X7_100 : g_lkV RX7 100 7 mX7_joinSign := ⟨TX7, 4, rfl, g_tb_mem 619 (by decide +kernel) (by decide +kernel), g_tb_mem 621 (by decide +kernel) (by decide +kernel), g_tb_mem 6 (by decide +kernel) (by decide +kernel), cd_X7_joinSign⟩
theorem lk_X7_80 : g_lkV RX7 80 8 mX8_isSign := ⟨TX8, 7, rfl, g_tb_mem 623 (by decide +kernel) (by decide +kernel), g_tb_mem 624 (by decide +kernel) (by decide +kernel), g_tb_mem 625 (by decide +kernel) (by decide +kernel), cd_X8_isSign⟩
theorem lk_X7_70 : g_lkV RX7 70 7 mX7_readTest := ⟨TX7, 4, rfl, g_tb_mem 628 (by decide +kernel) (by decide +kernel), g_tb_mem 630 (by decide +kernel) (by decide +kernel), g_tb_mem 7 (by decide +kernel) (by decide +kernel), cd_X7_readTest⟩
theorem lk_X7_73 : g_lkV RX7 73 7 mX7_readFact := ⟨TX7, 4, rfl, g_tb_mem 632 (by decide +kernel) (by decide +kernel), g_tb_mem 634 (by decide +kernel) (by decide +kernel), g_tb_mem 8 (by decide +kernel) (by decide +kernel), cd_X7_readFact⟩
theorem lk_X7_84 : g_lkV RX7 84 8 mX8_takeSign := ⟨TX8, 7, rfl, g_tb_mem 637 (by decide +kernel) (by decide +kernel), g_tb_mem 638 (by decide +kernel) (by decide +kernel), g_tb_mem 639 (by decide +kernel) (by decide +kernel), cd_X8_takeSign⟩
theorem lk_X8_46 : g_lkV RX8 46 8 mX8_isSign := ⟨TX8, 7, rfl, g_tb_mem 641 (by decide +kernel) (by decide +kernel), g_tb_mem 624 (by decide +kernel) (by decide +kernel), g_tb_mem 625 (by decide +kernel) (by decide +kernel), cd_X8_isSign⟩
theorem lk_X7_87 : g_lkV RX7 87 7 mX7_compareSign := ⟨TX7, 4, rfl, g_tb_mem 642 (by decide +kernel) (by decide +kernel), g_tb_mem 644 (by decide +kernel) (by decide +kernel), g_tb_mem 9 (by decide +kernel) (by decide +kernel), cd_X7_compareSign⟩
theorem lk_X9_31 : g_lkV RX9 31 8 mX8_takeSign := ⟨TX8, 7, rfl, g_tb_mem 647 (by decide +kernel) (by decide +kernel), g_tb_mem 638 (by decide +kernel) (by decide +kernel), g_tb_mem 639 (by decide +kernel) (by decide +kernel), cd_X8_takeSign⟩
theorem lk_X10_124 : g_lkV RX10 124 2 mX2_copyFrom := ⟨TX2, 15, rfl, g_tb_mem 648 (by decide +kernel) (by decide +kernel), g_tb_mem 649 (by decide +kernel) (by decide +kernel), g_tb_mem 650 (by decide +kernel) (by decide +kernel), cd_X2_copyFrom⟩
theorem lk_L_28 : g_lkV RL 28 9 mX10_rule := ⟨TX10, 19, rfl, g_tb_mem 655 (by decide +kernel) (by decide +kernel), g_tb_mem 656 (by decide +kernel) (by decide +kernel), g_tb_mem 657 (by decide +kernel) (by decide +kernel), cd_X10_rule⟩
theorem lk_X10_135 : g_lkV RX10 135 7 mX7_startOver := ⟨TX7, 4, rfl, g_tb_mem 659 (by decide +kernel) (by decide +kernel), g_tb_mem 660 (by decide +kernel) (by decide +kernel), g_tb_mem 661 (by decide +kernel) (by decide +kernel), cd_X7_startOver⟩
theorem lk_X10_139 : g_lkV RX10 139 7 mX7_made := ⟨TX7, 4, rfl, g_tb_mem 666 (by decide +kernel) (by decide +kernel), g_tb_mem 667 (by decide +kernel) (by decide +kernel), g_tb_mem 668 (by decide +kernel) (by decide +kernel), cd_X7_made⟩
theorem lk_X7_24 : g_lkS RX7 24 mJ9_max_7cf53 := ⟨g_tb_mem 672 (by decide +kernel) (by decide +kernel), g_tb_mem 673 (by decide +kernel) (by decide +kernel), cd_J9_max_7cf53⟩
theorem lk_X7_30 : g_lkS RX7 30 mJ7_copyOf_59c91 := ⟨g_tb_mem 675 (by decide +kernel) (by decide +kernel), g_tb_mem 676 (by decide +kernel) (by decide +kernel), cd_J7_copyOf_59c91⟩
theorem lk_J7_304 : g_lkS RJ7 304 mJ9_min_7cf53 := ⟨g_tb_mem 685 (by decide +kernel) (by decide +kernel), g_tb_mem 686 (by decide +kernel) (by decide +kernel), cd_J9_min_7cf53⟩
theorem lk_X7_36 : g_lkI RX7 36 mX6_init := ⟨g_tb_mem 689 (by decide +kernel) (by decide +kernel), g_tb_mem 690 (by decide +kernel) (by decide +kernel), rfl, rfl, cd_X6_init⟩
theorem lk_L_32 : g_lkV RL 32 9 mX10_force := ⟨TX10, 19, rfl, g_tb_mem 701 (by decide +kernel) (by decide +kernel), g_tb_mem 702 (by decide +kernel) (by decide +kernel), g_tb_mem 703 (by decide +kernel) (by decide +kernel), cd_X10_force⟩
theorem lk_X10_143 : g_lkS RX10 143 mX10_within := ⟨g_tb_mem 705 (by decide +kernel) (by decide +kernel), g_tb_mem 706 (by decide +kernel) (by decide +kernel), cd_X10_within⟩
theorem lk_L_36 : g_lkV RL 36 9 mX10_road := ⟨TX10, 19, rfl, g_tb_mem 708 (by decide +kernel) (by decide +kernel), g_tb_mem 709 (by decide +kernel) (by decide +kernel), g_tb_mem 710 (by decide +kernel) (by decide +kernel), cd_X10_road⟩
theorem lk_X10_147 : g_lkV RX10 147 2 mX2_hasRoad := ⟨TX2, 15, rfl, g_tb_mem 712 (by decide +kernel) (by decide +kernel), g_tb_mem 713 (by decide +kernel) (by decide +kernel), g_tb_mem 714 (by decide +kernel) (by decide +kernel), cd_X2_hasRoad⟩
theorem lk_X10_169 : g_lkV RX10 169 2 mX2_sinceLetIn := ⟨TX2, 15, rfl, g_tb_mem 716 (by decide +kernel) (by decide +kernel), g_tb_mem 717 (by decide +kernel) (by decide +kernel), g_tb_mem 718 (by decide +kernel) (by decide +kernel), cd_X2_sinceLetIn⟩
theorem lk_X2_70 : g_lkS RX2 70 mJ9_min_7cf53 := ⟨g_tb_mem 720 (by decide +kernel) (by decide +kernel), g_tb_mem 686 (by decide +kernel) (by decide +kernel), cd_J9_min_7cf53⟩
theorem lk_L_41 : g_lkV RL 41 9 mX10_scored := ⟨TX10, 19, rfl, g_tb_mem 721 (by decide +kernel) (by decide +kernel), g_tb_mem 722 (by decide +kernel) (by decide +kernel), g_tb_mem 723 (by decide +kernel) (by decide +kernel), cd_X10_scored⟩
theorem lk_X10_173 : g_lkV RX10 173 2 mX2_hasBeat := ⟨TX2, 15, rfl, g_tb_mem 725 (by decide +kernel) (by decide +kernel), g_tb_mem 726 (by decide +kernel) (by decide +kernel), g_tb_mem 727 (by decide +kernel) (by decide +kernel), cd_X2_hasBeat⟩
theorem lk_L_143 : g_lkV RL 143 9 mX10_count := ⟨TX10, 19, rfl, g_tb_mem 729 (by decide +kernel) (by decide +kernel), g_tb_mem 730 (by decide +kernel) (by decide +kernel), g_tb_mem 731 (by decide +kernel) (by decide +kernel), cd_X10_count⟩
theorem lk_X10_188 : g_lkV RX10 188 2 mX2_beatOfBar := ⟨TX2, 15, rfl, g_tb_mem 733 (by decide +kernel) (by decide +kernel), g_tb_mem 734 (by decide +kernel) (by decide +kernel), g_tb_mem 735 (by decide +kernel) (by decide +kernel), cd_X2_beatOfBar⟩
theorem lk_X10_191 : g_lkV RX10 191 2 mX2_sumOf := ⟨TX2, 15, rfl, g_tb_mem 737 (by decide +kernel) (by decide +kernel), g_tb_mem 738 (by decide +kernel) (by decide +kernel), g_tb_mem 739 (by decide +kernel) (by decide +kernel), cd_X2_sumOf⟩
theorem lk_L_147 : g_lkV RL 147 9 mX10_heard := ⟨TX10, 19, rfl, g_tb_mem 741 (by decide +kernel) (by decide +kernel), g_tb_mem 742 (by decide +kernel) (by decide +kernel), g_tb_mem 743 (by decide +kernel) (by decide +kernel), cd_X10_heard⟩
theorem lk_L_45 : g_lkV RL 45 9 mX10_beat := ⟨TX10, 19, rfl, g_tb_mem 745 (by decide +kernel) (by decide +kernel), g_tb_mem 746 (by decide +kernel) (by decide +kernel), g_tb_mem 747 (by decide +kernel) (by decide +kernel), cd_X10_beat⟩
theorem lk_X10_198 : g_lkV RX10 198 2 mX2_isTold := ⟨TX2, 15, rfl, g_tb_mem 749 (by decide +kernel) (by decide +kernel), g_tb_mem 750 (by decide +kernel) (by decide +kernel), g_tb_mem 751 (by decide +kernel) (by decide +kernel), cd_X2_isTold⟩
theorem lk_X10_202 : g_lkV RX10 202 0 mX0_keep := ⟨TX0, 3, rfl, g_tb_mem 753 (by decide +kernel) (by decide +kernel), g_tb_mem 754 (by decide +kernel) (by decide +kernel), g_tb_mem 755 (by decide +kernel) (by decide +kernel), cd_X0_keep⟩
theorem lk_X0_25 : g_lkV RX0 25 2 mX2_copyFrom := ⟨TX2, 15, rfl, g_tb_mem 757 (by decide +kernel) (by decide +kernel), g_tb_mem 649 (by decide +kernel) (by decide +kernel), g_tb_mem 650 (by decide +kernel) (by decide +kernel), cd_X2_copyFrom⟩
theorem lk_X0_29 : g_lkS RX0 29 mJ9_min_7cf53 := ⟨g_tb_mem 758 (by decide +kernel) (by decide +kernel), g_tb_mem 686 (by decide +kernel) (by decide +kernel), cd_J9_min_7cf53⟩
theorem lk_X10_205 : g_lkV RX10 205 9 mX10_ruleOf := ⟨TX10, 19, rfl, g_tb_mem 759 (by decide +kernel) (by decide +kernel), g_tb_mem 761 (by decide +kernel) (by decide +kernel), g_tb_mem 10 (by decide +kernel) (by decide +kernel), cd_X10_ruleOf⟩
theorem lk_X10_209 : g_lkV RX10 209 2 mX2_oneBeat := ⟨TX2, 15, rfl, g_tb_mem 763 (by decide +kernel) (by decide +kernel), g_tb_mem 764 (by decide +kernel) (by decide +kernel), g_tb_mem 765 (by decide +kernel) (by decide +kernel), cd_X2_oneBeat⟩
theorem lk_X2_102 : g_lkV RX2 102 2 mX2_arrive := ⟨TX2, 15, rfl, g_tb_mem 767 (by decide +kernel) (by decide +kernel), g_tb_mem 768 (by decide +kernel) (by decide +kernel), g_tb_mem 769 (by decide +kernel) (by decide +kernel), cd_X2_arrive⟩
theorem lk_X2_119 : g_lkV RX2 119 2 mX2_addWaiting := ⟨TX2, 15, rfl, g_tb_mem 771 (by decide +kernel) (by decide +kernel), g_tb_mem 772 (by decide +kernel) (by decide +kernel), g_tb_mem 773 (by decide +kernel) (by decide +kernel), cd_X2_addWaiting⟩
theorem lk_X2_86 : g_lkV RX2 86 2 mX2_beatOfBar := ⟨TX2, 15, rfl, g_tb_mem 775 (by decide +kernel) (by decide +kernel), g_tb_mem 734 (by decide +kernel) (by decide +kernel), g_tb_mem 735 (by decide +kernel) (by decide +kernel), cd_X2_beatOfBar⟩
theorem lk_X2_105 : g_lkV RX2 105 6 mX6_sumFor := ⟨TX6, 2, rfl, g_tb_mem 776 (by decide +kernel) (by decide +kernel), g_tb_mem 777 (by decide +kernel) (by decide +kernel), g_tb_mem 778 (by decide +kernel) (by decide +kernel), cd_X6_sumFor⟩
theorem lk_X6_17 : g_lkV RX6 17 2 mX2_wordFor := ⟨TX2, 15, rfl, g_tb_mem 780 (by decide +kernel) (by decide +kernel), g_tb_mem 781 (by decide +kernel) (by decide +kernel), g_tb_mem 782 (by decide +kernel) (by decide +kernel), cd_X2_wordFor⟩
theorem lk_X2_90 : g_lkS RX2 90 mJ6_bitCount_0f7a4 := ⟨g_tb_mem 784 (by decide +kernel) (by decide +kernel), g_tb_mem 785 (by decide +kernel) (by decide +kernel), cd_J6_bitCount_0f7a4⟩
theorem lk_X2_76 : g_lkV RX2 76 2 mX2_soundWith := ⟨TX2, 15, rfl, g_tb_mem 790 (by decide +kernel) (by decide +kernel), g_tb_mem 791 (by decide +kernel) (by decide +kernel), g_tb_mem 792 (by decide +kernel) (by decide +kernel), cd_X2_soundWith⟩
theorem lk_X2_79 : g_lkS RX2 79 mJ9_abs_0f7a4 := ⟨g_tb_mem 794 (by decide +kernel) (by decide +kernel), g_tb_mem 795 (by decide +kernel) (by decide +kernel), cd_J9_abs_0f7a4⟩
theorem lk_X2_95 : g_lkV RX2 95 2 mX2_sinceLetIn := ⟨TX2, 15, rfl, g_tb_mem 799 (by decide +kernel) (by decide +kernel), g_tb_mem 717 (by decide +kernel) (by decide +kernel), g_tb_mem 718 (by decide +kernel) (by decide +kernel), cd_X2_sinceLetIn⟩
theorem lk_X2_98 : g_lkV RX2 98 2 mX2_sumOf := ⟨TX2, 15, rfl, g_tb_mem 800 (by decide +kernel) (by decide +kernel), g_tb_mem 738 (by decide +kernel) (by decide +kernel), g_tb_mem 739 (by decide +kernel) (by decide +kernel), cd_X2_sumOf⟩
theorem lk_X6_23 : g_lkS RX6 23 mX6_truth := ⟨g_tb_mem 801 (by decide +kernel) (by decide +kernel), g_tb_mem 802 (by decide +kernel) (by decide +kernel), cd_X6_truth⟩
theorem lk_X6_27 : g_lkS RX6 27 mX6_joined := ⟨g_tb_mem 804 (by decide +kernel) (by decide +kernel), g_tb_mem 805 (by decide +kernel) (by decide +kernel), cd_X6_joined⟩
theorem lk_X2_111 : g_lkV RX2 111 2 mX2_goThrough := ⟨TX2, 15, rfl, g_tb_mem 807 (by decide +kernel) (by decide +kernel), g_tb_mem 808 (by decide +kernel) (by decide +kernel), g_tb_mem 809 (by decide +kernel) (by decide +kernel), cd_X2_goThrough⟩
theorem lk_X2_123 : g_lkV RX2 123 2 mX2_leave := ⟨TX2, 15, rfl, g_tb_mem 811 (by decide +kernel) (by decide +kernel), g_tb_mem 812 (by decide +kernel) (by decide +kernel), g_tb_mem 813 (by decide +kernel) (by decide +kernel), cd_X2_leave⟩
theorem lk_X2_127 : g_lkV RX2 127 2 mX2_soundOf := ⟨TX2, 15, rfl, g_tb_mem 816 (by decide +kernel) (by decide +kernel), g_tb_mem 817 (by decide +kernel) (by decide +kernel), g_tb_mem 818 (by decide +kernel) (by decide +kernel), cd_X2_soundOf⟩
theorem lk_X2_130 : g_lkS RX2 130 mX2_heardBehind := ⟨g_tb_mem 820 (by decide +kernel) (by decide +kernel), g_tb_mem 821 (by decide +kernel) (by decide +kernel), cd_X2_heardBehind⟩
theorem lk_X2_133 : g_lkS RX2 133 mJ9_max_7cf53 := ⟨g_tb_mem 823 (by decide +kernel) (by decide +kernel), g_tb_mem 673 (by decide +kernel) (by decide +kernel), cd_J9_max_7cf53⟩
theorem lk_L_49 : g_lkV RL 49 9 mX10_come := ⟨TX10, 19, rfl, g_tb_mem 824 (by decide +kernel) (by decide +kernel), g_tb_mem 825 (by decide +kernel) (by decide +kernel), g_tb_mem 826 (by decide +kernel) (by decide +kernel), cd_X10_come⟩
theorem lk_X10_213 : g_lkV RX10 213 2 mX2_addWaiting := ⟨TX2, 15, rfl, g_tb_mem 828 (by decide +kernel) (by decide +kernel), g_tb_mem 772 (by decide +kernel) (by decide +kernel), g_tb_mem 773 (by decide +kernel) (by decide +kernel), cd_X2_addWaiting⟩
theorem lk_L_53 : g_lkV RL 53 9 mX10_wave := ⟨TX10, 19, rfl, g_tb_mem 829 (by decide +kernel) (by decide +kernel), g_tb_mem 830 (by decide +kernel) (by decide +kernel), g_tb_mem 831 (by decide +kernel) (by decide +kernel), cd_X10_wave⟩
theorem lk_X10_217 : g_lkV RX10 217 2 mX2_leave := ⟨TX2, 15, rfl, g_tb_mem 833 (by decide +kernel) (by decide +kernel), g_tb_mem 812 (by decide +kernel) (by decide +kernel), g_tb_mem 813 (by decide +kernel) (by decide +kernel), cd_X2_leave⟩
theorem lk_L_57 : g_lkV RL 57 9 mX10_score := ⟨TX10, 19, rfl, g_tb_mem 834 (by decide +kernel) (by decide +kernel), g_tb_mem 835 (by decide +kernel) (by decide +kernel), g_tb_mem 836 (by decide +kernel) (by decide +kernel), cd_X10_score⟩
theorem lk_L_61 : g_lkV RL 61 9 mX10_tune := ⟨TX10, 19, rfl, g_tb_mem 838 (by decide +kernel) (by decide +kernel), g_tb_mem 839 (by decide +kernel) (by decide +kernel), g_tb_mem 840 (by decide +kernel) (by decide +kernel), cd_X10_tune⟩
theorem lk_L_65 : g_lkV RL 65 9 mX10_undo := ⟨TX10, 19, rfl, g_tb_mem 842 (by decide +kernel) (by decide +kernel), g_tb_mem 843 (by decide +kernel) (by decide +kernel), g_tb_mem 844 (by decide +kernel) (by decide +kernel), cd_X10_undo⟩
theorem lk_X10_220 : g_lkV RX10 220 0 mX0_takeBack := ⟨TX0, 3, rfl, g_tb_mem 846 (by decide +kernel) (by decide +kernel), g_tb_mem 847 (by decide +kernel) (by decide +kernel), g_tb_mem 848 (by decide +kernel) (by decide +kernel), cd_X0_takeBack⟩
theorem lk_L_69 : g_lkV RL 69 9 mX10_ahead := ⟨TX10, 19, rfl, g_tb_mem 850 (by decide +kernel) (by decide +kernel), g_tb_mem 851 (by decide +kernel) (by decide +kernel), g_tb_mem 852 (by decide +kernel) (by decide +kernel), cd_X10_ahead⟩
theorem lk_X10_223 : g_lkV RX10 223 2 mX2_goOn := ⟨TX2, 15, rfl, g_tb_mem 854 (by decide +kernel) (by decide +kernel), g_tb_mem 855 (by decide +kernel) (by decide +kernel), g_tb_mem 856 (by decide +kernel) (by decide +kernel), cd_X2_goOn⟩
theorem lk_X2_115 : g_lkV RX2 115 2 mX2_oneBeat := ⟨TX2, 15, rfl, g_tb_mem 858 (by decide +kernel) (by decide +kernel), g_tb_mem 764 (by decide +kernel) (by decide +kernel), g_tb_mem 765 (by decide +kernel) (by decide +kernel), cd_X2_oneBeat⟩
theorem lk_L_74 : g_lkV RL 74 9 mX10_clear := ⟨TX10, 19, rfl, g_tb_mem 859 (by decide +kernel) (by decide +kernel), g_tb_mem 860 (by decide +kernel) (by decide +kernel), g_tb_mem 861 (by decide +kernel) (by decide +kernel), cd_X10_clear⟩
theorem lk_L_78 : g_lkV RL 78 9 mX10_chord := ⟨TX10, 19, rfl, g_tb_mem 863 (by decide +kernel) (by decide +kernel), g_tb_mem 864 (by decide +kernel) (by decide +kernel), g_tb_mem 865 (by decide +kernel) (by decide +kernel), cd_X10_chord⟩
theorem lk_X10_227 : g_lkV RX10 227 2 mX2_soundOf := ⟨TX2, 15, rfl, g_tb_mem 867 (by decide +kernel) (by decide +kernel), g_tb_mem 817 (by decide +kernel) (by decide +kernel), g_tb_mem 818 (by decide +kernel) (by decide +kernel), cd_X2_soundOf⟩
theorem lk_X10_230 : g_lkS RX10 230 mJ6_bitCount_0f7a4 := ⟨g_tb_mem 868 (by decide +kernel) (by decide +kernel), g_tb_mem 785 (by decide +kernel) (by decide +kernel), cd_J6_bitCount_0f7a4⟩
theorem lk_X10_235 : g_lkV RX10 235 2 mX2_isPeaceful := ⟨TX2, 15, rfl, g_tb_mem 869 (by decide +kernel) (by decide +kernel), g_tb_mem 870 (by decide +kernel) (by decide +kernel), g_tb_mem 871 (by decide +kernel) (by decide +kernel), cd_X2_isPeaceful⟩
theorem lk_L_82 : g_lkV RL 82 9 mX10_beats := ⟨TX10, 19, rfl, g_tb_mem 873 (by decide +kernel) (by decide +kernel), g_tb_mem 874 (by decide +kernel) (by decide +kernel), g_tb_mem 875 (by decide +kernel) (by decide +kernel), cd_X10_beats⟩
theorem lk_X10_238 : g_lkV RX10 238 9 mX10_share := ⟨TX10, 19, rfl, g_tb_mem 877 (by decide +kernel) (by decide +kernel), g_tb_mem 879 (by decide +kernel) (by decide +kernel), g_tb_mem 11 (by decide +kernel) (by decide +kernel), cd_X10_share⟩
theorem lk_X10_242 : g_lkV RX10 242 9 mX10_isFree := ⟨TX10, 19, rfl, g_tb_mem 881 (by decide +kernel) (by decide +kernel), g_tb_mem 883 (by decide +kernel) (by decide +kernel), g_tb_mem 12 (by decide +kernel) (by decide +kernel), cd_X10_isFree⟩
theorem lk_L_86 : g_lkV RL 86 9 mX10_bestScore := ⟨TX10, 19, rfl, g_tb_mem 885 (by decide +kernel) (by decide +kernel), g_tb_mem 886 (by decide +kernel) (by decide +kernel), g_tb_mem 887 (by decide +kernel) (by decide +kernel), cd_X10_bestScore⟩
theorem lk_X10_245 : g_lkV RX10 245 9 mX10_waitedWith := ⟨TX10, 19, rfl, g_tb_mem 889 (by decide +kernel) (by decide +kernel), g_tb_mem 891 (by decide +kernel) (by decide +kernel), g_tb_mem 13 (by decide +kernel) (by decide +kernel), cd_X10_waitedWith⟩
theorem lk_L_90 : g_lkV RL 90 9 mX10_row := ⟨TX10, 19, rfl, g_tb_mem 893 (by decide +kernel) (by decide +kernel), g_tb_mem 894 (by decide +kernel) (by decide +kernel), g_tb_mem 895 (by decide +kernel) (by decide +kernel), cd_X10_row⟩
theorem lk_X10_249 : g_lkV RX10 249 5 mX5_search := ⟨TX5, 12, rfl, g_tb_mem 897 (by decide +kernel) (by decide +kernel), g_tb_mem 898 (by decide +kernel) (by decide +kernel), g_tb_mem 899 (by decide +kernel) (by decide +kernel), cd_X5_search⟩
theorem lk_X5_58 : g_lkV RX5 58 2 mX2_isPeaceful := ⟨TX2, 15, rfl, g_tb_mem 902 (by decide +kernel) (by decide +kernel), g_tb_mem 870 (by decide +kernel) (by decide +kernel), g_tb_mem 871 (by decide +kernel) (by decide +kernel), cd_X2_isPeaceful⟩
theorem lk_X5_62 : g_lkV RX5 62 2 mX2_soundOf := ⟨TX2, 15, rfl, g_tb_mem 903 (by decide +kernel) (by decide +kernel), g_tb_mem 817 (by decide +kernel) (by decide +kernel), g_tb_mem 818 (by decide +kernel) (by decide +kernel), cd_X2_soundOf⟩
theorem lk_X5_66 : g_lkV RX5 66 2 mX2_copyFrom := ⟨TX2, 15, rfl, g_tb_mem 904 (by decide +kernel) (by decide +kernel), g_tb_mem 649 (by decide +kernel) (by decide +kernel), g_tb_mem 650 (by decide +kernel) (by decide +kernel), cd_X2_copyFrom⟩
theorem lk_X5_70 : g_lkV RX5 70 5 mX5_tryChoice := ⟨TX5, 12, rfl, g_tb_mem 905 (by decide +kernel) (by decide +kernel), g_tb_mem 907 (by decide +kernel) (by decide +kernel), g_tb_mem 14 (by decide +kernel) (by decide +kernel), cd_X5_tryChoice⟩
theorem lk_X5_78 : g_lkV RX5 78 2 mX2_arrive := ⟨TX2, 15, rfl, g_tb_mem 909 (by decide +kernel) (by decide +kernel), g_tb_mem 768 (by decide +kernel) (by decide +kernel), g_tb_mem 769 (by decide +kernel) (by decide +kernel), cd_X2_arrive⟩
theorem lk_X5_84 : g_lkV RX5 84 2 mX2_goThrough := ⟨TX2, 15, rfl, g_tb_mem 910 (by decide +kernel) (by decide +kernel), g_tb_mem 808 (by decide +kernel) (by decide +kernel), g_tb_mem 809 (by decide +kernel) (by decide +kernel), cd_X2_goThrough⟩
theorem lk_X5_74 : g_lkV RX5 74 5 mX5_choose := ⟨TX5, 12, rfl, g_tb_mem 911 (by decide +kernel) (by decide +kernel), g_tb_mem 913 (by decide +kernel) (by decide +kernel), g_tb_mem 15 (by decide +kernel) (by decide +kernel), cd_X5_choose⟩
theorem lk_X5_90 : g_lkV RX5 90 5 mX5_waitedAtLeast := ⟨TX5, 12, rfl, g_tb_mem 915 (by decide +kernel) (by decide +kernel), g_tb_mem 917 (by decide +kernel) (by decide +kernel), g_tb_mem 16 (by decide +kernel) (by decide +kernel), cd_X5_waitedAtLeast⟩
theorem lk_X5_99 : g_lkV RX5 99 5 mX5_choiceOf := ⟨TX5, 12, rfl, g_tb_mem 919 (by decide +kernel) (by decide +kernel), g_tb_mem 921 (by decide +kernel) (by decide +kernel), g_tb_mem 17 (by decide +kernel) (by decide +kernel), cd_X5_choiceOf⟩
theorem lk_X5_93 : g_lkV RX5 93 5 mX5_weigh := ⟨TX5, 12, rfl, g_tb_mem 923 (by decide +kernel) (by decide +kernel), g_tb_mem 925 (by decide +kernel) (by decide +kernel), g_tb_mem 18 (by decide +kernel) (by decide +kernel), cd_X5_weigh⟩
theorem lk_X5_103 : g_lkS RX5 103 mX2_heardBehind := ⟨g_tb_mem 927 (by decide +kernel) (by decide +kernel), g_tb_mem 821 (by decide +kernel) (by decide +kernel), cd_X2_heardBehind⟩
theorem lk_X5_96 : g_lkV RX5 96 5 mX5_waitingRoads := ⟨TX5, 12, rfl, g_tb_mem 928 (by decide +kernel) (by decide +kernel), g_tb_mem 930 (by decide +kernel) (by decide +kernel), g_tb_mem 19 (by decide +kernel) (by decide +kernel), cd_X5_waitingRoads⟩
theorem lk_L_94 : g_lkV RL 94 9 mX10_leastRoom := ⟨TX10, 19, rfl, g_tb_mem 932 (by decide +kernel) (by decide +kernel), g_tb_mem 933 (by decide +kernel) (by decide +kernel), g_tb_mem 934 (by decide +kernel) (by decide +kernel), cd_X10_leastRoom⟩
theorem lk_X10_262 : g_lkV RX10 262 9 mX10_neverCrowded := ⟨TX10, 19, rfl, g_tb_mem 936 (by decide +kernel) (by decide +kernel), g_tb_mem 938 (by decide +kernel) (by decide +kernel), g_tb_mem 20 (by decide +kernel) (by decide +kernel), cd_X10_neverCrowded⟩
theorem lk_X10_265 : g_lkV RX10 265 2 mX2_fullest := ⟨TX2, 15, rfl, g_tb_mem 940 (by decide +kernel) (by decide +kernel), g_tb_mem 941 (by decide +kernel) (by decide +kernel), g_tb_mem 942 (by decide +kernel) (by decide +kernel), cd_X2_fullest⟩
theorem lk_L_98 : g_lkV RL 98 9 mX10_shut := ⟨TX10, 19, rfl, g_tb_mem 944 (by decide +kernel) (by decide +kernel), g_tb_mem 945 (by decide +kernel) (by decide +kernel), g_tb_mem 946 (by decide +kernel) (by decide +kernel), cd_X10_shut⟩
theorem lk_X10_268 : g_lkV RX10 268 9 mX10_waitedShut := ⟨TX10, 19, rfl, g_tb_mem 948 (by decide +kernel) (by decide +kernel), g_tb_mem 950 (by decide +kernel) (by decide +kernel), g_tb_mem 21 (by decide +kernel) (by decide +kernel), cd_X10_waitedShut⟩
theorem lk_L_102 : g_lkV RL 102 9 mX10_longest := ⟨TX10, 19, rfl, g_tb_mem 952 (by decide +kernel) (by decide +kernel), g_tb_mem 953 (by decide +kernel) (by decide +kernel), g_tb_mem 954 (by decide +kernel) (by decide +kernel), cd_X10_longest⟩
theorem lk_L_106 : g_lkV RL 106 9 mX10_cadenza := ⟨TX10, 19, rfl, g_tb_mem 956 (by decide +kernel) (by decide +kernel), g_tb_mem 957 (by decide +kernel) (by decide +kernel), g_tb_mem 958 (by decide +kernel) (by decide +kernel), cd_X10_cadenza⟩
theorem lk_L_110 : g_lkV RL 110 9 mX10_rests := ⟨TX10, 19, rfl, g_tb_mem 960 (by decide +kernel) (by decide +kernel), g_tb_mem 961 (by decide +kernel) (by decide +kernel), g_tb_mem 962 (by decide +kernel) (by decide +kernel), cd_X10_rests⟩
theorem lk_X10_278 : g_lkV RX10 278 9 mX10_tryRests := ⟨TX10, 19, rfl, g_tb_mem 964 (by decide +kernel) (by decide +kernel), g_tb_mem 966 (by decide +kernel) (by decide +kernel), g_tb_mem 22 (by decide +kernel) (by decide +kernel), cd_X10_tryRests⟩
theorem lk_X10_282 : g_lkV RX10 282 9 mX10_isRest := ⟨TX10, 19, rfl, g_tb_mem 968 (by decide +kernel) (by decide +kernel), g_tb_mem 970 (by decide +kernel) (by decide +kernel), g_tb_mem 23 (by decide +kernel) (by decide +kernel), cd_X10_isRest⟩
theorem lk_L_115 : g_lkV RL 115 9 mX10_ring := ⟨TX10, 19, rfl, g_tb_mem 972 (by decide +kernel) (by decide +kernel), g_tb_mem 973 (by decide +kernel) (by decide +kernel), g_tb_mem 974 (by decide +kernel) (by decide +kernel), cd_X10_ring⟩
theorem lk_X10_291 : g_lkV RX10 291 9 mX10_ringFrom := ⟨TX10, 19, rfl, g_tb_mem 977 (by decide +kernel) (by decide +kernel), g_tb_mem 979 (by decide +kernel) (by decide +kernel), g_tb_mem 24 (by decide +kernel) (by decide +kernel), cd_X10_ringFrom⟩
theorem lk_X10_294 : g_lkV RX10 294 9 mX10_sameBegins := ⟨TX10, 19, rfl, g_tb_mem 981 (by decide +kernel) (by decide +kernel), g_tb_mem 983 (by decide +kernel) (by decide +kernel), g_tb_mem 25 (by decide +kernel) (by decide +kernel), cd_X10_sameBegins⟩
theorem lk_L_119 : g_lkV RL 119 9 mX10_pence := ⟨TX10, 19, rfl, g_tb_mem 985 (by decide +kernel) (by decide +kernel), g_tb_mem 986 (by decide +kernel) (by decide +kernel), g_tb_mem 987 (by decide +kernel) (by decide +kernel), cd_X10_pence⟩
theorem lk_L_123 : g_lkV RL 123 9 mX10_note := ⟨TX10, 19, rfl, g_tb_mem 989 (by decide +kernel) (by decide +kernel), g_tb_mem 990 (by decide +kernel) (by decide +kernel), g_tb_mem 991 (by decide +kernel) (by decide +kernel), cd_X10_note⟩
theorem lk_X10_297 : g_lkV RX10 297 4 mX4_add := ⟨TX4, 4, rfl, g_tb_mem 993 (by decide +kernel) (by decide +kernel), g_tb_mem 994 (by decide +kernel) (by decide +kernel), g_tb_mem 995 (by decide +kernel) (by decide +kernel), cd_X4_add⟩
theorem lk_L_127 : g_lkV RL 127 9 mX10_ruled := ⟨TX10, 19, rfl, g_tb_mem 997 (by decide +kernel) (by decide +kernel), g_tb_mem 998 (by decide +kernel) (by decide +kernel), g_tb_mem 999 (by decide +kernel) (by decide +kernel), cd_X10_ruled⟩
theorem lk_X10_300 : g_lkV RX10 300 9 mX10_rulesThatAreSo := ⟨TX10, 19, rfl, g_tb_mem 1001 (by decide +kernel) (by decide +kernel), g_tb_mem 1003 (by decide +kernel) (by decide +kernel), g_tb_mem 26 (by decide +kernel) (by decide +kernel), cd_X10_rulesThatAreSo⟩
theorem lk_X10_309 : g_lkV RX10 309 9 mX10_isSoBy := ⟨TX10, 19, rfl, g_tb_mem 1005 (by decide +kernel) (by decide +kernel), g_tb_mem 1007 (by decide +kernel) (by decide +kernel), g_tb_mem 27 (by decide +kernel) (by decide +kernel), cd_X10_isSoBy⟩
theorem lk_X10_312 : g_lkV RX10 312 4 mX4_agree := ⟨TX4, 4, rfl, g_tb_mem 1009 (by decide +kernel) (by decide +kernel), g_tb_mem 1010 (by decide +kernel) (by decide +kernel), g_tb_mem 1011 (by decide +kernel) (by decide +kernel), cd_X4_agree⟩
theorem lk_X10_303 : g_lkS RX10 303 mJ6_numberOfTrailingZeros_0f7a4 := ⟨g_tb_mem 1013 (by decide +kernel) (by decide +kernel), g_tb_mem 1014 (by decide +kernel) (by decide +kernel), cd_J6_numberOfTrailingZeros_0f7a4⟩
theorem lk_L_131 : g_lkV RL 131 9 mX10_look := ⟨TX10, 19, rfl, g_tb_mem 1017 (by decide +kernel) (by decide +kernel), g_tb_mem 1018 (by decide +kernel) (by decide +kernel), g_tb_mem 1019 (by decide +kernel) (by decide +kernel), cd_X10_look⟩
theorem lk_X10_306 : g_lkV RX10 306 9 mX10_mostAlike := ⟨TX10, 19, rfl, g_tb_mem 1021 (by decide +kernel) (by decide +kernel), g_tb_mem 1023 (by decide +kernel) (by decide +kernel), g_tb_mem 28 (by decide +kernel) (by decide +kernel), cd_X10_mostAlike⟩
theorem lk_X10_316 : g_lkS RX10 316 mJ9_max_7cf53 := ⟨g_tb_mem 1025 (by decide +kernel) (by decide +kernel), g_tb_mem 673 (by decide +kernel) (by decide +kernel), cd_J9_max_7cf53⟩
theorem lk_L_135 : g_lkV RL 135 9 mX10_seed := ⟨TX10, 19, rfl, g_tb_mem 1026 (by decide +kernel) (by decide +kernel), g_tb_mem 1027 (by decide +kernel) (by decide +kernel), g_tb_mem 1028 (by decide +kernel) (by decide +kernel), cd_X10_seed⟩
theorem lk_L_139 : g_lkV RL 139 9 mX10_mornings := ⟨TX10, 19, rfl, g_tb_mem 1030 (by decide +kernel) (by decide +kernel), g_tb_mem 1031 (by decide +kernel) (by decide +kernel), g_tb_mem 1032 (by decide +kernel) (by decide +kernel), cd_X10_mornings⟩
theorem lk_X10_322 : g_lkV RX10 322 9 mX10_drawCarts := ⟨TX10, 19, rfl, g_tb_mem 1035 (by decide +kernel) (by decide +kernel), g_tb_mem 1037 (by decide +kernel) (by decide +kernel), g_tb_mem 29 (by decide +kernel) (by decide +kernel), cd_X10_drawCarts⟩
theorem lk_X10_325 : g_lkV RX10 325 9 mX10_nextDraw := ⟨TX10, 19, rfl, g_tb_mem 1039 (by decide +kernel) (by decide +kernel), g_tb_mem 1041 (by decide +kernel) (by decide +kernel), g_tb_mem 30 (by decide +kernel) (by decide +kernel), cd_X10_nextDraw⟩
theorem lk_L_151 : g_lkV RL 151 9 mX10_image := ⟨TX10, 19, rfl, g_tb_mem 1047 (by decide +kernel) (by decide +kernel), g_tb_mem 1048 (by decide +kernel) (by decide +kernel), g_tb_mem 1049 (by decide +kernel) (by decide +kernel), cd_X10_image⟩
theorem lk_X10_341 : g_lkV RX10 341 4 mX4_copyFrom := ⟨TX4, 4, rfl, g_tb_mem 1051 (by decide +kernel) (by decide +kernel), g_tb_mem 1052 (by decide +kernel) (by decide +kernel), g_tb_mem 1053 (by decide +kernel) (by decide +kernel), cd_X4_copyFrom⟩
theorem lk_L_155 : g_lkV RL 155 9 mX10_back := ⟨TX10, 19, rfl, g_tb_mem 1056 (by decide +kernel) (by decide +kernel), g_tb_mem 1057 (by decide +kernel) (by decide +kernel), g_tb_mem 1058 (by decide +kernel) (by decide +kernel), cd_X10_back⟩
theorem lk_L_12 : g_lkI RL 12 mX11_init := ⟨g_tb_mem 1062 (by decide +kernel) (by decide +kernel), g_tb_mem 1063 (by decide +kernel) (by decide +kernel), rfl, rfl, cd_X11_init⟩
theorem lk_L_17 : g_lkV RL 17 10 mX11_feed := ⟨TX11, 42, rfl, g_tb_mem 1194 (by decide +kernel) (by decide +kernel), g_tb_mem 1195 (by decide +kernel) (by decide +kernel), g_tb_mem 1196 (by decide +kernel) (by decide +kernel), cd_X11_feed⟩
theorem lk_X11_95 : g_lkV RX11 95 10 mX11_four := ⟨TX11, 42, rfl, g_tb_mem 1198 (by decide +kernel) (by decide +kernel), g_tb_mem 1200 (by decide +kernel) (by decide +kernel), g_tb_mem 31 (by decide +kernel) (by decide +kernel), cd_X11_four⟩
theorem lk_L_22 : g_lkV RL 22 10 mX11_end := ⟨TX11, 42, rfl, g_tb_mem 1202 (by decide +kernel) (by decide +kernel), g_tb_mem 1203 (by decide +kernel) (by decide +kernel), g_tb_mem 1204 (by decide +kernel) (by decide +kernel), cd_X11_end⟩
theorem lk_L_31 : g_lkV RL 31 10 mX11_rule := ⟨TX11, 42, rfl, g_tb_mem 1206 (by decide +kernel) (by decide +kernel), g_tb_mem 1207 (by decide +kernel) (by decide +kernel), g_tb_mem 1208 (by decide +kernel) (by decide +kernel), cd_X11_rule⟩
theorem lk_X11_270 : g_lkV RX11 270 10 mX11_readsAll := ⟨TX11, 42, rfl, g_tb_mem 1210 (by decide +kernel) (by decide +kernel), g_tb_mem 1212 (by decide +kernel) (by decide +kernel), g_tb_mem 32 (by decide +kernel) (by decide +kernel), cd_X11_readsAll⟩
theorem lk_X11_264 : g_lkV RX11 264 10 mX11_clauseHere := ⟨TX11, 42, rfl, g_tb_mem 1214 (by decide +kernel) (by decide +kernel), g_tb_mem 1216 (by decide +kernel) (by decide +kernel), g_tb_mem 33 (by decide +kernel) (by decide +kernel), cd_X11_clauseHere⟩
theorem lk_X11_105 : g_lkV RX11 105 10 mX11_see := ⟨TX11, 42, rfl, g_tb_mem 1218 (by decide +kernel) (by decide +kernel), g_tb_mem 1220 (by decide +kernel) (by decide +kernel), g_tb_mem 34 (by decide +kernel) (by decide +kernel), cd_X11_see⟩
theorem lk_X11_252 : g_lkV RX11 252 10 mX11_isJunctionWord := ⟨TX11, 42, rfl, g_tb_mem 1222 (by decide +kernel) (by decide +kernel), g_tb_mem 1224 (by decide +kernel) (by decide +kernel), g_tb_mem 35 (by decide +kernel) (by decide +kernel), cd_X11_isJunctionWord⟩
theorem lk_X11_113 : g_lkV RX11 113 10 mX11_isWord := ⟨TX11, 42, rfl, g_tb_mem 1227 (by decide +kernel) (by decide +kernel), g_tb_mem 1229 (by decide +kernel) (by decide +kernel), g_tb_mem 36 (by decide +kernel) (by decide +kernel), cd_X11_isWord⟩
theorem lk_X11_109 : g_lkV RX11 109 10 mX11_isLetter := ⟨TX11, 42, rfl, g_tb_mem 1231 (by decide +kernel) (by decide +kernel), g_tb_mem 1233 (by decide +kernel) (by decide +kernel), g_tb_mem 37 (by decide +kernel) (by decide +kernel), cd_X11_isLetter⟩
theorem lk_X11_123 : g_lkV RX11 123 10 mX11_fails := ⟨TX11, 42, rfl, g_tb_mem 1239 (by decide +kernel) (by decide +kernel), g_tb_mem 1241 (by decide +kernel) (by decide +kernel), g_tb_mem 38 (by decide +kernel) (by decide +kernel), cd_X11_fails⟩
theorem lk_X11_258 : g_lkV RX11 258 10 mX11_junctionLineHere := ⟨TX11, 42, rfl, g_tb_mem 1243 (by decide +kernel) (by decide +kernel), g_tb_mem 1245 (by decide +kernel) (by decide +kernel), g_tb_mem 39 (by decide +kernel) (by decide +kernel), cd_X11_junctionLineHere⟩
theorem lk_X11_236 : g_lkV RX11 236 10 mX11_isJunctionHere := ⟨TX11, 42, rfl, g_tb_mem 1247 (by decide +kernel) (by decide +kernel), g_tb_mem 1249 (by decide +kernel) (by decide +kernel), g_tb_mem 40 (by decide +kernel) (by decide +kernel), cd_X11_isJunctionHere⟩
theorem lk_X11_117 : g_lkV RX11 117 10 mX11_passWord := ⟨TX11, 42, rfl, g_tb_mem 1251 (by decide +kernel) (by decide +kernel), g_tb_mem 1253 (by decide +kernel) (by decide +kernel), g_tb_mem 41 (by decide +kernel) (by decide +kernel), cd_X11_passWord⟩
theorem lk_X11_230 : g_lkV RX11 230 10 mX11_cellHere := ⟨TX11, 42, rfl, g_tb_mem 1255 (by decide +kernel) (by decide +kernel), g_tb_mem 1257 (by decide +kernel) (by decide +kernel), g_tb_mem 42 (by decide +kernel) (by decide +kernel), cd_X11_cellHere⟩
theorem lk_X11_179 : g_lkV RX11 179 10 mX11_numberHere := ⟨TX11, 42, rfl, g_tb_mem 1259 (by decide +kernel) (by decide +kernel), g_tb_mem 1261 (by decide +kernel) (by decide +kernel), g_tb_mem 43 (by decide +kernel) (by decide +kernel), cd_X11_numberHere⟩
theorem lk_X11_120 : g_lkV RX11 120 10 mX11_isDigit := ⟨TX11, 42, rfl, g_tb_mem 1263 (by decide +kernel) (by decide +kernel), g_tb_mem 1265 (by decide +kernel) (by decide +kernel), g_tb_mem 44 (by decide +kernel) (by decide +kernel), cd_X11_isDigit⟩
theorem lk_X11_130 : g_lkS RX11 130 mX11_in := ⟨g_tb_mem 1267 (by decide +kernel) (by decide +kernel), g_tb_mem 1268 (by decide +kernel) (by decide +kernel), cd_X11_in⟩
theorem lk_X11_239 : g_lkV RX11 239 10 mX11_isRoadHere := ⟨TX11, 42, rfl, g_tb_mem 1270 (by decide +kernel) (by decide +kernel), g_tb_mem 1272 (by decide +kernel) (by decide +kernel), g_tb_mem 45 (by decide +kernel) (by decide +kernel), cd_X11_isRoadHere⟩
theorem lk_X11_244 : g_lkV RX11 244 10 mX11_isClashHere := ⟨TX11, 42, rfl, g_tb_mem 1274 (by decide +kernel) (by decide +kernel), g_tb_mem 1276 (by decide +kernel) (by decide +kernel), g_tb_mem 46 (by decide +kernel) (by decide +kernel), cd_X11_isClashHere⟩
theorem lk_X11_247 : g_lkV RX11 247 10 mX11_isScoreHere := ⟨TX11, 42, rfl, g_tb_mem 1278 (by decide +kernel) (by decide +kernel), g_tb_mem 1280 (by decide +kernel) (by decide +kernel), g_tb_mem 47 (by decide +kernel) (by decide +kernel), cd_X11_isScoreHere⟩
theorem lk_X11_261 : g_lkV RX11 261 10 mX11_isLetHere := ⟨TX11, 42, rfl, g_tb_mem 1282 (by decide +kernel) (by decide +kernel), g_tb_mem 1284 (by decide +kernel) (by decide +kernel), g_tb_mem 48 (by decide +kernel) (by decide +kernel), cd_X11_isLetHere⟩
theorem lk_X11_195 : g_lkV RX11 195 10 mX11_sum := ⟨TX11, 42, rfl, g_tb_mem 1286 (by decide +kernel) (by decide +kernel), g_tb_mem 1288 (by decide +kernel) (by decide +kernel), g_tb_mem 49 (by decide +kernel) (by decide +kernel), cd_X11_sum⟩
theorem lk_X11_192 : g_lkV RX11 192 10 mX11_term := ⟨TX11, 42, rfl, g_tb_mem 1290 (by decide +kernel) (by decide +kernel), g_tb_mem 1292 (by decide +kernel) (by decide +kernel), g_tb_mem 50 (by decide +kernel) (by decide +kernel), cd_X11_term⟩
theorem lk_X11_188 : g_lkV RX11 188 10 mX11_value := ⟨TX11, 42, rfl, g_tb_mem 1294 (by decide +kernel) (by decide +kernel), g_tb_mem 1296 (by decide +kernel) (by decide +kernel), g_tb_mem 51 (by decide +kernel) (by decide +kernel), cd_X11_value⟩
theorem lk_X11_182 : g_lkV RX11 182 10 mX11_makes := ⟨TX11, 42, rfl, g_tb_mem 1299 (by decide +kernel) (by decide +kernel), g_tb_mem 1301 (by decide +kernel) (by decide +kernel), g_tb_mem 52 (by decide +kernel) (by decide +kernel), cd_X11_makes⟩
theorem lk_X11_174 : g_lkV RX11 174 10 mX11_puts := ⟨TX11, 42, rfl, g_tb_mem 1303 (by decide +kernel) (by decide +kernel), g_tb_mem 1305 (by decide +kernel) (by decide +kernel), g_tb_mem 53 (by decide +kernel) (by decide +kernel), cd_X11_puts⟩
theorem lk_X11_185 : g_lkV RX11 185 10 mX11_wordHere := ⟨TX11, 42, rfl, g_tb_mem 1307 (by decide +kernel) (by decide +kernel), g_tb_mem 1309 (by decide +kernel) (by decide +kernel), g_tb_mem 54 (by decide +kernel) (by decide +kernel), cd_X11_wordHere⟩
theorem lk_X11_224 : g_lkV RX11 224 10 mX11_takesWord := ⟨TX11, 42, rfl, g_tb_mem 1322 (by decide +kernel) (by decide +kernel), g_tb_mem 1324 (by decide +kernel) (by decide +kernel), g_tb_mem 55 (by decide +kernel) (by decide +kernel), cd_X11_takesWord⟩
theorem lk_X11_227 : g_lkV RX11 227 10 mX11_tested := ⟨TX11, 42, rfl, g_tb_mem 1326 (by decide +kernel) (by decide +kernel), g_tb_mem 1328 (by decide +kernel) (by decide +kernel), g_tb_mem 56 (by decide +kernel) (by decide +kernel), cd_X11_tested⟩
theorem lk_X11_212 : g_lkV RX11 212 10 mX11_fact := ⟨TX11, 42, rfl, g_tb_mem 1330 (by decide +kernel) (by decide +kernel), g_tb_mem 1332 (by decide +kernel) (by decide +kernel), g_tb_mem 57 (by decide +kernel) (by decide +kernel), cd_X11_fact⟩
theorem lk_X11_200 : g_lkV RX11 200 10 mX11_opens := ⟨TX11, 42, rfl, g_tb_mem 1335 (by decide +kernel) (by decide +kernel), g_tb_mem 1337 (by decide +kernel) (by decide +kernel), g_tb_mem 58 (by decide +kernel) (by decide +kernel), cd_X11_opens⟩
theorem lk_X11_203 : g_lkV RX11 203 10 mX11_compare := ⟨TX11, 42, rfl, g_tb_mem 1339 (by decide +kernel) (by decide +kernel), g_tb_mem 1341 (by decide +kernel) (by decide +kernel), g_tb_mem 59 (by decide +kernel) (by decide +kernel), cd_X11_compare⟩
theorem lk_X11_215 : g_lkV RX11 215 10 mX11_closes := ⟨TX11, 42, rfl, g_tb_mem 1343 (by decide +kernel) (by decide +kernel), g_tb_mem 1345 (by decide +kernel) (by decide +kernel), g_tb_mem 60 (by decide +kernel) (by decide +kernel), cd_X11_closes⟩
theorem lk_X11_206 : g_lkV RX11 206 10 mX11_layDown := ⟨TX11, 42, rfl, g_tb_mem 1347 (by decide +kernel) (by decide +kernel), g_tb_mem 1349 (by decide +kernel) (by decide +kernel), g_tb_mem 61 (by decide +kernel) (by decide +kernel), cd_X11_layDown⟩
theorem lk_X11_170 : g_lkS RX11 170 mX11_strength := ⟨g_tb_mem 1351 (by decide +kernel) (by decide +kernel), g_tb_mem 1352 (by decide +kernel) (by decide +kernel), cd_X11_strength⟩
theorem lk_X11_209 : g_lkV RX11 209 10 mX11_isInside := ⟨TX11, 42, rfl, g_tb_mem 1354 (by decide +kernel) (by decide +kernel), g_tb_mem 1356 (by decide +kernel) (by decide +kernel), g_tb_mem 62 (by decide +kernel) (by decide +kernel), cd_X11_isInside⟩
theorem lk_L_27 : g_lkV RL 27 10 mX11_junction := ⟨TX11, 42, rfl, g_tb_mem 1360 (by decide +kernel) (by decide +kernel), g_tb_mem 1361 (by decide +kernel) (by decide +kernel), g_tb_mem 1362 (by decide +kernel) (by decide +kernel), cd_X11_junction⟩
theorem lk_X11_273 : g_lkV RX11 273 10 mX11_begins := ⟨TX11, 42, rfl, g_tb_mem 1364 (by decide +kernel) (by decide +kernel), g_tb_mem 1366 (by decide +kernel) (by decide +kernel), g_tb_mem 63 (by decide +kernel) (by decide +kernel), cd_X11_begins⟩
theorem lk_L_35 : g_lkV RL 35 10 mX11_force := ⟨TX11, 42, rfl, g_tb_mem 1368 (by decide +kernel) (by decide +kernel), g_tb_mem 1369 (by decide +kernel) (by decide +kernel), g_tb_mem 1370 (by decide +kernel) (by decide +kernel), cd_X11_force⟩
theorem lk_X11_306 : g_lkV RX11 306 10 mX11_isRule := ⟨TX11, 42, rfl, g_tb_mem 1372 (by decide +kernel) (by decide +kernel), g_tb_mem 1374 (by decide +kernel) (by decide +kernel), g_tb_mem 64 (by decide +kernel) (by decide +kernel), cd_X11_isRule⟩
theorem lk_L_40 : g_lkV RL 40 10 mX11_road := ⟨TX11, 42, rfl, g_tb_mem 1376 (by decide +kernel) (by decide +kernel), g_tb_mem 1377 (by decide +kernel) (by decide +kernel), g_tb_mem 1378 (by decide +kernel) (by decide +kernel), cd_X11_road⟩
theorem lk_X11_309 : g_lkV RX11 309 10 mX11_isRoad := ⟨TX11, 42, rfl, g_tb_mem 1380 (by decide +kernel) (by decide +kernel), g_tb_mem 1382 (by decide +kernel) (by decide +kernel), g_tb_mem 65 (by decide +kernel) (by decide +kernel), cd_X11_isRoad⟩
theorem lk_X11_312 : g_lkV RX11 312 10 mX11_waitOn := ⟨TX11, 42, rfl, g_tb_mem 1384 (by decide +kernel) (by decide +kernel), g_tb_mem 1386 (by decide +kernel) (by decide +kernel), g_tb_mem 66 (by decide +kernel) (by decide +kernel), cd_X11_waitOn⟩
theorem lk_X11_300 : g_lkV RX11 300 10 mX11_partOf := ⟨TX11, 42, rfl, g_tb_mem 1388 (by decide +kernel) (by decide +kernel), g_tb_mem 1390 (by decide +kernel) (by decide +kernel), g_tb_mem 67 (by decide +kernel) (by decide +kernel), cd_X11_partOf⟩
theorem lk_X11_315 : g_lkV RX11 315 10 mX11_wentFrom := ⟨TX11, 42, rfl, g_tb_mem 1392 (by decide +kernel) (by decide +kernel), g_tb_mem 1394 (by decide +kernel) (by decide +kernel), g_tb_mem 68 (by decide +kernel) (by decide +kernel), cd_X11_wentFrom⟩
theorem lk_X11_318 : g_lkV RX11 318 10 mX11_waitedOn := ⟨TX11, 42, rfl, g_tb_mem 1396 (by decide +kernel) (by decide +kernel), g_tb_mem 1398 (by decide +kernel) (by decide +kernel), g_tb_mem 69 (by decide +kernel) (by decide +kernel), cd_X11_waitedOn⟩
theorem lk_X11_321 : g_lkV RX11 321 10 mX11_sinceOf := ⟨TX11, 42, rfl, g_tb_mem 1400 (by decide +kernel) (by decide +kernel), g_tb_mem 1402 (by decide +kernel) (by decide +kernel), g_tb_mem 70 (by decide +kernel) (by decide +kernel), cd_X11_sinceOf⟩
theorem lk_L_44 : g_lkV RL 44 10 mX11_scored := ⟨TX11, 42, rfl, g_tb_mem 1404 (by decide +kernel) (by decide +kernel), g_tb_mem 1405 (by decide +kernel) (by decide +kernel), g_tb_mem 1406 (by decide +kernel) (by decide +kernel), cd_X11_scored⟩
theorem lk_X11_324 : g_lkV RX11 324 10 mX11_isBeat := ⟨TX11, 42, rfl, g_tb_mem 1408 (by decide +kernel) (by decide +kernel), g_tb_mem 1410 (by decide +kernel) (by decide +kernel), g_tb_mem 71 (by decide +kernel) (by decide +kernel), cd_X11_isBeat⟩
theorem lk_X11_294 : g_lkV RX11 294 10 mX11_isJunction := ⟨TX11, 42, rfl, g_tb_mem 1412 (by decide +kernel) (by decide +kernel), g_tb_mem 1414 (by decide +kernel) (by decide +kernel), g_tb_mem 72 (by decide +kernel) (by decide +kernel), cd_X11_isJunction⟩
theorem lk_L_68 : g_lkV RL 68 10 mX11_undo := ⟨TX11, 42, rfl, g_tb_mem 1416 (by decide +kernel) (by decide +kernel), g_tb_mem 1417 (by decide +kernel) (by decide +kernel), g_tb_mem 1418 (by decide +kernel) (by decide +kernel), cd_X11_undo⟩
theorem lk_L_48 : g_lkV RL 48 10 mX11_beat := ⟨TX11, 42, rfl, g_tb_mem 1420 (by decide +kernel) (by decide +kernel), g_tb_mem 1421 (by decide +kernel) (by decide +kernel), g_tb_mem 1422 (by decide +kernel) (by decide +kernel), cd_X11_beat⟩
theorem lk_X11_365 : g_lkV RX11 365 10 mX11_keepsAct := ⟨TX11, 42, rfl, g_tb_mem 1424 (by decide +kernel) (by decide +kernel), g_tb_mem 1426 (by decide +kernel) (by decide +kernel), g_tb_mem 73 (by decide +kernel) (by decide +kernel), cd_X11_keepsAct⟩
theorem lk_X11_362 : g_lkV RX11 362 10 mX11_passes := ⟨TX11, 42, rfl, g_tb_mem 1428 (by decide +kernel) (by decide +kernel), g_tb_mem 1430 (by decide +kernel) (by decide +kernel), g_tb_mem 74 (by decide +kernel) (by decide +kernel), cd_X11_passes⟩
theorem lk_X11_350 : g_lkV RX11 350 10 mX11_comes := ⟨TX11, 42, rfl, g_tb_mem 1432 (by decide +kernel) (by decide +kernel), g_tb_mem 1434 (by decide +kernel) (by decide +kernel), g_tb_mem 75 (by decide +kernel) (by decide +kernel), cd_X11_comes⟩
theorem lk_X11_353 : g_lkV RX11 353 10 mX11_letIn := ⟨TX11, 42, rfl, g_tb_mem 1436 (by decide +kernel) (by decide +kernel), g_tb_mem 1438 (by decide +kernel) (by decide +kernel), g_tb_mem 76 (by decide +kernel) (by decide +kernel), cd_X11_letIn⟩
theorem lk_X11_347 : g_lkV RX11 347 10 mX11_isLetBy := ⟨TX11, 42, rfl, g_tb_mem 1440 (by decide +kernel) (by decide +kernel), g_tb_mem 1442 (by decide +kernel) (by decide +kernel), g_tb_mem 77 (by decide +kernel) (by decide +kernel), cd_X11_isLetBy⟩
theorem lk_X11_331 : g_lkV RX11 331 10 mX11_beatOfBar := ⟨TX11, 42, rfl, g_tb_mem 1444 (by decide +kernel) (by decide +kernel), g_tb_mem 1446 (by decide +kernel) (by decide +kernel), g_tb_mem 78 (by decide +kernel) (by decide +kernel), cd_X11_beatOfBar⟩
theorem lk_X11_297 : g_lkS RX11 297 mX11_isOf := ⟨g_tb_mem 1448 (by decide +kernel) (by decide +kernel), g_tb_mem 1449 (by decide +kernel) (by decide +kernel), cd_X11_isOf⟩
theorem lk_X11_334 : g_lkS RX11 334 mX11_bits := ⟨g_tb_mem 1451 (by decide +kernel) (by decide +kernel), g_tb_mem 1452 (by decide +kernel) (by decide +kernel), cd_X11_bits⟩
theorem lk_X11_337 : g_lkV RX11 337 10 mX11_soundOf := ⟨TX11, 42, rfl, g_tb_mem 1454 (by decide +kernel) (by decide +kernel), g_tb_mem 1456 (by decide +kernel) (by decide +kernel), g_tb_mem 79 (by decide +kernel) (by decide +kernel), cd_X11_soundOf⟩
theorem lk_X11_303 : g_lkS RX11 303 mX11_soundOfTwo := ⟨g_tb_mem 1458 (by decide +kernel) (by decide +kernel), g_tb_mem 1459 (by decide +kernel) (by decide +kernel), cd_X11_soundOfTwo⟩
theorem lk_X11_340 : g_lkV RX11 340 10 mX11_sumOver := ⟨TX11, 42, rfl, g_tb_mem 1461 (by decide +kernel) (by decide +kernel), g_tb_mem 1463 (by decide +kernel) (by decide +kernel), g_tb_mem 80 (by decide +kernel) (by decide +kernel), cd_X11_sumOver⟩
theorem lk_X11_343 : g_lkV RX11 343 10 mX11_summedBy := ⟨TX11, 42, rfl, g_tb_mem 1465 (by decide +kernel) (by decide +kernel), g_tb_mem 1467 (by decide +kernel) (by decide +kernel), g_tb_mem 81 (by decide +kernel) (by decide +kernel), cd_X11_summedBy⟩
theorem lk_X11_327 : g_lkV RX11 327 10 mX11_reckons := ⟨TX11, 42, rfl, g_tb_mem 1469 (by decide +kernel) (by decide +kernel), g_tb_mem 1471 (by decide +kernel) (by decide +kernel), g_tb_mem 82 (by decide +kernel) (by decide +kernel), cd_X11_reckons⟩
theorem lk_X11_282 : g_lkV RX11 282 10 mX11_push := ⟨TX11, 42, rfl, g_tb_mem 1473 (by decide +kernel) (by decide +kernel), g_tb_mem 1475 (by decide +kernel) (by decide +kernel), g_tb_mem 83 (by decide +kernel) (by decide +kernel), cd_X11_push⟩
theorem lk_X11_286 : g_lkV RX11 286 10 mX11_pop := ⟨TX11, 42, rfl, g_tb_mem 1477 (by decide +kernel) (by decide +kernel), g_tb_mem 1479 (by decide +kernel) (by decide +kernel), g_tb_mem 84 (by decide +kernel) (by decide +kernel), cd_X11_pop⟩
theorem lk_X11_290 : g_lkS RX11 290 mX11_one := ⟨g_tb_mem 1481 (by decide +kernel) (by decide +kernel), g_tb_mem 1482 (by decide +kernel) (by decide +kernel), cd_X11_one⟩
theorem lk_X11_356 : g_lkV RX11 356 10 mX11_goes := ⟨TX11, 42, rfl, g_tb_mem 1484 (by decide +kernel) (by decide +kernel), g_tb_mem 1486 (by decide +kernel) (by decide +kernel), g_tb_mem 85 (by decide +kernel) (by decide +kernel), cd_X11_goes⟩
theorem lk_X11_359 : g_lkV RX11 359 10 mX11_sounds := ⟨TX11, 42, rfl, g_tb_mem 1488 (by decide +kernel) (by decide +kernel), g_tb_mem 1490 (by decide +kernel) (by decide +kernel), g_tb_mem 86 (by decide +kernel) (by decide +kernel), cd_X11_sounds⟩
theorem lk_L_52 : g_lkV RL 52 10 mX11_come := ⟨TX11, 42, rfl, g_tb_mem 1492 (by decide +kernel) (by decide +kernel), g_tb_mem 1493 (by decide +kernel) (by decide +kernel), g_tb_mem 1494 (by decide +kernel) (by decide +kernel), cd_X11_come⟩
theorem lk_L_56 : g_lkV RL 56 10 mX11_wave := ⟨TX11, 42, rfl, g_tb_mem 1497 (by decide +kernel) (by decide +kernel), g_tb_mem 1498 (by decide +kernel) (by decide +kernel), g_tb_mem 1499 (by decide +kernel) (by decide +kernel), cd_X11_wave⟩
theorem lk_L_60 : g_lkV RL 60 10 mX11_score := ⟨TX11, 42, rfl, g_tb_mem 1501 (by decide +kernel) (by decide +kernel), g_tb_mem 1502 (by decide +kernel) (by decide +kernel), g_tb_mem 1503 (by decide +kernel) (by decide +kernel), cd_X11_score⟩
theorem lk_L_64 : g_lkV RL 64 10 mX11_tune := ⟨TX11, 42, rfl, g_tb_mem 1505 (by decide +kernel) (by decide +kernel), g_tb_mem 1506 (by decide +kernel) (by decide +kernel), g_tb_mem 1507 (by decide +kernel) (by decide +kernel), cd_X11_tune⟩
theorem lk_L_150 : g_lkV RL 150 10 mX11_heard := ⟨TX11, 42, rfl, g_tb_mem 1510 (by decide +kernel) (by decide +kernel), g_tb_mem 1511 (by decide +kernel) (by decide +kernel), g_tb_mem 1512 (by decide +kernel) (by decide +kernel), cd_X11_heard⟩
theorem lk_L_73 : g_lkV RL 73 10 mX11_ahead := ⟨TX11, 42, rfl, g_tb_mem 1514 (by decide +kernel) (by decide +kernel), g_tb_mem 1515 (by decide +kernel) (by decide +kernel), g_tb_mem 1516 (by decide +kernel) (by decide +kernel), cd_X11_ahead⟩
theorem lk_X11_376 : g_lkV RX11 376 10 mX11_keeps := ⟨TX11, 42, rfl, g_tb_mem 1520 (by decide +kernel) (by decide +kernel), g_tb_mem 1522 (by decide +kernel) (by decide +kernel), g_tb_mem 87 (by decide +kernel) (by decide +kernel), cd_X11_keeps⟩
theorem lk_X11_379 : g_lkV RX11 379 10 mX11_passesAll := ⟨TX11, 42, rfl, g_tb_mem 1524 (by decide +kernel) (by decide +kernel), g_tb_mem 1526 (by decide +kernel) (by decide +kernel), g_tb_mem 88 (by decide +kernel) (by decide +kernel), cd_X11_passesAll⟩
theorem lk_X11_382 : g_lkV RX11 382 10 mX11_laysBack := ⟨TX11, 42, rfl, g_tb_mem 1528 (by decide +kernel) (by decide +kernel), g_tb_mem 1530 (by decide +kernel) (by decide +kernel), g_tb_mem 89 (by decide +kernel) (by decide +kernel), cd_X11_laysBack⟩
theorem lk_L_77 : g_lkV RL 77 10 mX11_clear := ⟨TX11, 42, rfl, g_tb_mem 1532 (by decide +kernel) (by decide +kernel), g_tb_mem 1533 (by decide +kernel) (by decide +kernel), g_tb_mem 1534 (by decide +kernel) (by decide +kernel), cd_X11_clear⟩
theorem lk_L_81 : g_lkV RL 81 10 mX11_chord := ⟨TX11, 42, rfl, g_tb_mem 1536 (by decide +kernel) (by decide +kernel), g_tb_mem 1537 (by decide +kernel) (by decide +kernel), g_tb_mem 1538 (by decide +kernel) (by decide +kernel), cd_X11_chord⟩
theorem lk_X11_385 : g_lkV RX11 385 10 mX11_isPeace := ⟨TX11, 42, rfl, g_tb_mem 1540 (by decide +kernel) (by decide +kernel), g_tb_mem 1542 (by decide +kernel) (by decide +kernel), g_tb_mem 90 (by decide +kernel) (by decide +kernel), cd_X11_isPeace⟩
theorem lk_L_85 : g_lkV RL 85 10 mX11_beats := ⟨TX11, 42, rfl, g_tb_mem 1544 (by decide +kernel) (by decide +kernel), g_tb_mem 1545 (by decide +kernel) (by decide +kernel), g_tb_mem 1546 (by decide +kernel) (by decide +kernel), cd_X11_beats⟩
theorem lk_X11_395 : g_lkV RX11 395 10 mX11_isDoneBy := ⟨TX11, 42, rfl, g_tb_mem 1550 (by decide +kernel) (by decide +kernel), g_tb_mem 1552 (by decide +kernel) (by decide +kernel), g_tb_mem 91 (by decide +kernel) (by decide +kernel), cd_X11_isDoneBy⟩
theorem lk_X11_388 : g_lkV RX11 388 10 mX11_isFree := ⟨TX11, 42, rfl, g_tb_mem 1554 (by decide +kernel) (by decide +kernel), g_tb_mem 1556 (by decide +kernel) (by decide +kernel), g_tb_mem 92 (by decide +kernel) (by decide +kernel), cd_X11_isFree⟩
theorem lk_L_89 : g_lkV RL 89 10 mX11_bestScore := ⟨TX11, 42, rfl, g_tb_mem 1558 (by decide +kernel) (by decide +kernel), g_tb_mem 1559 (by decide +kernel) (by decide +kernel), g_tb_mem 1560 (by decide +kernel) (by decide +kernel), cd_X11_bestScore⟩
theorem lk_X11_400 : g_lkV RX11 400 10 mX11_waitedBy := ⟨TX11, 42, rfl, g_tb_mem 1563 (by decide +kernel) (by decide +kernel), g_tb_mem 1565 (by decide +kernel) (by decide +kernel), g_tb_mem 93 (by decide +kernel) (by decide +kernel), cd_X11_waitedBy⟩
theorem lk_L_93 : g_lkV RL 93 10 mX11_row := ⟨TX11, 42, rfl, g_tb_mem 1567 (by decide +kernel) (by decide +kernel), g_tb_mem 1568 (by decide +kernel) (by decide +kernel), g_tb_mem 1569 (by decide +kernel) (by decide +kernel), cd_X11_row⟩
theorem lk_X11_413 : g_lkV RX11 413 10 mX11_fillsRow := ⟨TX11, 42, rfl, g_tb_mem 1573 (by decide +kernel) (by decide +kernel), g_tb_mem 1575 (by decide +kernel) (by decide +kernel), g_tb_mem 94 (by decide +kernel) (by decide +kernel), cd_X11_fillsRow⟩
theorem lk_X11_416 : g_lkV RX11 416 10 mX11_weighsRow := ⟨TX11, 42, rfl, g_tb_mem 1577 (by decide +kernel) (by decide +kernel), g_tb_mem 1579 (by decide +kernel) (by decide +kernel), g_tb_mem 95 (by decide +kernel) (by decide +kernel), cd_X11_weighsRow⟩
theorem lk_L_97 : g_lkV RL 97 10 mX11_leastRoom := ⟨TX11, 42, rfl, g_tb_mem 1581 (by decide +kernel) (by decide +kernel), g_tb_mem 1582 (by decide +kernel) (by decide +kernel), g_tb_mem 1583 (by decide +kernel) (by decide +kernel), cd_X11_leastRoom⟩
theorem lk_X11_421 : g_lkV RX11 421 10 mX11_isAnyCrowd := ⟨TX11, 42, rfl, g_tb_mem 1586 (by decide +kernel) (by decide +kernel), g_tb_mem 1588 (by decide +kernel) (by decide +kernel), g_tb_mem 96 (by decide +kernel) (by decide +kernel), cd_X11_isAnyCrowd⟩
theorem lk_L_101 : g_lkV RL 101 10 mX11_shut := ⟨TX11, 42, rfl, g_tb_mem 1590 (by decide +kernel) (by decide +kernel), g_tb_mem 1591 (by decide +kernel) (by decide +kernel), g_tb_mem 1592 (by decide +kernel) (by decide +kernel), cd_X11_shut⟩
theorem lk_L_105 : g_lkV RL 105 10 mX11_longest := ⟨TX11, 42, rfl, g_tb_mem 1594 (by decide +kernel) (by decide +kernel), g_tb_mem 1595 (by decide +kernel) (by decide +kernel), g_tb_mem 1596 (by decide +kernel) (by decide +kernel), cd_X11_longest⟩
theorem lk_L_109 : g_lkV RL 109 10 mX11_cadenza := ⟨TX11, 42, rfl, g_tb_mem 1598 (by decide +kernel) (by decide +kernel), g_tb_mem 1599 (by decide +kernel) (by decide +kernel), g_tb_mem 1600 (by decide +kernel) (by decide +kernel), cd_X11_cadenza⟩
theorem lk_X11_424 : g_lkV RX11 424 10 mX11_isAlone := ⟨TX11, 42, rfl, g_tb_mem 1602 (by decide +kernel) (by decide +kernel), g_tb_mem 1604 (by decide +kernel) (by decide +kernel), g_tb_mem 97 (by decide +kernel) (by decide +kernel), cd_X11_isAlone⟩
theorem lk_L_114 : g_lkV RL 114 10 mX11_rests := ⟨TX11, 42, rfl, g_tb_mem 1606 (by decide +kernel) (by decide +kernel), g_tb_mem 1607 (by decide +kernel) (by decide +kernel), g_tb_mem 1608 (by decide +kernel) (by decide +kernel), cd_X11_rests⟩
theorem lk_X11_431 : g_lkV RX11 431 10 mX11_fillsRests := ⟨TX11, 42, rfl, g_tb_mem 1610 (by decide +kernel) (by decide +kernel), g_tb_mem 1612 (by decide +kernel) (by decide +kernel), g_tb_mem 98 (by decide +kernel) (by decide +kernel), cd_X11_fillsRests⟩
theorem lk_X11_427 : g_lkV RX11 427 10 mX11_hasThen := ⟨TX11, 42, rfl, g_tb_mem 1614 (by decide +kernel) (by decide +kernel), g_tb_mem 1616 (by decide +kernel) (by decide +kernel), g_tb_mem 99 (by decide +kernel) (by decide +kernel), cd_X11_hasThen⟩
theorem lk_X11_435 : g_lkV RX11 435 10 mX11_isRest := ⟨TX11, 42, rfl, g_tb_mem 1618 (by decide +kernel) (by decide +kernel), g_tb_mem 1620 (by decide +kernel) (by decide +kernel), g_tb_mem 100 (by decide +kernel) (by decide +kernel), cd_X11_isRest⟩
theorem lk_L_118 : g_lkV RL 118 10 mX11_ring := ⟨TX11, 42, rfl, g_tb_mem 1622 (by decide +kernel) (by decide +kernel), g_tb_mem 1623 (by decide +kernel) (by decide +kernel), g_tb_mem 1624 (by decide +kernel) (by decide +kernel), cd_X11_ring⟩
theorem lk_X11_438 : g_lkV RX11 438 10 mX11_areAlike := ⟨TX11, 42, rfl, g_tb_mem 1626 (by decide +kernel) (by decide +kernel), g_tb_mem 1628 (by decide +kernel) (by decide +kernel), g_tb_mem 101 (by decide +kernel) (by decide +kernel), cd_X11_areAlike⟩
theorem lk_L_122 : g_lkV RL 122 10 mX11_pence := ⟨TX11, 42, rfl, g_tb_mem 1630 (by decide +kernel) (by decide +kernel), g_tb_mem 1631 (by decide +kernel) (by decide +kernel), g_tb_mem 1632 (by decide +kernel) (by decide +kernel), cd_X11_pence⟩
theorem lk_L_126 : g_lkV RL 126 10 mX11_note := ⟨TX11, 42, rfl, g_tb_mem 1635 (by decide +kernel) (by decide +kernel), g_tb_mem 1636 (by decide +kernel) (by decide +kernel), g_tb_mem 1637 (by decide +kernel) (by decide +kernel), cd_X11_note⟩
theorem lk_L_130 : g_lkV RL 130 10 mX11_ruled := ⟨TX11, 42, rfl, g_tb_mem 1640 (by decide +kernel) (by decide +kernel), g_tb_mem 1641 (by decide +kernel) (by decide +kernel), g_tb_mem 1642 (by decide +kernel) (by decide +kernel), cd_X11_ruled⟩
theorem lk_X11_448 : g_lkV RX11 448 10 mX11_fillsFits := ⟨TX11, 42, rfl, g_tb_mem 1644 (by decide +kernel) (by decide +kernel), g_tb_mem 1646 (by decide +kernel) (by decide +kernel), g_tb_mem 102 (by decide +kernel) (by decide +kernel), cd_X11_fillsFits⟩
theorem lk_X11_445 : g_lkV RX11 445 10 mX11_areNotesSo := ⟨TX11, 42, rfl, g_tb_mem 1648 (by decide +kernel) (by decide +kernel), g_tb_mem 1650 (by decide +kernel) (by decide +kernel), g_tb_mem 103 (by decide +kernel) (by decide +kernel), cd_X11_areNotesSo⟩
theorem lk_L_134 : g_lkV RL 134 10 mX11_look := ⟨TX11, 42, rfl, g_tb_mem 1652 (by decide +kernel) (by decide +kernel), g_tb_mem 1653 (by decide +kernel) (by decide +kernel), g_tb_mem 1654 (by decide +kernel) (by decide +kernel), cd_X11_look⟩
theorem lk_X11_451 : g_lkV RX11 451 10 mX11_alikeAt := ⟨TX11, 42, rfl, g_tb_mem 1656 (by decide +kernel) (by decide +kernel), g_tb_mem 1658 (by decide +kernel) (by decide +kernel), g_tb_mem 104 (by decide +kernel) (by decide +kernel), cd_X11_alikeAt⟩
theorem lk_L_138 : g_lkV RL 138 10 mX11_seed := ⟨TX11, 42, rfl, g_tb_mem 1660 (by decide +kernel) (by decide +kernel), g_tb_mem 1661 (by decide +kernel) (by decide +kernel), g_tb_mem 1662 (by decide +kernel) (by decide +kernel), cd_X11_seed⟩
theorem lk_L_142 : g_lkV RL 142 10 mX11_mornings := ⟨TX11, 42, rfl, g_tb_mem 1664 (by decide +kernel) (by decide +kernel), g_tb_mem 1665 (by decide +kernel) (by decide +kernel), g_tb_mem 1666 (by decide +kernel) (by decide +kernel), cd_X11_mornings⟩
theorem lk_X11_472 : g_lkV RX11 472 10 mX11_draw := ⟨TX11, 42, rfl, g_tb_mem 1670 (by decide +kernel) (by decide +kernel), g_tb_mem 1672 (by decide +kernel) (by decide +kernel), g_tb_mem 105 (by decide +kernel) (by decide +kernel), cd_X11_draw⟩
theorem lk_L_146 : g_lkV RL 146 10 mX11_count := ⟨TX11, 42, rfl, g_tb_mem 1678 (by decide +kernel) (by decide +kernel), g_tb_mem 1679 (by decide +kernel) (by decide +kernel), g_tb_mem 1680 (by decide +kernel) (by decide +kernel), cd_X11_count⟩
theorem lk_L_154 : g_lkV RL 154 10 mX11_image := ⟨TX11, 42, rfl, g_tb_mem 1682 (by decide +kernel) (by decide +kernel), g_tb_mem 1683 (by decide +kernel) (by decide +kernel), g_tb_mem 1684 (by decide +kernel) (by decide +kernel), cd_X11_image⟩
theorem lk_L_158 : g_lkV RL 158 10 mX11_back := ⟨TX11, 42, rfl, g_tb_mem 1686 (by decide +kernel) (by decide +kernel), g_tb_mem 1687 (by decide +kernel) (by decide +kernel), g_tb_mem 1688 (by decide +kernel) (by decide +kernel), cd_X11_back⟩
