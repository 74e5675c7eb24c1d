theorem fl_X7_9 : Fl RX7 9 7 0 := ⟨(gt1 41 rfl rfl), by decide, by decide⟩
theorem fl_X6_55 : Fl RX6 55 7 0 := ⟨(gt1 42 rfl rfl), by decide, by decide⟩
theorem fl_X9_124 : Fl RX9 124 7 0 := ⟨(gt1 43 rfl rfl), by decide, by decide⟩
theorem fl_X4_56 : Fl RX4 56 7 0 := ⟨(gt1 44 rfl rfl), by decide, by decide⟩
theorem fl_X0_77 : Fl RX0 77 7 0 := ⟨(gt1 45 rfl rfl), by decide, by decide⟩
theorem fl_X5_162 : Fl RX5 162 7 0 := ⟨(gt1 46 rfl rfl), by decide, by decide⟩
theorem fl_X7_15 : Fl RX7 15 7 1 := ⟨(gt1 47 rfl rfl), by decide, by decide⟩
theorem fl_X4_36 : Fl RX4 36 7 1 := ⟨(gt1 48 rfl rfl), by decide, by decide⟩
theorem fl_X9_127 : Fl RX9 127 7 1 := ⟨(gt1 49 rfl rfl), by decide, by decide⟩
theorem fl_X6_76 : Fl RX6 76 7 1 := ⟨(gt1 50 rfl rfl), by decide, by decide⟩
theorem fl_X0_80 : Fl RX0 80 7 1 := ⟨(gt1 51 rfl rfl), by decide, by decide⟩
theorem fl_X5_158 : Fl RX5 158 7 1 := ⟨(gt1 52 rfl rfl), by decide, by decide⟩
theorem fl_X7_18 : Fl RX7 18 7 2 := ⟨(gt1 53 rfl rfl), by decide, by decide⟩
theorem fl_X4_44 : Fl RX4 44 7 2 := ⟨(gt1 54 rfl rfl), by decide, by decide⟩
theorem fl_X9_130 : Fl RX9 130 7 2 := ⟨(gt1 55 rfl rfl), by decide, by decide⟩
theorem fl_X6_83 : Fl RX6 83 7 2 := ⟨(gt1 56 rfl rfl), by decide, by decide⟩
theorem fl_X5_160 : Fl RX5 160 7 2 := ⟨(gt1 57 rfl rfl), by decide, by decide⟩
theorem fl_X7_22 : Fl RX7 22 7 3 := ⟨(gt1 58 rfl rfl), by decide, by decide⟩
theorem fl_X9_363 : Fl RX9 363 7 3 := ⟨(gt1 59 rfl rfl), by decide, by decide⟩
theorem fl_X7_25 : Fl RX7 25 7 4 := ⟨(gt1 60 rfl rfl), by decide, by decide⟩
theorem fl_X7_29 : Fl RX7 29 7 5 := ⟨(gt1 61 rfl rfl), by decide, by decide⟩
theorem fl_X7_32 : Fl RX7 32 7 6 := ⟨(gt1 62 rfl rfl), by decide, by decide⟩
theorem fl_X7_35 : Fl RX7 35 7 7 := ⟨(gt1 63 rfl rfl), by decide, by decide⟩
theorem fl_X7_38 : Fl RX7 38 7 8 := ⟨(gt1 64 rfl rfl), by decide, by decide⟩
theorem fl_X7_41 : Fl RX7 41 7 9 := ⟨(gt1 65 rfl rfl), by decide, by decide⟩
theorem fl_X4_82 : Fl RX4 82 7 9 := ⟨(gt1 66 rfl rfl), by decide, by decide⟩
theorem fl_X7_45 : Fl RX7 45 7 10 := ⟨(gt1 67 rfl rfl), by decide, by decide⟩
theorem fl_X7_48 : Fl RX7 48 7 11 := ⟨(gt1 68 rfl rfl), by decide, by decide⟩
theorem fl_X4_76 : Fl RX4 76 7 11 := ⟨(gt1 69 rfl rfl), by decide, by decide⟩
theorem fl_X7_51 : Fl RX7 51 7 12 := ⟨(gt1 70 rfl rfl), by decide, by decide⟩
theorem fl_X4_79 : Fl RX4 79 7 12 := ⟨(gt1 71 rfl rfl), by decide, by decide⟩
theorem fl_X7_54 : Fl RX7 54 7 13 := ⟨(gt1 72 rfl rfl), by decide, by decide⟩
theorem fl_X7_57 : Fl RX7 57 7 14 := ⟨(gt1 73 rfl rfl), by decide, by decide⟩
theorem fl_X2_9 : Fl RX2 9 2 0 := ⟨(gt1 113 rfl rfl), by decide, by decide⟩
theorem fl_X4_61 : Fl RX4 61 2 0 := ⟨(gt1 114 rfl rfl), by decide, by decide⟩
theorem fl_X9_145 : Fl RX9 145 2 0 := ⟨(gt1 115 rfl rfl), by decide, by decide⟩
theorem fl_X7_96 : Fl RX7 96 2 0 := ⟨(gt1 116 rfl rfl), by decide, by decide⟩
theorem fl_X2_15 : Fl RX2 15 2 1 := ⟨(gt1 117 rfl rfl), by decide, by decide⟩
theorem fl_X4_67 : Fl RX4 67 2 1 := ⟨(gt1 118 rfl rfl), by decide, by decide⟩
theorem fl_X9_148 : Fl RX9 148 2 1 := ⟨(gt1 119 rfl rfl), by decide, by decide⟩
theorem fl_X7_99 : Fl RX7 99 2 1 := ⟨(gt1 120 rfl rfl), by decide, by decide⟩
theorem fl_X2_18 : Fl RX2 18 2 2 := ⟨(gt1 121 rfl rfl), by decide, by decide⟩
theorem fl_X9_155 : Fl RX9 155 2 2 := ⟨(gt1 122 rfl rfl), by decide, by decide⟩
theorem fl_X7_70 : Fl RX7 70 2 2 := ⟨(gt1 123 rfl rfl), by decide, by decide⟩
theorem fl_X2_22 : Fl RX2 22 2 3 := ⟨(gt1 124 rfl rfl), by decide, by decide⟩
theorem fl_X2_25 : Fl RX2 25 2 4 := ⟨(gt1 125 rfl rfl), by decide, by decide⟩
theorem fl_X9_133 : Fl RX9 133 2 4 := ⟨(gt1 126 rfl rfl), by decide, by decide⟩
theorem fl_X2_28 : Fl RX2 28 2 5 := ⟨(gt1 127 rfl rfl), by decide, by decide⟩
theorem fl_X2_31 : Fl RX2 31 2 6 := ⟨(gt1 128 rfl rfl), by decide, by decide⟩
theorem fl_X2_34 : Fl RX2 34 2 7 := ⟨(gt1 129 rfl rfl), by decide, by decide⟩
theorem fl_X9_136 : Fl RX9 136 2 7 := ⟨(gt1 130 rfl rfl), by decide, by decide⟩
theorem fl_X6_9 : Fl RX6 9 6 0 := ⟨(gt1 154 rfl rfl), by decide, by decide⟩
theorem fl_X6_15 : Fl RX6 15 6 1 := ⟨(gt1 155 rfl rfl), by decide, by decide⟩
theorem fl_X6_19 : Fl RX6 19 6 2 := ⟨(gt1 156 rfl rfl), by decide, by decide⟩
theorem fl_X6_23 : Fl RX6 23 6 3 := ⟨(gt1 157 rfl rfl), by decide, by decide⟩
theorem fl_X6_26 : Fl RX6 26 6 4 := ⟨(gt1 158 rfl rfl), by decide, by decide⟩
theorem fl_X6_30 : Fl RX6 30 6 5 := ⟨(gt1 159 rfl rfl), by decide, by decide⟩
theorem fl_X6_33 : Fl RX6 33 6 6 := ⟨(gt1 160 rfl rfl), by decide, by decide⟩
theorem fl_X9_204 : Fl RX9 204 6 6 := ⟨(gt1 161 rfl rfl), by decide, by decide⟩
theorem fl_X6_36 : Fl RX6 36 6 7 := ⟨(gt1 162 rfl rfl), by decide, by decide⟩
theorem fl_X6_40 : Fl RX6 40 6 8 := ⟨(gt1 163 rfl rfl), by decide, by decide⟩
theorem fl_X0_70 : Fl RX0 70 6 8 := ⟨(gt1 164 rfl rfl), by decide, by decide⟩
theorem fl_X9_195 : Fl RX9 195 6 8 := ⟨(gt1 165 rfl rfl), by decide, by decide⟩
theorem fl_X6_43 : Fl RX6 43 6 9 := ⟨(gt1 166 rfl rfl), by decide, by decide⟩
theorem fl_X9_189 : Fl RX9 189 6 9 := ⟨(gt1 167 rfl rfl), by decide, by decide⟩
theorem fl_X6_46 : Fl RX6 46 6 10 := ⟨(gt1 168 rfl rfl), by decide, by decide⟩
theorem fl_X3_32 : Fl RX3 32 6 10 := ⟨(gt1 169 rfl rfl), by decide, by decide⟩
theorem fl_X9_186 : Fl RX9 186 6 10 := ⟨(gt1 170 rfl rfl), by decide, by decide⟩
theorem fl_X0_12 : Fl RX0 12 0 0 := ⟨(gt1 203 rfl rfl), by decide, by decide⟩
theorem fl_X9_198 : Fl RX9 198 0 0 := ⟨(gt1 204 rfl rfl), by decide, by decide⟩
theorem fl_X0_18 : Fl RX0 18 0 1 := ⟨(gt1 205 rfl rfl), by decide, by decide⟩
theorem fl_X0_22 : Fl RX0 22 0 2 := ⟨(gt1 206 rfl rfl), by decide, by decide⟩
theorem fl_X0_25 : Fl RX0 25 0 3 := ⟨(gt1 207 rfl rfl), by decide, by decide⟩
theorem fl_X9_294 : Fl RX9 294 0 3 := ⟨(gt1 208 rfl rfl), by decide, by decide⟩
theorem fl_X0_29 : Fl RX0 29 0 4 := ⟨(gt1 209 rfl rfl), by decide, by decide⟩
theorem fl_X9_297 : Fl RX9 297 0 4 := ⟨(gt1 210 rfl rfl), by decide, by decide⟩
theorem fl_X3_9 : Fl RX3 9 3 0 := ⟨(gt1 228 rfl rfl), by decide, by decide⟩
theorem fl_X3_15 : Fl RX3 15 3 1 := ⟨(gt1 229 rfl rfl), by decide, by decide⟩
theorem fl_X3_18 : Fl RX3 18 3 2 := ⟨(gt1 230 rfl rfl), by decide, by decide⟩
theorem fl_X3_22 : Fl RX3 22 3 3 := ⟨(gt1 231 rfl rfl), by decide, by decide⟩
theorem fl_X8_9 : Fl RX8 9 8 0 := ⟨(gt2 7 rfl rfl), by decide, by decide⟩
theorem fl_X8_15 : Fl RX8 15 8 1 := ⟨(gt2 8 rfl rfl), by decide, by decide⟩
theorem fl_X8_19 : Fl RX8 19 8 2 := ⟨(gt2 9 rfl rfl), by decide, by decide⟩
theorem fl_X8_22 : Fl RX8 22 8 3 := ⟨(gt2 10 rfl rfl), by decide, by decide⟩
theorem fl_X8_25 : Fl RX8 25 8 4 := ⟨(gt2 11 rfl rfl), by decide, by decide⟩
theorem fl_X9_334 : Fl RX9 334 8 4 := ⟨(gt2 12 rfl rfl), by decide, by decide⟩
theorem fl_X8_28 : Fl RX8 28 8 5 := ⟨(gt2 13 rfl rfl), by decide, by decide⟩
theorem fl_X9_331 : Fl RX9 331 8 5 := ⟨(gt2 14 rfl rfl), by decide, by decide⟩
theorem fl_X8_31 : Fl RX8 31 8 6 := ⟨(gt2 15 rfl rfl), by decide, by decide⟩
theorem fl_X9_329 : Fl RX9 329 8 6 := ⟨(gt2 16 rfl rfl), by decide, by decide⟩
theorem fl_X5_9 : Fl RX5 9 5 0 := ⟨(gt2 38 rfl rfl), by decide, by decide⟩
theorem fl_X5_15 : Fl RX5 15 5 1 := ⟨(gt2 39 rfl rfl), by decide, by decide⟩
theorem fl_X5_19 : Fl RX5 19 5 2 := ⟨(gt2 40 rfl rfl), by decide, by decide⟩
theorem fl_X5_23 : Fl RX5 23 5 3 := ⟨(gt2 41 rfl rfl), by decide, by decide⟩
theorem fl_X5_26 : Fl RX5 26 5 4 := ⟨(gt2 42 rfl rfl), by decide, by decide⟩
theorem fl_X5_29 : Fl RX5 29 5 5 := ⟨(gt2 43 rfl rfl), by decide, by decide⟩
theorem fl_X5_32 : Fl RX5 32 5 6 := ⟨(gt2 44 rfl rfl), by decide, by decide⟩
theorem fl_X5_35 : Fl RX5 35 5 7 := ⟨(gt2 45 rfl rfl), by decide, by decide⟩
theorem fl_X5_38 : Fl RX5 38 5 8 := ⟨(gt2 46 rfl rfl), by decide, by decide⟩
theorem fl_X5_42 : Fl RX5 42 5 9 := ⟨(gt2 47 rfl rfl), by decide, by decide⟩
theorem fl_X5_46 : Fl RX5 46 5 10 := ⟨(gt2 48 rfl rfl), by decide, by decide⟩
theorem fl_X5_50 : Fl RX5 50 5 11 := ⟨(gt2 49 rfl rfl), by decide, by decide⟩
theorem fl_X9_118 : Fl RX9 118 5 11 := ⟨(gt2 50 rfl rfl), by decide, by decide⟩
theorem fl_X5_53 : Fl RX5 53 5 12 := ⟨(gt2 51 rfl rfl), by decide, by decide⟩
theorem fl_X9_117 : Fl RX9 117 5 12 := ⟨(gt2 52 rfl rfl), by decide, by decide⟩
theorem fl_X1_7 : Fl RX1 7 1 0 := ⟨(gt2 86 rfl rfl), by decide, by decide⟩
theorem fl_X4_7 : Fl RX4 7 4 0 := ⟨(gt2 96 rfl rfl), by decide, by decide⟩
theorem fl_X9_348 : Fl RX9 348 4 0 := ⟨(gt2 97 rfl rfl), by decide, by decide⟩
theorem fl_X4_13 : Fl RX4 13 4 1 := ⟨(gt2 98 rfl rfl), by decide, by decide⟩
theorem fl_X9_347 : Fl RX9 347 4 1 := ⟨(gt2 99 rfl rfl), by decide, by decide⟩
theorem fl_X9_9 : Fl RX9 9 9 0 := ⟨(gt2 105 rfl rfl), by decide, by decide⟩
theorem fl_X9_13 : Fl RX9 13 9 1 := ⟨(gt2 106 rfl rfl), by decide, by decide⟩
theorem fl_X9_17 : Fl RX9 17 9 2 := ⟨(gt2 107 rfl rfl), by decide, by decide⟩
theorem fl_X9_20 : Fl RX9 20 9 3 := ⟨(gt2 108 rfl rfl), by decide, by decide⟩
theorem fl_X9_27 : Fl RX9 27 9 4 := ⟨(gt2 109 rfl rfl), by decide, by decide⟩
theorem fl_X9_31 : Fl RX9 31 9 5 := ⟨(gt2 110 rfl rfl), by decide, by decide⟩
theorem fl_X9_37 : Fl RX9 37 9 6 := ⟨(gt2 111 rfl rfl), by decide, by decide⟩
theorem fl_X9_41 : Fl RX9 41 9 7 := ⟨(gt2 112 rfl rfl), by decide, by decide⟩
theorem fl_X9_44 : Fl RX9 44 9 8 := ⟨(gt2 113 rfl rfl), by decide, by decide⟩
theorem fl_X9_47 : Fl RX9 47 9 9 := ⟨(gt2 114 rfl rfl), by decide, by decide⟩
theorem fl_X9_54 : Fl RX9 54 9 10 := ⟨(gt2 115 rfl rfl), by decide, by decide⟩
theorem fl_X9_58 : Fl RX9 58 9 11 := ⟨(gt2 116 rfl rfl), by decide, by decide⟩
theorem fl_X9_64 : Fl RX9 64 9 12 := ⟨(gt2 117 rfl rfl), by decide, by decide⟩
theorem fl_X9_71 : Fl RX9 71 9 13 := ⟨(gt2 118 rfl rfl), by decide, by decide⟩
theorem fl_X9_78 : Fl RX9 78 9 14 := ⟨(gt2 119 rfl rfl), by decide, by decide⟩
theorem fl_X9_85 : Fl RX9 85 9 15 := ⟨(gt2 120 rfl rfl), by decide, by decide⟩
theorem fl_X9_92 : Fl RX9 92 9 16 := ⟨(gt2 121 rfl rfl), by decide, by decide⟩
theorem fl_X9_99 : Fl RX9 99 9 17 := ⟨(gt2 122 rfl rfl), by decide, by decide⟩
theorem fl_X9_103 : Fl RX9 103 9 18 := ⟨(gt2 123 rfl rfl), by decide, by decide⟩
theorem fl_X10_193 : Fl RX10 193 10 0 := ⟨(gt6 89 rfl rfl), by decide, by decide⟩
theorem fl_X10_350 : Fl RX10 350 10 1 := ⟨(gt6 90 rfl rfl), by decide, by decide⟩
theorem fl_X10_7 : Fl RX10 7 10 2 := ⟨(gt6 91 rfl rfl), by decide, by decide⟩
theorem fl_X10_353 : Fl RX10 353 10 3 := ⟨(gt6 92 rfl rfl), by decide, by decide⟩
theorem fl_X10_13 : Fl RX10 13 10 4 := ⟨(gt6 93 rfl rfl), by decide, by decide⟩
theorem fl_X10_17 : Fl RX10 17 10 5 := ⟨(gt6 94 rfl rfl), by decide, by decide⟩
theorem fl_X10_20 : Fl RX10 20 10 6 := ⟨(gt6 95 rfl rfl), by decide, by decide⟩
theorem fl_X10_23 : Fl RX10 23 10 7 := ⟨(gt6 96 rfl rfl), by decide, by decide⟩
theorem fl_X10_26 : Fl RX10 26 10 8 := ⟨(gt6 97 rfl rfl), by decide, by decide⟩
theorem fl_X10_29 : Fl RX10 29 10 9 := ⟨(gt6 98 rfl rfl), by decide, by decide⟩
theorem fl_X10_32 : Fl RX10 32 10 10 := ⟨(gt6 99 rfl rfl), by decide, by decide⟩
theorem fl_X10_35 : Fl RX10 35 10 11 := ⟨(gt6 100 rfl rfl), by decide, by decide⟩
theorem fl_X10_38 : Fl RX10 38 10 12 := ⟨(gt6 101 rfl rfl), by decide, by decide⟩
theorem fl_X10_41 : Fl RX10 41 10 13 := ⟨(gt6 102 rfl rfl), by decide, by decide⟩
theorem fl_X10_44 : Fl RX10 44 10 14 := ⟨(gt6 103 rfl rfl), by decide, by decide⟩
theorem fl_X10_196 : Fl RX10 196 10 15 := ⟨(gt6 104 rfl rfl), by decide, by decide⟩
theorem fl_X10_249 : Fl RX10 249 10 16 := ⟨(gt6 105 rfl rfl), by decide, by decide⟩
theorem fl_X10_47 : Fl RX10 47 10 17 := ⟨(gt6 106 rfl rfl), by decide, by decide⟩
theorem fl_X10_50 : Fl RX10 50 10 18 := ⟨(gt6 107 rfl rfl), by decide, by decide⟩
theorem fl_X10_203 : Fl RX10 203 10 19 := ⟨(gt6 108 rfl rfl), by decide, by decide⟩
theorem fl_X10_206 : Fl RX10 206 10 20 := ⟨(gt6 109 rfl rfl), by decide, by decide⟩
theorem fl_X10_226 : Fl RX10 226 10 21 := ⟨(gt6 110 rfl rfl), by decide, by decide⟩
theorem fl_X10_213 : Fl RX10 213 10 22 := ⟨(gt6 111 rfl rfl), by decide, by decide⟩
theorem fl_X10_236 : Fl RX10 236 10 23 := ⟨(gt6 112 rfl rfl), by decide, by decide⟩
theorem fl_X10_220 : Fl RX10 220 10 24 := ⟨(gt6 113 rfl rfl), by decide, by decide⟩
theorem fl_X10_223 : Fl RX10 223 10 25 := ⟨(gt6 114 rfl rfl), by decide, by decide⟩
theorem fl_X10_216 : Fl RX10 216 10 26 := ⟨(gt6 115 rfl rfl), by decide, by decide⟩
theorem fl_X10_266 : Fl RX10 266 10 27 := ⟨(gt6 116 rfl rfl), by decide, by decide⟩
theorem fl_X10_331 : Fl RX10 331 10 28 := ⟨(gt6 117 rfl rfl), by decide, by decide⟩
theorem fl_X10_269 : Fl RX10 269 10 29 := ⟨(gt6 118 rfl rfl), by decide, by decide⟩
theorem fl_X10_275 : Fl RX10 275 10 30 := ⟨(gt6 119 rfl rfl), by decide, by decide⟩
theorem fl_X10_278 : Fl RX10 278 10 31 := ⟨(gt6 120 rfl rfl), by decide, by decide⟩
theorem fl_X10_290 : Fl RX10 290 10 32 := ⟨(gt6 121 rfl rfl), by decide, by decide⟩
theorem fl_X10_334 : Fl RX10 334 10 33 := ⟨(gt6 122 rfl rfl), by decide, by decide⟩
theorem fl_X10_327 : Fl RX10 327 10 34 := ⟨(gt6 123 rfl rfl), by decide, by decide⟩
theorem fl_X10_53 : Fl RX10 53 10 35 := ⟨(gt6 124 rfl rfl), by decide, by decide⟩
theorem fl_X10_56 : Fl RX10 56 10 36 := ⟨(gt6 125 rfl rfl), by decide, by decide⟩
theorem fl_X10_59 : Fl RX10 59 10 37 := ⟨(gt6 126 rfl rfl), by decide, by decide⟩
theorem fl_X10_62 : Fl RX10 62 10 38 := ⟨(gt6 127 rfl rfl), by decide, by decide⟩
theorem fl_X10_65 : Fl RX10 65 10 39 := ⟨(gt6 128 rfl rfl), by decide, by decide⟩
theorem fl_X10_68 : Fl RX10 68 10 40 := ⟨(gt6 129 rfl rfl), by decide, by decide⟩
theorem fl_X10_71 : Fl RX10 71 10 41 := ⟨(gt6 130 rfl rfl), by decide, by decide⟩
theorem fl_X10_74 : Fl RX10 74 10 42 := ⟨(gt6 131 rfl rfl), by decide, by decide⟩
theorem fl_X10_77 : Fl RX10 77 10 43 := ⟨(gt6 132 rfl rfl), by decide, by decide⟩
theorem fl_X10_80 : Fl RX10 80 10 44 := ⟨(gt6 133 rfl rfl), by decide, by decide⟩
theorem fl_X10_360 : Fl RX10 360 10 45 := ⟨(gt6 134 rfl rfl), by decide, by decide⟩
theorem fl_X10_84 : Fl RX10 84 10 46 := ⟨(gt6 135 rfl rfl), by decide, by decide⟩
theorem fl_X10_363 : Fl RX10 363 10 47 := ⟨(gt6 136 rfl rfl), by decide, by decide⟩
theorem fl_X10_87 : Fl RX10 87 10 48 := ⟨(gt6 137 rfl rfl), by decide, by decide⟩
theorem fl_X10_90 : Fl RX10 90 10 49 := ⟨(gt6 138 rfl rfl), by decide, by decide⟩
theorem fl_X10_93 : Fl RX10 93 10 50 := ⟨(gt6 139 rfl rfl), by decide, by decide⟩
theorem fl_X10_96 : Fl RX10 96 10 51 := ⟨(gt6 140 rfl rfl), by decide, by decide⟩
theorem fl_X10_413 : Fl RX10 413 10 52 := ⟨(gt6 141 rfl rfl), by decide, by decide⟩
theorem fl_X10_416 : Fl RX10 416 10 53 := ⟨(gt6 142 rfl rfl), by decide, by decide⟩
theorem fl_X10_99 : Fl RX10 99 10 54 := ⟨(gt6 143 rfl rfl), by decide, by decide⟩
theorem fl_X10_393 : Fl RX10 393 10 55 := ⟨(gt6 144 rfl rfl), by decide, by decide⟩
theorem fl_X10_399 : Fl RX10 399 10 56 := ⟨(gt6 145 rfl rfl), by decide, by decide⟩
theorem fl_X10_396 : Fl RX10 396 10 57 := ⟨(gt6 146 rfl rfl), by decide, by decide⟩
theorem fl_X10_102 : Fl RX10 102 10 58 := ⟨(gt6 147 rfl rfl), by decide, by decide⟩
theorem fl_X10_419 : Fl RX10 419 10 59 := ⟨(gt6 148 rfl rfl), by decide, by decide⟩
theorem fl_X10_105 : Fl RX10 105 10 60 := ⟨(gt6 149 rfl rfl), by decide, by decide⟩
theorem fl_X10_109 : Fl RX10 109 10 61 := ⟨(gt6 150 rfl rfl), by decide, by decide⟩
theorem fl_X10_112 : Fl RX10 112 10 62 := ⟨(gt6 151 rfl rfl), by decide, by decide⟩
theorem fl_X10_115 : Fl RX10 115 10 63 := ⟨(gt6 152 rfl rfl), by decide, by decide⟩
theorem fl_X10_118 : Fl RX10 118 10 64 := ⟨(gt6 153 rfl rfl), by decide, by decide⟩
theorem fl_X10_121 : Fl RX10 121 10 65 := ⟨(gt6 154 rfl rfl), by decide, by decide⟩
theorem fl_X10_475 : Fl RX10 475 10 66 := ⟨(gt6 155 rfl rfl), by decide, by decide⟩
theorem fl_X10_478 : Fl RX10 478 10 67 := ⟨(gt6 156 rfl rfl), by decide, by decide⟩
theorem fl_X10_124 : Fl RX10 124 10 68 := ⟨(gt6 157 rfl rfl), by decide, by decide⟩
theorem fl_X10_127 : Fl RX10 127 10 69 := ⟨(gt6 158 rfl rfl), by decide, by decide⟩
theorem fl_X10_130 : Fl RX10 130 10 70 := ⟨(gt6 159 rfl rfl), by decide, by decide⟩
theorem fl_X10_133 : Fl RX10 133 10 71 := ⟨(gt6 160 rfl rfl), by decide, by decide⟩
theorem fl_X10_136 : Fl RX10 136 10 72 := ⟨(gt6 161 rfl rfl), by decide, by decide⟩
theorem fl_X10_487 : Fl RX10 487 10 73 := ⟨(gt6 162 rfl rfl), by decide, by decide⟩
theorem fl_X10_139 : Fl RX10 139 10 74 := ⟨(gt6 163 rfl rfl), by decide, by decide⟩
theorem fl_X10_142 : Fl RX10 142 10 75 := ⟨(gt6 164 rfl rfl), by decide, by decide⟩
theorem fl_X10_145 : Fl RX10 145 10 76 := ⟨(gt6 165 rfl rfl), by decide, by decide⟩
theorem fl_X10_505 : Fl RX10 505 10 77 := ⟨(gt6 166 rfl rfl), by decide, by decide⟩
theorem fl_X10_529 : Fl RX10 529 10 78 := ⟨(gt6 167 rfl rfl), by decide, by decide⟩
theorem fl_X10_548 : Fl RX10 548 10 79 := ⟨(gt6 168 rfl rfl), by decide, by decide⟩
theorem fl_X10_148 : Fl RX10 148 10 80 := ⟨(gt6 169 rfl rfl), by decide, by decide⟩
theorem fl_X10_151 : Fl RX10 151 10 81 := ⟨(gt6 170 rfl rfl), by decide, by decide⟩
theorem fl_X10_154 : Fl RX10 154 10 82 := ⟨(gt6 171 rfl rfl), by decide, by decide⟩
theorem fl_X10_157 : Fl RX10 157 10 83 := ⟨(gt6 172 rfl rfl), by decide, by decide⟩
theorem fl_X10_160 : Fl RX10 160 10 84 := ⟨(gt6 173 rfl rfl), by decide, by decide⟩
theorem fl_X10_163 : Fl RX10 163 10 85 := ⟨(gt6 174 rfl rfl), by decide, by decide⟩
theorem fl_X10_166 : Fl RX10 166 10 86 := ⟨(gt6 175 rfl rfl), by decide, by decide⟩
theorem fl_X10_169 : Fl RX10 169 10 87 := ⟨(gt6 176 rfl rfl), by decide, by decide⟩
theorem fl_X10_172 : Fl RX10 172 10 88 := ⟨(gt6 177 rfl rfl), by decide, by decide⟩
theorem fl_X10_175 : Fl RX10 175 10 89 := ⟨(gt6 178 rfl rfl), by decide, by decide⟩
theorem fl_X10_366 : Fl RX10 366 10 90 := ⟨(gt6 179 rfl rfl), by decide, by decide⟩
theorem fl_X10_560 : Fl RX10 560 10 91 := ⟨(gt6 180 rfl rfl), by decide, by decide⟩
theorem fl_X10_563 : Fl RX10 563 10 92 := ⟨(gt6 181 rfl rfl), by decide, by decide⟩
theorem fl_X10_178 : Fl RX10 178 10 93 := ⟨(gt6 182 rfl rfl), by decide, by decide⟩
theorem fl_X10_181 : Fl RX10 181 10 94 := ⟨(gt6 183 rfl rfl), by decide, by decide⟩
theorem fl_X10_184 : Fl RX10 184 10 95 := ⟨(gt6 184 rfl rfl), by decide, by decide⟩
theorem fl_X10_187 : Fl RX10 187 10 96 := ⟨(gt6 185 rfl rfl), by decide, by decide⟩
theorem fl_X10_190 : Fl RX10 190 10 97 := ⟨(gt6 186 rfl rfl), by decide, by decide⟩
theorem cl_L_8 : Cond.classLink RL 8 (aR 9) ∈ gw := (gt1 27 rfl rfl)
theorem in_X9 : Cond.instantiable (aR 9) (aN 9) ∈ gw := (gt1 28 rfl rfl)
theorem li_L_94 : Li RL 94 yX9_init 0 := ⟨Or.inl ((gt1 29 rfl rfl)), (gt1 30 rfl rfl), rfl, by decide +kernel⟩
theorem mc_X9_init : Mc yX9_init cX9_init 1 none := ⟨(gt1 31 rfl rfl), (gt1 1 rfl rfl), by decide, by decide +kernel, by decide +kernel⟩
theorem cl_X9_24 : Cond.classLink RX9 24 (aR 7) ∈ gw := (gt1 35 rfl rfl)
theorem in_X7 : Cond.instantiable (aR 7) (aN 7) ∈ gw := (gt1 36 rfl rfl)
theorem li_X9_26 : Li RX9 26 yX7_init 0 := ⟨Or.inr ⟨"RiddleDoors", by decide +kernel⟩, (gt1 38 rfl rfl), rfl, by decide +kernel⟩
theorem mc_X7_init : Mc yX7_init cX7_init 1 none := ⟨(gt1 39 rfl rfl), (gt1 2 rfl rfl), by decide, by decide +kernel, by decide +kernel⟩
theorem cl_X9_34 : Cond.classLink RX9 34 (aR 2) ∈ gw := (gt1 107 rfl rfl)
theorem in_X2 : Cond.instantiable (aR 2) (aN 2) ∈ gw := (gt1 108 rfl rfl)
theorem li_X9_36 : Li RX9 36 yX2_init 0 := ⟨Or.inr ⟨"RiddleDoors", by decide +kernel⟩, (gt1 110 rfl rfl), rfl, by decide +kernel⟩
theorem mc_X2_init : Mc yX2_init cX2_init 1 none := ⟨(gt1 111 rfl rfl), (gt1 3 rfl rfl), by decide, by decide +kernel, by decide +kernel⟩
theorem cl_X9_51 : Cond.classLink RX9 51 (aR 6) ∈ gw := (gt1 148 rfl rfl)
theorem in_X6 : Cond.instantiable (aR 6) (aN 6) ∈ gw := (gt1 149 rfl rfl)
theorem li_X9_53 : Li RX9 53 yX6_init 0 := ⟨Or.inr ⟨"RiddleDoors", by decide +kernel⟩, (gt1 151 rfl rfl), rfl, by decide +kernel⟩
theorem mc_X6_init : Mc yX6_init cX6_init 1 none := ⟨(gt1 152 rfl rfl), (gt1 4 rfl rfl), by decide, by decide +kernel, by decide +kernel⟩
theorem cl_X9_61 : Cond.classLink RX9 61 (aR 0) ∈ gw := (gt1 195 rfl rfl)
theorem in_X0 : Cond.instantiable (aR 0) (aN 0) ∈ gw := (gt1 196 rfl rfl)
theorem li_X9_63 : Li RX9 63 yX0_init 0 := ⟨Or.inr ⟨"RiddleDoors", by decide +kernel⟩, (gt1 198 rfl rfl), rfl, by decide +kernel⟩
theorem mc_X0_init : Mc yX0_init cX0_init 1 none := ⟨(gt1 199 rfl rfl), (gt1 5 rfl rfl), by decide, by decide +kernel, by decide +kernel⟩
theorem cl_X0_9 : Cond.classLink RX0 9 (aR 6) ∈ gw := (gt1 201 rfl rfl)
theorem li_X0_11 : Li RX0 11 yX6_init 0 := ⟨Or.inr ⟨"RiddleDoors", by decide +kernel⟩, (gt1 151 rfl rfl), rfl, by decide +kernel⟩
theorem cl_X9_68 : Cond.classLink RX9 68 (aR 3) ∈ gw := (gt1 222 rfl rfl)
theorem in_X3 : Cond.instantiable (aR 3) (aN 3) ∈ gw := (gt1 223 rfl rfl)
theorem li_X9_70 : Li RX9 70 yX3_init 0 := ⟨Or.inr ⟨"RiddleDoors", by decide +kernel⟩, (gt1 225 rfl rfl), rfl, by decide +kernel⟩
theorem mc_X3_init : Mc yX3_init cX3_init 1 none := ⟨(gt1 226 rfl rfl), (gt1 6 rfl rfl), by decide, by decide +kernel, by decide +kernel⟩
theorem cl_X9_75 : Cond.classLink RX9 75 (aR 8) ∈ gw := (gt2 1 rfl rfl)
theorem in_X8 : Cond.instantiable (aR 8) (aN 8) ∈ gw := (gt2 2 rfl rfl)
theorem li_X9_77 : Li RX9 77 yX8_init 0 := ⟨Or.inr ⟨"RiddleDoors", by decide +kernel⟩, (gt2 4 rfl rfl), rfl, by decide +kernel⟩
theorem mc_X8_init : Mc yX8_init cX8_init 1 none := ⟨(gt2 5 rfl rfl), (gt1 7 rfl rfl), by decide, by decide +kernel, by decide +kernel⟩
theorem cl_X9_82 : Cond.classLink RX9 82 (aR 5) ∈ gw := (gt2 32 rfl rfl)
theorem in_X5 : Cond.instantiable (aR 5) (aN 5) ∈ gw := (gt2 33 rfl rfl)
theorem li_X9_84 : Li RX9 84 yX5_init 0 := ⟨Or.inr ⟨"RiddleDoors", by decide +kernel⟩, (gt2 35 rfl rfl), rfl, by decide +kernel⟩
theorem mc_X5_init : Mc yX5_init cX5_init 1 none := ⟨(gt2 36 rfl rfl), (gt1 8 rfl rfl), by decide, by decide +kernel, by decide +kernel⟩
theorem cl_X9_89 : Cond.classLink RX9 89 (aR 1) ∈ gw := (gt2 80 rfl rfl)
theorem in_X1 : Cond.instantiable (aR 1) (aN 1) ∈ gw := (gt2 81 rfl rfl)
theorem li_X9_91 : Li RX9 91 yX1_init 0 := ⟨Or.inr ⟨"RiddleDoors", by decide +kernel⟩, (gt2 83 rfl rfl), rfl, by decide +kernel⟩
theorem mc_X1_init : Mc yX1_init cX1_init 1 none := ⟨(gt2 84 rfl rfl), (gt1 9 rfl rfl), by decide, by decide +kernel, by decide +kernel⟩
theorem cl_X9_96 : Cond.classLink RX9 96 (aR 4) ∈ gw := (gt2 90 rfl rfl)
theorem in_X4 : Cond.instantiable (aR 4) (aN 4) ∈ gw := (gt2 91 rfl rfl)
theorem li_X9_98 : Li RX9 98 yX4_init 0 := ⟨Or.inr ⟨"RiddleDoors", by decide +kernel⟩, (gt2 93 rfl rfl), rfl, by decide +kernel⟩
theorem mc_X4_init : Mc yX4_init cX4_init 1 none := ⟨(gt2 94 rfl rfl), (gt1 10 rfl rfl), by decide, by decide +kernel, by decide +kernel⟩
theorem lk_L_98 : Lv RL 98 yX9_feed 9 5 := ⟨(gt2 163 rfl rfl), (gt2 164 rfl rfl), (gt2 165 rfl rfl), by decide, by decide +kernel⟩
theorem mc_X9_feed : Mc yX9_feed cX9_feed 6 (some .int) := ⟨(gt2 166 rfl rfl), (gt1 1 rfl rfl), by decide, by decide +kernel, by decide +kernel⟩
theorem lk_X9_106 : Lv RX9 106 yX9_putOnTape 9 1 := ⟨(gt2 167 rfl rfl), (gt2 169 rfl rfl), (gs1 (q := (⟨"RiddleDoors", "putOnTape", "(I)V"⟩, _)) 0 rfl), by decide, by decide +kernel⟩
theorem mc_X9_putOnTape : Mc yX9_putOnTape cX9_putOnTape 3 none := ⟨(gt2 170 rfl rfl), (gt1 1 rfl rfl), by decide, by decide +kernel, by decide +kernel⟩
theorem lk_L_113 : Lv RL 113 yX9_fault 9 0 := ⟨(gt2 171 rfl rfl), (gt2 172 rfl rfl), (gt2 173 rfl rfl), by decide, by decide +kernel⟩
theorem mc_X9_fault : Mc yX9_fault cX9_fault 1 (some .int) := ⟨(gt2 174 rfl rfl), (gt1 1 rfl rfl), by decide, by decide +kernel, by decide +kernel⟩
theorem lk_L_132 : Lv RL 132 yX9_undo 9 0 := ⟨(gt2 175 rfl rfl), (gt2 176 rfl rfl), (gt2 177 rfl rfl), by decide, by decide +kernel⟩
theorem mc_X9_undo : Mc yX9_undo cX9_undo 1 (some .int) := ⟨(gt2 178 rfl rfl), (gt1 1 rfl rfl), by decide, by decide +kernel, by decide +kernel⟩
theorem lk_X9_177 : Lv RX9 177 yX2_takeBackAct 2 0 := ⟨(gt2 179 rfl rfl), (gt2 180 rfl rfl), (gt2 181 rfl rfl), by decide, by decide +kernel⟩
theorem mc_X2_takeBackAct : Mc yX2_takeBackAct cX2_takeBackAct 2 none := ⟨(gt2 182 rfl rfl), (gt1 3 rfl rfl), by decide, by decide +kernel, by decide +kernel⟩
theorem lk_X2_53 : Lv RX2 53 yX2_put 2 3 := ⟨(gt2 183 rfl rfl), (gt2 184 rfl rfl), (gt2 185 rfl rfl), by decide, by decide +kernel⟩
theorem mc_X2_put : Mc yX2_put cX2_put 4 none := ⟨(gt2 186 rfl rfl), (gt1 3 rfl rfl), by decide, by decide +kernel, by decide +kernel⟩
theorem lk_X9_174 : Lv RX9 174 yX9_forget 9 0 := ⟨(gt2 187 rfl rfl), (gt2 189 rfl rfl), (gs1 (q := (⟨"RiddleDoors", "forget", "()V"⟩, _)) 1 rfl), by decide, by decide +kernel⟩
theorem mc_X9_forget : Mc yX9_forget cX9_forget 1 none := ⟨(gt2 190 rfl rfl), (gt1 1 rfl rfl), by decide, by decide +kernel, by decide +kernel⟩
theorem lk_L_139 : Lv RL 139 yX9_unletter 9 0 := ⟨(gt2 191 rfl rfl), (gt2 192 rfl rfl), (gt2 193 rfl rfl), by decide, by decide +kernel⟩
theorem mc_X9_unletter : Mc yX9_unletter cX9_unletter 1 (some .int) := ⟨(gt2 194 rfl rfl), (gt1 1 rfl rfl), by decide, by decide +kernel, by decide +kernel⟩
theorem lk_L_143 : Lv RL 143 yX9_numberings 9 0 := ⟨(gt2 195 rfl rfl), (gt2 196 rfl rfl), (gt2 197 rfl rfl), by decide, by decide +kernel⟩
theorem mc_X9_numberings : Mc yX9_numberings cX9_numberings 1 (some .int) := ⟨(gt2 198 rfl rfl), (gt1 1 rfl rfl), by decide, by decide +kernel, by decide +kernel⟩
theorem lk_X9_183 : Lv RX9 183 yX9_search 9 0 := ⟨(gt2 199 rfl rfl), (gt2 201 rfl rfl), (gs1 (q := (⟨"RiddleDoors", "search", "()V"⟩, _)) 2 rfl), by decide, by decide +kernel⟩
theorem mc_X9_search : Mc yX9_search cX9_search 1 none := ⟨(gt2 202 rfl rfl), (gt1 1 rfl rfl), by decide, by decide +kernel, by decide +kernel⟩
theorem lk_X9_300 : Lv RX9 300 yX7_speaking 7 1 := ⟨(gt2 203 rfl rfl), (gt2 204 rfl rfl), (gt2 205 rfl rfl), by decide, by decide +kernel⟩
theorem mc_X7_speaking : Mc yX7_speaking cX7_speaking 2 (some .int) := ⟨(gt2 206 rfl rfl), (gt1 2 rfl rfl), by decide, by decide +kernel, by decide +kernel⟩
theorem lk_X9_304 : Lv RX9 304 yX6_setUp 6 4 := ⟨(gt2 207 rfl rfl), (gt2 208 rfl rfl), (gt2 209 rfl rfl), by decide, by decide +kernel⟩
theorem mc_X6_setUp : Mc yX6_setUp cX6_setUp 6 none := ⟨(gt2 210 rfl rfl), (gt1 4 rfl rfl), by decide, by decide +kernel, by decide +kernel⟩
theorem lk_X6_49 : Ls RX6 49 yJ7_fill_53178 2 := ⟨(gt2 211 rfl rfl), (gt2 212 rfl rfl), by decide +kernel⟩
theorem mc_J7_fill_53178 : Mc yJ7_fill_53178 cJ7_fill_53178 4 none := ⟨(gt2 213 rfl rfl), (gt1 17 rfl rfl), by decide, by decide +kernel, by decide +kernel⟩
theorem lk_X6_60 : Lv RX6 60 yX7_askedWith 7 1 := ⟨(gt2 214 rfl rfl), (gt2 215 rfl rfl), (gt2 216 rfl rfl), by decide, by decide +kernel⟩
theorem mc_X7_askedWith : Mc yX7_askedWith cX7_askedWith 3 (some .int) := ⟨(gt2 217 rfl rfl), (gt1 2 rfl rfl), by decide, by decide +kernel, by decide +kernel⟩
theorem lk_X7_79 : Lv RX7 79 yX7_looksAt 7 1 := ⟨(gt2 218 rfl rfl), (gt2 219 rfl rfl), (gt2 220 rfl rfl), by decide, by decide +kernel⟩
theorem mc_X7_looksAt : Mc yX7_looksAt cX7_looksAt 2 (some .int) := ⟨(gt2 221 rfl rfl), (gt1 2 rfl rfl), by decide, by decide +kernel, by decide +kernel⟩
theorem lk_X7_75 : Lv RX7 75 yX7_allHouses 7 0 := ⟨(gt2 222 rfl rfl), (gt2 223 rfl rfl), (gt2 224 rfl rfl), by decide, by decide +kernel⟩
theorem mc_X7_allHouses : Mc yX7_allHouses cX7_allHouses 1 (some .int) := ⟨(gt2 225 rfl rfl), (gt1 2 rfl rfl), by decide, by decide +kernel, by decide +kernel⟩
theorem lk_X7_83 : Ls RX7 83 yJ6_numberOfLeadingZeros_0f7a4 1 := ⟨(gt2 226 rfl rfl), (gt2 227 rfl rfl), by decide +kernel⟩
theorem mc_J6_numberOfLeadingZeros_0f7a4 : Mc yJ6_numberOfLeadingZeros_0f7a4 cJ6_numberOfLeadingZeros_0f7a4 2 (some .int) := ⟨(gt2 228 rfl rfl), (gt1 25 rfl rfl), by decide, by decide +kernel, by decide +kernel⟩
theorem ic_J6_264 : Cond.constant RJ6 264 (65536) ∈ gw := (gt2 229 rfl rfl)
theorem lk_X6_64 : Lv RX6 64 yX2_lettersLeave 2 1 := ⟨(gt2 230 rfl rfl), (gt2 231 rfl rfl), (gt2 232 rfl rfl), by decide, by decide +kernel⟩
theorem mc_X2_lettersLeave : Mc yX2_lettersLeave cX2_lettersLeave 4 (some .int) := ⟨(gt2 233 rfl rfl), (gt1 3 rfl rfl), by decide, by decide +kernel, by decide +kernel⟩
theorem lk_X9_308 : Lv RX9 308 yX6_seekAll 6 0 := ⟨(gt2 234 rfl rfl), (gt2 235 rfl rfl), (gt2 236 rfl rfl), by decide, by decide +kernel⟩
theorem mc_X6_seekAll : Mc yX6_seekAll cX6_seekAll 1 (some .int) := ⟨(gt2 237 rfl rfl), (gt1 4 rfl rfl), by decide, by decide +kernel, by decide +kernel⟩
theorem lk_X6_69 : Lv RX6 69 yX6_seek 6 1 := ⟨(gt2 238 rfl rfl), (gt2 239 rfl rfl), (gt3 0 rfl rfl), by decide, by decide +kernel⟩
theorem mc_X6_seek : Mc yX6_seek cX6_seek 5 (some .int) := ⟨(gt3 1 rfl rfl), (gt1 4 rfl rfl), by decide, by decide +kernel, by decide +kernel⟩
theorem lk_X6_72 : Lv RX6 72 yX6_keep 6 0 := ⟨(gt3 2 rfl rfl), (gt3 4 rfl rfl), (gs1 (q := (⟨"RiddleDoors$Search", "keep", "()V"⟩, _)) 3 rfl), by decide, by decide +kernel⟩
theorem mc_X6_keep : Mc yX6_keep cX6_keep 4 none := ⟨(gt3 5 rfl rfl), (gt1 4 rfl rfl), by decide, by decide +kernel, by decide +kernel⟩
theorem ic_X6_75 : Cond.constant RX6 75 (100000) ∈ gw := (gt3 6 rfl rfl)
theorem lk_X6_79 : Lv RX6 79 yX6_stands 6 1 := ⟨(gt3 7 rfl rfl), (gt3 9 rfl rfl), (gs1 (q := (⟨"RiddleDoors$Search", "stands", "(I)Z"⟩, _)) 4 rfl), by decide, by decide +kernel⟩
theorem mc_X6_stands : Mc yX6_stands cX6_stands 5 (some .boolean) := ⟨(gt3 10 rfl rfl), (gt1 4 rfl rfl), by decide, by decide +kernel, by decide +kernel⟩
theorem lk_X6_87 : Lv RX6 87 yX7_valueOf 7 3 := ⟨(gt3 11 rfl rfl), (gt3 12 rfl rfl), (gt3 13 rfl rfl), by decide, by decide +kernel⟩
theorem mc_X7_valueOf : Mc yX7_valueOf cX7_valueOf 7 (some .int) := ⟨(gt3 14 rfl rfl), (gt1 2 rfl rfl), by decide, by decide +kernel, by decide +kernel⟩
theorem lk_X7_88 : Lv RX7 88 yX7_operand 7 4 := ⟨(gt3 15 rfl rfl), (gt3 17 rfl rfl), (gs1 (q := (⟨"RiddleDoors$Street", "operand", "(II[ILRiddleDoors$Life;)I"⟩, _)) 5 rfl), by decide, by decide +kernel⟩
theorem mc_X7_operand : Mc yX7_operand cX7_operand 6 (some .int) := ⟨(gt3 18 rfl rfl), (gt1 2 rfl rfl), by decide, by decide +kernel, by decide +kernel⟩
theorem lk_X7_92 : Ls RX7 92 yX7_joined 3 := ⟨(gt3 19 rfl rfl), (gt3 20 rfl rfl), by decide +kernel⟩
theorem mc_X7_joined : Mc yX7_joined cX7_joined 3 (some .int) := ⟨(gt3 21 rfl rfl), (gt1 2 rfl rfl), by decide, by decide +kernel, by decide +kernel⟩
theorem lk_L_147 : Lv RL 147 yX9_tries 9 0 := ⟨(gt3 22 rfl rfl), (gt3 23 rfl rfl), (gt3 24 rfl rfl), by decide, by decide +kernel⟩
theorem mc_X9_tries : Mc yX9_tries cX9_tries 1 (some .int) := ⟨(gt3 25 rfl rfl), (gt1 1 rfl rfl), by decide, by decide +kernel, by decide +kernel⟩
theorem lk_L_163 : Lv RL 163 yX9_knot 9 0 := ⟨(gt3 26 rfl rfl), (gt3 27 rfl rfl), (gt3 28 rfl rfl), by decide, by decide +kernel⟩
theorem mc_X9_knot : Mc yX9_knot cX9_knot 1 (some .int) := ⟨(gt3 29 rfl rfl), (gt1 1 rfl rfl), by decide, by decide +kernel, by decide +kernel⟩
theorem lk_X9_211 : Lv RX9 211 yX0_smallestKnot 0 2 := ⟨(gt3 30 rfl rfl), (gt3 31 rfl rfl), (gt3 32 rfl rfl), by decide, by decide +kernel⟩
theorem mc_X0_smallestKnot : Mc yX0_smallestKnot cX0_smallestKnot 7 (some .int) := ⟨(gt3 33 rfl rfl), (gt1 5 rfl rfl), by decide, by decide +kernel, by decide +kernel⟩
theorem lk_X0_32 : Lv RX0 32 yX7_speaking 7 1 := ⟨(gt3 34 rfl rfl), (gt2 204 rfl rfl), (gt2 205 rfl rfl), by decide, by decide +kernel⟩
theorem lk_X0_46 : Ls RX0 46 yJ6_bitCount_0f7a4 1 := ⟨(gt3 35 rfl rfl), (gt3 36 rfl rfl), by decide +kernel⟩
theorem mc_J6_bitCount_0f7a4 : Mc yJ6_bitCount_0f7a4 cJ6_bitCount_0f7a4 1 (some .int) := ⟨(gt3 37 rfl rfl), (gt1 25 rfl rfl), by decide, by decide +kernel, by decide +kernel⟩
theorem ic_J6_265 : Cond.constant RJ6 265 (1431655765) ∈ gw := (gt3 38 rfl rfl)
theorem ic_J6_266 : Cond.constant RJ6 266 (858993459) ∈ gw := (gt3 39 rfl rfl)
theorem ic_J6_267 : Cond.constant RJ6 267 (252645135) ∈ gw := (gt3 40 rfl rfl)
theorem lk_X0_51 : Ls RX0 51 yX0_isSubset 3 := ⟨(gt3 41 rfl rfl), (gt3 42 rfl rfl), by decide +kernel⟩
theorem mc_X0_isSubset : Mc yX0_isSubset cX0_isSubset 3 (some .boolean) := ⟨(gt3 43 rfl rfl), (gt1 5 rfl rfl), by decide, by decide +kernel, by decide +kernel⟩
theorem lk_X0_38 : Lv RX0 38 yX6_setUp 6 4 := ⟨(gt3 44 rfl rfl), (gt2 208 rfl rfl), (gt2 209 rfl rfl), by decide, by decide +kernel⟩
theorem lk_X0_42 : Lv RX0 42 yX6_seek 6 1 := ⟨(gt3 45 rfl rfl), (gt2 239 rfl rfl), (gt3 0 rfl rfl), by decide, by decide +kernel⟩
theorem lk_L_167 : Lv RL 167 yX9_liars 9 0 := ⟨(gt3 46 rfl rfl), (gt3 47 rfl rfl), (gt3 48 rfl rfl), by decide, by decide +kernel⟩
theorem mc_X9_liars : Mc yX9_liars cX9_liars 1 (some .int) := ⟨(gt3 49 rfl rfl), (gt1 1 rfl rfl), by decide, by decide +kernel, by decide +kernel⟩
theorem lk_X9_215 : Lv RX9 215 yX0_fewestLiars 0 2 := ⟨(gt3 50 rfl rfl), (gt3 51 rfl rfl), (gt3 52 rfl rfl), by decide, by decide +kernel⟩
theorem mc_X0_fewestLiars : Mc yX0_fewestLiars cX0_fewestLiars 7 (some .int) := ⟨(gt3 53 rfl rfl), (gt1 5 rfl rfl), by decide, by decide +kernel, by decide +kernel⟩
theorem lk_L_174 : Lv RL 174 yX9_doors 9 0 := ⟨(gt3 54 rfl rfl), (gt3 55 rfl rfl), (gt3 56 rfl rfl), by decide, by decide +kernel⟩
theorem mc_X9_doors : Mc yX9_doors cX9_doors 1 (some .int) := ⟨(gt3 57 rfl rfl), (gt1 1 rfl rfl), by decide, by decide +kernel, by decide +kernel⟩
theorem lk_X9_218 : Lv RX9 218 yX9_readyToLook 9 0 := ⟨(gt3 58 rfl rfl), (gt3 60 rfl rfl), (gs1 (q := (⟨"RiddleDoors", "readyToLook", "()Z"⟩, _)) 6 rfl), by decide, by decide +kernel⟩
theorem mc_X9_readyToLook : Mc yX9_readyToLook cX9_readyToLook 1 (some .boolean) := ⟨(gt3 61 rfl rfl), (gt1 1 rfl rfl), by decide, by decide +kernel, by decide +kernel⟩
theorem lk_X9_372 : Lv RX9 372 yX3_prepare 3 2 := ⟨(gt3 62 rfl rfl), (gt3 63 rfl rfl), (gt3 64 rfl rfl), by decide, by decide +kernel⟩
theorem mc_X3_prepare : Mc yX3_prepare cX3_prepare 8 none := ⟨(gt3 65 rfl rfl), (gt1 6 rfl rfl), by decide, by decide +kernel, by decide +kernel⟩
theorem lk_X3_26 : Ls RX3 26 yJ9_min_7cf53 2 := ⟨(gt3 66 rfl rfl), (gt3 67 rfl rfl), by decide +kernel⟩
theorem mc_J9_min_7cf53 : Mc yJ9_min_7cf53 cJ9_min_7cf53 2 (some .int) := ⟨(gt3 68 rfl rfl), (gt1 16 rfl rfl), by decide, by decide +kernel, by decide +kernel⟩
theorem lk_X3_37 : Lv RX3 37 yX6_numberIn 6 2 := ⟨(gt3 69 rfl rfl), (gt3 70 rfl rfl), (gt3 71 rfl rfl), by decide, by decide +kernel⟩
theorem mc_X6_numberIn : Mc yX6_numberIn cX6_numberIn 3 (some .int) := ⟨(gt3 72 rfl rfl), (gt1 4 rfl rfl), by decide, by decide +kernel, by decide +kernel⟩
theorem lk_X9_229 : Lv RX9 229 yX3_doorsAtOnce 3 0 := ⟨(gt3 73 rfl rfl), (gt3 74 rfl rfl), (gt3 75 rfl rfl), by decide, by decide +kernel⟩
theorem mc_X3_doorsAtOnce : Mc yX3_doorsAtOnce cX3_doorsAtOnce 3 (some .int) := ⟨(gt3 76 rfl rfl), (gt1 6 rfl rfl), by decide, by decide +kernel, by decide +kernel⟩
theorem lk_X3_71 : Ls RX3 71 yJ6_bitCount_0f7a4 1 := ⟨(gt3 77 rfl rfl), (gt3 36 rfl rfl), by decide +kernel⟩
theorem lk_X3_77 : Lv RX3 77 yX3_tellsAllApart 3 1 := ⟨(gt3 78 rfl rfl), (gt3 80 rfl rfl), (gs1 (q := (⟨"RiddleDoors$Looking", "tellsAllApart", "(I)Z"⟩, _)) 7 rfl), by decide, by decide +kernel⟩
theorem mc_X3_tellsAllApart : Mc yX3_tellsAllApart cX3_tellsAllApart 3 (some .boolean) := ⟨(gt3 81 rfl rfl), (gt1 6 rfl rfl), by decide, by decide +kernel, by decide +kernel⟩
theorem lk_X3_67 : Lv RX3 67 yX3_tellsApart 3 2 := ⟨(gt3 82 rfl rfl), (gt3 84 rfl rfl), (gs1 (q := (⟨"RiddleDoors$Looking", "tellsApart", "(II)Z"⟩, _)) 8 rfl), by decide, by decide +kernel⟩
theorem mc_X3_tellsApart : Mc yX3_tellsApart cX3_tellsApart 6 (some .boolean) := ⟨(gt3 85 rfl rfl), (gt1 6 rfl rfl), by decide, by decide +kernel, by decide +kernel⟩
theorem lk_X3_44 : Lv RX3 44 yX3_allNumberings 3 0 := ⟨(gt3 86 rfl rfl), (gt3 88 rfl rfl), (gs1 (q := (⟨"RiddleDoors$Looking", "allNumberings", "()J"⟩, _)) 9 rfl), by decide, by decide +kernel⟩
theorem mc_X3_allNumberings : Mc yX3_allNumberings cX3_allNumberings 1 (some .long) := ⟨(gt3 89 rfl rfl), (gt1 6 rfl rfl), by decide, by decide +kernel, by decide +kernel⟩
theorem lk_L_224 : Lv RL 224 yX9_image 9 0 := ⟨(gt3 90 rfl rfl), (gt3 91 rfl rfl), (gt3 92 rfl rfl), by decide, by decide +kernel⟩
theorem mc_X9_image : Mc yX9_image cX9_image 1 none := ⟨(gt3 93 rfl rfl), (gt1 1 rfl rfl), by decide, by decide +kernel, by decide +kernel⟩
theorem lk_X9_264 : Lv RX9 264 yX2_copy 2 1 := ⟨(gt3 94 rfl rfl), (gt3 95 rfl rfl), (gt3 96 rfl rfl), by decide, by decide +kernel⟩
theorem mc_X2_copy : Mc yX2_copy cX2_copy 2 none := ⟨(gt3 97 rfl rfl), (gt1 3 rfl rfl), by decide, by decide +kernel, by decide +kernel⟩
theorem lk_L_228 : Lv RL 228 yX9_restore 9 0 := ⟨(gt3 101 rfl rfl), (gt3 102 rfl rfl), (gt3 103 rfl rfl), by decide, by decide +kernel⟩
theorem mc_X9_restore : Mc yX9_restore cX9_restore 1 (some .boolean) := ⟨(gt3 104 rfl rfl), (gt1 1 rfl rfl), by decide, by decide +kernel, by decide +kernel⟩
theorem lk_L_103 : Ls RL 103 yL_street 3 := ⟨(gt3 105 rfl rfl), (gt3 106 rfl rfl), by decide +kernel⟩
theorem lk_L_7 : Lv RL 7 yX9_street 9 1 := ⟨(gt3 109 rfl rfl), (gt3 110 rfl rfl), (gt3 111 rfl rfl), by decide, by decide +kernel⟩
theorem mc_X9_street : Mc yX9_street cX9_street 3 (some .int) := ⟨(gt3 112 rfl rfl), (gt1 1 rfl rfl), by decide, by decide +kernel, by decide +kernel⟩
theorem cl_X9_110 : Cond.classLink RX9 110 "java/lang/IllegalArgumentException" ∈ gw := (gt3 113 rfl rfl)
theorem lk_X9_113 : Lv RX9 113 yX5_read 5 4 := ⟨(gt3 175 rfl rfl), (gt3 176 rfl rfl), (gt3 177 rfl rfl), by decide, by decide +kernel⟩
theorem mc_X5_read : Mc yX5_read cX5_read 6 (some .boolean) := ⟨(gt3 178 rfl rfl), (gt1 8 rfl rfl), by decide, by decide +kernel, by decide +kernel⟩
theorem lk_X5_56 : Ls RX5 56 yJ9_min_7cf53 2 := ⟨(gt3 179 rfl rfl), (gt3 67 rfl rfl), by decide +kernel⟩
theorem lk_X5_62 : Lv RX5 62 yX7_clear 7 0 := ⟨(gt3 180 rfl rfl), (gt3 181 rfl rfl), (gt3 182 rfl rfl), by decide, by decide +kernel⟩
theorem mc_X7_clear : Mc yX7_clear cX7_clear 1 none := ⟨(gt3 183 rfl rfl), (gt1 2 rfl rfl), by decide, by decide +kernel, by decide +kernel⟩
theorem lk_X5_67 : Lv RX5 67 yX2_clear 2 0 := ⟨(gt3 184 rfl rfl), (gt3 185 rfl rfl), (gt3 186 rfl rfl), by decide, by decide +kernel⟩
theorem mc_X2_clear : Mc yX2_clear cX2_clear 1 none := ⟨(gt3 187 rfl rfl), (gt1 3 rfl rfl), by decide, by decide +kernel, by decide +kernel⟩
theorem lk_X2_37 : Ls RX2 37 yJ7_fill_53178 2 := ⟨(gt3 188 rfl rfl), (gt2 212 rfl rfl), by decide +kernel⟩
theorem lk_X5_70 : Lv RX5 70 yX5_cutIntoTokens 5 0 := ⟨(gt3 189 rfl rfl), (gt3 191 rfl rfl), (gs1 (q := (⟨"RiddleDoors$Reader", "cutIntoTokens", "()V"⟩, _)) 11 rfl), by decide, by decide +kernel⟩
theorem mc_X5_cutIntoTokens : Mc yX5_cutIntoTokens cX5_cutIntoTokens 5 none := ⟨(gt3 192 rfl rfl), (gt1 8 rfl rfl), by decide, by decide +kernel, by decide +kernel⟩
theorem lk_X5_89 : Ls RX5 89 yX5_isLetter 1 := ⟨(gt3 193 rfl rfl), (gt3 194 rfl rfl), by decide +kernel⟩
theorem mc_X5_isLetter : Mc yX5_isLetter cX5_isLetter 1 (some .boolean) := ⟨(gt3 195 rfl rfl), (gt1 8 rfl rfl), by decide, by decide +kernel, by decide +kernel⟩
theorem lk_X5_93 : Lv RX5 93 yX5_endOfLetters 5 1 := ⟨(gt3 196 rfl rfl), (gt3 198 rfl rfl), (gs1 (q := (⟨"RiddleDoors$Reader", "endOfLetters", "(I)I"⟩, _)) 12 rfl), by decide, by decide +kernel⟩
theorem mc_X5_endOfLetters : Mc yX5_endOfLetters cX5_endOfLetters 4 (some .int) := ⟨(gt3 199 rfl rfl), (gt1 8 rfl rfl), by decide, by decide +kernel, by decide +kernel⟩
theorem lk_X5_97 : Lv RX5 97 yX5_kindOfWord 5 2 := ⟨(gt3 200 rfl rfl), (gt3 202 rfl rfl), (gs1 (q := (⟨"RiddleDoors$Reader", "kindOfWord", "(II)I"⟩, _)) 13 rfl), by decide, by decide +kernel⟩
theorem mc_X5_kindOfWord : Mc yX5_kindOfWord cX5_kindOfWord 3 (some .int) := ⟨(gt3 203 rfl rfl), (gt1 8 rfl rfl), by decide, by decide +kernel, by decide +kernel⟩
theorem lk_X5_115 : Lv RX5 115 yX5_spells 5 3 := ⟨(gt3 205 rfl rfl), (gt3 207 rfl rfl), (gs1 (q := (⟨"RiddleDoors$Reader", "spells", "(Ljava/lang/String;II)Z"⟩, _)) 14 rfl), by decide, by decide +kernel⟩
theorem mc_X5_spells : Mc yX5_spells cX5_spells 5 (some .boolean) := ⟨(gt3 208 rfl rfl), (gt1 8 rfl rfl), by decide, by decide +kernel, by decide +kernel⟩
theorem mc_J0_length_8abf5 : Mc yJ0_length_8abf5 cJ0_length_8abf5 1 (some .int) := ⟨(gt3 212 rfl rfl), (gt1 18 rfl rfl), by decide, by decide +kernel, by decide +kernel⟩
theorem mc_J0_coder_7d493 : Mc yJ0_coder_7d493 cJ0_coder_7d493 1 (some .byte) := ⟨(gt3 216 rfl rfl), (gt1 18 rfl rfl), by decide, by decide +kernel, by decide +kernel⟩
theorem mc_J0_charAt_5068e : Mc yJ0_charAt_5068e cJ0_charAt_5068e 2 (some .char) := ⟨(gt3 222 rfl rfl), (gt1 18 rfl rfl), by decide, by decide +kernel, by decide +kernel⟩
theorem mc_J0_isLatin1_aae02 : Mc yJ0_isLatin1_aae02 cJ0_isLatin1_aae02 1 (some .boolean) := ⟨(gt3 226 rfl rfl), (gt1 18 rfl rfl), by decide, by decide +kernel, by decide +kernel⟩
theorem lk_J0_495 : Ls RJ0 495 yJ1_charAt_3b067 2 := ⟨(gt3 227 rfl rfl), (gt3 228 rfl rfl), by decide +kernel⟩
theorem mc_J1_charAt_3b067 : Mc yJ1_charAt_3b067 cJ1_charAt_3b067 2 (some .char) := ⟨(gt3 229 rfl rfl), (gt1 19 rfl rfl), by decide, by decide +kernel, by decide +kernel⟩
theorem lk_J1_9 : Ls RJ1 9 yJ0_checkIndex_df160 2 := ⟨(gt3 230 rfl rfl), (gt3 231 rfl rfl), by decide +kernel⟩
theorem mc_J0_checkIndex_df160 : Mc yJ0_checkIndex_df160 cJ0_checkIndex_df160 2 none := ⟨(gt3 232 rfl rfl), (gt1 18 rfl rfl), by decide, by decide +kernel, by decide +kernel⟩
theorem lk_J0_1059 : Ls RJ0 1059 yJ3_checkIndex_8e157 3 := ⟨(gt3 235 rfl rfl), (gt3 236 rfl rfl), by decide +kernel⟩
theorem mc_J3_checkIndex_8e157 : Mc yJ3_checkIndex_8e157 cJ3_checkIndex_8e157 3 (some .int) := ⟨(gt3 237 rfl rfl), (gt1 20 rfl rfl), by decide, by decide +kernel, by decide +kernel⟩
theorem lk_J0_498 : Ls RJ0 498 yJ2_charAt_3b067 2 := ⟨(gt3 238 rfl rfl), (gt3 239 rfl rfl), by decide +kernel⟩
theorem mc_J2_charAt_3b067 : Mc yJ2_charAt_3b067 cJ2_charAt_3b067 2 (some .char) := ⟨(gt4 0 rfl rfl), (gt1 21 rfl rfl), by decide, by decide +kernel, by decide +kernel⟩
theorem lk_J2_67 : Ls RJ2 67 yJ2_checkIndex_2214a 2 := ⟨(gt4 1 rfl rfl), (gt4 2 rfl rfl), by decide +kernel⟩
theorem mc_J2_checkIndex_2214a : Mc yJ2_checkIndex_2214a cJ2_checkIndex_2214a 2 none := ⟨(gt4 3 rfl rfl), (gt1 21 rfl rfl), by decide, by decide +kernel, by decide +kernel⟩
theorem lk_J2_48 : Ls RJ2 48 yJ2_length_9d52b 1 := ⟨(gt4 4 rfl rfl), (gt4 5 rfl rfl), by decide +kernel⟩
theorem mc_J2_length_9d52b : Mc yJ2_length_9d52b cJ2_length_9d52b 1 (some .int) := ⟨(gt4 6 rfl rfl), (gt1 21 rfl rfl), by decide, by decide +kernel, by decide +kernel⟩
theorem lk_J2_414 : Ls RJ2 414 yJ0_checkIndex_df160 2 := ⟨(gt4 7 rfl rfl), (gt3 231 rfl rfl), by decide +kernel⟩
theorem lk_J2_71 : Ls RJ2 71 yJ2_getChar_3b067 2 := ⟨(gt4 8 rfl rfl), (gt4 9 rfl rfl), by decide +kernel⟩
theorem mc_J2_getChar_3b067 : Mc yJ2_getChar_3b067 cJ2_getChar_3b067 2 (some .char) := ⟨(gt4 10 rfl rfl), (gt1 21 rfl rfl), by decide, by decide +kernel, by decide +kernel⟩
theorem lk_X5_100 : Lv RX5 100 yX5_addToken 5 3 := ⟨(gt4 29 rfl rfl), (gt4 31 rfl rfl), (gs1 (q := (⟨"RiddleDoors$Reader", "addToken", "(III)V"⟩, _)) 15 rfl), by decide, by decide +kernel⟩
theorem mc_X5_addToken : Mc yX5_addToken cX5_addToken 4 none := ⟨(gt4 32 rfl rfl), (gt1 8 rfl rfl), by decide, by decide +kernel, by decide +kernel⟩
theorem lk_X5_104 : Ls RX5 104 yX5_isDigit 1 := ⟨(gt4 33 rfl rfl), (gt4 34 rfl rfl), by decide +kernel⟩
theorem mc_X5_isDigit : Mc yX5_isDigit cX5_isDigit 1 (some .boolean) := ⟨(gt4 35 rfl rfl), (gt1 8 rfl rfl), by decide, by decide +kernel, by decide +kernel⟩
theorem lk_X5_107 : Lv RX5 107 yX5_endOfDigits 5 1 := ⟨(gt4 36 rfl rfl), (gt4 38 rfl rfl), (gs2 (q := (⟨"RiddleDoors$Reader", "endOfDigits", "(I)I"⟩, _)) 0 rfl), by decide, by decide +kernel⟩
theorem mc_X5_endOfDigits : Mc yX5_endOfDigits cX5_endOfDigits 4 (some .int) := ⟨(gt4 39 rfl rfl), (gt1 8 rfl rfl), by decide, by decide +kernel, by decide +kernel⟩
theorem lk_X5_110 : Ls RX5 110 yX5_isSign 1 := ⟨(gt4 40 rfl rfl), (gt4 41 rfl rfl), by decide +kernel⟩
theorem mc_X5_isSign : Mc yX5_isSign cX5_isSign 1 (some .boolean) := ⟨(gt4 42 rfl rfl), (gt1 8 rfl rfl), by decide, by decide +kernel, by decide +kernel⟩
theorem lk_X5_73 : Lv RX5 73 yX5_readMost 5 0 := ⟨(gt4 43 rfl rfl), (gt4 45 rfl rfl), (gs2 (q := (⟨"RiddleDoors$Reader", "readMost", "()V"⟩, _)) 1 rfl), by decide, by decide +kernel⟩
theorem mc_X5_readMost : Mc yX5_readMost cX5_readMost 1 none := ⟨(gt4 46 rfl rfl), (gt1 8 rfl rfl), by decide, by decide +kernel, by decide +kernel⟩
theorem lk_X5_82 : Lv RX5 82 yX5_fail 5 1 := ⟨(gt4 47 rfl rfl), (gt4 49 rfl rfl), (gs2 (q := (⟨"RiddleDoors$Reader", "fail", "(I)V"⟩, _)) 2 rfl), by decide, by decide +kernel⟩
theorem mc_X5_fail : Mc yX5_fail cX5_fail 2 none := ⟨(gt4 50 rfl rfl), (gt1 8 rfl rfl), by decide, by decide +kernel, by decide +kernel⟩
theorem lk_X5_152 : Lv RX5 152 yX5_next 5 0 := ⟨(gt4 51 rfl rfl), (gt4 53 rfl rfl), (gs2 (q := (⟨"RiddleDoors$Reader", "next", "()V"⟩, _)) 3 rfl), by decide, by decide +kernel⟩
theorem mc_X5_next : Mc yX5_next cX5_next 1 none := ⟨(gt4 54 rfl rfl), (gt1 8 rfl rfl), by decide, by decide +kernel, by decide +kernel⟩
theorem lk_X5_155 : Lv RX5 155 yX5_numeral 5 2 := ⟨(gt4 55 rfl rfl), (gt4 57 rfl rfl), (gs2 (q := (⟨"RiddleDoors$Reader", "numeral", "(II)I"⟩, _)) 4 rfl), by decide, by decide +kernel⟩
theorem mc_X5_numeral : Mc yX5_numeral cX5_numeral 5 (some .int) := ⟨(gt4 58 rfl rfl), (gt1 8 rfl rfl), by decide, by decide +kernel, by decide +kernel⟩
theorem lk_X5_76 : Lv RX5 76 yX5_readUnlike 5 0 := ⟨(gt4 59 rfl rfl), (gt4 61 rfl rfl), (gs2 (q := (⟨"RiddleDoors$Reader", "readUnlike", "()V"⟩, _)) 5 rfl), by decide, by decide +kernel⟩
theorem mc_X5_readUnlike : Mc yX5_readUnlike cX5_readUnlike 1 none := ⟨(gt4 62 rfl rfl), (gt1 8 rfl rfl), by decide, by decide +kernel, by decide +kernel⟩
theorem lk_X5_79 : Lv RX5 79 yX5_readHouse 5 0 := ⟨(gt4 63 rfl rfl), (gt4 65 rfl rfl), (gs2 (q := (⟨"RiddleDoors$Reader", "readHouse", "()V"⟩, _)) 6 rfl), by decide, by decide +kernel⟩
theorem mc_X5_readHouse : Mc yX5_readHouse cX5_readHouse 2 none := ⟨(gt4 66 rfl rfl), (gt1 8 rfl rfl), by decide, by decide +kernel, by decide +kernel⟩
theorem lk_X5_165 : Lv RX5 165 yX7_addHouse 7 0 := ⟨(gt4 67 rfl rfl), (gt4 68 rfl rfl), (gt4 69 rfl rfl), by decide, by decide +kernel⟩
theorem mc_X7_addHouse : Mc yX7_addHouse cX7_addHouse 1 none := ⟨(gt4 70 rfl rfl), (gt1 2 rfl rfl), by decide, by decide +kernel, by decide +kernel⟩
theorem lk_X5_168 : Lv RX5 168 yX2_put 2 3 := ⟨(gt4 71 rfl rfl), (gt2 184 rfl rfl), (gt2 185 rfl rfl), by decide, by decide +kernel⟩
theorem lk_X5_171 : Lv RX5 171 yX7_beginRiddle 7 0 := ⟨(gt4 72 rfl rfl), (gt4 73 rfl rfl), (gt4 74 rfl rfl), by decide, by decide +kernel⟩
theorem mc_X7_beginRiddle : Mc yX7_beginRiddle cX7_beginRiddle 2 none := ⟨(gt4 75 rfl rfl), (gt1 2 rfl rfl), by decide, by decide +kernel, by decide +kernel⟩
theorem lk_X5_174 : Lv RX5 174 yX5_readExpression 5 1 := ⟨(gt4 76 rfl rfl), (gt4 78 rfl rfl), (gs2 (q := (⟨"RiddleDoors$Reader", "readExpression", "(I)V"⟩, _)) 7 rfl), by decide, by decide +kernel⟩
theorem mc_X5_readExpression : Mc yX5_readExpression cX5_readExpression 3 none := ⟨(gt4 79 rfl rfl), (gt1 8 rfl rfl), by decide, by decide +kernel, by decide +kernel⟩
theorem lk_X5_180 : Lv RX5 180 yX5_readBoth 5 1 := ⟨(gt4 80 rfl rfl), (gt4 82 rfl rfl), (gs2 (q := (⟨"RiddleDoors$Reader", "readBoth", "(I)V"⟩, _)) 8 rfl), by decide, by decide +kernel⟩
theorem mc_X5_readBoth : Mc yX5_readBoth cX5_readBoth 3 none := ⟨(gt4 83 rfl rfl), (gt1 8 rfl rfl), by decide, by decide +kernel, by decide +kernel⟩
theorem lk_X5_189 : Lv RX5 189 yX5_readNot 5 1 := ⟨(gt4 84 rfl rfl), (gt4 86 rfl rfl), (gs2 (q := (⟨"RiddleDoors$Reader", "readNot", "(I)V"⟩, _)) 9 rfl), by decide, by decide +kernel⟩
theorem mc_X5_readNot : Mc yX5_readNot cX5_readNot 4 none := ⟨(gt4 87 rfl rfl), (gt1 8 rfl rfl), by decide, by decide +kernel, by decide +kernel⟩
theorem lk_X5_183 : Lv RX5 183 yX5_take 5 0 := ⟨(gt4 88 rfl rfl), (gt4 90 rfl rfl), (gs2 (q := (⟨"RiddleDoors$Reader", "take", "()V"⟩, _)) 10 rfl), by decide, by decide +kernel⟩
theorem mc_X5_take : Mc yX5_take cX5_take 1 none := ⟨(gt4 91 rfl rfl), (gt1 8 rfl rfl), by decide, by decide +kernel, by decide +kernel⟩
theorem lk_X5_177 : Lv RX5 177 yX7_addToken 7 3 := ⟨(gt4 92 rfl rfl), (gt4 93 rfl rfl), (gt4 94 rfl rfl), by decide, by decide +kernel⟩
theorem mc_X7_addToken : Mc yX7_addToken cX7_addToken 5 none := ⟨(gt4 95 rfl rfl), (gt1 2 rfl rfl), by decide, by decide +kernel, by decide +kernel⟩
theorem lk_X7_66 : Ls RX7 66 yX7_isWordly 1 := ⟨(gt4 96 rfl rfl), (gt4 97 rfl rfl), by decide +kernel⟩
theorem mc_X7_isWordly : Mc yX7_isWordly cX7_isWordly 1 (some .boolean) := ⟨(gt4 98 rfl rfl), (gt1 2 rfl rfl), by decide, by decide +kernel, by decide +kernel⟩
theorem lk_X5_192 : Lv RX5 192 yX5_readTest 5 1 := ⟨(gt4 100 rfl rfl), (gt4 102 rfl rfl), (gs2 (q := (⟨"RiddleDoors$Reader", "readTest", "(I)V"⟩, _)) 11 rfl), by decide, by decide +kernel⟩
theorem mc_X5_readTest : Mc yX5_readTest cX5_readTest 3 none := ⟨(gt4 103 rfl rfl), (gt1 8 rfl rfl), by decide, by decide +kernel, by decide +kernel⟩
theorem lk_X5_195 : Lv RX5 195 yX5_readSum 5 1 := ⟨(gt4 104 rfl rfl), (gt4 106 rfl rfl), (gs2 (q := (⟨"RiddleDoors$Reader", "readSum", "(I)V"⟩, _)) 12 rfl), by decide, by decide +kernel⟩
theorem mc_X5_readSum : Mc yX5_readSum cX5_readSum 4 none := ⟨(gt4 107 rfl rfl), (gt1 8 rfl rfl), by decide, by decide +kernel, by decide +kernel⟩
theorem lk_X5_198 : Lv RX5 198 yX5_readProduct 5 1 := ⟨(gt4 108 rfl rfl), (gt4 110 rfl rfl), (gs2 (q := (⟨"RiddleDoors$Reader", "readProduct", "(I)V"⟩, _)) 13 rfl), by decide, by decide +kernel⟩
theorem mc_X5_readProduct : Mc yX5_readProduct cX5_readProduct 4 none := ⟨(gt4 111 rfl rfl), (gt1 8 rfl rfl), by decide, by decide +kernel, by decide +kernel⟩
theorem lk_X5_201 : Lv RX5 201 yX5_readPart 5 1 := ⟨(gt4 112 rfl rfl), (gt4 114 rfl rfl), (gs2 (q := (⟨"RiddleDoors$Reader", "readPart", "(I)V"⟩, _)) 14 rfl), by decide, by decide +kernel⟩
theorem mc_X5_readPart : Mc yX5_readPart cX5_readPart 2 none := ⟨(gt4 115 rfl rfl), (gt1 8 rfl rfl), by decide, by decide +kernel, by decide +kernel⟩
theorem lk_X5_186 : Lv RX5 186 yX7_addCode 7 1 := ⟨(gt4 116 rfl rfl), (gt4 117 rfl rfl), (gt4 118 rfl rfl), by decide, by decide +kernel⟩
theorem mc_X7_addCode : Mc yX7_addCode cX7_addCode 2 none := ⟨(gt4 119 rfl rfl), (gt1 2 rfl rfl), by decide, by decide +kernel, by decide +kernel⟩
theorem lk_X5_204 : Lv RX5 204 yX5_codeOfValue 5 0 := ⟨(gt4 120 rfl rfl), (gt4 122 rfl rfl), (gs2 (q := (⟨"RiddleDoors$Reader", "codeOfValue", "()I"⟩, _)) 15 rfl), by decide, by decide +kernel⟩
theorem mc_X5_codeOfValue : Mc yX5_codeOfValue cX5_codeOfValue 2 (some .int) := ⟨(gt4 123 rfl rfl), (gt1 8 rfl rfl), by decide, by decide +kernel, by decide +kernel⟩
theorem lk_X5_86 : Lv RX5 86 yX5_pass 5 1 := ⟨(gt4 124 rfl rfl), (gt4 126 rfl rfl), (gs3 (q := (⟨"RiddleDoors$Reader", "pass", "(I)V"⟩, _)) 0 rfl), by decide, by decide +kernel⟩
theorem mc_X5_pass : Mc yX5_pass cX5_pass 2 none := ⟨(gt4 127 rfl rfl), (gt1 8 rfl rfl), by decide, by decide +kernel, by decide +kernel⟩
theorem lk_X9_121 : Lv RX9 121 yX9_moveIn 9 0 := ⟨(gt4 128 rfl rfl), (gt4 130 rfl rfl), (gs3 (q := (⟨"RiddleDoors", "moveIn", "()V"⟩, _)) 1 rfl), by decide, by decide +kernel⟩
theorem mc_X9_moveIn : Mc yX9_moveIn cX9_moveIn 3 none := ⟨(gt4 131 rfl rfl), (gt1 1 rfl rfl), by decide, by decide +kernel, by decide +kernel⟩
theorem lk_L_117 : Ls RL 117 yL_count 3 := ⟨(gt4 132 rfl rfl), (gt4 133 rfl rfl), by decide +kernel⟩
theorem lk_L_15 : Lv RL 15 yX9_count 9 1 := ⟨(gt4 136 rfl rfl), (gt4 137 rfl rfl), (gt4 138 rfl rfl), by decide, by decide +kernel⟩
theorem mc_X9_count : Mc yX9_count cX9_count 2 (some .int) := ⟨(gt4 139 rfl rfl), (gt1 1 rfl rfl), by decide, by decide +kernel, by decide +kernel⟩
theorem cl_X9_139 : Cond.classLink RX9 139 "java/util/NoSuchElementException" ∈ gw := (gt4 140 rfl rfl)
theorem lk_L_120 : Ls RL 120 yL_house 4 := ⟨(gt4 155 rfl rfl), (gt4 156 rfl rfl), by decide +kernel⟩
theorem lk_L_20 : Lv RL 20 yX9_house 9 2 := ⟨(gt4 158 rfl rfl), (gt4 159 rfl rfl), (gt4 160 rfl rfl), by decide, by decide +kernel⟩
theorem mc_X9_house : Mc yX9_house cX9_house 3 (some .int) := ⟨(gt4 161 rfl rfl), (gt1 1 rfl rfl), by decide, by decide +kernel, by decide +kernel⟩
theorem lk_X9_142 : Lv RX9 142 yX9_mustBeHouse 9 1 := ⟨(gt4 162 rfl rfl), (gt4 164 rfl rfl), (gs3 (q := (⟨"RiddleDoors", "mustBeHouse", "(I)V"⟩, _)) 2 rfl), by decide, by decide +kernel⟩
theorem mc_X9_mustBeHouse : Mc yX9_mustBeHouse cX9_mustBeHouse 2 none := ⟨(gt4 165 rfl rfl), (gt1 1 rfl rfl), by decide, by decide +kernel, by decide +kernel⟩
theorem lk_X9_151 : Lv RX9 151 yX7_hasRiddle 7 1 := ⟨(gt4 166 rfl rfl), (gt4 167 rfl rfl), (gt4 168 rfl rfl), by decide, by decide +kernel⟩
theorem mc_X7_hasRiddle : Mc yX7_hasRiddle cX7_hasRiddle 2 (some .boolean) := ⟨(gt4 169 rfl rfl), (gt1 2 rfl rfl), by decide, by decide +kernel, by decide +kernel⟩
theorem lk_X9_158 : Lv RX9 158 yX7_looksAt 7 1 := ⟨(gt4 170 rfl rfl), (gt2 219 rfl rfl), (gt2 220 rfl rfl), by decide, by decide +kernel⟩
theorem lk_L_124 : Ls RL 124 yL_become 5 := ⟨(gt4 171 rfl rfl), (gt4 172 rfl rfl), by decide +kernel⟩
theorem lk_L_24 : Lv RL 24 yX9_become 9 3 := ⟨(gt4 174 rfl rfl), (gt4 175 rfl rfl), (gt4 176 rfl rfl), by decide, by decide +kernel⟩
theorem mc_X9_become : Mc yX9_become cX9_become 5 (some .int) := ⟨(gt4 177 rfl rfl), (gt1 1 rfl rfl), by decide, by decide +kernel, by decide +kernel⟩
theorem lk_X9_162 : Lv RX9 162 yX9_mustBeWhat 9 2 := ⟨(gt4 178 rfl rfl), (gt4 180 rfl rfl), (gs3 (q := (⟨"RiddleDoors", "mustBeWhat", "(II)V"⟩, _)) 3 rfl), by decide, by decide +kernel⟩
theorem mc_X9_mustBeWhat : Mc yX9_mustBeWhat cX9_mustBeWhat 3 none := ⟨(gt4 181 rfl rfl), (gt1 1 rfl rfl), by decide, by decide +kernel, by decide +kernel⟩
theorem lk_X9_166 : Lv RX9 166 yX2_had 2 2 := ⟨(gt4 182 rfl rfl), (gt4 183 rfl rfl), (gt4 184 rfl rfl), by decide, by decide +kernel⟩
theorem mc_X2_had : Mc yX2_had cX2_had 3 (some .int) := ⟨(gt4 185 rfl rfl), (gt1 3 rfl rfl), by decide, by decide +kernel, by decide +kernel⟩
theorem lk_X9_170 : Lv RX9 170 yX2_act 2 3 := ⟨(gt4 186 rfl rfl), (gt4 187 rfl rfl), (gt4 188 rfl rfl), by decide, by decide +kernel⟩
theorem mc_X2_act : Mc yX2_act cX2_act 4 none := ⟨(gt4 189 rfl rfl), (gt1 3 rfl rfl), by decide, by decide +kernel, by decide +kernel⟩
theorem lk_X2_49 : Lv RX2 49 yX2_had 2 2 := ⟨(gt4 190 rfl rfl), (gt4 183 rfl rfl), (gt4 184 rfl rfl), by decide, by decide +kernel⟩
theorem lk_L_128 : Ls RL 128 yL_mute 4 := ⟨(gt4 191 rfl rfl), (gt4 192 rfl rfl), by decide +kernel⟩
theorem lk_L_28 : Lv RL 28 yX9_mute 9 2 := ⟨(gt4 194 rfl rfl), (gt4 195 rfl rfl), (gt4 196 rfl rfl), by decide, by decide +kernel⟩
theorem mc_X9_mute : Mc yX9_mute cX9_mute 4 (some .boolean) := ⟨(gt4 197 rfl rfl), (gt1 1 rfl rfl), by decide, by decide +kernel, by decide +kernel⟩
theorem lk_L_136 : Ls RL 136 yL_letter 4 := ⟨(gt4 198 rfl rfl), (gt4 199 rfl rfl), by decide +kernel⟩
theorem lk_L_32 : Lv RL 32 yX9_letter 9 2 := ⟨(gt4 201 rfl rfl), (gt4 202 rfl rfl), (gt4 203 rfl rfl), by decide, by decide +kernel⟩
theorem mc_X9_letter : Mc yX9_letter cX9_letter 3 (some .int) := ⟨(gt4 204 rfl rfl), (gt1 1 rfl rfl), by decide, by decide +kernel, by decide +kernel⟩
theorem lk_X9_180 : Lv RX9 180 yX2_addLetter 2 2 := ⟨(gt4 205 rfl rfl), (gt4 206 rfl rfl), (gt4 207 rfl rfl), by decide, by decide +kernel⟩
theorem mc_X2_addLetter : Mc yX2_addLetter cX2_addLetter 3 none := ⟨(gt4 208 rfl rfl), (gt1 3 rfl rfl), by decide, by decide +kernel, by decide +kernel⟩
theorem lk_L_151 : Ls RL 151 yL_number 4 := ⟨(gt4 209 rfl rfl), (gt4 210 rfl rfl), by decide +kernel⟩
theorem lk_L_35 : Lv RL 35 yX9_number 9 2 := ⟨(gt4 212 rfl rfl), (gt4 213 rfl rfl), (gt4 214 rfl rfl), by decide, by decide +kernel⟩
theorem mc_X9_number : Mc yX9_number cX9_number 3 (some .int) := ⟨(gt4 215 rfl rfl), (gt1 1 rfl rfl), by decide, by decide +kernel, by decide +kernel⟩
theorem lk_X9_192 : Lv RX9 192 yX6_numberIn 6 2 := ⟨(gt4 216 rfl rfl), (gt3 70 rfl rfl), (gt3 71 rfl rfl), by decide, by decide +kernel⟩
theorem lk_L_154 : Ls RL 154 yL_may 3 := ⟨(gt4 217 rfl rfl), (gt4 218 rfl rfl), by decide +kernel⟩
theorem lk_L_38 : Lv RL 38 yX9_may 9 1 := ⟨(gt4 220 rfl rfl), (gt4 221 rfl rfl), (gt4 222 rfl rfl), by decide, by decide +kernel⟩
theorem mc_X9_may : Mc yX9_may cX9_may 2 (some .int) := ⟨(gt4 223 rfl rfl), (gt1 1 rfl rfl), by decide, by decide +kernel, by decide +kernel⟩
theorem lk_L_159 : Ls RL 159 yL_holds 4 := ⟨(gt4 224 rfl rfl), (gt4 225 rfl rfl), by decide +kernel⟩
theorem lk_L_41 : Lv RL 41 yX9_holds 9 2 := ⟨(gt4 227 rfl rfl), (gt4 228 rfl rfl), (gt4 229 rfl rfl), by decide, by decide +kernel⟩
theorem mc_X9_holds : Mc yX9_holds cX9_holds 4 (some .int) := ⟨(gt4 230 rfl rfl), (gt1 1 rfl rfl), by decide, by decide +kernel, by decide +kernel⟩
theorem lk_X9_200 : Lv RX9 200 yX6_giveRow 6 2 := ⟨(gt4 231 rfl rfl), (gt4 232 rfl rfl), (gt4 233 rfl rfl), by decide, by decide +kernel⟩
theorem mc_X6_giveRow : Mc yX6_giveRow cX6_giveRow 6 (some .boolean) := ⟨(gt4 234 rfl rfl), (gt1 4 rfl rfl), by decide, by decide +kernel, by decide +kernel⟩
theorem lk_X9_207 : Lv RX9 207 yX7_valueOf 7 3 := ⟨(gt4 235 rfl rfl), (gt3 12 rfl rfl), (gt3 13 rfl rfl), by decide, by decide +kernel⟩
theorem lk_L_171 : Ls RL 171 yL_looks 3 := ⟨(gt4 236 rfl rfl), (gt4 237 rfl rfl), by decide +kernel⟩
theorem lk_L_45 : Lv RL 45 yX9_looks 9 1 := ⟨(gt4 239 rfl rfl), (gt5 0 rfl rfl), (gt5 1 rfl rfl), by decide, by decide +kernel⟩
theorem mc_X9_looks : Mc yX9_looks cX9_looks 3 (some .int) := ⟨(gt5 2 rfl rfl), (gt1 1 rfl rfl), by decide, by decide +kernel, by decide +kernel⟩
theorem lk_X9_222 : Lv RX9 222 yX3_fewestLooks 3 0 := ⟨(gt5 3 rfl rfl), (gt5 4 rfl rfl), (gt5 5 rfl rfl), by decide, by decide +kernel⟩
theorem mc_X3_fewestLooks : Mc yX3_fewestLooks cX3_fewestLooks 4 (some .int) := ⟨(gt5 6 rfl rfl), (gt1 6 rfl rfl), by decide, by decide +kernel, by decide +kernel⟩
theorem lk_X3_40 : Lv RX3 40 yX3_scratchRow 3 0 := ⟨(gt5 7 rfl rfl), (gt5 8 rfl rfl), (gt5 9 rfl rfl), by decide, by decide +kernel⟩
theorem mc_X3_scratchRow : Mc yX3_scratchRow cX3_scratchRow 1 (some (.array .int)) := ⟨(gt5 10 rfl rfl), (gt1 6 rfl rfl), by decide, by decide +kernel, by decide +kernel⟩
theorem lk_X3_48 : Lv RX3 48 yX3_fewestLooksAmong 3 2 := ⟨(gt5 11 rfl rfl), (gt5 13 rfl rfl), (gs3 (q := (⟨"RiddleDoors$Looking", "fewestLooksAmong", "(JI)I"⟩, _)) 4 rfl), by decide, by decide +kernel⟩
theorem mc_X3_fewestLooksAmong : Mc yX3_fewestLooksAmong cX3_fewestLooksAmong 8 (some .int) := ⟨(gt5 14 rfl rfl), (gt1 6 rfl rfl), by decide, by decide +kernel, by decide +kernel⟩
theorem lk_X3_56 : Ls RX3 56 yJ13_numberOfTrailingZeros_95d88 1 := ⟨(gt5 15 rfl rfl), (gt5 16 rfl rfl), by decide +kernel⟩
theorem mc_J13_numberOfTrailingZeros_95d88 : Mc yJ13_numberOfTrailingZeros_95d88 cJ13_numberOfTrailingZeros_95d88 3 (some .int) := ⟨(gt5 17 rfl rfl), (gt1 26 rfl rfl), by decide, by decide +kernel, by decide +kernel⟩
theorem lk_J13_311 : Ls RJ13 311 yJ6_numberOfTrailingZeros_0f7a4 1 := ⟨(gt5 18 rfl rfl), (gt5 19 rfl rfl), by decide +kernel⟩
theorem mc_J6_numberOfTrailingZeros_0f7a4 : Mc yJ6_numberOfTrailingZeros_0f7a4 cJ6_numberOfTrailingZeros_0f7a4 2 (some .int) := ⟨(gt5 20 rfl rfl), (gt1 25 rfl rfl), by decide, by decide +kernel, by decide +kernel⟩
theorem lk_X3_52 : Lv RX3 52 yX3_worstBehind 3 3 := ⟨(gt5 21 rfl rfl), (gt5 23 rfl rfl), (gs3 (q := (⟨"RiddleDoors$Looking", "worstBehind", "(IJI)I"⟩, _)) 5 rfl), by decide, by decide +kernel⟩
theorem mc_X3_worstBehind : Mc yX3_worstBehind cX3_worstBehind 11 (some .int) := ⟨(gt5 24 rfl rfl), (gt1 6 rfl rfl), by decide, by decide +kernel, by decide +kernel⟩
theorem lk_X3_62 : Ls RX3 62 yJ9_max_7cf53 2 := ⟨(gt5 25 rfl rfl), (gt5 26 rfl rfl), by decide +kernel⟩
theorem mc_J9_max_7cf53 : Mc yJ9_max_7cf53 cJ9_max_7cf53 2 (some .int) := ⟨(gt5 27 rfl rfl), (gt1 16 rfl rfl), by decide, by decide +kernel, by decide +kernel⟩
theorem lc_X3_65 : Cond.constantLong RX3 65 (-1) ∈ gw := (gt5 28 rfl rfl)
theorem lk_X9_226 : Lv RX9 226 yX3_firstDoor 3 1 := ⟨(gt5 29 rfl rfl), (gt5 30 rfl rfl), (gt5 31 rfl rfl), by decide, by decide +kernel⟩
theorem mc_X3_firstDoor : Mc yX3_firstDoor cX3_firstDoor 3 (some .int) := ⟨(gt5 32 rfl rfl), (gt1 6 rfl rfl), by decide, by decide +kernel, by decide +kernel⟩
theorem lk_L_178 : Ls RL 178 yL_hints 3 := ⟨(gt5 33 rfl rfl), (gt5 34 rfl rfl), by decide +kernel⟩
theorem lk_L_48 : Lv RL 48 yX9_hints 9 1 := ⟨(gt5 36 rfl rfl), (gt5 37 rfl rfl), (gt5 38 rfl rfl), by decide, by decide +kernel⟩
theorem mc_X9_hints : Mc yX9_hints cX9_hints 2 (some .int) := ⟨(gt5 39 rfl rfl), (gt1 1 rfl rfl), by decide, by decide +kernel, by decide +kernel⟩
theorem lk_X9_232 : Lv RX9 232 yX3_hintsFor 3 1 := ⟨(gt5 40 rfl rfl), (gt5 41 rfl rfl), (gt5 42 rfl rfl), by decide, by decide +kernel⟩
theorem mc_X3_hintsFor : Mc yX3_hintsFor cX3_hintsFor 4 (some .int) := ⟨(gt5 43 rfl rfl), (gt1 6 rfl rfl), by decide, by decide +kernel, by decide +kernel⟩
theorem lk_L_181 : Ls RL 181 yL_post 4 := ⟨(gt5 44 rfl rfl), (gt5 45 rfl rfl), by decide +kernel⟩
theorem lk_L_51 : Lv RL 51 yX9_post 9 2 := ⟨(gt5 47 rfl rfl), (gt5 48 rfl rfl), (gt5 49 rfl rfl), by decide, by decide +kernel⟩
theorem mc_X9_post : Mc yX9_post cX9_post 6 (some .int) := ⟨(gt5 50 rfl rfl), (gt1 1 rfl rfl), by decide, by decide +kernel, by decide +kernel⟩
theorem lk_X9_235 : Lv RX9 235 yX9_mustBeNumber 9 1 := ⟨(gt5 51 rfl rfl), (gt5 53 rfl rfl), (gs3 (q := (⟨"RiddleDoors", "mustBeNumber", "(I)V"⟩, _)) 6 rfl), by decide, by decide +kernel⟩
theorem mc_X9_mustBeNumber : Mc yX9_mustBeNumber cX9_mustBeNumber 2 none := ⟨(gt5 54 rfl rfl), (gt1 1 rfl rfl), by decide, by decide +kernel, by decide +kernel⟩
theorem lk_X9_238 : Ls RX9 238 yJ6_numberOfTrailingZeros_0f7a4 1 := ⟨(gt5 55 rfl rfl), (gt5 19 rfl rfl), by decide +kernel⟩
theorem lk_X9_243 : Ls RX9 243 yJ6_numberOfLeadingZeros_0f7a4 1 := ⟨(gt5 56 rfl rfl), (gt2 227 rfl rfl), by decide +kernel⟩
theorem lk_X9_246 : Ls RX9 246 yJ9_abs_0f7a4 1 := ⟨(gt5 57 rfl rfl), (gt5 58 rfl rfl), by decide +kernel⟩
theorem mc_J9_abs_0f7a4 : Mc yJ9_abs_0f7a4 cJ9_abs_0f7a4 1 (some .int) := ⟨(gt5 59 rfl rfl), (gt1 16 rfl rfl), by decide, by decide +kernel, by decide +kernel⟩
theorem lk_X9_251 : Ls RX9 251 yJ9_min_7cf53 2 := ⟨(gt5 60 rfl rfl), (gt3 67 rfl rfl), by decide +kernel⟩
theorem lk_L_184 : Ls RL 184 yL_feud 5 := ⟨(gt5 61 rfl rfl), (gt5 62 rfl rfl), by decide +kernel⟩
theorem lk_L_54 : Lv RL 54 yX9_feud 9 3 := ⟨(gt5 64 rfl rfl), (gt5 65 rfl rfl), (gt5 66 rfl rfl), by decide, by decide +kernel⟩
theorem mc_X9_feud : Mc yX9_feud cX9_feud 4 (some .int) := ⟨(gt5 67 rfl rfl), (gt1 1 rfl rfl), by decide, by decide +kernel, by decide +kernel⟩
theorem lk_X9_254 : Lv RX9 254 yX0_gainsOfFeud 0 4 := ⟨(gt5 68 rfl rfl), (gt5 69 rfl rfl), (gt5 70 rfl rfl), by decide, by decide +kernel⟩
theorem mc_X0_gainsOfFeud : Mc yX0_gainsOfFeud cX0_gainsOfFeud 9 (some .boolean) := ⟨(gt5 71 rfl rfl), (gt1 5 rfl rfl), by decide, by decide +kernel, by decide +kernel⟩
theorem lk_X0_66 : Lv RX0 66 yX6_seekAll 6 0 := ⟨(gt5 72 rfl rfl), (gt2 235 rfl rfl), (gt2 236 rfl rfl), by decide, by decide +kernel⟩
theorem lk_X9_258 : Lv RX9 258 yX0_restingCouples 0 0 := ⟨(gt5 73 rfl rfl), (gt5 74 rfl rfl), (gt5 75 rfl rfl), by decide, by decide +kernel⟩
theorem mc_X0_restingCouples : Mc yX0_restingCouples cX0_restingCouples 3 (some .int) := ⟨(gt5 76 rfl rfl), (gt1 5 rfl rfl), by decide, by decide +kernel, by decide +kernel⟩
theorem lk_X0_73 : Lv RX0 73 yX0_rests 0 1 := ⟨(gt5 77 rfl rfl), (gt5 79 rfl rfl), (gs3 (q := (⟨"RiddleDoors$Asking", "rests", "(I)Z"⟩, _)) 7 rfl), by decide, by decide +kernel⟩
theorem mc_X0_rests : Mc yX0_rests cX0_rests 2 (some .boolean) := ⟨(gt5 80 rfl rfl), (gt1 5 rfl rfl), by decide, by decide +kernel, by decide +kernel⟩
theorem lk_X9_261 : Lv RX9 261 yX0_firstRestingCouple 0 0 := ⟨(gt5 81 rfl rfl), (gt5 82 rfl rfl), (gt5 83 rfl rfl), by decide, by decide +kernel⟩
theorem mc_X0_firstRestingCouple : Mc yX0_firstRestingCouple cX0_firstRestingCouple 2 (some .int) := ⟨(gt5 84 rfl rfl), (gt1 5 rfl rfl), by decide, by decide +kernel, by decide +kernel⟩
theorem lk_L_187 : Ls RL 187 yL_years 4 := ⟨(gt5 85 rfl rfl), (gt5 86 rfl rfl), by decide +kernel⟩
theorem lk_L_57 : Lv RL 57 yX9_years 9 2 := ⟨(gt5 88 rfl rfl), (gt5 89 rfl rfl), (gt5 90 rfl rfl), by decide, by decide +kernel⟩
theorem mc_X9_years : Mc yX9_years cX9_years 7 (some .int) := ⟨(gt5 91 rfl rfl), (gt1 1 rfl rfl), by decide, by decide +kernel, by decide +kernel⟩
theorem lk_X9_268 : Lv RX9 268 yX1_start 1 1 := ⟨(gt5 92 rfl rfl), (gt5 93 rfl rfl), (gt5 94 rfl rfl), by decide, by decide +kernel⟩
theorem mc_X1_start : Mc yX1_start cX1_start 2 none := ⟨(gt5 95 rfl rfl), (gt1 9 rfl rfl), by decide, by decide +kernel, by decide +kernel⟩
theorem lk_X9_271 : Lv RX9 271 yX1_next 1 1 := ⟨(gt5 96 rfl rfl), (gt5 97 rfl rfl), (gt5 98 rfl rfl), by decide, by decide +kernel⟩
theorem mc_X1_next : Mc yX1_next cX1_next 2 (some .int) := ⟨(gt5 99 rfl rfl), (gt1 9 rfl rfl), by decide, by decide +kernel, by decide +kernel⟩
theorem ic_X1_13 : Cond.constant RX1 13 (1103515245) ∈ gw := (gt5 100 rfl rfl)
theorem lk_X9_274 : Lv RX9 274 yX2_put 2 3 := ⟨(gt5 101 rfl rfl), (gt2 184 rfl rfl), (gt2 185 rfl rfl), by decide, by decide +kernel⟩
theorem lk_X9_277 : Lv RX9 277 yX0_upToTwo 0 2 := ⟨(gt5 102 rfl rfl), (gt5 103 rfl rfl), (gt5 104 rfl rfl), by decide, by decide +kernel⟩
theorem mc_X0_upToTwo : Mc yX0_upToTwo cX0_upToTwo 3 (some .int) := ⟨(gt5 105 rfl rfl), (gt1 5 rfl rfl), by decide, by decide +kernel, by decide +kernel⟩
theorem lk_L_190 : Ls RL 190 yL_proof 3 := ⟨(gt5 106 rfl rfl), (gt5 107 rfl rfl), by decide +kernel⟩
theorem lk_L_60 : Lv RL 60 yX9_proof 9 1 := ⟨(gt5 109 rfl rfl), (gt5 110 rfl rfl), (gt5 111 rfl rfl), by decide, by decide +kernel⟩
theorem mc_X9_proof : Mc yX9_proof cX9_proof 2 (some .int) := ⟨(gt5 112 rfl rfl), (gt1 1 rfl rfl), by decide, by decide +kernel, by decide +kernel⟩
theorem lk_X9_280 : Lv RX9 280 yX0_smallestProof 0 3 := ⟨(gt5 113 rfl rfl), (gt5 114 rfl rfl), (gt5 115 rfl rfl), by decide, by decide +kernel⟩
theorem mc_X0_smallestProof : Mc yX0_smallestProof cX0_smallestProof 8 (some .int) := ⟨(gt5 116 rfl rfl), (gt1 5 rfl rfl), by decide, by decide +kernel, by decide +kernel⟩
theorem lk_X0_55 : Lv RX0 55 yX0_makesSure 0 1 := ⟨(gt5 117 rfl rfl), (gt5 119 rfl rfl), (gs3 (q := (⟨"RiddleDoors$Asking", "makesSure", "(I)I"⟩, _)) 8 rfl), by decide, by decide +kernel⟩
theorem mc_X0_makesSure : Mc yX0_makesSure cX0_makesSure 4 (some .int) := ⟨(gt5 120 rfl rfl), (gt1 5 rfl rfl), by decide, by decide +kernel, by decide +kernel⟩
theorem lk_X0_58 : Lv RX0 58 yX6_numberIn 6 2 := ⟨(gt5 121 rfl rfl), (gt3 70 rfl rfl), (gt3 71 rfl rfl), by decide, by decide +kernel⟩
theorem lk_X0_62 : Lv RX0 62 yX6_bar 6 2 := ⟨(gt5 122 rfl rfl), (gt5 123 rfl rfl), (gt5 124 rfl rfl), by decide, by decide +kernel⟩
theorem mc_X6_bar : Mc yX6_bar cX6_bar 3 none := ⟨(gt5 125 rfl rfl), (gt1 4 rfl rfl), by decide, by decide +kernel, by decide +kernel⟩
theorem lk_L_193 : Ls RL 193 yL_build 3 := ⟨(gt5 126 rfl rfl), (gt5 127 rfl rfl), by decide +kernel⟩
theorem lk_L_63 : Lv RL 63 yX9_build 9 1 := ⟨(gt5 129 rfl rfl), (gt5 130 rfl rfl), (gt5 131 rfl rfl), by decide, by decide +kernel⟩
theorem mc_X9_build : Mc yX9_build cX9_build 2 (some .int) := ⟨(gt5 132 rfl rfl), (gt1 1 rfl rfl), by decide, by decide +kernel, by decide +kernel⟩
theorem lk_X9_284 : Lv RX9 284 yX7_copy 7 1 := ⟨(gt5 133 rfl rfl), (gt5 134 rfl rfl), (gt5 135 rfl rfl), by decide, by decide +kernel⟩
theorem mc_X7_copy : Mc yX7_copy cX7_copy 2 none := ⟨(gt5 136 rfl rfl), (gt1 2 rfl rfl), by decide, by decide +kernel, by decide +kernel⟩
theorem lk_X9_287 : Lv RX9 287 yX7_addHouse 7 0 := ⟨(gt5 137 rfl rfl), (gt4 68 rfl rfl), (gt4 69 rfl rfl), by decide, by decide +kernel⟩
theorem lk_X9_290 : Lv RX9 290 yX0_tryNewRiddles 0 2 := ⟨(gt5 138 rfl rfl), (gt5 139 rfl rfl), (gt5 140 rfl rfl), by decide, by decide +kernel⟩
theorem mc_X0_tryNewRiddles : Mc yX0_tryNewRiddles cX0_tryNewRiddles 7 (some .boolean) := ⟨(gt5 141 rfl rfl), (gt1 5 rfl rfl), by decide, by decide +kernel, by decide +kernel⟩
theorem lk_X0_83 : Lv RX0 83 yX7_beginRiddle 7 0 := ⟨(gt5 142 rfl rfl), (gt4 73 rfl rfl), (gt4 74 rfl rfl), by decide, by decide +kernel⟩
theorem lk_X0_86 : Lv RX0 86 yX7_addCode 7 1 := ⟨(gt5 143 rfl rfl), (gt4 117 rfl rfl), (gt4 118 rfl rfl), by decide, by decide +kernel⟩
theorem lk_X0_90 : Lv RX0 90 yX0_countRiddle 0 3 := ⟨(gt5 144 rfl rfl), (gt5 146 rfl rfl), (gs3 (q := (⟨"RiddleDoors$Asking", "countRiddle", "(LRiddleDoors$Street;LRiddleDoors$Life;I)Z"⟩, _)) 9 rfl), by decide, by decide +kernel⟩
theorem mc_X0_countRiddle : Mc yX0_countRiddle cX0_countRiddle 5 (some .boolean) := ⟨(gt5 147 rfl rfl), (gt1 5 rfl rfl), by decide, by decide +kernel, by decide +kernel⟩
theorem lk_X0_94 : Lv RX0 94 yX0_beginRiddleOfTwo 0 3 := ⟨(gt5 148 rfl rfl), (gt5 150 rfl rfl), (gs3 (q := (⟨"RiddleDoors$Asking", "beginRiddleOfTwo", "(LRiddleDoors$Street;II)V"⟩, _)) 10 rfl), by decide, by decide +kernel⟩
theorem mc_X0_beginRiddleOfTwo : Mc yX0_beginRiddleOfTwo cX0_beginRiddleOfTwo 4 none := ⟨(gt5 151 rfl rfl), (gt1 5 rfl rfl), by decide, by decide +kernel, by decide +kernel⟩
theorem lk_L_196 : Ls RL 196 yL_changed 6 := ⟨(gt5 152 rfl rfl), (gt5 153 rfl rfl), by decide +kernel⟩
theorem lk_L_66 : Lv RL 66 yX9_changed 9 4 := ⟨(gt5 155 rfl rfl), (gt5 156 rfl rfl), (gt5 157 rfl rfl), by decide, by decide +kernel⟩
theorem mc_X9_changed : Mc yX9_changed cX9_changed 6 (some .int) := ⟨(gt5 158 rfl rfl), (gt1 1 rfl rfl), by decide, by decide +kernel, by decide +kernel⟩
theorem lk_X9_311 : Lv RX9 311 yX9_housesChanged 9 1 := ⟨(gt5 159 rfl rfl), (gt5 161 rfl rfl), (gs3 (q := (⟨"RiddleDoors", "housesChanged", "(LRiddleDoors$Search;)I"⟩, _)) 11 rfl), by decide, by decide +kernel⟩
theorem mc_X9_housesChanged : Mc yX9_housesChanged cX9_housesChanged 4 (some .int) := ⟨(gt5 162 rfl rfl), (gt1 1 rfl rfl), by decide, by decide +kernel, by decide +kernel⟩
theorem lk_X9_315 : Lv RX9 315 yX9_farFromNow 9 1 := ⟨(gt5 163 rfl rfl), (gt5 165 rfl rfl), (gs3 (q := (⟨"RiddleDoors", "farFromNow", "(LRiddleDoors$Search;)I"⟩, _)) 12 rfl), by decide, by decide +kernel⟩
theorem mc_X9_farFromNow : Mc yX9_farFromNow cX9_farFromNow 4 (some .int) := ⟨(gt5 166 rfl rfl), (gt1 1 rfl rfl), by decide, by decide +kernel, by decide +kernel⟩
theorem lk_L_200 : Ls RL 200 yL_walk 5 := ⟨(gt5 167 rfl rfl), (gt5 168 rfl rfl), by decide +kernel⟩
theorem lk_L_70 : Lv RL 70 yX9_walk 9 3 := ⟨(gt5 170 rfl rfl), (gt5 171 rfl rfl), (gt5 172 rfl rfl), by decide, by decide +kernel⟩
theorem mc_X9_walk : Mc yX9_walk cX9_walk 6 (some .int) := ⟨(gt5 173 rfl rfl), (gt1 1 rfl rfl), by decide, by decide +kernel, by decide +kernel⟩
theorem lk_X9_318 : Lv RX9 318 yX7_allHouses 7 0 := ⟨(gt5 174 rfl rfl), (gt2 223 rfl rfl), (gt2 224 rfl rfl), by decide, by decide +kernel⟩
theorem lk_X9_321 : Lv RX9 321 yX3_scratchRow 3 0 := ⟨(gt5 175 rfl rfl), (gt5 8 rfl rfl), (gt5 9 rfl rfl), by decide, by decide +kernel⟩
theorem lk_X9_325 : Lv RX9 325 yX8_walkTo 8 4 := ⟨(gt5 176 rfl rfl), (gt5 177 rfl rfl), (gt5 178 rfl rfl), by decide, by decide +kernel⟩
theorem mc_X8_walkTo : Mc yX8_walkTo cX8_walkTo 7 (some .int) := ⟨(gt5 179 rfl rfl), (gt1 7 rfl rfl), by decide, by decide +kernel, by decide +kernel⟩
theorem lk_X8_35 : Ls RX8 35 yJ6_bitCount_0f7a4 1 := ⟨(gt5 180 rfl rfl), (gt3 36 rfl rfl), by decide +kernel⟩
theorem lk_X8_41 : Lv RX8 41 yX8_shortestFrom 8 2 := ⟨(gt5 181 rfl rfl), (gt5 183 rfl rfl), (gs3 (q := (⟨"RiddleDoors$Walking", "shortestFrom", "(II)I"⟩, _)) 13 rfl), by decide, by decide +kernel⟩
theorem mc_X8_shortestFrom : Mc yX8_shortestFrom cX8_shortestFrom 5 (some .int) := ⟨(gt5 184 rfl rfl), (gt1 7 rfl rfl), by decide, by decide +kernel, by decide +kernel⟩
theorem ic_X8_49 : Cond.constant RX8 49 (2147483647) ∈ gw := (gt5 185 rfl rfl)
theorem lk_X8_50 : Lv RX8 50 yX8_lengthBy 8 3 := ⟨(gt5 186 rfl rfl), (gt5 188 rfl rfl), (gs3 (q := (⟨"RiddleDoors$Walking", "lengthBy", "(III)I"⟩, _)) 14 rfl), by decide, by decide +kernel⟩
theorem mc_X8_lengthBy : Mc yX8_lengthBy cX8_lengthBy 4 (some .int) := ⟨(gt5 189 rfl rfl), (gt1 7 rfl rfl), by decide, by decide +kernel, by decide +kernel⟩
theorem lk_X8_59 : Lv RX8 59 yX8_far 8 2 := ⟨(gt5 190 rfl rfl), (gt5 192 rfl rfl), (gs3 (q := (⟨"RiddleDoors$Walking", "far", "(II)I"⟩, _)) 15 rfl), by decide, by decide +kernel⟩
theorem mc_X8_far : Mc yX8_far cX8_far 3 (some .int) := ⟨(gt5 193 rfl rfl), (gt1 7 rfl rfl), by decide, by decide +kernel, by decide +kernel⟩
theorem lk_X8_62 : Ls RX8 62 yJ9_abs_0f7a4 1 := ⟨(gt5 194 rfl rfl), (gt5 58 rfl rfl), by decide +kernel⟩
theorem lk_X8_54 : Ls RX8 54 yJ9_min_7cf53 2 := ⟨(gt5 195 rfl rfl), (gt3 67 rfl rfl), by decide +kernel⟩
theorem lk_X8_45 : Lv RX8 45 yX8_keepRow 8 1 := ⟨(gt5 196 rfl rfl), (gt5 198 rfl rfl), (gs4 (q := (⟨"RiddleDoors$Walking", "keepRow", "(I)V"⟩, _)) 0 rfl), by decide, by decide +kernel⟩
theorem mc_X8_keepRow : Mc yX8_keepRow cX8_keepRow 8 none := ⟨(gt5 199 rfl rfl), (gt1 7 rfl rfl), by decide, by decide +kernel, by decide +kernel⟩
theorem lk_L_203 : Ls RL 203 yL_door 3 := ⟨(gt5 200 rfl rfl), (gt5 201 rfl rfl), by decide +kernel⟩
theorem lk_L_73 : Lv RL 73 yX9_door 9 1 := ⟨(gt5 203 rfl rfl), (gt5 204 rfl rfl), (gt5 205 rfl rfl), by decide, by decide +kernel⟩
theorem mc_X9_door : Mc yX9_door cX9_door 2 (some .int) := ⟨(gt5 206 rfl rfl), (gt1 1 rfl rfl), by decide, by decide +kernel, by decide +kernel⟩
theorem lk_L_206 : Ls RL 206 yL_ring 4 := ⟨(gt5 207 rfl rfl), (gt5 208 rfl rfl), by decide +kernel⟩
theorem lk_L_76 : Lv RL 76 yX9_ring 9 2 := ⟨(gt5 210 rfl rfl), (gt5 211 rfl rfl), (gt5 212 rfl rfl), by decide, by decide +kernel⟩
theorem mc_X9_ring : Mc yX9_ring cX9_ring 4 (some .int) := ⟨(gt5 213 rfl rfl), (gt1 1 rfl rfl), by decide, by decide +kernel, by decide +kernel⟩
theorem lk_X9_337 : Lv RX9 337 yX7_ringOf 7 2 := ⟨(gt5 214 rfl rfl), (gt5 215 rfl rfl), (gt5 216 rfl rfl), by decide, by decide +kernel⟩
theorem mc_X7_ringOf : Mc yX7_ringOf cX7_ringOf 7 (some .int) := ⟨(gt5 217 rfl rfl), (gt1 2 rfl rfl), by decide, by decide +kernel, by decide +kernel⟩
theorem lk_X7_102 : Lv RX7 102 yX7_leansOn 7 2 := ⟨(gt5 218 rfl rfl), (gt5 220 rfl rfl), (gs4 (q := (⟨"RiddleDoors$Street", "leansOn", "(II)I"⟩, _)) 1 rfl), by decide, by decide +kernel⟩
theorem mc_X7_leansOn : Mc yX7_leansOn cX7_leansOn 3 (some .int) := ⟨(gt5 221 rfl rfl), (gt1 2 rfl rfl), by decide, by decide +kernel, by decide +kernel⟩
theorem lk_X9_340 : Lv RX9 340 yX7_levelOf 7 2 := ⟨(gt5 222 rfl rfl), (gt5 223 rfl rfl), (gt5 224 rfl rfl), by decide, by decide +kernel⟩
theorem mc_X7_levelOf : Mc yX7_levelOf cX7_levelOf 5 (some .int) := ⟨(gt5 225 rfl rfl), (gt1 2 rfl rfl), by decide, by decide +kernel, by decide +kernel⟩
theorem lk_X7_106 : Ls RX7 106 yJ7_fill_53178 2 := ⟨(gt5 226 rfl rfl), (gt2 212 rfl rfl), by decide +kernel⟩
theorem lk_X7_112 : Lv RX7 112 yX7_levelBy 7 1 := ⟨(gt5 227 rfl rfl), (gt5 229 rfl rfl), (gs4 (q := (⟨"RiddleDoors$Street", "levelBy", "(I)I"⟩, _)) 2 rfl), by decide, by decide +kernel⟩
theorem mc_X7_levelBy : Mc yX7_levelBy cX7_levelBy 4 (some .int) := ⟨(gt5 230 rfl rfl), (gt1 2 rfl rfl), by decide, by decide +kernel, by decide +kernel⟩
theorem lk_X7_115 : Ls RX7 115 yJ9_max_7cf53 2 := ⟨(gt5 231 rfl rfl), (gt5 26 rfl rfl), by decide +kernel⟩
theorem lk_L_209 : Ls RL 209 yL_written 3 := ⟨(gt5 232 rfl rfl), (gt5 233 rfl rfl), by decide +kernel⟩
theorem lk_L_79 : Lv RL 79 yX9_written 9 1 := ⟨(gt5 235 rfl rfl), (gt5 236 rfl rfl), (gt5 237 rfl rfl), by decide, by decide +kernel⟩
theorem mc_X9_written : Mc yX9_written cX9_written 2 (some .int) := ⟨(gt5 238 rfl rfl), (gt1 1 rfl rfl), by decide, by decide +kernel, by decide +kernel⟩
theorem lk_X9_343 : Lv RX9 343 yX4_writeStreet 4 2 := ⟨(gt5 239 rfl rfl), (gt6 0 rfl rfl), (gt6 1 rfl rfl), by decide, by decide +kernel⟩
theorem mc_X4_writeStreet : Mc yX4_writeStreet cX4_writeStreet 5 none := ⟨(gt6 2 rfl rfl), (gt1 10 rfl rfl), by decide, by decide +kernel, by decide +kernel⟩
theorem lk_X4_52 : Lv RX4 52 yX4_writeHead 4 1 := ⟨(gt6 3 rfl rfl), (gt6 4 rfl rfl), (gt6 5 rfl rfl), by decide, by decide +kernel⟩
theorem mc_X4_writeHead : Mc yX4_writeHead cX4_writeHead 2 none := ⟨(gt6 6 rfl rfl), (gt1 10 rfl rfl), by decide, by decide +kernel, by decide +kernel⟩
theorem lk_X4_32 : Lv RX4 32 yX4_putWord 4 1 := ⟨(gt6 8 rfl rfl), (gt6 10 rfl rfl), (gs4 (q := (⟨"RiddleDoors$Page", "putWord", "(Ljava/lang/String;)V"⟩, _)) 3 rfl), by decide, by decide +kernel⟩
theorem mc_X4_putWord : Mc yX4_putWord cX4_putWord 3 none := ⟨(gt6 11 rfl rfl), (gt1 10 rfl rfl), by decide, by decide +kernel, by decide +kernel⟩
theorem lk_X4_26 : Lv RX4 26 yX4_put 4 1 := ⟨(gt6 14 rfl rfl), (gt6 16 rfl rfl), (gs4 (q := (⟨"RiddleDoors$Page", "put", "(I)V"⟩, _)) 4 rfl), by decide, by decide +kernel⟩
theorem mc_X4_put : Mc yX4_put cX4_put 2 none := ⟨(gt6 17 rfl rfl), (gt1 10 rfl rfl), by decide, by decide +kernel, by decide +kernel⟩
theorem lk_X4_41 : Lv RX4 41 yX4_putNumber 4 1 := ⟨(gt6 18 rfl rfl), (gt6 20 rfl rfl), (gs4 (q := (⟨"RiddleDoors$Page", "putNumber", "(I)V"⟩, _)) 5 rfl), by decide, by decide +kernel⟩
theorem mc_X4_putNumber : Mc yX4_putNumber cX4_putNumber 2 none := ⟨(gt6 21 rfl rfl), (gt1 10 rfl rfl), by decide, by decide +kernel, by decide +kernel⟩
theorem lk_X4_70 : Lv RX4 70 yX7_hasRiddle 7 1 := ⟨(gt6 25 rfl rfl), (gt4 167 rfl rfl), (gt4 168 rfl rfl), by decide, by decide +kernel⟩
theorem lk_L_212 : Ls RL 212 yL_left 4 := ⟨(gt6 27 rfl rfl), (gt6 28 rfl rfl), by decide +kernel⟩
theorem lk_L_82 : Lv RL 82 yX9_left 9 2 := ⟨(gt6 30 rfl rfl), (gt6 31 rfl rfl), (gt6 32 rfl rfl), by decide, by decide +kernel⟩
theorem mc_X9_left : Mc yX9_left cX9_left 3 (some .int) := ⟨(gt6 33 rfl rfl), (gt1 1 rfl rfl), by decide, by decide +kernel, by decide +kernel⟩
theorem lk_X9_351 : Lv RX9 351 yX6_foundWith 6 2 := ⟨(gt6 34 rfl rfl), (gt6 35 rfl rfl), (gt6 36 rfl rfl), by decide, by decide +kernel⟩
theorem mc_X6_foundWith : Mc yX6_foundWith cX6_foundWith 5 (some .int) := ⟨(gt6 37 rfl rfl), (gt1 4 rfl rfl), by decide, by decide +kernel, by decide +kernel⟩
theorem lk_X6_91 : Lv RX6 91 yX6_numberIn 6 2 := ⟨(gt6 38 rfl rfl), (gt3 70 rfl rfl), (gt3 71 rfl rfl), by decide, by decide +kernel⟩
theorem lk_L_215 : Ls RL 215 yL_look 4 := ⟨(gt6 39 rfl rfl), (gt6 40 rfl rfl), by decide +kernel⟩
theorem lk_L_85 : Lv RL 85 yX9_look 9 2 := ⟨(gt6 42 rfl rfl), (gt6 43 rfl rfl), (gt6 44 rfl rfl), by decide, by decide +kernel⟩
theorem mc_X9_look : Mc yX9_look cX9_look 7 (some .int) := ⟨(gt6 45 rfl rfl), (gt1 1 rfl rfl), by decide, by decide +kernel, by decide +kernel⟩
theorem lk_X9_354 : Ls RX9 354 yJ9_max_7cf53 2 := ⟨(gt6 46 rfl rfl), (gt5 26 rfl rfl), by decide +kernel⟩
theorem lk_X9_357 : Ls RX9 357 yX9_commonDivisor 2 := ⟨(gt6 47 rfl rfl), (gt6 48 rfl rfl), by decide +kernel⟩
theorem mc_X9_commonDivisor : Mc yX9_commonDivisor cX9_commonDivisor 6 (some .int) := ⟨(gt6 49 rfl rfl), (gt1 1 rfl rfl), by decide, by decide +kernel, by decide +kernel⟩
theorem lk_L_218 : Ls RL 218 yL_plant 4 := ⟨(gt6 50 rfl rfl), (gt6 51 rfl rfl), by decide +kernel⟩
theorem lk_L_88 : Lv RL 88 yX9_plant 9 2 := ⟨(gt6 53 rfl rfl), (gt6 54 rfl rfl), (gt6 55 rfl rfl), by decide, by decide +kernel⟩
theorem mc_X9_plant : Mc yX9_plant cX9_plant 3 (some .int) := ⟨(gt6 56 rfl rfl), (gt1 1 rfl rfl), by decide, by decide +kernel, by decide +kernel⟩
theorem lk_X9_360 : Lv RX9 360 yX9_sow 9 2 := ⟨(gt6 57 rfl rfl), (gt6 59 rfl rfl), (gs4 (q := (⟨"RiddleDoors", "sow", "(II)V"⟩, _)) 6 rfl), by decide, by decide +kernel⟩
theorem mc_X9_sow : Mc yX9_sow cX9_sow 4 none := ⟨(gt6 60 rfl rfl), (gt1 1 rfl rfl), by decide, by decide +kernel, by decide +kernel⟩
theorem lk_X9_376 : Lv RX9 376 yX4_writeHead 4 1 := ⟨(gt6 61 rfl rfl), (gt6 4 rfl rfl), (gt6 5 rfl rfl), by decide, by decide +kernel⟩
theorem lk_X9_379 : Lv RX9 379 yX4_writeSeededHouse 4 3 := ⟨(gt6 62 rfl rfl), (gt6 63 rfl rfl), (gt6 64 rfl rfl), by decide, by decide +kernel⟩
theorem mc_X4_writeSeededHouse : Mc yX4_writeSeededHouse cX4_writeSeededHouse 5 none := ⟨(gt6 65 rfl rfl), (gt1 10 rfl rfl), by decide, by decide +kernel, by decide +kernel⟩
theorem lk_X4_87 : Lv RX4 87 yX1_next 1 1 := ⟨(gt6 67 rfl rfl), (gt5 97 rfl rfl), (gt5 98 rfl rfl), by decide, by decide +kernel⟩
theorem lk_X9_366 : Ls RX9 366 yJ6_bitCount_0f7a4 1 := ⟨(gt6 71 rfl rfl), (gt3 36 rfl rfl), by decide +kernel⟩
theorem lk_L_221 : Ls RL 221 yL_tried 6 := ⟨(gt6 72 rfl rfl), (gt6 73 rfl rfl), by decide +kernel⟩
theorem lk_L_91 : Lv RL 91 yX9_tried 9 4 := ⟨(gt6 75 rfl rfl), (gt6 76 rfl rfl), (gt6 77 rfl rfl), by decide, by decide +kernel⟩
theorem mc_X9_tried : Mc yX9_tried cX9_tried 10 (some .int) := ⟨(gt6 78 rfl rfl), (gt1 1 rfl rfl), by decide, by decide +kernel, by decide +kernel⟩
theorem lk_X9_369 : Lv RX9 369 yX9_breaksLaw 9 1 := ⟨(gt6 79 rfl rfl), (gt6 81 rfl rfl), (gs4 (q := (⟨"RiddleDoors", "breaksLaw", "(I)I"⟩, _)) 7 rfl), by decide, by decide +kernel⟩
theorem mc_X9_breaksLaw : Mc yX9_breaksLaw cX9_breaksLaw 3 (some .int) := ⟨(gt6 82 rfl rfl), (gt1 1 rfl rfl), by decide, by decide +kernel, by decide +kernel⟩
theorem cl_L_95 : Cond.classLink RL 95 (aR 10) ∈ gw := (gt6 83 rfl rfl)
theorem in_X10 : Cond.instantiable (aR 10) (aN 10) ∈ gw := (gt6 84 rfl rfl)
theorem li_L_97 : Li RL 97 yX10_init 0 := ⟨Or.inl ((gt6 85 rfl rfl)), (gt6 86 rfl rfl), rfl, by decide +kernel⟩
theorem mc_X10_init : Mc yX10_init cX10_init 1 none := ⟨(gt6 87 rfl rfl), (gt1 11 rfl rfl), by decide, by decide +kernel, by decide +kernel⟩
theorem lk_L_109 : Lv RL 109 yX10_thrown 10 0 := ⟨(gt7 145 rfl rfl), (gt7 146 rfl rfl), (gt7 147 rfl rfl), by decide, by decide +kernel⟩
theorem mc_X10_thrown : Mc yX10_thrown cX10_thrown 1 (some .int) := ⟨(gt7 148 rfl rfl), (gt1 11 rfl rfl), by decide, by decide +kernel, by decide +kernel⟩
theorem lk_L_102 : Lv RL 102 yX10_feed 10 5 := ⟨(gt7 149 rfl rfl), (gt7 150 rfl rfl), (gt7 151 rfl rfl), by decide, by decide +kernel⟩
theorem mc_X10_feed : Mc yX10_feed cX10_feed 6 (some .int) := ⟨(gt7 152 rfl rfl), (gt1 11 rfl rfl), by decide, by decide +kernel, by decide +kernel⟩
theorem lk_X10_199 : Lv RX10 199 yX10_lays 10 1 := ⟨(gt7 153 rfl rfl), (gt7 155 rfl rfl), (gs4 (q := (⟨"RiddleDoorsModel", "lays", "(I)V"⟩, _)) 8 rfl), by decide, by decide +kernel⟩
theorem mc_X10_lays : Mc yX10_lays cX10_lays 3 none := ⟨(gt7 156 rfl rfl), (gt1 11 rfl rfl), by decide, by decide +kernel, by decide +kernel⟩
theorem lk_L_108 : Lv RL 108 yX10_street 10 1 := ⟨(gt7 157 rfl rfl), (gt7 158 rfl rfl), (gt7 159 rfl rfl), by decide, by decide +kernel⟩
theorem mc_X10_street : Mc yX10_street cX10_street 3 (some .int) := ⟨(gt7 160 rfl rfl), (gt1 11 rfl rfl), by decide, by decide +kernel, by decide +kernel⟩
theorem lk_X10_343 : Lv RX10 343 yX10_right 10 2 := ⟨(gt7 161 rfl rfl), (gt7 163 rfl rfl), (gs4 (q := (⟨"RiddleDoorsModel", "right", "(ZI)Z"⟩, _)) 9 rfl), by decide, by decide +kernel⟩
theorem mc_X10_right : Mc yX10_right cX10_right 3 (some .boolean) := ⟨(gt7 164 rfl rfl), (gt1 11 rfl rfl), by decide, by decide +kernel, by decide +kernel⟩
theorem lk_X10_256 : Lv RX10 256 yX10_goes 10 0 := ⟨(gt7 165 rfl rfl), (gt7 167 rfl rfl), (gs4 (q := (⟨"RiddleDoorsModel", "goes", "()V"⟩, _)) 10 rfl), by decide, by decide +kernel⟩
theorem mc_X10_goes : Mc yX10_goes cX10_goes 2 none := ⟨(gt7 168 rfl rfl), (gt1 11 rfl rfl), by decide, by decide +kernel, by decide +kernel⟩
theorem lk_X10_209 : Lv RX10 209 yX10_byteAt 10 1 := ⟨(gt7 169 rfl rfl), (gt7 171 rfl rfl), (gs4 (q := (⟨"RiddleDoorsModel", "byteAt", "(I)I"⟩, _)) 11 rfl), by decide, by decide +kernel⟩
theorem mc_X10_byteAt : Mc yX10_byteAt cX10_byteAt 2 (some .int) := ⟨(gt7 172 rfl rfl), (gt1 11 rfl rfl), by decide, by decide +kernel, by decide +kernel⟩
theorem lk_X10_229 : Ls RX10 229 yX10_isLetter 1 := ⟨(gt7 173 rfl rfl), (gt7 174 rfl rfl), by decide +kernel⟩
theorem mc_X10_isLetter : Mc yX10_isLetter cX10_isLetter 1 (some .boolean) := ⟨(gt7 175 rfl rfl), (gt1 11 rfl rfl), by decide, by decide +kernel, by decide +kernel⟩
theorem lk_X10_233 : Ls RX10 233 yX10_isDigit 1 := ⟨(gt7 176 rfl rfl), (gt7 177 rfl rfl), by decide +kernel⟩
theorem mc_X10_isDigit : Mc yX10_isDigit cX10_isDigit 1 (some .boolean) := ⟨(gt7 178 rfl rfl), (gt1 11 rfl rfl), by decide, by decide +kernel, by decide +kernel⟩
theorem lk_X10_252 : Lv RX10 252 yX10_isGood 10 0 := ⟨(gt7 179 rfl rfl), (gt7 181 rfl rfl), (gs4 (q := (⟨"RiddleDoorsModel", "isGood", "()Z"⟩, _)) 12 rfl), by decide, by decide +kernel⟩
theorem mc_X10_isGood : Mc yX10_isGood cX10_isGood 1 (some .boolean) := ⟨(gt7 182 rfl rfl), (gt1 11 rfl rfl), by decide, by decide +kernel, by decide +kernel⟩
theorem lk_X10_347 : Lv RX10 347 yX10_line 10 0 := ⟨(gt7 183 rfl rfl), (gt7 185 rfl rfl), (gs4 (q := (⟨"RiddleDoorsModel", "line", "()V"⟩, _)) 13 rfl), by decide, by decide +kernel⟩
theorem mc_X10_line : Mc yX10_line cX10_line 2 none := ⟨(gt7 186 rfl rfl), (gt1 11 rfl rfl), by decide, by decide +kernel, by decide +kernel⟩
theorem lk_X10_262 : Lv RX10 262 yX10_knownWord 10 0 := ⟨(gt7 187 rfl rfl), (gt7 189 rfl rfl), (gs4 (q := (⟨"RiddleDoorsModel", "knownWord", "()I"⟩, _)) 14 rfl), by decide, by decide +kernel⟩
theorem mc_X10_knownWord : Mc yX10_knownWord cX10_knownWord 2 (some .int) := ⟨(gt7 190 rfl rfl), (gt1 11 rfl rfl), by decide, by decide +kernel, by decide +kernel⟩
theorem lk_X10_245 : Ls RX10 245 yX10_letters 1 := ⟨(gt7 191 rfl rfl), (gt7 192 rfl rfl), by decide +kernel⟩
theorem mc_X10_letters : Mc yX10_letters cX10_letters 1 (some .long) := ⟨(gt7 193 rfl rfl), (gt1 11 rfl rfl), by decide, by decide +kernel, by decide +kernel⟩
theorem lk_X10_241 : Ls RX10 241 yX10_spelled 6 := ⟨(gt7 194 rfl rfl), (gt7 195 rfl rfl), by decide +kernel⟩
theorem mc_X10_spelled : Mc yX10_spelled cX10_spelled 8 (some .long) := ⟨(gt7 196 rfl rfl), (gt1 11 rfl rfl), by decide, by decide +kernel, by decide +kernel⟩
theorem lc_X10_239 : Cond.constantLong RX10 239 (96) ∈ gw := (gt7 197 rfl rfl)
theorem lk_X10_259 : Lv RX10 259 yX10_wrong 10 1 := ⟨(gt7 198 rfl rfl), (gt7 200 rfl rfl), (gs4 (q := (⟨"RiddleDoorsModel", "wrong", "(I)V"⟩, _)) 15 rfl), by decide, by decide +kernel⟩
theorem mc_X10_wrong : Mc yX10_wrong cX10_wrong 2 none := ⟨(gt7 201 rfl rfl), (gt1 11 rfl rfl), by decide, by decide +kernel, by decide +kernel⟩
theorem lk_X10_317 : Lv RX10 317 yX10_number0 10 2 := ⟨(gt7 202 rfl rfl), (gt7 204 rfl rfl), (gs5 (q := (⟨"RiddleDoorsModel", "number0", "(II)I"⟩, _)) 0 rfl), by decide, by decide +kernel⟩
theorem mc_X10_number0 : Mc yX10_number0 cX10_number0 4 (some .int) := ⟨(gt7 205 rfl rfl), (gt1 11 rfl rfl), by decide, by decide +kernel, by decide +kernel⟩
theorem lk_X10_337 : Lv RX10 337 yX10_readsHouse 10 0 := ⟨(gt7 206 rfl rfl), (gt7 208 rfl rfl), (gs5 (q := (⟨"RiddleDoorsModel", "readsHouse", "()V"⟩, _)) 1 rfl), by decide, by decide +kernel⟩
theorem mc_X10_readsHouse : Mc yX10_readsHouse cX10_readsHouse 3 none := ⟨(gt7 209 rfl rfl), (gt1 11 rfl rfl), by decide, by decide +kernel, by decide +kernel⟩
theorem lk_X10_321 : Lv RX10 321 yX10_perhaps 10 0 := ⟨(gt7 210 rfl rfl), (gt7 212 rfl rfl), (gs5 (q := (⟨"RiddleDoorsModel", "perhaps", "()I"⟩, _)) 2 rfl), by decide, by decide +kernel⟩
theorem mc_X10_perhaps : Mc yX10_perhaps cX10_perhaps 1 (some .int) := ⟨(gt7 213 rfl rfl), (gt1 11 rfl rfl), by decide, by decide +kernel, by decide +kernel⟩
theorem lk_X10_324 : Lv RX10 324 yX10_expression 10 0 := ⟨(gt7 214 rfl rfl), (gt7 216 rfl rfl), (gs5 (q := (⟨"RiddleDoorsModel", "expression", "()V"⟩, _)) 3 rfl), by decide, by decide +kernel⟩
theorem mc_X10_expression : Mc yX10_expression cX10_expression 3 none := ⟨(gt7 217 rfl rfl), (gt1 11 rfl rfl), by decide, by decide +kernel, by decide +kernel⟩
theorem lk_X10_299 : Lv RX10 299 yX10_deeper 10 0 := ⟨(gt7 218 rfl rfl), (gt7 220 rfl rfl), (gs5 (q := (⟨"RiddleDoorsModel", "deeper", "()V"⟩, _)) 4 rfl), by decide, by decide +kernel⟩
theorem mc_X10_deeper : Mc yX10_deeper cX10_deeper 1 none := ⟨(gt7 221 rfl rfl), (gt1 11 rfl rfl), by decide, by decide +kernel, by decide +kernel⟩
theorem lk_X10_293 : Lv RX10 293 yX10_isSign 10 1 := ⟨(gt7 222 rfl rfl), (gt7 224 rfl rfl), (gs5 (q := (⟨"RiddleDoorsModel", "isSign", "(I)Z"⟩, _)) 5 rfl), by decide, by decide +kernel⟩
theorem mc_X10_isSign : Mc yX10_isSign cX10_isSign 2 (some .boolean) := ⟨(gt7 225 rfl rfl), (gt1 11 rfl rfl), by decide, by decide +kernel, by decide +kernel⟩
theorem lk_X10_307 : Lv RX10 307 yX10_operand 10 1 := ⟨(gt7 226 rfl rfl), (gt7 228 rfl rfl), (gs5 (q := (⟨"RiddleDoorsModel", "operand", "(Z)V"⟩, _)) 6 rfl), by decide, by decide +kernel⟩
theorem mc_X10_operand : Mc yX10_operand cX10_operand 5 none := ⟨(gt7 229 rfl rfl), (gt1 11 rfl rfl), by decide, by decide +kernel, by decide +kernel⟩
theorem lk_X10_296 : Lv RX10 296 yX10_waitsFor 10 1 := ⟨(gt7 230 rfl rfl), (gt7 232 rfl rfl), (gs5 (q := (⟨"RiddleDoorsModel", "waitsFor", "(I)V"⟩, _)) 7 rfl), by decide, by decide +kernel⟩
theorem mc_X10_waitsFor : Mc yX10_waitsFor cX10_waitsFor 2 none := ⟨(gt7 233 rfl rfl), (gt1 11 rfl rfl), by decide, by decide +kernel, by decide +kernel⟩
theorem lk_X10_302 : Lv RX10 302 yX10_part 10 0 := ⟨(gt7 234 rfl rfl), (gt7 236 rfl rfl), (gs5 (q := (⟨"RiddleDoorsModel", "part", "()V"⟩, _)) 8 rfl), by decide, by decide +kernel⟩
theorem mc_X10_part : Mc yX10_part cX10_part 1 none := ⟨(gt7 237 rfl rfl), (gt1 11 rfl rfl), by decide, by decide +kernel, by decide +kernel⟩
theorem lk_X10_272 : Lv RX10 272 yX10_puts 10 1 := ⟨(gt7 238 rfl rfl), (gt8 0 rfl rfl), (gs5 (q := (⟨"RiddleDoorsModel", "puts", "(I)V"⟩, _)) 9 rfl), by decide, by decide +kernel⟩
theorem mc_X10_puts : Mc yX10_puts cX10_puts 2 none := ⟨(gt8 1 rfl rfl), (gt1 11 rfl rfl), by decide, by decide +kernel, by decide +kernel⟩
theorem lk_X10_287 : Lv RX10 287 yX10_valueHere 10 0 := ⟨(gt8 2 rfl rfl), (gt8 4 rfl rfl), (gs5 (q := (⟨"RiddleDoorsModel", "valueHere", "()V"⟩, _)) 10 rfl), by decide, by decide +kernel⟩
theorem mc_X10_valueHere : Mc yX10_valueHere cX10_valueHere 4 none := ⟨(gt8 5 rfl rfl), (gt1 11 rfl rfl), by decide, by decide +kernel, by decide +kernel⟩
theorem lk_X10_304 : Lv RX10 304 yX10_drops 10 1 := ⟨(gt8 6 rfl rfl), (gt8 8 rfl rfl), (gs5 (q := (⟨"RiddleDoorsModel", "drops", "(I)V"⟩, _)) 11 rfl), by decide, by decide +kernel⟩
theorem mc_X10_drops : Mc yX10_drops cX10_drops 2 none := ⟨(gt8 9 rfl rfl), (gt1 11 rfl rfl), by decide, by decide +kernel, by decide +kernel⟩
theorem lk_X10_281 : Ls RX10 281 yX10_isOpen 1 := ⟨(gt8 10 rfl rfl), (gt8 11 rfl rfl), by decide +kernel⟩
theorem mc_X10_isOpen : Mc yX10_isOpen cX10_isOpen 1 (some .boolean) := ⟨(gt8 12 rfl rfl), (gt1 11 rfl rfl), by decide, by decide +kernel, by decide +kernel⟩
theorem lk_X10_284 : Ls RX10 284 yX10_strength 1 := ⟨(gt8 13 rfl rfl), (gt8 14 rfl rfl), by decide +kernel⟩
theorem mc_X10_strength : Mc yX10_strength cX10_strength 1 (some .int) := ⟨(gt8 15 rfl rfl), (gt1 11 rfl rfl), by decide, by decide +kernel, by decide +kernel⟩
theorem lk_X10_311 : Lv RX10 311 yX10_isOpened 10 0 := ⟨(gt8 16 rfl rfl), (gt8 18 rfl rfl), (gs5 (q := (⟨"RiddleDoorsModel", "isOpened", "()Z"⟩, _)) 12 rfl), by decide, by decide +kernel⟩
theorem mc_X10_isOpened : Mc yX10_isOpened cX10_isOpened 2 (some .boolean) := ⟨(gt8 19 rfl rfl), (gt1 11 rfl rfl), by decide, by decide +kernel, by decide +kernel⟩
theorem lk_X10_314 : Lv RX10 314 yX10_closes 10 0 := ⟨(gt8 20 rfl rfl), (gt8 22 rfl rfl), (gs5 (q := (⟨"RiddleDoorsModel", "closes", "()V"⟩, _)) 13 rfl), by decide, by decide +kernel⟩
theorem mc_X10_closes : Mc yX10_closes cX10_closes 1 none := ⟨(gt8 23 rfl rfl), (gt1 11 rfl rfl), by decide, by decide +kernel, by decide +kernel⟩
theorem lk_X10_340 : Lv RX10 340 yX10_need 10 1 := ⟨(gt8 24 rfl rfl), (gt8 26 rfl rfl), (gs5 (q := (⟨"RiddleDoorsModel", "need", "(Z)V"⟩, _)) 14 rfl), by decide, by decide +kernel⟩
theorem mc_X10_need : Mc yX10_need cX10_need 2 none := ⟨(gt8 27 rfl rfl), (gt1 11 rfl rfl), by decide, by decide +kernel, by decide +kernel⟩
theorem lk_X10_356 : Lv RX10 356 yX10_copies 10 2 := ⟨(gt8 28 rfl rfl), (gt8 30 rfl rfl), (gs5 (q := (⟨"RiddleDoorsModel", "copies", "([I[I)V"⟩, _)) 15 rfl), by decide, by decide +kernel⟩
theorem mc_X10_copies : Mc yX10_copies cX10_copies 4 none := ⟨(gt8 31 rfl rfl), (gt1 11 rfl rfl), by decide, by decide +kernel, by decide +kernel⟩
theorem lk_L_116 : Lv RL 116 yX10_fault 10 0 := ⟨(gt8 32 rfl rfl), (gt8 33 rfl rfl), (gt8 34 rfl rfl), by decide, by decide +kernel⟩
theorem mc_X10_fault : Mc yX10_fault cX10_fault 1 (some .int) := ⟨(gt8 35 rfl rfl), (gt1 11 rfl rfl), by decide, by decide +kernel, by decide +kernel⟩
theorem lk_L_119 : Lv RL 119 yX10_count 10 1 := ⟨(gt8 36 rfl rfl), (gt8 37 rfl rfl), (gt8 38 rfl rfl), by decide, by decide +kernel⟩
theorem mc_X10_count : Mc yX10_count cX10_count 2 (some .int) := ⟨(gt8 39 rfl rfl), (gt1 11 rfl rfl), by decide, by decide +kernel, by decide +kernel⟩
theorem lk_X10_369 : Ls RX10 369 yX10_within 3 := ⟨(gt8 40 rfl rfl), (gt8 41 rfl rfl), by decide +kernel⟩
theorem mc_X10_within : Mc yX10_within cX10_within 3 (some .boolean) := ⟨(gt8 42 rfl rfl), (gt1 11 rfl rfl), by decide, by decide +kernel, by decide +kernel⟩
theorem lk_L_123 : Lv RL 123 yX10_house 10 2 := ⟨(gt8 43 rfl rfl), (gt8 44 rfl rfl), (gt8 45 rfl rfl), by decide, by decide +kernel⟩
theorem mc_X10_house : Mc yX10_house cX10_house 3 (some .int) := ⟨(gt8 46 rfl rfl), (gt1 11 rfl rfl), by decide, by decide +kernel, by decide +kernel⟩
theorem lk_X10_373 : Lv RX10 373 yX10_isHouse 10 1 := ⟨(gt8 47 rfl rfl), (gt8 49 rfl rfl), (gs6 (q := (⟨"RiddleDoorsModel", "isHouse", "(I)Z"⟩, _)) 0 rfl), by decide, by decide +kernel⟩
theorem mc_X10_isHouse : Mc yX10_isHouse cX10_isHouse 2 (some .boolean) := ⟨(gt8 50 rfl rfl), (gt1 11 rfl rfl), by decide, by decide +kernel, by decide +kernel⟩
theorem lk_X10_376 : Lv RX10 376 yX10_looksOf 10 1 := ⟨(gt8 51 rfl rfl), (gt8 53 rfl rfl), (gs6 (q := (⟨"RiddleDoorsModel", "looksOf", "(I)I"⟩, _)) 1 rfl), by decide, by decide +kernel⟩
theorem mc_X10_looksOf : Mc yX10_looksOf cX10_looksOf 2 (some .int) := ⟨(gt8 54 rfl rfl), (gt1 11 rfl rfl), by decide, by decide +kernel, by decide +kernel⟩
theorem lk_L_127 : Lv RL 127 yX10_become 10 3 := ⟨(gt8 55 rfl rfl), (gt8 56 rfl rfl), (gt8 57 rfl rfl), by decide, by decide +kernel⟩
theorem mc_X10_become : Mc yX10_become cX10_become 5 (some .int) := ⟨(gt8 58 rfl rfl), (gt1 11 rfl rfl), by decide, by decide +kernel, by decide +kernel⟩
theorem lk_X10_379 : Lv RX10 379 yX10_isTwo 10 1 := ⟨(gt8 59 rfl rfl), (gt8 61 rfl rfl), (gs6 (q := (⟨"RiddleDoorsModel", "isTwo", "(I)Z"⟩, _)) 2 rfl), by decide, by decide +kernel⟩
theorem mc_X10_isTwo : Mc yX10_isTwo cX10_isTwo 2 (some .boolean) := ⟨(gt8 62 rfl rfl), (gt1 11 rfl rfl), by decide, by decide +kernel, by decide +kernel⟩
theorem lk_X10_382 : Lv RX10 382 yX10_refuses 10 1 := ⟨(gt8 63 rfl rfl), (gt8 65 rfl rfl), (gs6 (q := (⟨"RiddleDoorsModel", "refuses", "(I)I"⟩, _)) 3 rfl), by decide, by decide +kernel⟩
theorem mc_X10_refuses : Mc yX10_refuses cX10_refuses 2 (some .int) := ⟨(gt8 66 rfl rfl), (gt1 11 rfl rfl), by decide, by decide +kernel, by decide +kernel⟩
theorem lk_X10_385 : Lv RX10 385 yX10_turns 10 3 := ⟨(gt8 67 rfl rfl), (gt8 69 rfl rfl), (gs6 (q := (⟨"RiddleDoorsModel", "turns", "(III)I"⟩, _)) 4 rfl), by decide, by decide +kernel⟩
theorem mc_X10_turns : Mc yX10_turns cX10_turns 5 (some .int) := ⟨(gt8 70 rfl rfl), (gt1 11 rfl rfl), by decide, by decide +kernel, by decide +kernel⟩
theorem lk_X10_389 : Lv RX10 389 yX10_keeps 10 3 := ⟨(gt8 71 rfl rfl), (gt8 73 rfl rfl), (gs6 (q := (⟨"RiddleDoorsModel", "keeps", "(III)V"⟩, _)) 5 rfl), by decide, by decide +kernel⟩
theorem mc_X10_keeps : Mc yX10_keeps cX10_keeps 5 none := ⟨(gt8 74 rfl rfl), (gt1 11 rfl rfl), by decide, by decide +kernel, by decide +kernel⟩
theorem lk_L_131 : Lv RL 131 yX10_mute 10 2 := ⟨(gt8 75 rfl rfl), (gt8 76 rfl rfl), (gt8 77 rfl rfl), by decide, by decide +kernel⟩
theorem mc_X10_mute : Mc yX10_mute cX10_mute 3 (some .boolean) := ⟨(gt8 78 rfl rfl), (gt1 11 rfl rfl), by decide, by decide +kernel, by decide +kernel⟩
theorem lk_L_135 : Lv RL 135 yX10_undo 10 0 := ⟨(gt8 79 rfl rfl), (gt8 80 rfl rfl), (gt8 81 rfl rfl), by decide, by decide +kernel⟩
theorem mc_X10_undo : Mc yX10_undo cX10_undo 1 (some .int) := ⟨(gt8 82 rfl rfl), (gt1 11 rfl rfl), by decide, by decide +kernel, by decide +kernel⟩
theorem lk_L_138 : Lv RL 138 yX10_letter 10 2 := ⟨(gt8 83 rfl rfl), (gt8 84 rfl rfl), (gt8 85 rfl rfl), by decide, by decide +kernel⟩
theorem mc_X10_letter : Mc yX10_letter cX10_letter 3 (some .int) := ⟨(gt8 86 rfl rfl), (gt1 11 rfl rfl), by decide, by decide +kernel, by decide +kernel⟩
theorem lk_L_142 : Lv RL 142 yX10_unletter 10 0 := ⟨(gt8 87 rfl rfl), (gt8 88 rfl rfl), (gt8 89 rfl rfl), by decide, by decide +kernel⟩
theorem mc_X10_unletter : Mc yX10_unletter cX10_unletter 1 (some .int) := ⟨(gt8 90 rfl rfl), (gt1 11 rfl rfl), by decide, by decide +kernel, by decide +kernel⟩
theorem lk_L_162 : Lv RL 162 yX10_holds 10 2 := ⟨(gt8 91 rfl rfl), (gt8 92 rfl rfl), (gt8 93 rfl rfl), by decide, by decide +kernel⟩
theorem mc_X10_holds : Mc yX10_holds cX10_holds 5 (some .int) := ⟨(gt8 94 rfl rfl), (gt1 11 rfl rfl), by decide, by decide +kernel, by decide +kernel⟩
theorem lc_X10_408 : Cond.constantLong RX10 408 (31) ∈ gw := (gt8 95 rfl rfl)
theorem lk_X10_410 : Lv RX10 410 yX10_isTrue 10 1 := ⟨(gt8 96 rfl rfl), (gt8 98 rfl rfl), (gs6 (q := (⟨"RiddleDoorsModel", "isTrue", "(I)Z"⟩, _)) 6 rfl), by decide, by decide +kernel⟩
theorem mc_X10_isTrue : Mc yX10_isTrue cX10_isTrue 5 (some .boolean) := ⟨(gt8 99 rfl rfl), (gt1 11 rfl rfl), by decide, by decide +kernel, by decide +kernel⟩
theorem lk_X10_402 : Lv RX10 402 yX10_valueOf 10 2 := ⟨(gt8 100 rfl rfl), (gt8 102 rfl rfl), (gs6 (q := (⟨"RiddleDoorsModel", "valueOf", "(II)I"⟩, _)) 7 rfl), by decide, by decide +kernel⟩
theorem mc_X10_valueOf : Mc yX10_valueOf cX10_valueOf 4 (some .int) := ⟨(gt8 103 rfl rfl), (gt1 11 rfl rfl), by decide, by decide +kernel, by decide +kernel⟩
theorem lk_X10_405 : Ls RX10 405 yX10_works 3 := ⟨(gt8 104 rfl rfl), (gt8 105 rfl rfl), by decide +kernel⟩
theorem mc_X10_works : Mc yX10_works cX10_works 3 (some .int) := ⟨(gt8 106 rfl rfl), (gt1 11 rfl rfl), by decide, by decide +kernel, by decide +kernel⟩
theorem lk_L_146 : Lv RL 146 yX10_numberings 10 0 := ⟨(gt8 107 rfl rfl), (gt8 108 rfl rfl), (gt8 109 rfl rfl), by decide, by decide +kernel⟩
theorem mc_X10_numberings : Mc yX10_numberings cX10_numberings 1 (some .int) := ⟨(gt8 110 rfl rfl), (gt1 11 rfl rfl), by decide, by decide +kernel, by decide +kernel⟩
theorem lk_X10_436 : Lv RX10 436 yX10_seeksAll 10 0 := ⟨(gt8 111 rfl rfl), (gt8 113 rfl rfl), (gs6 (q := (⟨"RiddleDoorsModel", "seeksAll", "()Z"⟩, _)) 8 rfl), by decide, by decide +kernel⟩
theorem mc_X10_seeksAll : Mc yX10_seeksAll cX10_seeksAll 1 (some .boolean) := ⟨(gt8 114 rfl rfl), (gt1 11 rfl rfl), by decide, by decide +kernel, by decide +kernel⟩
theorem lk_X10_429 : Lv RX10 429 yX10_speaking 10 0 := ⟨(gt8 115 rfl rfl), (gt8 117 rfl rfl), (gs6 (q := (⟨"RiddleDoorsModel", "speaking", "()I"⟩, _)) 9 rfl), by decide, by decide +kernel⟩
theorem mc_X10_speaking : Mc yX10_speaking cX10_speaking 3 (some .int) := ⟨(gt8 118 rfl rfl), (gt1 11 rfl rfl), by decide, by decide +kernel, by decide +kernel⟩
theorem lk_X10_432 : Lv RX10 432 yX10_seeks 10 3 := ⟨(gt8 119 rfl rfl), (gt8 121 rfl rfl), (gs6 (q := (⟨"RiddleDoorsModel", "seeks", "(IZI)Z"⟩, _)) 10 rfl), by decide, by decide +kernel⟩
theorem mc_X10_seeks : Mc yX10_seeks cX10_seeks 6 (some .boolean) := ⟨(gt8 122 rfl rfl), (gt1 11 rfl rfl), by decide, by decide +kernel, by decide +kernel⟩
theorem lk_X10_422 : Lv RX10 422 yX10_isAllowed 10 3 := ⟨(gt8 123 rfl rfl), (gt8 125 rfl rfl), (gs6 (q := (⟨"RiddleDoorsModel", "isAllowed", "(IIZ)Z"⟩, _)) 11 rfl), by decide, by decide +kernel⟩
theorem mc_X10_isAllowed : Mc yX10_isAllowed cX10_isAllowed 5 (some .boolean) := ⟨(gt8 126 rfl rfl), (gt1 11 rfl rfl), by decide, by decide +kernel, by decide +kernel⟩
theorem lk_X10_426 : Lv RX10 426 yX10_askedAt 10 1 := ⟨(gt8 127 rfl rfl), (gt8 129 rfl rfl), (gs6 (q := (⟨"RiddleDoorsModel", "askedAt", "(I)I"⟩, _)) 12 rfl), by decide, by decide +kernel⟩
theorem mc_X10_askedAt : Mc yX10_askedAt cX10_askedAt 4 (some .int) := ⟨(gt8 130 rfl rfl), (gt1 11 rfl rfl), by decide, by decide +kernel, by decide +kernel⟩
theorem lk_L_150 : Lv RL 150 yX10_tries 10 0 := ⟨(gt8 131 rfl rfl), (gt8 132 rfl rfl), (gt8 133 rfl rfl), by decide, by decide +kernel⟩
theorem mc_X10_tries : Mc yX10_tries cX10_tries 1 (some .int) := ⟨(gt8 134 rfl rfl), (gt1 11 rfl rfl), by decide, by decide +kernel, by decide +kernel⟩
theorem lk_L_153 : Lv RL 153 yX10_number 10 2 := ⟨(gt8 135 rfl rfl), (gt8 136 rfl rfl), (gt8 137 rfl rfl), by decide, by decide +kernel⟩
theorem mc_X10_number : Mc yX10_number cX10_number 4 (some .int) := ⟨(gt8 138 rfl rfl), (gt1 11 rfl rfl), by decide, by decide +kernel, by decide +kernel⟩
theorem lk_X10_439 : Lv RX10 439 yX10_at 10 2 := ⟨(gt8 139 rfl rfl), (gt8 141 rfl rfl), (gs6 (q := (⟨"RiddleDoorsModel", "at", "(II)I"⟩, _)) 13 rfl), by decide, by decide +kernel⟩
theorem mc_X10_at : Mc yX10_at cX10_at 3 (some .int) := ⟨(gt8 142 rfl rfl), (gt1 11 rfl rfl), by decide, by decide +kernel, by decide +kernel⟩
theorem lk_L_156 : Lv RL 156 yX10_may 10 1 := ⟨(gt8 143 rfl rfl), (gt8 144 rfl rfl), (gt8 145 rfl rfl), by decide, by decide +kernel⟩
theorem mc_X10_may : Mc yX10_may cX10_may 2 (some .int) := ⟨(gt8 146 rfl rfl), (gt1 11 rfl rfl), by decide, by decide +kernel, by decide +kernel⟩
theorem lk_X10_442 : Lv RX10 442 yX10_mayOf 10 1 := ⟨(gt8 147 rfl rfl), (gt8 149 rfl rfl), (gs6 (q := (⟨"RiddleDoorsModel", "mayOf", "(I)I"⟩, _)) 14 rfl), by decide, by decide +kernel⟩
theorem mc_X10_mayOf : Mc yX10_mayOf cX10_mayOf 4 (some .int) := ⟨(gt8 150 rfl rfl), (gt1 11 rfl rfl), by decide, by decide +kernel, by decide +kernel⟩
theorem lk_L_166 : Lv RL 166 yX10_knot 10 0 := ⟨(gt8 151 rfl rfl), (gt8 152 rfl rfl), (gt8 153 rfl rfl), by decide, by decide +kernel⟩
theorem mc_X10_knot : Mc yX10_knot cX10_knot 1 (some .int) := ⟨(gt8 154 rfl rfl), (gt1 11 rfl rfl), by decide, by decide +kernel, by decide +kernel⟩
theorem lk_X10_445 : Lv RX10 445 yX10_smallestKnot 10 0 := ⟨(gt8 155 rfl rfl), (gt8 157 rfl rfl), (gs6 (q := (⟨"RiddleDoorsModel", "smallestKnot", "()I"⟩, _)) 15 rfl), by decide, by decide +kernel⟩
theorem mc_X10_smallestKnot : Mc yX10_smallestKnot cX10_smallestKnot 4 (some .int) := ⟨(gt8 158 rfl rfl), (gt1 11 rfl rfl), by decide, by decide +kernel, by decide +kernel⟩
theorem lk_X10_448 : Ls RX10 448 yX10_bits 1 := ⟨(gt8 159 rfl rfl), (gt8 160 rfl rfl), by decide +kernel⟩
theorem mc_X10_bits : Mc yX10_bits cX10_bits 3 (some .int) := ⟨(gt8 161 rfl rfl), (gt1 11 rfl rfl), by decide, by decide +kernel, by decide +kernel⟩
theorem lk_L_170 : Lv RL 170 yX10_liars 10 0 := ⟨(gt8 162 rfl rfl), (gt8 163 rfl rfl), (gt8 164 rfl rfl), by decide, by decide +kernel⟩
theorem mc_X10_liars : Mc yX10_liars cX10_liars 4 (some .int) := ⟨(gt8 165 rfl rfl), (gt1 11 rfl rfl), by decide, by decide +kernel, by decide +kernel⟩
theorem lk_L_173 : Lv RL 173 yX10_looks 10 1 := ⟨(gt8 166 rfl rfl), (gt8 167 rfl rfl), (gt8 168 rfl rfl), by decide, by decide +kernel⟩
theorem mc_X10_looks : Mc yX10_looks cX10_looks 6 (some .int) := ⟨(gt8 169 rfl rfl), (gt1 11 rfl rfl), by decide, by decide +kernel, by decide +kernel⟩
theorem lk_X10_455 : Lv RX10 455 yX10_fewestLooks 10 0 := ⟨(gt8 170 rfl rfl), (gt8 172 rfl rfl), (gs7 (q := (⟨"RiddleDoorsModel", "fewestLooks", "()I"⟩, _)) 0 rfl), by decide, by decide +kernel⟩
theorem mc_X10_fewestLooks : Mc yX10_fewestLooks cX10_fewestLooks 4 (some .int) := ⟨(gt8 173 rfl rfl), (gt1 11 rfl rfl), by decide, by decide +kernel, by decide +kernel⟩
theorem lk_X10_462 : Lv RX10 462 yX10_isFew 10 0 := ⟨(gt8 174 rfl rfl), (gt8 176 rfl rfl), (gs7 (q := (⟨"RiddleDoorsModel", "isFew", "()Z"⟩, _)) 1 rfl), by decide, by decide +kernel⟩
theorem mc_X10_isFew : Mc yX10_isFew cX10_isFew 3 (some .boolean) := ⟨(gt8 177 rfl rfl), (gt1 11 rfl rfl), by decide, by decide +kernel, by decide +kernel⟩
theorem lk_X10_458 : Lv RX10 458 yX10_tells 10 3 := ⟨(gt8 178 rfl rfl), (gt8 180 rfl rfl), (gs7 (q := (⟨"RiddleDoorsModel", "tells", "(JII)Z"⟩, _)) 2 rfl), by decide, by decide +kernel⟩
theorem mc_X10_tells : Mc yX10_tells cX10_tells 8 (some .boolean) := ⟨(gt8 181 rfl rfl), (gt1 11 rfl rfl), by decide, by decide +kernel, by decide +kernel⟩
theorem lk_X10_451 : Ls RX10 451 yX10_isOne 1 := ⟨(gt8 182 rfl rfl), (gt8 183 rfl rfl), by decide +kernel⟩
theorem mc_X10_isOne : Mc yX10_isOne cX10_isOne 2 (some .boolean) := ⟨(gt8 184 rfl rfl), (gt1 11 rfl rfl), by decide, by decide +kernel, by decide +kernel⟩
theorem lk_L_177 : Lv RL 177 yX10_doors 10 0 := ⟨(gt8 185 rfl rfl), (gt8 186 rfl rfl), (gt8 187 rfl rfl), by decide, by decide +kernel⟩
theorem mc_X10_doors : Mc yX10_doors cX10_doors 1 (some .int) := ⟨(gt8 188 rfl rfl), (gt1 11 rfl rfl), by decide, by decide +kernel, by decide +kernel⟩
theorem lk_X10_468 : Lv RX10 468 yX10_smallest 10 1 := ⟨(gt8 189 rfl rfl), (gt8 191 rfl rfl), (gs7 (q := (⟨"RiddleDoorsModel", "smallest", "(I)I"⟩, _)) 3 rfl), by decide, by decide +kernel⟩
theorem mc_X10_smallest : Mc yX10_smallest cX10_smallest 7 (some .int) := ⟨(gt8 192 rfl rfl), (gt1 11 rfl rfl), by decide, by decide +kernel, by decide +kernel⟩
theorem lk_X10_465 : Lv RX10 465 yX10_isLike 10 3 := ⟨(gt8 193 rfl rfl), (gt8 195 rfl rfl), (gs7 (q := (⟨"RiddleDoorsModel", "isLike", "(III)Z"⟩, _)) 4 rfl), by decide, by decide +kernel⟩
theorem mc_X10_isLike : Mc yX10_isLike cX10_isLike 5 (some .boolean) := ⟨(gt8 196 rfl rfl), (gt1 11 rfl rfl), by decide, by decide +kernel, by decide +kernel⟩
theorem lk_L_180 : Lv RL 180 yX10_hints 10 1 := ⟨(gt8 197 rfl rfl), (gt8 198 rfl rfl), (gt8 199 rfl rfl), by decide, by decide +kernel⟩
theorem mc_X10_hints : Mc yX10_hints cX10_hints 2 (some .int) := ⟨(gt8 200 rfl rfl), (gt1 11 rfl rfl), by decide, by decide +kernel, by decide +kernel⟩
theorem lk_L_183 : Lv RL 183 yX10_post 10 2 := ⟨(gt8 201 rfl rfl), (gt8 202 rfl rfl), (gt8 203 rfl rfl), by decide, by decide +kernel⟩
theorem mc_X10_post : Mc yX10_post cX10_post 8 (some .int) := ⟨(gt8 204 rfl rfl), (gt1 11 rfl rfl), by decide, by decide +kernel, by decide +kernel⟩
theorem lk_L_186 : Lv RL 186 yX10_feud 10 3 := ⟨(gt8 205 rfl rfl), (gt8 206 rfl rfl), (gt8 207 rfl rfl), by decide, by decide +kernel⟩
theorem mc_X10_feud : Mc yX10_feud cX10_feud 7 (some .int) := ⟨(gt8 208 rfl rfl), (gt1 11 rfl rfl), by decide, by decide +kernel, by decide +kernel⟩
theorem lk_X10_471 : Lv RX10 471 yX10_gainOf 10 2 := ⟨(gt8 209 rfl rfl), (gt8 211 rfl rfl), (gs7 (q := (⟨"RiddleDoorsModel", "gainOf", "(II)I"⟩, _)) 5 rfl), by decide, by decide +kernel⟩
theorem mc_X10_gainOf : Mc yX10_gainOf cX10_gainOf 3 (some .int) := ⟨(gt8 212 rfl rfl), (gt1 11 rfl rfl), by decide, by decide +kernel, by decide +kernel⟩
theorem lk_L_189 : Lv RL 189 yX10_years 10 2 := ⟨(gt8 213 rfl rfl), (gt8 214 rfl rfl), (gt8 215 rfl rfl), by decide, by decide +kernel⟩
theorem mc_X10_years : Mc yX10_years cX10_years 8 (some .int) := ⟨(gt8 216 rfl rfl), (gt1 11 rfl rfl), by decide, by decide +kernel, by decide +kernel⟩
theorem ic_X10_474 : Cond.constant RX10 474 (1103515245) ∈ gw := (gt8 217 rfl rfl)
theorem lk_L_192 : Lv RL 192 yX10_proof 10 1 := ⟨(gt8 218 rfl rfl), (gt8 219 rfl rfl), (gt8 220 rfl rfl), by decide, by decide +kernel⟩
theorem mc_X10_proof : Mc yX10_proof cX10_proof 6 (some .int) := ⟨(gt8 221 rfl rfl), (gt1 11 rfl rfl), by decide, by decide +kernel, by decide +kernel⟩
theorem lk_L_195 : Lv RL 195 yX10_build 10 1 := ⟨(gt8 222 rfl rfl), (gt8 223 rfl rfl), (gt8 224 rfl rfl), by decide, by decide +kernel⟩
theorem mc_X10_build : Mc yX10_build cX10_build 3 (some .int) := ⟨(gt8 225 rfl rfl), (gt1 11 rfl rfl), by decide, by decide +kernel, by decide +kernel⟩
theorem lk_X10_484 : Lv RX10 484 yX10_buildsAll 10 0 := ⟨(gt8 226 rfl rfl), (gt8 228 rfl rfl), (gs7 (q := (⟨"RiddleDoorsModel", "buildsAll", "()Z"⟩, _)) 6 rfl), by decide, by decide +kernel⟩
theorem mc_X10_buildsAll : Mc yX10_buildsAll cX10_buildsAll 3 (some .boolean) := ⟨(gt8 229 rfl rfl), (gt1 11 rfl rfl), by decide, by decide +kernel, by decide +kernel⟩
theorem lk_X10_481 : Lv RX10 481 yX10_builds 10 3 := ⟨(gt8 230 rfl rfl), (gt8 232 rfl rfl), (gs7 (q := (⟨"RiddleDoorsModel", "builds", "(III)Z"⟩, _)) 7 rfl), by decide, by decide +kernel⟩
theorem mc_X10_builds : Mc yX10_builds cX10_builds 4 (some .boolean) := ⟨(gt8 233 rfl rfl), (gt1 11 rfl rfl), by decide, by decide +kernel, by decide +kernel⟩
theorem lk_L_199 : Lv RL 199 yX10_changed 10 4 := ⟨(gt8 234 rfl rfl), (gt8 235 rfl rfl), (gt8 236 rfl rfl), by decide, by decide +kernel⟩
theorem mc_X10_changed : Mc yX10_changed cX10_changed 11 (some .int) := ⟨(gt8 237 rfl rfl), (gt1 11 rfl rfl), by decide, by decide +kernel, by decide +kernel⟩
theorem lk_L_202 : Lv RL 202 yX10_walk 10 3 := ⟨(gt8 238 rfl rfl), (gt8 239 rfl rfl), (gt9 0 rfl rfl), by decide, by decide +kernel⟩
theorem mc_X10_walk : Mc yX10_walk cX10_walk 10 (some .int) := ⟨(gt9 1 rfl rfl), (gt1 11 rfl rfl), by decide, by decide +kernel, by decide +kernel⟩
theorem lk_X10_493 : Lv RX10 493 yX10_best 10 3 := ⟨(gt9 2 rfl rfl), (gt9 4 rfl rfl), (gs7 (q := (⟨"RiddleDoorsModel", "best", "(III)I"⟩, _)) 8 rfl), by decide, by decide +kernel⟩
theorem mc_X10_best : Mc yX10_best cX10_best 8 (some .int) := ⟨(gt9 5 rfl rfl), (gt1 11 rfl rfl), by decide, by decide +kernel, by decide +kernel⟩
theorem lk_X10_490 : Ls RX10 490 yX10_far 3 := ⟨(gt9 6 rfl rfl), (gt9 7 rfl rfl), by decide +kernel⟩
theorem mc_X10_far : Mc yX10_far cX10_far 5 (some .int) := ⟨(gt9 8 rfl rfl), (gt1 11 rfl rfl), by decide, by decide +kernel, by decide +kernel⟩
theorem lk_L_205 : Lv RL 205 yX10_door 10 1 := ⟨(gt9 9 rfl rfl), (gt9 10 rfl rfl), (gt9 11 rfl rfl), by decide, by decide +kernel⟩
theorem mc_X10_door : Mc yX10_door cX10_door 2 (some .int) := ⟨(gt9 12 rfl rfl), (gt1 11 rfl rfl), by decide, by decide +kernel, by decide +kernel⟩
theorem lk_L_208 : Lv RL 208 yX10_ring 10 2 := ⟨(gt9 13 rfl rfl), (gt9 14 rfl rfl), (gt9 15 rfl rfl), by decide, by decide +kernel⟩
theorem mc_X10_ring : Mc yX10_ring cX10_ring 3 (some .int) := ⟨(gt9 16 rfl rfl), (gt1 11 rfl rfl), by decide, by decide +kernel, by decide +kernel⟩
theorem lk_X10_499 : Lv RX10 499 yX10_ringOf 10 1 := ⟨(gt9 17 rfl rfl), (gt9 19 rfl rfl), (gs7 (q := (⟨"RiddleDoorsModel", "ringOf", "(I)I"⟩, _)) 9 rfl), by decide, by decide +kernel⟩
theorem mc_X10_ringOf : Mc yX10_ringOf cX10_ringOf 7 (some .int) := ⟨(gt9 20 rfl rfl), (gt1 11 rfl rfl), by decide, by decide +kernel, by decide +kernel⟩
theorem lk_X10_496 : Lv RX10 496 yX10_leans 10 1 := ⟨(gt9 21 rfl rfl), (gt9 23 rfl rfl), (gs7 (q := (⟨"RiddleDoorsModel", "leans", "(I)I"⟩, _)) 10 rfl), by decide, by decide +kernel⟩
theorem mc_X10_leans : Mc yX10_leans cX10_leans 2 (some .int) := ⟨(gt9 24 rfl rfl), (gt1 11 rfl rfl), by decide, by decide +kernel, by decide +kernel⟩
theorem lk_X10_502 : Lv RX10 502 yX10_levelOf 10 1 := ⟨(gt9 25 rfl rfl), (gt9 27 rfl rfl), (gs7 (q := (⟨"RiddleDoorsModel", "levelOf", "(I)I"⟩, _)) 11 rfl), by decide, by decide +kernel⟩
theorem mc_X10_levelOf : Mc yX10_levelOf cX10_levelOf 6 (some .int) := ⟨(gt9 28 rfl rfl), (gt1 11 rfl rfl), by decide, by decide +kernel, by decide +kernel⟩
theorem lk_L_211 : Lv RL 211 yX10_written 10 1 := ⟨(gt9 29 rfl rfl), (gt9 30 rfl rfl), (gt9 31 rfl rfl), by decide, by decide +kernel⟩
theorem mc_X10_written : Mc yX10_written cX10_written 2 (some .int) := ⟨(gt9 32 rfl rfl), (gt1 11 rfl rfl), by decide, by decide +kernel, by decide +kernel⟩
theorem lk_X10_523 : Lv RX10 523 yX10_writesAll 10 0 := ⟨(gt9 33 rfl rfl), (gt9 35 rfl rfl), (gs7 (q := (⟨"RiddleDoorsModel", "writesAll", "()V"⟩, _)) 12 rfl), by decide, by decide +kernel⟩
theorem mc_X10_writesAll : Mc yX10_writesAll cX10_writesAll 2 none := ⟨(gt9 36 rfl rfl), (gt1 11 rfl rfl), by decide, by decide +kernel, by decide +kernel⟩
theorem lk_X10_514 : Lv RX10 514 yX10_writesWord 10 1 := ⟨(gt9 37 rfl rfl), (gt9 39 rfl rfl), (gs7 (q := (⟨"RiddleDoorsModel", "writesWord", "(I)V"⟩, _)) 13 rfl), by decide, by decide +kernel⟩
theorem mc_X10_writesWord : Mc yX10_writesWord cX10_writesWord 6 none := ⟨(gt9 40 rfl rfl), (gt1 11 rfl rfl), by decide, by decide +kernel, by decide +kernel⟩
theorem lk_X10_508 : Lv RX10 508 yX10_writes 10 1 := ⟨(gt9 41 rfl rfl), (gt9 43 rfl rfl), (gs7 (q := (⟨"RiddleDoorsModel", "writes", "(I)V"⟩, _)) 14 rfl), by decide, by decide +kernel⟩
theorem mc_X10_writes : Mc yX10_writes cX10_writes 2 none := ⟨(gt9 44 rfl rfl), (gt1 11 rfl rfl), by decide, by decide +kernel, by decide +kernel⟩
theorem lk_X10_517 : Lv RX10 517 yX10_writesNumber 10 1 := ⟨(gt9 45 rfl rfl), (gt9 47 rfl rfl), (gs7 (q := (⟨"RiddleDoorsModel", "writesNumber", "(I)V"⟩, _)) 15 rfl), by decide, by decide +kernel⟩
theorem mc_X10_writesNumber : Mc yX10_writesNumber cX10_writesNumber 2 none := ⟨(gt9 48 rfl rfl), (gt1 11 rfl rfl), by decide, by decide +kernel, by decide +kernel⟩
theorem lk_X10_520 : Lv RX10 520 yX10_writesRiddle 10 1 := ⟨(gt9 49 rfl rfl), (gt9 51 rfl rfl), (gs8 (q := (⟨"RiddleDoorsModel", "writesRiddle", "(I)V"⟩, _)) 0 rfl), by decide, by decide +kernel⟩
theorem mc_X10_writesRiddle : Mc yX10_writesRiddle cX10_writesRiddle 7 none := ⟨(gt9 52 rfl rfl), (gt1 11 rfl rfl), by decide, by decide +kernel, by decide +kernel⟩
theorem lk_X10_511 : Ls RX10 511 yX10_isWritten 1 := ⟨(gt9 53 rfl rfl), (gt9 54 rfl rfl), by decide +kernel⟩
theorem mc_X10_isWritten : Mc yX10_isWritten cX10_isWritten 1 (some .boolean) := ⟨(gt9 55 rfl rfl), (gt1 11 rfl rfl), by decide, by decide +kernel, by decide +kernel⟩
theorem lk_L_214 : Lv RL 214 yX10_left 10 2 := ⟨(gt9 56 rfl rfl), (gt9 57 rfl rfl), (gt9 58 rfl rfl), by decide, by decide +kernel⟩
theorem mc_X10_left : Mc yX10_left cX10_left 3 (some .int) := ⟨(gt9 59 rfl rfl), (gt1 11 rfl rfl), by decide, by decide +kernel, by decide +kernel⟩
theorem lk_X10_526 : Lv RX10 526 yX10_leftBy 10 2 := ⟨(gt9 60 rfl rfl), (gt9 62 rfl rfl), (gs8 (q := (⟨"RiddleDoorsModel", "leftBy", "(II)I"⟩, _)) 1 rfl), by decide, by decide +kernel⟩
theorem mc_X10_leftBy : Mc yX10_leftBy cX10_leftBy 5 (some .int) := ⟨(gt9 63 rfl rfl), (gt1 11 rfl rfl), by decide, by decide +kernel, by decide +kernel⟩
theorem lk_L_217 : Lv RL 217 yX10_look 10 2 := ⟨(gt9 64 rfl rfl), (gt9 65 rfl rfl), (gt9 66 rfl rfl), by decide, by decide +kernel⟩
theorem mc_X10_look : Mc yX10_look cX10_look 8 (some .int) := ⟨(gt9 67 rfl rfl), (gt1 11 rfl rfl), by decide, by decide +kernel, by decide +kernel⟩
theorem lk_L_220 : Lv RL 220 yX10_plant 10 2 := ⟨(gt9 68 rfl rfl), (gt9 69 rfl rfl), (gt9 70 rfl rfl), by decide, by decide +kernel⟩
theorem mc_X10_plant : Mc yX10_plant cX10_plant 3 (some .int) := ⟨(gt9 71 rfl rfl), (gt1 11 rfl rfl), by decide, by decide +kernel, by decide +kernel⟩
theorem lk_X10_541 : Lv RX10 541 yX10_plantsAll 10 2 := ⟨(gt9 72 rfl rfl), (gt9 74 rfl rfl), (gs8 (q := (⟨"RiddleDoorsModel", "plantsAll", "(II)I"⟩, _)) 2 rfl), by decide, by decide +kernel⟩
theorem mc_X10_plantsAll : Mc yX10_plantsAll cX10_plantsAll 6 (some .int) := ⟨(gt9 75 rfl rfl), (gt1 11 rfl rfl), by decide, by decide +kernel, by decide +kernel⟩
theorem lk_X10_532 : Lv RX10 532 yX10_draw 10 1 := ⟨(gt9 76 rfl rfl), (gt9 78 rfl rfl), (gs8 (q := (⟨"RiddleDoorsModel", "draw", "(I)I"⟩, _)) 3 rfl), by decide, by decide +kernel⟩
theorem mc_X10_draw : Mc yX10_draw cX10_draw 2 (some .int) := ⟨(gt9 79 rfl rfl), (gt1 11 rfl rfl), by decide, by decide +kernel, by decide +kernel⟩
theorem lk_X10_544 : Lv RX10 544 yX10_plants 10 2 := ⟨(gt9 80 rfl rfl), (gt9 82 rfl rfl), (gs8 (q := (⟨"RiddleDoorsModel", "plants", "(II)V"⟩, _)) 4 rfl), by decide, by decide +kernel⟩
theorem mc_X10_plants : Mc yX10_plants cX10_plants 5 none := ⟨(gt9 83 rfl rfl), (gt1 11 rfl rfl), by decide, by decide +kernel, by decide +kernel⟩
theorem lk_X10_535 : Lv RX10 535 yX10_plantsValue 10 1 := ⟨(gt9 84 rfl rfl), (gt9 86 rfl rfl), (gs8 (q := (⟨"RiddleDoorsModel", "plantsValue", "(I)V"⟩, _)) 5 rfl), by decide, by decide +kernel⟩
theorem mc_X10_plantsValue : Mc yX10_plantsValue cX10_plantsValue 2 none := ⟨(gt9 87 rfl rfl), (gt1 11 rfl rfl), by decide, by decide +kernel, by decide +kernel⟩
theorem lk_X10_538 : Lv RX10 538 yX10_plantsAct 10 1 := ⟨(gt9 88 rfl rfl), (gt9 90 rfl rfl), (gs8 (q := (⟨"RiddleDoorsModel", "plantsAct", "(I)V"⟩, _)) 6 rfl), by decide, by decide +kernel⟩
theorem mc_X10_plantsAct : Mc yX10_plantsAct cX10_plantsAct 2 none := ⟨(gt9 91 rfl rfl), (gt1 11 rfl rfl), by decide, by decide +kernel, by decide +kernel⟩
theorem lk_L_223 : Lv RL 223 yX10_tried 10 4 := ⟨(gt9 92 rfl rfl), (gt9 93 rfl rfl), (gt9 94 rfl rfl), by decide, by decide +kernel⟩
theorem mc_X10_tried : Mc yX10_tried cX10_tried 11 (some .int) := ⟨(gt9 95 rfl rfl), (gt1 11 rfl rfl), by decide, by decide +kernel, by decide +kernel⟩
theorem lk_X10_551 : Lv RX10 551 yX10_keepsStreet 10 0 := ⟨(gt9 96 rfl rfl), (gt9 98 rfl rfl), (gs8 (q := (⟨"RiddleDoorsModel", "keepsStreet", "()V"⟩, _)) 7 rfl), by decide, by decide +kernel⟩
theorem mc_X10_keepsStreet : Mc yX10_keepsStreet cX10_keepsStreet 1 none := ⟨(gt9 99 rfl rfl), (gt1 11 rfl rfl), by decide, by decide +kernel, by decide +kernel⟩
theorem lk_X10_554 : Lv RX10 554 yX10_lawHolds 10 2 := ⟨(gt9 100 rfl rfl), (gt9 102 rfl rfl), (gs8 (q := (⟨"RiddleDoorsModel", "lawHolds", "(II)I"⟩, _)) 8 rfl), by decide, by decide +kernel⟩
theorem mc_X10_lawHolds : Mc yX10_lawHolds cX10_lawHolds 4 (some .int) := ⟨(gt9 103 rfl rfl), (gt1 11 rfl rfl), by decide, by decide +kernel, by decide +kernel⟩
theorem lk_X10_557 : Lv RX10 557 yX10_takesStreet 10 0 := ⟨(gt9 104 rfl rfl), (gt9 106 rfl rfl), (gs8 (q := (⟨"RiddleDoorsModel", "takesStreet", "()V"⟩, _)) 9 rfl), by decide, by decide +kernel⟩
theorem mc_X10_takesStreet : Mc yX10_takesStreet cX10_takesStreet 1 none := ⟨(gt9 107 rfl rfl), (gt1 11 rfl rfl), by decide, by decide +kernel, by decide +kernel⟩
theorem lk_L_227 : Lv RL 227 yX10_image 10 0 := ⟨(gt9 108 rfl rfl), (gt9 109 rfl rfl), (gt9 110 rfl rfl), by decide, by decide +kernel⟩
theorem mc_X10_image : Mc yX10_image cX10_image 1 none := ⟨(gt9 111 rfl rfl), (gt1 11 rfl rfl), by decide, by decide +kernel, by decide +kernel⟩
theorem lk_L_232 : Lv RL 232 yX10_restore 10 0 := ⟨(gt9 112 rfl rfl), (gt9 113 rfl rfl), (gt9 114 rfl rfl), by decide, by decide +kernel⟩
theorem mc_X10_restore : Mc yX10_restore cX10_restore 1 (some .boolean) := ⟨(gt9 115 rfl rfl), (gt1 11 rfl rfl), by decide, by decide +kernel, by decide +kernel⟩
theorem lc_L_157 : Cond.constantLong RL 157 (4294967295) ∈ gw := (gt9 116 rfl rfl)
theorem xi_IllegalArgumentException : Cond.initialized "java/lang/IllegalArgumentException" ∈ gw := (gt1 15 rfl rfl)
theorem xi_NoSuchElementException : Cond.initialized "java/util/NoSuchElementException" ∈ gw := (gt1 23 rfl rfl)
theorem xa_iae : ∀ w ∈ (vx_at0 RX9 112 "java/lang/IllegalArgumentException" ["java/lang/RuntimeException", "java/lang/Exception"]).filter goodWord, w ∈ gw := fun w hw => List.mem_filter.mpr ⟨(by decide +kernel : ∀ w ∈ (vx_at0 RX9 112 "java/lang/IllegalArgumentException" ["java/lang/RuntimeException", "java/lang/Exception"]).filter goodWord, w ∈ lw_tbl) w hw, (List.mem_filter.mp hw).2⟩
theorem xb_iae : ∀ w ∈ (vx_at0 RX9 112 "java/lang/IllegalArgumentException" ["java/lang/RuntimeException", "java/lang/Exception"]).filter (fun w => !goodWord w), w ∈ xc.map (fun X => Cond.castable X X) ++ xd.map Cond.declares := by decide +kernel
theorem xa_nse : ∀ w ∈ (vx_at0 RX9 141 "java/util/NoSuchElementException" ["java/lang/RuntimeException", "java/lang/Exception"]).filter goodWord, w ∈ gw := fun w hw => List.mem_filter.mpr ⟨(by decide +kernel : ∀ w ∈ (vx_at0 RX9 141 "java/util/NoSuchElementException" ["java/lang/RuntimeException", "java/lang/Exception"]).filter goodWord, w ∈ lw_tbl) w hw, (List.mem_filter.mp hw).2⟩
theorem xb_nse : ∀ w ∈ (vx_at0 RX9 141 "java/util/NoSuchElementException" ["java/lang/RuntimeException", "java/lang/Exception"]).filter (fun w => !goodWord w), w ∈ xc.map (fun X => Cond.castable X X) ++ xd.map Cond.declares := by decide +kernel
theorem oi_in : Cond.instanceMethod Lib.objectInit ∈ gw := (gt1 33 rfl rfl)
theorem oi_co : Cond.code Lib.objectInit ⟨#[0xb1]⟩ 1 none ∈ gw := (gt1 34 rfl rfl)
theorem oi_X9 : Cond.methodLink RX9 1 Lib.objectInit ∈ gw := (gt1 32 rfl rfl)
theorem oi_X7 : Cond.methodLink RX7 3 Lib.objectInit ∈ gw := (gt1 40 rfl rfl)
theorem oi_X2 : Cond.methodLink RX2 3 Lib.objectInit ∈ gw := (gt1 112 rfl rfl)
theorem oi_X6 : Cond.methodLink RX6 3 Lib.objectInit ∈ gw := (gt1 153 rfl rfl)
theorem oi_X0 : Cond.methodLink RX0 3 Lib.objectInit ∈ gw := (gt1 200 rfl rfl)
theorem oi_X3 : Cond.methodLink RX3 3 Lib.objectInit ∈ gw := (gt1 227 rfl rfl)
theorem oi_X8 : Cond.methodLink RX8 3 Lib.objectInit ∈ gw := (gt2 6 rfl rfl)
theorem oi_X5 : Cond.methodLink RX5 3 Lib.objectInit ∈ gw := (gt2 37 rfl rfl)
theorem oi_X1 : Cond.methodLink RX1 1 Lib.objectInit ∈ gw := (gt2 85 rfl rfl)
theorem oi_X4 : Cond.methodLink RX4 1 Lib.objectInit ∈ gw := (gt2 95 rfl rfl)
theorem oi_X10 : Cond.methodLink RX10 1 Lib.objectInit ∈ gw := (gt6 88 rfl rfl)
