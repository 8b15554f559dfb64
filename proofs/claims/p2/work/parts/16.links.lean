/-! BY PROGRAM (tools/mklinks.py): the tables' words behind each pool entry -/
theorem fX1_25 : fp_F RX1 25 1 0 0 .int false := ⟨⟨_, rfl, by decide, List.mem_of_getElem? (i := 118) (by decide +kernel)⟩, rfl, _, rfl, by decide +kernel, rfl⟩
theorem fX5_36 : fp_F RX5 36 1 0 0 .int false := ⟨⟨_, rfl, by decide, List.mem_of_getElem? (i := 119) (by decide +kernel)⟩, rfl, _, rfl, by decide +kernel, rfl⟩
theorem fX6_129 : fp_F RX6 129 1 0 0 .int false := ⟨⟨_, rfl, by decide, List.mem_of_getElem? (i := 120) (by decide +kernel)⟩, rfl, _, rfl, by decide +kernel, rfl⟩
theorem fX11_268 : fp_F RX11 268 1 0 0 .int false := ⟨⟨_, rfl, by decide, List.mem_of_getElem? (i := 121) (by decide +kernel)⟩, rfl, _, rfl, by decide +kernel, rfl⟩
theorem fX1_28 : fp_F RX1 28 1 1 0 .int false := ⟨⟨_, rfl, by decide, List.mem_of_getElem? (i := 122) (by decide +kernel)⟩, rfl, _, rfl, by decide +kernel, rfl⟩
theorem fX8_50 : fp_F RX8 50 1 1 0 .int false := ⟨⟨_, rfl, by decide, List.mem_of_getElem? (i := 123) (by decide +kernel)⟩, rfl, _, rfl, by decide +kernel, rfl⟩
theorem fX6_154 : fp_F RX6 154 1 1 0 .int false := ⟨⟨_, rfl, by decide, List.mem_of_getElem? (i := 124) (by decide +kernel)⟩, rfl, _, rfl, by decide +kernel, rfl⟩
theorem fX11_225 : fp_F RX11 225 1 1 0 .int false := ⟨⟨_, rfl, by decide, List.mem_of_getElem? (i := 125) (by decide +kernel)⟩, rfl, _, rfl, by decide +kernel, rfl⟩
theorem fX1_9 : fp_F RX1 9 1 2 0 .int false := ⟨⟨_, rfl, by decide, List.mem_of_getElem? (i := 126) (by decide +kernel)⟩, rfl, _, rfl, by decide +kernel, rfl⟩
theorem fX11_178 : fp_F RX11 178 1 2 0 .int false := ⟨⟨_, rfl, by decide, List.mem_of_getElem? (i := 127) (by decide +kernel)⟩, rfl, _, rfl, by decide +kernel, rfl⟩
theorem fX8_113 : fp_F RX8 113 1 2 0 .int false := ⟨⟨_, rfl, by decide, List.mem_of_getElem? (i := 128) (by decide +kernel)⟩, rfl, _, rfl, by decide +kernel, rfl⟩
theorem fX6_177 : fp_F RX6 177 1 2 0 .int false := ⟨⟨_, rfl, by decide, List.mem_of_getElem? (i := 129) (by decide +kernel)⟩, rfl, _, rfl, by decide +kernel, rfl⟩
theorem fX1_15 : fp_F RX1 15 1 3 2 (.array .int) true := ⟨⟨_, rfl, by decide, List.mem_of_getElem? (i := 130) (by decide +kernel)⟩, rfl, _, rfl, by decide +kernel, rfl⟩
theorem fX4_42 : fp_F RX4 42 1 3 2 (.array .int) true := ⟨⟨_, rfl, by decide, List.mem_of_getElem? (i := 131) (by decide +kernel)⟩, rfl, _, rfl, by decide +kernel, rfl⟩
theorem fX11_134 : fp_F RX11 134 1 3 2 (.array .int) true := ⟨⟨_, rfl, by decide, List.mem_of_getElem? (i := 132) (by decide +kernel)⟩, rfl, _, rfl, by decide +kernel, rfl⟩
theorem fX6_139 : fp_F RX6 139 1 3 2 (.array .int) true := ⟨⟨_, rfl, by decide, List.mem_of_getElem? (i := 133) (by decide +kernel)⟩, rfl, _, rfl, by decide +kernel, rfl⟩
theorem fX1_19 : fp_F RX1 19 1 4 2 (.array .int) true := ⟨⟨_, rfl, by decide, List.mem_of_getElem? (i := 134) (by decide +kernel)⟩, rfl, _, rfl, by decide +kernel, rfl⟩
theorem fX6_142 : fp_F RX6 142 1 4 2 (.array .int) true := ⟨⟨_, rfl, by decide, List.mem_of_getElem? (i := 135) (by decide +kernel)⟩, rfl, _, rfl, by decide +kernel, rfl⟩
theorem fX1_22 : fp_F RX1 22 1 5 2 (.array .int) true := ⟨⟨_, rfl, by decide, List.mem_of_getElem? (i := 136) (by decide +kernel)⟩, rfl, _, rfl, by decide +kernel, rfl⟩
theorem fX4_18 : fp_F RX4 18 1 5 2 (.array .int) true := ⟨⟨_, rfl, by decide, List.mem_of_getElem? (i := 137) (by decide +kernel)⟩, rfl, _, rfl, by decide +kernel, rfl⟩
theorem fX11_156 : fp_F RX11 156 1 5 2 (.array .int) true := ⟨⟨_, rfl, by decide, List.mem_of_getElem? (i := 138) (by decide +kernel)⟩, rfl, _, rfl, by decide +kernel, rfl⟩
theorem fX5_46 : fp_F RX5 46 1 5 2 (.array .int) true := ⟨⟨_, rfl, by decide, List.mem_of_getElem? (i := 139) (by decide +kernel)⟩, rfl, _, rfl, by decide +kernel, rfl⟩
theorem fX6_160 : fp_F RX6 160 1 5 2 (.array .int) true := ⟨⟨_, rfl, by decide, List.mem_of_getElem? (i := 140) (by decide +kernel)⟩, rfl, _, rfl, by decide +kernel, rfl⟩
theorem fX5_9 : fp_F RX5 9 5 0 2 (.array .int) true := ⟨⟨_, rfl, by decide, List.mem_of_getElem? (i := 165) (by decide +kernel)⟩, rfl, _, rfl, by decide +kernel, rfl⟩
theorem fX8_56 : fp_F RX8 56 5 0 2 (.array .int) true := ⟨⟨_, rfl, by decide, List.mem_of_getElem? (i := 166) (by decide +kernel)⟩, rfl, _, rfl, by decide +kernel, rfl⟩
theorem fX11_138 : fp_F RX11 138 5 0 2 (.array .int) true := ⟨⟨_, rfl, by decide, List.mem_of_getElem? (i := 167) (by decide +kernel)⟩, rfl, _, rfl, by decide +kernel, rfl⟩
theorem fX6_135 : fp_F RX6 135 5 0 2 (.array .int) true := ⟨⟨_, rfl, by decide, List.mem_of_getElem? (i := 168) (by decide +kernel)⟩, rfl, _, rfl, by decide +kernel, rfl⟩
theorem fX5_15 : fp_F RX5 15 5 1 2 (.array .int) true := ⟨⟨_, rfl, by decide, List.mem_of_getElem? (i := 169) (by decide +kernel)⟩, rfl, _, rfl, by decide +kernel, rfl⟩
theorem fX11_145 : fp_F RX11 145 5 1 2 (.array .int) true := ⟨⟨_, rfl, by decide, List.mem_of_getElem? (i := 170) (by decide +kernel)⟩, rfl, _, rfl, by decide +kernel, rfl⟩
theorem fX6_199 : fp_F RX6 199 5 1 2 (.array .int) true := ⟨⟨_, rfl, by decide, List.mem_of_getElem? (i := 171) (by decide +kernel)⟩, rfl, _, rfl, by decide +kernel, rfl⟩
theorem fX5_18 : fp_F RX5 18 5 2 2 (.array .int) true := ⟨⟨_, rfl, by decide, List.mem_of_getElem? (i := 172) (by decide +kernel)⟩, rfl, _, rfl, by decide +kernel, rfl⟩
theorem fX4_26 : fp_F RX4 26 5 2 2 (.array .int) true := ⟨⟨_, rfl, by decide, List.mem_of_getElem? (i := 173) (by decide +kernel)⟩, rfl, _, rfl, by decide +kernel, rfl⟩
theorem fX0_37 : fp_F RX0 37 5 2 2 (.array .int) true := ⟨⟨_, rfl, by decide, List.mem_of_getElem? (i := 174) (by decide +kernel)⟩, rfl, _, rfl, by decide +kernel, rfl⟩
theorem fX11_151 : fp_F RX11 151 5 2 2 (.array .int) true := ⟨⟨_, rfl, by decide, List.mem_of_getElem? (i := 175) (by decide +kernel)⟩, rfl, _, rfl, by decide +kernel, rfl⟩
theorem fX6_166 : fp_F RX6 166 5 2 2 (.array .int) true := ⟨⟨_, rfl, by decide, List.mem_of_getElem? (i := 176) (by decide +kernel)⟩, rfl, _, rfl, by decide +kernel, rfl⟩
theorem fX5_21 : fp_F RX5 21 5 3 2 (.array .int) true := ⟨⟨_, rfl, by decide, List.mem_of_getElem? (i := 177) (by decide +kernel)⟩, rfl, _, rfl, by decide +kernel, rfl⟩
theorem fX0_26 : fp_F RX0 26 5 3 2 (.array .int) true := ⟨⟨_, rfl, by decide, List.mem_of_getElem? (i := 178) (by decide +kernel)⟩, rfl, _, rfl, by decide +kernel, rfl⟩
theorem fX4_33 : fp_F RX4 33 5 3 2 (.array .int) true := ⟨⟨_, rfl, by decide, List.mem_of_getElem? (i := 179) (by decide +kernel)⟩, rfl, _, rfl, by decide +kernel, rfl⟩
theorem fX11_153 : fp_F RX11 153 5 3 2 (.array .int) true := ⟨⟨_, rfl, by decide, List.mem_of_getElem? (i := 180) (by decide +kernel)⟩, rfl, _, rfl, by decide +kernel, rfl⟩
theorem fX6_168 : fp_F RX6 168 5 3 2 (.array .int) true := ⟨⟨_, rfl, by decide, List.mem_of_getElem? (i := 181) (by decide +kernel)⟩, rfl, _, rfl, by decide +kernel, rfl⟩
theorem fX10_24 : fp_F RX10 24 10 0 0 .int false := ⟨⟨_, rfl, by decide, List.mem_of_getElem? (i := 197) (by decide +kernel)⟩, rfl, _, rfl, by decide +kernel, rfl⟩
theorem fX6_57 : fp_F RX6 57 10 0 0 .int false := ⟨⟨_, rfl, by decide, List.mem_of_getElem? (i := 198) (by decide +kernel)⟩, rfl, _, rfl, by decide +kernel, rfl⟩
theorem fX8_80 : fp_F RX8 80 10 0 0 .int false := ⟨⟨_, rfl, by decide, List.mem_of_getElem? (i := 199) (by decide +kernel)⟩, rfl, _, rfl, by decide +kernel, rfl⟩
theorem fX11_205 : fp_F RX11 205 10 0 0 .int false := ⟨⟨_, rfl, by decide, List.mem_of_getElem? (i := 200) (by decide +kernel)⟩, rfl, _, rfl, by decide +kernel, rfl⟩
theorem fX10_9 : fp_F RX10 9 10 1 2 (.array .int) true := ⟨⟨_, rfl, by decide, List.mem_of_getElem? (i := 201) (by decide +kernel)⟩, rfl, _, rfl, by decide +kernel, rfl⟩
theorem fX11_166 : fp_F RX11 166 10 1 2 (.array .int) true := ⟨⟨_, rfl, by decide, List.mem_of_getElem? (i := 202) (by decide +kernel)⟩, rfl, _, rfl, by decide +kernel, rfl⟩
theorem fX10_15 : fp_F RX10 15 10 2 2 (.array .int) true := ⟨⟨_, rfl, by decide, List.mem_of_getElem? (i := 203) (by decide +kernel)⟩, rfl, _, rfl, by decide +kernel, rfl⟩
theorem fX11_169 : fp_F RX11 169 10 2 2 (.array .int) true := ⟨⟨_, rfl, by decide, List.mem_of_getElem? (i := 204) (by decide +kernel)⟩, rfl, _, rfl, by decide +kernel, rfl⟩
theorem fX10_18 : fp_F RX10 18 10 3 2 (.array .int) true := ⟨⟨_, rfl, by decide, List.mem_of_getElem? (i := 205) (by decide +kernel)⟩, rfl, _, rfl, by decide +kernel, rfl⟩
theorem fX11_172 : fp_F RX11 172 10 3 2 (.array .int) true := ⟨⟨_, rfl, by decide, List.mem_of_getElem? (i := 206) (by decide +kernel)⟩, rfl, _, rfl, by decide +kernel, rfl⟩
theorem fX6_193 : fp_F RX6 193 10 3 2 (.array .int) true := ⟨⟨_, rfl, by decide, List.mem_of_getElem? (i := 207) (by decide +kernel)⟩, rfl, _, rfl, by decide +kernel, rfl⟩
theorem fX10_21 : fp_F RX10 21 10 4 2 (.array .int) true := ⟨⟨_, rfl, by decide, List.mem_of_getElem? (i := 208) (by decide +kernel)⟩, rfl, _, rfl, by decide +kernel, rfl⟩
theorem fX11_175 : fp_F RX11 175 10 4 2 (.array .int) true := ⟨⟨_, rfl, by decide, List.mem_of_getElem? (i := 209) (by decide +kernel)⟩, rfl, _, rfl, by decide +kernel, rfl⟩
theorem fX6_187 : fp_F RX6 187 10 4 2 (.array .int) true := ⟨⟨_, rfl, by decide, List.mem_of_getElem? (i := 210) (by decide +kernel)⟩, rfl, _, rfl, by decide +kernel, rfl⟩
theorem fX6_12 : fp_F RX6 12 6 0 2 (.object "FirstPut$Goods") true := ⟨⟨_, rfl, by decide, List.mem_of_getElem? (i := 222) (by decide +kernel)⟩, rfl, _, rfl, by decide +kernel, rfl⟩
theorem fX11_104 : fp_F RX11 104 6 0 2 (.object "FirstPut$Goods") true := ⟨⟨_, rfl, by decide, List.mem_of_getElem? (i := 223) (by decide +kernel)⟩, rfl, _, rfl, by decide +kernel, rfl⟩
theorem fX6_21 : fp_F RX6 21 6 1 2 (.object "FirstPut$Places") true := ⟨⟨_, rfl, by decide, List.mem_of_getElem? (i := 224) (by decide +kernel)⟩, rfl, _, rfl, by decide +kernel, rfl⟩
theorem fX11_109 : fp_F RX11 109 6 1 2 (.object "FirstPut$Places") true := ⟨⟨_, rfl, by decide, List.mem_of_getElem? (i := 225) (by decide +kernel)⟩, rfl, _, rfl, by decide +kernel, rfl⟩
theorem fX6_28 : fp_F RX6 28 6 2 2 (.object "FirstPut$Visits") true := ⟨⟨_, rfl, by decide, List.mem_of_getElem? (i := 226) (by decide +kernel)⟩, rfl, _, rfl, by decide +kernel, rfl⟩
theorem fX11_115 : fp_F RX11 115 6 2 2 (.object "FirstPut$Visits") true := ⟨⟨_, rfl, by decide, List.mem_of_getElem? (i := 227) (by decide +kernel)⟩, rfl, _, rfl, by decide +kernel, rfl⟩
theorem fX6_43 : fp_F RX6 43 6 3 0 .int false := ⟨⟨_, rfl, by decide, List.mem_of_getElem? (i := 228) (by decide +kernel)⟩, rfl, _, rfl, by decide +kernel, rfl⟩
theorem fX11_98 : fp_F RX11 98 6 3 0 .int false := ⟨⟨_, rfl, by decide, List.mem_of_getElem? (i := 229) (by decide +kernel)⟩, rfl, _, rfl, by decide +kernel, rfl⟩
theorem fX6_73 : fp_F RX6 73 6 4 0 .int false := ⟨⟨_, rfl, by decide, List.mem_of_getElem? (i := 230) (by decide +kernel)⟩, rfl, _, rfl, by decide +kernel, rfl⟩
theorem fX11_101 : fp_F RX11 101 6 4 0 .int false := ⟨⟨_, rfl, by decide, List.mem_of_getElem? (i := 231) (by decide +kernel)⟩, rfl, _, rfl, by decide +kernel, rfl⟩
theorem fX6_32 : fp_F RX6 32 6 5 2 (.array .byte) false := ⟨⟨_, rfl, by decide, List.mem_of_getElem? (i := 232) (by decide +kernel)⟩, rfl, _, rfl, by decide +kernel, rfl⟩
theorem fX6_36 : fp_F RX6 36 6 6 0 .int false := ⟨⟨_, rfl, by decide, List.mem_of_getElem? (i := 233) (by decide +kernel)⟩, rfl, _, rfl, by decide +kernel, rfl⟩
theorem fX6_40 : fp_F RX6 40 6 7 0 .int false := ⟨⟨_, rfl, by decide, List.mem_of_getElem? (i := 234) (by decide +kernel)⟩, rfl, _, rfl, by decide +kernel, rfl⟩
theorem fX6_64 : fp_F RX6 64 6 8 0 .int false := ⟨⟨_, rfl, by decide, List.mem_of_getElem? (i := 235) (by decide +kernel)⟩, rfl, _, rfl, by decide +kernel, rfl⟩
theorem fX6_76 : fp_F RX6 76 6 9 0 .int false := ⟨⟨_, rfl, by decide, List.mem_of_getElem? (i := 236) (by decide +kernel)⟩, rfl, _, rfl, by decide +kernel, rfl⟩
theorem fX6_86 : fp_F RX6 86 6 10 0 .int false := ⟨⟨_, rfl, by decide, List.mem_of_getElem? (i := 237) (by decide +kernel)⟩, rfl, _, rfl, by decide +kernel, rfl⟩
theorem fX6_46 : fp_F RX6 46 6 11 0 .int false := ⟨⟨_, rfl, by decide, List.mem_of_getElem? (i := 238) (by decide +kernel)⟩, rfl, _, rfl, by decide +kernel, rfl⟩
theorem fX6_49 : fp_F RX6 49 6 12 0 .boolean false := ⟨⟨_, rfl, by decide, List.mem_of_getElem? (i := 239) (by decide +kernel)⟩, rfl, _, rfl, by decide +kernel, rfl⟩
theorem fX3_15 : fp_F RX3 15 3 0 0 .int false := ⟨⟨_, rfl, by decide, List.mem_of_getElem? (i := 279) (by decide +kernel)⟩, rfl, _, rfl, by decide +kernel, rfl⟩
theorem fX11_119 : fp_F RX11 119 3 0 0 .int false := ⟨⟨_, rfl, by decide, List.mem_of_getElem? (i := 280) (by decide +kernel)⟩, rfl, _, rfl, by decide +kernel, rfl⟩
theorem fX4_45 : fp_F RX4 45 3 0 0 .int false := ⟨⟨_, rfl, by decide, List.mem_of_getElem? (i := 281) (by decide +kernel)⟩, rfl, _, rfl, by decide +kernel, rfl⟩
theorem fX3_9 : fp_F RX3 9 3 1 2 (.array .int) true := ⟨⟨_, rfl, by decide, List.mem_of_getElem? (i := 282) (by decide +kernel)⟩, rfl, _, rfl, by decide +kernel, rfl⟩
theorem fX4_48 : fp_F RX4 48 3 1 2 (.array .int) true := ⟨⟨_, rfl, by decide, List.mem_of_getElem? (i := 283) (by decide +kernel)⟩, rfl, _, rfl, by decide +kernel, rfl⟩
theorem fX8_11 : fp_F RX8 11 8 0 2 (.array (.object "FirstPut$Places")) true := ⟨⟨_, rfl, by decide, List.mem_of_getElem? (i := 298) (by decide +kernel)⟩, rfl, _, rfl, by decide +kernel, rfl⟩
theorem fX8_17 : fp_F RX8 17 8 1 2 (.array (.object "FirstPut$Places")) true := ⟨⟨_, rfl, by decide, List.mem_of_getElem? (i := 299) (by decide +kernel)⟩, rfl, _, rfl, by decide +kernel, rfl⟩
theorem fX8_20 : fp_F RX8 20 8 2 2 (.array .boolean) true := ⟨⟨_, rfl, by decide, List.mem_of_getElem? (i := 300) (by decide +kernel)⟩, rfl, _, rfl, by decide +kernel, rfl⟩
theorem fX8_67 : fp_F RX8 67 8 3 0 .int false := ⟨⟨_, rfl, by decide, List.mem_of_getElem? (i := 301) (by decide +kernel)⟩, rfl, _, rfl, by decide +kernel, rfl⟩
theorem fX11_249 : fp_F RX11 249 8 3 0 .int false := ⟨⟨_, rfl, by decide, List.mem_of_getElem? (i := 302) (by decide +kernel)⟩, rfl, _, rfl, by decide +kernel, rfl⟩
theorem fX8_24 : fp_F RX8 24 8 4 2 (.array .int) true := ⟨⟨_, rfl, by decide, List.mem_of_getElem? (i := 303) (by decide +kernel)⟩, rfl, _, rfl, by decide +kernel, rfl⟩
theorem fX11_246 : fp_F RX11 246 8 4 2 (.array .int) true := ⟨⟨_, rfl, by decide, List.mem_of_getElem? (i := 304) (by decide +kernel)⟩, rfl, _, rfl, by decide +kernel, rfl⟩
theorem fX8_28 : fp_F RX8 28 8 5 2 (.array .int) true := ⟨⟨_, rfl, by decide, List.mem_of_getElem? (i := 305) (by decide +kernel)⟩, rfl, _, rfl, by decide +kernel, rfl⟩
theorem fX8_31 : fp_F RX8 31 8 6 2 (.array .long) true := ⟨⟨_, rfl, by decide, List.mem_of_getElem? (i := 306) (by decide +kernel)⟩, rfl, _, rfl, by decide +kernel, rfl⟩
theorem fX11_260 : fp_F RX11 260 8 6 2 (.array .long) true := ⟨⟨_, rfl, by decide, List.mem_of_getElem? (i := 307) (by decide +kernel)⟩, rfl, _, rfl, by decide +kernel, rfl⟩
theorem fX0_40 : fp_F RX0 40 0 0 0 .int false := ⟨⟨_, rfl, by decide, List.mem_of_getElem? (i := 333) (by decide +kernel)⟩, rfl, _, rfl, by decide +kernel, rfl⟩
theorem fX0_76 : fp_F RX0 76 0 1 0 .int false := ⟨⟨_, rfl, by decide, List.mem_of_getElem? (i := 334) (by decide +kernel)⟩, rfl, _, rfl, by decide +kernel, rfl⟩
theorem fX11_278 : fp_F RX11 278 0 1 0 .int false := ⟨⟨_, rfl, by decide, List.mem_of_getElem? (i := 335) (by decide +kernel)⟩, rfl, _, rfl, by decide +kernel, rfl⟩
theorem fX0_9 : fp_F RX0 9 0 2 2 (.array .int) true := ⟨⟨_, rfl, by decide, List.mem_of_getElem? (i := 336) (by decide +kernel)⟩, rfl, _, rfl, by decide +kernel, rfl⟩
theorem fX0_15 : fp_F RX0 15 0 3 2 (.array .int) true := ⟨⟨_, rfl, by decide, List.mem_of_getElem? (i := 337) (by decide +kernel)⟩, rfl, _, rfl, by decide +kernel, rfl⟩
theorem fX0_20 : fp_F RX0 20 0 4 2 (.array (.array .int)) true := ⟨⟨_, rfl, by decide, List.mem_of_getElem? (i := 338) (by decide +kernel)⟩, rfl, _, rfl, by decide +kernel, rfl⟩
theorem fX0_23 : fp_F RX0 23 0 5 2 (.array .int) true := ⟨⟨_, rfl, by decide, List.mem_of_getElem? (i := 339) (by decide +kernel)⟩, rfl, _, rfl, by decide +kernel, rfl⟩
theorem fX4_23 : fp_F RX4 23 4 0 0 .int false := ⟨⟨_, rfl, by decide, List.mem_of_getElem? (i := 359) (by decide +kernel)⟩, rfl, _, rfl, by decide +kernel, rfl⟩
theorem fX4_31 : fp_F RX4 31 4 1 0 .int false := ⟨⟨_, rfl, by decide, List.mem_of_getElem? (i := 360) (by decide +kernel)⟩, rfl, _, rfl, by decide +kernel, rfl⟩
theorem fX4_9 : fp_F RX4 9 4 2 2 (.array .int) true := ⟨⟨_, rfl, by decide, List.mem_of_getElem? (i := 361) (by decide +kernel)⟩, rfl, _, rfl, by decide +kernel, rfl⟩
theorem fX4_75 : fp_F RX4 75 4 3 0 .int false := ⟨⟨_, rfl, by decide, List.mem_of_getElem? (i := 362) (by decide +kernel)⟩, rfl, _, rfl, by decide +kernel, rfl⟩
theorem fX4_15 : fp_F RX4 15 4 4 2 (.array .int) true := ⟨⟨_, rfl, by decide, List.mem_of_getElem? (i := 363) (by decide +kernel)⟩, rfl, _, rfl, by decide +kernel, rfl⟩
theorem fX11_300 : fp_F RX11 300 4 4 2 (.array .int) true := ⟨⟨_, rfl, by decide, List.mem_of_getElem? (i := 364) (by decide +kernel)⟩, rfl, _, rfl, by decide +kernel, rfl⟩
theorem fX7_9 : fp_F RX7 9 7 0 2 (.array .int) true := ⟨⟨_, rfl, by decide, List.mem_of_getElem? (i := 382) (by decide +kernel)⟩, rfl, _, rfl, by decide +kernel, rfl⟩
theorem fX11_307 : fp_F RX11 307 7 0 2 (.array .int) true := ⟨⟨_, rfl, by decide, List.mem_of_getElem? (i := 383) (by decide +kernel)⟩, rfl, _, rfl, by decide +kernel, rfl⟩
theorem fX7_15 : fp_F RX7 15 7 1 2 (.array .int) true := ⟨⟨_, rfl, by decide, List.mem_of_getElem? (i := 384) (by decide +kernel)⟩, rfl, _, rfl, by decide +kernel, rfl⟩
theorem fX11_310 : fp_F RX11 310 7 1 2 (.array .int) true := ⟨⟨_, rfl, by decide, List.mem_of_getElem? (i := 385) (by decide +kernel)⟩, rfl, _, rfl, by decide +kernel, rfl⟩
theorem fX7_18 : fp_F RX7 18 7 2 2 (.array .int) true := ⟨⟨_, rfl, by decide, List.mem_of_getElem? (i := 386) (by decide +kernel)⟩, rfl, _, rfl, by decide +kernel, rfl⟩
theorem fX7_21 : fp_F RX7 21 7 3 2 (.array .int) true := ⟨⟨_, rfl, by decide, List.mem_of_getElem? (i := 387) (by decide +kernel)⟩, rfl, _, rfl, by decide +kernel, rfl⟩
theorem fX7_36 : fp_F RX7 36 7 4 0 .int false := ⟨⟨_, rfl, by decide, List.mem_of_getElem? (i := 388) (by decide +kernel)⟩, rfl, _, rfl, by decide +kernel, rfl⟩
theorem fX11_122 : fp_F RX11 122 2 0 0 .boolean false := ⟨⟨_, rfl, by decide, List.mem_of_getElem? (i := 415) (by decide +kernel)⟩, rfl, _, rfl, by decide +kernel, rfl⟩
theorem fX2_10 : fp_F RX2 10 2 1 2 (.object "FirstPut$Places") true := ⟨⟨_, rfl, by decide, List.mem_of_getElem? (i := 416) (by decide +kernel)⟩, rfl, _, rfl, by decide +kernel, rfl⟩
theorem fX11_313 : fp_F RX11 313 2 1 2 (.object "FirstPut$Places") true := ⟨⟨_, rfl, by decide, List.mem_of_getElem? (i := 417) (by decide +kernel)⟩, rfl, _, rfl, by decide +kernel, rfl⟩
theorem fX2_19 : fp_F RX2 19 2 2 2 (.object "FirstPut$Visits") true := ⟨⟨_, rfl, by decide, List.mem_of_getElem? (i := 418) (by decide +kernel)⟩, rfl, _, rfl, by decide +kernel, rfl⟩
theorem fX11_314 : fp_F RX11 314 2 2 2 (.object "FirstPut$Visits") true := ⟨⟨_, rfl, by decide, List.mem_of_getElem? (i := 419) (by decide +kernel)⟩, rfl, _, rfl, by decide +kernel, rfl⟩
theorem fX2_26 : fp_F RX2 26 2 3 2 (.object "FirstPut$Notes") true := ⟨⟨_, rfl, by decide, List.mem_of_getElem? (i := 420) (by decide +kernel)⟩, rfl, _, rfl, by decide +kernel, rfl⟩
theorem fX11_315 : fp_F RX11 315 2 3 2 (.object "FirstPut$Notes") true := ⟨⟨_, rfl, by decide, List.mem_of_getElem? (i := 421) (by decide +kernel)⟩, rfl, _, rfl, by decide +kernel, rfl⟩
theorem fX9_27 : fp_F RX9 27 9 0 0 .int false := ⟨⟨_, rfl, by decide, List.mem_of_getElem? (i := 436) (by decide +kernel)⟩, rfl, _, rfl, by decide +kernel, rfl⟩
theorem fX9_9 : fp_F RX9 9 9 1 0 .int false := ⟨⟨_, rfl, by decide, List.mem_of_getElem? (i := 437) (by decide +kernel)⟩, rfl, _, rfl, by decide +kernel, rfl⟩
theorem fX11_344 : fp_F RX11 344 9 1 0 .int false := ⟨⟨_, rfl, by decide, List.mem_of_getElem? (i := 438) (by decide +kernel)⟩, rfl, _, rfl, by decide +kernel, rfl⟩
theorem fX9_15 : fp_F RX9 15 9 2 2 (.array .int) true := ⟨⟨_, rfl, by decide, List.mem_of_getElem? (i := 439) (by decide +kernel)⟩, rfl, _, rfl, by decide +kernel, rfl⟩
theorem fX11_352 : fp_F RX11 352 9 2 2 (.array .int) true := ⟨⟨_, rfl, by decide, List.mem_of_getElem? (i := 440) (by decide +kernel)⟩, rfl, _, rfl, by decide +kernel, rfl⟩
theorem fX11_9 : fp_F RX11 9 11 0 2 (.array .byte) true := ⟨⟨_, rfl, by decide, List.mem_of_getElem? (i := 448) (by decide +kernel)⟩, rfl, _, rfl, by decide +kernel, rfl⟩
theorem fX11_90 : fp_F RX11 90 11 1 0 .int false := ⟨⟨_, rfl, by decide, List.mem_of_getElem? (i := 449) (by decide +kernel)⟩, rfl, _, rfl, by decide +kernel, rfl⟩
theorem fX11_16 : fp_F RX11 16 11 2 2 (.object "FirstPut$Reader") true := ⟨⟨_, rfl, by decide, List.mem_of_getElem? (i := 450) (by decide +kernel)⟩, rfl, _, rfl, by decide +kernel, rfl⟩
theorem fX11_23 : fp_F RX11 23 11 3 2 (.object "FirstPut$Goods") true := ⟨⟨_, rfl, by decide, List.mem_of_getElem? (i := 451) (by decide +kernel)⟩, rfl, _, rfl, by decide +kernel, rfl⟩
theorem fX11_30 : fp_F RX11 30 11 4 2 (.object "FirstPut$Places") true := ⟨⟨_, rfl, by decide, List.mem_of_getElem? (i := 452) (by decide +kernel)⟩, rfl, _, rfl, by decide +kernel, rfl⟩
theorem fX11_37 : fp_F RX11 37 11 5 2 (.object "FirstPut$Visits") true := ⟨⟨_, rfl, by decide, List.mem_of_getElem? (i := 453) (by decide +kernel)⟩, rfl, _, rfl, by decide +kernel, rfl⟩
theorem fX11_44 : fp_F RX11 44 11 6 2 (.object "FirstPut$Notes") true := ⟨⟨_, rfl, by decide, List.mem_of_getElem? (i := 454) (by decide +kernel)⟩, rfl, _, rfl, by decide +kernel, rfl⟩
theorem fX11_51 : fp_F RX11 51 11 7 2 (.object "FirstPut$Runs") true := ⟨⟨_, rfl, by decide, List.mem_of_getElem? (i := 455) (by decide +kernel)⟩, rfl, _, rfl, by decide +kernel, rfl⟩
theorem fX11_58 : fp_F RX11 58 11 8 2 (.object "FirstPut$Duel") true := ⟨⟨_, rfl, by decide, List.mem_of_getElem? (i := 456) (by decide +kernel)⟩, rfl, _, rfl, by decide +kernel, rfl⟩
theorem fX11_65 : fp_F RX11 65 11 9 2 (.object "FirstPut$Orders") true := ⟨⟨_, rfl, by decide, List.mem_of_getElem? (i := 457) (by decide +kernel)⟩, rfl, _, rfl, by decide +kernel, rfl⟩
theorem fX11_72 : fp_F RX11 72 11 10 2 (.object "FirstPut$Rings") true := ⟨⟨_, rfl, by decide, List.mem_of_getElem? (i := 458) (by decide +kernel)⟩, rfl, _, rfl, by decide +kernel, rfl⟩
theorem fX11_78 : fp_F RX11 78 11 11 2 (.array (.object "FirstPut$Image")) true := ⟨⟨_, rfl, by decide, List.mem_of_getElem? (i := 459) (by decide +kernel)⟩, rfl, _, rfl, by decide +kernel, rfl⟩
theorem fX11_84 : fp_F RX11 84 11 12 2 (.array (.object "FirstPut$Sheet")) true := ⟨⟨_, rfl, by decide, List.mem_of_getElem? (i := 460) (by decide +kernel)⟩, rfl, _, rfl, by decide +kernel, rfl⟩
theorem fX11_334 : fp_F RX11 334 11 13 0 .int false := ⟨⟨_, rfl, by decide, List.mem_of_getElem? (i := 461) (by decide +kernel)⟩, rfl, _, rfl, by decide +kernel, rfl⟩
theorem fX12_7 : fp_F RX12 7 12 0 2 (.array .int) true := ⟨⟨_, rfl, by decide, List.mem_of_getElem? (i := 1109) (by decide +kernel)⟩, rfl, _, rfl, by decide +kernel, rfl⟩
theorem fX12_13 : fp_F RX12 13 12 1 2 (.array .int) true := ⟨⟨_, rfl, by decide, List.mem_of_getElem? (i := 1110) (by decide +kernel)⟩, rfl, _, rfl, by decide +kernel, rfl⟩
theorem fX12_16 : fp_F RX12 16 12 2 2 (.array .int) true := ⟨⟨_, rfl, by decide, List.mem_of_getElem? (i := 1111) (by decide +kernel)⟩, rfl, _, rfl, by decide +kernel, rfl⟩
theorem fX12_19 : fp_F RX12 19 12 3 2 (.array .int) true := ⟨⟨_, rfl, by decide, List.mem_of_getElem? (i := 1112) (by decide +kernel)⟩, rfl, _, rfl, by decide +kernel, rfl⟩
theorem fX12_181 : fp_F RX12 181 12 4 0 .int false := ⟨⟨_, rfl, by decide, List.mem_of_getElem? (i := 1113) (by decide +kernel)⟩, rfl, _, rfl, by decide +kernel, rfl⟩
theorem fX12_184 : fp_F RX12 184 12 5 0 .int false := ⟨⟨_, rfl, by decide, List.mem_of_getElem? (i := 1114) (by decide +kernel)⟩, rfl, _, rfl, by decide +kernel, rfl⟩
theorem fX12_22 : fp_F RX12 22 12 6 0 .int false := ⟨⟨_, rfl, by decide, List.mem_of_getElem? (i := 1115) (by decide +kernel)⟩, rfl, _, rfl, by decide +kernel, rfl⟩
theorem fX12_26 : fp_F RX12 26 12 7 2 (.array .int) true := ⟨⟨_, rfl, by decide, List.mem_of_getElem? (i := 1116) (by decide +kernel)⟩, rfl, _, rfl, by decide +kernel, rfl⟩
theorem fX12_29 : fp_F RX12 29 12 8 2 (.array .int) true := ⟨⟨_, rfl, by decide, List.mem_of_getElem? (i := 1117) (by decide +kernel)⟩, rfl, _, rfl, by decide +kernel, rfl⟩
theorem fX12_32 : fp_F RX12 32 12 9 2 (.array .int) true := ⟨⟨_, rfl, by decide, List.mem_of_getElem? (i := 1118) (by decide +kernel)⟩, rfl, _, rfl, by decide +kernel, rfl⟩
theorem fX12_35 : fp_F RX12 35 12 10 2 (.array .int) true := ⟨⟨_, rfl, by decide, List.mem_of_getElem? (i := 1119) (by decide +kernel)⟩, rfl, _, rfl, by decide +kernel, rfl⟩
theorem fX12_139 : fp_F RX12 139 12 11 0 .int false := ⟨⟨_, rfl, by decide, List.mem_of_getElem? (i := 1120) (by decide +kernel)⟩, rfl, _, rfl, by decide +kernel, rfl⟩
theorem fX12_146 : fp_F RX12 146 12 12 0 .int false := ⟨⟨_, rfl, by decide, List.mem_of_getElem? (i := 1121) (by decide +kernel)⟩, rfl, _, rfl, by decide +kernel, rfl⟩
theorem fX12_174 : fp_F RX12 174 12 13 0 .int false := ⟨⟨_, rfl, by decide, List.mem_of_getElem? (i := 1122) (by decide +kernel)⟩, rfl, _, rfl, by decide +kernel, rfl⟩
theorem fX12_170 : fp_F RX12 170 12 14 0 .boolean false := ⟨⟨_, rfl, by decide, List.mem_of_getElem? (i := 1123) (by decide +kernel)⟩, rfl, _, rfl, by decide +kernel, rfl⟩
theorem fX12_156 : fp_F RX12 156 12 15 0 .int false := ⟨⟨_, rfl, by decide, List.mem_of_getElem? (i := 1124) (by decide +kernel)⟩, rfl, _, rfl, by decide +kernel, rfl⟩
theorem fX12_159 : fp_F RX12 159 12 16 0 .int false := ⟨⟨_, rfl, by decide, List.mem_of_getElem? (i := 1125) (by decide +kernel)⟩, rfl, _, rfl, by decide +kernel, rfl⟩
theorem fX12_153 : fp_F RX12 153 12 17 0 .int false := ⟨⟨_, rfl, by decide, List.mem_of_getElem? (i := 1126) (by decide +kernel)⟩, rfl, _, rfl, by decide +kernel, rfl⟩
theorem fX12_38 : fp_F RX12 38 12 18 2 (.array .int) true := ⟨⟨_, rfl, by decide, List.mem_of_getElem? (i := 1127) (by decide +kernel)⟩, rfl, _, rfl, by decide +kernel, rfl⟩
theorem fX12_91 : fp_F RX12 91 12 19 0 .int false := ⟨⟨_, rfl, by decide, List.mem_of_getElem? (i := 1128) (by decide +kernel)⟩, rfl, _, rfl, by decide +kernel, rfl⟩
theorem fX12_190 : fp_F RX12 190 12 20 0 .int false := ⟨⟨_, rfl, by decide, List.mem_of_getElem? (i := 1129) (by decide +kernel)⟩, rfl, _, rfl, by decide +kernel, rfl⟩
theorem fX12_98 : fp_F RX12 98 12 21 0 .int false := ⟨⟨_, rfl, by decide, List.mem_of_getElem? (i := 1130) (by decide +kernel)⟩, rfl, _, rfl, by decide +kernel, rfl⟩
theorem fX12_104 : fp_F RX12 104 12 22 0 .int false := ⟨⟨_, rfl, by decide, List.mem_of_getElem? (i := 1131) (by decide +kernel)⟩, rfl, _, rfl, by decide +kernel, rfl⟩
theorem fX12_110 : fp_F RX12 110 12 23 0 .int false := ⟨⟨_, rfl, by decide, List.mem_of_getElem? (i := 1132) (by decide +kernel)⟩, rfl, _, rfl, by decide +kernel, rfl⟩
theorem fX12_101 : fp_F RX12 101 12 24 0 .int false := ⟨⟨_, rfl, by decide, List.mem_of_getElem? (i := 1133) (by decide +kernel)⟩, rfl, _, rfl, by decide +kernel, rfl⟩
theorem fX12_107 : fp_F RX12 107 12 25 0 .int false := ⟨⟨_, rfl, by decide, List.mem_of_getElem? (i := 1134) (by decide +kernel)⟩, rfl, _, rfl, by decide +kernel, rfl⟩
theorem fX12_117 : fp_F RX12 117 12 26 0 .int false := ⟨⟨_, rfl, by decide, List.mem_of_getElem? (i := 1135) (by decide +kernel)⟩, rfl, _, rfl, by decide +kernel, rfl⟩
theorem fX12_41 : fp_F RX12 41 12 27 2 (.array .int) true := ⟨⟨_, rfl, by decide, List.mem_of_getElem? (i := 1136) (by decide +kernel)⟩, rfl, _, rfl, by decide +kernel, rfl⟩
theorem fX12_44 : fp_F RX12 44 12 28 2 (.array .int) true := ⟨⟨_, rfl, by decide, List.mem_of_getElem? (i := 1137) (by decide +kernel)⟩, rfl, _, rfl, by decide +kernel, rfl⟩
theorem fX12_47 : fp_F RX12 47 12 29 2 (.array .int) true := ⟨⟨_, rfl, by decide, List.mem_of_getElem? (i := 1138) (by decide +kernel)⟩, rfl, _, rfl, by decide +kernel, rfl⟩
theorem fX12_50 : fp_F RX12 50 12 30 2 (.array .int) true := ⟨⟨_, rfl, by decide, List.mem_of_getElem? (i := 1139) (by decide +kernel)⟩, rfl, _, rfl, by decide +kernel, rfl⟩
theorem fX12_53 : fp_F RX12 53 12 31 2 (.array .int) true := ⟨⟨_, rfl, by decide, List.mem_of_getElem? (i := 1140) (by decide +kernel)⟩, rfl, _, rfl, by decide +kernel, rfl⟩
theorem fX12_56 : fp_F RX12 56 12 32 2 (.array .long) true := ⟨⟨_, rfl, by decide, List.mem_of_getElem? (i := 1141) (by decide +kernel)⟩, rfl, _, rfl, by decide +kernel, rfl⟩
theorem fX12_289 : fp_F RX12 289 12 33 1 .long false := ⟨⟨_, rfl, by decide, List.mem_of_getElem? (i := 1142) (by decide +kernel)⟩, rfl, _, rfl, by decide +kernel, rfl⟩
theorem fX12_60 : fp_F RX12 60 12 34 2 (.array .int) true := ⟨⟨_, rfl, by decide, List.mem_of_getElem? (i := 1143) (by decide +kernel)⟩, rfl, _, rfl, by decide +kernel, rfl⟩
theorem fX12_63 : fp_F RX12 63 12 35 2 (.array .int) true := ⟨⟨_, rfl, by decide, List.mem_of_getElem? (i := 1144) (by decide +kernel)⟩, rfl, _, rfl, by decide +kernel, rfl⟩
theorem fX12_66 : fp_F RX12 66 12 36 2 (.array .int) true := ⟨⟨_, rfl, by decide, List.mem_of_getElem? (i := 1145) (by decide +kernel)⟩, rfl, _, rfl, by decide +kernel, rfl⟩
theorem fX12_69 : fp_F RX12 69 12 37 2 (.array .int) true := ⟨⟨_, rfl, by decide, List.mem_of_getElem? (i := 1146) (by decide +kernel)⟩, rfl, _, rfl, by decide +kernel, rfl⟩
theorem fX12_72 : fp_F RX12 72 12 38 2 (.array .int) true := ⟨⟨_, rfl, by decide, List.mem_of_getElem? (i := 1147) (by decide +kernel)⟩, rfl, _, rfl, by decide +kernel, rfl⟩
theorem fX12_75 : fp_F RX12 75 12 39 2 (.array .int) true := ⟨⟨_, rfl, by decide, List.mem_of_getElem? (i := 1148) (by decide +kernel)⟩, rfl, _, rfl, by decide +kernel, rfl⟩
theorem fX12_78 : fp_F RX12 78 12 40 2 (.array .boolean) true := ⟨⟨_, rfl, by decide, List.mem_of_getElem? (i := 1149) (by decide +kernel)⟩, rfl, _, rfl, by decide +kernel, rfl⟩
theorem fX12_82 : fp_F RX12 82 12 41 2 (.array .int) true := ⟨⟨_, rfl, by decide, List.mem_of_getElem? (i := 1150) (by decide +kernel)⟩, rfl, _, rfl, by decide +kernel, rfl⟩
theorem fX12_85 : fp_F RX12 85 12 42 2 (.array .int) true := ⟨⟨_, rfl, by decide, List.mem_of_getElem? (i := 1151) (by decide +kernel)⟩, rfl, _, rfl, by decide +kernel, rfl⟩
theorem fX12_88 : fp_F RX12 88 12 43 2 (.array .int) true := ⟨⟨_, rfl, by decide, List.mem_of_getElem? (i := 1152) (by decide +kernel)⟩, rfl, _, rfl, by decide +kernel, rfl⟩
theorem fX12_330 : fp_F RX12 330 12 44 0 .int false := ⟨⟨_, rfl, by decide, List.mem_of_getElem? (i := 1153) (by decide +kernel)⟩, rfl, _, rfl, by decide +kernel, rfl⟩
theorem mJ0_charAt_5068e : fp_Mok kJ0_charAt_5068e 1 := ⟨List.mem_of_getElem? (i := 551) (by decide +kernel), List.mem_of_getElem? (i := 93) (by decide +kernel), by decide +kernel, by decide +kernel, by decide +kernel, by decide⟩
theorem vJ0_charAt_5068e : fp_Vok kJ0_charAt_5068e := ⟨List.mem_of_getElem? (i := 549) (by decide +kernel), List.mem_of_getElem? (i := 550) (by decide +kernel)⟩
theorem mJ0_checkIndex_df160 : fp_Mok kJ0_checkIndex_df160 2 := ⟨List.mem_of_getElem? (i := 561) (by decide +kernel), List.mem_of_getElem? (i := 93) (by decide +kernel), by decide +kernel, by decide +kernel, by decide +kernel, by decide⟩
theorem sJ0_checkIndex_df160 : Cond.static kJ0_checkIndex_df160.1 ∈ lw_tbl := List.mem_of_getElem? (i := 560) (by decide +kernel)
theorem mJ0_coder_7d493 : fp_Mok kJ0_coder_7d493 0 := ⟨List.mem_of_getElem? (i := 545) (by decide +kernel), List.mem_of_getElem? (i := 93) (by decide +kernel), by decide +kernel, by decide +kernel, by decide +kernel, by decide⟩
theorem vJ0_coder_7d493 : fp_Vok kJ0_coder_7d493 := ⟨List.mem_of_getElem? (i := 543) (by decide +kernel), List.mem_of_getElem? (i := 544) (by decide +kernel)⟩
theorem mJ0_isLatin1_aae02 : fp_Mok kJ0_isLatin1_aae02 0 := ⟨List.mem_of_getElem? (i := 555) (by decide +kernel), List.mem_of_getElem? (i := 93) (by decide +kernel), by decide +kernel, by decide +kernel, by decide +kernel, by decide⟩
theorem vJ0_isLatin1_aae02 : fp_Vok kJ0_isLatin1_aae02 := ⟨List.mem_of_getElem? (i := 553) (by decide +kernel), List.mem_of_getElem? (i := 554) (by decide +kernel)⟩
theorem mJ0_length_8abf5 : fp_Mok kJ0_length_8abf5 0 := ⟨List.mem_of_getElem? (i := 541) (by decide +kernel), List.mem_of_getElem? (i := 93) (by decide +kernel), by decide +kernel, by decide +kernel, by decide +kernel, by decide⟩
theorem vJ0_length_8abf5 : fp_Vok kJ0_length_8abf5 := ⟨List.mem_of_getElem? (i := 539) (by decide +kernel), List.mem_of_getElem? (i := 540) (by decide +kernel)⟩
theorem mJ1_charAt_3b067 : fp_Mok kJ1_charAt_3b067 2 := ⟨List.mem_of_getElem? (i := 558) (by decide +kernel), List.mem_of_getElem? (i := 94) (by decide +kernel), by decide +kernel, by decide +kernel, by decide +kernel, by decide⟩
theorem sJ1_charAt_3b067 : Cond.static kJ1_charAt_3b067.1 ∈ lw_tbl := List.mem_of_getElem? (i := 557) (by decide +kernel)
theorem mJ2_charAt_3b067 : fp_Mok kJ2_charAt_3b067 2 := ⟨List.mem_of_getElem? (i := 569) (by decide +kernel), List.mem_of_getElem? (i := 96) (by decide +kernel), by decide +kernel, by decide +kernel, by decide +kernel, by decide⟩
theorem sJ2_charAt_3b067 : Cond.static kJ2_charAt_3b067.1 ∈ lw_tbl := List.mem_of_getElem? (i := 568) (by decide +kernel)
theorem mJ2_checkIndex_2214a : fp_Mok kJ2_checkIndex_2214a 2 := ⟨List.mem_of_getElem? (i := 572) (by decide +kernel), List.mem_of_getElem? (i := 96) (by decide +kernel), by decide +kernel, by decide +kernel, by decide +kernel, by decide⟩
theorem sJ2_checkIndex_2214a : Cond.static kJ2_checkIndex_2214a.1 ∈ lw_tbl := List.mem_of_getElem? (i := 571) (by decide +kernel)
theorem mJ2_getChar_3b067 : fp_Mok kJ2_getChar_3b067 2 := ⟨List.mem_of_getElem? (i := 579) (by decide +kernel), List.mem_of_getElem? (i := 96) (by decide +kernel), by decide +kernel, by decide +kernel, by decide +kernel, by decide⟩
theorem sJ2_getChar_3b067 : Cond.static kJ2_getChar_3b067.1 ∈ lw_tbl := List.mem_of_getElem? (i := 578) (by decide +kernel)
theorem mJ2_length_9d52b : fp_Mok kJ2_length_9d52b 1 := ⟨List.mem_of_getElem? (i := 575) (by decide +kernel), List.mem_of_getElem? (i := 96) (by decide +kernel), by decide +kernel, by decide +kernel, by decide +kernel, by decide⟩
theorem sJ2_length_9d52b : Cond.static kJ2_length_9d52b.1 ∈ lw_tbl := List.mem_of_getElem? (i := 574) (by decide +kernel)
theorem mJ3_checkIndex_8e157 : fp_Mok kJ3_checkIndex_8e157 3 := ⟨List.mem_of_getElem? (i := 566) (by decide +kernel), List.mem_of_getElem? (i := 95) (by decide +kernel), by decide +kernel, by decide +kernel, by decide +kernel, by decide⟩
theorem sJ3_checkIndex_8e157 : Cond.static kJ3_checkIndex_8e157.1 ∈ lw_tbl := List.mem_of_getElem? (i := 565) (by decide +kernel)
theorem mJ7_fill_53178 : fp_Mok kJ7_fill_53178 2 := ⟨List.mem_of_getElem? (i := 164) (by decide +kernel), List.mem_of_getElem? (i := 83) (by decide +kernel), by decide +kernel, by decide +kernel, by decide +kernel, by decide⟩
theorem sJ7_fill_53178 : Cond.static kJ7_fill_53178.1 ∈ lw_tbl := List.mem_of_getElem? (i := 163) (by decide +kernel)
theorem mJ7_fill_d0a16 : fp_Mok kJ7_fill_d0a16 2 := ⟨List.mem_of_getElem? (i := 884) (by decide +kernel), List.mem_of_getElem? (i := 83) (by decide +kernel), by decide +kernel, by decide +kernel, by decide +kernel, by decide⟩
theorem sJ7_fill_d0a16 : Cond.static kJ7_fill_d0a16.1 ∈ lw_tbl := List.mem_of_getElem? (i := 883) (by decide +kernel)
theorem mX0_canDo : fp_Mok kX0_canDo 3 := ⟨List.mem_of_getElem? (i := 917) (by decide +kernel), List.mem_of_getElem? (i := 87) (by decide +kernel), by decide +kernel, by decide +kernel, by decide +kernel, by decide⟩
theorem vX0_canDo : fp_Vok kX0_canDo := ⟨List.mem_of_getElem? (i := 916) (by decide +kernel), List.mem_of_getElem? (i := 19) (by decide +kernel)⟩
theorem mX0_fight : fp_Mok kX0_fight 2 := ⟨List.mem_of_getElem? (i := 909) (by decide +kernel), List.mem_of_getElem? (i := 87) (by decide +kernel), by decide +kernel, by decide +kernel, by decide +kernel, by decide⟩
theorem vX0_fight : fp_Vok kX0_fight := ⟨List.mem_of_getElem? (i := 907) (by decide +kernel), List.mem_of_getElem? (i := 908) (by decide +kernel)⟩
theorem mX0_init : fp_Mok kX0_init 0 := ⟨List.mem_of_getElem? (i := 329) (by decide +kernel), List.mem_of_getElem? (i := 87) (by decide +kernel), by decide +kernel, by decide +kernel, by decide +kernel, by decide⟩
theorem vX0_init : Cond.instanceMethod kX0_init.1 ∈ lw_tbl := List.mem_of_getElem? (i := 328) (by decide +kernel)
theorem mX0_noteFirst : fp_Mok kX0_noteFirst 2 := ⟨List.mem_of_getElem? (i := 935) (by decide +kernel), List.mem_of_getElem? (i := 87) (by decide +kernel), by decide +kernel, by decide +kernel, by decide +kernel, by decide⟩
theorem vX0_noteFirst : fp_Vok kX0_noteFirst := ⟨List.mem_of_getElem? (i := 934) (by decide +kernel), List.mem_of_getElem? (i := 23) (by decide +kernel)⟩
theorem mX0_outcome : fp_Mok kX0_outcome 3 := ⟨List.mem_of_getElem? (i := 913) (by decide +kernel), List.mem_of_getElem? (i := 87) (by decide +kernel), by decide +kernel, by decide +kernel, by decide +kernel, by decide⟩
theorem vX0_outcome : fp_Vok kX0_outcome := ⟨List.mem_of_getElem? (i := 912) (by decide +kernel), List.mem_of_getElem? (i := 18) (by decide +kernel)⟩
theorem mX0_perform : fp_Mok kX0_perform 5 := ⟨List.mem_of_getElem? (i := 921) (by decide +kernel), List.mem_of_getElem? (i := 87) (by decide +kernel), by decide +kernel, by decide +kernel, by decide +kernel, by decide⟩
theorem vX0_perform : fp_Vok kX0_perform := ⟨List.mem_of_getElem? (i := 920) (by decide +kernel), List.mem_of_getElem? (i := 20) (by decide +kernel)⟩
theorem mX0_prepare : fp_Mok kX0_prepare 6 := ⟨List.mem_of_getElem? (i := 904) (by decide +kernel), List.mem_of_getElem? (i := 87) (by decide +kernel), by decide +kernel, by decide +kernel, by decide +kernel, by decide⟩
theorem vX0_prepare : fp_Vok kX0_prepare := ⟨List.mem_of_getElem? (i := 902) (by decide +kernel), List.mem_of_getElem? (i := 903) (by decide +kernel)⟩
theorem mX0_takeBack : fp_Mok kX0_takeBack 2 := ⟨List.mem_of_getElem? (i := 931) (by decide +kernel), List.mem_of_getElem? (i := 87) (by decide +kernel), by decide +kernel, by decide +kernel, by decide +kernel, by decide⟩
theorem vX0_takeBack : fp_Vok kX0_takeBack := ⟨List.mem_of_getElem? (i := 930) (by decide +kernel), List.mem_of_getElem? (i := 22) (by decide +kernel)⟩
theorem mX0_takeGiven : fp_Mok kX0_takeGiven 3 := ⟨List.mem_of_getElem? (i := 925) (by decide +kernel), List.mem_of_getElem? (i := 87) (by decide +kernel), by decide +kernel, by decide +kernel, by decide +kernel, by decide⟩
theorem vX0_takeGiven : fp_Vok kX0_takeGiven := ⟨List.mem_of_getElem? (i := 924) (by decide +kernel), List.mem_of_getElem? (i := 21) (by decide +kernel)⟩
theorem mX10_add : fp_Mok kX10_add 4 := ⟨List.mem_of_getElem? (i := 626) (by decide +kernel), List.mem_of_getElem? (i := 84) (by decide +kernel), by decide +kernel, by decide +kernel, by decide +kernel, by decide⟩
theorem vX10_add : fp_Vok kX10_add := ⟨List.mem_of_getElem? (i := 624) (by decide +kernel), List.mem_of_getElem? (i := 625) (by decide +kernel)⟩
theorem mX10_copyFrom : fp_Mok kX10_copyFrom 1 := ⟨List.mem_of_getElem? (i := 668) (by decide +kernel), List.mem_of_getElem? (i := 84) (by decide +kernel), by decide +kernel, by decide +kernel, by decide +kernel, by decide⟩
theorem vX10_copyFrom : fp_Vok kX10_copyFrom := ⟨List.mem_of_getElem? (i := 666) (by decide +kernel), List.mem_of_getElem? (i := 667) (by decide +kernel)⟩
theorem mX10_drawsOf : fp_Mok kX10_drawsOf 1 := ⟨List.mem_of_getElem? (i := 850) (by decide +kernel), List.mem_of_getElem? (i := 84) (by decide +kernel), by decide +kernel, by decide +kernel, by decide +kernel, by decide⟩
theorem vX10_drawsOf : fp_Vok kX10_drawsOf := ⟨List.mem_of_getElem? (i := 848) (by decide +kernel), List.mem_of_getElem? (i := 849) (by decide +kernel)⟩
theorem mX10_dropFirst : fp_Mok kX10_dropFirst 1 := ⟨List.mem_of_getElem? (i := 788) (by decide +kernel), List.mem_of_getElem? (i := 84) (by decide +kernel), by decide +kernel, by decide +kernel, by decide +kernel, by decide⟩
theorem vX10_dropFirst : fp_Vok kX10_dropFirst := ⟨List.mem_of_getElem? (i := 786) (by decide +kernel), List.mem_of_getElem? (i := 787) (by decide +kernel)⟩
theorem mX10_happens : fp_Mok kX10_happens 3 := ⟨List.mem_of_getElem? (i := 780) (by decide +kernel), List.mem_of_getElem? (i := 84) (by decide +kernel), by decide +kernel, by decide +kernel, by decide +kernel, by decide⟩
theorem vX10_happens : fp_Vok kX10_happens := ⟨List.mem_of_getElem? (i := 778) (by decide +kernel), List.mem_of_getElem? (i := 779) (by decide +kernel)⟩
theorem mX10_has : fp_Mok kX10_has 1 := ⟨List.mem_of_getElem? (i := 706) (by decide +kernel), List.mem_of_getElem? (i := 84) (by decide +kernel), by decide +kernel, by decide +kernel, by decide +kernel, by decide⟩
theorem vX10_has : fp_Vok kX10_has := ⟨List.mem_of_getElem? (i := 704) (by decide +kernel), List.mem_of_getElem? (i := 705) (by decide +kernel)⟩
theorem mX10_init : fp_Mok kX10_init 0 := ⟨List.mem_of_getElem? (i := 195) (by decide +kernel), List.mem_of_getElem? (i := 84) (by decide +kernel), by decide +kernel, by decide +kernel, by decide +kernel, by decide⟩
theorem vX10_init : Cond.instanceMethod kX10_init.1 ∈ lw_tbl := List.mem_of_getElem? (i := 194) (by decide +kernel)
theorem mX10_isDraw : fp_Mok kX10_isDraw 1 := ⟨List.mem_of_getElem? (i := 648) (by decide +kernel), List.mem_of_getElem? (i := 84) (by decide +kernel), by decide +kernel, by decide +kernel, by decide +kernel, by decide⟩
theorem vX10_isDraw : fp_Vok kX10_isDraw := ⟨List.mem_of_getElem? (i := 646) (by decide +kernel), List.mem_of_getElem? (i := 647) (by decide +kernel)⟩
theorem mX10_isDrawOf : fp_Mok kX10_isDrawOf 2 := ⟨List.mem_of_getElem? (i := 854) (by decide +kernel), List.mem_of_getElem? (i := 84) (by decide +kernel), by decide +kernel, by decide +kernel, by decide +kernel, by decide⟩
theorem vX10_isDrawOf : fp_Vok kX10_isDrawOf := ⟨List.mem_of_getElem? (i := 852) (by decide +kernel), List.mem_of_getElem? (i := 853) (by decide +kernel)⟩
theorem mX10_lastDay : fp_Mok kX10_lastDay 0 := ⟨List.mem_of_getElem? (i := 622) (by decide +kernel), List.mem_of_getElem? (i := 84) (by decide +kernel), by decide +kernel, by decide +kernel, by decide +kernel, by decide⟩
theorem vX10_lastDay : fp_Vok kX10_lastDay := ⟨List.mem_of_getElem? (i := 620) (by decide +kernel), List.mem_of_getElem? (i := 621) (by decide +kernel)⟩
theorem mX11_after : fp_Mok kX11_after 2 := ⟨List.mem_of_getElem? (i := 792) (by decide +kernel), List.mem_of_getElem? (i := 79) (by decide +kernel), by decide +kernel, by decide +kernel, by decide +kernel, by decide⟩
theorem vX11_after : fp_Vok kX11_after := ⟨List.mem_of_getElem? (i := 790) (by decide +kernel), List.mem_of_getElem? (i := 791) (by decide +kernel)⟩
theorem mX11_aim : fp_Mok kX11_aim 2 := ⟨List.mem_of_getElem? (i := 823) (by decide +kernel), List.mem_of_getElem? (i := 79) (by decide +kernel), by decide +kernel, by decide +kernel, by decide +kernel, by decide⟩
theorem vX11_aim : fp_Vok kX11_aim := ⟨List.mem_of_getElem? (i := 821) (by decide +kernel), List.mem_of_getElem? (i := 822) (by decide +kernel)⟩
theorem mX11_back : fp_Mok kX11_back 1 := ⟨List.mem_of_getElem? (i := 1051) (by decide +kernel), List.mem_of_getElem? (i := 79) (by decide +kernel), by decide +kernel, by decide +kernel, by decide +kernel, by decide⟩
theorem vX11_back : fp_Vok kX11_back := ⟨List.mem_of_getElem? (i := 1049) (by decide +kernel), List.mem_of_getElem? (i := 1050) (by decide +kernel)⟩
theorem mX11_bank : fp_Mok kX11_bank 0 := ⟨List.mem_of_getElem? (i := 502) (by decide +kernel), List.mem_of_getElem? (i := 79) (by decide +kernel), by decide +kernel, by decide +kernel, by decide +kernel, by decide⟩
theorem vX11_bank : fp_Vok kX11_bank := ⟨List.mem_of_getElem? (i := 500) (by decide +kernel), List.mem_of_getElem? (i := 501) (by decide +kernel)⟩
theorem mX11_chance : fp_Mok kX11_chance 1 := ⟨List.mem_of_getElem? (i := 710) (by decide +kernel), List.mem_of_getElem? (i := 79) (by decide +kernel), by decide +kernel, by decide +kernel, by decide +kernel, by decide⟩
theorem vX11_chance : fp_Vok kX11_chance := ⟨List.mem_of_getElem? (i := 708) (by decide +kernel), List.mem_of_getElem? (i := 709) (by decide +kernel)⟩
theorem mX11_come : fp_Mok kX11_come 4 := ⟨List.mem_of_getElem? (i := 759) (by decide +kernel), List.mem_of_getElem? (i := 79) (by decide +kernel), by decide +kernel, by decide +kernel, by decide +kernel, by decide⟩
theorem vX11_come : fp_Vok kX11_come := ⟨List.mem_of_getElem? (i := 757) (by decide +kernel), List.mem_of_getElem? (i := 758) (by decide +kernel)⟩
theorem mX11_count : fp_Mok kX11_count 1 := ⟨List.mem_of_getElem? (i := 1102) (by decide +kernel), List.mem_of_getElem? (i := 79) (by decide +kernel), by decide +kernel, by decide +kernel, by decide +kernel, by decide⟩
theorem vX11_count : fp_Vok kX11_count := ⟨List.mem_of_getElem? (i := 1100) (by decide +kernel), List.mem_of_getElem? (i := 1101) (by decide +kernel)⟩
theorem mX11_cut : fp_Mok kX11_cut 1 := ⟨List.mem_of_getElem? (i := 772) (by decide +kernel), List.mem_of_getElem? (i := 79) (by decide +kernel), by decide +kernel, by decide +kernel, by decide +kernel, by decide⟩
theorem vX11_cut : fp_Vok kX11_cut := ⟨List.mem_of_getElem? (i := 770) (by decide +kernel), List.mem_of_getElem? (i := 771) (by decide +kernel)⟩
theorem mX11_draw : fp_Mok kX11_draw 2 := ⟨List.mem_of_getElem? (i := 746) (by decide +kernel), List.mem_of_getElem? (i := 79) (by decide +kernel), by decide +kernel, by decide +kernel, by decide +kernel, by decide⟩
theorem vX11_draw : fp_Vok kX11_draw := ⟨List.mem_of_getElem? (i := 744) (by decide +kernel), List.mem_of_getElem? (i := 745) (by decide +kernel)⟩
theorem mX11_duel : fp_Mok kX11_duel 6 := ⟨List.mem_of_getElem? (i := 900) (by decide +kernel), List.mem_of_getElem? (i := 79) (by decide +kernel), by decide +kernel, by decide +kernel, by decide +kernel, by decide⟩
theorem vX11_duel : fp_Vok kX11_duel := ⟨List.mem_of_getElem? (i := 898) (by decide +kernel), List.mem_of_getElem? (i := 899) (by decide +kernel)⟩
theorem mX11_end : fp_Mok kX11_end 1 := ⟨List.mem_of_getElem? (i := 498) (by decide +kernel), List.mem_of_getElem? (i := 79) (by decide +kernel), by decide +kernel, by decide +kernel, by decide +kernel, by decide⟩
theorem vX11_end : fp_Vok kX11_end := ⟨List.mem_of_getElem? (i := 496) (by decide +kernel), List.mem_of_getElem? (i := 497) (by decide +kernel)⟩
theorem mX11_extra : fp_Mok kX11_extra 3 := ⟨List.mem_of_getElem? (i := 819) (by decide +kernel), List.mem_of_getElem? (i := 79) (by decide +kernel), by decide +kernel, by decide +kernel, by decide +kernel, by decide⟩
theorem vX11_extra : fp_Vok kX11_extra := ⟨List.mem_of_getElem? (i := 817) (by decide +kernel), List.mem_of_getElem? (i := 818) (by decide +kernel)⟩
theorem mX11_fault : fp_Mok kX11_fault 0 := ⟨List.mem_of_getElem? (i := 673) (by decide +kernel), List.mem_of_getElem? (i := 79) (by decide +kernel), by decide +kernel, by decide +kernel, by decide +kernel, by decide⟩
theorem vX11_fault : fp_Vok kX11_fault := ⟨List.mem_of_getElem? (i := 671) (by decide +kernel), List.mem_of_getElem? (i := 672) (by decide +kernel)⟩
theorem mX11_feed : fp_Mok kX11_feed 1 := ⟨List.mem_of_getElem? (i := 494) (by decide +kernel), List.mem_of_getElem? (i := 79) (by decide +kernel), by decide +kernel, by decide +kernel, by decide +kernel, by decide⟩
theorem vX11_feed : fp_Vok kX11_feed := ⟨List.mem_of_getElem? (i := 492) (by decide +kernel), List.mem_of_getElem? (i := 493) (by decide +kernel)⟩
theorem mX11_forget : fp_Mok kX11_forget 0 := ⟨List.mem_of_getElem? (i := 951) (by decide +kernel), List.mem_of_getElem? (i := 79) (by decide +kernel), by decide +kernel, by decide +kernel, by decide +kernel, by decide⟩
theorem vX11_forget : fp_Vok kX11_forget := ⟨List.mem_of_getElem? (i := 949) (by decide +kernel), List.mem_of_getElem? (i := 950) (by decide +kernel)⟩
theorem mX11_gains : fp_Mok kX11_gains 2 := ⟨List.mem_of_getElem? (i := 802) (by decide +kernel), List.mem_of_getElem? (i := 79) (by decide +kernel), by decide +kernel, by decide +kernel, by decide +kernel, by decide⟩
theorem vX11_gains : fp_Vok kX11_gains := ⟨List.mem_of_getElem? (i := 800) (by decide +kernel), List.mem_of_getElem? (i := 801) (by decide +kernel)⟩
theorem mX11_givenSpot : fp_Mok kX11_givenSpot 5 := ⟨List.mem_of_getElem? (i := 698) (by decide +kernel), List.mem_of_getElem? (i := 79) (by decide +kernel), by decide +kernel, by decide +kernel, by decide +kernel, by decide⟩
theorem sX11_givenSpot : Cond.static kX11_givenSpot.1 ∈ lw_tbl := List.mem_of_getElem? (i := 697) (by decide +kernel)
theorem mX11_go : fp_Mok kX11_go 1 := ⟨List.mem_of_getElem? (i := 776) (by decide +kernel), List.mem_of_getElem? (i := 79) (by decide +kernel), by decide +kernel, by decide +kernel, by decide +kernel, by decide⟩
theorem vX11_go : fp_Vok kX11_go := ⟨List.mem_of_getElem? (i := 774) (by decide +kernel), List.mem_of_getElem? (i := 775) (by decide +kernel)⟩
theorem mX11_greatestDivisor : fp_Mok kX11_greatestDivisor 2 := ⟨List.mem_of_getElem? (i := 892) (by decide +kernel), List.mem_of_getElem? (i := 79) (by decide +kernel), by decide +kernel, by decide +kernel, by decide +kernel, by decide⟩
theorem sX11_greatestDivisor : Cond.static kX11_greatestDivisor.1 ∈ lw_tbl := List.mem_of_getElem? (i := 891) (by decide +kernel)
theorem mX11_holds : fp_Mok kX11_holds 1 := ⟨List.mem_of_getElem? (i := 714) (by decide +kernel), List.mem_of_getElem? (i := 79) (by decide +kernel), by decide +kernel, by decide +kernel, by decide +kernel, by decide⟩
theorem vX11_holds : fp_Vok kX11_holds := ⟨List.mem_of_getElem? (i := 712) (by decide +kernel), List.mem_of_getElem? (i := 713) (by decide +kernel)⟩
theorem mX11_init : fp_Mok kX11_init 0 := ⟨List.mem_of_getElem? (i := 102) (by decide +kernel), List.mem_of_getElem? (i := 79) (by decide +kernel), by decide +kernel, by decide +kernel, by decide +kernel, by decide⟩
theorem vX11_init : Cond.instanceMethod kX11_init.1 ∈ lw_tbl := List.mem_of_getElem? (i := 101) (by decide +kernel)
theorem mX11_isOne : fp_Mok kX11_isOne 1 := ⟨List.mem_of_getElem? (i := 717) (by decide +kernel), List.mem_of_getElem? (i := 79) (by decide +kernel), by decide +kernel, by decide +kernel, by decide +kernel, by decide⟩
theorem sX11_isOne : Cond.static kX11_isOne.1 ∈ lw_tbl := List.mem_of_getElem? (i := 716) (by decide +kernel)
theorem mX11_isWithin : fp_Mok kX11_isWithin 2 := ⟨List.mem_of_getElem? (i := 766) (by decide +kernel), List.mem_of_getElem? (i := 79) (by decide +kernel), by decide +kernel, by decide +kernel, by decide +kernel, by decide⟩
theorem sX11_isWithin : Cond.static kX11_isWithin.1 ∈ lw_tbl := List.mem_of_getElem? (i := 765) (by decide +kernel)
theorem mX11_join : fp_Mok kX11_join 1 := ⟨List.mem_of_getElem? (i := 1038) (by decide +kernel), List.mem_of_getElem? (i := 79) (by decide +kernel), by decide +kernel, by decide +kernel, by decide +kernel, by decide⟩
theorem vX11_join : fp_Vok kX11_join := ⟨List.mem_of_getElem? (i := 1036) (by decide +kernel), List.mem_of_getElem? (i := 1037) (by decide +kernel)⟩
theorem mX11_keep : fp_Mok kX11_keep 1 := ⟨List.mem_of_getElem? (i := 1042) (by decide +kernel), List.mem_of_getElem? (i := 79) (by decide +kernel), by decide +kernel, by decide +kernel, by decide +kernel, by decide⟩
theorem vX11_keep : fp_Vok kX11_keep := ⟨List.mem_of_getElem? (i := 1040) (by decide +kernel), List.mem_of_getElem? (i := 1041) (by decide +kernel)⟩
theorem mX11_lay : fp_Mok kX11_lay 3 := ⟨List.mem_of_getElem? (i := 1064) (by decide +kernel), List.mem_of_getElem? (i := 79) (by decide +kernel), by decide +kernel, by decide +kernel, by decide +kernel, by decide⟩
theorem vX11_lay : fp_Vok kX11_lay := ⟨List.mem_of_getElem? (i := 1062) (by decide +kernel), List.mem_of_getElem? (i := 1063) (by decide +kernel)⟩
theorem mX11_likeliest : fp_Mok kX11_likeliest 1 := ⟨List.mem_of_getElem? (i := 896) (by decide +kernel), List.mem_of_getElem? (i := 79) (by decide +kernel), by decide +kernel, by decide +kernel, by decide +kernel, by decide⟩
theorem vX11_likeliest : fp_Vok kX11_likeliest := ⟨List.mem_of_getElem? (i := 894) (by decide +kernel), List.mem_of_getElem? (i := 895) (by decide +kernel)⟩
theorem mX11_line : fp_Mok kX11_line 2 := ⟨List.mem_of_getElem? (i := 690) (by decide +kernel), List.mem_of_getElem? (i := 79) (by decide +kernel), by decide +kernel, by decide +kernel, by decide +kernel, by decide⟩
theorem vX11_line : fp_Vok kX11_line := ⟨List.mem_of_getElem? (i := 688) (by decide +kernel), List.mem_of_getElem? (i := 689) (by decide +kernel)⟩
theorem mX11_lost : fp_Mok kX11_lost 1 := ⟨List.mem_of_getElem? (i := 810) (by decide +kernel), List.mem_of_getElem? (i := 79) (by decide +kernel), by decide +kernel, by decide +kernel, by decide +kernel, by decide⟩
theorem vX11_lost : fp_Vok kX11_lost := ⟨List.mem_of_getElem? (i := 808) (by decide +kernel), List.mem_of_getElem? (i := 809) (by decide +kernel)⟩
theorem mX11_most : fp_Mok kX11_most 2 := ⟨List.mem_of_getElem? (i := 846) (by decide +kernel), List.mem_of_getElem? (i := 79) (by decide +kernel), by decide +kernel, by decide +kernel, by decide +kernel, by decide⟩
theorem vX11_most : fp_Vok kX11_most := ⟨List.mem_of_getElem? (i := 844) (by decide +kernel), List.mem_of_getElem? (i := 845) (by decide +kernel)⟩
theorem mX11_noted : fp_Mok kX11_noted 1 := ⟨List.mem_of_getElem? (i := 939) (by decide +kernel), List.mem_of_getElem? (i := 79) (by decide +kernel), by decide +kernel, by decide +kernel, by decide +kernel, by decide⟩
theorem vX11_noted : fp_Vok kX11_noted := ⟨List.mem_of_getElem? (i := 937) (by decide +kernel), List.mem_of_getElem? (i := 938) (by decide +kernel)⟩
theorem mX11_odds : fp_Mok kX11_odds 3 := ⟨List.mem_of_getElem? (i := 875) (by decide +kernel), List.mem_of_getElem? (i := 79) (by decide +kernel), by decide +kernel, by decide +kernel, by decide +kernel, by decide⟩
theorem vX11_odds : fp_Vok kX11_odds := ⟨List.mem_of_getElem? (i := 873) (by decide +kernel), List.mem_of_getElem? (i := 874) (by decide +kernel)⟩
theorem mX11_orders : fp_Mok kX11_orders 2 := ⟨List.mem_of_getElem? (i := 955) (by decide +kernel), List.mem_of_getElem? (i := 79) (by decide +kernel), by decide +kernel, by decide +kernel, by decide +kernel, by decide⟩
theorem vX11_orders : fp_Vok kX11_orders := ⟨List.mem_of_getElem? (i := 953) (by decide +kernel), List.mem_of_getElem? (i := 954) (by decide +kernel)⟩
theorem mX11_put : fp_Mok kX11_put 3 := ⟨List.mem_of_getElem? (i := 734) (by decide +kernel), List.mem_of_getElem? (i := 79) (by decide +kernel), by decide +kernel, by decide +kernel, by decide +kernel, by decide⟩
theorem vX11_put : fp_Vok kX11_put := ⟨List.mem_of_getElem? (i := 732) (by decide +kernel), List.mem_of_getElem? (i := 733) (by decide +kernel)⟩
theorem mX11_read : fp_Mok kX11_read 4 := ⟨List.mem_of_getElem? (i := 1080) (by decide +kernel), List.mem_of_getElem? (i := 79) (by decide +kernel), by decide +kernel, by decide +kernel, by decide +kernel, by decide⟩
theorem vX11_read : fp_Vok kX11_read := ⟨List.mem_of_getElem? (i := 1078) (by decide +kernel), List.mem_of_getElem? (i := 1079) (by decide +kernel)⟩
theorem mX11_ring : fp_Mok kX11_ring 1 := ⟨List.mem_of_getElem? (i := 1002) (by decide +kernel), List.mem_of_getElem? (i := 79) (by decide +kernel), by decide +kernel, by decide +kernel, by decide +kernel, by decide⟩
theorem vX11_ring : fp_Vok kX11_ring := ⟨List.mem_of_getElem? (i := 1000) (by decide +kernel), List.mem_of_getElem? (i := 1001) (by decide +kernel)⟩
theorem mX11_sheet : fp_Mok kX11_sheet 3 := ⟨List.mem_of_getElem? (i := 1055) (by decide +kernel), List.mem_of_getElem? (i := 79) (by decide +kernel), by decide +kernel, by decide +kernel, by decide +kernel, by decide⟩
theorem vX11_sheet : fp_Vok kX11_sheet := ⟨List.mem_of_getElem? (i := 1053) (by decide +kernel), List.mem_of_getElem? (i := 1054) (by decide +kernel)⟩
theorem mX11_since : fp_Mok kX11_since 2 := ⟨List.mem_of_getElem? (i := 815) (by decide +kernel), List.mem_of_getElem? (i := 79) (by decide +kernel), by decide +kernel, by decide +kernel, by decide +kernel, by decide⟩
theorem vX11_since : fp_Vok kX11_since := ⟨List.mem_of_getElem? (i := 813) (by decide +kernel), List.mem_of_getElem? (i := 814) (by decide +kernel)⟩
theorem mX11_slip : fp_Mok kX11_slip 3 := ⟨List.mem_of_getElem? (i := 754) (by decide +kernel), List.mem_of_getElem? (i := 79) (by decide +kernel), by decide +kernel, by decide +kernel, by decide +kernel, by decide⟩
theorem vX11_slip : fp_Vok kX11_slip := ⟨List.mem_of_getElem? (i := 752) (by decide +kernel), List.mem_of_getElem? (i := 753) (by decide +kernel)⟩
theorem mX11_tellVisit : fp_Mok kX11_tellVisit 4 := ⟨List.mem_of_getElem? (i := 763) (by decide +kernel), List.mem_of_getElem? (i := 79) (by decide +kernel), by decide +kernel, by decide +kernel, by decide +kernel, by decide⟩
theorem vX11_tellVisit : fp_Vok kX11_tellVisit := ⟨List.mem_of_getElem? (i := 762) (by decide +kernel), List.mem_of_getElem? (i := 14) (by decide +kernel)⟩
theorem mX11_tellVisitOf : fp_Mok kX11_tellVisitOf 2 := ⟨List.mem_of_getElem? (i := 1094) (by decide +kernel), List.mem_of_getElem? (i := 79) (by decide +kernel), by decide +kernel, by decide +kernel, by decide +kernel, by decide⟩
theorem vX11_tellVisitOf : fp_Vok kX11_tellVisitOf := ⟨List.mem_of_getElem? (i := 1093) (by decide +kernel), List.mem_of_getElem? (i := 34) (by decide +kernel)⟩
theorem mX11_thing : fp_Mok kX11_thing 2 := ⟨List.mem_of_getElem? (i := 677) (by decide +kernel), List.mem_of_getElem? (i := 79) (by decide +kernel), by decide +kernel, by decide +kernel, by decide +kernel, by decide⟩
theorem vX11_thing : fp_Vok kX11_thing := ⟨List.mem_of_getElem? (i := 675) (by decide +kernel), List.mem_of_getElem? (i := 676) (by decide +kernel)⟩
theorem mX11_torn : fp_Mok kX11_torn 0 := ⟨List.mem_of_getElem? (i := 1098) (by decide +kernel), List.mem_of_getElem? (i := 79) (by decide +kernel), by decide +kernel, by decide +kernel, by decide +kernel, by decide⟩
theorem vX11_torn : fp_Vok kX11_torn := ⟨List.mem_of_getElem? (i := 1096) (by decide +kernel), List.mem_of_getElem? (i := 1097) (by decide +kernel)⟩
theorem mX11_trick : fp_Mok kX11_trick 4 := ⟨List.mem_of_getElem? (i := 827) (by decide +kernel), List.mem_of_getElem? (i := 79) (by decide +kernel), by decide +kernel, by decide +kernel, by decide +kernel, by decide⟩
theorem vX11_trick : fp_Vok kX11_trick := ⟨List.mem_of_getElem? (i := 825) (by decide +kernel), List.mem_of_getElem? (i := 826) (by decide +kernel)⟩
theorem mX11_vain : fp_Mok kX11_vain 0 := ⟨List.mem_of_getElem? (i := 806) (by decide +kernel), List.mem_of_getElem? (i := 79) (by decide +kernel), by decide +kernel, by decide +kernel, by decide +kernel, by decide⟩
theorem vX11_vain : fp_Vok kX11_vain := ⟨List.mem_of_getElem? (i := 804) (by decide +kernel), List.mem_of_getElem? (i := 805) (by decide +kernel)⟩
theorem mX11_visit : fp_Mok kX11_visit 2 := ⟨List.mem_of_getElem? (i := 702) (by decide +kernel), List.mem_of_getElem? (i := 79) (by decide +kernel), by decide +kernel, by decide +kernel, by decide +kernel, by decide⟩
theorem vX11_visit : fp_Vok kX11_visit := ⟨List.mem_of_getElem? (i := 700) (by decide +kernel), List.mem_of_getElem? (i := 701) (by decide +kernel)⟩
theorem mX11_with : fp_Mok kX11_with 1 := ⟨List.mem_of_getElem? (i := 1034) (by decide +kernel), List.mem_of_getElem? (i := 79) (by decide +kernel), by decide +kernel, by decide +kernel, by decide +kernel, by decide⟩
theorem vX11_with : fp_Vok kX11_with := ⟨List.mem_of_getElem? (i := 1032) (by decide +kernel), List.mem_of_getElem? (i := 1033) (by decide +kernel)⟩
theorem mX11_worth : fp_Mok kX11_worth 1 := ⟨List.mem_of_getElem? (i := 725) (by decide +kernel), List.mem_of_getElem? (i := 79) (by decide +kernel), by decide +kernel, by decide +kernel, by decide +kernel, by decide⟩
theorem vX11_worth : fp_Vok kX11_worth := ⟨List.mem_of_getElem? (i := 723) (by decide +kernel), List.mem_of_getElem? (i := 724) (by decide +kernel)⟩
theorem mX12_after : fp_Mok kX12_after 2 := ⟨List.mem_of_getElem? (i := 1439) (by decide +kernel), List.mem_of_getElem? (i := 92) (by decide +kernel), by decide +kernel, by decide +kernel, by decide +kernel, by decide⟩
theorem vX12_after : fp_Vok kX12_after := ⟨List.mem_of_getElem? (i := 1437) (by decide +kernel), List.mem_of_getElem? (i := 1438) (by decide +kernel)⟩
theorem mX12_aim : fp_Mok kX12_aim 2 := ⟨List.mem_of_getElem? (i := 1471) (by decide +kernel), List.mem_of_getElem? (i := 92) (by decide +kernel), by decide +kernel, by decide +kernel, by decide +kernel, by decide⟩
theorem vX12_aim : fp_Vok kX12_aim := ⟨List.mem_of_getElem? (i := 1469) (by decide +kernel), List.mem_of_getElem? (i := 1470) (by decide +kernel)⟩
theorem mX12_back : fp_Mok kX12_back 1 := ⟨List.mem_of_getElem? (i := 1583) (by decide +kernel), List.mem_of_getElem? (i := 92) (by decide +kernel), by decide +kernel, by decide +kernel, by decide +kernel, by decide⟩
theorem vX12_back : fp_Vok kX12_back := ⟨List.mem_of_getElem? (i := 1581) (by decide +kernel), List.mem_of_getElem? (i := 1582) (by decide +kernel)⟩
theorem mX12_bank : fp_Mok kX12_bank 0 := ⟨List.mem_of_getElem? (i := 1259) (by decide +kernel), List.mem_of_getElem? (i := 92) (by decide +kernel), by decide +kernel, by decide +kernel, by decide +kernel, by decide⟩
theorem vX12_bank : fp_Vok kX12_bank := ⟨List.mem_of_getElem? (i := 1257) (by decide +kernel), List.mem_of_getElem? (i := 1258) (by decide +kernel)⟩
theorem mX12_byteAt : fp_Mok kX12_byteAt 1 := ⟨List.mem_of_getElem? (i := 1267) (by decide +kernel), List.mem_of_getElem? (i := 92) (by decide +kernel), by decide +kernel, by decide +kernel, by decide +kernel, by decide⟩
theorem vX12_byteAt : fp_Vok kX12_byteAt := ⟨List.mem_of_getElem? (i := 1266) (by decide +kernel), List.mem_of_getElem? (i := 36) (by decide +kernel)⟩
theorem mX12_chance : fp_Mok kX12_chance 1 := ⟨List.mem_of_getElem? (i := 1363) (by decide +kernel), List.mem_of_getElem? (i := 92) (by decide +kernel), by decide +kernel, by decide +kernel, by decide +kernel, by decide⟩
theorem vX12_chance : fp_Vok kX12_chance := ⟨List.mem_of_getElem? (i := 1361) (by decide +kernel), List.mem_of_getElem? (i := 1362) (by decide +kernel)⟩
theorem mX12_come : fp_Mok kX12_come 4 := ⟨List.mem_of_getElem? (i := 1414) (by decide +kernel), List.mem_of_getElem? (i := 92) (by decide +kernel), by decide +kernel, by decide +kernel, by decide +kernel, by decide⟩
theorem vX12_come : fp_Vok kX12_come := ⟨List.mem_of_getElem? (i := 1412) (by decide +kernel), List.mem_of_getElem? (i := 1413) (by decide +kernel)⟩
theorem mX12_comes : fp_Mok kX12_comes 4 := ⟨List.mem_of_getElem? (i := 1418) (by decide +kernel), List.mem_of_getElem? (i := 92) (by decide +kernel), by decide +kernel, by decide +kernel, by decide +kernel, by decide⟩
theorem vX12_comes : fp_Vok kX12_comes := ⟨List.mem_of_getElem? (i := 1417) (by decide +kernel), List.mem_of_getElem? (i := 60) (by decide +kernel)⟩
theorem mX12_copies : fp_Mok kX12_copies 2 := ⟨List.mem_of_getElem? (i := 1447) (by decide +kernel), List.mem_of_getElem? (i := 92) (by decide +kernel), by decide +kernel, by decide +kernel, by decide +kernel, by decide⟩
theorem vX12_copies : fp_Vok kX12_copies := ⟨List.mem_of_getElem? (i := 1446) (by decide +kernel), List.mem_of_getElem? (i := 64) (by decide +kernel)⟩
theorem mX12_copiesAll : fp_Mok kX12_copiesAll 2 := ⟨List.mem_of_getElem? (i := 1579) (by decide +kernel), List.mem_of_getElem? (i := 92) (by decide +kernel), by decide +kernel, by decide +kernel, by decide +kernel, by decide⟩
theorem vX12_copiesAll : fp_Vok kX12_copiesAll := ⟨List.mem_of_getElem? (i := 1578) (by decide +kernel), List.mem_of_getElem? (i := 77) (by decide +kernel)⟩
theorem mX12_count : fp_Mok kX12_count 1 := ⟨List.mem_of_getElem? (i := 1603) (by decide +kernel), List.mem_of_getElem? (i := 92) (by decide +kernel), by decide +kernel, by decide +kernel, by decide +kernel, by decide⟩
theorem vX12_count : fp_Vok kX12_count := ⟨List.mem_of_getElem? (i := 1601) (by decide +kernel), List.mem_of_getElem? (i := 1602) (by decide +kernel)⟩
theorem mX12_cut : fp_Mok kX12_cut 1 := ⟨List.mem_of_getElem? (i := 1423) (by decide +kernel), List.mem_of_getElem? (i := 92) (by decide +kernel), by decide +kernel, by decide +kernel, by decide +kernel, by decide⟩
theorem vX12_cut : fp_Vok kX12_cut := ⟨List.mem_of_getElem? (i := 1421) (by decide +kernel), List.mem_of_getElem? (i := 1422) (by decide +kernel)⟩
theorem mX12_draw : fp_Mok kX12_draw 2 := ⟨List.mem_of_getElem? (i := 1398) (by decide +kernel), List.mem_of_getElem? (i := 92) (by decide +kernel), by decide +kernel, by decide +kernel, by decide +kernel, by decide⟩
theorem vX12_draw : fp_Vok kX12_draw := ⟨List.mem_of_getElem? (i := 1396) (by decide +kernel), List.mem_of_getElem? (i := 1397) (by decide +kernel)⟩
theorem mX12_draws : fp_Mok kX12_draws 3 := ⟨List.mem_of_getElem? (i := 1402) (by decide +kernel), List.mem_of_getElem? (i := 92) (by decide +kernel), by decide +kernel, by decide +kernel, by decide +kernel, by decide⟩
theorem vX12_draws : fp_Vok kX12_draws := ⟨List.mem_of_getElem? (i := 1401) (by decide +kernel), List.mem_of_getElem? (i := 58) (by decide +kernel)⟩
theorem mX12_duel : fp_Mok kX12_duel 6 := ⟨List.mem_of_getElem? (i := 1521) (by decide +kernel), List.mem_of_getElem? (i := 92) (by decide +kernel), by decide +kernel, by decide +kernel, by decide +kernel, by decide⟩
theorem vX12_duel : fp_Vok kX12_duel := ⟨List.mem_of_getElem? (i := 1519) (by decide +kernel), List.mem_of_getElem? (i := 1520) (by decide +kernel)⟩
theorem mX12_end : fp_Mok kX12_end 1 := ⟨List.mem_of_getElem? (i := 1252) (by decide +kernel), List.mem_of_getElem? (i := 92) (by decide +kernel), by decide +kernel, by decide +kernel, by decide +kernel, by decide⟩
theorem vX12_end : fp_Vok kX12_end := ⟨List.mem_of_getElem? (i := 1250) (by decide +kernel), List.mem_of_getElem? (i := 1251) (by decide +kernel)⟩
theorem mX12_extra : fp_Mok kX12_extra 3 := ⟨List.mem_of_getElem? (i := 1467) (by decide +kernel), List.mem_of_getElem? (i := 92) (by decide +kernel), by decide +kernel, by decide +kernel, by decide +kernel, by decide⟩
theorem vX12_extra : fp_Vok kX12_extra := ⟨List.mem_of_getElem? (i := 1465) (by decide +kernel), List.mem_of_getElem? (i := 1466) (by decide +kernel)⟩
theorem mX12_fails : fp_Mok kX12_fails 1 := ⟨List.mem_of_getElem? (i := 1275) (by decide +kernel), List.mem_of_getElem? (i := 92) (by decide +kernel), by decide +kernel, by decide +kernel, by decide +kernel, by decide⟩
theorem vX12_fails : fp_Vok kX12_fails := ⟨List.mem_of_getElem? (i := 1274) (by decide +kernel), List.mem_of_getElem? (i := 37) (by decide +kernel)⟩
theorem mX12_fault : fp_Mok kX12_fault 0 := ⟨List.mem_of_getElem? (i := 1312) (by decide +kernel), List.mem_of_getElem? (i := 92) (by decide +kernel), by decide +kernel, by decide +kernel, by decide +kernel, by decide⟩
theorem vX12_fault : fp_Vok kX12_fault := ⟨List.mem_of_getElem? (i := 1310) (by decide +kernel), List.mem_of_getElem? (i := 1311) (by decide +kernel)⟩
theorem mX12_feed : fp_Mok kX12_feed 1 := ⟨List.mem_of_getElem? (i := 1248) (by decide +kernel), List.mem_of_getElem? (i := 92) (by decide +kernel), by decide +kernel, by decide +kernel, by decide +kernel, by decide⟩
theorem vX12_feed : fp_Vok kX12_feed := ⟨List.mem_of_getElem? (i := 1246) (by decide +kernel), List.mem_of_getElem? (i := 1247) (by decide +kernel)⟩
theorem mX12_fitsRow : fp_Mok kX12_fitsRow 2 := ⟨List.mem_of_getElem? (i := 1543) (by decide +kernel), List.mem_of_getElem? (i := 92) (by decide +kernel), by decide +kernel, by decide +kernel, by decide +kernel, by decide⟩
theorem vX12_fitsRow : fp_Vok kX12_fitsRow := ⟨List.mem_of_getElem? (i := 1542) (by decide +kernel), List.mem_of_getElem? (i := 72) (by decide +kernel)⟩
theorem mX12_forget : fp_Mok kX12_forget 0 := ⟨List.mem_of_getElem? (i := 1534) (by decide +kernel), List.mem_of_getElem? (i := 92) (by decide +kernel), by decide +kernel, by decide +kernel, by decide +kernel, by decide⟩
theorem vX12_forget : fp_Vok kX12_forget := ⟨List.mem_of_getElem? (i := 1532) (by decide +kernel), List.mem_of_getElem? (i := 1533) (by decide +kernel)⟩
theorem mX12_gains : fp_Mok kX12_gains 2 := ⟨List.mem_of_getElem? (i := 1451) (by decide +kernel), List.mem_of_getElem? (i := 92) (by decide +kernel), by decide +kernel, by decide +kernel, by decide +kernel, by decide⟩
theorem vX12_gains : fp_Vok kX12_gains := ⟨List.mem_of_getElem? (i := 1449) (by decide +kernel), List.mem_of_getElem? (i := 1450) (by decide +kernel)⟩
theorem mX12_gives : fp_Mok kX12_gives 2 := ⟨List.mem_of_getElem? (i := 1346) (by decide +kernel), List.mem_of_getElem? (i := 92) (by decide +kernel), by decide +kernel, by decide +kernel, by decide +kernel, by decide⟩
theorem vX12_gives : fp_Vok kX12_gives := ⟨List.mem_of_getElem? (i := 1345) (by decide +kernel), List.mem_of_getElem? (i := 51) (by decide +kernel)⟩
theorem mX12_givesAt : fp_Mok kX12_givesAt 2 := ⟨List.mem_of_getElem? (i := 1350) (by decide +kernel), List.mem_of_getElem? (i := 92) (by decide +kernel), by decide +kernel, by decide +kernel, by decide +kernel, by decide⟩
theorem vX12_givesAt : fp_Vok kX12_givesAt := ⟨List.mem_of_getElem? (i := 1349) (by decide +kernel), List.mem_of_getElem? (i := 52) (by decide +kernel)⟩
theorem mX12_go : fp_Mok kX12_go 1 := ⟨List.mem_of_getElem? (i := 1427) (by decide +kernel), List.mem_of_getElem? (i := 92) (by decide +kernel), by decide +kernel, by decide +kernel, by decide +kernel, by decide⟩
theorem vX12_go : fp_Vok kX12_go := ⟨List.mem_of_getElem? (i := 1425) (by decide +kernel), List.mem_of_getElem? (i := 1426) (by decide +kernel)⟩
theorem mX12_happens : fp_Mok kX12_happens 2 := ⟨List.mem_of_getElem? (i := 1431) (by decide +kernel), List.mem_of_getElem? (i := 92) (by decide +kernel), by decide +kernel, by decide +kernel, by decide +kernel, by decide⟩
theorem vX12_happens : fp_Vok kX12_happens := ⟨List.mem_of_getElem? (i := 1430) (by decide +kernel), List.mem_of_getElem? (i := 61) (by decide +kernel)⟩
theorem mX12_holds : fp_Mok kX12_holds 1 := ⟨List.mem_of_getElem? (i := 1367) (by decide +kernel), List.mem_of_getElem? (i := 92) (by decide +kernel), by decide +kernel, by decide +kernel, by decide +kernel, by decide⟩
theorem vX12_holds : fp_Vok kX12_holds := ⟨List.mem_of_getElem? (i := 1365) (by decide +kernel), List.mem_of_getElem? (i := 1366) (by decide +kernel)⟩
theorem mX12_holdsAt : fp_Mok kX12_holdsAt 2 := ⟨List.mem_of_getElem? (i := 1374) (by decide +kernel), List.mem_of_getElem? (i := 92) (by decide +kernel), by decide +kernel, by decide +kernel, by decide +kernel, by decide⟩
theorem vX12_holdsAt : fp_Vok kX12_holdsAt := ⟨List.mem_of_getElem? (i := 1373) (by decide +kernel), List.mem_of_getElem? (i := 54) (by decide +kernel)⟩
theorem mX12_in : fp_Mok kX12_in 3 := ⟨List.mem_of_getElem? (i := 1255) (by decide +kernel), List.mem_of_getElem? (i := 92) (by decide +kernel), by decide +kernel, by decide +kernel, by decide +kernel, by decide⟩
theorem sX12_in : Cond.static kX12_in.1 ∈ lw_tbl := List.mem_of_getElem? (i := 1254) (by decide +kernel)
theorem mX12_init : fp_Mok kX12_init 0 := ⟨List.mem_of_getElem? (i := 1107) (by decide +kernel), List.mem_of_getElem? (i := 92) (by decide +kernel), by decide +kernel, by decide +kernel, by decide +kernel, by decide⟩
theorem vX12_init : Cond.instanceMethod kX12_init.1 ∈ lw_tbl := List.mem_of_getElem? (i := 1106) (by decide +kernel)
theorem mX12_isLine : fp_Mok kX12_isLine 1 := ⟨List.mem_of_getElem? (i := 1342) (by decide +kernel), List.mem_of_getElem? (i := 92) (by decide +kernel), by decide +kernel, by decide +kernel, by decide +kernel, by decide⟩
theorem vX12_isLine : fp_Vok kX12_isLine := ⟨List.mem_of_getElem? (i := 1341) (by decide +kernel), List.mem_of_getElem? (i := 50) (by decide +kernel)⟩
theorem mX12_isOne : fp_Mok kX12_isOne 1 := ⟨List.mem_of_getElem? (i := 1370) (by decide +kernel), List.mem_of_getElem? (i := 92) (by decide +kernel), by decide +kernel, by decide +kernel, by decide +kernel, by decide⟩
theorem sX12_isOne : Cond.static kX12_isOne.1 ∈ lw_tbl := List.mem_of_getElem? (i := 1369) (by decide +kernel)
theorem mX12_isOwn : fp_Mok kX12_isOwn 2 := ⟨List.mem_of_getElem? (i := 1488) (by decide +kernel), List.mem_of_getElem? (i := 92) (by decide +kernel), by decide +kernel, by decide +kernel, by decide +kernel, by decide⟩
theorem vX12_isOwn : fp_Vok kX12_isOwn := ⟨List.mem_of_getElem? (i := 1487) (by decide +kernel), List.mem_of_getElem? (i := 66) (by decide +kernel)⟩
theorem mX12_isThing : fp_Mok kX12_isThing 1 := ⟨List.mem_of_getElem? (i := 1320) (by decide +kernel), List.mem_of_getElem? (i := 92) (by decide +kernel), by decide +kernel, by decide +kernel, by decide +kernel, by decide⟩
theorem vX12_isThing : fp_Vok kX12_isThing := ⟨List.mem_of_getElem? (i := 1319) (by decide +kernel), List.mem_of_getElem? (i := 46) (by decide +kernel)⟩
theorem mX12_isTrick : fp_Mok kX12_isTrick 6 := ⟨List.mem_of_getElem? (i := 1480) (by decide +kernel), List.mem_of_getElem? (i := 92) (by decide +kernel), by decide +kernel, by decide +kernel, by decide +kernel, by decide⟩
theorem vX12_isTrick : fp_Vok kX12_isTrick := ⟨List.mem_of_getElem? (i := 1479) (by decide +kernel), List.mem_of_getElem? (i := 65) (by decide +kernel)⟩
theorem mX12_join : fp_Mok kX12_join 1 := ⟨List.mem_of_getElem? (i := 1571) (by decide +kernel), List.mem_of_getElem? (i := 92) (by decide +kernel), by decide +kernel, by decide +kernel, by decide +kernel, by decide⟩
theorem vX12_join : fp_Vok kX12_join := ⟨List.mem_of_getElem? (i := 1569) (by decide +kernel), List.mem_of_getElem? (i := 1570) (by decide +kernel)⟩
theorem mX12_keep : fp_Mok kX12_keep 1 := ⟨List.mem_of_getElem? (i := 1575) (by decide +kernel), List.mem_of_getElem? (i := 92) (by decide +kernel), by decide +kernel, by decide +kernel, by decide +kernel, by decide⟩
theorem vX12_keep : fp_Vok kX12_keep := ⟨List.mem_of_getElem? (i := 1573) (by decide +kernel), List.mem_of_getElem? (i := 1574) (by decide +kernel)⟩
theorem mX12_lay : fp_Mok kX12_lay 3 := ⟨List.mem_of_getElem? (i := 1591) (by decide +kernel), List.mem_of_getElem? (i := 92) (by decide +kernel), by decide +kernel, by decide +kernel, by decide +kernel, by decide⟩
theorem vX12_lay : fp_Vok kX12_lay := ⟨List.mem_of_getElem? (i := 1589) (by decide +kernel), List.mem_of_getElem? (i := 1590) (by decide +kernel)⟩
theorem mX12_layChances : fp_Mok kX12_layChances 1 := ⟨List.mem_of_getElem? (i := 1510) (by decide +kernel), List.mem_of_getElem? (i := 92) (by decide +kernel), by decide +kernel, by decide +kernel, by decide +kernel, by decide⟩
theorem vX12_layChances : fp_Vok kX12_layChances := ⟨List.mem_of_getElem? (i := 1509) (by decide +kernel), List.mem_of_getElem? (i := 70) (by decide +kernel)⟩
theorem mX12_layRings : fp_Mok kX12_layRings 0 := ⟨List.mem_of_getElem? (i := 1555) (by decide +kernel), List.mem_of_getElem? (i := 92) (by decide +kernel), by decide +kernel, by decide +kernel, by decide +kernel, by decide⟩
theorem vX12_layRings : fp_Vok kX12_layRings := ⟨List.mem_of_getElem? (i := 1554) (by decide +kernel), List.mem_of_getElem? (i := 74) (by decide +kernel)⟩
theorem mX12_laysIn : fp_Mok kX12_laysIn 4 := ⟨List.mem_of_getElem? (i := 1394) (by decide +kernel), List.mem_of_getElem? (i := 92) (by decide +kernel), by decide +kernel, by decide +kernel, by decide +kernel, by decide⟩
theorem vX12_laysIn : fp_Vok kX12_laysIn := ⟨List.mem_of_getElem? (i := 1393) (by decide +kernel), List.mem_of_getElem? (i := 57) (by decide +kernel)⟩
theorem mX12_lie : fp_Mok kX12_lie 2 := ⟨List.mem_of_getElem? (i := 1328) (by decide +kernel), List.mem_of_getElem? (i := 92) (by decide +kernel), by decide +kernel, by decide +kernel, by decide +kernel, by decide⟩
theorem vX12_lie : fp_Vok kX12_lie := ⟨List.mem_of_getElem? (i := 1327) (by decide +kernel), List.mem_of_getElem? (i := 48) (by decide +kernel)⟩
theorem mX12_lies : fp_Mok kX12_lies 3 := ⟨List.mem_of_getElem? (i := 1332) (by decide +kernel), List.mem_of_getElem? (i := 92) (by decide +kernel), by decide +kernel, by decide +kernel, by decide +kernel, by decide⟩
theorem vX12_lies : fp_Vok kX12_lies := ⟨List.mem_of_getElem? (i := 1331) (by decide +kernel), List.mem_of_getElem? (i := 49) (by decide +kernel)⟩
theorem mX12_likeliest : fp_Mok kX12_likeliest 1 := ⟨List.mem_of_getElem? (i := 1517) (by decide +kernel), List.mem_of_getElem? (i := 92) (by decide +kernel), by decide +kernel, by decide +kernel, by decide +kernel, by decide⟩
theorem vX12_likeliest : fp_Vok kX12_likeliest := ⟨List.mem_of_getElem? (i := 1515) (by decide +kernel), List.mem_of_getElem? (i := 1516) (by decide +kernel)⟩
theorem mX12_likes : fp_Mok kX12_likes 2 := ⟨List.mem_of_getElem? (i := 1563) (by decide +kernel), List.mem_of_getElem? (i := 92) (by decide +kernel), by decide +kernel, by decide +kernel, by decide +kernel, by decide⟩
theorem vX12_likes : fp_Vok kX12_likes := ⟨List.mem_of_getElem? (i := 1562) (by decide +kernel), List.mem_of_getElem? (i := 76) (by decide +kernel)⟩
theorem mX12_line : fp_Mok kX12_line 2 := ⟨List.mem_of_getElem? (i := 1338) (by decide +kernel), List.mem_of_getElem? (i := 92) (by decide +kernel), by decide +kernel, by decide +kernel, by decide +kernel, by decide⟩
theorem vX12_line : fp_Vok kX12_line := ⟨List.mem_of_getElem? (i := 1336) (by decide +kernel), List.mem_of_getElem? (i := 1337) (by decide +kernel)⟩
theorem mX12_looks : fp_Mok kX12_looks 2 := ⟨List.mem_of_getElem? (i := 1296) (by decide +kernel), List.mem_of_getElem? (i := 92) (by decide +kernel), by decide +kernel, by decide +kernel, by decide +kernel, by decide⟩
theorem vX12_looks : fp_Vok kX12_looks := ⟨List.mem_of_getElem? (i := 1295) (by decide +kernel), List.mem_of_getElem? (i := 42) (by decide +kernel)⟩
theorem mX12_lost : fp_Mok kX12_lost 1 := ⟨List.mem_of_getElem? (i := 1459) (by decide +kernel), List.mem_of_getElem? (i := 92) (by decide +kernel), by decide +kernel, by decide +kernel, by decide +kernel, by decide⟩
theorem vX12_lost : fp_Vok kX12_lost := ⟨List.mem_of_getElem? (i := 1457) (by decide +kernel), List.mem_of_getElem? (i := 1458) (by decide +kernel)⟩
theorem mX12_lowest : fp_Mok kX12_lowest 3 := ⟨List.mem_of_getElem? (i := 1513) (by decide +kernel), List.mem_of_getElem? (i := 92) (by decide +kernel), by decide +kernel, by decide +kernel, by decide +kernel, by decide⟩
theorem sX12_lowest : Cond.static kX12_lowest.1 ∈ lw_tbl := List.mem_of_getElem? (i := 1512) (by decide +kernel)
theorem mX12_most : fp_Mok kX12_most 2 := ⟨List.mem_of_getElem? (i := 1484) (by decide +kernel), List.mem_of_getElem? (i := 92) (by decide +kernel), by decide +kernel, by decide +kernel, by decide +kernel, by decide⟩
theorem vX12_most : fp_Vok kX12_most := ⟨List.mem_of_getElem? (i := 1482) (by decide +kernel), List.mem_of_getElem? (i := 1483) (by decide +kernel)⟩
theorem mX12_nameHere : fp_Mok kX12_nameHere 0 := ⟨List.mem_of_getElem? (i := 1283) (by decide +kernel), List.mem_of_getElem? (i := 92) (by decide +kernel), by decide +kernel, by decide +kernel, by decide +kernel, by decide⟩
theorem vX12_nameHere : fp_Vok kX12_nameHere := ⟨List.mem_of_getElem? (i := 1282) (by decide +kernel), List.mem_of_getElem? (i := 39) (by decide +kernel)⟩
theorem mX12_nextLines : fp_Mok kX12_nextLines 1 := ⟨List.mem_of_getElem? (i := 1500) (by decide +kernel), List.mem_of_getElem? (i := 92) (by decide +kernel), by decide +kernel, by decide +kernel, by decide +kernel, by decide⟩
theorem vX12_nextLines : fp_Vok kX12_nextLines := ⟨List.mem_of_getElem? (i := 1499) (by decide +kernel), List.mem_of_getElem? (i := 69) (by decide +kernel)⟩
theorem mX12_nextRow : fp_Mok kX12_nextRow 1 := ⟨List.mem_of_getElem? (i := 1547) (by decide +kernel), List.mem_of_getElem? (i := 92) (by decide +kernel), by decide +kernel, by decide +kernel, by decide +kernel, by decide⟩
theorem vX12_nextRow : fp_Vok kX12_nextRow := ⟨List.mem_of_getElem? (i := 1546) (by decide +kernel), List.mem_of_getElem? (i := 73) (by decide +kernel)⟩
theorem mX12_noted : fp_Mok kX12_noted 1 := ⟨List.mem_of_getElem? (i := 1530) (by decide +kernel), List.mem_of_getElem? (i := 92) (by decide +kernel), by decide +kernel, by decide +kernel, by decide +kernel, by decide⟩
theorem vX12_noted : fp_Vok kX12_noted := ⟨List.mem_of_getElem? (i := 1528) (by decide +kernel), List.mem_of_getElem? (i := 1529) (by decide +kernel)⟩
theorem mX12_number : fp_Mok kX12_number 2 := ⟨List.mem_of_getElem? (i := 1292) (by decide +kernel), List.mem_of_getElem? (i := 92) (by decide +kernel), by decide +kernel, by decide +kernel, by decide +kernel, by decide⟩
theorem vX12_number : fp_Vok kX12_number := ⟨List.mem_of_getElem? (i := 1291) (by decide +kernel), List.mem_of_getElem? (i := 41) (by decide +kernel)⟩
theorem mX12_odds : fp_Mok kX12_odds 3 := ⟨List.mem_of_getElem? (i := 1504) (by decide +kernel), List.mem_of_getElem? (i := 92) (by decide +kernel), by decide +kernel, by decide +kernel, by decide +kernel, by decide⟩
theorem vX12_odds : fp_Vok kX12_odds := ⟨List.mem_of_getElem? (i := 1502) (by decide +kernel), List.mem_of_getElem? (i := 1503) (by decide +kernel)⟩
theorem mX12_orders : fp_Mok kX12_orders 2 := ⟨List.mem_of_getElem? (i := 1538) (by decide +kernel), List.mem_of_getElem? (i := 92) (by decide +kernel), by decide +kernel, by decide +kernel, by decide +kernel, by decide⟩
theorem vX12_orders : fp_Vok kX12_orders := ⟨List.mem_of_getElem? (i := 1536) (by decide +kernel), List.mem_of_getElem? (i := 1537) (by decide +kernel)⟩
theorem mX12_placeOf : fp_Mok kX12_placeOf 1 := ⟨List.mem_of_getElem? (i := 1324) (by decide +kernel), List.mem_of_getElem? (i := 92) (by decide +kernel), by decide +kernel, by decide +kernel, by decide +kernel, by decide⟩
theorem vX12_placeOf : fp_Vok kX12_placeOf := ⟨List.mem_of_getElem? (i := 1323) (by decide +kernel), List.mem_of_getElem? (i := 47) (by decide +kernel)⟩
theorem mX12_plays : fp_Mok kX12_plays 6 := ⟨List.mem_of_getElem? (i := 1526) (by decide +kernel), List.mem_of_getElem? (i := 92) (by decide +kernel), by decide +kernel, by decide +kernel, by decide +kernel, by decide⟩
theorem vX12_plays : fp_Vok kX12_plays := ⟨List.mem_of_getElem? (i := 1525) (by decide +kernel), List.mem_of_getElem? (i := 71) (by decide +kernel)⟩
theorem mX12_put : fp_Mok kX12_put 3 := ⟨List.mem_of_getElem? (i := 1386) (by decide +kernel), List.mem_of_getElem? (i := 92) (by decide +kernel), by decide +kernel, by decide +kernel, by decide +kernel, by decide⟩
theorem vX12_put : fp_Vok kX12_put := ⟨List.mem_of_getElem? (i := 1384) (by decide +kernel), List.mem_of_getElem? (i := 1385) (by decide +kernel)⟩
theorem mX12_puts : fp_Mok kX12_puts 4 := ⟨List.mem_of_getElem? (i := 1390) (by decide +kernel), List.mem_of_getElem? (i := 92) (by decide +kernel), by decide +kernel, by decide +kernel, by decide +kernel, by decide⟩
theorem vX12_puts : fp_Vok kX12_puts := ⟨List.mem_of_getElem? (i := 1389) (by decide +kernel), List.mem_of_getElem? (i := 56) (by decide +kernel)⟩
theorem mX12_read : fp_Mok kX12_read 4 := ⟨List.mem_of_getElem? (i := 1595) (by decide +kernel), List.mem_of_getElem? (i := 92) (by decide +kernel), by decide +kernel, by decide +kernel, by decide +kernel, by decide⟩
theorem vX12_read : fp_Vok kX12_read := ⟨List.mem_of_getElem? (i := 1593) (by decide +kernel), List.mem_of_getElem? (i := 1594) (by decide +kernel)⟩
theorem mX12_readALine : fp_Mok kX12_readALine 0 := ⟨List.mem_of_getElem? (i := 1300) (by decide +kernel), List.mem_of_getElem? (i := 92) (by decide +kernel), by decide +kernel, by decide +kernel, by decide +kernel, by decide⟩
theorem vX12_readALine : fp_Vok kX12_readALine := ⟨List.mem_of_getElem? (i := 1299) (by decide +kernel), List.mem_of_getElem? (i := 43) (by decide +kernel)⟩
theorem mX12_readLine : fp_Mok kX12_readLine 0 := ⟨List.mem_of_getElem? (i := 1279) (by decide +kernel), List.mem_of_getElem? (i := 92) (by decide +kernel), by decide +kernel, by decide +kernel, by decide +kernel, by decide⟩
theorem vX12_readLine : fp_Vok kX12_readLine := ⟨List.mem_of_getElem? (i := 1278) (by decide +kernel), List.mem_of_getElem? (i := 38) (by decide +kernel)⟩
theorem mX12_readThing : fp_Mok kX12_readThing 0 := ⟨List.mem_of_getElem? (i := 1288) (by decide +kernel), List.mem_of_getElem? (i := 92) (by decide +kernel), by decide +kernel, by decide +kernel, by decide +kernel, by decide⟩
theorem vX12_readThing : fp_Vok kX12_readThing := ⟨List.mem_of_getElem? (i := 1287) (by decide +kernel), List.mem_of_getElem? (i := 40) (by decide +kernel)⟩
theorem mX12_readVisit : fp_Mok kX12_readVisit 1 := ⟨List.mem_of_getElem? (i := 1304) (by decide +kernel), List.mem_of_getElem? (i := 92) (by decide +kernel), by decide +kernel, by decide +kernel, by decide +kernel, by decide⟩
theorem vX12_readVisit : fp_Vok kX12_readVisit := ⟨List.mem_of_getElem? (i := 1303) (by decide +kernel), List.mem_of_getElem? (i := 44) (by decide +kernel)⟩
theorem mX12_ring : fp_Mok kX12_ring 1 := ⟨List.mem_of_getElem? (i := 1551) (by decide +kernel), List.mem_of_getElem? (i := 92) (by decide +kernel), by decide +kernel, by decide +kernel, by decide +kernel, by decide⟩
theorem vX12_ring : fp_Vok kX12_ring := ⟨List.mem_of_getElem? (i := 1549) (by decide +kernel), List.mem_of_getElem? (i := 1550) (by decide +kernel)⟩
theorem mX12_ringOf : fp_Mok kX12_ringOf 2 := ⟨List.mem_of_getElem? (i := 1559) (by decide +kernel), List.mem_of_getElem? (i := 92) (by decide +kernel), by decide +kernel, by decide +kernel, by decide +kernel, by decide⟩
theorem vX12_ringOf : fp_Vok kX12_ringOf := ⟨List.mem_of_getElem? (i := 1558) (by decide +kernel), List.mem_of_getElem? (i := 75) (by decide +kernel)⟩
theorem mX12_runs : fp_Mok kX12_runs 1 := ⟨List.mem_of_getElem? (i := 1443) (by decide +kernel), List.mem_of_getElem? (i := 92) (by decide +kernel), by decide +kernel, by decide +kernel, by decide +kernel, by decide⟩
theorem vX12_runs : fp_Vok kX12_runs := ⟨List.mem_of_getElem? (i := 1442) (by decide +kernel), List.mem_of_getElem? (i := 63) (by decide +kernel)⟩
theorem mX12_runsFrom : fp_Mok kX12_runsFrom 2 := ⟨List.mem_of_getElem? (i := 1496) (by decide +kernel), List.mem_of_getElem? (i := 92) (by decide +kernel), by decide +kernel, by decide +kernel, by decide +kernel, by decide⟩
theorem vX12_runsFrom : fp_Vok kX12_runsFrom := ⟨List.mem_of_getElem? (i := 1495) (by decide +kernel), List.mem_of_getElem? (i := 68) (by decide +kernel)⟩
theorem mX12_saves : fp_Mok kX12_saves 1 := ⟨List.mem_of_getElem? (i := 1492) (by decide +kernel), List.mem_of_getElem? (i := 92) (by decide +kernel), by decide +kernel, by decide +kernel, by decide +kernel, by decide⟩
theorem vX12_saves : fp_Vok kX12_saves := ⟨List.mem_of_getElem? (i := 1491) (by decide +kernel), List.mem_of_getElem? (i := 67) (by decide +kernel)⟩
theorem mX12_sheet : fp_Mok kX12_sheet 3 := ⟨List.mem_of_getElem? (i := 1587) (by decide +kernel), List.mem_of_getElem? (i := 92) (by decide +kernel), by decide +kernel, by decide +kernel, by decide +kernel, by decide⟩
theorem vX12_sheet : fp_Vok kX12_sheet := ⟨List.mem_of_getElem? (i := 1585) (by decide +kernel), List.mem_of_getElem? (i := 1586) (by decide +kernel)⟩
theorem mX12_since : fp_Mok kX12_since 2 := ⟨List.mem_of_getElem? (i := 1463) (by decide +kernel), List.mem_of_getElem? (i := 92) (by decide +kernel), by decide +kernel, by decide +kernel, by decide +kernel, by decide⟩
theorem vX12_since : fp_Vok kX12_since := ⟨List.mem_of_getElem? (i := 1461) (by decide +kernel), List.mem_of_getElem? (i := 1462) (by decide +kernel)⟩
theorem mX12_slip : fp_Mok kX12_slip 3 := ⟨List.mem_of_getElem? (i := 1410) (by decide +kernel), List.mem_of_getElem? (i := 92) (by decide +kernel), by decide +kernel, by decide +kernel, by decide +kernel, by decide⟩
theorem vX12_slip : fp_Vok kX12_slip := ⟨List.mem_of_getElem? (i := 1408) (by decide +kernel), List.mem_of_getElem? (i := 1409) (by decide +kernel)⟩
theorem mX12_step : fp_Mok kX12_step 0 := ⟨List.mem_of_getElem? (i := 1263) (by decide +kernel), List.mem_of_getElem? (i := 92) (by decide +kernel), by decide +kernel, by decide +kernel, by decide +kernel, by decide⟩
theorem vX12_step : fp_Vok kX12_step := ⟨List.mem_of_getElem? (i := 1262) (by decide +kernel), List.mem_of_getElem? (i := 35) (by decide +kernel)⟩
theorem mX12_takes : fp_Mok kX12_takes 0 := ⟨List.mem_of_getElem? (i := 1308) (by decide +kernel), List.mem_of_getElem? (i := 92) (by decide +kernel), by decide +kernel, by decide +kernel, by decide +kernel, by decide⟩
theorem vX12_takes : fp_Vok kX12_takes := ⟨List.mem_of_getElem? (i := 1307) (by decide +kernel), List.mem_of_getElem? (i := 45) (by decide +kernel)⟩
theorem mX12_takesOut : fp_Mok kX12_takesOut 3 := ⟨List.mem_of_getElem? (i := 1406) (by decide +kernel), List.mem_of_getElem? (i := 92) (by decide +kernel), by decide +kernel, by decide +kernel, by decide +kernel, by decide⟩
theorem vX12_takesOut : fp_Vok kX12_takesOut := ⟨List.mem_of_getElem? (i := 1405) (by decide +kernel), List.mem_of_getElem? (i := 59) (by decide +kernel)⟩
theorem mX12_thing : fp_Mok kX12_thing 2 := ⟨List.mem_of_getElem? (i := 1316) (by decide +kernel), List.mem_of_getElem? (i := 92) (by decide +kernel), by decide +kernel, by decide +kernel, by decide +kernel, by decide⟩
theorem vX12_thing : fp_Vok kX12_thing := ⟨List.mem_of_getElem? (i := 1314) (by decide +kernel), List.mem_of_getElem? (i := 1315) (by decide +kernel)⟩
theorem mX12_torn : fp_Mok kX12_torn 0 := ⟨List.mem_of_getElem? (i := 1599) (by decide +kernel), List.mem_of_getElem? (i := 92) (by decide +kernel), by decide +kernel, by decide +kernel, by decide +kernel, by decide⟩
theorem vX12_torn : fp_Vok kX12_torn := ⟨List.mem_of_getElem? (i := 1597) (by decide +kernel), List.mem_of_getElem? (i := 1598) (by decide +kernel)⟩
theorem mX12_trick : fp_Mok kX12_trick 4 := ⟨List.mem_of_getElem? (i := 1475) (by decide +kernel), List.mem_of_getElem? (i := 92) (by decide +kernel), by decide +kernel, by decide +kernel, by decide +kernel, by decide⟩
theorem vX12_trick : fp_Vok kX12_trick := ⟨List.mem_of_getElem? (i := 1473) (by decide +kernel), List.mem_of_getElem? (i := 1474) (by decide +kernel)⟩
theorem mX12_vain : fp_Mok kX12_vain 0 := ⟨List.mem_of_getElem? (i := 1455) (by decide +kernel), List.mem_of_getElem? (i := 92) (by decide +kernel), by decide +kernel, by decide +kernel, by decide +kernel, by decide⟩
theorem vX12_vain : fp_Vok kX12_vain := ⟨List.mem_of_getElem? (i := 1453) (by decide +kernel), List.mem_of_getElem? (i := 1454) (by decide +kernel)⟩
theorem mX12_visit : fp_Mok kX12_visit 2 := ⟨List.mem_of_getElem? (i := 1354) (by decide +kernel), List.mem_of_getElem? (i := 92) (by decide +kernel), by decide +kernel, by decide +kernel, by decide +kernel, by decide⟩
theorem vX12_visit : fp_Vok kX12_visit := ⟨List.mem_of_getElem? (i := 1352) (by decide +kernel), List.mem_of_getElem? (i := 1353) (by decide +kernel)⟩
theorem mX12_visits : fp_Mok kX12_visits 0 := ⟨List.mem_of_getElem? (i := 1358) (by decide +kernel), List.mem_of_getElem? (i := 92) (by decide +kernel), by decide +kernel, by decide +kernel, by decide +kernel, by decide⟩
theorem vX12_visits : fp_Vok kX12_visits := ⟨List.mem_of_getElem? (i := 1357) (by decide +kernel), List.mem_of_getElem? (i := 53) (by decide +kernel)⟩
theorem mX12_visits2 : fp_Mok kX12_visits2 3 := ⟨List.mem_of_getElem? (i := 1435) (by decide +kernel), List.mem_of_getElem? (i := 92) (by decide +kernel), by decide +kernel, by decide +kernel, by decide +kernel, by decide⟩
theorem vX12_visits2 : fp_Vok kX12_visits2 := ⟨List.mem_of_getElem? (i := 1434) (by decide +kernel), List.mem_of_getElem? (i := 62) (by decide +kernel)⟩
theorem mX12_with : fp_Mok kX12_with 1 := ⟨List.mem_of_getElem? (i := 1567) (by decide +kernel), List.mem_of_getElem? (i := 92) (by decide +kernel), by decide +kernel, by decide +kernel, by decide +kernel, by decide⟩
theorem vX12_with : fp_Vok kX12_with := ⟨List.mem_of_getElem? (i := 1565) (by decide +kernel), List.mem_of_getElem? (i := 1566) (by decide +kernel)⟩
theorem mX12_worth : fp_Mok kX12_worth 1 := ⟨List.mem_of_getElem? (i := 1378) (by decide +kernel), List.mem_of_getElem? (i := 92) (by decide +kernel), by decide +kernel, by decide +kernel, by decide +kernel, by decide⟩
theorem vX12_worth : fp_Vok kX12_worth := ⟨List.mem_of_getElem? (i := 1376) (by decide +kernel), List.mem_of_getElem? (i := 1377) (by decide +kernel)⟩
theorem mX12_worthAt : fp_Mok kX12_worthAt 2 := ⟨List.mem_of_getElem? (i := 1382) (by decide +kernel), List.mem_of_getElem? (i := 92) (by decide +kernel), by decide +kernel, by decide +kernel, by decide +kernel, by decide⟩
theorem vX12_worthAt : fp_Vok kX12_worthAt := ⟨List.mem_of_getElem? (i := 1381) (by decide +kernel), List.mem_of_getElem? (i := 55) (by decide +kernel)⟩
theorem mX1_clear : fp_Mok kX1_clear 0 := ⟨List.mem_of_getElem? (i := 510) (by decide +kernel), List.mem_of_getElem? (i := 81) (by decide +kernel), by decide +kernel, by decide +kernel, by decide +kernel, by decide⟩
theorem vX1_clear : fp_Vok kX1_clear := ⟨List.mem_of_getElem? (i := 508) (by decide +kernel), List.mem_of_getElem? (i := 509) (by decide +kernel)⟩
theorem mX1_copyFrom : fp_Mok kX1_copyFrom 1 := ⟨List.mem_of_getElem? (i := 656) (by decide +kernel), List.mem_of_getElem? (i := 81) (by decide +kernel), by decide +kernel, by decide +kernel, by decide +kernel, by decide⟩
theorem vX1_copyFrom : fp_Vok kX1_copyFrom := ⟨List.mem_of_getElem? (i := 654) (by decide +kernel), List.mem_of_getElem? (i := 655) (by decide +kernel)⟩
theorem mX1_hasLine : fp_Mok kX1_hasLine 1 := ⟨List.mem_of_getElem? (i := 652) (by decide +kernel), List.mem_of_getElem? (i := 81) (by decide +kernel), by decide +kernel, by decide +kernel, by decide +kernel, by decide⟩
theorem vX1_hasLine : fp_Vok kX1_hasLine := ⟨List.mem_of_getElem? (i := 650) (by decide +kernel), List.mem_of_getElem? (i := 651) (by decide +kernel)⟩
theorem mX1_hasThing : fp_Mok kX1_hasThing 1 := ⟨List.mem_of_getElem? (i := 644) (by decide +kernel), List.mem_of_getElem? (i := 81) (by decide +kernel), by decide +kernel, by decide +kernel, by decide +kernel, by decide⟩
theorem vX1_hasThing : fp_Vok kX1_hasThing := ⟨List.mem_of_getElem? (i := 642) (by decide +kernel), List.mem_of_getElem? (i := 643) (by decide +kernel)⟩
theorem mX1_init : fp_Mok kX1_init 0 := ⟨List.mem_of_getElem? (i := 116) (by decide +kernel), List.mem_of_getElem? (i := 81) (by decide +kernel), by decide +kernel, by decide +kernel, by decide +kernel, by decide⟩
theorem vX1_init : Cond.instanceMethod kX1_init.1 ∈ lw_tbl := List.mem_of_getElem? (i := 115) (by decide +kernel)
theorem mX1_valueTo : fp_Mok kX1_valueTo 2 := ⟨List.mem_of_getElem? (i := 682) (by decide +kernel), List.mem_of_getElem? (i := 81) (by decide +kernel), by decide +kernel, by decide +kernel, by decide +kernel, by decide⟩
theorem vX1_valueTo : fp_Vok kX1_valueTo := ⟨List.mem_of_getElem? (i := 680) (by decide +kernel), List.mem_of_getElem? (i := 681) (by decide +kernel)⟩
theorem mX2_init : fp_Mok kX2_init 0 := ⟨List.mem_of_getElem? (i := 407) (by decide +kernel), List.mem_of_getElem? (i := 90) (by decide +kernel), by decide +kernel, by decide +kernel, by decide +kernel, by decide⟩
theorem vX2_init : Cond.instanceMethod kX2_init.1 ∈ lw_tbl := List.mem_of_getElem? (i := 406) (by decide +kernel)
theorem mX3_add : fp_Mok kX3_add 1 := ⟨List.mem_of_getElem? (i := 947) (by decide +kernel), List.mem_of_getElem? (i := 85) (by decide +kernel), by decide +kernel, by decide +kernel, by decide +kernel, by decide⟩
theorem vX3_add : fp_Vok kX3_add := ⟨List.mem_of_getElem? (i := 945) (by decide +kernel), List.mem_of_getElem? (i := 946) (by decide +kernel)⟩
theorem mX3_copyFrom : fp_Mok kX3_copyFrom 1 := ⟨List.mem_of_getElem? (i := 1046) (by decide +kernel), List.mem_of_getElem? (i := 85) (by decide +kernel), by decide +kernel, by decide +kernel, by decide +kernel, by decide⟩
theorem vX3_copyFrom : fp_Vok kX3_copyFrom := ⟨List.mem_of_getElem? (i := 1044) (by decide +kernel), List.mem_of_getElem? (i := 1045) (by decide +kernel)⟩
theorem mX3_init : fp_Mok kX3_init 0 := ⟨List.mem_of_getElem? (i := 277) (by decide +kernel), List.mem_of_getElem? (i := 85) (by decide +kernel), by decide +kernel, by decide +kernel, by decide +kernel, by decide⟩
theorem vX3_init : Cond.instanceMethod kX3_init.1 ∈ lw_tbl := List.mem_of_getElem? (i := 276) (by decide +kernel)
theorem mX3_spotOf : fp_Mok kX3_spotOf 1 := ⟨List.mem_of_getElem? (i := 943) (by decide +kernel), List.mem_of_getElem? (i := 85) (by decide +kernel), by decide +kernel, by decide +kernel, by decide +kernel, by decide⟩
theorem vX3_spotOf : fp_Vok kX3_spotOf := ⟨List.mem_of_getElem? (i := 941) (by decide +kernel), List.mem_of_getElem? (i := 942) (by decide +kernel)⟩
theorem mX4_canFit : fp_Mok kX4_canFit 2 := ⟨List.mem_of_getElem? (i := 968) (by decide +kernel), List.mem_of_getElem? (i := 88) (by decide +kernel), by decide +kernel, by decide +kernel, by decide +kernel, by decide⟩
theorem vX4_canFit : fp_Vok kX4_canFit := ⟨List.mem_of_getElem? (i := 966) (by decide +kernel), List.mem_of_getElem? (i := 967) (by decide +kernel)⟩
theorem mX4_choicesAt : fp_Mok kX4_choicesAt 3 := ⟨List.mem_of_getElem? (i := 985) (by decide +kernel), List.mem_of_getElem? (i := 88) (by decide +kernel), by decide +kernel, by decide +kernel, by decide +kernel, by decide⟩
theorem vX4_choicesAt : fp_Vok kX4_choicesAt := ⟨List.mem_of_getElem? (i := 984) (by decide +kernel), List.mem_of_getElem? (i := 27) (by decide +kernel)⟩
theorem mX4_findFirst : fp_Mok kX4_findFirst 2 := ⟨List.mem_of_getElem? (i := 990) (by decide +kernel), List.mem_of_getElem? (i := 88) (by decide +kernel), by decide +kernel, by decide +kernel, by decide +kernel, by decide⟩
theorem vX4_findFirst : fp_Vok kX4_findFirst := ⟨List.mem_of_getElem? (i := 988) (by decide +kernel), List.mem_of_getElem? (i := 989) (by decide +kernel)⟩
theorem mX4_howMany : fp_Mok kX4_howMany 2 := ⟨List.mem_of_getElem? (i := 964) (by decide +kernel), List.mem_of_getElem? (i := 88) (by decide +kernel), by decide +kernel, by decide +kernel, by decide +kernel, by decide⟩
theorem vX4_howMany : fp_Vok kX4_howMany := ⟨List.mem_of_getElem? (i := 962) (by decide +kernel), List.mem_of_getElem? (i := 963) (by decide +kernel)⟩
theorem mX4_init : fp_Mok kX4_init 0 := ⟨List.mem_of_getElem? (i := 357) (by decide +kernel), List.mem_of_getElem? (i := 88) (by decide +kernel), by decide +kernel, by decide +kernel, by decide +kernel, by decide⟩
theorem vX4_init : Cond.instanceMethod kX4_init.1 ∈ lw_tbl := List.mem_of_getElem? (i := 356) (by decide +kernel)
theorem mX4_isLightestBehind : fp_Mok kX4_isLightestBehind 3 := ⟨List.mem_of_getElem? (i := 976) (by decide +kernel), List.mem_of_getElem? (i := 88) (by decide +kernel), by decide +kernel, by decide +kernel, by decide +kernel, by decide⟩
theorem vX4_isLightestBehind : fp_Vok kX4_isLightestBehind := ⟨List.mem_of_getElem? (i := 975) (by decide +kernel), List.mem_of_getElem? (i := 25) (by decide +kernel)⟩
theorem mX4_isMember : fp_Mok kX4_isMember 1 := ⟨List.mem_of_getElem? (i := 972) (by decide +kernel), List.mem_of_getElem? (i := 88) (by decide +kernel), by decide +kernel, by decide +kernel, by decide +kernel, by decide⟩
theorem vX4_isMember : fp_Vok kX4_isMember := ⟨List.mem_of_getElem? (i := 971) (by decide +kernel), List.mem_of_getElem? (i := 24) (by decide +kernel)⟩
theorem mX4_isPlaced : fp_Mok kX4_isPlaced 1 := ⟨List.mem_of_getElem? (i := 994) (by decide +kernel), List.mem_of_getElem? (i := 88) (by decide +kernel), by decide +kernel, by decide +kernel, by decide +kernel, by decide⟩
theorem vX4_isPlaced : fp_Vok kX4_isPlaced := ⟨List.mem_of_getElem? (i := 993) (by decide +kernel), List.mem_of_getElem? (i := 28) (by decide +kernel)⟩
theorem mX4_mayStand : fp_Mok kX4_mayStand 4 := ⟨List.mem_of_getElem? (i := 998) (by decide +kernel), List.mem_of_getElem? (i := 88) (by decide +kernel), by decide +kernel, by decide +kernel, by decide +kernel, by decide⟩
theorem vX4_mayStand : fp_Vok kX4_mayStand := ⟨List.mem_of_getElem? (i := 997) (by decide +kernel), List.mem_of_getElem? (i := 29) (by decide +kernel)⟩
theorem mX4_prepare : fp_Mok kX4_prepare 3 := ⟨List.mem_of_getElem? (i := 959) (by decide +kernel), List.mem_of_getElem? (i := 88) (by decide +kernel), by decide +kernel, by decide +kernel, by decide +kernel, by decide⟩
theorem vX4_prepare : fp_Vok kX4_prepare := ⟨List.mem_of_getElem? (i := 957) (by decide +kernel), List.mem_of_getElem? (i := 958) (by decide +kernel)⟩
theorem mX4_weightThatCounts : fp_Mok kX4_weightThatCounts 2 := ⟨List.mem_of_getElem? (i := 980) (by decide +kernel), List.mem_of_getElem? (i := 88) (by decide +kernel), by decide +kernel, by decide +kernel, by decide +kernel, by decide⟩
theorem vX4_weightThatCounts : fp_Vok kX4_weightThatCounts := ⟨List.mem_of_getElem? (i := 979) (by decide +kernel), List.mem_of_getElem? (i := 26) (by decide +kernel)⟩
theorem mX5_append : fp_Mok kX5_append 3 := ⟨List.mem_of_getElem? (i := 738) (by decide +kernel), List.mem_of_getElem? (i := 82) (by decide +kernel), by decide +kernel, by decide +kernel, by decide +kernel, by decide⟩
theorem vX5_append : fp_Vok kX5_append := ⟨List.mem_of_getElem? (i := 736) (by decide +kernel), List.mem_of_getElem? (i := 737) (by decide +kernel)⟩
theorem mX5_clear : fp_Mok kX5_clear 0 := ⟨List.mem_of_getElem? (i := 514) (by decide +kernel), List.mem_of_getElem? (i := 82) (by decide +kernel), by decide +kernel, by decide +kernel, by decide +kernel, by decide⟩
theorem vX5_clear : fp_Vok kX5_clear := ⟨List.mem_of_getElem? (i := 512) (by decide +kernel), List.mem_of_getElem? (i := 513) (by decide +kernel)⟩
theorem mX5_copyFrom : fp_Mok kX5_copyFrom 1 := ⟨List.mem_of_getElem? (i := 663) (by decide +kernel), List.mem_of_getElem? (i := 82) (by decide +kernel), by decide +kernel, by decide +kernel, by decide +kernel, by decide⟩
theorem vX5_copyFrom : fp_Vok kX5_copyFrom := ⟨List.mem_of_getElem? (i := 661) (by decide +kernel), List.mem_of_getElem? (i := 662) (by decide +kernel)⟩
theorem mX5_giveTo : fp_Mok kX5_giveTo 3 := ⟨List.mem_of_getElem? (i := 750) (by decide +kernel), List.mem_of_getElem? (i := 82) (by decide +kernel), by decide +kernel, by decide +kernel, by decide +kernel, by decide⟩
theorem vX5_giveTo : fp_Vok kX5_giveTo := ⟨List.mem_of_getElem? (i := 748) (by decide +kernel), List.mem_of_getElem? (i := 749) (by decide +kernel)⟩
theorem mX5_gives : fp_Mok kX5_gives 2 := ⟨List.mem_of_getElem? (i := 695) (by decide +kernel), List.mem_of_getElem? (i := 82) (by decide +kernel), by decide +kernel, by decide +kernel, by decide +kernel, by decide⟩
theorem vX5_gives : fp_Vok kX5_gives := ⟨List.mem_of_getElem? (i := 693) (by decide +kernel), List.mem_of_getElem? (i := 694) (by decide +kernel)⟩
theorem mX5_heldBy : fp_Mok kX5_heldBy 1 := ⟨List.mem_of_getElem? (i := 721) (by decide +kernel), List.mem_of_getElem? (i := 82) (by decide +kernel), by decide +kernel, by decide +kernel, by decide +kernel, by decide⟩
theorem vX5_heldBy : fp_Vok kX5_heldBy := ⟨List.mem_of_getElem? (i := 719) (by decide +kernel), List.mem_of_getElem? (i := 720) (by decide +kernel)⟩
theorem mX5_init : fp_Mok kX5_init 0 := ⟨List.mem_of_getElem? (i := 160) (by decide +kernel), List.mem_of_getElem? (i := 82) (by decide +kernel), by decide +kernel, by decide +kernel, by decide +kernel, by decide⟩
theorem vX5_init : Cond.instanceMethod kX5_init.1 ∈ lw_tbl := List.mem_of_getElem? (i := 159) (by decide +kernel)
theorem mX5_insert : fp_Mok kX5_insert 3 := ⟨List.mem_of_getElem? (i := 742) (by decide +kernel), List.mem_of_getElem? (i := 82) (by decide +kernel), by decide +kernel, by decide +kernel, by decide +kernel, by decide⟩
theorem vX5_insert : fp_Vok kX5_insert := ⟨List.mem_of_getElem? (i := 740) (by decide +kernel), List.mem_of_getElem? (i := 741) (by decide +kernel)⟩
theorem mX5_leastHeldBy : fp_Mok kX5_leastHeldBy 1 := ⟨List.mem_of_getElem? (i := 1014) (by decide +kernel), List.mem_of_getElem? (i := 82) (by decide +kernel), by decide +kernel, by decide +kernel, by decide +kernel, by decide⟩
theorem vX5_leastHeldBy : fp_Vok kX5_leastHeldBy := ⟨List.mem_of_getElem? (i := 1012) (by decide +kernel), List.mem_of_getElem? (i := 1013) (by decide +kernel)⟩
theorem mX5_spotOf : fp_Mok kX5_spotOf 1 := ⟨List.mem_of_getElem? (i := 686) (by decide +kernel), List.mem_of_getElem? (i := 82) (by decide +kernel), by decide +kernel, by decide +kernel, by decide +kernel, by decide⟩
theorem vX5_spotOf : fp_Vok kX5_spotOf := ⟨List.mem_of_getElem? (i := 684) (by decide +kernel), List.mem_of_getElem? (i := 685) (by decide +kernel)⟩
theorem mX5_worthTo : fp_Mok kX5_worthTo 2 := ⟨List.mem_of_getElem? (i := 729) (by decide +kernel), List.mem_of_getElem? (i := 82) (by decide +kernel), by decide +kernel, by decide +kernel, by decide +kernel, by decide⟩
theorem vX5_worthTo : fp_Vok kX5_worthTo := ⟨List.mem_of_getElem? (i := 727) (by decide +kernel), List.mem_of_getElem? (i := 728) (by decide +kernel)⟩
theorem mX6_init : fp_Mok kX6_init 0 := ⟨List.mem_of_getElem? (i := 110) (by decide +kernel), List.mem_of_getElem? (i := 80) (by decide +kernel), by decide +kernel, by decide +kernel, by decide +kernel, by decide⟩
theorem vX6_init : Cond.instanceMethod kX6_init.1 ∈ lw_tbl := List.mem_of_getElem? (i := 109) (by decide +kernel)
theorem mX6_isFigure : fp_Mok kX6_isFigure 1 := ⟨List.mem_of_getElem? (i := 524) (by decide +kernel), List.mem_of_getElem? (i := 80) (by decide +kernel), by decide +kernel, by decide +kernel, by decide +kernel, by decide⟩
theorem sX6_isFigure : Cond.static kX6_isFigure.1 ∈ lw_tbl := List.mem_of_getElem? (i := 523) (by decide +kernel)
theorem mX6_isLetter : fp_Mok kX6_isLetter 1 := ⟨List.mem_of_getElem? (i := 521) (by decide +kernel), List.mem_of_getElem? (i := 80) (by decide +kernel), by decide +kernel, by decide +kernel, by decide +kernel, by decide⟩
theorem sX6_isLetter : Cond.static kX6_isLetter.1 ∈ lw_tbl := List.mem_of_getElem? (i := 520) (by decide +kernel)
theorem mX6_isWord : fp_Mok kX6_isWord 1 := ⟨List.mem_of_getElem? (i := 537) (by decide +kernel), List.mem_of_getElem? (i := 80) (by decide +kernel), by decide +kernel, by decide +kernel, by decide +kernel, by decide⟩
theorem vX6_isWord : fp_Vok kX6_isWord := ⟨List.mem_of_getElem? (i := 536) (by decide +kernel), List.mem_of_getElem? (i := 3) (by decide +kernel)⟩
theorem mX6_kindRead : fp_Mok kX6_kindRead 0 := ⟨List.mem_of_getElem? (i := 606) (by decide +kernel), List.mem_of_getElem? (i := 80) (by decide +kernel), by decide +kernel, by decide +kernel, by decide +kernel, by decide⟩
theorem vX6_kindRead : fp_Vok kX6_kindRead := ⟨List.mem_of_getElem? (i := 605) (by decide +kernel), List.mem_of_getElem? (i := 8) (by decide +kernel)⟩
theorem mX6_readChance : fp_Mok kX6_readChance 0 := ⟨List.mem_of_getElem? (i := 632) (by decide +kernel), List.mem_of_getElem? (i := 80) (by decide +kernel), by decide +kernel, by decide +kernel, by decide +kernel, by decide⟩
theorem vX6_readChance : fp_Vok kX6_readChance := ⟨List.mem_of_getElem? (i := 631) (by decide +kernel), List.mem_of_getElem? (i := 11) (by decide +kernel)⟩
theorem mX6_readLine : fp_Mok kX6_readLine 0 := ⟨List.mem_of_getElem? (i := 532) (by decide +kernel), List.mem_of_getElem? (i := 80) (by decide +kernel), by decide +kernel, by decide +kernel, by decide +kernel, by decide⟩
theorem vX6_readLine : fp_Vok kX6_readLine := ⟨List.mem_of_getElem? (i := 531) (by decide +kernel), List.mem_of_getElem? (i := 2) (by decide +kernel)⟩
theorem mX6_readLineOfThings : fp_Mok kX6_readLineOfThings 0 := ⟨List.mem_of_getElem? (i := 602) (by decide +kernel), List.mem_of_getElem? (i := 80) (by decide +kernel), by decide +kernel, by decide +kernel, by decide +kernel, by decide⟩
theorem vX6_readLineOfThings : fp_Vok kX6_readLineOfThings := ⟨List.mem_of_getElem? (i := 601) (by decide +kernel), List.mem_of_getElem? (i := 7) (by decide +kernel)⟩
theorem mX6_readNumber : fp_Mok kX6_readNumber 2 := ⟨List.mem_of_getElem? (i := 593) (by decide +kernel), List.mem_of_getElem? (i := 80) (by decide +kernel), by decide +kernel, by decide +kernel, by decide +kernel, by decide⟩
theorem vX6_readNumber : fp_Vok kX6_readNumber := ⟨List.mem_of_getElem? (i := 592) (by decide +kernel), List.mem_of_getElem? (i := 5) (by decide +kernel)⟩
theorem mX6_readStop : fp_Mok kX6_readStop 0 := ⟨List.mem_of_getElem? (i := 597) (by decide +kernel), List.mem_of_getElem? (i := 80) (by decide +kernel), by decide +kernel, by decide +kernel, by decide +kernel, by decide⟩
theorem vX6_readStop : fp_Vok kX6_readStop := ⟨List.mem_of_getElem? (i := 596) (by decide +kernel), List.mem_of_getElem? (i := 6) (by decide +kernel)⟩
theorem mX6_readText : fp_Mok kX6_readText 2 := ⟨List.mem_of_getElem? (i := 506) (by decide +kernel), List.mem_of_getElem? (i := 80) (by decide +kernel), by decide +kernel, by decide +kernel, by decide +kernel, by decide⟩
theorem vX6_readText : fp_Vok kX6_readText := ⟨List.mem_of_getElem? (i := 504) (by decide +kernel), List.mem_of_getElem? (i := 505) (by decide +kernel)⟩
theorem mX6_readThing : fp_Mok kX6_readThing 0 := ⟨List.mem_of_getElem? (i := 589) (by decide +kernel), List.mem_of_getElem? (i := 80) (by decide +kernel), by decide +kernel, by decide +kernel, by decide +kernel, by decide⟩
theorem vX6_readThing : fp_Vok kX6_readThing := ⟨List.mem_of_getElem? (i := 588) (by decide +kernel), List.mem_of_getElem? (i := 4) (by decide +kernel)⟩
theorem mX6_readVisit : fp_Mok kX6_readVisit 1 := ⟨List.mem_of_getElem? (i := 618) (by decide +kernel), List.mem_of_getElem? (i := 80) (by decide +kernel), by decide +kernel, by decide +kernel, by decide +kernel, by decide⟩
theorem vX6_readVisit : fp_Vok kX6_readVisit := ⟨List.mem_of_getElem? (i := 617) (by decide +kernel), List.mem_of_getElem? (i := 10) (by decide +kernel)⟩
theorem mX6_refuse : fp_Mok kX6_refuse 2 := ⟨List.mem_of_getElem? (i := 528) (by decide +kernel), List.mem_of_getElem? (i := 80) (by decide +kernel), by decide +kernel, by decide +kernel, by decide +kernel, by decide⟩
theorem vX6_refuse : fp_Vok kX6_refuse := ⟨List.mem_of_getElem? (i := 527) (by decide +kernel), List.mem_of_getElem? (i := 1) (by decide +kernel)⟩
theorem mX6_settle : fp_Mok kX6_settle 0 := ⟨List.mem_of_getElem? (i := 636) (by decide +kernel), List.mem_of_getElem? (i := 80) (by decide +kernel), by decide +kernel, by decide +kernel, by decide +kernel, by decide⟩
theorem vX6_settle : fp_Vok kX6_settle := ⟨List.mem_of_getElem? (i := 635) (by decide +kernel), List.mem_of_getElem? (i := 12) (by decide +kernel)⟩
theorem mX6_settleThing : fp_Mok kX6_settleThing 2 := ⟨List.mem_of_getElem? (i := 640) (by decide +kernel), List.mem_of_getElem? (i := 80) (by decide +kernel), by decide +kernel, by decide +kernel, by decide +kernel, by decide⟩
theorem vX6_settleThing : fp_Vok kX6_settleThing := ⟨List.mem_of_getElem? (i := 639) (by decide +kernel), List.mem_of_getElem? (i := 13) (by decide +kernel)⟩
theorem mX6_step : fp_Mok kX6_step 0 := ⟨List.mem_of_getElem? (i := 518) (by decide +kernel), List.mem_of_getElem? (i := 80) (by decide +kernel), by decide +kernel, by decide +kernel, by decide +kernel, by decide⟩
theorem vX6_step : fp_Vok kX6_step := ⟨List.mem_of_getElem? (i := 517) (by decide +kernel), List.mem_of_getElem? (i := 0) (by decide +kernel)⟩
theorem mX6_takeLying : fp_Mok kX6_takeLying 1 := ⟨List.mem_of_getElem? (i := 613) (by decide +kernel), List.mem_of_getElem? (i := 80) (by decide +kernel), by decide +kernel, by decide +kernel, by decide +kernel, by decide⟩
theorem vX6_takeLying : fp_Vok kX6_takeLying := ⟨List.mem_of_getElem? (i := 612) (by decide +kernel), List.mem_of_getElem? (i := 9) (by decide +kernel)⟩
theorem mX7_form : fp_Mok kX7_form 2 := ⟨List.mem_of_getElem? (i := 1006) (by decide +kernel), List.mem_of_getElem? (i := 89) (by decide +kernel), by decide +kernel, by decide +kernel, by decide +kernel, by decide⟩
theorem vX7_form : fp_Vok kX7_form := ⟨List.mem_of_getElem? (i := 1004) (by decide +kernel), List.mem_of_getElem? (i := 1005) (by decide +kernel)⟩
theorem mX7_gather : fp_Mok kX7_gather 1 := ⟨List.mem_of_getElem? (i := 1010) (by decide +kernel), List.mem_of_getElem? (i := 89) (by decide +kernel), by decide +kernel, by decide +kernel, by decide +kernel, by decide⟩
theorem vX7_gather : fp_Vok kX7_gather := ⟨List.mem_of_getElem? (i := 1009) (by decide +kernel), List.mem_of_getElem? (i := 30) (by decide +kernel)⟩
theorem mX7_init : fp_Mok kX7_init 0 := ⟨List.mem_of_getElem? (i := 380) (by decide +kernel), List.mem_of_getElem? (i := 89) (by decide +kernel), by decide +kernel, by decide +kernel, by decide +kernel, by decide⟩
theorem vX7_init : Cond.instanceMethod kX7_init.1 ∈ lw_tbl := List.mem_of_getElem? (i := 379) (by decide +kernel)
theorem mX7_isThere : fp_Mok kX7_isThere 1 := ⟨List.mem_of_getElem? (i := 1022) (by decide +kernel), List.mem_of_getElem? (i := 89) (by decide +kernel), by decide +kernel, by decide +kernel, by decide +kernel, by decide⟩
theorem vX7_isThere : fp_Vok kX7_isThere := ⟨List.mem_of_getElem? (i := 1021) (by decide +kernel), List.mem_of_getElem? (i := 32) (by decide +kernel)⟩
theorem mX7_likesBetter : fp_Mok kX7_likesBetter 4 := ⟨List.mem_of_getElem? (i := 1025) (by decide +kernel), List.mem_of_getElem? (i := 89) (by decide +kernel), by decide +kernel, by decide +kernel, by decide +kernel, by decide⟩
theorem sX7_likesBetter : Cond.static kX7_likesBetter.1 ∈ lw_tbl := List.mem_of_getElem? (i := 1024) (by decide +kernel)
theorem mX7_point : fp_Mok kX7_point 1 := ⟨List.mem_of_getElem? (i := 1018) (by decide +kernel), List.mem_of_getElem? (i := 89) (by decide +kernel), by decide +kernel, by decide +kernel, by decide +kernel, by decide⟩
theorem vX7_point : fp_Vok kX7_point := ⟨List.mem_of_getElem? (i := 1017) (by decide +kernel), List.mem_of_getElem? (i := 31) (by decide +kernel)⟩
theorem mX7_takeIfInRing : fp_Mok kX7_takeIfInRing 1 := ⟨List.mem_of_getElem? (i := 1030) (by decide +kernel), List.mem_of_getElem? (i := 89) (by decide +kernel), by decide +kernel, by decide +kernel, by decide +kernel, by decide⟩
theorem vX7_takeIfInRing : fp_Vok kX7_takeIfInRing := ⟨List.mem_of_getElem? (i := 1029) (by decide +kernel), List.mem_of_getElem? (i := 33) (by decide +kernel)⟩
theorem mX8_behind : fp_Mok kX8_behind 4 := ⟨List.mem_of_getElem? (i := 796) (by decide +kernel), List.mem_of_getElem? (i := 86) (by decide +kernel), by decide +kernel, by decide +kernel, by decide +kernel, by decide⟩
theorem vX8_behind : fp_Vok kX8_behind := ⟨List.mem_of_getElem? (i := 794) (by decide +kernel), List.mem_of_getElem? (i := 795) (by decide +kernel)⟩
theorem mX8_findMost : fp_Mok kX8_findMost 4 := ⟨List.mem_of_getElem? (i := 858) (by decide +kernel), List.mem_of_getElem? (i := 86) (by decide +kernel), by decide +kernel, by decide +kernel, by decide +kernel, by decide⟩
theorem vX8_findMost : fp_Vok kX8_findMost := ⟨List.mem_of_getElem? (i := 856) (by decide +kernel), List.mem_of_getElem? (i := 857) (by decide +kernel)⟩
theorem mX8_findShares : fp_Mok kX8_findShares 4 := ⟨List.mem_of_getElem? (i := 881) (by decide +kernel), List.mem_of_getElem? (i := 86) (by decide +kernel), by decide +kernel, by decide +kernel, by decide +kernel, by decide⟩
theorem vX8_findShares : fp_Vok kX8_findShares := ⟨List.mem_of_getElem? (i := 879) (by decide +kernel), List.mem_of_getElem? (i := 880) (by decide +kernel)⟩
theorem mX8_goOnWithTrick : fp_Mok kX8_goOnWithTrick 3 := ⟨List.mem_of_getElem? (i := 842) (by decide +kernel), List.mem_of_getElem? (i := 86) (by decide +kernel), by decide +kernel, by decide +kernel, by decide +kernel, by decide⟩
theorem vX8_goOnWithTrick : fp_Vok kX8_goOnWithTrick := ⟨List.mem_of_getElem? (i := 840) (by decide +kernel), List.mem_of_getElem? (i := 841) (by decide +kernel)⟩
theorem mX8_init : fp_Mok kX8_init 0 := ⟨List.mem_of_getElem? (i := 293) (by decide +kernel), List.mem_of_getElem? (i := 86) (by decide +kernel), by decide +kernel, by decide +kernel, by decide +kernel, by decide⟩
theorem vX8_init : Cond.instanceMethod kX8_init.1 ∈ lw_tbl := List.mem_of_getElem? (i := 292) (by decide +kernel)
theorem mX8_lineTrickedOf : fp_Mok kX8_lineTrickedOf 2 := ⟨List.mem_of_getElem? (i := 837) (by decide +kernel), List.mem_of_getElem? (i := 86) (by decide +kernel), by decide +kernel, by decide +kernel, by decide +kernel, by decide⟩
theorem vX8_lineTrickedOf : fp_Vok kX8_lineTrickedOf := ⟨List.mem_of_getElem? (i := 835) (by decide +kernel), List.mem_of_getElem? (i := 836) (by decide +kernel)⟩
theorem mX8_spread : fp_Mok kX8_spread 5 := ⟨List.mem_of_getElem? (i := 888) (by decide +kernel), List.mem_of_getElem? (i := 86) (by decide +kernel), by decide +kernel, by decide +kernel, by decide +kernel, by decide⟩
theorem vX8_spread : fp_Vok kX8_spread := ⟨List.mem_of_getElem? (i := 887) (by decide +kernel), List.mem_of_getElem? (i := 17) (by decide +kernel)⟩
theorem mX8_takeIfBetter : fp_Mok kX8_takeIfBetter 1 := ⟨List.mem_of_getElem? (i := 868) (by decide +kernel), List.mem_of_getElem? (i := 86) (by decide +kernel), by decide +kernel, by decide +kernel, by decide +kernel, by decide⟩
theorem vX8_takeIfBetter : fp_Vok kX8_takeIfBetter := ⟨List.mem_of_getElem? (i := 867) (by decide +kernel), List.mem_of_getElem? (i := 16) (by decide +kernel)⟩
theorem mX8_tryLines : fp_Mok kX8_tryLines 4 := ⟨List.mem_of_getElem? (i := 863) (by decide +kernel), List.mem_of_getElem? (i := 86) (by decide +kernel), by decide +kernel, by decide +kernel, by decide +kernel, by decide⟩
theorem vX8_tryLines : fp_Vok kX8_tryLines := ⟨List.mem_of_getElem? (i := 862) (by decide +kernel), List.mem_of_getElem? (i := 15) (by decide +kernel)⟩
theorem mX8_tryTrick : fp_Mok kX8_tryTrick 5 := ⟨List.mem_of_getElem? (i := 831) (by decide +kernel), List.mem_of_getElem? (i := 86) (by decide +kernel), by decide +kernel, by decide +kernel, by decide +kernel, by decide⟩
theorem vX8_tryTrick : fp_Vok kX8_tryTrick := ⟨List.mem_of_getElem? (i := 829) (by decide +kernel), List.mem_of_getElem? (i := 830) (by decide +kernel)⟩
theorem mX9_faultTakenAs : fp_Mok kX9_faultTakenAs 1 := ⟨List.mem_of_getElem? (i := 1084) (by decide +kernel), List.mem_of_getElem? (i := 91) (by decide +kernel), by decide +kernel, by decide +kernel, by decide +kernel, by decide⟩
theorem vX9_faultTakenAs : fp_Vok kX9_faultTakenAs := ⟨List.mem_of_getElem? (i := 1082) (by decide +kernel), List.mem_of_getElem? (i := 1083) (by decide +kernel)⟩
theorem mX9_has : fp_Mok kX9_has 1 := ⟨List.mem_of_getElem? (i := 1072) (by decide +kernel), List.mem_of_getElem? (i := 91) (by decide +kernel), by decide +kernel, by decide +kernel, by decide +kernel, by decide⟩
theorem vX9_has : fp_Vok kX9_has := ⟨List.mem_of_getElem? (i := 1070) (by decide +kernel), List.mem_of_getElem? (i := 1071) (by decide +kernel)⟩
theorem mX9_hasVisit : fp_Mok kX9_hasVisit 2 := ⟨List.mem_of_getElem? (i := 1089) (by decide +kernel), List.mem_of_getElem? (i := 91) (by decide +kernel), by decide +kernel, by decide +kernel, by decide +kernel, by decide⟩
theorem vX9_hasVisit : fp_Vok kX9_hasVisit := ⟨List.mem_of_getElem? (i := 1087) (by decide +kernel), List.mem_of_getElem? (i := 1088) (by decide +kernel)⟩
theorem mX9_init : fp_Mok kX9_init 0 := ⟨List.mem_of_getElem? (i := 434) (by decide +kernel), List.mem_of_getElem? (i := 91) (by decide +kernel), by decide +kernel, by decide +kernel, by decide +kernel, by decide⟩
theorem vX9_init : Cond.instanceMethod kX9_init.1 ∈ lw_tbl := List.mem_of_getElem? (i := 433) (by decide +kernel)
theorem mX9_isThere : fp_Mok kX9_isThere 0 := ⟨List.mem_of_getElem? (i := 1068) (by decide +kernel), List.mem_of_getElem? (i := 91) (by decide +kernel), by decide +kernel, by decide +kernel, by decide +kernel, by decide⟩
theorem vX9_isThere : fp_Vok kX9_isThere := ⟨List.mem_of_getElem? (i := 1066) (by decide +kernel), List.mem_of_getElem? (i := 1067) (by decide +kernel)⟩
theorem mX9_renew : fp_Mok kX9_renew 2 := ⟨List.mem_of_getElem? (i := 1059) (by decide +kernel), List.mem_of_getElem? (i := 91) (by decide +kernel), by decide +kernel, by decide +kernel, by decide +kernel, by decide⟩
theorem vX9_renew : fp_Vok kX9_renew := ⟨List.mem_of_getElem? (i := 1057) (by decide +kernel), List.mem_of_getElem? (i := 1058) (by decide +kernel)⟩
theorem mX9_write : fp_Mok kX9_write 2 := ⟨List.mem_of_getElem? (i := 1076) (by decide +kernel), List.mem_of_getElem? (i := 91) (by decide +kernel), by decide +kernel, by decide +kernel, by decide +kernel, by decide⟩
theorem vX9_write : fp_Vok kX9_write := ⟨List.mem_of_getElem? (i := 1074) (by decide +kernel), List.mem_of_getElem? (i := 1075) (by decide +kernel)⟩
theorem cL_9 : Cond.methodLink RL 9 kX11_init.1 ∈ lw_tbl := List.mem_of_getElem? (i := 100) (by decide +kernel)
theorem cX11_15 : Cond.methodLinkNest RX11 15 kX6_init.1 "FirstPut" ∈ lw_tbl := List.mem_of_getElem? (i := 108) (by decide +kernel)
theorem cX6_11 : Cond.methodLinkNest RX6 11 kX1_init.1 "FirstPut" ∈ lw_tbl := List.mem_of_getElem? (i := 114) (by decide +kernel)
theorem cX6_20 : Cond.methodLink RX6 20 kX5_init.1 ∈ lw_tbl := List.mem_of_getElem? (i := 158) (by decide +kernel)
theorem cX5_24 : fp_CS RX5 24 kJ7_fill_53178 2 := ⟨List.mem_of_getElem? (i := 162) (by decide +kernel), mJ7_fill_53178, sJ7_fill_53178⟩
theorem cX6_27 : Cond.methodLinkNest RX6 27 kX10_init.1 "FirstPut" ∈ lw_tbl := List.mem_of_getElem? (i := 193) (by decide +kernel)
theorem cX11_22 : Cond.methodLinkNest RX11 22 kX1_init.1 "FirstPut" ∈ lw_tbl := List.mem_of_getElem? (i := 268) (by decide +kernel)
theorem cX11_29 : Cond.methodLink RX11 29 kX5_init.1 ∈ lw_tbl := List.mem_of_getElem? (i := 270) (by decide +kernel)
theorem cX11_36 : Cond.methodLinkNest RX11 36 kX10_init.1 "FirstPut" ∈ lw_tbl := List.mem_of_getElem? (i := 272) (by decide +kernel)
theorem cX11_43 : Cond.methodLinkNest RX11 43 kX3_init.1 "FirstPut" ∈ lw_tbl := List.mem_of_getElem? (i := 275) (by decide +kernel)
theorem cX11_50 : Cond.methodLink RX11 50 kX8_init.1 ∈ lw_tbl := List.mem_of_getElem? (i := 291) (by decide +kernel)
theorem cX8_35 : Cond.methodLink RX8 35 kX5_init.1 ∈ lw_tbl := List.mem_of_getElem? (i := 297) (by decide +kernel)
theorem cX11_57 : Cond.methodLinkNest RX11 57 kX0_init.1 "FirstPut" ∈ lw_tbl := List.mem_of_getElem? (i := 327) (by decide +kernel)
theorem cX11_64 : Cond.methodLinkNest RX11 64 kX4_init.1 "FirstPut" ∈ lw_tbl := List.mem_of_getElem? (i := 355) (by decide +kernel)
theorem cX11_71 : Cond.methodLinkNest RX11 71 kX7_init.1 "FirstPut" ∈ lw_tbl := List.mem_of_getElem? (i := 378) (by decide +kernel)
theorem cX11_88 : Cond.methodLinkNest RX11 88 kX2_init.1 "FirstPut" ∈ lw_tbl := List.mem_of_getElem? (i := 405) (by decide +kernel)
theorem cX2_9 : Cond.methodLink RX2 9 kX5_init.1 ∈ lw_tbl := List.mem_of_getElem? (i := 410) (by decide +kernel)
theorem cX2_18 : Cond.methodLinkNest RX2 18 kX10_init.1 "FirstPut" ∈ lw_tbl := List.mem_of_getElem? (i := 412) (by decide +kernel)
theorem cX2_25 : Cond.methodLinkNest RX2 25 kX3_init.1 "FirstPut" ∈ lw_tbl := List.mem_of_getElem? (i := 414) (by decide +kernel)
theorem cX11_89 : Cond.methodLinkNest RX11 89 kX9_init.1 "FirstPut" ∈ lw_tbl := List.mem_of_getElem? (i := 432) (by decide +kernel)
theorem cL_15 : fp_CV RL 15 kX11_feed 1 11 := ⟨List.mem_of_getElem? (i := 491) (by decide +kernel), mX11_feed, vX11_feed, _, rfl, rfl⟩
theorem cL_20 : fp_CV RL 20 kX11_end 1 11 := ⟨List.mem_of_getElem? (i := 495) (by decide +kernel), mX11_end, vX11_end, _, rfl, rfl⟩
theorem cL_25 : fp_CV RL 25 kX11_bank 0 11 := ⟨List.mem_of_getElem? (i := 499) (by decide +kernel), mX11_bank, vX11_bank, _, rfl, rfl⟩
theorem cX11_94 : fp_CV RX11 94 kX6_readText 2 6 := ⟨List.mem_of_getElem? (i := 503) (by decide +kernel), mX6_readText, vX6_readText, _, rfl, rfl⟩
theorem cX6_53 : fp_CV RX6 53 kX1_clear 0 1 := ⟨List.mem_of_getElem? (i := 507) (by decide +kernel), mX1_clear, vX1_clear, _, rfl, rfl⟩
theorem cX6_56 : fp_CV RX6 56 kX5_clear 0 5 := ⟨List.mem_of_getElem? (i := 511) (by decide +kernel), mX5_clear, vX5_clear, _, rfl, rfl⟩
theorem cX6_60 : fp_CV RX6 60 kX6_step 0 6 := ⟨List.mem_of_getElem? (i := 515) (by decide +kernel), mX6_step, vX6_step, _, rfl, rfl⟩
theorem cX6_79 : fp_CS RX6 79 kX6_isLetter 1 := ⟨List.mem_of_getElem? (i := 519) (by decide +kernel), mX6_isLetter, sX6_isLetter⟩
theorem cX6_83 : fp_CS RX6 83 kX6_isFigure 1 := ⟨List.mem_of_getElem? (i := 522) (by decide +kernel), mX6_isFigure, sX6_isFigure⟩
theorem cX6_89 : fp_CV RX6 89 kX6_refuse 2 6 := ⟨List.mem_of_getElem? (i := 525) (by decide +kernel), mX6_refuse, vX6_refuse, _, rfl, rfl⟩
theorem cX6_67 : fp_CV RX6 67 kX6_readLine 0 6 := ⟨List.mem_of_getElem? (i := 529) (by decide +kernel), mX6_readLine, vX6_readLine, _, rfl, rfl⟩
theorem cX6_104 : fp_CV RX6 104 kX6_isWord 1 6 := ⟨List.mem_of_getElem? (i := 534) (by decide +kernel), mX6_isWord, vX6_isWord, _, rfl, rfl⟩
theorem cJ0_495 : fp_CS RJ0 495 kJ1_charAt_3b067 2 := ⟨List.mem_of_getElem? (i := 556) (by decide +kernel), mJ1_charAt_3b067, sJ1_charAt_3b067⟩
theorem cJ1_9 : fp_CS RJ1 9 kJ0_checkIndex_df160 2 := ⟨List.mem_of_getElem? (i := 559) (by decide +kernel), mJ0_checkIndex_df160, sJ0_checkIndex_df160⟩
theorem cJ0_1059 : fp_CS RJ0 1059 kJ3_checkIndex_8e157 3 := ⟨List.mem_of_getElem? (i := 564) (by decide +kernel), mJ3_checkIndex_8e157, sJ3_checkIndex_8e157⟩
theorem cJ0_498 : fp_CS RJ0 498 kJ2_charAt_3b067 2 := ⟨List.mem_of_getElem? (i := 567) (by decide +kernel), mJ2_charAt_3b067, sJ2_charAt_3b067⟩
theorem cJ2_67 : fp_CS RJ2 67 kJ2_checkIndex_2214a 2 := ⟨List.mem_of_getElem? (i := 570) (by decide +kernel), mJ2_checkIndex_2214a, sJ2_checkIndex_2214a⟩
theorem cJ2_48 : fp_CS RJ2 48 kJ2_length_9d52b 1 := ⟨List.mem_of_getElem? (i := 573) (by decide +kernel), mJ2_length_9d52b, sJ2_length_9d52b⟩
theorem cJ2_414 : fp_CS RJ2 414 kJ0_checkIndex_df160 2 := ⟨List.mem_of_getElem? (i := 576) (by decide +kernel), mJ0_checkIndex_df160, sJ0_checkIndex_df160⟩
theorem cJ2_71 : fp_CS RJ2 71 kJ2_getChar_3b067 2 := ⟨List.mem_of_getElem? (i := 577) (by decide +kernel), mJ2_getChar_3b067, sJ2_getChar_3b067⟩
theorem cX6_108 : fp_CV RX6 108 kX6_readThing 0 6 := ⟨List.mem_of_getElem? (i := 586) (by decide +kernel), mX6_readThing, vX6_readThing, _, rfl, rfl⟩
theorem cX6_132 : fp_CV RX6 132 kX6_readNumber 2 6 := ⟨List.mem_of_getElem? (i := 590) (by decide +kernel), mX6_readNumber, vX6_readNumber, _, rfl, rfl⟩
theorem cX6_145 : fp_CV RX6 145 kX6_readStop 0 6 := ⟨List.mem_of_getElem? (i := 594) (by decide +kernel), mX6_readStop, vX6_readStop, _, rfl, rfl⟩
theorem cX6_113 : fp_CV RX6 113 kX6_readLineOfThings 0 6 := ⟨List.mem_of_getElem? (i := 599) (by decide +kernel), mX6_readLineOfThings, vX6_readLineOfThings, _, rfl, rfl⟩
theorem cX6_157 : fp_CV RX6 157 kX6_kindRead 0 6 := ⟨List.mem_of_getElem? (i := 603) (by decide +kernel), mX6_kindRead, vX6_kindRead, _, rfl, rfl⟩
theorem cX6_163 : fp_CV RX6 163 kX6_takeLying 1 6 := ⟨List.mem_of_getElem? (i := 610) (by decide +kernel), mX6_takeLying, vX6_takeLying, _, rfl, rfl⟩
theorem cX6_118 : fp_CV RX6 118 kX6_readVisit 1 6 := ⟨List.mem_of_getElem? (i := 615) (by decide +kernel), mX6_readVisit, vX6_readVisit, _, rfl, rfl⟩
theorem cX6_170 : fp_CV RX6 170 kX10_lastDay 0 10 := ⟨List.mem_of_getElem? (i := 619) (by decide +kernel), mX10_lastDay, vX10_lastDay, _, rfl, rfl⟩
theorem cX6_173 : fp_CV RX6 173 kX10_add 4 10 := ⟨List.mem_of_getElem? (i := 623) (by decide +kernel), mX10_add, vX10_add, _, rfl, rfl⟩
theorem cX6_126 : fp_CV RX6 126 kX6_readChance 0 6 := ⟨List.mem_of_getElem? (i := 629) (by decide +kernel), mX6_readChance, vX6_readChance, _, rfl, rfl⟩
theorem cX6_70 : fp_CV RX6 70 kX6_settle 0 6 := ⟨List.mem_of_getElem? (i := 633) (by decide +kernel), mX6_settle, vX6_settle, _, rfl, rfl⟩
theorem cX6_180 : fp_CV RX6 180 kX6_settleThing 2 6 := ⟨List.mem_of_getElem? (i := 637) (by decide +kernel), mX6_settleThing, vX6_settleThing, _, rfl, rfl⟩
theorem cX6_190 : fp_CV RX6 190 kX1_hasThing 1 1 := ⟨List.mem_of_getElem? (i := 641) (by decide +kernel), mX1_hasThing, vX1_hasThing, _, rfl, rfl⟩
theorem cX6_184 : fp_CV RX6 184 kX10_isDraw 1 10 := ⟨List.mem_of_getElem? (i := 645) (by decide +kernel), mX10_isDraw, vX10_isDraw, _, rfl, rfl⟩
theorem cX6_196 : fp_CV RX6 196 kX1_hasLine 1 1 := ⟨List.mem_of_getElem? (i := 649) (by decide +kernel), mX1_hasLine, vX1_hasLine, _, rfl, rfl⟩
theorem cX11_105 : fp_CV RX11 105 kX1_copyFrom 1 1 := ⟨List.mem_of_getElem? (i := 653) (by decide +kernel), mX1_copyFrom, vX1_copyFrom, _, rfl, rfl⟩
theorem cX11_112 : fp_CV RX11 112 kX5_copyFrom 1 5 := ⟨List.mem_of_getElem? (i := 660) (by decide +kernel), mX5_copyFrom, vX5_copyFrom, _, rfl, rfl⟩
theorem cX11_116 : fp_CV RX11 116 kX10_copyFrom 1 10 := ⟨List.mem_of_getElem? (i := 665) (by decide +kernel), mX10_copyFrom, vX10_copyFrom, _, rfl, rfl⟩
theorem cL_30 : fp_CV RL 30 kX11_fault 0 11 := ⟨List.mem_of_getElem? (i := 670) (by decide +kernel), mX11_fault, vX11_fault, _, rfl, rfl⟩
theorem cL_34 : fp_CV RL 34 kX11_thing 2 11 := ⟨List.mem_of_getElem? (i := 674) (by decide +kernel), mX11_thing, vX11_thing, _, rfl, rfl⟩
theorem cX11_126 : fp_CV RX11 126 kX1_hasThing 1 1 := ⟨List.mem_of_getElem? (i := 678) (by decide +kernel), mX1_hasThing, vX1_hasThing, _, rfl, rfl⟩
theorem cX11_130 : fp_CV RX11 130 kX1_valueTo 2 1 := ⟨List.mem_of_getElem? (i := 679) (by decide +kernel), mX1_valueTo, vX1_valueTo, _, rfl, rfl⟩
theorem cX11_141 : fp_CV RX11 141 kX5_spotOf 1 5 := ⟨List.mem_of_getElem? (i := 683) (by decide +kernel), mX5_spotOf, vX5_spotOf, _, rfl, rfl⟩
theorem cL_39 : fp_CV RL 39 kX11_line 2 11 := ⟨List.mem_of_getElem? (i := 687) (by decide +kernel), mX11_line, vX11_line, _, rfl, rfl⟩
theorem cX11_148 : fp_CV RX11 148 kX1_hasLine 1 1 := ⟨List.mem_of_getElem? (i := 691) (by decide +kernel), mX1_hasLine, vX1_hasLine, _, rfl, rfl⟩
theorem cX11_159 : fp_CV RX11 159 kX5_gives 2 5 := ⟨List.mem_of_getElem? (i := 692) (by decide +kernel), mX5_gives, vX5_gives, _, rfl, rfl⟩
theorem cX5_49 : fp_CSN RX5 49 kX11_givenSpot 5 := ⟨"FirstPut", List.mem_of_getElem? (i := 696) (by decide +kernel), mX11_givenSpot, sX11_givenSpot⟩
theorem cL_43 : fp_CV RL 43 kX11_visit 2 11 := ⟨List.mem_of_getElem? (i := 699) (by decide +kernel), mX11_visit, vX11_visit, _, rfl, rfl⟩
theorem cX11_163 : fp_CV RX11 163 kX10_has 1 10 := ⟨List.mem_of_getElem? (i := 703) (by decide +kernel), mX10_has, vX10_has, _, rfl, rfl⟩
theorem cL_47 : fp_CV RL 47 kX11_chance 1 11 := ⟨List.mem_of_getElem? (i := 707) (by decide +kernel), mX11_chance, vX11_chance, _, rfl, rfl⟩
theorem cL_51 : fp_CV RL 51 kX11_holds 1 11 := ⟨List.mem_of_getElem? (i := 711) (by decide +kernel), mX11_holds, vX11_holds, _, rfl, rfl⟩
theorem cX11_181 : fp_CS RX11 181 kX11_isOne 1 := ⟨List.mem_of_getElem? (i := 715) (by decide +kernel), mX11_isOne, sX11_isOne⟩
theorem cX11_184 : fp_CV RX11 184 kX5_heldBy 1 5 := ⟨List.mem_of_getElem? (i := 718) (by decide +kernel), mX5_heldBy, vX5_heldBy, _, rfl, rfl⟩
theorem cL_55 : fp_CV RL 55 kX11_worth 1 11 := ⟨List.mem_of_getElem? (i := 722) (by decide +kernel), mX11_worth, vX11_worth, _, rfl, rfl⟩
theorem cX11_187 : fp_CV RX11 187 kX5_worthTo 2 5 := ⟨List.mem_of_getElem? (i := 726) (by decide +kernel), mX5_worthTo, vX5_worthTo, _, rfl, rfl⟩
theorem cX5_42 : fp_CV RX5 42 kX1_valueTo 2 1 := ⟨List.mem_of_getElem? (i := 730) (by decide +kernel), mX1_valueTo, vX1_valueTo, _, rfl, rfl⟩
theorem cL_59 : fp_CV RL 59 kX11_put 3 11 := ⟨List.mem_of_getElem? (i := 731) (by decide +kernel), mX11_put, vX11_put, _, rfl, rfl⟩
theorem cX11_190 : fp_CV RX11 190 kX5_append 3 5 := ⟨List.mem_of_getElem? (i := 735) (by decide +kernel), mX5_append, vX5_append, _, rfl, rfl⟩
theorem cX5_53 : fp_CV RX5 53 kX5_insert 3 5 := ⟨List.mem_of_getElem? (i := 739) (by decide +kernel), mX5_insert, vX5_insert, _, rfl, rfl⟩
theorem cL_64 : fp_CV RL 64 kX11_draw 2 11 := ⟨List.mem_of_getElem? (i := 743) (by decide +kernel), mX11_draw, vX11_draw, _, rfl, rfl⟩
theorem cX11_194 : fp_CV RX11 194 kX5_giveTo 3 5 := ⟨List.mem_of_getElem? (i := 747) (by decide +kernel), mX5_giveTo, vX5_giveTo, _, rfl, rfl⟩
theorem cL_68 : fp_CV RL 68 kX11_slip 3 11 := ⟨List.mem_of_getElem? (i := 751) (by decide +kernel), mX11_slip, vX11_slip, _, rfl, rfl⟩
theorem cX11_198 : fp_CV RX11 198 kX5_insert 3 5 := ⟨List.mem_of_getElem? (i := 755) (by decide +kernel), mX5_insert, vX5_insert, _, rfl, rfl⟩
theorem cL_72 : fp_CV RL 72 kX11_come 4 11 := ⟨List.mem_of_getElem? (i := 756) (by decide +kernel), mX11_come, vX11_come, _, rfl, rfl⟩
theorem cX11_201 : fp_CV RX11 201 kX11_tellVisit 4 11 := ⟨List.mem_of_getElem? (i := 760) (by decide +kernel), mX11_tellVisit, vX11_tellVisit, _, rfl, rfl⟩
theorem cX11_221 : fp_CS RX11 221 kX11_isWithin 2 := ⟨List.mem_of_getElem? (i := 764) (by decide +kernel), mX11_isWithin, sX11_isWithin⟩
theorem cX11_345 : fp_CV RX11 345 kX10_lastDay 0 10 := ⟨List.mem_of_getElem? (i := 767) (by decide +kernel), mX10_lastDay, vX10_lastDay, _, rfl, rfl⟩
theorem cX11_349 : fp_CV RX11 349 kX10_add 4 10 := ⟨List.mem_of_getElem? (i := 768) (by decide +kernel), mX10_add, vX10_add, _, rfl, rfl⟩
theorem cL_77 : fp_CV RL 77 kX11_cut 1 11 := ⟨List.mem_of_getElem? (i := 769) (by decide +kernel), mX11_cut, vX11_cut, _, rfl, rfl⟩
theorem cL_81 : fp_CV RL 81 kX11_go 1 11 := ⟨List.mem_of_getElem? (i := 773) (by decide +kernel), mX11_go, vX11_go, _, rfl, rfl⟩
theorem cX11_206 : fp_CV RX11 206 kX10_happens 3 10 := ⟨List.mem_of_getElem? (i := 777) (by decide +kernel), mX10_happens, vX10_happens, _, rfl, rfl⟩
theorem cX10_42 : fp_CV RX10 42 kX10_has 1 10 := ⟨List.mem_of_getElem? (i := 781) (by decide +kernel), mX10_has, vX10_has, _, rfl, rfl⟩
theorem cX10_34 : fp_CV RX10 34 kX10_isDraw 1 10 := ⟨List.mem_of_getElem? (i := 782) (by decide +kernel), mX10_isDraw, vX10_isDraw, _, rfl, rfl⟩
theorem cX10_45 : fp_CV RX10 45 kX5_giveTo 3 5 := ⟨List.mem_of_getElem? (i := 783) (by decide +kernel), mX5_giveTo, vX5_giveTo, _, rfl, rfl⟩
theorem cX10_51 : fp_CV RX10 51 kX5_append 3 5 := ⟨List.mem_of_getElem? (i := 784) (by decide +kernel), mX5_append, vX5_append, _, rfl, rfl⟩
theorem cX11_210 : fp_CV RX11 210 kX10_dropFirst 1 10 := ⟨List.mem_of_getElem? (i := 785) (by decide +kernel), mX10_dropFirst, vX10_dropFirst, _, rfl, rfl⟩
theorem cL_85 : fp_CV RL 85 kX11_after 2 11 := ⟨List.mem_of_getElem? (i := 789) (by decide +kernel), mX11_after, vX11_after, _, rfl, rfl⟩
theorem cX11_214 : fp_CV RX11 214 kX8_behind 4 8 := ⟨List.mem_of_getElem? (i := 793) (by decide +kernel), mX8_behind, vX8_behind, _, rfl, rfl⟩
theorem cX8_36 : fp_CV RX8 36 kX5_copyFrom 1 5 := ⟨List.mem_of_getElem? (i := 797) (by decide +kernel), mX5_copyFrom, vX5_copyFrom, _, rfl, rfl⟩
theorem cX8_40 : fp_CV RX8 40 kX10_happens 3 10 := ⟨List.mem_of_getElem? (i := 798) (by decide +kernel), mX10_happens, vX10_happens, _, rfl, rfl⟩
theorem cL_89 : fp_CV RL 89 kX11_gains 2 11 := ⟨List.mem_of_getElem? (i := 799) (by decide +kernel), mX11_gains, vX11_gains, _, rfl, rfl⟩
theorem cL_93 : fp_CV RL 93 kX11_vain 0 11 := ⟨List.mem_of_getElem? (i := 803) (by decide +kernel), mX11_vain, vX11_vain, _, rfl, rfl⟩
theorem cL_97 : fp_CV RL 97 kX11_lost 1 11 := ⟨List.mem_of_getElem? (i := 807) (by decide +kernel), mX11_lost, vX11_lost, _, rfl, rfl⟩
theorem cX11_218 : fp_CV RX11 218 kX10_isDraw 1 10 := ⟨List.mem_of_getElem? (i := 811) (by decide +kernel), mX10_isDraw, vX10_isDraw, _, rfl, rfl⟩
theorem cL_101 : fp_CV RL 101 kX11_since 2 11 := ⟨List.mem_of_getElem? (i := 812) (by decide +kernel), mX11_since, vX11_since, _, rfl, rfl⟩
theorem cL_105 : fp_CV RL 105 kX11_extra 3 11 := ⟨List.mem_of_getElem? (i := 816) (by decide +kernel), mX11_extra, vX11_extra, _, rfl, rfl⟩
theorem cL_109 : fp_CV RL 109 kX11_aim 2 11 := ⟨List.mem_of_getElem? (i := 820) (by decide +kernel), mX11_aim, vX11_aim, _, rfl, rfl⟩
theorem cL_113 : fp_CV RL 113 kX11_trick 4 11 := ⟨List.mem_of_getElem? (i := 824) (by decide +kernel), mX11_trick, vX11_trick, _, rfl, rfl⟩
theorem cX11_228 : fp_CV RX11 228 kX8_tryTrick 5 8 := ⟨List.mem_of_getElem? (i := 828) (by decide +kernel), mX8_tryTrick, vX8_tryTrick, _, rfl, rfl⟩
theorem cX8_46 : fp_CV RX8 46 kX8_behind 4 8 := ⟨List.mem_of_getElem? (i := 832) (by decide +kernel), mX8_behind, vX8_behind, _, rfl, rfl⟩
theorem cX8_59 : fp_CV RX8 59 kX5_append 3 5 := ⟨List.mem_of_getElem? (i := 833) (by decide +kernel), mX5_append, vX5_append, _, rfl, rfl⟩
theorem cX11_232 : fp_CV RX11 232 kX8_lineTrickedOf 2 8 := ⟨List.mem_of_getElem? (i := 834) (by decide +kernel), mX8_lineTrickedOf, vX8_lineTrickedOf, _, rfl, rfl⟩
theorem cX8_63 : fp_CV RX8 63 kX5_gives 2 5 := ⟨List.mem_of_getElem? (i := 838) (by decide +kernel), mX5_gives, vX5_gives, _, rfl, rfl⟩
theorem cX11_235 : fp_CV RX11 235 kX8_goOnWithTrick 3 8 := ⟨List.mem_of_getElem? (i := 839) (by decide +kernel), mX8_goOnWithTrick, vX8_goOnWithTrick, _, rfl, rfl⟩
theorem cL_117 : fp_CV RL 117 kX11_most 2 11 := ⟨List.mem_of_getElem? (i := 843) (by decide +kernel), mX11_most, vX11_most, _, rfl, rfl⟩
theorem cX11_239 : fp_CV RX11 239 kX10_drawsOf 1 10 := ⟨List.mem_of_getElem? (i := 847) (by decide +kernel), mX10_drawsOf, vX10_drawsOf, _, rfl, rfl⟩
theorem cX10_38 : fp_CV RX10 38 kX10_isDrawOf 2 10 := ⟨List.mem_of_getElem? (i := 851) (by decide +kernel), mX10_isDrawOf, vX10_isDrawOf, _, rfl, rfl⟩
theorem cX11_242 : fp_CV RX11 242 kX8_findMost 4 8 := ⟨List.mem_of_getElem? (i := 855) (by decide +kernel), mX8_findMost, vX8_findMost, _, rfl, rfl⟩
theorem cX8_70 : fp_CS RX8 70 kJ7_fill_53178 2 := ⟨List.mem_of_getElem? (i := 859) (by decide +kernel), mJ7_fill_53178, sJ7_fill_53178⟩
theorem cX8_76 : fp_CV RX8 76 kX8_tryLines 4 8 := ⟨List.mem_of_getElem? (i := 860) (by decide +kernel), mX8_tryLines, vX8_tryLines, _, rfl, rfl⟩
theorem cX8_83 : fp_CV RX8 83 kX5_worthTo 2 5 := ⟨List.mem_of_getElem? (i := 864) (by decide +kernel), mX5_worthTo, vX5_worthTo, _, rfl, rfl⟩
theorem cX8_86 : fp_CV RX8 86 kX8_takeIfBetter 1 8 := ⟨List.mem_of_getElem? (i := 865) (by decide +kernel), mX8_takeIfBetter, vX8_takeIfBetter, _, rfl, rfl⟩
theorem cX8_90 : fp_CV RX8 90 kX10_isDrawOf 2 10 := ⟨List.mem_of_getElem? (i := 870) (by decide +kernel), mX10_isDrawOf, vX10_isDrawOf, _, rfl, rfl⟩
theorem cX8_94 : fp_CV RX8 94 kX5_giveTo 3 5 := ⟨List.mem_of_getElem? (i := 871) (by decide +kernel), mX5_giveTo, vX5_giveTo, _, rfl, rfl⟩
theorem cL_121 : fp_CV RL 121 kX11_odds 3 11 := ⟨List.mem_of_getElem? (i := 872) (by decide +kernel), mX11_odds, vX11_odds, _, rfl, rfl⟩
theorem cX11_256 : fp_CV RX11 256 kX8_findShares 4 8 := ⟨List.mem_of_getElem? (i := 878) (by decide +kernel), mX8_findShares, vX8_findShares, _, rfl, rfl⟩
theorem cX8_104 : fp_CS RX8 104 kJ7_fill_d0a16 2 := ⟨List.mem_of_getElem? (i := 882) (by decide +kernel), mJ7_fill_d0a16, sJ7_fill_d0a16⟩
theorem cX8_107 : fp_CV RX8 107 kX8_spread 5 8 := ⟨List.mem_of_getElem? (i := 885) (by decide +kernel), mX8_spread, vX8_spread, _, rfl, rfl⟩
theorem cX11_264 : fp_CS RX11 264 kX11_greatestDivisor 2 := ⟨List.mem_of_getElem? (i := 890) (by decide +kernel), mX11_greatestDivisor, sX11_greatestDivisor⟩
theorem cL_126 : fp_CV RL 126 kX11_likeliest 1 11 := ⟨List.mem_of_getElem? (i := 893) (by decide +kernel), mX11_likeliest, vX11_likeliest, _, rfl, rfl⟩
theorem cL_130 : fp_CV RL 130 kX11_duel 6 11 := ⟨List.mem_of_getElem? (i := 897) (by decide +kernel), mX11_duel, vX11_duel, _, rfl, rfl⟩
theorem cX11_271 : fp_CV RX11 271 kX0_prepare 6 0 := ⟨List.mem_of_getElem? (i := 901) (by decide +kernel), mX0_prepare, vX0_prepare, _, rfl, rfl⟩
theorem cX11_275 : fp_CV RX11 275 kX0_fight 2 0 := ⟨List.mem_of_getElem? (i := 906) (by decide +kernel), mX0_fight, vX0_fight, _, rfl, rfl⟩
theorem cX0_44 : fp_CV RX0 44 kX0_outcome 3 0 := ⟨List.mem_of_getElem? (i := 910) (by decide +kernel), mX0_outcome, vX0_outcome, _, rfl, rfl⟩
theorem cX0_48 : fp_CV RX0 48 kX0_canDo 3 0 := ⟨List.mem_of_getElem? (i := 914) (by decide +kernel), mX0_canDo, vX0_canDo, _, rfl, rfl⟩
theorem cX0_52 : fp_CV RX0 52 kX0_perform 5 0 := ⟨List.mem_of_getElem? (i := 918) (by decide +kernel), mX0_perform, vX0_perform, _, rfl, rfl⟩
theorem cX0_65 : fp_CV RX0 65 kX0_takeGiven 3 0 := ⟨List.mem_of_getElem? (i := 922) (by decide +kernel), mX0_takeGiven, vX0_takeGiven, _, rfl, rfl⟩
theorem cX0_72 : fp_CSN RX0 72 kX11_givenSpot 5 := ⟨"FirstPut", List.mem_of_getElem? (i := 926) (by decide +kernel), mX11_givenSpot, sX11_givenSpot⟩
theorem cX0_68 : fp_CV RX0 68 kX1_valueTo 2 1 := ⟨List.mem_of_getElem? (i := 927) (by decide +kernel), mX1_valueTo, vX1_valueTo, _, rfl, rfl⟩
theorem cX0_56 : fp_CV RX0 56 kX0_takeBack 2 0 := ⟨List.mem_of_getElem? (i := 928) (by decide +kernel), mX0_takeBack, vX0_takeBack, _, rfl, rfl⟩
theorem cX0_60 : fp_CV RX0 60 kX0_noteFirst 2 0 := ⟨List.mem_of_getElem? (i := 932) (by decide +kernel), mX0_noteFirst, vX0_noteFirst, _, rfl, rfl⟩
theorem cL_135 : fp_CV RL 135 kX11_noted 1 11 := ⟨List.mem_of_getElem? (i := 936) (by decide +kernel), mX11_noted, vX11_noted, _, rfl, rfl⟩
theorem cX11_281 : fp_CV RX11 281 kX3_spotOf 1 3 := ⟨List.mem_of_getElem? (i := 940) (by decide +kernel), mX3_spotOf, vX3_spotOf, _, rfl, rfl⟩
theorem cX11_282 : fp_CV RX11 282 kX3_add 1 3 := ⟨List.mem_of_getElem? (i := 944) (by decide +kernel), mX3_add, vX3_add, _, rfl, rfl⟩
theorem cL_139 : fp_CV RL 139 kX11_forget 0 11 := ⟨List.mem_of_getElem? (i := 948) (by decide +kernel), mX11_forget, vX11_forget, _, rfl, rfl⟩
theorem cL_143 : fp_CV RL 143 kX11_orders 2 11 := ⟨List.mem_of_getElem? (i := 952) (by decide +kernel), mX11_orders, vX11_orders, _, rfl, rfl⟩
theorem cX11_285 : fp_CV RX11 285 kX4_prepare 3 4 := ⟨List.mem_of_getElem? (i := 956) (by decide +kernel), mX4_prepare, vX4_prepare, _, rfl, rfl⟩
theorem cX11_288 : fp_CV RX11 288 kX4_howMany 2 4 := ⟨List.mem_of_getElem? (i := 961) (by decide +kernel), mX4_howMany, vX4_howMany, _, rfl, rfl⟩
theorem cX4_67 : fp_CV RX4 67 kX4_canFit 2 4 := ⟨List.mem_of_getElem? (i := 965) (by decide +kernel), mX4_canFit, vX4_canFit, _, rfl, rfl⟩
theorem cX4_51 : fp_CV RX4 51 kX4_isMember 1 4 := ⟨List.mem_of_getElem? (i := 969) (by decide +kernel), mX4_isMember, vX4_isMember, _, rfl, rfl⟩
theorem cX4_55 : fp_CV RX4 55 kX4_isLightestBehind 3 4 := ⟨List.mem_of_getElem? (i := 973) (by decide +kernel), mX4_isLightestBehind, vX4_isLightestBehind, _, rfl, rfl⟩
theorem cX4_59 : fp_CV RX4 59 kX4_weightThatCounts 2 4 := ⟨List.mem_of_getElem? (i := 977) (by decide +kernel), mX4_weightThatCounts, vX4_weightThatCounts, _, rfl, rfl⟩
theorem cX4_63 : fp_CV RX4 63 kX3_spotOf 1 3 := ⟨List.mem_of_getElem? (i := 981) (by decide +kernel), mX3_spotOf, vX3_spotOf, _, rfl, rfl⟩
theorem cX4_71 : fp_CV RX4 71 kX4_choicesAt 3 4 := ⟨List.mem_of_getElem? (i := 982) (by decide +kernel), mX4_choicesAt, vX4_choicesAt, _, rfl, rfl⟩
theorem cX11_292 : fp_CV RX11 292 kX4_canFit 2 4 := ⟨List.mem_of_getElem? (i := 986) (by decide +kernel), mX4_canFit, vX4_canFit, _, rfl, rfl⟩
theorem cX11_296 : fp_CV RX11 296 kX4_findFirst 2 4 := ⟨List.mem_of_getElem? (i := 987) (by decide +kernel), mX4_findFirst, vX4_findFirst, _, rfl, rfl⟩
theorem cX4_78 : fp_CV RX4 78 kX4_isPlaced 1 4 := ⟨List.mem_of_getElem? (i := 991) (by decide +kernel), mX4_isPlaced, vX4_isPlaced, _, rfl, rfl⟩
theorem cX4_81 : fp_CV RX4 81 kX4_mayStand 4 4 := ⟨List.mem_of_getElem? (i := 995) (by decide +kernel), mX4_mayStand, vX4_mayStand, _, rfl, rfl⟩
theorem cL_147 : fp_CV RL 147 kX11_ring 1 11 := ⟨List.mem_of_getElem? (i := 999) (by decide +kernel), mX11_ring, vX11_ring, _, rfl, rfl⟩
theorem cX11_303 : fp_CV RX11 303 kX7_form 2 7 := ⟨List.mem_of_getElem? (i := 1003) (by decide +kernel), mX7_form, vX7_form, _, rfl, rfl⟩
theorem cX7_24 : fp_CV RX7 24 kX7_gather 1 7 := ⟨List.mem_of_getElem? (i := 1007) (by decide +kernel), mX7_gather, vX7_gather, _, rfl, rfl⟩
theorem cX7_40 : fp_CV RX7 40 kX5_leastHeldBy 1 5 := ⟨List.mem_of_getElem? (i := 1011) (by decide +kernel), mX5_leastHeldBy, vX5_leastHeldBy, _, rfl, rfl⟩
theorem cX7_28 : fp_CV RX7 28 kX7_point 1 7 := ⟨List.mem_of_getElem? (i := 1015) (by decide +kernel), mX7_point, vX7_point, _, rfl, rfl⟩
theorem cX7_45 : fp_CV RX7 45 kX7_isThere 1 7 := ⟨List.mem_of_getElem? (i := 1019) (by decide +kernel), mX7_isThere, vX7_isThere, _, rfl, rfl⟩
theorem cX7_49 : fp_CS RX7 49 kX7_likesBetter 4 := ⟨List.mem_of_getElem? (i := 1023) (by decide +kernel), mX7_likesBetter, sX7_likesBetter⟩
theorem cX7_53 : fp_CV RX7 53 kX1_valueTo 2 1 := ⟨List.mem_of_getElem? (i := 1026) (by decide +kernel), mX1_valueTo, vX1_valueTo, _, rfl, rfl⟩
theorem cX7_32 : fp_CV RX7 32 kX7_takeIfInRing 1 7 := ⟨List.mem_of_getElem? (i := 1027) (by decide +kernel), mX7_takeIfInRing, vX7_takeIfInRing, _, rfl, rfl⟩
theorem cL_151 : fp_CV RL 151 kX11_with 1 11 := ⟨List.mem_of_getElem? (i := 1031) (by decide +kernel), mX11_with, vX11_with, _, rfl, rfl⟩
theorem cL_155 : fp_CV RL 155 kX11_join 1 11 := ⟨List.mem_of_getElem? (i := 1035) (by decide +kernel), mX11_join, vX11_join, _, rfl, rfl⟩
theorem cL_159 : fp_CV RL 159 kX11_keep 1 11 := ⟨List.mem_of_getElem? (i := 1039) (by decide +kernel), mX11_keep, vX11_keep, _, rfl, rfl⟩
theorem cX11_316 : fp_CV RX11 316 kX3_copyFrom 1 3 := ⟨List.mem_of_getElem? (i := 1043) (by decide +kernel), mX3_copyFrom, vX3_copyFrom, _, rfl, rfl⟩
theorem cL_163 : fp_CV RL 163 kX11_back 1 11 := ⟨List.mem_of_getElem? (i := 1048) (by decide +kernel), mX11_back, vX11_back, _, rfl, rfl⟩
theorem cL_167 : fp_CV RL 167 kX11_sheet 3 11 := ⟨List.mem_of_getElem? (i := 1052) (by decide +kernel), mX11_sheet, vX11_sheet, _, rfl, rfl⟩
theorem cX11_319 : fp_CV RX11 319 kX9_renew 2 9 := ⟨List.mem_of_getElem? (i := 1056) (by decide +kernel), mX9_renew, vX9_renew, _, rfl, rfl⟩
theorem cX9_30 : fp_CS RX9 30 kJ7_fill_53178 2 := ⟨List.mem_of_getElem? (i := 1060) (by decide +kernel), mJ7_fill_53178, sJ7_fill_53178⟩
theorem cL_171 : fp_CV RL 171 kX11_lay 3 11 := ⟨List.mem_of_getElem? (i := 1061) (by decide +kernel), mX11_lay, vX11_lay, _, rfl, rfl⟩
theorem cX11_323 : fp_CV RX11 323 kX9_isThere 0 9 := ⟨List.mem_of_getElem? (i := 1065) (by decide +kernel), mX9_isThere, vX9_isThere, _, rfl, rfl⟩
theorem cX11_327 : fp_CV RX11 327 kX9_has 1 9 := ⟨List.mem_of_getElem? (i := 1069) (by decide +kernel), mX9_has, vX9_has, _, rfl, rfl⟩
theorem cX11_328 : fp_CV RX11 328 kX9_write 2 9 := ⟨List.mem_of_getElem? (i := 1073) (by decide +kernel), mX9_write, vX9_write, _, rfl, rfl⟩
theorem cL_175 : fp_CV RL 175 kX11_read 4 11 := ⟨List.mem_of_getElem? (i := 1077) (by decide +kernel), mX11_read, vX11_read, _, rfl, rfl⟩
theorem cX11_331 : fp_CV RX11 331 kX9_faultTakenAs 1 9 := ⟨List.mem_of_getElem? (i := 1081) (by decide +kernel), mX9_faultTakenAs, vX9_faultTakenAs, _, rfl, rfl⟩
theorem cX9_23 : fp_CV RX9 23 kX9_isThere 0 9 := ⟨List.mem_of_getElem? (i := 1085) (by decide +kernel), mX9_isThere, vX9_isThere, _, rfl, rfl⟩
theorem cX11_337 : fp_CV RX11 337 kX9_hasVisit 2 9 := ⟨List.mem_of_getElem? (i := 1086) (by decide +kernel), mX9_hasVisit, vX9_hasVisit, _, rfl, rfl⟩
theorem cX9_19 : fp_CV RX9 19 kX9_has 1 9 := ⟨List.mem_of_getElem? (i := 1090) (by decide +kernel), mX9_has, vX9_has, _, rfl, rfl⟩
theorem cX11_340 : fp_CV RX11 340 kX11_tellVisitOf 2 11 := ⟨List.mem_of_getElem? (i := 1091) (by decide +kernel), mX11_tellVisitOf, vX11_tellVisitOf, _, rfl, rfl⟩
theorem cL_179 : fp_CV RL 179 kX11_torn 0 11 := ⟨List.mem_of_getElem? (i := 1095) (by decide +kernel), mX11_torn, vX11_torn, _, rfl, rfl⟩
theorem cL_183 : fp_CV RL 183 kX11_count 1 11 := ⟨List.mem_of_getElem? (i := 1099) (by decide +kernel), mX11_count, vX11_count, _, rfl, rfl⟩
theorem cL_12 : Cond.methodLink RL 12 kX12_init.1 ∈ lw_tbl := List.mem_of_getElem? (i := 1105) (by decide +kernel)
theorem cL_19 : fp_CV RL 19 kX12_feed 1 12 := ⟨List.mem_of_getElem? (i := 1245) (by decide +kernel), mX12_feed, vX12_feed, _, rfl, rfl⟩
theorem cL_24 : fp_CV RL 24 kX12_end 1 12 := ⟨List.mem_of_getElem? (i := 1249) (by decide +kernel), mX12_end, vX12_end, _, rfl, rfl⟩
theorem cX12_94 : fp_CS RX12 94 kX12_in 3 := ⟨List.mem_of_getElem? (i := 1253) (by decide +kernel), mX12_in, sX12_in⟩
theorem cL_29 : fp_CV RL 29 kX12_bank 0 12 := ⟨List.mem_of_getElem? (i := 1256) (by decide +kernel), mX12_bank, vX12_bank, _, rfl, rfl⟩
theorem cX12_136 : fp_CV RX12 136 kX12_step 0 12 := ⟨List.mem_of_getElem? (i := 1260) (by decide +kernel), mX12_step, vX12_step, _, rfl, rfl⟩
theorem cX12_113 : fp_CV RX12 113 kX12_byteAt 1 12 := ⟨List.mem_of_getElem? (i := 1264) (by decide +kernel), mX12_byteAt, vX12_byteAt, _, rfl, rfl⟩
theorem cX12_128 : fp_CV RX12 128 kX12_fails 1 12 := ⟨List.mem_of_getElem? (i := 1272) (by decide +kernel), mX12_fails, vX12_fails, _, rfl, rfl⟩
theorem cX12_187 : fp_CV RX12 187 kX12_readLine 0 12 := ⟨List.mem_of_getElem? (i := 1276) (by decide +kernel), mX12_readLine, vX12_readLine, _, rfl, rfl⟩
theorem cX12_149 : fp_CV RX12 149 kX12_nameHere 0 12 := ⟨List.mem_of_getElem? (i := 1280) (by decide +kernel), mX12_nameHere, vX12_nameHere, _, rfl, rfl⟩
theorem cX12_164 : fp_CV RX12 164 kX12_readThing 0 12 := ⟨List.mem_of_getElem? (i := 1285) (by decide +kernel), mX12_readThing, vX12_readThing, _, rfl, rfl⟩
theorem cX12_142 : fp_CV RX12 142 kX12_number 2 12 := ⟨List.mem_of_getElem? (i := 1289) (by decide +kernel), mX12_number, vX12_number, _, rfl, rfl⟩
theorem cX12_132 : fp_CV RX12 132 kX12_looks 2 12 := ⟨List.mem_of_getElem? (i := 1293) (by decide +kernel), mX12_looks, vX12_looks, _, rfl, rfl⟩
theorem cX12_167 : fp_CV RX12 167 kX12_readALine 0 12 := ⟨List.mem_of_getElem? (i := 1297) (by decide +kernel), mX12_readALine, vX12_readALine, _, rfl, rfl⟩
theorem cX12_177 : fp_CV RX12 177 kX12_readVisit 1 12 := ⟨List.mem_of_getElem? (i := 1301) (by decide +kernel), mX12_readVisit, vX12_readVisit, _, rfl, rfl⟩
theorem cX12_193 : fp_CV RX12 193 kX12_takes 0 12 := ⟨List.mem_of_getElem? (i := 1305) (by decide +kernel), mX12_takes, vX12_takes, _, rfl, rfl⟩
theorem cL_33 : fp_CV RL 33 kX12_fault 0 12 := ⟨List.mem_of_getElem? (i := 1309) (by decide +kernel), mX12_fault, vX12_fault, _, rfl, rfl⟩
theorem cL_38 : fp_CV RL 38 kX12_thing 2 12 := ⟨List.mem_of_getElem? (i := 1313) (by decide +kernel), mX12_thing, vX12_thing, _, rfl, rfl⟩
theorem cX12_205 : fp_CV RX12 205 kX12_isThing 1 12 := ⟨List.mem_of_getElem? (i := 1317) (by decide +kernel), mX12_isThing, vX12_isThing, _, rfl, rfl⟩
theorem cX12_209 : fp_CV RX12 209 kX12_placeOf 1 12 := ⟨List.mem_of_getElem? (i := 1321) (by decide +kernel), mX12_placeOf, vX12_placeOf, _, rfl, rfl⟩
theorem cX12_198 : fp_CV RX12 198 kX12_lie 2 12 := ⟨List.mem_of_getElem? (i := 1325) (by decide +kernel), mX12_lie, vX12_lie, _, rfl, rfl⟩
theorem cX12_201 : fp_CV RX12 201 kX12_lies 3 12 := ⟨List.mem_of_getElem? (i := 1329) (by decide +kernel), mX12_lies, vX12_lies, _, rfl, rfl⟩
theorem cL_42 : fp_CV RL 42 kX12_line 2 12 := ⟨List.mem_of_getElem? (i := 1335) (by decide +kernel), mX12_line, vX12_line, _, rfl, rfl⟩
theorem cX12_219 : fp_CV RX12 219 kX12_isLine 1 12 := ⟨List.mem_of_getElem? (i := 1339) (by decide +kernel), mX12_isLine, vX12_isLine, _, rfl, rfl⟩
theorem cX12_222 : fp_CV RX12 222 kX12_gives 2 12 := ⟨List.mem_of_getElem? (i := 1343) (by decide +kernel), mX12_gives, vX12_gives, _, rfl, rfl⟩
theorem cX12_216 : fp_CV RX12 216 kX12_givesAt 2 12 := ⟨List.mem_of_getElem? (i := 1347) (by decide +kernel), mX12_givesAt, vX12_givesAt, _, rfl, rfl⟩
theorem cL_46 : fp_CV RL 46 kX12_visit 2 12 := ⟨List.mem_of_getElem? (i := 1351) (by decide +kernel), mX12_visit, vX12_visit, _, rfl, rfl⟩
theorem cX12_225 : fp_CV RX12 225 kX12_visits 0 12 := ⟨List.mem_of_getElem? (i := 1355) (by decide +kernel), mX12_visits, vX12_visits, _, rfl, rfl⟩
theorem cL_50 : fp_CV RL 50 kX12_chance 1 12 := ⟨List.mem_of_getElem? (i := 1360) (by decide +kernel), mX12_chance, vX12_chance, _, rfl, rfl⟩
theorem cL_54 : fp_CV RL 54 kX12_holds 1 12 := ⟨List.mem_of_getElem? (i := 1364) (by decide +kernel), mX12_holds, vX12_holds, _, rfl, rfl⟩
theorem cX12_228 : fp_CS RX12 228 kX12_isOne 1 := ⟨List.mem_of_getElem? (i := 1368) (by decide +kernel), mX12_isOne, sX12_isOne⟩
theorem cX12_231 : fp_CV RX12 231 kX12_holdsAt 2 12 := ⟨List.mem_of_getElem? (i := 1371) (by decide +kernel), mX12_holdsAt, vX12_holdsAt, _, rfl, rfl⟩
theorem cL_58 : fp_CV RL 58 kX12_worth 1 12 := ⟨List.mem_of_getElem? (i := 1375) (by decide +kernel), mX12_worth, vX12_worth, _, rfl, rfl⟩
theorem cX12_234 : fp_CV RX12 234 kX12_worthAt 2 12 := ⟨List.mem_of_getElem? (i := 1379) (by decide +kernel), mX12_worthAt, vX12_worthAt, _, rfl, rfl⟩
theorem cL_63 : fp_CV RL 63 kX12_put 3 12 := ⟨List.mem_of_getElem? (i := 1383) (by decide +kernel), mX12_put, vX12_put, _, rfl, rfl⟩
theorem cX12_244 : fp_CV RX12 244 kX12_puts 4 12 := ⟨List.mem_of_getElem? (i := 1387) (by decide +kernel), mX12_puts, vX12_puts, _, rfl, rfl⟩
theorem cX12_237 : fp_CV RX12 237 kX12_laysIn 4 12 := ⟨List.mem_of_getElem? (i := 1391) (by decide +kernel), mX12_laysIn, vX12_laysIn, _, rfl, rfl⟩
theorem cL_67 : fp_CV RL 67 kX12_draw 2 12 := ⟨List.mem_of_getElem? (i := 1395) (by decide +kernel), mX12_draw, vX12_draw, _, rfl, rfl⟩
theorem cX12_248 : fp_CV RX12 248 kX12_draws 3 12 := ⟨List.mem_of_getElem? (i := 1399) (by decide +kernel), mX12_draws, vX12_draws, _, rfl, rfl⟩
theorem cX12_241 : fp_CV RX12 241 kX12_takesOut 3 12 := ⟨List.mem_of_getElem? (i := 1403) (by decide +kernel), mX12_takesOut, vX12_takesOut, _, rfl, rfl⟩
theorem cL_71 : fp_CV RL 71 kX12_slip 3 12 := ⟨List.mem_of_getElem? (i := 1407) (by decide +kernel), mX12_slip, vX12_slip, _, rfl, rfl⟩
theorem cL_76 : fp_CV RL 76 kX12_come 4 12 := ⟨List.mem_of_getElem? (i := 1411) (by decide +kernel), mX12_come, vX12_come, _, rfl, rfl⟩
theorem cX12_253 : fp_CV RX12 253 kX12_comes 4 12 := ⟨List.mem_of_getElem? (i := 1415) (by decide +kernel), mX12_comes, vX12_comes, _, rfl, rfl⟩
theorem cL_80 : fp_CV RL 80 kX12_cut 1 12 := ⟨List.mem_of_getElem? (i := 1420) (by decide +kernel), mX12_cut, vX12_cut, _, rfl, rfl⟩
theorem cL_84 : fp_CV RL 84 kX12_go 1 12 := ⟨List.mem_of_getElem? (i := 1424) (by decide +kernel), mX12_go, vX12_go, _, rfl, rfl⟩
theorem cX12_261 : fp_CV RX12 261 kX12_happens 2 12 := ⟨List.mem_of_getElem? (i := 1428) (by decide +kernel), mX12_happens, vX12_happens, _, rfl, rfl⟩
theorem cX12_257 : fp_CV RX12 257 kX12_visits2 3 12 := ⟨List.mem_of_getElem? (i := 1432) (by decide +kernel), mX12_visits2, vX12_visits2, _, rfl, rfl⟩
theorem cL_88 : fp_CV RL 88 kX12_after 2 12 := ⟨List.mem_of_getElem? (i := 1436) (by decide +kernel), mX12_after, vX12_after, _, rfl, rfl⟩
theorem cX12_268 : fp_CV RX12 268 kX12_runs 1 12 := ⟨List.mem_of_getElem? (i := 1440) (by decide +kernel), mX12_runs, vX12_runs, _, rfl, rfl⟩
theorem cX12_265 : fp_CV RX12 265 kX12_copies 2 12 := ⟨List.mem_of_getElem? (i := 1444) (by decide +kernel), mX12_copies, vX12_copies, _, rfl, rfl⟩
theorem cL_92 : fp_CV RL 92 kX12_gains 2 12 := ⟨List.mem_of_getElem? (i := 1448) (by decide +kernel), mX12_gains, vX12_gains, _, rfl, rfl⟩
theorem cL_96 : fp_CV RL 96 kX12_vain 0 12 := ⟨List.mem_of_getElem? (i := 1452) (by decide +kernel), mX12_vain, vX12_vain, _, rfl, rfl⟩
theorem cL_100 : fp_CV RL 100 kX12_lost 1 12 := ⟨List.mem_of_getElem? (i := 1456) (by decide +kernel), mX12_lost, vX12_lost, _, rfl, rfl⟩
theorem cL_104 : fp_CV RL 104 kX12_since 2 12 := ⟨List.mem_of_getElem? (i := 1460) (by decide +kernel), mX12_since, vX12_since, _, rfl, rfl⟩
theorem cL_108 : fp_CV RL 108 kX12_extra 3 12 := ⟨List.mem_of_getElem? (i := 1464) (by decide +kernel), mX12_extra, vX12_extra, _, rfl, rfl⟩
theorem cL_112 : fp_CV RL 112 kX12_aim 2 12 := ⟨List.mem_of_getElem? (i := 1468) (by decide +kernel), mX12_aim, vX12_aim, _, rfl, rfl⟩
theorem cL_116 : fp_CV RL 116 kX12_trick 4 12 := ⟨List.mem_of_getElem? (i := 1472) (by decide +kernel), mX12_trick, vX12_trick, _, rfl, rfl⟩
theorem cX12_273 : fp_CV RX12 273 kX12_isTrick 6 12 := ⟨List.mem_of_getElem? (i := 1477) (by decide +kernel), mX12_isTrick, vX12_isTrick, _, rfl, rfl⟩
theorem cL_120 : fp_CV RL 120 kX12_most 2 12 := ⟨List.mem_of_getElem? (i := 1481) (by decide +kernel), mX12_most, vX12_most, _, rfl, rfl⟩
theorem cX12_280 : fp_CV RX12 280 kX12_isOwn 2 12 := ⟨List.mem_of_getElem? (i := 1485) (by decide +kernel), mX12_isOwn, vX12_isOwn, _, rfl, rfl⟩
theorem cX12_277 : fp_CV RX12 277 kX12_saves 1 12 := ⟨List.mem_of_getElem? (i := 1489) (by decide +kernel), mX12_saves, vX12_saves, _, rfl, rfl⟩
theorem cX12_283 : fp_CV RX12 283 kX12_runsFrom 2 12 := ⟨List.mem_of_getElem? (i := 1493) (by decide +kernel), mX12_runsFrom, vX12_runsFrom, _, rfl, rfl⟩
theorem cX12_286 : fp_CV RX12 286 kX12_nextLines 1 12 := ⟨List.mem_of_getElem? (i := 1497) (by decide +kernel), mX12_nextLines, vX12_nextLines, _, rfl, rfl⟩
theorem cL_125 : fp_CV RL 125 kX12_odds 3 12 := ⟨List.mem_of_getElem? (i := 1501) (by decide +kernel), mX12_odds, vX12_odds, _, rfl, rfl⟩
theorem cX12_297 : fp_CV RX12 297 kX12_layChances 1 12 := ⟨List.mem_of_getElem? (i := 1507) (by decide +kernel), mX12_layChances, vX12_layChances, _, rfl, rfl⟩
theorem cX12_300 : fp_CS RX12 300 kX12_lowest 3 := ⟨List.mem_of_getElem? (i := 1511) (by decide +kernel), mX12_lowest, sX12_lowest⟩
theorem cL_129 : fp_CV RL 129 kX12_likeliest 1 12 := ⟨List.mem_of_getElem? (i := 1514) (by decide +kernel), mX12_likeliest, vX12_likeliest, _, rfl, rfl⟩
theorem cL_134 : fp_CV RL 134 kX12_duel 6 12 := ⟨List.mem_of_getElem? (i := 1518) (by decide +kernel), mX12_duel, vX12_duel, _, rfl, rfl⟩
theorem cX12_306 : fp_CV RX12 306 kX12_plays 6 12 := ⟨List.mem_of_getElem? (i := 1523) (by decide +kernel), mX12_plays, vX12_plays, _, rfl, rfl⟩
theorem cL_138 : fp_CV RL 138 kX12_noted 1 12 := ⟨List.mem_of_getElem? (i := 1527) (by decide +kernel), mX12_noted, vX12_noted, _, rfl, rfl⟩
theorem cL_142 : fp_CV RL 142 kX12_forget 0 12 := ⟨List.mem_of_getElem? (i := 1531) (by decide +kernel), mX12_forget, vX12_forget, _, rfl, rfl⟩
theorem cL_146 : fp_CV RL 146 kX12_orders 2 12 := ⟨List.mem_of_getElem? (i := 1535) (by decide +kernel), mX12_orders, vX12_orders, _, rfl, rfl⟩
theorem cX12_312 : fp_CV RX12 312 kX12_fitsRow 2 12 := ⟨List.mem_of_getElem? (i := 1540) (by decide +kernel), mX12_fitsRow, vX12_fitsRow, _, rfl, rfl⟩
theorem cX12_315 : fp_CV RX12 315 kX12_nextRow 1 12 := ⟨List.mem_of_getElem? (i := 1544) (by decide +kernel), mX12_nextRow, vX12_nextRow, _, rfl, rfl⟩
theorem cL_150 : fp_CV RL 150 kX12_ring 1 12 := ⟨List.mem_of_getElem? (i := 1548) (by decide +kernel), mX12_ring, vX12_ring, _, rfl, rfl⟩
theorem cX12_324 : fp_CV RX12 324 kX12_layRings 0 12 := ⟨List.mem_of_getElem? (i := 1552) (by decide +kernel), mX12_layRings, vX12_layRings, _, rfl, rfl⟩
theorem cX12_321 : fp_CV RX12 321 kX12_ringOf 2 12 := ⟨List.mem_of_getElem? (i := 1556) (by decide +kernel), mX12_ringOf, vX12_ringOf, _, rfl, rfl⟩
theorem cX12_318 : fp_CV RX12 318 kX12_likes 2 12 := ⟨List.mem_of_getElem? (i := 1560) (by decide +kernel), mX12_likes, vX12_likes, _, rfl, rfl⟩
theorem cL_154 : fp_CV RL 154 kX12_with 1 12 := ⟨List.mem_of_getElem? (i := 1564) (by decide +kernel), mX12_with, vX12_with, _, rfl, rfl⟩
theorem cL_158 : fp_CV RL 158 kX12_join 1 12 := ⟨List.mem_of_getElem? (i := 1568) (by decide +kernel), mX12_join, vX12_join, _, rfl, rfl⟩
theorem cL_162 : fp_CV RL 162 kX12_keep 1 12 := ⟨List.mem_of_getElem? (i := 1572) (by decide +kernel), mX12_keep, vX12_keep, _, rfl, rfl⟩
theorem cX12_327 : fp_CV RX12 327 kX12_copiesAll 2 12 := ⟨List.mem_of_getElem? (i := 1576) (by decide +kernel), mX12_copiesAll, vX12_copiesAll, _, rfl, rfl⟩
theorem cL_166 : fp_CV RL 166 kX12_back 1 12 := ⟨List.mem_of_getElem? (i := 1580) (by decide +kernel), mX12_back, vX12_back, _, rfl, rfl⟩
theorem cL_170 : fp_CV RL 170 kX12_sheet 3 12 := ⟨List.mem_of_getElem? (i := 1584) (by decide +kernel), mX12_sheet, vX12_sheet, _, rfl, rfl⟩
theorem cL_174 : fp_CV RL 174 kX12_lay 3 12 := ⟨List.mem_of_getElem? (i := 1588) (by decide +kernel), mX12_lay, vX12_lay, _, rfl, rfl⟩
theorem cL_178 : fp_CV RL 178 kX12_read 4 12 := ⟨List.mem_of_getElem? (i := 1592) (by decide +kernel), mX12_read, vX12_read, _, rfl, rfl⟩
theorem cL_182 : fp_CV RL 182 kX12_torn 0 12 := ⟨List.mem_of_getElem? (i := 1596) (by decide +kernel), mX12_torn, vX12_torn, _, rfl, rfl⟩
theorem cL_186 : fp_CV RL 186 kX12_count 1 12 := ⟨List.mem_of_getElem? (i := 1600) (by decide +kernel), mX12_count, vX12_count, _, rfl, rfl⟩
theorem aX1_31 : Cond.methodLink RX1 31 arraycopyName ∈ lw_tbl := List.mem_of_getElem? (i := 657) (by decide +kernel)
theorem aX5_30 : Cond.methodLink RX5 30 arraycopyName ∈ lw_tbl := List.mem_of_getElem? (i := 664) (by decide +kernel)
theorem aX10_28 : Cond.methodLink RX10 28 arraycopyName ∈ lw_tbl := List.mem_of_getElem? (i := 669) (by decide +kernel)
theorem aX8_98 : Cond.methodLink RX8 98 arraycopyName ∈ lw_tbl := List.mem_of_getElem? (i := 869) (by decide +kernel)
theorem lX11_252 : Cond.constantLong RX11 252 (-1) ∈ lw_tbl := List.mem_of_getElem? (i := 876) (by decide +kernel)
theorem lX11_254 : Cond.constantLong RX11 254 (-2) ∈ lw_tbl := List.mem_of_getElem? (i := 877) (by decide +kernel)
theorem lX8_111 : Cond.constantLong RX8 111 (10) ∈ lw_tbl := List.mem_of_getElem? (i := 889) (by decide +kernel)
theorem aX0_31 : Cond.methodLink RX0 31 arraycopyName ∈ lw_tbl := List.mem_of_getElem? (i := 905) (by decide +kernel)
theorem aX4_36 : Cond.methodLink RX4 36 arraycopyName ∈ lw_tbl := List.mem_of_getElem? (i := 960) (by decide +kernel)
theorem aX3_19 : Cond.methodLink RX3 19 arraycopyName ∈ lw_tbl := List.mem_of_getElem? (i := 1047) (by decide +kernel)
theorem lX12_120 : Cond.constantLong RX12 120 (97) ∈ lw_tbl := List.mem_of_getElem? (i := 1268) (by decide +kernel)
theorem lX12_122 : Cond.constantLong RX12 122 (122) ∈ lw_tbl := List.mem_of_getElem? (i := 1269) (by decide +kernel)
theorem lX12_124 : Cond.constantLong RX12 124 (48) ∈ lw_tbl := List.mem_of_getElem? (i := 1270) (by decide +kernel)
theorem lX12_126 : Cond.constantLong RX12 126 (57) ∈ lw_tbl := List.mem_of_getElem? (i := 1271) (by decide +kernel)
theorem lX12_162 : Cond.constantLong RX12 162 (4) ∈ lw_tbl := List.mem_of_getElem? (i := 1284) (by decide +kernel)
theorem lX12_212 : Cond.constantLong RX12 212 (10) ∈ lw_tbl := List.mem_of_getElem? (i := 1333) (by decide +kernel)
theorem lX12_214 : Cond.constantLong RX12 214 (13) ∈ lw_tbl := List.mem_of_getElem? (i := 1334) (by decide +kernel)
theorem lX12_196 : Cond.constantLong RX12 196 (3) ∈ lw_tbl := List.mem_of_getElem? (i := 1359) (by decide +kernel)
theorem lX12_251 : Cond.constantLong RX12 251 (99) ∈ lw_tbl := List.mem_of_getElem? (i := 1419) (by decide +kernel)
theorem lX12_271 : Cond.constantLong RX12 271 (2) ∈ lw_tbl := List.mem_of_getElem? (i := 1476) (by decide +kernel)
theorem lX12_293 : Cond.constantLong RX12 293 (-1) ∈ lw_tbl := List.mem_of_getElem? (i := 1505) (by decide +kernel)
theorem lX12_295 : Cond.constantLong RX12 295 (-2) ∈ lw_tbl := List.mem_of_getElem? (i := 1506) (by decide +kernel)
theorem lX12_304 : Cond.constantLong RX12 304 (6) ∈ lw_tbl := List.mem_of_getElem? (i := 1522) (by decide +kernel)
theorem lX12_310 : Cond.constantLong RX12 310 (17) ∈ lw_tbl := List.mem_of_getElem? (i := 1539) (by decide +kernel)
theorem lL_13 : Cond.constantLong RL 13 (4294967295) ∈ lw_tbl := List.mem_of_getElem? (i := 1604) (by decide +kernel)
