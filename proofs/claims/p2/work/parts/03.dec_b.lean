theorem dX6_init_0 : decode cX6_init 0 = .ok (.aload_n 0, 1) := by decide +kernel
theorem dX6_init_1 : decode cX6_init 1 = .ok (.invokespecial 3, 3) := by decide +kernel
theorem dX6_init_4 : decode cX6_init 4 = .ok (.aload_n 0, 1) := by decide +kernel
theorem dX6_init_5 : decode cX6_init 5 = .ok (.new 9, 3) := by decide +kernel
theorem dX6_init_8 : decode cX6_init 8 = .ok (.dup, 1) := by decide +kernel
theorem dX6_init_9 : decode cX6_init 9 = .ok (.invokespecial 11, 3) := by decide +kernel
theorem dX6_init_12 : decode cX6_init 12 = .ok (.putfield 12, 3) := by decide +kernel
theorem dX6_init_15 : decode cX6_init 15 = .ok (.aload_n 0, 1) := by decide +kernel
theorem dX6_init_16 : decode cX6_init 16 = .ok (.new 18, 3) := by decide +kernel
theorem dX6_init_19 : decode cX6_init 19 = .ok (.dup, 1) := by decide +kernel
theorem dX6_init_20 : decode cX6_init 20 = .ok (.invokespecial 20, 3) := by decide +kernel
theorem dX6_init_23 : decode cX6_init 23 = .ok (.putfield 21, 3) := by decide +kernel
theorem dX6_init_26 : decode cX6_init 26 = .ok (.aload_n 0, 1) := by decide +kernel
theorem dX6_init_27 : decode cX6_init 27 = .ok (.new 25, 3) := by decide +kernel
theorem dX6_init_30 : decode cX6_init 30 = .ok (.dup, 1) := by decide +kernel
theorem dX6_init_31 : decode cX6_init 31 = .ok (.invokespecial 27, 3) := by decide +kernel
theorem dX6_init_34 : decode cX6_init 34 = .ok (.putfield 28, 3) := by decide +kernel
theorem dX6_init_37 : decode cX6_init 37 = .ok (.aload_n 0, 1) := by decide +kernel
theorem dX6_init_38 : decode cX6_init 38 = .ok (.iconst 0, 1) := by decide +kernel
theorem dX6_init_39 : decode cX6_init 39 = .ok (.newarray .byte, 2) := by decide +kernel
theorem dX6_init_41 : decode cX6_init 41 = .ok (.putfield 32, 3) := by decide +kernel
theorem dX6_init_44 : decode cX6_init 44 = .ok (.return_, 1) := by decide +kernel
theorem dX6_readText_0 : decode cX6_readText 0 = .ok (.aload_n 0, 1) := by decide +kernel
theorem dX6_readText_1 : decode cX6_readText 1 = .ok (.aload_n 1, 1) := by decide +kernel
theorem dX6_readText_2 : decode cX6_readText 2 = .ok (.putfield 32, 3) := by decide +kernel
theorem dX6_readText_5 : decode cX6_readText 5 = .ok (.aload_n 0, 1) := by decide +kernel
theorem dX6_readText_6 : decode cX6_readText 6 = .ok (.iload_n 2, 1) := by decide +kernel
theorem dX6_readText_7 : decode cX6_readText 7 = .ok (.putfield 36, 3) := by decide +kernel
theorem dX6_readText_10 : decode cX6_readText 10 = .ok (.aload_n 0, 1) := by decide +kernel
theorem dX6_readText_11 : decode cX6_readText 11 = .ok (.iconst 0, 1) := by decide +kernel
theorem dX6_readText_12 : decode cX6_readText 12 = .ok (.putfield 40, 3) := by decide +kernel
theorem dX6_readText_15 : decode cX6_readText 15 = .ok (.aload_n 0, 1) := by decide +kernel
theorem dX6_readText_16 : decode cX6_readText 16 = .ok (.iconst 0, 1) := by decide +kernel
theorem dX6_readText_17 : decode cX6_readText 17 = .ok (.putfield 43, 3) := by decide +kernel
theorem dX6_readText_20 : decode cX6_readText 20 = .ok (.aload_n 0, 1) := by decide +kernel
theorem dX6_readText_21 : decode cX6_readText 21 = .ok (.iconst 0, 1) := by decide +kernel
theorem dX6_readText_22 : decode cX6_readText 22 = .ok (.putfield 46, 3) := by decide +kernel
theorem dX6_readText_25 : decode cX6_readText 25 = .ok (.aload_n 0, 1) := by decide +kernel
theorem dX6_readText_26 : decode cX6_readText 26 = .ok (.iconst 0, 1) := by decide +kernel
theorem dX6_readText_27 : decode cX6_readText 27 = .ok (.putfield 49, 3) := by decide +kernel
theorem dX6_readText_30 : decode cX6_readText 30 = .ok (.aload_n 0, 1) := by decide +kernel
theorem dX6_readText_31 : decode cX6_readText 31 = .ok (.getfield 12, 3) := by decide +kernel
theorem dX6_readText_34 : decode cX6_readText 34 = .ok (.invokevirtual 53, 3) := by decide +kernel
theorem dX6_readText_37 : decode cX6_readText 37 = .ok (.aload_n 0, 1) := by decide +kernel
theorem dX6_readText_38 : decode cX6_readText 38 = .ok (.getfield 21, 3) := by decide +kernel
theorem dX6_readText_41 : decode cX6_readText 41 = .ok (.invokevirtual 56, 3) := by decide +kernel
theorem dX6_readText_44 : decode cX6_readText 44 = .ok (.aload_n 0, 1) := by decide +kernel
theorem dX6_readText_45 : decode cX6_readText 45 = .ok (.getfield 28, 3) := by decide +kernel
theorem dX6_readText_48 : decode cX6_readText 48 = .ok (.iconst 0, 1) := by decide +kernel
theorem dX6_readText_49 : decode cX6_readText 49 = .ok (.putfield 57, 3) := by decide +kernel
theorem dX6_readText_52 : decode cX6_readText 52 = .ok (.iconst 0, 1) := by decide +kernel
theorem dX6_readText_53 : decode cX6_readText 53 = .ok (.istore_n 3, 1) := by decide +kernel
theorem dX6_readText_54 : decode cX6_readText 54 = .ok (.iconst 0, 1) := by decide +kernel
theorem dX6_readText_55 : decode cX6_readText 55 = .ok (.istore 4, 2) := by decide +kernel
theorem dX6_readText_57 : decode cX6_readText 57 = .ok (.iload 4, 2) := by decide +kernel
theorem dX6_readText_59 : decode cX6_readText 59 = .ok (.aload_n 0, 1) := by decide +kernel
theorem dX6_readText_60 : decode cX6_readText 60 = .ok (.getfield 36, 3) := by decide +kernel
theorem dX6_readText_63 : decode cX6_readText 63 = .ok (.if_icmp .gt 36, 3) := by decide +kernel
theorem dX6_readText_66 : decode cX6_readText 66 = .ok (.aload_n 0, 1) := by decide +kernel
theorem dX6_readText_67 : decode cX6_readText 67 = .ok (.invokevirtual 60, 3) := by decide +kernel
theorem dX6_readText_70 : decode cX6_readText 70 = .ok (.ifCond .eq 29, 3) := by decide +kernel
theorem dX6_readText_73 : decode cX6_readText 73 = .ok (.aload_n 0, 1) := by decide +kernel
theorem dX6_readText_74 : decode cX6_readText 74 = .ok (.getfield 64, 3) := by decide +kernel
theorem dX6_readText_77 : decode cX6_readText 77 = .ok (.ifCond .eq 22, 3) := by decide +kernel
theorem dX6_readText_80 : decode cX6_readText 80 = .ok (.aload_n 0, 1) := by decide +kernel
theorem dX6_readText_81 : decode cX6_readText 81 = .ok (.invokevirtual 67, 3) := by decide +kernel
theorem dX6_readText_84 : decode cX6_readText 84 = .ok (.ifCond .ne 6, 3) := by decide +kernel
theorem dX6_readText_87 : decode cX6_readText 87 = .ok (.goto 12, 3) := by decide +kernel
theorem dX6_readText_90 : decode cX6_readText 90 = .ok (.iinc 3 1, 3) := by decide +kernel
theorem dX6_readText_93 : decode cX6_readText 93 = .ok (.iinc 4 1, 3) := by decide +kernel
theorem dX6_readText_96 : decode cX6_readText 96 = .ok (.goto (-39), 3) := by decide +kernel
theorem dX6_readText_99 : decode cX6_readText 99 = .ok (.aload_n 0, 1) := by decide +kernel
theorem dX6_readText_100 : decode cX6_readText 100 = .ok (.getfield 43, 3) := by decide +kernel
theorem dX6_readText_103 : decode cX6_readText 103 = .ok (.ifCond .ne 7, 3) := by decide +kernel
theorem dX6_readText_106 : decode cX6_readText 106 = .ok (.aload_n 0, 1) := by decide +kernel
theorem dX6_readText_107 : decode cX6_readText 107 = .ok (.invokevirtual 70, 3) := by decide +kernel
theorem dX6_readText_110 : decode cX6_readText 110 = .ok (.iload_n 3, 1) := by decide +kernel
theorem dX6_readText_111 : decode cX6_readText 111 = .ok (.ireturn, 1) := by decide +kernel
theorem dX6_refuse_0 : decode cX6_refuse 0 = .ok (.aload_n 0, 1) := by decide +kernel
theorem dX6_refuse_1 : decode cX6_refuse 1 = .ok (.iload_n 1, 1) := by decide +kernel
theorem dX6_refuse_2 : decode cX6_refuse 2 = .ok (.putfield 43, 3) := by decide +kernel
theorem dX6_refuse_5 : decode cX6_refuse 5 = .ok (.aload_n 0, 1) := by decide +kernel
theorem dX6_refuse_6 : decode cX6_refuse 6 = .ok (.iload_n 2, 1) := by decide +kernel
theorem dX6_refuse_7 : decode cX6_refuse 7 = .ok (.putfield 73, 3) := by decide +kernel
theorem dX6_refuse_10 : decode cX6_refuse 10 = .ok (.iconst 0, 1) := by decide +kernel
theorem dX6_refuse_11 : decode cX6_refuse 11 = .ok (.ireturn, 1) := by decide +kernel
theorem dX6_isLetter_0 : decode cX6_isLetter 0 = .ok (.iload_n 0, 1) := by decide +kernel
theorem dX6_isLetter_1 : decode cX6_isLetter 1 = .ok (.bipush 97, 2) := by decide +kernel
theorem dX6_isLetter_3 : decode cX6_isLetter 3 = .ok (.if_icmp .lt 13, 3) := by decide +kernel
theorem dX6_isLetter_6 : decode cX6_isLetter 6 = .ok (.iload_n 0, 1) := by decide +kernel
theorem dX6_isLetter_7 : decode cX6_isLetter 7 = .ok (.bipush 122, 2) := by decide +kernel
theorem dX6_isLetter_9 : decode cX6_isLetter 9 = .ok (.if_icmp .gt 7, 3) := by decide +kernel
theorem dX6_isLetter_12 : decode cX6_isLetter 12 = .ok (.iconst 1, 1) := by decide +kernel
theorem dX6_isLetter_13 : decode cX6_isLetter 13 = .ok (.goto 4, 3) := by decide +kernel
theorem dX6_isLetter_16 : decode cX6_isLetter 16 = .ok (.iconst 0, 1) := by decide +kernel
theorem dX6_isLetter_17 : decode cX6_isLetter 17 = .ok (.ireturn, 1) := by decide +kernel
theorem dX6_isFigure_0 : decode cX6_isFigure 0 = .ok (.iload_n 0, 1) := by decide +kernel
theorem dX6_isFigure_1 : decode cX6_isFigure 1 = .ok (.bipush 48, 2) := by decide +kernel
theorem dX6_isFigure_3 : decode cX6_isFigure 3 = .ok (.if_icmp .lt 13, 3) := by decide +kernel
theorem dX6_isFigure_6 : decode cX6_isFigure 6 = .ok (.iload_n 0, 1) := by decide +kernel
theorem dX6_isFigure_7 : decode cX6_isFigure 7 = .ok (.bipush 57, 2) := by decide +kernel
theorem dX6_isFigure_9 : decode cX6_isFigure 9 = .ok (.if_icmp .gt 7, 3) := by decide +kernel
theorem dX6_isFigure_12 : decode cX6_isFigure 12 = .ok (.iconst 1, 1) := by decide +kernel
theorem dX6_isFigure_13 : decode cX6_isFigure 13 = .ok (.goto 4, 3) := by decide +kernel
theorem dX6_isFigure_16 : decode cX6_isFigure 16 = .ok (.iconst 0, 1) := by decide +kernel
theorem dX6_isFigure_17 : decode cX6_isFigure 17 = .ok (.ireturn, 1) := by decide +kernel
theorem dX6_step_0 : decode cX6_step 0 = .ok (.aload_n 0, 1) := by decide +kernel
theorem dX6_step_1 : decode cX6_step 1 = .ok (.getfield 40, 3) := by decide +kernel
theorem dX6_step_4 : decode cX6_step 4 = .ok (.aload_n 0, 1) := by decide +kernel
theorem dX6_step_5 : decode cX6_step 5 = .ok (.getfield 36, 3) := by decide +kernel
theorem dX6_step_8 : decode cX6_step 8 = .ok (.if_icmp .ge 30, 3) := by decide +kernel
theorem dX6_step_11 : decode cX6_step 11 = .ok (.aload_n 0, 1) := by decide +kernel
theorem dX6_step_12 : decode cX6_step 12 = .ok (.getfield 32, 3) := by decide +kernel
theorem dX6_step_15 : decode cX6_step 15 = .ok (.aload_n 0, 1) := by decide +kernel
theorem dX6_step_16 : decode cX6_step 16 = .ok (.getfield 40, 3) := by decide +kernel
theorem dX6_step_19 : decode cX6_step 19 = .ok (.baload, 1) := by decide +kernel
theorem dX6_step_20 : decode cX6_step 20 = .ok (.bipush 32, 2) := by decide +kernel
theorem dX6_step_22 : decode cX6_step 22 = .ok (.if_icmp .ne 16, 3) := by decide +kernel
theorem dX6_step_25 : decode cX6_step 25 = .ok (.aload_n 0, 1) := by decide +kernel
theorem dX6_step_26 : decode cX6_step 26 = .ok (.dup, 1) := by decide +kernel
theorem dX6_step_27 : decode cX6_step 27 = .ok (.getfield 40, 3) := by decide +kernel
theorem dX6_step_30 : decode cX6_step 30 = .ok (.iconst 1, 1) := by decide +kernel
theorem dX6_step_31 : decode cX6_step 31 = .ok (.iadd, 1) := by decide +kernel
theorem dX6_step_32 : decode cX6_step 32 = .ok (.putfield 40, 3) := by decide +kernel
theorem dX6_step_35 : decode cX6_step 35 = .ok (.goto (-35), 3) := by decide +kernel
theorem dX6_step_38 : decode cX6_step 38 = .ok (.aload_n 0, 1) := by decide +kernel
theorem dX6_step_39 : decode cX6_step 39 = .ok (.aload_n 0, 1) := by decide +kernel
theorem dX6_step_40 : decode cX6_step 40 = .ok (.getfield 40, 3) := by decide +kernel
theorem dX6_step_43 : decode cX6_step 43 = .ok (.putfield 76, 3) := by decide +kernel
theorem dX6_step_46 : decode cX6_step 46 = .ok (.aload_n 0, 1) := by decide +kernel
theorem dX6_step_47 : decode cX6_step 47 = .ok (.getfield 40, 3) := by decide +kernel
theorem dX6_step_50 : decode cX6_step 50 = .ok (.aload_n 0, 1) := by decide +kernel
theorem dX6_step_51 : decode cX6_step 51 = .ok (.getfield 36, 3) := by decide +kernel
theorem dX6_step_54 : decode cX6_step 54 = .ok (.if_icmp .lt 10, 3) := by decide +kernel
theorem dX6_step_57 : decode cX6_step 57 = .ok (.aload_n 0, 1) := by decide +kernel
theorem dX6_step_58 : decode cX6_step 58 = .ok (.iconst 0, 1) := by decide +kernel
theorem dX6_step_59 : decode cX6_step 59 = .ok (.putfield 64, 3) := by decide +kernel
theorem dX6_step_62 : decode cX6_step 62 = .ok (.iconst 1, 1) := by decide +kernel
theorem dX6_step_63 : decode cX6_step 63 = .ok (.ireturn, 1) := by decide +kernel
theorem dX6_step_64 : decode cX6_step 64 = .ok (.aload_n 0, 1) := by decide +kernel
theorem dX6_step_65 : decode cX6_step 65 = .ok (.getfield 32, 3) := by decide +kernel
theorem dX6_step_68 : decode cX6_step 68 = .ok (.aload_n 0, 1) := by decide +kernel
theorem dX6_step_69 : decode cX6_step 69 = .ok (.getfield 40, 3) := by decide +kernel
theorem dX6_step_72 : decode cX6_step 72 = .ok (.baload, 1) := by decide +kernel
theorem dX6_step_73 : decode cX6_step 73 = .ok (.invokestatic 79, 3) := by decide +kernel
theorem dX6_step_76 : decode cX6_step 76 = .ok (.ifCond .eq 49, 3) := by decide +kernel
theorem dX6_step_79 : decode cX6_step 79 = .ok (.aload_n 0, 1) := by decide +kernel
theorem dX6_step_80 : decode cX6_step 80 = .ok (.iconst 1, 1) := by decide +kernel
theorem dX6_step_81 : decode cX6_step 81 = .ok (.putfield 64, 3) := by decide +kernel
theorem dX6_step_84 : decode cX6_step 84 = .ok (.aload_n 0, 1) := by decide +kernel
theorem dX6_step_85 : decode cX6_step 85 = .ok (.getfield 40, 3) := by decide +kernel
theorem dX6_step_88 : decode cX6_step 88 = .ok (.aload_n 0, 1) := by decide +kernel
theorem dX6_step_89 : decode cX6_step 89 = .ok (.getfield 36, 3) := by decide +kernel
theorem dX6_step_92 : decode cX6_step 92 = .ok (.if_icmp .ge 31, 3) := by decide +kernel
theorem dX6_step_95 : decode cX6_step 95 = .ok (.aload_n 0, 1) := by decide +kernel
theorem dX6_step_96 : decode cX6_step 96 = .ok (.getfield 32, 3) := by decide +kernel
theorem dX6_step_99 : decode cX6_step 99 = .ok (.aload_n 0, 1) := by decide +kernel
theorem dX6_step_100 : decode cX6_step 100 = .ok (.getfield 40, 3) := by decide +kernel
theorem dX6_step_103 : decode cX6_step 103 = .ok (.baload, 1) := by decide +kernel
theorem dX6_step_104 : decode cX6_step 104 = .ok (.invokestatic 79, 3) := by decide +kernel
theorem dX6_step_107 : decode cX6_step 107 = .ok (.ifCond .eq 16, 3) := by decide +kernel
theorem dX6_step_110 : decode cX6_step 110 = .ok (.aload_n 0, 1) := by decide +kernel
theorem dX6_step_111 : decode cX6_step 111 = .ok (.dup, 1) := by decide +kernel
theorem dX6_step_112 : decode cX6_step 112 = .ok (.getfield 40, 3) := by decide +kernel
theorem dX6_step_115 : decode cX6_step 115 = .ok (.iconst 1, 1) := by decide +kernel
theorem dX6_step_116 : decode cX6_step 116 = .ok (.iadd, 1) := by decide +kernel
theorem dX6_step_117 : decode cX6_step 117 = .ok (.putfield 40, 3) := by decide +kernel
theorem dX6_step_120 : decode cX6_step 120 = .ok (.goto (-36), 3) := by decide +kernel
theorem dX6_step_123 : decode cX6_step 123 = .ok (.iconst 1, 1) := by decide +kernel
theorem dX6_step_124 : decode cX6_step 124 = .ok (.ireturn, 1) := by decide +kernel
theorem dX6_step_125 : decode cX6_step 125 = .ok (.aload_n 0, 1) := by decide +kernel
theorem dX6_step_126 : decode cX6_step 126 = .ok (.getfield 32, 3) := by decide +kernel
theorem dX6_step_129 : decode cX6_step 129 = .ok (.aload_n 0, 1) := by decide +kernel
theorem dX6_step_130 : decode cX6_step 130 = .ok (.getfield 40, 3) := by decide +kernel
theorem dX6_step_133 : decode cX6_step 133 = .ok (.baload, 1) := by decide +kernel
theorem dX6_step_134 : decode cX6_step 134 = .ok (.invokestatic 83, 3) := by decide +kernel
theorem dX6_step_137 : decode cX6_step 137 = .ok (.ifCond .eq 107, 3) := by decide +kernel
theorem dX6_step_140 : decode cX6_step 140 = .ok (.aload_n 0, 1) := by decide +kernel
theorem dX6_step_141 : decode cX6_step 141 = .ok (.iconst 2, 1) := by decide +kernel
theorem dX6_step_142 : decode cX6_step 142 = .ok (.putfield 64, 3) := by decide +kernel
theorem dX6_step_145 : decode cX6_step 145 = .ok (.aload_n 0, 1) := by decide +kernel
theorem dX6_step_146 : decode cX6_step 146 = .ok (.iconst 0, 1) := by decide +kernel
theorem dX6_step_147 : decode cX6_step 147 = .ok (.putfield 86, 3) := by decide +kernel
theorem dX6_step_150 : decode cX6_step 150 = .ok (.aload_n 0, 1) := by decide +kernel
theorem dX6_step_151 : decode cX6_step 151 = .ok (.getfield 40, 3) := by decide +kernel
theorem dX6_step_154 : decode cX6_step 154 = .ok (.aload_n 0, 1) := by decide +kernel
theorem dX6_step_155 : decode cX6_step 155 = .ok (.getfield 36, 3) := by decide +kernel
theorem dX6_step_158 : decode cX6_step 158 = .ok (.if_icmp .ge 55, 3) := by decide +kernel
theorem dX6_step_161 : decode cX6_step 161 = .ok (.aload_n 0, 1) := by decide +kernel
theorem dX6_step_162 : decode cX6_step 162 = .ok (.getfield 32, 3) := by decide +kernel
theorem dX6_step_165 : decode cX6_step 165 = .ok (.aload_n 0, 1) := by decide +kernel
theorem dX6_step_166 : decode cX6_step 166 = .ok (.getfield 40, 3) := by decide +kernel
theorem dX6_step_169 : decode cX6_step 169 = .ok (.baload, 1) := by decide +kernel
theorem dX6_step_170 : decode cX6_step 170 = .ok (.invokestatic 83, 3) := by decide +kernel
theorem dX6_step_173 : decode cX6_step 173 = .ok (.ifCond .eq 40, 3) := by decide +kernel
theorem dX6_step_176 : decode cX6_step 176 = .ok (.aload_n 0, 1) := by decide +kernel
theorem dX6_step_177 : decode cX6_step 177 = .ok (.aload_n 0, 1) := by decide +kernel
theorem dX6_step_178 : decode cX6_step 178 = .ok (.getfield 86, 3) := by decide +kernel
theorem dX6_step_181 : decode cX6_step 181 = .ok (.bipush 10, 2) := by decide +kernel
theorem dX6_step_183 : decode cX6_step 183 = .ok (.imul, 1) := by decide +kernel
theorem dX6_step_184 : decode cX6_step 184 = .ok (.aload_n 0, 1) := by decide +kernel
theorem dX6_step_185 : decode cX6_step 185 = .ok (.getfield 32, 3) := by decide +kernel
theorem dX6_step_188 : decode cX6_step 188 = .ok (.aload_n 0, 1) := by decide +kernel
theorem dX6_step_189 : decode cX6_step 189 = .ok (.getfield 40, 3) := by decide +kernel
theorem dX6_step_192 : decode cX6_step 192 = .ok (.baload, 1) := by decide +kernel
theorem dX6_step_193 : decode cX6_step 193 = .ok (.iadd, 1) := by decide +kernel
theorem dX6_step_194 : decode cX6_step 194 = .ok (.bipush 48, 2) := by decide +kernel
theorem dX6_step_196 : decode cX6_step 196 = .ok (.isub, 1) := by decide +kernel
theorem dX6_step_197 : decode cX6_step 197 = .ok (.putfield 86, 3) := by decide +kernel
theorem dX6_step_200 : decode cX6_step 200 = .ok (.aload_n 0, 1) := by decide +kernel
theorem dX6_step_201 : decode cX6_step 201 = .ok (.dup, 1) := by decide +kernel
theorem dX6_step_202 : decode cX6_step 202 = .ok (.getfield 40, 3) := by decide +kernel
theorem dX6_step_205 : decode cX6_step 205 = .ok (.iconst 1, 1) := by decide +kernel
theorem dX6_step_206 : decode cX6_step 206 = .ok (.iadd, 1) := by decide +kernel
theorem dX6_step_207 : decode cX6_step 207 = .ok (.putfield 40, 3) := by decide +kernel
theorem dX6_step_210 : decode cX6_step 210 = .ok (.goto (-60), 3) := by decide +kernel
theorem dX6_step_213 : decode cX6_step 213 = .ok (.aload_n 0, 1) := by decide +kernel
theorem dX6_step_214 : decode cX6_step 214 = .ok (.getfield 40, 3) := by decide +kernel
theorem dX6_step_217 : decode cX6_step 217 = .ok (.aload_n 0, 1) := by decide +kernel
theorem dX6_step_218 : decode cX6_step 218 = .ok (.getfield 76, 3) := by decide +kernel
theorem dX6_step_221 : decode cX6_step 221 = .ok (.isub, 1) := by decide +kernel
theorem dX6_step_222 : decode cX6_step 222 = .ok (.iconst 2, 1) := by decide +kernel
theorem dX6_step_223 : decode cX6_step 223 = .ok (.if_icmp .le 15, 3) := by decide +kernel
theorem dX6_step_226 : decode cX6_step 226 = .ok (.aload_n 0, 1) := by decide +kernel
theorem dX6_step_227 : decode cX6_step 227 = .ok (.iconst 1, 1) := by decide +kernel
theorem dX6_step_228 : decode cX6_step 228 = .ok (.aload_n 0, 1) := by decide +kernel
theorem dX6_step_229 : decode cX6_step 229 = .ok (.getfield 76, 3) := by decide +kernel
theorem dX6_step_232 : decode cX6_step 232 = .ok (.invokevirtual 89, 3) := by decide +kernel
theorem dX6_step_235 : decode cX6_step 235 = .ok (.ifCond .eq 7, 3) := by decide +kernel
theorem dX6_step_238 : decode cX6_step 238 = .ok (.iconst 1, 1) := by decide +kernel
theorem dX6_step_239 : decode cX6_step 239 = .ok (.goto 4, 3) := by decide +kernel
theorem dX6_step_242 : decode cX6_step 242 = .ok (.iconst 0, 1) := by decide +kernel
theorem dX6_step_243 : decode cX6_step 243 = .ok (.ireturn, 1) := by decide +kernel
theorem dX6_step_244 : decode cX6_step 244 = .ok (.aload_n 0, 1) := by decide +kernel
theorem dX6_step_245 : decode cX6_step 245 = .ok (.iconst 3, 1) := by decide +kernel
theorem dX6_step_246 : decode cX6_step 246 = .ok (.putfield 64, 3) := by decide +kernel
theorem dX6_step_249 : decode cX6_step 249 = .ok (.aload_n 0, 1) := by decide +kernel
theorem dX6_step_250 : decode cX6_step 250 = .ok (.dup, 1) := by decide +kernel
theorem dX6_step_251 : decode cX6_step 251 = .ok (.getfield 40, 3) := by decide +kernel
theorem dX6_step_254 : decode cX6_step 254 = .ok (.iconst 1, 1) := by decide +kernel
theorem dX6_step_255 : decode cX6_step 255 = .ok (.iadd, 1) := by decide +kernel
theorem dX6_step_256 : decode cX6_step 256 = .ok (.putfield 40, 3) := by decide +kernel
theorem dX6_step_259 : decode cX6_step 259 = .ok (.aload_n 0, 1) := by decide +kernel
theorem dX6_step_260 : decode cX6_step 260 = .ok (.getfield 32, 3) := by decide +kernel
theorem dX6_step_263 : decode cX6_step 263 = .ok (.aload_n 0, 1) := by decide +kernel
theorem dX6_step_264 : decode cX6_step 264 = .ok (.getfield 76, 3) := by decide +kernel
theorem dX6_step_267 : decode cX6_step 267 = .ok (.baload, 1) := by decide +kernel
theorem dX6_step_268 : decode cX6_step 268 = .ok (.bipush 59, 2) := by decide +kernel
theorem dX6_step_270 : decode cX6_step 270 = .ok (.if_icmp .eq 15, 3) := by decide +kernel
theorem dX6_step_273 : decode cX6_step 273 = .ok (.aload_n 0, 1) := by decide +kernel
theorem dX6_step_274 : decode cX6_step 274 = .ok (.iconst 1, 1) := by decide +kernel
theorem dX6_step_275 : decode cX6_step 275 = .ok (.aload_n 0, 1) := by decide +kernel
theorem dX6_step_276 : decode cX6_step 276 = .ok (.getfield 76, 3) := by decide +kernel
theorem dX6_step_279 : decode cX6_step 279 = .ok (.invokevirtual 89, 3) := by decide +kernel
theorem dX6_step_282 : decode cX6_step 282 = .ok (.ifCond .eq 7, 3) := by decide +kernel
theorem dX6_step_285 : decode cX6_step 285 = .ok (.iconst 1, 1) := by decide +kernel
theorem dX6_step_286 : decode cX6_step 286 = .ok (.goto 4, 3) := by decide +kernel
theorem dX6_step_289 : decode cX6_step 289 = .ok (.iconst 0, 1) := by decide +kernel
theorem dX6_step_290 : decode cX6_step 290 = .ok (.ireturn, 1) := by decide +kernel
theorem dX6_isWord_0 : decode cX6_isWord 0 = .ok (.aload_n 0, 1) := by decide +kernel
theorem dX6_isWord_1 : decode cX6_isWord 1 = .ok (.getfield 64, 3) := by decide +kernel
theorem dX6_isWord_4 : decode cX6_isWord 4 = .ok (.iconst 1, 1) := by decide +kernel
theorem dX6_isWord_5 : decode cX6_isWord 5 = .ok (.if_icmp .ne 19, 3) := by decide +kernel
theorem dX6_isWord_8 : decode cX6_isWord 8 = .ok (.aload_n 0, 1) := by decide +kernel
theorem dX6_isWord_9 : decode cX6_isWord 9 = .ok (.getfield 40, 3) := by decide +kernel
theorem dX6_isWord_12 : decode cX6_isWord 12 = .ok (.aload_n 0, 1) := by decide +kernel
theorem dX6_isWord_13 : decode cX6_isWord 13 = .ok (.getfield 76, 3) := by decide +kernel
theorem dX6_isWord_16 : decode cX6_isWord 16 = .ok (.isub, 1) := by decide +kernel
theorem dX6_isWord_17 : decode cX6_isWord 17 = .ok (.aload_n 1, 1) := by decide +kernel
theorem dX6_isWord_18 : decode cX6_isWord 18 = .ok (.invokevirtual 93, 3) := by decide +kernel
theorem dX6_isWord_21 : decode cX6_isWord 21 = .ok (.if_icmp .eq 5, 3) := by decide +kernel
theorem dX6_isWord_24 : decode cX6_isWord 24 = .ok (.iconst 0, 1) := by decide +kernel
theorem dX6_isWord_25 : decode cX6_isWord 25 = .ok (.ireturn, 1) := by decide +kernel
theorem dX6_isWord_26 : decode cX6_isWord 26 = .ok (.iconst 0, 1) := by decide +kernel
theorem dX6_isWord_27 : decode cX6_isWord 27 = .ok (.istore_n 2, 1) := by decide +kernel
theorem dX6_isWord_28 : decode cX6_isWord 28 = .ok (.iload_n 2, 1) := by decide +kernel
theorem dX6_isWord_29 : decode cX6_isWord 29 = .ok (.aload_n 1, 1) := by decide +kernel
theorem dX6_isWord_30 : decode cX6_isWord 30 = .ok (.invokevirtual 93, 3) := by decide +kernel
theorem dX6_isWord_33 : decode cX6_isWord 33 = .ok (.if_icmp .ge 30, 3) := by decide +kernel
theorem dX6_isWord_36 : decode cX6_isWord 36 = .ok (.aload_n 0, 1) := by decide +kernel
theorem dX6_isWord_37 : decode cX6_isWord 37 = .ok (.getfield 32, 3) := by decide +kernel
theorem dX6_isWord_40 : decode cX6_isWord 40 = .ok (.aload_n 0, 1) := by decide +kernel
theorem dX6_isWord_41 : decode cX6_isWord 41 = .ok (.getfield 76, 3) := by decide +kernel
theorem dX6_isWord_44 : decode cX6_isWord 44 = .ok (.iload_n 2, 1) := by decide +kernel
theorem dX6_isWord_45 : decode cX6_isWord 45 = .ok (.iadd, 1) := by decide +kernel
theorem dX6_isWord_46 : decode cX6_isWord 46 = .ok (.baload, 1) := by decide +kernel
theorem dX6_isWord_47 : decode cX6_isWord 47 = .ok (.aload_n 1, 1) := by decide +kernel
theorem dX6_isWord_48 : decode cX6_isWord 48 = .ok (.iload_n 2, 1) := by decide +kernel
theorem dX6_isWord_49 : decode cX6_isWord 49 = .ok (.invokevirtual 98, 3) := by decide +kernel
theorem dX6_isWord_52 : decode cX6_isWord 52 = .ok (.if_icmp .eq 5, 3) := by decide +kernel
theorem dX6_isWord_55 : decode cX6_isWord 55 = .ok (.iconst 0, 1) := by decide +kernel
theorem dX6_isWord_56 : decode cX6_isWord 56 = .ok (.ireturn, 1) := by decide +kernel
theorem dX6_isWord_57 : decode cX6_isWord 57 = .ok (.iinc 2 1, 3) := by decide +kernel
theorem dX6_isWord_60 : decode cX6_isWord 60 = .ok (.goto (-32), 3) := by decide +kernel
theorem dX6_isWord_63 : decode cX6_isWord 63 = .ok (.iconst 1, 1) := by decide +kernel
theorem dX6_isWord_64 : decode cX6_isWord 64 = .ok (.ireturn, 1) := by decide +kernel
theorem dX6_readLine_0 : decode cX6_readLine 0 = .ok (.aload_n 0, 1) := by decide +kernel
theorem dX6_readLine_1 : decode cX6_readLine 1 = .ok (.ldc 102, 2) := by decide +kernel
theorem dX6_readLine_3 : decode cX6_readLine 3 = .ok (.invokevirtual 104, 3) := by decide +kernel
theorem dX6_readLine_6 : decode cX6_readLine 6 = .ok (.ifCond .eq 8, 3) := by decide +kernel
theorem dX6_readLine_9 : decode cX6_readLine 9 = .ok (.aload_n 0, 1) := by decide +kernel
theorem dX6_readLine_10 : decode cX6_readLine 10 = .ok (.invokevirtual 108, 3) := by decide +kernel
theorem dX6_readLine_13 : decode cX6_readLine 13 = .ok (.ireturn, 1) := by decide +kernel
theorem dX6_readLine_14 : decode cX6_readLine 14 = .ok (.aload_n 0, 1) := by decide +kernel
theorem dX6_readLine_15 : decode cX6_readLine 15 = .ok (.ldc 111, 2) := by decide +kernel
theorem dX6_readLine_17 : decode cX6_readLine 17 = .ok (.invokevirtual 104, 3) := by decide +kernel
theorem dX6_readLine_20 : decode cX6_readLine 20 = .ok (.ifCond .eq 8, 3) := by decide +kernel
theorem dX6_readLine_23 : decode cX6_readLine 23 = .ok (.aload_n 0, 1) := by decide +kernel
theorem dX6_readLine_24 : decode cX6_readLine 24 = .ok (.invokevirtual 113, 3) := by decide +kernel
theorem dX6_readLine_27 : decode cX6_readLine 27 = .ok (.ireturn, 1) := by decide +kernel
theorem dX6_readLine_28 : decode cX6_readLine 28 = .ok (.aload_n 0, 1) := by decide +kernel
theorem dX6_readLine_29 : decode cX6_readLine 29 = .ok (.ldc 116, 2) := by decide +kernel
theorem dX6_readLine_31 : decode cX6_readLine 31 = .ok (.invokevirtual 104, 3) := by decide +kernel
theorem dX6_readLine_34 : decode cX6_readLine 34 = .ok (.ifCond .eq 9, 3) := by decide +kernel
theorem dX6_readLine_37 : decode cX6_readLine 37 = .ok (.aload_n 0, 1) := by decide +kernel
theorem dX6_readLine_38 : decode cX6_readLine 38 = .ok (.iconst 1, 1) := by decide +kernel
theorem dX6_readLine_39 : decode cX6_readLine 39 = .ok (.invokevirtual 118, 3) := by decide +kernel
theorem dX6_readLine_42 : decode cX6_readLine 42 = .ok (.ireturn, 1) := by decide +kernel
theorem dX6_readLine_43 : decode cX6_readLine 43 = .ok (.aload_n 0, 1) := by decide +kernel
theorem dX6_readLine_44 : decode cX6_readLine 44 = .ok (.ldc 122, 2) := by decide +kernel
theorem dX6_readLine_46 : decode cX6_readLine 46 = .ok (.invokevirtual 104, 3) := by decide +kernel
theorem dX6_readLine_49 : decode cX6_readLine 49 = .ok (.ifCond .eq 9, 3) := by decide +kernel
theorem dX6_readLine_52 : decode cX6_readLine 52 = .ok (.aload_n 0, 1) := by decide +kernel
theorem dX6_readLine_53 : decode cX6_readLine 53 = .ok (.iconst 0, 1) := by decide +kernel
theorem dX6_readLine_54 : decode cX6_readLine 54 = .ok (.invokevirtual 118, 3) := by decide +kernel
theorem dX6_readLine_57 : decode cX6_readLine 57 = .ok (.ireturn, 1) := by decide +kernel
theorem dX6_readLine_58 : decode cX6_readLine 58 = .ok (.aload_n 0, 1) := by decide +kernel
theorem dX6_readLine_59 : decode cX6_readLine 59 = .ok (.ldc 124, 2) := by decide +kernel
theorem dX6_readLine_61 : decode cX6_readLine 61 = .ok (.invokevirtual 104, 3) := by decide +kernel
theorem dX6_readLine_64 : decode cX6_readLine 64 = .ok (.ifCond .eq 8, 3) := by decide +kernel
theorem dX6_readLine_67 : decode cX6_readLine 67 = .ok (.aload_n 0, 1) := by decide +kernel
theorem dX6_readLine_68 : decode cX6_readLine 68 = .ok (.invokevirtual 126, 3) := by decide +kernel
theorem dX6_readLine_71 : decode cX6_readLine 71 = .ok (.ireturn, 1) := by decide +kernel
theorem dX6_readLine_72 : decode cX6_readLine 72 = .ok (.aload_n 0, 1) := by decide +kernel
theorem dX6_readLine_73 : decode cX6_readLine 73 = .ok (.iconst 2, 1) := by decide +kernel
theorem dX6_readLine_74 : decode cX6_readLine 74 = .ok (.aload_n 0, 1) := by decide +kernel
theorem dX6_readLine_75 : decode cX6_readLine 75 = .ok (.getfield 76, 3) := by decide +kernel
theorem dX6_readLine_78 : decode cX6_readLine 78 = .ok (.invokevirtual 89, 3) := by decide +kernel
theorem dX6_readLine_81 : decode cX6_readLine 81 = .ok (.ireturn, 1) := by decide +kernel
theorem dX6_readNumber_0 : decode cX6_readNumber 0 = .ok (.aload_n 0, 1) := by decide +kernel
theorem dX6_readNumber_1 : decode cX6_readNumber 1 = .ok (.invokevirtual 60, 3) := by decide +kernel
theorem dX6_readNumber_4 : decode cX6_readNumber 4 = .ok (.ifCond .ne 5, 3) := by decide +kernel
theorem dX6_readNumber_7 : decode cX6_readNumber 7 = .ok (.iconst 0, 1) := by decide +kernel
theorem dX6_readNumber_8 : decode cX6_readNumber 8 = .ok (.ireturn, 1) := by decide +kernel
theorem dX6_readNumber_9 : decode cX6_readNumber 9 = .ok (.aload_n 0, 1) := by decide +kernel
theorem dX6_readNumber_10 : decode cX6_readNumber 10 = .ok (.getfield 64, 3) := by decide +kernel
theorem dX6_readNumber_13 : decode cX6_readNumber 13 = .ok (.iconst 2, 1) := by decide +kernel
theorem dX6_readNumber_14 : decode cX6_readNumber 14 = .ok (.if_icmp .eq 13, 3) := by decide +kernel
theorem dX6_readNumber_17 : decode cX6_readNumber 17 = .ok (.aload_n 0, 1) := by decide +kernel
theorem dX6_readNumber_18 : decode cX6_readNumber 18 = .ok (.iconst 2, 1) := by decide +kernel
theorem dX6_readNumber_19 : decode cX6_readNumber 19 = .ok (.aload_n 0, 1) := by decide +kernel
theorem dX6_readNumber_20 : decode cX6_readNumber 20 = .ok (.getfield 76, 3) := by decide +kernel
theorem dX6_readNumber_23 : decode cX6_readNumber 23 = .ok (.invokevirtual 89, 3) := by decide +kernel
theorem dX6_readNumber_26 : decode cX6_readNumber 26 = .ok (.ireturn, 1) := by decide +kernel
theorem dX6_readNumber_27 : decode cX6_readNumber 27 = .ok (.aload_n 0, 1) := by decide +kernel
theorem dX6_readNumber_28 : decode cX6_readNumber 28 = .ok (.getfield 86, 3) := by decide +kernel
theorem dX6_readNumber_31 : decode cX6_readNumber 31 = .ok (.iload_n 1, 1) := by decide +kernel
theorem dX6_readNumber_32 : decode cX6_readNumber 32 = .ok (.if_icmp .lt 11, 3) := by decide +kernel
theorem dX6_readNumber_35 : decode cX6_readNumber 35 = .ok (.aload_n 0, 1) := by decide +kernel
theorem dX6_readNumber_36 : decode cX6_readNumber 36 = .ok (.getfield 86, 3) := by decide +kernel
theorem dX6_readNumber_39 : decode cX6_readNumber 39 = .ok (.iload_n 2, 1) := by decide +kernel
theorem dX6_readNumber_40 : decode cX6_readNumber 40 = .ok (.if_icmp .le 15, 3) := by decide +kernel
theorem dX6_readNumber_43 : decode cX6_readNumber 43 = .ok (.aload_n 0, 1) := by decide +kernel
theorem dX6_readNumber_44 : decode cX6_readNumber 44 = .ok (.iconst 3, 1) := by decide +kernel
theorem dX6_readNumber_45 : decode cX6_readNumber 45 = .ok (.aload_n 0, 1) := by decide +kernel
theorem dX6_readNumber_46 : decode cX6_readNumber 46 = .ok (.getfield 76, 3) := by decide +kernel
theorem dX6_readNumber_49 : decode cX6_readNumber 49 = .ok (.invokevirtual 89, 3) := by decide +kernel
theorem dX6_readNumber_52 : decode cX6_readNumber 52 = .ok (.ifCond .eq 7, 3) := by decide +kernel
theorem dX6_readNumber_55 : decode cX6_readNumber 55 = .ok (.iconst 1, 1) := by decide +kernel
theorem dX6_readNumber_56 : decode cX6_readNumber 56 = .ok (.goto 4, 3) := by decide +kernel
theorem dX6_readNumber_59 : decode cX6_readNumber 59 = .ok (.iconst 0, 1) := by decide +kernel
theorem dX6_readNumber_60 : decode cX6_readNumber 60 = .ok (.ireturn, 1) := by decide +kernel
theorem dX6_readStop_0 : decode cX6_readStop 0 = .ok (.aload_n 0, 1) := by decide +kernel
theorem dX6_readStop_1 : decode cX6_readStop 1 = .ok (.invokevirtual 60, 3) := by decide +kernel
theorem dX6_readStop_4 : decode cX6_readStop 4 = .ok (.ifCond .eq 27, 3) := by decide +kernel
theorem dX6_readStop_7 : decode cX6_readStop 7 = .ok (.aload_n 0, 1) := by decide +kernel
theorem dX6_readStop_8 : decode cX6_readStop 8 = .ok (.getfield 64, 3) := by decide +kernel
theorem dX6_readStop_11 : decode cX6_readStop 11 = .ok (.iconst 3, 1) := by decide +kernel
theorem dX6_readStop_12 : decode cX6_readStop 12 = .ok (.if_icmp .eq 15, 3) := by decide +kernel
theorem dX6_readStop_15 : decode cX6_readStop 15 = .ok (.aload_n 0, 1) := by decide +kernel
theorem dX6_readStop_16 : decode cX6_readStop 16 = .ok (.iconst 2, 1) := by decide +kernel
theorem dX6_readStop_17 : decode cX6_readStop 17 = .ok (.aload_n 0, 1) := by decide +kernel
theorem dX6_readStop_18 : decode cX6_readStop 18 = .ok (.getfield 76, 3) := by decide +kernel
theorem dX6_readStop_21 : decode cX6_readStop 21 = .ok (.invokevirtual 89, 3) := by decide +kernel
theorem dX6_readStop_24 : decode cX6_readStop 24 = .ok (.ifCond .eq 7, 3) := by decide +kernel
theorem dX6_readStop_27 : decode cX6_readStop 27 = .ok (.iconst 1, 1) := by decide +kernel
theorem dX6_readStop_28 : decode cX6_readStop 28 = .ok (.goto 4, 3) := by decide +kernel
theorem dX6_readStop_31 : decode cX6_readStop 31 = .ok (.iconst 0, 1) := by decide +kernel
theorem dX6_readStop_32 : decode cX6_readStop 32 = .ok (.ireturn, 1) := by decide +kernel
theorem dX6_readThing_0 : decode cX6_readThing 0 = .ok (.aload_n 0, 1) := by decide +kernel
theorem dX6_readThing_1 : decode cX6_readThing 1 = .ok (.getfield 12, 3) := by decide +kernel
theorem dX6_readThing_4 : decode cX6_readThing 4 = .ok (.getfield 129, 3) := by decide +kernel
theorem dX6_readThing_7 : decode cX6_readThing 7 = .ok (.istore_n 1, 1) := by decide +kernel
theorem dX6_readThing_8 : decode cX6_readThing 8 = .ok (.iload_n 1, 1) := by decide +kernel
theorem dX6_readThing_9 : decode cX6_readThing 9 = .ok (.bipush 10, 2) := by decide +kernel
theorem dX6_readThing_11 : decode cX6_readThing 11 = .ok (.if_icmp .lt 13, 3) := by decide +kernel
theorem dX6_readThing_14 : decode cX6_readThing 14 = .ok (.aload_n 0, 1) := by decide +kernel
theorem dX6_readThing_15 : decode cX6_readThing 15 = .ok (.iconst 5, 1) := by decide +kernel
theorem dX6_readThing_16 : decode cX6_readThing 16 = .ok (.aload_n 0, 1) := by decide +kernel
theorem dX6_readThing_17 : decode cX6_readThing 17 = .ok (.getfield 76, 3) := by decide +kernel
theorem dX6_readThing_20 : decode cX6_readThing 20 = .ok (.invokevirtual 89, 3) := by decide +kernel
theorem dX6_readThing_23 : decode cX6_readThing 23 = .ok (.ireturn, 1) := by decide +kernel
theorem dX6_readThing_24 : decode cX6_readThing 24 = .ok (.aload_n 0, 1) := by decide +kernel
theorem dX6_readThing_25 : decode cX6_readThing 25 = .ok (.iconst 0, 1) := by decide +kernel
theorem dX6_readThing_26 : decode cX6_readThing 26 = .ok (.iconst 3, 1) := by decide +kernel
theorem dX6_readThing_27 : decode cX6_readThing 27 = .ok (.invokevirtual 132, 3) := by decide +kernel
theorem dX6_readThing_30 : decode cX6_readThing 30 = .ok (.ifCond .ne 5, 3) := by decide +kernel
theorem dX6_readThing_33 : decode cX6_readThing 33 = .ok (.iconst 0, 1) := by decide +kernel
theorem dX6_readThing_34 : decode cX6_readThing 34 = .ok (.ireturn, 1) := by decide +kernel
theorem dX6_readThing_35 : decode cX6_readThing 35 = .ok (.aload_n 0, 1) := by decide +kernel
theorem dX6_readThing_36 : decode cX6_readThing 36 = .ok (.getfield 21, 3) := by decide +kernel
theorem dX6_readThing_39 : decode cX6_readThing 39 = .ok (.getfield 135, 3) := by decide +kernel
theorem dX6_readThing_42 : decode cX6_readThing 42 = .ok (.iload_n 1, 1) := by decide +kernel
theorem dX6_readThing_43 : decode cX6_readThing 43 = .ok (.aload_n 0, 1) := by decide +kernel
theorem dX6_readThing_44 : decode cX6_readThing 44 = .ok (.getfield 86, 3) := by decide +kernel
theorem dX6_readThing_47 : decode cX6_readThing 47 = .ok (.iastore, 1) := by decide +kernel
theorem dX6_readThing_48 : decode cX6_readThing 48 = .ok (.aload_n 0, 1) := by decide +kernel
theorem dX6_readThing_49 : decode cX6_readThing 49 = .ok (.iconst 0, 1) := by decide +kernel
theorem dX6_readThing_50 : decode cX6_readThing 50 = .ok (.bipush 9, 2) := by decide +kernel
theorem dX6_readThing_52 : decode cX6_readThing 52 = .ok (.invokevirtual 132, 3) := by decide +kernel
theorem dX6_readThing_55 : decode cX6_readThing 55 = .ok (.ifCond .ne 5, 3) := by decide +kernel
theorem dX6_readThing_58 : decode cX6_readThing 58 = .ok (.iconst 0, 1) := by decide +kernel
theorem dX6_readThing_59 : decode cX6_readThing 59 = .ok (.ireturn, 1) := by decide +kernel
theorem dX6_readThing_60 : decode cX6_readThing 60 = .ok (.aload_n 0, 1) := by decide +kernel
theorem dX6_readThing_61 : decode cX6_readThing 61 = .ok (.getfield 12, 3) := by decide +kernel
theorem dX6_readThing_64 : decode cX6_readThing 64 = .ok (.getfield 139, 3) := by decide +kernel
theorem dX6_readThing_67 : decode cX6_readThing 67 = .ok (.iload_n 1, 1) := by decide +kernel
theorem dX6_readThing_68 : decode cX6_readThing 68 = .ok (.aload_n 0, 1) := by decide +kernel
theorem dX6_readThing_69 : decode cX6_readThing 69 = .ok (.getfield 86, 3) := by decide +kernel
theorem dX6_readThing_72 : decode cX6_readThing 72 = .ok (.iastore, 1) := by decide +kernel
theorem dX6_readThing_73 : decode cX6_readThing 73 = .ok (.iconst 0, 1) := by decide +kernel
theorem dX6_readThing_74 : decode cX6_readThing 74 = .ok (.istore_n 2, 1) := by decide +kernel
theorem dX6_readThing_75 : decode cX6_readThing 75 = .ok (.iload_n 2, 1) := by decide +kernel
theorem dX6_readThing_76 : decode cX6_readThing 76 = .ok (.iconst 4, 1) := by decide +kernel
theorem dX6_readThing_77 : decode cX6_readThing 77 = .ok (.if_icmp .ge 38, 3) := by decide +kernel
theorem dX6_readThing_80 : decode cX6_readThing 80 = .ok (.aload_n 0, 1) := by decide +kernel
theorem dX6_readThing_81 : decode cX6_readThing 81 = .ok (.iconst 0, 1) := by decide +kernel
theorem dX6_readThing_82 : decode cX6_readThing 82 = .ok (.bipush 20, 2) := by decide +kernel
theorem dX6_readThing_84 : decode cX6_readThing 84 = .ok (.invokevirtual 132, 3) := by decide +kernel
theorem dX6_readThing_87 : decode cX6_readThing 87 = .ok (.ifCond .ne 5, 3) := by decide +kernel
theorem dX6_readThing_90 : decode cX6_readThing 90 = .ok (.iconst 0, 1) := by decide +kernel
theorem dX6_readThing_91 : decode cX6_readThing 91 = .ok (.ireturn, 1) := by decide +kernel
theorem dX6_readThing_92 : decode cX6_readThing 92 = .ok (.aload_n 0, 1) := by decide +kernel
theorem dX6_readThing_93 : decode cX6_readThing 93 = .ok (.getfield 12, 3) := by decide +kernel
theorem dX6_readThing_96 : decode cX6_readThing 96 = .ok (.getfield 142, 3) := by decide +kernel
theorem dX6_readThing_99 : decode cX6_readThing 99 = .ok (.iload_n 1, 1) := by decide +kernel
theorem dX6_readThing_100 : decode cX6_readThing 100 = .ok (.iconst 4, 1) := by decide +kernel
theorem dX6_readThing_101 : decode cX6_readThing 101 = .ok (.imul, 1) := by decide +kernel
theorem dX6_readThing_102 : decode cX6_readThing 102 = .ok (.iload_n 2, 1) := by decide +kernel
theorem dX6_readThing_103 : decode cX6_readThing 103 = .ok (.iadd, 1) := by decide +kernel
theorem dX6_readThing_104 : decode cX6_readThing 104 = .ok (.aload_n 0, 1) := by decide +kernel
theorem dX6_readThing_105 : decode cX6_readThing 105 = .ok (.getfield 86, 3) := by decide +kernel
theorem dX6_readThing_108 : decode cX6_readThing 108 = .ok (.iastore, 1) := by decide +kernel
theorem dX6_readThing_109 : decode cX6_readThing 109 = .ok (.iinc 2 1, 3) := by decide +kernel
theorem dX6_readThing_112 : decode cX6_readThing 112 = .ok (.goto (-37), 3) := by decide +kernel
theorem dX6_readThing_115 : decode cX6_readThing 115 = .ok (.aload_n 0, 1) := by decide +kernel
theorem dX6_readThing_116 : decode cX6_readThing 116 = .ok (.getfield 12, 3) := by decide +kernel
theorem dX6_readThing_119 : decode cX6_readThing 119 = .ok (.dup, 1) := by decide +kernel
theorem dX6_readThing_120 : decode cX6_readThing 120 = .ok (.getfield 129, 3) := by decide +kernel
theorem dX6_readThing_123 : decode cX6_readThing 123 = .ok (.iconst 1, 1) := by decide +kernel
theorem dX6_readThing_124 : decode cX6_readThing 124 = .ok (.iadd, 1) := by decide +kernel
theorem dX6_readThing_125 : decode cX6_readThing 125 = .ok (.putfield 129, 3) := by decide +kernel
theorem dX6_readThing_128 : decode cX6_readThing 128 = .ok (.aload_n 0, 1) := by decide +kernel
theorem dX6_readThing_129 : decode cX6_readThing 129 = .ok (.invokevirtual 145, 3) := by decide +kernel
theorem dX6_readThing_132 : decode cX6_readThing 132 = .ok (.ireturn, 1) := by decide +kernel
theorem dX6_kindRead_0 : decode cX6_kindRead 0 = .ok (.aload_n 0, 1) := by decide +kernel
theorem dX6_kindRead_1 : decode cX6_kindRead 1 = .ok (.ldc 148, 2) := by decide +kernel
theorem dX6_kindRead_3 : decode cX6_kindRead 3 = .ok (.invokevirtual 104, 3) := by decide +kernel
theorem dX6_kindRead_6 : decode cX6_kindRead 6 = .ok (.ifCond .eq 5, 3) := by decide +kernel
theorem dX6_kindRead_9 : decode cX6_kindRead 9 = .ok (.iconst 0, 1) := by decide +kernel
theorem dX6_kindRead_10 : decode cX6_kindRead 10 = .ok (.ireturn, 1) := by decide +kernel
theorem dX6_kindRead_11 : decode cX6_kindRead 11 = .ok (.aload_n 0, 1) := by decide +kernel
theorem dX6_kindRead_12 : decode cX6_kindRead 12 = .ok (.ldc 150, 2) := by decide +kernel
theorem dX6_kindRead_14 : decode cX6_kindRead 14 = .ok (.invokevirtual 104, 3) := by decide +kernel
theorem dX6_kindRead_17 : decode cX6_kindRead 17 = .ok (.ifCond .eq 5, 3) := by decide +kernel
theorem dX6_kindRead_20 : decode cX6_kindRead 20 = .ok (.iconst 1, 1) := by decide +kernel
theorem dX6_kindRead_21 : decode cX6_kindRead 21 = .ok (.ireturn, 1) := by decide +kernel
theorem dX6_kindRead_22 : decode cX6_kindRead 22 = .ok (.aload_n 0, 1) := by decide +kernel
theorem dX6_kindRead_23 : decode cX6_kindRead 23 = .ok (.ldc 152, 2) := by decide +kernel
theorem dX6_kindRead_25 : decode cX6_kindRead 25 = .ok (.invokevirtual 104, 3) := by decide +kernel
theorem dX6_kindRead_28 : decode cX6_kindRead 28 = .ok (.ifCond .eq 7, 3) := by decide +kernel
theorem dX6_kindRead_31 : decode cX6_kindRead 31 = .ok (.iconst 2, 1) := by decide +kernel
theorem dX6_kindRead_32 : decode cX6_kindRead 32 = .ok (.goto 5, 3) := by decide +kernel
theorem dX6_kindRead_35 : decode cX6_kindRead 35 = .ok (.bipush (-4), 2) := by decide +kernel
theorem dX6_kindRead_37 : decode cX6_kindRead 37 = .ok (.ireturn, 1) := by decide +kernel
theorem dX6_readLineOfThings_0 : decode cX6_readLineOfThings 0 = .ok (.aload_n 0, 1) := by decide +kernel
theorem dX6_readLineOfThings_1 : decode cX6_readLineOfThings 1 = .ok (.getfield 12, 3) := by decide +kernel
theorem dX6_readLineOfThings_4 : decode cX6_readLineOfThings 4 = .ok (.getfield 154, 3) := by decide +kernel
theorem dX6_readLineOfThings_7 : decode cX6_readLineOfThings 7 = .ok (.istore_n 1, 1) := by decide +kernel
theorem dX6_readLineOfThings_8 : decode cX6_readLineOfThings 8 = .ok (.iload_n 1, 1) := by decide +kernel
theorem dX6_readLineOfThings_9 : decode cX6_readLineOfThings 9 = .ok (.iconst 3, 1) := by decide +kernel
theorem dX6_readLineOfThings_10 : decode cX6_readLineOfThings 10 = .ok (.if_icmp .lt 13, 3) := by decide +kernel
theorem dX6_readLineOfThings_13 : decode cX6_readLineOfThings 13 = .ok (.aload_n 0, 1) := by decide +kernel
theorem dX6_readLineOfThings_14 : decode cX6_readLineOfThings 14 = .ok (.iconst 5, 1) := by decide +kernel
theorem dX6_readLineOfThings_15 : decode cX6_readLineOfThings 15 = .ok (.aload_n 0, 1) := by decide +kernel
theorem dX6_readLineOfThings_16 : decode cX6_readLineOfThings 16 = .ok (.getfield 76, 3) := by decide +kernel
theorem dX6_readLineOfThings_19 : decode cX6_readLineOfThings 19 = .ok (.invokevirtual 89, 3) := by decide +kernel
theorem dX6_readLineOfThings_22 : decode cX6_readLineOfThings 22 = .ok (.ireturn, 1) := by decide +kernel
theorem dX6_readLineOfThings_23 : decode cX6_readLineOfThings 23 = .ok (.aload_n 0, 1) := by decide +kernel
theorem dX6_readLineOfThings_24 : decode cX6_readLineOfThings 24 = .ok (.invokevirtual 60, 3) := by decide +kernel
theorem dX6_readLineOfThings_27 : decode cX6_readLineOfThings 27 = .ok (.ifCond .ne 5, 3) := by decide +kernel
theorem dX6_readLineOfThings_30 : decode cX6_readLineOfThings 30 = .ok (.iconst 0, 1) := by decide +kernel
theorem dX6_readLineOfThings_31 : decode cX6_readLineOfThings 31 = .ok (.ireturn, 1) := by decide +kernel
theorem dX6_readLineOfThings_32 : decode cX6_readLineOfThings 32 = .ok (.aload_n 0, 1) := by decide +kernel
theorem dX6_readLineOfThings_33 : decode cX6_readLineOfThings 33 = .ok (.invokevirtual 157, 3) := by decide +kernel
theorem dX6_readLineOfThings_36 : decode cX6_readLineOfThings 36 = .ok (.istore_n 2, 1) := by decide +kernel
theorem dX6_readLineOfThings_37 : decode cX6_readLineOfThings 37 = .ok (.iload_n 2, 1) := by decide +kernel
theorem dX6_readLineOfThings_38 : decode cX6_readLineOfThings 38 = .ok (.bipush (-4), 2) := by decide +kernel
theorem dX6_readLineOfThings_40 : decode cX6_readLineOfThings 40 = .ok (.if_icmp .ne 13, 3) := by decide +kernel
theorem dX6_readLineOfThings_43 : decode cX6_readLineOfThings 43 = .ok (.aload_n 0, 1) := by decide +kernel
theorem dX6_readLineOfThings_44 : decode cX6_readLineOfThings 44 = .ok (.iconst 2, 1) := by decide +kernel
theorem dX6_readLineOfThings_45 : decode cX6_readLineOfThings 45 = .ok (.aload_n 0, 1) := by decide +kernel
theorem dX6_readLineOfThings_46 : decode cX6_readLineOfThings 46 = .ok (.getfield 76, 3) := by decide +kernel
theorem dX6_readLineOfThings_49 : decode cX6_readLineOfThings 49 = .ok (.invokevirtual 89, 3) := by decide +kernel
theorem dX6_readLineOfThings_52 : decode cX6_readLineOfThings 52 = .ok (.ireturn, 1) := by decide +kernel
theorem dX6_readLineOfThings_53 : decode cX6_readLineOfThings 53 = .ok (.aload_n 0, 1) := by decide +kernel
theorem dX6_readLineOfThings_54 : decode cX6_readLineOfThings 54 = .ok (.getfield 12, 3) := by decide +kernel
theorem dX6_readLineOfThings_57 : decode cX6_readLineOfThings 57 = .ok (.getfield 160, 3) := by decide +kernel
theorem dX6_readLineOfThings_60 : decode cX6_readLineOfThings 60 = .ok (.iload_n 1, 1) := by decide +kernel
theorem dX6_readLineOfThings_61 : decode cX6_readLineOfThings 61 = .ok (.iload_n 2, 1) := by decide +kernel
theorem dX6_readLineOfThings_62 : decode cX6_readLineOfThings 62 = .ok (.iastore, 1) := by decide +kernel
theorem dX6_readLineOfThings_63 : decode cX6_readLineOfThings 63 = .ok (.aload_n 0, 1) := by decide +kernel
theorem dX6_readLineOfThings_64 : decode cX6_readLineOfThings 64 = .ok (.getfield 12, 3) := by decide +kernel
theorem dX6_readLineOfThings_67 : decode cX6_readLineOfThings 67 = .ok (.dup, 1) := by decide +kernel
theorem dX6_readLineOfThings_68 : decode cX6_readLineOfThings 68 = .ok (.getfield 154, 3) := by decide +kernel
theorem dX6_readLineOfThings_71 : decode cX6_readLineOfThings 71 = .ok (.iconst 1, 1) := by decide +kernel
theorem dX6_readLineOfThings_72 : decode cX6_readLineOfThings 72 = .ok (.iadd, 1) := by decide +kernel
theorem dX6_readLineOfThings_73 : decode cX6_readLineOfThings 73 = .ok (.putfield 154, 3) := by decide +kernel
theorem dX6_readLineOfThings_76 : decode cX6_readLineOfThings 76 = .ok (.iconst 0, 1) := by decide +kernel
theorem dX6_readLineOfThings_77 : decode cX6_readLineOfThings 77 = .ok (.istore_n 3, 1) := by decide +kernel
theorem dX6_readLineOfThings_78 : decode cX6_readLineOfThings 78 = .ok (.iload_n 3, 1) := by decide +kernel
theorem dX6_readLineOfThings_79 : decode cX6_readLineOfThings 79 = .ok (.bipush 8, 2) := by decide +kernel
theorem dX6_readLineOfThings_81 : decode cX6_readLineOfThings 81 = .ok (.if_icmp .gt 38, 3) := by decide +kernel
theorem dX6_readLineOfThings_84 : decode cX6_readLineOfThings 84 = .ok (.aload_n 0, 1) := by decide +kernel
theorem dX6_readLineOfThings_85 : decode cX6_readLineOfThings 85 = .ok (.invokevirtual 60, 3) := by decide +kernel
theorem dX6_readLineOfThings_88 : decode cX6_readLineOfThings 88 = .ok (.ifCond .ne 5, 3) := by decide +kernel
theorem dX6_readLineOfThings_91 : decode cX6_readLineOfThings 91 = .ok (.iconst 0, 1) := by decide +kernel
theorem dX6_readLineOfThings_92 : decode cX6_readLineOfThings 92 = .ok (.ireturn, 1) := by decide +kernel
theorem dX6_readLineOfThings_93 : decode cX6_readLineOfThings 93 = .ok (.aload_n 0, 1) := by decide +kernel
theorem dX6_readLineOfThings_94 : decode cX6_readLineOfThings 94 = .ok (.getfield 64, 3) := by decide +kernel
theorem dX6_readLineOfThings_97 : decode cX6_readLineOfThings 97 = .ok (.iconst 3, 1) := by decide +kernel
theorem dX6_readLineOfThings_98 : decode cX6_readLineOfThings 98 = .ok (.if_icmp .ne 5, 3) := by decide +kernel
theorem dX6_readLineOfThings_101 : decode cX6_readLineOfThings 101 = .ok (.iconst 1, 1) := by decide +kernel
theorem dX6_readLineOfThings_102 : decode cX6_readLineOfThings 102 = .ok (.ireturn, 1) := by decide +kernel
theorem dX6_readLineOfThings_103 : decode cX6_readLineOfThings 103 = .ok (.aload_n 0, 1) := by decide +kernel
theorem dX6_readLineOfThings_104 : decode cX6_readLineOfThings 104 = .ok (.iload_n 1, 1) := by decide +kernel
theorem dX6_readLineOfThings_105 : decode cX6_readLineOfThings 105 = .ok (.invokevirtual 163, 3) := by decide +kernel
theorem dX6_readLineOfThings_108 : decode cX6_readLineOfThings 108 = .ok (.ifCond .ne 5, 3) := by decide +kernel
theorem dX6_readLineOfThings_111 : decode cX6_readLineOfThings 111 = .ok (.iconst 0, 1) := by decide +kernel
theorem dX6_readLineOfThings_112 : decode cX6_readLineOfThings 112 = .ok (.ireturn, 1) := by decide +kernel
theorem dX6_readLineOfThings_113 : decode cX6_readLineOfThings 113 = .ok (.iinc 3 1, 3) := by decide +kernel
theorem dX6_readLineOfThings_116 : decode cX6_readLineOfThings 116 = .ok (.goto (-38), 3) := by decide +kernel
theorem dX6_readLineOfThings_119 : decode cX6_readLineOfThings 119 = .ok (.iconst 0, 1) := by decide +kernel
theorem dX6_readLineOfThings_120 : decode cX6_readLineOfThings 120 = .ok (.ireturn, 1) := by decide +kernel
theorem dX6_takeLying_0 : decode cX6_takeLying 0 = .ok (.aload_n 0, 1) := by decide +kernel
theorem dX6_takeLying_1 : decode cX6_takeLying 1 = .ok (.getfield 64, 3) := by decide +kernel
theorem dX6_takeLying_4 : decode cX6_takeLying 4 = .ok (.iconst 2, 1) := by decide +kernel
theorem dX6_takeLying_5 : decode cX6_takeLying 5 = .ok (.if_icmp .eq 13, 3) := by decide +kernel
theorem dX6_takeLying_8 : decode cX6_takeLying 8 = .ok (.aload_n 0, 1) := by decide +kernel
theorem dX6_takeLying_9 : decode cX6_takeLying 9 = .ok (.iconst 2, 1) := by decide +kernel
theorem dX6_takeLying_10 : decode cX6_takeLying 10 = .ok (.aload_n 0, 1) := by decide +kernel
theorem dX6_takeLying_11 : decode cX6_takeLying 11 = .ok (.getfield 76, 3) := by decide +kernel
theorem dX6_takeLying_14 : decode cX6_takeLying 14 = .ok (.invokevirtual 89, 3) := by decide +kernel
theorem dX6_takeLying_17 : decode cX6_takeLying 17 = .ok (.ireturn, 1) := by decide +kernel
theorem dX6_takeLying_18 : decode cX6_takeLying 18 = .ok (.aload_n 0, 1) := by decide +kernel
theorem dX6_takeLying_19 : decode cX6_takeLying 19 = .ok (.getfield 86, 3) := by decide +kernel
theorem dX6_takeLying_22 : decode cX6_takeLying 22 = .ok (.bipush 10, 2) := by decide +kernel
theorem dX6_takeLying_24 : decode cX6_takeLying 24 = .ok (.if_icmp .lt 13, 3) := by decide +kernel
theorem dX6_takeLying_27 : decode cX6_takeLying 27 = .ok (.aload_n 0, 1) := by decide +kernel
theorem dX6_takeLying_28 : decode cX6_takeLying 28 = .ok (.iconst 3, 1) := by decide +kernel
theorem dX6_takeLying_29 : decode cX6_takeLying 29 = .ok (.aload_n 0, 1) := by decide +kernel
theorem dX6_takeLying_30 : decode cX6_takeLying 30 = .ok (.getfield 76, 3) := by decide +kernel
theorem dX6_takeLying_33 : decode cX6_takeLying 33 = .ok (.invokevirtual 89, 3) := by decide +kernel
theorem dX6_takeLying_36 : decode cX6_takeLying 36 = .ok (.ireturn, 1) := by decide +kernel
theorem dX6_takeLying_37 : decode cX6_takeLying 37 = .ok (.aload_n 0, 1) := by decide +kernel
theorem dX6_takeLying_38 : decode cX6_takeLying 38 = .ok (.getfield 46, 3) := by decide +kernel
theorem dX6_takeLying_41 : decode cX6_takeLying 41 = .ok (.iconst 1, 1) := by decide +kernel
theorem dX6_takeLying_42 : decode cX6_takeLying 42 = .ok (.aload_n 0, 1) := by decide +kernel
theorem dX6_takeLying_43 : decode cX6_takeLying 43 = .ok (.getfield 86, 3) := by decide +kernel
theorem dX6_takeLying_46 : decode cX6_takeLying 46 = .ok (.ishl, 1) := by decide +kernel
theorem dX6_takeLying_47 : decode cX6_takeLying 47 = .ok (.iand, 1) := by decide +kernel
theorem dX6_takeLying_48 : decode cX6_takeLying 48 = .ok (.ifCond .eq 13, 3) := by decide +kernel
theorem dX6_takeLying_51 : decode cX6_takeLying 51 = .ok (.aload_n 0, 1) := by decide +kernel
theorem dX6_takeLying_52 : decode cX6_takeLying 52 = .ok (.iconst 4, 1) := by decide +kernel
theorem dX6_takeLying_53 : decode cX6_takeLying 53 = .ok (.aload_n 0, 1) := by decide +kernel
theorem dX6_takeLying_54 : decode cX6_takeLying 54 = .ok (.getfield 76, 3) := by decide +kernel
theorem dX6_takeLying_57 : decode cX6_takeLying 57 = .ok (.invokevirtual 89, 3) := by decide +kernel
theorem dX6_takeLying_60 : decode cX6_takeLying 60 = .ok (.ireturn, 1) := by decide +kernel
theorem dX6_takeLying_61 : decode cX6_takeLying 61 = .ok (.aload_n 0, 1) := by decide +kernel
theorem dX6_takeLying_62 : decode cX6_takeLying 62 = .ok (.getfield 21, 3) := by decide +kernel
theorem dX6_takeLying_65 : decode cX6_takeLying 65 = .ok (.getfield 166, 3) := by decide +kernel
theorem dX6_takeLying_68 : decode cX6_takeLying 68 = .ok (.iload_n 1, 1) := by decide +kernel
theorem dX6_takeLying_69 : decode cX6_takeLying 69 = .ok (.iaload, 1) := by decide +kernel
theorem dX6_takeLying_70 : decode cX6_takeLying 70 = .ok (.bipush 8, 2) := by decide +kernel
theorem dX6_takeLying_72 : decode cX6_takeLying 72 = .ok (.if_icmp .lt 13, 3) := by decide +kernel
theorem dX6_takeLying_75 : decode cX6_takeLying 75 = .ok (.aload_n 0, 1) := by decide +kernel
theorem dX6_takeLying_76 : decode cX6_takeLying 76 = .ok (.iconst 5, 1) := by decide +kernel
theorem dX6_takeLying_77 : decode cX6_takeLying 77 = .ok (.aload_n 0, 1) := by decide +kernel
theorem dX6_takeLying_78 : decode cX6_takeLying 78 = .ok (.getfield 76, 3) := by decide +kernel
theorem dX6_takeLying_81 : decode cX6_takeLying 81 = .ok (.invokevirtual 89, 3) := by decide +kernel
theorem dX6_takeLying_84 : decode cX6_takeLying 84 = .ok (.ireturn, 1) := by decide +kernel
theorem dX6_takeLying_85 : decode cX6_takeLying 85 = .ok (.aload_n 0, 1) := by decide +kernel
theorem dX6_takeLying_86 : decode cX6_takeLying 86 = .ok (.dup, 1) := by decide +kernel
theorem dX6_takeLying_87 : decode cX6_takeLying 87 = .ok (.getfield 46, 3) := by decide +kernel
theorem dX6_takeLying_90 : decode cX6_takeLying 90 = .ok (.iconst 1, 1) := by decide +kernel
theorem dX6_takeLying_91 : decode cX6_takeLying 91 = .ok (.aload_n 0, 1) := by decide +kernel
theorem dX6_takeLying_92 : decode cX6_takeLying 92 = .ok (.getfield 86, 3) := by decide +kernel
theorem dX6_takeLying_95 : decode cX6_takeLying 95 = .ok (.ishl, 1) := by decide +kernel
theorem dX6_takeLying_96 : decode cX6_takeLying 96 = .ok (.ior, 1) := by decide +kernel
theorem dX6_takeLying_97 : decode cX6_takeLying 97 = .ok (.putfield 46, 3) := by decide +kernel
theorem dX6_takeLying_100 : decode cX6_takeLying 100 = .ok (.aload_n 0, 1) := by decide +kernel
theorem dX6_takeLying_101 : decode cX6_takeLying 101 = .ok (.getfield 21, 3) := by decide +kernel
theorem dX6_takeLying_104 : decode cX6_takeLying 104 = .ok (.getfield 168, 3) := by decide +kernel
theorem dX6_takeLying_107 : decode cX6_takeLying 107 = .ok (.iload_n 1, 1) := by decide +kernel
theorem dX6_takeLying_108 : decode cX6_takeLying 108 = .ok (.bipush 8, 2) := by decide +kernel
theorem dX6_takeLying_110 : decode cX6_takeLying 110 = .ok (.imul, 1) := by decide +kernel
theorem dX6_takeLying_111 : decode cX6_takeLying 111 = .ok (.aload_n 0, 1) := by decide +kernel
theorem dX6_takeLying_112 : decode cX6_takeLying 112 = .ok (.getfield 21, 3) := by decide +kernel
theorem dX6_takeLying_115 : decode cX6_takeLying 115 = .ok (.getfield 166, 3) := by decide +kernel
theorem dX6_takeLying_118 : decode cX6_takeLying 118 = .ok (.iload_n 1, 1) := by decide +kernel
theorem dX6_takeLying_119 : decode cX6_takeLying 119 = .ok (.iaload, 1) := by decide +kernel
theorem dX6_takeLying_120 : decode cX6_takeLying 120 = .ok (.iadd, 1) := by decide +kernel
theorem dX6_takeLying_121 : decode cX6_takeLying 121 = .ok (.aload_n 0, 1) := by decide +kernel
theorem dX6_takeLying_122 : decode cX6_takeLying 122 = .ok (.getfield 86, 3) := by decide +kernel
theorem dX6_takeLying_125 : decode cX6_takeLying 125 = .ok (.iastore, 1) := by decide +kernel
theorem dX6_takeLying_126 : decode cX6_takeLying 126 = .ok (.aload_n 0, 1) := by decide +kernel
theorem dX6_takeLying_127 : decode cX6_takeLying 127 = .ok (.getfield 21, 3) := by decide +kernel
theorem dX6_takeLying_130 : decode cX6_takeLying 130 = .ok (.getfield 166, 3) := by decide +kernel
theorem dX6_takeLying_133 : decode cX6_takeLying 133 = .ok (.iload_n 1, 1) := by decide +kernel
theorem dX6_takeLying_134 : decode cX6_takeLying 134 = .ok (.dup2, 1) := by decide +kernel
theorem dX6_takeLying_135 : decode cX6_takeLying 135 = .ok (.iaload, 1) := by decide +kernel
theorem dX6_takeLying_136 : decode cX6_takeLying 136 = .ok (.iconst 1, 1) := by decide +kernel
theorem dX6_takeLying_137 : decode cX6_takeLying 137 = .ok (.iadd, 1) := by decide +kernel
theorem dX6_takeLying_138 : decode cX6_takeLying 138 = .ok (.iastore, 1) := by decide +kernel
theorem dX6_takeLying_139 : decode cX6_takeLying 139 = .ok (.iconst 1, 1) := by decide +kernel
theorem dX6_takeLying_140 : decode cX6_takeLying 140 = .ok (.ireturn, 1) := by decide +kernel
theorem dX6_readVisit_0 : decode cX6_readVisit 0 = .ok (.aload_n 0, 1) := by decide +kernel
theorem dX6_readVisit_1 : decode cX6_readVisit 1 = .ok (.getfield 28, 3) := by decide +kernel
theorem dX6_readVisit_4 : decode cX6_readVisit 4 = .ok (.getfield 57, 3) := by decide +kernel
theorem dX6_readVisit_7 : decode cX6_readVisit 7 = .ok (.bipush 12, 2) := by decide +kernel
theorem dX6_readVisit_9 : decode cX6_readVisit 9 = .ok (.if_icmp .lt 13, 3) := by decide +kernel
theorem dX6_readVisit_12 : decode cX6_readVisit 12 = .ok (.aload_n 0, 1) := by decide +kernel
theorem dX6_readVisit_13 : decode cX6_readVisit 13 = .ok (.iconst 5, 1) := by decide +kernel
theorem dX6_readVisit_14 : decode cX6_readVisit 14 = .ok (.aload_n 0, 1) := by decide +kernel
theorem dX6_readVisit_15 : decode cX6_readVisit 15 = .ok (.getfield 76, 3) := by decide +kernel
theorem dX6_readVisit_18 : decode cX6_readVisit 18 = .ok (.invokevirtual 89, 3) := by decide +kernel
theorem dX6_readVisit_21 : decode cX6_readVisit 21 = .ok (.ireturn, 1) := by decide +kernel
theorem dX6_readVisit_22 : decode cX6_readVisit 22 = .ok (.aload_n 0, 1) := by decide +kernel
theorem dX6_readVisit_23 : decode cX6_readVisit 23 = .ok (.aload_n 0, 1) := by decide +kernel
theorem dX6_readVisit_24 : decode cX6_readVisit 24 = .ok (.getfield 28, 3) := by decide +kernel
theorem dX6_readVisit_27 : decode cX6_readVisit 27 = .ok (.invokevirtual 170, 3) := by decide +kernel
theorem dX6_readVisit_30 : decode cX6_readVisit 30 = .ok (.bipush 99, 2) := by decide +kernel
theorem dX6_readVisit_32 : decode cX6_readVisit 32 = .ok (.invokevirtual 132, 3) := by decide +kernel
theorem dX6_readVisit_35 : decode cX6_readVisit 35 = .ok (.ifCond .ne 5, 3) := by decide +kernel
theorem dX6_readVisit_38 : decode cX6_readVisit 38 = .ok (.iconst 0, 1) := by decide +kernel
theorem dX6_readVisit_39 : decode cX6_readVisit 39 = .ok (.ireturn, 1) := by decide +kernel
theorem dX6_readVisit_40 : decode cX6_readVisit 40 = .ok (.aload_n 0, 1) := by decide +kernel
theorem dX6_readVisit_41 : decode cX6_readVisit 41 = .ok (.getfield 86, 3) := by decide +kernel
theorem dX6_readVisit_44 : decode cX6_readVisit 44 = .ok (.istore_n 2, 1) := by decide +kernel
theorem dX6_readVisit_45 : decode cX6_readVisit 45 = .ok (.aload_n 0, 1) := by decide +kernel
theorem dX6_readVisit_46 : decode cX6_readVisit 46 = .ok (.iconst 0, 1) := by decide +kernel
theorem dX6_readVisit_47 : decode cX6_readVisit 47 = .ok (.iconst 3, 1) := by decide +kernel
theorem dX6_readVisit_48 : decode cX6_readVisit 48 = .ok (.invokevirtual 132, 3) := by decide +kernel
theorem dX6_readVisit_51 : decode cX6_readVisit 51 = .ok (.ifCond .ne 5, 3) := by decide +kernel
theorem dX6_readVisit_54 : decode cX6_readVisit 54 = .ok (.iconst 0, 1) := by decide +kernel
theorem dX6_readVisit_55 : decode cX6_readVisit 55 = .ok (.ireturn, 1) := by decide +kernel
theorem dX6_readVisit_56 : decode cX6_readVisit 56 = .ok (.aload_n 0, 1) := by decide +kernel
theorem dX6_readVisit_57 : decode cX6_readVisit 57 = .ok (.getfield 86, 3) := by decide +kernel
theorem dX6_readVisit_60 : decode cX6_readVisit 60 = .ok (.istore_n 3, 1) := by decide +kernel
theorem dX6_readVisit_61 : decode cX6_readVisit 61 = .ok (.aload_n 0, 1) := by decide +kernel
theorem dX6_readVisit_62 : decode cX6_readVisit 62 = .ok (.iconst 0, 1) := by decide +kernel
theorem dX6_readVisit_63 : decode cX6_readVisit 63 = .ok (.iconst 2, 1) := by decide +kernel
theorem dX6_readVisit_64 : decode cX6_readVisit 64 = .ok (.invokevirtual 132, 3) := by decide +kernel
theorem dX6_readVisit_67 : decode cX6_readVisit 67 = .ok (.ifCond .ne 5, 3) := by decide +kernel
theorem dX6_readVisit_70 : decode cX6_readVisit 70 = .ok (.iconst 0, 1) := by decide +kernel
theorem dX6_readVisit_71 : decode cX6_readVisit 71 = .ok (.ireturn, 1) := by decide +kernel
theorem dX6_readVisit_72 : decode cX6_readVisit 72 = .ok (.aload_n 0, 1) := by decide +kernel
theorem dX6_readVisit_73 : decode cX6_readVisit 73 = .ok (.getfield 86, 3) := by decide +kernel
theorem dX6_readVisit_76 : decode cX6_readVisit 76 = .ok (.istore 4, 2) := by decide +kernel
theorem dX6_readVisit_78 : decode cX6_readVisit 78 = .ok (.iload_n 1, 1) := by decide +kernel
theorem dX6_readVisit_79 : decode cX6_readVisit 79 = .ok (.ifCond .eq 15, 3) := by decide +kernel
theorem dX6_readVisit_82 : decode cX6_readVisit 82 = .ok (.aload_n 0, 1) := by decide +kernel
theorem dX6_readVisit_83 : decode cX6_readVisit 83 = .ok (.iconst 0, 1) := by decide +kernel
theorem dX6_readVisit_84 : decode cX6_readVisit 84 = .ok (.bipush 9, 2) := by decide +kernel
theorem dX6_readVisit_86 : decode cX6_readVisit 86 = .ok (.invokevirtual 132, 3) := by decide +kernel
theorem dX6_readVisit_89 : decode cX6_readVisit 89 = .ok (.ifCond .ne 5, 3) := by decide +kernel
theorem dX6_readVisit_92 : decode cX6_readVisit 92 = .ok (.iconst 0, 1) := by decide +kernel
theorem dX6_readVisit_93 : decode cX6_readVisit 93 = .ok (.ireturn, 1) := by decide +kernel
theorem dX6_readVisit_94 : decode cX6_readVisit 94 = .ok (.aload_n 0, 1) := by decide +kernel
theorem dX6_readVisit_95 : decode cX6_readVisit 95 = .ok (.getfield 28, 3) := by decide +kernel
theorem dX6_readVisit_98 : decode cX6_readVisit 98 = .ok (.iload_n 2, 1) := by decide +kernel
theorem dX6_readVisit_99 : decode cX6_readVisit 99 = .ok (.iload_n 3, 1) := by decide +kernel
theorem dX6_readVisit_100 : decode cX6_readVisit 100 = .ok (.iload 4, 2) := by decide +kernel
theorem dX6_readVisit_102 : decode cX6_readVisit 102 = .ok (.iload_n 1, 1) := by decide +kernel
theorem dX6_readVisit_103 : decode cX6_readVisit 103 = .ok (.ifCond .eq 10, 3) := by decide +kernel
theorem dX6_readVisit_106 : decode cX6_readVisit 106 = .ok (.aload_n 0, 1) := by decide +kernel
theorem dX6_readVisit_107 : decode cX6_readVisit 107 = .ok (.getfield 86, 3) := by decide +kernel
theorem dX6_readVisit_110 : decode cX6_readVisit 110 = .ok (.goto 5, 3) := by decide +kernel
theorem dX6_readVisit_113 : decode cX6_readVisit 113 = .ok (.bipush (-4), 2) := by decide +kernel
theorem dX6_readVisit_115 : decode cX6_readVisit 115 = .ok (.invokevirtual 173, 3) := by decide +kernel
theorem dX6_readVisit_118 : decode cX6_readVisit 118 = .ok (.pop, 1) := by decide +kernel
theorem dX6_readVisit_119 : decode cX6_readVisit 119 = .ok (.aload_n 0, 1) := by decide +kernel
theorem dX6_readVisit_120 : decode cX6_readVisit 120 = .ok (.invokevirtual 145, 3) := by decide +kernel
theorem dX6_readVisit_123 : decode cX6_readVisit 123 = .ok (.ireturn, 1) := by decide +kernel
theorem dX6_readChance_0 : decode cX6_readChance 0 = .ok (.aload_n 0, 1) := by decide +kernel
theorem dX6_readChance_1 : decode cX6_readChance 1 = .ok (.getfield 49, 3) := by decide +kernel
theorem dX6_readChance_4 : decode cX6_readChance 4 = .ok (.ifCond .eq 13, 3) := by decide +kernel
theorem dX6_readChance_7 : decode cX6_readChance 7 = .ok (.aload_n 0, 1) := by decide +kernel
theorem dX6_readChance_8 : decode cX6_readChance 8 = .ok (.iconst 4, 1) := by decide +kernel
theorem dX6_readChance_9 : decode cX6_readChance 9 = .ok (.aload_n 0, 1) := by decide +kernel
theorem dX6_readChance_10 : decode cX6_readChance 10 = .ok (.getfield 76, 3) := by decide +kernel
theorem dX6_readChance_13 : decode cX6_readChance 13 = .ok (.invokevirtual 89, 3) := by decide +kernel
theorem dX6_readChance_16 : decode cX6_readChance 16 = .ok (.ireturn, 1) := by decide +kernel
theorem dX6_readChance_17 : decode cX6_readChance 17 = .ok (.aload_n 0, 1) := by decide +kernel
theorem dX6_readChance_18 : decode cX6_readChance 18 = .ok (.iconst 1, 1) := by decide +kernel
theorem dX6_readChance_19 : decode cX6_readChance 19 = .ok (.putfield 49, 3) := by decide +kernel
theorem dX6_readChance_22 : decode cX6_readChance 22 = .ok (.aload_n 0, 1) := by decide +kernel
theorem dX6_readChance_23 : decode cX6_readChance 23 = .ok (.iconst 0, 1) := by decide +kernel
theorem dX6_readChance_24 : decode cX6_readChance 24 = .ok (.bipush 10, 2) := by decide +kernel
theorem dX6_readChance_26 : decode cX6_readChance 26 = .ok (.invokevirtual 132, 3) := by decide +kernel
theorem dX6_readChance_29 : decode cX6_readChance 29 = .ok (.ifCond .ne 5, 3) := by decide +kernel
theorem dX6_readChance_32 : decode cX6_readChance 32 = .ok (.iconst 0, 1) := by decide +kernel
theorem dX6_readChance_33 : decode cX6_readChance 33 = .ok (.ireturn, 1) := by decide +kernel
theorem dX6_readChance_34 : decode cX6_readChance 34 = .ok (.aload_n 0, 1) := by decide +kernel
theorem dX6_readChance_35 : decode cX6_readChance 35 = .ok (.getfield 12, 3) := by decide +kernel
theorem dX6_readChance_38 : decode cX6_readChance 38 = .ok (.aload_n 0, 1) := by decide +kernel
theorem dX6_readChance_39 : decode cX6_readChance 39 = .ok (.getfield 86, 3) := by decide +kernel
theorem dX6_readChance_42 : decode cX6_readChance 42 = .ok (.putfield 177, 3) := by decide +kernel
theorem dX6_readChance_45 : decode cX6_readChance 45 = .ok (.aload_n 0, 1) := by decide +kernel
theorem dX6_readChance_46 : decode cX6_readChance 46 = .ok (.invokevirtual 145, 3) := by decide +kernel
theorem dX6_readChance_49 : decode cX6_readChance 49 = .ok (.ireturn, 1) := by decide +kernel
theorem dX6_settle_0 : decode cX6_settle 0 = .ok (.iconst 0, 1) := by decide +kernel
theorem dX6_settle_1 : decode cX6_settle 1 = .ok (.istore_n 1, 1) := by decide +kernel
theorem dX6_settle_2 : decode cX6_settle 2 = .ok (.iload_n 1, 1) := by decide +kernel
theorem dX6_settle_3 : decode cX6_settle 3 = .ok (.aload_n 0, 1) := by decide +kernel
theorem dX6_settle_4 : decode cX6_settle 4 = .ok (.getfield 12, 3) := by decide +kernel
theorem dX6_settle_7 : decode cX6_settle 7 = .ok (.getfield 154, 3) := by decide +kernel
theorem dX6_settle_10 : decode cX6_settle 10 = .ok (.if_icmp .ge 49, 3) := by decide +kernel
theorem dX6_settle_13 : decode cX6_settle 13 = .ok (.iconst 0, 1) := by decide +kernel
theorem dX6_settle_14 : decode cX6_settle 14 = .ok (.istore_n 2, 1) := by decide +kernel
theorem dX6_settle_15 : decode cX6_settle 15 = .ok (.iload_n 2, 1) := by decide +kernel
theorem dX6_settle_16 : decode cX6_settle 16 = .ok (.aload_n 0, 1) := by decide +kernel
theorem dX6_settle_17 : decode cX6_settle 17 = .ok (.getfield 21, 3) := by decide +kernel
theorem dX6_settle_20 : decode cX6_settle 20 = .ok (.getfield 166, 3) := by decide +kernel
theorem dX6_settle_23 : decode cX6_settle 23 = .ok (.iload_n 1, 1) := by decide +kernel
theorem dX6_settle_24 : decode cX6_settle 24 = .ok (.iaload, 1) := by decide +kernel
theorem dX6_settle_25 : decode cX6_settle 25 = .ok (.if_icmp .ge 28, 3) := by decide +kernel
theorem dX6_settle_28 : decode cX6_settle 28 = .ok (.aload_n 0, 1) := by decide +kernel
theorem dX6_settle_29 : decode cX6_settle 29 = .ok (.aload_n 0, 1) := by decide +kernel
theorem dX6_settle_30 : decode cX6_settle 30 = .ok (.getfield 21, 3) := by decide +kernel
theorem dX6_settle_33 : decode cX6_settle 33 = .ok (.getfield 168, 3) := by decide +kernel
theorem dX6_settle_36 : decode cX6_settle 36 = .ok (.iload_n 1, 1) := by decide +kernel
theorem dX6_settle_37 : decode cX6_settle 37 = .ok (.bipush 8, 2) := by decide +kernel
theorem dX6_settle_39 : decode cX6_settle 39 = .ok (.imul, 1) := by decide +kernel
theorem dX6_settle_40 : decode cX6_settle 40 = .ok (.iload_n 2, 1) := by decide +kernel
theorem dX6_settle_41 : decode cX6_settle 41 = .ok (.iadd, 1) := by decide +kernel
theorem dX6_settle_42 : decode cX6_settle 42 = .ok (.iaload, 1) := by decide +kernel
theorem dX6_settle_43 : decode cX6_settle 43 = .ok (.iload_n 1, 1) := by decide +kernel
theorem dX6_settle_44 : decode cX6_settle 44 = .ok (.invokevirtual 180, 3) := by decide +kernel
theorem dX6_settle_47 : decode cX6_settle 47 = .ok (.iinc 2 1, 3) := by decide +kernel
theorem dX6_settle_50 : decode cX6_settle 50 = .ok (.goto (-35), 3) := by decide +kernel
theorem dX6_settle_53 : decode cX6_settle 53 = .ok (.iinc 1 1, 3) := by decide +kernel
theorem dX6_settle_56 : decode cX6_settle 56 = .ok (.goto (-54), 3) := by decide +kernel
theorem dX6_settle_59 : decode cX6_settle 59 = .ok (.iconst 0, 1) := by decide +kernel
theorem dX6_settle_60 : decode cX6_settle 60 = .ok (.istore_n 1, 1) := by decide +kernel
theorem dX6_settle_61 : decode cX6_settle 61 = .ok (.iload_n 1, 1) := by decide +kernel
theorem dX6_settle_62 : decode cX6_settle 62 = .ok (.aload_n 0, 1) := by decide +kernel
theorem dX6_settle_63 : decode cX6_settle 63 = .ok (.getfield 28, 3) := by decide +kernel
theorem dX6_settle_66 : decode cX6_settle 66 = .ok (.getfield 57, 3) := by decide +kernel
theorem dX6_settle_69 : decode cX6_settle 69 = .ok (.if_icmp .ge 79, 3) := by decide +kernel
theorem dX6_settle_72 : decode cX6_settle 72 = .ok (.aload_n 0, 1) := by decide +kernel
theorem dX6_settle_73 : decode cX6_settle 73 = .ok (.getfield 28, 3) := by decide +kernel
theorem dX6_settle_76 : decode cX6_settle 76 = .ok (.iload_n 1, 1) := by decide +kernel
theorem dX6_settle_77 : decode cX6_settle 77 = .ok (.invokevirtual 184, 3) := by decide +kernel
theorem dX6_settle_80 : decode cX6_settle 80 = .ok (.ifCond .ne 22, 3) := by decide +kernel
theorem dX6_settle_83 : decode cX6_settle 83 = .ok (.aload_n 0, 1) := by decide +kernel
theorem dX6_settle_84 : decode cX6_settle 84 = .ok (.getfield 12, 3) := by decide +kernel
theorem dX6_settle_87 : decode cX6_settle 87 = .ok (.aload_n 0, 1) := by decide +kernel
theorem dX6_settle_88 : decode cX6_settle 88 = .ok (.getfield 28, 3) := by decide +kernel
theorem dX6_settle_91 : decode cX6_settle 91 = .ok (.getfield 187, 3) := by decide +kernel
theorem dX6_settle_94 : decode cX6_settle 94 = .ok (.iload_n 1, 1) := by decide +kernel
theorem dX6_settle_95 : decode cX6_settle 95 = .ok (.iaload, 1) := by decide +kernel
theorem dX6_settle_96 : decode cX6_settle 96 = .ok (.invokevirtual 190, 3) := by decide +kernel
theorem dX6_settle_99 : decode cX6_settle 99 = .ok (.ifCond .eq 7, 3) := by decide +kernel
theorem dX6_settle_102 : decode cX6_settle 102 = .ok (.iconst 1, 1) := by decide +kernel
theorem dX6_settle_103 : decode cX6_settle 103 = .ok (.goto 4, 3) := by decide +kernel
theorem dX6_settle_106 : decode cX6_settle 106 = .ok (.iconst 0, 1) := by decide +kernel
theorem dX6_settle_107 : decode cX6_settle 107 = .ok (.istore_n 2, 1) := by decide +kernel
theorem dX6_settle_108 : decode cX6_settle 108 = .ok (.iload_n 2, 1) := by decide +kernel
theorem dX6_settle_109 : decode cX6_settle 109 = .ok (.ifCond .eq 22, 3) := by decide +kernel
theorem dX6_settle_112 : decode cX6_settle 112 = .ok (.aload_n 0, 1) := by decide +kernel
theorem dX6_settle_113 : decode cX6_settle 113 = .ok (.getfield 12, 3) := by decide +kernel
theorem dX6_settle_116 : decode cX6_settle 116 = .ok (.aload_n 0, 1) := by decide +kernel
theorem dX6_settle_117 : decode cX6_settle 117 = .ok (.getfield 28, 3) := by decide +kernel
theorem dX6_settle_120 : decode cX6_settle 120 = .ok (.getfield 193, 3) := by decide +kernel
theorem dX6_settle_123 : decode cX6_settle 123 = .ok (.iload_n 1, 1) := by decide +kernel
theorem dX6_settle_124 : decode cX6_settle 124 = .ok (.iaload, 1) := by decide +kernel
theorem dX6_settle_125 : decode cX6_settle 125 = .ok (.invokevirtual 196, 3) := by decide +kernel
theorem dX6_settle_128 : decode cX6_settle 128 = .ok (.ifCond .ne 14, 3) := by decide +kernel
theorem dX6_settle_131 : decode cX6_settle 131 = .ok (.aload_n 0, 1) := by decide +kernel
theorem dX6_settle_132 : decode cX6_settle 132 = .ok (.bipush 6, 2) := by decide +kernel
theorem dX6_settle_134 : decode cX6_settle 134 = .ok (.aload_n 0, 1) := by decide +kernel
theorem dX6_settle_135 : decode cX6_settle 135 = .ok (.getfield 36, 3) := by decide +kernel
theorem dX6_settle_138 : decode cX6_settle 138 = .ok (.invokevirtual 89, 3) := by decide +kernel
theorem dX6_settle_141 : decode cX6_settle 141 = .ok (.pop, 1) := by decide +kernel
theorem dX6_settle_142 : decode cX6_settle 142 = .ok (.iinc 1 1, 3) := by decide +kernel
theorem dX6_settle_145 : decode cX6_settle 145 = .ok (.goto (-84), 3) := by decide +kernel
theorem dX6_settle_148 : decode cX6_settle 148 = .ok (.return_, 1) := by decide +kernel
theorem dX6_settleThing_0 : decode cX6_settleThing 0 = .ok (.aload_n 0, 1) := by decide +kernel
theorem dX6_settleThing_1 : decode cX6_settleThing 1 = .ok (.getfield 12, 3) := by decide +kernel
theorem dX6_settleThing_4 : decode cX6_settleThing 4 = .ok (.iload_n 1, 1) := by decide +kernel
theorem dX6_settleThing_5 : decode cX6_settleThing 5 = .ok (.invokevirtual 190, 3) := by decide +kernel
theorem dX6_settleThing_8 : decode cX6_settleThing 8 = .ok (.ifCond .ne 15, 3) := by decide +kernel
theorem dX6_settleThing_11 : decode cX6_settleThing 11 = .ok (.aload_n 0, 1) := by decide +kernel
theorem dX6_settleThing_12 : decode cX6_settleThing 12 = .ok (.bipush 6, 2) := by decide +kernel
theorem dX6_settleThing_14 : decode cX6_settleThing 14 = .ok (.aload_n 0, 1) := by decide +kernel
theorem dX6_settleThing_15 : decode cX6_settleThing 15 = .ok (.getfield 36, 3) := by decide +kernel
theorem dX6_settleThing_18 : decode cX6_settleThing 18 = .ok (.invokevirtual 89, 3) := by decide +kernel
theorem dX6_settleThing_21 : decode cX6_settleThing 21 = .ok (.pop, 1) := by decide +kernel
theorem dX6_settleThing_22 : decode cX6_settleThing 22 = .ok (.return_, 1) := by decide +kernel
theorem dX6_settleThing_23 : decode cX6_settleThing 23 = .ok (.aload_n 0, 1) := by decide +kernel
theorem dX6_settleThing_24 : decode cX6_settleThing 24 = .ok (.getfield 21, 3) := by decide +kernel
theorem dX6_settleThing_27 : decode cX6_settleThing 27 = .ok (.getfield 199, 3) := by decide +kernel
theorem dX6_settleThing_30 : decode cX6_settleThing 30 = .ok (.iload_n 1, 1) := by decide +kernel
theorem dX6_settleThing_31 : decode cX6_settleThing 31 = .ok (.aload_n 0, 1) := by decide +kernel
theorem dX6_settleThing_32 : decode cX6_settleThing 32 = .ok (.getfield 21, 3) := by decide +kernel
theorem dX6_settleThing_35 : decode cX6_settleThing 35 = .ok (.getfield 135, 3) := by decide +kernel
theorem dX6_settleThing_38 : decode cX6_settleThing 38 = .ok (.iload_n 1, 1) := by decide +kernel
theorem dX6_settleThing_39 : decode cX6_settleThing 39 = .ok (.iaload, 1) := by decide +kernel
theorem dX6_settleThing_40 : decode cX6_settleThing 40 = .ok (.iastore, 1) := by decide +kernel
theorem dX6_settleThing_41 : decode cX6_settleThing 41 = .ok (.aload_n 0, 1) := by decide +kernel
theorem dX6_settleThing_42 : decode cX6_settleThing 42 = .ok (.getfield 21, 3) := by decide +kernel
theorem dX6_settleThing_45 : decode cX6_settleThing 45 = .ok (.getfield 135, 3) := by decide +kernel
theorem dX6_settleThing_48 : decode cX6_settleThing 48 = .ok (.iload_n 1, 1) := by decide +kernel
theorem dX6_settleThing_49 : decode cX6_settleThing 49 = .ok (.bipush 10, 2) := by decide +kernel
theorem dX6_settleThing_51 : decode cX6_settleThing 51 = .ok (.iload_n 2, 1) := by decide +kernel
theorem dX6_settleThing_52 : decode cX6_settleThing 52 = .ok (.iadd, 1) := by decide +kernel
theorem dX6_settleThing_53 : decode cX6_settleThing 53 = .ok (.iastore, 1) := by decide +kernel
theorem dX6_settleThing_54 : decode cX6_settleThing 54 = .ok (.return_, 1) := by decide +kernel
