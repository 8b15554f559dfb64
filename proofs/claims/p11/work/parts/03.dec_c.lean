theorem fp_hdX11_init_0 : (((((fp_dq cX11_init 0 (.aload_n 0, 1) = true ∧ fp_dq cX11_init 1 (.invokespecial 1, 3) = true) ∧ (fp_dq cX11_init 4 (.aload_n 0, 1) = true ∧ fp_dq cX11_init 5 (.sipush 480, 3) = true)) ∧ ((fp_dq cX11_init 8 (.newarray .byte, 2) = true ∧ fp_dq cX11_init 10 (.putfield 9, 3) = true) ∧ (fp_dq cX11_init 13 (.aload_n 0, 1) = true ∧ fp_dq cX11_init 14 (.new 13, 3) = true))) ∧ (((fp_dq cX11_init 17 (.dup, 1) = true ∧ fp_dq cX11_init 18 (.invokespecial 15, 3) = true) ∧ (fp_dq cX11_init 21 (.putfield 16, 3) = true ∧ fp_dq cX11_init 24 (.aload_n 0, 1) = true)) ∧ ((fp_dq cX11_init 25 (.new 20, 3) = true ∧ fp_dq cX11_init 28 (.dup, 1) = true) ∧ (fp_dq cX11_init 29 (.invokespecial 22, 3) = true ∧ fp_dq cX11_init 32 (.putfield 23, 3) = true)))) ∧ ((((fp_dq cX11_init 35 (.aload_n 0, 1) = true ∧ fp_dq cX11_init 36 (.new 27, 3) = true) ∧ (fp_dq cX11_init 39 (.dup, 1) = true ∧ fp_dq cX11_init 40 (.invokespecial 29, 3) = true)) ∧ ((fp_dq cX11_init 43 (.putfield 30, 3) = true ∧ fp_dq cX11_init 46 (.aload_n 0, 1) = true) ∧ (fp_dq cX11_init 47 (.new 34, 3) = true ∧ fp_dq cX11_init 50 (.dup, 1) = true))) ∧ (((fp_dq cX11_init 51 (.invokespecial 36, 3) = true ∧ fp_dq cX11_init 54 (.putfield 37, 3) = true) ∧ (fp_dq cX11_init 57 (.aload_n 0, 1) = true ∧ fp_dq cX11_init 58 (.new 41, 3) = true)) ∧ ((fp_dq cX11_init 61 (.dup, 1) = true ∧ fp_dq cX11_init 62 (.invokespecial 43, 3) = true) ∧ (fp_dq cX11_init 65 (.putfield 44, 3) = true ∧ fp_dq cX11_init 68 (.aload_n 0, 1) = true))))) := by decide +kernel
theorem dX11_init_0 : decode cX11_init 0 = .ok (.aload_n 0, 1) := fp_dk fp_hdX11_init_0.1.1.1.1.1
theorem dX11_init_1 : decode cX11_init 1 = .ok (.invokespecial 1, 3) := fp_dk fp_hdX11_init_0.1.1.1.1.2
theorem dX11_init_4 : decode cX11_init 4 = .ok (.aload_n 0, 1) := fp_dk fp_hdX11_init_0.1.1.1.2.1
theorem dX11_init_5 : decode cX11_init 5 = .ok (.sipush 480, 3) := fp_dk fp_hdX11_init_0.1.1.1.2.2
theorem dX11_init_8 : decode cX11_init 8 = .ok (.newarray .byte, 2) := fp_dk fp_hdX11_init_0.1.1.2.1.1
theorem dX11_init_10 : decode cX11_init 10 = .ok (.putfield 9, 3) := fp_dk fp_hdX11_init_0.1.1.2.1.2
theorem dX11_init_13 : decode cX11_init 13 = .ok (.aload_n 0, 1) := fp_dk fp_hdX11_init_0.1.1.2.2.1
theorem dX11_init_14 : decode cX11_init 14 = .ok (.new 13, 3) := fp_dk fp_hdX11_init_0.1.1.2.2.2
theorem dX11_init_17 : decode cX11_init 17 = .ok (.dup, 1) := fp_dk fp_hdX11_init_0.1.2.1.1.1
theorem dX11_init_18 : decode cX11_init 18 = .ok (.invokespecial 15, 3) := fp_dk fp_hdX11_init_0.1.2.1.1.2
theorem dX11_init_21 : decode cX11_init 21 = .ok (.putfield 16, 3) := fp_dk fp_hdX11_init_0.1.2.1.2.1
theorem dX11_init_24 : decode cX11_init 24 = .ok (.aload_n 0, 1) := fp_dk fp_hdX11_init_0.1.2.1.2.2
theorem dX11_init_25 : decode cX11_init 25 = .ok (.new 20, 3) := fp_dk fp_hdX11_init_0.1.2.2.1.1
theorem dX11_init_28 : decode cX11_init 28 = .ok (.dup, 1) := fp_dk fp_hdX11_init_0.1.2.2.1.2
theorem dX11_init_29 : decode cX11_init 29 = .ok (.invokespecial 22, 3) := fp_dk fp_hdX11_init_0.1.2.2.2.1
theorem dX11_init_32 : decode cX11_init 32 = .ok (.putfield 23, 3) := fp_dk fp_hdX11_init_0.1.2.2.2.2
theorem dX11_init_35 : decode cX11_init 35 = .ok (.aload_n 0, 1) := fp_dk fp_hdX11_init_0.2.1.1.1.1
theorem dX11_init_36 : decode cX11_init 36 = .ok (.new 27, 3) := fp_dk fp_hdX11_init_0.2.1.1.1.2
theorem dX11_init_39 : decode cX11_init 39 = .ok (.dup, 1) := fp_dk fp_hdX11_init_0.2.1.1.2.1
theorem dX11_init_40 : decode cX11_init 40 = .ok (.invokespecial 29, 3) := fp_dk fp_hdX11_init_0.2.1.1.2.2
theorem dX11_init_43 : decode cX11_init 43 = .ok (.putfield 30, 3) := fp_dk fp_hdX11_init_0.2.1.2.1.1
theorem dX11_init_46 : decode cX11_init 46 = .ok (.aload_n 0, 1) := fp_dk fp_hdX11_init_0.2.1.2.1.2
theorem dX11_init_47 : decode cX11_init 47 = .ok (.new 34, 3) := fp_dk fp_hdX11_init_0.2.1.2.2.1
theorem dX11_init_50 : decode cX11_init 50 = .ok (.dup, 1) := fp_dk fp_hdX11_init_0.2.1.2.2.2
theorem dX11_init_51 : decode cX11_init 51 = .ok (.invokespecial 36, 3) := fp_dk fp_hdX11_init_0.2.2.1.1.1
theorem dX11_init_54 : decode cX11_init 54 = .ok (.putfield 37, 3) := fp_dk fp_hdX11_init_0.2.2.1.1.2
theorem dX11_init_57 : decode cX11_init 57 = .ok (.aload_n 0, 1) := fp_dk fp_hdX11_init_0.2.2.1.2.1
theorem dX11_init_58 : decode cX11_init 58 = .ok (.new 41, 3) := fp_dk fp_hdX11_init_0.2.2.1.2.2
theorem dX11_init_61 : decode cX11_init 61 = .ok (.dup, 1) := fp_dk fp_hdX11_init_0.2.2.2.1.1
theorem dX11_init_62 : decode cX11_init 62 = .ok (.invokespecial 43, 3) := fp_dk fp_hdX11_init_0.2.2.2.1.2
theorem dX11_init_65 : decode cX11_init 65 = .ok (.putfield 44, 3) := fp_dk fp_hdX11_init_0.2.2.2.2.1
theorem dX11_init_68 : decode cX11_init 68 = .ok (.aload_n 0, 1) := fp_dk fp_hdX11_init_0.2.2.2.2.2
theorem fp_hdX11_init_69 : (((((fp_dq cX11_init 69 (.new 48, 3) = true ∧ fp_dq cX11_init 72 (.dup, 1) = true) ∧ (fp_dq cX11_init 73 (.invokespecial 50, 3) = true ∧ fp_dq cX11_init 76 (.putfield 51, 3) = true)) ∧ ((fp_dq cX11_init 79 (.aload_n 0, 1) = true ∧ fp_dq cX11_init 80 (.new 55, 3) = true) ∧ (fp_dq cX11_init 83 (.dup, 1) = true ∧ fp_dq cX11_init 84 (.invokespecial 57, 3) = true))) ∧ (((fp_dq cX11_init 87 (.putfield 58, 3) = true ∧ fp_dq cX11_init 90 (.aload_n 0, 1) = true) ∧ (fp_dq cX11_init 91 (.new 62, 3) = true ∧ fp_dq cX11_init 94 (.dup, 1) = true)) ∧ ((fp_dq cX11_init 95 (.invokespecial 64, 3) = true ∧ fp_dq cX11_init 98 (.putfield 65, 3) = true) ∧ (fp_dq cX11_init 101 (.aload_n 0, 1) = true ∧ fp_dq cX11_init 102 (.new 69, 3) = true)))) ∧ ((((fp_dq cX11_init 105 (.dup, 1) = true ∧ fp_dq cX11_init 106 (.invokespecial 71, 3) = true) ∧ (fp_dq cX11_init 109 (.putfield 72, 3) = true ∧ fp_dq cX11_init 112 (.aload_n 0, 1) = true)) ∧ ((fp_dq cX11_init 113 (.iconst 2, 1) = true ∧ fp_dq cX11_init 114 (.anewarray 76, 3) = true) ∧ (fp_dq cX11_init 117 (.putfield 78, 3) = true ∧ fp_dq cX11_init 120 (.aload_n 0, 1) = true))) ∧ (((fp_dq cX11_init 121 (.iconst 4, 1) = true ∧ fp_dq cX11_init 122 (.anewarray 82, 3) = true) ∧ (fp_dq cX11_init 125 (.putfield 84, 3) = true ∧ fp_dq cX11_init 128 (.iconst 0, 1) = true)) ∧ ((fp_dq cX11_init 129 (.istore_n 1, 1) = true ∧ fp_dq cX11_init 130 (.iload_n 1, 1) = true) ∧ (fp_dq cX11_init 131 (.iconst 2, 1) = true ∧ fp_dq cX11_init 132 (.if_icmp .ge 22, 3) = true))))) := by decide +kernel
theorem dX11_init_69 : decode cX11_init 69 = .ok (.new 48, 3) := fp_dk fp_hdX11_init_69.1.1.1.1.1
theorem dX11_init_72 : decode cX11_init 72 = .ok (.dup, 1) := fp_dk fp_hdX11_init_69.1.1.1.1.2
theorem dX11_init_73 : decode cX11_init 73 = .ok (.invokespecial 50, 3) := fp_dk fp_hdX11_init_69.1.1.1.2.1
theorem dX11_init_76 : decode cX11_init 76 = .ok (.putfield 51, 3) := fp_dk fp_hdX11_init_69.1.1.1.2.2
theorem dX11_init_79 : decode cX11_init 79 = .ok (.aload_n 0, 1) := fp_dk fp_hdX11_init_69.1.1.2.1.1
theorem dX11_init_80 : decode cX11_init 80 = .ok (.new 55, 3) := fp_dk fp_hdX11_init_69.1.1.2.1.2
theorem dX11_init_83 : decode cX11_init 83 = .ok (.dup, 1) := fp_dk fp_hdX11_init_69.1.1.2.2.1
theorem dX11_init_84 : decode cX11_init 84 = .ok (.invokespecial 57, 3) := fp_dk fp_hdX11_init_69.1.1.2.2.2
theorem dX11_init_87 : decode cX11_init 87 = .ok (.putfield 58, 3) := fp_dk fp_hdX11_init_69.1.2.1.1.1
theorem dX11_init_90 : decode cX11_init 90 = .ok (.aload_n 0, 1) := fp_dk fp_hdX11_init_69.1.2.1.1.2
theorem dX11_init_91 : decode cX11_init 91 = .ok (.new 62, 3) := fp_dk fp_hdX11_init_69.1.2.1.2.1
theorem dX11_init_94 : decode cX11_init 94 = .ok (.dup, 1) := fp_dk fp_hdX11_init_69.1.2.1.2.2
theorem dX11_init_95 : decode cX11_init 95 = .ok (.invokespecial 64, 3) := fp_dk fp_hdX11_init_69.1.2.2.1.1
theorem dX11_init_98 : decode cX11_init 98 = .ok (.putfield 65, 3) := fp_dk fp_hdX11_init_69.1.2.2.1.2
theorem dX11_init_101 : decode cX11_init 101 = .ok (.aload_n 0, 1) := fp_dk fp_hdX11_init_69.1.2.2.2.1
theorem dX11_init_102 : decode cX11_init 102 = .ok (.new 69, 3) := fp_dk fp_hdX11_init_69.1.2.2.2.2
theorem dX11_init_105 : decode cX11_init 105 = .ok (.dup, 1) := fp_dk fp_hdX11_init_69.2.1.1.1.1
theorem dX11_init_106 : decode cX11_init 106 = .ok (.invokespecial 71, 3) := fp_dk fp_hdX11_init_69.2.1.1.1.2
theorem dX11_init_109 : decode cX11_init 109 = .ok (.putfield 72, 3) := fp_dk fp_hdX11_init_69.2.1.1.2.1
theorem dX11_init_112 : decode cX11_init 112 = .ok (.aload_n 0, 1) := fp_dk fp_hdX11_init_69.2.1.1.2.2
theorem dX11_init_113 : decode cX11_init 113 = .ok (.iconst 2, 1) := fp_dk fp_hdX11_init_69.2.1.2.1.1
theorem dX11_init_114 : decode cX11_init 114 = .ok (.anewarray 76, 3) := fp_dk fp_hdX11_init_69.2.1.2.1.2
theorem dX11_init_117 : decode cX11_init 117 = .ok (.putfield 78, 3) := fp_dk fp_hdX11_init_69.2.1.2.2.1
theorem dX11_init_120 : decode cX11_init 120 = .ok (.aload_n 0, 1) := fp_dk fp_hdX11_init_69.2.1.2.2.2
theorem dX11_init_121 : decode cX11_init 121 = .ok (.iconst 4, 1) := fp_dk fp_hdX11_init_69.2.2.1.1.1
theorem dX11_init_122 : decode cX11_init 122 = .ok (.anewarray 82, 3) := fp_dk fp_hdX11_init_69.2.2.1.1.2
theorem dX11_init_125 : decode cX11_init 125 = .ok (.putfield 84, 3) := fp_dk fp_hdX11_init_69.2.2.1.2.1
theorem dX11_init_128 : decode cX11_init 128 = .ok (.iconst 0, 1) := fp_dk fp_hdX11_init_69.2.2.1.2.2
theorem dX11_init_129 : decode cX11_init 129 = .ok (.istore_n 1, 1) := fp_dk fp_hdX11_init_69.2.2.2.1.1
theorem dX11_init_130 : decode cX11_init 130 = .ok (.iload_n 1, 1) := fp_dk fp_hdX11_init_69.2.2.2.1.2
theorem dX11_init_131 : decode cX11_init 131 = .ok (.iconst 2, 1) := fp_dk fp_hdX11_init_69.2.2.2.2.1
theorem dX11_init_132 : decode cX11_init 132 = .ok (.if_icmp .ge 22, 3) := fp_dk fp_hdX11_init_69.2.2.2.2.2
theorem fp_hdX11_init_135 : (((((fp_dq cX11_init 135 (.aload_n 0, 1) = true ∧ fp_dq cX11_init 136 (.getfield 78, 3) = true) ∧ (fp_dq cX11_init 139 (.iload_n 1, 1) = true ∧ fp_dq cX11_init 140 (.new 76, 3) = true)) ∧ ((fp_dq cX11_init 143 (.dup, 1) = true ∧ fp_dq cX11_init 144 (.invokespecial 88, 3) = true) ∧ (fp_dq cX11_init 147 (.aastore, 1) = true ∧ fp_dq cX11_init 148 (.iinc 1 1, 3) = true))) ∧ (((fp_dq cX11_init 151 (.goto (-21), 3) = true ∧ fp_dq cX11_init 154 (.iconst 0, 1) = true) ∧ (fp_dq cX11_init 155 (.istore_n 1, 1) = true ∧ fp_dq cX11_init 156 (.iload_n 1, 1) = true)) ∧ ((fp_dq cX11_init 157 (.iconst 4, 1) = true ∧ fp_dq cX11_init 158 (.if_icmp .ge 22, 3) = true) ∧ (fp_dq cX11_init 161 (.aload_n 0, 1) = true ∧ fp_dq cX11_init 162 (.getfield 84, 3) = true)))) ∧ ((((fp_dq cX11_init 165 (.iload_n 1, 1) = true ∧ fp_dq cX11_init 166 (.new 82, 3) = true) ∧ (fp_dq cX11_init 169 (.dup, 1) = true ∧ fp_dq cX11_init 170 (.invokespecial 89, 3) = true)) ∧ ((fp_dq cX11_init 173 (.aastore, 1) = true ∧ fp_dq cX11_init 174 (.iinc 1 1, 3) = true) ∧ (fp_dq cX11_init 177 (.goto (-21), 3) = true ∧ fp_dq cX11_init 180 (.return_, 1) = true))) ∧ (((fp_dq cX11_feed 0 (.aload_n 0, 1) = true ∧ fp_dq cX11_feed 1 (.getfield 90, 3) = true) ∧ (fp_dq cX11_feed 4 (.bipush 8, 2) = true ∧ fp_dq cX11_feed 6 (.iadd, 1) = true)) ∧ ((fp_dq cX11_feed 7 (.sipush 480, 3) = true ∧ fp_dq cX11_feed 10 (.if_icmp .le 6, 3) = true) ∧ (fp_dq cX11_feed 13 (.bipush (-3), 2) = true ∧ fp_dq cX11_feed 15 (.ireturn, 1) = true))))) := by decide +kernel
theorem dX11_init_135 : decode cX11_init 135 = .ok (.aload_n 0, 1) := fp_dk fp_hdX11_init_135.1.1.1.1.1
theorem dX11_init_136 : decode cX11_init 136 = .ok (.getfield 78, 3) := fp_dk fp_hdX11_init_135.1.1.1.1.2
theorem dX11_init_139 : decode cX11_init 139 = .ok (.iload_n 1, 1) := fp_dk fp_hdX11_init_135.1.1.1.2.1
theorem dX11_init_140 : decode cX11_init 140 = .ok (.new 76, 3) := fp_dk fp_hdX11_init_135.1.1.1.2.2
theorem dX11_init_143 : decode cX11_init 143 = .ok (.dup, 1) := fp_dk fp_hdX11_init_135.1.1.2.1.1
theorem dX11_init_144 : decode cX11_init 144 = .ok (.invokespecial 88, 3) := fp_dk fp_hdX11_init_135.1.1.2.1.2
theorem dX11_init_147 : decode cX11_init 147 = .ok (.aastore, 1) := fp_dk fp_hdX11_init_135.1.1.2.2.1
theorem dX11_init_148 : decode cX11_init 148 = .ok (.iinc 1 1, 3) := fp_dk fp_hdX11_init_135.1.1.2.2.2
theorem dX11_init_151 : decode cX11_init 151 = .ok (.goto (-21), 3) := fp_dk fp_hdX11_init_135.1.2.1.1.1
theorem dX11_init_154 : decode cX11_init 154 = .ok (.iconst 0, 1) := fp_dk fp_hdX11_init_135.1.2.1.1.2
theorem dX11_init_155 : decode cX11_init 155 = .ok (.istore_n 1, 1) := fp_dk fp_hdX11_init_135.1.2.1.2.1
theorem dX11_init_156 : decode cX11_init 156 = .ok (.iload_n 1, 1) := fp_dk fp_hdX11_init_135.1.2.1.2.2
theorem dX11_init_157 : decode cX11_init 157 = .ok (.iconst 4, 1) := fp_dk fp_hdX11_init_135.1.2.2.1.1
theorem dX11_init_158 : decode cX11_init 158 = .ok (.if_icmp .ge 22, 3) := fp_dk fp_hdX11_init_135.1.2.2.1.2
theorem dX11_init_161 : decode cX11_init 161 = .ok (.aload_n 0, 1) := fp_dk fp_hdX11_init_135.1.2.2.2.1
theorem dX11_init_162 : decode cX11_init 162 = .ok (.getfield 84, 3) := fp_dk fp_hdX11_init_135.1.2.2.2.2
theorem dX11_init_165 : decode cX11_init 165 = .ok (.iload_n 1, 1) := fp_dk fp_hdX11_init_135.2.1.1.1.1
theorem dX11_init_166 : decode cX11_init 166 = .ok (.new 82, 3) := fp_dk fp_hdX11_init_135.2.1.1.1.2
theorem dX11_init_169 : decode cX11_init 169 = .ok (.dup, 1) := fp_dk fp_hdX11_init_135.2.1.1.2.1
theorem dX11_init_170 : decode cX11_init 170 = .ok (.invokespecial 89, 3) := fp_dk fp_hdX11_init_135.2.1.1.2.2
theorem dX11_init_173 : decode cX11_init 173 = .ok (.aastore, 1) := fp_dk fp_hdX11_init_135.2.1.2.1.1
theorem dX11_init_174 : decode cX11_init 174 = .ok (.iinc 1 1, 3) := fp_dk fp_hdX11_init_135.2.1.2.1.2
theorem dX11_init_177 : decode cX11_init 177 = .ok (.goto (-21), 3) := fp_dk fp_hdX11_init_135.2.1.2.2.1
theorem dX11_init_180 : decode cX11_init 180 = .ok (.return_, 1) := fp_dk fp_hdX11_init_135.2.1.2.2.2
theorem dX11_feed_0 : decode cX11_feed 0 = .ok (.aload_n 0, 1) := fp_dk fp_hdX11_init_135.2.2.1.1.1
theorem dX11_feed_1 : decode cX11_feed 1 = .ok (.getfield 90, 3) := fp_dk fp_hdX11_init_135.2.2.1.1.2
theorem dX11_feed_4 : decode cX11_feed 4 = .ok (.bipush 8, 2) := fp_dk fp_hdX11_init_135.2.2.1.2.1
theorem dX11_feed_6 : decode cX11_feed 6 = .ok (.iadd, 1) := fp_dk fp_hdX11_init_135.2.2.1.2.2
theorem dX11_feed_7 : decode cX11_feed 7 = .ok (.sipush 480, 3) := fp_dk fp_hdX11_init_135.2.2.2.1.1
theorem dX11_feed_10 : decode cX11_feed 10 = .ok (.if_icmp .le 6, 3) := fp_dk fp_hdX11_init_135.2.2.2.1.2
theorem dX11_feed_13 : decode cX11_feed 13 = .ok (.bipush (-3), 2) := fp_dk fp_hdX11_init_135.2.2.2.2.1
theorem dX11_feed_15 : decode cX11_feed 15 = .ok (.ireturn, 1) := fp_dk fp_hdX11_init_135.2.2.2.2.2
theorem fp_hdX11_feed_16 : (((((fp_dq cX11_feed 16 (.iconst 0, 1) = true ∧ fp_dq cX11_feed 17 (.istore_n 3, 1) = true) ∧ (fp_dq cX11_feed 18 (.iload_n 3, 1) = true ∧ fp_dq cX11_feed 19 (.bipush 8, 2) = true)) ∧ ((fp_dq cX11_feed 21 (.if_icmp .ge 31, 3) = true ∧ fp_dq cX11_feed 24 (.aload_n 0, 1) = true) ∧ (fp_dq cX11_feed 25 (.getfield 9, 3) = true ∧ fp_dq cX11_feed 28 (.aload_n 0, 1) = true))) ∧ (((fp_dq cX11_feed 29 (.getfield 90, 3) = true ∧ fp_dq cX11_feed 32 (.iload_n 3, 1) = true) ∧ (fp_dq cX11_feed 33 (.iadd, 1) = true ∧ fp_dq cX11_feed 34 (.lload_n 1, 1) = true)) ∧ ((fp_dq cX11_feed 35 (.bipush 56, 2) = true ∧ fp_dq cX11_feed 37 (.bipush 8, 2) = true) ∧ (fp_dq cX11_feed 39 (.iload_n 3, 1) = true ∧ fp_dq cX11_feed 40 (.imul, 1) = true)))) ∧ ((((fp_dq cX11_feed 41 (.isub, 1) = true ∧ fp_dq cX11_feed 42 (.lshr, 1) = true) ∧ (fp_dq cX11_feed 43 (.l2i, 1) = true ∧ fp_dq cX11_feed 44 (.i2b, 1) = true)) ∧ ((fp_dq cX11_feed 45 (.bastore, 1) = true ∧ fp_dq cX11_feed 46 (.iinc 3 1, 3) = true) ∧ (fp_dq cX11_feed 49 (.goto (-31), 3) = true ∧ fp_dq cX11_feed 52 (.aload_n 0, 1) = true))) ∧ (((fp_dq cX11_feed 53 (.dup, 1) = true ∧ fp_dq cX11_feed 54 (.getfield 90, 3) = true) ∧ (fp_dq cX11_feed 57 (.bipush 8, 2) = true ∧ fp_dq cX11_feed 59 (.iadd, 1) = true)) ∧ ((fp_dq cX11_feed 60 (.putfield 90, 3) = true ∧ fp_dq cX11_feed 63 (.aload_n 0, 1) = true) ∧ (fp_dq cX11_feed 64 (.getfield 90, 3) = true ∧ fp_dq cX11_feed 67 (.ireturn, 1) = true))))) := by decide +kernel
theorem dX11_feed_16 : decode cX11_feed 16 = .ok (.iconst 0, 1) := fp_dk fp_hdX11_feed_16.1.1.1.1.1
theorem dX11_feed_17 : decode cX11_feed 17 = .ok (.istore_n 3, 1) := fp_dk fp_hdX11_feed_16.1.1.1.1.2
theorem dX11_feed_18 : decode cX11_feed 18 = .ok (.iload_n 3, 1) := fp_dk fp_hdX11_feed_16.1.1.1.2.1
theorem dX11_feed_19 : decode cX11_feed 19 = .ok (.bipush 8, 2) := fp_dk fp_hdX11_feed_16.1.1.1.2.2
theorem dX11_feed_21 : decode cX11_feed 21 = .ok (.if_icmp .ge 31, 3) := fp_dk fp_hdX11_feed_16.1.1.2.1.1
theorem dX11_feed_24 : decode cX11_feed 24 = .ok (.aload_n 0, 1) := fp_dk fp_hdX11_feed_16.1.1.2.1.2
theorem dX11_feed_25 : decode cX11_feed 25 = .ok (.getfield 9, 3) := fp_dk fp_hdX11_feed_16.1.1.2.2.1
theorem dX11_feed_28 : decode cX11_feed 28 = .ok (.aload_n 0, 1) := fp_dk fp_hdX11_feed_16.1.1.2.2.2
theorem dX11_feed_29 : decode cX11_feed 29 = .ok (.getfield 90, 3) := fp_dk fp_hdX11_feed_16.1.2.1.1.1
theorem dX11_feed_32 : decode cX11_feed 32 = .ok (.iload_n 3, 1) := fp_dk fp_hdX11_feed_16.1.2.1.1.2
theorem dX11_feed_33 : decode cX11_feed 33 = .ok (.iadd, 1) := fp_dk fp_hdX11_feed_16.1.2.1.2.1
theorem dX11_feed_34 : decode cX11_feed 34 = .ok (.lload_n 1, 1) := fp_dk fp_hdX11_feed_16.1.2.1.2.2
theorem dX11_feed_35 : decode cX11_feed 35 = .ok (.bipush 56, 2) := fp_dk fp_hdX11_feed_16.1.2.2.1.1
theorem dX11_feed_37 : decode cX11_feed 37 = .ok (.bipush 8, 2) := fp_dk fp_hdX11_feed_16.1.2.2.1.2
theorem dX11_feed_39 : decode cX11_feed 39 = .ok (.iload_n 3, 1) := fp_dk fp_hdX11_feed_16.1.2.2.2.1
theorem dX11_feed_40 : decode cX11_feed 40 = .ok (.imul, 1) := fp_dk fp_hdX11_feed_16.1.2.2.2.2
theorem dX11_feed_41 : decode cX11_feed 41 = .ok (.isub, 1) := fp_dk fp_hdX11_feed_16.2.1.1.1.1
theorem dX11_feed_42 : decode cX11_feed 42 = .ok (.lshr, 1) := fp_dk fp_hdX11_feed_16.2.1.1.1.2
theorem dX11_feed_43 : decode cX11_feed 43 = .ok (.l2i, 1) := fp_dk fp_hdX11_feed_16.2.1.1.2.1
theorem dX11_feed_44 : decode cX11_feed 44 = .ok (.i2b, 1) := fp_dk fp_hdX11_feed_16.2.1.1.2.2
theorem dX11_feed_45 : decode cX11_feed 45 = .ok (.bastore, 1) := fp_dk fp_hdX11_feed_16.2.1.2.1.1
theorem dX11_feed_46 : decode cX11_feed 46 = .ok (.iinc 3 1, 3) := fp_dk fp_hdX11_feed_16.2.1.2.1.2
theorem dX11_feed_49 : decode cX11_feed 49 = .ok (.goto (-31), 3) := fp_dk fp_hdX11_feed_16.2.1.2.2.1
theorem dX11_feed_52 : decode cX11_feed 52 = .ok (.aload_n 0, 1) := fp_dk fp_hdX11_feed_16.2.1.2.2.2
theorem dX11_feed_53 : decode cX11_feed 53 = .ok (.dup, 1) := fp_dk fp_hdX11_feed_16.2.2.1.1.1
theorem dX11_feed_54 : decode cX11_feed 54 = .ok (.getfield 90, 3) := fp_dk fp_hdX11_feed_16.2.2.1.1.2
theorem dX11_feed_57 : decode cX11_feed 57 = .ok (.bipush 8, 2) := fp_dk fp_hdX11_feed_16.2.2.1.2.1
theorem dX11_feed_59 : decode cX11_feed 59 = .ok (.iadd, 1) := fp_dk fp_hdX11_feed_16.2.2.1.2.2
theorem dX11_feed_60 : decode cX11_feed 60 = .ok (.putfield 90, 3) := fp_dk fp_hdX11_feed_16.2.2.2.1.1
theorem dX11_feed_63 : decode cX11_feed 63 = .ok (.aload_n 0, 1) := fp_dk fp_hdX11_feed_16.2.2.2.1.2
theorem dX11_feed_64 : decode cX11_feed 64 = .ok (.getfield 90, 3) := fp_dk fp_hdX11_feed_16.2.2.2.2.1
theorem dX11_feed_67 : decode cX11_feed 67 = .ok (.ireturn, 1) := fp_dk fp_hdX11_feed_16.2.2.2.2.2
theorem fp_hdX11_end_0 : (((((fp_dq cX11_end 0 (.iload_n 1, 1) = true ∧ fp_dq cX11_end 1 (.ifCond .lt 11, 3) = true) ∧ (fp_dq cX11_end 4 (.iload_n 1, 1) = true ∧ fp_dq cX11_end 5 (.aload_n 0, 1) = true)) ∧ ((fp_dq cX11_end 6 (.getfield 90, 3) = true ∧ fp_dq cX11_end 9 (.if_icmp .le 5, 3) = true) ∧ (fp_dq cX11_end 12 (.iconst (-1), 1) = true ∧ fp_dq cX11_end 13 (.ireturn, 1) = true))) ∧ (((fp_dq cX11_end 14 (.aload_n 0, 1) = true ∧ fp_dq cX11_end 15 (.getfield 90, 3) = true) ∧ (fp_dq cX11_end 18 (.istore_n 2, 1) = true ∧ fp_dq cX11_end 19 (.aload_n 0, 1) = true)) ∧ ((fp_dq cX11_end 20 (.iload_n 1, 1) = true ∧ fp_dq cX11_end 21 (.putfield 90, 3) = true) ∧ (fp_dq cX11_end 24 (.iload_n 2, 1) = true ∧ fp_dq cX11_end 25 (.ireturn, 1) = true)))) ∧ ((((fp_dq cX11_bank 0 (.aload_n 0, 1) = true ∧ fp_dq cX11_bank 1 (.getfield 16, 3) = true) ∧ (fp_dq cX11_bank 4 (.aload_n 0, 1) = true ∧ fp_dq cX11_bank 5 (.getfield 9, 3) = true)) ∧ ((fp_dq cX11_bank 8 (.aload_n 0, 1) = true ∧ fp_dq cX11_bank 9 (.getfield 90, 3) = true) ∧ (fp_dq cX11_bank 12 (.invokevirtual 94, 3) = true ∧ fp_dq cX11_bank 15 (.istore_n 1, 1) = true))) ∧ (((fp_dq cX11_bank 16 (.aload_n 0, 1) = true ∧ fp_dq cX11_bank 17 (.iconst 0, 1) = true) ∧ (fp_dq cX11_bank 18 (.putfield 90, 3) = true ∧ fp_dq cX11_bank 21 (.aload_n 0, 1) = true)) ∧ ((fp_dq cX11_bank 22 (.getfield 16, 3) = true ∧ fp_dq cX11_bank 25 (.getfield 98, 3) = true) ∧ (fp_dq cX11_bank 28 (.ifCond .eq 14, 3) = true ∧ fp_dq cX11_bank 31 (.bipush (-10), 2) = true))))) := by decide +kernel
theorem dX11_end_0 : decode cX11_end 0 = .ok (.iload_n 1, 1) := fp_dk fp_hdX11_end_0.1.1.1.1.1
theorem dX11_end_1 : decode cX11_end 1 = .ok (.ifCond .lt 11, 3) := fp_dk fp_hdX11_end_0.1.1.1.1.2
theorem dX11_end_4 : decode cX11_end 4 = .ok (.iload_n 1, 1) := fp_dk fp_hdX11_end_0.1.1.1.2.1
theorem dX11_end_5 : decode cX11_end 5 = .ok (.aload_n 0, 1) := fp_dk fp_hdX11_end_0.1.1.1.2.2
theorem dX11_end_6 : decode cX11_end 6 = .ok (.getfield 90, 3) := fp_dk fp_hdX11_end_0.1.1.2.1.1
theorem dX11_end_9 : decode cX11_end 9 = .ok (.if_icmp .le 5, 3) := fp_dk fp_hdX11_end_0.1.1.2.1.2
theorem dX11_end_12 : decode cX11_end 12 = .ok (.iconst (-1), 1) := fp_dk fp_hdX11_end_0.1.1.2.2.1
theorem dX11_end_13 : decode cX11_end 13 = .ok (.ireturn, 1) := fp_dk fp_hdX11_end_0.1.1.2.2.2
theorem dX11_end_14 : decode cX11_end 14 = .ok (.aload_n 0, 1) := fp_dk fp_hdX11_end_0.1.2.1.1.1
theorem dX11_end_15 : decode cX11_end 15 = .ok (.getfield 90, 3) := fp_dk fp_hdX11_end_0.1.2.1.1.2
theorem dX11_end_18 : decode cX11_end 18 = .ok (.istore_n 2, 1) := fp_dk fp_hdX11_end_0.1.2.1.2.1
theorem dX11_end_19 : decode cX11_end 19 = .ok (.aload_n 0, 1) := fp_dk fp_hdX11_end_0.1.2.1.2.2
theorem dX11_end_20 : decode cX11_end 20 = .ok (.iload_n 1, 1) := fp_dk fp_hdX11_end_0.1.2.2.1.1
theorem dX11_end_21 : decode cX11_end 21 = .ok (.putfield 90, 3) := fp_dk fp_hdX11_end_0.1.2.2.1.2
theorem dX11_end_24 : decode cX11_end 24 = .ok (.iload_n 2, 1) := fp_dk fp_hdX11_end_0.1.2.2.2.1
theorem dX11_end_25 : decode cX11_end 25 = .ok (.ireturn, 1) := fp_dk fp_hdX11_end_0.1.2.2.2.2
theorem dX11_bank_0 : decode cX11_bank 0 = .ok (.aload_n 0, 1) := fp_dk fp_hdX11_end_0.2.1.1.1.1
theorem dX11_bank_1 : decode cX11_bank 1 = .ok (.getfield 16, 3) := fp_dk fp_hdX11_end_0.2.1.1.1.2
theorem dX11_bank_4 : decode cX11_bank 4 = .ok (.aload_n 0, 1) := fp_dk fp_hdX11_end_0.2.1.1.2.1
theorem dX11_bank_5 : decode cX11_bank 5 = .ok (.getfield 9, 3) := fp_dk fp_hdX11_end_0.2.1.1.2.2
theorem dX11_bank_8 : decode cX11_bank 8 = .ok (.aload_n 0, 1) := fp_dk fp_hdX11_end_0.2.1.2.1.1
theorem dX11_bank_9 : decode cX11_bank 9 = .ok (.getfield 90, 3) := fp_dk fp_hdX11_end_0.2.1.2.1.2
theorem dX11_bank_12 : decode cX11_bank 12 = .ok (.invokevirtual 94, 3) := fp_dk fp_hdX11_end_0.2.1.2.2.1
theorem dX11_bank_15 : decode cX11_bank 15 = .ok (.istore_n 1, 1) := fp_dk fp_hdX11_end_0.2.1.2.2.2
theorem dX11_bank_16 : decode cX11_bank 16 = .ok (.aload_n 0, 1) := fp_dk fp_hdX11_end_0.2.2.1.1.1
theorem dX11_bank_17 : decode cX11_bank 17 = .ok (.iconst 0, 1) := fp_dk fp_hdX11_end_0.2.2.1.1.2
theorem dX11_bank_18 : decode cX11_bank 18 = .ok (.putfield 90, 3) := fp_dk fp_hdX11_end_0.2.2.1.2.1
theorem dX11_bank_21 : decode cX11_bank 21 = .ok (.aload_n 0, 1) := fp_dk fp_hdX11_end_0.2.2.1.2.2
theorem dX11_bank_22 : decode cX11_bank 22 = .ok (.getfield 16, 3) := fp_dk fp_hdX11_end_0.2.2.2.1.1
theorem dX11_bank_25 : decode cX11_bank 25 = .ok (.getfield 98, 3) := fp_dk fp_hdX11_end_0.2.2.2.1.2
theorem dX11_bank_28 : decode cX11_bank 28 = .ok (.ifCond .eq 14, 3) := fp_dk fp_hdX11_end_0.2.2.2.2.1
theorem dX11_bank_31 : decode cX11_bank 31 = .ok (.bipush (-10), 2) := fp_dk fp_hdX11_end_0.2.2.2.2.2
theorem fp_hdX11_bank_33 : (((((fp_dq cX11_bank 33 (.aload_n 0, 1) = true ∧ fp_dq cX11_bank 34 (.getfield 16, 3) = true) ∧ (fp_dq cX11_bank 37 (.getfield 101, 3) = true ∧ fp_dq cX11_bank 40 (.isub, 1) = true)) ∧ ((fp_dq cX11_bank 41 (.ireturn, 1) = true ∧ fp_dq cX11_bank 42 (.aload_n 0, 1) = true) ∧ (fp_dq cX11_bank 43 (.getfield 23, 3) = true ∧ fp_dq cX11_bank 46 (.aload_n 0, 1) = true))) ∧ (((fp_dq cX11_bank 47 (.getfield 16, 3) = true ∧ fp_dq cX11_bank 50 (.getfield 104, 3) = true) ∧ (fp_dq cX11_bank 53 (.invokevirtual 105, 3) = true ∧ fp_dq cX11_bank 56 (.aload_n 0, 1) = true)) ∧ ((fp_dq cX11_bank 57 (.getfield 30, 3) = true ∧ fp_dq cX11_bank 60 (.aload_n 0, 1) = true) ∧ (fp_dq cX11_bank 61 (.getfield 16, 3) = true ∧ fp_dq cX11_bank 64 (.getfield 109, 3) = true)))) ∧ ((((fp_dq cX11_bank 67 (.invokevirtual 112, 3) = true ∧ fp_dq cX11_bank 70 (.aload_n 0, 1) = true) ∧ (fp_dq cX11_bank 71 (.getfield 37, 3) = true ∧ fp_dq cX11_bank 74 (.aload_n 0, 1) = true)) ∧ ((fp_dq cX11_bank 75 (.getfield 16, 3) = true ∧ fp_dq cX11_bank 78 (.getfield 115, 3) = true) ∧ (fp_dq cX11_bank 81 (.invokevirtual 116, 3) = true ∧ fp_dq cX11_bank 84 (.aload_n 0, 1) = true))) ∧ (((fp_dq cX11_bank 85 (.getfield 44, 3) = true ∧ fp_dq cX11_bank 88 (.iconst 0, 1) = true) ∧ (fp_dq cX11_bank 89 (.putfield 119, 3) = true ∧ fp_dq cX11_bank 92 (.iconst 0, 1) = true)) ∧ ((fp_dq cX11_bank 93 (.istore_n 2, 1) = true ∧ fp_dq cX11_bank 94 (.iload_n 2, 1) = true) ∧ (fp_dq cX11_bank 95 (.iconst 2, 1) = true ∧ fp_dq cX11_bank 96 (.if_icmp .ge 19, 3) = true))))) := by decide +kernel
theorem dX11_bank_33 : decode cX11_bank 33 = .ok (.aload_n 0, 1) := fp_dk fp_hdX11_bank_33.1.1.1.1.1
theorem dX11_bank_34 : decode cX11_bank 34 = .ok (.getfield 16, 3) := fp_dk fp_hdX11_bank_33.1.1.1.1.2
theorem dX11_bank_37 : decode cX11_bank 37 = .ok (.getfield 101, 3) := fp_dk fp_hdX11_bank_33.1.1.1.2.1
theorem dX11_bank_40 : decode cX11_bank 40 = .ok (.isub, 1) := fp_dk fp_hdX11_bank_33.1.1.1.2.2
theorem dX11_bank_41 : decode cX11_bank 41 = .ok (.ireturn, 1) := fp_dk fp_hdX11_bank_33.1.1.2.1.1
theorem dX11_bank_42 : decode cX11_bank 42 = .ok (.aload_n 0, 1) := fp_dk fp_hdX11_bank_33.1.1.2.1.2
theorem dX11_bank_43 : decode cX11_bank 43 = .ok (.getfield 23, 3) := fp_dk fp_hdX11_bank_33.1.1.2.2.1
theorem dX11_bank_46 : decode cX11_bank 46 = .ok (.aload_n 0, 1) := fp_dk fp_hdX11_bank_33.1.1.2.2.2
theorem dX11_bank_47 : decode cX11_bank 47 = .ok (.getfield 16, 3) := fp_dk fp_hdX11_bank_33.1.2.1.1.1
theorem dX11_bank_50 : decode cX11_bank 50 = .ok (.getfield 104, 3) := fp_dk fp_hdX11_bank_33.1.2.1.1.2
theorem dX11_bank_53 : decode cX11_bank 53 = .ok (.invokevirtual 105, 3) := fp_dk fp_hdX11_bank_33.1.2.1.2.1
theorem dX11_bank_56 : decode cX11_bank 56 = .ok (.aload_n 0, 1) := fp_dk fp_hdX11_bank_33.1.2.1.2.2
theorem dX11_bank_57 : decode cX11_bank 57 = .ok (.getfield 30, 3) := fp_dk fp_hdX11_bank_33.1.2.2.1.1
theorem dX11_bank_60 : decode cX11_bank 60 = .ok (.aload_n 0, 1) := fp_dk fp_hdX11_bank_33.1.2.2.1.2
theorem dX11_bank_61 : decode cX11_bank 61 = .ok (.getfield 16, 3) := fp_dk fp_hdX11_bank_33.1.2.2.2.1
theorem dX11_bank_64 : decode cX11_bank 64 = .ok (.getfield 109, 3) := fp_dk fp_hdX11_bank_33.1.2.2.2.2
theorem dX11_bank_67 : decode cX11_bank 67 = .ok (.invokevirtual 112, 3) := fp_dk fp_hdX11_bank_33.2.1.1.1.1
theorem dX11_bank_70 : decode cX11_bank 70 = .ok (.aload_n 0, 1) := fp_dk fp_hdX11_bank_33.2.1.1.1.2
theorem dX11_bank_71 : decode cX11_bank 71 = .ok (.getfield 37, 3) := fp_dk fp_hdX11_bank_33.2.1.1.2.1
theorem dX11_bank_74 : decode cX11_bank 74 = .ok (.aload_n 0, 1) := fp_dk fp_hdX11_bank_33.2.1.1.2.2
theorem dX11_bank_75 : decode cX11_bank 75 = .ok (.getfield 16, 3) := fp_dk fp_hdX11_bank_33.2.1.2.1.1
theorem dX11_bank_78 : decode cX11_bank 78 = .ok (.getfield 115, 3) := fp_dk fp_hdX11_bank_33.2.1.2.1.2
theorem dX11_bank_81 : decode cX11_bank 81 = .ok (.invokevirtual 116, 3) := fp_dk fp_hdX11_bank_33.2.1.2.2.1
theorem dX11_bank_84 : decode cX11_bank 84 = .ok (.aload_n 0, 1) := fp_dk fp_hdX11_bank_33.2.1.2.2.2
theorem dX11_bank_85 : decode cX11_bank 85 = .ok (.getfield 44, 3) := fp_dk fp_hdX11_bank_33.2.2.1.1.1
theorem dX11_bank_88 : decode cX11_bank 88 = .ok (.iconst 0, 1) := fp_dk fp_hdX11_bank_33.2.2.1.1.2
theorem dX11_bank_89 : decode cX11_bank 89 = .ok (.putfield 119, 3) := fp_dk fp_hdX11_bank_33.2.2.1.2.1
theorem dX11_bank_92 : decode cX11_bank 92 = .ok (.iconst 0, 1) := fp_dk fp_hdX11_bank_33.2.2.1.2.2
theorem dX11_bank_93 : decode cX11_bank 93 = .ok (.istore_n 2, 1) := fp_dk fp_hdX11_bank_33.2.2.2.1.1
theorem dX11_bank_94 : decode cX11_bank 94 = .ok (.iload_n 2, 1) := fp_dk fp_hdX11_bank_33.2.2.2.1.2
theorem dX11_bank_95 : decode cX11_bank 95 = .ok (.iconst 2, 1) := fp_dk fp_hdX11_bank_33.2.2.2.2.1
theorem dX11_bank_96 : decode cX11_bank 96 = .ok (.if_icmp .ge 19, 3) := fp_dk fp_hdX11_bank_33.2.2.2.2.2
theorem fp_hdX11_bank_99 : (((((fp_dq cX11_bank 99 (.aload_n 0, 1) = true ∧ fp_dq cX11_bank 100 (.getfield 78, 3) = true) ∧ (fp_dq cX11_bank 103 (.iload_n 2, 1) = true ∧ fp_dq cX11_bank 104 (.aaload, 1) = true)) ∧ ((fp_dq cX11_bank 105 (.iconst 0, 1) = true ∧ fp_dq cX11_bank 106 (.putfield 122, 3) = true) ∧ (fp_dq cX11_bank 109 (.iinc 2 1, 3) = true ∧ fp_dq cX11_bank 112 (.goto (-18), 3) = true))) ∧ (((fp_dq cX11_bank 115 (.iload_n 1, 1) = true ∧ fp_dq cX11_bank 116 (.ireturn, 1) = true) ∧ (fp_dq cX11_fault 0 (.aload_n 0, 1) = true ∧ fp_dq cX11_fault 1 (.getfield 16, 3) = true)) ∧ ((fp_dq cX11_fault 4 (.getfield 98, 3) = true ∧ fp_dq cX11_fault 7 (.ireturn, 1) = true) ∧ (fp_dq cX11_thing 0 (.aload_n 0, 1) = true ∧ fp_dq cX11_thing 1 (.getfield 23, 3) = true)))) ∧ ((((fp_dq cX11_thing 4 (.iload_n 1, 1) = true ∧ fp_dq cX11_thing 5 (.invokevirtual 126, 3) = true) ∧ (fp_dq cX11_thing 8 (.ifCond .ne 5, 3) = true ∧ fp_dq cX11_thing 11 (.iconst (-1), 1) = true)) ∧ ((fp_dq cX11_thing 12 (.ireturn, 1) = true ∧ fp_dq cX11_thing 13 (.iload_n 2, 1) = true) ∧ (fp_dq cX11_thing 14 (.bipush 10, 2) = true ∧ fp_dq cX11_thing 16 (.if_icmp .lt 22, 3) = true))) ∧ (((fp_dq cX11_thing 19 (.iload_n 2, 1) = true ∧ fp_dq cX11_thing 20 (.bipush 14, 2) = true) ∧ (fp_dq cX11_thing 22 (.if_icmp .ge 16, 3) = true ∧ fp_dq cX11_thing 25 (.aload_n 0, 1) = true)) ∧ ((fp_dq cX11_thing 26 (.getfield 23, 3) = true ∧ fp_dq cX11_thing 29 (.iload_n 2, 1) = true) ∧ (fp_dq cX11_thing 30 (.bipush 10, 2) = true ∧ fp_dq cX11_thing 32 (.isub, 1) = true))))) := by decide +kernel
theorem dX11_bank_99 : decode cX11_bank 99 = .ok (.aload_n 0, 1) := fp_dk fp_hdX11_bank_99.1.1.1.1.1
theorem dX11_bank_100 : decode cX11_bank 100 = .ok (.getfield 78, 3) := fp_dk fp_hdX11_bank_99.1.1.1.1.2
theorem dX11_bank_103 : decode cX11_bank 103 = .ok (.iload_n 2, 1) := fp_dk fp_hdX11_bank_99.1.1.1.2.1
theorem dX11_bank_104 : decode cX11_bank 104 = .ok (.aaload, 1) := fp_dk fp_hdX11_bank_99.1.1.1.2.2
theorem dX11_bank_105 : decode cX11_bank 105 = .ok (.iconst 0, 1) := fp_dk fp_hdX11_bank_99.1.1.2.1.1
theorem dX11_bank_106 : decode cX11_bank 106 = .ok (.putfield 122, 3) := fp_dk fp_hdX11_bank_99.1.1.2.1.2
theorem dX11_bank_109 : decode cX11_bank 109 = .ok (.iinc 2 1, 3) := fp_dk fp_hdX11_bank_99.1.1.2.2.1
theorem dX11_bank_112 : decode cX11_bank 112 = .ok (.goto (-18), 3) := fp_dk fp_hdX11_bank_99.1.1.2.2.2
theorem dX11_bank_115 : decode cX11_bank 115 = .ok (.iload_n 1, 1) := fp_dk fp_hdX11_bank_99.1.2.1.1.1
theorem dX11_bank_116 : decode cX11_bank 116 = .ok (.ireturn, 1) := fp_dk fp_hdX11_bank_99.1.2.1.1.2
theorem dX11_fault_0 : decode cX11_fault 0 = .ok (.aload_n 0, 1) := fp_dk fp_hdX11_bank_99.1.2.1.2.1
theorem dX11_fault_1 : decode cX11_fault 1 = .ok (.getfield 16, 3) := fp_dk fp_hdX11_bank_99.1.2.1.2.2
theorem dX11_fault_4 : decode cX11_fault 4 = .ok (.getfield 98, 3) := fp_dk fp_hdX11_bank_99.1.2.2.1.1
theorem dX11_fault_7 : decode cX11_fault 7 = .ok (.ireturn, 1) := fp_dk fp_hdX11_bank_99.1.2.2.1.2
theorem dX11_thing_0 : decode cX11_thing 0 = .ok (.aload_n 0, 1) := fp_dk fp_hdX11_bank_99.1.2.2.2.1
theorem dX11_thing_1 : decode cX11_thing 1 = .ok (.getfield 23, 3) := fp_dk fp_hdX11_bank_99.1.2.2.2.2
theorem dX11_thing_4 : decode cX11_thing 4 = .ok (.iload_n 1, 1) := fp_dk fp_hdX11_bank_99.2.1.1.1.1
theorem dX11_thing_5 : decode cX11_thing 5 = .ok (.invokevirtual 126, 3) := fp_dk fp_hdX11_bank_99.2.1.1.1.2
theorem dX11_thing_8 : decode cX11_thing 8 = .ok (.ifCond .ne 5, 3) := fp_dk fp_hdX11_bank_99.2.1.1.2.1
theorem dX11_thing_11 : decode cX11_thing 11 = .ok (.iconst (-1), 1) := fp_dk fp_hdX11_bank_99.2.1.1.2.2
theorem dX11_thing_12 : decode cX11_thing 12 = .ok (.ireturn, 1) := fp_dk fp_hdX11_bank_99.2.1.2.1.1
theorem dX11_thing_13 : decode cX11_thing 13 = .ok (.iload_n 2, 1) := fp_dk fp_hdX11_bank_99.2.1.2.1.2
theorem dX11_thing_14 : decode cX11_thing 14 = .ok (.bipush 10, 2) := fp_dk fp_hdX11_bank_99.2.1.2.2.1
theorem dX11_thing_16 : decode cX11_thing 16 = .ok (.if_icmp .lt 22, 3) := fp_dk fp_hdX11_bank_99.2.1.2.2.2
theorem dX11_thing_19 : decode cX11_thing 19 = .ok (.iload_n 2, 1) := fp_dk fp_hdX11_bank_99.2.2.1.1.1
theorem dX11_thing_20 : decode cX11_thing 20 = .ok (.bipush 14, 2) := fp_dk fp_hdX11_bank_99.2.2.1.1.2
theorem dX11_thing_22 : decode cX11_thing 22 = .ok (.if_icmp .ge 16, 3) := fp_dk fp_hdX11_bank_99.2.2.1.2.1
theorem dX11_thing_25 : decode cX11_thing 25 = .ok (.aload_n 0, 1) := fp_dk fp_hdX11_bank_99.2.2.1.2.2
theorem dX11_thing_26 : decode cX11_thing 26 = .ok (.getfield 23, 3) := fp_dk fp_hdX11_bank_99.2.2.2.1.1
theorem dX11_thing_29 : decode cX11_thing 29 = .ok (.iload_n 2, 1) := fp_dk fp_hdX11_bank_99.2.2.2.1.2
theorem dX11_thing_30 : decode cX11_thing 30 = .ok (.bipush 10, 2) := fp_dk fp_hdX11_bank_99.2.2.2.2.1
theorem dX11_thing_32 : decode cX11_thing 32 = .ok (.isub, 1) := fp_dk fp_hdX11_bank_99.2.2.2.2.2
theorem fp_hdX11_thing_33 : (((((fp_dq cX11_thing 33 (.iload_n 1, 1) = true ∧ fp_dq cX11_thing 34 (.invokevirtual 130, 3) = true) ∧ (fp_dq cX11_thing 37 (.ireturn, 1) = true ∧ fp_dq cX11_thing 38 (.iload_n 2, 1) = true)) ∧ ((fp_dq cX11_thing 39 (.tableswitch 68 0 3 #[29, 39, 49, 58], 29) = true ∧ fp_dq cX11_thing 68 (.aload_n 0, 1) = true) ∧ (fp_dq cX11_thing 69 (.getfield 23, 3) = true ∧ fp_dq cX11_thing 72 (.getfield 134, 3) = true))) ∧ (((fp_dq cX11_thing 75 (.iload_n 1, 1) = true ∧ fp_dq cX11_thing 76 (.iaload, 1) = true) ∧ (fp_dq cX11_thing 77 (.ireturn, 1) = true ∧ fp_dq cX11_thing 78 (.aload_n 0, 1) = true)) ∧ ((fp_dq cX11_thing 79 (.getfield 30, 3) = true ∧ fp_dq cX11_thing 82 (.getfield 138, 3) = true) ∧ (fp_dq cX11_thing 85 (.iload_n 1, 1) = true ∧ fp_dq cX11_thing 86 (.iaload, 1) = true)))) ∧ ((((fp_dq cX11_thing 87 (.ireturn, 1) = true ∧ fp_dq cX11_thing 88 (.aload_n 0, 1) = true) ∧ (fp_dq cX11_thing 89 (.getfield 30, 3) = true ∧ fp_dq cX11_thing 92 (.iload_n 1, 1) = true)) ∧ ((fp_dq cX11_thing 93 (.invokevirtual 141, 3) = true ∧ fp_dq cX11_thing 96 (.ireturn, 1) = true) ∧ (fp_dq cX11_thing 97 (.aload_n 0, 1) = true ∧ fp_dq cX11_thing 98 (.getfield 30, 3) = true))) ∧ (((fp_dq cX11_thing 101 (.getfield 145, 3) = true ∧ fp_dq cX11_thing 104 (.iload_n 1, 1) = true) ∧ (fp_dq cX11_thing 105 (.iaload, 1) = true ∧ fp_dq cX11_thing 106 (.ireturn, 1) = true)) ∧ ((fp_dq cX11_thing 107 (.iconst (-1), 1) = true ∧ fp_dq cX11_thing 108 (.ireturn, 1) = true) ∧ (fp_dq cX11_line 0 (.aload_n 0, 1) = true ∧ fp_dq cX11_line 1 (.getfield 23, 3) = true))))) := by decide +kernel
theorem dX11_thing_33 : decode cX11_thing 33 = .ok (.iload_n 1, 1) := fp_dk fp_hdX11_thing_33.1.1.1.1.1
theorem dX11_thing_34 : decode cX11_thing 34 = .ok (.invokevirtual 130, 3) := fp_dk fp_hdX11_thing_33.1.1.1.1.2
theorem dX11_thing_37 : decode cX11_thing 37 = .ok (.ireturn, 1) := fp_dk fp_hdX11_thing_33.1.1.1.2.1
theorem dX11_thing_38 : decode cX11_thing 38 = .ok (.iload_n 2, 1) := fp_dk fp_hdX11_thing_33.1.1.1.2.2
theorem dX11_thing_39 : decode cX11_thing 39 = .ok (.tableswitch 68 0 3 #[29, 39, 49, 58], 29) := fp_dk fp_hdX11_thing_33.1.1.2.1.1
theorem dX11_thing_68 : decode cX11_thing 68 = .ok (.aload_n 0, 1) := fp_dk fp_hdX11_thing_33.1.1.2.1.2
theorem dX11_thing_69 : decode cX11_thing 69 = .ok (.getfield 23, 3) := fp_dk fp_hdX11_thing_33.1.1.2.2.1
theorem dX11_thing_72 : decode cX11_thing 72 = .ok (.getfield 134, 3) := fp_dk fp_hdX11_thing_33.1.1.2.2.2
theorem dX11_thing_75 : decode cX11_thing 75 = .ok (.iload_n 1, 1) := fp_dk fp_hdX11_thing_33.1.2.1.1.1
theorem dX11_thing_76 : decode cX11_thing 76 = .ok (.iaload, 1) := fp_dk fp_hdX11_thing_33.1.2.1.1.2
theorem dX11_thing_77 : decode cX11_thing 77 = .ok (.ireturn, 1) := fp_dk fp_hdX11_thing_33.1.2.1.2.1
theorem dX11_thing_78 : decode cX11_thing 78 = .ok (.aload_n 0, 1) := fp_dk fp_hdX11_thing_33.1.2.1.2.2
theorem dX11_thing_79 : decode cX11_thing 79 = .ok (.getfield 30, 3) := fp_dk fp_hdX11_thing_33.1.2.2.1.1
theorem dX11_thing_82 : decode cX11_thing 82 = .ok (.getfield 138, 3) := fp_dk fp_hdX11_thing_33.1.2.2.1.2
theorem dX11_thing_85 : decode cX11_thing 85 = .ok (.iload_n 1, 1) := fp_dk fp_hdX11_thing_33.1.2.2.2.1
theorem dX11_thing_86 : decode cX11_thing 86 = .ok (.iaload, 1) := fp_dk fp_hdX11_thing_33.1.2.2.2.2
theorem dX11_thing_87 : decode cX11_thing 87 = .ok (.ireturn, 1) := fp_dk fp_hdX11_thing_33.2.1.1.1.1
theorem dX11_thing_88 : decode cX11_thing 88 = .ok (.aload_n 0, 1) := fp_dk fp_hdX11_thing_33.2.1.1.1.2
theorem dX11_thing_89 : decode cX11_thing 89 = .ok (.getfield 30, 3) := fp_dk fp_hdX11_thing_33.2.1.1.2.1
theorem dX11_thing_92 : decode cX11_thing 92 = .ok (.iload_n 1, 1) := fp_dk fp_hdX11_thing_33.2.1.1.2.2
theorem dX11_thing_93 : decode cX11_thing 93 = .ok (.invokevirtual 141, 3) := fp_dk fp_hdX11_thing_33.2.1.2.1.1
theorem dX11_thing_96 : decode cX11_thing 96 = .ok (.ireturn, 1) := fp_dk fp_hdX11_thing_33.2.1.2.1.2
theorem dX11_thing_97 : decode cX11_thing 97 = .ok (.aload_n 0, 1) := fp_dk fp_hdX11_thing_33.2.1.2.2.1
theorem dX11_thing_98 : decode cX11_thing 98 = .ok (.getfield 30, 3) := fp_dk fp_hdX11_thing_33.2.1.2.2.2
theorem dX11_thing_101 : decode cX11_thing 101 = .ok (.getfield 145, 3) := fp_dk fp_hdX11_thing_33.2.2.1.1.1
theorem dX11_thing_104 : decode cX11_thing 104 = .ok (.iload_n 1, 1) := fp_dk fp_hdX11_thing_33.2.2.1.1.2
theorem dX11_thing_105 : decode cX11_thing 105 = .ok (.iaload, 1) := fp_dk fp_hdX11_thing_33.2.2.1.2.1
theorem dX11_thing_106 : decode cX11_thing 106 = .ok (.ireturn, 1) := fp_dk fp_hdX11_thing_33.2.2.1.2.2
theorem dX11_thing_107 : decode cX11_thing 107 = .ok (.iconst (-1), 1) := fp_dk fp_hdX11_thing_33.2.2.2.1.1
theorem dX11_thing_108 : decode cX11_thing 108 = .ok (.ireturn, 1) := fp_dk fp_hdX11_thing_33.2.2.2.1.2
theorem dX11_line_0 : decode cX11_line 0 = .ok (.aload_n 0, 1) := fp_dk fp_hdX11_thing_33.2.2.2.2.1
theorem dX11_line_1 : decode cX11_line 1 = .ok (.getfield 23, 3) := fp_dk fp_hdX11_thing_33.2.2.2.2.2
theorem fp_hdX11_line_4 : (((((fp_dq cX11_line 4 (.iload_n 1, 1) = true ∧ fp_dq cX11_line 5 (.invokevirtual 148, 3) = true) ∧ (fp_dq cX11_line 8 (.ifCond .ne 5, 3) = true ∧ fp_dq cX11_line 11 (.iconst (-1), 1) = true)) ∧ ((fp_dq cX11_line 12 (.ireturn, 1) = true ∧ fp_dq cX11_line 13 (.iload_n 2, 1) = true) ∧ (fp_dq cX11_line 14 (.bipush 10, 2) = true ∧ fp_dq cX11_line 16 (.if_icmp .lt 37, 3) = true))) ∧ (((fp_dq cX11_line 19 (.iload_n 2, 1) = true ∧ fp_dq cX11_line 20 (.bipush 10, 2) = true) ∧ (fp_dq cX11_line 22 (.aload_n 0, 1) = true ∧ fp_dq cX11_line 23 (.getfield 30, 3) = true)) ∧ ((fp_dq cX11_line 26 (.getfield 151, 3) = true ∧ fp_dq cX11_line 29 (.iload_n 1, 1) = true) ∧ (fp_dq cX11_line 30 (.iaload, 1) = true ∧ fp_dq cX11_line 31 (.iadd, 1) = true)))) ∧ ((((fp_dq cX11_line 32 (.if_icmp .ge 21, 3) = true ∧ fp_dq cX11_line 35 (.aload_n 0, 1) = true) ∧ (fp_dq cX11_line 36 (.getfield 30, 3) = true ∧ fp_dq cX11_line 39 (.getfield 153, 3) = true)) ∧ ((fp_dq cX11_line 42 (.iload_n 1, 1) = true ∧ fp_dq cX11_line 43 (.bipush 8, 2) = true) ∧ (fp_dq cX11_line 45 (.imul, 1) = true ∧ fp_dq cX11_line 46 (.iload_n 2, 1) = true))) ∧ (((fp_dq cX11_line 47 (.iadd, 1) = true ∧ fp_dq cX11_line 48 (.bipush 10, 2) = true) ∧ (fp_dq cX11_line 50 (.isub, 1) = true ∧ fp_dq cX11_line 51 (.iaload, 1) = true)) ∧ ((fp_dq cX11_line 52 (.ireturn, 1) = true ∧ fp_dq cX11_line 53 (.iload_n 2, 1) = true) ∧ (fp_dq cX11_line 54 (.tableswitch 59 0 2 #[26, 36, 46], 26) = true ∧ fp_dq cX11_line 80 (.aload_n 0, 1) = true))))) := by decide +kernel
theorem dX11_line_4 : decode cX11_line 4 = .ok (.iload_n 1, 1) := fp_dk fp_hdX11_line_4.1.1.1.1.1
theorem dX11_line_5 : decode cX11_line 5 = .ok (.invokevirtual 148, 3) := fp_dk fp_hdX11_line_4.1.1.1.1.2
theorem dX11_line_8 : decode cX11_line 8 = .ok (.ifCond .ne 5, 3) := fp_dk fp_hdX11_line_4.1.1.1.2.1
theorem dX11_line_11 : decode cX11_line 11 = .ok (.iconst (-1), 1) := fp_dk fp_hdX11_line_4.1.1.1.2.2
theorem dX11_line_12 : decode cX11_line 12 = .ok (.ireturn, 1) := fp_dk fp_hdX11_line_4.1.1.2.1.1
theorem dX11_line_13 : decode cX11_line 13 = .ok (.iload_n 2, 1) := fp_dk fp_hdX11_line_4.1.1.2.1.2
theorem dX11_line_14 : decode cX11_line 14 = .ok (.bipush 10, 2) := fp_dk fp_hdX11_line_4.1.1.2.2.1
theorem dX11_line_16 : decode cX11_line 16 = .ok (.if_icmp .lt 37, 3) := fp_dk fp_hdX11_line_4.1.1.2.2.2
theorem dX11_line_19 : decode cX11_line 19 = .ok (.iload_n 2, 1) := fp_dk fp_hdX11_line_4.1.2.1.1.1
theorem dX11_line_20 : decode cX11_line 20 = .ok (.bipush 10, 2) := fp_dk fp_hdX11_line_4.1.2.1.1.2
theorem dX11_line_22 : decode cX11_line 22 = .ok (.aload_n 0, 1) := fp_dk fp_hdX11_line_4.1.2.1.2.1
theorem dX11_line_23 : decode cX11_line 23 = .ok (.getfield 30, 3) := fp_dk fp_hdX11_line_4.1.2.1.2.2
theorem dX11_line_26 : decode cX11_line 26 = .ok (.getfield 151, 3) := fp_dk fp_hdX11_line_4.1.2.2.1.1
theorem dX11_line_29 : decode cX11_line 29 = .ok (.iload_n 1, 1) := fp_dk fp_hdX11_line_4.1.2.2.1.2
theorem dX11_line_30 : decode cX11_line 30 = .ok (.iaload, 1) := fp_dk fp_hdX11_line_4.1.2.2.2.1
theorem dX11_line_31 : decode cX11_line 31 = .ok (.iadd, 1) := fp_dk fp_hdX11_line_4.1.2.2.2.2
theorem dX11_line_32 : decode cX11_line 32 = .ok (.if_icmp .ge 21, 3) := fp_dk fp_hdX11_line_4.2.1.1.1.1
theorem dX11_line_35 : decode cX11_line 35 = .ok (.aload_n 0, 1) := fp_dk fp_hdX11_line_4.2.1.1.1.2
theorem dX11_line_36 : decode cX11_line 36 = .ok (.getfield 30, 3) := fp_dk fp_hdX11_line_4.2.1.1.2.1
theorem dX11_line_39 : decode cX11_line 39 = .ok (.getfield 153, 3) := fp_dk fp_hdX11_line_4.2.1.1.2.2
theorem dX11_line_42 : decode cX11_line 42 = .ok (.iload_n 1, 1) := fp_dk fp_hdX11_line_4.2.1.2.1.1
theorem dX11_line_43 : decode cX11_line 43 = .ok (.bipush 8, 2) := fp_dk fp_hdX11_line_4.2.1.2.1.2
theorem dX11_line_45 : decode cX11_line 45 = .ok (.imul, 1) := fp_dk fp_hdX11_line_4.2.1.2.2.1
theorem dX11_line_46 : decode cX11_line 46 = .ok (.iload_n 2, 1) := fp_dk fp_hdX11_line_4.2.1.2.2.2
theorem dX11_line_47 : decode cX11_line 47 = .ok (.iadd, 1) := fp_dk fp_hdX11_line_4.2.2.1.1.1
theorem dX11_line_48 : decode cX11_line 48 = .ok (.bipush 10, 2) := fp_dk fp_hdX11_line_4.2.2.1.1.2
theorem dX11_line_50 : decode cX11_line 50 = .ok (.isub, 1) := fp_dk fp_hdX11_line_4.2.2.1.2.1
theorem dX11_line_51 : decode cX11_line 51 = .ok (.iaload, 1) := fp_dk fp_hdX11_line_4.2.2.1.2.2
theorem dX11_line_52 : decode cX11_line 52 = .ok (.ireturn, 1) := fp_dk fp_hdX11_line_4.2.2.2.1.1
theorem dX11_line_53 : decode cX11_line 53 = .ok (.iload_n 2, 1) := fp_dk fp_hdX11_line_4.2.2.2.1.2
theorem dX11_line_54 : decode cX11_line 54 = .ok (.tableswitch 59 0 2 #[26, 36, 46], 26) := fp_dk fp_hdX11_line_4.2.2.2.2.1
theorem dX11_line_80 : decode cX11_line 80 = .ok (.aload_n 0, 1) := fp_dk fp_hdX11_line_4.2.2.2.2.2
theorem fp_hdX11_line_81 : (((((fp_dq cX11_line 81 (.getfield 23, 3) = true ∧ fp_dq cX11_line 84 (.getfield 156, 3) = true) ∧ (fp_dq cX11_line 87 (.iload_n 1, 1) = true ∧ fp_dq cX11_line 88 (.iaload, 1) = true)) ∧ ((fp_dq cX11_line 89 (.ireturn, 1) = true ∧ fp_dq cX11_line 90 (.aload_n 0, 1) = true) ∧ (fp_dq cX11_line 91 (.getfield 30, 3) = true ∧ fp_dq cX11_line 94 (.getfield 151, 3) = true))) ∧ (((fp_dq cX11_line 97 (.iload_n 1, 1) = true ∧ fp_dq cX11_line 98 (.iaload, 1) = true) ∧ (fp_dq cX11_line 99 (.ireturn, 1) = true ∧ fp_dq cX11_line 100 (.aload_n 0, 1) = true)) ∧ ((fp_dq cX11_line 101 (.getfield 30, 3) = true ∧ fp_dq cX11_line 104 (.aload_n 0, 1) = true) ∧ (fp_dq cX11_line 105 (.getfield 23, 3) = true ∧ fp_dq cX11_line 108 (.iload_n 1, 1) = true)))) ∧ ((((fp_dq cX11_line 109 (.invokevirtual 159, 3) = true ∧ fp_dq cX11_line 112 (.ireturn, 1) = true) ∧ (fp_dq cX11_line 113 (.iconst (-1), 1) = true ∧ fp_dq cX11_line 114 (.ireturn, 1) = true)) ∧ ((fp_dq cX11_visit 0 (.aload_n 0, 1) = true ∧ fp_dq cX11_visit 1 (.getfield 37, 3) = true) ∧ (fp_dq cX11_visit 4 (.iload_n 1, 1) = true ∧ fp_dq cX11_visit 5 (.invokevirtual 163, 3) = true))) ∧ (((fp_dq cX11_visit 8 (.ifCond .ne 5, 3) = true ∧ fp_dq cX11_visit 11 (.iconst (-1), 1) = true) ∧ (fp_dq cX11_visit 12 (.ireturn, 1) = true ∧ fp_dq cX11_visit 13 (.iload_n 2, 1) = true)) ∧ ((fp_dq cX11_visit 14 (.tableswitch 70 0 3 #[30, 40, 50, 60], 30) = true ∧ fp_dq cX11_visit 44 (.aload_n 0, 1) = true) ∧ (fp_dq cX11_visit 45 (.getfield 37, 3) = true ∧ fp_dq cX11_visit 48 (.getfield 166, 3) = true))))) := by decide +kernel
theorem dX11_line_81 : decode cX11_line 81 = .ok (.getfield 23, 3) := fp_dk fp_hdX11_line_81.1.1.1.1.1
theorem dX11_line_84 : decode cX11_line 84 = .ok (.getfield 156, 3) := fp_dk fp_hdX11_line_81.1.1.1.1.2
theorem dX11_line_87 : decode cX11_line 87 = .ok (.iload_n 1, 1) := fp_dk fp_hdX11_line_81.1.1.1.2.1
theorem dX11_line_88 : decode cX11_line 88 = .ok (.iaload, 1) := fp_dk fp_hdX11_line_81.1.1.1.2.2
theorem dX11_line_89 : decode cX11_line 89 = .ok (.ireturn, 1) := fp_dk fp_hdX11_line_81.1.1.2.1.1
theorem dX11_line_90 : decode cX11_line 90 = .ok (.aload_n 0, 1) := fp_dk fp_hdX11_line_81.1.1.2.1.2
theorem dX11_line_91 : decode cX11_line 91 = .ok (.getfield 30, 3) := fp_dk fp_hdX11_line_81.1.1.2.2.1
theorem dX11_line_94 : decode cX11_line 94 = .ok (.getfield 151, 3) := fp_dk fp_hdX11_line_81.1.1.2.2.2
theorem dX11_line_97 : decode cX11_line 97 = .ok (.iload_n 1, 1) := fp_dk fp_hdX11_line_81.1.2.1.1.1
theorem dX11_line_98 : decode cX11_line 98 = .ok (.iaload, 1) := fp_dk fp_hdX11_line_81.1.2.1.1.2
theorem dX11_line_99 : decode cX11_line 99 = .ok (.ireturn, 1) := fp_dk fp_hdX11_line_81.1.2.1.2.1
theorem dX11_line_100 : decode cX11_line 100 = .ok (.aload_n 0, 1) := fp_dk fp_hdX11_line_81.1.2.1.2.2
theorem dX11_line_101 : decode cX11_line 101 = .ok (.getfield 30, 3) := fp_dk fp_hdX11_line_81.1.2.2.1.1
theorem dX11_line_104 : decode cX11_line 104 = .ok (.aload_n 0, 1) := fp_dk fp_hdX11_line_81.1.2.2.1.2
theorem dX11_line_105 : decode cX11_line 105 = .ok (.getfield 23, 3) := fp_dk fp_hdX11_line_81.1.2.2.2.1
theorem dX11_line_108 : decode cX11_line 108 = .ok (.iload_n 1, 1) := fp_dk fp_hdX11_line_81.1.2.2.2.2
theorem dX11_line_109 : decode cX11_line 109 = .ok (.invokevirtual 159, 3) := fp_dk fp_hdX11_line_81.2.1.1.1.1
theorem dX11_line_112 : decode cX11_line 112 = .ok (.ireturn, 1) := fp_dk fp_hdX11_line_81.2.1.1.1.2
theorem dX11_line_113 : decode cX11_line 113 = .ok (.iconst (-1), 1) := fp_dk fp_hdX11_line_81.2.1.1.2.1
theorem dX11_line_114 : decode cX11_line 114 = .ok (.ireturn, 1) := fp_dk fp_hdX11_line_81.2.1.1.2.2
theorem dX11_visit_0 : decode cX11_visit 0 = .ok (.aload_n 0, 1) := fp_dk fp_hdX11_line_81.2.1.2.1.1
theorem dX11_visit_1 : decode cX11_visit 1 = .ok (.getfield 37, 3) := fp_dk fp_hdX11_line_81.2.1.2.1.2
theorem dX11_visit_4 : decode cX11_visit 4 = .ok (.iload_n 1, 1) := fp_dk fp_hdX11_line_81.2.1.2.2.1
theorem dX11_visit_5 : decode cX11_visit 5 = .ok (.invokevirtual 163, 3) := fp_dk fp_hdX11_line_81.2.1.2.2.2
theorem dX11_visit_8 : decode cX11_visit 8 = .ok (.ifCond .ne 5, 3) := fp_dk fp_hdX11_line_81.2.2.1.1.1
theorem dX11_visit_11 : decode cX11_visit 11 = .ok (.iconst (-1), 1) := fp_dk fp_hdX11_line_81.2.2.1.1.2
theorem dX11_visit_12 : decode cX11_visit 12 = .ok (.ireturn, 1) := fp_dk fp_hdX11_line_81.2.2.1.2.1
theorem dX11_visit_13 : decode cX11_visit 13 = .ok (.iload_n 2, 1) := fp_dk fp_hdX11_line_81.2.2.1.2.2
theorem dX11_visit_14 : decode cX11_visit 14 = .ok (.tableswitch 70 0 3 #[30, 40, 50, 60], 30) := fp_dk fp_hdX11_line_81.2.2.2.1.1
theorem dX11_visit_44 : decode cX11_visit 44 = .ok (.aload_n 0, 1) := fp_dk fp_hdX11_line_81.2.2.2.1.2
theorem dX11_visit_45 : decode cX11_visit 45 = .ok (.getfield 37, 3) := fp_dk fp_hdX11_line_81.2.2.2.2.1
theorem dX11_visit_48 : decode cX11_visit 48 = .ok (.getfield 166, 3) := fp_dk fp_hdX11_line_81.2.2.2.2.2
theorem fp_hdX11_visit_51 : (((((fp_dq cX11_visit 51 (.iload_n 1, 1) = true ∧ fp_dq cX11_visit 52 (.iaload, 1) = true) ∧ (fp_dq cX11_visit 53 (.ireturn, 1) = true ∧ fp_dq cX11_visit 54 (.aload_n 0, 1) = true)) ∧ ((fp_dq cX11_visit 55 (.getfield 37, 3) = true ∧ fp_dq cX11_visit 58 (.getfield 169, 3) = true) ∧ (fp_dq cX11_visit 61 (.iload_n 1, 1) = true ∧ fp_dq cX11_visit 62 (.iaload, 1) = true))) ∧ (((fp_dq cX11_visit 63 (.ireturn, 1) = true ∧ fp_dq cX11_visit 64 (.aload_n 0, 1) = true) ∧ (fp_dq cX11_visit 65 (.getfield 37, 3) = true ∧ fp_dq cX11_visit 68 (.getfield 172, 3) = true)) ∧ ((fp_dq cX11_visit 71 (.iload_n 1, 1) = true ∧ fp_dq cX11_visit 72 (.iaload, 1) = true) ∧ (fp_dq cX11_visit 73 (.ireturn, 1) = true ∧ fp_dq cX11_visit 74 (.aload_n 0, 1) = true)))) ∧ ((((fp_dq cX11_visit 75 (.getfield 37, 3) = true ∧ fp_dq cX11_visit 78 (.getfield 175, 3) = true) ∧ (fp_dq cX11_visit 81 (.iload_n 1, 1) = true ∧ fp_dq cX11_visit 82 (.iaload, 1) = true)) ∧ ((fp_dq cX11_visit 83 (.ireturn, 1) = true ∧ fp_dq cX11_visit 84 (.iconst (-1), 1) = true) ∧ (fp_dq cX11_visit 85 (.ireturn, 1) = true ∧ fp_dq cX11_chance 0 (.iload_n 1, 1) = true))) ∧ (((fp_dq cX11_chance 1 (.ifCond .lt 9, 3) = true ∧ fp_dq cX11_chance 4 (.iload_n 1, 1) = true) ∧ (fp_dq cX11_chance 5 (.bipush 10, 2) = true ∧ fp_dq cX11_chance 7 (.if_icmp .le 5, 3) = true)) ∧ ((fp_dq cX11_chance 10 (.iconst (-1), 1) = true ∧ fp_dq cX11_chance 11 (.ireturn, 1) = true) ∧ (fp_dq cX11_chance 12 (.aload_n 0, 1) = true ∧ fp_dq cX11_chance 13 (.getfield 23, 3) = true))))) := by decide +kernel
theorem dX11_visit_51 : decode cX11_visit 51 = .ok (.iload_n 1, 1) := fp_dk fp_hdX11_visit_51.1.1.1.1.1
theorem dX11_visit_52 : decode cX11_visit 52 = .ok (.iaload, 1) := fp_dk fp_hdX11_visit_51.1.1.1.1.2
theorem dX11_visit_53 : decode cX11_visit 53 = .ok (.ireturn, 1) := fp_dk fp_hdX11_visit_51.1.1.1.2.1
theorem dX11_visit_54 : decode cX11_visit 54 = .ok (.aload_n 0, 1) := fp_dk fp_hdX11_visit_51.1.1.1.2.2
theorem dX11_visit_55 : decode cX11_visit 55 = .ok (.getfield 37, 3) := fp_dk fp_hdX11_visit_51.1.1.2.1.1
theorem dX11_visit_58 : decode cX11_visit 58 = .ok (.getfield 169, 3) := fp_dk fp_hdX11_visit_51.1.1.2.1.2
theorem dX11_visit_61 : decode cX11_visit 61 = .ok (.iload_n 1, 1) := fp_dk fp_hdX11_visit_51.1.1.2.2.1
theorem dX11_visit_62 : decode cX11_visit 62 = .ok (.iaload, 1) := fp_dk fp_hdX11_visit_51.1.1.2.2.2
theorem dX11_visit_63 : decode cX11_visit 63 = .ok (.ireturn, 1) := fp_dk fp_hdX11_visit_51.1.2.1.1.1
theorem dX11_visit_64 : decode cX11_visit 64 = .ok (.aload_n 0, 1) := fp_dk fp_hdX11_visit_51.1.2.1.1.2
theorem dX11_visit_65 : decode cX11_visit 65 = .ok (.getfield 37, 3) := fp_dk fp_hdX11_visit_51.1.2.1.2.1
theorem dX11_visit_68 : decode cX11_visit 68 = .ok (.getfield 172, 3) := fp_dk fp_hdX11_visit_51.1.2.1.2.2
theorem dX11_visit_71 : decode cX11_visit 71 = .ok (.iload_n 1, 1) := fp_dk fp_hdX11_visit_51.1.2.2.1.1
theorem dX11_visit_72 : decode cX11_visit 72 = .ok (.iaload, 1) := fp_dk fp_hdX11_visit_51.1.2.2.1.2
theorem dX11_visit_73 : decode cX11_visit 73 = .ok (.ireturn, 1) := fp_dk fp_hdX11_visit_51.1.2.2.2.1
theorem dX11_visit_74 : decode cX11_visit 74 = .ok (.aload_n 0, 1) := fp_dk fp_hdX11_visit_51.1.2.2.2.2
theorem dX11_visit_75 : decode cX11_visit 75 = .ok (.getfield 37, 3) := fp_dk fp_hdX11_visit_51.2.1.1.1.1
theorem dX11_visit_78 : decode cX11_visit 78 = .ok (.getfield 175, 3) := fp_dk fp_hdX11_visit_51.2.1.1.1.2
theorem dX11_visit_81 : decode cX11_visit 81 = .ok (.iload_n 1, 1) := fp_dk fp_hdX11_visit_51.2.1.1.2.1
theorem dX11_visit_82 : decode cX11_visit 82 = .ok (.iaload, 1) := fp_dk fp_hdX11_visit_51.2.1.1.2.2
theorem dX11_visit_83 : decode cX11_visit 83 = .ok (.ireturn, 1) := fp_dk fp_hdX11_visit_51.2.1.2.1.1
theorem dX11_visit_84 : decode cX11_visit 84 = .ok (.iconst (-1), 1) := fp_dk fp_hdX11_visit_51.2.1.2.1.2
theorem dX11_visit_85 : decode cX11_visit 85 = .ok (.ireturn, 1) := fp_dk fp_hdX11_visit_51.2.1.2.2.1
theorem dX11_chance_0 : decode cX11_chance 0 = .ok (.iload_n 1, 1) := fp_dk fp_hdX11_visit_51.2.1.2.2.2
theorem dX11_chance_1 : decode cX11_chance 1 = .ok (.ifCond .lt 9, 3) := fp_dk fp_hdX11_visit_51.2.2.1.1.1
theorem dX11_chance_4 : decode cX11_chance 4 = .ok (.iload_n 1, 1) := fp_dk fp_hdX11_visit_51.2.2.1.1.2
theorem dX11_chance_5 : decode cX11_chance 5 = .ok (.bipush 10, 2) := fp_dk fp_hdX11_visit_51.2.2.1.2.1
theorem dX11_chance_7 : decode cX11_chance 7 = .ok (.if_icmp .le 5, 3) := fp_dk fp_hdX11_visit_51.2.2.1.2.2
theorem dX11_chance_10 : decode cX11_chance 10 = .ok (.iconst (-1), 1) := fp_dk fp_hdX11_visit_51.2.2.2.1.1
theorem dX11_chance_11 : decode cX11_chance 11 = .ok (.ireturn, 1) := fp_dk fp_hdX11_visit_51.2.2.2.1.2
theorem dX11_chance_12 : decode cX11_chance 12 = .ok (.aload_n 0, 1) := fp_dk fp_hdX11_visit_51.2.2.2.2.1
theorem dX11_chance_13 : decode cX11_chance 13 = .ok (.getfield 23, 3) := fp_dk fp_hdX11_visit_51.2.2.2.2.2
theorem fp_hdX11_chance_16 : (((((fp_dq cX11_chance 16 (.getfield 178, 3) = true ∧ fp_dq cX11_chance 19 (.istore_n 2, 1) = true) ∧ (fp_dq cX11_chance 20 (.aload_n 0, 1) = true ∧ fp_dq cX11_chance 21 (.getfield 23, 3) = true)) ∧ ((fp_dq cX11_chance 24 (.iload_n 1, 1) = true ∧ fp_dq cX11_chance 25 (.putfield 178, 3) = true) ∧ (fp_dq cX11_chance 28 (.iload_n 2, 1) = true ∧ fp_dq cX11_chance 29 (.ireturn, 1) = true))) ∧ (((fp_dq cX11_holds 0 (.iload_n 1, 1) = true ∧ fp_dq cX11_holds 1 (.invokestatic 181, 3) = true) ∧ (fp_dq cX11_holds 4 (.ifCond .eq 14, 3) = true ∧ fp_dq cX11_holds 7 (.aload_n 0, 1) = true)) ∧ ((fp_dq cX11_holds 8 (.getfield 30, 3) = true ∧ fp_dq cX11_holds 11 (.iload_n 1, 1) = true) ∧ (fp_dq cX11_holds 12 (.invokevirtual 184, 3) = true ∧ fp_dq cX11_holds 15 (.goto 4, 3) = true)))) ∧ ((((fp_dq cX11_holds 18 (.iconst (-1), 1) = true ∧ fp_dq cX11_holds 19 (.ireturn, 1) = true) ∧ (fp_dq cX11_worth 0 (.iload_n 1, 1) = true ∧ fp_dq cX11_worth 1 (.invokestatic 181, 3) = true)) ∧ ((fp_dq cX11_worth 4 (.ifCond .eq 18, 3) = true ∧ fp_dq cX11_worth 7 (.aload_n 0, 1) = true) ∧ (fp_dq cX11_worth 8 (.getfield 30, 3) = true ∧ fp_dq cX11_worth 11 (.aload_n 0, 1) = true))) ∧ (((fp_dq cX11_worth 12 (.getfield 23, 3) = true ∧ fp_dq cX11_worth 15 (.iload_n 1, 1) = true) ∧ (fp_dq cX11_worth 16 (.invokevirtual 187, 3) = true ∧ fp_dq cX11_worth 19 (.goto 4, 3) = true)) ∧ ((fp_dq cX11_worth 22 (.iconst (-1), 1) = true ∧ fp_dq cX11_worth 23 (.ireturn, 1) = true) ∧ (fp_dq cX11_put 0 (.iload_n 1, 1) = true ∧ fp_dq cX11_put 1 (.invokestatic 181, 3) = true))))) := by decide +kernel
theorem dX11_chance_16 : decode cX11_chance 16 = .ok (.getfield 178, 3) := fp_dk fp_hdX11_chance_16.1.1.1.1.1
theorem dX11_chance_19 : decode cX11_chance 19 = .ok (.istore_n 2, 1) := fp_dk fp_hdX11_chance_16.1.1.1.1.2
theorem dX11_chance_20 : decode cX11_chance 20 = .ok (.aload_n 0, 1) := fp_dk fp_hdX11_chance_16.1.1.1.2.1
theorem dX11_chance_21 : decode cX11_chance 21 = .ok (.getfield 23, 3) := fp_dk fp_hdX11_chance_16.1.1.1.2.2
theorem dX11_chance_24 : decode cX11_chance 24 = .ok (.iload_n 1, 1) := fp_dk fp_hdX11_chance_16.1.1.2.1.1
theorem dX11_chance_25 : decode cX11_chance 25 = .ok (.putfield 178, 3) := fp_dk fp_hdX11_chance_16.1.1.2.1.2
theorem dX11_chance_28 : decode cX11_chance 28 = .ok (.iload_n 2, 1) := fp_dk fp_hdX11_chance_16.1.1.2.2.1
theorem dX11_chance_29 : decode cX11_chance 29 = .ok (.ireturn, 1) := fp_dk fp_hdX11_chance_16.1.1.2.2.2
theorem dX11_holds_0 : decode cX11_holds 0 = .ok (.iload_n 1, 1) := fp_dk fp_hdX11_chance_16.1.2.1.1.1
theorem dX11_holds_1 : decode cX11_holds 1 = .ok (.invokestatic 181, 3) := fp_dk fp_hdX11_chance_16.1.2.1.1.2
theorem dX11_holds_4 : decode cX11_holds 4 = .ok (.ifCond .eq 14, 3) := fp_dk fp_hdX11_chance_16.1.2.1.2.1
theorem dX11_holds_7 : decode cX11_holds 7 = .ok (.aload_n 0, 1) := fp_dk fp_hdX11_chance_16.1.2.1.2.2
theorem dX11_holds_8 : decode cX11_holds 8 = .ok (.getfield 30, 3) := fp_dk fp_hdX11_chance_16.1.2.2.1.1
theorem dX11_holds_11 : decode cX11_holds 11 = .ok (.iload_n 1, 1) := fp_dk fp_hdX11_chance_16.1.2.2.1.2
theorem dX11_holds_12 : decode cX11_holds 12 = .ok (.invokevirtual 184, 3) := fp_dk fp_hdX11_chance_16.1.2.2.2.1
theorem dX11_holds_15 : decode cX11_holds 15 = .ok (.goto 4, 3) := fp_dk fp_hdX11_chance_16.1.2.2.2.2
theorem dX11_holds_18 : decode cX11_holds 18 = .ok (.iconst (-1), 1) := fp_dk fp_hdX11_chance_16.2.1.1.1.1
theorem dX11_holds_19 : decode cX11_holds 19 = .ok (.ireturn, 1) := fp_dk fp_hdX11_chance_16.2.1.1.1.2
theorem dX11_worth_0 : decode cX11_worth 0 = .ok (.iload_n 1, 1) := fp_dk fp_hdX11_chance_16.2.1.1.2.1
theorem dX11_worth_1 : decode cX11_worth 1 = .ok (.invokestatic 181, 3) := fp_dk fp_hdX11_chance_16.2.1.1.2.2
theorem dX11_worth_4 : decode cX11_worth 4 = .ok (.ifCond .eq 18, 3) := fp_dk fp_hdX11_chance_16.2.1.2.1.1
theorem dX11_worth_7 : decode cX11_worth 7 = .ok (.aload_n 0, 1) := fp_dk fp_hdX11_chance_16.2.1.2.1.2
theorem dX11_worth_8 : decode cX11_worth 8 = .ok (.getfield 30, 3) := fp_dk fp_hdX11_chance_16.2.1.2.2.1
theorem dX11_worth_11 : decode cX11_worth 11 = .ok (.aload_n 0, 1) := fp_dk fp_hdX11_chance_16.2.1.2.2.2
theorem dX11_worth_12 : decode cX11_worth 12 = .ok (.getfield 23, 3) := fp_dk fp_hdX11_chance_16.2.2.1.1.1
theorem dX11_worth_15 : decode cX11_worth 15 = .ok (.iload_n 1, 1) := fp_dk fp_hdX11_chance_16.2.2.1.1.2
theorem dX11_worth_16 : decode cX11_worth 16 = .ok (.invokevirtual 187, 3) := fp_dk fp_hdX11_chance_16.2.2.1.2.1
theorem dX11_worth_19 : decode cX11_worth 19 = .ok (.goto 4, 3) := fp_dk fp_hdX11_chance_16.2.2.1.2.2
theorem dX11_worth_22 : decode cX11_worth 22 = .ok (.iconst (-1), 1) := fp_dk fp_hdX11_chance_16.2.2.2.1.1
theorem dX11_worth_23 : decode cX11_worth 23 = .ok (.ireturn, 1) := fp_dk fp_hdX11_chance_16.2.2.2.1.2
theorem dX11_put_0 : decode cX11_put 0 = .ok (.iload_n 1, 1) := fp_dk fp_hdX11_chance_16.2.2.2.2.1
theorem dX11_put_1 : decode cX11_put 1 = .ok (.invokestatic 181, 3) := fp_dk fp_hdX11_chance_16.2.2.2.2.2
theorem fp_hdX11_put_4 : (((((fp_dq cX11_put 4 (.ifCond .eq 25, 3) = true ∧ fp_dq cX11_put 7 (.aload_n 0, 1) = true) ∧ (fp_dq cX11_put 8 (.getfield 23, 3) = true ∧ fp_dq cX11_put 11 (.iload_n 2, 1) = true)) ∧ ((fp_dq cX11_put 12 (.invokevirtual 126, 3) = true ∧ fp_dq cX11_put 15 (.ifCond .eq 14, 3) = true) ∧ (fp_dq cX11_put 18 (.aload_n 0, 1) = true ∧ fp_dq cX11_put 19 (.getfield 23, 3) = true))) ∧ (((fp_dq cX11_put 22 (.iload_n 3, 1) = true ∧ fp_dq cX11_put 23 (.invokevirtual 148, 3) = true) ∧ (fp_dq cX11_put 26 (.ifCond .ne 5, 3) = true ∧ fp_dq cX11_put 29 (.iconst (-1), 1) = true)) ∧ ((fp_dq cX11_put 30 (.ireturn, 1) = true ∧ fp_dq cX11_put 31 (.aload_n 0, 1) = true) ∧ (fp_dq cX11_put 32 (.getfield 30, 3) = true ∧ fp_dq cX11_put 35 (.getfield 138, 3) = true)))) ∧ ((((fp_dq cX11_put 38 (.iload_n 2, 1) = true ∧ fp_dq cX11_put 39 (.iaload, 1) = true) ∧ (fp_dq cX11_put 40 (.iload_n 1, 1) = true ∧ fp_dq cX11_put 41 (.if_icmp .eq 6, 3) = true)) ∧ ((fp_dq cX11_put 44 (.bipush (-2), 2) = true ∧ fp_dq cX11_put 46 (.ireturn, 1) = true) ∧ (fp_dq cX11_put 47 (.aload_n 0, 1) = true ∧ fp_dq cX11_put 48 (.getfield 30, 3) = true))) ∧ (((fp_dq cX11_put 51 (.iload_n 1, 1) = true ∧ fp_dq cX11_put 52 (.iload_n 2, 1) = true) ∧ (fp_dq cX11_put 53 (.iload_n 3, 1) = true ∧ fp_dq cX11_put 54 (.invokevirtual 190, 3) = true)) ∧ ((fp_dq cX11_put 57 (.ifCond .eq 17, 3) = true ∧ fp_dq cX11_put 60 (.aload_n 0, 1) = true) ∧ (fp_dq cX11_put 61 (.getfield 30, 3) = true ∧ fp_dq cX11_put 64 (.getfield 151, 3) = true))))) := by decide +kernel
theorem dX11_put_4 : decode cX11_put 4 = .ok (.ifCond .eq 25, 3) := fp_dk fp_hdX11_put_4.1.1.1.1.1
theorem dX11_put_7 : decode cX11_put 7 = .ok (.aload_n 0, 1) := fp_dk fp_hdX11_put_4.1.1.1.1.2
theorem dX11_put_8 : decode cX11_put 8 = .ok (.getfield 23, 3) := fp_dk fp_hdX11_put_4.1.1.1.2.1
theorem dX11_put_11 : decode cX11_put 11 = .ok (.iload_n 2, 1) := fp_dk fp_hdX11_put_4.1.1.1.2.2
theorem dX11_put_12 : decode cX11_put 12 = .ok (.invokevirtual 126, 3) := fp_dk fp_hdX11_put_4.1.1.2.1.1
theorem dX11_put_15 : decode cX11_put 15 = .ok (.ifCond .eq 14, 3) := fp_dk fp_hdX11_put_4.1.1.2.1.2
theorem dX11_put_18 : decode cX11_put 18 = .ok (.aload_n 0, 1) := fp_dk fp_hdX11_put_4.1.1.2.2.1
theorem dX11_put_19 : decode cX11_put 19 = .ok (.getfield 23, 3) := fp_dk fp_hdX11_put_4.1.1.2.2.2
theorem dX11_put_22 : decode cX11_put 22 = .ok (.iload_n 3, 1) := fp_dk fp_hdX11_put_4.1.2.1.1.1
theorem dX11_put_23 : decode cX11_put 23 = .ok (.invokevirtual 148, 3) := fp_dk fp_hdX11_put_4.1.2.1.1.2
theorem dX11_put_26 : decode cX11_put 26 = .ok (.ifCond .ne 5, 3) := fp_dk fp_hdX11_put_4.1.2.1.2.1
theorem dX11_put_29 : decode cX11_put 29 = .ok (.iconst (-1), 1) := fp_dk fp_hdX11_put_4.1.2.1.2.2
theorem dX11_put_30 : decode cX11_put 30 = .ok (.ireturn, 1) := fp_dk fp_hdX11_put_4.1.2.2.1.1
theorem dX11_put_31 : decode cX11_put 31 = .ok (.aload_n 0, 1) := fp_dk fp_hdX11_put_4.1.2.2.1.2
theorem dX11_put_32 : decode cX11_put 32 = .ok (.getfield 30, 3) := fp_dk fp_hdX11_put_4.1.2.2.2.1
theorem dX11_put_35 : decode cX11_put 35 = .ok (.getfield 138, 3) := fp_dk fp_hdX11_put_4.1.2.2.2.2
theorem dX11_put_38 : decode cX11_put 38 = .ok (.iload_n 2, 1) := fp_dk fp_hdX11_put_4.2.1.1.1.1
theorem dX11_put_39 : decode cX11_put 39 = .ok (.iaload, 1) := fp_dk fp_hdX11_put_4.2.1.1.1.2
theorem dX11_put_40 : decode cX11_put 40 = .ok (.iload_n 1, 1) := fp_dk fp_hdX11_put_4.2.1.1.2.1
theorem dX11_put_41 : decode cX11_put 41 = .ok (.if_icmp .eq 6, 3) := fp_dk fp_hdX11_put_4.2.1.1.2.2
theorem dX11_put_44 : decode cX11_put 44 = .ok (.bipush (-2), 2) := fp_dk fp_hdX11_put_4.2.1.2.1.1
theorem dX11_put_46 : decode cX11_put 46 = .ok (.ireturn, 1) := fp_dk fp_hdX11_put_4.2.1.2.1.2
theorem dX11_put_47 : decode cX11_put 47 = .ok (.aload_n 0, 1) := fp_dk fp_hdX11_put_4.2.1.2.2.1
theorem dX11_put_48 : decode cX11_put 48 = .ok (.getfield 30, 3) := fp_dk fp_hdX11_put_4.2.1.2.2.2
theorem dX11_put_51 : decode cX11_put 51 = .ok (.iload_n 1, 1) := fp_dk fp_hdX11_put_4.2.2.1.1.1
theorem dX11_put_52 : decode cX11_put 52 = .ok (.iload_n 2, 1) := fp_dk fp_hdX11_put_4.2.2.1.1.2
theorem dX11_put_53 : decode cX11_put 53 = .ok (.iload_n 3, 1) := fp_dk fp_hdX11_put_4.2.2.1.2.1
theorem dX11_put_54 : decode cX11_put 54 = .ok (.invokevirtual 190, 3) := fp_dk fp_hdX11_put_4.2.2.1.2.2
theorem dX11_put_57 : decode cX11_put 57 = .ok (.ifCond .eq 17, 3) := fp_dk fp_hdX11_put_4.2.2.2.1.1
theorem dX11_put_60 : decode cX11_put 60 = .ok (.aload_n 0, 1) := fp_dk fp_hdX11_put_4.2.2.2.1.2
theorem dX11_put_61 : decode cX11_put 61 = .ok (.getfield 30, 3) := fp_dk fp_hdX11_put_4.2.2.2.2.1
theorem dX11_put_64 : decode cX11_put 64 = .ok (.getfield 151, 3) := fp_dk fp_hdX11_put_4.2.2.2.2.2
theorem fp_hdX11_put_67 : (((((fp_dq cX11_put 67 (.iload_n 3, 1) = true ∧ fp_dq cX11_put 68 (.iaload, 1) = true) ∧ (fp_dq cX11_put 69 (.iconst 1, 1) = true ∧ fp_dq cX11_put 70 (.isub, 1) = true)) ∧ ((fp_dq cX11_put 71 (.goto 5, 3) = true ∧ fp_dq cX11_put 74 (.bipush (-3), 2) = true) ∧ (fp_dq cX11_put 76 (.ireturn, 1) = true ∧ fp_dq cX11_draw 0 (.iload_n 1, 1) = true))) ∧ (((fp_dq cX11_draw 1 (.invokestatic 181, 3) = true ∧ fp_dq cX11_draw 4 (.ifCond .eq 14, 3) = true) ∧ (fp_dq cX11_draw 7 (.aload_n 0, 1) = true ∧ fp_dq cX11_draw 8 (.getfield 23, 3) = true)) ∧ ((fp_dq cX11_draw 11 (.iload_n 2, 1) = true ∧ fp_dq cX11_draw 12 (.invokevirtual 148, 3) = true) ∧ (fp_dq cX11_draw 15 (.ifCond .ne 5, 3) = true ∧ fp_dq cX11_draw 18 (.iconst (-1), 1) = true)))) ∧ ((((fp_dq cX11_draw 19 (.ireturn, 1) = true ∧ fp_dq cX11_draw 20 (.aload_n 0, 1) = true) ∧ (fp_dq cX11_draw 21 (.getfield 30, 3) = true ∧ fp_dq cX11_draw 24 (.aload_n 0, 1) = true)) ∧ ((fp_dq cX11_draw 25 (.getfield 23, 3) = true ∧ fp_dq cX11_draw 28 (.iload_n 1, 1) = true) ∧ (fp_dq cX11_draw 29 (.iload_n 2, 1) = true ∧ fp_dq cX11_draw 30 (.invokevirtual 194, 3) = true))) ∧ (((fp_dq cX11_draw 33 (.ireturn, 1) = true ∧ fp_dq cX11_slip 0 (.aload_n 0, 1) = true) ∧ (fp_dq cX11_slip 1 (.getfield 23, 3) = true ∧ fp_dq cX11_slip 4 (.iload_n 1, 1) = true)) ∧ ((fp_dq cX11_slip 5 (.invokevirtual 126, 3) = true ∧ fp_dq cX11_slip 8 (.ifCond .eq 31, 3) = true) ∧ (fp_dq cX11_slip 11 (.aload_n 0, 1) = true ∧ fp_dq cX11_slip 12 (.getfield 23, 3) = true))))) := by decide +kernel
theorem dX11_put_67 : decode cX11_put 67 = .ok (.iload_n 3, 1) := fp_dk fp_hdX11_put_67.1.1.1.1.1
theorem dX11_put_68 : decode cX11_put 68 = .ok (.iaload, 1) := fp_dk fp_hdX11_put_67.1.1.1.1.2
theorem dX11_put_69 : decode cX11_put 69 = .ok (.iconst 1, 1) := fp_dk fp_hdX11_put_67.1.1.1.2.1
theorem dX11_put_70 : decode cX11_put 70 = .ok (.isub, 1) := fp_dk fp_hdX11_put_67.1.1.1.2.2
theorem dX11_put_71 : decode cX11_put 71 = .ok (.goto 5, 3) := fp_dk fp_hdX11_put_67.1.1.2.1.1
theorem dX11_put_74 : decode cX11_put 74 = .ok (.bipush (-3), 2) := fp_dk fp_hdX11_put_67.1.1.2.1.2
theorem dX11_put_76 : decode cX11_put 76 = .ok (.ireturn, 1) := fp_dk fp_hdX11_put_67.1.1.2.2.1
theorem dX11_draw_0 : decode cX11_draw 0 = .ok (.iload_n 1, 1) := fp_dk fp_hdX11_put_67.1.1.2.2.2
theorem dX11_draw_1 : decode cX11_draw 1 = .ok (.invokestatic 181, 3) := fp_dk fp_hdX11_put_67.1.2.1.1.1
theorem dX11_draw_4 : decode cX11_draw 4 = .ok (.ifCond .eq 14, 3) := fp_dk fp_hdX11_put_67.1.2.1.1.2
theorem dX11_draw_7 : decode cX11_draw 7 = .ok (.aload_n 0, 1) := fp_dk fp_hdX11_put_67.1.2.1.2.1
theorem dX11_draw_8 : decode cX11_draw 8 = .ok (.getfield 23, 3) := fp_dk fp_hdX11_put_67.1.2.1.2.2
theorem dX11_draw_11 : decode cX11_draw 11 = .ok (.iload_n 2, 1) := fp_dk fp_hdX11_put_67.1.2.2.1.1
theorem dX11_draw_12 : decode cX11_draw 12 = .ok (.invokevirtual 148, 3) := fp_dk fp_hdX11_put_67.1.2.2.1.2
theorem dX11_draw_15 : decode cX11_draw 15 = .ok (.ifCond .ne 5, 3) := fp_dk fp_hdX11_put_67.1.2.2.2.1
theorem dX11_draw_18 : decode cX11_draw 18 = .ok (.iconst (-1), 1) := fp_dk fp_hdX11_put_67.1.2.2.2.2
theorem dX11_draw_19 : decode cX11_draw 19 = .ok (.ireturn, 1) := fp_dk fp_hdX11_put_67.2.1.1.1.1
theorem dX11_draw_20 : decode cX11_draw 20 = .ok (.aload_n 0, 1) := fp_dk fp_hdX11_put_67.2.1.1.1.2
theorem dX11_draw_21 : decode cX11_draw 21 = .ok (.getfield 30, 3) := fp_dk fp_hdX11_put_67.2.1.1.2.1
theorem dX11_draw_24 : decode cX11_draw 24 = .ok (.aload_n 0, 1) := fp_dk fp_hdX11_put_67.2.1.1.2.2
theorem dX11_draw_25 : decode cX11_draw 25 = .ok (.getfield 23, 3) := fp_dk fp_hdX11_put_67.2.1.2.1.1
theorem dX11_draw_28 : decode cX11_draw 28 = .ok (.iload_n 1, 1) := fp_dk fp_hdX11_put_67.2.1.2.1.2
theorem dX11_draw_29 : decode cX11_draw 29 = .ok (.iload_n 2, 1) := fp_dk fp_hdX11_put_67.2.1.2.2.1
theorem dX11_draw_30 : decode cX11_draw 30 = .ok (.invokevirtual 194, 3) := fp_dk fp_hdX11_put_67.2.1.2.2.2
theorem dX11_draw_33 : decode cX11_draw 33 = .ok (.ireturn, 1) := fp_dk fp_hdX11_put_67.2.2.1.1.1
theorem dX11_slip_0 : decode cX11_slip 0 = .ok (.aload_n 0, 1) := fp_dk fp_hdX11_put_67.2.2.1.1.2
theorem dX11_slip_1 : decode cX11_slip 1 = .ok (.getfield 23, 3) := fp_dk fp_hdX11_put_67.2.2.1.2.1
theorem dX11_slip_4 : decode cX11_slip 4 = .ok (.iload_n 1, 1) := fp_dk fp_hdX11_put_67.2.2.1.2.2
theorem dX11_slip_5 : decode cX11_slip 5 = .ok (.invokevirtual 126, 3) := fp_dk fp_hdX11_put_67.2.2.2.1.1
theorem dX11_slip_8 : decode cX11_slip 8 = .ok (.ifCond .eq 31, 3) := fp_dk fp_hdX11_put_67.2.2.2.1.2
theorem dX11_slip_11 : decode cX11_slip 11 = .ok (.aload_n 0, 1) := fp_dk fp_hdX11_put_67.2.2.2.2.1
theorem dX11_slip_12 : decode cX11_slip 12 = .ok (.getfield 23, 3) := fp_dk fp_hdX11_put_67.2.2.2.2.2
theorem fp_hdX11_slip_15 : (((((fp_dq cX11_slip 15 (.iload_n 2, 1) = true ∧ fp_dq cX11_slip 16 (.invokevirtual 148, 3) = true) ∧ (fp_dq cX11_slip 19 (.ifCond .eq 20, 3) = true ∧ fp_dq cX11_slip 22 (.iload_n 3, 1) = true)) ∧ ((fp_dq cX11_slip 23 (.ifCond .lt 16, 3) = true ∧ fp_dq cX11_slip 26 (.iload_n 3, 1) = true) ∧ (fp_dq cX11_slip 27 (.aload_n 0, 1) = true ∧ fp_dq cX11_slip 28 (.getfield 30, 3) = true))) ∧ (((fp_dq cX11_slip 31 (.getfield 151, 3) = true ∧ fp_dq cX11_slip 34 (.iload_n 2, 1) = true) ∧ (fp_dq cX11_slip 35 (.iaload, 1) = true ∧ fp_dq cX11_slip 36 (.if_icmp .le 5, 3) = true)) ∧ ((fp_dq cX11_slip 39 (.iconst (-1), 1) = true ∧ fp_dq cX11_slip 40 (.ireturn, 1) = true) ∧ (fp_dq cX11_slip 41 (.aload_n 0, 1) = true ∧ fp_dq cX11_slip 42 (.getfield 30, 3) = true)))) ∧ ((((fp_dq cX11_slip 45 (.getfield 138, 3) = true ∧ fp_dq cX11_slip 48 (.iload_n 1, 1) = true) ∧ (fp_dq cX11_slip 49 (.iaload, 1) = true ∧ fp_dq cX11_slip 50 (.invokestatic 181, 3) = true)) ∧ ((fp_dq cX11_slip 53 (.ifCond .ne 6, 3) = true ∧ fp_dq cX11_slip 56 (.bipush (-2), 2) = true) ∧ (fp_dq cX11_slip 58 (.ireturn, 1) = true ∧ fp_dq cX11_slip 59 (.aload_n 0, 1) = true))) ∧ (((fp_dq cX11_slip 60 (.getfield 30, 3) = true ∧ fp_dq cX11_slip 63 (.iload_n 1, 1) = true) ∧ (fp_dq cX11_slip 64 (.iload_n 2, 1) = true ∧ fp_dq cX11_slip 65 (.iload_n 3, 1) = true)) ∧ ((fp_dq cX11_slip 66 (.invokevirtual 198, 3) = true ∧ fp_dq cX11_slip 69 (.ifCond .eq 15, 3) = true) ∧ (fp_dq cX11_slip 72 (.aload_n 0, 1) = true ∧ fp_dq cX11_slip 73 (.getfield 30, 3) = true))))) := by decide +kernel
theorem dX11_slip_15 : decode cX11_slip 15 = .ok (.iload_n 2, 1) := fp_dk fp_hdX11_slip_15.1.1.1.1.1
theorem dX11_slip_16 : decode cX11_slip 16 = .ok (.invokevirtual 148, 3) := fp_dk fp_hdX11_slip_15.1.1.1.1.2
theorem dX11_slip_19 : decode cX11_slip 19 = .ok (.ifCond .eq 20, 3) := fp_dk fp_hdX11_slip_15.1.1.1.2.1
theorem dX11_slip_22 : decode cX11_slip 22 = .ok (.iload_n 3, 1) := fp_dk fp_hdX11_slip_15.1.1.1.2.2
theorem dX11_slip_23 : decode cX11_slip 23 = .ok (.ifCond .lt 16, 3) := fp_dk fp_hdX11_slip_15.1.1.2.1.1
theorem dX11_slip_26 : decode cX11_slip 26 = .ok (.iload_n 3, 1) := fp_dk fp_hdX11_slip_15.1.1.2.1.2
theorem dX11_slip_27 : decode cX11_slip 27 = .ok (.aload_n 0, 1) := fp_dk fp_hdX11_slip_15.1.1.2.2.1
theorem dX11_slip_28 : decode cX11_slip 28 = .ok (.getfield 30, 3) := fp_dk fp_hdX11_slip_15.1.1.2.2.2
theorem dX11_slip_31 : decode cX11_slip 31 = .ok (.getfield 151, 3) := fp_dk fp_hdX11_slip_15.1.2.1.1.1
theorem dX11_slip_34 : decode cX11_slip 34 = .ok (.iload_n 2, 1) := fp_dk fp_hdX11_slip_15.1.2.1.1.2
theorem dX11_slip_35 : decode cX11_slip 35 = .ok (.iaload, 1) := fp_dk fp_hdX11_slip_15.1.2.1.2.1
theorem dX11_slip_36 : decode cX11_slip 36 = .ok (.if_icmp .le 5, 3) := fp_dk fp_hdX11_slip_15.1.2.1.2.2
theorem dX11_slip_39 : decode cX11_slip 39 = .ok (.iconst (-1), 1) := fp_dk fp_hdX11_slip_15.1.2.2.1.1
theorem dX11_slip_40 : decode cX11_slip 40 = .ok (.ireturn, 1) := fp_dk fp_hdX11_slip_15.1.2.2.1.2
theorem dX11_slip_41 : decode cX11_slip 41 = .ok (.aload_n 0, 1) := fp_dk fp_hdX11_slip_15.1.2.2.2.1
theorem dX11_slip_42 : decode cX11_slip 42 = .ok (.getfield 30, 3) := fp_dk fp_hdX11_slip_15.1.2.2.2.2
theorem dX11_slip_45 : decode cX11_slip 45 = .ok (.getfield 138, 3) := fp_dk fp_hdX11_slip_15.2.1.1.1.1
theorem dX11_slip_48 : decode cX11_slip 48 = .ok (.iload_n 1, 1) := fp_dk fp_hdX11_slip_15.2.1.1.1.2
theorem dX11_slip_49 : decode cX11_slip 49 = .ok (.iaload, 1) := fp_dk fp_hdX11_slip_15.2.1.1.2.1
theorem dX11_slip_50 : decode cX11_slip 50 = .ok (.invokestatic 181, 3) := fp_dk fp_hdX11_slip_15.2.1.1.2.2
theorem dX11_slip_53 : decode cX11_slip 53 = .ok (.ifCond .ne 6, 3) := fp_dk fp_hdX11_slip_15.2.1.2.1.1
theorem dX11_slip_56 : decode cX11_slip 56 = .ok (.bipush (-2), 2) := fp_dk fp_hdX11_slip_15.2.1.2.1.2
theorem dX11_slip_58 : decode cX11_slip 58 = .ok (.ireturn, 1) := fp_dk fp_hdX11_slip_15.2.1.2.2.1
theorem dX11_slip_59 : decode cX11_slip 59 = .ok (.aload_n 0, 1) := fp_dk fp_hdX11_slip_15.2.1.2.2.2
theorem dX11_slip_60 : decode cX11_slip 60 = .ok (.getfield 30, 3) := fp_dk fp_hdX11_slip_15.2.2.1.1.1
theorem dX11_slip_63 : decode cX11_slip 63 = .ok (.iload_n 1, 1) := fp_dk fp_hdX11_slip_15.2.2.1.1.2
theorem dX11_slip_64 : decode cX11_slip 64 = .ok (.iload_n 2, 1) := fp_dk fp_hdX11_slip_15.2.2.1.2.1
theorem dX11_slip_65 : decode cX11_slip 65 = .ok (.iload_n 3, 1) := fp_dk fp_hdX11_slip_15.2.2.1.2.2
theorem dX11_slip_66 : decode cX11_slip 66 = .ok (.invokevirtual 198, 3) := fp_dk fp_hdX11_slip_15.2.2.2.1.1
theorem dX11_slip_69 : decode cX11_slip 69 = .ok (.ifCond .eq 15, 3) := fp_dk fp_hdX11_slip_15.2.2.2.1.2
theorem dX11_slip_72 : decode cX11_slip 72 = .ok (.aload_n 0, 1) := fp_dk fp_hdX11_slip_15.2.2.2.2.1
theorem dX11_slip_73 : decode cX11_slip 73 = .ok (.getfield 30, 3) := fp_dk fp_hdX11_slip_15.2.2.2.2.2
theorem fp_hdX11_slip_76 : (((((fp_dq cX11_slip 76 (.getfield 151, 3) = true ∧ fp_dq cX11_slip 79 (.iload_n 2, 1) = true) ∧ (fp_dq cX11_slip 80 (.iaload, 1) = true ∧ fp_dq cX11_slip 81 (.goto 5, 3) = true)) ∧ ((fp_dq cX11_slip 84 (.bipush (-3), 2) = true ∧ fp_dq cX11_slip 86 (.ireturn, 1) = true) ∧ (fp_dq cX11_come 0 (.aload_n 0, 1) = true ∧ fp_dq cX11_come 1 (.iload_n 1, 1) = true))) ∧ (((fp_dq cX11_come 2 (.iload_n 2, 1) = true ∧ fp_dq cX11_come 3 (.iload_n 3, 1) = true) ∧ (fp_dq cX11_come 4 (.iload 4, 2) = true ∧ fp_dq cX11_come 6 (.invokevirtual 201, 3) = true)) ∧ ((fp_dq cX11_come 9 (.ireturn, 1) = true ∧ fp_dq cX11_cut 0 (.iload_n 1, 1) = true) ∧ (fp_dq cX11_cut 1 (.ifCond .lt 14, 3) = true ∧ fp_dq cX11_cut 4 (.iload_n 1, 1) = true)))) ∧ ((((fp_dq cX11_cut 5 (.aload_n 0, 1) = true ∧ fp_dq cX11_cut 6 (.getfield 37, 3) = true) ∧ (fp_dq cX11_cut 9 (.getfield 205, 3) = true ∧ fp_dq cX11_cut 12 (.if_icmp .le 5, 3) = true)) ∧ ((fp_dq cX11_cut 15 (.iconst (-1), 1) = true ∧ fp_dq cX11_cut 16 (.ireturn, 1) = true) ∧ (fp_dq cX11_cut 17 (.aload_n 0, 1) = true ∧ fp_dq cX11_cut 18 (.getfield 37, 3) = true))) ∧ (((fp_dq cX11_cut 21 (.getfield 205, 3) = true ∧ fp_dq cX11_cut 24 (.istore_n 2, 1) = true) ∧ (fp_dq cX11_cut 25 (.aload_n 0, 1) = true ∧ fp_dq cX11_cut 26 (.getfield 37, 3) = true)) ∧ ((fp_dq cX11_cut 29 (.iload_n 1, 1) = true ∧ fp_dq cX11_cut 30 (.putfield 205, 3) = true) ∧ (fp_dq cX11_cut 33 (.iload_n 2, 1) = true ∧ fp_dq cX11_cut 34 (.ireturn, 1) = true))))) := by decide +kernel
theorem dX11_slip_76 : decode cX11_slip 76 = .ok (.getfield 151, 3) := fp_dk fp_hdX11_slip_76.1.1.1.1.1
theorem dX11_slip_79 : decode cX11_slip 79 = .ok (.iload_n 2, 1) := fp_dk fp_hdX11_slip_76.1.1.1.1.2
theorem dX11_slip_80 : decode cX11_slip 80 = .ok (.iaload, 1) := fp_dk fp_hdX11_slip_76.1.1.1.2.1
theorem dX11_slip_81 : decode cX11_slip 81 = .ok (.goto 5, 3) := fp_dk fp_hdX11_slip_76.1.1.1.2.2
theorem dX11_slip_84 : decode cX11_slip 84 = .ok (.bipush (-3), 2) := fp_dk fp_hdX11_slip_76.1.1.2.1.1
theorem dX11_slip_86 : decode cX11_slip 86 = .ok (.ireturn, 1) := fp_dk fp_hdX11_slip_76.1.1.2.1.2
theorem dX11_come_0 : decode cX11_come 0 = .ok (.aload_n 0, 1) := fp_dk fp_hdX11_slip_76.1.1.2.2.1
theorem dX11_come_1 : decode cX11_come 1 = .ok (.iload_n 1, 1) := fp_dk fp_hdX11_slip_76.1.1.2.2.2
theorem dX11_come_2 : decode cX11_come 2 = .ok (.iload_n 2, 1) := fp_dk fp_hdX11_slip_76.1.2.1.1.1
theorem dX11_come_3 : decode cX11_come 3 = .ok (.iload_n 3, 1) := fp_dk fp_hdX11_slip_76.1.2.1.1.2
theorem dX11_come_4 : decode cX11_come 4 = .ok (.iload 4, 2) := fp_dk fp_hdX11_slip_76.1.2.1.2.1
theorem dX11_come_6 : decode cX11_come 6 = .ok (.invokevirtual 201, 3) := fp_dk fp_hdX11_slip_76.1.2.1.2.2
theorem dX11_come_9 : decode cX11_come 9 = .ok (.ireturn, 1) := fp_dk fp_hdX11_slip_76.1.2.2.1.1
theorem dX11_cut_0 : decode cX11_cut 0 = .ok (.iload_n 1, 1) := fp_dk fp_hdX11_slip_76.1.2.2.1.2
theorem dX11_cut_1 : decode cX11_cut 1 = .ok (.ifCond .lt 14, 3) := fp_dk fp_hdX11_slip_76.1.2.2.2.1
theorem dX11_cut_4 : decode cX11_cut 4 = .ok (.iload_n 1, 1) := fp_dk fp_hdX11_slip_76.1.2.2.2.2
theorem dX11_cut_5 : decode cX11_cut 5 = .ok (.aload_n 0, 1) := fp_dk fp_hdX11_slip_76.2.1.1.1.1
theorem dX11_cut_6 : decode cX11_cut 6 = .ok (.getfield 37, 3) := fp_dk fp_hdX11_slip_76.2.1.1.1.2
theorem dX11_cut_9 : decode cX11_cut 9 = .ok (.getfield 205, 3) := fp_dk fp_hdX11_slip_76.2.1.1.2.1
theorem dX11_cut_12 : decode cX11_cut 12 = .ok (.if_icmp .le 5, 3) := fp_dk fp_hdX11_slip_76.2.1.1.2.2
theorem dX11_cut_15 : decode cX11_cut 15 = .ok (.iconst (-1), 1) := fp_dk fp_hdX11_slip_76.2.1.2.1.1
theorem dX11_cut_16 : decode cX11_cut 16 = .ok (.ireturn, 1) := fp_dk fp_hdX11_slip_76.2.1.2.1.2
theorem dX11_cut_17 : decode cX11_cut 17 = .ok (.aload_n 0, 1) := fp_dk fp_hdX11_slip_76.2.1.2.2.1
theorem dX11_cut_18 : decode cX11_cut 18 = .ok (.getfield 37, 3) := fp_dk fp_hdX11_slip_76.2.1.2.2.2
theorem dX11_cut_21 : decode cX11_cut 21 = .ok (.getfield 205, 3) := fp_dk fp_hdX11_slip_76.2.2.1.1.1
theorem dX11_cut_24 : decode cX11_cut 24 = .ok (.istore_n 2, 1) := fp_dk fp_hdX11_slip_76.2.2.1.1.2
theorem dX11_cut_25 : decode cX11_cut 25 = .ok (.aload_n 0, 1) := fp_dk fp_hdX11_slip_76.2.2.1.2.1
theorem dX11_cut_26 : decode cX11_cut 26 = .ok (.getfield 37, 3) := fp_dk fp_hdX11_slip_76.2.2.1.2.2
theorem dX11_cut_29 : decode cX11_cut 29 = .ok (.iload_n 1, 1) := fp_dk fp_hdX11_slip_76.2.2.2.1.1
theorem dX11_cut_30 : decode cX11_cut 30 = .ok (.putfield 205, 3) := fp_dk fp_hdX11_slip_76.2.2.2.1.2
theorem dX11_cut_33 : decode cX11_cut 33 = .ok (.iload_n 2, 1) := fp_dk fp_hdX11_slip_76.2.2.2.2.1
theorem dX11_cut_34 : decode cX11_cut 34 = .ok (.ireturn, 1) := fp_dk fp_hdX11_slip_76.2.2.2.2.2
theorem fp_hdX11_go_0 : (((((fp_dq cX11_go 0 (.iload_n 1, 1) = true ∧ fp_dq cX11_go 1 (.ifCond .lt 14, 3) = true) ∧ (fp_dq cX11_go 4 (.iload_n 1, 1) = true ∧ fp_dq cX11_go 5 (.aload_n 0, 1) = true)) ∧ ((fp_dq cX11_go 6 (.getfield 37, 3) = true ∧ fp_dq cX11_go 9 (.getfield 205, 3) = true) ∧ (fp_dq cX11_go 12 (.if_icmp .le 5, 3) = true ∧ fp_dq cX11_go 15 (.iconst (-1), 1) = true))) ∧ (((fp_dq cX11_go 16 (.ireturn, 1) = true ∧ fp_dq cX11_go 17 (.iconst 0, 1) = true) ∧ (fp_dq cX11_go 18 (.istore_n 2, 1) = true ∧ fp_dq cX11_go 19 (.iconst 0, 1) = true)) ∧ ((fp_dq cX11_go 20 (.istore_n 3, 1) = true ∧ fp_dq cX11_go 21 (.iload_n 3, 1) = true) ∧ (fp_dq cX11_go 22 (.iload_n 1, 1) = true ∧ fp_dq cX11_go 23 (.if_icmp .ge 31, 3) = true)))) ∧ ((((fp_dq cX11_go 26 (.aload_n 0, 1) = true ∧ fp_dq cX11_go 27 (.getfield 37, 3) = true) ∧ (fp_dq cX11_go 30 (.aload_n 0, 1) = true ∧ fp_dq cX11_go 31 (.getfield 23, 3) = true)) ∧ ((fp_dq cX11_go 34 (.aload_n 0, 1) = true ∧ fp_dq cX11_go 35 (.getfield 30, 3) = true) ∧ (fp_dq cX11_go 38 (.iload_n 3, 1) = true ∧ fp_dq cX11_go 39 (.invokevirtual 206, 3) = true))) ∧ (((fp_dq cX11_go 42 (.ifCond .ne 6, 3) = true ∧ fp_dq cX11_go 45 (.iinc 2 1, 3) = true) ∧ (fp_dq cX11_go 48 (.iinc 3 1, 3) = true ∧ fp_dq cX11_go 51 (.goto (-30), 3) = true)) ∧ ((fp_dq cX11_go 54 (.aload_n 0, 1) = true ∧ fp_dq cX11_go 55 (.getfield 37, 3) = true) ∧ (fp_dq cX11_go 58 (.iload_n 1, 1) = true ∧ fp_dq cX11_go 59 (.invokevirtual 210, 3) = true))))) := by decide +kernel
theorem dX11_go_0 : decode cX11_go 0 = .ok (.iload_n 1, 1) := fp_dk fp_hdX11_go_0.1.1.1.1.1
theorem dX11_go_1 : decode cX11_go 1 = .ok (.ifCond .lt 14, 3) := fp_dk fp_hdX11_go_0.1.1.1.1.2
theorem dX11_go_4 : decode cX11_go 4 = .ok (.iload_n 1, 1) := fp_dk fp_hdX11_go_0.1.1.1.2.1
theorem dX11_go_5 : decode cX11_go 5 = .ok (.aload_n 0, 1) := fp_dk fp_hdX11_go_0.1.1.1.2.2
theorem dX11_go_6 : decode cX11_go 6 = .ok (.getfield 37, 3) := fp_dk fp_hdX11_go_0.1.1.2.1.1
theorem dX11_go_9 : decode cX11_go 9 = .ok (.getfield 205, 3) := fp_dk fp_hdX11_go_0.1.1.2.1.2
theorem dX11_go_12 : decode cX11_go 12 = .ok (.if_icmp .le 5, 3) := fp_dk fp_hdX11_go_0.1.1.2.2.1
theorem dX11_go_15 : decode cX11_go 15 = .ok (.iconst (-1), 1) := fp_dk fp_hdX11_go_0.1.1.2.2.2
theorem dX11_go_16 : decode cX11_go 16 = .ok (.ireturn, 1) := fp_dk fp_hdX11_go_0.1.2.1.1.1
theorem dX11_go_17 : decode cX11_go 17 = .ok (.iconst 0, 1) := fp_dk fp_hdX11_go_0.1.2.1.1.2
theorem dX11_go_18 : decode cX11_go 18 = .ok (.istore_n 2, 1) := fp_dk fp_hdX11_go_0.1.2.1.2.1
theorem dX11_go_19 : decode cX11_go 19 = .ok (.iconst 0, 1) := fp_dk fp_hdX11_go_0.1.2.1.2.2
theorem dX11_go_20 : decode cX11_go 20 = .ok (.istore_n 3, 1) := fp_dk fp_hdX11_go_0.1.2.2.1.1
theorem dX11_go_21 : decode cX11_go 21 = .ok (.iload_n 3, 1) := fp_dk fp_hdX11_go_0.1.2.2.1.2
theorem dX11_go_22 : decode cX11_go 22 = .ok (.iload_n 1, 1) := fp_dk fp_hdX11_go_0.1.2.2.2.1
theorem dX11_go_23 : decode cX11_go 23 = .ok (.if_icmp .ge 31, 3) := fp_dk fp_hdX11_go_0.1.2.2.2.2
theorem dX11_go_26 : decode cX11_go 26 = .ok (.aload_n 0, 1) := fp_dk fp_hdX11_go_0.2.1.1.1.1
theorem dX11_go_27 : decode cX11_go 27 = .ok (.getfield 37, 3) := fp_dk fp_hdX11_go_0.2.1.1.1.2
theorem dX11_go_30 : decode cX11_go 30 = .ok (.aload_n 0, 1) := fp_dk fp_hdX11_go_0.2.1.1.2.1
theorem dX11_go_31 : decode cX11_go 31 = .ok (.getfield 23, 3) := fp_dk fp_hdX11_go_0.2.1.1.2.2
theorem dX11_go_34 : decode cX11_go 34 = .ok (.aload_n 0, 1) := fp_dk fp_hdX11_go_0.2.1.2.1.1
theorem dX11_go_35 : decode cX11_go 35 = .ok (.getfield 30, 3) := fp_dk fp_hdX11_go_0.2.1.2.1.2
theorem dX11_go_38 : decode cX11_go 38 = .ok (.iload_n 3, 1) := fp_dk fp_hdX11_go_0.2.1.2.2.1
theorem dX11_go_39 : decode cX11_go 39 = .ok (.invokevirtual 206, 3) := fp_dk fp_hdX11_go_0.2.1.2.2.2
theorem dX11_go_42 : decode cX11_go 42 = .ok (.ifCond .ne 6, 3) := fp_dk fp_hdX11_go_0.2.2.1.1.1
theorem dX11_go_45 : decode cX11_go 45 = .ok (.iinc 2 1, 3) := fp_dk fp_hdX11_go_0.2.2.1.1.2
theorem dX11_go_48 : decode cX11_go 48 = .ok (.iinc 3 1, 3) := fp_dk fp_hdX11_go_0.2.2.1.2.1
theorem dX11_go_51 : decode cX11_go 51 = .ok (.goto (-30), 3) := fp_dk fp_hdX11_go_0.2.2.1.2.2
theorem dX11_go_54 : decode cX11_go 54 = .ok (.aload_n 0, 1) := fp_dk fp_hdX11_go_0.2.2.2.1.1
theorem dX11_go_55 : decode cX11_go 55 = .ok (.getfield 37, 3) := fp_dk fp_hdX11_go_0.2.2.2.1.2
theorem dX11_go_58 : decode cX11_go 58 = .ok (.iload_n 1, 1) := fp_dk fp_hdX11_go_0.2.2.2.2.1
theorem dX11_go_59 : decode cX11_go 59 = .ok (.invokevirtual 210, 3) := fp_dk fp_hdX11_go_0.2.2.2.2.2
theorem fp_hdX11_go_62 : (((((fp_dq cX11_go 62 (.iload_n 2, 1) = true ∧ fp_dq cX11_go 63 (.ireturn, 1) = true) ∧ (fp_dq cX11_after 0 (.iload_n 1, 1) = true ∧ fp_dq cX11_after 1 (.ifCond .lt 25, 3) = true)) ∧ ((fp_dq cX11_after 4 (.iload_n 1, 1) = true ∧ fp_dq cX11_after 5 (.aload_n 0, 1) = true) ∧ (fp_dq cX11_after 6 (.getfield 37, 3) = true ∧ fp_dq cX11_after 9 (.getfield 205, 3) = true))) ∧ (((fp_dq cX11_after 12 (.if_icmp .gt 14, 3) = true ∧ fp_dq cX11_after 15 (.aload_n 0, 1) = true) ∧ (fp_dq cX11_after 16 (.getfield 23, 3) = true ∧ fp_dq cX11_after 19 (.iload_n 2, 1) = true)) ∧ ((fp_dq cX11_after 20 (.invokevirtual 126, 3) = true ∧ fp_dq cX11_after 23 (.ifCond .ne 5, 3) = true) ∧ (fp_dq cX11_after 26 (.iconst (-1), 1) = true ∧ fp_dq cX11_after 27 (.ireturn, 1) = true)))) ∧ ((((fp_dq cX11_after 28 (.aload_n 0, 1) = true ∧ fp_dq cX11_after 29 (.getfield 51, 3) = true) ∧ (fp_dq cX11_after 32 (.aload_n 0, 1) = true ∧ fp_dq cX11_after 33 (.getfield 23, 3) = true)) ∧ ((fp_dq cX11_after 36 (.aload_n 0, 1) = true ∧ fp_dq cX11_after 37 (.getfield 37, 3) = true) ∧ (fp_dq cX11_after 40 (.aload_n 0, 1) = true ∧ fp_dq cX11_after 41 (.getfield 30, 3) = true))) ∧ (((fp_dq cX11_after 44 (.iload_n 1, 1) = true ∧ fp_dq cX11_after 45 (.invokevirtual 214, 3) = true) ∧ (fp_dq cX11_after 48 (.getfield 138, 3) = true ∧ fp_dq cX11_after 51 (.iload_n 2, 1) = true)) ∧ ((fp_dq cX11_after 52 (.iaload, 1) = true ∧ fp_dq cX11_after 53 (.ireturn, 1) = true) ∧ (fp_dq cX11_gains 0 (.iload_n 1, 1) = true ∧ fp_dq cX11_gains 1 (.ifCond .lt 21, 3) = true))))) := by decide +kernel
theorem dX11_go_62 : decode cX11_go 62 = .ok (.iload_n 2, 1) := fp_dk fp_hdX11_go_62.1.1.1.1.1
theorem dX11_go_63 : decode cX11_go 63 = .ok (.ireturn, 1) := fp_dk fp_hdX11_go_62.1.1.1.1.2
theorem dX11_after_0 : decode cX11_after 0 = .ok (.iload_n 1, 1) := fp_dk fp_hdX11_go_62.1.1.1.2.1
theorem dX11_after_1 : decode cX11_after 1 = .ok (.ifCond .lt 25, 3) := fp_dk fp_hdX11_go_62.1.1.1.2.2
theorem dX11_after_4 : decode cX11_after 4 = .ok (.iload_n 1, 1) := fp_dk fp_hdX11_go_62.1.1.2.1.1
theorem dX11_after_5 : decode cX11_after 5 = .ok (.aload_n 0, 1) := fp_dk fp_hdX11_go_62.1.1.2.1.2
theorem dX11_after_6 : decode cX11_after 6 = .ok (.getfield 37, 3) := fp_dk fp_hdX11_go_62.1.1.2.2.1
theorem dX11_after_9 : decode cX11_after 9 = .ok (.getfield 205, 3) := fp_dk fp_hdX11_go_62.1.1.2.2.2
theorem dX11_after_12 : decode cX11_after 12 = .ok (.if_icmp .gt 14, 3) := fp_dk fp_hdX11_go_62.1.2.1.1.1
theorem dX11_after_15 : decode cX11_after 15 = .ok (.aload_n 0, 1) := fp_dk fp_hdX11_go_62.1.2.1.1.2
theorem dX11_after_16 : decode cX11_after 16 = .ok (.getfield 23, 3) := fp_dk fp_hdX11_go_62.1.2.1.2.1
theorem dX11_after_19 : decode cX11_after 19 = .ok (.iload_n 2, 1) := fp_dk fp_hdX11_go_62.1.2.1.2.2
theorem dX11_after_20 : decode cX11_after 20 = .ok (.invokevirtual 126, 3) := fp_dk fp_hdX11_go_62.1.2.2.1.1
theorem dX11_after_23 : decode cX11_after 23 = .ok (.ifCond .ne 5, 3) := fp_dk fp_hdX11_go_62.1.2.2.1.2
theorem dX11_after_26 : decode cX11_after 26 = .ok (.iconst (-1), 1) := fp_dk fp_hdX11_go_62.1.2.2.2.1
theorem dX11_after_27 : decode cX11_after 27 = .ok (.ireturn, 1) := fp_dk fp_hdX11_go_62.1.2.2.2.2
theorem dX11_after_28 : decode cX11_after 28 = .ok (.aload_n 0, 1) := fp_dk fp_hdX11_go_62.2.1.1.1.1
theorem dX11_after_29 : decode cX11_after 29 = .ok (.getfield 51, 3) := fp_dk fp_hdX11_go_62.2.1.1.1.2
theorem dX11_after_32 : decode cX11_after 32 = .ok (.aload_n 0, 1) := fp_dk fp_hdX11_go_62.2.1.1.2.1
theorem dX11_after_33 : decode cX11_after 33 = .ok (.getfield 23, 3) := fp_dk fp_hdX11_go_62.2.1.1.2.2
theorem dX11_after_36 : decode cX11_after 36 = .ok (.aload_n 0, 1) := fp_dk fp_hdX11_go_62.2.1.2.1.1
theorem dX11_after_37 : decode cX11_after 37 = .ok (.getfield 37, 3) := fp_dk fp_hdX11_go_62.2.1.2.1.2
theorem dX11_after_40 : decode cX11_after 40 = .ok (.aload_n 0, 1) := fp_dk fp_hdX11_go_62.2.1.2.2.1
theorem dX11_after_41 : decode cX11_after 41 = .ok (.getfield 30, 3) := fp_dk fp_hdX11_go_62.2.1.2.2.2
theorem dX11_after_44 : decode cX11_after 44 = .ok (.iload_n 1, 1) := fp_dk fp_hdX11_go_62.2.2.1.1.1
theorem dX11_after_45 : decode cX11_after 45 = .ok (.invokevirtual 214, 3) := fp_dk fp_hdX11_go_62.2.2.1.1.2
theorem dX11_after_48 : decode cX11_after 48 = .ok (.getfield 138, 3) := fp_dk fp_hdX11_go_62.2.2.1.2.1
theorem dX11_after_51 : decode cX11_after 51 = .ok (.iload_n 2, 1) := fp_dk fp_hdX11_go_62.2.2.1.2.2
theorem dX11_after_52 : decode cX11_after 52 = .ok (.iaload, 1) := fp_dk fp_hdX11_go_62.2.2.2.1.1
theorem dX11_after_53 : decode cX11_after 53 = .ok (.ireturn, 1) := fp_dk fp_hdX11_go_62.2.2.2.1.2
theorem dX11_gains_0 : decode cX11_gains 0 = .ok (.iload_n 1, 1) := fp_dk fp_hdX11_go_62.2.2.2.2.1
theorem dX11_gains_1 : decode cX11_gains 1 = .ok (.ifCond .lt 21, 3) := fp_dk fp_hdX11_go_62.2.2.2.2.2
theorem fp_hdX11_gains_4 : (((((fp_dq cX11_gains 4 (.iload_n 1, 1) = true ∧ fp_dq cX11_gains 5 (.aload_n 0, 1) = true) ∧ (fp_dq cX11_gains 6 (.getfield 37, 3) = true ∧ fp_dq cX11_gains 9 (.getfield 205, 3) = true)) ∧ ((fp_dq cX11_gains 12 (.if_icmp .gt 10, 3) = true ∧ fp_dq cX11_gains 15 (.iload_n 2, 1) = true) ∧ (fp_dq cX11_gains 16 (.invokestatic 181, 3) = true ∧ fp_dq cX11_gains 19 (.ifCond .ne 5, 3) = true))) ∧ (((fp_dq cX11_gains 22 (.iconst (-1), 1) = true ∧ fp_dq cX11_gains 23 (.ireturn, 1) = true) ∧ (fp_dq cX11_gains 24 (.aload_n 0, 1) = true ∧ fp_dq cX11_gains 25 (.getfield 51, 3) = true)) ∧ ((fp_dq cX11_gains 28 (.aload_n 0, 1) = true ∧ fp_dq cX11_gains 29 (.getfield 23, 3) = true) ∧ (fp_dq cX11_gains 32 (.aload_n 0, 1) = true ∧ fp_dq cX11_gains 33 (.getfield 37, 3) = true)))) ∧ ((((fp_dq cX11_gains 36 (.aload_n 0, 1) = true ∧ fp_dq cX11_gains 37 (.getfield 30, 3) = true) ∧ (fp_dq cX11_gains 40 (.iload_n 1, 1) = true ∧ fp_dq cX11_gains 41 (.invokevirtual 214, 3) = true)) ∧ ((fp_dq cX11_gains 44 (.aload_n 0, 1) = true ∧ fp_dq cX11_gains 45 (.getfield 23, 3) = true) ∧ (fp_dq cX11_gains 48 (.iload_n 2, 1) = true ∧ fp_dq cX11_gains 49 (.invokevirtual 187, 3) = true))) ∧ (((fp_dq cX11_gains 52 (.ireturn, 1) = true ∧ fp_dq cX11_vain 0 (.aload_n 0, 1) = true) ∧ (fp_dq cX11_vain 1 (.getfield 51, 3) = true ∧ fp_dq cX11_vain 4 (.aload_n 0, 1) = true)) ∧ ((fp_dq cX11_vain 5 (.getfield 23, 3) = true ∧ fp_dq cX11_vain 8 (.aload_n 0, 1) = true) ∧ (fp_dq cX11_vain 9 (.getfield 37, 3) = true ∧ fp_dq cX11_vain 12 (.aload_n 0, 1) = true))))) := by decide +kernel
theorem dX11_gains_4 : decode cX11_gains 4 = .ok (.iload_n 1, 1) := fp_dk fp_hdX11_gains_4.1.1.1.1.1
theorem dX11_gains_5 : decode cX11_gains 5 = .ok (.aload_n 0, 1) := fp_dk fp_hdX11_gains_4.1.1.1.1.2
theorem dX11_gains_6 : decode cX11_gains 6 = .ok (.getfield 37, 3) := fp_dk fp_hdX11_gains_4.1.1.1.2.1
theorem dX11_gains_9 : decode cX11_gains 9 = .ok (.getfield 205, 3) := fp_dk fp_hdX11_gains_4.1.1.1.2.2
theorem dX11_gains_12 : decode cX11_gains 12 = .ok (.if_icmp .gt 10, 3) := fp_dk fp_hdX11_gains_4.1.1.2.1.1
theorem dX11_gains_15 : decode cX11_gains 15 = .ok (.iload_n 2, 1) := fp_dk fp_hdX11_gains_4.1.1.2.1.2
theorem dX11_gains_16 : decode cX11_gains 16 = .ok (.invokestatic 181, 3) := fp_dk fp_hdX11_gains_4.1.1.2.2.1
theorem dX11_gains_19 : decode cX11_gains 19 = .ok (.ifCond .ne 5, 3) := fp_dk fp_hdX11_gains_4.1.1.2.2.2
theorem dX11_gains_22 : decode cX11_gains 22 = .ok (.iconst (-1), 1) := fp_dk fp_hdX11_gains_4.1.2.1.1.1
theorem dX11_gains_23 : decode cX11_gains 23 = .ok (.ireturn, 1) := fp_dk fp_hdX11_gains_4.1.2.1.1.2
theorem dX11_gains_24 : decode cX11_gains 24 = .ok (.aload_n 0, 1) := fp_dk fp_hdX11_gains_4.1.2.1.2.1
theorem dX11_gains_25 : decode cX11_gains 25 = .ok (.getfield 51, 3) := fp_dk fp_hdX11_gains_4.1.2.1.2.2
theorem dX11_gains_28 : decode cX11_gains 28 = .ok (.aload_n 0, 1) := fp_dk fp_hdX11_gains_4.1.2.2.1.1
theorem dX11_gains_29 : decode cX11_gains 29 = .ok (.getfield 23, 3) := fp_dk fp_hdX11_gains_4.1.2.2.1.2
theorem dX11_gains_32 : decode cX11_gains 32 = .ok (.aload_n 0, 1) := fp_dk fp_hdX11_gains_4.1.2.2.2.1
theorem dX11_gains_33 : decode cX11_gains 33 = .ok (.getfield 37, 3) := fp_dk fp_hdX11_gains_4.1.2.2.2.2
theorem dX11_gains_36 : decode cX11_gains 36 = .ok (.aload_n 0, 1) := fp_dk fp_hdX11_gains_4.2.1.1.1.1
theorem dX11_gains_37 : decode cX11_gains 37 = .ok (.getfield 30, 3) := fp_dk fp_hdX11_gains_4.2.1.1.1.2
theorem dX11_gains_40 : decode cX11_gains 40 = .ok (.iload_n 1, 1) := fp_dk fp_hdX11_gains_4.2.1.1.2.1
theorem dX11_gains_41 : decode cX11_gains 41 = .ok (.invokevirtual 214, 3) := fp_dk fp_hdX11_gains_4.2.1.1.2.2
theorem dX11_gains_44 : decode cX11_gains 44 = .ok (.aload_n 0, 1) := fp_dk fp_hdX11_gains_4.2.1.2.1.1
theorem dX11_gains_45 : decode cX11_gains 45 = .ok (.getfield 23, 3) := fp_dk fp_hdX11_gains_4.2.1.2.1.2
theorem dX11_gains_48 : decode cX11_gains 48 = .ok (.iload_n 2, 1) := fp_dk fp_hdX11_gains_4.2.1.2.2.1
theorem dX11_gains_49 : decode cX11_gains 49 = .ok (.invokevirtual 187, 3) := fp_dk fp_hdX11_gains_4.2.1.2.2.2
theorem dX11_gains_52 : decode cX11_gains 52 = .ok (.ireturn, 1) := fp_dk fp_hdX11_gains_4.2.2.1.1.1
theorem dX11_vain_0 : decode cX11_vain 0 = .ok (.aload_n 0, 1) := fp_dk fp_hdX11_gains_4.2.2.1.1.2
theorem dX11_vain_1 : decode cX11_vain 1 = .ok (.getfield 51, 3) := fp_dk fp_hdX11_gains_4.2.2.1.2.1
theorem dX11_vain_4 : decode cX11_vain 4 = .ok (.aload_n 0, 1) := fp_dk fp_hdX11_gains_4.2.2.1.2.2
theorem dX11_vain_5 : decode cX11_vain 5 = .ok (.getfield 23, 3) := fp_dk fp_hdX11_gains_4.2.2.2.1.1
theorem dX11_vain_8 : decode cX11_vain 8 = .ok (.aload_n 0, 1) := fp_dk fp_hdX11_gains_4.2.2.2.1.2
theorem dX11_vain_9 : decode cX11_vain 9 = .ok (.getfield 37, 3) := fp_dk fp_hdX11_gains_4.2.2.2.2.1
theorem dX11_vain_12 : decode cX11_vain 12 = .ok (.aload_n 0, 1) := fp_dk fp_hdX11_gains_4.2.2.2.2.2
theorem fp_hdX11_vain_13 : (((((fp_dq cX11_vain 13 (.getfield 30, 3) = true ∧ fp_dq cX11_vain 16 (.iconst 0, 1) = true) ∧ (fp_dq cX11_vain 17 (.invokevirtual 214, 3) = true ∧ fp_dq cX11_vain 20 (.astore_n 1, 1) = true)) ∧ ((fp_dq cX11_vain 21 (.iconst 0, 1) = true ∧ fp_dq cX11_vain 22 (.istore_n 2, 1) = true) ∧ (fp_dq cX11_vain 23 (.iconst 0, 1) = true ∧ fp_dq cX11_vain 24 (.istore_n 3, 1) = true))) ∧ (((fp_dq cX11_vain 25 (.iload_n 3, 1) = true ∧ fp_dq cX11_vain 26 (.aload_n 0, 1) = true) ∧ (fp_dq cX11_vain 27 (.getfield 37, 3) = true ∧ fp_dq cX11_vain 30 (.getfield 205, 3) = true)) ∧ ((fp_dq cX11_vain 33 (.if_icmp .ge 31, 3) = true ∧ fp_dq cX11_vain 36 (.aload_n 0, 1) = true) ∧ (fp_dq cX11_vain 37 (.getfield 37, 3) = true ∧ fp_dq cX11_vain 40 (.aload_n 0, 1) = true)))) ∧ ((((fp_dq cX11_vain 41 (.getfield 23, 3) = true ∧ fp_dq cX11_vain 44 (.aload_n 1, 1) = true) ∧ (fp_dq cX11_vain 45 (.iload_n 3, 1) = true ∧ fp_dq cX11_vain 46 (.invokevirtual 206, 3) = true)) ∧ ((fp_dq cX11_vain 49 (.ifCond .ne 9, 3) = true ∧ fp_dq cX11_vain 52 (.iload_n 2, 1) = true) ∧ (fp_dq cX11_vain 53 (.iconst 1, 1) = true ∧ fp_dq cX11_vain 54 (.iload_n 3, 1) = true))) ∧ (((fp_dq cX11_vain 55 (.ishl, 1) = true ∧ fp_dq cX11_vain 56 (.ior, 1) = true) ∧ (fp_dq cX11_vain 57 (.istore_n 2, 1) = true ∧ fp_dq cX11_vain 58 (.iinc 3 1, 3) = true)) ∧ ((fp_dq cX11_vain 61 (.goto (-36), 3) = true ∧ fp_dq cX11_vain 64 (.iload_n 2, 1) = true) ∧ (fp_dq cX11_vain 65 (.ireturn, 1) = true ∧ fp_dq cX11_lost 0 (.iload_n 1, 1) = true))))) := by decide +kernel
theorem dX11_vain_13 : decode cX11_vain 13 = .ok (.getfield 30, 3) := fp_dk fp_hdX11_vain_13.1.1.1.1.1
theorem dX11_vain_16 : decode cX11_vain 16 = .ok (.iconst 0, 1) := fp_dk fp_hdX11_vain_13.1.1.1.1.2
theorem dX11_vain_17 : decode cX11_vain 17 = .ok (.invokevirtual 214, 3) := fp_dk fp_hdX11_vain_13.1.1.1.2.1
theorem dX11_vain_20 : decode cX11_vain 20 = .ok (.astore_n 1, 1) := fp_dk fp_hdX11_vain_13.1.1.1.2.2
theorem dX11_vain_21 : decode cX11_vain 21 = .ok (.iconst 0, 1) := fp_dk fp_hdX11_vain_13.1.1.2.1.1
theorem dX11_vain_22 : decode cX11_vain 22 = .ok (.istore_n 2, 1) := fp_dk fp_hdX11_vain_13.1.1.2.1.2
theorem dX11_vain_23 : decode cX11_vain 23 = .ok (.iconst 0, 1) := fp_dk fp_hdX11_vain_13.1.1.2.2.1
theorem dX11_vain_24 : decode cX11_vain 24 = .ok (.istore_n 3, 1) := fp_dk fp_hdX11_vain_13.1.1.2.2.2
theorem dX11_vain_25 : decode cX11_vain 25 = .ok (.iload_n 3, 1) := fp_dk fp_hdX11_vain_13.1.2.1.1.1
theorem dX11_vain_26 : decode cX11_vain 26 = .ok (.aload_n 0, 1) := fp_dk fp_hdX11_vain_13.1.2.1.1.2
theorem dX11_vain_27 : decode cX11_vain 27 = .ok (.getfield 37, 3) := fp_dk fp_hdX11_vain_13.1.2.1.2.1
theorem dX11_vain_30 : decode cX11_vain 30 = .ok (.getfield 205, 3) := fp_dk fp_hdX11_vain_13.1.2.1.2.2
theorem dX11_vain_33 : decode cX11_vain 33 = .ok (.if_icmp .ge 31, 3) := fp_dk fp_hdX11_vain_13.1.2.2.1.1
theorem dX11_vain_36 : decode cX11_vain 36 = .ok (.aload_n 0, 1) := fp_dk fp_hdX11_vain_13.1.2.2.1.2
theorem dX11_vain_37 : decode cX11_vain 37 = .ok (.getfield 37, 3) := fp_dk fp_hdX11_vain_13.1.2.2.2.1
theorem dX11_vain_40 : decode cX11_vain 40 = .ok (.aload_n 0, 1) := fp_dk fp_hdX11_vain_13.1.2.2.2.2
theorem dX11_vain_41 : decode cX11_vain 41 = .ok (.getfield 23, 3) := fp_dk fp_hdX11_vain_13.2.1.1.1.1
theorem dX11_vain_44 : decode cX11_vain 44 = .ok (.aload_n 1, 1) := fp_dk fp_hdX11_vain_13.2.1.1.1.2
theorem dX11_vain_45 : decode cX11_vain 45 = .ok (.iload_n 3, 1) := fp_dk fp_hdX11_vain_13.2.1.1.2.1
theorem dX11_vain_46 : decode cX11_vain 46 = .ok (.invokevirtual 206, 3) := fp_dk fp_hdX11_vain_13.2.1.1.2.2
theorem dX11_vain_49 : decode cX11_vain 49 = .ok (.ifCond .ne 9, 3) := fp_dk fp_hdX11_vain_13.2.1.2.1.1
theorem dX11_vain_52 : decode cX11_vain 52 = .ok (.iload_n 2, 1) := fp_dk fp_hdX11_vain_13.2.1.2.1.2
theorem dX11_vain_53 : decode cX11_vain 53 = .ok (.iconst 1, 1) := fp_dk fp_hdX11_vain_13.2.1.2.2.1
theorem dX11_vain_54 : decode cX11_vain 54 = .ok (.iload_n 3, 1) := fp_dk fp_hdX11_vain_13.2.1.2.2.2
theorem dX11_vain_55 : decode cX11_vain 55 = .ok (.ishl, 1) := fp_dk fp_hdX11_vain_13.2.2.1.1.1
theorem dX11_vain_56 : decode cX11_vain 56 = .ok (.ior, 1) := fp_dk fp_hdX11_vain_13.2.2.1.1.2
theorem dX11_vain_57 : decode cX11_vain 57 = .ok (.istore_n 2, 1) := fp_dk fp_hdX11_vain_13.2.2.1.2.1
theorem dX11_vain_58 : decode cX11_vain 58 = .ok (.iinc 3 1, 3) := fp_dk fp_hdX11_vain_13.2.2.1.2.2
theorem dX11_vain_61 : decode cX11_vain 61 = .ok (.goto (-36), 3) := fp_dk fp_hdX11_vain_13.2.2.2.1.1
theorem dX11_vain_64 : decode cX11_vain 64 = .ok (.iload_n 2, 1) := fp_dk fp_hdX11_vain_13.2.2.2.1.2
theorem dX11_vain_65 : decode cX11_vain 65 = .ok (.ireturn, 1) := fp_dk fp_hdX11_vain_13.2.2.2.2.1
theorem dX11_lost_0 : decode cX11_lost 0 = .ok (.iload_n 1, 1) := fp_dk fp_hdX11_vain_13.2.2.2.2.2
theorem fp_hdX11_lost_1 : (((((fp_dq cX11_lost 1 (.invokestatic 181, 3) = true ∧ fp_dq cX11_lost 4 (.ifCond .ne 5, 3) = true) ∧ (fp_dq cX11_lost 7 (.iconst (-1), 1) = true ∧ fp_dq cX11_lost 8 (.ireturn, 1) = true)) ∧ ((fp_dq cX11_lost 9 (.aload_n 0, 1) = true ∧ fp_dq cX11_lost 10 (.getfield 51, 3) = true) ∧ (fp_dq cX11_lost 13 (.aload_n 0, 1) = true ∧ fp_dq cX11_lost 14 (.getfield 23, 3) = true))) ∧ (((fp_dq cX11_lost 17 (.aload_n 0, 1) = true ∧ fp_dq cX11_lost 18 (.getfield 37, 3) = true) ∧ (fp_dq cX11_lost 21 (.aload_n 0, 1) = true ∧ fp_dq cX11_lost 22 (.getfield 30, 3) = true)) ∧ ((fp_dq cX11_lost 25 (.iconst 0, 1) = true ∧ fp_dq cX11_lost 26 (.invokevirtual 214, 3) = true) ∧ (fp_dq cX11_lost 29 (.astore_n 2, 1) = true ∧ fp_dq cX11_lost 30 (.aload_n 0, 1) = true)))) ∧ ((((fp_dq cX11_lost 31 (.getfield 30, 3) = true ∧ fp_dq cX11_lost 34 (.iload_n 1, 1) = true) ∧ (fp_dq cX11_lost 35 (.invokevirtual 184, 3) = true ∧ fp_dq cX11_lost 38 (.istore_n 3, 1) = true)) ∧ ((fp_dq cX11_lost 39 (.iconst 0, 1) = true ∧ fp_dq cX11_lost 40 (.istore 4, 2) = true) ∧ (fp_dq cX11_lost 42 (.iload 4, 2) = true ∧ fp_dq cX11_lost 44 (.aload_n 0, 1) = true))) ∧ (((fp_dq cX11_lost 45 (.getfield 37, 3) = true ∧ fp_dq cX11_lost 48 (.getfield 205, 3) = true) ∧ (fp_dq cX11_lost 51 (.if_icmp .ge 71, 3) = true ∧ fp_dq cX11_lost 54 (.aload_n 0, 1) = true)) ∧ ((fp_dq cX11_lost 55 (.getfield 37, 3) = true ∧ fp_dq cX11_lost 58 (.aload_n 0, 1) = true) ∧ (fp_dq cX11_lost 59 (.getfield 23, 3) = true ∧ fp_dq cX11_lost 62 (.aload_n 2, 1) = true))))) := by decide +kernel
theorem dX11_lost_1 : decode cX11_lost 1 = .ok (.invokestatic 181, 3) := fp_dk fp_hdX11_lost_1.1.1.1.1.1
theorem dX11_lost_4 : decode cX11_lost 4 = .ok (.ifCond .ne 5, 3) := fp_dk fp_hdX11_lost_1.1.1.1.1.2
theorem dX11_lost_7 : decode cX11_lost 7 = .ok (.iconst (-1), 1) := fp_dk fp_hdX11_lost_1.1.1.1.2.1
theorem dX11_lost_8 : decode cX11_lost 8 = .ok (.ireturn, 1) := fp_dk fp_hdX11_lost_1.1.1.1.2.2
theorem dX11_lost_9 : decode cX11_lost 9 = .ok (.aload_n 0, 1) := fp_dk fp_hdX11_lost_1.1.1.2.1.1
theorem dX11_lost_10 : decode cX11_lost 10 = .ok (.getfield 51, 3) := fp_dk fp_hdX11_lost_1.1.1.2.1.2
theorem dX11_lost_13 : decode cX11_lost 13 = .ok (.aload_n 0, 1) := fp_dk fp_hdX11_lost_1.1.1.2.2.1
theorem dX11_lost_14 : decode cX11_lost 14 = .ok (.getfield 23, 3) := fp_dk fp_hdX11_lost_1.1.1.2.2.2
theorem dX11_lost_17 : decode cX11_lost 17 = .ok (.aload_n 0, 1) := fp_dk fp_hdX11_lost_1.1.2.1.1.1
theorem dX11_lost_18 : decode cX11_lost 18 = .ok (.getfield 37, 3) := fp_dk fp_hdX11_lost_1.1.2.1.1.2
theorem dX11_lost_21 : decode cX11_lost 21 = .ok (.aload_n 0, 1) := fp_dk fp_hdX11_lost_1.1.2.1.2.1
theorem dX11_lost_22 : decode cX11_lost 22 = .ok (.getfield 30, 3) := fp_dk fp_hdX11_lost_1.1.2.1.2.2
theorem dX11_lost_25 : decode cX11_lost 25 = .ok (.iconst 0, 1) := fp_dk fp_hdX11_lost_1.1.2.2.1.1
theorem dX11_lost_26 : decode cX11_lost 26 = .ok (.invokevirtual 214, 3) := fp_dk fp_hdX11_lost_1.1.2.2.1.2
theorem dX11_lost_29 : decode cX11_lost 29 = .ok (.astore_n 2, 1) := fp_dk fp_hdX11_lost_1.1.2.2.2.1
theorem dX11_lost_30 : decode cX11_lost 30 = .ok (.aload_n 0, 1) := fp_dk fp_hdX11_lost_1.1.2.2.2.2
theorem dX11_lost_31 : decode cX11_lost 31 = .ok (.getfield 30, 3) := fp_dk fp_hdX11_lost_1.2.1.1.1.1
theorem dX11_lost_34 : decode cX11_lost 34 = .ok (.iload_n 1, 1) := fp_dk fp_hdX11_lost_1.2.1.1.1.2
theorem dX11_lost_35 : decode cX11_lost 35 = .ok (.invokevirtual 184, 3) := fp_dk fp_hdX11_lost_1.2.1.1.2.1
theorem dX11_lost_38 : decode cX11_lost 38 = .ok (.istore_n 3, 1) := fp_dk fp_hdX11_lost_1.2.1.1.2.2
theorem dX11_lost_39 : decode cX11_lost 39 = .ok (.iconst 0, 1) := fp_dk fp_hdX11_lost_1.2.1.2.1.1
theorem dX11_lost_40 : decode cX11_lost 40 = .ok (.istore 4, 2) := fp_dk fp_hdX11_lost_1.2.1.2.1.2
theorem dX11_lost_42 : decode cX11_lost 42 = .ok (.iload 4, 2) := fp_dk fp_hdX11_lost_1.2.1.2.2.1
theorem dX11_lost_44 : decode cX11_lost 44 = .ok (.aload_n 0, 1) := fp_dk fp_hdX11_lost_1.2.1.2.2.2
theorem dX11_lost_45 : decode cX11_lost 45 = .ok (.getfield 37, 3) := fp_dk fp_hdX11_lost_1.2.2.1.1.1
theorem dX11_lost_48 : decode cX11_lost 48 = .ok (.getfield 205, 3) := fp_dk fp_hdX11_lost_1.2.2.1.1.2
theorem dX11_lost_51 : decode cX11_lost 51 = .ok (.if_icmp .ge 71, 3) := fp_dk fp_hdX11_lost_1.2.2.1.2.1
theorem dX11_lost_54 : decode cX11_lost 54 = .ok (.aload_n 0, 1) := fp_dk fp_hdX11_lost_1.2.2.1.2.2
theorem dX11_lost_55 : decode cX11_lost 55 = .ok (.getfield 37, 3) := fp_dk fp_hdX11_lost_1.2.2.2.1.1
theorem dX11_lost_58 : decode cX11_lost 58 = .ok (.aload_n 0, 1) := fp_dk fp_hdX11_lost_1.2.2.2.1.2
theorem dX11_lost_59 : decode cX11_lost 59 = .ok (.getfield 23, 3) := fp_dk fp_hdX11_lost_1.2.2.2.2.1
theorem dX11_lost_62 : decode cX11_lost 62 = .ok (.aload_n 2, 1) := fp_dk fp_hdX11_lost_1.2.2.2.2.2
theorem fp_hdX11_lost_63 : (((((fp_dq cX11_lost 63 (.iload 4, 2) = true ∧ fp_dq cX11_lost 65 (.invokevirtual 206, 3) = true) ∧ (fp_dq cX11_lost 68 (.istore 5, 2) = true ∧ fp_dq cX11_lost 70 (.iload 5, 2) = true)) ∧ ((fp_dq cX11_lost 72 (.ifCond .eq 44, 3) = true ∧ fp_dq cX11_lost 75 (.aload_n 0, 1) = true) ∧ (fp_dq cX11_lost 76 (.getfield 37, 3) = true ∧ fp_dq cX11_lost 79 (.getfield 169, 3) = true))) ∧ (((fp_dq cX11_lost 82 (.iload 4, 2) = true ∧ fp_dq cX11_lost 84 (.iaload, 1) = true) ∧ (fp_dq cX11_lost 85 (.iload_n 1, 1) = true ∧ fp_dq cX11_lost 86 (.if_icmp .ne 30, 3) = true)) ∧ ((fp_dq cX11_lost 89 (.aload_n 0, 1) = true ∧ fp_dq cX11_lost 90 (.getfield 37, 3) = true) ∧ (fp_dq cX11_lost 93 (.iload 4, 2) = true ∧ fp_dq cX11_lost 95 (.invokevirtual 218, 3) = true)))) ∧ ((((fp_dq cX11_lost 98 (.ifCond .ne 18, 3) = true ∧ fp_dq cX11_lost 101 (.iload_n 3, 1) = true) ∧ (fp_dq cX11_lost 102 (.iconst 1, 1) = true ∧ fp_dq cX11_lost 103 (.aload_n 0, 1) = true)) ∧ ((fp_dq cX11_lost 104 (.getfield 37, 3) = true ∧ fp_dq cX11_lost 107 (.getfield 175, 3) = true) ∧ (fp_dq cX11_lost 110 (.iload 4, 2) = true ∧ fp_dq cX11_lost 112 (.iaload, 1) = true))) ∧ (((fp_dq cX11_lost 113 (.ishl, 1) = true ∧ fp_dq cX11_lost 114 (.ior, 1) = true) ∧ (fp_dq cX11_lost 115 (.istore_n 3, 1) = true ∧ fp_dq cX11_lost 116 (.iinc 4 1, 3) = true)) ∧ ((fp_dq cX11_lost 119 (.goto (-77), 3) = true ∧ fp_dq cX11_lost 122 (.iconst 0, 1) = true) ∧ (fp_dq cX11_lost 123 (.istore 4, 2) = true ∧ fp_dq cX11_lost 125 (.iconst 0, 1) = true))))) := by decide +kernel
theorem dX11_lost_63 : decode cX11_lost 63 = .ok (.iload 4, 2) := fp_dk fp_hdX11_lost_63.1.1.1.1.1
theorem dX11_lost_65 : decode cX11_lost 65 = .ok (.invokevirtual 206, 3) := fp_dk fp_hdX11_lost_63.1.1.1.1.2
theorem dX11_lost_68 : decode cX11_lost 68 = .ok (.istore 5, 2) := fp_dk fp_hdX11_lost_63.1.1.1.2.1
theorem dX11_lost_70 : decode cX11_lost 70 = .ok (.iload 5, 2) := fp_dk fp_hdX11_lost_63.1.1.1.2.2
theorem dX11_lost_72 : decode cX11_lost 72 = .ok (.ifCond .eq 44, 3) := fp_dk fp_hdX11_lost_63.1.1.2.1.1
theorem dX11_lost_75 : decode cX11_lost 75 = .ok (.aload_n 0, 1) := fp_dk fp_hdX11_lost_63.1.1.2.1.2
theorem dX11_lost_76 : decode cX11_lost 76 = .ok (.getfield 37, 3) := fp_dk fp_hdX11_lost_63.1.1.2.2.1
theorem dX11_lost_79 : decode cX11_lost 79 = .ok (.getfield 169, 3) := fp_dk fp_hdX11_lost_63.1.1.2.2.2
theorem dX11_lost_82 : decode cX11_lost 82 = .ok (.iload 4, 2) := fp_dk fp_hdX11_lost_63.1.2.1.1.1
theorem dX11_lost_84 : decode cX11_lost 84 = .ok (.iaload, 1) := fp_dk fp_hdX11_lost_63.1.2.1.1.2
theorem dX11_lost_85 : decode cX11_lost 85 = .ok (.iload_n 1, 1) := fp_dk fp_hdX11_lost_63.1.2.1.2.1
theorem dX11_lost_86 : decode cX11_lost 86 = .ok (.if_icmp .ne 30, 3) := fp_dk fp_hdX11_lost_63.1.2.1.2.2
theorem dX11_lost_89 : decode cX11_lost 89 = .ok (.aload_n 0, 1) := fp_dk fp_hdX11_lost_63.1.2.2.1.1
theorem dX11_lost_90 : decode cX11_lost 90 = .ok (.getfield 37, 3) := fp_dk fp_hdX11_lost_63.1.2.2.1.2
theorem dX11_lost_93 : decode cX11_lost 93 = .ok (.iload 4, 2) := fp_dk fp_hdX11_lost_63.1.2.2.2.1
theorem dX11_lost_95 : decode cX11_lost 95 = .ok (.invokevirtual 218, 3) := fp_dk fp_hdX11_lost_63.1.2.2.2.2
theorem dX11_lost_98 : decode cX11_lost 98 = .ok (.ifCond .ne 18, 3) := fp_dk fp_hdX11_lost_63.2.1.1.1.1
theorem dX11_lost_101 : decode cX11_lost 101 = .ok (.iload_n 3, 1) := fp_dk fp_hdX11_lost_63.2.1.1.1.2
theorem dX11_lost_102 : decode cX11_lost 102 = .ok (.iconst 1, 1) := fp_dk fp_hdX11_lost_63.2.1.1.2.1
theorem dX11_lost_103 : decode cX11_lost 103 = .ok (.aload_n 0, 1) := fp_dk fp_hdX11_lost_63.2.1.1.2.2
theorem dX11_lost_104 : decode cX11_lost 104 = .ok (.getfield 37, 3) := fp_dk fp_hdX11_lost_63.2.1.2.1.1
theorem dX11_lost_107 : decode cX11_lost 107 = .ok (.getfield 175, 3) := fp_dk fp_hdX11_lost_63.2.1.2.1.2
theorem dX11_lost_110 : decode cX11_lost 110 = .ok (.iload 4, 2) := fp_dk fp_hdX11_lost_63.2.1.2.2.1
theorem dX11_lost_112 : decode cX11_lost 112 = .ok (.iaload, 1) := fp_dk fp_hdX11_lost_63.2.1.2.2.2
theorem dX11_lost_113 : decode cX11_lost 113 = .ok (.ishl, 1) := fp_dk fp_hdX11_lost_63.2.2.1.1.1
theorem dX11_lost_114 : decode cX11_lost 114 = .ok (.ior, 1) := fp_dk fp_hdX11_lost_63.2.2.1.1.2
theorem dX11_lost_115 : decode cX11_lost 115 = .ok (.istore_n 3, 1) := fp_dk fp_hdX11_lost_63.2.2.1.2.1
theorem dX11_lost_116 : decode cX11_lost 116 = .ok (.iinc 4 1, 3) := fp_dk fp_hdX11_lost_63.2.2.1.2.2
theorem dX11_lost_119 : decode cX11_lost 119 = .ok (.goto (-77), 3) := fp_dk fp_hdX11_lost_63.2.2.2.1.1
theorem dX11_lost_122 : decode cX11_lost 122 = .ok (.iconst 0, 1) := fp_dk fp_hdX11_lost_63.2.2.2.1.2
theorem dX11_lost_123 : decode cX11_lost 123 = .ok (.istore 4, 2) := fp_dk fp_hdX11_lost_63.2.2.2.2.1
theorem dX11_lost_125 : decode cX11_lost 125 = .ok (.iconst 0, 1) := fp_dk fp_hdX11_lost_63.2.2.2.2.2
theorem fp_hdX11_lost_126 : (((((fp_dq cX11_lost 126 (.istore 5, 2) = true ∧ fp_dq cX11_lost 128 (.iload 5, 2) = true) ∧ (fp_dq cX11_lost 130 (.iconst 4, 1) = true ∧ fp_dq cX11_lost 131 (.if_icmp .ge 26, 3) = true)) ∧ ((fp_dq cX11_lost 134 (.iload 5, 2) = true ∧ fp_dq cX11_lost 136 (.iload_n 1, 1) = true) ∧ (fp_dq cX11_lost 137 (.if_icmp .eq 14, 3) = true ∧ fp_dq cX11_lost 140 (.iload 4, 2) = true))) ∧ (((fp_dq cX11_lost 142 (.aload_n 2, 1) = true ∧ fp_dq cX11_lost 143 (.iload 5, 2) = true) ∧ (fp_dq cX11_lost 145 (.invokevirtual 184, 3) = true ∧ fp_dq cX11_lost 148 (.ior, 1) = true)) ∧ ((fp_dq cX11_lost 149 (.istore 4, 2) = true ∧ fp_dq cX11_lost 151 (.iinc 5 1, 3) = true) ∧ (fp_dq cX11_lost 154 (.goto (-26), 3) = true ∧ fp_dq cX11_lost 157 (.iload_n 3, 1) = true)))) ∧ ((((fp_dq cX11_lost 158 (.iload 4, 2) = true ∧ fp_dq cX11_lost 160 (.iand, 1) = true) ∧ (fp_dq cX11_lost 161 (.ireturn, 1) = true ∧ fp_dq cX11_since 0 (.iload_n 1, 1) = true)) ∧ ((fp_dq cX11_since 1 (.invokestatic 181, 3) = true ∧ fp_dq cX11_since 4 (.ifCond .eq 14, 3) = true) ∧ (fp_dq cX11_since 7 (.aload_n 0, 1) = true ∧ fp_dq cX11_since 8 (.getfield 23, 3) = true))) ∧ (((fp_dq cX11_since 11 (.iload_n 2, 1) = true ∧ fp_dq cX11_since 12 (.invokevirtual 126, 3) = true) ∧ (fp_dq cX11_since 15 (.ifCond .ne 5, 3) = true ∧ fp_dq cX11_since 18 (.iconst (-1), 1) = true)) ∧ ((fp_dq cX11_since 19 (.ireturn, 1) = true ∧ fp_dq cX11_since 20 (.aload_n 0, 1) = true) ∧ (fp_dq cX11_since 21 (.getfield 30, 3) = true ∧ fp_dq cX11_since 24 (.getfield 138, 3) = true))))) := by decide +kernel
theorem dX11_lost_126 : decode cX11_lost 126 = .ok (.istore 5, 2) := fp_dk fp_hdX11_lost_126.1.1.1.1.1
theorem dX11_lost_128 : decode cX11_lost 128 = .ok (.iload 5, 2) := fp_dk fp_hdX11_lost_126.1.1.1.1.2
theorem dX11_lost_130 : decode cX11_lost 130 = .ok (.iconst 4, 1) := fp_dk fp_hdX11_lost_126.1.1.1.2.1
theorem dX11_lost_131 : decode cX11_lost 131 = .ok (.if_icmp .ge 26, 3) := fp_dk fp_hdX11_lost_126.1.1.1.2.2
theorem dX11_lost_134 : decode cX11_lost 134 = .ok (.iload 5, 2) := fp_dk fp_hdX11_lost_126.1.1.2.1.1
theorem dX11_lost_136 : decode cX11_lost 136 = .ok (.iload_n 1, 1) := fp_dk fp_hdX11_lost_126.1.1.2.1.2
theorem dX11_lost_137 : decode cX11_lost 137 = .ok (.if_icmp .eq 14, 3) := fp_dk fp_hdX11_lost_126.1.1.2.2.1
theorem dX11_lost_140 : decode cX11_lost 140 = .ok (.iload 4, 2) := fp_dk fp_hdX11_lost_126.1.1.2.2.2
theorem dX11_lost_142 : decode cX11_lost 142 = .ok (.aload_n 2, 1) := fp_dk fp_hdX11_lost_126.1.2.1.1.1
theorem dX11_lost_143 : decode cX11_lost 143 = .ok (.iload 5, 2) := fp_dk fp_hdX11_lost_126.1.2.1.1.2
theorem dX11_lost_145 : decode cX11_lost 145 = .ok (.invokevirtual 184, 3) := fp_dk fp_hdX11_lost_126.1.2.1.2.1
theorem dX11_lost_148 : decode cX11_lost 148 = .ok (.ior, 1) := fp_dk fp_hdX11_lost_126.1.2.1.2.2
theorem dX11_lost_149 : decode cX11_lost 149 = .ok (.istore 4, 2) := fp_dk fp_hdX11_lost_126.1.2.2.1.1
theorem dX11_lost_151 : decode cX11_lost 151 = .ok (.iinc 5 1, 3) := fp_dk fp_hdX11_lost_126.1.2.2.1.2
theorem dX11_lost_154 : decode cX11_lost 154 = .ok (.goto (-26), 3) := fp_dk fp_hdX11_lost_126.1.2.2.2.1
theorem dX11_lost_157 : decode cX11_lost 157 = .ok (.iload_n 3, 1) := fp_dk fp_hdX11_lost_126.1.2.2.2.2
theorem dX11_lost_158 : decode cX11_lost 158 = .ok (.iload 4, 2) := fp_dk fp_hdX11_lost_126.2.1.1.1.1
theorem dX11_lost_160 : decode cX11_lost 160 = .ok (.iand, 1) := fp_dk fp_hdX11_lost_126.2.1.1.1.2
theorem dX11_lost_161 : decode cX11_lost 161 = .ok (.ireturn, 1) := fp_dk fp_hdX11_lost_126.2.1.1.2.1
theorem dX11_since_0 : decode cX11_since 0 = .ok (.iload_n 1, 1) := fp_dk fp_hdX11_lost_126.2.1.1.2.2
theorem dX11_since_1 : decode cX11_since 1 = .ok (.invokestatic 181, 3) := fp_dk fp_hdX11_lost_126.2.1.2.1.1
theorem dX11_since_4 : decode cX11_since 4 = .ok (.ifCond .eq 14, 3) := fp_dk fp_hdX11_lost_126.2.1.2.1.2
theorem dX11_since_7 : decode cX11_since 7 = .ok (.aload_n 0, 1) := fp_dk fp_hdX11_lost_126.2.1.2.2.1
theorem dX11_since_8 : decode cX11_since 8 = .ok (.getfield 23, 3) := fp_dk fp_hdX11_lost_126.2.1.2.2.2
theorem dX11_since_11 : decode cX11_since 11 = .ok (.iload_n 2, 1) := fp_dk fp_hdX11_lost_126.2.2.1.1.1
theorem dX11_since_12 : decode cX11_since 12 = .ok (.invokevirtual 126, 3) := fp_dk fp_hdX11_lost_126.2.2.1.1.2
theorem dX11_since_15 : decode cX11_since 15 = .ok (.ifCond .ne 5, 3) := fp_dk fp_hdX11_lost_126.2.2.1.2.1
theorem dX11_since_18 : decode cX11_since 18 = .ok (.iconst (-1), 1) := fp_dk fp_hdX11_lost_126.2.2.1.2.2
theorem dX11_since_19 : decode cX11_since 19 = .ok (.ireturn, 1) := fp_dk fp_hdX11_lost_126.2.2.2.1.1
theorem dX11_since_20 : decode cX11_since 20 = .ok (.aload_n 0, 1) := fp_dk fp_hdX11_lost_126.2.2.2.1.2
theorem dX11_since_21 : decode cX11_since 21 = .ok (.getfield 30, 3) := fp_dk fp_hdX11_lost_126.2.2.2.2.1
theorem dX11_since_24 : decode cX11_since 24 = .ok (.getfield 138, 3) := fp_dk fp_hdX11_lost_126.2.2.2.2.2
theorem fp_hdX11_since_27 : (((((fp_dq cX11_since 27 (.iload_n 2, 1) = true ∧ fp_dq cX11_since 28 (.iaload, 1) = true) ∧ (fp_dq cX11_since 29 (.iload_n 1, 1) = true ∧ fp_dq cX11_since 30 (.if_icmp .ne 6, 3) = true)) ∧ ((fp_dq cX11_since 33 (.bipush (-2), 2) = true ∧ fp_dq cX11_since 35 (.ireturn, 1) = true) ∧ (fp_dq cX11_since 36 (.aload_n 0, 1) = true ∧ fp_dq cX11_since 37 (.getfield 51, 3) = true))) ∧ (((fp_dq cX11_since 40 (.aload_n 0, 1) = true ∧ fp_dq cX11_since 41 (.getfield 23, 3) = true) ∧ (fp_dq cX11_since 44 (.aload_n 0, 1) = true ∧ fp_dq cX11_since 45 (.getfield 37, 3) = true)) ∧ ((fp_dq cX11_since 48 (.aload_n 0, 1) = true ∧ fp_dq cX11_since 49 (.getfield 30, 3) = true) ∧ (fp_dq cX11_since 52 (.iconst 0, 1) = true ∧ fp_dq cX11_since 53 (.invokevirtual 214, 3) = true)))) ∧ ((((fp_dq cX11_since 56 (.astore_n 3, 1) = true ∧ fp_dq cX11_since 57 (.iconst 0, 1) = true) ∧ (fp_dq cX11_since 58 (.istore 4, 2) = true ∧ fp_dq cX11_since 60 (.iload 4, 2) = true)) ∧ ((fp_dq cX11_since 62 (.aload_n 0, 1) = true ∧ fp_dq cX11_since 63 (.getfield 37, 3) = true) ∧ (fp_dq cX11_since 66 (.getfield 205, 3) = true ∧ fp_dq cX11_since 69 (.if_icmp .ge 37, 3) = true))) ∧ (((fp_dq cX11_since 72 (.aload_n 0, 1) = true ∧ fp_dq cX11_since 73 (.getfield 37, 3) = true) ∧ (fp_dq cX11_since 76 (.aload_n 0, 1) = true ∧ fp_dq cX11_since 77 (.getfield 23, 3) = true)) ∧ ((fp_dq cX11_since 80 (.aload_n 3, 1) = true ∧ fp_dq cX11_since 81 (.iload 4, 2) = true) ∧ (fp_dq cX11_since 83 (.invokevirtual 206, 3) = true ∧ fp_dq cX11_since 86 (.pop, 1) = true))))) := by decide +kernel
theorem dX11_since_27 : decode cX11_since 27 = .ok (.iload_n 2, 1) := fp_dk fp_hdX11_since_27.1.1.1.1.1
theorem dX11_since_28 : decode cX11_since 28 = .ok (.iaload, 1) := fp_dk fp_hdX11_since_27.1.1.1.1.2
theorem dX11_since_29 : decode cX11_since 29 = .ok (.iload_n 1, 1) := fp_dk fp_hdX11_since_27.1.1.1.2.1
theorem dX11_since_30 : decode cX11_since 30 = .ok (.if_icmp .ne 6, 3) := fp_dk fp_hdX11_since_27.1.1.1.2.2
theorem dX11_since_33 : decode cX11_since 33 = .ok (.bipush (-2), 2) := fp_dk fp_hdX11_since_27.1.1.2.1.1
theorem dX11_since_35 : decode cX11_since 35 = .ok (.ireturn, 1) := fp_dk fp_hdX11_since_27.1.1.2.1.2
theorem dX11_since_36 : decode cX11_since 36 = .ok (.aload_n 0, 1) := fp_dk fp_hdX11_since_27.1.1.2.2.1
theorem dX11_since_37 : decode cX11_since 37 = .ok (.getfield 51, 3) := fp_dk fp_hdX11_since_27.1.1.2.2.2
theorem dX11_since_40 : decode cX11_since 40 = .ok (.aload_n 0, 1) := fp_dk fp_hdX11_since_27.1.2.1.1.1
theorem dX11_since_41 : decode cX11_since 41 = .ok (.getfield 23, 3) := fp_dk fp_hdX11_since_27.1.2.1.1.2
theorem dX11_since_44 : decode cX11_since 44 = .ok (.aload_n 0, 1) := fp_dk fp_hdX11_since_27.1.2.1.2.1
theorem dX11_since_45 : decode cX11_since 45 = .ok (.getfield 37, 3) := fp_dk fp_hdX11_since_27.1.2.1.2.2
theorem dX11_since_48 : decode cX11_since 48 = .ok (.aload_n 0, 1) := fp_dk fp_hdX11_since_27.1.2.2.1.1
theorem dX11_since_49 : decode cX11_since 49 = .ok (.getfield 30, 3) := fp_dk fp_hdX11_since_27.1.2.2.1.2
theorem dX11_since_52 : decode cX11_since 52 = .ok (.iconst 0, 1) := fp_dk fp_hdX11_since_27.1.2.2.2.1
theorem dX11_since_53 : decode cX11_since 53 = .ok (.invokevirtual 214, 3) := fp_dk fp_hdX11_since_27.1.2.2.2.2
theorem dX11_since_56 : decode cX11_since 56 = .ok (.astore_n 3, 1) := fp_dk fp_hdX11_since_27.2.1.1.1.1
theorem dX11_since_57 : decode cX11_since 57 = .ok (.iconst 0, 1) := fp_dk fp_hdX11_since_27.2.1.1.1.2
theorem dX11_since_58 : decode cX11_since 58 = .ok (.istore 4, 2) := fp_dk fp_hdX11_since_27.2.1.1.2.1
theorem dX11_since_60 : decode cX11_since 60 = .ok (.iload 4, 2) := fp_dk fp_hdX11_since_27.2.1.1.2.2
theorem dX11_since_62 : decode cX11_since 62 = .ok (.aload_n 0, 1) := fp_dk fp_hdX11_since_27.2.1.2.1.1
theorem dX11_since_63 : decode cX11_since 63 = .ok (.getfield 37, 3) := fp_dk fp_hdX11_since_27.2.1.2.1.2
theorem dX11_since_66 : decode cX11_since 66 = .ok (.getfield 205, 3) := fp_dk fp_hdX11_since_27.2.1.2.2.1
theorem dX11_since_69 : decode cX11_since 69 = .ok (.if_icmp .ge 37, 3) := fp_dk fp_hdX11_since_27.2.1.2.2.2
theorem dX11_since_72 : decode cX11_since 72 = .ok (.aload_n 0, 1) := fp_dk fp_hdX11_since_27.2.2.1.1.1
theorem dX11_since_73 : decode cX11_since 73 = .ok (.getfield 37, 3) := fp_dk fp_hdX11_since_27.2.2.1.1.2
theorem dX11_since_76 : decode cX11_since 76 = .ok (.aload_n 0, 1) := fp_dk fp_hdX11_since_27.2.2.1.2.1
theorem dX11_since_77 : decode cX11_since 77 = .ok (.getfield 23, 3) := fp_dk fp_hdX11_since_27.2.2.1.2.2
theorem dX11_since_80 : decode cX11_since 80 = .ok (.aload_n 3, 1) := fp_dk fp_hdX11_since_27.2.2.2.1.1
theorem dX11_since_81 : decode cX11_since 81 = .ok (.iload 4, 2) := fp_dk fp_hdX11_since_27.2.2.2.1.2
theorem dX11_since_83 : decode cX11_since 83 = .ok (.invokevirtual 206, 3) := fp_dk fp_hdX11_since_27.2.2.2.2.1
theorem dX11_since_86 : decode cX11_since 86 = .ok (.pop, 1) := fp_dk fp_hdX11_since_27.2.2.2.2.2
theorem fp_hdX11_since_87 : (((((fp_dq cX11_since 87 (.aload_n 3, 1) = true ∧ fp_dq cX11_since 88 (.getfield 138, 3) = true) ∧ (fp_dq cX11_since 91 (.iload_n 2, 1) = true ∧ fp_dq cX11_since 92 (.iaload, 1) = true)) ∧ ((fp_dq cX11_since 93 (.iload_n 1, 1) = true ∧ fp_dq cX11_since 94 (.if_icmp .ne 6, 3) = true) ∧ (fp_dq cX11_since 97 (.iload 4, 2) = true ∧ fp_dq cX11_since 99 (.ireturn, 1) = true))) ∧ (((fp_dq cX11_since 100 (.iinc 4 1, 3) = true ∧ fp_dq cX11_since 103 (.goto (-43), 3) = true) ∧ (fp_dq cX11_since 106 (.bipush (-4), 2) = true ∧ fp_dq cX11_since 108 (.ireturn, 1) = true)) ∧ ((fp_dq cX11_extra 0 (.iload_n 1, 1) = true ∧ fp_dq cX11_extra 1 (.invokestatic 181, 3) = true) ∧ (fp_dq cX11_extra 4 (.ifCond .eq 22, 3) = true ∧ fp_dq cX11_extra 7 (.aload_n 0, 1) = true)))) ∧ ((((fp_dq cX11_extra 8 (.getfield 23, 3) = true ∧ fp_dq cX11_extra 11 (.iload_n 2, 1) = true) ∧ (fp_dq cX11_extra 12 (.invokevirtual 148, 3) = true ∧ fp_dq cX11_extra 15 (.ifCond .eq 11, 3) = true)) ∧ ((fp_dq cX11_extra 18 (.iload_n 3, 1) = true ∧ fp_dq cX11_extra 19 (.iconst 1, 1) = true) ∧ (fp_dq cX11_extra 20 (.invokestatic 221, 3) = true ∧ fp_dq cX11_extra 23 (.ifCond .ne 5, 3) = true))) ∧ (((fp_dq cX11_extra 26 (.iconst (-1), 1) = true ∧ fp_dq cX11_extra 27 (.ireturn, 1) = true) ∧ (fp_dq cX11_extra 28 (.aload_n 0, 1) = true ∧ fp_dq cX11_extra 29 (.getfield 51, 3) = true)) ∧ ((fp_dq cX11_extra 32 (.aload_n 0, 1) = true ∧ fp_dq cX11_extra 33 (.getfield 23, 3) = true) ∧ (fp_dq cX11_extra 36 (.aload_n 0, 1) = true ∧ fp_dq cX11_extra 37 (.getfield 37, 3) = true))))) := by decide +kernel
theorem dX11_since_87 : decode cX11_since 87 = .ok (.aload_n 3, 1) := fp_dk fp_hdX11_since_87.1.1.1.1.1
theorem dX11_since_88 : decode cX11_since 88 = .ok (.getfield 138, 3) := fp_dk fp_hdX11_since_87.1.1.1.1.2
theorem dX11_since_91 : decode cX11_since 91 = .ok (.iload_n 2, 1) := fp_dk fp_hdX11_since_87.1.1.1.2.1
theorem dX11_since_92 : decode cX11_since 92 = .ok (.iaload, 1) := fp_dk fp_hdX11_since_87.1.1.1.2.2
theorem dX11_since_93 : decode cX11_since 93 = .ok (.iload_n 1, 1) := fp_dk fp_hdX11_since_87.1.1.2.1.1
theorem dX11_since_94 : decode cX11_since 94 = .ok (.if_icmp .ne 6, 3) := fp_dk fp_hdX11_since_87.1.1.2.1.2
theorem dX11_since_97 : decode cX11_since 97 = .ok (.iload 4, 2) := fp_dk fp_hdX11_since_87.1.1.2.2.1
theorem dX11_since_99 : decode cX11_since 99 = .ok (.ireturn, 1) := fp_dk fp_hdX11_since_87.1.1.2.2.2
theorem dX11_since_100 : decode cX11_since 100 = .ok (.iinc 4 1, 3) := fp_dk fp_hdX11_since_87.1.2.1.1.1
theorem dX11_since_103 : decode cX11_since 103 = .ok (.goto (-43), 3) := fp_dk fp_hdX11_since_87.1.2.1.1.2
theorem dX11_since_106 : decode cX11_since 106 = .ok (.bipush (-4), 2) := fp_dk fp_hdX11_since_87.1.2.1.2.1
theorem dX11_since_108 : decode cX11_since 108 = .ok (.ireturn, 1) := fp_dk fp_hdX11_since_87.1.2.1.2.2
theorem dX11_extra_0 : decode cX11_extra 0 = .ok (.iload_n 1, 1) := fp_dk fp_hdX11_since_87.1.2.2.1.1
theorem dX11_extra_1 : decode cX11_extra 1 = .ok (.invokestatic 181, 3) := fp_dk fp_hdX11_since_87.1.2.2.1.2
theorem dX11_extra_4 : decode cX11_extra 4 = .ok (.ifCond .eq 22, 3) := fp_dk fp_hdX11_since_87.1.2.2.2.1
theorem dX11_extra_7 : decode cX11_extra 7 = .ok (.aload_n 0, 1) := fp_dk fp_hdX11_since_87.1.2.2.2.2
theorem dX11_extra_8 : decode cX11_extra 8 = .ok (.getfield 23, 3) := fp_dk fp_hdX11_since_87.2.1.1.1.1
theorem dX11_extra_11 : decode cX11_extra 11 = .ok (.iload_n 2, 1) := fp_dk fp_hdX11_since_87.2.1.1.1.2
theorem dX11_extra_12 : decode cX11_extra 12 = .ok (.invokevirtual 148, 3) := fp_dk fp_hdX11_since_87.2.1.1.2.1
theorem dX11_extra_15 : decode cX11_extra 15 = .ok (.ifCond .eq 11, 3) := fp_dk fp_hdX11_since_87.2.1.1.2.2
theorem dX11_extra_18 : decode cX11_extra 18 = .ok (.iload_n 3, 1) := fp_dk fp_hdX11_since_87.2.1.2.1.1
theorem dX11_extra_19 : decode cX11_extra 19 = .ok (.iconst 1, 1) := fp_dk fp_hdX11_since_87.2.1.2.1.2
theorem dX11_extra_20 : decode cX11_extra 20 = .ok (.invokestatic 221, 3) := fp_dk fp_hdX11_since_87.2.1.2.2.1
theorem dX11_extra_23 : decode cX11_extra 23 = .ok (.ifCond .ne 5, 3) := fp_dk fp_hdX11_since_87.2.1.2.2.2
theorem dX11_extra_26 : decode cX11_extra 26 = .ok (.iconst (-1), 1) := fp_dk fp_hdX11_since_87.2.2.1.1.1
theorem dX11_extra_27 : decode cX11_extra 27 = .ok (.ireturn, 1) := fp_dk fp_hdX11_since_87.2.2.1.1.2
theorem dX11_extra_28 : decode cX11_extra 28 = .ok (.aload_n 0, 1) := fp_dk fp_hdX11_since_87.2.2.1.2.1
theorem dX11_extra_29 : decode cX11_extra 29 = .ok (.getfield 51, 3) := fp_dk fp_hdX11_since_87.2.2.1.2.2
theorem dX11_extra_32 : decode cX11_extra 32 = .ok (.aload_n 0, 1) := fp_dk fp_hdX11_since_87.2.2.2.1.1
theorem dX11_extra_33 : decode cX11_extra 33 = .ok (.getfield 23, 3) := fp_dk fp_hdX11_since_87.2.2.2.1.2
theorem dX11_extra_36 : decode cX11_extra 36 = .ok (.aload_n 0, 1) := fp_dk fp_hdX11_since_87.2.2.2.2.1
theorem dX11_extra_37 : decode cX11_extra 37 = .ok (.getfield 37, 3) := fp_dk fp_hdX11_since_87.2.2.2.2.2
theorem fp_hdX11_extra_40 : (((((fp_dq cX11_extra 40 (.aload_n 0, 1) = true ∧ fp_dq cX11_extra 41 (.getfield 30, 3) = true) ∧ (fp_dq cX11_extra 44 (.iconst 0, 1) = true ∧ fp_dq cX11_extra 45 (.invokevirtual 214, 3) = true)) ∧ ((fp_dq cX11_extra 48 (.astore 4, 2) = true ∧ fp_dq cX11_extra 50 (.bipush (-4), 2) = true) ∧ (fp_dq cX11_extra 52 (.istore 5, 2) = true ∧ fp_dq cX11_extra 54 (.bipush (-4), 2) = true))) ∧ (((fp_dq cX11_extra 56 (.istore 6, 2) = true ∧ fp_dq cX11_extra 58 (.iconst 0, 1) = true) ∧ (fp_dq cX11_extra 59 (.istore 7, 2) = true ∧ fp_dq cX11_extra 61 (.iload 7, 2) = true)) ∧ ((fp_dq cX11_extra 63 (.aload_n 0, 1) = true ∧ fp_dq cX11_extra 64 (.getfield 37, 3) = true) ∧ (fp_dq cX11_extra 67 (.getfield 205, 3) = true ∧ fp_dq cX11_extra 70 (.if_icmp .gt 75, 3) = true)))) ∧ ((((fp_dq cX11_extra 73 (.aload 4, 2) = true ∧ fp_dq cX11_extra 75 (.aload_n 0, 1) = true) ∧ (fp_dq cX11_extra 76 (.getfield 23, 3) = true ∧ fp_dq cX11_extra 79 (.iload_n 2, 1) = true)) ∧ ((fp_dq cX11_extra 80 (.invokevirtual 159, 3) = true ∧ fp_dq cX11_extra 83 (.istore 8, 2) = true) ∧ (fp_dq cX11_extra 85 (.iload 8, 2) = true ∧ fp_dq cX11_extra 87 (.bipush (-4), 2) = true))) ∧ (((fp_dq cX11_extra 89 (.if_icmp .eq 34, 3) = true ∧ fp_dq cX11_extra 92 (.aload_n 0, 1) = true) ∧ (fp_dq cX11_extra 93 (.getfield 23, 3) = true ∧ fp_dq cX11_extra 96 (.iload_n 1, 1) = true)) ∧ ((fp_dq cX11_extra 97 (.iload 8, 2) = true ∧ fp_dq cX11_extra 99 (.invokevirtual 130, 3) = true) ∧ (fp_dq cX11_extra 102 (.iload 5, 2) = true ∧ fp_dq cX11_extra 104 (.if_icmp .le 19, 3) = true))))) := by decide +kernel
theorem dX11_extra_40 : decode cX11_extra 40 = .ok (.aload_n 0, 1) := fp_dk fp_hdX11_extra_40.1.1.1.1.1
theorem dX11_extra_41 : decode cX11_extra 41 = .ok (.getfield 30, 3) := fp_dk fp_hdX11_extra_40.1.1.1.1.2
theorem dX11_extra_44 : decode cX11_extra 44 = .ok (.iconst 0, 1) := fp_dk fp_hdX11_extra_40.1.1.1.2.1
theorem dX11_extra_45 : decode cX11_extra 45 = .ok (.invokevirtual 214, 3) := fp_dk fp_hdX11_extra_40.1.1.1.2.2
theorem dX11_extra_48 : decode cX11_extra 48 = .ok (.astore 4, 2) := fp_dk fp_hdX11_extra_40.1.1.2.1.1
theorem dX11_extra_50 : decode cX11_extra 50 = .ok (.bipush (-4), 2) := fp_dk fp_hdX11_extra_40.1.1.2.1.2
theorem dX11_extra_52 : decode cX11_extra 52 = .ok (.istore 5, 2) := fp_dk fp_hdX11_extra_40.1.1.2.2.1
theorem dX11_extra_54 : decode cX11_extra 54 = .ok (.bipush (-4), 2) := fp_dk fp_hdX11_extra_40.1.1.2.2.2
theorem dX11_extra_56 : decode cX11_extra 56 = .ok (.istore 6, 2) := fp_dk fp_hdX11_extra_40.1.2.1.1.1
theorem dX11_extra_58 : decode cX11_extra 58 = .ok (.iconst 0, 1) := fp_dk fp_hdX11_extra_40.1.2.1.1.2
theorem dX11_extra_59 : decode cX11_extra 59 = .ok (.istore 7, 2) := fp_dk fp_hdX11_extra_40.1.2.1.2.1
theorem dX11_extra_61 : decode cX11_extra 61 = .ok (.iload 7, 2) := fp_dk fp_hdX11_extra_40.1.2.1.2.2
theorem dX11_extra_63 : decode cX11_extra 63 = .ok (.aload_n 0, 1) := fp_dk fp_hdX11_extra_40.1.2.2.1.1
theorem dX11_extra_64 : decode cX11_extra 64 = .ok (.getfield 37, 3) := fp_dk fp_hdX11_extra_40.1.2.2.1.2
theorem dX11_extra_67 : decode cX11_extra 67 = .ok (.getfield 205, 3) := fp_dk fp_hdX11_extra_40.1.2.2.2.1
theorem dX11_extra_70 : decode cX11_extra 70 = .ok (.if_icmp .gt 75, 3) := fp_dk fp_hdX11_extra_40.1.2.2.2.2
theorem dX11_extra_73 : decode cX11_extra 73 = .ok (.aload 4, 2) := fp_dk fp_hdX11_extra_40.2.1.1.1.1
theorem dX11_extra_75 : decode cX11_extra 75 = .ok (.aload_n 0, 1) := fp_dk fp_hdX11_extra_40.2.1.1.1.2
theorem dX11_extra_76 : decode cX11_extra 76 = .ok (.getfield 23, 3) := fp_dk fp_hdX11_extra_40.2.1.1.2.1
theorem dX11_extra_79 : decode cX11_extra 79 = .ok (.iload_n 2, 1) := fp_dk fp_hdX11_extra_40.2.1.1.2.2
theorem dX11_extra_80 : decode cX11_extra 80 = .ok (.invokevirtual 159, 3) := fp_dk fp_hdX11_extra_40.2.1.2.1.1
theorem dX11_extra_83 : decode cX11_extra 83 = .ok (.istore 8, 2) := fp_dk fp_hdX11_extra_40.2.1.2.1.2
theorem dX11_extra_85 : decode cX11_extra 85 = .ok (.iload 8, 2) := fp_dk fp_hdX11_extra_40.2.1.2.2.1
theorem dX11_extra_87 : decode cX11_extra 87 = .ok (.bipush (-4), 2) := fp_dk fp_hdX11_extra_40.2.1.2.2.2
theorem dX11_extra_89 : decode cX11_extra 89 = .ok (.if_icmp .eq 34, 3) := fp_dk fp_hdX11_extra_40.2.2.1.1.1
theorem dX11_extra_92 : decode cX11_extra 92 = .ok (.aload_n 0, 1) := fp_dk fp_hdX11_extra_40.2.2.1.1.2
theorem dX11_extra_93 : decode cX11_extra 93 = .ok (.getfield 23, 3) := fp_dk fp_hdX11_extra_40.2.2.1.2.1
theorem dX11_extra_96 : decode cX11_extra 96 = .ok (.iload_n 1, 1) := fp_dk fp_hdX11_extra_40.2.2.1.2.2
theorem dX11_extra_97 : decode cX11_extra 97 = .ok (.iload 8, 2) := fp_dk fp_hdX11_extra_40.2.2.2.1.1
theorem dX11_extra_99 : decode cX11_extra 99 = .ok (.invokevirtual 130, 3) := fp_dk fp_hdX11_extra_40.2.2.2.1.2
theorem dX11_extra_102 : decode cX11_extra 102 = .ok (.iload 5, 2) := fp_dk fp_hdX11_extra_40.2.2.2.2.1
theorem dX11_extra_104 : decode cX11_extra 104 = .ok (.if_icmp .le 19, 3) := fp_dk fp_hdX11_extra_40.2.2.2.2.2
theorem fp_hdX11_extra_107 : (((((fp_dq cX11_extra 107 (.aload_n 0, 1) = true ∧ fp_dq cX11_extra 108 (.getfield 23, 3) = true) ∧ (fp_dq cX11_extra 111 (.iload_n 1, 1) = true ∧ fp_dq cX11_extra 112 (.iload 8, 2) = true)) ∧ ((fp_dq cX11_extra 114 (.invokevirtual 130, 3) = true ∧ fp_dq cX11_extra 117 (.istore 5, 2) = true) ∧ (fp_dq cX11_extra 119 (.iload 7, 2) = true ∧ fp_dq cX11_extra 121 (.istore 6, 2) = true))) ∧ (((fp_dq cX11_extra 123 (.aload_n 0, 1) = true ∧ fp_dq cX11_extra 124 (.getfield 37, 3) = true) ∧ (fp_dq cX11_extra 127 (.aload_n 0, 1) = true ∧ fp_dq cX11_extra 128 (.getfield 23, 3) = true)) ∧ ((fp_dq cX11_extra 131 (.aload 4, 2) = true ∧ fp_dq cX11_extra 133 (.iload 7, 2) = true) ∧ (fp_dq cX11_extra 135 (.invokevirtual 206, 3) = true ∧ fp_dq cX11_extra 138 (.pop, 1) = true)))) ∧ ((((fp_dq cX11_extra 139 (.iinc 7 1, 3) = true ∧ fp_dq cX11_extra 142 (.goto (-81), 3) = true) ∧ (fp_dq cX11_extra 145 (.iload_n 3, 1) = true ∧ fp_dq cX11_extra 146 (.ifCond .ne 8, 3) = true)) ∧ ((fp_dq cX11_extra 149 (.iload 5, 2) = true ∧ fp_dq cX11_extra 151 (.goto 5, 3) = true) ∧ (fp_dq cX11_extra 154 (.iload 6, 2) = true ∧ fp_dq cX11_extra 156 (.ireturn, 1) = true))) ∧ (((fp_dq cX11_aim 0 (.aload_n 0, 1) = true ∧ fp_dq cX11_aim 1 (.getfield 23, 3) = true) ∧ (fp_dq cX11_aim 4 (.iload_n 1, 1) = true ∧ fp_dq cX11_aim 5 (.invokevirtual 126, 3) = true)) ∧ ((fp_dq cX11_aim 8 (.ifCond .eq 11, 3) = true ∧ fp_dq cX11_aim 11 (.iload_n 2, 1) = true) ∧ (fp_dq cX11_aim 12 (.iconst 1, 1) = true ∧ fp_dq cX11_aim 13 (.invokestatic 221, 3) = true))))) := by decide +kernel
theorem dX11_extra_107 : decode cX11_extra 107 = .ok (.aload_n 0, 1) := fp_dk fp_hdX11_extra_107.1.1.1.1.1
theorem dX11_extra_108 : decode cX11_extra 108 = .ok (.getfield 23, 3) := fp_dk fp_hdX11_extra_107.1.1.1.1.2
theorem dX11_extra_111 : decode cX11_extra 111 = .ok (.iload_n 1, 1) := fp_dk fp_hdX11_extra_107.1.1.1.2.1
theorem dX11_extra_112 : decode cX11_extra 112 = .ok (.iload 8, 2) := fp_dk fp_hdX11_extra_107.1.1.1.2.2
theorem dX11_extra_114 : decode cX11_extra 114 = .ok (.invokevirtual 130, 3) := fp_dk fp_hdX11_extra_107.1.1.2.1.1
theorem dX11_extra_117 : decode cX11_extra 117 = .ok (.istore 5, 2) := fp_dk fp_hdX11_extra_107.1.1.2.1.2
theorem dX11_extra_119 : decode cX11_extra 119 = .ok (.iload 7, 2) := fp_dk fp_hdX11_extra_107.1.1.2.2.1
theorem dX11_extra_121 : decode cX11_extra 121 = .ok (.istore 6, 2) := fp_dk fp_hdX11_extra_107.1.1.2.2.2
theorem dX11_extra_123 : decode cX11_extra 123 = .ok (.aload_n 0, 1) := fp_dk fp_hdX11_extra_107.1.2.1.1.1
theorem dX11_extra_124 : decode cX11_extra 124 = .ok (.getfield 37, 3) := fp_dk fp_hdX11_extra_107.1.2.1.1.2
theorem dX11_extra_127 : decode cX11_extra 127 = .ok (.aload_n 0, 1) := fp_dk fp_hdX11_extra_107.1.2.1.2.1
theorem dX11_extra_128 : decode cX11_extra 128 = .ok (.getfield 23, 3) := fp_dk fp_hdX11_extra_107.1.2.1.2.2
theorem dX11_extra_131 : decode cX11_extra 131 = .ok (.aload 4, 2) := fp_dk fp_hdX11_extra_107.1.2.2.1.1
theorem dX11_extra_133 : decode cX11_extra 133 = .ok (.iload 7, 2) := fp_dk fp_hdX11_extra_107.1.2.2.1.2
theorem dX11_extra_135 : decode cX11_extra 135 = .ok (.invokevirtual 206, 3) := fp_dk fp_hdX11_extra_107.1.2.2.2.1
theorem dX11_extra_138 : decode cX11_extra 138 = .ok (.pop, 1) := fp_dk fp_hdX11_extra_107.1.2.2.2.2
theorem dX11_extra_139 : decode cX11_extra 139 = .ok (.iinc 7 1, 3) := fp_dk fp_hdX11_extra_107.2.1.1.1.1
theorem dX11_extra_142 : decode cX11_extra 142 = .ok (.goto (-81), 3) := fp_dk fp_hdX11_extra_107.2.1.1.1.2
theorem dX11_extra_145 : decode cX11_extra 145 = .ok (.iload_n 3, 1) := fp_dk fp_hdX11_extra_107.2.1.1.2.1
theorem dX11_extra_146 : decode cX11_extra 146 = .ok (.ifCond .ne 8, 3) := fp_dk fp_hdX11_extra_107.2.1.1.2.2
theorem dX11_extra_149 : decode cX11_extra 149 = .ok (.iload 5, 2) := fp_dk fp_hdX11_extra_107.2.1.2.1.1
theorem dX11_extra_151 : decode cX11_extra 151 = .ok (.goto 5, 3) := fp_dk fp_hdX11_extra_107.2.1.2.1.2
theorem dX11_extra_154 : decode cX11_extra 154 = .ok (.iload 6, 2) := fp_dk fp_hdX11_extra_107.2.1.2.2.1
theorem dX11_extra_156 : decode cX11_extra 156 = .ok (.ireturn, 1) := fp_dk fp_hdX11_extra_107.2.1.2.2.2
theorem dX11_aim_0 : decode cX11_aim 0 = .ok (.aload_n 0, 1) := fp_dk fp_hdX11_extra_107.2.2.1.1.1
theorem dX11_aim_1 : decode cX11_aim 1 = .ok (.getfield 23, 3) := fp_dk fp_hdX11_extra_107.2.2.1.1.2
theorem dX11_aim_4 : decode cX11_aim 4 = .ok (.iload_n 1, 1) := fp_dk fp_hdX11_extra_107.2.2.1.2.1
theorem dX11_aim_5 : decode cX11_aim 5 = .ok (.invokevirtual 126, 3) := fp_dk fp_hdX11_extra_107.2.2.1.2.2
theorem dX11_aim_8 : decode cX11_aim 8 = .ok (.ifCond .eq 11, 3) := fp_dk fp_hdX11_extra_107.2.2.2.1.1
theorem dX11_aim_11 : decode cX11_aim 11 = .ok (.iload_n 2, 1) := fp_dk fp_hdX11_extra_107.2.2.2.1.2
theorem dX11_aim_12 : decode cX11_aim 12 = .ok (.iconst 1, 1) := fp_dk fp_hdX11_extra_107.2.2.2.2.1
theorem dX11_aim_13 : decode cX11_aim 13 = .ok (.invokestatic 221, 3) := fp_dk fp_hdX11_extra_107.2.2.2.2.2
theorem fp_hdX11_aim_16 : (((((fp_dq cX11_aim 16 (.ifCond .ne 5, 3) = true ∧ fp_dq cX11_aim 19 (.iconst (-1), 1) = true) ∧ (fp_dq cX11_aim 20 (.ireturn, 1) = true ∧ fp_dq cX11_aim 21 (.aload_n 0, 1) = true)) ∧ ((fp_dq cX11_aim 22 (.getfield 51, 3) = true ∧ fp_dq cX11_aim 25 (.aload_n 0, 1) = true) ∧ (fp_dq cX11_aim 26 (.getfield 23, 3) = true ∧ fp_dq cX11_aim 29 (.aload_n 0, 1) = true))) ∧ (((fp_dq cX11_aim 30 (.getfield 37, 3) = true ∧ fp_dq cX11_aim 33 (.aload_n 0, 1) = true) ∧ (fp_dq cX11_aim 34 (.getfield 30, 3) = true ∧ fp_dq cX11_aim 37 (.iconst 0, 1) = true)) ∧ ((fp_dq cX11_aim 38 (.invokevirtual 214, 3) = true ∧ fp_dq cX11_aim 41 (.astore_n 3, 1) = true) ∧ (fp_dq cX11_aim 42 (.iconst 0, 1) = true ∧ fp_dq cX11_aim 43 (.istore 4, 2) = true)))) ∧ ((((fp_dq cX11_aim 45 (.iload 4, 2) = true ∧ fp_dq cX11_aim 47 (.aload_n 0, 1) = true) ∧ (fp_dq cX11_aim 48 (.getfield 37, 3) = true ∧ fp_dq cX11_aim 51 (.getfield 205, 3) = true)) ∧ ((fp_dq cX11_aim 54 (.if_icmp .gt 71, 3) = true ∧ fp_dq cX11_aim 57 (.iconst 0, 1) = true) ∧ (fp_dq cX11_aim 58 (.istore 5, 2) = true ∧ fp_dq cX11_aim 60 (.iload 5, 2) = true))) ∧ (((fp_dq cX11_aim 62 (.aload_n 0, 1) = true ∧ fp_dq cX11_aim 63 (.getfield 23, 3) = true) ∧ (fp_dq cX11_aim 66 (.getfield 225, 3) = true ∧ fp_dq cX11_aim 69 (.if_icmp .ge 35, 3) = true)) ∧ ((fp_dq cX11_aim 72 (.aload_n 3, 1) = true ∧ fp_dq cX11_aim 73 (.aload_n 0, 1) = true) ∧ (fp_dq cX11_aim 74 (.getfield 23, 3) = true ∧ fp_dq cX11_aim 77 (.iload 5, 2) = true))))) := by decide +kernel
theorem dX11_aim_16 : decode cX11_aim 16 = .ok (.ifCond .ne 5, 3) := fp_dk fp_hdX11_aim_16.1.1.1.1.1
theorem dX11_aim_19 : decode cX11_aim 19 = .ok (.iconst (-1), 1) := fp_dk fp_hdX11_aim_16.1.1.1.1.2
theorem dX11_aim_20 : decode cX11_aim 20 = .ok (.ireturn, 1) := fp_dk fp_hdX11_aim_16.1.1.1.2.1
theorem dX11_aim_21 : decode cX11_aim 21 = .ok (.aload_n 0, 1) := fp_dk fp_hdX11_aim_16.1.1.1.2.2
theorem dX11_aim_22 : decode cX11_aim 22 = .ok (.getfield 51, 3) := fp_dk fp_hdX11_aim_16.1.1.2.1.1
theorem dX11_aim_25 : decode cX11_aim 25 = .ok (.aload_n 0, 1) := fp_dk fp_hdX11_aim_16.1.1.2.1.2
theorem dX11_aim_26 : decode cX11_aim 26 = .ok (.getfield 23, 3) := fp_dk fp_hdX11_aim_16.1.1.2.2.1
theorem dX11_aim_29 : decode cX11_aim 29 = .ok (.aload_n 0, 1) := fp_dk fp_hdX11_aim_16.1.1.2.2.2
theorem dX11_aim_30 : decode cX11_aim 30 = .ok (.getfield 37, 3) := fp_dk fp_hdX11_aim_16.1.2.1.1.1
theorem dX11_aim_33 : decode cX11_aim 33 = .ok (.aload_n 0, 1) := fp_dk fp_hdX11_aim_16.1.2.1.1.2
theorem dX11_aim_34 : decode cX11_aim 34 = .ok (.getfield 30, 3) := fp_dk fp_hdX11_aim_16.1.2.1.2.1
theorem dX11_aim_37 : decode cX11_aim 37 = .ok (.iconst 0, 1) := fp_dk fp_hdX11_aim_16.1.2.1.2.2
theorem dX11_aim_38 : decode cX11_aim 38 = .ok (.invokevirtual 214, 3) := fp_dk fp_hdX11_aim_16.1.2.2.1.1
theorem dX11_aim_41 : decode cX11_aim 41 = .ok (.astore_n 3, 1) := fp_dk fp_hdX11_aim_16.1.2.2.1.2
theorem dX11_aim_42 : decode cX11_aim 42 = .ok (.iconst 0, 1) := fp_dk fp_hdX11_aim_16.1.2.2.2.1
theorem dX11_aim_43 : decode cX11_aim 43 = .ok (.istore 4, 2) := fp_dk fp_hdX11_aim_16.1.2.2.2.2
theorem dX11_aim_45 : decode cX11_aim 45 = .ok (.iload 4, 2) := fp_dk fp_hdX11_aim_16.2.1.1.1.1
theorem dX11_aim_47 : decode cX11_aim 47 = .ok (.aload_n 0, 1) := fp_dk fp_hdX11_aim_16.2.1.1.1.2
theorem dX11_aim_48 : decode cX11_aim 48 = .ok (.getfield 37, 3) := fp_dk fp_hdX11_aim_16.2.1.1.2.1
theorem dX11_aim_51 : decode cX11_aim 51 = .ok (.getfield 205, 3) := fp_dk fp_hdX11_aim_16.2.1.1.2.2
theorem dX11_aim_54 : decode cX11_aim 54 = .ok (.if_icmp .gt 71, 3) := fp_dk fp_hdX11_aim_16.2.1.2.1.1
theorem dX11_aim_57 : decode cX11_aim 57 = .ok (.iconst 0, 1) := fp_dk fp_hdX11_aim_16.2.1.2.1.2
theorem dX11_aim_58 : decode cX11_aim 58 = .ok (.istore 5, 2) := fp_dk fp_hdX11_aim_16.2.1.2.2.1
theorem dX11_aim_60 : decode cX11_aim 60 = .ok (.iload 5, 2) := fp_dk fp_hdX11_aim_16.2.1.2.2.2
theorem dX11_aim_62 : decode cX11_aim 62 = .ok (.aload_n 0, 1) := fp_dk fp_hdX11_aim_16.2.2.1.1.1
theorem dX11_aim_63 : decode cX11_aim 63 = .ok (.getfield 23, 3) := fp_dk fp_hdX11_aim_16.2.2.1.1.2
theorem dX11_aim_66 : decode cX11_aim 66 = .ok (.getfield 225, 3) := fp_dk fp_hdX11_aim_16.2.2.1.2.1
theorem dX11_aim_69 : decode cX11_aim 69 = .ok (.if_icmp .ge 35, 3) := fp_dk fp_hdX11_aim_16.2.2.1.2.2
theorem dX11_aim_72 : decode cX11_aim 72 = .ok (.aload_n 3, 1) := fp_dk fp_hdX11_aim_16.2.2.2.1.1
theorem dX11_aim_73 : decode cX11_aim 73 = .ok (.aload_n 0, 1) := fp_dk fp_hdX11_aim_16.2.2.2.1.2
theorem dX11_aim_74 : decode cX11_aim 74 = .ok (.getfield 23, 3) := fp_dk fp_hdX11_aim_16.2.2.2.2.1
theorem dX11_aim_77 : decode cX11_aim 77 = .ok (.iload 5, 2) := fp_dk fp_hdX11_aim_16.2.2.2.2.2
theorem fp_hdX11_aim_79 : (((((fp_dq cX11_aim 79 (.invokevirtual 159, 3) = true ∧ fp_dq cX11_aim 82 (.iload_n 1, 1) = true) ∧ (fp_dq cX11_aim 83 (.if_icmp .ne 15, 3) = true ∧ fp_dq cX11_aim 86 (.iload_n 2, 1) = true)) ∧ ((fp_dq cX11_aim 87 (.ifCond .ne 8, 3) = true ∧ fp_dq cX11_aim 90 (.iload 4, 2) = true) ∧ (fp_dq cX11_aim 92 (.goto 5, 3) = true ∧ fp_dq cX11_aim 95 (.iload 5, 2) = true))) ∧ (((fp_dq cX11_aim 97 (.ireturn, 1) = true ∧ fp_dq cX11_aim 98 (.iinc 5 1, 3) = true) ∧ (fp_dq cX11_aim 101 (.goto (-41), 3) = true ∧ fp_dq cX11_aim 104 (.aload_n 0, 1) = true)) ∧ ((fp_dq cX11_aim 105 (.getfield 37, 3) = true ∧ fp_dq cX11_aim 108 (.aload_n 0, 1) = true) ∧ (fp_dq cX11_aim 109 (.getfield 23, 3) = true ∧ fp_dq cX11_aim 112 (.aload_n 3, 1) = true)))) ∧ ((((fp_dq cX11_aim 113 (.iload 4, 2) = true ∧ fp_dq cX11_aim 115 (.invokevirtual 206, 3) = true) ∧ (fp_dq cX11_aim 118 (.pop, 1) = true ∧ fp_dq cX11_aim 119 (.iinc 4 1, 3) = true)) ∧ ((fp_dq cX11_aim 122 (.goto (-77), 3) = true ∧ fp_dq cX11_aim 125 (.bipush (-4), 2) = true) ∧ (fp_dq cX11_aim 127 (.ireturn, 1) = true ∧ fp_dq cX11_trick 0 (.iload_n 1, 1) = true))) ∧ (((fp_dq cX11_trick 1 (.invokestatic 181, 3) = true ∧ fp_dq cX11_trick 4 (.ifCond .eq 39, 3) = true) ∧ (fp_dq cX11_trick 7 (.aload_n 0, 1) = true ∧ fp_dq cX11_trick 8 (.getfield 23, 3) = true)) ∧ ((fp_dq cX11_trick 11 (.iload_n 2, 1) = true ∧ fp_dq cX11_trick 12 (.invokevirtual 126, 3) = true) ∧ (fp_dq cX11_trick 15 (.ifCond .eq 28, 3) = true ∧ fp_dq cX11_trick 18 (.aload_n 0, 1) = true))))) := by decide +kernel
theorem dX11_aim_79 : decode cX11_aim 79 = .ok (.invokevirtual 159, 3) := fp_dk fp_hdX11_aim_79.1.1.1.1.1
theorem dX11_aim_82 : decode cX11_aim 82 = .ok (.iload_n 1, 1) := fp_dk fp_hdX11_aim_79.1.1.1.1.2
theorem dX11_aim_83 : decode cX11_aim 83 = .ok (.if_icmp .ne 15, 3) := fp_dk fp_hdX11_aim_79.1.1.1.2.1
theorem dX11_aim_86 : decode cX11_aim 86 = .ok (.iload_n 2, 1) := fp_dk fp_hdX11_aim_79.1.1.1.2.2
theorem dX11_aim_87 : decode cX11_aim 87 = .ok (.ifCond .ne 8, 3) := fp_dk fp_hdX11_aim_79.1.1.2.1.1
theorem dX11_aim_90 : decode cX11_aim 90 = .ok (.iload 4, 2) := fp_dk fp_hdX11_aim_79.1.1.2.1.2
theorem dX11_aim_92 : decode cX11_aim 92 = .ok (.goto 5, 3) := fp_dk fp_hdX11_aim_79.1.1.2.2.1
theorem dX11_aim_95 : decode cX11_aim 95 = .ok (.iload 5, 2) := fp_dk fp_hdX11_aim_79.1.1.2.2.2
theorem dX11_aim_97 : decode cX11_aim 97 = .ok (.ireturn, 1) := fp_dk fp_hdX11_aim_79.1.2.1.1.1
theorem dX11_aim_98 : decode cX11_aim 98 = .ok (.iinc 5 1, 3) := fp_dk fp_hdX11_aim_79.1.2.1.1.2
theorem dX11_aim_101 : decode cX11_aim 101 = .ok (.goto (-41), 3) := fp_dk fp_hdX11_aim_79.1.2.1.2.1
theorem dX11_aim_104 : decode cX11_aim 104 = .ok (.aload_n 0, 1) := fp_dk fp_hdX11_aim_79.1.2.1.2.2
theorem dX11_aim_105 : decode cX11_aim 105 = .ok (.getfield 37, 3) := fp_dk fp_hdX11_aim_79.1.2.2.1.1
theorem dX11_aim_108 : decode cX11_aim 108 = .ok (.aload_n 0, 1) := fp_dk fp_hdX11_aim_79.1.2.2.1.2
theorem dX11_aim_109 : decode cX11_aim 109 = .ok (.getfield 23, 3) := fp_dk fp_hdX11_aim_79.1.2.2.2.1
theorem dX11_aim_112 : decode cX11_aim 112 = .ok (.aload_n 3, 1) := fp_dk fp_hdX11_aim_79.1.2.2.2.2
theorem dX11_aim_113 : decode cX11_aim 113 = .ok (.iload 4, 2) := fp_dk fp_hdX11_aim_79.2.1.1.1.1
theorem dX11_aim_115 : decode cX11_aim 115 = .ok (.invokevirtual 206, 3) := fp_dk fp_hdX11_aim_79.2.1.1.1.2
theorem dX11_aim_118 : decode cX11_aim 118 = .ok (.pop, 1) := fp_dk fp_hdX11_aim_79.2.1.1.2.1
theorem dX11_aim_119 : decode cX11_aim 119 = .ok (.iinc 4 1, 3) := fp_dk fp_hdX11_aim_79.2.1.1.2.2
theorem dX11_aim_122 : decode cX11_aim 122 = .ok (.goto (-77), 3) := fp_dk fp_hdX11_aim_79.2.1.2.1.1
theorem dX11_aim_125 : decode cX11_aim 125 = .ok (.bipush (-4), 2) := fp_dk fp_hdX11_aim_79.2.1.2.1.2
theorem dX11_aim_127 : decode cX11_aim 127 = .ok (.ireturn, 1) := fp_dk fp_hdX11_aim_79.2.1.2.2.1
theorem dX11_trick_0 : decode cX11_trick 0 = .ok (.iload_n 1, 1) := fp_dk fp_hdX11_aim_79.2.1.2.2.2
theorem dX11_trick_1 : decode cX11_trick 1 = .ok (.invokestatic 181, 3) := fp_dk fp_hdX11_aim_79.2.2.1.1.1
theorem dX11_trick_4 : decode cX11_trick 4 = .ok (.ifCond .eq 39, 3) := fp_dk fp_hdX11_aim_79.2.2.1.1.2
theorem dX11_trick_7 : decode cX11_trick 7 = .ok (.aload_n 0, 1) := fp_dk fp_hdX11_aim_79.2.2.1.2.1
theorem dX11_trick_8 : decode cX11_trick 8 = .ok (.getfield 23, 3) := fp_dk fp_hdX11_aim_79.2.2.1.2.2
theorem dX11_trick_11 : decode cX11_trick 11 = .ok (.iload_n 2, 1) := fp_dk fp_hdX11_aim_79.2.2.2.1.1
theorem dX11_trick_12 : decode cX11_trick 12 = .ok (.invokevirtual 126, 3) := fp_dk fp_hdX11_aim_79.2.2.2.1.2
theorem dX11_trick_15 : decode cX11_trick 15 = .ok (.ifCond .eq 28, 3) := fp_dk fp_hdX11_aim_79.2.2.2.2.1
theorem dX11_trick_18 : decode cX11_trick 18 = .ok (.aload_n 0, 1) := fp_dk fp_hdX11_aim_79.2.2.2.2.2
theorem fp_hdX11_trick_19 : (((((fp_dq cX11_trick 19 (.getfield 23, 3) = true ∧ fp_dq cX11_trick 22 (.iload_n 3, 1) = true) ∧ (fp_dq cX11_trick 23 (.invokevirtual 126, 3) = true ∧ fp_dq cX11_trick 26 (.ifCond .eq 17, 3) = true)) ∧ ((fp_dq cX11_trick 29 (.iload_n 3, 1) = true ∧ fp_dq cX11_trick 30 (.iload_n 2, 1) = true) ∧ (fp_dq cX11_trick 31 (.if_icmp .eq 12, 3) = true ∧ fp_dq cX11_trick 34 (.iload 4, 2) = true))) ∧ (((fp_dq cX11_trick 36 (.iconst 2, 1) = true ∧ fp_dq cX11_trick 37 (.invokestatic 221, 3) = true) ∧ (fp_dq cX11_trick 40 (.ifCond .ne 5, 3) = true ∧ fp_dq cX11_trick 43 (.iconst (-1), 1) = true)) ∧ ((fp_dq cX11_trick 44 (.ireturn, 1) = true ∧ fp_dq cX11_trick 45 (.aload_n 0, 1) = true) ∧ (fp_dq cX11_trick 46 (.getfield 30, 3) = true ∧ fp_dq cX11_trick 49 (.getfield 138, 3) = true)))) ∧ ((((fp_dq cX11_trick 52 (.iload_n 2, 1) = true ∧ fp_dq cX11_trick 53 (.iaload, 1) = true) ∧ (fp_dq cX11_trick 54 (.iload_n 1, 1) = true ∧ fp_dq cX11_trick 55 (.if_icmp .eq 6, 3) = true)) ∧ ((fp_dq cX11_trick 58 (.bipush (-2), 2) = true ∧ fp_dq cX11_trick 60 (.ireturn, 1) = true) ∧ (fp_dq cX11_trick 61 (.iconst 0, 1) = true ∧ fp_dq cX11_trick 62 (.istore 5, 2) = true))) ∧ (((fp_dq cX11_trick 64 (.iload 5, 2) = true ∧ fp_dq cX11_trick 66 (.aload_n 0, 1) = true) ∧ (fp_dq cX11_trick 67 (.getfield 37, 3) = true ∧ fp_dq cX11_trick 70 (.getfield 205, 3) = true)) ∧ ((fp_dq cX11_trick 73 (.if_icmp .gt 115, 3) = true ∧ fp_dq cX11_trick 76 (.aload_n 0, 1) = true) ∧ (fp_dq cX11_trick 77 (.getfield 51, 3) = true ∧ fp_dq cX11_trick 80 (.aload_n 0, 1) = true))))) := by decide +kernel
theorem dX11_trick_19 : decode cX11_trick 19 = .ok (.getfield 23, 3) := fp_dk fp_hdX11_trick_19.1.1.1.1.1
theorem dX11_trick_22 : decode cX11_trick 22 = .ok (.iload_n 3, 1) := fp_dk fp_hdX11_trick_19.1.1.1.1.2
theorem dX11_trick_23 : decode cX11_trick 23 = .ok (.invokevirtual 126, 3) := fp_dk fp_hdX11_trick_19.1.1.1.2.1
theorem dX11_trick_26 : decode cX11_trick 26 = .ok (.ifCond .eq 17, 3) := fp_dk fp_hdX11_trick_19.1.1.1.2.2
theorem dX11_trick_29 : decode cX11_trick 29 = .ok (.iload_n 3, 1) := fp_dk fp_hdX11_trick_19.1.1.2.1.1
theorem dX11_trick_30 : decode cX11_trick 30 = .ok (.iload_n 2, 1) := fp_dk fp_hdX11_trick_19.1.1.2.1.2
theorem dX11_trick_31 : decode cX11_trick 31 = .ok (.if_icmp .eq 12, 3) := fp_dk fp_hdX11_trick_19.1.1.2.2.1
theorem dX11_trick_34 : decode cX11_trick 34 = .ok (.iload 4, 2) := fp_dk fp_hdX11_trick_19.1.1.2.2.2
theorem dX11_trick_36 : decode cX11_trick 36 = .ok (.iconst 2, 1) := fp_dk fp_hdX11_trick_19.1.2.1.1.1
theorem dX11_trick_37 : decode cX11_trick 37 = .ok (.invokestatic 221, 3) := fp_dk fp_hdX11_trick_19.1.2.1.1.2
theorem dX11_trick_40 : decode cX11_trick 40 = .ok (.ifCond .ne 5, 3) := fp_dk fp_hdX11_trick_19.1.2.1.2.1
theorem dX11_trick_43 : decode cX11_trick 43 = .ok (.iconst (-1), 1) := fp_dk fp_hdX11_trick_19.1.2.1.2.2
theorem dX11_trick_44 : decode cX11_trick 44 = .ok (.ireturn, 1) := fp_dk fp_hdX11_trick_19.1.2.2.1.1
theorem dX11_trick_45 : decode cX11_trick 45 = .ok (.aload_n 0, 1) := fp_dk fp_hdX11_trick_19.1.2.2.1.2
theorem dX11_trick_46 : decode cX11_trick 46 = .ok (.getfield 30, 3) := fp_dk fp_hdX11_trick_19.1.2.2.2.1
theorem dX11_trick_49 : decode cX11_trick 49 = .ok (.getfield 138, 3) := fp_dk fp_hdX11_trick_19.1.2.2.2.2
theorem dX11_trick_52 : decode cX11_trick 52 = .ok (.iload_n 2, 1) := fp_dk fp_hdX11_trick_19.2.1.1.1.1
theorem dX11_trick_53 : decode cX11_trick 53 = .ok (.iaload, 1) := fp_dk fp_hdX11_trick_19.2.1.1.1.2
theorem dX11_trick_54 : decode cX11_trick 54 = .ok (.iload_n 1, 1) := fp_dk fp_hdX11_trick_19.2.1.1.2.1
theorem dX11_trick_55 : decode cX11_trick 55 = .ok (.if_icmp .eq 6, 3) := fp_dk fp_hdX11_trick_19.2.1.1.2.2
theorem dX11_trick_58 : decode cX11_trick 58 = .ok (.bipush (-2), 2) := fp_dk fp_hdX11_trick_19.2.1.2.1.1
theorem dX11_trick_60 : decode cX11_trick 60 = .ok (.ireturn, 1) := fp_dk fp_hdX11_trick_19.2.1.2.1.2
theorem dX11_trick_61 : decode cX11_trick 61 = .ok (.iconst 0, 1) := fp_dk fp_hdX11_trick_19.2.1.2.2.1
theorem dX11_trick_62 : decode cX11_trick 62 = .ok (.istore 5, 2) := fp_dk fp_hdX11_trick_19.2.1.2.2.2
theorem dX11_trick_64 : decode cX11_trick 64 = .ok (.iload 5, 2) := fp_dk fp_hdX11_trick_19.2.2.1.1.1
theorem dX11_trick_66 : decode cX11_trick 66 = .ok (.aload_n 0, 1) := fp_dk fp_hdX11_trick_19.2.2.1.1.2
theorem dX11_trick_67 : decode cX11_trick 67 = .ok (.getfield 37, 3) := fp_dk fp_hdX11_trick_19.2.2.1.2.1
theorem dX11_trick_70 : decode cX11_trick 70 = .ok (.getfield 205, 3) := fp_dk fp_hdX11_trick_19.2.2.1.2.2
theorem dX11_trick_73 : decode cX11_trick 73 = .ok (.if_icmp .gt 115, 3) := fp_dk fp_hdX11_trick_19.2.2.2.1.1
theorem dX11_trick_76 : decode cX11_trick 76 = .ok (.aload_n 0, 1) := fp_dk fp_hdX11_trick_19.2.2.2.1.2
theorem dX11_trick_77 : decode cX11_trick 77 = .ok (.getfield 51, 3) := fp_dk fp_hdX11_trick_19.2.2.2.2.1
theorem dX11_trick_80 : decode cX11_trick 80 = .ok (.aload_n 0, 1) := fp_dk fp_hdX11_trick_19.2.2.2.2.2
theorem fp_hdX11_trick_81 : (((((fp_dq cX11_trick 81 (.getfield 23, 3) = true ∧ fp_dq cX11_trick 84 (.aload_n 0, 1) = true) ∧ (fp_dq cX11_trick 85 (.getfield 37, 3) = true ∧ fp_dq cX11_trick 88 (.aload_n 0, 1) = true)) ∧ ((fp_dq cX11_trick 89 (.getfield 30, 3) = true ∧ fp_dq cX11_trick 92 (.iload 5, 2) = true) ∧ (fp_dq cX11_trick 94 (.iload_n 2, 1) = true ∧ fp_dq cX11_trick 95 (.invokevirtual 228, 3) = true))) ∧ (((fp_dq cX11_trick 98 (.iload 5, 2) = true ∧ fp_dq cX11_trick 100 (.istore 6, 2) = true) ∧ (fp_dq cX11_trick 102 (.iload 6, 2) = true ∧ fp_dq cX11_trick 104 (.aload_n 0, 1) = true)) ∧ ((fp_dq cX11_trick 105 (.getfield 37, 3) = true ∧ fp_dq cX11_trick 108 (.getfield 205, 3) = true) ∧ (fp_dq cX11_trick 111 (.if_icmp .gt 71, 3) = true ∧ fp_dq cX11_trick 114 (.aload_n 0, 1) = true)))) ∧ ((((fp_dq cX11_trick 115 (.getfield 51, 3) = true ∧ fp_dq cX11_trick 118 (.aload_n 0, 1) = true) ∧ (fp_dq cX11_trick 119 (.getfield 23, 3) = true ∧ fp_dq cX11_trick 122 (.iload_n 3, 1) = true)) ∧ ((fp_dq cX11_trick 123 (.invokevirtual 232, 3) = true ∧ fp_dq cX11_trick 126 (.istore 7, 2) = true) ∧ (fp_dq cX11_trick 128 (.iload 7, 2) = true ∧ fp_dq cX11_trick 130 (.bipush (-4), 2) = true))) ∧ (((fp_dq cX11_trick 132 (.if_icmp .eq 27, 3) = true ∧ fp_dq cX11_trick 135 (.iload 4, 2) = true) ∧ (fp_dq cX11_trick 137 (.ifCond .ne 8, 3) = true ∧ fp_dq cX11_trick 140 (.iload 5, 2) = true)) ∧ ((fp_dq cX11_trick 142 (.goto 16, 3) = true ∧ fp_dq cX11_trick 145 (.iload 4, 2) = true) ∧ (fp_dq cX11_trick 147 (.iconst 1, 1) = true ∧ fp_dq cX11_trick 148 (.if_icmp .ne 8, 3) = true))))) := by decide +kernel
theorem dX11_trick_81 : decode cX11_trick 81 = .ok (.getfield 23, 3) := fp_dk fp_hdX11_trick_81.1.1.1.1.1
theorem dX11_trick_84 : decode cX11_trick 84 = .ok (.aload_n 0, 1) := fp_dk fp_hdX11_trick_81.1.1.1.1.2
theorem dX11_trick_85 : decode cX11_trick 85 = .ok (.getfield 37, 3) := fp_dk fp_hdX11_trick_81.1.1.1.2.1
theorem dX11_trick_88 : decode cX11_trick 88 = .ok (.aload_n 0, 1) := fp_dk fp_hdX11_trick_81.1.1.1.2.2
theorem dX11_trick_89 : decode cX11_trick 89 = .ok (.getfield 30, 3) := fp_dk fp_hdX11_trick_81.1.1.2.1.1
theorem dX11_trick_92 : decode cX11_trick 92 = .ok (.iload 5, 2) := fp_dk fp_hdX11_trick_81.1.1.2.1.2
theorem dX11_trick_94 : decode cX11_trick 94 = .ok (.iload_n 2, 1) := fp_dk fp_hdX11_trick_81.1.1.2.2.1
theorem dX11_trick_95 : decode cX11_trick 95 = .ok (.invokevirtual 228, 3) := fp_dk fp_hdX11_trick_81.1.1.2.2.2
theorem dX11_trick_98 : decode cX11_trick 98 = .ok (.iload 5, 2) := fp_dk fp_hdX11_trick_81.1.2.1.1.1
theorem dX11_trick_100 : decode cX11_trick 100 = .ok (.istore 6, 2) := fp_dk fp_hdX11_trick_81.1.2.1.1.2
theorem dX11_trick_102 : decode cX11_trick 102 = .ok (.iload 6, 2) := fp_dk fp_hdX11_trick_81.1.2.1.2.1
theorem dX11_trick_104 : decode cX11_trick 104 = .ok (.aload_n 0, 1) := fp_dk fp_hdX11_trick_81.1.2.1.2.2
theorem dX11_trick_105 : decode cX11_trick 105 = .ok (.getfield 37, 3) := fp_dk fp_hdX11_trick_81.1.2.2.1.1
theorem dX11_trick_108 : decode cX11_trick 108 = .ok (.getfield 205, 3) := fp_dk fp_hdX11_trick_81.1.2.2.1.2
theorem dX11_trick_111 : decode cX11_trick 111 = .ok (.if_icmp .gt 71, 3) := fp_dk fp_hdX11_trick_81.1.2.2.2.1
theorem dX11_trick_114 : decode cX11_trick 114 = .ok (.aload_n 0, 1) := fp_dk fp_hdX11_trick_81.1.2.2.2.2
theorem dX11_trick_115 : decode cX11_trick 115 = .ok (.getfield 51, 3) := fp_dk fp_hdX11_trick_81.2.1.1.1.1
theorem dX11_trick_118 : decode cX11_trick 118 = .ok (.aload_n 0, 1) := fp_dk fp_hdX11_trick_81.2.1.1.1.2
theorem dX11_trick_119 : decode cX11_trick 119 = .ok (.getfield 23, 3) := fp_dk fp_hdX11_trick_81.2.1.1.2.1
theorem dX11_trick_122 : decode cX11_trick 122 = .ok (.iload_n 3, 1) := fp_dk fp_hdX11_trick_81.2.1.1.2.2
theorem dX11_trick_123 : decode cX11_trick 123 = .ok (.invokevirtual 232, 3) := fp_dk fp_hdX11_trick_81.2.1.2.1.1
theorem dX11_trick_126 : decode cX11_trick 126 = .ok (.istore 7, 2) := fp_dk fp_hdX11_trick_81.2.1.2.1.2
theorem dX11_trick_128 : decode cX11_trick 128 = .ok (.iload 7, 2) := fp_dk fp_hdX11_trick_81.2.1.2.2.1
theorem dX11_trick_130 : decode cX11_trick 130 = .ok (.bipush (-4), 2) := fp_dk fp_hdX11_trick_81.2.1.2.2.2
theorem dX11_trick_132 : decode cX11_trick 132 = .ok (.if_icmp .eq 27, 3) := fp_dk fp_hdX11_trick_81.2.2.1.1.1
theorem dX11_trick_135 : decode cX11_trick 135 = .ok (.iload 4, 2) := fp_dk fp_hdX11_trick_81.2.2.1.1.2
theorem dX11_trick_137 : decode cX11_trick 137 = .ok (.ifCond .ne 8, 3) := fp_dk fp_hdX11_trick_81.2.2.1.2.1
theorem dX11_trick_140 : decode cX11_trick 140 = .ok (.iload 5, 2) := fp_dk fp_hdX11_trick_81.2.2.1.2.2
theorem dX11_trick_142 : decode cX11_trick 142 = .ok (.goto 16, 3) := fp_dk fp_hdX11_trick_81.2.2.2.1.1
theorem dX11_trick_145 : decode cX11_trick 145 = .ok (.iload 4, 2) := fp_dk fp_hdX11_trick_81.2.2.2.1.2
theorem dX11_trick_147 : decode cX11_trick 147 = .ok (.iconst 1, 1) := fp_dk fp_hdX11_trick_81.2.2.2.2.1
theorem dX11_trick_148 : decode cX11_trick 148 = .ok (.if_icmp .ne 8, 3) := fp_dk fp_hdX11_trick_81.2.2.2.2.2
theorem fp_hdX11_trick_151 : (((((fp_dq cX11_trick 151 (.iload 6, 2) = true ∧ fp_dq cX11_trick 153 (.goto 5, 3) = true) ∧ (fp_dq cX11_trick 156 (.iload 7, 2) = true ∧ fp_dq cX11_trick 158 (.ireturn, 1) = true)) ∧ ((fp_dq cX11_trick 159 (.aload_n 0, 1) = true ∧ fp_dq cX11_trick 160 (.getfield 51, 3) = true) ∧ (fp_dq cX11_trick 163 (.aload_n 0, 1) = true ∧ fp_dq cX11_trick 164 (.getfield 23, 3) = true))) ∧ (((fp_dq cX11_trick 167 (.aload_n 0, 1) = true ∧ fp_dq cX11_trick 168 (.getfield 37, 3) = true) ∧ (fp_dq cX11_trick 171 (.iload 6, 2) = true ∧ fp_dq cX11_trick 173 (.invokevirtual 235, 3) = true)) ∧ ((fp_dq cX11_trick 176 (.iinc 6 1, 3) = true ∧ fp_dq cX11_trick 179 (.goto (-77), 3) = true) ∧ (fp_dq cX11_trick 182 (.iinc 5 1, 3) = true ∧ fp_dq cX11_trick 185 (.goto (-121), 3) = true)))) ∧ ((((fp_dq cX11_trick 188 (.bipush (-4), 2) = true ∧ fp_dq cX11_trick 190 (.ireturn, 1) = true) ∧ (fp_dq cX11_most 0 (.iload_n 2, 1) = true ∧ fp_dq cX11_most 1 (.bipush 10, 2) = true)) ∧ ((fp_dq cX11_most 3 (.if_icmp .lt 21, 3) = true ∧ fp_dq cX11_most 6 (.aload_n 0, 1) = true) ∧ (fp_dq cX11_most 7 (.getfield 37, 3) = true ∧ fp_dq cX11_most 10 (.iload_n 2, 1) = true))) ∧ (((fp_dq cX11_most 11 (.bipush 10, 2) = true ∧ fp_dq cX11_most 13 (.isub, 1) = true) ∧ (fp_dq cX11_most 14 (.invokevirtual 163, 3) = true ∧ fp_dq cX11_most 17 (.ifCond .eq 7, 3) = true)) ∧ ((fp_dq cX11_most 20 (.iconst 1, 1) = true ∧ fp_dq cX11_most 21 (.goto 4, 3) = true) ∧ (fp_dq cX11_most 24 (.iconst 0, 1) = true ∧ fp_dq cX11_most 25 (.istore_n 3, 1) = true))))) := by decide +kernel
theorem dX11_trick_151 : decode cX11_trick 151 = .ok (.iload 6, 2) := fp_dk fp_hdX11_trick_151.1.1.1.1.1
theorem dX11_trick_153 : decode cX11_trick 153 = .ok (.goto 5, 3) := fp_dk fp_hdX11_trick_151.1.1.1.1.2
theorem dX11_trick_156 : decode cX11_trick 156 = .ok (.iload 7, 2) := fp_dk fp_hdX11_trick_151.1.1.1.2.1
theorem dX11_trick_158 : decode cX11_trick 158 = .ok (.ireturn, 1) := fp_dk fp_hdX11_trick_151.1.1.1.2.2
theorem dX11_trick_159 : decode cX11_trick 159 = .ok (.aload_n 0, 1) := fp_dk fp_hdX11_trick_151.1.1.2.1.1
theorem dX11_trick_160 : decode cX11_trick 160 = .ok (.getfield 51, 3) := fp_dk fp_hdX11_trick_151.1.1.2.1.2
theorem dX11_trick_163 : decode cX11_trick 163 = .ok (.aload_n 0, 1) := fp_dk fp_hdX11_trick_151.1.1.2.2.1
theorem dX11_trick_164 : decode cX11_trick 164 = .ok (.getfield 23, 3) := fp_dk fp_hdX11_trick_151.1.1.2.2.2
theorem dX11_trick_167 : decode cX11_trick 167 = .ok (.aload_n 0, 1) := fp_dk fp_hdX11_trick_151.1.2.1.1.1
theorem dX11_trick_168 : decode cX11_trick 168 = .ok (.getfield 37, 3) := fp_dk fp_hdX11_trick_151.1.2.1.1.2
theorem dX11_trick_171 : decode cX11_trick 171 = .ok (.iload 6, 2) := fp_dk fp_hdX11_trick_151.1.2.1.2.1
theorem dX11_trick_173 : decode cX11_trick 173 = .ok (.invokevirtual 235, 3) := fp_dk fp_hdX11_trick_151.1.2.1.2.2
theorem dX11_trick_176 : decode cX11_trick 176 = .ok (.iinc 6 1, 3) := fp_dk fp_hdX11_trick_151.1.2.2.1.1
theorem dX11_trick_179 : decode cX11_trick 179 = .ok (.goto (-77), 3) := fp_dk fp_hdX11_trick_151.1.2.2.1.2
theorem dX11_trick_182 : decode cX11_trick 182 = .ok (.iinc 5 1, 3) := fp_dk fp_hdX11_trick_151.1.2.2.2.1
theorem dX11_trick_185 : decode cX11_trick 185 = .ok (.goto (-121), 3) := fp_dk fp_hdX11_trick_151.1.2.2.2.2
theorem dX11_trick_188 : decode cX11_trick 188 = .ok (.bipush (-4), 2) := fp_dk fp_hdX11_trick_151.2.1.1.1.1
theorem dX11_trick_190 : decode cX11_trick 190 = .ok (.ireturn, 1) := fp_dk fp_hdX11_trick_151.2.1.1.1.2
theorem dX11_most_0 : decode cX11_most 0 = .ok (.iload_n 2, 1) := fp_dk fp_hdX11_trick_151.2.1.1.2.1
theorem dX11_most_1 : decode cX11_most 1 = .ok (.bipush 10, 2) := fp_dk fp_hdX11_trick_151.2.1.1.2.2
theorem dX11_most_3 : decode cX11_most 3 = .ok (.if_icmp .lt 21, 3) := fp_dk fp_hdX11_trick_151.2.1.2.1.1
theorem dX11_most_6 : decode cX11_most 6 = .ok (.aload_n 0, 1) := fp_dk fp_hdX11_trick_151.2.1.2.1.2
theorem dX11_most_7 : decode cX11_most 7 = .ok (.getfield 37, 3) := fp_dk fp_hdX11_trick_151.2.1.2.2.1
theorem dX11_most_10 : decode cX11_most 10 = .ok (.iload_n 2, 1) := fp_dk fp_hdX11_trick_151.2.1.2.2.2
theorem dX11_most_11 : decode cX11_most 11 = .ok (.bipush 10, 2) := fp_dk fp_hdX11_trick_151.2.2.1.1.1
theorem dX11_most_13 : decode cX11_most 13 = .ok (.isub, 1) := fp_dk fp_hdX11_trick_151.2.2.1.1.2
theorem dX11_most_14 : decode cX11_most 14 = .ok (.invokevirtual 163, 3) := fp_dk fp_hdX11_trick_151.2.2.1.2.1
theorem dX11_most_17 : decode cX11_most 17 = .ok (.ifCond .eq 7, 3) := fp_dk fp_hdX11_trick_151.2.2.1.2.2
theorem dX11_most_20 : decode cX11_most 20 = .ok (.iconst 1, 1) := fp_dk fp_hdX11_trick_151.2.2.2.1.1
theorem dX11_most_21 : decode cX11_most 21 = .ok (.goto 4, 3) := fp_dk fp_hdX11_trick_151.2.2.2.1.2
theorem dX11_most_24 : decode cX11_most 24 = .ok (.iconst 0, 1) := fp_dk fp_hdX11_trick_151.2.2.2.2.1
theorem dX11_most_25 : decode cX11_most 25 = .ok (.istore_n 3, 1) := fp_dk fp_hdX11_trick_151.2.2.2.2.2
theorem fp_hdX11_most_26 : (((((fp_dq cX11_most 26 (.iload_n 1, 1) = true ∧ fp_dq cX11_most 27 (.invokestatic 181, 3) = true) ∧ (fp_dq cX11_most 30 (.ifCond .eq 11, 3) = true ∧ fp_dq cX11_most 33 (.iload_n 2, 1) = true)) ∧ ((fp_dq cX11_most 34 (.ifCond .eq 9, 3) = true ∧ fp_dq cX11_most 37 (.iload_n 3, 1) = true) ∧ (fp_dq cX11_most 38 (.ifCond .ne 5, 3) = true ∧ fp_dq cX11_most 41 (.iconst (-1), 1) = true))) ∧ (((fp_dq cX11_most 42 (.ireturn, 1) = true ∧ fp_dq cX11_most 43 (.aload_n 0, 1) = true) ∧ (fp_dq cX11_most 44 (.getfield 23, 3) = true ∧ fp_dq cX11_most 47 (.getfield 225, 3) = true)) ∧ ((fp_dq cX11_most 50 (.ifCond .eq 16, 3) = true ∧ fp_dq cX11_most 53 (.aload_n 0, 1) = true) ∧ (fp_dq cX11_most 54 (.getfield 37, 3) = true ∧ fp_dq cX11_most 57 (.iload_n 1, 1) = true)))) ∧ ((((fp_dq cX11_most 58 (.invokevirtual 239, 3) = true ∧ fp_dq cX11_most 61 (.bipush 7, 2) = true) ∧ (fp_dq cX11_most 63 (.if_icmp .le 6, 3) = true ∧ fp_dq cX11_most 66 (.bipush (-2), 2) = true)) ∧ ((fp_dq cX11_most 68 (.ireturn, 1) = true ∧ fp_dq cX11_most 69 (.aload_n 0, 1) = true) ∧ (fp_dq cX11_most 70 (.getfield 51, 3) = true ∧ fp_dq cX11_most 73 (.aload_n 0, 1) = true))) ∧ (((fp_dq cX11_most 74 (.getfield 23, 3) = true ∧ fp_dq cX11_most 77 (.aload_n 0, 1) = true) ∧ (fp_dq cX11_most 78 (.getfield 37, 3) = true ∧ fp_dq cX11_most 81 (.aload_n 0, 1) = true)) ∧ ((fp_dq cX11_most 82 (.getfield 30, 3) = true ∧ fp_dq cX11_most 85 (.iload_n 1, 1) = true) ∧ (fp_dq cX11_most 86 (.invokevirtual 242, 3) = true ∧ fp_dq cX11_most 89 (.iload_n 3, 1) = true))))) := by decide +kernel
theorem dX11_most_26 : decode cX11_most 26 = .ok (.iload_n 1, 1) := fp_dk fp_hdX11_most_26.1.1.1.1.1
theorem dX11_most_27 : decode cX11_most 27 = .ok (.invokestatic 181, 3) := fp_dk fp_hdX11_most_26.1.1.1.1.2
theorem dX11_most_30 : decode cX11_most 30 = .ok (.ifCond .eq 11, 3) := fp_dk fp_hdX11_most_26.1.1.1.2.1
theorem dX11_most_33 : decode cX11_most 33 = .ok (.iload_n 2, 1) := fp_dk fp_hdX11_most_26.1.1.1.2.2
theorem dX11_most_34 : decode cX11_most 34 = .ok (.ifCond .eq 9, 3) := fp_dk fp_hdX11_most_26.1.1.2.1.1
theorem dX11_most_37 : decode cX11_most 37 = .ok (.iload_n 3, 1) := fp_dk fp_hdX11_most_26.1.1.2.1.2
theorem dX11_most_38 : decode cX11_most 38 = .ok (.ifCond .ne 5, 3) := fp_dk fp_hdX11_most_26.1.1.2.2.1
theorem dX11_most_41 : decode cX11_most 41 = .ok (.iconst (-1), 1) := fp_dk fp_hdX11_most_26.1.1.2.2.2
theorem dX11_most_42 : decode cX11_most 42 = .ok (.ireturn, 1) := fp_dk fp_hdX11_most_26.1.2.1.1.1
theorem dX11_most_43 : decode cX11_most 43 = .ok (.aload_n 0, 1) := fp_dk fp_hdX11_most_26.1.2.1.1.2
theorem dX11_most_44 : decode cX11_most 44 = .ok (.getfield 23, 3) := fp_dk fp_hdX11_most_26.1.2.1.2.1
theorem dX11_most_47 : decode cX11_most 47 = .ok (.getfield 225, 3) := fp_dk fp_hdX11_most_26.1.2.1.2.2
theorem dX11_most_50 : decode cX11_most 50 = .ok (.ifCond .eq 16, 3) := fp_dk fp_hdX11_most_26.1.2.2.1.1
theorem dX11_most_53 : decode cX11_most 53 = .ok (.aload_n 0, 1) := fp_dk fp_hdX11_most_26.1.2.2.1.2
theorem dX11_most_54 : decode cX11_most 54 = .ok (.getfield 37, 3) := fp_dk fp_hdX11_most_26.1.2.2.2.1
theorem dX11_most_57 : decode cX11_most 57 = .ok (.iload_n 1, 1) := fp_dk fp_hdX11_most_26.1.2.2.2.2
theorem dX11_most_58 : decode cX11_most 58 = .ok (.invokevirtual 239, 3) := fp_dk fp_hdX11_most_26.2.1.1.1.1
theorem dX11_most_61 : decode cX11_most 61 = .ok (.bipush 7, 2) := fp_dk fp_hdX11_most_26.2.1.1.1.2
theorem dX11_most_63 : decode cX11_most 63 = .ok (.if_icmp .le 6, 3) := fp_dk fp_hdX11_most_26.2.1.1.2.1
theorem dX11_most_66 : decode cX11_most 66 = .ok (.bipush (-2), 2) := fp_dk fp_hdX11_most_26.2.1.1.2.2
theorem dX11_most_68 : decode cX11_most 68 = .ok (.ireturn, 1) := fp_dk fp_hdX11_most_26.2.1.2.1.1
theorem dX11_most_69 : decode cX11_most 69 = .ok (.aload_n 0, 1) := fp_dk fp_hdX11_most_26.2.1.2.1.2
theorem dX11_most_70 : decode cX11_most 70 = .ok (.getfield 51, 3) := fp_dk fp_hdX11_most_26.2.1.2.2.1
theorem dX11_most_73 : decode cX11_most 73 = .ok (.aload_n 0, 1) := fp_dk fp_hdX11_most_26.2.1.2.2.2
theorem dX11_most_74 : decode cX11_most 74 = .ok (.getfield 23, 3) := fp_dk fp_hdX11_most_26.2.2.1.1.1
theorem dX11_most_77 : decode cX11_most 77 = .ok (.aload_n 0, 1) := fp_dk fp_hdX11_most_26.2.2.1.1.2
theorem dX11_most_78 : decode cX11_most 78 = .ok (.getfield 37, 3) := fp_dk fp_hdX11_most_26.2.2.1.2.1
theorem dX11_most_81 : decode cX11_most 81 = .ok (.aload_n 0, 1) := fp_dk fp_hdX11_most_26.2.2.1.2.2
theorem dX11_most_82 : decode cX11_most 82 = .ok (.getfield 30, 3) := fp_dk fp_hdX11_most_26.2.2.2.1.1
theorem dX11_most_85 : decode cX11_most 85 = .ok (.iload_n 1, 1) := fp_dk fp_hdX11_most_26.2.2.2.1.2
theorem dX11_most_86 : decode cX11_most 86 = .ok (.invokevirtual 242, 3) := fp_dk fp_hdX11_most_26.2.2.2.2.1
theorem dX11_most_89 : decode cX11_most 89 = .ok (.iload_n 3, 1) := fp_dk fp_hdX11_most_26.2.2.2.2.2
theorem fp_hdX11_most_90 : (((((fp_dq cX11_most 90 (.ifCond .eq 18, 3) = true ∧ fp_dq cX11_most 93 (.aload_n 0, 1) = true) ∧ (fp_dq cX11_most 94 (.getfield 51, 3) = true ∧ fp_dq cX11_most 97 (.getfield 246, 3) = true)) ∧ ((fp_dq cX11_most 100 (.iload_n 2, 1) = true ∧ fp_dq cX11_most 101 (.bipush 10, 2) = true) ∧ (fp_dq cX11_most 103 (.isub, 1) = true ∧ fp_dq cX11_most 104 (.iaload, 1) = true))) ∧ (((fp_dq cX11_most 105 (.goto 10, 3) = true ∧ fp_dq cX11_most 108 (.aload_n 0, 1) = true) ∧ (fp_dq cX11_most 109 (.getfield 51, 3) = true ∧ fp_dq cX11_most 112 (.getfield 249, 3) = true)) ∧ ((fp_dq cX11_most 115 (.ireturn, 1) = true ∧ fp_dq cX11_odds 0 (.aload_n 0, 1) = true) ∧ (fp_dq cX11_odds 1 (.getfield 23, 3) = true ∧ fp_dq cX11_odds 4 (.iload_n 1, 1) = true)))) ∧ ((((fp_dq cX11_odds 5 (.invokevirtual 148, 3) = true ∧ fp_dq cX11_odds 8 (.ifCond .eq 22, 3) = true) ∧ (fp_dq cX11_odds 11 (.aload_n 0, 1) = true ∧ fp_dq cX11_odds 12 (.getfield 23, 3) = true)) ∧ ((fp_dq cX11_odds 15 (.iload_n 2, 1) = true ∧ fp_dq cX11_odds 16 (.invokevirtual 126, 3) = true) ∧ (fp_dq cX11_odds 19 (.ifCond .eq 11, 3) = true ∧ fp_dq cX11_odds 22 (.iload_n 3, 1) = true))) ∧ (((fp_dq cX11_odds 23 (.iconst 1, 1) = true ∧ fp_dq cX11_odds 24 (.invokestatic 221, 3) = true) ∧ (fp_dq cX11_odds 27 (.ifCond .ne 7, 3) = true ∧ fp_dq cX11_odds 30 (.ldc2_w 252, 3) = true)) ∧ ((fp_dq cX11_odds 33 (.lreturn, 1) = true ∧ fp_dq cX11_odds 34 (.aload_n 0, 1) = true) ∧ (fp_dq cX11_odds 35 (.getfield 37, 3) = true ∧ fp_dq cX11_odds 38 (.getfield 205, 3) = true))))) := by decide +kernel
theorem dX11_most_90 : decode cX11_most 90 = .ok (.ifCond .eq 18, 3) := fp_dk fp_hdX11_most_90.1.1.1.1.1
theorem dX11_most_93 : decode cX11_most 93 = .ok (.aload_n 0, 1) := fp_dk fp_hdX11_most_90.1.1.1.1.2
theorem dX11_most_94 : decode cX11_most 94 = .ok (.getfield 51, 3) := fp_dk fp_hdX11_most_90.1.1.1.2.1
theorem dX11_most_97 : decode cX11_most 97 = .ok (.getfield 246, 3) := fp_dk fp_hdX11_most_90.1.1.1.2.2
theorem dX11_most_100 : decode cX11_most 100 = .ok (.iload_n 2, 1) := fp_dk fp_hdX11_most_90.1.1.2.1.1
theorem dX11_most_101 : decode cX11_most 101 = .ok (.bipush 10, 2) := fp_dk fp_hdX11_most_90.1.1.2.1.2
theorem dX11_most_103 : decode cX11_most 103 = .ok (.isub, 1) := fp_dk fp_hdX11_most_90.1.1.2.2.1
theorem dX11_most_104 : decode cX11_most 104 = .ok (.iaload, 1) := fp_dk fp_hdX11_most_90.1.1.2.2.2
theorem dX11_most_105 : decode cX11_most 105 = .ok (.goto 10, 3) := fp_dk fp_hdX11_most_90.1.2.1.1.1
theorem dX11_most_108 : decode cX11_most 108 = .ok (.aload_n 0, 1) := fp_dk fp_hdX11_most_90.1.2.1.1.2
theorem dX11_most_109 : decode cX11_most 109 = .ok (.getfield 51, 3) := fp_dk fp_hdX11_most_90.1.2.1.2.1
theorem dX11_most_112 : decode cX11_most 112 = .ok (.getfield 249, 3) := fp_dk fp_hdX11_most_90.1.2.1.2.2
theorem dX11_most_115 : decode cX11_most 115 = .ok (.ireturn, 1) := fp_dk fp_hdX11_most_90.1.2.2.1.1
theorem dX11_odds_0 : decode cX11_odds 0 = .ok (.aload_n 0, 1) := fp_dk fp_hdX11_most_90.1.2.2.1.2
theorem dX11_odds_1 : decode cX11_odds 1 = .ok (.getfield 23, 3) := fp_dk fp_hdX11_most_90.1.2.2.2.1
theorem dX11_odds_4 : decode cX11_odds 4 = .ok (.iload_n 1, 1) := fp_dk fp_hdX11_most_90.1.2.2.2.2
theorem dX11_odds_5 : decode cX11_odds 5 = .ok (.invokevirtual 148, 3) := fp_dk fp_hdX11_most_90.2.1.1.1.1
theorem dX11_odds_8 : decode cX11_odds 8 = .ok (.ifCond .eq 22, 3) := fp_dk fp_hdX11_most_90.2.1.1.1.2
theorem dX11_odds_11 : decode cX11_odds 11 = .ok (.aload_n 0, 1) := fp_dk fp_hdX11_most_90.2.1.1.2.1
theorem dX11_odds_12 : decode cX11_odds 12 = .ok (.getfield 23, 3) := fp_dk fp_hdX11_most_90.2.1.1.2.2
theorem dX11_odds_15 : decode cX11_odds 15 = .ok (.iload_n 2, 1) := fp_dk fp_hdX11_most_90.2.1.2.1.1
theorem dX11_odds_16 : decode cX11_odds 16 = .ok (.invokevirtual 126, 3) := fp_dk fp_hdX11_most_90.2.1.2.1.2
theorem dX11_odds_19 : decode cX11_odds 19 = .ok (.ifCond .eq 11, 3) := fp_dk fp_hdX11_most_90.2.1.2.2.1
theorem dX11_odds_22 : decode cX11_odds 22 = .ok (.iload_n 3, 1) := fp_dk fp_hdX11_most_90.2.1.2.2.2
theorem dX11_odds_23 : decode cX11_odds 23 = .ok (.iconst 1, 1) := fp_dk fp_hdX11_most_90.2.2.1.1.1
theorem dX11_odds_24 : decode cX11_odds 24 = .ok (.invokestatic 221, 3) := fp_dk fp_hdX11_most_90.2.2.1.1.2
theorem dX11_odds_27 : decode cX11_odds 27 = .ok (.ifCond .ne 7, 3) := fp_dk fp_hdX11_most_90.2.2.1.2.1
theorem dX11_odds_30 : decode cX11_odds 30 = .ok (.ldc2_w 252, 3) := fp_dk fp_hdX11_most_90.2.2.1.2.2
theorem dX11_odds_33 : decode cX11_odds 33 = .ok (.lreturn, 1) := fp_dk fp_hdX11_most_90.2.2.2.1.1
theorem dX11_odds_34 : decode cX11_odds 34 = .ok (.aload_n 0, 1) := fp_dk fp_hdX11_most_90.2.2.2.1.2
theorem dX11_odds_35 : decode cX11_odds 35 = .ok (.getfield 37, 3) := fp_dk fp_hdX11_most_90.2.2.2.2.1
theorem dX11_odds_38 : decode cX11_odds 38 = .ok (.getfield 205, 3) := fp_dk fp_hdX11_most_90.2.2.2.2.2
theorem fp_hdX11_odds_41 : (((((fp_dq cX11_odds 41 (.bipush 10, 2) = true ∧ fp_dq cX11_odds 43 (.if_icmp .le 7, 3) = true) ∧ (fp_dq cX11_odds 46 (.ldc2_w 254, 3) = true ∧ fp_dq cX11_odds 49 (.lreturn, 1) = true)) ∧ ((fp_dq cX11_odds 50 (.aload_n 0, 1) = true ∧ fp_dq cX11_odds 51 (.getfield 51, 3) = true) ∧ (fp_dq cX11_odds 54 (.aload_n 0, 1) = true ∧ fp_dq cX11_odds 55 (.getfield 23, 3) = true))) ∧ (((fp_dq cX11_odds 58 (.aload_n 0, 1) = true ∧ fp_dq cX11_odds 59 (.getfield 37, 3) = true) ∧ (fp_dq cX11_odds 62 (.aload_n 0, 1) = true ∧ fp_dq cX11_odds 63 (.getfield 30, 3) = true)) ∧ ((fp_dq cX11_odds 66 (.iload_n 1, 1) = true ∧ fp_dq cX11_odds 67 (.invokevirtual 256, 3) = true) ∧ (fp_dq cX11_odds 70 (.lstore 4, 2) = true ∧ fp_dq cX11_odds 72 (.aload_n 0, 1) = true)))) ∧ ((((fp_dq cX11_odds 73 (.getfield 51, 3) = true ∧ fp_dq cX11_odds 76 (.getfield 260, 3) = true) ∧ (fp_dq cX11_odds 79 (.iload_n 2, 1) = true ∧ fp_dq cX11_odds 80 (.laload, 1) = true)) ∧ ((fp_dq cX11_odds 81 (.lstore 6, 2) = true ∧ fp_dq cX11_odds 83 (.lload 4, 2) = true) ∧ (fp_dq cX11_odds 85 (.lload 6, 2) = true ∧ fp_dq cX11_odds 87 (.invokestatic 264, 3) = true))) ∧ (((fp_dq cX11_odds 90 (.lstore 8, 2) = true ∧ fp_dq cX11_odds 92 (.lload 8, 2) = true) ∧ (fp_dq cX11_odds 94 (.lconst 0, 1) = true ∧ fp_dq cX11_odds 95 (.lcmp, 1) = true)) ∧ ((fp_dq cX11_odds 96 (.ifCond .gt 7, 3) = true ∧ fp_dq cX11_odds 99 (.ldc2_w 254, 3) = true) ∧ (fp_dq cX11_odds 102 (.lreturn, 1) = true ∧ fp_dq cX11_odds 103 (.iload_n 3, 1) = true))))) := by decide +kernel
theorem dX11_odds_41 : decode cX11_odds 41 = .ok (.bipush 10, 2) := fp_dk fp_hdX11_odds_41.1.1.1.1.1
theorem dX11_odds_43 : decode cX11_odds 43 = .ok (.if_icmp .le 7, 3) := fp_dk fp_hdX11_odds_41.1.1.1.1.2
theorem dX11_odds_46 : decode cX11_odds 46 = .ok (.ldc2_w 254, 3) := fp_dk fp_hdX11_odds_41.1.1.1.2.1
theorem dX11_odds_49 : decode cX11_odds 49 = .ok (.lreturn, 1) := fp_dk fp_hdX11_odds_41.1.1.1.2.2
theorem dX11_odds_50 : decode cX11_odds 50 = .ok (.aload_n 0, 1) := fp_dk fp_hdX11_odds_41.1.1.2.1.1
theorem dX11_odds_51 : decode cX11_odds 51 = .ok (.getfield 51, 3) := fp_dk fp_hdX11_odds_41.1.1.2.1.2
theorem dX11_odds_54 : decode cX11_odds 54 = .ok (.aload_n 0, 1) := fp_dk fp_hdX11_odds_41.1.1.2.2.1
theorem dX11_odds_55 : decode cX11_odds 55 = .ok (.getfield 23, 3) := fp_dk fp_hdX11_odds_41.1.1.2.2.2
theorem dX11_odds_58 : decode cX11_odds 58 = .ok (.aload_n 0, 1) := fp_dk fp_hdX11_odds_41.1.2.1.1.1
theorem dX11_odds_59 : decode cX11_odds 59 = .ok (.getfield 37, 3) := fp_dk fp_hdX11_odds_41.1.2.1.1.2
theorem dX11_odds_62 : decode cX11_odds 62 = .ok (.aload_n 0, 1) := fp_dk fp_hdX11_odds_41.1.2.1.2.1
theorem dX11_odds_63 : decode cX11_odds 63 = .ok (.getfield 30, 3) := fp_dk fp_hdX11_odds_41.1.2.1.2.2
theorem dX11_odds_66 : decode cX11_odds 66 = .ok (.iload_n 1, 1) := fp_dk fp_hdX11_odds_41.1.2.2.1.1
theorem dX11_odds_67 : decode cX11_odds 67 = .ok (.invokevirtual 256, 3) := fp_dk fp_hdX11_odds_41.1.2.2.1.2
theorem dX11_odds_70 : decode cX11_odds 70 = .ok (.lstore 4, 2) := fp_dk fp_hdX11_odds_41.1.2.2.2.1
theorem dX11_odds_72 : decode cX11_odds 72 = .ok (.aload_n 0, 1) := fp_dk fp_hdX11_odds_41.1.2.2.2.2
theorem dX11_odds_73 : decode cX11_odds 73 = .ok (.getfield 51, 3) := fp_dk fp_hdX11_odds_41.2.1.1.1.1
theorem dX11_odds_76 : decode cX11_odds 76 = .ok (.getfield 260, 3) := fp_dk fp_hdX11_odds_41.2.1.1.1.2
theorem dX11_odds_79 : decode cX11_odds 79 = .ok (.iload_n 2, 1) := fp_dk fp_hdX11_odds_41.2.1.1.2.1
theorem dX11_odds_80 : decode cX11_odds 80 = .ok (.laload, 1) := fp_dk fp_hdX11_odds_41.2.1.1.2.2
theorem dX11_odds_81 : decode cX11_odds 81 = .ok (.lstore 6, 2) := fp_dk fp_hdX11_odds_41.2.1.2.1.1
theorem dX11_odds_83 : decode cX11_odds 83 = .ok (.lload 4, 2) := fp_dk fp_hdX11_odds_41.2.1.2.1.2
theorem dX11_odds_85 : decode cX11_odds 85 = .ok (.lload 6, 2) := fp_dk fp_hdX11_odds_41.2.1.2.2.1
theorem dX11_odds_87 : decode cX11_odds 87 = .ok (.invokestatic 264, 3) := fp_dk fp_hdX11_odds_41.2.1.2.2.2
theorem dX11_odds_90 : decode cX11_odds 90 = .ok (.lstore 8, 2) := fp_dk fp_hdX11_odds_41.2.2.1.1.1
theorem dX11_odds_92 : decode cX11_odds 92 = .ok (.lload 8, 2) := fp_dk fp_hdX11_odds_41.2.2.1.1.2
theorem dX11_odds_94 : decode cX11_odds 94 = .ok (.lconst 0, 1) := fp_dk fp_hdX11_odds_41.2.2.1.2.1
theorem dX11_odds_95 : decode cX11_odds 95 = .ok (.lcmp, 1) := fp_dk fp_hdX11_odds_41.2.2.1.2.2
theorem dX11_odds_96 : decode cX11_odds 96 = .ok (.ifCond .gt 7, 3) := fp_dk fp_hdX11_odds_41.2.2.2.1.1
theorem dX11_odds_99 : decode cX11_odds 99 = .ok (.ldc2_w 254, 3) := fp_dk fp_hdX11_odds_41.2.2.2.1.2
theorem dX11_odds_102 : decode cX11_odds 102 = .ok (.lreturn, 1) := fp_dk fp_hdX11_odds_41.2.2.2.2.1
theorem dX11_odds_103 : decode cX11_odds 103 = .ok (.iload_n 3, 1) := fp_dk fp_hdX11_odds_41.2.2.2.2.2
theorem fp_hdX11_odds_104 : (((((fp_dq cX11_odds 104 (.ifCond .ne 11, 3) = true ∧ fp_dq cX11_odds 107 (.lload 6, 2) = true) ∧ (fp_dq cX11_odds 109 (.lload 8, 2) = true ∧ fp_dq cX11_odds 111 (.ldiv, 1) = true)) ∧ ((fp_dq cX11_odds 112 (.goto 8, 3) = true ∧ fp_dq cX11_odds 115 (.lload 4, 2) = true) ∧ (fp_dq cX11_odds 117 (.lload 8, 2) = true ∧ fp_dq cX11_odds 119 (.ldiv, 1) = true))) ∧ (((fp_dq cX11_odds 120 (.lreturn, 1) = true ∧ fp_dq cX11_likeliest 0 (.aload_n 0, 1) = true) ∧ (fp_dq cX11_likeliest 1 (.getfield 23, 3) = true ∧ fp_dq cX11_likeliest 4 (.iload_n 1, 1) = true)) ∧ ((fp_dq cX11_likeliest 5 (.invokevirtual 148, 3) = true ∧ fp_dq cX11_likeliest 8 (.ifCond .ne 5, 3) = true) ∧ (fp_dq cX11_likeliest 11 (.iconst (-1), 1) = true ∧ fp_dq cX11_likeliest 12 (.ireturn, 1) = true)))) ∧ ((((fp_dq cX11_likeliest 13 (.aload_n 0, 1) = true ∧ fp_dq cX11_likeliest 14 (.getfield 37, 3) = true) ∧ (fp_dq cX11_likeliest 17 (.getfield 205, 3) = true ∧ fp_dq cX11_likeliest 20 (.bipush 10, 2) = true)) ∧ ((fp_dq cX11_likeliest 22 (.if_icmp .le 6, 3) = true ∧ fp_dq cX11_likeliest 25 (.bipush (-2), 2) = true) ∧ (fp_dq cX11_likeliest 27 (.ireturn, 1) = true ∧ fp_dq cX11_likeliest 28 (.aload_n 0, 1) = true))) ∧ (((fp_dq cX11_likeliest 29 (.getfield 51, 3) = true ∧ fp_dq cX11_likeliest 32 (.aload_n 0, 1) = true) ∧ (fp_dq cX11_likeliest 33 (.getfield 23, 3) = true ∧ fp_dq cX11_likeliest 36 (.aload_n 0, 1) = true)) ∧ ((fp_dq cX11_likeliest 37 (.getfield 37, 3) = true ∧ fp_dq cX11_likeliest 40 (.aload_n 0, 1) = true) ∧ (fp_dq cX11_likeliest 41 (.getfield 30, 3) = true ∧ fp_dq cX11_likeliest 44 (.iload_n 1, 1) = true))))) := by decide +kernel
theorem dX11_odds_104 : decode cX11_odds 104 = .ok (.ifCond .ne 11, 3) := fp_dk fp_hdX11_odds_104.1.1.1.1.1
theorem dX11_odds_107 : decode cX11_odds 107 = .ok (.lload 6, 2) := fp_dk fp_hdX11_odds_104.1.1.1.1.2
theorem dX11_odds_109 : decode cX11_odds 109 = .ok (.lload 8, 2) := fp_dk fp_hdX11_odds_104.1.1.1.2.1
theorem dX11_odds_111 : decode cX11_odds 111 = .ok (.ldiv, 1) := fp_dk fp_hdX11_odds_104.1.1.1.2.2
theorem dX11_odds_112 : decode cX11_odds 112 = .ok (.goto 8, 3) := fp_dk fp_hdX11_odds_104.1.1.2.1.1
theorem dX11_odds_115 : decode cX11_odds 115 = .ok (.lload 4, 2) := fp_dk fp_hdX11_odds_104.1.1.2.1.2
theorem dX11_odds_117 : decode cX11_odds 117 = .ok (.lload 8, 2) := fp_dk fp_hdX11_odds_104.1.1.2.2.1
theorem dX11_odds_119 : decode cX11_odds 119 = .ok (.ldiv, 1) := fp_dk fp_hdX11_odds_104.1.1.2.2.2
theorem dX11_odds_120 : decode cX11_odds 120 = .ok (.lreturn, 1) := fp_dk fp_hdX11_odds_104.1.2.1.1.1
theorem dX11_likeliest_0 : decode cX11_likeliest 0 = .ok (.aload_n 0, 1) := fp_dk fp_hdX11_odds_104.1.2.1.1.2
theorem dX11_likeliest_1 : decode cX11_likeliest 1 = .ok (.getfield 23, 3) := fp_dk fp_hdX11_odds_104.1.2.1.2.1
theorem dX11_likeliest_4 : decode cX11_likeliest 4 = .ok (.iload_n 1, 1) := fp_dk fp_hdX11_odds_104.1.2.1.2.2
theorem dX11_likeliest_5 : decode cX11_likeliest 5 = .ok (.invokevirtual 148, 3) := fp_dk fp_hdX11_odds_104.1.2.2.1.1
theorem dX11_likeliest_8 : decode cX11_likeliest 8 = .ok (.ifCond .ne 5, 3) := fp_dk fp_hdX11_odds_104.1.2.2.1.2
theorem dX11_likeliest_11 : decode cX11_likeliest 11 = .ok (.iconst (-1), 1) := fp_dk fp_hdX11_odds_104.1.2.2.2.1
theorem dX11_likeliest_12 : decode cX11_likeliest 12 = .ok (.ireturn, 1) := fp_dk fp_hdX11_odds_104.1.2.2.2.2
theorem dX11_likeliest_13 : decode cX11_likeliest 13 = .ok (.aload_n 0, 1) := fp_dk fp_hdX11_odds_104.2.1.1.1.1
theorem dX11_likeliest_14 : decode cX11_likeliest 14 = .ok (.getfield 37, 3) := fp_dk fp_hdX11_odds_104.2.1.1.1.2
theorem dX11_likeliest_17 : decode cX11_likeliest 17 = .ok (.getfield 205, 3) := fp_dk fp_hdX11_odds_104.2.1.1.2.1
theorem dX11_likeliest_20 : decode cX11_likeliest 20 = .ok (.bipush 10, 2) := fp_dk fp_hdX11_odds_104.2.1.1.2.2
theorem dX11_likeliest_22 : decode cX11_likeliest 22 = .ok (.if_icmp .le 6, 3) := fp_dk fp_hdX11_odds_104.2.1.2.1.1
theorem dX11_likeliest_25 : decode cX11_likeliest 25 = .ok (.bipush (-2), 2) := fp_dk fp_hdX11_odds_104.2.1.2.1.2
theorem dX11_likeliest_27 : decode cX11_likeliest 27 = .ok (.ireturn, 1) := fp_dk fp_hdX11_odds_104.2.1.2.2.1
theorem dX11_likeliest_28 : decode cX11_likeliest 28 = .ok (.aload_n 0, 1) := fp_dk fp_hdX11_odds_104.2.1.2.2.2
theorem dX11_likeliest_29 : decode cX11_likeliest 29 = .ok (.getfield 51, 3) := fp_dk fp_hdX11_odds_104.2.2.1.1.1
theorem dX11_likeliest_32 : decode cX11_likeliest 32 = .ok (.aload_n 0, 1) := fp_dk fp_hdX11_odds_104.2.2.1.1.2
theorem dX11_likeliest_33 : decode cX11_likeliest 33 = .ok (.getfield 23, 3) := fp_dk fp_hdX11_odds_104.2.2.1.2.1
theorem dX11_likeliest_36 : decode cX11_likeliest 36 = .ok (.aload_n 0, 1) := fp_dk fp_hdX11_odds_104.2.2.1.2.2
theorem dX11_likeliest_37 : decode cX11_likeliest 37 = .ok (.getfield 37, 3) := fp_dk fp_hdX11_odds_104.2.2.2.1.1
theorem dX11_likeliest_40 : decode cX11_likeliest 40 = .ok (.aload_n 0, 1) := fp_dk fp_hdX11_odds_104.2.2.2.1.2
theorem dX11_likeliest_41 : decode cX11_likeliest 41 = .ok (.getfield 30, 3) := fp_dk fp_hdX11_odds_104.2.2.2.2.1
theorem dX11_likeliest_44 : decode cX11_likeliest 44 = .ok (.iload_n 1, 1) := fp_dk fp_hdX11_odds_104.2.2.2.2.2
theorem fp_hdX11_likeliest_45 : (((((fp_dq cX11_likeliest 45 (.invokevirtual 256, 3) = true ∧ fp_dq cX11_likeliest 48 (.pop2, 1) = true) ∧ (fp_dq cX11_likeliest 49 (.lconst 0, 1) = true ∧ fp_dq cX11_likeliest 50 (.lstore_n 2, 1) = true)) ∧ ((fp_dq cX11_likeliest 51 (.bipush (-4), 2) = true ∧ fp_dq cX11_likeliest 53 (.istore 4, 2) = true) ∧ (fp_dq cX11_likeliest 55 (.iconst 0, 1) = true ∧ fp_dq cX11_likeliest 56 (.istore 5, 2) = true))) ∧ (((fp_dq cX11_likeliest 58 (.iload 5, 2) = true ∧ fp_dq cX11_likeliest 60 (.aload_n 0, 1) = true) ∧ (fp_dq cX11_likeliest 61 (.getfield 23, 3) = true ∧ fp_dq cX11_likeliest 64 (.getfield 268, 3) = true)) ∧ ((fp_dq cX11_likeliest 67 (.if_icmp .ge 39, 3) = true ∧ fp_dq cX11_likeliest 70 (.aload_n 0, 1) = true) ∧ (fp_dq cX11_likeliest 71 (.getfield 51, 3) = true ∧ fp_dq cX11_likeliest 74 (.getfield 260, 3) = true)))) ∧ ((((fp_dq cX11_likeliest 77 (.iload 5, 2) = true ∧ fp_dq cX11_likeliest 79 (.laload, 1) = true) ∧ (fp_dq cX11_likeliest 80 (.lload_n 2, 1) = true ∧ fp_dq cX11_likeliest 81 (.lcmp, 1) = true)) ∧ ((fp_dq cX11_likeliest 82 (.ifCond .le 18, 3) = true ∧ fp_dq cX11_likeliest 85 (.aload_n 0, 1) = true) ∧ (fp_dq cX11_likeliest 86 (.getfield 51, 3) = true ∧ fp_dq cX11_likeliest 89 (.getfield 260, 3) = true))) ∧ (((fp_dq cX11_likeliest 92 (.iload 5, 2) = true ∧ fp_dq cX11_likeliest 94 (.laload, 1) = true) ∧ (fp_dq cX11_likeliest 95 (.lstore_n 2, 1) = true ∧ fp_dq cX11_likeliest 96 (.iload 5, 2) = true)) ∧ ((fp_dq cX11_likeliest 98 (.istore 4, 2) = true ∧ fp_dq cX11_likeliest 100 (.iinc 5 1, 3) = true) ∧ (fp_dq cX11_likeliest 103 (.goto (-45), 3) = true ∧ fp_dq cX11_likeliest 106 (.iload 4, 2) = true))))) := by decide +kernel
theorem dX11_likeliest_45 : decode cX11_likeliest 45 = .ok (.invokevirtual 256, 3) := fp_dk fp_hdX11_likeliest_45.1.1.1.1.1
theorem dX11_likeliest_48 : decode cX11_likeliest 48 = .ok (.pop2, 1) := fp_dk fp_hdX11_likeliest_45.1.1.1.1.2
theorem dX11_likeliest_49 : decode cX11_likeliest 49 = .ok (.lconst 0, 1) := fp_dk fp_hdX11_likeliest_45.1.1.1.2.1
theorem dX11_likeliest_50 : decode cX11_likeliest 50 = .ok (.lstore_n 2, 1) := fp_dk fp_hdX11_likeliest_45.1.1.1.2.2
theorem dX11_likeliest_51 : decode cX11_likeliest 51 = .ok (.bipush (-4), 2) := fp_dk fp_hdX11_likeliest_45.1.1.2.1.1
theorem dX11_likeliest_53 : decode cX11_likeliest 53 = .ok (.istore 4, 2) := fp_dk fp_hdX11_likeliest_45.1.1.2.1.2
theorem dX11_likeliest_55 : decode cX11_likeliest 55 = .ok (.iconst 0, 1) := fp_dk fp_hdX11_likeliest_45.1.1.2.2.1
theorem dX11_likeliest_56 : decode cX11_likeliest 56 = .ok (.istore 5, 2) := fp_dk fp_hdX11_likeliest_45.1.1.2.2.2
theorem dX11_likeliest_58 : decode cX11_likeliest 58 = .ok (.iload 5, 2) := fp_dk fp_hdX11_likeliest_45.1.2.1.1.1
theorem dX11_likeliest_60 : decode cX11_likeliest 60 = .ok (.aload_n 0, 1) := fp_dk fp_hdX11_likeliest_45.1.2.1.1.2
theorem dX11_likeliest_61 : decode cX11_likeliest 61 = .ok (.getfield 23, 3) := fp_dk fp_hdX11_likeliest_45.1.2.1.2.1
theorem dX11_likeliest_64 : decode cX11_likeliest 64 = .ok (.getfield 268, 3) := fp_dk fp_hdX11_likeliest_45.1.2.1.2.2
theorem dX11_likeliest_67 : decode cX11_likeliest 67 = .ok (.if_icmp .ge 39, 3) := fp_dk fp_hdX11_likeliest_45.1.2.2.1.1
theorem dX11_likeliest_70 : decode cX11_likeliest 70 = .ok (.aload_n 0, 1) := fp_dk fp_hdX11_likeliest_45.1.2.2.1.2
theorem dX11_likeliest_71 : decode cX11_likeliest 71 = .ok (.getfield 51, 3) := fp_dk fp_hdX11_likeliest_45.1.2.2.2.1
theorem dX11_likeliest_74 : decode cX11_likeliest 74 = .ok (.getfield 260, 3) := fp_dk fp_hdX11_likeliest_45.1.2.2.2.2
theorem dX11_likeliest_77 : decode cX11_likeliest 77 = .ok (.iload 5, 2) := fp_dk fp_hdX11_likeliest_45.2.1.1.1.1
theorem dX11_likeliest_79 : decode cX11_likeliest 79 = .ok (.laload, 1) := fp_dk fp_hdX11_likeliest_45.2.1.1.1.2
theorem dX11_likeliest_80 : decode cX11_likeliest 80 = .ok (.lload_n 2, 1) := fp_dk fp_hdX11_likeliest_45.2.1.1.2.1
theorem dX11_likeliest_81 : decode cX11_likeliest 81 = .ok (.lcmp, 1) := fp_dk fp_hdX11_likeliest_45.2.1.1.2.2
theorem dX11_likeliest_82 : decode cX11_likeliest 82 = .ok (.ifCond .le 18, 3) := fp_dk fp_hdX11_likeliest_45.2.1.2.1.1
theorem dX11_likeliest_85 : decode cX11_likeliest 85 = .ok (.aload_n 0, 1) := fp_dk fp_hdX11_likeliest_45.2.1.2.1.2
theorem dX11_likeliest_86 : decode cX11_likeliest 86 = .ok (.getfield 51, 3) := fp_dk fp_hdX11_likeliest_45.2.1.2.2.1
theorem dX11_likeliest_89 : decode cX11_likeliest 89 = .ok (.getfield 260, 3) := fp_dk fp_hdX11_likeliest_45.2.1.2.2.2
theorem dX11_likeliest_92 : decode cX11_likeliest 92 = .ok (.iload 5, 2) := fp_dk fp_hdX11_likeliest_45.2.2.1.1.1
theorem dX11_likeliest_94 : decode cX11_likeliest 94 = .ok (.laload, 1) := fp_dk fp_hdX11_likeliest_45.2.2.1.1.2
theorem dX11_likeliest_95 : decode cX11_likeliest 95 = .ok (.lstore_n 2, 1) := fp_dk fp_hdX11_likeliest_45.2.2.1.2.1
theorem dX11_likeliest_96 : decode cX11_likeliest 96 = .ok (.iload 5, 2) := fp_dk fp_hdX11_likeliest_45.2.2.1.2.2
theorem dX11_likeliest_98 : decode cX11_likeliest 98 = .ok (.istore 4, 2) := fp_dk fp_hdX11_likeliest_45.2.2.2.1.1
theorem dX11_likeliest_100 : decode cX11_likeliest 100 = .ok (.iinc 5 1, 3) := fp_dk fp_hdX11_likeliest_45.2.2.2.1.2
theorem dX11_likeliest_103 : decode cX11_likeliest 103 = .ok (.goto (-45), 3) := fp_dk fp_hdX11_likeliest_45.2.2.2.2.1
theorem dX11_likeliest_106 : decode cX11_likeliest 106 = .ok (.iload 4, 2) := fp_dk fp_hdX11_likeliest_45.2.2.2.2.2
theorem fp_hdX11_likeliest_108 : (((((fp_dq cX11_likeliest 108 (.ireturn, 1) = true ∧ fp_dq cX11_duel 0 (.aload_n 0, 1) = true) ∧ (fp_dq cX11_duel 1 (.getfield 23, 3) = true ∧ fp_dq cX11_duel 4 (.iload_n 1, 1) = true)) ∧ ((fp_dq cX11_duel 5 (.invokevirtual 148, 3) = true ∧ fp_dq cX11_duel 8 (.ifCond .eq 22, 3) = true) ∧ (fp_dq cX11_duel 11 (.iload_n 2, 1) = true ∧ fp_dq cX11_duel 12 (.invokestatic 181, 3) = true))) ∧ (((fp_dq cX11_duel 15 (.ifCond .eq 15, 3) = true ∧ fp_dq cX11_duel 18 (.iload_n 3, 1) = true) ∧ (fp_dq cX11_duel 19 (.invokestatic 181, 3) = true ∧ fp_dq cX11_duel 22 (.ifCond .eq 8, 3) = true)) ∧ ((fp_dq cX11_duel 25 (.iload_n 2, 1) = true ∧ fp_dq cX11_duel 26 (.iload_n 3, 1) = true) ∧ (fp_dq cX11_duel 27 (.if_icmp .ne 5, 3) = true ∧ fp_dq cX11_duel 30 (.iconst (-1), 1) = true)))) ∧ ((((fp_dq cX11_duel 31 (.ireturn, 1) = true ∧ fp_dq cX11_duel 32 (.iload 4, 2) = true) ∧ (fp_dq cX11_duel 34 (.iconst 2, 1) = true ∧ fp_dq cX11_duel 35 (.invokestatic 221, 3) = true)) ∧ ((fp_dq cX11_duel 38 (.ifCond .eq 25, 3) = true ∧ fp_dq cX11_duel 41 (.iload 5, 2) = true) ∧ (fp_dq cX11_duel 43 (.iconst 1, 1) = true ∧ fp_dq cX11_duel 44 (.if_icmp .lt 19, 3) = true))) ∧ (((fp_dq cX11_duel 47 (.iload 5, 2) = true ∧ fp_dq cX11_duel 49 (.bipush 6, 2) = true) ∧ (fp_dq cX11_duel 51 (.if_icmp .gt 12, 3) = true ∧ fp_dq cX11_duel 54 (.iload 6, 2) = true)) ∧ ((fp_dq cX11_duel 56 (.iconst 1, 1) = true ∧ fp_dq cX11_duel 57 (.invokestatic 221, 3) = true) ∧ (fp_dq cX11_duel 60 (.ifCond .ne 5, 3) = true ∧ fp_dq cX11_duel 63 (.iconst (-1), 1) = true))))) := by decide +kernel
theorem dX11_likeliest_108 : decode cX11_likeliest 108 = .ok (.ireturn, 1) := fp_dk fp_hdX11_likeliest_108.1.1.1.1.1
theorem dX11_duel_0 : decode cX11_duel 0 = .ok (.aload_n 0, 1) := fp_dk fp_hdX11_likeliest_108.1.1.1.1.2
theorem dX11_duel_1 : decode cX11_duel 1 = .ok (.getfield 23, 3) := fp_dk fp_hdX11_likeliest_108.1.1.1.2.1
theorem dX11_duel_4 : decode cX11_duel 4 = .ok (.iload_n 1, 1) := fp_dk fp_hdX11_likeliest_108.1.1.1.2.2
theorem dX11_duel_5 : decode cX11_duel 5 = .ok (.invokevirtual 148, 3) := fp_dk fp_hdX11_likeliest_108.1.1.2.1.1
theorem dX11_duel_8 : decode cX11_duel 8 = .ok (.ifCond .eq 22, 3) := fp_dk fp_hdX11_likeliest_108.1.1.2.1.2
theorem dX11_duel_11 : decode cX11_duel 11 = .ok (.iload_n 2, 1) := fp_dk fp_hdX11_likeliest_108.1.1.2.2.1
theorem dX11_duel_12 : decode cX11_duel 12 = .ok (.invokestatic 181, 3) := fp_dk fp_hdX11_likeliest_108.1.1.2.2.2
theorem dX11_duel_15 : decode cX11_duel 15 = .ok (.ifCond .eq 15, 3) := fp_dk fp_hdX11_likeliest_108.1.2.1.1.1
theorem dX11_duel_18 : decode cX11_duel 18 = .ok (.iload_n 3, 1) := fp_dk fp_hdX11_likeliest_108.1.2.1.1.2
theorem dX11_duel_19 : decode cX11_duel 19 = .ok (.invokestatic 181, 3) := fp_dk fp_hdX11_likeliest_108.1.2.1.2.1
theorem dX11_duel_22 : decode cX11_duel 22 = .ok (.ifCond .eq 8, 3) := fp_dk fp_hdX11_likeliest_108.1.2.1.2.2
theorem dX11_duel_25 : decode cX11_duel 25 = .ok (.iload_n 2, 1) := fp_dk fp_hdX11_likeliest_108.1.2.2.1.1
theorem dX11_duel_26 : decode cX11_duel 26 = .ok (.iload_n 3, 1) := fp_dk fp_hdX11_likeliest_108.1.2.2.1.2
theorem dX11_duel_27 : decode cX11_duel 27 = .ok (.if_icmp .ne 5, 3) := fp_dk fp_hdX11_likeliest_108.1.2.2.2.1
theorem dX11_duel_30 : decode cX11_duel 30 = .ok (.iconst (-1), 1) := fp_dk fp_hdX11_likeliest_108.1.2.2.2.2
theorem dX11_duel_31 : decode cX11_duel 31 = .ok (.ireturn, 1) := fp_dk fp_hdX11_likeliest_108.2.1.1.1.1
theorem dX11_duel_32 : decode cX11_duel 32 = .ok (.iload 4, 2) := fp_dk fp_hdX11_likeliest_108.2.1.1.1.2
theorem dX11_duel_34 : decode cX11_duel 34 = .ok (.iconst 2, 1) := fp_dk fp_hdX11_likeliest_108.2.1.1.2.1
theorem dX11_duel_35 : decode cX11_duel 35 = .ok (.invokestatic 221, 3) := fp_dk fp_hdX11_likeliest_108.2.1.1.2.2
theorem dX11_duel_38 : decode cX11_duel 38 = .ok (.ifCond .eq 25, 3) := fp_dk fp_hdX11_likeliest_108.2.1.2.1.1
theorem dX11_duel_41 : decode cX11_duel 41 = .ok (.iload 5, 2) := fp_dk fp_hdX11_likeliest_108.2.1.2.1.2
theorem dX11_duel_43 : decode cX11_duel 43 = .ok (.iconst 1, 1) := fp_dk fp_hdX11_likeliest_108.2.1.2.2.1
theorem dX11_duel_44 : decode cX11_duel 44 = .ok (.if_icmp .lt 19, 3) := fp_dk fp_hdX11_likeliest_108.2.1.2.2.2
theorem dX11_duel_47 : decode cX11_duel 47 = .ok (.iload 5, 2) := fp_dk fp_hdX11_likeliest_108.2.2.1.1.1
theorem dX11_duel_49 : decode cX11_duel 49 = .ok (.bipush 6, 2) := fp_dk fp_hdX11_likeliest_108.2.2.1.1.2
theorem dX11_duel_51 : decode cX11_duel 51 = .ok (.if_icmp .gt 12, 3) := fp_dk fp_hdX11_likeliest_108.2.2.1.2.1
theorem dX11_duel_54 : decode cX11_duel 54 = .ok (.iload 6, 2) := fp_dk fp_hdX11_likeliest_108.2.2.1.2.2
theorem dX11_duel_56 : decode cX11_duel 56 = .ok (.iconst 1, 1) := fp_dk fp_hdX11_likeliest_108.2.2.2.1.1
theorem dX11_duel_57 : decode cX11_duel 57 = .ok (.invokestatic 221, 3) := fp_dk fp_hdX11_likeliest_108.2.2.2.1.2
theorem dX11_duel_60 : decode cX11_duel 60 = .ok (.ifCond .ne 5, 3) := fp_dk fp_hdX11_likeliest_108.2.2.2.2.1
theorem dX11_duel_63 : decode cX11_duel 63 = .ok (.iconst (-1), 1) := fp_dk fp_hdX11_likeliest_108.2.2.2.2.2
theorem fp_hdX11_duel_64 : (((((fp_dq cX11_duel 64 (.ireturn, 1) = true ∧ fp_dq cX11_duel 65 (.aload_n 0, 1) = true) ∧ (fp_dq cX11_duel 66 (.getfield 58, 3) = true ∧ fp_dq cX11_duel 69 (.aload_n 0, 1) = true)) ∧ ((fp_dq cX11_duel 70 (.getfield 30, 3) = true ∧ fp_dq cX11_duel 73 (.iload_n 1, 1) = true) ∧ (fp_dq cX11_duel 74 (.iload_n 2, 1) = true ∧ fp_dq cX11_duel 75 (.iload_n 3, 1) = true))) ∧ (((fp_dq cX11_duel 76 (.iload 4, 2) = true ∧ fp_dq cX11_duel 78 (.iload 5, 2) = true) ∧ (fp_dq cX11_duel 80 (.invokevirtual 271, 3) = true ∧ fp_dq cX11_duel 83 (.aload_n 0, 1) = true)) ∧ ((fp_dq cX11_duel 84 (.getfield 58, 3) = true ∧ fp_dq cX11_duel 87 (.aload_n 0, 1) = true) ∧ (fp_dq cX11_duel 88 (.getfield 23, 3) = true ∧ fp_dq cX11_duel 91 (.aload_n 0, 1) = true)))) ∧ ((((fp_dq cX11_duel 92 (.getfield 23, 3) = true ∧ fp_dq cX11_duel 95 (.getfield 156, 3) = true) ∧ (fp_dq cX11_duel 98 (.iload_n 1, 1) = true ∧ fp_dq cX11_duel 99 (.iaload, 1) = true)) ∧ ((fp_dq cX11_duel 100 (.invokevirtual 275, 3) = true ∧ fp_dq cX11_duel 103 (.istore 7, 2) = true) ∧ (fp_dq cX11_duel 105 (.iload 6, 2) = true ∧ fp_dq cX11_duel 107 (.ifCond .ne 12, 3) = true))) ∧ (((fp_dq cX11_duel 110 (.iload 7, 2) = true ∧ fp_dq cX11_duel 112 (.sipush 1000, 3) = true) ∧ (fp_dq cX11_duel 115 (.iadd, 1) = true ∧ fp_dq cX11_duel 116 (.goto 10, 3) = true)) ∧ ((fp_dq cX11_duel 119 (.aload_n 0, 1) = true ∧ fp_dq cX11_duel 120 (.getfield 58, 3) = true) ∧ (fp_dq cX11_duel 123 (.getfield 278, 3) = true ∧ fp_dq cX11_duel 126 (.ireturn, 1) = true))))) := by decide +kernel
theorem dX11_duel_64 : decode cX11_duel 64 = .ok (.ireturn, 1) := fp_dk fp_hdX11_duel_64.1.1.1.1.1
theorem dX11_duel_65 : decode cX11_duel 65 = .ok (.aload_n 0, 1) := fp_dk fp_hdX11_duel_64.1.1.1.1.2
theorem dX11_duel_66 : decode cX11_duel 66 = .ok (.getfield 58, 3) := fp_dk fp_hdX11_duel_64.1.1.1.2.1
theorem dX11_duel_69 : decode cX11_duel 69 = .ok (.aload_n 0, 1) := fp_dk fp_hdX11_duel_64.1.1.1.2.2
theorem dX11_duel_70 : decode cX11_duel 70 = .ok (.getfield 30, 3) := fp_dk fp_hdX11_duel_64.1.1.2.1.1
theorem dX11_duel_73 : decode cX11_duel 73 = .ok (.iload_n 1, 1) := fp_dk fp_hdX11_duel_64.1.1.2.1.2
theorem dX11_duel_74 : decode cX11_duel 74 = .ok (.iload_n 2, 1) := fp_dk fp_hdX11_duel_64.1.1.2.2.1
theorem dX11_duel_75 : decode cX11_duel 75 = .ok (.iload_n 3, 1) := fp_dk fp_hdX11_duel_64.1.1.2.2.2
theorem dX11_duel_76 : decode cX11_duel 76 = .ok (.iload 4, 2) := fp_dk fp_hdX11_duel_64.1.2.1.1.1
theorem dX11_duel_78 : decode cX11_duel 78 = .ok (.iload 5, 2) := fp_dk fp_hdX11_duel_64.1.2.1.1.2
theorem dX11_duel_80 : decode cX11_duel 80 = .ok (.invokevirtual 271, 3) := fp_dk fp_hdX11_duel_64.1.2.1.2.1
theorem dX11_duel_83 : decode cX11_duel 83 = .ok (.aload_n 0, 1) := fp_dk fp_hdX11_duel_64.1.2.1.2.2
theorem dX11_duel_84 : decode cX11_duel 84 = .ok (.getfield 58, 3) := fp_dk fp_hdX11_duel_64.1.2.2.1.1
theorem dX11_duel_87 : decode cX11_duel 87 = .ok (.aload_n 0, 1) := fp_dk fp_hdX11_duel_64.1.2.2.1.2
theorem dX11_duel_88 : decode cX11_duel 88 = .ok (.getfield 23, 3) := fp_dk fp_hdX11_duel_64.1.2.2.2.1
theorem dX11_duel_91 : decode cX11_duel 91 = .ok (.aload_n 0, 1) := fp_dk fp_hdX11_duel_64.1.2.2.2.2
theorem dX11_duel_92 : decode cX11_duel 92 = .ok (.getfield 23, 3) := fp_dk fp_hdX11_duel_64.2.1.1.1.1
theorem dX11_duel_95 : decode cX11_duel 95 = .ok (.getfield 156, 3) := fp_dk fp_hdX11_duel_64.2.1.1.1.2
theorem dX11_duel_98 : decode cX11_duel 98 = .ok (.iload_n 1, 1) := fp_dk fp_hdX11_duel_64.2.1.1.2.1
theorem dX11_duel_99 : decode cX11_duel 99 = .ok (.iaload, 1) := fp_dk fp_hdX11_duel_64.2.1.1.2.2
theorem dX11_duel_100 : decode cX11_duel 100 = .ok (.invokevirtual 275, 3) := fp_dk fp_hdX11_duel_64.2.1.2.1.1
theorem dX11_duel_103 : decode cX11_duel 103 = .ok (.istore 7, 2) := fp_dk fp_hdX11_duel_64.2.1.2.1.2
theorem dX11_duel_105 : decode cX11_duel 105 = .ok (.iload 6, 2) := fp_dk fp_hdX11_duel_64.2.1.2.2.1
theorem dX11_duel_107 : decode cX11_duel 107 = .ok (.ifCond .ne 12, 3) := fp_dk fp_hdX11_duel_64.2.1.2.2.2
theorem dX11_duel_110 : decode cX11_duel 110 = .ok (.iload 7, 2) := fp_dk fp_hdX11_duel_64.2.2.1.1.1
theorem dX11_duel_112 : decode cX11_duel 112 = .ok (.sipush 1000, 3) := fp_dk fp_hdX11_duel_64.2.2.1.1.2
theorem dX11_duel_115 : decode cX11_duel 115 = .ok (.iadd, 1) := fp_dk fp_hdX11_duel_64.2.2.1.2.1
theorem dX11_duel_116 : decode cX11_duel 116 = .ok (.goto 10, 3) := fp_dk fp_hdX11_duel_64.2.2.1.2.2
theorem dX11_duel_119 : decode cX11_duel 119 = .ok (.aload_n 0, 1) := fp_dk fp_hdX11_duel_64.2.2.2.1.1
theorem dX11_duel_120 : decode cX11_duel 120 = .ok (.getfield 58, 3) := fp_dk fp_hdX11_duel_64.2.2.2.1.2
theorem dX11_duel_123 : decode cX11_duel 123 = .ok (.getfield 278, 3) := fp_dk fp_hdX11_duel_64.2.2.2.2.1
theorem dX11_duel_126 : decode cX11_duel 126 = .ok (.ireturn, 1) := fp_dk fp_hdX11_duel_64.2.2.2.2.2
theorem fp_hdX11_noted_0 : (((((fp_dq cX11_noted 0 (.aload_n 0, 1) = true ∧ fp_dq cX11_noted 1 (.getfield 23, 3) = true) ∧ (fp_dq cX11_noted 4 (.iload_n 1, 1) = true ∧ fp_dq cX11_noted 5 (.invokevirtual 126, 3) = true)) ∧ ((fp_dq cX11_noted 8 (.ifCond .ne 5, 3) = true ∧ fp_dq cX11_noted 11 (.iconst (-1), 1) = true) ∧ (fp_dq cX11_noted 12 (.ireturn, 1) = true ∧ fp_dq cX11_noted 13 (.aload_n 0, 1) = true))) ∧ (((fp_dq cX11_noted 14 (.getfield 44, 3) = true ∧ fp_dq cX11_noted 17 (.iload_n 1, 1) = true) ∧ (fp_dq cX11_noted 18 (.invokevirtual 281, 3) = true ∧ fp_dq cX11_noted 21 (.bipush (-4), 2) = true)) ∧ ((fp_dq cX11_noted 23 (.if_icmp .eq 6, 3) = true ∧ fp_dq cX11_noted 26 (.bipush (-2), 2) = true) ∧ (fp_dq cX11_noted 28 (.ireturn, 1) = true ∧ fp_dq cX11_noted 29 (.aload_n 0, 1) = true)))) ∧ ((((fp_dq cX11_noted 30 (.getfield 44, 3) = true ∧ fp_dq cX11_noted 33 (.iload_n 1, 1) = true) ∧ (fp_dq cX11_noted 34 (.invokevirtual 282, 3) = true ∧ fp_dq cX11_noted 37 (.ifCond .eq 13, 3) = true)) ∧ ((fp_dq cX11_noted 40 (.aload_n 0, 1) = true ∧ fp_dq cX11_noted 41 (.getfield 44, 3) = true) ∧ (fp_dq cX11_noted 44 (.getfield 119, 3) = true ∧ fp_dq cX11_noted 47 (.goto 5, 3) = true))) ∧ (((fp_dq cX11_noted 50 (.bipush (-3), 2) = true ∧ fp_dq cX11_noted 52 (.ireturn, 1) = true) ∧ (fp_dq cX11_forget 0 (.aload_n 0, 1) = true ∧ fp_dq cX11_forget 1 (.getfield 44, 3) = true)) ∧ ((fp_dq cX11_forget 4 (.getfield 119, 3) = true ∧ fp_dq cX11_forget 7 (.istore_n 1, 1) = true) ∧ (fp_dq cX11_forget 8 (.aload_n 0, 1) = true ∧ fp_dq cX11_forget 9 (.getfield 44, 3) = true))))) := by decide +kernel
theorem dX11_noted_0 : decode cX11_noted 0 = .ok (.aload_n 0, 1) := fp_dk fp_hdX11_noted_0.1.1.1.1.1
theorem dX11_noted_1 : decode cX11_noted 1 = .ok (.getfield 23, 3) := fp_dk fp_hdX11_noted_0.1.1.1.1.2
theorem dX11_noted_4 : decode cX11_noted 4 = .ok (.iload_n 1, 1) := fp_dk fp_hdX11_noted_0.1.1.1.2.1
theorem dX11_noted_5 : decode cX11_noted 5 = .ok (.invokevirtual 126, 3) := fp_dk fp_hdX11_noted_0.1.1.1.2.2
theorem dX11_noted_8 : decode cX11_noted 8 = .ok (.ifCond .ne 5, 3) := fp_dk fp_hdX11_noted_0.1.1.2.1.1
theorem dX11_noted_11 : decode cX11_noted 11 = .ok (.iconst (-1), 1) := fp_dk fp_hdX11_noted_0.1.1.2.1.2
theorem dX11_noted_12 : decode cX11_noted 12 = .ok (.ireturn, 1) := fp_dk fp_hdX11_noted_0.1.1.2.2.1
theorem dX11_noted_13 : decode cX11_noted 13 = .ok (.aload_n 0, 1) := fp_dk fp_hdX11_noted_0.1.1.2.2.2
theorem dX11_noted_14 : decode cX11_noted 14 = .ok (.getfield 44, 3) := fp_dk fp_hdX11_noted_0.1.2.1.1.1
theorem dX11_noted_17 : decode cX11_noted 17 = .ok (.iload_n 1, 1) := fp_dk fp_hdX11_noted_0.1.2.1.1.2
theorem dX11_noted_18 : decode cX11_noted 18 = .ok (.invokevirtual 281, 3) := fp_dk fp_hdX11_noted_0.1.2.1.2.1
theorem dX11_noted_21 : decode cX11_noted 21 = .ok (.bipush (-4), 2) := fp_dk fp_hdX11_noted_0.1.2.1.2.2
theorem dX11_noted_23 : decode cX11_noted 23 = .ok (.if_icmp .eq 6, 3) := fp_dk fp_hdX11_noted_0.1.2.2.1.1
theorem dX11_noted_26 : decode cX11_noted 26 = .ok (.bipush (-2), 2) := fp_dk fp_hdX11_noted_0.1.2.2.1.2
theorem dX11_noted_28 : decode cX11_noted 28 = .ok (.ireturn, 1) := fp_dk fp_hdX11_noted_0.1.2.2.2.1
theorem dX11_noted_29 : decode cX11_noted 29 = .ok (.aload_n 0, 1) := fp_dk fp_hdX11_noted_0.1.2.2.2.2
theorem dX11_noted_30 : decode cX11_noted 30 = .ok (.getfield 44, 3) := fp_dk fp_hdX11_noted_0.2.1.1.1.1
theorem dX11_noted_33 : decode cX11_noted 33 = .ok (.iload_n 1, 1) := fp_dk fp_hdX11_noted_0.2.1.1.1.2
theorem dX11_noted_34 : decode cX11_noted 34 = .ok (.invokevirtual 282, 3) := fp_dk fp_hdX11_noted_0.2.1.1.2.1
theorem dX11_noted_37 : decode cX11_noted 37 = .ok (.ifCond .eq 13, 3) := fp_dk fp_hdX11_noted_0.2.1.1.2.2
theorem dX11_noted_40 : decode cX11_noted 40 = .ok (.aload_n 0, 1) := fp_dk fp_hdX11_noted_0.2.1.2.1.1
theorem dX11_noted_41 : decode cX11_noted 41 = .ok (.getfield 44, 3) := fp_dk fp_hdX11_noted_0.2.1.2.1.2
theorem dX11_noted_44 : decode cX11_noted 44 = .ok (.getfield 119, 3) := fp_dk fp_hdX11_noted_0.2.1.2.2.1
theorem dX11_noted_47 : decode cX11_noted 47 = .ok (.goto 5, 3) := fp_dk fp_hdX11_noted_0.2.1.2.2.2
theorem dX11_noted_50 : decode cX11_noted 50 = .ok (.bipush (-3), 2) := fp_dk fp_hdX11_noted_0.2.2.1.1.1
theorem dX11_noted_52 : decode cX11_noted 52 = .ok (.ireturn, 1) := fp_dk fp_hdX11_noted_0.2.2.1.1.2
theorem dX11_forget_0 : decode cX11_forget 0 = .ok (.aload_n 0, 1) := fp_dk fp_hdX11_noted_0.2.2.1.2.1
theorem dX11_forget_1 : decode cX11_forget 1 = .ok (.getfield 44, 3) := fp_dk fp_hdX11_noted_0.2.2.1.2.2
theorem dX11_forget_4 : decode cX11_forget 4 = .ok (.getfield 119, 3) := fp_dk fp_hdX11_noted_0.2.2.2.1.1
theorem dX11_forget_7 : decode cX11_forget 7 = .ok (.istore_n 1, 1) := fp_dk fp_hdX11_noted_0.2.2.2.1.2
theorem dX11_forget_8 : decode cX11_forget 8 = .ok (.aload_n 0, 1) := fp_dk fp_hdX11_noted_0.2.2.2.2.1
theorem dX11_forget_9 : decode cX11_forget 9 = .ok (.getfield 44, 3) := fp_dk fp_hdX11_noted_0.2.2.2.2.2
theorem fp_hdX11_forget_12 : (((((fp_dq cX11_forget 12 (.iconst 0, 1) = true ∧ fp_dq cX11_forget 13 (.putfield 119, 3) = true) ∧ (fp_dq cX11_forget 16 (.iload_n 1, 1) = true ∧ fp_dq cX11_forget 17 (.ireturn, 1) = true)) ∧ ((fp_dq cX11_orders 0 (.iload_n 2, 1) = true ∧ fp_dq cX11_orders 1 (.bipush 10, 2) = true) ∧ (fp_dq cX11_orders 3 (.if_icmp .lt 13, 3) = true ∧ fp_dq cX11_orders 6 (.iload_n 2, 1) = true))) ∧ (((fp_dq cX11_orders 7 (.bipush 18, 2) = true ∧ fp_dq cX11_orders 9 (.if_icmp .ge 7, 3) = true) ∧ (fp_dq cX11_orders 12 (.iconst 1, 1) = true ∧ fp_dq cX11_orders 13 (.goto 4, 3) = true)) ∧ ((fp_dq cX11_orders 16 (.iconst 0, 1) = true ∧ fp_dq cX11_orders 17 (.istore_n 3, 1) = true) ∧ (fp_dq cX11_orders 18 (.aload_n 0, 1) = true ∧ fp_dq cX11_orders 19 (.getfield 23, 3) = true)))) ∧ ((((fp_dq cX11_orders 22 (.iload_n 1, 1) = true ∧ fp_dq cX11_orders 23 (.invokevirtual 148, 3) = true) ∧ (fp_dq cX11_orders 26 (.ifCond .eq 11, 3) = true ∧ fp_dq cX11_orders 29 (.iload_n 2, 1) = true)) ∧ ((fp_dq cX11_orders 30 (.ifCond .eq 9, 3) = true ∧ fp_dq cX11_orders 33 (.iload_n 3, 1) = true) ∧ (fp_dq cX11_orders 34 (.ifCond .ne 5, 3) = true ∧ fp_dq cX11_orders 37 (.iconst (-1), 1) = true))) ∧ (((fp_dq cX11_orders 38 (.ireturn, 1) = true ∧ fp_dq cX11_orders 39 (.aload_n 0, 1) = true) ∧ (fp_dq cX11_orders 40 (.getfield 30, 3) = true ∧ fp_dq cX11_orders 43 (.getfield 151, 3) = true)) ∧ ((fp_dq cX11_orders 46 (.iload_n 1, 1) = true ∧ fp_dq cX11_orders 47 (.iaload, 1) = true) ∧ (fp_dq cX11_orders 48 (.bipush 7, 2) = true ∧ fp_dq cX11_orders 50 (.if_icmp .le 6, 3) = true))))) := by decide +kernel
theorem dX11_forget_12 : decode cX11_forget 12 = .ok (.iconst 0, 1) := fp_dk fp_hdX11_forget_12.1.1.1.1.1
theorem dX11_forget_13 : decode cX11_forget 13 = .ok (.putfield 119, 3) := fp_dk fp_hdX11_forget_12.1.1.1.1.2
theorem dX11_forget_16 : decode cX11_forget 16 = .ok (.iload_n 1, 1) := fp_dk fp_hdX11_forget_12.1.1.1.2.1
theorem dX11_forget_17 : decode cX11_forget 17 = .ok (.ireturn, 1) := fp_dk fp_hdX11_forget_12.1.1.1.2.2
theorem dX11_orders_0 : decode cX11_orders 0 = .ok (.iload_n 2, 1) := fp_dk fp_hdX11_forget_12.1.1.2.1.1
theorem dX11_orders_1 : decode cX11_orders 1 = .ok (.bipush 10, 2) := fp_dk fp_hdX11_forget_12.1.1.2.1.2
theorem dX11_orders_3 : decode cX11_orders 3 = .ok (.if_icmp .lt 13, 3) := fp_dk fp_hdX11_forget_12.1.1.2.2.1
theorem dX11_orders_6 : decode cX11_orders 6 = .ok (.iload_n 2, 1) := fp_dk fp_hdX11_forget_12.1.1.2.2.2
theorem dX11_orders_7 : decode cX11_orders 7 = .ok (.bipush 18, 2) := fp_dk fp_hdX11_forget_12.1.2.1.1.1
theorem dX11_orders_9 : decode cX11_orders 9 = .ok (.if_icmp .ge 7, 3) := fp_dk fp_hdX11_forget_12.1.2.1.1.2
theorem dX11_orders_12 : decode cX11_orders 12 = .ok (.iconst 1, 1) := fp_dk fp_hdX11_forget_12.1.2.1.2.1
theorem dX11_orders_13 : decode cX11_orders 13 = .ok (.goto 4, 3) := fp_dk fp_hdX11_forget_12.1.2.1.2.2
theorem dX11_orders_16 : decode cX11_orders 16 = .ok (.iconst 0, 1) := fp_dk fp_hdX11_forget_12.1.2.2.1.1
theorem dX11_orders_17 : decode cX11_orders 17 = .ok (.istore_n 3, 1) := fp_dk fp_hdX11_forget_12.1.2.2.1.2
theorem dX11_orders_18 : decode cX11_orders 18 = .ok (.aload_n 0, 1) := fp_dk fp_hdX11_forget_12.1.2.2.2.1
theorem dX11_orders_19 : decode cX11_orders 19 = .ok (.getfield 23, 3) := fp_dk fp_hdX11_forget_12.1.2.2.2.2
theorem dX11_orders_22 : decode cX11_orders 22 = .ok (.iload_n 1, 1) := fp_dk fp_hdX11_forget_12.2.1.1.1.1
theorem dX11_orders_23 : decode cX11_orders 23 = .ok (.invokevirtual 148, 3) := fp_dk fp_hdX11_forget_12.2.1.1.1.2
theorem dX11_orders_26 : decode cX11_orders 26 = .ok (.ifCond .eq 11, 3) := fp_dk fp_hdX11_forget_12.2.1.1.2.1
theorem dX11_orders_29 : decode cX11_orders 29 = .ok (.iload_n 2, 1) := fp_dk fp_hdX11_forget_12.2.1.1.2.2
theorem dX11_orders_30 : decode cX11_orders 30 = .ok (.ifCond .eq 9, 3) := fp_dk fp_hdX11_forget_12.2.1.2.1.1
theorem dX11_orders_33 : decode cX11_orders 33 = .ok (.iload_n 3, 1) := fp_dk fp_hdX11_forget_12.2.1.2.1.2
theorem dX11_orders_34 : decode cX11_orders 34 = .ok (.ifCond .ne 5, 3) := fp_dk fp_hdX11_forget_12.2.1.2.2.1
theorem dX11_orders_37 : decode cX11_orders 37 = .ok (.iconst (-1), 1) := fp_dk fp_hdX11_forget_12.2.1.2.2.2
theorem dX11_orders_38 : decode cX11_orders 38 = .ok (.ireturn, 1) := fp_dk fp_hdX11_forget_12.2.2.1.1.1
theorem dX11_orders_39 : decode cX11_orders 39 = .ok (.aload_n 0, 1) := fp_dk fp_hdX11_forget_12.2.2.1.1.2
theorem dX11_orders_40 : decode cX11_orders 40 = .ok (.getfield 30, 3) := fp_dk fp_hdX11_forget_12.2.2.1.2.1
theorem dX11_orders_43 : decode cX11_orders 43 = .ok (.getfield 151, 3) := fp_dk fp_hdX11_forget_12.2.2.1.2.2
theorem dX11_orders_46 : decode cX11_orders 46 = .ok (.iload_n 1, 1) := fp_dk fp_hdX11_forget_12.2.2.2.1.1
theorem dX11_orders_47 : decode cX11_orders 47 = .ok (.iaload, 1) := fp_dk fp_hdX11_forget_12.2.2.2.1.2
theorem dX11_orders_48 : decode cX11_orders 48 = .ok (.bipush 7, 2) := fp_dk fp_hdX11_forget_12.2.2.2.2.1
theorem dX11_orders_50 : decode cX11_orders 50 = .ok (.if_icmp .le 6, 3) := fp_dk fp_hdX11_forget_12.2.2.2.2.2
theorem fp_hdX11_orders_53 : (((((fp_dq cX11_orders 53 (.bipush (-2), 2) = true ∧ fp_dq cX11_orders 55 (.ireturn, 1) = true) ∧ (fp_dq cX11_orders 56 (.aload_n 0, 1) = true ∧ fp_dq cX11_orders 57 (.getfield 65, 3) = true)) ∧ ((fp_dq cX11_orders 60 (.aload_n 0, 1) = true ∧ fp_dq cX11_orders 61 (.getfield 23, 3) = true) ∧ (fp_dq cX11_orders 64 (.aload_n 0, 1) = true ∧ fp_dq cX11_orders 65 (.getfield 30, 3) = true))) ∧ (((fp_dq cX11_orders 68 (.iload_n 1, 1) = true ∧ fp_dq cX11_orders 69 (.invokevirtual 285, 3) = true) ∧ (fp_dq cX11_orders 72 (.iload_n 3, 1) = true ∧ fp_dq cX11_orders 73 (.ifCond .ne 19, 3) = true)) ∧ ((fp_dq cX11_orders 76 (.aload_n 0, 1) = true ∧ fp_dq cX11_orders 77 (.getfield 65, 3) = true) ∧ (fp_dq cX11_orders 80 (.aload_n 0, 1) = true ∧ fp_dq cX11_orders 81 (.getfield 23, 3) = true)))) ∧ ((((fp_dq cX11_orders 84 (.aload_n 0, 1) = true ∧ fp_dq cX11_orders 85 (.getfield 44, 3) = true) ∧ (fp_dq cX11_orders 88 (.invokevirtual 288, 3) = true ∧ fp_dq cX11_orders 91 (.ireturn, 1) = true)) ∧ ((fp_dq cX11_orders 92 (.aload_n 0, 1) = true ∧ fp_dq cX11_orders 93 (.getfield 65, 3) = true) ∧ (fp_dq cX11_orders 96 (.aload_n 0, 1) = true ∧ fp_dq cX11_orders 97 (.getfield 23, 3) = true))) ∧ (((fp_dq cX11_orders 100 (.aload_n 0, 1) = true ∧ fp_dq cX11_orders 101 (.getfield 44, 3) = true) ∧ (fp_dq cX11_orders 104 (.invokevirtual 292, 3) = true ∧ fp_dq cX11_orders 107 (.ifCond .eq 19, 3) = true)) ∧ ((fp_dq cX11_orders 110 (.iload_n 2, 1) = true ∧ fp_dq cX11_orders 111 (.bipush 10, 2) = true) ∧ (fp_dq cX11_orders 113 (.isub, 1) = true ∧ fp_dq cX11_orders 114 (.aload_n 0, 1) = true))))) := by decide +kernel
theorem dX11_orders_53 : decode cX11_orders 53 = .ok (.bipush (-2), 2) := fp_dk fp_hdX11_orders_53.1.1.1.1.1
theorem dX11_orders_55 : decode cX11_orders 55 = .ok (.ireturn, 1) := fp_dk fp_hdX11_orders_53.1.1.1.1.2
theorem dX11_orders_56 : decode cX11_orders 56 = .ok (.aload_n 0, 1) := fp_dk fp_hdX11_orders_53.1.1.1.2.1
theorem dX11_orders_57 : decode cX11_orders 57 = .ok (.getfield 65, 3) := fp_dk fp_hdX11_orders_53.1.1.1.2.2
theorem dX11_orders_60 : decode cX11_orders 60 = .ok (.aload_n 0, 1) := fp_dk fp_hdX11_orders_53.1.1.2.1.1
theorem dX11_orders_61 : decode cX11_orders 61 = .ok (.getfield 23, 3) := fp_dk fp_hdX11_orders_53.1.1.2.1.2
theorem dX11_orders_64 : decode cX11_orders 64 = .ok (.aload_n 0, 1) := fp_dk fp_hdX11_orders_53.1.1.2.2.1
theorem dX11_orders_65 : decode cX11_orders 65 = .ok (.getfield 30, 3) := fp_dk fp_hdX11_orders_53.1.1.2.2.2
theorem dX11_orders_68 : decode cX11_orders 68 = .ok (.iload_n 1, 1) := fp_dk fp_hdX11_orders_53.1.2.1.1.1
theorem dX11_orders_69 : decode cX11_orders 69 = .ok (.invokevirtual 285, 3) := fp_dk fp_hdX11_orders_53.1.2.1.1.2
theorem dX11_orders_72 : decode cX11_orders 72 = .ok (.iload_n 3, 1) := fp_dk fp_hdX11_orders_53.1.2.1.2.1
theorem dX11_orders_73 : decode cX11_orders 73 = .ok (.ifCond .ne 19, 3) := fp_dk fp_hdX11_orders_53.1.2.1.2.2
theorem dX11_orders_76 : decode cX11_orders 76 = .ok (.aload_n 0, 1) := fp_dk fp_hdX11_orders_53.1.2.2.1.1
theorem dX11_orders_77 : decode cX11_orders 77 = .ok (.getfield 65, 3) := fp_dk fp_hdX11_orders_53.1.2.2.1.2
theorem dX11_orders_80 : decode cX11_orders 80 = .ok (.aload_n 0, 1) := fp_dk fp_hdX11_orders_53.1.2.2.2.1
theorem dX11_orders_81 : decode cX11_orders 81 = .ok (.getfield 23, 3) := fp_dk fp_hdX11_orders_53.1.2.2.2.2
theorem dX11_orders_84 : decode cX11_orders 84 = .ok (.aload_n 0, 1) := fp_dk fp_hdX11_orders_53.2.1.1.1.1
theorem dX11_orders_85 : decode cX11_orders 85 = .ok (.getfield 44, 3) := fp_dk fp_hdX11_orders_53.2.1.1.1.2
theorem dX11_orders_88 : decode cX11_orders 88 = .ok (.invokevirtual 288, 3) := fp_dk fp_hdX11_orders_53.2.1.1.2.1
theorem dX11_orders_91 : decode cX11_orders 91 = .ok (.ireturn, 1) := fp_dk fp_hdX11_orders_53.2.1.1.2.2
theorem dX11_orders_92 : decode cX11_orders 92 = .ok (.aload_n 0, 1) := fp_dk fp_hdX11_orders_53.2.1.2.1.1
theorem dX11_orders_93 : decode cX11_orders 93 = .ok (.getfield 65, 3) := fp_dk fp_hdX11_orders_53.2.1.2.1.2
theorem dX11_orders_96 : decode cX11_orders 96 = .ok (.aload_n 0, 1) := fp_dk fp_hdX11_orders_53.2.1.2.2.1
theorem dX11_orders_97 : decode cX11_orders 97 = .ok (.getfield 23, 3) := fp_dk fp_hdX11_orders_53.2.1.2.2.2
theorem dX11_orders_100 : decode cX11_orders 100 = .ok (.aload_n 0, 1) := fp_dk fp_hdX11_orders_53.2.2.1.1.1
theorem dX11_orders_101 : decode cX11_orders 101 = .ok (.getfield 44, 3) := fp_dk fp_hdX11_orders_53.2.2.1.1.2
theorem dX11_orders_104 : decode cX11_orders 104 = .ok (.invokevirtual 292, 3) := fp_dk fp_hdX11_orders_53.2.2.1.2.1
theorem dX11_orders_107 : decode cX11_orders 107 = .ok (.ifCond .eq 19, 3) := fp_dk fp_hdX11_orders_53.2.2.1.2.2
theorem dX11_orders_110 : decode cX11_orders 110 = .ok (.iload_n 2, 1) := fp_dk fp_hdX11_orders_53.2.2.2.1.1
theorem dX11_orders_111 : decode cX11_orders 111 = .ok (.bipush 10, 2) := fp_dk fp_hdX11_orders_53.2.2.2.1.2
theorem dX11_orders_113 : decode cX11_orders 113 = .ok (.isub, 1) := fp_dk fp_hdX11_orders_53.2.2.2.2.1
theorem dX11_orders_114 : decode cX11_orders 114 = .ok (.aload_n 0, 1) := fp_dk fp_hdX11_orders_53.2.2.2.2.2
theorem fp_hdX11_orders_115 : (((((fp_dq cX11_orders 115 (.getfield 30, 3) = true ∧ fp_dq cX11_orders 118 (.getfield 151, 3) = true) ∧ (fp_dq cX11_orders 121 (.iload_n 1, 1) = true ∧ fp_dq cX11_orders 122 (.iaload, 1) = true)) ∧ ((fp_dq cX11_orders 123 (.if_icmp .lt 6, 3) = true ∧ fp_dq cX11_orders 126 (.bipush (-4), 2) = true) ∧ (fp_dq cX11_orders 128 (.ireturn, 1) = true ∧ fp_dq cX11_orders 129 (.aload_n 0, 1) = true))) ∧ (((fp_dq cX11_orders 130 (.getfield 65, 3) = true ∧ fp_dq cX11_orders 133 (.aload_n 0, 1) = true) ∧ (fp_dq cX11_orders 134 (.getfield 23, 3) = true ∧ fp_dq cX11_orders 137 (.aload_n 0, 1) = true)) ∧ ((fp_dq cX11_orders 138 (.getfield 44, 3) = true ∧ fp_dq cX11_orders 141 (.invokevirtual 296, 3) = true) ∧ (fp_dq cX11_orders 144 (.aload_n 0, 1) = true ∧ fp_dq cX11_orders 145 (.getfield 65, 3) = true)))) ∧ ((((fp_dq cX11_orders 148 (.getfield 300, 3) = true ∧ fp_dq cX11_orders 151 (.iload_n 2, 1) = true) ∧ (fp_dq cX11_orders 152 (.bipush 10, 2) = true ∧ fp_dq cX11_orders 154 (.isub, 1) = true)) ∧ ((fp_dq cX11_orders 155 (.iaload, 1) = true ∧ fp_dq cX11_orders 156 (.ireturn, 1) = true) ∧ (fp_dq cX11_ring 0 (.iload_n 1, 1) = true ∧ fp_dq cX11_ring 1 (.invokestatic 181, 3) = true))) ∧ (((fp_dq cX11_ring 4 (.ifCond .ne 5, 3) = true ∧ fp_dq cX11_ring 7 (.iconst (-1), 1) = true) ∧ (fp_dq cX11_ring 8 (.ireturn, 1) = true ∧ fp_dq cX11_ring 9 (.aload_n 0, 1) = true)) ∧ ((fp_dq cX11_ring 10 (.getfield 72, 3) = true ∧ fp_dq cX11_ring 13 (.aload_n 0, 1) = true) ∧ (fp_dq cX11_ring 14 (.getfield 23, 3) = true ∧ fp_dq cX11_ring 17 (.aload_n 0, 1) = true))))) := by decide +kernel
theorem dX11_orders_115 : decode cX11_orders 115 = .ok (.getfield 30, 3) := fp_dk fp_hdX11_orders_115.1.1.1.1.1
theorem dX11_orders_118 : decode cX11_orders 118 = .ok (.getfield 151, 3) := fp_dk fp_hdX11_orders_115.1.1.1.1.2
theorem dX11_orders_121 : decode cX11_orders 121 = .ok (.iload_n 1, 1) := fp_dk fp_hdX11_orders_115.1.1.1.2.1
theorem dX11_orders_122 : decode cX11_orders 122 = .ok (.iaload, 1) := fp_dk fp_hdX11_orders_115.1.1.1.2.2
theorem dX11_orders_123 : decode cX11_orders 123 = .ok (.if_icmp .lt 6, 3) := fp_dk fp_hdX11_orders_115.1.1.2.1.1
theorem dX11_orders_126 : decode cX11_orders 126 = .ok (.bipush (-4), 2) := fp_dk fp_hdX11_orders_115.1.1.2.1.2
theorem dX11_orders_128 : decode cX11_orders 128 = .ok (.ireturn, 1) := fp_dk fp_hdX11_orders_115.1.1.2.2.1
theorem dX11_orders_129 : decode cX11_orders 129 = .ok (.aload_n 0, 1) := fp_dk fp_hdX11_orders_115.1.1.2.2.2
theorem dX11_orders_130 : decode cX11_orders 130 = .ok (.getfield 65, 3) := fp_dk fp_hdX11_orders_115.1.2.1.1.1
theorem dX11_orders_133 : decode cX11_orders 133 = .ok (.aload_n 0, 1) := fp_dk fp_hdX11_orders_115.1.2.1.1.2
theorem dX11_orders_134 : decode cX11_orders 134 = .ok (.getfield 23, 3) := fp_dk fp_hdX11_orders_115.1.2.1.2.1
theorem dX11_orders_137 : decode cX11_orders 137 = .ok (.aload_n 0, 1) := fp_dk fp_hdX11_orders_115.1.2.1.2.2
theorem dX11_orders_138 : decode cX11_orders 138 = .ok (.getfield 44, 3) := fp_dk fp_hdX11_orders_115.1.2.2.1.1
theorem dX11_orders_141 : decode cX11_orders 141 = .ok (.invokevirtual 296, 3) := fp_dk fp_hdX11_orders_115.1.2.2.1.2
theorem dX11_orders_144 : decode cX11_orders 144 = .ok (.aload_n 0, 1) := fp_dk fp_hdX11_orders_115.1.2.2.2.1
theorem dX11_orders_145 : decode cX11_orders 145 = .ok (.getfield 65, 3) := fp_dk fp_hdX11_orders_115.1.2.2.2.2
theorem dX11_orders_148 : decode cX11_orders 148 = .ok (.getfield 300, 3) := fp_dk fp_hdX11_orders_115.2.1.1.1.1
theorem dX11_orders_151 : decode cX11_orders 151 = .ok (.iload_n 2, 1) := fp_dk fp_hdX11_orders_115.2.1.1.1.2
theorem dX11_orders_152 : decode cX11_orders 152 = .ok (.bipush 10, 2) := fp_dk fp_hdX11_orders_115.2.1.1.2.1
theorem dX11_orders_154 : decode cX11_orders 154 = .ok (.isub, 1) := fp_dk fp_hdX11_orders_115.2.1.1.2.2
theorem dX11_orders_155 : decode cX11_orders 155 = .ok (.iaload, 1) := fp_dk fp_hdX11_orders_115.2.1.2.1.1
theorem dX11_orders_156 : decode cX11_orders 156 = .ok (.ireturn, 1) := fp_dk fp_hdX11_orders_115.2.1.2.1.2
theorem dX11_ring_0 : decode cX11_ring 0 = .ok (.iload_n 1, 1) := fp_dk fp_hdX11_orders_115.2.1.2.2.1
theorem dX11_ring_1 : decode cX11_ring 1 = .ok (.invokestatic 181, 3) := fp_dk fp_hdX11_orders_115.2.1.2.2.2
theorem dX11_ring_4 : decode cX11_ring 4 = .ok (.ifCond .ne 5, 3) := fp_dk fp_hdX11_orders_115.2.2.1.1.1
theorem dX11_ring_7 : decode cX11_ring 7 = .ok (.iconst (-1), 1) := fp_dk fp_hdX11_orders_115.2.2.1.1.2
theorem dX11_ring_8 : decode cX11_ring 8 = .ok (.ireturn, 1) := fp_dk fp_hdX11_orders_115.2.2.1.2.1
theorem dX11_ring_9 : decode cX11_ring 9 = .ok (.aload_n 0, 1) := fp_dk fp_hdX11_orders_115.2.2.1.2.2
theorem dX11_ring_10 : decode cX11_ring 10 = .ok (.getfield 72, 3) := fp_dk fp_hdX11_orders_115.2.2.2.1.1
theorem dX11_ring_13 : decode cX11_ring 13 = .ok (.aload_n 0, 1) := fp_dk fp_hdX11_orders_115.2.2.2.1.2
theorem dX11_ring_14 : decode cX11_ring 14 = .ok (.getfield 23, 3) := fp_dk fp_hdX11_orders_115.2.2.2.2.1
theorem dX11_ring_17 : decode cX11_ring 17 = .ok (.aload_n 0, 1) := fp_dk fp_hdX11_orders_115.2.2.2.2.2
theorem fp_hdX11_ring_18 : (((((fp_dq cX11_ring 18 (.getfield 30, 3) = true ∧ fp_dq cX11_ring 21 (.invokevirtual 303, 3) = true) ∧ (fp_dq cX11_ring 24 (.aload_n 0, 1) = true ∧ fp_dq cX11_ring 25 (.getfield 72, 3) = true)) ∧ ((fp_dq cX11_ring 28 (.getfield 307, 3) = true ∧ fp_dq cX11_ring 31 (.iload_n 1, 1) = true) ∧ (fp_dq cX11_ring 32 (.iaload, 1) = true ∧ fp_dq cX11_ring 33 (.ireturn, 1) = true))) ∧ (((fp_dq cX11_with 0 (.iload_n 1, 1) = true ∧ fp_dq cX11_with 1 (.invokestatic 181, 3) = true) ∧ (fp_dq cX11_with 4 (.ifCond .ne 5, 3) = true ∧ fp_dq cX11_with 7 (.iconst (-1), 1) = true)) ∧ ((fp_dq cX11_with 8 (.ireturn, 1) = true ∧ fp_dq cX11_with 9 (.aload_n 0, 1) = true) ∧ (fp_dq cX11_with 10 (.getfield 72, 3) = true ∧ fp_dq cX11_with 13 (.aload_n 0, 1) = true)))) ∧ ((((fp_dq cX11_with 14 (.getfield 23, 3) = true ∧ fp_dq cX11_with 17 (.aload_n 0, 1) = true) ∧ (fp_dq cX11_with 18 (.getfield 30, 3) = true ∧ fp_dq cX11_with 21 (.invokevirtual 303, 3) = true)) ∧ ((fp_dq cX11_with 24 (.aload_n 0, 1) = true ∧ fp_dq cX11_with 25 (.getfield 72, 3) = true) ∧ (fp_dq cX11_with 28 (.getfield 310, 3) = true ∧ fp_dq cX11_with 31 (.iload_n 1, 1) = true))) ∧ (((fp_dq cX11_with 32 (.iaload, 1) = true ∧ fp_dq cX11_with 33 (.ireturn, 1) = true) ∧ (fp_dq cX11_join 0 (.iload_n 1, 1) = true ∧ fp_dq cX11_join 1 (.invokestatic 181, 3) = true)) ∧ ((fp_dq cX11_join 4 (.ifCond .ne 5, 3) = true ∧ fp_dq cX11_join 7 (.iconst (-1), 1) = true) ∧ (fp_dq cX11_join 8 (.ireturn, 1) = true ∧ fp_dq cX11_join 9 (.bipush (-4), 2) = true))))) := by decide +kernel
theorem dX11_ring_18 : decode cX11_ring 18 = .ok (.getfield 30, 3) := fp_dk fp_hdX11_ring_18.1.1.1.1.1
theorem dX11_ring_21 : decode cX11_ring 21 = .ok (.invokevirtual 303, 3) := fp_dk fp_hdX11_ring_18.1.1.1.1.2
theorem dX11_ring_24 : decode cX11_ring 24 = .ok (.aload_n 0, 1) := fp_dk fp_hdX11_ring_18.1.1.1.2.1
theorem dX11_ring_25 : decode cX11_ring 25 = .ok (.getfield 72, 3) := fp_dk fp_hdX11_ring_18.1.1.1.2.2
theorem dX11_ring_28 : decode cX11_ring 28 = .ok (.getfield 307, 3) := fp_dk fp_hdX11_ring_18.1.1.2.1.1
theorem dX11_ring_31 : decode cX11_ring 31 = .ok (.iload_n 1, 1) := fp_dk fp_hdX11_ring_18.1.1.2.1.2
theorem dX11_ring_32 : decode cX11_ring 32 = .ok (.iaload, 1) := fp_dk fp_hdX11_ring_18.1.1.2.2.1
theorem dX11_ring_33 : decode cX11_ring 33 = .ok (.ireturn, 1) := fp_dk fp_hdX11_ring_18.1.1.2.2.2
theorem dX11_with_0 : decode cX11_with 0 = .ok (.iload_n 1, 1) := fp_dk fp_hdX11_ring_18.1.2.1.1.1
theorem dX11_with_1 : decode cX11_with 1 = .ok (.invokestatic 181, 3) := fp_dk fp_hdX11_ring_18.1.2.1.1.2
theorem dX11_with_4 : decode cX11_with 4 = .ok (.ifCond .ne 5, 3) := fp_dk fp_hdX11_ring_18.1.2.1.2.1
theorem dX11_with_7 : decode cX11_with 7 = .ok (.iconst (-1), 1) := fp_dk fp_hdX11_ring_18.1.2.1.2.2
theorem dX11_with_8 : decode cX11_with 8 = .ok (.ireturn, 1) := fp_dk fp_hdX11_ring_18.1.2.2.1.1
theorem dX11_with_9 : decode cX11_with 9 = .ok (.aload_n 0, 1) := fp_dk fp_hdX11_ring_18.1.2.2.1.2
theorem dX11_with_10 : decode cX11_with 10 = .ok (.getfield 72, 3) := fp_dk fp_hdX11_ring_18.1.2.2.2.1
theorem dX11_with_13 : decode cX11_with 13 = .ok (.aload_n 0, 1) := fp_dk fp_hdX11_ring_18.1.2.2.2.2
theorem dX11_with_14 : decode cX11_with 14 = .ok (.getfield 23, 3) := fp_dk fp_hdX11_ring_18.2.1.1.1.1
theorem dX11_with_17 : decode cX11_with 17 = .ok (.aload_n 0, 1) := fp_dk fp_hdX11_ring_18.2.1.1.1.2
theorem dX11_with_18 : decode cX11_with 18 = .ok (.getfield 30, 3) := fp_dk fp_hdX11_ring_18.2.1.1.2.1
theorem dX11_with_21 : decode cX11_with 21 = .ok (.invokevirtual 303, 3) := fp_dk fp_hdX11_ring_18.2.1.1.2.2
theorem dX11_with_24 : decode cX11_with 24 = .ok (.aload_n 0, 1) := fp_dk fp_hdX11_ring_18.2.1.2.1.1
theorem dX11_with_25 : decode cX11_with 25 = .ok (.getfield 72, 3) := fp_dk fp_hdX11_ring_18.2.1.2.1.2
theorem dX11_with_28 : decode cX11_with 28 = .ok (.getfield 310, 3) := fp_dk fp_hdX11_ring_18.2.1.2.2.1
theorem dX11_with_31 : decode cX11_with 31 = .ok (.iload_n 1, 1) := fp_dk fp_hdX11_ring_18.2.1.2.2.2
theorem dX11_with_32 : decode cX11_with 32 = .ok (.iaload, 1) := fp_dk fp_hdX11_ring_18.2.2.1.1.1
theorem dX11_with_33 : decode cX11_with 33 = .ok (.ireturn, 1) := fp_dk fp_hdX11_ring_18.2.2.1.1.2
theorem dX11_join_0 : decode cX11_join 0 = .ok (.iload_n 1, 1) := fp_dk fp_hdX11_ring_18.2.2.1.2.1
theorem dX11_join_1 : decode cX11_join 1 = .ok (.invokestatic 181, 3) := fp_dk fp_hdX11_ring_18.2.2.1.2.2
theorem dX11_join_4 : decode cX11_join 4 = .ok (.ifCond .ne 5, 3) := fp_dk fp_hdX11_ring_18.2.2.2.1.1
theorem dX11_join_7 : decode cX11_join 7 = .ok (.iconst (-1), 1) := fp_dk fp_hdX11_ring_18.2.2.2.1.2
theorem dX11_join_8 : decode cX11_join 8 = .ok (.ireturn, 1) := fp_dk fp_hdX11_ring_18.2.2.2.2.1
theorem dX11_join_9 : decode cX11_join 9 = .ok (.bipush (-4), 2) := fp_dk fp_hdX11_ring_18.2.2.2.2.2
theorem fp_hdX11_join_11 : (((((fp_dq cX11_join 11 (.istore_n 2, 1) = true ∧ fp_dq cX11_join 12 (.bipush (-4), 2) = true) ∧ (fp_dq cX11_join 14 (.istore_n 3, 1) = true ∧ fp_dq cX11_join 15 (.iconst 0, 1) = true)) ∧ ((fp_dq cX11_join 16 (.istore 4, 2) = true ∧ fp_dq cX11_join 18 (.iload 4, 2) = true) ∧ (fp_dq cX11_join 20 (.aload_n 0, 1) = true ∧ fp_dq cX11_join 21 (.getfield 23, 3) = true))) ∧ (((fp_dq cX11_join 24 (.getfield 225, 3) = true ∧ fp_dq cX11_join 27 (.if_icmp .ge 59, 3) = true) ∧ (fp_dq cX11_join 30 (.aload_n 0, 1) = true ∧ fp_dq cX11_join 31 (.getfield 30, 3) = true)) ∧ ((fp_dq cX11_join 34 (.aload_n 0, 1) = true ∧ fp_dq cX11_join 35 (.getfield 23, 3) = true) ∧ (fp_dq cX11_join 38 (.iload 4, 2) = true ∧ fp_dq cX11_join 40 (.invokevirtual 159, 3) = true)))) ∧ ((((fp_dq cX11_join 43 (.istore 5, 2) = true ∧ fp_dq cX11_join 45 (.iload 5, 2) = true) ∧ (fp_dq cX11_join 47 (.bipush (-4), 2) = true ∧ fp_dq cX11_join 49 (.if_icmp .eq 31, 3) = true)) ∧ ((fp_dq cX11_join 52 (.aload_n 0, 1) = true ∧ fp_dq cX11_join 53 (.getfield 23, 3) = true) ∧ (fp_dq cX11_join 56 (.iload_n 1, 1) = true ∧ fp_dq cX11_join 57 (.iload 5, 2) = true))) ∧ (((fp_dq cX11_join 59 (.invokevirtual 130, 3) = true ∧ fp_dq cX11_join 62 (.iload_n 2, 1) = true) ∧ (fp_dq cX11_join 63 (.if_icmp .le 17, 3) = true ∧ fp_dq cX11_join 66 (.aload_n 0, 1) = true)) ∧ ((fp_dq cX11_join 67 (.getfield 23, 3) = true ∧ fp_dq cX11_join 70 (.iload_n 1, 1) = true) ∧ (fp_dq cX11_join 71 (.iload 5, 2) = true ∧ fp_dq cX11_join 73 (.invokevirtual 130, 3) = true))))) := by decide +kernel
theorem dX11_join_11 : decode cX11_join 11 = .ok (.istore_n 2, 1) := fp_dk fp_hdX11_join_11.1.1.1.1.1
theorem dX11_join_12 : decode cX11_join 12 = .ok (.bipush (-4), 2) := fp_dk fp_hdX11_join_11.1.1.1.1.2
theorem dX11_join_14 : decode cX11_join 14 = .ok (.istore_n 3, 1) := fp_dk fp_hdX11_join_11.1.1.1.2.1
theorem dX11_join_15 : decode cX11_join 15 = .ok (.iconst 0, 1) := fp_dk fp_hdX11_join_11.1.1.1.2.2
theorem dX11_join_16 : decode cX11_join 16 = .ok (.istore 4, 2) := fp_dk fp_hdX11_join_11.1.1.2.1.1
theorem dX11_join_18 : decode cX11_join 18 = .ok (.iload 4, 2) := fp_dk fp_hdX11_join_11.1.1.2.1.2
theorem dX11_join_20 : decode cX11_join 20 = .ok (.aload_n 0, 1) := fp_dk fp_hdX11_join_11.1.1.2.2.1
theorem dX11_join_21 : decode cX11_join 21 = .ok (.getfield 23, 3) := fp_dk fp_hdX11_join_11.1.1.2.2.2
theorem dX11_join_24 : decode cX11_join 24 = .ok (.getfield 225, 3) := fp_dk fp_hdX11_join_11.1.2.1.1.1
theorem dX11_join_27 : decode cX11_join 27 = .ok (.if_icmp .ge 59, 3) := fp_dk fp_hdX11_join_11.1.2.1.1.2
theorem dX11_join_30 : decode cX11_join 30 = .ok (.aload_n 0, 1) := fp_dk fp_hdX11_join_11.1.2.1.2.1
theorem dX11_join_31 : decode cX11_join 31 = .ok (.getfield 30, 3) := fp_dk fp_hdX11_join_11.1.2.1.2.2
theorem dX11_join_34 : decode cX11_join 34 = .ok (.aload_n 0, 1) := fp_dk fp_hdX11_join_11.1.2.2.1.1
theorem dX11_join_35 : decode cX11_join 35 = .ok (.getfield 23, 3) := fp_dk fp_hdX11_join_11.1.2.2.1.2
theorem dX11_join_38 : decode cX11_join 38 = .ok (.iload 4, 2) := fp_dk fp_hdX11_join_11.1.2.2.2.1
theorem dX11_join_40 : decode cX11_join 40 = .ok (.invokevirtual 159, 3) := fp_dk fp_hdX11_join_11.1.2.2.2.2
theorem dX11_join_43 : decode cX11_join 43 = .ok (.istore 5, 2) := fp_dk fp_hdX11_join_11.2.1.1.1.1
theorem dX11_join_45 : decode cX11_join 45 = .ok (.iload 5, 2) := fp_dk fp_hdX11_join_11.2.1.1.1.2
theorem dX11_join_47 : decode cX11_join 47 = .ok (.bipush (-4), 2) := fp_dk fp_hdX11_join_11.2.1.1.2.1
theorem dX11_join_49 : decode cX11_join 49 = .ok (.if_icmp .eq 31, 3) := fp_dk fp_hdX11_join_11.2.1.1.2.2
theorem dX11_join_52 : decode cX11_join 52 = .ok (.aload_n 0, 1) := fp_dk fp_hdX11_join_11.2.1.2.1.1
theorem dX11_join_53 : decode cX11_join 53 = .ok (.getfield 23, 3) := fp_dk fp_hdX11_join_11.2.1.2.1.2
theorem dX11_join_56 : decode cX11_join 56 = .ok (.iload_n 1, 1) := fp_dk fp_hdX11_join_11.2.1.2.2.1
theorem dX11_join_57 : decode cX11_join 57 = .ok (.iload 5, 2) := fp_dk fp_hdX11_join_11.2.1.2.2.2
theorem dX11_join_59 : decode cX11_join 59 = .ok (.invokevirtual 130, 3) := fp_dk fp_hdX11_join_11.2.2.1.1.1
theorem dX11_join_62 : decode cX11_join 62 = .ok (.iload_n 2, 1) := fp_dk fp_hdX11_join_11.2.2.1.1.2
theorem dX11_join_63 : decode cX11_join 63 = .ok (.if_icmp .le 17, 3) := fp_dk fp_hdX11_join_11.2.2.1.2.1
theorem dX11_join_66 : decode cX11_join 66 = .ok (.aload_n 0, 1) := fp_dk fp_hdX11_join_11.2.2.1.2.2
theorem dX11_join_67 : decode cX11_join 67 = .ok (.getfield 23, 3) := fp_dk fp_hdX11_join_11.2.2.2.1.1
theorem dX11_join_70 : decode cX11_join 70 = .ok (.iload_n 1, 1) := fp_dk fp_hdX11_join_11.2.2.2.1.2
theorem dX11_join_71 : decode cX11_join 71 = .ok (.iload 5, 2) := fp_dk fp_hdX11_join_11.2.2.2.2.1
theorem dX11_join_73 : decode cX11_join 73 = .ok (.invokevirtual 130, 3) := fp_dk fp_hdX11_join_11.2.2.2.2.2
theorem fp_hdX11_join_76 : (((((fp_dq cX11_join 76 (.istore_n 2, 1) = true ∧ fp_dq cX11_join 77 (.iload 4, 2) = true) ∧ (fp_dq cX11_join 79 (.istore_n 3, 1) = true ∧ fp_dq cX11_join 80 (.iinc 4 1, 3) = true)) ∧ ((fp_dq cX11_join 83 (.goto (-65), 3) = true ∧ fp_dq cX11_join 86 (.iload_n 3, 1) = true) ∧ (fp_dq cX11_join 87 (.ireturn, 1) = true ∧ fp_dq cX11_keep 0 (.iload_n 1, 1) = true))) ∧ (((fp_dq cX11_keep 1 (.iconst 1, 1) = true ∧ fp_dq cX11_keep 2 (.invokestatic 221, 3) = true) ∧ (fp_dq cX11_keep 5 (.ifCond .ne 5, 3) = true ∧ fp_dq cX11_keep 8 (.iconst (-1), 1) = true)) ∧ ((fp_dq cX11_keep 9 (.ireturn, 1) = true ∧ fp_dq cX11_keep 10 (.aload_n 0, 1) = true) ∧ (fp_dq cX11_keep 11 (.getfield 78, 3) = true ∧ fp_dq cX11_keep 14 (.iload_n 1, 1) = true)))) ∧ ((((fp_dq cX11_keep 15 (.aaload, 1) = true ∧ fp_dq cX11_keep 16 (.astore_n 2, 1) = true) ∧ (fp_dq cX11_keep 17 (.aload_n 2, 1) = true ∧ fp_dq cX11_keep 18 (.getfield 122, 3) = true)) ∧ ((fp_dq cX11_keep 21 (.ifCond .eq 7, 3) = true ∧ fp_dq cX11_keep 24 (.iconst 1, 1) = true) ∧ (fp_dq cX11_keep 25 (.goto 4, 3) = true ∧ fp_dq cX11_keep 28 (.iconst 0, 1) = true))) ∧ (((fp_dq cX11_keep 29 (.istore_n 3, 1) = true ∧ fp_dq cX11_keep 30 (.aload_n 2, 1) = true) ∧ (fp_dq cX11_keep 31 (.iconst 1, 1) = true ∧ fp_dq cX11_keep 32 (.putfield 122, 3) = true)) ∧ ((fp_dq cX11_keep 35 (.aload_n 2, 1) = true ∧ fp_dq cX11_keep 36 (.getfield 313, 3) = true) ∧ (fp_dq cX11_keep 39 (.aload_n 0, 1) = true ∧ fp_dq cX11_keep 40 (.getfield 30, 3) = true))))) := by decide +kernel
theorem dX11_join_76 : decode cX11_join 76 = .ok (.istore_n 2, 1) := fp_dk fp_hdX11_join_76.1.1.1.1.1
theorem dX11_join_77 : decode cX11_join 77 = .ok (.iload 4, 2) := fp_dk fp_hdX11_join_76.1.1.1.1.2
theorem dX11_join_79 : decode cX11_join 79 = .ok (.istore_n 3, 1) := fp_dk fp_hdX11_join_76.1.1.1.2.1
theorem dX11_join_80 : decode cX11_join 80 = .ok (.iinc 4 1, 3) := fp_dk fp_hdX11_join_76.1.1.1.2.2
theorem dX11_join_83 : decode cX11_join 83 = .ok (.goto (-65), 3) := fp_dk fp_hdX11_join_76.1.1.2.1.1
theorem dX11_join_86 : decode cX11_join 86 = .ok (.iload_n 3, 1) := fp_dk fp_hdX11_join_76.1.1.2.1.2
theorem dX11_join_87 : decode cX11_join 87 = .ok (.ireturn, 1) := fp_dk fp_hdX11_join_76.1.1.2.2.1
theorem dX11_keep_0 : decode cX11_keep 0 = .ok (.iload_n 1, 1) := fp_dk fp_hdX11_join_76.1.1.2.2.2
theorem dX11_keep_1 : decode cX11_keep 1 = .ok (.iconst 1, 1) := fp_dk fp_hdX11_join_76.1.2.1.1.1
theorem dX11_keep_2 : decode cX11_keep 2 = .ok (.invokestatic 221, 3) := fp_dk fp_hdX11_join_76.1.2.1.1.2
theorem dX11_keep_5 : decode cX11_keep 5 = .ok (.ifCond .ne 5, 3) := fp_dk fp_hdX11_join_76.1.2.1.2.1
theorem dX11_keep_8 : decode cX11_keep 8 = .ok (.iconst (-1), 1) := fp_dk fp_hdX11_join_76.1.2.1.2.2
theorem dX11_keep_9 : decode cX11_keep 9 = .ok (.ireturn, 1) := fp_dk fp_hdX11_join_76.1.2.2.1.1
theorem dX11_keep_10 : decode cX11_keep 10 = .ok (.aload_n 0, 1) := fp_dk fp_hdX11_join_76.1.2.2.1.2
theorem dX11_keep_11 : decode cX11_keep 11 = .ok (.getfield 78, 3) := fp_dk fp_hdX11_join_76.1.2.2.2.1
theorem dX11_keep_14 : decode cX11_keep 14 = .ok (.iload_n 1, 1) := fp_dk fp_hdX11_join_76.1.2.2.2.2
theorem dX11_keep_15 : decode cX11_keep 15 = .ok (.aaload, 1) := fp_dk fp_hdX11_join_76.2.1.1.1.1
theorem dX11_keep_16 : decode cX11_keep 16 = .ok (.astore_n 2, 1) := fp_dk fp_hdX11_join_76.2.1.1.1.2
theorem dX11_keep_17 : decode cX11_keep 17 = .ok (.aload_n 2, 1) := fp_dk fp_hdX11_join_76.2.1.1.2.1
theorem dX11_keep_18 : decode cX11_keep 18 = .ok (.getfield 122, 3) := fp_dk fp_hdX11_join_76.2.1.1.2.2
theorem dX11_keep_21 : decode cX11_keep 21 = .ok (.ifCond .eq 7, 3) := fp_dk fp_hdX11_join_76.2.1.2.1.1
theorem dX11_keep_24 : decode cX11_keep 24 = .ok (.iconst 1, 1) := fp_dk fp_hdX11_join_76.2.1.2.1.2
theorem dX11_keep_25 : decode cX11_keep 25 = .ok (.goto 4, 3) := fp_dk fp_hdX11_join_76.2.1.2.2.1
theorem dX11_keep_28 : decode cX11_keep 28 = .ok (.iconst 0, 1) := fp_dk fp_hdX11_join_76.2.1.2.2.2
theorem dX11_keep_29 : decode cX11_keep 29 = .ok (.istore_n 3, 1) := fp_dk fp_hdX11_join_76.2.2.1.1.1
theorem dX11_keep_30 : decode cX11_keep 30 = .ok (.aload_n 2, 1) := fp_dk fp_hdX11_join_76.2.2.1.1.2
theorem dX11_keep_31 : decode cX11_keep 31 = .ok (.iconst 1, 1) := fp_dk fp_hdX11_join_76.2.2.1.2.1
theorem dX11_keep_32 : decode cX11_keep 32 = .ok (.putfield 122, 3) := fp_dk fp_hdX11_join_76.2.2.1.2.2
theorem dX11_keep_35 : decode cX11_keep 35 = .ok (.aload_n 2, 1) := fp_dk fp_hdX11_join_76.2.2.2.1.1
theorem dX11_keep_36 : decode cX11_keep 36 = .ok (.getfield 313, 3) := fp_dk fp_hdX11_join_76.2.2.2.1.2
theorem dX11_keep_39 : decode cX11_keep 39 = .ok (.aload_n 0, 1) := fp_dk fp_hdX11_join_76.2.2.2.2.1
theorem dX11_keep_40 : decode cX11_keep 40 = .ok (.getfield 30, 3) := fp_dk fp_hdX11_join_76.2.2.2.2.2
theorem fp_hdX11_keep_43 : (((((fp_dq cX11_keep 43 (.invokevirtual 112, 3) = true ∧ fp_dq cX11_keep 46 (.aload_n 2, 1) = true) ∧ (fp_dq cX11_keep 47 (.getfield 314, 3) = true ∧ fp_dq cX11_keep 50 (.aload_n 0, 1) = true)) ∧ ((fp_dq cX11_keep 51 (.getfield 37, 3) = true ∧ fp_dq cX11_keep 54 (.invokevirtual 116, 3) = true) ∧ (fp_dq cX11_keep 57 (.aload_n 2, 1) = true ∧ fp_dq cX11_keep 58 (.getfield 315, 3) = true))) ∧ (((fp_dq cX11_keep 61 (.aload_n 0, 1) = true ∧ fp_dq cX11_keep 62 (.getfield 44, 3) = true) ∧ (fp_dq cX11_keep 65 (.invokevirtual 316, 3) = true ∧ fp_dq cX11_keep 68 (.iload_n 3, 1) = true)) ∧ ((fp_dq cX11_keep 69 (.ireturn, 1) = true ∧ fp_dq cX11_back 0 (.iload_n 1, 1) = true) ∧ (fp_dq cX11_back 1 (.iconst 1, 1) = true ∧ fp_dq cX11_back 2 (.invokestatic 221, 3) = true)))) ∧ ((((fp_dq cX11_back 5 (.ifCond .ne 5, 3) = true ∧ fp_dq cX11_back 8 (.iconst (-1), 1) = true) ∧ (fp_dq cX11_back 9 (.ireturn, 1) = true ∧ fp_dq cX11_back 10 (.aload_n 0, 1) = true)) ∧ ((fp_dq cX11_back 11 (.getfield 78, 3) = true ∧ fp_dq cX11_back 14 (.iload_n 1, 1) = true) ∧ (fp_dq cX11_back 15 (.aaload, 1) = true ∧ fp_dq cX11_back 16 (.astore_n 2, 1) = true))) ∧ (((fp_dq cX11_back 17 (.aload_n 2, 1) = true ∧ fp_dq cX11_back 18 (.getfield 122, 3) = true) ∧ (fp_dq cX11_back 21 (.ifCond .ne 6, 3) = true ∧ fp_dq cX11_back 24 (.bipush (-2), 2) = true)) ∧ ((fp_dq cX11_back 26 (.ireturn, 1) = true ∧ fp_dq cX11_back 27 (.aload_n 0, 1) = true) ∧ (fp_dq cX11_back 28 (.getfield 30, 3) = true ∧ fp_dq cX11_back 31 (.aload_n 2, 1) = true))))) := by decide +kernel
theorem dX11_keep_43 : decode cX11_keep 43 = .ok (.invokevirtual 112, 3) := fp_dk fp_hdX11_keep_43.1.1.1.1.1
theorem dX11_keep_46 : decode cX11_keep 46 = .ok (.aload_n 2, 1) := fp_dk fp_hdX11_keep_43.1.1.1.1.2
theorem dX11_keep_47 : decode cX11_keep 47 = .ok (.getfield 314, 3) := fp_dk fp_hdX11_keep_43.1.1.1.2.1
theorem dX11_keep_50 : decode cX11_keep 50 = .ok (.aload_n 0, 1) := fp_dk fp_hdX11_keep_43.1.1.1.2.2
theorem dX11_keep_51 : decode cX11_keep 51 = .ok (.getfield 37, 3) := fp_dk fp_hdX11_keep_43.1.1.2.1.1
theorem dX11_keep_54 : decode cX11_keep 54 = .ok (.invokevirtual 116, 3) := fp_dk fp_hdX11_keep_43.1.1.2.1.2
theorem dX11_keep_57 : decode cX11_keep 57 = .ok (.aload_n 2, 1) := fp_dk fp_hdX11_keep_43.1.1.2.2.1
theorem dX11_keep_58 : decode cX11_keep 58 = .ok (.getfield 315, 3) := fp_dk fp_hdX11_keep_43.1.1.2.2.2
theorem dX11_keep_61 : decode cX11_keep 61 = .ok (.aload_n 0, 1) := fp_dk fp_hdX11_keep_43.1.2.1.1.1
theorem dX11_keep_62 : decode cX11_keep 62 = .ok (.getfield 44, 3) := fp_dk fp_hdX11_keep_43.1.2.1.1.2
theorem dX11_keep_65 : decode cX11_keep 65 = .ok (.invokevirtual 316, 3) := fp_dk fp_hdX11_keep_43.1.2.1.2.1
theorem dX11_keep_68 : decode cX11_keep 68 = .ok (.iload_n 3, 1) := fp_dk fp_hdX11_keep_43.1.2.1.2.2
theorem dX11_keep_69 : decode cX11_keep 69 = .ok (.ireturn, 1) := fp_dk fp_hdX11_keep_43.1.2.2.1.1
theorem dX11_back_0 : decode cX11_back 0 = .ok (.iload_n 1, 1) := fp_dk fp_hdX11_keep_43.1.2.2.1.2
theorem dX11_back_1 : decode cX11_back 1 = .ok (.iconst 1, 1) := fp_dk fp_hdX11_keep_43.1.2.2.2.1
theorem dX11_back_2 : decode cX11_back 2 = .ok (.invokestatic 221, 3) := fp_dk fp_hdX11_keep_43.1.2.2.2.2
theorem dX11_back_5 : decode cX11_back 5 = .ok (.ifCond .ne 5, 3) := fp_dk fp_hdX11_keep_43.2.1.1.1.1
theorem dX11_back_8 : decode cX11_back 8 = .ok (.iconst (-1), 1) := fp_dk fp_hdX11_keep_43.2.1.1.1.2
theorem dX11_back_9 : decode cX11_back 9 = .ok (.ireturn, 1) := fp_dk fp_hdX11_keep_43.2.1.1.2.1
theorem dX11_back_10 : decode cX11_back 10 = .ok (.aload_n 0, 1) := fp_dk fp_hdX11_keep_43.2.1.1.2.2
theorem dX11_back_11 : decode cX11_back 11 = .ok (.getfield 78, 3) := fp_dk fp_hdX11_keep_43.2.1.2.1.1
theorem dX11_back_14 : decode cX11_back 14 = .ok (.iload_n 1, 1) := fp_dk fp_hdX11_keep_43.2.1.2.1.2
theorem dX11_back_15 : decode cX11_back 15 = .ok (.aaload, 1) := fp_dk fp_hdX11_keep_43.2.1.2.2.1
theorem dX11_back_16 : decode cX11_back 16 = .ok (.astore_n 2, 1) := fp_dk fp_hdX11_keep_43.2.1.2.2.2
theorem dX11_back_17 : decode cX11_back 17 = .ok (.aload_n 2, 1) := fp_dk fp_hdX11_keep_43.2.2.1.1.1
theorem dX11_back_18 : decode cX11_back 18 = .ok (.getfield 122, 3) := fp_dk fp_hdX11_keep_43.2.2.1.1.2
theorem dX11_back_21 : decode cX11_back 21 = .ok (.ifCond .ne 6, 3) := fp_dk fp_hdX11_keep_43.2.2.1.2.1
theorem dX11_back_24 : decode cX11_back 24 = .ok (.bipush (-2), 2) := fp_dk fp_hdX11_keep_43.2.2.1.2.2
theorem dX11_back_26 : decode cX11_back 26 = .ok (.ireturn, 1) := fp_dk fp_hdX11_keep_43.2.2.2.1.1
theorem dX11_back_27 : decode cX11_back 27 = .ok (.aload_n 0, 1) := fp_dk fp_hdX11_keep_43.2.2.2.1.2
theorem dX11_back_28 : decode cX11_back 28 = .ok (.getfield 30, 3) := fp_dk fp_hdX11_keep_43.2.2.2.2.1
theorem dX11_back_31 : decode cX11_back 31 = .ok (.aload_n 2, 1) := fp_dk fp_hdX11_keep_43.2.2.2.2.2
theorem fp_hdX11_back_32 : (((((fp_dq cX11_back 32 (.getfield 313, 3) = true ∧ fp_dq cX11_back 35 (.invokevirtual 112, 3) = true) ∧ (fp_dq cX11_back 38 (.aload_n 0, 1) = true ∧ fp_dq cX11_back 39 (.getfield 37, 3) = true)) ∧ ((fp_dq cX11_back 42 (.aload_n 2, 1) = true ∧ fp_dq cX11_back 43 (.getfield 314, 3) = true) ∧ (fp_dq cX11_back 46 (.invokevirtual 116, 3) = true ∧ fp_dq cX11_back 49 (.aload_n 0, 1) = true))) ∧ (((fp_dq cX11_back 50 (.getfield 44, 3) = true ∧ fp_dq cX11_back 53 (.aload_n 2, 1) = true) ∧ (fp_dq cX11_back 54 (.getfield 315, 3) = true ∧ fp_dq cX11_back 57 (.invokevirtual 316, 3) = true)) ∧ ((fp_dq cX11_back 60 (.aload_n 0, 1) = true ∧ fp_dq cX11_back 61 (.getfield 37, 3) = true) ∧ (fp_dq cX11_back 64 (.getfield 205, 3) = true ∧ fp_dq cX11_back 67 (.ireturn, 1) = true)))) ∧ ((((fp_dq cX11_sheet 0 (.iload_n 1, 1) = true ∧ fp_dq cX11_sheet 1 (.iconst 3, 1) = true) ∧ (fp_dq cX11_sheet 2 (.invokestatic 221, 3) = true ∧ fp_dq cX11_sheet 5 (.ifCond .eq 17, 3) = true)) ∧ ((fp_dq cX11_sheet 8 (.iload_n 2, 1) = true ∧ fp_dq cX11_sheet 9 (.iconst 2, 1) = true) ∧ (fp_dq cX11_sheet 10 (.invokestatic 221, 3) = true ∧ fp_dq cX11_sheet 13 (.ifCond .eq 9, 3) = true))) ∧ (((fp_dq cX11_sheet 16 (.iload_n 3, 1) = true ∧ fp_dq cX11_sheet 17 (.bipush 40, 2) = true) ∧ (fp_dq cX11_sheet 19 (.if_icmp .le 5, 3) = true ∧ fp_dq cX11_sheet 22 (.iconst (-1), 1) = true)) ∧ ((fp_dq cX11_sheet 23 (.ireturn, 1) = true ∧ fp_dq cX11_sheet 24 (.iload_n 3, 1) = true) ∧ (fp_dq cX11_sheet 25 (.ifCond .ge 6, 3) = true ∧ fp_dq cX11_sheet 28 (.bipush (-14), 2) = true))))) := by decide +kernel
theorem dX11_back_32 : decode cX11_back 32 = .ok (.getfield 313, 3) := fp_dk fp_hdX11_back_32.1.1.1.1.1
theorem dX11_back_35 : decode cX11_back 35 = .ok (.invokevirtual 112, 3) := fp_dk fp_hdX11_back_32.1.1.1.1.2
theorem dX11_back_38 : decode cX11_back 38 = .ok (.aload_n 0, 1) := fp_dk fp_hdX11_back_32.1.1.1.2.1
theorem dX11_back_39 : decode cX11_back 39 = .ok (.getfield 37, 3) := fp_dk fp_hdX11_back_32.1.1.1.2.2
theorem dX11_back_42 : decode cX11_back 42 = .ok (.aload_n 2, 1) := fp_dk fp_hdX11_back_32.1.1.2.1.1
theorem dX11_back_43 : decode cX11_back 43 = .ok (.getfield 314, 3) := fp_dk fp_hdX11_back_32.1.1.2.1.2
theorem dX11_back_46 : decode cX11_back 46 = .ok (.invokevirtual 116, 3) := fp_dk fp_hdX11_back_32.1.1.2.2.1
theorem dX11_back_49 : decode cX11_back 49 = .ok (.aload_n 0, 1) := fp_dk fp_hdX11_back_32.1.1.2.2.2
theorem dX11_back_50 : decode cX11_back 50 = .ok (.getfield 44, 3) := fp_dk fp_hdX11_back_32.1.2.1.1.1
theorem dX11_back_53 : decode cX11_back 53 = .ok (.aload_n 2, 1) := fp_dk fp_hdX11_back_32.1.2.1.1.2
theorem dX11_back_54 : decode cX11_back 54 = .ok (.getfield 315, 3) := fp_dk fp_hdX11_back_32.1.2.1.2.1
theorem dX11_back_57 : decode cX11_back 57 = .ok (.invokevirtual 316, 3) := fp_dk fp_hdX11_back_32.1.2.1.2.2
theorem dX11_back_60 : decode cX11_back 60 = .ok (.aload_n 0, 1) := fp_dk fp_hdX11_back_32.1.2.2.1.1
theorem dX11_back_61 : decode cX11_back 61 = .ok (.getfield 37, 3) := fp_dk fp_hdX11_back_32.1.2.2.1.2
theorem dX11_back_64 : decode cX11_back 64 = .ok (.getfield 205, 3) := fp_dk fp_hdX11_back_32.1.2.2.2.1
theorem dX11_back_67 : decode cX11_back 67 = .ok (.ireturn, 1) := fp_dk fp_hdX11_back_32.1.2.2.2.2
theorem dX11_sheet_0 : decode cX11_sheet 0 = .ok (.iload_n 1, 1) := fp_dk fp_hdX11_back_32.2.1.1.1.1
theorem dX11_sheet_1 : decode cX11_sheet 1 = .ok (.iconst 3, 1) := fp_dk fp_hdX11_back_32.2.1.1.1.2
theorem dX11_sheet_2 : decode cX11_sheet 2 = .ok (.invokestatic 221, 3) := fp_dk fp_hdX11_back_32.2.1.1.2.1
theorem dX11_sheet_5 : decode cX11_sheet 5 = .ok (.ifCond .eq 17, 3) := fp_dk fp_hdX11_back_32.2.1.1.2.2
theorem dX11_sheet_8 : decode cX11_sheet 8 = .ok (.iload_n 2, 1) := fp_dk fp_hdX11_back_32.2.1.2.1.1
theorem dX11_sheet_9 : decode cX11_sheet 9 = .ok (.iconst 2, 1) := fp_dk fp_hdX11_back_32.2.1.2.1.2
theorem dX11_sheet_10 : decode cX11_sheet 10 = .ok (.invokestatic 221, 3) := fp_dk fp_hdX11_back_32.2.1.2.2.1
theorem dX11_sheet_13 : decode cX11_sheet 13 = .ok (.ifCond .eq 9, 3) := fp_dk fp_hdX11_back_32.2.1.2.2.2
theorem dX11_sheet_16 : decode cX11_sheet 16 = .ok (.iload_n 3, 1) := fp_dk fp_hdX11_back_32.2.2.1.1.1
theorem dX11_sheet_17 : decode cX11_sheet 17 = .ok (.bipush 40, 2) := fp_dk fp_hdX11_back_32.2.2.1.1.2
theorem dX11_sheet_19 : decode cX11_sheet 19 = .ok (.if_icmp .le 5, 3) := fp_dk fp_hdX11_back_32.2.2.1.2.1
theorem dX11_sheet_22 : decode cX11_sheet 22 = .ok (.iconst (-1), 1) := fp_dk fp_hdX11_back_32.2.2.1.2.2
theorem dX11_sheet_23 : decode cX11_sheet 23 = .ok (.ireturn, 1) := fp_dk fp_hdX11_back_32.2.2.2.1.1
theorem dX11_sheet_24 : decode cX11_sheet 24 = .ok (.iload_n 3, 1) := fp_dk fp_hdX11_back_32.2.2.2.1.2
theorem dX11_sheet_25 : decode cX11_sheet 25 = .ok (.ifCond .ge 6, 3) := fp_dk fp_hdX11_back_32.2.2.2.2.1
theorem dX11_sheet_28 : decode cX11_sheet 28 = .ok (.bipush (-14), 2) := fp_dk fp_hdX11_back_32.2.2.2.2.2
theorem fp_hdX11_sheet_30 : (((((fp_dq cX11_sheet 30 (.ireturn, 1) = true ∧ fp_dq cX11_sheet 31 (.aload_n 0, 1) = true) ∧ (fp_dq cX11_sheet 32 (.getfield 84, 3) = true ∧ fp_dq cX11_sheet 35 (.iload_n 1, 1) = true)) ∧ ((fp_dq cX11_sheet 36 (.aaload, 1) = true ∧ fp_dq cX11_sheet 37 (.iload_n 2, 1) = true) ∧ (fp_dq cX11_sheet 38 (.iload_n 3, 1) = true ∧ fp_dq cX11_sheet 39 (.invokevirtual 319, 3) = true))) ∧ (((fp_dq cX11_sheet 42 (.iconst 1, 1) = true ∧ fp_dq cX11_sheet 43 (.ireturn, 1) = true) ∧ (fp_dq cX11_lay 0 (.iload_n 1, 1) = true ∧ fp_dq cX11_lay 1 (.iconst 3, 1) = true)) ∧ ((fp_dq cX11_lay 2 (.invokestatic 221, 3) = true ∧ fp_dq cX11_lay 5 (.ifCond .ne 5, 3) = true) ∧ (fp_dq cX11_lay 8 (.iconst (-1), 1) = true ∧ fp_dq cX11_lay 9 (.ireturn, 1) = true)))) ∧ ((((fp_dq cX11_lay 10 (.aload_n 0, 1) = true ∧ fp_dq cX11_lay 11 (.getfield 84, 3) = true) ∧ (fp_dq cX11_lay 14 (.iload_n 1, 1) = true ∧ fp_dq cX11_lay 15 (.aaload, 1) = true)) ∧ ((fp_dq cX11_lay 16 (.astore 4, 2) = true ∧ fp_dq cX11_lay 18 (.aload 4, 2) = true) ∧ (fp_dq cX11_lay 20 (.invokevirtual 323, 3) = true ∧ fp_dq cX11_lay 23 (.ifCond .ne 6, 3) = true))) ∧ (((fp_dq cX11_lay 26 (.bipush (-11), 2) = true ∧ fp_dq cX11_lay 28 (.ireturn, 1) = true) ∧ (fp_dq cX11_lay 29 (.aload 4, 2) = true ∧ fp_dq cX11_lay 31 (.iload_n 2, 1) = true)) ∧ ((fp_dq cX11_lay 32 (.invokevirtual 327, 3) = true ∧ fp_dq cX11_lay 35 (.ifCond .ne 6, 3) = true) ∧ (fp_dq cX11_lay 38 (.bipush (-12), 2) = true ∧ fp_dq cX11_lay 40 (.ireturn, 1) = true))))) := by decide +kernel
theorem dX11_sheet_30 : decode cX11_sheet 30 = .ok (.ireturn, 1) := fp_dk fp_hdX11_sheet_30.1.1.1.1.1
theorem dX11_sheet_31 : decode cX11_sheet 31 = .ok (.aload_n 0, 1) := fp_dk fp_hdX11_sheet_30.1.1.1.1.2
theorem dX11_sheet_32 : decode cX11_sheet 32 = .ok (.getfield 84, 3) := fp_dk fp_hdX11_sheet_30.1.1.1.2.1
theorem dX11_sheet_35 : decode cX11_sheet 35 = .ok (.iload_n 1, 1) := fp_dk fp_hdX11_sheet_30.1.1.1.2.2
theorem dX11_sheet_36 : decode cX11_sheet 36 = .ok (.aaload, 1) := fp_dk fp_hdX11_sheet_30.1.1.2.1.1
theorem dX11_sheet_37 : decode cX11_sheet 37 = .ok (.iload_n 2, 1) := fp_dk fp_hdX11_sheet_30.1.1.2.1.2
theorem dX11_sheet_38 : decode cX11_sheet 38 = .ok (.iload_n 3, 1) := fp_dk fp_hdX11_sheet_30.1.1.2.2.1
theorem dX11_sheet_39 : decode cX11_sheet 39 = .ok (.invokevirtual 319, 3) := fp_dk fp_hdX11_sheet_30.1.1.2.2.2
theorem dX11_sheet_42 : decode cX11_sheet 42 = .ok (.iconst 1, 1) := fp_dk fp_hdX11_sheet_30.1.2.1.1.1
theorem dX11_sheet_43 : decode cX11_sheet 43 = .ok (.ireturn, 1) := fp_dk fp_hdX11_sheet_30.1.2.1.1.2
theorem dX11_lay_0 : decode cX11_lay 0 = .ok (.iload_n 1, 1) := fp_dk fp_hdX11_sheet_30.1.2.1.2.1
theorem dX11_lay_1 : decode cX11_lay 1 = .ok (.iconst 3, 1) := fp_dk fp_hdX11_sheet_30.1.2.1.2.2
theorem dX11_lay_2 : decode cX11_lay 2 = .ok (.invokestatic 221, 3) := fp_dk fp_hdX11_sheet_30.1.2.2.1.1
theorem dX11_lay_5 : decode cX11_lay 5 = .ok (.ifCond .ne 5, 3) := fp_dk fp_hdX11_sheet_30.1.2.2.1.2
theorem dX11_lay_8 : decode cX11_lay 8 = .ok (.iconst (-1), 1) := fp_dk fp_hdX11_sheet_30.1.2.2.2.1
theorem dX11_lay_9 : decode cX11_lay 9 = .ok (.ireturn, 1) := fp_dk fp_hdX11_sheet_30.1.2.2.2.2
theorem dX11_lay_10 : decode cX11_lay 10 = .ok (.aload_n 0, 1) := fp_dk fp_hdX11_sheet_30.2.1.1.1.1
theorem dX11_lay_11 : decode cX11_lay 11 = .ok (.getfield 84, 3) := fp_dk fp_hdX11_sheet_30.2.1.1.1.2
theorem dX11_lay_14 : decode cX11_lay 14 = .ok (.iload_n 1, 1) := fp_dk fp_hdX11_sheet_30.2.1.1.2.1
theorem dX11_lay_15 : decode cX11_lay 15 = .ok (.aaload, 1) := fp_dk fp_hdX11_sheet_30.2.1.1.2.2
theorem dX11_lay_16 : decode cX11_lay 16 = .ok (.astore 4, 2) := fp_dk fp_hdX11_sheet_30.2.1.2.1.1
theorem dX11_lay_18 : decode cX11_lay 18 = .ok (.aload 4, 2) := fp_dk fp_hdX11_sheet_30.2.1.2.1.2
theorem dX11_lay_20 : decode cX11_lay 20 = .ok (.invokevirtual 323, 3) := fp_dk fp_hdX11_sheet_30.2.1.2.2.1
theorem dX11_lay_23 : decode cX11_lay 23 = .ok (.ifCond .ne 6, 3) := fp_dk fp_hdX11_sheet_30.2.1.2.2.2
theorem dX11_lay_26 : decode cX11_lay 26 = .ok (.bipush (-11), 2) := fp_dk fp_hdX11_sheet_30.2.2.1.1.1
theorem dX11_lay_28 : decode cX11_lay 28 = .ok (.ireturn, 1) := fp_dk fp_hdX11_sheet_30.2.2.1.1.2
theorem dX11_lay_29 : decode cX11_lay 29 = .ok (.aload 4, 2) := fp_dk fp_hdX11_sheet_30.2.2.1.2.1
theorem dX11_lay_31 : decode cX11_lay 31 = .ok (.iload_n 2, 1) := fp_dk fp_hdX11_sheet_30.2.2.1.2.2
theorem dX11_lay_32 : decode cX11_lay 32 = .ok (.invokevirtual 327, 3) := fp_dk fp_hdX11_sheet_30.2.2.2.1.1
theorem dX11_lay_35 : decode cX11_lay 35 = .ok (.ifCond .ne 6, 3) := fp_dk fp_hdX11_sheet_30.2.2.2.1.2
theorem dX11_lay_38 : decode cX11_lay 38 = .ok (.bipush (-12), 2) := fp_dk fp_hdX11_sheet_30.2.2.2.2.1
theorem dX11_lay_40 : decode cX11_lay 40 = .ok (.ireturn, 1) := fp_dk fp_hdX11_sheet_30.2.2.2.2.2
theorem fp_hdX11_lay_41 : (((((fp_dq cX11_lay 41 (.aload 4, 2) = true ∧ fp_dq cX11_lay 43 (.iload_n 2, 1) = true) ∧ (fp_dq cX11_lay 44 (.iload_n 3, 1) = true ∧ fp_dq cX11_lay 45 (.invokevirtual 328, 3) = true)) ∧ ((fp_dq cX11_lay 48 (.iconst 1, 1) = true ∧ fp_dq cX11_lay 49 (.ireturn, 1) = true) ∧ (fp_dq cX11_read 0 (.iload_n 1, 1) = true ∧ fp_dq cX11_read 1 (.iconst 3, 1) = true))) ∧ (((fp_dq cX11_read 2 (.invokestatic 221, 3) = true ∧ fp_dq cX11_read 5 (.ifCond .eq 21, 3) = true) ∧ (fp_dq cX11_read 8 (.iload_n 2, 1) = true ∧ fp_dq cX11_read 9 (.iconst 2, 1) = true)) ∧ ((fp_dq cX11_read 10 (.invokestatic 221, 3) = true ∧ fp_dq cX11_read 13 (.ifCond .eq 13, 3) = true) ∧ (fp_dq cX11_read 16 (.iload 4, 2) = true ∧ fp_dq cX11_read 18 (.bipush 10, 2) = true)))) ∧ ((((fp_dq cX11_read 20 (.invokestatic 221, 3) = true ∧ fp_dq cX11_read 23 (.ifCond .ne 5, 3) = true) ∧ (fp_dq cX11_read 26 (.iconst (-1), 1) = true ∧ fp_dq cX11_read 27 (.ireturn, 1) = true)) ∧ ((fp_dq cX11_read 28 (.aload_n 0, 1) = true ∧ fp_dq cX11_read 29 (.getfield 84, 3) = true) ∧ (fp_dq cX11_read 32 (.iload_n 1, 1) = true ∧ fp_dq cX11_read 33 (.aaload, 1) = true))) ∧ (((fp_dq cX11_read 34 (.astore 5, 2) = true ∧ fp_dq cX11_read 36 (.iload 4, 2) = true) ∧ (fp_dq cX11_read 38 (.ifCond .ne 7, 3) = true ∧ fp_dq cX11_read 41 (.iconst 0, 1) = true)) ∧ ((fp_dq cX11_read 42 (.goto 9, 3) = true ∧ fp_dq cX11_read 45 (.aload 5, 2) = true) ∧ (fp_dq cX11_read 47 (.iload_n 2, 1) = true ∧ fp_dq cX11_read 48 (.invokevirtual 331, 3) = true))))) := by decide +kernel
theorem dX11_lay_41 : decode cX11_lay 41 = .ok (.aload 4, 2) := fp_dk fp_hdX11_lay_41.1.1.1.1.1
theorem dX11_lay_43 : decode cX11_lay 43 = .ok (.iload_n 2, 1) := fp_dk fp_hdX11_lay_41.1.1.1.1.2
theorem dX11_lay_44 : decode cX11_lay 44 = .ok (.iload_n 3, 1) := fp_dk fp_hdX11_lay_41.1.1.1.2.1
theorem dX11_lay_45 : decode cX11_lay 45 = .ok (.invokevirtual 328, 3) := fp_dk fp_hdX11_lay_41.1.1.1.2.2
theorem dX11_lay_48 : decode cX11_lay 48 = .ok (.iconst 1, 1) := fp_dk fp_hdX11_lay_41.1.1.2.1.1
theorem dX11_lay_49 : decode cX11_lay 49 = .ok (.ireturn, 1) := fp_dk fp_hdX11_lay_41.1.1.2.1.2
theorem dX11_read_0 : decode cX11_read 0 = .ok (.iload_n 1, 1) := fp_dk fp_hdX11_lay_41.1.1.2.2.1
theorem dX11_read_1 : decode cX11_read 1 = .ok (.iconst 3, 1) := fp_dk fp_hdX11_lay_41.1.1.2.2.2
theorem dX11_read_2 : decode cX11_read 2 = .ok (.invokestatic 221, 3) := fp_dk fp_hdX11_lay_41.1.2.1.1.1
theorem dX11_read_5 : decode cX11_read 5 = .ok (.ifCond .eq 21, 3) := fp_dk fp_hdX11_lay_41.1.2.1.1.2
theorem dX11_read_8 : decode cX11_read 8 = .ok (.iload_n 2, 1) := fp_dk fp_hdX11_lay_41.1.2.1.2.1
theorem dX11_read_9 : decode cX11_read 9 = .ok (.iconst 2, 1) := fp_dk fp_hdX11_lay_41.1.2.1.2.2
theorem dX11_read_10 : decode cX11_read 10 = .ok (.invokestatic 221, 3) := fp_dk fp_hdX11_lay_41.1.2.2.1.1
theorem dX11_read_13 : decode cX11_read 13 = .ok (.ifCond .eq 13, 3) := fp_dk fp_hdX11_lay_41.1.2.2.1.2
theorem dX11_read_16 : decode cX11_read 16 = .ok (.iload 4, 2) := fp_dk fp_hdX11_lay_41.1.2.2.2.1
theorem dX11_read_18 : decode cX11_read 18 = .ok (.bipush 10, 2) := fp_dk fp_hdX11_lay_41.1.2.2.2.2
theorem dX11_read_20 : decode cX11_read 20 = .ok (.invokestatic 221, 3) := fp_dk fp_hdX11_lay_41.2.1.1.1.1
theorem dX11_read_23 : decode cX11_read 23 = .ok (.ifCond .ne 5, 3) := fp_dk fp_hdX11_lay_41.2.1.1.1.2
theorem dX11_read_26 : decode cX11_read 26 = .ok (.iconst (-1), 1) := fp_dk fp_hdX11_lay_41.2.1.1.2.1
theorem dX11_read_27 : decode cX11_read 27 = .ok (.ireturn, 1) := fp_dk fp_hdX11_lay_41.2.1.1.2.2
theorem dX11_read_28 : decode cX11_read 28 = .ok (.aload_n 0, 1) := fp_dk fp_hdX11_lay_41.2.1.2.1.1
theorem dX11_read_29 : decode cX11_read 29 = .ok (.getfield 84, 3) := fp_dk fp_hdX11_lay_41.2.1.2.1.2
theorem dX11_read_32 : decode cX11_read 32 = .ok (.iload_n 1, 1) := fp_dk fp_hdX11_lay_41.2.1.2.2.1
theorem dX11_read_33 : decode cX11_read 33 = .ok (.aaload, 1) := fp_dk fp_hdX11_lay_41.2.1.2.2.2
theorem dX11_read_34 : decode cX11_read 34 = .ok (.astore 5, 2) := fp_dk fp_hdX11_lay_41.2.2.1.1.1
theorem dX11_read_36 : decode cX11_read 36 = .ok (.iload 4, 2) := fp_dk fp_hdX11_lay_41.2.2.1.1.2
theorem dX11_read_38 : decode cX11_read 38 = .ok (.ifCond .ne 7, 3) := fp_dk fp_hdX11_lay_41.2.2.1.2.1
theorem dX11_read_41 : decode cX11_read 41 = .ok (.iconst 0, 1) := fp_dk fp_hdX11_lay_41.2.2.1.2.2
theorem dX11_read_42 : decode cX11_read 42 = .ok (.goto 9, 3) := fp_dk fp_hdX11_lay_41.2.2.2.1.1
theorem dX11_read_45 : decode cX11_read 45 = .ok (.aload 5, 2) := fp_dk fp_hdX11_lay_41.2.2.2.1.2
theorem dX11_read_47 : decode cX11_read 47 = .ok (.iload_n 2, 1) := fp_dk fp_hdX11_lay_41.2.2.2.2.1
theorem dX11_read_48 : decode cX11_read 48 = .ok (.invokevirtual 331, 3) := fp_dk fp_hdX11_lay_41.2.2.2.2.2
theorem fp_hdX11_read_51 : (((((fp_dq cX11_read 51 (.istore 6, 2) = true ∧ fp_dq cX11_read 53 (.iload 6, 2) = true) ∧ (fp_dq cX11_read 55 (.ifCond .eq 11, 3) = true ∧ fp_dq cX11_read 58 (.aload_n 0, 1) = true)) ∧ ((fp_dq cX11_read 59 (.iload 6, 2) = true ∧ fp_dq cX11_read 61 (.putfield 334, 3) = true) ∧ (fp_dq cX11_read 64 (.iconst 0, 1) = true ∧ fp_dq cX11_read 65 (.ireturn, 1) = true))) ∧ (((fp_dq cX11_read 66 (.aload_n 0, 1) = true ∧ fp_dq cX11_read 67 (.getfield 37, 3) = true) ∧ (fp_dq cX11_read 70 (.getfield 205, 3) = true ∧ fp_dq cX11_read 73 (.istore 7, 2) = true)) ∧ ((fp_dq cX11_read 75 (.iconst 0, 1) = true ∧ fp_dq cX11_read 76 (.istore 8, 2) = true) ∧ (fp_dq cX11_read 78 (.iload 8, 2) = true ∧ fp_dq cX11_read 80 (.iload 4, 2) = true)))) ∧ ((((fp_dq cX11_read 82 (.if_icmp .ge 58, 3) = true ∧ fp_dq cX11_read 85 (.aload 5, 2) = true) ∧ (fp_dq cX11_read 87 (.iload_n 3, 1) = true ∧ fp_dq cX11_read 88 (.iload 8, 2) = true)) ∧ ((fp_dq cX11_read 90 (.invokevirtual 337, 3) = true ∧ fp_dq cX11_read 93 (.ifCond .ne 11, 3) = true) ∧ (fp_dq cX11_read 96 (.aload_n 0, 1) = true ∧ fp_dq cX11_read 97 (.iconst 2, 1) = true))) ∧ (((fp_dq cX11_read 98 (.putfield 334, 3) = true ∧ fp_dq cX11_read 101 (.iload 8, 2) = true) ∧ (fp_dq cX11_read 103 (.ireturn, 1) = true ∧ fp_dq cX11_read 104 (.aload_n 0, 1) = true)) ∧ ((fp_dq cX11_read 105 (.aload 5, 2) = true ∧ fp_dq cX11_read 107 (.iload_n 3, 1) = true) ∧ (fp_dq cX11_read 108 (.iload 8, 2) = true ∧ fp_dq cX11_read 110 (.iconst 4, 1) = true))))) := by decide +kernel
theorem dX11_read_51 : decode cX11_read 51 = .ok (.istore 6, 2) := fp_dk fp_hdX11_read_51.1.1.1.1.1
theorem dX11_read_53 : decode cX11_read 53 = .ok (.iload 6, 2) := fp_dk fp_hdX11_read_51.1.1.1.1.2
theorem dX11_read_55 : decode cX11_read 55 = .ok (.ifCond .eq 11, 3) := fp_dk fp_hdX11_read_51.1.1.1.2.1
theorem dX11_read_58 : decode cX11_read 58 = .ok (.aload_n 0, 1) := fp_dk fp_hdX11_read_51.1.1.1.2.2
theorem dX11_read_59 : decode cX11_read 59 = .ok (.iload 6, 2) := fp_dk fp_hdX11_read_51.1.1.2.1.1
theorem dX11_read_61 : decode cX11_read 61 = .ok (.putfield 334, 3) := fp_dk fp_hdX11_read_51.1.1.2.1.2
theorem dX11_read_64 : decode cX11_read 64 = .ok (.iconst 0, 1) := fp_dk fp_hdX11_read_51.1.1.2.2.1
theorem dX11_read_65 : decode cX11_read 65 = .ok (.ireturn, 1) := fp_dk fp_hdX11_read_51.1.1.2.2.2
theorem dX11_read_66 : decode cX11_read 66 = .ok (.aload_n 0, 1) := fp_dk fp_hdX11_read_51.1.2.1.1.1
theorem dX11_read_67 : decode cX11_read 67 = .ok (.getfield 37, 3) := fp_dk fp_hdX11_read_51.1.2.1.1.2
theorem dX11_read_70 : decode cX11_read 70 = .ok (.getfield 205, 3) := fp_dk fp_hdX11_read_51.1.2.1.2.1
theorem dX11_read_73 : decode cX11_read 73 = .ok (.istore 7, 2) := fp_dk fp_hdX11_read_51.1.2.1.2.2
theorem dX11_read_75 : decode cX11_read 75 = .ok (.iconst 0, 1) := fp_dk fp_hdX11_read_51.1.2.2.1.1
theorem dX11_read_76 : decode cX11_read 76 = .ok (.istore 8, 2) := fp_dk fp_hdX11_read_51.1.2.2.1.2
theorem dX11_read_78 : decode cX11_read 78 = .ok (.iload 8, 2) := fp_dk fp_hdX11_read_51.1.2.2.2.1
theorem dX11_read_80 : decode cX11_read 80 = .ok (.iload 4, 2) := fp_dk fp_hdX11_read_51.1.2.2.2.2
theorem dX11_read_82 : decode cX11_read 82 = .ok (.if_icmp .ge 58, 3) := fp_dk fp_hdX11_read_51.2.1.1.1.1
theorem dX11_read_85 : decode cX11_read 85 = .ok (.aload 5, 2) := fp_dk fp_hdX11_read_51.2.1.1.1.2
theorem dX11_read_87 : decode cX11_read 87 = .ok (.iload_n 3, 1) := fp_dk fp_hdX11_read_51.2.1.1.2.1
theorem dX11_read_88 : decode cX11_read 88 = .ok (.iload 8, 2) := fp_dk fp_hdX11_read_51.2.1.1.2.2
theorem dX11_read_90 : decode cX11_read 90 = .ok (.invokevirtual 337, 3) := fp_dk fp_hdX11_read_51.2.1.2.1.1
theorem dX11_read_93 : decode cX11_read 93 = .ok (.ifCond .ne 11, 3) := fp_dk fp_hdX11_read_51.2.1.2.1.2
theorem dX11_read_96 : decode cX11_read 96 = .ok (.aload_n 0, 1) := fp_dk fp_hdX11_read_51.2.1.2.2.1
theorem dX11_read_97 : decode cX11_read 97 = .ok (.iconst 2, 1) := fp_dk fp_hdX11_read_51.2.1.2.2.2
theorem dX11_read_98 : decode cX11_read 98 = .ok (.putfield 334, 3) := fp_dk fp_hdX11_read_51.2.2.1.1.1
theorem dX11_read_101 : decode cX11_read 101 = .ok (.iload 8, 2) := fp_dk fp_hdX11_read_51.2.2.1.1.2
theorem dX11_read_103 : decode cX11_read 103 = .ok (.ireturn, 1) := fp_dk fp_hdX11_read_51.2.2.1.2.1
theorem dX11_read_104 : decode cX11_read 104 = .ok (.aload_n 0, 1) := fp_dk fp_hdX11_read_51.2.2.1.2.2
theorem dX11_read_105 : decode cX11_read 105 = .ok (.aload 5, 2) := fp_dk fp_hdX11_read_51.2.2.2.1.1
theorem dX11_read_107 : decode cX11_read 107 = .ok (.iload_n 3, 1) := fp_dk fp_hdX11_read_51.2.2.2.1.2
theorem dX11_read_108 : decode cX11_read 108 = .ok (.iload 8, 2) := fp_dk fp_hdX11_read_51.2.2.2.2.1
theorem dX11_read_110 : decode cX11_read 110 = .ok (.iconst 4, 1) := fp_dk fp_hdX11_read_51.2.2.2.2.2
theorem fp_hdX11_read_111 : (((((fp_dq cX11_read 111 (.imul, 1) = true ∧ fp_dq cX11_read 112 (.iadd, 1) = true) ∧ (fp_dq cX11_read 113 (.invokevirtual 340, 3) = true ∧ fp_dq cX11_read 116 (.ifCond .ge 18, 3) = true)) ∧ ((fp_dq cX11_read 119 (.aload_n 0, 1) = true ∧ fp_dq cX11_read 120 (.getfield 37, 3) = true) ∧ (fp_dq cX11_read 123 (.iload 7, 2) = true ∧ fp_dq cX11_read 125 (.putfield 205, 3) = true))) ∧ (((fp_dq cX11_read 128 (.bipush (-20), 2) = true ∧ fp_dq cX11_read 130 (.iload 8, 2) = true) ∧ (fp_dq cX11_read 132 (.isub, 1) = true ∧ fp_dq cX11_read 133 (.ireturn, 1) = true)) ∧ ((fp_dq cX11_read 134 (.iinc 8 1, 3) = true ∧ fp_dq cX11_read 137 (.goto (-59), 3) = true) ∧ (fp_dq cX11_read 140 (.aload_n 0, 1) = true ∧ fp_dq cX11_read 141 (.iconst 0, 1) = true)))) ∧ ((((fp_dq cX11_read 142 (.putfield 334, 3) = true ∧ fp_dq cX11_read 145 (.iload 4, 2) = true) ∧ (fp_dq cX11_read 147 (.ireturn, 1) = true ∧ fp_dq cX11_torn 0 (.aload_n 0, 1) = true)) ∧ ((fp_dq cX11_torn 1 (.getfield 334, 3) = true ∧ fp_dq cX11_torn 4 (.ireturn, 1) = true) ∧ (fp_dq cX11_count 0 (.iload_n 1, 1) = true ∧ fp_dq cX11_count 1 (.tableswitch 126 0 6 #[43, 51, 59, 67, 75, 111, 116], 43) = true))) ∧ (((fp_dq cX11_count 44 (.aload_n 0, 1) = true ∧ fp_dq cX11_count 45 (.getfield 23, 3) = true) ∧ (fp_dq cX11_count 48 (.getfield 268, 3) = true ∧ fp_dq cX11_count 51 (.ireturn, 1) = true)) ∧ ((fp_dq cX11_count 52 (.aload_n 0, 1) = true ∧ fp_dq cX11_count 53 (.getfield 23, 3) = true) ∧ (fp_dq cX11_count 56 (.getfield 225, 3) = true ∧ fp_dq cX11_count 59 (.ireturn, 1) = true))))) := by decide +kernel
theorem dX11_read_111 : decode cX11_read 111 = .ok (.imul, 1) := fp_dk fp_hdX11_read_111.1.1.1.1.1
theorem dX11_read_112 : decode cX11_read 112 = .ok (.iadd, 1) := fp_dk fp_hdX11_read_111.1.1.1.1.2
theorem dX11_read_113 : decode cX11_read 113 = .ok (.invokevirtual 340, 3) := fp_dk fp_hdX11_read_111.1.1.1.2.1
theorem dX11_read_116 : decode cX11_read 116 = .ok (.ifCond .ge 18, 3) := fp_dk fp_hdX11_read_111.1.1.1.2.2
theorem dX11_read_119 : decode cX11_read 119 = .ok (.aload_n 0, 1) := fp_dk fp_hdX11_read_111.1.1.2.1.1
theorem dX11_read_120 : decode cX11_read 120 = .ok (.getfield 37, 3) := fp_dk fp_hdX11_read_111.1.1.2.1.2
theorem dX11_read_123 : decode cX11_read 123 = .ok (.iload 7, 2) := fp_dk fp_hdX11_read_111.1.1.2.2.1
theorem dX11_read_125 : decode cX11_read 125 = .ok (.putfield 205, 3) := fp_dk fp_hdX11_read_111.1.1.2.2.2
theorem dX11_read_128 : decode cX11_read 128 = .ok (.bipush (-20), 2) := fp_dk fp_hdX11_read_111.1.2.1.1.1
theorem dX11_read_130 : decode cX11_read 130 = .ok (.iload 8, 2) := fp_dk fp_hdX11_read_111.1.2.1.1.2
theorem dX11_read_132 : decode cX11_read 132 = .ok (.isub, 1) := fp_dk fp_hdX11_read_111.1.2.1.2.1
theorem dX11_read_133 : decode cX11_read 133 = .ok (.ireturn, 1) := fp_dk fp_hdX11_read_111.1.2.1.2.2
theorem dX11_read_134 : decode cX11_read 134 = .ok (.iinc 8 1, 3) := fp_dk fp_hdX11_read_111.1.2.2.1.1
theorem dX11_read_137 : decode cX11_read 137 = .ok (.goto (-59), 3) := fp_dk fp_hdX11_read_111.1.2.2.1.2
theorem dX11_read_140 : decode cX11_read 140 = .ok (.aload_n 0, 1) := fp_dk fp_hdX11_read_111.1.2.2.2.1
theorem dX11_read_141 : decode cX11_read 141 = .ok (.iconst 0, 1) := fp_dk fp_hdX11_read_111.1.2.2.2.2
theorem dX11_read_142 : decode cX11_read 142 = .ok (.putfield 334, 3) := fp_dk fp_hdX11_read_111.2.1.1.1.1
theorem dX11_read_145 : decode cX11_read 145 = .ok (.iload 4, 2) := fp_dk fp_hdX11_read_111.2.1.1.1.2
theorem dX11_read_147 : decode cX11_read 147 = .ok (.ireturn, 1) := fp_dk fp_hdX11_read_111.2.1.1.2.1
theorem dX11_torn_0 : decode cX11_torn 0 = .ok (.aload_n 0, 1) := fp_dk fp_hdX11_read_111.2.1.1.2.2
theorem dX11_torn_1 : decode cX11_torn 1 = .ok (.getfield 334, 3) := fp_dk fp_hdX11_read_111.2.1.2.1.1
theorem dX11_torn_4 : decode cX11_torn 4 = .ok (.ireturn, 1) := fp_dk fp_hdX11_read_111.2.1.2.1.2
theorem dX11_count_0 : decode cX11_count 0 = .ok (.iload_n 1, 1) := fp_dk fp_hdX11_read_111.2.1.2.2.1
theorem dX11_count_1 : decode cX11_count 1 = .ok (.tableswitch 126 0 6 #[43, 51, 59, 67, 75, 111, 116], 43) := fp_dk fp_hdX11_read_111.2.1.2.2.2
theorem dX11_count_44 : decode cX11_count 44 = .ok (.aload_n 0, 1) := fp_dk fp_hdX11_read_111.2.2.1.1.1
theorem dX11_count_45 : decode cX11_count 45 = .ok (.getfield 23, 3) := fp_dk fp_hdX11_read_111.2.2.1.1.2
theorem dX11_count_48 : decode cX11_count 48 = .ok (.getfield 268, 3) := fp_dk fp_hdX11_read_111.2.2.1.2.1
theorem dX11_count_51 : decode cX11_count 51 = .ok (.ireturn, 1) := fp_dk fp_hdX11_read_111.2.2.1.2.2
theorem dX11_count_52 : decode cX11_count 52 = .ok (.aload_n 0, 1) := fp_dk fp_hdX11_read_111.2.2.2.1.1
theorem dX11_count_53 : decode cX11_count 53 = .ok (.getfield 23, 3) := fp_dk fp_hdX11_read_111.2.2.2.1.2
theorem dX11_count_56 : decode cX11_count 56 = .ok (.getfield 225, 3) := fp_dk fp_hdX11_read_111.2.2.2.2.1
theorem dX11_count_59 : decode cX11_count 59 = .ok (.ireturn, 1) := fp_dk fp_hdX11_read_111.2.2.2.2.2
theorem fp_hdX11_count_60 : (((((fp_dq cX11_count 60 (.aload_n 0, 1) = true ∧ fp_dq cX11_count 61 (.getfield 37, 3) = true) ∧ (fp_dq cX11_count 64 (.getfield 205, 3) = true ∧ fp_dq cX11_count 67 (.ireturn, 1) = true)) ∧ ((fp_dq cX11_count 68 (.aload_n 0, 1) = true ∧ fp_dq cX11_count 69 (.getfield 44, 3) = true) ∧ (fp_dq cX11_count 72 (.getfield 119, 3) = true ∧ fp_dq cX11_count 75 (.ireturn, 1) = true))) ∧ (((fp_dq cX11_count 76 (.aload_n 0, 1) = true ∧ fp_dq cX11_count 77 (.getfield 78, 3) = true) ∧ (fp_dq cX11_count 80 (.iconst 0, 1) = true ∧ fp_dq cX11_count 81 (.aaload, 1) = true)) ∧ ((fp_dq cX11_count 82 (.getfield 122, 3) = true ∧ fp_dq cX11_count 85 (.ifCond .eq 7, 3) = true) ∧ (fp_dq cX11_count 88 (.iconst 1, 1) = true ∧ fp_dq cX11_count 89 (.goto 4, 3) = true)))) ∧ ((((fp_dq cX11_count 92 (.iconst 0, 1) = true ∧ fp_dq cX11_count 93 (.aload_n 0, 1) = true) ∧ (fp_dq cX11_count 94 (.getfield 78, 3) = true ∧ fp_dq cX11_count 97 (.iconst 1, 1) = true)) ∧ ((fp_dq cX11_count 98 (.aaload, 1) = true ∧ fp_dq cX11_count 99 (.getfield 122, 3) = true) ∧ (fp_dq cX11_count 102 (.ifCond .eq 7, 3) = true ∧ fp_dq cX11_count 105 (.iconst 1, 1) = true))) ∧ (((fp_dq cX11_count 106 (.goto 4, 3) = true ∧ fp_dq cX11_count 109 (.iconst 0, 1) = true) ∧ (fp_dq cX11_count 110 (.iadd, 1) = true ∧ fp_dq cX11_count 111 (.ireturn, 1) = true)) ∧ ((fp_dq cX11_count 112 (.aload_n 0, 1) = true ∧ fp_dq cX11_count 113 (.getfield 90, 3) = true) ∧ (fp_dq cX11_count 116 (.ireturn, 1) = true ∧ fp_dq cX11_count 117 (.aload_n 0, 1) = true))))) := by decide +kernel
theorem dX11_count_60 : decode cX11_count 60 = .ok (.aload_n 0, 1) := fp_dk fp_hdX11_count_60.1.1.1.1.1
theorem dX11_count_61 : decode cX11_count 61 = .ok (.getfield 37, 3) := fp_dk fp_hdX11_count_60.1.1.1.1.2
theorem dX11_count_64 : decode cX11_count 64 = .ok (.getfield 205, 3) := fp_dk fp_hdX11_count_60.1.1.1.2.1
theorem dX11_count_67 : decode cX11_count 67 = .ok (.ireturn, 1) := fp_dk fp_hdX11_count_60.1.1.1.2.2
theorem dX11_count_68 : decode cX11_count 68 = .ok (.aload_n 0, 1) := fp_dk fp_hdX11_count_60.1.1.2.1.1
theorem dX11_count_69 : decode cX11_count 69 = .ok (.getfield 44, 3) := fp_dk fp_hdX11_count_60.1.1.2.1.2
theorem dX11_count_72 : decode cX11_count 72 = .ok (.getfield 119, 3) := fp_dk fp_hdX11_count_60.1.1.2.2.1
theorem dX11_count_75 : decode cX11_count 75 = .ok (.ireturn, 1) := fp_dk fp_hdX11_count_60.1.1.2.2.2
theorem dX11_count_76 : decode cX11_count 76 = .ok (.aload_n 0, 1) := fp_dk fp_hdX11_count_60.1.2.1.1.1
theorem dX11_count_77 : decode cX11_count 77 = .ok (.getfield 78, 3) := fp_dk fp_hdX11_count_60.1.2.1.1.2
theorem dX11_count_80 : decode cX11_count 80 = .ok (.iconst 0, 1) := fp_dk fp_hdX11_count_60.1.2.1.2.1
theorem dX11_count_81 : decode cX11_count 81 = .ok (.aaload, 1) := fp_dk fp_hdX11_count_60.1.2.1.2.2
theorem dX11_count_82 : decode cX11_count 82 = .ok (.getfield 122, 3) := fp_dk fp_hdX11_count_60.1.2.2.1.1
theorem dX11_count_85 : decode cX11_count 85 = .ok (.ifCond .eq 7, 3) := fp_dk fp_hdX11_count_60.1.2.2.1.2
theorem dX11_count_88 : decode cX11_count 88 = .ok (.iconst 1, 1) := fp_dk fp_hdX11_count_60.1.2.2.2.1
theorem dX11_count_89 : decode cX11_count 89 = .ok (.goto 4, 3) := fp_dk fp_hdX11_count_60.1.2.2.2.2
theorem dX11_count_92 : decode cX11_count 92 = .ok (.iconst 0, 1) := fp_dk fp_hdX11_count_60.2.1.1.1.1
theorem dX11_count_93 : decode cX11_count 93 = .ok (.aload_n 0, 1) := fp_dk fp_hdX11_count_60.2.1.1.1.2
theorem dX11_count_94 : decode cX11_count 94 = .ok (.getfield 78, 3) := fp_dk fp_hdX11_count_60.2.1.1.2.1
theorem dX11_count_97 : decode cX11_count 97 = .ok (.iconst 1, 1) := fp_dk fp_hdX11_count_60.2.1.1.2.2
theorem dX11_count_98 : decode cX11_count 98 = .ok (.aaload, 1) := fp_dk fp_hdX11_count_60.2.1.2.1.1
theorem dX11_count_99 : decode cX11_count 99 = .ok (.getfield 122, 3) := fp_dk fp_hdX11_count_60.2.1.2.1.2
theorem dX11_count_102 : decode cX11_count 102 = .ok (.ifCond .eq 7, 3) := fp_dk fp_hdX11_count_60.2.1.2.2.1
theorem dX11_count_105 : decode cX11_count 105 = .ok (.iconst 1, 1) := fp_dk fp_hdX11_count_60.2.1.2.2.2
theorem dX11_count_106 : decode cX11_count 106 = .ok (.goto 4, 3) := fp_dk fp_hdX11_count_60.2.2.1.1.1
theorem dX11_count_109 : decode cX11_count 109 = .ok (.iconst 0, 1) := fp_dk fp_hdX11_count_60.2.2.1.1.2
theorem dX11_count_110 : decode cX11_count 110 = .ok (.iadd, 1) := fp_dk fp_hdX11_count_60.2.2.1.2.1
theorem dX11_count_111 : decode cX11_count 111 = .ok (.ireturn, 1) := fp_dk fp_hdX11_count_60.2.2.1.2.2
theorem dX11_count_112 : decode cX11_count 112 = .ok (.aload_n 0, 1) := fp_dk fp_hdX11_count_60.2.2.2.1.1
theorem dX11_count_113 : decode cX11_count 113 = .ok (.getfield 90, 3) := fp_dk fp_hdX11_count_60.2.2.2.1.2
theorem dX11_count_116 : decode cX11_count 116 = .ok (.ireturn, 1) := fp_dk fp_hdX11_count_60.2.2.2.2.1
theorem dX11_count_117 : decode cX11_count 117 = .ok (.aload_n 0, 1) := fp_dk fp_hdX11_count_60.2.2.2.2.2
theorem fp_hdX11_count_118 : (((((fp_dq cX11_count 118 (.getfield 84, 3) = true ∧ fp_dq cX11_count 121 (.iconst 0, 1) = true) ∧ (fp_dq cX11_count 122 (.aaload, 1) = true ∧ fp_dq cX11_count 123 (.getfield 344, 3) = true)) ∧ ((fp_dq cX11_count 126 (.ireturn, 1) = true ∧ fp_dq cX11_count 127 (.iconst (-1), 1) = true) ∧ (fp_dq cX11_count 128 (.ireturn, 1) = true ∧ fp_dq cX11_isOne 0 (.iload_n 0, 1) = true))) ∧ (((fp_dq cX11_isOne 1 (.ifCond .lt 12, 3) = true ∧ fp_dq cX11_isOne 4 (.iload_n 0, 1) = true) ∧ (fp_dq cX11_isOne 5 (.iconst 4, 1) = true ∧ fp_dq cX11_isOne 6 (.if_icmp .ge 7, 3) = true)) ∧ ((fp_dq cX11_isOne 9 (.iconst 1, 1) = true ∧ fp_dq cX11_isOne 10 (.goto 4, 3) = true) ∧ (fp_dq cX11_isOne 13 (.iconst 0, 1) = true ∧ fp_dq cX11_isOne 14 (.ireturn, 1) = true)))) ∧ ((((fp_dq cX11_isWithin 0 (.iload_n 0, 1) = true ∧ fp_dq cX11_isWithin 1 (.ifCond .lt 12, 3) = true) ∧ (fp_dq cX11_isWithin 4 (.iload_n 0, 1) = true ∧ fp_dq cX11_isWithin 5 (.iload_n 1, 1) = true)) ∧ ((fp_dq cX11_isWithin 6 (.if_icmp .gt 7, 3) = true ∧ fp_dq cX11_isWithin 9 (.iconst 1, 1) = true) ∧ (fp_dq cX11_isWithin 10 (.goto 4, 3) = true ∧ fp_dq cX11_isWithin 13 (.iconst 0, 1) = true))) ∧ (((fp_dq cX11_isWithin 14 (.ireturn, 1) = true ∧ fp_dq cX11_tellVisit 0 (.iload_n 1, 1) = true) ∧ (fp_dq cX11_tellVisit 1 (.bipush 99, 2) = true ∧ fp_dq cX11_tellVisit 3 (.invokestatic 221, 3) = true)) ∧ ((fp_dq cX11_tellVisit 6 (.ifCond .eq 40, 3) = true ∧ fp_dq cX11_tellVisit 9 (.iload_n 2, 1) = true) ∧ (fp_dq cX11_tellVisit 10 (.invokestatic 181, 3) = true ∧ fp_dq cX11_tellVisit 13 (.ifCond .eq 33, 3) = true))))) := by decide +kernel
theorem dX11_count_118 : decode cX11_count 118 = .ok (.getfield 84, 3) := fp_dk fp_hdX11_count_118.1.1.1.1.1
theorem dX11_count_121 : decode cX11_count 121 = .ok (.iconst 0, 1) := fp_dk fp_hdX11_count_118.1.1.1.1.2
theorem dX11_count_122 : decode cX11_count 122 = .ok (.aaload, 1) := fp_dk fp_hdX11_count_118.1.1.1.2.1
theorem dX11_count_123 : decode cX11_count 123 = .ok (.getfield 344, 3) := fp_dk fp_hdX11_count_118.1.1.1.2.2
theorem dX11_count_126 : decode cX11_count 126 = .ok (.ireturn, 1) := fp_dk fp_hdX11_count_118.1.1.2.1.1
theorem dX11_count_127 : decode cX11_count 127 = .ok (.iconst (-1), 1) := fp_dk fp_hdX11_count_118.1.1.2.1.2
theorem dX11_count_128 : decode cX11_count 128 = .ok (.ireturn, 1) := fp_dk fp_hdX11_count_118.1.1.2.2.1
theorem dX11_isOne_0 : decode cX11_isOne 0 = .ok (.iload_n 0, 1) := fp_dk fp_hdX11_count_118.1.1.2.2.2
theorem dX11_isOne_1 : decode cX11_isOne 1 = .ok (.ifCond .lt 12, 3) := fp_dk fp_hdX11_count_118.1.2.1.1.1
theorem dX11_isOne_4 : decode cX11_isOne 4 = .ok (.iload_n 0, 1) := fp_dk fp_hdX11_count_118.1.2.1.1.2
theorem dX11_isOne_5 : decode cX11_isOne 5 = .ok (.iconst 4, 1) := fp_dk fp_hdX11_count_118.1.2.1.2.1
theorem dX11_isOne_6 : decode cX11_isOne 6 = .ok (.if_icmp .ge 7, 3) := fp_dk fp_hdX11_count_118.1.2.1.2.2
theorem dX11_isOne_9 : decode cX11_isOne 9 = .ok (.iconst 1, 1) := fp_dk fp_hdX11_count_118.1.2.2.1.1
theorem dX11_isOne_10 : decode cX11_isOne 10 = .ok (.goto 4, 3) := fp_dk fp_hdX11_count_118.1.2.2.1.2
theorem dX11_isOne_13 : decode cX11_isOne 13 = .ok (.iconst 0, 1) := fp_dk fp_hdX11_count_118.1.2.2.2.1
theorem dX11_isOne_14 : decode cX11_isOne 14 = .ok (.ireturn, 1) := fp_dk fp_hdX11_count_118.1.2.2.2.2
theorem dX11_isWithin_0 : decode cX11_isWithin 0 = .ok (.iload_n 0, 1) := fp_dk fp_hdX11_count_118.2.1.1.1.1
theorem dX11_isWithin_1 : decode cX11_isWithin 1 = .ok (.ifCond .lt 12, 3) := fp_dk fp_hdX11_count_118.2.1.1.1.2
theorem dX11_isWithin_4 : decode cX11_isWithin 4 = .ok (.iload_n 0, 1) := fp_dk fp_hdX11_count_118.2.1.1.2.1
theorem dX11_isWithin_5 : decode cX11_isWithin 5 = .ok (.iload_n 1, 1) := fp_dk fp_hdX11_count_118.2.1.1.2.2
theorem dX11_isWithin_6 : decode cX11_isWithin 6 = .ok (.if_icmp .gt 7, 3) := fp_dk fp_hdX11_count_118.2.1.2.1.1
theorem dX11_isWithin_9 : decode cX11_isWithin 9 = .ok (.iconst 1, 1) := fp_dk fp_hdX11_count_118.2.1.2.1.2
theorem dX11_isWithin_10 : decode cX11_isWithin 10 = .ok (.goto 4, 3) := fp_dk fp_hdX11_count_118.2.1.2.2.1
theorem dX11_isWithin_13 : decode cX11_isWithin 13 = .ok (.iconst 0, 1) := fp_dk fp_hdX11_count_118.2.1.2.2.2
theorem dX11_isWithin_14 : decode cX11_isWithin 14 = .ok (.ireturn, 1) := fp_dk fp_hdX11_count_118.2.2.1.1.1
theorem dX11_tellVisit_0 : decode cX11_tellVisit 0 = .ok (.iload_n 1, 1) := fp_dk fp_hdX11_count_118.2.2.1.1.2
theorem dX11_tellVisit_1 : decode cX11_tellVisit 1 = .ok (.bipush 99, 2) := fp_dk fp_hdX11_count_118.2.2.1.2.1
theorem dX11_tellVisit_3 : decode cX11_tellVisit 3 = .ok (.invokestatic 221, 3) := fp_dk fp_hdX11_count_118.2.2.1.2.2
theorem dX11_tellVisit_6 : decode cX11_tellVisit 6 = .ok (.ifCond .eq 40, 3) := fp_dk fp_hdX11_count_118.2.2.2.1.1
theorem dX11_tellVisit_9 : decode cX11_tellVisit 9 = .ok (.iload_n 2, 1) := fp_dk fp_hdX11_count_118.2.2.2.1.2
theorem dX11_tellVisit_10 : decode cX11_tellVisit 10 = .ok (.invokestatic 181, 3) := fp_dk fp_hdX11_count_118.2.2.2.2.1
theorem dX11_tellVisit_13 : decode cX11_tellVisit 13 = .ok (.ifCond .eq 33, 3) := fp_dk fp_hdX11_count_118.2.2.2.2.2
theorem fp_hdX11_tellVisit_16 : (((((fp_dq cX11_tellVisit 16 (.aload_n 0, 1) = true ∧ fp_dq cX11_tellVisit 17 (.getfield 23, 3) = true) ∧ (fp_dq cX11_tellVisit 20 (.iload_n 3, 1) = true ∧ fp_dq cX11_tellVisit 21 (.invokevirtual 148, 3) = true)) ∧ ((fp_dq cX11_tellVisit 24 (.ifCond .eq 22, 3) = true ∧ fp_dq cX11_tellVisit 27 (.iload 4, 2) = true) ∧ (fp_dq cX11_tellVisit 29 (.bipush (-4), 2) = true ∧ fp_dq cX11_tellVisit 31 (.if_icmp .eq 17, 3) = true))) ∧ (((fp_dq cX11_tellVisit 34 (.aload_n 0, 1) = true ∧ fp_dq cX11_tellVisit 35 (.getfield 23, 3) = true) ∧ (fp_dq cX11_tellVisit 38 (.iload 4, 2) = true ∧ fp_dq cX11_tellVisit 40 (.invokevirtual 126, 3) = true)) ∧ ((fp_dq cX11_tellVisit 43 (.ifCond .ne 5, 3) = true ∧ fp_dq cX11_tellVisit 46 (.iconst (-1), 1) = true) ∧ (fp_dq cX11_tellVisit 47 (.ireturn, 1) = true ∧ fp_dq cX11_tellVisit 48 (.iload_n 1, 1) = true)))) ∧ ((((fp_dq cX11_tellVisit 49 (.aload_n 0, 1) = true ∧ fp_dq cX11_tellVisit 50 (.getfield 37, 3) = true) ∧ (fp_dq cX11_tellVisit 53 (.invokevirtual 345, 3) = true ∧ fp_dq cX11_tellVisit 56 (.if_icmp .ge 5, 3) = true)) ∧ ((fp_dq cX11_tellVisit 59 (.iconst (-1), 1) = true ∧ fp_dq cX11_tellVisit 60 (.ireturn, 1) = true) ∧ (fp_dq cX11_tellVisit 61 (.aload_n 0, 1) = true ∧ fp_dq cX11_tellVisit 62 (.getfield 37, 3) = true))) ∧ (((fp_dq cX11_tellVisit 65 (.iload_n 1, 1) = true ∧ fp_dq cX11_tellVisit 66 (.iload_n 2, 1) = true) ∧ (fp_dq cX11_tellVisit 67 (.iload_n 3, 1) = true ∧ fp_dq cX11_tellVisit 68 (.iload 4, 2) = true)) ∧ ((fp_dq cX11_tellVisit 70 (.invokevirtual 349, 3) = true ∧ fp_dq cX11_tellVisit 73 (.ifCond .eq 13, 3) = true) ∧ (fp_dq cX11_tellVisit 76 (.aload_n 0, 1) = true ∧ fp_dq cX11_tellVisit 77 (.getfield 37, 3) = true))))) := by decide +kernel
theorem dX11_tellVisit_16 : decode cX11_tellVisit 16 = .ok (.aload_n 0, 1) := fp_dk fp_hdX11_tellVisit_16.1.1.1.1.1
theorem dX11_tellVisit_17 : decode cX11_tellVisit 17 = .ok (.getfield 23, 3) := fp_dk fp_hdX11_tellVisit_16.1.1.1.1.2
theorem dX11_tellVisit_20 : decode cX11_tellVisit 20 = .ok (.iload_n 3, 1) := fp_dk fp_hdX11_tellVisit_16.1.1.1.2.1
theorem dX11_tellVisit_21 : decode cX11_tellVisit 21 = .ok (.invokevirtual 148, 3) := fp_dk fp_hdX11_tellVisit_16.1.1.1.2.2
theorem dX11_tellVisit_24 : decode cX11_tellVisit 24 = .ok (.ifCond .eq 22, 3) := fp_dk fp_hdX11_tellVisit_16.1.1.2.1.1
theorem dX11_tellVisit_27 : decode cX11_tellVisit 27 = .ok (.iload 4, 2) := fp_dk fp_hdX11_tellVisit_16.1.1.2.1.2
theorem dX11_tellVisit_29 : decode cX11_tellVisit 29 = .ok (.bipush (-4), 2) := fp_dk fp_hdX11_tellVisit_16.1.1.2.2.1
theorem dX11_tellVisit_31 : decode cX11_tellVisit 31 = .ok (.if_icmp .eq 17, 3) := fp_dk fp_hdX11_tellVisit_16.1.1.2.2.2
theorem dX11_tellVisit_34 : decode cX11_tellVisit 34 = .ok (.aload_n 0, 1) := fp_dk fp_hdX11_tellVisit_16.1.2.1.1.1
theorem dX11_tellVisit_35 : decode cX11_tellVisit 35 = .ok (.getfield 23, 3) := fp_dk fp_hdX11_tellVisit_16.1.2.1.1.2
theorem dX11_tellVisit_38 : decode cX11_tellVisit 38 = .ok (.iload 4, 2) := fp_dk fp_hdX11_tellVisit_16.1.2.1.2.1
theorem dX11_tellVisit_40 : decode cX11_tellVisit 40 = .ok (.invokevirtual 126, 3) := fp_dk fp_hdX11_tellVisit_16.1.2.1.2.2
theorem dX11_tellVisit_43 : decode cX11_tellVisit 43 = .ok (.ifCond .ne 5, 3) := fp_dk fp_hdX11_tellVisit_16.1.2.2.1.1
theorem dX11_tellVisit_46 : decode cX11_tellVisit 46 = .ok (.iconst (-1), 1) := fp_dk fp_hdX11_tellVisit_16.1.2.2.1.2
theorem dX11_tellVisit_47 : decode cX11_tellVisit 47 = .ok (.ireturn, 1) := fp_dk fp_hdX11_tellVisit_16.1.2.2.2.1
theorem dX11_tellVisit_48 : decode cX11_tellVisit 48 = .ok (.iload_n 1, 1) := fp_dk fp_hdX11_tellVisit_16.1.2.2.2.2
theorem dX11_tellVisit_49 : decode cX11_tellVisit 49 = .ok (.aload_n 0, 1) := fp_dk fp_hdX11_tellVisit_16.2.1.1.1.1
theorem dX11_tellVisit_50 : decode cX11_tellVisit 50 = .ok (.getfield 37, 3) := fp_dk fp_hdX11_tellVisit_16.2.1.1.1.2
theorem dX11_tellVisit_53 : decode cX11_tellVisit 53 = .ok (.invokevirtual 345, 3) := fp_dk fp_hdX11_tellVisit_16.2.1.1.2.1
theorem dX11_tellVisit_56 : decode cX11_tellVisit 56 = .ok (.if_icmp .ge 5, 3) := fp_dk fp_hdX11_tellVisit_16.2.1.1.2.2
theorem dX11_tellVisit_59 : decode cX11_tellVisit 59 = .ok (.iconst (-1), 1) := fp_dk fp_hdX11_tellVisit_16.2.1.2.1.1
theorem dX11_tellVisit_60 : decode cX11_tellVisit 60 = .ok (.ireturn, 1) := fp_dk fp_hdX11_tellVisit_16.2.1.2.1.2
theorem dX11_tellVisit_61 : decode cX11_tellVisit 61 = .ok (.aload_n 0, 1) := fp_dk fp_hdX11_tellVisit_16.2.1.2.2.1
theorem dX11_tellVisit_62 : decode cX11_tellVisit 62 = .ok (.getfield 37, 3) := fp_dk fp_hdX11_tellVisit_16.2.1.2.2.2
theorem dX11_tellVisit_65 : decode cX11_tellVisit 65 = .ok (.iload_n 1, 1) := fp_dk fp_hdX11_tellVisit_16.2.2.1.1.1
theorem dX11_tellVisit_66 : decode cX11_tellVisit 66 = .ok (.iload_n 2, 1) := fp_dk fp_hdX11_tellVisit_16.2.2.1.1.2
theorem dX11_tellVisit_67 : decode cX11_tellVisit 67 = .ok (.iload_n 3, 1) := fp_dk fp_hdX11_tellVisit_16.2.2.1.2.1
theorem dX11_tellVisit_68 : decode cX11_tellVisit 68 = .ok (.iload 4, 2) := fp_dk fp_hdX11_tellVisit_16.2.2.1.2.2
theorem dX11_tellVisit_70 : decode cX11_tellVisit 70 = .ok (.invokevirtual 349, 3) := fp_dk fp_hdX11_tellVisit_16.2.2.2.1.1
theorem dX11_tellVisit_73 : decode cX11_tellVisit 73 = .ok (.ifCond .eq 13, 3) := fp_dk fp_hdX11_tellVisit_16.2.2.2.1.2
theorem dX11_tellVisit_76 : decode cX11_tellVisit 76 = .ok (.aload_n 0, 1) := fp_dk fp_hdX11_tellVisit_16.2.2.2.2.1
theorem dX11_tellVisit_77 : decode cX11_tellVisit 77 = .ok (.getfield 37, 3) := fp_dk fp_hdX11_tellVisit_16.2.2.2.2.2
theorem fp_hdX11_tellVisit_80 : (((((fp_dq cX11_tellVisit 80 (.getfield 205, 3) = true ∧ fp_dq cX11_tellVisit 83 (.goto 5, 3) = true) ∧ (fp_dq cX11_tellVisit 86 (.bipush (-3), 2) = true ∧ fp_dq cX11_tellVisit 88 (.ireturn, 1) = true)) ∧ ((fp_dq cX11_tellVisitOf 0 (.aload_n 0, 1) = true ∧ fp_dq cX11_tellVisitOf 1 (.aload_n 1, 1) = true) ∧ (fp_dq cX11_tellVisitOf 2 (.getfield 352, 3) = true ∧ fp_dq cX11_tellVisitOf 5 (.iload_n 2, 1) = true))) ∧ (((fp_dq cX11_tellVisitOf 6 (.iaload, 1) = true ∧ fp_dq cX11_tellVisitOf 7 (.aload_n 1, 1) = true) ∧ (fp_dq cX11_tellVisitOf 8 (.getfield 352, 3) = true ∧ fp_dq cX11_tellVisitOf 11 (.iload_n 2, 1) = true)) ∧ ((fp_dq cX11_tellVisitOf 12 (.iconst 1, 1) = true ∧ fp_dq cX11_tellVisitOf 13 (.iadd, 1) = true) ∧ (fp_dq cX11_tellVisitOf 14 (.iaload, 1) = true ∧ fp_dq cX11_tellVisitOf 15 (.aload_n 1, 1) = true)))) ∧ ((((fp_dq cX11_tellVisitOf 16 (.getfield 352, 3) = true ∧ fp_dq cX11_tellVisitOf 19 (.iload_n 2, 1) = true) ∧ (fp_dq cX11_tellVisitOf 20 (.iconst 2, 1) = true ∧ fp_dq cX11_tellVisitOf 21 (.iadd, 1) = true)) ∧ ((fp_dq cX11_tellVisitOf 22 (.iaload, 1) = true ∧ fp_dq cX11_tellVisitOf 23 (.aload_n 1, 1) = true) ∧ (fp_dq cX11_tellVisitOf 24 (.getfield 352, 3) = true ∧ fp_dq cX11_tellVisitOf 27 (.iload_n 2, 1) = true))) ∧ (((fp_dq cX11_tellVisitOf 28 (.iconst 3, 1) = true ∧ fp_dq cX11_tellVisitOf 29 (.iadd, 1) = true) ∧ (fp_dq cX11_tellVisitOf 30 (.iaload, 1) = true ∧ fp_dq cX11_tellVisitOf 31 (.invokevirtual 201, 3) = true)) ∧ ((fp_dq cX11_tellVisitOf 34 (.ireturn, 1) = true ∧ fp_dq cX11_greatestDivisor 0 (.lload_n 0, 1) = true) ∧ (fp_dq cX11_greatestDivisor 1 (.lstore 4, 2) = true ∧ fp_dq cX11_greatestDivisor 3 (.lload_n 2, 1) = true))))) := by decide +kernel
theorem dX11_tellVisit_80 : decode cX11_tellVisit 80 = .ok (.getfield 205, 3) := fp_dk fp_hdX11_tellVisit_80.1.1.1.1.1
theorem dX11_tellVisit_83 : decode cX11_tellVisit 83 = .ok (.goto 5, 3) := fp_dk fp_hdX11_tellVisit_80.1.1.1.1.2
theorem dX11_tellVisit_86 : decode cX11_tellVisit 86 = .ok (.bipush (-3), 2) := fp_dk fp_hdX11_tellVisit_80.1.1.1.2.1
theorem dX11_tellVisit_88 : decode cX11_tellVisit 88 = .ok (.ireturn, 1) := fp_dk fp_hdX11_tellVisit_80.1.1.1.2.2
theorem dX11_tellVisitOf_0 : decode cX11_tellVisitOf 0 = .ok (.aload_n 0, 1) := fp_dk fp_hdX11_tellVisit_80.1.1.2.1.1
theorem dX11_tellVisitOf_1 : decode cX11_tellVisitOf 1 = .ok (.aload_n 1, 1) := fp_dk fp_hdX11_tellVisit_80.1.1.2.1.2
theorem dX11_tellVisitOf_2 : decode cX11_tellVisitOf 2 = .ok (.getfield 352, 3) := fp_dk fp_hdX11_tellVisit_80.1.1.2.2.1
theorem dX11_tellVisitOf_5 : decode cX11_tellVisitOf 5 = .ok (.iload_n 2, 1) := fp_dk fp_hdX11_tellVisit_80.1.1.2.2.2
theorem dX11_tellVisitOf_6 : decode cX11_tellVisitOf 6 = .ok (.iaload, 1) := fp_dk fp_hdX11_tellVisit_80.1.2.1.1.1
theorem dX11_tellVisitOf_7 : decode cX11_tellVisitOf 7 = .ok (.aload_n 1, 1) := fp_dk fp_hdX11_tellVisit_80.1.2.1.1.2
theorem dX11_tellVisitOf_8 : decode cX11_tellVisitOf 8 = .ok (.getfield 352, 3) := fp_dk fp_hdX11_tellVisit_80.1.2.1.2.1
theorem dX11_tellVisitOf_11 : decode cX11_tellVisitOf 11 = .ok (.iload_n 2, 1) := fp_dk fp_hdX11_tellVisit_80.1.2.1.2.2
theorem dX11_tellVisitOf_12 : decode cX11_tellVisitOf 12 = .ok (.iconst 1, 1) := fp_dk fp_hdX11_tellVisit_80.1.2.2.1.1
theorem dX11_tellVisitOf_13 : decode cX11_tellVisitOf 13 = .ok (.iadd, 1) := fp_dk fp_hdX11_tellVisit_80.1.2.2.1.2
theorem dX11_tellVisitOf_14 : decode cX11_tellVisitOf 14 = .ok (.iaload, 1) := fp_dk fp_hdX11_tellVisit_80.1.2.2.2.1
theorem dX11_tellVisitOf_15 : decode cX11_tellVisitOf 15 = .ok (.aload_n 1, 1) := fp_dk fp_hdX11_tellVisit_80.1.2.2.2.2
theorem dX11_tellVisitOf_16 : decode cX11_tellVisitOf 16 = .ok (.getfield 352, 3) := fp_dk fp_hdX11_tellVisit_80.2.1.1.1.1
theorem dX11_tellVisitOf_19 : decode cX11_tellVisitOf 19 = .ok (.iload_n 2, 1) := fp_dk fp_hdX11_tellVisit_80.2.1.1.1.2
theorem dX11_tellVisitOf_20 : decode cX11_tellVisitOf 20 = .ok (.iconst 2, 1) := fp_dk fp_hdX11_tellVisit_80.2.1.1.2.1
theorem dX11_tellVisitOf_21 : decode cX11_tellVisitOf 21 = .ok (.iadd, 1) := fp_dk fp_hdX11_tellVisit_80.2.1.1.2.2
theorem dX11_tellVisitOf_22 : decode cX11_tellVisitOf 22 = .ok (.iaload, 1) := fp_dk fp_hdX11_tellVisit_80.2.1.2.1.1
theorem dX11_tellVisitOf_23 : decode cX11_tellVisitOf 23 = .ok (.aload_n 1, 1) := fp_dk fp_hdX11_tellVisit_80.2.1.2.1.2
theorem dX11_tellVisitOf_24 : decode cX11_tellVisitOf 24 = .ok (.getfield 352, 3) := fp_dk fp_hdX11_tellVisit_80.2.1.2.2.1
theorem dX11_tellVisitOf_27 : decode cX11_tellVisitOf 27 = .ok (.iload_n 2, 1) := fp_dk fp_hdX11_tellVisit_80.2.1.2.2.2
theorem dX11_tellVisitOf_28 : decode cX11_tellVisitOf 28 = .ok (.iconst 3, 1) := fp_dk fp_hdX11_tellVisit_80.2.2.1.1.1
theorem dX11_tellVisitOf_29 : decode cX11_tellVisitOf 29 = .ok (.iadd, 1) := fp_dk fp_hdX11_tellVisit_80.2.2.1.1.2
theorem dX11_tellVisitOf_30 : decode cX11_tellVisitOf 30 = .ok (.iaload, 1) := fp_dk fp_hdX11_tellVisit_80.2.2.1.2.1
theorem dX11_tellVisitOf_31 : decode cX11_tellVisitOf 31 = .ok (.invokevirtual 201, 3) := fp_dk fp_hdX11_tellVisit_80.2.2.1.2.2
theorem dX11_tellVisitOf_34 : decode cX11_tellVisitOf 34 = .ok (.ireturn, 1) := fp_dk fp_hdX11_tellVisit_80.2.2.2.1.1
theorem dX11_greatestDivisor_0 : decode cX11_greatestDivisor 0 = .ok (.lload_n 0, 1) := fp_dk fp_hdX11_tellVisit_80.2.2.2.1.2
theorem dX11_greatestDivisor_1 : decode cX11_greatestDivisor 1 = .ok (.lstore 4, 2) := fp_dk fp_hdX11_tellVisit_80.2.2.2.2.1
theorem dX11_greatestDivisor_3 : decode cX11_greatestDivisor 3 = .ok (.lload_n 2, 1) := fp_dk fp_hdX11_tellVisit_80.2.2.2.2.2
theorem fp_hdX11_greatestDivisor_4 : (((((fp_dq cX11_greatestDivisor 4 (.lstore 6, 2) = true ∧ fp_dq cX11_greatestDivisor 6 (.iconst 0, 1) = true) ∧ (fp_dq cX11_greatestDivisor 7 (.istore 8, 2) = true ∧ fp_dq cX11_greatestDivisor 9 (.iload 8, 2) = true)) ∧ ((fp_dq cX11_greatestDivisor 11 (.bipush 100, 2) = true ∧ fp_dq cX11_greatestDivisor 13 (.if_icmp .ge 31, 3) = true) ∧ (fp_dq cX11_greatestDivisor 16 (.lload 6, 2) = true ∧ fp_dq cX11_greatestDivisor 18 (.lconst 0, 1) = true))) ∧ (((fp_dq cX11_greatestDivisor 19 (.lcmp, 1) = true ∧ fp_dq cX11_greatestDivisor 20 (.ifCond .le 24, 3) = true) ∧ (fp_dq cX11_greatestDivisor 23 (.lload 4, 2) = true ∧ fp_dq cX11_greatestDivisor 25 (.lload 6, 2) = true)) ∧ ((fp_dq cX11_greatestDivisor 27 (.lrem, 1) = true ∧ fp_dq cX11_greatestDivisor 28 (.lstore 9, 2) = true) ∧ (fp_dq cX11_greatestDivisor 30 (.lload 6, 2) = true ∧ fp_dq cX11_greatestDivisor 32 (.lstore 4, 2) = true)))) ∧ ((((fp_dq cX11_greatestDivisor 34 (.lload 9, 2) = true ∧ fp_dq cX11_greatestDivisor 36 (.lstore 6, 2) = true) ∧ (fp_dq cX11_greatestDivisor 38 (.iinc 8 1, 3) = true ∧ fp_dq cX11_greatestDivisor 41 (.goto (-32), 3) = true)) ∧ ((fp_dq cX11_greatestDivisor 44 (.lload 4, 2) = true ∧ fp_dq cX11_greatestDivisor 46 (.lreturn, 1) = true) ∧ (fp_dq cX11_givenSpot 0 (.iload_n 1, 1) = true ∧ fp_dq cX11_givenSpot 1 (.ifCond .ne 5, 3) = true))) ∧ (((fp_dq cX11_givenSpot 4 (.iconst 0, 1) = true ∧ fp_dq cX11_givenSpot 5 (.ireturn, 1) = true) ∧ (fp_dq cX11_givenSpot 6 (.iload_n 1, 1) = true ∧ fp_dq cX11_givenSpot 7 (.iconst 1, 1) = true)) ∧ ((fp_dq cX11_givenSpot 8 (.if_icmp .ne 8, 3) = true ∧ fp_dq cX11_givenSpot 11 (.iload 4, 2) = true) ∧ (fp_dq cX11_givenSpot 13 (.iconst 1, 1) = true ∧ fp_dq cX11_givenSpot 14 (.isub, 1) = true))))) := by decide +kernel
theorem dX11_greatestDivisor_4 : decode cX11_greatestDivisor 4 = .ok (.lstore 6, 2) := fp_dk fp_hdX11_greatestDivisor_4.1.1.1.1.1
theorem dX11_greatestDivisor_6 : decode cX11_greatestDivisor 6 = .ok (.iconst 0, 1) := fp_dk fp_hdX11_greatestDivisor_4.1.1.1.1.2
theorem dX11_greatestDivisor_7 : decode cX11_greatestDivisor 7 = .ok (.istore 8, 2) := fp_dk fp_hdX11_greatestDivisor_4.1.1.1.2.1
theorem dX11_greatestDivisor_9 : decode cX11_greatestDivisor 9 = .ok (.iload 8, 2) := fp_dk fp_hdX11_greatestDivisor_4.1.1.1.2.2
theorem dX11_greatestDivisor_11 : decode cX11_greatestDivisor 11 = .ok (.bipush 100, 2) := fp_dk fp_hdX11_greatestDivisor_4.1.1.2.1.1
theorem dX11_greatestDivisor_13 : decode cX11_greatestDivisor 13 = .ok (.if_icmp .ge 31, 3) := fp_dk fp_hdX11_greatestDivisor_4.1.1.2.1.2
theorem dX11_greatestDivisor_16 : decode cX11_greatestDivisor 16 = .ok (.lload 6, 2) := fp_dk fp_hdX11_greatestDivisor_4.1.1.2.2.1
theorem dX11_greatestDivisor_18 : decode cX11_greatestDivisor 18 = .ok (.lconst 0, 1) := fp_dk fp_hdX11_greatestDivisor_4.1.1.2.2.2
theorem dX11_greatestDivisor_19 : decode cX11_greatestDivisor 19 = .ok (.lcmp, 1) := fp_dk fp_hdX11_greatestDivisor_4.1.2.1.1.1
theorem dX11_greatestDivisor_20 : decode cX11_greatestDivisor 20 = .ok (.ifCond .le 24, 3) := fp_dk fp_hdX11_greatestDivisor_4.1.2.1.1.2
theorem dX11_greatestDivisor_23 : decode cX11_greatestDivisor 23 = .ok (.lload 4, 2) := fp_dk fp_hdX11_greatestDivisor_4.1.2.1.2.1
theorem dX11_greatestDivisor_25 : decode cX11_greatestDivisor 25 = .ok (.lload 6, 2) := fp_dk fp_hdX11_greatestDivisor_4.1.2.1.2.2
theorem dX11_greatestDivisor_27 : decode cX11_greatestDivisor 27 = .ok (.lrem, 1) := fp_dk fp_hdX11_greatestDivisor_4.1.2.2.1.1
theorem dX11_greatestDivisor_28 : decode cX11_greatestDivisor 28 = .ok (.lstore 9, 2) := fp_dk fp_hdX11_greatestDivisor_4.1.2.2.1.2
theorem dX11_greatestDivisor_30 : decode cX11_greatestDivisor 30 = .ok (.lload 6, 2) := fp_dk fp_hdX11_greatestDivisor_4.1.2.2.2.1
theorem dX11_greatestDivisor_32 : decode cX11_greatestDivisor 32 = .ok (.lstore 4, 2) := fp_dk fp_hdX11_greatestDivisor_4.1.2.2.2.2
theorem dX11_greatestDivisor_34 : decode cX11_greatestDivisor 34 = .ok (.lload 9, 2) := fp_dk fp_hdX11_greatestDivisor_4.2.1.1.1.1
theorem dX11_greatestDivisor_36 : decode cX11_greatestDivisor 36 = .ok (.lstore 6, 2) := fp_dk fp_hdX11_greatestDivisor_4.2.1.1.1.2
theorem dX11_greatestDivisor_38 : decode cX11_greatestDivisor 38 = .ok (.iinc 8 1, 3) := fp_dk fp_hdX11_greatestDivisor_4.2.1.1.2.1
theorem dX11_greatestDivisor_41 : decode cX11_greatestDivisor 41 = .ok (.goto (-32), 3) := fp_dk fp_hdX11_greatestDivisor_4.2.1.1.2.2
theorem dX11_greatestDivisor_44 : decode cX11_greatestDivisor 44 = .ok (.lload 4, 2) := fp_dk fp_hdX11_greatestDivisor_4.2.1.2.1.1
theorem dX11_greatestDivisor_46 : decode cX11_greatestDivisor 46 = .ok (.lreturn, 1) := fp_dk fp_hdX11_greatestDivisor_4.2.1.2.1.2
theorem dX11_givenSpot_0 : decode cX11_givenSpot 0 = .ok (.iload_n 1, 1) := fp_dk fp_hdX11_greatestDivisor_4.2.1.2.2.1
theorem dX11_givenSpot_1 : decode cX11_givenSpot 1 = .ok (.ifCond .ne 5, 3) := fp_dk fp_hdX11_greatestDivisor_4.2.1.2.2.2
theorem dX11_givenSpot_4 : decode cX11_givenSpot 4 = .ok (.iconst 0, 1) := fp_dk fp_hdX11_greatestDivisor_4.2.2.1.1.1
theorem dX11_givenSpot_5 : decode cX11_givenSpot 5 = .ok (.ireturn, 1) := fp_dk fp_hdX11_greatestDivisor_4.2.2.1.1.2
theorem dX11_givenSpot_6 : decode cX11_givenSpot 6 = .ok (.iload_n 1, 1) := fp_dk fp_hdX11_greatestDivisor_4.2.2.1.2.1
theorem dX11_givenSpot_7 : decode cX11_givenSpot 7 = .ok (.iconst 1, 1) := fp_dk fp_hdX11_greatestDivisor_4.2.2.1.2.2
theorem dX11_givenSpot_8 : decode cX11_givenSpot 8 = .ok (.if_icmp .ne 8, 3) := fp_dk fp_hdX11_greatestDivisor_4.2.2.2.1.1
theorem dX11_givenSpot_11 : decode cX11_givenSpot 11 = .ok (.iload 4, 2) := fp_dk fp_hdX11_greatestDivisor_4.2.2.2.1.2
theorem dX11_givenSpot_13 : decode cX11_givenSpot 13 = .ok (.iconst 1, 1) := fp_dk fp_hdX11_greatestDivisor_4.2.2.2.2.1
theorem dX11_givenSpot_14 : decode cX11_givenSpot 14 = .ok (.isub, 1) := fp_dk fp_hdX11_greatestDivisor_4.2.2.2.2.2
theorem fp_hdX11_givenSpot_15 : (((((fp_dq cX11_givenSpot 15 (.ireturn, 1) = true ∧ fp_dq cX11_givenSpot 16 (.iconst 0, 1) = true) ∧ (fp_dq cX11_givenSpot 17 (.istore 5, 2) = true ∧ fp_dq cX11_givenSpot 19 (.iconst 1, 1) = true)) ∧ ((fp_dq cX11_givenSpot 20 (.istore 6, 2) = true ∧ fp_dq cX11_givenSpot 22 (.iload 6, 2) = true) ∧ (fp_dq cX11_givenSpot 24 (.iload 4, 2) = true ∧ fp_dq cX11_givenSpot 26 (.if_icmp .ge 38, 3) = true))) ∧ (((fp_dq cX11_givenSpot 29 (.aload_n 0, 1) = true ∧ fp_dq cX11_givenSpot 30 (.getfield 134, 3) = true) ∧ (fp_dq cX11_givenSpot 33 (.aload_n 2, 1) = true ∧ fp_dq cX11_givenSpot 34 (.iload_n 3, 1) = true)) ∧ ((fp_dq cX11_givenSpot 35 (.iload 6, 2) = true ∧ fp_dq cX11_givenSpot 37 (.iadd, 1) = true) ∧ (fp_dq cX11_givenSpot 38 (.iaload, 1) = true ∧ fp_dq cX11_givenSpot 39 (.iaload, 1) = true)))) ∧ ((((fp_dq cX11_givenSpot 40 (.aload_n 0, 1) = true ∧ fp_dq cX11_givenSpot 41 (.getfield 134, 3) = true) ∧ (fp_dq cX11_givenSpot 44 (.aload_n 2, 1) = true ∧ fp_dq cX11_givenSpot 45 (.iload_n 3, 1) = true)) ∧ ((fp_dq cX11_givenSpot 46 (.iload 5, 2) = true ∧ fp_dq cX11_givenSpot 48 (.iadd, 1) = true) ∧ (fp_dq cX11_givenSpot 49 (.iaload, 1) = true ∧ fp_dq cX11_givenSpot 50 (.iaload, 1) = true))) ∧ (((fp_dq cX11_givenSpot 51 (.if_icmp .ge 7, 3) = true ∧ fp_dq cX11_givenSpot 54 (.iload 6, 2) = true) ∧ (fp_dq cX11_givenSpot 56 (.istore 5, 2) = true ∧ fp_dq cX11_givenSpot 58 (.iinc 6 1, 3) = true)) ∧ ((fp_dq cX11_givenSpot 61 (.goto (-39), 3) = true ∧ fp_dq cX11_givenSpot 64 (.iload 5, 2) = true) ∧ fp_dq cX11_givenSpot 66 (.ireturn, 1) = true)))) := by decide +kernel
theorem dX11_givenSpot_15 : decode cX11_givenSpot 15 = .ok (.ireturn, 1) := fp_dk fp_hdX11_givenSpot_15.1.1.1.1.1
theorem dX11_givenSpot_16 : decode cX11_givenSpot 16 = .ok (.iconst 0, 1) := fp_dk fp_hdX11_givenSpot_15.1.1.1.1.2
theorem dX11_givenSpot_17 : decode cX11_givenSpot 17 = .ok (.istore 5, 2) := fp_dk fp_hdX11_givenSpot_15.1.1.1.2.1
theorem dX11_givenSpot_19 : decode cX11_givenSpot 19 = .ok (.iconst 1, 1) := fp_dk fp_hdX11_givenSpot_15.1.1.1.2.2
theorem dX11_givenSpot_20 : decode cX11_givenSpot 20 = .ok (.istore 6, 2) := fp_dk fp_hdX11_givenSpot_15.1.1.2.1.1
theorem dX11_givenSpot_22 : decode cX11_givenSpot 22 = .ok (.iload 6, 2) := fp_dk fp_hdX11_givenSpot_15.1.1.2.1.2
theorem dX11_givenSpot_24 : decode cX11_givenSpot 24 = .ok (.iload 4, 2) := fp_dk fp_hdX11_givenSpot_15.1.1.2.2.1
theorem dX11_givenSpot_26 : decode cX11_givenSpot 26 = .ok (.if_icmp .ge 38, 3) := fp_dk fp_hdX11_givenSpot_15.1.1.2.2.2
theorem dX11_givenSpot_29 : decode cX11_givenSpot 29 = .ok (.aload_n 0, 1) := fp_dk fp_hdX11_givenSpot_15.1.2.1.1.1
theorem dX11_givenSpot_30 : decode cX11_givenSpot 30 = .ok (.getfield 134, 3) := fp_dk fp_hdX11_givenSpot_15.1.2.1.1.2
theorem dX11_givenSpot_33 : decode cX11_givenSpot 33 = .ok (.aload_n 2, 1) := fp_dk fp_hdX11_givenSpot_15.1.2.1.2.1
theorem dX11_givenSpot_34 : decode cX11_givenSpot 34 = .ok (.iload_n 3, 1) := fp_dk fp_hdX11_givenSpot_15.1.2.1.2.2
theorem dX11_givenSpot_35 : decode cX11_givenSpot 35 = .ok (.iload 6, 2) := fp_dk fp_hdX11_givenSpot_15.1.2.2.1.1
theorem dX11_givenSpot_37 : decode cX11_givenSpot 37 = .ok (.iadd, 1) := fp_dk fp_hdX11_givenSpot_15.1.2.2.1.2
theorem dX11_givenSpot_38 : decode cX11_givenSpot 38 = .ok (.iaload, 1) := fp_dk fp_hdX11_givenSpot_15.1.2.2.2.1
theorem dX11_givenSpot_39 : decode cX11_givenSpot 39 = .ok (.iaload, 1) := fp_dk fp_hdX11_givenSpot_15.1.2.2.2.2
theorem dX11_givenSpot_40 : decode cX11_givenSpot 40 = .ok (.aload_n 0, 1) := fp_dk fp_hdX11_givenSpot_15.2.1.1.1.1
theorem dX11_givenSpot_41 : decode cX11_givenSpot 41 = .ok (.getfield 134, 3) := fp_dk fp_hdX11_givenSpot_15.2.1.1.1.2
theorem dX11_givenSpot_44 : decode cX11_givenSpot 44 = .ok (.aload_n 2, 1) := fp_dk fp_hdX11_givenSpot_15.2.1.1.2.1
theorem dX11_givenSpot_45 : decode cX11_givenSpot 45 = .ok (.iload_n 3, 1) := fp_dk fp_hdX11_givenSpot_15.2.1.1.2.2
theorem dX11_givenSpot_46 : decode cX11_givenSpot 46 = .ok (.iload 5, 2) := fp_dk fp_hdX11_givenSpot_15.2.1.2.1.1
theorem dX11_givenSpot_48 : decode cX11_givenSpot 48 = .ok (.iadd, 1) := fp_dk fp_hdX11_givenSpot_15.2.1.2.1.2
theorem dX11_givenSpot_49 : decode cX11_givenSpot 49 = .ok (.iaload, 1) := fp_dk fp_hdX11_givenSpot_15.2.1.2.2.1
theorem dX11_givenSpot_50 : decode cX11_givenSpot 50 = .ok (.iaload, 1) := fp_dk fp_hdX11_givenSpot_15.2.1.2.2.2
theorem dX11_givenSpot_51 : decode cX11_givenSpot 51 = .ok (.if_icmp .ge 7, 3) := fp_dk fp_hdX11_givenSpot_15.2.2.1.1.1
theorem dX11_givenSpot_54 : decode cX11_givenSpot 54 = .ok (.iload 6, 2) := fp_dk fp_hdX11_givenSpot_15.2.2.1.1.2
theorem dX11_givenSpot_56 : decode cX11_givenSpot 56 = .ok (.istore 5, 2) := fp_dk fp_hdX11_givenSpot_15.2.2.1.2.1
theorem dX11_givenSpot_58 : decode cX11_givenSpot 58 = .ok (.iinc 6 1, 3) := fp_dk fp_hdX11_givenSpot_15.2.2.1.2.2
theorem dX11_givenSpot_61 : decode cX11_givenSpot 61 = .ok (.goto (-39), 3) := fp_dk fp_hdX11_givenSpot_15.2.2.2.1.1
theorem dX11_givenSpot_64 : decode cX11_givenSpot 64 = .ok (.iload 5, 2) := fp_dk fp_hdX11_givenSpot_15.2.2.2.1.2
theorem dX11_givenSpot_66 : decode cX11_givenSpot 66 = .ok (.ireturn, 1) := fp_dk fp_hdX11_givenSpot_15.2.2.2.2
