def fp_scX11_init_2 : List Nat := 42 :: 180 :: 0 :: 78 :: 27 :: 187 :: 0 :: 76 :: 89 :: 183 :: 0 :: 88 :: 83 :: 132 :: 1 :: 1 :: 167 :: 255 :: 235 :: 3 :: 60 :: 27 :: 7 :: 162 :: 0 :: 22 :: 42 :: 180 :: 0 :: 84 :: 27 :: 187 :: 0 :: 82 :: 89 :: 183 :: 0 :: 89 :: 83 :: 132 :: 1 :: 1 :: 167 :: 255 :: 235 :: 177 :: []
def fp_scX11_init_1 : List Nat := 187 :: 0 :: 48 :: 89 :: 183 :: 0 :: 50 :: 181 :: 0 :: 51 :: 42 :: 187 :: 0 :: 55 :: 89 :: 183 :: 0 :: 57 :: 181 :: 0 :: 58 :: 42 :: 187 :: 0 :: 62 :: 89 :: 183 :: 0 :: 64 :: 181 :: 0 :: 65 :: 42 :: 187 :: 0 :: 69 :: 89 :: 183 :: 0 :: 71 :: 181 :: 0 :: 72 :: 42 :: 5 :: 189 :: 0 :: 76 :: 181 :: 0 :: 78 :: 42 :: 7 :: 189 :: 0 :: 82 :: 181 :: 0 :: 84 :: 3 :: 60 :: 27 :: 5 :: 162 :: 0 :: 22 :: fp_scX11_init_2
def fp_scX11_init_0 : List Nat := 42 :: 183 :: 0 :: 1 :: 42 :: 17 :: 1 :: 224 :: 188 :: 8 :: 181 :: 0 :: 9 :: 42 :: 187 :: 0 :: 13 :: 89 :: 183 :: 0 :: 15 :: 181 :: 0 :: 16 :: 42 :: 187 :: 0 :: 20 :: 89 :: 183 :: 0 :: 22 :: 181 :: 0 :: 23 :: 42 :: 187 :: 0 :: 27 :: 89 :: 183 :: 0 :: 29 :: 181 :: 0 :: 30 :: 42 :: 187 :: 0 :: 34 :: 89 :: 183 :: 0 :: 36 :: 181 :: 0 :: 37 :: 42 :: 187 :: 0 :: 41 :: 89 :: 183 :: 0 :: 43 :: 181 :: 0 :: 44 :: 42 :: fp_scX11_init_1
theorem fp_bcX11_init : bA cX11_init 0 fp_scX11_init_0 := show cX11_init.data.toList.map UInt8.toNat = fp_scX11_init_0 from by decide +kernel
theorem fp_hdX11_init_0 : (((((decode cX11_init 0 = .ok (.aload_n 0, 1) ∧ decode cX11_init 1 = .ok (.invokespecial 1, 3)) ∧ (decode cX11_init 4 = .ok (.aload_n 0, 1) ∧ decode cX11_init 5 = .ok (.sipush 480, 3))) ∧ ((decode cX11_init 8 = .ok (.newarray .byte, 2) ∧ decode cX11_init 10 = .ok (.putfield 9, 3)) ∧ (decode cX11_init 13 = .ok (.aload_n 0, 1) ∧ decode cX11_init 14 = .ok (.new 13, 3)))) ∧ (((decode cX11_init 17 = .ok (.dup, 1) ∧ decode cX11_init 18 = .ok (.invokespecial 15, 3)) ∧ (decode cX11_init 21 = .ok (.putfield 16, 3) ∧ decode cX11_init 24 = .ok (.aload_n 0, 1))) ∧ ((decode cX11_init 25 = .ok (.new 20, 3) ∧ decode cX11_init 28 = .ok (.dup, 1)) ∧ (decode cX11_init 29 = .ok (.invokespecial 22, 3) ∧ decode cX11_init 32 = .ok (.putfield 23, 3))))) ∧ ((((decode cX11_init 35 = .ok (.aload_n 0, 1) ∧ decode cX11_init 36 = .ok (.new 27, 3)) ∧ (decode cX11_init 39 = .ok (.dup, 1) ∧ decode cX11_init 40 = .ok (.invokespecial 29, 3))) ∧ ((decode cX11_init 43 = .ok (.putfield 30, 3) ∧ decode cX11_init 46 = .ok (.aload_n 0, 1)) ∧ (decode cX11_init 47 = .ok (.new 34, 3) ∧ decode cX11_init 50 = .ok (.dup, 1)))) ∧ (((decode cX11_init 51 = .ok (.invokespecial 36, 3) ∧ decode cX11_init 54 = .ok (.putfield 37, 3)) ∧ (decode cX11_init 57 = .ok (.aload_n 0, 1) ∧ decode cX11_init 58 = .ok (.new 41, 3))) ∧ ((decode cX11_init 61 = .ok (.dup, 1) ∧ decode cX11_init 62 = .ok (.invokespecial 43, 3)) ∧ (decode cX11_init 65 = .ok (.putfield 44, 3) ∧ decode cX11_init 68 = .ok (.aload_n 0, 1)))))) ∧ bA cX11_init 69 fp_scX11_init_1 :=
  have q0 := fp_o42 fp_bcX11_init
  have q1 := fp_o183 (v := 1) q0.2 rfl
  have q2 := fp_o42 q1.2
  have q3 := fp_o17 (v := 480) q2.2 rfl
  have q4 := fp_o188_8 q3.2
  have q5 := fp_o181 (v := 9) q4.2 rfl
  have q6 := fp_o42 q5.2
  have q7 := fp_o187 (v := 13) q6.2 rfl
  have q8 := fp_o89 q7.2
  have q9 := fp_o183 (v := 15) q8.2 rfl
  have q10 := fp_o181 (v := 16) q9.2 rfl
  have q11 := fp_o42 q10.2
  have q12 := fp_o187 (v := 20) q11.2 rfl
  have q13 := fp_o89 q12.2
  have q14 := fp_o183 (v := 22) q13.2 rfl
  have q15 := fp_o181 (v := 23) q14.2 rfl
  have q16 := fp_o42 q15.2
  have q17 := fp_o187 (v := 27) q16.2 rfl
  have q18 := fp_o89 q17.2
  have q19 := fp_o183 (v := 29) q18.2 rfl
  have q20 := fp_o181 (v := 30) q19.2 rfl
  have q21 := fp_o42 q20.2
  have q22 := fp_o187 (v := 34) q21.2 rfl
  have q23 := fp_o89 q22.2
  have q24 := fp_o183 (v := 36) q23.2 rfl
  have q25 := fp_o181 (v := 37) q24.2 rfl
  have q26 := fp_o42 q25.2
  have q27 := fp_o187 (v := 41) q26.2 rfl
  have q28 := fp_o89 q27.2
  have q29 := fp_o183 (v := 43) q28.2 rfl
  have q30 := fp_o181 (v := 44) q29.2 rfl
  have q31 := fp_o42 q30.2
  ⟨⟨⟨⟨⟨⟨q0.1, q1.1⟩, ⟨q2.1, q3.1⟩⟩, ⟨⟨q4.1, q5.1⟩, ⟨q6.1, q7.1⟩⟩⟩, ⟨⟨⟨q8.1, q9.1⟩, ⟨q10.1, q11.1⟩⟩, ⟨⟨q12.1, q13.1⟩, ⟨q14.1, q15.1⟩⟩⟩⟩, ⟨⟨⟨⟨q16.1, q17.1⟩, ⟨q18.1, q19.1⟩⟩, ⟨⟨q20.1, q21.1⟩, ⟨q22.1, q23.1⟩⟩⟩, ⟨⟨⟨q24.1, q25.1⟩, ⟨q26.1, q27.1⟩⟩, ⟨⟨q28.1, q29.1⟩, ⟨q30.1, q31.1⟩⟩⟩⟩⟩, q31.2⟩
theorem dX11_init_0 : decode cX11_init 0 = .ok (.aload_n 0, 1) := fp_hdX11_init_0.1.1.1.1.1.1
theorem dX11_init_1 : decode cX11_init 1 = .ok (.invokespecial 1, 3) := fp_hdX11_init_0.1.1.1.1.1.2
theorem dX11_init_4 : decode cX11_init 4 = .ok (.aload_n 0, 1) := fp_hdX11_init_0.1.1.1.1.2.1
theorem dX11_init_5 : decode cX11_init 5 = .ok (.sipush 480, 3) := fp_hdX11_init_0.1.1.1.1.2.2
theorem dX11_init_8 : decode cX11_init 8 = .ok (.newarray .byte, 2) := fp_hdX11_init_0.1.1.1.2.1.1
theorem dX11_init_10 : decode cX11_init 10 = .ok (.putfield 9, 3) := fp_hdX11_init_0.1.1.1.2.1.2
theorem dX11_init_13 : decode cX11_init 13 = .ok (.aload_n 0, 1) := fp_hdX11_init_0.1.1.1.2.2.1
theorem dX11_init_14 : decode cX11_init 14 = .ok (.new 13, 3) := fp_hdX11_init_0.1.1.1.2.2.2
theorem dX11_init_17 : decode cX11_init 17 = .ok (.dup, 1) := fp_hdX11_init_0.1.1.2.1.1.1
theorem dX11_init_18 : decode cX11_init 18 = .ok (.invokespecial 15, 3) := fp_hdX11_init_0.1.1.2.1.1.2
theorem dX11_init_21 : decode cX11_init 21 = .ok (.putfield 16, 3) := fp_hdX11_init_0.1.1.2.1.2.1
theorem dX11_init_24 : decode cX11_init 24 = .ok (.aload_n 0, 1) := fp_hdX11_init_0.1.1.2.1.2.2
theorem dX11_init_25 : decode cX11_init 25 = .ok (.new 20, 3) := fp_hdX11_init_0.1.1.2.2.1.1
theorem dX11_init_28 : decode cX11_init 28 = .ok (.dup, 1) := fp_hdX11_init_0.1.1.2.2.1.2
theorem dX11_init_29 : decode cX11_init 29 = .ok (.invokespecial 22, 3) := fp_hdX11_init_0.1.1.2.2.2.1
theorem dX11_init_32 : decode cX11_init 32 = .ok (.putfield 23, 3) := fp_hdX11_init_0.1.1.2.2.2.2
theorem dX11_init_35 : decode cX11_init 35 = .ok (.aload_n 0, 1) := fp_hdX11_init_0.1.2.1.1.1.1
theorem dX11_init_36 : decode cX11_init 36 = .ok (.new 27, 3) := fp_hdX11_init_0.1.2.1.1.1.2
theorem dX11_init_39 : decode cX11_init 39 = .ok (.dup, 1) := fp_hdX11_init_0.1.2.1.1.2.1
theorem dX11_init_40 : decode cX11_init 40 = .ok (.invokespecial 29, 3) := fp_hdX11_init_0.1.2.1.1.2.2
theorem dX11_init_43 : decode cX11_init 43 = .ok (.putfield 30, 3) := fp_hdX11_init_0.1.2.1.2.1.1
theorem dX11_init_46 : decode cX11_init 46 = .ok (.aload_n 0, 1) := fp_hdX11_init_0.1.2.1.2.1.2
theorem dX11_init_47 : decode cX11_init 47 = .ok (.new 34, 3) := fp_hdX11_init_0.1.2.1.2.2.1
theorem dX11_init_50 : decode cX11_init 50 = .ok (.dup, 1) := fp_hdX11_init_0.1.2.1.2.2.2
theorem dX11_init_51 : decode cX11_init 51 = .ok (.invokespecial 36, 3) := fp_hdX11_init_0.1.2.2.1.1.1
theorem dX11_init_54 : decode cX11_init 54 = .ok (.putfield 37, 3) := fp_hdX11_init_0.1.2.2.1.1.2
theorem dX11_init_57 : decode cX11_init 57 = .ok (.aload_n 0, 1) := fp_hdX11_init_0.1.2.2.1.2.1
theorem dX11_init_58 : decode cX11_init 58 = .ok (.new 41, 3) := fp_hdX11_init_0.1.2.2.1.2.2
theorem dX11_init_61 : decode cX11_init 61 = .ok (.dup, 1) := fp_hdX11_init_0.1.2.2.2.1.1
theorem dX11_init_62 : decode cX11_init 62 = .ok (.invokespecial 43, 3) := fp_hdX11_init_0.1.2.2.2.1.2
theorem dX11_init_65 : decode cX11_init 65 = .ok (.putfield 44, 3) := fp_hdX11_init_0.1.2.2.2.2.1
theorem dX11_init_68 : decode cX11_init 68 = .ok (.aload_n 0, 1) := fp_hdX11_init_0.1.2.2.2.2.2
theorem fp_hdX11_init_69 : (((((decode cX11_init 69 = .ok (.new 48, 3) ∧ decode cX11_init 72 = .ok (.dup, 1)) ∧ (decode cX11_init 73 = .ok (.invokespecial 50, 3) ∧ decode cX11_init 76 = .ok (.putfield 51, 3))) ∧ ((decode cX11_init 79 = .ok (.aload_n 0, 1) ∧ decode cX11_init 80 = .ok (.new 55, 3)) ∧ (decode cX11_init 83 = .ok (.dup, 1) ∧ decode cX11_init 84 = .ok (.invokespecial 57, 3)))) ∧ (((decode cX11_init 87 = .ok (.putfield 58, 3) ∧ decode cX11_init 90 = .ok (.aload_n 0, 1)) ∧ (decode cX11_init 91 = .ok (.new 62, 3) ∧ decode cX11_init 94 = .ok (.dup, 1))) ∧ ((decode cX11_init 95 = .ok (.invokespecial 64, 3) ∧ decode cX11_init 98 = .ok (.putfield 65, 3)) ∧ (decode cX11_init 101 = .ok (.aload_n 0, 1) ∧ decode cX11_init 102 = .ok (.new 69, 3))))) ∧ ((((decode cX11_init 105 = .ok (.dup, 1) ∧ decode cX11_init 106 = .ok (.invokespecial 71, 3)) ∧ (decode cX11_init 109 = .ok (.putfield 72, 3) ∧ decode cX11_init 112 = .ok (.aload_n 0, 1))) ∧ ((decode cX11_init 113 = .ok (.iconst 2, 1) ∧ decode cX11_init 114 = .ok (.anewarray 76, 3)) ∧ (decode cX11_init 117 = .ok (.putfield 78, 3) ∧ decode cX11_init 120 = .ok (.aload_n 0, 1)))) ∧ (((decode cX11_init 121 = .ok (.iconst 4, 1) ∧ decode cX11_init 122 = .ok (.anewarray 82, 3)) ∧ (decode cX11_init 125 = .ok (.putfield 84, 3) ∧ decode cX11_init 128 = .ok (.iconst 0, 1))) ∧ ((decode cX11_init 129 = .ok (.istore_n 1, 1) ∧ decode cX11_init 130 = .ok (.iload_n 1, 1)) ∧ (decode cX11_init 131 = .ok (.iconst 2, 1) ∧ decode cX11_init 132 = .ok (.if_icmp .ge 22, 3)))))) ∧ bA cX11_init 135 fp_scX11_init_2 :=
  have q0 := fp_o187 (v := 48) fp_hdX11_init_0.2 rfl
  have q1 := fp_o89 q0.2
  have q2 := fp_o183 (v := 50) q1.2 rfl
  have q3 := fp_o181 (v := 51) q2.2 rfl
  have q4 := fp_o42 q3.2
  have q5 := fp_o187 (v := 55) q4.2 rfl
  have q6 := fp_o89 q5.2
  have q7 := fp_o183 (v := 57) q6.2 rfl
  have q8 := fp_o181 (v := 58) q7.2 rfl
  have q9 := fp_o42 q8.2
  have q10 := fp_o187 (v := 62) q9.2 rfl
  have q11 := fp_o89 q10.2
  have q12 := fp_o183 (v := 64) q11.2 rfl
  have q13 := fp_o181 (v := 65) q12.2 rfl
  have q14 := fp_o42 q13.2
  have q15 := fp_o187 (v := 69) q14.2 rfl
  have q16 := fp_o89 q15.2
  have q17 := fp_o183 (v := 71) q16.2 rfl
  have q18 := fp_o181 (v := 72) q17.2 rfl
  have q19 := fp_o42 q18.2
  have q20 := fp_o5 q19.2
  have q21 := fp_o189 (v := 76) q20.2 rfl
  have q22 := fp_o181 (v := 78) q21.2 rfl
  have q23 := fp_o42 q22.2
  have q24 := fp_o7 q23.2
  have q25 := fp_o189 (v := 82) q24.2 rfl
  have q26 := fp_o181 (v := 84) q25.2 rfl
  have q27 := fp_o3 q26.2
  have q28 := fp_o60 q27.2
  have q29 := fp_o27 q28.2
  have q30 := fp_o5 q29.2
  have q31 := fp_o162 (v := 22) q30.2 rfl
  ⟨⟨⟨⟨⟨⟨q0.1, q1.1⟩, ⟨q2.1, q3.1⟩⟩, ⟨⟨q4.1, q5.1⟩, ⟨q6.1, q7.1⟩⟩⟩, ⟨⟨⟨q8.1, q9.1⟩, ⟨q10.1, q11.1⟩⟩, ⟨⟨q12.1, q13.1⟩, ⟨q14.1, q15.1⟩⟩⟩⟩, ⟨⟨⟨⟨q16.1, q17.1⟩, ⟨q18.1, q19.1⟩⟩, ⟨⟨q20.1, q21.1⟩, ⟨q22.1, q23.1⟩⟩⟩, ⟨⟨⟨q24.1, q25.1⟩, ⟨q26.1, q27.1⟩⟩, ⟨⟨q28.1, q29.1⟩, ⟨q30.1, q31.1⟩⟩⟩⟩⟩, q31.2⟩
theorem dX11_init_69 : decode cX11_init 69 = .ok (.new 48, 3) := fp_hdX11_init_69.1.1.1.1.1.1
theorem dX11_init_72 : decode cX11_init 72 = .ok (.dup, 1) := fp_hdX11_init_69.1.1.1.1.1.2
theorem dX11_init_73 : decode cX11_init 73 = .ok (.invokespecial 50, 3) := fp_hdX11_init_69.1.1.1.1.2.1
theorem dX11_init_76 : decode cX11_init 76 = .ok (.putfield 51, 3) := fp_hdX11_init_69.1.1.1.1.2.2
theorem dX11_init_79 : decode cX11_init 79 = .ok (.aload_n 0, 1) := fp_hdX11_init_69.1.1.1.2.1.1
theorem dX11_init_80 : decode cX11_init 80 = .ok (.new 55, 3) := fp_hdX11_init_69.1.1.1.2.1.2
theorem dX11_init_83 : decode cX11_init 83 = .ok (.dup, 1) := fp_hdX11_init_69.1.1.1.2.2.1
theorem dX11_init_84 : decode cX11_init 84 = .ok (.invokespecial 57, 3) := fp_hdX11_init_69.1.1.1.2.2.2
theorem dX11_init_87 : decode cX11_init 87 = .ok (.putfield 58, 3) := fp_hdX11_init_69.1.1.2.1.1.1
theorem dX11_init_90 : decode cX11_init 90 = .ok (.aload_n 0, 1) := fp_hdX11_init_69.1.1.2.1.1.2
theorem dX11_init_91 : decode cX11_init 91 = .ok (.new 62, 3) := fp_hdX11_init_69.1.1.2.1.2.1
theorem dX11_init_94 : decode cX11_init 94 = .ok (.dup, 1) := fp_hdX11_init_69.1.1.2.1.2.2
theorem dX11_init_95 : decode cX11_init 95 = .ok (.invokespecial 64, 3) := fp_hdX11_init_69.1.1.2.2.1.1
theorem dX11_init_98 : decode cX11_init 98 = .ok (.putfield 65, 3) := fp_hdX11_init_69.1.1.2.2.1.2
theorem dX11_init_101 : decode cX11_init 101 = .ok (.aload_n 0, 1) := fp_hdX11_init_69.1.1.2.2.2.1
theorem dX11_init_102 : decode cX11_init 102 = .ok (.new 69, 3) := fp_hdX11_init_69.1.1.2.2.2.2
theorem dX11_init_105 : decode cX11_init 105 = .ok (.dup, 1) := fp_hdX11_init_69.1.2.1.1.1.1
theorem dX11_init_106 : decode cX11_init 106 = .ok (.invokespecial 71, 3) := fp_hdX11_init_69.1.2.1.1.1.2
theorem dX11_init_109 : decode cX11_init 109 = .ok (.putfield 72, 3) := fp_hdX11_init_69.1.2.1.1.2.1
theorem dX11_init_112 : decode cX11_init 112 = .ok (.aload_n 0, 1) := fp_hdX11_init_69.1.2.1.1.2.2
theorem dX11_init_113 : decode cX11_init 113 = .ok (.iconst 2, 1) := fp_hdX11_init_69.1.2.1.2.1.1
theorem dX11_init_114 : decode cX11_init 114 = .ok (.anewarray 76, 3) := fp_hdX11_init_69.1.2.1.2.1.2
theorem dX11_init_117 : decode cX11_init 117 = .ok (.putfield 78, 3) := fp_hdX11_init_69.1.2.1.2.2.1
theorem dX11_init_120 : decode cX11_init 120 = .ok (.aload_n 0, 1) := fp_hdX11_init_69.1.2.1.2.2.2
theorem dX11_init_121 : decode cX11_init 121 = .ok (.iconst 4, 1) := fp_hdX11_init_69.1.2.2.1.1.1
theorem dX11_init_122 : decode cX11_init 122 = .ok (.anewarray 82, 3) := fp_hdX11_init_69.1.2.2.1.1.2
theorem dX11_init_125 : decode cX11_init 125 = .ok (.putfield 84, 3) := fp_hdX11_init_69.1.2.2.1.2.1
theorem dX11_init_128 : decode cX11_init 128 = .ok (.iconst 0, 1) := fp_hdX11_init_69.1.2.2.1.2.2
theorem dX11_init_129 : decode cX11_init 129 = .ok (.istore_n 1, 1) := fp_hdX11_init_69.1.2.2.2.1.1
theorem dX11_init_130 : decode cX11_init 130 = .ok (.iload_n 1, 1) := fp_hdX11_init_69.1.2.2.2.1.2
theorem dX11_init_131 : decode cX11_init 131 = .ok (.iconst 2, 1) := fp_hdX11_init_69.1.2.2.2.2.1
theorem dX11_init_132 : decode cX11_init 132 = .ok (.if_icmp .ge 22, 3) := fp_hdX11_init_69.1.2.2.2.2.2
theorem fp_hdX11_init_135 : (((((decode cX11_init 135 = .ok (.aload_n 0, 1) ∧ decode cX11_init 136 = .ok (.getfield 78, 3)) ∧ decode cX11_init 139 = .ok (.iload_n 1, 1)) ∧ ((decode cX11_init 140 = .ok (.new 76, 3) ∧ decode cX11_init 143 = .ok (.dup, 1)) ∧ decode cX11_init 144 = .ok (.invokespecial 88, 3))) ∧ (((decode cX11_init 147 = .ok (.aastore, 1) ∧ decode cX11_init 148 = .ok (.iinc 1 1, 3)) ∧ decode cX11_init 151 = .ok (.goto (-21), 3)) ∧ ((decode cX11_init 154 = .ok (.iconst 0, 1) ∧ decode cX11_init 155 = .ok (.istore_n 1, 1)) ∧ decode cX11_init 156 = .ok (.iload_n 1, 1)))) ∧ ((((decode cX11_init 157 = .ok (.iconst 4, 1) ∧ decode cX11_init 158 = .ok (.if_icmp .ge 22, 3)) ∧ decode cX11_init 161 = .ok (.aload_n 0, 1)) ∧ ((decode cX11_init 162 = .ok (.getfield 84, 3) ∧ decode cX11_init 165 = .ok (.iload_n 1, 1)) ∧ decode cX11_init 166 = .ok (.new 82, 3))) ∧ (((decode cX11_init 169 = .ok (.dup, 1) ∧ decode cX11_init 170 = .ok (.invokespecial 89, 3)) ∧ decode cX11_init 173 = .ok (.aastore, 1)) ∧ ((decode cX11_init 174 = .ok (.iinc 1 1, 3) ∧ decode cX11_init 177 = .ok (.goto (-21), 3)) ∧ decode cX11_init 180 = .ok (.return_, 1))))) ∧ bA cX11_init 181 [] :=
  have q0 := fp_o42 fp_hdX11_init_69.2
  have q1 := fp_o180 (v := 78) q0.2 rfl
  have q2 := fp_o27 q1.2
  have q3 := fp_o187 (v := 76) q2.2 rfl
  have q4 := fp_o89 q3.2
  have q5 := fp_o183 (v := 88) q4.2 rfl
  have q6 := fp_o83 q5.2
  have q7 := fp_o132 (v := 1) q6.2 rfl
  have q8 := fp_o167 (v := (-21)) q7.2 rfl
  have q9 := fp_o3 q8.2
  have q10 := fp_o60 q9.2
  have q11 := fp_o27 q10.2
  have q12 := fp_o7 q11.2
  have q13 := fp_o162 (v := 22) q12.2 rfl
  have q14 := fp_o42 q13.2
  have q15 := fp_o180 (v := 84) q14.2 rfl
  have q16 := fp_o27 q15.2
  have q17 := fp_o187 (v := 82) q16.2 rfl
  have q18 := fp_o89 q17.2
  have q19 := fp_o183 (v := 89) q18.2 rfl
  have q20 := fp_o83 q19.2
  have q21 := fp_o132 (v := 1) q20.2 rfl
  have q22 := fp_o167 (v := (-21)) q21.2 rfl
  have q23 := fp_o177 q22.2
  ⟨⟨⟨⟨⟨⟨q0.1, q1.1⟩, q2.1⟩, ⟨⟨q3.1, q4.1⟩, q5.1⟩⟩, ⟨⟨⟨q6.1, q7.1⟩, q8.1⟩, ⟨⟨q9.1, q10.1⟩, q11.1⟩⟩⟩, ⟨⟨⟨⟨q12.1, q13.1⟩, q14.1⟩, ⟨⟨q15.1, q16.1⟩, q17.1⟩⟩, ⟨⟨⟨q18.1, q19.1⟩, q20.1⟩, ⟨⟨q21.1, q22.1⟩, q23.1⟩⟩⟩⟩, q23.2⟩
theorem dX11_init_135 : decode cX11_init 135 = .ok (.aload_n 0, 1) := fp_hdX11_init_135.1.1.1.1.1.1
theorem dX11_init_136 : decode cX11_init 136 = .ok (.getfield 78, 3) := fp_hdX11_init_135.1.1.1.1.1.2
theorem dX11_init_139 : decode cX11_init 139 = .ok (.iload_n 1, 1) := fp_hdX11_init_135.1.1.1.1.2
theorem dX11_init_140 : decode cX11_init 140 = .ok (.new 76, 3) := fp_hdX11_init_135.1.1.1.2.1.1
theorem dX11_init_143 : decode cX11_init 143 = .ok (.dup, 1) := fp_hdX11_init_135.1.1.1.2.1.2
theorem dX11_init_144 : decode cX11_init 144 = .ok (.invokespecial 88, 3) := fp_hdX11_init_135.1.1.1.2.2
theorem dX11_init_147 : decode cX11_init 147 = .ok (.aastore, 1) := fp_hdX11_init_135.1.1.2.1.1.1
theorem dX11_init_148 : decode cX11_init 148 = .ok (.iinc 1 1, 3) := fp_hdX11_init_135.1.1.2.1.1.2
theorem dX11_init_151 : decode cX11_init 151 = .ok (.goto (-21), 3) := fp_hdX11_init_135.1.1.2.1.2
theorem dX11_init_154 : decode cX11_init 154 = .ok (.iconst 0, 1) := fp_hdX11_init_135.1.1.2.2.1.1
theorem dX11_init_155 : decode cX11_init 155 = .ok (.istore_n 1, 1) := fp_hdX11_init_135.1.1.2.2.1.2
theorem dX11_init_156 : decode cX11_init 156 = .ok (.iload_n 1, 1) := fp_hdX11_init_135.1.1.2.2.2
theorem dX11_init_157 : decode cX11_init 157 = .ok (.iconst 4, 1) := fp_hdX11_init_135.1.2.1.1.1.1
theorem dX11_init_158 : decode cX11_init 158 = .ok (.if_icmp .ge 22, 3) := fp_hdX11_init_135.1.2.1.1.1.2
theorem dX11_init_161 : decode cX11_init 161 = .ok (.aload_n 0, 1) := fp_hdX11_init_135.1.2.1.1.2
theorem dX11_init_162 : decode cX11_init 162 = .ok (.getfield 84, 3) := fp_hdX11_init_135.1.2.1.2.1.1
theorem dX11_init_165 : decode cX11_init 165 = .ok (.iload_n 1, 1) := fp_hdX11_init_135.1.2.1.2.1.2
theorem dX11_init_166 : decode cX11_init 166 = .ok (.new 82, 3) := fp_hdX11_init_135.1.2.1.2.2
theorem dX11_init_169 : decode cX11_init 169 = .ok (.dup, 1) := fp_hdX11_init_135.1.2.2.1.1.1
theorem dX11_init_170 : decode cX11_init 170 = .ok (.invokespecial 89, 3) := fp_hdX11_init_135.1.2.2.1.1.2
theorem dX11_init_173 : decode cX11_init 173 = .ok (.aastore, 1) := fp_hdX11_init_135.1.2.2.1.2
theorem dX11_init_174 : decode cX11_init 174 = .ok (.iinc 1 1, 3) := fp_hdX11_init_135.1.2.2.2.1.1
theorem dX11_init_177 : decode cX11_init 177 = .ok (.goto (-21), 3) := fp_hdX11_init_135.1.2.2.2.1.2
theorem dX11_init_180 : decode cX11_init 180 = .ok (.return_, 1) := fp_hdX11_init_135.1.2.2.2.2
def fp_scX11_feed_1 : List Nat := 89 :: 180 :: 0 :: 90 :: 16 :: 8 :: 96 :: 181 :: 0 :: 90 :: 42 :: 180 :: 0 :: 90 :: 172 :: []
def fp_scX11_feed_0 : List Nat := 42 :: 180 :: 0 :: 90 :: 16 :: 8 :: 96 :: 17 :: 1 :: 224 :: 164 :: 0 :: 6 :: 16 :: 253 :: 172 :: 3 :: 62 :: 29 :: 16 :: 8 :: 162 :: 0 :: 31 :: 42 :: 180 :: 0 :: 9 :: 42 :: 180 :: 0 :: 90 :: 29 :: 96 :: 31 :: 16 :: 56 :: 16 :: 8 :: 29 :: 104 :: 100 :: 123 :: 136 :: 145 :: 84 :: 132 :: 3 :: 1 :: 167 :: 255 :: 225 :: 42 :: fp_scX11_feed_1
theorem fp_bcX11_feed : bA cX11_feed 0 fp_scX11_feed_0 := show cX11_feed.data.toList.map UInt8.toNat = fp_scX11_feed_0 from by decide +kernel
theorem fp_hdX11_feed_0 : (((((decode cX11_feed 0 = .ok (.aload_n 0, 1) ∧ decode cX11_feed 1 = .ok (.getfield 90, 3)) ∧ (decode cX11_feed 4 = .ok (.bipush 8, 2) ∧ decode cX11_feed 6 = .ok (.iadd, 1))) ∧ ((decode cX11_feed 7 = .ok (.sipush 480, 3) ∧ decode cX11_feed 10 = .ok (.if_icmp .le 6, 3)) ∧ (decode cX11_feed 13 = .ok (.bipush (-3), 2) ∧ decode cX11_feed 15 = .ok (.ireturn, 1)))) ∧ (((decode cX11_feed 16 = .ok (.iconst 0, 1) ∧ decode cX11_feed 17 = .ok (.istore_n 3, 1)) ∧ (decode cX11_feed 18 = .ok (.iload_n 3, 1) ∧ decode cX11_feed 19 = .ok (.bipush 8, 2))) ∧ ((decode cX11_feed 21 = .ok (.if_icmp .ge 31, 3) ∧ decode cX11_feed 24 = .ok (.aload_n 0, 1)) ∧ (decode cX11_feed 25 = .ok (.getfield 9, 3) ∧ decode cX11_feed 28 = .ok (.aload_n 0, 1))))) ∧ ((((decode cX11_feed 29 = .ok (.getfield 90, 3) ∧ decode cX11_feed 32 = .ok (.iload_n 3, 1)) ∧ (decode cX11_feed 33 = .ok (.iadd, 1) ∧ decode cX11_feed 34 = .ok (.lload_n 1, 1))) ∧ ((decode cX11_feed 35 = .ok (.bipush 56, 2) ∧ decode cX11_feed 37 = .ok (.bipush 8, 2)) ∧ (decode cX11_feed 39 = .ok (.iload_n 3, 1) ∧ decode cX11_feed 40 = .ok (.imul, 1)))) ∧ (((decode cX11_feed 41 = .ok (.isub, 1) ∧ decode cX11_feed 42 = .ok (.lshr, 1)) ∧ (decode cX11_feed 43 = .ok (.l2i, 1) ∧ decode cX11_feed 44 = .ok (.i2b, 1))) ∧ ((decode cX11_feed 45 = .ok (.bastore, 1) ∧ decode cX11_feed 46 = .ok (.iinc 3 1, 3)) ∧ (decode cX11_feed 49 = .ok (.goto (-31), 3) ∧ decode cX11_feed 52 = .ok (.aload_n 0, 1)))))) ∧ bA cX11_feed 53 fp_scX11_feed_1 :=
  have q0 := fp_o42 fp_bcX11_feed
  have q1 := fp_o180 (v := 90) q0.2 rfl
  have q2 := fp_o16 (v := 8) q1.2 rfl
  have q3 := fp_o96 q2.2
  have q4 := fp_o17 (v := 480) q3.2 rfl
  have q5 := fp_o164 (v := 6) q4.2 rfl
  have q6 := fp_o16 (v := (-3)) q5.2 rfl
  have q7 := fp_o172 q6.2
  have q8 := fp_o3 q7.2
  have q9 := fp_o62 q8.2
  have q10 := fp_o29 q9.2
  have q11 := fp_o16 (v := 8) q10.2 rfl
  have q12 := fp_o162 (v := 31) q11.2 rfl
  have q13 := fp_o42 q12.2
  have q14 := fp_o180 (v := 9) q13.2 rfl
  have q15 := fp_o42 q14.2
  have q16 := fp_o180 (v := 90) q15.2 rfl
  have q17 := fp_o29 q16.2
  have q18 := fp_o96 q17.2
  have q19 := fp_o31 q18.2
  have q20 := fp_o16 (v := 56) q19.2 rfl
  have q21 := fp_o16 (v := 8) q20.2 rfl
  have q22 := fp_o29 q21.2
  have q23 := fp_o104 q22.2
  have q24 := fp_o100 q23.2
  have q25 := fp_o123 q24.2
  have q26 := fp_o136 q25.2
  have q27 := fp_o145 q26.2
  have q28 := fp_o84 q27.2
  have q29 := fp_o132 (v := 1) q28.2 rfl
  have q30 := fp_o167 (v := (-31)) q29.2 rfl
  have q31 := fp_o42 q30.2
  ⟨⟨⟨⟨⟨⟨q0.1, q1.1⟩, ⟨q2.1, q3.1⟩⟩, ⟨⟨q4.1, q5.1⟩, ⟨q6.1, q7.1⟩⟩⟩, ⟨⟨⟨q8.1, q9.1⟩, ⟨q10.1, q11.1⟩⟩, ⟨⟨q12.1, q13.1⟩, ⟨q14.1, q15.1⟩⟩⟩⟩, ⟨⟨⟨⟨q16.1, q17.1⟩, ⟨q18.1, q19.1⟩⟩, ⟨⟨q20.1, q21.1⟩, ⟨q22.1, q23.1⟩⟩⟩, ⟨⟨⟨q24.1, q25.1⟩, ⟨q26.1, q27.1⟩⟩, ⟨⟨q28.1, q29.1⟩, ⟨q30.1, q31.1⟩⟩⟩⟩⟩, q31.2⟩
theorem dX11_feed_0 : decode cX11_feed 0 = .ok (.aload_n 0, 1) := fp_hdX11_feed_0.1.1.1.1.1.1
theorem dX11_feed_1 : decode cX11_feed 1 = .ok (.getfield 90, 3) := fp_hdX11_feed_0.1.1.1.1.1.2
theorem dX11_feed_4 : decode cX11_feed 4 = .ok (.bipush 8, 2) := fp_hdX11_feed_0.1.1.1.1.2.1
theorem dX11_feed_6 : decode cX11_feed 6 = .ok (.iadd, 1) := fp_hdX11_feed_0.1.1.1.1.2.2
theorem dX11_feed_7 : decode cX11_feed 7 = .ok (.sipush 480, 3) := fp_hdX11_feed_0.1.1.1.2.1.1
theorem dX11_feed_10 : decode cX11_feed 10 = .ok (.if_icmp .le 6, 3) := fp_hdX11_feed_0.1.1.1.2.1.2
theorem dX11_feed_13 : decode cX11_feed 13 = .ok (.bipush (-3), 2) := fp_hdX11_feed_0.1.1.1.2.2.1
theorem dX11_feed_15 : decode cX11_feed 15 = .ok (.ireturn, 1) := fp_hdX11_feed_0.1.1.1.2.2.2
theorem dX11_feed_16 : decode cX11_feed 16 = .ok (.iconst 0, 1) := fp_hdX11_feed_0.1.1.2.1.1.1
theorem dX11_feed_17 : decode cX11_feed 17 = .ok (.istore_n 3, 1) := fp_hdX11_feed_0.1.1.2.1.1.2
theorem dX11_feed_18 : decode cX11_feed 18 = .ok (.iload_n 3, 1) := fp_hdX11_feed_0.1.1.2.1.2.1
theorem dX11_feed_19 : decode cX11_feed 19 = .ok (.bipush 8, 2) := fp_hdX11_feed_0.1.1.2.1.2.2
theorem dX11_feed_21 : decode cX11_feed 21 = .ok (.if_icmp .ge 31, 3) := fp_hdX11_feed_0.1.1.2.2.1.1
theorem dX11_feed_24 : decode cX11_feed 24 = .ok (.aload_n 0, 1) := fp_hdX11_feed_0.1.1.2.2.1.2
theorem dX11_feed_25 : decode cX11_feed 25 = .ok (.getfield 9, 3) := fp_hdX11_feed_0.1.1.2.2.2.1
theorem dX11_feed_28 : decode cX11_feed 28 = .ok (.aload_n 0, 1) := fp_hdX11_feed_0.1.1.2.2.2.2
theorem dX11_feed_29 : decode cX11_feed 29 = .ok (.getfield 90, 3) := fp_hdX11_feed_0.1.2.1.1.1.1
theorem dX11_feed_32 : decode cX11_feed 32 = .ok (.iload_n 3, 1) := fp_hdX11_feed_0.1.2.1.1.1.2
theorem dX11_feed_33 : decode cX11_feed 33 = .ok (.iadd, 1) := fp_hdX11_feed_0.1.2.1.1.2.1
theorem dX11_feed_34 : decode cX11_feed 34 = .ok (.lload_n 1, 1) := fp_hdX11_feed_0.1.2.1.1.2.2
theorem dX11_feed_35 : decode cX11_feed 35 = .ok (.bipush 56, 2) := fp_hdX11_feed_0.1.2.1.2.1.1
theorem dX11_feed_37 : decode cX11_feed 37 = .ok (.bipush 8, 2) := fp_hdX11_feed_0.1.2.1.2.1.2
theorem dX11_feed_39 : decode cX11_feed 39 = .ok (.iload_n 3, 1) := fp_hdX11_feed_0.1.2.1.2.2.1
theorem dX11_feed_40 : decode cX11_feed 40 = .ok (.imul, 1) := fp_hdX11_feed_0.1.2.1.2.2.2
theorem dX11_feed_41 : decode cX11_feed 41 = .ok (.isub, 1) := fp_hdX11_feed_0.1.2.2.1.1.1
theorem dX11_feed_42 : decode cX11_feed 42 = .ok (.lshr, 1) := fp_hdX11_feed_0.1.2.2.1.1.2
theorem dX11_feed_43 : decode cX11_feed 43 = .ok (.l2i, 1) := fp_hdX11_feed_0.1.2.2.1.2.1
theorem dX11_feed_44 : decode cX11_feed 44 = .ok (.i2b, 1) := fp_hdX11_feed_0.1.2.2.1.2.2
theorem dX11_feed_45 : decode cX11_feed 45 = .ok (.bastore, 1) := fp_hdX11_feed_0.1.2.2.2.1.1
theorem dX11_feed_46 : decode cX11_feed 46 = .ok (.iinc 3 1, 3) := fp_hdX11_feed_0.1.2.2.2.1.2
theorem dX11_feed_49 : decode cX11_feed 49 = .ok (.goto (-31), 3) := fp_hdX11_feed_0.1.2.2.2.2.1
theorem dX11_feed_52 : decode cX11_feed 52 = .ok (.aload_n 0, 1) := fp_hdX11_feed_0.1.2.2.2.2.2
theorem fp_hdX11_feed_53 : (((decode cX11_feed 53 = .ok (.dup, 1) ∧ decode cX11_feed 54 = .ok (.getfield 90, 3)) ∧ (decode cX11_feed 57 = .ok (.bipush 8, 2) ∧ decode cX11_feed 59 = .ok (.iadd, 1))) ∧ ((decode cX11_feed 60 = .ok (.putfield 90, 3) ∧ decode cX11_feed 63 = .ok (.aload_n 0, 1)) ∧ (decode cX11_feed 64 = .ok (.getfield 90, 3) ∧ decode cX11_feed 67 = .ok (.ireturn, 1)))) ∧ bA cX11_feed 68 [] :=
  have q0 := fp_o89 fp_hdX11_feed_0.2
  have q1 := fp_o180 (v := 90) q0.2 rfl
  have q2 := fp_o16 (v := 8) q1.2 rfl
  have q3 := fp_o96 q2.2
  have q4 := fp_o181 (v := 90) q3.2 rfl
  have q5 := fp_o42 q4.2
  have q6 := fp_o180 (v := 90) q5.2 rfl
  have q7 := fp_o172 q6.2
  ⟨⟨⟨⟨q0.1, q1.1⟩, ⟨q2.1, q3.1⟩⟩, ⟨⟨q4.1, q5.1⟩, ⟨q6.1, q7.1⟩⟩⟩, q7.2⟩
theorem dX11_feed_53 : decode cX11_feed 53 = .ok (.dup, 1) := fp_hdX11_feed_53.1.1.1.1
theorem dX11_feed_54 : decode cX11_feed 54 = .ok (.getfield 90, 3) := fp_hdX11_feed_53.1.1.1.2
theorem dX11_feed_57 : decode cX11_feed 57 = .ok (.bipush 8, 2) := fp_hdX11_feed_53.1.1.2.1
theorem dX11_feed_59 : decode cX11_feed 59 = .ok (.iadd, 1) := fp_hdX11_feed_53.1.1.2.2
theorem dX11_feed_60 : decode cX11_feed 60 = .ok (.putfield 90, 3) := fp_hdX11_feed_53.1.2.1.1
theorem dX11_feed_63 : decode cX11_feed 63 = .ok (.aload_n 0, 1) := fp_hdX11_feed_53.1.2.1.2
theorem dX11_feed_64 : decode cX11_feed 64 = .ok (.getfield 90, 3) := fp_hdX11_feed_53.1.2.2.1
theorem dX11_feed_67 : decode cX11_feed 67 = .ok (.ireturn, 1) := fp_hdX11_feed_53.1.2.2.2
def fp_scX11_end_0 : List Nat := 27 :: 155 :: 0 :: 11 :: 27 :: 42 :: 180 :: 0 :: 90 :: 164 :: 0 :: 5 :: 2 :: 172 :: 42 :: 180 :: 0 :: 90 :: 61 :: 42 :: 27 :: 181 :: 0 :: 90 :: 28 :: 172 :: []
theorem fp_bcX11_end : bA cX11_end 0 fp_scX11_end_0 := show cX11_end.data.toList.map UInt8.toNat = fp_scX11_end_0 from by decide +kernel
theorem fp_hdX11_end_0 : ((((decode cX11_end 0 = .ok (.iload_n 1, 1) ∧ decode cX11_end 1 = .ok (.ifCond .lt 11, 3)) ∧ (decode cX11_end 4 = .ok (.iload_n 1, 1) ∧ decode cX11_end 5 = .ok (.aload_n 0, 1))) ∧ ((decode cX11_end 6 = .ok (.getfield 90, 3) ∧ decode cX11_end 9 = .ok (.if_icmp .le 5, 3)) ∧ (decode cX11_end 12 = .ok (.iconst (-1), 1) ∧ decode cX11_end 13 = .ok (.ireturn, 1)))) ∧ (((decode cX11_end 14 = .ok (.aload_n 0, 1) ∧ decode cX11_end 15 = .ok (.getfield 90, 3)) ∧ (decode cX11_end 18 = .ok (.istore_n 2, 1) ∧ decode cX11_end 19 = .ok (.aload_n 0, 1))) ∧ ((decode cX11_end 20 = .ok (.iload_n 1, 1) ∧ decode cX11_end 21 = .ok (.putfield 90, 3)) ∧ (decode cX11_end 24 = .ok (.iload_n 2, 1) ∧ decode cX11_end 25 = .ok (.ireturn, 1))))) ∧ bA cX11_end 26 [] :=
  have q0 := fp_o27 fp_bcX11_end
  have q1 := fp_o155 (v := 11) q0.2 rfl
  have q2 := fp_o27 q1.2
  have q3 := fp_o42 q2.2
  have q4 := fp_o180 (v := 90) q3.2 rfl
  have q5 := fp_o164 (v := 5) q4.2 rfl
  have q6 := fp_o2 q5.2
  have q7 := fp_o172 q6.2
  have q8 := fp_o42 q7.2
  have q9 := fp_o180 (v := 90) q8.2 rfl
  have q10 := fp_o61 q9.2
  have q11 := fp_o42 q10.2
  have q12 := fp_o27 q11.2
  have q13 := fp_o181 (v := 90) q12.2 rfl
  have q14 := fp_o28 q13.2
  have q15 := fp_o172 q14.2
  ⟨⟨⟨⟨⟨q0.1, q1.1⟩, ⟨q2.1, q3.1⟩⟩, ⟨⟨q4.1, q5.1⟩, ⟨q6.1, q7.1⟩⟩⟩, ⟨⟨⟨q8.1, q9.1⟩, ⟨q10.1, q11.1⟩⟩, ⟨⟨q12.1, q13.1⟩, ⟨q14.1, q15.1⟩⟩⟩⟩, q15.2⟩
theorem dX11_end_0 : decode cX11_end 0 = .ok (.iload_n 1, 1) := fp_hdX11_end_0.1.1.1.1.1
theorem dX11_end_1 : decode cX11_end 1 = .ok (.ifCond .lt 11, 3) := fp_hdX11_end_0.1.1.1.1.2
theorem dX11_end_4 : decode cX11_end 4 = .ok (.iload_n 1, 1) := fp_hdX11_end_0.1.1.1.2.1
theorem dX11_end_5 : decode cX11_end 5 = .ok (.aload_n 0, 1) := fp_hdX11_end_0.1.1.1.2.2
theorem dX11_end_6 : decode cX11_end 6 = .ok (.getfield 90, 3) := fp_hdX11_end_0.1.1.2.1.1
theorem dX11_end_9 : decode cX11_end 9 = .ok (.if_icmp .le 5, 3) := fp_hdX11_end_0.1.1.2.1.2
theorem dX11_end_12 : decode cX11_end 12 = .ok (.iconst (-1), 1) := fp_hdX11_end_0.1.1.2.2.1
theorem dX11_end_13 : decode cX11_end 13 = .ok (.ireturn, 1) := fp_hdX11_end_0.1.1.2.2.2
theorem dX11_end_14 : decode cX11_end 14 = .ok (.aload_n 0, 1) := fp_hdX11_end_0.1.2.1.1.1
theorem dX11_end_15 : decode cX11_end 15 = .ok (.getfield 90, 3) := fp_hdX11_end_0.1.2.1.1.2
theorem dX11_end_18 : decode cX11_end 18 = .ok (.istore_n 2, 1) := fp_hdX11_end_0.1.2.1.2.1
theorem dX11_end_19 : decode cX11_end 19 = .ok (.aload_n 0, 1) := fp_hdX11_end_0.1.2.1.2.2
theorem dX11_end_20 : decode cX11_end 20 = .ok (.iload_n 1, 1) := fp_hdX11_end_0.1.2.2.1.1
theorem dX11_end_21 : decode cX11_end 21 = .ok (.putfield 90, 3) := fp_hdX11_end_0.1.2.2.1.2
theorem dX11_end_24 : decode cX11_end 24 = .ok (.iload_n 2, 1) := fp_hdX11_end_0.1.2.2.2.1
theorem dX11_end_25 : decode cX11_end 25 = .ok (.ireturn, 1) := fp_hdX11_end_0.1.2.2.2.2
def fp_scX11_bank_1 : List Nat := 182 :: 0 :: 112 :: 42 :: 180 :: 0 :: 37 :: 42 :: 180 :: 0 :: 16 :: 180 :: 0 :: 115 :: 182 :: 0 :: 116 :: 42 :: 180 :: 0 :: 44 :: 3 :: 181 :: 0 :: 119 :: 3 :: 61 :: 28 :: 5 :: 162 :: 0 :: 19 :: 42 :: 180 :: 0 :: 78 :: 28 :: 50 :: 3 :: 181 :: 0 :: 122 :: 132 :: 2 :: 1 :: 167 :: 255 :: 238 :: 27 :: 172 :: []
def fp_scX11_bank_0 : List Nat := 42 :: 180 :: 0 :: 16 :: 42 :: 180 :: 0 :: 9 :: 42 :: 180 :: 0 :: 90 :: 182 :: 0 :: 94 :: 60 :: 42 :: 3 :: 181 :: 0 :: 90 :: 42 :: 180 :: 0 :: 16 :: 180 :: 0 :: 98 :: 153 :: 0 :: 14 :: 16 :: 246 :: 42 :: 180 :: 0 :: 16 :: 180 :: 0 :: 101 :: 100 :: 172 :: 42 :: 180 :: 0 :: 23 :: 42 :: 180 :: 0 :: 16 :: 180 :: 0 :: 104 :: 182 :: 0 :: 105 :: 42 :: 180 :: 0 :: 30 :: 42 :: 180 :: 0 :: 16 :: 180 :: 0 :: 109 :: fp_scX11_bank_1
theorem fp_bcX11_bank : bA cX11_bank 0 fp_scX11_bank_0 := show cX11_bank.data.toList.map UInt8.toNat = fp_scX11_bank_0 from by decide +kernel
theorem fp_hdX11_bank_0 : (((((decode cX11_bank 0 = .ok (.aload_n 0, 1) ∧ decode cX11_bank 1 = .ok (.getfield 16, 3)) ∧ (decode cX11_bank 4 = .ok (.aload_n 0, 1) ∧ decode cX11_bank 5 = .ok (.getfield 9, 3))) ∧ ((decode cX11_bank 8 = .ok (.aload_n 0, 1) ∧ decode cX11_bank 9 = .ok (.getfield 90, 3)) ∧ (decode cX11_bank 12 = .ok (.invokevirtual 94, 3) ∧ decode cX11_bank 15 = .ok (.istore_n 1, 1)))) ∧ (((decode cX11_bank 16 = .ok (.aload_n 0, 1) ∧ decode cX11_bank 17 = .ok (.iconst 0, 1)) ∧ (decode cX11_bank 18 = .ok (.putfield 90, 3) ∧ decode cX11_bank 21 = .ok (.aload_n 0, 1))) ∧ ((decode cX11_bank 22 = .ok (.getfield 16, 3) ∧ decode cX11_bank 25 = .ok (.getfield 98, 3)) ∧ (decode cX11_bank 28 = .ok (.ifCond .eq 14, 3) ∧ decode cX11_bank 31 = .ok (.bipush (-10), 2))))) ∧ ((((decode cX11_bank 33 = .ok (.aload_n 0, 1) ∧ decode cX11_bank 34 = .ok (.getfield 16, 3)) ∧ (decode cX11_bank 37 = .ok (.getfield 101, 3) ∧ decode cX11_bank 40 = .ok (.isub, 1))) ∧ ((decode cX11_bank 41 = .ok (.ireturn, 1) ∧ decode cX11_bank 42 = .ok (.aload_n 0, 1)) ∧ (decode cX11_bank 43 = .ok (.getfield 23, 3) ∧ decode cX11_bank 46 = .ok (.aload_n 0, 1)))) ∧ (((decode cX11_bank 47 = .ok (.getfield 16, 3) ∧ decode cX11_bank 50 = .ok (.getfield 104, 3)) ∧ (decode cX11_bank 53 = .ok (.invokevirtual 105, 3) ∧ decode cX11_bank 56 = .ok (.aload_n 0, 1))) ∧ ((decode cX11_bank 57 = .ok (.getfield 30, 3) ∧ decode cX11_bank 60 = .ok (.aload_n 0, 1)) ∧ (decode cX11_bank 61 = .ok (.getfield 16, 3) ∧ decode cX11_bank 64 = .ok (.getfield 109, 3)))))) ∧ bA cX11_bank 67 fp_scX11_bank_1 :=
  have q0 := fp_o42 fp_bcX11_bank
  have q1 := fp_o180 (v := 16) q0.2 rfl
  have q2 := fp_o42 q1.2
  have q3 := fp_o180 (v := 9) q2.2 rfl
  have q4 := fp_o42 q3.2
  have q5 := fp_o180 (v := 90) q4.2 rfl
  have q6 := fp_o182 (v := 94) q5.2 rfl
  have q7 := fp_o60 q6.2
  have q8 := fp_o42 q7.2
  have q9 := fp_o3 q8.2
  have q10 := fp_o181 (v := 90) q9.2 rfl
  have q11 := fp_o42 q10.2
  have q12 := fp_o180 (v := 16) q11.2 rfl
  have q13 := fp_o180 (v := 98) q12.2 rfl
  have q14 := fp_o153 (v := 14) q13.2 rfl
  have q15 := fp_o16 (v := (-10)) q14.2 rfl
  have q16 := fp_o42 q15.2
  have q17 := fp_o180 (v := 16) q16.2 rfl
  have q18 := fp_o180 (v := 101) q17.2 rfl
  have q19 := fp_o100 q18.2
  have q20 := fp_o172 q19.2
  have q21 := fp_o42 q20.2
  have q22 := fp_o180 (v := 23) q21.2 rfl
  have q23 := fp_o42 q22.2
  have q24 := fp_o180 (v := 16) q23.2 rfl
  have q25 := fp_o180 (v := 104) q24.2 rfl
  have q26 := fp_o182 (v := 105) q25.2 rfl
  have q27 := fp_o42 q26.2
  have q28 := fp_o180 (v := 30) q27.2 rfl
  have q29 := fp_o42 q28.2
  have q30 := fp_o180 (v := 16) q29.2 rfl
  have q31 := fp_o180 (v := 109) q30.2 rfl
  ⟨⟨⟨⟨⟨⟨q0.1, q1.1⟩, ⟨q2.1, q3.1⟩⟩, ⟨⟨q4.1, q5.1⟩, ⟨q6.1, q7.1⟩⟩⟩, ⟨⟨⟨q8.1, q9.1⟩, ⟨q10.1, q11.1⟩⟩, ⟨⟨q12.1, q13.1⟩, ⟨q14.1, q15.1⟩⟩⟩⟩, ⟨⟨⟨⟨q16.1, q17.1⟩, ⟨q18.1, q19.1⟩⟩, ⟨⟨q20.1, q21.1⟩, ⟨q22.1, q23.1⟩⟩⟩, ⟨⟨⟨q24.1, q25.1⟩, ⟨q26.1, q27.1⟩⟩, ⟨⟨q28.1, q29.1⟩, ⟨q30.1, q31.1⟩⟩⟩⟩⟩, q31.2⟩
theorem dX11_bank_0 : decode cX11_bank 0 = .ok (.aload_n 0, 1) := fp_hdX11_bank_0.1.1.1.1.1.1
theorem dX11_bank_1 : decode cX11_bank 1 = .ok (.getfield 16, 3) := fp_hdX11_bank_0.1.1.1.1.1.2
theorem dX11_bank_4 : decode cX11_bank 4 = .ok (.aload_n 0, 1) := fp_hdX11_bank_0.1.1.1.1.2.1
theorem dX11_bank_5 : decode cX11_bank 5 = .ok (.getfield 9, 3) := fp_hdX11_bank_0.1.1.1.1.2.2
theorem dX11_bank_8 : decode cX11_bank 8 = .ok (.aload_n 0, 1) := fp_hdX11_bank_0.1.1.1.2.1.1
theorem dX11_bank_9 : decode cX11_bank 9 = .ok (.getfield 90, 3) := fp_hdX11_bank_0.1.1.1.2.1.2
theorem dX11_bank_12 : decode cX11_bank 12 = .ok (.invokevirtual 94, 3) := fp_hdX11_bank_0.1.1.1.2.2.1
theorem dX11_bank_15 : decode cX11_bank 15 = .ok (.istore_n 1, 1) := fp_hdX11_bank_0.1.1.1.2.2.2
theorem dX11_bank_16 : decode cX11_bank 16 = .ok (.aload_n 0, 1) := fp_hdX11_bank_0.1.1.2.1.1.1
theorem dX11_bank_17 : decode cX11_bank 17 = .ok (.iconst 0, 1) := fp_hdX11_bank_0.1.1.2.1.1.2
theorem dX11_bank_18 : decode cX11_bank 18 = .ok (.putfield 90, 3) := fp_hdX11_bank_0.1.1.2.1.2.1
theorem dX11_bank_21 : decode cX11_bank 21 = .ok (.aload_n 0, 1) := fp_hdX11_bank_0.1.1.2.1.2.2
theorem dX11_bank_22 : decode cX11_bank 22 = .ok (.getfield 16, 3) := fp_hdX11_bank_0.1.1.2.2.1.1
theorem dX11_bank_25 : decode cX11_bank 25 = .ok (.getfield 98, 3) := fp_hdX11_bank_0.1.1.2.2.1.2
theorem dX11_bank_28 : decode cX11_bank 28 = .ok (.ifCond .eq 14, 3) := fp_hdX11_bank_0.1.1.2.2.2.1
theorem dX11_bank_31 : decode cX11_bank 31 = .ok (.bipush (-10), 2) := fp_hdX11_bank_0.1.1.2.2.2.2
theorem dX11_bank_33 : decode cX11_bank 33 = .ok (.aload_n 0, 1) := fp_hdX11_bank_0.1.2.1.1.1.1
theorem dX11_bank_34 : decode cX11_bank 34 = .ok (.getfield 16, 3) := fp_hdX11_bank_0.1.2.1.1.1.2
theorem dX11_bank_37 : decode cX11_bank 37 = .ok (.getfield 101, 3) := fp_hdX11_bank_0.1.2.1.1.2.1
theorem dX11_bank_40 : decode cX11_bank 40 = .ok (.isub, 1) := fp_hdX11_bank_0.1.2.1.1.2.2
theorem dX11_bank_41 : decode cX11_bank 41 = .ok (.ireturn, 1) := fp_hdX11_bank_0.1.2.1.2.1.1
theorem dX11_bank_42 : decode cX11_bank 42 = .ok (.aload_n 0, 1) := fp_hdX11_bank_0.1.2.1.2.1.2
theorem dX11_bank_43 : decode cX11_bank 43 = .ok (.getfield 23, 3) := fp_hdX11_bank_0.1.2.1.2.2.1
theorem dX11_bank_46 : decode cX11_bank 46 = .ok (.aload_n 0, 1) := fp_hdX11_bank_0.1.2.1.2.2.2
theorem dX11_bank_47 : decode cX11_bank 47 = .ok (.getfield 16, 3) := fp_hdX11_bank_0.1.2.2.1.1.1
theorem dX11_bank_50 : decode cX11_bank 50 = .ok (.getfield 104, 3) := fp_hdX11_bank_0.1.2.2.1.1.2
theorem dX11_bank_53 : decode cX11_bank 53 = .ok (.invokevirtual 105, 3) := fp_hdX11_bank_0.1.2.2.1.2.1
theorem dX11_bank_56 : decode cX11_bank 56 = .ok (.aload_n 0, 1) := fp_hdX11_bank_0.1.2.2.1.2.2
theorem dX11_bank_57 : decode cX11_bank 57 = .ok (.getfield 30, 3) := fp_hdX11_bank_0.1.2.2.2.1.1
theorem dX11_bank_60 : decode cX11_bank 60 = .ok (.aload_n 0, 1) := fp_hdX11_bank_0.1.2.2.2.1.2
theorem dX11_bank_61 : decode cX11_bank 61 = .ok (.getfield 16, 3) := fp_hdX11_bank_0.1.2.2.2.2.1
theorem dX11_bank_64 : decode cX11_bank 64 = .ok (.getfield 109, 3) := fp_hdX11_bank_0.1.2.2.2.2.2
theorem fp_hdX11_bank_67 : (((((decode cX11_bank 67 = .ok (.invokevirtual 112, 3) ∧ decode cX11_bank 70 = .ok (.aload_n 0, 1)) ∧ (decode cX11_bank 71 = .ok (.getfield 37, 3) ∧ decode cX11_bank 74 = .ok (.aload_n 0, 1))) ∧ ((decode cX11_bank 75 = .ok (.getfield 16, 3) ∧ decode cX11_bank 78 = .ok (.getfield 115, 3)) ∧ decode cX11_bank 81 = .ok (.invokevirtual 116, 3))) ∧ (((decode cX11_bank 84 = .ok (.aload_n 0, 1) ∧ decode cX11_bank 85 = .ok (.getfield 44, 3)) ∧ decode cX11_bank 88 = .ok (.iconst 0, 1)) ∧ ((decode cX11_bank 89 = .ok (.putfield 119, 3) ∧ decode cX11_bank 92 = .ok (.iconst 0, 1)) ∧ decode cX11_bank 93 = .ok (.istore_n 2, 1)))) ∧ ((((decode cX11_bank 94 = .ok (.iload_n 2, 1) ∧ decode cX11_bank 95 = .ok (.iconst 2, 1)) ∧ (decode cX11_bank 96 = .ok (.if_icmp .ge 19, 3) ∧ decode cX11_bank 99 = .ok (.aload_n 0, 1))) ∧ ((decode cX11_bank 100 = .ok (.getfield 78, 3) ∧ decode cX11_bank 103 = .ok (.iload_n 2, 1)) ∧ decode cX11_bank 104 = .ok (.aaload, 1))) ∧ (((decode cX11_bank 105 = .ok (.iconst 0, 1) ∧ decode cX11_bank 106 = .ok (.putfield 122, 3)) ∧ decode cX11_bank 109 = .ok (.iinc 2 1, 3)) ∧ ((decode cX11_bank 112 = .ok (.goto (-18), 3) ∧ decode cX11_bank 115 = .ok (.iload_n 1, 1)) ∧ decode cX11_bank 116 = .ok (.ireturn, 1))))) ∧ bA cX11_bank 117 [] :=
  have q0 := fp_o182 (v := 112) fp_hdX11_bank_0.2 rfl
  have q1 := fp_o42 q0.2
  have q2 := fp_o180 (v := 37) q1.2 rfl
  have q3 := fp_o42 q2.2
  have q4 := fp_o180 (v := 16) q3.2 rfl
  have q5 := fp_o180 (v := 115) q4.2 rfl
  have q6 := fp_o182 (v := 116) q5.2 rfl
  have q7 := fp_o42 q6.2
  have q8 := fp_o180 (v := 44) q7.2 rfl
  have q9 := fp_o3 q8.2
  have q10 := fp_o181 (v := 119) q9.2 rfl
  have q11 := fp_o3 q10.2
  have q12 := fp_o61 q11.2
  have q13 := fp_o28 q12.2
  have q14 := fp_o5 q13.2
  have q15 := fp_o162 (v := 19) q14.2 rfl
  have q16 := fp_o42 q15.2
  have q17 := fp_o180 (v := 78) q16.2 rfl
  have q18 := fp_o28 q17.2
  have q19 := fp_o50 q18.2
  have q20 := fp_o3 q19.2
  have q21 := fp_o181 (v := 122) q20.2 rfl
  have q22 := fp_o132 (v := 1) q21.2 rfl
  have q23 := fp_o167 (v := (-18)) q22.2 rfl
  have q24 := fp_o27 q23.2
  have q25 := fp_o172 q24.2
  ⟨⟨⟨⟨⟨⟨q0.1, q1.1⟩, ⟨q2.1, q3.1⟩⟩, ⟨⟨q4.1, q5.1⟩, q6.1⟩⟩, ⟨⟨⟨q7.1, q8.1⟩, q9.1⟩, ⟨⟨q10.1, q11.1⟩, q12.1⟩⟩⟩, ⟨⟨⟨⟨q13.1, q14.1⟩, ⟨q15.1, q16.1⟩⟩, ⟨⟨q17.1, q18.1⟩, q19.1⟩⟩, ⟨⟨⟨q20.1, q21.1⟩, q22.1⟩, ⟨⟨q23.1, q24.1⟩, q25.1⟩⟩⟩⟩, q25.2⟩
theorem dX11_bank_67 : decode cX11_bank 67 = .ok (.invokevirtual 112, 3) := fp_hdX11_bank_67.1.1.1.1.1.1
theorem dX11_bank_70 : decode cX11_bank 70 = .ok (.aload_n 0, 1) := fp_hdX11_bank_67.1.1.1.1.1.2
theorem dX11_bank_71 : decode cX11_bank 71 = .ok (.getfield 37, 3) := fp_hdX11_bank_67.1.1.1.1.2.1
theorem dX11_bank_74 : decode cX11_bank 74 = .ok (.aload_n 0, 1) := fp_hdX11_bank_67.1.1.1.1.2.2
theorem dX11_bank_75 : decode cX11_bank 75 = .ok (.getfield 16, 3) := fp_hdX11_bank_67.1.1.1.2.1.1
theorem dX11_bank_78 : decode cX11_bank 78 = .ok (.getfield 115, 3) := fp_hdX11_bank_67.1.1.1.2.1.2
theorem dX11_bank_81 : decode cX11_bank 81 = .ok (.invokevirtual 116, 3) := fp_hdX11_bank_67.1.1.1.2.2
theorem dX11_bank_84 : decode cX11_bank 84 = .ok (.aload_n 0, 1) := fp_hdX11_bank_67.1.1.2.1.1.1
theorem dX11_bank_85 : decode cX11_bank 85 = .ok (.getfield 44, 3) := fp_hdX11_bank_67.1.1.2.1.1.2
theorem dX11_bank_88 : decode cX11_bank 88 = .ok (.iconst 0, 1) := fp_hdX11_bank_67.1.1.2.1.2
theorem dX11_bank_89 : decode cX11_bank 89 = .ok (.putfield 119, 3) := fp_hdX11_bank_67.1.1.2.2.1.1
theorem dX11_bank_92 : decode cX11_bank 92 = .ok (.iconst 0, 1) := fp_hdX11_bank_67.1.1.2.2.1.2
theorem dX11_bank_93 : decode cX11_bank 93 = .ok (.istore_n 2, 1) := fp_hdX11_bank_67.1.1.2.2.2
theorem dX11_bank_94 : decode cX11_bank 94 = .ok (.iload_n 2, 1) := fp_hdX11_bank_67.1.2.1.1.1.1
theorem dX11_bank_95 : decode cX11_bank 95 = .ok (.iconst 2, 1) := fp_hdX11_bank_67.1.2.1.1.1.2
theorem dX11_bank_96 : decode cX11_bank 96 = .ok (.if_icmp .ge 19, 3) := fp_hdX11_bank_67.1.2.1.1.2.1
theorem dX11_bank_99 : decode cX11_bank 99 = .ok (.aload_n 0, 1) := fp_hdX11_bank_67.1.2.1.1.2.2
theorem dX11_bank_100 : decode cX11_bank 100 = .ok (.getfield 78, 3) := fp_hdX11_bank_67.1.2.1.2.1.1
theorem dX11_bank_103 : decode cX11_bank 103 = .ok (.iload_n 2, 1) := fp_hdX11_bank_67.1.2.1.2.1.2
theorem dX11_bank_104 : decode cX11_bank 104 = .ok (.aaload, 1) := fp_hdX11_bank_67.1.2.1.2.2
theorem dX11_bank_105 : decode cX11_bank 105 = .ok (.iconst 0, 1) := fp_hdX11_bank_67.1.2.2.1.1.1
theorem dX11_bank_106 : decode cX11_bank 106 = .ok (.putfield 122, 3) := fp_hdX11_bank_67.1.2.2.1.1.2
theorem dX11_bank_109 : decode cX11_bank 109 = .ok (.iinc 2 1, 3) := fp_hdX11_bank_67.1.2.2.1.2
theorem dX11_bank_112 : decode cX11_bank 112 = .ok (.goto (-18), 3) := fp_hdX11_bank_67.1.2.2.2.1.1
theorem dX11_bank_115 : decode cX11_bank 115 = .ok (.iload_n 1, 1) := fp_hdX11_bank_67.1.2.2.2.1.2
theorem dX11_bank_116 : decode cX11_bank 116 = .ok (.ireturn, 1) := fp_hdX11_bank_67.1.2.2.2.2
def fp_scX11_fault_0 : List Nat := 42 :: 180 :: 0 :: 16 :: 180 :: 0 :: 98 :: 172 :: []
theorem fp_bcX11_fault : bA cX11_fault 0 fp_scX11_fault_0 := show cX11_fault.data.toList.map UInt8.toNat = fp_scX11_fault_0 from by decide +kernel
theorem fp_hdX11_fault_0 : ((decode cX11_fault 0 = .ok (.aload_n 0, 1) ∧ decode cX11_fault 1 = .ok (.getfield 16, 3)) ∧ (decode cX11_fault 4 = .ok (.getfield 98, 3) ∧ decode cX11_fault 7 = .ok (.ireturn, 1))) ∧ bA cX11_fault 8 [] :=
  have q0 := fp_o42 fp_bcX11_fault
  have q1 := fp_o180 (v := 16) q0.2 rfl
  have q2 := fp_o180 (v := 98) q1.2 rfl
  have q3 := fp_o172 q2.2
  ⟨⟨⟨q0.1, q1.1⟩, ⟨q2.1, q3.1⟩⟩, q3.2⟩
theorem dX11_fault_0 : decode cX11_fault 0 = .ok (.aload_n 0, 1) := fp_hdX11_fault_0.1.1.1
theorem dX11_fault_1 : decode cX11_fault 1 = .ok (.getfield 16, 3) := fp_hdX11_fault_0.1.1.2
theorem dX11_fault_4 : decode cX11_fault 4 = .ok (.getfield 98, 3) := fp_hdX11_fault_0.1.2.1
theorem dX11_fault_7 : decode cX11_fault 7 = .ok (.ireturn, 1) := fp_hdX11_fault_0.1.2.2
def fp_scX11_thing_1 : List Nat := 27 :: 46 :: 172 :: 42 :: 180 :: 0 :: 30 :: 27 :: 182 :: 0 :: 141 :: 172 :: 42 :: 180 :: 0 :: 30 :: 180 :: 0 :: 145 :: 27 :: 46 :: 172 :: 2 :: 172 :: []
def fp_scX11_thing_0 : List Nat := 42 :: 180 :: 0 :: 23 :: 27 :: 182 :: 0 :: 126 :: 154 :: 0 :: 5 :: 2 :: 172 :: 28 :: 16 :: 10 :: 161 :: 0 :: 22 :: 28 :: 16 :: 14 :: 162 :: 0 :: 16 :: 42 :: 180 :: 0 :: 23 :: 28 :: 16 :: 10 :: 100 :: 27 :: 182 :: 0 :: 130 :: 172 :: 28 :: 170 :: 0 :: 0 :: 0 :: 68 :: 0 :: 0 :: 0 :: 0 :: 0 :: 0 :: 0 :: 3 :: 0 :: 0 :: 0 :: 29 :: 0 :: 0 :: 0 :: 39 :: 0 :: 0 :: 0 :: 49 :: 0 :: 0 :: 0 :: 58 :: 42 :: 180 :: 0 :: 23 :: 180 :: 0 :: 134 :: 27 :: 46 :: 172 :: 42 :: 180 :: 0 :: 30 :: 180 :: 0 :: 138 :: fp_scX11_thing_1
theorem fp_bcX11_thing : bA cX11_thing 0 fp_scX11_thing_0 := show cX11_thing.data.toList.map UInt8.toNat = fp_scX11_thing_0 from by decide +kernel
theorem fp_hdX11_thing_0 : (((((decode cX11_thing 0 = .ok (.aload_n 0, 1) ∧ decode cX11_thing 1 = .ok (.getfield 23, 3)) ∧ (decode cX11_thing 4 = .ok (.iload_n 1, 1) ∧ decode cX11_thing 5 = .ok (.invokevirtual 126, 3))) ∧ ((decode cX11_thing 8 = .ok (.ifCond .ne 5, 3) ∧ decode cX11_thing 11 = .ok (.iconst (-1), 1)) ∧ (decode cX11_thing 12 = .ok (.ireturn, 1) ∧ decode cX11_thing 13 = .ok (.iload_n 2, 1)))) ∧ (((decode cX11_thing 14 = .ok (.bipush 10, 2) ∧ decode cX11_thing 16 = .ok (.if_icmp .lt 22, 3)) ∧ (decode cX11_thing 19 = .ok (.iload_n 2, 1) ∧ decode cX11_thing 20 = .ok (.bipush 14, 2))) ∧ ((decode cX11_thing 22 = .ok (.if_icmp .ge 16, 3) ∧ decode cX11_thing 25 = .ok (.aload_n 0, 1)) ∧ (decode cX11_thing 26 = .ok (.getfield 23, 3) ∧ decode cX11_thing 29 = .ok (.iload_n 2, 1))))) ∧ ((((decode cX11_thing 30 = .ok (.bipush 10, 2) ∧ decode cX11_thing 32 = .ok (.isub, 1)) ∧ (decode cX11_thing 33 = .ok (.iload_n 1, 1) ∧ decode cX11_thing 34 = .ok (.invokevirtual 130, 3))) ∧ ((decode cX11_thing 37 = .ok (.ireturn, 1) ∧ decode cX11_thing 38 = .ok (.iload_n 2, 1)) ∧ (decode cX11_thing 39 = .ok (.tableswitch 68 0 3 #[29, 39, 49, 58], 29) ∧ decode cX11_thing 68 = .ok (.aload_n 0, 1)))) ∧ (((decode cX11_thing 69 = .ok (.getfield 23, 3) ∧ decode cX11_thing 72 = .ok (.getfield 134, 3)) ∧ (decode cX11_thing 75 = .ok (.iload_n 1, 1) ∧ decode cX11_thing 76 = .ok (.iaload, 1))) ∧ ((decode cX11_thing 77 = .ok (.ireturn, 1) ∧ decode cX11_thing 78 = .ok (.aload_n 0, 1)) ∧ (decode cX11_thing 79 = .ok (.getfield 30, 3) ∧ decode cX11_thing 82 = .ok (.getfield 138, 3)))))) ∧ bA cX11_thing 85 fp_scX11_thing_1 :=
  have q0 := fp_o42 fp_bcX11_thing
  have q1 := fp_o180 (v := 23) q0.2 rfl
  have q2 := fp_o27 q1.2
  have q3 := fp_o182 (v := 126) q2.2 rfl
  have q4 := fp_o154 (v := 5) q3.2 rfl
  have q5 := fp_o2 q4.2
  have q6 := fp_o172 q5.2
  have q7 := fp_o28 q6.2
  have q8 := fp_o16 (v := 10) q7.2 rfl
  have q9 := fp_o161 (v := 22) q8.2 rfl
  have q10 := fp_o28 q9.2
  have q11 := fp_o16 (v := 14) q10.2 rfl
  have q12 := fp_o162 (v := 16) q11.2 rfl
  have q13 := fp_o42 q12.2
  have q14 := fp_o180 (v := 23) q13.2 rfl
  have q15 := fp_o28 q14.2
  have q16 := fp_o16 (v := 10) q15.2 rfl
  have q17 := fp_o100 q16.2
  have q18 := fp_o27 q17.2
  have q19 := fp_o182 (v := 130) q18.2 rfl
  have q20 := fp_o172 q19.2
  have q21 := fp_o28 q20.2
  have q22 : decode cX11_thing 39 = .ok (.tableswitch 68 0 3 #[29, 39, 49, 58], 29) ∧ bA cX11_thing 68 (42 :: 180 :: 0 :: 23 :: 180 :: 0 :: 134 :: 27 :: 46 :: 172 :: 42 :: 180 :: 0 :: 30 :: 180 :: 0 :: 138 :: fp_scX11_thing_1) := ⟨fp_dk (by decide +kernel), bA_skip 29 q21.2⟩
  have q23 := fp_o42 q22.2
  have q24 := fp_o180 (v := 23) q23.2 rfl
  have q25 := fp_o180 (v := 134) q24.2 rfl
  have q26 := fp_o27 q25.2
  have q27 := fp_o46 q26.2
  have q28 := fp_o172 q27.2
  have q29 := fp_o42 q28.2
  have q30 := fp_o180 (v := 30) q29.2 rfl
  have q31 := fp_o180 (v := 138) q30.2 rfl
  ⟨⟨⟨⟨⟨⟨q0.1, q1.1⟩, ⟨q2.1, q3.1⟩⟩, ⟨⟨q4.1, q5.1⟩, ⟨q6.1, q7.1⟩⟩⟩, ⟨⟨⟨q8.1, q9.1⟩, ⟨q10.1, q11.1⟩⟩, ⟨⟨q12.1, q13.1⟩, ⟨q14.1, q15.1⟩⟩⟩⟩, ⟨⟨⟨⟨q16.1, q17.1⟩, ⟨q18.1, q19.1⟩⟩, ⟨⟨q20.1, q21.1⟩, ⟨q22.1, q23.1⟩⟩⟩, ⟨⟨⟨q24.1, q25.1⟩, ⟨q26.1, q27.1⟩⟩, ⟨⟨q28.1, q29.1⟩, ⟨q30.1, q31.1⟩⟩⟩⟩⟩, q31.2⟩
theorem dX11_thing_0 : decode cX11_thing 0 = .ok (.aload_n 0, 1) := fp_hdX11_thing_0.1.1.1.1.1.1
theorem dX11_thing_1 : decode cX11_thing 1 = .ok (.getfield 23, 3) := fp_hdX11_thing_0.1.1.1.1.1.2
theorem dX11_thing_4 : decode cX11_thing 4 = .ok (.iload_n 1, 1) := fp_hdX11_thing_0.1.1.1.1.2.1
theorem dX11_thing_5 : decode cX11_thing 5 = .ok (.invokevirtual 126, 3) := fp_hdX11_thing_0.1.1.1.1.2.2
theorem dX11_thing_8 : decode cX11_thing 8 = .ok (.ifCond .ne 5, 3) := fp_hdX11_thing_0.1.1.1.2.1.1
theorem dX11_thing_11 : decode cX11_thing 11 = .ok (.iconst (-1), 1) := fp_hdX11_thing_0.1.1.1.2.1.2
theorem dX11_thing_12 : decode cX11_thing 12 = .ok (.ireturn, 1) := fp_hdX11_thing_0.1.1.1.2.2.1
theorem dX11_thing_13 : decode cX11_thing 13 = .ok (.iload_n 2, 1) := fp_hdX11_thing_0.1.1.1.2.2.2
theorem dX11_thing_14 : decode cX11_thing 14 = .ok (.bipush 10, 2) := fp_hdX11_thing_0.1.1.2.1.1.1
theorem dX11_thing_16 : decode cX11_thing 16 = .ok (.if_icmp .lt 22, 3) := fp_hdX11_thing_0.1.1.2.1.1.2
theorem dX11_thing_19 : decode cX11_thing 19 = .ok (.iload_n 2, 1) := fp_hdX11_thing_0.1.1.2.1.2.1
theorem dX11_thing_20 : decode cX11_thing 20 = .ok (.bipush 14, 2) := fp_hdX11_thing_0.1.1.2.1.2.2
theorem dX11_thing_22 : decode cX11_thing 22 = .ok (.if_icmp .ge 16, 3) := fp_hdX11_thing_0.1.1.2.2.1.1
theorem dX11_thing_25 : decode cX11_thing 25 = .ok (.aload_n 0, 1) := fp_hdX11_thing_0.1.1.2.2.1.2
theorem dX11_thing_26 : decode cX11_thing 26 = .ok (.getfield 23, 3) := fp_hdX11_thing_0.1.1.2.2.2.1
theorem dX11_thing_29 : decode cX11_thing 29 = .ok (.iload_n 2, 1) := fp_hdX11_thing_0.1.1.2.2.2.2
theorem dX11_thing_30 : decode cX11_thing 30 = .ok (.bipush 10, 2) := fp_hdX11_thing_0.1.2.1.1.1.1
theorem dX11_thing_32 : decode cX11_thing 32 = .ok (.isub, 1) := fp_hdX11_thing_0.1.2.1.1.1.2
theorem dX11_thing_33 : decode cX11_thing 33 = .ok (.iload_n 1, 1) := fp_hdX11_thing_0.1.2.1.1.2.1
theorem dX11_thing_34 : decode cX11_thing 34 = .ok (.invokevirtual 130, 3) := fp_hdX11_thing_0.1.2.1.1.2.2
theorem dX11_thing_37 : decode cX11_thing 37 = .ok (.ireturn, 1) := fp_hdX11_thing_0.1.2.1.2.1.1
theorem dX11_thing_38 : decode cX11_thing 38 = .ok (.iload_n 2, 1) := fp_hdX11_thing_0.1.2.1.2.1.2
theorem dX11_thing_39 : decode cX11_thing 39 = .ok (.tableswitch 68 0 3 #[29, 39, 49, 58], 29) := fp_hdX11_thing_0.1.2.1.2.2.1
theorem dX11_thing_68 : decode cX11_thing 68 = .ok (.aload_n 0, 1) := fp_hdX11_thing_0.1.2.1.2.2.2
theorem dX11_thing_69 : decode cX11_thing 69 = .ok (.getfield 23, 3) := fp_hdX11_thing_0.1.2.2.1.1.1
theorem dX11_thing_72 : decode cX11_thing 72 = .ok (.getfield 134, 3) := fp_hdX11_thing_0.1.2.2.1.1.2
theorem dX11_thing_75 : decode cX11_thing 75 = .ok (.iload_n 1, 1) := fp_hdX11_thing_0.1.2.2.1.2.1
theorem dX11_thing_76 : decode cX11_thing 76 = .ok (.iaload, 1) := fp_hdX11_thing_0.1.2.2.1.2.2
theorem dX11_thing_77 : decode cX11_thing 77 = .ok (.ireturn, 1) := fp_hdX11_thing_0.1.2.2.2.1.1
theorem dX11_thing_78 : decode cX11_thing 78 = .ok (.aload_n 0, 1) := fp_hdX11_thing_0.1.2.2.2.1.2
theorem dX11_thing_79 : decode cX11_thing 79 = .ok (.getfield 30, 3) := fp_hdX11_thing_0.1.2.2.2.2.1
theorem dX11_thing_82 : decode cX11_thing 82 = .ok (.getfield 138, 3) := fp_hdX11_thing_0.1.2.2.2.2.2
theorem fp_hdX11_thing_85 : ((((decode cX11_thing 85 = .ok (.iload_n 1, 1) ∧ decode cX11_thing 86 = .ok (.iaload, 1)) ∧ (decode cX11_thing 87 = .ok (.ireturn, 1) ∧ decode cX11_thing 88 = .ok (.aload_n 0, 1))) ∧ ((decode cX11_thing 89 = .ok (.getfield 30, 3) ∧ decode cX11_thing 92 = .ok (.iload_n 1, 1)) ∧ (decode cX11_thing 93 = .ok (.invokevirtual 141, 3) ∧ decode cX11_thing 96 = .ok (.ireturn, 1)))) ∧ (((decode cX11_thing 97 = .ok (.aload_n 0, 1) ∧ decode cX11_thing 98 = .ok (.getfield 30, 3)) ∧ (decode cX11_thing 101 = .ok (.getfield 145, 3) ∧ decode cX11_thing 104 = .ok (.iload_n 1, 1))) ∧ ((decode cX11_thing 105 = .ok (.iaload, 1) ∧ decode cX11_thing 106 = .ok (.ireturn, 1)) ∧ (decode cX11_thing 107 = .ok (.iconst (-1), 1) ∧ decode cX11_thing 108 = .ok (.ireturn, 1))))) ∧ bA cX11_thing 109 [] :=
  have q0 := fp_o27 fp_hdX11_thing_0.2
  have q1 := fp_o46 q0.2
  have q2 := fp_o172 q1.2
  have q3 := fp_o42 q2.2
  have q4 := fp_o180 (v := 30) q3.2 rfl
  have q5 := fp_o27 q4.2
  have q6 := fp_o182 (v := 141) q5.2 rfl
  have q7 := fp_o172 q6.2
  have q8 := fp_o42 q7.2
  have q9 := fp_o180 (v := 30) q8.2 rfl
  have q10 := fp_o180 (v := 145) q9.2 rfl
  have q11 := fp_o27 q10.2
  have q12 := fp_o46 q11.2
  have q13 := fp_o172 q12.2
  have q14 := fp_o2 q13.2
  have q15 := fp_o172 q14.2
  ⟨⟨⟨⟨⟨q0.1, q1.1⟩, ⟨q2.1, q3.1⟩⟩, ⟨⟨q4.1, q5.1⟩, ⟨q6.1, q7.1⟩⟩⟩, ⟨⟨⟨q8.1, q9.1⟩, ⟨q10.1, q11.1⟩⟩, ⟨⟨q12.1, q13.1⟩, ⟨q14.1, q15.1⟩⟩⟩⟩, q15.2⟩
theorem dX11_thing_85 : decode cX11_thing 85 = .ok (.iload_n 1, 1) := fp_hdX11_thing_85.1.1.1.1.1
theorem dX11_thing_86 : decode cX11_thing 86 = .ok (.iaload, 1) := fp_hdX11_thing_85.1.1.1.1.2
theorem dX11_thing_87 : decode cX11_thing 87 = .ok (.ireturn, 1) := fp_hdX11_thing_85.1.1.1.2.1
theorem dX11_thing_88 : decode cX11_thing 88 = .ok (.aload_n 0, 1) := fp_hdX11_thing_85.1.1.1.2.2
theorem dX11_thing_89 : decode cX11_thing 89 = .ok (.getfield 30, 3) := fp_hdX11_thing_85.1.1.2.1.1
theorem dX11_thing_92 : decode cX11_thing 92 = .ok (.iload_n 1, 1) := fp_hdX11_thing_85.1.1.2.1.2
theorem dX11_thing_93 : decode cX11_thing 93 = .ok (.invokevirtual 141, 3) := fp_hdX11_thing_85.1.1.2.2.1
theorem dX11_thing_96 : decode cX11_thing 96 = .ok (.ireturn, 1) := fp_hdX11_thing_85.1.1.2.2.2
theorem dX11_thing_97 : decode cX11_thing 97 = .ok (.aload_n 0, 1) := fp_hdX11_thing_85.1.2.1.1.1
theorem dX11_thing_98 : decode cX11_thing 98 = .ok (.getfield 30, 3) := fp_hdX11_thing_85.1.2.1.1.2
theorem dX11_thing_101 : decode cX11_thing 101 = .ok (.getfield 145, 3) := fp_hdX11_thing_85.1.2.1.2.1
theorem dX11_thing_104 : decode cX11_thing 104 = .ok (.iload_n 1, 1) := fp_hdX11_thing_85.1.2.1.2.2
theorem dX11_thing_105 : decode cX11_thing 105 = .ok (.iaload, 1) := fp_hdX11_thing_85.1.2.2.1.1
theorem dX11_thing_106 : decode cX11_thing 106 = .ok (.ireturn, 1) := fp_hdX11_thing_85.1.2.2.1.2
theorem dX11_thing_107 : decode cX11_thing 107 = .ok (.iconst (-1), 1) := fp_hdX11_thing_85.1.2.2.2.1
theorem dX11_thing_108 : decode cX11_thing 108 = .ok (.ireturn, 1) := fp_hdX11_thing_85.1.2.2.2.2
def fp_scX11_line_1 : List Nat := 170 :: 0 :: 0 :: 0 :: 0 :: 59 :: 0 :: 0 :: 0 :: 0 :: 0 :: 0 :: 0 :: 2 :: 0 :: 0 :: 0 :: 26 :: 0 :: 0 :: 0 :: 36 :: 0 :: 0 :: 0 :: 46 :: 42 :: 180 :: 0 :: 23 :: 180 :: 0 :: 156 :: 27 :: 46 :: 172 :: 42 :: 180 :: 0 :: 30 :: 180 :: 0 :: 151 :: 27 :: 46 :: 172 :: 42 :: 180 :: 0 :: 30 :: 42 :: 180 :: 0 :: 23 :: 27 :: 182 :: 0 :: 159 :: 172 :: 2 :: 172 :: []
def fp_scX11_line_0 : List Nat := 42 :: 180 :: 0 :: 23 :: 27 :: 182 :: 0 :: 148 :: 154 :: 0 :: 5 :: 2 :: 172 :: 28 :: 16 :: 10 :: 161 :: 0 :: 37 :: 28 :: 16 :: 10 :: 42 :: 180 :: 0 :: 30 :: 180 :: 0 :: 151 :: 27 :: 46 :: 96 :: 162 :: 0 :: 21 :: 42 :: 180 :: 0 :: 30 :: 180 :: 0 :: 153 :: 27 :: 16 :: 8 :: 104 :: 28 :: 96 :: 16 :: 10 :: 100 :: 46 :: 172 :: 28 :: fp_scX11_line_1
theorem fp_bcX11_line : bA cX11_line 0 fp_scX11_line_0 := show cX11_line.data.toList.map UInt8.toNat = fp_scX11_line_0 from by decide +kernel
theorem fp_hdX11_line_0 : (((((decode cX11_line 0 = .ok (.aload_n 0, 1) ∧ decode cX11_line 1 = .ok (.getfield 23, 3)) ∧ (decode cX11_line 4 = .ok (.iload_n 1, 1) ∧ decode cX11_line 5 = .ok (.invokevirtual 148, 3))) ∧ ((decode cX11_line 8 = .ok (.ifCond .ne 5, 3) ∧ decode cX11_line 11 = .ok (.iconst (-1), 1)) ∧ (decode cX11_line 12 = .ok (.ireturn, 1) ∧ decode cX11_line 13 = .ok (.iload_n 2, 1)))) ∧ (((decode cX11_line 14 = .ok (.bipush 10, 2) ∧ decode cX11_line 16 = .ok (.if_icmp .lt 37, 3)) ∧ (decode cX11_line 19 = .ok (.iload_n 2, 1) ∧ decode cX11_line 20 = .ok (.bipush 10, 2))) ∧ ((decode cX11_line 22 = .ok (.aload_n 0, 1) ∧ decode cX11_line 23 = .ok (.getfield 30, 3)) ∧ (decode cX11_line 26 = .ok (.getfield 151, 3) ∧ decode cX11_line 29 = .ok (.iload_n 1, 1))))) ∧ ((((decode cX11_line 30 = .ok (.iaload, 1) ∧ decode cX11_line 31 = .ok (.iadd, 1)) ∧ (decode cX11_line 32 = .ok (.if_icmp .ge 21, 3) ∧ decode cX11_line 35 = .ok (.aload_n 0, 1))) ∧ ((decode cX11_line 36 = .ok (.getfield 30, 3) ∧ decode cX11_line 39 = .ok (.getfield 153, 3)) ∧ (decode cX11_line 42 = .ok (.iload_n 1, 1) ∧ decode cX11_line 43 = .ok (.bipush 8, 2)))) ∧ (((decode cX11_line 45 = .ok (.imul, 1) ∧ decode cX11_line 46 = .ok (.iload_n 2, 1)) ∧ (decode cX11_line 47 = .ok (.iadd, 1) ∧ decode cX11_line 48 = .ok (.bipush 10, 2))) ∧ ((decode cX11_line 50 = .ok (.isub, 1) ∧ decode cX11_line 51 = .ok (.iaload, 1)) ∧ (decode cX11_line 52 = .ok (.ireturn, 1) ∧ decode cX11_line 53 = .ok (.iload_n 2, 1)))))) ∧ bA cX11_line 54 fp_scX11_line_1 :=
  have q0 := fp_o42 fp_bcX11_line
  have q1 := fp_o180 (v := 23) q0.2 rfl
  have q2 := fp_o27 q1.2
  have q3 := fp_o182 (v := 148) q2.2 rfl
  have q4 := fp_o154 (v := 5) q3.2 rfl
  have q5 := fp_o2 q4.2
  have q6 := fp_o172 q5.2
  have q7 := fp_o28 q6.2
  have q8 := fp_o16 (v := 10) q7.2 rfl
  have q9 := fp_o161 (v := 37) q8.2 rfl
  have q10 := fp_o28 q9.2
  have q11 := fp_o16 (v := 10) q10.2 rfl
  have q12 := fp_o42 q11.2
  have q13 := fp_o180 (v := 30) q12.2 rfl
  have q14 := fp_o180 (v := 151) q13.2 rfl
  have q15 := fp_o27 q14.2
  have q16 := fp_o46 q15.2
  have q17 := fp_o96 q16.2
  have q18 := fp_o162 (v := 21) q17.2 rfl
  have q19 := fp_o42 q18.2
  have q20 := fp_o180 (v := 30) q19.2 rfl
  have q21 := fp_o180 (v := 153) q20.2 rfl
  have q22 := fp_o27 q21.2
  have q23 := fp_o16 (v := 8) q22.2 rfl
  have q24 := fp_o104 q23.2
  have q25 := fp_o28 q24.2
  have q26 := fp_o96 q25.2
  have q27 := fp_o16 (v := 10) q26.2 rfl
  have q28 := fp_o100 q27.2
  have q29 := fp_o46 q28.2
  have q30 := fp_o172 q29.2
  have q31 := fp_o28 q30.2
  ⟨⟨⟨⟨⟨⟨q0.1, q1.1⟩, ⟨q2.1, q3.1⟩⟩, ⟨⟨q4.1, q5.1⟩, ⟨q6.1, q7.1⟩⟩⟩, ⟨⟨⟨q8.1, q9.1⟩, ⟨q10.1, q11.1⟩⟩, ⟨⟨q12.1, q13.1⟩, ⟨q14.1, q15.1⟩⟩⟩⟩, ⟨⟨⟨⟨q16.1, q17.1⟩, ⟨q18.1, q19.1⟩⟩, ⟨⟨q20.1, q21.1⟩, ⟨q22.1, q23.1⟩⟩⟩, ⟨⟨⟨q24.1, q25.1⟩, ⟨q26.1, q27.1⟩⟩, ⟨⟨q28.1, q29.1⟩, ⟨q30.1, q31.1⟩⟩⟩⟩⟩, q31.2⟩
theorem dX11_line_0 : decode cX11_line 0 = .ok (.aload_n 0, 1) := fp_hdX11_line_0.1.1.1.1.1.1
theorem dX11_line_1 : decode cX11_line 1 = .ok (.getfield 23, 3) := fp_hdX11_line_0.1.1.1.1.1.2
theorem dX11_line_4 : decode cX11_line 4 = .ok (.iload_n 1, 1) := fp_hdX11_line_0.1.1.1.1.2.1
theorem dX11_line_5 : decode cX11_line 5 = .ok (.invokevirtual 148, 3) := fp_hdX11_line_0.1.1.1.1.2.2
theorem dX11_line_8 : decode cX11_line 8 = .ok (.ifCond .ne 5, 3) := fp_hdX11_line_0.1.1.1.2.1.1
theorem dX11_line_11 : decode cX11_line 11 = .ok (.iconst (-1), 1) := fp_hdX11_line_0.1.1.1.2.1.2
theorem dX11_line_12 : decode cX11_line 12 = .ok (.ireturn, 1) := fp_hdX11_line_0.1.1.1.2.2.1
theorem dX11_line_13 : decode cX11_line 13 = .ok (.iload_n 2, 1) := fp_hdX11_line_0.1.1.1.2.2.2
theorem dX11_line_14 : decode cX11_line 14 = .ok (.bipush 10, 2) := fp_hdX11_line_0.1.1.2.1.1.1
theorem dX11_line_16 : decode cX11_line 16 = .ok (.if_icmp .lt 37, 3) := fp_hdX11_line_0.1.1.2.1.1.2
theorem dX11_line_19 : decode cX11_line 19 = .ok (.iload_n 2, 1) := fp_hdX11_line_0.1.1.2.1.2.1
theorem dX11_line_20 : decode cX11_line 20 = .ok (.bipush 10, 2) := fp_hdX11_line_0.1.1.2.1.2.2
theorem dX11_line_22 : decode cX11_line 22 = .ok (.aload_n 0, 1) := fp_hdX11_line_0.1.1.2.2.1.1
theorem dX11_line_23 : decode cX11_line 23 = .ok (.getfield 30, 3) := fp_hdX11_line_0.1.1.2.2.1.2
theorem dX11_line_26 : decode cX11_line 26 = .ok (.getfield 151, 3) := fp_hdX11_line_0.1.1.2.2.2.1
theorem dX11_line_29 : decode cX11_line 29 = .ok (.iload_n 1, 1) := fp_hdX11_line_0.1.1.2.2.2.2
theorem dX11_line_30 : decode cX11_line 30 = .ok (.iaload, 1) := fp_hdX11_line_0.1.2.1.1.1.1
theorem dX11_line_31 : decode cX11_line 31 = .ok (.iadd, 1) := fp_hdX11_line_0.1.2.1.1.1.2
theorem dX11_line_32 : decode cX11_line 32 = .ok (.if_icmp .ge 21, 3) := fp_hdX11_line_0.1.2.1.1.2.1
theorem dX11_line_35 : decode cX11_line 35 = .ok (.aload_n 0, 1) := fp_hdX11_line_0.1.2.1.1.2.2
theorem dX11_line_36 : decode cX11_line 36 = .ok (.getfield 30, 3) := fp_hdX11_line_0.1.2.1.2.1.1
theorem dX11_line_39 : decode cX11_line 39 = .ok (.getfield 153, 3) := fp_hdX11_line_0.1.2.1.2.1.2
theorem dX11_line_42 : decode cX11_line 42 = .ok (.iload_n 1, 1) := fp_hdX11_line_0.1.2.1.2.2.1
theorem dX11_line_43 : decode cX11_line 43 = .ok (.bipush 8, 2) := fp_hdX11_line_0.1.2.1.2.2.2
theorem dX11_line_45 : decode cX11_line 45 = .ok (.imul, 1) := fp_hdX11_line_0.1.2.2.1.1.1
theorem dX11_line_46 : decode cX11_line 46 = .ok (.iload_n 2, 1) := fp_hdX11_line_0.1.2.2.1.1.2
theorem dX11_line_47 : decode cX11_line 47 = .ok (.iadd, 1) := fp_hdX11_line_0.1.2.2.1.2.1
theorem dX11_line_48 : decode cX11_line 48 = .ok (.bipush 10, 2) := fp_hdX11_line_0.1.2.2.1.2.2
theorem dX11_line_50 : decode cX11_line 50 = .ok (.isub, 1) := fp_hdX11_line_0.1.2.2.2.1.1
theorem dX11_line_51 : decode cX11_line 51 = .ok (.iaload, 1) := fp_hdX11_line_0.1.2.2.2.1.2
theorem dX11_line_52 : decode cX11_line 52 = .ok (.ireturn, 1) := fp_hdX11_line_0.1.2.2.2.2.1
theorem dX11_line_53 : decode cX11_line 53 = .ok (.iload_n 2, 1) := fp_hdX11_line_0.1.2.2.2.2.2
theorem fp_hdX11_line_54 : (((((decode cX11_line 54 = .ok (.tableswitch 59 0 2 #[26, 36, 46], 26) ∧ decode cX11_line 80 = .ok (.aload_n 0, 1)) ∧ decode cX11_line 81 = .ok (.getfield 23, 3)) ∧ ((decode cX11_line 84 = .ok (.getfield 156, 3) ∧ decode cX11_line 87 = .ok (.iload_n 1, 1)) ∧ decode cX11_line 88 = .ok (.iaload, 1))) ∧ (((decode cX11_line 89 = .ok (.ireturn, 1) ∧ decode cX11_line 90 = .ok (.aload_n 0, 1)) ∧ decode cX11_line 91 = .ok (.getfield 30, 3)) ∧ (decode cX11_line 94 = .ok (.getfield 151, 3) ∧ decode cX11_line 97 = .ok (.iload_n 1, 1)))) ∧ ((((decode cX11_line 98 = .ok (.iaload, 1) ∧ decode cX11_line 99 = .ok (.ireturn, 1)) ∧ decode cX11_line 100 = .ok (.aload_n 0, 1)) ∧ ((decode cX11_line 101 = .ok (.getfield 30, 3) ∧ decode cX11_line 104 = .ok (.aload_n 0, 1)) ∧ decode cX11_line 105 = .ok (.getfield 23, 3))) ∧ (((decode cX11_line 108 = .ok (.iload_n 1, 1) ∧ decode cX11_line 109 = .ok (.invokevirtual 159, 3)) ∧ decode cX11_line 112 = .ok (.ireturn, 1)) ∧ (decode cX11_line 113 = .ok (.iconst (-1), 1) ∧ decode cX11_line 114 = .ok (.ireturn, 1))))) ∧ bA cX11_line 115 [] :=
  have q0 : decode cX11_line 54 = .ok (.tableswitch 59 0 2 #[26, 36, 46], 26) ∧ bA cX11_line 80 (42 :: 180 :: 0 :: 23 :: 180 :: 0 :: 156 :: 27 :: 46 :: 172 :: 42 :: 180 :: 0 :: 30 :: 180 :: 0 :: 151 :: 27 :: 46 :: 172 :: 42 :: 180 :: 0 :: 30 :: 42 :: 180 :: 0 :: 23 :: 27 :: 182 :: 0 :: 159 :: 172 :: 2 :: 172 :: []) := ⟨fp_dk (by decide +kernel), bA_skip 26 fp_hdX11_line_0.2⟩
  have q1 := fp_o42 q0.2
  have q2 := fp_o180 (v := 23) q1.2 rfl
  have q3 := fp_o180 (v := 156) q2.2 rfl
  have q4 := fp_o27 q3.2
  have q5 := fp_o46 q4.2
  have q6 := fp_o172 q5.2
  have q7 := fp_o42 q6.2
  have q8 := fp_o180 (v := 30) q7.2 rfl
  have q9 := fp_o180 (v := 151) q8.2 rfl
  have q10 := fp_o27 q9.2
  have q11 := fp_o46 q10.2
  have q12 := fp_o172 q11.2
  have q13 := fp_o42 q12.2
  have q14 := fp_o180 (v := 30) q13.2 rfl
  have q15 := fp_o42 q14.2
  have q16 := fp_o180 (v := 23) q15.2 rfl
  have q17 := fp_o27 q16.2
  have q18 := fp_o182 (v := 159) q17.2 rfl
  have q19 := fp_o172 q18.2
  have q20 := fp_o2 q19.2
  have q21 := fp_o172 q20.2
  ⟨⟨⟨⟨⟨⟨q0.1, q1.1⟩, q2.1⟩, ⟨⟨q3.1, q4.1⟩, q5.1⟩⟩, ⟨⟨⟨q6.1, q7.1⟩, q8.1⟩, ⟨q9.1, q10.1⟩⟩⟩, ⟨⟨⟨⟨q11.1, q12.1⟩, q13.1⟩, ⟨⟨q14.1, q15.1⟩, q16.1⟩⟩, ⟨⟨⟨q17.1, q18.1⟩, q19.1⟩, ⟨q20.1, q21.1⟩⟩⟩⟩, q21.2⟩
theorem dX11_line_54 : decode cX11_line 54 = .ok (.tableswitch 59 0 2 #[26, 36, 46], 26) := fp_hdX11_line_54.1.1.1.1.1.1
theorem dX11_line_80 : decode cX11_line 80 = .ok (.aload_n 0, 1) := fp_hdX11_line_54.1.1.1.1.1.2
theorem dX11_line_81 : decode cX11_line 81 = .ok (.getfield 23, 3) := fp_hdX11_line_54.1.1.1.1.2
theorem dX11_line_84 : decode cX11_line 84 = .ok (.getfield 156, 3) := fp_hdX11_line_54.1.1.1.2.1.1
theorem dX11_line_87 : decode cX11_line 87 = .ok (.iload_n 1, 1) := fp_hdX11_line_54.1.1.1.2.1.2
theorem dX11_line_88 : decode cX11_line 88 = .ok (.iaload, 1) := fp_hdX11_line_54.1.1.1.2.2
theorem dX11_line_89 : decode cX11_line 89 = .ok (.ireturn, 1) := fp_hdX11_line_54.1.1.2.1.1.1
theorem dX11_line_90 : decode cX11_line 90 = .ok (.aload_n 0, 1) := fp_hdX11_line_54.1.1.2.1.1.2
theorem dX11_line_91 : decode cX11_line 91 = .ok (.getfield 30, 3) := fp_hdX11_line_54.1.1.2.1.2
theorem dX11_line_94 : decode cX11_line 94 = .ok (.getfield 151, 3) := fp_hdX11_line_54.1.1.2.2.1
theorem dX11_line_97 : decode cX11_line 97 = .ok (.iload_n 1, 1) := fp_hdX11_line_54.1.1.2.2.2
theorem dX11_line_98 : decode cX11_line 98 = .ok (.iaload, 1) := fp_hdX11_line_54.1.2.1.1.1.1
theorem dX11_line_99 : decode cX11_line 99 = .ok (.ireturn, 1) := fp_hdX11_line_54.1.2.1.1.1.2
theorem dX11_line_100 : decode cX11_line 100 = .ok (.aload_n 0, 1) := fp_hdX11_line_54.1.2.1.1.2
theorem dX11_line_101 : decode cX11_line 101 = .ok (.getfield 30, 3) := fp_hdX11_line_54.1.2.1.2.1.1
theorem dX11_line_104 : decode cX11_line 104 = .ok (.aload_n 0, 1) := fp_hdX11_line_54.1.2.1.2.1.2
theorem dX11_line_105 : decode cX11_line 105 = .ok (.getfield 23, 3) := fp_hdX11_line_54.1.2.1.2.2
theorem dX11_line_108 : decode cX11_line 108 = .ok (.iload_n 1, 1) := fp_hdX11_line_54.1.2.2.1.1.1
theorem dX11_line_109 : decode cX11_line 109 = .ok (.invokevirtual 159, 3) := fp_hdX11_line_54.1.2.2.1.1.2
theorem dX11_line_112 : decode cX11_line 112 = .ok (.ireturn, 1) := fp_hdX11_line_54.1.2.2.1.2
theorem dX11_line_113 : decode cX11_line 113 = .ok (.iconst (-1), 1) := fp_hdX11_line_54.1.2.2.2.1
theorem dX11_line_114 : decode cX11_line 114 = .ok (.ireturn, 1) := fp_hdX11_line_54.1.2.2.2.2
def fp_scX11_visit_1 : List Nat := 172 :: 2 :: 172 :: []
def fp_scX11_visit_0 : List Nat := 42 :: 180 :: 0 :: 37 :: 27 :: 182 :: 0 :: 163 :: 154 :: 0 :: 5 :: 2 :: 172 :: 28 :: 170 :: 0 :: 0 :: 0 :: 0 :: 70 :: 0 :: 0 :: 0 :: 0 :: 0 :: 0 :: 0 :: 3 :: 0 :: 0 :: 0 :: 30 :: 0 :: 0 :: 0 :: 40 :: 0 :: 0 :: 0 :: 50 :: 0 :: 0 :: 0 :: 60 :: 42 :: 180 :: 0 :: 37 :: 180 :: 0 :: 166 :: 27 :: 46 :: 172 :: 42 :: 180 :: 0 :: 37 :: 180 :: 0 :: 169 :: 27 :: 46 :: 172 :: 42 :: 180 :: 0 :: 37 :: 180 :: 0 :: 172 :: 27 :: 46 :: 172 :: 42 :: 180 :: 0 :: 37 :: 180 :: 0 :: 175 :: 27 :: 46 :: fp_scX11_visit_1
theorem fp_bcX11_visit : bA cX11_visit 0 fp_scX11_visit_0 := show cX11_visit.data.toList.map UInt8.toNat = fp_scX11_visit_0 from by decide +kernel
theorem fp_hdX11_visit_0 : (((((decode cX11_visit 0 = .ok (.aload_n 0, 1) ∧ decode cX11_visit 1 = .ok (.getfield 37, 3)) ∧ (decode cX11_visit 4 = .ok (.iload_n 1, 1) ∧ decode cX11_visit 5 = .ok (.invokevirtual 163, 3))) ∧ ((decode cX11_visit 8 = .ok (.ifCond .ne 5, 3) ∧ decode cX11_visit 11 = .ok (.iconst (-1), 1)) ∧ (decode cX11_visit 12 = .ok (.ireturn, 1) ∧ decode cX11_visit 13 = .ok (.iload_n 2, 1)))) ∧ (((decode cX11_visit 14 = .ok (.tableswitch 70 0 3 #[30, 40, 50, 60], 30) ∧ decode cX11_visit 44 = .ok (.aload_n 0, 1)) ∧ (decode cX11_visit 45 = .ok (.getfield 37, 3) ∧ decode cX11_visit 48 = .ok (.getfield 166, 3))) ∧ ((decode cX11_visit 51 = .ok (.iload_n 1, 1) ∧ decode cX11_visit 52 = .ok (.iaload, 1)) ∧ (decode cX11_visit 53 = .ok (.ireturn, 1) ∧ decode cX11_visit 54 = .ok (.aload_n 0, 1))))) ∧ ((((decode cX11_visit 55 = .ok (.getfield 37, 3) ∧ decode cX11_visit 58 = .ok (.getfield 169, 3)) ∧ (decode cX11_visit 61 = .ok (.iload_n 1, 1) ∧ decode cX11_visit 62 = .ok (.iaload, 1))) ∧ ((decode cX11_visit 63 = .ok (.ireturn, 1) ∧ decode cX11_visit 64 = .ok (.aload_n 0, 1)) ∧ (decode cX11_visit 65 = .ok (.getfield 37, 3) ∧ decode cX11_visit 68 = .ok (.getfield 172, 3)))) ∧ (((decode cX11_visit 71 = .ok (.iload_n 1, 1) ∧ decode cX11_visit 72 = .ok (.iaload, 1)) ∧ (decode cX11_visit 73 = .ok (.ireturn, 1) ∧ decode cX11_visit 74 = .ok (.aload_n 0, 1))) ∧ ((decode cX11_visit 75 = .ok (.getfield 37, 3) ∧ decode cX11_visit 78 = .ok (.getfield 175, 3)) ∧ (decode cX11_visit 81 = .ok (.iload_n 1, 1) ∧ decode cX11_visit 82 = .ok (.iaload, 1)))))) ∧ bA cX11_visit 83 fp_scX11_visit_1 :=
  have q0 := fp_o42 fp_bcX11_visit
  have q1 := fp_o180 (v := 37) q0.2 rfl
  have q2 := fp_o27 q1.2
  have q3 := fp_o182 (v := 163) q2.2 rfl
  have q4 := fp_o154 (v := 5) q3.2 rfl
  have q5 := fp_o2 q4.2
  have q6 := fp_o172 q5.2
  have q7 := fp_o28 q6.2
  have q8 : decode cX11_visit 14 = .ok (.tableswitch 70 0 3 #[30, 40, 50, 60], 30) ∧ bA cX11_visit 44 (42 :: 180 :: 0 :: 37 :: 180 :: 0 :: 166 :: 27 :: 46 :: 172 :: 42 :: 180 :: 0 :: 37 :: 180 :: 0 :: 169 :: 27 :: 46 :: 172 :: 42 :: 180 :: 0 :: 37 :: 180 :: 0 :: 172 :: 27 :: 46 :: 172 :: 42 :: 180 :: 0 :: 37 :: 180 :: 0 :: 175 :: 27 :: 46 :: fp_scX11_visit_1) := ⟨fp_dk (by decide +kernel), bA_skip 30 q7.2⟩
  have q9 := fp_o42 q8.2
  have q10 := fp_o180 (v := 37) q9.2 rfl
  have q11 := fp_o180 (v := 166) q10.2 rfl
  have q12 := fp_o27 q11.2
  have q13 := fp_o46 q12.2
  have q14 := fp_o172 q13.2
  have q15 := fp_o42 q14.2
  have q16 := fp_o180 (v := 37) q15.2 rfl
  have q17 := fp_o180 (v := 169) q16.2 rfl
  have q18 := fp_o27 q17.2
  have q19 := fp_o46 q18.2
  have q20 := fp_o172 q19.2
  have q21 := fp_o42 q20.2
  have q22 := fp_o180 (v := 37) q21.2 rfl
  have q23 := fp_o180 (v := 172) q22.2 rfl
  have q24 := fp_o27 q23.2
  have q25 := fp_o46 q24.2
  have q26 := fp_o172 q25.2
  have q27 := fp_o42 q26.2
  have q28 := fp_o180 (v := 37) q27.2 rfl
  have q29 := fp_o180 (v := 175) q28.2 rfl
  have q30 := fp_o27 q29.2
  have q31 := fp_o46 q30.2
  ⟨⟨⟨⟨⟨⟨q0.1, q1.1⟩, ⟨q2.1, q3.1⟩⟩, ⟨⟨q4.1, q5.1⟩, ⟨q6.1, q7.1⟩⟩⟩, ⟨⟨⟨q8.1, q9.1⟩, ⟨q10.1, q11.1⟩⟩, ⟨⟨q12.1, q13.1⟩, ⟨q14.1, q15.1⟩⟩⟩⟩, ⟨⟨⟨⟨q16.1, q17.1⟩, ⟨q18.1, q19.1⟩⟩, ⟨⟨q20.1, q21.1⟩, ⟨q22.1, q23.1⟩⟩⟩, ⟨⟨⟨q24.1, q25.1⟩, ⟨q26.1, q27.1⟩⟩, ⟨⟨q28.1, q29.1⟩, ⟨q30.1, q31.1⟩⟩⟩⟩⟩, q31.2⟩
theorem dX11_visit_0 : decode cX11_visit 0 = .ok (.aload_n 0, 1) := fp_hdX11_visit_0.1.1.1.1.1.1
theorem dX11_visit_1 : decode cX11_visit 1 = .ok (.getfield 37, 3) := fp_hdX11_visit_0.1.1.1.1.1.2
theorem dX11_visit_4 : decode cX11_visit 4 = .ok (.iload_n 1, 1) := fp_hdX11_visit_0.1.1.1.1.2.1
theorem dX11_visit_5 : decode cX11_visit 5 = .ok (.invokevirtual 163, 3) := fp_hdX11_visit_0.1.1.1.1.2.2
theorem dX11_visit_8 : decode cX11_visit 8 = .ok (.ifCond .ne 5, 3) := fp_hdX11_visit_0.1.1.1.2.1.1
theorem dX11_visit_11 : decode cX11_visit 11 = .ok (.iconst (-1), 1) := fp_hdX11_visit_0.1.1.1.2.1.2
theorem dX11_visit_12 : decode cX11_visit 12 = .ok (.ireturn, 1) := fp_hdX11_visit_0.1.1.1.2.2.1
theorem dX11_visit_13 : decode cX11_visit 13 = .ok (.iload_n 2, 1) := fp_hdX11_visit_0.1.1.1.2.2.2
theorem dX11_visit_14 : decode cX11_visit 14 = .ok (.tableswitch 70 0 3 #[30, 40, 50, 60], 30) := fp_hdX11_visit_0.1.1.2.1.1.1
theorem dX11_visit_44 : decode cX11_visit 44 = .ok (.aload_n 0, 1) := fp_hdX11_visit_0.1.1.2.1.1.2
theorem dX11_visit_45 : decode cX11_visit 45 = .ok (.getfield 37, 3) := fp_hdX11_visit_0.1.1.2.1.2.1
theorem dX11_visit_48 : decode cX11_visit 48 = .ok (.getfield 166, 3) := fp_hdX11_visit_0.1.1.2.1.2.2
theorem dX11_visit_51 : decode cX11_visit 51 = .ok (.iload_n 1, 1) := fp_hdX11_visit_0.1.1.2.2.1.1
theorem dX11_visit_52 : decode cX11_visit 52 = .ok (.iaload, 1) := fp_hdX11_visit_0.1.1.2.2.1.2
theorem dX11_visit_53 : decode cX11_visit 53 = .ok (.ireturn, 1) := fp_hdX11_visit_0.1.1.2.2.2.1
theorem dX11_visit_54 : decode cX11_visit 54 = .ok (.aload_n 0, 1) := fp_hdX11_visit_0.1.1.2.2.2.2
theorem dX11_visit_55 : decode cX11_visit 55 = .ok (.getfield 37, 3) := fp_hdX11_visit_0.1.2.1.1.1.1
theorem dX11_visit_58 : decode cX11_visit 58 = .ok (.getfield 169, 3) := fp_hdX11_visit_0.1.2.1.1.1.2
theorem dX11_visit_61 : decode cX11_visit 61 = .ok (.iload_n 1, 1) := fp_hdX11_visit_0.1.2.1.1.2.1
theorem dX11_visit_62 : decode cX11_visit 62 = .ok (.iaload, 1) := fp_hdX11_visit_0.1.2.1.1.2.2
theorem dX11_visit_63 : decode cX11_visit 63 = .ok (.ireturn, 1) := fp_hdX11_visit_0.1.2.1.2.1.1
theorem dX11_visit_64 : decode cX11_visit 64 = .ok (.aload_n 0, 1) := fp_hdX11_visit_0.1.2.1.2.1.2
theorem dX11_visit_65 : decode cX11_visit 65 = .ok (.getfield 37, 3) := fp_hdX11_visit_0.1.2.1.2.2.1
theorem dX11_visit_68 : decode cX11_visit 68 = .ok (.getfield 172, 3) := fp_hdX11_visit_0.1.2.1.2.2.2
theorem dX11_visit_71 : decode cX11_visit 71 = .ok (.iload_n 1, 1) := fp_hdX11_visit_0.1.2.2.1.1.1
theorem dX11_visit_72 : decode cX11_visit 72 = .ok (.iaload, 1) := fp_hdX11_visit_0.1.2.2.1.1.2
theorem dX11_visit_73 : decode cX11_visit 73 = .ok (.ireturn, 1) := fp_hdX11_visit_0.1.2.2.1.2.1
theorem dX11_visit_74 : decode cX11_visit 74 = .ok (.aload_n 0, 1) := fp_hdX11_visit_0.1.2.2.1.2.2
theorem dX11_visit_75 : decode cX11_visit 75 = .ok (.getfield 37, 3) := fp_hdX11_visit_0.1.2.2.2.1.1
theorem dX11_visit_78 : decode cX11_visit 78 = .ok (.getfield 175, 3) := fp_hdX11_visit_0.1.2.2.2.1.2
theorem dX11_visit_81 : decode cX11_visit 81 = .ok (.iload_n 1, 1) := fp_hdX11_visit_0.1.2.2.2.2.1
theorem dX11_visit_82 : decode cX11_visit 82 = .ok (.iaload, 1) := fp_hdX11_visit_0.1.2.2.2.2.2
theorem fp_hdX11_visit_83 : ((decode cX11_visit 83 = .ok (.ireturn, 1) ∧ decode cX11_visit 84 = .ok (.iconst (-1), 1)) ∧ decode cX11_visit 85 = .ok (.ireturn, 1)) ∧ bA cX11_visit 86 [] :=
  have q0 := fp_o172 fp_hdX11_visit_0.2
  have q1 := fp_o2 q0.2
  have q2 := fp_o172 q1.2
  ⟨⟨⟨q0.1, q1.1⟩, q2.1⟩, q2.2⟩
theorem dX11_visit_83 : decode cX11_visit 83 = .ok (.ireturn, 1) := fp_hdX11_visit_83.1.1.1
theorem dX11_visit_84 : decode cX11_visit 84 = .ok (.iconst (-1), 1) := fp_hdX11_visit_83.1.1.2
theorem dX11_visit_85 : decode cX11_visit 85 = .ok (.ireturn, 1) := fp_hdX11_visit_83.1.2
def fp_scX11_chance_0 : List Nat := 27 :: 155 :: 0 :: 9 :: 27 :: 16 :: 10 :: 164 :: 0 :: 5 :: 2 :: 172 :: 42 :: 180 :: 0 :: 23 :: 180 :: 0 :: 178 :: 61 :: 42 :: 180 :: 0 :: 23 :: 27 :: 181 :: 0 :: 178 :: 28 :: 172 :: []
theorem fp_bcX11_chance : bA cX11_chance 0 fp_scX11_chance_0 := show cX11_chance.data.toList.map UInt8.toNat = fp_scX11_chance_0 from by decide +kernel
theorem fp_hdX11_chance_0 : (((((decode cX11_chance 0 = .ok (.iload_n 1, 1) ∧ decode cX11_chance 1 = .ok (.ifCond .lt 9, 3)) ∧ decode cX11_chance 4 = .ok (.iload_n 1, 1)) ∧ (decode cX11_chance 5 = .ok (.bipush 10, 2) ∧ decode cX11_chance 7 = .ok (.if_icmp .le 5, 3))) ∧ ((decode cX11_chance 10 = .ok (.iconst (-1), 1) ∧ decode cX11_chance 11 = .ok (.ireturn, 1)) ∧ (decode cX11_chance 12 = .ok (.aload_n 0, 1) ∧ decode cX11_chance 13 = .ok (.getfield 23, 3)))) ∧ (((decode cX11_chance 16 = .ok (.getfield 178, 3) ∧ decode cX11_chance 19 = .ok (.istore_n 2, 1)) ∧ (decode cX11_chance 20 = .ok (.aload_n 0, 1) ∧ decode cX11_chance 21 = .ok (.getfield 23, 3))) ∧ ((decode cX11_chance 24 = .ok (.iload_n 1, 1) ∧ decode cX11_chance 25 = .ok (.putfield 178, 3)) ∧ (decode cX11_chance 28 = .ok (.iload_n 2, 1) ∧ decode cX11_chance 29 = .ok (.ireturn, 1))))) ∧ bA cX11_chance 30 [] :=
  have q0 := fp_o27 fp_bcX11_chance
  have q1 := fp_o155 (v := 9) q0.2 rfl
  have q2 := fp_o27 q1.2
  have q3 := fp_o16 (v := 10) q2.2 rfl
  have q4 := fp_o164 (v := 5) q3.2 rfl
  have q5 := fp_o2 q4.2
  have q6 := fp_o172 q5.2
  have q7 := fp_o42 q6.2
  have q8 := fp_o180 (v := 23) q7.2 rfl
  have q9 := fp_o180 (v := 178) q8.2 rfl
  have q10 := fp_o61 q9.2
  have q11 := fp_o42 q10.2
  have q12 := fp_o180 (v := 23) q11.2 rfl
  have q13 := fp_o27 q12.2
  have q14 := fp_o181 (v := 178) q13.2 rfl
  have q15 := fp_o28 q14.2
  have q16 := fp_o172 q15.2
  ⟨⟨⟨⟨⟨⟨q0.1, q1.1⟩, q2.1⟩, ⟨q3.1, q4.1⟩⟩, ⟨⟨q5.1, q6.1⟩, ⟨q7.1, q8.1⟩⟩⟩, ⟨⟨⟨q9.1, q10.1⟩, ⟨q11.1, q12.1⟩⟩, ⟨⟨q13.1, q14.1⟩, ⟨q15.1, q16.1⟩⟩⟩⟩, q16.2⟩
theorem dX11_chance_0 : decode cX11_chance 0 = .ok (.iload_n 1, 1) := fp_hdX11_chance_0.1.1.1.1.1.1
theorem dX11_chance_1 : decode cX11_chance 1 = .ok (.ifCond .lt 9, 3) := fp_hdX11_chance_0.1.1.1.1.1.2
theorem dX11_chance_4 : decode cX11_chance 4 = .ok (.iload_n 1, 1) := fp_hdX11_chance_0.1.1.1.1.2
theorem dX11_chance_5 : decode cX11_chance 5 = .ok (.bipush 10, 2) := fp_hdX11_chance_0.1.1.1.2.1
theorem dX11_chance_7 : decode cX11_chance 7 = .ok (.if_icmp .le 5, 3) := fp_hdX11_chance_0.1.1.1.2.2
theorem dX11_chance_10 : decode cX11_chance 10 = .ok (.iconst (-1), 1) := fp_hdX11_chance_0.1.1.2.1.1
theorem dX11_chance_11 : decode cX11_chance 11 = .ok (.ireturn, 1) := fp_hdX11_chance_0.1.1.2.1.2
theorem dX11_chance_12 : decode cX11_chance 12 = .ok (.aload_n 0, 1) := fp_hdX11_chance_0.1.1.2.2.1
theorem dX11_chance_13 : decode cX11_chance 13 = .ok (.getfield 23, 3) := fp_hdX11_chance_0.1.1.2.2.2
theorem dX11_chance_16 : decode cX11_chance 16 = .ok (.getfield 178, 3) := fp_hdX11_chance_0.1.2.1.1.1
theorem dX11_chance_19 : decode cX11_chance 19 = .ok (.istore_n 2, 1) := fp_hdX11_chance_0.1.2.1.1.2
theorem dX11_chance_20 : decode cX11_chance 20 = .ok (.aload_n 0, 1) := fp_hdX11_chance_0.1.2.1.2.1
theorem dX11_chance_21 : decode cX11_chance 21 = .ok (.getfield 23, 3) := fp_hdX11_chance_0.1.2.1.2.2
theorem dX11_chance_24 : decode cX11_chance 24 = .ok (.iload_n 1, 1) := fp_hdX11_chance_0.1.2.2.1.1
theorem dX11_chance_25 : decode cX11_chance 25 = .ok (.putfield 178, 3) := fp_hdX11_chance_0.1.2.2.1.2
theorem dX11_chance_28 : decode cX11_chance 28 = .ok (.iload_n 2, 1) := fp_hdX11_chance_0.1.2.2.2.1
theorem dX11_chance_29 : decode cX11_chance 29 = .ok (.ireturn, 1) := fp_hdX11_chance_0.1.2.2.2.2
def fp_scX11_holds_0 : List Nat := 27 :: 184 :: 0 :: 181 :: 153 :: 0 :: 14 :: 42 :: 180 :: 0 :: 30 :: 27 :: 182 :: 0 :: 184 :: 167 :: 0 :: 4 :: 2 :: 172 :: []
theorem fp_bcX11_holds : bA cX11_holds 0 fp_scX11_holds_0 := show cX11_holds.data.toList.map UInt8.toNat = fp_scX11_holds_0 from by decide +kernel
theorem fp_hdX11_holds_0 : ((((decode cX11_holds 0 = .ok (.iload_n 1, 1) ∧ decode cX11_holds 1 = .ok (.invokestatic 181, 3)) ∧ decode cX11_holds 4 = .ok (.ifCond .eq 14, 3)) ∧ (decode cX11_holds 7 = .ok (.aload_n 0, 1) ∧ decode cX11_holds 8 = .ok (.getfield 30, 3))) ∧ (((decode cX11_holds 11 = .ok (.iload_n 1, 1) ∧ decode cX11_holds 12 = .ok (.invokevirtual 184, 3)) ∧ decode cX11_holds 15 = .ok (.goto 4, 3)) ∧ (decode cX11_holds 18 = .ok (.iconst (-1), 1) ∧ decode cX11_holds 19 = .ok (.ireturn, 1)))) ∧ bA cX11_holds 20 [] :=
  have q0 := fp_o27 fp_bcX11_holds
  have q1 := fp_o184 (v := 181) q0.2 rfl
  have q2 := fp_o153 (v := 14) q1.2 rfl
  have q3 := fp_o42 q2.2
  have q4 := fp_o180 (v := 30) q3.2 rfl
  have q5 := fp_o27 q4.2
  have q6 := fp_o182 (v := 184) q5.2 rfl
  have q7 := fp_o167 (v := 4) q6.2 rfl
  have q8 := fp_o2 q7.2
  have q9 := fp_o172 q8.2
  ⟨⟨⟨⟨⟨q0.1, q1.1⟩, q2.1⟩, ⟨q3.1, q4.1⟩⟩, ⟨⟨⟨q5.1, q6.1⟩, q7.1⟩, ⟨q8.1, q9.1⟩⟩⟩, q9.2⟩
theorem dX11_holds_0 : decode cX11_holds 0 = .ok (.iload_n 1, 1) := fp_hdX11_holds_0.1.1.1.1.1
theorem dX11_holds_1 : decode cX11_holds 1 = .ok (.invokestatic 181, 3) := fp_hdX11_holds_0.1.1.1.1.2
theorem dX11_holds_4 : decode cX11_holds 4 = .ok (.ifCond .eq 14, 3) := fp_hdX11_holds_0.1.1.1.2
theorem dX11_holds_7 : decode cX11_holds 7 = .ok (.aload_n 0, 1) := fp_hdX11_holds_0.1.1.2.1
theorem dX11_holds_8 : decode cX11_holds 8 = .ok (.getfield 30, 3) := fp_hdX11_holds_0.1.1.2.2
theorem dX11_holds_11 : decode cX11_holds 11 = .ok (.iload_n 1, 1) := fp_hdX11_holds_0.1.2.1.1.1
theorem dX11_holds_12 : decode cX11_holds 12 = .ok (.invokevirtual 184, 3) := fp_hdX11_holds_0.1.2.1.1.2
theorem dX11_holds_15 : decode cX11_holds 15 = .ok (.goto 4, 3) := fp_hdX11_holds_0.1.2.1.2
theorem dX11_holds_18 : decode cX11_holds 18 = .ok (.iconst (-1), 1) := fp_hdX11_holds_0.1.2.2.1
theorem dX11_holds_19 : decode cX11_holds 19 = .ok (.ireturn, 1) := fp_hdX11_holds_0.1.2.2.2
def fp_scX11_worth_0 : List Nat := 27 :: 184 :: 0 :: 181 :: 153 :: 0 :: 18 :: 42 :: 180 :: 0 :: 30 :: 42 :: 180 :: 0 :: 23 :: 27 :: 182 :: 0 :: 187 :: 167 :: 0 :: 4 :: 2 :: 172 :: []
theorem fp_bcX11_worth : bA cX11_worth 0 fp_scX11_worth_0 := show cX11_worth.data.toList.map UInt8.toNat = fp_scX11_worth_0 from by decide +kernel
theorem fp_hdX11_worth_0 : ((((decode cX11_worth 0 = .ok (.iload_n 1, 1) ∧ decode cX11_worth 1 = .ok (.invokestatic 181, 3)) ∧ decode cX11_worth 4 = .ok (.ifCond .eq 18, 3)) ∧ ((decode cX11_worth 7 = .ok (.aload_n 0, 1) ∧ decode cX11_worth 8 = .ok (.getfield 30, 3)) ∧ decode cX11_worth 11 = .ok (.aload_n 0, 1))) ∧ (((decode cX11_worth 12 = .ok (.getfield 23, 3) ∧ decode cX11_worth 15 = .ok (.iload_n 1, 1)) ∧ decode cX11_worth 16 = .ok (.invokevirtual 187, 3)) ∧ ((decode cX11_worth 19 = .ok (.goto 4, 3) ∧ decode cX11_worth 22 = .ok (.iconst (-1), 1)) ∧ decode cX11_worth 23 = .ok (.ireturn, 1)))) ∧ bA cX11_worth 24 [] :=
  have q0 := fp_o27 fp_bcX11_worth
  have q1 := fp_o184 (v := 181) q0.2 rfl
  have q2 := fp_o153 (v := 18) q1.2 rfl
  have q3 := fp_o42 q2.2
  have q4 := fp_o180 (v := 30) q3.2 rfl
  have q5 := fp_o42 q4.2
  have q6 := fp_o180 (v := 23) q5.2 rfl
  have q7 := fp_o27 q6.2
  have q8 := fp_o182 (v := 187) q7.2 rfl
  have q9 := fp_o167 (v := 4) q8.2 rfl
  have q10 := fp_o2 q9.2
  have q11 := fp_o172 q10.2
  ⟨⟨⟨⟨⟨q0.1, q1.1⟩, q2.1⟩, ⟨⟨q3.1, q4.1⟩, q5.1⟩⟩, ⟨⟨⟨q6.1, q7.1⟩, q8.1⟩, ⟨⟨q9.1, q10.1⟩, q11.1⟩⟩⟩, q11.2⟩
theorem dX11_worth_0 : decode cX11_worth 0 = .ok (.iload_n 1, 1) := fp_hdX11_worth_0.1.1.1.1.1
theorem dX11_worth_1 : decode cX11_worth 1 = .ok (.invokestatic 181, 3) := fp_hdX11_worth_0.1.1.1.1.2
theorem dX11_worth_4 : decode cX11_worth 4 = .ok (.ifCond .eq 18, 3) := fp_hdX11_worth_0.1.1.1.2
theorem dX11_worth_7 : decode cX11_worth 7 = .ok (.aload_n 0, 1) := fp_hdX11_worth_0.1.1.2.1.1
theorem dX11_worth_8 : decode cX11_worth 8 = .ok (.getfield 30, 3) := fp_hdX11_worth_0.1.1.2.1.2
theorem dX11_worth_11 : decode cX11_worth 11 = .ok (.aload_n 0, 1) := fp_hdX11_worth_0.1.1.2.2
theorem dX11_worth_12 : decode cX11_worth 12 = .ok (.getfield 23, 3) := fp_hdX11_worth_0.1.2.1.1.1
theorem dX11_worth_15 : decode cX11_worth 15 = .ok (.iload_n 1, 1) := fp_hdX11_worth_0.1.2.1.1.2
theorem dX11_worth_16 : decode cX11_worth 16 = .ok (.invokevirtual 187, 3) := fp_hdX11_worth_0.1.2.1.2
theorem dX11_worth_19 : decode cX11_worth 19 = .ok (.goto 4, 3) := fp_hdX11_worth_0.1.2.2.1.1
theorem dX11_worth_22 : decode cX11_worth 22 = .ok (.iconst (-1), 1) := fp_hdX11_worth_0.1.2.2.1.2
theorem dX11_worth_23 : decode cX11_worth 23 = .ok (.ireturn, 1) := fp_hdX11_worth_0.1.2.2.2
def fp_scX11_put_1 : List Nat := 180 :: 0 :: 30 :: 180 :: 0 :: 151 :: 29 :: 46 :: 4 :: 100 :: 167 :: 0 :: 5 :: 16 :: 253 :: 172 :: []
def fp_scX11_put_0 : List Nat := 27 :: 184 :: 0 :: 181 :: 153 :: 0 :: 25 :: 42 :: 180 :: 0 :: 23 :: 28 :: 182 :: 0 :: 126 :: 153 :: 0 :: 14 :: 42 :: 180 :: 0 :: 23 :: 29 :: 182 :: 0 :: 148 :: 154 :: 0 :: 5 :: 2 :: 172 :: 42 :: 180 :: 0 :: 30 :: 180 :: 0 :: 138 :: 28 :: 46 :: 27 :: 159 :: 0 :: 6 :: 16 :: 254 :: 172 :: 42 :: 180 :: 0 :: 30 :: 27 :: 28 :: 29 :: 182 :: 0 :: 190 :: 153 :: 0 :: 17 :: 42 :: fp_scX11_put_1
theorem fp_bcX11_put : bA cX11_put 0 fp_scX11_put_0 := show cX11_put.data.toList.map UInt8.toNat = fp_scX11_put_0 from by decide +kernel
theorem fp_hdX11_put_0 : (((((decode cX11_put 0 = .ok (.iload_n 1, 1) ∧ decode cX11_put 1 = .ok (.invokestatic 181, 3)) ∧ (decode cX11_put 4 = .ok (.ifCond .eq 25, 3) ∧ decode cX11_put 7 = .ok (.aload_n 0, 1))) ∧ ((decode cX11_put 8 = .ok (.getfield 23, 3) ∧ decode cX11_put 11 = .ok (.iload_n 2, 1)) ∧ (decode cX11_put 12 = .ok (.invokevirtual 126, 3) ∧ decode cX11_put 15 = .ok (.ifCond .eq 14, 3)))) ∧ (((decode cX11_put 18 = .ok (.aload_n 0, 1) ∧ decode cX11_put 19 = .ok (.getfield 23, 3)) ∧ (decode cX11_put 22 = .ok (.iload_n 3, 1) ∧ decode cX11_put 23 = .ok (.invokevirtual 148, 3))) ∧ ((decode cX11_put 26 = .ok (.ifCond .ne 5, 3) ∧ decode cX11_put 29 = .ok (.iconst (-1), 1)) ∧ (decode cX11_put 30 = .ok (.ireturn, 1) ∧ decode cX11_put 31 = .ok (.aload_n 0, 1))))) ∧ ((((decode cX11_put 32 = .ok (.getfield 30, 3) ∧ decode cX11_put 35 = .ok (.getfield 138, 3)) ∧ (decode cX11_put 38 = .ok (.iload_n 2, 1) ∧ decode cX11_put 39 = .ok (.iaload, 1))) ∧ ((decode cX11_put 40 = .ok (.iload_n 1, 1) ∧ decode cX11_put 41 = .ok (.if_icmp .eq 6, 3)) ∧ (decode cX11_put 44 = .ok (.bipush (-2), 2) ∧ decode cX11_put 46 = .ok (.ireturn, 1)))) ∧ (((decode cX11_put 47 = .ok (.aload_n 0, 1) ∧ decode cX11_put 48 = .ok (.getfield 30, 3)) ∧ (decode cX11_put 51 = .ok (.iload_n 1, 1) ∧ decode cX11_put 52 = .ok (.iload_n 2, 1))) ∧ ((decode cX11_put 53 = .ok (.iload_n 3, 1) ∧ decode cX11_put 54 = .ok (.invokevirtual 190, 3)) ∧ (decode cX11_put 57 = .ok (.ifCond .eq 17, 3) ∧ decode cX11_put 60 = .ok (.aload_n 0, 1)))))) ∧ bA cX11_put 61 fp_scX11_put_1 :=
  have q0 := fp_o27 fp_bcX11_put
  have q1 := fp_o184 (v := 181) q0.2 rfl
  have q2 := fp_o153 (v := 25) q1.2 rfl
  have q3 := fp_o42 q2.2
  have q4 := fp_o180 (v := 23) q3.2 rfl
  have q5 := fp_o28 q4.2
  have q6 := fp_o182 (v := 126) q5.2 rfl
  have q7 := fp_o153 (v := 14) q6.2 rfl
  have q8 := fp_o42 q7.2
  have q9 := fp_o180 (v := 23) q8.2 rfl
  have q10 := fp_o29 q9.2
  have q11 := fp_o182 (v := 148) q10.2 rfl
  have q12 := fp_o154 (v := 5) q11.2 rfl
  have q13 := fp_o2 q12.2
  have q14 := fp_o172 q13.2
  have q15 := fp_o42 q14.2
  have q16 := fp_o180 (v := 30) q15.2 rfl
  have q17 := fp_o180 (v := 138) q16.2 rfl
  have q18 := fp_o28 q17.2
  have q19 := fp_o46 q18.2
  have q20 := fp_o27 q19.2
  have q21 := fp_o159 (v := 6) q20.2 rfl
  have q22 := fp_o16 (v := (-2)) q21.2 rfl
  have q23 := fp_o172 q22.2
  have q24 := fp_o42 q23.2
  have q25 := fp_o180 (v := 30) q24.2 rfl
  have q26 := fp_o27 q25.2
  have q27 := fp_o28 q26.2
  have q28 := fp_o29 q27.2
  have q29 := fp_o182 (v := 190) q28.2 rfl
  have q30 := fp_o153 (v := 17) q29.2 rfl
  have q31 := fp_o42 q30.2
  ⟨⟨⟨⟨⟨⟨q0.1, q1.1⟩, ⟨q2.1, q3.1⟩⟩, ⟨⟨q4.1, q5.1⟩, ⟨q6.1, q7.1⟩⟩⟩, ⟨⟨⟨q8.1, q9.1⟩, ⟨q10.1, q11.1⟩⟩, ⟨⟨q12.1, q13.1⟩, ⟨q14.1, q15.1⟩⟩⟩⟩, ⟨⟨⟨⟨q16.1, q17.1⟩, ⟨q18.1, q19.1⟩⟩, ⟨⟨q20.1, q21.1⟩, ⟨q22.1, q23.1⟩⟩⟩, ⟨⟨⟨q24.1, q25.1⟩, ⟨q26.1, q27.1⟩⟩, ⟨⟨q28.1, q29.1⟩, ⟨q30.1, q31.1⟩⟩⟩⟩⟩, q31.2⟩
theorem dX11_put_0 : decode cX11_put 0 = .ok (.iload_n 1, 1) := fp_hdX11_put_0.1.1.1.1.1.1
theorem dX11_put_1 : decode cX11_put 1 = .ok (.invokestatic 181, 3) := fp_hdX11_put_0.1.1.1.1.1.2
theorem dX11_put_4 : decode cX11_put 4 = .ok (.ifCond .eq 25, 3) := fp_hdX11_put_0.1.1.1.1.2.1
theorem dX11_put_7 : decode cX11_put 7 = .ok (.aload_n 0, 1) := fp_hdX11_put_0.1.1.1.1.2.2
theorem dX11_put_8 : decode cX11_put 8 = .ok (.getfield 23, 3) := fp_hdX11_put_0.1.1.1.2.1.1
theorem dX11_put_11 : decode cX11_put 11 = .ok (.iload_n 2, 1) := fp_hdX11_put_0.1.1.1.2.1.2
theorem dX11_put_12 : decode cX11_put 12 = .ok (.invokevirtual 126, 3) := fp_hdX11_put_0.1.1.1.2.2.1
theorem dX11_put_15 : decode cX11_put 15 = .ok (.ifCond .eq 14, 3) := fp_hdX11_put_0.1.1.1.2.2.2
theorem dX11_put_18 : decode cX11_put 18 = .ok (.aload_n 0, 1) := fp_hdX11_put_0.1.1.2.1.1.1
theorem dX11_put_19 : decode cX11_put 19 = .ok (.getfield 23, 3) := fp_hdX11_put_0.1.1.2.1.1.2
theorem dX11_put_22 : decode cX11_put 22 = .ok (.iload_n 3, 1) := fp_hdX11_put_0.1.1.2.1.2.1
theorem dX11_put_23 : decode cX11_put 23 = .ok (.invokevirtual 148, 3) := fp_hdX11_put_0.1.1.2.1.2.2
theorem dX11_put_26 : decode cX11_put 26 = .ok (.ifCond .ne 5, 3) := fp_hdX11_put_0.1.1.2.2.1.1
theorem dX11_put_29 : decode cX11_put 29 = .ok (.iconst (-1), 1) := fp_hdX11_put_0.1.1.2.2.1.2
theorem dX11_put_30 : decode cX11_put 30 = .ok (.ireturn, 1) := fp_hdX11_put_0.1.1.2.2.2.1
theorem dX11_put_31 : decode cX11_put 31 = .ok (.aload_n 0, 1) := fp_hdX11_put_0.1.1.2.2.2.2
theorem dX11_put_32 : decode cX11_put 32 = .ok (.getfield 30, 3) := fp_hdX11_put_0.1.2.1.1.1.1
theorem dX11_put_35 : decode cX11_put 35 = .ok (.getfield 138, 3) := fp_hdX11_put_0.1.2.1.1.1.2
theorem dX11_put_38 : decode cX11_put 38 = .ok (.iload_n 2, 1) := fp_hdX11_put_0.1.2.1.1.2.1
theorem dX11_put_39 : decode cX11_put 39 = .ok (.iaload, 1) := fp_hdX11_put_0.1.2.1.1.2.2
theorem dX11_put_40 : decode cX11_put 40 = .ok (.iload_n 1, 1) := fp_hdX11_put_0.1.2.1.2.1.1
theorem dX11_put_41 : decode cX11_put 41 = .ok (.if_icmp .eq 6, 3) := fp_hdX11_put_0.1.2.1.2.1.2
theorem dX11_put_44 : decode cX11_put 44 = .ok (.bipush (-2), 2) := fp_hdX11_put_0.1.2.1.2.2.1
theorem dX11_put_46 : decode cX11_put 46 = .ok (.ireturn, 1) := fp_hdX11_put_0.1.2.1.2.2.2
theorem dX11_put_47 : decode cX11_put 47 = .ok (.aload_n 0, 1) := fp_hdX11_put_0.1.2.2.1.1.1
theorem dX11_put_48 : decode cX11_put 48 = .ok (.getfield 30, 3) := fp_hdX11_put_0.1.2.2.1.1.2
theorem dX11_put_51 : decode cX11_put 51 = .ok (.iload_n 1, 1) := fp_hdX11_put_0.1.2.2.1.2.1
theorem dX11_put_52 : decode cX11_put 52 = .ok (.iload_n 2, 1) := fp_hdX11_put_0.1.2.2.1.2.2
theorem dX11_put_53 : decode cX11_put 53 = .ok (.iload_n 3, 1) := fp_hdX11_put_0.1.2.2.2.1.1
theorem dX11_put_54 : decode cX11_put 54 = .ok (.invokevirtual 190, 3) := fp_hdX11_put_0.1.2.2.2.1.2
theorem dX11_put_57 : decode cX11_put 57 = .ok (.ifCond .eq 17, 3) := fp_hdX11_put_0.1.2.2.2.2.1
theorem dX11_put_60 : decode cX11_put 60 = .ok (.aload_n 0, 1) := fp_hdX11_put_0.1.2.2.2.2.2
theorem fp_hdX11_put_61 : ((((decode cX11_put 61 = .ok (.getfield 30, 3) ∧ decode cX11_put 64 = .ok (.getfield 151, 3)) ∧ decode cX11_put 67 = .ok (.iload_n 3, 1)) ∧ (decode cX11_put 68 = .ok (.iaload, 1) ∧ decode cX11_put 69 = .ok (.iconst 1, 1))) ∧ ((decode cX11_put 70 = .ok (.isub, 1) ∧ decode cX11_put 71 = .ok (.goto 5, 3)) ∧ (decode cX11_put 74 = .ok (.bipush (-3), 2) ∧ decode cX11_put 76 = .ok (.ireturn, 1)))) ∧ bA cX11_put 77 [] :=
  have q0 := fp_o180 (v := 30) fp_hdX11_put_0.2 rfl
  have q1 := fp_o180 (v := 151) q0.2 rfl
  have q2 := fp_o29 q1.2
  have q3 := fp_o46 q2.2
  have q4 := fp_o4 q3.2
  have q5 := fp_o100 q4.2
  have q6 := fp_o167 (v := 5) q5.2 rfl
  have q7 := fp_o16 (v := (-3)) q6.2 rfl
  have q8 := fp_o172 q7.2
  ⟨⟨⟨⟨⟨q0.1, q1.1⟩, q2.1⟩, ⟨q3.1, q4.1⟩⟩, ⟨⟨q5.1, q6.1⟩, ⟨q7.1, q8.1⟩⟩⟩, q8.2⟩
theorem dX11_put_61 : decode cX11_put 61 = .ok (.getfield 30, 3) := fp_hdX11_put_61.1.1.1.1.1
theorem dX11_put_64 : decode cX11_put 64 = .ok (.getfield 151, 3) := fp_hdX11_put_61.1.1.1.1.2
theorem dX11_put_67 : decode cX11_put 67 = .ok (.iload_n 3, 1) := fp_hdX11_put_61.1.1.1.2
theorem dX11_put_68 : decode cX11_put 68 = .ok (.iaload, 1) := fp_hdX11_put_61.1.1.2.1
theorem dX11_put_69 : decode cX11_put 69 = .ok (.iconst 1, 1) := fp_hdX11_put_61.1.1.2.2
theorem dX11_put_70 : decode cX11_put 70 = .ok (.isub, 1) := fp_hdX11_put_61.1.2.1.1
theorem dX11_put_71 : decode cX11_put 71 = .ok (.goto 5, 3) := fp_hdX11_put_61.1.2.1.2
theorem dX11_put_74 : decode cX11_put 74 = .ok (.bipush (-3), 2) := fp_hdX11_put_61.1.2.2.1
theorem dX11_put_76 : decode cX11_put 76 = .ok (.ireturn, 1) := fp_hdX11_put_61.1.2.2.2
def fp_scX11_draw_0 : List Nat := 27 :: 184 :: 0 :: 181 :: 153 :: 0 :: 14 :: 42 :: 180 :: 0 :: 23 :: 28 :: 182 :: 0 :: 148 :: 154 :: 0 :: 5 :: 2 :: 172 :: 42 :: 180 :: 0 :: 30 :: 42 :: 180 :: 0 :: 23 :: 27 :: 28 :: 182 :: 0 :: 194 :: 172 :: []
theorem fp_bcX11_draw : bA cX11_draw 0 fp_scX11_draw_0 := show cX11_draw.data.toList.map UInt8.toNat = fp_scX11_draw_0 from by decide +kernel
theorem fp_hdX11_draw_0 : (((((decode cX11_draw 0 = .ok (.iload_n 1, 1) ∧ decode cX11_draw 1 = .ok (.invokestatic 181, 3)) ∧ decode cX11_draw 4 = .ok (.ifCond .eq 14, 3)) ∧ (decode cX11_draw 7 = .ok (.aload_n 0, 1) ∧ decode cX11_draw 8 = .ok (.getfield 23, 3))) ∧ ((decode cX11_draw 11 = .ok (.iload_n 2, 1) ∧ decode cX11_draw 12 = .ok (.invokevirtual 148, 3)) ∧ (decode cX11_draw 15 = .ok (.ifCond .ne 5, 3) ∧ decode cX11_draw 18 = .ok (.iconst (-1), 1)))) ∧ ((((decode cX11_draw 19 = .ok (.ireturn, 1) ∧ decode cX11_draw 20 = .ok (.aload_n 0, 1)) ∧ decode cX11_draw 21 = .ok (.getfield 30, 3)) ∧ (decode cX11_draw 24 = .ok (.aload_n 0, 1) ∧ decode cX11_draw 25 = .ok (.getfield 23, 3))) ∧ ((decode cX11_draw 28 = .ok (.iload_n 1, 1) ∧ decode cX11_draw 29 = .ok (.iload_n 2, 1)) ∧ (decode cX11_draw 30 = .ok (.invokevirtual 194, 3) ∧ decode cX11_draw 33 = .ok (.ireturn, 1))))) ∧ bA cX11_draw 34 [] :=
  have q0 := fp_o27 fp_bcX11_draw
  have q1 := fp_o184 (v := 181) q0.2 rfl
  have q2 := fp_o153 (v := 14) q1.2 rfl
  have q3 := fp_o42 q2.2
  have q4 := fp_o180 (v := 23) q3.2 rfl
  have q5 := fp_o28 q4.2
  have q6 := fp_o182 (v := 148) q5.2 rfl
  have q7 := fp_o154 (v := 5) q6.2 rfl
  have q8 := fp_o2 q7.2
  have q9 := fp_o172 q8.2
  have q10 := fp_o42 q9.2
  have q11 := fp_o180 (v := 30) q10.2 rfl
  have q12 := fp_o42 q11.2
  have q13 := fp_o180 (v := 23) q12.2 rfl
  have q14 := fp_o27 q13.2
  have q15 := fp_o28 q14.2
  have q16 := fp_o182 (v := 194) q15.2 rfl
  have q17 := fp_o172 q16.2
  ⟨⟨⟨⟨⟨⟨q0.1, q1.1⟩, q2.1⟩, ⟨q3.1, q4.1⟩⟩, ⟨⟨q5.1, q6.1⟩, ⟨q7.1, q8.1⟩⟩⟩, ⟨⟨⟨⟨q9.1, q10.1⟩, q11.1⟩, ⟨q12.1, q13.1⟩⟩, ⟨⟨q14.1, q15.1⟩, ⟨q16.1, q17.1⟩⟩⟩⟩, q17.2⟩
theorem dX11_draw_0 : decode cX11_draw 0 = .ok (.iload_n 1, 1) := fp_hdX11_draw_0.1.1.1.1.1.1
theorem dX11_draw_1 : decode cX11_draw 1 = .ok (.invokestatic 181, 3) := fp_hdX11_draw_0.1.1.1.1.1.2
theorem dX11_draw_4 : decode cX11_draw 4 = .ok (.ifCond .eq 14, 3) := fp_hdX11_draw_0.1.1.1.1.2
theorem dX11_draw_7 : decode cX11_draw 7 = .ok (.aload_n 0, 1) := fp_hdX11_draw_0.1.1.1.2.1
theorem dX11_draw_8 : decode cX11_draw 8 = .ok (.getfield 23, 3) := fp_hdX11_draw_0.1.1.1.2.2
theorem dX11_draw_11 : decode cX11_draw 11 = .ok (.iload_n 2, 1) := fp_hdX11_draw_0.1.1.2.1.1
theorem dX11_draw_12 : decode cX11_draw 12 = .ok (.invokevirtual 148, 3) := fp_hdX11_draw_0.1.1.2.1.2
theorem dX11_draw_15 : decode cX11_draw 15 = .ok (.ifCond .ne 5, 3) := fp_hdX11_draw_0.1.1.2.2.1
theorem dX11_draw_18 : decode cX11_draw 18 = .ok (.iconst (-1), 1) := fp_hdX11_draw_0.1.1.2.2.2
theorem dX11_draw_19 : decode cX11_draw 19 = .ok (.ireturn, 1) := fp_hdX11_draw_0.1.2.1.1.1.1
theorem dX11_draw_20 : decode cX11_draw 20 = .ok (.aload_n 0, 1) := fp_hdX11_draw_0.1.2.1.1.1.2
theorem dX11_draw_21 : decode cX11_draw 21 = .ok (.getfield 30, 3) := fp_hdX11_draw_0.1.2.1.1.2
theorem dX11_draw_24 : decode cX11_draw 24 = .ok (.aload_n 0, 1) := fp_hdX11_draw_0.1.2.1.2.1
theorem dX11_draw_25 : decode cX11_draw 25 = .ok (.getfield 23, 3) := fp_hdX11_draw_0.1.2.1.2.2
theorem dX11_draw_28 : decode cX11_draw 28 = .ok (.iload_n 1, 1) := fp_hdX11_draw_0.1.2.2.1.1
theorem dX11_draw_29 : decode cX11_draw 29 = .ok (.iload_n 2, 1) := fp_hdX11_draw_0.1.2.2.1.2
theorem dX11_draw_30 : decode cX11_draw 30 = .ok (.invokevirtual 194, 3) := fp_hdX11_draw_0.1.2.2.2.1
theorem dX11_draw_33 : decode cX11_draw 33 = .ok (.ireturn, 1) := fp_hdX11_draw_0.1.2.2.2.2
def fp_scX11_slip_1 : List Nat := 27 :: 28 :: 29 :: 182 :: 0 :: 198 :: 153 :: 0 :: 15 :: 42 :: 180 :: 0 :: 30 :: 180 :: 0 :: 151 :: 28 :: 46 :: 167 :: 0 :: 5 :: 16 :: 253 :: 172 :: []
def fp_scX11_slip_0 : List Nat := 42 :: 180 :: 0 :: 23 :: 27 :: 182 :: 0 :: 126 :: 153 :: 0 :: 31 :: 42 :: 180 :: 0 :: 23 :: 28 :: 182 :: 0 :: 148 :: 153 :: 0 :: 20 :: 29 :: 155 :: 0 :: 16 :: 29 :: 42 :: 180 :: 0 :: 30 :: 180 :: 0 :: 151 :: 28 :: 46 :: 164 :: 0 :: 5 :: 2 :: 172 :: 42 :: 180 :: 0 :: 30 :: 180 :: 0 :: 138 :: 27 :: 46 :: 184 :: 0 :: 181 :: 154 :: 0 :: 6 :: 16 :: 254 :: 172 :: 42 :: 180 :: 0 :: 30 :: fp_scX11_slip_1
theorem fp_bcX11_slip : bA cX11_slip 0 fp_scX11_slip_0 := show cX11_slip.data.toList.map UInt8.toNat = fp_scX11_slip_0 from by decide +kernel
theorem fp_hdX11_slip_0 : (((((decode cX11_slip 0 = .ok (.aload_n 0, 1) ∧ decode cX11_slip 1 = .ok (.getfield 23, 3)) ∧ (decode cX11_slip 4 = .ok (.iload_n 1, 1) ∧ decode cX11_slip 5 = .ok (.invokevirtual 126, 3))) ∧ ((decode cX11_slip 8 = .ok (.ifCond .eq 31, 3) ∧ decode cX11_slip 11 = .ok (.aload_n 0, 1)) ∧ (decode cX11_slip 12 = .ok (.getfield 23, 3) ∧ decode cX11_slip 15 = .ok (.iload_n 2, 1)))) ∧ (((decode cX11_slip 16 = .ok (.invokevirtual 148, 3) ∧ decode cX11_slip 19 = .ok (.ifCond .eq 20, 3)) ∧ (decode cX11_slip 22 = .ok (.iload_n 3, 1) ∧ decode cX11_slip 23 = .ok (.ifCond .lt 16, 3))) ∧ ((decode cX11_slip 26 = .ok (.iload_n 3, 1) ∧ decode cX11_slip 27 = .ok (.aload_n 0, 1)) ∧ (decode cX11_slip 28 = .ok (.getfield 30, 3) ∧ decode cX11_slip 31 = .ok (.getfield 151, 3))))) ∧ ((((decode cX11_slip 34 = .ok (.iload_n 2, 1) ∧ decode cX11_slip 35 = .ok (.iaload, 1)) ∧ (decode cX11_slip 36 = .ok (.if_icmp .le 5, 3) ∧ decode cX11_slip 39 = .ok (.iconst (-1), 1))) ∧ ((decode cX11_slip 40 = .ok (.ireturn, 1) ∧ decode cX11_slip 41 = .ok (.aload_n 0, 1)) ∧ (decode cX11_slip 42 = .ok (.getfield 30, 3) ∧ decode cX11_slip 45 = .ok (.getfield 138, 3)))) ∧ (((decode cX11_slip 48 = .ok (.iload_n 1, 1) ∧ decode cX11_slip 49 = .ok (.iaload, 1)) ∧ (decode cX11_slip 50 = .ok (.invokestatic 181, 3) ∧ decode cX11_slip 53 = .ok (.ifCond .ne 6, 3))) ∧ ((decode cX11_slip 56 = .ok (.bipush (-2), 2) ∧ decode cX11_slip 58 = .ok (.ireturn, 1)) ∧ (decode cX11_slip 59 = .ok (.aload_n 0, 1) ∧ decode cX11_slip 60 = .ok (.getfield 30, 3)))))) ∧ bA cX11_slip 63 fp_scX11_slip_1 :=
  have q0 := fp_o42 fp_bcX11_slip
  have q1 := fp_o180 (v := 23) q0.2 rfl
  have q2 := fp_o27 q1.2
  have q3 := fp_o182 (v := 126) q2.2 rfl
  have q4 := fp_o153 (v := 31) q3.2 rfl
  have q5 := fp_o42 q4.2
  have q6 := fp_o180 (v := 23) q5.2 rfl
  have q7 := fp_o28 q6.2
  have q8 := fp_o182 (v := 148) q7.2 rfl
  have q9 := fp_o153 (v := 20) q8.2 rfl
  have q10 := fp_o29 q9.2
  have q11 := fp_o155 (v := 16) q10.2 rfl
  have q12 := fp_o29 q11.2
  have q13 := fp_o42 q12.2
  have q14 := fp_o180 (v := 30) q13.2 rfl
  have q15 := fp_o180 (v := 151) q14.2 rfl
  have q16 := fp_o28 q15.2
  have q17 := fp_o46 q16.2
  have q18 := fp_o164 (v := 5) q17.2 rfl
  have q19 := fp_o2 q18.2
  have q20 := fp_o172 q19.2
  have q21 := fp_o42 q20.2
  have q22 := fp_o180 (v := 30) q21.2 rfl
  have q23 := fp_o180 (v := 138) q22.2 rfl
  have q24 := fp_o27 q23.2
  have q25 := fp_o46 q24.2
  have q26 := fp_o184 (v := 181) q25.2 rfl
  have q27 := fp_o154 (v := 6) q26.2 rfl
  have q28 := fp_o16 (v := (-2)) q27.2 rfl
  have q29 := fp_o172 q28.2
  have q30 := fp_o42 q29.2
  have q31 := fp_o180 (v := 30) q30.2 rfl
  ⟨⟨⟨⟨⟨⟨q0.1, q1.1⟩, ⟨q2.1, q3.1⟩⟩, ⟨⟨q4.1, q5.1⟩, ⟨q6.1, q7.1⟩⟩⟩, ⟨⟨⟨q8.1, q9.1⟩, ⟨q10.1, q11.1⟩⟩, ⟨⟨q12.1, q13.1⟩, ⟨q14.1, q15.1⟩⟩⟩⟩, ⟨⟨⟨⟨q16.1, q17.1⟩, ⟨q18.1, q19.1⟩⟩, ⟨⟨q20.1, q21.1⟩, ⟨q22.1, q23.1⟩⟩⟩, ⟨⟨⟨q24.1, q25.1⟩, ⟨q26.1, q27.1⟩⟩, ⟨⟨q28.1, q29.1⟩, ⟨q30.1, q31.1⟩⟩⟩⟩⟩, q31.2⟩
theorem dX11_slip_0 : decode cX11_slip 0 = .ok (.aload_n 0, 1) := fp_hdX11_slip_0.1.1.1.1.1.1
theorem dX11_slip_1 : decode cX11_slip 1 = .ok (.getfield 23, 3) := fp_hdX11_slip_0.1.1.1.1.1.2
theorem dX11_slip_4 : decode cX11_slip 4 = .ok (.iload_n 1, 1) := fp_hdX11_slip_0.1.1.1.1.2.1
theorem dX11_slip_5 : decode cX11_slip 5 = .ok (.invokevirtual 126, 3) := fp_hdX11_slip_0.1.1.1.1.2.2
theorem dX11_slip_8 : decode cX11_slip 8 = .ok (.ifCond .eq 31, 3) := fp_hdX11_slip_0.1.1.1.2.1.1
theorem dX11_slip_11 : decode cX11_slip 11 = .ok (.aload_n 0, 1) := fp_hdX11_slip_0.1.1.1.2.1.2
theorem dX11_slip_12 : decode cX11_slip 12 = .ok (.getfield 23, 3) := fp_hdX11_slip_0.1.1.1.2.2.1
theorem dX11_slip_15 : decode cX11_slip 15 = .ok (.iload_n 2, 1) := fp_hdX11_slip_0.1.1.1.2.2.2
theorem dX11_slip_16 : decode cX11_slip 16 = .ok (.invokevirtual 148, 3) := fp_hdX11_slip_0.1.1.2.1.1.1
theorem dX11_slip_19 : decode cX11_slip 19 = .ok (.ifCond .eq 20, 3) := fp_hdX11_slip_0.1.1.2.1.1.2
theorem dX11_slip_22 : decode cX11_slip 22 = .ok (.iload_n 3, 1) := fp_hdX11_slip_0.1.1.2.1.2.1
theorem dX11_slip_23 : decode cX11_slip 23 = .ok (.ifCond .lt 16, 3) := fp_hdX11_slip_0.1.1.2.1.2.2
theorem dX11_slip_26 : decode cX11_slip 26 = .ok (.iload_n 3, 1) := fp_hdX11_slip_0.1.1.2.2.1.1
theorem dX11_slip_27 : decode cX11_slip 27 = .ok (.aload_n 0, 1) := fp_hdX11_slip_0.1.1.2.2.1.2
theorem dX11_slip_28 : decode cX11_slip 28 = .ok (.getfield 30, 3) := fp_hdX11_slip_0.1.1.2.2.2.1
theorem dX11_slip_31 : decode cX11_slip 31 = .ok (.getfield 151, 3) := fp_hdX11_slip_0.1.1.2.2.2.2
theorem dX11_slip_34 : decode cX11_slip 34 = .ok (.iload_n 2, 1) := fp_hdX11_slip_0.1.2.1.1.1.1
theorem dX11_slip_35 : decode cX11_slip 35 = .ok (.iaload, 1) := fp_hdX11_slip_0.1.2.1.1.1.2
theorem dX11_slip_36 : decode cX11_slip 36 = .ok (.if_icmp .le 5, 3) := fp_hdX11_slip_0.1.2.1.1.2.1
theorem dX11_slip_39 : decode cX11_slip 39 = .ok (.iconst (-1), 1) := fp_hdX11_slip_0.1.2.1.1.2.2
theorem dX11_slip_40 : decode cX11_slip 40 = .ok (.ireturn, 1) := fp_hdX11_slip_0.1.2.1.2.1.1
theorem dX11_slip_41 : decode cX11_slip 41 = .ok (.aload_n 0, 1) := fp_hdX11_slip_0.1.2.1.2.1.2
theorem dX11_slip_42 : decode cX11_slip 42 = .ok (.getfield 30, 3) := fp_hdX11_slip_0.1.2.1.2.2.1
theorem dX11_slip_45 : decode cX11_slip 45 = .ok (.getfield 138, 3) := fp_hdX11_slip_0.1.2.1.2.2.2
theorem dX11_slip_48 : decode cX11_slip 48 = .ok (.iload_n 1, 1) := fp_hdX11_slip_0.1.2.2.1.1.1
theorem dX11_slip_49 : decode cX11_slip 49 = .ok (.iaload, 1) := fp_hdX11_slip_0.1.2.2.1.1.2
theorem dX11_slip_50 : decode cX11_slip 50 = .ok (.invokestatic 181, 3) := fp_hdX11_slip_0.1.2.2.1.2.1
theorem dX11_slip_53 : decode cX11_slip 53 = .ok (.ifCond .ne 6, 3) := fp_hdX11_slip_0.1.2.2.1.2.2
theorem dX11_slip_56 : decode cX11_slip 56 = .ok (.bipush (-2), 2) := fp_hdX11_slip_0.1.2.2.2.1.1
theorem dX11_slip_58 : decode cX11_slip 58 = .ok (.ireturn, 1) := fp_hdX11_slip_0.1.2.2.2.1.2
theorem dX11_slip_59 : decode cX11_slip 59 = .ok (.aload_n 0, 1) := fp_hdX11_slip_0.1.2.2.2.2.1
theorem dX11_slip_60 : decode cX11_slip 60 = .ok (.getfield 30, 3) := fp_hdX11_slip_0.1.2.2.2.2.2
theorem fp_hdX11_slip_63 : ((((decode cX11_slip 63 = .ok (.iload_n 1, 1) ∧ decode cX11_slip 64 = .ok (.iload_n 2, 1)) ∧ (decode cX11_slip 65 = .ok (.iload_n 3, 1) ∧ decode cX11_slip 66 = .ok (.invokevirtual 198, 3))) ∧ ((decode cX11_slip 69 = .ok (.ifCond .eq 15, 3) ∧ decode cX11_slip 72 = .ok (.aload_n 0, 1)) ∧ decode cX11_slip 73 = .ok (.getfield 30, 3))) ∧ (((decode cX11_slip 76 = .ok (.getfield 151, 3) ∧ decode cX11_slip 79 = .ok (.iload_n 2, 1)) ∧ decode cX11_slip 80 = .ok (.iaload, 1)) ∧ ((decode cX11_slip 81 = .ok (.goto 5, 3) ∧ decode cX11_slip 84 = .ok (.bipush (-3), 2)) ∧ decode cX11_slip 86 = .ok (.ireturn, 1)))) ∧ bA cX11_slip 87 [] :=
  have q0 := fp_o27 fp_hdX11_slip_0.2
  have q1 := fp_o28 q0.2
  have q2 := fp_o29 q1.2
  have q3 := fp_o182 (v := 198) q2.2 rfl
  have q4 := fp_o153 (v := 15) q3.2 rfl
  have q5 := fp_o42 q4.2
  have q6 := fp_o180 (v := 30) q5.2 rfl
  have q7 := fp_o180 (v := 151) q6.2 rfl
  have q8 := fp_o28 q7.2
  have q9 := fp_o46 q8.2
  have q10 := fp_o167 (v := 5) q9.2 rfl
  have q11 := fp_o16 (v := (-3)) q10.2 rfl
  have q12 := fp_o172 q11.2
  ⟨⟨⟨⟨⟨q0.1, q1.1⟩, ⟨q2.1, q3.1⟩⟩, ⟨⟨q4.1, q5.1⟩, q6.1⟩⟩, ⟨⟨⟨q7.1, q8.1⟩, q9.1⟩, ⟨⟨q10.1, q11.1⟩, q12.1⟩⟩⟩, q12.2⟩
theorem dX11_slip_63 : decode cX11_slip 63 = .ok (.iload_n 1, 1) := fp_hdX11_slip_63.1.1.1.1.1
theorem dX11_slip_64 : decode cX11_slip 64 = .ok (.iload_n 2, 1) := fp_hdX11_slip_63.1.1.1.1.2
theorem dX11_slip_65 : decode cX11_slip 65 = .ok (.iload_n 3, 1) := fp_hdX11_slip_63.1.1.1.2.1
theorem dX11_slip_66 : decode cX11_slip 66 = .ok (.invokevirtual 198, 3) := fp_hdX11_slip_63.1.1.1.2.2
theorem dX11_slip_69 : decode cX11_slip 69 = .ok (.ifCond .eq 15, 3) := fp_hdX11_slip_63.1.1.2.1.1
theorem dX11_slip_72 : decode cX11_slip 72 = .ok (.aload_n 0, 1) := fp_hdX11_slip_63.1.1.2.1.2
theorem dX11_slip_73 : decode cX11_slip 73 = .ok (.getfield 30, 3) := fp_hdX11_slip_63.1.1.2.2
theorem dX11_slip_76 : decode cX11_slip 76 = .ok (.getfield 151, 3) := fp_hdX11_slip_63.1.2.1.1.1
theorem dX11_slip_79 : decode cX11_slip 79 = .ok (.iload_n 2, 1) := fp_hdX11_slip_63.1.2.1.1.2
theorem dX11_slip_80 : decode cX11_slip 80 = .ok (.iaload, 1) := fp_hdX11_slip_63.1.2.1.2
theorem dX11_slip_81 : decode cX11_slip 81 = .ok (.goto 5, 3) := fp_hdX11_slip_63.1.2.2.1.1
theorem dX11_slip_84 : decode cX11_slip 84 = .ok (.bipush (-3), 2) := fp_hdX11_slip_63.1.2.2.1.2
theorem dX11_slip_86 : decode cX11_slip 86 = .ok (.ireturn, 1) := fp_hdX11_slip_63.1.2.2.2
def fp_scX11_come_0 : List Nat := 42 :: 27 :: 28 :: 29 :: 21 :: 4 :: 182 :: 0 :: 201 :: 172 :: []
theorem fp_bcX11_come : bA cX11_come 0 fp_scX11_come_0 := show cX11_come.data.toList.map UInt8.toNat = fp_scX11_come_0 from by decide +kernel
theorem fp_hdX11_come_0 : (((decode cX11_come 0 = .ok (.aload_n 0, 1) ∧ decode cX11_come 1 = .ok (.iload_n 1, 1)) ∧ (decode cX11_come 2 = .ok (.iload_n 2, 1) ∧ decode cX11_come 3 = .ok (.iload_n 3, 1))) ∧ ((decode cX11_come 4 = .ok (.iload 4, 2) ∧ decode cX11_come 6 = .ok (.invokevirtual 201, 3)) ∧ decode cX11_come 9 = .ok (.ireturn, 1))) ∧ bA cX11_come 10 [] :=
  have q0 := fp_o42 fp_bcX11_come
  have q1 := fp_o27 q0.2
  have q2 := fp_o28 q1.2
  have q3 := fp_o29 q2.2
  have q4 := fp_o21 q3.2
  have q5 := fp_o182 (v := 201) q4.2 rfl
  have q6 := fp_o172 q5.2
  ⟨⟨⟨⟨q0.1, q1.1⟩, ⟨q2.1, q3.1⟩⟩, ⟨⟨q4.1, q5.1⟩, q6.1⟩⟩, q6.2⟩
theorem dX11_come_0 : decode cX11_come 0 = .ok (.aload_n 0, 1) := fp_hdX11_come_0.1.1.1.1
theorem dX11_come_1 : decode cX11_come 1 = .ok (.iload_n 1, 1) := fp_hdX11_come_0.1.1.1.2
theorem dX11_come_2 : decode cX11_come 2 = .ok (.iload_n 2, 1) := fp_hdX11_come_0.1.1.2.1
theorem dX11_come_3 : decode cX11_come 3 = .ok (.iload_n 3, 1) := fp_hdX11_come_0.1.1.2.2
theorem dX11_come_4 : decode cX11_come 4 = .ok (.iload 4, 2) := fp_hdX11_come_0.1.2.1.1
theorem dX11_come_6 : decode cX11_come 6 = .ok (.invokevirtual 201, 3) := fp_hdX11_come_0.1.2.1.2
theorem dX11_come_9 : decode cX11_come 9 = .ok (.ireturn, 1) := fp_hdX11_come_0.1.2.2
def fp_scX11_cut_0 : List Nat := 27 :: 155 :: 0 :: 14 :: 27 :: 42 :: 180 :: 0 :: 37 :: 180 :: 0 :: 205 :: 164 :: 0 :: 5 :: 2 :: 172 :: 42 :: 180 :: 0 :: 37 :: 180 :: 0 :: 205 :: 61 :: 42 :: 180 :: 0 :: 37 :: 27 :: 181 :: 0 :: 205 :: 28 :: 172 :: []
theorem fp_bcX11_cut : bA cX11_cut 0 fp_scX11_cut_0 := show cX11_cut.data.toList.map UInt8.toNat = fp_scX11_cut_0 from by decide +kernel
theorem fp_hdX11_cut_0 : (((((decode cX11_cut 0 = .ok (.iload_n 1, 1) ∧ decode cX11_cut 1 = .ok (.ifCond .lt 14, 3)) ∧ decode cX11_cut 4 = .ok (.iload_n 1, 1)) ∧ (decode cX11_cut 5 = .ok (.aload_n 0, 1) ∧ decode cX11_cut 6 = .ok (.getfield 37, 3))) ∧ (((decode cX11_cut 9 = .ok (.getfield 205, 3) ∧ decode cX11_cut 12 = .ok (.if_icmp .le 5, 3)) ∧ decode cX11_cut 15 = .ok (.iconst (-1), 1)) ∧ (decode cX11_cut 16 = .ok (.ireturn, 1) ∧ decode cX11_cut 17 = .ok (.aload_n 0, 1)))) ∧ ((((decode cX11_cut 18 = .ok (.getfield 37, 3) ∧ decode cX11_cut 21 = .ok (.getfield 205, 3)) ∧ decode cX11_cut 24 = .ok (.istore_n 2, 1)) ∧ (decode cX11_cut 25 = .ok (.aload_n 0, 1) ∧ decode cX11_cut 26 = .ok (.getfield 37, 3))) ∧ ((decode cX11_cut 29 = .ok (.iload_n 1, 1) ∧ decode cX11_cut 30 = .ok (.putfield 205, 3)) ∧ (decode cX11_cut 33 = .ok (.iload_n 2, 1) ∧ decode cX11_cut 34 = .ok (.ireturn, 1))))) ∧ bA cX11_cut 35 [] :=
  have q0 := fp_o27 fp_bcX11_cut
  have q1 := fp_o155 (v := 14) q0.2 rfl
  have q2 := fp_o27 q1.2
  have q3 := fp_o42 q2.2
  have q4 := fp_o180 (v := 37) q3.2 rfl
  have q5 := fp_o180 (v := 205) q4.2 rfl
  have q6 := fp_o164 (v := 5) q5.2 rfl
  have q7 := fp_o2 q6.2
  have q8 := fp_o172 q7.2
  have q9 := fp_o42 q8.2
  have q10 := fp_o180 (v := 37) q9.2 rfl
  have q11 := fp_o180 (v := 205) q10.2 rfl
  have q12 := fp_o61 q11.2
  have q13 := fp_o42 q12.2
  have q14 := fp_o180 (v := 37) q13.2 rfl
  have q15 := fp_o27 q14.2
  have q16 := fp_o181 (v := 205) q15.2 rfl
  have q17 := fp_o28 q16.2
  have q18 := fp_o172 q17.2
  ⟨⟨⟨⟨⟨⟨q0.1, q1.1⟩, q2.1⟩, ⟨q3.1, q4.1⟩⟩, ⟨⟨⟨q5.1, q6.1⟩, q7.1⟩, ⟨q8.1, q9.1⟩⟩⟩, ⟨⟨⟨⟨q10.1, q11.1⟩, q12.1⟩, ⟨q13.1, q14.1⟩⟩, ⟨⟨q15.1, q16.1⟩, ⟨q17.1, q18.1⟩⟩⟩⟩, q18.2⟩
theorem dX11_cut_0 : decode cX11_cut 0 = .ok (.iload_n 1, 1) := fp_hdX11_cut_0.1.1.1.1.1.1
theorem dX11_cut_1 : decode cX11_cut 1 = .ok (.ifCond .lt 14, 3) := fp_hdX11_cut_0.1.1.1.1.1.2
theorem dX11_cut_4 : decode cX11_cut 4 = .ok (.iload_n 1, 1) := fp_hdX11_cut_0.1.1.1.1.2
theorem dX11_cut_5 : decode cX11_cut 5 = .ok (.aload_n 0, 1) := fp_hdX11_cut_0.1.1.1.2.1
theorem dX11_cut_6 : decode cX11_cut 6 = .ok (.getfield 37, 3) := fp_hdX11_cut_0.1.1.1.2.2
theorem dX11_cut_9 : decode cX11_cut 9 = .ok (.getfield 205, 3) := fp_hdX11_cut_0.1.1.2.1.1.1
theorem dX11_cut_12 : decode cX11_cut 12 = .ok (.if_icmp .le 5, 3) := fp_hdX11_cut_0.1.1.2.1.1.2
theorem dX11_cut_15 : decode cX11_cut 15 = .ok (.iconst (-1), 1) := fp_hdX11_cut_0.1.1.2.1.2
theorem dX11_cut_16 : decode cX11_cut 16 = .ok (.ireturn, 1) := fp_hdX11_cut_0.1.1.2.2.1
theorem dX11_cut_17 : decode cX11_cut 17 = .ok (.aload_n 0, 1) := fp_hdX11_cut_0.1.1.2.2.2
theorem dX11_cut_18 : decode cX11_cut 18 = .ok (.getfield 37, 3) := fp_hdX11_cut_0.1.2.1.1.1.1
theorem dX11_cut_21 : decode cX11_cut 21 = .ok (.getfield 205, 3) := fp_hdX11_cut_0.1.2.1.1.1.2
theorem dX11_cut_24 : decode cX11_cut 24 = .ok (.istore_n 2, 1) := fp_hdX11_cut_0.1.2.1.1.2
theorem dX11_cut_25 : decode cX11_cut 25 = .ok (.aload_n 0, 1) := fp_hdX11_cut_0.1.2.1.2.1
theorem dX11_cut_26 : decode cX11_cut 26 = .ok (.getfield 37, 3) := fp_hdX11_cut_0.1.2.1.2.2
theorem dX11_cut_29 : decode cX11_cut 29 = .ok (.iload_n 1, 1) := fp_hdX11_cut_0.1.2.2.1.1
theorem dX11_cut_30 : decode cX11_cut 30 = .ok (.putfield 205, 3) := fp_hdX11_cut_0.1.2.2.1.2
theorem dX11_cut_33 : decode cX11_cut 33 = .ok (.iload_n 2, 1) := fp_hdX11_cut_0.1.2.2.2.1
theorem dX11_cut_34 : decode cX11_cut 34 = .ok (.ireturn, 1) := fp_hdX11_cut_0.1.2.2.2.2
def fp_scX11_go_1 : List Nat := 28 :: 172 :: []
def fp_scX11_go_0 : List Nat := 27 :: 155 :: 0 :: 14 :: 27 :: 42 :: 180 :: 0 :: 37 :: 180 :: 0 :: 205 :: 164 :: 0 :: 5 :: 2 :: 172 :: 3 :: 61 :: 3 :: 62 :: 29 :: 27 :: 162 :: 0 :: 31 :: 42 :: 180 :: 0 :: 37 :: 42 :: 180 :: 0 :: 23 :: 42 :: 180 :: 0 :: 30 :: 29 :: 182 :: 0 :: 206 :: 154 :: 0 :: 6 :: 132 :: 2 :: 1 :: 132 :: 3 :: 1 :: 167 :: 255 :: 226 :: 42 :: 180 :: 0 :: 37 :: 27 :: 182 :: 0 :: 210 :: fp_scX11_go_1
theorem fp_bcX11_go : bA cX11_go 0 fp_scX11_go_0 := show cX11_go.data.toList.map UInt8.toNat = fp_scX11_go_0 from by decide +kernel
theorem fp_hdX11_go_0 : (((((decode cX11_go 0 = .ok (.iload_n 1, 1) ∧ decode cX11_go 1 = .ok (.ifCond .lt 14, 3)) ∧ (decode cX11_go 4 = .ok (.iload_n 1, 1) ∧ decode cX11_go 5 = .ok (.aload_n 0, 1))) ∧ ((decode cX11_go 6 = .ok (.getfield 37, 3) ∧ decode cX11_go 9 = .ok (.getfield 205, 3)) ∧ (decode cX11_go 12 = .ok (.if_icmp .le 5, 3) ∧ decode cX11_go 15 = .ok (.iconst (-1), 1)))) ∧ (((decode cX11_go 16 = .ok (.ireturn, 1) ∧ decode cX11_go 17 = .ok (.iconst 0, 1)) ∧ (decode cX11_go 18 = .ok (.istore_n 2, 1) ∧ decode cX11_go 19 = .ok (.iconst 0, 1))) ∧ ((decode cX11_go 20 = .ok (.istore_n 3, 1) ∧ decode cX11_go 21 = .ok (.iload_n 3, 1)) ∧ (decode cX11_go 22 = .ok (.iload_n 1, 1) ∧ decode cX11_go 23 = .ok (.if_icmp .ge 31, 3))))) ∧ ((((decode cX11_go 26 = .ok (.aload_n 0, 1) ∧ decode cX11_go 27 = .ok (.getfield 37, 3)) ∧ (decode cX11_go 30 = .ok (.aload_n 0, 1) ∧ decode cX11_go 31 = .ok (.getfield 23, 3))) ∧ ((decode cX11_go 34 = .ok (.aload_n 0, 1) ∧ decode cX11_go 35 = .ok (.getfield 30, 3)) ∧ (decode cX11_go 38 = .ok (.iload_n 3, 1) ∧ decode cX11_go 39 = .ok (.invokevirtual 206, 3)))) ∧ (((decode cX11_go 42 = .ok (.ifCond .ne 6, 3) ∧ decode cX11_go 45 = .ok (.iinc 2 1, 3)) ∧ (decode cX11_go 48 = .ok (.iinc 3 1, 3) ∧ decode cX11_go 51 = .ok (.goto (-30), 3))) ∧ ((decode cX11_go 54 = .ok (.aload_n 0, 1) ∧ decode cX11_go 55 = .ok (.getfield 37, 3)) ∧ (decode cX11_go 58 = .ok (.iload_n 1, 1) ∧ decode cX11_go 59 = .ok (.invokevirtual 210, 3)))))) ∧ bA cX11_go 62 fp_scX11_go_1 :=
  have q0 := fp_o27 fp_bcX11_go
  have q1 := fp_o155 (v := 14) q0.2 rfl
  have q2 := fp_o27 q1.2
  have q3 := fp_o42 q2.2
  have q4 := fp_o180 (v := 37) q3.2 rfl
  have q5 := fp_o180 (v := 205) q4.2 rfl
  have q6 := fp_o164 (v := 5) q5.2 rfl
  have q7 := fp_o2 q6.2
  have q8 := fp_o172 q7.2
  have q9 := fp_o3 q8.2
  have q10 := fp_o61 q9.2
  have q11 := fp_o3 q10.2
  have q12 := fp_o62 q11.2
  have q13 := fp_o29 q12.2
  have q14 := fp_o27 q13.2
  have q15 := fp_o162 (v := 31) q14.2 rfl
  have q16 := fp_o42 q15.2
  have q17 := fp_o180 (v := 37) q16.2 rfl
  have q18 := fp_o42 q17.2
  have q19 := fp_o180 (v := 23) q18.2 rfl
  have q20 := fp_o42 q19.2
  have q21 := fp_o180 (v := 30) q20.2 rfl
  have q22 := fp_o29 q21.2
  have q23 := fp_o182 (v := 206) q22.2 rfl
  have q24 := fp_o154 (v := 6) q23.2 rfl
  have q25 := fp_o132 (v := 1) q24.2 rfl
  have q26 := fp_o132 (v := 1) q25.2 rfl
  have q27 := fp_o167 (v := (-30)) q26.2 rfl
  have q28 := fp_o42 q27.2
  have q29 := fp_o180 (v := 37) q28.2 rfl
  have q30 := fp_o27 q29.2
  have q31 := fp_o182 (v := 210) q30.2 rfl
  ⟨⟨⟨⟨⟨⟨q0.1, q1.1⟩, ⟨q2.1, q3.1⟩⟩, ⟨⟨q4.1, q5.1⟩, ⟨q6.1, q7.1⟩⟩⟩, ⟨⟨⟨q8.1, q9.1⟩, ⟨q10.1, q11.1⟩⟩, ⟨⟨q12.1, q13.1⟩, ⟨q14.1, q15.1⟩⟩⟩⟩, ⟨⟨⟨⟨q16.1, q17.1⟩, ⟨q18.1, q19.1⟩⟩, ⟨⟨q20.1, q21.1⟩, ⟨q22.1, q23.1⟩⟩⟩, ⟨⟨⟨q24.1, q25.1⟩, ⟨q26.1, q27.1⟩⟩, ⟨⟨q28.1, q29.1⟩, ⟨q30.1, q31.1⟩⟩⟩⟩⟩, q31.2⟩
theorem dX11_go_0 : decode cX11_go 0 = .ok (.iload_n 1, 1) := fp_hdX11_go_0.1.1.1.1.1.1
theorem dX11_go_1 : decode cX11_go 1 = .ok (.ifCond .lt 14, 3) := fp_hdX11_go_0.1.1.1.1.1.2
theorem dX11_go_4 : decode cX11_go 4 = .ok (.iload_n 1, 1) := fp_hdX11_go_0.1.1.1.1.2.1
theorem dX11_go_5 : decode cX11_go 5 = .ok (.aload_n 0, 1) := fp_hdX11_go_0.1.1.1.1.2.2
theorem dX11_go_6 : decode cX11_go 6 = .ok (.getfield 37, 3) := fp_hdX11_go_0.1.1.1.2.1.1
theorem dX11_go_9 : decode cX11_go 9 = .ok (.getfield 205, 3) := fp_hdX11_go_0.1.1.1.2.1.2
theorem dX11_go_12 : decode cX11_go 12 = .ok (.if_icmp .le 5, 3) := fp_hdX11_go_0.1.1.1.2.2.1
theorem dX11_go_15 : decode cX11_go 15 = .ok (.iconst (-1), 1) := fp_hdX11_go_0.1.1.1.2.2.2
theorem dX11_go_16 : decode cX11_go 16 = .ok (.ireturn, 1) := fp_hdX11_go_0.1.1.2.1.1.1
theorem dX11_go_17 : decode cX11_go 17 = .ok (.iconst 0, 1) := fp_hdX11_go_0.1.1.2.1.1.2
theorem dX11_go_18 : decode cX11_go 18 = .ok (.istore_n 2, 1) := fp_hdX11_go_0.1.1.2.1.2.1
theorem dX11_go_19 : decode cX11_go 19 = .ok (.iconst 0, 1) := fp_hdX11_go_0.1.1.2.1.2.2
theorem dX11_go_20 : decode cX11_go 20 = .ok (.istore_n 3, 1) := fp_hdX11_go_0.1.1.2.2.1.1
theorem dX11_go_21 : decode cX11_go 21 = .ok (.iload_n 3, 1) := fp_hdX11_go_0.1.1.2.2.1.2
theorem dX11_go_22 : decode cX11_go 22 = .ok (.iload_n 1, 1) := fp_hdX11_go_0.1.1.2.2.2.1
theorem dX11_go_23 : decode cX11_go 23 = .ok (.if_icmp .ge 31, 3) := fp_hdX11_go_0.1.1.2.2.2.2
theorem dX11_go_26 : decode cX11_go 26 = .ok (.aload_n 0, 1) := fp_hdX11_go_0.1.2.1.1.1.1
theorem dX11_go_27 : decode cX11_go 27 = .ok (.getfield 37, 3) := fp_hdX11_go_0.1.2.1.1.1.2
theorem dX11_go_30 : decode cX11_go 30 = .ok (.aload_n 0, 1) := fp_hdX11_go_0.1.2.1.1.2.1
theorem dX11_go_31 : decode cX11_go 31 = .ok (.getfield 23, 3) := fp_hdX11_go_0.1.2.1.1.2.2
theorem dX11_go_34 : decode cX11_go 34 = .ok (.aload_n 0, 1) := fp_hdX11_go_0.1.2.1.2.1.1
theorem dX11_go_35 : decode cX11_go 35 = .ok (.getfield 30, 3) := fp_hdX11_go_0.1.2.1.2.1.2
theorem dX11_go_38 : decode cX11_go 38 = .ok (.iload_n 3, 1) := fp_hdX11_go_0.1.2.1.2.2.1
theorem dX11_go_39 : decode cX11_go 39 = .ok (.invokevirtual 206, 3) := fp_hdX11_go_0.1.2.1.2.2.2
theorem dX11_go_42 : decode cX11_go 42 = .ok (.ifCond .ne 6, 3) := fp_hdX11_go_0.1.2.2.1.1.1
theorem dX11_go_45 : decode cX11_go 45 = .ok (.iinc 2 1, 3) := fp_hdX11_go_0.1.2.2.1.1.2
theorem dX11_go_48 : decode cX11_go 48 = .ok (.iinc 3 1, 3) := fp_hdX11_go_0.1.2.2.1.2.1
theorem dX11_go_51 : decode cX11_go 51 = .ok (.goto (-30), 3) := fp_hdX11_go_0.1.2.2.1.2.2
theorem dX11_go_54 : decode cX11_go 54 = .ok (.aload_n 0, 1) := fp_hdX11_go_0.1.2.2.2.1.1
theorem dX11_go_55 : decode cX11_go 55 = .ok (.getfield 37, 3) := fp_hdX11_go_0.1.2.2.2.1.2
theorem dX11_go_58 : decode cX11_go 58 = .ok (.iload_n 1, 1) := fp_hdX11_go_0.1.2.2.2.2.1
theorem dX11_go_59 : decode cX11_go 59 = .ok (.invokevirtual 210, 3) := fp_hdX11_go_0.1.2.2.2.2.2
theorem fp_hdX11_go_62 : (decode cX11_go 62 = .ok (.iload_n 2, 1) ∧ decode cX11_go 63 = .ok (.ireturn, 1)) ∧ bA cX11_go 64 [] :=
  have q0 := fp_o28 fp_hdX11_go_0.2
  have q1 := fp_o172 q0.2
  ⟨⟨q0.1, q1.1⟩, q1.2⟩
theorem dX11_go_62 : decode cX11_go 62 = .ok (.iload_n 2, 1) := fp_hdX11_go_62.1.1
theorem dX11_go_63 : decode cX11_go 63 = .ok (.ireturn, 1) := fp_hdX11_go_62.1.2
def fp_scX11_after_0 : List Nat := 27 :: 155 :: 0 :: 25 :: 27 :: 42 :: 180 :: 0 :: 37 :: 180 :: 0 :: 205 :: 163 :: 0 :: 14 :: 42 :: 180 :: 0 :: 23 :: 28 :: 182 :: 0 :: 126 :: 154 :: 0 :: 5 :: 2 :: 172 :: 42 :: 180 :: 0 :: 51 :: 42 :: 180 :: 0 :: 23 :: 42 :: 180 :: 0 :: 37 :: 42 :: 180 :: 0 :: 30 :: 27 :: 182 :: 0 :: 214 :: 180 :: 0 :: 138 :: 28 :: 46 :: 172 :: []
theorem fp_bcX11_after : bA cX11_after 0 fp_scX11_after_0 := show cX11_after.data.toList.map UInt8.toNat = fp_scX11_after_0 from by decide +kernel
theorem fp_hdX11_after_0 : (((((decode cX11_after 0 = .ok (.iload_n 1, 1) ∧ decode cX11_after 1 = .ok (.ifCond .lt 25, 3)) ∧ (decode cX11_after 4 = .ok (.iload_n 1, 1) ∧ decode cX11_after 5 = .ok (.aload_n 0, 1))) ∧ ((decode cX11_after 6 = .ok (.getfield 37, 3) ∧ decode cX11_after 9 = .ok (.getfield 205, 3)) ∧ decode cX11_after 12 = .ok (.if_icmp .gt 14, 3))) ∧ (((decode cX11_after 15 = .ok (.aload_n 0, 1) ∧ decode cX11_after 16 = .ok (.getfield 23, 3)) ∧ (decode cX11_after 19 = .ok (.iload_n 2, 1) ∧ decode cX11_after 20 = .ok (.invokevirtual 126, 3))) ∧ ((decode cX11_after 23 = .ok (.ifCond .ne 5, 3) ∧ decode cX11_after 26 = .ok (.iconst (-1), 1)) ∧ decode cX11_after 27 = .ok (.ireturn, 1)))) ∧ ((((decode cX11_after 28 = .ok (.aload_n 0, 1) ∧ decode cX11_after 29 = .ok (.getfield 51, 3)) ∧ (decode cX11_after 32 = .ok (.aload_n 0, 1) ∧ decode cX11_after 33 = .ok (.getfield 23, 3))) ∧ ((decode cX11_after 36 = .ok (.aload_n 0, 1) ∧ decode cX11_after 37 = .ok (.getfield 37, 3)) ∧ decode cX11_after 40 = .ok (.aload_n 0, 1))) ∧ (((decode cX11_after 41 = .ok (.getfield 30, 3) ∧ decode cX11_after 44 = .ok (.iload_n 1, 1)) ∧ (decode cX11_after 45 = .ok (.invokevirtual 214, 3) ∧ decode cX11_after 48 = .ok (.getfield 138, 3))) ∧ ((decode cX11_after 51 = .ok (.iload_n 2, 1) ∧ decode cX11_after 52 = .ok (.iaload, 1)) ∧ decode cX11_after 53 = .ok (.ireturn, 1))))) ∧ bA cX11_after 54 [] :=
  have q0 := fp_o27 fp_bcX11_after
  have q1 := fp_o155 (v := 25) q0.2 rfl
  have q2 := fp_o27 q1.2
  have q3 := fp_o42 q2.2
  have q4 := fp_o180 (v := 37) q3.2 rfl
  have q5 := fp_o180 (v := 205) q4.2 rfl
  have q6 := fp_o163 (v := 14) q5.2 rfl
  have q7 := fp_o42 q6.2
  have q8 := fp_o180 (v := 23) q7.2 rfl
  have q9 := fp_o28 q8.2
  have q10 := fp_o182 (v := 126) q9.2 rfl
  have q11 := fp_o154 (v := 5) q10.2 rfl
  have q12 := fp_o2 q11.2
  have q13 := fp_o172 q12.2
  have q14 := fp_o42 q13.2
  have q15 := fp_o180 (v := 51) q14.2 rfl
  have q16 := fp_o42 q15.2
  have q17 := fp_o180 (v := 23) q16.2 rfl
  have q18 := fp_o42 q17.2
  have q19 := fp_o180 (v := 37) q18.2 rfl
  have q20 := fp_o42 q19.2
  have q21 := fp_o180 (v := 30) q20.2 rfl
  have q22 := fp_o27 q21.2
  have q23 := fp_o182 (v := 214) q22.2 rfl
  have q24 := fp_o180 (v := 138) q23.2 rfl
  have q25 := fp_o28 q24.2
  have q26 := fp_o46 q25.2
  have q27 := fp_o172 q26.2
  ⟨⟨⟨⟨⟨⟨q0.1, q1.1⟩, ⟨q2.1, q3.1⟩⟩, ⟨⟨q4.1, q5.1⟩, q6.1⟩⟩, ⟨⟨⟨q7.1, q8.1⟩, ⟨q9.1, q10.1⟩⟩, ⟨⟨q11.1, q12.1⟩, q13.1⟩⟩⟩, ⟨⟨⟨⟨q14.1, q15.1⟩, ⟨q16.1, q17.1⟩⟩, ⟨⟨q18.1, q19.1⟩, q20.1⟩⟩, ⟨⟨⟨q21.1, q22.1⟩, ⟨q23.1, q24.1⟩⟩, ⟨⟨q25.1, q26.1⟩, q27.1⟩⟩⟩⟩, q27.2⟩
theorem dX11_after_0 : decode cX11_after 0 = .ok (.iload_n 1, 1) := fp_hdX11_after_0.1.1.1.1.1.1
theorem dX11_after_1 : decode cX11_after 1 = .ok (.ifCond .lt 25, 3) := fp_hdX11_after_0.1.1.1.1.1.2
theorem dX11_after_4 : decode cX11_after 4 = .ok (.iload_n 1, 1) := fp_hdX11_after_0.1.1.1.1.2.1
theorem dX11_after_5 : decode cX11_after 5 = .ok (.aload_n 0, 1) := fp_hdX11_after_0.1.1.1.1.2.2
theorem dX11_after_6 : decode cX11_after 6 = .ok (.getfield 37, 3) := fp_hdX11_after_0.1.1.1.2.1.1
theorem dX11_after_9 : decode cX11_after 9 = .ok (.getfield 205, 3) := fp_hdX11_after_0.1.1.1.2.1.2
theorem dX11_after_12 : decode cX11_after 12 = .ok (.if_icmp .gt 14, 3) := fp_hdX11_after_0.1.1.1.2.2
theorem dX11_after_15 : decode cX11_after 15 = .ok (.aload_n 0, 1) := fp_hdX11_after_0.1.1.2.1.1.1
theorem dX11_after_16 : decode cX11_after 16 = .ok (.getfield 23, 3) := fp_hdX11_after_0.1.1.2.1.1.2
theorem dX11_after_19 : decode cX11_after 19 = .ok (.iload_n 2, 1) := fp_hdX11_after_0.1.1.2.1.2.1
theorem dX11_after_20 : decode cX11_after 20 = .ok (.invokevirtual 126, 3) := fp_hdX11_after_0.1.1.2.1.2.2
theorem dX11_after_23 : decode cX11_after 23 = .ok (.ifCond .ne 5, 3) := fp_hdX11_after_0.1.1.2.2.1.1
theorem dX11_after_26 : decode cX11_after 26 = .ok (.iconst (-1), 1) := fp_hdX11_after_0.1.1.2.2.1.2
theorem dX11_after_27 : decode cX11_after 27 = .ok (.ireturn, 1) := fp_hdX11_after_0.1.1.2.2.2
theorem dX11_after_28 : decode cX11_after 28 = .ok (.aload_n 0, 1) := fp_hdX11_after_0.1.2.1.1.1.1
theorem dX11_after_29 : decode cX11_after 29 = .ok (.getfield 51, 3) := fp_hdX11_after_0.1.2.1.1.1.2
theorem dX11_after_32 : decode cX11_after 32 = .ok (.aload_n 0, 1) := fp_hdX11_after_0.1.2.1.1.2.1
theorem dX11_after_33 : decode cX11_after 33 = .ok (.getfield 23, 3) := fp_hdX11_after_0.1.2.1.1.2.2
theorem dX11_after_36 : decode cX11_after 36 = .ok (.aload_n 0, 1) := fp_hdX11_after_0.1.2.1.2.1.1
theorem dX11_after_37 : decode cX11_after 37 = .ok (.getfield 37, 3) := fp_hdX11_after_0.1.2.1.2.1.2
theorem dX11_after_40 : decode cX11_after 40 = .ok (.aload_n 0, 1) := fp_hdX11_after_0.1.2.1.2.2
theorem dX11_after_41 : decode cX11_after 41 = .ok (.getfield 30, 3) := fp_hdX11_after_0.1.2.2.1.1.1
theorem dX11_after_44 : decode cX11_after 44 = .ok (.iload_n 1, 1) := fp_hdX11_after_0.1.2.2.1.1.2
theorem dX11_after_45 : decode cX11_after 45 = .ok (.invokevirtual 214, 3) := fp_hdX11_after_0.1.2.2.1.2.1
theorem dX11_after_48 : decode cX11_after 48 = .ok (.getfield 138, 3) := fp_hdX11_after_0.1.2.2.1.2.2
theorem dX11_after_51 : decode cX11_after 51 = .ok (.iload_n 2, 1) := fp_hdX11_after_0.1.2.2.2.1.1
theorem dX11_after_52 : decode cX11_after 52 = .ok (.iaload, 1) := fp_hdX11_after_0.1.2.2.2.1.2
theorem dX11_after_53 : decode cX11_after 53 = .ok (.ireturn, 1) := fp_hdX11_after_0.1.2.2.2.2
def fp_scX11_gains_0 : List Nat := 27 :: 155 :: 0 :: 21 :: 27 :: 42 :: 180 :: 0 :: 37 :: 180 :: 0 :: 205 :: 163 :: 0 :: 10 :: 28 :: 184 :: 0 :: 181 :: 154 :: 0 :: 5 :: 2 :: 172 :: 42 :: 180 :: 0 :: 51 :: 42 :: 180 :: 0 :: 23 :: 42 :: 180 :: 0 :: 37 :: 42 :: 180 :: 0 :: 30 :: 27 :: 182 :: 0 :: 214 :: 42 :: 180 :: 0 :: 23 :: 28 :: 182 :: 0 :: 187 :: 172 :: []
theorem fp_bcX11_gains : bA cX11_gains 0 fp_scX11_gains_0 := show cX11_gains.data.toList.map UInt8.toNat = fp_scX11_gains_0 from by decide +kernel
theorem fp_hdX11_gains_0 : (((((decode cX11_gains 0 = .ok (.iload_n 1, 1) ∧ decode cX11_gains 1 = .ok (.ifCond .lt 21, 3)) ∧ (decode cX11_gains 4 = .ok (.iload_n 1, 1) ∧ decode cX11_gains 5 = .ok (.aload_n 0, 1))) ∧ ((decode cX11_gains 6 = .ok (.getfield 37, 3) ∧ decode cX11_gains 9 = .ok (.getfield 205, 3)) ∧ decode cX11_gains 12 = .ok (.if_icmp .gt 10, 3))) ∧ (((decode cX11_gains 15 = .ok (.iload_n 2, 1) ∧ decode cX11_gains 16 = .ok (.invokestatic 181, 3)) ∧ (decode cX11_gains 19 = .ok (.ifCond .ne 5, 3) ∧ decode cX11_gains 22 = .ok (.iconst (-1), 1))) ∧ ((decode cX11_gains 23 = .ok (.ireturn, 1) ∧ decode cX11_gains 24 = .ok (.aload_n 0, 1)) ∧ decode cX11_gains 25 = .ok (.getfield 51, 3)))) ∧ ((((decode cX11_gains 28 = .ok (.aload_n 0, 1) ∧ decode cX11_gains 29 = .ok (.getfield 23, 3)) ∧ (decode cX11_gains 32 = .ok (.aload_n 0, 1) ∧ decode cX11_gains 33 = .ok (.getfield 37, 3))) ∧ ((decode cX11_gains 36 = .ok (.aload_n 0, 1) ∧ decode cX11_gains 37 = .ok (.getfield 30, 3)) ∧ decode cX11_gains 40 = .ok (.iload_n 1, 1))) ∧ (((decode cX11_gains 41 = .ok (.invokevirtual 214, 3) ∧ decode cX11_gains 44 = .ok (.aload_n 0, 1)) ∧ decode cX11_gains 45 = .ok (.getfield 23, 3)) ∧ ((decode cX11_gains 48 = .ok (.iload_n 2, 1) ∧ decode cX11_gains 49 = .ok (.invokevirtual 187, 3)) ∧ decode cX11_gains 52 = .ok (.ireturn, 1))))) ∧ bA cX11_gains 53 [] :=
  have q0 := fp_o27 fp_bcX11_gains
  have q1 := fp_o155 (v := 21) q0.2 rfl
  have q2 := fp_o27 q1.2
  have q3 := fp_o42 q2.2
  have q4 := fp_o180 (v := 37) q3.2 rfl
  have q5 := fp_o180 (v := 205) q4.2 rfl
  have q6 := fp_o163 (v := 10) q5.2 rfl
  have q7 := fp_o28 q6.2
  have q8 := fp_o184 (v := 181) q7.2 rfl
  have q9 := fp_o154 (v := 5) q8.2 rfl
  have q10 := fp_o2 q9.2
  have q11 := fp_o172 q10.2
  have q12 := fp_o42 q11.2
  have q13 := fp_o180 (v := 51) q12.2 rfl
  have q14 := fp_o42 q13.2
  have q15 := fp_o180 (v := 23) q14.2 rfl
  have q16 := fp_o42 q15.2
  have q17 := fp_o180 (v := 37) q16.2 rfl
  have q18 := fp_o42 q17.2
  have q19 := fp_o180 (v := 30) q18.2 rfl
  have q20 := fp_o27 q19.2
  have q21 := fp_o182 (v := 214) q20.2 rfl
  have q22 := fp_o42 q21.2
  have q23 := fp_o180 (v := 23) q22.2 rfl
  have q24 := fp_o28 q23.2
  have q25 := fp_o182 (v := 187) q24.2 rfl
  have q26 := fp_o172 q25.2
  ⟨⟨⟨⟨⟨⟨q0.1, q1.1⟩, ⟨q2.1, q3.1⟩⟩, ⟨⟨q4.1, q5.1⟩, q6.1⟩⟩, ⟨⟨⟨q7.1, q8.1⟩, ⟨q9.1, q10.1⟩⟩, ⟨⟨q11.1, q12.1⟩, q13.1⟩⟩⟩, ⟨⟨⟨⟨q14.1, q15.1⟩, ⟨q16.1, q17.1⟩⟩, ⟨⟨q18.1, q19.1⟩, q20.1⟩⟩, ⟨⟨⟨q21.1, q22.1⟩, q23.1⟩, ⟨⟨q24.1, q25.1⟩, q26.1⟩⟩⟩⟩, q26.2⟩
theorem dX11_gains_0 : decode cX11_gains 0 = .ok (.iload_n 1, 1) := fp_hdX11_gains_0.1.1.1.1.1.1
theorem dX11_gains_1 : decode cX11_gains 1 = .ok (.ifCond .lt 21, 3) := fp_hdX11_gains_0.1.1.1.1.1.2
theorem dX11_gains_4 : decode cX11_gains 4 = .ok (.iload_n 1, 1) := fp_hdX11_gains_0.1.1.1.1.2.1
theorem dX11_gains_5 : decode cX11_gains 5 = .ok (.aload_n 0, 1) := fp_hdX11_gains_0.1.1.1.1.2.2
theorem dX11_gains_6 : decode cX11_gains 6 = .ok (.getfield 37, 3) := fp_hdX11_gains_0.1.1.1.2.1.1
theorem dX11_gains_9 : decode cX11_gains 9 = .ok (.getfield 205, 3) := fp_hdX11_gains_0.1.1.1.2.1.2
theorem dX11_gains_12 : decode cX11_gains 12 = .ok (.if_icmp .gt 10, 3) := fp_hdX11_gains_0.1.1.1.2.2
theorem dX11_gains_15 : decode cX11_gains 15 = .ok (.iload_n 2, 1) := fp_hdX11_gains_0.1.1.2.1.1.1
theorem dX11_gains_16 : decode cX11_gains 16 = .ok (.invokestatic 181, 3) := fp_hdX11_gains_0.1.1.2.1.1.2
theorem dX11_gains_19 : decode cX11_gains 19 = .ok (.ifCond .ne 5, 3) := fp_hdX11_gains_0.1.1.2.1.2.1
theorem dX11_gains_22 : decode cX11_gains 22 = .ok (.iconst (-1), 1) := fp_hdX11_gains_0.1.1.2.1.2.2
theorem dX11_gains_23 : decode cX11_gains 23 = .ok (.ireturn, 1) := fp_hdX11_gains_0.1.1.2.2.1.1
theorem dX11_gains_24 : decode cX11_gains 24 = .ok (.aload_n 0, 1) := fp_hdX11_gains_0.1.1.2.2.1.2
theorem dX11_gains_25 : decode cX11_gains 25 = .ok (.getfield 51, 3) := fp_hdX11_gains_0.1.1.2.2.2
theorem dX11_gains_28 : decode cX11_gains 28 = .ok (.aload_n 0, 1) := fp_hdX11_gains_0.1.2.1.1.1.1
theorem dX11_gains_29 : decode cX11_gains 29 = .ok (.getfield 23, 3) := fp_hdX11_gains_0.1.2.1.1.1.2
theorem dX11_gains_32 : decode cX11_gains 32 = .ok (.aload_n 0, 1) := fp_hdX11_gains_0.1.2.1.1.2.1
theorem dX11_gains_33 : decode cX11_gains 33 = .ok (.getfield 37, 3) := fp_hdX11_gains_0.1.2.1.1.2.2
theorem dX11_gains_36 : decode cX11_gains 36 = .ok (.aload_n 0, 1) := fp_hdX11_gains_0.1.2.1.2.1.1
theorem dX11_gains_37 : decode cX11_gains 37 = .ok (.getfield 30, 3) := fp_hdX11_gains_0.1.2.1.2.1.2
theorem dX11_gains_40 : decode cX11_gains 40 = .ok (.iload_n 1, 1) := fp_hdX11_gains_0.1.2.1.2.2
theorem dX11_gains_41 : decode cX11_gains 41 = .ok (.invokevirtual 214, 3) := fp_hdX11_gains_0.1.2.2.1.1.1
theorem dX11_gains_44 : decode cX11_gains 44 = .ok (.aload_n 0, 1) := fp_hdX11_gains_0.1.2.2.1.1.2
theorem dX11_gains_45 : decode cX11_gains 45 = .ok (.getfield 23, 3) := fp_hdX11_gains_0.1.2.2.1.2
theorem dX11_gains_48 : decode cX11_gains 48 = .ok (.iload_n 2, 1) := fp_hdX11_gains_0.1.2.2.2.1.1
theorem dX11_gains_49 : decode cX11_gains 49 = .ok (.invokevirtual 187, 3) := fp_hdX11_gains_0.1.2.2.2.1.2
theorem dX11_gains_52 : decode cX11_gains 52 = .ok (.ireturn, 1) := fp_hdX11_gains_0.1.2.2.2.2
def fp_scX11_vain_1 : List Nat := 128 :: 61 :: 132 :: 3 :: 1 :: 167 :: 255 :: 220 :: 28 :: 172 :: []
def fp_scX11_vain_0 : List Nat := 42 :: 180 :: 0 :: 51 :: 42 :: 180 :: 0 :: 23 :: 42 :: 180 :: 0 :: 37 :: 42 :: 180 :: 0 :: 30 :: 3 :: 182 :: 0 :: 214 :: 76 :: 3 :: 61 :: 3 :: 62 :: 29 :: 42 :: 180 :: 0 :: 37 :: 180 :: 0 :: 205 :: 162 :: 0 :: 31 :: 42 :: 180 :: 0 :: 37 :: 42 :: 180 :: 0 :: 23 :: 43 :: 29 :: 182 :: 0 :: 206 :: 154 :: 0 :: 9 :: 28 :: 4 :: 29 :: 120 :: fp_scX11_vain_1
theorem fp_bcX11_vain : bA cX11_vain 0 fp_scX11_vain_0 := show cX11_vain.data.toList.map UInt8.toNat = fp_scX11_vain_0 from by decide +kernel
theorem fp_hdX11_vain_0 : (((((decode cX11_vain 0 = .ok (.aload_n 0, 1) ∧ decode cX11_vain 1 = .ok (.getfield 51, 3)) ∧ (decode cX11_vain 4 = .ok (.aload_n 0, 1) ∧ decode cX11_vain 5 = .ok (.getfield 23, 3))) ∧ ((decode cX11_vain 8 = .ok (.aload_n 0, 1) ∧ decode cX11_vain 9 = .ok (.getfield 37, 3)) ∧ (decode cX11_vain 12 = .ok (.aload_n 0, 1) ∧ decode cX11_vain 13 = .ok (.getfield 30, 3)))) ∧ (((decode cX11_vain 16 = .ok (.iconst 0, 1) ∧ decode cX11_vain 17 = .ok (.invokevirtual 214, 3)) ∧ (decode cX11_vain 20 = .ok (.astore_n 1, 1) ∧ decode cX11_vain 21 = .ok (.iconst 0, 1))) ∧ ((decode cX11_vain 22 = .ok (.istore_n 2, 1) ∧ decode cX11_vain 23 = .ok (.iconst 0, 1)) ∧ (decode cX11_vain 24 = .ok (.istore_n 3, 1) ∧ decode cX11_vain 25 = .ok (.iload_n 3, 1))))) ∧ ((((decode cX11_vain 26 = .ok (.aload_n 0, 1) ∧ decode cX11_vain 27 = .ok (.getfield 37, 3)) ∧ (decode cX11_vain 30 = .ok (.getfield 205, 3) ∧ decode cX11_vain 33 = .ok (.if_icmp .ge 31, 3))) ∧ ((decode cX11_vain 36 = .ok (.aload_n 0, 1) ∧ decode cX11_vain 37 = .ok (.getfield 37, 3)) ∧ (decode cX11_vain 40 = .ok (.aload_n 0, 1) ∧ decode cX11_vain 41 = .ok (.getfield 23, 3)))) ∧ (((decode cX11_vain 44 = .ok (.aload_n 1, 1) ∧ decode cX11_vain 45 = .ok (.iload_n 3, 1)) ∧ (decode cX11_vain 46 = .ok (.invokevirtual 206, 3) ∧ decode cX11_vain 49 = .ok (.ifCond .ne 9, 3))) ∧ ((decode cX11_vain 52 = .ok (.iload_n 2, 1) ∧ decode cX11_vain 53 = .ok (.iconst 1, 1)) ∧ (decode cX11_vain 54 = .ok (.iload_n 3, 1) ∧ decode cX11_vain 55 = .ok (.ishl, 1)))))) ∧ bA cX11_vain 56 fp_scX11_vain_1 :=
  have q0 := fp_o42 fp_bcX11_vain
  have q1 := fp_o180 (v := 51) q0.2 rfl
  have q2 := fp_o42 q1.2
  have q3 := fp_o180 (v := 23) q2.2 rfl
  have q4 := fp_o42 q3.2
  have q5 := fp_o180 (v := 37) q4.2 rfl
  have q6 := fp_o42 q5.2
  have q7 := fp_o180 (v := 30) q6.2 rfl
  have q8 := fp_o3 q7.2
  have q9 := fp_o182 (v := 214) q8.2 rfl
  have q10 := fp_o76 q9.2
  have q11 := fp_o3 q10.2
  have q12 := fp_o61 q11.2
  have q13 := fp_o3 q12.2
  have q14 := fp_o62 q13.2
  have q15 := fp_o29 q14.2
  have q16 := fp_o42 q15.2
  have q17 := fp_o180 (v := 37) q16.2 rfl
  have q18 := fp_o180 (v := 205) q17.2 rfl
  have q19 := fp_o162 (v := 31) q18.2 rfl
  have q20 := fp_o42 q19.2
  have q21 := fp_o180 (v := 37) q20.2 rfl
  have q22 := fp_o42 q21.2
  have q23 := fp_o180 (v := 23) q22.2 rfl
  have q24 := fp_o43 q23.2
  have q25 := fp_o29 q24.2
  have q26 := fp_o182 (v := 206) q25.2 rfl
  have q27 := fp_o154 (v := 9) q26.2 rfl
  have q28 := fp_o28 q27.2
  have q29 := fp_o4 q28.2
  have q30 := fp_o29 q29.2
  have q31 := fp_o120 q30.2
  ⟨⟨⟨⟨⟨⟨q0.1, q1.1⟩, ⟨q2.1, q3.1⟩⟩, ⟨⟨q4.1, q5.1⟩, ⟨q6.1, q7.1⟩⟩⟩, ⟨⟨⟨q8.1, q9.1⟩, ⟨q10.1, q11.1⟩⟩, ⟨⟨q12.1, q13.1⟩, ⟨q14.1, q15.1⟩⟩⟩⟩, ⟨⟨⟨⟨q16.1, q17.1⟩, ⟨q18.1, q19.1⟩⟩, ⟨⟨q20.1, q21.1⟩, ⟨q22.1, q23.1⟩⟩⟩, ⟨⟨⟨q24.1, q25.1⟩, ⟨q26.1, q27.1⟩⟩, ⟨⟨q28.1, q29.1⟩, ⟨q30.1, q31.1⟩⟩⟩⟩⟩, q31.2⟩
theorem dX11_vain_0 : decode cX11_vain 0 = .ok (.aload_n 0, 1) := fp_hdX11_vain_0.1.1.1.1.1.1
theorem dX11_vain_1 : decode cX11_vain 1 = .ok (.getfield 51, 3) := fp_hdX11_vain_0.1.1.1.1.1.2
theorem dX11_vain_4 : decode cX11_vain 4 = .ok (.aload_n 0, 1) := fp_hdX11_vain_0.1.1.1.1.2.1
theorem dX11_vain_5 : decode cX11_vain 5 = .ok (.getfield 23, 3) := fp_hdX11_vain_0.1.1.1.1.2.2
theorem dX11_vain_8 : decode cX11_vain 8 = .ok (.aload_n 0, 1) := fp_hdX11_vain_0.1.1.1.2.1.1
theorem dX11_vain_9 : decode cX11_vain 9 = .ok (.getfield 37, 3) := fp_hdX11_vain_0.1.1.1.2.1.2
theorem dX11_vain_12 : decode cX11_vain 12 = .ok (.aload_n 0, 1) := fp_hdX11_vain_0.1.1.1.2.2.1
theorem dX11_vain_13 : decode cX11_vain 13 = .ok (.getfield 30, 3) := fp_hdX11_vain_0.1.1.1.2.2.2
theorem dX11_vain_16 : decode cX11_vain 16 = .ok (.iconst 0, 1) := fp_hdX11_vain_0.1.1.2.1.1.1
theorem dX11_vain_17 : decode cX11_vain 17 = .ok (.invokevirtual 214, 3) := fp_hdX11_vain_0.1.1.2.1.1.2
theorem dX11_vain_20 : decode cX11_vain 20 = .ok (.astore_n 1, 1) := fp_hdX11_vain_0.1.1.2.1.2.1
theorem dX11_vain_21 : decode cX11_vain 21 = .ok (.iconst 0, 1) := fp_hdX11_vain_0.1.1.2.1.2.2
theorem dX11_vain_22 : decode cX11_vain 22 = .ok (.istore_n 2, 1) := fp_hdX11_vain_0.1.1.2.2.1.1
theorem dX11_vain_23 : decode cX11_vain 23 = .ok (.iconst 0, 1) := fp_hdX11_vain_0.1.1.2.2.1.2
theorem dX11_vain_24 : decode cX11_vain 24 = .ok (.istore_n 3, 1) := fp_hdX11_vain_0.1.1.2.2.2.1
theorem dX11_vain_25 : decode cX11_vain 25 = .ok (.iload_n 3, 1) := fp_hdX11_vain_0.1.1.2.2.2.2
theorem dX11_vain_26 : decode cX11_vain 26 = .ok (.aload_n 0, 1) := fp_hdX11_vain_0.1.2.1.1.1.1
theorem dX11_vain_27 : decode cX11_vain 27 = .ok (.getfield 37, 3) := fp_hdX11_vain_0.1.2.1.1.1.2
theorem dX11_vain_30 : decode cX11_vain 30 = .ok (.getfield 205, 3) := fp_hdX11_vain_0.1.2.1.1.2.1
theorem dX11_vain_33 : decode cX11_vain 33 = .ok (.if_icmp .ge 31, 3) := fp_hdX11_vain_0.1.2.1.1.2.2
theorem dX11_vain_36 : decode cX11_vain 36 = .ok (.aload_n 0, 1) := fp_hdX11_vain_0.1.2.1.2.1.1
theorem dX11_vain_37 : decode cX11_vain 37 = .ok (.getfield 37, 3) := fp_hdX11_vain_0.1.2.1.2.1.2
theorem dX11_vain_40 : decode cX11_vain 40 = .ok (.aload_n 0, 1) := fp_hdX11_vain_0.1.2.1.2.2.1
theorem dX11_vain_41 : decode cX11_vain 41 = .ok (.getfield 23, 3) := fp_hdX11_vain_0.1.2.1.2.2.2
theorem dX11_vain_44 : decode cX11_vain 44 = .ok (.aload_n 1, 1) := fp_hdX11_vain_0.1.2.2.1.1.1
theorem dX11_vain_45 : decode cX11_vain 45 = .ok (.iload_n 3, 1) := fp_hdX11_vain_0.1.2.2.1.1.2
theorem dX11_vain_46 : decode cX11_vain 46 = .ok (.invokevirtual 206, 3) := fp_hdX11_vain_0.1.2.2.1.2.1
theorem dX11_vain_49 : decode cX11_vain 49 = .ok (.ifCond .ne 9, 3) := fp_hdX11_vain_0.1.2.2.1.2.2
theorem dX11_vain_52 : decode cX11_vain 52 = .ok (.iload_n 2, 1) := fp_hdX11_vain_0.1.2.2.2.1.1
theorem dX11_vain_53 : decode cX11_vain 53 = .ok (.iconst 1, 1) := fp_hdX11_vain_0.1.2.2.2.1.2
theorem dX11_vain_54 : decode cX11_vain 54 = .ok (.iload_n 3, 1) := fp_hdX11_vain_0.1.2.2.2.2.1
theorem dX11_vain_55 : decode cX11_vain 55 = .ok (.ishl, 1) := fp_hdX11_vain_0.1.2.2.2.2.2
theorem fp_hdX11_vain_56 : (((decode cX11_vain 56 = .ok (.ior, 1) ∧ decode cX11_vain 57 = .ok (.istore_n 2, 1)) ∧ decode cX11_vain 58 = .ok (.iinc 3 1, 3)) ∧ ((decode cX11_vain 61 = .ok (.goto (-36), 3) ∧ decode cX11_vain 64 = .ok (.iload_n 2, 1)) ∧ decode cX11_vain 65 = .ok (.ireturn, 1))) ∧ bA cX11_vain 66 [] :=
  have q0 := fp_o128 fp_hdX11_vain_0.2
  have q1 := fp_o61 q0.2
  have q2 := fp_o132 (v := 1) q1.2 rfl
  have q3 := fp_o167 (v := (-36)) q2.2 rfl
  have q4 := fp_o28 q3.2
  have q5 := fp_o172 q4.2
  ⟨⟨⟨⟨q0.1, q1.1⟩, q2.1⟩, ⟨⟨q3.1, q4.1⟩, q5.1⟩⟩, q5.2⟩
theorem dX11_vain_56 : decode cX11_vain 56 = .ok (.ior, 1) := fp_hdX11_vain_56.1.1.1.1
theorem dX11_vain_57 : decode cX11_vain 57 = .ok (.istore_n 2, 1) := fp_hdX11_vain_56.1.1.1.2
theorem dX11_vain_58 : decode cX11_vain 58 = .ok (.iinc 3 1, 3) := fp_hdX11_vain_56.1.1.2
theorem dX11_vain_61 : decode cX11_vain 61 = .ok (.goto (-36), 3) := fp_hdX11_vain_56.1.2.1.1
theorem dX11_vain_64 : decode cX11_vain 64 = .ok (.iload_n 2, 1) := fp_hdX11_vain_56.1.2.1.2
theorem dX11_vain_65 : decode cX11_vain 65 = .ok (.ireturn, 1) := fp_hdX11_vain_56.1.2.2
def fp_scX11_lost_2 : List Nat := 3 :: 54 :: 5 :: 21 :: 5 :: 7 :: 162 :: 0 :: 26 :: 21 :: 5 :: 27 :: 159 :: 0 :: 14 :: 21 :: 4 :: 44 :: 21 :: 5 :: 182 :: 0 :: 184 :: 128 :: 54 :: 4 :: 132 :: 5 :: 1 :: 167 :: 255 :: 230 :: 29 :: 21 :: 4 :: 126 :: 172 :: []
def fp_scX11_lost_1 : List Nat := 44 :: 21 :: 4 :: 182 :: 0 :: 206 :: 54 :: 5 :: 21 :: 5 :: 153 :: 0 :: 44 :: 42 :: 180 :: 0 :: 37 :: 180 :: 0 :: 169 :: 21 :: 4 :: 46 :: 27 :: 160 :: 0 :: 30 :: 42 :: 180 :: 0 :: 37 :: 21 :: 4 :: 182 :: 0 :: 218 :: 154 :: 0 :: 18 :: 29 :: 4 :: 42 :: 180 :: 0 :: 37 :: 180 :: 0 :: 175 :: 21 :: 4 :: 46 :: 120 :: 128 :: 62 :: 132 :: 4 :: 1 :: 167 :: 255 :: 179 :: 3 :: 54 :: 4 :: fp_scX11_lost_2
def fp_scX11_lost_0 : List Nat := 27 :: 184 :: 0 :: 181 :: 154 :: 0 :: 5 :: 2 :: 172 :: 42 :: 180 :: 0 :: 51 :: 42 :: 180 :: 0 :: 23 :: 42 :: 180 :: 0 :: 37 :: 42 :: 180 :: 0 :: 30 :: 3 :: 182 :: 0 :: 214 :: 77 :: 42 :: 180 :: 0 :: 30 :: 27 :: 182 :: 0 :: 184 :: 62 :: 3 :: 54 :: 4 :: 21 :: 4 :: 42 :: 180 :: 0 :: 37 :: 180 :: 0 :: 205 :: 162 :: 0 :: 71 :: 42 :: 180 :: 0 :: 37 :: 42 :: 180 :: 0 :: 23 :: fp_scX11_lost_1
theorem fp_bcX11_lost : bA cX11_lost 0 fp_scX11_lost_0 := show cX11_lost.data.toList.map UInt8.toNat = fp_scX11_lost_0 from by decide +kernel
theorem fp_hdX11_lost_0 : (((((decode cX11_lost 0 = .ok (.iload_n 1, 1) ∧ decode cX11_lost 1 = .ok (.invokestatic 181, 3)) ∧ (decode cX11_lost 4 = .ok (.ifCond .ne 5, 3) ∧ decode cX11_lost 7 = .ok (.iconst (-1), 1))) ∧ ((decode cX11_lost 8 = .ok (.ireturn, 1) ∧ decode cX11_lost 9 = .ok (.aload_n 0, 1)) ∧ (decode cX11_lost 10 = .ok (.getfield 51, 3) ∧ decode cX11_lost 13 = .ok (.aload_n 0, 1)))) ∧ (((decode cX11_lost 14 = .ok (.getfield 23, 3) ∧ decode cX11_lost 17 = .ok (.aload_n 0, 1)) ∧ (decode cX11_lost 18 = .ok (.getfield 37, 3) ∧ decode cX11_lost 21 = .ok (.aload_n 0, 1))) ∧ ((decode cX11_lost 22 = .ok (.getfield 30, 3) ∧ decode cX11_lost 25 = .ok (.iconst 0, 1)) ∧ (decode cX11_lost 26 = .ok (.invokevirtual 214, 3) ∧ decode cX11_lost 29 = .ok (.astore_n 2, 1))))) ∧ ((((decode cX11_lost 30 = .ok (.aload_n 0, 1) ∧ decode cX11_lost 31 = .ok (.getfield 30, 3)) ∧ (decode cX11_lost 34 = .ok (.iload_n 1, 1) ∧ decode cX11_lost 35 = .ok (.invokevirtual 184, 3))) ∧ ((decode cX11_lost 38 = .ok (.istore_n 3, 1) ∧ decode cX11_lost 39 = .ok (.iconst 0, 1)) ∧ (decode cX11_lost 40 = .ok (.istore 4, 2) ∧ decode cX11_lost 42 = .ok (.iload 4, 2)))) ∧ (((decode cX11_lost 44 = .ok (.aload_n 0, 1) ∧ decode cX11_lost 45 = .ok (.getfield 37, 3)) ∧ (decode cX11_lost 48 = .ok (.getfield 205, 3) ∧ decode cX11_lost 51 = .ok (.if_icmp .ge 71, 3))) ∧ ((decode cX11_lost 54 = .ok (.aload_n 0, 1) ∧ decode cX11_lost 55 = .ok (.getfield 37, 3)) ∧ (decode cX11_lost 58 = .ok (.aload_n 0, 1) ∧ decode cX11_lost 59 = .ok (.getfield 23, 3)))))) ∧ bA cX11_lost 62 fp_scX11_lost_1 :=
  have q0 := fp_o27 fp_bcX11_lost
  have q1 := fp_o184 (v := 181) q0.2 rfl
  have q2 := fp_o154 (v := 5) q1.2 rfl
  have q3 := fp_o2 q2.2
  have q4 := fp_o172 q3.2
  have q5 := fp_o42 q4.2
  have q6 := fp_o180 (v := 51) q5.2 rfl
  have q7 := fp_o42 q6.2
  have q8 := fp_o180 (v := 23) q7.2 rfl
  have q9 := fp_o42 q8.2
  have q10 := fp_o180 (v := 37) q9.2 rfl
  have q11 := fp_o42 q10.2
  have q12 := fp_o180 (v := 30) q11.2 rfl
  have q13 := fp_o3 q12.2
  have q14 := fp_o182 (v := 214) q13.2 rfl
  have q15 := fp_o77 q14.2
  have q16 := fp_o42 q15.2
  have q17 := fp_o180 (v := 30) q16.2 rfl
  have q18 := fp_o27 q17.2
  have q19 := fp_o182 (v := 184) q18.2 rfl
  have q20 := fp_o62 q19.2
  have q21 := fp_o3 q20.2
  have q22 := fp_o54 q21.2
  have q23 := fp_o21 q22.2
  have q24 := fp_o42 q23.2
  have q25 := fp_o180 (v := 37) q24.2 rfl
  have q26 := fp_o180 (v := 205) q25.2 rfl
  have q27 := fp_o162 (v := 71) q26.2 rfl
  have q28 := fp_o42 q27.2
  have q29 := fp_o180 (v := 37) q28.2 rfl
  have q30 := fp_o42 q29.2
  have q31 := fp_o180 (v := 23) q30.2 rfl
  ⟨⟨⟨⟨⟨⟨q0.1, q1.1⟩, ⟨q2.1, q3.1⟩⟩, ⟨⟨q4.1, q5.1⟩, ⟨q6.1, q7.1⟩⟩⟩, ⟨⟨⟨q8.1, q9.1⟩, ⟨q10.1, q11.1⟩⟩, ⟨⟨q12.1, q13.1⟩, ⟨q14.1, q15.1⟩⟩⟩⟩, ⟨⟨⟨⟨q16.1, q17.1⟩, ⟨q18.1, q19.1⟩⟩, ⟨⟨q20.1, q21.1⟩, ⟨q22.1, q23.1⟩⟩⟩, ⟨⟨⟨q24.1, q25.1⟩, ⟨q26.1, q27.1⟩⟩, ⟨⟨q28.1, q29.1⟩, ⟨q30.1, q31.1⟩⟩⟩⟩⟩, q31.2⟩
theorem dX11_lost_0 : decode cX11_lost 0 = .ok (.iload_n 1, 1) := fp_hdX11_lost_0.1.1.1.1.1.1
theorem dX11_lost_1 : decode cX11_lost 1 = .ok (.invokestatic 181, 3) := fp_hdX11_lost_0.1.1.1.1.1.2
theorem dX11_lost_4 : decode cX11_lost 4 = .ok (.ifCond .ne 5, 3) := fp_hdX11_lost_0.1.1.1.1.2.1
theorem dX11_lost_7 : decode cX11_lost 7 = .ok (.iconst (-1), 1) := fp_hdX11_lost_0.1.1.1.1.2.2
theorem dX11_lost_8 : decode cX11_lost 8 = .ok (.ireturn, 1) := fp_hdX11_lost_0.1.1.1.2.1.1
theorem dX11_lost_9 : decode cX11_lost 9 = .ok (.aload_n 0, 1) := fp_hdX11_lost_0.1.1.1.2.1.2
theorem dX11_lost_10 : decode cX11_lost 10 = .ok (.getfield 51, 3) := fp_hdX11_lost_0.1.1.1.2.2.1
theorem dX11_lost_13 : decode cX11_lost 13 = .ok (.aload_n 0, 1) := fp_hdX11_lost_0.1.1.1.2.2.2
theorem dX11_lost_14 : decode cX11_lost 14 = .ok (.getfield 23, 3) := fp_hdX11_lost_0.1.1.2.1.1.1
theorem dX11_lost_17 : decode cX11_lost 17 = .ok (.aload_n 0, 1) := fp_hdX11_lost_0.1.1.2.1.1.2
theorem dX11_lost_18 : decode cX11_lost 18 = .ok (.getfield 37, 3) := fp_hdX11_lost_0.1.1.2.1.2.1
theorem dX11_lost_21 : decode cX11_lost 21 = .ok (.aload_n 0, 1) := fp_hdX11_lost_0.1.1.2.1.2.2
theorem dX11_lost_22 : decode cX11_lost 22 = .ok (.getfield 30, 3) := fp_hdX11_lost_0.1.1.2.2.1.1
theorem dX11_lost_25 : decode cX11_lost 25 = .ok (.iconst 0, 1) := fp_hdX11_lost_0.1.1.2.2.1.2
theorem dX11_lost_26 : decode cX11_lost 26 = .ok (.invokevirtual 214, 3) := fp_hdX11_lost_0.1.1.2.2.2.1
theorem dX11_lost_29 : decode cX11_lost 29 = .ok (.astore_n 2, 1) := fp_hdX11_lost_0.1.1.2.2.2.2
theorem dX11_lost_30 : decode cX11_lost 30 = .ok (.aload_n 0, 1) := fp_hdX11_lost_0.1.2.1.1.1.1
theorem dX11_lost_31 : decode cX11_lost 31 = .ok (.getfield 30, 3) := fp_hdX11_lost_0.1.2.1.1.1.2
theorem dX11_lost_34 : decode cX11_lost 34 = .ok (.iload_n 1, 1) := fp_hdX11_lost_0.1.2.1.1.2.1
theorem dX11_lost_35 : decode cX11_lost 35 = .ok (.invokevirtual 184, 3) := fp_hdX11_lost_0.1.2.1.1.2.2
theorem dX11_lost_38 : decode cX11_lost 38 = .ok (.istore_n 3, 1) := fp_hdX11_lost_0.1.2.1.2.1.1
theorem dX11_lost_39 : decode cX11_lost 39 = .ok (.iconst 0, 1) := fp_hdX11_lost_0.1.2.1.2.1.2
theorem dX11_lost_40 : decode cX11_lost 40 = .ok (.istore 4, 2) := fp_hdX11_lost_0.1.2.1.2.2.1
theorem dX11_lost_42 : decode cX11_lost 42 = .ok (.iload 4, 2) := fp_hdX11_lost_0.1.2.1.2.2.2
theorem dX11_lost_44 : decode cX11_lost 44 = .ok (.aload_n 0, 1) := fp_hdX11_lost_0.1.2.2.1.1.1
theorem dX11_lost_45 : decode cX11_lost 45 = .ok (.getfield 37, 3) := fp_hdX11_lost_0.1.2.2.1.1.2
theorem dX11_lost_48 : decode cX11_lost 48 = .ok (.getfield 205, 3) := fp_hdX11_lost_0.1.2.2.1.2.1
theorem dX11_lost_51 : decode cX11_lost 51 = .ok (.if_icmp .ge 71, 3) := fp_hdX11_lost_0.1.2.2.1.2.2
theorem dX11_lost_54 : decode cX11_lost 54 = .ok (.aload_n 0, 1) := fp_hdX11_lost_0.1.2.2.2.1.1
theorem dX11_lost_55 : decode cX11_lost 55 = .ok (.getfield 37, 3) := fp_hdX11_lost_0.1.2.2.2.1.2
theorem dX11_lost_58 : decode cX11_lost 58 = .ok (.aload_n 0, 1) := fp_hdX11_lost_0.1.2.2.2.2.1
theorem dX11_lost_59 : decode cX11_lost 59 = .ok (.getfield 23, 3) := fp_hdX11_lost_0.1.2.2.2.2.2
theorem fp_hdX11_lost_62 : (((((decode cX11_lost 62 = .ok (.aload_n 2, 1) ∧ decode cX11_lost 63 = .ok (.iload 4, 2)) ∧ (decode cX11_lost 65 = .ok (.invokevirtual 206, 3) ∧ decode cX11_lost 68 = .ok (.istore 5, 2))) ∧ ((decode cX11_lost 70 = .ok (.iload 5, 2) ∧ decode cX11_lost 72 = .ok (.ifCond .eq 44, 3)) ∧ (decode cX11_lost 75 = .ok (.aload_n 0, 1) ∧ decode cX11_lost 76 = .ok (.getfield 37, 3)))) ∧ (((decode cX11_lost 79 = .ok (.getfield 169, 3) ∧ decode cX11_lost 82 = .ok (.iload 4, 2)) ∧ (decode cX11_lost 84 = .ok (.iaload, 1) ∧ decode cX11_lost 85 = .ok (.iload_n 1, 1))) ∧ ((decode cX11_lost 86 = .ok (.if_icmp .ne 30, 3) ∧ decode cX11_lost 89 = .ok (.aload_n 0, 1)) ∧ (decode cX11_lost 90 = .ok (.getfield 37, 3) ∧ decode cX11_lost 93 = .ok (.iload 4, 2))))) ∧ ((((decode cX11_lost 95 = .ok (.invokevirtual 218, 3) ∧ decode cX11_lost 98 = .ok (.ifCond .ne 18, 3)) ∧ (decode cX11_lost 101 = .ok (.iload_n 3, 1) ∧ decode cX11_lost 102 = .ok (.iconst 1, 1))) ∧ ((decode cX11_lost 103 = .ok (.aload_n 0, 1) ∧ decode cX11_lost 104 = .ok (.getfield 37, 3)) ∧ (decode cX11_lost 107 = .ok (.getfield 175, 3) ∧ decode cX11_lost 110 = .ok (.iload 4, 2)))) ∧ (((decode cX11_lost 112 = .ok (.iaload, 1) ∧ decode cX11_lost 113 = .ok (.ishl, 1)) ∧ (decode cX11_lost 114 = .ok (.ior, 1) ∧ decode cX11_lost 115 = .ok (.istore_n 3, 1))) ∧ ((decode cX11_lost 116 = .ok (.iinc 4 1, 3) ∧ decode cX11_lost 119 = .ok (.goto (-77), 3)) ∧ (decode cX11_lost 122 = .ok (.iconst 0, 1) ∧ decode cX11_lost 123 = .ok (.istore 4, 2)))))) ∧ bA cX11_lost 125 fp_scX11_lost_2 :=
  have q0 := fp_o44 fp_hdX11_lost_0.2
  have q1 := fp_o21 q0.2
  have q2 := fp_o182 (v := 206) q1.2 rfl
  have q3 := fp_o54 q2.2
  have q4 := fp_o21 q3.2
  have q5 := fp_o153 (v := 44) q4.2 rfl
  have q6 := fp_o42 q5.2
  have q7 := fp_o180 (v := 37) q6.2 rfl
  have q8 := fp_o180 (v := 169) q7.2 rfl
  have q9 := fp_o21 q8.2
  have q10 := fp_o46 q9.2
  have q11 := fp_o27 q10.2
  have q12 := fp_o160 (v := 30) q11.2 rfl
  have q13 := fp_o42 q12.2
  have q14 := fp_o180 (v := 37) q13.2 rfl
  have q15 := fp_o21 q14.2
  have q16 := fp_o182 (v := 218) q15.2 rfl
  have q17 := fp_o154 (v := 18) q16.2 rfl
  have q18 := fp_o29 q17.2
  have q19 := fp_o4 q18.2
  have q20 := fp_o42 q19.2
  have q21 := fp_o180 (v := 37) q20.2 rfl
  have q22 := fp_o180 (v := 175) q21.2 rfl
  have q23 := fp_o21 q22.2
  have q24 := fp_o46 q23.2
  have q25 := fp_o120 q24.2
  have q26 := fp_o128 q25.2
  have q27 := fp_o62 q26.2
  have q28 := fp_o132 (v := 1) q27.2 rfl
  have q29 := fp_o167 (v := (-77)) q28.2 rfl
  have q30 := fp_o3 q29.2
  have q31 := fp_o54 q30.2
  ⟨⟨⟨⟨⟨⟨q0.1, q1.1⟩, ⟨q2.1, q3.1⟩⟩, ⟨⟨q4.1, q5.1⟩, ⟨q6.1, q7.1⟩⟩⟩, ⟨⟨⟨q8.1, q9.1⟩, ⟨q10.1, q11.1⟩⟩, ⟨⟨q12.1, q13.1⟩, ⟨q14.1, q15.1⟩⟩⟩⟩, ⟨⟨⟨⟨q16.1, q17.1⟩, ⟨q18.1, q19.1⟩⟩, ⟨⟨q20.1, q21.1⟩, ⟨q22.1, q23.1⟩⟩⟩, ⟨⟨⟨q24.1, q25.1⟩, ⟨q26.1, q27.1⟩⟩, ⟨⟨q28.1, q29.1⟩, ⟨q30.1, q31.1⟩⟩⟩⟩⟩, q31.2⟩
theorem dX11_lost_62 : decode cX11_lost 62 = .ok (.aload_n 2, 1) := fp_hdX11_lost_62.1.1.1.1.1.1
theorem dX11_lost_63 : decode cX11_lost 63 = .ok (.iload 4, 2) := fp_hdX11_lost_62.1.1.1.1.1.2
theorem dX11_lost_65 : decode cX11_lost 65 = .ok (.invokevirtual 206, 3) := fp_hdX11_lost_62.1.1.1.1.2.1
theorem dX11_lost_68 : decode cX11_lost 68 = .ok (.istore 5, 2) := fp_hdX11_lost_62.1.1.1.1.2.2
theorem dX11_lost_70 : decode cX11_lost 70 = .ok (.iload 5, 2) := fp_hdX11_lost_62.1.1.1.2.1.1
theorem dX11_lost_72 : decode cX11_lost 72 = .ok (.ifCond .eq 44, 3) := fp_hdX11_lost_62.1.1.1.2.1.2
theorem dX11_lost_75 : decode cX11_lost 75 = .ok (.aload_n 0, 1) := fp_hdX11_lost_62.1.1.1.2.2.1
theorem dX11_lost_76 : decode cX11_lost 76 = .ok (.getfield 37, 3) := fp_hdX11_lost_62.1.1.1.2.2.2
theorem dX11_lost_79 : decode cX11_lost 79 = .ok (.getfield 169, 3) := fp_hdX11_lost_62.1.1.2.1.1.1
theorem dX11_lost_82 : decode cX11_lost 82 = .ok (.iload 4, 2) := fp_hdX11_lost_62.1.1.2.1.1.2
theorem dX11_lost_84 : decode cX11_lost 84 = .ok (.iaload, 1) := fp_hdX11_lost_62.1.1.2.1.2.1
theorem dX11_lost_85 : decode cX11_lost 85 = .ok (.iload_n 1, 1) := fp_hdX11_lost_62.1.1.2.1.2.2
theorem dX11_lost_86 : decode cX11_lost 86 = .ok (.if_icmp .ne 30, 3) := fp_hdX11_lost_62.1.1.2.2.1.1
theorem dX11_lost_89 : decode cX11_lost 89 = .ok (.aload_n 0, 1) := fp_hdX11_lost_62.1.1.2.2.1.2
theorem dX11_lost_90 : decode cX11_lost 90 = .ok (.getfield 37, 3) := fp_hdX11_lost_62.1.1.2.2.2.1
theorem dX11_lost_93 : decode cX11_lost 93 = .ok (.iload 4, 2) := fp_hdX11_lost_62.1.1.2.2.2.2
theorem dX11_lost_95 : decode cX11_lost 95 = .ok (.invokevirtual 218, 3) := fp_hdX11_lost_62.1.2.1.1.1.1
theorem dX11_lost_98 : decode cX11_lost 98 = .ok (.ifCond .ne 18, 3) := fp_hdX11_lost_62.1.2.1.1.1.2
theorem dX11_lost_101 : decode cX11_lost 101 = .ok (.iload_n 3, 1) := fp_hdX11_lost_62.1.2.1.1.2.1
theorem dX11_lost_102 : decode cX11_lost 102 = .ok (.iconst 1, 1) := fp_hdX11_lost_62.1.2.1.1.2.2
theorem dX11_lost_103 : decode cX11_lost 103 = .ok (.aload_n 0, 1) := fp_hdX11_lost_62.1.2.1.2.1.1
theorem dX11_lost_104 : decode cX11_lost 104 = .ok (.getfield 37, 3) := fp_hdX11_lost_62.1.2.1.2.1.2
theorem dX11_lost_107 : decode cX11_lost 107 = .ok (.getfield 175, 3) := fp_hdX11_lost_62.1.2.1.2.2.1
theorem dX11_lost_110 : decode cX11_lost 110 = .ok (.iload 4, 2) := fp_hdX11_lost_62.1.2.1.2.2.2
theorem dX11_lost_112 : decode cX11_lost 112 = .ok (.iaload, 1) := fp_hdX11_lost_62.1.2.2.1.1.1
theorem dX11_lost_113 : decode cX11_lost 113 = .ok (.ishl, 1) := fp_hdX11_lost_62.1.2.2.1.1.2
theorem dX11_lost_114 : decode cX11_lost 114 = .ok (.ior, 1) := fp_hdX11_lost_62.1.2.2.1.2.1
theorem dX11_lost_115 : decode cX11_lost 115 = .ok (.istore_n 3, 1) := fp_hdX11_lost_62.1.2.2.1.2.2
theorem dX11_lost_116 : decode cX11_lost 116 = .ok (.iinc 4 1, 3) := fp_hdX11_lost_62.1.2.2.2.1.1
theorem dX11_lost_119 : decode cX11_lost 119 = .ok (.goto (-77), 3) := fp_hdX11_lost_62.1.2.2.2.1.2
theorem dX11_lost_122 : decode cX11_lost 122 = .ok (.iconst 0, 1) := fp_hdX11_lost_62.1.2.2.2.2.1
theorem dX11_lost_123 : decode cX11_lost 123 = .ok (.istore 4, 2) := fp_hdX11_lost_62.1.2.2.2.2.2
theorem fp_hdX11_lost_125 : (((((decode cX11_lost 125 = .ok (.iconst 0, 1) ∧ decode cX11_lost 126 = .ok (.istore 5, 2)) ∧ decode cX11_lost 128 = .ok (.iload 5, 2)) ∧ (decode cX11_lost 130 = .ok (.iconst 4, 1) ∧ decode cX11_lost 131 = .ok (.if_icmp .ge 26, 3))) ∧ (((decode cX11_lost 134 = .ok (.iload 5, 2) ∧ decode cX11_lost 136 = .ok (.iload_n 1, 1)) ∧ decode cX11_lost 137 = .ok (.if_icmp .eq 14, 3)) ∧ (decode cX11_lost 140 = .ok (.iload 4, 2) ∧ decode cX11_lost 142 = .ok (.aload_n 2, 1)))) ∧ ((((decode cX11_lost 143 = .ok (.iload 5, 2) ∧ decode cX11_lost 145 = .ok (.invokevirtual 184, 3)) ∧ decode cX11_lost 148 = .ok (.ior, 1)) ∧ (decode cX11_lost 149 = .ok (.istore 4, 2) ∧ decode cX11_lost 151 = .ok (.iinc 5 1, 3))) ∧ (((decode cX11_lost 154 = .ok (.goto (-26), 3) ∧ decode cX11_lost 157 = .ok (.iload_n 3, 1)) ∧ decode cX11_lost 158 = .ok (.iload 4, 2)) ∧ (decode cX11_lost 160 = .ok (.iand, 1) ∧ decode cX11_lost 161 = .ok (.ireturn, 1))))) ∧ bA cX11_lost 162 [] :=
  have q0 := fp_o3 fp_hdX11_lost_62.2
  have q1 := fp_o54 q0.2
  have q2 := fp_o21 q1.2
  have q3 := fp_o7 q2.2
  have q4 := fp_o162 (v := 26) q3.2 rfl
  have q5 := fp_o21 q4.2
  have q6 := fp_o27 q5.2
  have q7 := fp_o159 (v := 14) q6.2 rfl
  have q8 := fp_o21 q7.2
  have q9 := fp_o44 q8.2
  have q10 := fp_o21 q9.2
  have q11 := fp_o182 (v := 184) q10.2 rfl
  have q12 := fp_o128 q11.2
  have q13 := fp_o54 q12.2
  have q14 := fp_o132 (v := 1) q13.2 rfl
  have q15 := fp_o167 (v := (-26)) q14.2 rfl
  have q16 := fp_o29 q15.2
  have q17 := fp_o21 q16.2
  have q18 := fp_o126 q17.2
  have q19 := fp_o172 q18.2
  ⟨⟨⟨⟨⟨⟨q0.1, q1.1⟩, q2.1⟩, ⟨q3.1, q4.1⟩⟩, ⟨⟨⟨q5.1, q6.1⟩, q7.1⟩, ⟨q8.1, q9.1⟩⟩⟩, ⟨⟨⟨⟨q10.1, q11.1⟩, q12.1⟩, ⟨q13.1, q14.1⟩⟩, ⟨⟨⟨q15.1, q16.1⟩, q17.1⟩, ⟨q18.1, q19.1⟩⟩⟩⟩, q19.2⟩
theorem dX11_lost_125 : decode cX11_lost 125 = .ok (.iconst 0, 1) := fp_hdX11_lost_125.1.1.1.1.1.1
theorem dX11_lost_126 : decode cX11_lost 126 = .ok (.istore 5, 2) := fp_hdX11_lost_125.1.1.1.1.1.2
theorem dX11_lost_128 : decode cX11_lost 128 = .ok (.iload 5, 2) := fp_hdX11_lost_125.1.1.1.1.2
theorem dX11_lost_130 : decode cX11_lost 130 = .ok (.iconst 4, 1) := fp_hdX11_lost_125.1.1.1.2.1
theorem dX11_lost_131 : decode cX11_lost 131 = .ok (.if_icmp .ge 26, 3) := fp_hdX11_lost_125.1.1.1.2.2
theorem dX11_lost_134 : decode cX11_lost 134 = .ok (.iload 5, 2) := fp_hdX11_lost_125.1.1.2.1.1.1
theorem dX11_lost_136 : decode cX11_lost 136 = .ok (.iload_n 1, 1) := fp_hdX11_lost_125.1.1.2.1.1.2
theorem dX11_lost_137 : decode cX11_lost 137 = .ok (.if_icmp .eq 14, 3) := fp_hdX11_lost_125.1.1.2.1.2
theorem dX11_lost_140 : decode cX11_lost 140 = .ok (.iload 4, 2) := fp_hdX11_lost_125.1.1.2.2.1
theorem dX11_lost_142 : decode cX11_lost 142 = .ok (.aload_n 2, 1) := fp_hdX11_lost_125.1.1.2.2.2
theorem dX11_lost_143 : decode cX11_lost 143 = .ok (.iload 5, 2) := fp_hdX11_lost_125.1.2.1.1.1.1
theorem dX11_lost_145 : decode cX11_lost 145 = .ok (.invokevirtual 184, 3) := fp_hdX11_lost_125.1.2.1.1.1.2
theorem dX11_lost_148 : decode cX11_lost 148 = .ok (.ior, 1) := fp_hdX11_lost_125.1.2.1.1.2
theorem dX11_lost_149 : decode cX11_lost 149 = .ok (.istore 4, 2) := fp_hdX11_lost_125.1.2.1.2.1
theorem dX11_lost_151 : decode cX11_lost 151 = .ok (.iinc 5 1, 3) := fp_hdX11_lost_125.1.2.1.2.2
theorem dX11_lost_154 : decode cX11_lost 154 = .ok (.goto (-26), 3) := fp_hdX11_lost_125.1.2.2.1.1.1
theorem dX11_lost_157 : decode cX11_lost 157 = .ok (.iload_n 3, 1) := fp_hdX11_lost_125.1.2.2.1.1.2
theorem dX11_lost_158 : decode cX11_lost 158 = .ok (.iload 4, 2) := fp_hdX11_lost_125.1.2.2.1.2
theorem dX11_lost_160 : decode cX11_lost 160 = .ok (.iand, 1) := fp_hdX11_lost_125.1.2.2.2.1
theorem dX11_lost_161 : decode cX11_lost 161 = .ok (.ireturn, 1) := fp_hdX11_lost_125.1.2.2.2.2
def fp_scX11_since_1 : List Nat := 21 :: 4 :: 42 :: 180 :: 0 :: 37 :: 180 :: 0 :: 205 :: 162 :: 0 :: 37 :: 42 :: 180 :: 0 :: 37 :: 42 :: 180 :: 0 :: 23 :: 45 :: 21 :: 4 :: 182 :: 0 :: 206 :: 87 :: 45 :: 180 :: 0 :: 138 :: 28 :: 46 :: 27 :: 160 :: 0 :: 6 :: 21 :: 4 :: 172 :: 132 :: 4 :: 1 :: 167 :: 255 :: 213 :: 16 :: 252 :: 172 :: []
def fp_scX11_since_0 : List Nat := 27 :: 184 :: 0 :: 181 :: 153 :: 0 :: 14 :: 42 :: 180 :: 0 :: 23 :: 28 :: 182 :: 0 :: 126 :: 154 :: 0 :: 5 :: 2 :: 172 :: 42 :: 180 :: 0 :: 30 :: 180 :: 0 :: 138 :: 28 :: 46 :: 27 :: 160 :: 0 :: 6 :: 16 :: 254 :: 172 :: 42 :: 180 :: 0 :: 51 :: 42 :: 180 :: 0 :: 23 :: 42 :: 180 :: 0 :: 37 :: 42 :: 180 :: 0 :: 30 :: 3 :: 182 :: 0 :: 214 :: 78 :: 3 :: 54 :: 4 :: fp_scX11_since_1
theorem fp_bcX11_since : bA cX11_since 0 fp_scX11_since_0 := show cX11_since.data.toList.map UInt8.toNat = fp_scX11_since_0 from by decide +kernel
theorem fp_hdX11_since_0 : (((((decode cX11_since 0 = .ok (.iload_n 1, 1) ∧ decode cX11_since 1 = .ok (.invokestatic 181, 3)) ∧ (decode cX11_since 4 = .ok (.ifCond .eq 14, 3) ∧ decode cX11_since 7 = .ok (.aload_n 0, 1))) ∧ ((decode cX11_since 8 = .ok (.getfield 23, 3) ∧ decode cX11_since 11 = .ok (.iload_n 2, 1)) ∧ (decode cX11_since 12 = .ok (.invokevirtual 126, 3) ∧ decode cX11_since 15 = .ok (.ifCond .ne 5, 3)))) ∧ (((decode cX11_since 18 = .ok (.iconst (-1), 1) ∧ decode cX11_since 19 = .ok (.ireturn, 1)) ∧ (decode cX11_since 20 = .ok (.aload_n 0, 1) ∧ decode cX11_since 21 = .ok (.getfield 30, 3))) ∧ ((decode cX11_since 24 = .ok (.getfield 138, 3) ∧ decode cX11_since 27 = .ok (.iload_n 2, 1)) ∧ (decode cX11_since 28 = .ok (.iaload, 1) ∧ decode cX11_since 29 = .ok (.iload_n 1, 1))))) ∧ ((((decode cX11_since 30 = .ok (.if_icmp .ne 6, 3) ∧ decode cX11_since 33 = .ok (.bipush (-2), 2)) ∧ (decode cX11_since 35 = .ok (.ireturn, 1) ∧ decode cX11_since 36 = .ok (.aload_n 0, 1))) ∧ ((decode cX11_since 37 = .ok (.getfield 51, 3) ∧ decode cX11_since 40 = .ok (.aload_n 0, 1)) ∧ (decode cX11_since 41 = .ok (.getfield 23, 3) ∧ decode cX11_since 44 = .ok (.aload_n 0, 1)))) ∧ (((decode cX11_since 45 = .ok (.getfield 37, 3) ∧ decode cX11_since 48 = .ok (.aload_n 0, 1)) ∧ (decode cX11_since 49 = .ok (.getfield 30, 3) ∧ decode cX11_since 52 = .ok (.iconst 0, 1))) ∧ ((decode cX11_since 53 = .ok (.invokevirtual 214, 3) ∧ decode cX11_since 56 = .ok (.astore_n 3, 1)) ∧ (decode cX11_since 57 = .ok (.iconst 0, 1) ∧ decode cX11_since 58 = .ok (.istore 4, 2)))))) ∧ bA cX11_since 60 fp_scX11_since_1 :=
  have q0 := fp_o27 fp_bcX11_since
  have q1 := fp_o184 (v := 181) q0.2 rfl
  have q2 := fp_o153 (v := 14) q1.2 rfl
  have q3 := fp_o42 q2.2
  have q4 := fp_o180 (v := 23) q3.2 rfl
  have q5 := fp_o28 q4.2
  have q6 := fp_o182 (v := 126) q5.2 rfl
  have q7 := fp_o154 (v := 5) q6.2 rfl
  have q8 := fp_o2 q7.2
  have q9 := fp_o172 q8.2
  have q10 := fp_o42 q9.2
  have q11 := fp_o180 (v := 30) q10.2 rfl
  have q12 := fp_o180 (v := 138) q11.2 rfl
  have q13 := fp_o28 q12.2
  have q14 := fp_o46 q13.2
  have q15 := fp_o27 q14.2
  have q16 := fp_o160 (v := 6) q15.2 rfl
  have q17 := fp_o16 (v := (-2)) q16.2 rfl
  have q18 := fp_o172 q17.2
  have q19 := fp_o42 q18.2
  have q20 := fp_o180 (v := 51) q19.2 rfl
  have q21 := fp_o42 q20.2
  have q22 := fp_o180 (v := 23) q21.2 rfl
  have q23 := fp_o42 q22.2
  have q24 := fp_o180 (v := 37) q23.2 rfl
  have q25 := fp_o42 q24.2
  have q26 := fp_o180 (v := 30) q25.2 rfl
  have q27 := fp_o3 q26.2
  have q28 := fp_o182 (v := 214) q27.2 rfl
  have q29 := fp_o78 q28.2
  have q30 := fp_o3 q29.2
  have q31 := fp_o54 q30.2
  ⟨⟨⟨⟨⟨⟨q0.1, q1.1⟩, ⟨q2.1, q3.1⟩⟩, ⟨⟨q4.1, q5.1⟩, ⟨q6.1, q7.1⟩⟩⟩, ⟨⟨⟨q8.1, q9.1⟩, ⟨q10.1, q11.1⟩⟩, ⟨⟨q12.1, q13.1⟩, ⟨q14.1, q15.1⟩⟩⟩⟩, ⟨⟨⟨⟨q16.1, q17.1⟩, ⟨q18.1, q19.1⟩⟩, ⟨⟨q20.1, q21.1⟩, ⟨q22.1, q23.1⟩⟩⟩, ⟨⟨⟨q24.1, q25.1⟩, ⟨q26.1, q27.1⟩⟩, ⟨⟨q28.1, q29.1⟩, ⟨q30.1, q31.1⟩⟩⟩⟩⟩, q31.2⟩
theorem dX11_since_0 : decode cX11_since 0 = .ok (.iload_n 1, 1) := fp_hdX11_since_0.1.1.1.1.1.1
theorem dX11_since_1 : decode cX11_since 1 = .ok (.invokestatic 181, 3) := fp_hdX11_since_0.1.1.1.1.1.2
theorem dX11_since_4 : decode cX11_since 4 = .ok (.ifCond .eq 14, 3) := fp_hdX11_since_0.1.1.1.1.2.1
theorem dX11_since_7 : decode cX11_since 7 = .ok (.aload_n 0, 1) := fp_hdX11_since_0.1.1.1.1.2.2
theorem dX11_since_8 : decode cX11_since 8 = .ok (.getfield 23, 3) := fp_hdX11_since_0.1.1.1.2.1.1
theorem dX11_since_11 : decode cX11_since 11 = .ok (.iload_n 2, 1) := fp_hdX11_since_0.1.1.1.2.1.2
theorem dX11_since_12 : decode cX11_since 12 = .ok (.invokevirtual 126, 3) := fp_hdX11_since_0.1.1.1.2.2.1
theorem dX11_since_15 : decode cX11_since 15 = .ok (.ifCond .ne 5, 3) := fp_hdX11_since_0.1.1.1.2.2.2
theorem dX11_since_18 : decode cX11_since 18 = .ok (.iconst (-1), 1) := fp_hdX11_since_0.1.1.2.1.1.1
theorem dX11_since_19 : decode cX11_since 19 = .ok (.ireturn, 1) := fp_hdX11_since_0.1.1.2.1.1.2
theorem dX11_since_20 : decode cX11_since 20 = .ok (.aload_n 0, 1) := fp_hdX11_since_0.1.1.2.1.2.1
theorem dX11_since_21 : decode cX11_since 21 = .ok (.getfield 30, 3) := fp_hdX11_since_0.1.1.2.1.2.2
theorem dX11_since_24 : decode cX11_since 24 = .ok (.getfield 138, 3) := fp_hdX11_since_0.1.1.2.2.1.1
theorem dX11_since_27 : decode cX11_since 27 = .ok (.iload_n 2, 1) := fp_hdX11_since_0.1.1.2.2.1.2
theorem dX11_since_28 : decode cX11_since 28 = .ok (.iaload, 1) := fp_hdX11_since_0.1.1.2.2.2.1
theorem dX11_since_29 : decode cX11_since 29 = .ok (.iload_n 1, 1) := fp_hdX11_since_0.1.1.2.2.2.2
theorem dX11_since_30 : decode cX11_since 30 = .ok (.if_icmp .ne 6, 3) := fp_hdX11_since_0.1.2.1.1.1.1
theorem dX11_since_33 : decode cX11_since 33 = .ok (.bipush (-2), 2) := fp_hdX11_since_0.1.2.1.1.1.2
theorem dX11_since_35 : decode cX11_since 35 = .ok (.ireturn, 1) := fp_hdX11_since_0.1.2.1.1.2.1
theorem dX11_since_36 : decode cX11_since 36 = .ok (.aload_n 0, 1) := fp_hdX11_since_0.1.2.1.1.2.2
theorem dX11_since_37 : decode cX11_since 37 = .ok (.getfield 51, 3) := fp_hdX11_since_0.1.2.1.2.1.1
theorem dX11_since_40 : decode cX11_since 40 = .ok (.aload_n 0, 1) := fp_hdX11_since_0.1.2.1.2.1.2
theorem dX11_since_41 : decode cX11_since 41 = .ok (.getfield 23, 3) := fp_hdX11_since_0.1.2.1.2.2.1
theorem dX11_since_44 : decode cX11_since 44 = .ok (.aload_n 0, 1) := fp_hdX11_since_0.1.2.1.2.2.2
theorem dX11_since_45 : decode cX11_since 45 = .ok (.getfield 37, 3) := fp_hdX11_since_0.1.2.2.1.1.1
theorem dX11_since_48 : decode cX11_since 48 = .ok (.aload_n 0, 1) := fp_hdX11_since_0.1.2.2.1.1.2
theorem dX11_since_49 : decode cX11_since 49 = .ok (.getfield 30, 3) := fp_hdX11_since_0.1.2.2.1.2.1
theorem dX11_since_52 : decode cX11_since 52 = .ok (.iconst 0, 1) := fp_hdX11_since_0.1.2.2.1.2.2
theorem dX11_since_53 : decode cX11_since 53 = .ok (.invokevirtual 214, 3) := fp_hdX11_since_0.1.2.2.2.1.1
theorem dX11_since_56 : decode cX11_since 56 = .ok (.astore_n 3, 1) := fp_hdX11_since_0.1.2.2.2.1.2
theorem dX11_since_57 : decode cX11_since 57 = .ok (.iconst 0, 1) := fp_hdX11_since_0.1.2.2.2.2.1
theorem dX11_since_58 : decode cX11_since 58 = .ok (.istore 4, 2) := fp_hdX11_since_0.1.2.2.2.2.2
theorem fp_hdX11_since_60 : (((((decode cX11_since 60 = .ok (.iload 4, 2) ∧ decode cX11_since 62 = .ok (.aload_n 0, 1)) ∧ (decode cX11_since 63 = .ok (.getfield 37, 3) ∧ decode cX11_since 66 = .ok (.getfield 205, 3))) ∧ ((decode cX11_since 69 = .ok (.if_icmp .ge 37, 3) ∧ decode cX11_since 72 = .ok (.aload_n 0, 1)) ∧ decode cX11_since 73 = .ok (.getfield 37, 3))) ∧ (((decode cX11_since 76 = .ok (.aload_n 0, 1) ∧ decode cX11_since 77 = .ok (.getfield 23, 3)) ∧ decode cX11_since 80 = .ok (.aload_n 3, 1)) ∧ ((decode cX11_since 81 = .ok (.iload 4, 2) ∧ decode cX11_since 83 = .ok (.invokevirtual 206, 3)) ∧ decode cX11_since 86 = .ok (.pop, 1)))) ∧ ((((decode cX11_since 87 = .ok (.aload_n 3, 1) ∧ decode cX11_since 88 = .ok (.getfield 138, 3)) ∧ decode cX11_since 91 = .ok (.iload_n 2, 1)) ∧ ((decode cX11_since 92 = .ok (.iaload, 1) ∧ decode cX11_since 93 = .ok (.iload_n 1, 1)) ∧ decode cX11_since 94 = .ok (.if_icmp .ne 6, 3))) ∧ (((decode cX11_since 97 = .ok (.iload 4, 2) ∧ decode cX11_since 99 = .ok (.ireturn, 1)) ∧ decode cX11_since 100 = .ok (.iinc 4 1, 3)) ∧ ((decode cX11_since 103 = .ok (.goto (-43), 3) ∧ decode cX11_since 106 = .ok (.bipush (-4), 2)) ∧ decode cX11_since 108 = .ok (.ireturn, 1))))) ∧ bA cX11_since 109 [] :=
  have q0 := fp_o21 fp_hdX11_since_0.2
  have q1 := fp_o42 q0.2
  have q2 := fp_o180 (v := 37) q1.2 rfl
  have q3 := fp_o180 (v := 205) q2.2 rfl
  have q4 := fp_o162 (v := 37) q3.2 rfl
  have q5 := fp_o42 q4.2
  have q6 := fp_o180 (v := 37) q5.2 rfl
  have q7 := fp_o42 q6.2
  have q8 := fp_o180 (v := 23) q7.2 rfl
  have q9 := fp_o45 q8.2
  have q10 := fp_o21 q9.2
  have q11 := fp_o182 (v := 206) q10.2 rfl
  have q12 := fp_o87 q11.2
  have q13 := fp_o45 q12.2
  have q14 := fp_o180 (v := 138) q13.2 rfl
  have q15 := fp_o28 q14.2
  have q16 := fp_o46 q15.2
  have q17 := fp_o27 q16.2
  have q18 := fp_o160 (v := 6) q17.2 rfl
  have q19 := fp_o21 q18.2
  have q20 := fp_o172 q19.2
  have q21 := fp_o132 (v := 1) q20.2 rfl
  have q22 := fp_o167 (v := (-43)) q21.2 rfl
  have q23 := fp_o16 (v := (-4)) q22.2 rfl
  have q24 := fp_o172 q23.2
  ⟨⟨⟨⟨⟨⟨q0.1, q1.1⟩, ⟨q2.1, q3.1⟩⟩, ⟨⟨q4.1, q5.1⟩, q6.1⟩⟩, ⟨⟨⟨q7.1, q8.1⟩, q9.1⟩, ⟨⟨q10.1, q11.1⟩, q12.1⟩⟩⟩, ⟨⟨⟨⟨q13.1, q14.1⟩, q15.1⟩, ⟨⟨q16.1, q17.1⟩, q18.1⟩⟩, ⟨⟨⟨q19.1, q20.1⟩, q21.1⟩, ⟨⟨q22.1, q23.1⟩, q24.1⟩⟩⟩⟩, q24.2⟩
theorem dX11_since_60 : decode cX11_since 60 = .ok (.iload 4, 2) := fp_hdX11_since_60.1.1.1.1.1.1
theorem dX11_since_62 : decode cX11_since 62 = .ok (.aload_n 0, 1) := fp_hdX11_since_60.1.1.1.1.1.2
theorem dX11_since_63 : decode cX11_since 63 = .ok (.getfield 37, 3) := fp_hdX11_since_60.1.1.1.1.2.1
theorem dX11_since_66 : decode cX11_since 66 = .ok (.getfield 205, 3) := fp_hdX11_since_60.1.1.1.1.2.2
theorem dX11_since_69 : decode cX11_since 69 = .ok (.if_icmp .ge 37, 3) := fp_hdX11_since_60.1.1.1.2.1.1
theorem dX11_since_72 : decode cX11_since 72 = .ok (.aload_n 0, 1) := fp_hdX11_since_60.1.1.1.2.1.2
theorem dX11_since_73 : decode cX11_since 73 = .ok (.getfield 37, 3) := fp_hdX11_since_60.1.1.1.2.2
theorem dX11_since_76 : decode cX11_since 76 = .ok (.aload_n 0, 1) := fp_hdX11_since_60.1.1.2.1.1.1
theorem dX11_since_77 : decode cX11_since 77 = .ok (.getfield 23, 3) := fp_hdX11_since_60.1.1.2.1.1.2
theorem dX11_since_80 : decode cX11_since 80 = .ok (.aload_n 3, 1) := fp_hdX11_since_60.1.1.2.1.2
theorem dX11_since_81 : decode cX11_since 81 = .ok (.iload 4, 2) := fp_hdX11_since_60.1.1.2.2.1.1
theorem dX11_since_83 : decode cX11_since 83 = .ok (.invokevirtual 206, 3) := fp_hdX11_since_60.1.1.2.2.1.2
theorem dX11_since_86 : decode cX11_since 86 = .ok (.pop, 1) := fp_hdX11_since_60.1.1.2.2.2
theorem dX11_since_87 : decode cX11_since 87 = .ok (.aload_n 3, 1) := fp_hdX11_since_60.1.2.1.1.1.1
theorem dX11_since_88 : decode cX11_since 88 = .ok (.getfield 138, 3) := fp_hdX11_since_60.1.2.1.1.1.2
theorem dX11_since_91 : decode cX11_since 91 = .ok (.iload_n 2, 1) := fp_hdX11_since_60.1.2.1.1.2
theorem dX11_since_92 : decode cX11_since 92 = .ok (.iaload, 1) := fp_hdX11_since_60.1.2.1.2.1.1
theorem dX11_since_93 : decode cX11_since 93 = .ok (.iload_n 1, 1) := fp_hdX11_since_60.1.2.1.2.1.2
theorem dX11_since_94 : decode cX11_since 94 = .ok (.if_icmp .ne 6, 3) := fp_hdX11_since_60.1.2.1.2.2
theorem dX11_since_97 : decode cX11_since 97 = .ok (.iload 4, 2) := fp_hdX11_since_60.1.2.2.1.1.1
theorem dX11_since_99 : decode cX11_since 99 = .ok (.ireturn, 1) := fp_hdX11_since_60.1.2.2.1.1.2
theorem dX11_since_100 : decode cX11_since 100 = .ok (.iinc 4 1, 3) := fp_hdX11_since_60.1.2.2.1.2
theorem dX11_since_103 : decode cX11_since 103 = .ok (.goto (-43), 3) := fp_hdX11_since_60.1.2.2.2.1.1
theorem dX11_since_106 : decode cX11_since 106 = .ok (.bipush (-4), 2) := fp_hdX11_since_60.1.2.2.2.1.2
theorem dX11_since_108 : decode cX11_since 108 = .ok (.ireturn, 1) := fp_hdX11_since_60.1.2.2.2.2
def fp_scX11_extra_2 : List Nat := 25 :: 4 :: 21 :: 7 :: 182 :: 0 :: 206 :: 87 :: 132 :: 7 :: 1 :: 167 :: 255 :: 175 :: 29 :: 154 :: 0 :: 8 :: 21 :: 5 :: 167 :: 0 :: 5 :: 21 :: 6 :: 172 :: []
def fp_scX11_extra_1 : List Nat := 42 :: 180 :: 0 :: 37 :: 180 :: 0 :: 205 :: 163 :: 0 :: 75 :: 25 :: 4 :: 42 :: 180 :: 0 :: 23 :: 28 :: 182 :: 0 :: 159 :: 54 :: 8 :: 21 :: 8 :: 16 :: 252 :: 159 :: 0 :: 34 :: 42 :: 180 :: 0 :: 23 :: 27 :: 21 :: 8 :: 182 :: 0 :: 130 :: 21 :: 5 :: 164 :: 0 :: 19 :: 42 :: 180 :: 0 :: 23 :: 27 :: 21 :: 8 :: 182 :: 0 :: 130 :: 54 :: 5 :: 21 :: 7 :: 54 :: 6 :: 42 :: 180 :: 0 :: 37 :: 42 :: 180 :: 0 :: 23 :: fp_scX11_extra_2
def fp_scX11_extra_0 : List Nat := 27 :: 184 :: 0 :: 181 :: 153 :: 0 :: 22 :: 42 :: 180 :: 0 :: 23 :: 28 :: 182 :: 0 :: 148 :: 153 :: 0 :: 11 :: 29 :: 4 :: 184 :: 0 :: 221 :: 154 :: 0 :: 5 :: 2 :: 172 :: 42 :: 180 :: 0 :: 51 :: 42 :: 180 :: 0 :: 23 :: 42 :: 180 :: 0 :: 37 :: 42 :: 180 :: 0 :: 30 :: 3 :: 182 :: 0 :: 214 :: 58 :: 4 :: 16 :: 252 :: 54 :: 5 :: 16 :: 252 :: 54 :: 6 :: 3 :: 54 :: 7 :: 21 :: 7 :: fp_scX11_extra_1
theorem fp_bcX11_extra : bA cX11_extra 0 fp_scX11_extra_0 := show cX11_extra.data.toList.map UInt8.toNat = fp_scX11_extra_0 from by decide +kernel
theorem fp_hdX11_extra_0 : (((((decode cX11_extra 0 = .ok (.iload_n 1, 1) ∧ decode cX11_extra 1 = .ok (.invokestatic 181, 3)) ∧ (decode cX11_extra 4 = .ok (.ifCond .eq 22, 3) ∧ decode cX11_extra 7 = .ok (.aload_n 0, 1))) ∧ ((decode cX11_extra 8 = .ok (.getfield 23, 3) ∧ decode cX11_extra 11 = .ok (.iload_n 2, 1)) ∧ (decode cX11_extra 12 = .ok (.invokevirtual 148, 3) ∧ decode cX11_extra 15 = .ok (.ifCond .eq 11, 3)))) ∧ (((decode cX11_extra 18 = .ok (.iload_n 3, 1) ∧ decode cX11_extra 19 = .ok (.iconst 1, 1)) ∧ (decode cX11_extra 20 = .ok (.invokestatic 221, 3) ∧ decode cX11_extra 23 = .ok (.ifCond .ne 5, 3))) ∧ ((decode cX11_extra 26 = .ok (.iconst (-1), 1) ∧ decode cX11_extra 27 = .ok (.ireturn, 1)) ∧ (decode cX11_extra 28 = .ok (.aload_n 0, 1) ∧ decode cX11_extra 29 = .ok (.getfield 51, 3))))) ∧ ((((decode cX11_extra 32 = .ok (.aload_n 0, 1) ∧ decode cX11_extra 33 = .ok (.getfield 23, 3)) ∧ (decode cX11_extra 36 = .ok (.aload_n 0, 1) ∧ decode cX11_extra 37 = .ok (.getfield 37, 3))) ∧ ((decode cX11_extra 40 = .ok (.aload_n 0, 1) ∧ decode cX11_extra 41 = .ok (.getfield 30, 3)) ∧ (decode cX11_extra 44 = .ok (.iconst 0, 1) ∧ decode cX11_extra 45 = .ok (.invokevirtual 214, 3)))) ∧ (((decode cX11_extra 48 = .ok (.astore 4, 2) ∧ decode cX11_extra 50 = .ok (.bipush (-4), 2)) ∧ (decode cX11_extra 52 = .ok (.istore 5, 2) ∧ decode cX11_extra 54 = .ok (.bipush (-4), 2))) ∧ ((decode cX11_extra 56 = .ok (.istore 6, 2) ∧ decode cX11_extra 58 = .ok (.iconst 0, 1)) ∧ (decode cX11_extra 59 = .ok (.istore 7, 2) ∧ decode cX11_extra 61 = .ok (.iload 7, 2)))))) ∧ bA cX11_extra 63 fp_scX11_extra_1 :=
  have q0 := fp_o27 fp_bcX11_extra
  have q1 := fp_o184 (v := 181) q0.2 rfl
  have q2 := fp_o153 (v := 22) q1.2 rfl
  have q3 := fp_o42 q2.2
  have q4 := fp_o180 (v := 23) q3.2 rfl
  have q5 := fp_o28 q4.2
  have q6 := fp_o182 (v := 148) q5.2 rfl
  have q7 := fp_o153 (v := 11) q6.2 rfl
  have q8 := fp_o29 q7.2
  have q9 := fp_o4 q8.2
  have q10 := fp_o184 (v := 221) q9.2 rfl
  have q11 := fp_o154 (v := 5) q10.2 rfl
  have q12 := fp_o2 q11.2
  have q13 := fp_o172 q12.2
  have q14 := fp_o42 q13.2
  have q15 := fp_o180 (v := 51) q14.2 rfl
  have q16 := fp_o42 q15.2
  have q17 := fp_o180 (v := 23) q16.2 rfl
  have q18 := fp_o42 q17.2
  have q19 := fp_o180 (v := 37) q18.2 rfl
  have q20 := fp_o42 q19.2
  have q21 := fp_o180 (v := 30) q20.2 rfl
  have q22 := fp_o3 q21.2
  have q23 := fp_o182 (v := 214) q22.2 rfl
  have q24 := fp_o58 q23.2
  have q25 := fp_o16 (v := (-4)) q24.2 rfl
  have q26 := fp_o54 q25.2
  have q27 := fp_o16 (v := (-4)) q26.2 rfl
  have q28 := fp_o54 q27.2
  have q29 := fp_o3 q28.2
  have q30 := fp_o54 q29.2
  have q31 := fp_o21 q30.2
  ⟨⟨⟨⟨⟨⟨q0.1, q1.1⟩, ⟨q2.1, q3.1⟩⟩, ⟨⟨q4.1, q5.1⟩, ⟨q6.1, q7.1⟩⟩⟩, ⟨⟨⟨q8.1, q9.1⟩, ⟨q10.1, q11.1⟩⟩, ⟨⟨q12.1, q13.1⟩, ⟨q14.1, q15.1⟩⟩⟩⟩, ⟨⟨⟨⟨q16.1, q17.1⟩, ⟨q18.1, q19.1⟩⟩, ⟨⟨q20.1, q21.1⟩, ⟨q22.1, q23.1⟩⟩⟩, ⟨⟨⟨q24.1, q25.1⟩, ⟨q26.1, q27.1⟩⟩, ⟨⟨q28.1, q29.1⟩, ⟨q30.1, q31.1⟩⟩⟩⟩⟩, q31.2⟩
theorem dX11_extra_0 : decode cX11_extra 0 = .ok (.iload_n 1, 1) := fp_hdX11_extra_0.1.1.1.1.1.1
theorem dX11_extra_1 : decode cX11_extra 1 = .ok (.invokestatic 181, 3) := fp_hdX11_extra_0.1.1.1.1.1.2
theorem dX11_extra_4 : decode cX11_extra 4 = .ok (.ifCond .eq 22, 3) := fp_hdX11_extra_0.1.1.1.1.2.1
theorem dX11_extra_7 : decode cX11_extra 7 = .ok (.aload_n 0, 1) := fp_hdX11_extra_0.1.1.1.1.2.2
theorem dX11_extra_8 : decode cX11_extra 8 = .ok (.getfield 23, 3) := fp_hdX11_extra_0.1.1.1.2.1.1
theorem dX11_extra_11 : decode cX11_extra 11 = .ok (.iload_n 2, 1) := fp_hdX11_extra_0.1.1.1.2.1.2
theorem dX11_extra_12 : decode cX11_extra 12 = .ok (.invokevirtual 148, 3) := fp_hdX11_extra_0.1.1.1.2.2.1
theorem dX11_extra_15 : decode cX11_extra 15 = .ok (.ifCond .eq 11, 3) := fp_hdX11_extra_0.1.1.1.2.2.2
theorem dX11_extra_18 : decode cX11_extra 18 = .ok (.iload_n 3, 1) := fp_hdX11_extra_0.1.1.2.1.1.1
theorem dX11_extra_19 : decode cX11_extra 19 = .ok (.iconst 1, 1) := fp_hdX11_extra_0.1.1.2.1.1.2
theorem dX11_extra_20 : decode cX11_extra 20 = .ok (.invokestatic 221, 3) := fp_hdX11_extra_0.1.1.2.1.2.1
theorem dX11_extra_23 : decode cX11_extra 23 = .ok (.ifCond .ne 5, 3) := fp_hdX11_extra_0.1.1.2.1.2.2
theorem dX11_extra_26 : decode cX11_extra 26 = .ok (.iconst (-1), 1) := fp_hdX11_extra_0.1.1.2.2.1.1
theorem dX11_extra_27 : decode cX11_extra 27 = .ok (.ireturn, 1) := fp_hdX11_extra_0.1.1.2.2.1.2
theorem dX11_extra_28 : decode cX11_extra 28 = .ok (.aload_n 0, 1) := fp_hdX11_extra_0.1.1.2.2.2.1
theorem dX11_extra_29 : decode cX11_extra 29 = .ok (.getfield 51, 3) := fp_hdX11_extra_0.1.1.2.2.2.2
theorem dX11_extra_32 : decode cX11_extra 32 = .ok (.aload_n 0, 1) := fp_hdX11_extra_0.1.2.1.1.1.1
theorem dX11_extra_33 : decode cX11_extra 33 = .ok (.getfield 23, 3) := fp_hdX11_extra_0.1.2.1.1.1.2
theorem dX11_extra_36 : decode cX11_extra 36 = .ok (.aload_n 0, 1) := fp_hdX11_extra_0.1.2.1.1.2.1
theorem dX11_extra_37 : decode cX11_extra 37 = .ok (.getfield 37, 3) := fp_hdX11_extra_0.1.2.1.1.2.2
theorem dX11_extra_40 : decode cX11_extra 40 = .ok (.aload_n 0, 1) := fp_hdX11_extra_0.1.2.1.2.1.1
theorem dX11_extra_41 : decode cX11_extra 41 = .ok (.getfield 30, 3) := fp_hdX11_extra_0.1.2.1.2.1.2
theorem dX11_extra_44 : decode cX11_extra 44 = .ok (.iconst 0, 1) := fp_hdX11_extra_0.1.2.1.2.2.1
theorem dX11_extra_45 : decode cX11_extra 45 = .ok (.invokevirtual 214, 3) := fp_hdX11_extra_0.1.2.1.2.2.2
theorem dX11_extra_48 : decode cX11_extra 48 = .ok (.astore 4, 2) := fp_hdX11_extra_0.1.2.2.1.1.1
theorem dX11_extra_50 : decode cX11_extra 50 = .ok (.bipush (-4), 2) := fp_hdX11_extra_0.1.2.2.1.1.2
theorem dX11_extra_52 : decode cX11_extra 52 = .ok (.istore 5, 2) := fp_hdX11_extra_0.1.2.2.1.2.1
theorem dX11_extra_54 : decode cX11_extra 54 = .ok (.bipush (-4), 2) := fp_hdX11_extra_0.1.2.2.1.2.2
theorem dX11_extra_56 : decode cX11_extra 56 = .ok (.istore 6, 2) := fp_hdX11_extra_0.1.2.2.2.1.1
theorem dX11_extra_58 : decode cX11_extra 58 = .ok (.iconst 0, 1) := fp_hdX11_extra_0.1.2.2.2.1.2
theorem dX11_extra_59 : decode cX11_extra 59 = .ok (.istore 7, 2) := fp_hdX11_extra_0.1.2.2.2.2.1
theorem dX11_extra_61 : decode cX11_extra 61 = .ok (.iload 7, 2) := fp_hdX11_extra_0.1.2.2.2.2.2
theorem fp_hdX11_extra_63 : (((((decode cX11_extra 63 = .ok (.aload_n 0, 1) ∧ decode cX11_extra 64 = .ok (.getfield 37, 3)) ∧ (decode cX11_extra 67 = .ok (.getfield 205, 3) ∧ decode cX11_extra 70 = .ok (.if_icmp .gt 75, 3))) ∧ ((decode cX11_extra 73 = .ok (.aload 4, 2) ∧ decode cX11_extra 75 = .ok (.aload_n 0, 1)) ∧ (decode cX11_extra 76 = .ok (.getfield 23, 3) ∧ decode cX11_extra 79 = .ok (.iload_n 2, 1)))) ∧ (((decode cX11_extra 80 = .ok (.invokevirtual 159, 3) ∧ decode cX11_extra 83 = .ok (.istore 8, 2)) ∧ (decode cX11_extra 85 = .ok (.iload 8, 2) ∧ decode cX11_extra 87 = .ok (.bipush (-4), 2))) ∧ ((decode cX11_extra 89 = .ok (.if_icmp .eq 34, 3) ∧ decode cX11_extra 92 = .ok (.aload_n 0, 1)) ∧ (decode cX11_extra 93 = .ok (.getfield 23, 3) ∧ decode cX11_extra 96 = .ok (.iload_n 1, 1))))) ∧ ((((decode cX11_extra 97 = .ok (.iload 8, 2) ∧ decode cX11_extra 99 = .ok (.invokevirtual 130, 3)) ∧ (decode cX11_extra 102 = .ok (.iload 5, 2) ∧ decode cX11_extra 104 = .ok (.if_icmp .le 19, 3))) ∧ ((decode cX11_extra 107 = .ok (.aload_n 0, 1) ∧ decode cX11_extra 108 = .ok (.getfield 23, 3)) ∧ (decode cX11_extra 111 = .ok (.iload_n 1, 1) ∧ decode cX11_extra 112 = .ok (.iload 8, 2)))) ∧ (((decode cX11_extra 114 = .ok (.invokevirtual 130, 3) ∧ decode cX11_extra 117 = .ok (.istore 5, 2)) ∧ (decode cX11_extra 119 = .ok (.iload 7, 2) ∧ decode cX11_extra 121 = .ok (.istore 6, 2))) ∧ ((decode cX11_extra 123 = .ok (.aload_n 0, 1) ∧ decode cX11_extra 124 = .ok (.getfield 37, 3)) ∧ (decode cX11_extra 127 = .ok (.aload_n 0, 1) ∧ decode cX11_extra 128 = .ok (.getfield 23, 3)))))) ∧ bA cX11_extra 131 fp_scX11_extra_2 :=
  have q0 := fp_o42 fp_hdX11_extra_0.2
  have q1 := fp_o180 (v := 37) q0.2 rfl
  have q2 := fp_o180 (v := 205) q1.2 rfl
  have q3 := fp_o163 (v := 75) q2.2 rfl
  have q4 := fp_o25 q3.2
  have q5 := fp_o42 q4.2
  have q6 := fp_o180 (v := 23) q5.2 rfl
  have q7 := fp_o28 q6.2
  have q8 := fp_o182 (v := 159) q7.2 rfl
  have q9 := fp_o54 q8.2
  have q10 := fp_o21 q9.2
  have q11 := fp_o16 (v := (-4)) q10.2 rfl
  have q12 := fp_o159 (v := 34) q11.2 rfl
  have q13 := fp_o42 q12.2
  have q14 := fp_o180 (v := 23) q13.2 rfl
  have q15 := fp_o27 q14.2
  have q16 := fp_o21 q15.2
  have q17 := fp_o182 (v := 130) q16.2 rfl
  have q18 := fp_o21 q17.2
  have q19 := fp_o164 (v := 19) q18.2 rfl
  have q20 := fp_o42 q19.2
  have q21 := fp_o180 (v := 23) q20.2 rfl
  have q22 := fp_o27 q21.2
  have q23 := fp_o21 q22.2
  have q24 := fp_o182 (v := 130) q23.2 rfl
  have q25 := fp_o54 q24.2
  have q26 := fp_o21 q25.2
  have q27 := fp_o54 q26.2
  have q28 := fp_o42 q27.2
  have q29 := fp_o180 (v := 37) q28.2 rfl
  have q30 := fp_o42 q29.2
  have q31 := fp_o180 (v := 23) q30.2 rfl
  ⟨⟨⟨⟨⟨⟨q0.1, q1.1⟩, ⟨q2.1, q3.1⟩⟩, ⟨⟨q4.1, q5.1⟩, ⟨q6.1, q7.1⟩⟩⟩, ⟨⟨⟨q8.1, q9.1⟩, ⟨q10.1, q11.1⟩⟩, ⟨⟨q12.1, q13.1⟩, ⟨q14.1, q15.1⟩⟩⟩⟩, ⟨⟨⟨⟨q16.1, q17.1⟩, ⟨q18.1, q19.1⟩⟩, ⟨⟨q20.1, q21.1⟩, ⟨q22.1, q23.1⟩⟩⟩, ⟨⟨⟨q24.1, q25.1⟩, ⟨q26.1, q27.1⟩⟩, ⟨⟨q28.1, q29.1⟩, ⟨q30.1, q31.1⟩⟩⟩⟩⟩, q31.2⟩
theorem dX11_extra_63 : decode cX11_extra 63 = .ok (.aload_n 0, 1) := fp_hdX11_extra_63.1.1.1.1.1.1
theorem dX11_extra_64 : decode cX11_extra 64 = .ok (.getfield 37, 3) := fp_hdX11_extra_63.1.1.1.1.1.2
theorem dX11_extra_67 : decode cX11_extra 67 = .ok (.getfield 205, 3) := fp_hdX11_extra_63.1.1.1.1.2.1
theorem dX11_extra_70 : decode cX11_extra 70 = .ok (.if_icmp .gt 75, 3) := fp_hdX11_extra_63.1.1.1.1.2.2
theorem dX11_extra_73 : decode cX11_extra 73 = .ok (.aload 4, 2) := fp_hdX11_extra_63.1.1.1.2.1.1
theorem dX11_extra_75 : decode cX11_extra 75 = .ok (.aload_n 0, 1) := fp_hdX11_extra_63.1.1.1.2.1.2
theorem dX11_extra_76 : decode cX11_extra 76 = .ok (.getfield 23, 3) := fp_hdX11_extra_63.1.1.1.2.2.1
theorem dX11_extra_79 : decode cX11_extra 79 = .ok (.iload_n 2, 1) := fp_hdX11_extra_63.1.1.1.2.2.2
theorem dX11_extra_80 : decode cX11_extra 80 = .ok (.invokevirtual 159, 3) := fp_hdX11_extra_63.1.1.2.1.1.1
theorem dX11_extra_83 : decode cX11_extra 83 = .ok (.istore 8, 2) := fp_hdX11_extra_63.1.1.2.1.1.2
theorem dX11_extra_85 : decode cX11_extra 85 = .ok (.iload 8, 2) := fp_hdX11_extra_63.1.1.2.1.2.1
theorem dX11_extra_87 : decode cX11_extra 87 = .ok (.bipush (-4), 2) := fp_hdX11_extra_63.1.1.2.1.2.2
theorem dX11_extra_89 : decode cX11_extra 89 = .ok (.if_icmp .eq 34, 3) := fp_hdX11_extra_63.1.1.2.2.1.1
theorem dX11_extra_92 : decode cX11_extra 92 = .ok (.aload_n 0, 1) := fp_hdX11_extra_63.1.1.2.2.1.2
theorem dX11_extra_93 : decode cX11_extra 93 = .ok (.getfield 23, 3) := fp_hdX11_extra_63.1.1.2.2.2.1
theorem dX11_extra_96 : decode cX11_extra 96 = .ok (.iload_n 1, 1) := fp_hdX11_extra_63.1.1.2.2.2.2
theorem dX11_extra_97 : decode cX11_extra 97 = .ok (.iload 8, 2) := fp_hdX11_extra_63.1.2.1.1.1.1
theorem dX11_extra_99 : decode cX11_extra 99 = .ok (.invokevirtual 130, 3) := fp_hdX11_extra_63.1.2.1.1.1.2
theorem dX11_extra_102 : decode cX11_extra 102 = .ok (.iload 5, 2) := fp_hdX11_extra_63.1.2.1.1.2.1
theorem dX11_extra_104 : decode cX11_extra 104 = .ok (.if_icmp .le 19, 3) := fp_hdX11_extra_63.1.2.1.1.2.2
theorem dX11_extra_107 : decode cX11_extra 107 = .ok (.aload_n 0, 1) := fp_hdX11_extra_63.1.2.1.2.1.1
theorem dX11_extra_108 : decode cX11_extra 108 = .ok (.getfield 23, 3) := fp_hdX11_extra_63.1.2.1.2.1.2
theorem dX11_extra_111 : decode cX11_extra 111 = .ok (.iload_n 1, 1) := fp_hdX11_extra_63.1.2.1.2.2.1
theorem dX11_extra_112 : decode cX11_extra 112 = .ok (.iload 8, 2) := fp_hdX11_extra_63.1.2.1.2.2.2
theorem dX11_extra_114 : decode cX11_extra 114 = .ok (.invokevirtual 130, 3) := fp_hdX11_extra_63.1.2.2.1.1.1
theorem dX11_extra_117 : decode cX11_extra 117 = .ok (.istore 5, 2) := fp_hdX11_extra_63.1.2.2.1.1.2
theorem dX11_extra_119 : decode cX11_extra 119 = .ok (.iload 7, 2) := fp_hdX11_extra_63.1.2.2.1.2.1
theorem dX11_extra_121 : decode cX11_extra 121 = .ok (.istore 6, 2) := fp_hdX11_extra_63.1.2.2.1.2.2
theorem dX11_extra_123 : decode cX11_extra 123 = .ok (.aload_n 0, 1) := fp_hdX11_extra_63.1.2.2.2.1.1
theorem dX11_extra_124 : decode cX11_extra 124 = .ok (.getfield 37, 3) := fp_hdX11_extra_63.1.2.2.2.1.2
theorem dX11_extra_127 : decode cX11_extra 127 = .ok (.aload_n 0, 1) := fp_hdX11_extra_63.1.2.2.2.2.1
theorem dX11_extra_128 : decode cX11_extra 128 = .ok (.getfield 23, 3) := fp_hdX11_extra_63.1.2.2.2.2.2
theorem fp_hdX11_extra_131 : ((((decode cX11_extra 131 = .ok (.aload 4, 2) ∧ decode cX11_extra 133 = .ok (.iload 7, 2)) ∧ decode cX11_extra 135 = .ok (.invokevirtual 206, 3)) ∧ ((decode cX11_extra 138 = .ok (.pop, 1) ∧ decode cX11_extra 139 = .ok (.iinc 7 1, 3)) ∧ decode cX11_extra 142 = .ok (.goto (-81), 3))) ∧ (((decode cX11_extra 145 = .ok (.iload_n 3, 1) ∧ decode cX11_extra 146 = .ok (.ifCond .ne 8, 3)) ∧ decode cX11_extra 149 = .ok (.iload 5, 2)) ∧ ((decode cX11_extra 151 = .ok (.goto 5, 3) ∧ decode cX11_extra 154 = .ok (.iload 6, 2)) ∧ decode cX11_extra 156 = .ok (.ireturn, 1)))) ∧ bA cX11_extra 157 [] :=
  have q0 := fp_o25 fp_hdX11_extra_63.2
  have q1 := fp_o21 q0.2
  have q2 := fp_o182 (v := 206) q1.2 rfl
  have q3 := fp_o87 q2.2
  have q4 := fp_o132 (v := 1) q3.2 rfl
  have q5 := fp_o167 (v := (-81)) q4.2 rfl
  have q6 := fp_o29 q5.2
  have q7 := fp_o154 (v := 8) q6.2 rfl
  have q8 := fp_o21 q7.2
  have q9 := fp_o167 (v := 5) q8.2 rfl
  have q10 := fp_o21 q9.2
  have q11 := fp_o172 q10.2
  ⟨⟨⟨⟨⟨q0.1, q1.1⟩, q2.1⟩, ⟨⟨q3.1, q4.1⟩, q5.1⟩⟩, ⟨⟨⟨q6.1, q7.1⟩, q8.1⟩, ⟨⟨q9.1, q10.1⟩, q11.1⟩⟩⟩, q11.2⟩
theorem dX11_extra_131 : decode cX11_extra 131 = .ok (.aload 4, 2) := fp_hdX11_extra_131.1.1.1.1.1
theorem dX11_extra_133 : decode cX11_extra 133 = .ok (.iload 7, 2) := fp_hdX11_extra_131.1.1.1.1.2
theorem dX11_extra_135 : decode cX11_extra 135 = .ok (.invokevirtual 206, 3) := fp_hdX11_extra_131.1.1.1.2
theorem dX11_extra_138 : decode cX11_extra 138 = .ok (.pop, 1) := fp_hdX11_extra_131.1.1.2.1.1
theorem dX11_extra_139 : decode cX11_extra 139 = .ok (.iinc 7 1, 3) := fp_hdX11_extra_131.1.1.2.1.2
theorem dX11_extra_142 : decode cX11_extra 142 = .ok (.goto (-81), 3) := fp_hdX11_extra_131.1.1.2.2
theorem dX11_extra_145 : decode cX11_extra 145 = .ok (.iload_n 3, 1) := fp_hdX11_extra_131.1.2.1.1.1
theorem dX11_extra_146 : decode cX11_extra 146 = .ok (.ifCond .ne 8, 3) := fp_hdX11_extra_131.1.2.1.1.2
theorem dX11_extra_149 : decode cX11_extra 149 = .ok (.iload 5, 2) := fp_hdX11_extra_131.1.2.1.2
theorem dX11_extra_151 : decode cX11_extra 151 = .ok (.goto 5, 3) := fp_hdX11_extra_131.1.2.2.1.1
theorem dX11_extra_154 : decode cX11_extra 154 = .ok (.iload 6, 2) := fp_hdX11_extra_131.1.2.2.1.2
theorem dX11_extra_156 : decode cX11_extra 156 = .ok (.ireturn, 1) := fp_hdX11_extra_131.1.2.2.2
def fp_scX11_aim_1 : List Nat := 42 :: 180 :: 0 :: 23 :: 180 :: 0 :: 225 :: 162 :: 0 :: 35 :: 45 :: 42 :: 180 :: 0 :: 23 :: 21 :: 5 :: 182 :: 0 :: 159 :: 27 :: 160 :: 0 :: 15 :: 28 :: 154 :: 0 :: 8 :: 21 :: 4 :: 167 :: 0 :: 5 :: 21 :: 5 :: 172 :: 132 :: 5 :: 1 :: 167 :: 255 :: 215 :: 42 :: 180 :: 0 :: 37 :: 42 :: 180 :: 0 :: 23 :: 45 :: 21 :: 4 :: 182 :: 0 :: 206 :: 87 :: 132 :: 4 :: 1 :: 167 :: 255 :: 179 :: 16 :: 252 :: 172 :: []
def fp_scX11_aim_0 : List Nat := 42 :: 180 :: 0 :: 23 :: 27 :: 182 :: 0 :: 126 :: 153 :: 0 :: 11 :: 28 :: 4 :: 184 :: 0 :: 221 :: 154 :: 0 :: 5 :: 2 :: 172 :: 42 :: 180 :: 0 :: 51 :: 42 :: 180 :: 0 :: 23 :: 42 :: 180 :: 0 :: 37 :: 42 :: 180 :: 0 :: 30 :: 3 :: 182 :: 0 :: 214 :: 78 :: 3 :: 54 :: 4 :: 21 :: 4 :: 42 :: 180 :: 0 :: 37 :: 180 :: 0 :: 205 :: 163 :: 0 :: 71 :: 3 :: 54 :: 5 :: 21 :: 5 :: fp_scX11_aim_1
theorem fp_bcX11_aim : bA cX11_aim 0 fp_scX11_aim_0 := show cX11_aim.data.toList.map UInt8.toNat = fp_scX11_aim_0 from by decide +kernel
theorem fp_hdX11_aim_0 : (((((decode cX11_aim 0 = .ok (.aload_n 0, 1) ∧ decode cX11_aim 1 = .ok (.getfield 23, 3)) ∧ (decode cX11_aim 4 = .ok (.iload_n 1, 1) ∧ decode cX11_aim 5 = .ok (.invokevirtual 126, 3))) ∧ ((decode cX11_aim 8 = .ok (.ifCond .eq 11, 3) ∧ decode cX11_aim 11 = .ok (.iload_n 2, 1)) ∧ (decode cX11_aim 12 = .ok (.iconst 1, 1) ∧ decode cX11_aim 13 = .ok (.invokestatic 221, 3)))) ∧ (((decode cX11_aim 16 = .ok (.ifCond .ne 5, 3) ∧ decode cX11_aim 19 = .ok (.iconst (-1), 1)) ∧ (decode cX11_aim 20 = .ok (.ireturn, 1) ∧ decode cX11_aim 21 = .ok (.aload_n 0, 1))) ∧ ((decode cX11_aim 22 = .ok (.getfield 51, 3) ∧ decode cX11_aim 25 = .ok (.aload_n 0, 1)) ∧ (decode cX11_aim 26 = .ok (.getfield 23, 3) ∧ decode cX11_aim 29 = .ok (.aload_n 0, 1))))) ∧ ((((decode cX11_aim 30 = .ok (.getfield 37, 3) ∧ decode cX11_aim 33 = .ok (.aload_n 0, 1)) ∧ (decode cX11_aim 34 = .ok (.getfield 30, 3) ∧ decode cX11_aim 37 = .ok (.iconst 0, 1))) ∧ ((decode cX11_aim 38 = .ok (.invokevirtual 214, 3) ∧ decode cX11_aim 41 = .ok (.astore_n 3, 1)) ∧ (decode cX11_aim 42 = .ok (.iconst 0, 1) ∧ decode cX11_aim 43 = .ok (.istore 4, 2)))) ∧ (((decode cX11_aim 45 = .ok (.iload 4, 2) ∧ decode cX11_aim 47 = .ok (.aload_n 0, 1)) ∧ (decode cX11_aim 48 = .ok (.getfield 37, 3) ∧ decode cX11_aim 51 = .ok (.getfield 205, 3))) ∧ ((decode cX11_aim 54 = .ok (.if_icmp .gt 71, 3) ∧ decode cX11_aim 57 = .ok (.iconst 0, 1)) ∧ (decode cX11_aim 58 = .ok (.istore 5, 2) ∧ decode cX11_aim 60 = .ok (.iload 5, 2)))))) ∧ bA cX11_aim 62 fp_scX11_aim_1 :=
  have q0 := fp_o42 fp_bcX11_aim
  have q1 := fp_o180 (v := 23) q0.2 rfl
  have q2 := fp_o27 q1.2
  have q3 := fp_o182 (v := 126) q2.2 rfl
  have q4 := fp_o153 (v := 11) q3.2 rfl
  have q5 := fp_o28 q4.2
  have q6 := fp_o4 q5.2
  have q7 := fp_o184 (v := 221) q6.2 rfl
  have q8 := fp_o154 (v := 5) q7.2 rfl
  have q9 := fp_o2 q8.2
  have q10 := fp_o172 q9.2
  have q11 := fp_o42 q10.2
  have q12 := fp_o180 (v := 51) q11.2 rfl
  have q13 := fp_o42 q12.2
  have q14 := fp_o180 (v := 23) q13.2 rfl
  have q15 := fp_o42 q14.2
  have q16 := fp_o180 (v := 37) q15.2 rfl
  have q17 := fp_o42 q16.2
  have q18 := fp_o180 (v := 30) q17.2 rfl
  have q19 := fp_o3 q18.2
  have q20 := fp_o182 (v := 214) q19.2 rfl
  have q21 := fp_o78 q20.2
  have q22 := fp_o3 q21.2
  have q23 := fp_o54 q22.2
  have q24 := fp_o21 q23.2
  have q25 := fp_o42 q24.2
  have q26 := fp_o180 (v := 37) q25.2 rfl
  have q27 := fp_o180 (v := 205) q26.2 rfl
  have q28 := fp_o163 (v := 71) q27.2 rfl
  have q29 := fp_o3 q28.2
  have q30 := fp_o54 q29.2
  have q31 := fp_o21 q30.2
  ⟨⟨⟨⟨⟨⟨q0.1, q1.1⟩, ⟨q2.1, q3.1⟩⟩, ⟨⟨q4.1, q5.1⟩, ⟨q6.1, q7.1⟩⟩⟩, ⟨⟨⟨q8.1, q9.1⟩, ⟨q10.1, q11.1⟩⟩, ⟨⟨q12.1, q13.1⟩, ⟨q14.1, q15.1⟩⟩⟩⟩, ⟨⟨⟨⟨q16.1, q17.1⟩, ⟨q18.1, q19.1⟩⟩, ⟨⟨q20.1, q21.1⟩, ⟨q22.1, q23.1⟩⟩⟩, ⟨⟨⟨q24.1, q25.1⟩, ⟨q26.1, q27.1⟩⟩, ⟨⟨q28.1, q29.1⟩, ⟨q30.1, q31.1⟩⟩⟩⟩⟩, q31.2⟩
theorem dX11_aim_0 : decode cX11_aim 0 = .ok (.aload_n 0, 1) := fp_hdX11_aim_0.1.1.1.1.1.1
theorem dX11_aim_1 : decode cX11_aim 1 = .ok (.getfield 23, 3) := fp_hdX11_aim_0.1.1.1.1.1.2
theorem dX11_aim_4 : decode cX11_aim 4 = .ok (.iload_n 1, 1) := fp_hdX11_aim_0.1.1.1.1.2.1
theorem dX11_aim_5 : decode cX11_aim 5 = .ok (.invokevirtual 126, 3) := fp_hdX11_aim_0.1.1.1.1.2.2
theorem dX11_aim_8 : decode cX11_aim 8 = .ok (.ifCond .eq 11, 3) := fp_hdX11_aim_0.1.1.1.2.1.1
theorem dX11_aim_11 : decode cX11_aim 11 = .ok (.iload_n 2, 1) := fp_hdX11_aim_0.1.1.1.2.1.2
theorem dX11_aim_12 : decode cX11_aim 12 = .ok (.iconst 1, 1) := fp_hdX11_aim_0.1.1.1.2.2.1
theorem dX11_aim_13 : decode cX11_aim 13 = .ok (.invokestatic 221, 3) := fp_hdX11_aim_0.1.1.1.2.2.2
theorem dX11_aim_16 : decode cX11_aim 16 = .ok (.ifCond .ne 5, 3) := fp_hdX11_aim_0.1.1.2.1.1.1
theorem dX11_aim_19 : decode cX11_aim 19 = .ok (.iconst (-1), 1) := fp_hdX11_aim_0.1.1.2.1.1.2
theorem dX11_aim_20 : decode cX11_aim 20 = .ok (.ireturn, 1) := fp_hdX11_aim_0.1.1.2.1.2.1
theorem dX11_aim_21 : decode cX11_aim 21 = .ok (.aload_n 0, 1) := fp_hdX11_aim_0.1.1.2.1.2.2
theorem dX11_aim_22 : decode cX11_aim 22 = .ok (.getfield 51, 3) := fp_hdX11_aim_0.1.1.2.2.1.1
theorem dX11_aim_25 : decode cX11_aim 25 = .ok (.aload_n 0, 1) := fp_hdX11_aim_0.1.1.2.2.1.2
theorem dX11_aim_26 : decode cX11_aim 26 = .ok (.getfield 23, 3) := fp_hdX11_aim_0.1.1.2.2.2.1
theorem dX11_aim_29 : decode cX11_aim 29 = .ok (.aload_n 0, 1) := fp_hdX11_aim_0.1.1.2.2.2.2
theorem dX11_aim_30 : decode cX11_aim 30 = .ok (.getfield 37, 3) := fp_hdX11_aim_0.1.2.1.1.1.1
theorem dX11_aim_33 : decode cX11_aim 33 = .ok (.aload_n 0, 1) := fp_hdX11_aim_0.1.2.1.1.1.2
theorem dX11_aim_34 : decode cX11_aim 34 = .ok (.getfield 30, 3) := fp_hdX11_aim_0.1.2.1.1.2.1
theorem dX11_aim_37 : decode cX11_aim 37 = .ok (.iconst 0, 1) := fp_hdX11_aim_0.1.2.1.1.2.2
theorem dX11_aim_38 : decode cX11_aim 38 = .ok (.invokevirtual 214, 3) := fp_hdX11_aim_0.1.2.1.2.1.1
theorem dX11_aim_41 : decode cX11_aim 41 = .ok (.astore_n 3, 1) := fp_hdX11_aim_0.1.2.1.2.1.2
theorem dX11_aim_42 : decode cX11_aim 42 = .ok (.iconst 0, 1) := fp_hdX11_aim_0.1.2.1.2.2.1
theorem dX11_aim_43 : decode cX11_aim 43 = .ok (.istore 4, 2) := fp_hdX11_aim_0.1.2.1.2.2.2
theorem dX11_aim_45 : decode cX11_aim 45 = .ok (.iload 4, 2) := fp_hdX11_aim_0.1.2.2.1.1.1
theorem dX11_aim_47 : decode cX11_aim 47 = .ok (.aload_n 0, 1) := fp_hdX11_aim_0.1.2.2.1.1.2
theorem dX11_aim_48 : decode cX11_aim 48 = .ok (.getfield 37, 3) := fp_hdX11_aim_0.1.2.2.1.2.1
theorem dX11_aim_51 : decode cX11_aim 51 = .ok (.getfield 205, 3) := fp_hdX11_aim_0.1.2.2.1.2.2
theorem dX11_aim_54 : decode cX11_aim 54 = .ok (.if_icmp .gt 71, 3) := fp_hdX11_aim_0.1.2.2.2.1.1
theorem dX11_aim_57 : decode cX11_aim 57 = .ok (.iconst 0, 1) := fp_hdX11_aim_0.1.2.2.2.1.2
theorem dX11_aim_58 : decode cX11_aim 58 = .ok (.istore 5, 2) := fp_hdX11_aim_0.1.2.2.2.2.1
theorem dX11_aim_60 : decode cX11_aim 60 = .ok (.iload 5, 2) := fp_hdX11_aim_0.1.2.2.2.2.2
theorem fp_hdX11_aim_62 : (((((decode cX11_aim 62 = .ok (.aload_n 0, 1) ∧ decode cX11_aim 63 = .ok (.getfield 23, 3)) ∧ (decode cX11_aim 66 = .ok (.getfield 225, 3) ∧ decode cX11_aim 69 = .ok (.if_icmp .ge 35, 3))) ∧ ((decode cX11_aim 72 = .ok (.aload_n 3, 1) ∧ decode cX11_aim 73 = .ok (.aload_n 0, 1)) ∧ (decode cX11_aim 74 = .ok (.getfield 23, 3) ∧ decode cX11_aim 77 = .ok (.iload 5, 2)))) ∧ (((decode cX11_aim 79 = .ok (.invokevirtual 159, 3) ∧ decode cX11_aim 82 = .ok (.iload_n 1, 1)) ∧ (decode cX11_aim 83 = .ok (.if_icmp .ne 15, 3) ∧ decode cX11_aim 86 = .ok (.iload_n 2, 1))) ∧ ((decode cX11_aim 87 = .ok (.ifCond .ne 8, 3) ∧ decode cX11_aim 90 = .ok (.iload 4, 2)) ∧ (decode cX11_aim 92 = .ok (.goto 5, 3) ∧ decode cX11_aim 95 = .ok (.iload 5, 2))))) ∧ ((((decode cX11_aim 97 = .ok (.ireturn, 1) ∧ decode cX11_aim 98 = .ok (.iinc 5 1, 3)) ∧ (decode cX11_aim 101 = .ok (.goto (-41), 3) ∧ decode cX11_aim 104 = .ok (.aload_n 0, 1))) ∧ ((decode cX11_aim 105 = .ok (.getfield 37, 3) ∧ decode cX11_aim 108 = .ok (.aload_n 0, 1)) ∧ (decode cX11_aim 109 = .ok (.getfield 23, 3) ∧ decode cX11_aim 112 = .ok (.aload_n 3, 1)))) ∧ (((decode cX11_aim 113 = .ok (.iload 4, 2) ∧ decode cX11_aim 115 = .ok (.invokevirtual 206, 3)) ∧ (decode cX11_aim 118 = .ok (.pop, 1) ∧ decode cX11_aim 119 = .ok (.iinc 4 1, 3))) ∧ ((decode cX11_aim 122 = .ok (.goto (-77), 3) ∧ decode cX11_aim 125 = .ok (.bipush (-4), 2)) ∧ decode cX11_aim 127 = .ok (.ireturn, 1))))) ∧ bA cX11_aim 128 [] :=
  have q0 := fp_o42 fp_hdX11_aim_0.2
  have q1 := fp_o180 (v := 23) q0.2 rfl
  have q2 := fp_o180 (v := 225) q1.2 rfl
  have q3 := fp_o162 (v := 35) q2.2 rfl
  have q4 := fp_o45 q3.2
  have q5 := fp_o42 q4.2
  have q6 := fp_o180 (v := 23) q5.2 rfl
  have q7 := fp_o21 q6.2
  have q8 := fp_o182 (v := 159) q7.2 rfl
  have q9 := fp_o27 q8.2
  have q10 := fp_o160 (v := 15) q9.2 rfl
  have q11 := fp_o28 q10.2
  have q12 := fp_o154 (v := 8) q11.2 rfl
  have q13 := fp_o21 q12.2
  have q14 := fp_o167 (v := 5) q13.2 rfl
  have q15 := fp_o21 q14.2
  have q16 := fp_o172 q15.2
  have q17 := fp_o132 (v := 1) q16.2 rfl
  have q18 := fp_o167 (v := (-41)) q17.2 rfl
  have q19 := fp_o42 q18.2
  have q20 := fp_o180 (v := 37) q19.2 rfl
  have q21 := fp_o42 q20.2
  have q22 := fp_o180 (v := 23) q21.2 rfl
  have q23 := fp_o45 q22.2
  have q24 := fp_o21 q23.2
  have q25 := fp_o182 (v := 206) q24.2 rfl
  have q26 := fp_o87 q25.2
  have q27 := fp_o132 (v := 1) q26.2 rfl
  have q28 := fp_o167 (v := (-77)) q27.2 rfl
  have q29 := fp_o16 (v := (-4)) q28.2 rfl
  have q30 := fp_o172 q29.2
  ⟨⟨⟨⟨⟨⟨q0.1, q1.1⟩, ⟨q2.1, q3.1⟩⟩, ⟨⟨q4.1, q5.1⟩, ⟨q6.1, q7.1⟩⟩⟩, ⟨⟨⟨q8.1, q9.1⟩, ⟨q10.1, q11.1⟩⟩, ⟨⟨q12.1, q13.1⟩, ⟨q14.1, q15.1⟩⟩⟩⟩, ⟨⟨⟨⟨q16.1, q17.1⟩, ⟨q18.1, q19.1⟩⟩, ⟨⟨q20.1, q21.1⟩, ⟨q22.1, q23.1⟩⟩⟩, ⟨⟨⟨q24.1, q25.1⟩, ⟨q26.1, q27.1⟩⟩, ⟨⟨q28.1, q29.1⟩, q30.1⟩⟩⟩⟩, q30.2⟩
theorem dX11_aim_62 : decode cX11_aim 62 = .ok (.aload_n 0, 1) := fp_hdX11_aim_62.1.1.1.1.1.1
theorem dX11_aim_63 : decode cX11_aim 63 = .ok (.getfield 23, 3) := fp_hdX11_aim_62.1.1.1.1.1.2
theorem dX11_aim_66 : decode cX11_aim 66 = .ok (.getfield 225, 3) := fp_hdX11_aim_62.1.1.1.1.2.1
theorem dX11_aim_69 : decode cX11_aim 69 = .ok (.if_icmp .ge 35, 3) := fp_hdX11_aim_62.1.1.1.1.2.2
theorem dX11_aim_72 : decode cX11_aim 72 = .ok (.aload_n 3, 1) := fp_hdX11_aim_62.1.1.1.2.1.1
theorem dX11_aim_73 : decode cX11_aim 73 = .ok (.aload_n 0, 1) := fp_hdX11_aim_62.1.1.1.2.1.2
theorem dX11_aim_74 : decode cX11_aim 74 = .ok (.getfield 23, 3) := fp_hdX11_aim_62.1.1.1.2.2.1
theorem dX11_aim_77 : decode cX11_aim 77 = .ok (.iload 5, 2) := fp_hdX11_aim_62.1.1.1.2.2.2
theorem dX11_aim_79 : decode cX11_aim 79 = .ok (.invokevirtual 159, 3) := fp_hdX11_aim_62.1.1.2.1.1.1
theorem dX11_aim_82 : decode cX11_aim 82 = .ok (.iload_n 1, 1) := fp_hdX11_aim_62.1.1.2.1.1.2
theorem dX11_aim_83 : decode cX11_aim 83 = .ok (.if_icmp .ne 15, 3) := fp_hdX11_aim_62.1.1.2.1.2.1
theorem dX11_aim_86 : decode cX11_aim 86 = .ok (.iload_n 2, 1) := fp_hdX11_aim_62.1.1.2.1.2.2
theorem dX11_aim_87 : decode cX11_aim 87 = .ok (.ifCond .ne 8, 3) := fp_hdX11_aim_62.1.1.2.2.1.1
theorem dX11_aim_90 : decode cX11_aim 90 = .ok (.iload 4, 2) := fp_hdX11_aim_62.1.1.2.2.1.2
theorem dX11_aim_92 : decode cX11_aim 92 = .ok (.goto 5, 3) := fp_hdX11_aim_62.1.1.2.2.2.1
theorem dX11_aim_95 : decode cX11_aim 95 = .ok (.iload 5, 2) := fp_hdX11_aim_62.1.1.2.2.2.2
theorem dX11_aim_97 : decode cX11_aim 97 = .ok (.ireturn, 1) := fp_hdX11_aim_62.1.2.1.1.1.1
theorem dX11_aim_98 : decode cX11_aim 98 = .ok (.iinc 5 1, 3) := fp_hdX11_aim_62.1.2.1.1.1.2
theorem dX11_aim_101 : decode cX11_aim 101 = .ok (.goto (-41), 3) := fp_hdX11_aim_62.1.2.1.1.2.1
theorem dX11_aim_104 : decode cX11_aim 104 = .ok (.aload_n 0, 1) := fp_hdX11_aim_62.1.2.1.1.2.2
theorem dX11_aim_105 : decode cX11_aim 105 = .ok (.getfield 37, 3) := fp_hdX11_aim_62.1.2.1.2.1.1
theorem dX11_aim_108 : decode cX11_aim 108 = .ok (.aload_n 0, 1) := fp_hdX11_aim_62.1.2.1.2.1.2
theorem dX11_aim_109 : decode cX11_aim 109 = .ok (.getfield 23, 3) := fp_hdX11_aim_62.1.2.1.2.2.1
theorem dX11_aim_112 : decode cX11_aim 112 = .ok (.aload_n 3, 1) := fp_hdX11_aim_62.1.2.1.2.2.2
theorem dX11_aim_113 : decode cX11_aim 113 = .ok (.iload 4, 2) := fp_hdX11_aim_62.1.2.2.1.1.1
theorem dX11_aim_115 : decode cX11_aim 115 = .ok (.invokevirtual 206, 3) := fp_hdX11_aim_62.1.2.2.1.1.2
theorem dX11_aim_118 : decode cX11_aim 118 = .ok (.pop, 1) := fp_hdX11_aim_62.1.2.2.1.2.1
theorem dX11_aim_119 : decode cX11_aim 119 = .ok (.iinc 4 1, 3) := fp_hdX11_aim_62.1.2.2.1.2.2
theorem dX11_aim_122 : decode cX11_aim 122 = .ok (.goto (-77), 3) := fp_hdX11_aim_62.1.2.2.2.1.1
theorem dX11_aim_125 : decode cX11_aim 125 = .ok (.bipush (-4), 2) := fp_hdX11_aim_62.1.2.2.2.1.2
theorem dX11_aim_127 : decode cX11_aim 127 = .ok (.ireturn, 1) := fp_hdX11_aim_62.1.2.2.2.2
def fp_scX11_trick_2 : List Nat := 16 :: 252 :: 159 :: 0 :: 27 :: 21 :: 4 :: 154 :: 0 :: 8 :: 21 :: 5 :: 167 :: 0 :: 16 :: 21 :: 4 :: 4 :: 160 :: 0 :: 8 :: 21 :: 6 :: 167 :: 0 :: 5 :: 21 :: 7 :: 172 :: 42 :: 180 :: 0 :: 51 :: 42 :: 180 :: 0 :: 23 :: 42 :: 180 :: 0 :: 37 :: 21 :: 6 :: 182 :: 0 :: 235 :: 132 :: 6 :: 1 :: 167 :: 255 :: 179 :: 132 :: 5 :: 1 :: 167 :: 255 :: 135 :: 16 :: 252 :: 172 :: []
def fp_scX11_trick_1 : List Nat := 54 :: 5 :: 21 :: 5 :: 42 :: 180 :: 0 :: 37 :: 180 :: 0 :: 205 :: 163 :: 0 :: 115 :: 42 :: 180 :: 0 :: 51 :: 42 :: 180 :: 0 :: 23 :: 42 :: 180 :: 0 :: 37 :: 42 :: 180 :: 0 :: 30 :: 21 :: 5 :: 28 :: 182 :: 0 :: 228 :: 21 :: 5 :: 54 :: 6 :: 21 :: 6 :: 42 :: 180 :: 0 :: 37 :: 180 :: 0 :: 205 :: 163 :: 0 :: 71 :: 42 :: 180 :: 0 :: 51 :: 42 :: 180 :: 0 :: 23 :: 29 :: 182 :: 0 :: 232 :: 54 :: 7 :: 21 :: 7 :: fp_scX11_trick_2
def fp_scX11_trick_0 : List Nat := 27 :: 184 :: 0 :: 181 :: 153 :: 0 :: 39 :: 42 :: 180 :: 0 :: 23 :: 28 :: 182 :: 0 :: 126 :: 153 :: 0 :: 28 :: 42 :: 180 :: 0 :: 23 :: 29 :: 182 :: 0 :: 126 :: 153 :: 0 :: 17 :: 29 :: 28 :: 159 :: 0 :: 12 :: 21 :: 4 :: 5 :: 184 :: 0 :: 221 :: 154 :: 0 :: 5 :: 2 :: 172 :: 42 :: 180 :: 0 :: 30 :: 180 :: 0 :: 138 :: 28 :: 46 :: 27 :: 159 :: 0 :: 6 :: 16 :: 254 :: 172 :: 3 :: fp_scX11_trick_1
theorem fp_bcX11_trick : bA cX11_trick 0 fp_scX11_trick_0 := show cX11_trick.data.toList.map UInt8.toNat = fp_scX11_trick_0 from by decide +kernel
theorem fp_hdX11_trick_0 : (((((decode cX11_trick 0 = .ok (.iload_n 1, 1) ∧ decode cX11_trick 1 = .ok (.invokestatic 181, 3)) ∧ (decode cX11_trick 4 = .ok (.ifCond .eq 39, 3) ∧ decode cX11_trick 7 = .ok (.aload_n 0, 1))) ∧ ((decode cX11_trick 8 = .ok (.getfield 23, 3) ∧ decode cX11_trick 11 = .ok (.iload_n 2, 1)) ∧ (decode cX11_trick 12 = .ok (.invokevirtual 126, 3) ∧ decode cX11_trick 15 = .ok (.ifCond .eq 28, 3)))) ∧ (((decode cX11_trick 18 = .ok (.aload_n 0, 1) ∧ decode cX11_trick 19 = .ok (.getfield 23, 3)) ∧ (decode cX11_trick 22 = .ok (.iload_n 3, 1) ∧ decode cX11_trick 23 = .ok (.invokevirtual 126, 3))) ∧ ((decode cX11_trick 26 = .ok (.ifCond .eq 17, 3) ∧ decode cX11_trick 29 = .ok (.iload_n 3, 1)) ∧ (decode cX11_trick 30 = .ok (.iload_n 2, 1) ∧ decode cX11_trick 31 = .ok (.if_icmp .eq 12, 3))))) ∧ ((((decode cX11_trick 34 = .ok (.iload 4, 2) ∧ decode cX11_trick 36 = .ok (.iconst 2, 1)) ∧ (decode cX11_trick 37 = .ok (.invokestatic 221, 3) ∧ decode cX11_trick 40 = .ok (.ifCond .ne 5, 3))) ∧ ((decode cX11_trick 43 = .ok (.iconst (-1), 1) ∧ decode cX11_trick 44 = .ok (.ireturn, 1)) ∧ (decode cX11_trick 45 = .ok (.aload_n 0, 1) ∧ decode cX11_trick 46 = .ok (.getfield 30, 3)))) ∧ (((decode cX11_trick 49 = .ok (.getfield 138, 3) ∧ decode cX11_trick 52 = .ok (.iload_n 2, 1)) ∧ (decode cX11_trick 53 = .ok (.iaload, 1) ∧ decode cX11_trick 54 = .ok (.iload_n 1, 1))) ∧ ((decode cX11_trick 55 = .ok (.if_icmp .eq 6, 3) ∧ decode cX11_trick 58 = .ok (.bipush (-2), 2)) ∧ (decode cX11_trick 60 = .ok (.ireturn, 1) ∧ decode cX11_trick 61 = .ok (.iconst 0, 1)))))) ∧ bA cX11_trick 62 fp_scX11_trick_1 :=
  have q0 := fp_o27 fp_bcX11_trick
  have q1 := fp_o184 (v := 181) q0.2 rfl
  have q2 := fp_o153 (v := 39) q1.2 rfl
  have q3 := fp_o42 q2.2
  have q4 := fp_o180 (v := 23) q3.2 rfl
  have q5 := fp_o28 q4.2
  have q6 := fp_o182 (v := 126) q5.2 rfl
  have q7 := fp_o153 (v := 28) q6.2 rfl
  have q8 := fp_o42 q7.2
  have q9 := fp_o180 (v := 23) q8.2 rfl
  have q10 := fp_o29 q9.2
  have q11 := fp_o182 (v := 126) q10.2 rfl
  have q12 := fp_o153 (v := 17) q11.2 rfl
  have q13 := fp_o29 q12.2
  have q14 := fp_o28 q13.2
  have q15 := fp_o159 (v := 12) q14.2 rfl
  have q16 := fp_o21 q15.2
  have q17 := fp_o5 q16.2
  have q18 := fp_o184 (v := 221) q17.2 rfl
  have q19 := fp_o154 (v := 5) q18.2 rfl
  have q20 := fp_o2 q19.2
  have q21 := fp_o172 q20.2
  have q22 := fp_o42 q21.2
  have q23 := fp_o180 (v := 30) q22.2 rfl
  have q24 := fp_o180 (v := 138) q23.2 rfl
  have q25 := fp_o28 q24.2
  have q26 := fp_o46 q25.2
  have q27 := fp_o27 q26.2
  have q28 := fp_o159 (v := 6) q27.2 rfl
  have q29 := fp_o16 (v := (-2)) q28.2 rfl
  have q30 := fp_o172 q29.2
  have q31 := fp_o3 q30.2
  ⟨⟨⟨⟨⟨⟨q0.1, q1.1⟩, ⟨q2.1, q3.1⟩⟩, ⟨⟨q4.1, q5.1⟩, ⟨q6.1, q7.1⟩⟩⟩, ⟨⟨⟨q8.1, q9.1⟩, ⟨q10.1, q11.1⟩⟩, ⟨⟨q12.1, q13.1⟩, ⟨q14.1, q15.1⟩⟩⟩⟩, ⟨⟨⟨⟨q16.1, q17.1⟩, ⟨q18.1, q19.1⟩⟩, ⟨⟨q20.1, q21.1⟩, ⟨q22.1, q23.1⟩⟩⟩, ⟨⟨⟨q24.1, q25.1⟩, ⟨q26.1, q27.1⟩⟩, ⟨⟨q28.1, q29.1⟩, ⟨q30.1, q31.1⟩⟩⟩⟩⟩, q31.2⟩
theorem dX11_trick_0 : decode cX11_trick 0 = .ok (.iload_n 1, 1) := fp_hdX11_trick_0.1.1.1.1.1.1
theorem dX11_trick_1 : decode cX11_trick 1 = .ok (.invokestatic 181, 3) := fp_hdX11_trick_0.1.1.1.1.1.2
theorem dX11_trick_4 : decode cX11_trick 4 = .ok (.ifCond .eq 39, 3) := fp_hdX11_trick_0.1.1.1.1.2.1
theorem dX11_trick_7 : decode cX11_trick 7 = .ok (.aload_n 0, 1) := fp_hdX11_trick_0.1.1.1.1.2.2
theorem dX11_trick_8 : decode cX11_trick 8 = .ok (.getfield 23, 3) := fp_hdX11_trick_0.1.1.1.2.1.1
theorem dX11_trick_11 : decode cX11_trick 11 = .ok (.iload_n 2, 1) := fp_hdX11_trick_0.1.1.1.2.1.2
theorem dX11_trick_12 : decode cX11_trick 12 = .ok (.invokevirtual 126, 3) := fp_hdX11_trick_0.1.1.1.2.2.1
theorem dX11_trick_15 : decode cX11_trick 15 = .ok (.ifCond .eq 28, 3) := fp_hdX11_trick_0.1.1.1.2.2.2
theorem dX11_trick_18 : decode cX11_trick 18 = .ok (.aload_n 0, 1) := fp_hdX11_trick_0.1.1.2.1.1.1
theorem dX11_trick_19 : decode cX11_trick 19 = .ok (.getfield 23, 3) := fp_hdX11_trick_0.1.1.2.1.1.2
theorem dX11_trick_22 : decode cX11_trick 22 = .ok (.iload_n 3, 1) := fp_hdX11_trick_0.1.1.2.1.2.1
theorem dX11_trick_23 : decode cX11_trick 23 = .ok (.invokevirtual 126, 3) := fp_hdX11_trick_0.1.1.2.1.2.2
theorem dX11_trick_26 : decode cX11_trick 26 = .ok (.ifCond .eq 17, 3) := fp_hdX11_trick_0.1.1.2.2.1.1
theorem dX11_trick_29 : decode cX11_trick 29 = .ok (.iload_n 3, 1) := fp_hdX11_trick_0.1.1.2.2.1.2
theorem dX11_trick_30 : decode cX11_trick 30 = .ok (.iload_n 2, 1) := fp_hdX11_trick_0.1.1.2.2.2.1
theorem dX11_trick_31 : decode cX11_trick 31 = .ok (.if_icmp .eq 12, 3) := fp_hdX11_trick_0.1.1.2.2.2.2
theorem dX11_trick_34 : decode cX11_trick 34 = .ok (.iload 4, 2) := fp_hdX11_trick_0.1.2.1.1.1.1
theorem dX11_trick_36 : decode cX11_trick 36 = .ok (.iconst 2, 1) := fp_hdX11_trick_0.1.2.1.1.1.2
theorem dX11_trick_37 : decode cX11_trick 37 = .ok (.invokestatic 221, 3) := fp_hdX11_trick_0.1.2.1.1.2.1
theorem dX11_trick_40 : decode cX11_trick 40 = .ok (.ifCond .ne 5, 3) := fp_hdX11_trick_0.1.2.1.1.2.2
theorem dX11_trick_43 : decode cX11_trick 43 = .ok (.iconst (-1), 1) := fp_hdX11_trick_0.1.2.1.2.1.1
theorem dX11_trick_44 : decode cX11_trick 44 = .ok (.ireturn, 1) := fp_hdX11_trick_0.1.2.1.2.1.2
theorem dX11_trick_45 : decode cX11_trick 45 = .ok (.aload_n 0, 1) := fp_hdX11_trick_0.1.2.1.2.2.1
theorem dX11_trick_46 : decode cX11_trick 46 = .ok (.getfield 30, 3) := fp_hdX11_trick_0.1.2.1.2.2.2
theorem dX11_trick_49 : decode cX11_trick 49 = .ok (.getfield 138, 3) := fp_hdX11_trick_0.1.2.2.1.1.1
theorem dX11_trick_52 : decode cX11_trick 52 = .ok (.iload_n 2, 1) := fp_hdX11_trick_0.1.2.2.1.1.2
theorem dX11_trick_53 : decode cX11_trick 53 = .ok (.iaload, 1) := fp_hdX11_trick_0.1.2.2.1.2.1
theorem dX11_trick_54 : decode cX11_trick 54 = .ok (.iload_n 1, 1) := fp_hdX11_trick_0.1.2.2.1.2.2
theorem dX11_trick_55 : decode cX11_trick 55 = .ok (.if_icmp .eq 6, 3) := fp_hdX11_trick_0.1.2.2.2.1.1
theorem dX11_trick_58 : decode cX11_trick 58 = .ok (.bipush (-2), 2) := fp_hdX11_trick_0.1.2.2.2.1.2
theorem dX11_trick_60 : decode cX11_trick 60 = .ok (.ireturn, 1) := fp_hdX11_trick_0.1.2.2.2.2.1
theorem dX11_trick_61 : decode cX11_trick 61 = .ok (.iconst 0, 1) := fp_hdX11_trick_0.1.2.2.2.2.2
theorem fp_hdX11_trick_62 : (((((decode cX11_trick 62 = .ok (.istore 5, 2) ∧ decode cX11_trick 64 = .ok (.iload 5, 2)) ∧ (decode cX11_trick 66 = .ok (.aload_n 0, 1) ∧ decode cX11_trick 67 = .ok (.getfield 37, 3))) ∧ ((decode cX11_trick 70 = .ok (.getfield 205, 3) ∧ decode cX11_trick 73 = .ok (.if_icmp .gt 115, 3)) ∧ (decode cX11_trick 76 = .ok (.aload_n 0, 1) ∧ decode cX11_trick 77 = .ok (.getfield 51, 3)))) ∧ (((decode cX11_trick 80 = .ok (.aload_n 0, 1) ∧ decode cX11_trick 81 = .ok (.getfield 23, 3)) ∧ (decode cX11_trick 84 = .ok (.aload_n 0, 1) ∧ decode cX11_trick 85 = .ok (.getfield 37, 3))) ∧ ((decode cX11_trick 88 = .ok (.aload_n 0, 1) ∧ decode cX11_trick 89 = .ok (.getfield 30, 3)) ∧ (decode cX11_trick 92 = .ok (.iload 5, 2) ∧ decode cX11_trick 94 = .ok (.iload_n 2, 1))))) ∧ ((((decode cX11_trick 95 = .ok (.invokevirtual 228, 3) ∧ decode cX11_trick 98 = .ok (.iload 5, 2)) ∧ (decode cX11_trick 100 = .ok (.istore 6, 2) ∧ decode cX11_trick 102 = .ok (.iload 6, 2))) ∧ ((decode cX11_trick 104 = .ok (.aload_n 0, 1) ∧ decode cX11_trick 105 = .ok (.getfield 37, 3)) ∧ (decode cX11_trick 108 = .ok (.getfield 205, 3) ∧ decode cX11_trick 111 = .ok (.if_icmp .gt 71, 3)))) ∧ (((decode cX11_trick 114 = .ok (.aload_n 0, 1) ∧ decode cX11_trick 115 = .ok (.getfield 51, 3)) ∧ (decode cX11_trick 118 = .ok (.aload_n 0, 1) ∧ decode cX11_trick 119 = .ok (.getfield 23, 3))) ∧ ((decode cX11_trick 122 = .ok (.iload_n 3, 1) ∧ decode cX11_trick 123 = .ok (.invokevirtual 232, 3)) ∧ (decode cX11_trick 126 = .ok (.istore 7, 2) ∧ decode cX11_trick 128 = .ok (.iload 7, 2)))))) ∧ bA cX11_trick 130 fp_scX11_trick_2 :=
  have q0 := fp_o54 fp_hdX11_trick_0.2
  have q1 := fp_o21 q0.2
  have q2 := fp_o42 q1.2
  have q3 := fp_o180 (v := 37) q2.2 rfl
  have q4 := fp_o180 (v := 205) q3.2 rfl
  have q5 := fp_o163 (v := 115) q4.2 rfl
  have q6 := fp_o42 q5.2
  have q7 := fp_o180 (v := 51) q6.2 rfl
  have q8 := fp_o42 q7.2
  have q9 := fp_o180 (v := 23) q8.2 rfl
  have q10 := fp_o42 q9.2
  have q11 := fp_o180 (v := 37) q10.2 rfl
  have q12 := fp_o42 q11.2
  have q13 := fp_o180 (v := 30) q12.2 rfl
  have q14 := fp_o21 q13.2
  have q15 := fp_o28 q14.2
  have q16 := fp_o182 (v := 228) q15.2 rfl
  have q17 := fp_o21 q16.2
  have q18 := fp_o54 q17.2
  have q19 := fp_o21 q18.2
  have q20 := fp_o42 q19.2
  have q21 := fp_o180 (v := 37) q20.2 rfl
  have q22 := fp_o180 (v := 205) q21.2 rfl
  have q23 := fp_o163 (v := 71) q22.2 rfl
  have q24 := fp_o42 q23.2
  have q25 := fp_o180 (v := 51) q24.2 rfl
  have q26 := fp_o42 q25.2
  have q27 := fp_o180 (v := 23) q26.2 rfl
  have q28 := fp_o29 q27.2
  have q29 := fp_o182 (v := 232) q28.2 rfl
  have q30 := fp_o54 q29.2
  have q31 := fp_o21 q30.2
  ⟨⟨⟨⟨⟨⟨q0.1, q1.1⟩, ⟨q2.1, q3.1⟩⟩, ⟨⟨q4.1, q5.1⟩, ⟨q6.1, q7.1⟩⟩⟩, ⟨⟨⟨q8.1, q9.1⟩, ⟨q10.1, q11.1⟩⟩, ⟨⟨q12.1, q13.1⟩, ⟨q14.1, q15.1⟩⟩⟩⟩, ⟨⟨⟨⟨q16.1, q17.1⟩, ⟨q18.1, q19.1⟩⟩, ⟨⟨q20.1, q21.1⟩, ⟨q22.1, q23.1⟩⟩⟩, ⟨⟨⟨q24.1, q25.1⟩, ⟨q26.1, q27.1⟩⟩, ⟨⟨q28.1, q29.1⟩, ⟨q30.1, q31.1⟩⟩⟩⟩⟩, q31.2⟩
theorem dX11_trick_62 : decode cX11_trick 62 = .ok (.istore 5, 2) := fp_hdX11_trick_62.1.1.1.1.1.1
theorem dX11_trick_64 : decode cX11_trick 64 = .ok (.iload 5, 2) := fp_hdX11_trick_62.1.1.1.1.1.2
theorem dX11_trick_66 : decode cX11_trick 66 = .ok (.aload_n 0, 1) := fp_hdX11_trick_62.1.1.1.1.2.1
theorem dX11_trick_67 : decode cX11_trick 67 = .ok (.getfield 37, 3) := fp_hdX11_trick_62.1.1.1.1.2.2
theorem dX11_trick_70 : decode cX11_trick 70 = .ok (.getfield 205, 3) := fp_hdX11_trick_62.1.1.1.2.1.1
theorem dX11_trick_73 : decode cX11_trick 73 = .ok (.if_icmp .gt 115, 3) := fp_hdX11_trick_62.1.1.1.2.1.2
theorem dX11_trick_76 : decode cX11_trick 76 = .ok (.aload_n 0, 1) := fp_hdX11_trick_62.1.1.1.2.2.1
theorem dX11_trick_77 : decode cX11_trick 77 = .ok (.getfield 51, 3) := fp_hdX11_trick_62.1.1.1.2.2.2
theorem dX11_trick_80 : decode cX11_trick 80 = .ok (.aload_n 0, 1) := fp_hdX11_trick_62.1.1.2.1.1.1
theorem dX11_trick_81 : decode cX11_trick 81 = .ok (.getfield 23, 3) := fp_hdX11_trick_62.1.1.2.1.1.2
theorem dX11_trick_84 : decode cX11_trick 84 = .ok (.aload_n 0, 1) := fp_hdX11_trick_62.1.1.2.1.2.1
theorem dX11_trick_85 : decode cX11_trick 85 = .ok (.getfield 37, 3) := fp_hdX11_trick_62.1.1.2.1.2.2
theorem dX11_trick_88 : decode cX11_trick 88 = .ok (.aload_n 0, 1) := fp_hdX11_trick_62.1.1.2.2.1.1
theorem dX11_trick_89 : decode cX11_trick 89 = .ok (.getfield 30, 3) := fp_hdX11_trick_62.1.1.2.2.1.2
theorem dX11_trick_92 : decode cX11_trick 92 = .ok (.iload 5, 2) := fp_hdX11_trick_62.1.1.2.2.2.1
theorem dX11_trick_94 : decode cX11_trick 94 = .ok (.iload_n 2, 1) := fp_hdX11_trick_62.1.1.2.2.2.2
theorem dX11_trick_95 : decode cX11_trick 95 = .ok (.invokevirtual 228, 3) := fp_hdX11_trick_62.1.2.1.1.1.1
theorem dX11_trick_98 : decode cX11_trick 98 = .ok (.iload 5, 2) := fp_hdX11_trick_62.1.2.1.1.1.2
theorem dX11_trick_100 : decode cX11_trick 100 = .ok (.istore 6, 2) := fp_hdX11_trick_62.1.2.1.1.2.1
theorem dX11_trick_102 : decode cX11_trick 102 = .ok (.iload 6, 2) := fp_hdX11_trick_62.1.2.1.1.2.2
theorem dX11_trick_104 : decode cX11_trick 104 = .ok (.aload_n 0, 1) := fp_hdX11_trick_62.1.2.1.2.1.1
theorem dX11_trick_105 : decode cX11_trick 105 = .ok (.getfield 37, 3) := fp_hdX11_trick_62.1.2.1.2.1.2
theorem dX11_trick_108 : decode cX11_trick 108 = .ok (.getfield 205, 3) := fp_hdX11_trick_62.1.2.1.2.2.1
theorem dX11_trick_111 : decode cX11_trick 111 = .ok (.if_icmp .gt 71, 3) := fp_hdX11_trick_62.1.2.1.2.2.2
theorem dX11_trick_114 : decode cX11_trick 114 = .ok (.aload_n 0, 1) := fp_hdX11_trick_62.1.2.2.1.1.1
theorem dX11_trick_115 : decode cX11_trick 115 = .ok (.getfield 51, 3) := fp_hdX11_trick_62.1.2.2.1.1.2
theorem dX11_trick_118 : decode cX11_trick 118 = .ok (.aload_n 0, 1) := fp_hdX11_trick_62.1.2.2.1.2.1
theorem dX11_trick_119 : decode cX11_trick 119 = .ok (.getfield 23, 3) := fp_hdX11_trick_62.1.2.2.1.2.2
theorem dX11_trick_122 : decode cX11_trick 122 = .ok (.iload_n 3, 1) := fp_hdX11_trick_62.1.2.2.2.1.1
theorem dX11_trick_123 : decode cX11_trick 123 = .ok (.invokevirtual 232, 3) := fp_hdX11_trick_62.1.2.2.2.1.2
theorem dX11_trick_126 : decode cX11_trick 126 = .ok (.istore 7, 2) := fp_hdX11_trick_62.1.2.2.2.2.1
theorem dX11_trick_128 : decode cX11_trick 128 = .ok (.iload 7, 2) := fp_hdX11_trick_62.1.2.2.2.2.2
theorem fp_hdX11_trick_130 : (((((decode cX11_trick 130 = .ok (.bipush (-4), 2) ∧ decode cX11_trick 132 = .ok (.if_icmp .eq 27, 3)) ∧ (decode cX11_trick 135 = .ok (.iload 4, 2) ∧ decode cX11_trick 137 = .ok (.ifCond .ne 8, 3))) ∧ ((decode cX11_trick 140 = .ok (.iload 5, 2) ∧ decode cX11_trick 142 = .ok (.goto 16, 3)) ∧ decode cX11_trick 145 = .ok (.iload 4, 2))) ∧ (((decode cX11_trick 147 = .ok (.iconst 1, 1) ∧ decode cX11_trick 148 = .ok (.if_icmp .ne 8, 3)) ∧ (decode cX11_trick 151 = .ok (.iload 6, 2) ∧ decode cX11_trick 153 = .ok (.goto 5, 3))) ∧ ((decode cX11_trick 156 = .ok (.iload 7, 2) ∧ decode cX11_trick 158 = .ok (.ireturn, 1)) ∧ decode cX11_trick 159 = .ok (.aload_n 0, 1)))) ∧ ((((decode cX11_trick 160 = .ok (.getfield 51, 3) ∧ decode cX11_trick 163 = .ok (.aload_n 0, 1)) ∧ (decode cX11_trick 164 = .ok (.getfield 23, 3) ∧ decode cX11_trick 167 = .ok (.aload_n 0, 1))) ∧ ((decode cX11_trick 168 = .ok (.getfield 37, 3) ∧ decode cX11_trick 171 = .ok (.iload 6, 2)) ∧ decode cX11_trick 173 = .ok (.invokevirtual 235, 3))) ∧ (((decode cX11_trick 176 = .ok (.iinc 6 1, 3) ∧ decode cX11_trick 179 = .ok (.goto (-77), 3)) ∧ decode cX11_trick 182 = .ok (.iinc 5 1, 3)) ∧ ((decode cX11_trick 185 = .ok (.goto (-121), 3) ∧ decode cX11_trick 188 = .ok (.bipush (-4), 2)) ∧ decode cX11_trick 190 = .ok (.ireturn, 1))))) ∧ bA cX11_trick 191 [] :=
  have q0 := fp_o16 (v := (-4)) fp_hdX11_trick_62.2 rfl
  have q1 := fp_o159 (v := 27) q0.2 rfl
  have q2 := fp_o21 q1.2
  have q3 := fp_o154 (v := 8) q2.2 rfl
  have q4 := fp_o21 q3.2
  have q5 := fp_o167 (v := 16) q4.2 rfl
  have q6 := fp_o21 q5.2
  have q7 := fp_o4 q6.2
  have q8 := fp_o160 (v := 8) q7.2 rfl
  have q9 := fp_o21 q8.2
  have q10 := fp_o167 (v := 5) q9.2 rfl
  have q11 := fp_o21 q10.2
  have q12 := fp_o172 q11.2
  have q13 := fp_o42 q12.2
  have q14 := fp_o180 (v := 51) q13.2 rfl
  have q15 := fp_o42 q14.2
  have q16 := fp_o180 (v := 23) q15.2 rfl
  have q17 := fp_o42 q16.2
  have q18 := fp_o180 (v := 37) q17.2 rfl
  have q19 := fp_o21 q18.2
  have q20 := fp_o182 (v := 235) q19.2 rfl
  have q21 := fp_o132 (v := 1) q20.2 rfl
  have q22 := fp_o167 (v := (-77)) q21.2 rfl
  have q23 := fp_o132 (v := 1) q22.2 rfl
  have q24 := fp_o167 (v := (-121)) q23.2 rfl
  have q25 := fp_o16 (v := (-4)) q24.2 rfl
  have q26 := fp_o172 q25.2
  ⟨⟨⟨⟨⟨⟨q0.1, q1.1⟩, ⟨q2.1, q3.1⟩⟩, ⟨⟨q4.1, q5.1⟩, q6.1⟩⟩, ⟨⟨⟨q7.1, q8.1⟩, ⟨q9.1, q10.1⟩⟩, ⟨⟨q11.1, q12.1⟩, q13.1⟩⟩⟩, ⟨⟨⟨⟨q14.1, q15.1⟩, ⟨q16.1, q17.1⟩⟩, ⟨⟨q18.1, q19.1⟩, q20.1⟩⟩, ⟨⟨⟨q21.1, q22.1⟩, q23.1⟩, ⟨⟨q24.1, q25.1⟩, q26.1⟩⟩⟩⟩, q26.2⟩
theorem dX11_trick_130 : decode cX11_trick 130 = .ok (.bipush (-4), 2) := fp_hdX11_trick_130.1.1.1.1.1.1
theorem dX11_trick_132 : decode cX11_trick 132 = .ok (.if_icmp .eq 27, 3) := fp_hdX11_trick_130.1.1.1.1.1.2
theorem dX11_trick_135 : decode cX11_trick 135 = .ok (.iload 4, 2) := fp_hdX11_trick_130.1.1.1.1.2.1
theorem dX11_trick_137 : decode cX11_trick 137 = .ok (.ifCond .ne 8, 3) := fp_hdX11_trick_130.1.1.1.1.2.2
theorem dX11_trick_140 : decode cX11_trick 140 = .ok (.iload 5, 2) := fp_hdX11_trick_130.1.1.1.2.1.1
theorem dX11_trick_142 : decode cX11_trick 142 = .ok (.goto 16, 3) := fp_hdX11_trick_130.1.1.1.2.1.2
theorem dX11_trick_145 : decode cX11_trick 145 = .ok (.iload 4, 2) := fp_hdX11_trick_130.1.1.1.2.2
theorem dX11_trick_147 : decode cX11_trick 147 = .ok (.iconst 1, 1) := fp_hdX11_trick_130.1.1.2.1.1.1
theorem dX11_trick_148 : decode cX11_trick 148 = .ok (.if_icmp .ne 8, 3) := fp_hdX11_trick_130.1.1.2.1.1.2
theorem dX11_trick_151 : decode cX11_trick 151 = .ok (.iload 6, 2) := fp_hdX11_trick_130.1.1.2.1.2.1
theorem dX11_trick_153 : decode cX11_trick 153 = .ok (.goto 5, 3) := fp_hdX11_trick_130.1.1.2.1.2.2
theorem dX11_trick_156 : decode cX11_trick 156 = .ok (.iload 7, 2) := fp_hdX11_trick_130.1.1.2.2.1.1
theorem dX11_trick_158 : decode cX11_trick 158 = .ok (.ireturn, 1) := fp_hdX11_trick_130.1.1.2.2.1.2
theorem dX11_trick_159 : decode cX11_trick 159 = .ok (.aload_n 0, 1) := fp_hdX11_trick_130.1.1.2.2.2
theorem dX11_trick_160 : decode cX11_trick 160 = .ok (.getfield 51, 3) := fp_hdX11_trick_130.1.2.1.1.1.1
theorem dX11_trick_163 : decode cX11_trick 163 = .ok (.aload_n 0, 1) := fp_hdX11_trick_130.1.2.1.1.1.2
theorem dX11_trick_164 : decode cX11_trick 164 = .ok (.getfield 23, 3) := fp_hdX11_trick_130.1.2.1.1.2.1
theorem dX11_trick_167 : decode cX11_trick 167 = .ok (.aload_n 0, 1) := fp_hdX11_trick_130.1.2.1.1.2.2
theorem dX11_trick_168 : decode cX11_trick 168 = .ok (.getfield 37, 3) := fp_hdX11_trick_130.1.2.1.2.1.1
theorem dX11_trick_171 : decode cX11_trick 171 = .ok (.iload 6, 2) := fp_hdX11_trick_130.1.2.1.2.1.2
theorem dX11_trick_173 : decode cX11_trick 173 = .ok (.invokevirtual 235, 3) := fp_hdX11_trick_130.1.2.1.2.2
theorem dX11_trick_176 : decode cX11_trick 176 = .ok (.iinc 6 1, 3) := fp_hdX11_trick_130.1.2.2.1.1.1
theorem dX11_trick_179 : decode cX11_trick 179 = .ok (.goto (-77), 3) := fp_hdX11_trick_130.1.2.2.1.1.2
theorem dX11_trick_182 : decode cX11_trick 182 = .ok (.iinc 5 1, 3) := fp_hdX11_trick_130.1.2.2.1.2
theorem dX11_trick_185 : decode cX11_trick 185 = .ok (.goto (-121), 3) := fp_hdX11_trick_130.1.2.2.2.1.1
theorem dX11_trick_188 : decode cX11_trick 188 = .ok (.bipush (-4), 2) := fp_hdX11_trick_130.1.2.2.2.1.2
theorem dX11_trick_190 : decode cX11_trick 190 = .ok (.ireturn, 1) := fp_hdX11_trick_130.1.2.2.2.2
def fp_scX11_most_1 : List Nat := 164 :: 0 :: 6 :: 16 :: 254 :: 172 :: 42 :: 180 :: 0 :: 51 :: 42 :: 180 :: 0 :: 23 :: 42 :: 180 :: 0 :: 37 :: 42 :: 180 :: 0 :: 30 :: 27 :: 182 :: 0 :: 242 :: 29 :: 153 :: 0 :: 18 :: 42 :: 180 :: 0 :: 51 :: 180 :: 0 :: 246 :: 28 :: 16 :: 10 :: 100 :: 46 :: 167 :: 0 :: 10 :: 42 :: 180 :: 0 :: 51 :: 180 :: 0 :: 249 :: 172 :: []
def fp_scX11_most_0 : List Nat := 28 :: 16 :: 10 :: 161 :: 0 :: 21 :: 42 :: 180 :: 0 :: 37 :: 28 :: 16 :: 10 :: 100 :: 182 :: 0 :: 163 :: 153 :: 0 :: 7 :: 4 :: 167 :: 0 :: 4 :: 3 :: 62 :: 27 :: 184 :: 0 :: 181 :: 153 :: 0 :: 11 :: 28 :: 153 :: 0 :: 9 :: 29 :: 154 :: 0 :: 5 :: 2 :: 172 :: 42 :: 180 :: 0 :: 23 :: 180 :: 0 :: 225 :: 153 :: 0 :: 16 :: 42 :: 180 :: 0 :: 37 :: 27 :: 182 :: 0 :: 239 :: 16 :: 7 :: fp_scX11_most_1
theorem fp_bcX11_most : bA cX11_most 0 fp_scX11_most_0 := show cX11_most.data.toList.map UInt8.toNat = fp_scX11_most_0 from by decide +kernel
theorem fp_hdX11_most_0 : (((((decode cX11_most 0 = .ok (.iload_n 2, 1) ∧ decode cX11_most 1 = .ok (.bipush 10, 2)) ∧ (decode cX11_most 3 = .ok (.if_icmp .lt 21, 3) ∧ decode cX11_most 6 = .ok (.aload_n 0, 1))) ∧ ((decode cX11_most 7 = .ok (.getfield 37, 3) ∧ decode cX11_most 10 = .ok (.iload_n 2, 1)) ∧ (decode cX11_most 11 = .ok (.bipush 10, 2) ∧ decode cX11_most 13 = .ok (.isub, 1)))) ∧ (((decode cX11_most 14 = .ok (.invokevirtual 163, 3) ∧ decode cX11_most 17 = .ok (.ifCond .eq 7, 3)) ∧ (decode cX11_most 20 = .ok (.iconst 1, 1) ∧ decode cX11_most 21 = .ok (.goto 4, 3))) ∧ ((decode cX11_most 24 = .ok (.iconst 0, 1) ∧ decode cX11_most 25 = .ok (.istore_n 3, 1)) ∧ (decode cX11_most 26 = .ok (.iload_n 1, 1) ∧ decode cX11_most 27 = .ok (.invokestatic 181, 3))))) ∧ ((((decode cX11_most 30 = .ok (.ifCond .eq 11, 3) ∧ decode cX11_most 33 = .ok (.iload_n 2, 1)) ∧ (decode cX11_most 34 = .ok (.ifCond .eq 9, 3) ∧ decode cX11_most 37 = .ok (.iload_n 3, 1))) ∧ ((decode cX11_most 38 = .ok (.ifCond .ne 5, 3) ∧ decode cX11_most 41 = .ok (.iconst (-1), 1)) ∧ (decode cX11_most 42 = .ok (.ireturn, 1) ∧ decode cX11_most 43 = .ok (.aload_n 0, 1)))) ∧ (((decode cX11_most 44 = .ok (.getfield 23, 3) ∧ decode cX11_most 47 = .ok (.getfield 225, 3)) ∧ (decode cX11_most 50 = .ok (.ifCond .eq 16, 3) ∧ decode cX11_most 53 = .ok (.aload_n 0, 1))) ∧ ((decode cX11_most 54 = .ok (.getfield 37, 3) ∧ decode cX11_most 57 = .ok (.iload_n 1, 1)) ∧ (decode cX11_most 58 = .ok (.invokevirtual 239, 3) ∧ decode cX11_most 61 = .ok (.bipush 7, 2)))))) ∧ bA cX11_most 63 fp_scX11_most_1 :=
  have q0 := fp_o28 fp_bcX11_most
  have q1 := fp_o16 (v := 10) q0.2 rfl
  have q2 := fp_o161 (v := 21) q1.2 rfl
  have q3 := fp_o42 q2.2
  have q4 := fp_o180 (v := 37) q3.2 rfl
  have q5 := fp_o28 q4.2
  have q6 := fp_o16 (v := 10) q5.2 rfl
  have q7 := fp_o100 q6.2
  have q8 := fp_o182 (v := 163) q7.2 rfl
  have q9 := fp_o153 (v := 7) q8.2 rfl
  have q10 := fp_o4 q9.2
  have q11 := fp_o167 (v := 4) q10.2 rfl
  have q12 := fp_o3 q11.2
  have q13 := fp_o62 q12.2
  have q14 := fp_o27 q13.2
  have q15 := fp_o184 (v := 181) q14.2 rfl
  have q16 := fp_o153 (v := 11) q15.2 rfl
  have q17 := fp_o28 q16.2
  have q18 := fp_o153 (v := 9) q17.2 rfl
  have q19 := fp_o29 q18.2
  have q20 := fp_o154 (v := 5) q19.2 rfl
  have q21 := fp_o2 q20.2
  have q22 := fp_o172 q21.2
  have q23 := fp_o42 q22.2
  have q24 := fp_o180 (v := 23) q23.2 rfl
  have q25 := fp_o180 (v := 225) q24.2 rfl
  have q26 := fp_o153 (v := 16) q25.2 rfl
  have q27 := fp_o42 q26.2
  have q28 := fp_o180 (v := 37) q27.2 rfl
  have q29 := fp_o27 q28.2
  have q30 := fp_o182 (v := 239) q29.2 rfl
  have q31 := fp_o16 (v := 7) q30.2 rfl
  ⟨⟨⟨⟨⟨⟨q0.1, q1.1⟩, ⟨q2.1, q3.1⟩⟩, ⟨⟨q4.1, q5.1⟩, ⟨q6.1, q7.1⟩⟩⟩, ⟨⟨⟨q8.1, q9.1⟩, ⟨q10.1, q11.1⟩⟩, ⟨⟨q12.1, q13.1⟩, ⟨q14.1, q15.1⟩⟩⟩⟩, ⟨⟨⟨⟨q16.1, q17.1⟩, ⟨q18.1, q19.1⟩⟩, ⟨⟨q20.1, q21.1⟩, ⟨q22.1, q23.1⟩⟩⟩, ⟨⟨⟨q24.1, q25.1⟩, ⟨q26.1, q27.1⟩⟩, ⟨⟨q28.1, q29.1⟩, ⟨q30.1, q31.1⟩⟩⟩⟩⟩, q31.2⟩
theorem dX11_most_0 : decode cX11_most 0 = .ok (.iload_n 2, 1) := fp_hdX11_most_0.1.1.1.1.1.1
theorem dX11_most_1 : decode cX11_most 1 = .ok (.bipush 10, 2) := fp_hdX11_most_0.1.1.1.1.1.2
theorem dX11_most_3 : decode cX11_most 3 = .ok (.if_icmp .lt 21, 3) := fp_hdX11_most_0.1.1.1.1.2.1
theorem dX11_most_6 : decode cX11_most 6 = .ok (.aload_n 0, 1) := fp_hdX11_most_0.1.1.1.1.2.2
theorem dX11_most_7 : decode cX11_most 7 = .ok (.getfield 37, 3) := fp_hdX11_most_0.1.1.1.2.1.1
theorem dX11_most_10 : decode cX11_most 10 = .ok (.iload_n 2, 1) := fp_hdX11_most_0.1.1.1.2.1.2
theorem dX11_most_11 : decode cX11_most 11 = .ok (.bipush 10, 2) := fp_hdX11_most_0.1.1.1.2.2.1
theorem dX11_most_13 : decode cX11_most 13 = .ok (.isub, 1) := fp_hdX11_most_0.1.1.1.2.2.2
theorem dX11_most_14 : decode cX11_most 14 = .ok (.invokevirtual 163, 3) := fp_hdX11_most_0.1.1.2.1.1.1
theorem dX11_most_17 : decode cX11_most 17 = .ok (.ifCond .eq 7, 3) := fp_hdX11_most_0.1.1.2.1.1.2
theorem dX11_most_20 : decode cX11_most 20 = .ok (.iconst 1, 1) := fp_hdX11_most_0.1.1.2.1.2.1
theorem dX11_most_21 : decode cX11_most 21 = .ok (.goto 4, 3) := fp_hdX11_most_0.1.1.2.1.2.2
theorem dX11_most_24 : decode cX11_most 24 = .ok (.iconst 0, 1) := fp_hdX11_most_0.1.1.2.2.1.1
theorem dX11_most_25 : decode cX11_most 25 = .ok (.istore_n 3, 1) := fp_hdX11_most_0.1.1.2.2.1.2
theorem dX11_most_26 : decode cX11_most 26 = .ok (.iload_n 1, 1) := fp_hdX11_most_0.1.1.2.2.2.1
theorem dX11_most_27 : decode cX11_most 27 = .ok (.invokestatic 181, 3) := fp_hdX11_most_0.1.1.2.2.2.2
theorem dX11_most_30 : decode cX11_most 30 = .ok (.ifCond .eq 11, 3) := fp_hdX11_most_0.1.2.1.1.1.1
theorem dX11_most_33 : decode cX11_most 33 = .ok (.iload_n 2, 1) := fp_hdX11_most_0.1.2.1.1.1.2
theorem dX11_most_34 : decode cX11_most 34 = .ok (.ifCond .eq 9, 3) := fp_hdX11_most_0.1.2.1.1.2.1
theorem dX11_most_37 : decode cX11_most 37 = .ok (.iload_n 3, 1) := fp_hdX11_most_0.1.2.1.1.2.2
theorem dX11_most_38 : decode cX11_most 38 = .ok (.ifCond .ne 5, 3) := fp_hdX11_most_0.1.2.1.2.1.1
theorem dX11_most_41 : decode cX11_most 41 = .ok (.iconst (-1), 1) := fp_hdX11_most_0.1.2.1.2.1.2
theorem dX11_most_42 : decode cX11_most 42 = .ok (.ireturn, 1) := fp_hdX11_most_0.1.2.1.2.2.1
theorem dX11_most_43 : decode cX11_most 43 = .ok (.aload_n 0, 1) := fp_hdX11_most_0.1.2.1.2.2.2
theorem dX11_most_44 : decode cX11_most 44 = .ok (.getfield 23, 3) := fp_hdX11_most_0.1.2.2.1.1.1
theorem dX11_most_47 : decode cX11_most 47 = .ok (.getfield 225, 3) := fp_hdX11_most_0.1.2.2.1.1.2
theorem dX11_most_50 : decode cX11_most 50 = .ok (.ifCond .eq 16, 3) := fp_hdX11_most_0.1.2.2.1.2.1
theorem dX11_most_53 : decode cX11_most 53 = .ok (.aload_n 0, 1) := fp_hdX11_most_0.1.2.2.1.2.2
theorem dX11_most_54 : decode cX11_most 54 = .ok (.getfield 37, 3) := fp_hdX11_most_0.1.2.2.2.1.1
theorem dX11_most_57 : decode cX11_most 57 = .ok (.iload_n 1, 1) := fp_hdX11_most_0.1.2.2.2.1.2
theorem dX11_most_58 : decode cX11_most 58 = .ok (.invokevirtual 239, 3) := fp_hdX11_most_0.1.2.2.2.2.1
theorem dX11_most_61 : decode cX11_most 61 = .ok (.bipush 7, 2) := fp_hdX11_most_0.1.2.2.2.2.2
theorem fp_hdX11_most_63 : (((((decode cX11_most 63 = .ok (.if_icmp .le 6, 3) ∧ decode cX11_most 66 = .ok (.bipush (-2), 2)) ∧ (decode cX11_most 68 = .ok (.ireturn, 1) ∧ decode cX11_most 69 = .ok (.aload_n 0, 1))) ∧ ((decode cX11_most 70 = .ok (.getfield 51, 3) ∧ decode cX11_most 73 = .ok (.aload_n 0, 1)) ∧ decode cX11_most 74 = .ok (.getfield 23, 3))) ∧ (((decode cX11_most 77 = .ok (.aload_n 0, 1) ∧ decode cX11_most 78 = .ok (.getfield 37, 3)) ∧ (decode cX11_most 81 = .ok (.aload_n 0, 1) ∧ decode cX11_most 82 = .ok (.getfield 30, 3))) ∧ ((decode cX11_most 85 = .ok (.iload_n 1, 1) ∧ decode cX11_most 86 = .ok (.invokevirtual 242, 3)) ∧ decode cX11_most 89 = .ok (.iload_n 3, 1)))) ∧ ((((decode cX11_most 90 = .ok (.ifCond .eq 18, 3) ∧ decode cX11_most 93 = .ok (.aload_n 0, 1)) ∧ (decode cX11_most 94 = .ok (.getfield 51, 3) ∧ decode cX11_most 97 = .ok (.getfield 246, 3))) ∧ ((decode cX11_most 100 = .ok (.iload_n 2, 1) ∧ decode cX11_most 101 = .ok (.bipush 10, 2)) ∧ decode cX11_most 103 = .ok (.isub, 1))) ∧ (((decode cX11_most 104 = .ok (.iaload, 1) ∧ decode cX11_most 105 = .ok (.goto 10, 3)) ∧ decode cX11_most 108 = .ok (.aload_n 0, 1)) ∧ ((decode cX11_most 109 = .ok (.getfield 51, 3) ∧ decode cX11_most 112 = .ok (.getfield 249, 3)) ∧ decode cX11_most 115 = .ok (.ireturn, 1))))) ∧ bA cX11_most 116 [] :=
  have q0 := fp_o164 (v := 6) fp_hdX11_most_0.2 rfl
  have q1 := fp_o16 (v := (-2)) q0.2 rfl
  have q2 := fp_o172 q1.2
  have q3 := fp_o42 q2.2
  have q4 := fp_o180 (v := 51) q3.2 rfl
  have q5 := fp_o42 q4.2
  have q6 := fp_o180 (v := 23) q5.2 rfl
  have q7 := fp_o42 q6.2
  have q8 := fp_o180 (v := 37) q7.2 rfl
  have q9 := fp_o42 q8.2
  have q10 := fp_o180 (v := 30) q9.2 rfl
  have q11 := fp_o27 q10.2
  have q12 := fp_o182 (v := 242) q11.2 rfl
  have q13 := fp_o29 q12.2
  have q14 := fp_o153 (v := 18) q13.2 rfl
  have q15 := fp_o42 q14.2
  have q16 := fp_o180 (v := 51) q15.2 rfl
  have q17 := fp_o180 (v := 246) q16.2 rfl
  have q18 := fp_o28 q17.2
  have q19 := fp_o16 (v := 10) q18.2 rfl
  have q20 := fp_o100 q19.2
  have q21 := fp_o46 q20.2
  have q22 := fp_o167 (v := 10) q21.2 rfl
  have q23 := fp_o42 q22.2
  have q24 := fp_o180 (v := 51) q23.2 rfl
  have q25 := fp_o180 (v := 249) q24.2 rfl
  have q26 := fp_o172 q25.2
  ⟨⟨⟨⟨⟨⟨q0.1, q1.1⟩, ⟨q2.1, q3.1⟩⟩, ⟨⟨q4.1, q5.1⟩, q6.1⟩⟩, ⟨⟨⟨q7.1, q8.1⟩, ⟨q9.1, q10.1⟩⟩, ⟨⟨q11.1, q12.1⟩, q13.1⟩⟩⟩, ⟨⟨⟨⟨q14.1, q15.1⟩, ⟨q16.1, q17.1⟩⟩, ⟨⟨q18.1, q19.1⟩, q20.1⟩⟩, ⟨⟨⟨q21.1, q22.1⟩, q23.1⟩, ⟨⟨q24.1, q25.1⟩, q26.1⟩⟩⟩⟩, q26.2⟩
theorem dX11_most_63 : decode cX11_most 63 = .ok (.if_icmp .le 6, 3) := fp_hdX11_most_63.1.1.1.1.1.1
theorem dX11_most_66 : decode cX11_most 66 = .ok (.bipush (-2), 2) := fp_hdX11_most_63.1.1.1.1.1.2
theorem dX11_most_68 : decode cX11_most 68 = .ok (.ireturn, 1) := fp_hdX11_most_63.1.1.1.1.2.1
theorem dX11_most_69 : decode cX11_most 69 = .ok (.aload_n 0, 1) := fp_hdX11_most_63.1.1.1.1.2.2
theorem dX11_most_70 : decode cX11_most 70 = .ok (.getfield 51, 3) := fp_hdX11_most_63.1.1.1.2.1.1
theorem dX11_most_73 : decode cX11_most 73 = .ok (.aload_n 0, 1) := fp_hdX11_most_63.1.1.1.2.1.2
theorem dX11_most_74 : decode cX11_most 74 = .ok (.getfield 23, 3) := fp_hdX11_most_63.1.1.1.2.2
theorem dX11_most_77 : decode cX11_most 77 = .ok (.aload_n 0, 1) := fp_hdX11_most_63.1.1.2.1.1.1
theorem dX11_most_78 : decode cX11_most 78 = .ok (.getfield 37, 3) := fp_hdX11_most_63.1.1.2.1.1.2
theorem dX11_most_81 : decode cX11_most 81 = .ok (.aload_n 0, 1) := fp_hdX11_most_63.1.1.2.1.2.1
theorem dX11_most_82 : decode cX11_most 82 = .ok (.getfield 30, 3) := fp_hdX11_most_63.1.1.2.1.2.2
theorem dX11_most_85 : decode cX11_most 85 = .ok (.iload_n 1, 1) := fp_hdX11_most_63.1.1.2.2.1.1
theorem dX11_most_86 : decode cX11_most 86 = .ok (.invokevirtual 242, 3) := fp_hdX11_most_63.1.1.2.2.1.2
theorem dX11_most_89 : decode cX11_most 89 = .ok (.iload_n 3, 1) := fp_hdX11_most_63.1.1.2.2.2
theorem dX11_most_90 : decode cX11_most 90 = .ok (.ifCond .eq 18, 3) := fp_hdX11_most_63.1.2.1.1.1.1
theorem dX11_most_93 : decode cX11_most 93 = .ok (.aload_n 0, 1) := fp_hdX11_most_63.1.2.1.1.1.2
theorem dX11_most_94 : decode cX11_most 94 = .ok (.getfield 51, 3) := fp_hdX11_most_63.1.2.1.1.2.1
theorem dX11_most_97 : decode cX11_most 97 = .ok (.getfield 246, 3) := fp_hdX11_most_63.1.2.1.1.2.2
theorem dX11_most_100 : decode cX11_most 100 = .ok (.iload_n 2, 1) := fp_hdX11_most_63.1.2.1.2.1.1
theorem dX11_most_101 : decode cX11_most 101 = .ok (.bipush 10, 2) := fp_hdX11_most_63.1.2.1.2.1.2
theorem dX11_most_103 : decode cX11_most 103 = .ok (.isub, 1) := fp_hdX11_most_63.1.2.1.2.2
theorem dX11_most_104 : decode cX11_most 104 = .ok (.iaload, 1) := fp_hdX11_most_63.1.2.2.1.1.1
theorem dX11_most_105 : decode cX11_most 105 = .ok (.goto 10, 3) := fp_hdX11_most_63.1.2.2.1.1.2
theorem dX11_most_108 : decode cX11_most 108 = .ok (.aload_n 0, 1) := fp_hdX11_most_63.1.2.2.1.2
theorem dX11_most_109 : decode cX11_most 109 = .ok (.getfield 51, 3) := fp_hdX11_most_63.1.2.2.2.1.1
theorem dX11_most_112 : decode cX11_most 112 = .ok (.getfield 249, 3) := fp_hdX11_most_63.1.2.2.2.1.2
theorem dX11_most_115 : decode cX11_most 115 = .ok (.ireturn, 1) := fp_hdX11_most_63.1.2.2.2.2
def fp_scX11_odds_1 : List Nat := 182 :: 1 :: 0 :: 55 :: 4 :: 42 :: 180 :: 0 :: 51 :: 180 :: 1 :: 4 :: 28 :: 47 :: 55 :: 6 :: 22 :: 4 :: 22 :: 6 :: 184 :: 1 :: 8 :: 55 :: 8 :: 22 :: 8 :: 9 :: 148 :: 157 :: 0 :: 7 :: 20 :: 0 :: 254 :: 173 :: 29 :: 154 :: 0 :: 11 :: 22 :: 6 :: 22 :: 8 :: 109 :: 167 :: 0 :: 8 :: 22 :: 4 :: 22 :: 8 :: 109 :: 173 :: []
def fp_scX11_odds_0 : List Nat := 42 :: 180 :: 0 :: 23 :: 27 :: 182 :: 0 :: 148 :: 153 :: 0 :: 22 :: 42 :: 180 :: 0 :: 23 :: 28 :: 182 :: 0 :: 126 :: 153 :: 0 :: 11 :: 29 :: 4 :: 184 :: 0 :: 221 :: 154 :: 0 :: 7 :: 20 :: 0 :: 252 :: 173 :: 42 :: 180 :: 0 :: 37 :: 180 :: 0 :: 205 :: 16 :: 10 :: 164 :: 0 :: 7 :: 20 :: 0 :: 254 :: 173 :: 42 :: 180 :: 0 :: 51 :: 42 :: 180 :: 0 :: 23 :: 42 :: 180 :: 0 :: 37 :: 42 :: 180 :: 0 :: 30 :: 27 :: fp_scX11_odds_1
theorem fp_bcX11_odds : bA cX11_odds 0 fp_scX11_odds_0 := show cX11_odds.data.toList.map UInt8.toNat = fp_scX11_odds_0 from by decide +kernel
theorem fp_hdX11_odds_0 : (((((decode cX11_odds 0 = .ok (.aload_n 0, 1) ∧ decode cX11_odds 1 = .ok (.getfield 23, 3)) ∧ (decode cX11_odds 4 = .ok (.iload_n 1, 1) ∧ decode cX11_odds 5 = .ok (.invokevirtual 148, 3))) ∧ ((decode cX11_odds 8 = .ok (.ifCond .eq 22, 3) ∧ decode cX11_odds 11 = .ok (.aload_n 0, 1)) ∧ (decode cX11_odds 12 = .ok (.getfield 23, 3) ∧ decode cX11_odds 15 = .ok (.iload_n 2, 1)))) ∧ (((decode cX11_odds 16 = .ok (.invokevirtual 126, 3) ∧ decode cX11_odds 19 = .ok (.ifCond .eq 11, 3)) ∧ (decode cX11_odds 22 = .ok (.iload_n 3, 1) ∧ decode cX11_odds 23 = .ok (.iconst 1, 1))) ∧ ((decode cX11_odds 24 = .ok (.invokestatic 221, 3) ∧ decode cX11_odds 27 = .ok (.ifCond .ne 7, 3)) ∧ (decode cX11_odds 30 = .ok (.ldc2_w 252, 3) ∧ decode cX11_odds 33 = .ok (.lreturn, 1))))) ∧ ((((decode cX11_odds 34 = .ok (.aload_n 0, 1) ∧ decode cX11_odds 35 = .ok (.getfield 37, 3)) ∧ (decode cX11_odds 38 = .ok (.getfield 205, 3) ∧ decode cX11_odds 41 = .ok (.bipush 10, 2))) ∧ ((decode cX11_odds 43 = .ok (.if_icmp .le 7, 3) ∧ decode cX11_odds 46 = .ok (.ldc2_w 254, 3)) ∧ (decode cX11_odds 49 = .ok (.lreturn, 1) ∧ decode cX11_odds 50 = .ok (.aload_n 0, 1)))) ∧ (((decode cX11_odds 51 = .ok (.getfield 51, 3) ∧ decode cX11_odds 54 = .ok (.aload_n 0, 1)) ∧ (decode cX11_odds 55 = .ok (.getfield 23, 3) ∧ decode cX11_odds 58 = .ok (.aload_n 0, 1))) ∧ ((decode cX11_odds 59 = .ok (.getfield 37, 3) ∧ decode cX11_odds 62 = .ok (.aload_n 0, 1)) ∧ (decode cX11_odds 63 = .ok (.getfield 30, 3) ∧ decode cX11_odds 66 = .ok (.iload_n 1, 1)))))) ∧ bA cX11_odds 67 fp_scX11_odds_1 :=
  have q0 := fp_o42 fp_bcX11_odds
  have q1 := fp_o180 (v := 23) q0.2 rfl
  have q2 := fp_o27 q1.2
  have q3 := fp_o182 (v := 148) q2.2 rfl
  have q4 := fp_o153 (v := 22) q3.2 rfl
  have q5 := fp_o42 q4.2
  have q6 := fp_o180 (v := 23) q5.2 rfl
  have q7 := fp_o28 q6.2
  have q8 := fp_o182 (v := 126) q7.2 rfl
  have q9 := fp_o153 (v := 11) q8.2 rfl
  have q10 := fp_o29 q9.2
  have q11 := fp_o4 q10.2
  have q12 := fp_o184 (v := 221) q11.2 rfl
  have q13 := fp_o154 (v := 7) q12.2 rfl
  have q14 := fp_o20 (v := 252) q13.2 rfl
  have q15 := fp_o173 q14.2
  have q16 := fp_o42 q15.2
  have q17 := fp_o180 (v := 37) q16.2 rfl
  have q18 := fp_o180 (v := 205) q17.2 rfl
  have q19 := fp_o16 (v := 10) q18.2 rfl
  have q20 := fp_o164 (v := 7) q19.2 rfl
  have q21 := fp_o20 (v := 254) q20.2 rfl
  have q22 := fp_o173 q21.2
  have q23 := fp_o42 q22.2
  have q24 := fp_o180 (v := 51) q23.2 rfl
  have q25 := fp_o42 q24.2
  have q26 := fp_o180 (v := 23) q25.2 rfl
  have q27 := fp_o42 q26.2
  have q28 := fp_o180 (v := 37) q27.2 rfl
  have q29 := fp_o42 q28.2
  have q30 := fp_o180 (v := 30) q29.2 rfl
  have q31 := fp_o27 q30.2
  ⟨⟨⟨⟨⟨⟨q0.1, q1.1⟩, ⟨q2.1, q3.1⟩⟩, ⟨⟨q4.1, q5.1⟩, ⟨q6.1, q7.1⟩⟩⟩, ⟨⟨⟨q8.1, q9.1⟩, ⟨q10.1, q11.1⟩⟩, ⟨⟨q12.1, q13.1⟩, ⟨q14.1, q15.1⟩⟩⟩⟩, ⟨⟨⟨⟨q16.1, q17.1⟩, ⟨q18.1, q19.1⟩⟩, ⟨⟨q20.1, q21.1⟩, ⟨q22.1, q23.1⟩⟩⟩, ⟨⟨⟨q24.1, q25.1⟩, ⟨q26.1, q27.1⟩⟩, ⟨⟨q28.1, q29.1⟩, ⟨q30.1, q31.1⟩⟩⟩⟩⟩, q31.2⟩
theorem dX11_odds_0 : decode cX11_odds 0 = .ok (.aload_n 0, 1) := fp_hdX11_odds_0.1.1.1.1.1.1
theorem dX11_odds_1 : decode cX11_odds 1 = .ok (.getfield 23, 3) := fp_hdX11_odds_0.1.1.1.1.1.2
theorem dX11_odds_4 : decode cX11_odds 4 = .ok (.iload_n 1, 1) := fp_hdX11_odds_0.1.1.1.1.2.1
theorem dX11_odds_5 : decode cX11_odds 5 = .ok (.invokevirtual 148, 3) := fp_hdX11_odds_0.1.1.1.1.2.2
theorem dX11_odds_8 : decode cX11_odds 8 = .ok (.ifCond .eq 22, 3) := fp_hdX11_odds_0.1.1.1.2.1.1
theorem dX11_odds_11 : decode cX11_odds 11 = .ok (.aload_n 0, 1) := fp_hdX11_odds_0.1.1.1.2.1.2
theorem dX11_odds_12 : decode cX11_odds 12 = .ok (.getfield 23, 3) := fp_hdX11_odds_0.1.1.1.2.2.1
theorem dX11_odds_15 : decode cX11_odds 15 = .ok (.iload_n 2, 1) := fp_hdX11_odds_0.1.1.1.2.2.2
theorem dX11_odds_16 : decode cX11_odds 16 = .ok (.invokevirtual 126, 3) := fp_hdX11_odds_0.1.1.2.1.1.1
theorem dX11_odds_19 : decode cX11_odds 19 = .ok (.ifCond .eq 11, 3) := fp_hdX11_odds_0.1.1.2.1.1.2
theorem dX11_odds_22 : decode cX11_odds 22 = .ok (.iload_n 3, 1) := fp_hdX11_odds_0.1.1.2.1.2.1
theorem dX11_odds_23 : decode cX11_odds 23 = .ok (.iconst 1, 1) := fp_hdX11_odds_0.1.1.2.1.2.2
theorem dX11_odds_24 : decode cX11_odds 24 = .ok (.invokestatic 221, 3) := fp_hdX11_odds_0.1.1.2.2.1.1
theorem dX11_odds_27 : decode cX11_odds 27 = .ok (.ifCond .ne 7, 3) := fp_hdX11_odds_0.1.1.2.2.1.2
theorem dX11_odds_30 : decode cX11_odds 30 = .ok (.ldc2_w 252, 3) := fp_hdX11_odds_0.1.1.2.2.2.1
theorem dX11_odds_33 : decode cX11_odds 33 = .ok (.lreturn, 1) := fp_hdX11_odds_0.1.1.2.2.2.2
theorem dX11_odds_34 : decode cX11_odds 34 = .ok (.aload_n 0, 1) := fp_hdX11_odds_0.1.2.1.1.1.1
theorem dX11_odds_35 : decode cX11_odds 35 = .ok (.getfield 37, 3) := fp_hdX11_odds_0.1.2.1.1.1.2
theorem dX11_odds_38 : decode cX11_odds 38 = .ok (.getfield 205, 3) := fp_hdX11_odds_0.1.2.1.1.2.1
theorem dX11_odds_41 : decode cX11_odds 41 = .ok (.bipush 10, 2) := fp_hdX11_odds_0.1.2.1.1.2.2
theorem dX11_odds_43 : decode cX11_odds 43 = .ok (.if_icmp .le 7, 3) := fp_hdX11_odds_0.1.2.1.2.1.1
theorem dX11_odds_46 : decode cX11_odds 46 = .ok (.ldc2_w 254, 3) := fp_hdX11_odds_0.1.2.1.2.1.2
theorem dX11_odds_49 : decode cX11_odds 49 = .ok (.lreturn, 1) := fp_hdX11_odds_0.1.2.1.2.2.1
theorem dX11_odds_50 : decode cX11_odds 50 = .ok (.aload_n 0, 1) := fp_hdX11_odds_0.1.2.1.2.2.2
theorem dX11_odds_51 : decode cX11_odds 51 = .ok (.getfield 51, 3) := fp_hdX11_odds_0.1.2.2.1.1.1
theorem dX11_odds_54 : decode cX11_odds 54 = .ok (.aload_n 0, 1) := fp_hdX11_odds_0.1.2.2.1.1.2
theorem dX11_odds_55 : decode cX11_odds 55 = .ok (.getfield 23, 3) := fp_hdX11_odds_0.1.2.2.1.2.1
theorem dX11_odds_58 : decode cX11_odds 58 = .ok (.aload_n 0, 1) := fp_hdX11_odds_0.1.2.2.1.2.2
theorem dX11_odds_59 : decode cX11_odds 59 = .ok (.getfield 37, 3) := fp_hdX11_odds_0.1.2.2.2.1.1
theorem dX11_odds_62 : decode cX11_odds 62 = .ok (.aload_n 0, 1) := fp_hdX11_odds_0.1.2.2.2.1.2
theorem dX11_odds_63 : decode cX11_odds 63 = .ok (.getfield 30, 3) := fp_hdX11_odds_0.1.2.2.2.2.1
theorem dX11_odds_66 : decode cX11_odds 66 = .ok (.iload_n 1, 1) := fp_hdX11_odds_0.1.2.2.2.2.2
theorem fp_hdX11_odds_67 : (((((decode cX11_odds 67 = .ok (.invokevirtual 256, 3) ∧ decode cX11_odds 70 = .ok (.lstore 4, 2)) ∧ (decode cX11_odds 72 = .ok (.aload_n 0, 1) ∧ decode cX11_odds 73 = .ok (.getfield 51, 3))) ∧ ((decode cX11_odds 76 = .ok (.getfield 260, 3) ∧ decode cX11_odds 79 = .ok (.iload_n 2, 1)) ∧ decode cX11_odds 80 = .ok (.laload, 1))) ∧ (((decode cX11_odds 81 = .ok (.lstore 6, 2) ∧ decode cX11_odds 83 = .ok (.lload 4, 2)) ∧ (decode cX11_odds 85 = .ok (.lload 6, 2) ∧ decode cX11_odds 87 = .ok (.invokestatic 264, 3))) ∧ ((decode cX11_odds 90 = .ok (.lstore 8, 2) ∧ decode cX11_odds 92 = .ok (.lload 8, 2)) ∧ decode cX11_odds 94 = .ok (.lconst 0, 1)))) ∧ ((((decode cX11_odds 95 = .ok (.lcmp, 1) ∧ decode cX11_odds 96 = .ok (.ifCond .gt 7, 3)) ∧ (decode cX11_odds 99 = .ok (.ldc2_w 254, 3) ∧ decode cX11_odds 102 = .ok (.lreturn, 1))) ∧ ((decode cX11_odds 103 = .ok (.iload_n 3, 1) ∧ decode cX11_odds 104 = .ok (.ifCond .ne 11, 3)) ∧ decode cX11_odds 107 = .ok (.lload 6, 2))) ∧ (((decode cX11_odds 109 = .ok (.lload 8, 2) ∧ decode cX11_odds 111 = .ok (.ldiv, 1)) ∧ (decode cX11_odds 112 = .ok (.goto 8, 3) ∧ decode cX11_odds 115 = .ok (.lload 4, 2))) ∧ ((decode cX11_odds 117 = .ok (.lload 8, 2) ∧ decode cX11_odds 119 = .ok (.ldiv, 1)) ∧ decode cX11_odds 120 = .ok (.lreturn, 1))))) ∧ bA cX11_odds 121 [] :=
  have q0 := fp_o182 (v := 256) fp_hdX11_odds_0.2 rfl
  have q1 := fp_o55 q0.2
  have q2 := fp_o42 q1.2
  have q3 := fp_o180 (v := 51) q2.2 rfl
  have q4 := fp_o180 (v := 260) q3.2 rfl
  have q5 := fp_o28 q4.2
  have q6 := fp_o47 q5.2
  have q7 := fp_o55 q6.2
  have q8 := fp_o22 q7.2
  have q9 := fp_o22 q8.2
  have q10 := fp_o184 (v := 264) q9.2 rfl
  have q11 := fp_o55 q10.2
  have q12 := fp_o22 q11.2
  have q13 := fp_o9 q12.2
  have q14 := fp_o148 q13.2
  have q15 := fp_o157 (v := 7) q14.2 rfl
  have q16 := fp_o20 (v := 254) q15.2 rfl
  have q17 := fp_o173 q16.2
  have q18 := fp_o29 q17.2
  have q19 := fp_o154 (v := 11) q18.2 rfl
  have q20 := fp_o22 q19.2
  have q21 := fp_o22 q20.2
  have q22 := fp_o109 q21.2
  have q23 := fp_o167 (v := 8) q22.2 rfl
  have q24 := fp_o22 q23.2
  have q25 := fp_o22 q24.2
  have q26 := fp_o109 q25.2
  have q27 := fp_o173 q26.2
  ⟨⟨⟨⟨⟨⟨q0.1, q1.1⟩, ⟨q2.1, q3.1⟩⟩, ⟨⟨q4.1, q5.1⟩, q6.1⟩⟩, ⟨⟨⟨q7.1, q8.1⟩, ⟨q9.1, q10.1⟩⟩, ⟨⟨q11.1, q12.1⟩, q13.1⟩⟩⟩, ⟨⟨⟨⟨q14.1, q15.1⟩, ⟨q16.1, q17.1⟩⟩, ⟨⟨q18.1, q19.1⟩, q20.1⟩⟩, ⟨⟨⟨q21.1, q22.1⟩, ⟨q23.1, q24.1⟩⟩, ⟨⟨q25.1, q26.1⟩, q27.1⟩⟩⟩⟩, q27.2⟩
theorem dX11_odds_67 : decode cX11_odds 67 = .ok (.invokevirtual 256, 3) := fp_hdX11_odds_67.1.1.1.1.1.1
theorem dX11_odds_70 : decode cX11_odds 70 = .ok (.lstore 4, 2) := fp_hdX11_odds_67.1.1.1.1.1.2
theorem dX11_odds_72 : decode cX11_odds 72 = .ok (.aload_n 0, 1) := fp_hdX11_odds_67.1.1.1.1.2.1
theorem dX11_odds_73 : decode cX11_odds 73 = .ok (.getfield 51, 3) := fp_hdX11_odds_67.1.1.1.1.2.2
theorem dX11_odds_76 : decode cX11_odds 76 = .ok (.getfield 260, 3) := fp_hdX11_odds_67.1.1.1.2.1.1
theorem dX11_odds_79 : decode cX11_odds 79 = .ok (.iload_n 2, 1) := fp_hdX11_odds_67.1.1.1.2.1.2
theorem dX11_odds_80 : decode cX11_odds 80 = .ok (.laload, 1) := fp_hdX11_odds_67.1.1.1.2.2
theorem dX11_odds_81 : decode cX11_odds 81 = .ok (.lstore 6, 2) := fp_hdX11_odds_67.1.1.2.1.1.1
theorem dX11_odds_83 : decode cX11_odds 83 = .ok (.lload 4, 2) := fp_hdX11_odds_67.1.1.2.1.1.2
theorem dX11_odds_85 : decode cX11_odds 85 = .ok (.lload 6, 2) := fp_hdX11_odds_67.1.1.2.1.2.1
theorem dX11_odds_87 : decode cX11_odds 87 = .ok (.invokestatic 264, 3) := fp_hdX11_odds_67.1.1.2.1.2.2
theorem dX11_odds_90 : decode cX11_odds 90 = .ok (.lstore 8, 2) := fp_hdX11_odds_67.1.1.2.2.1.1
theorem dX11_odds_92 : decode cX11_odds 92 = .ok (.lload 8, 2) := fp_hdX11_odds_67.1.1.2.2.1.2
theorem dX11_odds_94 : decode cX11_odds 94 = .ok (.lconst 0, 1) := fp_hdX11_odds_67.1.1.2.2.2
theorem dX11_odds_95 : decode cX11_odds 95 = .ok (.lcmp, 1) := fp_hdX11_odds_67.1.2.1.1.1.1
theorem dX11_odds_96 : decode cX11_odds 96 = .ok (.ifCond .gt 7, 3) := fp_hdX11_odds_67.1.2.1.1.1.2
theorem dX11_odds_99 : decode cX11_odds 99 = .ok (.ldc2_w 254, 3) := fp_hdX11_odds_67.1.2.1.1.2.1
theorem dX11_odds_102 : decode cX11_odds 102 = .ok (.lreturn, 1) := fp_hdX11_odds_67.1.2.1.1.2.2
theorem dX11_odds_103 : decode cX11_odds 103 = .ok (.iload_n 3, 1) := fp_hdX11_odds_67.1.2.1.2.1.1
theorem dX11_odds_104 : decode cX11_odds 104 = .ok (.ifCond .ne 11, 3) := fp_hdX11_odds_67.1.2.1.2.1.2
theorem dX11_odds_107 : decode cX11_odds 107 = .ok (.lload 6, 2) := fp_hdX11_odds_67.1.2.1.2.2
theorem dX11_odds_109 : decode cX11_odds 109 = .ok (.lload 8, 2) := fp_hdX11_odds_67.1.2.2.1.1.1
theorem dX11_odds_111 : decode cX11_odds 111 = .ok (.ldiv, 1) := fp_hdX11_odds_67.1.2.2.1.1.2
theorem dX11_odds_112 : decode cX11_odds 112 = .ok (.goto 8, 3) := fp_hdX11_odds_67.1.2.2.1.2.1
theorem dX11_odds_115 : decode cX11_odds 115 = .ok (.lload 4, 2) := fp_hdX11_odds_67.1.2.2.1.2.2
theorem dX11_odds_117 : decode cX11_odds 117 = .ok (.lload 8, 2) := fp_hdX11_odds_67.1.2.2.2.1.1
theorem dX11_odds_119 : decode cX11_odds 119 = .ok (.ldiv, 1) := fp_hdX11_odds_67.1.2.2.2.1.2
theorem dX11_odds_120 : decode cX11_odds 120 = .ok (.lreturn, 1) := fp_hdX11_odds_67.1.2.2.2.2
def fp_scX11_likeliest_1 : List Nat := 42 :: 180 :: 0 :: 23 :: 180 :: 1 :: 12 :: 162 :: 0 :: 39 :: 42 :: 180 :: 0 :: 51 :: 180 :: 1 :: 4 :: 21 :: 5 :: 47 :: 32 :: 148 :: 158 :: 0 :: 18 :: 42 :: 180 :: 0 :: 51 :: 180 :: 1 :: 4 :: 21 :: 5 :: 47 :: 65 :: 21 :: 5 :: 54 :: 4 :: 132 :: 5 :: 1 :: 167 :: 255 :: 211 :: 21 :: 4 :: 172 :: []
def fp_scX11_likeliest_0 : List Nat := 42 :: 180 :: 0 :: 23 :: 27 :: 182 :: 0 :: 148 :: 154 :: 0 :: 5 :: 2 :: 172 :: 42 :: 180 :: 0 :: 37 :: 180 :: 0 :: 205 :: 16 :: 10 :: 164 :: 0 :: 6 :: 16 :: 254 :: 172 :: 42 :: 180 :: 0 :: 51 :: 42 :: 180 :: 0 :: 23 :: 42 :: 180 :: 0 :: 37 :: 42 :: 180 :: 0 :: 30 :: 27 :: 182 :: 1 :: 0 :: 88 :: 9 :: 65 :: 16 :: 252 :: 54 :: 4 :: 3 :: 54 :: 5 :: 21 :: 5 :: fp_scX11_likeliest_1
theorem fp_bcX11_likeliest : bA cX11_likeliest 0 fp_scX11_likeliest_0 := show cX11_likeliest.data.toList.map UInt8.toNat = fp_scX11_likeliest_0 from by decide +kernel
theorem fp_hdX11_likeliest_0 : (((((decode cX11_likeliest 0 = .ok (.aload_n 0, 1) ∧ decode cX11_likeliest 1 = .ok (.getfield 23, 3)) ∧ (decode cX11_likeliest 4 = .ok (.iload_n 1, 1) ∧ decode cX11_likeliest 5 = .ok (.invokevirtual 148, 3))) ∧ ((decode cX11_likeliest 8 = .ok (.ifCond .ne 5, 3) ∧ decode cX11_likeliest 11 = .ok (.iconst (-1), 1)) ∧ (decode cX11_likeliest 12 = .ok (.ireturn, 1) ∧ decode cX11_likeliest 13 = .ok (.aload_n 0, 1)))) ∧ (((decode cX11_likeliest 14 = .ok (.getfield 37, 3) ∧ decode cX11_likeliest 17 = .ok (.getfield 205, 3)) ∧ (decode cX11_likeliest 20 = .ok (.bipush 10, 2) ∧ decode cX11_likeliest 22 = .ok (.if_icmp .le 6, 3))) ∧ ((decode cX11_likeliest 25 = .ok (.bipush (-2), 2) ∧ decode cX11_likeliest 27 = .ok (.ireturn, 1)) ∧ (decode cX11_likeliest 28 = .ok (.aload_n 0, 1) ∧ decode cX11_likeliest 29 = .ok (.getfield 51, 3))))) ∧ ((((decode cX11_likeliest 32 = .ok (.aload_n 0, 1) ∧ decode cX11_likeliest 33 = .ok (.getfield 23, 3)) ∧ (decode cX11_likeliest 36 = .ok (.aload_n 0, 1) ∧ decode cX11_likeliest 37 = .ok (.getfield 37, 3))) ∧ ((decode cX11_likeliest 40 = .ok (.aload_n 0, 1) ∧ decode cX11_likeliest 41 = .ok (.getfield 30, 3)) ∧ (decode cX11_likeliest 44 = .ok (.iload_n 1, 1) ∧ decode cX11_likeliest 45 = .ok (.invokevirtual 256, 3)))) ∧ (((decode cX11_likeliest 48 = .ok (.pop2, 1) ∧ decode cX11_likeliest 49 = .ok (.lconst 0, 1)) ∧ (decode cX11_likeliest 50 = .ok (.lstore_n 2, 1) ∧ decode cX11_likeliest 51 = .ok (.bipush (-4), 2))) ∧ ((decode cX11_likeliest 53 = .ok (.istore 4, 2) ∧ decode cX11_likeliest 55 = .ok (.iconst 0, 1)) ∧ (decode cX11_likeliest 56 = .ok (.istore 5, 2) ∧ decode cX11_likeliest 58 = .ok (.iload 5, 2)))))) ∧ bA cX11_likeliest 60 fp_scX11_likeliest_1 :=
  have q0 := fp_o42 fp_bcX11_likeliest
  have q1 := fp_o180 (v := 23) q0.2 rfl
  have q2 := fp_o27 q1.2
  have q3 := fp_o182 (v := 148) q2.2 rfl
  have q4 := fp_o154 (v := 5) q3.2 rfl
  have q5 := fp_o2 q4.2
  have q6 := fp_o172 q5.2
  have q7 := fp_o42 q6.2
  have q8 := fp_o180 (v := 37) q7.2 rfl
  have q9 := fp_o180 (v := 205) q8.2 rfl
  have q10 := fp_o16 (v := 10) q9.2 rfl
  have q11 := fp_o164 (v := 6) q10.2 rfl
  have q12 := fp_o16 (v := (-2)) q11.2 rfl
  have q13 := fp_o172 q12.2
  have q14 := fp_o42 q13.2
  have q15 := fp_o180 (v := 51) q14.2 rfl
  have q16 := fp_o42 q15.2
  have q17 := fp_o180 (v := 23) q16.2 rfl
  have q18 := fp_o42 q17.2
  have q19 := fp_o180 (v := 37) q18.2 rfl
  have q20 := fp_o42 q19.2
  have q21 := fp_o180 (v := 30) q20.2 rfl
  have q22 := fp_o27 q21.2
  have q23 := fp_o182 (v := 256) q22.2 rfl
  have q24 := fp_o88 q23.2
  have q25 := fp_o9 q24.2
  have q26 := fp_o65 q25.2
  have q27 := fp_o16 (v := (-4)) q26.2 rfl
  have q28 := fp_o54 q27.2
  have q29 := fp_o3 q28.2
  have q30 := fp_o54 q29.2
  have q31 := fp_o21 q30.2
  ⟨⟨⟨⟨⟨⟨q0.1, q1.1⟩, ⟨q2.1, q3.1⟩⟩, ⟨⟨q4.1, q5.1⟩, ⟨q6.1, q7.1⟩⟩⟩, ⟨⟨⟨q8.1, q9.1⟩, ⟨q10.1, q11.1⟩⟩, ⟨⟨q12.1, q13.1⟩, ⟨q14.1, q15.1⟩⟩⟩⟩, ⟨⟨⟨⟨q16.1, q17.1⟩, ⟨q18.1, q19.1⟩⟩, ⟨⟨q20.1, q21.1⟩, ⟨q22.1, q23.1⟩⟩⟩, ⟨⟨⟨q24.1, q25.1⟩, ⟨q26.1, q27.1⟩⟩, ⟨⟨q28.1, q29.1⟩, ⟨q30.1, q31.1⟩⟩⟩⟩⟩, q31.2⟩
theorem dX11_likeliest_0 : decode cX11_likeliest 0 = .ok (.aload_n 0, 1) := fp_hdX11_likeliest_0.1.1.1.1.1.1
theorem dX11_likeliest_1 : decode cX11_likeliest 1 = .ok (.getfield 23, 3) := fp_hdX11_likeliest_0.1.1.1.1.1.2
theorem dX11_likeliest_4 : decode cX11_likeliest 4 = .ok (.iload_n 1, 1) := fp_hdX11_likeliest_0.1.1.1.1.2.1
theorem dX11_likeliest_5 : decode cX11_likeliest 5 = .ok (.invokevirtual 148, 3) := fp_hdX11_likeliest_0.1.1.1.1.2.2
theorem dX11_likeliest_8 : decode cX11_likeliest 8 = .ok (.ifCond .ne 5, 3) := fp_hdX11_likeliest_0.1.1.1.2.1.1
theorem dX11_likeliest_11 : decode cX11_likeliest 11 = .ok (.iconst (-1), 1) := fp_hdX11_likeliest_0.1.1.1.2.1.2
theorem dX11_likeliest_12 : decode cX11_likeliest 12 = .ok (.ireturn, 1) := fp_hdX11_likeliest_0.1.1.1.2.2.1
theorem dX11_likeliest_13 : decode cX11_likeliest 13 = .ok (.aload_n 0, 1) := fp_hdX11_likeliest_0.1.1.1.2.2.2
theorem dX11_likeliest_14 : decode cX11_likeliest 14 = .ok (.getfield 37, 3) := fp_hdX11_likeliest_0.1.1.2.1.1.1
theorem dX11_likeliest_17 : decode cX11_likeliest 17 = .ok (.getfield 205, 3) := fp_hdX11_likeliest_0.1.1.2.1.1.2
theorem dX11_likeliest_20 : decode cX11_likeliest 20 = .ok (.bipush 10, 2) := fp_hdX11_likeliest_0.1.1.2.1.2.1
theorem dX11_likeliest_22 : decode cX11_likeliest 22 = .ok (.if_icmp .le 6, 3) := fp_hdX11_likeliest_0.1.1.2.1.2.2
theorem dX11_likeliest_25 : decode cX11_likeliest 25 = .ok (.bipush (-2), 2) := fp_hdX11_likeliest_0.1.1.2.2.1.1
theorem dX11_likeliest_27 : decode cX11_likeliest 27 = .ok (.ireturn, 1) := fp_hdX11_likeliest_0.1.1.2.2.1.2
theorem dX11_likeliest_28 : decode cX11_likeliest 28 = .ok (.aload_n 0, 1) := fp_hdX11_likeliest_0.1.1.2.2.2.1
theorem dX11_likeliest_29 : decode cX11_likeliest 29 = .ok (.getfield 51, 3) := fp_hdX11_likeliest_0.1.1.2.2.2.2
theorem dX11_likeliest_32 : decode cX11_likeliest 32 = .ok (.aload_n 0, 1) := fp_hdX11_likeliest_0.1.2.1.1.1.1
theorem dX11_likeliest_33 : decode cX11_likeliest 33 = .ok (.getfield 23, 3) := fp_hdX11_likeliest_0.1.2.1.1.1.2
theorem dX11_likeliest_36 : decode cX11_likeliest 36 = .ok (.aload_n 0, 1) := fp_hdX11_likeliest_0.1.2.1.1.2.1
theorem dX11_likeliest_37 : decode cX11_likeliest 37 = .ok (.getfield 37, 3) := fp_hdX11_likeliest_0.1.2.1.1.2.2
theorem dX11_likeliest_40 : decode cX11_likeliest 40 = .ok (.aload_n 0, 1) := fp_hdX11_likeliest_0.1.2.1.2.1.1
theorem dX11_likeliest_41 : decode cX11_likeliest 41 = .ok (.getfield 30, 3) := fp_hdX11_likeliest_0.1.2.1.2.1.2
theorem dX11_likeliest_44 : decode cX11_likeliest 44 = .ok (.iload_n 1, 1) := fp_hdX11_likeliest_0.1.2.1.2.2.1
theorem dX11_likeliest_45 : decode cX11_likeliest 45 = .ok (.invokevirtual 256, 3) := fp_hdX11_likeliest_0.1.2.1.2.2.2
theorem dX11_likeliest_48 : decode cX11_likeliest 48 = .ok (.pop2, 1) := fp_hdX11_likeliest_0.1.2.2.1.1.1
theorem dX11_likeliest_49 : decode cX11_likeliest 49 = .ok (.lconst 0, 1) := fp_hdX11_likeliest_0.1.2.2.1.1.2
theorem dX11_likeliest_50 : decode cX11_likeliest 50 = .ok (.lstore_n 2, 1) := fp_hdX11_likeliest_0.1.2.2.1.2.1
theorem dX11_likeliest_51 : decode cX11_likeliest 51 = .ok (.bipush (-4), 2) := fp_hdX11_likeliest_0.1.2.2.1.2.2
theorem dX11_likeliest_53 : decode cX11_likeliest 53 = .ok (.istore 4, 2) := fp_hdX11_likeliest_0.1.2.2.2.1.1
theorem dX11_likeliest_55 : decode cX11_likeliest 55 = .ok (.iconst 0, 1) := fp_hdX11_likeliest_0.1.2.2.2.1.2
theorem dX11_likeliest_56 : decode cX11_likeliest 56 = .ok (.istore 5, 2) := fp_hdX11_likeliest_0.1.2.2.2.2.1
theorem dX11_likeliest_58 : decode cX11_likeliest 58 = .ok (.iload 5, 2) := fp_hdX11_likeliest_0.1.2.2.2.2.2
theorem fp_hdX11_likeliest_60 : (((((decode cX11_likeliest 60 = .ok (.aload_n 0, 1) ∧ decode cX11_likeliest 61 = .ok (.getfield 23, 3)) ∧ decode cX11_likeliest 64 = .ok (.getfield 268, 3)) ∧ ((decode cX11_likeliest 67 = .ok (.if_icmp .ge 39, 3) ∧ decode cX11_likeliest 70 = .ok (.aload_n 0, 1)) ∧ decode cX11_likeliest 71 = .ok (.getfield 51, 3))) ∧ (((decode cX11_likeliest 74 = .ok (.getfield 260, 3) ∧ decode cX11_likeliest 77 = .ok (.iload 5, 2)) ∧ decode cX11_likeliest 79 = .ok (.laload, 1)) ∧ ((decode cX11_likeliest 80 = .ok (.lload_n 2, 1) ∧ decode cX11_likeliest 81 = .ok (.lcmp, 1)) ∧ decode cX11_likeliest 82 = .ok (.ifCond .le 18, 3)))) ∧ ((((decode cX11_likeliest 85 = .ok (.aload_n 0, 1) ∧ decode cX11_likeliest 86 = .ok (.getfield 51, 3)) ∧ decode cX11_likeliest 89 = .ok (.getfield 260, 3)) ∧ ((decode cX11_likeliest 92 = .ok (.iload 5, 2) ∧ decode cX11_likeliest 94 = .ok (.laload, 1)) ∧ decode cX11_likeliest 95 = .ok (.lstore_n 2, 1))) ∧ (((decode cX11_likeliest 96 = .ok (.iload 5, 2) ∧ decode cX11_likeliest 98 = .ok (.istore 4, 2)) ∧ decode cX11_likeliest 100 = .ok (.iinc 5 1, 3)) ∧ ((decode cX11_likeliest 103 = .ok (.goto (-45), 3) ∧ decode cX11_likeliest 106 = .ok (.iload 4, 2)) ∧ decode cX11_likeliest 108 = .ok (.ireturn, 1))))) ∧ bA cX11_likeliest 109 [] :=
  have q0 := fp_o42 fp_hdX11_likeliest_0.2
  have q1 := fp_o180 (v := 23) q0.2 rfl
  have q2 := fp_o180 (v := 268) q1.2 rfl
  have q3 := fp_o162 (v := 39) q2.2 rfl
  have q4 := fp_o42 q3.2
  have q5 := fp_o180 (v := 51) q4.2 rfl
  have q6 := fp_o180 (v := 260) q5.2 rfl
  have q7 := fp_o21 q6.2
  have q8 := fp_o47 q7.2
  have q9 := fp_o32 q8.2
  have q10 := fp_o148 q9.2
  have q11 := fp_o158 (v := 18) q10.2 rfl
  have q12 := fp_o42 q11.2
  have q13 := fp_o180 (v := 51) q12.2 rfl
  have q14 := fp_o180 (v := 260) q13.2 rfl
  have q15 := fp_o21 q14.2
  have q16 := fp_o47 q15.2
  have q17 := fp_o65 q16.2
  have q18 := fp_o21 q17.2
  have q19 := fp_o54 q18.2
  have q20 := fp_o132 (v := 1) q19.2 rfl
  have q21 := fp_o167 (v := (-45)) q20.2 rfl
  have q22 := fp_o21 q21.2
  have q23 := fp_o172 q22.2
  ⟨⟨⟨⟨⟨⟨q0.1, q1.1⟩, q2.1⟩, ⟨⟨q3.1, q4.1⟩, q5.1⟩⟩, ⟨⟨⟨q6.1, q7.1⟩, q8.1⟩, ⟨⟨q9.1, q10.1⟩, q11.1⟩⟩⟩, ⟨⟨⟨⟨q12.1, q13.1⟩, q14.1⟩, ⟨⟨q15.1, q16.1⟩, q17.1⟩⟩, ⟨⟨⟨q18.1, q19.1⟩, q20.1⟩, ⟨⟨q21.1, q22.1⟩, q23.1⟩⟩⟩⟩, q23.2⟩
theorem dX11_likeliest_60 : decode cX11_likeliest 60 = .ok (.aload_n 0, 1) := fp_hdX11_likeliest_60.1.1.1.1.1.1
theorem dX11_likeliest_61 : decode cX11_likeliest 61 = .ok (.getfield 23, 3) := fp_hdX11_likeliest_60.1.1.1.1.1.2
theorem dX11_likeliest_64 : decode cX11_likeliest 64 = .ok (.getfield 268, 3) := fp_hdX11_likeliest_60.1.1.1.1.2
theorem dX11_likeliest_67 : decode cX11_likeliest 67 = .ok (.if_icmp .ge 39, 3) := fp_hdX11_likeliest_60.1.1.1.2.1.1
theorem dX11_likeliest_70 : decode cX11_likeliest 70 = .ok (.aload_n 0, 1) := fp_hdX11_likeliest_60.1.1.1.2.1.2
theorem dX11_likeliest_71 : decode cX11_likeliest 71 = .ok (.getfield 51, 3) := fp_hdX11_likeliest_60.1.1.1.2.2
theorem dX11_likeliest_74 : decode cX11_likeliest 74 = .ok (.getfield 260, 3) := fp_hdX11_likeliest_60.1.1.2.1.1.1
theorem dX11_likeliest_77 : decode cX11_likeliest 77 = .ok (.iload 5, 2) := fp_hdX11_likeliest_60.1.1.2.1.1.2
theorem dX11_likeliest_79 : decode cX11_likeliest 79 = .ok (.laload, 1) := fp_hdX11_likeliest_60.1.1.2.1.2
theorem dX11_likeliest_80 : decode cX11_likeliest 80 = .ok (.lload_n 2, 1) := fp_hdX11_likeliest_60.1.1.2.2.1.1
theorem dX11_likeliest_81 : decode cX11_likeliest 81 = .ok (.lcmp, 1) := fp_hdX11_likeliest_60.1.1.2.2.1.2
theorem dX11_likeliest_82 : decode cX11_likeliest 82 = .ok (.ifCond .le 18, 3) := fp_hdX11_likeliest_60.1.1.2.2.2
theorem dX11_likeliest_85 : decode cX11_likeliest 85 = .ok (.aload_n 0, 1) := fp_hdX11_likeliest_60.1.2.1.1.1.1
theorem dX11_likeliest_86 : decode cX11_likeliest 86 = .ok (.getfield 51, 3) := fp_hdX11_likeliest_60.1.2.1.1.1.2
theorem dX11_likeliest_89 : decode cX11_likeliest 89 = .ok (.getfield 260, 3) := fp_hdX11_likeliest_60.1.2.1.1.2
theorem dX11_likeliest_92 : decode cX11_likeliest 92 = .ok (.iload 5, 2) := fp_hdX11_likeliest_60.1.2.1.2.1.1
theorem dX11_likeliest_94 : decode cX11_likeliest 94 = .ok (.laload, 1) := fp_hdX11_likeliest_60.1.2.1.2.1.2
theorem dX11_likeliest_95 : decode cX11_likeliest 95 = .ok (.lstore_n 2, 1) := fp_hdX11_likeliest_60.1.2.1.2.2
theorem dX11_likeliest_96 : decode cX11_likeliest 96 = .ok (.iload 5, 2) := fp_hdX11_likeliest_60.1.2.2.1.1.1
theorem dX11_likeliest_98 : decode cX11_likeliest 98 = .ok (.istore 4, 2) := fp_hdX11_likeliest_60.1.2.2.1.1.2
theorem dX11_likeliest_100 : decode cX11_likeliest 100 = .ok (.iinc 5 1, 3) := fp_hdX11_likeliest_60.1.2.2.1.2
theorem dX11_likeliest_103 : decode cX11_likeliest 103 = .ok (.goto (-45), 3) := fp_hdX11_likeliest_60.1.2.2.2.1.1
theorem dX11_likeliest_106 : decode cX11_likeliest 106 = .ok (.iload 4, 2) := fp_hdX11_likeliest_60.1.2.2.2.1.2
theorem dX11_likeliest_108 : decode cX11_likeliest 108 = .ok (.ireturn, 1) := fp_hdX11_likeliest_60.1.2.2.2.2
def fp_scX11_duel_1 : List Nat := 42 :: 180 :: 0 :: 58 :: 42 :: 180 :: 0 :: 30 :: 27 :: 28 :: 29 :: 21 :: 4 :: 21 :: 5 :: 182 :: 1 :: 15 :: 42 :: 180 :: 0 :: 58 :: 42 :: 180 :: 0 :: 23 :: 42 :: 180 :: 0 :: 23 :: 180 :: 0 :: 156 :: 27 :: 46 :: 182 :: 1 :: 19 :: 54 :: 7 :: 21 :: 6 :: 154 :: 0 :: 12 :: 21 :: 7 :: 17 :: 3 :: 232 :: 96 :: 167 :: 0 :: 10 :: 42 :: 180 :: 0 :: 58 :: 180 :: 1 :: 22 :: 172 :: []
def fp_scX11_duel_0 : List Nat := 42 :: 180 :: 0 :: 23 :: 27 :: 182 :: 0 :: 148 :: 153 :: 0 :: 22 :: 28 :: 184 :: 0 :: 181 :: 153 :: 0 :: 15 :: 29 :: 184 :: 0 :: 181 :: 153 :: 0 :: 8 :: 28 :: 29 :: 160 :: 0 :: 5 :: 2 :: 172 :: 21 :: 4 :: 5 :: 184 :: 0 :: 221 :: 153 :: 0 :: 25 :: 21 :: 5 :: 4 :: 161 :: 0 :: 19 :: 21 :: 5 :: 16 :: 6 :: 163 :: 0 :: 12 :: 21 :: 6 :: 4 :: 184 :: 0 :: 221 :: 154 :: 0 :: 5 :: 2 :: 172 :: fp_scX11_duel_1
theorem fp_bcX11_duel : bA cX11_duel 0 fp_scX11_duel_0 := show cX11_duel.data.toList.map UInt8.toNat = fp_scX11_duel_0 from by decide +kernel
theorem fp_hdX11_duel_0 : (((((decode cX11_duel 0 = .ok (.aload_n 0, 1) ∧ decode cX11_duel 1 = .ok (.getfield 23, 3)) ∧ (decode cX11_duel 4 = .ok (.iload_n 1, 1) ∧ decode cX11_duel 5 = .ok (.invokevirtual 148, 3))) ∧ ((decode cX11_duel 8 = .ok (.ifCond .eq 22, 3) ∧ decode cX11_duel 11 = .ok (.iload_n 2, 1)) ∧ (decode cX11_duel 12 = .ok (.invokestatic 181, 3) ∧ decode cX11_duel 15 = .ok (.ifCond .eq 15, 3)))) ∧ (((decode cX11_duel 18 = .ok (.iload_n 3, 1) ∧ decode cX11_duel 19 = .ok (.invokestatic 181, 3)) ∧ (decode cX11_duel 22 = .ok (.ifCond .eq 8, 3) ∧ decode cX11_duel 25 = .ok (.iload_n 2, 1))) ∧ ((decode cX11_duel 26 = .ok (.iload_n 3, 1) ∧ decode cX11_duel 27 = .ok (.if_icmp .ne 5, 3)) ∧ (decode cX11_duel 30 = .ok (.iconst (-1), 1) ∧ decode cX11_duel 31 = .ok (.ireturn, 1))))) ∧ ((((decode cX11_duel 32 = .ok (.iload 4, 2) ∧ decode cX11_duel 34 = .ok (.iconst 2, 1)) ∧ (decode cX11_duel 35 = .ok (.invokestatic 221, 3) ∧ decode cX11_duel 38 = .ok (.ifCond .eq 25, 3))) ∧ ((decode cX11_duel 41 = .ok (.iload 5, 2) ∧ decode cX11_duel 43 = .ok (.iconst 1, 1)) ∧ (decode cX11_duel 44 = .ok (.if_icmp .lt 19, 3) ∧ decode cX11_duel 47 = .ok (.iload 5, 2)))) ∧ (((decode cX11_duel 49 = .ok (.bipush 6, 2) ∧ decode cX11_duel 51 = .ok (.if_icmp .gt 12, 3)) ∧ (decode cX11_duel 54 = .ok (.iload 6, 2) ∧ decode cX11_duel 56 = .ok (.iconst 1, 1))) ∧ ((decode cX11_duel 57 = .ok (.invokestatic 221, 3) ∧ decode cX11_duel 60 = .ok (.ifCond .ne 5, 3)) ∧ (decode cX11_duel 63 = .ok (.iconst (-1), 1) ∧ decode cX11_duel 64 = .ok (.ireturn, 1)))))) ∧ bA cX11_duel 65 fp_scX11_duel_1 :=
  have q0 := fp_o42 fp_bcX11_duel
  have q1 := fp_o180 (v := 23) q0.2 rfl
  have q2 := fp_o27 q1.2
  have q3 := fp_o182 (v := 148) q2.2 rfl
  have q4 := fp_o153 (v := 22) q3.2 rfl
  have q5 := fp_o28 q4.2
  have q6 := fp_o184 (v := 181) q5.2 rfl
  have q7 := fp_o153 (v := 15) q6.2 rfl
  have q8 := fp_o29 q7.2
  have q9 := fp_o184 (v := 181) q8.2 rfl
  have q10 := fp_o153 (v := 8) q9.2 rfl
  have q11 := fp_o28 q10.2
  have q12 := fp_o29 q11.2
  have q13 := fp_o160 (v := 5) q12.2 rfl
  have q14 := fp_o2 q13.2
  have q15 := fp_o172 q14.2
  have q16 := fp_o21 q15.2
  have q17 := fp_o5 q16.2
  have q18 := fp_o184 (v := 221) q17.2 rfl
  have q19 := fp_o153 (v := 25) q18.2 rfl
  have q20 := fp_o21 q19.2
  have q21 := fp_o4 q20.2
  have q22 := fp_o161 (v := 19) q21.2 rfl
  have q23 := fp_o21 q22.2
  have q24 := fp_o16 (v := 6) q23.2 rfl
  have q25 := fp_o163 (v := 12) q24.2 rfl
  have q26 := fp_o21 q25.2
  have q27 := fp_o4 q26.2
  have q28 := fp_o184 (v := 221) q27.2 rfl
  have q29 := fp_o154 (v := 5) q28.2 rfl
  have q30 := fp_o2 q29.2
  have q31 := fp_o172 q30.2
  ⟨⟨⟨⟨⟨⟨q0.1, q1.1⟩, ⟨q2.1, q3.1⟩⟩, ⟨⟨q4.1, q5.1⟩, ⟨q6.1, q7.1⟩⟩⟩, ⟨⟨⟨q8.1, q9.1⟩, ⟨q10.1, q11.1⟩⟩, ⟨⟨q12.1, q13.1⟩, ⟨q14.1, q15.1⟩⟩⟩⟩, ⟨⟨⟨⟨q16.1, q17.1⟩, ⟨q18.1, q19.1⟩⟩, ⟨⟨q20.1, q21.1⟩, ⟨q22.1, q23.1⟩⟩⟩, ⟨⟨⟨q24.1, q25.1⟩, ⟨q26.1, q27.1⟩⟩, ⟨⟨q28.1, q29.1⟩, ⟨q30.1, q31.1⟩⟩⟩⟩⟩, q31.2⟩
theorem dX11_duel_0 : decode cX11_duel 0 = .ok (.aload_n 0, 1) := fp_hdX11_duel_0.1.1.1.1.1.1
theorem dX11_duel_1 : decode cX11_duel 1 = .ok (.getfield 23, 3) := fp_hdX11_duel_0.1.1.1.1.1.2
theorem dX11_duel_4 : decode cX11_duel 4 = .ok (.iload_n 1, 1) := fp_hdX11_duel_0.1.1.1.1.2.1
theorem dX11_duel_5 : decode cX11_duel 5 = .ok (.invokevirtual 148, 3) := fp_hdX11_duel_0.1.1.1.1.2.2
theorem dX11_duel_8 : decode cX11_duel 8 = .ok (.ifCond .eq 22, 3) := fp_hdX11_duel_0.1.1.1.2.1.1
theorem dX11_duel_11 : decode cX11_duel 11 = .ok (.iload_n 2, 1) := fp_hdX11_duel_0.1.1.1.2.1.2
theorem dX11_duel_12 : decode cX11_duel 12 = .ok (.invokestatic 181, 3) := fp_hdX11_duel_0.1.1.1.2.2.1
theorem dX11_duel_15 : decode cX11_duel 15 = .ok (.ifCond .eq 15, 3) := fp_hdX11_duel_0.1.1.1.2.2.2
theorem dX11_duel_18 : decode cX11_duel 18 = .ok (.iload_n 3, 1) := fp_hdX11_duel_0.1.1.2.1.1.1
theorem dX11_duel_19 : decode cX11_duel 19 = .ok (.invokestatic 181, 3) := fp_hdX11_duel_0.1.1.2.1.1.2
theorem dX11_duel_22 : decode cX11_duel 22 = .ok (.ifCond .eq 8, 3) := fp_hdX11_duel_0.1.1.2.1.2.1
theorem dX11_duel_25 : decode cX11_duel 25 = .ok (.iload_n 2, 1) := fp_hdX11_duel_0.1.1.2.1.2.2
theorem dX11_duel_26 : decode cX11_duel 26 = .ok (.iload_n 3, 1) := fp_hdX11_duel_0.1.1.2.2.1.1
theorem dX11_duel_27 : decode cX11_duel 27 = .ok (.if_icmp .ne 5, 3) := fp_hdX11_duel_0.1.1.2.2.1.2
theorem dX11_duel_30 : decode cX11_duel 30 = .ok (.iconst (-1), 1) := fp_hdX11_duel_0.1.1.2.2.2.1
theorem dX11_duel_31 : decode cX11_duel 31 = .ok (.ireturn, 1) := fp_hdX11_duel_0.1.1.2.2.2.2
theorem dX11_duel_32 : decode cX11_duel 32 = .ok (.iload 4, 2) := fp_hdX11_duel_0.1.2.1.1.1.1
theorem dX11_duel_34 : decode cX11_duel 34 = .ok (.iconst 2, 1) := fp_hdX11_duel_0.1.2.1.1.1.2
theorem dX11_duel_35 : decode cX11_duel 35 = .ok (.invokestatic 221, 3) := fp_hdX11_duel_0.1.2.1.1.2.1
theorem dX11_duel_38 : decode cX11_duel 38 = .ok (.ifCond .eq 25, 3) := fp_hdX11_duel_0.1.2.1.1.2.2
theorem dX11_duel_41 : decode cX11_duel 41 = .ok (.iload 5, 2) := fp_hdX11_duel_0.1.2.1.2.1.1
theorem dX11_duel_43 : decode cX11_duel 43 = .ok (.iconst 1, 1) := fp_hdX11_duel_0.1.2.1.2.1.2
theorem dX11_duel_44 : decode cX11_duel 44 = .ok (.if_icmp .lt 19, 3) := fp_hdX11_duel_0.1.2.1.2.2.1
theorem dX11_duel_47 : decode cX11_duel 47 = .ok (.iload 5, 2) := fp_hdX11_duel_0.1.2.1.2.2.2
theorem dX11_duel_49 : decode cX11_duel 49 = .ok (.bipush 6, 2) := fp_hdX11_duel_0.1.2.2.1.1.1
theorem dX11_duel_51 : decode cX11_duel 51 = .ok (.if_icmp .gt 12, 3) := fp_hdX11_duel_0.1.2.2.1.1.2
theorem dX11_duel_54 : decode cX11_duel 54 = .ok (.iload 6, 2) := fp_hdX11_duel_0.1.2.2.1.2.1
theorem dX11_duel_56 : decode cX11_duel 56 = .ok (.iconst 1, 1) := fp_hdX11_duel_0.1.2.2.1.2.2
theorem dX11_duel_57 : decode cX11_duel 57 = .ok (.invokestatic 221, 3) := fp_hdX11_duel_0.1.2.2.2.1.1
theorem dX11_duel_60 : decode cX11_duel 60 = .ok (.ifCond .ne 5, 3) := fp_hdX11_duel_0.1.2.2.2.1.2
theorem dX11_duel_63 : decode cX11_duel 63 = .ok (.iconst (-1), 1) := fp_hdX11_duel_0.1.2.2.2.2.1
theorem dX11_duel_64 : decode cX11_duel 64 = .ok (.ireturn, 1) := fp_hdX11_duel_0.1.2.2.2.2.2
theorem fp_hdX11_duel_65 : (((((decode cX11_duel 65 = .ok (.aload_n 0, 1) ∧ decode cX11_duel 66 = .ok (.getfield 58, 3)) ∧ (decode cX11_duel 69 = .ok (.aload_n 0, 1) ∧ decode cX11_duel 70 = .ok (.getfield 30, 3))) ∧ ((decode cX11_duel 73 = .ok (.iload_n 1, 1) ∧ decode cX11_duel 74 = .ok (.iload_n 2, 1)) ∧ (decode cX11_duel 75 = .ok (.iload_n 3, 1) ∧ decode cX11_duel 76 = .ok (.iload 4, 2)))) ∧ (((decode cX11_duel 78 = .ok (.iload 5, 2) ∧ decode cX11_duel 80 = .ok (.invokevirtual 271, 3)) ∧ (decode cX11_duel 83 = .ok (.aload_n 0, 1) ∧ decode cX11_duel 84 = .ok (.getfield 58, 3))) ∧ ((decode cX11_duel 87 = .ok (.aload_n 0, 1) ∧ decode cX11_duel 88 = .ok (.getfield 23, 3)) ∧ (decode cX11_duel 91 = .ok (.aload_n 0, 1) ∧ decode cX11_duel 92 = .ok (.getfield 23, 3))))) ∧ ((((decode cX11_duel 95 = .ok (.getfield 156, 3) ∧ decode cX11_duel 98 = .ok (.iload_n 1, 1)) ∧ (decode cX11_duel 99 = .ok (.iaload, 1) ∧ decode cX11_duel 100 = .ok (.invokevirtual 275, 3))) ∧ ((decode cX11_duel 103 = .ok (.istore 7, 2) ∧ decode cX11_duel 105 = .ok (.iload 6, 2)) ∧ (decode cX11_duel 107 = .ok (.ifCond .ne 12, 3) ∧ decode cX11_duel 110 = .ok (.iload 7, 2)))) ∧ (((decode cX11_duel 112 = .ok (.sipush 1000, 3) ∧ decode cX11_duel 115 = .ok (.iadd, 1)) ∧ (decode cX11_duel 116 = .ok (.goto 10, 3) ∧ decode cX11_duel 119 = .ok (.aload_n 0, 1))) ∧ ((decode cX11_duel 120 = .ok (.getfield 58, 3) ∧ decode cX11_duel 123 = .ok (.getfield 278, 3)) ∧ decode cX11_duel 126 = .ok (.ireturn, 1))))) ∧ bA cX11_duel 127 [] :=
  have q0 := fp_o42 fp_hdX11_duel_0.2
  have q1 := fp_o180 (v := 58) q0.2 rfl
  have q2 := fp_o42 q1.2
  have q3 := fp_o180 (v := 30) q2.2 rfl
  have q4 := fp_o27 q3.2
  have q5 := fp_o28 q4.2
  have q6 := fp_o29 q5.2
  have q7 := fp_o21 q6.2
  have q8 := fp_o21 q7.2
  have q9 := fp_o182 (v := 271) q8.2 rfl
  have q10 := fp_o42 q9.2
  have q11 := fp_o180 (v := 58) q10.2 rfl
  have q12 := fp_o42 q11.2
  have q13 := fp_o180 (v := 23) q12.2 rfl
  have q14 := fp_o42 q13.2
  have q15 := fp_o180 (v := 23) q14.2 rfl
  have q16 := fp_o180 (v := 156) q15.2 rfl
  have q17 := fp_o27 q16.2
  have q18 := fp_o46 q17.2
  have q19 := fp_o182 (v := 275) q18.2 rfl
  have q20 := fp_o54 q19.2
  have q21 := fp_o21 q20.2
  have q22 := fp_o154 (v := 12) q21.2 rfl
  have q23 := fp_o21 q22.2
  have q24 := fp_o17 (v := 1000) q23.2 rfl
  have q25 := fp_o96 q24.2
  have q26 := fp_o167 (v := 10) q25.2 rfl
  have q27 := fp_o42 q26.2
  have q28 := fp_o180 (v := 58) q27.2 rfl
  have q29 := fp_o180 (v := 278) q28.2 rfl
  have q30 := fp_o172 q29.2
  ⟨⟨⟨⟨⟨⟨q0.1, q1.1⟩, ⟨q2.1, q3.1⟩⟩, ⟨⟨q4.1, q5.1⟩, ⟨q6.1, q7.1⟩⟩⟩, ⟨⟨⟨q8.1, q9.1⟩, ⟨q10.1, q11.1⟩⟩, ⟨⟨q12.1, q13.1⟩, ⟨q14.1, q15.1⟩⟩⟩⟩, ⟨⟨⟨⟨q16.1, q17.1⟩, ⟨q18.1, q19.1⟩⟩, ⟨⟨q20.1, q21.1⟩, ⟨q22.1, q23.1⟩⟩⟩, ⟨⟨⟨q24.1, q25.1⟩, ⟨q26.1, q27.1⟩⟩, ⟨⟨q28.1, q29.1⟩, q30.1⟩⟩⟩⟩, q30.2⟩
theorem dX11_duel_65 : decode cX11_duel 65 = .ok (.aload_n 0, 1) := fp_hdX11_duel_65.1.1.1.1.1.1
theorem dX11_duel_66 : decode cX11_duel 66 = .ok (.getfield 58, 3) := fp_hdX11_duel_65.1.1.1.1.1.2
theorem dX11_duel_69 : decode cX11_duel 69 = .ok (.aload_n 0, 1) := fp_hdX11_duel_65.1.1.1.1.2.1
theorem dX11_duel_70 : decode cX11_duel 70 = .ok (.getfield 30, 3) := fp_hdX11_duel_65.1.1.1.1.2.2
theorem dX11_duel_73 : decode cX11_duel 73 = .ok (.iload_n 1, 1) := fp_hdX11_duel_65.1.1.1.2.1.1
theorem dX11_duel_74 : decode cX11_duel 74 = .ok (.iload_n 2, 1) := fp_hdX11_duel_65.1.1.1.2.1.2
theorem dX11_duel_75 : decode cX11_duel 75 = .ok (.iload_n 3, 1) := fp_hdX11_duel_65.1.1.1.2.2.1
theorem dX11_duel_76 : decode cX11_duel 76 = .ok (.iload 4, 2) := fp_hdX11_duel_65.1.1.1.2.2.2
theorem dX11_duel_78 : decode cX11_duel 78 = .ok (.iload 5, 2) := fp_hdX11_duel_65.1.1.2.1.1.1
theorem dX11_duel_80 : decode cX11_duel 80 = .ok (.invokevirtual 271, 3) := fp_hdX11_duel_65.1.1.2.1.1.2
theorem dX11_duel_83 : decode cX11_duel 83 = .ok (.aload_n 0, 1) := fp_hdX11_duel_65.1.1.2.1.2.1
theorem dX11_duel_84 : decode cX11_duel 84 = .ok (.getfield 58, 3) := fp_hdX11_duel_65.1.1.2.1.2.2
theorem dX11_duel_87 : decode cX11_duel 87 = .ok (.aload_n 0, 1) := fp_hdX11_duel_65.1.1.2.2.1.1
theorem dX11_duel_88 : decode cX11_duel 88 = .ok (.getfield 23, 3) := fp_hdX11_duel_65.1.1.2.2.1.2
theorem dX11_duel_91 : decode cX11_duel 91 = .ok (.aload_n 0, 1) := fp_hdX11_duel_65.1.1.2.2.2.1
theorem dX11_duel_92 : decode cX11_duel 92 = .ok (.getfield 23, 3) := fp_hdX11_duel_65.1.1.2.2.2.2
theorem dX11_duel_95 : decode cX11_duel 95 = .ok (.getfield 156, 3) := fp_hdX11_duel_65.1.2.1.1.1.1
theorem dX11_duel_98 : decode cX11_duel 98 = .ok (.iload_n 1, 1) := fp_hdX11_duel_65.1.2.1.1.1.2
theorem dX11_duel_99 : decode cX11_duel 99 = .ok (.iaload, 1) := fp_hdX11_duel_65.1.2.1.1.2.1
theorem dX11_duel_100 : decode cX11_duel 100 = .ok (.invokevirtual 275, 3) := fp_hdX11_duel_65.1.2.1.1.2.2
theorem dX11_duel_103 : decode cX11_duel 103 = .ok (.istore 7, 2) := fp_hdX11_duel_65.1.2.1.2.1.1
theorem dX11_duel_105 : decode cX11_duel 105 = .ok (.iload 6, 2) := fp_hdX11_duel_65.1.2.1.2.1.2
theorem dX11_duel_107 : decode cX11_duel 107 = .ok (.ifCond .ne 12, 3) := fp_hdX11_duel_65.1.2.1.2.2.1
theorem dX11_duel_110 : decode cX11_duel 110 = .ok (.iload 7, 2) := fp_hdX11_duel_65.1.2.1.2.2.2
theorem dX11_duel_112 : decode cX11_duel 112 = .ok (.sipush 1000, 3) := fp_hdX11_duel_65.1.2.2.1.1.1
theorem dX11_duel_115 : decode cX11_duel 115 = .ok (.iadd, 1) := fp_hdX11_duel_65.1.2.2.1.1.2
theorem dX11_duel_116 : decode cX11_duel 116 = .ok (.goto 10, 3) := fp_hdX11_duel_65.1.2.2.1.2.1
theorem dX11_duel_119 : decode cX11_duel 119 = .ok (.aload_n 0, 1) := fp_hdX11_duel_65.1.2.2.1.2.2
theorem dX11_duel_120 : decode cX11_duel 120 = .ok (.getfield 58, 3) := fp_hdX11_duel_65.1.2.2.2.1.1
theorem dX11_duel_123 : decode cX11_duel 123 = .ok (.getfield 278, 3) := fp_hdX11_duel_65.1.2.2.2.1.2
theorem dX11_duel_126 : decode cX11_duel 126 = .ok (.ireturn, 1) := fp_hdX11_duel_65.1.2.2.2.2
def fp_scX11_noted_0 : List Nat := 42 :: 180 :: 0 :: 23 :: 27 :: 182 :: 0 :: 126 :: 154 :: 0 :: 5 :: 2 :: 172 :: 42 :: 180 :: 0 :: 44 :: 27 :: 182 :: 1 :: 25 :: 16 :: 252 :: 159 :: 0 :: 6 :: 16 :: 254 :: 172 :: 42 :: 180 :: 0 :: 44 :: 27 :: 182 :: 1 :: 26 :: 153 :: 0 :: 13 :: 42 :: 180 :: 0 :: 44 :: 180 :: 0 :: 119 :: 167 :: 0 :: 5 :: 16 :: 253 :: 172 :: []
theorem fp_bcX11_noted : bA cX11_noted 0 fp_scX11_noted_0 := show cX11_noted.data.toList.map UInt8.toNat = fp_scX11_noted_0 from by decide +kernel
theorem fp_hdX11_noted_0 : (((((decode cX11_noted 0 = .ok (.aload_n 0, 1) ∧ decode cX11_noted 1 = .ok (.getfield 23, 3)) ∧ (decode cX11_noted 4 = .ok (.iload_n 1, 1) ∧ decode cX11_noted 5 = .ok (.invokevirtual 126, 3))) ∧ ((decode cX11_noted 8 = .ok (.ifCond .ne 5, 3) ∧ decode cX11_noted 11 = .ok (.iconst (-1), 1)) ∧ decode cX11_noted 12 = .ok (.ireturn, 1))) ∧ (((decode cX11_noted 13 = .ok (.aload_n 0, 1) ∧ decode cX11_noted 14 = .ok (.getfield 44, 3)) ∧ decode cX11_noted 17 = .ok (.iload_n 1, 1)) ∧ ((decode cX11_noted 18 = .ok (.invokevirtual 281, 3) ∧ decode cX11_noted 21 = .ok (.bipush (-4), 2)) ∧ decode cX11_noted 23 = .ok (.if_icmp .eq 6, 3)))) ∧ ((((decode cX11_noted 26 = .ok (.bipush (-2), 2) ∧ decode cX11_noted 28 = .ok (.ireturn, 1)) ∧ (decode cX11_noted 29 = .ok (.aload_n 0, 1) ∧ decode cX11_noted 30 = .ok (.getfield 44, 3))) ∧ ((decode cX11_noted 33 = .ok (.iload_n 1, 1) ∧ decode cX11_noted 34 = .ok (.invokevirtual 282, 3)) ∧ decode cX11_noted 37 = .ok (.ifCond .eq 13, 3))) ∧ (((decode cX11_noted 40 = .ok (.aload_n 0, 1) ∧ decode cX11_noted 41 = .ok (.getfield 44, 3)) ∧ decode cX11_noted 44 = .ok (.getfield 119, 3)) ∧ ((decode cX11_noted 47 = .ok (.goto 5, 3) ∧ decode cX11_noted 50 = .ok (.bipush (-3), 2)) ∧ decode cX11_noted 52 = .ok (.ireturn, 1))))) ∧ bA cX11_noted 53 [] :=
  have q0 := fp_o42 fp_bcX11_noted
  have q1 := fp_o180 (v := 23) q0.2 rfl
  have q2 := fp_o27 q1.2
  have q3 := fp_o182 (v := 126) q2.2 rfl
  have q4 := fp_o154 (v := 5) q3.2 rfl
  have q5 := fp_o2 q4.2
  have q6 := fp_o172 q5.2
  have q7 := fp_o42 q6.2
  have q8 := fp_o180 (v := 44) q7.2 rfl
  have q9 := fp_o27 q8.2
  have q10 := fp_o182 (v := 281) q9.2 rfl
  have q11 := fp_o16 (v := (-4)) q10.2 rfl
  have q12 := fp_o159 (v := 6) q11.2 rfl
  have q13 := fp_o16 (v := (-2)) q12.2 rfl
  have q14 := fp_o172 q13.2
  have q15 := fp_o42 q14.2
  have q16 := fp_o180 (v := 44) q15.2 rfl
  have q17 := fp_o27 q16.2
  have q18 := fp_o182 (v := 282) q17.2 rfl
  have q19 := fp_o153 (v := 13) q18.2 rfl
  have q20 := fp_o42 q19.2
  have q21 := fp_o180 (v := 44) q20.2 rfl
  have q22 := fp_o180 (v := 119) q21.2 rfl
  have q23 := fp_o167 (v := 5) q22.2 rfl
  have q24 := fp_o16 (v := (-3)) q23.2 rfl
  have q25 := fp_o172 q24.2
  ⟨⟨⟨⟨⟨⟨q0.1, q1.1⟩, ⟨q2.1, q3.1⟩⟩, ⟨⟨q4.1, q5.1⟩, q6.1⟩⟩, ⟨⟨⟨q7.1, q8.1⟩, q9.1⟩, ⟨⟨q10.1, q11.1⟩, q12.1⟩⟩⟩, ⟨⟨⟨⟨q13.1, q14.1⟩, ⟨q15.1, q16.1⟩⟩, ⟨⟨q17.1, q18.1⟩, q19.1⟩⟩, ⟨⟨⟨q20.1, q21.1⟩, q22.1⟩, ⟨⟨q23.1, q24.1⟩, q25.1⟩⟩⟩⟩, q25.2⟩
theorem dX11_noted_0 : decode cX11_noted 0 = .ok (.aload_n 0, 1) := fp_hdX11_noted_0.1.1.1.1.1.1
theorem dX11_noted_1 : decode cX11_noted 1 = .ok (.getfield 23, 3) := fp_hdX11_noted_0.1.1.1.1.1.2
theorem dX11_noted_4 : decode cX11_noted 4 = .ok (.iload_n 1, 1) := fp_hdX11_noted_0.1.1.1.1.2.1
theorem dX11_noted_5 : decode cX11_noted 5 = .ok (.invokevirtual 126, 3) := fp_hdX11_noted_0.1.1.1.1.2.2
theorem dX11_noted_8 : decode cX11_noted 8 = .ok (.ifCond .ne 5, 3) := fp_hdX11_noted_0.1.1.1.2.1.1
theorem dX11_noted_11 : decode cX11_noted 11 = .ok (.iconst (-1), 1) := fp_hdX11_noted_0.1.1.1.2.1.2
theorem dX11_noted_12 : decode cX11_noted 12 = .ok (.ireturn, 1) := fp_hdX11_noted_0.1.1.1.2.2
theorem dX11_noted_13 : decode cX11_noted 13 = .ok (.aload_n 0, 1) := fp_hdX11_noted_0.1.1.2.1.1.1
theorem dX11_noted_14 : decode cX11_noted 14 = .ok (.getfield 44, 3) := fp_hdX11_noted_0.1.1.2.1.1.2
theorem dX11_noted_17 : decode cX11_noted 17 = .ok (.iload_n 1, 1) := fp_hdX11_noted_0.1.1.2.1.2
theorem dX11_noted_18 : decode cX11_noted 18 = .ok (.invokevirtual 281, 3) := fp_hdX11_noted_0.1.1.2.2.1.1
theorem dX11_noted_21 : decode cX11_noted 21 = .ok (.bipush (-4), 2) := fp_hdX11_noted_0.1.1.2.2.1.2
theorem dX11_noted_23 : decode cX11_noted 23 = .ok (.if_icmp .eq 6, 3) := fp_hdX11_noted_0.1.1.2.2.2
theorem dX11_noted_26 : decode cX11_noted 26 = .ok (.bipush (-2), 2) := fp_hdX11_noted_0.1.2.1.1.1.1
theorem dX11_noted_28 : decode cX11_noted 28 = .ok (.ireturn, 1) := fp_hdX11_noted_0.1.2.1.1.1.2
theorem dX11_noted_29 : decode cX11_noted 29 = .ok (.aload_n 0, 1) := fp_hdX11_noted_0.1.2.1.1.2.1
theorem dX11_noted_30 : decode cX11_noted 30 = .ok (.getfield 44, 3) := fp_hdX11_noted_0.1.2.1.1.2.2
theorem dX11_noted_33 : decode cX11_noted 33 = .ok (.iload_n 1, 1) := fp_hdX11_noted_0.1.2.1.2.1.1
theorem dX11_noted_34 : decode cX11_noted 34 = .ok (.invokevirtual 282, 3) := fp_hdX11_noted_0.1.2.1.2.1.2
theorem dX11_noted_37 : decode cX11_noted 37 = .ok (.ifCond .eq 13, 3) := fp_hdX11_noted_0.1.2.1.2.2
theorem dX11_noted_40 : decode cX11_noted 40 = .ok (.aload_n 0, 1) := fp_hdX11_noted_0.1.2.2.1.1.1
theorem dX11_noted_41 : decode cX11_noted 41 = .ok (.getfield 44, 3) := fp_hdX11_noted_0.1.2.2.1.1.2
theorem dX11_noted_44 : decode cX11_noted 44 = .ok (.getfield 119, 3) := fp_hdX11_noted_0.1.2.2.1.2
theorem dX11_noted_47 : decode cX11_noted 47 = .ok (.goto 5, 3) := fp_hdX11_noted_0.1.2.2.2.1.1
theorem dX11_noted_50 : decode cX11_noted 50 = .ok (.bipush (-3), 2) := fp_hdX11_noted_0.1.2.2.2.1.2
theorem dX11_noted_52 : decode cX11_noted 52 = .ok (.ireturn, 1) := fp_hdX11_noted_0.1.2.2.2.2
def fp_scX11_forget_0 : List Nat := 42 :: 180 :: 0 :: 44 :: 180 :: 0 :: 119 :: 60 :: 42 :: 180 :: 0 :: 44 :: 3 :: 181 :: 0 :: 119 :: 27 :: 172 :: []
theorem fp_bcX11_forget : bA cX11_forget 0 fp_scX11_forget_0 := show cX11_forget.data.toList.map UInt8.toNat = fp_scX11_forget_0 from by decide +kernel
theorem fp_hdX11_forget_0 : ((((decode cX11_forget 0 = .ok (.aload_n 0, 1) ∧ decode cX11_forget 1 = .ok (.getfield 44, 3)) ∧ decode cX11_forget 4 = .ok (.getfield 119, 3)) ∧ (decode cX11_forget 7 = .ok (.istore_n 1, 1) ∧ decode cX11_forget 8 = .ok (.aload_n 0, 1))) ∧ (((decode cX11_forget 9 = .ok (.getfield 44, 3) ∧ decode cX11_forget 12 = .ok (.iconst 0, 1)) ∧ decode cX11_forget 13 = .ok (.putfield 119, 3)) ∧ (decode cX11_forget 16 = .ok (.iload_n 1, 1) ∧ decode cX11_forget 17 = .ok (.ireturn, 1)))) ∧ bA cX11_forget 18 [] :=
  have q0 := fp_o42 fp_bcX11_forget
  have q1 := fp_o180 (v := 44) q0.2 rfl
  have q2 := fp_o180 (v := 119) q1.2 rfl
  have q3 := fp_o60 q2.2
  have q4 := fp_o42 q3.2
  have q5 := fp_o180 (v := 44) q4.2 rfl
  have q6 := fp_o3 q5.2
  have q7 := fp_o181 (v := 119) q6.2 rfl
  have q8 := fp_o27 q7.2
  have q9 := fp_o172 q8.2
  ⟨⟨⟨⟨⟨q0.1, q1.1⟩, q2.1⟩, ⟨q3.1, q4.1⟩⟩, ⟨⟨⟨q5.1, q6.1⟩, q7.1⟩, ⟨q8.1, q9.1⟩⟩⟩, q9.2⟩
theorem dX11_forget_0 : decode cX11_forget 0 = .ok (.aload_n 0, 1) := fp_hdX11_forget_0.1.1.1.1.1
theorem dX11_forget_1 : decode cX11_forget 1 = .ok (.getfield 44, 3) := fp_hdX11_forget_0.1.1.1.1.2
theorem dX11_forget_4 : decode cX11_forget 4 = .ok (.getfield 119, 3) := fp_hdX11_forget_0.1.1.1.2
theorem dX11_forget_7 : decode cX11_forget 7 = .ok (.istore_n 1, 1) := fp_hdX11_forget_0.1.1.2.1
theorem dX11_forget_8 : decode cX11_forget 8 = .ok (.aload_n 0, 1) := fp_hdX11_forget_0.1.1.2.2
theorem dX11_forget_9 : decode cX11_forget 9 = .ok (.getfield 44, 3) := fp_hdX11_forget_0.1.2.1.1.1
theorem dX11_forget_12 : decode cX11_forget 12 = .ok (.iconst 0, 1) := fp_hdX11_forget_0.1.2.1.1.2
theorem dX11_forget_13 : decode cX11_forget 13 = .ok (.putfield 119, 3) := fp_hdX11_forget_0.1.2.1.2
theorem dX11_forget_16 : decode cX11_forget 16 = .ok (.iload_n 1, 1) := fp_hdX11_forget_0.1.2.2.1
theorem dX11_forget_17 : decode cX11_forget 17 = .ok (.ireturn, 1) := fp_hdX11_forget_0.1.2.2.2
def fp_scX11_orders_2 : List Nat := 161 :: 0 :: 6 :: 16 :: 252 :: 172 :: 42 :: 180 :: 0 :: 65 :: 42 :: 180 :: 0 :: 23 :: 42 :: 180 :: 0 :: 44 :: 182 :: 1 :: 40 :: 42 :: 180 :: 0 :: 65 :: 180 :: 1 :: 44 :: 28 :: 16 :: 10 :: 100 :: 46 :: 172 :: []
def fp_scX11_orders_1 : List Nat := 42 :: 180 :: 0 :: 23 :: 42 :: 180 :: 0 :: 30 :: 27 :: 182 :: 1 :: 29 :: 29 :: 154 :: 0 :: 19 :: 42 :: 180 :: 0 :: 65 :: 42 :: 180 :: 0 :: 23 :: 42 :: 180 :: 0 :: 44 :: 182 :: 1 :: 32 :: 172 :: 42 :: 180 :: 0 :: 65 :: 42 :: 180 :: 0 :: 23 :: 42 :: 180 :: 0 :: 44 :: 182 :: 1 :: 36 :: 153 :: 0 :: 19 :: 28 :: 16 :: 10 :: 100 :: 42 :: 180 :: 0 :: 30 :: 180 :: 0 :: 151 :: 27 :: 46 :: fp_scX11_orders_2
def fp_scX11_orders_0 : List Nat := 28 :: 16 :: 10 :: 161 :: 0 :: 13 :: 28 :: 16 :: 18 :: 162 :: 0 :: 7 :: 4 :: 167 :: 0 :: 4 :: 3 :: 62 :: 42 :: 180 :: 0 :: 23 :: 27 :: 182 :: 0 :: 148 :: 153 :: 0 :: 11 :: 28 :: 153 :: 0 :: 9 :: 29 :: 154 :: 0 :: 5 :: 2 :: 172 :: 42 :: 180 :: 0 :: 30 :: 180 :: 0 :: 151 :: 27 :: 46 :: 16 :: 7 :: 164 :: 0 :: 6 :: 16 :: 254 :: 172 :: 42 :: 180 :: 0 :: 65 :: fp_scX11_orders_1
theorem fp_bcX11_orders : bA cX11_orders 0 fp_scX11_orders_0 := show cX11_orders.data.toList.map UInt8.toNat = fp_scX11_orders_0 from by decide +kernel
theorem fp_hdX11_orders_0 : (((((decode cX11_orders 0 = .ok (.iload_n 2, 1) ∧ decode cX11_orders 1 = .ok (.bipush 10, 2)) ∧ (decode cX11_orders 3 = .ok (.if_icmp .lt 13, 3) ∧ decode cX11_orders 6 = .ok (.iload_n 2, 1))) ∧ ((decode cX11_orders 7 = .ok (.bipush 18, 2) ∧ decode cX11_orders 9 = .ok (.if_icmp .ge 7, 3)) ∧ (decode cX11_orders 12 = .ok (.iconst 1, 1) ∧ decode cX11_orders 13 = .ok (.goto 4, 3)))) ∧ (((decode cX11_orders 16 = .ok (.iconst 0, 1) ∧ decode cX11_orders 17 = .ok (.istore_n 3, 1)) ∧ (decode cX11_orders 18 = .ok (.aload_n 0, 1) ∧ decode cX11_orders 19 = .ok (.getfield 23, 3))) ∧ ((decode cX11_orders 22 = .ok (.iload_n 1, 1) ∧ decode cX11_orders 23 = .ok (.invokevirtual 148, 3)) ∧ (decode cX11_orders 26 = .ok (.ifCond .eq 11, 3) ∧ decode cX11_orders 29 = .ok (.iload_n 2, 1))))) ∧ ((((decode cX11_orders 30 = .ok (.ifCond .eq 9, 3) ∧ decode cX11_orders 33 = .ok (.iload_n 3, 1)) ∧ (decode cX11_orders 34 = .ok (.ifCond .ne 5, 3) ∧ decode cX11_orders 37 = .ok (.iconst (-1), 1))) ∧ ((decode cX11_orders 38 = .ok (.ireturn, 1) ∧ decode cX11_orders 39 = .ok (.aload_n 0, 1)) ∧ (decode cX11_orders 40 = .ok (.getfield 30, 3) ∧ decode cX11_orders 43 = .ok (.getfield 151, 3)))) ∧ (((decode cX11_orders 46 = .ok (.iload_n 1, 1) ∧ decode cX11_orders 47 = .ok (.iaload, 1)) ∧ (decode cX11_orders 48 = .ok (.bipush 7, 2) ∧ decode cX11_orders 50 = .ok (.if_icmp .le 6, 3))) ∧ ((decode cX11_orders 53 = .ok (.bipush (-2), 2) ∧ decode cX11_orders 55 = .ok (.ireturn, 1)) ∧ (decode cX11_orders 56 = .ok (.aload_n 0, 1) ∧ decode cX11_orders 57 = .ok (.getfield 65, 3)))))) ∧ bA cX11_orders 60 fp_scX11_orders_1 :=
  have q0 := fp_o28 fp_bcX11_orders
  have q1 := fp_o16 (v := 10) q0.2 rfl
  have q2 := fp_o161 (v := 13) q1.2 rfl
  have q3 := fp_o28 q2.2
  have q4 := fp_o16 (v := 18) q3.2 rfl
  have q5 := fp_o162 (v := 7) q4.2 rfl
  have q6 := fp_o4 q5.2
  have q7 := fp_o167 (v := 4) q6.2 rfl
  have q8 := fp_o3 q7.2
  have q9 := fp_o62 q8.2
  have q10 := fp_o42 q9.2
  have q11 := fp_o180 (v := 23) q10.2 rfl
  have q12 := fp_o27 q11.2
  have q13 := fp_o182 (v := 148) q12.2 rfl
  have q14 := fp_o153 (v := 11) q13.2 rfl
  have q15 := fp_o28 q14.2
  have q16 := fp_o153 (v := 9) q15.2 rfl
  have q17 := fp_o29 q16.2
  have q18 := fp_o154 (v := 5) q17.2 rfl
  have q19 := fp_o2 q18.2
  have q20 := fp_o172 q19.2
  have q21 := fp_o42 q20.2
  have q22 := fp_o180 (v := 30) q21.2 rfl
  have q23 := fp_o180 (v := 151) q22.2 rfl
  have q24 := fp_o27 q23.2
  have q25 := fp_o46 q24.2
  have q26 := fp_o16 (v := 7) q25.2 rfl
  have q27 := fp_o164 (v := 6) q26.2 rfl
  have q28 := fp_o16 (v := (-2)) q27.2 rfl
  have q29 := fp_o172 q28.2
  have q30 := fp_o42 q29.2
  have q31 := fp_o180 (v := 65) q30.2 rfl
  ⟨⟨⟨⟨⟨⟨q0.1, q1.1⟩, ⟨q2.1, q3.1⟩⟩, ⟨⟨q4.1, q5.1⟩, ⟨q6.1, q7.1⟩⟩⟩, ⟨⟨⟨q8.1, q9.1⟩, ⟨q10.1, q11.1⟩⟩, ⟨⟨q12.1, q13.1⟩, ⟨q14.1, q15.1⟩⟩⟩⟩, ⟨⟨⟨⟨q16.1, q17.1⟩, ⟨q18.1, q19.1⟩⟩, ⟨⟨q20.1, q21.1⟩, ⟨q22.1, q23.1⟩⟩⟩, ⟨⟨⟨q24.1, q25.1⟩, ⟨q26.1, q27.1⟩⟩, ⟨⟨q28.1, q29.1⟩, ⟨q30.1, q31.1⟩⟩⟩⟩⟩, q31.2⟩
theorem dX11_orders_0 : decode cX11_orders 0 = .ok (.iload_n 2, 1) := fp_hdX11_orders_0.1.1.1.1.1.1
theorem dX11_orders_1 : decode cX11_orders 1 = .ok (.bipush 10, 2) := fp_hdX11_orders_0.1.1.1.1.1.2
theorem dX11_orders_3 : decode cX11_orders 3 = .ok (.if_icmp .lt 13, 3) := fp_hdX11_orders_0.1.1.1.1.2.1
theorem dX11_orders_6 : decode cX11_orders 6 = .ok (.iload_n 2, 1) := fp_hdX11_orders_0.1.1.1.1.2.2
theorem dX11_orders_7 : decode cX11_orders 7 = .ok (.bipush 18, 2) := fp_hdX11_orders_0.1.1.1.2.1.1
theorem dX11_orders_9 : decode cX11_orders 9 = .ok (.if_icmp .ge 7, 3) := fp_hdX11_orders_0.1.1.1.2.1.2
theorem dX11_orders_12 : decode cX11_orders 12 = .ok (.iconst 1, 1) := fp_hdX11_orders_0.1.1.1.2.2.1
theorem dX11_orders_13 : decode cX11_orders 13 = .ok (.goto 4, 3) := fp_hdX11_orders_0.1.1.1.2.2.2
theorem dX11_orders_16 : decode cX11_orders 16 = .ok (.iconst 0, 1) := fp_hdX11_orders_0.1.1.2.1.1.1
theorem dX11_orders_17 : decode cX11_orders 17 = .ok (.istore_n 3, 1) := fp_hdX11_orders_0.1.1.2.1.1.2
theorem dX11_orders_18 : decode cX11_orders 18 = .ok (.aload_n 0, 1) := fp_hdX11_orders_0.1.1.2.1.2.1
theorem dX11_orders_19 : decode cX11_orders 19 = .ok (.getfield 23, 3) := fp_hdX11_orders_0.1.1.2.1.2.2
theorem dX11_orders_22 : decode cX11_orders 22 = .ok (.iload_n 1, 1) := fp_hdX11_orders_0.1.1.2.2.1.1
theorem dX11_orders_23 : decode cX11_orders 23 = .ok (.invokevirtual 148, 3) := fp_hdX11_orders_0.1.1.2.2.1.2
theorem dX11_orders_26 : decode cX11_orders 26 = .ok (.ifCond .eq 11, 3) := fp_hdX11_orders_0.1.1.2.2.2.1
theorem dX11_orders_29 : decode cX11_orders 29 = .ok (.iload_n 2, 1) := fp_hdX11_orders_0.1.1.2.2.2.2
theorem dX11_orders_30 : decode cX11_orders 30 = .ok (.ifCond .eq 9, 3) := fp_hdX11_orders_0.1.2.1.1.1.1
theorem dX11_orders_33 : decode cX11_orders 33 = .ok (.iload_n 3, 1) := fp_hdX11_orders_0.1.2.1.1.1.2
theorem dX11_orders_34 : decode cX11_orders 34 = .ok (.ifCond .ne 5, 3) := fp_hdX11_orders_0.1.2.1.1.2.1
theorem dX11_orders_37 : decode cX11_orders 37 = .ok (.iconst (-1), 1) := fp_hdX11_orders_0.1.2.1.1.2.2
theorem dX11_orders_38 : decode cX11_orders 38 = .ok (.ireturn, 1) := fp_hdX11_orders_0.1.2.1.2.1.1
theorem dX11_orders_39 : decode cX11_orders 39 = .ok (.aload_n 0, 1) := fp_hdX11_orders_0.1.2.1.2.1.2
theorem dX11_orders_40 : decode cX11_orders 40 = .ok (.getfield 30, 3) := fp_hdX11_orders_0.1.2.1.2.2.1
theorem dX11_orders_43 : decode cX11_orders 43 = .ok (.getfield 151, 3) := fp_hdX11_orders_0.1.2.1.2.2.2
theorem dX11_orders_46 : decode cX11_orders 46 = .ok (.iload_n 1, 1) := fp_hdX11_orders_0.1.2.2.1.1.1
theorem dX11_orders_47 : decode cX11_orders 47 = .ok (.iaload, 1) := fp_hdX11_orders_0.1.2.2.1.1.2
theorem dX11_orders_48 : decode cX11_orders 48 = .ok (.bipush 7, 2) := fp_hdX11_orders_0.1.2.2.1.2.1
theorem dX11_orders_50 : decode cX11_orders 50 = .ok (.if_icmp .le 6, 3) := fp_hdX11_orders_0.1.2.2.1.2.2
theorem dX11_orders_53 : decode cX11_orders 53 = .ok (.bipush (-2), 2) := fp_hdX11_orders_0.1.2.2.2.1.1
theorem dX11_orders_55 : decode cX11_orders 55 = .ok (.ireturn, 1) := fp_hdX11_orders_0.1.2.2.2.1.2
theorem dX11_orders_56 : decode cX11_orders 56 = .ok (.aload_n 0, 1) := fp_hdX11_orders_0.1.2.2.2.2.1
theorem dX11_orders_57 : decode cX11_orders 57 = .ok (.getfield 65, 3) := fp_hdX11_orders_0.1.2.2.2.2.2
theorem fp_hdX11_orders_60 : (((((decode cX11_orders 60 = .ok (.aload_n 0, 1) ∧ decode cX11_orders 61 = .ok (.getfield 23, 3)) ∧ (decode cX11_orders 64 = .ok (.aload_n 0, 1) ∧ decode cX11_orders 65 = .ok (.getfield 30, 3))) ∧ ((decode cX11_orders 68 = .ok (.iload_n 1, 1) ∧ decode cX11_orders 69 = .ok (.invokevirtual 285, 3)) ∧ (decode cX11_orders 72 = .ok (.iload_n 3, 1) ∧ decode cX11_orders 73 = .ok (.ifCond .ne 19, 3)))) ∧ (((decode cX11_orders 76 = .ok (.aload_n 0, 1) ∧ decode cX11_orders 77 = .ok (.getfield 65, 3)) ∧ (decode cX11_orders 80 = .ok (.aload_n 0, 1) ∧ decode cX11_orders 81 = .ok (.getfield 23, 3))) ∧ ((decode cX11_orders 84 = .ok (.aload_n 0, 1) ∧ decode cX11_orders 85 = .ok (.getfield 44, 3)) ∧ (decode cX11_orders 88 = .ok (.invokevirtual 288, 3) ∧ decode cX11_orders 91 = .ok (.ireturn, 1))))) ∧ ((((decode cX11_orders 92 = .ok (.aload_n 0, 1) ∧ decode cX11_orders 93 = .ok (.getfield 65, 3)) ∧ (decode cX11_orders 96 = .ok (.aload_n 0, 1) ∧ decode cX11_orders 97 = .ok (.getfield 23, 3))) ∧ ((decode cX11_orders 100 = .ok (.aload_n 0, 1) ∧ decode cX11_orders 101 = .ok (.getfield 44, 3)) ∧ (decode cX11_orders 104 = .ok (.invokevirtual 292, 3) ∧ decode cX11_orders 107 = .ok (.ifCond .eq 19, 3)))) ∧ (((decode cX11_orders 110 = .ok (.iload_n 2, 1) ∧ decode cX11_orders 111 = .ok (.bipush 10, 2)) ∧ (decode cX11_orders 113 = .ok (.isub, 1) ∧ decode cX11_orders 114 = .ok (.aload_n 0, 1))) ∧ ((decode cX11_orders 115 = .ok (.getfield 30, 3) ∧ decode cX11_orders 118 = .ok (.getfield 151, 3)) ∧ (decode cX11_orders 121 = .ok (.iload_n 1, 1) ∧ decode cX11_orders 122 = .ok (.iaload, 1)))))) ∧ bA cX11_orders 123 fp_scX11_orders_2 :=
  have q0 := fp_o42 fp_hdX11_orders_0.2
  have q1 := fp_o180 (v := 23) q0.2 rfl
  have q2 := fp_o42 q1.2
  have q3 := fp_o180 (v := 30) q2.2 rfl
  have q4 := fp_o27 q3.2
  have q5 := fp_o182 (v := 285) q4.2 rfl
  have q6 := fp_o29 q5.2
  have q7 := fp_o154 (v := 19) q6.2 rfl
  have q8 := fp_o42 q7.2
  have q9 := fp_o180 (v := 65) q8.2 rfl
  have q10 := fp_o42 q9.2
  have q11 := fp_o180 (v := 23) q10.2 rfl
  have q12 := fp_o42 q11.2
  have q13 := fp_o180 (v := 44) q12.2 rfl
  have q14 := fp_o182 (v := 288) q13.2 rfl
  have q15 := fp_o172 q14.2
  have q16 := fp_o42 q15.2
  have q17 := fp_o180 (v := 65) q16.2 rfl
  have q18 := fp_o42 q17.2
  have q19 := fp_o180 (v := 23) q18.2 rfl
  have q20 := fp_o42 q19.2
  have q21 := fp_o180 (v := 44) q20.2 rfl
  have q22 := fp_o182 (v := 292) q21.2 rfl
  have q23 := fp_o153 (v := 19) q22.2 rfl
  have q24 := fp_o28 q23.2
  have q25 := fp_o16 (v := 10) q24.2 rfl
  have q26 := fp_o100 q25.2
  have q27 := fp_o42 q26.2
  have q28 := fp_o180 (v := 30) q27.2 rfl
  have q29 := fp_o180 (v := 151) q28.2 rfl
  have q30 := fp_o27 q29.2
  have q31 := fp_o46 q30.2
  ⟨⟨⟨⟨⟨⟨q0.1, q1.1⟩, ⟨q2.1, q3.1⟩⟩, ⟨⟨q4.1, q5.1⟩, ⟨q6.1, q7.1⟩⟩⟩, ⟨⟨⟨q8.1, q9.1⟩, ⟨q10.1, q11.1⟩⟩, ⟨⟨q12.1, q13.1⟩, ⟨q14.1, q15.1⟩⟩⟩⟩, ⟨⟨⟨⟨q16.1, q17.1⟩, ⟨q18.1, q19.1⟩⟩, ⟨⟨q20.1, q21.1⟩, ⟨q22.1, q23.1⟩⟩⟩, ⟨⟨⟨q24.1, q25.1⟩, ⟨q26.1, q27.1⟩⟩, ⟨⟨q28.1, q29.1⟩, ⟨q30.1, q31.1⟩⟩⟩⟩⟩, q31.2⟩
theorem dX11_orders_60 : decode cX11_orders 60 = .ok (.aload_n 0, 1) := fp_hdX11_orders_60.1.1.1.1.1.1
theorem dX11_orders_61 : decode cX11_orders 61 = .ok (.getfield 23, 3) := fp_hdX11_orders_60.1.1.1.1.1.2
theorem dX11_orders_64 : decode cX11_orders 64 = .ok (.aload_n 0, 1) := fp_hdX11_orders_60.1.1.1.1.2.1
theorem dX11_orders_65 : decode cX11_orders 65 = .ok (.getfield 30, 3) := fp_hdX11_orders_60.1.1.1.1.2.2
theorem dX11_orders_68 : decode cX11_orders 68 = .ok (.iload_n 1, 1) := fp_hdX11_orders_60.1.1.1.2.1.1
theorem dX11_orders_69 : decode cX11_orders 69 = .ok (.invokevirtual 285, 3) := fp_hdX11_orders_60.1.1.1.2.1.2
theorem dX11_orders_72 : decode cX11_orders 72 = .ok (.iload_n 3, 1) := fp_hdX11_orders_60.1.1.1.2.2.1
theorem dX11_orders_73 : decode cX11_orders 73 = .ok (.ifCond .ne 19, 3) := fp_hdX11_orders_60.1.1.1.2.2.2
theorem dX11_orders_76 : decode cX11_orders 76 = .ok (.aload_n 0, 1) := fp_hdX11_orders_60.1.1.2.1.1.1
theorem dX11_orders_77 : decode cX11_orders 77 = .ok (.getfield 65, 3) := fp_hdX11_orders_60.1.1.2.1.1.2
theorem dX11_orders_80 : decode cX11_orders 80 = .ok (.aload_n 0, 1) := fp_hdX11_orders_60.1.1.2.1.2.1
theorem dX11_orders_81 : decode cX11_orders 81 = .ok (.getfield 23, 3) := fp_hdX11_orders_60.1.1.2.1.2.2
theorem dX11_orders_84 : decode cX11_orders 84 = .ok (.aload_n 0, 1) := fp_hdX11_orders_60.1.1.2.2.1.1
theorem dX11_orders_85 : decode cX11_orders 85 = .ok (.getfield 44, 3) := fp_hdX11_orders_60.1.1.2.2.1.2
theorem dX11_orders_88 : decode cX11_orders 88 = .ok (.invokevirtual 288, 3) := fp_hdX11_orders_60.1.1.2.2.2.1
theorem dX11_orders_91 : decode cX11_orders 91 = .ok (.ireturn, 1) := fp_hdX11_orders_60.1.1.2.2.2.2
theorem dX11_orders_92 : decode cX11_orders 92 = .ok (.aload_n 0, 1) := fp_hdX11_orders_60.1.2.1.1.1.1
theorem dX11_orders_93 : decode cX11_orders 93 = .ok (.getfield 65, 3) := fp_hdX11_orders_60.1.2.1.1.1.2
theorem dX11_orders_96 : decode cX11_orders 96 = .ok (.aload_n 0, 1) := fp_hdX11_orders_60.1.2.1.1.2.1
theorem dX11_orders_97 : decode cX11_orders 97 = .ok (.getfield 23, 3) := fp_hdX11_orders_60.1.2.1.1.2.2
theorem dX11_orders_100 : decode cX11_orders 100 = .ok (.aload_n 0, 1) := fp_hdX11_orders_60.1.2.1.2.1.1
theorem dX11_orders_101 : decode cX11_orders 101 = .ok (.getfield 44, 3) := fp_hdX11_orders_60.1.2.1.2.1.2
theorem dX11_orders_104 : decode cX11_orders 104 = .ok (.invokevirtual 292, 3) := fp_hdX11_orders_60.1.2.1.2.2.1
theorem dX11_orders_107 : decode cX11_orders 107 = .ok (.ifCond .eq 19, 3) := fp_hdX11_orders_60.1.2.1.2.2.2
theorem dX11_orders_110 : decode cX11_orders 110 = .ok (.iload_n 2, 1) := fp_hdX11_orders_60.1.2.2.1.1.1
theorem dX11_orders_111 : decode cX11_orders 111 = .ok (.bipush 10, 2) := fp_hdX11_orders_60.1.2.2.1.1.2
theorem dX11_orders_113 : decode cX11_orders 113 = .ok (.isub, 1) := fp_hdX11_orders_60.1.2.2.1.2.1
theorem dX11_orders_114 : decode cX11_orders 114 = .ok (.aload_n 0, 1) := fp_hdX11_orders_60.1.2.2.1.2.2
theorem dX11_orders_115 : decode cX11_orders 115 = .ok (.getfield 30, 3) := fp_hdX11_orders_60.1.2.2.2.1.1
theorem dX11_orders_118 : decode cX11_orders 118 = .ok (.getfield 151, 3) := fp_hdX11_orders_60.1.2.2.2.1.2
theorem dX11_orders_121 : decode cX11_orders 121 = .ok (.iload_n 1, 1) := fp_hdX11_orders_60.1.2.2.2.2.1
theorem dX11_orders_122 : decode cX11_orders 122 = .ok (.iaload, 1) := fp_hdX11_orders_60.1.2.2.2.2.2
theorem fp_hdX11_orders_123 : (((((decode cX11_orders 123 = .ok (.if_icmp .lt 6, 3) ∧ decode cX11_orders 126 = .ok (.bipush (-4), 2)) ∧ decode cX11_orders 128 = .ok (.ireturn, 1)) ∧ (decode cX11_orders 129 = .ok (.aload_n 0, 1) ∧ decode cX11_orders 130 = .ok (.getfield 65, 3))) ∧ ((decode cX11_orders 133 = .ok (.aload_n 0, 1) ∧ decode cX11_orders 134 = .ok (.getfield 23, 3)) ∧ (decode cX11_orders 137 = .ok (.aload_n 0, 1) ∧ decode cX11_orders 138 = .ok (.getfield 44, 3)))) ∧ ((((decode cX11_orders 141 = .ok (.invokevirtual 296, 3) ∧ decode cX11_orders 144 = .ok (.aload_n 0, 1)) ∧ decode cX11_orders 145 = .ok (.getfield 65, 3)) ∧ (decode cX11_orders 148 = .ok (.getfield 300, 3) ∧ decode cX11_orders 151 = .ok (.iload_n 2, 1))) ∧ ((decode cX11_orders 152 = .ok (.bipush 10, 2) ∧ decode cX11_orders 154 = .ok (.isub, 1)) ∧ (decode cX11_orders 155 = .ok (.iaload, 1) ∧ decode cX11_orders 156 = .ok (.ireturn, 1))))) ∧ bA cX11_orders 157 [] :=
  have q0 := fp_o161 (v := 6) fp_hdX11_orders_60.2 rfl
  have q1 := fp_o16 (v := (-4)) q0.2 rfl
  have q2 := fp_o172 q1.2
  have q3 := fp_o42 q2.2
  have q4 := fp_o180 (v := 65) q3.2 rfl
  have q5 := fp_o42 q4.2
  have q6 := fp_o180 (v := 23) q5.2 rfl
  have q7 := fp_o42 q6.2
  have q8 := fp_o180 (v := 44) q7.2 rfl
  have q9 := fp_o182 (v := 296) q8.2 rfl
  have q10 := fp_o42 q9.2
  have q11 := fp_o180 (v := 65) q10.2 rfl
  have q12 := fp_o180 (v := 300) q11.2 rfl
  have q13 := fp_o28 q12.2
  have q14 := fp_o16 (v := 10) q13.2 rfl
  have q15 := fp_o100 q14.2
  have q16 := fp_o46 q15.2
  have q17 := fp_o172 q16.2
  ⟨⟨⟨⟨⟨⟨q0.1, q1.1⟩, q2.1⟩, ⟨q3.1, q4.1⟩⟩, ⟨⟨q5.1, q6.1⟩, ⟨q7.1, q8.1⟩⟩⟩, ⟨⟨⟨⟨q9.1, q10.1⟩, q11.1⟩, ⟨q12.1, q13.1⟩⟩, ⟨⟨q14.1, q15.1⟩, ⟨q16.1, q17.1⟩⟩⟩⟩, q17.2⟩
theorem dX11_orders_123 : decode cX11_orders 123 = .ok (.if_icmp .lt 6, 3) := fp_hdX11_orders_123.1.1.1.1.1.1
theorem dX11_orders_126 : decode cX11_orders 126 = .ok (.bipush (-4), 2) := fp_hdX11_orders_123.1.1.1.1.1.2
theorem dX11_orders_128 : decode cX11_orders 128 = .ok (.ireturn, 1) := fp_hdX11_orders_123.1.1.1.1.2
theorem dX11_orders_129 : decode cX11_orders 129 = .ok (.aload_n 0, 1) := fp_hdX11_orders_123.1.1.1.2.1
theorem dX11_orders_130 : decode cX11_orders 130 = .ok (.getfield 65, 3) := fp_hdX11_orders_123.1.1.1.2.2
theorem dX11_orders_133 : decode cX11_orders 133 = .ok (.aload_n 0, 1) := fp_hdX11_orders_123.1.1.2.1.1
theorem dX11_orders_134 : decode cX11_orders 134 = .ok (.getfield 23, 3) := fp_hdX11_orders_123.1.1.2.1.2
theorem dX11_orders_137 : decode cX11_orders 137 = .ok (.aload_n 0, 1) := fp_hdX11_orders_123.1.1.2.2.1
theorem dX11_orders_138 : decode cX11_orders 138 = .ok (.getfield 44, 3) := fp_hdX11_orders_123.1.1.2.2.2
theorem dX11_orders_141 : decode cX11_orders 141 = .ok (.invokevirtual 296, 3) := fp_hdX11_orders_123.1.2.1.1.1.1
theorem dX11_orders_144 : decode cX11_orders 144 = .ok (.aload_n 0, 1) := fp_hdX11_orders_123.1.2.1.1.1.2
theorem dX11_orders_145 : decode cX11_orders 145 = .ok (.getfield 65, 3) := fp_hdX11_orders_123.1.2.1.1.2
theorem dX11_orders_148 : decode cX11_orders 148 = .ok (.getfield 300, 3) := fp_hdX11_orders_123.1.2.1.2.1
theorem dX11_orders_151 : decode cX11_orders 151 = .ok (.iload_n 2, 1) := fp_hdX11_orders_123.1.2.1.2.2
theorem dX11_orders_152 : decode cX11_orders 152 = .ok (.bipush 10, 2) := fp_hdX11_orders_123.1.2.2.1.1
theorem dX11_orders_154 : decode cX11_orders 154 = .ok (.isub, 1) := fp_hdX11_orders_123.1.2.2.1.2
theorem dX11_orders_155 : decode cX11_orders 155 = .ok (.iaload, 1) := fp_hdX11_orders_123.1.2.2.2.1
theorem dX11_orders_156 : decode cX11_orders 156 = .ok (.ireturn, 1) := fp_hdX11_orders_123.1.2.2.2.2
def fp_scX11_ring_0 : List Nat := 27 :: 184 :: 0 :: 181 :: 154 :: 0 :: 5 :: 2 :: 172 :: 42 :: 180 :: 0 :: 72 :: 42 :: 180 :: 0 :: 23 :: 42 :: 180 :: 0 :: 30 :: 182 :: 1 :: 47 :: 42 :: 180 :: 0 :: 72 :: 180 :: 1 :: 51 :: 27 :: 46 :: 172 :: []
theorem fp_bcX11_ring : bA cX11_ring 0 fp_scX11_ring_0 := show cX11_ring.data.toList.map UInt8.toNat = fp_scX11_ring_0 from by decide +kernel
theorem fp_hdX11_ring_0 : (((((decode cX11_ring 0 = .ok (.iload_n 1, 1) ∧ decode cX11_ring 1 = .ok (.invokestatic 181, 3)) ∧ decode cX11_ring 4 = .ok (.ifCond .ne 5, 3)) ∧ (decode cX11_ring 7 = .ok (.iconst (-1), 1) ∧ decode cX11_ring 8 = .ok (.ireturn, 1))) ∧ ((decode cX11_ring 9 = .ok (.aload_n 0, 1) ∧ decode cX11_ring 10 = .ok (.getfield 72, 3)) ∧ (decode cX11_ring 13 = .ok (.aload_n 0, 1) ∧ decode cX11_ring 14 = .ok (.getfield 23, 3)))) ∧ ((((decode cX11_ring 17 = .ok (.aload_n 0, 1) ∧ decode cX11_ring 18 = .ok (.getfield 30, 3)) ∧ decode cX11_ring 21 = .ok (.invokevirtual 303, 3)) ∧ (decode cX11_ring 24 = .ok (.aload_n 0, 1) ∧ decode cX11_ring 25 = .ok (.getfield 72, 3))) ∧ ((decode cX11_ring 28 = .ok (.getfield 307, 3) ∧ decode cX11_ring 31 = .ok (.iload_n 1, 1)) ∧ (decode cX11_ring 32 = .ok (.iaload, 1) ∧ decode cX11_ring 33 = .ok (.ireturn, 1))))) ∧ bA cX11_ring 34 [] :=
  have q0 := fp_o27 fp_bcX11_ring
  have q1 := fp_o184 (v := 181) q0.2 rfl
  have q2 := fp_o154 (v := 5) q1.2 rfl
  have q3 := fp_o2 q2.2
  have q4 := fp_o172 q3.2
  have q5 := fp_o42 q4.2
  have q6 := fp_o180 (v := 72) q5.2 rfl
  have q7 := fp_o42 q6.2
  have q8 := fp_o180 (v := 23) q7.2 rfl
  have q9 := fp_o42 q8.2
  have q10 := fp_o180 (v := 30) q9.2 rfl
  have q11 := fp_o182 (v := 303) q10.2 rfl
  have q12 := fp_o42 q11.2
  have q13 := fp_o180 (v := 72) q12.2 rfl
  have q14 := fp_o180 (v := 307) q13.2 rfl
  have q15 := fp_o27 q14.2
  have q16 := fp_o46 q15.2
  have q17 := fp_o172 q16.2
  ⟨⟨⟨⟨⟨⟨q0.1, q1.1⟩, q2.1⟩, ⟨q3.1, q4.1⟩⟩, ⟨⟨q5.1, q6.1⟩, ⟨q7.1, q8.1⟩⟩⟩, ⟨⟨⟨⟨q9.1, q10.1⟩, q11.1⟩, ⟨q12.1, q13.1⟩⟩, ⟨⟨q14.1, q15.1⟩, ⟨q16.1, q17.1⟩⟩⟩⟩, q17.2⟩
theorem dX11_ring_0 : decode cX11_ring 0 = .ok (.iload_n 1, 1) := fp_hdX11_ring_0.1.1.1.1.1.1
theorem dX11_ring_1 : decode cX11_ring 1 = .ok (.invokestatic 181, 3) := fp_hdX11_ring_0.1.1.1.1.1.2
theorem dX11_ring_4 : decode cX11_ring 4 = .ok (.ifCond .ne 5, 3) := fp_hdX11_ring_0.1.1.1.1.2
theorem dX11_ring_7 : decode cX11_ring 7 = .ok (.iconst (-1), 1) := fp_hdX11_ring_0.1.1.1.2.1
theorem dX11_ring_8 : decode cX11_ring 8 = .ok (.ireturn, 1) := fp_hdX11_ring_0.1.1.1.2.2
theorem dX11_ring_9 : decode cX11_ring 9 = .ok (.aload_n 0, 1) := fp_hdX11_ring_0.1.1.2.1.1
theorem dX11_ring_10 : decode cX11_ring 10 = .ok (.getfield 72, 3) := fp_hdX11_ring_0.1.1.2.1.2
theorem dX11_ring_13 : decode cX11_ring 13 = .ok (.aload_n 0, 1) := fp_hdX11_ring_0.1.1.2.2.1
theorem dX11_ring_14 : decode cX11_ring 14 = .ok (.getfield 23, 3) := fp_hdX11_ring_0.1.1.2.2.2
theorem dX11_ring_17 : decode cX11_ring 17 = .ok (.aload_n 0, 1) := fp_hdX11_ring_0.1.2.1.1.1.1
theorem dX11_ring_18 : decode cX11_ring 18 = .ok (.getfield 30, 3) := fp_hdX11_ring_0.1.2.1.1.1.2
theorem dX11_ring_21 : decode cX11_ring 21 = .ok (.invokevirtual 303, 3) := fp_hdX11_ring_0.1.2.1.1.2
theorem dX11_ring_24 : decode cX11_ring 24 = .ok (.aload_n 0, 1) := fp_hdX11_ring_0.1.2.1.2.1
theorem dX11_ring_25 : decode cX11_ring 25 = .ok (.getfield 72, 3) := fp_hdX11_ring_0.1.2.1.2.2
theorem dX11_ring_28 : decode cX11_ring 28 = .ok (.getfield 307, 3) := fp_hdX11_ring_0.1.2.2.1.1
theorem dX11_ring_31 : decode cX11_ring 31 = .ok (.iload_n 1, 1) := fp_hdX11_ring_0.1.2.2.1.2
theorem dX11_ring_32 : decode cX11_ring 32 = .ok (.iaload, 1) := fp_hdX11_ring_0.1.2.2.2.1
theorem dX11_ring_33 : decode cX11_ring 33 = .ok (.ireturn, 1) := fp_hdX11_ring_0.1.2.2.2.2
def fp_scX11_with_0 : List Nat := 27 :: 184 :: 0 :: 181 :: 154 :: 0 :: 5 :: 2 :: 172 :: 42 :: 180 :: 0 :: 72 :: 42 :: 180 :: 0 :: 23 :: 42 :: 180 :: 0 :: 30 :: 182 :: 1 :: 47 :: 42 :: 180 :: 0 :: 72 :: 180 :: 1 :: 54 :: 27 :: 46 :: 172 :: []
theorem fp_bcX11_with : bA cX11_with 0 fp_scX11_with_0 := show cX11_with.data.toList.map UInt8.toNat = fp_scX11_with_0 from by decide +kernel
theorem fp_hdX11_with_0 : (((((decode cX11_with 0 = .ok (.iload_n 1, 1) ∧ decode cX11_with 1 = .ok (.invokestatic 181, 3)) ∧ decode cX11_with 4 = .ok (.ifCond .ne 5, 3)) ∧ (decode cX11_with 7 = .ok (.iconst (-1), 1) ∧ decode cX11_with 8 = .ok (.ireturn, 1))) ∧ ((decode cX11_with 9 = .ok (.aload_n 0, 1) ∧ decode cX11_with 10 = .ok (.getfield 72, 3)) ∧ (decode cX11_with 13 = .ok (.aload_n 0, 1) ∧ decode cX11_with 14 = .ok (.getfield 23, 3)))) ∧ ((((decode cX11_with 17 = .ok (.aload_n 0, 1) ∧ decode cX11_with 18 = .ok (.getfield 30, 3)) ∧ decode cX11_with 21 = .ok (.invokevirtual 303, 3)) ∧ (decode cX11_with 24 = .ok (.aload_n 0, 1) ∧ decode cX11_with 25 = .ok (.getfield 72, 3))) ∧ ((decode cX11_with 28 = .ok (.getfield 310, 3) ∧ decode cX11_with 31 = .ok (.iload_n 1, 1)) ∧ (decode cX11_with 32 = .ok (.iaload, 1) ∧ decode cX11_with 33 = .ok (.ireturn, 1))))) ∧ bA cX11_with 34 [] :=
  have q0 := fp_o27 fp_bcX11_with
  have q1 := fp_o184 (v := 181) q0.2 rfl
  have q2 := fp_o154 (v := 5) q1.2 rfl
  have q3 := fp_o2 q2.2
  have q4 := fp_o172 q3.2
  have q5 := fp_o42 q4.2
  have q6 := fp_o180 (v := 72) q5.2 rfl
  have q7 := fp_o42 q6.2
  have q8 := fp_o180 (v := 23) q7.2 rfl
  have q9 := fp_o42 q8.2
  have q10 := fp_o180 (v := 30) q9.2 rfl
  have q11 := fp_o182 (v := 303) q10.2 rfl
  have q12 := fp_o42 q11.2
  have q13 := fp_o180 (v := 72) q12.2 rfl
  have q14 := fp_o180 (v := 310) q13.2 rfl
  have q15 := fp_o27 q14.2
  have q16 := fp_o46 q15.2
  have q17 := fp_o172 q16.2
  ⟨⟨⟨⟨⟨⟨q0.1, q1.1⟩, q2.1⟩, ⟨q3.1, q4.1⟩⟩, ⟨⟨q5.1, q6.1⟩, ⟨q7.1, q8.1⟩⟩⟩, ⟨⟨⟨⟨q9.1, q10.1⟩, q11.1⟩, ⟨q12.1, q13.1⟩⟩, ⟨⟨q14.1, q15.1⟩, ⟨q16.1, q17.1⟩⟩⟩⟩, q17.2⟩
theorem dX11_with_0 : decode cX11_with 0 = .ok (.iload_n 1, 1) := fp_hdX11_with_0.1.1.1.1.1.1
theorem dX11_with_1 : decode cX11_with 1 = .ok (.invokestatic 181, 3) := fp_hdX11_with_0.1.1.1.1.1.2
theorem dX11_with_4 : decode cX11_with 4 = .ok (.ifCond .ne 5, 3) := fp_hdX11_with_0.1.1.1.1.2
theorem dX11_with_7 : decode cX11_with 7 = .ok (.iconst (-1), 1) := fp_hdX11_with_0.1.1.1.2.1
theorem dX11_with_8 : decode cX11_with 8 = .ok (.ireturn, 1) := fp_hdX11_with_0.1.1.1.2.2
theorem dX11_with_9 : decode cX11_with 9 = .ok (.aload_n 0, 1) := fp_hdX11_with_0.1.1.2.1.1
theorem dX11_with_10 : decode cX11_with 10 = .ok (.getfield 72, 3) := fp_hdX11_with_0.1.1.2.1.2
theorem dX11_with_13 : decode cX11_with 13 = .ok (.aload_n 0, 1) := fp_hdX11_with_0.1.1.2.2.1
theorem dX11_with_14 : decode cX11_with 14 = .ok (.getfield 23, 3) := fp_hdX11_with_0.1.1.2.2.2
theorem dX11_with_17 : decode cX11_with 17 = .ok (.aload_n 0, 1) := fp_hdX11_with_0.1.2.1.1.1.1
theorem dX11_with_18 : decode cX11_with 18 = .ok (.getfield 30, 3) := fp_hdX11_with_0.1.2.1.1.1.2
theorem dX11_with_21 : decode cX11_with 21 = .ok (.invokevirtual 303, 3) := fp_hdX11_with_0.1.2.1.1.2
theorem dX11_with_24 : decode cX11_with 24 = .ok (.aload_n 0, 1) := fp_hdX11_with_0.1.2.1.2.1
theorem dX11_with_25 : decode cX11_with 25 = .ok (.getfield 72, 3) := fp_hdX11_with_0.1.2.1.2.2
theorem dX11_with_28 : decode cX11_with 28 = .ok (.getfield 310, 3) := fp_hdX11_with_0.1.2.2.1.1
theorem dX11_with_31 : decode cX11_with 31 = .ok (.iload_n 1, 1) := fp_hdX11_with_0.1.2.2.1.2
theorem dX11_with_32 : decode cX11_with 32 = .ok (.iaload, 1) := fp_hdX11_with_0.1.2.2.2.1
theorem dX11_with_33 : decode cX11_with 33 = .ok (.ireturn, 1) := fp_hdX11_with_0.1.2.2.2.2
def fp_scX11_join_1 : List Nat := 164 :: 0 :: 17 :: 42 :: 180 :: 0 :: 23 :: 27 :: 21 :: 5 :: 182 :: 0 :: 130 :: 61 :: 21 :: 4 :: 62 :: 132 :: 4 :: 1 :: 167 :: 255 :: 191 :: 29 :: 172 :: []
def fp_scX11_join_0 : List Nat := 27 :: 184 :: 0 :: 181 :: 154 :: 0 :: 5 :: 2 :: 172 :: 16 :: 252 :: 61 :: 16 :: 252 :: 62 :: 3 :: 54 :: 4 :: 21 :: 4 :: 42 :: 180 :: 0 :: 23 :: 180 :: 0 :: 225 :: 162 :: 0 :: 59 :: 42 :: 180 :: 0 :: 30 :: 42 :: 180 :: 0 :: 23 :: 21 :: 4 :: 182 :: 0 :: 159 :: 54 :: 5 :: 21 :: 5 :: 16 :: 252 :: 159 :: 0 :: 31 :: 42 :: 180 :: 0 :: 23 :: 27 :: 21 :: 5 :: 182 :: 0 :: 130 :: 28 :: fp_scX11_join_1
theorem fp_bcX11_join : bA cX11_join 0 fp_scX11_join_0 := show cX11_join.data.toList.map UInt8.toNat = fp_scX11_join_0 from by decide +kernel
theorem fp_hdX11_join_0 : (((((decode cX11_join 0 = .ok (.iload_n 1, 1) ∧ decode cX11_join 1 = .ok (.invokestatic 181, 3)) ∧ (decode cX11_join 4 = .ok (.ifCond .ne 5, 3) ∧ decode cX11_join 7 = .ok (.iconst (-1), 1))) ∧ ((decode cX11_join 8 = .ok (.ireturn, 1) ∧ decode cX11_join 9 = .ok (.bipush (-4), 2)) ∧ (decode cX11_join 11 = .ok (.istore_n 2, 1) ∧ decode cX11_join 12 = .ok (.bipush (-4), 2)))) ∧ (((decode cX11_join 14 = .ok (.istore_n 3, 1) ∧ decode cX11_join 15 = .ok (.iconst 0, 1)) ∧ (decode cX11_join 16 = .ok (.istore 4, 2) ∧ decode cX11_join 18 = .ok (.iload 4, 2))) ∧ ((decode cX11_join 20 = .ok (.aload_n 0, 1) ∧ decode cX11_join 21 = .ok (.getfield 23, 3)) ∧ (decode cX11_join 24 = .ok (.getfield 225, 3) ∧ decode cX11_join 27 = .ok (.if_icmp .ge 59, 3))))) ∧ ((((decode cX11_join 30 = .ok (.aload_n 0, 1) ∧ decode cX11_join 31 = .ok (.getfield 30, 3)) ∧ (decode cX11_join 34 = .ok (.aload_n 0, 1) ∧ decode cX11_join 35 = .ok (.getfield 23, 3))) ∧ ((decode cX11_join 38 = .ok (.iload 4, 2) ∧ decode cX11_join 40 = .ok (.invokevirtual 159, 3)) ∧ (decode cX11_join 43 = .ok (.istore 5, 2) ∧ decode cX11_join 45 = .ok (.iload 5, 2)))) ∧ (((decode cX11_join 47 = .ok (.bipush (-4), 2) ∧ decode cX11_join 49 = .ok (.if_icmp .eq 31, 3)) ∧ (decode cX11_join 52 = .ok (.aload_n 0, 1) ∧ decode cX11_join 53 = .ok (.getfield 23, 3))) ∧ ((decode cX11_join 56 = .ok (.iload_n 1, 1) ∧ decode cX11_join 57 = .ok (.iload 5, 2)) ∧ (decode cX11_join 59 = .ok (.invokevirtual 130, 3) ∧ decode cX11_join 62 = .ok (.iload_n 2, 1)))))) ∧ bA cX11_join 63 fp_scX11_join_1 :=
  have q0 := fp_o27 fp_bcX11_join
  have q1 := fp_o184 (v := 181) q0.2 rfl
  have q2 := fp_o154 (v := 5) q1.2 rfl
  have q3 := fp_o2 q2.2
  have q4 := fp_o172 q3.2
  have q5 := fp_o16 (v := (-4)) q4.2 rfl
  have q6 := fp_o61 q5.2
  have q7 := fp_o16 (v := (-4)) q6.2 rfl
  have q8 := fp_o62 q7.2
  have q9 := fp_o3 q8.2
  have q10 := fp_o54 q9.2
  have q11 := fp_o21 q10.2
  have q12 := fp_o42 q11.2
  have q13 := fp_o180 (v := 23) q12.2 rfl
  have q14 := fp_o180 (v := 225) q13.2 rfl
  have q15 := fp_o162 (v := 59) q14.2 rfl
  have q16 := fp_o42 q15.2
  have q17 := fp_o180 (v := 30) q16.2 rfl
  have q18 := fp_o42 q17.2
  have q19 := fp_o180 (v := 23) q18.2 rfl
  have q20 := fp_o21 q19.2
  have q21 := fp_o182 (v := 159) q20.2 rfl
  have q22 := fp_o54 q21.2
  have q23 := fp_o21 q22.2
  have q24 := fp_o16 (v := (-4)) q23.2 rfl
  have q25 := fp_o159 (v := 31) q24.2 rfl
  have q26 := fp_o42 q25.2
  have q27 := fp_o180 (v := 23) q26.2 rfl
  have q28 := fp_o27 q27.2
  have q29 := fp_o21 q28.2
  have q30 := fp_o182 (v := 130) q29.2 rfl
  have q31 := fp_o28 q30.2
  ⟨⟨⟨⟨⟨⟨q0.1, q1.1⟩, ⟨q2.1, q3.1⟩⟩, ⟨⟨q4.1, q5.1⟩, ⟨q6.1, q7.1⟩⟩⟩, ⟨⟨⟨q8.1, q9.1⟩, ⟨q10.1, q11.1⟩⟩, ⟨⟨q12.1, q13.1⟩, ⟨q14.1, q15.1⟩⟩⟩⟩, ⟨⟨⟨⟨q16.1, q17.1⟩, ⟨q18.1, q19.1⟩⟩, ⟨⟨q20.1, q21.1⟩, ⟨q22.1, q23.1⟩⟩⟩, ⟨⟨⟨q24.1, q25.1⟩, ⟨q26.1, q27.1⟩⟩, ⟨⟨q28.1, q29.1⟩, ⟨q30.1, q31.1⟩⟩⟩⟩⟩, q31.2⟩
theorem dX11_join_0 : decode cX11_join 0 = .ok (.iload_n 1, 1) := fp_hdX11_join_0.1.1.1.1.1.1
theorem dX11_join_1 : decode cX11_join 1 = .ok (.invokestatic 181, 3) := fp_hdX11_join_0.1.1.1.1.1.2
theorem dX11_join_4 : decode cX11_join 4 = .ok (.ifCond .ne 5, 3) := fp_hdX11_join_0.1.1.1.1.2.1
theorem dX11_join_7 : decode cX11_join 7 = .ok (.iconst (-1), 1) := fp_hdX11_join_0.1.1.1.1.2.2
theorem dX11_join_8 : decode cX11_join 8 = .ok (.ireturn, 1) := fp_hdX11_join_0.1.1.1.2.1.1
theorem dX11_join_9 : decode cX11_join 9 = .ok (.bipush (-4), 2) := fp_hdX11_join_0.1.1.1.2.1.2
theorem dX11_join_11 : decode cX11_join 11 = .ok (.istore_n 2, 1) := fp_hdX11_join_0.1.1.1.2.2.1
theorem dX11_join_12 : decode cX11_join 12 = .ok (.bipush (-4), 2) := fp_hdX11_join_0.1.1.1.2.2.2
theorem dX11_join_14 : decode cX11_join 14 = .ok (.istore_n 3, 1) := fp_hdX11_join_0.1.1.2.1.1.1
theorem dX11_join_15 : decode cX11_join 15 = .ok (.iconst 0, 1) := fp_hdX11_join_0.1.1.2.1.1.2
theorem dX11_join_16 : decode cX11_join 16 = .ok (.istore 4, 2) := fp_hdX11_join_0.1.1.2.1.2.1
theorem dX11_join_18 : decode cX11_join 18 = .ok (.iload 4, 2) := fp_hdX11_join_0.1.1.2.1.2.2
theorem dX11_join_20 : decode cX11_join 20 = .ok (.aload_n 0, 1) := fp_hdX11_join_0.1.1.2.2.1.1
theorem dX11_join_21 : decode cX11_join 21 = .ok (.getfield 23, 3) := fp_hdX11_join_0.1.1.2.2.1.2
theorem dX11_join_24 : decode cX11_join 24 = .ok (.getfield 225, 3) := fp_hdX11_join_0.1.1.2.2.2.1
theorem dX11_join_27 : decode cX11_join 27 = .ok (.if_icmp .ge 59, 3) := fp_hdX11_join_0.1.1.2.2.2.2
theorem dX11_join_30 : decode cX11_join 30 = .ok (.aload_n 0, 1) := fp_hdX11_join_0.1.2.1.1.1.1
theorem dX11_join_31 : decode cX11_join 31 = .ok (.getfield 30, 3) := fp_hdX11_join_0.1.2.1.1.1.2
theorem dX11_join_34 : decode cX11_join 34 = .ok (.aload_n 0, 1) := fp_hdX11_join_0.1.2.1.1.2.1
theorem dX11_join_35 : decode cX11_join 35 = .ok (.getfield 23, 3) := fp_hdX11_join_0.1.2.1.1.2.2
theorem dX11_join_38 : decode cX11_join 38 = .ok (.iload 4, 2) := fp_hdX11_join_0.1.2.1.2.1.1
theorem dX11_join_40 : decode cX11_join 40 = .ok (.invokevirtual 159, 3) := fp_hdX11_join_0.1.2.1.2.1.2
theorem dX11_join_43 : decode cX11_join 43 = .ok (.istore 5, 2) := fp_hdX11_join_0.1.2.1.2.2.1
theorem dX11_join_45 : decode cX11_join 45 = .ok (.iload 5, 2) := fp_hdX11_join_0.1.2.1.2.2.2
theorem dX11_join_47 : decode cX11_join 47 = .ok (.bipush (-4), 2) := fp_hdX11_join_0.1.2.2.1.1.1
theorem dX11_join_49 : decode cX11_join 49 = .ok (.if_icmp .eq 31, 3) := fp_hdX11_join_0.1.2.2.1.1.2
theorem dX11_join_52 : decode cX11_join 52 = .ok (.aload_n 0, 1) := fp_hdX11_join_0.1.2.2.1.2.1
theorem dX11_join_53 : decode cX11_join 53 = .ok (.getfield 23, 3) := fp_hdX11_join_0.1.2.2.1.2.2
theorem dX11_join_56 : decode cX11_join 56 = .ok (.iload_n 1, 1) := fp_hdX11_join_0.1.2.2.2.1.1
theorem dX11_join_57 : decode cX11_join 57 = .ok (.iload 5, 2) := fp_hdX11_join_0.1.2.2.2.1.2
theorem dX11_join_59 : decode cX11_join 59 = .ok (.invokevirtual 130, 3) := fp_hdX11_join_0.1.2.2.2.2.1
theorem dX11_join_62 : decode cX11_join 62 = .ok (.iload_n 2, 1) := fp_hdX11_join_0.1.2.2.2.2.2
theorem fp_hdX11_join_63 : ((((decode cX11_join 63 = .ok (.if_icmp .le 17, 3) ∧ decode cX11_join 66 = .ok (.aload_n 0, 1)) ∧ (decode cX11_join 67 = .ok (.getfield 23, 3) ∧ decode cX11_join 70 = .ok (.iload_n 1, 1))) ∧ ((decode cX11_join 71 = .ok (.iload 5, 2) ∧ decode cX11_join 73 = .ok (.invokevirtual 130, 3)) ∧ decode cX11_join 76 = .ok (.istore_n 2, 1))) ∧ (((decode cX11_join 77 = .ok (.iload 4, 2) ∧ decode cX11_join 79 = .ok (.istore_n 3, 1)) ∧ decode cX11_join 80 = .ok (.iinc 4 1, 3)) ∧ ((decode cX11_join 83 = .ok (.goto (-65), 3) ∧ decode cX11_join 86 = .ok (.iload_n 3, 1)) ∧ decode cX11_join 87 = .ok (.ireturn, 1)))) ∧ bA cX11_join 88 [] :=
  have q0 := fp_o164 (v := 17) fp_hdX11_join_0.2 rfl
  have q1 := fp_o42 q0.2
  have q2 := fp_o180 (v := 23) q1.2 rfl
  have q3 := fp_o27 q2.2
  have q4 := fp_o21 q3.2
  have q5 := fp_o182 (v := 130) q4.2 rfl
  have q6 := fp_o61 q5.2
  have q7 := fp_o21 q6.2
  have q8 := fp_o62 q7.2
  have q9 := fp_o132 (v := 1) q8.2 rfl
  have q10 := fp_o167 (v := (-65)) q9.2 rfl
  have q11 := fp_o29 q10.2
  have q12 := fp_o172 q11.2
  ⟨⟨⟨⟨⟨q0.1, q1.1⟩, ⟨q2.1, q3.1⟩⟩, ⟨⟨q4.1, q5.1⟩, q6.1⟩⟩, ⟨⟨⟨q7.1, q8.1⟩, q9.1⟩, ⟨⟨q10.1, q11.1⟩, q12.1⟩⟩⟩, q12.2⟩
theorem dX11_join_63 : decode cX11_join 63 = .ok (.if_icmp .le 17, 3) := fp_hdX11_join_63.1.1.1.1.1
theorem dX11_join_66 : decode cX11_join 66 = .ok (.aload_n 0, 1) := fp_hdX11_join_63.1.1.1.1.2
theorem dX11_join_67 : decode cX11_join 67 = .ok (.getfield 23, 3) := fp_hdX11_join_63.1.1.1.2.1
theorem dX11_join_70 : decode cX11_join 70 = .ok (.iload_n 1, 1) := fp_hdX11_join_63.1.1.1.2.2
theorem dX11_join_71 : decode cX11_join 71 = .ok (.iload 5, 2) := fp_hdX11_join_63.1.1.2.1.1
theorem dX11_join_73 : decode cX11_join 73 = .ok (.invokevirtual 130, 3) := fp_hdX11_join_63.1.1.2.1.2
theorem dX11_join_76 : decode cX11_join 76 = .ok (.istore_n 2, 1) := fp_hdX11_join_63.1.1.2.2
theorem dX11_join_77 : decode cX11_join 77 = .ok (.iload 4, 2) := fp_hdX11_join_63.1.2.1.1.1
theorem dX11_join_79 : decode cX11_join 79 = .ok (.istore_n 3, 1) := fp_hdX11_join_63.1.2.1.1.2
theorem dX11_join_80 : decode cX11_join 80 = .ok (.iinc 4 1, 3) := fp_hdX11_join_63.1.2.1.2
theorem dX11_join_83 : decode cX11_join 83 = .ok (.goto (-65), 3) := fp_hdX11_join_63.1.2.2.1.1
theorem dX11_join_86 : decode cX11_join 86 = .ok (.iload_n 3, 1) := fp_hdX11_join_63.1.2.2.1.2
theorem dX11_join_87 : decode cX11_join 87 = .ok (.ireturn, 1) := fp_hdX11_join_63.1.2.2.2
def fp_scX11_keep_1 : List Nat := 180 :: 1 :: 59 :: 42 :: 180 :: 0 :: 44 :: 182 :: 1 :: 60 :: 29 :: 172 :: []
def fp_scX11_keep_0 : List Nat := 27 :: 4 :: 184 :: 0 :: 221 :: 154 :: 0 :: 5 :: 2 :: 172 :: 42 :: 180 :: 0 :: 78 :: 27 :: 50 :: 77 :: 44 :: 180 :: 0 :: 122 :: 153 :: 0 :: 7 :: 4 :: 167 :: 0 :: 4 :: 3 :: 62 :: 44 :: 4 :: 181 :: 0 :: 122 :: 44 :: 180 :: 1 :: 57 :: 42 :: 180 :: 0 :: 30 :: 182 :: 0 :: 112 :: 44 :: 180 :: 1 :: 58 :: 42 :: 180 :: 0 :: 37 :: 182 :: 0 :: 116 :: 44 :: fp_scX11_keep_1
theorem fp_bcX11_keep : bA cX11_keep 0 fp_scX11_keep_0 := show cX11_keep.data.toList.map UInt8.toNat = fp_scX11_keep_0 from by decide +kernel
theorem fp_hdX11_keep_0 : (((((decode cX11_keep 0 = .ok (.iload_n 1, 1) ∧ decode cX11_keep 1 = .ok (.iconst 1, 1)) ∧ (decode cX11_keep 2 = .ok (.invokestatic 221, 3) ∧ decode cX11_keep 5 = .ok (.ifCond .ne 5, 3))) ∧ ((decode cX11_keep 8 = .ok (.iconst (-1), 1) ∧ decode cX11_keep 9 = .ok (.ireturn, 1)) ∧ (decode cX11_keep 10 = .ok (.aload_n 0, 1) ∧ decode cX11_keep 11 = .ok (.getfield 78, 3)))) ∧ (((decode cX11_keep 14 = .ok (.iload_n 1, 1) ∧ decode cX11_keep 15 = .ok (.aaload, 1)) ∧ (decode cX11_keep 16 = .ok (.astore_n 2, 1) ∧ decode cX11_keep 17 = .ok (.aload_n 2, 1))) ∧ ((decode cX11_keep 18 = .ok (.getfield 122, 3) ∧ decode cX11_keep 21 = .ok (.ifCond .eq 7, 3)) ∧ (decode cX11_keep 24 = .ok (.iconst 1, 1) ∧ decode cX11_keep 25 = .ok (.goto 4, 3))))) ∧ ((((decode cX11_keep 28 = .ok (.iconst 0, 1) ∧ decode cX11_keep 29 = .ok (.istore_n 3, 1)) ∧ (decode cX11_keep 30 = .ok (.aload_n 2, 1) ∧ decode cX11_keep 31 = .ok (.iconst 1, 1))) ∧ ((decode cX11_keep 32 = .ok (.putfield 122, 3) ∧ decode cX11_keep 35 = .ok (.aload_n 2, 1)) ∧ (decode cX11_keep 36 = .ok (.getfield 313, 3) ∧ decode cX11_keep 39 = .ok (.aload_n 0, 1)))) ∧ (((decode cX11_keep 40 = .ok (.getfield 30, 3) ∧ decode cX11_keep 43 = .ok (.invokevirtual 112, 3)) ∧ (decode cX11_keep 46 = .ok (.aload_n 2, 1) ∧ decode cX11_keep 47 = .ok (.getfield 314, 3))) ∧ ((decode cX11_keep 50 = .ok (.aload_n 0, 1) ∧ decode cX11_keep 51 = .ok (.getfield 37, 3)) ∧ (decode cX11_keep 54 = .ok (.invokevirtual 116, 3) ∧ decode cX11_keep 57 = .ok (.aload_n 2, 1)))))) ∧ bA cX11_keep 58 fp_scX11_keep_1 :=
  have q0 := fp_o27 fp_bcX11_keep
  have q1 := fp_o4 q0.2
  have q2 := fp_o184 (v := 221) q1.2 rfl
  have q3 := fp_o154 (v := 5) q2.2 rfl
  have q4 := fp_o2 q3.2
  have q5 := fp_o172 q4.2
  have q6 := fp_o42 q5.2
  have q7 := fp_o180 (v := 78) q6.2 rfl
  have q8 := fp_o27 q7.2
  have q9 := fp_o50 q8.2
  have q10 := fp_o77 q9.2
  have q11 := fp_o44 q10.2
  have q12 := fp_o180 (v := 122) q11.2 rfl
  have q13 := fp_o153 (v := 7) q12.2 rfl
  have q14 := fp_o4 q13.2
  have q15 := fp_o167 (v := 4) q14.2 rfl
  have q16 := fp_o3 q15.2
  have q17 := fp_o62 q16.2
  have q18 := fp_o44 q17.2
  have q19 := fp_o4 q18.2
  have q20 := fp_o181 (v := 122) q19.2 rfl
  have q21 := fp_o44 q20.2
  have q22 := fp_o180 (v := 313) q21.2 rfl
  have q23 := fp_o42 q22.2
  have q24 := fp_o180 (v := 30) q23.2 rfl
  have q25 := fp_o182 (v := 112) q24.2 rfl
  have q26 := fp_o44 q25.2
  have q27 := fp_o180 (v := 314) q26.2 rfl
  have q28 := fp_o42 q27.2
  have q29 := fp_o180 (v := 37) q28.2 rfl
  have q30 := fp_o182 (v := 116) q29.2 rfl
  have q31 := fp_o44 q30.2
  ⟨⟨⟨⟨⟨⟨q0.1, q1.1⟩, ⟨q2.1, q3.1⟩⟩, ⟨⟨q4.1, q5.1⟩, ⟨q6.1, q7.1⟩⟩⟩, ⟨⟨⟨q8.1, q9.1⟩, ⟨q10.1, q11.1⟩⟩, ⟨⟨q12.1, q13.1⟩, ⟨q14.1, q15.1⟩⟩⟩⟩, ⟨⟨⟨⟨q16.1, q17.1⟩, ⟨q18.1, q19.1⟩⟩, ⟨⟨q20.1, q21.1⟩, ⟨q22.1, q23.1⟩⟩⟩, ⟨⟨⟨q24.1, q25.1⟩, ⟨q26.1, q27.1⟩⟩, ⟨⟨q28.1, q29.1⟩, ⟨q30.1, q31.1⟩⟩⟩⟩⟩, q31.2⟩
theorem dX11_keep_0 : decode cX11_keep 0 = .ok (.iload_n 1, 1) := fp_hdX11_keep_0.1.1.1.1.1.1
theorem dX11_keep_1 : decode cX11_keep 1 = .ok (.iconst 1, 1) := fp_hdX11_keep_0.1.1.1.1.1.2
theorem dX11_keep_2 : decode cX11_keep 2 = .ok (.invokestatic 221, 3) := fp_hdX11_keep_0.1.1.1.1.2.1
theorem dX11_keep_5 : decode cX11_keep 5 = .ok (.ifCond .ne 5, 3) := fp_hdX11_keep_0.1.1.1.1.2.2
theorem dX11_keep_8 : decode cX11_keep 8 = .ok (.iconst (-1), 1) := fp_hdX11_keep_0.1.1.1.2.1.1
theorem dX11_keep_9 : decode cX11_keep 9 = .ok (.ireturn, 1) := fp_hdX11_keep_0.1.1.1.2.1.2
theorem dX11_keep_10 : decode cX11_keep 10 = .ok (.aload_n 0, 1) := fp_hdX11_keep_0.1.1.1.2.2.1
theorem dX11_keep_11 : decode cX11_keep 11 = .ok (.getfield 78, 3) := fp_hdX11_keep_0.1.1.1.2.2.2
theorem dX11_keep_14 : decode cX11_keep 14 = .ok (.iload_n 1, 1) := fp_hdX11_keep_0.1.1.2.1.1.1
theorem dX11_keep_15 : decode cX11_keep 15 = .ok (.aaload, 1) := fp_hdX11_keep_0.1.1.2.1.1.2
theorem dX11_keep_16 : decode cX11_keep 16 = .ok (.astore_n 2, 1) := fp_hdX11_keep_0.1.1.2.1.2.1
theorem dX11_keep_17 : decode cX11_keep 17 = .ok (.aload_n 2, 1) := fp_hdX11_keep_0.1.1.2.1.2.2
theorem dX11_keep_18 : decode cX11_keep 18 = .ok (.getfield 122, 3) := fp_hdX11_keep_0.1.1.2.2.1.1
theorem dX11_keep_21 : decode cX11_keep 21 = .ok (.ifCond .eq 7, 3) := fp_hdX11_keep_0.1.1.2.2.1.2
theorem dX11_keep_24 : decode cX11_keep 24 = .ok (.iconst 1, 1) := fp_hdX11_keep_0.1.1.2.2.2.1
theorem dX11_keep_25 : decode cX11_keep 25 = .ok (.goto 4, 3) := fp_hdX11_keep_0.1.1.2.2.2.2
theorem dX11_keep_28 : decode cX11_keep 28 = .ok (.iconst 0, 1) := fp_hdX11_keep_0.1.2.1.1.1.1
theorem dX11_keep_29 : decode cX11_keep 29 = .ok (.istore_n 3, 1) := fp_hdX11_keep_0.1.2.1.1.1.2
theorem dX11_keep_30 : decode cX11_keep 30 = .ok (.aload_n 2, 1) := fp_hdX11_keep_0.1.2.1.1.2.1
theorem dX11_keep_31 : decode cX11_keep 31 = .ok (.iconst 1, 1) := fp_hdX11_keep_0.1.2.1.1.2.2
theorem dX11_keep_32 : decode cX11_keep 32 = .ok (.putfield 122, 3) := fp_hdX11_keep_0.1.2.1.2.1.1
theorem dX11_keep_35 : decode cX11_keep 35 = .ok (.aload_n 2, 1) := fp_hdX11_keep_0.1.2.1.2.1.2
theorem dX11_keep_36 : decode cX11_keep 36 = .ok (.getfield 313, 3) := fp_hdX11_keep_0.1.2.1.2.2.1
theorem dX11_keep_39 : decode cX11_keep 39 = .ok (.aload_n 0, 1) := fp_hdX11_keep_0.1.2.1.2.2.2
theorem dX11_keep_40 : decode cX11_keep 40 = .ok (.getfield 30, 3) := fp_hdX11_keep_0.1.2.2.1.1.1
theorem dX11_keep_43 : decode cX11_keep 43 = .ok (.invokevirtual 112, 3) := fp_hdX11_keep_0.1.2.2.1.1.2
theorem dX11_keep_46 : decode cX11_keep 46 = .ok (.aload_n 2, 1) := fp_hdX11_keep_0.1.2.2.1.2.1
theorem dX11_keep_47 : decode cX11_keep 47 = .ok (.getfield 314, 3) := fp_hdX11_keep_0.1.2.2.1.2.2
theorem dX11_keep_50 : decode cX11_keep 50 = .ok (.aload_n 0, 1) := fp_hdX11_keep_0.1.2.2.2.1.1
theorem dX11_keep_51 : decode cX11_keep 51 = .ok (.getfield 37, 3) := fp_hdX11_keep_0.1.2.2.2.1.2
theorem dX11_keep_54 : decode cX11_keep 54 = .ok (.invokevirtual 116, 3) := fp_hdX11_keep_0.1.2.2.2.2.1
theorem dX11_keep_57 : decode cX11_keep 57 = .ok (.aload_n 2, 1) := fp_hdX11_keep_0.1.2.2.2.2.2
theorem fp_hdX11_keep_58 : (((decode cX11_keep 58 = .ok (.getfield 315, 3) ∧ decode cX11_keep 61 = .ok (.aload_n 0, 1)) ∧ decode cX11_keep 62 = .ok (.getfield 44, 3)) ∧ ((decode cX11_keep 65 = .ok (.invokevirtual 316, 3) ∧ decode cX11_keep 68 = .ok (.iload_n 3, 1)) ∧ decode cX11_keep 69 = .ok (.ireturn, 1))) ∧ bA cX11_keep 70 [] :=
  have q0 := fp_o180 (v := 315) fp_hdX11_keep_0.2 rfl
  have q1 := fp_o42 q0.2
  have q2 := fp_o180 (v := 44) q1.2 rfl
  have q3 := fp_o182 (v := 316) q2.2 rfl
  have q4 := fp_o29 q3.2
  have q5 := fp_o172 q4.2
  ⟨⟨⟨⟨q0.1, q1.1⟩, q2.1⟩, ⟨⟨q3.1, q4.1⟩, q5.1⟩⟩, q5.2⟩
theorem dX11_keep_58 : decode cX11_keep 58 = .ok (.getfield 315, 3) := fp_hdX11_keep_58.1.1.1.1
theorem dX11_keep_61 : decode cX11_keep 61 = .ok (.aload_n 0, 1) := fp_hdX11_keep_58.1.1.1.2
theorem dX11_keep_62 : decode cX11_keep 62 = .ok (.getfield 44, 3) := fp_hdX11_keep_58.1.1.2
theorem dX11_keep_65 : decode cX11_keep 65 = .ok (.invokevirtual 316, 3) := fp_hdX11_keep_58.1.2.1.1
theorem dX11_keep_68 : decode cX11_keep 68 = .ok (.iload_n 3, 1) := fp_hdX11_keep_58.1.2.1.2
theorem dX11_keep_69 : decode cX11_keep 69 = .ok (.ireturn, 1) := fp_hdX11_keep_58.1.2.2
def fp_scX11_back_1 : List Nat := 180 :: 0 :: 37 :: 180 :: 0 :: 205 :: 172 :: []
def fp_scX11_back_0 : List Nat := 27 :: 4 :: 184 :: 0 :: 221 :: 154 :: 0 :: 5 :: 2 :: 172 :: 42 :: 180 :: 0 :: 78 :: 27 :: 50 :: 77 :: 44 :: 180 :: 0 :: 122 :: 154 :: 0 :: 6 :: 16 :: 254 :: 172 :: 42 :: 180 :: 0 :: 30 :: 44 :: 180 :: 1 :: 57 :: 182 :: 0 :: 112 :: 42 :: 180 :: 0 :: 37 :: 44 :: 180 :: 1 :: 58 :: 182 :: 0 :: 116 :: 42 :: 180 :: 0 :: 44 :: 44 :: 180 :: 1 :: 59 :: 182 :: 1 :: 60 :: 42 :: fp_scX11_back_1
theorem fp_bcX11_back : bA cX11_back 0 fp_scX11_back_0 := show cX11_back.data.toList.map UInt8.toNat = fp_scX11_back_0 from by decide +kernel
theorem fp_hdX11_back_0 : (((((decode cX11_back 0 = .ok (.iload_n 1, 1) ∧ decode cX11_back 1 = .ok (.iconst 1, 1)) ∧ (decode cX11_back 2 = .ok (.invokestatic 221, 3) ∧ decode cX11_back 5 = .ok (.ifCond .ne 5, 3))) ∧ ((decode cX11_back 8 = .ok (.iconst (-1), 1) ∧ decode cX11_back 9 = .ok (.ireturn, 1)) ∧ (decode cX11_back 10 = .ok (.aload_n 0, 1) ∧ decode cX11_back 11 = .ok (.getfield 78, 3)))) ∧ (((decode cX11_back 14 = .ok (.iload_n 1, 1) ∧ decode cX11_back 15 = .ok (.aaload, 1)) ∧ (decode cX11_back 16 = .ok (.astore_n 2, 1) ∧ decode cX11_back 17 = .ok (.aload_n 2, 1))) ∧ ((decode cX11_back 18 = .ok (.getfield 122, 3) ∧ decode cX11_back 21 = .ok (.ifCond .ne 6, 3)) ∧ (decode cX11_back 24 = .ok (.bipush (-2), 2) ∧ decode cX11_back 26 = .ok (.ireturn, 1))))) ∧ ((((decode cX11_back 27 = .ok (.aload_n 0, 1) ∧ decode cX11_back 28 = .ok (.getfield 30, 3)) ∧ (decode cX11_back 31 = .ok (.aload_n 2, 1) ∧ decode cX11_back 32 = .ok (.getfield 313, 3))) ∧ ((decode cX11_back 35 = .ok (.invokevirtual 112, 3) ∧ decode cX11_back 38 = .ok (.aload_n 0, 1)) ∧ (decode cX11_back 39 = .ok (.getfield 37, 3) ∧ decode cX11_back 42 = .ok (.aload_n 2, 1)))) ∧ (((decode cX11_back 43 = .ok (.getfield 314, 3) ∧ decode cX11_back 46 = .ok (.invokevirtual 116, 3)) ∧ (decode cX11_back 49 = .ok (.aload_n 0, 1) ∧ decode cX11_back 50 = .ok (.getfield 44, 3))) ∧ ((decode cX11_back 53 = .ok (.aload_n 2, 1) ∧ decode cX11_back 54 = .ok (.getfield 315, 3)) ∧ (decode cX11_back 57 = .ok (.invokevirtual 316, 3) ∧ decode cX11_back 60 = .ok (.aload_n 0, 1)))))) ∧ bA cX11_back 61 fp_scX11_back_1 :=
  have q0 := fp_o27 fp_bcX11_back
  have q1 := fp_o4 q0.2
  have q2 := fp_o184 (v := 221) q1.2 rfl
  have q3 := fp_o154 (v := 5) q2.2 rfl
  have q4 := fp_o2 q3.2
  have q5 := fp_o172 q4.2
  have q6 := fp_o42 q5.2
  have q7 := fp_o180 (v := 78) q6.2 rfl
  have q8 := fp_o27 q7.2
  have q9 := fp_o50 q8.2
  have q10 := fp_o77 q9.2
  have q11 := fp_o44 q10.2
  have q12 := fp_o180 (v := 122) q11.2 rfl
  have q13 := fp_o154 (v := 6) q12.2 rfl
  have q14 := fp_o16 (v := (-2)) q13.2 rfl
  have q15 := fp_o172 q14.2
  have q16 := fp_o42 q15.2
  have q17 := fp_o180 (v := 30) q16.2 rfl
  have q18 := fp_o44 q17.2
  have q19 := fp_o180 (v := 313) q18.2 rfl
  have q20 := fp_o182 (v := 112) q19.2 rfl
  have q21 := fp_o42 q20.2
  have q22 := fp_o180 (v := 37) q21.2 rfl
  have q23 := fp_o44 q22.2
  have q24 := fp_o180 (v := 314) q23.2 rfl
  have q25 := fp_o182 (v := 116) q24.2 rfl
  have q26 := fp_o42 q25.2
  have q27 := fp_o180 (v := 44) q26.2 rfl
  have q28 := fp_o44 q27.2
  have q29 := fp_o180 (v := 315) q28.2 rfl
  have q30 := fp_o182 (v := 316) q29.2 rfl
  have q31 := fp_o42 q30.2
  ⟨⟨⟨⟨⟨⟨q0.1, q1.1⟩, ⟨q2.1, q3.1⟩⟩, ⟨⟨q4.1, q5.1⟩, ⟨q6.1, q7.1⟩⟩⟩, ⟨⟨⟨q8.1, q9.1⟩, ⟨q10.1, q11.1⟩⟩, ⟨⟨q12.1, q13.1⟩, ⟨q14.1, q15.1⟩⟩⟩⟩, ⟨⟨⟨⟨q16.1, q17.1⟩, ⟨q18.1, q19.1⟩⟩, ⟨⟨q20.1, q21.1⟩, ⟨q22.1, q23.1⟩⟩⟩, ⟨⟨⟨q24.1, q25.1⟩, ⟨q26.1, q27.1⟩⟩, ⟨⟨q28.1, q29.1⟩, ⟨q30.1, q31.1⟩⟩⟩⟩⟩, q31.2⟩
theorem dX11_back_0 : decode cX11_back 0 = .ok (.iload_n 1, 1) := fp_hdX11_back_0.1.1.1.1.1.1
theorem dX11_back_1 : decode cX11_back 1 = .ok (.iconst 1, 1) := fp_hdX11_back_0.1.1.1.1.1.2
theorem dX11_back_2 : decode cX11_back 2 = .ok (.invokestatic 221, 3) := fp_hdX11_back_0.1.1.1.1.2.1
theorem dX11_back_5 : decode cX11_back 5 = .ok (.ifCond .ne 5, 3) := fp_hdX11_back_0.1.1.1.1.2.2
theorem dX11_back_8 : decode cX11_back 8 = .ok (.iconst (-1), 1) := fp_hdX11_back_0.1.1.1.2.1.1
theorem dX11_back_9 : decode cX11_back 9 = .ok (.ireturn, 1) := fp_hdX11_back_0.1.1.1.2.1.2
theorem dX11_back_10 : decode cX11_back 10 = .ok (.aload_n 0, 1) := fp_hdX11_back_0.1.1.1.2.2.1
theorem dX11_back_11 : decode cX11_back 11 = .ok (.getfield 78, 3) := fp_hdX11_back_0.1.1.1.2.2.2
theorem dX11_back_14 : decode cX11_back 14 = .ok (.iload_n 1, 1) := fp_hdX11_back_0.1.1.2.1.1.1
theorem dX11_back_15 : decode cX11_back 15 = .ok (.aaload, 1) := fp_hdX11_back_0.1.1.2.1.1.2
theorem dX11_back_16 : decode cX11_back 16 = .ok (.astore_n 2, 1) := fp_hdX11_back_0.1.1.2.1.2.1
theorem dX11_back_17 : decode cX11_back 17 = .ok (.aload_n 2, 1) := fp_hdX11_back_0.1.1.2.1.2.2
theorem dX11_back_18 : decode cX11_back 18 = .ok (.getfield 122, 3) := fp_hdX11_back_0.1.1.2.2.1.1
theorem dX11_back_21 : decode cX11_back 21 = .ok (.ifCond .ne 6, 3) := fp_hdX11_back_0.1.1.2.2.1.2
theorem dX11_back_24 : decode cX11_back 24 = .ok (.bipush (-2), 2) := fp_hdX11_back_0.1.1.2.2.2.1
theorem dX11_back_26 : decode cX11_back 26 = .ok (.ireturn, 1) := fp_hdX11_back_0.1.1.2.2.2.2
theorem dX11_back_27 : decode cX11_back 27 = .ok (.aload_n 0, 1) := fp_hdX11_back_0.1.2.1.1.1.1
theorem dX11_back_28 : decode cX11_back 28 = .ok (.getfield 30, 3) := fp_hdX11_back_0.1.2.1.1.1.2
theorem dX11_back_31 : decode cX11_back 31 = .ok (.aload_n 2, 1) := fp_hdX11_back_0.1.2.1.1.2.1
theorem dX11_back_32 : decode cX11_back 32 = .ok (.getfield 313, 3) := fp_hdX11_back_0.1.2.1.1.2.2
theorem dX11_back_35 : decode cX11_back 35 = .ok (.invokevirtual 112, 3) := fp_hdX11_back_0.1.2.1.2.1.1
theorem dX11_back_38 : decode cX11_back 38 = .ok (.aload_n 0, 1) := fp_hdX11_back_0.1.2.1.2.1.2
theorem dX11_back_39 : decode cX11_back 39 = .ok (.getfield 37, 3) := fp_hdX11_back_0.1.2.1.2.2.1
theorem dX11_back_42 : decode cX11_back 42 = .ok (.aload_n 2, 1) := fp_hdX11_back_0.1.2.1.2.2.2
theorem dX11_back_43 : decode cX11_back 43 = .ok (.getfield 314, 3) := fp_hdX11_back_0.1.2.2.1.1.1
theorem dX11_back_46 : decode cX11_back 46 = .ok (.invokevirtual 116, 3) := fp_hdX11_back_0.1.2.2.1.1.2
theorem dX11_back_49 : decode cX11_back 49 = .ok (.aload_n 0, 1) := fp_hdX11_back_0.1.2.2.1.2.1
theorem dX11_back_50 : decode cX11_back 50 = .ok (.getfield 44, 3) := fp_hdX11_back_0.1.2.2.1.2.2
theorem dX11_back_53 : decode cX11_back 53 = .ok (.aload_n 2, 1) := fp_hdX11_back_0.1.2.2.2.1.1
theorem dX11_back_54 : decode cX11_back 54 = .ok (.getfield 315, 3) := fp_hdX11_back_0.1.2.2.2.1.2
theorem dX11_back_57 : decode cX11_back 57 = .ok (.invokevirtual 316, 3) := fp_hdX11_back_0.1.2.2.2.2.1
theorem dX11_back_60 : decode cX11_back 60 = .ok (.aload_n 0, 1) := fp_hdX11_back_0.1.2.2.2.2.2
theorem fp_hdX11_back_61 : ((decode cX11_back 61 = .ok (.getfield 37, 3) ∧ decode cX11_back 64 = .ok (.getfield 205, 3)) ∧ decode cX11_back 67 = .ok (.ireturn, 1)) ∧ bA cX11_back 68 [] :=
  have q0 := fp_o180 (v := 37) fp_hdX11_back_0.2 rfl
  have q1 := fp_o180 (v := 205) q0.2 rfl
  have q2 := fp_o172 q1.2
  ⟨⟨⟨q0.1, q1.1⟩, q2.1⟩, q2.2⟩
theorem dX11_back_61 : decode cX11_back 61 = .ok (.getfield 37, 3) := fp_hdX11_back_61.1.1.1
theorem dX11_back_64 : decode cX11_back 64 = .ok (.getfield 205, 3) := fp_hdX11_back_61.1.1.2
theorem dX11_back_67 : decode cX11_back 67 = .ok (.ireturn, 1) := fp_hdX11_back_61.1.2
def fp_scX11_sheet_0 : List Nat := 27 :: 6 :: 184 :: 0 :: 221 :: 153 :: 0 :: 17 :: 28 :: 5 :: 184 :: 0 :: 221 :: 153 :: 0 :: 9 :: 29 :: 16 :: 40 :: 164 :: 0 :: 5 :: 2 :: 172 :: 29 :: 156 :: 0 :: 6 :: 16 :: 242 :: 172 :: 42 :: 180 :: 0 :: 84 :: 27 :: 50 :: 28 :: 29 :: 182 :: 1 :: 63 :: 4 :: 172 :: []
theorem fp_bcX11_sheet : bA cX11_sheet 0 fp_scX11_sheet_0 := show cX11_sheet.data.toList.map UInt8.toNat = fp_scX11_sheet_0 from by decide +kernel
theorem fp_hdX11_sheet_0 : (((((decode cX11_sheet 0 = .ok (.iload_n 1, 1) ∧ decode cX11_sheet 1 = .ok (.iconst 3, 1)) ∧ (decode cX11_sheet 2 = .ok (.invokestatic 221, 3) ∧ decode cX11_sheet 5 = .ok (.ifCond .eq 17, 3))) ∧ ((decode cX11_sheet 8 = .ok (.iload_n 2, 1) ∧ decode cX11_sheet 9 = .ok (.iconst 2, 1)) ∧ decode cX11_sheet 10 = .ok (.invokestatic 221, 3))) ∧ (((decode cX11_sheet 13 = .ok (.ifCond .eq 9, 3) ∧ decode cX11_sheet 16 = .ok (.iload_n 3, 1)) ∧ decode cX11_sheet 17 = .ok (.bipush 40, 2)) ∧ ((decode cX11_sheet 19 = .ok (.if_icmp .le 5, 3) ∧ decode cX11_sheet 22 = .ok (.iconst (-1), 1)) ∧ decode cX11_sheet 23 = .ok (.ireturn, 1)))) ∧ ((((decode cX11_sheet 24 = .ok (.iload_n 3, 1) ∧ decode cX11_sheet 25 = .ok (.ifCond .ge 6, 3)) ∧ (decode cX11_sheet 28 = .ok (.bipush (-14), 2) ∧ decode cX11_sheet 30 = .ok (.ireturn, 1))) ∧ ((decode cX11_sheet 31 = .ok (.aload_n 0, 1) ∧ decode cX11_sheet 32 = .ok (.getfield 84, 3)) ∧ decode cX11_sheet 35 = .ok (.iload_n 1, 1))) ∧ (((decode cX11_sheet 36 = .ok (.aaload, 1) ∧ decode cX11_sheet 37 = .ok (.iload_n 2, 1)) ∧ decode cX11_sheet 38 = .ok (.iload_n 3, 1)) ∧ ((decode cX11_sheet 39 = .ok (.invokevirtual 319, 3) ∧ decode cX11_sheet 42 = .ok (.iconst 1, 1)) ∧ decode cX11_sheet 43 = .ok (.ireturn, 1))))) ∧ bA cX11_sheet 44 [] :=
  have q0 := fp_o27 fp_bcX11_sheet
  have q1 := fp_o6 q0.2
  have q2 := fp_o184 (v := 221) q1.2 rfl
  have q3 := fp_o153 (v := 17) q2.2 rfl
  have q4 := fp_o28 q3.2
  have q5 := fp_o5 q4.2
  have q6 := fp_o184 (v := 221) q5.2 rfl
  have q7 := fp_o153 (v := 9) q6.2 rfl
  have q8 := fp_o29 q7.2
  have q9 := fp_o16 (v := 40) q8.2 rfl
  have q10 := fp_o164 (v := 5) q9.2 rfl
  have q11 := fp_o2 q10.2
  have q12 := fp_o172 q11.2
  have q13 := fp_o29 q12.2
  have q14 := fp_o156 (v := 6) q13.2 rfl
  have q15 := fp_o16 (v := (-14)) q14.2 rfl
  have q16 := fp_o172 q15.2
  have q17 := fp_o42 q16.2
  have q18 := fp_o180 (v := 84) q17.2 rfl
  have q19 := fp_o27 q18.2
  have q20 := fp_o50 q19.2
  have q21 := fp_o28 q20.2
  have q22 := fp_o29 q21.2
  have q23 := fp_o182 (v := 319) q22.2 rfl
  have q24 := fp_o4 q23.2
  have q25 := fp_o172 q24.2
  ⟨⟨⟨⟨⟨⟨q0.1, q1.1⟩, ⟨q2.1, q3.1⟩⟩, ⟨⟨q4.1, q5.1⟩, q6.1⟩⟩, ⟨⟨⟨q7.1, q8.1⟩, q9.1⟩, ⟨⟨q10.1, q11.1⟩, q12.1⟩⟩⟩, ⟨⟨⟨⟨q13.1, q14.1⟩, ⟨q15.1, q16.1⟩⟩, ⟨⟨q17.1, q18.1⟩, q19.1⟩⟩, ⟨⟨⟨q20.1, q21.1⟩, q22.1⟩, ⟨⟨q23.1, q24.1⟩, q25.1⟩⟩⟩⟩, q25.2⟩
theorem dX11_sheet_0 : decode cX11_sheet 0 = .ok (.iload_n 1, 1) := fp_hdX11_sheet_0.1.1.1.1.1.1
theorem dX11_sheet_1 : decode cX11_sheet 1 = .ok (.iconst 3, 1) := fp_hdX11_sheet_0.1.1.1.1.1.2
theorem dX11_sheet_2 : decode cX11_sheet 2 = .ok (.invokestatic 221, 3) := fp_hdX11_sheet_0.1.1.1.1.2.1
theorem dX11_sheet_5 : decode cX11_sheet 5 = .ok (.ifCond .eq 17, 3) := fp_hdX11_sheet_0.1.1.1.1.2.2
theorem dX11_sheet_8 : decode cX11_sheet 8 = .ok (.iload_n 2, 1) := fp_hdX11_sheet_0.1.1.1.2.1.1
theorem dX11_sheet_9 : decode cX11_sheet 9 = .ok (.iconst 2, 1) := fp_hdX11_sheet_0.1.1.1.2.1.2
theorem dX11_sheet_10 : decode cX11_sheet 10 = .ok (.invokestatic 221, 3) := fp_hdX11_sheet_0.1.1.1.2.2
theorem dX11_sheet_13 : decode cX11_sheet 13 = .ok (.ifCond .eq 9, 3) := fp_hdX11_sheet_0.1.1.2.1.1.1
theorem dX11_sheet_16 : decode cX11_sheet 16 = .ok (.iload_n 3, 1) := fp_hdX11_sheet_0.1.1.2.1.1.2
theorem dX11_sheet_17 : decode cX11_sheet 17 = .ok (.bipush 40, 2) := fp_hdX11_sheet_0.1.1.2.1.2
theorem dX11_sheet_19 : decode cX11_sheet 19 = .ok (.if_icmp .le 5, 3) := fp_hdX11_sheet_0.1.1.2.2.1.1
theorem dX11_sheet_22 : decode cX11_sheet 22 = .ok (.iconst (-1), 1) := fp_hdX11_sheet_0.1.1.2.2.1.2
theorem dX11_sheet_23 : decode cX11_sheet 23 = .ok (.ireturn, 1) := fp_hdX11_sheet_0.1.1.2.2.2
theorem dX11_sheet_24 : decode cX11_sheet 24 = .ok (.iload_n 3, 1) := fp_hdX11_sheet_0.1.2.1.1.1.1
theorem dX11_sheet_25 : decode cX11_sheet 25 = .ok (.ifCond .ge 6, 3) := fp_hdX11_sheet_0.1.2.1.1.1.2
theorem dX11_sheet_28 : decode cX11_sheet 28 = .ok (.bipush (-14), 2) := fp_hdX11_sheet_0.1.2.1.1.2.1
theorem dX11_sheet_30 : decode cX11_sheet 30 = .ok (.ireturn, 1) := fp_hdX11_sheet_0.1.2.1.1.2.2
theorem dX11_sheet_31 : decode cX11_sheet 31 = .ok (.aload_n 0, 1) := fp_hdX11_sheet_0.1.2.1.2.1.1
theorem dX11_sheet_32 : decode cX11_sheet 32 = .ok (.getfield 84, 3) := fp_hdX11_sheet_0.1.2.1.2.1.2
theorem dX11_sheet_35 : decode cX11_sheet 35 = .ok (.iload_n 1, 1) := fp_hdX11_sheet_0.1.2.1.2.2
theorem dX11_sheet_36 : decode cX11_sheet 36 = .ok (.aaload, 1) := fp_hdX11_sheet_0.1.2.2.1.1.1
theorem dX11_sheet_37 : decode cX11_sheet 37 = .ok (.iload_n 2, 1) := fp_hdX11_sheet_0.1.2.2.1.1.2
theorem dX11_sheet_38 : decode cX11_sheet 38 = .ok (.iload_n 3, 1) := fp_hdX11_sheet_0.1.2.2.1.2
theorem dX11_sheet_39 : decode cX11_sheet 39 = .ok (.invokevirtual 319, 3) := fp_hdX11_sheet_0.1.2.2.2.1.1
theorem dX11_sheet_42 : decode cX11_sheet 42 = .ok (.iconst 1, 1) := fp_hdX11_sheet_0.1.2.2.2.1.2
theorem dX11_sheet_43 : decode cX11_sheet 43 = .ok (.ireturn, 1) := fp_hdX11_sheet_0.1.2.2.2.2
def fp_scX11_lay_0 : List Nat := 27 :: 6 :: 184 :: 0 :: 221 :: 154 :: 0 :: 5 :: 2 :: 172 :: 42 :: 180 :: 0 :: 84 :: 27 :: 50 :: 58 :: 4 :: 25 :: 4 :: 182 :: 1 :: 67 :: 154 :: 0 :: 6 :: 16 :: 245 :: 172 :: 25 :: 4 :: 28 :: 182 :: 1 :: 71 :: 154 :: 0 :: 6 :: 16 :: 244 :: 172 :: 25 :: 4 :: 28 :: 29 :: 182 :: 1 :: 72 :: 4 :: 172 :: []
theorem fp_bcX11_lay : bA cX11_lay 0 fp_scX11_lay_0 := show cX11_lay.data.toList.map UInt8.toNat = fp_scX11_lay_0 from by decide +kernel
theorem fp_hdX11_lay_0 : (((((decode cX11_lay 0 = .ok (.iload_n 1, 1) ∧ decode cX11_lay 1 = .ok (.iconst 3, 1)) ∧ (decode cX11_lay 2 = .ok (.invokestatic 221, 3) ∧ decode cX11_lay 5 = .ok (.ifCond .ne 5, 3))) ∧ ((decode cX11_lay 8 = .ok (.iconst (-1), 1) ∧ decode cX11_lay 9 = .ok (.ireturn, 1)) ∧ decode cX11_lay 10 = .ok (.aload_n 0, 1))) ∧ (((decode cX11_lay 11 = .ok (.getfield 84, 3) ∧ decode cX11_lay 14 = .ok (.iload_n 1, 1)) ∧ (decode cX11_lay 15 = .ok (.aaload, 1) ∧ decode cX11_lay 16 = .ok (.astore 4, 2))) ∧ ((decode cX11_lay 18 = .ok (.aload 4, 2) ∧ decode cX11_lay 20 = .ok (.invokevirtual 323, 3)) ∧ decode cX11_lay 23 = .ok (.ifCond .ne 6, 3)))) ∧ ((((decode cX11_lay 26 = .ok (.bipush (-11), 2) ∧ decode cX11_lay 28 = .ok (.ireturn, 1)) ∧ (decode cX11_lay 29 = .ok (.aload 4, 2) ∧ decode cX11_lay 31 = .ok (.iload_n 2, 1))) ∧ ((decode cX11_lay 32 = .ok (.invokevirtual 327, 3) ∧ decode cX11_lay 35 = .ok (.ifCond .ne 6, 3)) ∧ decode cX11_lay 38 = .ok (.bipush (-12), 2))) ∧ (((decode cX11_lay 40 = .ok (.ireturn, 1) ∧ decode cX11_lay 41 = .ok (.aload 4, 2)) ∧ (decode cX11_lay 43 = .ok (.iload_n 2, 1) ∧ decode cX11_lay 44 = .ok (.iload_n 3, 1))) ∧ ((decode cX11_lay 45 = .ok (.invokevirtual 328, 3) ∧ decode cX11_lay 48 = .ok (.iconst 1, 1)) ∧ decode cX11_lay 49 = .ok (.ireturn, 1))))) ∧ bA cX11_lay 50 [] :=
  have q0 := fp_o27 fp_bcX11_lay
  have q1 := fp_o6 q0.2
  have q2 := fp_o184 (v := 221) q1.2 rfl
  have q3 := fp_o154 (v := 5) q2.2 rfl
  have q4 := fp_o2 q3.2
  have q5 := fp_o172 q4.2
  have q6 := fp_o42 q5.2
  have q7 := fp_o180 (v := 84) q6.2 rfl
  have q8 := fp_o27 q7.2
  have q9 := fp_o50 q8.2
  have q10 := fp_o58 q9.2
  have q11 := fp_o25 q10.2
  have q12 := fp_o182 (v := 323) q11.2 rfl
  have q13 := fp_o154 (v := 6) q12.2 rfl
  have q14 := fp_o16 (v := (-11)) q13.2 rfl
  have q15 := fp_o172 q14.2
  have q16 := fp_o25 q15.2
  have q17 := fp_o28 q16.2
  have q18 := fp_o182 (v := 327) q17.2 rfl
  have q19 := fp_o154 (v := 6) q18.2 rfl
  have q20 := fp_o16 (v := (-12)) q19.2 rfl
  have q21 := fp_o172 q20.2
  have q22 := fp_o25 q21.2
  have q23 := fp_o28 q22.2
  have q24 := fp_o29 q23.2
  have q25 := fp_o182 (v := 328) q24.2 rfl
  have q26 := fp_o4 q25.2
  have q27 := fp_o172 q26.2
  ⟨⟨⟨⟨⟨⟨q0.1, q1.1⟩, ⟨q2.1, q3.1⟩⟩, ⟨⟨q4.1, q5.1⟩, q6.1⟩⟩, ⟨⟨⟨q7.1, q8.1⟩, ⟨q9.1, q10.1⟩⟩, ⟨⟨q11.1, q12.1⟩, q13.1⟩⟩⟩, ⟨⟨⟨⟨q14.1, q15.1⟩, ⟨q16.1, q17.1⟩⟩, ⟨⟨q18.1, q19.1⟩, q20.1⟩⟩, ⟨⟨⟨q21.1, q22.1⟩, ⟨q23.1, q24.1⟩⟩, ⟨⟨q25.1, q26.1⟩, q27.1⟩⟩⟩⟩, q27.2⟩
theorem dX11_lay_0 : decode cX11_lay 0 = .ok (.iload_n 1, 1) := fp_hdX11_lay_0.1.1.1.1.1.1
theorem dX11_lay_1 : decode cX11_lay 1 = .ok (.iconst 3, 1) := fp_hdX11_lay_0.1.1.1.1.1.2
theorem dX11_lay_2 : decode cX11_lay 2 = .ok (.invokestatic 221, 3) := fp_hdX11_lay_0.1.1.1.1.2.1
theorem dX11_lay_5 : decode cX11_lay 5 = .ok (.ifCond .ne 5, 3) := fp_hdX11_lay_0.1.1.1.1.2.2
theorem dX11_lay_8 : decode cX11_lay 8 = .ok (.iconst (-1), 1) := fp_hdX11_lay_0.1.1.1.2.1.1
theorem dX11_lay_9 : decode cX11_lay 9 = .ok (.ireturn, 1) := fp_hdX11_lay_0.1.1.1.2.1.2
theorem dX11_lay_10 : decode cX11_lay 10 = .ok (.aload_n 0, 1) := fp_hdX11_lay_0.1.1.1.2.2
theorem dX11_lay_11 : decode cX11_lay 11 = .ok (.getfield 84, 3) := fp_hdX11_lay_0.1.1.2.1.1.1
theorem dX11_lay_14 : decode cX11_lay 14 = .ok (.iload_n 1, 1) := fp_hdX11_lay_0.1.1.2.1.1.2
theorem dX11_lay_15 : decode cX11_lay 15 = .ok (.aaload, 1) := fp_hdX11_lay_0.1.1.2.1.2.1
theorem dX11_lay_16 : decode cX11_lay 16 = .ok (.astore 4, 2) := fp_hdX11_lay_0.1.1.2.1.2.2
theorem dX11_lay_18 : decode cX11_lay 18 = .ok (.aload 4, 2) := fp_hdX11_lay_0.1.1.2.2.1.1
theorem dX11_lay_20 : decode cX11_lay 20 = .ok (.invokevirtual 323, 3) := fp_hdX11_lay_0.1.1.2.2.1.2
theorem dX11_lay_23 : decode cX11_lay 23 = .ok (.ifCond .ne 6, 3) := fp_hdX11_lay_0.1.1.2.2.2
theorem dX11_lay_26 : decode cX11_lay 26 = .ok (.bipush (-11), 2) := fp_hdX11_lay_0.1.2.1.1.1.1
theorem dX11_lay_28 : decode cX11_lay 28 = .ok (.ireturn, 1) := fp_hdX11_lay_0.1.2.1.1.1.2
theorem dX11_lay_29 : decode cX11_lay 29 = .ok (.aload 4, 2) := fp_hdX11_lay_0.1.2.1.1.2.1
theorem dX11_lay_31 : decode cX11_lay 31 = .ok (.iload_n 2, 1) := fp_hdX11_lay_0.1.2.1.1.2.2
theorem dX11_lay_32 : decode cX11_lay 32 = .ok (.invokevirtual 327, 3) := fp_hdX11_lay_0.1.2.1.2.1.1
theorem dX11_lay_35 : decode cX11_lay 35 = .ok (.ifCond .ne 6, 3) := fp_hdX11_lay_0.1.2.1.2.1.2
theorem dX11_lay_38 : decode cX11_lay 38 = .ok (.bipush (-12), 2) := fp_hdX11_lay_0.1.2.1.2.2
theorem dX11_lay_40 : decode cX11_lay 40 = .ok (.ireturn, 1) := fp_hdX11_lay_0.1.2.2.1.1.1
theorem dX11_lay_41 : decode cX11_lay 41 = .ok (.aload 4, 2) := fp_hdX11_lay_0.1.2.2.1.1.2
theorem dX11_lay_43 : decode cX11_lay 43 = .ok (.iload_n 2, 1) := fp_hdX11_lay_0.1.2.2.1.2.1
theorem dX11_lay_44 : decode cX11_lay 44 = .ok (.iload_n 3, 1) := fp_hdX11_lay_0.1.2.2.1.2.2
theorem dX11_lay_45 : decode cX11_lay 45 = .ok (.invokevirtual 328, 3) := fp_hdX11_lay_0.1.2.2.2.1.1
theorem dX11_lay_48 : decode cX11_lay 48 = .ok (.iconst 1, 1) := fp_hdX11_lay_0.1.2.2.2.1.2
theorem dX11_lay_49 : decode cX11_lay 49 = .ok (.ireturn, 1) := fp_hdX11_lay_0.1.2.2.2.2
def fp_scX11_read_2 : List Nat := 21 :: 7 :: 181 :: 0 :: 205 :: 16 :: 236 :: 21 :: 8 :: 100 :: 172 :: 132 :: 8 :: 1 :: 167 :: 255 :: 197 :: 42 :: 3 :: 181 :: 1 :: 78 :: 21 :: 4 :: 172 :: []
def fp_scX11_read_1 : List Nat := 3 :: 172 :: 42 :: 180 :: 0 :: 37 :: 180 :: 0 :: 205 :: 54 :: 7 :: 3 :: 54 :: 8 :: 21 :: 8 :: 21 :: 4 :: 162 :: 0 :: 58 :: 25 :: 5 :: 29 :: 21 :: 8 :: 182 :: 1 :: 81 :: 154 :: 0 :: 11 :: 42 :: 5 :: 181 :: 1 :: 78 :: 21 :: 8 :: 172 :: 42 :: 25 :: 5 :: 29 :: 21 :: 8 :: 7 :: 104 :: 96 :: 182 :: 1 :: 84 :: 156 :: 0 :: 18 :: 42 :: 180 :: 0 :: 37 :: fp_scX11_read_2
def fp_scX11_read_0 : List Nat := 27 :: 6 :: 184 :: 0 :: 221 :: 153 :: 0 :: 21 :: 28 :: 5 :: 184 :: 0 :: 221 :: 153 :: 0 :: 13 :: 21 :: 4 :: 16 :: 10 :: 184 :: 0 :: 221 :: 154 :: 0 :: 5 :: 2 :: 172 :: 42 :: 180 :: 0 :: 84 :: 27 :: 50 :: 58 :: 5 :: 21 :: 4 :: 154 :: 0 :: 7 :: 3 :: 167 :: 0 :: 9 :: 25 :: 5 :: 28 :: 182 :: 1 :: 75 :: 54 :: 6 :: 21 :: 6 :: 153 :: 0 :: 11 :: 42 :: 21 :: 6 :: 181 :: 1 :: 78 :: fp_scX11_read_1
theorem fp_bcX11_read : bA cX11_read 0 fp_scX11_read_0 := show cX11_read.data.toList.map UInt8.toNat = fp_scX11_read_0 from by decide +kernel
theorem fp_hdX11_read_0 : (((((decode cX11_read 0 = .ok (.iload_n 1, 1) ∧ decode cX11_read 1 = .ok (.iconst 3, 1)) ∧ (decode cX11_read 2 = .ok (.invokestatic 221, 3) ∧ decode cX11_read 5 = .ok (.ifCond .eq 21, 3))) ∧ ((decode cX11_read 8 = .ok (.iload_n 2, 1) ∧ decode cX11_read 9 = .ok (.iconst 2, 1)) ∧ (decode cX11_read 10 = .ok (.invokestatic 221, 3) ∧ decode cX11_read 13 = .ok (.ifCond .eq 13, 3)))) ∧ (((decode cX11_read 16 = .ok (.iload 4, 2) ∧ decode cX11_read 18 = .ok (.bipush 10, 2)) ∧ (decode cX11_read 20 = .ok (.invokestatic 221, 3) ∧ decode cX11_read 23 = .ok (.ifCond .ne 5, 3))) ∧ ((decode cX11_read 26 = .ok (.iconst (-1), 1) ∧ decode cX11_read 27 = .ok (.ireturn, 1)) ∧ (decode cX11_read 28 = .ok (.aload_n 0, 1) ∧ decode cX11_read 29 = .ok (.getfield 84, 3))))) ∧ ((((decode cX11_read 32 = .ok (.iload_n 1, 1) ∧ decode cX11_read 33 = .ok (.aaload, 1)) ∧ (decode cX11_read 34 = .ok (.astore 5, 2) ∧ decode cX11_read 36 = .ok (.iload 4, 2))) ∧ ((decode cX11_read 38 = .ok (.ifCond .ne 7, 3) ∧ decode cX11_read 41 = .ok (.iconst 0, 1)) ∧ (decode cX11_read 42 = .ok (.goto 9, 3) ∧ decode cX11_read 45 = .ok (.aload 5, 2)))) ∧ (((decode cX11_read 47 = .ok (.iload_n 2, 1) ∧ decode cX11_read 48 = .ok (.invokevirtual 331, 3)) ∧ (decode cX11_read 51 = .ok (.istore 6, 2) ∧ decode cX11_read 53 = .ok (.iload 6, 2))) ∧ ((decode cX11_read 55 = .ok (.ifCond .eq 11, 3) ∧ decode cX11_read 58 = .ok (.aload_n 0, 1)) ∧ (decode cX11_read 59 = .ok (.iload 6, 2) ∧ decode cX11_read 61 = .ok (.putfield 334, 3)))))) ∧ bA cX11_read 64 fp_scX11_read_1 :=
  have q0 := fp_o27 fp_bcX11_read
  have q1 := fp_o6 q0.2
  have q2 := fp_o184 (v := 221) q1.2 rfl
  have q3 := fp_o153 (v := 21) q2.2 rfl
  have q4 := fp_o28 q3.2
  have q5 := fp_o5 q4.2
  have q6 := fp_o184 (v := 221) q5.2 rfl
  have q7 := fp_o153 (v := 13) q6.2 rfl
  have q8 := fp_o21 q7.2
  have q9 := fp_o16 (v := 10) q8.2 rfl
  have q10 := fp_o184 (v := 221) q9.2 rfl
  have q11 := fp_o154 (v := 5) q10.2 rfl
  have q12 := fp_o2 q11.2
  have q13 := fp_o172 q12.2
  have q14 := fp_o42 q13.2
  have q15 := fp_o180 (v := 84) q14.2 rfl
  have q16 := fp_o27 q15.2
  have q17 := fp_o50 q16.2
  have q18 := fp_o58 q17.2
  have q19 := fp_o21 q18.2
  have q20 := fp_o154 (v := 7) q19.2 rfl
  have q21 := fp_o3 q20.2
  have q22 := fp_o167 (v := 9) q21.2 rfl
  have q23 := fp_o25 q22.2
  have q24 := fp_o28 q23.2
  have q25 := fp_o182 (v := 331) q24.2 rfl
  have q26 := fp_o54 q25.2
  have q27 := fp_o21 q26.2
  have q28 := fp_o153 (v := 11) q27.2 rfl
  have q29 := fp_o42 q28.2
  have q30 := fp_o21 q29.2
  have q31 := fp_o181 (v := 334) q30.2 rfl
  ⟨⟨⟨⟨⟨⟨q0.1, q1.1⟩, ⟨q2.1, q3.1⟩⟩, ⟨⟨q4.1, q5.1⟩, ⟨q6.1, q7.1⟩⟩⟩, ⟨⟨⟨q8.1, q9.1⟩, ⟨q10.1, q11.1⟩⟩, ⟨⟨q12.1, q13.1⟩, ⟨q14.1, q15.1⟩⟩⟩⟩, ⟨⟨⟨⟨q16.1, q17.1⟩, ⟨q18.1, q19.1⟩⟩, ⟨⟨q20.1, q21.1⟩, ⟨q22.1, q23.1⟩⟩⟩, ⟨⟨⟨q24.1, q25.1⟩, ⟨q26.1, q27.1⟩⟩, ⟨⟨q28.1, q29.1⟩, ⟨q30.1, q31.1⟩⟩⟩⟩⟩, q31.2⟩
theorem dX11_read_0 : decode cX11_read 0 = .ok (.iload_n 1, 1) := fp_hdX11_read_0.1.1.1.1.1.1
theorem dX11_read_1 : decode cX11_read 1 = .ok (.iconst 3, 1) := fp_hdX11_read_0.1.1.1.1.1.2
theorem dX11_read_2 : decode cX11_read 2 = .ok (.invokestatic 221, 3) := fp_hdX11_read_0.1.1.1.1.2.1
theorem dX11_read_5 : decode cX11_read 5 = .ok (.ifCond .eq 21, 3) := fp_hdX11_read_0.1.1.1.1.2.2
theorem dX11_read_8 : decode cX11_read 8 = .ok (.iload_n 2, 1) := fp_hdX11_read_0.1.1.1.2.1.1
theorem dX11_read_9 : decode cX11_read 9 = .ok (.iconst 2, 1) := fp_hdX11_read_0.1.1.1.2.1.2
theorem dX11_read_10 : decode cX11_read 10 = .ok (.invokestatic 221, 3) := fp_hdX11_read_0.1.1.1.2.2.1
theorem dX11_read_13 : decode cX11_read 13 = .ok (.ifCond .eq 13, 3) := fp_hdX11_read_0.1.1.1.2.2.2
theorem dX11_read_16 : decode cX11_read 16 = .ok (.iload 4, 2) := fp_hdX11_read_0.1.1.2.1.1.1
theorem dX11_read_18 : decode cX11_read 18 = .ok (.bipush 10, 2) := fp_hdX11_read_0.1.1.2.1.1.2
theorem dX11_read_20 : decode cX11_read 20 = .ok (.invokestatic 221, 3) := fp_hdX11_read_0.1.1.2.1.2.1
theorem dX11_read_23 : decode cX11_read 23 = .ok (.ifCond .ne 5, 3) := fp_hdX11_read_0.1.1.2.1.2.2
theorem dX11_read_26 : decode cX11_read 26 = .ok (.iconst (-1), 1) := fp_hdX11_read_0.1.1.2.2.1.1
theorem dX11_read_27 : decode cX11_read 27 = .ok (.ireturn, 1) := fp_hdX11_read_0.1.1.2.2.1.2
theorem dX11_read_28 : decode cX11_read 28 = .ok (.aload_n 0, 1) := fp_hdX11_read_0.1.1.2.2.2.1
theorem dX11_read_29 : decode cX11_read 29 = .ok (.getfield 84, 3) := fp_hdX11_read_0.1.1.2.2.2.2
theorem dX11_read_32 : decode cX11_read 32 = .ok (.iload_n 1, 1) := fp_hdX11_read_0.1.2.1.1.1.1
theorem dX11_read_33 : decode cX11_read 33 = .ok (.aaload, 1) := fp_hdX11_read_0.1.2.1.1.1.2
theorem dX11_read_34 : decode cX11_read 34 = .ok (.astore 5, 2) := fp_hdX11_read_0.1.2.1.1.2.1
theorem dX11_read_36 : decode cX11_read 36 = .ok (.iload 4, 2) := fp_hdX11_read_0.1.2.1.1.2.2
theorem dX11_read_38 : decode cX11_read 38 = .ok (.ifCond .ne 7, 3) := fp_hdX11_read_0.1.2.1.2.1.1
theorem dX11_read_41 : decode cX11_read 41 = .ok (.iconst 0, 1) := fp_hdX11_read_0.1.2.1.2.1.2
theorem dX11_read_42 : decode cX11_read 42 = .ok (.goto 9, 3) := fp_hdX11_read_0.1.2.1.2.2.1
theorem dX11_read_45 : decode cX11_read 45 = .ok (.aload 5, 2) := fp_hdX11_read_0.1.2.1.2.2.2
theorem dX11_read_47 : decode cX11_read 47 = .ok (.iload_n 2, 1) := fp_hdX11_read_0.1.2.2.1.1.1
theorem dX11_read_48 : decode cX11_read 48 = .ok (.invokevirtual 331, 3) := fp_hdX11_read_0.1.2.2.1.1.2
theorem dX11_read_51 : decode cX11_read 51 = .ok (.istore 6, 2) := fp_hdX11_read_0.1.2.2.1.2.1
theorem dX11_read_53 : decode cX11_read 53 = .ok (.iload 6, 2) := fp_hdX11_read_0.1.2.2.1.2.2
theorem dX11_read_55 : decode cX11_read 55 = .ok (.ifCond .eq 11, 3) := fp_hdX11_read_0.1.2.2.2.1.1
theorem dX11_read_58 : decode cX11_read 58 = .ok (.aload_n 0, 1) := fp_hdX11_read_0.1.2.2.2.1.2
theorem dX11_read_59 : decode cX11_read 59 = .ok (.iload 6, 2) := fp_hdX11_read_0.1.2.2.2.2.1
theorem dX11_read_61 : decode cX11_read 61 = .ok (.putfield 334, 3) := fp_hdX11_read_0.1.2.2.2.2.2
theorem fp_hdX11_read_64 : (((((decode cX11_read 64 = .ok (.iconst 0, 1) ∧ decode cX11_read 65 = .ok (.ireturn, 1)) ∧ (decode cX11_read 66 = .ok (.aload_n 0, 1) ∧ decode cX11_read 67 = .ok (.getfield 37, 3))) ∧ ((decode cX11_read 70 = .ok (.getfield 205, 3) ∧ decode cX11_read 73 = .ok (.istore 7, 2)) ∧ (decode cX11_read 75 = .ok (.iconst 0, 1) ∧ decode cX11_read 76 = .ok (.istore 8, 2)))) ∧ (((decode cX11_read 78 = .ok (.iload 8, 2) ∧ decode cX11_read 80 = .ok (.iload 4, 2)) ∧ (decode cX11_read 82 = .ok (.if_icmp .ge 58, 3) ∧ decode cX11_read 85 = .ok (.aload 5, 2))) ∧ ((decode cX11_read 87 = .ok (.iload_n 3, 1) ∧ decode cX11_read 88 = .ok (.iload 8, 2)) ∧ (decode cX11_read 90 = .ok (.invokevirtual 337, 3) ∧ decode cX11_read 93 = .ok (.ifCond .ne 11, 3))))) ∧ ((((decode cX11_read 96 = .ok (.aload_n 0, 1) ∧ decode cX11_read 97 = .ok (.iconst 2, 1)) ∧ (decode cX11_read 98 = .ok (.putfield 334, 3) ∧ decode cX11_read 101 = .ok (.iload 8, 2))) ∧ ((decode cX11_read 103 = .ok (.ireturn, 1) ∧ decode cX11_read 104 = .ok (.aload_n 0, 1)) ∧ (decode cX11_read 105 = .ok (.aload 5, 2) ∧ decode cX11_read 107 = .ok (.iload_n 3, 1)))) ∧ (((decode cX11_read 108 = .ok (.iload 8, 2) ∧ decode cX11_read 110 = .ok (.iconst 4, 1)) ∧ (decode cX11_read 111 = .ok (.imul, 1) ∧ decode cX11_read 112 = .ok (.iadd, 1))) ∧ ((decode cX11_read 113 = .ok (.invokevirtual 340, 3) ∧ decode cX11_read 116 = .ok (.ifCond .ge 18, 3)) ∧ (decode cX11_read 119 = .ok (.aload_n 0, 1) ∧ decode cX11_read 120 = .ok (.getfield 37, 3)))))) ∧ bA cX11_read 123 fp_scX11_read_2 :=
  have q0 := fp_o3 fp_hdX11_read_0.2
  have q1 := fp_o172 q0.2
  have q2 := fp_o42 q1.2
  have q3 := fp_o180 (v := 37) q2.2 rfl
  have q4 := fp_o180 (v := 205) q3.2 rfl
  have q5 := fp_o54 q4.2
  have q6 := fp_o3 q5.2
  have q7 := fp_o54 q6.2
  have q8 := fp_o21 q7.2
  have q9 := fp_o21 q8.2
  have q10 := fp_o162 (v := 58) q9.2 rfl
  have q11 := fp_o25 q10.2
  have q12 := fp_o29 q11.2
  have q13 := fp_o21 q12.2
  have q14 := fp_o182 (v := 337) q13.2 rfl
  have q15 := fp_o154 (v := 11) q14.2 rfl
  have q16 := fp_o42 q15.2
  have q17 := fp_o5 q16.2
  have q18 := fp_o181 (v := 334) q17.2 rfl
  have q19 := fp_o21 q18.2
  have q20 := fp_o172 q19.2
  have q21 := fp_o42 q20.2
  have q22 := fp_o25 q21.2
  have q23 := fp_o29 q22.2
  have q24 := fp_o21 q23.2
  have q25 := fp_o7 q24.2
  have q26 := fp_o104 q25.2
  have q27 := fp_o96 q26.2
  have q28 := fp_o182 (v := 340) q27.2 rfl
  have q29 := fp_o156 (v := 18) q28.2 rfl
  have q30 := fp_o42 q29.2
  have q31 := fp_o180 (v := 37) q30.2 rfl
  ⟨⟨⟨⟨⟨⟨q0.1, q1.1⟩, ⟨q2.1, q3.1⟩⟩, ⟨⟨q4.1, q5.1⟩, ⟨q6.1, q7.1⟩⟩⟩, ⟨⟨⟨q8.1, q9.1⟩, ⟨q10.1, q11.1⟩⟩, ⟨⟨q12.1, q13.1⟩, ⟨q14.1, q15.1⟩⟩⟩⟩, ⟨⟨⟨⟨q16.1, q17.1⟩, ⟨q18.1, q19.1⟩⟩, ⟨⟨q20.1, q21.1⟩, ⟨q22.1, q23.1⟩⟩⟩, ⟨⟨⟨q24.1, q25.1⟩, ⟨q26.1, q27.1⟩⟩, ⟨⟨q28.1, q29.1⟩, ⟨q30.1, q31.1⟩⟩⟩⟩⟩, q31.2⟩
theorem dX11_read_64 : decode cX11_read 64 = .ok (.iconst 0, 1) := fp_hdX11_read_64.1.1.1.1.1.1
theorem dX11_read_65 : decode cX11_read 65 = .ok (.ireturn, 1) := fp_hdX11_read_64.1.1.1.1.1.2
theorem dX11_read_66 : decode cX11_read 66 = .ok (.aload_n 0, 1) := fp_hdX11_read_64.1.1.1.1.2.1
theorem dX11_read_67 : decode cX11_read 67 = .ok (.getfield 37, 3) := fp_hdX11_read_64.1.1.1.1.2.2
theorem dX11_read_70 : decode cX11_read 70 = .ok (.getfield 205, 3) := fp_hdX11_read_64.1.1.1.2.1.1
theorem dX11_read_73 : decode cX11_read 73 = .ok (.istore 7, 2) := fp_hdX11_read_64.1.1.1.2.1.2
theorem dX11_read_75 : decode cX11_read 75 = .ok (.iconst 0, 1) := fp_hdX11_read_64.1.1.1.2.2.1
theorem dX11_read_76 : decode cX11_read 76 = .ok (.istore 8, 2) := fp_hdX11_read_64.1.1.1.2.2.2
theorem dX11_read_78 : decode cX11_read 78 = .ok (.iload 8, 2) := fp_hdX11_read_64.1.1.2.1.1.1
theorem dX11_read_80 : decode cX11_read 80 = .ok (.iload 4, 2) := fp_hdX11_read_64.1.1.2.1.1.2
theorem dX11_read_82 : decode cX11_read 82 = .ok (.if_icmp .ge 58, 3) := fp_hdX11_read_64.1.1.2.1.2.1
theorem dX11_read_85 : decode cX11_read 85 = .ok (.aload 5, 2) := fp_hdX11_read_64.1.1.2.1.2.2
theorem dX11_read_87 : decode cX11_read 87 = .ok (.iload_n 3, 1) := fp_hdX11_read_64.1.1.2.2.1.1
theorem dX11_read_88 : decode cX11_read 88 = .ok (.iload 8, 2) := fp_hdX11_read_64.1.1.2.2.1.2
theorem dX11_read_90 : decode cX11_read 90 = .ok (.invokevirtual 337, 3) := fp_hdX11_read_64.1.1.2.2.2.1
theorem dX11_read_93 : decode cX11_read 93 = .ok (.ifCond .ne 11, 3) := fp_hdX11_read_64.1.1.2.2.2.2
theorem dX11_read_96 : decode cX11_read 96 = .ok (.aload_n 0, 1) := fp_hdX11_read_64.1.2.1.1.1.1
theorem dX11_read_97 : decode cX11_read 97 = .ok (.iconst 2, 1) := fp_hdX11_read_64.1.2.1.1.1.2
theorem dX11_read_98 : decode cX11_read 98 = .ok (.putfield 334, 3) := fp_hdX11_read_64.1.2.1.1.2.1
theorem dX11_read_101 : decode cX11_read 101 = .ok (.iload 8, 2) := fp_hdX11_read_64.1.2.1.1.2.2
theorem dX11_read_103 : decode cX11_read 103 = .ok (.ireturn, 1) := fp_hdX11_read_64.1.2.1.2.1.1
theorem dX11_read_104 : decode cX11_read 104 = .ok (.aload_n 0, 1) := fp_hdX11_read_64.1.2.1.2.1.2
theorem dX11_read_105 : decode cX11_read 105 = .ok (.aload 5, 2) := fp_hdX11_read_64.1.2.1.2.2.1
theorem dX11_read_107 : decode cX11_read 107 = .ok (.iload_n 3, 1) := fp_hdX11_read_64.1.2.1.2.2.2
theorem dX11_read_108 : decode cX11_read 108 = .ok (.iload 8, 2) := fp_hdX11_read_64.1.2.2.1.1.1
theorem dX11_read_110 : decode cX11_read 110 = .ok (.iconst 4, 1) := fp_hdX11_read_64.1.2.2.1.1.2
theorem dX11_read_111 : decode cX11_read 111 = .ok (.imul, 1) := fp_hdX11_read_64.1.2.2.1.2.1
theorem dX11_read_112 : decode cX11_read 112 = .ok (.iadd, 1) := fp_hdX11_read_64.1.2.2.1.2.2
theorem dX11_read_113 : decode cX11_read 113 = .ok (.invokevirtual 340, 3) := fp_hdX11_read_64.1.2.2.2.1.1
theorem dX11_read_116 : decode cX11_read 116 = .ok (.ifCond .ge 18, 3) := fp_hdX11_read_64.1.2.2.2.1.2
theorem dX11_read_119 : decode cX11_read 119 = .ok (.aload_n 0, 1) := fp_hdX11_read_64.1.2.2.2.2.1
theorem dX11_read_120 : decode cX11_read 120 = .ok (.getfield 37, 3) := fp_hdX11_read_64.1.2.2.2.2.2
theorem fp_hdX11_read_123 : ((((decode cX11_read 123 = .ok (.iload 7, 2) ∧ decode cX11_read 125 = .ok (.putfield 205, 3)) ∧ (decode cX11_read 128 = .ok (.bipush (-20), 2) ∧ decode cX11_read 130 = .ok (.iload 8, 2))) ∧ ((decode cX11_read 132 = .ok (.isub, 1) ∧ decode cX11_read 133 = .ok (.ireturn, 1)) ∧ decode cX11_read 134 = .ok (.iinc 8 1, 3))) ∧ (((decode cX11_read 137 = .ok (.goto (-59), 3) ∧ decode cX11_read 140 = .ok (.aload_n 0, 1)) ∧ decode cX11_read 141 = .ok (.iconst 0, 1)) ∧ ((decode cX11_read 142 = .ok (.putfield 334, 3) ∧ decode cX11_read 145 = .ok (.iload 4, 2)) ∧ decode cX11_read 147 = .ok (.ireturn, 1)))) ∧ bA cX11_read 148 [] :=
  have q0 := fp_o21 fp_hdX11_read_64.2
  have q1 := fp_o181 (v := 205) q0.2 rfl
  have q2 := fp_o16 (v := (-20)) q1.2 rfl
  have q3 := fp_o21 q2.2
  have q4 := fp_o100 q3.2
  have q5 := fp_o172 q4.2
  have q6 := fp_o132 (v := 1) q5.2 rfl
  have q7 := fp_o167 (v := (-59)) q6.2 rfl
  have q8 := fp_o42 q7.2
  have q9 := fp_o3 q8.2
  have q10 := fp_o181 (v := 334) q9.2 rfl
  have q11 := fp_o21 q10.2
  have q12 := fp_o172 q11.2
  ⟨⟨⟨⟨⟨q0.1, q1.1⟩, ⟨q2.1, q3.1⟩⟩, ⟨⟨q4.1, q5.1⟩, q6.1⟩⟩, ⟨⟨⟨q7.1, q8.1⟩, q9.1⟩, ⟨⟨q10.1, q11.1⟩, q12.1⟩⟩⟩, q12.2⟩
theorem dX11_read_123 : decode cX11_read 123 = .ok (.iload 7, 2) := fp_hdX11_read_123.1.1.1.1.1
theorem dX11_read_125 : decode cX11_read 125 = .ok (.putfield 205, 3) := fp_hdX11_read_123.1.1.1.1.2
theorem dX11_read_128 : decode cX11_read 128 = .ok (.bipush (-20), 2) := fp_hdX11_read_123.1.1.1.2.1
theorem dX11_read_130 : decode cX11_read 130 = .ok (.iload 8, 2) := fp_hdX11_read_123.1.1.1.2.2
theorem dX11_read_132 : decode cX11_read 132 = .ok (.isub, 1) := fp_hdX11_read_123.1.1.2.1.1
theorem dX11_read_133 : decode cX11_read 133 = .ok (.ireturn, 1) := fp_hdX11_read_123.1.1.2.1.2
theorem dX11_read_134 : decode cX11_read 134 = .ok (.iinc 8 1, 3) := fp_hdX11_read_123.1.1.2.2
theorem dX11_read_137 : decode cX11_read 137 = .ok (.goto (-59), 3) := fp_hdX11_read_123.1.2.1.1.1
theorem dX11_read_140 : decode cX11_read 140 = .ok (.aload_n 0, 1) := fp_hdX11_read_123.1.2.1.1.2
theorem dX11_read_141 : decode cX11_read 141 = .ok (.iconst 0, 1) := fp_hdX11_read_123.1.2.1.2
theorem dX11_read_142 : decode cX11_read 142 = .ok (.putfield 334, 3) := fp_hdX11_read_123.1.2.2.1.1
theorem dX11_read_145 : decode cX11_read 145 = .ok (.iload 4, 2) := fp_hdX11_read_123.1.2.2.1.2
theorem dX11_read_147 : decode cX11_read 147 = .ok (.ireturn, 1) := fp_hdX11_read_123.1.2.2.2
def fp_scX11_torn_0 : List Nat := 42 :: 180 :: 1 :: 78 :: 172 :: []
theorem fp_bcX11_torn : bA cX11_torn 0 fp_scX11_torn_0 := show cX11_torn.data.toList.map UInt8.toNat = fp_scX11_torn_0 from by decide +kernel
theorem fp_hdX11_torn_0 : ((decode cX11_torn 0 = .ok (.aload_n 0, 1) ∧ decode cX11_torn 1 = .ok (.getfield 334, 3)) ∧ decode cX11_torn 4 = .ok (.ireturn, 1)) ∧ bA cX11_torn 5 [] :=
  have q0 := fp_o42 fp_bcX11_torn
  have q1 := fp_o180 (v := 334) q0.2 rfl
  have q2 := fp_o172 q1.2
  ⟨⟨⟨q0.1, q1.1⟩, q2.1⟩, q2.2⟩
theorem dX11_torn_0 : decode cX11_torn 0 = .ok (.aload_n 0, 1) := fp_hdX11_torn_0.1.1.1
theorem dX11_torn_1 : decode cX11_torn 1 = .ok (.getfield 334, 3) := fp_hdX11_torn_0.1.1.2
theorem dX11_torn_4 : decode cX11_torn 4 = .ok (.ireturn, 1) := fp_hdX11_torn_0.1.2
def fp_scX11_count_1 : List Nat := 153 :: 0 :: 7 :: 4 :: 167 :: 0 :: 4 :: 3 :: 96 :: 172 :: 42 :: 180 :: 0 :: 90 :: 172 :: 42 :: 180 :: 0 :: 84 :: 3 :: 50 :: 180 :: 1 :: 88 :: 172 :: 2 :: 172 :: []
def fp_scX11_count_0 : List Nat := 27 :: 170 :: 0 :: 0 :: 0 :: 0 :: 0 :: 126 :: 0 :: 0 :: 0 :: 0 :: 0 :: 0 :: 0 :: 6 :: 0 :: 0 :: 0 :: 43 :: 0 :: 0 :: 0 :: 51 :: 0 :: 0 :: 0 :: 59 :: 0 :: 0 :: 0 :: 67 :: 0 :: 0 :: 0 :: 75 :: 0 :: 0 :: 0 :: 111 :: 0 :: 0 :: 0 :: 116 :: 42 :: 180 :: 0 :: 23 :: 180 :: 1 :: 12 :: 172 :: 42 :: 180 :: 0 :: 23 :: 180 :: 0 :: 225 :: 172 :: 42 :: 180 :: 0 :: 37 :: 180 :: 0 :: 205 :: 172 :: 42 :: 180 :: 0 :: 44 :: 180 :: 0 :: 119 :: 172 :: 42 :: 180 :: 0 :: 78 :: 3 :: 50 :: 180 :: 0 :: 122 :: 153 :: 0 :: 7 :: 4 :: 167 :: 0 :: 4 :: 3 :: 42 :: 180 :: 0 :: 78 :: 4 :: 50 :: 180 :: 0 :: 122 :: fp_scX11_count_1
theorem fp_bcX11_count : bA cX11_count 0 fp_scX11_count_0 := show cX11_count.data.toList.map UInt8.toNat = fp_scX11_count_0 from by decide +kernel
theorem fp_hdX11_count_0 : (((((decode cX11_count 0 = .ok (.iload_n 1, 1) ∧ decode cX11_count 1 = .ok (.tableswitch 126 0 6 #[43, 51, 59, 67, 75, 111, 116], 43)) ∧ (decode cX11_count 44 = .ok (.aload_n 0, 1) ∧ decode cX11_count 45 = .ok (.getfield 23, 3))) ∧ ((decode cX11_count 48 = .ok (.getfield 268, 3) ∧ decode cX11_count 51 = .ok (.ireturn, 1)) ∧ (decode cX11_count 52 = .ok (.aload_n 0, 1) ∧ decode cX11_count 53 = .ok (.getfield 23, 3)))) ∧ (((decode cX11_count 56 = .ok (.getfield 225, 3) ∧ decode cX11_count 59 = .ok (.ireturn, 1)) ∧ (decode cX11_count 60 = .ok (.aload_n 0, 1) ∧ decode cX11_count 61 = .ok (.getfield 37, 3))) ∧ ((decode cX11_count 64 = .ok (.getfield 205, 3) ∧ decode cX11_count 67 = .ok (.ireturn, 1)) ∧ (decode cX11_count 68 = .ok (.aload_n 0, 1) ∧ decode cX11_count 69 = .ok (.getfield 44, 3))))) ∧ ((((decode cX11_count 72 = .ok (.getfield 119, 3) ∧ decode cX11_count 75 = .ok (.ireturn, 1)) ∧ (decode cX11_count 76 = .ok (.aload_n 0, 1) ∧ decode cX11_count 77 = .ok (.getfield 78, 3))) ∧ ((decode cX11_count 80 = .ok (.iconst 0, 1) ∧ decode cX11_count 81 = .ok (.aaload, 1)) ∧ (decode cX11_count 82 = .ok (.getfield 122, 3) ∧ decode cX11_count 85 = .ok (.ifCond .eq 7, 3)))) ∧ (((decode cX11_count 88 = .ok (.iconst 1, 1) ∧ decode cX11_count 89 = .ok (.goto 4, 3)) ∧ (decode cX11_count 92 = .ok (.iconst 0, 1) ∧ decode cX11_count 93 = .ok (.aload_n 0, 1))) ∧ ((decode cX11_count 94 = .ok (.getfield 78, 3) ∧ decode cX11_count 97 = .ok (.iconst 1, 1)) ∧ (decode cX11_count 98 = .ok (.aaload, 1) ∧ decode cX11_count 99 = .ok (.getfield 122, 3)))))) ∧ bA cX11_count 102 fp_scX11_count_1 :=
  have q0 := fp_o27 fp_bcX11_count
  have q1 : decode cX11_count 1 = .ok (.tableswitch 126 0 6 #[43, 51, 59, 67, 75, 111, 116], 43) ∧ bA cX11_count 44 (42 :: 180 :: 0 :: 23 :: 180 :: 1 :: 12 :: 172 :: 42 :: 180 :: 0 :: 23 :: 180 :: 0 :: 225 :: 172 :: 42 :: 180 :: 0 :: 37 :: 180 :: 0 :: 205 :: 172 :: 42 :: 180 :: 0 :: 44 :: 180 :: 0 :: 119 :: 172 :: 42 :: 180 :: 0 :: 78 :: 3 :: 50 :: 180 :: 0 :: 122 :: 153 :: 0 :: 7 :: 4 :: 167 :: 0 :: 4 :: 3 :: 42 :: 180 :: 0 :: 78 :: 4 :: 50 :: 180 :: 0 :: 122 :: fp_scX11_count_1) := ⟨fp_dk (by decide +kernel), bA_skip 43 q0.2⟩
  have q2 := fp_o42 q1.2
  have q3 := fp_o180 (v := 23) q2.2 rfl
  have q4 := fp_o180 (v := 268) q3.2 rfl
  have q5 := fp_o172 q4.2
  have q6 := fp_o42 q5.2
  have q7 := fp_o180 (v := 23) q6.2 rfl
  have q8 := fp_o180 (v := 225) q7.2 rfl
  have q9 := fp_o172 q8.2
  have q10 := fp_o42 q9.2
  have q11 := fp_o180 (v := 37) q10.2 rfl
  have q12 := fp_o180 (v := 205) q11.2 rfl
  have q13 := fp_o172 q12.2
  have q14 := fp_o42 q13.2
  have q15 := fp_o180 (v := 44) q14.2 rfl
  have q16 := fp_o180 (v := 119) q15.2 rfl
  have q17 := fp_o172 q16.2
  have q18 := fp_o42 q17.2
  have q19 := fp_o180 (v := 78) q18.2 rfl
  have q20 := fp_o3 q19.2
  have q21 := fp_o50 q20.2
  have q22 := fp_o180 (v := 122) q21.2 rfl
  have q23 := fp_o153 (v := 7) q22.2 rfl
  have q24 := fp_o4 q23.2
  have q25 := fp_o167 (v := 4) q24.2 rfl
  have q26 := fp_o3 q25.2
  have q27 := fp_o42 q26.2
  have q28 := fp_o180 (v := 78) q27.2 rfl
  have q29 := fp_o4 q28.2
  have q30 := fp_o50 q29.2
  have q31 := fp_o180 (v := 122) q30.2 rfl
  ⟨⟨⟨⟨⟨⟨q0.1, q1.1⟩, ⟨q2.1, q3.1⟩⟩, ⟨⟨q4.1, q5.1⟩, ⟨q6.1, q7.1⟩⟩⟩, ⟨⟨⟨q8.1, q9.1⟩, ⟨q10.1, q11.1⟩⟩, ⟨⟨q12.1, q13.1⟩, ⟨q14.1, q15.1⟩⟩⟩⟩, ⟨⟨⟨⟨q16.1, q17.1⟩, ⟨q18.1, q19.1⟩⟩, ⟨⟨q20.1, q21.1⟩, ⟨q22.1, q23.1⟩⟩⟩, ⟨⟨⟨q24.1, q25.1⟩, ⟨q26.1, q27.1⟩⟩, ⟨⟨q28.1, q29.1⟩, ⟨q30.1, q31.1⟩⟩⟩⟩⟩, q31.2⟩
theorem dX11_count_0 : decode cX11_count 0 = .ok (.iload_n 1, 1) := fp_hdX11_count_0.1.1.1.1.1.1
theorem dX11_count_1 : decode cX11_count 1 = .ok (.tableswitch 126 0 6 #[43, 51, 59, 67, 75, 111, 116], 43) := fp_hdX11_count_0.1.1.1.1.1.2
theorem dX11_count_44 : decode cX11_count 44 = .ok (.aload_n 0, 1) := fp_hdX11_count_0.1.1.1.1.2.1
theorem dX11_count_45 : decode cX11_count 45 = .ok (.getfield 23, 3) := fp_hdX11_count_0.1.1.1.1.2.2
theorem dX11_count_48 : decode cX11_count 48 = .ok (.getfield 268, 3) := fp_hdX11_count_0.1.1.1.2.1.1
theorem dX11_count_51 : decode cX11_count 51 = .ok (.ireturn, 1) := fp_hdX11_count_0.1.1.1.2.1.2
theorem dX11_count_52 : decode cX11_count 52 = .ok (.aload_n 0, 1) := fp_hdX11_count_0.1.1.1.2.2.1
theorem dX11_count_53 : decode cX11_count 53 = .ok (.getfield 23, 3) := fp_hdX11_count_0.1.1.1.2.2.2
theorem dX11_count_56 : decode cX11_count 56 = .ok (.getfield 225, 3) := fp_hdX11_count_0.1.1.2.1.1.1
theorem dX11_count_59 : decode cX11_count 59 = .ok (.ireturn, 1) := fp_hdX11_count_0.1.1.2.1.1.2
theorem dX11_count_60 : decode cX11_count 60 = .ok (.aload_n 0, 1) := fp_hdX11_count_0.1.1.2.1.2.1
theorem dX11_count_61 : decode cX11_count 61 = .ok (.getfield 37, 3) := fp_hdX11_count_0.1.1.2.1.2.2
theorem dX11_count_64 : decode cX11_count 64 = .ok (.getfield 205, 3) := fp_hdX11_count_0.1.1.2.2.1.1
theorem dX11_count_67 : decode cX11_count 67 = .ok (.ireturn, 1) := fp_hdX11_count_0.1.1.2.2.1.2
theorem dX11_count_68 : decode cX11_count 68 = .ok (.aload_n 0, 1) := fp_hdX11_count_0.1.1.2.2.2.1
theorem dX11_count_69 : decode cX11_count 69 = .ok (.getfield 44, 3) := fp_hdX11_count_0.1.1.2.2.2.2
theorem dX11_count_72 : decode cX11_count 72 = .ok (.getfield 119, 3) := fp_hdX11_count_0.1.2.1.1.1.1
theorem dX11_count_75 : decode cX11_count 75 = .ok (.ireturn, 1) := fp_hdX11_count_0.1.2.1.1.1.2
theorem dX11_count_76 : decode cX11_count 76 = .ok (.aload_n 0, 1) := fp_hdX11_count_0.1.2.1.1.2.1
theorem dX11_count_77 : decode cX11_count 77 = .ok (.getfield 78, 3) := fp_hdX11_count_0.1.2.1.1.2.2
theorem dX11_count_80 : decode cX11_count 80 = .ok (.iconst 0, 1) := fp_hdX11_count_0.1.2.1.2.1.1
theorem dX11_count_81 : decode cX11_count 81 = .ok (.aaload, 1) := fp_hdX11_count_0.1.2.1.2.1.2
theorem dX11_count_82 : decode cX11_count 82 = .ok (.getfield 122, 3) := fp_hdX11_count_0.1.2.1.2.2.1
theorem dX11_count_85 : decode cX11_count 85 = .ok (.ifCond .eq 7, 3) := fp_hdX11_count_0.1.2.1.2.2.2
theorem dX11_count_88 : decode cX11_count 88 = .ok (.iconst 1, 1) := fp_hdX11_count_0.1.2.2.1.1.1
theorem dX11_count_89 : decode cX11_count 89 = .ok (.goto 4, 3) := fp_hdX11_count_0.1.2.2.1.1.2
theorem dX11_count_92 : decode cX11_count 92 = .ok (.iconst 0, 1) := fp_hdX11_count_0.1.2.2.1.2.1
theorem dX11_count_93 : decode cX11_count 93 = .ok (.aload_n 0, 1) := fp_hdX11_count_0.1.2.2.1.2.2
theorem dX11_count_94 : decode cX11_count 94 = .ok (.getfield 78, 3) := fp_hdX11_count_0.1.2.2.2.1.1
theorem dX11_count_97 : decode cX11_count 97 = .ok (.iconst 1, 1) := fp_hdX11_count_0.1.2.2.2.1.2
theorem dX11_count_98 : decode cX11_count 98 = .ok (.aaload, 1) := fp_hdX11_count_0.1.2.2.2.2.1
theorem dX11_count_99 : decode cX11_count 99 = .ok (.getfield 122, 3) := fp_hdX11_count_0.1.2.2.2.2.2
theorem fp_hdX11_count_102 : (((((decode cX11_count 102 = .ok (.ifCond .eq 7, 3) ∧ decode cX11_count 105 = .ok (.iconst 1, 1)) ∧ decode cX11_count 106 = .ok (.goto 4, 3)) ∧ (decode cX11_count 109 = .ok (.iconst 0, 1) ∧ decode cX11_count 110 = .ok (.iadd, 1))) ∧ ((decode cX11_count 111 = .ok (.ireturn, 1) ∧ decode cX11_count 112 = .ok (.aload_n 0, 1)) ∧ (decode cX11_count 113 = .ok (.getfield 90, 3) ∧ decode cX11_count 116 = .ok (.ireturn, 1)))) ∧ (((decode cX11_count 117 = .ok (.aload_n 0, 1) ∧ decode cX11_count 118 = .ok (.getfield 84, 3)) ∧ (decode cX11_count 121 = .ok (.iconst 0, 1) ∧ decode cX11_count 122 = .ok (.aaload, 1))) ∧ ((decode cX11_count 123 = .ok (.getfield 344, 3) ∧ decode cX11_count 126 = .ok (.ireturn, 1)) ∧ (decode cX11_count 127 = .ok (.iconst (-1), 1) ∧ decode cX11_count 128 = .ok (.ireturn, 1))))) ∧ bA cX11_count 129 [] :=
  have q0 := fp_o153 (v := 7) fp_hdX11_count_0.2 rfl
  have q1 := fp_o4 q0.2
  have q2 := fp_o167 (v := 4) q1.2 rfl
  have q3 := fp_o3 q2.2
  have q4 := fp_o96 q3.2
  have q5 := fp_o172 q4.2
  have q6 := fp_o42 q5.2
  have q7 := fp_o180 (v := 90) q6.2 rfl
  have q8 := fp_o172 q7.2
  have q9 := fp_o42 q8.2
  have q10 := fp_o180 (v := 84) q9.2 rfl
  have q11 := fp_o3 q10.2
  have q12 := fp_o50 q11.2
  have q13 := fp_o180 (v := 344) q12.2 rfl
  have q14 := fp_o172 q13.2
  have q15 := fp_o2 q14.2
  have q16 := fp_o172 q15.2
  ⟨⟨⟨⟨⟨⟨q0.1, q1.1⟩, q2.1⟩, ⟨q3.1, q4.1⟩⟩, ⟨⟨q5.1, q6.1⟩, ⟨q7.1, q8.1⟩⟩⟩, ⟨⟨⟨q9.1, q10.1⟩, ⟨q11.1, q12.1⟩⟩, ⟨⟨q13.1, q14.1⟩, ⟨q15.1, q16.1⟩⟩⟩⟩, q16.2⟩
theorem dX11_count_102 : decode cX11_count 102 = .ok (.ifCond .eq 7, 3) := fp_hdX11_count_102.1.1.1.1.1.1
theorem dX11_count_105 : decode cX11_count 105 = .ok (.iconst 1, 1) := fp_hdX11_count_102.1.1.1.1.1.2
theorem dX11_count_106 : decode cX11_count 106 = .ok (.goto 4, 3) := fp_hdX11_count_102.1.1.1.1.2
theorem dX11_count_109 : decode cX11_count 109 = .ok (.iconst 0, 1) := fp_hdX11_count_102.1.1.1.2.1
theorem dX11_count_110 : decode cX11_count 110 = .ok (.iadd, 1) := fp_hdX11_count_102.1.1.1.2.2
theorem dX11_count_111 : decode cX11_count 111 = .ok (.ireturn, 1) := fp_hdX11_count_102.1.1.2.1.1
theorem dX11_count_112 : decode cX11_count 112 = .ok (.aload_n 0, 1) := fp_hdX11_count_102.1.1.2.1.2
theorem dX11_count_113 : decode cX11_count 113 = .ok (.getfield 90, 3) := fp_hdX11_count_102.1.1.2.2.1
theorem dX11_count_116 : decode cX11_count 116 = .ok (.ireturn, 1) := fp_hdX11_count_102.1.1.2.2.2
theorem dX11_count_117 : decode cX11_count 117 = .ok (.aload_n 0, 1) := fp_hdX11_count_102.1.2.1.1.1
theorem dX11_count_118 : decode cX11_count 118 = .ok (.getfield 84, 3) := fp_hdX11_count_102.1.2.1.1.2
theorem dX11_count_121 : decode cX11_count 121 = .ok (.iconst 0, 1) := fp_hdX11_count_102.1.2.1.2.1
theorem dX11_count_122 : decode cX11_count 122 = .ok (.aaload, 1) := fp_hdX11_count_102.1.2.1.2.2
theorem dX11_count_123 : decode cX11_count 123 = .ok (.getfield 344, 3) := fp_hdX11_count_102.1.2.2.1.1
theorem dX11_count_126 : decode cX11_count 126 = .ok (.ireturn, 1) := fp_hdX11_count_102.1.2.2.1.2
theorem dX11_count_127 : decode cX11_count 127 = .ok (.iconst (-1), 1) := fp_hdX11_count_102.1.2.2.2.1
theorem dX11_count_128 : decode cX11_count 128 = .ok (.ireturn, 1) := fp_hdX11_count_102.1.2.2.2.2
def fp_scX11_isOne_0 : List Nat := 26 :: 155 :: 0 :: 12 :: 26 :: 7 :: 162 :: 0 :: 7 :: 4 :: 167 :: 0 :: 4 :: 3 :: 172 :: []
theorem fp_bcX11_isOne : bA cX11_isOne 0 fp_scX11_isOne_0 := show cX11_isOne.data.toList.map UInt8.toNat = fp_scX11_isOne_0 from by decide +kernel
theorem fp_hdX11_isOne_0 : ((((decode cX11_isOne 0 = .ok (.iload_n 0, 1) ∧ decode cX11_isOne 1 = .ok (.ifCond .lt 12, 3)) ∧ decode cX11_isOne 4 = .ok (.iload_n 0, 1)) ∧ (decode cX11_isOne 5 = .ok (.iconst 4, 1) ∧ decode cX11_isOne 6 = .ok (.if_icmp .ge 7, 3))) ∧ ((decode cX11_isOne 9 = .ok (.iconst 1, 1) ∧ decode cX11_isOne 10 = .ok (.goto 4, 3)) ∧ (decode cX11_isOne 13 = .ok (.iconst 0, 1) ∧ decode cX11_isOne 14 = .ok (.ireturn, 1)))) ∧ bA cX11_isOne 15 [] :=
  have q0 := fp_o26 fp_bcX11_isOne
  have q1 := fp_o155 (v := 12) q0.2 rfl
  have q2 := fp_o26 q1.2
  have q3 := fp_o7 q2.2
  have q4 := fp_o162 (v := 7) q3.2 rfl
  have q5 := fp_o4 q4.2
  have q6 := fp_o167 (v := 4) q5.2 rfl
  have q7 := fp_o3 q6.2
  have q8 := fp_o172 q7.2
  ⟨⟨⟨⟨⟨q0.1, q1.1⟩, q2.1⟩, ⟨q3.1, q4.1⟩⟩, ⟨⟨q5.1, q6.1⟩, ⟨q7.1, q8.1⟩⟩⟩, q8.2⟩
theorem dX11_isOne_0 : decode cX11_isOne 0 = .ok (.iload_n 0, 1) := fp_hdX11_isOne_0.1.1.1.1.1
theorem dX11_isOne_1 : decode cX11_isOne 1 = .ok (.ifCond .lt 12, 3) := fp_hdX11_isOne_0.1.1.1.1.2
theorem dX11_isOne_4 : decode cX11_isOne 4 = .ok (.iload_n 0, 1) := fp_hdX11_isOne_0.1.1.1.2
theorem dX11_isOne_5 : decode cX11_isOne 5 = .ok (.iconst 4, 1) := fp_hdX11_isOne_0.1.1.2.1
theorem dX11_isOne_6 : decode cX11_isOne 6 = .ok (.if_icmp .ge 7, 3) := fp_hdX11_isOne_0.1.1.2.2
theorem dX11_isOne_9 : decode cX11_isOne 9 = .ok (.iconst 1, 1) := fp_hdX11_isOne_0.1.2.1.1
theorem dX11_isOne_10 : decode cX11_isOne 10 = .ok (.goto 4, 3) := fp_hdX11_isOne_0.1.2.1.2
theorem dX11_isOne_13 : decode cX11_isOne 13 = .ok (.iconst 0, 1) := fp_hdX11_isOne_0.1.2.2.1
theorem dX11_isOne_14 : decode cX11_isOne 14 = .ok (.ireturn, 1) := fp_hdX11_isOne_0.1.2.2.2
def fp_scX11_isWithin_0 : List Nat := 26 :: 155 :: 0 :: 12 :: 26 :: 27 :: 163 :: 0 :: 7 :: 4 :: 167 :: 0 :: 4 :: 3 :: 172 :: []
theorem fp_bcX11_isWithin : bA cX11_isWithin 0 fp_scX11_isWithin_0 := show cX11_isWithin.data.toList.map UInt8.toNat = fp_scX11_isWithin_0 from by decide +kernel
theorem fp_hdX11_isWithin_0 : ((((decode cX11_isWithin 0 = .ok (.iload_n 0, 1) ∧ decode cX11_isWithin 1 = .ok (.ifCond .lt 12, 3)) ∧ decode cX11_isWithin 4 = .ok (.iload_n 0, 1)) ∧ (decode cX11_isWithin 5 = .ok (.iload_n 1, 1) ∧ decode cX11_isWithin 6 = .ok (.if_icmp .gt 7, 3))) ∧ ((decode cX11_isWithin 9 = .ok (.iconst 1, 1) ∧ decode cX11_isWithin 10 = .ok (.goto 4, 3)) ∧ (decode cX11_isWithin 13 = .ok (.iconst 0, 1) ∧ decode cX11_isWithin 14 = .ok (.ireturn, 1)))) ∧ bA cX11_isWithin 15 [] :=
  have q0 := fp_o26 fp_bcX11_isWithin
  have q1 := fp_o155 (v := 12) q0.2 rfl
  have q2 := fp_o26 q1.2
  have q3 := fp_o27 q2.2
  have q4 := fp_o163 (v := 7) q3.2 rfl
  have q5 := fp_o4 q4.2
  have q6 := fp_o167 (v := 4) q5.2 rfl
  have q7 := fp_o3 q6.2
  have q8 := fp_o172 q7.2
  ⟨⟨⟨⟨⟨q0.1, q1.1⟩, q2.1⟩, ⟨q3.1, q4.1⟩⟩, ⟨⟨q5.1, q6.1⟩, ⟨q7.1, q8.1⟩⟩⟩, q8.2⟩
theorem dX11_isWithin_0 : decode cX11_isWithin 0 = .ok (.iload_n 0, 1) := fp_hdX11_isWithin_0.1.1.1.1.1
theorem dX11_isWithin_1 : decode cX11_isWithin 1 = .ok (.ifCond .lt 12, 3) := fp_hdX11_isWithin_0.1.1.1.1.2
theorem dX11_isWithin_4 : decode cX11_isWithin 4 = .ok (.iload_n 0, 1) := fp_hdX11_isWithin_0.1.1.1.2
theorem dX11_isWithin_5 : decode cX11_isWithin 5 = .ok (.iload_n 1, 1) := fp_hdX11_isWithin_0.1.1.2.1
theorem dX11_isWithin_6 : decode cX11_isWithin 6 = .ok (.if_icmp .gt 7, 3) := fp_hdX11_isWithin_0.1.1.2.2
theorem dX11_isWithin_9 : decode cX11_isWithin 9 = .ok (.iconst 1, 1) := fp_hdX11_isWithin_0.1.2.1.1
theorem dX11_isWithin_10 : decode cX11_isWithin 10 = .ok (.goto 4, 3) := fp_hdX11_isWithin_0.1.2.1.2
theorem dX11_isWithin_13 : decode cX11_isWithin 13 = .ok (.iconst 0, 1) := fp_hdX11_isWithin_0.1.2.2.1
theorem dX11_isWithin_14 : decode cX11_isWithin 14 = .ok (.ireturn, 1) := fp_hdX11_isWithin_0.1.2.2.2
def fp_scX11_tellVisit_1 : List Nat := 28 :: 29 :: 21 :: 4 :: 182 :: 1 :: 93 :: 153 :: 0 :: 13 :: 42 :: 180 :: 0 :: 37 :: 180 :: 0 :: 205 :: 167 :: 0 :: 5 :: 16 :: 253 :: 172 :: []
def fp_scX11_tellVisit_0 : List Nat := 27 :: 16 :: 99 :: 184 :: 0 :: 221 :: 153 :: 0 :: 40 :: 28 :: 184 :: 0 :: 181 :: 153 :: 0 :: 33 :: 42 :: 180 :: 0 :: 23 :: 29 :: 182 :: 0 :: 148 :: 153 :: 0 :: 22 :: 21 :: 4 :: 16 :: 252 :: 159 :: 0 :: 17 :: 42 :: 180 :: 0 :: 23 :: 21 :: 4 :: 182 :: 0 :: 126 :: 154 :: 0 :: 5 :: 2 :: 172 :: 27 :: 42 :: 180 :: 0 :: 37 :: 182 :: 1 :: 89 :: 162 :: 0 :: 5 :: 2 :: 172 :: 42 :: 180 :: 0 :: 37 :: 27 :: fp_scX11_tellVisit_1
theorem fp_bcX11_tellVisit : bA cX11_tellVisit 0 fp_scX11_tellVisit_0 := show cX11_tellVisit.data.toList.map UInt8.toNat = fp_scX11_tellVisit_0 from by decide +kernel
theorem fp_hdX11_tellVisit_0 : (((((decode cX11_tellVisit 0 = .ok (.iload_n 1, 1) ∧ decode cX11_tellVisit 1 = .ok (.bipush 99, 2)) ∧ (decode cX11_tellVisit 3 = .ok (.invokestatic 221, 3) ∧ decode cX11_tellVisit 6 = .ok (.ifCond .eq 40, 3))) ∧ ((decode cX11_tellVisit 9 = .ok (.iload_n 2, 1) ∧ decode cX11_tellVisit 10 = .ok (.invokestatic 181, 3)) ∧ (decode cX11_tellVisit 13 = .ok (.ifCond .eq 33, 3) ∧ decode cX11_tellVisit 16 = .ok (.aload_n 0, 1)))) ∧ (((decode cX11_tellVisit 17 = .ok (.getfield 23, 3) ∧ decode cX11_tellVisit 20 = .ok (.iload_n 3, 1)) ∧ (decode cX11_tellVisit 21 = .ok (.invokevirtual 148, 3) ∧ decode cX11_tellVisit 24 = .ok (.ifCond .eq 22, 3))) ∧ ((decode cX11_tellVisit 27 = .ok (.iload 4, 2) ∧ decode cX11_tellVisit 29 = .ok (.bipush (-4), 2)) ∧ (decode cX11_tellVisit 31 = .ok (.if_icmp .eq 17, 3) ∧ decode cX11_tellVisit 34 = .ok (.aload_n 0, 1))))) ∧ ((((decode cX11_tellVisit 35 = .ok (.getfield 23, 3) ∧ decode cX11_tellVisit 38 = .ok (.iload 4, 2)) ∧ (decode cX11_tellVisit 40 = .ok (.invokevirtual 126, 3) ∧ decode cX11_tellVisit 43 = .ok (.ifCond .ne 5, 3))) ∧ ((decode cX11_tellVisit 46 = .ok (.iconst (-1), 1) ∧ decode cX11_tellVisit 47 = .ok (.ireturn, 1)) ∧ (decode cX11_tellVisit 48 = .ok (.iload_n 1, 1) ∧ decode cX11_tellVisit 49 = .ok (.aload_n 0, 1)))) ∧ (((decode cX11_tellVisit 50 = .ok (.getfield 37, 3) ∧ decode cX11_tellVisit 53 = .ok (.invokevirtual 345, 3)) ∧ (decode cX11_tellVisit 56 = .ok (.if_icmp .ge 5, 3) ∧ decode cX11_tellVisit 59 = .ok (.iconst (-1), 1))) ∧ ((decode cX11_tellVisit 60 = .ok (.ireturn, 1) ∧ decode cX11_tellVisit 61 = .ok (.aload_n 0, 1)) ∧ (decode cX11_tellVisit 62 = .ok (.getfield 37, 3) ∧ decode cX11_tellVisit 65 = .ok (.iload_n 1, 1)))))) ∧ bA cX11_tellVisit 66 fp_scX11_tellVisit_1 :=
  have q0 := fp_o27 fp_bcX11_tellVisit
  have q1 := fp_o16 (v := 99) q0.2 rfl
  have q2 := fp_o184 (v := 221) q1.2 rfl
  have q3 := fp_o153 (v := 40) q2.2 rfl
  have q4 := fp_o28 q3.2
  have q5 := fp_o184 (v := 181) q4.2 rfl
  have q6 := fp_o153 (v := 33) q5.2 rfl
  have q7 := fp_o42 q6.2
  have q8 := fp_o180 (v := 23) q7.2 rfl
  have q9 := fp_o29 q8.2
  have q10 := fp_o182 (v := 148) q9.2 rfl
  have q11 := fp_o153 (v := 22) q10.2 rfl
  have q12 := fp_o21 q11.2
  have q13 := fp_o16 (v := (-4)) q12.2 rfl
  have q14 := fp_o159 (v := 17) q13.2 rfl
  have q15 := fp_o42 q14.2
  have q16 := fp_o180 (v := 23) q15.2 rfl
  have q17 := fp_o21 q16.2
  have q18 := fp_o182 (v := 126) q17.2 rfl
  have q19 := fp_o154 (v := 5) q18.2 rfl
  have q20 := fp_o2 q19.2
  have q21 := fp_o172 q20.2
  have q22 := fp_o27 q21.2
  have q23 := fp_o42 q22.2
  have q24 := fp_o180 (v := 37) q23.2 rfl
  have q25 := fp_o182 (v := 345) q24.2 rfl
  have q26 := fp_o162 (v := 5) q25.2 rfl
  have q27 := fp_o2 q26.2
  have q28 := fp_o172 q27.2
  have q29 := fp_o42 q28.2
  have q30 := fp_o180 (v := 37) q29.2 rfl
  have q31 := fp_o27 q30.2
  ⟨⟨⟨⟨⟨⟨q0.1, q1.1⟩, ⟨q2.1, q3.1⟩⟩, ⟨⟨q4.1, q5.1⟩, ⟨q6.1, q7.1⟩⟩⟩, ⟨⟨⟨q8.1, q9.1⟩, ⟨q10.1, q11.1⟩⟩, ⟨⟨q12.1, q13.1⟩, ⟨q14.1, q15.1⟩⟩⟩⟩, ⟨⟨⟨⟨q16.1, q17.1⟩, ⟨q18.1, q19.1⟩⟩, ⟨⟨q20.1, q21.1⟩, ⟨q22.1, q23.1⟩⟩⟩, ⟨⟨⟨q24.1, q25.1⟩, ⟨q26.1, q27.1⟩⟩, ⟨⟨q28.1, q29.1⟩, ⟨q30.1, q31.1⟩⟩⟩⟩⟩, q31.2⟩
theorem dX11_tellVisit_0 : decode cX11_tellVisit 0 = .ok (.iload_n 1, 1) := fp_hdX11_tellVisit_0.1.1.1.1.1.1
theorem dX11_tellVisit_1 : decode cX11_tellVisit 1 = .ok (.bipush 99, 2) := fp_hdX11_tellVisit_0.1.1.1.1.1.2
theorem dX11_tellVisit_3 : decode cX11_tellVisit 3 = .ok (.invokestatic 221, 3) := fp_hdX11_tellVisit_0.1.1.1.1.2.1
theorem dX11_tellVisit_6 : decode cX11_tellVisit 6 = .ok (.ifCond .eq 40, 3) := fp_hdX11_tellVisit_0.1.1.1.1.2.2
theorem dX11_tellVisit_9 : decode cX11_tellVisit 9 = .ok (.iload_n 2, 1) := fp_hdX11_tellVisit_0.1.1.1.2.1.1
theorem dX11_tellVisit_10 : decode cX11_tellVisit 10 = .ok (.invokestatic 181, 3) := fp_hdX11_tellVisit_0.1.1.1.2.1.2
theorem dX11_tellVisit_13 : decode cX11_tellVisit 13 = .ok (.ifCond .eq 33, 3) := fp_hdX11_tellVisit_0.1.1.1.2.2.1
theorem dX11_tellVisit_16 : decode cX11_tellVisit 16 = .ok (.aload_n 0, 1) := fp_hdX11_tellVisit_0.1.1.1.2.2.2
theorem dX11_tellVisit_17 : decode cX11_tellVisit 17 = .ok (.getfield 23, 3) := fp_hdX11_tellVisit_0.1.1.2.1.1.1
theorem dX11_tellVisit_20 : decode cX11_tellVisit 20 = .ok (.iload_n 3, 1) := fp_hdX11_tellVisit_0.1.1.2.1.1.2
theorem dX11_tellVisit_21 : decode cX11_tellVisit 21 = .ok (.invokevirtual 148, 3) := fp_hdX11_tellVisit_0.1.1.2.1.2.1
theorem dX11_tellVisit_24 : decode cX11_tellVisit 24 = .ok (.ifCond .eq 22, 3) := fp_hdX11_tellVisit_0.1.1.2.1.2.2
theorem dX11_tellVisit_27 : decode cX11_tellVisit 27 = .ok (.iload 4, 2) := fp_hdX11_tellVisit_0.1.1.2.2.1.1
theorem dX11_tellVisit_29 : decode cX11_tellVisit 29 = .ok (.bipush (-4), 2) := fp_hdX11_tellVisit_0.1.1.2.2.1.2
theorem dX11_tellVisit_31 : decode cX11_tellVisit 31 = .ok (.if_icmp .eq 17, 3) := fp_hdX11_tellVisit_0.1.1.2.2.2.1
theorem dX11_tellVisit_34 : decode cX11_tellVisit 34 = .ok (.aload_n 0, 1) := fp_hdX11_tellVisit_0.1.1.2.2.2.2
theorem dX11_tellVisit_35 : decode cX11_tellVisit 35 = .ok (.getfield 23, 3) := fp_hdX11_tellVisit_0.1.2.1.1.1.1
theorem dX11_tellVisit_38 : decode cX11_tellVisit 38 = .ok (.iload 4, 2) := fp_hdX11_tellVisit_0.1.2.1.1.1.2
theorem dX11_tellVisit_40 : decode cX11_tellVisit 40 = .ok (.invokevirtual 126, 3) := fp_hdX11_tellVisit_0.1.2.1.1.2.1
theorem dX11_tellVisit_43 : decode cX11_tellVisit 43 = .ok (.ifCond .ne 5, 3) := fp_hdX11_tellVisit_0.1.2.1.1.2.2
theorem dX11_tellVisit_46 : decode cX11_tellVisit 46 = .ok (.iconst (-1), 1) := fp_hdX11_tellVisit_0.1.2.1.2.1.1
theorem dX11_tellVisit_47 : decode cX11_tellVisit 47 = .ok (.ireturn, 1) := fp_hdX11_tellVisit_0.1.2.1.2.1.2
theorem dX11_tellVisit_48 : decode cX11_tellVisit 48 = .ok (.iload_n 1, 1) := fp_hdX11_tellVisit_0.1.2.1.2.2.1
theorem dX11_tellVisit_49 : decode cX11_tellVisit 49 = .ok (.aload_n 0, 1) := fp_hdX11_tellVisit_0.1.2.1.2.2.2
theorem dX11_tellVisit_50 : decode cX11_tellVisit 50 = .ok (.getfield 37, 3) := fp_hdX11_tellVisit_0.1.2.2.1.1.1
theorem dX11_tellVisit_53 : decode cX11_tellVisit 53 = .ok (.invokevirtual 345, 3) := fp_hdX11_tellVisit_0.1.2.2.1.1.2
theorem dX11_tellVisit_56 : decode cX11_tellVisit 56 = .ok (.if_icmp .ge 5, 3) := fp_hdX11_tellVisit_0.1.2.2.1.2.1
theorem dX11_tellVisit_59 : decode cX11_tellVisit 59 = .ok (.iconst (-1), 1) := fp_hdX11_tellVisit_0.1.2.2.1.2.2
theorem dX11_tellVisit_60 : decode cX11_tellVisit 60 = .ok (.ireturn, 1) := fp_hdX11_tellVisit_0.1.2.2.2.1.1
theorem dX11_tellVisit_61 : decode cX11_tellVisit 61 = .ok (.aload_n 0, 1) := fp_hdX11_tellVisit_0.1.2.2.2.1.2
theorem dX11_tellVisit_62 : decode cX11_tellVisit 62 = .ok (.getfield 37, 3) := fp_hdX11_tellVisit_0.1.2.2.2.2.1
theorem dX11_tellVisit_65 : decode cX11_tellVisit 65 = .ok (.iload_n 1, 1) := fp_hdX11_tellVisit_0.1.2.2.2.2.2
theorem fp_hdX11_tellVisit_66 : ((((decode cX11_tellVisit 66 = .ok (.iload_n 2, 1) ∧ decode cX11_tellVisit 67 = .ok (.iload_n 3, 1)) ∧ decode cX11_tellVisit 68 = .ok (.iload 4, 2)) ∧ ((decode cX11_tellVisit 70 = .ok (.invokevirtual 349, 3) ∧ decode cX11_tellVisit 73 = .ok (.ifCond .eq 13, 3)) ∧ decode cX11_tellVisit 76 = .ok (.aload_n 0, 1))) ∧ (((decode cX11_tellVisit 77 = .ok (.getfield 37, 3) ∧ decode cX11_tellVisit 80 = .ok (.getfield 205, 3)) ∧ decode cX11_tellVisit 83 = .ok (.goto 5, 3)) ∧ (decode cX11_tellVisit 86 = .ok (.bipush (-3), 2) ∧ decode cX11_tellVisit 88 = .ok (.ireturn, 1)))) ∧ bA cX11_tellVisit 89 [] :=
  have q0 := fp_o28 fp_hdX11_tellVisit_0.2
  have q1 := fp_o29 q0.2
  have q2 := fp_o21 q1.2
  have q3 := fp_o182 (v := 349) q2.2 rfl
  have q4 := fp_o153 (v := 13) q3.2 rfl
  have q5 := fp_o42 q4.2
  have q6 := fp_o180 (v := 37) q5.2 rfl
  have q7 := fp_o180 (v := 205) q6.2 rfl
  have q8 := fp_o167 (v := 5) q7.2 rfl
  have q9 := fp_o16 (v := (-3)) q8.2 rfl
  have q10 := fp_o172 q9.2
  ⟨⟨⟨⟨⟨q0.1, q1.1⟩, q2.1⟩, ⟨⟨q3.1, q4.1⟩, q5.1⟩⟩, ⟨⟨⟨q6.1, q7.1⟩, q8.1⟩, ⟨q9.1, q10.1⟩⟩⟩, q10.2⟩
theorem dX11_tellVisit_66 : decode cX11_tellVisit 66 = .ok (.iload_n 2, 1) := fp_hdX11_tellVisit_66.1.1.1.1.1
theorem dX11_tellVisit_67 : decode cX11_tellVisit 67 = .ok (.iload_n 3, 1) := fp_hdX11_tellVisit_66.1.1.1.1.2
theorem dX11_tellVisit_68 : decode cX11_tellVisit 68 = .ok (.iload 4, 2) := fp_hdX11_tellVisit_66.1.1.1.2
theorem dX11_tellVisit_70 : decode cX11_tellVisit 70 = .ok (.invokevirtual 349, 3) := fp_hdX11_tellVisit_66.1.1.2.1.1
theorem dX11_tellVisit_73 : decode cX11_tellVisit 73 = .ok (.ifCond .eq 13, 3) := fp_hdX11_tellVisit_66.1.1.2.1.2
theorem dX11_tellVisit_76 : decode cX11_tellVisit 76 = .ok (.aload_n 0, 1) := fp_hdX11_tellVisit_66.1.1.2.2
theorem dX11_tellVisit_77 : decode cX11_tellVisit 77 = .ok (.getfield 37, 3) := fp_hdX11_tellVisit_66.1.2.1.1.1
theorem dX11_tellVisit_80 : decode cX11_tellVisit 80 = .ok (.getfield 205, 3) := fp_hdX11_tellVisit_66.1.2.1.1.2
theorem dX11_tellVisit_83 : decode cX11_tellVisit 83 = .ok (.goto 5, 3) := fp_hdX11_tellVisit_66.1.2.1.2
theorem dX11_tellVisit_86 : decode cX11_tellVisit 86 = .ok (.bipush (-3), 2) := fp_hdX11_tellVisit_66.1.2.2.1
theorem dX11_tellVisit_88 : decode cX11_tellVisit 88 = .ok (.ireturn, 1) := fp_hdX11_tellVisit_66.1.2.2.2
def fp_scX11_tellVisitOf_0 : List Nat := 42 :: 43 :: 180 :: 1 :: 96 :: 28 :: 46 :: 43 :: 180 :: 1 :: 96 :: 28 :: 4 :: 96 :: 46 :: 43 :: 180 :: 1 :: 96 :: 28 :: 5 :: 96 :: 46 :: 43 :: 180 :: 1 :: 96 :: 28 :: 6 :: 96 :: 46 :: 182 :: 0 :: 201 :: 172 :: []
theorem fp_bcX11_tellVisitOf : bA cX11_tellVisitOf 0 fp_scX11_tellVisitOf_0 := show cX11_tellVisitOf.data.toList.map UInt8.toNat = fp_scX11_tellVisitOf_0 from by decide +kernel
theorem fp_hdX11_tellVisitOf_0 : (((((decode cX11_tellVisitOf 0 = .ok (.aload_n 0, 1) ∧ decode cX11_tellVisitOf 1 = .ok (.aload_n 1, 1)) ∧ (decode cX11_tellVisitOf 2 = .ok (.getfield 352, 3) ∧ decode cX11_tellVisitOf 5 = .ok (.iload_n 2, 1))) ∧ ((decode cX11_tellVisitOf 6 = .ok (.iaload, 1) ∧ decode cX11_tellVisitOf 7 = .ok (.aload_n 1, 1)) ∧ decode cX11_tellVisitOf 8 = .ok (.getfield 352, 3))) ∧ (((decode cX11_tellVisitOf 11 = .ok (.iload_n 2, 1) ∧ decode cX11_tellVisitOf 12 = .ok (.iconst 1, 1)) ∧ decode cX11_tellVisitOf 13 = .ok (.iadd, 1)) ∧ ((decode cX11_tellVisitOf 14 = .ok (.iaload, 1) ∧ decode cX11_tellVisitOf 15 = .ok (.aload_n 1, 1)) ∧ decode cX11_tellVisitOf 16 = .ok (.getfield 352, 3)))) ∧ ((((decode cX11_tellVisitOf 19 = .ok (.iload_n 2, 1) ∧ decode cX11_tellVisitOf 20 = .ok (.iconst 2, 1)) ∧ decode cX11_tellVisitOf 21 = .ok (.iadd, 1)) ∧ ((decode cX11_tellVisitOf 22 = .ok (.iaload, 1) ∧ decode cX11_tellVisitOf 23 = .ok (.aload_n 1, 1)) ∧ decode cX11_tellVisitOf 24 = .ok (.getfield 352, 3))) ∧ (((decode cX11_tellVisitOf 27 = .ok (.iload_n 2, 1) ∧ decode cX11_tellVisitOf 28 = .ok (.iconst 3, 1)) ∧ decode cX11_tellVisitOf 29 = .ok (.iadd, 1)) ∧ ((decode cX11_tellVisitOf 30 = .ok (.iaload, 1) ∧ decode cX11_tellVisitOf 31 = .ok (.invokevirtual 201, 3)) ∧ decode cX11_tellVisitOf 34 = .ok (.ireturn, 1))))) ∧ bA cX11_tellVisitOf 35 [] :=
  have q0 := fp_o42 fp_bcX11_tellVisitOf
  have q1 := fp_o43 q0.2
  have q2 := fp_o180 (v := 352) q1.2 rfl
  have q3 := fp_o28 q2.2
  have q4 := fp_o46 q3.2
  have q5 := fp_o43 q4.2
  have q6 := fp_o180 (v := 352) q5.2 rfl
  have q7 := fp_o28 q6.2
  have q8 := fp_o4 q7.2
  have q9 := fp_o96 q8.2
  have q10 := fp_o46 q9.2
  have q11 := fp_o43 q10.2
  have q12 := fp_o180 (v := 352) q11.2 rfl
  have q13 := fp_o28 q12.2
  have q14 := fp_o5 q13.2
  have q15 := fp_o96 q14.2
  have q16 := fp_o46 q15.2
  have q17 := fp_o43 q16.2
  have q18 := fp_o180 (v := 352) q17.2 rfl
  have q19 := fp_o28 q18.2
  have q20 := fp_o6 q19.2
  have q21 := fp_o96 q20.2
  have q22 := fp_o46 q21.2
  have q23 := fp_o182 (v := 201) q22.2 rfl
  have q24 := fp_o172 q23.2
  ⟨⟨⟨⟨⟨⟨q0.1, q1.1⟩, ⟨q2.1, q3.1⟩⟩, ⟨⟨q4.1, q5.1⟩, q6.1⟩⟩, ⟨⟨⟨q7.1, q8.1⟩, q9.1⟩, ⟨⟨q10.1, q11.1⟩, q12.1⟩⟩⟩, ⟨⟨⟨⟨q13.1, q14.1⟩, q15.1⟩, ⟨⟨q16.1, q17.1⟩, q18.1⟩⟩, ⟨⟨⟨q19.1, q20.1⟩, q21.1⟩, ⟨⟨q22.1, q23.1⟩, q24.1⟩⟩⟩⟩, q24.2⟩
theorem dX11_tellVisitOf_0 : decode cX11_tellVisitOf 0 = .ok (.aload_n 0, 1) := fp_hdX11_tellVisitOf_0.1.1.1.1.1.1
theorem dX11_tellVisitOf_1 : decode cX11_tellVisitOf 1 = .ok (.aload_n 1, 1) := fp_hdX11_tellVisitOf_0.1.1.1.1.1.2
theorem dX11_tellVisitOf_2 : decode cX11_tellVisitOf 2 = .ok (.getfield 352, 3) := fp_hdX11_tellVisitOf_0.1.1.1.1.2.1
theorem dX11_tellVisitOf_5 : decode cX11_tellVisitOf 5 = .ok (.iload_n 2, 1) := fp_hdX11_tellVisitOf_0.1.1.1.1.2.2
theorem dX11_tellVisitOf_6 : decode cX11_tellVisitOf 6 = .ok (.iaload, 1) := fp_hdX11_tellVisitOf_0.1.1.1.2.1.1
theorem dX11_tellVisitOf_7 : decode cX11_tellVisitOf 7 = .ok (.aload_n 1, 1) := fp_hdX11_tellVisitOf_0.1.1.1.2.1.2
theorem dX11_tellVisitOf_8 : decode cX11_tellVisitOf 8 = .ok (.getfield 352, 3) := fp_hdX11_tellVisitOf_0.1.1.1.2.2
theorem dX11_tellVisitOf_11 : decode cX11_tellVisitOf 11 = .ok (.iload_n 2, 1) := fp_hdX11_tellVisitOf_0.1.1.2.1.1.1
theorem dX11_tellVisitOf_12 : decode cX11_tellVisitOf 12 = .ok (.iconst 1, 1) := fp_hdX11_tellVisitOf_0.1.1.2.1.1.2
theorem dX11_tellVisitOf_13 : decode cX11_tellVisitOf 13 = .ok (.iadd, 1) := fp_hdX11_tellVisitOf_0.1.1.2.1.2
theorem dX11_tellVisitOf_14 : decode cX11_tellVisitOf 14 = .ok (.iaload, 1) := fp_hdX11_tellVisitOf_0.1.1.2.2.1.1
theorem dX11_tellVisitOf_15 : decode cX11_tellVisitOf 15 = .ok (.aload_n 1, 1) := fp_hdX11_tellVisitOf_0.1.1.2.2.1.2
theorem dX11_tellVisitOf_16 : decode cX11_tellVisitOf 16 = .ok (.getfield 352, 3) := fp_hdX11_tellVisitOf_0.1.1.2.2.2
theorem dX11_tellVisitOf_19 : decode cX11_tellVisitOf 19 = .ok (.iload_n 2, 1) := fp_hdX11_tellVisitOf_0.1.2.1.1.1.1
theorem dX11_tellVisitOf_20 : decode cX11_tellVisitOf 20 = .ok (.iconst 2, 1) := fp_hdX11_tellVisitOf_0.1.2.1.1.1.2
theorem dX11_tellVisitOf_21 : decode cX11_tellVisitOf 21 = .ok (.iadd, 1) := fp_hdX11_tellVisitOf_0.1.2.1.1.2
theorem dX11_tellVisitOf_22 : decode cX11_tellVisitOf 22 = .ok (.iaload, 1) := fp_hdX11_tellVisitOf_0.1.2.1.2.1.1
theorem dX11_tellVisitOf_23 : decode cX11_tellVisitOf 23 = .ok (.aload_n 1, 1) := fp_hdX11_tellVisitOf_0.1.2.1.2.1.2
theorem dX11_tellVisitOf_24 : decode cX11_tellVisitOf 24 = .ok (.getfield 352, 3) := fp_hdX11_tellVisitOf_0.1.2.1.2.2
theorem dX11_tellVisitOf_27 : decode cX11_tellVisitOf 27 = .ok (.iload_n 2, 1) := fp_hdX11_tellVisitOf_0.1.2.2.1.1.1
theorem dX11_tellVisitOf_28 : decode cX11_tellVisitOf 28 = .ok (.iconst 3, 1) := fp_hdX11_tellVisitOf_0.1.2.2.1.1.2
theorem dX11_tellVisitOf_29 : decode cX11_tellVisitOf 29 = .ok (.iadd, 1) := fp_hdX11_tellVisitOf_0.1.2.2.1.2
theorem dX11_tellVisitOf_30 : decode cX11_tellVisitOf 30 = .ok (.iaload, 1) := fp_hdX11_tellVisitOf_0.1.2.2.2.1.1
theorem dX11_tellVisitOf_31 : decode cX11_tellVisitOf 31 = .ok (.invokevirtual 201, 3) := fp_hdX11_tellVisitOf_0.1.2.2.2.1.2
theorem dX11_tellVisitOf_34 : decode cX11_tellVisitOf 34 = .ok (.ireturn, 1) := fp_hdX11_tellVisitOf_0.1.2.2.2.2
def fp_scX11_greatestDivisor_0 : List Nat := 30 :: 55 :: 4 :: 32 :: 55 :: 6 :: 3 :: 54 :: 8 :: 21 :: 8 :: 16 :: 100 :: 162 :: 0 :: 31 :: 22 :: 6 :: 9 :: 148 :: 158 :: 0 :: 24 :: 22 :: 4 :: 22 :: 6 :: 113 :: 55 :: 9 :: 22 :: 6 :: 55 :: 4 :: 22 :: 9 :: 55 :: 6 :: 132 :: 8 :: 1 :: 167 :: 255 :: 224 :: 22 :: 4 :: 173 :: []
theorem fp_bcX11_greatestDivisor : bA cX11_greatestDivisor 0 fp_scX11_greatestDivisor_0 := show cX11_greatestDivisor.data.toList.map UInt8.toNat = fp_scX11_greatestDivisor_0 from by decide +kernel
theorem fp_hdX11_greatestDivisor_0 : (((((decode cX11_greatestDivisor 0 = .ok (.lload_n 0, 1) ∧ decode cX11_greatestDivisor 1 = .ok (.lstore 4, 2)) ∧ (decode cX11_greatestDivisor 3 = .ok (.lload_n 2, 1) ∧ decode cX11_greatestDivisor 4 = .ok (.lstore 6, 2))) ∧ ((decode cX11_greatestDivisor 6 = .ok (.iconst 0, 1) ∧ decode cX11_greatestDivisor 7 = .ok (.istore 8, 2)) ∧ decode cX11_greatestDivisor 9 = .ok (.iload 8, 2))) ∧ (((decode cX11_greatestDivisor 11 = .ok (.bipush 100, 2) ∧ decode cX11_greatestDivisor 13 = .ok (.if_icmp .ge 31, 3)) ∧ decode cX11_greatestDivisor 16 = .ok (.lload 6, 2)) ∧ ((decode cX11_greatestDivisor 18 = .ok (.lconst 0, 1) ∧ decode cX11_greatestDivisor 19 = .ok (.lcmp, 1)) ∧ decode cX11_greatestDivisor 20 = .ok (.ifCond .le 24, 3)))) ∧ ((((decode cX11_greatestDivisor 23 = .ok (.lload 4, 2) ∧ decode cX11_greatestDivisor 25 = .ok (.lload 6, 2)) ∧ decode cX11_greatestDivisor 27 = .ok (.lrem, 1)) ∧ ((decode cX11_greatestDivisor 28 = .ok (.lstore 9, 2) ∧ decode cX11_greatestDivisor 30 = .ok (.lload 6, 2)) ∧ decode cX11_greatestDivisor 32 = .ok (.lstore 4, 2))) ∧ (((decode cX11_greatestDivisor 34 = .ok (.lload 9, 2) ∧ decode cX11_greatestDivisor 36 = .ok (.lstore 6, 2)) ∧ decode cX11_greatestDivisor 38 = .ok (.iinc 8 1, 3)) ∧ ((decode cX11_greatestDivisor 41 = .ok (.goto (-32), 3) ∧ decode cX11_greatestDivisor 44 = .ok (.lload 4, 2)) ∧ decode cX11_greatestDivisor 46 = .ok (.lreturn, 1))))) ∧ bA cX11_greatestDivisor 47 [] :=
  have q0 := fp_o30 fp_bcX11_greatestDivisor
  have q1 := fp_o55 q0.2
  have q2 := fp_o32 q1.2
  have q3 := fp_o55 q2.2
  have q4 := fp_o3 q3.2
  have q5 := fp_o54 q4.2
  have q6 := fp_o21 q5.2
  have q7 := fp_o16 (v := 100) q6.2 rfl
  have q8 := fp_o162 (v := 31) q7.2 rfl
  have q9 := fp_o22 q8.2
  have q10 := fp_o9 q9.2
  have q11 := fp_o148 q10.2
  have q12 := fp_o158 (v := 24) q11.2 rfl
  have q13 := fp_o22 q12.2
  have q14 := fp_o22 q13.2
  have q15 := fp_o113 q14.2
  have q16 := fp_o55 q15.2
  have q17 := fp_o22 q16.2
  have q18 := fp_o55 q17.2
  have q19 := fp_o22 q18.2
  have q20 := fp_o55 q19.2
  have q21 := fp_o132 (v := 1) q20.2 rfl
  have q22 := fp_o167 (v := (-32)) q21.2 rfl
  have q23 := fp_o22 q22.2
  have q24 := fp_o173 q23.2
  ⟨⟨⟨⟨⟨⟨q0.1, q1.1⟩, ⟨q2.1, q3.1⟩⟩, ⟨⟨q4.1, q5.1⟩, q6.1⟩⟩, ⟨⟨⟨q7.1, q8.1⟩, q9.1⟩, ⟨⟨q10.1, q11.1⟩, q12.1⟩⟩⟩, ⟨⟨⟨⟨q13.1, q14.1⟩, q15.1⟩, ⟨⟨q16.1, q17.1⟩, q18.1⟩⟩, ⟨⟨⟨q19.1, q20.1⟩, q21.1⟩, ⟨⟨q22.1, q23.1⟩, q24.1⟩⟩⟩⟩, q24.2⟩
theorem dX11_greatestDivisor_0 : decode cX11_greatestDivisor 0 = .ok (.lload_n 0, 1) := fp_hdX11_greatestDivisor_0.1.1.1.1.1.1
theorem dX11_greatestDivisor_1 : decode cX11_greatestDivisor 1 = .ok (.lstore 4, 2) := fp_hdX11_greatestDivisor_0.1.1.1.1.1.2
theorem dX11_greatestDivisor_3 : decode cX11_greatestDivisor 3 = .ok (.lload_n 2, 1) := fp_hdX11_greatestDivisor_0.1.1.1.1.2.1
theorem dX11_greatestDivisor_4 : decode cX11_greatestDivisor 4 = .ok (.lstore 6, 2) := fp_hdX11_greatestDivisor_0.1.1.1.1.2.2
theorem dX11_greatestDivisor_6 : decode cX11_greatestDivisor 6 = .ok (.iconst 0, 1) := fp_hdX11_greatestDivisor_0.1.1.1.2.1.1
theorem dX11_greatestDivisor_7 : decode cX11_greatestDivisor 7 = .ok (.istore 8, 2) := fp_hdX11_greatestDivisor_0.1.1.1.2.1.2
theorem dX11_greatestDivisor_9 : decode cX11_greatestDivisor 9 = .ok (.iload 8, 2) := fp_hdX11_greatestDivisor_0.1.1.1.2.2
theorem dX11_greatestDivisor_11 : decode cX11_greatestDivisor 11 = .ok (.bipush 100, 2) := fp_hdX11_greatestDivisor_0.1.1.2.1.1.1
theorem dX11_greatestDivisor_13 : decode cX11_greatestDivisor 13 = .ok (.if_icmp .ge 31, 3) := fp_hdX11_greatestDivisor_0.1.1.2.1.1.2
theorem dX11_greatestDivisor_16 : decode cX11_greatestDivisor 16 = .ok (.lload 6, 2) := fp_hdX11_greatestDivisor_0.1.1.2.1.2
theorem dX11_greatestDivisor_18 : decode cX11_greatestDivisor 18 = .ok (.lconst 0, 1) := fp_hdX11_greatestDivisor_0.1.1.2.2.1.1
theorem dX11_greatestDivisor_19 : decode cX11_greatestDivisor 19 = .ok (.lcmp, 1) := fp_hdX11_greatestDivisor_0.1.1.2.2.1.2
theorem dX11_greatestDivisor_20 : decode cX11_greatestDivisor 20 = .ok (.ifCond .le 24, 3) := fp_hdX11_greatestDivisor_0.1.1.2.2.2
theorem dX11_greatestDivisor_23 : decode cX11_greatestDivisor 23 = .ok (.lload 4, 2) := fp_hdX11_greatestDivisor_0.1.2.1.1.1.1
theorem dX11_greatestDivisor_25 : decode cX11_greatestDivisor 25 = .ok (.lload 6, 2) := fp_hdX11_greatestDivisor_0.1.2.1.1.1.2
theorem dX11_greatestDivisor_27 : decode cX11_greatestDivisor 27 = .ok (.lrem, 1) := fp_hdX11_greatestDivisor_0.1.2.1.1.2
theorem dX11_greatestDivisor_28 : decode cX11_greatestDivisor 28 = .ok (.lstore 9, 2) := fp_hdX11_greatestDivisor_0.1.2.1.2.1.1
theorem dX11_greatestDivisor_30 : decode cX11_greatestDivisor 30 = .ok (.lload 6, 2) := fp_hdX11_greatestDivisor_0.1.2.1.2.1.2
theorem dX11_greatestDivisor_32 : decode cX11_greatestDivisor 32 = .ok (.lstore 4, 2) := fp_hdX11_greatestDivisor_0.1.2.1.2.2
theorem dX11_greatestDivisor_34 : decode cX11_greatestDivisor 34 = .ok (.lload 9, 2) := fp_hdX11_greatestDivisor_0.1.2.2.1.1.1
theorem dX11_greatestDivisor_36 : decode cX11_greatestDivisor 36 = .ok (.lstore 6, 2) := fp_hdX11_greatestDivisor_0.1.2.2.1.1.2
theorem dX11_greatestDivisor_38 : decode cX11_greatestDivisor 38 = .ok (.iinc 8 1, 3) := fp_hdX11_greatestDivisor_0.1.2.2.1.2
theorem dX11_greatestDivisor_41 : decode cX11_greatestDivisor 41 = .ok (.goto (-32), 3) := fp_hdX11_greatestDivisor_0.1.2.2.2.1.1
theorem dX11_greatestDivisor_44 : decode cX11_greatestDivisor 44 = .ok (.lload 4, 2) := fp_hdX11_greatestDivisor_0.1.2.2.2.1.2
theorem dX11_greatestDivisor_46 : decode cX11_greatestDivisor 46 = .ok (.lreturn, 1) := fp_hdX11_greatestDivisor_0.1.2.2.2.2
def fp_scX11_givenSpot_1 : List Nat := 46 :: 46 :: 162 :: 0 :: 7 :: 21 :: 6 :: 54 :: 5 :: 132 :: 6 :: 1 :: 167 :: 255 :: 217 :: 21 :: 5 :: 172 :: []
def fp_scX11_givenSpot_0 : List Nat := 27 :: 154 :: 0 :: 5 :: 3 :: 172 :: 27 :: 4 :: 160 :: 0 :: 8 :: 21 :: 4 :: 4 :: 100 :: 172 :: 3 :: 54 :: 5 :: 4 :: 54 :: 6 :: 21 :: 6 :: 21 :: 4 :: 162 :: 0 :: 38 :: 42 :: 180 :: 0 :: 134 :: 44 :: 29 :: 21 :: 6 :: 96 :: 46 :: 46 :: 42 :: 180 :: 0 :: 134 :: 44 :: 29 :: 21 :: 5 :: 96 :: fp_scX11_givenSpot_1
theorem fp_bcX11_givenSpot : bA cX11_givenSpot 0 fp_scX11_givenSpot_0 := show cX11_givenSpot.data.toList.map UInt8.toNat = fp_scX11_givenSpot_0 from by decide +kernel
theorem fp_hdX11_givenSpot_0 : (((((decode cX11_givenSpot 0 = .ok (.iload_n 1, 1) ∧ decode cX11_givenSpot 1 = .ok (.ifCond .ne 5, 3)) ∧ (decode cX11_givenSpot 4 = .ok (.iconst 0, 1) ∧ decode cX11_givenSpot 5 = .ok (.ireturn, 1))) ∧ ((decode cX11_givenSpot 6 = .ok (.iload_n 1, 1) ∧ decode cX11_givenSpot 7 = .ok (.iconst 1, 1)) ∧ (decode cX11_givenSpot 8 = .ok (.if_icmp .ne 8, 3) ∧ decode cX11_givenSpot 11 = .ok (.iload 4, 2)))) ∧ (((decode cX11_givenSpot 13 = .ok (.iconst 1, 1) ∧ decode cX11_givenSpot 14 = .ok (.isub, 1)) ∧ (decode cX11_givenSpot 15 = .ok (.ireturn, 1) ∧ decode cX11_givenSpot 16 = .ok (.iconst 0, 1))) ∧ ((decode cX11_givenSpot 17 = .ok (.istore 5, 2) ∧ decode cX11_givenSpot 19 = .ok (.iconst 1, 1)) ∧ (decode cX11_givenSpot 20 = .ok (.istore 6, 2) ∧ decode cX11_givenSpot 22 = .ok (.iload 6, 2))))) ∧ ((((decode cX11_givenSpot 24 = .ok (.iload 4, 2) ∧ decode cX11_givenSpot 26 = .ok (.if_icmp .ge 38, 3)) ∧ (decode cX11_givenSpot 29 = .ok (.aload_n 0, 1) ∧ decode cX11_givenSpot 30 = .ok (.getfield 134, 3))) ∧ ((decode cX11_givenSpot 33 = .ok (.aload_n 2, 1) ∧ decode cX11_givenSpot 34 = .ok (.iload_n 3, 1)) ∧ (decode cX11_givenSpot 35 = .ok (.iload 6, 2) ∧ decode cX11_givenSpot 37 = .ok (.iadd, 1)))) ∧ (((decode cX11_givenSpot 38 = .ok (.iaload, 1) ∧ decode cX11_givenSpot 39 = .ok (.iaload, 1)) ∧ (decode cX11_givenSpot 40 = .ok (.aload_n 0, 1) ∧ decode cX11_givenSpot 41 = .ok (.getfield 134, 3))) ∧ ((decode cX11_givenSpot 44 = .ok (.aload_n 2, 1) ∧ decode cX11_givenSpot 45 = .ok (.iload_n 3, 1)) ∧ (decode cX11_givenSpot 46 = .ok (.iload 5, 2) ∧ decode cX11_givenSpot 48 = .ok (.iadd, 1)))))) ∧ bA cX11_givenSpot 49 fp_scX11_givenSpot_1 :=
  have q0 := fp_o27 fp_bcX11_givenSpot
  have q1 := fp_o154 (v := 5) q0.2 rfl
  have q2 := fp_o3 q1.2
  have q3 := fp_o172 q2.2
  have q4 := fp_o27 q3.2
  have q5 := fp_o4 q4.2
  have q6 := fp_o160 (v := 8) q5.2 rfl
  have q7 := fp_o21 q6.2
  have q8 := fp_o4 q7.2
  have q9 := fp_o100 q8.2
  have q10 := fp_o172 q9.2
  have q11 := fp_o3 q10.2
  have q12 := fp_o54 q11.2
  have q13 := fp_o4 q12.2
  have q14 := fp_o54 q13.2
  have q15 := fp_o21 q14.2
  have q16 := fp_o21 q15.2
  have q17 := fp_o162 (v := 38) q16.2 rfl
  have q18 := fp_o42 q17.2
  have q19 := fp_o180 (v := 134) q18.2 rfl
  have q20 := fp_o44 q19.2
  have q21 := fp_o29 q20.2
  have q22 := fp_o21 q21.2
  have q23 := fp_o96 q22.2
  have q24 := fp_o46 q23.2
  have q25 := fp_o46 q24.2
  have q26 := fp_o42 q25.2
  have q27 := fp_o180 (v := 134) q26.2 rfl
  have q28 := fp_o44 q27.2
  have q29 := fp_o29 q28.2
  have q30 := fp_o21 q29.2
  have q31 := fp_o96 q30.2
  ⟨⟨⟨⟨⟨⟨q0.1, q1.1⟩, ⟨q2.1, q3.1⟩⟩, ⟨⟨q4.1, q5.1⟩, ⟨q6.1, q7.1⟩⟩⟩, ⟨⟨⟨q8.1, q9.1⟩, ⟨q10.1, q11.1⟩⟩, ⟨⟨q12.1, q13.1⟩, ⟨q14.1, q15.1⟩⟩⟩⟩, ⟨⟨⟨⟨q16.1, q17.1⟩, ⟨q18.1, q19.1⟩⟩, ⟨⟨q20.1, q21.1⟩, ⟨q22.1, q23.1⟩⟩⟩, ⟨⟨⟨q24.1, q25.1⟩, ⟨q26.1, q27.1⟩⟩, ⟨⟨q28.1, q29.1⟩, ⟨q30.1, q31.1⟩⟩⟩⟩⟩, q31.2⟩
theorem dX11_givenSpot_0 : decode cX11_givenSpot 0 = .ok (.iload_n 1, 1) := fp_hdX11_givenSpot_0.1.1.1.1.1.1
theorem dX11_givenSpot_1 : decode cX11_givenSpot 1 = .ok (.ifCond .ne 5, 3) := fp_hdX11_givenSpot_0.1.1.1.1.1.2
theorem dX11_givenSpot_4 : decode cX11_givenSpot 4 = .ok (.iconst 0, 1) := fp_hdX11_givenSpot_0.1.1.1.1.2.1
theorem dX11_givenSpot_5 : decode cX11_givenSpot 5 = .ok (.ireturn, 1) := fp_hdX11_givenSpot_0.1.1.1.1.2.2
theorem dX11_givenSpot_6 : decode cX11_givenSpot 6 = .ok (.iload_n 1, 1) := fp_hdX11_givenSpot_0.1.1.1.2.1.1
theorem dX11_givenSpot_7 : decode cX11_givenSpot 7 = .ok (.iconst 1, 1) := fp_hdX11_givenSpot_0.1.1.1.2.1.2
theorem dX11_givenSpot_8 : decode cX11_givenSpot 8 = .ok (.if_icmp .ne 8, 3) := fp_hdX11_givenSpot_0.1.1.1.2.2.1
theorem dX11_givenSpot_11 : decode cX11_givenSpot 11 = .ok (.iload 4, 2) := fp_hdX11_givenSpot_0.1.1.1.2.2.2
theorem dX11_givenSpot_13 : decode cX11_givenSpot 13 = .ok (.iconst 1, 1) := fp_hdX11_givenSpot_0.1.1.2.1.1.1
theorem dX11_givenSpot_14 : decode cX11_givenSpot 14 = .ok (.isub, 1) := fp_hdX11_givenSpot_0.1.1.2.1.1.2
theorem dX11_givenSpot_15 : decode cX11_givenSpot 15 = .ok (.ireturn, 1) := fp_hdX11_givenSpot_0.1.1.2.1.2.1
theorem dX11_givenSpot_16 : decode cX11_givenSpot 16 = .ok (.iconst 0, 1) := fp_hdX11_givenSpot_0.1.1.2.1.2.2
theorem dX11_givenSpot_17 : decode cX11_givenSpot 17 = .ok (.istore 5, 2) := fp_hdX11_givenSpot_0.1.1.2.2.1.1
theorem dX11_givenSpot_19 : decode cX11_givenSpot 19 = .ok (.iconst 1, 1) := fp_hdX11_givenSpot_0.1.1.2.2.1.2
theorem dX11_givenSpot_20 : decode cX11_givenSpot 20 = .ok (.istore 6, 2) := fp_hdX11_givenSpot_0.1.1.2.2.2.1
theorem dX11_givenSpot_22 : decode cX11_givenSpot 22 = .ok (.iload 6, 2) := fp_hdX11_givenSpot_0.1.1.2.2.2.2
theorem dX11_givenSpot_24 : decode cX11_givenSpot 24 = .ok (.iload 4, 2) := fp_hdX11_givenSpot_0.1.2.1.1.1.1
theorem dX11_givenSpot_26 : decode cX11_givenSpot 26 = .ok (.if_icmp .ge 38, 3) := fp_hdX11_givenSpot_0.1.2.1.1.1.2
theorem dX11_givenSpot_29 : decode cX11_givenSpot 29 = .ok (.aload_n 0, 1) := fp_hdX11_givenSpot_0.1.2.1.1.2.1
theorem dX11_givenSpot_30 : decode cX11_givenSpot 30 = .ok (.getfield 134, 3) := fp_hdX11_givenSpot_0.1.2.1.1.2.2
theorem dX11_givenSpot_33 : decode cX11_givenSpot 33 = .ok (.aload_n 2, 1) := fp_hdX11_givenSpot_0.1.2.1.2.1.1
theorem dX11_givenSpot_34 : decode cX11_givenSpot 34 = .ok (.iload_n 3, 1) := fp_hdX11_givenSpot_0.1.2.1.2.1.2
theorem dX11_givenSpot_35 : decode cX11_givenSpot 35 = .ok (.iload 6, 2) := fp_hdX11_givenSpot_0.1.2.1.2.2.1
theorem dX11_givenSpot_37 : decode cX11_givenSpot 37 = .ok (.iadd, 1) := fp_hdX11_givenSpot_0.1.2.1.2.2.2
theorem dX11_givenSpot_38 : decode cX11_givenSpot 38 = .ok (.iaload, 1) := fp_hdX11_givenSpot_0.1.2.2.1.1.1
theorem dX11_givenSpot_39 : decode cX11_givenSpot 39 = .ok (.iaload, 1) := fp_hdX11_givenSpot_0.1.2.2.1.1.2
theorem dX11_givenSpot_40 : decode cX11_givenSpot 40 = .ok (.aload_n 0, 1) := fp_hdX11_givenSpot_0.1.2.2.1.2.1
theorem dX11_givenSpot_41 : decode cX11_givenSpot 41 = .ok (.getfield 134, 3) := fp_hdX11_givenSpot_0.1.2.2.1.2.2
theorem dX11_givenSpot_44 : decode cX11_givenSpot 44 = .ok (.aload_n 2, 1) := fp_hdX11_givenSpot_0.1.2.2.2.1.1
theorem dX11_givenSpot_45 : decode cX11_givenSpot 45 = .ok (.iload_n 3, 1) := fp_hdX11_givenSpot_0.1.2.2.2.1.2
theorem dX11_givenSpot_46 : decode cX11_givenSpot 46 = .ok (.iload 5, 2) := fp_hdX11_givenSpot_0.1.2.2.2.2.1
theorem dX11_givenSpot_48 : decode cX11_givenSpot 48 = .ok (.iadd, 1) := fp_hdX11_givenSpot_0.1.2.2.2.2.2
theorem fp_hdX11_givenSpot_49 : ((((decode cX11_givenSpot 49 = .ok (.iaload, 1) ∧ decode cX11_givenSpot 50 = .ok (.iaload, 1)) ∧ decode cX11_givenSpot 51 = .ok (.if_icmp .ge 7, 3)) ∧ (decode cX11_givenSpot 54 = .ok (.iload 6, 2) ∧ decode cX11_givenSpot 56 = .ok (.istore 5, 2))) ∧ ((decode cX11_givenSpot 58 = .ok (.iinc 6 1, 3) ∧ decode cX11_givenSpot 61 = .ok (.goto (-39), 3)) ∧ (decode cX11_givenSpot 64 = .ok (.iload 5, 2) ∧ decode cX11_givenSpot 66 = .ok (.ireturn, 1)))) ∧ bA cX11_givenSpot 67 [] :=
  have q0 := fp_o46 fp_hdX11_givenSpot_0.2
  have q1 := fp_o46 q0.2
  have q2 := fp_o162 (v := 7) q1.2 rfl
  have q3 := fp_o21 q2.2
  have q4 := fp_o54 q3.2
  have q5 := fp_o132 (v := 1) q4.2 rfl
  have q6 := fp_o167 (v := (-39)) q5.2 rfl
  have q7 := fp_o21 q6.2
  have q8 := fp_o172 q7.2
  ⟨⟨⟨⟨⟨q0.1, q1.1⟩, q2.1⟩, ⟨q3.1, q4.1⟩⟩, ⟨⟨q5.1, q6.1⟩, ⟨q7.1, q8.1⟩⟩⟩, q8.2⟩
theorem dX11_givenSpot_49 : decode cX11_givenSpot 49 = .ok (.iaload, 1) := fp_hdX11_givenSpot_49.1.1.1.1.1
theorem dX11_givenSpot_50 : decode cX11_givenSpot 50 = .ok (.iaload, 1) := fp_hdX11_givenSpot_49.1.1.1.1.2
theorem dX11_givenSpot_51 : decode cX11_givenSpot 51 = .ok (.if_icmp .ge 7, 3) := fp_hdX11_givenSpot_49.1.1.1.2
theorem dX11_givenSpot_54 : decode cX11_givenSpot 54 = .ok (.iload 6, 2) := fp_hdX11_givenSpot_49.1.1.2.1
theorem dX11_givenSpot_56 : decode cX11_givenSpot 56 = .ok (.istore 5, 2) := fp_hdX11_givenSpot_49.1.1.2.2
theorem dX11_givenSpot_58 : decode cX11_givenSpot 58 = .ok (.iinc 6 1, 3) := fp_hdX11_givenSpot_49.1.2.1.1
theorem dX11_givenSpot_61 : decode cX11_givenSpot 61 = .ok (.goto (-39), 3) := fp_hdX11_givenSpot_49.1.2.1.2
theorem dX11_givenSpot_64 : decode cX11_givenSpot 64 = .ok (.iload 5, 2) := fp_hdX11_givenSpot_49.1.2.2.1
theorem dX11_givenSpot_66 : decode cX11_givenSpot 66 = .ok (.ireturn, 1) := fp_hdX11_givenSpot_49.1.2.2.2
