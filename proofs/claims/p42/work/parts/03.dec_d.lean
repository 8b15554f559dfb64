def fp_scX12_init_10 : List Nat := 181 :: 0 :: 85 :: 42 :: 17 :: 0 :: 160 :: 188 :: 10 :: 181 :: 0 :: 88 :: 177 :: []
def fp_scX12_init_9 : List Nat := 181 :: 0 :: 72 :: 42 :: 7 :: 188 :: 10 :: 181 :: 0 :: 75 :: 42 :: 5 :: 188 :: 4 :: 181 :: 0 :: 78 :: 42 :: 7 :: 188 :: 10 :: 89 :: 3 :: 16 :: 252 :: 79 :: 89 :: 4 :: 16 :: 252 :: 79 :: 89 :: 5 :: 16 :: 252 :: 79 :: 89 :: 6 :: 16 :: 252 :: 79 :: 181 :: 0 :: 82 :: 42 :: 7 :: 188 :: 10 :: fp_scX12_init_10
def fp_scX12_init_8 : List Nat := 181 :: 0 :: 47 :: 42 :: 16 :: 12 :: 188 :: 10 :: 181 :: 0 :: 50 :: 42 :: 16 :: 12 :: 188 :: 10 :: 181 :: 0 :: 53 :: 42 :: 16 :: 10 :: 188 :: 11 :: 181 :: 0 :: 56 :: 42 :: 17 :: 2 :: 217 :: 188 :: 10 :: 181 :: 0 :: 60 :: 42 :: 16 :: 8 :: 188 :: 10 :: 181 :: 0 :: 63 :: 42 :: 16 :: 8 :: 188 :: 10 :: 181 :: 0 :: 66 :: 42 :: 7 :: 188 :: 10 :: 181 :: 0 :: 69 :: 42 :: 7 :: 188 :: 10 :: fp_scX12_init_9
def fp_scX12_init_7 : List Nat := 89 :: 16 :: 35 :: 16 :: 105 :: 79 :: 89 :: 16 :: 36 :: 16 :: 103 :: 79 :: 89 :: 16 :: 37 :: 16 :: 104 :: 79 :: 89 :: 16 :: 38 :: 16 :: 116 :: 79 :: 89 :: 16 :: 39 :: 16 :: 101 :: 79 :: 89 :: 16 :: 40 :: 16 :: 115 :: 79 :: 89 :: 16 :: 41 :: 16 :: 116 :: 79 :: 181 :: 0 :: 44 :: 42 :: 17 :: 2 :: 48 :: 188 :: 10 :: fp_scX12_init_8
def fp_scX12_init_6 : List Nat := 89 :: 16 :: 27 :: 16 :: 116 :: 79 :: 89 :: 16 :: 28 :: 16 :: 108 :: 79 :: 89 :: 16 :: 29 :: 16 :: 97 :: 79 :: 89 :: 16 :: 30 :: 16 :: 116 :: 79 :: 89 :: 16 :: 31 :: 16 :: 101 :: 79 :: 89 :: 16 :: 32 :: 16 :: 115 :: 79 :: 89 :: 16 :: 33 :: 16 :: 116 :: 79 :: 89 :: 16 :: 34 :: 16 :: 108 :: 79 :: fp_scX12_init_7
def fp_scX12_init_5 : List Nat := 89 :: 16 :: 19 :: 16 :: 110 :: 79 :: 89 :: 16 :: 20 :: 16 :: 99 :: 79 :: 89 :: 16 :: 21 :: 16 :: 101 :: 79 :: 89 :: 16 :: 22 :: 16 :: 101 :: 79 :: 89 :: 16 :: 23 :: 16 :: 108 :: 79 :: 89 :: 16 :: 24 :: 16 :: 100 :: 79 :: 89 :: 16 :: 25 :: 16 :: 101 :: 79 :: 89 :: 16 :: 26 :: 16 :: 115 :: 79 :: fp_scX12_init_6
def fp_scX12_init_4 : List Nat := 89 :: 16 :: 11 :: 16 :: 116 :: 79 :: 89 :: 16 :: 12 :: 16 :: 100 :: 79 :: 89 :: 16 :: 13 :: 16 :: 114 :: 79 :: 89 :: 16 :: 14 :: 16 :: 97 :: 79 :: 89 :: 16 :: 15 :: 16 :: 119 :: 79 :: 89 :: 16 :: 16 :: 16 :: 99 :: 79 :: 89 :: 16 :: 17 :: 16 :: 104 :: 79 :: 89 :: 16 :: 18 :: 16 :: 97 :: 79 :: fp_scX12_init_5
def fp_scX12_init_3 : List Nat := 89 :: 6 :: 16 :: 110 :: 79 :: 89 :: 7 :: 16 :: 103 :: 79 :: 89 :: 8 :: 16 :: 108 :: 79 :: 89 :: 16 :: 6 :: 16 :: 105 :: 79 :: 89 :: 16 :: 7 :: 16 :: 110 :: 79 :: 89 :: 16 :: 8 :: 16 :: 101 :: 79 :: 89 :: 16 :: 9 :: 16 :: 112 :: 79 :: 89 :: 16 :: 10 :: 16 :: 117 :: 79 :: fp_scX12_init_4
def fp_scX12_init_2 : List Nat := 89 :: 8 :: 16 :: 22 :: 79 :: 89 :: 16 :: 6 :: 16 :: 28 :: 79 :: 89 :: 16 :: 7 :: 16 :: 34 :: 79 :: 89 :: 16 :: 8 :: 16 :: 42 :: 79 :: 181 :: 0 :: 41 :: 42 :: 16 :: 42 :: 188 :: 10 :: 89 :: 3 :: 16 :: 116 :: 79 :: 89 :: 4 :: 16 :: 104 :: 79 :: 89 :: 5 :: 16 :: 105 :: 79 :: fp_scX12_init_3
def fp_scX12_init_1 : List Nat := 181 :: 0 :: 32 :: 42 :: 6 :: 188 :: 10 :: 181 :: 0 :: 35 :: 42 :: 17 :: 1 :: 224 :: 188 :: 10 :: 181 :: 0 :: 38 :: 42 :: 16 :: 9 :: 188 :: 10 :: 89 :: 3 :: 3 :: 79 :: 89 :: 4 :: 8 :: 79 :: 89 :: 5 :: 16 :: 9 :: 79 :: 89 :: 6 :: 16 :: 12 :: 79 :: 89 :: 7 :: 16 :: 16 :: 79 :: fp_scX12_init_2
def fp_scX12_init_0 : List Nat := 42 :: 183 :: 0 :: 1 :: 42 :: 17 :: 2 :: 88 :: 188 :: 10 :: 181 :: 0 :: 7 :: 42 :: 16 :: 11 :: 188 :: 10 :: 181 :: 0 :: 13 :: 42 :: 16 :: 44 :: 188 :: 10 :: 181 :: 0 :: 16 :: 42 :: 6 :: 188 :: 10 :: 181 :: 0 :: 19 :: 42 :: 16 :: 10 :: 181 :: 0 :: 22 :: 42 :: 16 :: 120 :: 188 :: 10 :: 181 :: 0 :: 26 :: 42 :: 16 :: 10 :: 188 :: 10 :: 181 :: 0 :: 29 :: 42 :: 16 :: 40 :: 188 :: 10 :: fp_scX12_init_1
theorem fp_bcX12_init : bA cX12_init 0 fp_scX12_init_0 := show cX12_init.data.toList.map UInt8.toNat = fp_scX12_init_0 from by decide +kernel
theorem fp_hdX12_init_0 : (((((decode cX12_init 0 = .ok (.aload_n 0, 1) ∧ decode cX12_init 1 = .ok (.invokespecial 1, 3)) ∧ (decode cX12_init 4 = .ok (.aload_n 0, 1) ∧ decode cX12_init 5 = .ok (.sipush 600, 3))) ∧ ((decode cX12_init 8 = .ok (.newarray .int, 2) ∧ decode cX12_init 10 = .ok (.putfield 7, 3)) ∧ (decode cX12_init 13 = .ok (.aload_n 0, 1) ∧ decode cX12_init 14 = .ok (.bipush 11, 2)))) ∧ (((decode cX12_init 16 = .ok (.newarray .int, 2) ∧ decode cX12_init 18 = .ok (.putfield 13, 3)) ∧ (decode cX12_init 21 = .ok (.aload_n 0, 1) ∧ decode cX12_init 22 = .ok (.bipush 44, 2))) ∧ ((decode cX12_init 24 = .ok (.newarray .int, 2) ∧ decode cX12_init 26 = .ok (.putfield 16, 3)) ∧ (decode cX12_init 29 = .ok (.aload_n 0, 1) ∧ decode cX12_init 30 = .ok (.iconst 3, 1))))) ∧ ((((decode cX12_init 31 = .ok (.newarray .int, 2) ∧ decode cX12_init 33 = .ok (.putfield 19, 3)) ∧ (decode cX12_init 36 = .ok (.aload_n 0, 1) ∧ decode cX12_init 37 = .ok (.bipush 10, 2))) ∧ ((decode cX12_init 39 = .ok (.putfield 22, 3) ∧ decode cX12_init 42 = .ok (.aload_n 0, 1)) ∧ (decode cX12_init 43 = .ok (.bipush 120, 2) ∧ decode cX12_init 45 = .ok (.newarray .int, 2)))) ∧ (((decode cX12_init 47 = .ok (.putfield 26, 3) ∧ decode cX12_init 50 = .ok (.aload_n 0, 1)) ∧ (decode cX12_init 51 = .ok (.bipush 10, 2) ∧ decode cX12_init 53 = .ok (.newarray .int, 2))) ∧ ((decode cX12_init 55 = .ok (.putfield 29, 3) ∧ decode cX12_init 58 = .ok (.aload_n 0, 1)) ∧ (decode cX12_init 59 = .ok (.bipush 40, 2) ∧ decode cX12_init 61 = .ok (.newarray .int, 2)))))) ∧ bA cX12_init 63 fp_scX12_init_1 :=
  have q0 := fp_o42 fp_bcX12_init
  have q1 := fp_o183 (v := 1) q0.2 rfl
  have q2 := fp_o42 q1.2
  have q3 := fp_o17 (v := 600) q2.2 rfl
  have q4 := fp_o188_10 q3.2
  have q5 := fp_o181 (v := 7) q4.2 rfl
  have q6 := fp_o42 q5.2
  have q7 := fp_o16 (v := 11) q6.2 rfl
  have q8 := fp_o188_10 q7.2
  have q9 := fp_o181 (v := 13) q8.2 rfl
  have q10 := fp_o42 q9.2
  have q11 := fp_o16 (v := 44) q10.2 rfl
  have q12 := fp_o188_10 q11.2
  have q13 := fp_o181 (v := 16) q12.2 rfl
  have q14 := fp_o42 q13.2
  have q15 := fp_o6 q14.2
  have q16 := fp_o188_10 q15.2
  have q17 := fp_o181 (v := 19) q16.2 rfl
  have q18 := fp_o42 q17.2
  have q19 := fp_o16 (v := 10) q18.2 rfl
  have q20 := fp_o181 (v := 22) q19.2 rfl
  have q21 := fp_o42 q20.2
  have q22 := fp_o16 (v := 120) q21.2 rfl
  have q23 := fp_o188_10 q22.2
  have q24 := fp_o181 (v := 26) q23.2 rfl
  have q25 := fp_o42 q24.2
  have q26 := fp_o16 (v := 10) q25.2 rfl
  have q27 := fp_o188_10 q26.2
  have q28 := fp_o181 (v := 29) q27.2 rfl
  have q29 := fp_o42 q28.2
  have q30 := fp_o16 (v := 40) q29.2 rfl
  have q31 := fp_o188_10 q30.2
  ⟨⟨⟨⟨⟨⟨q0.1, q1.1⟩, ⟨q2.1, q3.1⟩⟩, ⟨⟨q4.1, q5.1⟩, ⟨q6.1, q7.1⟩⟩⟩, ⟨⟨⟨q8.1, q9.1⟩, ⟨q10.1, q11.1⟩⟩, ⟨⟨q12.1, q13.1⟩, ⟨q14.1, q15.1⟩⟩⟩⟩, ⟨⟨⟨⟨q16.1, q17.1⟩, ⟨q18.1, q19.1⟩⟩, ⟨⟨q20.1, q21.1⟩, ⟨q22.1, q23.1⟩⟩⟩, ⟨⟨⟨q24.1, q25.1⟩, ⟨q26.1, q27.1⟩⟩, ⟨⟨q28.1, q29.1⟩, ⟨q30.1, q31.1⟩⟩⟩⟩⟩, q31.2⟩
theorem dX12_init_0 : decode cX12_init 0 = .ok (.aload_n 0, 1) := fp_hdX12_init_0.1.1.1.1.1.1
theorem dX12_init_1 : decode cX12_init 1 = .ok (.invokespecial 1, 3) := fp_hdX12_init_0.1.1.1.1.1.2
theorem dX12_init_4 : decode cX12_init 4 = .ok (.aload_n 0, 1) := fp_hdX12_init_0.1.1.1.1.2.1
theorem dX12_init_5 : decode cX12_init 5 = .ok (.sipush 600, 3) := fp_hdX12_init_0.1.1.1.1.2.2
theorem dX12_init_8 : decode cX12_init 8 = .ok (.newarray .int, 2) := fp_hdX12_init_0.1.1.1.2.1.1
theorem dX12_init_10 : decode cX12_init 10 = .ok (.putfield 7, 3) := fp_hdX12_init_0.1.1.1.2.1.2
theorem dX12_init_13 : decode cX12_init 13 = .ok (.aload_n 0, 1) := fp_hdX12_init_0.1.1.1.2.2.1
theorem dX12_init_14 : decode cX12_init 14 = .ok (.bipush 11, 2) := fp_hdX12_init_0.1.1.1.2.2.2
theorem dX12_init_16 : decode cX12_init 16 = .ok (.newarray .int, 2) := fp_hdX12_init_0.1.1.2.1.1.1
theorem dX12_init_18 : decode cX12_init 18 = .ok (.putfield 13, 3) := fp_hdX12_init_0.1.1.2.1.1.2
theorem dX12_init_21 : decode cX12_init 21 = .ok (.aload_n 0, 1) := fp_hdX12_init_0.1.1.2.1.2.1
theorem dX12_init_22 : decode cX12_init 22 = .ok (.bipush 44, 2) := fp_hdX12_init_0.1.1.2.1.2.2
theorem dX12_init_24 : decode cX12_init 24 = .ok (.newarray .int, 2) := fp_hdX12_init_0.1.1.2.2.1.1
theorem dX12_init_26 : decode cX12_init 26 = .ok (.putfield 16, 3) := fp_hdX12_init_0.1.1.2.2.1.2
theorem dX12_init_29 : decode cX12_init 29 = .ok (.aload_n 0, 1) := fp_hdX12_init_0.1.1.2.2.2.1
theorem dX12_init_30 : decode cX12_init 30 = .ok (.iconst 3, 1) := fp_hdX12_init_0.1.1.2.2.2.2
theorem dX12_init_31 : decode cX12_init 31 = .ok (.newarray .int, 2) := fp_hdX12_init_0.1.2.1.1.1.1
theorem dX12_init_33 : decode cX12_init 33 = .ok (.putfield 19, 3) := fp_hdX12_init_0.1.2.1.1.1.2
theorem dX12_init_36 : decode cX12_init 36 = .ok (.aload_n 0, 1) := fp_hdX12_init_0.1.2.1.1.2.1
theorem dX12_init_37 : decode cX12_init 37 = .ok (.bipush 10, 2) := fp_hdX12_init_0.1.2.1.1.2.2
theorem dX12_init_39 : decode cX12_init 39 = .ok (.putfield 22, 3) := fp_hdX12_init_0.1.2.1.2.1.1
theorem dX12_init_42 : decode cX12_init 42 = .ok (.aload_n 0, 1) := fp_hdX12_init_0.1.2.1.2.1.2
theorem dX12_init_43 : decode cX12_init 43 = .ok (.bipush 120, 2) := fp_hdX12_init_0.1.2.1.2.2.1
theorem dX12_init_45 : decode cX12_init 45 = .ok (.newarray .int, 2) := fp_hdX12_init_0.1.2.1.2.2.2
theorem dX12_init_47 : decode cX12_init 47 = .ok (.putfield 26, 3) := fp_hdX12_init_0.1.2.2.1.1.1
theorem dX12_init_50 : decode cX12_init 50 = .ok (.aload_n 0, 1) := fp_hdX12_init_0.1.2.2.1.1.2
theorem dX12_init_51 : decode cX12_init 51 = .ok (.bipush 10, 2) := fp_hdX12_init_0.1.2.2.1.2.1
theorem dX12_init_53 : decode cX12_init 53 = .ok (.newarray .int, 2) := fp_hdX12_init_0.1.2.2.1.2.2
theorem dX12_init_55 : decode cX12_init 55 = .ok (.putfield 29, 3) := fp_hdX12_init_0.1.2.2.2.1.1
theorem dX12_init_58 : decode cX12_init 58 = .ok (.aload_n 0, 1) := fp_hdX12_init_0.1.2.2.2.1.2
theorem dX12_init_59 : decode cX12_init 59 = .ok (.bipush 40, 2) := fp_hdX12_init_0.1.2.2.2.2.1
theorem dX12_init_61 : decode cX12_init 61 = .ok (.newarray .int, 2) := fp_hdX12_init_0.1.2.2.2.2.2
theorem fp_hdX12_init_63 : (((((decode cX12_init 63 = .ok (.putfield 32, 3) ∧ decode cX12_init 66 = .ok (.aload_n 0, 1)) ∧ (decode cX12_init 67 = .ok (.iconst 3, 1) ∧ decode cX12_init 68 = .ok (.newarray .int, 2))) ∧ ((decode cX12_init 70 = .ok (.putfield 35, 3) ∧ decode cX12_init 73 = .ok (.aload_n 0, 1)) ∧ (decode cX12_init 74 = .ok (.sipush 480, 3) ∧ decode cX12_init 77 = .ok (.newarray .int, 2)))) ∧ (((decode cX12_init 79 = .ok (.putfield 38, 3) ∧ decode cX12_init 82 = .ok (.aload_n 0, 1)) ∧ (decode cX12_init 83 = .ok (.bipush 9, 2) ∧ decode cX12_init 85 = .ok (.newarray .int, 2))) ∧ ((decode cX12_init 87 = .ok (.dup, 1) ∧ decode cX12_init 88 = .ok (.iconst 0, 1)) ∧ (decode cX12_init 89 = .ok (.iconst 0, 1) ∧ decode cX12_init 90 = .ok (.iastore, 1))))) ∧ ((((decode cX12_init 91 = .ok (.dup, 1) ∧ decode cX12_init 92 = .ok (.iconst 1, 1)) ∧ (decode cX12_init 93 = .ok (.iconst 5, 1) ∧ decode cX12_init 94 = .ok (.iastore, 1))) ∧ ((decode cX12_init 95 = .ok (.dup, 1) ∧ decode cX12_init 96 = .ok (.iconst 2, 1)) ∧ (decode cX12_init 97 = .ok (.bipush 9, 2) ∧ decode cX12_init 99 = .ok (.iastore, 1)))) ∧ (((decode cX12_init 100 = .ok (.dup, 1) ∧ decode cX12_init 101 = .ok (.iconst 3, 1)) ∧ (decode cX12_init 102 = .ok (.bipush 12, 2) ∧ decode cX12_init 104 = .ok (.iastore, 1))) ∧ ((decode cX12_init 105 = .ok (.dup, 1) ∧ decode cX12_init 106 = .ok (.iconst 4, 1)) ∧ (decode cX12_init 107 = .ok (.bipush 16, 2) ∧ decode cX12_init 109 = .ok (.iastore, 1)))))) ∧ bA cX12_init 110 fp_scX12_init_2 :=
  have q0 := fp_o181 (v := 32) fp_hdX12_init_0.2 rfl
  have q1 := fp_o42 q0.2
  have q2 := fp_o6 q1.2
  have q3 := fp_o188_10 q2.2
  have q4 := fp_o181 (v := 35) q3.2 rfl
  have q5 := fp_o42 q4.2
  have q6 := fp_o17 (v := 480) q5.2 rfl
  have q7 := fp_o188_10 q6.2
  have q8 := fp_o181 (v := 38) q7.2 rfl
  have q9 := fp_o42 q8.2
  have q10 := fp_o16 (v := 9) q9.2 rfl
  have q11 := fp_o188_10 q10.2
  have q12 := fp_o89 q11.2
  have q13 := fp_o3 q12.2
  have q14 := fp_o3 q13.2
  have q15 := fp_o79 q14.2
  have q16 := fp_o89 q15.2
  have q17 := fp_o4 q16.2
  have q18 := fp_o8 q17.2
  have q19 := fp_o79 q18.2
  have q20 := fp_o89 q19.2
  have q21 := fp_o5 q20.2
  have q22 := fp_o16 (v := 9) q21.2 rfl
  have q23 := fp_o79 q22.2
  have q24 := fp_o89 q23.2
  have q25 := fp_o6 q24.2
  have q26 := fp_o16 (v := 12) q25.2 rfl
  have q27 := fp_o79 q26.2
  have q28 := fp_o89 q27.2
  have q29 := fp_o7 q28.2
  have q30 := fp_o16 (v := 16) q29.2 rfl
  have q31 := fp_o79 q30.2
  ⟨⟨⟨⟨⟨⟨q0.1, q1.1⟩, ⟨q2.1, q3.1⟩⟩, ⟨⟨q4.1, q5.1⟩, ⟨q6.1, q7.1⟩⟩⟩, ⟨⟨⟨q8.1, q9.1⟩, ⟨q10.1, q11.1⟩⟩, ⟨⟨q12.1, q13.1⟩, ⟨q14.1, q15.1⟩⟩⟩⟩, ⟨⟨⟨⟨q16.1, q17.1⟩, ⟨q18.1, q19.1⟩⟩, ⟨⟨q20.1, q21.1⟩, ⟨q22.1, q23.1⟩⟩⟩, ⟨⟨⟨q24.1, q25.1⟩, ⟨q26.1, q27.1⟩⟩, ⟨⟨q28.1, q29.1⟩, ⟨q30.1, q31.1⟩⟩⟩⟩⟩, q31.2⟩
theorem dX12_init_63 : decode cX12_init 63 = .ok (.putfield 32, 3) := fp_hdX12_init_63.1.1.1.1.1.1
theorem dX12_init_66 : decode cX12_init 66 = .ok (.aload_n 0, 1) := fp_hdX12_init_63.1.1.1.1.1.2
theorem dX12_init_67 : decode cX12_init 67 = .ok (.iconst 3, 1) := fp_hdX12_init_63.1.1.1.1.2.1
theorem dX12_init_68 : decode cX12_init 68 = .ok (.newarray .int, 2) := fp_hdX12_init_63.1.1.1.1.2.2
theorem dX12_init_70 : decode cX12_init 70 = .ok (.putfield 35, 3) := fp_hdX12_init_63.1.1.1.2.1.1
theorem dX12_init_73 : decode cX12_init 73 = .ok (.aload_n 0, 1) := fp_hdX12_init_63.1.1.1.2.1.2
theorem dX12_init_74 : decode cX12_init 74 = .ok (.sipush 480, 3) := fp_hdX12_init_63.1.1.1.2.2.1
theorem dX12_init_77 : decode cX12_init 77 = .ok (.newarray .int, 2) := fp_hdX12_init_63.1.1.1.2.2.2
theorem dX12_init_79 : decode cX12_init 79 = .ok (.putfield 38, 3) := fp_hdX12_init_63.1.1.2.1.1.1
theorem dX12_init_82 : decode cX12_init 82 = .ok (.aload_n 0, 1) := fp_hdX12_init_63.1.1.2.1.1.2
theorem dX12_init_83 : decode cX12_init 83 = .ok (.bipush 9, 2) := fp_hdX12_init_63.1.1.2.1.2.1
theorem dX12_init_85 : decode cX12_init 85 = .ok (.newarray .int, 2) := fp_hdX12_init_63.1.1.2.1.2.2
theorem dX12_init_87 : decode cX12_init 87 = .ok (.dup, 1) := fp_hdX12_init_63.1.1.2.2.1.1
theorem dX12_init_88 : decode cX12_init 88 = .ok (.iconst 0, 1) := fp_hdX12_init_63.1.1.2.2.1.2
theorem dX12_init_89 : decode cX12_init 89 = .ok (.iconst 0, 1) := fp_hdX12_init_63.1.1.2.2.2.1
theorem dX12_init_90 : decode cX12_init 90 = .ok (.iastore, 1) := fp_hdX12_init_63.1.1.2.2.2.2
theorem dX12_init_91 : decode cX12_init 91 = .ok (.dup, 1) := fp_hdX12_init_63.1.2.1.1.1.1
theorem dX12_init_92 : decode cX12_init 92 = .ok (.iconst 1, 1) := fp_hdX12_init_63.1.2.1.1.1.2
theorem dX12_init_93 : decode cX12_init 93 = .ok (.iconst 5, 1) := fp_hdX12_init_63.1.2.1.1.2.1
theorem dX12_init_94 : decode cX12_init 94 = .ok (.iastore, 1) := fp_hdX12_init_63.1.2.1.1.2.2
theorem dX12_init_95 : decode cX12_init 95 = .ok (.dup, 1) := fp_hdX12_init_63.1.2.1.2.1.1
theorem dX12_init_96 : decode cX12_init 96 = .ok (.iconst 2, 1) := fp_hdX12_init_63.1.2.1.2.1.2
theorem dX12_init_97 : decode cX12_init 97 = .ok (.bipush 9, 2) := fp_hdX12_init_63.1.2.1.2.2.1
theorem dX12_init_99 : decode cX12_init 99 = .ok (.iastore, 1) := fp_hdX12_init_63.1.2.1.2.2.2
theorem dX12_init_100 : decode cX12_init 100 = .ok (.dup, 1) := fp_hdX12_init_63.1.2.2.1.1.1
theorem dX12_init_101 : decode cX12_init 101 = .ok (.iconst 3, 1) := fp_hdX12_init_63.1.2.2.1.1.2
theorem dX12_init_102 : decode cX12_init 102 = .ok (.bipush 12, 2) := fp_hdX12_init_63.1.2.2.1.2.1
theorem dX12_init_104 : decode cX12_init 104 = .ok (.iastore, 1) := fp_hdX12_init_63.1.2.2.1.2.2
theorem dX12_init_105 : decode cX12_init 105 = .ok (.dup, 1) := fp_hdX12_init_63.1.2.2.2.1.1
theorem dX12_init_106 : decode cX12_init 106 = .ok (.iconst 4, 1) := fp_hdX12_init_63.1.2.2.2.1.2
theorem dX12_init_107 : decode cX12_init 107 = .ok (.bipush 16, 2) := fp_hdX12_init_63.1.2.2.2.2.1
theorem dX12_init_109 : decode cX12_init 109 = .ok (.iastore, 1) := fp_hdX12_init_63.1.2.2.2.2.2
theorem fp_hdX12_init_110 : (((((decode cX12_init 110 = .ok (.dup, 1) ∧ decode cX12_init 111 = .ok (.iconst 5, 1)) ∧ (decode cX12_init 112 = .ok (.bipush 22, 2) ∧ decode cX12_init 114 = .ok (.iastore, 1))) ∧ ((decode cX12_init 115 = .ok (.dup, 1) ∧ decode cX12_init 116 = .ok (.bipush 6, 2)) ∧ (decode cX12_init 118 = .ok (.bipush 28, 2) ∧ decode cX12_init 120 = .ok (.iastore, 1)))) ∧ (((decode cX12_init 121 = .ok (.dup, 1) ∧ decode cX12_init 122 = .ok (.bipush 7, 2)) ∧ (decode cX12_init 124 = .ok (.bipush 34, 2) ∧ decode cX12_init 126 = .ok (.iastore, 1))) ∧ ((decode cX12_init 127 = .ok (.dup, 1) ∧ decode cX12_init 128 = .ok (.bipush 8, 2)) ∧ (decode cX12_init 130 = .ok (.bipush 42, 2) ∧ decode cX12_init 132 = .ok (.iastore, 1))))) ∧ ((((decode cX12_init 133 = .ok (.putfield 41, 3) ∧ decode cX12_init 136 = .ok (.aload_n 0, 1)) ∧ (decode cX12_init 137 = .ok (.bipush 42, 2) ∧ decode cX12_init 139 = .ok (.newarray .int, 2))) ∧ ((decode cX12_init 141 = .ok (.dup, 1) ∧ decode cX12_init 142 = .ok (.iconst 0, 1)) ∧ (decode cX12_init 143 = .ok (.bipush 116, 2) ∧ decode cX12_init 145 = .ok (.iastore, 1)))) ∧ (((decode cX12_init 146 = .ok (.dup, 1) ∧ decode cX12_init 147 = .ok (.iconst 1, 1)) ∧ (decode cX12_init 148 = .ok (.bipush 104, 2) ∧ decode cX12_init 150 = .ok (.iastore, 1))) ∧ ((decode cX12_init 151 = .ok (.dup, 1) ∧ decode cX12_init 152 = .ok (.iconst 2, 1)) ∧ (decode cX12_init 153 = .ok (.bipush 105, 2) ∧ decode cX12_init 155 = .ok (.iastore, 1)))))) ∧ bA cX12_init 156 fp_scX12_init_3 :=
  have q0 := fp_o89 fp_hdX12_init_63.2
  have q1 := fp_o8 q0.2
  have q2 := fp_o16 (v := 22) q1.2 rfl
  have q3 := fp_o79 q2.2
  have q4 := fp_o89 q3.2
  have q5 := fp_o16 (v := 6) q4.2 rfl
  have q6 := fp_o16 (v := 28) q5.2 rfl
  have q7 := fp_o79 q6.2
  have q8 := fp_o89 q7.2
  have q9 := fp_o16 (v := 7) q8.2 rfl
  have q10 := fp_o16 (v := 34) q9.2 rfl
  have q11 := fp_o79 q10.2
  have q12 := fp_o89 q11.2
  have q13 := fp_o16 (v := 8) q12.2 rfl
  have q14 := fp_o16 (v := 42) q13.2 rfl
  have q15 := fp_o79 q14.2
  have q16 := fp_o181 (v := 41) q15.2 rfl
  have q17 := fp_o42 q16.2
  have q18 := fp_o16 (v := 42) q17.2 rfl
  have q19 := fp_o188_10 q18.2
  have q20 := fp_o89 q19.2
  have q21 := fp_o3 q20.2
  have q22 := fp_o16 (v := 116) q21.2 rfl
  have q23 := fp_o79 q22.2
  have q24 := fp_o89 q23.2
  have q25 := fp_o4 q24.2
  have q26 := fp_o16 (v := 104) q25.2 rfl
  have q27 := fp_o79 q26.2
  have q28 := fp_o89 q27.2
  have q29 := fp_o5 q28.2
  have q30 := fp_o16 (v := 105) q29.2 rfl
  have q31 := fp_o79 q30.2
  ⟨⟨⟨⟨⟨⟨q0.1, q1.1⟩, ⟨q2.1, q3.1⟩⟩, ⟨⟨q4.1, q5.1⟩, ⟨q6.1, q7.1⟩⟩⟩, ⟨⟨⟨q8.1, q9.1⟩, ⟨q10.1, q11.1⟩⟩, ⟨⟨q12.1, q13.1⟩, ⟨q14.1, q15.1⟩⟩⟩⟩, ⟨⟨⟨⟨q16.1, q17.1⟩, ⟨q18.1, q19.1⟩⟩, ⟨⟨q20.1, q21.1⟩, ⟨q22.1, q23.1⟩⟩⟩, ⟨⟨⟨q24.1, q25.1⟩, ⟨q26.1, q27.1⟩⟩, ⟨⟨q28.1, q29.1⟩, ⟨q30.1, q31.1⟩⟩⟩⟩⟩, q31.2⟩
theorem dX12_init_110 : decode cX12_init 110 = .ok (.dup, 1) := fp_hdX12_init_110.1.1.1.1.1.1
theorem dX12_init_111 : decode cX12_init 111 = .ok (.iconst 5, 1) := fp_hdX12_init_110.1.1.1.1.1.2
theorem dX12_init_112 : decode cX12_init 112 = .ok (.bipush 22, 2) := fp_hdX12_init_110.1.1.1.1.2.1
theorem dX12_init_114 : decode cX12_init 114 = .ok (.iastore, 1) := fp_hdX12_init_110.1.1.1.1.2.2
theorem dX12_init_115 : decode cX12_init 115 = .ok (.dup, 1) := fp_hdX12_init_110.1.1.1.2.1.1
theorem dX12_init_116 : decode cX12_init 116 = .ok (.bipush 6, 2) := fp_hdX12_init_110.1.1.1.2.1.2
theorem dX12_init_118 : decode cX12_init 118 = .ok (.bipush 28, 2) := fp_hdX12_init_110.1.1.1.2.2.1
theorem dX12_init_120 : decode cX12_init 120 = .ok (.iastore, 1) := fp_hdX12_init_110.1.1.1.2.2.2
theorem dX12_init_121 : decode cX12_init 121 = .ok (.dup, 1) := fp_hdX12_init_110.1.1.2.1.1.1
theorem dX12_init_122 : decode cX12_init 122 = .ok (.bipush 7, 2) := fp_hdX12_init_110.1.1.2.1.1.2
theorem dX12_init_124 : decode cX12_init 124 = .ok (.bipush 34, 2) := fp_hdX12_init_110.1.1.2.1.2.1
theorem dX12_init_126 : decode cX12_init 126 = .ok (.iastore, 1) := fp_hdX12_init_110.1.1.2.1.2.2
theorem dX12_init_127 : decode cX12_init 127 = .ok (.dup, 1) := fp_hdX12_init_110.1.1.2.2.1.1
theorem dX12_init_128 : decode cX12_init 128 = .ok (.bipush 8, 2) := fp_hdX12_init_110.1.1.2.2.1.2
theorem dX12_init_130 : decode cX12_init 130 = .ok (.bipush 42, 2) := fp_hdX12_init_110.1.1.2.2.2.1
theorem dX12_init_132 : decode cX12_init 132 = .ok (.iastore, 1) := fp_hdX12_init_110.1.1.2.2.2.2
theorem dX12_init_133 : decode cX12_init 133 = .ok (.putfield 41, 3) := fp_hdX12_init_110.1.2.1.1.1.1
theorem dX12_init_136 : decode cX12_init 136 = .ok (.aload_n 0, 1) := fp_hdX12_init_110.1.2.1.1.1.2
theorem dX12_init_137 : decode cX12_init 137 = .ok (.bipush 42, 2) := fp_hdX12_init_110.1.2.1.1.2.1
theorem dX12_init_139 : decode cX12_init 139 = .ok (.newarray .int, 2) := fp_hdX12_init_110.1.2.1.1.2.2
theorem dX12_init_141 : decode cX12_init 141 = .ok (.dup, 1) := fp_hdX12_init_110.1.2.1.2.1.1
theorem dX12_init_142 : decode cX12_init 142 = .ok (.iconst 0, 1) := fp_hdX12_init_110.1.2.1.2.1.2
theorem dX12_init_143 : decode cX12_init 143 = .ok (.bipush 116, 2) := fp_hdX12_init_110.1.2.1.2.2.1
theorem dX12_init_145 : decode cX12_init 145 = .ok (.iastore, 1) := fp_hdX12_init_110.1.2.1.2.2.2
theorem dX12_init_146 : decode cX12_init 146 = .ok (.dup, 1) := fp_hdX12_init_110.1.2.2.1.1.1
theorem dX12_init_147 : decode cX12_init 147 = .ok (.iconst 1, 1) := fp_hdX12_init_110.1.2.2.1.1.2
theorem dX12_init_148 : decode cX12_init 148 = .ok (.bipush 104, 2) := fp_hdX12_init_110.1.2.2.1.2.1
theorem dX12_init_150 : decode cX12_init 150 = .ok (.iastore, 1) := fp_hdX12_init_110.1.2.2.1.2.2
theorem dX12_init_151 : decode cX12_init 151 = .ok (.dup, 1) := fp_hdX12_init_110.1.2.2.2.1.1
theorem dX12_init_152 : decode cX12_init 152 = .ok (.iconst 2, 1) := fp_hdX12_init_110.1.2.2.2.1.2
theorem dX12_init_153 : decode cX12_init 153 = .ok (.bipush 105, 2) := fp_hdX12_init_110.1.2.2.2.2.1
theorem dX12_init_155 : decode cX12_init 155 = .ok (.iastore, 1) := fp_hdX12_init_110.1.2.2.2.2.2
theorem fp_hdX12_init_156 : (((((decode cX12_init 156 = .ok (.dup, 1) ∧ decode cX12_init 157 = .ok (.iconst 3, 1)) ∧ (decode cX12_init 158 = .ok (.bipush 110, 2) ∧ decode cX12_init 160 = .ok (.iastore, 1))) ∧ ((decode cX12_init 161 = .ok (.dup, 1) ∧ decode cX12_init 162 = .ok (.iconst 4, 1)) ∧ (decode cX12_init 163 = .ok (.bipush 103, 2) ∧ decode cX12_init 165 = .ok (.iastore, 1)))) ∧ (((decode cX12_init 166 = .ok (.dup, 1) ∧ decode cX12_init 167 = .ok (.iconst 5, 1)) ∧ (decode cX12_init 168 = .ok (.bipush 108, 2) ∧ decode cX12_init 170 = .ok (.iastore, 1))) ∧ ((decode cX12_init 171 = .ok (.dup, 1) ∧ decode cX12_init 172 = .ok (.bipush 6, 2)) ∧ (decode cX12_init 174 = .ok (.bipush 105, 2) ∧ decode cX12_init 176 = .ok (.iastore, 1))))) ∧ ((((decode cX12_init 177 = .ok (.dup, 1) ∧ decode cX12_init 178 = .ok (.bipush 7, 2)) ∧ (decode cX12_init 180 = .ok (.bipush 110, 2) ∧ decode cX12_init 182 = .ok (.iastore, 1))) ∧ ((decode cX12_init 183 = .ok (.dup, 1) ∧ decode cX12_init 184 = .ok (.bipush 8, 2)) ∧ (decode cX12_init 186 = .ok (.bipush 101, 2) ∧ decode cX12_init 188 = .ok (.iastore, 1)))) ∧ (((decode cX12_init 189 = .ok (.dup, 1) ∧ decode cX12_init 190 = .ok (.bipush 9, 2)) ∧ (decode cX12_init 192 = .ok (.bipush 112, 2) ∧ decode cX12_init 194 = .ok (.iastore, 1))) ∧ ((decode cX12_init 195 = .ok (.dup, 1) ∧ decode cX12_init 196 = .ok (.bipush 10, 2)) ∧ (decode cX12_init 198 = .ok (.bipush 117, 2) ∧ decode cX12_init 200 = .ok (.iastore, 1)))))) ∧ bA cX12_init 201 fp_scX12_init_4 :=
  have q0 := fp_o89 fp_hdX12_init_110.2
  have q1 := fp_o6 q0.2
  have q2 := fp_o16 (v := 110) q1.2 rfl
  have q3 := fp_o79 q2.2
  have q4 := fp_o89 q3.2
  have q5 := fp_o7 q4.2
  have q6 := fp_o16 (v := 103) q5.2 rfl
  have q7 := fp_o79 q6.2
  have q8 := fp_o89 q7.2
  have q9 := fp_o8 q8.2
  have q10 := fp_o16 (v := 108) q9.2 rfl
  have q11 := fp_o79 q10.2
  have q12 := fp_o89 q11.2
  have q13 := fp_o16 (v := 6) q12.2 rfl
  have q14 := fp_o16 (v := 105) q13.2 rfl
  have q15 := fp_o79 q14.2
  have q16 := fp_o89 q15.2
  have q17 := fp_o16 (v := 7) q16.2 rfl
  have q18 := fp_o16 (v := 110) q17.2 rfl
  have q19 := fp_o79 q18.2
  have q20 := fp_o89 q19.2
  have q21 := fp_o16 (v := 8) q20.2 rfl
  have q22 := fp_o16 (v := 101) q21.2 rfl
  have q23 := fp_o79 q22.2
  have q24 := fp_o89 q23.2
  have q25 := fp_o16 (v := 9) q24.2 rfl
  have q26 := fp_o16 (v := 112) q25.2 rfl
  have q27 := fp_o79 q26.2
  have q28 := fp_o89 q27.2
  have q29 := fp_o16 (v := 10) q28.2 rfl
  have q30 := fp_o16 (v := 117) q29.2 rfl
  have q31 := fp_o79 q30.2
  ⟨⟨⟨⟨⟨⟨q0.1, q1.1⟩, ⟨q2.1, q3.1⟩⟩, ⟨⟨q4.1, q5.1⟩, ⟨q6.1, q7.1⟩⟩⟩, ⟨⟨⟨q8.1, q9.1⟩, ⟨q10.1, q11.1⟩⟩, ⟨⟨q12.1, q13.1⟩, ⟨q14.1, q15.1⟩⟩⟩⟩, ⟨⟨⟨⟨q16.1, q17.1⟩, ⟨q18.1, q19.1⟩⟩, ⟨⟨q20.1, q21.1⟩, ⟨q22.1, q23.1⟩⟩⟩, ⟨⟨⟨q24.1, q25.1⟩, ⟨q26.1, q27.1⟩⟩, ⟨⟨q28.1, q29.1⟩, ⟨q30.1, q31.1⟩⟩⟩⟩⟩, q31.2⟩
theorem dX12_init_156 : decode cX12_init 156 = .ok (.dup, 1) := fp_hdX12_init_156.1.1.1.1.1.1
theorem dX12_init_157 : decode cX12_init 157 = .ok (.iconst 3, 1) := fp_hdX12_init_156.1.1.1.1.1.2
theorem dX12_init_158 : decode cX12_init 158 = .ok (.bipush 110, 2) := fp_hdX12_init_156.1.1.1.1.2.1
theorem dX12_init_160 : decode cX12_init 160 = .ok (.iastore, 1) := fp_hdX12_init_156.1.1.1.1.2.2
theorem dX12_init_161 : decode cX12_init 161 = .ok (.dup, 1) := fp_hdX12_init_156.1.1.1.2.1.1
theorem dX12_init_162 : decode cX12_init 162 = .ok (.iconst 4, 1) := fp_hdX12_init_156.1.1.1.2.1.2
theorem dX12_init_163 : decode cX12_init 163 = .ok (.bipush 103, 2) := fp_hdX12_init_156.1.1.1.2.2.1
theorem dX12_init_165 : decode cX12_init 165 = .ok (.iastore, 1) := fp_hdX12_init_156.1.1.1.2.2.2
theorem dX12_init_166 : decode cX12_init 166 = .ok (.dup, 1) := fp_hdX12_init_156.1.1.2.1.1.1
theorem dX12_init_167 : decode cX12_init 167 = .ok (.iconst 5, 1) := fp_hdX12_init_156.1.1.2.1.1.2
theorem dX12_init_168 : decode cX12_init 168 = .ok (.bipush 108, 2) := fp_hdX12_init_156.1.1.2.1.2.1
theorem dX12_init_170 : decode cX12_init 170 = .ok (.iastore, 1) := fp_hdX12_init_156.1.1.2.1.2.2
theorem dX12_init_171 : decode cX12_init 171 = .ok (.dup, 1) := fp_hdX12_init_156.1.1.2.2.1.1
theorem dX12_init_172 : decode cX12_init 172 = .ok (.bipush 6, 2) := fp_hdX12_init_156.1.1.2.2.1.2
theorem dX12_init_174 : decode cX12_init 174 = .ok (.bipush 105, 2) := fp_hdX12_init_156.1.1.2.2.2.1
theorem dX12_init_176 : decode cX12_init 176 = .ok (.iastore, 1) := fp_hdX12_init_156.1.1.2.2.2.2
theorem dX12_init_177 : decode cX12_init 177 = .ok (.dup, 1) := fp_hdX12_init_156.1.2.1.1.1.1
theorem dX12_init_178 : decode cX12_init 178 = .ok (.bipush 7, 2) := fp_hdX12_init_156.1.2.1.1.1.2
theorem dX12_init_180 : decode cX12_init 180 = .ok (.bipush 110, 2) := fp_hdX12_init_156.1.2.1.1.2.1
theorem dX12_init_182 : decode cX12_init 182 = .ok (.iastore, 1) := fp_hdX12_init_156.1.2.1.1.2.2
theorem dX12_init_183 : decode cX12_init 183 = .ok (.dup, 1) := fp_hdX12_init_156.1.2.1.2.1.1
theorem dX12_init_184 : decode cX12_init 184 = .ok (.bipush 8, 2) := fp_hdX12_init_156.1.2.1.2.1.2
theorem dX12_init_186 : decode cX12_init 186 = .ok (.bipush 101, 2) := fp_hdX12_init_156.1.2.1.2.2.1
theorem dX12_init_188 : decode cX12_init 188 = .ok (.iastore, 1) := fp_hdX12_init_156.1.2.1.2.2.2
theorem dX12_init_189 : decode cX12_init 189 = .ok (.dup, 1) := fp_hdX12_init_156.1.2.2.1.1.1
theorem dX12_init_190 : decode cX12_init 190 = .ok (.bipush 9, 2) := fp_hdX12_init_156.1.2.2.1.1.2
theorem dX12_init_192 : decode cX12_init 192 = .ok (.bipush 112, 2) := fp_hdX12_init_156.1.2.2.1.2.1
theorem dX12_init_194 : decode cX12_init 194 = .ok (.iastore, 1) := fp_hdX12_init_156.1.2.2.1.2.2
theorem dX12_init_195 : decode cX12_init 195 = .ok (.dup, 1) := fp_hdX12_init_156.1.2.2.2.1.1
theorem dX12_init_196 : decode cX12_init 196 = .ok (.bipush 10, 2) := fp_hdX12_init_156.1.2.2.2.1.2
theorem dX12_init_198 : decode cX12_init 198 = .ok (.bipush 117, 2) := fp_hdX12_init_156.1.2.2.2.2.1
theorem dX12_init_200 : decode cX12_init 200 = .ok (.iastore, 1) := fp_hdX12_init_156.1.2.2.2.2.2
theorem fp_hdX12_init_201 : (((((decode cX12_init 201 = .ok (.dup, 1) ∧ decode cX12_init 202 = .ok (.bipush 11, 2)) ∧ (decode cX12_init 204 = .ok (.bipush 116, 2) ∧ decode cX12_init 206 = .ok (.iastore, 1))) ∧ ((decode cX12_init 207 = .ok (.dup, 1) ∧ decode cX12_init 208 = .ok (.bipush 12, 2)) ∧ (decode cX12_init 210 = .ok (.bipush 100, 2) ∧ decode cX12_init 212 = .ok (.iastore, 1)))) ∧ (((decode cX12_init 213 = .ok (.dup, 1) ∧ decode cX12_init 214 = .ok (.bipush 13, 2)) ∧ (decode cX12_init 216 = .ok (.bipush 114, 2) ∧ decode cX12_init 218 = .ok (.iastore, 1))) ∧ ((decode cX12_init 219 = .ok (.dup, 1) ∧ decode cX12_init 220 = .ok (.bipush 14, 2)) ∧ (decode cX12_init 222 = .ok (.bipush 97, 2) ∧ decode cX12_init 224 = .ok (.iastore, 1))))) ∧ ((((decode cX12_init 225 = .ok (.dup, 1) ∧ decode cX12_init 226 = .ok (.bipush 15, 2)) ∧ (decode cX12_init 228 = .ok (.bipush 119, 2) ∧ decode cX12_init 230 = .ok (.iastore, 1))) ∧ ((decode cX12_init 231 = .ok (.dup, 1) ∧ decode cX12_init 232 = .ok (.bipush 16, 2)) ∧ (decode cX12_init 234 = .ok (.bipush 99, 2) ∧ decode cX12_init 236 = .ok (.iastore, 1)))) ∧ (((decode cX12_init 237 = .ok (.dup, 1) ∧ decode cX12_init 238 = .ok (.bipush 17, 2)) ∧ (decode cX12_init 240 = .ok (.bipush 104, 2) ∧ decode cX12_init 242 = .ok (.iastore, 1))) ∧ ((decode cX12_init 243 = .ok (.dup, 1) ∧ decode cX12_init 244 = .ok (.bipush 18, 2)) ∧ (decode cX12_init 246 = .ok (.bipush 97, 2) ∧ decode cX12_init 248 = .ok (.iastore, 1)))))) ∧ bA cX12_init 249 fp_scX12_init_5 :=
  have q0 := fp_o89 fp_hdX12_init_156.2
  have q1 := fp_o16 (v := 11) q0.2 rfl
  have q2 := fp_o16 (v := 116) q1.2 rfl
  have q3 := fp_o79 q2.2
  have q4 := fp_o89 q3.2
  have q5 := fp_o16 (v := 12) q4.2 rfl
  have q6 := fp_o16 (v := 100) q5.2 rfl
  have q7 := fp_o79 q6.2
  have q8 := fp_o89 q7.2
  have q9 := fp_o16 (v := 13) q8.2 rfl
  have q10 := fp_o16 (v := 114) q9.2 rfl
  have q11 := fp_o79 q10.2
  have q12 := fp_o89 q11.2
  have q13 := fp_o16 (v := 14) q12.2 rfl
  have q14 := fp_o16 (v := 97) q13.2 rfl
  have q15 := fp_o79 q14.2
  have q16 := fp_o89 q15.2
  have q17 := fp_o16 (v := 15) q16.2 rfl
  have q18 := fp_o16 (v := 119) q17.2 rfl
  have q19 := fp_o79 q18.2
  have q20 := fp_o89 q19.2
  have q21 := fp_o16 (v := 16) q20.2 rfl
  have q22 := fp_o16 (v := 99) q21.2 rfl
  have q23 := fp_o79 q22.2
  have q24 := fp_o89 q23.2
  have q25 := fp_o16 (v := 17) q24.2 rfl
  have q26 := fp_o16 (v := 104) q25.2 rfl
  have q27 := fp_o79 q26.2
  have q28 := fp_o89 q27.2
  have q29 := fp_o16 (v := 18) q28.2 rfl
  have q30 := fp_o16 (v := 97) q29.2 rfl
  have q31 := fp_o79 q30.2
  ⟨⟨⟨⟨⟨⟨q0.1, q1.1⟩, ⟨q2.1, q3.1⟩⟩, ⟨⟨q4.1, q5.1⟩, ⟨q6.1, q7.1⟩⟩⟩, ⟨⟨⟨q8.1, q9.1⟩, ⟨q10.1, q11.1⟩⟩, ⟨⟨q12.1, q13.1⟩, ⟨q14.1, q15.1⟩⟩⟩⟩, ⟨⟨⟨⟨q16.1, q17.1⟩, ⟨q18.1, q19.1⟩⟩, ⟨⟨q20.1, q21.1⟩, ⟨q22.1, q23.1⟩⟩⟩, ⟨⟨⟨q24.1, q25.1⟩, ⟨q26.1, q27.1⟩⟩, ⟨⟨q28.1, q29.1⟩, ⟨q30.1, q31.1⟩⟩⟩⟩⟩, q31.2⟩
theorem dX12_init_201 : decode cX12_init 201 = .ok (.dup, 1) := fp_hdX12_init_201.1.1.1.1.1.1
theorem dX12_init_202 : decode cX12_init 202 = .ok (.bipush 11, 2) := fp_hdX12_init_201.1.1.1.1.1.2
theorem dX12_init_204 : decode cX12_init 204 = .ok (.bipush 116, 2) := fp_hdX12_init_201.1.1.1.1.2.1
theorem dX12_init_206 : decode cX12_init 206 = .ok (.iastore, 1) := fp_hdX12_init_201.1.1.1.1.2.2
theorem dX12_init_207 : decode cX12_init 207 = .ok (.dup, 1) := fp_hdX12_init_201.1.1.1.2.1.1
theorem dX12_init_208 : decode cX12_init 208 = .ok (.bipush 12, 2) := fp_hdX12_init_201.1.1.1.2.1.2
theorem dX12_init_210 : decode cX12_init 210 = .ok (.bipush 100, 2) := fp_hdX12_init_201.1.1.1.2.2.1
theorem dX12_init_212 : decode cX12_init 212 = .ok (.iastore, 1) := fp_hdX12_init_201.1.1.1.2.2.2
theorem dX12_init_213 : decode cX12_init 213 = .ok (.dup, 1) := fp_hdX12_init_201.1.1.2.1.1.1
theorem dX12_init_214 : decode cX12_init 214 = .ok (.bipush 13, 2) := fp_hdX12_init_201.1.1.2.1.1.2
theorem dX12_init_216 : decode cX12_init 216 = .ok (.bipush 114, 2) := fp_hdX12_init_201.1.1.2.1.2.1
theorem dX12_init_218 : decode cX12_init 218 = .ok (.iastore, 1) := fp_hdX12_init_201.1.1.2.1.2.2
theorem dX12_init_219 : decode cX12_init 219 = .ok (.dup, 1) := fp_hdX12_init_201.1.1.2.2.1.1
theorem dX12_init_220 : decode cX12_init 220 = .ok (.bipush 14, 2) := fp_hdX12_init_201.1.1.2.2.1.2
theorem dX12_init_222 : decode cX12_init 222 = .ok (.bipush 97, 2) := fp_hdX12_init_201.1.1.2.2.2.1
theorem dX12_init_224 : decode cX12_init 224 = .ok (.iastore, 1) := fp_hdX12_init_201.1.1.2.2.2.2
theorem dX12_init_225 : decode cX12_init 225 = .ok (.dup, 1) := fp_hdX12_init_201.1.2.1.1.1.1
theorem dX12_init_226 : decode cX12_init 226 = .ok (.bipush 15, 2) := fp_hdX12_init_201.1.2.1.1.1.2
theorem dX12_init_228 : decode cX12_init 228 = .ok (.bipush 119, 2) := fp_hdX12_init_201.1.2.1.1.2.1
theorem dX12_init_230 : decode cX12_init 230 = .ok (.iastore, 1) := fp_hdX12_init_201.1.2.1.1.2.2
theorem dX12_init_231 : decode cX12_init 231 = .ok (.dup, 1) := fp_hdX12_init_201.1.2.1.2.1.1
theorem dX12_init_232 : decode cX12_init 232 = .ok (.bipush 16, 2) := fp_hdX12_init_201.1.2.1.2.1.2
theorem dX12_init_234 : decode cX12_init 234 = .ok (.bipush 99, 2) := fp_hdX12_init_201.1.2.1.2.2.1
theorem dX12_init_236 : decode cX12_init 236 = .ok (.iastore, 1) := fp_hdX12_init_201.1.2.1.2.2.2
theorem dX12_init_237 : decode cX12_init 237 = .ok (.dup, 1) := fp_hdX12_init_201.1.2.2.1.1.1
theorem dX12_init_238 : decode cX12_init 238 = .ok (.bipush 17, 2) := fp_hdX12_init_201.1.2.2.1.1.2
theorem dX12_init_240 : decode cX12_init 240 = .ok (.bipush 104, 2) := fp_hdX12_init_201.1.2.2.1.2.1
theorem dX12_init_242 : decode cX12_init 242 = .ok (.iastore, 1) := fp_hdX12_init_201.1.2.2.1.2.2
theorem dX12_init_243 : decode cX12_init 243 = .ok (.dup, 1) := fp_hdX12_init_201.1.2.2.2.1.1
theorem dX12_init_244 : decode cX12_init 244 = .ok (.bipush 18, 2) := fp_hdX12_init_201.1.2.2.2.1.2
theorem dX12_init_246 : decode cX12_init 246 = .ok (.bipush 97, 2) := fp_hdX12_init_201.1.2.2.2.2.1
theorem dX12_init_248 : decode cX12_init 248 = .ok (.iastore, 1) := fp_hdX12_init_201.1.2.2.2.2.2
theorem fp_hdX12_init_249 : (((((decode cX12_init 249 = .ok (.dup, 1) ∧ decode cX12_init 250 = .ok (.bipush 19, 2)) ∧ (decode cX12_init 252 = .ok (.bipush 110, 2) ∧ decode cX12_init 254 = .ok (.iastore, 1))) ∧ ((decode cX12_init 255 = .ok (.dup, 1) ∧ decode cX12_init 256 = .ok (.bipush 20, 2)) ∧ (decode cX12_init 258 = .ok (.bipush 99, 2) ∧ decode cX12_init 260 = .ok (.iastore, 1)))) ∧ (((decode cX12_init 261 = .ok (.dup, 1) ∧ decode cX12_init 262 = .ok (.bipush 21, 2)) ∧ (decode cX12_init 264 = .ok (.bipush 101, 2) ∧ decode cX12_init 266 = .ok (.iastore, 1))) ∧ ((decode cX12_init 267 = .ok (.dup, 1) ∧ decode cX12_init 268 = .ok (.bipush 22, 2)) ∧ (decode cX12_init 270 = .ok (.bipush 101, 2) ∧ decode cX12_init 272 = .ok (.iastore, 1))))) ∧ ((((decode cX12_init 273 = .ok (.dup, 1) ∧ decode cX12_init 274 = .ok (.bipush 23, 2)) ∧ (decode cX12_init 276 = .ok (.bipush 108, 2) ∧ decode cX12_init 278 = .ok (.iastore, 1))) ∧ ((decode cX12_init 279 = .ok (.dup, 1) ∧ decode cX12_init 280 = .ok (.bipush 24, 2)) ∧ (decode cX12_init 282 = .ok (.bipush 100, 2) ∧ decode cX12_init 284 = .ok (.iastore, 1)))) ∧ (((decode cX12_init 285 = .ok (.dup, 1) ∧ decode cX12_init 286 = .ok (.bipush 25, 2)) ∧ (decode cX12_init 288 = .ok (.bipush 101, 2) ∧ decode cX12_init 290 = .ok (.iastore, 1))) ∧ ((decode cX12_init 291 = .ok (.dup, 1) ∧ decode cX12_init 292 = .ok (.bipush 26, 2)) ∧ (decode cX12_init 294 = .ok (.bipush 115, 2) ∧ decode cX12_init 296 = .ok (.iastore, 1)))))) ∧ bA cX12_init 297 fp_scX12_init_6 :=
  have q0 := fp_o89 fp_hdX12_init_201.2
  have q1 := fp_o16 (v := 19) q0.2 rfl
  have q2 := fp_o16 (v := 110) q1.2 rfl
  have q3 := fp_o79 q2.2
  have q4 := fp_o89 q3.2
  have q5 := fp_o16 (v := 20) q4.2 rfl
  have q6 := fp_o16 (v := 99) q5.2 rfl
  have q7 := fp_o79 q6.2
  have q8 := fp_o89 q7.2
  have q9 := fp_o16 (v := 21) q8.2 rfl
  have q10 := fp_o16 (v := 101) q9.2 rfl
  have q11 := fp_o79 q10.2
  have q12 := fp_o89 q11.2
  have q13 := fp_o16 (v := 22) q12.2 rfl
  have q14 := fp_o16 (v := 101) q13.2 rfl
  have q15 := fp_o79 q14.2
  have q16 := fp_o89 q15.2
  have q17 := fp_o16 (v := 23) q16.2 rfl
  have q18 := fp_o16 (v := 108) q17.2 rfl
  have q19 := fp_o79 q18.2
  have q20 := fp_o89 q19.2
  have q21 := fp_o16 (v := 24) q20.2 rfl
  have q22 := fp_o16 (v := 100) q21.2 rfl
  have q23 := fp_o79 q22.2
  have q24 := fp_o89 q23.2
  have q25 := fp_o16 (v := 25) q24.2 rfl
  have q26 := fp_o16 (v := 101) q25.2 rfl
  have q27 := fp_o79 q26.2
  have q28 := fp_o89 q27.2
  have q29 := fp_o16 (v := 26) q28.2 rfl
  have q30 := fp_o16 (v := 115) q29.2 rfl
  have q31 := fp_o79 q30.2
  ⟨⟨⟨⟨⟨⟨q0.1, q1.1⟩, ⟨q2.1, q3.1⟩⟩, ⟨⟨q4.1, q5.1⟩, ⟨q6.1, q7.1⟩⟩⟩, ⟨⟨⟨q8.1, q9.1⟩, ⟨q10.1, q11.1⟩⟩, ⟨⟨q12.1, q13.1⟩, ⟨q14.1, q15.1⟩⟩⟩⟩, ⟨⟨⟨⟨q16.1, q17.1⟩, ⟨q18.1, q19.1⟩⟩, ⟨⟨q20.1, q21.1⟩, ⟨q22.1, q23.1⟩⟩⟩, ⟨⟨⟨q24.1, q25.1⟩, ⟨q26.1, q27.1⟩⟩, ⟨⟨q28.1, q29.1⟩, ⟨q30.1, q31.1⟩⟩⟩⟩⟩, q31.2⟩
theorem dX12_init_249 : decode cX12_init 249 = .ok (.dup, 1) := fp_hdX12_init_249.1.1.1.1.1.1
theorem dX12_init_250 : decode cX12_init 250 = .ok (.bipush 19, 2) := fp_hdX12_init_249.1.1.1.1.1.2
theorem dX12_init_252 : decode cX12_init 252 = .ok (.bipush 110, 2) := fp_hdX12_init_249.1.1.1.1.2.1
theorem dX12_init_254 : decode cX12_init 254 = .ok (.iastore, 1) := fp_hdX12_init_249.1.1.1.1.2.2
theorem dX12_init_255 : decode cX12_init 255 = .ok (.dup, 1) := fp_hdX12_init_249.1.1.1.2.1.1
theorem dX12_init_256 : decode cX12_init 256 = .ok (.bipush 20, 2) := fp_hdX12_init_249.1.1.1.2.1.2
theorem dX12_init_258 : decode cX12_init 258 = .ok (.bipush 99, 2) := fp_hdX12_init_249.1.1.1.2.2.1
theorem dX12_init_260 : decode cX12_init 260 = .ok (.iastore, 1) := fp_hdX12_init_249.1.1.1.2.2.2
theorem dX12_init_261 : decode cX12_init 261 = .ok (.dup, 1) := fp_hdX12_init_249.1.1.2.1.1.1
theorem dX12_init_262 : decode cX12_init 262 = .ok (.bipush 21, 2) := fp_hdX12_init_249.1.1.2.1.1.2
theorem dX12_init_264 : decode cX12_init 264 = .ok (.bipush 101, 2) := fp_hdX12_init_249.1.1.2.1.2.1
theorem dX12_init_266 : decode cX12_init 266 = .ok (.iastore, 1) := fp_hdX12_init_249.1.1.2.1.2.2
theorem dX12_init_267 : decode cX12_init 267 = .ok (.dup, 1) := fp_hdX12_init_249.1.1.2.2.1.1
theorem dX12_init_268 : decode cX12_init 268 = .ok (.bipush 22, 2) := fp_hdX12_init_249.1.1.2.2.1.2
theorem dX12_init_270 : decode cX12_init 270 = .ok (.bipush 101, 2) := fp_hdX12_init_249.1.1.2.2.2.1
theorem dX12_init_272 : decode cX12_init 272 = .ok (.iastore, 1) := fp_hdX12_init_249.1.1.2.2.2.2
theorem dX12_init_273 : decode cX12_init 273 = .ok (.dup, 1) := fp_hdX12_init_249.1.2.1.1.1.1
theorem dX12_init_274 : decode cX12_init 274 = .ok (.bipush 23, 2) := fp_hdX12_init_249.1.2.1.1.1.2
theorem dX12_init_276 : decode cX12_init 276 = .ok (.bipush 108, 2) := fp_hdX12_init_249.1.2.1.1.2.1
theorem dX12_init_278 : decode cX12_init 278 = .ok (.iastore, 1) := fp_hdX12_init_249.1.2.1.1.2.2
theorem dX12_init_279 : decode cX12_init 279 = .ok (.dup, 1) := fp_hdX12_init_249.1.2.1.2.1.1
theorem dX12_init_280 : decode cX12_init 280 = .ok (.bipush 24, 2) := fp_hdX12_init_249.1.2.1.2.1.2
theorem dX12_init_282 : decode cX12_init 282 = .ok (.bipush 100, 2) := fp_hdX12_init_249.1.2.1.2.2.1
theorem dX12_init_284 : decode cX12_init 284 = .ok (.iastore, 1) := fp_hdX12_init_249.1.2.1.2.2.2
theorem dX12_init_285 : decode cX12_init 285 = .ok (.dup, 1) := fp_hdX12_init_249.1.2.2.1.1.1
theorem dX12_init_286 : decode cX12_init 286 = .ok (.bipush 25, 2) := fp_hdX12_init_249.1.2.2.1.1.2
theorem dX12_init_288 : decode cX12_init 288 = .ok (.bipush 101, 2) := fp_hdX12_init_249.1.2.2.1.2.1
theorem dX12_init_290 : decode cX12_init 290 = .ok (.iastore, 1) := fp_hdX12_init_249.1.2.2.1.2.2
theorem dX12_init_291 : decode cX12_init 291 = .ok (.dup, 1) := fp_hdX12_init_249.1.2.2.2.1.1
theorem dX12_init_292 : decode cX12_init 292 = .ok (.bipush 26, 2) := fp_hdX12_init_249.1.2.2.2.1.2
theorem dX12_init_294 : decode cX12_init 294 = .ok (.bipush 115, 2) := fp_hdX12_init_249.1.2.2.2.2.1
theorem dX12_init_296 : decode cX12_init 296 = .ok (.iastore, 1) := fp_hdX12_init_249.1.2.2.2.2.2
theorem fp_hdX12_init_297 : (((((decode cX12_init 297 = .ok (.dup, 1) ∧ decode cX12_init 298 = .ok (.bipush 27, 2)) ∧ (decode cX12_init 300 = .ok (.bipush 116, 2) ∧ decode cX12_init 302 = .ok (.iastore, 1))) ∧ ((decode cX12_init 303 = .ok (.dup, 1) ∧ decode cX12_init 304 = .ok (.bipush 28, 2)) ∧ (decode cX12_init 306 = .ok (.bipush 108, 2) ∧ decode cX12_init 308 = .ok (.iastore, 1)))) ∧ (((decode cX12_init 309 = .ok (.dup, 1) ∧ decode cX12_init 310 = .ok (.bipush 29, 2)) ∧ (decode cX12_init 312 = .ok (.bipush 97, 2) ∧ decode cX12_init 314 = .ok (.iastore, 1))) ∧ ((decode cX12_init 315 = .ok (.dup, 1) ∧ decode cX12_init 316 = .ok (.bipush 30, 2)) ∧ (decode cX12_init 318 = .ok (.bipush 116, 2) ∧ decode cX12_init 320 = .ok (.iastore, 1))))) ∧ ((((decode cX12_init 321 = .ok (.dup, 1) ∧ decode cX12_init 322 = .ok (.bipush 31, 2)) ∧ (decode cX12_init 324 = .ok (.bipush 101, 2) ∧ decode cX12_init 326 = .ok (.iastore, 1))) ∧ ((decode cX12_init 327 = .ok (.dup, 1) ∧ decode cX12_init 328 = .ok (.bipush 32, 2)) ∧ (decode cX12_init 330 = .ok (.bipush 115, 2) ∧ decode cX12_init 332 = .ok (.iastore, 1)))) ∧ (((decode cX12_init 333 = .ok (.dup, 1) ∧ decode cX12_init 334 = .ok (.bipush 33, 2)) ∧ (decode cX12_init 336 = .ok (.bipush 116, 2) ∧ decode cX12_init 338 = .ok (.iastore, 1))) ∧ ((decode cX12_init 339 = .ok (.dup, 1) ∧ decode cX12_init 340 = .ok (.bipush 34, 2)) ∧ (decode cX12_init 342 = .ok (.bipush 108, 2) ∧ decode cX12_init 344 = .ok (.iastore, 1)))))) ∧ bA cX12_init 345 fp_scX12_init_7 :=
  have q0 := fp_o89 fp_hdX12_init_249.2
  have q1 := fp_o16 (v := 27) q0.2 rfl
  have q2 := fp_o16 (v := 116) q1.2 rfl
  have q3 := fp_o79 q2.2
  have q4 := fp_o89 q3.2
  have q5 := fp_o16 (v := 28) q4.2 rfl
  have q6 := fp_o16 (v := 108) q5.2 rfl
  have q7 := fp_o79 q6.2
  have q8 := fp_o89 q7.2
  have q9 := fp_o16 (v := 29) q8.2 rfl
  have q10 := fp_o16 (v := 97) q9.2 rfl
  have q11 := fp_o79 q10.2
  have q12 := fp_o89 q11.2
  have q13 := fp_o16 (v := 30) q12.2 rfl
  have q14 := fp_o16 (v := 116) q13.2 rfl
  have q15 := fp_o79 q14.2
  have q16 := fp_o89 q15.2
  have q17 := fp_o16 (v := 31) q16.2 rfl
  have q18 := fp_o16 (v := 101) q17.2 rfl
  have q19 := fp_o79 q18.2
  have q20 := fp_o89 q19.2
  have q21 := fp_o16 (v := 32) q20.2 rfl
  have q22 := fp_o16 (v := 115) q21.2 rfl
  have q23 := fp_o79 q22.2
  have q24 := fp_o89 q23.2
  have q25 := fp_o16 (v := 33) q24.2 rfl
  have q26 := fp_o16 (v := 116) q25.2 rfl
  have q27 := fp_o79 q26.2
  have q28 := fp_o89 q27.2
  have q29 := fp_o16 (v := 34) q28.2 rfl
  have q30 := fp_o16 (v := 108) q29.2 rfl
  have q31 := fp_o79 q30.2
  ⟨⟨⟨⟨⟨⟨q0.1, q1.1⟩, ⟨q2.1, q3.1⟩⟩, ⟨⟨q4.1, q5.1⟩, ⟨q6.1, q7.1⟩⟩⟩, ⟨⟨⟨q8.1, q9.1⟩, ⟨q10.1, q11.1⟩⟩, ⟨⟨q12.1, q13.1⟩, ⟨q14.1, q15.1⟩⟩⟩⟩, ⟨⟨⟨⟨q16.1, q17.1⟩, ⟨q18.1, q19.1⟩⟩, ⟨⟨q20.1, q21.1⟩, ⟨q22.1, q23.1⟩⟩⟩, ⟨⟨⟨q24.1, q25.1⟩, ⟨q26.1, q27.1⟩⟩, ⟨⟨q28.1, q29.1⟩, ⟨q30.1, q31.1⟩⟩⟩⟩⟩, q31.2⟩
theorem dX12_init_297 : decode cX12_init 297 = .ok (.dup, 1) := fp_hdX12_init_297.1.1.1.1.1.1
theorem dX12_init_298 : decode cX12_init 298 = .ok (.bipush 27, 2) := fp_hdX12_init_297.1.1.1.1.1.2
theorem dX12_init_300 : decode cX12_init 300 = .ok (.bipush 116, 2) := fp_hdX12_init_297.1.1.1.1.2.1
theorem dX12_init_302 : decode cX12_init 302 = .ok (.iastore, 1) := fp_hdX12_init_297.1.1.1.1.2.2
theorem dX12_init_303 : decode cX12_init 303 = .ok (.dup, 1) := fp_hdX12_init_297.1.1.1.2.1.1
theorem dX12_init_304 : decode cX12_init 304 = .ok (.bipush 28, 2) := fp_hdX12_init_297.1.1.1.2.1.2
theorem dX12_init_306 : decode cX12_init 306 = .ok (.bipush 108, 2) := fp_hdX12_init_297.1.1.1.2.2.1
theorem dX12_init_308 : decode cX12_init 308 = .ok (.iastore, 1) := fp_hdX12_init_297.1.1.1.2.2.2
theorem dX12_init_309 : decode cX12_init 309 = .ok (.dup, 1) := fp_hdX12_init_297.1.1.2.1.1.1
theorem dX12_init_310 : decode cX12_init 310 = .ok (.bipush 29, 2) := fp_hdX12_init_297.1.1.2.1.1.2
theorem dX12_init_312 : decode cX12_init 312 = .ok (.bipush 97, 2) := fp_hdX12_init_297.1.1.2.1.2.1
theorem dX12_init_314 : decode cX12_init 314 = .ok (.iastore, 1) := fp_hdX12_init_297.1.1.2.1.2.2
theorem dX12_init_315 : decode cX12_init 315 = .ok (.dup, 1) := fp_hdX12_init_297.1.1.2.2.1.1
theorem dX12_init_316 : decode cX12_init 316 = .ok (.bipush 30, 2) := fp_hdX12_init_297.1.1.2.2.1.2
theorem dX12_init_318 : decode cX12_init 318 = .ok (.bipush 116, 2) := fp_hdX12_init_297.1.1.2.2.2.1
theorem dX12_init_320 : decode cX12_init 320 = .ok (.iastore, 1) := fp_hdX12_init_297.1.1.2.2.2.2
theorem dX12_init_321 : decode cX12_init 321 = .ok (.dup, 1) := fp_hdX12_init_297.1.2.1.1.1.1
theorem dX12_init_322 : decode cX12_init 322 = .ok (.bipush 31, 2) := fp_hdX12_init_297.1.2.1.1.1.2
theorem dX12_init_324 : decode cX12_init 324 = .ok (.bipush 101, 2) := fp_hdX12_init_297.1.2.1.1.2.1
theorem dX12_init_326 : decode cX12_init 326 = .ok (.iastore, 1) := fp_hdX12_init_297.1.2.1.1.2.2
theorem dX12_init_327 : decode cX12_init 327 = .ok (.dup, 1) := fp_hdX12_init_297.1.2.1.2.1.1
theorem dX12_init_328 : decode cX12_init 328 = .ok (.bipush 32, 2) := fp_hdX12_init_297.1.2.1.2.1.2
theorem dX12_init_330 : decode cX12_init 330 = .ok (.bipush 115, 2) := fp_hdX12_init_297.1.2.1.2.2.1
theorem dX12_init_332 : decode cX12_init 332 = .ok (.iastore, 1) := fp_hdX12_init_297.1.2.1.2.2.2
theorem dX12_init_333 : decode cX12_init 333 = .ok (.dup, 1) := fp_hdX12_init_297.1.2.2.1.1.1
theorem dX12_init_334 : decode cX12_init 334 = .ok (.bipush 33, 2) := fp_hdX12_init_297.1.2.2.1.1.2
theorem dX12_init_336 : decode cX12_init 336 = .ok (.bipush 116, 2) := fp_hdX12_init_297.1.2.2.1.2.1
theorem dX12_init_338 : decode cX12_init 338 = .ok (.iastore, 1) := fp_hdX12_init_297.1.2.2.1.2.2
theorem dX12_init_339 : decode cX12_init 339 = .ok (.dup, 1) := fp_hdX12_init_297.1.2.2.2.1.1
theorem dX12_init_340 : decode cX12_init 340 = .ok (.bipush 34, 2) := fp_hdX12_init_297.1.2.2.2.1.2
theorem dX12_init_342 : decode cX12_init 342 = .ok (.bipush 108, 2) := fp_hdX12_init_297.1.2.2.2.2.1
theorem dX12_init_344 : decode cX12_init 344 = .ok (.iastore, 1) := fp_hdX12_init_297.1.2.2.2.2.2
theorem fp_hdX12_init_345 : (((((decode cX12_init 345 = .ok (.dup, 1) ∧ decode cX12_init 346 = .ok (.bipush 35, 2)) ∧ (decode cX12_init 348 = .ok (.bipush 105, 2) ∧ decode cX12_init 350 = .ok (.iastore, 1))) ∧ ((decode cX12_init 351 = .ok (.dup, 1) ∧ decode cX12_init 352 = .ok (.bipush 36, 2)) ∧ (decode cX12_init 354 = .ok (.bipush 103, 2) ∧ decode cX12_init 356 = .ok (.iastore, 1)))) ∧ (((decode cX12_init 357 = .ok (.dup, 1) ∧ decode cX12_init 358 = .ok (.bipush 37, 2)) ∧ (decode cX12_init 360 = .ok (.bipush 104, 2) ∧ decode cX12_init 362 = .ok (.iastore, 1))) ∧ ((decode cX12_init 363 = .ok (.dup, 1) ∧ decode cX12_init 364 = .ok (.bipush 38, 2)) ∧ (decode cX12_init 366 = .ok (.bipush 116, 2) ∧ decode cX12_init 368 = .ok (.iastore, 1))))) ∧ ((((decode cX12_init 369 = .ok (.dup, 1) ∧ decode cX12_init 370 = .ok (.bipush 39, 2)) ∧ (decode cX12_init 372 = .ok (.bipush 101, 2) ∧ decode cX12_init 374 = .ok (.iastore, 1))) ∧ ((decode cX12_init 375 = .ok (.dup, 1) ∧ decode cX12_init 376 = .ok (.bipush 40, 2)) ∧ (decode cX12_init 378 = .ok (.bipush 115, 2) ∧ decode cX12_init 380 = .ok (.iastore, 1)))) ∧ (((decode cX12_init 381 = .ok (.dup, 1) ∧ decode cX12_init 382 = .ok (.bipush 41, 2)) ∧ (decode cX12_init 384 = .ok (.bipush 116, 2) ∧ decode cX12_init 386 = .ok (.iastore, 1))) ∧ ((decode cX12_init 387 = .ok (.putfield 44, 3) ∧ decode cX12_init 390 = .ok (.aload_n 0, 1)) ∧ (decode cX12_init 391 = .ok (.sipush 560, 3) ∧ decode cX12_init 394 = .ok (.newarray .int, 2)))))) ∧ bA cX12_init 396 fp_scX12_init_8 :=
  have q0 := fp_o89 fp_hdX12_init_297.2
  have q1 := fp_o16 (v := 35) q0.2 rfl
  have q2 := fp_o16 (v := 105) q1.2 rfl
  have q3 := fp_o79 q2.2
  have q4 := fp_o89 q3.2
  have q5 := fp_o16 (v := 36) q4.2 rfl
  have q6 := fp_o16 (v := 103) q5.2 rfl
  have q7 := fp_o79 q6.2
  have q8 := fp_o89 q7.2
  have q9 := fp_o16 (v := 37) q8.2 rfl
  have q10 := fp_o16 (v := 104) q9.2 rfl
  have q11 := fp_o79 q10.2
  have q12 := fp_o89 q11.2
  have q13 := fp_o16 (v := 38) q12.2 rfl
  have q14 := fp_o16 (v := 116) q13.2 rfl
  have q15 := fp_o79 q14.2
  have q16 := fp_o89 q15.2
  have q17 := fp_o16 (v := 39) q16.2 rfl
  have q18 := fp_o16 (v := 101) q17.2 rfl
  have q19 := fp_o79 q18.2
  have q20 := fp_o89 q19.2
  have q21 := fp_o16 (v := 40) q20.2 rfl
  have q22 := fp_o16 (v := 115) q21.2 rfl
  have q23 := fp_o79 q22.2
  have q24 := fp_o89 q23.2
  have q25 := fp_o16 (v := 41) q24.2 rfl
  have q26 := fp_o16 (v := 116) q25.2 rfl
  have q27 := fp_o79 q26.2
  have q28 := fp_o181 (v := 44) q27.2 rfl
  have q29 := fp_o42 q28.2
  have q30 := fp_o17 (v := 560) q29.2 rfl
  have q31 := fp_o188_10 q30.2
  ⟨⟨⟨⟨⟨⟨q0.1, q1.1⟩, ⟨q2.1, q3.1⟩⟩, ⟨⟨q4.1, q5.1⟩, ⟨q6.1, q7.1⟩⟩⟩, ⟨⟨⟨q8.1, q9.1⟩, ⟨q10.1, q11.1⟩⟩, ⟨⟨q12.1, q13.1⟩, ⟨q14.1, q15.1⟩⟩⟩⟩, ⟨⟨⟨⟨q16.1, q17.1⟩, ⟨q18.1, q19.1⟩⟩, ⟨⟨q20.1, q21.1⟩, ⟨q22.1, q23.1⟩⟩⟩, ⟨⟨⟨q24.1, q25.1⟩, ⟨q26.1, q27.1⟩⟩, ⟨⟨q28.1, q29.1⟩, ⟨q30.1, q31.1⟩⟩⟩⟩⟩, q31.2⟩
theorem dX12_init_345 : decode cX12_init 345 = .ok (.dup, 1) := fp_hdX12_init_345.1.1.1.1.1.1
theorem dX12_init_346 : decode cX12_init 346 = .ok (.bipush 35, 2) := fp_hdX12_init_345.1.1.1.1.1.2
theorem dX12_init_348 : decode cX12_init 348 = .ok (.bipush 105, 2) := fp_hdX12_init_345.1.1.1.1.2.1
theorem dX12_init_350 : decode cX12_init 350 = .ok (.iastore, 1) := fp_hdX12_init_345.1.1.1.1.2.2
theorem dX12_init_351 : decode cX12_init 351 = .ok (.dup, 1) := fp_hdX12_init_345.1.1.1.2.1.1
theorem dX12_init_352 : decode cX12_init 352 = .ok (.bipush 36, 2) := fp_hdX12_init_345.1.1.1.2.1.2
theorem dX12_init_354 : decode cX12_init 354 = .ok (.bipush 103, 2) := fp_hdX12_init_345.1.1.1.2.2.1
theorem dX12_init_356 : decode cX12_init 356 = .ok (.iastore, 1) := fp_hdX12_init_345.1.1.1.2.2.2
theorem dX12_init_357 : decode cX12_init 357 = .ok (.dup, 1) := fp_hdX12_init_345.1.1.2.1.1.1
theorem dX12_init_358 : decode cX12_init 358 = .ok (.bipush 37, 2) := fp_hdX12_init_345.1.1.2.1.1.2
theorem dX12_init_360 : decode cX12_init 360 = .ok (.bipush 104, 2) := fp_hdX12_init_345.1.1.2.1.2.1
theorem dX12_init_362 : decode cX12_init 362 = .ok (.iastore, 1) := fp_hdX12_init_345.1.1.2.1.2.2
theorem dX12_init_363 : decode cX12_init 363 = .ok (.dup, 1) := fp_hdX12_init_345.1.1.2.2.1.1
theorem dX12_init_364 : decode cX12_init 364 = .ok (.bipush 38, 2) := fp_hdX12_init_345.1.1.2.2.1.2
theorem dX12_init_366 : decode cX12_init 366 = .ok (.bipush 116, 2) := fp_hdX12_init_345.1.1.2.2.2.1
theorem dX12_init_368 : decode cX12_init 368 = .ok (.iastore, 1) := fp_hdX12_init_345.1.1.2.2.2.2
theorem dX12_init_369 : decode cX12_init 369 = .ok (.dup, 1) := fp_hdX12_init_345.1.2.1.1.1.1
theorem dX12_init_370 : decode cX12_init 370 = .ok (.bipush 39, 2) := fp_hdX12_init_345.1.2.1.1.1.2
theorem dX12_init_372 : decode cX12_init 372 = .ok (.bipush 101, 2) := fp_hdX12_init_345.1.2.1.1.2.1
theorem dX12_init_374 : decode cX12_init 374 = .ok (.iastore, 1) := fp_hdX12_init_345.1.2.1.1.2.2
theorem dX12_init_375 : decode cX12_init 375 = .ok (.dup, 1) := fp_hdX12_init_345.1.2.1.2.1.1
theorem dX12_init_376 : decode cX12_init 376 = .ok (.bipush 40, 2) := fp_hdX12_init_345.1.2.1.2.1.2
theorem dX12_init_378 : decode cX12_init 378 = .ok (.bipush 115, 2) := fp_hdX12_init_345.1.2.1.2.2.1
theorem dX12_init_380 : decode cX12_init 380 = .ok (.iastore, 1) := fp_hdX12_init_345.1.2.1.2.2.2
theorem dX12_init_381 : decode cX12_init 381 = .ok (.dup, 1) := fp_hdX12_init_345.1.2.2.1.1.1
theorem dX12_init_382 : decode cX12_init 382 = .ok (.bipush 41, 2) := fp_hdX12_init_345.1.2.2.1.1.2
theorem dX12_init_384 : decode cX12_init 384 = .ok (.bipush 116, 2) := fp_hdX12_init_345.1.2.2.1.2.1
theorem dX12_init_386 : decode cX12_init 386 = .ok (.iastore, 1) := fp_hdX12_init_345.1.2.2.1.2.2
theorem dX12_init_387 : decode cX12_init 387 = .ok (.putfield 44, 3) := fp_hdX12_init_345.1.2.2.2.1.1
theorem dX12_init_390 : decode cX12_init 390 = .ok (.aload_n 0, 1) := fp_hdX12_init_345.1.2.2.2.1.2
theorem dX12_init_391 : decode cX12_init 391 = .ok (.sipush 560, 3) := fp_hdX12_init_345.1.2.2.2.2.1
theorem dX12_init_394 : decode cX12_init 394 = .ok (.newarray .int, 2) := fp_hdX12_init_345.1.2.2.2.2.2
theorem fp_hdX12_init_396 : (((((decode cX12_init 396 = .ok (.putfield 47, 3) ∧ decode cX12_init 399 = .ok (.aload_n 0, 1)) ∧ (decode cX12_init 400 = .ok (.bipush 12, 2) ∧ decode cX12_init 402 = .ok (.newarray .int, 2))) ∧ ((decode cX12_init 404 = .ok (.putfield 50, 3) ∧ decode cX12_init 407 = .ok (.aload_n 0, 1)) ∧ (decode cX12_init 408 = .ok (.bipush 12, 2) ∧ decode cX12_init 410 = .ok (.newarray .int, 2)))) ∧ (((decode cX12_init 412 = .ok (.putfield 53, 3) ∧ decode cX12_init 415 = .ok (.aload_n 0, 1)) ∧ (decode cX12_init 416 = .ok (.bipush 10, 2) ∧ decode cX12_init 418 = .ok (.newarray .long, 2))) ∧ ((decode cX12_init 420 = .ok (.putfield 56, 3) ∧ decode cX12_init 423 = .ok (.aload_n 0, 1)) ∧ (decode cX12_init 424 = .ok (.sipush 729, 3) ∧ decode cX12_init 427 = .ok (.newarray .int, 2))))) ∧ ((((decode cX12_init 429 = .ok (.putfield 60, 3) ∧ decode cX12_init 432 = .ok (.aload_n 0, 1)) ∧ (decode cX12_init 433 = .ok (.bipush 8, 2) ∧ decode cX12_init 435 = .ok (.newarray .int, 2))) ∧ ((decode cX12_init 437 = .ok (.putfield 63, 3) ∧ decode cX12_init 440 = .ok (.aload_n 0, 1)) ∧ (decode cX12_init 441 = .ok (.bipush 8, 2) ∧ decode cX12_init 443 = .ok (.newarray .int, 2)))) ∧ (((decode cX12_init 445 = .ok (.putfield 66, 3) ∧ decode cX12_init 448 = .ok (.aload_n 0, 1)) ∧ (decode cX12_init 449 = .ok (.iconst 4, 1) ∧ decode cX12_init 450 = .ok (.newarray .int, 2))) ∧ ((decode cX12_init 452 = .ok (.putfield 69, 3) ∧ decode cX12_init 455 = .ok (.aload_n 0, 1)) ∧ (decode cX12_init 456 = .ok (.iconst 4, 1) ∧ decode cX12_init 457 = .ok (.newarray .int, 2)))))) ∧ bA cX12_init 459 fp_scX12_init_9 :=
  have q0 := fp_o181 (v := 47) fp_hdX12_init_345.2 rfl
  have q1 := fp_o42 q0.2
  have q2 := fp_o16 (v := 12) q1.2 rfl
  have q3 := fp_o188_10 q2.2
  have q4 := fp_o181 (v := 50) q3.2 rfl
  have q5 := fp_o42 q4.2
  have q6 := fp_o16 (v := 12) q5.2 rfl
  have q7 := fp_o188_10 q6.2
  have q8 := fp_o181 (v := 53) q7.2 rfl
  have q9 := fp_o42 q8.2
  have q10 := fp_o16 (v := 10) q9.2 rfl
  have q11 := fp_o188_11 q10.2
  have q12 := fp_o181 (v := 56) q11.2 rfl
  have q13 := fp_o42 q12.2
  have q14 := fp_o17 (v := 729) q13.2 rfl
  have q15 := fp_o188_10 q14.2
  have q16 := fp_o181 (v := 60) q15.2 rfl
  have q17 := fp_o42 q16.2
  have q18 := fp_o16 (v := 8) q17.2 rfl
  have q19 := fp_o188_10 q18.2
  have q20 := fp_o181 (v := 63) q19.2 rfl
  have q21 := fp_o42 q20.2
  have q22 := fp_o16 (v := 8) q21.2 rfl
  have q23 := fp_o188_10 q22.2
  have q24 := fp_o181 (v := 66) q23.2 rfl
  have q25 := fp_o42 q24.2
  have q26 := fp_o7 q25.2
  have q27 := fp_o188_10 q26.2
  have q28 := fp_o181 (v := 69) q27.2 rfl
  have q29 := fp_o42 q28.2
  have q30 := fp_o7 q29.2
  have q31 := fp_o188_10 q30.2
  ⟨⟨⟨⟨⟨⟨q0.1, q1.1⟩, ⟨q2.1, q3.1⟩⟩, ⟨⟨q4.1, q5.1⟩, ⟨q6.1, q7.1⟩⟩⟩, ⟨⟨⟨q8.1, q9.1⟩, ⟨q10.1, q11.1⟩⟩, ⟨⟨q12.1, q13.1⟩, ⟨q14.1, q15.1⟩⟩⟩⟩, ⟨⟨⟨⟨q16.1, q17.1⟩, ⟨q18.1, q19.1⟩⟩, ⟨⟨q20.1, q21.1⟩, ⟨q22.1, q23.1⟩⟩⟩, ⟨⟨⟨q24.1, q25.1⟩, ⟨q26.1, q27.1⟩⟩, ⟨⟨q28.1, q29.1⟩, ⟨q30.1, q31.1⟩⟩⟩⟩⟩, q31.2⟩
theorem dX12_init_396 : decode cX12_init 396 = .ok (.putfield 47, 3) := fp_hdX12_init_396.1.1.1.1.1.1
theorem dX12_init_399 : decode cX12_init 399 = .ok (.aload_n 0, 1) := fp_hdX12_init_396.1.1.1.1.1.2
theorem dX12_init_400 : decode cX12_init 400 = .ok (.bipush 12, 2) := fp_hdX12_init_396.1.1.1.1.2.1
theorem dX12_init_402 : decode cX12_init 402 = .ok (.newarray .int, 2) := fp_hdX12_init_396.1.1.1.1.2.2
theorem dX12_init_404 : decode cX12_init 404 = .ok (.putfield 50, 3) := fp_hdX12_init_396.1.1.1.2.1.1
theorem dX12_init_407 : decode cX12_init 407 = .ok (.aload_n 0, 1) := fp_hdX12_init_396.1.1.1.2.1.2
theorem dX12_init_408 : decode cX12_init 408 = .ok (.bipush 12, 2) := fp_hdX12_init_396.1.1.1.2.2.1
theorem dX12_init_410 : decode cX12_init 410 = .ok (.newarray .int, 2) := fp_hdX12_init_396.1.1.1.2.2.2
theorem dX12_init_412 : decode cX12_init 412 = .ok (.putfield 53, 3) := fp_hdX12_init_396.1.1.2.1.1.1
theorem dX12_init_415 : decode cX12_init 415 = .ok (.aload_n 0, 1) := fp_hdX12_init_396.1.1.2.1.1.2
theorem dX12_init_416 : decode cX12_init 416 = .ok (.bipush 10, 2) := fp_hdX12_init_396.1.1.2.1.2.1
theorem dX12_init_418 : decode cX12_init 418 = .ok (.newarray .long, 2) := fp_hdX12_init_396.1.1.2.1.2.2
theorem dX12_init_420 : decode cX12_init 420 = .ok (.putfield 56, 3) := fp_hdX12_init_396.1.1.2.2.1.1
theorem dX12_init_423 : decode cX12_init 423 = .ok (.aload_n 0, 1) := fp_hdX12_init_396.1.1.2.2.1.2
theorem dX12_init_424 : decode cX12_init 424 = .ok (.sipush 729, 3) := fp_hdX12_init_396.1.1.2.2.2.1
theorem dX12_init_427 : decode cX12_init 427 = .ok (.newarray .int, 2) := fp_hdX12_init_396.1.1.2.2.2.2
theorem dX12_init_429 : decode cX12_init 429 = .ok (.putfield 60, 3) := fp_hdX12_init_396.1.2.1.1.1.1
theorem dX12_init_432 : decode cX12_init 432 = .ok (.aload_n 0, 1) := fp_hdX12_init_396.1.2.1.1.1.2
theorem dX12_init_433 : decode cX12_init 433 = .ok (.bipush 8, 2) := fp_hdX12_init_396.1.2.1.1.2.1
theorem dX12_init_435 : decode cX12_init 435 = .ok (.newarray .int, 2) := fp_hdX12_init_396.1.2.1.1.2.2
theorem dX12_init_437 : decode cX12_init 437 = .ok (.putfield 63, 3) := fp_hdX12_init_396.1.2.1.2.1.1
theorem dX12_init_440 : decode cX12_init 440 = .ok (.aload_n 0, 1) := fp_hdX12_init_396.1.2.1.2.1.2
theorem dX12_init_441 : decode cX12_init 441 = .ok (.bipush 8, 2) := fp_hdX12_init_396.1.2.1.2.2.1
theorem dX12_init_443 : decode cX12_init 443 = .ok (.newarray .int, 2) := fp_hdX12_init_396.1.2.1.2.2.2
theorem dX12_init_445 : decode cX12_init 445 = .ok (.putfield 66, 3) := fp_hdX12_init_396.1.2.2.1.1.1
theorem dX12_init_448 : decode cX12_init 448 = .ok (.aload_n 0, 1) := fp_hdX12_init_396.1.2.2.1.1.2
theorem dX12_init_449 : decode cX12_init 449 = .ok (.iconst 4, 1) := fp_hdX12_init_396.1.2.2.1.2.1
theorem dX12_init_450 : decode cX12_init 450 = .ok (.newarray .int, 2) := fp_hdX12_init_396.1.2.2.1.2.2
theorem dX12_init_452 : decode cX12_init 452 = .ok (.putfield 69, 3) := fp_hdX12_init_396.1.2.2.2.1.1
theorem dX12_init_455 : decode cX12_init 455 = .ok (.aload_n 0, 1) := fp_hdX12_init_396.1.2.2.2.1.2
theorem dX12_init_456 : decode cX12_init 456 = .ok (.iconst 4, 1) := fp_hdX12_init_396.1.2.2.2.2.1
theorem dX12_init_457 : decode cX12_init 457 = .ok (.newarray .int, 2) := fp_hdX12_init_396.1.2.2.2.2.2
theorem fp_hdX12_init_459 : (((((decode cX12_init 459 = .ok (.putfield 72, 3) ∧ decode cX12_init 462 = .ok (.aload_n 0, 1)) ∧ (decode cX12_init 463 = .ok (.iconst 4, 1) ∧ decode cX12_init 464 = .ok (.newarray .int, 2))) ∧ ((decode cX12_init 466 = .ok (.putfield 75, 3) ∧ decode cX12_init 469 = .ok (.aload_n 0, 1)) ∧ (decode cX12_init 470 = .ok (.iconst 2, 1) ∧ decode cX12_init 471 = .ok (.newarray .boolean, 2)))) ∧ (((decode cX12_init 473 = .ok (.putfield 78, 3) ∧ decode cX12_init 476 = .ok (.aload_n 0, 1)) ∧ (decode cX12_init 477 = .ok (.iconst 4, 1) ∧ decode cX12_init 478 = .ok (.newarray .int, 2))) ∧ ((decode cX12_init 480 = .ok (.dup, 1) ∧ decode cX12_init 481 = .ok (.iconst 0, 1)) ∧ (decode cX12_init 482 = .ok (.bipush (-4), 2) ∧ decode cX12_init 484 = .ok (.iastore, 1))))) ∧ ((((decode cX12_init 485 = .ok (.dup, 1) ∧ decode cX12_init 486 = .ok (.iconst 1, 1)) ∧ (decode cX12_init 487 = .ok (.bipush (-4), 2) ∧ decode cX12_init 489 = .ok (.iastore, 1))) ∧ ((decode cX12_init 490 = .ok (.dup, 1) ∧ decode cX12_init 491 = .ok (.iconst 2, 1)) ∧ (decode cX12_init 492 = .ok (.bipush (-4), 2) ∧ decode cX12_init 494 = .ok (.iastore, 1)))) ∧ (((decode cX12_init 495 = .ok (.dup, 1) ∧ decode cX12_init 496 = .ok (.iconst 3, 1)) ∧ (decode cX12_init 497 = .ok (.bipush (-4), 2) ∧ decode cX12_init 499 = .ok (.iastore, 1))) ∧ ((decode cX12_init 500 = .ok (.putfield 82, 3) ∧ decode cX12_init 503 = .ok (.aload_n 0, 1)) ∧ (decode cX12_init 504 = .ok (.iconst 4, 1) ∧ decode cX12_init 505 = .ok (.newarray .int, 2)))))) ∧ bA cX12_init 507 fp_scX12_init_10 :=
  have q0 := fp_o181 (v := 72) fp_hdX12_init_396.2 rfl
  have q1 := fp_o42 q0.2
  have q2 := fp_o7 q1.2
  have q3 := fp_o188_10 q2.2
  have q4 := fp_o181 (v := 75) q3.2 rfl
  have q5 := fp_o42 q4.2
  have q6 := fp_o5 q5.2
  have q7 := fp_o188_4 q6.2
  have q8 := fp_o181 (v := 78) q7.2 rfl
  have q9 := fp_o42 q8.2
  have q10 := fp_o7 q9.2
  have q11 := fp_o188_10 q10.2
  have q12 := fp_o89 q11.2
  have q13 := fp_o3 q12.2
  have q14 := fp_o16 (v := (-4)) q13.2 rfl
  have q15 := fp_o79 q14.2
  have q16 := fp_o89 q15.2
  have q17 := fp_o4 q16.2
  have q18 := fp_o16 (v := (-4)) q17.2 rfl
  have q19 := fp_o79 q18.2
  have q20 := fp_o89 q19.2
  have q21 := fp_o5 q20.2
  have q22 := fp_o16 (v := (-4)) q21.2 rfl
  have q23 := fp_o79 q22.2
  have q24 := fp_o89 q23.2
  have q25 := fp_o6 q24.2
  have q26 := fp_o16 (v := (-4)) q25.2 rfl
  have q27 := fp_o79 q26.2
  have q28 := fp_o181 (v := 82) q27.2 rfl
  have q29 := fp_o42 q28.2
  have q30 := fp_o7 q29.2
  have q31 := fp_o188_10 q30.2
  ⟨⟨⟨⟨⟨⟨q0.1, q1.1⟩, ⟨q2.1, q3.1⟩⟩, ⟨⟨q4.1, q5.1⟩, ⟨q6.1, q7.1⟩⟩⟩, ⟨⟨⟨q8.1, q9.1⟩, ⟨q10.1, q11.1⟩⟩, ⟨⟨q12.1, q13.1⟩, ⟨q14.1, q15.1⟩⟩⟩⟩, ⟨⟨⟨⟨q16.1, q17.1⟩, ⟨q18.1, q19.1⟩⟩, ⟨⟨q20.1, q21.1⟩, ⟨q22.1, q23.1⟩⟩⟩, ⟨⟨⟨q24.1, q25.1⟩, ⟨q26.1, q27.1⟩⟩, ⟨⟨q28.1, q29.1⟩, ⟨q30.1, q31.1⟩⟩⟩⟩⟩, q31.2⟩
theorem dX12_init_459 : decode cX12_init 459 = .ok (.putfield 72, 3) := fp_hdX12_init_459.1.1.1.1.1.1
theorem dX12_init_462 : decode cX12_init 462 = .ok (.aload_n 0, 1) := fp_hdX12_init_459.1.1.1.1.1.2
theorem dX12_init_463 : decode cX12_init 463 = .ok (.iconst 4, 1) := fp_hdX12_init_459.1.1.1.1.2.1
theorem dX12_init_464 : decode cX12_init 464 = .ok (.newarray .int, 2) := fp_hdX12_init_459.1.1.1.1.2.2
theorem dX12_init_466 : decode cX12_init 466 = .ok (.putfield 75, 3) := fp_hdX12_init_459.1.1.1.2.1.1
theorem dX12_init_469 : decode cX12_init 469 = .ok (.aload_n 0, 1) := fp_hdX12_init_459.1.1.1.2.1.2
theorem dX12_init_470 : decode cX12_init 470 = .ok (.iconst 2, 1) := fp_hdX12_init_459.1.1.1.2.2.1
theorem dX12_init_471 : decode cX12_init 471 = .ok (.newarray .boolean, 2) := fp_hdX12_init_459.1.1.1.2.2.2
theorem dX12_init_473 : decode cX12_init 473 = .ok (.putfield 78, 3) := fp_hdX12_init_459.1.1.2.1.1.1
theorem dX12_init_476 : decode cX12_init 476 = .ok (.aload_n 0, 1) := fp_hdX12_init_459.1.1.2.1.1.2
theorem dX12_init_477 : decode cX12_init 477 = .ok (.iconst 4, 1) := fp_hdX12_init_459.1.1.2.1.2.1
theorem dX12_init_478 : decode cX12_init 478 = .ok (.newarray .int, 2) := fp_hdX12_init_459.1.1.2.1.2.2
theorem dX12_init_480 : decode cX12_init 480 = .ok (.dup, 1) := fp_hdX12_init_459.1.1.2.2.1.1
theorem dX12_init_481 : decode cX12_init 481 = .ok (.iconst 0, 1) := fp_hdX12_init_459.1.1.2.2.1.2
theorem dX12_init_482 : decode cX12_init 482 = .ok (.bipush (-4), 2) := fp_hdX12_init_459.1.1.2.2.2.1
theorem dX12_init_484 : decode cX12_init 484 = .ok (.iastore, 1) := fp_hdX12_init_459.1.1.2.2.2.2
theorem dX12_init_485 : decode cX12_init 485 = .ok (.dup, 1) := fp_hdX12_init_459.1.2.1.1.1.1
theorem dX12_init_486 : decode cX12_init 486 = .ok (.iconst 1, 1) := fp_hdX12_init_459.1.2.1.1.1.2
theorem dX12_init_487 : decode cX12_init 487 = .ok (.bipush (-4), 2) := fp_hdX12_init_459.1.2.1.1.2.1
theorem dX12_init_489 : decode cX12_init 489 = .ok (.iastore, 1) := fp_hdX12_init_459.1.2.1.1.2.2
theorem dX12_init_490 : decode cX12_init 490 = .ok (.dup, 1) := fp_hdX12_init_459.1.2.1.2.1.1
theorem dX12_init_491 : decode cX12_init 491 = .ok (.iconst 2, 1) := fp_hdX12_init_459.1.2.1.2.1.2
theorem dX12_init_492 : decode cX12_init 492 = .ok (.bipush (-4), 2) := fp_hdX12_init_459.1.2.1.2.2.1
theorem dX12_init_494 : decode cX12_init 494 = .ok (.iastore, 1) := fp_hdX12_init_459.1.2.1.2.2.2
theorem dX12_init_495 : decode cX12_init 495 = .ok (.dup, 1) := fp_hdX12_init_459.1.2.2.1.1.1
theorem dX12_init_496 : decode cX12_init 496 = .ok (.iconst 3, 1) := fp_hdX12_init_459.1.2.2.1.1.2
theorem dX12_init_497 : decode cX12_init 497 = .ok (.bipush (-4), 2) := fp_hdX12_init_459.1.2.2.1.2.1
theorem dX12_init_499 : decode cX12_init 499 = .ok (.iastore, 1) := fp_hdX12_init_459.1.2.2.1.2.2
theorem dX12_init_500 : decode cX12_init 500 = .ok (.putfield 82, 3) := fp_hdX12_init_459.1.2.2.2.1.1
theorem dX12_init_503 : decode cX12_init 503 = .ok (.aload_n 0, 1) := fp_hdX12_init_459.1.2.2.2.1.2
theorem dX12_init_504 : decode cX12_init 504 = .ok (.iconst 4, 1) := fp_hdX12_init_459.1.2.2.2.2.1
theorem dX12_init_505 : decode cX12_init 505 = .ok (.newarray .int, 2) := fp_hdX12_init_459.1.2.2.2.2.2
theorem fp_hdX12_init_507 : (((decode cX12_init 507 = .ok (.putfield 85, 3) ∧ decode cX12_init 510 = .ok (.aload_n 0, 1)) ∧ decode cX12_init 511 = .ok (.sipush 160, 3)) ∧ ((decode cX12_init 514 = .ok (.newarray .int, 2) ∧ decode cX12_init 516 = .ok (.putfield 88, 3)) ∧ decode cX12_init 519 = .ok (.return_, 1))) ∧ bA cX12_init 520 [] :=
  have q0 := fp_o181 (v := 85) fp_hdX12_init_459.2 rfl
  have q1 := fp_o42 q0.2
  have q2 := fp_o17 (v := 160) q1.2 rfl
  have q3 := fp_o188_10 q2.2
  have q4 := fp_o181 (v := 88) q3.2 rfl
  have q5 := fp_o177 q4.2
  ⟨⟨⟨⟨q0.1, q1.1⟩, q2.1⟩, ⟨⟨q3.1, q4.1⟩, q5.1⟩⟩, q5.2⟩
theorem dX12_init_507 : decode cX12_init 507 = .ok (.putfield 85, 3) := fp_hdX12_init_507.1.1.1.1
theorem dX12_init_510 : decode cX12_init 510 = .ok (.aload_n 0, 1) := fp_hdX12_init_507.1.1.1.2
theorem dX12_init_511 : decode cX12_init 511 = .ok (.sipush 160, 3) := fp_hdX12_init_507.1.1.2
theorem dX12_init_514 : decode cX12_init 514 = .ok (.newarray .int, 2) := fp_hdX12_init_507.1.2.1.1
theorem dX12_init_516 : decode cX12_init 516 = .ok (.putfield 88, 3) := fp_hdX12_init_507.1.2.1.2
theorem dX12_init_519 : decode cX12_init 519 = .ok (.return_, 1) := fp_hdX12_init_507.1.2.2
def fp_scX12_in_0 : List Nat := 30 :: 32 :: 148 :: 155 :: 0 :: 14 :: 30 :: 22 :: 4 :: 148 :: 157 :: 0 :: 7 :: 4 :: 167 :: 0 :: 4 :: 3 :: 172 :: []
theorem fp_bcX12_in : bA cX12_in 0 fp_scX12_in_0 := show cX12_in.data.toList.map UInt8.toNat = fp_scX12_in_0 from by decide +kernel
theorem fp_hdX12_in_0 : ((((decode cX12_in 0 = .ok (.lload_n 0, 1) ∧ decode cX12_in 1 = .ok (.lload_n 2, 1)) ∧ decode cX12_in 2 = .ok (.lcmp, 1)) ∧ ((decode cX12_in 3 = .ok (.ifCond .lt 14, 3) ∧ decode cX12_in 6 = .ok (.lload_n 0, 1)) ∧ decode cX12_in 7 = .ok (.lload 4, 2))) ∧ (((decode cX12_in 9 = .ok (.lcmp, 1) ∧ decode cX12_in 10 = .ok (.ifCond .gt 7, 3)) ∧ decode cX12_in 13 = .ok (.iconst 1, 1)) ∧ ((decode cX12_in 14 = .ok (.goto 4, 3) ∧ decode cX12_in 17 = .ok (.iconst 0, 1)) ∧ decode cX12_in 18 = .ok (.ireturn, 1)))) ∧ bA cX12_in 19 [] :=
  have q0 := fp_o30 fp_bcX12_in
  have q1 := fp_o32 q0.2
  have q2 := fp_o148 q1.2
  have q3 := fp_o155 (v := 14) q2.2 rfl
  have q4 := fp_o30 q3.2
  have q5 := fp_o22 q4.2
  have q6 := fp_o148 q5.2
  have q7 := fp_o157 (v := 7) q6.2 rfl
  have q8 := fp_o4 q7.2
  have q9 := fp_o167 (v := 4) q8.2 rfl
  have q10 := fp_o3 q9.2
  have q11 := fp_o172 q10.2
  ⟨⟨⟨⟨⟨q0.1, q1.1⟩, q2.1⟩, ⟨⟨q3.1, q4.1⟩, q5.1⟩⟩, ⟨⟨⟨q6.1, q7.1⟩, q8.1⟩, ⟨⟨q9.1, q10.1⟩, q11.1⟩⟩⟩, q11.2⟩
theorem dX12_in_0 : decode cX12_in 0 = .ok (.lload_n 0, 1) := fp_hdX12_in_0.1.1.1.1.1
theorem dX12_in_1 : decode cX12_in 1 = .ok (.lload_n 2, 1) := fp_hdX12_in_0.1.1.1.1.2
theorem dX12_in_2 : decode cX12_in 2 = .ok (.lcmp, 1) := fp_hdX12_in_0.1.1.1.2
theorem dX12_in_3 : decode cX12_in 3 = .ok (.ifCond .lt 14, 3) := fp_hdX12_in_0.1.1.2.1.1
theorem dX12_in_6 : decode cX12_in 6 = .ok (.lload_n 0, 1) := fp_hdX12_in_0.1.1.2.1.2
theorem dX12_in_7 : decode cX12_in 7 = .ok (.lload 4, 2) := fp_hdX12_in_0.1.1.2.2
theorem dX12_in_9 : decode cX12_in 9 = .ok (.lcmp, 1) := fp_hdX12_in_0.1.2.1.1.1
theorem dX12_in_10 : decode cX12_in 10 = .ok (.ifCond .gt 7, 3) := fp_hdX12_in_0.1.2.1.1.2
theorem dX12_in_13 : decode cX12_in 13 = .ok (.iconst 1, 1) := fp_hdX12_in_0.1.2.1.2
theorem dX12_in_14 : decode cX12_in 14 = .ok (.goto 4, 3) := fp_hdX12_in_0.1.2.2.1.1
theorem dX12_in_17 : decode cX12_in 17 = .ok (.iconst 0, 1) := fp_hdX12_in_0.1.2.2.1.2
theorem dX12_in_18 : decode cX12_in 18 = .ok (.ireturn, 1) := fp_hdX12_in_0.1.2.2.2
def fp_scX12_feed_1 : List Nat := 180 :: 0 :: 91 :: 172 :: []
def fp_scX12_feed_0 : List Nat := 42 :: 180 :: 0 :: 91 :: 16 :: 8 :: 96 :: 17 :: 1 :: 224 :: 164 :: 0 :: 6 :: 16 :: 253 :: 172 :: 16 :: 56 :: 62 :: 29 :: 155 :: 0 :: 36 :: 42 :: 180 :: 0 :: 38 :: 42 :: 180 :: 0 :: 91 :: 31 :: 29 :: 123 :: 136 :: 17 :: 0 :: 255 :: 126 :: 79 :: 42 :: 89 :: 180 :: 0 :: 91 :: 4 :: 96 :: 181 :: 0 :: 91 :: 132 :: 3 :: 248 :: 167 :: 255 :: 222 :: 42 :: fp_scX12_feed_1
theorem fp_bcX12_feed : bA cX12_feed 0 fp_scX12_feed_0 := show cX12_feed.data.toList.map UInt8.toNat = fp_scX12_feed_0 from by decide +kernel
theorem fp_hdX12_feed_0 : (((((decode cX12_feed 0 = .ok (.aload_n 0, 1) ∧ decode cX12_feed 1 = .ok (.getfield 91, 3)) ∧ (decode cX12_feed 4 = .ok (.bipush 8, 2) ∧ decode cX12_feed 6 = .ok (.iadd, 1))) ∧ ((decode cX12_feed 7 = .ok (.sipush 480, 3) ∧ decode cX12_feed 10 = .ok (.if_icmp .le 6, 3)) ∧ (decode cX12_feed 13 = .ok (.bipush (-3), 2) ∧ decode cX12_feed 15 = .ok (.ireturn, 1)))) ∧ (((decode cX12_feed 16 = .ok (.bipush 56, 2) ∧ decode cX12_feed 18 = .ok (.istore_n 3, 1)) ∧ (decode cX12_feed 19 = .ok (.iload_n 3, 1) ∧ decode cX12_feed 20 = .ok (.ifCond .lt 36, 3))) ∧ ((decode cX12_feed 23 = .ok (.aload_n 0, 1) ∧ decode cX12_feed 24 = .ok (.getfield 38, 3)) ∧ (decode cX12_feed 27 = .ok (.aload_n 0, 1) ∧ decode cX12_feed 28 = .ok (.getfield 91, 3))))) ∧ ((((decode cX12_feed 31 = .ok (.lload_n 1, 1) ∧ decode cX12_feed 32 = .ok (.iload_n 3, 1)) ∧ (decode cX12_feed 33 = .ok (.lshr, 1) ∧ decode cX12_feed 34 = .ok (.l2i, 1))) ∧ ((decode cX12_feed 35 = .ok (.sipush 255, 3) ∧ decode cX12_feed 38 = .ok (.iand, 1)) ∧ (decode cX12_feed 39 = .ok (.iastore, 1) ∧ decode cX12_feed 40 = .ok (.aload_n 0, 1)))) ∧ (((decode cX12_feed 41 = .ok (.dup, 1) ∧ decode cX12_feed 42 = .ok (.getfield 91, 3)) ∧ (decode cX12_feed 45 = .ok (.iconst 1, 1) ∧ decode cX12_feed 46 = .ok (.iadd, 1))) ∧ ((decode cX12_feed 47 = .ok (.putfield 91, 3) ∧ decode cX12_feed 50 = .ok (.iinc 3 (-8), 3)) ∧ (decode cX12_feed 53 = .ok (.goto (-34), 3) ∧ decode cX12_feed 56 = .ok (.aload_n 0, 1)))))) ∧ bA cX12_feed 57 fp_scX12_feed_1 :=
  have q0 := fp_o42 fp_bcX12_feed
  have q1 := fp_o180 (v := 91) q0.2 rfl
  have q2 := fp_o16 (v := 8) q1.2 rfl
  have q3 := fp_o96 q2.2
  have q4 := fp_o17 (v := 480) q3.2 rfl
  have q5 := fp_o164 (v := 6) q4.2 rfl
  have q6 := fp_o16 (v := (-3)) q5.2 rfl
  have q7 := fp_o172 q6.2
  have q8 := fp_o16 (v := 56) q7.2 rfl
  have q9 := fp_o62 q8.2
  have q10 := fp_o29 q9.2
  have q11 := fp_o155 (v := 36) q10.2 rfl
  have q12 := fp_o42 q11.2
  have q13 := fp_o180 (v := 38) q12.2 rfl
  have q14 := fp_o42 q13.2
  have q15 := fp_o180 (v := 91) q14.2 rfl
  have q16 := fp_o31 q15.2
  have q17 := fp_o29 q16.2
  have q18 := fp_o123 q17.2
  have q19 := fp_o136 q18.2
  have q20 := fp_o17 (v := 255) q19.2 rfl
  have q21 := fp_o126 q20.2
  have q22 := fp_o79 q21.2
  have q23 := fp_o42 q22.2
  have q24 := fp_o89 q23.2
  have q25 := fp_o180 (v := 91) q24.2 rfl
  have q26 := fp_o4 q25.2
  have q27 := fp_o96 q26.2
  have q28 := fp_o181 (v := 91) q27.2 rfl
  have q29 := fp_o132 (v := (-8)) q28.2 rfl
  have q30 := fp_o167 (v := (-34)) q29.2 rfl
  have q31 := fp_o42 q30.2
  ⟨⟨⟨⟨⟨⟨q0.1, q1.1⟩, ⟨q2.1, q3.1⟩⟩, ⟨⟨q4.1, q5.1⟩, ⟨q6.1, q7.1⟩⟩⟩, ⟨⟨⟨q8.1, q9.1⟩, ⟨q10.1, q11.1⟩⟩, ⟨⟨q12.1, q13.1⟩, ⟨q14.1, q15.1⟩⟩⟩⟩, ⟨⟨⟨⟨q16.1, q17.1⟩, ⟨q18.1, q19.1⟩⟩, ⟨⟨q20.1, q21.1⟩, ⟨q22.1, q23.1⟩⟩⟩, ⟨⟨⟨q24.1, q25.1⟩, ⟨q26.1, q27.1⟩⟩, ⟨⟨q28.1, q29.1⟩, ⟨q30.1, q31.1⟩⟩⟩⟩⟩, q31.2⟩
theorem dX12_feed_0 : decode cX12_feed 0 = .ok (.aload_n 0, 1) := fp_hdX12_feed_0.1.1.1.1.1.1
theorem dX12_feed_1 : decode cX12_feed 1 = .ok (.getfield 91, 3) := fp_hdX12_feed_0.1.1.1.1.1.2
theorem dX12_feed_4 : decode cX12_feed 4 = .ok (.bipush 8, 2) := fp_hdX12_feed_0.1.1.1.1.2.1
theorem dX12_feed_6 : decode cX12_feed 6 = .ok (.iadd, 1) := fp_hdX12_feed_0.1.1.1.1.2.2
theorem dX12_feed_7 : decode cX12_feed 7 = .ok (.sipush 480, 3) := fp_hdX12_feed_0.1.1.1.2.1.1
theorem dX12_feed_10 : decode cX12_feed 10 = .ok (.if_icmp .le 6, 3) := fp_hdX12_feed_0.1.1.1.2.1.2
theorem dX12_feed_13 : decode cX12_feed 13 = .ok (.bipush (-3), 2) := fp_hdX12_feed_0.1.1.1.2.2.1
theorem dX12_feed_15 : decode cX12_feed 15 = .ok (.ireturn, 1) := fp_hdX12_feed_0.1.1.1.2.2.2
theorem dX12_feed_16 : decode cX12_feed 16 = .ok (.bipush 56, 2) := fp_hdX12_feed_0.1.1.2.1.1.1
theorem dX12_feed_18 : decode cX12_feed 18 = .ok (.istore_n 3, 1) := fp_hdX12_feed_0.1.1.2.1.1.2
theorem dX12_feed_19 : decode cX12_feed 19 = .ok (.iload_n 3, 1) := fp_hdX12_feed_0.1.1.2.1.2.1
theorem dX12_feed_20 : decode cX12_feed 20 = .ok (.ifCond .lt 36, 3) := fp_hdX12_feed_0.1.1.2.1.2.2
theorem dX12_feed_23 : decode cX12_feed 23 = .ok (.aload_n 0, 1) := fp_hdX12_feed_0.1.1.2.2.1.1
theorem dX12_feed_24 : decode cX12_feed 24 = .ok (.getfield 38, 3) := fp_hdX12_feed_0.1.1.2.2.1.2
theorem dX12_feed_27 : decode cX12_feed 27 = .ok (.aload_n 0, 1) := fp_hdX12_feed_0.1.1.2.2.2.1
theorem dX12_feed_28 : decode cX12_feed 28 = .ok (.getfield 91, 3) := fp_hdX12_feed_0.1.1.2.2.2.2
theorem dX12_feed_31 : decode cX12_feed 31 = .ok (.lload_n 1, 1) := fp_hdX12_feed_0.1.2.1.1.1.1
theorem dX12_feed_32 : decode cX12_feed 32 = .ok (.iload_n 3, 1) := fp_hdX12_feed_0.1.2.1.1.1.2
theorem dX12_feed_33 : decode cX12_feed 33 = .ok (.lshr, 1) := fp_hdX12_feed_0.1.2.1.1.2.1
theorem dX12_feed_34 : decode cX12_feed 34 = .ok (.l2i, 1) := fp_hdX12_feed_0.1.2.1.1.2.2
theorem dX12_feed_35 : decode cX12_feed 35 = .ok (.sipush 255, 3) := fp_hdX12_feed_0.1.2.1.2.1.1
theorem dX12_feed_38 : decode cX12_feed 38 = .ok (.iand, 1) := fp_hdX12_feed_0.1.2.1.2.1.2
theorem dX12_feed_39 : decode cX12_feed 39 = .ok (.iastore, 1) := fp_hdX12_feed_0.1.2.1.2.2.1
theorem dX12_feed_40 : decode cX12_feed 40 = .ok (.aload_n 0, 1) := fp_hdX12_feed_0.1.2.1.2.2.2
theorem dX12_feed_41 : decode cX12_feed 41 = .ok (.dup, 1) := fp_hdX12_feed_0.1.2.2.1.1.1
theorem dX12_feed_42 : decode cX12_feed 42 = .ok (.getfield 91, 3) := fp_hdX12_feed_0.1.2.2.1.1.2
theorem dX12_feed_45 : decode cX12_feed 45 = .ok (.iconst 1, 1) := fp_hdX12_feed_0.1.2.2.1.2.1
theorem dX12_feed_46 : decode cX12_feed 46 = .ok (.iadd, 1) := fp_hdX12_feed_0.1.2.2.1.2.2
theorem dX12_feed_47 : decode cX12_feed 47 = .ok (.putfield 91, 3) := fp_hdX12_feed_0.1.2.2.2.1.1
theorem dX12_feed_50 : decode cX12_feed 50 = .ok (.iinc 3 (-8), 3) := fp_hdX12_feed_0.1.2.2.2.1.2
theorem dX12_feed_53 : decode cX12_feed 53 = .ok (.goto (-34), 3) := fp_hdX12_feed_0.1.2.2.2.2.1
theorem dX12_feed_56 : decode cX12_feed 56 = .ok (.aload_n 0, 1) := fp_hdX12_feed_0.1.2.2.2.2.2
theorem fp_hdX12_feed_57 : (decode cX12_feed 57 = .ok (.getfield 91, 3) ∧ decode cX12_feed 60 = .ok (.ireturn, 1)) ∧ bA cX12_feed 61 [] :=
  have q0 := fp_o180 (v := 91) fp_hdX12_feed_0.2 rfl
  have q1 := fp_o172 q0.2
  ⟨⟨q0.1, q1.1⟩, q1.2⟩
theorem dX12_feed_57 : decode cX12_feed 57 = .ok (.getfield 91, 3) := fp_hdX12_feed_57.1.1
theorem dX12_feed_60 : decode cX12_feed 60 = .ok (.ireturn, 1) := fp_hdX12_feed_57.1.2
def fp_scX12_end_0 : List Nat := 27 :: 133 :: 9 :: 42 :: 180 :: 0 :: 91 :: 133 :: 184 :: 0 :: 94 :: 154 :: 0 :: 5 :: 2 :: 172 :: 42 :: 180 :: 0 :: 91 :: 61 :: 42 :: 27 :: 181 :: 0 :: 91 :: 28 :: 172 :: []
theorem fp_bcX12_end : bA cX12_end 0 fp_scX12_end_0 := show cX12_end.data.toList.map UInt8.toNat = fp_scX12_end_0 from by decide +kernel
theorem fp_hdX12_end_0 : (((((decode cX12_end 0 = .ok (.iload_n 1, 1) ∧ decode cX12_end 1 = .ok (.i2l, 1)) ∧ decode cX12_end 2 = .ok (.lconst 0, 1)) ∧ (decode cX12_end 3 = .ok (.aload_n 0, 1) ∧ decode cX12_end 4 = .ok (.getfield 91, 3))) ∧ ((decode cX12_end 7 = .ok (.i2l, 1) ∧ decode cX12_end 8 = .ok (.invokestatic 94, 3)) ∧ (decode cX12_end 11 = .ok (.ifCond .ne 5, 3) ∧ decode cX12_end 14 = .ok (.iconst (-1), 1)))) ∧ ((((decode cX12_end 15 = .ok (.ireturn, 1) ∧ decode cX12_end 16 = .ok (.aload_n 0, 1)) ∧ decode cX12_end 17 = .ok (.getfield 91, 3)) ∧ (decode cX12_end 20 = .ok (.istore_n 2, 1) ∧ decode cX12_end 21 = .ok (.aload_n 0, 1))) ∧ ((decode cX12_end 22 = .ok (.iload_n 1, 1) ∧ decode cX12_end 23 = .ok (.putfield 91, 3)) ∧ (decode cX12_end 26 = .ok (.iload_n 2, 1) ∧ decode cX12_end 27 = .ok (.ireturn, 1))))) ∧ bA cX12_end 28 [] :=
  have q0 := fp_o27 fp_bcX12_end
  have q1 := fp_o133 q0.2
  have q2 := fp_o9 q1.2
  have q3 := fp_o42 q2.2
  have q4 := fp_o180 (v := 91) q3.2 rfl
  have q5 := fp_o133 q4.2
  have q6 := fp_o184 (v := 94) q5.2 rfl
  have q7 := fp_o154 (v := 5) q6.2 rfl
  have q8 := fp_o2 q7.2
  have q9 := fp_o172 q8.2
  have q10 := fp_o42 q9.2
  have q11 := fp_o180 (v := 91) q10.2 rfl
  have q12 := fp_o61 q11.2
  have q13 := fp_o42 q12.2
  have q14 := fp_o27 q13.2
  have q15 := fp_o181 (v := 91) q14.2 rfl
  have q16 := fp_o28 q15.2
  have q17 := fp_o172 q16.2
  ⟨⟨⟨⟨⟨⟨q0.1, q1.1⟩, q2.1⟩, ⟨q3.1, q4.1⟩⟩, ⟨⟨q5.1, q6.1⟩, ⟨q7.1, q8.1⟩⟩⟩, ⟨⟨⟨⟨q9.1, q10.1⟩, q11.1⟩, ⟨q12.1, q13.1⟩⟩, ⟨⟨q14.1, q15.1⟩, ⟨q16.1, q17.1⟩⟩⟩⟩, q17.2⟩
theorem dX12_end_0 : decode cX12_end 0 = .ok (.iload_n 1, 1) := fp_hdX12_end_0.1.1.1.1.1.1
theorem dX12_end_1 : decode cX12_end 1 = .ok (.i2l, 1) := fp_hdX12_end_0.1.1.1.1.1.2
theorem dX12_end_2 : decode cX12_end 2 = .ok (.lconst 0, 1) := fp_hdX12_end_0.1.1.1.1.2
theorem dX12_end_3 : decode cX12_end 3 = .ok (.aload_n 0, 1) := fp_hdX12_end_0.1.1.1.2.1
theorem dX12_end_4 : decode cX12_end 4 = .ok (.getfield 91, 3) := fp_hdX12_end_0.1.1.1.2.2
theorem dX12_end_7 : decode cX12_end 7 = .ok (.i2l, 1) := fp_hdX12_end_0.1.1.2.1.1
theorem dX12_end_8 : decode cX12_end 8 = .ok (.invokestatic 94, 3) := fp_hdX12_end_0.1.1.2.1.2
theorem dX12_end_11 : decode cX12_end 11 = .ok (.ifCond .ne 5, 3) := fp_hdX12_end_0.1.1.2.2.1
theorem dX12_end_14 : decode cX12_end 14 = .ok (.iconst (-1), 1) := fp_hdX12_end_0.1.1.2.2.2
theorem dX12_end_15 : decode cX12_end 15 = .ok (.ireturn, 1) := fp_hdX12_end_0.1.2.1.1.1.1
theorem dX12_end_16 : decode cX12_end 16 = .ok (.aload_n 0, 1) := fp_hdX12_end_0.1.2.1.1.1.2
theorem dX12_end_17 : decode cX12_end 17 = .ok (.getfield 91, 3) := fp_hdX12_end_0.1.2.1.1.2
theorem dX12_end_20 : decode cX12_end 20 = .ok (.istore_n 2, 1) := fp_hdX12_end_0.1.2.1.2.1
theorem dX12_end_21 : decode cX12_end 21 = .ok (.aload_n 0, 1) := fp_hdX12_end_0.1.2.1.2.2
theorem dX12_end_22 : decode cX12_end 22 = .ok (.iload_n 1, 1) := fp_hdX12_end_0.1.2.2.1.1
theorem dX12_end_23 : decode cX12_end 23 = .ok (.putfield 91, 3) := fp_hdX12_end_0.1.2.2.1.2
theorem dX12_end_26 : decode cX12_end 26 = .ok (.iload_n 2, 1) := fp_hdX12_end_0.1.2.2.2.1
theorem dX12_end_27 : decode cX12_end 27 = .ok (.ireturn, 1) := fp_hdX12_end_0.1.2.2.2.2
def fp_scX12_byteAt_0 : List Nat := 27 :: 42 :: 180 :: 0 :: 91 :: 162 :: 0 :: 12 :: 42 :: 180 :: 0 :: 38 :: 27 :: 46 :: 167 :: 0 :: 5 :: 16 :: 252 :: 172 :: []
theorem fp_bcX12_byteAt : bA cX12_byteAt 0 fp_scX12_byteAt_0 := show cX12_byteAt.data.toList.map UInt8.toNat = fp_scX12_byteAt_0 from by decide +kernel
theorem fp_hdX12_byteAt_0 : ((((decode cX12_byteAt 0 = .ok (.iload_n 1, 1) ∧ decode cX12_byteAt 1 = .ok (.aload_n 0, 1)) ∧ decode cX12_byteAt 2 = .ok (.getfield 91, 3)) ∧ ((decode cX12_byteAt 5 = .ok (.if_icmp .ge 12, 3) ∧ decode cX12_byteAt 8 = .ok (.aload_n 0, 1)) ∧ decode cX12_byteAt 9 = .ok (.getfield 38, 3))) ∧ (((decode cX12_byteAt 12 = .ok (.iload_n 1, 1) ∧ decode cX12_byteAt 13 = .ok (.iaload, 1)) ∧ decode cX12_byteAt 14 = .ok (.goto 5, 3)) ∧ (decode cX12_byteAt 17 = .ok (.bipush (-4), 2) ∧ decode cX12_byteAt 19 = .ok (.ireturn, 1)))) ∧ bA cX12_byteAt 20 [] :=
  have q0 := fp_o27 fp_bcX12_byteAt
  have q1 := fp_o42 q0.2
  have q2 := fp_o180 (v := 91) q1.2 rfl
  have q3 := fp_o162 (v := 12) q2.2 rfl
  have q4 := fp_o42 q3.2
  have q5 := fp_o180 (v := 38) q4.2 rfl
  have q6 := fp_o27 q5.2
  have q7 := fp_o46 q6.2
  have q8 := fp_o167 (v := 5) q7.2 rfl
  have q9 := fp_o16 (v := (-4)) q8.2 rfl
  have q10 := fp_o172 q9.2
  ⟨⟨⟨⟨⟨q0.1, q1.1⟩, q2.1⟩, ⟨⟨q3.1, q4.1⟩, q5.1⟩⟩, ⟨⟨⟨q6.1, q7.1⟩, q8.1⟩, ⟨q9.1, q10.1⟩⟩⟩, q10.2⟩
theorem dX12_byteAt_0 : decode cX12_byteAt 0 = .ok (.iload_n 1, 1) := fp_hdX12_byteAt_0.1.1.1.1.1
theorem dX12_byteAt_1 : decode cX12_byteAt 1 = .ok (.aload_n 0, 1) := fp_hdX12_byteAt_0.1.1.1.1.2
theorem dX12_byteAt_2 : decode cX12_byteAt 2 = .ok (.getfield 91, 3) := fp_hdX12_byteAt_0.1.1.1.2
theorem dX12_byteAt_5 : decode cX12_byteAt 5 = .ok (.if_icmp .ge 12, 3) := fp_hdX12_byteAt_0.1.1.2.1.1
theorem dX12_byteAt_8 : decode cX12_byteAt 8 = .ok (.aload_n 0, 1) := fp_hdX12_byteAt_0.1.1.2.1.2
theorem dX12_byteAt_9 : decode cX12_byteAt 9 = .ok (.getfield 38, 3) := fp_hdX12_byteAt_0.1.1.2.2
theorem dX12_byteAt_12 : decode cX12_byteAt 12 = .ok (.iload_n 1, 1) := fp_hdX12_byteAt_0.1.2.1.1.1
theorem dX12_byteAt_13 : decode cX12_byteAt 13 = .ok (.iaload, 1) := fp_hdX12_byteAt_0.1.2.1.1.2
theorem dX12_byteAt_14 : decode cX12_byteAt 14 = .ok (.goto 5, 3) := fp_hdX12_byteAt_0.1.2.1.2
theorem dX12_byteAt_17 : decode cX12_byteAt 17 = .ok (.bipush (-4), 2) := fp_hdX12_byteAt_0.1.2.2.1
theorem dX12_byteAt_19 : decode cX12_byteAt 19 = .ok (.ireturn, 1) := fp_hdX12_byteAt_0.1.2.2.2
def fp_scX12_fails_0 : List Nat := 42 :: 180 :: 0 :: 98 :: 154 :: 0 :: 16 :: 42 :: 27 :: 181 :: 0 :: 98 :: 42 :: 42 :: 180 :: 0 :: 101 :: 181 :: 0 :: 104 :: 177 :: []
theorem fp_bcX12_fails : bA cX12_fails 0 fp_scX12_fails_0 := show cX12_fails.data.toList.map UInt8.toNat = fp_scX12_fails_0 from by decide +kernel
theorem fp_hdX12_fails_0 : ((((decode cX12_fails 0 = .ok (.aload_n 0, 1) ∧ decode cX12_fails 1 = .ok (.getfield 98, 3)) ∧ decode cX12_fails 4 = .ok (.ifCond .ne 16, 3)) ∧ ((decode cX12_fails 7 = .ok (.aload_n 0, 1) ∧ decode cX12_fails 8 = .ok (.iload_n 1, 1)) ∧ decode cX12_fails 9 = .ok (.putfield 98, 3))) ∧ (((decode cX12_fails 12 = .ok (.aload_n 0, 1) ∧ decode cX12_fails 13 = .ok (.aload_n 0, 1)) ∧ decode cX12_fails 14 = .ok (.getfield 101, 3)) ∧ (decode cX12_fails 17 = .ok (.putfield 104, 3) ∧ decode cX12_fails 20 = .ok (.return_, 1)))) ∧ bA cX12_fails 21 [] :=
  have q0 := fp_o42 fp_bcX12_fails
  have q1 := fp_o180 (v := 98) q0.2 rfl
  have q2 := fp_o154 (v := 16) q1.2 rfl
  have q3 := fp_o42 q2.2
  have q4 := fp_o27 q3.2
  have q5 := fp_o181 (v := 98) q4.2 rfl
  have q6 := fp_o42 q5.2
  have q7 := fp_o42 q6.2
  have q8 := fp_o180 (v := 101) q7.2 rfl
  have q9 := fp_o181 (v := 104) q8.2 rfl
  have q10 := fp_o177 q9.2
  ⟨⟨⟨⟨⟨q0.1, q1.1⟩, q2.1⟩, ⟨⟨q3.1, q4.1⟩, q5.1⟩⟩, ⟨⟨⟨q6.1, q7.1⟩, q8.1⟩, ⟨q9.1, q10.1⟩⟩⟩, q10.2⟩
theorem dX12_fails_0 : decode cX12_fails 0 = .ok (.aload_n 0, 1) := fp_hdX12_fails_0.1.1.1.1.1
theorem dX12_fails_1 : decode cX12_fails 1 = .ok (.getfield 98, 3) := fp_hdX12_fails_0.1.1.1.1.2
theorem dX12_fails_4 : decode cX12_fails 4 = .ok (.ifCond .ne 16, 3) := fp_hdX12_fails_0.1.1.1.2
theorem dX12_fails_7 : decode cX12_fails 7 = .ok (.aload_n 0, 1) := fp_hdX12_fails_0.1.1.2.1.1
theorem dX12_fails_8 : decode cX12_fails 8 = .ok (.iload_n 1, 1) := fp_hdX12_fails_0.1.1.2.1.2
theorem dX12_fails_9 : decode cX12_fails 9 = .ok (.putfield 98, 3) := fp_hdX12_fails_0.1.1.2.2
theorem dX12_fails_12 : decode cX12_fails 12 = .ok (.aload_n 0, 1) := fp_hdX12_fails_0.1.2.1.1.1
theorem dX12_fails_13 : decode cX12_fails 13 = .ok (.aload_n 0, 1) := fp_hdX12_fails_0.1.2.1.1.2
theorem dX12_fails_14 : decode cX12_fails 14 = .ok (.getfield 101, 3) := fp_hdX12_fails_0.1.2.1.2
theorem dX12_fails_17 : decode cX12_fails 17 = .ok (.putfield 104, 3) := fp_hdX12_fails_0.1.2.2.1
theorem dX12_fails_20 : decode cX12_fails 20 = .ok (.return_, 1) := fp_hdX12_fails_0.1.2.2.2
def fp_scX12_nameHere_2 : List Nat := 153 :: 0 :: 5 :: 27 :: 172 :: 132 :: 1 :: 1 :: 167 :: 255 :: 143 :: 16 :: 252 :: 172 :: []
def fp_scX12_nameHere_1 : List Nat := 28 :: 153 :: 0 :: 54 :: 29 :: 42 :: 180 :: 0 :: 110 :: 42 :: 180 :: 0 :: 101 :: 100 :: 162 :: 0 :: 41 :: 42 :: 42 :: 180 :: 0 :: 101 :: 29 :: 96 :: 182 :: 0 :: 113 :: 42 :: 180 :: 0 :: 44 :: 42 :: 180 :: 0 :: 41 :: 27 :: 46 :: 29 :: 96 :: 46 :: 160 :: 0 :: 7 :: 4 :: 167 :: 0 :: 4 :: 3 :: 61 :: 132 :: 3 :: 1 :: 167 :: 255 :: 204 :: 28 :: fp_scX12_nameHere_2
def fp_scX12_nameHere_0 : List Nat := 3 :: 60 :: 27 :: 16 :: 8 :: 162 :: 0 :: 113 :: 42 :: 180 :: 0 :: 107 :: 4 :: 160 :: 0 :: 105 :: 42 :: 180 :: 0 :: 110 :: 42 :: 180 :: 0 :: 101 :: 100 :: 42 :: 180 :: 0 :: 41 :: 27 :: 4 :: 96 :: 46 :: 42 :: 180 :: 0 :: 41 :: 27 :: 46 :: 100 :: 160 :: 0 :: 7 :: 4 :: 167 :: 0 :: 4 :: 3 :: 61 :: 3 :: 62 :: fp_scX12_nameHere_1
theorem fp_bcX12_nameHere : bA cX12_nameHere 0 fp_scX12_nameHere_0 := show cX12_nameHere.data.toList.map UInt8.toNat = fp_scX12_nameHere_0 from by decide +kernel
theorem fp_hdX12_nameHere_0 : (((((decode cX12_nameHere 0 = .ok (.iconst 0, 1) ∧ decode cX12_nameHere 1 = .ok (.istore_n 1, 1)) ∧ (decode cX12_nameHere 2 = .ok (.iload_n 1, 1) ∧ decode cX12_nameHere 3 = .ok (.bipush 8, 2))) ∧ ((decode cX12_nameHere 5 = .ok (.if_icmp .ge 113, 3) ∧ decode cX12_nameHere 8 = .ok (.aload_n 0, 1)) ∧ (decode cX12_nameHere 9 = .ok (.getfield 107, 3) ∧ decode cX12_nameHere 12 = .ok (.iconst 1, 1)))) ∧ (((decode cX12_nameHere 13 = .ok (.if_icmp .ne 105, 3) ∧ decode cX12_nameHere 16 = .ok (.aload_n 0, 1)) ∧ (decode cX12_nameHere 17 = .ok (.getfield 110, 3) ∧ decode cX12_nameHere 20 = .ok (.aload_n 0, 1))) ∧ ((decode cX12_nameHere 21 = .ok (.getfield 101, 3) ∧ decode cX12_nameHere 24 = .ok (.isub, 1)) ∧ (decode cX12_nameHere 25 = .ok (.aload_n 0, 1) ∧ decode cX12_nameHere 26 = .ok (.getfield 41, 3))))) ∧ ((((decode cX12_nameHere 29 = .ok (.iload_n 1, 1) ∧ decode cX12_nameHere 30 = .ok (.iconst 1, 1)) ∧ (decode cX12_nameHere 31 = .ok (.iadd, 1) ∧ decode cX12_nameHere 32 = .ok (.iaload, 1))) ∧ ((decode cX12_nameHere 33 = .ok (.aload_n 0, 1) ∧ decode cX12_nameHere 34 = .ok (.getfield 41, 3)) ∧ (decode cX12_nameHere 37 = .ok (.iload_n 1, 1) ∧ decode cX12_nameHere 38 = .ok (.iaload, 1)))) ∧ (((decode cX12_nameHere 39 = .ok (.isub, 1) ∧ decode cX12_nameHere 40 = .ok (.if_icmp .ne 7, 3)) ∧ (decode cX12_nameHere 43 = .ok (.iconst 1, 1) ∧ decode cX12_nameHere 44 = .ok (.goto 4, 3))) ∧ ((decode cX12_nameHere 47 = .ok (.iconst 0, 1) ∧ decode cX12_nameHere 48 = .ok (.istore_n 2, 1)) ∧ (decode cX12_nameHere 49 = .ok (.iconst 0, 1) ∧ decode cX12_nameHere 50 = .ok (.istore_n 3, 1)))))) ∧ bA cX12_nameHere 51 fp_scX12_nameHere_1 :=
  have q0 := fp_o3 fp_bcX12_nameHere
  have q1 := fp_o60 q0.2
  have q2 := fp_o27 q1.2
  have q3 := fp_o16 (v := 8) q2.2 rfl
  have q4 := fp_o162 (v := 113) q3.2 rfl
  have q5 := fp_o42 q4.2
  have q6 := fp_o180 (v := 107) q5.2 rfl
  have q7 := fp_o4 q6.2
  have q8 := fp_o160 (v := 105) q7.2 rfl
  have q9 := fp_o42 q8.2
  have q10 := fp_o180 (v := 110) q9.2 rfl
  have q11 := fp_o42 q10.2
  have q12 := fp_o180 (v := 101) q11.2 rfl
  have q13 := fp_o100 q12.2
  have q14 := fp_o42 q13.2
  have q15 := fp_o180 (v := 41) q14.2 rfl
  have q16 := fp_o27 q15.2
  have q17 := fp_o4 q16.2
  have q18 := fp_o96 q17.2
  have q19 := fp_o46 q18.2
  have q20 := fp_o42 q19.2
  have q21 := fp_o180 (v := 41) q20.2 rfl
  have q22 := fp_o27 q21.2
  have q23 := fp_o46 q22.2
  have q24 := fp_o100 q23.2
  have q25 := fp_o160 (v := 7) q24.2 rfl
  have q26 := fp_o4 q25.2
  have q27 := fp_o167 (v := 4) q26.2 rfl
  have q28 := fp_o3 q27.2
  have q29 := fp_o61 q28.2
  have q30 := fp_o3 q29.2
  have q31 := fp_o62 q30.2
  ⟨⟨⟨⟨⟨⟨q0.1, q1.1⟩, ⟨q2.1, q3.1⟩⟩, ⟨⟨q4.1, q5.1⟩, ⟨q6.1, q7.1⟩⟩⟩, ⟨⟨⟨q8.1, q9.1⟩, ⟨q10.1, q11.1⟩⟩, ⟨⟨q12.1, q13.1⟩, ⟨q14.1, q15.1⟩⟩⟩⟩, ⟨⟨⟨⟨q16.1, q17.1⟩, ⟨q18.1, q19.1⟩⟩, ⟨⟨q20.1, q21.1⟩, ⟨q22.1, q23.1⟩⟩⟩, ⟨⟨⟨q24.1, q25.1⟩, ⟨q26.1, q27.1⟩⟩, ⟨⟨q28.1, q29.1⟩, ⟨q30.1, q31.1⟩⟩⟩⟩⟩, q31.2⟩
theorem dX12_nameHere_0 : decode cX12_nameHere 0 = .ok (.iconst 0, 1) := fp_hdX12_nameHere_0.1.1.1.1.1.1
theorem dX12_nameHere_1 : decode cX12_nameHere 1 = .ok (.istore_n 1, 1) := fp_hdX12_nameHere_0.1.1.1.1.1.2
theorem dX12_nameHere_2 : decode cX12_nameHere 2 = .ok (.iload_n 1, 1) := fp_hdX12_nameHere_0.1.1.1.1.2.1
theorem dX12_nameHere_3 : decode cX12_nameHere 3 = .ok (.bipush 8, 2) := fp_hdX12_nameHere_0.1.1.1.1.2.2
theorem dX12_nameHere_5 : decode cX12_nameHere 5 = .ok (.if_icmp .ge 113, 3) := fp_hdX12_nameHere_0.1.1.1.2.1.1
theorem dX12_nameHere_8 : decode cX12_nameHere 8 = .ok (.aload_n 0, 1) := fp_hdX12_nameHere_0.1.1.1.2.1.2
theorem dX12_nameHere_9 : decode cX12_nameHere 9 = .ok (.getfield 107, 3) := fp_hdX12_nameHere_0.1.1.1.2.2.1
theorem dX12_nameHere_12 : decode cX12_nameHere 12 = .ok (.iconst 1, 1) := fp_hdX12_nameHere_0.1.1.1.2.2.2
theorem dX12_nameHere_13 : decode cX12_nameHere 13 = .ok (.if_icmp .ne 105, 3) := fp_hdX12_nameHere_0.1.1.2.1.1.1
theorem dX12_nameHere_16 : decode cX12_nameHere 16 = .ok (.aload_n 0, 1) := fp_hdX12_nameHere_0.1.1.2.1.1.2
theorem dX12_nameHere_17 : decode cX12_nameHere 17 = .ok (.getfield 110, 3) := fp_hdX12_nameHere_0.1.1.2.1.2.1
theorem dX12_nameHere_20 : decode cX12_nameHere 20 = .ok (.aload_n 0, 1) := fp_hdX12_nameHere_0.1.1.2.1.2.2
theorem dX12_nameHere_21 : decode cX12_nameHere 21 = .ok (.getfield 101, 3) := fp_hdX12_nameHere_0.1.1.2.2.1.1
theorem dX12_nameHere_24 : decode cX12_nameHere 24 = .ok (.isub, 1) := fp_hdX12_nameHere_0.1.1.2.2.1.2
theorem dX12_nameHere_25 : decode cX12_nameHere 25 = .ok (.aload_n 0, 1) := fp_hdX12_nameHere_0.1.1.2.2.2.1
theorem dX12_nameHere_26 : decode cX12_nameHere 26 = .ok (.getfield 41, 3) := fp_hdX12_nameHere_0.1.1.2.2.2.2
theorem dX12_nameHere_29 : decode cX12_nameHere 29 = .ok (.iload_n 1, 1) := fp_hdX12_nameHere_0.1.2.1.1.1.1
theorem dX12_nameHere_30 : decode cX12_nameHere 30 = .ok (.iconst 1, 1) := fp_hdX12_nameHere_0.1.2.1.1.1.2
theorem dX12_nameHere_31 : decode cX12_nameHere 31 = .ok (.iadd, 1) := fp_hdX12_nameHere_0.1.2.1.1.2.1
theorem dX12_nameHere_32 : decode cX12_nameHere 32 = .ok (.iaload, 1) := fp_hdX12_nameHere_0.1.2.1.1.2.2
theorem dX12_nameHere_33 : decode cX12_nameHere 33 = .ok (.aload_n 0, 1) := fp_hdX12_nameHere_0.1.2.1.2.1.1
theorem dX12_nameHere_34 : decode cX12_nameHere 34 = .ok (.getfield 41, 3) := fp_hdX12_nameHere_0.1.2.1.2.1.2
theorem dX12_nameHere_37 : decode cX12_nameHere 37 = .ok (.iload_n 1, 1) := fp_hdX12_nameHere_0.1.2.1.2.2.1
theorem dX12_nameHere_38 : decode cX12_nameHere 38 = .ok (.iaload, 1) := fp_hdX12_nameHere_0.1.2.1.2.2.2
theorem dX12_nameHere_39 : decode cX12_nameHere 39 = .ok (.isub, 1) := fp_hdX12_nameHere_0.1.2.2.1.1.1
theorem dX12_nameHere_40 : decode cX12_nameHere 40 = .ok (.if_icmp .ne 7, 3) := fp_hdX12_nameHere_0.1.2.2.1.1.2
theorem dX12_nameHere_43 : decode cX12_nameHere 43 = .ok (.iconst 1, 1) := fp_hdX12_nameHere_0.1.2.2.1.2.1
theorem dX12_nameHere_44 : decode cX12_nameHere 44 = .ok (.goto 4, 3) := fp_hdX12_nameHere_0.1.2.2.1.2.2
theorem dX12_nameHere_47 : decode cX12_nameHere 47 = .ok (.iconst 0, 1) := fp_hdX12_nameHere_0.1.2.2.2.1.1
theorem dX12_nameHere_48 : decode cX12_nameHere 48 = .ok (.istore_n 2, 1) := fp_hdX12_nameHere_0.1.2.2.2.1.2
theorem dX12_nameHere_49 : decode cX12_nameHere 49 = .ok (.iconst 0, 1) := fp_hdX12_nameHere_0.1.2.2.2.2.1
theorem dX12_nameHere_50 : decode cX12_nameHere 50 = .ok (.istore_n 3, 1) := fp_hdX12_nameHere_0.1.2.2.2.2.2
theorem fp_hdX12_nameHere_51 : (((((decode cX12_nameHere 51 = .ok (.iload_n 2, 1) ∧ decode cX12_nameHere 52 = .ok (.ifCond .eq 54, 3)) ∧ (decode cX12_nameHere 55 = .ok (.iload_n 3, 1) ∧ decode cX12_nameHere 56 = .ok (.aload_n 0, 1))) ∧ ((decode cX12_nameHere 57 = .ok (.getfield 110, 3) ∧ decode cX12_nameHere 60 = .ok (.aload_n 0, 1)) ∧ (decode cX12_nameHere 61 = .ok (.getfield 101, 3) ∧ decode cX12_nameHere 64 = .ok (.isub, 1)))) ∧ (((decode cX12_nameHere 65 = .ok (.if_icmp .ge 41, 3) ∧ decode cX12_nameHere 68 = .ok (.aload_n 0, 1)) ∧ (decode cX12_nameHere 69 = .ok (.aload_n 0, 1) ∧ decode cX12_nameHere 70 = .ok (.getfield 101, 3))) ∧ ((decode cX12_nameHere 73 = .ok (.iload_n 3, 1) ∧ decode cX12_nameHere 74 = .ok (.iadd, 1)) ∧ (decode cX12_nameHere 75 = .ok (.invokevirtual 113, 3) ∧ decode cX12_nameHere 78 = .ok (.aload_n 0, 1))))) ∧ ((((decode cX12_nameHere 79 = .ok (.getfield 44, 3) ∧ decode cX12_nameHere 82 = .ok (.aload_n 0, 1)) ∧ (decode cX12_nameHere 83 = .ok (.getfield 41, 3) ∧ decode cX12_nameHere 86 = .ok (.iload_n 1, 1))) ∧ ((decode cX12_nameHere 87 = .ok (.iaload, 1) ∧ decode cX12_nameHere 88 = .ok (.iload_n 3, 1)) ∧ (decode cX12_nameHere 89 = .ok (.iadd, 1) ∧ decode cX12_nameHere 90 = .ok (.iaload, 1)))) ∧ (((decode cX12_nameHere 91 = .ok (.if_icmp .ne 7, 3) ∧ decode cX12_nameHere 94 = .ok (.iconst 1, 1)) ∧ (decode cX12_nameHere 95 = .ok (.goto 4, 3) ∧ decode cX12_nameHere 98 = .ok (.iconst 0, 1))) ∧ ((decode cX12_nameHere 99 = .ok (.istore_n 2, 1) ∧ decode cX12_nameHere 100 = .ok (.iinc 3 1, 3)) ∧ (decode cX12_nameHere 103 = .ok (.goto (-52), 3) ∧ decode cX12_nameHere 106 = .ok (.iload_n 2, 1)))))) ∧ bA cX12_nameHere 107 fp_scX12_nameHere_2 :=
  have q0 := fp_o28 fp_hdX12_nameHere_0.2
  have q1 := fp_o153 (v := 54) q0.2 rfl
  have q2 := fp_o29 q1.2
  have q3 := fp_o42 q2.2
  have q4 := fp_o180 (v := 110) q3.2 rfl
  have q5 := fp_o42 q4.2
  have q6 := fp_o180 (v := 101) q5.2 rfl
  have q7 := fp_o100 q6.2
  have q8 := fp_o162 (v := 41) q7.2 rfl
  have q9 := fp_o42 q8.2
  have q10 := fp_o42 q9.2
  have q11 := fp_o180 (v := 101) q10.2 rfl
  have q12 := fp_o29 q11.2
  have q13 := fp_o96 q12.2
  have q14 := fp_o182 (v := 113) q13.2 rfl
  have q15 := fp_o42 q14.2
  have q16 := fp_o180 (v := 44) q15.2 rfl
  have q17 := fp_o42 q16.2
  have q18 := fp_o180 (v := 41) q17.2 rfl
  have q19 := fp_o27 q18.2
  have q20 := fp_o46 q19.2
  have q21 := fp_o29 q20.2
  have q22 := fp_o96 q21.2
  have q23 := fp_o46 q22.2
  have q24 := fp_o160 (v := 7) q23.2 rfl
  have q25 := fp_o4 q24.2
  have q26 := fp_o167 (v := 4) q25.2 rfl
  have q27 := fp_o3 q26.2
  have q28 := fp_o61 q27.2
  have q29 := fp_o132 (v := 1) q28.2 rfl
  have q30 := fp_o167 (v := (-52)) q29.2 rfl
  have q31 := fp_o28 q30.2
  ⟨⟨⟨⟨⟨⟨q0.1, q1.1⟩, ⟨q2.1, q3.1⟩⟩, ⟨⟨q4.1, q5.1⟩, ⟨q6.1, q7.1⟩⟩⟩, ⟨⟨⟨q8.1, q9.1⟩, ⟨q10.1, q11.1⟩⟩, ⟨⟨q12.1, q13.1⟩, ⟨q14.1, q15.1⟩⟩⟩⟩, ⟨⟨⟨⟨q16.1, q17.1⟩, ⟨q18.1, q19.1⟩⟩, ⟨⟨q20.1, q21.1⟩, ⟨q22.1, q23.1⟩⟩⟩, ⟨⟨⟨q24.1, q25.1⟩, ⟨q26.1, q27.1⟩⟩, ⟨⟨q28.1, q29.1⟩, ⟨q30.1, q31.1⟩⟩⟩⟩⟩, q31.2⟩
theorem dX12_nameHere_51 : decode cX12_nameHere 51 = .ok (.iload_n 2, 1) := fp_hdX12_nameHere_51.1.1.1.1.1.1
theorem dX12_nameHere_52 : decode cX12_nameHere 52 = .ok (.ifCond .eq 54, 3) := fp_hdX12_nameHere_51.1.1.1.1.1.2
theorem dX12_nameHere_55 : decode cX12_nameHere 55 = .ok (.iload_n 3, 1) := fp_hdX12_nameHere_51.1.1.1.1.2.1
theorem dX12_nameHere_56 : decode cX12_nameHere 56 = .ok (.aload_n 0, 1) := fp_hdX12_nameHere_51.1.1.1.1.2.2
theorem dX12_nameHere_57 : decode cX12_nameHere 57 = .ok (.getfield 110, 3) := fp_hdX12_nameHere_51.1.1.1.2.1.1
theorem dX12_nameHere_60 : decode cX12_nameHere 60 = .ok (.aload_n 0, 1) := fp_hdX12_nameHere_51.1.1.1.2.1.2
theorem dX12_nameHere_61 : decode cX12_nameHere 61 = .ok (.getfield 101, 3) := fp_hdX12_nameHere_51.1.1.1.2.2.1
theorem dX12_nameHere_64 : decode cX12_nameHere 64 = .ok (.isub, 1) := fp_hdX12_nameHere_51.1.1.1.2.2.2
theorem dX12_nameHere_65 : decode cX12_nameHere 65 = .ok (.if_icmp .ge 41, 3) := fp_hdX12_nameHere_51.1.1.2.1.1.1
theorem dX12_nameHere_68 : decode cX12_nameHere 68 = .ok (.aload_n 0, 1) := fp_hdX12_nameHere_51.1.1.2.1.1.2
theorem dX12_nameHere_69 : decode cX12_nameHere 69 = .ok (.aload_n 0, 1) := fp_hdX12_nameHere_51.1.1.2.1.2.1
theorem dX12_nameHere_70 : decode cX12_nameHere 70 = .ok (.getfield 101, 3) := fp_hdX12_nameHere_51.1.1.2.1.2.2
theorem dX12_nameHere_73 : decode cX12_nameHere 73 = .ok (.iload_n 3, 1) := fp_hdX12_nameHere_51.1.1.2.2.1.1
theorem dX12_nameHere_74 : decode cX12_nameHere 74 = .ok (.iadd, 1) := fp_hdX12_nameHere_51.1.1.2.2.1.2
theorem dX12_nameHere_75 : decode cX12_nameHere 75 = .ok (.invokevirtual 113, 3) := fp_hdX12_nameHere_51.1.1.2.2.2.1
theorem dX12_nameHere_78 : decode cX12_nameHere 78 = .ok (.aload_n 0, 1) := fp_hdX12_nameHere_51.1.1.2.2.2.2
theorem dX12_nameHere_79 : decode cX12_nameHere 79 = .ok (.getfield 44, 3) := fp_hdX12_nameHere_51.1.2.1.1.1.1
theorem dX12_nameHere_82 : decode cX12_nameHere 82 = .ok (.aload_n 0, 1) := fp_hdX12_nameHere_51.1.2.1.1.1.2
theorem dX12_nameHere_83 : decode cX12_nameHere 83 = .ok (.getfield 41, 3) := fp_hdX12_nameHere_51.1.2.1.1.2.1
theorem dX12_nameHere_86 : decode cX12_nameHere 86 = .ok (.iload_n 1, 1) := fp_hdX12_nameHere_51.1.2.1.1.2.2
theorem dX12_nameHere_87 : decode cX12_nameHere 87 = .ok (.iaload, 1) := fp_hdX12_nameHere_51.1.2.1.2.1.1
theorem dX12_nameHere_88 : decode cX12_nameHere 88 = .ok (.iload_n 3, 1) := fp_hdX12_nameHere_51.1.2.1.2.1.2
theorem dX12_nameHere_89 : decode cX12_nameHere 89 = .ok (.iadd, 1) := fp_hdX12_nameHere_51.1.2.1.2.2.1
theorem dX12_nameHere_90 : decode cX12_nameHere 90 = .ok (.iaload, 1) := fp_hdX12_nameHere_51.1.2.1.2.2.2
theorem dX12_nameHere_91 : decode cX12_nameHere 91 = .ok (.if_icmp .ne 7, 3) := fp_hdX12_nameHere_51.1.2.2.1.1.1
theorem dX12_nameHere_94 : decode cX12_nameHere 94 = .ok (.iconst 1, 1) := fp_hdX12_nameHere_51.1.2.2.1.1.2
theorem dX12_nameHere_95 : decode cX12_nameHere 95 = .ok (.goto 4, 3) := fp_hdX12_nameHere_51.1.2.2.1.2.1
theorem dX12_nameHere_98 : decode cX12_nameHere 98 = .ok (.iconst 0, 1) := fp_hdX12_nameHere_51.1.2.2.1.2.2
theorem dX12_nameHere_99 : decode cX12_nameHere 99 = .ok (.istore_n 2, 1) := fp_hdX12_nameHere_51.1.2.2.2.1.1
theorem dX12_nameHere_100 : decode cX12_nameHere 100 = .ok (.iinc 3 1, 3) := fp_hdX12_nameHere_51.1.2.2.2.1.2
theorem dX12_nameHere_103 : decode cX12_nameHere 103 = .ok (.goto (-52), 3) := fp_hdX12_nameHere_51.1.2.2.2.2.1
theorem dX12_nameHere_106 : decode cX12_nameHere 106 = .ok (.iload_n 2, 1) := fp_hdX12_nameHere_51.1.2.2.2.2.2
theorem fp_hdX12_nameHere_107 : (((decode cX12_nameHere 107 = .ok (.ifCond .eq 5, 3) ∧ decode cX12_nameHere 110 = .ok (.iload_n 1, 1)) ∧ (decode cX12_nameHere 111 = .ok (.ireturn, 1) ∧ decode cX12_nameHere 112 = .ok (.iinc 1 1, 3))) ∧ ((decode cX12_nameHere 115 = .ok (.goto (-113), 3) ∧ decode cX12_nameHere 118 = .ok (.bipush (-4), 2)) ∧ decode cX12_nameHere 120 = .ok (.ireturn, 1))) ∧ bA cX12_nameHere 121 [] :=
  have q0 := fp_o153 (v := 5) fp_hdX12_nameHere_51.2 rfl
  have q1 := fp_o27 q0.2
  have q2 := fp_o172 q1.2
  have q3 := fp_o132 (v := 1) q2.2 rfl
  have q4 := fp_o167 (v := (-113)) q3.2 rfl
  have q5 := fp_o16 (v := (-4)) q4.2 rfl
  have q6 := fp_o172 q5.2
  ⟨⟨⟨⟨q0.1, q1.1⟩, ⟨q2.1, q3.1⟩⟩, ⟨⟨q4.1, q5.1⟩, q6.1⟩⟩, q6.2⟩
theorem dX12_nameHere_107 : decode cX12_nameHere 107 = .ok (.ifCond .eq 5, 3) := fp_hdX12_nameHere_107.1.1.1.1
theorem dX12_nameHere_110 : decode cX12_nameHere 110 = .ok (.iload_n 1, 1) := fp_hdX12_nameHere_107.1.1.1.2
theorem dX12_nameHere_111 : decode cX12_nameHere 111 = .ok (.ireturn, 1) := fp_hdX12_nameHere_107.1.1.2.1
theorem dX12_nameHere_112 : decode cX12_nameHere 112 = .ok (.iinc 1 1, 3) := fp_hdX12_nameHere_107.1.1.2.2
theorem dX12_nameHere_115 : decode cX12_nameHere 115 = .ok (.goto (-113), 3) := fp_hdX12_nameHere_107.1.2.1.1
theorem dX12_nameHere_118 : decode cX12_nameHere 118 = .ok (.bipush (-4), 2) := fp_hdX12_nameHere_107.1.2.1.2
theorem dX12_nameHere_120 : decode cX12_nameHere 120 = .ok (.ireturn, 1) := fp_hdX12_nameHere_107.1.2.2
def fp_scX12_step_4 : List Nat := 96 :: 181 :: 0 :: 110 :: 27 :: 16 :: 59 :: 159 :: 0 :: 8 :: 42 :: 4 :: 182 :: 0 :: 128 :: 177 :: []
def fp_scX12_step_3 : List Nat := 167 :: 0 :: 7 :: 42 :: 180 :: 0 :: 117 :: 181 :: 0 :: 117 :: 42 :: 89 :: 180 :: 0 :: 110 :: 4 :: 96 :: 181 :: 0 :: 110 :: 167 :: 255 :: 182 :: 42 :: 5 :: 181 :: 0 :: 107 :: 42 :: 180 :: 0 :: 110 :: 42 :: 180 :: 0 :: 101 :: 100 :: 5 :: 164 :: 0 :: 37 :: 42 :: 4 :: 182 :: 0 :: 128 :: 167 :: 0 :: 29 :: 42 :: 6 :: 181 :: 0 :: 107 :: 42 :: 89 :: 180 :: 0 :: 110 :: 4 :: fp_scX12_step_4
def fp_scX12_step_2 : List Nat := 20 :: 0 :: 124 :: 20 :: 0 :: 126 :: 184 :: 0 :: 94 :: 153 :: 0 :: 106 :: 42 :: 42 :: 180 :: 0 :: 110 :: 182 :: 0 :: 113 :: 133 :: 20 :: 0 :: 124 :: 20 :: 0 :: 126 :: 184 :: 0 :: 94 :: 153 :: 0 :: 59 :: 42 :: 42 :: 180 :: 0 :: 110 :: 42 :: 180 :: 0 :: 101 :: 100 :: 5 :: 162 :: 0 :: 25 :: 16 :: 10 :: 42 :: 180 :: 0 :: 117 :: 104 :: 42 :: 42 :: 180 :: 0 :: 110 :: 182 :: 0 :: 113 :: 96 :: 16 :: 48 :: 100 :: fp_scX12_step_3
def fp_scX12_step_1 : List Nat := 42 :: 3 :: 181 :: 0 :: 107 :: 167 :: 0 :: 202 :: 27 :: 133 :: 20 :: 0 :: 120 :: 20 :: 0 :: 122 :: 184 :: 0 :: 94 :: 153 :: 0 :: 45 :: 42 :: 42 :: 180 :: 0 :: 110 :: 182 :: 0 :: 113 :: 133 :: 20 :: 0 :: 120 :: 20 :: 0 :: 122 :: 184 :: 0 :: 94 :: 153 :: 0 :: 16 :: 42 :: 89 :: 180 :: 0 :: 110 :: 4 :: 96 :: 181 :: 0 :: 110 :: 167 :: 255 :: 225 :: 42 :: 4 :: 181 :: 0 :: 107 :: 167 :: 0 :: 146 :: 27 :: 133 :: fp_scX12_step_2
def fp_scX12_step_0 : List Nat := 42 :: 180 :: 0 :: 98 :: 158 :: 0 :: 4 :: 177 :: 42 :: 42 :: 180 :: 0 :: 110 :: 182 :: 0 :: 113 :: 16 :: 32 :: 160 :: 0 :: 16 :: 42 :: 89 :: 180 :: 0 :: 110 :: 4 :: 96 :: 181 :: 0 :: 110 :: 167 :: 255 :: 233 :: 42 :: 42 :: 180 :: 0 :: 110 :: 181 :: 0 :: 101 :: 42 :: 42 :: 180 :: 0 :: 110 :: 182 :: 0 :: 113 :: 60 :: 42 :: 3 :: 181 :: 0 :: 117 :: 27 :: 16 :: 252 :: 160 :: 0 :: 11 :: fp_scX12_step_1
theorem fp_bcX12_step : bA cX12_step 0 fp_scX12_step_0 := show cX12_step.data.toList.map UInt8.toNat = fp_scX12_step_0 from by decide +kernel
theorem fp_hdX12_step_0 : (((((decode cX12_step 0 = .ok (.aload_n 0, 1) ∧ decode cX12_step 1 = .ok (.getfield 98, 3)) ∧ (decode cX12_step 4 = .ok (.ifCond .le 4, 3) ∧ decode cX12_step 7 = .ok (.return_, 1))) ∧ ((decode cX12_step 8 = .ok (.aload_n 0, 1) ∧ decode cX12_step 9 = .ok (.aload_n 0, 1)) ∧ (decode cX12_step 10 = .ok (.getfield 110, 3) ∧ decode cX12_step 13 = .ok (.invokevirtual 113, 3)))) ∧ (((decode cX12_step 16 = .ok (.bipush 32, 2) ∧ decode cX12_step 18 = .ok (.if_icmp .ne 16, 3)) ∧ (decode cX12_step 21 = .ok (.aload_n 0, 1) ∧ decode cX12_step 22 = .ok (.dup, 1))) ∧ ((decode cX12_step 23 = .ok (.getfield 110, 3) ∧ decode cX12_step 26 = .ok (.iconst 1, 1)) ∧ (decode cX12_step 27 = .ok (.iadd, 1) ∧ decode cX12_step 28 = .ok (.putfield 110, 3))))) ∧ ((((decode cX12_step 31 = .ok (.goto (-23), 3) ∧ decode cX12_step 34 = .ok (.aload_n 0, 1)) ∧ (decode cX12_step 35 = .ok (.aload_n 0, 1) ∧ decode cX12_step 36 = .ok (.getfield 110, 3))) ∧ ((decode cX12_step 39 = .ok (.putfield 101, 3) ∧ decode cX12_step 42 = .ok (.aload_n 0, 1)) ∧ (decode cX12_step 43 = .ok (.aload_n 0, 1) ∧ decode cX12_step 44 = .ok (.getfield 110, 3)))) ∧ (((decode cX12_step 47 = .ok (.invokevirtual 113, 3) ∧ decode cX12_step 50 = .ok (.istore_n 1, 1)) ∧ (decode cX12_step 51 = .ok (.aload_n 0, 1) ∧ decode cX12_step 52 = .ok (.iconst 0, 1))) ∧ ((decode cX12_step 53 = .ok (.putfield 117, 3) ∧ decode cX12_step 56 = .ok (.iload_n 1, 1)) ∧ (decode cX12_step 57 = .ok (.bipush (-4), 2) ∧ decode cX12_step 59 = .ok (.if_icmp .ne 11, 3)))))) ∧ bA cX12_step 62 fp_scX12_step_1 :=
  have q0 := fp_o42 fp_bcX12_step
  have q1 := fp_o180 (v := 98) q0.2 rfl
  have q2 := fp_o158 (v := 4) q1.2 rfl
  have q3 := fp_o177 q2.2
  have q4 := fp_o42 q3.2
  have q5 := fp_o42 q4.2
  have q6 := fp_o180 (v := 110) q5.2 rfl
  have q7 := fp_o182 (v := 113) q6.2 rfl
  have q8 := fp_o16 (v := 32) q7.2 rfl
  have q9 := fp_o160 (v := 16) q8.2 rfl
  have q10 := fp_o42 q9.2
  have q11 := fp_o89 q10.2
  have q12 := fp_o180 (v := 110) q11.2 rfl
  have q13 := fp_o4 q12.2
  have q14 := fp_o96 q13.2
  have q15 := fp_o181 (v := 110) q14.2 rfl
  have q16 := fp_o167 (v := (-23)) q15.2 rfl
  have q17 := fp_o42 q16.2
  have q18 := fp_o42 q17.2
  have q19 := fp_o180 (v := 110) q18.2 rfl
  have q20 := fp_o181 (v := 101) q19.2 rfl
  have q21 := fp_o42 q20.2
  have q22 := fp_o42 q21.2
  have q23 := fp_o180 (v := 110) q22.2 rfl
  have q24 := fp_o182 (v := 113) q23.2 rfl
  have q25 := fp_o60 q24.2
  have q26 := fp_o42 q25.2
  have q27 := fp_o3 q26.2
  have q28 := fp_o181 (v := 117) q27.2 rfl
  have q29 := fp_o27 q28.2
  have q30 := fp_o16 (v := (-4)) q29.2 rfl
  have q31 := fp_o160 (v := 11) q30.2 rfl
  ⟨⟨⟨⟨⟨⟨q0.1, q1.1⟩, ⟨q2.1, q3.1⟩⟩, ⟨⟨q4.1, q5.1⟩, ⟨q6.1, q7.1⟩⟩⟩, ⟨⟨⟨q8.1, q9.1⟩, ⟨q10.1, q11.1⟩⟩, ⟨⟨q12.1, q13.1⟩, ⟨q14.1, q15.1⟩⟩⟩⟩, ⟨⟨⟨⟨q16.1, q17.1⟩, ⟨q18.1, q19.1⟩⟩, ⟨⟨q20.1, q21.1⟩, ⟨q22.1, q23.1⟩⟩⟩, ⟨⟨⟨q24.1, q25.1⟩, ⟨q26.1, q27.1⟩⟩, ⟨⟨q28.1, q29.1⟩, ⟨q30.1, q31.1⟩⟩⟩⟩⟩, q31.2⟩
theorem dX12_step_0 : decode cX12_step 0 = .ok (.aload_n 0, 1) := fp_hdX12_step_0.1.1.1.1.1.1
theorem dX12_step_1 : decode cX12_step 1 = .ok (.getfield 98, 3) := fp_hdX12_step_0.1.1.1.1.1.2
theorem dX12_step_4 : decode cX12_step 4 = .ok (.ifCond .le 4, 3) := fp_hdX12_step_0.1.1.1.1.2.1
theorem dX12_step_7 : decode cX12_step 7 = .ok (.return_, 1) := fp_hdX12_step_0.1.1.1.1.2.2
theorem dX12_step_8 : decode cX12_step 8 = .ok (.aload_n 0, 1) := fp_hdX12_step_0.1.1.1.2.1.1
theorem dX12_step_9 : decode cX12_step 9 = .ok (.aload_n 0, 1) := fp_hdX12_step_0.1.1.1.2.1.2
theorem dX12_step_10 : decode cX12_step 10 = .ok (.getfield 110, 3) := fp_hdX12_step_0.1.1.1.2.2.1
theorem dX12_step_13 : decode cX12_step 13 = .ok (.invokevirtual 113, 3) := fp_hdX12_step_0.1.1.1.2.2.2
theorem dX12_step_16 : decode cX12_step 16 = .ok (.bipush 32, 2) := fp_hdX12_step_0.1.1.2.1.1.1
theorem dX12_step_18 : decode cX12_step 18 = .ok (.if_icmp .ne 16, 3) := fp_hdX12_step_0.1.1.2.1.1.2
theorem dX12_step_21 : decode cX12_step 21 = .ok (.aload_n 0, 1) := fp_hdX12_step_0.1.1.2.1.2.1
theorem dX12_step_22 : decode cX12_step 22 = .ok (.dup, 1) := fp_hdX12_step_0.1.1.2.1.2.2
theorem dX12_step_23 : decode cX12_step 23 = .ok (.getfield 110, 3) := fp_hdX12_step_0.1.1.2.2.1.1
theorem dX12_step_26 : decode cX12_step 26 = .ok (.iconst 1, 1) := fp_hdX12_step_0.1.1.2.2.1.2
theorem dX12_step_27 : decode cX12_step 27 = .ok (.iadd, 1) := fp_hdX12_step_0.1.1.2.2.2.1
theorem dX12_step_28 : decode cX12_step 28 = .ok (.putfield 110, 3) := fp_hdX12_step_0.1.1.2.2.2.2
theorem dX12_step_31 : decode cX12_step 31 = .ok (.goto (-23), 3) := fp_hdX12_step_0.1.2.1.1.1.1
theorem dX12_step_34 : decode cX12_step 34 = .ok (.aload_n 0, 1) := fp_hdX12_step_0.1.2.1.1.1.2
theorem dX12_step_35 : decode cX12_step 35 = .ok (.aload_n 0, 1) := fp_hdX12_step_0.1.2.1.1.2.1
theorem dX12_step_36 : decode cX12_step 36 = .ok (.getfield 110, 3) := fp_hdX12_step_0.1.2.1.1.2.2
theorem dX12_step_39 : decode cX12_step 39 = .ok (.putfield 101, 3) := fp_hdX12_step_0.1.2.1.2.1.1
theorem dX12_step_42 : decode cX12_step 42 = .ok (.aload_n 0, 1) := fp_hdX12_step_0.1.2.1.2.1.2
theorem dX12_step_43 : decode cX12_step 43 = .ok (.aload_n 0, 1) := fp_hdX12_step_0.1.2.1.2.2.1
theorem dX12_step_44 : decode cX12_step 44 = .ok (.getfield 110, 3) := fp_hdX12_step_0.1.2.1.2.2.2
theorem dX12_step_47 : decode cX12_step 47 = .ok (.invokevirtual 113, 3) := fp_hdX12_step_0.1.2.2.1.1.1
theorem dX12_step_50 : decode cX12_step 50 = .ok (.istore_n 1, 1) := fp_hdX12_step_0.1.2.2.1.1.2
theorem dX12_step_51 : decode cX12_step 51 = .ok (.aload_n 0, 1) := fp_hdX12_step_0.1.2.2.1.2.1
theorem dX12_step_52 : decode cX12_step 52 = .ok (.iconst 0, 1) := fp_hdX12_step_0.1.2.2.1.2.2
theorem dX12_step_53 : decode cX12_step 53 = .ok (.putfield 117, 3) := fp_hdX12_step_0.1.2.2.2.1.1
theorem dX12_step_56 : decode cX12_step 56 = .ok (.iload_n 1, 1) := fp_hdX12_step_0.1.2.2.2.1.2
theorem dX12_step_57 : decode cX12_step 57 = .ok (.bipush (-4), 2) := fp_hdX12_step_0.1.2.2.2.2.1
theorem dX12_step_59 : decode cX12_step 59 = .ok (.if_icmp .ne 11, 3) := fp_hdX12_step_0.1.2.2.2.2.2
theorem fp_hdX12_step_62 : (((((decode cX12_step 62 = .ok (.aload_n 0, 1) ∧ decode cX12_step 63 = .ok (.iconst 0, 1)) ∧ (decode cX12_step 64 = .ok (.putfield 107, 3) ∧ decode cX12_step 67 = .ok (.goto 202, 3))) ∧ ((decode cX12_step 70 = .ok (.iload_n 1, 1) ∧ decode cX12_step 71 = .ok (.i2l, 1)) ∧ (decode cX12_step 72 = .ok (.ldc2_w 120, 3) ∧ decode cX12_step 75 = .ok (.ldc2_w 122, 3)))) ∧ (((decode cX12_step 78 = .ok (.invokestatic 94, 3) ∧ decode cX12_step 81 = .ok (.ifCond .eq 45, 3)) ∧ (decode cX12_step 84 = .ok (.aload_n 0, 1) ∧ decode cX12_step 85 = .ok (.aload_n 0, 1))) ∧ ((decode cX12_step 86 = .ok (.getfield 110, 3) ∧ decode cX12_step 89 = .ok (.invokevirtual 113, 3)) ∧ (decode cX12_step 92 = .ok (.i2l, 1) ∧ decode cX12_step 93 = .ok (.ldc2_w 120, 3))))) ∧ ((((decode cX12_step 96 = .ok (.ldc2_w 122, 3) ∧ decode cX12_step 99 = .ok (.invokestatic 94, 3)) ∧ (decode cX12_step 102 = .ok (.ifCond .eq 16, 3) ∧ decode cX12_step 105 = .ok (.aload_n 0, 1))) ∧ ((decode cX12_step 106 = .ok (.dup, 1) ∧ decode cX12_step 107 = .ok (.getfield 110, 3)) ∧ (decode cX12_step 110 = .ok (.iconst 1, 1) ∧ decode cX12_step 111 = .ok (.iadd, 1)))) ∧ (((decode cX12_step 112 = .ok (.putfield 110, 3) ∧ decode cX12_step 115 = .ok (.goto (-31), 3)) ∧ (decode cX12_step 118 = .ok (.aload_n 0, 1) ∧ decode cX12_step 119 = .ok (.iconst 1, 1))) ∧ ((decode cX12_step 120 = .ok (.putfield 107, 3) ∧ decode cX12_step 123 = .ok (.goto 146, 3)) ∧ (decode cX12_step 126 = .ok (.iload_n 1, 1) ∧ decode cX12_step 127 = .ok (.i2l, 1)))))) ∧ bA cX12_step 128 fp_scX12_step_2 :=
  have q0 := fp_o42 fp_hdX12_step_0.2
  have q1 := fp_o3 q0.2
  have q2 := fp_o181 (v := 107) q1.2 rfl
  have q3 := fp_o167 (v := 202) q2.2 rfl
  have q4 := fp_o27 q3.2
  have q5 := fp_o133 q4.2
  have q6 := fp_o20 (v := 120) q5.2 rfl
  have q7 := fp_o20 (v := 122) q6.2 rfl
  have q8 := fp_o184 (v := 94) q7.2 rfl
  have q9 := fp_o153 (v := 45) q8.2 rfl
  have q10 := fp_o42 q9.2
  have q11 := fp_o42 q10.2
  have q12 := fp_o180 (v := 110) q11.2 rfl
  have q13 := fp_o182 (v := 113) q12.2 rfl
  have q14 := fp_o133 q13.2
  have q15 := fp_o20 (v := 120) q14.2 rfl
  have q16 := fp_o20 (v := 122) q15.2 rfl
  have q17 := fp_o184 (v := 94) q16.2 rfl
  have q18 := fp_o153 (v := 16) q17.2 rfl
  have q19 := fp_o42 q18.2
  have q20 := fp_o89 q19.2
  have q21 := fp_o180 (v := 110) q20.2 rfl
  have q22 := fp_o4 q21.2
  have q23 := fp_o96 q22.2
  have q24 := fp_o181 (v := 110) q23.2 rfl
  have q25 := fp_o167 (v := (-31)) q24.2 rfl
  have q26 := fp_o42 q25.2
  have q27 := fp_o4 q26.2
  have q28 := fp_o181 (v := 107) q27.2 rfl
  have q29 := fp_o167 (v := 146) q28.2 rfl
  have q30 := fp_o27 q29.2
  have q31 := fp_o133 q30.2
  ⟨⟨⟨⟨⟨⟨q0.1, q1.1⟩, ⟨q2.1, q3.1⟩⟩, ⟨⟨q4.1, q5.1⟩, ⟨q6.1, q7.1⟩⟩⟩, ⟨⟨⟨q8.1, q9.1⟩, ⟨q10.1, q11.1⟩⟩, ⟨⟨q12.1, q13.1⟩, ⟨q14.1, q15.1⟩⟩⟩⟩, ⟨⟨⟨⟨q16.1, q17.1⟩, ⟨q18.1, q19.1⟩⟩, ⟨⟨q20.1, q21.1⟩, ⟨q22.1, q23.1⟩⟩⟩, ⟨⟨⟨q24.1, q25.1⟩, ⟨q26.1, q27.1⟩⟩, ⟨⟨q28.1, q29.1⟩, ⟨q30.1, q31.1⟩⟩⟩⟩⟩, q31.2⟩
theorem dX12_step_62 : decode cX12_step 62 = .ok (.aload_n 0, 1) := fp_hdX12_step_62.1.1.1.1.1.1
theorem dX12_step_63 : decode cX12_step 63 = .ok (.iconst 0, 1) := fp_hdX12_step_62.1.1.1.1.1.2
theorem dX12_step_64 : decode cX12_step 64 = .ok (.putfield 107, 3) := fp_hdX12_step_62.1.1.1.1.2.1
theorem dX12_step_67 : decode cX12_step 67 = .ok (.goto 202, 3) := fp_hdX12_step_62.1.1.1.1.2.2
theorem dX12_step_70 : decode cX12_step 70 = .ok (.iload_n 1, 1) := fp_hdX12_step_62.1.1.1.2.1.1
theorem dX12_step_71 : decode cX12_step 71 = .ok (.i2l, 1) := fp_hdX12_step_62.1.1.1.2.1.2
theorem dX12_step_72 : decode cX12_step 72 = .ok (.ldc2_w 120, 3) := fp_hdX12_step_62.1.1.1.2.2.1
theorem dX12_step_75 : decode cX12_step 75 = .ok (.ldc2_w 122, 3) := fp_hdX12_step_62.1.1.1.2.2.2
theorem dX12_step_78 : decode cX12_step 78 = .ok (.invokestatic 94, 3) := fp_hdX12_step_62.1.1.2.1.1.1
theorem dX12_step_81 : decode cX12_step 81 = .ok (.ifCond .eq 45, 3) := fp_hdX12_step_62.1.1.2.1.1.2
theorem dX12_step_84 : decode cX12_step 84 = .ok (.aload_n 0, 1) := fp_hdX12_step_62.1.1.2.1.2.1
theorem dX12_step_85 : decode cX12_step 85 = .ok (.aload_n 0, 1) := fp_hdX12_step_62.1.1.2.1.2.2
theorem dX12_step_86 : decode cX12_step 86 = .ok (.getfield 110, 3) := fp_hdX12_step_62.1.1.2.2.1.1
theorem dX12_step_89 : decode cX12_step 89 = .ok (.invokevirtual 113, 3) := fp_hdX12_step_62.1.1.2.2.1.2
theorem dX12_step_92 : decode cX12_step 92 = .ok (.i2l, 1) := fp_hdX12_step_62.1.1.2.2.2.1
theorem dX12_step_93 : decode cX12_step 93 = .ok (.ldc2_w 120, 3) := fp_hdX12_step_62.1.1.2.2.2.2
theorem dX12_step_96 : decode cX12_step 96 = .ok (.ldc2_w 122, 3) := fp_hdX12_step_62.1.2.1.1.1.1
theorem dX12_step_99 : decode cX12_step 99 = .ok (.invokestatic 94, 3) := fp_hdX12_step_62.1.2.1.1.1.2
theorem dX12_step_102 : decode cX12_step 102 = .ok (.ifCond .eq 16, 3) := fp_hdX12_step_62.1.2.1.1.2.1
theorem dX12_step_105 : decode cX12_step 105 = .ok (.aload_n 0, 1) := fp_hdX12_step_62.1.2.1.1.2.2
theorem dX12_step_106 : decode cX12_step 106 = .ok (.dup, 1) := fp_hdX12_step_62.1.2.1.2.1.1
theorem dX12_step_107 : decode cX12_step 107 = .ok (.getfield 110, 3) := fp_hdX12_step_62.1.2.1.2.1.2
theorem dX12_step_110 : decode cX12_step 110 = .ok (.iconst 1, 1) := fp_hdX12_step_62.1.2.1.2.2.1
theorem dX12_step_111 : decode cX12_step 111 = .ok (.iadd, 1) := fp_hdX12_step_62.1.2.1.2.2.2
theorem dX12_step_112 : decode cX12_step 112 = .ok (.putfield 110, 3) := fp_hdX12_step_62.1.2.2.1.1.1
theorem dX12_step_115 : decode cX12_step 115 = .ok (.goto (-31), 3) := fp_hdX12_step_62.1.2.2.1.1.2
theorem dX12_step_118 : decode cX12_step 118 = .ok (.aload_n 0, 1) := fp_hdX12_step_62.1.2.2.1.2.1
theorem dX12_step_119 : decode cX12_step 119 = .ok (.iconst 1, 1) := fp_hdX12_step_62.1.2.2.1.2.2
theorem dX12_step_120 : decode cX12_step 120 = .ok (.putfield 107, 3) := fp_hdX12_step_62.1.2.2.2.1.1
theorem dX12_step_123 : decode cX12_step 123 = .ok (.goto 146, 3) := fp_hdX12_step_62.1.2.2.2.1.2
theorem dX12_step_126 : decode cX12_step 126 = .ok (.iload_n 1, 1) := fp_hdX12_step_62.1.2.2.2.2.1
theorem dX12_step_127 : decode cX12_step 127 = .ok (.i2l, 1) := fp_hdX12_step_62.1.2.2.2.2.2
theorem fp_hdX12_step_128 : (((((decode cX12_step 128 = .ok (.ldc2_w 124, 3) ∧ decode cX12_step 131 = .ok (.ldc2_w 126, 3)) ∧ (decode cX12_step 134 = .ok (.invokestatic 94, 3) ∧ decode cX12_step 137 = .ok (.ifCond .eq 106, 3))) ∧ ((decode cX12_step 140 = .ok (.aload_n 0, 1) ∧ decode cX12_step 141 = .ok (.aload_n 0, 1)) ∧ (decode cX12_step 142 = .ok (.getfield 110, 3) ∧ decode cX12_step 145 = .ok (.invokevirtual 113, 3)))) ∧ (((decode cX12_step 148 = .ok (.i2l, 1) ∧ decode cX12_step 149 = .ok (.ldc2_w 124, 3)) ∧ (decode cX12_step 152 = .ok (.ldc2_w 126, 3) ∧ decode cX12_step 155 = .ok (.invokestatic 94, 3))) ∧ ((decode cX12_step 158 = .ok (.ifCond .eq 59, 3) ∧ decode cX12_step 161 = .ok (.aload_n 0, 1)) ∧ (decode cX12_step 162 = .ok (.aload_n 0, 1) ∧ decode cX12_step 163 = .ok (.getfield 110, 3))))) ∧ ((((decode cX12_step 166 = .ok (.aload_n 0, 1) ∧ decode cX12_step 167 = .ok (.getfield 101, 3)) ∧ (decode cX12_step 170 = .ok (.isub, 1) ∧ decode cX12_step 171 = .ok (.iconst 2, 1))) ∧ ((decode cX12_step 172 = .ok (.if_icmp .ge 25, 3) ∧ decode cX12_step 175 = .ok (.bipush 10, 2)) ∧ (decode cX12_step 177 = .ok (.aload_n 0, 1) ∧ decode cX12_step 178 = .ok (.getfield 117, 3)))) ∧ (((decode cX12_step 181 = .ok (.imul, 1) ∧ decode cX12_step 182 = .ok (.aload_n 0, 1)) ∧ (decode cX12_step 183 = .ok (.aload_n 0, 1) ∧ decode cX12_step 184 = .ok (.getfield 110, 3))) ∧ ((decode cX12_step 187 = .ok (.invokevirtual 113, 3) ∧ decode cX12_step 190 = .ok (.iadd, 1)) ∧ (decode cX12_step 191 = .ok (.bipush 48, 2) ∧ decode cX12_step 193 = .ok (.isub, 1)))))) ∧ bA cX12_step 194 fp_scX12_step_3 :=
  have q0 := fp_o20 (v := 124) fp_hdX12_step_62.2 rfl
  have q1 := fp_o20 (v := 126) q0.2 rfl
  have q2 := fp_o184 (v := 94) q1.2 rfl
  have q3 := fp_o153 (v := 106) q2.2 rfl
  have q4 := fp_o42 q3.2
  have q5 := fp_o42 q4.2
  have q6 := fp_o180 (v := 110) q5.2 rfl
  have q7 := fp_o182 (v := 113) q6.2 rfl
  have q8 := fp_o133 q7.2
  have q9 := fp_o20 (v := 124) q8.2 rfl
  have q10 := fp_o20 (v := 126) q9.2 rfl
  have q11 := fp_o184 (v := 94) q10.2 rfl
  have q12 := fp_o153 (v := 59) q11.2 rfl
  have q13 := fp_o42 q12.2
  have q14 := fp_o42 q13.2
  have q15 := fp_o180 (v := 110) q14.2 rfl
  have q16 := fp_o42 q15.2
  have q17 := fp_o180 (v := 101) q16.2 rfl
  have q18 := fp_o100 q17.2
  have q19 := fp_o5 q18.2
  have q20 := fp_o162 (v := 25) q19.2 rfl
  have q21 := fp_o16 (v := 10) q20.2 rfl
  have q22 := fp_o42 q21.2
  have q23 := fp_o180 (v := 117) q22.2 rfl
  have q24 := fp_o104 q23.2
  have q25 := fp_o42 q24.2
  have q26 := fp_o42 q25.2
  have q27 := fp_o180 (v := 110) q26.2 rfl
  have q28 := fp_o182 (v := 113) q27.2 rfl
  have q29 := fp_o96 q28.2
  have q30 := fp_o16 (v := 48) q29.2 rfl
  have q31 := fp_o100 q30.2
  ⟨⟨⟨⟨⟨⟨q0.1, q1.1⟩, ⟨q2.1, q3.1⟩⟩, ⟨⟨q4.1, q5.1⟩, ⟨q6.1, q7.1⟩⟩⟩, ⟨⟨⟨q8.1, q9.1⟩, ⟨q10.1, q11.1⟩⟩, ⟨⟨q12.1, q13.1⟩, ⟨q14.1, q15.1⟩⟩⟩⟩, ⟨⟨⟨⟨q16.1, q17.1⟩, ⟨q18.1, q19.1⟩⟩, ⟨⟨q20.1, q21.1⟩, ⟨q22.1, q23.1⟩⟩⟩, ⟨⟨⟨q24.1, q25.1⟩, ⟨q26.1, q27.1⟩⟩, ⟨⟨q28.1, q29.1⟩, ⟨q30.1, q31.1⟩⟩⟩⟩⟩, q31.2⟩
theorem dX12_step_128 : decode cX12_step 128 = .ok (.ldc2_w 124, 3) := fp_hdX12_step_128.1.1.1.1.1.1
theorem dX12_step_131 : decode cX12_step 131 = .ok (.ldc2_w 126, 3) := fp_hdX12_step_128.1.1.1.1.1.2
theorem dX12_step_134 : decode cX12_step 134 = .ok (.invokestatic 94, 3) := fp_hdX12_step_128.1.1.1.1.2.1
theorem dX12_step_137 : decode cX12_step 137 = .ok (.ifCond .eq 106, 3) := fp_hdX12_step_128.1.1.1.1.2.2
theorem dX12_step_140 : decode cX12_step 140 = .ok (.aload_n 0, 1) := fp_hdX12_step_128.1.1.1.2.1.1
theorem dX12_step_141 : decode cX12_step 141 = .ok (.aload_n 0, 1) := fp_hdX12_step_128.1.1.1.2.1.2
theorem dX12_step_142 : decode cX12_step 142 = .ok (.getfield 110, 3) := fp_hdX12_step_128.1.1.1.2.2.1
theorem dX12_step_145 : decode cX12_step 145 = .ok (.invokevirtual 113, 3) := fp_hdX12_step_128.1.1.1.2.2.2
theorem dX12_step_148 : decode cX12_step 148 = .ok (.i2l, 1) := fp_hdX12_step_128.1.1.2.1.1.1
theorem dX12_step_149 : decode cX12_step 149 = .ok (.ldc2_w 124, 3) := fp_hdX12_step_128.1.1.2.1.1.2
theorem dX12_step_152 : decode cX12_step 152 = .ok (.ldc2_w 126, 3) := fp_hdX12_step_128.1.1.2.1.2.1
theorem dX12_step_155 : decode cX12_step 155 = .ok (.invokestatic 94, 3) := fp_hdX12_step_128.1.1.2.1.2.2
theorem dX12_step_158 : decode cX12_step 158 = .ok (.ifCond .eq 59, 3) := fp_hdX12_step_128.1.1.2.2.1.1
theorem dX12_step_161 : decode cX12_step 161 = .ok (.aload_n 0, 1) := fp_hdX12_step_128.1.1.2.2.1.2
theorem dX12_step_162 : decode cX12_step 162 = .ok (.aload_n 0, 1) := fp_hdX12_step_128.1.1.2.2.2.1
theorem dX12_step_163 : decode cX12_step 163 = .ok (.getfield 110, 3) := fp_hdX12_step_128.1.1.2.2.2.2
theorem dX12_step_166 : decode cX12_step 166 = .ok (.aload_n 0, 1) := fp_hdX12_step_128.1.2.1.1.1.1
theorem dX12_step_167 : decode cX12_step 167 = .ok (.getfield 101, 3) := fp_hdX12_step_128.1.2.1.1.1.2
theorem dX12_step_170 : decode cX12_step 170 = .ok (.isub, 1) := fp_hdX12_step_128.1.2.1.1.2.1
theorem dX12_step_171 : decode cX12_step 171 = .ok (.iconst 2, 1) := fp_hdX12_step_128.1.2.1.1.2.2
theorem dX12_step_172 : decode cX12_step 172 = .ok (.if_icmp .ge 25, 3) := fp_hdX12_step_128.1.2.1.2.1.1
theorem dX12_step_175 : decode cX12_step 175 = .ok (.bipush 10, 2) := fp_hdX12_step_128.1.2.1.2.1.2
theorem dX12_step_177 : decode cX12_step 177 = .ok (.aload_n 0, 1) := fp_hdX12_step_128.1.2.1.2.2.1
theorem dX12_step_178 : decode cX12_step 178 = .ok (.getfield 117, 3) := fp_hdX12_step_128.1.2.1.2.2.2
theorem dX12_step_181 : decode cX12_step 181 = .ok (.imul, 1) := fp_hdX12_step_128.1.2.2.1.1.1
theorem dX12_step_182 : decode cX12_step 182 = .ok (.aload_n 0, 1) := fp_hdX12_step_128.1.2.2.1.1.2
theorem dX12_step_183 : decode cX12_step 183 = .ok (.aload_n 0, 1) := fp_hdX12_step_128.1.2.2.1.2.1
theorem dX12_step_184 : decode cX12_step 184 = .ok (.getfield 110, 3) := fp_hdX12_step_128.1.2.2.1.2.2
theorem dX12_step_187 : decode cX12_step 187 = .ok (.invokevirtual 113, 3) := fp_hdX12_step_128.1.2.2.2.1.1
theorem dX12_step_190 : decode cX12_step 190 = .ok (.iadd, 1) := fp_hdX12_step_128.1.2.2.2.1.2
theorem dX12_step_191 : decode cX12_step 191 = .ok (.bipush 48, 2) := fp_hdX12_step_128.1.2.2.2.2.1
theorem dX12_step_193 : decode cX12_step 193 = .ok (.isub, 1) := fp_hdX12_step_128.1.2.2.2.2.2
theorem fp_hdX12_step_194 : (((((decode cX12_step 194 = .ok (.goto 7, 3) ∧ decode cX12_step 197 = .ok (.aload_n 0, 1)) ∧ (decode cX12_step 198 = .ok (.getfield 117, 3) ∧ decode cX12_step 201 = .ok (.putfield 117, 3))) ∧ ((decode cX12_step 204 = .ok (.aload_n 0, 1) ∧ decode cX12_step 205 = .ok (.dup, 1)) ∧ (decode cX12_step 206 = .ok (.getfield 110, 3) ∧ decode cX12_step 209 = .ok (.iconst 1, 1)))) ∧ (((decode cX12_step 210 = .ok (.iadd, 1) ∧ decode cX12_step 211 = .ok (.putfield 110, 3)) ∧ (decode cX12_step 214 = .ok (.goto (-74), 3) ∧ decode cX12_step 217 = .ok (.aload_n 0, 1))) ∧ ((decode cX12_step 218 = .ok (.iconst 2, 1) ∧ decode cX12_step 219 = .ok (.putfield 107, 3)) ∧ (decode cX12_step 222 = .ok (.aload_n 0, 1) ∧ decode cX12_step 223 = .ok (.getfield 110, 3))))) ∧ ((((decode cX12_step 226 = .ok (.aload_n 0, 1) ∧ decode cX12_step 227 = .ok (.getfield 101, 3)) ∧ (decode cX12_step 230 = .ok (.isub, 1) ∧ decode cX12_step 231 = .ok (.iconst 2, 1))) ∧ ((decode cX12_step 232 = .ok (.if_icmp .le 37, 3) ∧ decode cX12_step 235 = .ok (.aload_n 0, 1)) ∧ (decode cX12_step 236 = .ok (.iconst 1, 1) ∧ decode cX12_step 237 = .ok (.invokevirtual 128, 3)))) ∧ (((decode cX12_step 240 = .ok (.goto 29, 3) ∧ decode cX12_step 243 = .ok (.aload_n 0, 1)) ∧ (decode cX12_step 244 = .ok (.iconst 3, 1) ∧ decode cX12_step 245 = .ok (.putfield 107, 3))) ∧ ((decode cX12_step 248 = .ok (.aload_n 0, 1) ∧ decode cX12_step 249 = .ok (.dup, 1)) ∧ (decode cX12_step 250 = .ok (.getfield 110, 3) ∧ decode cX12_step 253 = .ok (.iconst 1, 1)))))) ∧ bA cX12_step 254 fp_scX12_step_4 :=
  have q0 := fp_o167 (v := 7) fp_hdX12_step_128.2 rfl
  have q1 := fp_o42 q0.2
  have q2 := fp_o180 (v := 117) q1.2 rfl
  have q3 := fp_o181 (v := 117) q2.2 rfl
  have q4 := fp_o42 q3.2
  have q5 := fp_o89 q4.2
  have q6 := fp_o180 (v := 110) q5.2 rfl
  have q7 := fp_o4 q6.2
  have q8 := fp_o96 q7.2
  have q9 := fp_o181 (v := 110) q8.2 rfl
  have q10 := fp_o167 (v := (-74)) q9.2 rfl
  have q11 := fp_o42 q10.2
  have q12 := fp_o5 q11.2
  have q13 := fp_o181 (v := 107) q12.2 rfl
  have q14 := fp_o42 q13.2
  have q15 := fp_o180 (v := 110) q14.2 rfl
  have q16 := fp_o42 q15.2
  have q17 := fp_o180 (v := 101) q16.2 rfl
  have q18 := fp_o100 q17.2
  have q19 := fp_o5 q18.2
  have q20 := fp_o164 (v := 37) q19.2 rfl
  have q21 := fp_o42 q20.2
  have q22 := fp_o4 q21.2
  have q23 := fp_o182 (v := 128) q22.2 rfl
  have q24 := fp_o167 (v := 29) q23.2 rfl
  have q25 := fp_o42 q24.2
  have q26 := fp_o6 q25.2
  have q27 := fp_o181 (v := 107) q26.2 rfl
  have q28 := fp_o42 q27.2
  have q29 := fp_o89 q28.2
  have q30 := fp_o180 (v := 110) q29.2 rfl
  have q31 := fp_o4 q30.2
  ⟨⟨⟨⟨⟨⟨q0.1, q1.1⟩, ⟨q2.1, q3.1⟩⟩, ⟨⟨q4.1, q5.1⟩, ⟨q6.1, q7.1⟩⟩⟩, ⟨⟨⟨q8.1, q9.1⟩, ⟨q10.1, q11.1⟩⟩, ⟨⟨q12.1, q13.1⟩, ⟨q14.1, q15.1⟩⟩⟩⟩, ⟨⟨⟨⟨q16.1, q17.1⟩, ⟨q18.1, q19.1⟩⟩, ⟨⟨q20.1, q21.1⟩, ⟨q22.1, q23.1⟩⟩⟩, ⟨⟨⟨q24.1, q25.1⟩, ⟨q26.1, q27.1⟩⟩, ⟨⟨q28.1, q29.1⟩, ⟨q30.1, q31.1⟩⟩⟩⟩⟩, q31.2⟩
theorem dX12_step_194 : decode cX12_step 194 = .ok (.goto 7, 3) := fp_hdX12_step_194.1.1.1.1.1.1
theorem dX12_step_197 : decode cX12_step 197 = .ok (.aload_n 0, 1) := fp_hdX12_step_194.1.1.1.1.1.2
theorem dX12_step_198 : decode cX12_step 198 = .ok (.getfield 117, 3) := fp_hdX12_step_194.1.1.1.1.2.1
theorem dX12_step_201 : decode cX12_step 201 = .ok (.putfield 117, 3) := fp_hdX12_step_194.1.1.1.1.2.2
theorem dX12_step_204 : decode cX12_step 204 = .ok (.aload_n 0, 1) := fp_hdX12_step_194.1.1.1.2.1.1
theorem dX12_step_205 : decode cX12_step 205 = .ok (.dup, 1) := fp_hdX12_step_194.1.1.1.2.1.2
theorem dX12_step_206 : decode cX12_step 206 = .ok (.getfield 110, 3) := fp_hdX12_step_194.1.1.1.2.2.1
theorem dX12_step_209 : decode cX12_step 209 = .ok (.iconst 1, 1) := fp_hdX12_step_194.1.1.1.2.2.2
theorem dX12_step_210 : decode cX12_step 210 = .ok (.iadd, 1) := fp_hdX12_step_194.1.1.2.1.1.1
theorem dX12_step_211 : decode cX12_step 211 = .ok (.putfield 110, 3) := fp_hdX12_step_194.1.1.2.1.1.2
theorem dX12_step_214 : decode cX12_step 214 = .ok (.goto (-74), 3) := fp_hdX12_step_194.1.1.2.1.2.1
theorem dX12_step_217 : decode cX12_step 217 = .ok (.aload_n 0, 1) := fp_hdX12_step_194.1.1.2.1.2.2
theorem dX12_step_218 : decode cX12_step 218 = .ok (.iconst 2, 1) := fp_hdX12_step_194.1.1.2.2.1.1
theorem dX12_step_219 : decode cX12_step 219 = .ok (.putfield 107, 3) := fp_hdX12_step_194.1.1.2.2.1.2
theorem dX12_step_222 : decode cX12_step 222 = .ok (.aload_n 0, 1) := fp_hdX12_step_194.1.1.2.2.2.1
theorem dX12_step_223 : decode cX12_step 223 = .ok (.getfield 110, 3) := fp_hdX12_step_194.1.1.2.2.2.2
theorem dX12_step_226 : decode cX12_step 226 = .ok (.aload_n 0, 1) := fp_hdX12_step_194.1.2.1.1.1.1
theorem dX12_step_227 : decode cX12_step 227 = .ok (.getfield 101, 3) := fp_hdX12_step_194.1.2.1.1.1.2
theorem dX12_step_230 : decode cX12_step 230 = .ok (.isub, 1) := fp_hdX12_step_194.1.2.1.1.2.1
theorem dX12_step_231 : decode cX12_step 231 = .ok (.iconst 2, 1) := fp_hdX12_step_194.1.2.1.1.2.2
theorem dX12_step_232 : decode cX12_step 232 = .ok (.if_icmp .le 37, 3) := fp_hdX12_step_194.1.2.1.2.1.1
theorem dX12_step_235 : decode cX12_step 235 = .ok (.aload_n 0, 1) := fp_hdX12_step_194.1.2.1.2.1.2
theorem dX12_step_236 : decode cX12_step 236 = .ok (.iconst 1, 1) := fp_hdX12_step_194.1.2.1.2.2.1
theorem dX12_step_237 : decode cX12_step 237 = .ok (.invokevirtual 128, 3) := fp_hdX12_step_194.1.2.1.2.2.2
theorem dX12_step_240 : decode cX12_step 240 = .ok (.goto 29, 3) := fp_hdX12_step_194.1.2.2.1.1.1
theorem dX12_step_243 : decode cX12_step 243 = .ok (.aload_n 0, 1) := fp_hdX12_step_194.1.2.2.1.1.2
theorem dX12_step_244 : decode cX12_step 244 = .ok (.iconst 3, 1) := fp_hdX12_step_194.1.2.2.1.2.1
theorem dX12_step_245 : decode cX12_step 245 = .ok (.putfield 107, 3) := fp_hdX12_step_194.1.2.2.1.2.2
theorem dX12_step_248 : decode cX12_step 248 = .ok (.aload_n 0, 1) := fp_hdX12_step_194.1.2.2.2.1.1
theorem dX12_step_249 : decode cX12_step 249 = .ok (.dup, 1) := fp_hdX12_step_194.1.2.2.2.1.2
theorem dX12_step_250 : decode cX12_step 250 = .ok (.getfield 110, 3) := fp_hdX12_step_194.1.2.2.2.2.1
theorem dX12_step_253 : decode cX12_step 253 = .ok (.iconst 1, 1) := fp_hdX12_step_194.1.2.2.2.2.2
theorem fp_hdX12_step_254 : ((((decode cX12_step 254 = .ok (.iadd, 1) ∧ decode cX12_step 255 = .ok (.putfield 110, 3)) ∧ decode cX12_step 258 = .ok (.iload_n 1, 1)) ∧ (decode cX12_step 259 = .ok (.bipush 59, 2) ∧ decode cX12_step 261 = .ok (.if_icmp .eq 8, 3))) ∧ ((decode cX12_step 264 = .ok (.aload_n 0, 1) ∧ decode cX12_step 265 = .ok (.iconst 1, 1)) ∧ (decode cX12_step 266 = .ok (.invokevirtual 128, 3) ∧ decode cX12_step 269 = .ok (.return_, 1)))) ∧ bA cX12_step 270 [] :=
  have q0 := fp_o96 fp_hdX12_step_194.2
  have q1 := fp_o181 (v := 110) q0.2 rfl
  have q2 := fp_o27 q1.2
  have q3 := fp_o16 (v := 59) q2.2 rfl
  have q4 := fp_o159 (v := 8) q3.2 rfl
  have q5 := fp_o42 q4.2
  have q6 := fp_o4 q5.2
  have q7 := fp_o182 (v := 128) q6.2 rfl
  have q8 := fp_o177 q7.2
  ⟨⟨⟨⟨⟨q0.1, q1.1⟩, q2.1⟩, ⟨q3.1, q4.1⟩⟩, ⟨⟨q5.1, q6.1⟩, ⟨q7.1, q8.1⟩⟩⟩, q8.2⟩
theorem dX12_step_254 : decode cX12_step 254 = .ok (.iadd, 1) := fp_hdX12_step_254.1.1.1.1.1
theorem dX12_step_255 : decode cX12_step 255 = .ok (.putfield 110, 3) := fp_hdX12_step_254.1.1.1.1.2
theorem dX12_step_258 : decode cX12_step 258 = .ok (.iload_n 1, 1) := fp_hdX12_step_254.1.1.1.2
theorem dX12_step_259 : decode cX12_step 259 = .ok (.bipush 59, 2) := fp_hdX12_step_254.1.1.2.1
theorem dX12_step_261 : decode cX12_step 261 = .ok (.if_icmp .eq 8, 3) := fp_hdX12_step_254.1.1.2.2
theorem dX12_step_264 : decode cX12_step 264 = .ok (.aload_n 0, 1) := fp_hdX12_step_254.1.2.1.1
theorem dX12_step_265 : decode cX12_step 265 = .ok (.iconst 1, 1) := fp_hdX12_step_254.1.2.1.2
theorem dX12_step_266 : decode cX12_step 266 = .ok (.invokevirtual 128, 3) := fp_hdX12_step_254.1.2.2.1
theorem dX12_step_269 : decode cX12_step 269 = .ok (.return_, 1) := fp_hdX12_step_254.1.2.2.2
def fp_scX12_looks_0 : List Nat := 42 :: 180 :: 0 :: 98 :: 154 :: 0 :: 16 :: 42 :: 180 :: 0 :: 107 :: 5 :: 159 :: 0 :: 8 :: 42 :: 5 :: 182 :: 0 :: 128 :: 42 :: 180 :: 0 :: 98 :: 154 :: 0 :: 23 :: 42 :: 180 :: 0 :: 117 :: 133 :: 27 :: 133 :: 28 :: 133 :: 184 :: 0 :: 94 :: 154 :: 0 :: 8 :: 42 :: 6 :: 182 :: 0 :: 128 :: 177 :: []
theorem fp_bcX12_looks : bA cX12_looks 0 fp_scX12_looks_0 := show cX12_looks.data.toList.map UInt8.toNat = fp_scX12_looks_0 from by decide +kernel
theorem fp_hdX12_looks_0 : (((((decode cX12_looks 0 = .ok (.aload_n 0, 1) ∧ decode cX12_looks 1 = .ok (.getfield 98, 3)) ∧ (decode cX12_looks 4 = .ok (.ifCond .ne 16, 3) ∧ decode cX12_looks 7 = .ok (.aload_n 0, 1))) ∧ ((decode cX12_looks 8 = .ok (.getfield 107, 3) ∧ decode cX12_looks 11 = .ok (.iconst 2, 1)) ∧ decode cX12_looks 12 = .ok (.if_icmp .eq 8, 3))) ∧ (((decode cX12_looks 15 = .ok (.aload_n 0, 1) ∧ decode cX12_looks 16 = .ok (.iconst 2, 1)) ∧ decode cX12_looks 17 = .ok (.invokevirtual 128, 3)) ∧ ((decode cX12_looks 20 = .ok (.aload_n 0, 1) ∧ decode cX12_looks 21 = .ok (.getfield 98, 3)) ∧ decode cX12_looks 24 = .ok (.ifCond .ne 23, 3)))) ∧ ((((decode cX12_looks 27 = .ok (.aload_n 0, 1) ∧ decode cX12_looks 28 = .ok (.getfield 117, 3)) ∧ (decode cX12_looks 31 = .ok (.i2l, 1) ∧ decode cX12_looks 32 = .ok (.iload_n 1, 1))) ∧ ((decode cX12_looks 33 = .ok (.i2l, 1) ∧ decode cX12_looks 34 = .ok (.iload_n 2, 1)) ∧ decode cX12_looks 35 = .ok (.i2l, 1))) ∧ (((decode cX12_looks 36 = .ok (.invokestatic 94, 3) ∧ decode cX12_looks 39 = .ok (.ifCond .ne 8, 3)) ∧ decode cX12_looks 42 = .ok (.aload_n 0, 1)) ∧ ((decode cX12_looks 43 = .ok (.iconst 3, 1) ∧ decode cX12_looks 44 = .ok (.invokevirtual 128, 3)) ∧ decode cX12_looks 47 = .ok (.return_, 1))))) ∧ bA cX12_looks 48 [] :=
  have q0 := fp_o42 fp_bcX12_looks
  have q1 := fp_o180 (v := 98) q0.2 rfl
  have q2 := fp_o154 (v := 16) q1.2 rfl
  have q3 := fp_o42 q2.2
  have q4 := fp_o180 (v := 107) q3.2 rfl
  have q5 := fp_o5 q4.2
  have q6 := fp_o159 (v := 8) q5.2 rfl
  have q7 := fp_o42 q6.2
  have q8 := fp_o5 q7.2
  have q9 := fp_o182 (v := 128) q8.2 rfl
  have q10 := fp_o42 q9.2
  have q11 := fp_o180 (v := 98) q10.2 rfl
  have q12 := fp_o154 (v := 23) q11.2 rfl
  have q13 := fp_o42 q12.2
  have q14 := fp_o180 (v := 117) q13.2 rfl
  have q15 := fp_o133 q14.2
  have q16 := fp_o27 q15.2
  have q17 := fp_o133 q16.2
  have q18 := fp_o28 q17.2
  have q19 := fp_o133 q18.2
  have q20 := fp_o184 (v := 94) q19.2 rfl
  have q21 := fp_o154 (v := 8) q20.2 rfl
  have q22 := fp_o42 q21.2
  have q23 := fp_o6 q22.2
  have q24 := fp_o182 (v := 128) q23.2 rfl
  have q25 := fp_o177 q24.2
  ⟨⟨⟨⟨⟨⟨q0.1, q1.1⟩, ⟨q2.1, q3.1⟩⟩, ⟨⟨q4.1, q5.1⟩, q6.1⟩⟩, ⟨⟨⟨q7.1, q8.1⟩, q9.1⟩, ⟨⟨q10.1, q11.1⟩, q12.1⟩⟩⟩, ⟨⟨⟨⟨q13.1, q14.1⟩, ⟨q15.1, q16.1⟩⟩, ⟨⟨q17.1, q18.1⟩, q19.1⟩⟩, ⟨⟨⟨q20.1, q21.1⟩, q22.1⟩, ⟨⟨q23.1, q24.1⟩, q25.1⟩⟩⟩⟩, q25.2⟩
theorem dX12_looks_0 : decode cX12_looks 0 = .ok (.aload_n 0, 1) := fp_hdX12_looks_0.1.1.1.1.1.1
theorem dX12_looks_1 : decode cX12_looks 1 = .ok (.getfield 98, 3) := fp_hdX12_looks_0.1.1.1.1.1.2
theorem dX12_looks_4 : decode cX12_looks 4 = .ok (.ifCond .ne 16, 3) := fp_hdX12_looks_0.1.1.1.1.2.1
theorem dX12_looks_7 : decode cX12_looks 7 = .ok (.aload_n 0, 1) := fp_hdX12_looks_0.1.1.1.1.2.2
theorem dX12_looks_8 : decode cX12_looks 8 = .ok (.getfield 107, 3) := fp_hdX12_looks_0.1.1.1.2.1.1
theorem dX12_looks_11 : decode cX12_looks 11 = .ok (.iconst 2, 1) := fp_hdX12_looks_0.1.1.1.2.1.2
theorem dX12_looks_12 : decode cX12_looks 12 = .ok (.if_icmp .eq 8, 3) := fp_hdX12_looks_0.1.1.1.2.2
theorem dX12_looks_15 : decode cX12_looks 15 = .ok (.aload_n 0, 1) := fp_hdX12_looks_0.1.1.2.1.1.1
theorem dX12_looks_16 : decode cX12_looks 16 = .ok (.iconst 2, 1) := fp_hdX12_looks_0.1.1.2.1.1.2
theorem dX12_looks_17 : decode cX12_looks 17 = .ok (.invokevirtual 128, 3) := fp_hdX12_looks_0.1.1.2.1.2
theorem dX12_looks_20 : decode cX12_looks 20 = .ok (.aload_n 0, 1) := fp_hdX12_looks_0.1.1.2.2.1.1
theorem dX12_looks_21 : decode cX12_looks 21 = .ok (.getfield 98, 3) := fp_hdX12_looks_0.1.1.2.2.1.2
theorem dX12_looks_24 : decode cX12_looks 24 = .ok (.ifCond .ne 23, 3) := fp_hdX12_looks_0.1.1.2.2.2
theorem dX12_looks_27 : decode cX12_looks 27 = .ok (.aload_n 0, 1) := fp_hdX12_looks_0.1.2.1.1.1.1
theorem dX12_looks_28 : decode cX12_looks 28 = .ok (.getfield 117, 3) := fp_hdX12_looks_0.1.2.1.1.1.2
theorem dX12_looks_31 : decode cX12_looks 31 = .ok (.i2l, 1) := fp_hdX12_looks_0.1.2.1.1.2.1
theorem dX12_looks_32 : decode cX12_looks 32 = .ok (.iload_n 1, 1) := fp_hdX12_looks_0.1.2.1.1.2.2
theorem dX12_looks_33 : decode cX12_looks 33 = .ok (.i2l, 1) := fp_hdX12_looks_0.1.2.1.2.1.1
theorem dX12_looks_34 : decode cX12_looks 34 = .ok (.iload_n 2, 1) := fp_hdX12_looks_0.1.2.1.2.1.2
theorem dX12_looks_35 : decode cX12_looks 35 = .ok (.i2l, 1) := fp_hdX12_looks_0.1.2.1.2.2
theorem dX12_looks_36 : decode cX12_looks 36 = .ok (.invokestatic 94, 3) := fp_hdX12_looks_0.1.2.2.1.1.1
theorem dX12_looks_39 : decode cX12_looks 39 = .ok (.ifCond .ne 8, 3) := fp_hdX12_looks_0.1.2.2.1.1.2
theorem dX12_looks_42 : decode cX12_looks 42 = .ok (.aload_n 0, 1) := fp_hdX12_looks_0.1.2.2.1.2
theorem dX12_looks_43 : decode cX12_looks 43 = .ok (.iconst 3, 1) := fp_hdX12_looks_0.1.2.2.2.1.1
theorem dX12_looks_44 : decode cX12_looks 44 = .ok (.invokevirtual 128, 3) := fp_hdX12_looks_0.1.2.2.2.1.2
theorem dX12_looks_47 : decode cX12_looks 47 = .ok (.return_, 1) := fp_hdX12_looks_0.1.2.2.2.2
def fp_scX12_number_0 : List Nat := 42 :: 27 :: 28 :: 182 :: 0 :: 132 :: 42 :: 180 :: 0 :: 98 :: 154 :: 0 :: 10 :: 42 :: 180 :: 0 :: 117 :: 167 :: 0 :: 4 :: 27 :: 62 :: 42 :: 182 :: 0 :: 136 :: 29 :: 172 :: []
theorem fp_bcX12_number : bA cX12_number 0 fp_scX12_number_0 := show cX12_number.data.toList.map UInt8.toNat = fp_scX12_number_0 from by decide +kernel
theorem fp_hdX12_number_0 : ((((decode cX12_number 0 = .ok (.aload_n 0, 1) ∧ decode cX12_number 1 = .ok (.iload_n 1, 1)) ∧ (decode cX12_number 2 = .ok (.iload_n 2, 1) ∧ decode cX12_number 3 = .ok (.invokevirtual 132, 3))) ∧ ((decode cX12_number 6 = .ok (.aload_n 0, 1) ∧ decode cX12_number 7 = .ok (.getfield 98, 3)) ∧ (decode cX12_number 10 = .ok (.ifCond .ne 10, 3) ∧ decode cX12_number 13 = .ok (.aload_n 0, 1)))) ∧ (((decode cX12_number 14 = .ok (.getfield 117, 3) ∧ decode cX12_number 17 = .ok (.goto 4, 3)) ∧ (decode cX12_number 20 = .ok (.iload_n 1, 1) ∧ decode cX12_number 21 = .ok (.istore_n 3, 1))) ∧ ((decode cX12_number 22 = .ok (.aload_n 0, 1) ∧ decode cX12_number 23 = .ok (.invokevirtual 136, 3)) ∧ (decode cX12_number 26 = .ok (.iload_n 3, 1) ∧ decode cX12_number 27 = .ok (.ireturn, 1))))) ∧ bA cX12_number 28 [] :=
  have q0 := fp_o42 fp_bcX12_number
  have q1 := fp_o27 q0.2
  have q2 := fp_o28 q1.2
  have q3 := fp_o182 (v := 132) q2.2 rfl
  have q4 := fp_o42 q3.2
  have q5 := fp_o180 (v := 98) q4.2 rfl
  have q6 := fp_o154 (v := 10) q5.2 rfl
  have q7 := fp_o42 q6.2
  have q8 := fp_o180 (v := 117) q7.2 rfl
  have q9 := fp_o167 (v := 4) q8.2 rfl
  have q10 := fp_o27 q9.2
  have q11 := fp_o62 q10.2
  have q12 := fp_o42 q11.2
  have q13 := fp_o182 (v := 136) q12.2 rfl
  have q14 := fp_o29 q13.2
  have q15 := fp_o172 q14.2
  ⟨⟨⟨⟨⟨q0.1, q1.1⟩, ⟨q2.1, q3.1⟩⟩, ⟨⟨q4.1, q5.1⟩, ⟨q6.1, q7.1⟩⟩⟩, ⟨⟨⟨q8.1, q9.1⟩, ⟨q10.1, q11.1⟩⟩, ⟨⟨q12.1, q13.1⟩, ⟨q14.1, q15.1⟩⟩⟩⟩, q15.2⟩
theorem dX12_number_0 : decode cX12_number 0 = .ok (.aload_n 0, 1) := fp_hdX12_number_0.1.1.1.1.1
theorem dX12_number_1 : decode cX12_number 1 = .ok (.iload_n 1, 1) := fp_hdX12_number_0.1.1.1.1.2
theorem dX12_number_2 : decode cX12_number 2 = .ok (.iload_n 2, 1) := fp_hdX12_number_0.1.1.1.2.1
theorem dX12_number_3 : decode cX12_number 3 = .ok (.invokevirtual 132, 3) := fp_hdX12_number_0.1.1.1.2.2
theorem dX12_number_6 : decode cX12_number 6 = .ok (.aload_n 0, 1) := fp_hdX12_number_0.1.1.2.1.1
theorem dX12_number_7 : decode cX12_number 7 = .ok (.getfield 98, 3) := fp_hdX12_number_0.1.1.2.1.2
theorem dX12_number_10 : decode cX12_number 10 = .ok (.ifCond .ne 10, 3) := fp_hdX12_number_0.1.1.2.2.1
theorem dX12_number_13 : decode cX12_number 13 = .ok (.aload_n 0, 1) := fp_hdX12_number_0.1.1.2.2.2
theorem dX12_number_14 : decode cX12_number 14 = .ok (.getfield 117, 3) := fp_hdX12_number_0.1.2.1.1.1
theorem dX12_number_17 : decode cX12_number 17 = .ok (.goto 4, 3) := fp_hdX12_number_0.1.2.1.1.2
theorem dX12_number_20 : decode cX12_number 20 = .ok (.iload_n 1, 1) := fp_hdX12_number_0.1.2.1.2.1
theorem dX12_number_21 : decode cX12_number 21 = .ok (.istore_n 3, 1) := fp_hdX12_number_0.1.2.1.2.2
theorem dX12_number_22 : decode cX12_number 22 = .ok (.aload_n 0, 1) := fp_hdX12_number_0.1.2.2.1.1
theorem dX12_number_23 : decode cX12_number 23 = .ok (.invokevirtual 136, 3) := fp_hdX12_number_0.1.2.2.1.2
theorem dX12_number_26 : decode cX12_number 26 = .ok (.iload_n 3, 1) := fp_hdX12_number_0.1.2.2.2.1
theorem dX12_number_27 : decode cX12_number 27 = .ok (.ireturn, 1) := fp_hdX12_number_0.1.2.2.2.2
def fp_scX12_readThing_1 : List Nat := 162 :: 0 :: 29 :: 42 :: 180 :: 0 :: 32 :: 7 :: 42 :: 180 :: 0 :: 139 :: 104 :: 27 :: 96 :: 42 :: 3 :: 16 :: 20 :: 182 :: 0 :: 142 :: 79 :: 132 :: 1 :: 1 :: 167 :: 255 :: 228 :: 42 :: 89 :: 180 :: 0 :: 139 :: 4 :: 96 :: 181 :: 0 :: 139 :: 177 :: []
def fp_scX12_readThing_0 : List Nat := 42 :: 180 :: 0 :: 139 :: 16 :: 10 :: 160 :: 0 :: 9 :: 42 :: 8 :: 182 :: 0 :: 128 :: 177 :: 42 :: 182 :: 0 :: 136 :: 42 :: 180 :: 0 :: 26 :: 42 :: 180 :: 0 :: 139 :: 42 :: 3 :: 6 :: 182 :: 0 :: 142 :: 79 :: 42 :: 180 :: 0 :: 29 :: 42 :: 180 :: 0 :: 139 :: 42 :: 3 :: 16 :: 9 :: 182 :: 0 :: 142 :: 79 :: 3 :: 60 :: 27 :: 7 :: fp_scX12_readThing_1
theorem fp_bcX12_readThing : bA cX12_readThing 0 fp_scX12_readThing_0 := show cX12_readThing.data.toList.map UInt8.toNat = fp_scX12_readThing_0 from by decide +kernel
theorem fp_hdX12_readThing_0 : (((((decode cX12_readThing 0 = .ok (.aload_n 0, 1) ∧ decode cX12_readThing 1 = .ok (.getfield 139, 3)) ∧ (decode cX12_readThing 4 = .ok (.bipush 10, 2) ∧ decode cX12_readThing 6 = .ok (.if_icmp .ne 9, 3))) ∧ ((decode cX12_readThing 9 = .ok (.aload_n 0, 1) ∧ decode cX12_readThing 10 = .ok (.iconst 5, 1)) ∧ (decode cX12_readThing 11 = .ok (.invokevirtual 128, 3) ∧ decode cX12_readThing 14 = .ok (.return_, 1)))) ∧ (((decode cX12_readThing 15 = .ok (.aload_n 0, 1) ∧ decode cX12_readThing 16 = .ok (.invokevirtual 136, 3)) ∧ (decode cX12_readThing 19 = .ok (.aload_n 0, 1) ∧ decode cX12_readThing 20 = .ok (.getfield 26, 3))) ∧ ((decode cX12_readThing 23 = .ok (.aload_n 0, 1) ∧ decode cX12_readThing 24 = .ok (.getfield 139, 3)) ∧ (decode cX12_readThing 27 = .ok (.aload_n 0, 1) ∧ decode cX12_readThing 28 = .ok (.iconst 0, 1))))) ∧ ((((decode cX12_readThing 29 = .ok (.iconst 3, 1) ∧ decode cX12_readThing 30 = .ok (.invokevirtual 142, 3)) ∧ (decode cX12_readThing 33 = .ok (.iastore, 1) ∧ decode cX12_readThing 34 = .ok (.aload_n 0, 1))) ∧ ((decode cX12_readThing 35 = .ok (.getfield 29, 3) ∧ decode cX12_readThing 38 = .ok (.aload_n 0, 1)) ∧ (decode cX12_readThing 39 = .ok (.getfield 139, 3) ∧ decode cX12_readThing 42 = .ok (.aload_n 0, 1)))) ∧ (((decode cX12_readThing 43 = .ok (.iconst 0, 1) ∧ decode cX12_readThing 44 = .ok (.bipush 9, 2)) ∧ (decode cX12_readThing 46 = .ok (.invokevirtual 142, 3) ∧ decode cX12_readThing 49 = .ok (.iastore, 1))) ∧ ((decode cX12_readThing 50 = .ok (.iconst 0, 1) ∧ decode cX12_readThing 51 = .ok (.istore_n 1, 1)) ∧ (decode cX12_readThing 52 = .ok (.iload_n 1, 1) ∧ decode cX12_readThing 53 = .ok (.iconst 4, 1)))))) ∧ bA cX12_readThing 54 fp_scX12_readThing_1 :=
  have q0 := fp_o42 fp_bcX12_readThing
  have q1 := fp_o180 (v := 139) q0.2 rfl
  have q2 := fp_o16 (v := 10) q1.2 rfl
  have q3 := fp_o160 (v := 9) q2.2 rfl
  have q4 := fp_o42 q3.2
  have q5 := fp_o8 q4.2
  have q6 := fp_o182 (v := 128) q5.2 rfl
  have q7 := fp_o177 q6.2
  have q8 := fp_o42 q7.2
  have q9 := fp_o182 (v := 136) q8.2 rfl
  have q10 := fp_o42 q9.2
  have q11 := fp_o180 (v := 26) q10.2 rfl
  have q12 := fp_o42 q11.2
  have q13 := fp_o180 (v := 139) q12.2 rfl
  have q14 := fp_o42 q13.2
  have q15 := fp_o3 q14.2
  have q16 := fp_o6 q15.2
  have q17 := fp_o182 (v := 142) q16.2 rfl
  have q18 := fp_o79 q17.2
  have q19 := fp_o42 q18.2
  have q20 := fp_o180 (v := 29) q19.2 rfl
  have q21 := fp_o42 q20.2
  have q22 := fp_o180 (v := 139) q21.2 rfl
  have q23 := fp_o42 q22.2
  have q24 := fp_o3 q23.2
  have q25 := fp_o16 (v := 9) q24.2 rfl
  have q26 := fp_o182 (v := 142) q25.2 rfl
  have q27 := fp_o79 q26.2
  have q28 := fp_o3 q27.2
  have q29 := fp_o60 q28.2
  have q30 := fp_o27 q29.2
  have q31 := fp_o7 q30.2
  ⟨⟨⟨⟨⟨⟨q0.1, q1.1⟩, ⟨q2.1, q3.1⟩⟩, ⟨⟨q4.1, q5.1⟩, ⟨q6.1, q7.1⟩⟩⟩, ⟨⟨⟨q8.1, q9.1⟩, ⟨q10.1, q11.1⟩⟩, ⟨⟨q12.1, q13.1⟩, ⟨q14.1, q15.1⟩⟩⟩⟩, ⟨⟨⟨⟨q16.1, q17.1⟩, ⟨q18.1, q19.1⟩⟩, ⟨⟨q20.1, q21.1⟩, ⟨q22.1, q23.1⟩⟩⟩, ⟨⟨⟨q24.1, q25.1⟩, ⟨q26.1, q27.1⟩⟩, ⟨⟨q28.1, q29.1⟩, ⟨q30.1, q31.1⟩⟩⟩⟩⟩, q31.2⟩
theorem dX12_readThing_0 : decode cX12_readThing 0 = .ok (.aload_n 0, 1) := fp_hdX12_readThing_0.1.1.1.1.1.1
theorem dX12_readThing_1 : decode cX12_readThing 1 = .ok (.getfield 139, 3) := fp_hdX12_readThing_0.1.1.1.1.1.2
theorem dX12_readThing_4 : decode cX12_readThing 4 = .ok (.bipush 10, 2) := fp_hdX12_readThing_0.1.1.1.1.2.1
theorem dX12_readThing_6 : decode cX12_readThing 6 = .ok (.if_icmp .ne 9, 3) := fp_hdX12_readThing_0.1.1.1.1.2.2
theorem dX12_readThing_9 : decode cX12_readThing 9 = .ok (.aload_n 0, 1) := fp_hdX12_readThing_0.1.1.1.2.1.1
theorem dX12_readThing_10 : decode cX12_readThing 10 = .ok (.iconst 5, 1) := fp_hdX12_readThing_0.1.1.1.2.1.2
theorem dX12_readThing_11 : decode cX12_readThing 11 = .ok (.invokevirtual 128, 3) := fp_hdX12_readThing_0.1.1.1.2.2.1
theorem dX12_readThing_14 : decode cX12_readThing 14 = .ok (.return_, 1) := fp_hdX12_readThing_0.1.1.1.2.2.2
theorem dX12_readThing_15 : decode cX12_readThing 15 = .ok (.aload_n 0, 1) := fp_hdX12_readThing_0.1.1.2.1.1.1
theorem dX12_readThing_16 : decode cX12_readThing 16 = .ok (.invokevirtual 136, 3) := fp_hdX12_readThing_0.1.1.2.1.1.2
theorem dX12_readThing_19 : decode cX12_readThing 19 = .ok (.aload_n 0, 1) := fp_hdX12_readThing_0.1.1.2.1.2.1
theorem dX12_readThing_20 : decode cX12_readThing 20 = .ok (.getfield 26, 3) := fp_hdX12_readThing_0.1.1.2.1.2.2
theorem dX12_readThing_23 : decode cX12_readThing 23 = .ok (.aload_n 0, 1) := fp_hdX12_readThing_0.1.1.2.2.1.1
theorem dX12_readThing_24 : decode cX12_readThing 24 = .ok (.getfield 139, 3) := fp_hdX12_readThing_0.1.1.2.2.1.2
theorem dX12_readThing_27 : decode cX12_readThing 27 = .ok (.aload_n 0, 1) := fp_hdX12_readThing_0.1.1.2.2.2.1
theorem dX12_readThing_28 : decode cX12_readThing 28 = .ok (.iconst 0, 1) := fp_hdX12_readThing_0.1.1.2.2.2.2
theorem dX12_readThing_29 : decode cX12_readThing 29 = .ok (.iconst 3, 1) := fp_hdX12_readThing_0.1.2.1.1.1.1
theorem dX12_readThing_30 : decode cX12_readThing 30 = .ok (.invokevirtual 142, 3) := fp_hdX12_readThing_0.1.2.1.1.1.2
theorem dX12_readThing_33 : decode cX12_readThing 33 = .ok (.iastore, 1) := fp_hdX12_readThing_0.1.2.1.1.2.1
theorem dX12_readThing_34 : decode cX12_readThing 34 = .ok (.aload_n 0, 1) := fp_hdX12_readThing_0.1.2.1.1.2.2
theorem dX12_readThing_35 : decode cX12_readThing 35 = .ok (.getfield 29, 3) := fp_hdX12_readThing_0.1.2.1.2.1.1
theorem dX12_readThing_38 : decode cX12_readThing 38 = .ok (.aload_n 0, 1) := fp_hdX12_readThing_0.1.2.1.2.1.2
theorem dX12_readThing_39 : decode cX12_readThing 39 = .ok (.getfield 139, 3) := fp_hdX12_readThing_0.1.2.1.2.2.1
theorem dX12_readThing_42 : decode cX12_readThing 42 = .ok (.aload_n 0, 1) := fp_hdX12_readThing_0.1.2.1.2.2.2
theorem dX12_readThing_43 : decode cX12_readThing 43 = .ok (.iconst 0, 1) := fp_hdX12_readThing_0.1.2.2.1.1.1
theorem dX12_readThing_44 : decode cX12_readThing 44 = .ok (.bipush 9, 2) := fp_hdX12_readThing_0.1.2.2.1.1.2
theorem dX12_readThing_46 : decode cX12_readThing 46 = .ok (.invokevirtual 142, 3) := fp_hdX12_readThing_0.1.2.2.1.2.1
theorem dX12_readThing_49 : decode cX12_readThing 49 = .ok (.iastore, 1) := fp_hdX12_readThing_0.1.2.2.1.2.2
theorem dX12_readThing_50 : decode cX12_readThing 50 = .ok (.iconst 0, 1) := fp_hdX12_readThing_0.1.2.2.2.1.1
theorem dX12_readThing_51 : decode cX12_readThing 51 = .ok (.istore_n 1, 1) := fp_hdX12_readThing_0.1.2.2.2.1.2
theorem dX12_readThing_52 : decode cX12_readThing 52 = .ok (.iload_n 1, 1) := fp_hdX12_readThing_0.1.2.2.2.2.1
theorem dX12_readThing_53 : decode cX12_readThing 53 = .ok (.iconst 4, 1) := fp_hdX12_readThing_0.1.2.2.2.2.2
theorem fp_hdX12_readThing_54 : (((((decode cX12_readThing 54 = .ok (.if_icmp .ge 29, 3) ∧ decode cX12_readThing 57 = .ok (.aload_n 0, 1)) ∧ decode cX12_readThing 58 = .ok (.getfield 32, 3)) ∧ ((decode cX12_readThing 61 = .ok (.iconst 4, 1) ∧ decode cX12_readThing 62 = .ok (.aload_n 0, 1)) ∧ decode cX12_readThing 63 = .ok (.getfield 139, 3))) ∧ (((decode cX12_readThing 66 = .ok (.imul, 1) ∧ decode cX12_readThing 67 = .ok (.iload_n 1, 1)) ∧ decode cX12_readThing 68 = .ok (.iadd, 1)) ∧ ((decode cX12_readThing 69 = .ok (.aload_n 0, 1) ∧ decode cX12_readThing 70 = .ok (.iconst 0, 1)) ∧ decode cX12_readThing 71 = .ok (.bipush 20, 2)))) ∧ ((((decode cX12_readThing 73 = .ok (.invokevirtual 142, 3) ∧ decode cX12_readThing 76 = .ok (.iastore, 1)) ∧ decode cX12_readThing 77 = .ok (.iinc 1 1, 3)) ∧ ((decode cX12_readThing 80 = .ok (.goto (-28), 3) ∧ decode cX12_readThing 83 = .ok (.aload_n 0, 1)) ∧ decode cX12_readThing 84 = .ok (.dup, 1))) ∧ (((decode cX12_readThing 85 = .ok (.getfield 139, 3) ∧ decode cX12_readThing 88 = .ok (.iconst 1, 1)) ∧ decode cX12_readThing 89 = .ok (.iadd, 1)) ∧ (decode cX12_readThing 90 = .ok (.putfield 139, 3) ∧ decode cX12_readThing 93 = .ok (.return_, 1))))) ∧ bA cX12_readThing 94 [] :=
  have q0 := fp_o162 (v := 29) fp_hdX12_readThing_0.2 rfl
  have q1 := fp_o42 q0.2
  have q2 := fp_o180 (v := 32) q1.2 rfl
  have q3 := fp_o7 q2.2
  have q4 := fp_o42 q3.2
  have q5 := fp_o180 (v := 139) q4.2 rfl
  have q6 := fp_o104 q5.2
  have q7 := fp_o27 q6.2
  have q8 := fp_o96 q7.2
  have q9 := fp_o42 q8.2
  have q10 := fp_o3 q9.2
  have q11 := fp_o16 (v := 20) q10.2 rfl
  have q12 := fp_o182 (v := 142) q11.2 rfl
  have q13 := fp_o79 q12.2
  have q14 := fp_o132 (v := 1) q13.2 rfl
  have q15 := fp_o167 (v := (-28)) q14.2 rfl
  have q16 := fp_o42 q15.2
  have q17 := fp_o89 q16.2
  have q18 := fp_o180 (v := 139) q17.2 rfl
  have q19 := fp_o4 q18.2
  have q20 := fp_o96 q19.2
  have q21 := fp_o181 (v := 139) q20.2 rfl
  have q22 := fp_o177 q21.2
  ⟨⟨⟨⟨⟨⟨q0.1, q1.1⟩, q2.1⟩, ⟨⟨q3.1, q4.1⟩, q5.1⟩⟩, ⟨⟨⟨q6.1, q7.1⟩, q8.1⟩, ⟨⟨q9.1, q10.1⟩, q11.1⟩⟩⟩, ⟨⟨⟨⟨q12.1, q13.1⟩, q14.1⟩, ⟨⟨q15.1, q16.1⟩, q17.1⟩⟩, ⟨⟨⟨q18.1, q19.1⟩, q20.1⟩, ⟨q21.1, q22.1⟩⟩⟩⟩, q22.2⟩
theorem dX12_readThing_54 : decode cX12_readThing 54 = .ok (.if_icmp .ge 29, 3) := fp_hdX12_readThing_54.1.1.1.1.1.1
theorem dX12_readThing_57 : decode cX12_readThing 57 = .ok (.aload_n 0, 1) := fp_hdX12_readThing_54.1.1.1.1.1.2
theorem dX12_readThing_58 : decode cX12_readThing 58 = .ok (.getfield 32, 3) := fp_hdX12_readThing_54.1.1.1.1.2
theorem dX12_readThing_61 : decode cX12_readThing 61 = .ok (.iconst 4, 1) := fp_hdX12_readThing_54.1.1.1.2.1.1
theorem dX12_readThing_62 : decode cX12_readThing 62 = .ok (.aload_n 0, 1) := fp_hdX12_readThing_54.1.1.1.2.1.2
theorem dX12_readThing_63 : decode cX12_readThing 63 = .ok (.getfield 139, 3) := fp_hdX12_readThing_54.1.1.1.2.2
theorem dX12_readThing_66 : decode cX12_readThing 66 = .ok (.imul, 1) := fp_hdX12_readThing_54.1.1.2.1.1.1
theorem dX12_readThing_67 : decode cX12_readThing 67 = .ok (.iload_n 1, 1) := fp_hdX12_readThing_54.1.1.2.1.1.2
theorem dX12_readThing_68 : decode cX12_readThing 68 = .ok (.iadd, 1) := fp_hdX12_readThing_54.1.1.2.1.2
theorem dX12_readThing_69 : decode cX12_readThing 69 = .ok (.aload_n 0, 1) := fp_hdX12_readThing_54.1.1.2.2.1.1
theorem dX12_readThing_70 : decode cX12_readThing 70 = .ok (.iconst 0, 1) := fp_hdX12_readThing_54.1.1.2.2.1.2
theorem dX12_readThing_71 : decode cX12_readThing 71 = .ok (.bipush 20, 2) := fp_hdX12_readThing_54.1.1.2.2.2
theorem dX12_readThing_73 : decode cX12_readThing 73 = .ok (.invokevirtual 142, 3) := fp_hdX12_readThing_54.1.2.1.1.1.1
theorem dX12_readThing_76 : decode cX12_readThing 76 = .ok (.iastore, 1) := fp_hdX12_readThing_54.1.2.1.1.1.2
theorem dX12_readThing_77 : decode cX12_readThing 77 = .ok (.iinc 1 1, 3) := fp_hdX12_readThing_54.1.2.1.1.2
theorem dX12_readThing_80 : decode cX12_readThing 80 = .ok (.goto (-28), 3) := fp_hdX12_readThing_54.1.2.1.2.1.1
theorem dX12_readThing_83 : decode cX12_readThing 83 = .ok (.aload_n 0, 1) := fp_hdX12_readThing_54.1.2.1.2.1.2
theorem dX12_readThing_84 : decode cX12_readThing 84 = .ok (.dup, 1) := fp_hdX12_readThing_54.1.2.1.2.2
theorem dX12_readThing_85 : decode cX12_readThing 85 = .ok (.getfield 139, 3) := fp_hdX12_readThing_54.1.2.2.1.1.1
theorem dX12_readThing_88 : decode cX12_readThing 88 = .ok (.iconst 1, 1) := fp_hdX12_readThing_54.1.2.2.1.1.2
theorem dX12_readThing_89 : decode cX12_readThing 89 = .ok (.iadd, 1) := fp_hdX12_readThing_54.1.2.2.1.2
theorem dX12_readThing_90 : decode cX12_readThing 90 = .ok (.putfield 139, 3) := fp_hdX12_readThing_54.1.2.2.2.1
theorem dX12_readThing_93 : decode cX12_readThing 93 = .ok (.return_, 1) := fp_hdX12_readThing_54.1.2.2.2.2
def fp_scX12_readALine_3 : List Nat := 28 :: 46 :: 96 :: 42 :: 180 :: 0 :: 117 :: 79 :: 42 :: 42 :: 180 :: 0 :: 117 :: 42 :: 180 :: 0 :: 156 :: 164 :: 0 :: 10 :: 42 :: 180 :: 0 :: 117 :: 167 :: 0 :: 7 :: 42 :: 180 :: 0 :: 156 :: 181 :: 0 :: 156 :: 42 :: 182 :: 0 :: 136 :: 167 :: 255 :: 112 :: 42 :: 89 :: 180 :: 0 :: 146 :: 4 :: 96 :: 181 :: 0 :: 146 :: 177 :: []
def fp_scX12_readALine_2 : List Nat := 4 :: 126 :: 4 :: 160 :: 0 :: 8 :: 42 :: 7 :: 182 :: 0 :: 128 :: 42 :: 180 :: 0 :: 98 :: 154 :: 0 :: 71 :: 42 :: 89 :: 180 :: 0 :: 153 :: 4 :: 42 :: 180 :: 0 :: 117 :: 120 :: 128 :: 181 :: 0 :: 153 :: 42 :: 180 :: 0 :: 26 :: 28 :: 92 :: 46 :: 4 :: 96 :: 79 :: 42 :: 180 :: 0 :: 26 :: 28 :: 42 :: 180 :: 0 :: 26 :: fp_scX12_readALine_3
def fp_scX12_readALine_1 : List Nat := 180 :: 0 :: 146 :: 104 :: 96 :: 61 :: 42 :: 180 :: 0 :: 98 :: 154 :: 0 :: 143 :: 42 :: 180 :: 0 :: 107 :: 5 :: 160 :: 0 :: 135 :: 42 :: 180 :: 0 :: 26 :: 28 :: 46 :: 16 :: 8 :: 160 :: 0 :: 8 :: 42 :: 8 :: 182 :: 0 :: 128 :: 42 :: 3 :: 16 :: 9 :: 182 :: 0 :: 132 :: 42 :: 180 :: 0 :: 98 :: 154 :: 0 :: 23 :: 42 :: 180 :: 0 :: 153 :: 42 :: 180 :: 0 :: 117 :: 122 :: fp_scX12_readALine_2
def fp_scX12_readALine_0 : List Nat := 42 :: 180 :: 0 :: 146 :: 6 :: 160 :: 0 :: 9 :: 42 :: 8 :: 182 :: 0 :: 128 :: 177 :: 42 :: 182 :: 0 :: 136 :: 42 :: 182 :: 0 :: 149 :: 8 :: 100 :: 60 :: 27 :: 156 :: 0 :: 9 :: 42 :: 5 :: 182 :: 0 :: 128 :: 177 :: 42 :: 182 :: 0 :: 136 :: 42 :: 180 :: 0 :: 35 :: 42 :: 180 :: 0 :: 146 :: 27 :: 79 :: 16 :: 10 :: 16 :: 9 :: 42 :: fp_scX12_readALine_1
theorem fp_bcX12_readALine : bA cX12_readALine 0 fp_scX12_readALine_0 := show cX12_readALine.data.toList.map UInt8.toNat = fp_scX12_readALine_0 from by decide +kernel
theorem fp_hdX12_readALine_0 : (((((decode cX12_readALine 0 = .ok (.aload_n 0, 1) ∧ decode cX12_readALine 1 = .ok (.getfield 146, 3)) ∧ (decode cX12_readALine 4 = .ok (.iconst 3, 1) ∧ decode cX12_readALine 5 = .ok (.if_icmp .ne 9, 3))) ∧ ((decode cX12_readALine 8 = .ok (.aload_n 0, 1) ∧ decode cX12_readALine 9 = .ok (.iconst 5, 1)) ∧ (decode cX12_readALine 10 = .ok (.invokevirtual 128, 3) ∧ decode cX12_readALine 13 = .ok (.return_, 1)))) ∧ (((decode cX12_readALine 14 = .ok (.aload_n 0, 1) ∧ decode cX12_readALine 15 = .ok (.invokevirtual 136, 3)) ∧ (decode cX12_readALine 18 = .ok (.aload_n 0, 1) ∧ decode cX12_readALine 19 = .ok (.invokevirtual 149, 3))) ∧ ((decode cX12_readALine 22 = .ok (.iconst 5, 1) ∧ decode cX12_readALine 23 = .ok (.isub, 1)) ∧ (decode cX12_readALine 24 = .ok (.istore_n 1, 1) ∧ decode cX12_readALine 25 = .ok (.iload_n 1, 1))))) ∧ ((((decode cX12_readALine 26 = .ok (.ifCond .ge 9, 3) ∧ decode cX12_readALine 29 = .ok (.aload_n 0, 1)) ∧ (decode cX12_readALine 30 = .ok (.iconst 2, 1) ∧ decode cX12_readALine 31 = .ok (.invokevirtual 128, 3))) ∧ ((decode cX12_readALine 34 = .ok (.return_, 1) ∧ decode cX12_readALine 35 = .ok (.aload_n 0, 1)) ∧ (decode cX12_readALine 36 = .ok (.invokevirtual 136, 3) ∧ decode cX12_readALine 39 = .ok (.aload_n 0, 1)))) ∧ (((decode cX12_readALine 40 = .ok (.getfield 35, 3) ∧ decode cX12_readALine 43 = .ok (.aload_n 0, 1)) ∧ (decode cX12_readALine 44 = .ok (.getfield 146, 3) ∧ decode cX12_readALine 47 = .ok (.iload_n 1, 1))) ∧ ((decode cX12_readALine 48 = .ok (.iastore, 1) ∧ decode cX12_readALine 49 = .ok (.bipush 10, 2)) ∧ (decode cX12_readALine 51 = .ok (.bipush 9, 2) ∧ decode cX12_readALine 53 = .ok (.aload_n 0, 1)))))) ∧ bA cX12_readALine 54 fp_scX12_readALine_1 :=
  have q0 := fp_o42 fp_bcX12_readALine
  have q1 := fp_o180 (v := 146) q0.2 rfl
  have q2 := fp_o6 q1.2
  have q3 := fp_o160 (v := 9) q2.2 rfl
  have q4 := fp_o42 q3.2
  have q5 := fp_o8 q4.2
  have q6 := fp_o182 (v := 128) q5.2 rfl
  have q7 := fp_o177 q6.2
  have q8 := fp_o42 q7.2
  have q9 := fp_o182 (v := 136) q8.2 rfl
  have q10 := fp_o42 q9.2
  have q11 := fp_o182 (v := 149) q10.2 rfl
  have q12 := fp_o8 q11.2
  have q13 := fp_o100 q12.2
  have q14 := fp_o60 q13.2
  have q15 := fp_o27 q14.2
  have q16 := fp_o156 (v := 9) q15.2 rfl
  have q17 := fp_o42 q16.2
  have q18 := fp_o5 q17.2
  have q19 := fp_o182 (v := 128) q18.2 rfl
  have q20 := fp_o177 q19.2
  have q21 := fp_o42 q20.2
  have q22 := fp_o182 (v := 136) q21.2 rfl
  have q23 := fp_o42 q22.2
  have q24 := fp_o180 (v := 35) q23.2 rfl
  have q25 := fp_o42 q24.2
  have q26 := fp_o180 (v := 146) q25.2 rfl
  have q27 := fp_o27 q26.2
  have q28 := fp_o79 q27.2
  have q29 := fp_o16 (v := 10) q28.2 rfl
  have q30 := fp_o16 (v := 9) q29.2 rfl
  have q31 := fp_o42 q30.2
  ⟨⟨⟨⟨⟨⟨q0.1, q1.1⟩, ⟨q2.1, q3.1⟩⟩, ⟨⟨q4.1, q5.1⟩, ⟨q6.1, q7.1⟩⟩⟩, ⟨⟨⟨q8.1, q9.1⟩, ⟨q10.1, q11.1⟩⟩, ⟨⟨q12.1, q13.1⟩, ⟨q14.1, q15.1⟩⟩⟩⟩, ⟨⟨⟨⟨q16.1, q17.1⟩, ⟨q18.1, q19.1⟩⟩, ⟨⟨q20.1, q21.1⟩, ⟨q22.1, q23.1⟩⟩⟩, ⟨⟨⟨q24.1, q25.1⟩, ⟨q26.1, q27.1⟩⟩, ⟨⟨q28.1, q29.1⟩, ⟨q30.1, q31.1⟩⟩⟩⟩⟩, q31.2⟩
theorem dX12_readALine_0 : decode cX12_readALine 0 = .ok (.aload_n 0, 1) := fp_hdX12_readALine_0.1.1.1.1.1.1
theorem dX12_readALine_1 : decode cX12_readALine 1 = .ok (.getfield 146, 3) := fp_hdX12_readALine_0.1.1.1.1.1.2
theorem dX12_readALine_4 : decode cX12_readALine 4 = .ok (.iconst 3, 1) := fp_hdX12_readALine_0.1.1.1.1.2.1
theorem dX12_readALine_5 : decode cX12_readALine 5 = .ok (.if_icmp .ne 9, 3) := fp_hdX12_readALine_0.1.1.1.1.2.2
theorem dX12_readALine_8 : decode cX12_readALine 8 = .ok (.aload_n 0, 1) := fp_hdX12_readALine_0.1.1.1.2.1.1
theorem dX12_readALine_9 : decode cX12_readALine 9 = .ok (.iconst 5, 1) := fp_hdX12_readALine_0.1.1.1.2.1.2
theorem dX12_readALine_10 : decode cX12_readALine 10 = .ok (.invokevirtual 128, 3) := fp_hdX12_readALine_0.1.1.1.2.2.1
theorem dX12_readALine_13 : decode cX12_readALine 13 = .ok (.return_, 1) := fp_hdX12_readALine_0.1.1.1.2.2.2
theorem dX12_readALine_14 : decode cX12_readALine 14 = .ok (.aload_n 0, 1) := fp_hdX12_readALine_0.1.1.2.1.1.1
theorem dX12_readALine_15 : decode cX12_readALine 15 = .ok (.invokevirtual 136, 3) := fp_hdX12_readALine_0.1.1.2.1.1.2
theorem dX12_readALine_18 : decode cX12_readALine 18 = .ok (.aload_n 0, 1) := fp_hdX12_readALine_0.1.1.2.1.2.1
theorem dX12_readALine_19 : decode cX12_readALine 19 = .ok (.invokevirtual 149, 3) := fp_hdX12_readALine_0.1.1.2.1.2.2
theorem dX12_readALine_22 : decode cX12_readALine 22 = .ok (.iconst 5, 1) := fp_hdX12_readALine_0.1.1.2.2.1.1
theorem dX12_readALine_23 : decode cX12_readALine 23 = .ok (.isub, 1) := fp_hdX12_readALine_0.1.1.2.2.1.2
theorem dX12_readALine_24 : decode cX12_readALine 24 = .ok (.istore_n 1, 1) := fp_hdX12_readALine_0.1.1.2.2.2.1
theorem dX12_readALine_25 : decode cX12_readALine 25 = .ok (.iload_n 1, 1) := fp_hdX12_readALine_0.1.1.2.2.2.2
theorem dX12_readALine_26 : decode cX12_readALine 26 = .ok (.ifCond .ge 9, 3) := fp_hdX12_readALine_0.1.2.1.1.1.1
theorem dX12_readALine_29 : decode cX12_readALine 29 = .ok (.aload_n 0, 1) := fp_hdX12_readALine_0.1.2.1.1.1.2
theorem dX12_readALine_30 : decode cX12_readALine 30 = .ok (.iconst 2, 1) := fp_hdX12_readALine_0.1.2.1.1.2.1
theorem dX12_readALine_31 : decode cX12_readALine 31 = .ok (.invokevirtual 128, 3) := fp_hdX12_readALine_0.1.2.1.1.2.2
theorem dX12_readALine_34 : decode cX12_readALine 34 = .ok (.return_, 1) := fp_hdX12_readALine_0.1.2.1.2.1.1
theorem dX12_readALine_35 : decode cX12_readALine 35 = .ok (.aload_n 0, 1) := fp_hdX12_readALine_0.1.2.1.2.1.2
theorem dX12_readALine_36 : decode cX12_readALine 36 = .ok (.invokevirtual 136, 3) := fp_hdX12_readALine_0.1.2.1.2.2.1
theorem dX12_readALine_39 : decode cX12_readALine 39 = .ok (.aload_n 0, 1) := fp_hdX12_readALine_0.1.2.1.2.2.2
theorem dX12_readALine_40 : decode cX12_readALine 40 = .ok (.getfield 35, 3) := fp_hdX12_readALine_0.1.2.2.1.1.1
theorem dX12_readALine_43 : decode cX12_readALine 43 = .ok (.aload_n 0, 1) := fp_hdX12_readALine_0.1.2.2.1.1.2
theorem dX12_readALine_44 : decode cX12_readALine 44 = .ok (.getfield 146, 3) := fp_hdX12_readALine_0.1.2.2.1.2.1
theorem dX12_readALine_47 : decode cX12_readALine 47 = .ok (.iload_n 1, 1) := fp_hdX12_readALine_0.1.2.2.1.2.2
theorem dX12_readALine_48 : decode cX12_readALine 48 = .ok (.iastore, 1) := fp_hdX12_readALine_0.1.2.2.2.1.1
theorem dX12_readALine_49 : decode cX12_readALine 49 = .ok (.bipush 10, 2) := fp_hdX12_readALine_0.1.2.2.2.1.2
theorem dX12_readALine_51 : decode cX12_readALine 51 = .ok (.bipush 9, 2) := fp_hdX12_readALine_0.1.2.2.2.2.1
theorem dX12_readALine_53 : decode cX12_readALine 53 = .ok (.aload_n 0, 1) := fp_hdX12_readALine_0.1.2.2.2.2.2
theorem fp_hdX12_readALine_54 : (((((decode cX12_readALine 54 = .ok (.getfield 146, 3) ∧ decode cX12_readALine 57 = .ok (.imul, 1)) ∧ (decode cX12_readALine 58 = .ok (.iadd, 1) ∧ decode cX12_readALine 59 = .ok (.istore_n 2, 1))) ∧ ((decode cX12_readALine 60 = .ok (.aload_n 0, 1) ∧ decode cX12_readALine 61 = .ok (.getfield 98, 3)) ∧ (decode cX12_readALine 64 = .ok (.ifCond .ne 143, 3) ∧ decode cX12_readALine 67 = .ok (.aload_n 0, 1)))) ∧ (((decode cX12_readALine 68 = .ok (.getfield 107, 3) ∧ decode cX12_readALine 71 = .ok (.iconst 2, 1)) ∧ (decode cX12_readALine 72 = .ok (.if_icmp .ne 135, 3) ∧ decode cX12_readALine 75 = .ok (.aload_n 0, 1))) ∧ ((decode cX12_readALine 76 = .ok (.getfield 26, 3) ∧ decode cX12_readALine 79 = .ok (.iload_n 2, 1)) ∧ (decode cX12_readALine 80 = .ok (.iaload, 1) ∧ decode cX12_readALine 81 = .ok (.bipush 8, 2))))) ∧ ((((decode cX12_readALine 83 = .ok (.if_icmp .ne 8, 3) ∧ decode cX12_readALine 86 = .ok (.aload_n 0, 1)) ∧ (decode cX12_readALine 87 = .ok (.iconst 5, 1) ∧ decode cX12_readALine 88 = .ok (.invokevirtual 128, 3))) ∧ ((decode cX12_readALine 91 = .ok (.aload_n 0, 1) ∧ decode cX12_readALine 92 = .ok (.iconst 0, 1)) ∧ (decode cX12_readALine 93 = .ok (.bipush 9, 2) ∧ decode cX12_readALine 95 = .ok (.invokevirtual 132, 3)))) ∧ (((decode cX12_readALine 98 = .ok (.aload_n 0, 1) ∧ decode cX12_readALine 99 = .ok (.getfield 98, 3)) ∧ (decode cX12_readALine 102 = .ok (.ifCond .ne 23, 3) ∧ decode cX12_readALine 105 = .ok (.aload_n 0, 1))) ∧ ((decode cX12_readALine 106 = .ok (.getfield 153, 3) ∧ decode cX12_readALine 109 = .ok (.aload_n 0, 1)) ∧ (decode cX12_readALine 110 = .ok (.getfield 117, 3) ∧ decode cX12_readALine 113 = .ok (.ishr, 1)))))) ∧ bA cX12_readALine 114 fp_scX12_readALine_2 :=
  have q0 := fp_o180 (v := 146) fp_hdX12_readALine_0.2 rfl
  have q1 := fp_o104 q0.2
  have q2 := fp_o96 q1.2
  have q3 := fp_o61 q2.2
  have q4 := fp_o42 q3.2
  have q5 := fp_o180 (v := 98) q4.2 rfl
  have q6 := fp_o154 (v := 143) q5.2 rfl
  have q7 := fp_o42 q6.2
  have q8 := fp_o180 (v := 107) q7.2 rfl
  have q9 := fp_o5 q8.2
  have q10 := fp_o160 (v := 135) q9.2 rfl
  have q11 := fp_o42 q10.2
  have q12 := fp_o180 (v := 26) q11.2 rfl
  have q13 := fp_o28 q12.2
  have q14 := fp_o46 q13.2
  have q15 := fp_o16 (v := 8) q14.2 rfl
  have q16 := fp_o160 (v := 8) q15.2 rfl
  have q17 := fp_o42 q16.2
  have q18 := fp_o8 q17.2
  have q19 := fp_o182 (v := 128) q18.2 rfl
  have q20 := fp_o42 q19.2
  have q21 := fp_o3 q20.2
  have q22 := fp_o16 (v := 9) q21.2 rfl
  have q23 := fp_o182 (v := 132) q22.2 rfl
  have q24 := fp_o42 q23.2
  have q25 := fp_o180 (v := 98) q24.2 rfl
  have q26 := fp_o154 (v := 23) q25.2 rfl
  have q27 := fp_o42 q26.2
  have q28 := fp_o180 (v := 153) q27.2 rfl
  have q29 := fp_o42 q28.2
  have q30 := fp_o180 (v := 117) q29.2 rfl
  have q31 := fp_o122 q30.2
  ⟨⟨⟨⟨⟨⟨q0.1, q1.1⟩, ⟨q2.1, q3.1⟩⟩, ⟨⟨q4.1, q5.1⟩, ⟨q6.1, q7.1⟩⟩⟩, ⟨⟨⟨q8.1, q9.1⟩, ⟨q10.1, q11.1⟩⟩, ⟨⟨q12.1, q13.1⟩, ⟨q14.1, q15.1⟩⟩⟩⟩, ⟨⟨⟨⟨q16.1, q17.1⟩, ⟨q18.1, q19.1⟩⟩, ⟨⟨q20.1, q21.1⟩, ⟨q22.1, q23.1⟩⟩⟩, ⟨⟨⟨q24.1, q25.1⟩, ⟨q26.1, q27.1⟩⟩, ⟨⟨q28.1, q29.1⟩, ⟨q30.1, q31.1⟩⟩⟩⟩⟩, q31.2⟩
theorem dX12_readALine_54 : decode cX12_readALine 54 = .ok (.getfield 146, 3) := fp_hdX12_readALine_54.1.1.1.1.1.1
theorem dX12_readALine_57 : decode cX12_readALine 57 = .ok (.imul, 1) := fp_hdX12_readALine_54.1.1.1.1.1.2
theorem dX12_readALine_58 : decode cX12_readALine 58 = .ok (.iadd, 1) := fp_hdX12_readALine_54.1.1.1.1.2.1
theorem dX12_readALine_59 : decode cX12_readALine 59 = .ok (.istore_n 2, 1) := fp_hdX12_readALine_54.1.1.1.1.2.2
theorem dX12_readALine_60 : decode cX12_readALine 60 = .ok (.aload_n 0, 1) := fp_hdX12_readALine_54.1.1.1.2.1.1
theorem dX12_readALine_61 : decode cX12_readALine 61 = .ok (.getfield 98, 3) := fp_hdX12_readALine_54.1.1.1.2.1.2
theorem dX12_readALine_64 : decode cX12_readALine 64 = .ok (.ifCond .ne 143, 3) := fp_hdX12_readALine_54.1.1.1.2.2.1
theorem dX12_readALine_67 : decode cX12_readALine 67 = .ok (.aload_n 0, 1) := fp_hdX12_readALine_54.1.1.1.2.2.2
theorem dX12_readALine_68 : decode cX12_readALine 68 = .ok (.getfield 107, 3) := fp_hdX12_readALine_54.1.1.2.1.1.1
theorem dX12_readALine_71 : decode cX12_readALine 71 = .ok (.iconst 2, 1) := fp_hdX12_readALine_54.1.1.2.1.1.2
theorem dX12_readALine_72 : decode cX12_readALine 72 = .ok (.if_icmp .ne 135, 3) := fp_hdX12_readALine_54.1.1.2.1.2.1
theorem dX12_readALine_75 : decode cX12_readALine 75 = .ok (.aload_n 0, 1) := fp_hdX12_readALine_54.1.1.2.1.2.2
theorem dX12_readALine_76 : decode cX12_readALine 76 = .ok (.getfield 26, 3) := fp_hdX12_readALine_54.1.1.2.2.1.1
theorem dX12_readALine_79 : decode cX12_readALine 79 = .ok (.iload_n 2, 1) := fp_hdX12_readALine_54.1.1.2.2.1.2
theorem dX12_readALine_80 : decode cX12_readALine 80 = .ok (.iaload, 1) := fp_hdX12_readALine_54.1.1.2.2.2.1
theorem dX12_readALine_81 : decode cX12_readALine 81 = .ok (.bipush 8, 2) := fp_hdX12_readALine_54.1.1.2.2.2.2
theorem dX12_readALine_83 : decode cX12_readALine 83 = .ok (.if_icmp .ne 8, 3) := fp_hdX12_readALine_54.1.2.1.1.1.1
theorem dX12_readALine_86 : decode cX12_readALine 86 = .ok (.aload_n 0, 1) := fp_hdX12_readALine_54.1.2.1.1.1.2
theorem dX12_readALine_87 : decode cX12_readALine 87 = .ok (.iconst 5, 1) := fp_hdX12_readALine_54.1.2.1.1.2.1
theorem dX12_readALine_88 : decode cX12_readALine 88 = .ok (.invokevirtual 128, 3) := fp_hdX12_readALine_54.1.2.1.1.2.2
theorem dX12_readALine_91 : decode cX12_readALine 91 = .ok (.aload_n 0, 1) := fp_hdX12_readALine_54.1.2.1.2.1.1
theorem dX12_readALine_92 : decode cX12_readALine 92 = .ok (.iconst 0, 1) := fp_hdX12_readALine_54.1.2.1.2.1.2
theorem dX12_readALine_93 : decode cX12_readALine 93 = .ok (.bipush 9, 2) := fp_hdX12_readALine_54.1.2.1.2.2.1
theorem dX12_readALine_95 : decode cX12_readALine 95 = .ok (.invokevirtual 132, 3) := fp_hdX12_readALine_54.1.2.1.2.2.2
theorem dX12_readALine_98 : decode cX12_readALine 98 = .ok (.aload_n 0, 1) := fp_hdX12_readALine_54.1.2.2.1.1.1
theorem dX12_readALine_99 : decode cX12_readALine 99 = .ok (.getfield 98, 3) := fp_hdX12_readALine_54.1.2.2.1.1.2
theorem dX12_readALine_102 : decode cX12_readALine 102 = .ok (.ifCond .ne 23, 3) := fp_hdX12_readALine_54.1.2.2.1.2.1
theorem dX12_readALine_105 : decode cX12_readALine 105 = .ok (.aload_n 0, 1) := fp_hdX12_readALine_54.1.2.2.1.2.2
theorem dX12_readALine_106 : decode cX12_readALine 106 = .ok (.getfield 153, 3) := fp_hdX12_readALine_54.1.2.2.2.1.1
theorem dX12_readALine_109 : decode cX12_readALine 109 = .ok (.aload_n 0, 1) := fp_hdX12_readALine_54.1.2.2.2.1.2
theorem dX12_readALine_110 : decode cX12_readALine 110 = .ok (.getfield 117, 3) := fp_hdX12_readALine_54.1.2.2.2.2.1
theorem dX12_readALine_113 : decode cX12_readALine 113 = .ok (.ishr, 1) := fp_hdX12_readALine_54.1.2.2.2.2.2
theorem fp_hdX12_readALine_114 : (((((decode cX12_readALine 114 = .ok (.iconst 1, 1) ∧ decode cX12_readALine 115 = .ok (.iand, 1)) ∧ (decode cX12_readALine 116 = .ok (.iconst 1, 1) ∧ decode cX12_readALine 117 = .ok (.if_icmp .ne 8, 3))) ∧ ((decode cX12_readALine 120 = .ok (.aload_n 0, 1) ∧ decode cX12_readALine 121 = .ok (.iconst 4, 1)) ∧ (decode cX12_readALine 122 = .ok (.invokevirtual 128, 3) ∧ decode cX12_readALine 125 = .ok (.aload_n 0, 1)))) ∧ (((decode cX12_readALine 126 = .ok (.getfield 98, 3) ∧ decode cX12_readALine 129 = .ok (.ifCond .ne 71, 3)) ∧ (decode cX12_readALine 132 = .ok (.aload_n 0, 1) ∧ decode cX12_readALine 133 = .ok (.dup, 1))) ∧ ((decode cX12_readALine 134 = .ok (.getfield 153, 3) ∧ decode cX12_readALine 137 = .ok (.iconst 1, 1)) ∧ (decode cX12_readALine 138 = .ok (.aload_n 0, 1) ∧ decode cX12_readALine 139 = .ok (.getfield 117, 3))))) ∧ ((((decode cX12_readALine 142 = .ok (.ishl, 1) ∧ decode cX12_readALine 143 = .ok (.ior, 1)) ∧ (decode cX12_readALine 144 = .ok (.putfield 153, 3) ∧ decode cX12_readALine 147 = .ok (.aload_n 0, 1))) ∧ ((decode cX12_readALine 148 = .ok (.getfield 26, 3) ∧ decode cX12_readALine 151 = .ok (.iload_n 2, 1)) ∧ (decode cX12_readALine 152 = .ok (.dup2, 1) ∧ decode cX12_readALine 153 = .ok (.iaload, 1)))) ∧ (((decode cX12_readALine 154 = .ok (.iconst 1, 1) ∧ decode cX12_readALine 155 = .ok (.iadd, 1)) ∧ (decode cX12_readALine 156 = .ok (.iastore, 1) ∧ decode cX12_readALine 157 = .ok (.aload_n 0, 1))) ∧ ((decode cX12_readALine 158 = .ok (.getfield 26, 3) ∧ decode cX12_readALine 161 = .ok (.iload_n 2, 1)) ∧ (decode cX12_readALine 162 = .ok (.aload_n 0, 1) ∧ decode cX12_readALine 163 = .ok (.getfield 26, 3)))))) ∧ bA cX12_readALine 166 fp_scX12_readALine_3 :=
  have q0 := fp_o4 fp_hdX12_readALine_54.2
  have q1 := fp_o126 q0.2
  have q2 := fp_o4 q1.2
  have q3 := fp_o160 (v := 8) q2.2 rfl
  have q4 := fp_o42 q3.2
  have q5 := fp_o7 q4.2
  have q6 := fp_o182 (v := 128) q5.2 rfl
  have q7 := fp_o42 q6.2
  have q8 := fp_o180 (v := 98) q7.2 rfl
  have q9 := fp_o154 (v := 71) q8.2 rfl
  have q10 := fp_o42 q9.2
  have q11 := fp_o89 q10.2
  have q12 := fp_o180 (v := 153) q11.2 rfl
  have q13 := fp_o4 q12.2
  have q14 := fp_o42 q13.2
  have q15 := fp_o180 (v := 117) q14.2 rfl
  have q16 := fp_o120 q15.2
  have q17 := fp_o128 q16.2
  have q18 := fp_o181 (v := 153) q17.2 rfl
  have q19 := fp_o42 q18.2
  have q20 := fp_o180 (v := 26) q19.2 rfl
  have q21 := fp_o28 q20.2
  have q22 := fp_o92 q21.2
  have q23 := fp_o46 q22.2
  have q24 := fp_o4 q23.2
  have q25 := fp_o96 q24.2
  have q26 := fp_o79 q25.2
  have q27 := fp_o42 q26.2
  have q28 := fp_o180 (v := 26) q27.2 rfl
  have q29 := fp_o28 q28.2
  have q30 := fp_o42 q29.2
  have q31 := fp_o180 (v := 26) q30.2 rfl
  ⟨⟨⟨⟨⟨⟨q0.1, q1.1⟩, ⟨q2.1, q3.1⟩⟩, ⟨⟨q4.1, q5.1⟩, ⟨q6.1, q7.1⟩⟩⟩, ⟨⟨⟨q8.1, q9.1⟩, ⟨q10.1, q11.1⟩⟩, ⟨⟨q12.1, q13.1⟩, ⟨q14.1, q15.1⟩⟩⟩⟩, ⟨⟨⟨⟨q16.1, q17.1⟩, ⟨q18.1, q19.1⟩⟩, ⟨⟨q20.1, q21.1⟩, ⟨q22.1, q23.1⟩⟩⟩, ⟨⟨⟨q24.1, q25.1⟩, ⟨q26.1, q27.1⟩⟩, ⟨⟨q28.1, q29.1⟩, ⟨q30.1, q31.1⟩⟩⟩⟩⟩, q31.2⟩
theorem dX12_readALine_114 : decode cX12_readALine 114 = .ok (.iconst 1, 1) := fp_hdX12_readALine_114.1.1.1.1.1.1
theorem dX12_readALine_115 : decode cX12_readALine 115 = .ok (.iand, 1) := fp_hdX12_readALine_114.1.1.1.1.1.2
theorem dX12_readALine_116 : decode cX12_readALine 116 = .ok (.iconst 1, 1) := fp_hdX12_readALine_114.1.1.1.1.2.1
theorem dX12_readALine_117 : decode cX12_readALine 117 = .ok (.if_icmp .ne 8, 3) := fp_hdX12_readALine_114.1.1.1.1.2.2
theorem dX12_readALine_120 : decode cX12_readALine 120 = .ok (.aload_n 0, 1) := fp_hdX12_readALine_114.1.1.1.2.1.1
theorem dX12_readALine_121 : decode cX12_readALine 121 = .ok (.iconst 4, 1) := fp_hdX12_readALine_114.1.1.1.2.1.2
theorem dX12_readALine_122 : decode cX12_readALine 122 = .ok (.invokevirtual 128, 3) := fp_hdX12_readALine_114.1.1.1.2.2.1
theorem dX12_readALine_125 : decode cX12_readALine 125 = .ok (.aload_n 0, 1) := fp_hdX12_readALine_114.1.1.1.2.2.2
theorem dX12_readALine_126 : decode cX12_readALine 126 = .ok (.getfield 98, 3) := fp_hdX12_readALine_114.1.1.2.1.1.1
theorem dX12_readALine_129 : decode cX12_readALine 129 = .ok (.ifCond .ne 71, 3) := fp_hdX12_readALine_114.1.1.2.1.1.2
theorem dX12_readALine_132 : decode cX12_readALine 132 = .ok (.aload_n 0, 1) := fp_hdX12_readALine_114.1.1.2.1.2.1
theorem dX12_readALine_133 : decode cX12_readALine 133 = .ok (.dup, 1) := fp_hdX12_readALine_114.1.1.2.1.2.2
theorem dX12_readALine_134 : decode cX12_readALine 134 = .ok (.getfield 153, 3) := fp_hdX12_readALine_114.1.1.2.2.1.1
theorem dX12_readALine_137 : decode cX12_readALine 137 = .ok (.iconst 1, 1) := fp_hdX12_readALine_114.1.1.2.2.1.2
theorem dX12_readALine_138 : decode cX12_readALine 138 = .ok (.aload_n 0, 1) := fp_hdX12_readALine_114.1.1.2.2.2.1
theorem dX12_readALine_139 : decode cX12_readALine 139 = .ok (.getfield 117, 3) := fp_hdX12_readALine_114.1.1.2.2.2.2
theorem dX12_readALine_142 : decode cX12_readALine 142 = .ok (.ishl, 1) := fp_hdX12_readALine_114.1.2.1.1.1.1
theorem dX12_readALine_143 : decode cX12_readALine 143 = .ok (.ior, 1) := fp_hdX12_readALine_114.1.2.1.1.1.2
theorem dX12_readALine_144 : decode cX12_readALine 144 = .ok (.putfield 153, 3) := fp_hdX12_readALine_114.1.2.1.1.2.1
theorem dX12_readALine_147 : decode cX12_readALine 147 = .ok (.aload_n 0, 1) := fp_hdX12_readALine_114.1.2.1.1.2.2
theorem dX12_readALine_148 : decode cX12_readALine 148 = .ok (.getfield 26, 3) := fp_hdX12_readALine_114.1.2.1.2.1.1
theorem dX12_readALine_151 : decode cX12_readALine 151 = .ok (.iload_n 2, 1) := fp_hdX12_readALine_114.1.2.1.2.1.2
theorem dX12_readALine_152 : decode cX12_readALine 152 = .ok (.dup2, 1) := fp_hdX12_readALine_114.1.2.1.2.2.1
theorem dX12_readALine_153 : decode cX12_readALine 153 = .ok (.iaload, 1) := fp_hdX12_readALine_114.1.2.1.2.2.2
theorem dX12_readALine_154 : decode cX12_readALine 154 = .ok (.iconst 1, 1) := fp_hdX12_readALine_114.1.2.2.1.1.1
theorem dX12_readALine_155 : decode cX12_readALine 155 = .ok (.iadd, 1) := fp_hdX12_readALine_114.1.2.2.1.1.2
theorem dX12_readALine_156 : decode cX12_readALine 156 = .ok (.iastore, 1) := fp_hdX12_readALine_114.1.2.2.1.2.1
theorem dX12_readALine_157 : decode cX12_readALine 157 = .ok (.aload_n 0, 1) := fp_hdX12_readALine_114.1.2.2.1.2.2
theorem dX12_readALine_158 : decode cX12_readALine 158 = .ok (.getfield 26, 3) := fp_hdX12_readALine_114.1.2.2.2.1.1
theorem dX12_readALine_161 : decode cX12_readALine 161 = .ok (.iload_n 2, 1) := fp_hdX12_readALine_114.1.2.2.2.1.2
theorem dX12_readALine_162 : decode cX12_readALine 162 = .ok (.aload_n 0, 1) := fp_hdX12_readALine_114.1.2.2.2.2.1
theorem dX12_readALine_163 : decode cX12_readALine 163 = .ok (.getfield 26, 3) := fp_hdX12_readALine_114.1.2.2.2.2.2
theorem fp_hdX12_readALine_166 : (((((decode cX12_readALine 166 = .ok (.iload_n 2, 1) ∧ decode cX12_readALine 167 = .ok (.iaload, 1)) ∧ (decode cX12_readALine 168 = .ok (.iadd, 1) ∧ decode cX12_readALine 169 = .ok (.aload_n 0, 1))) ∧ ((decode cX12_readALine 170 = .ok (.getfield 117, 3) ∧ decode cX12_readALine 173 = .ok (.iastore, 1)) ∧ decode cX12_readALine 174 = .ok (.aload_n 0, 1))) ∧ (((decode cX12_readALine 175 = .ok (.aload_n 0, 1) ∧ decode cX12_readALine 176 = .ok (.getfield 117, 3)) ∧ (decode cX12_readALine 179 = .ok (.aload_n 0, 1) ∧ decode cX12_readALine 180 = .ok (.getfield 156, 3))) ∧ ((decode cX12_readALine 183 = .ok (.if_icmp .le 10, 3) ∧ decode cX12_readALine 186 = .ok (.aload_n 0, 1)) ∧ decode cX12_readALine 187 = .ok (.getfield 117, 3)))) ∧ ((((decode cX12_readALine 190 = .ok (.goto 7, 3) ∧ decode cX12_readALine 193 = .ok (.aload_n 0, 1)) ∧ (decode cX12_readALine 194 = .ok (.getfield 156, 3) ∧ decode cX12_readALine 197 = .ok (.putfield 156, 3))) ∧ ((decode cX12_readALine 200 = .ok (.aload_n 0, 1) ∧ decode cX12_readALine 201 = .ok (.invokevirtual 136, 3)) ∧ decode cX12_readALine 204 = .ok (.goto (-144), 3))) ∧ (((decode cX12_readALine 207 = .ok (.aload_n 0, 1) ∧ decode cX12_readALine 208 = .ok (.dup, 1)) ∧ (decode cX12_readALine 209 = .ok (.getfield 146, 3) ∧ decode cX12_readALine 212 = .ok (.iconst 1, 1))) ∧ ((decode cX12_readALine 213 = .ok (.iadd, 1) ∧ decode cX12_readALine 214 = .ok (.putfield 146, 3)) ∧ decode cX12_readALine 217 = .ok (.return_, 1))))) ∧ bA cX12_readALine 218 [] :=
  have q0 := fp_o28 fp_hdX12_readALine_114.2
  have q1 := fp_o46 q0.2
  have q2 := fp_o96 q1.2
  have q3 := fp_o42 q2.2
  have q4 := fp_o180 (v := 117) q3.2 rfl
  have q5 := fp_o79 q4.2
  have q6 := fp_o42 q5.2
  have q7 := fp_o42 q6.2
  have q8 := fp_o180 (v := 117) q7.2 rfl
  have q9 := fp_o42 q8.2
  have q10 := fp_o180 (v := 156) q9.2 rfl
  have q11 := fp_o164 (v := 10) q10.2 rfl
  have q12 := fp_o42 q11.2
  have q13 := fp_o180 (v := 117) q12.2 rfl
  have q14 := fp_o167 (v := 7) q13.2 rfl
  have q15 := fp_o42 q14.2
  have q16 := fp_o180 (v := 156) q15.2 rfl
  have q17 := fp_o181 (v := 156) q16.2 rfl
  have q18 := fp_o42 q17.2
  have q19 := fp_o182 (v := 136) q18.2 rfl
  have q20 := fp_o167 (v := (-144)) q19.2 rfl
  have q21 := fp_o42 q20.2
  have q22 := fp_o89 q21.2
  have q23 := fp_o180 (v := 146) q22.2 rfl
  have q24 := fp_o4 q23.2
  have q25 := fp_o96 q24.2
  have q26 := fp_o181 (v := 146) q25.2 rfl
  have q27 := fp_o177 q26.2
  ⟨⟨⟨⟨⟨⟨q0.1, q1.1⟩, ⟨q2.1, q3.1⟩⟩, ⟨⟨q4.1, q5.1⟩, q6.1⟩⟩, ⟨⟨⟨q7.1, q8.1⟩, ⟨q9.1, q10.1⟩⟩, ⟨⟨q11.1, q12.1⟩, q13.1⟩⟩⟩, ⟨⟨⟨⟨q14.1, q15.1⟩, ⟨q16.1, q17.1⟩⟩, ⟨⟨q18.1, q19.1⟩, q20.1⟩⟩, ⟨⟨⟨q21.1, q22.1⟩, ⟨q23.1, q24.1⟩⟩, ⟨⟨q25.1, q26.1⟩, q27.1⟩⟩⟩⟩, q27.2⟩
theorem dX12_readALine_166 : decode cX12_readALine 166 = .ok (.iload_n 2, 1) := fp_hdX12_readALine_166.1.1.1.1.1.1
theorem dX12_readALine_167 : decode cX12_readALine 167 = .ok (.iaload, 1) := fp_hdX12_readALine_166.1.1.1.1.1.2
theorem dX12_readALine_168 : decode cX12_readALine 168 = .ok (.iadd, 1) := fp_hdX12_readALine_166.1.1.1.1.2.1
theorem dX12_readALine_169 : decode cX12_readALine 169 = .ok (.aload_n 0, 1) := fp_hdX12_readALine_166.1.1.1.1.2.2
theorem dX12_readALine_170 : decode cX12_readALine 170 = .ok (.getfield 117, 3) := fp_hdX12_readALine_166.1.1.1.2.1.1
theorem dX12_readALine_173 : decode cX12_readALine 173 = .ok (.iastore, 1) := fp_hdX12_readALine_166.1.1.1.2.1.2
theorem dX12_readALine_174 : decode cX12_readALine 174 = .ok (.aload_n 0, 1) := fp_hdX12_readALine_166.1.1.1.2.2
theorem dX12_readALine_175 : decode cX12_readALine 175 = .ok (.aload_n 0, 1) := fp_hdX12_readALine_166.1.1.2.1.1.1
theorem dX12_readALine_176 : decode cX12_readALine 176 = .ok (.getfield 117, 3) := fp_hdX12_readALine_166.1.1.2.1.1.2
theorem dX12_readALine_179 : decode cX12_readALine 179 = .ok (.aload_n 0, 1) := fp_hdX12_readALine_166.1.1.2.1.2.1
theorem dX12_readALine_180 : decode cX12_readALine 180 = .ok (.getfield 156, 3) := fp_hdX12_readALine_166.1.1.2.1.2.2
theorem dX12_readALine_183 : decode cX12_readALine 183 = .ok (.if_icmp .le 10, 3) := fp_hdX12_readALine_166.1.1.2.2.1.1
theorem dX12_readALine_186 : decode cX12_readALine 186 = .ok (.aload_n 0, 1) := fp_hdX12_readALine_166.1.1.2.2.1.2
theorem dX12_readALine_187 : decode cX12_readALine 187 = .ok (.getfield 117, 3) := fp_hdX12_readALine_166.1.1.2.2.2
theorem dX12_readALine_190 : decode cX12_readALine 190 = .ok (.goto 7, 3) := fp_hdX12_readALine_166.1.2.1.1.1.1
theorem dX12_readALine_193 : decode cX12_readALine 193 = .ok (.aload_n 0, 1) := fp_hdX12_readALine_166.1.2.1.1.1.2
theorem dX12_readALine_194 : decode cX12_readALine 194 = .ok (.getfield 156, 3) := fp_hdX12_readALine_166.1.2.1.1.2.1
theorem dX12_readALine_197 : decode cX12_readALine 197 = .ok (.putfield 156, 3) := fp_hdX12_readALine_166.1.2.1.1.2.2
theorem dX12_readALine_200 : decode cX12_readALine 200 = .ok (.aload_n 0, 1) := fp_hdX12_readALine_166.1.2.1.2.1.1
theorem dX12_readALine_201 : decode cX12_readALine 201 = .ok (.invokevirtual 136, 3) := fp_hdX12_readALine_166.1.2.1.2.1.2
theorem dX12_readALine_204 : decode cX12_readALine 204 = .ok (.goto (-144), 3) := fp_hdX12_readALine_166.1.2.1.2.2
theorem dX12_readALine_207 : decode cX12_readALine 207 = .ok (.aload_n 0, 1) := fp_hdX12_readALine_166.1.2.2.1.1.1
theorem dX12_readALine_208 : decode cX12_readALine 208 = .ok (.dup, 1) := fp_hdX12_readALine_166.1.2.2.1.1.2
theorem dX12_readALine_209 : decode cX12_readALine 209 = .ok (.getfield 146, 3) := fp_hdX12_readALine_166.1.2.2.1.2.1
theorem dX12_readALine_212 : decode cX12_readALine 212 = .ok (.iconst 1, 1) := fp_hdX12_readALine_166.1.2.2.1.2.2
theorem dX12_readALine_213 : decode cX12_readALine 213 = .ok (.iadd, 1) := fp_hdX12_readALine_166.1.2.2.2.1.1
theorem dX12_readALine_214 : decode cX12_readALine 214 = .ok (.putfield 146, 3) := fp_hdX12_readALine_166.1.2.2.2.1.2
theorem dX12_readALine_217 : decode cX12_readALine 217 = .ok (.return_, 1) := fp_hdX12_readALine_166.1.2.2.2.2
def fp_scX12_readVisit_3 : List Nat := 96 :: 46 :: 42 :: 180 :: 0 :: 156 :: 164 :: 0 :: 14 :: 42 :: 180 :: 0 :: 26 :: 29 :: 6 :: 96 :: 46 :: 167 :: 0 :: 7 :: 42 :: 180 :: 0 :: 156 :: 181 :: 0 :: 156 :: 42 :: 180 :: 0 :: 26 :: 16 :: 95 :: 92 :: 46 :: 4 :: 96 :: 79 :: 177 :: []
def fp_scX12_readVisit_2 : List Nat := 42 :: 180 :: 0 :: 159 :: 164 :: 0 :: 14 :: 42 :: 180 :: 0 :: 26 :: 29 :: 5 :: 96 :: 46 :: 167 :: 0 :: 7 :: 42 :: 180 :: 0 :: 159 :: 181 :: 0 :: 159 :: 42 :: 180 :: 0 :: 26 :: 29 :: 6 :: 96 :: 27 :: 153 :: 0 :: 13 :: 42 :: 3 :: 16 :: 9 :: 182 :: 0 :: 142 :: 167 :: 0 :: 5 :: 16 :: 252 :: 79 :: 42 :: 42 :: 180 :: 0 :: 26 :: 29 :: 6 :: fp_scX12_readVisit_3
def fp_scX12_readVisit_1 : List Nat := 100 :: 46 :: 16 :: 99 :: 182 :: 0 :: 142 :: 79 :: 42 :: 180 :: 0 :: 26 :: 29 :: 4 :: 96 :: 42 :: 3 :: 6 :: 182 :: 0 :: 142 :: 79 :: 42 :: 180 :: 0 :: 26 :: 29 :: 5 :: 96 :: 42 :: 3 :: 5 :: 182 :: 0 :: 142 :: 79 :: 42 :: 42 :: 180 :: 0 :: 26 :: 29 :: 5 :: 96 :: 46 :: fp_scX12_readVisit_2
def fp_scX12_readVisit_0 : List Nat := 42 :: 180 :: 0 :: 26 :: 16 :: 95 :: 46 :: 61 :: 28 :: 16 :: 12 :: 160 :: 0 :: 9 :: 42 :: 8 :: 182 :: 0 :: 128 :: 177 :: 42 :: 182 :: 0 :: 136 :: 16 :: 47 :: 7 :: 28 :: 104 :: 96 :: 62 :: 42 :: 180 :: 0 :: 26 :: 29 :: 42 :: 28 :: 154 :: 0 :: 7 :: 3 :: 167 :: 0 :: 11 :: 42 :: 180 :: 0 :: 26 :: 29 :: 7 :: fp_scX12_readVisit_1
theorem fp_bcX12_readVisit : bA cX12_readVisit 0 fp_scX12_readVisit_0 := show cX12_readVisit.data.toList.map UInt8.toNat = fp_scX12_readVisit_0 from by decide +kernel
theorem fp_hdX12_readVisit_0 : (((((decode cX12_readVisit 0 = .ok (.aload_n 0, 1) ∧ decode cX12_readVisit 1 = .ok (.getfield 26, 3)) ∧ (decode cX12_readVisit 4 = .ok (.bipush 95, 2) ∧ decode cX12_readVisit 6 = .ok (.iaload, 1))) ∧ ((decode cX12_readVisit 7 = .ok (.istore_n 2, 1) ∧ decode cX12_readVisit 8 = .ok (.iload_n 2, 1)) ∧ (decode cX12_readVisit 9 = .ok (.bipush 12, 2) ∧ decode cX12_readVisit 11 = .ok (.if_icmp .ne 9, 3)))) ∧ (((decode cX12_readVisit 14 = .ok (.aload_n 0, 1) ∧ decode cX12_readVisit 15 = .ok (.iconst 5, 1)) ∧ (decode cX12_readVisit 16 = .ok (.invokevirtual 128, 3) ∧ decode cX12_readVisit 19 = .ok (.return_, 1))) ∧ ((decode cX12_readVisit 20 = .ok (.aload_n 0, 1) ∧ decode cX12_readVisit 21 = .ok (.invokevirtual 136, 3)) ∧ (decode cX12_readVisit 24 = .ok (.bipush 47, 2) ∧ decode cX12_readVisit 26 = .ok (.iconst 4, 1))))) ∧ ((((decode cX12_readVisit 27 = .ok (.iload_n 2, 1) ∧ decode cX12_readVisit 28 = .ok (.imul, 1)) ∧ (decode cX12_readVisit 29 = .ok (.iadd, 1) ∧ decode cX12_readVisit 30 = .ok (.istore_n 3, 1))) ∧ ((decode cX12_readVisit 31 = .ok (.aload_n 0, 1) ∧ decode cX12_readVisit 32 = .ok (.getfield 26, 3)) ∧ (decode cX12_readVisit 35 = .ok (.iload_n 3, 1) ∧ decode cX12_readVisit 36 = .ok (.aload_n 0, 1)))) ∧ (((decode cX12_readVisit 37 = .ok (.iload_n 2, 1) ∧ decode cX12_readVisit 38 = .ok (.ifCond .ne 7, 3)) ∧ (decode cX12_readVisit 41 = .ok (.iconst 0, 1) ∧ decode cX12_readVisit 42 = .ok (.goto 11, 3))) ∧ ((decode cX12_readVisit 45 = .ok (.aload_n 0, 1) ∧ decode cX12_readVisit 46 = .ok (.getfield 26, 3)) ∧ (decode cX12_readVisit 49 = .ok (.iload_n 3, 1) ∧ decode cX12_readVisit 50 = .ok (.iconst 4, 1)))))) ∧ bA cX12_readVisit 51 fp_scX12_readVisit_1 :=
  have q0 := fp_o42 fp_bcX12_readVisit
  have q1 := fp_o180 (v := 26) q0.2 rfl
  have q2 := fp_o16 (v := 95) q1.2 rfl
  have q3 := fp_o46 q2.2
  have q4 := fp_o61 q3.2
  have q5 := fp_o28 q4.2
  have q6 := fp_o16 (v := 12) q5.2 rfl
  have q7 := fp_o160 (v := 9) q6.2 rfl
  have q8 := fp_o42 q7.2
  have q9 := fp_o8 q8.2
  have q10 := fp_o182 (v := 128) q9.2 rfl
  have q11 := fp_o177 q10.2
  have q12 := fp_o42 q11.2
  have q13 := fp_o182 (v := 136) q12.2 rfl
  have q14 := fp_o16 (v := 47) q13.2 rfl
  have q15 := fp_o7 q14.2
  have q16 := fp_o28 q15.2
  have q17 := fp_o104 q16.2
  have q18 := fp_o96 q17.2
  have q19 := fp_o62 q18.2
  have q20 := fp_o42 q19.2
  have q21 := fp_o180 (v := 26) q20.2 rfl
  have q22 := fp_o29 q21.2
  have q23 := fp_o42 q22.2
  have q24 := fp_o28 q23.2
  have q25 := fp_o154 (v := 7) q24.2 rfl
  have q26 := fp_o3 q25.2
  have q27 := fp_o167 (v := 11) q26.2 rfl
  have q28 := fp_o42 q27.2
  have q29 := fp_o180 (v := 26) q28.2 rfl
  have q30 := fp_o29 q29.2
  have q31 := fp_o7 q30.2
  ⟨⟨⟨⟨⟨⟨q0.1, q1.1⟩, ⟨q2.1, q3.1⟩⟩, ⟨⟨q4.1, q5.1⟩, ⟨q6.1, q7.1⟩⟩⟩, ⟨⟨⟨q8.1, q9.1⟩, ⟨q10.1, q11.1⟩⟩, ⟨⟨q12.1, q13.1⟩, ⟨q14.1, q15.1⟩⟩⟩⟩, ⟨⟨⟨⟨q16.1, q17.1⟩, ⟨q18.1, q19.1⟩⟩, ⟨⟨q20.1, q21.1⟩, ⟨q22.1, q23.1⟩⟩⟩, ⟨⟨⟨q24.1, q25.1⟩, ⟨q26.1, q27.1⟩⟩, ⟨⟨q28.1, q29.1⟩, ⟨q30.1, q31.1⟩⟩⟩⟩⟩, q31.2⟩
theorem dX12_readVisit_0 : decode cX12_readVisit 0 = .ok (.aload_n 0, 1) := fp_hdX12_readVisit_0.1.1.1.1.1.1
theorem dX12_readVisit_1 : decode cX12_readVisit 1 = .ok (.getfield 26, 3) := fp_hdX12_readVisit_0.1.1.1.1.1.2
theorem dX12_readVisit_4 : decode cX12_readVisit 4 = .ok (.bipush 95, 2) := fp_hdX12_readVisit_0.1.1.1.1.2.1
theorem dX12_readVisit_6 : decode cX12_readVisit 6 = .ok (.iaload, 1) := fp_hdX12_readVisit_0.1.1.1.1.2.2
theorem dX12_readVisit_7 : decode cX12_readVisit 7 = .ok (.istore_n 2, 1) := fp_hdX12_readVisit_0.1.1.1.2.1.1
theorem dX12_readVisit_8 : decode cX12_readVisit 8 = .ok (.iload_n 2, 1) := fp_hdX12_readVisit_0.1.1.1.2.1.2
theorem dX12_readVisit_9 : decode cX12_readVisit 9 = .ok (.bipush 12, 2) := fp_hdX12_readVisit_0.1.1.1.2.2.1
theorem dX12_readVisit_11 : decode cX12_readVisit 11 = .ok (.if_icmp .ne 9, 3) := fp_hdX12_readVisit_0.1.1.1.2.2.2
theorem dX12_readVisit_14 : decode cX12_readVisit 14 = .ok (.aload_n 0, 1) := fp_hdX12_readVisit_0.1.1.2.1.1.1
theorem dX12_readVisit_15 : decode cX12_readVisit 15 = .ok (.iconst 5, 1) := fp_hdX12_readVisit_0.1.1.2.1.1.2
theorem dX12_readVisit_16 : decode cX12_readVisit 16 = .ok (.invokevirtual 128, 3) := fp_hdX12_readVisit_0.1.1.2.1.2.1
theorem dX12_readVisit_19 : decode cX12_readVisit 19 = .ok (.return_, 1) := fp_hdX12_readVisit_0.1.1.2.1.2.2
theorem dX12_readVisit_20 : decode cX12_readVisit 20 = .ok (.aload_n 0, 1) := fp_hdX12_readVisit_0.1.1.2.2.1.1
theorem dX12_readVisit_21 : decode cX12_readVisit 21 = .ok (.invokevirtual 136, 3) := fp_hdX12_readVisit_0.1.1.2.2.1.2
theorem dX12_readVisit_24 : decode cX12_readVisit 24 = .ok (.bipush 47, 2) := fp_hdX12_readVisit_0.1.1.2.2.2.1
theorem dX12_readVisit_26 : decode cX12_readVisit 26 = .ok (.iconst 4, 1) := fp_hdX12_readVisit_0.1.1.2.2.2.2
theorem dX12_readVisit_27 : decode cX12_readVisit 27 = .ok (.iload_n 2, 1) := fp_hdX12_readVisit_0.1.2.1.1.1.1
theorem dX12_readVisit_28 : decode cX12_readVisit 28 = .ok (.imul, 1) := fp_hdX12_readVisit_0.1.2.1.1.1.2
theorem dX12_readVisit_29 : decode cX12_readVisit 29 = .ok (.iadd, 1) := fp_hdX12_readVisit_0.1.2.1.1.2.1
theorem dX12_readVisit_30 : decode cX12_readVisit 30 = .ok (.istore_n 3, 1) := fp_hdX12_readVisit_0.1.2.1.1.2.2
theorem dX12_readVisit_31 : decode cX12_readVisit 31 = .ok (.aload_n 0, 1) := fp_hdX12_readVisit_0.1.2.1.2.1.1
theorem dX12_readVisit_32 : decode cX12_readVisit 32 = .ok (.getfield 26, 3) := fp_hdX12_readVisit_0.1.2.1.2.1.2
theorem dX12_readVisit_35 : decode cX12_readVisit 35 = .ok (.iload_n 3, 1) := fp_hdX12_readVisit_0.1.2.1.2.2.1
theorem dX12_readVisit_36 : decode cX12_readVisit 36 = .ok (.aload_n 0, 1) := fp_hdX12_readVisit_0.1.2.1.2.2.2
theorem dX12_readVisit_37 : decode cX12_readVisit 37 = .ok (.iload_n 2, 1) := fp_hdX12_readVisit_0.1.2.2.1.1.1
theorem dX12_readVisit_38 : decode cX12_readVisit 38 = .ok (.ifCond .ne 7, 3) := fp_hdX12_readVisit_0.1.2.2.1.1.2
theorem dX12_readVisit_41 : decode cX12_readVisit 41 = .ok (.iconst 0, 1) := fp_hdX12_readVisit_0.1.2.2.1.2.1
theorem dX12_readVisit_42 : decode cX12_readVisit 42 = .ok (.goto 11, 3) := fp_hdX12_readVisit_0.1.2.2.1.2.2
theorem dX12_readVisit_45 : decode cX12_readVisit 45 = .ok (.aload_n 0, 1) := fp_hdX12_readVisit_0.1.2.2.2.1.1
theorem dX12_readVisit_46 : decode cX12_readVisit 46 = .ok (.getfield 26, 3) := fp_hdX12_readVisit_0.1.2.2.2.1.2
theorem dX12_readVisit_49 : decode cX12_readVisit 49 = .ok (.iload_n 3, 1) := fp_hdX12_readVisit_0.1.2.2.2.2.1
theorem dX12_readVisit_50 : decode cX12_readVisit 50 = .ok (.iconst 4, 1) := fp_hdX12_readVisit_0.1.2.2.2.2.2
theorem fp_hdX12_readVisit_51 : (((((decode cX12_readVisit 51 = .ok (.isub, 1) ∧ decode cX12_readVisit 52 = .ok (.iaload, 1)) ∧ (decode cX12_readVisit 53 = .ok (.bipush 99, 2) ∧ decode cX12_readVisit 55 = .ok (.invokevirtual 142, 3))) ∧ ((decode cX12_readVisit 58 = .ok (.iastore, 1) ∧ decode cX12_readVisit 59 = .ok (.aload_n 0, 1)) ∧ (decode cX12_readVisit 60 = .ok (.getfield 26, 3) ∧ decode cX12_readVisit 63 = .ok (.iload_n 3, 1)))) ∧ (((decode cX12_readVisit 64 = .ok (.iconst 1, 1) ∧ decode cX12_readVisit 65 = .ok (.iadd, 1)) ∧ (decode cX12_readVisit 66 = .ok (.aload_n 0, 1) ∧ decode cX12_readVisit 67 = .ok (.iconst 0, 1))) ∧ ((decode cX12_readVisit 68 = .ok (.iconst 3, 1) ∧ decode cX12_readVisit 69 = .ok (.invokevirtual 142, 3)) ∧ (decode cX12_readVisit 72 = .ok (.iastore, 1) ∧ decode cX12_readVisit 73 = .ok (.aload_n 0, 1))))) ∧ ((((decode cX12_readVisit 74 = .ok (.getfield 26, 3) ∧ decode cX12_readVisit 77 = .ok (.iload_n 3, 1)) ∧ (decode cX12_readVisit 78 = .ok (.iconst 2, 1) ∧ decode cX12_readVisit 79 = .ok (.iadd, 1))) ∧ ((decode cX12_readVisit 80 = .ok (.aload_n 0, 1) ∧ decode cX12_readVisit 81 = .ok (.iconst 0, 1)) ∧ (decode cX12_readVisit 82 = .ok (.iconst 2, 1) ∧ decode cX12_readVisit 83 = .ok (.invokevirtual 142, 3)))) ∧ (((decode cX12_readVisit 86 = .ok (.iastore, 1) ∧ decode cX12_readVisit 87 = .ok (.aload_n 0, 1)) ∧ (decode cX12_readVisit 88 = .ok (.aload_n 0, 1) ∧ decode cX12_readVisit 89 = .ok (.getfield 26, 3))) ∧ ((decode cX12_readVisit 92 = .ok (.iload_n 3, 1) ∧ decode cX12_readVisit 93 = .ok (.iconst 2, 1)) ∧ (decode cX12_readVisit 94 = .ok (.iadd, 1) ∧ decode cX12_readVisit 95 = .ok (.iaload, 1)))))) ∧ bA cX12_readVisit 96 fp_scX12_readVisit_2 :=
  have q0 := fp_o100 fp_hdX12_readVisit_0.2
  have q1 := fp_o46 q0.2
  have q2 := fp_o16 (v := 99) q1.2 rfl
  have q3 := fp_o182 (v := 142) q2.2 rfl
  have q4 := fp_o79 q3.2
  have q5 := fp_o42 q4.2
  have q6 := fp_o180 (v := 26) q5.2 rfl
  have q7 := fp_o29 q6.2
  have q8 := fp_o4 q7.2
  have q9 := fp_o96 q8.2
  have q10 := fp_o42 q9.2
  have q11 := fp_o3 q10.2
  have q12 := fp_o6 q11.2
  have q13 := fp_o182 (v := 142) q12.2 rfl
  have q14 := fp_o79 q13.2
  have q15 := fp_o42 q14.2
  have q16 := fp_o180 (v := 26) q15.2 rfl
  have q17 := fp_o29 q16.2
  have q18 := fp_o5 q17.2
  have q19 := fp_o96 q18.2
  have q20 := fp_o42 q19.2
  have q21 := fp_o3 q20.2
  have q22 := fp_o5 q21.2
  have q23 := fp_o182 (v := 142) q22.2 rfl
  have q24 := fp_o79 q23.2
  have q25 := fp_o42 q24.2
  have q26 := fp_o42 q25.2
  have q27 := fp_o180 (v := 26) q26.2 rfl
  have q28 := fp_o29 q27.2
  have q29 := fp_o5 q28.2
  have q30 := fp_o96 q29.2
  have q31 := fp_o46 q30.2
  ⟨⟨⟨⟨⟨⟨q0.1, q1.1⟩, ⟨q2.1, q3.1⟩⟩, ⟨⟨q4.1, q5.1⟩, ⟨q6.1, q7.1⟩⟩⟩, ⟨⟨⟨q8.1, q9.1⟩, ⟨q10.1, q11.1⟩⟩, ⟨⟨q12.1, q13.1⟩, ⟨q14.1, q15.1⟩⟩⟩⟩, ⟨⟨⟨⟨q16.1, q17.1⟩, ⟨q18.1, q19.1⟩⟩, ⟨⟨q20.1, q21.1⟩, ⟨q22.1, q23.1⟩⟩⟩, ⟨⟨⟨q24.1, q25.1⟩, ⟨q26.1, q27.1⟩⟩, ⟨⟨q28.1, q29.1⟩, ⟨q30.1, q31.1⟩⟩⟩⟩⟩, q31.2⟩
theorem dX12_readVisit_51 : decode cX12_readVisit 51 = .ok (.isub, 1) := fp_hdX12_readVisit_51.1.1.1.1.1.1
theorem dX12_readVisit_52 : decode cX12_readVisit 52 = .ok (.iaload, 1) := fp_hdX12_readVisit_51.1.1.1.1.1.2
theorem dX12_readVisit_53 : decode cX12_readVisit 53 = .ok (.bipush 99, 2) := fp_hdX12_readVisit_51.1.1.1.1.2.1
theorem dX12_readVisit_55 : decode cX12_readVisit 55 = .ok (.invokevirtual 142, 3) := fp_hdX12_readVisit_51.1.1.1.1.2.2
theorem dX12_readVisit_58 : decode cX12_readVisit 58 = .ok (.iastore, 1) := fp_hdX12_readVisit_51.1.1.1.2.1.1
theorem dX12_readVisit_59 : decode cX12_readVisit 59 = .ok (.aload_n 0, 1) := fp_hdX12_readVisit_51.1.1.1.2.1.2
theorem dX12_readVisit_60 : decode cX12_readVisit 60 = .ok (.getfield 26, 3) := fp_hdX12_readVisit_51.1.1.1.2.2.1
theorem dX12_readVisit_63 : decode cX12_readVisit 63 = .ok (.iload_n 3, 1) := fp_hdX12_readVisit_51.1.1.1.2.2.2
theorem dX12_readVisit_64 : decode cX12_readVisit 64 = .ok (.iconst 1, 1) := fp_hdX12_readVisit_51.1.1.2.1.1.1
theorem dX12_readVisit_65 : decode cX12_readVisit 65 = .ok (.iadd, 1) := fp_hdX12_readVisit_51.1.1.2.1.1.2
theorem dX12_readVisit_66 : decode cX12_readVisit 66 = .ok (.aload_n 0, 1) := fp_hdX12_readVisit_51.1.1.2.1.2.1
theorem dX12_readVisit_67 : decode cX12_readVisit 67 = .ok (.iconst 0, 1) := fp_hdX12_readVisit_51.1.1.2.1.2.2
theorem dX12_readVisit_68 : decode cX12_readVisit 68 = .ok (.iconst 3, 1) := fp_hdX12_readVisit_51.1.1.2.2.1.1
theorem dX12_readVisit_69 : decode cX12_readVisit 69 = .ok (.invokevirtual 142, 3) := fp_hdX12_readVisit_51.1.1.2.2.1.2
theorem dX12_readVisit_72 : decode cX12_readVisit 72 = .ok (.iastore, 1) := fp_hdX12_readVisit_51.1.1.2.2.2.1
theorem dX12_readVisit_73 : decode cX12_readVisit 73 = .ok (.aload_n 0, 1) := fp_hdX12_readVisit_51.1.1.2.2.2.2
theorem dX12_readVisit_74 : decode cX12_readVisit 74 = .ok (.getfield 26, 3) := fp_hdX12_readVisit_51.1.2.1.1.1.1
theorem dX12_readVisit_77 : decode cX12_readVisit 77 = .ok (.iload_n 3, 1) := fp_hdX12_readVisit_51.1.2.1.1.1.2
theorem dX12_readVisit_78 : decode cX12_readVisit 78 = .ok (.iconst 2, 1) := fp_hdX12_readVisit_51.1.2.1.1.2.1
theorem dX12_readVisit_79 : decode cX12_readVisit 79 = .ok (.iadd, 1) := fp_hdX12_readVisit_51.1.2.1.1.2.2
theorem dX12_readVisit_80 : decode cX12_readVisit 80 = .ok (.aload_n 0, 1) := fp_hdX12_readVisit_51.1.2.1.2.1.1
theorem dX12_readVisit_81 : decode cX12_readVisit 81 = .ok (.iconst 0, 1) := fp_hdX12_readVisit_51.1.2.1.2.1.2
theorem dX12_readVisit_82 : decode cX12_readVisit 82 = .ok (.iconst 2, 1) := fp_hdX12_readVisit_51.1.2.1.2.2.1
theorem dX12_readVisit_83 : decode cX12_readVisit 83 = .ok (.invokevirtual 142, 3) := fp_hdX12_readVisit_51.1.2.1.2.2.2
theorem dX12_readVisit_86 : decode cX12_readVisit 86 = .ok (.iastore, 1) := fp_hdX12_readVisit_51.1.2.2.1.1.1
theorem dX12_readVisit_87 : decode cX12_readVisit 87 = .ok (.aload_n 0, 1) := fp_hdX12_readVisit_51.1.2.2.1.1.2
theorem dX12_readVisit_88 : decode cX12_readVisit 88 = .ok (.aload_n 0, 1) := fp_hdX12_readVisit_51.1.2.2.1.2.1
theorem dX12_readVisit_89 : decode cX12_readVisit 89 = .ok (.getfield 26, 3) := fp_hdX12_readVisit_51.1.2.2.1.2.2
theorem dX12_readVisit_92 : decode cX12_readVisit 92 = .ok (.iload_n 3, 1) := fp_hdX12_readVisit_51.1.2.2.2.1.1
theorem dX12_readVisit_93 : decode cX12_readVisit 93 = .ok (.iconst 2, 1) := fp_hdX12_readVisit_51.1.2.2.2.1.2
theorem dX12_readVisit_94 : decode cX12_readVisit 94 = .ok (.iadd, 1) := fp_hdX12_readVisit_51.1.2.2.2.2.1
theorem dX12_readVisit_95 : decode cX12_readVisit 95 = .ok (.iaload, 1) := fp_hdX12_readVisit_51.1.2.2.2.2.2
theorem fp_hdX12_readVisit_96 : (((((decode cX12_readVisit 96 = .ok (.aload_n 0, 1) ∧ decode cX12_readVisit 97 = .ok (.getfield 159, 3)) ∧ (decode cX12_readVisit 100 = .ok (.if_icmp .le 14, 3) ∧ decode cX12_readVisit 103 = .ok (.aload_n 0, 1))) ∧ ((decode cX12_readVisit 104 = .ok (.getfield 26, 3) ∧ decode cX12_readVisit 107 = .ok (.iload_n 3, 1)) ∧ (decode cX12_readVisit 108 = .ok (.iconst 2, 1) ∧ decode cX12_readVisit 109 = .ok (.iadd, 1)))) ∧ (((decode cX12_readVisit 110 = .ok (.iaload, 1) ∧ decode cX12_readVisit 111 = .ok (.goto 7, 3)) ∧ (decode cX12_readVisit 114 = .ok (.aload_n 0, 1) ∧ decode cX12_readVisit 115 = .ok (.getfield 159, 3))) ∧ ((decode cX12_readVisit 118 = .ok (.putfield 159, 3) ∧ decode cX12_readVisit 121 = .ok (.aload_n 0, 1)) ∧ (decode cX12_readVisit 122 = .ok (.getfield 26, 3) ∧ decode cX12_readVisit 125 = .ok (.iload_n 3, 1))))) ∧ ((((decode cX12_readVisit 126 = .ok (.iconst 3, 1) ∧ decode cX12_readVisit 127 = .ok (.iadd, 1)) ∧ (decode cX12_readVisit 128 = .ok (.iload_n 1, 1) ∧ decode cX12_readVisit 129 = .ok (.ifCond .eq 13, 3))) ∧ ((decode cX12_readVisit 132 = .ok (.aload_n 0, 1) ∧ decode cX12_readVisit 133 = .ok (.iconst 0, 1)) ∧ (decode cX12_readVisit 134 = .ok (.bipush 9, 2) ∧ decode cX12_readVisit 136 = .ok (.invokevirtual 142, 3)))) ∧ (((decode cX12_readVisit 139 = .ok (.goto 5, 3) ∧ decode cX12_readVisit 142 = .ok (.bipush (-4), 2)) ∧ (decode cX12_readVisit 144 = .ok (.iastore, 1) ∧ decode cX12_readVisit 145 = .ok (.aload_n 0, 1))) ∧ ((decode cX12_readVisit 146 = .ok (.aload_n 0, 1) ∧ decode cX12_readVisit 147 = .ok (.getfield 26, 3)) ∧ (decode cX12_readVisit 150 = .ok (.iload_n 3, 1) ∧ decode cX12_readVisit 151 = .ok (.iconst 3, 1)))))) ∧ bA cX12_readVisit 152 fp_scX12_readVisit_3 :=
  have q0 := fp_o42 fp_hdX12_readVisit_51.2
  have q1 := fp_o180 (v := 159) q0.2 rfl
  have q2 := fp_o164 (v := 14) q1.2 rfl
  have q3 := fp_o42 q2.2
  have q4 := fp_o180 (v := 26) q3.2 rfl
  have q5 := fp_o29 q4.2
  have q6 := fp_o5 q5.2
  have q7 := fp_o96 q6.2
  have q8 := fp_o46 q7.2
  have q9 := fp_o167 (v := 7) q8.2 rfl
  have q10 := fp_o42 q9.2
  have q11 := fp_o180 (v := 159) q10.2 rfl
  have q12 := fp_o181 (v := 159) q11.2 rfl
  have q13 := fp_o42 q12.2
  have q14 := fp_o180 (v := 26) q13.2 rfl
  have q15 := fp_o29 q14.2
  have q16 := fp_o6 q15.2
  have q17 := fp_o96 q16.2
  have q18 := fp_o27 q17.2
  have q19 := fp_o153 (v := 13) q18.2 rfl
  have q20 := fp_o42 q19.2
  have q21 := fp_o3 q20.2
  have q22 := fp_o16 (v := 9) q21.2 rfl
  have q23 := fp_o182 (v := 142) q22.2 rfl
  have q24 := fp_o167 (v := 5) q23.2 rfl
  have q25 := fp_o16 (v := (-4)) q24.2 rfl
  have q26 := fp_o79 q25.2
  have q27 := fp_o42 q26.2
  have q28 := fp_o42 q27.2
  have q29 := fp_o180 (v := 26) q28.2 rfl
  have q30 := fp_o29 q29.2
  have q31 := fp_o6 q30.2
  ⟨⟨⟨⟨⟨⟨q0.1, q1.1⟩, ⟨q2.1, q3.1⟩⟩, ⟨⟨q4.1, q5.1⟩, ⟨q6.1, q7.1⟩⟩⟩, ⟨⟨⟨q8.1, q9.1⟩, ⟨q10.1, q11.1⟩⟩, ⟨⟨q12.1, q13.1⟩, ⟨q14.1, q15.1⟩⟩⟩⟩, ⟨⟨⟨⟨q16.1, q17.1⟩, ⟨q18.1, q19.1⟩⟩, ⟨⟨q20.1, q21.1⟩, ⟨q22.1, q23.1⟩⟩⟩, ⟨⟨⟨q24.1, q25.1⟩, ⟨q26.1, q27.1⟩⟩, ⟨⟨q28.1, q29.1⟩, ⟨q30.1, q31.1⟩⟩⟩⟩⟩, q31.2⟩
theorem dX12_readVisit_96 : decode cX12_readVisit 96 = .ok (.aload_n 0, 1) := fp_hdX12_readVisit_96.1.1.1.1.1.1
theorem dX12_readVisit_97 : decode cX12_readVisit 97 = .ok (.getfield 159, 3) := fp_hdX12_readVisit_96.1.1.1.1.1.2
theorem dX12_readVisit_100 : decode cX12_readVisit 100 = .ok (.if_icmp .le 14, 3) := fp_hdX12_readVisit_96.1.1.1.1.2.1
theorem dX12_readVisit_103 : decode cX12_readVisit 103 = .ok (.aload_n 0, 1) := fp_hdX12_readVisit_96.1.1.1.1.2.2
theorem dX12_readVisit_104 : decode cX12_readVisit 104 = .ok (.getfield 26, 3) := fp_hdX12_readVisit_96.1.1.1.2.1.1
theorem dX12_readVisit_107 : decode cX12_readVisit 107 = .ok (.iload_n 3, 1) := fp_hdX12_readVisit_96.1.1.1.2.1.2
theorem dX12_readVisit_108 : decode cX12_readVisit 108 = .ok (.iconst 2, 1) := fp_hdX12_readVisit_96.1.1.1.2.2.1
theorem dX12_readVisit_109 : decode cX12_readVisit 109 = .ok (.iadd, 1) := fp_hdX12_readVisit_96.1.1.1.2.2.2
theorem dX12_readVisit_110 : decode cX12_readVisit 110 = .ok (.iaload, 1) := fp_hdX12_readVisit_96.1.1.2.1.1.1
theorem dX12_readVisit_111 : decode cX12_readVisit 111 = .ok (.goto 7, 3) := fp_hdX12_readVisit_96.1.1.2.1.1.2
theorem dX12_readVisit_114 : decode cX12_readVisit 114 = .ok (.aload_n 0, 1) := fp_hdX12_readVisit_96.1.1.2.1.2.1
theorem dX12_readVisit_115 : decode cX12_readVisit 115 = .ok (.getfield 159, 3) := fp_hdX12_readVisit_96.1.1.2.1.2.2
theorem dX12_readVisit_118 : decode cX12_readVisit 118 = .ok (.putfield 159, 3) := fp_hdX12_readVisit_96.1.1.2.2.1.1
theorem dX12_readVisit_121 : decode cX12_readVisit 121 = .ok (.aload_n 0, 1) := fp_hdX12_readVisit_96.1.1.2.2.1.2
theorem dX12_readVisit_122 : decode cX12_readVisit 122 = .ok (.getfield 26, 3) := fp_hdX12_readVisit_96.1.1.2.2.2.1
theorem dX12_readVisit_125 : decode cX12_readVisit 125 = .ok (.iload_n 3, 1) := fp_hdX12_readVisit_96.1.1.2.2.2.2
theorem dX12_readVisit_126 : decode cX12_readVisit 126 = .ok (.iconst 3, 1) := fp_hdX12_readVisit_96.1.2.1.1.1.1
theorem dX12_readVisit_127 : decode cX12_readVisit 127 = .ok (.iadd, 1) := fp_hdX12_readVisit_96.1.2.1.1.1.2
theorem dX12_readVisit_128 : decode cX12_readVisit 128 = .ok (.iload_n 1, 1) := fp_hdX12_readVisit_96.1.2.1.1.2.1
theorem dX12_readVisit_129 : decode cX12_readVisit 129 = .ok (.ifCond .eq 13, 3) := fp_hdX12_readVisit_96.1.2.1.1.2.2
theorem dX12_readVisit_132 : decode cX12_readVisit 132 = .ok (.aload_n 0, 1) := fp_hdX12_readVisit_96.1.2.1.2.1.1
theorem dX12_readVisit_133 : decode cX12_readVisit 133 = .ok (.iconst 0, 1) := fp_hdX12_readVisit_96.1.2.1.2.1.2
theorem dX12_readVisit_134 : decode cX12_readVisit 134 = .ok (.bipush 9, 2) := fp_hdX12_readVisit_96.1.2.1.2.2.1
theorem dX12_readVisit_136 : decode cX12_readVisit 136 = .ok (.invokevirtual 142, 3) := fp_hdX12_readVisit_96.1.2.1.2.2.2
theorem dX12_readVisit_139 : decode cX12_readVisit 139 = .ok (.goto 5, 3) := fp_hdX12_readVisit_96.1.2.2.1.1.1
theorem dX12_readVisit_142 : decode cX12_readVisit 142 = .ok (.bipush (-4), 2) := fp_hdX12_readVisit_96.1.2.2.1.1.2
theorem dX12_readVisit_144 : decode cX12_readVisit 144 = .ok (.iastore, 1) := fp_hdX12_readVisit_96.1.2.2.1.2.1
theorem dX12_readVisit_145 : decode cX12_readVisit 145 = .ok (.aload_n 0, 1) := fp_hdX12_readVisit_96.1.2.2.1.2.2
theorem dX12_readVisit_146 : decode cX12_readVisit 146 = .ok (.aload_n 0, 1) := fp_hdX12_readVisit_96.1.2.2.2.1.1
theorem dX12_readVisit_147 : decode cX12_readVisit 147 = .ok (.getfield 26, 3) := fp_hdX12_readVisit_96.1.2.2.2.1.2
theorem dX12_readVisit_150 : decode cX12_readVisit 150 = .ok (.iload_n 3, 1) := fp_hdX12_readVisit_96.1.2.2.2.2.1
theorem dX12_readVisit_151 : decode cX12_readVisit 151 = .ok (.iconst 3, 1) := fp_hdX12_readVisit_96.1.2.2.2.2.2
theorem fp_hdX12_readVisit_152 : (((((decode cX12_readVisit 152 = .ok (.iadd, 1) ∧ decode cX12_readVisit 153 = .ok (.iaload, 1)) ∧ decode cX12_readVisit 154 = .ok (.aload_n 0, 1)) ∧ ((decode cX12_readVisit 155 = .ok (.getfield 156, 3) ∧ decode cX12_readVisit 158 = .ok (.if_icmp .le 14, 3)) ∧ decode cX12_readVisit 161 = .ok (.aload_n 0, 1))) ∧ (((decode cX12_readVisit 162 = .ok (.getfield 26, 3) ∧ decode cX12_readVisit 165 = .ok (.iload_n 3, 1)) ∧ decode cX12_readVisit 166 = .ok (.iconst 3, 1)) ∧ ((decode cX12_readVisit 167 = .ok (.iadd, 1) ∧ decode cX12_readVisit 168 = .ok (.iaload, 1)) ∧ decode cX12_readVisit 169 = .ok (.goto 7, 3)))) ∧ ((((decode cX12_readVisit 172 = .ok (.aload_n 0, 1) ∧ decode cX12_readVisit 173 = .ok (.getfield 156, 3)) ∧ decode cX12_readVisit 176 = .ok (.putfield 156, 3)) ∧ ((decode cX12_readVisit 179 = .ok (.aload_n 0, 1) ∧ decode cX12_readVisit 180 = .ok (.getfield 26, 3)) ∧ decode cX12_readVisit 183 = .ok (.bipush 95, 2))) ∧ (((decode cX12_readVisit 185 = .ok (.dup2, 1) ∧ decode cX12_readVisit 186 = .ok (.iaload, 1)) ∧ decode cX12_readVisit 187 = .ok (.iconst 1, 1)) ∧ ((decode cX12_readVisit 188 = .ok (.iadd, 1) ∧ decode cX12_readVisit 189 = .ok (.iastore, 1)) ∧ decode cX12_readVisit 190 = .ok (.return_, 1))))) ∧ bA cX12_readVisit 191 [] :=
  have q0 := fp_o96 fp_hdX12_readVisit_96.2
  have q1 := fp_o46 q0.2
  have q2 := fp_o42 q1.2
  have q3 := fp_o180 (v := 156) q2.2 rfl
  have q4 := fp_o164 (v := 14) q3.2 rfl
  have q5 := fp_o42 q4.2
  have q6 := fp_o180 (v := 26) q5.2 rfl
  have q7 := fp_o29 q6.2
  have q8 := fp_o6 q7.2
  have q9 := fp_o96 q8.2
  have q10 := fp_o46 q9.2
  have q11 := fp_o167 (v := 7) q10.2 rfl
  have q12 := fp_o42 q11.2
  have q13 := fp_o180 (v := 156) q12.2 rfl
  have q14 := fp_o181 (v := 156) q13.2 rfl
  have q15 := fp_o42 q14.2
  have q16 := fp_o180 (v := 26) q15.2 rfl
  have q17 := fp_o16 (v := 95) q16.2 rfl
  have q18 := fp_o92 q17.2
  have q19 := fp_o46 q18.2
  have q20 := fp_o4 q19.2
  have q21 := fp_o96 q20.2
  have q22 := fp_o79 q21.2
  have q23 := fp_o177 q22.2
  ⟨⟨⟨⟨⟨⟨q0.1, q1.1⟩, q2.1⟩, ⟨⟨q3.1, q4.1⟩, q5.1⟩⟩, ⟨⟨⟨q6.1, q7.1⟩, q8.1⟩, ⟨⟨q9.1, q10.1⟩, q11.1⟩⟩⟩, ⟨⟨⟨⟨q12.1, q13.1⟩, q14.1⟩, ⟨⟨q15.1, q16.1⟩, q17.1⟩⟩, ⟨⟨⟨q18.1, q19.1⟩, q20.1⟩, ⟨⟨q21.1, q22.1⟩, q23.1⟩⟩⟩⟩, q23.2⟩
theorem dX12_readVisit_152 : decode cX12_readVisit 152 = .ok (.iadd, 1) := fp_hdX12_readVisit_152.1.1.1.1.1.1
theorem dX12_readVisit_153 : decode cX12_readVisit 153 = .ok (.iaload, 1) := fp_hdX12_readVisit_152.1.1.1.1.1.2
theorem dX12_readVisit_154 : decode cX12_readVisit 154 = .ok (.aload_n 0, 1) := fp_hdX12_readVisit_152.1.1.1.1.2
theorem dX12_readVisit_155 : decode cX12_readVisit 155 = .ok (.getfield 156, 3) := fp_hdX12_readVisit_152.1.1.1.2.1.1
theorem dX12_readVisit_158 : decode cX12_readVisit 158 = .ok (.if_icmp .le 14, 3) := fp_hdX12_readVisit_152.1.1.1.2.1.2
theorem dX12_readVisit_161 : decode cX12_readVisit 161 = .ok (.aload_n 0, 1) := fp_hdX12_readVisit_152.1.1.1.2.2
theorem dX12_readVisit_162 : decode cX12_readVisit 162 = .ok (.getfield 26, 3) := fp_hdX12_readVisit_152.1.1.2.1.1.1
theorem dX12_readVisit_165 : decode cX12_readVisit 165 = .ok (.iload_n 3, 1) := fp_hdX12_readVisit_152.1.1.2.1.1.2
theorem dX12_readVisit_166 : decode cX12_readVisit 166 = .ok (.iconst 3, 1) := fp_hdX12_readVisit_152.1.1.2.1.2
theorem dX12_readVisit_167 : decode cX12_readVisit 167 = .ok (.iadd, 1) := fp_hdX12_readVisit_152.1.1.2.2.1.1
theorem dX12_readVisit_168 : decode cX12_readVisit 168 = .ok (.iaload, 1) := fp_hdX12_readVisit_152.1.1.2.2.1.2
theorem dX12_readVisit_169 : decode cX12_readVisit 169 = .ok (.goto 7, 3) := fp_hdX12_readVisit_152.1.1.2.2.2
theorem dX12_readVisit_172 : decode cX12_readVisit 172 = .ok (.aload_n 0, 1) := fp_hdX12_readVisit_152.1.2.1.1.1.1
theorem dX12_readVisit_173 : decode cX12_readVisit 173 = .ok (.getfield 156, 3) := fp_hdX12_readVisit_152.1.2.1.1.1.2
theorem dX12_readVisit_176 : decode cX12_readVisit 176 = .ok (.putfield 156, 3) := fp_hdX12_readVisit_152.1.2.1.1.2
theorem dX12_readVisit_179 : decode cX12_readVisit 179 = .ok (.aload_n 0, 1) := fp_hdX12_readVisit_152.1.2.1.2.1.1
theorem dX12_readVisit_180 : decode cX12_readVisit 180 = .ok (.getfield 26, 3) := fp_hdX12_readVisit_152.1.2.1.2.1.2
theorem dX12_readVisit_183 : decode cX12_readVisit 183 = .ok (.bipush 95, 2) := fp_hdX12_readVisit_152.1.2.1.2.2
theorem dX12_readVisit_185 : decode cX12_readVisit 185 = .ok (.dup2, 1) := fp_hdX12_readVisit_152.1.2.2.1.1.1
theorem dX12_readVisit_186 : decode cX12_readVisit 186 = .ok (.iaload, 1) := fp_hdX12_readVisit_152.1.2.2.1.1.2
theorem dX12_readVisit_187 : decode cX12_readVisit 187 = .ok (.iconst 1, 1) := fp_hdX12_readVisit_152.1.2.2.1.2
theorem dX12_readVisit_188 : decode cX12_readVisit 188 = .ok (.iadd, 1) := fp_hdX12_readVisit_152.1.2.2.2.1.1
theorem dX12_readVisit_189 : decode cX12_readVisit 189 = .ok (.iastore, 1) := fp_hdX12_readVisit_152.1.2.2.2.1.2
theorem dX12_readVisit_190 : decode cX12_readVisit 190 = .ok (.return_, 1) := fp_hdX12_readVisit_152.1.2.2.2.2
def fp_scX12_readLine_2 : List Nat := 182 :: 0 :: 136 :: 177 :: []
def fp_scX12_readLine_1 : List Nat := 182 :: 0 :: 128 :: 42 :: 4 :: 181 :: 0 :: 170 :: 42 :: 182 :: 0 :: 136 :: 42 :: 42 :: 3 :: 16 :: 10 :: 182 :: 0 :: 142 :: 181 :: 0 :: 174 :: 167 :: 0 :: 17 :: 42 :: 27 :: 5 :: 160 :: 0 :: 7 :: 4 :: 167 :: 0 :: 4 :: 3 :: 182 :: 0 :: 177 :: 42 :: 180 :: 0 :: 98 :: 154 :: 0 :: 16 :: 42 :: 180 :: 0 :: 107 :: 6 :: 159 :: 0 :: 8 :: 42 :: 5 :: 182 :: 0 :: 128 :: 42 :: fp_scX12_readLine_2
def fp_scX12_readLine_0 : List Nat := 42 :: 182 :: 0 :: 149 :: 60 :: 27 :: 133 :: 9 :: 20 :: 0 :: 162 :: 184 :: 0 :: 94 :: 154 :: 0 :: 9 :: 42 :: 5 :: 182 :: 0 :: 128 :: 177 :: 27 :: 154 :: 0 :: 10 :: 42 :: 182 :: 0 :: 164 :: 167 :: 0 :: 69 :: 27 :: 4 :: 160 :: 0 :: 10 :: 42 :: 182 :: 0 :: 167 :: 167 :: 0 :: 57 :: 27 :: 7 :: 160 :: 0 :: 38 :: 42 :: 180 :: 0 :: 170 :: 153 :: 0 :: 8 :: 42 :: 7 :: fp_scX12_readLine_1
theorem fp_bcX12_readLine : bA cX12_readLine 0 fp_scX12_readLine_0 := show cX12_readLine.data.toList.map UInt8.toNat = fp_scX12_readLine_0 from by decide +kernel
theorem fp_hdX12_readLine_0 : (((((decode cX12_readLine 0 = .ok (.aload_n 0, 1) ∧ decode cX12_readLine 1 = .ok (.invokevirtual 149, 3)) ∧ (decode cX12_readLine 4 = .ok (.istore_n 1, 1) ∧ decode cX12_readLine 5 = .ok (.iload_n 1, 1))) ∧ ((decode cX12_readLine 6 = .ok (.i2l, 1) ∧ decode cX12_readLine 7 = .ok (.lconst 0, 1)) ∧ (decode cX12_readLine 8 = .ok (.ldc2_w 162, 3) ∧ decode cX12_readLine 11 = .ok (.invokestatic 94, 3)))) ∧ (((decode cX12_readLine 14 = .ok (.ifCond .ne 9, 3) ∧ decode cX12_readLine 17 = .ok (.aload_n 0, 1)) ∧ (decode cX12_readLine 18 = .ok (.iconst 2, 1) ∧ decode cX12_readLine 19 = .ok (.invokevirtual 128, 3))) ∧ ((decode cX12_readLine 22 = .ok (.return_, 1) ∧ decode cX12_readLine 23 = .ok (.iload_n 1, 1)) ∧ (decode cX12_readLine 24 = .ok (.ifCond .ne 10, 3) ∧ decode cX12_readLine 27 = .ok (.aload_n 0, 1))))) ∧ ((((decode cX12_readLine 28 = .ok (.invokevirtual 164, 3) ∧ decode cX12_readLine 31 = .ok (.goto 69, 3)) ∧ (decode cX12_readLine 34 = .ok (.iload_n 1, 1) ∧ decode cX12_readLine 35 = .ok (.iconst 1, 1))) ∧ ((decode cX12_readLine 36 = .ok (.if_icmp .ne 10, 3) ∧ decode cX12_readLine 39 = .ok (.aload_n 0, 1)) ∧ (decode cX12_readLine 40 = .ok (.invokevirtual 167, 3) ∧ decode cX12_readLine 43 = .ok (.goto 57, 3)))) ∧ (((decode cX12_readLine 46 = .ok (.iload_n 1, 1) ∧ decode cX12_readLine 47 = .ok (.iconst 4, 1)) ∧ (decode cX12_readLine 48 = .ok (.if_icmp .ne 38, 3) ∧ decode cX12_readLine 51 = .ok (.aload_n 0, 1))) ∧ ((decode cX12_readLine 52 = .ok (.getfield 170, 3) ∧ decode cX12_readLine 55 = .ok (.ifCond .eq 8, 3)) ∧ (decode cX12_readLine 58 = .ok (.aload_n 0, 1) ∧ decode cX12_readLine 59 = .ok (.iconst 4, 1)))))) ∧ bA cX12_readLine 60 fp_scX12_readLine_1 :=
  have q0 := fp_o42 fp_bcX12_readLine
  have q1 := fp_o182 (v := 149) q0.2 rfl
  have q2 := fp_o60 q1.2
  have q3 := fp_o27 q2.2
  have q4 := fp_o133 q3.2
  have q5 := fp_o9 q4.2
  have q6 := fp_o20 (v := 162) q5.2 rfl
  have q7 := fp_o184 (v := 94) q6.2 rfl
  have q8 := fp_o154 (v := 9) q7.2 rfl
  have q9 := fp_o42 q8.2
  have q10 := fp_o5 q9.2
  have q11 := fp_o182 (v := 128) q10.2 rfl
  have q12 := fp_o177 q11.2
  have q13 := fp_o27 q12.2
  have q14 := fp_o154 (v := 10) q13.2 rfl
  have q15 := fp_o42 q14.2
  have q16 := fp_o182 (v := 164) q15.2 rfl
  have q17 := fp_o167 (v := 69) q16.2 rfl
  have q18 := fp_o27 q17.2
  have q19 := fp_o4 q18.2
  have q20 := fp_o160 (v := 10) q19.2 rfl
  have q21 := fp_o42 q20.2
  have q22 := fp_o182 (v := 167) q21.2 rfl
  have q23 := fp_o167 (v := 57) q22.2 rfl
  have q24 := fp_o27 q23.2
  have q25 := fp_o7 q24.2
  have q26 := fp_o160 (v := 38) q25.2 rfl
  have q27 := fp_o42 q26.2
  have q28 := fp_o180 (v := 170) q27.2 rfl
  have q29 := fp_o153 (v := 8) q28.2 rfl
  have q30 := fp_o42 q29.2
  have q31 := fp_o7 q30.2
  ⟨⟨⟨⟨⟨⟨q0.1, q1.1⟩, ⟨q2.1, q3.1⟩⟩, ⟨⟨q4.1, q5.1⟩, ⟨q6.1, q7.1⟩⟩⟩, ⟨⟨⟨q8.1, q9.1⟩, ⟨q10.1, q11.1⟩⟩, ⟨⟨q12.1, q13.1⟩, ⟨q14.1, q15.1⟩⟩⟩⟩, ⟨⟨⟨⟨q16.1, q17.1⟩, ⟨q18.1, q19.1⟩⟩, ⟨⟨q20.1, q21.1⟩, ⟨q22.1, q23.1⟩⟩⟩, ⟨⟨⟨q24.1, q25.1⟩, ⟨q26.1, q27.1⟩⟩, ⟨⟨q28.1, q29.1⟩, ⟨q30.1, q31.1⟩⟩⟩⟩⟩, q31.2⟩
theorem dX12_readLine_0 : decode cX12_readLine 0 = .ok (.aload_n 0, 1) := fp_hdX12_readLine_0.1.1.1.1.1.1
theorem dX12_readLine_1 : decode cX12_readLine 1 = .ok (.invokevirtual 149, 3) := fp_hdX12_readLine_0.1.1.1.1.1.2
theorem dX12_readLine_4 : decode cX12_readLine 4 = .ok (.istore_n 1, 1) := fp_hdX12_readLine_0.1.1.1.1.2.1
theorem dX12_readLine_5 : decode cX12_readLine 5 = .ok (.iload_n 1, 1) := fp_hdX12_readLine_0.1.1.1.1.2.2
theorem dX12_readLine_6 : decode cX12_readLine 6 = .ok (.i2l, 1) := fp_hdX12_readLine_0.1.1.1.2.1.1
theorem dX12_readLine_7 : decode cX12_readLine 7 = .ok (.lconst 0, 1) := fp_hdX12_readLine_0.1.1.1.2.1.2
theorem dX12_readLine_8 : decode cX12_readLine 8 = .ok (.ldc2_w 162, 3) := fp_hdX12_readLine_0.1.1.1.2.2.1
theorem dX12_readLine_11 : decode cX12_readLine 11 = .ok (.invokestatic 94, 3) := fp_hdX12_readLine_0.1.1.1.2.2.2
theorem dX12_readLine_14 : decode cX12_readLine 14 = .ok (.ifCond .ne 9, 3) := fp_hdX12_readLine_0.1.1.2.1.1.1
theorem dX12_readLine_17 : decode cX12_readLine 17 = .ok (.aload_n 0, 1) := fp_hdX12_readLine_0.1.1.2.1.1.2
theorem dX12_readLine_18 : decode cX12_readLine 18 = .ok (.iconst 2, 1) := fp_hdX12_readLine_0.1.1.2.1.2.1
theorem dX12_readLine_19 : decode cX12_readLine 19 = .ok (.invokevirtual 128, 3) := fp_hdX12_readLine_0.1.1.2.1.2.2
theorem dX12_readLine_22 : decode cX12_readLine 22 = .ok (.return_, 1) := fp_hdX12_readLine_0.1.1.2.2.1.1
theorem dX12_readLine_23 : decode cX12_readLine 23 = .ok (.iload_n 1, 1) := fp_hdX12_readLine_0.1.1.2.2.1.2
theorem dX12_readLine_24 : decode cX12_readLine 24 = .ok (.ifCond .ne 10, 3) := fp_hdX12_readLine_0.1.1.2.2.2.1
theorem dX12_readLine_27 : decode cX12_readLine 27 = .ok (.aload_n 0, 1) := fp_hdX12_readLine_0.1.1.2.2.2.2
theorem dX12_readLine_28 : decode cX12_readLine 28 = .ok (.invokevirtual 164, 3) := fp_hdX12_readLine_0.1.2.1.1.1.1
theorem dX12_readLine_31 : decode cX12_readLine 31 = .ok (.goto 69, 3) := fp_hdX12_readLine_0.1.2.1.1.1.2
theorem dX12_readLine_34 : decode cX12_readLine 34 = .ok (.iload_n 1, 1) := fp_hdX12_readLine_0.1.2.1.1.2.1
theorem dX12_readLine_35 : decode cX12_readLine 35 = .ok (.iconst 1, 1) := fp_hdX12_readLine_0.1.2.1.1.2.2
theorem dX12_readLine_36 : decode cX12_readLine 36 = .ok (.if_icmp .ne 10, 3) := fp_hdX12_readLine_0.1.2.1.2.1.1
theorem dX12_readLine_39 : decode cX12_readLine 39 = .ok (.aload_n 0, 1) := fp_hdX12_readLine_0.1.2.1.2.1.2
theorem dX12_readLine_40 : decode cX12_readLine 40 = .ok (.invokevirtual 167, 3) := fp_hdX12_readLine_0.1.2.1.2.2.1
theorem dX12_readLine_43 : decode cX12_readLine 43 = .ok (.goto 57, 3) := fp_hdX12_readLine_0.1.2.1.2.2.2
theorem dX12_readLine_46 : decode cX12_readLine 46 = .ok (.iload_n 1, 1) := fp_hdX12_readLine_0.1.2.2.1.1.1
theorem dX12_readLine_47 : decode cX12_readLine 47 = .ok (.iconst 4, 1) := fp_hdX12_readLine_0.1.2.2.1.1.2
theorem dX12_readLine_48 : decode cX12_readLine 48 = .ok (.if_icmp .ne 38, 3) := fp_hdX12_readLine_0.1.2.2.1.2.1
theorem dX12_readLine_51 : decode cX12_readLine 51 = .ok (.aload_n 0, 1) := fp_hdX12_readLine_0.1.2.2.1.2.2
theorem dX12_readLine_52 : decode cX12_readLine 52 = .ok (.getfield 170, 3) := fp_hdX12_readLine_0.1.2.2.2.1.1
theorem dX12_readLine_55 : decode cX12_readLine 55 = .ok (.ifCond .eq 8, 3) := fp_hdX12_readLine_0.1.2.2.2.1.2
theorem dX12_readLine_58 : decode cX12_readLine 58 = .ok (.aload_n 0, 1) := fp_hdX12_readLine_0.1.2.2.2.2.1
theorem dX12_readLine_59 : decode cX12_readLine 59 = .ok (.iconst 4, 1) := fp_hdX12_readLine_0.1.2.2.2.2.2
theorem fp_hdX12_readLine_60 : (((((decode cX12_readLine 60 = .ok (.invokevirtual 128, 3) ∧ decode cX12_readLine 63 = .ok (.aload_n 0, 1)) ∧ (decode cX12_readLine 64 = .ok (.iconst 1, 1) ∧ decode cX12_readLine 65 = .ok (.putfield 170, 3))) ∧ ((decode cX12_readLine 68 = .ok (.aload_n 0, 1) ∧ decode cX12_readLine 69 = .ok (.invokevirtual 136, 3)) ∧ (decode cX12_readLine 72 = .ok (.aload_n 0, 1) ∧ decode cX12_readLine 73 = .ok (.aload_n 0, 1)))) ∧ (((decode cX12_readLine 74 = .ok (.iconst 0, 1) ∧ decode cX12_readLine 75 = .ok (.bipush 10, 2)) ∧ (decode cX12_readLine 77 = .ok (.invokevirtual 142, 3) ∧ decode cX12_readLine 80 = .ok (.putfield 174, 3))) ∧ ((decode cX12_readLine 83 = .ok (.goto 17, 3) ∧ decode cX12_readLine 86 = .ok (.aload_n 0, 1)) ∧ (decode cX12_readLine 87 = .ok (.iload_n 1, 1) ∧ decode cX12_readLine 88 = .ok (.iconst 2, 1))))) ∧ ((((decode cX12_readLine 89 = .ok (.if_icmp .ne 7, 3) ∧ decode cX12_readLine 92 = .ok (.iconst 1, 1)) ∧ (decode cX12_readLine 93 = .ok (.goto 4, 3) ∧ decode cX12_readLine 96 = .ok (.iconst 0, 1))) ∧ ((decode cX12_readLine 97 = .ok (.invokevirtual 177, 3) ∧ decode cX12_readLine 100 = .ok (.aload_n 0, 1)) ∧ (decode cX12_readLine 101 = .ok (.getfield 98, 3) ∧ decode cX12_readLine 104 = .ok (.ifCond .ne 16, 3)))) ∧ (((decode cX12_readLine 107 = .ok (.aload_n 0, 1) ∧ decode cX12_readLine 108 = .ok (.getfield 107, 3)) ∧ (decode cX12_readLine 111 = .ok (.iconst 3, 1) ∧ decode cX12_readLine 112 = .ok (.if_icmp .eq 8, 3))) ∧ ((decode cX12_readLine 115 = .ok (.aload_n 0, 1) ∧ decode cX12_readLine 116 = .ok (.iconst 2, 1)) ∧ (decode cX12_readLine 117 = .ok (.invokevirtual 128, 3) ∧ decode cX12_readLine 120 = .ok (.aload_n 0, 1)))))) ∧ bA cX12_readLine 121 fp_scX12_readLine_2 :=
  have q0 := fp_o182 (v := 128) fp_hdX12_readLine_0.2 rfl
  have q1 := fp_o42 q0.2
  have q2 := fp_o4 q1.2
  have q3 := fp_o181 (v := 170) q2.2 rfl
  have q4 := fp_o42 q3.2
  have q5 := fp_o182 (v := 136) q4.2 rfl
  have q6 := fp_o42 q5.2
  have q7 := fp_o42 q6.2
  have q8 := fp_o3 q7.2
  have q9 := fp_o16 (v := 10) q8.2 rfl
  have q10 := fp_o182 (v := 142) q9.2 rfl
  have q11 := fp_o181 (v := 174) q10.2 rfl
  have q12 := fp_o167 (v := 17) q11.2 rfl
  have q13 := fp_o42 q12.2
  have q14 := fp_o27 q13.2
  have q15 := fp_o5 q14.2
  have q16 := fp_o160 (v := 7) q15.2 rfl
  have q17 := fp_o4 q16.2
  have q18 := fp_o167 (v := 4) q17.2 rfl
  have q19 := fp_o3 q18.2
  have q20 := fp_o182 (v := 177) q19.2 rfl
  have q21 := fp_o42 q20.2
  have q22 := fp_o180 (v := 98) q21.2 rfl
  have q23 := fp_o154 (v := 16) q22.2 rfl
  have q24 := fp_o42 q23.2
  have q25 := fp_o180 (v := 107) q24.2 rfl
  have q26 := fp_o6 q25.2
  have q27 := fp_o159 (v := 8) q26.2 rfl
  have q28 := fp_o42 q27.2
  have q29 := fp_o5 q28.2
  have q30 := fp_o182 (v := 128) q29.2 rfl
  have q31 := fp_o42 q30.2
  ⟨⟨⟨⟨⟨⟨q0.1, q1.1⟩, ⟨q2.1, q3.1⟩⟩, ⟨⟨q4.1, q5.1⟩, ⟨q6.1, q7.1⟩⟩⟩, ⟨⟨⟨q8.1, q9.1⟩, ⟨q10.1, q11.1⟩⟩, ⟨⟨q12.1, q13.1⟩, ⟨q14.1, q15.1⟩⟩⟩⟩, ⟨⟨⟨⟨q16.1, q17.1⟩, ⟨q18.1, q19.1⟩⟩, ⟨⟨q20.1, q21.1⟩, ⟨q22.1, q23.1⟩⟩⟩, ⟨⟨⟨q24.1, q25.1⟩, ⟨q26.1, q27.1⟩⟩, ⟨⟨q28.1, q29.1⟩, ⟨q30.1, q31.1⟩⟩⟩⟩⟩, q31.2⟩
theorem dX12_readLine_60 : decode cX12_readLine 60 = .ok (.invokevirtual 128, 3) := fp_hdX12_readLine_60.1.1.1.1.1.1
theorem dX12_readLine_63 : decode cX12_readLine 63 = .ok (.aload_n 0, 1) := fp_hdX12_readLine_60.1.1.1.1.1.2
theorem dX12_readLine_64 : decode cX12_readLine 64 = .ok (.iconst 1, 1) := fp_hdX12_readLine_60.1.1.1.1.2.1
theorem dX12_readLine_65 : decode cX12_readLine 65 = .ok (.putfield 170, 3) := fp_hdX12_readLine_60.1.1.1.1.2.2
theorem dX12_readLine_68 : decode cX12_readLine 68 = .ok (.aload_n 0, 1) := fp_hdX12_readLine_60.1.1.1.2.1.1
theorem dX12_readLine_69 : decode cX12_readLine 69 = .ok (.invokevirtual 136, 3) := fp_hdX12_readLine_60.1.1.1.2.1.2
theorem dX12_readLine_72 : decode cX12_readLine 72 = .ok (.aload_n 0, 1) := fp_hdX12_readLine_60.1.1.1.2.2.1
theorem dX12_readLine_73 : decode cX12_readLine 73 = .ok (.aload_n 0, 1) := fp_hdX12_readLine_60.1.1.1.2.2.2
theorem dX12_readLine_74 : decode cX12_readLine 74 = .ok (.iconst 0, 1) := fp_hdX12_readLine_60.1.1.2.1.1.1
theorem dX12_readLine_75 : decode cX12_readLine 75 = .ok (.bipush 10, 2) := fp_hdX12_readLine_60.1.1.2.1.1.2
theorem dX12_readLine_77 : decode cX12_readLine 77 = .ok (.invokevirtual 142, 3) := fp_hdX12_readLine_60.1.1.2.1.2.1
theorem dX12_readLine_80 : decode cX12_readLine 80 = .ok (.putfield 174, 3) := fp_hdX12_readLine_60.1.1.2.1.2.2
theorem dX12_readLine_83 : decode cX12_readLine 83 = .ok (.goto 17, 3) := fp_hdX12_readLine_60.1.1.2.2.1.1
theorem dX12_readLine_86 : decode cX12_readLine 86 = .ok (.aload_n 0, 1) := fp_hdX12_readLine_60.1.1.2.2.1.2
theorem dX12_readLine_87 : decode cX12_readLine 87 = .ok (.iload_n 1, 1) := fp_hdX12_readLine_60.1.1.2.2.2.1
theorem dX12_readLine_88 : decode cX12_readLine 88 = .ok (.iconst 2, 1) := fp_hdX12_readLine_60.1.1.2.2.2.2
theorem dX12_readLine_89 : decode cX12_readLine 89 = .ok (.if_icmp .ne 7, 3) := fp_hdX12_readLine_60.1.2.1.1.1.1
theorem dX12_readLine_92 : decode cX12_readLine 92 = .ok (.iconst 1, 1) := fp_hdX12_readLine_60.1.2.1.1.1.2
theorem dX12_readLine_93 : decode cX12_readLine 93 = .ok (.goto 4, 3) := fp_hdX12_readLine_60.1.2.1.1.2.1
theorem dX12_readLine_96 : decode cX12_readLine 96 = .ok (.iconst 0, 1) := fp_hdX12_readLine_60.1.2.1.1.2.2
theorem dX12_readLine_97 : decode cX12_readLine 97 = .ok (.invokevirtual 177, 3) := fp_hdX12_readLine_60.1.2.1.2.1.1
theorem dX12_readLine_100 : decode cX12_readLine 100 = .ok (.aload_n 0, 1) := fp_hdX12_readLine_60.1.2.1.2.1.2
theorem dX12_readLine_101 : decode cX12_readLine 101 = .ok (.getfield 98, 3) := fp_hdX12_readLine_60.1.2.1.2.2.1
theorem dX12_readLine_104 : decode cX12_readLine 104 = .ok (.ifCond .ne 16, 3) := fp_hdX12_readLine_60.1.2.1.2.2.2
theorem dX12_readLine_107 : decode cX12_readLine 107 = .ok (.aload_n 0, 1) := fp_hdX12_readLine_60.1.2.2.1.1.1
theorem dX12_readLine_108 : decode cX12_readLine 108 = .ok (.getfield 107, 3) := fp_hdX12_readLine_60.1.2.2.1.1.2
theorem dX12_readLine_111 : decode cX12_readLine 111 = .ok (.iconst 3, 1) := fp_hdX12_readLine_60.1.2.2.1.2.1
theorem dX12_readLine_112 : decode cX12_readLine 112 = .ok (.if_icmp .eq 8, 3) := fp_hdX12_readLine_60.1.2.2.1.2.2
theorem dX12_readLine_115 : decode cX12_readLine 115 = .ok (.aload_n 0, 1) := fp_hdX12_readLine_60.1.2.2.2.1.1
theorem dX12_readLine_116 : decode cX12_readLine 116 = .ok (.iconst 2, 1) := fp_hdX12_readLine_60.1.2.2.2.1.2
theorem dX12_readLine_117 : decode cX12_readLine 117 = .ok (.invokevirtual 128, 3) := fp_hdX12_readLine_60.1.2.2.2.2.1
theorem dX12_readLine_120 : decode cX12_readLine 120 = .ok (.aload_n 0, 1) := fp_hdX12_readLine_60.1.2.2.2.2.2
theorem fp_hdX12_readLine_121 : (decode cX12_readLine 121 = .ok (.invokevirtual 136, 3) ∧ decode cX12_readLine 124 = .ok (.return_, 1)) ∧ bA cX12_readLine 125 [] :=
  have q0 := fp_o182 (v := 136) fp_hdX12_readLine_60.2 rfl
  have q1 := fp_o177 q0.2
  ⟨⟨q0.1, q1.1⟩, q1.2⟩
theorem dX12_readLine_121 : decode cX12_readLine 121 = .ok (.invokevirtual 136, 3) := fp_hdX12_readLine_121.1.1
theorem dX12_readLine_124 : decode cX12_readLine 124 = .ok (.return_, 1) := fp_hdX12_readLine_121.1.2
def fp_scX12_takes_3 : List Nat := 180 :: 0 :: 7 :: 16 :: 37 :: 29 :: 96 :: 42 :: 180 :: 0 :: 7 :: 29 :: 46 :: 79 :: 42 :: 180 :: 0 :: 7 :: 29 :: 16 :: 10 :: 27 :: 96 :: 79 :: 132 :: 2 :: 1 :: 167 :: 255 :: 197 :: 132 :: 1 :: 1 :: 167 :: 255 :: 181 :: 42 :: 180 :: 0 :: 78 :: 3 :: 3 :: 84 :: 42 :: 180 :: 0 :: 78 :: 4 :: 3 :: 84 :: 177 :: []
def fp_scX12_takes_2 : List Nat := 180 :: 0 :: 174 :: 181 :: 0 :: 22 :: 3 :: 60 :: 27 :: 42 :: 180 :: 0 :: 184 :: 162 :: 0 :: 73 :: 4 :: 61 :: 28 :: 42 :: 180 :: 0 :: 7 :: 16 :: 10 :: 16 :: 9 :: 27 :: 104 :: 96 :: 46 :: 163 :: 0 :: 49 :: 42 :: 180 :: 0 :: 7 :: 16 :: 10 :: 16 :: 9 :: 27 :: 104 :: 96 :: 28 :: 96 :: 46 :: 62 :: 42 :: fp_scX12_takes_3
def fp_scX12_takes_1 : List Nat := 112 :: 42 :: 180 :: 0 :: 29 :: 27 :: 16 :: 10 :: 112 :: 46 :: 79 :: 42 :: 180 :: 0 :: 19 :: 27 :: 6 :: 112 :: 42 :: 180 :: 0 :: 35 :: 27 :: 6 :: 112 :: 46 :: 79 :: 132 :: 1 :: 1 :: 167 :: 255 :: 201 :: 42 :: 42 :: 180 :: 0 :: 139 :: 181 :: 0 :: 181 :: 42 :: 42 :: 180 :: 0 :: 146 :: 181 :: 0 :: 184 :: 42 :: 42 :: fp_scX12_takes_2
def fp_scX12_takes_0 : List Nat := 3 :: 60 :: 27 :: 16 :: 120 :: 162 :: 0 :: 21 :: 42 :: 180 :: 0 :: 7 :: 27 :: 42 :: 180 :: 0 :: 26 :: 27 :: 46 :: 79 :: 132 :: 1 :: 1 :: 167 :: 255 :: 235 :: 3 :: 60 :: 27 :: 16 :: 40 :: 162 :: 0 :: 55 :: 42 :: 180 :: 0 :: 16 :: 27 :: 42 :: 180 :: 0 :: 32 :: 27 :: 46 :: 79 :: 42 :: 180 :: 0 :: 13 :: 27 :: 16 :: 10 :: fp_scX12_takes_1
theorem fp_bcX12_takes : bA cX12_takes 0 fp_scX12_takes_0 := show cX12_takes.data.toList.map UInt8.toNat = fp_scX12_takes_0 from by decide +kernel
theorem fp_hdX12_takes_0 : (((((decode cX12_takes 0 = .ok (.iconst 0, 1) ∧ decode cX12_takes 1 = .ok (.istore_n 1, 1)) ∧ (decode cX12_takes 2 = .ok (.iload_n 1, 1) ∧ decode cX12_takes 3 = .ok (.bipush 120, 2))) ∧ ((decode cX12_takes 5 = .ok (.if_icmp .ge 21, 3) ∧ decode cX12_takes 8 = .ok (.aload_n 0, 1)) ∧ (decode cX12_takes 9 = .ok (.getfield 7, 3) ∧ decode cX12_takes 12 = .ok (.iload_n 1, 1)))) ∧ (((decode cX12_takes 13 = .ok (.aload_n 0, 1) ∧ decode cX12_takes 14 = .ok (.getfield 26, 3)) ∧ (decode cX12_takes 17 = .ok (.iload_n 1, 1) ∧ decode cX12_takes 18 = .ok (.iaload, 1))) ∧ ((decode cX12_takes 19 = .ok (.iastore, 1) ∧ decode cX12_takes 20 = .ok (.iinc 1 1, 3)) ∧ (decode cX12_takes 23 = .ok (.goto (-21), 3) ∧ decode cX12_takes 26 = .ok (.iconst 0, 1))))) ∧ ((((decode cX12_takes 27 = .ok (.istore_n 1, 1) ∧ decode cX12_takes 28 = .ok (.iload_n 1, 1)) ∧ (decode cX12_takes 29 = .ok (.bipush 40, 2) ∧ decode cX12_takes 31 = .ok (.if_icmp .ge 55, 3))) ∧ ((decode cX12_takes 34 = .ok (.aload_n 0, 1) ∧ decode cX12_takes 35 = .ok (.getfield 16, 3)) ∧ (decode cX12_takes 38 = .ok (.iload_n 1, 1) ∧ decode cX12_takes 39 = .ok (.aload_n 0, 1)))) ∧ (((decode cX12_takes 40 = .ok (.getfield 32, 3) ∧ decode cX12_takes 43 = .ok (.iload_n 1, 1)) ∧ (decode cX12_takes 44 = .ok (.iaload, 1) ∧ decode cX12_takes 45 = .ok (.iastore, 1))) ∧ ((decode cX12_takes 46 = .ok (.aload_n 0, 1) ∧ decode cX12_takes 47 = .ok (.getfield 13, 3)) ∧ (decode cX12_takes 50 = .ok (.iload_n 1, 1) ∧ decode cX12_takes 51 = .ok (.bipush 10, 2)))))) ∧ bA cX12_takes 53 fp_scX12_takes_1 :=
  have q0 := fp_o3 fp_bcX12_takes
  have q1 := fp_o60 q0.2
  have q2 := fp_o27 q1.2
  have q3 := fp_o16 (v := 120) q2.2 rfl
  have q4 := fp_o162 (v := 21) q3.2 rfl
  have q5 := fp_o42 q4.2
  have q6 := fp_o180 (v := 7) q5.2 rfl
  have q7 := fp_o27 q6.2
  have q8 := fp_o42 q7.2
  have q9 := fp_o180 (v := 26) q8.2 rfl
  have q10 := fp_o27 q9.2
  have q11 := fp_o46 q10.2
  have q12 := fp_o79 q11.2
  have q13 := fp_o132 (v := 1) q12.2 rfl
  have q14 := fp_o167 (v := (-21)) q13.2 rfl
  have q15 := fp_o3 q14.2
  have q16 := fp_o60 q15.2
  have q17 := fp_o27 q16.2
  have q18 := fp_o16 (v := 40) q17.2 rfl
  have q19 := fp_o162 (v := 55) q18.2 rfl
  have q20 := fp_o42 q19.2
  have q21 := fp_o180 (v := 16) q20.2 rfl
  have q22 := fp_o27 q21.2
  have q23 := fp_o42 q22.2
  have q24 := fp_o180 (v := 32) q23.2 rfl
  have q25 := fp_o27 q24.2
  have q26 := fp_o46 q25.2
  have q27 := fp_o79 q26.2
  have q28 := fp_o42 q27.2
  have q29 := fp_o180 (v := 13) q28.2 rfl
  have q30 := fp_o27 q29.2
  have q31 := fp_o16 (v := 10) q30.2 rfl
  ⟨⟨⟨⟨⟨⟨q0.1, q1.1⟩, ⟨q2.1, q3.1⟩⟩, ⟨⟨q4.1, q5.1⟩, ⟨q6.1, q7.1⟩⟩⟩, ⟨⟨⟨q8.1, q9.1⟩, ⟨q10.1, q11.1⟩⟩, ⟨⟨q12.1, q13.1⟩, ⟨q14.1, q15.1⟩⟩⟩⟩, ⟨⟨⟨⟨q16.1, q17.1⟩, ⟨q18.1, q19.1⟩⟩, ⟨⟨q20.1, q21.1⟩, ⟨q22.1, q23.1⟩⟩⟩, ⟨⟨⟨q24.1, q25.1⟩, ⟨q26.1, q27.1⟩⟩, ⟨⟨q28.1, q29.1⟩, ⟨q30.1, q31.1⟩⟩⟩⟩⟩, q31.2⟩
theorem dX12_takes_0 : decode cX12_takes 0 = .ok (.iconst 0, 1) := fp_hdX12_takes_0.1.1.1.1.1.1
theorem dX12_takes_1 : decode cX12_takes 1 = .ok (.istore_n 1, 1) := fp_hdX12_takes_0.1.1.1.1.1.2
theorem dX12_takes_2 : decode cX12_takes 2 = .ok (.iload_n 1, 1) := fp_hdX12_takes_0.1.1.1.1.2.1
theorem dX12_takes_3 : decode cX12_takes 3 = .ok (.bipush 120, 2) := fp_hdX12_takes_0.1.1.1.1.2.2
theorem dX12_takes_5 : decode cX12_takes 5 = .ok (.if_icmp .ge 21, 3) := fp_hdX12_takes_0.1.1.1.2.1.1
theorem dX12_takes_8 : decode cX12_takes 8 = .ok (.aload_n 0, 1) := fp_hdX12_takes_0.1.1.1.2.1.2
theorem dX12_takes_9 : decode cX12_takes 9 = .ok (.getfield 7, 3) := fp_hdX12_takes_0.1.1.1.2.2.1
theorem dX12_takes_12 : decode cX12_takes 12 = .ok (.iload_n 1, 1) := fp_hdX12_takes_0.1.1.1.2.2.2
theorem dX12_takes_13 : decode cX12_takes 13 = .ok (.aload_n 0, 1) := fp_hdX12_takes_0.1.1.2.1.1.1
theorem dX12_takes_14 : decode cX12_takes 14 = .ok (.getfield 26, 3) := fp_hdX12_takes_0.1.1.2.1.1.2
theorem dX12_takes_17 : decode cX12_takes 17 = .ok (.iload_n 1, 1) := fp_hdX12_takes_0.1.1.2.1.2.1
theorem dX12_takes_18 : decode cX12_takes 18 = .ok (.iaload, 1) := fp_hdX12_takes_0.1.1.2.1.2.2
theorem dX12_takes_19 : decode cX12_takes 19 = .ok (.iastore, 1) := fp_hdX12_takes_0.1.1.2.2.1.1
theorem dX12_takes_20 : decode cX12_takes 20 = .ok (.iinc 1 1, 3) := fp_hdX12_takes_0.1.1.2.2.1.2
theorem dX12_takes_23 : decode cX12_takes 23 = .ok (.goto (-21), 3) := fp_hdX12_takes_0.1.1.2.2.2.1
theorem dX12_takes_26 : decode cX12_takes 26 = .ok (.iconst 0, 1) := fp_hdX12_takes_0.1.1.2.2.2.2
theorem dX12_takes_27 : decode cX12_takes 27 = .ok (.istore_n 1, 1) := fp_hdX12_takes_0.1.2.1.1.1.1
theorem dX12_takes_28 : decode cX12_takes 28 = .ok (.iload_n 1, 1) := fp_hdX12_takes_0.1.2.1.1.1.2
theorem dX12_takes_29 : decode cX12_takes 29 = .ok (.bipush 40, 2) := fp_hdX12_takes_0.1.2.1.1.2.1
theorem dX12_takes_31 : decode cX12_takes 31 = .ok (.if_icmp .ge 55, 3) := fp_hdX12_takes_0.1.2.1.1.2.2
theorem dX12_takes_34 : decode cX12_takes 34 = .ok (.aload_n 0, 1) := fp_hdX12_takes_0.1.2.1.2.1.1
theorem dX12_takes_35 : decode cX12_takes 35 = .ok (.getfield 16, 3) := fp_hdX12_takes_0.1.2.1.2.1.2
theorem dX12_takes_38 : decode cX12_takes 38 = .ok (.iload_n 1, 1) := fp_hdX12_takes_0.1.2.1.2.2.1
theorem dX12_takes_39 : decode cX12_takes 39 = .ok (.aload_n 0, 1) := fp_hdX12_takes_0.1.2.1.2.2.2
theorem dX12_takes_40 : decode cX12_takes 40 = .ok (.getfield 32, 3) := fp_hdX12_takes_0.1.2.2.1.1.1
theorem dX12_takes_43 : decode cX12_takes 43 = .ok (.iload_n 1, 1) := fp_hdX12_takes_0.1.2.2.1.1.2
theorem dX12_takes_44 : decode cX12_takes 44 = .ok (.iaload, 1) := fp_hdX12_takes_0.1.2.2.1.2.1
theorem dX12_takes_45 : decode cX12_takes 45 = .ok (.iastore, 1) := fp_hdX12_takes_0.1.2.2.1.2.2
theorem dX12_takes_46 : decode cX12_takes 46 = .ok (.aload_n 0, 1) := fp_hdX12_takes_0.1.2.2.2.1.1
theorem dX12_takes_47 : decode cX12_takes 47 = .ok (.getfield 13, 3) := fp_hdX12_takes_0.1.2.2.2.1.2
theorem dX12_takes_50 : decode cX12_takes 50 = .ok (.iload_n 1, 1) := fp_hdX12_takes_0.1.2.2.2.2.1
theorem dX12_takes_51 : decode cX12_takes 51 = .ok (.bipush 10, 2) := fp_hdX12_takes_0.1.2.2.2.2.2
theorem fp_hdX12_takes_53 : (((((decode cX12_takes 53 = .ok (.irem, 1) ∧ decode cX12_takes 54 = .ok (.aload_n 0, 1)) ∧ (decode cX12_takes 55 = .ok (.getfield 29, 3) ∧ decode cX12_takes 58 = .ok (.iload_n 1, 1))) ∧ ((decode cX12_takes 59 = .ok (.bipush 10, 2) ∧ decode cX12_takes 61 = .ok (.irem, 1)) ∧ (decode cX12_takes 62 = .ok (.iaload, 1) ∧ decode cX12_takes 63 = .ok (.iastore, 1)))) ∧ (((decode cX12_takes 64 = .ok (.aload_n 0, 1) ∧ decode cX12_takes 65 = .ok (.getfield 19, 3)) ∧ (decode cX12_takes 68 = .ok (.iload_n 1, 1) ∧ decode cX12_takes 69 = .ok (.iconst 3, 1))) ∧ ((decode cX12_takes 70 = .ok (.irem, 1) ∧ decode cX12_takes 71 = .ok (.aload_n 0, 1)) ∧ (decode cX12_takes 72 = .ok (.getfield 35, 3) ∧ decode cX12_takes 75 = .ok (.iload_n 1, 1))))) ∧ ((((decode cX12_takes 76 = .ok (.iconst 3, 1) ∧ decode cX12_takes 77 = .ok (.irem, 1)) ∧ (decode cX12_takes 78 = .ok (.iaload, 1) ∧ decode cX12_takes 79 = .ok (.iastore, 1))) ∧ ((decode cX12_takes 80 = .ok (.iinc 1 1, 3) ∧ decode cX12_takes 83 = .ok (.goto (-55), 3)) ∧ (decode cX12_takes 86 = .ok (.aload_n 0, 1) ∧ decode cX12_takes 87 = .ok (.aload_n 0, 1)))) ∧ (((decode cX12_takes 88 = .ok (.getfield 139, 3) ∧ decode cX12_takes 91 = .ok (.putfield 181, 3)) ∧ (decode cX12_takes 94 = .ok (.aload_n 0, 1) ∧ decode cX12_takes 95 = .ok (.aload_n 0, 1))) ∧ ((decode cX12_takes 96 = .ok (.getfield 146, 3) ∧ decode cX12_takes 99 = .ok (.putfield 184, 3)) ∧ (decode cX12_takes 102 = .ok (.aload_n 0, 1) ∧ decode cX12_takes 103 = .ok (.aload_n 0, 1)))))) ∧ bA cX12_takes 104 fp_scX12_takes_2 :=
  have q0 := fp_o112 fp_hdX12_takes_0.2
  have q1 := fp_o42 q0.2
  have q2 := fp_o180 (v := 29) q1.2 rfl
  have q3 := fp_o27 q2.2
  have q4 := fp_o16 (v := 10) q3.2 rfl
  have q5 := fp_o112 q4.2
  have q6 := fp_o46 q5.2
  have q7 := fp_o79 q6.2
  have q8 := fp_o42 q7.2
  have q9 := fp_o180 (v := 19) q8.2 rfl
  have q10 := fp_o27 q9.2
  have q11 := fp_o6 q10.2
  have q12 := fp_o112 q11.2
  have q13 := fp_o42 q12.2
  have q14 := fp_o180 (v := 35) q13.2 rfl
  have q15 := fp_o27 q14.2
  have q16 := fp_o6 q15.2
  have q17 := fp_o112 q16.2
  have q18 := fp_o46 q17.2
  have q19 := fp_o79 q18.2
  have q20 := fp_o132 (v := 1) q19.2 rfl
  have q21 := fp_o167 (v := (-55)) q20.2 rfl
  have q22 := fp_o42 q21.2
  have q23 := fp_o42 q22.2
  have q24 := fp_o180 (v := 139) q23.2 rfl
  have q25 := fp_o181 (v := 181) q24.2 rfl
  have q26 := fp_o42 q25.2
  have q27 := fp_o42 q26.2
  have q28 := fp_o180 (v := 146) q27.2 rfl
  have q29 := fp_o181 (v := 184) q28.2 rfl
  have q30 := fp_o42 q29.2
  have q31 := fp_o42 q30.2
  ⟨⟨⟨⟨⟨⟨q0.1, q1.1⟩, ⟨q2.1, q3.1⟩⟩, ⟨⟨q4.1, q5.1⟩, ⟨q6.1, q7.1⟩⟩⟩, ⟨⟨⟨q8.1, q9.1⟩, ⟨q10.1, q11.1⟩⟩, ⟨⟨q12.1, q13.1⟩, ⟨q14.1, q15.1⟩⟩⟩⟩, ⟨⟨⟨⟨q16.1, q17.1⟩, ⟨q18.1, q19.1⟩⟩, ⟨⟨q20.1, q21.1⟩, ⟨q22.1, q23.1⟩⟩⟩, ⟨⟨⟨q24.1, q25.1⟩, ⟨q26.1, q27.1⟩⟩, ⟨⟨q28.1, q29.1⟩, ⟨q30.1, q31.1⟩⟩⟩⟩⟩, q31.2⟩
theorem dX12_takes_53 : decode cX12_takes 53 = .ok (.irem, 1) := fp_hdX12_takes_53.1.1.1.1.1.1
theorem dX12_takes_54 : decode cX12_takes 54 = .ok (.aload_n 0, 1) := fp_hdX12_takes_53.1.1.1.1.1.2
theorem dX12_takes_55 : decode cX12_takes 55 = .ok (.getfield 29, 3) := fp_hdX12_takes_53.1.1.1.1.2.1
theorem dX12_takes_58 : decode cX12_takes 58 = .ok (.iload_n 1, 1) := fp_hdX12_takes_53.1.1.1.1.2.2
theorem dX12_takes_59 : decode cX12_takes 59 = .ok (.bipush 10, 2) := fp_hdX12_takes_53.1.1.1.2.1.1
theorem dX12_takes_61 : decode cX12_takes 61 = .ok (.irem, 1) := fp_hdX12_takes_53.1.1.1.2.1.2
theorem dX12_takes_62 : decode cX12_takes 62 = .ok (.iaload, 1) := fp_hdX12_takes_53.1.1.1.2.2.1
theorem dX12_takes_63 : decode cX12_takes 63 = .ok (.iastore, 1) := fp_hdX12_takes_53.1.1.1.2.2.2
theorem dX12_takes_64 : decode cX12_takes 64 = .ok (.aload_n 0, 1) := fp_hdX12_takes_53.1.1.2.1.1.1
theorem dX12_takes_65 : decode cX12_takes 65 = .ok (.getfield 19, 3) := fp_hdX12_takes_53.1.1.2.1.1.2
theorem dX12_takes_68 : decode cX12_takes 68 = .ok (.iload_n 1, 1) := fp_hdX12_takes_53.1.1.2.1.2.1
theorem dX12_takes_69 : decode cX12_takes 69 = .ok (.iconst 3, 1) := fp_hdX12_takes_53.1.1.2.1.2.2
theorem dX12_takes_70 : decode cX12_takes 70 = .ok (.irem, 1) := fp_hdX12_takes_53.1.1.2.2.1.1
theorem dX12_takes_71 : decode cX12_takes 71 = .ok (.aload_n 0, 1) := fp_hdX12_takes_53.1.1.2.2.1.2
theorem dX12_takes_72 : decode cX12_takes 72 = .ok (.getfield 35, 3) := fp_hdX12_takes_53.1.1.2.2.2.1
theorem dX12_takes_75 : decode cX12_takes 75 = .ok (.iload_n 1, 1) := fp_hdX12_takes_53.1.1.2.2.2.2
theorem dX12_takes_76 : decode cX12_takes 76 = .ok (.iconst 3, 1) := fp_hdX12_takes_53.1.2.1.1.1.1
theorem dX12_takes_77 : decode cX12_takes 77 = .ok (.irem, 1) := fp_hdX12_takes_53.1.2.1.1.1.2
theorem dX12_takes_78 : decode cX12_takes 78 = .ok (.iaload, 1) := fp_hdX12_takes_53.1.2.1.1.2.1
theorem dX12_takes_79 : decode cX12_takes 79 = .ok (.iastore, 1) := fp_hdX12_takes_53.1.2.1.1.2.2
theorem dX12_takes_80 : decode cX12_takes 80 = .ok (.iinc 1 1, 3) := fp_hdX12_takes_53.1.2.1.2.1.1
theorem dX12_takes_83 : decode cX12_takes 83 = .ok (.goto (-55), 3) := fp_hdX12_takes_53.1.2.1.2.1.2
theorem dX12_takes_86 : decode cX12_takes 86 = .ok (.aload_n 0, 1) := fp_hdX12_takes_53.1.2.1.2.2.1
theorem dX12_takes_87 : decode cX12_takes 87 = .ok (.aload_n 0, 1) := fp_hdX12_takes_53.1.2.1.2.2.2
theorem dX12_takes_88 : decode cX12_takes 88 = .ok (.getfield 139, 3) := fp_hdX12_takes_53.1.2.2.1.1.1
theorem dX12_takes_91 : decode cX12_takes 91 = .ok (.putfield 181, 3) := fp_hdX12_takes_53.1.2.2.1.1.2
theorem dX12_takes_94 : decode cX12_takes 94 = .ok (.aload_n 0, 1) := fp_hdX12_takes_53.1.2.2.1.2.1
theorem dX12_takes_95 : decode cX12_takes 95 = .ok (.aload_n 0, 1) := fp_hdX12_takes_53.1.2.2.1.2.2
theorem dX12_takes_96 : decode cX12_takes 96 = .ok (.getfield 146, 3) := fp_hdX12_takes_53.1.2.2.2.1.1
theorem dX12_takes_99 : decode cX12_takes 99 = .ok (.putfield 184, 3) := fp_hdX12_takes_53.1.2.2.2.1.2
theorem dX12_takes_102 : decode cX12_takes 102 = .ok (.aload_n 0, 1) := fp_hdX12_takes_53.1.2.2.2.2.1
theorem dX12_takes_103 : decode cX12_takes 103 = .ok (.aload_n 0, 1) := fp_hdX12_takes_53.1.2.2.2.2.2
theorem fp_hdX12_takes_104 : (((((decode cX12_takes 104 = .ok (.getfield 174, 3) ∧ decode cX12_takes 107 = .ok (.putfield 22, 3)) ∧ (decode cX12_takes 110 = .ok (.iconst 0, 1) ∧ decode cX12_takes 111 = .ok (.istore_n 1, 1))) ∧ ((decode cX12_takes 112 = .ok (.iload_n 1, 1) ∧ decode cX12_takes 113 = .ok (.aload_n 0, 1)) ∧ (decode cX12_takes 114 = .ok (.getfield 184, 3) ∧ decode cX12_takes 117 = .ok (.if_icmp .ge 73, 3)))) ∧ (((decode cX12_takes 120 = .ok (.iconst 1, 1) ∧ decode cX12_takes 121 = .ok (.istore_n 2, 1)) ∧ (decode cX12_takes 122 = .ok (.iload_n 2, 1) ∧ decode cX12_takes 123 = .ok (.aload_n 0, 1))) ∧ ((decode cX12_takes 124 = .ok (.getfield 7, 3) ∧ decode cX12_takes 127 = .ok (.bipush 10, 2)) ∧ (decode cX12_takes 129 = .ok (.bipush 9, 2) ∧ decode cX12_takes 131 = .ok (.iload_n 1, 1))))) ∧ ((((decode cX12_takes 132 = .ok (.imul, 1) ∧ decode cX12_takes 133 = .ok (.iadd, 1)) ∧ (decode cX12_takes 134 = .ok (.iaload, 1) ∧ decode cX12_takes 135 = .ok (.if_icmp .gt 49, 3))) ∧ ((decode cX12_takes 138 = .ok (.aload_n 0, 1) ∧ decode cX12_takes 139 = .ok (.getfield 7, 3)) ∧ (decode cX12_takes 142 = .ok (.bipush 10, 2) ∧ decode cX12_takes 144 = .ok (.bipush 9, 2)))) ∧ (((decode cX12_takes 146 = .ok (.iload_n 1, 1) ∧ decode cX12_takes 147 = .ok (.imul, 1)) ∧ (decode cX12_takes 148 = .ok (.iadd, 1) ∧ decode cX12_takes 149 = .ok (.iload_n 2, 1))) ∧ ((decode cX12_takes 150 = .ok (.iadd, 1) ∧ decode cX12_takes 151 = .ok (.iaload, 1)) ∧ (decode cX12_takes 152 = .ok (.istore_n 3, 1) ∧ decode cX12_takes 153 = .ok (.aload_n 0, 1)))))) ∧ bA cX12_takes 154 fp_scX12_takes_3 :=
  have q0 := fp_o180 (v := 174) fp_hdX12_takes_53.2 rfl
  have q1 := fp_o181 (v := 22) q0.2 rfl
  have q2 := fp_o3 q1.2
  have q3 := fp_o60 q2.2
  have q4 := fp_o27 q3.2
  have q5 := fp_o42 q4.2
  have q6 := fp_o180 (v := 184) q5.2 rfl
  have q7 := fp_o162 (v := 73) q6.2 rfl
  have q8 := fp_o4 q7.2
  have q9 := fp_o61 q8.2
  have q10 := fp_o28 q9.2
  have q11 := fp_o42 q10.2
  have q12 := fp_o180 (v := 7) q11.2 rfl
  have q13 := fp_o16 (v := 10) q12.2 rfl
  have q14 := fp_o16 (v := 9) q13.2 rfl
  have q15 := fp_o27 q14.2
  have q16 := fp_o104 q15.2
  have q17 := fp_o96 q16.2
  have q18 := fp_o46 q17.2
  have q19 := fp_o163 (v := 49) q18.2 rfl
  have q20 := fp_o42 q19.2
  have q21 := fp_o180 (v := 7) q20.2 rfl
  have q22 := fp_o16 (v := 10) q21.2 rfl
  have q23 := fp_o16 (v := 9) q22.2 rfl
  have q24 := fp_o27 q23.2
  have q25 := fp_o104 q24.2
  have q26 := fp_o96 q25.2
  have q27 := fp_o28 q26.2
  have q28 := fp_o96 q27.2
  have q29 := fp_o46 q28.2
  have q30 := fp_o62 q29.2
  have q31 := fp_o42 q30.2
  ⟨⟨⟨⟨⟨⟨q0.1, q1.1⟩, ⟨q2.1, q3.1⟩⟩, ⟨⟨q4.1, q5.1⟩, ⟨q6.1, q7.1⟩⟩⟩, ⟨⟨⟨q8.1, q9.1⟩, ⟨q10.1, q11.1⟩⟩, ⟨⟨q12.1, q13.1⟩, ⟨q14.1, q15.1⟩⟩⟩⟩, ⟨⟨⟨⟨q16.1, q17.1⟩, ⟨q18.1, q19.1⟩⟩, ⟨⟨q20.1, q21.1⟩, ⟨q22.1, q23.1⟩⟩⟩, ⟨⟨⟨q24.1, q25.1⟩, ⟨q26.1, q27.1⟩⟩, ⟨⟨q28.1, q29.1⟩, ⟨q30.1, q31.1⟩⟩⟩⟩⟩, q31.2⟩
theorem dX12_takes_104 : decode cX12_takes 104 = .ok (.getfield 174, 3) := fp_hdX12_takes_104.1.1.1.1.1.1
theorem dX12_takes_107 : decode cX12_takes 107 = .ok (.putfield 22, 3) := fp_hdX12_takes_104.1.1.1.1.1.2
theorem dX12_takes_110 : decode cX12_takes 110 = .ok (.iconst 0, 1) := fp_hdX12_takes_104.1.1.1.1.2.1
theorem dX12_takes_111 : decode cX12_takes 111 = .ok (.istore_n 1, 1) := fp_hdX12_takes_104.1.1.1.1.2.2
theorem dX12_takes_112 : decode cX12_takes 112 = .ok (.iload_n 1, 1) := fp_hdX12_takes_104.1.1.1.2.1.1
theorem dX12_takes_113 : decode cX12_takes 113 = .ok (.aload_n 0, 1) := fp_hdX12_takes_104.1.1.1.2.1.2
theorem dX12_takes_114 : decode cX12_takes 114 = .ok (.getfield 184, 3) := fp_hdX12_takes_104.1.1.1.2.2.1
theorem dX12_takes_117 : decode cX12_takes 117 = .ok (.if_icmp .ge 73, 3) := fp_hdX12_takes_104.1.1.1.2.2.2
theorem dX12_takes_120 : decode cX12_takes 120 = .ok (.iconst 1, 1) := fp_hdX12_takes_104.1.1.2.1.1.1
theorem dX12_takes_121 : decode cX12_takes 121 = .ok (.istore_n 2, 1) := fp_hdX12_takes_104.1.1.2.1.1.2
theorem dX12_takes_122 : decode cX12_takes 122 = .ok (.iload_n 2, 1) := fp_hdX12_takes_104.1.1.2.1.2.1
theorem dX12_takes_123 : decode cX12_takes 123 = .ok (.aload_n 0, 1) := fp_hdX12_takes_104.1.1.2.1.2.2
theorem dX12_takes_124 : decode cX12_takes 124 = .ok (.getfield 7, 3) := fp_hdX12_takes_104.1.1.2.2.1.1
theorem dX12_takes_127 : decode cX12_takes 127 = .ok (.bipush 10, 2) := fp_hdX12_takes_104.1.1.2.2.1.2
theorem dX12_takes_129 : decode cX12_takes 129 = .ok (.bipush 9, 2) := fp_hdX12_takes_104.1.1.2.2.2.1
theorem dX12_takes_131 : decode cX12_takes 131 = .ok (.iload_n 1, 1) := fp_hdX12_takes_104.1.1.2.2.2.2
theorem dX12_takes_132 : decode cX12_takes 132 = .ok (.imul, 1) := fp_hdX12_takes_104.1.2.1.1.1.1
theorem dX12_takes_133 : decode cX12_takes 133 = .ok (.iadd, 1) := fp_hdX12_takes_104.1.2.1.1.1.2
theorem dX12_takes_134 : decode cX12_takes 134 = .ok (.iaload, 1) := fp_hdX12_takes_104.1.2.1.1.2.1
theorem dX12_takes_135 : decode cX12_takes 135 = .ok (.if_icmp .gt 49, 3) := fp_hdX12_takes_104.1.2.1.1.2.2
theorem dX12_takes_138 : decode cX12_takes 138 = .ok (.aload_n 0, 1) := fp_hdX12_takes_104.1.2.1.2.1.1
theorem dX12_takes_139 : decode cX12_takes 139 = .ok (.getfield 7, 3) := fp_hdX12_takes_104.1.2.1.2.1.2
theorem dX12_takes_142 : decode cX12_takes 142 = .ok (.bipush 10, 2) := fp_hdX12_takes_104.1.2.1.2.2.1
theorem dX12_takes_144 : decode cX12_takes 144 = .ok (.bipush 9, 2) := fp_hdX12_takes_104.1.2.1.2.2.2
theorem dX12_takes_146 : decode cX12_takes 146 = .ok (.iload_n 1, 1) := fp_hdX12_takes_104.1.2.2.1.1.1
theorem dX12_takes_147 : decode cX12_takes 147 = .ok (.imul, 1) := fp_hdX12_takes_104.1.2.2.1.1.2
theorem dX12_takes_148 : decode cX12_takes 148 = .ok (.iadd, 1) := fp_hdX12_takes_104.1.2.2.1.2.1
theorem dX12_takes_149 : decode cX12_takes 149 = .ok (.iload_n 2, 1) := fp_hdX12_takes_104.1.2.2.1.2.2
theorem dX12_takes_150 : decode cX12_takes 150 = .ok (.iadd, 1) := fp_hdX12_takes_104.1.2.2.2.1.1
theorem dX12_takes_151 : decode cX12_takes 151 = .ok (.iaload, 1) := fp_hdX12_takes_104.1.2.2.2.1.2
theorem dX12_takes_152 : decode cX12_takes 152 = .ok (.istore_n 3, 1) := fp_hdX12_takes_104.1.2.2.2.2.1
theorem dX12_takes_153 : decode cX12_takes 153 = .ok (.aload_n 0, 1) := fp_hdX12_takes_104.1.2.2.2.2.2
theorem fp_hdX12_takes_154 : (((((decode cX12_takes 154 = .ok (.getfield 7, 3) ∧ decode cX12_takes 157 = .ok (.bipush 37, 2)) ∧ (decode cX12_takes 159 = .ok (.iload_n 3, 1) ∧ decode cX12_takes 160 = .ok (.iadd, 1))) ∧ ((decode cX12_takes 161 = .ok (.aload_n 0, 1) ∧ decode cX12_takes 162 = .ok (.getfield 7, 3)) ∧ (decode cX12_takes 165 = .ok (.iload_n 3, 1) ∧ decode cX12_takes 166 = .ok (.iaload, 1)))) ∧ (((decode cX12_takes 167 = .ok (.iastore, 1) ∧ decode cX12_takes 168 = .ok (.aload_n 0, 1)) ∧ (decode cX12_takes 169 = .ok (.getfield 7, 3) ∧ decode cX12_takes 172 = .ok (.iload_n 3, 1))) ∧ ((decode cX12_takes 173 = .ok (.bipush 10, 2) ∧ decode cX12_takes 175 = .ok (.iload_n 1, 1)) ∧ (decode cX12_takes 176 = .ok (.iadd, 1) ∧ decode cX12_takes 177 = .ok (.iastore, 1))))) ∧ ((((decode cX12_takes 178 = .ok (.iinc 2 1, 3) ∧ decode cX12_takes 181 = .ok (.goto (-59), 3)) ∧ (decode cX12_takes 184 = .ok (.iinc 1 1, 3) ∧ decode cX12_takes 187 = .ok (.goto (-75), 3))) ∧ ((decode cX12_takes 190 = .ok (.aload_n 0, 1) ∧ decode cX12_takes 191 = .ok (.getfield 78, 3)) ∧ (decode cX12_takes 194 = .ok (.iconst 0, 1) ∧ decode cX12_takes 195 = .ok (.iconst 0, 1)))) ∧ (((decode cX12_takes 196 = .ok (.bastore, 1) ∧ decode cX12_takes 197 = .ok (.aload_n 0, 1)) ∧ (decode cX12_takes 198 = .ok (.getfield 78, 3) ∧ decode cX12_takes 201 = .ok (.iconst 1, 1))) ∧ ((decode cX12_takes 202 = .ok (.iconst 0, 1) ∧ decode cX12_takes 203 = .ok (.bastore, 1)) ∧ decode cX12_takes 204 = .ok (.return_, 1))))) ∧ bA cX12_takes 205 [] :=
  have q0 := fp_o180 (v := 7) fp_hdX12_takes_104.2 rfl
  have q1 := fp_o16 (v := 37) q0.2 rfl
  have q2 := fp_o29 q1.2
  have q3 := fp_o96 q2.2
  have q4 := fp_o42 q3.2
  have q5 := fp_o180 (v := 7) q4.2 rfl
  have q6 := fp_o29 q5.2
  have q7 := fp_o46 q6.2
  have q8 := fp_o79 q7.2
  have q9 := fp_o42 q8.2
  have q10 := fp_o180 (v := 7) q9.2 rfl
  have q11 := fp_o29 q10.2
  have q12 := fp_o16 (v := 10) q11.2 rfl
  have q13 := fp_o27 q12.2
  have q14 := fp_o96 q13.2
  have q15 := fp_o79 q14.2
  have q16 := fp_o132 (v := 1) q15.2 rfl
  have q17 := fp_o167 (v := (-59)) q16.2 rfl
  have q18 := fp_o132 (v := 1) q17.2 rfl
  have q19 := fp_o167 (v := (-75)) q18.2 rfl
  have q20 := fp_o42 q19.2
  have q21 := fp_o180 (v := 78) q20.2 rfl
  have q22 := fp_o3 q21.2
  have q23 := fp_o3 q22.2
  have q24 := fp_o84 q23.2
  have q25 := fp_o42 q24.2
  have q26 := fp_o180 (v := 78) q25.2 rfl
  have q27 := fp_o4 q26.2
  have q28 := fp_o3 q27.2
  have q29 := fp_o84 q28.2
  have q30 := fp_o177 q29.2
  ⟨⟨⟨⟨⟨⟨q0.1, q1.1⟩, ⟨q2.1, q3.1⟩⟩, ⟨⟨q4.1, q5.1⟩, ⟨q6.1, q7.1⟩⟩⟩, ⟨⟨⟨q8.1, q9.1⟩, ⟨q10.1, q11.1⟩⟩, ⟨⟨q12.1, q13.1⟩, ⟨q14.1, q15.1⟩⟩⟩⟩, ⟨⟨⟨⟨q16.1, q17.1⟩, ⟨q18.1, q19.1⟩⟩, ⟨⟨q20.1, q21.1⟩, ⟨q22.1, q23.1⟩⟩⟩, ⟨⟨⟨q24.1, q25.1⟩, ⟨q26.1, q27.1⟩⟩, ⟨⟨q28.1, q29.1⟩, q30.1⟩⟩⟩⟩, q30.2⟩
theorem dX12_takes_154 : decode cX12_takes 154 = .ok (.getfield 7, 3) := fp_hdX12_takes_154.1.1.1.1.1.1
theorem dX12_takes_157 : decode cX12_takes 157 = .ok (.bipush 37, 2) := fp_hdX12_takes_154.1.1.1.1.1.2
theorem dX12_takes_159 : decode cX12_takes 159 = .ok (.iload_n 3, 1) := fp_hdX12_takes_154.1.1.1.1.2.1
theorem dX12_takes_160 : decode cX12_takes 160 = .ok (.iadd, 1) := fp_hdX12_takes_154.1.1.1.1.2.2
theorem dX12_takes_161 : decode cX12_takes 161 = .ok (.aload_n 0, 1) := fp_hdX12_takes_154.1.1.1.2.1.1
theorem dX12_takes_162 : decode cX12_takes 162 = .ok (.getfield 7, 3) := fp_hdX12_takes_154.1.1.1.2.1.2
theorem dX12_takes_165 : decode cX12_takes 165 = .ok (.iload_n 3, 1) := fp_hdX12_takes_154.1.1.1.2.2.1
theorem dX12_takes_166 : decode cX12_takes 166 = .ok (.iaload, 1) := fp_hdX12_takes_154.1.1.1.2.2.2
theorem dX12_takes_167 : decode cX12_takes 167 = .ok (.iastore, 1) := fp_hdX12_takes_154.1.1.2.1.1.1
theorem dX12_takes_168 : decode cX12_takes 168 = .ok (.aload_n 0, 1) := fp_hdX12_takes_154.1.1.2.1.1.2
theorem dX12_takes_169 : decode cX12_takes 169 = .ok (.getfield 7, 3) := fp_hdX12_takes_154.1.1.2.1.2.1
theorem dX12_takes_172 : decode cX12_takes 172 = .ok (.iload_n 3, 1) := fp_hdX12_takes_154.1.1.2.1.2.2
theorem dX12_takes_173 : decode cX12_takes 173 = .ok (.bipush 10, 2) := fp_hdX12_takes_154.1.1.2.2.1.1
theorem dX12_takes_175 : decode cX12_takes 175 = .ok (.iload_n 1, 1) := fp_hdX12_takes_154.1.1.2.2.1.2
theorem dX12_takes_176 : decode cX12_takes 176 = .ok (.iadd, 1) := fp_hdX12_takes_154.1.1.2.2.2.1
theorem dX12_takes_177 : decode cX12_takes 177 = .ok (.iastore, 1) := fp_hdX12_takes_154.1.1.2.2.2.2
theorem dX12_takes_178 : decode cX12_takes 178 = .ok (.iinc 2 1, 3) := fp_hdX12_takes_154.1.2.1.1.1.1
theorem dX12_takes_181 : decode cX12_takes 181 = .ok (.goto (-59), 3) := fp_hdX12_takes_154.1.2.1.1.1.2
theorem dX12_takes_184 : decode cX12_takes 184 = .ok (.iinc 1 1, 3) := fp_hdX12_takes_154.1.2.1.1.2.1
theorem dX12_takes_187 : decode cX12_takes 187 = .ok (.goto (-75), 3) := fp_hdX12_takes_154.1.2.1.1.2.2
theorem dX12_takes_190 : decode cX12_takes 190 = .ok (.aload_n 0, 1) := fp_hdX12_takes_154.1.2.1.2.1.1
theorem dX12_takes_191 : decode cX12_takes 191 = .ok (.getfield 78, 3) := fp_hdX12_takes_154.1.2.1.2.1.2
theorem dX12_takes_194 : decode cX12_takes 194 = .ok (.iconst 0, 1) := fp_hdX12_takes_154.1.2.1.2.2.1
theorem dX12_takes_195 : decode cX12_takes 195 = .ok (.iconst 0, 1) := fp_hdX12_takes_154.1.2.1.2.2.2
theorem dX12_takes_196 : decode cX12_takes 196 = .ok (.bastore, 1) := fp_hdX12_takes_154.1.2.2.1.1.1
theorem dX12_takes_197 : decode cX12_takes 197 = .ok (.aload_n 0, 1) := fp_hdX12_takes_154.1.2.2.1.1.2
theorem dX12_takes_198 : decode cX12_takes 198 = .ok (.getfield 78, 3) := fp_hdX12_takes_154.1.2.2.1.2.1
theorem dX12_takes_201 : decode cX12_takes 201 = .ok (.iconst 1, 1) := fp_hdX12_takes_154.1.2.2.1.2.2
theorem dX12_takes_202 : decode cX12_takes 202 = .ok (.iconst 0, 1) := fp_hdX12_takes_154.1.2.2.2.1.1
theorem dX12_takes_203 : decode cX12_takes 203 = .ok (.bastore, 1) := fp_hdX12_takes_154.1.2.2.2.1.2
theorem dX12_takes_204 : decode cX12_takes 204 = .ok (.return_, 1) := fp_hdX12_takes_154.1.2.2.2.2
def fp_scX12_bank_2 : List Nat := 180 :: 0 :: 146 :: 161 :: 0 :: 9 :: 42 :: 16 :: 6 :: 182 :: 0 :: 128 :: 42 :: 3 :: 181 :: 0 :: 91 :: 42 :: 42 :: 180 :: 0 :: 98 :: 181 :: 0 :: 190 :: 42 :: 180 :: 0 :: 98 :: 158 :: 0 :: 11 :: 16 :: 246 :: 42 :: 180 :: 0 :: 104 :: 100 :: 172 :: 42 :: 182 :: 0 :: 193 :: 27 :: 172 :: []
def fp_scX12_bank_1 : List Nat := 16 :: 120 :: 162 :: 0 :: 16 :: 42 :: 180 :: 0 :: 26 :: 28 :: 3 :: 79 :: 132 :: 2 :: 1 :: 167 :: 255 :: 240 :: 42 :: 182 :: 0 :: 136 :: 42 :: 180 :: 0 :: 98 :: 154 :: 0 :: 20 :: 42 :: 180 :: 0 :: 107 :: 153 :: 0 :: 13 :: 42 :: 182 :: 0 :: 187 :: 132 :: 1 :: 1 :: 167 :: 255 :: 235 :: 42 :: 180 :: 0 :: 98 :: 154 :: 0 :: 31 :: 42 :: 180 :: 0 :: 156 :: 42 :: 180 :: 0 :: 139 :: 162 :: 0 :: 14 :: 42 :: 180 :: 0 :: 159 :: 42 :: fp_scX12_bank_2
def fp_scX12_bank_0 : List Nat := 42 :: 3 :: 181 :: 0 :: 98 :: 42 :: 3 :: 181 :: 0 :: 110 :: 42 :: 3 :: 181 :: 0 :: 139 :: 42 :: 3 :: 181 :: 0 :: 146 :: 42 :: 16 :: 10 :: 181 :: 0 :: 174 :: 42 :: 3 :: 181 :: 0 :: 170 :: 42 :: 2 :: 181 :: 0 :: 156 :: 42 :: 2 :: 181 :: 0 :: 159 :: 42 :: 3 :: 181 :: 0 :: 153 :: 3 :: 60 :: 3 :: 61 :: 28 :: fp_scX12_bank_1
theorem fp_bcX12_bank : bA cX12_bank 0 fp_scX12_bank_0 := show cX12_bank.data.toList.map UInt8.toNat = fp_scX12_bank_0 from by decide +kernel
theorem fp_hdX12_bank_0 : (((((decode cX12_bank 0 = .ok (.aload_n 0, 1) ∧ decode cX12_bank 1 = .ok (.iconst 0, 1)) ∧ (decode cX12_bank 2 = .ok (.putfield 98, 3) ∧ decode cX12_bank 5 = .ok (.aload_n 0, 1))) ∧ ((decode cX12_bank 6 = .ok (.iconst 0, 1) ∧ decode cX12_bank 7 = .ok (.putfield 110, 3)) ∧ (decode cX12_bank 10 = .ok (.aload_n 0, 1) ∧ decode cX12_bank 11 = .ok (.iconst 0, 1)))) ∧ (((decode cX12_bank 12 = .ok (.putfield 139, 3) ∧ decode cX12_bank 15 = .ok (.aload_n 0, 1)) ∧ (decode cX12_bank 16 = .ok (.iconst 0, 1) ∧ decode cX12_bank 17 = .ok (.putfield 146, 3))) ∧ ((decode cX12_bank 20 = .ok (.aload_n 0, 1) ∧ decode cX12_bank 21 = .ok (.bipush 10, 2)) ∧ (decode cX12_bank 23 = .ok (.putfield 174, 3) ∧ decode cX12_bank 26 = .ok (.aload_n 0, 1))))) ∧ ((((decode cX12_bank 27 = .ok (.iconst 0, 1) ∧ decode cX12_bank 28 = .ok (.putfield 170, 3)) ∧ (decode cX12_bank 31 = .ok (.aload_n 0, 1) ∧ decode cX12_bank 32 = .ok (.iconst (-1), 1))) ∧ ((decode cX12_bank 33 = .ok (.putfield 156, 3) ∧ decode cX12_bank 36 = .ok (.aload_n 0, 1)) ∧ (decode cX12_bank 37 = .ok (.iconst (-1), 1) ∧ decode cX12_bank 38 = .ok (.putfield 159, 3)))) ∧ (((decode cX12_bank 41 = .ok (.aload_n 0, 1) ∧ decode cX12_bank 42 = .ok (.iconst 0, 1)) ∧ (decode cX12_bank 43 = .ok (.putfield 153, 3) ∧ decode cX12_bank 46 = .ok (.iconst 0, 1))) ∧ ((decode cX12_bank 47 = .ok (.istore_n 1, 1) ∧ decode cX12_bank 48 = .ok (.iconst 0, 1)) ∧ (decode cX12_bank 49 = .ok (.istore_n 2, 1) ∧ decode cX12_bank 50 = .ok (.iload_n 2, 1)))))) ∧ bA cX12_bank 51 fp_scX12_bank_1 :=
  have q0 := fp_o42 fp_bcX12_bank
  have q1 := fp_o3 q0.2
  have q2 := fp_o181 (v := 98) q1.2 rfl
  have q3 := fp_o42 q2.2
  have q4 := fp_o3 q3.2
  have q5 := fp_o181 (v := 110) q4.2 rfl
  have q6 := fp_o42 q5.2
  have q7 := fp_o3 q6.2
  have q8 := fp_o181 (v := 139) q7.2 rfl
  have q9 := fp_o42 q8.2
  have q10 := fp_o3 q9.2
  have q11 := fp_o181 (v := 146) q10.2 rfl
  have q12 := fp_o42 q11.2
  have q13 := fp_o16 (v := 10) q12.2 rfl
  have q14 := fp_o181 (v := 174) q13.2 rfl
  have q15 := fp_o42 q14.2
  have q16 := fp_o3 q15.2
  have q17 := fp_o181 (v := 170) q16.2 rfl
  have q18 := fp_o42 q17.2
  have q19 := fp_o2 q18.2
  have q20 := fp_o181 (v := 156) q19.2 rfl
  have q21 := fp_o42 q20.2
  have q22 := fp_o2 q21.2
  have q23 := fp_o181 (v := 159) q22.2 rfl
  have q24 := fp_o42 q23.2
  have q25 := fp_o3 q24.2
  have q26 := fp_o181 (v := 153) q25.2 rfl
  have q27 := fp_o3 q26.2
  have q28 := fp_o60 q27.2
  have q29 := fp_o3 q28.2
  have q30 := fp_o61 q29.2
  have q31 := fp_o28 q30.2
  ⟨⟨⟨⟨⟨⟨q0.1, q1.1⟩, ⟨q2.1, q3.1⟩⟩, ⟨⟨q4.1, q5.1⟩, ⟨q6.1, q7.1⟩⟩⟩, ⟨⟨⟨q8.1, q9.1⟩, ⟨q10.1, q11.1⟩⟩, ⟨⟨q12.1, q13.1⟩, ⟨q14.1, q15.1⟩⟩⟩⟩, ⟨⟨⟨⟨q16.1, q17.1⟩, ⟨q18.1, q19.1⟩⟩, ⟨⟨q20.1, q21.1⟩, ⟨q22.1, q23.1⟩⟩⟩, ⟨⟨⟨q24.1, q25.1⟩, ⟨q26.1, q27.1⟩⟩, ⟨⟨q28.1, q29.1⟩, ⟨q30.1, q31.1⟩⟩⟩⟩⟩, q31.2⟩
theorem dX12_bank_0 : decode cX12_bank 0 = .ok (.aload_n 0, 1) := fp_hdX12_bank_0.1.1.1.1.1.1
theorem dX12_bank_1 : decode cX12_bank 1 = .ok (.iconst 0, 1) := fp_hdX12_bank_0.1.1.1.1.1.2
theorem dX12_bank_2 : decode cX12_bank 2 = .ok (.putfield 98, 3) := fp_hdX12_bank_0.1.1.1.1.2.1
theorem dX12_bank_5 : decode cX12_bank 5 = .ok (.aload_n 0, 1) := fp_hdX12_bank_0.1.1.1.1.2.2
theorem dX12_bank_6 : decode cX12_bank 6 = .ok (.iconst 0, 1) := fp_hdX12_bank_0.1.1.1.2.1.1
theorem dX12_bank_7 : decode cX12_bank 7 = .ok (.putfield 110, 3) := fp_hdX12_bank_0.1.1.1.2.1.2
theorem dX12_bank_10 : decode cX12_bank 10 = .ok (.aload_n 0, 1) := fp_hdX12_bank_0.1.1.1.2.2.1
theorem dX12_bank_11 : decode cX12_bank 11 = .ok (.iconst 0, 1) := fp_hdX12_bank_0.1.1.1.2.2.2
theorem dX12_bank_12 : decode cX12_bank 12 = .ok (.putfield 139, 3) := fp_hdX12_bank_0.1.1.2.1.1.1
theorem dX12_bank_15 : decode cX12_bank 15 = .ok (.aload_n 0, 1) := fp_hdX12_bank_0.1.1.2.1.1.2
theorem dX12_bank_16 : decode cX12_bank 16 = .ok (.iconst 0, 1) := fp_hdX12_bank_0.1.1.2.1.2.1
theorem dX12_bank_17 : decode cX12_bank 17 = .ok (.putfield 146, 3) := fp_hdX12_bank_0.1.1.2.1.2.2
theorem dX12_bank_20 : decode cX12_bank 20 = .ok (.aload_n 0, 1) := fp_hdX12_bank_0.1.1.2.2.1.1
theorem dX12_bank_21 : decode cX12_bank 21 = .ok (.bipush 10, 2) := fp_hdX12_bank_0.1.1.2.2.1.2
theorem dX12_bank_23 : decode cX12_bank 23 = .ok (.putfield 174, 3) := fp_hdX12_bank_0.1.1.2.2.2.1
theorem dX12_bank_26 : decode cX12_bank 26 = .ok (.aload_n 0, 1) := fp_hdX12_bank_0.1.1.2.2.2.2
theorem dX12_bank_27 : decode cX12_bank 27 = .ok (.iconst 0, 1) := fp_hdX12_bank_0.1.2.1.1.1.1
theorem dX12_bank_28 : decode cX12_bank 28 = .ok (.putfield 170, 3) := fp_hdX12_bank_0.1.2.1.1.1.2
theorem dX12_bank_31 : decode cX12_bank 31 = .ok (.aload_n 0, 1) := fp_hdX12_bank_0.1.2.1.1.2.1
theorem dX12_bank_32 : decode cX12_bank 32 = .ok (.iconst (-1), 1) := fp_hdX12_bank_0.1.2.1.1.2.2
theorem dX12_bank_33 : decode cX12_bank 33 = .ok (.putfield 156, 3) := fp_hdX12_bank_0.1.2.1.2.1.1
theorem dX12_bank_36 : decode cX12_bank 36 = .ok (.aload_n 0, 1) := fp_hdX12_bank_0.1.2.1.2.1.2
theorem dX12_bank_37 : decode cX12_bank 37 = .ok (.iconst (-1), 1) := fp_hdX12_bank_0.1.2.1.2.2.1
theorem dX12_bank_38 : decode cX12_bank 38 = .ok (.putfield 159, 3) := fp_hdX12_bank_0.1.2.1.2.2.2
theorem dX12_bank_41 : decode cX12_bank 41 = .ok (.aload_n 0, 1) := fp_hdX12_bank_0.1.2.2.1.1.1
theorem dX12_bank_42 : decode cX12_bank 42 = .ok (.iconst 0, 1) := fp_hdX12_bank_0.1.2.2.1.1.2
theorem dX12_bank_43 : decode cX12_bank 43 = .ok (.putfield 153, 3) := fp_hdX12_bank_0.1.2.2.1.2.1
theorem dX12_bank_46 : decode cX12_bank 46 = .ok (.iconst 0, 1) := fp_hdX12_bank_0.1.2.2.1.2.2
theorem dX12_bank_47 : decode cX12_bank 47 = .ok (.istore_n 1, 1) := fp_hdX12_bank_0.1.2.2.2.1.1
theorem dX12_bank_48 : decode cX12_bank 48 = .ok (.iconst 0, 1) := fp_hdX12_bank_0.1.2.2.2.1.2
theorem dX12_bank_49 : decode cX12_bank 49 = .ok (.istore_n 2, 1) := fp_hdX12_bank_0.1.2.2.2.2.1
theorem dX12_bank_50 : decode cX12_bank 50 = .ok (.iload_n 2, 1) := fp_hdX12_bank_0.1.2.2.2.2.2
theorem fp_hdX12_bank_51 : (((((decode cX12_bank 51 = .ok (.bipush 120, 2) ∧ decode cX12_bank 53 = .ok (.if_icmp .ge 16, 3)) ∧ (decode cX12_bank 56 = .ok (.aload_n 0, 1) ∧ decode cX12_bank 57 = .ok (.getfield 26, 3))) ∧ ((decode cX12_bank 60 = .ok (.iload_n 2, 1) ∧ decode cX12_bank 61 = .ok (.iconst 0, 1)) ∧ (decode cX12_bank 62 = .ok (.iastore, 1) ∧ decode cX12_bank 63 = .ok (.iinc 2 1, 3)))) ∧ (((decode cX12_bank 66 = .ok (.goto (-16), 3) ∧ decode cX12_bank 69 = .ok (.aload_n 0, 1)) ∧ (decode cX12_bank 70 = .ok (.invokevirtual 136, 3) ∧ decode cX12_bank 73 = .ok (.aload_n 0, 1))) ∧ ((decode cX12_bank 74 = .ok (.getfield 98, 3) ∧ decode cX12_bank 77 = .ok (.ifCond .ne 20, 3)) ∧ (decode cX12_bank 80 = .ok (.aload_n 0, 1) ∧ decode cX12_bank 81 = .ok (.getfield 107, 3))))) ∧ ((((decode cX12_bank 84 = .ok (.ifCond .eq 13, 3) ∧ decode cX12_bank 87 = .ok (.aload_n 0, 1)) ∧ (decode cX12_bank 88 = .ok (.invokevirtual 187, 3) ∧ decode cX12_bank 91 = .ok (.iinc 1 1, 3))) ∧ ((decode cX12_bank 94 = .ok (.goto (-21), 3) ∧ decode cX12_bank 97 = .ok (.aload_n 0, 1)) ∧ (decode cX12_bank 98 = .ok (.getfield 98, 3) ∧ decode cX12_bank 101 = .ok (.ifCond .ne 31, 3)))) ∧ (((decode cX12_bank 104 = .ok (.aload_n 0, 1) ∧ decode cX12_bank 105 = .ok (.getfield 156, 3)) ∧ (decode cX12_bank 108 = .ok (.aload_n 0, 1) ∧ decode cX12_bank 109 = .ok (.getfield 139, 3))) ∧ ((decode cX12_bank 112 = .ok (.if_icmp .ge 14, 3) ∧ decode cX12_bank 115 = .ok (.aload_n 0, 1)) ∧ (decode cX12_bank 116 = .ok (.getfield 159, 3) ∧ decode cX12_bank 119 = .ok (.aload_n 0, 1)))))) ∧ bA cX12_bank 120 fp_scX12_bank_2 :=
  have q0 := fp_o16 (v := 120) fp_hdX12_bank_0.2 rfl
  have q1 := fp_o162 (v := 16) q0.2 rfl
  have q2 := fp_o42 q1.2
  have q3 := fp_o180 (v := 26) q2.2 rfl
  have q4 := fp_o28 q3.2
  have q5 := fp_o3 q4.2
  have q6 := fp_o79 q5.2
  have q7 := fp_o132 (v := 1) q6.2 rfl
  have q8 := fp_o167 (v := (-16)) q7.2 rfl
  have q9 := fp_o42 q8.2
  have q10 := fp_o182 (v := 136) q9.2 rfl
  have q11 := fp_o42 q10.2
  have q12 := fp_o180 (v := 98) q11.2 rfl
  have q13 := fp_o154 (v := 20) q12.2 rfl
  have q14 := fp_o42 q13.2
  have q15 := fp_o180 (v := 107) q14.2 rfl
  have q16 := fp_o153 (v := 13) q15.2 rfl
  have q17 := fp_o42 q16.2
  have q18 := fp_o182 (v := 187) q17.2 rfl
  have q19 := fp_o132 (v := 1) q18.2 rfl
  have q20 := fp_o167 (v := (-21)) q19.2 rfl
  have q21 := fp_o42 q20.2
  have q22 := fp_o180 (v := 98) q21.2 rfl
  have q23 := fp_o154 (v := 31) q22.2 rfl
  have q24 := fp_o42 q23.2
  have q25 := fp_o180 (v := 156) q24.2 rfl
  have q26 := fp_o42 q25.2
  have q27 := fp_o180 (v := 139) q26.2 rfl
  have q28 := fp_o162 (v := 14) q27.2 rfl
  have q29 := fp_o42 q28.2
  have q30 := fp_o180 (v := 159) q29.2 rfl
  have q31 := fp_o42 q30.2
  ⟨⟨⟨⟨⟨⟨q0.1, q1.1⟩, ⟨q2.1, q3.1⟩⟩, ⟨⟨q4.1, q5.1⟩, ⟨q6.1, q7.1⟩⟩⟩, ⟨⟨⟨q8.1, q9.1⟩, ⟨q10.1, q11.1⟩⟩, ⟨⟨q12.1, q13.1⟩, ⟨q14.1, q15.1⟩⟩⟩⟩, ⟨⟨⟨⟨q16.1, q17.1⟩, ⟨q18.1, q19.1⟩⟩, ⟨⟨q20.1, q21.1⟩, ⟨q22.1, q23.1⟩⟩⟩, ⟨⟨⟨q24.1, q25.1⟩, ⟨q26.1, q27.1⟩⟩, ⟨⟨q28.1, q29.1⟩, ⟨q30.1, q31.1⟩⟩⟩⟩⟩, q31.2⟩
theorem dX12_bank_51 : decode cX12_bank 51 = .ok (.bipush 120, 2) := fp_hdX12_bank_51.1.1.1.1.1.1
theorem dX12_bank_53 : decode cX12_bank 53 = .ok (.if_icmp .ge 16, 3) := fp_hdX12_bank_51.1.1.1.1.1.2
theorem dX12_bank_56 : decode cX12_bank 56 = .ok (.aload_n 0, 1) := fp_hdX12_bank_51.1.1.1.1.2.1
theorem dX12_bank_57 : decode cX12_bank 57 = .ok (.getfield 26, 3) := fp_hdX12_bank_51.1.1.1.1.2.2
theorem dX12_bank_60 : decode cX12_bank 60 = .ok (.iload_n 2, 1) := fp_hdX12_bank_51.1.1.1.2.1.1
theorem dX12_bank_61 : decode cX12_bank 61 = .ok (.iconst 0, 1) := fp_hdX12_bank_51.1.1.1.2.1.2
theorem dX12_bank_62 : decode cX12_bank 62 = .ok (.iastore, 1) := fp_hdX12_bank_51.1.1.1.2.2.1
theorem dX12_bank_63 : decode cX12_bank 63 = .ok (.iinc 2 1, 3) := fp_hdX12_bank_51.1.1.1.2.2.2
theorem dX12_bank_66 : decode cX12_bank 66 = .ok (.goto (-16), 3) := fp_hdX12_bank_51.1.1.2.1.1.1
theorem dX12_bank_69 : decode cX12_bank 69 = .ok (.aload_n 0, 1) := fp_hdX12_bank_51.1.1.2.1.1.2
theorem dX12_bank_70 : decode cX12_bank 70 = .ok (.invokevirtual 136, 3) := fp_hdX12_bank_51.1.1.2.1.2.1
theorem dX12_bank_73 : decode cX12_bank 73 = .ok (.aload_n 0, 1) := fp_hdX12_bank_51.1.1.2.1.2.2
theorem dX12_bank_74 : decode cX12_bank 74 = .ok (.getfield 98, 3) := fp_hdX12_bank_51.1.1.2.2.1.1
theorem dX12_bank_77 : decode cX12_bank 77 = .ok (.ifCond .ne 20, 3) := fp_hdX12_bank_51.1.1.2.2.1.2
theorem dX12_bank_80 : decode cX12_bank 80 = .ok (.aload_n 0, 1) := fp_hdX12_bank_51.1.1.2.2.2.1
theorem dX12_bank_81 : decode cX12_bank 81 = .ok (.getfield 107, 3) := fp_hdX12_bank_51.1.1.2.2.2.2
theorem dX12_bank_84 : decode cX12_bank 84 = .ok (.ifCond .eq 13, 3) := fp_hdX12_bank_51.1.2.1.1.1.1
theorem dX12_bank_87 : decode cX12_bank 87 = .ok (.aload_n 0, 1) := fp_hdX12_bank_51.1.2.1.1.1.2
theorem dX12_bank_88 : decode cX12_bank 88 = .ok (.invokevirtual 187, 3) := fp_hdX12_bank_51.1.2.1.1.2.1
theorem dX12_bank_91 : decode cX12_bank 91 = .ok (.iinc 1 1, 3) := fp_hdX12_bank_51.1.2.1.1.2.2
theorem dX12_bank_94 : decode cX12_bank 94 = .ok (.goto (-21), 3) := fp_hdX12_bank_51.1.2.1.2.1.1
theorem dX12_bank_97 : decode cX12_bank 97 = .ok (.aload_n 0, 1) := fp_hdX12_bank_51.1.2.1.2.1.2
theorem dX12_bank_98 : decode cX12_bank 98 = .ok (.getfield 98, 3) := fp_hdX12_bank_51.1.2.1.2.2.1
theorem dX12_bank_101 : decode cX12_bank 101 = .ok (.ifCond .ne 31, 3) := fp_hdX12_bank_51.1.2.1.2.2.2
theorem dX12_bank_104 : decode cX12_bank 104 = .ok (.aload_n 0, 1) := fp_hdX12_bank_51.1.2.2.1.1.1
theorem dX12_bank_105 : decode cX12_bank 105 = .ok (.getfield 156, 3) := fp_hdX12_bank_51.1.2.2.1.1.2
theorem dX12_bank_108 : decode cX12_bank 108 = .ok (.aload_n 0, 1) := fp_hdX12_bank_51.1.2.2.1.2.1
theorem dX12_bank_109 : decode cX12_bank 109 = .ok (.getfield 139, 3) := fp_hdX12_bank_51.1.2.2.1.2.2
theorem dX12_bank_112 : decode cX12_bank 112 = .ok (.if_icmp .ge 14, 3) := fp_hdX12_bank_51.1.2.2.2.1.1
theorem dX12_bank_115 : decode cX12_bank 115 = .ok (.aload_n 0, 1) := fp_hdX12_bank_51.1.2.2.2.1.2
theorem dX12_bank_116 : decode cX12_bank 116 = .ok (.getfield 159, 3) := fp_hdX12_bank_51.1.2.2.2.2.1
theorem dX12_bank_119 : decode cX12_bank 119 = .ok (.aload_n 0, 1) := fp_hdX12_bank_51.1.2.2.2.2.2
theorem fp_hdX12_bank_120 : (((((decode cX12_bank 120 = .ok (.getfield 146, 3) ∧ decode cX12_bank 123 = .ok (.if_icmp .lt 9, 3)) ∧ decode cX12_bank 126 = .ok (.aload_n 0, 1)) ∧ ((decode cX12_bank 127 = .ok (.bipush 6, 2) ∧ decode cX12_bank 129 = .ok (.invokevirtual 128, 3)) ∧ decode cX12_bank 132 = .ok (.aload_n 0, 1))) ∧ (((decode cX12_bank 133 = .ok (.iconst 0, 1) ∧ decode cX12_bank 134 = .ok (.putfield 91, 3)) ∧ decode cX12_bank 137 = .ok (.aload_n 0, 1)) ∧ ((decode cX12_bank 138 = .ok (.aload_n 0, 1) ∧ decode cX12_bank 139 = .ok (.getfield 98, 3)) ∧ decode cX12_bank 142 = .ok (.putfield 190, 3)))) ∧ ((((decode cX12_bank 145 = .ok (.aload_n 0, 1) ∧ decode cX12_bank 146 = .ok (.getfield 98, 3)) ∧ decode cX12_bank 149 = .ok (.ifCond .le 11, 3)) ∧ ((decode cX12_bank 152 = .ok (.bipush (-10), 2) ∧ decode cX12_bank 154 = .ok (.aload_n 0, 1)) ∧ decode cX12_bank 155 = .ok (.getfield 104, 3))) ∧ (((decode cX12_bank 158 = .ok (.isub, 1) ∧ decode cX12_bank 159 = .ok (.ireturn, 1)) ∧ decode cX12_bank 160 = .ok (.aload_n 0, 1)) ∧ ((decode cX12_bank 161 = .ok (.invokevirtual 193, 3) ∧ decode cX12_bank 164 = .ok (.iload_n 1, 1)) ∧ decode cX12_bank 165 = .ok (.ireturn, 1))))) ∧ bA cX12_bank 166 [] :=
  have q0 := fp_o180 (v := 146) fp_hdX12_bank_51.2 rfl
  have q1 := fp_o161 (v := 9) q0.2 rfl
  have q2 := fp_o42 q1.2
  have q3 := fp_o16 (v := 6) q2.2 rfl
  have q4 := fp_o182 (v := 128) q3.2 rfl
  have q5 := fp_o42 q4.2
  have q6 := fp_o3 q5.2
  have q7 := fp_o181 (v := 91) q6.2 rfl
  have q8 := fp_o42 q7.2
  have q9 := fp_o42 q8.2
  have q10 := fp_o180 (v := 98) q9.2 rfl
  have q11 := fp_o181 (v := 190) q10.2 rfl
  have q12 := fp_o42 q11.2
  have q13 := fp_o180 (v := 98) q12.2 rfl
  have q14 := fp_o158 (v := 11) q13.2 rfl
  have q15 := fp_o16 (v := (-10)) q14.2 rfl
  have q16 := fp_o42 q15.2
  have q17 := fp_o180 (v := 104) q16.2 rfl
  have q18 := fp_o100 q17.2
  have q19 := fp_o172 q18.2
  have q20 := fp_o42 q19.2
  have q21 := fp_o182 (v := 193) q20.2 rfl
  have q22 := fp_o27 q21.2
  have q23 := fp_o172 q22.2
  ⟨⟨⟨⟨⟨⟨q0.1, q1.1⟩, q2.1⟩, ⟨⟨q3.1, q4.1⟩, q5.1⟩⟩, ⟨⟨⟨q6.1, q7.1⟩, q8.1⟩, ⟨⟨q9.1, q10.1⟩, q11.1⟩⟩⟩, ⟨⟨⟨⟨q12.1, q13.1⟩, q14.1⟩, ⟨⟨q15.1, q16.1⟩, q17.1⟩⟩, ⟨⟨⟨q18.1, q19.1⟩, q20.1⟩, ⟨⟨q21.1, q22.1⟩, q23.1⟩⟩⟩⟩, q23.2⟩
theorem dX12_bank_120 : decode cX12_bank 120 = .ok (.getfield 146, 3) := fp_hdX12_bank_120.1.1.1.1.1.1
theorem dX12_bank_123 : decode cX12_bank 123 = .ok (.if_icmp .lt 9, 3) := fp_hdX12_bank_120.1.1.1.1.1.2
theorem dX12_bank_126 : decode cX12_bank 126 = .ok (.aload_n 0, 1) := fp_hdX12_bank_120.1.1.1.1.2
theorem dX12_bank_127 : decode cX12_bank 127 = .ok (.bipush 6, 2) := fp_hdX12_bank_120.1.1.1.2.1.1
theorem dX12_bank_129 : decode cX12_bank 129 = .ok (.invokevirtual 128, 3) := fp_hdX12_bank_120.1.1.1.2.1.2
theorem dX12_bank_132 : decode cX12_bank 132 = .ok (.aload_n 0, 1) := fp_hdX12_bank_120.1.1.1.2.2
theorem dX12_bank_133 : decode cX12_bank 133 = .ok (.iconst 0, 1) := fp_hdX12_bank_120.1.1.2.1.1.1
theorem dX12_bank_134 : decode cX12_bank 134 = .ok (.putfield 91, 3) := fp_hdX12_bank_120.1.1.2.1.1.2
theorem dX12_bank_137 : decode cX12_bank 137 = .ok (.aload_n 0, 1) := fp_hdX12_bank_120.1.1.2.1.2
theorem dX12_bank_138 : decode cX12_bank 138 = .ok (.aload_n 0, 1) := fp_hdX12_bank_120.1.1.2.2.1.1
theorem dX12_bank_139 : decode cX12_bank 139 = .ok (.getfield 98, 3) := fp_hdX12_bank_120.1.1.2.2.1.2
theorem dX12_bank_142 : decode cX12_bank 142 = .ok (.putfield 190, 3) := fp_hdX12_bank_120.1.1.2.2.2
theorem dX12_bank_145 : decode cX12_bank 145 = .ok (.aload_n 0, 1) := fp_hdX12_bank_120.1.2.1.1.1.1
theorem dX12_bank_146 : decode cX12_bank 146 = .ok (.getfield 98, 3) := fp_hdX12_bank_120.1.2.1.1.1.2
theorem dX12_bank_149 : decode cX12_bank 149 = .ok (.ifCond .le 11, 3) := fp_hdX12_bank_120.1.2.1.1.2
theorem dX12_bank_152 : decode cX12_bank 152 = .ok (.bipush (-10), 2) := fp_hdX12_bank_120.1.2.1.2.1.1
theorem dX12_bank_154 : decode cX12_bank 154 = .ok (.aload_n 0, 1) := fp_hdX12_bank_120.1.2.1.2.1.2
theorem dX12_bank_155 : decode cX12_bank 155 = .ok (.getfield 104, 3) := fp_hdX12_bank_120.1.2.1.2.2
theorem dX12_bank_158 : decode cX12_bank 158 = .ok (.isub, 1) := fp_hdX12_bank_120.1.2.2.1.1.1
theorem dX12_bank_159 : decode cX12_bank 159 = .ok (.ireturn, 1) := fp_hdX12_bank_120.1.2.2.1.1.2
theorem dX12_bank_160 : decode cX12_bank 160 = .ok (.aload_n 0, 1) := fp_hdX12_bank_120.1.2.2.1.2
theorem dX12_bank_161 : decode cX12_bank 161 = .ok (.invokevirtual 193, 3) := fp_hdX12_bank_120.1.2.2.2.1.1
theorem dX12_bank_164 : decode cX12_bank 164 = .ok (.iload_n 1, 1) := fp_hdX12_bank_120.1.2.2.2.1.2
theorem dX12_bank_165 : decode cX12_bank 165 = .ok (.ireturn, 1) := fp_hdX12_bank_120.1.2.2.2.2
def fp_scX12_fault_0 : List Nat := 42 :: 180 :: 0 :: 190 :: 172 :: []
theorem fp_bcX12_fault : bA cX12_fault 0 fp_scX12_fault_0 := show cX12_fault.data.toList.map UInt8.toNat = fp_scX12_fault_0 from by decide +kernel
theorem fp_hdX12_fault_0 : ((decode cX12_fault 0 = .ok (.aload_n 0, 1) ∧ decode cX12_fault 1 = .ok (.getfield 190, 3)) ∧ decode cX12_fault 4 = .ok (.ireturn, 1)) ∧ bA cX12_fault 5 [] :=
  have q0 := fp_o42 fp_bcX12_fault
  have q1 := fp_o180 (v := 190) q0.2 rfl
  have q2 := fp_o172 q1.2
  ⟨⟨⟨q0.1, q1.1⟩, q2.1⟩, q2.2⟩
theorem dX12_fault_0 : decode cX12_fault 0 = .ok (.aload_n 0, 1) := fp_hdX12_fault_0.1.1.1
theorem dX12_fault_1 : decode cX12_fault 1 = .ok (.getfield 190, 3) := fp_hdX12_fault_0.1.1.2
theorem dX12_fault_4 : decode cX12_fault 4 = .ok (.ireturn, 1) := fp_hdX12_fault_0.1.2
def fp_scX12_isThing_0 : List Nat := 27 :: 133 :: 9 :: 42 :: 180 :: 0 :: 181 :: 4 :: 100 :: 133 :: 184 :: 0 :: 94 :: 172 :: []
theorem fp_bcX12_isThing : bA cX12_isThing 0 fp_scX12_isThing_0 := show cX12_isThing.data.toList.map UInt8.toNat = fp_scX12_isThing_0 from by decide +kernel
theorem fp_hdX12_isThing_0 : ((((decode cX12_isThing 0 = .ok (.iload_n 1, 1) ∧ decode cX12_isThing 1 = .ok (.i2l, 1)) ∧ decode cX12_isThing 2 = .ok (.lconst 0, 1)) ∧ (decode cX12_isThing 3 = .ok (.aload_n 0, 1) ∧ decode cX12_isThing 4 = .ok (.getfield 181, 3))) ∧ (((decode cX12_isThing 7 = .ok (.iconst 1, 1) ∧ decode cX12_isThing 8 = .ok (.isub, 1)) ∧ decode cX12_isThing 9 = .ok (.i2l, 1)) ∧ (decode cX12_isThing 10 = .ok (.invokestatic 94, 3) ∧ decode cX12_isThing 13 = .ok (.ireturn, 1)))) ∧ bA cX12_isThing 14 [] :=
  have q0 := fp_o27 fp_bcX12_isThing
  have q1 := fp_o133 q0.2
  have q2 := fp_o9 q1.2
  have q3 := fp_o42 q2.2
  have q4 := fp_o180 (v := 181) q3.2 rfl
  have q5 := fp_o4 q4.2
  have q6 := fp_o100 q5.2
  have q7 := fp_o133 q6.2
  have q8 := fp_o184 (v := 94) q7.2 rfl
  have q9 := fp_o172 q8.2
  ⟨⟨⟨⟨⟨q0.1, q1.1⟩, q2.1⟩, ⟨q3.1, q4.1⟩⟩, ⟨⟨⟨q5.1, q6.1⟩, q7.1⟩, ⟨q8.1, q9.1⟩⟩⟩, q9.2⟩
theorem dX12_isThing_0 : decode cX12_isThing 0 = .ok (.iload_n 1, 1) := fp_hdX12_isThing_0.1.1.1.1.1
theorem dX12_isThing_1 : decode cX12_isThing 1 = .ok (.i2l, 1) := fp_hdX12_isThing_0.1.1.1.1.2
theorem dX12_isThing_2 : decode cX12_isThing 2 = .ok (.lconst 0, 1) := fp_hdX12_isThing_0.1.1.1.2
theorem dX12_isThing_3 : decode cX12_isThing 3 = .ok (.aload_n 0, 1) := fp_hdX12_isThing_0.1.1.2.1
theorem dX12_isThing_4 : decode cX12_isThing 4 = .ok (.getfield 181, 3) := fp_hdX12_isThing_0.1.1.2.2
theorem dX12_isThing_7 : decode cX12_isThing 7 = .ok (.iconst 1, 1) := fp_hdX12_isThing_0.1.2.1.1.1
theorem dX12_isThing_8 : decode cX12_isThing 8 = .ok (.isub, 1) := fp_hdX12_isThing_0.1.2.1.1.2
theorem dX12_isThing_9 : decode cX12_isThing 9 = .ok (.i2l, 1) := fp_hdX12_isThing_0.1.2.1.2
theorem dX12_isThing_10 : decode cX12_isThing 10 = .ok (.invokestatic 94, 3) := fp_hdX12_isThing_0.1.2.2.1
theorem dX12_isThing_13 : decode cX12_isThing 13 = .ok (.ireturn, 1) := fp_hdX12_isThing_0.1.2.2.2
def fp_scX12_isOne_0 : List Nat := 26 :: 133 :: 9 :: 20 :: 0 :: 196 :: 184 :: 0 :: 94 :: 172 :: []
theorem fp_bcX12_isOne : bA cX12_isOne 0 fp_scX12_isOne_0 := show cX12_isOne.data.toList.map UInt8.toNat = fp_scX12_isOne_0 from by decide +kernel
theorem fp_hdX12_isOne_0 : (((decode cX12_isOne 0 = .ok (.iload_n 0, 1) ∧ decode cX12_isOne 1 = .ok (.i2l, 1)) ∧ decode cX12_isOne 2 = .ok (.lconst 0, 1)) ∧ ((decode cX12_isOne 3 = .ok (.ldc2_w 196, 3) ∧ decode cX12_isOne 6 = .ok (.invokestatic 94, 3)) ∧ decode cX12_isOne 9 = .ok (.ireturn, 1))) ∧ bA cX12_isOne 10 [] :=
  have q0 := fp_o26 fp_bcX12_isOne
  have q1 := fp_o133 q0.2
  have q2 := fp_o9 q1.2
  have q3 := fp_o20 (v := 196) q2.2 rfl
  have q4 := fp_o184 (v := 94) q3.2 rfl
  have q5 := fp_o172 q4.2
  ⟨⟨⟨⟨q0.1, q1.1⟩, q2.1⟩, ⟨⟨q3.1, q4.1⟩, q5.1⟩⟩, q5.2⟩
theorem dX12_isOne_0 : decode cX12_isOne 0 = .ok (.iload_n 0, 1) := fp_hdX12_isOne_0.1.1.1.1
theorem dX12_isOne_1 : decode cX12_isOne 1 = .ok (.i2l, 1) := fp_hdX12_isOne_0.1.1.1.2
theorem dX12_isOne_2 : decode cX12_isOne 2 = .ok (.lconst 0, 1) := fp_hdX12_isOne_0.1.1.2
theorem dX12_isOne_3 : decode cX12_isOne 3 = .ok (.ldc2_w 196, 3) := fp_hdX12_isOne_0.1.2.1.1
theorem dX12_isOne_6 : decode cX12_isOne 6 = .ok (.invokestatic 94, 3) := fp_hdX12_isOne_0.1.2.1.2
theorem dX12_isOne_9 : decode cX12_isOne 9 = .ok (.ireturn, 1) := fp_hdX12_isOne_0.1.2.2
def fp_scX12_isLine_0 : List Nat := 27 :: 133 :: 9 :: 42 :: 180 :: 0 :: 184 :: 4 :: 100 :: 133 :: 184 :: 0 :: 94 :: 172 :: []
theorem fp_bcX12_isLine : bA cX12_isLine 0 fp_scX12_isLine_0 := show cX12_isLine.data.toList.map UInt8.toNat = fp_scX12_isLine_0 from by decide +kernel
theorem fp_hdX12_isLine_0 : ((((decode cX12_isLine 0 = .ok (.iload_n 1, 1) ∧ decode cX12_isLine 1 = .ok (.i2l, 1)) ∧ decode cX12_isLine 2 = .ok (.lconst 0, 1)) ∧ (decode cX12_isLine 3 = .ok (.aload_n 0, 1) ∧ decode cX12_isLine 4 = .ok (.getfield 184, 3))) ∧ (((decode cX12_isLine 7 = .ok (.iconst 1, 1) ∧ decode cX12_isLine 8 = .ok (.isub, 1)) ∧ decode cX12_isLine 9 = .ok (.i2l, 1)) ∧ (decode cX12_isLine 10 = .ok (.invokestatic 94, 3) ∧ decode cX12_isLine 13 = .ok (.ireturn, 1)))) ∧ bA cX12_isLine 14 [] :=
  have q0 := fp_o27 fp_bcX12_isLine
  have q1 := fp_o133 q0.2
  have q2 := fp_o9 q1.2
  have q3 := fp_o42 q2.2
  have q4 := fp_o180 (v := 184) q3.2 rfl
  have q5 := fp_o4 q4.2
  have q6 := fp_o100 q5.2
  have q7 := fp_o133 q6.2
  have q8 := fp_o184 (v := 94) q7.2 rfl
  have q9 := fp_o172 q8.2
  ⟨⟨⟨⟨⟨q0.1, q1.1⟩, q2.1⟩, ⟨q3.1, q4.1⟩⟩, ⟨⟨⟨q5.1, q6.1⟩, q7.1⟩, ⟨q8.1, q9.1⟩⟩⟩, q9.2⟩
theorem dX12_isLine_0 : decode cX12_isLine 0 = .ok (.iload_n 1, 1) := fp_hdX12_isLine_0.1.1.1.1.1
theorem dX12_isLine_1 : decode cX12_isLine 1 = .ok (.i2l, 1) := fp_hdX12_isLine_0.1.1.1.1.2
theorem dX12_isLine_2 : decode cX12_isLine 2 = .ok (.lconst 0, 1) := fp_hdX12_isLine_0.1.1.1.2
theorem dX12_isLine_3 : decode cX12_isLine 3 = .ok (.aload_n 0, 1) := fp_hdX12_isLine_0.1.1.2.1
theorem dX12_isLine_4 : decode cX12_isLine 4 = .ok (.getfield 184, 3) := fp_hdX12_isLine_0.1.1.2.2
theorem dX12_isLine_7 : decode cX12_isLine 7 = .ok (.iconst 1, 1) := fp_hdX12_isLine_0.1.2.1.1.1
theorem dX12_isLine_8 : decode cX12_isLine 8 = .ok (.isub, 1) := fp_hdX12_isLine_0.1.2.1.1.2
theorem dX12_isLine_9 : decode cX12_isLine 9 = .ok (.i2l, 1) := fp_hdX12_isLine_0.1.2.1.2
theorem dX12_isLine_10 : decode cX12_isLine 10 = .ok (.invokestatic 94, 3) := fp_hdX12_isLine_0.1.2.2.1
theorem dX12_isLine_13 : decode cX12_isLine 13 = .ok (.ireturn, 1) := fp_hdX12_isLine_0.1.2.2.2
def fp_scX12_visits_0 : List Nat := 42 :: 180 :: 0 :: 7 :: 16 :: 95 :: 46 :: 172 :: []
theorem fp_bcX12_visits : bA cX12_visits 0 fp_scX12_visits_0 := show cX12_visits.data.toList.map UInt8.toNat = fp_scX12_visits_0 from by decide +kernel
theorem fp_hdX12_visits_0 : (((decode cX12_visits 0 = .ok (.aload_n 0, 1) ∧ decode cX12_visits 1 = .ok (.getfield 7, 3)) ∧ decode cX12_visits 4 = .ok (.bipush 95, 2)) ∧ (decode cX12_visits 6 = .ok (.iaload, 1) ∧ decode cX12_visits 7 = .ok (.ireturn, 1))) ∧ bA cX12_visits 8 [] :=
  have q0 := fp_o42 fp_bcX12_visits
  have q1 := fp_o180 (v := 7) q0.2 rfl
  have q2 := fp_o16 (v := 95) q1.2 rfl
  have q3 := fp_o46 q2.2
  have q4 := fp_o172 q3.2
  ⟨⟨⟨⟨q0.1, q1.1⟩, q2.1⟩, ⟨q3.1, q4.1⟩⟩, q4.2⟩
theorem dX12_visits_0 : decode cX12_visits 0 = .ok (.aload_n 0, 1) := fp_hdX12_visits_0.1.1.1.1
theorem dX12_visits_1 : decode cX12_visits 1 = .ok (.getfield 7, 3) := fp_hdX12_visits_0.1.1.1.2
theorem dX12_visits_4 : decode cX12_visits 4 = .ok (.bipush 95, 2) := fp_hdX12_visits_0.1.1.2
theorem dX12_visits_6 : decode cX12_visits 6 = .ok (.iaload, 1) := fp_hdX12_visits_0.1.2.1
theorem dX12_visits_7 : decode cX12_visits 7 = .ok (.ireturn, 1) := fp_hdX12_visits_0.1.2.2
def fp_scX12_lie_0 : List Nat := 42 :: 180 :: 0 :: 7 :: 27 :: 16 :: 10 :: 96 :: 16 :: 9 :: 28 :: 104 :: 96 :: 46 :: 172 :: []
theorem fp_bcX12_lie : bA cX12_lie 0 fp_scX12_lie_0 := show cX12_lie.data.toList.map UInt8.toNat = fp_scX12_lie_0 from by decide +kernel
theorem fp_hdX12_lie_0 : ((((decode cX12_lie 0 = .ok (.aload_n 0, 1) ∧ decode cX12_lie 1 = .ok (.getfield 7, 3)) ∧ decode cX12_lie 4 = .ok (.iload_n 1, 1)) ∧ ((decode cX12_lie 5 = .ok (.bipush 10, 2) ∧ decode cX12_lie 7 = .ok (.iadd, 1)) ∧ decode cX12_lie 8 = .ok (.bipush 9, 2))) ∧ (((decode cX12_lie 10 = .ok (.iload_n 2, 1) ∧ decode cX12_lie 11 = .ok (.imul, 1)) ∧ decode cX12_lie 12 = .ok (.iadd, 1)) ∧ (decode cX12_lie 13 = .ok (.iaload, 1) ∧ decode cX12_lie 14 = .ok (.ireturn, 1)))) ∧ bA cX12_lie 15 [] :=
  have q0 := fp_o42 fp_bcX12_lie
  have q1 := fp_o180 (v := 7) q0.2 rfl
  have q2 := fp_o27 q1.2
  have q3 := fp_o16 (v := 10) q2.2 rfl
  have q4 := fp_o96 q3.2
  have q5 := fp_o16 (v := 9) q4.2 rfl
  have q6 := fp_o28 q5.2
  have q7 := fp_o104 q6.2
  have q8 := fp_o96 q7.2
  have q9 := fp_o46 q8.2
  have q10 := fp_o172 q9.2
  ⟨⟨⟨⟨⟨q0.1, q1.1⟩, q2.1⟩, ⟨⟨q3.1, q4.1⟩, q5.1⟩⟩, ⟨⟨⟨q6.1, q7.1⟩, q8.1⟩, ⟨q9.1, q10.1⟩⟩⟩, q10.2⟩
theorem dX12_lie_0 : decode cX12_lie 0 = .ok (.aload_n 0, 1) := fp_hdX12_lie_0.1.1.1.1.1
theorem dX12_lie_1 : decode cX12_lie 1 = .ok (.getfield 7, 3) := fp_hdX12_lie_0.1.1.1.1.2
theorem dX12_lie_4 : decode cX12_lie 4 = .ok (.iload_n 1, 1) := fp_hdX12_lie_0.1.1.1.2
theorem dX12_lie_5 : decode cX12_lie 5 = .ok (.bipush 10, 2) := fp_hdX12_lie_0.1.1.2.1.1
theorem dX12_lie_7 : decode cX12_lie 7 = .ok (.iadd, 1) := fp_hdX12_lie_0.1.1.2.1.2
theorem dX12_lie_8 : decode cX12_lie 8 = .ok (.bipush 9, 2) := fp_hdX12_lie_0.1.1.2.2
theorem dX12_lie_10 : decode cX12_lie 10 = .ok (.iload_n 2, 1) := fp_hdX12_lie_0.1.2.1.1.1
theorem dX12_lie_11 : decode cX12_lie 11 = .ok (.imul, 1) := fp_hdX12_lie_0.1.2.1.1.2
theorem dX12_lie_12 : decode cX12_lie 12 = .ok (.iadd, 1) := fp_hdX12_lie_0.1.2.1.2
theorem dX12_lie_13 : decode cX12_lie 13 = .ok (.iaload, 1) := fp_hdX12_lie_0.1.2.2.1
theorem dX12_lie_14 : decode cX12_lie 14 = .ok (.ireturn, 1) := fp_hdX12_lie_0.1.2.2.2
def fp_scX12_lies_0 : List Nat := 42 :: 180 :: 0 :: 7 :: 27 :: 16 :: 10 :: 96 :: 16 :: 9 :: 28 :: 104 :: 96 :: 4 :: 96 :: 29 :: 96 :: 46 :: 172 :: []
theorem fp_bcX12_lies : bA cX12_lies 0 fp_scX12_lies_0 := show cX12_lies.data.toList.map UInt8.toNat = fp_scX12_lies_0 from by decide +kernel
theorem fp_hdX12_lies_0 : ((((decode cX12_lies 0 = .ok (.aload_n 0, 1) ∧ decode cX12_lies 1 = .ok (.getfield 7, 3)) ∧ (decode cX12_lies 4 = .ok (.iload_n 1, 1) ∧ decode cX12_lies 5 = .ok (.bipush 10, 2))) ∧ ((decode cX12_lies 7 = .ok (.iadd, 1) ∧ decode cX12_lies 8 = .ok (.bipush 9, 2)) ∧ (decode cX12_lies 10 = .ok (.iload_n 2, 1) ∧ decode cX12_lies 11 = .ok (.imul, 1)))) ∧ (((decode cX12_lies 12 = .ok (.iadd, 1) ∧ decode cX12_lies 13 = .ok (.iconst 1, 1)) ∧ (decode cX12_lies 14 = .ok (.iadd, 1) ∧ decode cX12_lies 15 = .ok (.iload_n 3, 1))) ∧ ((decode cX12_lies 16 = .ok (.iadd, 1) ∧ decode cX12_lies 17 = .ok (.iaload, 1)) ∧ decode cX12_lies 18 = .ok (.ireturn, 1)))) ∧ bA cX12_lies 19 [] :=
  have q0 := fp_o42 fp_bcX12_lies
  have q1 := fp_o180 (v := 7) q0.2 rfl
  have q2 := fp_o27 q1.2
  have q3 := fp_o16 (v := 10) q2.2 rfl
  have q4 := fp_o96 q3.2
  have q5 := fp_o16 (v := 9) q4.2 rfl
  have q6 := fp_o28 q5.2
  have q7 := fp_o104 q6.2
  have q8 := fp_o96 q7.2
  have q9 := fp_o4 q8.2
  have q10 := fp_o96 q9.2
  have q11 := fp_o29 q10.2
  have q12 := fp_o96 q11.2
  have q13 := fp_o46 q12.2
  have q14 := fp_o172 q13.2
  ⟨⟨⟨⟨⟨q0.1, q1.1⟩, ⟨q2.1, q3.1⟩⟩, ⟨⟨q4.1, q5.1⟩, ⟨q6.1, q7.1⟩⟩⟩, ⟨⟨⟨q8.1, q9.1⟩, ⟨q10.1, q11.1⟩⟩, ⟨⟨q12.1, q13.1⟩, q14.1⟩⟩⟩, q14.2⟩
theorem dX12_lies_0 : decode cX12_lies 0 = .ok (.aload_n 0, 1) := fp_hdX12_lies_0.1.1.1.1.1
theorem dX12_lies_1 : decode cX12_lies 1 = .ok (.getfield 7, 3) := fp_hdX12_lies_0.1.1.1.1.2
theorem dX12_lies_4 : decode cX12_lies 4 = .ok (.iload_n 1, 1) := fp_hdX12_lies_0.1.1.1.2.1
theorem dX12_lies_5 : decode cX12_lies 5 = .ok (.bipush 10, 2) := fp_hdX12_lies_0.1.1.1.2.2
theorem dX12_lies_7 : decode cX12_lies 7 = .ok (.iadd, 1) := fp_hdX12_lies_0.1.1.2.1.1
theorem dX12_lies_8 : decode cX12_lies 8 = .ok (.bipush 9, 2) := fp_hdX12_lies_0.1.1.2.1.2
theorem dX12_lies_10 : decode cX12_lies 10 = .ok (.iload_n 2, 1) := fp_hdX12_lies_0.1.1.2.2.1
theorem dX12_lies_11 : decode cX12_lies 11 = .ok (.imul, 1) := fp_hdX12_lies_0.1.1.2.2.2
theorem dX12_lies_12 : decode cX12_lies 12 = .ok (.iadd, 1) := fp_hdX12_lies_0.1.2.1.1.1
theorem dX12_lies_13 : decode cX12_lies 13 = .ok (.iconst 1, 1) := fp_hdX12_lies_0.1.2.1.1.2
theorem dX12_lies_14 : decode cX12_lies 14 = .ok (.iadd, 1) := fp_hdX12_lies_0.1.2.1.2.1
theorem dX12_lies_15 : decode cX12_lies 15 = .ok (.iload_n 3, 1) := fp_hdX12_lies_0.1.2.1.2.2
theorem dX12_lies_16 : decode cX12_lies 16 = .ok (.iadd, 1) := fp_hdX12_lies_0.1.2.2.1.1
theorem dX12_lies_17 : decode cX12_lies 17 = .ok (.iaload, 1) := fp_hdX12_lies_0.1.2.2.1.2
theorem dX12_lies_18 : decode cX12_lies 18 = .ok (.ireturn, 1) := fp_hdX12_lies_0.1.2.2.2
def fp_scX12_placeOf_0 : List Nat := 42 :: 180 :: 0 :: 7 :: 27 :: 46 :: 16 :: 10 :: 100 :: 61 :: 3 :: 62 :: 28 :: 155 :: 0 :: 32 :: 29 :: 42 :: 3 :: 28 :: 182 :: 0 :: 198 :: 162 :: 0 :: 22 :: 42 :: 3 :: 28 :: 29 :: 182 :: 0 :: 201 :: 27 :: 160 :: 0 :: 5 :: 29 :: 172 :: 132 :: 3 :: 1 :: 167 :: 255 :: 226 :: 16 :: 252 :: 172 :: []
theorem fp_bcX12_placeOf : bA cX12_placeOf 0 fp_scX12_placeOf_0 := show cX12_placeOf.data.toList.map UInt8.toNat = fp_scX12_placeOf_0 from by decide +kernel
theorem fp_hdX12_placeOf_0 : (((((decode cX12_placeOf 0 = .ok (.aload_n 0, 1) ∧ decode cX12_placeOf 1 = .ok (.getfield 7, 3)) ∧ (decode cX12_placeOf 4 = .ok (.iload_n 1, 1) ∧ decode cX12_placeOf 5 = .ok (.iaload, 1))) ∧ ((decode cX12_placeOf 6 = .ok (.bipush 10, 2) ∧ decode cX12_placeOf 8 = .ok (.isub, 1)) ∧ (decode cX12_placeOf 9 = .ok (.istore_n 2, 1) ∧ decode cX12_placeOf 10 = .ok (.iconst 0, 1)))) ∧ (((decode cX12_placeOf 11 = .ok (.istore_n 3, 1) ∧ decode cX12_placeOf 12 = .ok (.iload_n 2, 1)) ∧ (decode cX12_placeOf 13 = .ok (.ifCond .lt 32, 3) ∧ decode cX12_placeOf 16 = .ok (.iload_n 3, 1))) ∧ ((decode cX12_placeOf 17 = .ok (.aload_n 0, 1) ∧ decode cX12_placeOf 18 = .ok (.iconst 0, 1)) ∧ decode cX12_placeOf 19 = .ok (.iload_n 2, 1)))) ∧ ((((decode cX12_placeOf 20 = .ok (.invokevirtual 198, 3) ∧ decode cX12_placeOf 23 = .ok (.if_icmp .ge 22, 3)) ∧ (decode cX12_placeOf 26 = .ok (.aload_n 0, 1) ∧ decode cX12_placeOf 27 = .ok (.iconst 0, 1))) ∧ ((decode cX12_placeOf 28 = .ok (.iload_n 2, 1) ∧ decode cX12_placeOf 29 = .ok (.iload_n 3, 1)) ∧ (decode cX12_placeOf 30 = .ok (.invokevirtual 201, 3) ∧ decode cX12_placeOf 33 = .ok (.iload_n 1, 1)))) ∧ (((decode cX12_placeOf 34 = .ok (.if_icmp .ne 5, 3) ∧ decode cX12_placeOf 37 = .ok (.iload_n 3, 1)) ∧ (decode cX12_placeOf 38 = .ok (.ireturn, 1) ∧ decode cX12_placeOf 39 = .ok (.iinc 3 1, 3))) ∧ ((decode cX12_placeOf 42 = .ok (.goto (-30), 3) ∧ decode cX12_placeOf 45 = .ok (.bipush (-4), 2)) ∧ decode cX12_placeOf 47 = .ok (.ireturn, 1))))) ∧ bA cX12_placeOf 48 [] :=
  have q0 := fp_o42 fp_bcX12_placeOf
  have q1 := fp_o180 (v := 7) q0.2 rfl
  have q2 := fp_o27 q1.2
  have q3 := fp_o46 q2.2
  have q4 := fp_o16 (v := 10) q3.2 rfl
  have q5 := fp_o100 q4.2
  have q6 := fp_o61 q5.2
  have q7 := fp_o3 q6.2
  have q8 := fp_o62 q7.2
  have q9 := fp_o28 q8.2
  have q10 := fp_o155 (v := 32) q9.2 rfl
  have q11 := fp_o29 q10.2
  have q12 := fp_o42 q11.2
  have q13 := fp_o3 q12.2
  have q14 := fp_o28 q13.2
  have q15 := fp_o182 (v := 198) q14.2 rfl
  have q16 := fp_o162 (v := 22) q15.2 rfl
  have q17 := fp_o42 q16.2
  have q18 := fp_o3 q17.2
  have q19 := fp_o28 q18.2
  have q20 := fp_o29 q19.2
  have q21 := fp_o182 (v := 201) q20.2 rfl
  have q22 := fp_o27 q21.2
  have q23 := fp_o160 (v := 5) q22.2 rfl
  have q24 := fp_o29 q23.2
  have q25 := fp_o172 q24.2
  have q26 := fp_o132 (v := 1) q25.2 rfl
  have q27 := fp_o167 (v := (-30)) q26.2 rfl
  have q28 := fp_o16 (v := (-4)) q27.2 rfl
  have q29 := fp_o172 q28.2
  ⟨⟨⟨⟨⟨⟨q0.1, q1.1⟩, ⟨q2.1, q3.1⟩⟩, ⟨⟨q4.1, q5.1⟩, ⟨q6.1, q7.1⟩⟩⟩, ⟨⟨⟨q8.1, q9.1⟩, ⟨q10.1, q11.1⟩⟩, ⟨⟨q12.1, q13.1⟩, q14.1⟩⟩⟩, ⟨⟨⟨⟨q15.1, q16.1⟩, ⟨q17.1, q18.1⟩⟩, ⟨⟨q19.1, q20.1⟩, ⟨q21.1, q22.1⟩⟩⟩, ⟨⟨⟨q23.1, q24.1⟩, ⟨q25.1, q26.1⟩⟩, ⟨⟨q27.1, q28.1⟩, q29.1⟩⟩⟩⟩, q29.2⟩
theorem dX12_placeOf_0 : decode cX12_placeOf 0 = .ok (.aload_n 0, 1) := fp_hdX12_placeOf_0.1.1.1.1.1.1
theorem dX12_placeOf_1 : decode cX12_placeOf 1 = .ok (.getfield 7, 3) := fp_hdX12_placeOf_0.1.1.1.1.1.2
theorem dX12_placeOf_4 : decode cX12_placeOf 4 = .ok (.iload_n 1, 1) := fp_hdX12_placeOf_0.1.1.1.1.2.1
theorem dX12_placeOf_5 : decode cX12_placeOf 5 = .ok (.iaload, 1) := fp_hdX12_placeOf_0.1.1.1.1.2.2
theorem dX12_placeOf_6 : decode cX12_placeOf 6 = .ok (.bipush 10, 2) := fp_hdX12_placeOf_0.1.1.1.2.1.1
theorem dX12_placeOf_8 : decode cX12_placeOf 8 = .ok (.isub, 1) := fp_hdX12_placeOf_0.1.1.1.2.1.2
theorem dX12_placeOf_9 : decode cX12_placeOf 9 = .ok (.istore_n 2, 1) := fp_hdX12_placeOf_0.1.1.1.2.2.1
theorem dX12_placeOf_10 : decode cX12_placeOf 10 = .ok (.iconst 0, 1) := fp_hdX12_placeOf_0.1.1.1.2.2.2
theorem dX12_placeOf_11 : decode cX12_placeOf 11 = .ok (.istore_n 3, 1) := fp_hdX12_placeOf_0.1.1.2.1.1.1
theorem dX12_placeOf_12 : decode cX12_placeOf 12 = .ok (.iload_n 2, 1) := fp_hdX12_placeOf_0.1.1.2.1.1.2
theorem dX12_placeOf_13 : decode cX12_placeOf 13 = .ok (.ifCond .lt 32, 3) := fp_hdX12_placeOf_0.1.1.2.1.2.1
theorem dX12_placeOf_16 : decode cX12_placeOf 16 = .ok (.iload_n 3, 1) := fp_hdX12_placeOf_0.1.1.2.1.2.2
theorem dX12_placeOf_17 : decode cX12_placeOf 17 = .ok (.aload_n 0, 1) := fp_hdX12_placeOf_0.1.1.2.2.1.1
theorem dX12_placeOf_18 : decode cX12_placeOf 18 = .ok (.iconst 0, 1) := fp_hdX12_placeOf_0.1.1.2.2.1.2
theorem dX12_placeOf_19 : decode cX12_placeOf 19 = .ok (.iload_n 2, 1) := fp_hdX12_placeOf_0.1.1.2.2.2
theorem dX12_placeOf_20 : decode cX12_placeOf 20 = .ok (.invokevirtual 198, 3) := fp_hdX12_placeOf_0.1.2.1.1.1.1
theorem dX12_placeOf_23 : decode cX12_placeOf 23 = .ok (.if_icmp .ge 22, 3) := fp_hdX12_placeOf_0.1.2.1.1.1.2
theorem dX12_placeOf_26 : decode cX12_placeOf 26 = .ok (.aload_n 0, 1) := fp_hdX12_placeOf_0.1.2.1.1.2.1
theorem dX12_placeOf_27 : decode cX12_placeOf 27 = .ok (.iconst 0, 1) := fp_hdX12_placeOf_0.1.2.1.1.2.2
theorem dX12_placeOf_28 : decode cX12_placeOf 28 = .ok (.iload_n 2, 1) := fp_hdX12_placeOf_0.1.2.1.2.1.1
theorem dX12_placeOf_29 : decode cX12_placeOf 29 = .ok (.iload_n 3, 1) := fp_hdX12_placeOf_0.1.2.1.2.1.2
theorem dX12_placeOf_30 : decode cX12_placeOf 30 = .ok (.invokevirtual 201, 3) := fp_hdX12_placeOf_0.1.2.1.2.2.1
theorem dX12_placeOf_33 : decode cX12_placeOf 33 = .ok (.iload_n 1, 1) := fp_hdX12_placeOf_0.1.2.1.2.2.2
theorem dX12_placeOf_34 : decode cX12_placeOf 34 = .ok (.if_icmp .ne 5, 3) := fp_hdX12_placeOf_0.1.2.2.1.1.1
theorem dX12_placeOf_37 : decode cX12_placeOf 37 = .ok (.iload_n 3, 1) := fp_hdX12_placeOf_0.1.2.2.1.1.2
theorem dX12_placeOf_38 : decode cX12_placeOf 38 = .ok (.ireturn, 1) := fp_hdX12_placeOf_0.1.2.2.1.2.1
theorem dX12_placeOf_39 : decode cX12_placeOf 39 = .ok (.iinc 3 1, 3) := fp_hdX12_placeOf_0.1.2.2.1.2.2
theorem dX12_placeOf_42 : decode cX12_placeOf 42 = .ok (.goto (-30), 3) := fp_hdX12_placeOf_0.1.2.2.2.1.1
theorem dX12_placeOf_45 : decode cX12_placeOf 45 = .ok (.bipush (-4), 2) := fp_hdX12_placeOf_0.1.2.2.2.1.2
theorem dX12_placeOf_47 : decode cX12_placeOf 47 = .ok (.ireturn, 1) := fp_hdX12_placeOf_0.1.2.2.2.2
def fp_scX12_thing_1 : List Nat := 96 :: 46 :: 167 :: 0 :: 5 :: 16 :: 252 :: 172 :: 28 :: 133 :: 20 :: 0 :: 212 :: 20 :: 0 :: 214 :: 184 :: 0 :: 94 :: 153 :: 0 :: 19 :: 42 :: 180 :: 0 :: 16 :: 7 :: 27 :: 104 :: 28 :: 96 :: 16 :: 10 :: 100 :: 46 :: 167 :: 0 :: 4 :: 2 :: 172 :: []
def fp_scX12_thing_0 : List Nat := 42 :: 27 :: 182 :: 0 :: 205 :: 154 :: 0 :: 5 :: 2 :: 172 :: 28 :: 170 :: 0 :: 0 :: 0 :: 75 :: 0 :: 0 :: 0 :: 0 :: 0 :: 0 :: 0 :: 3 :: 0 :: 0 :: 0 :: 29 :: 0 :: 0 :: 0 :: 36 :: 0 :: 0 :: 0 :: 43 :: 0 :: 0 :: 0 :: 49 :: 42 :: 180 :: 0 :: 13 :: 27 :: 46 :: 172 :: 42 :: 180 :: 0 :: 7 :: 27 :: 46 :: 172 :: 42 :: 27 :: 182 :: 0 :: 209 :: 172 :: 42 :: 180 :: 0 :: 7 :: 27 :: 46 :: 16 :: 10 :: 161 :: 0 :: 15 :: 42 :: 180 :: 0 :: 7 :: 16 :: 37 :: 27 :: fp_scX12_thing_1
theorem fp_bcX12_thing : bA cX12_thing 0 fp_scX12_thing_0 := show cX12_thing.data.toList.map UInt8.toNat = fp_scX12_thing_0 from by decide +kernel
theorem fp_hdX12_thing_0 : (((((decode cX12_thing 0 = .ok (.aload_n 0, 1) ∧ decode cX12_thing 1 = .ok (.iload_n 1, 1)) ∧ (decode cX12_thing 2 = .ok (.invokevirtual 205, 3) ∧ decode cX12_thing 5 = .ok (.ifCond .ne 5, 3))) ∧ ((decode cX12_thing 8 = .ok (.iconst (-1), 1) ∧ decode cX12_thing 9 = .ok (.ireturn, 1)) ∧ (decode cX12_thing 10 = .ok (.iload_n 2, 1) ∧ decode cX12_thing 11 = .ok (.tableswitch 75 0 3 #[29, 36, 43, 49], 29)))) ∧ (((decode cX12_thing 40 = .ok (.aload_n 0, 1) ∧ decode cX12_thing 41 = .ok (.getfield 13, 3)) ∧ (decode cX12_thing 44 = .ok (.iload_n 1, 1) ∧ decode cX12_thing 45 = .ok (.iaload, 1))) ∧ ((decode cX12_thing 46 = .ok (.ireturn, 1) ∧ decode cX12_thing 47 = .ok (.aload_n 0, 1)) ∧ (decode cX12_thing 48 = .ok (.getfield 7, 3) ∧ decode cX12_thing 51 = .ok (.iload_n 1, 1))))) ∧ ((((decode cX12_thing 52 = .ok (.iaload, 1) ∧ decode cX12_thing 53 = .ok (.ireturn, 1)) ∧ (decode cX12_thing 54 = .ok (.aload_n 0, 1) ∧ decode cX12_thing 55 = .ok (.iload_n 1, 1))) ∧ ((decode cX12_thing 56 = .ok (.invokevirtual 209, 3) ∧ decode cX12_thing 59 = .ok (.ireturn, 1)) ∧ (decode cX12_thing 60 = .ok (.aload_n 0, 1) ∧ decode cX12_thing 61 = .ok (.getfield 7, 3)))) ∧ (((decode cX12_thing 64 = .ok (.iload_n 1, 1) ∧ decode cX12_thing 65 = .ok (.iaload, 1)) ∧ (decode cX12_thing 66 = .ok (.bipush 10, 2) ∧ decode cX12_thing 68 = .ok (.if_icmp .lt 15, 3))) ∧ ((decode cX12_thing 71 = .ok (.aload_n 0, 1) ∧ decode cX12_thing 72 = .ok (.getfield 7, 3)) ∧ (decode cX12_thing 75 = .ok (.bipush 37, 2) ∧ decode cX12_thing 77 = .ok (.iload_n 1, 1)))))) ∧ bA cX12_thing 78 fp_scX12_thing_1 :=
  have q0 := fp_o42 fp_bcX12_thing
  have q1 := fp_o27 q0.2
  have q2 := fp_o182 (v := 205) q1.2 rfl
  have q3 := fp_o154 (v := 5) q2.2 rfl
  have q4 := fp_o2 q3.2
  have q5 := fp_o172 q4.2
  have q6 := fp_o28 q5.2
  have q7 : decode cX12_thing 11 = .ok (.tableswitch 75 0 3 #[29, 36, 43, 49], 29) ∧ bA cX12_thing 40 (42 :: 180 :: 0 :: 13 :: 27 :: 46 :: 172 :: 42 :: 180 :: 0 :: 7 :: 27 :: 46 :: 172 :: 42 :: 27 :: 182 :: 0 :: 209 :: 172 :: 42 :: 180 :: 0 :: 7 :: 27 :: 46 :: 16 :: 10 :: 161 :: 0 :: 15 :: 42 :: 180 :: 0 :: 7 :: 16 :: 37 :: 27 :: fp_scX12_thing_1) := ⟨fp_dk (by decide +kernel), bA_skip 29 q6.2⟩
  have q8 := fp_o42 q7.2
  have q9 := fp_o180 (v := 13) q8.2 rfl
  have q10 := fp_o27 q9.2
  have q11 := fp_o46 q10.2
  have q12 := fp_o172 q11.2
  have q13 := fp_o42 q12.2
  have q14 := fp_o180 (v := 7) q13.2 rfl
  have q15 := fp_o27 q14.2
  have q16 := fp_o46 q15.2
  have q17 := fp_o172 q16.2
  have q18 := fp_o42 q17.2
  have q19 := fp_o27 q18.2
  have q20 := fp_o182 (v := 209) q19.2 rfl
  have q21 := fp_o172 q20.2
  have q22 := fp_o42 q21.2
  have q23 := fp_o180 (v := 7) q22.2 rfl
  have q24 := fp_o27 q23.2
  have q25 := fp_o46 q24.2
  have q26 := fp_o16 (v := 10) q25.2 rfl
  have q27 := fp_o161 (v := 15) q26.2 rfl
  have q28 := fp_o42 q27.2
  have q29 := fp_o180 (v := 7) q28.2 rfl
  have q30 := fp_o16 (v := 37) q29.2 rfl
  have q31 := fp_o27 q30.2
  ⟨⟨⟨⟨⟨⟨q0.1, q1.1⟩, ⟨q2.1, q3.1⟩⟩, ⟨⟨q4.1, q5.1⟩, ⟨q6.1, q7.1⟩⟩⟩, ⟨⟨⟨q8.1, q9.1⟩, ⟨q10.1, q11.1⟩⟩, ⟨⟨q12.1, q13.1⟩, ⟨q14.1, q15.1⟩⟩⟩⟩, ⟨⟨⟨⟨q16.1, q17.1⟩, ⟨q18.1, q19.1⟩⟩, ⟨⟨q20.1, q21.1⟩, ⟨q22.1, q23.1⟩⟩⟩, ⟨⟨⟨q24.1, q25.1⟩, ⟨q26.1, q27.1⟩⟩, ⟨⟨q28.1, q29.1⟩, ⟨q30.1, q31.1⟩⟩⟩⟩⟩, q31.2⟩
theorem dX12_thing_0 : decode cX12_thing 0 = .ok (.aload_n 0, 1) := fp_hdX12_thing_0.1.1.1.1.1.1
theorem dX12_thing_1 : decode cX12_thing 1 = .ok (.iload_n 1, 1) := fp_hdX12_thing_0.1.1.1.1.1.2
theorem dX12_thing_2 : decode cX12_thing 2 = .ok (.invokevirtual 205, 3) := fp_hdX12_thing_0.1.1.1.1.2.1
theorem dX12_thing_5 : decode cX12_thing 5 = .ok (.ifCond .ne 5, 3) := fp_hdX12_thing_0.1.1.1.1.2.2
theorem dX12_thing_8 : decode cX12_thing 8 = .ok (.iconst (-1), 1) := fp_hdX12_thing_0.1.1.1.2.1.1
theorem dX12_thing_9 : decode cX12_thing 9 = .ok (.ireturn, 1) := fp_hdX12_thing_0.1.1.1.2.1.2
theorem dX12_thing_10 : decode cX12_thing 10 = .ok (.iload_n 2, 1) := fp_hdX12_thing_0.1.1.1.2.2.1
theorem dX12_thing_11 : decode cX12_thing 11 = .ok (.tableswitch 75 0 3 #[29, 36, 43, 49], 29) := fp_hdX12_thing_0.1.1.1.2.2.2
theorem dX12_thing_40 : decode cX12_thing 40 = .ok (.aload_n 0, 1) := fp_hdX12_thing_0.1.1.2.1.1.1
theorem dX12_thing_41 : decode cX12_thing 41 = .ok (.getfield 13, 3) := fp_hdX12_thing_0.1.1.2.1.1.2
theorem dX12_thing_44 : decode cX12_thing 44 = .ok (.iload_n 1, 1) := fp_hdX12_thing_0.1.1.2.1.2.1
theorem dX12_thing_45 : decode cX12_thing 45 = .ok (.iaload, 1) := fp_hdX12_thing_0.1.1.2.1.2.2
theorem dX12_thing_46 : decode cX12_thing 46 = .ok (.ireturn, 1) := fp_hdX12_thing_0.1.1.2.2.1.1
theorem dX12_thing_47 : decode cX12_thing 47 = .ok (.aload_n 0, 1) := fp_hdX12_thing_0.1.1.2.2.1.2
theorem dX12_thing_48 : decode cX12_thing 48 = .ok (.getfield 7, 3) := fp_hdX12_thing_0.1.1.2.2.2.1
theorem dX12_thing_51 : decode cX12_thing 51 = .ok (.iload_n 1, 1) := fp_hdX12_thing_0.1.1.2.2.2.2
theorem dX12_thing_52 : decode cX12_thing 52 = .ok (.iaload, 1) := fp_hdX12_thing_0.1.2.1.1.1.1
theorem dX12_thing_53 : decode cX12_thing 53 = .ok (.ireturn, 1) := fp_hdX12_thing_0.1.2.1.1.1.2
theorem dX12_thing_54 : decode cX12_thing 54 = .ok (.aload_n 0, 1) := fp_hdX12_thing_0.1.2.1.1.2.1
theorem dX12_thing_55 : decode cX12_thing 55 = .ok (.iload_n 1, 1) := fp_hdX12_thing_0.1.2.1.1.2.2
theorem dX12_thing_56 : decode cX12_thing 56 = .ok (.invokevirtual 209, 3) := fp_hdX12_thing_0.1.2.1.2.1.1
theorem dX12_thing_59 : decode cX12_thing 59 = .ok (.ireturn, 1) := fp_hdX12_thing_0.1.2.1.2.1.2
theorem dX12_thing_60 : decode cX12_thing 60 = .ok (.aload_n 0, 1) := fp_hdX12_thing_0.1.2.1.2.2.1
theorem dX12_thing_61 : decode cX12_thing 61 = .ok (.getfield 7, 3) := fp_hdX12_thing_0.1.2.1.2.2.2
theorem dX12_thing_64 : decode cX12_thing 64 = .ok (.iload_n 1, 1) := fp_hdX12_thing_0.1.2.2.1.1.1
theorem dX12_thing_65 : decode cX12_thing 65 = .ok (.iaload, 1) := fp_hdX12_thing_0.1.2.2.1.1.2
theorem dX12_thing_66 : decode cX12_thing 66 = .ok (.bipush 10, 2) := fp_hdX12_thing_0.1.2.2.1.2.1
theorem dX12_thing_68 : decode cX12_thing 68 = .ok (.if_icmp .lt 15, 3) := fp_hdX12_thing_0.1.2.2.1.2.2
theorem dX12_thing_71 : decode cX12_thing 71 = .ok (.aload_n 0, 1) := fp_hdX12_thing_0.1.2.2.2.1.1
theorem dX12_thing_72 : decode cX12_thing 72 = .ok (.getfield 7, 3) := fp_hdX12_thing_0.1.2.2.2.1.2
theorem dX12_thing_75 : decode cX12_thing 75 = .ok (.bipush 37, 2) := fp_hdX12_thing_0.1.2.2.2.2.1
theorem dX12_thing_77 : decode cX12_thing 77 = .ok (.iload_n 1, 1) := fp_hdX12_thing_0.1.2.2.2.2.2
theorem fp_hdX12_thing_78 : (((((decode cX12_thing 78 = .ok (.iadd, 1) ∧ decode cX12_thing 79 = .ok (.iaload, 1)) ∧ decode cX12_thing 80 = .ok (.goto 5, 3)) ∧ ((decode cX12_thing 83 = .ok (.bipush (-4), 2) ∧ decode cX12_thing 85 = .ok (.ireturn, 1)) ∧ decode cX12_thing 86 = .ok (.iload_n 2, 1))) ∧ (((decode cX12_thing 87 = .ok (.i2l, 1) ∧ decode cX12_thing 88 = .ok (.ldc2_w 212, 3)) ∧ decode cX12_thing 91 = .ok (.ldc2_w 214, 3)) ∧ ((decode cX12_thing 94 = .ok (.invokestatic 94, 3) ∧ decode cX12_thing 97 = .ok (.ifCond .eq 19, 3)) ∧ decode cX12_thing 100 = .ok (.aload_n 0, 1)))) ∧ ((((decode cX12_thing 101 = .ok (.getfield 16, 3) ∧ decode cX12_thing 104 = .ok (.iconst 4, 1)) ∧ decode cX12_thing 105 = .ok (.iload_n 1, 1)) ∧ ((decode cX12_thing 106 = .ok (.imul, 1) ∧ decode cX12_thing 107 = .ok (.iload_n 2, 1)) ∧ decode cX12_thing 108 = .ok (.iadd, 1))) ∧ (((decode cX12_thing 109 = .ok (.bipush 10, 2) ∧ decode cX12_thing 111 = .ok (.isub, 1)) ∧ decode cX12_thing 112 = .ok (.iaload, 1)) ∧ ((decode cX12_thing 113 = .ok (.goto 4, 3) ∧ decode cX12_thing 116 = .ok (.iconst (-1), 1)) ∧ decode cX12_thing 117 = .ok (.ireturn, 1))))) ∧ bA cX12_thing 118 [] :=
  have q0 := fp_o96 fp_hdX12_thing_0.2
  have q1 := fp_o46 q0.2
  have q2 := fp_o167 (v := 5) q1.2 rfl
  have q3 := fp_o16 (v := (-4)) q2.2 rfl
  have q4 := fp_o172 q3.2
  have q5 := fp_o28 q4.2
  have q6 := fp_o133 q5.2
  have q7 := fp_o20 (v := 212) q6.2 rfl
  have q8 := fp_o20 (v := 214) q7.2 rfl
  have q9 := fp_o184 (v := 94) q8.2 rfl
  have q10 := fp_o153 (v := 19) q9.2 rfl
  have q11 := fp_o42 q10.2
  have q12 := fp_o180 (v := 16) q11.2 rfl
  have q13 := fp_o7 q12.2
  have q14 := fp_o27 q13.2
  have q15 := fp_o104 q14.2
  have q16 := fp_o28 q15.2
  have q17 := fp_o96 q16.2
  have q18 := fp_o16 (v := 10) q17.2 rfl
  have q19 := fp_o100 q18.2
  have q20 := fp_o46 q19.2
  have q21 := fp_o167 (v := 4) q20.2 rfl
  have q22 := fp_o2 q21.2
  have q23 := fp_o172 q22.2
  ⟨⟨⟨⟨⟨⟨q0.1, q1.1⟩, q2.1⟩, ⟨⟨q3.1, q4.1⟩, q5.1⟩⟩, ⟨⟨⟨q6.1, q7.1⟩, q8.1⟩, ⟨⟨q9.1, q10.1⟩, q11.1⟩⟩⟩, ⟨⟨⟨⟨q12.1, q13.1⟩, q14.1⟩, ⟨⟨q15.1, q16.1⟩, q17.1⟩⟩, ⟨⟨⟨q18.1, q19.1⟩, q20.1⟩, ⟨⟨q21.1, q22.1⟩, q23.1⟩⟩⟩⟩, q23.2⟩
theorem dX12_thing_78 : decode cX12_thing 78 = .ok (.iadd, 1) := fp_hdX12_thing_78.1.1.1.1.1.1
theorem dX12_thing_79 : decode cX12_thing 79 = .ok (.iaload, 1) := fp_hdX12_thing_78.1.1.1.1.1.2
theorem dX12_thing_80 : decode cX12_thing 80 = .ok (.goto 5, 3) := fp_hdX12_thing_78.1.1.1.1.2
theorem dX12_thing_83 : decode cX12_thing 83 = .ok (.bipush (-4), 2) := fp_hdX12_thing_78.1.1.1.2.1.1
theorem dX12_thing_85 : decode cX12_thing 85 = .ok (.ireturn, 1) := fp_hdX12_thing_78.1.1.1.2.1.2
theorem dX12_thing_86 : decode cX12_thing 86 = .ok (.iload_n 2, 1) := fp_hdX12_thing_78.1.1.1.2.2
theorem dX12_thing_87 : decode cX12_thing 87 = .ok (.i2l, 1) := fp_hdX12_thing_78.1.1.2.1.1.1
theorem dX12_thing_88 : decode cX12_thing 88 = .ok (.ldc2_w 212, 3) := fp_hdX12_thing_78.1.1.2.1.1.2
theorem dX12_thing_91 : decode cX12_thing 91 = .ok (.ldc2_w 214, 3) := fp_hdX12_thing_78.1.1.2.1.2
theorem dX12_thing_94 : decode cX12_thing 94 = .ok (.invokestatic 94, 3) := fp_hdX12_thing_78.1.1.2.2.1.1
theorem dX12_thing_97 : decode cX12_thing 97 = .ok (.ifCond .eq 19, 3) := fp_hdX12_thing_78.1.1.2.2.1.2
theorem dX12_thing_100 : decode cX12_thing 100 = .ok (.aload_n 0, 1) := fp_hdX12_thing_78.1.1.2.2.2
theorem dX12_thing_101 : decode cX12_thing 101 = .ok (.getfield 16, 3) := fp_hdX12_thing_78.1.2.1.1.1.1
theorem dX12_thing_104 : decode cX12_thing 104 = .ok (.iconst 4, 1) := fp_hdX12_thing_78.1.2.1.1.1.2
theorem dX12_thing_105 : decode cX12_thing 105 = .ok (.iload_n 1, 1) := fp_hdX12_thing_78.1.2.1.1.2
theorem dX12_thing_106 : decode cX12_thing 106 = .ok (.imul, 1) := fp_hdX12_thing_78.1.2.1.2.1.1
theorem dX12_thing_107 : decode cX12_thing 107 = .ok (.iload_n 2, 1) := fp_hdX12_thing_78.1.2.1.2.1.2
theorem dX12_thing_108 : decode cX12_thing 108 = .ok (.iadd, 1) := fp_hdX12_thing_78.1.2.1.2.2
theorem dX12_thing_109 : decode cX12_thing 109 = .ok (.bipush 10, 2) := fp_hdX12_thing_78.1.2.2.1.1.1
theorem dX12_thing_111 : decode cX12_thing 111 = .ok (.isub, 1) := fp_hdX12_thing_78.1.2.2.1.1.2
theorem dX12_thing_112 : decode cX12_thing 112 = .ok (.iaload, 1) := fp_hdX12_thing_78.1.2.2.1.2
theorem dX12_thing_113 : decode cX12_thing 113 = .ok (.goto 4, 3) := fp_hdX12_thing_78.1.2.2.2.1.1
theorem dX12_thing_116 : decode cX12_thing 116 = .ok (.iconst (-1), 1) := fp_hdX12_thing_78.1.2.2.2.1.2
theorem dX12_thing_117 : decode cX12_thing 117 = .ok (.ireturn, 1) := fp_hdX12_thing_78.1.2.2.2.2
def fp_scX12_givesAt_1 : List Nat := 42 :: 180 :: 0 :: 13 :: 42 :: 27 :: 28 :: 21 :: 5 :: 182 :: 0 :: 201 :: 46 :: 42 :: 180 :: 0 :: 13 :: 42 :: 27 :: 28 :: 21 :: 4 :: 182 :: 0 :: 201 :: 46 :: 162 :: 0 :: 8 :: 21 :: 5 :: 167 :: 0 :: 5 :: 21 :: 4 :: 54 :: 4 :: 132 :: 5 :: 1 :: 167 :: 255 :: 199 :: 21 :: 4 :: 172 :: []
def fp_scX12_givesAt_0 : List Nat := 42 :: 27 :: 28 :: 182 :: 0 :: 198 :: 62 :: 29 :: 154 :: 0 :: 6 :: 16 :: 252 :: 172 :: 42 :: 180 :: 0 :: 19 :: 28 :: 46 :: 4 :: 160 :: 0 :: 9 :: 29 :: 4 :: 100 :: 167 :: 0 :: 4 :: 3 :: 54 :: 4 :: 4 :: 54 :: 5 :: 21 :: 5 :: 29 :: 162 :: 0 :: 57 :: 42 :: 180 :: 0 :: 19 :: 28 :: 46 :: 5 :: 160 :: 0 :: 47 :: fp_scX12_givesAt_1
theorem fp_bcX12_givesAt : bA cX12_givesAt 0 fp_scX12_givesAt_0 := show cX12_givesAt.data.toList.map UInt8.toNat = fp_scX12_givesAt_0 from by decide +kernel
theorem fp_hdX12_givesAt_0 : (((((decode cX12_givesAt 0 = .ok (.aload_n 0, 1) ∧ decode cX12_givesAt 1 = .ok (.iload_n 1, 1)) ∧ (decode cX12_givesAt 2 = .ok (.iload_n 2, 1) ∧ decode cX12_givesAt 3 = .ok (.invokevirtual 198, 3))) ∧ ((decode cX12_givesAt 6 = .ok (.istore_n 3, 1) ∧ decode cX12_givesAt 7 = .ok (.iload_n 3, 1)) ∧ (decode cX12_givesAt 8 = .ok (.ifCond .ne 6, 3) ∧ decode cX12_givesAt 11 = .ok (.bipush (-4), 2)))) ∧ (((decode cX12_givesAt 13 = .ok (.ireturn, 1) ∧ decode cX12_givesAt 14 = .ok (.aload_n 0, 1)) ∧ (decode cX12_givesAt 15 = .ok (.getfield 19, 3) ∧ decode cX12_givesAt 18 = .ok (.iload_n 2, 1))) ∧ ((decode cX12_givesAt 19 = .ok (.iaload, 1) ∧ decode cX12_givesAt 20 = .ok (.iconst 1, 1)) ∧ (decode cX12_givesAt 21 = .ok (.if_icmp .ne 9, 3) ∧ decode cX12_givesAt 24 = .ok (.iload_n 3, 1))))) ∧ ((((decode cX12_givesAt 25 = .ok (.iconst 1, 1) ∧ decode cX12_givesAt 26 = .ok (.isub, 1)) ∧ (decode cX12_givesAt 27 = .ok (.goto 4, 3) ∧ decode cX12_givesAt 30 = .ok (.iconst 0, 1))) ∧ ((decode cX12_givesAt 31 = .ok (.istore 4, 2) ∧ decode cX12_givesAt 33 = .ok (.iconst 1, 1)) ∧ (decode cX12_givesAt 34 = .ok (.istore 5, 2) ∧ decode cX12_givesAt 36 = .ok (.iload 5, 2)))) ∧ (((decode cX12_givesAt 38 = .ok (.iload_n 3, 1) ∧ decode cX12_givesAt 39 = .ok (.if_icmp .ge 57, 3)) ∧ (decode cX12_givesAt 42 = .ok (.aload_n 0, 1) ∧ decode cX12_givesAt 43 = .ok (.getfield 19, 3))) ∧ ((decode cX12_givesAt 46 = .ok (.iload_n 2, 1) ∧ decode cX12_givesAt 47 = .ok (.iaload, 1)) ∧ (decode cX12_givesAt 48 = .ok (.iconst 2, 1) ∧ decode cX12_givesAt 49 = .ok (.if_icmp .ne 47, 3)))))) ∧ bA cX12_givesAt 52 fp_scX12_givesAt_1 :=
  have q0 := fp_o42 fp_bcX12_givesAt
  have q1 := fp_o27 q0.2
  have q2 := fp_o28 q1.2
  have q3 := fp_o182 (v := 198) q2.2 rfl
  have q4 := fp_o62 q3.2
  have q5 := fp_o29 q4.2
  have q6 := fp_o154 (v := 6) q5.2 rfl
  have q7 := fp_o16 (v := (-4)) q6.2 rfl
  have q8 := fp_o172 q7.2
  have q9 := fp_o42 q8.2
  have q10 := fp_o180 (v := 19) q9.2 rfl
  have q11 := fp_o28 q10.2
  have q12 := fp_o46 q11.2
  have q13 := fp_o4 q12.2
  have q14 := fp_o160 (v := 9) q13.2 rfl
  have q15 := fp_o29 q14.2
  have q16 := fp_o4 q15.2
  have q17 := fp_o100 q16.2
  have q18 := fp_o167 (v := 4) q17.2 rfl
  have q19 := fp_o3 q18.2
  have q20 := fp_o54 q19.2
  have q21 := fp_o4 q20.2
  have q22 := fp_o54 q21.2
  have q23 := fp_o21 q22.2
  have q24 := fp_o29 q23.2
  have q25 := fp_o162 (v := 57) q24.2 rfl
  have q26 := fp_o42 q25.2
  have q27 := fp_o180 (v := 19) q26.2 rfl
  have q28 := fp_o28 q27.2
  have q29 := fp_o46 q28.2
  have q30 := fp_o5 q29.2
  have q31 := fp_o160 (v := 47) q30.2 rfl
  ⟨⟨⟨⟨⟨⟨q0.1, q1.1⟩, ⟨q2.1, q3.1⟩⟩, ⟨⟨q4.1, q5.1⟩, ⟨q6.1, q7.1⟩⟩⟩, ⟨⟨⟨q8.1, q9.1⟩, ⟨q10.1, q11.1⟩⟩, ⟨⟨q12.1, q13.1⟩, ⟨q14.1, q15.1⟩⟩⟩⟩, ⟨⟨⟨⟨q16.1, q17.1⟩, ⟨q18.1, q19.1⟩⟩, ⟨⟨q20.1, q21.1⟩, ⟨q22.1, q23.1⟩⟩⟩, ⟨⟨⟨q24.1, q25.1⟩, ⟨q26.1, q27.1⟩⟩, ⟨⟨q28.1, q29.1⟩, ⟨q30.1, q31.1⟩⟩⟩⟩⟩, q31.2⟩
theorem dX12_givesAt_0 : decode cX12_givesAt 0 = .ok (.aload_n 0, 1) := fp_hdX12_givesAt_0.1.1.1.1.1.1
theorem dX12_givesAt_1 : decode cX12_givesAt 1 = .ok (.iload_n 1, 1) := fp_hdX12_givesAt_0.1.1.1.1.1.2
theorem dX12_givesAt_2 : decode cX12_givesAt 2 = .ok (.iload_n 2, 1) := fp_hdX12_givesAt_0.1.1.1.1.2.1
theorem dX12_givesAt_3 : decode cX12_givesAt 3 = .ok (.invokevirtual 198, 3) := fp_hdX12_givesAt_0.1.1.1.1.2.2
theorem dX12_givesAt_6 : decode cX12_givesAt 6 = .ok (.istore_n 3, 1) := fp_hdX12_givesAt_0.1.1.1.2.1.1
theorem dX12_givesAt_7 : decode cX12_givesAt 7 = .ok (.iload_n 3, 1) := fp_hdX12_givesAt_0.1.1.1.2.1.2
theorem dX12_givesAt_8 : decode cX12_givesAt 8 = .ok (.ifCond .ne 6, 3) := fp_hdX12_givesAt_0.1.1.1.2.2.1
theorem dX12_givesAt_11 : decode cX12_givesAt 11 = .ok (.bipush (-4), 2) := fp_hdX12_givesAt_0.1.1.1.2.2.2
theorem dX12_givesAt_13 : decode cX12_givesAt 13 = .ok (.ireturn, 1) := fp_hdX12_givesAt_0.1.1.2.1.1.1
theorem dX12_givesAt_14 : decode cX12_givesAt 14 = .ok (.aload_n 0, 1) := fp_hdX12_givesAt_0.1.1.2.1.1.2
theorem dX12_givesAt_15 : decode cX12_givesAt 15 = .ok (.getfield 19, 3) := fp_hdX12_givesAt_0.1.1.2.1.2.1
theorem dX12_givesAt_18 : decode cX12_givesAt 18 = .ok (.iload_n 2, 1) := fp_hdX12_givesAt_0.1.1.2.1.2.2
theorem dX12_givesAt_19 : decode cX12_givesAt 19 = .ok (.iaload, 1) := fp_hdX12_givesAt_0.1.1.2.2.1.1
theorem dX12_givesAt_20 : decode cX12_givesAt 20 = .ok (.iconst 1, 1) := fp_hdX12_givesAt_0.1.1.2.2.1.2
theorem dX12_givesAt_21 : decode cX12_givesAt 21 = .ok (.if_icmp .ne 9, 3) := fp_hdX12_givesAt_0.1.1.2.2.2.1
theorem dX12_givesAt_24 : decode cX12_givesAt 24 = .ok (.iload_n 3, 1) := fp_hdX12_givesAt_0.1.1.2.2.2.2
theorem dX12_givesAt_25 : decode cX12_givesAt 25 = .ok (.iconst 1, 1) := fp_hdX12_givesAt_0.1.2.1.1.1.1
theorem dX12_givesAt_26 : decode cX12_givesAt 26 = .ok (.isub, 1) := fp_hdX12_givesAt_0.1.2.1.1.1.2
theorem dX12_givesAt_27 : decode cX12_givesAt 27 = .ok (.goto 4, 3) := fp_hdX12_givesAt_0.1.2.1.1.2.1
theorem dX12_givesAt_30 : decode cX12_givesAt 30 = .ok (.iconst 0, 1) := fp_hdX12_givesAt_0.1.2.1.1.2.2
theorem dX12_givesAt_31 : decode cX12_givesAt 31 = .ok (.istore 4, 2) := fp_hdX12_givesAt_0.1.2.1.2.1.1
theorem dX12_givesAt_33 : decode cX12_givesAt 33 = .ok (.iconst 1, 1) := fp_hdX12_givesAt_0.1.2.1.2.1.2
theorem dX12_givesAt_34 : decode cX12_givesAt 34 = .ok (.istore 5, 2) := fp_hdX12_givesAt_0.1.2.1.2.2.1
theorem dX12_givesAt_36 : decode cX12_givesAt 36 = .ok (.iload 5, 2) := fp_hdX12_givesAt_0.1.2.1.2.2.2
theorem dX12_givesAt_38 : decode cX12_givesAt 38 = .ok (.iload_n 3, 1) := fp_hdX12_givesAt_0.1.2.2.1.1.1
theorem dX12_givesAt_39 : decode cX12_givesAt 39 = .ok (.if_icmp .ge 57, 3) := fp_hdX12_givesAt_0.1.2.2.1.1.2
theorem dX12_givesAt_42 : decode cX12_givesAt 42 = .ok (.aload_n 0, 1) := fp_hdX12_givesAt_0.1.2.2.1.2.1
theorem dX12_givesAt_43 : decode cX12_givesAt 43 = .ok (.getfield 19, 3) := fp_hdX12_givesAt_0.1.2.2.1.2.2
theorem dX12_givesAt_46 : decode cX12_givesAt 46 = .ok (.iload_n 2, 1) := fp_hdX12_givesAt_0.1.2.2.2.1.1
theorem dX12_givesAt_47 : decode cX12_givesAt 47 = .ok (.iaload, 1) := fp_hdX12_givesAt_0.1.2.2.2.1.2
theorem dX12_givesAt_48 : decode cX12_givesAt 48 = .ok (.iconst 2, 1) := fp_hdX12_givesAt_0.1.2.2.2.2.1
theorem dX12_givesAt_49 : decode cX12_givesAt 49 = .ok (.if_icmp .ne 47, 3) := fp_hdX12_givesAt_0.1.2.2.2.2.2
theorem fp_hdX12_givesAt_52 : (((((decode cX12_givesAt 52 = .ok (.aload_n 0, 1) ∧ decode cX12_givesAt 53 = .ok (.getfield 13, 3)) ∧ (decode cX12_givesAt 56 = .ok (.aload_n 0, 1) ∧ decode cX12_givesAt 57 = .ok (.iload_n 1, 1))) ∧ ((decode cX12_givesAt 58 = .ok (.iload_n 2, 1) ∧ decode cX12_givesAt 59 = .ok (.iload 5, 2)) ∧ decode cX12_givesAt 61 = .ok (.invokevirtual 201, 3))) ∧ (((decode cX12_givesAt 64 = .ok (.iaload, 1) ∧ decode cX12_givesAt 65 = .ok (.aload_n 0, 1)) ∧ decode cX12_givesAt 66 = .ok (.getfield 13, 3)) ∧ ((decode cX12_givesAt 69 = .ok (.aload_n 0, 1) ∧ decode cX12_givesAt 70 = .ok (.iload_n 1, 1)) ∧ decode cX12_givesAt 71 = .ok (.iload_n 2, 1)))) ∧ ((((decode cX12_givesAt 72 = .ok (.iload 4, 2) ∧ decode cX12_givesAt 74 = .ok (.invokevirtual 201, 3)) ∧ decode cX12_givesAt 77 = .ok (.iaload, 1)) ∧ ((decode cX12_givesAt 78 = .ok (.if_icmp .ge 8, 3) ∧ decode cX12_givesAt 81 = .ok (.iload 5, 2)) ∧ decode cX12_givesAt 83 = .ok (.goto 5, 3))) ∧ (((decode cX12_givesAt 86 = .ok (.iload 4, 2) ∧ decode cX12_givesAt 88 = .ok (.istore 4, 2)) ∧ decode cX12_givesAt 90 = .ok (.iinc 5 1, 3)) ∧ ((decode cX12_givesAt 93 = .ok (.goto (-57), 3) ∧ decode cX12_givesAt 96 = .ok (.iload 4, 2)) ∧ decode cX12_givesAt 98 = .ok (.ireturn, 1))))) ∧ bA cX12_givesAt 99 [] :=
  have q0 := fp_o42 fp_hdX12_givesAt_0.2
  have q1 := fp_o180 (v := 13) q0.2 rfl
  have q2 := fp_o42 q1.2
  have q3 := fp_o27 q2.2
  have q4 := fp_o28 q3.2
  have q5 := fp_o21 q4.2
  have q6 := fp_o182 (v := 201) q5.2 rfl
  have q7 := fp_o46 q6.2
  have q8 := fp_o42 q7.2
  have q9 := fp_o180 (v := 13) q8.2 rfl
  have q10 := fp_o42 q9.2
  have q11 := fp_o27 q10.2
  have q12 := fp_o28 q11.2
  have q13 := fp_o21 q12.2
  have q14 := fp_o182 (v := 201) q13.2 rfl
  have q15 := fp_o46 q14.2
  have q16 := fp_o162 (v := 8) q15.2 rfl
  have q17 := fp_o21 q16.2
  have q18 := fp_o167 (v := 5) q17.2 rfl
  have q19 := fp_o21 q18.2
  have q20 := fp_o54 q19.2
  have q21 := fp_o132 (v := 1) q20.2 rfl
  have q22 := fp_o167 (v := (-57)) q21.2 rfl
  have q23 := fp_o21 q22.2
  have q24 := fp_o172 q23.2
  ⟨⟨⟨⟨⟨⟨q0.1, q1.1⟩, ⟨q2.1, q3.1⟩⟩, ⟨⟨q4.1, q5.1⟩, q6.1⟩⟩, ⟨⟨⟨q7.1, q8.1⟩, q9.1⟩, ⟨⟨q10.1, q11.1⟩, q12.1⟩⟩⟩, ⟨⟨⟨⟨q13.1, q14.1⟩, q15.1⟩, ⟨⟨q16.1, q17.1⟩, q18.1⟩⟩, ⟨⟨⟨q19.1, q20.1⟩, q21.1⟩, ⟨⟨q22.1, q23.1⟩, q24.1⟩⟩⟩⟩, q24.2⟩
theorem dX12_givesAt_52 : decode cX12_givesAt 52 = .ok (.aload_n 0, 1) := fp_hdX12_givesAt_52.1.1.1.1.1.1
theorem dX12_givesAt_53 : decode cX12_givesAt 53 = .ok (.getfield 13, 3) := fp_hdX12_givesAt_52.1.1.1.1.1.2
theorem dX12_givesAt_56 : decode cX12_givesAt 56 = .ok (.aload_n 0, 1) := fp_hdX12_givesAt_52.1.1.1.1.2.1
theorem dX12_givesAt_57 : decode cX12_givesAt 57 = .ok (.iload_n 1, 1) := fp_hdX12_givesAt_52.1.1.1.1.2.2
theorem dX12_givesAt_58 : decode cX12_givesAt 58 = .ok (.iload_n 2, 1) := fp_hdX12_givesAt_52.1.1.1.2.1.1
theorem dX12_givesAt_59 : decode cX12_givesAt 59 = .ok (.iload 5, 2) := fp_hdX12_givesAt_52.1.1.1.2.1.2
theorem dX12_givesAt_61 : decode cX12_givesAt 61 = .ok (.invokevirtual 201, 3) := fp_hdX12_givesAt_52.1.1.1.2.2
theorem dX12_givesAt_64 : decode cX12_givesAt 64 = .ok (.iaload, 1) := fp_hdX12_givesAt_52.1.1.2.1.1.1
theorem dX12_givesAt_65 : decode cX12_givesAt 65 = .ok (.aload_n 0, 1) := fp_hdX12_givesAt_52.1.1.2.1.1.2
theorem dX12_givesAt_66 : decode cX12_givesAt 66 = .ok (.getfield 13, 3) := fp_hdX12_givesAt_52.1.1.2.1.2
theorem dX12_givesAt_69 : decode cX12_givesAt 69 = .ok (.aload_n 0, 1) := fp_hdX12_givesAt_52.1.1.2.2.1.1
theorem dX12_givesAt_70 : decode cX12_givesAt 70 = .ok (.iload_n 1, 1) := fp_hdX12_givesAt_52.1.1.2.2.1.2
theorem dX12_givesAt_71 : decode cX12_givesAt 71 = .ok (.iload_n 2, 1) := fp_hdX12_givesAt_52.1.1.2.2.2
theorem dX12_givesAt_72 : decode cX12_givesAt 72 = .ok (.iload 4, 2) := fp_hdX12_givesAt_52.1.2.1.1.1.1
theorem dX12_givesAt_74 : decode cX12_givesAt 74 = .ok (.invokevirtual 201, 3) := fp_hdX12_givesAt_52.1.2.1.1.1.2
theorem dX12_givesAt_77 : decode cX12_givesAt 77 = .ok (.iaload, 1) := fp_hdX12_givesAt_52.1.2.1.1.2
theorem dX12_givesAt_78 : decode cX12_givesAt 78 = .ok (.if_icmp .ge 8, 3) := fp_hdX12_givesAt_52.1.2.1.2.1.1
theorem dX12_givesAt_81 : decode cX12_givesAt 81 = .ok (.iload 5, 2) := fp_hdX12_givesAt_52.1.2.1.2.1.2
theorem dX12_givesAt_83 : decode cX12_givesAt 83 = .ok (.goto 5, 3) := fp_hdX12_givesAt_52.1.2.1.2.2
theorem dX12_givesAt_86 : decode cX12_givesAt 86 = .ok (.iload 4, 2) := fp_hdX12_givesAt_52.1.2.2.1.1.1
theorem dX12_givesAt_88 : decode cX12_givesAt 88 = .ok (.istore 4, 2) := fp_hdX12_givesAt_52.1.2.2.1.1.2
theorem dX12_givesAt_90 : decode cX12_givesAt 90 = .ok (.iinc 5 1, 3) := fp_hdX12_givesAt_52.1.2.2.1.2
theorem dX12_givesAt_93 : decode cX12_givesAt 93 = .ok (.goto (-57), 3) := fp_hdX12_givesAt_52.1.2.2.2.1.1
theorem dX12_givesAt_96 : decode cX12_givesAt 96 = .ok (.iload 4, 2) := fp_hdX12_givesAt_52.1.2.2.2.1.2
theorem dX12_givesAt_98 : decode cX12_givesAt 98 = .ok (.ireturn, 1) := fp_hdX12_givesAt_52.1.2.2.2.2
def fp_scX12_gives_0 : List Nat := 42 :: 27 :: 28 :: 182 :: 0 :: 216 :: 62 :: 29 :: 16 :: 252 :: 160 :: 0 :: 8 :: 16 :: 252 :: 167 :: 0 :: 10 :: 42 :: 27 :: 28 :: 29 :: 182 :: 0 :: 201 :: 172 :: []
theorem fp_bcX12_gives : bA cX12_gives 0 fp_scX12_gives_0 := show cX12_gives.data.toList.map UInt8.toNat = fp_scX12_gives_0 from by decide +kernel
theorem fp_hdX12_gives_0 : ((((decode cX12_gives 0 = .ok (.aload_n 0, 1) ∧ decode cX12_gives 1 = .ok (.iload_n 1, 1)) ∧ (decode cX12_gives 2 = .ok (.iload_n 2, 1) ∧ decode cX12_gives 3 = .ok (.invokevirtual 216, 3))) ∧ ((decode cX12_gives 6 = .ok (.istore_n 3, 1) ∧ decode cX12_gives 7 = .ok (.iload_n 3, 1)) ∧ (decode cX12_gives 8 = .ok (.bipush (-4), 2) ∧ decode cX12_gives 10 = .ok (.if_icmp .ne 8, 3)))) ∧ (((decode cX12_gives 13 = .ok (.bipush (-4), 2) ∧ decode cX12_gives 15 = .ok (.goto 10, 3)) ∧ (decode cX12_gives 18 = .ok (.aload_n 0, 1) ∧ decode cX12_gives 19 = .ok (.iload_n 1, 1))) ∧ ((decode cX12_gives 20 = .ok (.iload_n 2, 1) ∧ decode cX12_gives 21 = .ok (.iload_n 3, 1)) ∧ (decode cX12_gives 22 = .ok (.invokevirtual 201, 3) ∧ decode cX12_gives 25 = .ok (.ireturn, 1))))) ∧ bA cX12_gives 26 [] :=
  have q0 := fp_o42 fp_bcX12_gives
  have q1 := fp_o27 q0.2
  have q2 := fp_o28 q1.2
  have q3 := fp_o182 (v := 216) q2.2 rfl
  have q4 := fp_o62 q3.2
  have q5 := fp_o29 q4.2
  have q6 := fp_o16 (v := (-4)) q5.2 rfl
  have q7 := fp_o160 (v := 8) q6.2 rfl
  have q8 := fp_o16 (v := (-4)) q7.2 rfl
  have q9 := fp_o167 (v := 10) q8.2 rfl
  have q10 := fp_o42 q9.2
  have q11 := fp_o27 q10.2
  have q12 := fp_o28 q11.2
  have q13 := fp_o29 q12.2
  have q14 := fp_o182 (v := 201) q13.2 rfl
  have q15 := fp_o172 q14.2
  ⟨⟨⟨⟨⟨q0.1, q1.1⟩, ⟨q2.1, q3.1⟩⟩, ⟨⟨q4.1, q5.1⟩, ⟨q6.1, q7.1⟩⟩⟩, ⟨⟨⟨q8.1, q9.1⟩, ⟨q10.1, q11.1⟩⟩, ⟨⟨q12.1, q13.1⟩, ⟨q14.1, q15.1⟩⟩⟩⟩, q15.2⟩
theorem dX12_gives_0 : decode cX12_gives 0 = .ok (.aload_n 0, 1) := fp_hdX12_gives_0.1.1.1.1.1
theorem dX12_gives_1 : decode cX12_gives 1 = .ok (.iload_n 1, 1) := fp_hdX12_gives_0.1.1.1.1.2
theorem dX12_gives_2 : decode cX12_gives 2 = .ok (.iload_n 2, 1) := fp_hdX12_gives_0.1.1.1.2.1
theorem dX12_gives_3 : decode cX12_gives 3 = .ok (.invokevirtual 216, 3) := fp_hdX12_gives_0.1.1.1.2.2
theorem dX12_gives_6 : decode cX12_gives 6 = .ok (.istore_n 3, 1) := fp_hdX12_gives_0.1.1.2.1.1
theorem dX12_gives_7 : decode cX12_gives 7 = .ok (.iload_n 3, 1) := fp_hdX12_gives_0.1.1.2.1.2
theorem dX12_gives_8 : decode cX12_gives 8 = .ok (.bipush (-4), 2) := fp_hdX12_gives_0.1.1.2.2.1
theorem dX12_gives_10 : decode cX12_gives 10 = .ok (.if_icmp .ne 8, 3) := fp_hdX12_gives_0.1.1.2.2.2
theorem dX12_gives_13 : decode cX12_gives 13 = .ok (.bipush (-4), 2) := fp_hdX12_gives_0.1.2.1.1.1
theorem dX12_gives_15 : decode cX12_gives 15 = .ok (.goto 10, 3) := fp_hdX12_gives_0.1.2.1.1.2
theorem dX12_gives_18 : decode cX12_gives 18 = .ok (.aload_n 0, 1) := fp_hdX12_gives_0.1.2.1.2.1
theorem dX12_gives_19 : decode cX12_gives 19 = .ok (.iload_n 1, 1) := fp_hdX12_gives_0.1.2.1.2.2
theorem dX12_gives_20 : decode cX12_gives 20 = .ok (.iload_n 2, 1) := fp_hdX12_gives_0.1.2.2.1.1
theorem dX12_gives_21 : decode cX12_gives 21 = .ok (.iload_n 3, 1) := fp_hdX12_gives_0.1.2.2.1.2
theorem dX12_gives_22 : decode cX12_gives 22 = .ok (.invokevirtual 201, 3) := fp_hdX12_gives_0.1.2.2.2.1
theorem dX12_gives_25 : decode cX12_gives 25 = .ok (.ireturn, 1) := fp_hdX12_gives_0.1.2.2.2.2
def fp_scX12_line_1 : List Nat := 16 :: 9 :: 42 :: 3 :: 27 :: 182 :: 0 :: 198 :: 96 :: 133 :: 184 :: 0 :: 94 :: 153 :: 0 :: 16 :: 42 :: 3 :: 27 :: 28 :: 16 :: 10 :: 100 :: 182 :: 0 :: 201 :: 167 :: 0 :: 4 :: 2 :: 172 :: []
def fp_scX12_line_0 : List Nat := 42 :: 27 :: 182 :: 0 :: 219 :: 154 :: 0 :: 5 :: 2 :: 172 :: 28 :: 154 :: 0 :: 12 :: 42 :: 180 :: 0 :: 19 :: 27 :: 46 :: 167 :: 0 :: 66 :: 28 :: 4 :: 160 :: 0 :: 12 :: 42 :: 3 :: 27 :: 182 :: 0 :: 198 :: 167 :: 0 :: 52 :: 28 :: 5 :: 160 :: 0 :: 12 :: 42 :: 3 :: 27 :: 182 :: 0 :: 222 :: 167 :: 0 :: 38 :: 28 :: 133 :: 20 :: 0 :: 212 :: fp_scX12_line_1
theorem fp_bcX12_line : bA cX12_line 0 fp_scX12_line_0 := show cX12_line.data.toList.map UInt8.toNat = fp_scX12_line_0 from by decide +kernel
theorem fp_hdX12_line_0 : (((((decode cX12_line 0 = .ok (.aload_n 0, 1) ∧ decode cX12_line 1 = .ok (.iload_n 1, 1)) ∧ (decode cX12_line 2 = .ok (.invokevirtual 219, 3) ∧ decode cX12_line 5 = .ok (.ifCond .ne 5, 3))) ∧ ((decode cX12_line 8 = .ok (.iconst (-1), 1) ∧ decode cX12_line 9 = .ok (.ireturn, 1)) ∧ (decode cX12_line 10 = .ok (.iload_n 2, 1) ∧ decode cX12_line 11 = .ok (.ifCond .ne 12, 3)))) ∧ (((decode cX12_line 14 = .ok (.aload_n 0, 1) ∧ decode cX12_line 15 = .ok (.getfield 19, 3)) ∧ (decode cX12_line 18 = .ok (.iload_n 1, 1) ∧ decode cX12_line 19 = .ok (.iaload, 1))) ∧ ((decode cX12_line 20 = .ok (.goto 66, 3) ∧ decode cX12_line 23 = .ok (.iload_n 2, 1)) ∧ (decode cX12_line 24 = .ok (.iconst 1, 1) ∧ decode cX12_line 25 = .ok (.if_icmp .ne 12, 3))))) ∧ ((((decode cX12_line 28 = .ok (.aload_n 0, 1) ∧ decode cX12_line 29 = .ok (.iconst 0, 1)) ∧ (decode cX12_line 30 = .ok (.iload_n 1, 1) ∧ decode cX12_line 31 = .ok (.invokevirtual 198, 3))) ∧ ((decode cX12_line 34 = .ok (.goto 52, 3) ∧ decode cX12_line 37 = .ok (.iload_n 2, 1)) ∧ (decode cX12_line 38 = .ok (.iconst 2, 1) ∧ decode cX12_line 39 = .ok (.if_icmp .ne 12, 3)))) ∧ (((decode cX12_line 42 = .ok (.aload_n 0, 1) ∧ decode cX12_line 43 = .ok (.iconst 0, 1)) ∧ (decode cX12_line 44 = .ok (.iload_n 1, 1) ∧ decode cX12_line 45 = .ok (.invokevirtual 222, 3))) ∧ ((decode cX12_line 48 = .ok (.goto 38, 3) ∧ decode cX12_line 51 = .ok (.iload_n 2, 1)) ∧ (decode cX12_line 52 = .ok (.i2l, 1) ∧ decode cX12_line 53 = .ok (.ldc2_w 212, 3)))))) ∧ bA cX12_line 56 fp_scX12_line_1 :=
  have q0 := fp_o42 fp_bcX12_line
  have q1 := fp_o27 q0.2
  have q2 := fp_o182 (v := 219) q1.2 rfl
  have q3 := fp_o154 (v := 5) q2.2 rfl
  have q4 := fp_o2 q3.2
  have q5 := fp_o172 q4.2
  have q6 := fp_o28 q5.2
  have q7 := fp_o154 (v := 12) q6.2 rfl
  have q8 := fp_o42 q7.2
  have q9 := fp_o180 (v := 19) q8.2 rfl
  have q10 := fp_o27 q9.2
  have q11 := fp_o46 q10.2
  have q12 := fp_o167 (v := 66) q11.2 rfl
  have q13 := fp_o28 q12.2
  have q14 := fp_o4 q13.2
  have q15 := fp_o160 (v := 12) q14.2 rfl
  have q16 := fp_o42 q15.2
  have q17 := fp_o3 q16.2
  have q18 := fp_o27 q17.2
  have q19 := fp_o182 (v := 198) q18.2 rfl
  have q20 := fp_o167 (v := 52) q19.2 rfl
  have q21 := fp_o28 q20.2
  have q22 := fp_o5 q21.2
  have q23 := fp_o160 (v := 12) q22.2 rfl
  have q24 := fp_o42 q23.2
  have q25 := fp_o3 q24.2
  have q26 := fp_o27 q25.2
  have q27 := fp_o182 (v := 222) q26.2 rfl
  have q28 := fp_o167 (v := 38) q27.2 rfl
  have q29 := fp_o28 q28.2
  have q30 := fp_o133 q29.2
  have q31 := fp_o20 (v := 212) q30.2 rfl
  ⟨⟨⟨⟨⟨⟨q0.1, q1.1⟩, ⟨q2.1, q3.1⟩⟩, ⟨⟨q4.1, q5.1⟩, ⟨q6.1, q7.1⟩⟩⟩, ⟨⟨⟨q8.1, q9.1⟩, ⟨q10.1, q11.1⟩⟩, ⟨⟨q12.1, q13.1⟩, ⟨q14.1, q15.1⟩⟩⟩⟩, ⟨⟨⟨⟨q16.1, q17.1⟩, ⟨q18.1, q19.1⟩⟩, ⟨⟨q20.1, q21.1⟩, ⟨q22.1, q23.1⟩⟩⟩, ⟨⟨⟨q24.1, q25.1⟩, ⟨q26.1, q27.1⟩⟩, ⟨⟨q28.1, q29.1⟩, ⟨q30.1, q31.1⟩⟩⟩⟩⟩, q31.2⟩
theorem dX12_line_0 : decode cX12_line 0 = .ok (.aload_n 0, 1) := fp_hdX12_line_0.1.1.1.1.1.1
theorem dX12_line_1 : decode cX12_line 1 = .ok (.iload_n 1, 1) := fp_hdX12_line_0.1.1.1.1.1.2
theorem dX12_line_2 : decode cX12_line 2 = .ok (.invokevirtual 219, 3) := fp_hdX12_line_0.1.1.1.1.2.1
theorem dX12_line_5 : decode cX12_line 5 = .ok (.ifCond .ne 5, 3) := fp_hdX12_line_0.1.1.1.1.2.2
theorem dX12_line_8 : decode cX12_line 8 = .ok (.iconst (-1), 1) := fp_hdX12_line_0.1.1.1.2.1.1
theorem dX12_line_9 : decode cX12_line 9 = .ok (.ireturn, 1) := fp_hdX12_line_0.1.1.1.2.1.2
theorem dX12_line_10 : decode cX12_line 10 = .ok (.iload_n 2, 1) := fp_hdX12_line_0.1.1.1.2.2.1
theorem dX12_line_11 : decode cX12_line 11 = .ok (.ifCond .ne 12, 3) := fp_hdX12_line_0.1.1.1.2.2.2
theorem dX12_line_14 : decode cX12_line 14 = .ok (.aload_n 0, 1) := fp_hdX12_line_0.1.1.2.1.1.1
theorem dX12_line_15 : decode cX12_line 15 = .ok (.getfield 19, 3) := fp_hdX12_line_0.1.1.2.1.1.2
theorem dX12_line_18 : decode cX12_line 18 = .ok (.iload_n 1, 1) := fp_hdX12_line_0.1.1.2.1.2.1
theorem dX12_line_19 : decode cX12_line 19 = .ok (.iaload, 1) := fp_hdX12_line_0.1.1.2.1.2.2
theorem dX12_line_20 : decode cX12_line 20 = .ok (.goto 66, 3) := fp_hdX12_line_0.1.1.2.2.1.1
theorem dX12_line_23 : decode cX12_line 23 = .ok (.iload_n 2, 1) := fp_hdX12_line_0.1.1.2.2.1.2
theorem dX12_line_24 : decode cX12_line 24 = .ok (.iconst 1, 1) := fp_hdX12_line_0.1.1.2.2.2.1
theorem dX12_line_25 : decode cX12_line 25 = .ok (.if_icmp .ne 12, 3) := fp_hdX12_line_0.1.1.2.2.2.2
theorem dX12_line_28 : decode cX12_line 28 = .ok (.aload_n 0, 1) := fp_hdX12_line_0.1.2.1.1.1.1
theorem dX12_line_29 : decode cX12_line 29 = .ok (.iconst 0, 1) := fp_hdX12_line_0.1.2.1.1.1.2
theorem dX12_line_30 : decode cX12_line 30 = .ok (.iload_n 1, 1) := fp_hdX12_line_0.1.2.1.1.2.1
theorem dX12_line_31 : decode cX12_line 31 = .ok (.invokevirtual 198, 3) := fp_hdX12_line_0.1.2.1.1.2.2
theorem dX12_line_34 : decode cX12_line 34 = .ok (.goto 52, 3) := fp_hdX12_line_0.1.2.1.2.1.1
theorem dX12_line_37 : decode cX12_line 37 = .ok (.iload_n 2, 1) := fp_hdX12_line_0.1.2.1.2.1.2
theorem dX12_line_38 : decode cX12_line 38 = .ok (.iconst 2, 1) := fp_hdX12_line_0.1.2.1.2.2.1
theorem dX12_line_39 : decode cX12_line 39 = .ok (.if_icmp .ne 12, 3) := fp_hdX12_line_0.1.2.1.2.2.2
theorem dX12_line_42 : decode cX12_line 42 = .ok (.aload_n 0, 1) := fp_hdX12_line_0.1.2.2.1.1.1
theorem dX12_line_43 : decode cX12_line 43 = .ok (.iconst 0, 1) := fp_hdX12_line_0.1.2.2.1.1.2
theorem dX12_line_44 : decode cX12_line 44 = .ok (.iload_n 1, 1) := fp_hdX12_line_0.1.2.2.1.2.1
theorem dX12_line_45 : decode cX12_line 45 = .ok (.invokevirtual 222, 3) := fp_hdX12_line_0.1.2.2.1.2.2
theorem dX12_line_48 : decode cX12_line 48 = .ok (.goto 38, 3) := fp_hdX12_line_0.1.2.2.2.1.1
theorem dX12_line_51 : decode cX12_line 51 = .ok (.iload_n 2, 1) := fp_hdX12_line_0.1.2.2.2.1.2
theorem dX12_line_52 : decode cX12_line 52 = .ok (.i2l, 1) := fp_hdX12_line_0.1.2.2.2.2.1
theorem dX12_line_53 : decode cX12_line 53 = .ok (.ldc2_w 212, 3) := fp_hdX12_line_0.1.2.2.2.2.2
theorem fp_hdX12_line_56 : (((((decode cX12_line 56 = .ok (.bipush 9, 2) ∧ decode cX12_line 58 = .ok (.aload_n 0, 1)) ∧ decode cX12_line 59 = .ok (.iconst 0, 1)) ∧ (decode cX12_line 60 = .ok (.iload_n 1, 1) ∧ decode cX12_line 61 = .ok (.invokevirtual 198, 3))) ∧ (((decode cX12_line 64 = .ok (.iadd, 1) ∧ decode cX12_line 65 = .ok (.i2l, 1)) ∧ decode cX12_line 66 = .ok (.invokestatic 94, 3)) ∧ (decode cX12_line 69 = .ok (.ifCond .eq 16, 3) ∧ decode cX12_line 72 = .ok (.aload_n 0, 1)))) ∧ ((((decode cX12_line 73 = .ok (.iconst 0, 1) ∧ decode cX12_line 74 = .ok (.iload_n 1, 1)) ∧ decode cX12_line 75 = .ok (.iload_n 2, 1)) ∧ (decode cX12_line 76 = .ok (.bipush 10, 2) ∧ decode cX12_line 78 = .ok (.isub, 1))) ∧ ((decode cX12_line 79 = .ok (.invokevirtual 201, 3) ∧ decode cX12_line 82 = .ok (.goto 4, 3)) ∧ (decode cX12_line 85 = .ok (.iconst (-1), 1) ∧ decode cX12_line 86 = .ok (.ireturn, 1))))) ∧ bA cX12_line 87 [] :=
  have q0 := fp_o16 (v := 9) fp_hdX12_line_0.2 rfl
  have q1 := fp_o42 q0.2
  have q2 := fp_o3 q1.2
  have q3 := fp_o27 q2.2
  have q4 := fp_o182 (v := 198) q3.2 rfl
  have q5 := fp_o96 q4.2
  have q6 := fp_o133 q5.2
  have q7 := fp_o184 (v := 94) q6.2 rfl
  have q8 := fp_o153 (v := 16) q7.2 rfl
  have q9 := fp_o42 q8.2
  have q10 := fp_o3 q9.2
  have q11 := fp_o27 q10.2
  have q12 := fp_o28 q11.2
  have q13 := fp_o16 (v := 10) q12.2 rfl
  have q14 := fp_o100 q13.2
  have q15 := fp_o182 (v := 201) q14.2 rfl
  have q16 := fp_o167 (v := 4) q15.2 rfl
  have q17 := fp_o2 q16.2
  have q18 := fp_o172 q17.2
  ⟨⟨⟨⟨⟨⟨q0.1, q1.1⟩, q2.1⟩, ⟨q3.1, q4.1⟩⟩, ⟨⟨⟨q5.1, q6.1⟩, q7.1⟩, ⟨q8.1, q9.1⟩⟩⟩, ⟨⟨⟨⟨q10.1, q11.1⟩, q12.1⟩, ⟨q13.1, q14.1⟩⟩, ⟨⟨q15.1, q16.1⟩, ⟨q17.1, q18.1⟩⟩⟩⟩, q18.2⟩
theorem dX12_line_56 : decode cX12_line 56 = .ok (.bipush 9, 2) := fp_hdX12_line_56.1.1.1.1.1.1
theorem dX12_line_58 : decode cX12_line 58 = .ok (.aload_n 0, 1) := fp_hdX12_line_56.1.1.1.1.1.2
theorem dX12_line_59 : decode cX12_line 59 = .ok (.iconst 0, 1) := fp_hdX12_line_56.1.1.1.1.2
theorem dX12_line_60 : decode cX12_line 60 = .ok (.iload_n 1, 1) := fp_hdX12_line_56.1.1.1.2.1
theorem dX12_line_61 : decode cX12_line 61 = .ok (.invokevirtual 198, 3) := fp_hdX12_line_56.1.1.1.2.2
theorem dX12_line_64 : decode cX12_line 64 = .ok (.iadd, 1) := fp_hdX12_line_56.1.1.2.1.1.1
theorem dX12_line_65 : decode cX12_line 65 = .ok (.i2l, 1) := fp_hdX12_line_56.1.1.2.1.1.2
theorem dX12_line_66 : decode cX12_line 66 = .ok (.invokestatic 94, 3) := fp_hdX12_line_56.1.1.2.1.2
theorem dX12_line_69 : decode cX12_line 69 = .ok (.ifCond .eq 16, 3) := fp_hdX12_line_56.1.1.2.2.1
theorem dX12_line_72 : decode cX12_line 72 = .ok (.aload_n 0, 1) := fp_hdX12_line_56.1.1.2.2.2
theorem dX12_line_73 : decode cX12_line 73 = .ok (.iconst 0, 1) := fp_hdX12_line_56.1.2.1.1.1.1
theorem dX12_line_74 : decode cX12_line 74 = .ok (.iload_n 1, 1) := fp_hdX12_line_56.1.2.1.1.1.2
theorem dX12_line_75 : decode cX12_line 75 = .ok (.iload_n 2, 1) := fp_hdX12_line_56.1.2.1.1.2
theorem dX12_line_76 : decode cX12_line 76 = .ok (.bipush 10, 2) := fp_hdX12_line_56.1.2.1.2.1
theorem dX12_line_78 : decode cX12_line 78 = .ok (.isub, 1) := fp_hdX12_line_56.1.2.1.2.2
theorem dX12_line_79 : decode cX12_line 79 = .ok (.invokevirtual 201, 3) := fp_hdX12_line_56.1.2.2.1.1
theorem dX12_line_82 : decode cX12_line 82 = .ok (.goto 4, 3) := fp_hdX12_line_56.1.2.2.1.2
theorem dX12_line_85 : decode cX12_line 85 = .ok (.iconst (-1), 1) := fp_hdX12_line_56.1.2.2.2.1
theorem dX12_line_86 : decode cX12_line 86 = .ok (.ireturn, 1) := fp_hdX12_line_56.1.2.2.2.2
def fp_scX12_visit_0 : List Nat := 27 :: 133 :: 9 :: 42 :: 182 :: 0 :: 225 :: 4 :: 100 :: 133 :: 184 :: 0 :: 94 :: 153 :: 0 :: 31 :: 28 :: 133 :: 9 :: 20 :: 0 :: 196 :: 184 :: 0 :: 94 :: 153 :: 0 :: 19 :: 42 :: 180 :: 0 :: 7 :: 16 :: 47 :: 7 :: 27 :: 104 :: 96 :: 28 :: 96 :: 46 :: 167 :: 0 :: 4 :: 2 :: 172 :: []
theorem fp_bcX12_visit : bA cX12_visit 0 fp_scX12_visit_0 := show cX12_visit.data.toList.map UInt8.toNat = fp_scX12_visit_0 from by decide +kernel
theorem fp_hdX12_visit_0 : (((((decode cX12_visit 0 = .ok (.iload_n 1, 1) ∧ decode cX12_visit 1 = .ok (.i2l, 1)) ∧ (decode cX12_visit 2 = .ok (.lconst 0, 1) ∧ decode cX12_visit 3 = .ok (.aload_n 0, 1))) ∧ ((decode cX12_visit 4 = .ok (.invokevirtual 225, 3) ∧ decode cX12_visit 7 = .ok (.iconst 1, 1)) ∧ (decode cX12_visit 8 = .ok (.isub, 1) ∧ decode cX12_visit 9 = .ok (.i2l, 1)))) ∧ (((decode cX12_visit 10 = .ok (.invokestatic 94, 3) ∧ decode cX12_visit 13 = .ok (.ifCond .eq 31, 3)) ∧ (decode cX12_visit 16 = .ok (.iload_n 2, 1) ∧ decode cX12_visit 17 = .ok (.i2l, 1))) ∧ ((decode cX12_visit 18 = .ok (.lconst 0, 1) ∧ decode cX12_visit 19 = .ok (.ldc2_w 196, 3)) ∧ decode cX12_visit 22 = .ok (.invokestatic 94, 3)))) ∧ ((((decode cX12_visit 25 = .ok (.ifCond .eq 19, 3) ∧ decode cX12_visit 28 = .ok (.aload_n 0, 1)) ∧ (decode cX12_visit 29 = .ok (.getfield 7, 3) ∧ decode cX12_visit 32 = .ok (.bipush 47, 2))) ∧ ((decode cX12_visit 34 = .ok (.iconst 4, 1) ∧ decode cX12_visit 35 = .ok (.iload_n 1, 1)) ∧ decode cX12_visit 36 = .ok (.imul, 1))) ∧ (((decode cX12_visit 37 = .ok (.iadd, 1) ∧ decode cX12_visit 38 = .ok (.iload_n 2, 1)) ∧ (decode cX12_visit 39 = .ok (.iadd, 1) ∧ decode cX12_visit 40 = .ok (.iaload, 1))) ∧ ((decode cX12_visit 41 = .ok (.goto 4, 3) ∧ decode cX12_visit 44 = .ok (.iconst (-1), 1)) ∧ decode cX12_visit 45 = .ok (.ireturn, 1))))) ∧ bA cX12_visit 46 [] :=
  have q0 := fp_o27 fp_bcX12_visit
  have q1 := fp_o133 q0.2
  have q2 := fp_o9 q1.2
  have q3 := fp_o42 q2.2
  have q4 := fp_o182 (v := 225) q3.2 rfl
  have q5 := fp_o4 q4.2
  have q6 := fp_o100 q5.2
  have q7 := fp_o133 q6.2
  have q8 := fp_o184 (v := 94) q7.2 rfl
  have q9 := fp_o153 (v := 31) q8.2 rfl
  have q10 := fp_o28 q9.2
  have q11 := fp_o133 q10.2
  have q12 := fp_o9 q11.2
  have q13 := fp_o20 (v := 196) q12.2 rfl
  have q14 := fp_o184 (v := 94) q13.2 rfl
  have q15 := fp_o153 (v := 19) q14.2 rfl
  have q16 := fp_o42 q15.2
  have q17 := fp_o180 (v := 7) q16.2 rfl
  have q18 := fp_o16 (v := 47) q17.2 rfl
  have q19 := fp_o7 q18.2
  have q20 := fp_o27 q19.2
  have q21 := fp_o104 q20.2
  have q22 := fp_o96 q21.2
  have q23 := fp_o28 q22.2
  have q24 := fp_o96 q23.2
  have q25 := fp_o46 q24.2
  have q26 := fp_o167 (v := 4) q25.2 rfl
  have q27 := fp_o2 q26.2
  have q28 := fp_o172 q27.2
  ⟨⟨⟨⟨⟨⟨q0.1, q1.1⟩, ⟨q2.1, q3.1⟩⟩, ⟨⟨q4.1, q5.1⟩, ⟨q6.1, q7.1⟩⟩⟩, ⟨⟨⟨q8.1, q9.1⟩, ⟨q10.1, q11.1⟩⟩, ⟨⟨q12.1, q13.1⟩, q14.1⟩⟩⟩, ⟨⟨⟨⟨q15.1, q16.1⟩, ⟨q17.1, q18.1⟩⟩, ⟨⟨q19.1, q20.1⟩, q21.1⟩⟩, ⟨⟨⟨q22.1, q23.1⟩, ⟨q24.1, q25.1⟩⟩, ⟨⟨q26.1, q27.1⟩, q28.1⟩⟩⟩⟩, q28.2⟩
theorem dX12_visit_0 : decode cX12_visit 0 = .ok (.iload_n 1, 1) := fp_hdX12_visit_0.1.1.1.1.1.1
theorem dX12_visit_1 : decode cX12_visit 1 = .ok (.i2l, 1) := fp_hdX12_visit_0.1.1.1.1.1.2
theorem dX12_visit_2 : decode cX12_visit 2 = .ok (.lconst 0, 1) := fp_hdX12_visit_0.1.1.1.1.2.1
theorem dX12_visit_3 : decode cX12_visit 3 = .ok (.aload_n 0, 1) := fp_hdX12_visit_0.1.1.1.1.2.2
theorem dX12_visit_4 : decode cX12_visit 4 = .ok (.invokevirtual 225, 3) := fp_hdX12_visit_0.1.1.1.2.1.1
theorem dX12_visit_7 : decode cX12_visit 7 = .ok (.iconst 1, 1) := fp_hdX12_visit_0.1.1.1.2.1.2
theorem dX12_visit_8 : decode cX12_visit 8 = .ok (.isub, 1) := fp_hdX12_visit_0.1.1.1.2.2.1
theorem dX12_visit_9 : decode cX12_visit 9 = .ok (.i2l, 1) := fp_hdX12_visit_0.1.1.1.2.2.2
theorem dX12_visit_10 : decode cX12_visit 10 = .ok (.invokestatic 94, 3) := fp_hdX12_visit_0.1.1.2.1.1.1
theorem dX12_visit_13 : decode cX12_visit 13 = .ok (.ifCond .eq 31, 3) := fp_hdX12_visit_0.1.1.2.1.1.2
theorem dX12_visit_16 : decode cX12_visit 16 = .ok (.iload_n 2, 1) := fp_hdX12_visit_0.1.1.2.1.2.1
theorem dX12_visit_17 : decode cX12_visit 17 = .ok (.i2l, 1) := fp_hdX12_visit_0.1.1.2.1.2.2
theorem dX12_visit_18 : decode cX12_visit 18 = .ok (.lconst 0, 1) := fp_hdX12_visit_0.1.1.2.2.1.1
theorem dX12_visit_19 : decode cX12_visit 19 = .ok (.ldc2_w 196, 3) := fp_hdX12_visit_0.1.1.2.2.1.2
theorem dX12_visit_22 : decode cX12_visit 22 = .ok (.invokestatic 94, 3) := fp_hdX12_visit_0.1.1.2.2.2
theorem dX12_visit_25 : decode cX12_visit 25 = .ok (.ifCond .eq 19, 3) := fp_hdX12_visit_0.1.2.1.1.1.1
theorem dX12_visit_28 : decode cX12_visit 28 = .ok (.aload_n 0, 1) := fp_hdX12_visit_0.1.2.1.1.1.2
theorem dX12_visit_29 : decode cX12_visit 29 = .ok (.getfield 7, 3) := fp_hdX12_visit_0.1.2.1.1.2.1
theorem dX12_visit_32 : decode cX12_visit 32 = .ok (.bipush 47, 2) := fp_hdX12_visit_0.1.2.1.1.2.2
theorem dX12_visit_34 : decode cX12_visit 34 = .ok (.iconst 4, 1) := fp_hdX12_visit_0.1.2.1.2.1.1
theorem dX12_visit_35 : decode cX12_visit 35 = .ok (.iload_n 1, 1) := fp_hdX12_visit_0.1.2.1.2.1.2
theorem dX12_visit_36 : decode cX12_visit 36 = .ok (.imul, 1) := fp_hdX12_visit_0.1.2.1.2.2
theorem dX12_visit_37 : decode cX12_visit 37 = .ok (.iadd, 1) := fp_hdX12_visit_0.1.2.2.1.1.1
theorem dX12_visit_38 : decode cX12_visit 38 = .ok (.iload_n 2, 1) := fp_hdX12_visit_0.1.2.2.1.1.2
theorem dX12_visit_39 : decode cX12_visit 39 = .ok (.iadd, 1) := fp_hdX12_visit_0.1.2.2.1.2.1
theorem dX12_visit_40 : decode cX12_visit 40 = .ok (.iaload, 1) := fp_hdX12_visit_0.1.2.2.1.2.2
theorem dX12_visit_41 : decode cX12_visit 41 = .ok (.goto 4, 3) := fp_hdX12_visit_0.1.2.2.2.1.1
theorem dX12_visit_44 : decode cX12_visit 44 = .ok (.iconst (-1), 1) := fp_hdX12_visit_0.1.2.2.2.1.2
theorem dX12_visit_45 : decode cX12_visit 45 = .ok (.ireturn, 1) := fp_hdX12_visit_0.1.2.2.2.2
def fp_scX12_chance_0 : List Nat := 27 :: 133 :: 9 :: 20 :: 0 :: 212 :: 184 :: 0 :: 94 :: 154 :: 0 :: 5 :: 2 :: 172 :: 42 :: 180 :: 0 :: 22 :: 61 :: 42 :: 27 :: 181 :: 0 :: 22 :: 28 :: 172 :: []
theorem fp_bcX12_chance : bA cX12_chance 0 fp_scX12_chance_0 := show cX12_chance.data.toList.map UInt8.toNat = fp_scX12_chance_0 from by decide +kernel
theorem fp_hdX12_chance_0 : ((((decode cX12_chance 0 = .ok (.iload_n 1, 1) ∧ decode cX12_chance 1 = .ok (.i2l, 1)) ∧ (decode cX12_chance 2 = .ok (.lconst 0, 1) ∧ decode cX12_chance 3 = .ok (.ldc2_w 212, 3))) ∧ ((decode cX12_chance 6 = .ok (.invokestatic 94, 3) ∧ decode cX12_chance 9 = .ok (.ifCond .ne 5, 3)) ∧ (decode cX12_chance 12 = .ok (.iconst (-1), 1) ∧ decode cX12_chance 13 = .ok (.ireturn, 1)))) ∧ (((decode cX12_chance 14 = .ok (.aload_n 0, 1) ∧ decode cX12_chance 15 = .ok (.getfield 22, 3)) ∧ (decode cX12_chance 18 = .ok (.istore_n 2, 1) ∧ decode cX12_chance 19 = .ok (.aload_n 0, 1))) ∧ ((decode cX12_chance 20 = .ok (.iload_n 1, 1) ∧ decode cX12_chance 21 = .ok (.putfield 22, 3)) ∧ (decode cX12_chance 24 = .ok (.iload_n 2, 1) ∧ decode cX12_chance 25 = .ok (.ireturn, 1))))) ∧ bA cX12_chance 26 [] :=
  have q0 := fp_o27 fp_bcX12_chance
  have q1 := fp_o133 q0.2
  have q2 := fp_o9 q1.2
  have q3 := fp_o20 (v := 212) q2.2 rfl
  have q4 := fp_o184 (v := 94) q3.2 rfl
  have q5 := fp_o154 (v := 5) q4.2 rfl
  have q6 := fp_o2 q5.2
  have q7 := fp_o172 q6.2
  have q8 := fp_o42 q7.2
  have q9 := fp_o180 (v := 22) q8.2 rfl
  have q10 := fp_o61 q9.2
  have q11 := fp_o42 q10.2
  have q12 := fp_o27 q11.2
  have q13 := fp_o181 (v := 22) q12.2 rfl
  have q14 := fp_o28 q13.2
  have q15 := fp_o172 q14.2
  ⟨⟨⟨⟨⟨q0.1, q1.1⟩, ⟨q2.1, q3.1⟩⟩, ⟨⟨q4.1, q5.1⟩, ⟨q6.1, q7.1⟩⟩⟩, ⟨⟨⟨q8.1, q9.1⟩, ⟨q10.1, q11.1⟩⟩, ⟨⟨q12.1, q13.1⟩, ⟨q14.1, q15.1⟩⟩⟩⟩, q15.2⟩
theorem dX12_chance_0 : decode cX12_chance 0 = .ok (.iload_n 1, 1) := fp_hdX12_chance_0.1.1.1.1.1
theorem dX12_chance_1 : decode cX12_chance 1 = .ok (.i2l, 1) := fp_hdX12_chance_0.1.1.1.1.2
theorem dX12_chance_2 : decode cX12_chance 2 = .ok (.lconst 0, 1) := fp_hdX12_chance_0.1.1.1.2.1
theorem dX12_chance_3 : decode cX12_chance 3 = .ok (.ldc2_w 212, 3) := fp_hdX12_chance_0.1.1.1.2.2
theorem dX12_chance_6 : decode cX12_chance 6 = .ok (.invokestatic 94, 3) := fp_hdX12_chance_0.1.1.2.1.1
theorem dX12_chance_9 : decode cX12_chance 9 = .ok (.ifCond .ne 5, 3) := fp_hdX12_chance_0.1.1.2.1.2
theorem dX12_chance_12 : decode cX12_chance 12 = .ok (.iconst (-1), 1) := fp_hdX12_chance_0.1.1.2.2.1
theorem dX12_chance_13 : decode cX12_chance 13 = .ok (.ireturn, 1) := fp_hdX12_chance_0.1.1.2.2.2
theorem dX12_chance_14 : decode cX12_chance 14 = .ok (.aload_n 0, 1) := fp_hdX12_chance_0.1.2.1.1.1
theorem dX12_chance_15 : decode cX12_chance 15 = .ok (.getfield 22, 3) := fp_hdX12_chance_0.1.2.1.1.2
theorem dX12_chance_18 : decode cX12_chance 18 = .ok (.istore_n 2, 1) := fp_hdX12_chance_0.1.2.1.2.1
theorem dX12_chance_19 : decode cX12_chance 19 = .ok (.aload_n 0, 1) := fp_hdX12_chance_0.1.2.1.2.2
theorem dX12_chance_20 : decode cX12_chance 20 = .ok (.iload_n 1, 1) := fp_hdX12_chance_0.1.2.2.1.1
theorem dX12_chance_21 : decode cX12_chance 21 = .ok (.putfield 22, 3) := fp_hdX12_chance_0.1.2.2.1.2
theorem dX12_chance_24 : decode cX12_chance 24 = .ok (.iload_n 2, 1) := fp_hdX12_chance_0.1.2.2.2.1
theorem dX12_chance_25 : decode cX12_chance 25 = .ok (.ireturn, 1) := fp_hdX12_chance_0.1.2.2.2.2
def fp_scX12_holdsAt_0 : List Nat := 3 :: 62 :: 3 :: 54 :: 4 :: 21 :: 4 :: 42 :: 180 :: 0 :: 181 :: 162 :: 0 :: 33 :: 29 :: 42 :: 180 :: 0 :: 7 :: 27 :: 21 :: 4 :: 96 :: 46 :: 28 :: 160 :: 0 :: 10 :: 4 :: 21 :: 4 :: 120 :: 167 :: 0 :: 4 :: 3 :: 128 :: 62 :: 132 :: 4 :: 1 :: 167 :: 255 :: 220 :: 29 :: 172 :: []
theorem fp_bcX12_holdsAt : bA cX12_holdsAt 0 fp_scX12_holdsAt_0 := show cX12_holdsAt.data.toList.map UInt8.toNat = fp_scX12_holdsAt_0 from by decide +kernel
theorem fp_hdX12_holdsAt_0 : (((((decode cX12_holdsAt 0 = .ok (.iconst 0, 1) ∧ decode cX12_holdsAt 1 = .ok (.istore_n 3, 1)) ∧ (decode cX12_holdsAt 2 = .ok (.iconst 0, 1) ∧ decode cX12_holdsAt 3 = .ok (.istore 4, 2))) ∧ ((decode cX12_holdsAt 5 = .ok (.iload 4, 2) ∧ decode cX12_holdsAt 7 = .ok (.aload_n 0, 1)) ∧ decode cX12_holdsAt 8 = .ok (.getfield 181, 3))) ∧ (((decode cX12_holdsAt 11 = .ok (.if_icmp .ge 33, 3) ∧ decode cX12_holdsAt 14 = .ok (.iload_n 3, 1)) ∧ (decode cX12_holdsAt 15 = .ok (.aload_n 0, 1) ∧ decode cX12_holdsAt 16 = .ok (.getfield 7, 3))) ∧ ((decode cX12_holdsAt 19 = .ok (.iload_n 1, 1) ∧ decode cX12_holdsAt 20 = .ok (.iload 4, 2)) ∧ decode cX12_holdsAt 22 = .ok (.iadd, 1)))) ∧ ((((decode cX12_holdsAt 23 = .ok (.iaload, 1) ∧ decode cX12_holdsAt 24 = .ok (.iload_n 2, 1)) ∧ (decode cX12_holdsAt 25 = .ok (.if_icmp .ne 10, 3) ∧ decode cX12_holdsAt 28 = .ok (.iconst 1, 1))) ∧ ((decode cX12_holdsAt 29 = .ok (.iload 4, 2) ∧ decode cX12_holdsAt 31 = .ok (.ishl, 1)) ∧ decode cX12_holdsAt 32 = .ok (.goto 4, 3))) ∧ (((decode cX12_holdsAt 35 = .ok (.iconst 0, 1) ∧ decode cX12_holdsAt 36 = .ok (.ior, 1)) ∧ (decode cX12_holdsAt 37 = .ok (.istore_n 3, 1) ∧ decode cX12_holdsAt 38 = .ok (.iinc 4 1, 3))) ∧ ((decode cX12_holdsAt 41 = .ok (.goto (-36), 3) ∧ decode cX12_holdsAt 44 = .ok (.iload_n 3, 1)) ∧ decode cX12_holdsAt 45 = .ok (.ireturn, 1))))) ∧ bA cX12_holdsAt 46 [] :=
  have q0 := fp_o3 fp_bcX12_holdsAt
  have q1 := fp_o62 q0.2
  have q2 := fp_o3 q1.2
  have q3 := fp_o54 q2.2
  have q4 := fp_o21 q3.2
  have q5 := fp_o42 q4.2
  have q6 := fp_o180 (v := 181) q5.2 rfl
  have q7 := fp_o162 (v := 33) q6.2 rfl
  have q8 := fp_o29 q7.2
  have q9 := fp_o42 q8.2
  have q10 := fp_o180 (v := 7) q9.2 rfl
  have q11 := fp_o27 q10.2
  have q12 := fp_o21 q11.2
  have q13 := fp_o96 q12.2
  have q14 := fp_o46 q13.2
  have q15 := fp_o28 q14.2
  have q16 := fp_o160 (v := 10) q15.2 rfl
  have q17 := fp_o4 q16.2
  have q18 := fp_o21 q17.2
  have q19 := fp_o120 q18.2
  have q20 := fp_o167 (v := 4) q19.2 rfl
  have q21 := fp_o3 q20.2
  have q22 := fp_o128 q21.2
  have q23 := fp_o62 q22.2
  have q24 := fp_o132 (v := 1) q23.2 rfl
  have q25 := fp_o167 (v := (-36)) q24.2 rfl
  have q26 := fp_o29 q25.2
  have q27 := fp_o172 q26.2
  ⟨⟨⟨⟨⟨⟨q0.1, q1.1⟩, ⟨q2.1, q3.1⟩⟩, ⟨⟨q4.1, q5.1⟩, q6.1⟩⟩, ⟨⟨⟨q7.1, q8.1⟩, ⟨q9.1, q10.1⟩⟩, ⟨⟨q11.1, q12.1⟩, q13.1⟩⟩⟩, ⟨⟨⟨⟨q14.1, q15.1⟩, ⟨q16.1, q17.1⟩⟩, ⟨⟨q18.1, q19.1⟩, q20.1⟩⟩, ⟨⟨⟨q21.1, q22.1⟩, ⟨q23.1, q24.1⟩⟩, ⟨⟨q25.1, q26.1⟩, q27.1⟩⟩⟩⟩, q27.2⟩
theorem dX12_holdsAt_0 : decode cX12_holdsAt 0 = .ok (.iconst 0, 1) := fp_hdX12_holdsAt_0.1.1.1.1.1.1
theorem dX12_holdsAt_1 : decode cX12_holdsAt 1 = .ok (.istore_n 3, 1) := fp_hdX12_holdsAt_0.1.1.1.1.1.2
theorem dX12_holdsAt_2 : decode cX12_holdsAt 2 = .ok (.iconst 0, 1) := fp_hdX12_holdsAt_0.1.1.1.1.2.1
theorem dX12_holdsAt_3 : decode cX12_holdsAt 3 = .ok (.istore 4, 2) := fp_hdX12_holdsAt_0.1.1.1.1.2.2
theorem dX12_holdsAt_5 : decode cX12_holdsAt 5 = .ok (.iload 4, 2) := fp_hdX12_holdsAt_0.1.1.1.2.1.1
theorem dX12_holdsAt_7 : decode cX12_holdsAt 7 = .ok (.aload_n 0, 1) := fp_hdX12_holdsAt_0.1.1.1.2.1.2
theorem dX12_holdsAt_8 : decode cX12_holdsAt 8 = .ok (.getfield 181, 3) := fp_hdX12_holdsAt_0.1.1.1.2.2
theorem dX12_holdsAt_11 : decode cX12_holdsAt 11 = .ok (.if_icmp .ge 33, 3) := fp_hdX12_holdsAt_0.1.1.2.1.1.1
theorem dX12_holdsAt_14 : decode cX12_holdsAt 14 = .ok (.iload_n 3, 1) := fp_hdX12_holdsAt_0.1.1.2.1.1.2
theorem dX12_holdsAt_15 : decode cX12_holdsAt 15 = .ok (.aload_n 0, 1) := fp_hdX12_holdsAt_0.1.1.2.1.2.1
theorem dX12_holdsAt_16 : decode cX12_holdsAt 16 = .ok (.getfield 7, 3) := fp_hdX12_holdsAt_0.1.1.2.1.2.2
theorem dX12_holdsAt_19 : decode cX12_holdsAt 19 = .ok (.iload_n 1, 1) := fp_hdX12_holdsAt_0.1.1.2.2.1.1
theorem dX12_holdsAt_20 : decode cX12_holdsAt 20 = .ok (.iload 4, 2) := fp_hdX12_holdsAt_0.1.1.2.2.1.2
theorem dX12_holdsAt_22 : decode cX12_holdsAt 22 = .ok (.iadd, 1) := fp_hdX12_holdsAt_0.1.1.2.2.2
theorem dX12_holdsAt_23 : decode cX12_holdsAt 23 = .ok (.iaload, 1) := fp_hdX12_holdsAt_0.1.2.1.1.1.1
theorem dX12_holdsAt_24 : decode cX12_holdsAt 24 = .ok (.iload_n 2, 1) := fp_hdX12_holdsAt_0.1.2.1.1.1.2
theorem dX12_holdsAt_25 : decode cX12_holdsAt 25 = .ok (.if_icmp .ne 10, 3) := fp_hdX12_holdsAt_0.1.2.1.1.2.1
theorem dX12_holdsAt_28 : decode cX12_holdsAt 28 = .ok (.iconst 1, 1) := fp_hdX12_holdsAt_0.1.2.1.1.2.2
theorem dX12_holdsAt_29 : decode cX12_holdsAt 29 = .ok (.iload 4, 2) := fp_hdX12_holdsAt_0.1.2.1.2.1.1
theorem dX12_holdsAt_31 : decode cX12_holdsAt 31 = .ok (.ishl, 1) := fp_hdX12_holdsAt_0.1.2.1.2.1.2
theorem dX12_holdsAt_32 : decode cX12_holdsAt 32 = .ok (.goto 4, 3) := fp_hdX12_holdsAt_0.1.2.1.2.2
theorem dX12_holdsAt_35 : decode cX12_holdsAt 35 = .ok (.iconst 0, 1) := fp_hdX12_holdsAt_0.1.2.2.1.1.1
theorem dX12_holdsAt_36 : decode cX12_holdsAt 36 = .ok (.ior, 1) := fp_hdX12_holdsAt_0.1.2.2.1.1.2
theorem dX12_holdsAt_37 : decode cX12_holdsAt 37 = .ok (.istore_n 3, 1) := fp_hdX12_holdsAt_0.1.2.2.1.2.1
theorem dX12_holdsAt_38 : decode cX12_holdsAt 38 = .ok (.iinc 4 1, 3) := fp_hdX12_holdsAt_0.1.2.2.1.2.2
theorem dX12_holdsAt_41 : decode cX12_holdsAt 41 = .ok (.goto (-36), 3) := fp_hdX12_holdsAt_0.1.2.2.2.1.1
theorem dX12_holdsAt_44 : decode cX12_holdsAt 44 = .ok (.iload_n 3, 1) := fp_hdX12_holdsAt_0.1.2.2.2.1.2
theorem dX12_holdsAt_45 : decode cX12_holdsAt 45 = .ok (.ireturn, 1) := fp_hdX12_holdsAt_0.1.2.2.2.2
def fp_scX12_holds_0 : List Nat := 27 :: 184 :: 0 :: 228 :: 153 :: 0 :: 12 :: 42 :: 3 :: 27 :: 182 :: 0 :: 231 :: 167 :: 0 :: 4 :: 2 :: 172 :: []
theorem fp_bcX12_holds : bA cX12_holds 0 fp_scX12_holds_0 := show cX12_holds.data.toList.map UInt8.toNat = fp_scX12_holds_0 from by decide +kernel
theorem fp_hdX12_holds_0 : ((((decode cX12_holds 0 = .ok (.iload_n 1, 1) ∧ decode cX12_holds 1 = .ok (.invokestatic 228, 3)) ∧ decode cX12_holds 4 = .ok (.ifCond .eq 12, 3)) ∧ (decode cX12_holds 7 = .ok (.aload_n 0, 1) ∧ decode cX12_holds 8 = .ok (.iconst 0, 1))) ∧ (((decode cX12_holds 9 = .ok (.iload_n 1, 1) ∧ decode cX12_holds 10 = .ok (.invokevirtual 231, 3)) ∧ decode cX12_holds 13 = .ok (.goto 4, 3)) ∧ (decode cX12_holds 16 = .ok (.iconst (-1), 1) ∧ decode cX12_holds 17 = .ok (.ireturn, 1)))) ∧ bA cX12_holds 18 [] :=
  have q0 := fp_o27 fp_bcX12_holds
  have q1 := fp_o184 (v := 228) q0.2 rfl
  have q2 := fp_o153 (v := 12) q1.2 rfl
  have q3 := fp_o42 q2.2
  have q4 := fp_o3 q3.2
  have q5 := fp_o27 q4.2
  have q6 := fp_o182 (v := 231) q5.2 rfl
  have q7 := fp_o167 (v := 4) q6.2 rfl
  have q8 := fp_o2 q7.2
  have q9 := fp_o172 q8.2
  ⟨⟨⟨⟨⟨q0.1, q1.1⟩, q2.1⟩, ⟨q3.1, q4.1⟩⟩, ⟨⟨⟨q5.1, q6.1⟩, q7.1⟩, ⟨q8.1, q9.1⟩⟩⟩, q9.2⟩
theorem dX12_holds_0 : decode cX12_holds 0 = .ok (.iload_n 1, 1) := fp_hdX12_holds_0.1.1.1.1.1
theorem dX12_holds_1 : decode cX12_holds 1 = .ok (.invokestatic 228, 3) := fp_hdX12_holds_0.1.1.1.1.2
theorem dX12_holds_4 : decode cX12_holds 4 = .ok (.ifCond .eq 12, 3) := fp_hdX12_holds_0.1.1.1.2
theorem dX12_holds_7 : decode cX12_holds 7 = .ok (.aload_n 0, 1) := fp_hdX12_holds_0.1.1.2.1
theorem dX12_holds_8 : decode cX12_holds 8 = .ok (.iconst 0, 1) := fp_hdX12_holds_0.1.1.2.2
theorem dX12_holds_9 : decode cX12_holds 9 = .ok (.iload_n 1, 1) := fp_hdX12_holds_0.1.2.1.1.1
theorem dX12_holds_10 : decode cX12_holds 10 = .ok (.invokevirtual 231, 3) := fp_hdX12_holds_0.1.2.1.1.2
theorem dX12_holds_13 : decode cX12_holds 13 = .ok (.goto 4, 3) := fp_hdX12_holds_0.1.2.1.2
theorem dX12_holds_16 : decode cX12_holds 16 = .ok (.iconst (-1), 1) := fp_hdX12_holds_0.1.2.2.1
theorem dX12_holds_17 : decode cX12_holds 17 = .ok (.ireturn, 1) := fp_hdX12_holds_0.1.2.2.2
def fp_scX12_worthAt_1 : List Nat := 172 :: []
def fp_scX12_worthAt_0 : List Nat := 3 :: 62 :: 3 :: 54 :: 4 :: 21 :: 4 :: 42 :: 180 :: 0 :: 181 :: 162 :: 0 :: 40 :: 29 :: 42 :: 180 :: 0 :: 7 :: 27 :: 21 :: 4 :: 96 :: 46 :: 28 :: 160 :: 0 :: 17 :: 42 :: 180 :: 0 :: 16 :: 7 :: 21 :: 4 :: 104 :: 28 :: 96 :: 46 :: 167 :: 0 :: 4 :: 3 :: 96 :: 62 :: 132 :: 4 :: 1 :: 167 :: 255 :: 213 :: 29 :: fp_scX12_worthAt_1
theorem fp_bcX12_worthAt : bA cX12_worthAt 0 fp_scX12_worthAt_0 := show cX12_worthAt.data.toList.map UInt8.toNat = fp_scX12_worthAt_0 from by decide +kernel
theorem fp_hdX12_worthAt_0 : (((((decode cX12_worthAt 0 = .ok (.iconst 0, 1) ∧ decode cX12_worthAt 1 = .ok (.istore_n 3, 1)) ∧ (decode cX12_worthAt 2 = .ok (.iconst 0, 1) ∧ decode cX12_worthAt 3 = .ok (.istore 4, 2))) ∧ ((decode cX12_worthAt 5 = .ok (.iload 4, 2) ∧ decode cX12_worthAt 7 = .ok (.aload_n 0, 1)) ∧ (decode cX12_worthAt 8 = .ok (.getfield 181, 3) ∧ decode cX12_worthAt 11 = .ok (.if_icmp .ge 40, 3)))) ∧ (((decode cX12_worthAt 14 = .ok (.iload_n 3, 1) ∧ decode cX12_worthAt 15 = .ok (.aload_n 0, 1)) ∧ (decode cX12_worthAt 16 = .ok (.getfield 7, 3) ∧ decode cX12_worthAt 19 = .ok (.iload_n 1, 1))) ∧ ((decode cX12_worthAt 20 = .ok (.iload 4, 2) ∧ decode cX12_worthAt 22 = .ok (.iadd, 1)) ∧ (decode cX12_worthAt 23 = .ok (.iaload, 1) ∧ decode cX12_worthAt 24 = .ok (.iload_n 2, 1))))) ∧ ((((decode cX12_worthAt 25 = .ok (.if_icmp .ne 17, 3) ∧ decode cX12_worthAt 28 = .ok (.aload_n 0, 1)) ∧ (decode cX12_worthAt 29 = .ok (.getfield 16, 3) ∧ decode cX12_worthAt 32 = .ok (.iconst 4, 1))) ∧ ((decode cX12_worthAt 33 = .ok (.iload 4, 2) ∧ decode cX12_worthAt 35 = .ok (.imul, 1)) ∧ (decode cX12_worthAt 36 = .ok (.iload_n 2, 1) ∧ decode cX12_worthAt 37 = .ok (.iadd, 1)))) ∧ (((decode cX12_worthAt 38 = .ok (.iaload, 1) ∧ decode cX12_worthAt 39 = .ok (.goto 4, 3)) ∧ (decode cX12_worthAt 42 = .ok (.iconst 0, 1) ∧ decode cX12_worthAt 43 = .ok (.iadd, 1))) ∧ ((decode cX12_worthAt 44 = .ok (.istore_n 3, 1) ∧ decode cX12_worthAt 45 = .ok (.iinc 4 1, 3)) ∧ (decode cX12_worthAt 48 = .ok (.goto (-43), 3) ∧ decode cX12_worthAt 51 = .ok (.iload_n 3, 1)))))) ∧ bA cX12_worthAt 52 fp_scX12_worthAt_1 :=
  have q0 := fp_o3 fp_bcX12_worthAt
  have q1 := fp_o62 q0.2
  have q2 := fp_o3 q1.2
  have q3 := fp_o54 q2.2
  have q4 := fp_o21 q3.2
  have q5 := fp_o42 q4.2
  have q6 := fp_o180 (v := 181) q5.2 rfl
  have q7 := fp_o162 (v := 40) q6.2 rfl
  have q8 := fp_o29 q7.2
  have q9 := fp_o42 q8.2
  have q10 := fp_o180 (v := 7) q9.2 rfl
  have q11 := fp_o27 q10.2
  have q12 := fp_o21 q11.2
  have q13 := fp_o96 q12.2
  have q14 := fp_o46 q13.2
  have q15 := fp_o28 q14.2
  have q16 := fp_o160 (v := 17) q15.2 rfl
  have q17 := fp_o42 q16.2
  have q18 := fp_o180 (v := 16) q17.2 rfl
  have q19 := fp_o7 q18.2
  have q20 := fp_o21 q19.2
  have q21 := fp_o104 q20.2
  have q22 := fp_o28 q21.2
  have q23 := fp_o96 q22.2
  have q24 := fp_o46 q23.2
  have q25 := fp_o167 (v := 4) q24.2 rfl
  have q26 := fp_o3 q25.2
  have q27 := fp_o96 q26.2
  have q28 := fp_o62 q27.2
  have q29 := fp_o132 (v := 1) q28.2 rfl
  have q30 := fp_o167 (v := (-43)) q29.2 rfl
  have q31 := fp_o29 q30.2
  ⟨⟨⟨⟨⟨⟨q0.1, q1.1⟩, ⟨q2.1, q3.1⟩⟩, ⟨⟨q4.1, q5.1⟩, ⟨q6.1, q7.1⟩⟩⟩, ⟨⟨⟨q8.1, q9.1⟩, ⟨q10.1, q11.1⟩⟩, ⟨⟨q12.1, q13.1⟩, ⟨q14.1, q15.1⟩⟩⟩⟩, ⟨⟨⟨⟨q16.1, q17.1⟩, ⟨q18.1, q19.1⟩⟩, ⟨⟨q20.1, q21.1⟩, ⟨q22.1, q23.1⟩⟩⟩, ⟨⟨⟨q24.1, q25.1⟩, ⟨q26.1, q27.1⟩⟩, ⟨⟨q28.1, q29.1⟩, ⟨q30.1, q31.1⟩⟩⟩⟩⟩, q31.2⟩
theorem dX12_worthAt_0 : decode cX12_worthAt 0 = .ok (.iconst 0, 1) := fp_hdX12_worthAt_0.1.1.1.1.1.1
theorem dX12_worthAt_1 : decode cX12_worthAt 1 = .ok (.istore_n 3, 1) := fp_hdX12_worthAt_0.1.1.1.1.1.2
theorem dX12_worthAt_2 : decode cX12_worthAt 2 = .ok (.iconst 0, 1) := fp_hdX12_worthAt_0.1.1.1.1.2.1
theorem dX12_worthAt_3 : decode cX12_worthAt 3 = .ok (.istore 4, 2) := fp_hdX12_worthAt_0.1.1.1.1.2.2
theorem dX12_worthAt_5 : decode cX12_worthAt 5 = .ok (.iload 4, 2) := fp_hdX12_worthAt_0.1.1.1.2.1.1
theorem dX12_worthAt_7 : decode cX12_worthAt 7 = .ok (.aload_n 0, 1) := fp_hdX12_worthAt_0.1.1.1.2.1.2
theorem dX12_worthAt_8 : decode cX12_worthAt 8 = .ok (.getfield 181, 3) := fp_hdX12_worthAt_0.1.1.1.2.2.1
theorem dX12_worthAt_11 : decode cX12_worthAt 11 = .ok (.if_icmp .ge 40, 3) := fp_hdX12_worthAt_0.1.1.1.2.2.2
theorem dX12_worthAt_14 : decode cX12_worthAt 14 = .ok (.iload_n 3, 1) := fp_hdX12_worthAt_0.1.1.2.1.1.1
theorem dX12_worthAt_15 : decode cX12_worthAt 15 = .ok (.aload_n 0, 1) := fp_hdX12_worthAt_0.1.1.2.1.1.2
theorem dX12_worthAt_16 : decode cX12_worthAt 16 = .ok (.getfield 7, 3) := fp_hdX12_worthAt_0.1.1.2.1.2.1
theorem dX12_worthAt_19 : decode cX12_worthAt 19 = .ok (.iload_n 1, 1) := fp_hdX12_worthAt_0.1.1.2.1.2.2
theorem dX12_worthAt_20 : decode cX12_worthAt 20 = .ok (.iload 4, 2) := fp_hdX12_worthAt_0.1.1.2.2.1.1
theorem dX12_worthAt_22 : decode cX12_worthAt 22 = .ok (.iadd, 1) := fp_hdX12_worthAt_0.1.1.2.2.1.2
theorem dX12_worthAt_23 : decode cX12_worthAt 23 = .ok (.iaload, 1) := fp_hdX12_worthAt_0.1.1.2.2.2.1
theorem dX12_worthAt_24 : decode cX12_worthAt 24 = .ok (.iload_n 2, 1) := fp_hdX12_worthAt_0.1.1.2.2.2.2
theorem dX12_worthAt_25 : decode cX12_worthAt 25 = .ok (.if_icmp .ne 17, 3) := fp_hdX12_worthAt_0.1.2.1.1.1.1
theorem dX12_worthAt_28 : decode cX12_worthAt 28 = .ok (.aload_n 0, 1) := fp_hdX12_worthAt_0.1.2.1.1.1.2
theorem dX12_worthAt_29 : decode cX12_worthAt 29 = .ok (.getfield 16, 3) := fp_hdX12_worthAt_0.1.2.1.1.2.1
theorem dX12_worthAt_32 : decode cX12_worthAt 32 = .ok (.iconst 4, 1) := fp_hdX12_worthAt_0.1.2.1.1.2.2
theorem dX12_worthAt_33 : decode cX12_worthAt 33 = .ok (.iload 4, 2) := fp_hdX12_worthAt_0.1.2.1.2.1.1
theorem dX12_worthAt_35 : decode cX12_worthAt 35 = .ok (.imul, 1) := fp_hdX12_worthAt_0.1.2.1.2.1.2
theorem dX12_worthAt_36 : decode cX12_worthAt 36 = .ok (.iload_n 2, 1) := fp_hdX12_worthAt_0.1.2.1.2.2.1
theorem dX12_worthAt_37 : decode cX12_worthAt 37 = .ok (.iadd, 1) := fp_hdX12_worthAt_0.1.2.1.2.2.2
theorem dX12_worthAt_38 : decode cX12_worthAt 38 = .ok (.iaload, 1) := fp_hdX12_worthAt_0.1.2.2.1.1.1
theorem dX12_worthAt_39 : decode cX12_worthAt 39 = .ok (.goto 4, 3) := fp_hdX12_worthAt_0.1.2.2.1.1.2
theorem dX12_worthAt_42 : decode cX12_worthAt 42 = .ok (.iconst 0, 1) := fp_hdX12_worthAt_0.1.2.2.1.2.1
theorem dX12_worthAt_43 : decode cX12_worthAt 43 = .ok (.iadd, 1) := fp_hdX12_worthAt_0.1.2.2.1.2.2
theorem dX12_worthAt_44 : decode cX12_worthAt 44 = .ok (.istore_n 3, 1) := fp_hdX12_worthAt_0.1.2.2.2.1.1
theorem dX12_worthAt_45 : decode cX12_worthAt 45 = .ok (.iinc 4 1, 3) := fp_hdX12_worthAt_0.1.2.2.2.1.2
theorem dX12_worthAt_48 : decode cX12_worthAt 48 = .ok (.goto (-43), 3) := fp_hdX12_worthAt_0.1.2.2.2.2.1
theorem dX12_worthAt_51 : decode cX12_worthAt 51 = .ok (.iload_n 3, 1) := fp_hdX12_worthAt_0.1.2.2.2.2.2
theorem fp_hdX12_worthAt_52 : decode cX12_worthAt 52 = .ok (.ireturn, 1) ∧ bA cX12_worthAt 53 [] :=
  have q0 := fp_o172 fp_hdX12_worthAt_0.2
  ⟨q0.1, q0.2⟩
theorem dX12_worthAt_52 : decode cX12_worthAt 52 = .ok (.ireturn, 1) := fp_hdX12_worthAt_52.1
def fp_scX12_worth_0 : List Nat := 27 :: 184 :: 0 :: 228 :: 153 :: 0 :: 12 :: 42 :: 3 :: 27 :: 182 :: 0 :: 234 :: 167 :: 0 :: 4 :: 2 :: 172 :: []
theorem fp_bcX12_worth : bA cX12_worth 0 fp_scX12_worth_0 := show cX12_worth.data.toList.map UInt8.toNat = fp_scX12_worth_0 from by decide +kernel
theorem fp_hdX12_worth_0 : ((((decode cX12_worth 0 = .ok (.iload_n 1, 1) ∧ decode cX12_worth 1 = .ok (.invokestatic 228, 3)) ∧ decode cX12_worth 4 = .ok (.ifCond .eq 12, 3)) ∧ (decode cX12_worth 7 = .ok (.aload_n 0, 1) ∧ decode cX12_worth 8 = .ok (.iconst 0, 1))) ∧ (((decode cX12_worth 9 = .ok (.iload_n 1, 1) ∧ decode cX12_worth 10 = .ok (.invokevirtual 234, 3)) ∧ decode cX12_worth 13 = .ok (.goto 4, 3)) ∧ (decode cX12_worth 16 = .ok (.iconst (-1), 1) ∧ decode cX12_worth 17 = .ok (.ireturn, 1)))) ∧ bA cX12_worth 18 [] :=
  have q0 := fp_o27 fp_bcX12_worth
  have q1 := fp_o184 (v := 228) q0.2 rfl
  have q2 := fp_o153 (v := 12) q1.2 rfl
  have q3 := fp_o42 q2.2
  have q4 := fp_o3 q3.2
  have q5 := fp_o27 q4.2
  have q6 := fp_o182 (v := 234) q5.2 rfl
  have q7 := fp_o167 (v := 4) q6.2 rfl
  have q8 := fp_o2 q7.2
  have q9 := fp_o172 q8.2
  ⟨⟨⟨⟨⟨q0.1, q1.1⟩, q2.1⟩, ⟨q3.1, q4.1⟩⟩, ⟨⟨⟨q5.1, q6.1⟩, q7.1⟩, ⟨q8.1, q9.1⟩⟩⟩, q9.2⟩
theorem dX12_worth_0 : decode cX12_worth 0 = .ok (.iload_n 1, 1) := fp_hdX12_worth_0.1.1.1.1.1
theorem dX12_worth_1 : decode cX12_worth 1 = .ok (.invokestatic 228, 3) := fp_hdX12_worth_0.1.1.1.1.2
theorem dX12_worth_4 : decode cX12_worth 4 = .ok (.ifCond .eq 12, 3) := fp_hdX12_worth_0.1.1.1.2
theorem dX12_worth_7 : decode cX12_worth 7 = .ok (.aload_n 0, 1) := fp_hdX12_worth_0.1.1.2.1
theorem dX12_worth_8 : decode cX12_worth 8 = .ok (.iconst 0, 1) := fp_hdX12_worth_0.1.1.2.2
theorem dX12_worth_9 : decode cX12_worth 9 = .ok (.iload_n 1, 1) := fp_hdX12_worth_0.1.2.1.1.1
theorem dX12_worth_10 : decode cX12_worth 10 = .ok (.invokevirtual 234, 3) := fp_hdX12_worth_0.1.2.1.1.2
theorem dX12_worth_13 : decode cX12_worth 13 = .ok (.goto 4, 3) := fp_hdX12_worth_0.1.2.1.2
theorem dX12_worth_16 : decode cX12_worth 16 = .ok (.iconst (-1), 1) := fp_hdX12_worth_0.1.2.2.1
theorem dX12_worth_17 : decode cX12_worth 17 = .ok (.ireturn, 1) := fp_hdX12_worth_0.1.2.2.2
def fp_scX12_laysIn_1 : List Nat := 42 :: 180 :: 0 :: 7 :: 21 :: 5 :: 4 :: 96 :: 21 :: 4 :: 96 :: 28 :: 79 :: 42 :: 180 :: 0 :: 7 :: 21 :: 5 :: 92 :: 46 :: 4 :: 96 :: 79 :: 177 :: []
def fp_scX12_laysIn_0 : List Nat := 27 :: 16 :: 10 :: 96 :: 16 :: 9 :: 29 :: 104 :: 96 :: 54 :: 5 :: 42 :: 180 :: 0 :: 7 :: 21 :: 5 :: 46 :: 54 :: 6 :: 21 :: 6 :: 21 :: 4 :: 164 :: 0 :: 31 :: 42 :: 180 :: 0 :: 7 :: 21 :: 5 :: 4 :: 96 :: 21 :: 6 :: 96 :: 42 :: 180 :: 0 :: 7 :: 21 :: 5 :: 21 :: 6 :: 96 :: 46 :: 79 :: 132 :: 6 :: 255 :: 167 :: 255 :: 224 :: fp_scX12_laysIn_1
theorem fp_bcX12_laysIn : bA cX12_laysIn 0 fp_scX12_laysIn_0 := show cX12_laysIn.data.toList.map UInt8.toNat = fp_scX12_laysIn_0 from by decide +kernel
theorem fp_hdX12_laysIn_0 : (((((decode cX12_laysIn 0 = .ok (.iload_n 1, 1) ∧ decode cX12_laysIn 1 = .ok (.bipush 10, 2)) ∧ (decode cX12_laysIn 3 = .ok (.iadd, 1) ∧ decode cX12_laysIn 4 = .ok (.bipush 9, 2))) ∧ ((decode cX12_laysIn 6 = .ok (.iload_n 3, 1) ∧ decode cX12_laysIn 7 = .ok (.imul, 1)) ∧ (decode cX12_laysIn 8 = .ok (.iadd, 1) ∧ decode cX12_laysIn 9 = .ok (.istore 5, 2)))) ∧ (((decode cX12_laysIn 11 = .ok (.aload_n 0, 1) ∧ decode cX12_laysIn 12 = .ok (.getfield 7, 3)) ∧ (decode cX12_laysIn 15 = .ok (.iload 5, 2) ∧ decode cX12_laysIn 17 = .ok (.iaload, 1))) ∧ ((decode cX12_laysIn 18 = .ok (.istore 6, 2) ∧ decode cX12_laysIn 20 = .ok (.iload 6, 2)) ∧ (decode cX12_laysIn 22 = .ok (.iload 4, 2) ∧ decode cX12_laysIn 24 = .ok (.if_icmp .le 31, 3))))) ∧ ((((decode cX12_laysIn 27 = .ok (.aload_n 0, 1) ∧ decode cX12_laysIn 28 = .ok (.getfield 7, 3)) ∧ (decode cX12_laysIn 31 = .ok (.iload 5, 2) ∧ decode cX12_laysIn 33 = .ok (.iconst 1, 1))) ∧ ((decode cX12_laysIn 34 = .ok (.iadd, 1) ∧ decode cX12_laysIn 35 = .ok (.iload 6, 2)) ∧ (decode cX12_laysIn 37 = .ok (.iadd, 1) ∧ decode cX12_laysIn 38 = .ok (.aload_n 0, 1)))) ∧ (((decode cX12_laysIn 39 = .ok (.getfield 7, 3) ∧ decode cX12_laysIn 42 = .ok (.iload 5, 2)) ∧ (decode cX12_laysIn 44 = .ok (.iload 6, 2) ∧ decode cX12_laysIn 46 = .ok (.iadd, 1))) ∧ ((decode cX12_laysIn 47 = .ok (.iaload, 1) ∧ decode cX12_laysIn 48 = .ok (.iastore, 1)) ∧ (decode cX12_laysIn 49 = .ok (.iinc 6 (-1), 3) ∧ decode cX12_laysIn 52 = .ok (.goto (-32), 3)))))) ∧ bA cX12_laysIn 55 fp_scX12_laysIn_1 :=
  have q0 := fp_o27 fp_bcX12_laysIn
  have q1 := fp_o16 (v := 10) q0.2 rfl
  have q2 := fp_o96 q1.2
  have q3 := fp_o16 (v := 9) q2.2 rfl
  have q4 := fp_o29 q3.2
  have q5 := fp_o104 q4.2
  have q6 := fp_o96 q5.2
  have q7 := fp_o54 q6.2
  have q8 := fp_o42 q7.2
  have q9 := fp_o180 (v := 7) q8.2 rfl
  have q10 := fp_o21 q9.2
  have q11 := fp_o46 q10.2
  have q12 := fp_o54 q11.2
  have q13 := fp_o21 q12.2
  have q14 := fp_o21 q13.2
  have q15 := fp_o164 (v := 31) q14.2 rfl
  have q16 := fp_o42 q15.2
  have q17 := fp_o180 (v := 7) q16.2 rfl
  have q18 := fp_o21 q17.2
  have q19 := fp_o4 q18.2
  have q20 := fp_o96 q19.2
  have q21 := fp_o21 q20.2
  have q22 := fp_o96 q21.2
  have q23 := fp_o42 q22.2
  have q24 := fp_o180 (v := 7) q23.2 rfl
  have q25 := fp_o21 q24.2
  have q26 := fp_o21 q25.2
  have q27 := fp_o96 q26.2
  have q28 := fp_o46 q27.2
  have q29 := fp_o79 q28.2
  have q30 := fp_o132 (v := (-1)) q29.2 rfl
  have q31 := fp_o167 (v := (-32)) q30.2 rfl
  ⟨⟨⟨⟨⟨⟨q0.1, q1.1⟩, ⟨q2.1, q3.1⟩⟩, ⟨⟨q4.1, q5.1⟩, ⟨q6.1, q7.1⟩⟩⟩, ⟨⟨⟨q8.1, q9.1⟩, ⟨q10.1, q11.1⟩⟩, ⟨⟨q12.1, q13.1⟩, ⟨q14.1, q15.1⟩⟩⟩⟩, ⟨⟨⟨⟨q16.1, q17.1⟩, ⟨q18.1, q19.1⟩⟩, ⟨⟨q20.1, q21.1⟩, ⟨q22.1, q23.1⟩⟩⟩, ⟨⟨⟨q24.1, q25.1⟩, ⟨q26.1, q27.1⟩⟩, ⟨⟨q28.1, q29.1⟩, ⟨q30.1, q31.1⟩⟩⟩⟩⟩, q31.2⟩
theorem dX12_laysIn_0 : decode cX12_laysIn 0 = .ok (.iload_n 1, 1) := fp_hdX12_laysIn_0.1.1.1.1.1.1
theorem dX12_laysIn_1 : decode cX12_laysIn 1 = .ok (.bipush 10, 2) := fp_hdX12_laysIn_0.1.1.1.1.1.2
theorem dX12_laysIn_3 : decode cX12_laysIn 3 = .ok (.iadd, 1) := fp_hdX12_laysIn_0.1.1.1.1.2.1
theorem dX12_laysIn_4 : decode cX12_laysIn 4 = .ok (.bipush 9, 2) := fp_hdX12_laysIn_0.1.1.1.1.2.2
theorem dX12_laysIn_6 : decode cX12_laysIn 6 = .ok (.iload_n 3, 1) := fp_hdX12_laysIn_0.1.1.1.2.1.1
theorem dX12_laysIn_7 : decode cX12_laysIn 7 = .ok (.imul, 1) := fp_hdX12_laysIn_0.1.1.1.2.1.2
theorem dX12_laysIn_8 : decode cX12_laysIn 8 = .ok (.iadd, 1) := fp_hdX12_laysIn_0.1.1.1.2.2.1
theorem dX12_laysIn_9 : decode cX12_laysIn 9 = .ok (.istore 5, 2) := fp_hdX12_laysIn_0.1.1.1.2.2.2
theorem dX12_laysIn_11 : decode cX12_laysIn 11 = .ok (.aload_n 0, 1) := fp_hdX12_laysIn_0.1.1.2.1.1.1
theorem dX12_laysIn_12 : decode cX12_laysIn 12 = .ok (.getfield 7, 3) := fp_hdX12_laysIn_0.1.1.2.1.1.2
theorem dX12_laysIn_15 : decode cX12_laysIn 15 = .ok (.iload 5, 2) := fp_hdX12_laysIn_0.1.1.2.1.2.1
theorem dX12_laysIn_17 : decode cX12_laysIn 17 = .ok (.iaload, 1) := fp_hdX12_laysIn_0.1.1.2.1.2.2
theorem dX12_laysIn_18 : decode cX12_laysIn 18 = .ok (.istore 6, 2) := fp_hdX12_laysIn_0.1.1.2.2.1.1
theorem dX12_laysIn_20 : decode cX12_laysIn 20 = .ok (.iload 6, 2) := fp_hdX12_laysIn_0.1.1.2.2.1.2
theorem dX12_laysIn_22 : decode cX12_laysIn 22 = .ok (.iload 4, 2) := fp_hdX12_laysIn_0.1.1.2.2.2.1
theorem dX12_laysIn_24 : decode cX12_laysIn 24 = .ok (.if_icmp .le 31, 3) := fp_hdX12_laysIn_0.1.1.2.2.2.2
theorem dX12_laysIn_27 : decode cX12_laysIn 27 = .ok (.aload_n 0, 1) := fp_hdX12_laysIn_0.1.2.1.1.1.1
theorem dX12_laysIn_28 : decode cX12_laysIn 28 = .ok (.getfield 7, 3) := fp_hdX12_laysIn_0.1.2.1.1.1.2
theorem dX12_laysIn_31 : decode cX12_laysIn 31 = .ok (.iload 5, 2) := fp_hdX12_laysIn_0.1.2.1.1.2.1
theorem dX12_laysIn_33 : decode cX12_laysIn 33 = .ok (.iconst 1, 1) := fp_hdX12_laysIn_0.1.2.1.1.2.2
theorem dX12_laysIn_34 : decode cX12_laysIn 34 = .ok (.iadd, 1) := fp_hdX12_laysIn_0.1.2.1.2.1.1
theorem dX12_laysIn_35 : decode cX12_laysIn 35 = .ok (.iload 6, 2) := fp_hdX12_laysIn_0.1.2.1.2.1.2
theorem dX12_laysIn_37 : decode cX12_laysIn 37 = .ok (.iadd, 1) := fp_hdX12_laysIn_0.1.2.1.2.2.1
theorem dX12_laysIn_38 : decode cX12_laysIn 38 = .ok (.aload_n 0, 1) := fp_hdX12_laysIn_0.1.2.1.2.2.2
theorem dX12_laysIn_39 : decode cX12_laysIn 39 = .ok (.getfield 7, 3) := fp_hdX12_laysIn_0.1.2.2.1.1.1
theorem dX12_laysIn_42 : decode cX12_laysIn 42 = .ok (.iload 5, 2) := fp_hdX12_laysIn_0.1.2.2.1.1.2
theorem dX12_laysIn_44 : decode cX12_laysIn 44 = .ok (.iload 6, 2) := fp_hdX12_laysIn_0.1.2.2.1.2.1
theorem dX12_laysIn_46 : decode cX12_laysIn 46 = .ok (.iadd, 1) := fp_hdX12_laysIn_0.1.2.2.1.2.2
theorem dX12_laysIn_47 : decode cX12_laysIn 47 = .ok (.iaload, 1) := fp_hdX12_laysIn_0.1.2.2.2.1.1
theorem dX12_laysIn_48 : decode cX12_laysIn 48 = .ok (.iastore, 1) := fp_hdX12_laysIn_0.1.2.2.2.1.2
theorem dX12_laysIn_49 : decode cX12_laysIn 49 = .ok (.iinc 6 (-1), 3) := fp_hdX12_laysIn_0.1.2.2.2.2.1
theorem dX12_laysIn_52 : decode cX12_laysIn 52 = .ok (.goto (-32), 3) := fp_hdX12_laysIn_0.1.2.2.2.2.2
theorem fp_hdX12_laysIn_55 : (((((decode cX12_laysIn 55 = .ok (.aload_n 0, 1) ∧ decode cX12_laysIn 56 = .ok (.getfield 7, 3)) ∧ decode cX12_laysIn 59 = .ok (.iload 5, 2)) ∧ (decode cX12_laysIn 61 = .ok (.iconst 1, 1) ∧ decode cX12_laysIn 62 = .ok (.iadd, 1))) ∧ ((decode cX12_laysIn 63 = .ok (.iload 4, 2) ∧ decode cX12_laysIn 65 = .ok (.iadd, 1)) ∧ (decode cX12_laysIn 66 = .ok (.iload_n 2, 1) ∧ decode cX12_laysIn 67 = .ok (.iastore, 1)))) ∧ ((((decode cX12_laysIn 68 = .ok (.aload_n 0, 1) ∧ decode cX12_laysIn 69 = .ok (.getfield 7, 3)) ∧ decode cX12_laysIn 72 = .ok (.iload 5, 2)) ∧ (decode cX12_laysIn 74 = .ok (.dup2, 1) ∧ decode cX12_laysIn 75 = .ok (.iaload, 1))) ∧ ((decode cX12_laysIn 76 = .ok (.iconst 1, 1) ∧ decode cX12_laysIn 77 = .ok (.iadd, 1)) ∧ (decode cX12_laysIn 78 = .ok (.iastore, 1) ∧ decode cX12_laysIn 79 = .ok (.return_, 1))))) ∧ bA cX12_laysIn 80 [] :=
  have q0 := fp_o42 fp_hdX12_laysIn_0.2
  have q1 := fp_o180 (v := 7) q0.2 rfl
  have q2 := fp_o21 q1.2
  have q3 := fp_o4 q2.2
  have q4 := fp_o96 q3.2
  have q5 := fp_o21 q4.2
  have q6 := fp_o96 q5.2
  have q7 := fp_o28 q6.2
  have q8 := fp_o79 q7.2
  have q9 := fp_o42 q8.2
  have q10 := fp_o180 (v := 7) q9.2 rfl
  have q11 := fp_o21 q10.2
  have q12 := fp_o92 q11.2
  have q13 := fp_o46 q12.2
  have q14 := fp_o4 q13.2
  have q15 := fp_o96 q14.2
  have q16 := fp_o79 q15.2
  have q17 := fp_o177 q16.2
  ⟨⟨⟨⟨⟨⟨q0.1, q1.1⟩, q2.1⟩, ⟨q3.1, q4.1⟩⟩, ⟨⟨q5.1, q6.1⟩, ⟨q7.1, q8.1⟩⟩⟩, ⟨⟨⟨⟨q9.1, q10.1⟩, q11.1⟩, ⟨q12.1, q13.1⟩⟩, ⟨⟨q14.1, q15.1⟩, ⟨q16.1, q17.1⟩⟩⟩⟩, q17.2⟩
theorem dX12_laysIn_55 : decode cX12_laysIn 55 = .ok (.aload_n 0, 1) := fp_hdX12_laysIn_55.1.1.1.1.1.1
theorem dX12_laysIn_56 : decode cX12_laysIn 56 = .ok (.getfield 7, 3) := fp_hdX12_laysIn_55.1.1.1.1.1.2
theorem dX12_laysIn_59 : decode cX12_laysIn 59 = .ok (.iload 5, 2) := fp_hdX12_laysIn_55.1.1.1.1.2
theorem dX12_laysIn_61 : decode cX12_laysIn 61 = .ok (.iconst 1, 1) := fp_hdX12_laysIn_55.1.1.1.2.1
theorem dX12_laysIn_62 : decode cX12_laysIn 62 = .ok (.iadd, 1) := fp_hdX12_laysIn_55.1.1.1.2.2
theorem dX12_laysIn_63 : decode cX12_laysIn 63 = .ok (.iload 4, 2) := fp_hdX12_laysIn_55.1.1.2.1.1
theorem dX12_laysIn_65 : decode cX12_laysIn 65 = .ok (.iadd, 1) := fp_hdX12_laysIn_55.1.1.2.1.2
theorem dX12_laysIn_66 : decode cX12_laysIn 66 = .ok (.iload_n 2, 1) := fp_hdX12_laysIn_55.1.1.2.2.1
theorem dX12_laysIn_67 : decode cX12_laysIn 67 = .ok (.iastore, 1) := fp_hdX12_laysIn_55.1.1.2.2.2
theorem dX12_laysIn_68 : decode cX12_laysIn 68 = .ok (.aload_n 0, 1) := fp_hdX12_laysIn_55.1.2.1.1.1.1
theorem dX12_laysIn_69 : decode cX12_laysIn 69 = .ok (.getfield 7, 3) := fp_hdX12_laysIn_55.1.2.1.1.1.2
theorem dX12_laysIn_72 : decode cX12_laysIn 72 = .ok (.iload 5, 2) := fp_hdX12_laysIn_55.1.2.1.1.2
theorem dX12_laysIn_74 : decode cX12_laysIn 74 = .ok (.dup2, 1) := fp_hdX12_laysIn_55.1.2.1.2.1
theorem dX12_laysIn_75 : decode cX12_laysIn 75 = .ok (.iaload, 1) := fp_hdX12_laysIn_55.1.2.1.2.2
theorem dX12_laysIn_76 : decode cX12_laysIn 76 = .ok (.iconst 1, 1) := fp_hdX12_laysIn_55.1.2.2.1.1
theorem dX12_laysIn_77 : decode cX12_laysIn 77 = .ok (.iadd, 1) := fp_hdX12_laysIn_55.1.2.2.1.2
theorem dX12_laysIn_78 : decode cX12_laysIn 78 = .ok (.iastore, 1) := fp_hdX12_laysIn_55.1.2.2.2.1
theorem dX12_laysIn_79 : decode cX12_laysIn 79 = .ok (.return_, 1) := fp_hdX12_laysIn_55.1.2.2.2.2
def fp_scX12_takesOut_1 : List Nat := 162 :: 0 :: 33 :: 42 :: 180 :: 0 :: 7 :: 21 :: 4 :: 4 :: 96 :: 21 :: 6 :: 96 :: 42 :: 180 :: 0 :: 7 :: 21 :: 4 :: 5 :: 96 :: 21 :: 6 :: 96 :: 46 :: 79 :: 132 :: 6 :: 1 :: 167 :: 255 :: 217 :: 21 :: 5 :: 172 :: []
def fp_scX12_takesOut_0 : List Nat := 27 :: 16 :: 10 :: 96 :: 16 :: 9 :: 28 :: 104 :: 96 :: 54 :: 4 :: 42 :: 180 :: 0 :: 7 :: 21 :: 4 :: 4 :: 96 :: 29 :: 96 :: 46 :: 54 :: 5 :: 42 :: 180 :: 0 :: 7 :: 21 :: 4 :: 92 :: 46 :: 4 :: 100 :: 79 :: 29 :: 54 :: 6 :: 21 :: 6 :: 42 :: 180 :: 0 :: 7 :: 21 :: 4 :: 46 :: fp_scX12_takesOut_1
theorem fp_bcX12_takesOut : bA cX12_takesOut 0 fp_scX12_takesOut_0 := show cX12_takesOut.data.toList.map UInt8.toNat = fp_scX12_takesOut_0 from by decide +kernel
theorem fp_hdX12_takesOut_0 : (((((decode cX12_takesOut 0 = .ok (.iload_n 1, 1) ∧ decode cX12_takesOut 1 = .ok (.bipush 10, 2)) ∧ (decode cX12_takesOut 3 = .ok (.iadd, 1) ∧ decode cX12_takesOut 4 = .ok (.bipush 9, 2))) ∧ ((decode cX12_takesOut 6 = .ok (.iload_n 2, 1) ∧ decode cX12_takesOut 7 = .ok (.imul, 1)) ∧ (decode cX12_takesOut 8 = .ok (.iadd, 1) ∧ decode cX12_takesOut 9 = .ok (.istore 4, 2)))) ∧ (((decode cX12_takesOut 11 = .ok (.aload_n 0, 1) ∧ decode cX12_takesOut 12 = .ok (.getfield 7, 3)) ∧ (decode cX12_takesOut 15 = .ok (.iload 4, 2) ∧ decode cX12_takesOut 17 = .ok (.iconst 1, 1))) ∧ ((decode cX12_takesOut 18 = .ok (.iadd, 1) ∧ decode cX12_takesOut 19 = .ok (.iload_n 3, 1)) ∧ (decode cX12_takesOut 20 = .ok (.iadd, 1) ∧ decode cX12_takesOut 21 = .ok (.iaload, 1))))) ∧ ((((decode cX12_takesOut 22 = .ok (.istore 5, 2) ∧ decode cX12_takesOut 24 = .ok (.aload_n 0, 1)) ∧ (decode cX12_takesOut 25 = .ok (.getfield 7, 3) ∧ decode cX12_takesOut 28 = .ok (.iload 4, 2))) ∧ ((decode cX12_takesOut 30 = .ok (.dup2, 1) ∧ decode cX12_takesOut 31 = .ok (.iaload, 1)) ∧ (decode cX12_takesOut 32 = .ok (.iconst 1, 1) ∧ decode cX12_takesOut 33 = .ok (.isub, 1)))) ∧ (((decode cX12_takesOut 34 = .ok (.iastore, 1) ∧ decode cX12_takesOut 35 = .ok (.iload_n 3, 1)) ∧ (decode cX12_takesOut 36 = .ok (.istore 6, 2) ∧ decode cX12_takesOut 38 = .ok (.iload 6, 2))) ∧ ((decode cX12_takesOut 40 = .ok (.aload_n 0, 1) ∧ decode cX12_takesOut 41 = .ok (.getfield 7, 3)) ∧ (decode cX12_takesOut 44 = .ok (.iload 4, 2) ∧ decode cX12_takesOut 46 = .ok (.iaload, 1)))))) ∧ bA cX12_takesOut 47 fp_scX12_takesOut_1 :=
  have q0 := fp_o27 fp_bcX12_takesOut
  have q1 := fp_o16 (v := 10) q0.2 rfl
  have q2 := fp_o96 q1.2
  have q3 := fp_o16 (v := 9) q2.2 rfl
  have q4 := fp_o28 q3.2
  have q5 := fp_o104 q4.2
  have q6 := fp_o96 q5.2
  have q7 := fp_o54 q6.2
  have q8 := fp_o42 q7.2
  have q9 := fp_o180 (v := 7) q8.2 rfl
  have q10 := fp_o21 q9.2
  have q11 := fp_o4 q10.2
  have q12 := fp_o96 q11.2
  have q13 := fp_o29 q12.2
  have q14 := fp_o96 q13.2
  have q15 := fp_o46 q14.2
  have q16 := fp_o54 q15.2
  have q17 := fp_o42 q16.2
  have q18 := fp_o180 (v := 7) q17.2 rfl
  have q19 := fp_o21 q18.2
  have q20 := fp_o92 q19.2
  have q21 := fp_o46 q20.2
  have q22 := fp_o4 q21.2
  have q23 := fp_o100 q22.2
  have q24 := fp_o79 q23.2
  have q25 := fp_o29 q24.2
  have q26 := fp_o54 q25.2
  have q27 := fp_o21 q26.2
  have q28 := fp_o42 q27.2
  have q29 := fp_o180 (v := 7) q28.2 rfl
  have q30 := fp_o21 q29.2
  have q31 := fp_o46 q30.2
  ⟨⟨⟨⟨⟨⟨q0.1, q1.1⟩, ⟨q2.1, q3.1⟩⟩, ⟨⟨q4.1, q5.1⟩, ⟨q6.1, q7.1⟩⟩⟩, ⟨⟨⟨q8.1, q9.1⟩, ⟨q10.1, q11.1⟩⟩, ⟨⟨q12.1, q13.1⟩, ⟨q14.1, q15.1⟩⟩⟩⟩, ⟨⟨⟨⟨q16.1, q17.1⟩, ⟨q18.1, q19.1⟩⟩, ⟨⟨q20.1, q21.1⟩, ⟨q22.1, q23.1⟩⟩⟩, ⟨⟨⟨q24.1, q25.1⟩, ⟨q26.1, q27.1⟩⟩, ⟨⟨q28.1, q29.1⟩, ⟨q30.1, q31.1⟩⟩⟩⟩⟩, q31.2⟩
theorem dX12_takesOut_0 : decode cX12_takesOut 0 = .ok (.iload_n 1, 1) := fp_hdX12_takesOut_0.1.1.1.1.1.1
theorem dX12_takesOut_1 : decode cX12_takesOut 1 = .ok (.bipush 10, 2) := fp_hdX12_takesOut_0.1.1.1.1.1.2
theorem dX12_takesOut_3 : decode cX12_takesOut 3 = .ok (.iadd, 1) := fp_hdX12_takesOut_0.1.1.1.1.2.1
theorem dX12_takesOut_4 : decode cX12_takesOut 4 = .ok (.bipush 9, 2) := fp_hdX12_takesOut_0.1.1.1.1.2.2
theorem dX12_takesOut_6 : decode cX12_takesOut 6 = .ok (.iload_n 2, 1) := fp_hdX12_takesOut_0.1.1.1.2.1.1
theorem dX12_takesOut_7 : decode cX12_takesOut 7 = .ok (.imul, 1) := fp_hdX12_takesOut_0.1.1.1.2.1.2
theorem dX12_takesOut_8 : decode cX12_takesOut 8 = .ok (.iadd, 1) := fp_hdX12_takesOut_0.1.1.1.2.2.1
theorem dX12_takesOut_9 : decode cX12_takesOut 9 = .ok (.istore 4, 2) := fp_hdX12_takesOut_0.1.1.1.2.2.2
theorem dX12_takesOut_11 : decode cX12_takesOut 11 = .ok (.aload_n 0, 1) := fp_hdX12_takesOut_0.1.1.2.1.1.1
theorem dX12_takesOut_12 : decode cX12_takesOut 12 = .ok (.getfield 7, 3) := fp_hdX12_takesOut_0.1.1.2.1.1.2
theorem dX12_takesOut_15 : decode cX12_takesOut 15 = .ok (.iload 4, 2) := fp_hdX12_takesOut_0.1.1.2.1.2.1
theorem dX12_takesOut_17 : decode cX12_takesOut 17 = .ok (.iconst 1, 1) := fp_hdX12_takesOut_0.1.1.2.1.2.2
theorem dX12_takesOut_18 : decode cX12_takesOut 18 = .ok (.iadd, 1) := fp_hdX12_takesOut_0.1.1.2.2.1.1
theorem dX12_takesOut_19 : decode cX12_takesOut 19 = .ok (.iload_n 3, 1) := fp_hdX12_takesOut_0.1.1.2.2.1.2
theorem dX12_takesOut_20 : decode cX12_takesOut 20 = .ok (.iadd, 1) := fp_hdX12_takesOut_0.1.1.2.2.2.1
theorem dX12_takesOut_21 : decode cX12_takesOut 21 = .ok (.iaload, 1) := fp_hdX12_takesOut_0.1.1.2.2.2.2
theorem dX12_takesOut_22 : decode cX12_takesOut 22 = .ok (.istore 5, 2) := fp_hdX12_takesOut_0.1.2.1.1.1.1
theorem dX12_takesOut_24 : decode cX12_takesOut 24 = .ok (.aload_n 0, 1) := fp_hdX12_takesOut_0.1.2.1.1.1.2
theorem dX12_takesOut_25 : decode cX12_takesOut 25 = .ok (.getfield 7, 3) := fp_hdX12_takesOut_0.1.2.1.1.2.1
theorem dX12_takesOut_28 : decode cX12_takesOut 28 = .ok (.iload 4, 2) := fp_hdX12_takesOut_0.1.2.1.1.2.2
theorem dX12_takesOut_30 : decode cX12_takesOut 30 = .ok (.dup2, 1) := fp_hdX12_takesOut_0.1.2.1.2.1.1
theorem dX12_takesOut_31 : decode cX12_takesOut 31 = .ok (.iaload, 1) := fp_hdX12_takesOut_0.1.2.1.2.1.2
theorem dX12_takesOut_32 : decode cX12_takesOut 32 = .ok (.iconst 1, 1) := fp_hdX12_takesOut_0.1.2.1.2.2.1
theorem dX12_takesOut_33 : decode cX12_takesOut 33 = .ok (.isub, 1) := fp_hdX12_takesOut_0.1.2.1.2.2.2
theorem dX12_takesOut_34 : decode cX12_takesOut 34 = .ok (.iastore, 1) := fp_hdX12_takesOut_0.1.2.2.1.1.1
theorem dX12_takesOut_35 : decode cX12_takesOut 35 = .ok (.iload_n 3, 1) := fp_hdX12_takesOut_0.1.2.2.1.1.2
theorem dX12_takesOut_36 : decode cX12_takesOut 36 = .ok (.istore 6, 2) := fp_hdX12_takesOut_0.1.2.2.1.2.1
theorem dX12_takesOut_38 : decode cX12_takesOut 38 = .ok (.iload 6, 2) := fp_hdX12_takesOut_0.1.2.2.1.2.2
theorem dX12_takesOut_40 : decode cX12_takesOut 40 = .ok (.aload_n 0, 1) := fp_hdX12_takesOut_0.1.2.2.2.1.1
theorem dX12_takesOut_41 : decode cX12_takesOut 41 = .ok (.getfield 7, 3) := fp_hdX12_takesOut_0.1.2.2.2.1.2
theorem dX12_takesOut_44 : decode cX12_takesOut 44 = .ok (.iload 4, 2) := fp_hdX12_takesOut_0.1.2.2.2.2.1
theorem dX12_takesOut_46 : decode cX12_takesOut 46 = .ok (.iaload, 1) := fp_hdX12_takesOut_0.1.2.2.2.2.2
theorem fp_hdX12_takesOut_47 : (((((decode cX12_takesOut 47 = .ok (.if_icmp .ge 33, 3) ∧ decode cX12_takesOut 50 = .ok (.aload_n 0, 1)) ∧ decode cX12_takesOut 51 = .ok (.getfield 7, 3)) ∧ ((decode cX12_takesOut 54 = .ok (.iload 4, 2) ∧ decode cX12_takesOut 56 = .ok (.iconst 1, 1)) ∧ decode cX12_takesOut 57 = .ok (.iadd, 1))) ∧ (((decode cX12_takesOut 58 = .ok (.iload 6, 2) ∧ decode cX12_takesOut 60 = .ok (.iadd, 1)) ∧ decode cX12_takesOut 61 = .ok (.aload_n 0, 1)) ∧ (decode cX12_takesOut 62 = .ok (.getfield 7, 3) ∧ decode cX12_takesOut 65 = .ok (.iload 4, 2)))) ∧ ((((decode cX12_takesOut 67 = .ok (.iconst 2, 1) ∧ decode cX12_takesOut 68 = .ok (.iadd, 1)) ∧ decode cX12_takesOut 69 = .ok (.iload 6, 2)) ∧ (decode cX12_takesOut 71 = .ok (.iadd, 1) ∧ decode cX12_takesOut 72 = .ok (.iaload, 1))) ∧ (((decode cX12_takesOut 73 = .ok (.iastore, 1) ∧ decode cX12_takesOut 74 = .ok (.iinc 6 1, 3)) ∧ decode cX12_takesOut 77 = .ok (.goto (-39), 3)) ∧ (decode cX12_takesOut 80 = .ok (.iload 5, 2) ∧ decode cX12_takesOut 82 = .ok (.ireturn, 1))))) ∧ bA cX12_takesOut 83 [] :=
  have q0 := fp_o162 (v := 33) fp_hdX12_takesOut_0.2 rfl
  have q1 := fp_o42 q0.2
  have q2 := fp_o180 (v := 7) q1.2 rfl
  have q3 := fp_o21 q2.2
  have q4 := fp_o4 q3.2
  have q5 := fp_o96 q4.2
  have q6 := fp_o21 q5.2
  have q7 := fp_o96 q6.2
  have q8 := fp_o42 q7.2
  have q9 := fp_o180 (v := 7) q8.2 rfl
  have q10 := fp_o21 q9.2
  have q11 := fp_o5 q10.2
  have q12 := fp_o96 q11.2
  have q13 := fp_o21 q12.2
  have q14 := fp_o96 q13.2
  have q15 := fp_o46 q14.2
  have q16 := fp_o79 q15.2
  have q17 := fp_o132 (v := 1) q16.2 rfl
  have q18 := fp_o167 (v := (-39)) q17.2 rfl
  have q19 := fp_o21 q18.2
  have q20 := fp_o172 q19.2
  ⟨⟨⟨⟨⟨⟨q0.1, q1.1⟩, q2.1⟩, ⟨⟨q3.1, q4.1⟩, q5.1⟩⟩, ⟨⟨⟨q6.1, q7.1⟩, q8.1⟩, ⟨q9.1, q10.1⟩⟩⟩, ⟨⟨⟨⟨q11.1, q12.1⟩, q13.1⟩, ⟨q14.1, q15.1⟩⟩, ⟨⟨⟨q16.1, q17.1⟩, q18.1⟩, ⟨q19.1, q20.1⟩⟩⟩⟩, q20.2⟩
theorem dX12_takesOut_47 : decode cX12_takesOut 47 = .ok (.if_icmp .ge 33, 3) := fp_hdX12_takesOut_47.1.1.1.1.1.1
theorem dX12_takesOut_50 : decode cX12_takesOut 50 = .ok (.aload_n 0, 1) := fp_hdX12_takesOut_47.1.1.1.1.1.2
theorem dX12_takesOut_51 : decode cX12_takesOut 51 = .ok (.getfield 7, 3) := fp_hdX12_takesOut_47.1.1.1.1.2
theorem dX12_takesOut_54 : decode cX12_takesOut 54 = .ok (.iload 4, 2) := fp_hdX12_takesOut_47.1.1.1.2.1.1
theorem dX12_takesOut_56 : decode cX12_takesOut 56 = .ok (.iconst 1, 1) := fp_hdX12_takesOut_47.1.1.1.2.1.2
theorem dX12_takesOut_57 : decode cX12_takesOut 57 = .ok (.iadd, 1) := fp_hdX12_takesOut_47.1.1.1.2.2
theorem dX12_takesOut_58 : decode cX12_takesOut 58 = .ok (.iload 6, 2) := fp_hdX12_takesOut_47.1.1.2.1.1.1
theorem dX12_takesOut_60 : decode cX12_takesOut 60 = .ok (.iadd, 1) := fp_hdX12_takesOut_47.1.1.2.1.1.2
theorem dX12_takesOut_61 : decode cX12_takesOut 61 = .ok (.aload_n 0, 1) := fp_hdX12_takesOut_47.1.1.2.1.2
theorem dX12_takesOut_62 : decode cX12_takesOut 62 = .ok (.getfield 7, 3) := fp_hdX12_takesOut_47.1.1.2.2.1
theorem dX12_takesOut_65 : decode cX12_takesOut 65 = .ok (.iload 4, 2) := fp_hdX12_takesOut_47.1.1.2.2.2
theorem dX12_takesOut_67 : decode cX12_takesOut 67 = .ok (.iconst 2, 1) := fp_hdX12_takesOut_47.1.2.1.1.1.1
theorem dX12_takesOut_68 : decode cX12_takesOut 68 = .ok (.iadd, 1) := fp_hdX12_takesOut_47.1.2.1.1.1.2
theorem dX12_takesOut_69 : decode cX12_takesOut 69 = .ok (.iload 6, 2) := fp_hdX12_takesOut_47.1.2.1.1.2
theorem dX12_takesOut_71 : decode cX12_takesOut 71 = .ok (.iadd, 1) := fp_hdX12_takesOut_47.1.2.1.2.1
theorem dX12_takesOut_72 : decode cX12_takesOut 72 = .ok (.iaload, 1) := fp_hdX12_takesOut_47.1.2.1.2.2
theorem dX12_takesOut_73 : decode cX12_takesOut 73 = .ok (.iastore, 1) := fp_hdX12_takesOut_47.1.2.2.1.1.1
theorem dX12_takesOut_74 : decode cX12_takesOut 74 = .ok (.iinc 6 1, 3) := fp_hdX12_takesOut_47.1.2.2.1.1.2
theorem dX12_takesOut_77 : decode cX12_takesOut 77 = .ok (.goto (-39), 3) := fp_hdX12_takesOut_47.1.2.2.1.2
theorem dX12_takesOut_80 : decode cX12_takesOut 80 = .ok (.iload 5, 2) := fp_hdX12_takesOut_47.1.2.2.2.1
theorem dX12_takesOut_82 : decode cX12_takesOut 82 = .ok (.ireturn, 1) := fp_hdX12_takesOut_47.1.2.2.2.2
def fp_scX12_puts_1 : List Nat := 96 :: 79 :: 42 :: 180 :: 0 :: 7 :: 27 :: 16 :: 37 :: 96 :: 29 :: 96 :: 28 :: 79 :: 4 :: 172 :: []
def fp_scX12_puts_0 : List Nat := 42 :: 180 :: 0 :: 7 :: 27 :: 29 :: 96 :: 46 :: 28 :: 160 :: 0 :: 15 :: 42 :: 27 :: 21 :: 4 :: 182 :: 0 :: 198 :: 16 :: 8 :: 160 :: 0 :: 5 :: 3 :: 172 :: 42 :: 27 :: 29 :: 21 :: 4 :: 42 :: 27 :: 21 :: 4 :: 182 :: 0 :: 198 :: 182 :: 0 :: 237 :: 42 :: 180 :: 0 :: 7 :: 27 :: 29 :: 96 :: 16 :: 10 :: 21 :: 4 :: fp_scX12_puts_1
theorem fp_bcX12_puts : bA cX12_puts 0 fp_scX12_puts_0 := show cX12_puts.data.toList.map UInt8.toNat = fp_scX12_puts_0 from by decide +kernel
theorem fp_hdX12_puts_0 : (((((decode cX12_puts 0 = .ok (.aload_n 0, 1) ∧ decode cX12_puts 1 = .ok (.getfield 7, 3)) ∧ (decode cX12_puts 4 = .ok (.iload_n 1, 1) ∧ decode cX12_puts 5 = .ok (.iload_n 3, 1))) ∧ ((decode cX12_puts 6 = .ok (.iadd, 1) ∧ decode cX12_puts 7 = .ok (.iaload, 1)) ∧ (decode cX12_puts 8 = .ok (.iload_n 2, 1) ∧ decode cX12_puts 9 = .ok (.if_icmp .ne 15, 3)))) ∧ (((decode cX12_puts 12 = .ok (.aload_n 0, 1) ∧ decode cX12_puts 13 = .ok (.iload_n 1, 1)) ∧ (decode cX12_puts 14 = .ok (.iload 4, 2) ∧ decode cX12_puts 16 = .ok (.invokevirtual 198, 3))) ∧ ((decode cX12_puts 19 = .ok (.bipush 8, 2) ∧ decode cX12_puts 21 = .ok (.if_icmp .ne 5, 3)) ∧ (decode cX12_puts 24 = .ok (.iconst 0, 1) ∧ decode cX12_puts 25 = .ok (.ireturn, 1))))) ∧ ((((decode cX12_puts 26 = .ok (.aload_n 0, 1) ∧ decode cX12_puts 27 = .ok (.iload_n 1, 1)) ∧ (decode cX12_puts 28 = .ok (.iload_n 3, 1) ∧ decode cX12_puts 29 = .ok (.iload 4, 2))) ∧ ((decode cX12_puts 31 = .ok (.aload_n 0, 1) ∧ decode cX12_puts 32 = .ok (.iload_n 1, 1)) ∧ (decode cX12_puts 33 = .ok (.iload 4, 2) ∧ decode cX12_puts 35 = .ok (.invokevirtual 198, 3)))) ∧ (((decode cX12_puts 38 = .ok (.invokevirtual 237, 3) ∧ decode cX12_puts 41 = .ok (.aload_n 0, 1)) ∧ (decode cX12_puts 42 = .ok (.getfield 7, 3) ∧ decode cX12_puts 45 = .ok (.iload_n 1, 1))) ∧ ((decode cX12_puts 46 = .ok (.iload_n 3, 1) ∧ decode cX12_puts 47 = .ok (.iadd, 1)) ∧ (decode cX12_puts 48 = .ok (.bipush 10, 2) ∧ decode cX12_puts 50 = .ok (.iload 4, 2)))))) ∧ bA cX12_puts 52 fp_scX12_puts_1 :=
  have q0 := fp_o42 fp_bcX12_puts
  have q1 := fp_o180 (v := 7) q0.2 rfl
  have q2 := fp_o27 q1.2
  have q3 := fp_o29 q2.2
  have q4 := fp_o96 q3.2
  have q5 := fp_o46 q4.2
  have q6 := fp_o28 q5.2
  have q7 := fp_o160 (v := 15) q6.2 rfl
  have q8 := fp_o42 q7.2
  have q9 := fp_o27 q8.2
  have q10 := fp_o21 q9.2
  have q11 := fp_o182 (v := 198) q10.2 rfl
  have q12 := fp_o16 (v := 8) q11.2 rfl
  have q13 := fp_o160 (v := 5) q12.2 rfl
  have q14 := fp_o3 q13.2
  have q15 := fp_o172 q14.2
  have q16 := fp_o42 q15.2
  have q17 := fp_o27 q16.2
  have q18 := fp_o29 q17.2
  have q19 := fp_o21 q18.2
  have q20 := fp_o42 q19.2
  have q21 := fp_o27 q20.2
  have q22 := fp_o21 q21.2
  have q23 := fp_o182 (v := 198) q22.2 rfl
  have q24 := fp_o182 (v := 237) q23.2 rfl
  have q25 := fp_o42 q24.2
  have q26 := fp_o180 (v := 7) q25.2 rfl
  have q27 := fp_o27 q26.2
  have q28 := fp_o29 q27.2
  have q29 := fp_o96 q28.2
  have q30 := fp_o16 (v := 10) q29.2 rfl
  have q31 := fp_o21 q30.2
  ⟨⟨⟨⟨⟨⟨q0.1, q1.1⟩, ⟨q2.1, q3.1⟩⟩, ⟨⟨q4.1, q5.1⟩, ⟨q6.1, q7.1⟩⟩⟩, ⟨⟨⟨q8.1, q9.1⟩, ⟨q10.1, q11.1⟩⟩, ⟨⟨q12.1, q13.1⟩, ⟨q14.1, q15.1⟩⟩⟩⟩, ⟨⟨⟨⟨q16.1, q17.1⟩, ⟨q18.1, q19.1⟩⟩, ⟨⟨q20.1, q21.1⟩, ⟨q22.1, q23.1⟩⟩⟩, ⟨⟨⟨q24.1, q25.1⟩, ⟨q26.1, q27.1⟩⟩, ⟨⟨q28.1, q29.1⟩, ⟨q30.1, q31.1⟩⟩⟩⟩⟩, q31.2⟩
theorem dX12_puts_0 : decode cX12_puts 0 = .ok (.aload_n 0, 1) := fp_hdX12_puts_0.1.1.1.1.1.1
theorem dX12_puts_1 : decode cX12_puts 1 = .ok (.getfield 7, 3) := fp_hdX12_puts_0.1.1.1.1.1.2
theorem dX12_puts_4 : decode cX12_puts 4 = .ok (.iload_n 1, 1) := fp_hdX12_puts_0.1.1.1.1.2.1
theorem dX12_puts_5 : decode cX12_puts 5 = .ok (.iload_n 3, 1) := fp_hdX12_puts_0.1.1.1.1.2.2
theorem dX12_puts_6 : decode cX12_puts 6 = .ok (.iadd, 1) := fp_hdX12_puts_0.1.1.1.2.1.1
theorem dX12_puts_7 : decode cX12_puts 7 = .ok (.iaload, 1) := fp_hdX12_puts_0.1.1.1.2.1.2
theorem dX12_puts_8 : decode cX12_puts 8 = .ok (.iload_n 2, 1) := fp_hdX12_puts_0.1.1.1.2.2.1
theorem dX12_puts_9 : decode cX12_puts 9 = .ok (.if_icmp .ne 15, 3) := fp_hdX12_puts_0.1.1.1.2.2.2
theorem dX12_puts_12 : decode cX12_puts 12 = .ok (.aload_n 0, 1) := fp_hdX12_puts_0.1.1.2.1.1.1
theorem dX12_puts_13 : decode cX12_puts 13 = .ok (.iload_n 1, 1) := fp_hdX12_puts_0.1.1.2.1.1.2
theorem dX12_puts_14 : decode cX12_puts 14 = .ok (.iload 4, 2) := fp_hdX12_puts_0.1.1.2.1.2.1
theorem dX12_puts_16 : decode cX12_puts 16 = .ok (.invokevirtual 198, 3) := fp_hdX12_puts_0.1.1.2.1.2.2
theorem dX12_puts_19 : decode cX12_puts 19 = .ok (.bipush 8, 2) := fp_hdX12_puts_0.1.1.2.2.1.1
theorem dX12_puts_21 : decode cX12_puts 21 = .ok (.if_icmp .ne 5, 3) := fp_hdX12_puts_0.1.1.2.2.1.2
theorem dX12_puts_24 : decode cX12_puts 24 = .ok (.iconst 0, 1) := fp_hdX12_puts_0.1.1.2.2.2.1
theorem dX12_puts_25 : decode cX12_puts 25 = .ok (.ireturn, 1) := fp_hdX12_puts_0.1.1.2.2.2.2
theorem dX12_puts_26 : decode cX12_puts 26 = .ok (.aload_n 0, 1) := fp_hdX12_puts_0.1.2.1.1.1.1
theorem dX12_puts_27 : decode cX12_puts 27 = .ok (.iload_n 1, 1) := fp_hdX12_puts_0.1.2.1.1.1.2
theorem dX12_puts_28 : decode cX12_puts 28 = .ok (.iload_n 3, 1) := fp_hdX12_puts_0.1.2.1.1.2.1
theorem dX12_puts_29 : decode cX12_puts 29 = .ok (.iload 4, 2) := fp_hdX12_puts_0.1.2.1.1.2.2
theorem dX12_puts_31 : decode cX12_puts 31 = .ok (.aload_n 0, 1) := fp_hdX12_puts_0.1.2.1.2.1.1
theorem dX12_puts_32 : decode cX12_puts 32 = .ok (.iload_n 1, 1) := fp_hdX12_puts_0.1.2.1.2.1.2
theorem dX12_puts_33 : decode cX12_puts 33 = .ok (.iload 4, 2) := fp_hdX12_puts_0.1.2.1.2.2.1
theorem dX12_puts_35 : decode cX12_puts 35 = .ok (.invokevirtual 198, 3) := fp_hdX12_puts_0.1.2.1.2.2.2
theorem dX12_puts_38 : decode cX12_puts 38 = .ok (.invokevirtual 237, 3) := fp_hdX12_puts_0.1.2.2.1.1.1
theorem dX12_puts_41 : decode cX12_puts 41 = .ok (.aload_n 0, 1) := fp_hdX12_puts_0.1.2.2.1.1.2
theorem dX12_puts_42 : decode cX12_puts 42 = .ok (.getfield 7, 3) := fp_hdX12_puts_0.1.2.2.1.2.1
theorem dX12_puts_45 : decode cX12_puts 45 = .ok (.iload_n 1, 1) := fp_hdX12_puts_0.1.2.2.1.2.2
theorem dX12_puts_46 : decode cX12_puts 46 = .ok (.iload_n 3, 1) := fp_hdX12_puts_0.1.2.2.2.1.1
theorem dX12_puts_47 : decode cX12_puts 47 = .ok (.iadd, 1) := fp_hdX12_puts_0.1.2.2.2.1.2
theorem dX12_puts_48 : decode cX12_puts 48 = .ok (.bipush 10, 2) := fp_hdX12_puts_0.1.2.2.2.2.1
theorem dX12_puts_50 : decode cX12_puts 50 = .ok (.iload 4, 2) := fp_hdX12_puts_0.1.2.2.2.2.2
theorem fp_hdX12_puts_52 : ((((decode cX12_puts 52 = .ok (.iadd, 1) ∧ decode cX12_puts 53 = .ok (.iastore, 1)) ∧ (decode cX12_puts 54 = .ok (.aload_n 0, 1) ∧ decode cX12_puts 55 = .ok (.getfield 7, 3))) ∧ ((decode cX12_puts 58 = .ok (.iload_n 1, 1) ∧ decode cX12_puts 59 = .ok (.bipush 37, 2)) ∧ decode cX12_puts 61 = .ok (.iadd, 1))) ∧ (((decode cX12_puts 62 = .ok (.iload_n 3, 1) ∧ decode cX12_puts 63 = .ok (.iadd, 1)) ∧ decode cX12_puts 64 = .ok (.iload_n 2, 1)) ∧ ((decode cX12_puts 65 = .ok (.iastore, 1) ∧ decode cX12_puts 66 = .ok (.iconst 1, 1)) ∧ decode cX12_puts 67 = .ok (.ireturn, 1)))) ∧ bA cX12_puts 68 [] :=
  have q0 := fp_o96 fp_hdX12_puts_0.2
  have q1 := fp_o79 q0.2
  have q2 := fp_o42 q1.2
  have q3 := fp_o180 (v := 7) q2.2 rfl
  have q4 := fp_o27 q3.2
  have q5 := fp_o16 (v := 37) q4.2 rfl
  have q6 := fp_o96 q5.2
  have q7 := fp_o29 q6.2
  have q8 := fp_o96 q7.2
  have q9 := fp_o28 q8.2
  have q10 := fp_o79 q9.2
  have q11 := fp_o4 q10.2
  have q12 := fp_o172 q11.2
  ⟨⟨⟨⟨⟨q0.1, q1.1⟩, ⟨q2.1, q3.1⟩⟩, ⟨⟨q4.1, q5.1⟩, q6.1⟩⟩, ⟨⟨⟨q7.1, q8.1⟩, q9.1⟩, ⟨⟨q10.1, q11.1⟩, q12.1⟩⟩⟩, q12.2⟩
theorem dX12_puts_52 : decode cX12_puts 52 = .ok (.iadd, 1) := fp_hdX12_puts_52.1.1.1.1.1
theorem dX12_puts_53 : decode cX12_puts 53 = .ok (.iastore, 1) := fp_hdX12_puts_52.1.1.1.1.2
theorem dX12_puts_54 : decode cX12_puts 54 = .ok (.aload_n 0, 1) := fp_hdX12_puts_52.1.1.1.2.1
theorem dX12_puts_55 : decode cX12_puts 55 = .ok (.getfield 7, 3) := fp_hdX12_puts_52.1.1.1.2.2
theorem dX12_puts_58 : decode cX12_puts 58 = .ok (.iload_n 1, 1) := fp_hdX12_puts_52.1.1.2.1.1
theorem dX12_puts_59 : decode cX12_puts 59 = .ok (.bipush 37, 2) := fp_hdX12_puts_52.1.1.2.1.2
theorem dX12_puts_61 : decode cX12_puts 61 = .ok (.iadd, 1) := fp_hdX12_puts_52.1.1.2.2
theorem dX12_puts_62 : decode cX12_puts 62 = .ok (.iload_n 3, 1) := fp_hdX12_puts_52.1.2.1.1.1
theorem dX12_puts_63 : decode cX12_puts 63 = .ok (.iadd, 1) := fp_hdX12_puts_52.1.2.1.1.2
theorem dX12_puts_64 : decode cX12_puts 64 = .ok (.iload_n 2, 1) := fp_hdX12_puts_52.1.2.1.2
theorem dX12_puts_65 : decode cX12_puts 65 = .ok (.iastore, 1) := fp_hdX12_puts_52.1.2.2.1.1
theorem dX12_puts_66 : decode cX12_puts 66 = .ok (.iconst 1, 1) := fp_hdX12_puts_52.1.2.2.1.2
theorem dX12_puts_67 : decode cX12_puts 67 = .ok (.ireturn, 1) := fp_hdX12_puts_52.1.2.2.2
def fp_scX12_draws_0 : List Nat := 42 :: 27 :: 29 :: 182 :: 0 :: 216 :: 54 :: 4 :: 21 :: 4 :: 16 :: 252 :: 160 :: 0 :: 6 :: 16 :: 252 :: 172 :: 42 :: 27 :: 29 :: 21 :: 4 :: 182 :: 0 :: 241 :: 54 :: 5 :: 42 :: 180 :: 0 :: 7 :: 27 :: 21 :: 5 :: 96 :: 28 :: 79 :: 21 :: 5 :: 172 :: []
theorem fp_bcX12_draws : bA cX12_draws 0 fp_scX12_draws_0 := show cX12_draws.data.toList.map UInt8.toNat = fp_scX12_draws_0 from by decide +kernel
theorem fp_hdX12_draws_0 : (((((decode cX12_draws 0 = .ok (.aload_n 0, 1) ∧ decode cX12_draws 1 = .ok (.iload_n 1, 1)) ∧ (decode cX12_draws 2 = .ok (.iload_n 3, 1) ∧ decode cX12_draws 3 = .ok (.invokevirtual 216, 3))) ∧ ((decode cX12_draws 6 = .ok (.istore 4, 2) ∧ decode cX12_draws 8 = .ok (.iload 4, 2)) ∧ decode cX12_draws 10 = .ok (.bipush (-4), 2))) ∧ (((decode cX12_draws 12 = .ok (.if_icmp .ne 6, 3) ∧ decode cX12_draws 15 = .ok (.bipush (-4), 2)) ∧ decode cX12_draws 17 = .ok (.ireturn, 1)) ∧ ((decode cX12_draws 18 = .ok (.aload_n 0, 1) ∧ decode cX12_draws 19 = .ok (.iload_n 1, 1)) ∧ decode cX12_draws 20 = .ok (.iload_n 3, 1)))) ∧ ((((decode cX12_draws 21 = .ok (.iload 4, 2) ∧ decode cX12_draws 23 = .ok (.invokevirtual 241, 3)) ∧ decode cX12_draws 26 = .ok (.istore 5, 2)) ∧ ((decode cX12_draws 28 = .ok (.aload_n 0, 1) ∧ decode cX12_draws 29 = .ok (.getfield 7, 3)) ∧ decode cX12_draws 32 = .ok (.iload_n 1, 1))) ∧ (((decode cX12_draws 33 = .ok (.iload 5, 2) ∧ decode cX12_draws 35 = .ok (.iadd, 1)) ∧ decode cX12_draws 36 = .ok (.iload_n 2, 1)) ∧ ((decode cX12_draws 37 = .ok (.iastore, 1) ∧ decode cX12_draws 38 = .ok (.iload 5, 2)) ∧ decode cX12_draws 40 = .ok (.ireturn, 1))))) ∧ bA cX12_draws 41 [] :=
  have q0 := fp_o42 fp_bcX12_draws
  have q1 := fp_o27 q0.2
  have q2 := fp_o29 q1.2
  have q3 := fp_o182 (v := 216) q2.2 rfl
  have q4 := fp_o54 q3.2
  have q5 := fp_o21 q4.2
  have q6 := fp_o16 (v := (-4)) q5.2 rfl
  have q7 := fp_o160 (v := 6) q6.2 rfl
  have q8 := fp_o16 (v := (-4)) q7.2 rfl
  have q9 := fp_o172 q8.2
  have q10 := fp_o42 q9.2
  have q11 := fp_o27 q10.2
  have q12 := fp_o29 q11.2
  have q13 := fp_o21 q12.2
  have q14 := fp_o182 (v := 241) q13.2 rfl
  have q15 := fp_o54 q14.2
  have q16 := fp_o42 q15.2
  have q17 := fp_o180 (v := 7) q16.2 rfl
  have q18 := fp_o27 q17.2
  have q19 := fp_o21 q18.2
  have q20 := fp_o96 q19.2
  have q21 := fp_o28 q20.2
  have q22 := fp_o79 q21.2
  have q23 := fp_o21 q22.2
  have q24 := fp_o172 q23.2
  ⟨⟨⟨⟨⟨⟨q0.1, q1.1⟩, ⟨q2.1, q3.1⟩⟩, ⟨⟨q4.1, q5.1⟩, q6.1⟩⟩, ⟨⟨⟨q7.1, q8.1⟩, q9.1⟩, ⟨⟨q10.1, q11.1⟩, q12.1⟩⟩⟩, ⟨⟨⟨⟨q13.1, q14.1⟩, q15.1⟩, ⟨⟨q16.1, q17.1⟩, q18.1⟩⟩, ⟨⟨⟨q19.1, q20.1⟩, q21.1⟩, ⟨⟨q22.1, q23.1⟩, q24.1⟩⟩⟩⟩, q24.2⟩
theorem dX12_draws_0 : decode cX12_draws 0 = .ok (.aload_n 0, 1) := fp_hdX12_draws_0.1.1.1.1.1.1
theorem dX12_draws_1 : decode cX12_draws 1 = .ok (.iload_n 1, 1) := fp_hdX12_draws_0.1.1.1.1.1.2
theorem dX12_draws_2 : decode cX12_draws 2 = .ok (.iload_n 3, 1) := fp_hdX12_draws_0.1.1.1.1.2.1
theorem dX12_draws_3 : decode cX12_draws 3 = .ok (.invokevirtual 216, 3) := fp_hdX12_draws_0.1.1.1.1.2.2
theorem dX12_draws_6 : decode cX12_draws 6 = .ok (.istore 4, 2) := fp_hdX12_draws_0.1.1.1.2.1.1
theorem dX12_draws_8 : decode cX12_draws 8 = .ok (.iload 4, 2) := fp_hdX12_draws_0.1.1.1.2.1.2
theorem dX12_draws_10 : decode cX12_draws 10 = .ok (.bipush (-4), 2) := fp_hdX12_draws_0.1.1.1.2.2
theorem dX12_draws_12 : decode cX12_draws 12 = .ok (.if_icmp .ne 6, 3) := fp_hdX12_draws_0.1.1.2.1.1.1
theorem dX12_draws_15 : decode cX12_draws 15 = .ok (.bipush (-4), 2) := fp_hdX12_draws_0.1.1.2.1.1.2
theorem dX12_draws_17 : decode cX12_draws 17 = .ok (.ireturn, 1) := fp_hdX12_draws_0.1.1.2.1.2
theorem dX12_draws_18 : decode cX12_draws 18 = .ok (.aload_n 0, 1) := fp_hdX12_draws_0.1.1.2.2.1.1
theorem dX12_draws_19 : decode cX12_draws 19 = .ok (.iload_n 1, 1) := fp_hdX12_draws_0.1.1.2.2.1.2
theorem dX12_draws_20 : decode cX12_draws 20 = .ok (.iload_n 3, 1) := fp_hdX12_draws_0.1.1.2.2.2
theorem dX12_draws_21 : decode cX12_draws 21 = .ok (.iload 4, 2) := fp_hdX12_draws_0.1.2.1.1.1.1
theorem dX12_draws_23 : decode cX12_draws 23 = .ok (.invokevirtual 241, 3) := fp_hdX12_draws_0.1.2.1.1.1.2
theorem dX12_draws_26 : decode cX12_draws 26 = .ok (.istore 5, 2) := fp_hdX12_draws_0.1.2.1.1.2
theorem dX12_draws_28 : decode cX12_draws 28 = .ok (.aload_n 0, 1) := fp_hdX12_draws_0.1.2.1.2.1.1
theorem dX12_draws_29 : decode cX12_draws 29 = .ok (.getfield 7, 3) := fp_hdX12_draws_0.1.2.1.2.1.2
theorem dX12_draws_32 : decode cX12_draws 32 = .ok (.iload_n 1, 1) := fp_hdX12_draws_0.1.2.1.2.2
theorem dX12_draws_33 : decode cX12_draws 33 = .ok (.iload 5, 2) := fp_hdX12_draws_0.1.2.2.1.1.1
theorem dX12_draws_35 : decode cX12_draws 35 = .ok (.iadd, 1) := fp_hdX12_draws_0.1.2.2.1.1.2
theorem dX12_draws_36 : decode cX12_draws 36 = .ok (.iload_n 2, 1) := fp_hdX12_draws_0.1.2.2.1.2
theorem dX12_draws_37 : decode cX12_draws 37 = .ok (.iastore, 1) := fp_hdX12_draws_0.1.2.2.2.1.1
theorem dX12_draws_38 : decode cX12_draws 38 = .ok (.iload 5, 2) := fp_hdX12_draws_0.1.2.2.2.1.2
theorem dX12_draws_40 : decode cX12_draws 40 = .ok (.ireturn, 1) := fp_hdX12_draws_0.1.2.2.2.2
def fp_scX12_put_1 : List Nat := 4 :: 100 :: 167 :: 0 :: 5 :: 16 :: 253 :: 172 :: []
def fp_scX12_put_0 : List Nat := 27 :: 184 :: 0 :: 228 :: 153 :: 0 :: 19 :: 42 :: 28 :: 182 :: 0 :: 205 :: 153 :: 0 :: 11 :: 42 :: 29 :: 182 :: 0 :: 219 :: 154 :: 0 :: 5 :: 2 :: 172 :: 42 :: 180 :: 0 :: 7 :: 28 :: 46 :: 27 :: 159 :: 0 :: 6 :: 16 :: 254 :: 172 :: 42 :: 3 :: 27 :: 28 :: 29 :: 182 :: 0 :: 244 :: 153 :: 0 :: 14 :: 42 :: 3 :: 29 :: 182 :: 0 :: 198 :: fp_scX12_put_1
theorem fp_bcX12_put : bA cX12_put 0 fp_scX12_put_0 := show cX12_put.data.toList.map UInt8.toNat = fp_scX12_put_0 from by decide +kernel
theorem fp_hdX12_put_0 : (((((decode cX12_put 0 = .ok (.iload_n 1, 1) ∧ decode cX12_put 1 = .ok (.invokestatic 228, 3)) ∧ (decode cX12_put 4 = .ok (.ifCond .eq 19, 3) ∧ decode cX12_put 7 = .ok (.aload_n 0, 1))) ∧ ((decode cX12_put 8 = .ok (.iload_n 2, 1) ∧ decode cX12_put 9 = .ok (.invokevirtual 205, 3)) ∧ (decode cX12_put 12 = .ok (.ifCond .eq 11, 3) ∧ decode cX12_put 15 = .ok (.aload_n 0, 1)))) ∧ (((decode cX12_put 16 = .ok (.iload_n 3, 1) ∧ decode cX12_put 17 = .ok (.invokevirtual 219, 3)) ∧ (decode cX12_put 20 = .ok (.ifCond .ne 5, 3) ∧ decode cX12_put 23 = .ok (.iconst (-1), 1))) ∧ ((decode cX12_put 24 = .ok (.ireturn, 1) ∧ decode cX12_put 25 = .ok (.aload_n 0, 1)) ∧ (decode cX12_put 26 = .ok (.getfield 7, 3) ∧ decode cX12_put 29 = .ok (.iload_n 2, 1))))) ∧ ((((decode cX12_put 30 = .ok (.iaload, 1) ∧ decode cX12_put 31 = .ok (.iload_n 1, 1)) ∧ (decode cX12_put 32 = .ok (.if_icmp .eq 6, 3) ∧ decode cX12_put 35 = .ok (.bipush (-2), 2))) ∧ ((decode cX12_put 37 = .ok (.ireturn, 1) ∧ decode cX12_put 38 = .ok (.aload_n 0, 1)) ∧ (decode cX12_put 39 = .ok (.iconst 0, 1) ∧ decode cX12_put 40 = .ok (.iload_n 1, 1)))) ∧ (((decode cX12_put 41 = .ok (.iload_n 2, 1) ∧ decode cX12_put 42 = .ok (.iload_n 3, 1)) ∧ (decode cX12_put 43 = .ok (.invokevirtual 244, 3) ∧ decode cX12_put 46 = .ok (.ifCond .eq 14, 3))) ∧ ((decode cX12_put 49 = .ok (.aload_n 0, 1) ∧ decode cX12_put 50 = .ok (.iconst 0, 1)) ∧ (decode cX12_put 51 = .ok (.iload_n 3, 1) ∧ decode cX12_put 52 = .ok (.invokevirtual 198, 3)))))) ∧ bA cX12_put 55 fp_scX12_put_1 :=
  have q0 := fp_o27 fp_bcX12_put
  have q1 := fp_o184 (v := 228) q0.2 rfl
  have q2 := fp_o153 (v := 19) q1.2 rfl
  have q3 := fp_o42 q2.2
  have q4 := fp_o28 q3.2
  have q5 := fp_o182 (v := 205) q4.2 rfl
  have q6 := fp_o153 (v := 11) q5.2 rfl
  have q7 := fp_o42 q6.2
  have q8 := fp_o29 q7.2
  have q9 := fp_o182 (v := 219) q8.2 rfl
  have q10 := fp_o154 (v := 5) q9.2 rfl
  have q11 := fp_o2 q10.2
  have q12 := fp_o172 q11.2
  have q13 := fp_o42 q12.2
  have q14 := fp_o180 (v := 7) q13.2 rfl
  have q15 := fp_o28 q14.2
  have q16 := fp_o46 q15.2
  have q17 := fp_o27 q16.2
  have q18 := fp_o159 (v := 6) q17.2 rfl
  have q19 := fp_o16 (v := (-2)) q18.2 rfl
  have q20 := fp_o172 q19.2
  have q21 := fp_o42 q20.2
  have q22 := fp_o3 q21.2
  have q23 := fp_o27 q22.2
  have q24 := fp_o28 q23.2
  have q25 := fp_o29 q24.2
  have q26 := fp_o182 (v := 244) q25.2 rfl
  have q27 := fp_o153 (v := 14) q26.2 rfl
  have q28 := fp_o42 q27.2
  have q29 := fp_o3 q28.2
  have q30 := fp_o29 q29.2
  have q31 := fp_o182 (v := 198) q30.2 rfl
  ⟨⟨⟨⟨⟨⟨q0.1, q1.1⟩, ⟨q2.1, q3.1⟩⟩, ⟨⟨q4.1, q5.1⟩, ⟨q6.1, q7.1⟩⟩⟩, ⟨⟨⟨q8.1, q9.1⟩, ⟨q10.1, q11.1⟩⟩, ⟨⟨q12.1, q13.1⟩, ⟨q14.1, q15.1⟩⟩⟩⟩, ⟨⟨⟨⟨q16.1, q17.1⟩, ⟨q18.1, q19.1⟩⟩, ⟨⟨q20.1, q21.1⟩, ⟨q22.1, q23.1⟩⟩⟩, ⟨⟨⟨q24.1, q25.1⟩, ⟨q26.1, q27.1⟩⟩, ⟨⟨q28.1, q29.1⟩, ⟨q30.1, q31.1⟩⟩⟩⟩⟩, q31.2⟩
theorem dX12_put_0 : decode cX12_put 0 = .ok (.iload_n 1, 1) := fp_hdX12_put_0.1.1.1.1.1.1
theorem dX12_put_1 : decode cX12_put 1 = .ok (.invokestatic 228, 3) := fp_hdX12_put_0.1.1.1.1.1.2
theorem dX12_put_4 : decode cX12_put 4 = .ok (.ifCond .eq 19, 3) := fp_hdX12_put_0.1.1.1.1.2.1
theorem dX12_put_7 : decode cX12_put 7 = .ok (.aload_n 0, 1) := fp_hdX12_put_0.1.1.1.1.2.2
theorem dX12_put_8 : decode cX12_put 8 = .ok (.iload_n 2, 1) := fp_hdX12_put_0.1.1.1.2.1.1
theorem dX12_put_9 : decode cX12_put 9 = .ok (.invokevirtual 205, 3) := fp_hdX12_put_0.1.1.1.2.1.2
theorem dX12_put_12 : decode cX12_put 12 = .ok (.ifCond .eq 11, 3) := fp_hdX12_put_0.1.1.1.2.2.1
theorem dX12_put_15 : decode cX12_put 15 = .ok (.aload_n 0, 1) := fp_hdX12_put_0.1.1.1.2.2.2
theorem dX12_put_16 : decode cX12_put 16 = .ok (.iload_n 3, 1) := fp_hdX12_put_0.1.1.2.1.1.1
theorem dX12_put_17 : decode cX12_put 17 = .ok (.invokevirtual 219, 3) := fp_hdX12_put_0.1.1.2.1.1.2
theorem dX12_put_20 : decode cX12_put 20 = .ok (.ifCond .ne 5, 3) := fp_hdX12_put_0.1.1.2.1.2.1
theorem dX12_put_23 : decode cX12_put 23 = .ok (.iconst (-1), 1) := fp_hdX12_put_0.1.1.2.1.2.2
theorem dX12_put_24 : decode cX12_put 24 = .ok (.ireturn, 1) := fp_hdX12_put_0.1.1.2.2.1.1
theorem dX12_put_25 : decode cX12_put 25 = .ok (.aload_n 0, 1) := fp_hdX12_put_0.1.1.2.2.1.2
theorem dX12_put_26 : decode cX12_put 26 = .ok (.getfield 7, 3) := fp_hdX12_put_0.1.1.2.2.2.1
theorem dX12_put_29 : decode cX12_put 29 = .ok (.iload_n 2, 1) := fp_hdX12_put_0.1.1.2.2.2.2
theorem dX12_put_30 : decode cX12_put 30 = .ok (.iaload, 1) := fp_hdX12_put_0.1.2.1.1.1.1
theorem dX12_put_31 : decode cX12_put 31 = .ok (.iload_n 1, 1) := fp_hdX12_put_0.1.2.1.1.1.2
theorem dX12_put_32 : decode cX12_put 32 = .ok (.if_icmp .eq 6, 3) := fp_hdX12_put_0.1.2.1.1.2.1
theorem dX12_put_35 : decode cX12_put 35 = .ok (.bipush (-2), 2) := fp_hdX12_put_0.1.2.1.1.2.2
theorem dX12_put_37 : decode cX12_put 37 = .ok (.ireturn, 1) := fp_hdX12_put_0.1.2.1.2.1.1
theorem dX12_put_38 : decode cX12_put 38 = .ok (.aload_n 0, 1) := fp_hdX12_put_0.1.2.1.2.1.2
theorem dX12_put_39 : decode cX12_put 39 = .ok (.iconst 0, 1) := fp_hdX12_put_0.1.2.1.2.2.1
theorem dX12_put_40 : decode cX12_put 40 = .ok (.iload_n 1, 1) := fp_hdX12_put_0.1.2.1.2.2.2
theorem dX12_put_41 : decode cX12_put 41 = .ok (.iload_n 2, 1) := fp_hdX12_put_0.1.2.2.1.1.1
theorem dX12_put_42 : decode cX12_put 42 = .ok (.iload_n 3, 1) := fp_hdX12_put_0.1.2.2.1.1.2
theorem dX12_put_43 : decode cX12_put 43 = .ok (.invokevirtual 244, 3) := fp_hdX12_put_0.1.2.2.1.2.1
theorem dX12_put_46 : decode cX12_put 46 = .ok (.ifCond .eq 14, 3) := fp_hdX12_put_0.1.2.2.1.2.2
theorem dX12_put_49 : decode cX12_put 49 = .ok (.aload_n 0, 1) := fp_hdX12_put_0.1.2.2.2.1.1
theorem dX12_put_50 : decode cX12_put 50 = .ok (.iconst 0, 1) := fp_hdX12_put_0.1.2.2.2.1.2
theorem dX12_put_51 : decode cX12_put 51 = .ok (.iload_n 3, 1) := fp_hdX12_put_0.1.2.2.2.2.1
theorem dX12_put_52 : decode cX12_put 52 = .ok (.invokevirtual 198, 3) := fp_hdX12_put_0.1.2.2.2.2.2
theorem fp_hdX12_put_55 : (((decode cX12_put 55 = .ok (.iconst 1, 1) ∧ decode cX12_put 56 = .ok (.isub, 1)) ∧ decode cX12_put 57 = .ok (.goto 5, 3)) ∧ (decode cX12_put 60 = .ok (.bipush (-3), 2) ∧ decode cX12_put 62 = .ok (.ireturn, 1))) ∧ bA cX12_put 63 [] :=
  have q0 := fp_o4 fp_hdX12_put_0.2
  have q1 := fp_o100 q0.2
  have q2 := fp_o167 (v := 5) q1.2 rfl
  have q3 := fp_o16 (v := (-3)) q2.2 rfl
  have q4 := fp_o172 q3.2
  ⟨⟨⟨⟨q0.1, q1.1⟩, q2.1⟩, ⟨q3.1, q4.1⟩⟩, q4.2⟩
theorem dX12_put_55 : decode cX12_put 55 = .ok (.iconst 1, 1) := fp_hdX12_put_55.1.1.1.1
theorem dX12_put_56 : decode cX12_put 56 = .ok (.isub, 1) := fp_hdX12_put_55.1.1.1.2
theorem dX12_put_57 : decode cX12_put 57 = .ok (.goto 5, 3) := fp_hdX12_put_55.1.1.2
theorem dX12_put_60 : decode cX12_put 60 = .ok (.bipush (-3), 2) := fp_hdX12_put_55.1.2.1
theorem dX12_put_62 : decode cX12_put 62 = .ok (.ireturn, 1) := fp_hdX12_put_55.1.2.2
def fp_scX12_draw_0 : List Nat := 27 :: 184 :: 0 :: 228 :: 153 :: 0 :: 21 :: 42 :: 28 :: 182 :: 0 :: 219 :: 153 :: 0 :: 13 :: 42 :: 3 :: 27 :: 28 :: 182 :: 0 :: 248 :: 167 :: 0 :: 4 :: 2 :: 172 :: []
theorem fp_bcX12_draw : bA cX12_draw 0 fp_scX12_draw_0 := show cX12_draw.data.toList.map UInt8.toNat = fp_scX12_draw_0 from by decide +kernel
theorem fp_hdX12_draw_0 : ((((decode cX12_draw 0 = .ok (.iload_n 1, 1) ∧ decode cX12_draw 1 = .ok (.invokestatic 228, 3)) ∧ (decode cX12_draw 4 = .ok (.ifCond .eq 21, 3) ∧ decode cX12_draw 7 = .ok (.aload_n 0, 1))) ∧ ((decode cX12_draw 8 = .ok (.iload_n 2, 1) ∧ decode cX12_draw 9 = .ok (.invokevirtual 219, 3)) ∧ (decode cX12_draw 12 = .ok (.ifCond .eq 13, 3) ∧ decode cX12_draw 15 = .ok (.aload_n 0, 1)))) ∧ (((decode cX12_draw 16 = .ok (.iconst 0, 1) ∧ decode cX12_draw 17 = .ok (.iload_n 1, 1)) ∧ (decode cX12_draw 18 = .ok (.iload_n 2, 1) ∧ decode cX12_draw 19 = .ok (.invokevirtual 248, 3))) ∧ ((decode cX12_draw 22 = .ok (.goto 4, 3) ∧ decode cX12_draw 25 = .ok (.iconst (-1), 1)) ∧ decode cX12_draw 26 = .ok (.ireturn, 1)))) ∧ bA cX12_draw 27 [] :=
  have q0 := fp_o27 fp_bcX12_draw
  have q1 := fp_o184 (v := 228) q0.2 rfl
  have q2 := fp_o153 (v := 21) q1.2 rfl
  have q3 := fp_o42 q2.2
  have q4 := fp_o28 q3.2
  have q5 := fp_o182 (v := 219) q4.2 rfl
  have q6 := fp_o153 (v := 13) q5.2 rfl
  have q7 := fp_o42 q6.2
  have q8 := fp_o3 q7.2
  have q9 := fp_o27 q8.2
  have q10 := fp_o28 q9.2
  have q11 := fp_o182 (v := 248) q10.2 rfl
  have q12 := fp_o167 (v := 4) q11.2 rfl
  have q13 := fp_o2 q12.2
  have q14 := fp_o172 q13.2
  ⟨⟨⟨⟨⟨q0.1, q1.1⟩, ⟨q2.1, q3.1⟩⟩, ⟨⟨q4.1, q5.1⟩, ⟨q6.1, q7.1⟩⟩⟩, ⟨⟨⟨q8.1, q9.1⟩, ⟨q10.1, q11.1⟩⟩, ⟨⟨q12.1, q13.1⟩, q14.1⟩⟩⟩, q14.2⟩
theorem dX12_draw_0 : decode cX12_draw 0 = .ok (.iload_n 1, 1) := fp_hdX12_draw_0.1.1.1.1.1
theorem dX12_draw_1 : decode cX12_draw 1 = .ok (.invokestatic 228, 3) := fp_hdX12_draw_0.1.1.1.1.2
theorem dX12_draw_4 : decode cX12_draw 4 = .ok (.ifCond .eq 21, 3) := fp_hdX12_draw_0.1.1.1.2.1
theorem dX12_draw_7 : decode cX12_draw 7 = .ok (.aload_n 0, 1) := fp_hdX12_draw_0.1.1.1.2.2
theorem dX12_draw_8 : decode cX12_draw 8 = .ok (.iload_n 2, 1) := fp_hdX12_draw_0.1.1.2.1.1
theorem dX12_draw_9 : decode cX12_draw 9 = .ok (.invokevirtual 219, 3) := fp_hdX12_draw_0.1.1.2.1.2
theorem dX12_draw_12 : decode cX12_draw 12 = .ok (.ifCond .eq 13, 3) := fp_hdX12_draw_0.1.1.2.2.1
theorem dX12_draw_15 : decode cX12_draw 15 = .ok (.aload_n 0, 1) := fp_hdX12_draw_0.1.1.2.2.2
theorem dX12_draw_16 : decode cX12_draw 16 = .ok (.iconst 0, 1) := fp_hdX12_draw_0.1.2.1.1.1
theorem dX12_draw_17 : decode cX12_draw 17 = .ok (.iload_n 1, 1) := fp_hdX12_draw_0.1.2.1.1.2
theorem dX12_draw_18 : decode cX12_draw 18 = .ok (.iload_n 2, 1) := fp_hdX12_draw_0.1.2.1.2.1
theorem dX12_draw_19 : decode cX12_draw 19 = .ok (.invokevirtual 248, 3) := fp_hdX12_draw_0.1.2.1.2.2
theorem dX12_draw_22 : decode cX12_draw 22 = .ok (.goto 4, 3) := fp_hdX12_draw_0.1.2.2.1.1
theorem dX12_draw_25 : decode cX12_draw 25 = .ok (.iconst (-1), 1) := fp_hdX12_draw_0.1.2.2.1.2
theorem dX12_draw_26 : decode cX12_draw 26 = .ok (.ireturn, 1) := fp_hdX12_draw_0.1.2.2.2
def fp_scX12_slip_1 : List Nat := 16 :: 8 :: 160 :: 0 :: 6 :: 16 :: 253 :: 172 :: 42 :: 180 :: 0 :: 7 :: 16 :: 37 :: 27 :: 96 :: 42 :: 180 :: 0 :: 7 :: 27 :: 46 :: 79 :: 42 :: 3 :: 27 :: 28 :: 29 :: 182 :: 0 :: 237 :: 42 :: 180 :: 0 :: 7 :: 27 :: 16 :: 10 :: 28 :: 96 :: 79 :: 42 :: 3 :: 28 :: 182 :: 0 :: 198 :: 172 :: []
def fp_scX12_slip_0 : List Nat := 42 :: 27 :: 182 :: 0 :: 205 :: 153 :: 0 :: 27 :: 42 :: 28 :: 182 :: 0 :: 219 :: 153 :: 0 :: 19 :: 29 :: 133 :: 9 :: 42 :: 3 :: 28 :: 182 :: 0 :: 198 :: 133 :: 184 :: 0 :: 94 :: 154 :: 0 :: 5 :: 2 :: 172 :: 42 :: 180 :: 0 :: 7 :: 27 :: 46 :: 16 :: 10 :: 161 :: 0 :: 6 :: 16 :: 254 :: 172 :: 42 :: 3 :: 28 :: 182 :: 0 :: 198 :: fp_scX12_slip_1
theorem fp_bcX12_slip : bA cX12_slip 0 fp_scX12_slip_0 := show cX12_slip.data.toList.map UInt8.toNat = fp_scX12_slip_0 from by decide +kernel
theorem fp_hdX12_slip_0 : (((((decode cX12_slip 0 = .ok (.aload_n 0, 1) ∧ decode cX12_slip 1 = .ok (.iload_n 1, 1)) ∧ (decode cX12_slip 2 = .ok (.invokevirtual 205, 3) ∧ decode cX12_slip 5 = .ok (.ifCond .eq 27, 3))) ∧ ((decode cX12_slip 8 = .ok (.aload_n 0, 1) ∧ decode cX12_slip 9 = .ok (.iload_n 2, 1)) ∧ (decode cX12_slip 10 = .ok (.invokevirtual 219, 3) ∧ decode cX12_slip 13 = .ok (.ifCond .eq 19, 3)))) ∧ (((decode cX12_slip 16 = .ok (.iload_n 3, 1) ∧ decode cX12_slip 17 = .ok (.i2l, 1)) ∧ (decode cX12_slip 18 = .ok (.lconst 0, 1) ∧ decode cX12_slip 19 = .ok (.aload_n 0, 1))) ∧ ((decode cX12_slip 20 = .ok (.iconst 0, 1) ∧ decode cX12_slip 21 = .ok (.iload_n 2, 1)) ∧ (decode cX12_slip 22 = .ok (.invokevirtual 198, 3) ∧ decode cX12_slip 25 = .ok (.i2l, 1))))) ∧ ((((decode cX12_slip 26 = .ok (.invokestatic 94, 3) ∧ decode cX12_slip 29 = .ok (.ifCond .ne 5, 3)) ∧ (decode cX12_slip 32 = .ok (.iconst (-1), 1) ∧ decode cX12_slip 33 = .ok (.ireturn, 1))) ∧ ((decode cX12_slip 34 = .ok (.aload_n 0, 1) ∧ decode cX12_slip 35 = .ok (.getfield 7, 3)) ∧ (decode cX12_slip 38 = .ok (.iload_n 1, 1) ∧ decode cX12_slip 39 = .ok (.iaload, 1)))) ∧ (((decode cX12_slip 40 = .ok (.bipush 10, 2) ∧ decode cX12_slip 42 = .ok (.if_icmp .lt 6, 3)) ∧ (decode cX12_slip 45 = .ok (.bipush (-2), 2) ∧ decode cX12_slip 47 = .ok (.ireturn, 1))) ∧ ((decode cX12_slip 48 = .ok (.aload_n 0, 1) ∧ decode cX12_slip 49 = .ok (.iconst 0, 1)) ∧ (decode cX12_slip 50 = .ok (.iload_n 2, 1) ∧ decode cX12_slip 51 = .ok (.invokevirtual 198, 3)))))) ∧ bA cX12_slip 54 fp_scX12_slip_1 :=
  have q0 := fp_o42 fp_bcX12_slip
  have q1 := fp_o27 q0.2
  have q2 := fp_o182 (v := 205) q1.2 rfl
  have q3 := fp_o153 (v := 27) q2.2 rfl
  have q4 := fp_o42 q3.2
  have q5 := fp_o28 q4.2
  have q6 := fp_o182 (v := 219) q5.2 rfl
  have q7 := fp_o153 (v := 19) q6.2 rfl
  have q8 := fp_o29 q7.2
  have q9 := fp_o133 q8.2
  have q10 := fp_o9 q9.2
  have q11 := fp_o42 q10.2
  have q12 := fp_o3 q11.2
  have q13 := fp_o28 q12.2
  have q14 := fp_o182 (v := 198) q13.2 rfl
  have q15 := fp_o133 q14.2
  have q16 := fp_o184 (v := 94) q15.2 rfl
  have q17 := fp_o154 (v := 5) q16.2 rfl
  have q18 := fp_o2 q17.2
  have q19 := fp_o172 q18.2
  have q20 := fp_o42 q19.2
  have q21 := fp_o180 (v := 7) q20.2 rfl
  have q22 := fp_o27 q21.2
  have q23 := fp_o46 q22.2
  have q24 := fp_o16 (v := 10) q23.2 rfl
  have q25 := fp_o161 (v := 6) q24.2 rfl
  have q26 := fp_o16 (v := (-2)) q25.2 rfl
  have q27 := fp_o172 q26.2
  have q28 := fp_o42 q27.2
  have q29 := fp_o3 q28.2
  have q30 := fp_o28 q29.2
  have q31 := fp_o182 (v := 198) q30.2 rfl
  ⟨⟨⟨⟨⟨⟨q0.1, q1.1⟩, ⟨q2.1, q3.1⟩⟩, ⟨⟨q4.1, q5.1⟩, ⟨q6.1, q7.1⟩⟩⟩, ⟨⟨⟨q8.1, q9.1⟩, ⟨q10.1, q11.1⟩⟩, ⟨⟨q12.1, q13.1⟩, ⟨q14.1, q15.1⟩⟩⟩⟩, ⟨⟨⟨⟨q16.1, q17.1⟩, ⟨q18.1, q19.1⟩⟩, ⟨⟨q20.1, q21.1⟩, ⟨q22.1, q23.1⟩⟩⟩, ⟨⟨⟨q24.1, q25.1⟩, ⟨q26.1, q27.1⟩⟩, ⟨⟨q28.1, q29.1⟩, ⟨q30.1, q31.1⟩⟩⟩⟩⟩, q31.2⟩
theorem dX12_slip_0 : decode cX12_slip 0 = .ok (.aload_n 0, 1) := fp_hdX12_slip_0.1.1.1.1.1.1
theorem dX12_slip_1 : decode cX12_slip 1 = .ok (.iload_n 1, 1) := fp_hdX12_slip_0.1.1.1.1.1.2
theorem dX12_slip_2 : decode cX12_slip 2 = .ok (.invokevirtual 205, 3) := fp_hdX12_slip_0.1.1.1.1.2.1
theorem dX12_slip_5 : decode cX12_slip 5 = .ok (.ifCond .eq 27, 3) := fp_hdX12_slip_0.1.1.1.1.2.2
theorem dX12_slip_8 : decode cX12_slip 8 = .ok (.aload_n 0, 1) := fp_hdX12_slip_0.1.1.1.2.1.1
theorem dX12_slip_9 : decode cX12_slip 9 = .ok (.iload_n 2, 1) := fp_hdX12_slip_0.1.1.1.2.1.2
theorem dX12_slip_10 : decode cX12_slip 10 = .ok (.invokevirtual 219, 3) := fp_hdX12_slip_0.1.1.1.2.2.1
theorem dX12_slip_13 : decode cX12_slip 13 = .ok (.ifCond .eq 19, 3) := fp_hdX12_slip_0.1.1.1.2.2.2
theorem dX12_slip_16 : decode cX12_slip 16 = .ok (.iload_n 3, 1) := fp_hdX12_slip_0.1.1.2.1.1.1
theorem dX12_slip_17 : decode cX12_slip 17 = .ok (.i2l, 1) := fp_hdX12_slip_0.1.1.2.1.1.2
theorem dX12_slip_18 : decode cX12_slip 18 = .ok (.lconst 0, 1) := fp_hdX12_slip_0.1.1.2.1.2.1
theorem dX12_slip_19 : decode cX12_slip 19 = .ok (.aload_n 0, 1) := fp_hdX12_slip_0.1.1.2.1.2.2
theorem dX12_slip_20 : decode cX12_slip 20 = .ok (.iconst 0, 1) := fp_hdX12_slip_0.1.1.2.2.1.1
theorem dX12_slip_21 : decode cX12_slip 21 = .ok (.iload_n 2, 1) := fp_hdX12_slip_0.1.1.2.2.1.2
theorem dX12_slip_22 : decode cX12_slip 22 = .ok (.invokevirtual 198, 3) := fp_hdX12_slip_0.1.1.2.2.2.1
theorem dX12_slip_25 : decode cX12_slip 25 = .ok (.i2l, 1) := fp_hdX12_slip_0.1.1.2.2.2.2
theorem dX12_slip_26 : decode cX12_slip 26 = .ok (.invokestatic 94, 3) := fp_hdX12_slip_0.1.2.1.1.1.1
theorem dX12_slip_29 : decode cX12_slip 29 = .ok (.ifCond .ne 5, 3) := fp_hdX12_slip_0.1.2.1.1.1.2
theorem dX12_slip_32 : decode cX12_slip 32 = .ok (.iconst (-1), 1) := fp_hdX12_slip_0.1.2.1.1.2.1
theorem dX12_slip_33 : decode cX12_slip 33 = .ok (.ireturn, 1) := fp_hdX12_slip_0.1.2.1.1.2.2
theorem dX12_slip_34 : decode cX12_slip 34 = .ok (.aload_n 0, 1) := fp_hdX12_slip_0.1.2.1.2.1.1
theorem dX12_slip_35 : decode cX12_slip 35 = .ok (.getfield 7, 3) := fp_hdX12_slip_0.1.2.1.2.1.2
theorem dX12_slip_38 : decode cX12_slip 38 = .ok (.iload_n 1, 1) := fp_hdX12_slip_0.1.2.1.2.2.1
theorem dX12_slip_39 : decode cX12_slip 39 = .ok (.iaload, 1) := fp_hdX12_slip_0.1.2.1.2.2.2
theorem dX12_slip_40 : decode cX12_slip 40 = .ok (.bipush 10, 2) := fp_hdX12_slip_0.1.2.2.1.1.1
theorem dX12_slip_42 : decode cX12_slip 42 = .ok (.if_icmp .lt 6, 3) := fp_hdX12_slip_0.1.2.2.1.1.2
theorem dX12_slip_45 : decode cX12_slip 45 = .ok (.bipush (-2), 2) := fp_hdX12_slip_0.1.2.2.1.2.1
theorem dX12_slip_47 : decode cX12_slip 47 = .ok (.ireturn, 1) := fp_hdX12_slip_0.1.2.2.1.2.2
theorem dX12_slip_48 : decode cX12_slip 48 = .ok (.aload_n 0, 1) := fp_hdX12_slip_0.1.2.2.2.1.1
theorem dX12_slip_49 : decode cX12_slip 49 = .ok (.iconst 0, 1) := fp_hdX12_slip_0.1.2.2.2.1.2
theorem dX12_slip_50 : decode cX12_slip 50 = .ok (.iload_n 2, 1) := fp_hdX12_slip_0.1.2.2.2.2.1
theorem dX12_slip_51 : decode cX12_slip 51 = .ok (.invokevirtual 198, 3) := fp_hdX12_slip_0.1.2.2.2.2.2
theorem fp_hdX12_slip_54 : (((((decode cX12_slip 54 = .ok (.bipush 8, 2) ∧ decode cX12_slip 56 = .ok (.if_icmp .ne 6, 3)) ∧ (decode cX12_slip 59 = .ok (.bipush (-3), 2) ∧ decode cX12_slip 61 = .ok (.ireturn, 1))) ∧ ((decode cX12_slip 62 = .ok (.aload_n 0, 1) ∧ decode cX12_slip 63 = .ok (.getfield 7, 3)) ∧ (decode cX12_slip 66 = .ok (.bipush 37, 2) ∧ decode cX12_slip 68 = .ok (.iload_n 1, 1)))) ∧ (((decode cX12_slip 69 = .ok (.iadd, 1) ∧ decode cX12_slip 70 = .ok (.aload_n 0, 1)) ∧ (decode cX12_slip 71 = .ok (.getfield 7, 3) ∧ decode cX12_slip 74 = .ok (.iload_n 1, 1))) ∧ ((decode cX12_slip 75 = .ok (.iaload, 1) ∧ decode cX12_slip 76 = .ok (.iastore, 1)) ∧ (decode cX12_slip 77 = .ok (.aload_n 0, 1) ∧ decode cX12_slip 78 = .ok (.iconst 0, 1))))) ∧ ((((decode cX12_slip 79 = .ok (.iload_n 1, 1) ∧ decode cX12_slip 80 = .ok (.iload_n 2, 1)) ∧ (decode cX12_slip 81 = .ok (.iload_n 3, 1) ∧ decode cX12_slip 82 = .ok (.invokevirtual 237, 3))) ∧ ((decode cX12_slip 85 = .ok (.aload_n 0, 1) ∧ decode cX12_slip 86 = .ok (.getfield 7, 3)) ∧ (decode cX12_slip 89 = .ok (.iload_n 1, 1) ∧ decode cX12_slip 90 = .ok (.bipush 10, 2)))) ∧ (((decode cX12_slip 92 = .ok (.iload_n 2, 1) ∧ decode cX12_slip 93 = .ok (.iadd, 1)) ∧ (decode cX12_slip 94 = .ok (.iastore, 1) ∧ decode cX12_slip 95 = .ok (.aload_n 0, 1))) ∧ ((decode cX12_slip 96 = .ok (.iconst 0, 1) ∧ decode cX12_slip 97 = .ok (.iload_n 2, 1)) ∧ (decode cX12_slip 98 = .ok (.invokevirtual 198, 3) ∧ decode cX12_slip 101 = .ok (.ireturn, 1)))))) ∧ bA cX12_slip 102 [] :=
  have q0 := fp_o16 (v := 8) fp_hdX12_slip_0.2 rfl
  have q1 := fp_o160 (v := 6) q0.2 rfl
  have q2 := fp_o16 (v := (-3)) q1.2 rfl
  have q3 := fp_o172 q2.2
  have q4 := fp_o42 q3.2
  have q5 := fp_o180 (v := 7) q4.2 rfl
  have q6 := fp_o16 (v := 37) q5.2 rfl
  have q7 := fp_o27 q6.2
  have q8 := fp_o96 q7.2
  have q9 := fp_o42 q8.2
  have q10 := fp_o180 (v := 7) q9.2 rfl
  have q11 := fp_o27 q10.2
  have q12 := fp_o46 q11.2
  have q13 := fp_o79 q12.2
  have q14 := fp_o42 q13.2
  have q15 := fp_o3 q14.2
  have q16 := fp_o27 q15.2
  have q17 := fp_o28 q16.2
  have q18 := fp_o29 q17.2
  have q19 := fp_o182 (v := 237) q18.2 rfl
  have q20 := fp_o42 q19.2
  have q21 := fp_o180 (v := 7) q20.2 rfl
  have q22 := fp_o27 q21.2
  have q23 := fp_o16 (v := 10) q22.2 rfl
  have q24 := fp_o28 q23.2
  have q25 := fp_o96 q24.2
  have q26 := fp_o79 q25.2
  have q27 := fp_o42 q26.2
  have q28 := fp_o3 q27.2
  have q29 := fp_o28 q28.2
  have q30 := fp_o182 (v := 198) q29.2 rfl
  have q31 := fp_o172 q30.2
  ⟨⟨⟨⟨⟨⟨q0.1, q1.1⟩, ⟨q2.1, q3.1⟩⟩, ⟨⟨q4.1, q5.1⟩, ⟨q6.1, q7.1⟩⟩⟩, ⟨⟨⟨q8.1, q9.1⟩, ⟨q10.1, q11.1⟩⟩, ⟨⟨q12.1, q13.1⟩, ⟨q14.1, q15.1⟩⟩⟩⟩, ⟨⟨⟨⟨q16.1, q17.1⟩, ⟨q18.1, q19.1⟩⟩, ⟨⟨q20.1, q21.1⟩, ⟨q22.1, q23.1⟩⟩⟩, ⟨⟨⟨q24.1, q25.1⟩, ⟨q26.1, q27.1⟩⟩, ⟨⟨q28.1, q29.1⟩, ⟨q30.1, q31.1⟩⟩⟩⟩⟩, q31.2⟩
theorem dX12_slip_54 : decode cX12_slip 54 = .ok (.bipush 8, 2) := fp_hdX12_slip_54.1.1.1.1.1.1
theorem dX12_slip_56 : decode cX12_slip 56 = .ok (.if_icmp .ne 6, 3) := fp_hdX12_slip_54.1.1.1.1.1.2
theorem dX12_slip_59 : decode cX12_slip 59 = .ok (.bipush (-3), 2) := fp_hdX12_slip_54.1.1.1.1.2.1
theorem dX12_slip_61 : decode cX12_slip 61 = .ok (.ireturn, 1) := fp_hdX12_slip_54.1.1.1.1.2.2
theorem dX12_slip_62 : decode cX12_slip 62 = .ok (.aload_n 0, 1) := fp_hdX12_slip_54.1.1.1.2.1.1
theorem dX12_slip_63 : decode cX12_slip 63 = .ok (.getfield 7, 3) := fp_hdX12_slip_54.1.1.1.2.1.2
theorem dX12_slip_66 : decode cX12_slip 66 = .ok (.bipush 37, 2) := fp_hdX12_slip_54.1.1.1.2.2.1
theorem dX12_slip_68 : decode cX12_slip 68 = .ok (.iload_n 1, 1) := fp_hdX12_slip_54.1.1.1.2.2.2
theorem dX12_slip_69 : decode cX12_slip 69 = .ok (.iadd, 1) := fp_hdX12_slip_54.1.1.2.1.1.1
theorem dX12_slip_70 : decode cX12_slip 70 = .ok (.aload_n 0, 1) := fp_hdX12_slip_54.1.1.2.1.1.2
theorem dX12_slip_71 : decode cX12_slip 71 = .ok (.getfield 7, 3) := fp_hdX12_slip_54.1.1.2.1.2.1
theorem dX12_slip_74 : decode cX12_slip 74 = .ok (.iload_n 1, 1) := fp_hdX12_slip_54.1.1.2.1.2.2
theorem dX12_slip_75 : decode cX12_slip 75 = .ok (.iaload, 1) := fp_hdX12_slip_54.1.1.2.2.1.1
theorem dX12_slip_76 : decode cX12_slip 76 = .ok (.iastore, 1) := fp_hdX12_slip_54.1.1.2.2.1.2
theorem dX12_slip_77 : decode cX12_slip 77 = .ok (.aload_n 0, 1) := fp_hdX12_slip_54.1.1.2.2.2.1
theorem dX12_slip_78 : decode cX12_slip 78 = .ok (.iconst 0, 1) := fp_hdX12_slip_54.1.1.2.2.2.2
theorem dX12_slip_79 : decode cX12_slip 79 = .ok (.iload_n 1, 1) := fp_hdX12_slip_54.1.2.1.1.1.1
theorem dX12_slip_80 : decode cX12_slip 80 = .ok (.iload_n 2, 1) := fp_hdX12_slip_54.1.2.1.1.1.2
theorem dX12_slip_81 : decode cX12_slip 81 = .ok (.iload_n 3, 1) := fp_hdX12_slip_54.1.2.1.1.2.1
theorem dX12_slip_82 : decode cX12_slip 82 = .ok (.invokevirtual 237, 3) := fp_hdX12_slip_54.1.2.1.1.2.2
theorem dX12_slip_85 : decode cX12_slip 85 = .ok (.aload_n 0, 1) := fp_hdX12_slip_54.1.2.1.2.1.1
theorem dX12_slip_86 : decode cX12_slip 86 = .ok (.getfield 7, 3) := fp_hdX12_slip_54.1.2.1.2.1.2
theorem dX12_slip_89 : decode cX12_slip 89 = .ok (.iload_n 1, 1) := fp_hdX12_slip_54.1.2.1.2.2.1
theorem dX12_slip_90 : decode cX12_slip 90 = .ok (.bipush 10, 2) := fp_hdX12_slip_54.1.2.1.2.2.2
theorem dX12_slip_92 : decode cX12_slip 92 = .ok (.iload_n 2, 1) := fp_hdX12_slip_54.1.2.2.1.1.1
theorem dX12_slip_93 : decode cX12_slip 93 = .ok (.iadd, 1) := fp_hdX12_slip_54.1.2.2.1.1.2
theorem dX12_slip_94 : decode cX12_slip 94 = .ok (.iastore, 1) := fp_hdX12_slip_54.1.2.2.1.2.1
theorem dX12_slip_95 : decode cX12_slip 95 = .ok (.aload_n 0, 1) := fp_hdX12_slip_54.1.2.2.1.2.2
theorem dX12_slip_96 : decode cX12_slip 96 = .ok (.iconst 0, 1) := fp_hdX12_slip_54.1.2.2.2.1.1
theorem dX12_slip_97 : decode cX12_slip 97 = .ok (.iload_n 2, 1) := fp_hdX12_slip_54.1.2.2.2.1.2
theorem dX12_slip_98 : decode cX12_slip 98 = .ok (.invokevirtual 198, 3) := fp_hdX12_slip_54.1.2.2.2.2.1
theorem dX12_slip_101 : decode cX12_slip 101 = .ok (.ireturn, 1) := fp_hdX12_slip_54.1.2.2.2.2.2
def fp_scX12_comes_3 : List Nat := 21 :: 5 :: 4 :: 96 :: 172 :: []
def fp_scX12_comes_2 : List Nat := 28 :: 79 :: 42 :: 180 :: 0 :: 7 :: 16 :: 47 :: 7 :: 21 :: 5 :: 104 :: 96 :: 5 :: 96 :: 29 :: 79 :: 42 :: 180 :: 0 :: 7 :: 16 :: 47 :: 7 :: 21 :: 5 :: 104 :: 96 :: 6 :: 96 :: 21 :: 4 :: 79 :: 42 :: 180 :: 0 :: 7 :: 16 :: 95 :: 92 :: 46 :: 4 :: 96 :: 79 :: fp_scX12_comes_3
def fp_scX12_comes_1 : List Nat := 42 :: 21 :: 4 :: 182 :: 0 :: 205 :: 154 :: 0 :: 12 :: 21 :: 4 :: 16 :: 252 :: 159 :: 0 :: 5 :: 2 :: 172 :: 21 :: 5 :: 16 :: 12 :: 160 :: 0 :: 6 :: 16 :: 253 :: 172 :: 42 :: 180 :: 0 :: 7 :: 16 :: 47 :: 7 :: 21 :: 5 :: 104 :: 96 :: 27 :: 79 :: 42 :: 180 :: 0 :: 7 :: 16 :: 47 :: 7 :: 21 :: 5 :: 104 :: 96 :: 4 :: 96 :: fp_scX12_comes_2
def fp_scX12_comes_0 : List Nat := 42 :: 182 :: 0 :: 225 :: 54 :: 5 :: 21 :: 5 :: 154 :: 0 :: 7 :: 3 :: 167 :: 0 :: 17 :: 42 :: 180 :: 0 :: 7 :: 16 :: 47 :: 7 :: 21 :: 5 :: 104 :: 96 :: 7 :: 100 :: 46 :: 54 :: 6 :: 27 :: 133 :: 21 :: 6 :: 133 :: 20 :: 0 :: 251 :: 184 :: 0 :: 94 :: 153 :: 0 :: 34 :: 28 :: 184 :: 0 :: 228 :: 153 :: 0 :: 27 :: 42 :: 29 :: 182 :: 0 :: 219 :: 153 :: 0 :: 19 :: fp_scX12_comes_1
theorem fp_bcX12_comes : bA cX12_comes 0 fp_scX12_comes_0 := show cX12_comes.data.toList.map UInt8.toNat = fp_scX12_comes_0 from by decide +kernel
theorem fp_hdX12_comes_0 : (((((decode cX12_comes 0 = .ok (.aload_n 0, 1) ∧ decode cX12_comes 1 = .ok (.invokevirtual 225, 3)) ∧ (decode cX12_comes 4 = .ok (.istore 5, 2) ∧ decode cX12_comes 6 = .ok (.iload 5, 2))) ∧ ((decode cX12_comes 8 = .ok (.ifCond .ne 7, 3) ∧ decode cX12_comes 11 = .ok (.iconst 0, 1)) ∧ (decode cX12_comes 12 = .ok (.goto 17, 3) ∧ decode cX12_comes 15 = .ok (.aload_n 0, 1)))) ∧ (((decode cX12_comes 16 = .ok (.getfield 7, 3) ∧ decode cX12_comes 19 = .ok (.bipush 47, 2)) ∧ (decode cX12_comes 21 = .ok (.iconst 4, 1) ∧ decode cX12_comes 22 = .ok (.iload 5, 2))) ∧ ((decode cX12_comes 24 = .ok (.imul, 1) ∧ decode cX12_comes 25 = .ok (.iadd, 1)) ∧ (decode cX12_comes 26 = .ok (.iconst 4, 1) ∧ decode cX12_comes 27 = .ok (.isub, 1))))) ∧ ((((decode cX12_comes 28 = .ok (.iaload, 1) ∧ decode cX12_comes 29 = .ok (.istore 6, 2)) ∧ (decode cX12_comes 31 = .ok (.iload_n 1, 1) ∧ decode cX12_comes 32 = .ok (.i2l, 1))) ∧ ((decode cX12_comes 33 = .ok (.iload 6, 2) ∧ decode cX12_comes 35 = .ok (.i2l, 1)) ∧ (decode cX12_comes 36 = .ok (.ldc2_w 251, 3) ∧ decode cX12_comes 39 = .ok (.invokestatic 94, 3)))) ∧ (((decode cX12_comes 42 = .ok (.ifCond .eq 34, 3) ∧ decode cX12_comes 45 = .ok (.iload_n 2, 1)) ∧ (decode cX12_comes 46 = .ok (.invokestatic 228, 3) ∧ decode cX12_comes 49 = .ok (.ifCond .eq 27, 3))) ∧ ((decode cX12_comes 52 = .ok (.aload_n 0, 1) ∧ decode cX12_comes 53 = .ok (.iload_n 3, 1)) ∧ (decode cX12_comes 54 = .ok (.invokevirtual 219, 3) ∧ decode cX12_comes 57 = .ok (.ifCond .eq 19, 3)))))) ∧ bA cX12_comes 60 fp_scX12_comes_1 :=
  have q0 := fp_o42 fp_bcX12_comes
  have q1 := fp_o182 (v := 225) q0.2 rfl
  have q2 := fp_o54 q1.2
  have q3 := fp_o21 q2.2
  have q4 := fp_o154 (v := 7) q3.2 rfl
  have q5 := fp_o3 q4.2
  have q6 := fp_o167 (v := 17) q5.2 rfl
  have q7 := fp_o42 q6.2
  have q8 := fp_o180 (v := 7) q7.2 rfl
  have q9 := fp_o16 (v := 47) q8.2 rfl
  have q10 := fp_o7 q9.2
  have q11 := fp_o21 q10.2
  have q12 := fp_o104 q11.2
  have q13 := fp_o96 q12.2
  have q14 := fp_o7 q13.2
  have q15 := fp_o100 q14.2
  have q16 := fp_o46 q15.2
  have q17 := fp_o54 q16.2
  have q18 := fp_o27 q17.2
  have q19 := fp_o133 q18.2
  have q20 := fp_o21 q19.2
  have q21 := fp_o133 q20.2
  have q22 := fp_o20 (v := 251) q21.2 rfl
  have q23 := fp_o184 (v := 94) q22.2 rfl
  have q24 := fp_o153 (v := 34) q23.2 rfl
  have q25 := fp_o28 q24.2
  have q26 := fp_o184 (v := 228) q25.2 rfl
  have q27 := fp_o153 (v := 27) q26.2 rfl
  have q28 := fp_o42 q27.2
  have q29 := fp_o29 q28.2
  have q30 := fp_o182 (v := 219) q29.2 rfl
  have q31 := fp_o153 (v := 19) q30.2 rfl
  ⟨⟨⟨⟨⟨⟨q0.1, q1.1⟩, ⟨q2.1, q3.1⟩⟩, ⟨⟨q4.1, q5.1⟩, ⟨q6.1, q7.1⟩⟩⟩, ⟨⟨⟨q8.1, q9.1⟩, ⟨q10.1, q11.1⟩⟩, ⟨⟨q12.1, q13.1⟩, ⟨q14.1, q15.1⟩⟩⟩⟩, ⟨⟨⟨⟨q16.1, q17.1⟩, ⟨q18.1, q19.1⟩⟩, ⟨⟨q20.1, q21.1⟩, ⟨q22.1, q23.1⟩⟩⟩, ⟨⟨⟨q24.1, q25.1⟩, ⟨q26.1, q27.1⟩⟩, ⟨⟨q28.1, q29.1⟩, ⟨q30.1, q31.1⟩⟩⟩⟩⟩, q31.2⟩
theorem dX12_comes_0 : decode cX12_comes 0 = .ok (.aload_n 0, 1) := fp_hdX12_comes_0.1.1.1.1.1.1
theorem dX12_comes_1 : decode cX12_comes 1 = .ok (.invokevirtual 225, 3) := fp_hdX12_comes_0.1.1.1.1.1.2
theorem dX12_comes_4 : decode cX12_comes 4 = .ok (.istore 5, 2) := fp_hdX12_comes_0.1.1.1.1.2.1
theorem dX12_comes_6 : decode cX12_comes 6 = .ok (.iload 5, 2) := fp_hdX12_comes_0.1.1.1.1.2.2
theorem dX12_comes_8 : decode cX12_comes 8 = .ok (.ifCond .ne 7, 3) := fp_hdX12_comes_0.1.1.1.2.1.1
theorem dX12_comes_11 : decode cX12_comes 11 = .ok (.iconst 0, 1) := fp_hdX12_comes_0.1.1.1.2.1.2
theorem dX12_comes_12 : decode cX12_comes 12 = .ok (.goto 17, 3) := fp_hdX12_comes_0.1.1.1.2.2.1
theorem dX12_comes_15 : decode cX12_comes 15 = .ok (.aload_n 0, 1) := fp_hdX12_comes_0.1.1.1.2.2.2
theorem dX12_comes_16 : decode cX12_comes 16 = .ok (.getfield 7, 3) := fp_hdX12_comes_0.1.1.2.1.1.1
theorem dX12_comes_19 : decode cX12_comes 19 = .ok (.bipush 47, 2) := fp_hdX12_comes_0.1.1.2.1.1.2
theorem dX12_comes_21 : decode cX12_comes 21 = .ok (.iconst 4, 1) := fp_hdX12_comes_0.1.1.2.1.2.1
theorem dX12_comes_22 : decode cX12_comes 22 = .ok (.iload 5, 2) := fp_hdX12_comes_0.1.1.2.1.2.2
theorem dX12_comes_24 : decode cX12_comes 24 = .ok (.imul, 1) := fp_hdX12_comes_0.1.1.2.2.1.1
theorem dX12_comes_25 : decode cX12_comes 25 = .ok (.iadd, 1) := fp_hdX12_comes_0.1.1.2.2.1.2
theorem dX12_comes_26 : decode cX12_comes 26 = .ok (.iconst 4, 1) := fp_hdX12_comes_0.1.1.2.2.2.1
theorem dX12_comes_27 : decode cX12_comes 27 = .ok (.isub, 1) := fp_hdX12_comes_0.1.1.2.2.2.2
theorem dX12_comes_28 : decode cX12_comes 28 = .ok (.iaload, 1) := fp_hdX12_comes_0.1.2.1.1.1.1
theorem dX12_comes_29 : decode cX12_comes 29 = .ok (.istore 6, 2) := fp_hdX12_comes_0.1.2.1.1.1.2
theorem dX12_comes_31 : decode cX12_comes 31 = .ok (.iload_n 1, 1) := fp_hdX12_comes_0.1.2.1.1.2.1
theorem dX12_comes_32 : decode cX12_comes 32 = .ok (.i2l, 1) := fp_hdX12_comes_0.1.2.1.1.2.2
theorem dX12_comes_33 : decode cX12_comes 33 = .ok (.iload 6, 2) := fp_hdX12_comes_0.1.2.1.2.1.1
theorem dX12_comes_35 : decode cX12_comes 35 = .ok (.i2l, 1) := fp_hdX12_comes_0.1.2.1.2.1.2
theorem dX12_comes_36 : decode cX12_comes 36 = .ok (.ldc2_w 251, 3) := fp_hdX12_comes_0.1.2.1.2.2.1
theorem dX12_comes_39 : decode cX12_comes 39 = .ok (.invokestatic 94, 3) := fp_hdX12_comes_0.1.2.1.2.2.2
theorem dX12_comes_42 : decode cX12_comes 42 = .ok (.ifCond .eq 34, 3) := fp_hdX12_comes_0.1.2.2.1.1.1
theorem dX12_comes_45 : decode cX12_comes 45 = .ok (.iload_n 2, 1) := fp_hdX12_comes_0.1.2.2.1.1.2
theorem dX12_comes_46 : decode cX12_comes 46 = .ok (.invokestatic 228, 3) := fp_hdX12_comes_0.1.2.2.1.2.1
theorem dX12_comes_49 : decode cX12_comes 49 = .ok (.ifCond .eq 27, 3) := fp_hdX12_comes_0.1.2.2.1.2.2
theorem dX12_comes_52 : decode cX12_comes 52 = .ok (.aload_n 0, 1) := fp_hdX12_comes_0.1.2.2.2.1.1
theorem dX12_comes_53 : decode cX12_comes 53 = .ok (.iload_n 3, 1) := fp_hdX12_comes_0.1.2.2.2.1.2
theorem dX12_comes_54 : decode cX12_comes 54 = .ok (.invokevirtual 219, 3) := fp_hdX12_comes_0.1.2.2.2.2.1
theorem dX12_comes_57 : decode cX12_comes 57 = .ok (.ifCond .eq 19, 3) := fp_hdX12_comes_0.1.2.2.2.2.2
theorem fp_hdX12_comes_60 : (((((decode cX12_comes 60 = .ok (.aload_n 0, 1) ∧ decode cX12_comes 61 = .ok (.iload 4, 2)) ∧ (decode cX12_comes 63 = .ok (.invokevirtual 205, 3) ∧ decode cX12_comes 66 = .ok (.ifCond .ne 12, 3))) ∧ ((decode cX12_comes 69 = .ok (.iload 4, 2) ∧ decode cX12_comes 71 = .ok (.bipush (-4), 2)) ∧ (decode cX12_comes 73 = .ok (.if_icmp .eq 5, 3) ∧ decode cX12_comes 76 = .ok (.iconst (-1), 1)))) ∧ (((decode cX12_comes 77 = .ok (.ireturn, 1) ∧ decode cX12_comes 78 = .ok (.iload 5, 2)) ∧ (decode cX12_comes 80 = .ok (.bipush 12, 2) ∧ decode cX12_comes 82 = .ok (.if_icmp .ne 6, 3))) ∧ ((decode cX12_comes 85 = .ok (.bipush (-3), 2) ∧ decode cX12_comes 87 = .ok (.ireturn, 1)) ∧ (decode cX12_comes 88 = .ok (.aload_n 0, 1) ∧ decode cX12_comes 89 = .ok (.getfield 7, 3))))) ∧ ((((decode cX12_comes 92 = .ok (.bipush 47, 2) ∧ decode cX12_comes 94 = .ok (.iconst 4, 1)) ∧ (decode cX12_comes 95 = .ok (.iload 5, 2) ∧ decode cX12_comes 97 = .ok (.imul, 1))) ∧ ((decode cX12_comes 98 = .ok (.iadd, 1) ∧ decode cX12_comes 99 = .ok (.iload_n 1, 1)) ∧ (decode cX12_comes 100 = .ok (.iastore, 1) ∧ decode cX12_comes 101 = .ok (.aload_n 0, 1)))) ∧ (((decode cX12_comes 102 = .ok (.getfield 7, 3) ∧ decode cX12_comes 105 = .ok (.bipush 47, 2)) ∧ (decode cX12_comes 107 = .ok (.iconst 4, 1) ∧ decode cX12_comes 108 = .ok (.iload 5, 2))) ∧ ((decode cX12_comes 110 = .ok (.imul, 1) ∧ decode cX12_comes 111 = .ok (.iadd, 1)) ∧ (decode cX12_comes 112 = .ok (.iconst 1, 1) ∧ decode cX12_comes 113 = .ok (.iadd, 1)))))) ∧ bA cX12_comes 114 fp_scX12_comes_2 :=
  have q0 := fp_o42 fp_hdX12_comes_0.2
  have q1 := fp_o21 q0.2
  have q2 := fp_o182 (v := 205) q1.2 rfl
  have q3 := fp_o154 (v := 12) q2.2 rfl
  have q4 := fp_o21 q3.2
  have q5 := fp_o16 (v := (-4)) q4.2 rfl
  have q6 := fp_o159 (v := 5) q5.2 rfl
  have q7 := fp_o2 q6.2
  have q8 := fp_o172 q7.2
  have q9 := fp_o21 q8.2
  have q10 := fp_o16 (v := 12) q9.2 rfl
  have q11 := fp_o160 (v := 6) q10.2 rfl
  have q12 := fp_o16 (v := (-3)) q11.2 rfl
  have q13 := fp_o172 q12.2
  have q14 := fp_o42 q13.2
  have q15 := fp_o180 (v := 7) q14.2 rfl
  have q16 := fp_o16 (v := 47) q15.2 rfl
  have q17 := fp_o7 q16.2
  have q18 := fp_o21 q17.2
  have q19 := fp_o104 q18.2
  have q20 := fp_o96 q19.2
  have q21 := fp_o27 q20.2
  have q22 := fp_o79 q21.2
  have q23 := fp_o42 q22.2
  have q24 := fp_o180 (v := 7) q23.2 rfl
  have q25 := fp_o16 (v := 47) q24.2 rfl
  have q26 := fp_o7 q25.2
  have q27 := fp_o21 q26.2
  have q28 := fp_o104 q27.2
  have q29 := fp_o96 q28.2
  have q30 := fp_o4 q29.2
  have q31 := fp_o96 q30.2
  ⟨⟨⟨⟨⟨⟨q0.1, q1.1⟩, ⟨q2.1, q3.1⟩⟩, ⟨⟨q4.1, q5.1⟩, ⟨q6.1, q7.1⟩⟩⟩, ⟨⟨⟨q8.1, q9.1⟩, ⟨q10.1, q11.1⟩⟩, ⟨⟨q12.1, q13.1⟩, ⟨q14.1, q15.1⟩⟩⟩⟩, ⟨⟨⟨⟨q16.1, q17.1⟩, ⟨q18.1, q19.1⟩⟩, ⟨⟨q20.1, q21.1⟩, ⟨q22.1, q23.1⟩⟩⟩, ⟨⟨⟨q24.1, q25.1⟩, ⟨q26.1, q27.1⟩⟩, ⟨⟨q28.1, q29.1⟩, ⟨q30.1, q31.1⟩⟩⟩⟩⟩, q31.2⟩
theorem dX12_comes_60 : decode cX12_comes 60 = .ok (.aload_n 0, 1) := fp_hdX12_comes_60.1.1.1.1.1.1
theorem dX12_comes_61 : decode cX12_comes 61 = .ok (.iload 4, 2) := fp_hdX12_comes_60.1.1.1.1.1.2
theorem dX12_comes_63 : decode cX12_comes 63 = .ok (.invokevirtual 205, 3) := fp_hdX12_comes_60.1.1.1.1.2.1
theorem dX12_comes_66 : decode cX12_comes 66 = .ok (.ifCond .ne 12, 3) := fp_hdX12_comes_60.1.1.1.1.2.2
theorem dX12_comes_69 : decode cX12_comes 69 = .ok (.iload 4, 2) := fp_hdX12_comes_60.1.1.1.2.1.1
theorem dX12_comes_71 : decode cX12_comes 71 = .ok (.bipush (-4), 2) := fp_hdX12_comes_60.1.1.1.2.1.2
theorem dX12_comes_73 : decode cX12_comes 73 = .ok (.if_icmp .eq 5, 3) := fp_hdX12_comes_60.1.1.1.2.2.1
theorem dX12_comes_76 : decode cX12_comes 76 = .ok (.iconst (-1), 1) := fp_hdX12_comes_60.1.1.1.2.2.2
theorem dX12_comes_77 : decode cX12_comes 77 = .ok (.ireturn, 1) := fp_hdX12_comes_60.1.1.2.1.1.1
theorem dX12_comes_78 : decode cX12_comes 78 = .ok (.iload 5, 2) := fp_hdX12_comes_60.1.1.2.1.1.2
theorem dX12_comes_80 : decode cX12_comes 80 = .ok (.bipush 12, 2) := fp_hdX12_comes_60.1.1.2.1.2.1
theorem dX12_comes_82 : decode cX12_comes 82 = .ok (.if_icmp .ne 6, 3) := fp_hdX12_comes_60.1.1.2.1.2.2
theorem dX12_comes_85 : decode cX12_comes 85 = .ok (.bipush (-3), 2) := fp_hdX12_comes_60.1.1.2.2.1.1
theorem dX12_comes_87 : decode cX12_comes 87 = .ok (.ireturn, 1) := fp_hdX12_comes_60.1.1.2.2.1.2
theorem dX12_comes_88 : decode cX12_comes 88 = .ok (.aload_n 0, 1) := fp_hdX12_comes_60.1.1.2.2.2.1
theorem dX12_comes_89 : decode cX12_comes 89 = .ok (.getfield 7, 3) := fp_hdX12_comes_60.1.1.2.2.2.2
theorem dX12_comes_92 : decode cX12_comes 92 = .ok (.bipush 47, 2) := fp_hdX12_comes_60.1.2.1.1.1.1
theorem dX12_comes_94 : decode cX12_comes 94 = .ok (.iconst 4, 1) := fp_hdX12_comes_60.1.2.1.1.1.2
theorem dX12_comes_95 : decode cX12_comes 95 = .ok (.iload 5, 2) := fp_hdX12_comes_60.1.2.1.1.2.1
theorem dX12_comes_97 : decode cX12_comes 97 = .ok (.imul, 1) := fp_hdX12_comes_60.1.2.1.1.2.2
theorem dX12_comes_98 : decode cX12_comes 98 = .ok (.iadd, 1) := fp_hdX12_comes_60.1.2.1.2.1.1
theorem dX12_comes_99 : decode cX12_comes 99 = .ok (.iload_n 1, 1) := fp_hdX12_comes_60.1.2.1.2.1.2
theorem dX12_comes_100 : decode cX12_comes 100 = .ok (.iastore, 1) := fp_hdX12_comes_60.1.2.1.2.2.1
theorem dX12_comes_101 : decode cX12_comes 101 = .ok (.aload_n 0, 1) := fp_hdX12_comes_60.1.2.1.2.2.2
theorem dX12_comes_102 : decode cX12_comes 102 = .ok (.getfield 7, 3) := fp_hdX12_comes_60.1.2.2.1.1.1
theorem dX12_comes_105 : decode cX12_comes 105 = .ok (.bipush 47, 2) := fp_hdX12_comes_60.1.2.2.1.1.2
theorem dX12_comes_107 : decode cX12_comes 107 = .ok (.iconst 4, 1) := fp_hdX12_comes_60.1.2.2.1.2.1
theorem dX12_comes_108 : decode cX12_comes 108 = .ok (.iload 5, 2) := fp_hdX12_comes_60.1.2.2.1.2.2
theorem dX12_comes_110 : decode cX12_comes 110 = .ok (.imul, 1) := fp_hdX12_comes_60.1.2.2.2.1.1
theorem dX12_comes_111 : decode cX12_comes 111 = .ok (.iadd, 1) := fp_hdX12_comes_60.1.2.2.2.1.2
theorem dX12_comes_112 : decode cX12_comes 112 = .ok (.iconst 1, 1) := fp_hdX12_comes_60.1.2.2.2.2.1
theorem dX12_comes_113 : decode cX12_comes 113 = .ok (.iadd, 1) := fp_hdX12_comes_60.1.2.2.2.2.2
theorem fp_hdX12_comes_114 : (((((decode cX12_comes 114 = .ok (.iload_n 2, 1) ∧ decode cX12_comes 115 = .ok (.iastore, 1)) ∧ (decode cX12_comes 116 = .ok (.aload_n 0, 1) ∧ decode cX12_comes 117 = .ok (.getfield 7, 3))) ∧ ((decode cX12_comes 120 = .ok (.bipush 47, 2) ∧ decode cX12_comes 122 = .ok (.iconst 4, 1)) ∧ (decode cX12_comes 123 = .ok (.iload 5, 2) ∧ decode cX12_comes 125 = .ok (.imul, 1)))) ∧ (((decode cX12_comes 126 = .ok (.iadd, 1) ∧ decode cX12_comes 127 = .ok (.iconst 2, 1)) ∧ (decode cX12_comes 128 = .ok (.iadd, 1) ∧ decode cX12_comes 129 = .ok (.iload_n 3, 1))) ∧ ((decode cX12_comes 130 = .ok (.iastore, 1) ∧ decode cX12_comes 131 = .ok (.aload_n 0, 1)) ∧ (decode cX12_comes 132 = .ok (.getfield 7, 3) ∧ decode cX12_comes 135 = .ok (.bipush 47, 2))))) ∧ ((((decode cX12_comes 137 = .ok (.iconst 4, 1) ∧ decode cX12_comes 138 = .ok (.iload 5, 2)) ∧ (decode cX12_comes 140 = .ok (.imul, 1) ∧ decode cX12_comes 141 = .ok (.iadd, 1))) ∧ ((decode cX12_comes 142 = .ok (.iconst 3, 1) ∧ decode cX12_comes 143 = .ok (.iadd, 1)) ∧ (decode cX12_comes 144 = .ok (.iload 4, 2) ∧ decode cX12_comes 146 = .ok (.iastore, 1)))) ∧ (((decode cX12_comes 147 = .ok (.aload_n 0, 1) ∧ decode cX12_comes 148 = .ok (.getfield 7, 3)) ∧ (decode cX12_comes 151 = .ok (.bipush 95, 2) ∧ decode cX12_comes 153 = .ok (.dup2, 1))) ∧ ((decode cX12_comes 154 = .ok (.iaload, 1) ∧ decode cX12_comes 155 = .ok (.iconst 1, 1)) ∧ (decode cX12_comes 156 = .ok (.iadd, 1) ∧ decode cX12_comes 157 = .ok (.iastore, 1)))))) ∧ bA cX12_comes 158 fp_scX12_comes_3 :=
  have q0 := fp_o28 fp_hdX12_comes_60.2
  have q1 := fp_o79 q0.2
  have q2 := fp_o42 q1.2
  have q3 := fp_o180 (v := 7) q2.2 rfl
  have q4 := fp_o16 (v := 47) q3.2 rfl
  have q5 := fp_o7 q4.2
  have q6 := fp_o21 q5.2
  have q7 := fp_o104 q6.2
  have q8 := fp_o96 q7.2
  have q9 := fp_o5 q8.2
  have q10 := fp_o96 q9.2
  have q11 := fp_o29 q10.2
  have q12 := fp_o79 q11.2
  have q13 := fp_o42 q12.2
  have q14 := fp_o180 (v := 7) q13.2 rfl
  have q15 := fp_o16 (v := 47) q14.2 rfl
  have q16 := fp_o7 q15.2
  have q17 := fp_o21 q16.2
  have q18 := fp_o104 q17.2
  have q19 := fp_o96 q18.2
  have q20 := fp_o6 q19.2
  have q21 := fp_o96 q20.2
  have q22 := fp_o21 q21.2
  have q23 := fp_o79 q22.2
  have q24 := fp_o42 q23.2
  have q25 := fp_o180 (v := 7) q24.2 rfl
  have q26 := fp_o16 (v := 95) q25.2 rfl
  have q27 := fp_o92 q26.2
  have q28 := fp_o46 q27.2
  have q29 := fp_o4 q28.2
  have q30 := fp_o96 q29.2
  have q31 := fp_o79 q30.2
  ⟨⟨⟨⟨⟨⟨q0.1, q1.1⟩, ⟨q2.1, q3.1⟩⟩, ⟨⟨q4.1, q5.1⟩, ⟨q6.1, q7.1⟩⟩⟩, ⟨⟨⟨q8.1, q9.1⟩, ⟨q10.1, q11.1⟩⟩, ⟨⟨q12.1, q13.1⟩, ⟨q14.1, q15.1⟩⟩⟩⟩, ⟨⟨⟨⟨q16.1, q17.1⟩, ⟨q18.1, q19.1⟩⟩, ⟨⟨q20.1, q21.1⟩, ⟨q22.1, q23.1⟩⟩⟩, ⟨⟨⟨q24.1, q25.1⟩, ⟨q26.1, q27.1⟩⟩, ⟨⟨q28.1, q29.1⟩, ⟨q30.1, q31.1⟩⟩⟩⟩⟩, q31.2⟩
theorem dX12_comes_114 : decode cX12_comes 114 = .ok (.iload_n 2, 1) := fp_hdX12_comes_114.1.1.1.1.1.1
theorem dX12_comes_115 : decode cX12_comes 115 = .ok (.iastore, 1) := fp_hdX12_comes_114.1.1.1.1.1.2
theorem dX12_comes_116 : decode cX12_comes 116 = .ok (.aload_n 0, 1) := fp_hdX12_comes_114.1.1.1.1.2.1
theorem dX12_comes_117 : decode cX12_comes 117 = .ok (.getfield 7, 3) := fp_hdX12_comes_114.1.1.1.1.2.2
theorem dX12_comes_120 : decode cX12_comes 120 = .ok (.bipush 47, 2) := fp_hdX12_comes_114.1.1.1.2.1.1
theorem dX12_comes_122 : decode cX12_comes 122 = .ok (.iconst 4, 1) := fp_hdX12_comes_114.1.1.1.2.1.2
theorem dX12_comes_123 : decode cX12_comes 123 = .ok (.iload 5, 2) := fp_hdX12_comes_114.1.1.1.2.2.1
theorem dX12_comes_125 : decode cX12_comes 125 = .ok (.imul, 1) := fp_hdX12_comes_114.1.1.1.2.2.2
theorem dX12_comes_126 : decode cX12_comes 126 = .ok (.iadd, 1) := fp_hdX12_comes_114.1.1.2.1.1.1
theorem dX12_comes_127 : decode cX12_comes 127 = .ok (.iconst 2, 1) := fp_hdX12_comes_114.1.1.2.1.1.2
theorem dX12_comes_128 : decode cX12_comes 128 = .ok (.iadd, 1) := fp_hdX12_comes_114.1.1.2.1.2.1
theorem dX12_comes_129 : decode cX12_comes 129 = .ok (.iload_n 3, 1) := fp_hdX12_comes_114.1.1.2.1.2.2
theorem dX12_comes_130 : decode cX12_comes 130 = .ok (.iastore, 1) := fp_hdX12_comes_114.1.1.2.2.1.1
theorem dX12_comes_131 : decode cX12_comes 131 = .ok (.aload_n 0, 1) := fp_hdX12_comes_114.1.1.2.2.1.2
theorem dX12_comes_132 : decode cX12_comes 132 = .ok (.getfield 7, 3) := fp_hdX12_comes_114.1.1.2.2.2.1
theorem dX12_comes_135 : decode cX12_comes 135 = .ok (.bipush 47, 2) := fp_hdX12_comes_114.1.1.2.2.2.2
theorem dX12_comes_137 : decode cX12_comes 137 = .ok (.iconst 4, 1) := fp_hdX12_comes_114.1.2.1.1.1.1
theorem dX12_comes_138 : decode cX12_comes 138 = .ok (.iload 5, 2) := fp_hdX12_comes_114.1.2.1.1.1.2
theorem dX12_comes_140 : decode cX12_comes 140 = .ok (.imul, 1) := fp_hdX12_comes_114.1.2.1.1.2.1
theorem dX12_comes_141 : decode cX12_comes 141 = .ok (.iadd, 1) := fp_hdX12_comes_114.1.2.1.1.2.2
theorem dX12_comes_142 : decode cX12_comes 142 = .ok (.iconst 3, 1) := fp_hdX12_comes_114.1.2.1.2.1.1
theorem dX12_comes_143 : decode cX12_comes 143 = .ok (.iadd, 1) := fp_hdX12_comes_114.1.2.1.2.1.2
theorem dX12_comes_144 : decode cX12_comes 144 = .ok (.iload 4, 2) := fp_hdX12_comes_114.1.2.1.2.2.1
theorem dX12_comes_146 : decode cX12_comes 146 = .ok (.iastore, 1) := fp_hdX12_comes_114.1.2.1.2.2.2
theorem dX12_comes_147 : decode cX12_comes 147 = .ok (.aload_n 0, 1) := fp_hdX12_comes_114.1.2.2.1.1.1
theorem dX12_comes_148 : decode cX12_comes 148 = .ok (.getfield 7, 3) := fp_hdX12_comes_114.1.2.2.1.1.2
theorem dX12_comes_151 : decode cX12_comes 151 = .ok (.bipush 95, 2) := fp_hdX12_comes_114.1.2.2.1.2.1
theorem dX12_comes_153 : decode cX12_comes 153 = .ok (.dup2, 1) := fp_hdX12_comes_114.1.2.2.1.2.2
theorem dX12_comes_154 : decode cX12_comes 154 = .ok (.iaload, 1) := fp_hdX12_comes_114.1.2.2.2.1.1
theorem dX12_comes_155 : decode cX12_comes 155 = .ok (.iconst 1, 1) := fp_hdX12_comes_114.1.2.2.2.1.2
theorem dX12_comes_156 : decode cX12_comes 156 = .ok (.iadd, 1) := fp_hdX12_comes_114.1.2.2.2.2.1
theorem dX12_comes_157 : decode cX12_comes 157 = .ok (.iastore, 1) := fp_hdX12_comes_114.1.2.2.2.2.2
theorem fp_hdX12_comes_158 : ((decode cX12_comes 158 = .ok (.iload 5, 2) ∧ decode cX12_comes 160 = .ok (.iconst 1, 1)) ∧ (decode cX12_comes 161 = .ok (.iadd, 1) ∧ decode cX12_comes 162 = .ok (.ireturn, 1))) ∧ bA cX12_comes 163 [] :=
  have q0 := fp_o21 fp_hdX12_comes_114.2
  have q1 := fp_o4 q0.2
  have q2 := fp_o96 q1.2
  have q3 := fp_o172 q2.2
  ⟨⟨⟨q0.1, q1.1⟩, ⟨q2.1, q3.1⟩⟩, q3.2⟩
theorem dX12_comes_158 : decode cX12_comes 158 = .ok (.iload 5, 2) := fp_hdX12_comes_158.1.1.1
theorem dX12_comes_160 : decode cX12_comes 160 = .ok (.iconst 1, 1) := fp_hdX12_comes_158.1.1.2
theorem dX12_comes_161 : decode cX12_comes 161 = .ok (.iadd, 1) := fp_hdX12_comes_158.1.2.1
theorem dX12_comes_162 : decode cX12_comes 162 = .ok (.ireturn, 1) := fp_hdX12_comes_158.1.2.2
def fp_scX12_come_0 : List Nat := 42 :: 27 :: 28 :: 29 :: 21 :: 4 :: 182 :: 0 :: 253 :: 172 :: []
theorem fp_bcX12_come : bA cX12_come 0 fp_scX12_come_0 := show cX12_come.data.toList.map UInt8.toNat = fp_scX12_come_0 from by decide +kernel
theorem fp_hdX12_come_0 : (((decode cX12_come 0 = .ok (.aload_n 0, 1) ∧ decode cX12_come 1 = .ok (.iload_n 1, 1)) ∧ (decode cX12_come 2 = .ok (.iload_n 2, 1) ∧ decode cX12_come 3 = .ok (.iload_n 3, 1))) ∧ ((decode cX12_come 4 = .ok (.iload 4, 2) ∧ decode cX12_come 6 = .ok (.invokevirtual 253, 3)) ∧ decode cX12_come 9 = .ok (.ireturn, 1))) ∧ bA cX12_come 10 [] :=
  have q0 := fp_o42 fp_bcX12_come
  have q1 := fp_o27 q0.2
  have q2 := fp_o28 q1.2
  have q3 := fp_o29 q2.2
  have q4 := fp_o21 q3.2
  have q5 := fp_o182 (v := 253) q4.2 rfl
  have q6 := fp_o172 q5.2
  ⟨⟨⟨⟨q0.1, q1.1⟩, ⟨q2.1, q3.1⟩⟩, ⟨⟨q4.1, q5.1⟩, q6.1⟩⟩, q6.2⟩
theorem dX12_come_0 : decode cX12_come 0 = .ok (.aload_n 0, 1) := fp_hdX12_come_0.1.1.1.1
theorem dX12_come_1 : decode cX12_come 1 = .ok (.iload_n 1, 1) := fp_hdX12_come_0.1.1.1.2
theorem dX12_come_2 : decode cX12_come 2 = .ok (.iload_n 2, 1) := fp_hdX12_come_0.1.1.2.1
theorem dX12_come_3 : decode cX12_come 3 = .ok (.iload_n 3, 1) := fp_hdX12_come_0.1.1.2.2
theorem dX12_come_4 : decode cX12_come 4 = .ok (.iload 4, 2) := fp_hdX12_come_0.1.2.1.1
theorem dX12_come_6 : decode cX12_come 6 = .ok (.invokevirtual 253, 3) := fp_hdX12_come_0.1.2.1.2
theorem dX12_come_9 : decode cX12_come 9 = .ok (.ireturn, 1) := fp_hdX12_come_0.1.2.2
def fp_scX12_cut_0 : List Nat := 27 :: 133 :: 9 :: 42 :: 182 :: 0 :: 225 :: 133 :: 184 :: 0 :: 94 :: 154 :: 0 :: 5 :: 2 :: 172 :: 42 :: 182 :: 0 :: 225 :: 61 :: 42 :: 180 :: 0 :: 7 :: 16 :: 95 :: 27 :: 79 :: 28 :: 172 :: []
theorem fp_bcX12_cut : bA cX12_cut 0 fp_scX12_cut_0 := show cX12_cut.data.toList.map UInt8.toNat = fp_scX12_cut_0 from by decide +kernel
theorem fp_hdX12_cut_0 : (((((decode cX12_cut 0 = .ok (.iload_n 1, 1) ∧ decode cX12_cut 1 = .ok (.i2l, 1)) ∧ decode cX12_cut 2 = .ok (.lconst 0, 1)) ∧ (decode cX12_cut 3 = .ok (.aload_n 0, 1) ∧ decode cX12_cut 4 = .ok (.invokevirtual 225, 3))) ∧ (((decode cX12_cut 7 = .ok (.i2l, 1) ∧ decode cX12_cut 8 = .ok (.invokestatic 94, 3)) ∧ decode cX12_cut 11 = .ok (.ifCond .ne 5, 3)) ∧ (decode cX12_cut 14 = .ok (.iconst (-1), 1) ∧ decode cX12_cut 15 = .ok (.ireturn, 1)))) ∧ ((((decode cX12_cut 16 = .ok (.aload_n 0, 1) ∧ decode cX12_cut 17 = .ok (.invokevirtual 225, 3)) ∧ decode cX12_cut 20 = .ok (.istore_n 2, 1)) ∧ (decode cX12_cut 21 = .ok (.aload_n 0, 1) ∧ decode cX12_cut 22 = .ok (.getfield 7, 3))) ∧ (((decode cX12_cut 25 = .ok (.bipush 95, 2) ∧ decode cX12_cut 27 = .ok (.iload_n 1, 1)) ∧ decode cX12_cut 28 = .ok (.iastore, 1)) ∧ (decode cX12_cut 29 = .ok (.iload_n 2, 1) ∧ decode cX12_cut 30 = .ok (.ireturn, 1))))) ∧ bA cX12_cut 31 [] :=
  have q0 := fp_o27 fp_bcX12_cut
  have q1 := fp_o133 q0.2
  have q2 := fp_o9 q1.2
  have q3 := fp_o42 q2.2
  have q4 := fp_o182 (v := 225) q3.2 rfl
  have q5 := fp_o133 q4.2
  have q6 := fp_o184 (v := 94) q5.2 rfl
  have q7 := fp_o154 (v := 5) q6.2 rfl
  have q8 := fp_o2 q7.2
  have q9 := fp_o172 q8.2
  have q10 := fp_o42 q9.2
  have q11 := fp_o182 (v := 225) q10.2 rfl
  have q12 := fp_o61 q11.2
  have q13 := fp_o42 q12.2
  have q14 := fp_o180 (v := 7) q13.2 rfl
  have q15 := fp_o16 (v := 95) q14.2 rfl
  have q16 := fp_o27 q15.2
  have q17 := fp_o79 q16.2
  have q18 := fp_o28 q17.2
  have q19 := fp_o172 q18.2
  ⟨⟨⟨⟨⟨⟨q0.1, q1.1⟩, q2.1⟩, ⟨q3.1, q4.1⟩⟩, ⟨⟨⟨q5.1, q6.1⟩, q7.1⟩, ⟨q8.1, q9.1⟩⟩⟩, ⟨⟨⟨⟨q10.1, q11.1⟩, q12.1⟩, ⟨q13.1, q14.1⟩⟩, ⟨⟨⟨q15.1, q16.1⟩, q17.1⟩, ⟨q18.1, q19.1⟩⟩⟩⟩, q19.2⟩
theorem dX12_cut_0 : decode cX12_cut 0 = .ok (.iload_n 1, 1) := fp_hdX12_cut_0.1.1.1.1.1.1
theorem dX12_cut_1 : decode cX12_cut 1 = .ok (.i2l, 1) := fp_hdX12_cut_0.1.1.1.1.1.2
theorem dX12_cut_2 : decode cX12_cut 2 = .ok (.lconst 0, 1) := fp_hdX12_cut_0.1.1.1.1.2
theorem dX12_cut_3 : decode cX12_cut 3 = .ok (.aload_n 0, 1) := fp_hdX12_cut_0.1.1.1.2.1
theorem dX12_cut_4 : decode cX12_cut 4 = .ok (.invokevirtual 225, 3) := fp_hdX12_cut_0.1.1.1.2.2
theorem dX12_cut_7 : decode cX12_cut 7 = .ok (.i2l, 1) := fp_hdX12_cut_0.1.1.2.1.1.1
theorem dX12_cut_8 : decode cX12_cut 8 = .ok (.invokestatic 94, 3) := fp_hdX12_cut_0.1.1.2.1.1.2
theorem dX12_cut_11 : decode cX12_cut 11 = .ok (.ifCond .ne 5, 3) := fp_hdX12_cut_0.1.1.2.1.2
theorem dX12_cut_14 : decode cX12_cut 14 = .ok (.iconst (-1), 1) := fp_hdX12_cut_0.1.1.2.2.1
theorem dX12_cut_15 : decode cX12_cut 15 = .ok (.ireturn, 1) := fp_hdX12_cut_0.1.1.2.2.2
theorem dX12_cut_16 : decode cX12_cut 16 = .ok (.aload_n 0, 1) := fp_hdX12_cut_0.1.2.1.1.1.1
theorem dX12_cut_17 : decode cX12_cut 17 = .ok (.invokevirtual 225, 3) := fp_hdX12_cut_0.1.2.1.1.1.2
theorem dX12_cut_20 : decode cX12_cut 20 = .ok (.istore_n 2, 1) := fp_hdX12_cut_0.1.2.1.1.2
theorem dX12_cut_21 : decode cX12_cut 21 = .ok (.aload_n 0, 1) := fp_hdX12_cut_0.1.2.1.2.1
theorem dX12_cut_22 : decode cX12_cut 22 = .ok (.getfield 7, 3) := fp_hdX12_cut_0.1.2.1.2.2
theorem dX12_cut_25 : decode cX12_cut 25 = .ok (.bipush 95, 2) := fp_hdX12_cut_0.1.2.2.1.1.1
theorem dX12_cut_27 : decode cX12_cut 27 = .ok (.iload_n 1, 1) := fp_hdX12_cut_0.1.2.2.1.1.2
theorem dX12_cut_28 : decode cX12_cut 28 = .ok (.iastore, 1) := fp_hdX12_cut_0.1.2.2.1.2
theorem dX12_cut_29 : decode cX12_cut 29 = .ok (.iload_n 2, 1) := fp_hdX12_cut_0.1.2.2.2.1
theorem dX12_cut_30 : decode cX12_cut 30 = .ok (.ireturn, 1) := fp_hdX12_cut_0.1.2.2.2.2
def fp_scX12_visits2_1 : List Nat := 4 :: 167 :: 0 :: 17 :: 3 :: 167 :: 0 :: 13 :: 42 :: 27 :: 21 :: 4 :: 21 :: 5 :: 29 :: 182 :: 0 :: 244 :: 172 :: []
def fp_scX12_visits2_0 : List Nat := 42 :: 180 :: 0 :: 7 :: 16 :: 47 :: 7 :: 28 :: 104 :: 96 :: 4 :: 96 :: 46 :: 54 :: 4 :: 42 :: 180 :: 0 :: 7 :: 16 :: 47 :: 7 :: 28 :: 104 :: 96 :: 6 :: 96 :: 46 :: 54 :: 5 :: 21 :: 5 :: 16 :: 252 :: 160 :: 0 :: 24 :: 42 :: 27 :: 21 :: 4 :: 29 :: 182 :: 0 :: 248 :: 16 :: 252 :: 159 :: 0 :: 7 :: fp_scX12_visits2_1
theorem fp_bcX12_visits2 : bA cX12_visits2 0 fp_scX12_visits2_0 := show cX12_visits2.data.toList.map UInt8.toNat = fp_scX12_visits2_0 from by decide +kernel
theorem fp_hdX12_visits2_0 : (((((decode cX12_visits2 0 = .ok (.aload_n 0, 1) ∧ decode cX12_visits2 1 = .ok (.getfield 7, 3)) ∧ (decode cX12_visits2 4 = .ok (.bipush 47, 2) ∧ decode cX12_visits2 6 = .ok (.iconst 4, 1))) ∧ ((decode cX12_visits2 7 = .ok (.iload_n 2, 1) ∧ decode cX12_visits2 8 = .ok (.imul, 1)) ∧ (decode cX12_visits2 9 = .ok (.iadd, 1) ∧ decode cX12_visits2 10 = .ok (.iconst 1, 1)))) ∧ (((decode cX12_visits2 11 = .ok (.iadd, 1) ∧ decode cX12_visits2 12 = .ok (.iaload, 1)) ∧ (decode cX12_visits2 13 = .ok (.istore 4, 2) ∧ decode cX12_visits2 15 = .ok (.aload_n 0, 1))) ∧ ((decode cX12_visits2 16 = .ok (.getfield 7, 3) ∧ decode cX12_visits2 19 = .ok (.bipush 47, 2)) ∧ (decode cX12_visits2 21 = .ok (.iconst 4, 1) ∧ decode cX12_visits2 22 = .ok (.iload_n 2, 1))))) ∧ ((((decode cX12_visits2 23 = .ok (.imul, 1) ∧ decode cX12_visits2 24 = .ok (.iadd, 1)) ∧ (decode cX12_visits2 25 = .ok (.iconst 3, 1) ∧ decode cX12_visits2 26 = .ok (.iadd, 1))) ∧ ((decode cX12_visits2 27 = .ok (.iaload, 1) ∧ decode cX12_visits2 28 = .ok (.istore 5, 2)) ∧ (decode cX12_visits2 30 = .ok (.iload 5, 2) ∧ decode cX12_visits2 32 = .ok (.bipush (-4), 2)))) ∧ (((decode cX12_visits2 34 = .ok (.if_icmp .ne 24, 3) ∧ decode cX12_visits2 37 = .ok (.aload_n 0, 1)) ∧ (decode cX12_visits2 38 = .ok (.iload_n 1, 1) ∧ decode cX12_visits2 39 = .ok (.iload 4, 2))) ∧ ((decode cX12_visits2 41 = .ok (.iload_n 3, 1) ∧ decode cX12_visits2 42 = .ok (.invokevirtual 248, 3)) ∧ (decode cX12_visits2 45 = .ok (.bipush (-4), 2) ∧ decode cX12_visits2 47 = .ok (.if_icmp .eq 7, 3)))))) ∧ bA cX12_visits2 50 fp_scX12_visits2_1 :=
  have q0 := fp_o42 fp_bcX12_visits2
  have q1 := fp_o180 (v := 7) q0.2 rfl
  have q2 := fp_o16 (v := 47) q1.2 rfl
  have q3 := fp_o7 q2.2
  have q4 := fp_o28 q3.2
  have q5 := fp_o104 q4.2
  have q6 := fp_o96 q5.2
  have q7 := fp_o4 q6.2
  have q8 := fp_o96 q7.2
  have q9 := fp_o46 q8.2
  have q10 := fp_o54 q9.2
  have q11 := fp_o42 q10.2
  have q12 := fp_o180 (v := 7) q11.2 rfl
  have q13 := fp_o16 (v := 47) q12.2 rfl
  have q14 := fp_o7 q13.2
  have q15 := fp_o28 q14.2
  have q16 := fp_o104 q15.2
  have q17 := fp_o96 q16.2
  have q18 := fp_o6 q17.2
  have q19 := fp_o96 q18.2
  have q20 := fp_o46 q19.2
  have q21 := fp_o54 q20.2
  have q22 := fp_o21 q21.2
  have q23 := fp_o16 (v := (-4)) q22.2 rfl
  have q24 := fp_o160 (v := 24) q23.2 rfl
  have q25 := fp_o42 q24.2
  have q26 := fp_o27 q25.2
  have q27 := fp_o21 q26.2
  have q28 := fp_o29 q27.2
  have q29 := fp_o182 (v := 248) q28.2 rfl
  have q30 := fp_o16 (v := (-4)) q29.2 rfl
  have q31 := fp_o159 (v := 7) q30.2 rfl
  ⟨⟨⟨⟨⟨⟨q0.1, q1.1⟩, ⟨q2.1, q3.1⟩⟩, ⟨⟨q4.1, q5.1⟩, ⟨q6.1, q7.1⟩⟩⟩, ⟨⟨⟨q8.1, q9.1⟩, ⟨q10.1, q11.1⟩⟩, ⟨⟨q12.1, q13.1⟩, ⟨q14.1, q15.1⟩⟩⟩⟩, ⟨⟨⟨⟨q16.1, q17.1⟩, ⟨q18.1, q19.1⟩⟩, ⟨⟨q20.1, q21.1⟩, ⟨q22.1, q23.1⟩⟩⟩, ⟨⟨⟨q24.1, q25.1⟩, ⟨q26.1, q27.1⟩⟩, ⟨⟨q28.1, q29.1⟩, ⟨q30.1, q31.1⟩⟩⟩⟩⟩, q31.2⟩
theorem dX12_visits2_0 : decode cX12_visits2 0 = .ok (.aload_n 0, 1) := fp_hdX12_visits2_0.1.1.1.1.1.1
theorem dX12_visits2_1 : decode cX12_visits2 1 = .ok (.getfield 7, 3) := fp_hdX12_visits2_0.1.1.1.1.1.2
theorem dX12_visits2_4 : decode cX12_visits2 4 = .ok (.bipush 47, 2) := fp_hdX12_visits2_0.1.1.1.1.2.1
theorem dX12_visits2_6 : decode cX12_visits2 6 = .ok (.iconst 4, 1) := fp_hdX12_visits2_0.1.1.1.1.2.2
theorem dX12_visits2_7 : decode cX12_visits2 7 = .ok (.iload_n 2, 1) := fp_hdX12_visits2_0.1.1.1.2.1.1
theorem dX12_visits2_8 : decode cX12_visits2 8 = .ok (.imul, 1) := fp_hdX12_visits2_0.1.1.1.2.1.2
theorem dX12_visits2_9 : decode cX12_visits2 9 = .ok (.iadd, 1) := fp_hdX12_visits2_0.1.1.1.2.2.1
theorem dX12_visits2_10 : decode cX12_visits2 10 = .ok (.iconst 1, 1) := fp_hdX12_visits2_0.1.1.1.2.2.2
theorem dX12_visits2_11 : decode cX12_visits2 11 = .ok (.iadd, 1) := fp_hdX12_visits2_0.1.1.2.1.1.1
theorem dX12_visits2_12 : decode cX12_visits2 12 = .ok (.iaload, 1) := fp_hdX12_visits2_0.1.1.2.1.1.2
theorem dX12_visits2_13 : decode cX12_visits2 13 = .ok (.istore 4, 2) := fp_hdX12_visits2_0.1.1.2.1.2.1
theorem dX12_visits2_15 : decode cX12_visits2 15 = .ok (.aload_n 0, 1) := fp_hdX12_visits2_0.1.1.2.1.2.2
theorem dX12_visits2_16 : decode cX12_visits2 16 = .ok (.getfield 7, 3) := fp_hdX12_visits2_0.1.1.2.2.1.1
theorem dX12_visits2_19 : decode cX12_visits2 19 = .ok (.bipush 47, 2) := fp_hdX12_visits2_0.1.1.2.2.1.2
theorem dX12_visits2_21 : decode cX12_visits2 21 = .ok (.iconst 4, 1) := fp_hdX12_visits2_0.1.1.2.2.2.1
theorem dX12_visits2_22 : decode cX12_visits2 22 = .ok (.iload_n 2, 1) := fp_hdX12_visits2_0.1.1.2.2.2.2
theorem dX12_visits2_23 : decode cX12_visits2 23 = .ok (.imul, 1) := fp_hdX12_visits2_0.1.2.1.1.1.1
theorem dX12_visits2_24 : decode cX12_visits2 24 = .ok (.iadd, 1) := fp_hdX12_visits2_0.1.2.1.1.1.2
theorem dX12_visits2_25 : decode cX12_visits2 25 = .ok (.iconst 3, 1) := fp_hdX12_visits2_0.1.2.1.1.2.1
theorem dX12_visits2_26 : decode cX12_visits2 26 = .ok (.iadd, 1) := fp_hdX12_visits2_0.1.2.1.1.2.2
theorem dX12_visits2_27 : decode cX12_visits2 27 = .ok (.iaload, 1) := fp_hdX12_visits2_0.1.2.1.2.1.1
theorem dX12_visits2_28 : decode cX12_visits2 28 = .ok (.istore 5, 2) := fp_hdX12_visits2_0.1.2.1.2.1.2
theorem dX12_visits2_30 : decode cX12_visits2 30 = .ok (.iload 5, 2) := fp_hdX12_visits2_0.1.2.1.2.2.1
theorem dX12_visits2_32 : decode cX12_visits2 32 = .ok (.bipush (-4), 2) := fp_hdX12_visits2_0.1.2.1.2.2.2
theorem dX12_visits2_34 : decode cX12_visits2 34 = .ok (.if_icmp .ne 24, 3) := fp_hdX12_visits2_0.1.2.2.1.1.1
theorem dX12_visits2_37 : decode cX12_visits2 37 = .ok (.aload_n 0, 1) := fp_hdX12_visits2_0.1.2.2.1.1.2
theorem dX12_visits2_38 : decode cX12_visits2 38 = .ok (.iload_n 1, 1) := fp_hdX12_visits2_0.1.2.2.1.2.1
theorem dX12_visits2_39 : decode cX12_visits2 39 = .ok (.iload 4, 2) := fp_hdX12_visits2_0.1.2.2.1.2.2
theorem dX12_visits2_41 : decode cX12_visits2 41 = .ok (.iload_n 3, 1) := fp_hdX12_visits2_0.1.2.2.2.1.1
theorem dX12_visits2_42 : decode cX12_visits2 42 = .ok (.invokevirtual 248, 3) := fp_hdX12_visits2_0.1.2.2.2.1.2
theorem dX12_visits2_45 : decode cX12_visits2 45 = .ok (.bipush (-4), 2) := fp_hdX12_visits2_0.1.2.2.2.2.1
theorem dX12_visits2_47 : decode cX12_visits2 47 = .ok (.if_icmp .eq 7, 3) := fp_hdX12_visits2_0.1.2.2.2.2.2
theorem fp_hdX12_visits2_50 : ((((decode cX12_visits2 50 = .ok (.iconst 1, 1) ∧ decode cX12_visits2 51 = .ok (.goto 17, 3)) ∧ decode cX12_visits2 54 = .ok (.iconst 0, 1)) ∧ ((decode cX12_visits2 55 = .ok (.goto 13, 3) ∧ decode cX12_visits2 58 = .ok (.aload_n 0, 1)) ∧ decode cX12_visits2 59 = .ok (.iload_n 1, 1))) ∧ (((decode cX12_visits2 60 = .ok (.iload 4, 2) ∧ decode cX12_visits2 62 = .ok (.iload 5, 2)) ∧ decode cX12_visits2 64 = .ok (.iload_n 3, 1)) ∧ (decode cX12_visits2 65 = .ok (.invokevirtual 244, 3) ∧ decode cX12_visits2 68 = .ok (.ireturn, 1)))) ∧ bA cX12_visits2 69 [] :=
  have q0 := fp_o4 fp_hdX12_visits2_0.2
  have q1 := fp_o167 (v := 17) q0.2 rfl
  have q2 := fp_o3 q1.2
  have q3 := fp_o167 (v := 13) q2.2 rfl
  have q4 := fp_o42 q3.2
  have q5 := fp_o27 q4.2
  have q6 := fp_o21 q5.2
  have q7 := fp_o21 q6.2
  have q8 := fp_o29 q7.2
  have q9 := fp_o182 (v := 244) q8.2 rfl
  have q10 := fp_o172 q9.2
  ⟨⟨⟨⟨⟨q0.1, q1.1⟩, q2.1⟩, ⟨⟨q3.1, q4.1⟩, q5.1⟩⟩, ⟨⟨⟨q6.1, q7.1⟩, q8.1⟩, ⟨q9.1, q10.1⟩⟩⟩, q10.2⟩
theorem dX12_visits2_50 : decode cX12_visits2 50 = .ok (.iconst 1, 1) := fp_hdX12_visits2_50.1.1.1.1.1
theorem dX12_visits2_51 : decode cX12_visits2 51 = .ok (.goto 17, 3) := fp_hdX12_visits2_50.1.1.1.1.2
theorem dX12_visits2_54 : decode cX12_visits2 54 = .ok (.iconst 0, 1) := fp_hdX12_visits2_50.1.1.1.2
theorem dX12_visits2_55 : decode cX12_visits2 55 = .ok (.goto 13, 3) := fp_hdX12_visits2_50.1.1.2.1.1
theorem dX12_visits2_58 : decode cX12_visits2 58 = .ok (.aload_n 0, 1) := fp_hdX12_visits2_50.1.1.2.1.2
theorem dX12_visits2_59 : decode cX12_visits2 59 = .ok (.iload_n 1, 1) := fp_hdX12_visits2_50.1.1.2.2
theorem dX12_visits2_60 : decode cX12_visits2 60 = .ok (.iload 4, 2) := fp_hdX12_visits2_50.1.2.1.1.1
theorem dX12_visits2_62 : decode cX12_visits2 62 = .ok (.iload 5, 2) := fp_hdX12_visits2_50.1.2.1.1.2
theorem dX12_visits2_64 : decode cX12_visits2 64 = .ok (.iload_n 3, 1) := fp_hdX12_visits2_50.1.2.1.2
theorem dX12_visits2_65 : decode cX12_visits2 65 = .ok (.invokevirtual 244, 3) := fp_hdX12_visits2_50.1.2.2.1
theorem dX12_visits2_68 : decode cX12_visits2 68 = .ok (.ireturn, 1) := fp_hdX12_visits2_50.1.2.2.2
def fp_scX12_happens_0 : List Nat := 42 :: 27 :: 28 :: 42 :: 180 :: 0 :: 7 :: 16 :: 47 :: 7 :: 28 :: 104 :: 96 :: 5 :: 96 :: 46 :: 182 :: 1 :: 1 :: 172 :: []
theorem fp_bcX12_happens : bA cX12_happens 0 fp_scX12_happens_0 := show cX12_happens.data.toList.map UInt8.toNat = fp_scX12_happens_0 from by decide +kernel
theorem fp_hdX12_happens_0 : ((((decode cX12_happens 0 = .ok (.aload_n 0, 1) ∧ decode cX12_happens 1 = .ok (.iload_n 1, 1)) ∧ (decode cX12_happens 2 = .ok (.iload_n 2, 1) ∧ decode cX12_happens 3 = .ok (.aload_n 0, 1))) ∧ ((decode cX12_happens 4 = .ok (.getfield 7, 3) ∧ decode cX12_happens 7 = .ok (.bipush 47, 2)) ∧ (decode cX12_happens 9 = .ok (.iconst 4, 1) ∧ decode cX12_happens 10 = .ok (.iload_n 2, 1)))) ∧ (((decode cX12_happens 11 = .ok (.imul, 1) ∧ decode cX12_happens 12 = .ok (.iadd, 1)) ∧ (decode cX12_happens 13 = .ok (.iconst 2, 1) ∧ decode cX12_happens 14 = .ok (.iadd, 1))) ∧ ((decode cX12_happens 15 = .ok (.iaload, 1) ∧ decode cX12_happens 16 = .ok (.invokevirtual 257, 3)) ∧ decode cX12_happens 19 = .ok (.ireturn, 1)))) ∧ bA cX12_happens 20 [] :=
  have q0 := fp_o42 fp_bcX12_happens
  have q1 := fp_o27 q0.2
  have q2 := fp_o28 q1.2
  have q3 := fp_o42 q2.2
  have q4 := fp_o180 (v := 7) q3.2 rfl
  have q5 := fp_o16 (v := 47) q4.2 rfl
  have q6 := fp_o7 q5.2
  have q7 := fp_o28 q6.2
  have q8 := fp_o104 q7.2
  have q9 := fp_o96 q8.2
  have q10 := fp_o5 q9.2
  have q11 := fp_o96 q10.2
  have q12 := fp_o46 q11.2
  have q13 := fp_o182 (v := 257) q12.2 rfl
  have q14 := fp_o172 q13.2
  ⟨⟨⟨⟨⟨q0.1, q1.1⟩, ⟨q2.1, q3.1⟩⟩, ⟨⟨q4.1, q5.1⟩, ⟨q6.1, q7.1⟩⟩⟩, ⟨⟨⟨q8.1, q9.1⟩, ⟨q10.1, q11.1⟩⟩, ⟨⟨q12.1, q13.1⟩, q14.1⟩⟩⟩, q14.2⟩
theorem dX12_happens_0 : decode cX12_happens 0 = .ok (.aload_n 0, 1) := fp_hdX12_happens_0.1.1.1.1.1
theorem dX12_happens_1 : decode cX12_happens 1 = .ok (.iload_n 1, 1) := fp_hdX12_happens_0.1.1.1.1.2
theorem dX12_happens_2 : decode cX12_happens 2 = .ok (.iload_n 2, 1) := fp_hdX12_happens_0.1.1.1.2.1
theorem dX12_happens_3 : decode cX12_happens 3 = .ok (.aload_n 0, 1) := fp_hdX12_happens_0.1.1.1.2.2
theorem dX12_happens_4 : decode cX12_happens 4 = .ok (.getfield 7, 3) := fp_hdX12_happens_0.1.1.2.1.1
theorem dX12_happens_7 : decode cX12_happens 7 = .ok (.bipush 47, 2) := fp_hdX12_happens_0.1.1.2.1.2
theorem dX12_happens_9 : decode cX12_happens 9 = .ok (.iconst 4, 1) := fp_hdX12_happens_0.1.1.2.2.1
theorem dX12_happens_10 : decode cX12_happens 10 = .ok (.iload_n 2, 1) := fp_hdX12_happens_0.1.1.2.2.2
theorem dX12_happens_11 : decode cX12_happens 11 = .ok (.imul, 1) := fp_hdX12_happens_0.1.2.1.1.1
theorem dX12_happens_12 : decode cX12_happens 12 = .ok (.iadd, 1) := fp_hdX12_happens_0.1.2.1.1.2
theorem dX12_happens_13 : decode cX12_happens 13 = .ok (.iconst 2, 1) := fp_hdX12_happens_0.1.2.1.2.1
theorem dX12_happens_14 : decode cX12_happens 14 = .ok (.iadd, 1) := fp_hdX12_happens_0.1.2.1.2.2
theorem dX12_happens_15 : decode cX12_happens 15 = .ok (.iaload, 1) := fp_hdX12_happens_0.1.2.2.1.1
theorem dX12_happens_16 : decode cX12_happens 16 = .ok (.invokevirtual 257, 3) := fp_hdX12_happens_0.1.2.2.1.2
theorem dX12_happens_19 : decode cX12_happens 19 = .ok (.ireturn, 1) := fp_hdX12_happens_0.1.2.2.2
def fp_scX12_go_2 : List Nat := 100 :: 79 :: 28 :: 172 :: []
def fp_scX12_go_1 : List Nat := 104 :: 62 :: 29 :: 7 :: 42 :: 182 :: 0 :: 225 :: 104 :: 162 :: 0 :: 31 :: 42 :: 180 :: 0 :: 7 :: 16 :: 47 :: 29 :: 96 :: 7 :: 27 :: 104 :: 100 :: 42 :: 180 :: 0 :: 7 :: 16 :: 47 :: 29 :: 96 :: 46 :: 79 :: 132 :: 3 :: 1 :: 167 :: 255 :: 221 :: 42 :: 180 :: 0 :: 7 :: 16 :: 95 :: 92 :: 46 :: 27 :: fp_scX12_go_2
def fp_scX12_go_0 : List Nat := 27 :: 133 :: 9 :: 42 :: 182 :: 0 :: 225 :: 133 :: 184 :: 0 :: 94 :: 154 :: 0 :: 5 :: 2 :: 172 :: 3 :: 61 :: 3 :: 62 :: 29 :: 27 :: 162 :: 0 :: 26 :: 28 :: 42 :: 3 :: 29 :: 182 :: 1 :: 5 :: 153 :: 0 :: 7 :: 3 :: 167 :: 0 :: 4 :: 4 :: 96 :: 61 :: 132 :: 3 :: 1 :: 167 :: 255 :: 231 :: 7 :: 27 :: fp_scX12_go_1
theorem fp_bcX12_go : bA cX12_go 0 fp_scX12_go_0 := show cX12_go.data.toList.map UInt8.toNat = fp_scX12_go_0 from by decide +kernel
theorem fp_hdX12_go_0 : (((((decode cX12_go 0 = .ok (.iload_n 1, 1) ∧ decode cX12_go 1 = .ok (.i2l, 1)) ∧ (decode cX12_go 2 = .ok (.lconst 0, 1) ∧ decode cX12_go 3 = .ok (.aload_n 0, 1))) ∧ ((decode cX12_go 4 = .ok (.invokevirtual 225, 3) ∧ decode cX12_go 7 = .ok (.i2l, 1)) ∧ (decode cX12_go 8 = .ok (.invokestatic 94, 3) ∧ decode cX12_go 11 = .ok (.ifCond .ne 5, 3)))) ∧ (((decode cX12_go 14 = .ok (.iconst (-1), 1) ∧ decode cX12_go 15 = .ok (.ireturn, 1)) ∧ (decode cX12_go 16 = .ok (.iconst 0, 1) ∧ decode cX12_go 17 = .ok (.istore_n 2, 1))) ∧ ((decode cX12_go 18 = .ok (.iconst 0, 1) ∧ decode cX12_go 19 = .ok (.istore_n 3, 1)) ∧ (decode cX12_go 20 = .ok (.iload_n 3, 1) ∧ decode cX12_go 21 = .ok (.iload_n 1, 1))))) ∧ ((((decode cX12_go 22 = .ok (.if_icmp .ge 26, 3) ∧ decode cX12_go 25 = .ok (.iload_n 2, 1)) ∧ (decode cX12_go 26 = .ok (.aload_n 0, 1) ∧ decode cX12_go 27 = .ok (.iconst 0, 1))) ∧ ((decode cX12_go 28 = .ok (.iload_n 3, 1) ∧ decode cX12_go 29 = .ok (.invokevirtual 261, 3)) ∧ (decode cX12_go 32 = .ok (.ifCond .eq 7, 3) ∧ decode cX12_go 35 = .ok (.iconst 0, 1)))) ∧ (((decode cX12_go 36 = .ok (.goto 4, 3) ∧ decode cX12_go 39 = .ok (.iconst 1, 1)) ∧ (decode cX12_go 40 = .ok (.iadd, 1) ∧ decode cX12_go 41 = .ok (.istore_n 2, 1))) ∧ ((decode cX12_go 42 = .ok (.iinc 3 1, 3) ∧ decode cX12_go 45 = .ok (.goto (-25), 3)) ∧ (decode cX12_go 48 = .ok (.iconst 4, 1) ∧ decode cX12_go 49 = .ok (.iload_n 1, 1)))))) ∧ bA cX12_go 50 fp_scX12_go_1 :=
  have q0 := fp_o27 fp_bcX12_go
  have q1 := fp_o133 q0.2
  have q2 := fp_o9 q1.2
  have q3 := fp_o42 q2.2
  have q4 := fp_o182 (v := 225) q3.2 rfl
  have q5 := fp_o133 q4.2
  have q6 := fp_o184 (v := 94) q5.2 rfl
  have q7 := fp_o154 (v := 5) q6.2 rfl
  have q8 := fp_o2 q7.2
  have q9 := fp_o172 q8.2
  have q10 := fp_o3 q9.2
  have q11 := fp_o61 q10.2
  have q12 := fp_o3 q11.2
  have q13 := fp_o62 q12.2
  have q14 := fp_o29 q13.2
  have q15 := fp_o27 q14.2
  have q16 := fp_o162 (v := 26) q15.2 rfl
  have q17 := fp_o28 q16.2
  have q18 := fp_o42 q17.2
  have q19 := fp_o3 q18.2
  have q20 := fp_o29 q19.2
  have q21 := fp_o182 (v := 261) q20.2 rfl
  have q22 := fp_o153 (v := 7) q21.2 rfl
  have q23 := fp_o3 q22.2
  have q24 := fp_o167 (v := 4) q23.2 rfl
  have q25 := fp_o4 q24.2
  have q26 := fp_o96 q25.2
  have q27 := fp_o61 q26.2
  have q28 := fp_o132 (v := 1) q27.2 rfl
  have q29 := fp_o167 (v := (-25)) q28.2 rfl
  have q30 := fp_o7 q29.2
  have q31 := fp_o27 q30.2
  ⟨⟨⟨⟨⟨⟨q0.1, q1.1⟩, ⟨q2.1, q3.1⟩⟩, ⟨⟨q4.1, q5.1⟩, ⟨q6.1, q7.1⟩⟩⟩, ⟨⟨⟨q8.1, q9.1⟩, ⟨q10.1, q11.1⟩⟩, ⟨⟨q12.1, q13.1⟩, ⟨q14.1, q15.1⟩⟩⟩⟩, ⟨⟨⟨⟨q16.1, q17.1⟩, ⟨q18.1, q19.1⟩⟩, ⟨⟨q20.1, q21.1⟩, ⟨q22.1, q23.1⟩⟩⟩, ⟨⟨⟨q24.1, q25.1⟩, ⟨q26.1, q27.1⟩⟩, ⟨⟨q28.1, q29.1⟩, ⟨q30.1, q31.1⟩⟩⟩⟩⟩, q31.2⟩
theorem dX12_go_0 : decode cX12_go 0 = .ok (.iload_n 1, 1) := fp_hdX12_go_0.1.1.1.1.1.1
theorem dX12_go_1 : decode cX12_go 1 = .ok (.i2l, 1) := fp_hdX12_go_0.1.1.1.1.1.2
theorem dX12_go_2 : decode cX12_go 2 = .ok (.lconst 0, 1) := fp_hdX12_go_0.1.1.1.1.2.1
theorem dX12_go_3 : decode cX12_go 3 = .ok (.aload_n 0, 1) := fp_hdX12_go_0.1.1.1.1.2.2
theorem dX12_go_4 : decode cX12_go 4 = .ok (.invokevirtual 225, 3) := fp_hdX12_go_0.1.1.1.2.1.1
theorem dX12_go_7 : decode cX12_go 7 = .ok (.i2l, 1) := fp_hdX12_go_0.1.1.1.2.1.2
theorem dX12_go_8 : decode cX12_go 8 = .ok (.invokestatic 94, 3) := fp_hdX12_go_0.1.1.1.2.2.1
theorem dX12_go_11 : decode cX12_go 11 = .ok (.ifCond .ne 5, 3) := fp_hdX12_go_0.1.1.1.2.2.2
theorem dX12_go_14 : decode cX12_go 14 = .ok (.iconst (-1), 1) := fp_hdX12_go_0.1.1.2.1.1.1
theorem dX12_go_15 : decode cX12_go 15 = .ok (.ireturn, 1) := fp_hdX12_go_0.1.1.2.1.1.2
theorem dX12_go_16 : decode cX12_go 16 = .ok (.iconst 0, 1) := fp_hdX12_go_0.1.1.2.1.2.1
theorem dX12_go_17 : decode cX12_go 17 = .ok (.istore_n 2, 1) := fp_hdX12_go_0.1.1.2.1.2.2
theorem dX12_go_18 : decode cX12_go 18 = .ok (.iconst 0, 1) := fp_hdX12_go_0.1.1.2.2.1.1
theorem dX12_go_19 : decode cX12_go 19 = .ok (.istore_n 3, 1) := fp_hdX12_go_0.1.1.2.2.1.2
theorem dX12_go_20 : decode cX12_go 20 = .ok (.iload_n 3, 1) := fp_hdX12_go_0.1.1.2.2.2.1
theorem dX12_go_21 : decode cX12_go 21 = .ok (.iload_n 1, 1) := fp_hdX12_go_0.1.1.2.2.2.2
theorem dX12_go_22 : decode cX12_go 22 = .ok (.if_icmp .ge 26, 3) := fp_hdX12_go_0.1.2.1.1.1.1
theorem dX12_go_25 : decode cX12_go 25 = .ok (.iload_n 2, 1) := fp_hdX12_go_0.1.2.1.1.1.2
theorem dX12_go_26 : decode cX12_go 26 = .ok (.aload_n 0, 1) := fp_hdX12_go_0.1.2.1.1.2.1
theorem dX12_go_27 : decode cX12_go 27 = .ok (.iconst 0, 1) := fp_hdX12_go_0.1.2.1.1.2.2
theorem dX12_go_28 : decode cX12_go 28 = .ok (.iload_n 3, 1) := fp_hdX12_go_0.1.2.1.2.1.1
theorem dX12_go_29 : decode cX12_go 29 = .ok (.invokevirtual 261, 3) := fp_hdX12_go_0.1.2.1.2.1.2
theorem dX12_go_32 : decode cX12_go 32 = .ok (.ifCond .eq 7, 3) := fp_hdX12_go_0.1.2.1.2.2.1
theorem dX12_go_35 : decode cX12_go 35 = .ok (.iconst 0, 1) := fp_hdX12_go_0.1.2.1.2.2.2
theorem dX12_go_36 : decode cX12_go 36 = .ok (.goto 4, 3) := fp_hdX12_go_0.1.2.2.1.1.1
theorem dX12_go_39 : decode cX12_go 39 = .ok (.iconst 1, 1) := fp_hdX12_go_0.1.2.2.1.1.2
theorem dX12_go_40 : decode cX12_go 40 = .ok (.iadd, 1) := fp_hdX12_go_0.1.2.2.1.2.1
theorem dX12_go_41 : decode cX12_go 41 = .ok (.istore_n 2, 1) := fp_hdX12_go_0.1.2.2.1.2.2
theorem dX12_go_42 : decode cX12_go 42 = .ok (.iinc 3 1, 3) := fp_hdX12_go_0.1.2.2.2.1.1
theorem dX12_go_45 : decode cX12_go 45 = .ok (.goto (-25), 3) := fp_hdX12_go_0.1.2.2.2.1.2
theorem dX12_go_48 : decode cX12_go 48 = .ok (.iconst 4, 1) := fp_hdX12_go_0.1.2.2.2.2.1
theorem dX12_go_49 : decode cX12_go 49 = .ok (.iload_n 1, 1) := fp_hdX12_go_0.1.2.2.2.2.2
theorem fp_hdX12_go_50 : (((((decode cX12_go 50 = .ok (.imul, 1) ∧ decode cX12_go 51 = .ok (.istore_n 3, 1)) ∧ (decode cX12_go 52 = .ok (.iload_n 3, 1) ∧ decode cX12_go 53 = .ok (.iconst 4, 1))) ∧ ((decode cX12_go 54 = .ok (.aload_n 0, 1) ∧ decode cX12_go 55 = .ok (.invokevirtual 225, 3)) ∧ (decode cX12_go 58 = .ok (.imul, 1) ∧ decode cX12_go 59 = .ok (.if_icmp .ge 31, 3)))) ∧ (((decode cX12_go 62 = .ok (.aload_n 0, 1) ∧ decode cX12_go 63 = .ok (.getfield 7, 3)) ∧ (decode cX12_go 66 = .ok (.bipush 47, 2) ∧ decode cX12_go 68 = .ok (.iload_n 3, 1))) ∧ ((decode cX12_go 69 = .ok (.iadd, 1) ∧ decode cX12_go 70 = .ok (.iconst 4, 1)) ∧ (decode cX12_go 71 = .ok (.iload_n 1, 1) ∧ decode cX12_go 72 = .ok (.imul, 1))))) ∧ ((((decode cX12_go 73 = .ok (.isub, 1) ∧ decode cX12_go 74 = .ok (.aload_n 0, 1)) ∧ (decode cX12_go 75 = .ok (.getfield 7, 3) ∧ decode cX12_go 78 = .ok (.bipush 47, 2))) ∧ ((decode cX12_go 80 = .ok (.iload_n 3, 1) ∧ decode cX12_go 81 = .ok (.iadd, 1)) ∧ (decode cX12_go 82 = .ok (.iaload, 1) ∧ decode cX12_go 83 = .ok (.iastore, 1)))) ∧ (((decode cX12_go 84 = .ok (.iinc 3 1, 3) ∧ decode cX12_go 87 = .ok (.goto (-35), 3)) ∧ (decode cX12_go 90 = .ok (.aload_n 0, 1) ∧ decode cX12_go 91 = .ok (.getfield 7, 3))) ∧ ((decode cX12_go 94 = .ok (.bipush 95, 2) ∧ decode cX12_go 96 = .ok (.dup2, 1)) ∧ (decode cX12_go 97 = .ok (.iaload, 1) ∧ decode cX12_go 98 = .ok (.iload_n 1, 1)))))) ∧ bA cX12_go 99 fp_scX12_go_2 :=
  have q0 := fp_o104 fp_hdX12_go_0.2
  have q1 := fp_o62 q0.2
  have q2 := fp_o29 q1.2
  have q3 := fp_o7 q2.2
  have q4 := fp_o42 q3.2
  have q5 := fp_o182 (v := 225) q4.2 rfl
  have q6 := fp_o104 q5.2
  have q7 := fp_o162 (v := 31) q6.2 rfl
  have q8 := fp_o42 q7.2
  have q9 := fp_o180 (v := 7) q8.2 rfl
  have q10 := fp_o16 (v := 47) q9.2 rfl
  have q11 := fp_o29 q10.2
  have q12 := fp_o96 q11.2
  have q13 := fp_o7 q12.2
  have q14 := fp_o27 q13.2
  have q15 := fp_o104 q14.2
  have q16 := fp_o100 q15.2
  have q17 := fp_o42 q16.2
  have q18 := fp_o180 (v := 7) q17.2 rfl
  have q19 := fp_o16 (v := 47) q18.2 rfl
  have q20 := fp_o29 q19.2
  have q21 := fp_o96 q20.2
  have q22 := fp_o46 q21.2
  have q23 := fp_o79 q22.2
  have q24 := fp_o132 (v := 1) q23.2 rfl
  have q25 := fp_o167 (v := (-35)) q24.2 rfl
  have q26 := fp_o42 q25.2
  have q27 := fp_o180 (v := 7) q26.2 rfl
  have q28 := fp_o16 (v := 95) q27.2 rfl
  have q29 := fp_o92 q28.2
  have q30 := fp_o46 q29.2
  have q31 := fp_o27 q30.2
  ⟨⟨⟨⟨⟨⟨q0.1, q1.1⟩, ⟨q2.1, q3.1⟩⟩, ⟨⟨q4.1, q5.1⟩, ⟨q6.1, q7.1⟩⟩⟩, ⟨⟨⟨q8.1, q9.1⟩, ⟨q10.1, q11.1⟩⟩, ⟨⟨q12.1, q13.1⟩, ⟨q14.1, q15.1⟩⟩⟩⟩, ⟨⟨⟨⟨q16.1, q17.1⟩, ⟨q18.1, q19.1⟩⟩, ⟨⟨q20.1, q21.1⟩, ⟨q22.1, q23.1⟩⟩⟩, ⟨⟨⟨q24.1, q25.1⟩, ⟨q26.1, q27.1⟩⟩, ⟨⟨q28.1, q29.1⟩, ⟨q30.1, q31.1⟩⟩⟩⟩⟩, q31.2⟩
theorem dX12_go_50 : decode cX12_go 50 = .ok (.imul, 1) := fp_hdX12_go_50.1.1.1.1.1.1
theorem dX12_go_51 : decode cX12_go 51 = .ok (.istore_n 3, 1) := fp_hdX12_go_50.1.1.1.1.1.2
theorem dX12_go_52 : decode cX12_go 52 = .ok (.iload_n 3, 1) := fp_hdX12_go_50.1.1.1.1.2.1
theorem dX12_go_53 : decode cX12_go 53 = .ok (.iconst 4, 1) := fp_hdX12_go_50.1.1.1.1.2.2
theorem dX12_go_54 : decode cX12_go 54 = .ok (.aload_n 0, 1) := fp_hdX12_go_50.1.1.1.2.1.1
theorem dX12_go_55 : decode cX12_go 55 = .ok (.invokevirtual 225, 3) := fp_hdX12_go_50.1.1.1.2.1.2
theorem dX12_go_58 : decode cX12_go 58 = .ok (.imul, 1) := fp_hdX12_go_50.1.1.1.2.2.1
theorem dX12_go_59 : decode cX12_go 59 = .ok (.if_icmp .ge 31, 3) := fp_hdX12_go_50.1.1.1.2.2.2
theorem dX12_go_62 : decode cX12_go 62 = .ok (.aload_n 0, 1) := fp_hdX12_go_50.1.1.2.1.1.1
theorem dX12_go_63 : decode cX12_go 63 = .ok (.getfield 7, 3) := fp_hdX12_go_50.1.1.2.1.1.2
theorem dX12_go_66 : decode cX12_go 66 = .ok (.bipush 47, 2) := fp_hdX12_go_50.1.1.2.1.2.1
theorem dX12_go_68 : decode cX12_go 68 = .ok (.iload_n 3, 1) := fp_hdX12_go_50.1.1.2.1.2.2
theorem dX12_go_69 : decode cX12_go 69 = .ok (.iadd, 1) := fp_hdX12_go_50.1.1.2.2.1.1
theorem dX12_go_70 : decode cX12_go 70 = .ok (.iconst 4, 1) := fp_hdX12_go_50.1.1.2.2.1.2
theorem dX12_go_71 : decode cX12_go 71 = .ok (.iload_n 1, 1) := fp_hdX12_go_50.1.1.2.2.2.1
theorem dX12_go_72 : decode cX12_go 72 = .ok (.imul, 1) := fp_hdX12_go_50.1.1.2.2.2.2
theorem dX12_go_73 : decode cX12_go 73 = .ok (.isub, 1) := fp_hdX12_go_50.1.2.1.1.1.1
theorem dX12_go_74 : decode cX12_go 74 = .ok (.aload_n 0, 1) := fp_hdX12_go_50.1.2.1.1.1.2
theorem dX12_go_75 : decode cX12_go 75 = .ok (.getfield 7, 3) := fp_hdX12_go_50.1.2.1.1.2.1
theorem dX12_go_78 : decode cX12_go 78 = .ok (.bipush 47, 2) := fp_hdX12_go_50.1.2.1.1.2.2
theorem dX12_go_80 : decode cX12_go 80 = .ok (.iload_n 3, 1) := fp_hdX12_go_50.1.2.1.2.1.1
theorem dX12_go_81 : decode cX12_go 81 = .ok (.iadd, 1) := fp_hdX12_go_50.1.2.1.2.1.2
theorem dX12_go_82 : decode cX12_go 82 = .ok (.iaload, 1) := fp_hdX12_go_50.1.2.1.2.2.1
theorem dX12_go_83 : decode cX12_go 83 = .ok (.iastore, 1) := fp_hdX12_go_50.1.2.1.2.2.2
theorem dX12_go_84 : decode cX12_go 84 = .ok (.iinc 3 1, 3) := fp_hdX12_go_50.1.2.2.1.1.1
theorem dX12_go_87 : decode cX12_go 87 = .ok (.goto (-35), 3) := fp_hdX12_go_50.1.2.2.1.1.2
theorem dX12_go_90 : decode cX12_go 90 = .ok (.aload_n 0, 1) := fp_hdX12_go_50.1.2.2.1.2.1
theorem dX12_go_91 : decode cX12_go 91 = .ok (.getfield 7, 3) := fp_hdX12_go_50.1.2.2.1.2.2
theorem dX12_go_94 : decode cX12_go 94 = .ok (.bipush 95, 2) := fp_hdX12_go_50.1.2.2.2.1.1
theorem dX12_go_96 : decode cX12_go 96 = .ok (.dup2, 1) := fp_hdX12_go_50.1.2.2.2.1.2
theorem dX12_go_97 : decode cX12_go 97 = .ok (.iaload, 1) := fp_hdX12_go_50.1.2.2.2.2.1
theorem dX12_go_98 : decode cX12_go 98 = .ok (.iload_n 1, 1) := fp_hdX12_go_50.1.2.2.2.2.2
theorem fp_hdX12_go_99 : ((decode cX12_go 99 = .ok (.isub, 1) ∧ decode cX12_go 100 = .ok (.iastore, 1)) ∧ (decode cX12_go 101 = .ok (.iload_n 2, 1) ∧ decode cX12_go 102 = .ok (.ireturn, 1))) ∧ bA cX12_go 103 [] :=
  have q0 := fp_o100 fp_hdX12_go_50.2
  have q1 := fp_o79 q0.2
  have q2 := fp_o28 q1.2
  have q3 := fp_o172 q2.2
  ⟨⟨⟨q0.1, q1.1⟩, ⟨q2.1, q3.1⟩⟩, q3.2⟩
theorem dX12_go_99 : decode cX12_go 99 = .ok (.isub, 1) := fp_hdX12_go_99.1.1.1
theorem dX12_go_100 : decode cX12_go 100 = .ok (.iastore, 1) := fp_hdX12_go_99.1.1.2
theorem dX12_go_101 : decode cX12_go 101 = .ok (.iload_n 2, 1) := fp_hdX12_go_99.1.2.1
theorem dX12_go_102 : decode cX12_go 102 = .ok (.ireturn, 1) := fp_hdX12_go_99.1.2.2
def fp_scX12_copies_0 : List Nat := 3 :: 62 :: 29 :: 16 :: 50 :: 162 :: 0 :: 25 :: 42 :: 180 :: 0 :: 7 :: 28 :: 29 :: 96 :: 42 :: 180 :: 0 :: 7 :: 27 :: 29 :: 96 :: 46 :: 79 :: 132 :: 3 :: 1 :: 167 :: 255 :: 231 :: 177 :: []
theorem fp_bcX12_copies : bA cX12_copies 0 fp_scX12_copies_0 := show cX12_copies.data.toList.map UInt8.toNat = fp_scX12_copies_0 from by decide +kernel
theorem fp_hdX12_copies_0 : (((((decode cX12_copies 0 = .ok (.iconst 0, 1) ∧ decode cX12_copies 1 = .ok (.istore_n 3, 1)) ∧ decode cX12_copies 2 = .ok (.iload_n 3, 1)) ∧ (decode cX12_copies 3 = .ok (.bipush 50, 2) ∧ decode cX12_copies 5 = .ok (.if_icmp .ge 25, 3))) ∧ (((decode cX12_copies 8 = .ok (.aload_n 0, 1) ∧ decode cX12_copies 9 = .ok (.getfield 7, 3)) ∧ decode cX12_copies 12 = .ok (.iload_n 2, 1)) ∧ (decode cX12_copies 13 = .ok (.iload_n 3, 1) ∧ decode cX12_copies 14 = .ok (.iadd, 1)))) ∧ ((((decode cX12_copies 15 = .ok (.aload_n 0, 1) ∧ decode cX12_copies 16 = .ok (.getfield 7, 3)) ∧ decode cX12_copies 19 = .ok (.iload_n 1, 1)) ∧ (decode cX12_copies 20 = .ok (.iload_n 3, 1) ∧ decode cX12_copies 21 = .ok (.iadd, 1))) ∧ (((decode cX12_copies 22 = .ok (.iaload, 1) ∧ decode cX12_copies 23 = .ok (.iastore, 1)) ∧ decode cX12_copies 24 = .ok (.iinc 3 1, 3)) ∧ (decode cX12_copies 27 = .ok (.goto (-25), 3) ∧ decode cX12_copies 30 = .ok (.return_, 1))))) ∧ bA cX12_copies 31 [] :=
  have q0 := fp_o3 fp_bcX12_copies
  have q1 := fp_o62 q0.2
  have q2 := fp_o29 q1.2
  have q3 := fp_o16 (v := 50) q2.2 rfl
  have q4 := fp_o162 (v := 25) q3.2 rfl
  have q5 := fp_o42 q4.2
  have q6 := fp_o180 (v := 7) q5.2 rfl
  have q7 := fp_o28 q6.2
  have q8 := fp_o29 q7.2
  have q9 := fp_o96 q8.2
  have q10 := fp_o42 q9.2
  have q11 := fp_o180 (v := 7) q10.2 rfl
  have q12 := fp_o27 q11.2
  have q13 := fp_o29 q12.2
  have q14 := fp_o96 q13.2
  have q15 := fp_o46 q14.2
  have q16 := fp_o79 q15.2
  have q17 := fp_o132 (v := 1) q16.2 rfl
  have q18 := fp_o167 (v := (-25)) q17.2 rfl
  have q19 := fp_o177 q18.2
  ⟨⟨⟨⟨⟨⟨q0.1, q1.1⟩, q2.1⟩, ⟨q3.1, q4.1⟩⟩, ⟨⟨⟨q5.1, q6.1⟩, q7.1⟩, ⟨q8.1, q9.1⟩⟩⟩, ⟨⟨⟨⟨q10.1, q11.1⟩, q12.1⟩, ⟨q13.1, q14.1⟩⟩, ⟨⟨⟨q15.1, q16.1⟩, q17.1⟩, ⟨q18.1, q19.1⟩⟩⟩⟩, q19.2⟩
theorem dX12_copies_0 : decode cX12_copies 0 = .ok (.iconst 0, 1) := fp_hdX12_copies_0.1.1.1.1.1.1
theorem dX12_copies_1 : decode cX12_copies 1 = .ok (.istore_n 3, 1) := fp_hdX12_copies_0.1.1.1.1.1.2
theorem dX12_copies_2 : decode cX12_copies 2 = .ok (.iload_n 3, 1) := fp_hdX12_copies_0.1.1.1.1.2
theorem dX12_copies_3 : decode cX12_copies 3 = .ok (.bipush 50, 2) := fp_hdX12_copies_0.1.1.1.2.1
theorem dX12_copies_5 : decode cX12_copies 5 = .ok (.if_icmp .ge 25, 3) := fp_hdX12_copies_0.1.1.1.2.2
theorem dX12_copies_8 : decode cX12_copies 8 = .ok (.aload_n 0, 1) := fp_hdX12_copies_0.1.1.2.1.1.1
theorem dX12_copies_9 : decode cX12_copies 9 = .ok (.getfield 7, 3) := fp_hdX12_copies_0.1.1.2.1.1.2
theorem dX12_copies_12 : decode cX12_copies 12 = .ok (.iload_n 2, 1) := fp_hdX12_copies_0.1.1.2.1.2
theorem dX12_copies_13 : decode cX12_copies 13 = .ok (.iload_n 3, 1) := fp_hdX12_copies_0.1.1.2.2.1
theorem dX12_copies_14 : decode cX12_copies 14 = .ok (.iadd, 1) := fp_hdX12_copies_0.1.1.2.2.2
theorem dX12_copies_15 : decode cX12_copies 15 = .ok (.aload_n 0, 1) := fp_hdX12_copies_0.1.2.1.1.1.1
theorem dX12_copies_16 : decode cX12_copies 16 = .ok (.getfield 7, 3) := fp_hdX12_copies_0.1.2.1.1.1.2
theorem dX12_copies_19 : decode cX12_copies 19 = .ok (.iload_n 1, 1) := fp_hdX12_copies_0.1.2.1.1.2
theorem dX12_copies_20 : decode cX12_copies 20 = .ok (.iload_n 3, 1) := fp_hdX12_copies_0.1.2.1.2.1
theorem dX12_copies_21 : decode cX12_copies 21 = .ok (.iadd, 1) := fp_hdX12_copies_0.1.2.1.2.2
theorem dX12_copies_22 : decode cX12_copies 22 = .ok (.iaload, 1) := fp_hdX12_copies_0.1.2.2.1.1.1
theorem dX12_copies_23 : decode cX12_copies 23 = .ok (.iastore, 1) := fp_hdX12_copies_0.1.2.2.1.1.2
theorem dX12_copies_24 : decode cX12_copies 24 = .ok (.iinc 3 1, 3) := fp_hdX12_copies_0.1.2.2.1.2
theorem dX12_copies_27 : decode cX12_copies 27 = .ok (.goto (-25), 3) := fp_hdX12_copies_0.1.2.2.2.1
theorem dX12_copies_30 : decode cX12_copies 30 = .ok (.return_, 1) := fp_hdX12_copies_0.1.2.2.2.2
theorem fp_hdX12_runs_0 : (((((fp_dq cX12_runs 0 (.aload_n 0, 1) = true ∧ fp_dq cX12_runs 1 (.iconst 0, 1) = true) ∧ fp_dq cX12_runs 2 (.sipush 360, 3) = true) ∧ (fp_dq cX12_runs 5 (.invokevirtual 265, 3) = true ∧ fp_dq cX12_runs 8 (.iconst 0, 1) = true)) ∧ (((fp_dq cX12_runs 9 (.istore_n 2, 1) = true ∧ fp_dq cX12_runs 10 (.iconst 0, 1) = true) ∧ fp_dq cX12_runs 11 (.istore_n 3, 1) = true) ∧ (fp_dq cX12_runs 12 (.iload_n 3, 1) = true ∧ fp_dq cX12_runs 13 (.iload_n 1, 1) = true))) ∧ ((((fp_dq cX12_runs 14 (.if_icmp .ge 30, 3) = true ∧ fp_dq cX12_runs 17 (.iload_n 2, 1) = true) ∧ fp_dq cX12_runs 18 (.aload_n 0, 1) = true) ∧ (fp_dq cX12_runs 19 (.sipush 360, 3) = true ∧ fp_dq cX12_runs 22 (.iload_n 3, 1) = true)) ∧ ((fp_dq cX12_runs 23 (.invokevirtual 261, 3) = true ∧ fp_dq cX12_runs 26 (.ifCond .eq 7, 3) = true) ∧ (fp_dq cX12_runs 29 (.iconst 0, 1) = true ∧ fp_dq cX12_runs 30 (.goto 6, 3) = true)))) := by decide +kernel
theorem dX12_runs_0 : decode cX12_runs 0 = .ok (.aload_n 0, 1) := fp_dk fp_hdX12_runs_0.1.1.1.1.1
theorem dX12_runs_1 : decode cX12_runs 1 = .ok (.iconst 0, 1) := fp_dk fp_hdX12_runs_0.1.1.1.1.2
theorem dX12_runs_2 : decode cX12_runs 2 = .ok (.sipush 360, 3) := fp_dk fp_hdX12_runs_0.1.1.1.2
theorem dX12_runs_5 : decode cX12_runs 5 = .ok (.invokevirtual 265, 3) := fp_dk fp_hdX12_runs_0.1.1.2.1
theorem dX12_runs_8 : decode cX12_runs 8 = .ok (.iconst 0, 1) := fp_dk fp_hdX12_runs_0.1.1.2.2
theorem dX12_runs_9 : decode cX12_runs 9 = .ok (.istore_n 2, 1) := fp_dk fp_hdX12_runs_0.1.2.1.1.1
theorem dX12_runs_10 : decode cX12_runs 10 = .ok (.iconst 0, 1) := fp_dk fp_hdX12_runs_0.1.2.1.1.2
theorem dX12_runs_11 : decode cX12_runs 11 = .ok (.istore_n 3, 1) := fp_dk fp_hdX12_runs_0.1.2.1.2
theorem dX12_runs_12 : decode cX12_runs 12 = .ok (.iload_n 3, 1) := fp_dk fp_hdX12_runs_0.1.2.2.1
theorem dX12_runs_13 : decode cX12_runs 13 = .ok (.iload_n 1, 1) := fp_dk fp_hdX12_runs_0.1.2.2.2
theorem dX12_runs_14 : decode cX12_runs 14 = .ok (.if_icmp .ge 30, 3) := fp_dk fp_hdX12_runs_0.2.1.1.1.1
theorem dX12_runs_17 : decode cX12_runs 17 = .ok (.iload_n 2, 1) := fp_dk fp_hdX12_runs_0.2.1.1.1.2
theorem dX12_runs_18 : decode cX12_runs 18 = .ok (.aload_n 0, 1) := fp_dk fp_hdX12_runs_0.2.1.1.2
theorem dX12_runs_19 : decode cX12_runs 19 = .ok (.sipush 360, 3) := fp_dk fp_hdX12_runs_0.2.1.2.1
theorem dX12_runs_22 : decode cX12_runs 22 = .ok (.iload_n 3, 1) := fp_dk fp_hdX12_runs_0.2.1.2.2
theorem dX12_runs_23 : decode cX12_runs 23 = .ok (.invokevirtual 261, 3) := fp_dk fp_hdX12_runs_0.2.2.1.1
theorem dX12_runs_26 : decode cX12_runs 26 = .ok (.ifCond .eq 7, 3) := fp_dk fp_hdX12_runs_0.2.2.1.2
theorem dX12_runs_29 : decode cX12_runs 29 = .ok (.iconst 0, 1) := fp_dk fp_hdX12_runs_0.2.2.2.1
theorem dX12_runs_30 : decode cX12_runs 30 = .ok (.goto 6, 3) := fp_dk fp_hdX12_runs_0.2.2.2.2
