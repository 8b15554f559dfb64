def fp_scX6_init_0 : List Nat := 42 :: 183 :: 0 :: 3 :: 42 :: 187 :: 0 :: 9 :: 89 :: 183 :: 0 :: 11 :: 181 :: 0 :: 12 :: 42 :: 187 :: 0 :: 18 :: 89 :: 183 :: 0 :: 20 :: 181 :: 0 :: 21 :: 42 :: 187 :: 0 :: 25 :: 89 :: 183 :: 0 :: 27 :: 181 :: 0 :: 28 :: 42 :: 3 :: 188 :: 8 :: 181 :: 0 :: 32 :: 177 :: []
theorem fp_bcX6_init : bA cX6_init 0 fp_scX6_init_0 := show cX6_init.data.toList.map UInt8.toNat = fp_scX6_init_0 from by decide +kernel
theorem fp_hdX6_init_0 : (((((decode cX6_init 0 = .ok (.aload_n 0, 1) ∧ decode cX6_init 1 = .ok (.invokespecial 3, 3)) ∧ decode cX6_init 4 = .ok (.aload_n 0, 1)) ∧ ((decode cX6_init 5 = .ok (.new 9, 3) ∧ decode cX6_init 8 = .ok (.dup, 1)) ∧ decode cX6_init 9 = .ok (.invokespecial 11, 3))) ∧ (((decode cX6_init 12 = .ok (.putfield 12, 3) ∧ decode cX6_init 15 = .ok (.aload_n 0, 1)) ∧ decode cX6_init 16 = .ok (.new 18, 3)) ∧ (decode cX6_init 19 = .ok (.dup, 1) ∧ decode cX6_init 20 = .ok (.invokespecial 20, 3)))) ∧ ((((decode cX6_init 23 = .ok (.putfield 21, 3) ∧ decode cX6_init 26 = .ok (.aload_n 0, 1)) ∧ decode cX6_init 27 = .ok (.new 25, 3)) ∧ ((decode cX6_init 30 = .ok (.dup, 1) ∧ decode cX6_init 31 = .ok (.invokespecial 27, 3)) ∧ decode cX6_init 34 = .ok (.putfield 28, 3))) ∧ (((decode cX6_init 37 = .ok (.aload_n 0, 1) ∧ decode cX6_init 38 = .ok (.iconst 0, 1)) ∧ decode cX6_init 39 = .ok (.newarray .byte, 2)) ∧ (decode cX6_init 41 = .ok (.putfield 32, 3) ∧ decode cX6_init 44 = .ok (.return_, 1))))) ∧ bA cX6_init 45 [] :=
  have q0 := fp_o42 fp_bcX6_init
  have q1 := fp_o183 (v := 3) q0.2 rfl
  have q2 := fp_o42 q1.2
  have q3 := fp_o187 (v := 9) q2.2 rfl
  have q4 := fp_o89 q3.2
  have q5 := fp_o183 (v := 11) q4.2 rfl
  have q6 := fp_o181 (v := 12) q5.2 rfl
  have q7 := fp_o42 q6.2
  have q8 := fp_o187 (v := 18) q7.2 rfl
  have q9 := fp_o89 q8.2
  have q10 := fp_o183 (v := 20) q9.2 rfl
  have q11 := fp_o181 (v := 21) q10.2 rfl
  have q12 := fp_o42 q11.2
  have q13 := fp_o187 (v := 25) q12.2 rfl
  have q14 := fp_o89 q13.2
  have q15 := fp_o183 (v := 27) q14.2 rfl
  have q16 := fp_o181 (v := 28) q15.2 rfl
  have q17 := fp_o42 q16.2
  have q18 := fp_o3 q17.2
  have q19 := fp_o188_8 q18.2
  have q20 := fp_o181 (v := 32) q19.2 rfl
  have q21 := fp_o177 q20.2
  ⟨⟨⟨⟨⟨⟨q0.1, q1.1⟩, q2.1⟩, ⟨⟨q3.1, q4.1⟩, q5.1⟩⟩, ⟨⟨⟨q6.1, q7.1⟩, q8.1⟩, ⟨q9.1, q10.1⟩⟩⟩, ⟨⟨⟨⟨q11.1, q12.1⟩, q13.1⟩, ⟨⟨q14.1, q15.1⟩, q16.1⟩⟩, ⟨⟨⟨q17.1, q18.1⟩, q19.1⟩, ⟨q20.1, q21.1⟩⟩⟩⟩, q21.2⟩
theorem dX6_init_0 : decode cX6_init 0 = .ok (.aload_n 0, 1) := fp_hdX6_init_0.1.1.1.1.1.1
theorem dX6_init_1 : decode cX6_init 1 = .ok (.invokespecial 3, 3) := fp_hdX6_init_0.1.1.1.1.1.2
theorem dX6_init_4 : decode cX6_init 4 = .ok (.aload_n 0, 1) := fp_hdX6_init_0.1.1.1.1.2
theorem dX6_init_5 : decode cX6_init 5 = .ok (.new 9, 3) := fp_hdX6_init_0.1.1.1.2.1.1
theorem dX6_init_8 : decode cX6_init 8 = .ok (.dup, 1) := fp_hdX6_init_0.1.1.1.2.1.2
theorem dX6_init_9 : decode cX6_init 9 = .ok (.invokespecial 11, 3) := fp_hdX6_init_0.1.1.1.2.2
theorem dX6_init_12 : decode cX6_init 12 = .ok (.putfield 12, 3) := fp_hdX6_init_0.1.1.2.1.1.1
theorem dX6_init_15 : decode cX6_init 15 = .ok (.aload_n 0, 1) := fp_hdX6_init_0.1.1.2.1.1.2
theorem dX6_init_16 : decode cX6_init 16 = .ok (.new 18, 3) := fp_hdX6_init_0.1.1.2.1.2
theorem dX6_init_19 : decode cX6_init 19 = .ok (.dup, 1) := fp_hdX6_init_0.1.1.2.2.1
theorem dX6_init_20 : decode cX6_init 20 = .ok (.invokespecial 20, 3) := fp_hdX6_init_0.1.1.2.2.2
theorem dX6_init_23 : decode cX6_init 23 = .ok (.putfield 21, 3) := fp_hdX6_init_0.1.2.1.1.1.1
theorem dX6_init_26 : decode cX6_init 26 = .ok (.aload_n 0, 1) := fp_hdX6_init_0.1.2.1.1.1.2
theorem dX6_init_27 : decode cX6_init 27 = .ok (.new 25, 3) := fp_hdX6_init_0.1.2.1.1.2
theorem dX6_init_30 : decode cX6_init 30 = .ok (.dup, 1) := fp_hdX6_init_0.1.2.1.2.1.1
theorem dX6_init_31 : decode cX6_init 31 = .ok (.invokespecial 27, 3) := fp_hdX6_init_0.1.2.1.2.1.2
theorem dX6_init_34 : decode cX6_init 34 = .ok (.putfield 28, 3) := fp_hdX6_init_0.1.2.1.2.2
theorem dX6_init_37 : decode cX6_init 37 = .ok (.aload_n 0, 1) := fp_hdX6_init_0.1.2.2.1.1.1
theorem dX6_init_38 : decode cX6_init 38 = .ok (.iconst 0, 1) := fp_hdX6_init_0.1.2.2.1.1.2
theorem dX6_init_39 : decode cX6_init 39 = .ok (.newarray .byte, 2) := fp_hdX6_init_0.1.2.2.1.2
theorem dX6_init_41 : decode cX6_init 41 = .ok (.putfield 32, 3) := fp_hdX6_init_0.1.2.2.2.1
theorem dX6_init_44 : decode cX6_init 44 = .ok (.return_, 1) := fp_hdX6_init_0.1.2.2.2.2
def fp_scX6_readText_1 : List Nat := 21 :: 4 :: 42 :: 180 :: 0 :: 36 :: 163 :: 0 :: 36 :: 42 :: 182 :: 0 :: 60 :: 153 :: 0 :: 29 :: 42 :: 180 :: 0 :: 64 :: 153 :: 0 :: 22 :: 42 :: 182 :: 0 :: 67 :: 154 :: 0 :: 6 :: 167 :: 0 :: 12 :: 132 :: 3 :: 1 :: 132 :: 4 :: 1 :: 167 :: 255 :: 217 :: 42 :: 180 :: 0 :: 43 :: 154 :: 0 :: 7 :: 42 :: 182 :: 0 :: 70 :: 29 :: 172 :: []
def fp_scX6_readText_0 : List Nat := 42 :: 43 :: 181 :: 0 :: 32 :: 42 :: 28 :: 181 :: 0 :: 36 :: 42 :: 3 :: 181 :: 0 :: 40 :: 42 :: 3 :: 181 :: 0 :: 43 :: 42 :: 3 :: 181 :: 0 :: 46 :: 42 :: 3 :: 181 :: 0 :: 49 :: 42 :: 180 :: 0 :: 12 :: 182 :: 0 :: 53 :: 42 :: 180 :: 0 :: 21 :: 182 :: 0 :: 56 :: 42 :: 180 :: 0 :: 28 :: 3 :: 181 :: 0 :: 57 :: 3 :: 62 :: 3 :: 54 :: 4 :: fp_scX6_readText_1
theorem fp_bcX6_readText : bA cX6_readText 0 fp_scX6_readText_0 := show cX6_readText.data.toList.map UInt8.toNat = fp_scX6_readText_0 from by decide +kernel
theorem fp_hdX6_readText_0 : (((((decode cX6_readText 0 = .ok (.aload_n 0, 1) ∧ decode cX6_readText 1 = .ok (.aload_n 1, 1)) ∧ (decode cX6_readText 2 = .ok (.putfield 32, 3) ∧ decode cX6_readText 5 = .ok (.aload_n 0, 1))) ∧ ((decode cX6_readText 6 = .ok (.iload_n 2, 1) ∧ decode cX6_readText 7 = .ok (.putfield 36, 3)) ∧ (decode cX6_readText 10 = .ok (.aload_n 0, 1) ∧ decode cX6_readText 11 = .ok (.iconst 0, 1)))) ∧ (((decode cX6_readText 12 = .ok (.putfield 40, 3) ∧ decode cX6_readText 15 = .ok (.aload_n 0, 1)) ∧ (decode cX6_readText 16 = .ok (.iconst 0, 1) ∧ decode cX6_readText 17 = .ok (.putfield 43, 3))) ∧ ((decode cX6_readText 20 = .ok (.aload_n 0, 1) ∧ decode cX6_readText 21 = .ok (.iconst 0, 1)) ∧ (decode cX6_readText 22 = .ok (.putfield 46, 3) ∧ decode cX6_readText 25 = .ok (.aload_n 0, 1))))) ∧ ((((decode cX6_readText 26 = .ok (.iconst 0, 1) ∧ decode cX6_readText 27 = .ok (.putfield 49, 3)) ∧ (decode cX6_readText 30 = .ok (.aload_n 0, 1) ∧ decode cX6_readText 31 = .ok (.getfield 12, 3))) ∧ ((decode cX6_readText 34 = .ok (.invokevirtual 53, 3) ∧ decode cX6_readText 37 = .ok (.aload_n 0, 1)) ∧ (decode cX6_readText 38 = .ok (.getfield 21, 3) ∧ decode cX6_readText 41 = .ok (.invokevirtual 56, 3)))) ∧ (((decode cX6_readText 44 = .ok (.aload_n 0, 1) ∧ decode cX6_readText 45 = .ok (.getfield 28, 3)) ∧ (decode cX6_readText 48 = .ok (.iconst 0, 1) ∧ decode cX6_readText 49 = .ok (.putfield 57, 3))) ∧ ((decode cX6_readText 52 = .ok (.iconst 0, 1) ∧ decode cX6_readText 53 = .ok (.istore_n 3, 1)) ∧ (decode cX6_readText 54 = .ok (.iconst 0, 1) ∧ decode cX6_readText 55 = .ok (.istore 4, 2)))))) ∧ bA cX6_readText 57 fp_scX6_readText_1 :=
  have q0 := fp_o42 fp_bcX6_readText
  have q1 := fp_o43 q0.2
  have q2 := fp_o181 (v := 32) q1.2 rfl
  have q3 := fp_o42 q2.2
  have q4 := fp_o28 q3.2
  have q5 := fp_o181 (v := 36) q4.2 rfl
  have q6 := fp_o42 q5.2
  have q7 := fp_o3 q6.2
  have q8 := fp_o181 (v := 40) q7.2 rfl
  have q9 := fp_o42 q8.2
  have q10 := fp_o3 q9.2
  have q11 := fp_o181 (v := 43) q10.2 rfl
  have q12 := fp_o42 q11.2
  have q13 := fp_o3 q12.2
  have q14 := fp_o181 (v := 46) q13.2 rfl
  have q15 := fp_o42 q14.2
  have q16 := fp_o3 q15.2
  have q17 := fp_o181 (v := 49) q16.2 rfl
  have q18 := fp_o42 q17.2
  have q19 := fp_o180 (v := 12) q18.2 rfl
  have q20 := fp_o182 (v := 53) q19.2 rfl
  have q21 := fp_o42 q20.2
  have q22 := fp_o180 (v := 21) q21.2 rfl
  have q23 := fp_o182 (v := 56) q22.2 rfl
  have q24 := fp_o42 q23.2
  have q25 := fp_o180 (v := 28) q24.2 rfl
  have q26 := fp_o3 q25.2
  have q27 := fp_o181 (v := 57) q26.2 rfl
  have q28 := fp_o3 q27.2
  have q29 := fp_o62 q28.2
  have q30 := fp_o3 q29.2
  have q31 := fp_o54 q30.2
  ⟨⟨⟨⟨⟨⟨q0.1, q1.1⟩, ⟨q2.1, q3.1⟩⟩, ⟨⟨q4.1, q5.1⟩, ⟨q6.1, q7.1⟩⟩⟩, ⟨⟨⟨q8.1, q9.1⟩, ⟨q10.1, q11.1⟩⟩, ⟨⟨q12.1, q13.1⟩, ⟨q14.1, q15.1⟩⟩⟩⟩, ⟨⟨⟨⟨q16.1, q17.1⟩, ⟨q18.1, q19.1⟩⟩, ⟨⟨q20.1, q21.1⟩, ⟨q22.1, q23.1⟩⟩⟩, ⟨⟨⟨q24.1, q25.1⟩, ⟨q26.1, q27.1⟩⟩, ⟨⟨q28.1, q29.1⟩, ⟨q30.1, q31.1⟩⟩⟩⟩⟩, q31.2⟩
theorem dX6_readText_0 : decode cX6_readText 0 = .ok (.aload_n 0, 1) := fp_hdX6_readText_0.1.1.1.1.1.1
theorem dX6_readText_1 : decode cX6_readText 1 = .ok (.aload_n 1, 1) := fp_hdX6_readText_0.1.1.1.1.1.2
theorem dX6_readText_2 : decode cX6_readText 2 = .ok (.putfield 32, 3) := fp_hdX6_readText_0.1.1.1.1.2.1
theorem dX6_readText_5 : decode cX6_readText 5 = .ok (.aload_n 0, 1) := fp_hdX6_readText_0.1.1.1.1.2.2
theorem dX6_readText_6 : decode cX6_readText 6 = .ok (.iload_n 2, 1) := fp_hdX6_readText_0.1.1.1.2.1.1
theorem dX6_readText_7 : decode cX6_readText 7 = .ok (.putfield 36, 3) := fp_hdX6_readText_0.1.1.1.2.1.2
theorem dX6_readText_10 : decode cX6_readText 10 = .ok (.aload_n 0, 1) := fp_hdX6_readText_0.1.1.1.2.2.1
theorem dX6_readText_11 : decode cX6_readText 11 = .ok (.iconst 0, 1) := fp_hdX6_readText_0.1.1.1.2.2.2
theorem dX6_readText_12 : decode cX6_readText 12 = .ok (.putfield 40, 3) := fp_hdX6_readText_0.1.1.2.1.1.1
theorem dX6_readText_15 : decode cX6_readText 15 = .ok (.aload_n 0, 1) := fp_hdX6_readText_0.1.1.2.1.1.2
theorem dX6_readText_16 : decode cX6_readText 16 = .ok (.iconst 0, 1) := fp_hdX6_readText_0.1.1.2.1.2.1
theorem dX6_readText_17 : decode cX6_readText 17 = .ok (.putfield 43, 3) := fp_hdX6_readText_0.1.1.2.1.2.2
theorem dX6_readText_20 : decode cX6_readText 20 = .ok (.aload_n 0, 1) := fp_hdX6_readText_0.1.1.2.2.1.1
theorem dX6_readText_21 : decode cX6_readText 21 = .ok (.iconst 0, 1) := fp_hdX6_readText_0.1.1.2.2.1.2
theorem dX6_readText_22 : decode cX6_readText 22 = .ok (.putfield 46, 3) := fp_hdX6_readText_0.1.1.2.2.2.1
theorem dX6_readText_25 : decode cX6_readText 25 = .ok (.aload_n 0, 1) := fp_hdX6_readText_0.1.1.2.2.2.2
theorem dX6_readText_26 : decode cX6_readText 26 = .ok (.iconst 0, 1) := fp_hdX6_readText_0.1.2.1.1.1.1
theorem dX6_readText_27 : decode cX6_readText 27 = .ok (.putfield 49, 3) := fp_hdX6_readText_0.1.2.1.1.1.2
theorem dX6_readText_30 : decode cX6_readText 30 = .ok (.aload_n 0, 1) := fp_hdX6_readText_0.1.2.1.1.2.1
theorem dX6_readText_31 : decode cX6_readText 31 = .ok (.getfield 12, 3) := fp_hdX6_readText_0.1.2.1.1.2.2
theorem dX6_readText_34 : decode cX6_readText 34 = .ok (.invokevirtual 53, 3) := fp_hdX6_readText_0.1.2.1.2.1.1
theorem dX6_readText_37 : decode cX6_readText 37 = .ok (.aload_n 0, 1) := fp_hdX6_readText_0.1.2.1.2.1.2
theorem dX6_readText_38 : decode cX6_readText 38 = .ok (.getfield 21, 3) := fp_hdX6_readText_0.1.2.1.2.2.1
theorem dX6_readText_41 : decode cX6_readText 41 = .ok (.invokevirtual 56, 3) := fp_hdX6_readText_0.1.2.1.2.2.2
theorem dX6_readText_44 : decode cX6_readText 44 = .ok (.aload_n 0, 1) := fp_hdX6_readText_0.1.2.2.1.1.1
theorem dX6_readText_45 : decode cX6_readText 45 = .ok (.getfield 28, 3) := fp_hdX6_readText_0.1.2.2.1.1.2
theorem dX6_readText_48 : decode cX6_readText 48 = .ok (.iconst 0, 1) := fp_hdX6_readText_0.1.2.2.1.2.1
theorem dX6_readText_49 : decode cX6_readText 49 = .ok (.putfield 57, 3) := fp_hdX6_readText_0.1.2.2.1.2.2
theorem dX6_readText_52 : decode cX6_readText 52 = .ok (.iconst 0, 1) := fp_hdX6_readText_0.1.2.2.2.1.1
theorem dX6_readText_53 : decode cX6_readText 53 = .ok (.istore_n 3, 1) := fp_hdX6_readText_0.1.2.2.2.1.2
theorem dX6_readText_54 : decode cX6_readText 54 = .ok (.iconst 0, 1) := fp_hdX6_readText_0.1.2.2.2.2.1
theorem dX6_readText_55 : decode cX6_readText 55 = .ok (.istore 4, 2) := fp_hdX6_readText_0.1.2.2.2.2.2
theorem fp_hdX6_readText_57 : (((((decode cX6_readText 57 = .ok (.iload 4, 2) ∧ decode cX6_readText 59 = .ok (.aload_n 0, 1)) ∧ decode cX6_readText 60 = .ok (.getfield 36, 3)) ∧ ((decode cX6_readText 63 = .ok (.if_icmp .gt 36, 3) ∧ decode cX6_readText 66 = .ok (.aload_n 0, 1)) ∧ decode cX6_readText 67 = .ok (.invokevirtual 60, 3))) ∧ (((decode cX6_readText 70 = .ok (.ifCond .eq 29, 3) ∧ decode cX6_readText 73 = .ok (.aload_n 0, 1)) ∧ decode cX6_readText 74 = .ok (.getfield 64, 3)) ∧ ((decode cX6_readText 77 = .ok (.ifCond .eq 22, 3) ∧ decode cX6_readText 80 = .ok (.aload_n 0, 1)) ∧ decode cX6_readText 81 = .ok (.invokevirtual 67, 3)))) ∧ ((((decode cX6_readText 84 = .ok (.ifCond .ne 6, 3) ∧ decode cX6_readText 87 = .ok (.goto 12, 3)) ∧ decode cX6_readText 90 = .ok (.iinc 3 1, 3)) ∧ ((decode cX6_readText 93 = .ok (.iinc 4 1, 3) ∧ decode cX6_readText 96 = .ok (.goto (-39), 3)) ∧ decode cX6_readText 99 = .ok (.aload_n 0, 1))) ∧ (((decode cX6_readText 100 = .ok (.getfield 43, 3) ∧ decode cX6_readText 103 = .ok (.ifCond .ne 7, 3)) ∧ decode cX6_readText 106 = .ok (.aload_n 0, 1)) ∧ ((decode cX6_readText 107 = .ok (.invokevirtual 70, 3) ∧ decode cX6_readText 110 = .ok (.iload_n 3, 1)) ∧ decode cX6_readText 111 = .ok (.ireturn, 1))))) ∧ bA cX6_readText 112 [] :=
  have q0 := fp_o21 fp_hdX6_readText_0.2
  have q1 := fp_o42 q0.2
  have q2 := fp_o180 (v := 36) q1.2 rfl
  have q3 := fp_o163 (v := 36) q2.2 rfl
  have q4 := fp_o42 q3.2
  have q5 := fp_o182 (v := 60) q4.2 rfl
  have q6 := fp_o153 (v := 29) q5.2 rfl
  have q7 := fp_o42 q6.2
  have q8 := fp_o180 (v := 64) q7.2 rfl
  have q9 := fp_o153 (v := 22) q8.2 rfl
  have q10 := fp_o42 q9.2
  have q11 := fp_o182 (v := 67) q10.2 rfl
  have q12 := fp_o154 (v := 6) q11.2 rfl
  have q13 := fp_o167 (v := 12) q12.2 rfl
  have q14 := fp_o132 (v := 1) q13.2 rfl
  have q15 := fp_o132 (v := 1) q14.2 rfl
  have q16 := fp_o167 (v := (-39)) q15.2 rfl
  have q17 := fp_o42 q16.2
  have q18 := fp_o180 (v := 43) q17.2 rfl
  have q19 := fp_o154 (v := 7) q18.2 rfl
  have q20 := fp_o42 q19.2
  have q21 := fp_o182 (v := 70) q20.2 rfl
  have q22 := fp_o29 q21.2
  have q23 := fp_o172 q22.2
  ⟨⟨⟨⟨⟨⟨q0.1, q1.1⟩, q2.1⟩, ⟨⟨q3.1, q4.1⟩, q5.1⟩⟩, ⟨⟨⟨q6.1, q7.1⟩, q8.1⟩, ⟨⟨q9.1, q10.1⟩, q11.1⟩⟩⟩, ⟨⟨⟨⟨q12.1, q13.1⟩, q14.1⟩, ⟨⟨q15.1, q16.1⟩, q17.1⟩⟩, ⟨⟨⟨q18.1, q19.1⟩, q20.1⟩, ⟨⟨q21.1, q22.1⟩, q23.1⟩⟩⟩⟩, q23.2⟩
theorem dX6_readText_57 : decode cX6_readText 57 = .ok (.iload 4, 2) := fp_hdX6_readText_57.1.1.1.1.1.1
theorem dX6_readText_59 : decode cX6_readText 59 = .ok (.aload_n 0, 1) := fp_hdX6_readText_57.1.1.1.1.1.2
theorem dX6_readText_60 : decode cX6_readText 60 = .ok (.getfield 36, 3) := fp_hdX6_readText_57.1.1.1.1.2
theorem dX6_readText_63 : decode cX6_readText 63 = .ok (.if_icmp .gt 36, 3) := fp_hdX6_readText_57.1.1.1.2.1.1
theorem dX6_readText_66 : decode cX6_readText 66 = .ok (.aload_n 0, 1) := fp_hdX6_readText_57.1.1.1.2.1.2
theorem dX6_readText_67 : decode cX6_readText 67 = .ok (.invokevirtual 60, 3) := fp_hdX6_readText_57.1.1.1.2.2
theorem dX6_readText_70 : decode cX6_readText 70 = .ok (.ifCond .eq 29, 3) := fp_hdX6_readText_57.1.1.2.1.1.1
theorem dX6_readText_73 : decode cX6_readText 73 = .ok (.aload_n 0, 1) := fp_hdX6_readText_57.1.1.2.1.1.2
theorem dX6_readText_74 : decode cX6_readText 74 = .ok (.getfield 64, 3) := fp_hdX6_readText_57.1.1.2.1.2
theorem dX6_readText_77 : decode cX6_readText 77 = .ok (.ifCond .eq 22, 3) := fp_hdX6_readText_57.1.1.2.2.1.1
theorem dX6_readText_80 : decode cX6_readText 80 = .ok (.aload_n 0, 1) := fp_hdX6_readText_57.1.1.2.2.1.2
theorem dX6_readText_81 : decode cX6_readText 81 = .ok (.invokevirtual 67, 3) := fp_hdX6_readText_57.1.1.2.2.2
theorem dX6_readText_84 : decode cX6_readText 84 = .ok (.ifCond .ne 6, 3) := fp_hdX6_readText_57.1.2.1.1.1.1
theorem dX6_readText_87 : decode cX6_readText 87 = .ok (.goto 12, 3) := fp_hdX6_readText_57.1.2.1.1.1.2
theorem dX6_readText_90 : decode cX6_readText 90 = .ok (.iinc 3 1, 3) := fp_hdX6_readText_57.1.2.1.1.2
theorem dX6_readText_93 : decode cX6_readText 93 = .ok (.iinc 4 1, 3) := fp_hdX6_readText_57.1.2.1.2.1.1
theorem dX6_readText_96 : decode cX6_readText 96 = .ok (.goto (-39), 3) := fp_hdX6_readText_57.1.2.1.2.1.2
theorem dX6_readText_99 : decode cX6_readText 99 = .ok (.aload_n 0, 1) := fp_hdX6_readText_57.1.2.1.2.2
theorem dX6_readText_100 : decode cX6_readText 100 = .ok (.getfield 43, 3) := fp_hdX6_readText_57.1.2.2.1.1.1
theorem dX6_readText_103 : decode cX6_readText 103 = .ok (.ifCond .ne 7, 3) := fp_hdX6_readText_57.1.2.2.1.1.2
theorem dX6_readText_106 : decode cX6_readText 106 = .ok (.aload_n 0, 1) := fp_hdX6_readText_57.1.2.2.1.2
theorem dX6_readText_107 : decode cX6_readText 107 = .ok (.invokevirtual 70, 3) := fp_hdX6_readText_57.1.2.2.2.1.1
theorem dX6_readText_110 : decode cX6_readText 110 = .ok (.iload_n 3, 1) := fp_hdX6_readText_57.1.2.2.2.1.2
theorem dX6_readText_111 : decode cX6_readText 111 = .ok (.ireturn, 1) := fp_hdX6_readText_57.1.2.2.2.2
def fp_scX6_refuse_0 : List Nat := 42 :: 27 :: 181 :: 0 :: 43 :: 42 :: 28 :: 181 :: 0 :: 73 :: 3 :: 172 :: []
theorem fp_bcX6_refuse : bA cX6_refuse 0 fp_scX6_refuse_0 := show cX6_refuse.data.toList.map UInt8.toNat = fp_scX6_refuse_0 from by decide +kernel
theorem fp_hdX6_refuse_0 : (((decode cX6_refuse 0 = .ok (.aload_n 0, 1) ∧ decode cX6_refuse 1 = .ok (.iload_n 1, 1)) ∧ (decode cX6_refuse 2 = .ok (.putfield 43, 3) ∧ decode cX6_refuse 5 = .ok (.aload_n 0, 1))) ∧ ((decode cX6_refuse 6 = .ok (.iload_n 2, 1) ∧ decode cX6_refuse 7 = .ok (.putfield 73, 3)) ∧ (decode cX6_refuse 10 = .ok (.iconst 0, 1) ∧ decode cX6_refuse 11 = .ok (.ireturn, 1)))) ∧ bA cX6_refuse 12 [] :=
  have q0 := fp_o42 fp_bcX6_refuse
  have q1 := fp_o27 q0.2
  have q2 := fp_o181 (v := 43) q1.2 rfl
  have q3 := fp_o42 q2.2
  have q4 := fp_o28 q3.2
  have q5 := fp_o181 (v := 73) q4.2 rfl
  have q6 := fp_o3 q5.2
  have q7 := fp_o172 q6.2
  ⟨⟨⟨⟨q0.1, q1.1⟩, ⟨q2.1, q3.1⟩⟩, ⟨⟨q4.1, q5.1⟩, ⟨q6.1, q7.1⟩⟩⟩, q7.2⟩
theorem dX6_refuse_0 : decode cX6_refuse 0 = .ok (.aload_n 0, 1) := fp_hdX6_refuse_0.1.1.1.1
theorem dX6_refuse_1 : decode cX6_refuse 1 = .ok (.iload_n 1, 1) := fp_hdX6_refuse_0.1.1.1.2
theorem dX6_refuse_2 : decode cX6_refuse 2 = .ok (.putfield 43, 3) := fp_hdX6_refuse_0.1.1.2.1
theorem dX6_refuse_5 : decode cX6_refuse 5 = .ok (.aload_n 0, 1) := fp_hdX6_refuse_0.1.1.2.2
theorem dX6_refuse_6 : decode cX6_refuse 6 = .ok (.iload_n 2, 1) := fp_hdX6_refuse_0.1.2.1.1
theorem dX6_refuse_7 : decode cX6_refuse 7 = .ok (.putfield 73, 3) := fp_hdX6_refuse_0.1.2.1.2
theorem dX6_refuse_10 : decode cX6_refuse 10 = .ok (.iconst 0, 1) := fp_hdX6_refuse_0.1.2.2.1
theorem dX6_refuse_11 : decode cX6_refuse 11 = .ok (.ireturn, 1) := fp_hdX6_refuse_0.1.2.2.2
def fp_scX6_isLetter_0 : List Nat := 26 :: 16 :: 97 :: 161 :: 0 :: 13 :: 26 :: 16 :: 122 :: 163 :: 0 :: 7 :: 4 :: 167 :: 0 :: 4 :: 3 :: 172 :: []
theorem fp_bcX6_isLetter : bA cX6_isLetter 0 fp_scX6_isLetter_0 := show cX6_isLetter.data.toList.map UInt8.toNat = fp_scX6_isLetter_0 from by decide +kernel
theorem fp_hdX6_isLetter_0 : ((((decode cX6_isLetter 0 = .ok (.iload_n 0, 1) ∧ decode cX6_isLetter 1 = .ok (.bipush 97, 2)) ∧ decode cX6_isLetter 3 = .ok (.if_icmp .lt 13, 3)) ∧ (decode cX6_isLetter 6 = .ok (.iload_n 0, 1) ∧ decode cX6_isLetter 7 = .ok (.bipush 122, 2))) ∧ (((decode cX6_isLetter 9 = .ok (.if_icmp .gt 7, 3) ∧ decode cX6_isLetter 12 = .ok (.iconst 1, 1)) ∧ decode cX6_isLetter 13 = .ok (.goto 4, 3)) ∧ (decode cX6_isLetter 16 = .ok (.iconst 0, 1) ∧ decode cX6_isLetter 17 = .ok (.ireturn, 1)))) ∧ bA cX6_isLetter 18 [] :=
  have q0 := fp_o26 fp_bcX6_isLetter
  have q1 := fp_o16 (v := 97) q0.2 rfl
  have q2 := fp_o161 (v := 13) q1.2 rfl
  have q3 := fp_o26 q2.2
  have q4 := fp_o16 (v := 122) q3.2 rfl
  have q5 := fp_o163 (v := 7) q4.2 rfl
  have q6 := fp_o4 q5.2
  have q7 := fp_o167 (v := 4) q6.2 rfl
  have q8 := fp_o3 q7.2
  have q9 := fp_o172 q8.2
  ⟨⟨⟨⟨⟨q0.1, q1.1⟩, q2.1⟩, ⟨q3.1, q4.1⟩⟩, ⟨⟨⟨q5.1, q6.1⟩, q7.1⟩, ⟨q8.1, q9.1⟩⟩⟩, q9.2⟩
theorem dX6_isLetter_0 : decode cX6_isLetter 0 = .ok (.iload_n 0, 1) := fp_hdX6_isLetter_0.1.1.1.1.1
theorem dX6_isLetter_1 : decode cX6_isLetter 1 = .ok (.bipush 97, 2) := fp_hdX6_isLetter_0.1.1.1.1.2
theorem dX6_isLetter_3 : decode cX6_isLetter 3 = .ok (.if_icmp .lt 13, 3) := fp_hdX6_isLetter_0.1.1.1.2
theorem dX6_isLetter_6 : decode cX6_isLetter 6 = .ok (.iload_n 0, 1) := fp_hdX6_isLetter_0.1.1.2.1
theorem dX6_isLetter_7 : decode cX6_isLetter 7 = .ok (.bipush 122, 2) := fp_hdX6_isLetter_0.1.1.2.2
theorem dX6_isLetter_9 : decode cX6_isLetter 9 = .ok (.if_icmp .gt 7, 3) := fp_hdX6_isLetter_0.1.2.1.1.1
theorem dX6_isLetter_12 : decode cX6_isLetter 12 = .ok (.iconst 1, 1) := fp_hdX6_isLetter_0.1.2.1.1.2
theorem dX6_isLetter_13 : decode cX6_isLetter 13 = .ok (.goto 4, 3) := fp_hdX6_isLetter_0.1.2.1.2
theorem dX6_isLetter_16 : decode cX6_isLetter 16 = .ok (.iconst 0, 1) := fp_hdX6_isLetter_0.1.2.2.1
theorem dX6_isLetter_17 : decode cX6_isLetter 17 = .ok (.ireturn, 1) := fp_hdX6_isLetter_0.1.2.2.2
def fp_scX6_isFigure_0 : List Nat := 26 :: 16 :: 48 :: 161 :: 0 :: 13 :: 26 :: 16 :: 57 :: 163 :: 0 :: 7 :: 4 :: 167 :: 0 :: 4 :: 3 :: 172 :: []
theorem fp_bcX6_isFigure : bA cX6_isFigure 0 fp_scX6_isFigure_0 := show cX6_isFigure.data.toList.map UInt8.toNat = fp_scX6_isFigure_0 from by decide +kernel
theorem fp_hdX6_isFigure_0 : ((((decode cX6_isFigure 0 = .ok (.iload_n 0, 1) ∧ decode cX6_isFigure 1 = .ok (.bipush 48, 2)) ∧ decode cX6_isFigure 3 = .ok (.if_icmp .lt 13, 3)) ∧ (decode cX6_isFigure 6 = .ok (.iload_n 0, 1) ∧ decode cX6_isFigure 7 = .ok (.bipush 57, 2))) ∧ (((decode cX6_isFigure 9 = .ok (.if_icmp .gt 7, 3) ∧ decode cX6_isFigure 12 = .ok (.iconst 1, 1)) ∧ decode cX6_isFigure 13 = .ok (.goto 4, 3)) ∧ (decode cX6_isFigure 16 = .ok (.iconst 0, 1) ∧ decode cX6_isFigure 17 = .ok (.ireturn, 1)))) ∧ bA cX6_isFigure 18 [] :=
  have q0 := fp_o26 fp_bcX6_isFigure
  have q1 := fp_o16 (v := 48) q0.2 rfl
  have q2 := fp_o161 (v := 13) q1.2 rfl
  have q3 := fp_o26 q2.2
  have q4 := fp_o16 (v := 57) q3.2 rfl
  have q5 := fp_o163 (v := 7) q4.2 rfl
  have q6 := fp_o4 q5.2
  have q7 := fp_o167 (v := 4) q6.2 rfl
  have q8 := fp_o3 q7.2
  have q9 := fp_o172 q8.2
  ⟨⟨⟨⟨⟨q0.1, q1.1⟩, q2.1⟩, ⟨q3.1, q4.1⟩⟩, ⟨⟨⟨q5.1, q6.1⟩, q7.1⟩, ⟨q8.1, q9.1⟩⟩⟩, q9.2⟩
theorem dX6_isFigure_0 : decode cX6_isFigure 0 = .ok (.iload_n 0, 1) := fp_hdX6_isFigure_0.1.1.1.1.1
theorem dX6_isFigure_1 : decode cX6_isFigure 1 = .ok (.bipush 48, 2) := fp_hdX6_isFigure_0.1.1.1.1.2
theorem dX6_isFigure_3 : decode cX6_isFigure 3 = .ok (.if_icmp .lt 13, 3) := fp_hdX6_isFigure_0.1.1.1.2
theorem dX6_isFigure_6 : decode cX6_isFigure 6 = .ok (.iload_n 0, 1) := fp_hdX6_isFigure_0.1.1.2.1
theorem dX6_isFigure_7 : decode cX6_isFigure 7 = .ok (.bipush 57, 2) := fp_hdX6_isFigure_0.1.1.2.2
theorem dX6_isFigure_9 : decode cX6_isFigure 9 = .ok (.if_icmp .gt 7, 3) := fp_hdX6_isFigure_0.1.2.1.1.1
theorem dX6_isFigure_12 : decode cX6_isFigure 12 = .ok (.iconst 1, 1) := fp_hdX6_isFigure_0.1.2.1.1.2
theorem dX6_isFigure_13 : decode cX6_isFigure 13 = .ok (.goto 4, 3) := fp_hdX6_isFigure_0.1.2.1.2
theorem dX6_isFigure_16 : decode cX6_isFigure 16 = .ok (.iconst 0, 1) := fp_hdX6_isFigure_0.1.2.2.1
theorem dX6_isFigure_17 : decode cX6_isFigure 17 = .ok (.ireturn, 1) := fp_hdX6_isFigure_0.1.2.2.2
def fp_scX6_step_4 : List Nat := 6 :: 181 :: 0 :: 64 :: 42 :: 89 :: 180 :: 0 :: 40 :: 4 :: 96 :: 181 :: 0 :: 40 :: 42 :: 180 :: 0 :: 32 :: 42 :: 180 :: 0 :: 76 :: 51 :: 16 :: 59 :: 159 :: 0 :: 15 :: 42 :: 4 :: 42 :: 180 :: 0 :: 76 :: 182 :: 0 :: 89 :: 153 :: 0 :: 7 :: 4 :: 167 :: 0 :: 4 :: 3 :: 172 :: []
def fp_scX6_step_3 : List Nat := 42 :: 180 :: 0 :: 40 :: 51 :: 96 :: 16 :: 48 :: 100 :: 181 :: 0 :: 86 :: 42 :: 89 :: 180 :: 0 :: 40 :: 4 :: 96 :: 181 :: 0 :: 40 :: 167 :: 255 :: 196 :: 42 :: 180 :: 0 :: 40 :: 42 :: 180 :: 0 :: 76 :: 100 :: 5 :: 164 :: 0 :: 15 :: 42 :: 4 :: 42 :: 180 :: 0 :: 76 :: 182 :: 0 :: 89 :: 153 :: 0 :: 7 :: 4 :: 167 :: 0 :: 4 :: 3 :: 172 :: 42 :: fp_scX6_step_4
def fp_scX6_step_2 : List Nat := 42 :: 180 :: 0 :: 32 :: 42 :: 180 :: 0 :: 40 :: 51 :: 184 :: 0 :: 83 :: 153 :: 0 :: 107 :: 42 :: 5 :: 181 :: 0 :: 64 :: 42 :: 3 :: 181 :: 0 :: 86 :: 42 :: 180 :: 0 :: 40 :: 42 :: 180 :: 0 :: 36 :: 162 :: 0 :: 55 :: 42 :: 180 :: 0 :: 32 :: 42 :: 180 :: 0 :: 40 :: 51 :: 184 :: 0 :: 83 :: 153 :: 0 :: 40 :: 42 :: 42 :: 180 :: 0 :: 86 :: 16 :: 10 :: 104 :: 42 :: 180 :: 0 :: 32 :: fp_scX6_step_3
def fp_scX6_step_1 : List Nat := 172 :: 42 :: 180 :: 0 :: 32 :: 42 :: 180 :: 0 :: 40 :: 51 :: 184 :: 0 :: 79 :: 153 :: 0 :: 49 :: 42 :: 4 :: 181 :: 0 :: 64 :: 42 :: 180 :: 0 :: 40 :: 42 :: 180 :: 0 :: 36 :: 162 :: 0 :: 31 :: 42 :: 180 :: 0 :: 32 :: 42 :: 180 :: 0 :: 40 :: 51 :: 184 :: 0 :: 79 :: 153 :: 0 :: 16 :: 42 :: 89 :: 180 :: 0 :: 40 :: 4 :: 96 :: 181 :: 0 :: 40 :: 167 :: 255 :: 220 :: 4 :: 172 :: fp_scX6_step_2
def fp_scX6_step_0 : List Nat := 42 :: 180 :: 0 :: 40 :: 42 :: 180 :: 0 :: 36 :: 162 :: 0 :: 30 :: 42 :: 180 :: 0 :: 32 :: 42 :: 180 :: 0 :: 40 :: 51 :: 16 :: 32 :: 160 :: 0 :: 16 :: 42 :: 89 :: 180 :: 0 :: 40 :: 4 :: 96 :: 181 :: 0 :: 40 :: 167 :: 255 :: 221 :: 42 :: 42 :: 180 :: 0 :: 40 :: 181 :: 0 :: 76 :: 42 :: 180 :: 0 :: 40 :: 42 :: 180 :: 0 :: 36 :: 161 :: 0 :: 10 :: 42 :: 3 :: 181 :: 0 :: 64 :: 4 :: fp_scX6_step_1
theorem fp_bcX6_step : bA cX6_step 0 fp_scX6_step_0 := show cX6_step.data.toList.map UInt8.toNat = fp_scX6_step_0 from by decide +kernel
theorem fp_hdX6_step_0 : (((((decode cX6_step 0 = .ok (.aload_n 0, 1) ∧ decode cX6_step 1 = .ok (.getfield 40, 3)) ∧ (decode cX6_step 4 = .ok (.aload_n 0, 1) ∧ decode cX6_step 5 = .ok (.getfield 36, 3))) ∧ ((decode cX6_step 8 = .ok (.if_icmp .ge 30, 3) ∧ decode cX6_step 11 = .ok (.aload_n 0, 1)) ∧ (decode cX6_step 12 = .ok (.getfield 32, 3) ∧ decode cX6_step 15 = .ok (.aload_n 0, 1)))) ∧ (((decode cX6_step 16 = .ok (.getfield 40, 3) ∧ decode cX6_step 19 = .ok (.baload, 1)) ∧ (decode cX6_step 20 = .ok (.bipush 32, 2) ∧ decode cX6_step 22 = .ok (.if_icmp .ne 16, 3))) ∧ ((decode cX6_step 25 = .ok (.aload_n 0, 1) ∧ decode cX6_step 26 = .ok (.dup, 1)) ∧ (decode cX6_step 27 = .ok (.getfield 40, 3) ∧ decode cX6_step 30 = .ok (.iconst 1, 1))))) ∧ ((((decode cX6_step 31 = .ok (.iadd, 1) ∧ decode cX6_step 32 = .ok (.putfield 40, 3)) ∧ (decode cX6_step 35 = .ok (.goto (-35), 3) ∧ decode cX6_step 38 = .ok (.aload_n 0, 1))) ∧ ((decode cX6_step 39 = .ok (.aload_n 0, 1) ∧ decode cX6_step 40 = .ok (.getfield 40, 3)) ∧ (decode cX6_step 43 = .ok (.putfield 76, 3) ∧ decode cX6_step 46 = .ok (.aload_n 0, 1)))) ∧ (((decode cX6_step 47 = .ok (.getfield 40, 3) ∧ decode cX6_step 50 = .ok (.aload_n 0, 1)) ∧ (decode cX6_step 51 = .ok (.getfield 36, 3) ∧ decode cX6_step 54 = .ok (.if_icmp .lt 10, 3))) ∧ ((decode cX6_step 57 = .ok (.aload_n 0, 1) ∧ decode cX6_step 58 = .ok (.iconst 0, 1)) ∧ (decode cX6_step 59 = .ok (.putfield 64, 3) ∧ decode cX6_step 62 = .ok (.iconst 1, 1)))))) ∧ bA cX6_step 63 fp_scX6_step_1 :=
  have q0 := fp_o42 fp_bcX6_step
  have q1 := fp_o180 (v := 40) q0.2 rfl
  have q2 := fp_o42 q1.2
  have q3 := fp_o180 (v := 36) q2.2 rfl
  have q4 := fp_o162 (v := 30) q3.2 rfl
  have q5 := fp_o42 q4.2
  have q6 := fp_o180 (v := 32) q5.2 rfl
  have q7 := fp_o42 q6.2
  have q8 := fp_o180 (v := 40) q7.2 rfl
  have q9 := fp_o51 q8.2
  have q10 := fp_o16 (v := 32) q9.2 rfl
  have q11 := fp_o160 (v := 16) q10.2 rfl
  have q12 := fp_o42 q11.2
  have q13 := fp_o89 q12.2
  have q14 := fp_o180 (v := 40) q13.2 rfl
  have q15 := fp_o4 q14.2
  have q16 := fp_o96 q15.2
  have q17 := fp_o181 (v := 40) q16.2 rfl
  have q18 := fp_o167 (v := (-35)) q17.2 rfl
  have q19 := fp_o42 q18.2
  have q20 := fp_o42 q19.2
  have q21 := fp_o180 (v := 40) q20.2 rfl
  have q22 := fp_o181 (v := 76) q21.2 rfl
  have q23 := fp_o42 q22.2
  have q24 := fp_o180 (v := 40) q23.2 rfl
  have q25 := fp_o42 q24.2
  have q26 := fp_o180 (v := 36) q25.2 rfl
  have q27 := fp_o161 (v := 10) q26.2 rfl
  have q28 := fp_o42 q27.2
  have q29 := fp_o3 q28.2
  have q30 := fp_o181 (v := 64) q29.2 rfl
  have q31 := fp_o4 q30.2
  ⟨⟨⟨⟨⟨⟨q0.1, q1.1⟩, ⟨q2.1, q3.1⟩⟩, ⟨⟨q4.1, q5.1⟩, ⟨q6.1, q7.1⟩⟩⟩, ⟨⟨⟨q8.1, q9.1⟩, ⟨q10.1, q11.1⟩⟩, ⟨⟨q12.1, q13.1⟩, ⟨q14.1, q15.1⟩⟩⟩⟩, ⟨⟨⟨⟨q16.1, q17.1⟩, ⟨q18.1, q19.1⟩⟩, ⟨⟨q20.1, q21.1⟩, ⟨q22.1, q23.1⟩⟩⟩, ⟨⟨⟨q24.1, q25.1⟩, ⟨q26.1, q27.1⟩⟩, ⟨⟨q28.1, q29.1⟩, ⟨q30.1, q31.1⟩⟩⟩⟩⟩, q31.2⟩
theorem dX6_step_0 : decode cX6_step 0 = .ok (.aload_n 0, 1) := fp_hdX6_step_0.1.1.1.1.1.1
theorem dX6_step_1 : decode cX6_step 1 = .ok (.getfield 40, 3) := fp_hdX6_step_0.1.1.1.1.1.2
theorem dX6_step_4 : decode cX6_step 4 = .ok (.aload_n 0, 1) := fp_hdX6_step_0.1.1.1.1.2.1
theorem dX6_step_5 : decode cX6_step 5 = .ok (.getfield 36, 3) := fp_hdX6_step_0.1.1.1.1.2.2
theorem dX6_step_8 : decode cX6_step 8 = .ok (.if_icmp .ge 30, 3) := fp_hdX6_step_0.1.1.1.2.1.1
theorem dX6_step_11 : decode cX6_step 11 = .ok (.aload_n 0, 1) := fp_hdX6_step_0.1.1.1.2.1.2
theorem dX6_step_12 : decode cX6_step 12 = .ok (.getfield 32, 3) := fp_hdX6_step_0.1.1.1.2.2.1
theorem dX6_step_15 : decode cX6_step 15 = .ok (.aload_n 0, 1) := fp_hdX6_step_0.1.1.1.2.2.2
theorem dX6_step_16 : decode cX6_step 16 = .ok (.getfield 40, 3) := fp_hdX6_step_0.1.1.2.1.1.1
theorem dX6_step_19 : decode cX6_step 19 = .ok (.baload, 1) := fp_hdX6_step_0.1.1.2.1.1.2
theorem dX6_step_20 : decode cX6_step 20 = .ok (.bipush 32, 2) := fp_hdX6_step_0.1.1.2.1.2.1
theorem dX6_step_22 : decode cX6_step 22 = .ok (.if_icmp .ne 16, 3) := fp_hdX6_step_0.1.1.2.1.2.2
theorem dX6_step_25 : decode cX6_step 25 = .ok (.aload_n 0, 1) := fp_hdX6_step_0.1.1.2.2.1.1
theorem dX6_step_26 : decode cX6_step 26 = .ok (.dup, 1) := fp_hdX6_step_0.1.1.2.2.1.2
theorem dX6_step_27 : decode cX6_step 27 = .ok (.getfield 40, 3) := fp_hdX6_step_0.1.1.2.2.2.1
theorem dX6_step_30 : decode cX6_step 30 = .ok (.iconst 1, 1) := fp_hdX6_step_0.1.1.2.2.2.2
theorem dX6_step_31 : decode cX6_step 31 = .ok (.iadd, 1) := fp_hdX6_step_0.1.2.1.1.1.1
theorem dX6_step_32 : decode cX6_step 32 = .ok (.putfield 40, 3) := fp_hdX6_step_0.1.2.1.1.1.2
theorem dX6_step_35 : decode cX6_step 35 = .ok (.goto (-35), 3) := fp_hdX6_step_0.1.2.1.1.2.1
theorem dX6_step_38 : decode cX6_step 38 = .ok (.aload_n 0, 1) := fp_hdX6_step_0.1.2.1.1.2.2
theorem dX6_step_39 : decode cX6_step 39 = .ok (.aload_n 0, 1) := fp_hdX6_step_0.1.2.1.2.1.1
theorem dX6_step_40 : decode cX6_step 40 = .ok (.getfield 40, 3) := fp_hdX6_step_0.1.2.1.2.1.2
theorem dX6_step_43 : decode cX6_step 43 = .ok (.putfield 76, 3) := fp_hdX6_step_0.1.2.1.2.2.1
theorem dX6_step_46 : decode cX6_step 46 = .ok (.aload_n 0, 1) := fp_hdX6_step_0.1.2.1.2.2.2
theorem dX6_step_47 : decode cX6_step 47 = .ok (.getfield 40, 3) := fp_hdX6_step_0.1.2.2.1.1.1
theorem dX6_step_50 : decode cX6_step 50 = .ok (.aload_n 0, 1) := fp_hdX6_step_0.1.2.2.1.1.2
theorem dX6_step_51 : decode cX6_step 51 = .ok (.getfield 36, 3) := fp_hdX6_step_0.1.2.2.1.2.1
theorem dX6_step_54 : decode cX6_step 54 = .ok (.if_icmp .lt 10, 3) := fp_hdX6_step_0.1.2.2.1.2.2
theorem dX6_step_57 : decode cX6_step 57 = .ok (.aload_n 0, 1) := fp_hdX6_step_0.1.2.2.2.1.1
theorem dX6_step_58 : decode cX6_step 58 = .ok (.iconst 0, 1) := fp_hdX6_step_0.1.2.2.2.1.2
theorem dX6_step_59 : decode cX6_step 59 = .ok (.putfield 64, 3) := fp_hdX6_step_0.1.2.2.2.2.1
theorem dX6_step_62 : decode cX6_step 62 = .ok (.iconst 1, 1) := fp_hdX6_step_0.1.2.2.2.2.2
theorem fp_hdX6_step_63 : (((((decode cX6_step 63 = .ok (.ireturn, 1) ∧ decode cX6_step 64 = .ok (.aload_n 0, 1)) ∧ (decode cX6_step 65 = .ok (.getfield 32, 3) ∧ decode cX6_step 68 = .ok (.aload_n 0, 1))) ∧ ((decode cX6_step 69 = .ok (.getfield 40, 3) ∧ decode cX6_step 72 = .ok (.baload, 1)) ∧ (decode cX6_step 73 = .ok (.invokestatic 79, 3) ∧ decode cX6_step 76 = .ok (.ifCond .eq 49, 3)))) ∧ (((decode cX6_step 79 = .ok (.aload_n 0, 1) ∧ decode cX6_step 80 = .ok (.iconst 1, 1)) ∧ (decode cX6_step 81 = .ok (.putfield 64, 3) ∧ decode cX6_step 84 = .ok (.aload_n 0, 1))) ∧ ((decode cX6_step 85 = .ok (.getfield 40, 3) ∧ decode cX6_step 88 = .ok (.aload_n 0, 1)) ∧ (decode cX6_step 89 = .ok (.getfield 36, 3) ∧ decode cX6_step 92 = .ok (.if_icmp .ge 31, 3))))) ∧ ((((decode cX6_step 95 = .ok (.aload_n 0, 1) ∧ decode cX6_step 96 = .ok (.getfield 32, 3)) ∧ (decode cX6_step 99 = .ok (.aload_n 0, 1) ∧ decode cX6_step 100 = .ok (.getfield 40, 3))) ∧ ((decode cX6_step 103 = .ok (.baload, 1) ∧ decode cX6_step 104 = .ok (.invokestatic 79, 3)) ∧ (decode cX6_step 107 = .ok (.ifCond .eq 16, 3) ∧ decode cX6_step 110 = .ok (.aload_n 0, 1)))) ∧ (((decode cX6_step 111 = .ok (.dup, 1) ∧ decode cX6_step 112 = .ok (.getfield 40, 3)) ∧ (decode cX6_step 115 = .ok (.iconst 1, 1) ∧ decode cX6_step 116 = .ok (.iadd, 1))) ∧ ((decode cX6_step 117 = .ok (.putfield 40, 3) ∧ decode cX6_step 120 = .ok (.goto (-36), 3)) ∧ (decode cX6_step 123 = .ok (.iconst 1, 1) ∧ decode cX6_step 124 = .ok (.ireturn, 1)))))) ∧ bA cX6_step 125 fp_scX6_step_2 :=
  have q0 := fp_o172 fp_hdX6_step_0.2
  have q1 := fp_o42 q0.2
  have q2 := fp_o180 (v := 32) q1.2 rfl
  have q3 := fp_o42 q2.2
  have q4 := fp_o180 (v := 40) q3.2 rfl
  have q5 := fp_o51 q4.2
  have q6 := fp_o184 (v := 79) q5.2 rfl
  have q7 := fp_o153 (v := 49) q6.2 rfl
  have q8 := fp_o42 q7.2
  have q9 := fp_o4 q8.2
  have q10 := fp_o181 (v := 64) q9.2 rfl
  have q11 := fp_o42 q10.2
  have q12 := fp_o180 (v := 40) q11.2 rfl
  have q13 := fp_o42 q12.2
  have q14 := fp_o180 (v := 36) q13.2 rfl
  have q15 := fp_o162 (v := 31) q14.2 rfl
  have q16 := fp_o42 q15.2
  have q17 := fp_o180 (v := 32) q16.2 rfl
  have q18 := fp_o42 q17.2
  have q19 := fp_o180 (v := 40) q18.2 rfl
  have q20 := fp_o51 q19.2
  have q21 := fp_o184 (v := 79) q20.2 rfl
  have q22 := fp_o153 (v := 16) q21.2 rfl
  have q23 := fp_o42 q22.2
  have q24 := fp_o89 q23.2
  have q25 := fp_o180 (v := 40) q24.2 rfl
  have q26 := fp_o4 q25.2
  have q27 := fp_o96 q26.2
  have q28 := fp_o181 (v := 40) q27.2 rfl
  have q29 := fp_o167 (v := (-36)) q28.2 rfl
  have q30 := fp_o4 q29.2
  have q31 := fp_o172 q30.2
  ⟨⟨⟨⟨⟨⟨q0.1, q1.1⟩, ⟨q2.1, q3.1⟩⟩, ⟨⟨q4.1, q5.1⟩, ⟨q6.1, q7.1⟩⟩⟩, ⟨⟨⟨q8.1, q9.1⟩, ⟨q10.1, q11.1⟩⟩, ⟨⟨q12.1, q13.1⟩, ⟨q14.1, q15.1⟩⟩⟩⟩, ⟨⟨⟨⟨q16.1, q17.1⟩, ⟨q18.1, q19.1⟩⟩, ⟨⟨q20.1, q21.1⟩, ⟨q22.1, q23.1⟩⟩⟩, ⟨⟨⟨q24.1, q25.1⟩, ⟨q26.1, q27.1⟩⟩, ⟨⟨q28.1, q29.1⟩, ⟨q30.1, q31.1⟩⟩⟩⟩⟩, q31.2⟩
theorem dX6_step_63 : decode cX6_step 63 = .ok (.ireturn, 1) := fp_hdX6_step_63.1.1.1.1.1.1
theorem dX6_step_64 : decode cX6_step 64 = .ok (.aload_n 0, 1) := fp_hdX6_step_63.1.1.1.1.1.2
theorem dX6_step_65 : decode cX6_step 65 = .ok (.getfield 32, 3) := fp_hdX6_step_63.1.1.1.1.2.1
theorem dX6_step_68 : decode cX6_step 68 = .ok (.aload_n 0, 1) := fp_hdX6_step_63.1.1.1.1.2.2
theorem dX6_step_69 : decode cX6_step 69 = .ok (.getfield 40, 3) := fp_hdX6_step_63.1.1.1.2.1.1
theorem dX6_step_72 : decode cX6_step 72 = .ok (.baload, 1) := fp_hdX6_step_63.1.1.1.2.1.2
theorem dX6_step_73 : decode cX6_step 73 = .ok (.invokestatic 79, 3) := fp_hdX6_step_63.1.1.1.2.2.1
theorem dX6_step_76 : decode cX6_step 76 = .ok (.ifCond .eq 49, 3) := fp_hdX6_step_63.1.1.1.2.2.2
theorem dX6_step_79 : decode cX6_step 79 = .ok (.aload_n 0, 1) := fp_hdX6_step_63.1.1.2.1.1.1
theorem dX6_step_80 : decode cX6_step 80 = .ok (.iconst 1, 1) := fp_hdX6_step_63.1.1.2.1.1.2
theorem dX6_step_81 : decode cX6_step 81 = .ok (.putfield 64, 3) := fp_hdX6_step_63.1.1.2.1.2.1
theorem dX6_step_84 : decode cX6_step 84 = .ok (.aload_n 0, 1) := fp_hdX6_step_63.1.1.2.1.2.2
theorem dX6_step_85 : decode cX6_step 85 = .ok (.getfield 40, 3) := fp_hdX6_step_63.1.1.2.2.1.1
theorem dX6_step_88 : decode cX6_step 88 = .ok (.aload_n 0, 1) := fp_hdX6_step_63.1.1.2.2.1.2
theorem dX6_step_89 : decode cX6_step 89 = .ok (.getfield 36, 3) := fp_hdX6_step_63.1.1.2.2.2.1
theorem dX6_step_92 : decode cX6_step 92 = .ok (.if_icmp .ge 31, 3) := fp_hdX6_step_63.1.1.2.2.2.2
theorem dX6_step_95 : decode cX6_step 95 = .ok (.aload_n 0, 1) := fp_hdX6_step_63.1.2.1.1.1.1
theorem dX6_step_96 : decode cX6_step 96 = .ok (.getfield 32, 3) := fp_hdX6_step_63.1.2.1.1.1.2
theorem dX6_step_99 : decode cX6_step 99 = .ok (.aload_n 0, 1) := fp_hdX6_step_63.1.2.1.1.2.1
theorem dX6_step_100 : decode cX6_step 100 = .ok (.getfield 40, 3) := fp_hdX6_step_63.1.2.1.1.2.2
theorem dX6_step_103 : decode cX6_step 103 = .ok (.baload, 1) := fp_hdX6_step_63.1.2.1.2.1.1
theorem dX6_step_104 : decode cX6_step 104 = .ok (.invokestatic 79, 3) := fp_hdX6_step_63.1.2.1.2.1.2
theorem dX6_step_107 : decode cX6_step 107 = .ok (.ifCond .eq 16, 3) := fp_hdX6_step_63.1.2.1.2.2.1
theorem dX6_step_110 : decode cX6_step 110 = .ok (.aload_n 0, 1) := fp_hdX6_step_63.1.2.1.2.2.2
theorem dX6_step_111 : decode cX6_step 111 = .ok (.dup, 1) := fp_hdX6_step_63.1.2.2.1.1.1
theorem dX6_step_112 : decode cX6_step 112 = .ok (.getfield 40, 3) := fp_hdX6_step_63.1.2.2.1.1.2
theorem dX6_step_115 : decode cX6_step 115 = .ok (.iconst 1, 1) := fp_hdX6_step_63.1.2.2.1.2.1
theorem dX6_step_116 : decode cX6_step 116 = .ok (.iadd, 1) := fp_hdX6_step_63.1.2.2.1.2.2
theorem dX6_step_117 : decode cX6_step 117 = .ok (.putfield 40, 3) := fp_hdX6_step_63.1.2.2.2.1.1
theorem dX6_step_120 : decode cX6_step 120 = .ok (.goto (-36), 3) := fp_hdX6_step_63.1.2.2.2.1.2
theorem dX6_step_123 : decode cX6_step 123 = .ok (.iconst 1, 1) := fp_hdX6_step_63.1.2.2.2.2.1
theorem dX6_step_124 : decode cX6_step 124 = .ok (.ireturn, 1) := fp_hdX6_step_63.1.2.2.2.2.2
theorem fp_hdX6_step_125 : (((((decode cX6_step 125 = .ok (.aload_n 0, 1) ∧ decode cX6_step 126 = .ok (.getfield 32, 3)) ∧ (decode cX6_step 129 = .ok (.aload_n 0, 1) ∧ decode cX6_step 130 = .ok (.getfield 40, 3))) ∧ ((decode cX6_step 133 = .ok (.baload, 1) ∧ decode cX6_step 134 = .ok (.invokestatic 83, 3)) ∧ (decode cX6_step 137 = .ok (.ifCond .eq 107, 3) ∧ decode cX6_step 140 = .ok (.aload_n 0, 1)))) ∧ (((decode cX6_step 141 = .ok (.iconst 2, 1) ∧ decode cX6_step 142 = .ok (.putfield 64, 3)) ∧ (decode cX6_step 145 = .ok (.aload_n 0, 1) ∧ decode cX6_step 146 = .ok (.iconst 0, 1))) ∧ ((decode cX6_step 147 = .ok (.putfield 86, 3) ∧ decode cX6_step 150 = .ok (.aload_n 0, 1)) ∧ (decode cX6_step 151 = .ok (.getfield 40, 3) ∧ decode cX6_step 154 = .ok (.aload_n 0, 1))))) ∧ ((((decode cX6_step 155 = .ok (.getfield 36, 3) ∧ decode cX6_step 158 = .ok (.if_icmp .ge 55, 3)) ∧ (decode cX6_step 161 = .ok (.aload_n 0, 1) ∧ decode cX6_step 162 = .ok (.getfield 32, 3))) ∧ ((decode cX6_step 165 = .ok (.aload_n 0, 1) ∧ decode cX6_step 166 = .ok (.getfield 40, 3)) ∧ (decode cX6_step 169 = .ok (.baload, 1) ∧ decode cX6_step 170 = .ok (.invokestatic 83, 3)))) ∧ (((decode cX6_step 173 = .ok (.ifCond .eq 40, 3) ∧ decode cX6_step 176 = .ok (.aload_n 0, 1)) ∧ (decode cX6_step 177 = .ok (.aload_n 0, 1) ∧ decode cX6_step 178 = .ok (.getfield 86, 3))) ∧ ((decode cX6_step 181 = .ok (.bipush 10, 2) ∧ decode cX6_step 183 = .ok (.imul, 1)) ∧ (decode cX6_step 184 = .ok (.aload_n 0, 1) ∧ decode cX6_step 185 = .ok (.getfield 32, 3)))))) ∧ bA cX6_step 188 fp_scX6_step_3 :=
  have q0 := fp_o42 fp_hdX6_step_63.2
  have q1 := fp_o180 (v := 32) q0.2 rfl
  have q2 := fp_o42 q1.2
  have q3 := fp_o180 (v := 40) q2.2 rfl
  have q4 := fp_o51 q3.2
  have q5 := fp_o184 (v := 83) q4.2 rfl
  have q6 := fp_o153 (v := 107) q5.2 rfl
  have q7 := fp_o42 q6.2
  have q8 := fp_o5 q7.2
  have q9 := fp_o181 (v := 64) q8.2 rfl
  have q10 := fp_o42 q9.2
  have q11 := fp_o3 q10.2
  have q12 := fp_o181 (v := 86) q11.2 rfl
  have q13 := fp_o42 q12.2
  have q14 := fp_o180 (v := 40) q13.2 rfl
  have q15 := fp_o42 q14.2
  have q16 := fp_o180 (v := 36) q15.2 rfl
  have q17 := fp_o162 (v := 55) q16.2 rfl
  have q18 := fp_o42 q17.2
  have q19 := fp_o180 (v := 32) q18.2 rfl
  have q20 := fp_o42 q19.2
  have q21 := fp_o180 (v := 40) q20.2 rfl
  have q22 := fp_o51 q21.2
  have q23 := fp_o184 (v := 83) q22.2 rfl
  have q24 := fp_o153 (v := 40) q23.2 rfl
  have q25 := fp_o42 q24.2
  have q26 := fp_o42 q25.2
  have q27 := fp_o180 (v := 86) q26.2 rfl
  have q28 := fp_o16 (v := 10) q27.2 rfl
  have q29 := fp_o104 q28.2
  have q30 := fp_o42 q29.2
  have q31 := fp_o180 (v := 32) q30.2 rfl
  ⟨⟨⟨⟨⟨⟨q0.1, q1.1⟩, ⟨q2.1, q3.1⟩⟩, ⟨⟨q4.1, q5.1⟩, ⟨q6.1, q7.1⟩⟩⟩, ⟨⟨⟨q8.1, q9.1⟩, ⟨q10.1, q11.1⟩⟩, ⟨⟨q12.1, q13.1⟩, ⟨q14.1, q15.1⟩⟩⟩⟩, ⟨⟨⟨⟨q16.1, q17.1⟩, ⟨q18.1, q19.1⟩⟩, ⟨⟨q20.1, q21.1⟩, ⟨q22.1, q23.1⟩⟩⟩, ⟨⟨⟨q24.1, q25.1⟩, ⟨q26.1, q27.1⟩⟩, ⟨⟨q28.1, q29.1⟩, ⟨q30.1, q31.1⟩⟩⟩⟩⟩, q31.2⟩
theorem dX6_step_125 : decode cX6_step 125 = .ok (.aload_n 0, 1) := fp_hdX6_step_125.1.1.1.1.1.1
theorem dX6_step_126 : decode cX6_step 126 = .ok (.getfield 32, 3) := fp_hdX6_step_125.1.1.1.1.1.2
theorem dX6_step_129 : decode cX6_step 129 = .ok (.aload_n 0, 1) := fp_hdX6_step_125.1.1.1.1.2.1
theorem dX6_step_130 : decode cX6_step 130 = .ok (.getfield 40, 3) := fp_hdX6_step_125.1.1.1.1.2.2
theorem dX6_step_133 : decode cX6_step 133 = .ok (.baload, 1) := fp_hdX6_step_125.1.1.1.2.1.1
theorem dX6_step_134 : decode cX6_step 134 = .ok (.invokestatic 83, 3) := fp_hdX6_step_125.1.1.1.2.1.2
theorem dX6_step_137 : decode cX6_step 137 = .ok (.ifCond .eq 107, 3) := fp_hdX6_step_125.1.1.1.2.2.1
theorem dX6_step_140 : decode cX6_step 140 = .ok (.aload_n 0, 1) := fp_hdX6_step_125.1.1.1.2.2.2
theorem dX6_step_141 : decode cX6_step 141 = .ok (.iconst 2, 1) := fp_hdX6_step_125.1.1.2.1.1.1
theorem dX6_step_142 : decode cX6_step 142 = .ok (.putfield 64, 3) := fp_hdX6_step_125.1.1.2.1.1.2
theorem dX6_step_145 : decode cX6_step 145 = .ok (.aload_n 0, 1) := fp_hdX6_step_125.1.1.2.1.2.1
theorem dX6_step_146 : decode cX6_step 146 = .ok (.iconst 0, 1) := fp_hdX6_step_125.1.1.2.1.2.2
theorem dX6_step_147 : decode cX6_step 147 = .ok (.putfield 86, 3) := fp_hdX6_step_125.1.1.2.2.1.1
theorem dX6_step_150 : decode cX6_step 150 = .ok (.aload_n 0, 1) := fp_hdX6_step_125.1.1.2.2.1.2
theorem dX6_step_151 : decode cX6_step 151 = .ok (.getfield 40, 3) := fp_hdX6_step_125.1.1.2.2.2.1
theorem dX6_step_154 : decode cX6_step 154 = .ok (.aload_n 0, 1) := fp_hdX6_step_125.1.1.2.2.2.2
theorem dX6_step_155 : decode cX6_step 155 = .ok (.getfield 36, 3) := fp_hdX6_step_125.1.2.1.1.1.1
theorem dX6_step_158 : decode cX6_step 158 = .ok (.if_icmp .ge 55, 3) := fp_hdX6_step_125.1.2.1.1.1.2
theorem dX6_step_161 : decode cX6_step 161 = .ok (.aload_n 0, 1) := fp_hdX6_step_125.1.2.1.1.2.1
theorem dX6_step_162 : decode cX6_step 162 = .ok (.getfield 32, 3) := fp_hdX6_step_125.1.2.1.1.2.2
theorem dX6_step_165 : decode cX6_step 165 = .ok (.aload_n 0, 1) := fp_hdX6_step_125.1.2.1.2.1.1
theorem dX6_step_166 : decode cX6_step 166 = .ok (.getfield 40, 3) := fp_hdX6_step_125.1.2.1.2.1.2
theorem dX6_step_169 : decode cX6_step 169 = .ok (.baload, 1) := fp_hdX6_step_125.1.2.1.2.2.1
theorem dX6_step_170 : decode cX6_step 170 = .ok (.invokestatic 83, 3) := fp_hdX6_step_125.1.2.1.2.2.2
theorem dX6_step_173 : decode cX6_step 173 = .ok (.ifCond .eq 40, 3) := fp_hdX6_step_125.1.2.2.1.1.1
theorem dX6_step_176 : decode cX6_step 176 = .ok (.aload_n 0, 1) := fp_hdX6_step_125.1.2.2.1.1.2
theorem dX6_step_177 : decode cX6_step 177 = .ok (.aload_n 0, 1) := fp_hdX6_step_125.1.2.2.1.2.1
theorem dX6_step_178 : decode cX6_step 178 = .ok (.getfield 86, 3) := fp_hdX6_step_125.1.2.2.1.2.2
theorem dX6_step_181 : decode cX6_step 181 = .ok (.bipush 10, 2) := fp_hdX6_step_125.1.2.2.2.1.1
theorem dX6_step_183 : decode cX6_step 183 = .ok (.imul, 1) := fp_hdX6_step_125.1.2.2.2.1.2
theorem dX6_step_184 : decode cX6_step 184 = .ok (.aload_n 0, 1) := fp_hdX6_step_125.1.2.2.2.2.1
theorem dX6_step_185 : decode cX6_step 185 = .ok (.getfield 32, 3) := fp_hdX6_step_125.1.2.2.2.2.2
theorem fp_hdX6_step_188 : (((((decode cX6_step 188 = .ok (.aload_n 0, 1) ∧ decode cX6_step 189 = .ok (.getfield 40, 3)) ∧ (decode cX6_step 192 = .ok (.baload, 1) ∧ decode cX6_step 193 = .ok (.iadd, 1))) ∧ ((decode cX6_step 194 = .ok (.bipush 48, 2) ∧ decode cX6_step 196 = .ok (.isub, 1)) ∧ (decode cX6_step 197 = .ok (.putfield 86, 3) ∧ decode cX6_step 200 = .ok (.aload_n 0, 1)))) ∧ (((decode cX6_step 201 = .ok (.dup, 1) ∧ decode cX6_step 202 = .ok (.getfield 40, 3)) ∧ (decode cX6_step 205 = .ok (.iconst 1, 1) ∧ decode cX6_step 206 = .ok (.iadd, 1))) ∧ ((decode cX6_step 207 = .ok (.putfield 40, 3) ∧ decode cX6_step 210 = .ok (.goto (-60), 3)) ∧ (decode cX6_step 213 = .ok (.aload_n 0, 1) ∧ decode cX6_step 214 = .ok (.getfield 40, 3))))) ∧ ((((decode cX6_step 217 = .ok (.aload_n 0, 1) ∧ decode cX6_step 218 = .ok (.getfield 76, 3)) ∧ (decode cX6_step 221 = .ok (.isub, 1) ∧ decode cX6_step 222 = .ok (.iconst 2, 1))) ∧ ((decode cX6_step 223 = .ok (.if_icmp .le 15, 3) ∧ decode cX6_step 226 = .ok (.aload_n 0, 1)) ∧ (decode cX6_step 227 = .ok (.iconst 1, 1) ∧ decode cX6_step 228 = .ok (.aload_n 0, 1)))) ∧ (((decode cX6_step 229 = .ok (.getfield 76, 3) ∧ decode cX6_step 232 = .ok (.invokevirtual 89, 3)) ∧ (decode cX6_step 235 = .ok (.ifCond .eq 7, 3) ∧ decode cX6_step 238 = .ok (.iconst 1, 1))) ∧ ((decode cX6_step 239 = .ok (.goto 4, 3) ∧ decode cX6_step 242 = .ok (.iconst 0, 1)) ∧ (decode cX6_step 243 = .ok (.ireturn, 1) ∧ decode cX6_step 244 = .ok (.aload_n 0, 1)))))) ∧ bA cX6_step 245 fp_scX6_step_4 :=
  have q0 := fp_o42 fp_hdX6_step_125.2
  have q1 := fp_o180 (v := 40) q0.2 rfl
  have q2 := fp_o51 q1.2
  have q3 := fp_o96 q2.2
  have q4 := fp_o16 (v := 48) q3.2 rfl
  have q5 := fp_o100 q4.2
  have q6 := fp_o181 (v := 86) q5.2 rfl
  have q7 := fp_o42 q6.2
  have q8 := fp_o89 q7.2
  have q9 := fp_o180 (v := 40) q8.2 rfl
  have q10 := fp_o4 q9.2
  have q11 := fp_o96 q10.2
  have q12 := fp_o181 (v := 40) q11.2 rfl
  have q13 := fp_o167 (v := (-60)) q12.2 rfl
  have q14 := fp_o42 q13.2
  have q15 := fp_o180 (v := 40) q14.2 rfl
  have q16 := fp_o42 q15.2
  have q17 := fp_o180 (v := 76) q16.2 rfl
  have q18 := fp_o100 q17.2
  have q19 := fp_o5 q18.2
  have q20 := fp_o164 (v := 15) q19.2 rfl
  have q21 := fp_o42 q20.2
  have q22 := fp_o4 q21.2
  have q23 := fp_o42 q22.2
  have q24 := fp_o180 (v := 76) q23.2 rfl
  have q25 := fp_o182 (v := 89) q24.2 rfl
  have q26 := fp_o153 (v := 7) q25.2 rfl
  have q27 := fp_o4 q26.2
  have q28 := fp_o167 (v := 4) q27.2 rfl
  have q29 := fp_o3 q28.2
  have q30 := fp_o172 q29.2
  have q31 := fp_o42 q30.2
  ⟨⟨⟨⟨⟨⟨q0.1, q1.1⟩, ⟨q2.1, q3.1⟩⟩, ⟨⟨q4.1, q5.1⟩, ⟨q6.1, q7.1⟩⟩⟩, ⟨⟨⟨q8.1, q9.1⟩, ⟨q10.1, q11.1⟩⟩, ⟨⟨q12.1, q13.1⟩, ⟨q14.1, q15.1⟩⟩⟩⟩, ⟨⟨⟨⟨q16.1, q17.1⟩, ⟨q18.1, q19.1⟩⟩, ⟨⟨q20.1, q21.1⟩, ⟨q22.1, q23.1⟩⟩⟩, ⟨⟨⟨q24.1, q25.1⟩, ⟨q26.1, q27.1⟩⟩, ⟨⟨q28.1, q29.1⟩, ⟨q30.1, q31.1⟩⟩⟩⟩⟩, q31.2⟩
theorem dX6_step_188 : decode cX6_step 188 = .ok (.aload_n 0, 1) := fp_hdX6_step_188.1.1.1.1.1.1
theorem dX6_step_189 : decode cX6_step 189 = .ok (.getfield 40, 3) := fp_hdX6_step_188.1.1.1.1.1.2
theorem dX6_step_192 : decode cX6_step 192 = .ok (.baload, 1) := fp_hdX6_step_188.1.1.1.1.2.1
theorem dX6_step_193 : decode cX6_step 193 = .ok (.iadd, 1) := fp_hdX6_step_188.1.1.1.1.2.2
theorem dX6_step_194 : decode cX6_step 194 = .ok (.bipush 48, 2) := fp_hdX6_step_188.1.1.1.2.1.1
theorem dX6_step_196 : decode cX6_step 196 = .ok (.isub, 1) := fp_hdX6_step_188.1.1.1.2.1.2
theorem dX6_step_197 : decode cX6_step 197 = .ok (.putfield 86, 3) := fp_hdX6_step_188.1.1.1.2.2.1
theorem dX6_step_200 : decode cX6_step 200 = .ok (.aload_n 0, 1) := fp_hdX6_step_188.1.1.1.2.2.2
theorem dX6_step_201 : decode cX6_step 201 = .ok (.dup, 1) := fp_hdX6_step_188.1.1.2.1.1.1
theorem dX6_step_202 : decode cX6_step 202 = .ok (.getfield 40, 3) := fp_hdX6_step_188.1.1.2.1.1.2
theorem dX6_step_205 : decode cX6_step 205 = .ok (.iconst 1, 1) := fp_hdX6_step_188.1.1.2.1.2.1
theorem dX6_step_206 : decode cX6_step 206 = .ok (.iadd, 1) := fp_hdX6_step_188.1.1.2.1.2.2
theorem dX6_step_207 : decode cX6_step 207 = .ok (.putfield 40, 3) := fp_hdX6_step_188.1.1.2.2.1.1
theorem dX6_step_210 : decode cX6_step 210 = .ok (.goto (-60), 3) := fp_hdX6_step_188.1.1.2.2.1.2
theorem dX6_step_213 : decode cX6_step 213 = .ok (.aload_n 0, 1) := fp_hdX6_step_188.1.1.2.2.2.1
theorem dX6_step_214 : decode cX6_step 214 = .ok (.getfield 40, 3) := fp_hdX6_step_188.1.1.2.2.2.2
theorem dX6_step_217 : decode cX6_step 217 = .ok (.aload_n 0, 1) := fp_hdX6_step_188.1.2.1.1.1.1
theorem dX6_step_218 : decode cX6_step 218 = .ok (.getfield 76, 3) := fp_hdX6_step_188.1.2.1.1.1.2
theorem dX6_step_221 : decode cX6_step 221 = .ok (.isub, 1) := fp_hdX6_step_188.1.2.1.1.2.1
theorem dX6_step_222 : decode cX6_step 222 = .ok (.iconst 2, 1) := fp_hdX6_step_188.1.2.1.1.2.2
theorem dX6_step_223 : decode cX6_step 223 = .ok (.if_icmp .le 15, 3) := fp_hdX6_step_188.1.2.1.2.1.1
theorem dX6_step_226 : decode cX6_step 226 = .ok (.aload_n 0, 1) := fp_hdX6_step_188.1.2.1.2.1.2
theorem dX6_step_227 : decode cX6_step 227 = .ok (.iconst 1, 1) := fp_hdX6_step_188.1.2.1.2.2.1
theorem dX6_step_228 : decode cX6_step 228 = .ok (.aload_n 0, 1) := fp_hdX6_step_188.1.2.1.2.2.2
theorem dX6_step_229 : decode cX6_step 229 = .ok (.getfield 76, 3) := fp_hdX6_step_188.1.2.2.1.1.1
theorem dX6_step_232 : decode cX6_step 232 = .ok (.invokevirtual 89, 3) := fp_hdX6_step_188.1.2.2.1.1.2
theorem dX6_step_235 : decode cX6_step 235 = .ok (.ifCond .eq 7, 3) := fp_hdX6_step_188.1.2.2.1.2.1
theorem dX6_step_238 : decode cX6_step 238 = .ok (.iconst 1, 1) := fp_hdX6_step_188.1.2.2.1.2.2
theorem dX6_step_239 : decode cX6_step 239 = .ok (.goto 4, 3) := fp_hdX6_step_188.1.2.2.2.1.1
theorem dX6_step_242 : decode cX6_step 242 = .ok (.iconst 0, 1) := fp_hdX6_step_188.1.2.2.2.1.2
theorem dX6_step_243 : decode cX6_step 243 = .ok (.ireturn, 1) := fp_hdX6_step_188.1.2.2.2.2.1
theorem dX6_step_244 : decode cX6_step 244 = .ok (.aload_n 0, 1) := fp_hdX6_step_188.1.2.2.2.2.2
theorem fp_hdX6_step_245 : (((((decode cX6_step 245 = .ok (.iconst 3, 1) ∧ decode cX6_step 246 = .ok (.putfield 64, 3)) ∧ (decode cX6_step 249 = .ok (.aload_n 0, 1) ∧ decode cX6_step 250 = .ok (.dup, 1))) ∧ ((decode cX6_step 251 = .ok (.getfield 40, 3) ∧ decode cX6_step 254 = .ok (.iconst 1, 1)) ∧ decode cX6_step 255 = .ok (.iadd, 1))) ∧ (((decode cX6_step 256 = .ok (.putfield 40, 3) ∧ decode cX6_step 259 = .ok (.aload_n 0, 1)) ∧ decode cX6_step 260 = .ok (.getfield 32, 3)) ∧ ((decode cX6_step 263 = .ok (.aload_n 0, 1) ∧ decode cX6_step 264 = .ok (.getfield 76, 3)) ∧ decode cX6_step 267 = .ok (.baload, 1)))) ∧ ((((decode cX6_step 268 = .ok (.bipush 59, 2) ∧ decode cX6_step 270 = .ok (.if_icmp .eq 15, 3)) ∧ decode cX6_step 273 = .ok (.aload_n 0, 1)) ∧ ((decode cX6_step 274 = .ok (.iconst 1, 1) ∧ decode cX6_step 275 = .ok (.aload_n 0, 1)) ∧ decode cX6_step 276 = .ok (.getfield 76, 3))) ∧ (((decode cX6_step 279 = .ok (.invokevirtual 89, 3) ∧ decode cX6_step 282 = .ok (.ifCond .eq 7, 3)) ∧ decode cX6_step 285 = .ok (.iconst 1, 1)) ∧ ((decode cX6_step 286 = .ok (.goto 4, 3) ∧ decode cX6_step 289 = .ok (.iconst 0, 1)) ∧ decode cX6_step 290 = .ok (.ireturn, 1))))) ∧ bA cX6_step 291 [] :=
  have q0 := fp_o6 fp_hdX6_step_188.2
  have q1 := fp_o181 (v := 64) q0.2 rfl
  have q2 := fp_o42 q1.2
  have q3 := fp_o89 q2.2
  have q4 := fp_o180 (v := 40) q3.2 rfl
  have q5 := fp_o4 q4.2
  have q6 := fp_o96 q5.2
  have q7 := fp_o181 (v := 40) q6.2 rfl
  have q8 := fp_o42 q7.2
  have q9 := fp_o180 (v := 32) q8.2 rfl
  have q10 := fp_o42 q9.2
  have q11 := fp_o180 (v := 76) q10.2 rfl
  have q12 := fp_o51 q11.2
  have q13 := fp_o16 (v := 59) q12.2 rfl
  have q14 := fp_o159 (v := 15) q13.2 rfl
  have q15 := fp_o42 q14.2
  have q16 := fp_o4 q15.2
  have q17 := fp_o42 q16.2
  have q18 := fp_o180 (v := 76) q17.2 rfl
  have q19 := fp_o182 (v := 89) q18.2 rfl
  have q20 := fp_o153 (v := 7) q19.2 rfl
  have q21 := fp_o4 q20.2
  have q22 := fp_o167 (v := 4) q21.2 rfl
  have q23 := fp_o3 q22.2
  have q24 := fp_o172 q23.2
  ⟨⟨⟨⟨⟨⟨q0.1, q1.1⟩, ⟨q2.1, q3.1⟩⟩, ⟨⟨q4.1, q5.1⟩, q6.1⟩⟩, ⟨⟨⟨q7.1, q8.1⟩, q9.1⟩, ⟨⟨q10.1, q11.1⟩, q12.1⟩⟩⟩, ⟨⟨⟨⟨q13.1, q14.1⟩, q15.1⟩, ⟨⟨q16.1, q17.1⟩, q18.1⟩⟩, ⟨⟨⟨q19.1, q20.1⟩, q21.1⟩, ⟨⟨q22.1, q23.1⟩, q24.1⟩⟩⟩⟩, q24.2⟩
theorem dX6_step_245 : decode cX6_step 245 = .ok (.iconst 3, 1) := fp_hdX6_step_245.1.1.1.1.1.1
theorem dX6_step_246 : decode cX6_step 246 = .ok (.putfield 64, 3) := fp_hdX6_step_245.1.1.1.1.1.2
theorem dX6_step_249 : decode cX6_step 249 = .ok (.aload_n 0, 1) := fp_hdX6_step_245.1.1.1.1.2.1
theorem dX6_step_250 : decode cX6_step 250 = .ok (.dup, 1) := fp_hdX6_step_245.1.1.1.1.2.2
theorem dX6_step_251 : decode cX6_step 251 = .ok (.getfield 40, 3) := fp_hdX6_step_245.1.1.1.2.1.1
theorem dX6_step_254 : decode cX6_step 254 = .ok (.iconst 1, 1) := fp_hdX6_step_245.1.1.1.2.1.2
theorem dX6_step_255 : decode cX6_step 255 = .ok (.iadd, 1) := fp_hdX6_step_245.1.1.1.2.2
theorem dX6_step_256 : decode cX6_step 256 = .ok (.putfield 40, 3) := fp_hdX6_step_245.1.1.2.1.1.1
theorem dX6_step_259 : decode cX6_step 259 = .ok (.aload_n 0, 1) := fp_hdX6_step_245.1.1.2.1.1.2
theorem dX6_step_260 : decode cX6_step 260 = .ok (.getfield 32, 3) := fp_hdX6_step_245.1.1.2.1.2
theorem dX6_step_263 : decode cX6_step 263 = .ok (.aload_n 0, 1) := fp_hdX6_step_245.1.1.2.2.1.1
theorem dX6_step_264 : decode cX6_step 264 = .ok (.getfield 76, 3) := fp_hdX6_step_245.1.1.2.2.1.2
theorem dX6_step_267 : decode cX6_step 267 = .ok (.baload, 1) := fp_hdX6_step_245.1.1.2.2.2
theorem dX6_step_268 : decode cX6_step 268 = .ok (.bipush 59, 2) := fp_hdX6_step_245.1.2.1.1.1.1
theorem dX6_step_270 : decode cX6_step 270 = .ok (.if_icmp .eq 15, 3) := fp_hdX6_step_245.1.2.1.1.1.2
theorem dX6_step_273 : decode cX6_step 273 = .ok (.aload_n 0, 1) := fp_hdX6_step_245.1.2.1.1.2
theorem dX6_step_274 : decode cX6_step 274 = .ok (.iconst 1, 1) := fp_hdX6_step_245.1.2.1.2.1.1
theorem dX6_step_275 : decode cX6_step 275 = .ok (.aload_n 0, 1) := fp_hdX6_step_245.1.2.1.2.1.2
theorem dX6_step_276 : decode cX6_step 276 = .ok (.getfield 76, 3) := fp_hdX6_step_245.1.2.1.2.2
theorem dX6_step_279 : decode cX6_step 279 = .ok (.invokevirtual 89, 3) := fp_hdX6_step_245.1.2.2.1.1.1
theorem dX6_step_282 : decode cX6_step 282 = .ok (.ifCond .eq 7, 3) := fp_hdX6_step_245.1.2.2.1.1.2
theorem dX6_step_285 : decode cX6_step 285 = .ok (.iconst 1, 1) := fp_hdX6_step_245.1.2.2.1.2
theorem dX6_step_286 : decode cX6_step 286 = .ok (.goto 4, 3) := fp_hdX6_step_245.1.2.2.2.1.1
theorem dX6_step_289 : decode cX6_step 289 = .ok (.iconst 0, 1) := fp_hdX6_step_245.1.2.2.2.1.2
theorem dX6_step_290 : decode cX6_step 290 = .ok (.ireturn, 1) := fp_hdX6_step_245.1.2.2.2.2
def fp_scX6_isWord_1 : List Nat := 172 :: 132 :: 2 :: 1 :: 167 :: 255 :: 224 :: 4 :: 172 :: []
def fp_scX6_isWord_0 : List Nat := 42 :: 180 :: 0 :: 64 :: 4 :: 160 :: 0 :: 19 :: 42 :: 180 :: 0 :: 40 :: 42 :: 180 :: 0 :: 76 :: 100 :: 43 :: 182 :: 0 :: 93 :: 159 :: 0 :: 5 :: 3 :: 172 :: 3 :: 61 :: 28 :: 43 :: 182 :: 0 :: 93 :: 162 :: 0 :: 30 :: 42 :: 180 :: 0 :: 32 :: 42 :: 180 :: 0 :: 76 :: 28 :: 96 :: 51 :: 43 :: 28 :: 182 :: 0 :: 98 :: 159 :: 0 :: 5 :: 3 :: fp_scX6_isWord_1
theorem fp_bcX6_isWord : bA cX6_isWord 0 fp_scX6_isWord_0 := show cX6_isWord.data.toList.map UInt8.toNat = fp_scX6_isWord_0 from by decide +kernel
theorem fp_hdX6_isWord_0 : (((((decode cX6_isWord 0 = .ok (.aload_n 0, 1) ∧ decode cX6_isWord 1 = .ok (.getfield 64, 3)) ∧ (decode cX6_isWord 4 = .ok (.iconst 1, 1) ∧ decode cX6_isWord 5 = .ok (.if_icmp .ne 19, 3))) ∧ ((decode cX6_isWord 8 = .ok (.aload_n 0, 1) ∧ decode cX6_isWord 9 = .ok (.getfield 40, 3)) ∧ (decode cX6_isWord 12 = .ok (.aload_n 0, 1) ∧ decode cX6_isWord 13 = .ok (.getfield 76, 3)))) ∧ (((decode cX6_isWord 16 = .ok (.isub, 1) ∧ decode cX6_isWord 17 = .ok (.aload_n 1, 1)) ∧ (decode cX6_isWord 18 = .ok (.invokevirtual 93, 3) ∧ decode cX6_isWord 21 = .ok (.if_icmp .eq 5, 3))) ∧ ((decode cX6_isWord 24 = .ok (.iconst 0, 1) ∧ decode cX6_isWord 25 = .ok (.ireturn, 1)) ∧ (decode cX6_isWord 26 = .ok (.iconst 0, 1) ∧ decode cX6_isWord 27 = .ok (.istore_n 2, 1))))) ∧ ((((decode cX6_isWord 28 = .ok (.iload_n 2, 1) ∧ decode cX6_isWord 29 = .ok (.aload_n 1, 1)) ∧ (decode cX6_isWord 30 = .ok (.invokevirtual 93, 3) ∧ decode cX6_isWord 33 = .ok (.if_icmp .ge 30, 3))) ∧ ((decode cX6_isWord 36 = .ok (.aload_n 0, 1) ∧ decode cX6_isWord 37 = .ok (.getfield 32, 3)) ∧ (decode cX6_isWord 40 = .ok (.aload_n 0, 1) ∧ decode cX6_isWord 41 = .ok (.getfield 76, 3)))) ∧ (((decode cX6_isWord 44 = .ok (.iload_n 2, 1) ∧ decode cX6_isWord 45 = .ok (.iadd, 1)) ∧ (decode cX6_isWord 46 = .ok (.baload, 1) ∧ decode cX6_isWord 47 = .ok (.aload_n 1, 1))) ∧ ((decode cX6_isWord 48 = .ok (.iload_n 2, 1) ∧ decode cX6_isWord 49 = .ok (.invokevirtual 98, 3)) ∧ (decode cX6_isWord 52 = .ok (.if_icmp .eq 5, 3) ∧ decode cX6_isWord 55 = .ok (.iconst 0, 1)))))) ∧ bA cX6_isWord 56 fp_scX6_isWord_1 :=
  have q0 := fp_o42 fp_bcX6_isWord
  have q1 := fp_o180 (v := 64) q0.2 rfl
  have q2 := fp_o4 q1.2
  have q3 := fp_o160 (v := 19) q2.2 rfl
  have q4 := fp_o42 q3.2
  have q5 := fp_o180 (v := 40) q4.2 rfl
  have q6 := fp_o42 q5.2
  have q7 := fp_o180 (v := 76) q6.2 rfl
  have q8 := fp_o100 q7.2
  have q9 := fp_o43 q8.2
  have q10 := fp_o182 (v := 93) q9.2 rfl
  have q11 := fp_o159 (v := 5) q10.2 rfl
  have q12 := fp_o3 q11.2
  have q13 := fp_o172 q12.2
  have q14 := fp_o3 q13.2
  have q15 := fp_o61 q14.2
  have q16 := fp_o28 q15.2
  have q17 := fp_o43 q16.2
  have q18 := fp_o182 (v := 93) q17.2 rfl
  have q19 := fp_o162 (v := 30) q18.2 rfl
  have q20 := fp_o42 q19.2
  have q21 := fp_o180 (v := 32) q20.2 rfl
  have q22 := fp_o42 q21.2
  have q23 := fp_o180 (v := 76) q22.2 rfl
  have q24 := fp_o28 q23.2
  have q25 := fp_o96 q24.2
  have q26 := fp_o51 q25.2
  have q27 := fp_o43 q26.2
  have q28 := fp_o28 q27.2
  have q29 := fp_o182 (v := 98) q28.2 rfl
  have q30 := fp_o159 (v := 5) q29.2 rfl
  have q31 := fp_o3 q30.2
  ⟨⟨⟨⟨⟨⟨q0.1, q1.1⟩, ⟨q2.1, q3.1⟩⟩, ⟨⟨q4.1, q5.1⟩, ⟨q6.1, q7.1⟩⟩⟩, ⟨⟨⟨q8.1, q9.1⟩, ⟨q10.1, q11.1⟩⟩, ⟨⟨q12.1, q13.1⟩, ⟨q14.1, q15.1⟩⟩⟩⟩, ⟨⟨⟨⟨q16.1, q17.1⟩, ⟨q18.1, q19.1⟩⟩, ⟨⟨q20.1, q21.1⟩, ⟨q22.1, q23.1⟩⟩⟩, ⟨⟨⟨q24.1, q25.1⟩, ⟨q26.1, q27.1⟩⟩, ⟨⟨q28.1, q29.1⟩, ⟨q30.1, q31.1⟩⟩⟩⟩⟩, q31.2⟩
theorem dX6_isWord_0 : decode cX6_isWord 0 = .ok (.aload_n 0, 1) := fp_hdX6_isWord_0.1.1.1.1.1.1
theorem dX6_isWord_1 : decode cX6_isWord 1 = .ok (.getfield 64, 3) := fp_hdX6_isWord_0.1.1.1.1.1.2
theorem dX6_isWord_4 : decode cX6_isWord 4 = .ok (.iconst 1, 1) := fp_hdX6_isWord_0.1.1.1.1.2.1
theorem dX6_isWord_5 : decode cX6_isWord 5 = .ok (.if_icmp .ne 19, 3) := fp_hdX6_isWord_0.1.1.1.1.2.2
theorem dX6_isWord_8 : decode cX6_isWord 8 = .ok (.aload_n 0, 1) := fp_hdX6_isWord_0.1.1.1.2.1.1
theorem dX6_isWord_9 : decode cX6_isWord 9 = .ok (.getfield 40, 3) := fp_hdX6_isWord_0.1.1.1.2.1.2
theorem dX6_isWord_12 : decode cX6_isWord 12 = .ok (.aload_n 0, 1) := fp_hdX6_isWord_0.1.1.1.2.2.1
theorem dX6_isWord_13 : decode cX6_isWord 13 = .ok (.getfield 76, 3) := fp_hdX6_isWord_0.1.1.1.2.2.2
theorem dX6_isWord_16 : decode cX6_isWord 16 = .ok (.isub, 1) := fp_hdX6_isWord_0.1.1.2.1.1.1
theorem dX6_isWord_17 : decode cX6_isWord 17 = .ok (.aload_n 1, 1) := fp_hdX6_isWord_0.1.1.2.1.1.2
theorem dX6_isWord_18 : decode cX6_isWord 18 = .ok (.invokevirtual 93, 3) := fp_hdX6_isWord_0.1.1.2.1.2.1
theorem dX6_isWord_21 : decode cX6_isWord 21 = .ok (.if_icmp .eq 5, 3) := fp_hdX6_isWord_0.1.1.2.1.2.2
theorem dX6_isWord_24 : decode cX6_isWord 24 = .ok (.iconst 0, 1) := fp_hdX6_isWord_0.1.1.2.2.1.1
theorem dX6_isWord_25 : decode cX6_isWord 25 = .ok (.ireturn, 1) := fp_hdX6_isWord_0.1.1.2.2.1.2
theorem dX6_isWord_26 : decode cX6_isWord 26 = .ok (.iconst 0, 1) := fp_hdX6_isWord_0.1.1.2.2.2.1
theorem dX6_isWord_27 : decode cX6_isWord 27 = .ok (.istore_n 2, 1) := fp_hdX6_isWord_0.1.1.2.2.2.2
theorem dX6_isWord_28 : decode cX6_isWord 28 = .ok (.iload_n 2, 1) := fp_hdX6_isWord_0.1.2.1.1.1.1
theorem dX6_isWord_29 : decode cX6_isWord 29 = .ok (.aload_n 1, 1) := fp_hdX6_isWord_0.1.2.1.1.1.2
theorem dX6_isWord_30 : decode cX6_isWord 30 = .ok (.invokevirtual 93, 3) := fp_hdX6_isWord_0.1.2.1.1.2.1
theorem dX6_isWord_33 : decode cX6_isWord 33 = .ok (.if_icmp .ge 30, 3) := fp_hdX6_isWord_0.1.2.1.1.2.2
theorem dX6_isWord_36 : decode cX6_isWord 36 = .ok (.aload_n 0, 1) := fp_hdX6_isWord_0.1.2.1.2.1.1
theorem dX6_isWord_37 : decode cX6_isWord 37 = .ok (.getfield 32, 3) := fp_hdX6_isWord_0.1.2.1.2.1.2
theorem dX6_isWord_40 : decode cX6_isWord 40 = .ok (.aload_n 0, 1) := fp_hdX6_isWord_0.1.2.1.2.2.1
theorem dX6_isWord_41 : decode cX6_isWord 41 = .ok (.getfield 76, 3) := fp_hdX6_isWord_0.1.2.1.2.2.2
theorem dX6_isWord_44 : decode cX6_isWord 44 = .ok (.iload_n 2, 1) := fp_hdX6_isWord_0.1.2.2.1.1.1
theorem dX6_isWord_45 : decode cX6_isWord 45 = .ok (.iadd, 1) := fp_hdX6_isWord_0.1.2.2.1.1.2
theorem dX6_isWord_46 : decode cX6_isWord 46 = .ok (.baload, 1) := fp_hdX6_isWord_0.1.2.2.1.2.1
theorem dX6_isWord_47 : decode cX6_isWord 47 = .ok (.aload_n 1, 1) := fp_hdX6_isWord_0.1.2.2.1.2.2
theorem dX6_isWord_48 : decode cX6_isWord 48 = .ok (.iload_n 2, 1) := fp_hdX6_isWord_0.1.2.2.2.1.1
theorem dX6_isWord_49 : decode cX6_isWord 49 = .ok (.invokevirtual 98, 3) := fp_hdX6_isWord_0.1.2.2.2.1.2
theorem dX6_isWord_52 : decode cX6_isWord 52 = .ok (.if_icmp .eq 5, 3) := fp_hdX6_isWord_0.1.2.2.2.2.1
theorem dX6_isWord_55 : decode cX6_isWord 55 = .ok (.iconst 0, 1) := fp_hdX6_isWord_0.1.2.2.2.2.2
theorem fp_hdX6_isWord_56 : (((decode cX6_isWord 56 = .ok (.ireturn, 1) ∧ decode cX6_isWord 57 = .ok (.iinc 2 1, 3)) ∧ decode cX6_isWord 60 = .ok (.goto (-32), 3)) ∧ (decode cX6_isWord 63 = .ok (.iconst 1, 1) ∧ decode cX6_isWord 64 = .ok (.ireturn, 1))) ∧ bA cX6_isWord 65 [] :=
  have q0 := fp_o172 fp_hdX6_isWord_0.2
  have q1 := fp_o132 (v := 1) q0.2 rfl
  have q2 := fp_o167 (v := (-32)) q1.2 rfl
  have q3 := fp_o4 q2.2
  have q4 := fp_o172 q3.2
  ⟨⟨⟨⟨q0.1, q1.1⟩, q2.1⟩, ⟨q3.1, q4.1⟩⟩, q4.2⟩
theorem dX6_isWord_56 : decode cX6_isWord 56 = .ok (.ireturn, 1) := fp_hdX6_isWord_56.1.1.1.1
theorem dX6_isWord_57 : decode cX6_isWord 57 = .ok (.iinc 2 1, 3) := fp_hdX6_isWord_56.1.1.1.2
theorem dX6_isWord_60 : decode cX6_isWord 60 = .ok (.goto (-32), 3) := fp_hdX6_isWord_56.1.1.2
theorem dX6_isWord_63 : decode cX6_isWord 63 = .ok (.iconst 1, 1) := fp_hdX6_isWord_56.1.2.1
theorem dX6_isWord_64 : decode cX6_isWord 64 = .ok (.ireturn, 1) := fp_hdX6_isWord_56.1.2.2
def fp_scX6_readLine_1 : List Nat := 182 :: 0 :: 104 :: 153 :: 0 :: 8 :: 42 :: 182 :: 0 :: 126 :: 172 :: 42 :: 5 :: 42 :: 180 :: 0 :: 76 :: 182 :: 0 :: 89 :: 172 :: []
def fp_scX6_readLine_0 : List Nat := 42 :: 18 :: 102 :: 182 :: 0 :: 104 :: 153 :: 0 :: 8 :: 42 :: 182 :: 0 :: 108 :: 172 :: 42 :: 18 :: 111 :: 182 :: 0 :: 104 :: 153 :: 0 :: 8 :: 42 :: 182 :: 0 :: 113 :: 172 :: 42 :: 18 :: 116 :: 182 :: 0 :: 104 :: 153 :: 0 :: 9 :: 42 :: 4 :: 182 :: 0 :: 118 :: 172 :: 42 :: 18 :: 122 :: 182 :: 0 :: 104 :: 153 :: 0 :: 9 :: 42 :: 3 :: 182 :: 0 :: 118 :: 172 :: 42 :: 18 :: 124 :: fp_scX6_readLine_1
theorem fp_bcX6_readLine : bA cX6_readLine 0 fp_scX6_readLine_0 := show cX6_readLine.data.toList.map UInt8.toNat = fp_scX6_readLine_0 from by decide +kernel
theorem fp_hdX6_readLine_0 : (((((decode cX6_readLine 0 = .ok (.aload_n 0, 1) ∧ decode cX6_readLine 1 = .ok (.ldc 102, 2)) ∧ (decode cX6_readLine 3 = .ok (.invokevirtual 104, 3) ∧ decode cX6_readLine 6 = .ok (.ifCond .eq 8, 3))) ∧ ((decode cX6_readLine 9 = .ok (.aload_n 0, 1) ∧ decode cX6_readLine 10 = .ok (.invokevirtual 108, 3)) ∧ (decode cX6_readLine 13 = .ok (.ireturn, 1) ∧ decode cX6_readLine 14 = .ok (.aload_n 0, 1)))) ∧ (((decode cX6_readLine 15 = .ok (.ldc 111, 2) ∧ decode cX6_readLine 17 = .ok (.invokevirtual 104, 3)) ∧ (decode cX6_readLine 20 = .ok (.ifCond .eq 8, 3) ∧ decode cX6_readLine 23 = .ok (.aload_n 0, 1))) ∧ ((decode cX6_readLine 24 = .ok (.invokevirtual 113, 3) ∧ decode cX6_readLine 27 = .ok (.ireturn, 1)) ∧ (decode cX6_readLine 28 = .ok (.aload_n 0, 1) ∧ decode cX6_readLine 29 = .ok (.ldc 116, 2))))) ∧ ((((decode cX6_readLine 31 = .ok (.invokevirtual 104, 3) ∧ decode cX6_readLine 34 = .ok (.ifCond .eq 9, 3)) ∧ (decode cX6_readLine 37 = .ok (.aload_n 0, 1) ∧ decode cX6_readLine 38 = .ok (.iconst 1, 1))) ∧ ((decode cX6_readLine 39 = .ok (.invokevirtual 118, 3) ∧ decode cX6_readLine 42 = .ok (.ireturn, 1)) ∧ (decode cX6_readLine 43 = .ok (.aload_n 0, 1) ∧ decode cX6_readLine 44 = .ok (.ldc 122, 2)))) ∧ (((decode cX6_readLine 46 = .ok (.invokevirtual 104, 3) ∧ decode cX6_readLine 49 = .ok (.ifCond .eq 9, 3)) ∧ (decode cX6_readLine 52 = .ok (.aload_n 0, 1) ∧ decode cX6_readLine 53 = .ok (.iconst 0, 1))) ∧ ((decode cX6_readLine 54 = .ok (.invokevirtual 118, 3) ∧ decode cX6_readLine 57 = .ok (.ireturn, 1)) ∧ (decode cX6_readLine 58 = .ok (.aload_n 0, 1) ∧ decode cX6_readLine 59 = .ok (.ldc 124, 2)))))) ∧ bA cX6_readLine 61 fp_scX6_readLine_1 :=
  have q0 := fp_o42 fp_bcX6_readLine
  have q1 := fp_o18 q0.2
  have q2 := fp_o182 (v := 104) q1.2 rfl
  have q3 := fp_o153 (v := 8) q2.2 rfl
  have q4 := fp_o42 q3.2
  have q5 := fp_o182 (v := 108) q4.2 rfl
  have q6 := fp_o172 q5.2
  have q7 := fp_o42 q6.2
  have q8 := fp_o18 q7.2
  have q9 := fp_o182 (v := 104) q8.2 rfl
  have q10 := fp_o153 (v := 8) q9.2 rfl
  have q11 := fp_o42 q10.2
  have q12 := fp_o182 (v := 113) q11.2 rfl
  have q13 := fp_o172 q12.2
  have q14 := fp_o42 q13.2
  have q15 := fp_o18 q14.2
  have q16 := fp_o182 (v := 104) q15.2 rfl
  have q17 := fp_o153 (v := 9) q16.2 rfl
  have q18 := fp_o42 q17.2
  have q19 := fp_o4 q18.2
  have q20 := fp_o182 (v := 118) q19.2 rfl
  have q21 := fp_o172 q20.2
  have q22 := fp_o42 q21.2
  have q23 := fp_o18 q22.2
  have q24 := fp_o182 (v := 104) q23.2 rfl
  have q25 := fp_o153 (v := 9) q24.2 rfl
  have q26 := fp_o42 q25.2
  have q27 := fp_o3 q26.2
  have q28 := fp_o182 (v := 118) q27.2 rfl
  have q29 := fp_o172 q28.2
  have q30 := fp_o42 q29.2
  have q31 := fp_o18 q30.2
  ⟨⟨⟨⟨⟨⟨q0.1, q1.1⟩, ⟨q2.1, q3.1⟩⟩, ⟨⟨q4.1, q5.1⟩, ⟨q6.1, q7.1⟩⟩⟩, ⟨⟨⟨q8.1, q9.1⟩, ⟨q10.1, q11.1⟩⟩, ⟨⟨q12.1, q13.1⟩, ⟨q14.1, q15.1⟩⟩⟩⟩, ⟨⟨⟨⟨q16.1, q17.1⟩, ⟨q18.1, q19.1⟩⟩, ⟨⟨q20.1, q21.1⟩, ⟨q22.1, q23.1⟩⟩⟩, ⟨⟨⟨q24.1, q25.1⟩, ⟨q26.1, q27.1⟩⟩, ⟨⟨q28.1, q29.1⟩, ⟨q30.1, q31.1⟩⟩⟩⟩⟩, q31.2⟩
theorem dX6_readLine_0 : decode cX6_readLine 0 = .ok (.aload_n 0, 1) := fp_hdX6_readLine_0.1.1.1.1.1.1
theorem dX6_readLine_1 : decode cX6_readLine 1 = .ok (.ldc 102, 2) := fp_hdX6_readLine_0.1.1.1.1.1.2
theorem dX6_readLine_3 : decode cX6_readLine 3 = .ok (.invokevirtual 104, 3) := fp_hdX6_readLine_0.1.1.1.1.2.1
theorem dX6_readLine_6 : decode cX6_readLine 6 = .ok (.ifCond .eq 8, 3) := fp_hdX6_readLine_0.1.1.1.1.2.2
theorem dX6_readLine_9 : decode cX6_readLine 9 = .ok (.aload_n 0, 1) := fp_hdX6_readLine_0.1.1.1.2.1.1
theorem dX6_readLine_10 : decode cX6_readLine 10 = .ok (.invokevirtual 108, 3) := fp_hdX6_readLine_0.1.1.1.2.1.2
theorem dX6_readLine_13 : decode cX6_readLine 13 = .ok (.ireturn, 1) := fp_hdX6_readLine_0.1.1.1.2.2.1
theorem dX6_readLine_14 : decode cX6_readLine 14 = .ok (.aload_n 0, 1) := fp_hdX6_readLine_0.1.1.1.2.2.2
theorem dX6_readLine_15 : decode cX6_readLine 15 = .ok (.ldc 111, 2) := fp_hdX6_readLine_0.1.1.2.1.1.1
theorem dX6_readLine_17 : decode cX6_readLine 17 = .ok (.invokevirtual 104, 3) := fp_hdX6_readLine_0.1.1.2.1.1.2
theorem dX6_readLine_20 : decode cX6_readLine 20 = .ok (.ifCond .eq 8, 3) := fp_hdX6_readLine_0.1.1.2.1.2.1
theorem dX6_readLine_23 : decode cX6_readLine 23 = .ok (.aload_n 0, 1) := fp_hdX6_readLine_0.1.1.2.1.2.2
theorem dX6_readLine_24 : decode cX6_readLine 24 = .ok (.invokevirtual 113, 3) := fp_hdX6_readLine_0.1.1.2.2.1.1
theorem dX6_readLine_27 : decode cX6_readLine 27 = .ok (.ireturn, 1) := fp_hdX6_readLine_0.1.1.2.2.1.2
theorem dX6_readLine_28 : decode cX6_readLine 28 = .ok (.aload_n 0, 1) := fp_hdX6_readLine_0.1.1.2.2.2.1
theorem dX6_readLine_29 : decode cX6_readLine 29 = .ok (.ldc 116, 2) := fp_hdX6_readLine_0.1.1.2.2.2.2
theorem dX6_readLine_31 : decode cX6_readLine 31 = .ok (.invokevirtual 104, 3) := fp_hdX6_readLine_0.1.2.1.1.1.1
theorem dX6_readLine_34 : decode cX6_readLine 34 = .ok (.ifCond .eq 9, 3) := fp_hdX6_readLine_0.1.2.1.1.1.2
theorem dX6_readLine_37 : decode cX6_readLine 37 = .ok (.aload_n 0, 1) := fp_hdX6_readLine_0.1.2.1.1.2.1
theorem dX6_readLine_38 : decode cX6_readLine 38 = .ok (.iconst 1, 1) := fp_hdX6_readLine_0.1.2.1.1.2.2
theorem dX6_readLine_39 : decode cX6_readLine 39 = .ok (.invokevirtual 118, 3) := fp_hdX6_readLine_0.1.2.1.2.1.1
theorem dX6_readLine_42 : decode cX6_readLine 42 = .ok (.ireturn, 1) := fp_hdX6_readLine_0.1.2.1.2.1.2
theorem dX6_readLine_43 : decode cX6_readLine 43 = .ok (.aload_n 0, 1) := fp_hdX6_readLine_0.1.2.1.2.2.1
theorem dX6_readLine_44 : decode cX6_readLine 44 = .ok (.ldc 122, 2) := fp_hdX6_readLine_0.1.2.1.2.2.2
theorem dX6_readLine_46 : decode cX6_readLine 46 = .ok (.invokevirtual 104, 3) := fp_hdX6_readLine_0.1.2.2.1.1.1
theorem dX6_readLine_49 : decode cX6_readLine 49 = .ok (.ifCond .eq 9, 3) := fp_hdX6_readLine_0.1.2.2.1.1.2
theorem dX6_readLine_52 : decode cX6_readLine 52 = .ok (.aload_n 0, 1) := fp_hdX6_readLine_0.1.2.2.1.2.1
theorem dX6_readLine_53 : decode cX6_readLine 53 = .ok (.iconst 0, 1) := fp_hdX6_readLine_0.1.2.2.1.2.2
theorem dX6_readLine_54 : decode cX6_readLine 54 = .ok (.invokevirtual 118, 3) := fp_hdX6_readLine_0.1.2.2.2.1.1
theorem dX6_readLine_57 : decode cX6_readLine 57 = .ok (.ireturn, 1) := fp_hdX6_readLine_0.1.2.2.2.1.2
theorem dX6_readLine_58 : decode cX6_readLine 58 = .ok (.aload_n 0, 1) := fp_hdX6_readLine_0.1.2.2.2.2.1
theorem dX6_readLine_59 : decode cX6_readLine 59 = .ok (.ldc 124, 2) := fp_hdX6_readLine_0.1.2.2.2.2.2
theorem fp_hdX6_readLine_61 : ((((decode cX6_readLine 61 = .ok (.invokevirtual 104, 3) ∧ decode cX6_readLine 64 = .ok (.ifCond .eq 8, 3)) ∧ decode cX6_readLine 67 = .ok (.aload_n 0, 1)) ∧ ((decode cX6_readLine 68 = .ok (.invokevirtual 126, 3) ∧ decode cX6_readLine 71 = .ok (.ireturn, 1)) ∧ decode cX6_readLine 72 = .ok (.aload_n 0, 1))) ∧ (((decode cX6_readLine 73 = .ok (.iconst 2, 1) ∧ decode cX6_readLine 74 = .ok (.aload_n 0, 1)) ∧ decode cX6_readLine 75 = .ok (.getfield 76, 3)) ∧ (decode cX6_readLine 78 = .ok (.invokevirtual 89, 3) ∧ decode cX6_readLine 81 = .ok (.ireturn, 1)))) ∧ bA cX6_readLine 82 [] :=
  have q0 := fp_o182 (v := 104) fp_hdX6_readLine_0.2 rfl
  have q1 := fp_o153 (v := 8) q0.2 rfl
  have q2 := fp_o42 q1.2
  have q3 := fp_o182 (v := 126) q2.2 rfl
  have q4 := fp_o172 q3.2
  have q5 := fp_o42 q4.2
  have q6 := fp_o5 q5.2
  have q7 := fp_o42 q6.2
  have q8 := fp_o180 (v := 76) q7.2 rfl
  have q9 := fp_o182 (v := 89) q8.2 rfl
  have q10 := fp_o172 q9.2
  ⟨⟨⟨⟨⟨q0.1, q1.1⟩, q2.1⟩, ⟨⟨q3.1, q4.1⟩, q5.1⟩⟩, ⟨⟨⟨q6.1, q7.1⟩, q8.1⟩, ⟨q9.1, q10.1⟩⟩⟩, q10.2⟩
theorem dX6_readLine_61 : decode cX6_readLine 61 = .ok (.invokevirtual 104, 3) := fp_hdX6_readLine_61.1.1.1.1.1
theorem dX6_readLine_64 : decode cX6_readLine 64 = .ok (.ifCond .eq 8, 3) := fp_hdX6_readLine_61.1.1.1.1.2
theorem dX6_readLine_67 : decode cX6_readLine 67 = .ok (.aload_n 0, 1) := fp_hdX6_readLine_61.1.1.1.2
theorem dX6_readLine_68 : decode cX6_readLine 68 = .ok (.invokevirtual 126, 3) := fp_hdX6_readLine_61.1.1.2.1.1
theorem dX6_readLine_71 : decode cX6_readLine 71 = .ok (.ireturn, 1) := fp_hdX6_readLine_61.1.1.2.1.2
theorem dX6_readLine_72 : decode cX6_readLine 72 = .ok (.aload_n 0, 1) := fp_hdX6_readLine_61.1.1.2.2
theorem dX6_readLine_73 : decode cX6_readLine 73 = .ok (.iconst 2, 1) := fp_hdX6_readLine_61.1.2.1.1.1
theorem dX6_readLine_74 : decode cX6_readLine 74 = .ok (.aload_n 0, 1) := fp_hdX6_readLine_61.1.2.1.1.2
theorem dX6_readLine_75 : decode cX6_readLine 75 = .ok (.getfield 76, 3) := fp_hdX6_readLine_61.1.2.1.2
theorem dX6_readLine_78 : decode cX6_readLine 78 = .ok (.invokevirtual 89, 3) := fp_hdX6_readLine_61.1.2.2.1
theorem dX6_readLine_81 : decode cX6_readLine 81 = .ok (.ireturn, 1) := fp_hdX6_readLine_61.1.2.2.2
def fp_scX6_readNumber_1 : List Nat := 172 :: []
def fp_scX6_readNumber_0 : List Nat := 42 :: 182 :: 0 :: 60 :: 154 :: 0 :: 5 :: 3 :: 172 :: 42 :: 180 :: 0 :: 64 :: 5 :: 159 :: 0 :: 13 :: 42 :: 5 :: 42 :: 180 :: 0 :: 76 :: 182 :: 0 :: 89 :: 172 :: 42 :: 180 :: 0 :: 86 :: 27 :: 161 :: 0 :: 11 :: 42 :: 180 :: 0 :: 86 :: 28 :: 164 :: 0 :: 15 :: 42 :: 6 :: 42 :: 180 :: 0 :: 76 :: 182 :: 0 :: 89 :: 153 :: 0 :: 7 :: 4 :: 167 :: 0 :: 4 :: 3 :: fp_scX6_readNumber_1
theorem fp_bcX6_readNumber : bA cX6_readNumber 0 fp_scX6_readNumber_0 := show cX6_readNumber.data.toList.map UInt8.toNat = fp_scX6_readNumber_0 from by decide +kernel
theorem fp_hdX6_readNumber_0 : (((((decode cX6_readNumber 0 = .ok (.aload_n 0, 1) ∧ decode cX6_readNumber 1 = .ok (.invokevirtual 60, 3)) ∧ (decode cX6_readNumber 4 = .ok (.ifCond .ne 5, 3) ∧ decode cX6_readNumber 7 = .ok (.iconst 0, 1))) ∧ ((decode cX6_readNumber 8 = .ok (.ireturn, 1) ∧ decode cX6_readNumber 9 = .ok (.aload_n 0, 1)) ∧ (decode cX6_readNumber 10 = .ok (.getfield 64, 3) ∧ decode cX6_readNumber 13 = .ok (.iconst 2, 1)))) ∧ (((decode cX6_readNumber 14 = .ok (.if_icmp .eq 13, 3) ∧ decode cX6_readNumber 17 = .ok (.aload_n 0, 1)) ∧ (decode cX6_readNumber 18 = .ok (.iconst 2, 1) ∧ decode cX6_readNumber 19 = .ok (.aload_n 0, 1))) ∧ ((decode cX6_readNumber 20 = .ok (.getfield 76, 3) ∧ decode cX6_readNumber 23 = .ok (.invokevirtual 89, 3)) ∧ (decode cX6_readNumber 26 = .ok (.ireturn, 1) ∧ decode cX6_readNumber 27 = .ok (.aload_n 0, 1))))) ∧ ((((decode cX6_readNumber 28 = .ok (.getfield 86, 3) ∧ decode cX6_readNumber 31 = .ok (.iload_n 1, 1)) ∧ (decode cX6_readNumber 32 = .ok (.if_icmp .lt 11, 3) ∧ decode cX6_readNumber 35 = .ok (.aload_n 0, 1))) ∧ ((decode cX6_readNumber 36 = .ok (.getfield 86, 3) ∧ decode cX6_readNumber 39 = .ok (.iload_n 2, 1)) ∧ (decode cX6_readNumber 40 = .ok (.if_icmp .le 15, 3) ∧ decode cX6_readNumber 43 = .ok (.aload_n 0, 1)))) ∧ (((decode cX6_readNumber 44 = .ok (.iconst 3, 1) ∧ decode cX6_readNumber 45 = .ok (.aload_n 0, 1)) ∧ (decode cX6_readNumber 46 = .ok (.getfield 76, 3) ∧ decode cX6_readNumber 49 = .ok (.invokevirtual 89, 3))) ∧ ((decode cX6_readNumber 52 = .ok (.ifCond .eq 7, 3) ∧ decode cX6_readNumber 55 = .ok (.iconst 1, 1)) ∧ (decode cX6_readNumber 56 = .ok (.goto 4, 3) ∧ decode cX6_readNumber 59 = .ok (.iconst 0, 1)))))) ∧ bA cX6_readNumber 60 fp_scX6_readNumber_1 :=
  have q0 := fp_o42 fp_bcX6_readNumber
  have q1 := fp_o182 (v := 60) q0.2 rfl
  have q2 := fp_o154 (v := 5) q1.2 rfl
  have q3 := fp_o3 q2.2
  have q4 := fp_o172 q3.2
  have q5 := fp_o42 q4.2
  have q6 := fp_o180 (v := 64) q5.2 rfl
  have q7 := fp_o5 q6.2
  have q8 := fp_o159 (v := 13) q7.2 rfl
  have q9 := fp_o42 q8.2
  have q10 := fp_o5 q9.2
  have q11 := fp_o42 q10.2
  have q12 := fp_o180 (v := 76) q11.2 rfl
  have q13 := fp_o182 (v := 89) q12.2 rfl
  have q14 := fp_o172 q13.2
  have q15 := fp_o42 q14.2
  have q16 := fp_o180 (v := 86) q15.2 rfl
  have q17 := fp_o27 q16.2
  have q18 := fp_o161 (v := 11) q17.2 rfl
  have q19 := fp_o42 q18.2
  have q20 := fp_o180 (v := 86) q19.2 rfl
  have q21 := fp_o28 q20.2
  have q22 := fp_o164 (v := 15) q21.2 rfl
  have q23 := fp_o42 q22.2
  have q24 := fp_o6 q23.2
  have q25 := fp_o42 q24.2
  have q26 := fp_o180 (v := 76) q25.2 rfl
  have q27 := fp_o182 (v := 89) q26.2 rfl
  have q28 := fp_o153 (v := 7) q27.2 rfl
  have q29 := fp_o4 q28.2
  have q30 := fp_o167 (v := 4) q29.2 rfl
  have q31 := fp_o3 q30.2
  ⟨⟨⟨⟨⟨⟨q0.1, q1.1⟩, ⟨q2.1, q3.1⟩⟩, ⟨⟨q4.1, q5.1⟩, ⟨q6.1, q7.1⟩⟩⟩, ⟨⟨⟨q8.1, q9.1⟩, ⟨q10.1, q11.1⟩⟩, ⟨⟨q12.1, q13.1⟩, ⟨q14.1, q15.1⟩⟩⟩⟩, ⟨⟨⟨⟨q16.1, q17.1⟩, ⟨q18.1, q19.1⟩⟩, ⟨⟨q20.1, q21.1⟩, ⟨q22.1, q23.1⟩⟩⟩, ⟨⟨⟨q24.1, q25.1⟩, ⟨q26.1, q27.1⟩⟩, ⟨⟨q28.1, q29.1⟩, ⟨q30.1, q31.1⟩⟩⟩⟩⟩, q31.2⟩
theorem dX6_readNumber_0 : decode cX6_readNumber 0 = .ok (.aload_n 0, 1) := fp_hdX6_readNumber_0.1.1.1.1.1.1
theorem dX6_readNumber_1 : decode cX6_readNumber 1 = .ok (.invokevirtual 60, 3) := fp_hdX6_readNumber_0.1.1.1.1.1.2
theorem dX6_readNumber_4 : decode cX6_readNumber 4 = .ok (.ifCond .ne 5, 3) := fp_hdX6_readNumber_0.1.1.1.1.2.1
theorem dX6_readNumber_7 : decode cX6_readNumber 7 = .ok (.iconst 0, 1) := fp_hdX6_readNumber_0.1.1.1.1.2.2
theorem dX6_readNumber_8 : decode cX6_readNumber 8 = .ok (.ireturn, 1) := fp_hdX6_readNumber_0.1.1.1.2.1.1
theorem dX6_readNumber_9 : decode cX6_readNumber 9 = .ok (.aload_n 0, 1) := fp_hdX6_readNumber_0.1.1.1.2.1.2
theorem dX6_readNumber_10 : decode cX6_readNumber 10 = .ok (.getfield 64, 3) := fp_hdX6_readNumber_0.1.1.1.2.2.1
theorem dX6_readNumber_13 : decode cX6_readNumber 13 = .ok (.iconst 2, 1) := fp_hdX6_readNumber_0.1.1.1.2.2.2
theorem dX6_readNumber_14 : decode cX6_readNumber 14 = .ok (.if_icmp .eq 13, 3) := fp_hdX6_readNumber_0.1.1.2.1.1.1
theorem dX6_readNumber_17 : decode cX6_readNumber 17 = .ok (.aload_n 0, 1) := fp_hdX6_readNumber_0.1.1.2.1.1.2
theorem dX6_readNumber_18 : decode cX6_readNumber 18 = .ok (.iconst 2, 1) := fp_hdX6_readNumber_0.1.1.2.1.2.1
theorem dX6_readNumber_19 : decode cX6_readNumber 19 = .ok (.aload_n 0, 1) := fp_hdX6_readNumber_0.1.1.2.1.2.2
theorem dX6_readNumber_20 : decode cX6_readNumber 20 = .ok (.getfield 76, 3) := fp_hdX6_readNumber_0.1.1.2.2.1.1
theorem dX6_readNumber_23 : decode cX6_readNumber 23 = .ok (.invokevirtual 89, 3) := fp_hdX6_readNumber_0.1.1.2.2.1.2
theorem dX6_readNumber_26 : decode cX6_readNumber 26 = .ok (.ireturn, 1) := fp_hdX6_readNumber_0.1.1.2.2.2.1
theorem dX6_readNumber_27 : decode cX6_readNumber 27 = .ok (.aload_n 0, 1) := fp_hdX6_readNumber_0.1.1.2.2.2.2
theorem dX6_readNumber_28 : decode cX6_readNumber 28 = .ok (.getfield 86, 3) := fp_hdX6_readNumber_0.1.2.1.1.1.1
theorem dX6_readNumber_31 : decode cX6_readNumber 31 = .ok (.iload_n 1, 1) := fp_hdX6_readNumber_0.1.2.1.1.1.2
theorem dX6_readNumber_32 : decode cX6_readNumber 32 = .ok (.if_icmp .lt 11, 3) := fp_hdX6_readNumber_0.1.2.1.1.2.1
theorem dX6_readNumber_35 : decode cX6_readNumber 35 = .ok (.aload_n 0, 1) := fp_hdX6_readNumber_0.1.2.1.1.2.2
theorem dX6_readNumber_36 : decode cX6_readNumber 36 = .ok (.getfield 86, 3) := fp_hdX6_readNumber_0.1.2.1.2.1.1
theorem dX6_readNumber_39 : decode cX6_readNumber 39 = .ok (.iload_n 2, 1) := fp_hdX6_readNumber_0.1.2.1.2.1.2
theorem dX6_readNumber_40 : decode cX6_readNumber 40 = .ok (.if_icmp .le 15, 3) := fp_hdX6_readNumber_0.1.2.1.2.2.1
theorem dX6_readNumber_43 : decode cX6_readNumber 43 = .ok (.aload_n 0, 1) := fp_hdX6_readNumber_0.1.2.1.2.2.2
theorem dX6_readNumber_44 : decode cX6_readNumber 44 = .ok (.iconst 3, 1) := fp_hdX6_readNumber_0.1.2.2.1.1.1
theorem dX6_readNumber_45 : decode cX6_readNumber 45 = .ok (.aload_n 0, 1) := fp_hdX6_readNumber_0.1.2.2.1.1.2
theorem dX6_readNumber_46 : decode cX6_readNumber 46 = .ok (.getfield 76, 3) := fp_hdX6_readNumber_0.1.2.2.1.2.1
theorem dX6_readNumber_49 : decode cX6_readNumber 49 = .ok (.invokevirtual 89, 3) := fp_hdX6_readNumber_0.1.2.2.1.2.2
theorem dX6_readNumber_52 : decode cX6_readNumber 52 = .ok (.ifCond .eq 7, 3) := fp_hdX6_readNumber_0.1.2.2.2.1.1
theorem dX6_readNumber_55 : decode cX6_readNumber 55 = .ok (.iconst 1, 1) := fp_hdX6_readNumber_0.1.2.2.2.1.2
theorem dX6_readNumber_56 : decode cX6_readNumber 56 = .ok (.goto 4, 3) := fp_hdX6_readNumber_0.1.2.2.2.2.1
theorem dX6_readNumber_59 : decode cX6_readNumber 59 = .ok (.iconst 0, 1) := fp_hdX6_readNumber_0.1.2.2.2.2.2
theorem fp_hdX6_readNumber_60 : decode cX6_readNumber 60 = .ok (.ireturn, 1) ∧ bA cX6_readNumber 61 [] :=
  have q0 := fp_o172 fp_hdX6_readNumber_0.2
  ⟨q0.1, q0.2⟩
theorem dX6_readNumber_60 : decode cX6_readNumber 60 = .ok (.ireturn, 1) := fp_hdX6_readNumber_60.1
def fp_scX6_readStop_0 : List Nat := 42 :: 182 :: 0 :: 60 :: 153 :: 0 :: 27 :: 42 :: 180 :: 0 :: 64 :: 6 :: 159 :: 0 :: 15 :: 42 :: 5 :: 42 :: 180 :: 0 :: 76 :: 182 :: 0 :: 89 :: 153 :: 0 :: 7 :: 4 :: 167 :: 0 :: 4 :: 3 :: 172 :: []
theorem fp_bcX6_readStop : bA cX6_readStop 0 fp_scX6_readStop_0 := show cX6_readStop.data.toList.map UInt8.toNat = fp_scX6_readStop_0 from by decide +kernel
theorem fp_hdX6_readStop_0 : (((((decode cX6_readStop 0 = .ok (.aload_n 0, 1) ∧ decode cX6_readStop 1 = .ok (.invokevirtual 60, 3)) ∧ decode cX6_readStop 4 = .ok (.ifCond .eq 27, 3)) ∧ (decode cX6_readStop 7 = .ok (.aload_n 0, 1) ∧ decode cX6_readStop 8 = .ok (.getfield 64, 3))) ∧ ((decode cX6_readStop 11 = .ok (.iconst 3, 1) ∧ decode cX6_readStop 12 = .ok (.if_icmp .eq 15, 3)) ∧ (decode cX6_readStop 15 = .ok (.aload_n 0, 1) ∧ decode cX6_readStop 16 = .ok (.iconst 2, 1)))) ∧ (((decode cX6_readStop 17 = .ok (.aload_n 0, 1) ∧ decode cX6_readStop 18 = .ok (.getfield 76, 3)) ∧ (decode cX6_readStop 21 = .ok (.invokevirtual 89, 3) ∧ decode cX6_readStop 24 = .ok (.ifCond .eq 7, 3))) ∧ ((decode cX6_readStop 27 = .ok (.iconst 1, 1) ∧ decode cX6_readStop 28 = .ok (.goto 4, 3)) ∧ (decode cX6_readStop 31 = .ok (.iconst 0, 1) ∧ decode cX6_readStop 32 = .ok (.ireturn, 1))))) ∧ bA cX6_readStop 33 [] :=
  have q0 := fp_o42 fp_bcX6_readStop
  have q1 := fp_o182 (v := 60) q0.2 rfl
  have q2 := fp_o153 (v := 27) q1.2 rfl
  have q3 := fp_o42 q2.2
  have q4 := fp_o180 (v := 64) q3.2 rfl
  have q5 := fp_o6 q4.2
  have q6 := fp_o159 (v := 15) q5.2 rfl
  have q7 := fp_o42 q6.2
  have q8 := fp_o5 q7.2
  have q9 := fp_o42 q8.2
  have q10 := fp_o180 (v := 76) q9.2 rfl
  have q11 := fp_o182 (v := 89) q10.2 rfl
  have q12 := fp_o153 (v := 7) q11.2 rfl
  have q13 := fp_o4 q12.2
  have q14 := fp_o167 (v := 4) q13.2 rfl
  have q15 := fp_o3 q14.2
  have q16 := fp_o172 q15.2
  ⟨⟨⟨⟨⟨⟨q0.1, q1.1⟩, q2.1⟩, ⟨q3.1, q4.1⟩⟩, ⟨⟨q5.1, q6.1⟩, ⟨q7.1, q8.1⟩⟩⟩, ⟨⟨⟨q9.1, q10.1⟩, ⟨q11.1, q12.1⟩⟩, ⟨⟨q13.1, q14.1⟩, ⟨q15.1, q16.1⟩⟩⟩⟩, q16.2⟩
theorem dX6_readStop_0 : decode cX6_readStop 0 = .ok (.aload_n 0, 1) := fp_hdX6_readStop_0.1.1.1.1.1.1
theorem dX6_readStop_1 : decode cX6_readStop 1 = .ok (.invokevirtual 60, 3) := fp_hdX6_readStop_0.1.1.1.1.1.2
theorem dX6_readStop_4 : decode cX6_readStop 4 = .ok (.ifCond .eq 27, 3) := fp_hdX6_readStop_0.1.1.1.1.2
theorem dX6_readStop_7 : decode cX6_readStop 7 = .ok (.aload_n 0, 1) := fp_hdX6_readStop_0.1.1.1.2.1
theorem dX6_readStop_8 : decode cX6_readStop 8 = .ok (.getfield 64, 3) := fp_hdX6_readStop_0.1.1.1.2.2
theorem dX6_readStop_11 : decode cX6_readStop 11 = .ok (.iconst 3, 1) := fp_hdX6_readStop_0.1.1.2.1.1
theorem dX6_readStop_12 : decode cX6_readStop 12 = .ok (.if_icmp .eq 15, 3) := fp_hdX6_readStop_0.1.1.2.1.2
theorem dX6_readStop_15 : decode cX6_readStop 15 = .ok (.aload_n 0, 1) := fp_hdX6_readStop_0.1.1.2.2.1
theorem dX6_readStop_16 : decode cX6_readStop 16 = .ok (.iconst 2, 1) := fp_hdX6_readStop_0.1.1.2.2.2
theorem dX6_readStop_17 : decode cX6_readStop 17 = .ok (.aload_n 0, 1) := fp_hdX6_readStop_0.1.2.1.1.1
theorem dX6_readStop_18 : decode cX6_readStop 18 = .ok (.getfield 76, 3) := fp_hdX6_readStop_0.1.2.1.1.2
theorem dX6_readStop_21 : decode cX6_readStop 21 = .ok (.invokevirtual 89, 3) := fp_hdX6_readStop_0.1.2.1.2.1
theorem dX6_readStop_24 : decode cX6_readStop 24 = .ok (.ifCond .eq 7, 3) := fp_hdX6_readStop_0.1.2.1.2.2
theorem dX6_readStop_27 : decode cX6_readStop 27 = .ok (.iconst 1, 1) := fp_hdX6_readStop_0.1.2.2.1.1
theorem dX6_readStop_28 : decode cX6_readStop 28 = .ok (.goto 4, 3) := fp_hdX6_readStop_0.1.2.2.1.2
theorem dX6_readStop_31 : decode cX6_readStop 31 = .ok (.iconst 0, 1) := fp_hdX6_readStop_0.1.2.2.2.1
theorem dX6_readStop_32 : decode cX6_readStop 32 = .ok (.ireturn, 1) := fp_hdX6_readStop_0.1.2.2.2.2
def fp_scX6_readThing_2 : List Nat := 132 :: 2 :: 1 :: 167 :: 255 :: 219 :: 42 :: 180 :: 0 :: 12 :: 89 :: 180 :: 0 :: 129 :: 4 :: 96 :: 181 :: 0 :: 129 :: 42 :: 182 :: 0 :: 145 :: 172 :: []
def fp_scX6_readThing_1 : List Nat := 3 :: 172 :: 42 :: 180 :: 0 :: 12 :: 180 :: 0 :: 139 :: 27 :: 42 :: 180 :: 0 :: 86 :: 79 :: 3 :: 61 :: 28 :: 7 :: 162 :: 0 :: 38 :: 42 :: 3 :: 16 :: 20 :: 182 :: 0 :: 132 :: 154 :: 0 :: 5 :: 3 :: 172 :: 42 :: 180 :: 0 :: 12 :: 180 :: 0 :: 142 :: 27 :: 7 :: 104 :: 28 :: 96 :: 42 :: 180 :: 0 :: 86 :: 79 :: fp_scX6_readThing_2
def fp_scX6_readThing_0 : List Nat := 42 :: 180 :: 0 :: 12 :: 180 :: 0 :: 129 :: 60 :: 27 :: 16 :: 10 :: 161 :: 0 :: 13 :: 42 :: 8 :: 42 :: 180 :: 0 :: 76 :: 182 :: 0 :: 89 :: 172 :: 42 :: 3 :: 6 :: 182 :: 0 :: 132 :: 154 :: 0 :: 5 :: 3 :: 172 :: 42 :: 180 :: 0 :: 21 :: 180 :: 0 :: 135 :: 27 :: 42 :: 180 :: 0 :: 86 :: 79 :: 42 :: 3 :: 16 :: 9 :: 182 :: 0 :: 132 :: 154 :: 0 :: 5 :: fp_scX6_readThing_1
theorem fp_bcX6_readThing : bA cX6_readThing 0 fp_scX6_readThing_0 := show cX6_readThing.data.toList.map UInt8.toNat = fp_scX6_readThing_0 from by decide +kernel
theorem fp_hdX6_readThing_0 : (((((decode cX6_readThing 0 = .ok (.aload_n 0, 1) ∧ decode cX6_readThing 1 = .ok (.getfield 12, 3)) ∧ (decode cX6_readThing 4 = .ok (.getfield 129, 3) ∧ decode cX6_readThing 7 = .ok (.istore_n 1, 1))) ∧ ((decode cX6_readThing 8 = .ok (.iload_n 1, 1) ∧ decode cX6_readThing 9 = .ok (.bipush 10, 2)) ∧ (decode cX6_readThing 11 = .ok (.if_icmp .lt 13, 3) ∧ decode cX6_readThing 14 = .ok (.aload_n 0, 1)))) ∧ (((decode cX6_readThing 15 = .ok (.iconst 5, 1) ∧ decode cX6_readThing 16 = .ok (.aload_n 0, 1)) ∧ (decode cX6_readThing 17 = .ok (.getfield 76, 3) ∧ decode cX6_readThing 20 = .ok (.invokevirtual 89, 3))) ∧ ((decode cX6_readThing 23 = .ok (.ireturn, 1) ∧ decode cX6_readThing 24 = .ok (.aload_n 0, 1)) ∧ (decode cX6_readThing 25 = .ok (.iconst 0, 1) ∧ decode cX6_readThing 26 = .ok (.iconst 3, 1))))) ∧ ((((decode cX6_readThing 27 = .ok (.invokevirtual 132, 3) ∧ decode cX6_readThing 30 = .ok (.ifCond .ne 5, 3)) ∧ (decode cX6_readThing 33 = .ok (.iconst 0, 1) ∧ decode cX6_readThing 34 = .ok (.ireturn, 1))) ∧ ((decode cX6_readThing 35 = .ok (.aload_n 0, 1) ∧ decode cX6_readThing 36 = .ok (.getfield 21, 3)) ∧ (decode cX6_readThing 39 = .ok (.getfield 135, 3) ∧ decode cX6_readThing 42 = .ok (.iload_n 1, 1)))) ∧ (((decode cX6_readThing 43 = .ok (.aload_n 0, 1) ∧ decode cX6_readThing 44 = .ok (.getfield 86, 3)) ∧ (decode cX6_readThing 47 = .ok (.iastore, 1) ∧ decode cX6_readThing 48 = .ok (.aload_n 0, 1))) ∧ ((decode cX6_readThing 49 = .ok (.iconst 0, 1) ∧ decode cX6_readThing 50 = .ok (.bipush 9, 2)) ∧ (decode cX6_readThing 52 = .ok (.invokevirtual 132, 3) ∧ decode cX6_readThing 55 = .ok (.ifCond .ne 5, 3)))))) ∧ bA cX6_readThing 58 fp_scX6_readThing_1 :=
  have q0 := fp_o42 fp_bcX6_readThing
  have q1 := fp_o180 (v := 12) q0.2 rfl
  have q2 := fp_o180 (v := 129) q1.2 rfl
  have q3 := fp_o60 q2.2
  have q4 := fp_o27 q3.2
  have q5 := fp_o16 (v := 10) q4.2 rfl
  have q6 := fp_o161 (v := 13) q5.2 rfl
  have q7 := fp_o42 q6.2
  have q8 := fp_o8 q7.2
  have q9 := fp_o42 q8.2
  have q10 := fp_o180 (v := 76) q9.2 rfl
  have q11 := fp_o182 (v := 89) q10.2 rfl
  have q12 := fp_o172 q11.2
  have q13 := fp_o42 q12.2
  have q14 := fp_o3 q13.2
  have q15 := fp_o6 q14.2
  have q16 := fp_o182 (v := 132) q15.2 rfl
  have q17 := fp_o154 (v := 5) q16.2 rfl
  have q18 := fp_o3 q17.2
  have q19 := fp_o172 q18.2
  have q20 := fp_o42 q19.2
  have q21 := fp_o180 (v := 21) q20.2 rfl
  have q22 := fp_o180 (v := 135) q21.2 rfl
  have q23 := fp_o27 q22.2
  have q24 := fp_o42 q23.2
  have q25 := fp_o180 (v := 86) q24.2 rfl
  have q26 := fp_o79 q25.2
  have q27 := fp_o42 q26.2
  have q28 := fp_o3 q27.2
  have q29 := fp_o16 (v := 9) q28.2 rfl
  have q30 := fp_o182 (v := 132) q29.2 rfl
  have q31 := fp_o154 (v := 5) q30.2 rfl
  ⟨⟨⟨⟨⟨⟨q0.1, q1.1⟩, ⟨q2.1, q3.1⟩⟩, ⟨⟨q4.1, q5.1⟩, ⟨q6.1, q7.1⟩⟩⟩, ⟨⟨⟨q8.1, q9.1⟩, ⟨q10.1, q11.1⟩⟩, ⟨⟨q12.1, q13.1⟩, ⟨q14.1, q15.1⟩⟩⟩⟩, ⟨⟨⟨⟨q16.1, q17.1⟩, ⟨q18.1, q19.1⟩⟩, ⟨⟨q20.1, q21.1⟩, ⟨q22.1, q23.1⟩⟩⟩, ⟨⟨⟨q24.1, q25.1⟩, ⟨q26.1, q27.1⟩⟩, ⟨⟨q28.1, q29.1⟩, ⟨q30.1, q31.1⟩⟩⟩⟩⟩, q31.2⟩
theorem dX6_readThing_0 : decode cX6_readThing 0 = .ok (.aload_n 0, 1) := fp_hdX6_readThing_0.1.1.1.1.1.1
theorem dX6_readThing_1 : decode cX6_readThing 1 = .ok (.getfield 12, 3) := fp_hdX6_readThing_0.1.1.1.1.1.2
theorem dX6_readThing_4 : decode cX6_readThing 4 = .ok (.getfield 129, 3) := fp_hdX6_readThing_0.1.1.1.1.2.1
theorem dX6_readThing_7 : decode cX6_readThing 7 = .ok (.istore_n 1, 1) := fp_hdX6_readThing_0.1.1.1.1.2.2
theorem dX6_readThing_8 : decode cX6_readThing 8 = .ok (.iload_n 1, 1) := fp_hdX6_readThing_0.1.1.1.2.1.1
theorem dX6_readThing_9 : decode cX6_readThing 9 = .ok (.bipush 10, 2) := fp_hdX6_readThing_0.1.1.1.2.1.2
theorem dX6_readThing_11 : decode cX6_readThing 11 = .ok (.if_icmp .lt 13, 3) := fp_hdX6_readThing_0.1.1.1.2.2.1
theorem dX6_readThing_14 : decode cX6_readThing 14 = .ok (.aload_n 0, 1) := fp_hdX6_readThing_0.1.1.1.2.2.2
theorem dX6_readThing_15 : decode cX6_readThing 15 = .ok (.iconst 5, 1) := fp_hdX6_readThing_0.1.1.2.1.1.1
theorem dX6_readThing_16 : decode cX6_readThing 16 = .ok (.aload_n 0, 1) := fp_hdX6_readThing_0.1.1.2.1.1.2
theorem dX6_readThing_17 : decode cX6_readThing 17 = .ok (.getfield 76, 3) := fp_hdX6_readThing_0.1.1.2.1.2.1
theorem dX6_readThing_20 : decode cX6_readThing 20 = .ok (.invokevirtual 89, 3) := fp_hdX6_readThing_0.1.1.2.1.2.2
theorem dX6_readThing_23 : decode cX6_readThing 23 = .ok (.ireturn, 1) := fp_hdX6_readThing_0.1.1.2.2.1.1
theorem dX6_readThing_24 : decode cX6_readThing 24 = .ok (.aload_n 0, 1) := fp_hdX6_readThing_0.1.1.2.2.1.2
theorem dX6_readThing_25 : decode cX6_readThing 25 = .ok (.iconst 0, 1) := fp_hdX6_readThing_0.1.1.2.2.2.1
theorem dX6_readThing_26 : decode cX6_readThing 26 = .ok (.iconst 3, 1) := fp_hdX6_readThing_0.1.1.2.2.2.2
theorem dX6_readThing_27 : decode cX6_readThing 27 = .ok (.invokevirtual 132, 3) := fp_hdX6_readThing_0.1.2.1.1.1.1
theorem dX6_readThing_30 : decode cX6_readThing 30 = .ok (.ifCond .ne 5, 3) := fp_hdX6_readThing_0.1.2.1.1.1.2
theorem dX6_readThing_33 : decode cX6_readThing 33 = .ok (.iconst 0, 1) := fp_hdX6_readThing_0.1.2.1.1.2.1
theorem dX6_readThing_34 : decode cX6_readThing 34 = .ok (.ireturn, 1) := fp_hdX6_readThing_0.1.2.1.1.2.2
theorem dX6_readThing_35 : decode cX6_readThing 35 = .ok (.aload_n 0, 1) := fp_hdX6_readThing_0.1.2.1.2.1.1
theorem dX6_readThing_36 : decode cX6_readThing 36 = .ok (.getfield 21, 3) := fp_hdX6_readThing_0.1.2.1.2.1.2
theorem dX6_readThing_39 : decode cX6_readThing 39 = .ok (.getfield 135, 3) := fp_hdX6_readThing_0.1.2.1.2.2.1
theorem dX6_readThing_42 : decode cX6_readThing 42 = .ok (.iload_n 1, 1) := fp_hdX6_readThing_0.1.2.1.2.2.2
theorem dX6_readThing_43 : decode cX6_readThing 43 = .ok (.aload_n 0, 1) := fp_hdX6_readThing_0.1.2.2.1.1.1
theorem dX6_readThing_44 : decode cX6_readThing 44 = .ok (.getfield 86, 3) := fp_hdX6_readThing_0.1.2.2.1.1.2
theorem dX6_readThing_47 : decode cX6_readThing 47 = .ok (.iastore, 1) := fp_hdX6_readThing_0.1.2.2.1.2.1
theorem dX6_readThing_48 : decode cX6_readThing 48 = .ok (.aload_n 0, 1) := fp_hdX6_readThing_0.1.2.2.1.2.2
theorem dX6_readThing_49 : decode cX6_readThing 49 = .ok (.iconst 0, 1) := fp_hdX6_readThing_0.1.2.2.2.1.1
theorem dX6_readThing_50 : decode cX6_readThing 50 = .ok (.bipush 9, 2) := fp_hdX6_readThing_0.1.2.2.2.1.2
theorem dX6_readThing_52 : decode cX6_readThing 52 = .ok (.invokevirtual 132, 3) := fp_hdX6_readThing_0.1.2.2.2.2.1
theorem dX6_readThing_55 : decode cX6_readThing 55 = .ok (.ifCond .ne 5, 3) := fp_hdX6_readThing_0.1.2.2.2.2.2
theorem fp_hdX6_readThing_58 : (((((decode cX6_readThing 58 = .ok (.iconst 0, 1) ∧ decode cX6_readThing 59 = .ok (.ireturn, 1)) ∧ (decode cX6_readThing 60 = .ok (.aload_n 0, 1) ∧ decode cX6_readThing 61 = .ok (.getfield 12, 3))) ∧ ((decode cX6_readThing 64 = .ok (.getfield 139, 3) ∧ decode cX6_readThing 67 = .ok (.iload_n 1, 1)) ∧ (decode cX6_readThing 68 = .ok (.aload_n 0, 1) ∧ decode cX6_readThing 69 = .ok (.getfield 86, 3)))) ∧ (((decode cX6_readThing 72 = .ok (.iastore, 1) ∧ decode cX6_readThing 73 = .ok (.iconst 0, 1)) ∧ (decode cX6_readThing 74 = .ok (.istore_n 2, 1) ∧ decode cX6_readThing 75 = .ok (.iload_n 2, 1))) ∧ ((decode cX6_readThing 76 = .ok (.iconst 4, 1) ∧ decode cX6_readThing 77 = .ok (.if_icmp .ge 38, 3)) ∧ (decode cX6_readThing 80 = .ok (.aload_n 0, 1) ∧ decode cX6_readThing 81 = .ok (.iconst 0, 1))))) ∧ ((((decode cX6_readThing 82 = .ok (.bipush 20, 2) ∧ decode cX6_readThing 84 = .ok (.invokevirtual 132, 3)) ∧ (decode cX6_readThing 87 = .ok (.ifCond .ne 5, 3) ∧ decode cX6_readThing 90 = .ok (.iconst 0, 1))) ∧ ((decode cX6_readThing 91 = .ok (.ireturn, 1) ∧ decode cX6_readThing 92 = .ok (.aload_n 0, 1)) ∧ (decode cX6_readThing 93 = .ok (.getfield 12, 3) ∧ decode cX6_readThing 96 = .ok (.getfield 142, 3)))) ∧ (((decode cX6_readThing 99 = .ok (.iload_n 1, 1) ∧ decode cX6_readThing 100 = .ok (.iconst 4, 1)) ∧ (decode cX6_readThing 101 = .ok (.imul, 1) ∧ decode cX6_readThing 102 = .ok (.iload_n 2, 1))) ∧ ((decode cX6_readThing 103 = .ok (.iadd, 1) ∧ decode cX6_readThing 104 = .ok (.aload_n 0, 1)) ∧ (decode cX6_readThing 105 = .ok (.getfield 86, 3) ∧ decode cX6_readThing 108 = .ok (.iastore, 1)))))) ∧ bA cX6_readThing 109 fp_scX6_readThing_2 :=
  have q0 := fp_o3 fp_hdX6_readThing_0.2
  have q1 := fp_o172 q0.2
  have q2 := fp_o42 q1.2
  have q3 := fp_o180 (v := 12) q2.2 rfl
  have q4 := fp_o180 (v := 139) q3.2 rfl
  have q5 := fp_o27 q4.2
  have q6 := fp_o42 q5.2
  have q7 := fp_o180 (v := 86) q6.2 rfl
  have q8 := fp_o79 q7.2
  have q9 := fp_o3 q8.2
  have q10 := fp_o61 q9.2
  have q11 := fp_o28 q10.2
  have q12 := fp_o7 q11.2
  have q13 := fp_o162 (v := 38) q12.2 rfl
  have q14 := fp_o42 q13.2
  have q15 := fp_o3 q14.2
  have q16 := fp_o16 (v := 20) q15.2 rfl
  have q17 := fp_o182 (v := 132) q16.2 rfl
  have q18 := fp_o154 (v := 5) q17.2 rfl
  have q19 := fp_o3 q18.2
  have q20 := fp_o172 q19.2
  have q21 := fp_o42 q20.2
  have q22 := fp_o180 (v := 12) q21.2 rfl
  have q23 := fp_o180 (v := 142) q22.2 rfl
  have q24 := fp_o27 q23.2
  have q25 := fp_o7 q24.2
  have q26 := fp_o104 q25.2
  have q27 := fp_o28 q26.2
  have q28 := fp_o96 q27.2
  have q29 := fp_o42 q28.2
  have q30 := fp_o180 (v := 86) q29.2 rfl
  have q31 := fp_o79 q30.2
  ⟨⟨⟨⟨⟨⟨q0.1, q1.1⟩, ⟨q2.1, q3.1⟩⟩, ⟨⟨q4.1, q5.1⟩, ⟨q6.1, q7.1⟩⟩⟩, ⟨⟨⟨q8.1, q9.1⟩, ⟨q10.1, q11.1⟩⟩, ⟨⟨q12.1, q13.1⟩, ⟨q14.1, q15.1⟩⟩⟩⟩, ⟨⟨⟨⟨q16.1, q17.1⟩, ⟨q18.1, q19.1⟩⟩, ⟨⟨q20.1, q21.1⟩, ⟨q22.1, q23.1⟩⟩⟩, ⟨⟨⟨q24.1, q25.1⟩, ⟨q26.1, q27.1⟩⟩, ⟨⟨q28.1, q29.1⟩, ⟨q30.1, q31.1⟩⟩⟩⟩⟩, q31.2⟩
theorem dX6_readThing_58 : decode cX6_readThing 58 = .ok (.iconst 0, 1) := fp_hdX6_readThing_58.1.1.1.1.1.1
theorem dX6_readThing_59 : decode cX6_readThing 59 = .ok (.ireturn, 1) := fp_hdX6_readThing_58.1.1.1.1.1.2
theorem dX6_readThing_60 : decode cX6_readThing 60 = .ok (.aload_n 0, 1) := fp_hdX6_readThing_58.1.1.1.1.2.1
theorem dX6_readThing_61 : decode cX6_readThing 61 = .ok (.getfield 12, 3) := fp_hdX6_readThing_58.1.1.1.1.2.2
theorem dX6_readThing_64 : decode cX6_readThing 64 = .ok (.getfield 139, 3) := fp_hdX6_readThing_58.1.1.1.2.1.1
theorem dX6_readThing_67 : decode cX6_readThing 67 = .ok (.iload_n 1, 1) := fp_hdX6_readThing_58.1.1.1.2.1.2
theorem dX6_readThing_68 : decode cX6_readThing 68 = .ok (.aload_n 0, 1) := fp_hdX6_readThing_58.1.1.1.2.2.1
theorem dX6_readThing_69 : decode cX6_readThing 69 = .ok (.getfield 86, 3) := fp_hdX6_readThing_58.1.1.1.2.2.2
theorem dX6_readThing_72 : decode cX6_readThing 72 = .ok (.iastore, 1) := fp_hdX6_readThing_58.1.1.2.1.1.1
theorem dX6_readThing_73 : decode cX6_readThing 73 = .ok (.iconst 0, 1) := fp_hdX6_readThing_58.1.1.2.1.1.2
theorem dX6_readThing_74 : decode cX6_readThing 74 = .ok (.istore_n 2, 1) := fp_hdX6_readThing_58.1.1.2.1.2.1
theorem dX6_readThing_75 : decode cX6_readThing 75 = .ok (.iload_n 2, 1) := fp_hdX6_readThing_58.1.1.2.1.2.2
theorem dX6_readThing_76 : decode cX6_readThing 76 = .ok (.iconst 4, 1) := fp_hdX6_readThing_58.1.1.2.2.1.1
theorem dX6_readThing_77 : decode cX6_readThing 77 = .ok (.if_icmp .ge 38, 3) := fp_hdX6_readThing_58.1.1.2.2.1.2
theorem dX6_readThing_80 : decode cX6_readThing 80 = .ok (.aload_n 0, 1) := fp_hdX6_readThing_58.1.1.2.2.2.1
theorem dX6_readThing_81 : decode cX6_readThing 81 = .ok (.iconst 0, 1) := fp_hdX6_readThing_58.1.1.2.2.2.2
theorem dX6_readThing_82 : decode cX6_readThing 82 = .ok (.bipush 20, 2) := fp_hdX6_readThing_58.1.2.1.1.1.1
theorem dX6_readThing_84 : decode cX6_readThing 84 = .ok (.invokevirtual 132, 3) := fp_hdX6_readThing_58.1.2.1.1.1.2
theorem dX6_readThing_87 : decode cX6_readThing 87 = .ok (.ifCond .ne 5, 3) := fp_hdX6_readThing_58.1.2.1.1.2.1
theorem dX6_readThing_90 : decode cX6_readThing 90 = .ok (.iconst 0, 1) := fp_hdX6_readThing_58.1.2.1.1.2.2
theorem dX6_readThing_91 : decode cX6_readThing 91 = .ok (.ireturn, 1) := fp_hdX6_readThing_58.1.2.1.2.1.1
theorem dX6_readThing_92 : decode cX6_readThing 92 = .ok (.aload_n 0, 1) := fp_hdX6_readThing_58.1.2.1.2.1.2
theorem dX6_readThing_93 : decode cX6_readThing 93 = .ok (.getfield 12, 3) := fp_hdX6_readThing_58.1.2.1.2.2.1
theorem dX6_readThing_96 : decode cX6_readThing 96 = .ok (.getfield 142, 3) := fp_hdX6_readThing_58.1.2.1.2.2.2
theorem dX6_readThing_99 : decode cX6_readThing 99 = .ok (.iload_n 1, 1) := fp_hdX6_readThing_58.1.2.2.1.1.1
theorem dX6_readThing_100 : decode cX6_readThing 100 = .ok (.iconst 4, 1) := fp_hdX6_readThing_58.1.2.2.1.1.2
theorem dX6_readThing_101 : decode cX6_readThing 101 = .ok (.imul, 1) := fp_hdX6_readThing_58.1.2.2.1.2.1
theorem dX6_readThing_102 : decode cX6_readThing 102 = .ok (.iload_n 2, 1) := fp_hdX6_readThing_58.1.2.2.1.2.2
theorem dX6_readThing_103 : decode cX6_readThing 103 = .ok (.iadd, 1) := fp_hdX6_readThing_58.1.2.2.2.1.1
theorem dX6_readThing_104 : decode cX6_readThing 104 = .ok (.aload_n 0, 1) := fp_hdX6_readThing_58.1.2.2.2.1.2
theorem dX6_readThing_105 : decode cX6_readThing 105 = .ok (.getfield 86, 3) := fp_hdX6_readThing_58.1.2.2.2.2.1
theorem dX6_readThing_108 : decode cX6_readThing 108 = .ok (.iastore, 1) := fp_hdX6_readThing_58.1.2.2.2.2.2
theorem fp_hdX6_readThing_109 : ((((decode cX6_readThing 109 = .ok (.iinc 2 1, 3) ∧ decode cX6_readThing 112 = .ok (.goto (-37), 3)) ∧ decode cX6_readThing 115 = .ok (.aload_n 0, 1)) ∧ ((decode cX6_readThing 116 = .ok (.getfield 12, 3) ∧ decode cX6_readThing 119 = .ok (.dup, 1)) ∧ decode cX6_readThing 120 = .ok (.getfield 129, 3))) ∧ (((decode cX6_readThing 123 = .ok (.iconst 1, 1) ∧ decode cX6_readThing 124 = .ok (.iadd, 1)) ∧ decode cX6_readThing 125 = .ok (.putfield 129, 3)) ∧ ((decode cX6_readThing 128 = .ok (.aload_n 0, 1) ∧ decode cX6_readThing 129 = .ok (.invokevirtual 145, 3)) ∧ decode cX6_readThing 132 = .ok (.ireturn, 1)))) ∧ bA cX6_readThing 133 [] :=
  have q0 := fp_o132 (v := 1) fp_hdX6_readThing_58.2 rfl
  have q1 := fp_o167 (v := (-37)) q0.2 rfl
  have q2 := fp_o42 q1.2
  have q3 := fp_o180 (v := 12) q2.2 rfl
  have q4 := fp_o89 q3.2
  have q5 := fp_o180 (v := 129) q4.2 rfl
  have q6 := fp_o4 q5.2
  have q7 := fp_o96 q6.2
  have q8 := fp_o181 (v := 129) q7.2 rfl
  have q9 := fp_o42 q8.2
  have q10 := fp_o182 (v := 145) q9.2 rfl
  have q11 := fp_o172 q10.2
  ⟨⟨⟨⟨⟨q0.1, q1.1⟩, q2.1⟩, ⟨⟨q3.1, q4.1⟩, q5.1⟩⟩, ⟨⟨⟨q6.1, q7.1⟩, q8.1⟩, ⟨⟨q9.1, q10.1⟩, q11.1⟩⟩⟩, q11.2⟩
theorem dX6_readThing_109 : decode cX6_readThing 109 = .ok (.iinc 2 1, 3) := fp_hdX6_readThing_109.1.1.1.1.1
theorem dX6_readThing_112 : decode cX6_readThing 112 = .ok (.goto (-37), 3) := fp_hdX6_readThing_109.1.1.1.1.2
theorem dX6_readThing_115 : decode cX6_readThing 115 = .ok (.aload_n 0, 1) := fp_hdX6_readThing_109.1.1.1.2
theorem dX6_readThing_116 : decode cX6_readThing 116 = .ok (.getfield 12, 3) := fp_hdX6_readThing_109.1.1.2.1.1
theorem dX6_readThing_119 : decode cX6_readThing 119 = .ok (.dup, 1) := fp_hdX6_readThing_109.1.1.2.1.2
theorem dX6_readThing_120 : decode cX6_readThing 120 = .ok (.getfield 129, 3) := fp_hdX6_readThing_109.1.1.2.2
theorem dX6_readThing_123 : decode cX6_readThing 123 = .ok (.iconst 1, 1) := fp_hdX6_readThing_109.1.2.1.1.1
theorem dX6_readThing_124 : decode cX6_readThing 124 = .ok (.iadd, 1) := fp_hdX6_readThing_109.1.2.1.1.2
theorem dX6_readThing_125 : decode cX6_readThing 125 = .ok (.putfield 129, 3) := fp_hdX6_readThing_109.1.2.1.2
theorem dX6_readThing_128 : decode cX6_readThing 128 = .ok (.aload_n 0, 1) := fp_hdX6_readThing_109.1.2.2.1.1
theorem dX6_readThing_129 : decode cX6_readThing 129 = .ok (.invokevirtual 145, 3) := fp_hdX6_readThing_109.1.2.2.1.2
theorem dX6_readThing_132 : decode cX6_readThing 132 = .ok (.ireturn, 1) := fp_hdX6_readThing_109.1.2.2.2
def fp_scX6_kindRead_0 : List Nat := 42 :: 18 :: 148 :: 182 :: 0 :: 104 :: 153 :: 0 :: 5 :: 3 :: 172 :: 42 :: 18 :: 150 :: 182 :: 0 :: 104 :: 153 :: 0 :: 5 :: 4 :: 172 :: 42 :: 18 :: 152 :: 182 :: 0 :: 104 :: 153 :: 0 :: 7 :: 5 :: 167 :: 0 :: 5 :: 16 :: 252 :: 172 :: []
theorem fp_bcX6_kindRead : bA cX6_kindRead 0 fp_scX6_kindRead_0 := show cX6_kindRead.data.toList.map UInt8.toNat = fp_scX6_kindRead_0 from by decide +kernel
theorem fp_hdX6_kindRead_0 : (((((decode cX6_kindRead 0 = .ok (.aload_n 0, 1) ∧ decode cX6_kindRead 1 = .ok (.ldc 148, 2)) ∧ decode cX6_kindRead 3 = .ok (.invokevirtual 104, 3)) ∧ (decode cX6_kindRead 6 = .ok (.ifCond .eq 5, 3) ∧ decode cX6_kindRead 9 = .ok (.iconst 0, 1))) ∧ (((decode cX6_kindRead 10 = .ok (.ireturn, 1) ∧ decode cX6_kindRead 11 = .ok (.aload_n 0, 1)) ∧ decode cX6_kindRead 12 = .ok (.ldc 150, 2)) ∧ (decode cX6_kindRead 14 = .ok (.invokevirtual 104, 3) ∧ decode cX6_kindRead 17 = .ok (.ifCond .eq 5, 3)))) ∧ ((((decode cX6_kindRead 20 = .ok (.iconst 1, 1) ∧ decode cX6_kindRead 21 = .ok (.ireturn, 1)) ∧ decode cX6_kindRead 22 = .ok (.aload_n 0, 1)) ∧ (decode cX6_kindRead 23 = .ok (.ldc 152, 2) ∧ decode cX6_kindRead 25 = .ok (.invokevirtual 104, 3))) ∧ (((decode cX6_kindRead 28 = .ok (.ifCond .eq 7, 3) ∧ decode cX6_kindRead 31 = .ok (.iconst 2, 1)) ∧ decode cX6_kindRead 32 = .ok (.goto 5, 3)) ∧ (decode cX6_kindRead 35 = .ok (.bipush (-4), 2) ∧ decode cX6_kindRead 37 = .ok (.ireturn, 1))))) ∧ bA cX6_kindRead 38 [] :=
  have q0 := fp_o42 fp_bcX6_kindRead
  have q1 := fp_o18 q0.2
  have q2 := fp_o182 (v := 104) q1.2 rfl
  have q3 := fp_o153 (v := 5) q2.2 rfl
  have q4 := fp_o3 q3.2
  have q5 := fp_o172 q4.2
  have q6 := fp_o42 q5.2
  have q7 := fp_o18 q6.2
  have q8 := fp_o182 (v := 104) q7.2 rfl
  have q9 := fp_o153 (v := 5) q8.2 rfl
  have q10 := fp_o4 q9.2
  have q11 := fp_o172 q10.2
  have q12 := fp_o42 q11.2
  have q13 := fp_o18 q12.2
  have q14 := fp_o182 (v := 104) q13.2 rfl
  have q15 := fp_o153 (v := 7) q14.2 rfl
  have q16 := fp_o5 q15.2
  have q17 := fp_o167 (v := 5) q16.2 rfl
  have q18 := fp_o16 (v := (-4)) q17.2 rfl
  have q19 := fp_o172 q18.2
  ⟨⟨⟨⟨⟨⟨q0.1, q1.1⟩, q2.1⟩, ⟨q3.1, q4.1⟩⟩, ⟨⟨⟨q5.1, q6.1⟩, q7.1⟩, ⟨q8.1, q9.1⟩⟩⟩, ⟨⟨⟨⟨q10.1, q11.1⟩, q12.1⟩, ⟨q13.1, q14.1⟩⟩, ⟨⟨⟨q15.1, q16.1⟩, q17.1⟩, ⟨q18.1, q19.1⟩⟩⟩⟩, q19.2⟩
theorem dX6_kindRead_0 : decode cX6_kindRead 0 = .ok (.aload_n 0, 1) := fp_hdX6_kindRead_0.1.1.1.1.1.1
theorem dX6_kindRead_1 : decode cX6_kindRead 1 = .ok (.ldc 148, 2) := fp_hdX6_kindRead_0.1.1.1.1.1.2
theorem dX6_kindRead_3 : decode cX6_kindRead 3 = .ok (.invokevirtual 104, 3) := fp_hdX6_kindRead_0.1.1.1.1.2
theorem dX6_kindRead_6 : decode cX6_kindRead 6 = .ok (.ifCond .eq 5, 3) := fp_hdX6_kindRead_0.1.1.1.2.1
theorem dX6_kindRead_9 : decode cX6_kindRead 9 = .ok (.iconst 0, 1) := fp_hdX6_kindRead_0.1.1.1.2.2
theorem dX6_kindRead_10 : decode cX6_kindRead 10 = .ok (.ireturn, 1) := fp_hdX6_kindRead_0.1.1.2.1.1.1
theorem dX6_kindRead_11 : decode cX6_kindRead 11 = .ok (.aload_n 0, 1) := fp_hdX6_kindRead_0.1.1.2.1.1.2
theorem dX6_kindRead_12 : decode cX6_kindRead 12 = .ok (.ldc 150, 2) := fp_hdX6_kindRead_0.1.1.2.1.2
theorem dX6_kindRead_14 : decode cX6_kindRead 14 = .ok (.invokevirtual 104, 3) := fp_hdX6_kindRead_0.1.1.2.2.1
theorem dX6_kindRead_17 : decode cX6_kindRead 17 = .ok (.ifCond .eq 5, 3) := fp_hdX6_kindRead_0.1.1.2.2.2
theorem dX6_kindRead_20 : decode cX6_kindRead 20 = .ok (.iconst 1, 1) := fp_hdX6_kindRead_0.1.2.1.1.1.1
theorem dX6_kindRead_21 : decode cX6_kindRead 21 = .ok (.ireturn, 1) := fp_hdX6_kindRead_0.1.2.1.1.1.2
theorem dX6_kindRead_22 : decode cX6_kindRead 22 = .ok (.aload_n 0, 1) := fp_hdX6_kindRead_0.1.2.1.1.2
theorem dX6_kindRead_23 : decode cX6_kindRead 23 = .ok (.ldc 152, 2) := fp_hdX6_kindRead_0.1.2.1.2.1
theorem dX6_kindRead_25 : decode cX6_kindRead 25 = .ok (.invokevirtual 104, 3) := fp_hdX6_kindRead_0.1.2.1.2.2
theorem dX6_kindRead_28 : decode cX6_kindRead 28 = .ok (.ifCond .eq 7, 3) := fp_hdX6_kindRead_0.1.2.2.1.1.1
theorem dX6_kindRead_31 : decode cX6_kindRead 31 = .ok (.iconst 2, 1) := fp_hdX6_kindRead_0.1.2.2.1.1.2
theorem dX6_kindRead_32 : decode cX6_kindRead 32 = .ok (.goto 5, 3) := fp_hdX6_kindRead_0.1.2.2.1.2
theorem dX6_kindRead_35 : decode cX6_kindRead 35 = .ok (.bipush (-4), 2) := fp_hdX6_kindRead_0.1.2.2.2.1
theorem dX6_kindRead_37 : decode cX6_kindRead 37 = .ok (.ireturn, 1) := fp_hdX6_kindRead_0.1.2.2.2.2
def fp_scX6_readLineOfThings_2 : List Nat := 172 :: 132 :: 3 :: 1 :: 167 :: 255 :: 218 :: 3 :: 172 :: []
def fp_scX6_readLineOfThings_1 : List Nat := 180 :: 0 :: 160 :: 27 :: 28 :: 79 :: 42 :: 180 :: 0 :: 12 :: 89 :: 180 :: 0 :: 154 :: 4 :: 96 :: 181 :: 0 :: 154 :: 3 :: 62 :: 29 :: 16 :: 8 :: 163 :: 0 :: 38 :: 42 :: 182 :: 0 :: 60 :: 154 :: 0 :: 5 :: 3 :: 172 :: 42 :: 180 :: 0 :: 64 :: 6 :: 160 :: 0 :: 5 :: 4 :: 172 :: 42 :: 27 :: 182 :: 0 :: 163 :: 154 :: 0 :: 5 :: 3 :: fp_scX6_readLineOfThings_2
def fp_scX6_readLineOfThings_0 : List Nat := 42 :: 180 :: 0 :: 12 :: 180 :: 0 :: 154 :: 60 :: 27 :: 6 :: 161 :: 0 :: 13 :: 42 :: 8 :: 42 :: 180 :: 0 :: 76 :: 182 :: 0 :: 89 :: 172 :: 42 :: 182 :: 0 :: 60 :: 154 :: 0 :: 5 :: 3 :: 172 :: 42 :: 182 :: 0 :: 157 :: 61 :: 28 :: 16 :: 252 :: 160 :: 0 :: 13 :: 42 :: 5 :: 42 :: 180 :: 0 :: 76 :: 182 :: 0 :: 89 :: 172 :: 42 :: 180 :: 0 :: 12 :: fp_scX6_readLineOfThings_1
theorem fp_bcX6_readLineOfThings : bA cX6_readLineOfThings 0 fp_scX6_readLineOfThings_0 := show cX6_readLineOfThings.data.toList.map UInt8.toNat = fp_scX6_readLineOfThings_0 from by decide +kernel
theorem fp_hdX6_readLineOfThings_0 : (((((decode cX6_readLineOfThings 0 = .ok (.aload_n 0, 1) ∧ decode cX6_readLineOfThings 1 = .ok (.getfield 12, 3)) ∧ (decode cX6_readLineOfThings 4 = .ok (.getfield 154, 3) ∧ decode cX6_readLineOfThings 7 = .ok (.istore_n 1, 1))) ∧ ((decode cX6_readLineOfThings 8 = .ok (.iload_n 1, 1) ∧ decode cX6_readLineOfThings 9 = .ok (.iconst 3, 1)) ∧ (decode cX6_readLineOfThings 10 = .ok (.if_icmp .lt 13, 3) ∧ decode cX6_readLineOfThings 13 = .ok (.aload_n 0, 1)))) ∧ (((decode cX6_readLineOfThings 14 = .ok (.iconst 5, 1) ∧ decode cX6_readLineOfThings 15 = .ok (.aload_n 0, 1)) ∧ (decode cX6_readLineOfThings 16 = .ok (.getfield 76, 3) ∧ decode cX6_readLineOfThings 19 = .ok (.invokevirtual 89, 3))) ∧ ((decode cX6_readLineOfThings 22 = .ok (.ireturn, 1) ∧ decode cX6_readLineOfThings 23 = .ok (.aload_n 0, 1)) ∧ (decode cX6_readLineOfThings 24 = .ok (.invokevirtual 60, 3) ∧ decode cX6_readLineOfThings 27 = .ok (.ifCond .ne 5, 3))))) ∧ ((((decode cX6_readLineOfThings 30 = .ok (.iconst 0, 1) ∧ decode cX6_readLineOfThings 31 = .ok (.ireturn, 1)) ∧ (decode cX6_readLineOfThings 32 = .ok (.aload_n 0, 1) ∧ decode cX6_readLineOfThings 33 = .ok (.invokevirtual 157, 3))) ∧ ((decode cX6_readLineOfThings 36 = .ok (.istore_n 2, 1) ∧ decode cX6_readLineOfThings 37 = .ok (.iload_n 2, 1)) ∧ (decode cX6_readLineOfThings 38 = .ok (.bipush (-4), 2) ∧ decode cX6_readLineOfThings 40 = .ok (.if_icmp .ne 13, 3)))) ∧ (((decode cX6_readLineOfThings 43 = .ok (.aload_n 0, 1) ∧ decode cX6_readLineOfThings 44 = .ok (.iconst 2, 1)) ∧ (decode cX6_readLineOfThings 45 = .ok (.aload_n 0, 1) ∧ decode cX6_readLineOfThings 46 = .ok (.getfield 76, 3))) ∧ ((decode cX6_readLineOfThings 49 = .ok (.invokevirtual 89, 3) ∧ decode cX6_readLineOfThings 52 = .ok (.ireturn, 1)) ∧ (decode cX6_readLineOfThings 53 = .ok (.aload_n 0, 1) ∧ decode cX6_readLineOfThings 54 = .ok (.getfield 12, 3)))))) ∧ bA cX6_readLineOfThings 57 fp_scX6_readLineOfThings_1 :=
  have q0 := fp_o42 fp_bcX6_readLineOfThings
  have q1 := fp_o180 (v := 12) q0.2 rfl
  have q2 := fp_o180 (v := 154) q1.2 rfl
  have q3 := fp_o60 q2.2
  have q4 := fp_o27 q3.2
  have q5 := fp_o6 q4.2
  have q6 := fp_o161 (v := 13) q5.2 rfl
  have q7 := fp_o42 q6.2
  have q8 := fp_o8 q7.2
  have q9 := fp_o42 q8.2
  have q10 := fp_o180 (v := 76) q9.2 rfl
  have q11 := fp_o182 (v := 89) q10.2 rfl
  have q12 := fp_o172 q11.2
  have q13 := fp_o42 q12.2
  have q14 := fp_o182 (v := 60) q13.2 rfl
  have q15 := fp_o154 (v := 5) q14.2 rfl
  have q16 := fp_o3 q15.2
  have q17 := fp_o172 q16.2
  have q18 := fp_o42 q17.2
  have q19 := fp_o182 (v := 157) q18.2 rfl
  have q20 := fp_o61 q19.2
  have q21 := fp_o28 q20.2
  have q22 := fp_o16 (v := (-4)) q21.2 rfl
  have q23 := fp_o160 (v := 13) q22.2 rfl
  have q24 := fp_o42 q23.2
  have q25 := fp_o5 q24.2
  have q26 := fp_o42 q25.2
  have q27 := fp_o180 (v := 76) q26.2 rfl
  have q28 := fp_o182 (v := 89) q27.2 rfl
  have q29 := fp_o172 q28.2
  have q30 := fp_o42 q29.2
  have q31 := fp_o180 (v := 12) q30.2 rfl
  ⟨⟨⟨⟨⟨⟨q0.1, q1.1⟩, ⟨q2.1, q3.1⟩⟩, ⟨⟨q4.1, q5.1⟩, ⟨q6.1, q7.1⟩⟩⟩, ⟨⟨⟨q8.1, q9.1⟩, ⟨q10.1, q11.1⟩⟩, ⟨⟨q12.1, q13.1⟩, ⟨q14.1, q15.1⟩⟩⟩⟩, ⟨⟨⟨⟨q16.1, q17.1⟩, ⟨q18.1, q19.1⟩⟩, ⟨⟨q20.1, q21.1⟩, ⟨q22.1, q23.1⟩⟩⟩, ⟨⟨⟨q24.1, q25.1⟩, ⟨q26.1, q27.1⟩⟩, ⟨⟨q28.1, q29.1⟩, ⟨q30.1, q31.1⟩⟩⟩⟩⟩, q31.2⟩
theorem dX6_readLineOfThings_0 : decode cX6_readLineOfThings 0 = .ok (.aload_n 0, 1) := fp_hdX6_readLineOfThings_0.1.1.1.1.1.1
theorem dX6_readLineOfThings_1 : decode cX6_readLineOfThings 1 = .ok (.getfield 12, 3) := fp_hdX6_readLineOfThings_0.1.1.1.1.1.2
theorem dX6_readLineOfThings_4 : decode cX6_readLineOfThings 4 = .ok (.getfield 154, 3) := fp_hdX6_readLineOfThings_0.1.1.1.1.2.1
theorem dX6_readLineOfThings_7 : decode cX6_readLineOfThings 7 = .ok (.istore_n 1, 1) := fp_hdX6_readLineOfThings_0.1.1.1.1.2.2
theorem dX6_readLineOfThings_8 : decode cX6_readLineOfThings 8 = .ok (.iload_n 1, 1) := fp_hdX6_readLineOfThings_0.1.1.1.2.1.1
theorem dX6_readLineOfThings_9 : decode cX6_readLineOfThings 9 = .ok (.iconst 3, 1) := fp_hdX6_readLineOfThings_0.1.1.1.2.1.2
theorem dX6_readLineOfThings_10 : decode cX6_readLineOfThings 10 = .ok (.if_icmp .lt 13, 3) := fp_hdX6_readLineOfThings_0.1.1.1.2.2.1
theorem dX6_readLineOfThings_13 : decode cX6_readLineOfThings 13 = .ok (.aload_n 0, 1) := fp_hdX6_readLineOfThings_0.1.1.1.2.2.2
theorem dX6_readLineOfThings_14 : decode cX6_readLineOfThings 14 = .ok (.iconst 5, 1) := fp_hdX6_readLineOfThings_0.1.1.2.1.1.1
theorem dX6_readLineOfThings_15 : decode cX6_readLineOfThings 15 = .ok (.aload_n 0, 1) := fp_hdX6_readLineOfThings_0.1.1.2.1.1.2
theorem dX6_readLineOfThings_16 : decode cX6_readLineOfThings 16 = .ok (.getfield 76, 3) := fp_hdX6_readLineOfThings_0.1.1.2.1.2.1
theorem dX6_readLineOfThings_19 : decode cX6_readLineOfThings 19 = .ok (.invokevirtual 89, 3) := fp_hdX6_readLineOfThings_0.1.1.2.1.2.2
theorem dX6_readLineOfThings_22 : decode cX6_readLineOfThings 22 = .ok (.ireturn, 1) := fp_hdX6_readLineOfThings_0.1.1.2.2.1.1
theorem dX6_readLineOfThings_23 : decode cX6_readLineOfThings 23 = .ok (.aload_n 0, 1) := fp_hdX6_readLineOfThings_0.1.1.2.2.1.2
theorem dX6_readLineOfThings_24 : decode cX6_readLineOfThings 24 = .ok (.invokevirtual 60, 3) := fp_hdX6_readLineOfThings_0.1.1.2.2.2.1
theorem dX6_readLineOfThings_27 : decode cX6_readLineOfThings 27 = .ok (.ifCond .ne 5, 3) := fp_hdX6_readLineOfThings_0.1.1.2.2.2.2
theorem dX6_readLineOfThings_30 : decode cX6_readLineOfThings 30 = .ok (.iconst 0, 1) := fp_hdX6_readLineOfThings_0.1.2.1.1.1.1
theorem dX6_readLineOfThings_31 : decode cX6_readLineOfThings 31 = .ok (.ireturn, 1) := fp_hdX6_readLineOfThings_0.1.2.1.1.1.2
theorem dX6_readLineOfThings_32 : decode cX6_readLineOfThings 32 = .ok (.aload_n 0, 1) := fp_hdX6_readLineOfThings_0.1.2.1.1.2.1
theorem dX6_readLineOfThings_33 : decode cX6_readLineOfThings 33 = .ok (.invokevirtual 157, 3) := fp_hdX6_readLineOfThings_0.1.2.1.1.2.2
theorem dX6_readLineOfThings_36 : decode cX6_readLineOfThings 36 = .ok (.istore_n 2, 1) := fp_hdX6_readLineOfThings_0.1.2.1.2.1.1
theorem dX6_readLineOfThings_37 : decode cX6_readLineOfThings 37 = .ok (.iload_n 2, 1) := fp_hdX6_readLineOfThings_0.1.2.1.2.1.2
theorem dX6_readLineOfThings_38 : decode cX6_readLineOfThings 38 = .ok (.bipush (-4), 2) := fp_hdX6_readLineOfThings_0.1.2.1.2.2.1
theorem dX6_readLineOfThings_40 : decode cX6_readLineOfThings 40 = .ok (.if_icmp .ne 13, 3) := fp_hdX6_readLineOfThings_0.1.2.1.2.2.2
theorem dX6_readLineOfThings_43 : decode cX6_readLineOfThings 43 = .ok (.aload_n 0, 1) := fp_hdX6_readLineOfThings_0.1.2.2.1.1.1
theorem dX6_readLineOfThings_44 : decode cX6_readLineOfThings 44 = .ok (.iconst 2, 1) := fp_hdX6_readLineOfThings_0.1.2.2.1.1.2
theorem dX6_readLineOfThings_45 : decode cX6_readLineOfThings 45 = .ok (.aload_n 0, 1) := fp_hdX6_readLineOfThings_0.1.2.2.1.2.1
theorem dX6_readLineOfThings_46 : decode cX6_readLineOfThings 46 = .ok (.getfield 76, 3) := fp_hdX6_readLineOfThings_0.1.2.2.1.2.2
theorem dX6_readLineOfThings_49 : decode cX6_readLineOfThings 49 = .ok (.invokevirtual 89, 3) := fp_hdX6_readLineOfThings_0.1.2.2.2.1.1
theorem dX6_readLineOfThings_52 : decode cX6_readLineOfThings 52 = .ok (.ireturn, 1) := fp_hdX6_readLineOfThings_0.1.2.2.2.1.2
theorem dX6_readLineOfThings_53 : decode cX6_readLineOfThings 53 = .ok (.aload_n 0, 1) := fp_hdX6_readLineOfThings_0.1.2.2.2.2.1
theorem dX6_readLineOfThings_54 : decode cX6_readLineOfThings 54 = .ok (.getfield 12, 3) := fp_hdX6_readLineOfThings_0.1.2.2.2.2.2
theorem fp_hdX6_readLineOfThings_57 : (((((decode cX6_readLineOfThings 57 = .ok (.getfield 160, 3) ∧ decode cX6_readLineOfThings 60 = .ok (.iload_n 1, 1)) ∧ (decode cX6_readLineOfThings 61 = .ok (.iload_n 2, 1) ∧ decode cX6_readLineOfThings 62 = .ok (.iastore, 1))) ∧ ((decode cX6_readLineOfThings 63 = .ok (.aload_n 0, 1) ∧ decode cX6_readLineOfThings 64 = .ok (.getfield 12, 3)) ∧ (decode cX6_readLineOfThings 67 = .ok (.dup, 1) ∧ decode cX6_readLineOfThings 68 = .ok (.getfield 154, 3)))) ∧ (((decode cX6_readLineOfThings 71 = .ok (.iconst 1, 1) ∧ decode cX6_readLineOfThings 72 = .ok (.iadd, 1)) ∧ (decode cX6_readLineOfThings 73 = .ok (.putfield 154, 3) ∧ decode cX6_readLineOfThings 76 = .ok (.iconst 0, 1))) ∧ ((decode cX6_readLineOfThings 77 = .ok (.istore_n 3, 1) ∧ decode cX6_readLineOfThings 78 = .ok (.iload_n 3, 1)) ∧ (decode cX6_readLineOfThings 79 = .ok (.bipush 8, 2) ∧ decode cX6_readLineOfThings 81 = .ok (.if_icmp .gt 38, 3))))) ∧ ((((decode cX6_readLineOfThings 84 = .ok (.aload_n 0, 1) ∧ decode cX6_readLineOfThings 85 = .ok (.invokevirtual 60, 3)) ∧ (decode cX6_readLineOfThings 88 = .ok (.ifCond .ne 5, 3) ∧ decode cX6_readLineOfThings 91 = .ok (.iconst 0, 1))) ∧ ((decode cX6_readLineOfThings 92 = .ok (.ireturn, 1) ∧ decode cX6_readLineOfThings 93 = .ok (.aload_n 0, 1)) ∧ (decode cX6_readLineOfThings 94 = .ok (.getfield 64, 3) ∧ decode cX6_readLineOfThings 97 = .ok (.iconst 3, 1)))) ∧ (((decode cX6_readLineOfThings 98 = .ok (.if_icmp .ne 5, 3) ∧ decode cX6_readLineOfThings 101 = .ok (.iconst 1, 1)) ∧ (decode cX6_readLineOfThings 102 = .ok (.ireturn, 1) ∧ decode cX6_readLineOfThings 103 = .ok (.aload_n 0, 1))) ∧ ((decode cX6_readLineOfThings 104 = .ok (.iload_n 1, 1) ∧ decode cX6_readLineOfThings 105 = .ok (.invokevirtual 163, 3)) ∧ (decode cX6_readLineOfThings 108 = .ok (.ifCond .ne 5, 3) ∧ decode cX6_readLineOfThings 111 = .ok (.iconst 0, 1)))))) ∧ bA cX6_readLineOfThings 112 fp_scX6_readLineOfThings_2 :=
  have q0 := fp_o180 (v := 160) fp_hdX6_readLineOfThings_0.2 rfl
  have q1 := fp_o27 q0.2
  have q2 := fp_o28 q1.2
  have q3 := fp_o79 q2.2
  have q4 := fp_o42 q3.2
  have q5 := fp_o180 (v := 12) q4.2 rfl
  have q6 := fp_o89 q5.2
  have q7 := fp_o180 (v := 154) q6.2 rfl
  have q8 := fp_o4 q7.2
  have q9 := fp_o96 q8.2
  have q10 := fp_o181 (v := 154) q9.2 rfl
  have q11 := fp_o3 q10.2
  have q12 := fp_o62 q11.2
  have q13 := fp_o29 q12.2
  have q14 := fp_o16 (v := 8) q13.2 rfl
  have q15 := fp_o163 (v := 38) q14.2 rfl
  have q16 := fp_o42 q15.2
  have q17 := fp_o182 (v := 60) q16.2 rfl
  have q18 := fp_o154 (v := 5) q17.2 rfl
  have q19 := fp_o3 q18.2
  have q20 := fp_o172 q19.2
  have q21 := fp_o42 q20.2
  have q22 := fp_o180 (v := 64) q21.2 rfl
  have q23 := fp_o6 q22.2
  have q24 := fp_o160 (v := 5) q23.2 rfl
  have q25 := fp_o4 q24.2
  have q26 := fp_o172 q25.2
  have q27 := fp_o42 q26.2
  have q28 := fp_o27 q27.2
  have q29 := fp_o182 (v := 163) q28.2 rfl
  have q30 := fp_o154 (v := 5) q29.2 rfl
  have q31 := fp_o3 q30.2
  ⟨⟨⟨⟨⟨⟨q0.1, q1.1⟩, ⟨q2.1, q3.1⟩⟩, ⟨⟨q4.1, q5.1⟩, ⟨q6.1, q7.1⟩⟩⟩, ⟨⟨⟨q8.1, q9.1⟩, ⟨q10.1, q11.1⟩⟩, ⟨⟨q12.1, q13.1⟩, ⟨q14.1, q15.1⟩⟩⟩⟩, ⟨⟨⟨⟨q16.1, q17.1⟩, ⟨q18.1, q19.1⟩⟩, ⟨⟨q20.1, q21.1⟩, ⟨q22.1, q23.1⟩⟩⟩, ⟨⟨⟨q24.1, q25.1⟩, ⟨q26.1, q27.1⟩⟩, ⟨⟨q28.1, q29.1⟩, ⟨q30.1, q31.1⟩⟩⟩⟩⟩, q31.2⟩
theorem dX6_readLineOfThings_57 : decode cX6_readLineOfThings 57 = .ok (.getfield 160, 3) := fp_hdX6_readLineOfThings_57.1.1.1.1.1.1
theorem dX6_readLineOfThings_60 : decode cX6_readLineOfThings 60 = .ok (.iload_n 1, 1) := fp_hdX6_readLineOfThings_57.1.1.1.1.1.2
theorem dX6_readLineOfThings_61 : decode cX6_readLineOfThings 61 = .ok (.iload_n 2, 1) := fp_hdX6_readLineOfThings_57.1.1.1.1.2.1
theorem dX6_readLineOfThings_62 : decode cX6_readLineOfThings 62 = .ok (.iastore, 1) := fp_hdX6_readLineOfThings_57.1.1.1.1.2.2
theorem dX6_readLineOfThings_63 : decode cX6_readLineOfThings 63 = .ok (.aload_n 0, 1) := fp_hdX6_readLineOfThings_57.1.1.1.2.1.1
theorem dX6_readLineOfThings_64 : decode cX6_readLineOfThings 64 = .ok (.getfield 12, 3) := fp_hdX6_readLineOfThings_57.1.1.1.2.1.2
theorem dX6_readLineOfThings_67 : decode cX6_readLineOfThings 67 = .ok (.dup, 1) := fp_hdX6_readLineOfThings_57.1.1.1.2.2.1
theorem dX6_readLineOfThings_68 : decode cX6_readLineOfThings 68 = .ok (.getfield 154, 3) := fp_hdX6_readLineOfThings_57.1.1.1.2.2.2
theorem dX6_readLineOfThings_71 : decode cX6_readLineOfThings 71 = .ok (.iconst 1, 1) := fp_hdX6_readLineOfThings_57.1.1.2.1.1.1
theorem dX6_readLineOfThings_72 : decode cX6_readLineOfThings 72 = .ok (.iadd, 1) := fp_hdX6_readLineOfThings_57.1.1.2.1.1.2
theorem dX6_readLineOfThings_73 : decode cX6_readLineOfThings 73 = .ok (.putfield 154, 3) := fp_hdX6_readLineOfThings_57.1.1.2.1.2.1
theorem dX6_readLineOfThings_76 : decode cX6_readLineOfThings 76 = .ok (.iconst 0, 1) := fp_hdX6_readLineOfThings_57.1.1.2.1.2.2
theorem dX6_readLineOfThings_77 : decode cX6_readLineOfThings 77 = .ok (.istore_n 3, 1) := fp_hdX6_readLineOfThings_57.1.1.2.2.1.1
theorem dX6_readLineOfThings_78 : decode cX6_readLineOfThings 78 = .ok (.iload_n 3, 1) := fp_hdX6_readLineOfThings_57.1.1.2.2.1.2
theorem dX6_readLineOfThings_79 : decode cX6_readLineOfThings 79 = .ok (.bipush 8, 2) := fp_hdX6_readLineOfThings_57.1.1.2.2.2.1
theorem dX6_readLineOfThings_81 : decode cX6_readLineOfThings 81 = .ok (.if_icmp .gt 38, 3) := fp_hdX6_readLineOfThings_57.1.1.2.2.2.2
theorem dX6_readLineOfThings_84 : decode cX6_readLineOfThings 84 = .ok (.aload_n 0, 1) := fp_hdX6_readLineOfThings_57.1.2.1.1.1.1
theorem dX6_readLineOfThings_85 : decode cX6_readLineOfThings 85 = .ok (.invokevirtual 60, 3) := fp_hdX6_readLineOfThings_57.1.2.1.1.1.2
theorem dX6_readLineOfThings_88 : decode cX6_readLineOfThings 88 = .ok (.ifCond .ne 5, 3) := fp_hdX6_readLineOfThings_57.1.2.1.1.2.1
theorem dX6_readLineOfThings_91 : decode cX6_readLineOfThings 91 = .ok (.iconst 0, 1) := fp_hdX6_readLineOfThings_57.1.2.1.1.2.2
theorem dX6_readLineOfThings_92 : decode cX6_readLineOfThings 92 = .ok (.ireturn, 1) := fp_hdX6_readLineOfThings_57.1.2.1.2.1.1
theorem dX6_readLineOfThings_93 : decode cX6_readLineOfThings 93 = .ok (.aload_n 0, 1) := fp_hdX6_readLineOfThings_57.1.2.1.2.1.2
theorem dX6_readLineOfThings_94 : decode cX6_readLineOfThings 94 = .ok (.getfield 64, 3) := fp_hdX6_readLineOfThings_57.1.2.1.2.2.1
theorem dX6_readLineOfThings_97 : decode cX6_readLineOfThings 97 = .ok (.iconst 3, 1) := fp_hdX6_readLineOfThings_57.1.2.1.2.2.2
theorem dX6_readLineOfThings_98 : decode cX6_readLineOfThings 98 = .ok (.if_icmp .ne 5, 3) := fp_hdX6_readLineOfThings_57.1.2.2.1.1.1
theorem dX6_readLineOfThings_101 : decode cX6_readLineOfThings 101 = .ok (.iconst 1, 1) := fp_hdX6_readLineOfThings_57.1.2.2.1.1.2
theorem dX6_readLineOfThings_102 : decode cX6_readLineOfThings 102 = .ok (.ireturn, 1) := fp_hdX6_readLineOfThings_57.1.2.2.1.2.1
theorem dX6_readLineOfThings_103 : decode cX6_readLineOfThings 103 = .ok (.aload_n 0, 1) := fp_hdX6_readLineOfThings_57.1.2.2.1.2.2
theorem dX6_readLineOfThings_104 : decode cX6_readLineOfThings 104 = .ok (.iload_n 1, 1) := fp_hdX6_readLineOfThings_57.1.2.2.2.1.1
theorem dX6_readLineOfThings_105 : decode cX6_readLineOfThings 105 = .ok (.invokevirtual 163, 3) := fp_hdX6_readLineOfThings_57.1.2.2.2.1.2
theorem dX6_readLineOfThings_108 : decode cX6_readLineOfThings 108 = .ok (.ifCond .ne 5, 3) := fp_hdX6_readLineOfThings_57.1.2.2.2.2.1
theorem dX6_readLineOfThings_111 : decode cX6_readLineOfThings 111 = .ok (.iconst 0, 1) := fp_hdX6_readLineOfThings_57.1.2.2.2.2.2
theorem fp_hdX6_readLineOfThings_112 : (((decode cX6_readLineOfThings 112 = .ok (.ireturn, 1) ∧ decode cX6_readLineOfThings 113 = .ok (.iinc 3 1, 3)) ∧ decode cX6_readLineOfThings 116 = .ok (.goto (-38), 3)) ∧ (decode cX6_readLineOfThings 119 = .ok (.iconst 0, 1) ∧ decode cX6_readLineOfThings 120 = .ok (.ireturn, 1))) ∧ bA cX6_readLineOfThings 121 [] :=
  have q0 := fp_o172 fp_hdX6_readLineOfThings_57.2
  have q1 := fp_o132 (v := 1) q0.2 rfl
  have q2 := fp_o167 (v := (-38)) q1.2 rfl
  have q3 := fp_o3 q2.2
  have q4 := fp_o172 q3.2
  ⟨⟨⟨⟨q0.1, q1.1⟩, q2.1⟩, ⟨q3.1, q4.1⟩⟩, q4.2⟩
theorem dX6_readLineOfThings_112 : decode cX6_readLineOfThings 112 = .ok (.ireturn, 1) := fp_hdX6_readLineOfThings_112.1.1.1.1
theorem dX6_readLineOfThings_113 : decode cX6_readLineOfThings 113 = .ok (.iinc 3 1, 3) := fp_hdX6_readLineOfThings_112.1.1.1.2
theorem dX6_readLineOfThings_116 : decode cX6_readLineOfThings 116 = .ok (.goto (-38), 3) := fp_hdX6_readLineOfThings_112.1.1.2
theorem dX6_readLineOfThings_119 : decode cX6_readLineOfThings 119 = .ok (.iconst 0, 1) := fp_hdX6_readLineOfThings_112.1.2.1
theorem dX6_readLineOfThings_120 : decode cX6_readLineOfThings 120 = .ok (.ireturn, 1) := fp_hdX6_readLineOfThings_112.1.2.2
def fp_scX6_takeLying_2 : List Nat := 180 :: 0 :: 166 :: 27 :: 46 :: 96 :: 42 :: 180 :: 0 :: 86 :: 79 :: 42 :: 180 :: 0 :: 21 :: 180 :: 0 :: 166 :: 27 :: 92 :: 46 :: 4 :: 96 :: 79 :: 4 :: 172 :: []
def fp_scX6_takeLying_1 : List Nat := 182 :: 0 :: 89 :: 172 :: 42 :: 180 :: 0 :: 21 :: 180 :: 0 :: 166 :: 27 :: 46 :: 16 :: 8 :: 161 :: 0 :: 13 :: 42 :: 8 :: 42 :: 180 :: 0 :: 76 :: 182 :: 0 :: 89 :: 172 :: 42 :: 89 :: 180 :: 0 :: 46 :: 4 :: 42 :: 180 :: 0 :: 86 :: 120 :: 128 :: 181 :: 0 :: 46 :: 42 :: 180 :: 0 :: 21 :: 180 :: 0 :: 168 :: 27 :: 16 :: 8 :: 104 :: 42 :: 180 :: 0 :: 21 :: fp_scX6_takeLying_2
def fp_scX6_takeLying_0 : List Nat := 42 :: 180 :: 0 :: 64 :: 5 :: 159 :: 0 :: 13 :: 42 :: 5 :: 42 :: 180 :: 0 :: 76 :: 182 :: 0 :: 89 :: 172 :: 42 :: 180 :: 0 :: 86 :: 16 :: 10 :: 161 :: 0 :: 13 :: 42 :: 6 :: 42 :: 180 :: 0 :: 76 :: 182 :: 0 :: 89 :: 172 :: 42 :: 180 :: 0 :: 46 :: 4 :: 42 :: 180 :: 0 :: 86 :: 120 :: 126 :: 153 :: 0 :: 13 :: 42 :: 7 :: 42 :: 180 :: 0 :: 76 :: fp_scX6_takeLying_1
theorem fp_bcX6_takeLying : bA cX6_takeLying 0 fp_scX6_takeLying_0 := show cX6_takeLying.data.toList.map UInt8.toNat = fp_scX6_takeLying_0 from by decide +kernel
theorem fp_hdX6_takeLying_0 : (((((decode cX6_takeLying 0 = .ok (.aload_n 0, 1) ∧ decode cX6_takeLying 1 = .ok (.getfield 64, 3)) ∧ (decode cX6_takeLying 4 = .ok (.iconst 2, 1) ∧ decode cX6_takeLying 5 = .ok (.if_icmp .eq 13, 3))) ∧ ((decode cX6_takeLying 8 = .ok (.aload_n 0, 1) ∧ decode cX6_takeLying 9 = .ok (.iconst 2, 1)) ∧ (decode cX6_takeLying 10 = .ok (.aload_n 0, 1) ∧ decode cX6_takeLying 11 = .ok (.getfield 76, 3)))) ∧ (((decode cX6_takeLying 14 = .ok (.invokevirtual 89, 3) ∧ decode cX6_takeLying 17 = .ok (.ireturn, 1)) ∧ (decode cX6_takeLying 18 = .ok (.aload_n 0, 1) ∧ decode cX6_takeLying 19 = .ok (.getfield 86, 3))) ∧ ((decode cX6_takeLying 22 = .ok (.bipush 10, 2) ∧ decode cX6_takeLying 24 = .ok (.if_icmp .lt 13, 3)) ∧ (decode cX6_takeLying 27 = .ok (.aload_n 0, 1) ∧ decode cX6_takeLying 28 = .ok (.iconst 3, 1))))) ∧ ((((decode cX6_takeLying 29 = .ok (.aload_n 0, 1) ∧ decode cX6_takeLying 30 = .ok (.getfield 76, 3)) ∧ (decode cX6_takeLying 33 = .ok (.invokevirtual 89, 3) ∧ decode cX6_takeLying 36 = .ok (.ireturn, 1))) ∧ ((decode cX6_takeLying 37 = .ok (.aload_n 0, 1) ∧ decode cX6_takeLying 38 = .ok (.getfield 46, 3)) ∧ (decode cX6_takeLying 41 = .ok (.iconst 1, 1) ∧ decode cX6_takeLying 42 = .ok (.aload_n 0, 1)))) ∧ (((decode cX6_takeLying 43 = .ok (.getfield 86, 3) ∧ decode cX6_takeLying 46 = .ok (.ishl, 1)) ∧ (decode cX6_takeLying 47 = .ok (.iand, 1) ∧ decode cX6_takeLying 48 = .ok (.ifCond .eq 13, 3))) ∧ ((decode cX6_takeLying 51 = .ok (.aload_n 0, 1) ∧ decode cX6_takeLying 52 = .ok (.iconst 4, 1)) ∧ (decode cX6_takeLying 53 = .ok (.aload_n 0, 1) ∧ decode cX6_takeLying 54 = .ok (.getfield 76, 3)))))) ∧ bA cX6_takeLying 57 fp_scX6_takeLying_1 :=
  have q0 := fp_o42 fp_bcX6_takeLying
  have q1 := fp_o180 (v := 64) q0.2 rfl
  have q2 := fp_o5 q1.2
  have q3 := fp_o159 (v := 13) q2.2 rfl
  have q4 := fp_o42 q3.2
  have q5 := fp_o5 q4.2
  have q6 := fp_o42 q5.2
  have q7 := fp_o180 (v := 76) q6.2 rfl
  have q8 := fp_o182 (v := 89) q7.2 rfl
  have q9 := fp_o172 q8.2
  have q10 := fp_o42 q9.2
  have q11 := fp_o180 (v := 86) q10.2 rfl
  have q12 := fp_o16 (v := 10) q11.2 rfl
  have q13 := fp_o161 (v := 13) q12.2 rfl
  have q14 := fp_o42 q13.2
  have q15 := fp_o6 q14.2
  have q16 := fp_o42 q15.2
  have q17 := fp_o180 (v := 76) q16.2 rfl
  have q18 := fp_o182 (v := 89) q17.2 rfl
  have q19 := fp_o172 q18.2
  have q20 := fp_o42 q19.2
  have q21 := fp_o180 (v := 46) q20.2 rfl
  have q22 := fp_o4 q21.2
  have q23 := fp_o42 q22.2
  have q24 := fp_o180 (v := 86) q23.2 rfl
  have q25 := fp_o120 q24.2
  have q26 := fp_o126 q25.2
  have q27 := fp_o153 (v := 13) q26.2 rfl
  have q28 := fp_o42 q27.2
  have q29 := fp_o7 q28.2
  have q30 := fp_o42 q29.2
  have q31 := fp_o180 (v := 76) q30.2 rfl
  ⟨⟨⟨⟨⟨⟨q0.1, q1.1⟩, ⟨q2.1, q3.1⟩⟩, ⟨⟨q4.1, q5.1⟩, ⟨q6.1, q7.1⟩⟩⟩, ⟨⟨⟨q8.1, q9.1⟩, ⟨q10.1, q11.1⟩⟩, ⟨⟨q12.1, q13.1⟩, ⟨q14.1, q15.1⟩⟩⟩⟩, ⟨⟨⟨⟨q16.1, q17.1⟩, ⟨q18.1, q19.1⟩⟩, ⟨⟨q20.1, q21.1⟩, ⟨q22.1, q23.1⟩⟩⟩, ⟨⟨⟨q24.1, q25.1⟩, ⟨q26.1, q27.1⟩⟩, ⟨⟨q28.1, q29.1⟩, ⟨q30.1, q31.1⟩⟩⟩⟩⟩, q31.2⟩
theorem dX6_takeLying_0 : decode cX6_takeLying 0 = .ok (.aload_n 0, 1) := fp_hdX6_takeLying_0.1.1.1.1.1.1
theorem dX6_takeLying_1 : decode cX6_takeLying 1 = .ok (.getfield 64, 3) := fp_hdX6_takeLying_0.1.1.1.1.1.2
theorem dX6_takeLying_4 : decode cX6_takeLying 4 = .ok (.iconst 2, 1) := fp_hdX6_takeLying_0.1.1.1.1.2.1
theorem dX6_takeLying_5 : decode cX6_takeLying 5 = .ok (.if_icmp .eq 13, 3) := fp_hdX6_takeLying_0.1.1.1.1.2.2
theorem dX6_takeLying_8 : decode cX6_takeLying 8 = .ok (.aload_n 0, 1) := fp_hdX6_takeLying_0.1.1.1.2.1.1
theorem dX6_takeLying_9 : decode cX6_takeLying 9 = .ok (.iconst 2, 1) := fp_hdX6_takeLying_0.1.1.1.2.1.2
theorem dX6_takeLying_10 : decode cX6_takeLying 10 = .ok (.aload_n 0, 1) := fp_hdX6_takeLying_0.1.1.1.2.2.1
theorem dX6_takeLying_11 : decode cX6_takeLying 11 = .ok (.getfield 76, 3) := fp_hdX6_takeLying_0.1.1.1.2.2.2
theorem dX6_takeLying_14 : decode cX6_takeLying 14 = .ok (.invokevirtual 89, 3) := fp_hdX6_takeLying_0.1.1.2.1.1.1
theorem dX6_takeLying_17 : decode cX6_takeLying 17 = .ok (.ireturn, 1) := fp_hdX6_takeLying_0.1.1.2.1.1.2
theorem dX6_takeLying_18 : decode cX6_takeLying 18 = .ok (.aload_n 0, 1) := fp_hdX6_takeLying_0.1.1.2.1.2.1
theorem dX6_takeLying_19 : decode cX6_takeLying 19 = .ok (.getfield 86, 3) := fp_hdX6_takeLying_0.1.1.2.1.2.2
theorem dX6_takeLying_22 : decode cX6_takeLying 22 = .ok (.bipush 10, 2) := fp_hdX6_takeLying_0.1.1.2.2.1.1
theorem dX6_takeLying_24 : decode cX6_takeLying 24 = .ok (.if_icmp .lt 13, 3) := fp_hdX6_takeLying_0.1.1.2.2.1.2
theorem dX6_takeLying_27 : decode cX6_takeLying 27 = .ok (.aload_n 0, 1) := fp_hdX6_takeLying_0.1.1.2.2.2.1
theorem dX6_takeLying_28 : decode cX6_takeLying 28 = .ok (.iconst 3, 1) := fp_hdX6_takeLying_0.1.1.2.2.2.2
theorem dX6_takeLying_29 : decode cX6_takeLying 29 = .ok (.aload_n 0, 1) := fp_hdX6_takeLying_0.1.2.1.1.1.1
theorem dX6_takeLying_30 : decode cX6_takeLying 30 = .ok (.getfield 76, 3) := fp_hdX6_takeLying_0.1.2.1.1.1.2
theorem dX6_takeLying_33 : decode cX6_takeLying 33 = .ok (.invokevirtual 89, 3) := fp_hdX6_takeLying_0.1.2.1.1.2.1
theorem dX6_takeLying_36 : decode cX6_takeLying 36 = .ok (.ireturn, 1) := fp_hdX6_takeLying_0.1.2.1.1.2.2
theorem dX6_takeLying_37 : decode cX6_takeLying 37 = .ok (.aload_n 0, 1) := fp_hdX6_takeLying_0.1.2.1.2.1.1
theorem dX6_takeLying_38 : decode cX6_takeLying 38 = .ok (.getfield 46, 3) := fp_hdX6_takeLying_0.1.2.1.2.1.2
theorem dX6_takeLying_41 : decode cX6_takeLying 41 = .ok (.iconst 1, 1) := fp_hdX6_takeLying_0.1.2.1.2.2.1
theorem dX6_takeLying_42 : decode cX6_takeLying 42 = .ok (.aload_n 0, 1) := fp_hdX6_takeLying_0.1.2.1.2.2.2
theorem dX6_takeLying_43 : decode cX6_takeLying 43 = .ok (.getfield 86, 3) := fp_hdX6_takeLying_0.1.2.2.1.1.1
theorem dX6_takeLying_46 : decode cX6_takeLying 46 = .ok (.ishl, 1) := fp_hdX6_takeLying_0.1.2.2.1.1.2
theorem dX6_takeLying_47 : decode cX6_takeLying 47 = .ok (.iand, 1) := fp_hdX6_takeLying_0.1.2.2.1.2.1
theorem dX6_takeLying_48 : decode cX6_takeLying 48 = .ok (.ifCond .eq 13, 3) := fp_hdX6_takeLying_0.1.2.2.1.2.2
theorem dX6_takeLying_51 : decode cX6_takeLying 51 = .ok (.aload_n 0, 1) := fp_hdX6_takeLying_0.1.2.2.2.1.1
theorem dX6_takeLying_52 : decode cX6_takeLying 52 = .ok (.iconst 4, 1) := fp_hdX6_takeLying_0.1.2.2.2.1.2
theorem dX6_takeLying_53 : decode cX6_takeLying 53 = .ok (.aload_n 0, 1) := fp_hdX6_takeLying_0.1.2.2.2.2.1
theorem dX6_takeLying_54 : decode cX6_takeLying 54 = .ok (.getfield 76, 3) := fp_hdX6_takeLying_0.1.2.2.2.2.2
theorem fp_hdX6_takeLying_57 : (((((decode cX6_takeLying 57 = .ok (.invokevirtual 89, 3) ∧ decode cX6_takeLying 60 = .ok (.ireturn, 1)) ∧ (decode cX6_takeLying 61 = .ok (.aload_n 0, 1) ∧ decode cX6_takeLying 62 = .ok (.getfield 21, 3))) ∧ ((decode cX6_takeLying 65 = .ok (.getfield 166, 3) ∧ decode cX6_takeLying 68 = .ok (.iload_n 1, 1)) ∧ (decode cX6_takeLying 69 = .ok (.iaload, 1) ∧ decode cX6_takeLying 70 = .ok (.bipush 8, 2)))) ∧ (((decode cX6_takeLying 72 = .ok (.if_icmp .lt 13, 3) ∧ decode cX6_takeLying 75 = .ok (.aload_n 0, 1)) ∧ (decode cX6_takeLying 76 = .ok (.iconst 5, 1) ∧ decode cX6_takeLying 77 = .ok (.aload_n 0, 1))) ∧ ((decode cX6_takeLying 78 = .ok (.getfield 76, 3) ∧ decode cX6_takeLying 81 = .ok (.invokevirtual 89, 3)) ∧ (decode cX6_takeLying 84 = .ok (.ireturn, 1) ∧ decode cX6_takeLying 85 = .ok (.aload_n 0, 1))))) ∧ ((((decode cX6_takeLying 86 = .ok (.dup, 1) ∧ decode cX6_takeLying 87 = .ok (.getfield 46, 3)) ∧ (decode cX6_takeLying 90 = .ok (.iconst 1, 1) ∧ decode cX6_takeLying 91 = .ok (.aload_n 0, 1))) ∧ ((decode cX6_takeLying 92 = .ok (.getfield 86, 3) ∧ decode cX6_takeLying 95 = .ok (.ishl, 1)) ∧ (decode cX6_takeLying 96 = .ok (.ior, 1) ∧ decode cX6_takeLying 97 = .ok (.putfield 46, 3)))) ∧ (((decode cX6_takeLying 100 = .ok (.aload_n 0, 1) ∧ decode cX6_takeLying 101 = .ok (.getfield 21, 3)) ∧ (decode cX6_takeLying 104 = .ok (.getfield 168, 3) ∧ decode cX6_takeLying 107 = .ok (.iload_n 1, 1))) ∧ ((decode cX6_takeLying 108 = .ok (.bipush 8, 2) ∧ decode cX6_takeLying 110 = .ok (.imul, 1)) ∧ (decode cX6_takeLying 111 = .ok (.aload_n 0, 1) ∧ decode cX6_takeLying 112 = .ok (.getfield 21, 3)))))) ∧ bA cX6_takeLying 115 fp_scX6_takeLying_2 :=
  have q0 := fp_o182 (v := 89) fp_hdX6_takeLying_0.2 rfl
  have q1 := fp_o172 q0.2
  have q2 := fp_o42 q1.2
  have q3 := fp_o180 (v := 21) q2.2 rfl
  have q4 := fp_o180 (v := 166) q3.2 rfl
  have q5 := fp_o27 q4.2
  have q6 := fp_o46 q5.2
  have q7 := fp_o16 (v := 8) q6.2 rfl
  have q8 := fp_o161 (v := 13) q7.2 rfl
  have q9 := fp_o42 q8.2
  have q10 := fp_o8 q9.2
  have q11 := fp_o42 q10.2
  have q12 := fp_o180 (v := 76) q11.2 rfl
  have q13 := fp_o182 (v := 89) q12.2 rfl
  have q14 := fp_o172 q13.2
  have q15 := fp_o42 q14.2
  have q16 := fp_o89 q15.2
  have q17 := fp_o180 (v := 46) q16.2 rfl
  have q18 := fp_o4 q17.2
  have q19 := fp_o42 q18.2
  have q20 := fp_o180 (v := 86) q19.2 rfl
  have q21 := fp_o120 q20.2
  have q22 := fp_o128 q21.2
  have q23 := fp_o181 (v := 46) q22.2 rfl
  have q24 := fp_o42 q23.2
  have q25 := fp_o180 (v := 21) q24.2 rfl
  have q26 := fp_o180 (v := 168) q25.2 rfl
  have q27 := fp_o27 q26.2
  have q28 := fp_o16 (v := 8) q27.2 rfl
  have q29 := fp_o104 q28.2
  have q30 := fp_o42 q29.2
  have q31 := fp_o180 (v := 21) q30.2 rfl
  ⟨⟨⟨⟨⟨⟨q0.1, q1.1⟩, ⟨q2.1, q3.1⟩⟩, ⟨⟨q4.1, q5.1⟩, ⟨q6.1, q7.1⟩⟩⟩, ⟨⟨⟨q8.1, q9.1⟩, ⟨q10.1, q11.1⟩⟩, ⟨⟨q12.1, q13.1⟩, ⟨q14.1, q15.1⟩⟩⟩⟩, ⟨⟨⟨⟨q16.1, q17.1⟩, ⟨q18.1, q19.1⟩⟩, ⟨⟨q20.1, q21.1⟩, ⟨q22.1, q23.1⟩⟩⟩, ⟨⟨⟨q24.1, q25.1⟩, ⟨q26.1, q27.1⟩⟩, ⟨⟨q28.1, q29.1⟩, ⟨q30.1, q31.1⟩⟩⟩⟩⟩, q31.2⟩
theorem dX6_takeLying_57 : decode cX6_takeLying 57 = .ok (.invokevirtual 89, 3) := fp_hdX6_takeLying_57.1.1.1.1.1.1
theorem dX6_takeLying_60 : decode cX6_takeLying 60 = .ok (.ireturn, 1) := fp_hdX6_takeLying_57.1.1.1.1.1.2
theorem dX6_takeLying_61 : decode cX6_takeLying 61 = .ok (.aload_n 0, 1) := fp_hdX6_takeLying_57.1.1.1.1.2.1
theorem dX6_takeLying_62 : decode cX6_takeLying 62 = .ok (.getfield 21, 3) := fp_hdX6_takeLying_57.1.1.1.1.2.2
theorem dX6_takeLying_65 : decode cX6_takeLying 65 = .ok (.getfield 166, 3) := fp_hdX6_takeLying_57.1.1.1.2.1.1
theorem dX6_takeLying_68 : decode cX6_takeLying 68 = .ok (.iload_n 1, 1) := fp_hdX6_takeLying_57.1.1.1.2.1.2
theorem dX6_takeLying_69 : decode cX6_takeLying 69 = .ok (.iaload, 1) := fp_hdX6_takeLying_57.1.1.1.2.2.1
theorem dX6_takeLying_70 : decode cX6_takeLying 70 = .ok (.bipush 8, 2) := fp_hdX6_takeLying_57.1.1.1.2.2.2
theorem dX6_takeLying_72 : decode cX6_takeLying 72 = .ok (.if_icmp .lt 13, 3) := fp_hdX6_takeLying_57.1.1.2.1.1.1
theorem dX6_takeLying_75 : decode cX6_takeLying 75 = .ok (.aload_n 0, 1) := fp_hdX6_takeLying_57.1.1.2.1.1.2
theorem dX6_takeLying_76 : decode cX6_takeLying 76 = .ok (.iconst 5, 1) := fp_hdX6_takeLying_57.1.1.2.1.2.1
theorem dX6_takeLying_77 : decode cX6_takeLying 77 = .ok (.aload_n 0, 1) := fp_hdX6_takeLying_57.1.1.2.1.2.2
theorem dX6_takeLying_78 : decode cX6_takeLying 78 = .ok (.getfield 76, 3) := fp_hdX6_takeLying_57.1.1.2.2.1.1
theorem dX6_takeLying_81 : decode cX6_takeLying 81 = .ok (.invokevirtual 89, 3) := fp_hdX6_takeLying_57.1.1.2.2.1.2
theorem dX6_takeLying_84 : decode cX6_takeLying 84 = .ok (.ireturn, 1) := fp_hdX6_takeLying_57.1.1.2.2.2.1
theorem dX6_takeLying_85 : decode cX6_takeLying 85 = .ok (.aload_n 0, 1) := fp_hdX6_takeLying_57.1.1.2.2.2.2
theorem dX6_takeLying_86 : decode cX6_takeLying 86 = .ok (.dup, 1) := fp_hdX6_takeLying_57.1.2.1.1.1.1
theorem dX6_takeLying_87 : decode cX6_takeLying 87 = .ok (.getfield 46, 3) := fp_hdX6_takeLying_57.1.2.1.1.1.2
theorem dX6_takeLying_90 : decode cX6_takeLying 90 = .ok (.iconst 1, 1) := fp_hdX6_takeLying_57.1.2.1.1.2.1
theorem dX6_takeLying_91 : decode cX6_takeLying 91 = .ok (.aload_n 0, 1) := fp_hdX6_takeLying_57.1.2.1.1.2.2
theorem dX6_takeLying_92 : decode cX6_takeLying 92 = .ok (.getfield 86, 3) := fp_hdX6_takeLying_57.1.2.1.2.1.1
theorem dX6_takeLying_95 : decode cX6_takeLying 95 = .ok (.ishl, 1) := fp_hdX6_takeLying_57.1.2.1.2.1.2
theorem dX6_takeLying_96 : decode cX6_takeLying 96 = .ok (.ior, 1) := fp_hdX6_takeLying_57.1.2.1.2.2.1
theorem dX6_takeLying_97 : decode cX6_takeLying 97 = .ok (.putfield 46, 3) := fp_hdX6_takeLying_57.1.2.1.2.2.2
theorem dX6_takeLying_100 : decode cX6_takeLying 100 = .ok (.aload_n 0, 1) := fp_hdX6_takeLying_57.1.2.2.1.1.1
theorem dX6_takeLying_101 : decode cX6_takeLying 101 = .ok (.getfield 21, 3) := fp_hdX6_takeLying_57.1.2.2.1.1.2
theorem dX6_takeLying_104 : decode cX6_takeLying 104 = .ok (.getfield 168, 3) := fp_hdX6_takeLying_57.1.2.2.1.2.1
theorem dX6_takeLying_107 : decode cX6_takeLying 107 = .ok (.iload_n 1, 1) := fp_hdX6_takeLying_57.1.2.2.1.2.2
theorem dX6_takeLying_108 : decode cX6_takeLying 108 = .ok (.bipush 8, 2) := fp_hdX6_takeLying_57.1.2.2.2.1.1
theorem dX6_takeLying_110 : decode cX6_takeLying 110 = .ok (.imul, 1) := fp_hdX6_takeLying_57.1.2.2.2.1.2
theorem dX6_takeLying_111 : decode cX6_takeLying 111 = .ok (.aload_n 0, 1) := fp_hdX6_takeLying_57.1.2.2.2.2.1
theorem dX6_takeLying_112 : decode cX6_takeLying 112 = .ok (.getfield 21, 3) := fp_hdX6_takeLying_57.1.2.2.2.2.2
theorem fp_hdX6_takeLying_115 : (((((decode cX6_takeLying 115 = .ok (.getfield 166, 3) ∧ decode cX6_takeLying 118 = .ok (.iload_n 1, 1)) ∧ decode cX6_takeLying 119 = .ok (.iaload, 1)) ∧ (decode cX6_takeLying 120 = .ok (.iadd, 1) ∧ decode cX6_takeLying 121 = .ok (.aload_n 0, 1))) ∧ ((decode cX6_takeLying 122 = .ok (.getfield 86, 3) ∧ decode cX6_takeLying 125 = .ok (.iastore, 1)) ∧ (decode cX6_takeLying 126 = .ok (.aload_n 0, 1) ∧ decode cX6_takeLying 127 = .ok (.getfield 21, 3)))) ∧ ((((decode cX6_takeLying 130 = .ok (.getfield 166, 3) ∧ decode cX6_takeLying 133 = .ok (.iload_n 1, 1)) ∧ decode cX6_takeLying 134 = .ok (.dup2, 1)) ∧ (decode cX6_takeLying 135 = .ok (.iaload, 1) ∧ decode cX6_takeLying 136 = .ok (.iconst 1, 1))) ∧ ((decode cX6_takeLying 137 = .ok (.iadd, 1) ∧ decode cX6_takeLying 138 = .ok (.iastore, 1)) ∧ (decode cX6_takeLying 139 = .ok (.iconst 1, 1) ∧ decode cX6_takeLying 140 = .ok (.ireturn, 1))))) ∧ bA cX6_takeLying 141 [] :=
  have q0 := fp_o180 (v := 166) fp_hdX6_takeLying_57.2 rfl
  have q1 := fp_o27 q0.2
  have q2 := fp_o46 q1.2
  have q3 := fp_o96 q2.2
  have q4 := fp_o42 q3.2
  have q5 := fp_o180 (v := 86) q4.2 rfl
  have q6 := fp_o79 q5.2
  have q7 := fp_o42 q6.2
  have q8 := fp_o180 (v := 21) q7.2 rfl
  have q9 := fp_o180 (v := 166) q8.2 rfl
  have q10 := fp_o27 q9.2
  have q11 := fp_o92 q10.2
  have q12 := fp_o46 q11.2
  have q13 := fp_o4 q12.2
  have q14 := fp_o96 q13.2
  have q15 := fp_o79 q14.2
  have q16 := fp_o4 q15.2
  have q17 := fp_o172 q16.2
  ⟨⟨⟨⟨⟨⟨q0.1, q1.1⟩, q2.1⟩, ⟨q3.1, q4.1⟩⟩, ⟨⟨q5.1, q6.1⟩, ⟨q7.1, q8.1⟩⟩⟩, ⟨⟨⟨⟨q9.1, q10.1⟩, q11.1⟩, ⟨q12.1, q13.1⟩⟩, ⟨⟨q14.1, q15.1⟩, ⟨q16.1, q17.1⟩⟩⟩⟩, q17.2⟩
theorem dX6_takeLying_115 : decode cX6_takeLying 115 = .ok (.getfield 166, 3) := fp_hdX6_takeLying_115.1.1.1.1.1.1
theorem dX6_takeLying_118 : decode cX6_takeLying 118 = .ok (.iload_n 1, 1) := fp_hdX6_takeLying_115.1.1.1.1.1.2
theorem dX6_takeLying_119 : decode cX6_takeLying 119 = .ok (.iaload, 1) := fp_hdX6_takeLying_115.1.1.1.1.2
theorem dX6_takeLying_120 : decode cX6_takeLying 120 = .ok (.iadd, 1) := fp_hdX6_takeLying_115.1.1.1.2.1
theorem dX6_takeLying_121 : decode cX6_takeLying 121 = .ok (.aload_n 0, 1) := fp_hdX6_takeLying_115.1.1.1.2.2
theorem dX6_takeLying_122 : decode cX6_takeLying 122 = .ok (.getfield 86, 3) := fp_hdX6_takeLying_115.1.1.2.1.1
theorem dX6_takeLying_125 : decode cX6_takeLying 125 = .ok (.iastore, 1) := fp_hdX6_takeLying_115.1.1.2.1.2
theorem dX6_takeLying_126 : decode cX6_takeLying 126 = .ok (.aload_n 0, 1) := fp_hdX6_takeLying_115.1.1.2.2.1
theorem dX6_takeLying_127 : decode cX6_takeLying 127 = .ok (.getfield 21, 3) := fp_hdX6_takeLying_115.1.1.2.2.2
theorem dX6_takeLying_130 : decode cX6_takeLying 130 = .ok (.getfield 166, 3) := fp_hdX6_takeLying_115.1.2.1.1.1.1
theorem dX6_takeLying_133 : decode cX6_takeLying 133 = .ok (.iload_n 1, 1) := fp_hdX6_takeLying_115.1.2.1.1.1.2
theorem dX6_takeLying_134 : decode cX6_takeLying 134 = .ok (.dup2, 1) := fp_hdX6_takeLying_115.1.2.1.1.2
theorem dX6_takeLying_135 : decode cX6_takeLying 135 = .ok (.iaload, 1) := fp_hdX6_takeLying_115.1.2.1.2.1
theorem dX6_takeLying_136 : decode cX6_takeLying 136 = .ok (.iconst 1, 1) := fp_hdX6_takeLying_115.1.2.1.2.2
theorem dX6_takeLying_137 : decode cX6_takeLying 137 = .ok (.iadd, 1) := fp_hdX6_takeLying_115.1.2.2.1.1
theorem dX6_takeLying_138 : decode cX6_takeLying 138 = .ok (.iastore, 1) := fp_hdX6_takeLying_115.1.2.2.1.2
theorem dX6_takeLying_139 : decode cX6_takeLying 139 = .ok (.iconst 1, 1) := fp_hdX6_takeLying_115.1.2.2.2.1
theorem dX6_takeLying_140 : decode cX6_takeLying 140 = .ok (.ireturn, 1) := fp_hdX6_takeLying_115.1.2.2.2.2
def fp_scX6_readVisit_2 : List Nat := 87 :: 42 :: 182 :: 0 :: 145 :: 172 :: []
def fp_scX6_readVisit_1 : List Nat := 62 :: 42 :: 3 :: 5 :: 182 :: 0 :: 132 :: 154 :: 0 :: 5 :: 3 :: 172 :: 42 :: 180 :: 0 :: 86 :: 54 :: 4 :: 27 :: 153 :: 0 :: 15 :: 42 :: 3 :: 16 :: 9 :: 182 :: 0 :: 132 :: 154 :: 0 :: 5 :: 3 :: 172 :: 42 :: 180 :: 0 :: 28 :: 28 :: 29 :: 21 :: 4 :: 27 :: 153 :: 0 :: 10 :: 42 :: 180 :: 0 :: 86 :: 167 :: 0 :: 5 :: 16 :: 252 :: 182 :: 0 :: 173 :: fp_scX6_readVisit_2
def fp_scX6_readVisit_0 : List Nat := 42 :: 180 :: 0 :: 28 :: 180 :: 0 :: 57 :: 16 :: 12 :: 161 :: 0 :: 13 :: 42 :: 8 :: 42 :: 180 :: 0 :: 76 :: 182 :: 0 :: 89 :: 172 :: 42 :: 42 :: 180 :: 0 :: 28 :: 182 :: 0 :: 170 :: 16 :: 99 :: 182 :: 0 :: 132 :: 154 :: 0 :: 5 :: 3 :: 172 :: 42 :: 180 :: 0 :: 86 :: 61 :: 42 :: 3 :: 6 :: 182 :: 0 :: 132 :: 154 :: 0 :: 5 :: 3 :: 172 :: 42 :: 180 :: 0 :: 86 :: fp_scX6_readVisit_1
theorem fp_bcX6_readVisit : bA cX6_readVisit 0 fp_scX6_readVisit_0 := show cX6_readVisit.data.toList.map UInt8.toNat = fp_scX6_readVisit_0 from by decide +kernel
theorem fp_hdX6_readVisit_0 : (((((decode cX6_readVisit 0 = .ok (.aload_n 0, 1) ∧ decode cX6_readVisit 1 = .ok (.getfield 28, 3)) ∧ (decode cX6_readVisit 4 = .ok (.getfield 57, 3) ∧ decode cX6_readVisit 7 = .ok (.bipush 12, 2))) ∧ ((decode cX6_readVisit 9 = .ok (.if_icmp .lt 13, 3) ∧ decode cX6_readVisit 12 = .ok (.aload_n 0, 1)) ∧ (decode cX6_readVisit 13 = .ok (.iconst 5, 1) ∧ decode cX6_readVisit 14 = .ok (.aload_n 0, 1)))) ∧ (((decode cX6_readVisit 15 = .ok (.getfield 76, 3) ∧ decode cX6_readVisit 18 = .ok (.invokevirtual 89, 3)) ∧ (decode cX6_readVisit 21 = .ok (.ireturn, 1) ∧ decode cX6_readVisit 22 = .ok (.aload_n 0, 1))) ∧ ((decode cX6_readVisit 23 = .ok (.aload_n 0, 1) ∧ decode cX6_readVisit 24 = .ok (.getfield 28, 3)) ∧ (decode cX6_readVisit 27 = .ok (.invokevirtual 170, 3) ∧ decode cX6_readVisit 30 = .ok (.bipush 99, 2))))) ∧ ((((decode cX6_readVisit 32 = .ok (.invokevirtual 132, 3) ∧ decode cX6_readVisit 35 = .ok (.ifCond .ne 5, 3)) ∧ (decode cX6_readVisit 38 = .ok (.iconst 0, 1) ∧ decode cX6_readVisit 39 = .ok (.ireturn, 1))) ∧ ((decode cX6_readVisit 40 = .ok (.aload_n 0, 1) ∧ decode cX6_readVisit 41 = .ok (.getfield 86, 3)) ∧ (decode cX6_readVisit 44 = .ok (.istore_n 2, 1) ∧ decode cX6_readVisit 45 = .ok (.aload_n 0, 1)))) ∧ (((decode cX6_readVisit 46 = .ok (.iconst 0, 1) ∧ decode cX6_readVisit 47 = .ok (.iconst 3, 1)) ∧ (decode cX6_readVisit 48 = .ok (.invokevirtual 132, 3) ∧ decode cX6_readVisit 51 = .ok (.ifCond .ne 5, 3))) ∧ ((decode cX6_readVisit 54 = .ok (.iconst 0, 1) ∧ decode cX6_readVisit 55 = .ok (.ireturn, 1)) ∧ (decode cX6_readVisit 56 = .ok (.aload_n 0, 1) ∧ decode cX6_readVisit 57 = .ok (.getfield 86, 3)))))) ∧ bA cX6_readVisit 60 fp_scX6_readVisit_1 :=
  have q0 := fp_o42 fp_bcX6_readVisit
  have q1 := fp_o180 (v := 28) q0.2 rfl
  have q2 := fp_o180 (v := 57) q1.2 rfl
  have q3 := fp_o16 (v := 12) q2.2 rfl
  have q4 := fp_o161 (v := 13) q3.2 rfl
  have q5 := fp_o42 q4.2
  have q6 := fp_o8 q5.2
  have q7 := fp_o42 q6.2
  have q8 := fp_o180 (v := 76) q7.2 rfl
  have q9 := fp_o182 (v := 89) q8.2 rfl
  have q10 := fp_o172 q9.2
  have q11 := fp_o42 q10.2
  have q12 := fp_o42 q11.2
  have q13 := fp_o180 (v := 28) q12.2 rfl
  have q14 := fp_o182 (v := 170) q13.2 rfl
  have q15 := fp_o16 (v := 99) q14.2 rfl
  have q16 := fp_o182 (v := 132) q15.2 rfl
  have q17 := fp_o154 (v := 5) q16.2 rfl
  have q18 := fp_o3 q17.2
  have q19 := fp_o172 q18.2
  have q20 := fp_o42 q19.2
  have q21 := fp_o180 (v := 86) q20.2 rfl
  have q22 := fp_o61 q21.2
  have q23 := fp_o42 q22.2
  have q24 := fp_o3 q23.2
  have q25 := fp_o6 q24.2
  have q26 := fp_o182 (v := 132) q25.2 rfl
  have q27 := fp_o154 (v := 5) q26.2 rfl
  have q28 := fp_o3 q27.2
  have q29 := fp_o172 q28.2
  have q30 := fp_o42 q29.2
  have q31 := fp_o180 (v := 86) q30.2 rfl
  ⟨⟨⟨⟨⟨⟨q0.1, q1.1⟩, ⟨q2.1, q3.1⟩⟩, ⟨⟨q4.1, q5.1⟩, ⟨q6.1, q7.1⟩⟩⟩, ⟨⟨⟨q8.1, q9.1⟩, ⟨q10.1, q11.1⟩⟩, ⟨⟨q12.1, q13.1⟩, ⟨q14.1, q15.1⟩⟩⟩⟩, ⟨⟨⟨⟨q16.1, q17.1⟩, ⟨q18.1, q19.1⟩⟩, ⟨⟨q20.1, q21.1⟩, ⟨q22.1, q23.1⟩⟩⟩, ⟨⟨⟨q24.1, q25.1⟩, ⟨q26.1, q27.1⟩⟩, ⟨⟨q28.1, q29.1⟩, ⟨q30.1, q31.1⟩⟩⟩⟩⟩, q31.2⟩
theorem dX6_readVisit_0 : decode cX6_readVisit 0 = .ok (.aload_n 0, 1) := fp_hdX6_readVisit_0.1.1.1.1.1.1
theorem dX6_readVisit_1 : decode cX6_readVisit 1 = .ok (.getfield 28, 3) := fp_hdX6_readVisit_0.1.1.1.1.1.2
theorem dX6_readVisit_4 : decode cX6_readVisit 4 = .ok (.getfield 57, 3) := fp_hdX6_readVisit_0.1.1.1.1.2.1
theorem dX6_readVisit_7 : decode cX6_readVisit 7 = .ok (.bipush 12, 2) := fp_hdX6_readVisit_0.1.1.1.1.2.2
theorem dX6_readVisit_9 : decode cX6_readVisit 9 = .ok (.if_icmp .lt 13, 3) := fp_hdX6_readVisit_0.1.1.1.2.1.1
theorem dX6_readVisit_12 : decode cX6_readVisit 12 = .ok (.aload_n 0, 1) := fp_hdX6_readVisit_0.1.1.1.2.1.2
theorem dX6_readVisit_13 : decode cX6_readVisit 13 = .ok (.iconst 5, 1) := fp_hdX6_readVisit_0.1.1.1.2.2.1
theorem dX6_readVisit_14 : decode cX6_readVisit 14 = .ok (.aload_n 0, 1) := fp_hdX6_readVisit_0.1.1.1.2.2.2
theorem dX6_readVisit_15 : decode cX6_readVisit 15 = .ok (.getfield 76, 3) := fp_hdX6_readVisit_0.1.1.2.1.1.1
theorem dX6_readVisit_18 : decode cX6_readVisit 18 = .ok (.invokevirtual 89, 3) := fp_hdX6_readVisit_0.1.1.2.1.1.2
theorem dX6_readVisit_21 : decode cX6_readVisit 21 = .ok (.ireturn, 1) := fp_hdX6_readVisit_0.1.1.2.1.2.1
theorem dX6_readVisit_22 : decode cX6_readVisit 22 = .ok (.aload_n 0, 1) := fp_hdX6_readVisit_0.1.1.2.1.2.2
theorem dX6_readVisit_23 : decode cX6_readVisit 23 = .ok (.aload_n 0, 1) := fp_hdX6_readVisit_0.1.1.2.2.1.1
theorem dX6_readVisit_24 : decode cX6_readVisit 24 = .ok (.getfield 28, 3) := fp_hdX6_readVisit_0.1.1.2.2.1.2
theorem dX6_readVisit_27 : decode cX6_readVisit 27 = .ok (.invokevirtual 170, 3) := fp_hdX6_readVisit_0.1.1.2.2.2.1
theorem dX6_readVisit_30 : decode cX6_readVisit 30 = .ok (.bipush 99, 2) := fp_hdX6_readVisit_0.1.1.2.2.2.2
theorem dX6_readVisit_32 : decode cX6_readVisit 32 = .ok (.invokevirtual 132, 3) := fp_hdX6_readVisit_0.1.2.1.1.1.1
theorem dX6_readVisit_35 : decode cX6_readVisit 35 = .ok (.ifCond .ne 5, 3) := fp_hdX6_readVisit_0.1.2.1.1.1.2
theorem dX6_readVisit_38 : decode cX6_readVisit 38 = .ok (.iconst 0, 1) := fp_hdX6_readVisit_0.1.2.1.1.2.1
theorem dX6_readVisit_39 : decode cX6_readVisit 39 = .ok (.ireturn, 1) := fp_hdX6_readVisit_0.1.2.1.1.2.2
theorem dX6_readVisit_40 : decode cX6_readVisit 40 = .ok (.aload_n 0, 1) := fp_hdX6_readVisit_0.1.2.1.2.1.1
theorem dX6_readVisit_41 : decode cX6_readVisit 41 = .ok (.getfield 86, 3) := fp_hdX6_readVisit_0.1.2.1.2.1.2
theorem dX6_readVisit_44 : decode cX6_readVisit 44 = .ok (.istore_n 2, 1) := fp_hdX6_readVisit_0.1.2.1.2.2.1
theorem dX6_readVisit_45 : decode cX6_readVisit 45 = .ok (.aload_n 0, 1) := fp_hdX6_readVisit_0.1.2.1.2.2.2
theorem dX6_readVisit_46 : decode cX6_readVisit 46 = .ok (.iconst 0, 1) := fp_hdX6_readVisit_0.1.2.2.1.1.1
theorem dX6_readVisit_47 : decode cX6_readVisit 47 = .ok (.iconst 3, 1) := fp_hdX6_readVisit_0.1.2.2.1.1.2
theorem dX6_readVisit_48 : decode cX6_readVisit 48 = .ok (.invokevirtual 132, 3) := fp_hdX6_readVisit_0.1.2.2.1.2.1
theorem dX6_readVisit_51 : decode cX6_readVisit 51 = .ok (.ifCond .ne 5, 3) := fp_hdX6_readVisit_0.1.2.2.1.2.2
theorem dX6_readVisit_54 : decode cX6_readVisit 54 = .ok (.iconst 0, 1) := fp_hdX6_readVisit_0.1.2.2.2.1.1
theorem dX6_readVisit_55 : decode cX6_readVisit 55 = .ok (.ireturn, 1) := fp_hdX6_readVisit_0.1.2.2.2.1.2
theorem dX6_readVisit_56 : decode cX6_readVisit 56 = .ok (.aload_n 0, 1) := fp_hdX6_readVisit_0.1.2.2.2.2.1
theorem dX6_readVisit_57 : decode cX6_readVisit 57 = .ok (.getfield 86, 3) := fp_hdX6_readVisit_0.1.2.2.2.2.2
theorem fp_hdX6_readVisit_60 : (((((decode cX6_readVisit 60 = .ok (.istore_n 3, 1) ∧ decode cX6_readVisit 61 = .ok (.aload_n 0, 1)) ∧ (decode cX6_readVisit 62 = .ok (.iconst 0, 1) ∧ decode cX6_readVisit 63 = .ok (.iconst 2, 1))) ∧ ((decode cX6_readVisit 64 = .ok (.invokevirtual 132, 3) ∧ decode cX6_readVisit 67 = .ok (.ifCond .ne 5, 3)) ∧ (decode cX6_readVisit 70 = .ok (.iconst 0, 1) ∧ decode cX6_readVisit 71 = .ok (.ireturn, 1)))) ∧ (((decode cX6_readVisit 72 = .ok (.aload_n 0, 1) ∧ decode cX6_readVisit 73 = .ok (.getfield 86, 3)) ∧ (decode cX6_readVisit 76 = .ok (.istore 4, 2) ∧ decode cX6_readVisit 78 = .ok (.iload_n 1, 1))) ∧ ((decode cX6_readVisit 79 = .ok (.ifCond .eq 15, 3) ∧ decode cX6_readVisit 82 = .ok (.aload_n 0, 1)) ∧ (decode cX6_readVisit 83 = .ok (.iconst 0, 1) ∧ decode cX6_readVisit 84 = .ok (.bipush 9, 2))))) ∧ ((((decode cX6_readVisit 86 = .ok (.invokevirtual 132, 3) ∧ decode cX6_readVisit 89 = .ok (.ifCond .ne 5, 3)) ∧ (decode cX6_readVisit 92 = .ok (.iconst 0, 1) ∧ decode cX6_readVisit 93 = .ok (.ireturn, 1))) ∧ ((decode cX6_readVisit 94 = .ok (.aload_n 0, 1) ∧ decode cX6_readVisit 95 = .ok (.getfield 28, 3)) ∧ (decode cX6_readVisit 98 = .ok (.iload_n 2, 1) ∧ decode cX6_readVisit 99 = .ok (.iload_n 3, 1)))) ∧ (((decode cX6_readVisit 100 = .ok (.iload 4, 2) ∧ decode cX6_readVisit 102 = .ok (.iload_n 1, 1)) ∧ (decode cX6_readVisit 103 = .ok (.ifCond .eq 10, 3) ∧ decode cX6_readVisit 106 = .ok (.aload_n 0, 1))) ∧ ((decode cX6_readVisit 107 = .ok (.getfield 86, 3) ∧ decode cX6_readVisit 110 = .ok (.goto 5, 3)) ∧ (decode cX6_readVisit 113 = .ok (.bipush (-4), 2) ∧ decode cX6_readVisit 115 = .ok (.invokevirtual 173, 3)))))) ∧ bA cX6_readVisit 118 fp_scX6_readVisit_2 :=
  have q0 := fp_o62 fp_hdX6_readVisit_0.2
  have q1 := fp_o42 q0.2
  have q2 := fp_o3 q1.2
  have q3 := fp_o5 q2.2
  have q4 := fp_o182 (v := 132) q3.2 rfl
  have q5 := fp_o154 (v := 5) q4.2 rfl
  have q6 := fp_o3 q5.2
  have q7 := fp_o172 q6.2
  have q8 := fp_o42 q7.2
  have q9 := fp_o180 (v := 86) q8.2 rfl
  have q10 := fp_o54 q9.2
  have q11 := fp_o27 q10.2
  have q12 := fp_o153 (v := 15) q11.2 rfl
  have q13 := fp_o42 q12.2
  have q14 := fp_o3 q13.2
  have q15 := fp_o16 (v := 9) q14.2 rfl
  have q16 := fp_o182 (v := 132) q15.2 rfl
  have q17 := fp_o154 (v := 5) q16.2 rfl
  have q18 := fp_o3 q17.2
  have q19 := fp_o172 q18.2
  have q20 := fp_o42 q19.2
  have q21 := fp_o180 (v := 28) q20.2 rfl
  have q22 := fp_o28 q21.2
  have q23 := fp_o29 q22.2
  have q24 := fp_o21 q23.2
  have q25 := fp_o27 q24.2
  have q26 := fp_o153 (v := 10) q25.2 rfl
  have q27 := fp_o42 q26.2
  have q28 := fp_o180 (v := 86) q27.2 rfl
  have q29 := fp_o167 (v := 5) q28.2 rfl
  have q30 := fp_o16 (v := (-4)) q29.2 rfl
  have q31 := fp_o182 (v := 173) q30.2 rfl
  ⟨⟨⟨⟨⟨⟨q0.1, q1.1⟩, ⟨q2.1, q3.1⟩⟩, ⟨⟨q4.1, q5.1⟩, ⟨q6.1, q7.1⟩⟩⟩, ⟨⟨⟨q8.1, q9.1⟩, ⟨q10.1, q11.1⟩⟩, ⟨⟨q12.1, q13.1⟩, ⟨q14.1, q15.1⟩⟩⟩⟩, ⟨⟨⟨⟨q16.1, q17.1⟩, ⟨q18.1, q19.1⟩⟩, ⟨⟨q20.1, q21.1⟩, ⟨q22.1, q23.1⟩⟩⟩, ⟨⟨⟨q24.1, q25.1⟩, ⟨q26.1, q27.1⟩⟩, ⟨⟨q28.1, q29.1⟩, ⟨q30.1, q31.1⟩⟩⟩⟩⟩, q31.2⟩
theorem dX6_readVisit_60 : decode cX6_readVisit 60 = .ok (.istore_n 3, 1) := fp_hdX6_readVisit_60.1.1.1.1.1.1
theorem dX6_readVisit_61 : decode cX6_readVisit 61 = .ok (.aload_n 0, 1) := fp_hdX6_readVisit_60.1.1.1.1.1.2
theorem dX6_readVisit_62 : decode cX6_readVisit 62 = .ok (.iconst 0, 1) := fp_hdX6_readVisit_60.1.1.1.1.2.1
theorem dX6_readVisit_63 : decode cX6_readVisit 63 = .ok (.iconst 2, 1) := fp_hdX6_readVisit_60.1.1.1.1.2.2
theorem dX6_readVisit_64 : decode cX6_readVisit 64 = .ok (.invokevirtual 132, 3) := fp_hdX6_readVisit_60.1.1.1.2.1.1
theorem dX6_readVisit_67 : decode cX6_readVisit 67 = .ok (.ifCond .ne 5, 3) := fp_hdX6_readVisit_60.1.1.1.2.1.2
theorem dX6_readVisit_70 : decode cX6_readVisit 70 = .ok (.iconst 0, 1) := fp_hdX6_readVisit_60.1.1.1.2.2.1
theorem dX6_readVisit_71 : decode cX6_readVisit 71 = .ok (.ireturn, 1) := fp_hdX6_readVisit_60.1.1.1.2.2.2
theorem dX6_readVisit_72 : decode cX6_readVisit 72 = .ok (.aload_n 0, 1) := fp_hdX6_readVisit_60.1.1.2.1.1.1
theorem dX6_readVisit_73 : decode cX6_readVisit 73 = .ok (.getfield 86, 3) := fp_hdX6_readVisit_60.1.1.2.1.1.2
theorem dX6_readVisit_76 : decode cX6_readVisit 76 = .ok (.istore 4, 2) := fp_hdX6_readVisit_60.1.1.2.1.2.1
theorem dX6_readVisit_78 : decode cX6_readVisit 78 = .ok (.iload_n 1, 1) := fp_hdX6_readVisit_60.1.1.2.1.2.2
theorem dX6_readVisit_79 : decode cX6_readVisit 79 = .ok (.ifCond .eq 15, 3) := fp_hdX6_readVisit_60.1.1.2.2.1.1
theorem dX6_readVisit_82 : decode cX6_readVisit 82 = .ok (.aload_n 0, 1) := fp_hdX6_readVisit_60.1.1.2.2.1.2
theorem dX6_readVisit_83 : decode cX6_readVisit 83 = .ok (.iconst 0, 1) := fp_hdX6_readVisit_60.1.1.2.2.2.1
theorem dX6_readVisit_84 : decode cX6_readVisit 84 = .ok (.bipush 9, 2) := fp_hdX6_readVisit_60.1.1.2.2.2.2
theorem dX6_readVisit_86 : decode cX6_readVisit 86 = .ok (.invokevirtual 132, 3) := fp_hdX6_readVisit_60.1.2.1.1.1.1
theorem dX6_readVisit_89 : decode cX6_readVisit 89 = .ok (.ifCond .ne 5, 3) := fp_hdX6_readVisit_60.1.2.1.1.1.2
theorem dX6_readVisit_92 : decode cX6_readVisit 92 = .ok (.iconst 0, 1) := fp_hdX6_readVisit_60.1.2.1.1.2.1
theorem dX6_readVisit_93 : decode cX6_readVisit 93 = .ok (.ireturn, 1) := fp_hdX6_readVisit_60.1.2.1.1.2.2
theorem dX6_readVisit_94 : decode cX6_readVisit 94 = .ok (.aload_n 0, 1) := fp_hdX6_readVisit_60.1.2.1.2.1.1
theorem dX6_readVisit_95 : decode cX6_readVisit 95 = .ok (.getfield 28, 3) := fp_hdX6_readVisit_60.1.2.1.2.1.2
theorem dX6_readVisit_98 : decode cX6_readVisit 98 = .ok (.iload_n 2, 1) := fp_hdX6_readVisit_60.1.2.1.2.2.1
theorem dX6_readVisit_99 : decode cX6_readVisit 99 = .ok (.iload_n 3, 1) := fp_hdX6_readVisit_60.1.2.1.2.2.2
theorem dX6_readVisit_100 : decode cX6_readVisit 100 = .ok (.iload 4, 2) := fp_hdX6_readVisit_60.1.2.2.1.1.1
theorem dX6_readVisit_102 : decode cX6_readVisit 102 = .ok (.iload_n 1, 1) := fp_hdX6_readVisit_60.1.2.2.1.1.2
theorem dX6_readVisit_103 : decode cX6_readVisit 103 = .ok (.ifCond .eq 10, 3) := fp_hdX6_readVisit_60.1.2.2.1.2.1
theorem dX6_readVisit_106 : decode cX6_readVisit 106 = .ok (.aload_n 0, 1) := fp_hdX6_readVisit_60.1.2.2.1.2.2
theorem dX6_readVisit_107 : decode cX6_readVisit 107 = .ok (.getfield 86, 3) := fp_hdX6_readVisit_60.1.2.2.2.1.1
theorem dX6_readVisit_110 : decode cX6_readVisit 110 = .ok (.goto 5, 3) := fp_hdX6_readVisit_60.1.2.2.2.1.2
theorem dX6_readVisit_113 : decode cX6_readVisit 113 = .ok (.bipush (-4), 2) := fp_hdX6_readVisit_60.1.2.2.2.2.1
theorem dX6_readVisit_115 : decode cX6_readVisit 115 = .ok (.invokevirtual 173, 3) := fp_hdX6_readVisit_60.1.2.2.2.2.2
theorem fp_hdX6_readVisit_118 : ((decode cX6_readVisit 118 = .ok (.pop, 1) ∧ decode cX6_readVisit 119 = .ok (.aload_n 0, 1)) ∧ (decode cX6_readVisit 120 = .ok (.invokevirtual 145, 3) ∧ decode cX6_readVisit 123 = .ok (.ireturn, 1))) ∧ bA cX6_readVisit 124 [] :=
  have q0 := fp_o87 fp_hdX6_readVisit_60.2
  have q1 := fp_o42 q0.2
  have q2 := fp_o182 (v := 145) q1.2 rfl
  have q3 := fp_o172 q2.2
  ⟨⟨⟨q0.1, q1.1⟩, ⟨q2.1, q3.1⟩⟩, q3.2⟩
theorem dX6_readVisit_118 : decode cX6_readVisit 118 = .ok (.pop, 1) := fp_hdX6_readVisit_118.1.1.1
theorem dX6_readVisit_119 : decode cX6_readVisit 119 = .ok (.aload_n 0, 1) := fp_hdX6_readVisit_118.1.1.2
theorem dX6_readVisit_120 : decode cX6_readVisit 120 = .ok (.invokevirtual 145, 3) := fp_hdX6_readVisit_118.1.2.1
theorem dX6_readVisit_123 : decode cX6_readVisit 123 = .ok (.ireturn, 1) := fp_hdX6_readVisit_118.1.2.2
def fp_scX6_readChance_0 : List Nat := 42 :: 180 :: 0 :: 49 :: 153 :: 0 :: 13 :: 42 :: 7 :: 42 :: 180 :: 0 :: 76 :: 182 :: 0 :: 89 :: 172 :: 42 :: 4 :: 181 :: 0 :: 49 :: 42 :: 3 :: 16 :: 10 :: 182 :: 0 :: 132 :: 154 :: 0 :: 5 :: 3 :: 172 :: 42 :: 180 :: 0 :: 12 :: 42 :: 180 :: 0 :: 86 :: 181 :: 0 :: 177 :: 42 :: 182 :: 0 :: 145 :: 172 :: []
theorem fp_bcX6_readChance : bA cX6_readChance 0 fp_scX6_readChance_0 := show cX6_readChance.data.toList.map UInt8.toNat = fp_scX6_readChance_0 from by decide +kernel
theorem fp_hdX6_readChance_0 : (((((decode cX6_readChance 0 = .ok (.aload_n 0, 1) ∧ decode cX6_readChance 1 = .ok (.getfield 49, 3)) ∧ (decode cX6_readChance 4 = .ok (.ifCond .eq 13, 3) ∧ decode cX6_readChance 7 = .ok (.aload_n 0, 1))) ∧ ((decode cX6_readChance 8 = .ok (.iconst 4, 1) ∧ decode cX6_readChance 9 = .ok (.aload_n 0, 1)) ∧ decode cX6_readChance 10 = .ok (.getfield 76, 3))) ∧ (((decode cX6_readChance 13 = .ok (.invokevirtual 89, 3) ∧ decode cX6_readChance 16 = .ok (.ireturn, 1)) ∧ (decode cX6_readChance 17 = .ok (.aload_n 0, 1) ∧ decode cX6_readChance 18 = .ok (.iconst 1, 1))) ∧ ((decode cX6_readChance 19 = .ok (.putfield 49, 3) ∧ decode cX6_readChance 22 = .ok (.aload_n 0, 1)) ∧ decode cX6_readChance 23 = .ok (.iconst 0, 1)))) ∧ ((((decode cX6_readChance 24 = .ok (.bipush 10, 2) ∧ decode cX6_readChance 26 = .ok (.invokevirtual 132, 3)) ∧ (decode cX6_readChance 29 = .ok (.ifCond .ne 5, 3) ∧ decode cX6_readChance 32 = .ok (.iconst 0, 1))) ∧ ((decode cX6_readChance 33 = .ok (.ireturn, 1) ∧ decode cX6_readChance 34 = .ok (.aload_n 0, 1)) ∧ decode cX6_readChance 35 = .ok (.getfield 12, 3))) ∧ (((decode cX6_readChance 38 = .ok (.aload_n 0, 1) ∧ decode cX6_readChance 39 = .ok (.getfield 86, 3)) ∧ decode cX6_readChance 42 = .ok (.putfield 177, 3)) ∧ ((decode cX6_readChance 45 = .ok (.aload_n 0, 1) ∧ decode cX6_readChance 46 = .ok (.invokevirtual 145, 3)) ∧ decode cX6_readChance 49 = .ok (.ireturn, 1))))) ∧ bA cX6_readChance 50 [] :=
  have q0 := fp_o42 fp_bcX6_readChance
  have q1 := fp_o180 (v := 49) q0.2 rfl
  have q2 := fp_o153 (v := 13) q1.2 rfl
  have q3 := fp_o42 q2.2
  have q4 := fp_o7 q3.2
  have q5 := fp_o42 q4.2
  have q6 := fp_o180 (v := 76) q5.2 rfl
  have q7 := fp_o182 (v := 89) q6.2 rfl
  have q8 := fp_o172 q7.2
  have q9 := fp_o42 q8.2
  have q10 := fp_o4 q9.2
  have q11 := fp_o181 (v := 49) q10.2 rfl
  have q12 := fp_o42 q11.2
  have q13 := fp_o3 q12.2
  have q14 := fp_o16 (v := 10) q13.2 rfl
  have q15 := fp_o182 (v := 132) q14.2 rfl
  have q16 := fp_o154 (v := 5) q15.2 rfl
  have q17 := fp_o3 q16.2
  have q18 := fp_o172 q17.2
  have q19 := fp_o42 q18.2
  have q20 := fp_o180 (v := 12) q19.2 rfl
  have q21 := fp_o42 q20.2
  have q22 := fp_o180 (v := 86) q21.2 rfl
  have q23 := fp_o181 (v := 177) q22.2 rfl
  have q24 := fp_o42 q23.2
  have q25 := fp_o182 (v := 145) q24.2 rfl
  have q26 := fp_o172 q25.2
  ⟨⟨⟨⟨⟨⟨q0.1, q1.1⟩, ⟨q2.1, q3.1⟩⟩, ⟨⟨q4.1, q5.1⟩, q6.1⟩⟩, ⟨⟨⟨q7.1, q8.1⟩, ⟨q9.1, q10.1⟩⟩, ⟨⟨q11.1, q12.1⟩, q13.1⟩⟩⟩, ⟨⟨⟨⟨q14.1, q15.1⟩, ⟨q16.1, q17.1⟩⟩, ⟨⟨q18.1, q19.1⟩, q20.1⟩⟩, ⟨⟨⟨q21.1, q22.1⟩, q23.1⟩, ⟨⟨q24.1, q25.1⟩, q26.1⟩⟩⟩⟩, q26.2⟩
theorem dX6_readChance_0 : decode cX6_readChance 0 = .ok (.aload_n 0, 1) := fp_hdX6_readChance_0.1.1.1.1.1.1
theorem dX6_readChance_1 : decode cX6_readChance 1 = .ok (.getfield 49, 3) := fp_hdX6_readChance_0.1.1.1.1.1.2
theorem dX6_readChance_4 : decode cX6_readChance 4 = .ok (.ifCond .eq 13, 3) := fp_hdX6_readChance_0.1.1.1.1.2.1
theorem dX6_readChance_7 : decode cX6_readChance 7 = .ok (.aload_n 0, 1) := fp_hdX6_readChance_0.1.1.1.1.2.2
theorem dX6_readChance_8 : decode cX6_readChance 8 = .ok (.iconst 4, 1) := fp_hdX6_readChance_0.1.1.1.2.1.1
theorem dX6_readChance_9 : decode cX6_readChance 9 = .ok (.aload_n 0, 1) := fp_hdX6_readChance_0.1.1.1.2.1.2
theorem dX6_readChance_10 : decode cX6_readChance 10 = .ok (.getfield 76, 3) := fp_hdX6_readChance_0.1.1.1.2.2
theorem dX6_readChance_13 : decode cX6_readChance 13 = .ok (.invokevirtual 89, 3) := fp_hdX6_readChance_0.1.1.2.1.1.1
theorem dX6_readChance_16 : decode cX6_readChance 16 = .ok (.ireturn, 1) := fp_hdX6_readChance_0.1.1.2.1.1.2
theorem dX6_readChance_17 : decode cX6_readChance 17 = .ok (.aload_n 0, 1) := fp_hdX6_readChance_0.1.1.2.1.2.1
theorem dX6_readChance_18 : decode cX6_readChance 18 = .ok (.iconst 1, 1) := fp_hdX6_readChance_0.1.1.2.1.2.2
theorem dX6_readChance_19 : decode cX6_readChance 19 = .ok (.putfield 49, 3) := fp_hdX6_readChance_0.1.1.2.2.1.1
theorem dX6_readChance_22 : decode cX6_readChance 22 = .ok (.aload_n 0, 1) := fp_hdX6_readChance_0.1.1.2.2.1.2
theorem dX6_readChance_23 : decode cX6_readChance 23 = .ok (.iconst 0, 1) := fp_hdX6_readChance_0.1.1.2.2.2
theorem dX6_readChance_24 : decode cX6_readChance 24 = .ok (.bipush 10, 2) := fp_hdX6_readChance_0.1.2.1.1.1.1
theorem dX6_readChance_26 : decode cX6_readChance 26 = .ok (.invokevirtual 132, 3) := fp_hdX6_readChance_0.1.2.1.1.1.2
theorem dX6_readChance_29 : decode cX6_readChance 29 = .ok (.ifCond .ne 5, 3) := fp_hdX6_readChance_0.1.2.1.1.2.1
theorem dX6_readChance_32 : decode cX6_readChance 32 = .ok (.iconst 0, 1) := fp_hdX6_readChance_0.1.2.1.1.2.2
theorem dX6_readChance_33 : decode cX6_readChance 33 = .ok (.ireturn, 1) := fp_hdX6_readChance_0.1.2.1.2.1.1
theorem dX6_readChance_34 : decode cX6_readChance 34 = .ok (.aload_n 0, 1) := fp_hdX6_readChance_0.1.2.1.2.1.2
theorem dX6_readChance_35 : decode cX6_readChance 35 = .ok (.getfield 12, 3) := fp_hdX6_readChance_0.1.2.1.2.2
theorem dX6_readChance_38 : decode cX6_readChance 38 = .ok (.aload_n 0, 1) := fp_hdX6_readChance_0.1.2.2.1.1.1
theorem dX6_readChance_39 : decode cX6_readChance 39 = .ok (.getfield 86, 3) := fp_hdX6_readChance_0.1.2.2.1.1.2
theorem dX6_readChance_42 : decode cX6_readChance 42 = .ok (.putfield 177, 3) := fp_hdX6_readChance_0.1.2.2.1.2
theorem dX6_readChance_45 : decode cX6_readChance 45 = .ok (.aload_n 0, 1) := fp_hdX6_readChance_0.1.2.2.2.1.1
theorem dX6_readChance_46 : decode cX6_readChance 46 = .ok (.invokevirtual 145, 3) := fp_hdX6_readChance_0.1.2.2.2.1.2
theorem dX6_readChance_49 : decode cX6_readChance 49 = .ok (.ireturn, 1) := fp_hdX6_readChance_0.1.2.2.2.2
def fp_scX6_settle_2 : List Nat := 27 :: 46 :: 182 :: 0 :: 196 :: 154 :: 0 :: 14 :: 42 :: 16 :: 6 :: 42 :: 180 :: 0 :: 36 :: 182 :: 0 :: 89 :: 87 :: 132 :: 1 :: 1 :: 167 :: 255 :: 172 :: 177 :: []
def fp_scX6_settle_1 : List Nat := 3 :: 60 :: 27 :: 42 :: 180 :: 0 :: 28 :: 180 :: 0 :: 57 :: 162 :: 0 :: 79 :: 42 :: 180 :: 0 :: 28 :: 27 :: 182 :: 0 :: 184 :: 154 :: 0 :: 22 :: 42 :: 180 :: 0 :: 12 :: 42 :: 180 :: 0 :: 28 :: 180 :: 0 :: 187 :: 27 :: 46 :: 182 :: 0 :: 190 :: 153 :: 0 :: 7 :: 4 :: 167 :: 0 :: 4 :: 3 :: 61 :: 28 :: 153 :: 0 :: 22 :: 42 :: 180 :: 0 :: 12 :: 42 :: 180 :: 0 :: 28 :: 180 :: 0 :: 193 :: fp_scX6_settle_2
def fp_scX6_settle_0 : List Nat := 3 :: 60 :: 27 :: 42 :: 180 :: 0 :: 12 :: 180 :: 0 :: 154 :: 162 :: 0 :: 49 :: 3 :: 61 :: 28 :: 42 :: 180 :: 0 :: 21 :: 180 :: 0 :: 166 :: 27 :: 46 :: 162 :: 0 :: 28 :: 42 :: 42 :: 180 :: 0 :: 21 :: 180 :: 0 :: 168 :: 27 :: 16 :: 8 :: 104 :: 28 :: 96 :: 46 :: 27 :: 182 :: 0 :: 180 :: 132 :: 2 :: 1 :: 167 :: 255 :: 221 :: 132 :: 1 :: 1 :: 167 :: 255 :: 202 :: fp_scX6_settle_1
theorem fp_bcX6_settle : bA cX6_settle 0 fp_scX6_settle_0 := show cX6_settle.data.toList.map UInt8.toNat = fp_scX6_settle_0 from by decide +kernel
theorem fp_hdX6_settle_0 : (((((decode cX6_settle 0 = .ok (.iconst 0, 1) ∧ decode cX6_settle 1 = .ok (.istore_n 1, 1)) ∧ (decode cX6_settle 2 = .ok (.iload_n 1, 1) ∧ decode cX6_settle 3 = .ok (.aload_n 0, 1))) ∧ ((decode cX6_settle 4 = .ok (.getfield 12, 3) ∧ decode cX6_settle 7 = .ok (.getfield 154, 3)) ∧ (decode cX6_settle 10 = .ok (.if_icmp .ge 49, 3) ∧ decode cX6_settle 13 = .ok (.iconst 0, 1)))) ∧ (((decode cX6_settle 14 = .ok (.istore_n 2, 1) ∧ decode cX6_settle 15 = .ok (.iload_n 2, 1)) ∧ (decode cX6_settle 16 = .ok (.aload_n 0, 1) ∧ decode cX6_settle 17 = .ok (.getfield 21, 3))) ∧ ((decode cX6_settle 20 = .ok (.getfield 166, 3) ∧ decode cX6_settle 23 = .ok (.iload_n 1, 1)) ∧ (decode cX6_settle 24 = .ok (.iaload, 1) ∧ decode cX6_settle 25 = .ok (.if_icmp .ge 28, 3))))) ∧ ((((decode cX6_settle 28 = .ok (.aload_n 0, 1) ∧ decode cX6_settle 29 = .ok (.aload_n 0, 1)) ∧ (decode cX6_settle 30 = .ok (.getfield 21, 3) ∧ decode cX6_settle 33 = .ok (.getfield 168, 3))) ∧ ((decode cX6_settle 36 = .ok (.iload_n 1, 1) ∧ decode cX6_settle 37 = .ok (.bipush 8, 2)) ∧ (decode cX6_settle 39 = .ok (.imul, 1) ∧ decode cX6_settle 40 = .ok (.iload_n 2, 1)))) ∧ (((decode cX6_settle 41 = .ok (.iadd, 1) ∧ decode cX6_settle 42 = .ok (.iaload, 1)) ∧ (decode cX6_settle 43 = .ok (.iload_n 1, 1) ∧ decode cX6_settle 44 = .ok (.invokevirtual 180, 3))) ∧ ((decode cX6_settle 47 = .ok (.iinc 2 1, 3) ∧ decode cX6_settle 50 = .ok (.goto (-35), 3)) ∧ (decode cX6_settle 53 = .ok (.iinc 1 1, 3) ∧ decode cX6_settle 56 = .ok (.goto (-54), 3)))))) ∧ bA cX6_settle 59 fp_scX6_settle_1 :=
  have q0 := fp_o3 fp_bcX6_settle
  have q1 := fp_o60 q0.2
  have q2 := fp_o27 q1.2
  have q3 := fp_o42 q2.2
  have q4 := fp_o180 (v := 12) q3.2 rfl
  have q5 := fp_o180 (v := 154) q4.2 rfl
  have q6 := fp_o162 (v := 49) q5.2 rfl
  have q7 := fp_o3 q6.2
  have q8 := fp_o61 q7.2
  have q9 := fp_o28 q8.2
  have q10 := fp_o42 q9.2
  have q11 := fp_o180 (v := 21) q10.2 rfl
  have q12 := fp_o180 (v := 166) q11.2 rfl
  have q13 := fp_o27 q12.2
  have q14 := fp_o46 q13.2
  have q15 := fp_o162 (v := 28) q14.2 rfl
  have q16 := fp_o42 q15.2
  have q17 := fp_o42 q16.2
  have q18 := fp_o180 (v := 21) q17.2 rfl
  have q19 := fp_o180 (v := 168) q18.2 rfl
  have q20 := fp_o27 q19.2
  have q21 := fp_o16 (v := 8) q20.2 rfl
  have q22 := fp_o104 q21.2
  have q23 := fp_o28 q22.2
  have q24 := fp_o96 q23.2
  have q25 := fp_o46 q24.2
  have q26 := fp_o27 q25.2
  have q27 := fp_o182 (v := 180) q26.2 rfl
  have q28 := fp_o132 (v := 1) q27.2 rfl
  have q29 := fp_o167 (v := (-35)) q28.2 rfl
  have q30 := fp_o132 (v := 1) q29.2 rfl
  have q31 := fp_o167 (v := (-54)) q30.2 rfl
  ⟨⟨⟨⟨⟨⟨q0.1, q1.1⟩, ⟨q2.1, q3.1⟩⟩, ⟨⟨q4.1, q5.1⟩, ⟨q6.1, q7.1⟩⟩⟩, ⟨⟨⟨q8.1, q9.1⟩, ⟨q10.1, q11.1⟩⟩, ⟨⟨q12.1, q13.1⟩, ⟨q14.1, q15.1⟩⟩⟩⟩, ⟨⟨⟨⟨q16.1, q17.1⟩, ⟨q18.1, q19.1⟩⟩, ⟨⟨q20.1, q21.1⟩, ⟨q22.1, q23.1⟩⟩⟩, ⟨⟨⟨q24.1, q25.1⟩, ⟨q26.1, q27.1⟩⟩, ⟨⟨q28.1, q29.1⟩, ⟨q30.1, q31.1⟩⟩⟩⟩⟩, q31.2⟩
theorem dX6_settle_0 : decode cX6_settle 0 = .ok (.iconst 0, 1) := fp_hdX6_settle_0.1.1.1.1.1.1
theorem dX6_settle_1 : decode cX6_settle 1 = .ok (.istore_n 1, 1) := fp_hdX6_settle_0.1.1.1.1.1.2
theorem dX6_settle_2 : decode cX6_settle 2 = .ok (.iload_n 1, 1) := fp_hdX6_settle_0.1.1.1.1.2.1
theorem dX6_settle_3 : decode cX6_settle 3 = .ok (.aload_n 0, 1) := fp_hdX6_settle_0.1.1.1.1.2.2
theorem dX6_settle_4 : decode cX6_settle 4 = .ok (.getfield 12, 3) := fp_hdX6_settle_0.1.1.1.2.1.1
theorem dX6_settle_7 : decode cX6_settle 7 = .ok (.getfield 154, 3) := fp_hdX6_settle_0.1.1.1.2.1.2
theorem dX6_settle_10 : decode cX6_settle 10 = .ok (.if_icmp .ge 49, 3) := fp_hdX6_settle_0.1.1.1.2.2.1
theorem dX6_settle_13 : decode cX6_settle 13 = .ok (.iconst 0, 1) := fp_hdX6_settle_0.1.1.1.2.2.2
theorem dX6_settle_14 : decode cX6_settle 14 = .ok (.istore_n 2, 1) := fp_hdX6_settle_0.1.1.2.1.1.1
theorem dX6_settle_15 : decode cX6_settle 15 = .ok (.iload_n 2, 1) := fp_hdX6_settle_0.1.1.2.1.1.2
theorem dX6_settle_16 : decode cX6_settle 16 = .ok (.aload_n 0, 1) := fp_hdX6_settle_0.1.1.2.1.2.1
theorem dX6_settle_17 : decode cX6_settle 17 = .ok (.getfield 21, 3) := fp_hdX6_settle_0.1.1.2.1.2.2
theorem dX6_settle_20 : decode cX6_settle 20 = .ok (.getfield 166, 3) := fp_hdX6_settle_0.1.1.2.2.1.1
theorem dX6_settle_23 : decode cX6_settle 23 = .ok (.iload_n 1, 1) := fp_hdX6_settle_0.1.1.2.2.1.2
theorem dX6_settle_24 : decode cX6_settle 24 = .ok (.iaload, 1) := fp_hdX6_settle_0.1.1.2.2.2.1
theorem dX6_settle_25 : decode cX6_settle 25 = .ok (.if_icmp .ge 28, 3) := fp_hdX6_settle_0.1.1.2.2.2.2
theorem dX6_settle_28 : decode cX6_settle 28 = .ok (.aload_n 0, 1) := fp_hdX6_settle_0.1.2.1.1.1.1
theorem dX6_settle_29 : decode cX6_settle 29 = .ok (.aload_n 0, 1) := fp_hdX6_settle_0.1.2.1.1.1.2
theorem dX6_settle_30 : decode cX6_settle 30 = .ok (.getfield 21, 3) := fp_hdX6_settle_0.1.2.1.1.2.1
theorem dX6_settle_33 : decode cX6_settle 33 = .ok (.getfield 168, 3) := fp_hdX6_settle_0.1.2.1.1.2.2
theorem dX6_settle_36 : decode cX6_settle 36 = .ok (.iload_n 1, 1) := fp_hdX6_settle_0.1.2.1.2.1.1
theorem dX6_settle_37 : decode cX6_settle 37 = .ok (.bipush 8, 2) := fp_hdX6_settle_0.1.2.1.2.1.2
theorem dX6_settle_39 : decode cX6_settle 39 = .ok (.imul, 1) := fp_hdX6_settle_0.1.2.1.2.2.1
theorem dX6_settle_40 : decode cX6_settle 40 = .ok (.iload_n 2, 1) := fp_hdX6_settle_0.1.2.1.2.2.2
theorem dX6_settle_41 : decode cX6_settle 41 = .ok (.iadd, 1) := fp_hdX6_settle_0.1.2.2.1.1.1
theorem dX6_settle_42 : decode cX6_settle 42 = .ok (.iaload, 1) := fp_hdX6_settle_0.1.2.2.1.1.2
theorem dX6_settle_43 : decode cX6_settle 43 = .ok (.iload_n 1, 1) := fp_hdX6_settle_0.1.2.2.1.2.1
theorem dX6_settle_44 : decode cX6_settle 44 = .ok (.invokevirtual 180, 3) := fp_hdX6_settle_0.1.2.2.1.2.2
theorem dX6_settle_47 : decode cX6_settle 47 = .ok (.iinc 2 1, 3) := fp_hdX6_settle_0.1.2.2.2.1.1
theorem dX6_settle_50 : decode cX6_settle 50 = .ok (.goto (-35), 3) := fp_hdX6_settle_0.1.2.2.2.1.2
theorem dX6_settle_53 : decode cX6_settle 53 = .ok (.iinc 1 1, 3) := fp_hdX6_settle_0.1.2.2.2.2.1
theorem dX6_settle_56 : decode cX6_settle 56 = .ok (.goto (-54), 3) := fp_hdX6_settle_0.1.2.2.2.2.2
theorem fp_hdX6_settle_59 : (((((decode cX6_settle 59 = .ok (.iconst 0, 1) ∧ decode cX6_settle 60 = .ok (.istore_n 1, 1)) ∧ (decode cX6_settle 61 = .ok (.iload_n 1, 1) ∧ decode cX6_settle 62 = .ok (.aload_n 0, 1))) ∧ ((decode cX6_settle 63 = .ok (.getfield 28, 3) ∧ decode cX6_settle 66 = .ok (.getfield 57, 3)) ∧ (decode cX6_settle 69 = .ok (.if_icmp .ge 79, 3) ∧ decode cX6_settle 72 = .ok (.aload_n 0, 1)))) ∧ (((decode cX6_settle 73 = .ok (.getfield 28, 3) ∧ decode cX6_settle 76 = .ok (.iload_n 1, 1)) ∧ (decode cX6_settle 77 = .ok (.invokevirtual 184, 3) ∧ decode cX6_settle 80 = .ok (.ifCond .ne 22, 3))) ∧ ((decode cX6_settle 83 = .ok (.aload_n 0, 1) ∧ decode cX6_settle 84 = .ok (.getfield 12, 3)) ∧ (decode cX6_settle 87 = .ok (.aload_n 0, 1) ∧ decode cX6_settle 88 = .ok (.getfield 28, 3))))) ∧ ((((decode cX6_settle 91 = .ok (.getfield 187, 3) ∧ decode cX6_settle 94 = .ok (.iload_n 1, 1)) ∧ (decode cX6_settle 95 = .ok (.iaload, 1) ∧ decode cX6_settle 96 = .ok (.invokevirtual 190, 3))) ∧ ((decode cX6_settle 99 = .ok (.ifCond .eq 7, 3) ∧ decode cX6_settle 102 = .ok (.iconst 1, 1)) ∧ (decode cX6_settle 103 = .ok (.goto 4, 3) ∧ decode cX6_settle 106 = .ok (.iconst 0, 1)))) ∧ (((decode cX6_settle 107 = .ok (.istore_n 2, 1) ∧ decode cX6_settle 108 = .ok (.iload_n 2, 1)) ∧ (decode cX6_settle 109 = .ok (.ifCond .eq 22, 3) ∧ decode cX6_settle 112 = .ok (.aload_n 0, 1))) ∧ ((decode cX6_settle 113 = .ok (.getfield 12, 3) ∧ decode cX6_settle 116 = .ok (.aload_n 0, 1)) ∧ (decode cX6_settle 117 = .ok (.getfield 28, 3) ∧ decode cX6_settle 120 = .ok (.getfield 193, 3)))))) ∧ bA cX6_settle 123 fp_scX6_settle_2 :=
  have q0 := fp_o3 fp_hdX6_settle_0.2
  have q1 := fp_o60 q0.2
  have q2 := fp_o27 q1.2
  have q3 := fp_o42 q2.2
  have q4 := fp_o180 (v := 28) q3.2 rfl
  have q5 := fp_o180 (v := 57) q4.2 rfl
  have q6 := fp_o162 (v := 79) q5.2 rfl
  have q7 := fp_o42 q6.2
  have q8 := fp_o180 (v := 28) q7.2 rfl
  have q9 := fp_o27 q8.2
  have q10 := fp_o182 (v := 184) q9.2 rfl
  have q11 := fp_o154 (v := 22) q10.2 rfl
  have q12 := fp_o42 q11.2
  have q13 := fp_o180 (v := 12) q12.2 rfl
  have q14 := fp_o42 q13.2
  have q15 := fp_o180 (v := 28) q14.2 rfl
  have q16 := fp_o180 (v := 187) q15.2 rfl
  have q17 := fp_o27 q16.2
  have q18 := fp_o46 q17.2
  have q19 := fp_o182 (v := 190) q18.2 rfl
  have q20 := fp_o153 (v := 7) q19.2 rfl
  have q21 := fp_o4 q20.2
  have q22 := fp_o167 (v := 4) q21.2 rfl
  have q23 := fp_o3 q22.2
  have q24 := fp_o61 q23.2
  have q25 := fp_o28 q24.2
  have q26 := fp_o153 (v := 22) q25.2 rfl
  have q27 := fp_o42 q26.2
  have q28 := fp_o180 (v := 12) q27.2 rfl
  have q29 := fp_o42 q28.2
  have q30 := fp_o180 (v := 28) q29.2 rfl
  have q31 := fp_o180 (v := 193) q30.2 rfl
  ⟨⟨⟨⟨⟨⟨q0.1, q1.1⟩, ⟨q2.1, q3.1⟩⟩, ⟨⟨q4.1, q5.1⟩, ⟨q6.1, q7.1⟩⟩⟩, ⟨⟨⟨q8.1, q9.1⟩, ⟨q10.1, q11.1⟩⟩, ⟨⟨q12.1, q13.1⟩, ⟨q14.1, q15.1⟩⟩⟩⟩, ⟨⟨⟨⟨q16.1, q17.1⟩, ⟨q18.1, q19.1⟩⟩, ⟨⟨q20.1, q21.1⟩, ⟨q22.1, q23.1⟩⟩⟩, ⟨⟨⟨q24.1, q25.1⟩, ⟨q26.1, q27.1⟩⟩, ⟨⟨q28.1, q29.1⟩, ⟨q30.1, q31.1⟩⟩⟩⟩⟩, q31.2⟩
theorem dX6_settle_59 : decode cX6_settle 59 = .ok (.iconst 0, 1) := fp_hdX6_settle_59.1.1.1.1.1.1
theorem dX6_settle_60 : decode cX6_settle 60 = .ok (.istore_n 1, 1) := fp_hdX6_settle_59.1.1.1.1.1.2
theorem dX6_settle_61 : decode cX6_settle 61 = .ok (.iload_n 1, 1) := fp_hdX6_settle_59.1.1.1.1.2.1
theorem dX6_settle_62 : decode cX6_settle 62 = .ok (.aload_n 0, 1) := fp_hdX6_settle_59.1.1.1.1.2.2
theorem dX6_settle_63 : decode cX6_settle 63 = .ok (.getfield 28, 3) := fp_hdX6_settle_59.1.1.1.2.1.1
theorem dX6_settle_66 : decode cX6_settle 66 = .ok (.getfield 57, 3) := fp_hdX6_settle_59.1.1.1.2.1.2
theorem dX6_settle_69 : decode cX6_settle 69 = .ok (.if_icmp .ge 79, 3) := fp_hdX6_settle_59.1.1.1.2.2.1
theorem dX6_settle_72 : decode cX6_settle 72 = .ok (.aload_n 0, 1) := fp_hdX6_settle_59.1.1.1.2.2.2
theorem dX6_settle_73 : decode cX6_settle 73 = .ok (.getfield 28, 3) := fp_hdX6_settle_59.1.1.2.1.1.1
theorem dX6_settle_76 : decode cX6_settle 76 = .ok (.iload_n 1, 1) := fp_hdX6_settle_59.1.1.2.1.1.2
theorem dX6_settle_77 : decode cX6_settle 77 = .ok (.invokevirtual 184, 3) := fp_hdX6_settle_59.1.1.2.1.2.1
theorem dX6_settle_80 : decode cX6_settle 80 = .ok (.ifCond .ne 22, 3) := fp_hdX6_settle_59.1.1.2.1.2.2
theorem dX6_settle_83 : decode cX6_settle 83 = .ok (.aload_n 0, 1) := fp_hdX6_settle_59.1.1.2.2.1.1
theorem dX6_settle_84 : decode cX6_settle 84 = .ok (.getfield 12, 3) := fp_hdX6_settle_59.1.1.2.2.1.2
theorem dX6_settle_87 : decode cX6_settle 87 = .ok (.aload_n 0, 1) := fp_hdX6_settle_59.1.1.2.2.2.1
theorem dX6_settle_88 : decode cX6_settle 88 = .ok (.getfield 28, 3) := fp_hdX6_settle_59.1.1.2.2.2.2
theorem dX6_settle_91 : decode cX6_settle 91 = .ok (.getfield 187, 3) := fp_hdX6_settle_59.1.2.1.1.1.1
theorem dX6_settle_94 : decode cX6_settle 94 = .ok (.iload_n 1, 1) := fp_hdX6_settle_59.1.2.1.1.1.2
theorem dX6_settle_95 : decode cX6_settle 95 = .ok (.iaload, 1) := fp_hdX6_settle_59.1.2.1.1.2.1
theorem dX6_settle_96 : decode cX6_settle 96 = .ok (.invokevirtual 190, 3) := fp_hdX6_settle_59.1.2.1.1.2.2
theorem dX6_settle_99 : decode cX6_settle 99 = .ok (.ifCond .eq 7, 3) := fp_hdX6_settle_59.1.2.1.2.1.1
theorem dX6_settle_102 : decode cX6_settle 102 = .ok (.iconst 1, 1) := fp_hdX6_settle_59.1.2.1.2.1.2
theorem dX6_settle_103 : decode cX6_settle 103 = .ok (.goto 4, 3) := fp_hdX6_settle_59.1.2.1.2.2.1
theorem dX6_settle_106 : decode cX6_settle 106 = .ok (.iconst 0, 1) := fp_hdX6_settle_59.1.2.1.2.2.2
theorem dX6_settle_107 : decode cX6_settle 107 = .ok (.istore_n 2, 1) := fp_hdX6_settle_59.1.2.2.1.1.1
theorem dX6_settle_108 : decode cX6_settle 108 = .ok (.iload_n 2, 1) := fp_hdX6_settle_59.1.2.2.1.1.2
theorem dX6_settle_109 : decode cX6_settle 109 = .ok (.ifCond .eq 22, 3) := fp_hdX6_settle_59.1.2.2.1.2.1
theorem dX6_settle_112 : decode cX6_settle 112 = .ok (.aload_n 0, 1) := fp_hdX6_settle_59.1.2.2.1.2.2
theorem dX6_settle_113 : decode cX6_settle 113 = .ok (.getfield 12, 3) := fp_hdX6_settle_59.1.2.2.2.1.1
theorem dX6_settle_116 : decode cX6_settle 116 = .ok (.aload_n 0, 1) := fp_hdX6_settle_59.1.2.2.2.1.2
theorem dX6_settle_117 : decode cX6_settle 117 = .ok (.getfield 28, 3) := fp_hdX6_settle_59.1.2.2.2.2.1
theorem dX6_settle_120 : decode cX6_settle 120 = .ok (.getfield 193, 3) := fp_hdX6_settle_59.1.2.2.2.2.2
theorem fp_hdX6_settle_123 : ((((decode cX6_settle 123 = .ok (.iload_n 1, 1) ∧ decode cX6_settle 124 = .ok (.iaload, 1)) ∧ (decode cX6_settle 125 = .ok (.invokevirtual 196, 3) ∧ decode cX6_settle 128 = .ok (.ifCond .ne 14, 3))) ∧ ((decode cX6_settle 131 = .ok (.aload_n 0, 1) ∧ decode cX6_settle 132 = .ok (.bipush 6, 2)) ∧ decode cX6_settle 134 = .ok (.aload_n 0, 1))) ∧ (((decode cX6_settle 135 = .ok (.getfield 36, 3) ∧ decode cX6_settle 138 = .ok (.invokevirtual 89, 3)) ∧ decode cX6_settle 141 = .ok (.pop, 1)) ∧ ((decode cX6_settle 142 = .ok (.iinc 1 1, 3) ∧ decode cX6_settle 145 = .ok (.goto (-84), 3)) ∧ decode cX6_settle 148 = .ok (.return_, 1)))) ∧ bA cX6_settle 149 [] :=
  have q0 := fp_o27 fp_hdX6_settle_59.2
  have q1 := fp_o46 q0.2
  have q2 := fp_o182 (v := 196) q1.2 rfl
  have q3 := fp_o154 (v := 14) q2.2 rfl
  have q4 := fp_o42 q3.2
  have q5 := fp_o16 (v := 6) q4.2 rfl
  have q6 := fp_o42 q5.2
  have q7 := fp_o180 (v := 36) q6.2 rfl
  have q8 := fp_o182 (v := 89) q7.2 rfl
  have q9 := fp_o87 q8.2
  have q10 := fp_o132 (v := 1) q9.2 rfl
  have q11 := fp_o167 (v := (-84)) q10.2 rfl
  have q12 := fp_o177 q11.2
  ⟨⟨⟨⟨⟨q0.1, q1.1⟩, ⟨q2.1, q3.1⟩⟩, ⟨⟨q4.1, q5.1⟩, q6.1⟩⟩, ⟨⟨⟨q7.1, q8.1⟩, q9.1⟩, ⟨⟨q10.1, q11.1⟩, q12.1⟩⟩⟩, q12.2⟩
theorem dX6_settle_123 : decode cX6_settle 123 = .ok (.iload_n 1, 1) := fp_hdX6_settle_123.1.1.1.1.1
theorem dX6_settle_124 : decode cX6_settle 124 = .ok (.iaload, 1) := fp_hdX6_settle_123.1.1.1.1.2
theorem dX6_settle_125 : decode cX6_settle 125 = .ok (.invokevirtual 196, 3) := fp_hdX6_settle_123.1.1.1.2.1
theorem dX6_settle_128 : decode cX6_settle 128 = .ok (.ifCond .ne 14, 3) := fp_hdX6_settle_123.1.1.1.2.2
theorem dX6_settle_131 : decode cX6_settle 131 = .ok (.aload_n 0, 1) := fp_hdX6_settle_123.1.1.2.1.1
theorem dX6_settle_132 : decode cX6_settle 132 = .ok (.bipush 6, 2) := fp_hdX6_settle_123.1.1.2.1.2
theorem dX6_settle_134 : decode cX6_settle 134 = .ok (.aload_n 0, 1) := fp_hdX6_settle_123.1.1.2.2
theorem dX6_settle_135 : decode cX6_settle 135 = .ok (.getfield 36, 3) := fp_hdX6_settle_123.1.2.1.1.1
theorem dX6_settle_138 : decode cX6_settle 138 = .ok (.invokevirtual 89, 3) := fp_hdX6_settle_123.1.2.1.1.2
theorem dX6_settle_141 : decode cX6_settle 141 = .ok (.pop, 1) := fp_hdX6_settle_123.1.2.1.2
theorem dX6_settle_142 : decode cX6_settle 142 = .ok (.iinc 1 1, 3) := fp_hdX6_settle_123.1.2.2.1.1
theorem dX6_settle_145 : decode cX6_settle 145 = .ok (.goto (-84), 3) := fp_hdX6_settle_123.1.2.2.1.2
theorem dX6_settle_148 : decode cX6_settle 148 = .ok (.return_, 1) := fp_hdX6_settle_123.1.2.2.2
def fp_scX6_settleThing_0 : List Nat := 42 :: 180 :: 0 :: 12 :: 27 :: 182 :: 0 :: 190 :: 154 :: 0 :: 15 :: 42 :: 16 :: 6 :: 42 :: 180 :: 0 :: 36 :: 182 :: 0 :: 89 :: 87 :: 177 :: 42 :: 180 :: 0 :: 21 :: 180 :: 0 :: 199 :: 27 :: 42 :: 180 :: 0 :: 21 :: 180 :: 0 :: 135 :: 27 :: 46 :: 79 :: 42 :: 180 :: 0 :: 21 :: 180 :: 0 :: 135 :: 27 :: 16 :: 10 :: 28 :: 96 :: 79 :: 177 :: []
theorem fp_bcX6_settleThing : bA cX6_settleThing 0 fp_scX6_settleThing_0 := show cX6_settleThing.data.toList.map UInt8.toNat = fp_scX6_settleThing_0 from by decide +kernel
theorem fp_hdX6_settleThing_0 : (((((decode cX6_settleThing 0 = .ok (.aload_n 0, 1) ∧ decode cX6_settleThing 1 = .ok (.getfield 12, 3)) ∧ (decode cX6_settleThing 4 = .ok (.iload_n 1, 1) ∧ decode cX6_settleThing 5 = .ok (.invokevirtual 190, 3))) ∧ ((decode cX6_settleThing 8 = .ok (.ifCond .ne 15, 3) ∧ decode cX6_settleThing 11 = .ok (.aload_n 0, 1)) ∧ (decode cX6_settleThing 12 = .ok (.bipush 6, 2) ∧ decode cX6_settleThing 14 = .ok (.aload_n 0, 1)))) ∧ (((decode cX6_settleThing 15 = .ok (.getfield 36, 3) ∧ decode cX6_settleThing 18 = .ok (.invokevirtual 89, 3)) ∧ (decode cX6_settleThing 21 = .ok (.pop, 1) ∧ decode cX6_settleThing 22 = .ok (.return_, 1))) ∧ ((decode cX6_settleThing 23 = .ok (.aload_n 0, 1) ∧ decode cX6_settleThing 24 = .ok (.getfield 21, 3)) ∧ (decode cX6_settleThing 27 = .ok (.getfield 199, 3) ∧ decode cX6_settleThing 30 = .ok (.iload_n 1, 1))))) ∧ ((((decode cX6_settleThing 31 = .ok (.aload_n 0, 1) ∧ decode cX6_settleThing 32 = .ok (.getfield 21, 3)) ∧ (decode cX6_settleThing 35 = .ok (.getfield 135, 3) ∧ decode cX6_settleThing 38 = .ok (.iload_n 1, 1))) ∧ ((decode cX6_settleThing 39 = .ok (.iaload, 1) ∧ decode cX6_settleThing 40 = .ok (.iastore, 1)) ∧ (decode cX6_settleThing 41 = .ok (.aload_n 0, 1) ∧ decode cX6_settleThing 42 = .ok (.getfield 21, 3)))) ∧ (((decode cX6_settleThing 45 = .ok (.getfield 135, 3) ∧ decode cX6_settleThing 48 = .ok (.iload_n 1, 1)) ∧ (decode cX6_settleThing 49 = .ok (.bipush 10, 2) ∧ decode cX6_settleThing 51 = .ok (.iload_n 2, 1))) ∧ ((decode cX6_settleThing 52 = .ok (.iadd, 1) ∧ decode cX6_settleThing 53 = .ok (.iastore, 1)) ∧ decode cX6_settleThing 54 = .ok (.return_, 1))))) ∧ bA cX6_settleThing 55 [] :=
  have q0 := fp_o42 fp_bcX6_settleThing
  have q1 := fp_o180 (v := 12) q0.2 rfl
  have q2 := fp_o27 q1.2
  have q3 := fp_o182 (v := 190) q2.2 rfl
  have q4 := fp_o154 (v := 15) q3.2 rfl
  have q5 := fp_o42 q4.2
  have q6 := fp_o16 (v := 6) q5.2 rfl
  have q7 := fp_o42 q6.2
  have q8 := fp_o180 (v := 36) q7.2 rfl
  have q9 := fp_o182 (v := 89) q8.2 rfl
  have q10 := fp_o87 q9.2
  have q11 := fp_o177 q10.2
  have q12 := fp_o42 q11.2
  have q13 := fp_o180 (v := 21) q12.2 rfl
  have q14 := fp_o180 (v := 199) q13.2 rfl
  have q15 := fp_o27 q14.2
  have q16 := fp_o42 q15.2
  have q17 := fp_o180 (v := 21) q16.2 rfl
  have q18 := fp_o180 (v := 135) q17.2 rfl
  have q19 := fp_o27 q18.2
  have q20 := fp_o46 q19.2
  have q21 := fp_o79 q20.2
  have q22 := fp_o42 q21.2
  have q23 := fp_o180 (v := 21) q22.2 rfl
  have q24 := fp_o180 (v := 135) q23.2 rfl
  have q25 := fp_o27 q24.2
  have q26 := fp_o16 (v := 10) q25.2 rfl
  have q27 := fp_o28 q26.2
  have q28 := fp_o96 q27.2
  have q29 := fp_o79 q28.2
  have q30 := fp_o177 q29.2
  ⟨⟨⟨⟨⟨⟨q0.1, q1.1⟩, ⟨q2.1, q3.1⟩⟩, ⟨⟨q4.1, q5.1⟩, ⟨q6.1, q7.1⟩⟩⟩, ⟨⟨⟨q8.1, q9.1⟩, ⟨q10.1, q11.1⟩⟩, ⟨⟨q12.1, q13.1⟩, ⟨q14.1, q15.1⟩⟩⟩⟩, ⟨⟨⟨⟨q16.1, q17.1⟩, ⟨q18.1, q19.1⟩⟩, ⟨⟨q20.1, q21.1⟩, ⟨q22.1, q23.1⟩⟩⟩, ⟨⟨⟨q24.1, q25.1⟩, ⟨q26.1, q27.1⟩⟩, ⟨⟨q28.1, q29.1⟩, q30.1⟩⟩⟩⟩, q30.2⟩
theorem dX6_settleThing_0 : decode cX6_settleThing 0 = .ok (.aload_n 0, 1) := fp_hdX6_settleThing_0.1.1.1.1.1.1
theorem dX6_settleThing_1 : decode cX6_settleThing 1 = .ok (.getfield 12, 3) := fp_hdX6_settleThing_0.1.1.1.1.1.2
theorem dX6_settleThing_4 : decode cX6_settleThing 4 = .ok (.iload_n 1, 1) := fp_hdX6_settleThing_0.1.1.1.1.2.1
theorem dX6_settleThing_5 : decode cX6_settleThing 5 = .ok (.invokevirtual 190, 3) := fp_hdX6_settleThing_0.1.1.1.1.2.2
theorem dX6_settleThing_8 : decode cX6_settleThing 8 = .ok (.ifCond .ne 15, 3) := fp_hdX6_settleThing_0.1.1.1.2.1.1
theorem dX6_settleThing_11 : decode cX6_settleThing 11 = .ok (.aload_n 0, 1) := fp_hdX6_settleThing_0.1.1.1.2.1.2
theorem dX6_settleThing_12 : decode cX6_settleThing 12 = .ok (.bipush 6, 2) := fp_hdX6_settleThing_0.1.1.1.2.2.1
theorem dX6_settleThing_14 : decode cX6_settleThing 14 = .ok (.aload_n 0, 1) := fp_hdX6_settleThing_0.1.1.1.2.2.2
theorem dX6_settleThing_15 : decode cX6_settleThing 15 = .ok (.getfield 36, 3) := fp_hdX6_settleThing_0.1.1.2.1.1.1
theorem dX6_settleThing_18 : decode cX6_settleThing 18 = .ok (.invokevirtual 89, 3) := fp_hdX6_settleThing_0.1.1.2.1.1.2
theorem dX6_settleThing_21 : decode cX6_settleThing 21 = .ok (.pop, 1) := fp_hdX6_settleThing_0.1.1.2.1.2.1
theorem dX6_settleThing_22 : decode cX6_settleThing 22 = .ok (.return_, 1) := fp_hdX6_settleThing_0.1.1.2.1.2.2
theorem dX6_settleThing_23 : decode cX6_settleThing 23 = .ok (.aload_n 0, 1) := fp_hdX6_settleThing_0.1.1.2.2.1.1
theorem dX6_settleThing_24 : decode cX6_settleThing 24 = .ok (.getfield 21, 3) := fp_hdX6_settleThing_0.1.1.2.2.1.2
theorem dX6_settleThing_27 : decode cX6_settleThing 27 = .ok (.getfield 199, 3) := fp_hdX6_settleThing_0.1.1.2.2.2.1
theorem dX6_settleThing_30 : decode cX6_settleThing 30 = .ok (.iload_n 1, 1) := fp_hdX6_settleThing_0.1.1.2.2.2.2
theorem dX6_settleThing_31 : decode cX6_settleThing 31 = .ok (.aload_n 0, 1) := fp_hdX6_settleThing_0.1.2.1.1.1.1
theorem dX6_settleThing_32 : decode cX6_settleThing 32 = .ok (.getfield 21, 3) := fp_hdX6_settleThing_0.1.2.1.1.1.2
theorem dX6_settleThing_35 : decode cX6_settleThing 35 = .ok (.getfield 135, 3) := fp_hdX6_settleThing_0.1.2.1.1.2.1
theorem dX6_settleThing_38 : decode cX6_settleThing 38 = .ok (.iload_n 1, 1) := fp_hdX6_settleThing_0.1.2.1.1.2.2
theorem dX6_settleThing_39 : decode cX6_settleThing 39 = .ok (.iaload, 1) := fp_hdX6_settleThing_0.1.2.1.2.1.1
theorem dX6_settleThing_40 : decode cX6_settleThing 40 = .ok (.iastore, 1) := fp_hdX6_settleThing_0.1.2.1.2.1.2
theorem dX6_settleThing_41 : decode cX6_settleThing 41 = .ok (.aload_n 0, 1) := fp_hdX6_settleThing_0.1.2.1.2.2.1
theorem dX6_settleThing_42 : decode cX6_settleThing 42 = .ok (.getfield 21, 3) := fp_hdX6_settleThing_0.1.2.1.2.2.2
theorem dX6_settleThing_45 : decode cX6_settleThing 45 = .ok (.getfield 135, 3) := fp_hdX6_settleThing_0.1.2.2.1.1.1
theorem dX6_settleThing_48 : decode cX6_settleThing 48 = .ok (.iload_n 1, 1) := fp_hdX6_settleThing_0.1.2.2.1.1.2
theorem dX6_settleThing_49 : decode cX6_settleThing 49 = .ok (.bipush 10, 2) := fp_hdX6_settleThing_0.1.2.2.1.2.1
theorem dX6_settleThing_51 : decode cX6_settleThing 51 = .ok (.iload_n 2, 1) := fp_hdX6_settleThing_0.1.2.2.1.2.2
theorem dX6_settleThing_52 : decode cX6_settleThing 52 = .ok (.iadd, 1) := fp_hdX6_settleThing_0.1.2.2.2.1.1
theorem dX6_settleThing_53 : decode cX6_settleThing 53 = .ok (.iastore, 1) := fp_hdX6_settleThing_0.1.2.2.2.1.2
theorem dX6_settleThing_54 : decode cX6_settleThing 54 = .ok (.return_, 1) := fp_hdX6_settleThing_0.1.2.2.2.2
