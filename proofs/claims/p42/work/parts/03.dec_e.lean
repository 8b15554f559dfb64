theorem fp_hdX12_runs_33 : ((((fp_dq cX12_runs 33 (.iconst 1, 1) = true ∧ fp_dq cX12_runs 34 (.iload_n 3, 1) = true) ∧ fp_dq cX12_runs 35 (.ishl, 1) = true) ∧ (fp_dq cX12_runs 36 (.ior, 1) = true ∧ fp_dq cX12_runs 37 (.istore_n 2, 1) = true)) ∧ ((fp_dq cX12_runs 38 (.iinc 3 1, 3) = true ∧ fp_dq cX12_runs 41 (.goto (-29), 3) = true) ∧ (fp_dq cX12_runs 44 (.iload_n 2, 1) = true ∧ fp_dq cX12_runs 45 (.ireturn, 1) = true))) := by decide +kernel
theorem dX12_runs_33 : decode cX12_runs 33 = .ok (.iconst 1, 1) := fp_dk fp_hdX12_runs_33.1.1.1.1
theorem dX12_runs_34 : decode cX12_runs 34 = .ok (.iload_n 3, 1) := fp_dk fp_hdX12_runs_33.1.1.1.2
theorem dX12_runs_35 : decode cX12_runs 35 = .ok (.ishl, 1) := fp_dk fp_hdX12_runs_33.1.1.2
theorem dX12_runs_36 : decode cX12_runs 36 = .ok (.ior, 1) := fp_dk fp_hdX12_runs_33.1.2.1
theorem dX12_runs_37 : decode cX12_runs 37 = .ok (.istore_n 2, 1) := fp_dk fp_hdX12_runs_33.1.2.2
theorem dX12_runs_38 : decode cX12_runs 38 = .ok (.iinc 3 1, 3) := fp_dk fp_hdX12_runs_33.2.1.1
theorem dX12_runs_41 : decode cX12_runs 41 = .ok (.goto (-29), 3) := fp_dk fp_hdX12_runs_33.2.1.2
theorem dX12_runs_44 : decode cX12_runs 44 = .ok (.iload_n 2, 1) := fp_dk fp_hdX12_runs_33.2.2.1
theorem dX12_runs_45 : decode cX12_runs 45 = .ok (.ireturn, 1) := fp_dk fp_hdX12_runs_33.2.2.2
def fp_scX12_after_0 : List Nat := 27 :: 133 :: 9 :: 42 :: 182 :: 0 :: 225 :: 133 :: 184 :: 0 :: 94 :: 153 :: 0 :: 11 :: 42 :: 28 :: 182 :: 0 :: 205 :: 154 :: 0 :: 5 :: 2 :: 172 :: 42 :: 27 :: 182 :: 1 :: 12 :: 87 :: 42 :: 180 :: 0 :: 7 :: 17 :: 1 :: 104 :: 28 :: 96 :: 46 :: 172 :: []
theorem fp_bcX12_after : bA cX12_after 0 fp_scX12_after_0 := show cX12_after.data.toList.map UInt8.toNat = fp_scX12_after_0 from by decide +kernel
theorem fp_hdX12_after_0 : (((((decode cX12_after 0 = .ok (.iload_n 1, 1) ∧ decode cX12_after 1 = .ok (.i2l, 1)) ∧ (decode cX12_after 2 = .ok (.lconst 0, 1) ∧ decode cX12_after 3 = .ok (.aload_n 0, 1))) ∧ ((decode cX12_after 4 = .ok (.invokevirtual 225, 3) ∧ decode cX12_after 7 = .ok (.i2l, 1)) ∧ decode cX12_after 8 = .ok (.invokestatic 94, 3))) ∧ (((decode cX12_after 11 = .ok (.ifCond .eq 11, 3) ∧ decode cX12_after 14 = .ok (.aload_n 0, 1)) ∧ decode cX12_after 15 = .ok (.iload_n 2, 1)) ∧ ((decode cX12_after 16 = .ok (.invokevirtual 205, 3) ∧ decode cX12_after 19 = .ok (.ifCond .ne 5, 3)) ∧ decode cX12_after 22 = .ok (.iconst (-1), 1)))) ∧ ((((decode cX12_after 23 = .ok (.ireturn, 1) ∧ decode cX12_after 24 = .ok (.aload_n 0, 1)) ∧ decode cX12_after 25 = .ok (.iload_n 1, 1)) ∧ ((decode cX12_after 26 = .ok (.invokevirtual 268, 3) ∧ decode cX12_after 29 = .ok (.pop, 1)) ∧ decode cX12_after 30 = .ok (.aload_n 0, 1))) ∧ (((decode cX12_after 31 = .ok (.getfield 7, 3) ∧ decode cX12_after 34 = .ok (.sipush 360, 3)) ∧ decode cX12_after 37 = .ok (.iload_n 2, 1)) ∧ ((decode cX12_after 38 = .ok (.iadd, 1) ∧ decode cX12_after 39 = .ok (.iaload, 1)) ∧ decode cX12_after 40 = .ok (.ireturn, 1))))) ∧ bA cX12_after 41 [] :=
  have q0 := fp_o27 fp_bcX12_after
  have q1 := fp_o133 q0.2
  have q2 := fp_o9 q1.2
  have q3 := fp_o42 q2.2
  have q4 := fp_o182 (v := 225) q3.2 rfl
  have q5 := fp_o133 q4.2
  have q6 := fp_o184 (v := 94) q5.2 rfl
  have q7 := fp_o153 (v := 11) q6.2 rfl
  have q8 := fp_o42 q7.2
  have q9 := fp_o28 q8.2
  have q10 := fp_o182 (v := 205) q9.2 rfl
  have q11 := fp_o154 (v := 5) q10.2 rfl
  have q12 := fp_o2 q11.2
  have q13 := fp_o172 q12.2
  have q14 := fp_o42 q13.2
  have q15 := fp_o27 q14.2
  have q16 := fp_o182 (v := 268) q15.2 rfl
  have q17 := fp_o87 q16.2
  have q18 := fp_o42 q17.2
  have q19 := fp_o180 (v := 7) q18.2 rfl
  have q20 := fp_o17 (v := 360) q19.2 rfl
  have q21 := fp_o28 q20.2
  have q22 := fp_o96 q21.2
  have q23 := fp_o46 q22.2
  have q24 := fp_o172 q23.2
  ⟨⟨⟨⟨⟨⟨q0.1, q1.1⟩, ⟨q2.1, q3.1⟩⟩, ⟨⟨q4.1, q5.1⟩, q6.1⟩⟩, ⟨⟨⟨q7.1, q8.1⟩, q9.1⟩, ⟨⟨q10.1, q11.1⟩, q12.1⟩⟩⟩, ⟨⟨⟨⟨q13.1, q14.1⟩, q15.1⟩, ⟨⟨q16.1, q17.1⟩, q18.1⟩⟩, ⟨⟨⟨q19.1, q20.1⟩, q21.1⟩, ⟨⟨q22.1, q23.1⟩, q24.1⟩⟩⟩⟩, q24.2⟩
theorem dX12_after_0 : decode cX12_after 0 = .ok (.iload_n 1, 1) := fp_hdX12_after_0.1.1.1.1.1.1
theorem dX12_after_1 : decode cX12_after 1 = .ok (.i2l, 1) := fp_hdX12_after_0.1.1.1.1.1.2
theorem dX12_after_2 : decode cX12_after 2 = .ok (.lconst 0, 1) := fp_hdX12_after_0.1.1.1.1.2.1
theorem dX12_after_3 : decode cX12_after 3 = .ok (.aload_n 0, 1) := fp_hdX12_after_0.1.1.1.1.2.2
theorem dX12_after_4 : decode cX12_after 4 = .ok (.invokevirtual 225, 3) := fp_hdX12_after_0.1.1.1.2.1.1
theorem dX12_after_7 : decode cX12_after 7 = .ok (.i2l, 1) := fp_hdX12_after_0.1.1.1.2.1.2
theorem dX12_after_8 : decode cX12_after 8 = .ok (.invokestatic 94, 3) := fp_hdX12_after_0.1.1.1.2.2
theorem dX12_after_11 : decode cX12_after 11 = .ok (.ifCond .eq 11, 3) := fp_hdX12_after_0.1.1.2.1.1.1
theorem dX12_after_14 : decode cX12_after 14 = .ok (.aload_n 0, 1) := fp_hdX12_after_0.1.1.2.1.1.2
theorem dX12_after_15 : decode cX12_after 15 = .ok (.iload_n 2, 1) := fp_hdX12_after_0.1.1.2.1.2
theorem dX12_after_16 : decode cX12_after 16 = .ok (.invokevirtual 205, 3) := fp_hdX12_after_0.1.1.2.2.1.1
theorem dX12_after_19 : decode cX12_after 19 = .ok (.ifCond .ne 5, 3) := fp_hdX12_after_0.1.1.2.2.1.2
theorem dX12_after_22 : decode cX12_after 22 = .ok (.iconst (-1), 1) := fp_hdX12_after_0.1.1.2.2.2
theorem dX12_after_23 : decode cX12_after 23 = .ok (.ireturn, 1) := fp_hdX12_after_0.1.2.1.1.1.1
theorem dX12_after_24 : decode cX12_after 24 = .ok (.aload_n 0, 1) := fp_hdX12_after_0.1.2.1.1.1.2
theorem dX12_after_25 : decode cX12_after 25 = .ok (.iload_n 1, 1) := fp_hdX12_after_0.1.2.1.1.2
theorem dX12_after_26 : decode cX12_after 26 = .ok (.invokevirtual 268, 3) := fp_hdX12_after_0.1.2.1.2.1.1
theorem dX12_after_29 : decode cX12_after 29 = .ok (.pop, 1) := fp_hdX12_after_0.1.2.1.2.1.2
theorem dX12_after_30 : decode cX12_after 30 = .ok (.aload_n 0, 1) := fp_hdX12_after_0.1.2.1.2.2
theorem dX12_after_31 : decode cX12_after 31 = .ok (.getfield 7, 3) := fp_hdX12_after_0.1.2.2.1.1.1
theorem dX12_after_34 : decode cX12_after 34 = .ok (.sipush 360, 3) := fp_hdX12_after_0.1.2.2.1.1.2
theorem dX12_after_37 : decode cX12_after 37 = .ok (.iload_n 2, 1) := fp_hdX12_after_0.1.2.2.1.2
theorem dX12_after_38 : decode cX12_after 38 = .ok (.iadd, 1) := fp_hdX12_after_0.1.2.2.2.1.1
theorem dX12_after_39 : decode cX12_after 39 = .ok (.iaload, 1) := fp_hdX12_after_0.1.2.2.2.1.2
theorem dX12_after_40 : decode cX12_after 40 = .ok (.ireturn, 1) := fp_hdX12_after_0.1.2.2.2.2
def fp_scX12_gains_0 : List Nat := 27 :: 133 :: 9 :: 42 :: 182 :: 0 :: 225 :: 133 :: 184 :: 0 :: 94 :: 153 :: 0 :: 10 :: 28 :: 184 :: 0 :: 228 :: 154 :: 0 :: 5 :: 2 :: 172 :: 42 :: 27 :: 182 :: 1 :: 12 :: 87 :: 42 :: 17 :: 1 :: 104 :: 28 :: 182 :: 0 :: 234 :: 172 :: []
theorem fp_bcX12_gains : bA cX12_gains 0 fp_scX12_gains_0 := show cX12_gains.data.toList.map UInt8.toNat = fp_scX12_gains_0 from by decide +kernel
theorem fp_hdX12_gains_0 : (((((decode cX12_gains 0 = .ok (.iload_n 1, 1) ∧ decode cX12_gains 1 = .ok (.i2l, 1)) ∧ decode cX12_gains 2 = .ok (.lconst 0, 1)) ∧ ((decode cX12_gains 3 = .ok (.aload_n 0, 1) ∧ decode cX12_gains 4 = .ok (.invokevirtual 225, 3)) ∧ decode cX12_gains 7 = .ok (.i2l, 1))) ∧ (((decode cX12_gains 8 = .ok (.invokestatic 94, 3) ∧ decode cX12_gains 11 = .ok (.ifCond .eq 10, 3)) ∧ decode cX12_gains 14 = .ok (.iload_n 2, 1)) ∧ (decode cX12_gains 15 = .ok (.invokestatic 228, 3) ∧ decode cX12_gains 18 = .ok (.ifCond .ne 5, 3)))) ∧ ((((decode cX12_gains 21 = .ok (.iconst (-1), 1) ∧ decode cX12_gains 22 = .ok (.ireturn, 1)) ∧ decode cX12_gains 23 = .ok (.aload_n 0, 1)) ∧ ((decode cX12_gains 24 = .ok (.iload_n 1, 1) ∧ decode cX12_gains 25 = .ok (.invokevirtual 268, 3)) ∧ decode cX12_gains 28 = .ok (.pop, 1))) ∧ (((decode cX12_gains 29 = .ok (.aload_n 0, 1) ∧ decode cX12_gains 30 = .ok (.sipush 360, 3)) ∧ decode cX12_gains 33 = .ok (.iload_n 2, 1)) ∧ (decode cX12_gains 34 = .ok (.invokevirtual 234, 3) ∧ decode cX12_gains 37 = .ok (.ireturn, 1))))) ∧ bA cX12_gains 38 [] :=
  have q0 := fp_o27 fp_bcX12_gains
  have q1 := fp_o133 q0.2
  have q2 := fp_o9 q1.2
  have q3 := fp_o42 q2.2
  have q4 := fp_o182 (v := 225) q3.2 rfl
  have q5 := fp_o133 q4.2
  have q6 := fp_o184 (v := 94) q5.2 rfl
  have q7 := fp_o153 (v := 10) q6.2 rfl
  have q8 := fp_o28 q7.2
  have q9 := fp_o184 (v := 228) q8.2 rfl
  have q10 := fp_o154 (v := 5) q9.2 rfl
  have q11 := fp_o2 q10.2
  have q12 := fp_o172 q11.2
  have q13 := fp_o42 q12.2
  have q14 := fp_o27 q13.2
  have q15 := fp_o182 (v := 268) q14.2 rfl
  have q16 := fp_o87 q15.2
  have q17 := fp_o42 q16.2
  have q18 := fp_o17 (v := 360) q17.2 rfl
  have q19 := fp_o28 q18.2
  have q20 := fp_o182 (v := 234) q19.2 rfl
  have q21 := fp_o172 q20.2
  ⟨⟨⟨⟨⟨⟨q0.1, q1.1⟩, q2.1⟩, ⟨⟨q3.1, q4.1⟩, q5.1⟩⟩, ⟨⟨⟨q6.1, q7.1⟩, q8.1⟩, ⟨q9.1, q10.1⟩⟩⟩, ⟨⟨⟨⟨q11.1, q12.1⟩, q13.1⟩, ⟨⟨q14.1, q15.1⟩, q16.1⟩⟩, ⟨⟨⟨q17.1, q18.1⟩, q19.1⟩, ⟨q20.1, q21.1⟩⟩⟩⟩, q21.2⟩
theorem dX12_gains_0 : decode cX12_gains 0 = .ok (.iload_n 1, 1) := fp_hdX12_gains_0.1.1.1.1.1.1
theorem dX12_gains_1 : decode cX12_gains 1 = .ok (.i2l, 1) := fp_hdX12_gains_0.1.1.1.1.1.2
theorem dX12_gains_2 : decode cX12_gains 2 = .ok (.lconst 0, 1) := fp_hdX12_gains_0.1.1.1.1.2
theorem dX12_gains_3 : decode cX12_gains 3 = .ok (.aload_n 0, 1) := fp_hdX12_gains_0.1.1.1.2.1.1
theorem dX12_gains_4 : decode cX12_gains 4 = .ok (.invokevirtual 225, 3) := fp_hdX12_gains_0.1.1.1.2.1.2
theorem dX12_gains_7 : decode cX12_gains 7 = .ok (.i2l, 1) := fp_hdX12_gains_0.1.1.1.2.2
theorem dX12_gains_8 : decode cX12_gains 8 = .ok (.invokestatic 94, 3) := fp_hdX12_gains_0.1.1.2.1.1.1
theorem dX12_gains_11 : decode cX12_gains 11 = .ok (.ifCond .eq 10, 3) := fp_hdX12_gains_0.1.1.2.1.1.2
theorem dX12_gains_14 : decode cX12_gains 14 = .ok (.iload_n 2, 1) := fp_hdX12_gains_0.1.1.2.1.2
theorem dX12_gains_15 : decode cX12_gains 15 = .ok (.invokestatic 228, 3) := fp_hdX12_gains_0.1.1.2.2.1
theorem dX12_gains_18 : decode cX12_gains 18 = .ok (.ifCond .ne 5, 3) := fp_hdX12_gains_0.1.1.2.2.2
theorem dX12_gains_21 : decode cX12_gains 21 = .ok (.iconst (-1), 1) := fp_hdX12_gains_0.1.2.1.1.1.1
theorem dX12_gains_22 : decode cX12_gains 22 = .ok (.ireturn, 1) := fp_hdX12_gains_0.1.2.1.1.1.2
theorem dX12_gains_23 : decode cX12_gains 23 = .ok (.aload_n 0, 1) := fp_hdX12_gains_0.1.2.1.1.2
theorem dX12_gains_24 : decode cX12_gains 24 = .ok (.iload_n 1, 1) := fp_hdX12_gains_0.1.2.1.2.1.1
theorem dX12_gains_25 : decode cX12_gains 25 = .ok (.invokevirtual 268, 3) := fp_hdX12_gains_0.1.2.1.2.1.2
theorem dX12_gains_28 : decode cX12_gains 28 = .ok (.pop, 1) := fp_hdX12_gains_0.1.2.1.2.2
theorem dX12_gains_29 : decode cX12_gains 29 = .ok (.aload_n 0, 1) := fp_hdX12_gains_0.1.2.2.1.1.1
theorem dX12_gains_30 : decode cX12_gains 30 = .ok (.sipush 360, 3) := fp_hdX12_gains_0.1.2.2.1.1.2
theorem dX12_gains_33 : decode cX12_gains 33 = .ok (.iload_n 2, 1) := fp_hdX12_gains_0.1.2.2.1.2
theorem dX12_gains_34 : decode cX12_gains 34 = .ok (.invokevirtual 234, 3) := fp_hdX12_gains_0.1.2.2.2.1
theorem dX12_gains_37 : decode cX12_gains 37 = .ok (.ireturn, 1) := fp_hdX12_gains_0.1.2.2.2.2
def fp_scX12_vain_0 : List Nat := 42 :: 42 :: 182 :: 0 :: 225 :: 182 :: 1 :: 12 :: 172 :: []
theorem fp_bcX12_vain : bA cX12_vain 0 fp_scX12_vain_0 := show cX12_vain.data.toList.map UInt8.toNat = fp_scX12_vain_0 from by decide +kernel
theorem fp_hdX12_vain_0 : (((decode cX12_vain 0 = .ok (.aload_n 0, 1) ∧ decode cX12_vain 1 = .ok (.aload_n 0, 1)) ∧ decode cX12_vain 2 = .ok (.invokevirtual 225, 3)) ∧ (decode cX12_vain 5 = .ok (.invokevirtual 268, 3) ∧ decode cX12_vain 8 = .ok (.ireturn, 1))) ∧ bA cX12_vain 9 [] :=
  have q0 := fp_o42 fp_bcX12_vain
  have q1 := fp_o42 q0.2
  have q2 := fp_o182 (v := 225) q1.2 rfl
  have q3 := fp_o182 (v := 268) q2.2 rfl
  have q4 := fp_o172 q3.2
  ⟨⟨⟨⟨q0.1, q1.1⟩, q2.1⟩, ⟨q3.1, q4.1⟩⟩, q4.2⟩
theorem dX12_vain_0 : decode cX12_vain 0 = .ok (.aload_n 0, 1) := fp_hdX12_vain_0.1.1.1.1
theorem dX12_vain_1 : decode cX12_vain 1 = .ok (.aload_n 0, 1) := fp_hdX12_vain_0.1.1.1.2
theorem dX12_vain_2 : decode cX12_vain 2 = .ok (.invokevirtual 225, 3) := fp_hdX12_vain_0.1.1.2
theorem dX12_vain_5 : decode cX12_vain 5 = .ok (.invokevirtual 268, 3) := fp_hdX12_vain_0.1.2.1
theorem dX12_vain_8 : decode cX12_vain 8 = .ok (.ireturn, 1) := fp_hdX12_vain_0.1.2.2
def fp_scX12_lost_2 : List Nat := 3 :: 128 :: 61 :: 132 :: 4 :: 1 :: 167 :: 255 :: 171 :: 3 :: 54 :: 4 :: 3 :: 54 :: 5 :: 21 :: 5 :: 7 :: 162 :: 0 :: 33 :: 21 :: 4 :: 21 :: 5 :: 27 :: 160 :: 0 :: 7 :: 3 :: 167 :: 0 :: 12 :: 42 :: 17 :: 1 :: 104 :: 21 :: 5 :: 182 :: 0 :: 231 :: 128 :: 54 :: 4 :: 132 :: 5 :: 1 :: 167 :: 255 :: 223 :: 28 :: 21 :: 4 :: 126 :: 172 :: []
def fp_scX12_lost_1 : List Nat := 21 :: 5 :: 16 :: 252 :: 159 :: 0 :: 34 :: 42 :: 180 :: 0 :: 7 :: 16 :: 47 :: 7 :: 21 :: 4 :: 104 :: 96 :: 4 :: 96 :: 46 :: 27 :: 160 :: 0 :: 16 :: 29 :: 21 :: 4 :: 122 :: 4 :: 126 :: 154 :: 0 :: 7 :: 4 :: 167 :: 0 :: 4 :: 3 :: 54 :: 6 :: 28 :: 21 :: 6 :: 153 :: 0 :: 10 :: 4 :: 21 :: 5 :: 120 :: 167 :: 0 :: 4 :: fp_scX12_lost_2
def fp_scX12_lost_0 : List Nat := 27 :: 184 :: 0 :: 228 :: 154 :: 0 :: 5 :: 2 :: 172 :: 42 :: 3 :: 27 :: 182 :: 0 :: 231 :: 61 :: 42 :: 42 :: 182 :: 0 :: 225 :: 182 :: 1 :: 12 :: 62 :: 3 :: 54 :: 4 :: 21 :: 4 :: 42 :: 182 :: 0 :: 225 :: 162 :: 0 :: 82 :: 42 :: 180 :: 0 :: 7 :: 16 :: 47 :: 7 :: 21 :: 4 :: 104 :: 96 :: 6 :: 96 :: 46 :: 54 :: 5 :: fp_scX12_lost_1
theorem fp_bcX12_lost : bA cX12_lost 0 fp_scX12_lost_0 := show cX12_lost.data.toList.map UInt8.toNat = fp_scX12_lost_0 from by decide +kernel
theorem fp_hdX12_lost_0 : (((((decode cX12_lost 0 = .ok (.iload_n 1, 1) ∧ decode cX12_lost 1 = .ok (.invokestatic 228, 3)) ∧ (decode cX12_lost 4 = .ok (.ifCond .ne 5, 3) ∧ decode cX12_lost 7 = .ok (.iconst (-1), 1))) ∧ ((decode cX12_lost 8 = .ok (.ireturn, 1) ∧ decode cX12_lost 9 = .ok (.aload_n 0, 1)) ∧ (decode cX12_lost 10 = .ok (.iconst 0, 1) ∧ decode cX12_lost 11 = .ok (.iload_n 1, 1)))) ∧ (((decode cX12_lost 12 = .ok (.invokevirtual 231, 3) ∧ decode cX12_lost 15 = .ok (.istore_n 2, 1)) ∧ (decode cX12_lost 16 = .ok (.aload_n 0, 1) ∧ decode cX12_lost 17 = .ok (.aload_n 0, 1))) ∧ ((decode cX12_lost 18 = .ok (.invokevirtual 225, 3) ∧ decode cX12_lost 21 = .ok (.invokevirtual 268, 3)) ∧ (decode cX12_lost 24 = .ok (.istore_n 3, 1) ∧ decode cX12_lost 25 = .ok (.iconst 0, 1))))) ∧ ((((decode cX12_lost 26 = .ok (.istore 4, 2) ∧ decode cX12_lost 28 = .ok (.iload 4, 2)) ∧ (decode cX12_lost 30 = .ok (.aload_n 0, 1) ∧ decode cX12_lost 31 = .ok (.invokevirtual 225, 3))) ∧ ((decode cX12_lost 34 = .ok (.if_icmp .ge 82, 3) ∧ decode cX12_lost 37 = .ok (.aload_n 0, 1)) ∧ (decode cX12_lost 38 = .ok (.getfield 7, 3) ∧ decode cX12_lost 41 = .ok (.bipush 47, 2)))) ∧ (((decode cX12_lost 43 = .ok (.iconst 4, 1) ∧ decode cX12_lost 44 = .ok (.iload 4, 2)) ∧ (decode cX12_lost 46 = .ok (.imul, 1) ∧ decode cX12_lost 47 = .ok (.iadd, 1))) ∧ ((decode cX12_lost 48 = .ok (.iconst 3, 1) ∧ decode cX12_lost 49 = .ok (.iadd, 1)) ∧ (decode cX12_lost 50 = .ok (.iaload, 1) ∧ decode cX12_lost 51 = .ok (.istore 5, 2)))))) ∧ bA cX12_lost 53 fp_scX12_lost_1 :=
  have q0 := fp_o27 fp_bcX12_lost
  have q1 := fp_o184 (v := 228) q0.2 rfl
  have q2 := fp_o154 (v := 5) q1.2 rfl
  have q3 := fp_o2 q2.2
  have q4 := fp_o172 q3.2
  have q5 := fp_o42 q4.2
  have q6 := fp_o3 q5.2
  have q7 := fp_o27 q6.2
  have q8 := fp_o182 (v := 231) q7.2 rfl
  have q9 := fp_o61 q8.2
  have q10 := fp_o42 q9.2
  have q11 := fp_o42 q10.2
  have q12 := fp_o182 (v := 225) q11.2 rfl
  have q13 := fp_o182 (v := 268) q12.2 rfl
  have q14 := fp_o62 q13.2
  have q15 := fp_o3 q14.2
  have q16 := fp_o54 q15.2
  have q17 := fp_o21 q16.2
  have q18 := fp_o42 q17.2
  have q19 := fp_o182 (v := 225) q18.2 rfl
  have q20 := fp_o162 (v := 82) q19.2 rfl
  have q21 := fp_o42 q20.2
  have q22 := fp_o180 (v := 7) q21.2 rfl
  have q23 := fp_o16 (v := 47) q22.2 rfl
  have q24 := fp_o7 q23.2
  have q25 := fp_o21 q24.2
  have q26 := fp_o104 q25.2
  have q27 := fp_o96 q26.2
  have q28 := fp_o6 q27.2
  have q29 := fp_o96 q28.2
  have q30 := fp_o46 q29.2
  have q31 := fp_o54 q30.2
  ⟨⟨⟨⟨⟨⟨q0.1, q1.1⟩, ⟨q2.1, q3.1⟩⟩, ⟨⟨q4.1, q5.1⟩, ⟨q6.1, q7.1⟩⟩⟩, ⟨⟨⟨q8.1, q9.1⟩, ⟨q10.1, q11.1⟩⟩, ⟨⟨q12.1, q13.1⟩, ⟨q14.1, q15.1⟩⟩⟩⟩, ⟨⟨⟨⟨q16.1, q17.1⟩, ⟨q18.1, q19.1⟩⟩, ⟨⟨q20.1, q21.1⟩, ⟨q22.1, q23.1⟩⟩⟩, ⟨⟨⟨q24.1, q25.1⟩, ⟨q26.1, q27.1⟩⟩, ⟨⟨q28.1, q29.1⟩, ⟨q30.1, q31.1⟩⟩⟩⟩⟩, q31.2⟩
theorem dX12_lost_0 : decode cX12_lost 0 = .ok (.iload_n 1, 1) := fp_hdX12_lost_0.1.1.1.1.1.1
theorem dX12_lost_1 : decode cX12_lost 1 = .ok (.invokestatic 228, 3) := fp_hdX12_lost_0.1.1.1.1.1.2
theorem dX12_lost_4 : decode cX12_lost 4 = .ok (.ifCond .ne 5, 3) := fp_hdX12_lost_0.1.1.1.1.2.1
theorem dX12_lost_7 : decode cX12_lost 7 = .ok (.iconst (-1), 1) := fp_hdX12_lost_0.1.1.1.1.2.2
theorem dX12_lost_8 : decode cX12_lost 8 = .ok (.ireturn, 1) := fp_hdX12_lost_0.1.1.1.2.1.1
theorem dX12_lost_9 : decode cX12_lost 9 = .ok (.aload_n 0, 1) := fp_hdX12_lost_0.1.1.1.2.1.2
theorem dX12_lost_10 : decode cX12_lost 10 = .ok (.iconst 0, 1) := fp_hdX12_lost_0.1.1.1.2.2.1
theorem dX12_lost_11 : decode cX12_lost 11 = .ok (.iload_n 1, 1) := fp_hdX12_lost_0.1.1.1.2.2.2
theorem dX12_lost_12 : decode cX12_lost 12 = .ok (.invokevirtual 231, 3) := fp_hdX12_lost_0.1.1.2.1.1.1
theorem dX12_lost_15 : decode cX12_lost 15 = .ok (.istore_n 2, 1) := fp_hdX12_lost_0.1.1.2.1.1.2
theorem dX12_lost_16 : decode cX12_lost 16 = .ok (.aload_n 0, 1) := fp_hdX12_lost_0.1.1.2.1.2.1
theorem dX12_lost_17 : decode cX12_lost 17 = .ok (.aload_n 0, 1) := fp_hdX12_lost_0.1.1.2.1.2.2
theorem dX12_lost_18 : decode cX12_lost 18 = .ok (.invokevirtual 225, 3) := fp_hdX12_lost_0.1.1.2.2.1.1
theorem dX12_lost_21 : decode cX12_lost 21 = .ok (.invokevirtual 268, 3) := fp_hdX12_lost_0.1.1.2.2.1.2
theorem dX12_lost_24 : decode cX12_lost 24 = .ok (.istore_n 3, 1) := fp_hdX12_lost_0.1.1.2.2.2.1
theorem dX12_lost_25 : decode cX12_lost 25 = .ok (.iconst 0, 1) := fp_hdX12_lost_0.1.1.2.2.2.2
theorem dX12_lost_26 : decode cX12_lost 26 = .ok (.istore 4, 2) := fp_hdX12_lost_0.1.2.1.1.1.1
theorem dX12_lost_28 : decode cX12_lost 28 = .ok (.iload 4, 2) := fp_hdX12_lost_0.1.2.1.1.1.2
theorem dX12_lost_30 : decode cX12_lost 30 = .ok (.aload_n 0, 1) := fp_hdX12_lost_0.1.2.1.1.2.1
theorem dX12_lost_31 : decode cX12_lost 31 = .ok (.invokevirtual 225, 3) := fp_hdX12_lost_0.1.2.1.1.2.2
theorem dX12_lost_34 : decode cX12_lost 34 = .ok (.if_icmp .ge 82, 3) := fp_hdX12_lost_0.1.2.1.2.1.1
theorem dX12_lost_37 : decode cX12_lost 37 = .ok (.aload_n 0, 1) := fp_hdX12_lost_0.1.2.1.2.1.2
theorem dX12_lost_38 : decode cX12_lost 38 = .ok (.getfield 7, 3) := fp_hdX12_lost_0.1.2.1.2.2.1
theorem dX12_lost_41 : decode cX12_lost 41 = .ok (.bipush 47, 2) := fp_hdX12_lost_0.1.2.1.2.2.2
theorem dX12_lost_43 : decode cX12_lost 43 = .ok (.iconst 4, 1) := fp_hdX12_lost_0.1.2.2.1.1.1
theorem dX12_lost_44 : decode cX12_lost 44 = .ok (.iload 4, 2) := fp_hdX12_lost_0.1.2.2.1.1.2
theorem dX12_lost_46 : decode cX12_lost 46 = .ok (.imul, 1) := fp_hdX12_lost_0.1.2.2.1.2.1
theorem dX12_lost_47 : decode cX12_lost 47 = .ok (.iadd, 1) := fp_hdX12_lost_0.1.2.2.1.2.2
theorem dX12_lost_48 : decode cX12_lost 48 = .ok (.iconst 3, 1) := fp_hdX12_lost_0.1.2.2.2.1.1
theorem dX12_lost_49 : decode cX12_lost 49 = .ok (.iadd, 1) := fp_hdX12_lost_0.1.2.2.2.1.2
theorem dX12_lost_50 : decode cX12_lost 50 = .ok (.iaload, 1) := fp_hdX12_lost_0.1.2.2.2.2.1
theorem dX12_lost_51 : decode cX12_lost 51 = .ok (.istore 5, 2) := fp_hdX12_lost_0.1.2.2.2.2.2
theorem fp_hdX12_lost_53 : (((((decode cX12_lost 53 = .ok (.iload 5, 2) ∧ decode cX12_lost 55 = .ok (.bipush (-4), 2)) ∧ (decode cX12_lost 57 = .ok (.if_icmp .eq 34, 3) ∧ decode cX12_lost 60 = .ok (.aload_n 0, 1))) ∧ ((decode cX12_lost 61 = .ok (.getfield 7, 3) ∧ decode cX12_lost 64 = .ok (.bipush 47, 2)) ∧ (decode cX12_lost 66 = .ok (.iconst 4, 1) ∧ decode cX12_lost 67 = .ok (.iload 4, 2)))) ∧ (((decode cX12_lost 69 = .ok (.imul, 1) ∧ decode cX12_lost 70 = .ok (.iadd, 1)) ∧ (decode cX12_lost 71 = .ok (.iconst 1, 1) ∧ decode cX12_lost 72 = .ok (.iadd, 1))) ∧ ((decode cX12_lost 73 = .ok (.iaload, 1) ∧ decode cX12_lost 74 = .ok (.iload_n 1, 1)) ∧ (decode cX12_lost 75 = .ok (.if_icmp .ne 16, 3) ∧ decode cX12_lost 78 = .ok (.iload_n 3, 1))))) ∧ ((((decode cX12_lost 79 = .ok (.iload 4, 2) ∧ decode cX12_lost 81 = .ok (.ishr, 1)) ∧ (decode cX12_lost 82 = .ok (.iconst 1, 1) ∧ decode cX12_lost 83 = .ok (.iand, 1))) ∧ ((decode cX12_lost 84 = .ok (.ifCond .ne 7, 3) ∧ decode cX12_lost 87 = .ok (.iconst 1, 1)) ∧ (decode cX12_lost 88 = .ok (.goto 4, 3) ∧ decode cX12_lost 91 = .ok (.iconst 0, 1)))) ∧ (((decode cX12_lost 92 = .ok (.istore 6, 2) ∧ decode cX12_lost 94 = .ok (.iload_n 2, 1)) ∧ (decode cX12_lost 95 = .ok (.iload 6, 2) ∧ decode cX12_lost 97 = .ok (.ifCond .eq 10, 3))) ∧ ((decode cX12_lost 100 = .ok (.iconst 1, 1) ∧ decode cX12_lost 101 = .ok (.iload 5, 2)) ∧ (decode cX12_lost 103 = .ok (.ishl, 1) ∧ decode cX12_lost 104 = .ok (.goto 4, 3)))))) ∧ bA cX12_lost 107 fp_scX12_lost_2 :=
  have q0 := fp_o21 fp_hdX12_lost_0.2
  have q1 := fp_o16 (v := (-4)) q0.2 rfl
  have q2 := fp_o159 (v := 34) q1.2 rfl
  have q3 := fp_o42 q2.2
  have q4 := fp_o180 (v := 7) q3.2 rfl
  have q5 := fp_o16 (v := 47) q4.2 rfl
  have q6 := fp_o7 q5.2
  have q7 := fp_o21 q6.2
  have q8 := fp_o104 q7.2
  have q9 := fp_o96 q8.2
  have q10 := fp_o4 q9.2
  have q11 := fp_o96 q10.2
  have q12 := fp_o46 q11.2
  have q13 := fp_o27 q12.2
  have q14 := fp_o160 (v := 16) q13.2 rfl
  have q15 := fp_o29 q14.2
  have q16 := fp_o21 q15.2
  have q17 := fp_o122 q16.2
  have q18 := fp_o4 q17.2
  have q19 := fp_o126 q18.2
  have q20 := fp_o154 (v := 7) q19.2 rfl
  have q21 := fp_o4 q20.2
  have q22 := fp_o167 (v := 4) q21.2 rfl
  have q23 := fp_o3 q22.2
  have q24 := fp_o54 q23.2
  have q25 := fp_o28 q24.2
  have q26 := fp_o21 q25.2
  have q27 := fp_o153 (v := 10) q26.2 rfl
  have q28 := fp_o4 q27.2
  have q29 := fp_o21 q28.2
  have q30 := fp_o120 q29.2
  have q31 := fp_o167 (v := 4) q30.2 rfl
  ⟨⟨⟨⟨⟨⟨q0.1, q1.1⟩, ⟨q2.1, q3.1⟩⟩, ⟨⟨q4.1, q5.1⟩, ⟨q6.1, q7.1⟩⟩⟩, ⟨⟨⟨q8.1, q9.1⟩, ⟨q10.1, q11.1⟩⟩, ⟨⟨q12.1, q13.1⟩, ⟨q14.1, q15.1⟩⟩⟩⟩, ⟨⟨⟨⟨q16.1, q17.1⟩, ⟨q18.1, q19.1⟩⟩, ⟨⟨q20.1, q21.1⟩, ⟨q22.1, q23.1⟩⟩⟩, ⟨⟨⟨q24.1, q25.1⟩, ⟨q26.1, q27.1⟩⟩, ⟨⟨q28.1, q29.1⟩, ⟨q30.1, q31.1⟩⟩⟩⟩⟩, q31.2⟩
theorem dX12_lost_53 : decode cX12_lost 53 = .ok (.iload 5, 2) := fp_hdX12_lost_53.1.1.1.1.1.1
theorem dX12_lost_55 : decode cX12_lost 55 = .ok (.bipush (-4), 2) := fp_hdX12_lost_53.1.1.1.1.1.2
theorem dX12_lost_57 : decode cX12_lost 57 = .ok (.if_icmp .eq 34, 3) := fp_hdX12_lost_53.1.1.1.1.2.1
theorem dX12_lost_60 : decode cX12_lost 60 = .ok (.aload_n 0, 1) := fp_hdX12_lost_53.1.1.1.1.2.2
theorem dX12_lost_61 : decode cX12_lost 61 = .ok (.getfield 7, 3) := fp_hdX12_lost_53.1.1.1.2.1.1
theorem dX12_lost_64 : decode cX12_lost 64 = .ok (.bipush 47, 2) := fp_hdX12_lost_53.1.1.1.2.1.2
theorem dX12_lost_66 : decode cX12_lost 66 = .ok (.iconst 4, 1) := fp_hdX12_lost_53.1.1.1.2.2.1
theorem dX12_lost_67 : decode cX12_lost 67 = .ok (.iload 4, 2) := fp_hdX12_lost_53.1.1.1.2.2.2
theorem dX12_lost_69 : decode cX12_lost 69 = .ok (.imul, 1) := fp_hdX12_lost_53.1.1.2.1.1.1
theorem dX12_lost_70 : decode cX12_lost 70 = .ok (.iadd, 1) := fp_hdX12_lost_53.1.1.2.1.1.2
theorem dX12_lost_71 : decode cX12_lost 71 = .ok (.iconst 1, 1) := fp_hdX12_lost_53.1.1.2.1.2.1
theorem dX12_lost_72 : decode cX12_lost 72 = .ok (.iadd, 1) := fp_hdX12_lost_53.1.1.2.1.2.2
theorem dX12_lost_73 : decode cX12_lost 73 = .ok (.iaload, 1) := fp_hdX12_lost_53.1.1.2.2.1.1
theorem dX12_lost_74 : decode cX12_lost 74 = .ok (.iload_n 1, 1) := fp_hdX12_lost_53.1.1.2.2.1.2
theorem dX12_lost_75 : decode cX12_lost 75 = .ok (.if_icmp .ne 16, 3) := fp_hdX12_lost_53.1.1.2.2.2.1
theorem dX12_lost_78 : decode cX12_lost 78 = .ok (.iload_n 3, 1) := fp_hdX12_lost_53.1.1.2.2.2.2
theorem dX12_lost_79 : decode cX12_lost 79 = .ok (.iload 4, 2) := fp_hdX12_lost_53.1.2.1.1.1.1
theorem dX12_lost_81 : decode cX12_lost 81 = .ok (.ishr, 1) := fp_hdX12_lost_53.1.2.1.1.1.2
theorem dX12_lost_82 : decode cX12_lost 82 = .ok (.iconst 1, 1) := fp_hdX12_lost_53.1.2.1.1.2.1
theorem dX12_lost_83 : decode cX12_lost 83 = .ok (.iand, 1) := fp_hdX12_lost_53.1.2.1.1.2.2
theorem dX12_lost_84 : decode cX12_lost 84 = .ok (.ifCond .ne 7, 3) := fp_hdX12_lost_53.1.2.1.2.1.1
theorem dX12_lost_87 : decode cX12_lost 87 = .ok (.iconst 1, 1) := fp_hdX12_lost_53.1.2.1.2.1.2
theorem dX12_lost_88 : decode cX12_lost 88 = .ok (.goto 4, 3) := fp_hdX12_lost_53.1.2.1.2.2.1
theorem dX12_lost_91 : decode cX12_lost 91 = .ok (.iconst 0, 1) := fp_hdX12_lost_53.1.2.1.2.2.2
theorem dX12_lost_92 : decode cX12_lost 92 = .ok (.istore 6, 2) := fp_hdX12_lost_53.1.2.2.1.1.1
theorem dX12_lost_94 : decode cX12_lost 94 = .ok (.iload_n 2, 1) := fp_hdX12_lost_53.1.2.2.1.1.2
theorem dX12_lost_95 : decode cX12_lost 95 = .ok (.iload 6, 2) := fp_hdX12_lost_53.1.2.2.1.2.1
theorem dX12_lost_97 : decode cX12_lost 97 = .ok (.ifCond .eq 10, 3) := fp_hdX12_lost_53.1.2.2.1.2.2
theorem dX12_lost_100 : decode cX12_lost 100 = .ok (.iconst 1, 1) := fp_hdX12_lost_53.1.2.2.2.1.1
theorem dX12_lost_101 : decode cX12_lost 101 = .ok (.iload 5, 2) := fp_hdX12_lost_53.1.2.2.2.1.2
theorem dX12_lost_103 : decode cX12_lost 103 = .ok (.ishl, 1) := fp_hdX12_lost_53.1.2.2.2.2.1
theorem dX12_lost_104 : decode cX12_lost 104 = .ok (.goto 4, 3) := fp_hdX12_lost_53.1.2.2.2.2.2
theorem fp_hdX12_lost_107 : (((((decode cX12_lost 107 = .ok (.iconst 0, 1) ∧ decode cX12_lost 108 = .ok (.ior, 1)) ∧ (decode cX12_lost 109 = .ok (.istore_n 2, 1) ∧ decode cX12_lost 110 = .ok (.iinc 4 1, 3))) ∧ ((decode cX12_lost 113 = .ok (.goto (-85), 3) ∧ decode cX12_lost 116 = .ok (.iconst 0, 1)) ∧ (decode cX12_lost 117 = .ok (.istore 4, 2) ∧ decode cX12_lost 119 = .ok (.iconst 0, 1)))) ∧ (((decode cX12_lost 120 = .ok (.istore 5, 2) ∧ decode cX12_lost 122 = .ok (.iload 5, 2)) ∧ (decode cX12_lost 124 = .ok (.iconst 4, 1) ∧ decode cX12_lost 125 = .ok (.if_icmp .ge 33, 3))) ∧ ((decode cX12_lost 128 = .ok (.iload 4, 2) ∧ decode cX12_lost 130 = .ok (.iload 5, 2)) ∧ decode cX12_lost 132 = .ok (.iload_n 1, 1)))) ∧ ((((decode cX12_lost 133 = .ok (.if_icmp .ne 7, 3) ∧ decode cX12_lost 136 = .ok (.iconst 0, 1)) ∧ (decode cX12_lost 137 = .ok (.goto 12, 3) ∧ decode cX12_lost 140 = .ok (.aload_n 0, 1))) ∧ ((decode cX12_lost 141 = .ok (.sipush 360, 3) ∧ decode cX12_lost 144 = .ok (.iload 5, 2)) ∧ (decode cX12_lost 146 = .ok (.invokevirtual 231, 3) ∧ decode cX12_lost 149 = .ok (.ior, 1)))) ∧ (((decode cX12_lost 150 = .ok (.istore 4, 2) ∧ decode cX12_lost 152 = .ok (.iinc 5 1, 3)) ∧ (decode cX12_lost 155 = .ok (.goto (-33), 3) ∧ decode cX12_lost 158 = .ok (.iload_n 2, 1))) ∧ ((decode cX12_lost 159 = .ok (.iload 4, 2) ∧ decode cX12_lost 161 = .ok (.iand, 1)) ∧ decode cX12_lost 162 = .ok (.ireturn, 1))))) ∧ bA cX12_lost 163 [] :=
  have q0 := fp_o3 fp_hdX12_lost_53.2
  have q1 := fp_o128 q0.2
  have q2 := fp_o61 q1.2
  have q3 := fp_o132 (v := 1) q2.2 rfl
  have q4 := fp_o167 (v := (-85)) q3.2 rfl
  have q5 := fp_o3 q4.2
  have q6 := fp_o54 q5.2
  have q7 := fp_o3 q6.2
  have q8 := fp_o54 q7.2
  have q9 := fp_o21 q8.2
  have q10 := fp_o7 q9.2
  have q11 := fp_o162 (v := 33) q10.2 rfl
  have q12 := fp_o21 q11.2
  have q13 := fp_o21 q12.2
  have q14 := fp_o27 q13.2
  have q15 := fp_o160 (v := 7) q14.2 rfl
  have q16 := fp_o3 q15.2
  have q17 := fp_o167 (v := 12) q16.2 rfl
  have q18 := fp_o42 q17.2
  have q19 := fp_o17 (v := 360) q18.2 rfl
  have q20 := fp_o21 q19.2
  have q21 := fp_o182 (v := 231) q20.2 rfl
  have q22 := fp_o128 q21.2
  have q23 := fp_o54 q22.2
  have q24 := fp_o132 (v := 1) q23.2 rfl
  have q25 := fp_o167 (v := (-33)) q24.2 rfl
  have q26 := fp_o28 q25.2
  have q27 := fp_o21 q26.2
  have q28 := fp_o126 q27.2
  have q29 := fp_o172 q28.2
  ⟨⟨⟨⟨⟨⟨q0.1, q1.1⟩, ⟨q2.1, q3.1⟩⟩, ⟨⟨q4.1, q5.1⟩, ⟨q6.1, q7.1⟩⟩⟩, ⟨⟨⟨q8.1, q9.1⟩, ⟨q10.1, q11.1⟩⟩, ⟨⟨q12.1, q13.1⟩, q14.1⟩⟩⟩, ⟨⟨⟨⟨q15.1, q16.1⟩, ⟨q17.1, q18.1⟩⟩, ⟨⟨q19.1, q20.1⟩, ⟨q21.1, q22.1⟩⟩⟩, ⟨⟨⟨q23.1, q24.1⟩, ⟨q25.1, q26.1⟩⟩, ⟨⟨q27.1, q28.1⟩, q29.1⟩⟩⟩⟩, q29.2⟩
theorem dX12_lost_107 : decode cX12_lost 107 = .ok (.iconst 0, 1) := fp_hdX12_lost_107.1.1.1.1.1.1
theorem dX12_lost_108 : decode cX12_lost 108 = .ok (.ior, 1) := fp_hdX12_lost_107.1.1.1.1.1.2
theorem dX12_lost_109 : decode cX12_lost 109 = .ok (.istore_n 2, 1) := fp_hdX12_lost_107.1.1.1.1.2.1
theorem dX12_lost_110 : decode cX12_lost 110 = .ok (.iinc 4 1, 3) := fp_hdX12_lost_107.1.1.1.1.2.2
theorem dX12_lost_113 : decode cX12_lost 113 = .ok (.goto (-85), 3) := fp_hdX12_lost_107.1.1.1.2.1.1
theorem dX12_lost_116 : decode cX12_lost 116 = .ok (.iconst 0, 1) := fp_hdX12_lost_107.1.1.1.2.1.2
theorem dX12_lost_117 : decode cX12_lost 117 = .ok (.istore 4, 2) := fp_hdX12_lost_107.1.1.1.2.2.1
theorem dX12_lost_119 : decode cX12_lost 119 = .ok (.iconst 0, 1) := fp_hdX12_lost_107.1.1.1.2.2.2
theorem dX12_lost_120 : decode cX12_lost 120 = .ok (.istore 5, 2) := fp_hdX12_lost_107.1.1.2.1.1.1
theorem dX12_lost_122 : decode cX12_lost 122 = .ok (.iload 5, 2) := fp_hdX12_lost_107.1.1.2.1.1.2
theorem dX12_lost_124 : decode cX12_lost 124 = .ok (.iconst 4, 1) := fp_hdX12_lost_107.1.1.2.1.2.1
theorem dX12_lost_125 : decode cX12_lost 125 = .ok (.if_icmp .ge 33, 3) := fp_hdX12_lost_107.1.1.2.1.2.2
theorem dX12_lost_128 : decode cX12_lost 128 = .ok (.iload 4, 2) := fp_hdX12_lost_107.1.1.2.2.1.1
theorem dX12_lost_130 : decode cX12_lost 130 = .ok (.iload 5, 2) := fp_hdX12_lost_107.1.1.2.2.1.2
theorem dX12_lost_132 : decode cX12_lost 132 = .ok (.iload_n 1, 1) := fp_hdX12_lost_107.1.1.2.2.2
theorem dX12_lost_133 : decode cX12_lost 133 = .ok (.if_icmp .ne 7, 3) := fp_hdX12_lost_107.1.2.1.1.1.1
theorem dX12_lost_136 : decode cX12_lost 136 = .ok (.iconst 0, 1) := fp_hdX12_lost_107.1.2.1.1.1.2
theorem dX12_lost_137 : decode cX12_lost 137 = .ok (.goto 12, 3) := fp_hdX12_lost_107.1.2.1.1.2.1
theorem dX12_lost_140 : decode cX12_lost 140 = .ok (.aload_n 0, 1) := fp_hdX12_lost_107.1.2.1.1.2.2
theorem dX12_lost_141 : decode cX12_lost 141 = .ok (.sipush 360, 3) := fp_hdX12_lost_107.1.2.1.2.1.1
theorem dX12_lost_144 : decode cX12_lost 144 = .ok (.iload 5, 2) := fp_hdX12_lost_107.1.2.1.2.1.2
theorem dX12_lost_146 : decode cX12_lost 146 = .ok (.invokevirtual 231, 3) := fp_hdX12_lost_107.1.2.1.2.2.1
theorem dX12_lost_149 : decode cX12_lost 149 = .ok (.ior, 1) := fp_hdX12_lost_107.1.2.1.2.2.2
theorem dX12_lost_150 : decode cX12_lost 150 = .ok (.istore 4, 2) := fp_hdX12_lost_107.1.2.2.1.1.1
theorem dX12_lost_152 : decode cX12_lost 152 = .ok (.iinc 5 1, 3) := fp_hdX12_lost_107.1.2.2.1.1.2
theorem dX12_lost_155 : decode cX12_lost 155 = .ok (.goto (-33), 3) := fp_hdX12_lost_107.1.2.2.1.2.1
theorem dX12_lost_158 : decode cX12_lost 158 = .ok (.iload_n 2, 1) := fp_hdX12_lost_107.1.2.2.1.2.2
theorem dX12_lost_159 : decode cX12_lost 159 = .ok (.iload 4, 2) := fp_hdX12_lost_107.1.2.2.2.1.1
theorem dX12_lost_161 : decode cX12_lost 161 = .ok (.iand, 1) := fp_hdX12_lost_107.1.2.2.2.1.2
theorem dX12_lost_162 : decode cX12_lost 162 = .ok (.ireturn, 1) := fp_hdX12_lost_107.1.2.2.2.2
def fp_scX12_since_1 : List Nat := 42 :: 180 :: 0 :: 7 :: 17 :: 1 :: 104 :: 28 :: 96 :: 46 :: 27 :: 160 :: 0 :: 5 :: 29 :: 172 :: 132 :: 3 :: 1 :: 167 :: 255 :: 220 :: 16 :: 252 :: 172 :: []
def fp_scX12_since_0 : List Nat := 27 :: 184 :: 0 :: 228 :: 153 :: 0 :: 11 :: 42 :: 28 :: 182 :: 0 :: 205 :: 154 :: 0 :: 5 :: 2 :: 172 :: 42 :: 180 :: 0 :: 7 :: 28 :: 46 :: 27 :: 160 :: 0 :: 6 :: 16 :: 254 :: 172 :: 42 :: 3 :: 17 :: 1 :: 104 :: 182 :: 1 :: 9 :: 3 :: 62 :: 29 :: 42 :: 182 :: 0 :: 225 :: 162 :: 0 :: 34 :: 42 :: 17 :: 1 :: 104 :: 29 :: 182 :: 1 :: 5 :: 87 :: fp_scX12_since_1
theorem fp_bcX12_since : bA cX12_since 0 fp_scX12_since_0 := show cX12_since.data.toList.map UInt8.toNat = fp_scX12_since_0 from by decide +kernel
theorem fp_hdX12_since_0 : (((((decode cX12_since 0 = .ok (.iload_n 1, 1) ∧ decode cX12_since 1 = .ok (.invokestatic 228, 3)) ∧ (decode cX12_since 4 = .ok (.ifCond .eq 11, 3) ∧ decode cX12_since 7 = .ok (.aload_n 0, 1))) ∧ ((decode cX12_since 8 = .ok (.iload_n 2, 1) ∧ decode cX12_since 9 = .ok (.invokevirtual 205, 3)) ∧ (decode cX12_since 12 = .ok (.ifCond .ne 5, 3) ∧ decode cX12_since 15 = .ok (.iconst (-1), 1)))) ∧ (((decode cX12_since 16 = .ok (.ireturn, 1) ∧ decode cX12_since 17 = .ok (.aload_n 0, 1)) ∧ (decode cX12_since 18 = .ok (.getfield 7, 3) ∧ decode cX12_since 21 = .ok (.iload_n 2, 1))) ∧ ((decode cX12_since 22 = .ok (.iaload, 1) ∧ decode cX12_since 23 = .ok (.iload_n 1, 1)) ∧ (decode cX12_since 24 = .ok (.if_icmp .ne 6, 3) ∧ decode cX12_since 27 = .ok (.bipush (-2), 2))))) ∧ ((((decode cX12_since 29 = .ok (.ireturn, 1) ∧ decode cX12_since 30 = .ok (.aload_n 0, 1)) ∧ (decode cX12_since 31 = .ok (.iconst 0, 1) ∧ decode cX12_since 32 = .ok (.sipush 360, 3))) ∧ ((decode cX12_since 35 = .ok (.invokevirtual 265, 3) ∧ decode cX12_since 38 = .ok (.iconst 0, 1)) ∧ (decode cX12_since 39 = .ok (.istore_n 3, 1) ∧ decode cX12_since 40 = .ok (.iload_n 3, 1)))) ∧ (((decode cX12_since 41 = .ok (.aload_n 0, 1) ∧ decode cX12_since 42 = .ok (.invokevirtual 225, 3)) ∧ (decode cX12_since 45 = .ok (.if_icmp .ge 34, 3) ∧ decode cX12_since 48 = .ok (.aload_n 0, 1))) ∧ ((decode cX12_since 49 = .ok (.sipush 360, 3) ∧ decode cX12_since 52 = .ok (.iload_n 3, 1)) ∧ (decode cX12_since 53 = .ok (.invokevirtual 261, 3) ∧ decode cX12_since 56 = .ok (.pop, 1)))))) ∧ bA cX12_since 57 fp_scX12_since_1 :=
  have q0 := fp_o27 fp_bcX12_since
  have q1 := fp_o184 (v := 228) q0.2 rfl
  have q2 := fp_o153 (v := 11) q1.2 rfl
  have q3 := fp_o42 q2.2
  have q4 := fp_o28 q3.2
  have q5 := fp_o182 (v := 205) q4.2 rfl
  have q6 := fp_o154 (v := 5) q5.2 rfl
  have q7 := fp_o2 q6.2
  have q8 := fp_o172 q7.2
  have q9 := fp_o42 q8.2
  have q10 := fp_o180 (v := 7) q9.2 rfl
  have q11 := fp_o28 q10.2
  have q12 := fp_o46 q11.2
  have q13 := fp_o27 q12.2
  have q14 := fp_o160 (v := 6) q13.2 rfl
  have q15 := fp_o16 (v := (-2)) q14.2 rfl
  have q16 := fp_o172 q15.2
  have q17 := fp_o42 q16.2
  have q18 := fp_o3 q17.2
  have q19 := fp_o17 (v := 360) q18.2 rfl
  have q20 := fp_o182 (v := 265) q19.2 rfl
  have q21 := fp_o3 q20.2
  have q22 := fp_o62 q21.2
  have q23 := fp_o29 q22.2
  have q24 := fp_o42 q23.2
  have q25 := fp_o182 (v := 225) q24.2 rfl
  have q26 := fp_o162 (v := 34) q25.2 rfl
  have q27 := fp_o42 q26.2
  have q28 := fp_o17 (v := 360) q27.2 rfl
  have q29 := fp_o29 q28.2
  have q30 := fp_o182 (v := 261) q29.2 rfl
  have q31 := fp_o87 q30.2
  ⟨⟨⟨⟨⟨⟨q0.1, q1.1⟩, ⟨q2.1, q3.1⟩⟩, ⟨⟨q4.1, q5.1⟩, ⟨q6.1, q7.1⟩⟩⟩, ⟨⟨⟨q8.1, q9.1⟩, ⟨q10.1, q11.1⟩⟩, ⟨⟨q12.1, q13.1⟩, ⟨q14.1, q15.1⟩⟩⟩⟩, ⟨⟨⟨⟨q16.1, q17.1⟩, ⟨q18.1, q19.1⟩⟩, ⟨⟨q20.1, q21.1⟩, ⟨q22.1, q23.1⟩⟩⟩, ⟨⟨⟨q24.1, q25.1⟩, ⟨q26.1, q27.1⟩⟩, ⟨⟨q28.1, q29.1⟩, ⟨q30.1, q31.1⟩⟩⟩⟩⟩, q31.2⟩
theorem dX12_since_0 : decode cX12_since 0 = .ok (.iload_n 1, 1) := fp_hdX12_since_0.1.1.1.1.1.1
theorem dX12_since_1 : decode cX12_since 1 = .ok (.invokestatic 228, 3) := fp_hdX12_since_0.1.1.1.1.1.2
theorem dX12_since_4 : decode cX12_since 4 = .ok (.ifCond .eq 11, 3) := fp_hdX12_since_0.1.1.1.1.2.1
theorem dX12_since_7 : decode cX12_since 7 = .ok (.aload_n 0, 1) := fp_hdX12_since_0.1.1.1.1.2.2
theorem dX12_since_8 : decode cX12_since 8 = .ok (.iload_n 2, 1) := fp_hdX12_since_0.1.1.1.2.1.1
theorem dX12_since_9 : decode cX12_since 9 = .ok (.invokevirtual 205, 3) := fp_hdX12_since_0.1.1.1.2.1.2
theorem dX12_since_12 : decode cX12_since 12 = .ok (.ifCond .ne 5, 3) := fp_hdX12_since_0.1.1.1.2.2.1
theorem dX12_since_15 : decode cX12_since 15 = .ok (.iconst (-1), 1) := fp_hdX12_since_0.1.1.1.2.2.2
theorem dX12_since_16 : decode cX12_since 16 = .ok (.ireturn, 1) := fp_hdX12_since_0.1.1.2.1.1.1
theorem dX12_since_17 : decode cX12_since 17 = .ok (.aload_n 0, 1) := fp_hdX12_since_0.1.1.2.1.1.2
theorem dX12_since_18 : decode cX12_since 18 = .ok (.getfield 7, 3) := fp_hdX12_since_0.1.1.2.1.2.1
theorem dX12_since_21 : decode cX12_since 21 = .ok (.iload_n 2, 1) := fp_hdX12_since_0.1.1.2.1.2.2
theorem dX12_since_22 : decode cX12_since 22 = .ok (.iaload, 1) := fp_hdX12_since_0.1.1.2.2.1.1
theorem dX12_since_23 : decode cX12_since 23 = .ok (.iload_n 1, 1) := fp_hdX12_since_0.1.1.2.2.1.2
theorem dX12_since_24 : decode cX12_since 24 = .ok (.if_icmp .ne 6, 3) := fp_hdX12_since_0.1.1.2.2.2.1
theorem dX12_since_27 : decode cX12_since 27 = .ok (.bipush (-2), 2) := fp_hdX12_since_0.1.1.2.2.2.2
theorem dX12_since_29 : decode cX12_since 29 = .ok (.ireturn, 1) := fp_hdX12_since_0.1.2.1.1.1.1
theorem dX12_since_30 : decode cX12_since 30 = .ok (.aload_n 0, 1) := fp_hdX12_since_0.1.2.1.1.1.2
theorem dX12_since_31 : decode cX12_since 31 = .ok (.iconst 0, 1) := fp_hdX12_since_0.1.2.1.1.2.1
theorem dX12_since_32 : decode cX12_since 32 = .ok (.sipush 360, 3) := fp_hdX12_since_0.1.2.1.1.2.2
theorem dX12_since_35 : decode cX12_since 35 = .ok (.invokevirtual 265, 3) := fp_hdX12_since_0.1.2.1.2.1.1
theorem dX12_since_38 : decode cX12_since 38 = .ok (.iconst 0, 1) := fp_hdX12_since_0.1.2.1.2.1.2
theorem dX12_since_39 : decode cX12_since 39 = .ok (.istore_n 3, 1) := fp_hdX12_since_0.1.2.1.2.2.1
theorem dX12_since_40 : decode cX12_since 40 = .ok (.iload_n 3, 1) := fp_hdX12_since_0.1.2.1.2.2.2
theorem dX12_since_41 : decode cX12_since 41 = .ok (.aload_n 0, 1) := fp_hdX12_since_0.1.2.2.1.1.1
theorem dX12_since_42 : decode cX12_since 42 = .ok (.invokevirtual 225, 3) := fp_hdX12_since_0.1.2.2.1.1.2
theorem dX12_since_45 : decode cX12_since 45 = .ok (.if_icmp .ge 34, 3) := fp_hdX12_since_0.1.2.2.1.2.1
theorem dX12_since_48 : decode cX12_since 48 = .ok (.aload_n 0, 1) := fp_hdX12_since_0.1.2.2.1.2.2
theorem dX12_since_49 : decode cX12_since 49 = .ok (.sipush 360, 3) := fp_hdX12_since_0.1.2.2.2.1.1
theorem dX12_since_52 : decode cX12_since 52 = .ok (.iload_n 3, 1) := fp_hdX12_since_0.1.2.2.2.1.2
theorem dX12_since_53 : decode cX12_since 53 = .ok (.invokevirtual 261, 3) := fp_hdX12_since_0.1.2.2.2.2.1
theorem dX12_since_56 : decode cX12_since 56 = .ok (.pop, 1) := fp_hdX12_since_0.1.2.2.2.2.2
theorem fp_hdX12_since_57 : ((((decode cX12_since 57 = .ok (.aload_n 0, 1) ∧ decode cX12_since 58 = .ok (.getfield 7, 3)) ∧ (decode cX12_since 61 = .ok (.sipush 360, 3) ∧ decode cX12_since 64 = .ok (.iload_n 2, 1))) ∧ ((decode cX12_since 65 = .ok (.iadd, 1) ∧ decode cX12_since 66 = .ok (.iaload, 1)) ∧ decode cX12_since 67 = .ok (.iload_n 1, 1))) ∧ (((decode cX12_since 68 = .ok (.if_icmp .ne 5, 3) ∧ decode cX12_since 71 = .ok (.iload_n 3, 1)) ∧ (decode cX12_since 72 = .ok (.ireturn, 1) ∧ decode cX12_since 73 = .ok (.iinc 3 1, 3))) ∧ ((decode cX12_since 76 = .ok (.goto (-36), 3) ∧ decode cX12_since 79 = .ok (.bipush (-4), 2)) ∧ decode cX12_since 81 = .ok (.ireturn, 1)))) ∧ bA cX12_since 82 [] :=
  have q0 := fp_o42 fp_hdX12_since_0.2
  have q1 := fp_o180 (v := 7) q0.2 rfl
  have q2 := fp_o17 (v := 360) q1.2 rfl
  have q3 := fp_o28 q2.2
  have q4 := fp_o96 q3.2
  have q5 := fp_o46 q4.2
  have q6 := fp_o27 q5.2
  have q7 := fp_o160 (v := 5) q6.2 rfl
  have q8 := fp_o29 q7.2
  have q9 := fp_o172 q8.2
  have q10 := fp_o132 (v := 1) q9.2 rfl
  have q11 := fp_o167 (v := (-36)) q10.2 rfl
  have q12 := fp_o16 (v := (-4)) q11.2 rfl
  have q13 := fp_o172 q12.2
  ⟨⟨⟨⟨⟨q0.1, q1.1⟩, ⟨q2.1, q3.1⟩⟩, ⟨⟨q4.1, q5.1⟩, q6.1⟩⟩, ⟨⟨⟨q7.1, q8.1⟩, ⟨q9.1, q10.1⟩⟩, ⟨⟨q11.1, q12.1⟩, q13.1⟩⟩⟩, q13.2⟩
theorem dX12_since_57 : decode cX12_since 57 = .ok (.aload_n 0, 1) := fp_hdX12_since_57.1.1.1.1.1
theorem dX12_since_58 : decode cX12_since 58 = .ok (.getfield 7, 3) := fp_hdX12_since_57.1.1.1.1.2
theorem dX12_since_61 : decode cX12_since 61 = .ok (.sipush 360, 3) := fp_hdX12_since_57.1.1.1.2.1
theorem dX12_since_64 : decode cX12_since 64 = .ok (.iload_n 2, 1) := fp_hdX12_since_57.1.1.1.2.2
theorem dX12_since_65 : decode cX12_since 65 = .ok (.iadd, 1) := fp_hdX12_since_57.1.1.2.1.1
theorem dX12_since_66 : decode cX12_since 66 = .ok (.iaload, 1) := fp_hdX12_since_57.1.1.2.1.2
theorem dX12_since_67 : decode cX12_since 67 = .ok (.iload_n 1, 1) := fp_hdX12_since_57.1.1.2.2
theorem dX12_since_68 : decode cX12_since 68 = .ok (.if_icmp .ne 5, 3) := fp_hdX12_since_57.1.2.1.1.1
theorem dX12_since_71 : decode cX12_since 71 = .ok (.iload_n 3, 1) := fp_hdX12_since_57.1.2.1.1.2
theorem dX12_since_72 : decode cX12_since 72 = .ok (.ireturn, 1) := fp_hdX12_since_57.1.2.1.2.1
theorem dX12_since_73 : decode cX12_since 73 = .ok (.iinc 3 1, 3) := fp_hdX12_since_57.1.2.1.2.2
theorem dX12_since_76 : decode cX12_since 76 = .ok (.goto (-36), 3) := fp_hdX12_since_57.1.2.2.1.1
theorem dX12_since_79 : decode cX12_since 79 = .ok (.bipush (-4), 2) := fp_hdX12_since_57.1.2.2.1.2
theorem dX12_since_81 : decode cX12_since 81 = .ok (.ireturn, 1) := fp_hdX12_since_57.1.2.2.2
def fp_scX12_extra_2 : List Nat := 21 :: 5 :: 16 :: 252 :: 159 :: 0 :: 8 :: 29 :: 4 :: 160 :: 0 :: 8 :: 21 :: 5 :: 167 :: 0 :: 5 :: 21 :: 4 :: 172 :: []
def fp_scX12_extra_1 : List Nat := 182 :: 0 :: 222 :: 54 :: 7 :: 21 :: 7 :: 16 :: 252 :: 160 :: 0 :: 8 :: 16 :: 252 :: 167 :: 0 :: 14 :: 42 :: 180 :: 0 :: 16 :: 7 :: 21 :: 7 :: 104 :: 27 :: 96 :: 46 :: 54 :: 8 :: 21 :: 8 :: 21 :: 4 :: 164 :: 0 :: 8 :: 21 :: 6 :: 167 :: 0 :: 5 :: 21 :: 5 :: 54 :: 5 :: 21 :: 8 :: 21 :: 4 :: 164 :: 0 :: 8 :: 21 :: 8 :: 167 :: 0 :: 5 :: 21 :: 4 :: 54 :: 4 :: 132 :: 6 :: 1 :: 167 :: 255 :: 170 :: fp_scX12_extra_2
def fp_scX12_extra_0 : List Nat := 27 :: 184 :: 0 :: 228 :: 153 :: 0 :: 21 :: 42 :: 28 :: 182 :: 0 :: 219 :: 153 :: 0 :: 13 :: 29 :: 133 :: 9 :: 10 :: 184 :: 0 :: 94 :: 154 :: 0 :: 5 :: 2 :: 172 :: 16 :: 252 :: 54 :: 4 :: 16 :: 252 :: 54 :: 5 :: 3 :: 54 :: 6 :: 21 :: 6 :: 42 :: 182 :: 0 :: 225 :: 163 :: 0 :: 83 :: 42 :: 21 :: 6 :: 182 :: 1 :: 12 :: 87 :: 42 :: 17 :: 1 :: 104 :: 28 :: fp_scX12_extra_1
theorem fp_bcX12_extra : bA cX12_extra 0 fp_scX12_extra_0 := show cX12_extra.data.toList.map UInt8.toNat = fp_scX12_extra_0 from by decide +kernel
theorem fp_hdX12_extra_0 : (((((decode cX12_extra 0 = .ok (.iload_n 1, 1) ∧ decode cX12_extra 1 = .ok (.invokestatic 228, 3)) ∧ (decode cX12_extra 4 = .ok (.ifCond .eq 21, 3) ∧ decode cX12_extra 7 = .ok (.aload_n 0, 1))) ∧ ((decode cX12_extra 8 = .ok (.iload_n 2, 1) ∧ decode cX12_extra 9 = .ok (.invokevirtual 219, 3)) ∧ (decode cX12_extra 12 = .ok (.ifCond .eq 13, 3) ∧ decode cX12_extra 15 = .ok (.iload_n 3, 1)))) ∧ (((decode cX12_extra 16 = .ok (.i2l, 1) ∧ decode cX12_extra 17 = .ok (.lconst 0, 1)) ∧ (decode cX12_extra 18 = .ok (.lconst 1, 1) ∧ decode cX12_extra 19 = .ok (.invokestatic 94, 3))) ∧ ((decode cX12_extra 22 = .ok (.ifCond .ne 5, 3) ∧ decode cX12_extra 25 = .ok (.iconst (-1), 1)) ∧ (decode cX12_extra 26 = .ok (.ireturn, 1) ∧ decode cX12_extra 27 = .ok (.bipush (-4), 2))))) ∧ ((((decode cX12_extra 29 = .ok (.istore 4, 2) ∧ decode cX12_extra 31 = .ok (.bipush (-4), 2)) ∧ (decode cX12_extra 33 = .ok (.istore 5, 2) ∧ decode cX12_extra 35 = .ok (.iconst 0, 1))) ∧ ((decode cX12_extra 36 = .ok (.istore 6, 2) ∧ decode cX12_extra 38 = .ok (.iload 6, 2)) ∧ (decode cX12_extra 40 = .ok (.aload_n 0, 1) ∧ decode cX12_extra 41 = .ok (.invokevirtual 225, 3)))) ∧ (((decode cX12_extra 44 = .ok (.if_icmp .gt 83, 3) ∧ decode cX12_extra 47 = .ok (.aload_n 0, 1)) ∧ (decode cX12_extra 48 = .ok (.iload 6, 2) ∧ decode cX12_extra 50 = .ok (.invokevirtual 268, 3))) ∧ ((decode cX12_extra 53 = .ok (.pop, 1) ∧ decode cX12_extra 54 = .ok (.aload_n 0, 1)) ∧ (decode cX12_extra 55 = .ok (.sipush 360, 3) ∧ decode cX12_extra 58 = .ok (.iload_n 2, 1)))))) ∧ bA cX12_extra 59 fp_scX12_extra_1 :=
  have q0 := fp_o27 fp_bcX12_extra
  have q1 := fp_o184 (v := 228) q0.2 rfl
  have q2 := fp_o153 (v := 21) q1.2 rfl
  have q3 := fp_o42 q2.2
  have q4 := fp_o28 q3.2
  have q5 := fp_o182 (v := 219) q4.2 rfl
  have q6 := fp_o153 (v := 13) q5.2 rfl
  have q7 := fp_o29 q6.2
  have q8 := fp_o133 q7.2
  have q9 := fp_o9 q8.2
  have q10 := fp_o10 q9.2
  have q11 := fp_o184 (v := 94) q10.2 rfl
  have q12 := fp_o154 (v := 5) q11.2 rfl
  have q13 := fp_o2 q12.2
  have q14 := fp_o172 q13.2
  have q15 := fp_o16 (v := (-4)) q14.2 rfl
  have q16 := fp_o54 q15.2
  have q17 := fp_o16 (v := (-4)) q16.2 rfl
  have q18 := fp_o54 q17.2
  have q19 := fp_o3 q18.2
  have q20 := fp_o54 q19.2
  have q21 := fp_o21 q20.2
  have q22 := fp_o42 q21.2
  have q23 := fp_o182 (v := 225) q22.2 rfl
  have q24 := fp_o163 (v := 83) q23.2 rfl
  have q25 := fp_o42 q24.2
  have q26 := fp_o21 q25.2
  have q27 := fp_o182 (v := 268) q26.2 rfl
  have q28 := fp_o87 q27.2
  have q29 := fp_o42 q28.2
  have q30 := fp_o17 (v := 360) q29.2 rfl
  have q31 := fp_o28 q30.2
  ⟨⟨⟨⟨⟨⟨q0.1, q1.1⟩, ⟨q2.1, q3.1⟩⟩, ⟨⟨q4.1, q5.1⟩, ⟨q6.1, q7.1⟩⟩⟩, ⟨⟨⟨q8.1, q9.1⟩, ⟨q10.1, q11.1⟩⟩, ⟨⟨q12.1, q13.1⟩, ⟨q14.1, q15.1⟩⟩⟩⟩, ⟨⟨⟨⟨q16.1, q17.1⟩, ⟨q18.1, q19.1⟩⟩, ⟨⟨q20.1, q21.1⟩, ⟨q22.1, q23.1⟩⟩⟩, ⟨⟨⟨q24.1, q25.1⟩, ⟨q26.1, q27.1⟩⟩, ⟨⟨q28.1, q29.1⟩, ⟨q30.1, q31.1⟩⟩⟩⟩⟩, q31.2⟩
theorem dX12_extra_0 : decode cX12_extra 0 = .ok (.iload_n 1, 1) := fp_hdX12_extra_0.1.1.1.1.1.1
theorem dX12_extra_1 : decode cX12_extra 1 = .ok (.invokestatic 228, 3) := fp_hdX12_extra_0.1.1.1.1.1.2
theorem dX12_extra_4 : decode cX12_extra 4 = .ok (.ifCond .eq 21, 3) := fp_hdX12_extra_0.1.1.1.1.2.1
theorem dX12_extra_7 : decode cX12_extra 7 = .ok (.aload_n 0, 1) := fp_hdX12_extra_0.1.1.1.1.2.2
theorem dX12_extra_8 : decode cX12_extra 8 = .ok (.iload_n 2, 1) := fp_hdX12_extra_0.1.1.1.2.1.1
theorem dX12_extra_9 : decode cX12_extra 9 = .ok (.invokevirtual 219, 3) := fp_hdX12_extra_0.1.1.1.2.1.2
theorem dX12_extra_12 : decode cX12_extra 12 = .ok (.ifCond .eq 13, 3) := fp_hdX12_extra_0.1.1.1.2.2.1
theorem dX12_extra_15 : decode cX12_extra 15 = .ok (.iload_n 3, 1) := fp_hdX12_extra_0.1.1.1.2.2.2
theorem dX12_extra_16 : decode cX12_extra 16 = .ok (.i2l, 1) := fp_hdX12_extra_0.1.1.2.1.1.1
theorem dX12_extra_17 : decode cX12_extra 17 = .ok (.lconst 0, 1) := fp_hdX12_extra_0.1.1.2.1.1.2
theorem dX12_extra_18 : decode cX12_extra 18 = .ok (.lconst 1, 1) := fp_hdX12_extra_0.1.1.2.1.2.1
theorem dX12_extra_19 : decode cX12_extra 19 = .ok (.invokestatic 94, 3) := fp_hdX12_extra_0.1.1.2.1.2.2
theorem dX12_extra_22 : decode cX12_extra 22 = .ok (.ifCond .ne 5, 3) := fp_hdX12_extra_0.1.1.2.2.1.1
theorem dX12_extra_25 : decode cX12_extra 25 = .ok (.iconst (-1), 1) := fp_hdX12_extra_0.1.1.2.2.1.2
theorem dX12_extra_26 : decode cX12_extra 26 = .ok (.ireturn, 1) := fp_hdX12_extra_0.1.1.2.2.2.1
theorem dX12_extra_27 : decode cX12_extra 27 = .ok (.bipush (-4), 2) := fp_hdX12_extra_0.1.1.2.2.2.2
theorem dX12_extra_29 : decode cX12_extra 29 = .ok (.istore 4, 2) := fp_hdX12_extra_0.1.2.1.1.1.1
theorem dX12_extra_31 : decode cX12_extra 31 = .ok (.bipush (-4), 2) := fp_hdX12_extra_0.1.2.1.1.1.2
theorem dX12_extra_33 : decode cX12_extra 33 = .ok (.istore 5, 2) := fp_hdX12_extra_0.1.2.1.1.2.1
theorem dX12_extra_35 : decode cX12_extra 35 = .ok (.iconst 0, 1) := fp_hdX12_extra_0.1.2.1.1.2.2
theorem dX12_extra_36 : decode cX12_extra 36 = .ok (.istore 6, 2) := fp_hdX12_extra_0.1.2.1.2.1.1
theorem dX12_extra_38 : decode cX12_extra 38 = .ok (.iload 6, 2) := fp_hdX12_extra_0.1.2.1.2.1.2
theorem dX12_extra_40 : decode cX12_extra 40 = .ok (.aload_n 0, 1) := fp_hdX12_extra_0.1.2.1.2.2.1
theorem dX12_extra_41 : decode cX12_extra 41 = .ok (.invokevirtual 225, 3) := fp_hdX12_extra_0.1.2.1.2.2.2
theorem dX12_extra_44 : decode cX12_extra 44 = .ok (.if_icmp .gt 83, 3) := fp_hdX12_extra_0.1.2.2.1.1.1
theorem dX12_extra_47 : decode cX12_extra 47 = .ok (.aload_n 0, 1) := fp_hdX12_extra_0.1.2.2.1.1.2
theorem dX12_extra_48 : decode cX12_extra 48 = .ok (.iload 6, 2) := fp_hdX12_extra_0.1.2.2.1.2.1
theorem dX12_extra_50 : decode cX12_extra 50 = .ok (.invokevirtual 268, 3) := fp_hdX12_extra_0.1.2.2.1.2.2
theorem dX12_extra_53 : decode cX12_extra 53 = .ok (.pop, 1) := fp_hdX12_extra_0.1.2.2.2.1.1
theorem dX12_extra_54 : decode cX12_extra 54 = .ok (.aload_n 0, 1) := fp_hdX12_extra_0.1.2.2.2.1.2
theorem dX12_extra_55 : decode cX12_extra 55 = .ok (.sipush 360, 3) := fp_hdX12_extra_0.1.2.2.2.2.1
theorem dX12_extra_58 : decode cX12_extra 58 = .ok (.iload_n 2, 1) := fp_hdX12_extra_0.1.2.2.2.2.2
theorem fp_hdX12_extra_59 : (((((decode cX12_extra 59 = .ok (.invokevirtual 222, 3) ∧ decode cX12_extra 62 = .ok (.istore 7, 2)) ∧ (decode cX12_extra 64 = .ok (.iload 7, 2) ∧ decode cX12_extra 66 = .ok (.bipush (-4), 2))) ∧ ((decode cX12_extra 68 = .ok (.if_icmp .ne 8, 3) ∧ decode cX12_extra 71 = .ok (.bipush (-4), 2)) ∧ (decode cX12_extra 73 = .ok (.goto 14, 3) ∧ decode cX12_extra 76 = .ok (.aload_n 0, 1)))) ∧ (((decode cX12_extra 77 = .ok (.getfield 16, 3) ∧ decode cX12_extra 80 = .ok (.iconst 4, 1)) ∧ (decode cX12_extra 81 = .ok (.iload 7, 2) ∧ decode cX12_extra 83 = .ok (.imul, 1))) ∧ ((decode cX12_extra 84 = .ok (.iload_n 1, 1) ∧ decode cX12_extra 85 = .ok (.iadd, 1)) ∧ (decode cX12_extra 86 = .ok (.iaload, 1) ∧ decode cX12_extra 87 = .ok (.istore 8, 2))))) ∧ ((((decode cX12_extra 89 = .ok (.iload 8, 2) ∧ decode cX12_extra 91 = .ok (.iload 4, 2)) ∧ (decode cX12_extra 93 = .ok (.if_icmp .le 8, 3) ∧ decode cX12_extra 96 = .ok (.iload 6, 2))) ∧ ((decode cX12_extra 98 = .ok (.goto 5, 3) ∧ decode cX12_extra 101 = .ok (.iload 5, 2)) ∧ (decode cX12_extra 103 = .ok (.istore 5, 2) ∧ decode cX12_extra 105 = .ok (.iload 8, 2)))) ∧ (((decode cX12_extra 107 = .ok (.iload 4, 2) ∧ decode cX12_extra 109 = .ok (.if_icmp .le 8, 3)) ∧ (decode cX12_extra 112 = .ok (.iload 8, 2) ∧ decode cX12_extra 114 = .ok (.goto 5, 3))) ∧ ((decode cX12_extra 117 = .ok (.iload 4, 2) ∧ decode cX12_extra 119 = .ok (.istore 4, 2)) ∧ (decode cX12_extra 121 = .ok (.iinc 6 1, 3) ∧ decode cX12_extra 124 = .ok (.goto (-86), 3)))))) ∧ bA cX12_extra 127 fp_scX12_extra_2 :=
  have q0 := fp_o182 (v := 222) fp_hdX12_extra_0.2 rfl
  have q1 := fp_o54 q0.2
  have q2 := fp_o21 q1.2
  have q3 := fp_o16 (v := (-4)) q2.2 rfl
  have q4 := fp_o160 (v := 8) q3.2 rfl
  have q5 := fp_o16 (v := (-4)) q4.2 rfl
  have q6 := fp_o167 (v := 14) q5.2 rfl
  have q7 := fp_o42 q6.2
  have q8 := fp_o180 (v := 16) q7.2 rfl
  have q9 := fp_o7 q8.2
  have q10 := fp_o21 q9.2
  have q11 := fp_o104 q10.2
  have q12 := fp_o27 q11.2
  have q13 := fp_o96 q12.2
  have q14 := fp_o46 q13.2
  have q15 := fp_o54 q14.2
  have q16 := fp_o21 q15.2
  have q17 := fp_o21 q16.2
  have q18 := fp_o164 (v := 8) q17.2 rfl
  have q19 := fp_o21 q18.2
  have q20 := fp_o167 (v := 5) q19.2 rfl
  have q21 := fp_o21 q20.2
  have q22 := fp_o54 q21.2
  have q23 := fp_o21 q22.2
  have q24 := fp_o21 q23.2
  have q25 := fp_o164 (v := 8) q24.2 rfl
  have q26 := fp_o21 q25.2
  have q27 := fp_o167 (v := 5) q26.2 rfl
  have q28 := fp_o21 q27.2
  have q29 := fp_o54 q28.2
  have q30 := fp_o132 (v := 1) q29.2 rfl
  have q31 := fp_o167 (v := (-86)) q30.2 rfl
  ⟨⟨⟨⟨⟨⟨q0.1, q1.1⟩, ⟨q2.1, q3.1⟩⟩, ⟨⟨q4.1, q5.1⟩, ⟨q6.1, q7.1⟩⟩⟩, ⟨⟨⟨q8.1, q9.1⟩, ⟨q10.1, q11.1⟩⟩, ⟨⟨q12.1, q13.1⟩, ⟨q14.1, q15.1⟩⟩⟩⟩, ⟨⟨⟨⟨q16.1, q17.1⟩, ⟨q18.1, q19.1⟩⟩, ⟨⟨q20.1, q21.1⟩, ⟨q22.1, q23.1⟩⟩⟩, ⟨⟨⟨q24.1, q25.1⟩, ⟨q26.1, q27.1⟩⟩, ⟨⟨q28.1, q29.1⟩, ⟨q30.1, q31.1⟩⟩⟩⟩⟩, q31.2⟩
theorem dX12_extra_59 : decode cX12_extra 59 = .ok (.invokevirtual 222, 3) := fp_hdX12_extra_59.1.1.1.1.1.1
theorem dX12_extra_62 : decode cX12_extra 62 = .ok (.istore 7, 2) := fp_hdX12_extra_59.1.1.1.1.1.2
theorem dX12_extra_64 : decode cX12_extra 64 = .ok (.iload 7, 2) := fp_hdX12_extra_59.1.1.1.1.2.1
theorem dX12_extra_66 : decode cX12_extra 66 = .ok (.bipush (-4), 2) := fp_hdX12_extra_59.1.1.1.1.2.2
theorem dX12_extra_68 : decode cX12_extra 68 = .ok (.if_icmp .ne 8, 3) := fp_hdX12_extra_59.1.1.1.2.1.1
theorem dX12_extra_71 : decode cX12_extra 71 = .ok (.bipush (-4), 2) := fp_hdX12_extra_59.1.1.1.2.1.2
theorem dX12_extra_73 : decode cX12_extra 73 = .ok (.goto 14, 3) := fp_hdX12_extra_59.1.1.1.2.2.1
theorem dX12_extra_76 : decode cX12_extra 76 = .ok (.aload_n 0, 1) := fp_hdX12_extra_59.1.1.1.2.2.2
theorem dX12_extra_77 : decode cX12_extra 77 = .ok (.getfield 16, 3) := fp_hdX12_extra_59.1.1.2.1.1.1
theorem dX12_extra_80 : decode cX12_extra 80 = .ok (.iconst 4, 1) := fp_hdX12_extra_59.1.1.2.1.1.2
theorem dX12_extra_81 : decode cX12_extra 81 = .ok (.iload 7, 2) := fp_hdX12_extra_59.1.1.2.1.2.1
theorem dX12_extra_83 : decode cX12_extra 83 = .ok (.imul, 1) := fp_hdX12_extra_59.1.1.2.1.2.2
theorem dX12_extra_84 : decode cX12_extra 84 = .ok (.iload_n 1, 1) := fp_hdX12_extra_59.1.1.2.2.1.1
theorem dX12_extra_85 : decode cX12_extra 85 = .ok (.iadd, 1) := fp_hdX12_extra_59.1.1.2.2.1.2
theorem dX12_extra_86 : decode cX12_extra 86 = .ok (.iaload, 1) := fp_hdX12_extra_59.1.1.2.2.2.1
theorem dX12_extra_87 : decode cX12_extra 87 = .ok (.istore 8, 2) := fp_hdX12_extra_59.1.1.2.2.2.2
theorem dX12_extra_89 : decode cX12_extra 89 = .ok (.iload 8, 2) := fp_hdX12_extra_59.1.2.1.1.1.1
theorem dX12_extra_91 : decode cX12_extra 91 = .ok (.iload 4, 2) := fp_hdX12_extra_59.1.2.1.1.1.2
theorem dX12_extra_93 : decode cX12_extra 93 = .ok (.if_icmp .le 8, 3) := fp_hdX12_extra_59.1.2.1.1.2.1
theorem dX12_extra_96 : decode cX12_extra 96 = .ok (.iload 6, 2) := fp_hdX12_extra_59.1.2.1.1.2.2
theorem dX12_extra_98 : decode cX12_extra 98 = .ok (.goto 5, 3) := fp_hdX12_extra_59.1.2.1.2.1.1
theorem dX12_extra_101 : decode cX12_extra 101 = .ok (.iload 5, 2) := fp_hdX12_extra_59.1.2.1.2.1.2
theorem dX12_extra_103 : decode cX12_extra 103 = .ok (.istore 5, 2) := fp_hdX12_extra_59.1.2.1.2.2.1
theorem dX12_extra_105 : decode cX12_extra 105 = .ok (.iload 8, 2) := fp_hdX12_extra_59.1.2.1.2.2.2
theorem dX12_extra_107 : decode cX12_extra 107 = .ok (.iload 4, 2) := fp_hdX12_extra_59.1.2.2.1.1.1
theorem dX12_extra_109 : decode cX12_extra 109 = .ok (.if_icmp .le 8, 3) := fp_hdX12_extra_59.1.2.2.1.1.2
theorem dX12_extra_112 : decode cX12_extra 112 = .ok (.iload 8, 2) := fp_hdX12_extra_59.1.2.2.1.2.1
theorem dX12_extra_114 : decode cX12_extra 114 = .ok (.goto 5, 3) := fp_hdX12_extra_59.1.2.2.1.2.2
theorem dX12_extra_117 : decode cX12_extra 117 = .ok (.iload 4, 2) := fp_hdX12_extra_59.1.2.2.2.1.1
theorem dX12_extra_119 : decode cX12_extra 119 = .ok (.istore 4, 2) := fp_hdX12_extra_59.1.2.2.2.1.2
theorem dX12_extra_121 : decode cX12_extra 121 = .ok (.iinc 6 1, 3) := fp_hdX12_extra_59.1.2.2.2.2.1
theorem dX12_extra_124 : decode cX12_extra 124 = .ok (.goto (-86), 3) := fp_hdX12_extra_59.1.2.2.2.2.2
theorem fp_hdX12_extra_127 : ((((decode cX12_extra 127 = .ok (.iload 5, 2) ∧ decode cX12_extra 129 = .ok (.bipush (-4), 2)) ∧ decode cX12_extra 131 = .ok (.if_icmp .eq 8, 3)) ∧ (decode cX12_extra 134 = .ok (.iload_n 3, 1) ∧ decode cX12_extra 135 = .ok (.iconst 1, 1))) ∧ (((decode cX12_extra 136 = .ok (.if_icmp .ne 8, 3) ∧ decode cX12_extra 139 = .ok (.iload 5, 2)) ∧ decode cX12_extra 141 = .ok (.goto 5, 3)) ∧ (decode cX12_extra 144 = .ok (.iload 4, 2) ∧ decode cX12_extra 146 = .ok (.ireturn, 1)))) ∧ bA cX12_extra 147 [] :=
  have q0 := fp_o21 fp_hdX12_extra_59.2
  have q1 := fp_o16 (v := (-4)) q0.2 rfl
  have q2 := fp_o159 (v := 8) q1.2 rfl
  have q3 := fp_o29 q2.2
  have q4 := fp_o4 q3.2
  have q5 := fp_o160 (v := 8) q4.2 rfl
  have q6 := fp_o21 q5.2
  have q7 := fp_o167 (v := 5) q6.2 rfl
  have q8 := fp_o21 q7.2
  have q9 := fp_o172 q8.2
  ⟨⟨⟨⟨⟨q0.1, q1.1⟩, q2.1⟩, ⟨q3.1, q4.1⟩⟩, ⟨⟨⟨q5.1, q6.1⟩, q7.1⟩, ⟨q8.1, q9.1⟩⟩⟩, q9.2⟩
theorem dX12_extra_127 : decode cX12_extra 127 = .ok (.iload 5, 2) := fp_hdX12_extra_127.1.1.1.1.1
theorem dX12_extra_129 : decode cX12_extra 129 = .ok (.bipush (-4), 2) := fp_hdX12_extra_127.1.1.1.1.2
theorem dX12_extra_131 : decode cX12_extra 131 = .ok (.if_icmp .eq 8, 3) := fp_hdX12_extra_127.1.1.1.2
theorem dX12_extra_134 : decode cX12_extra 134 = .ok (.iload_n 3, 1) := fp_hdX12_extra_127.1.1.2.1
theorem dX12_extra_135 : decode cX12_extra 135 = .ok (.iconst 1, 1) := fp_hdX12_extra_127.1.1.2.2
theorem dX12_extra_136 : decode cX12_extra 136 = .ok (.if_icmp .ne 8, 3) := fp_hdX12_extra_127.1.2.1.1.1
theorem dX12_extra_139 : decode cX12_extra 139 = .ok (.iload 5, 2) := fp_hdX12_extra_127.1.2.1.1.2
theorem dX12_extra_141 : decode cX12_extra 141 = .ok (.goto 5, 3) := fp_hdX12_extra_127.1.2.1.2
theorem dX12_extra_144 : decode cX12_extra 144 = .ok (.iload 4, 2) := fp_hdX12_extra_127.1.2.2.1
theorem dX12_extra_146 : decode cX12_extra 146 = .ok (.ireturn, 1) := fp_hdX12_extra_127.1.2.2.2
def fp_scX12_aim_1 : List Nat := 27 :: 160 :: 0 :: 14 :: 28 :: 154 :: 0 :: 7 :: 29 :: 167 :: 0 :: 5 :: 21 :: 4 :: 172 :: 132 :: 4 :: 1 :: 167 :: 255 :: 220 :: 132 :: 3 :: 1 :: 167 :: 255 :: 197 :: 16 :: 252 :: 172 :: []
def fp_scX12_aim_0 : List Nat := 42 :: 27 :: 182 :: 0 :: 205 :: 153 :: 0 :: 13 :: 28 :: 133 :: 9 :: 10 :: 184 :: 0 :: 94 :: 154 :: 0 :: 5 :: 2 :: 172 :: 3 :: 62 :: 29 :: 42 :: 182 :: 0 :: 225 :: 163 :: 0 :: 57 :: 42 :: 29 :: 182 :: 1 :: 12 :: 87 :: 3 :: 54 :: 4 :: 21 :: 4 :: 42 :: 180 :: 0 :: 184 :: 162 :: 0 :: 33 :: 42 :: 17 :: 1 :: 104 :: 21 :: 4 :: 182 :: 0 :: 222 :: fp_scX12_aim_1
theorem fp_bcX12_aim : bA cX12_aim 0 fp_scX12_aim_0 := show cX12_aim.data.toList.map UInt8.toNat = fp_scX12_aim_0 from by decide +kernel
theorem fp_hdX12_aim_0 : (((((decode cX12_aim 0 = .ok (.aload_n 0, 1) ∧ decode cX12_aim 1 = .ok (.iload_n 1, 1)) ∧ (decode cX12_aim 2 = .ok (.invokevirtual 205, 3) ∧ decode cX12_aim 5 = .ok (.ifCond .eq 13, 3))) ∧ ((decode cX12_aim 8 = .ok (.iload_n 2, 1) ∧ decode cX12_aim 9 = .ok (.i2l, 1)) ∧ (decode cX12_aim 10 = .ok (.lconst 0, 1) ∧ decode cX12_aim 11 = .ok (.lconst 1, 1)))) ∧ (((decode cX12_aim 12 = .ok (.invokestatic 94, 3) ∧ decode cX12_aim 15 = .ok (.ifCond .ne 5, 3)) ∧ (decode cX12_aim 18 = .ok (.iconst (-1), 1) ∧ decode cX12_aim 19 = .ok (.ireturn, 1))) ∧ ((decode cX12_aim 20 = .ok (.iconst 0, 1) ∧ decode cX12_aim 21 = .ok (.istore_n 3, 1)) ∧ (decode cX12_aim 22 = .ok (.iload_n 3, 1) ∧ decode cX12_aim 23 = .ok (.aload_n 0, 1))))) ∧ ((((decode cX12_aim 24 = .ok (.invokevirtual 225, 3) ∧ decode cX12_aim 27 = .ok (.if_icmp .gt 57, 3)) ∧ (decode cX12_aim 30 = .ok (.aload_n 0, 1) ∧ decode cX12_aim 31 = .ok (.iload_n 3, 1))) ∧ ((decode cX12_aim 32 = .ok (.invokevirtual 268, 3) ∧ decode cX12_aim 35 = .ok (.pop, 1)) ∧ (decode cX12_aim 36 = .ok (.iconst 0, 1) ∧ decode cX12_aim 37 = .ok (.istore 4, 2)))) ∧ (((decode cX12_aim 39 = .ok (.iload 4, 2) ∧ decode cX12_aim 41 = .ok (.aload_n 0, 1)) ∧ (decode cX12_aim 42 = .ok (.getfield 184, 3) ∧ decode cX12_aim 45 = .ok (.if_icmp .ge 33, 3))) ∧ ((decode cX12_aim 48 = .ok (.aload_n 0, 1) ∧ decode cX12_aim 49 = .ok (.sipush 360, 3)) ∧ (decode cX12_aim 52 = .ok (.iload 4, 2) ∧ decode cX12_aim 54 = .ok (.invokevirtual 222, 3)))))) ∧ bA cX12_aim 57 fp_scX12_aim_1 :=
  have q0 := fp_o42 fp_bcX12_aim
  have q1 := fp_o27 q0.2
  have q2 := fp_o182 (v := 205) q1.2 rfl
  have q3 := fp_o153 (v := 13) q2.2 rfl
  have q4 := fp_o28 q3.2
  have q5 := fp_o133 q4.2
  have q6 := fp_o9 q5.2
  have q7 := fp_o10 q6.2
  have q8 := fp_o184 (v := 94) q7.2 rfl
  have q9 := fp_o154 (v := 5) q8.2 rfl
  have q10 := fp_o2 q9.2
  have q11 := fp_o172 q10.2
  have q12 := fp_o3 q11.2
  have q13 := fp_o62 q12.2
  have q14 := fp_o29 q13.2
  have q15 := fp_o42 q14.2
  have q16 := fp_o182 (v := 225) q15.2 rfl
  have q17 := fp_o163 (v := 57) q16.2 rfl
  have q18 := fp_o42 q17.2
  have q19 := fp_o29 q18.2
  have q20 := fp_o182 (v := 268) q19.2 rfl
  have q21 := fp_o87 q20.2
  have q22 := fp_o3 q21.2
  have q23 := fp_o54 q22.2
  have q24 := fp_o21 q23.2
  have q25 := fp_o42 q24.2
  have q26 := fp_o180 (v := 184) q25.2 rfl
  have q27 := fp_o162 (v := 33) q26.2 rfl
  have q28 := fp_o42 q27.2
  have q29 := fp_o17 (v := 360) q28.2 rfl
  have q30 := fp_o21 q29.2
  have q31 := fp_o182 (v := 222) q30.2 rfl
  ⟨⟨⟨⟨⟨⟨q0.1, q1.1⟩, ⟨q2.1, q3.1⟩⟩, ⟨⟨q4.1, q5.1⟩, ⟨q6.1, q7.1⟩⟩⟩, ⟨⟨⟨q8.1, q9.1⟩, ⟨q10.1, q11.1⟩⟩, ⟨⟨q12.1, q13.1⟩, ⟨q14.1, q15.1⟩⟩⟩⟩, ⟨⟨⟨⟨q16.1, q17.1⟩, ⟨q18.1, q19.1⟩⟩, ⟨⟨q20.1, q21.1⟩, ⟨q22.1, q23.1⟩⟩⟩, ⟨⟨⟨q24.1, q25.1⟩, ⟨q26.1, q27.1⟩⟩, ⟨⟨q28.1, q29.1⟩, ⟨q30.1, q31.1⟩⟩⟩⟩⟩, q31.2⟩
theorem dX12_aim_0 : decode cX12_aim 0 = .ok (.aload_n 0, 1) := fp_hdX12_aim_0.1.1.1.1.1.1
theorem dX12_aim_1 : decode cX12_aim 1 = .ok (.iload_n 1, 1) := fp_hdX12_aim_0.1.1.1.1.1.2
theorem dX12_aim_2 : decode cX12_aim 2 = .ok (.invokevirtual 205, 3) := fp_hdX12_aim_0.1.1.1.1.2.1
theorem dX12_aim_5 : decode cX12_aim 5 = .ok (.ifCond .eq 13, 3) := fp_hdX12_aim_0.1.1.1.1.2.2
theorem dX12_aim_8 : decode cX12_aim 8 = .ok (.iload_n 2, 1) := fp_hdX12_aim_0.1.1.1.2.1.1
theorem dX12_aim_9 : decode cX12_aim 9 = .ok (.i2l, 1) := fp_hdX12_aim_0.1.1.1.2.1.2
theorem dX12_aim_10 : decode cX12_aim 10 = .ok (.lconst 0, 1) := fp_hdX12_aim_0.1.1.1.2.2.1
theorem dX12_aim_11 : decode cX12_aim 11 = .ok (.lconst 1, 1) := fp_hdX12_aim_0.1.1.1.2.2.2
theorem dX12_aim_12 : decode cX12_aim 12 = .ok (.invokestatic 94, 3) := fp_hdX12_aim_0.1.1.2.1.1.1
theorem dX12_aim_15 : decode cX12_aim 15 = .ok (.ifCond .ne 5, 3) := fp_hdX12_aim_0.1.1.2.1.1.2
theorem dX12_aim_18 : decode cX12_aim 18 = .ok (.iconst (-1), 1) := fp_hdX12_aim_0.1.1.2.1.2.1
theorem dX12_aim_19 : decode cX12_aim 19 = .ok (.ireturn, 1) := fp_hdX12_aim_0.1.1.2.1.2.2
theorem dX12_aim_20 : decode cX12_aim 20 = .ok (.iconst 0, 1) := fp_hdX12_aim_0.1.1.2.2.1.1
theorem dX12_aim_21 : decode cX12_aim 21 = .ok (.istore_n 3, 1) := fp_hdX12_aim_0.1.1.2.2.1.2
theorem dX12_aim_22 : decode cX12_aim 22 = .ok (.iload_n 3, 1) := fp_hdX12_aim_0.1.1.2.2.2.1
theorem dX12_aim_23 : decode cX12_aim 23 = .ok (.aload_n 0, 1) := fp_hdX12_aim_0.1.1.2.2.2.2
theorem dX12_aim_24 : decode cX12_aim 24 = .ok (.invokevirtual 225, 3) := fp_hdX12_aim_0.1.2.1.1.1.1
theorem dX12_aim_27 : decode cX12_aim 27 = .ok (.if_icmp .gt 57, 3) := fp_hdX12_aim_0.1.2.1.1.1.2
theorem dX12_aim_30 : decode cX12_aim 30 = .ok (.aload_n 0, 1) := fp_hdX12_aim_0.1.2.1.1.2.1
theorem dX12_aim_31 : decode cX12_aim 31 = .ok (.iload_n 3, 1) := fp_hdX12_aim_0.1.2.1.1.2.2
theorem dX12_aim_32 : decode cX12_aim 32 = .ok (.invokevirtual 268, 3) := fp_hdX12_aim_0.1.2.1.2.1.1
theorem dX12_aim_35 : decode cX12_aim 35 = .ok (.pop, 1) := fp_hdX12_aim_0.1.2.1.2.1.2
theorem dX12_aim_36 : decode cX12_aim 36 = .ok (.iconst 0, 1) := fp_hdX12_aim_0.1.2.1.2.2.1
theorem dX12_aim_37 : decode cX12_aim 37 = .ok (.istore 4, 2) := fp_hdX12_aim_0.1.2.1.2.2.2
theorem dX12_aim_39 : decode cX12_aim 39 = .ok (.iload 4, 2) := fp_hdX12_aim_0.1.2.2.1.1.1
theorem dX12_aim_41 : decode cX12_aim 41 = .ok (.aload_n 0, 1) := fp_hdX12_aim_0.1.2.2.1.1.2
theorem dX12_aim_42 : decode cX12_aim 42 = .ok (.getfield 184, 3) := fp_hdX12_aim_0.1.2.2.1.2.1
theorem dX12_aim_45 : decode cX12_aim 45 = .ok (.if_icmp .ge 33, 3) := fp_hdX12_aim_0.1.2.2.1.2.2
theorem dX12_aim_48 : decode cX12_aim 48 = .ok (.aload_n 0, 1) := fp_hdX12_aim_0.1.2.2.2.1.1
theorem dX12_aim_49 : decode cX12_aim 49 = .ok (.sipush 360, 3) := fp_hdX12_aim_0.1.2.2.2.1.2
theorem dX12_aim_52 : decode cX12_aim 52 = .ok (.iload 4, 2) := fp_hdX12_aim_0.1.2.2.2.2.1
theorem dX12_aim_54 : decode cX12_aim 54 = .ok (.invokevirtual 222, 3) := fp_hdX12_aim_0.1.2.2.2.2.2
theorem fp_hdX12_aim_57 : ((((decode cX12_aim 57 = .ok (.iload_n 1, 1) ∧ decode cX12_aim 58 = .ok (.if_icmp .ne 14, 3)) ∧ (decode cX12_aim 61 = .ok (.iload_n 2, 1) ∧ decode cX12_aim 62 = .ok (.ifCond .ne 7, 3))) ∧ ((decode cX12_aim 65 = .ok (.iload_n 3, 1) ∧ decode cX12_aim 66 = .ok (.goto 5, 3)) ∧ decode cX12_aim 69 = .ok (.iload 4, 2))) ∧ (((decode cX12_aim 71 = .ok (.ireturn, 1) ∧ decode cX12_aim 72 = .ok (.iinc 4 1, 3)) ∧ (decode cX12_aim 75 = .ok (.goto (-36), 3) ∧ decode cX12_aim 78 = .ok (.iinc 3 1, 3))) ∧ ((decode cX12_aim 81 = .ok (.goto (-59), 3) ∧ decode cX12_aim 84 = .ok (.bipush (-4), 2)) ∧ decode cX12_aim 86 = .ok (.ireturn, 1)))) ∧ bA cX12_aim 87 [] :=
  have q0 := fp_o27 fp_hdX12_aim_0.2
  have q1 := fp_o160 (v := 14) q0.2 rfl
  have q2 := fp_o28 q1.2
  have q3 := fp_o154 (v := 7) q2.2 rfl
  have q4 := fp_o29 q3.2
  have q5 := fp_o167 (v := 5) q4.2 rfl
  have q6 := fp_o21 q5.2
  have q7 := fp_o172 q6.2
  have q8 := fp_o132 (v := 1) q7.2 rfl
  have q9 := fp_o167 (v := (-36)) q8.2 rfl
  have q10 := fp_o132 (v := 1) q9.2 rfl
  have q11 := fp_o167 (v := (-59)) q10.2 rfl
  have q12 := fp_o16 (v := (-4)) q11.2 rfl
  have q13 := fp_o172 q12.2
  ⟨⟨⟨⟨⟨q0.1, q1.1⟩, ⟨q2.1, q3.1⟩⟩, ⟨⟨q4.1, q5.1⟩, q6.1⟩⟩, ⟨⟨⟨q7.1, q8.1⟩, ⟨q9.1, q10.1⟩⟩, ⟨⟨q11.1, q12.1⟩, q13.1⟩⟩⟩, q13.2⟩
theorem dX12_aim_57 : decode cX12_aim 57 = .ok (.iload_n 1, 1) := fp_hdX12_aim_57.1.1.1.1.1
theorem dX12_aim_58 : decode cX12_aim 58 = .ok (.if_icmp .ne 14, 3) := fp_hdX12_aim_57.1.1.1.1.2
theorem dX12_aim_61 : decode cX12_aim 61 = .ok (.iload_n 2, 1) := fp_hdX12_aim_57.1.1.1.2.1
theorem dX12_aim_62 : decode cX12_aim 62 = .ok (.ifCond .ne 7, 3) := fp_hdX12_aim_57.1.1.1.2.2
theorem dX12_aim_65 : decode cX12_aim 65 = .ok (.iload_n 3, 1) := fp_hdX12_aim_57.1.1.2.1.1
theorem dX12_aim_66 : decode cX12_aim 66 = .ok (.goto 5, 3) := fp_hdX12_aim_57.1.1.2.1.2
theorem dX12_aim_69 : decode cX12_aim 69 = .ok (.iload 4, 2) := fp_hdX12_aim_57.1.1.2.2
theorem dX12_aim_71 : decode cX12_aim 71 = .ok (.ireturn, 1) := fp_hdX12_aim_57.1.2.1.1.1
theorem dX12_aim_72 : decode cX12_aim 72 = .ok (.iinc 4 1, 3) := fp_hdX12_aim_57.1.2.1.1.2
theorem dX12_aim_75 : decode cX12_aim 75 = .ok (.goto (-36), 3) := fp_hdX12_aim_57.1.2.1.2.1
theorem dX12_aim_78 : decode cX12_aim 78 = .ok (.iinc 3 1, 3) := fp_hdX12_aim_57.1.2.1.2.2
theorem dX12_aim_81 : decode cX12_aim 81 = .ok (.goto (-59), 3) := fp_hdX12_aim_57.1.2.2.1.1
theorem dX12_aim_84 : decode cX12_aim 84 = .ok (.bipush (-4), 2) := fp_hdX12_aim_57.1.2.2.1.2
theorem dX12_aim_86 : decode cX12_aim 86 = .ok (.ireturn, 1) := fp_hdX12_aim_57.1.2.2.2
def fp_scX12_isTrick_1 : List Nat := 167 :: 0 :: 4 :: 3 :: 172 :: []
def fp_scX12_isTrick_0 : List Nat := 42 :: 21 :: 4 :: 182 :: 1 :: 12 :: 87 :: 42 :: 17 :: 1 :: 104 :: 27 :: 28 :: 21 :: 6 :: 182 :: 0 :: 244 :: 154 :: 0 :: 5 :: 3 :: 172 :: 21 :: 4 :: 54 :: 7 :: 21 :: 7 :: 21 :: 5 :: 162 :: 0 :: 19 :: 42 :: 17 :: 1 :: 104 :: 21 :: 7 :: 182 :: 1 :: 5 :: 87 :: 132 :: 7 :: 1 :: 167 :: 255 :: 236 :: 42 :: 17 :: 1 :: 104 :: 21 :: 6 :: 182 :: 0 :: 222 :: 29 :: 160 :: 0 :: 7 :: 4 :: fp_scX12_isTrick_1
theorem fp_bcX12_isTrick : bA cX12_isTrick 0 fp_scX12_isTrick_0 := show cX12_isTrick.data.toList.map UInt8.toNat = fp_scX12_isTrick_0 from by decide +kernel
theorem fp_hdX12_isTrick_0 : (((((decode cX12_isTrick 0 = .ok (.aload_n 0, 1) ∧ decode cX12_isTrick 1 = .ok (.iload 4, 2)) ∧ (decode cX12_isTrick 3 = .ok (.invokevirtual 268, 3) ∧ decode cX12_isTrick 6 = .ok (.pop, 1))) ∧ ((decode cX12_isTrick 7 = .ok (.aload_n 0, 1) ∧ decode cX12_isTrick 8 = .ok (.sipush 360, 3)) ∧ (decode cX12_isTrick 11 = .ok (.iload_n 1, 1) ∧ decode cX12_isTrick 12 = .ok (.iload_n 2, 1)))) ∧ (((decode cX12_isTrick 13 = .ok (.iload 6, 2) ∧ decode cX12_isTrick 15 = .ok (.invokevirtual 244, 3)) ∧ (decode cX12_isTrick 18 = .ok (.ifCond .ne 5, 3) ∧ decode cX12_isTrick 21 = .ok (.iconst 0, 1))) ∧ ((decode cX12_isTrick 22 = .ok (.ireturn, 1) ∧ decode cX12_isTrick 23 = .ok (.iload 4, 2)) ∧ (decode cX12_isTrick 25 = .ok (.istore 7, 2) ∧ decode cX12_isTrick 27 = .ok (.iload 7, 2))))) ∧ ((((decode cX12_isTrick 29 = .ok (.iload 5, 2) ∧ decode cX12_isTrick 31 = .ok (.if_icmp .ge 19, 3)) ∧ (decode cX12_isTrick 34 = .ok (.aload_n 0, 1) ∧ decode cX12_isTrick 35 = .ok (.sipush 360, 3))) ∧ ((decode cX12_isTrick 38 = .ok (.iload 7, 2) ∧ decode cX12_isTrick 40 = .ok (.invokevirtual 261, 3)) ∧ (decode cX12_isTrick 43 = .ok (.pop, 1) ∧ decode cX12_isTrick 44 = .ok (.iinc 7 1, 3)))) ∧ (((decode cX12_isTrick 47 = .ok (.goto (-20), 3) ∧ decode cX12_isTrick 50 = .ok (.aload_n 0, 1)) ∧ (decode cX12_isTrick 51 = .ok (.sipush 360, 3) ∧ decode cX12_isTrick 54 = .ok (.iload 6, 2))) ∧ ((decode cX12_isTrick 56 = .ok (.invokevirtual 222, 3) ∧ decode cX12_isTrick 59 = .ok (.iload_n 3, 1)) ∧ (decode cX12_isTrick 60 = .ok (.if_icmp .ne 7, 3) ∧ decode cX12_isTrick 63 = .ok (.iconst 1, 1)))))) ∧ bA cX12_isTrick 64 fp_scX12_isTrick_1 :=
  have q0 := fp_o42 fp_bcX12_isTrick
  have q1 := fp_o21 q0.2
  have q2 := fp_o182 (v := 268) q1.2 rfl
  have q3 := fp_o87 q2.2
  have q4 := fp_o42 q3.2
  have q5 := fp_o17 (v := 360) q4.2 rfl
  have q6 := fp_o27 q5.2
  have q7 := fp_o28 q6.2
  have q8 := fp_o21 q7.2
  have q9 := fp_o182 (v := 244) q8.2 rfl
  have q10 := fp_o154 (v := 5) q9.2 rfl
  have q11 := fp_o3 q10.2
  have q12 := fp_o172 q11.2
  have q13 := fp_o21 q12.2
  have q14 := fp_o54 q13.2
  have q15 := fp_o21 q14.2
  have q16 := fp_o21 q15.2
  have q17 := fp_o162 (v := 19) q16.2 rfl
  have q18 := fp_o42 q17.2
  have q19 := fp_o17 (v := 360) q18.2 rfl
  have q20 := fp_o21 q19.2
  have q21 := fp_o182 (v := 261) q20.2 rfl
  have q22 := fp_o87 q21.2
  have q23 := fp_o132 (v := 1) q22.2 rfl
  have q24 := fp_o167 (v := (-20)) q23.2 rfl
  have q25 := fp_o42 q24.2
  have q26 := fp_o17 (v := 360) q25.2 rfl
  have q27 := fp_o21 q26.2
  have q28 := fp_o182 (v := 222) q27.2 rfl
  have q29 := fp_o29 q28.2
  have q30 := fp_o160 (v := 7) q29.2 rfl
  have q31 := fp_o4 q30.2
  ⟨⟨⟨⟨⟨⟨q0.1, q1.1⟩, ⟨q2.1, q3.1⟩⟩, ⟨⟨q4.1, q5.1⟩, ⟨q6.1, q7.1⟩⟩⟩, ⟨⟨⟨q8.1, q9.1⟩, ⟨q10.1, q11.1⟩⟩, ⟨⟨q12.1, q13.1⟩, ⟨q14.1, q15.1⟩⟩⟩⟩, ⟨⟨⟨⟨q16.1, q17.1⟩, ⟨q18.1, q19.1⟩⟩, ⟨⟨q20.1, q21.1⟩, ⟨q22.1, q23.1⟩⟩⟩, ⟨⟨⟨q24.1, q25.1⟩, ⟨q26.1, q27.1⟩⟩, ⟨⟨q28.1, q29.1⟩, ⟨q30.1, q31.1⟩⟩⟩⟩⟩, q31.2⟩
theorem dX12_isTrick_0 : decode cX12_isTrick 0 = .ok (.aload_n 0, 1) := fp_hdX12_isTrick_0.1.1.1.1.1.1
theorem dX12_isTrick_1 : decode cX12_isTrick 1 = .ok (.iload 4, 2) := fp_hdX12_isTrick_0.1.1.1.1.1.2
theorem dX12_isTrick_3 : decode cX12_isTrick 3 = .ok (.invokevirtual 268, 3) := fp_hdX12_isTrick_0.1.1.1.1.2.1
theorem dX12_isTrick_6 : decode cX12_isTrick 6 = .ok (.pop, 1) := fp_hdX12_isTrick_0.1.1.1.1.2.2
theorem dX12_isTrick_7 : decode cX12_isTrick 7 = .ok (.aload_n 0, 1) := fp_hdX12_isTrick_0.1.1.1.2.1.1
theorem dX12_isTrick_8 : decode cX12_isTrick 8 = .ok (.sipush 360, 3) := fp_hdX12_isTrick_0.1.1.1.2.1.2
theorem dX12_isTrick_11 : decode cX12_isTrick 11 = .ok (.iload_n 1, 1) := fp_hdX12_isTrick_0.1.1.1.2.2.1
theorem dX12_isTrick_12 : decode cX12_isTrick 12 = .ok (.iload_n 2, 1) := fp_hdX12_isTrick_0.1.1.1.2.2.2
theorem dX12_isTrick_13 : decode cX12_isTrick 13 = .ok (.iload 6, 2) := fp_hdX12_isTrick_0.1.1.2.1.1.1
theorem dX12_isTrick_15 : decode cX12_isTrick 15 = .ok (.invokevirtual 244, 3) := fp_hdX12_isTrick_0.1.1.2.1.1.2
theorem dX12_isTrick_18 : decode cX12_isTrick 18 = .ok (.ifCond .ne 5, 3) := fp_hdX12_isTrick_0.1.1.2.1.2.1
theorem dX12_isTrick_21 : decode cX12_isTrick 21 = .ok (.iconst 0, 1) := fp_hdX12_isTrick_0.1.1.2.1.2.2
theorem dX12_isTrick_22 : decode cX12_isTrick 22 = .ok (.ireturn, 1) := fp_hdX12_isTrick_0.1.1.2.2.1.1
theorem dX12_isTrick_23 : decode cX12_isTrick 23 = .ok (.iload 4, 2) := fp_hdX12_isTrick_0.1.1.2.2.1.2
theorem dX12_isTrick_25 : decode cX12_isTrick 25 = .ok (.istore 7, 2) := fp_hdX12_isTrick_0.1.1.2.2.2.1
theorem dX12_isTrick_27 : decode cX12_isTrick 27 = .ok (.iload 7, 2) := fp_hdX12_isTrick_0.1.1.2.2.2.2
theorem dX12_isTrick_29 : decode cX12_isTrick 29 = .ok (.iload 5, 2) := fp_hdX12_isTrick_0.1.2.1.1.1.1
theorem dX12_isTrick_31 : decode cX12_isTrick 31 = .ok (.if_icmp .ge 19, 3) := fp_hdX12_isTrick_0.1.2.1.1.1.2
theorem dX12_isTrick_34 : decode cX12_isTrick 34 = .ok (.aload_n 0, 1) := fp_hdX12_isTrick_0.1.2.1.1.2.1
theorem dX12_isTrick_35 : decode cX12_isTrick 35 = .ok (.sipush 360, 3) := fp_hdX12_isTrick_0.1.2.1.1.2.2
theorem dX12_isTrick_38 : decode cX12_isTrick 38 = .ok (.iload 7, 2) := fp_hdX12_isTrick_0.1.2.1.2.1.1
theorem dX12_isTrick_40 : decode cX12_isTrick 40 = .ok (.invokevirtual 261, 3) := fp_hdX12_isTrick_0.1.2.1.2.1.2
theorem dX12_isTrick_43 : decode cX12_isTrick 43 = .ok (.pop, 1) := fp_hdX12_isTrick_0.1.2.1.2.2.1
theorem dX12_isTrick_44 : decode cX12_isTrick 44 = .ok (.iinc 7 1, 3) := fp_hdX12_isTrick_0.1.2.1.2.2.2
theorem dX12_isTrick_47 : decode cX12_isTrick 47 = .ok (.goto (-20), 3) := fp_hdX12_isTrick_0.1.2.2.1.1.1
theorem dX12_isTrick_50 : decode cX12_isTrick 50 = .ok (.aload_n 0, 1) := fp_hdX12_isTrick_0.1.2.2.1.1.2
theorem dX12_isTrick_51 : decode cX12_isTrick 51 = .ok (.sipush 360, 3) := fp_hdX12_isTrick_0.1.2.2.1.2.1
theorem dX12_isTrick_54 : decode cX12_isTrick 54 = .ok (.iload 6, 2) := fp_hdX12_isTrick_0.1.2.2.1.2.2
theorem dX12_isTrick_56 : decode cX12_isTrick 56 = .ok (.invokevirtual 222, 3) := fp_hdX12_isTrick_0.1.2.2.2.1.1
theorem dX12_isTrick_59 : decode cX12_isTrick 59 = .ok (.iload_n 3, 1) := fp_hdX12_isTrick_0.1.2.2.2.1.2
theorem dX12_isTrick_60 : decode cX12_isTrick 60 = .ok (.if_icmp .ne 7, 3) := fp_hdX12_isTrick_0.1.2.2.2.2.1
theorem dX12_isTrick_63 : decode cX12_isTrick 63 = .ok (.iconst 1, 1) := fp_hdX12_isTrick_0.1.2.2.2.2.2
theorem fp_hdX12_isTrick_64 : ((decode cX12_isTrick 64 = .ok (.goto 4, 3) ∧ decode cX12_isTrick 67 = .ok (.iconst 0, 1)) ∧ decode cX12_isTrick 68 = .ok (.ireturn, 1)) ∧ bA cX12_isTrick 69 [] :=
  have q0 := fp_o167 (v := 4) fp_hdX12_isTrick_0.2 rfl
  have q1 := fp_o3 q0.2
  have q2 := fp_o172 q1.2
  ⟨⟨⟨q0.1, q1.1⟩, q2.1⟩, q2.2⟩
theorem dX12_isTrick_64 : decode cX12_isTrick 64 = .ok (.goto 4, 3) := fp_hdX12_isTrick_64.1.1.1
theorem dX12_isTrick_67 : decode cX12_isTrick 67 = .ok (.iconst 0, 1) := fp_hdX12_isTrick_64.1.1.2
theorem dX12_isTrick_68 : decode cX12_isTrick 68 = .ok (.ireturn, 1) := fp_hdX12_isTrick_64.1.2
def fp_scX12_trick_2 : List Nat := 21 :: 6 :: 167 :: 0 :: 5 :: 21 :: 7 :: 172 :: 132 :: 7 :: 1 :: 167 :: 255 :: 204 :: 132 :: 6 :: 1 :: 167 :: 255 :: 186 :: 132 :: 5 :: 1 :: 167 :: 255 :: 167 :: 16 :: 252 :: 172 :: []
def fp_scX12_trick_1 : List Nat := 21 :: 5 :: 42 :: 182 :: 0 :: 225 :: 163 :: 0 :: 86 :: 21 :: 5 :: 54 :: 6 :: 21 :: 6 :: 42 :: 182 :: 0 :: 225 :: 163 :: 0 :: 67 :: 3 :: 54 :: 7 :: 21 :: 7 :: 42 :: 180 :: 0 :: 184 :: 162 :: 0 :: 49 :: 42 :: 27 :: 28 :: 29 :: 21 :: 5 :: 21 :: 6 :: 21 :: 7 :: 182 :: 1 :: 17 :: 153 :: 0 :: 27 :: 21 :: 4 :: 154 :: 0 :: 8 :: 21 :: 5 :: 167 :: 0 :: 16 :: 21 :: 4 :: 4 :: 160 :: 0 :: 8 :: fp_scX12_trick_2
def fp_scX12_trick_0 : List Nat := 27 :: 184 :: 0 :: 228 :: 153 :: 0 :: 37 :: 42 :: 28 :: 182 :: 0 :: 205 :: 153 :: 0 :: 29 :: 42 :: 29 :: 182 :: 0 :: 205 :: 153 :: 0 :: 21 :: 28 :: 29 :: 159 :: 0 :: 16 :: 21 :: 4 :: 133 :: 9 :: 20 :: 1 :: 15 :: 184 :: 0 :: 94 :: 154 :: 0 :: 5 :: 2 :: 172 :: 42 :: 180 :: 0 :: 7 :: 28 :: 46 :: 27 :: 159 :: 0 :: 6 :: 16 :: 254 :: 172 :: 3 :: 54 :: 5 :: fp_scX12_trick_1
theorem fp_bcX12_trick : bA cX12_trick 0 fp_scX12_trick_0 := show cX12_trick.data.toList.map UInt8.toNat = fp_scX12_trick_0 from by decide +kernel
theorem fp_hdX12_trick_0 : (((((decode cX12_trick 0 = .ok (.iload_n 1, 1) ∧ decode cX12_trick 1 = .ok (.invokestatic 228, 3)) ∧ (decode cX12_trick 4 = .ok (.ifCond .eq 37, 3) ∧ decode cX12_trick 7 = .ok (.aload_n 0, 1))) ∧ ((decode cX12_trick 8 = .ok (.iload_n 2, 1) ∧ decode cX12_trick 9 = .ok (.invokevirtual 205, 3)) ∧ (decode cX12_trick 12 = .ok (.ifCond .eq 29, 3) ∧ decode cX12_trick 15 = .ok (.aload_n 0, 1)))) ∧ (((decode cX12_trick 16 = .ok (.iload_n 3, 1) ∧ decode cX12_trick 17 = .ok (.invokevirtual 205, 3)) ∧ (decode cX12_trick 20 = .ok (.ifCond .eq 21, 3) ∧ decode cX12_trick 23 = .ok (.iload_n 2, 1))) ∧ ((decode cX12_trick 24 = .ok (.iload_n 3, 1) ∧ decode cX12_trick 25 = .ok (.if_icmp .eq 16, 3)) ∧ (decode cX12_trick 28 = .ok (.iload 4, 2) ∧ decode cX12_trick 30 = .ok (.i2l, 1))))) ∧ ((((decode cX12_trick 31 = .ok (.lconst 0, 1) ∧ decode cX12_trick 32 = .ok (.ldc2_w 271, 3)) ∧ (decode cX12_trick 35 = .ok (.invokestatic 94, 3) ∧ decode cX12_trick 38 = .ok (.ifCond .ne 5, 3))) ∧ ((decode cX12_trick 41 = .ok (.iconst (-1), 1) ∧ decode cX12_trick 42 = .ok (.ireturn, 1)) ∧ (decode cX12_trick 43 = .ok (.aload_n 0, 1) ∧ decode cX12_trick 44 = .ok (.getfield 7, 3)))) ∧ (((decode cX12_trick 47 = .ok (.iload_n 2, 1) ∧ decode cX12_trick 48 = .ok (.iaload, 1)) ∧ (decode cX12_trick 49 = .ok (.iload_n 1, 1) ∧ decode cX12_trick 50 = .ok (.if_icmp .eq 6, 3))) ∧ ((decode cX12_trick 53 = .ok (.bipush (-2), 2) ∧ decode cX12_trick 55 = .ok (.ireturn, 1)) ∧ (decode cX12_trick 56 = .ok (.iconst 0, 1) ∧ decode cX12_trick 57 = .ok (.istore 5, 2)))))) ∧ bA cX12_trick 59 fp_scX12_trick_1 :=
  have q0 := fp_o27 fp_bcX12_trick
  have q1 := fp_o184 (v := 228) q0.2 rfl
  have q2 := fp_o153 (v := 37) q1.2 rfl
  have q3 := fp_o42 q2.2
  have q4 := fp_o28 q3.2
  have q5 := fp_o182 (v := 205) q4.2 rfl
  have q6 := fp_o153 (v := 29) q5.2 rfl
  have q7 := fp_o42 q6.2
  have q8 := fp_o29 q7.2
  have q9 := fp_o182 (v := 205) q8.2 rfl
  have q10 := fp_o153 (v := 21) q9.2 rfl
  have q11 := fp_o28 q10.2
  have q12 := fp_o29 q11.2
  have q13 := fp_o159 (v := 16) q12.2 rfl
  have q14 := fp_o21 q13.2
  have q15 := fp_o133 q14.2
  have q16 := fp_o9 q15.2
  have q17 := fp_o20 (v := 271) q16.2 rfl
  have q18 := fp_o184 (v := 94) q17.2 rfl
  have q19 := fp_o154 (v := 5) q18.2 rfl
  have q20 := fp_o2 q19.2
  have q21 := fp_o172 q20.2
  have q22 := fp_o42 q21.2
  have q23 := fp_o180 (v := 7) q22.2 rfl
  have q24 := fp_o28 q23.2
  have q25 := fp_o46 q24.2
  have q26 := fp_o27 q25.2
  have q27 := fp_o159 (v := 6) q26.2 rfl
  have q28 := fp_o16 (v := (-2)) q27.2 rfl
  have q29 := fp_o172 q28.2
  have q30 := fp_o3 q29.2
  have q31 := fp_o54 q30.2
  ⟨⟨⟨⟨⟨⟨q0.1, q1.1⟩, ⟨q2.1, q3.1⟩⟩, ⟨⟨q4.1, q5.1⟩, ⟨q6.1, q7.1⟩⟩⟩, ⟨⟨⟨q8.1, q9.1⟩, ⟨q10.1, q11.1⟩⟩, ⟨⟨q12.1, q13.1⟩, ⟨q14.1, q15.1⟩⟩⟩⟩, ⟨⟨⟨⟨q16.1, q17.1⟩, ⟨q18.1, q19.1⟩⟩, ⟨⟨q20.1, q21.1⟩, ⟨q22.1, q23.1⟩⟩⟩, ⟨⟨⟨q24.1, q25.1⟩, ⟨q26.1, q27.1⟩⟩, ⟨⟨q28.1, q29.1⟩, ⟨q30.1, q31.1⟩⟩⟩⟩⟩, q31.2⟩
theorem dX12_trick_0 : decode cX12_trick 0 = .ok (.iload_n 1, 1) := fp_hdX12_trick_0.1.1.1.1.1.1
theorem dX12_trick_1 : decode cX12_trick 1 = .ok (.invokestatic 228, 3) := fp_hdX12_trick_0.1.1.1.1.1.2
theorem dX12_trick_4 : decode cX12_trick 4 = .ok (.ifCond .eq 37, 3) := fp_hdX12_trick_0.1.1.1.1.2.1
theorem dX12_trick_7 : decode cX12_trick 7 = .ok (.aload_n 0, 1) := fp_hdX12_trick_0.1.1.1.1.2.2
theorem dX12_trick_8 : decode cX12_trick 8 = .ok (.iload_n 2, 1) := fp_hdX12_trick_0.1.1.1.2.1.1
theorem dX12_trick_9 : decode cX12_trick 9 = .ok (.invokevirtual 205, 3) := fp_hdX12_trick_0.1.1.1.2.1.2
theorem dX12_trick_12 : decode cX12_trick 12 = .ok (.ifCond .eq 29, 3) := fp_hdX12_trick_0.1.1.1.2.2.1
theorem dX12_trick_15 : decode cX12_trick 15 = .ok (.aload_n 0, 1) := fp_hdX12_trick_0.1.1.1.2.2.2
theorem dX12_trick_16 : decode cX12_trick 16 = .ok (.iload_n 3, 1) := fp_hdX12_trick_0.1.1.2.1.1.1
theorem dX12_trick_17 : decode cX12_trick 17 = .ok (.invokevirtual 205, 3) := fp_hdX12_trick_0.1.1.2.1.1.2
theorem dX12_trick_20 : decode cX12_trick 20 = .ok (.ifCond .eq 21, 3) := fp_hdX12_trick_0.1.1.2.1.2.1
theorem dX12_trick_23 : decode cX12_trick 23 = .ok (.iload_n 2, 1) := fp_hdX12_trick_0.1.1.2.1.2.2
theorem dX12_trick_24 : decode cX12_trick 24 = .ok (.iload_n 3, 1) := fp_hdX12_trick_0.1.1.2.2.1.1
theorem dX12_trick_25 : decode cX12_trick 25 = .ok (.if_icmp .eq 16, 3) := fp_hdX12_trick_0.1.1.2.2.1.2
theorem dX12_trick_28 : decode cX12_trick 28 = .ok (.iload 4, 2) := fp_hdX12_trick_0.1.1.2.2.2.1
theorem dX12_trick_30 : decode cX12_trick 30 = .ok (.i2l, 1) := fp_hdX12_trick_0.1.1.2.2.2.2
theorem dX12_trick_31 : decode cX12_trick 31 = .ok (.lconst 0, 1) := fp_hdX12_trick_0.1.2.1.1.1.1
theorem dX12_trick_32 : decode cX12_trick 32 = .ok (.ldc2_w 271, 3) := fp_hdX12_trick_0.1.2.1.1.1.2
theorem dX12_trick_35 : decode cX12_trick 35 = .ok (.invokestatic 94, 3) := fp_hdX12_trick_0.1.2.1.1.2.1
theorem dX12_trick_38 : decode cX12_trick 38 = .ok (.ifCond .ne 5, 3) := fp_hdX12_trick_0.1.2.1.1.2.2
theorem dX12_trick_41 : decode cX12_trick 41 = .ok (.iconst (-1), 1) := fp_hdX12_trick_0.1.2.1.2.1.1
theorem dX12_trick_42 : decode cX12_trick 42 = .ok (.ireturn, 1) := fp_hdX12_trick_0.1.2.1.2.1.2
theorem dX12_trick_43 : decode cX12_trick 43 = .ok (.aload_n 0, 1) := fp_hdX12_trick_0.1.2.1.2.2.1
theorem dX12_trick_44 : decode cX12_trick 44 = .ok (.getfield 7, 3) := fp_hdX12_trick_0.1.2.1.2.2.2
theorem dX12_trick_47 : decode cX12_trick 47 = .ok (.iload_n 2, 1) := fp_hdX12_trick_0.1.2.2.1.1.1
theorem dX12_trick_48 : decode cX12_trick 48 = .ok (.iaload, 1) := fp_hdX12_trick_0.1.2.2.1.1.2
theorem dX12_trick_49 : decode cX12_trick 49 = .ok (.iload_n 1, 1) := fp_hdX12_trick_0.1.2.2.1.2.1
theorem dX12_trick_50 : decode cX12_trick 50 = .ok (.if_icmp .eq 6, 3) := fp_hdX12_trick_0.1.2.2.1.2.2
theorem dX12_trick_53 : decode cX12_trick 53 = .ok (.bipush (-2), 2) := fp_hdX12_trick_0.1.2.2.2.1.1
theorem dX12_trick_55 : decode cX12_trick 55 = .ok (.ireturn, 1) := fp_hdX12_trick_0.1.2.2.2.1.2
theorem dX12_trick_56 : decode cX12_trick 56 = .ok (.iconst 0, 1) := fp_hdX12_trick_0.1.2.2.2.2.1
theorem dX12_trick_57 : decode cX12_trick 57 = .ok (.istore 5, 2) := fp_hdX12_trick_0.1.2.2.2.2.2
theorem fp_hdX12_trick_59 : (((((decode cX12_trick 59 = .ok (.iload 5, 2) ∧ decode cX12_trick 61 = .ok (.aload_n 0, 1)) ∧ (decode cX12_trick 62 = .ok (.invokevirtual 225, 3) ∧ decode cX12_trick 65 = .ok (.if_icmp .gt 86, 3))) ∧ ((decode cX12_trick 68 = .ok (.iload 5, 2) ∧ decode cX12_trick 70 = .ok (.istore 6, 2)) ∧ (decode cX12_trick 72 = .ok (.iload 6, 2) ∧ decode cX12_trick 74 = .ok (.aload_n 0, 1)))) ∧ (((decode cX12_trick 75 = .ok (.invokevirtual 225, 3) ∧ decode cX12_trick 78 = .ok (.if_icmp .gt 67, 3)) ∧ (decode cX12_trick 81 = .ok (.iconst 0, 1) ∧ decode cX12_trick 82 = .ok (.istore 7, 2))) ∧ ((decode cX12_trick 84 = .ok (.iload 7, 2) ∧ decode cX12_trick 86 = .ok (.aload_n 0, 1)) ∧ (decode cX12_trick 87 = .ok (.getfield 184, 3) ∧ decode cX12_trick 90 = .ok (.if_icmp .ge 49, 3))))) ∧ ((((decode cX12_trick 93 = .ok (.aload_n 0, 1) ∧ decode cX12_trick 94 = .ok (.iload_n 1, 1)) ∧ (decode cX12_trick 95 = .ok (.iload_n 2, 1) ∧ decode cX12_trick 96 = .ok (.iload_n 3, 1))) ∧ ((decode cX12_trick 97 = .ok (.iload 5, 2) ∧ decode cX12_trick 99 = .ok (.iload 6, 2)) ∧ (decode cX12_trick 101 = .ok (.iload 7, 2) ∧ decode cX12_trick 103 = .ok (.invokevirtual 273, 3)))) ∧ (((decode cX12_trick 106 = .ok (.ifCond .eq 27, 3) ∧ decode cX12_trick 109 = .ok (.iload 4, 2)) ∧ (decode cX12_trick 111 = .ok (.ifCond .ne 8, 3) ∧ decode cX12_trick 114 = .ok (.iload 5, 2))) ∧ ((decode cX12_trick 116 = .ok (.goto 16, 3) ∧ decode cX12_trick 119 = .ok (.iload 4, 2)) ∧ (decode cX12_trick 121 = .ok (.iconst 1, 1) ∧ decode cX12_trick 122 = .ok (.if_icmp .ne 8, 3)))))) ∧ bA cX12_trick 125 fp_scX12_trick_2 :=
  have q0 := fp_o21 fp_hdX12_trick_0.2
  have q1 := fp_o42 q0.2
  have q2 := fp_o182 (v := 225) q1.2 rfl
  have q3 := fp_o163 (v := 86) q2.2 rfl
  have q4 := fp_o21 q3.2
  have q5 := fp_o54 q4.2
  have q6 := fp_o21 q5.2
  have q7 := fp_o42 q6.2
  have q8 := fp_o182 (v := 225) q7.2 rfl
  have q9 := fp_o163 (v := 67) q8.2 rfl
  have q10 := fp_o3 q9.2
  have q11 := fp_o54 q10.2
  have q12 := fp_o21 q11.2
  have q13 := fp_o42 q12.2
  have q14 := fp_o180 (v := 184) q13.2 rfl
  have q15 := fp_o162 (v := 49) q14.2 rfl
  have q16 := fp_o42 q15.2
  have q17 := fp_o27 q16.2
  have q18 := fp_o28 q17.2
  have q19 := fp_o29 q18.2
  have q20 := fp_o21 q19.2
  have q21 := fp_o21 q20.2
  have q22 := fp_o21 q21.2
  have q23 := fp_o182 (v := 273) q22.2 rfl
  have q24 := fp_o153 (v := 27) q23.2 rfl
  have q25 := fp_o21 q24.2
  have q26 := fp_o154 (v := 8) q25.2 rfl
  have q27 := fp_o21 q26.2
  have q28 := fp_o167 (v := 16) q27.2 rfl
  have q29 := fp_o21 q28.2
  have q30 := fp_o4 q29.2
  have q31 := fp_o160 (v := 8) q30.2 rfl
  ⟨⟨⟨⟨⟨⟨q0.1, q1.1⟩, ⟨q2.1, q3.1⟩⟩, ⟨⟨q4.1, q5.1⟩, ⟨q6.1, q7.1⟩⟩⟩, ⟨⟨⟨q8.1, q9.1⟩, ⟨q10.1, q11.1⟩⟩, ⟨⟨q12.1, q13.1⟩, ⟨q14.1, q15.1⟩⟩⟩⟩, ⟨⟨⟨⟨q16.1, q17.1⟩, ⟨q18.1, q19.1⟩⟩, ⟨⟨q20.1, q21.1⟩, ⟨q22.1, q23.1⟩⟩⟩, ⟨⟨⟨q24.1, q25.1⟩, ⟨q26.1, q27.1⟩⟩, ⟨⟨q28.1, q29.1⟩, ⟨q30.1, q31.1⟩⟩⟩⟩⟩, q31.2⟩
theorem dX12_trick_59 : decode cX12_trick 59 = .ok (.iload 5, 2) := fp_hdX12_trick_59.1.1.1.1.1.1
theorem dX12_trick_61 : decode cX12_trick 61 = .ok (.aload_n 0, 1) := fp_hdX12_trick_59.1.1.1.1.1.2
theorem dX12_trick_62 : decode cX12_trick 62 = .ok (.invokevirtual 225, 3) := fp_hdX12_trick_59.1.1.1.1.2.1
theorem dX12_trick_65 : decode cX12_trick 65 = .ok (.if_icmp .gt 86, 3) := fp_hdX12_trick_59.1.1.1.1.2.2
theorem dX12_trick_68 : decode cX12_trick 68 = .ok (.iload 5, 2) := fp_hdX12_trick_59.1.1.1.2.1.1
theorem dX12_trick_70 : decode cX12_trick 70 = .ok (.istore 6, 2) := fp_hdX12_trick_59.1.1.1.2.1.2
theorem dX12_trick_72 : decode cX12_trick 72 = .ok (.iload 6, 2) := fp_hdX12_trick_59.1.1.1.2.2.1
theorem dX12_trick_74 : decode cX12_trick 74 = .ok (.aload_n 0, 1) := fp_hdX12_trick_59.1.1.1.2.2.2
theorem dX12_trick_75 : decode cX12_trick 75 = .ok (.invokevirtual 225, 3) := fp_hdX12_trick_59.1.1.2.1.1.1
theorem dX12_trick_78 : decode cX12_trick 78 = .ok (.if_icmp .gt 67, 3) := fp_hdX12_trick_59.1.1.2.1.1.2
theorem dX12_trick_81 : decode cX12_trick 81 = .ok (.iconst 0, 1) := fp_hdX12_trick_59.1.1.2.1.2.1
theorem dX12_trick_82 : decode cX12_trick 82 = .ok (.istore 7, 2) := fp_hdX12_trick_59.1.1.2.1.2.2
theorem dX12_trick_84 : decode cX12_trick 84 = .ok (.iload 7, 2) := fp_hdX12_trick_59.1.1.2.2.1.1
theorem dX12_trick_86 : decode cX12_trick 86 = .ok (.aload_n 0, 1) := fp_hdX12_trick_59.1.1.2.2.1.2
theorem dX12_trick_87 : decode cX12_trick 87 = .ok (.getfield 184, 3) := fp_hdX12_trick_59.1.1.2.2.2.1
theorem dX12_trick_90 : decode cX12_trick 90 = .ok (.if_icmp .ge 49, 3) := fp_hdX12_trick_59.1.1.2.2.2.2
theorem dX12_trick_93 : decode cX12_trick 93 = .ok (.aload_n 0, 1) := fp_hdX12_trick_59.1.2.1.1.1.1
theorem dX12_trick_94 : decode cX12_trick 94 = .ok (.iload_n 1, 1) := fp_hdX12_trick_59.1.2.1.1.1.2
theorem dX12_trick_95 : decode cX12_trick 95 = .ok (.iload_n 2, 1) := fp_hdX12_trick_59.1.2.1.1.2.1
theorem dX12_trick_96 : decode cX12_trick 96 = .ok (.iload_n 3, 1) := fp_hdX12_trick_59.1.2.1.1.2.2
theorem dX12_trick_97 : decode cX12_trick 97 = .ok (.iload 5, 2) := fp_hdX12_trick_59.1.2.1.2.1.1
theorem dX12_trick_99 : decode cX12_trick 99 = .ok (.iload 6, 2) := fp_hdX12_trick_59.1.2.1.2.1.2
theorem dX12_trick_101 : decode cX12_trick 101 = .ok (.iload 7, 2) := fp_hdX12_trick_59.1.2.1.2.2.1
theorem dX12_trick_103 : decode cX12_trick 103 = .ok (.invokevirtual 273, 3) := fp_hdX12_trick_59.1.2.1.2.2.2
theorem dX12_trick_106 : decode cX12_trick 106 = .ok (.ifCond .eq 27, 3) := fp_hdX12_trick_59.1.2.2.1.1.1
theorem dX12_trick_109 : decode cX12_trick 109 = .ok (.iload 4, 2) := fp_hdX12_trick_59.1.2.2.1.1.2
theorem dX12_trick_111 : decode cX12_trick 111 = .ok (.ifCond .ne 8, 3) := fp_hdX12_trick_59.1.2.2.1.2.1
theorem dX12_trick_114 : decode cX12_trick 114 = .ok (.iload 5, 2) := fp_hdX12_trick_59.1.2.2.1.2.2
theorem dX12_trick_116 : decode cX12_trick 116 = .ok (.goto 16, 3) := fp_hdX12_trick_59.1.2.2.2.1.1
theorem dX12_trick_119 : decode cX12_trick 119 = .ok (.iload 4, 2) := fp_hdX12_trick_59.1.2.2.2.1.2
theorem dX12_trick_121 : decode cX12_trick 121 = .ok (.iconst 1, 1) := fp_hdX12_trick_59.1.2.2.2.2.1
theorem dX12_trick_122 : decode cX12_trick 122 = .ok (.if_icmp .ne 8, 3) := fp_hdX12_trick_59.1.2.2.2.2.2
theorem fp_hdX12_trick_125 : ((((decode cX12_trick 125 = .ok (.iload 6, 2) ∧ decode cX12_trick 127 = .ok (.goto 5, 3)) ∧ decode cX12_trick 130 = .ok (.iload 7, 2)) ∧ ((decode cX12_trick 132 = .ok (.ireturn, 1) ∧ decode cX12_trick 133 = .ok (.iinc 7 1, 3)) ∧ decode cX12_trick 136 = .ok (.goto (-52), 3))) ∧ (((decode cX12_trick 139 = .ok (.iinc 6 1, 3) ∧ decode cX12_trick 142 = .ok (.goto (-70), 3)) ∧ decode cX12_trick 145 = .ok (.iinc 5 1, 3)) ∧ ((decode cX12_trick 148 = .ok (.goto (-89), 3) ∧ decode cX12_trick 151 = .ok (.bipush (-4), 2)) ∧ decode cX12_trick 153 = .ok (.ireturn, 1)))) ∧ bA cX12_trick 154 [] :=
  have q0 := fp_o21 fp_hdX12_trick_59.2
  have q1 := fp_o167 (v := 5) q0.2 rfl
  have q2 := fp_o21 q1.2
  have q3 := fp_o172 q2.2
  have q4 := fp_o132 (v := 1) q3.2 rfl
  have q5 := fp_o167 (v := (-52)) q4.2 rfl
  have q6 := fp_o132 (v := 1) q5.2 rfl
  have q7 := fp_o167 (v := (-70)) q6.2 rfl
  have q8 := fp_o132 (v := 1) q7.2 rfl
  have q9 := fp_o167 (v := (-89)) q8.2 rfl
  have q10 := fp_o16 (v := (-4)) q9.2 rfl
  have q11 := fp_o172 q10.2
  ⟨⟨⟨⟨⟨q0.1, q1.1⟩, q2.1⟩, ⟨⟨q3.1, q4.1⟩, q5.1⟩⟩, ⟨⟨⟨q6.1, q7.1⟩, q8.1⟩, ⟨⟨q9.1, q10.1⟩, q11.1⟩⟩⟩, q11.2⟩
theorem dX12_trick_125 : decode cX12_trick 125 = .ok (.iload 6, 2) := fp_hdX12_trick_125.1.1.1.1.1
theorem dX12_trick_127 : decode cX12_trick 127 = .ok (.goto 5, 3) := fp_hdX12_trick_125.1.1.1.1.2
theorem dX12_trick_130 : decode cX12_trick 130 = .ok (.iload 7, 2) := fp_hdX12_trick_125.1.1.1.2
theorem dX12_trick_132 : decode cX12_trick 132 = .ok (.ireturn, 1) := fp_hdX12_trick_125.1.1.2.1.1
theorem dX12_trick_133 : decode cX12_trick 133 = .ok (.iinc 7 1, 3) := fp_hdX12_trick_125.1.1.2.1.2
theorem dX12_trick_136 : decode cX12_trick 136 = .ok (.goto (-52), 3) := fp_hdX12_trick_125.1.1.2.2
theorem dX12_trick_139 : decode cX12_trick 139 = .ok (.iinc 6 1, 3) := fp_hdX12_trick_125.1.2.1.1.1
theorem dX12_trick_142 : decode cX12_trick 142 = .ok (.goto (-70), 3) := fp_hdX12_trick_125.1.2.1.1.2
theorem dX12_trick_145 : decode cX12_trick 145 = .ok (.iinc 5 1, 3) := fp_hdX12_trick_125.1.2.1.2
theorem dX12_trick_148 : decode cX12_trick 148 = .ok (.goto (-89), 3) := fp_hdX12_trick_125.1.2.2.1.1
theorem dX12_trick_151 : decode cX12_trick 151 = .ok (.bipush (-4), 2) := fp_hdX12_trick_125.1.2.2.1.2
theorem dX12_trick_153 : decode cX12_trick 153 = .ok (.ireturn, 1) := fp_hdX12_trick_125.1.2.2.2
def fp_scX12_saves_0 : List Nat := 3 :: 61 :: 28 :: 16 :: 40 :: 162 :: 0 :: 30 :: 42 :: 180 :: 0 :: 47 :: 16 :: 40 :: 27 :: 104 :: 28 :: 96 :: 42 :: 180 :: 0 :: 7 :: 17 :: 1 :: 104 :: 28 :: 96 :: 46 :: 79 :: 132 :: 2 :: 1 :: 167 :: 255 :: 226 :: 177 :: []
theorem fp_bcX12_saves : bA cX12_saves 0 fp_scX12_saves_0 := show cX12_saves.data.toList.map UInt8.toNat = fp_scX12_saves_0 from by decide +kernel
theorem fp_hdX12_saves_0 : (((((decode cX12_saves 0 = .ok (.iconst 0, 1) ∧ decode cX12_saves 1 = .ok (.istore_n 2, 1)) ∧ decode cX12_saves 2 = .ok (.iload_n 2, 1)) ∧ ((decode cX12_saves 3 = .ok (.bipush 40, 2) ∧ decode cX12_saves 5 = .ok (.if_icmp .ge 30, 3)) ∧ decode cX12_saves 8 = .ok (.aload_n 0, 1))) ∧ (((decode cX12_saves 9 = .ok (.getfield 47, 3) ∧ decode cX12_saves 12 = .ok (.bipush 40, 2)) ∧ decode cX12_saves 14 = .ok (.iload_n 1, 1)) ∧ (decode cX12_saves 15 = .ok (.imul, 1) ∧ decode cX12_saves 16 = .ok (.iload_n 2, 1)))) ∧ ((((decode cX12_saves 17 = .ok (.iadd, 1) ∧ decode cX12_saves 18 = .ok (.aload_n 0, 1)) ∧ decode cX12_saves 19 = .ok (.getfield 7, 3)) ∧ ((decode cX12_saves 22 = .ok (.sipush 360, 3) ∧ decode cX12_saves 25 = .ok (.iload_n 2, 1)) ∧ decode cX12_saves 26 = .ok (.iadd, 1))) ∧ (((decode cX12_saves 27 = .ok (.iaload, 1) ∧ decode cX12_saves 28 = .ok (.iastore, 1)) ∧ decode cX12_saves 29 = .ok (.iinc 2 1, 3)) ∧ (decode cX12_saves 32 = .ok (.goto (-30), 3) ∧ decode cX12_saves 35 = .ok (.return_, 1))))) ∧ bA cX12_saves 36 [] :=
  have q0 := fp_o3 fp_bcX12_saves
  have q1 := fp_o61 q0.2
  have q2 := fp_o28 q1.2
  have q3 := fp_o16 (v := 40) q2.2 rfl
  have q4 := fp_o162 (v := 30) q3.2 rfl
  have q5 := fp_o42 q4.2
  have q6 := fp_o180 (v := 47) q5.2 rfl
  have q7 := fp_o16 (v := 40) q6.2 rfl
  have q8 := fp_o27 q7.2
  have q9 := fp_o104 q8.2
  have q10 := fp_o28 q9.2
  have q11 := fp_o96 q10.2
  have q12 := fp_o42 q11.2
  have q13 := fp_o180 (v := 7) q12.2 rfl
  have q14 := fp_o17 (v := 360) q13.2 rfl
  have q15 := fp_o28 q14.2
  have q16 := fp_o96 q15.2
  have q17 := fp_o46 q16.2
  have q18 := fp_o79 q17.2
  have q19 := fp_o132 (v := 1) q18.2 rfl
  have q20 := fp_o167 (v := (-30)) q19.2 rfl
  have q21 := fp_o177 q20.2
  ⟨⟨⟨⟨⟨⟨q0.1, q1.1⟩, q2.1⟩, ⟨⟨q3.1, q4.1⟩, q5.1⟩⟩, ⟨⟨⟨q6.1, q7.1⟩, q8.1⟩, ⟨q9.1, q10.1⟩⟩⟩, ⟨⟨⟨⟨q11.1, q12.1⟩, q13.1⟩, ⟨⟨q14.1, q15.1⟩, q16.1⟩⟩, ⟨⟨⟨q17.1, q18.1⟩, q19.1⟩, ⟨q20.1, q21.1⟩⟩⟩⟩, q21.2⟩
theorem dX12_saves_0 : decode cX12_saves 0 = .ok (.iconst 0, 1) := fp_hdX12_saves_0.1.1.1.1.1.1
theorem dX12_saves_1 : decode cX12_saves 1 = .ok (.istore_n 2, 1) := fp_hdX12_saves_0.1.1.1.1.1.2
theorem dX12_saves_2 : decode cX12_saves 2 = .ok (.iload_n 2, 1) := fp_hdX12_saves_0.1.1.1.1.2
theorem dX12_saves_3 : decode cX12_saves 3 = .ok (.bipush 40, 2) := fp_hdX12_saves_0.1.1.1.2.1.1
theorem dX12_saves_5 : decode cX12_saves 5 = .ok (.if_icmp .ge 30, 3) := fp_hdX12_saves_0.1.1.1.2.1.2
theorem dX12_saves_8 : decode cX12_saves 8 = .ok (.aload_n 0, 1) := fp_hdX12_saves_0.1.1.1.2.2
theorem dX12_saves_9 : decode cX12_saves 9 = .ok (.getfield 47, 3) := fp_hdX12_saves_0.1.1.2.1.1.1
theorem dX12_saves_12 : decode cX12_saves 12 = .ok (.bipush 40, 2) := fp_hdX12_saves_0.1.1.2.1.1.2
theorem dX12_saves_14 : decode cX12_saves 14 = .ok (.iload_n 1, 1) := fp_hdX12_saves_0.1.1.2.1.2
theorem dX12_saves_15 : decode cX12_saves 15 = .ok (.imul, 1) := fp_hdX12_saves_0.1.1.2.2.1
theorem dX12_saves_16 : decode cX12_saves 16 = .ok (.iload_n 2, 1) := fp_hdX12_saves_0.1.1.2.2.2
theorem dX12_saves_17 : decode cX12_saves 17 = .ok (.iadd, 1) := fp_hdX12_saves_0.1.2.1.1.1.1
theorem dX12_saves_18 : decode cX12_saves 18 = .ok (.aload_n 0, 1) := fp_hdX12_saves_0.1.2.1.1.1.2
theorem dX12_saves_19 : decode cX12_saves 19 = .ok (.getfield 7, 3) := fp_hdX12_saves_0.1.2.1.1.2
theorem dX12_saves_22 : decode cX12_saves 22 = .ok (.sipush 360, 3) := fp_hdX12_saves_0.1.2.1.2.1.1
theorem dX12_saves_25 : decode cX12_saves 25 = .ok (.iload_n 2, 1) := fp_hdX12_saves_0.1.2.1.2.1.2
theorem dX12_saves_26 : decode cX12_saves 26 = .ok (.iadd, 1) := fp_hdX12_saves_0.1.2.1.2.2
theorem dX12_saves_27 : decode cX12_saves 27 = .ok (.iaload, 1) := fp_hdX12_saves_0.1.2.2.1.1.1
theorem dX12_saves_28 : decode cX12_saves 28 = .ok (.iastore, 1) := fp_hdX12_saves_0.1.2.2.1.1.2
theorem dX12_saves_29 : decode cX12_saves 29 = .ok (.iinc 2 1, 3) := fp_hdX12_saves_0.1.2.2.1.2
theorem dX12_saves_32 : decode cX12_saves 32 = .ok (.goto (-30), 3) := fp_hdX12_saves_0.1.2.2.2.1
theorem dX12_saves_35 : decode cX12_saves 35 = .ok (.return_, 1) := fp_hdX12_saves_0.1.2.2.2.2
def fp_scX12_isOwn_0 : List Nat := 42 :: 180 :: 0 :: 7 :: 16 :: 47 :: 7 :: 28 :: 104 :: 96 :: 4 :: 96 :: 46 :: 27 :: 160 :: 0 :: 25 :: 42 :: 180 :: 0 :: 7 :: 16 :: 47 :: 7 :: 28 :: 104 :: 96 :: 6 :: 96 :: 46 :: 16 :: 252 :: 160 :: 0 :: 7 :: 4 :: 167 :: 0 :: 4 :: 3 :: 172 :: []
theorem fp_bcX12_isOwn : bA cX12_isOwn 0 fp_scX12_isOwn_0 := show cX12_isOwn.data.toList.map UInt8.toNat = fp_scX12_isOwn_0 from by decide +kernel
theorem fp_hdX12_isOwn_0 : (((((decode cX12_isOwn 0 = .ok (.aload_n 0, 1) ∧ decode cX12_isOwn 1 = .ok (.getfield 7, 3)) ∧ (decode cX12_isOwn 4 = .ok (.bipush 47, 2) ∧ decode cX12_isOwn 6 = .ok (.iconst 4, 1))) ∧ ((decode cX12_isOwn 7 = .ok (.iload_n 2, 1) ∧ decode cX12_isOwn 8 = .ok (.imul, 1)) ∧ decode cX12_isOwn 9 = .ok (.iadd, 1))) ∧ (((decode cX12_isOwn 10 = .ok (.iconst 1, 1) ∧ decode cX12_isOwn 11 = .ok (.iadd, 1)) ∧ (decode cX12_isOwn 12 = .ok (.iaload, 1) ∧ decode cX12_isOwn 13 = .ok (.iload_n 1, 1))) ∧ ((decode cX12_isOwn 14 = .ok (.if_icmp .ne 25, 3) ∧ decode cX12_isOwn 17 = .ok (.aload_n 0, 1)) ∧ decode cX12_isOwn 18 = .ok (.getfield 7, 3)))) ∧ ((((decode cX12_isOwn 21 = .ok (.bipush 47, 2) ∧ decode cX12_isOwn 23 = .ok (.iconst 4, 1)) ∧ (decode cX12_isOwn 24 = .ok (.iload_n 2, 1) ∧ decode cX12_isOwn 25 = .ok (.imul, 1))) ∧ ((decode cX12_isOwn 26 = .ok (.iadd, 1) ∧ decode cX12_isOwn 27 = .ok (.iconst 3, 1)) ∧ decode cX12_isOwn 28 = .ok (.iadd, 1))) ∧ (((decode cX12_isOwn 29 = .ok (.iaload, 1) ∧ decode cX12_isOwn 30 = .ok (.bipush (-4), 2)) ∧ (decode cX12_isOwn 32 = .ok (.if_icmp .ne 7, 3) ∧ decode cX12_isOwn 35 = .ok (.iconst 1, 1))) ∧ ((decode cX12_isOwn 36 = .ok (.goto 4, 3) ∧ decode cX12_isOwn 39 = .ok (.iconst 0, 1)) ∧ decode cX12_isOwn 40 = .ok (.ireturn, 1))))) ∧ bA cX12_isOwn 41 [] :=
  have q0 := fp_o42 fp_bcX12_isOwn
  have q1 := fp_o180 (v := 7) q0.2 rfl
  have q2 := fp_o16 (v := 47) q1.2 rfl
  have q3 := fp_o7 q2.2
  have q4 := fp_o28 q3.2
  have q5 := fp_o104 q4.2
  have q6 := fp_o96 q5.2
  have q7 := fp_o4 q6.2
  have q8 := fp_o96 q7.2
  have q9 := fp_o46 q8.2
  have q10 := fp_o27 q9.2
  have q11 := fp_o160 (v := 25) q10.2 rfl
  have q12 := fp_o42 q11.2
  have q13 := fp_o180 (v := 7) q12.2 rfl
  have q14 := fp_o16 (v := 47) q13.2 rfl
  have q15 := fp_o7 q14.2
  have q16 := fp_o28 q15.2
  have q17 := fp_o104 q16.2
  have q18 := fp_o96 q17.2
  have q19 := fp_o6 q18.2
  have q20 := fp_o96 q19.2
  have q21 := fp_o46 q20.2
  have q22 := fp_o16 (v := (-4)) q21.2 rfl
  have q23 := fp_o160 (v := 7) q22.2 rfl
  have q24 := fp_o4 q23.2
  have q25 := fp_o167 (v := 4) q24.2 rfl
  have q26 := fp_o3 q25.2
  have q27 := fp_o172 q26.2
  ⟨⟨⟨⟨⟨⟨q0.1, q1.1⟩, ⟨q2.1, q3.1⟩⟩, ⟨⟨q4.1, q5.1⟩, q6.1⟩⟩, ⟨⟨⟨q7.1, q8.1⟩, ⟨q9.1, q10.1⟩⟩, ⟨⟨q11.1, q12.1⟩, q13.1⟩⟩⟩, ⟨⟨⟨⟨q14.1, q15.1⟩, ⟨q16.1, q17.1⟩⟩, ⟨⟨q18.1, q19.1⟩, q20.1⟩⟩, ⟨⟨⟨q21.1, q22.1⟩, ⟨q23.1, q24.1⟩⟩, ⟨⟨q25.1, q26.1⟩, q27.1⟩⟩⟩⟩, q27.2⟩
theorem dX12_isOwn_0 : decode cX12_isOwn 0 = .ok (.aload_n 0, 1) := fp_hdX12_isOwn_0.1.1.1.1.1.1
theorem dX12_isOwn_1 : decode cX12_isOwn 1 = .ok (.getfield 7, 3) := fp_hdX12_isOwn_0.1.1.1.1.1.2
theorem dX12_isOwn_4 : decode cX12_isOwn 4 = .ok (.bipush 47, 2) := fp_hdX12_isOwn_0.1.1.1.1.2.1
theorem dX12_isOwn_6 : decode cX12_isOwn 6 = .ok (.iconst 4, 1) := fp_hdX12_isOwn_0.1.1.1.1.2.2
theorem dX12_isOwn_7 : decode cX12_isOwn 7 = .ok (.iload_n 2, 1) := fp_hdX12_isOwn_0.1.1.1.2.1.1
theorem dX12_isOwn_8 : decode cX12_isOwn 8 = .ok (.imul, 1) := fp_hdX12_isOwn_0.1.1.1.2.1.2
theorem dX12_isOwn_9 : decode cX12_isOwn 9 = .ok (.iadd, 1) := fp_hdX12_isOwn_0.1.1.1.2.2
theorem dX12_isOwn_10 : decode cX12_isOwn 10 = .ok (.iconst 1, 1) := fp_hdX12_isOwn_0.1.1.2.1.1.1
theorem dX12_isOwn_11 : decode cX12_isOwn 11 = .ok (.iadd, 1) := fp_hdX12_isOwn_0.1.1.2.1.1.2
theorem dX12_isOwn_12 : decode cX12_isOwn 12 = .ok (.iaload, 1) := fp_hdX12_isOwn_0.1.1.2.1.2.1
theorem dX12_isOwn_13 : decode cX12_isOwn 13 = .ok (.iload_n 1, 1) := fp_hdX12_isOwn_0.1.1.2.1.2.2
theorem dX12_isOwn_14 : decode cX12_isOwn 14 = .ok (.if_icmp .ne 25, 3) := fp_hdX12_isOwn_0.1.1.2.2.1.1
theorem dX12_isOwn_17 : decode cX12_isOwn 17 = .ok (.aload_n 0, 1) := fp_hdX12_isOwn_0.1.1.2.2.1.2
theorem dX12_isOwn_18 : decode cX12_isOwn 18 = .ok (.getfield 7, 3) := fp_hdX12_isOwn_0.1.1.2.2.2
theorem dX12_isOwn_21 : decode cX12_isOwn 21 = .ok (.bipush 47, 2) := fp_hdX12_isOwn_0.1.2.1.1.1.1
theorem dX12_isOwn_23 : decode cX12_isOwn 23 = .ok (.iconst 4, 1) := fp_hdX12_isOwn_0.1.2.1.1.1.2
theorem dX12_isOwn_24 : decode cX12_isOwn 24 = .ok (.iload_n 2, 1) := fp_hdX12_isOwn_0.1.2.1.1.2.1
theorem dX12_isOwn_25 : decode cX12_isOwn 25 = .ok (.imul, 1) := fp_hdX12_isOwn_0.1.2.1.1.2.2
theorem dX12_isOwn_26 : decode cX12_isOwn 26 = .ok (.iadd, 1) := fp_hdX12_isOwn_0.1.2.1.2.1.1
theorem dX12_isOwn_27 : decode cX12_isOwn 27 = .ok (.iconst 3, 1) := fp_hdX12_isOwn_0.1.2.1.2.1.2
theorem dX12_isOwn_28 : decode cX12_isOwn 28 = .ok (.iadd, 1) := fp_hdX12_isOwn_0.1.2.1.2.2
theorem dX12_isOwn_29 : decode cX12_isOwn 29 = .ok (.iaload, 1) := fp_hdX12_isOwn_0.1.2.2.1.1.1
theorem dX12_isOwn_30 : decode cX12_isOwn 30 = .ok (.bipush (-4), 2) := fp_hdX12_isOwn_0.1.2.2.1.1.2
theorem dX12_isOwn_32 : decode cX12_isOwn 32 = .ok (.if_icmp .ne 7, 3) := fp_hdX12_isOwn_0.1.2.2.1.2.1
theorem dX12_isOwn_35 : decode cX12_isOwn 35 = .ok (.iconst 1, 1) := fp_hdX12_isOwn_0.1.2.2.1.2.2
theorem dX12_isOwn_36 : decode cX12_isOwn 36 = .ok (.goto 4, 3) := fp_hdX12_isOwn_0.1.2.2.2.1.1
theorem dX12_isOwn_39 : decode cX12_isOwn 39 = .ok (.iconst 0, 1) := fp_hdX12_isOwn_0.1.2.2.2.1.2
theorem dX12_isOwn_40 : decode cX12_isOwn 40 = .ok (.ireturn, 1) := fp_hdX12_isOwn_0.1.2.2.2.2
def fp_scX12_runsFrom_1 : List Nat := 29 :: 42 :: 27 :: 29 :: 182 :: 1 :: 24 :: 153 :: 0 :: 12 :: 42 :: 180 :: 0 :: 50 :: 29 :: 46 :: 167 :: 0 :: 16 :: 42 :: 180 :: 0 :: 7 :: 16 :: 47 :: 7 :: 29 :: 104 :: 96 :: 5 :: 96 :: 46 :: 182 :: 1 :: 1 :: 87 :: 132 :: 3 :: 1 :: 167 :: 255 :: 200 :: 177 :: []
def fp_scX12_runsFrom_0 : List Nat := 3 :: 62 :: 29 :: 16 :: 40 :: 162 :: 0 :: 30 :: 42 :: 180 :: 0 :: 7 :: 17 :: 1 :: 104 :: 29 :: 96 :: 42 :: 180 :: 0 :: 47 :: 16 :: 40 :: 28 :: 104 :: 29 :: 96 :: 46 :: 79 :: 132 :: 3 :: 1 :: 167 :: 255 :: 226 :: 28 :: 62 :: 29 :: 42 :: 182 :: 0 :: 225 :: 162 :: 0 :: 54 :: 42 :: 29 :: 182 :: 1 :: 21 :: 42 :: 17 :: 1 :: 104 :: fp_scX12_runsFrom_1
theorem fp_bcX12_runsFrom : bA cX12_runsFrom 0 fp_scX12_runsFrom_0 := show cX12_runsFrom.data.toList.map UInt8.toNat = fp_scX12_runsFrom_0 from by decide +kernel
theorem fp_hdX12_runsFrom_0 : (((((decode cX12_runsFrom 0 = .ok (.iconst 0, 1) ∧ decode cX12_runsFrom 1 = .ok (.istore_n 3, 1)) ∧ (decode cX12_runsFrom 2 = .ok (.iload_n 3, 1) ∧ decode cX12_runsFrom 3 = .ok (.bipush 40, 2))) ∧ ((decode cX12_runsFrom 5 = .ok (.if_icmp .ge 30, 3) ∧ decode cX12_runsFrom 8 = .ok (.aload_n 0, 1)) ∧ (decode cX12_runsFrom 9 = .ok (.getfield 7, 3) ∧ decode cX12_runsFrom 12 = .ok (.sipush 360, 3)))) ∧ (((decode cX12_runsFrom 15 = .ok (.iload_n 3, 1) ∧ decode cX12_runsFrom 16 = .ok (.iadd, 1)) ∧ (decode cX12_runsFrom 17 = .ok (.aload_n 0, 1) ∧ decode cX12_runsFrom 18 = .ok (.getfield 47, 3))) ∧ ((decode cX12_runsFrom 21 = .ok (.bipush 40, 2) ∧ decode cX12_runsFrom 23 = .ok (.iload_n 2, 1)) ∧ (decode cX12_runsFrom 24 = .ok (.imul, 1) ∧ decode cX12_runsFrom 25 = .ok (.iload_n 3, 1))))) ∧ ((((decode cX12_runsFrom 26 = .ok (.iadd, 1) ∧ decode cX12_runsFrom 27 = .ok (.iaload, 1)) ∧ (decode cX12_runsFrom 28 = .ok (.iastore, 1) ∧ decode cX12_runsFrom 29 = .ok (.iinc 3 1, 3))) ∧ ((decode cX12_runsFrom 32 = .ok (.goto (-30), 3) ∧ decode cX12_runsFrom 35 = .ok (.iload_n 2, 1)) ∧ (decode cX12_runsFrom 36 = .ok (.istore_n 3, 1) ∧ decode cX12_runsFrom 37 = .ok (.iload_n 3, 1)))) ∧ (((decode cX12_runsFrom 38 = .ok (.aload_n 0, 1) ∧ decode cX12_runsFrom 39 = .ok (.invokevirtual 225, 3)) ∧ (decode cX12_runsFrom 42 = .ok (.if_icmp .ge 54, 3) ∧ decode cX12_runsFrom 45 = .ok (.aload_n 0, 1))) ∧ ((decode cX12_runsFrom 46 = .ok (.iload_n 3, 1) ∧ decode cX12_runsFrom 47 = .ok (.invokevirtual 277, 3)) ∧ (decode cX12_runsFrom 50 = .ok (.aload_n 0, 1) ∧ decode cX12_runsFrom 51 = .ok (.sipush 360, 3)))))) ∧ bA cX12_runsFrom 54 fp_scX12_runsFrom_1 :=
  have q0 := fp_o3 fp_bcX12_runsFrom
  have q1 := fp_o62 q0.2
  have q2 := fp_o29 q1.2
  have q3 := fp_o16 (v := 40) q2.2 rfl
  have q4 := fp_o162 (v := 30) q3.2 rfl
  have q5 := fp_o42 q4.2
  have q6 := fp_o180 (v := 7) q5.2 rfl
  have q7 := fp_o17 (v := 360) q6.2 rfl
  have q8 := fp_o29 q7.2
  have q9 := fp_o96 q8.2
  have q10 := fp_o42 q9.2
  have q11 := fp_o180 (v := 47) q10.2 rfl
  have q12 := fp_o16 (v := 40) q11.2 rfl
  have q13 := fp_o28 q12.2
  have q14 := fp_o104 q13.2
  have q15 := fp_o29 q14.2
  have q16 := fp_o96 q15.2
  have q17 := fp_o46 q16.2
  have q18 := fp_o79 q17.2
  have q19 := fp_o132 (v := 1) q18.2 rfl
  have q20 := fp_o167 (v := (-30)) q19.2 rfl
  have q21 := fp_o28 q20.2
  have q22 := fp_o62 q21.2
  have q23 := fp_o29 q22.2
  have q24 := fp_o42 q23.2
  have q25 := fp_o182 (v := 225) q24.2 rfl
  have q26 := fp_o162 (v := 54) q25.2 rfl
  have q27 := fp_o42 q26.2
  have q28 := fp_o29 q27.2
  have q29 := fp_o182 (v := 277) q28.2 rfl
  have q30 := fp_o42 q29.2
  have q31 := fp_o17 (v := 360) q30.2 rfl
  ⟨⟨⟨⟨⟨⟨q0.1, q1.1⟩, ⟨q2.1, q3.1⟩⟩, ⟨⟨q4.1, q5.1⟩, ⟨q6.1, q7.1⟩⟩⟩, ⟨⟨⟨q8.1, q9.1⟩, ⟨q10.1, q11.1⟩⟩, ⟨⟨q12.1, q13.1⟩, ⟨q14.1, q15.1⟩⟩⟩⟩, ⟨⟨⟨⟨q16.1, q17.1⟩, ⟨q18.1, q19.1⟩⟩, ⟨⟨q20.1, q21.1⟩, ⟨q22.1, q23.1⟩⟩⟩, ⟨⟨⟨q24.1, q25.1⟩, ⟨q26.1, q27.1⟩⟩, ⟨⟨q28.1, q29.1⟩, ⟨q30.1, q31.1⟩⟩⟩⟩⟩, q31.2⟩
theorem dX12_runsFrom_0 : decode cX12_runsFrom 0 = .ok (.iconst 0, 1) := fp_hdX12_runsFrom_0.1.1.1.1.1.1
theorem dX12_runsFrom_1 : decode cX12_runsFrom 1 = .ok (.istore_n 3, 1) := fp_hdX12_runsFrom_0.1.1.1.1.1.2
theorem dX12_runsFrom_2 : decode cX12_runsFrom 2 = .ok (.iload_n 3, 1) := fp_hdX12_runsFrom_0.1.1.1.1.2.1
theorem dX12_runsFrom_3 : decode cX12_runsFrom 3 = .ok (.bipush 40, 2) := fp_hdX12_runsFrom_0.1.1.1.1.2.2
theorem dX12_runsFrom_5 : decode cX12_runsFrom 5 = .ok (.if_icmp .ge 30, 3) := fp_hdX12_runsFrom_0.1.1.1.2.1.1
theorem dX12_runsFrom_8 : decode cX12_runsFrom 8 = .ok (.aload_n 0, 1) := fp_hdX12_runsFrom_0.1.1.1.2.1.2
theorem dX12_runsFrom_9 : decode cX12_runsFrom 9 = .ok (.getfield 7, 3) := fp_hdX12_runsFrom_0.1.1.1.2.2.1
theorem dX12_runsFrom_12 : decode cX12_runsFrom 12 = .ok (.sipush 360, 3) := fp_hdX12_runsFrom_0.1.1.1.2.2.2
theorem dX12_runsFrom_15 : decode cX12_runsFrom 15 = .ok (.iload_n 3, 1) := fp_hdX12_runsFrom_0.1.1.2.1.1.1
theorem dX12_runsFrom_16 : decode cX12_runsFrom 16 = .ok (.iadd, 1) := fp_hdX12_runsFrom_0.1.1.2.1.1.2
theorem dX12_runsFrom_17 : decode cX12_runsFrom 17 = .ok (.aload_n 0, 1) := fp_hdX12_runsFrom_0.1.1.2.1.2.1
theorem dX12_runsFrom_18 : decode cX12_runsFrom 18 = .ok (.getfield 47, 3) := fp_hdX12_runsFrom_0.1.1.2.1.2.2
theorem dX12_runsFrom_21 : decode cX12_runsFrom 21 = .ok (.bipush 40, 2) := fp_hdX12_runsFrom_0.1.1.2.2.1.1
theorem dX12_runsFrom_23 : decode cX12_runsFrom 23 = .ok (.iload_n 2, 1) := fp_hdX12_runsFrom_0.1.1.2.2.1.2
theorem dX12_runsFrom_24 : decode cX12_runsFrom 24 = .ok (.imul, 1) := fp_hdX12_runsFrom_0.1.1.2.2.2.1
theorem dX12_runsFrom_25 : decode cX12_runsFrom 25 = .ok (.iload_n 3, 1) := fp_hdX12_runsFrom_0.1.1.2.2.2.2
theorem dX12_runsFrom_26 : decode cX12_runsFrom 26 = .ok (.iadd, 1) := fp_hdX12_runsFrom_0.1.2.1.1.1.1
theorem dX12_runsFrom_27 : decode cX12_runsFrom 27 = .ok (.iaload, 1) := fp_hdX12_runsFrom_0.1.2.1.1.1.2
theorem dX12_runsFrom_28 : decode cX12_runsFrom 28 = .ok (.iastore, 1) := fp_hdX12_runsFrom_0.1.2.1.1.2.1
theorem dX12_runsFrom_29 : decode cX12_runsFrom 29 = .ok (.iinc 3 1, 3) := fp_hdX12_runsFrom_0.1.2.1.1.2.2
theorem dX12_runsFrom_32 : decode cX12_runsFrom 32 = .ok (.goto (-30), 3) := fp_hdX12_runsFrom_0.1.2.1.2.1.1
theorem dX12_runsFrom_35 : decode cX12_runsFrom 35 = .ok (.iload_n 2, 1) := fp_hdX12_runsFrom_0.1.2.1.2.1.2
theorem dX12_runsFrom_36 : decode cX12_runsFrom 36 = .ok (.istore_n 3, 1) := fp_hdX12_runsFrom_0.1.2.1.2.2.1
theorem dX12_runsFrom_37 : decode cX12_runsFrom 37 = .ok (.iload_n 3, 1) := fp_hdX12_runsFrom_0.1.2.1.2.2.2
theorem dX12_runsFrom_38 : decode cX12_runsFrom 38 = .ok (.aload_n 0, 1) := fp_hdX12_runsFrom_0.1.2.2.1.1.1
theorem dX12_runsFrom_39 : decode cX12_runsFrom 39 = .ok (.invokevirtual 225, 3) := fp_hdX12_runsFrom_0.1.2.2.1.1.2
theorem dX12_runsFrom_42 : decode cX12_runsFrom 42 = .ok (.if_icmp .ge 54, 3) := fp_hdX12_runsFrom_0.1.2.2.1.2.1
theorem dX12_runsFrom_45 : decode cX12_runsFrom 45 = .ok (.aload_n 0, 1) := fp_hdX12_runsFrom_0.1.2.2.1.2.2
theorem dX12_runsFrom_46 : decode cX12_runsFrom 46 = .ok (.iload_n 3, 1) := fp_hdX12_runsFrom_0.1.2.2.2.1.1
theorem dX12_runsFrom_47 : decode cX12_runsFrom 47 = .ok (.invokevirtual 277, 3) := fp_hdX12_runsFrom_0.1.2.2.2.1.2
theorem dX12_runsFrom_50 : decode cX12_runsFrom 50 = .ok (.aload_n 0, 1) := fp_hdX12_runsFrom_0.1.2.2.2.2.1
theorem dX12_runsFrom_51 : decode cX12_runsFrom 51 = .ok (.sipush 360, 3) := fp_hdX12_runsFrom_0.1.2.2.2.2.2
theorem fp_hdX12_runsFrom_54 : (((((decode cX12_runsFrom 54 = .ok (.iload_n 3, 1) ∧ decode cX12_runsFrom 55 = .ok (.aload_n 0, 1)) ∧ (decode cX12_runsFrom 56 = .ok (.iload_n 1, 1) ∧ decode cX12_runsFrom 57 = .ok (.iload_n 3, 1))) ∧ ((decode cX12_runsFrom 58 = .ok (.invokevirtual 280, 3) ∧ decode cX12_runsFrom 61 = .ok (.ifCond .eq 12, 3)) ∧ decode cX12_runsFrom 64 = .ok (.aload_n 0, 1))) ∧ (((decode cX12_runsFrom 65 = .ok (.getfield 50, 3) ∧ decode cX12_runsFrom 68 = .ok (.iload_n 3, 1)) ∧ decode cX12_runsFrom 69 = .ok (.iaload, 1)) ∧ ((decode cX12_runsFrom 70 = .ok (.goto 16, 3) ∧ decode cX12_runsFrom 73 = .ok (.aload_n 0, 1)) ∧ decode cX12_runsFrom 74 = .ok (.getfield 7, 3)))) ∧ ((((decode cX12_runsFrom 77 = .ok (.bipush 47, 2) ∧ decode cX12_runsFrom 79 = .ok (.iconst 4, 1)) ∧ (decode cX12_runsFrom 80 = .ok (.iload_n 3, 1) ∧ decode cX12_runsFrom 81 = .ok (.imul, 1))) ∧ ((decode cX12_runsFrom 82 = .ok (.iadd, 1) ∧ decode cX12_runsFrom 83 = .ok (.iconst 2, 1)) ∧ decode cX12_runsFrom 84 = .ok (.iadd, 1))) ∧ (((decode cX12_runsFrom 85 = .ok (.iaload, 1) ∧ decode cX12_runsFrom 86 = .ok (.invokevirtual 257, 3)) ∧ decode cX12_runsFrom 89 = .ok (.pop, 1)) ∧ ((decode cX12_runsFrom 90 = .ok (.iinc 3 1, 3) ∧ decode cX12_runsFrom 93 = .ok (.goto (-56), 3)) ∧ decode cX12_runsFrom 96 = .ok (.return_, 1))))) ∧ bA cX12_runsFrom 97 [] :=
  have q0 := fp_o29 fp_hdX12_runsFrom_0.2
  have q1 := fp_o42 q0.2
  have q2 := fp_o27 q1.2
  have q3 := fp_o29 q2.2
  have q4 := fp_o182 (v := 280) q3.2 rfl
  have q5 := fp_o153 (v := 12) q4.2 rfl
  have q6 := fp_o42 q5.2
  have q7 := fp_o180 (v := 50) q6.2 rfl
  have q8 := fp_o29 q7.2
  have q9 := fp_o46 q8.2
  have q10 := fp_o167 (v := 16) q9.2 rfl
  have q11 := fp_o42 q10.2
  have q12 := fp_o180 (v := 7) q11.2 rfl
  have q13 := fp_o16 (v := 47) q12.2 rfl
  have q14 := fp_o7 q13.2
  have q15 := fp_o29 q14.2
  have q16 := fp_o104 q15.2
  have q17 := fp_o96 q16.2
  have q18 := fp_o5 q17.2
  have q19 := fp_o96 q18.2
  have q20 := fp_o46 q19.2
  have q21 := fp_o182 (v := 257) q20.2 rfl
  have q22 := fp_o87 q21.2
  have q23 := fp_o132 (v := 1) q22.2 rfl
  have q24 := fp_o167 (v := (-56)) q23.2 rfl
  have q25 := fp_o177 q24.2
  ⟨⟨⟨⟨⟨⟨q0.1, q1.1⟩, ⟨q2.1, q3.1⟩⟩, ⟨⟨q4.1, q5.1⟩, q6.1⟩⟩, ⟨⟨⟨q7.1, q8.1⟩, q9.1⟩, ⟨⟨q10.1, q11.1⟩, q12.1⟩⟩⟩, ⟨⟨⟨⟨q13.1, q14.1⟩, ⟨q15.1, q16.1⟩⟩, ⟨⟨q17.1, q18.1⟩, q19.1⟩⟩, ⟨⟨⟨q20.1, q21.1⟩, q22.1⟩, ⟨⟨q23.1, q24.1⟩, q25.1⟩⟩⟩⟩, q25.2⟩
theorem dX12_runsFrom_54 : decode cX12_runsFrom 54 = .ok (.iload_n 3, 1) := fp_hdX12_runsFrom_54.1.1.1.1.1.1
theorem dX12_runsFrom_55 : decode cX12_runsFrom 55 = .ok (.aload_n 0, 1) := fp_hdX12_runsFrom_54.1.1.1.1.1.2
theorem dX12_runsFrom_56 : decode cX12_runsFrom 56 = .ok (.iload_n 1, 1) := fp_hdX12_runsFrom_54.1.1.1.1.2.1
theorem dX12_runsFrom_57 : decode cX12_runsFrom 57 = .ok (.iload_n 3, 1) := fp_hdX12_runsFrom_54.1.1.1.1.2.2
theorem dX12_runsFrom_58 : decode cX12_runsFrom 58 = .ok (.invokevirtual 280, 3) := fp_hdX12_runsFrom_54.1.1.1.2.1.1
theorem dX12_runsFrom_61 : decode cX12_runsFrom 61 = .ok (.ifCond .eq 12, 3) := fp_hdX12_runsFrom_54.1.1.1.2.1.2
theorem dX12_runsFrom_64 : decode cX12_runsFrom 64 = .ok (.aload_n 0, 1) := fp_hdX12_runsFrom_54.1.1.1.2.2
theorem dX12_runsFrom_65 : decode cX12_runsFrom 65 = .ok (.getfield 50, 3) := fp_hdX12_runsFrom_54.1.1.2.1.1.1
theorem dX12_runsFrom_68 : decode cX12_runsFrom 68 = .ok (.iload_n 3, 1) := fp_hdX12_runsFrom_54.1.1.2.1.1.2
theorem dX12_runsFrom_69 : decode cX12_runsFrom 69 = .ok (.iaload, 1) := fp_hdX12_runsFrom_54.1.1.2.1.2
theorem dX12_runsFrom_70 : decode cX12_runsFrom 70 = .ok (.goto 16, 3) := fp_hdX12_runsFrom_54.1.1.2.2.1.1
theorem dX12_runsFrom_73 : decode cX12_runsFrom 73 = .ok (.aload_n 0, 1) := fp_hdX12_runsFrom_54.1.1.2.2.1.2
theorem dX12_runsFrom_74 : decode cX12_runsFrom 74 = .ok (.getfield 7, 3) := fp_hdX12_runsFrom_54.1.1.2.2.2
theorem dX12_runsFrom_77 : decode cX12_runsFrom 77 = .ok (.bipush 47, 2) := fp_hdX12_runsFrom_54.1.2.1.1.1.1
theorem dX12_runsFrom_79 : decode cX12_runsFrom 79 = .ok (.iconst 4, 1) := fp_hdX12_runsFrom_54.1.2.1.1.1.2
theorem dX12_runsFrom_80 : decode cX12_runsFrom 80 = .ok (.iload_n 3, 1) := fp_hdX12_runsFrom_54.1.2.1.1.2.1
theorem dX12_runsFrom_81 : decode cX12_runsFrom 81 = .ok (.imul, 1) := fp_hdX12_runsFrom_54.1.2.1.1.2.2
theorem dX12_runsFrom_82 : decode cX12_runsFrom 82 = .ok (.iadd, 1) := fp_hdX12_runsFrom_54.1.2.1.2.1.1
theorem dX12_runsFrom_83 : decode cX12_runsFrom 83 = .ok (.iconst 2, 1) := fp_hdX12_runsFrom_54.1.2.1.2.1.2
theorem dX12_runsFrom_84 : decode cX12_runsFrom 84 = .ok (.iadd, 1) := fp_hdX12_runsFrom_54.1.2.1.2.2
theorem dX12_runsFrom_85 : decode cX12_runsFrom 85 = .ok (.iaload, 1) := fp_hdX12_runsFrom_54.1.2.2.1.1.1
theorem dX12_runsFrom_86 : decode cX12_runsFrom 86 = .ok (.invokevirtual 257, 3) := fp_hdX12_runsFrom_54.1.2.2.1.1.2
theorem dX12_runsFrom_89 : decode cX12_runsFrom 89 = .ok (.pop, 1) := fp_hdX12_runsFrom_54.1.2.2.1.2
theorem dX12_runsFrom_90 : decode cX12_runsFrom 90 = .ok (.iinc 3 1, 3) := fp_hdX12_runsFrom_54.1.2.2.2.1.1
theorem dX12_runsFrom_93 : decode cX12_runsFrom 93 = .ok (.goto (-56), 3) := fp_hdX12_runsFrom_54.1.2.2.2.1.2
theorem dX12_runsFrom_96 : decode cX12_runsFrom 96 = .ok (.return_, 1) := fp_hdX12_runsFrom_54.1.2.2.2.2
def fp_scX12_nextLines_1 : List Nat := 3 :: 79 :: 132 :: 2 :: 255 :: 167 :: 255 :: 208 :: 16 :: 252 :: 172 :: []
def fp_scX12_nextLines_0 : List Nat := 42 :: 182 :: 0 :: 225 :: 4 :: 100 :: 61 :: 28 :: 155 :: 0 :: 50 :: 42 :: 27 :: 28 :: 182 :: 1 :: 24 :: 153 :: 0 :: 35 :: 42 :: 180 :: 0 :: 50 :: 28 :: 92 :: 46 :: 4 :: 96 :: 79 :: 42 :: 180 :: 0 :: 50 :: 28 :: 46 :: 42 :: 180 :: 0 :: 184 :: 162 :: 0 :: 5 :: 28 :: 172 :: 42 :: 180 :: 0 :: 50 :: 28 :: fp_scX12_nextLines_1
theorem fp_bcX12_nextLines : bA cX12_nextLines 0 fp_scX12_nextLines_0 := show cX12_nextLines.data.toList.map UInt8.toNat = fp_scX12_nextLines_0 from by decide +kernel
theorem fp_hdX12_nextLines_0 : (((((decode cX12_nextLines 0 = .ok (.aload_n 0, 1) ∧ decode cX12_nextLines 1 = .ok (.invokevirtual 225, 3)) ∧ (decode cX12_nextLines 4 = .ok (.iconst 1, 1) ∧ decode cX12_nextLines 5 = .ok (.isub, 1))) ∧ ((decode cX12_nextLines 6 = .ok (.istore_n 2, 1) ∧ decode cX12_nextLines 7 = .ok (.iload_n 2, 1)) ∧ (decode cX12_nextLines 8 = .ok (.ifCond .lt 50, 3) ∧ decode cX12_nextLines 11 = .ok (.aload_n 0, 1)))) ∧ (((decode cX12_nextLines 12 = .ok (.iload_n 1, 1) ∧ decode cX12_nextLines 13 = .ok (.iload_n 2, 1)) ∧ (decode cX12_nextLines 14 = .ok (.invokevirtual 280, 3) ∧ decode cX12_nextLines 17 = .ok (.ifCond .eq 35, 3))) ∧ ((decode cX12_nextLines 20 = .ok (.aload_n 0, 1) ∧ decode cX12_nextLines 21 = .ok (.getfield 50, 3)) ∧ (decode cX12_nextLines 24 = .ok (.iload_n 2, 1) ∧ decode cX12_nextLines 25 = .ok (.dup2, 1))))) ∧ ((((decode cX12_nextLines 26 = .ok (.iaload, 1) ∧ decode cX12_nextLines 27 = .ok (.iconst 1, 1)) ∧ (decode cX12_nextLines 28 = .ok (.iadd, 1) ∧ decode cX12_nextLines 29 = .ok (.iastore, 1))) ∧ ((decode cX12_nextLines 30 = .ok (.aload_n 0, 1) ∧ decode cX12_nextLines 31 = .ok (.getfield 50, 3)) ∧ (decode cX12_nextLines 34 = .ok (.iload_n 2, 1) ∧ decode cX12_nextLines 35 = .ok (.iaload, 1)))) ∧ (((decode cX12_nextLines 36 = .ok (.aload_n 0, 1) ∧ decode cX12_nextLines 37 = .ok (.getfield 184, 3)) ∧ (decode cX12_nextLines 40 = .ok (.if_icmp .ge 5, 3) ∧ decode cX12_nextLines 43 = .ok (.iload_n 2, 1))) ∧ ((decode cX12_nextLines 44 = .ok (.ireturn, 1) ∧ decode cX12_nextLines 45 = .ok (.aload_n 0, 1)) ∧ (decode cX12_nextLines 46 = .ok (.getfield 50, 3) ∧ decode cX12_nextLines 49 = .ok (.iload_n 2, 1)))))) ∧ bA cX12_nextLines 50 fp_scX12_nextLines_1 :=
  have q0 := fp_o42 fp_bcX12_nextLines
  have q1 := fp_o182 (v := 225) q0.2 rfl
  have q2 := fp_o4 q1.2
  have q3 := fp_o100 q2.2
  have q4 := fp_o61 q3.2
  have q5 := fp_o28 q4.2
  have q6 := fp_o155 (v := 50) q5.2 rfl
  have q7 := fp_o42 q6.2
  have q8 := fp_o27 q7.2
  have q9 := fp_o28 q8.2
  have q10 := fp_o182 (v := 280) q9.2 rfl
  have q11 := fp_o153 (v := 35) q10.2 rfl
  have q12 := fp_o42 q11.2
  have q13 := fp_o180 (v := 50) q12.2 rfl
  have q14 := fp_o28 q13.2
  have q15 := fp_o92 q14.2
  have q16 := fp_o46 q15.2
  have q17 := fp_o4 q16.2
  have q18 := fp_o96 q17.2
  have q19 := fp_o79 q18.2
  have q20 := fp_o42 q19.2
  have q21 := fp_o180 (v := 50) q20.2 rfl
  have q22 := fp_o28 q21.2
  have q23 := fp_o46 q22.2
  have q24 := fp_o42 q23.2
  have q25 := fp_o180 (v := 184) q24.2 rfl
  have q26 := fp_o162 (v := 5) q25.2 rfl
  have q27 := fp_o28 q26.2
  have q28 := fp_o172 q27.2
  have q29 := fp_o42 q28.2
  have q30 := fp_o180 (v := 50) q29.2 rfl
  have q31 := fp_o28 q30.2
  ⟨⟨⟨⟨⟨⟨q0.1, q1.1⟩, ⟨q2.1, q3.1⟩⟩, ⟨⟨q4.1, q5.1⟩, ⟨q6.1, q7.1⟩⟩⟩, ⟨⟨⟨q8.1, q9.1⟩, ⟨q10.1, q11.1⟩⟩, ⟨⟨q12.1, q13.1⟩, ⟨q14.1, q15.1⟩⟩⟩⟩, ⟨⟨⟨⟨q16.1, q17.1⟩, ⟨q18.1, q19.1⟩⟩, ⟨⟨q20.1, q21.1⟩, ⟨q22.1, q23.1⟩⟩⟩, ⟨⟨⟨q24.1, q25.1⟩, ⟨q26.1, q27.1⟩⟩, ⟨⟨q28.1, q29.1⟩, ⟨q30.1, q31.1⟩⟩⟩⟩⟩, q31.2⟩
theorem dX12_nextLines_0 : decode cX12_nextLines 0 = .ok (.aload_n 0, 1) := fp_hdX12_nextLines_0.1.1.1.1.1.1
theorem dX12_nextLines_1 : decode cX12_nextLines 1 = .ok (.invokevirtual 225, 3) := fp_hdX12_nextLines_0.1.1.1.1.1.2
theorem dX12_nextLines_4 : decode cX12_nextLines 4 = .ok (.iconst 1, 1) := fp_hdX12_nextLines_0.1.1.1.1.2.1
theorem dX12_nextLines_5 : decode cX12_nextLines 5 = .ok (.isub, 1) := fp_hdX12_nextLines_0.1.1.1.1.2.2
theorem dX12_nextLines_6 : decode cX12_nextLines 6 = .ok (.istore_n 2, 1) := fp_hdX12_nextLines_0.1.1.1.2.1.1
theorem dX12_nextLines_7 : decode cX12_nextLines 7 = .ok (.iload_n 2, 1) := fp_hdX12_nextLines_0.1.1.1.2.1.2
theorem dX12_nextLines_8 : decode cX12_nextLines 8 = .ok (.ifCond .lt 50, 3) := fp_hdX12_nextLines_0.1.1.1.2.2.1
theorem dX12_nextLines_11 : decode cX12_nextLines 11 = .ok (.aload_n 0, 1) := fp_hdX12_nextLines_0.1.1.1.2.2.2
theorem dX12_nextLines_12 : decode cX12_nextLines 12 = .ok (.iload_n 1, 1) := fp_hdX12_nextLines_0.1.1.2.1.1.1
theorem dX12_nextLines_13 : decode cX12_nextLines 13 = .ok (.iload_n 2, 1) := fp_hdX12_nextLines_0.1.1.2.1.1.2
theorem dX12_nextLines_14 : decode cX12_nextLines 14 = .ok (.invokevirtual 280, 3) := fp_hdX12_nextLines_0.1.1.2.1.2.1
theorem dX12_nextLines_17 : decode cX12_nextLines 17 = .ok (.ifCond .eq 35, 3) := fp_hdX12_nextLines_0.1.1.2.1.2.2
theorem dX12_nextLines_20 : decode cX12_nextLines 20 = .ok (.aload_n 0, 1) := fp_hdX12_nextLines_0.1.1.2.2.1.1
theorem dX12_nextLines_21 : decode cX12_nextLines 21 = .ok (.getfield 50, 3) := fp_hdX12_nextLines_0.1.1.2.2.1.2
theorem dX12_nextLines_24 : decode cX12_nextLines 24 = .ok (.iload_n 2, 1) := fp_hdX12_nextLines_0.1.1.2.2.2.1
theorem dX12_nextLines_25 : decode cX12_nextLines 25 = .ok (.dup2, 1) := fp_hdX12_nextLines_0.1.1.2.2.2.2
theorem dX12_nextLines_26 : decode cX12_nextLines 26 = .ok (.iaload, 1) := fp_hdX12_nextLines_0.1.2.1.1.1.1
theorem dX12_nextLines_27 : decode cX12_nextLines 27 = .ok (.iconst 1, 1) := fp_hdX12_nextLines_0.1.2.1.1.1.2
theorem dX12_nextLines_28 : decode cX12_nextLines 28 = .ok (.iadd, 1) := fp_hdX12_nextLines_0.1.2.1.1.2.1
theorem dX12_nextLines_29 : decode cX12_nextLines 29 = .ok (.iastore, 1) := fp_hdX12_nextLines_0.1.2.1.1.2.2
theorem dX12_nextLines_30 : decode cX12_nextLines 30 = .ok (.aload_n 0, 1) := fp_hdX12_nextLines_0.1.2.1.2.1.1
theorem dX12_nextLines_31 : decode cX12_nextLines 31 = .ok (.getfield 50, 3) := fp_hdX12_nextLines_0.1.2.1.2.1.2
theorem dX12_nextLines_34 : decode cX12_nextLines 34 = .ok (.iload_n 2, 1) := fp_hdX12_nextLines_0.1.2.1.2.2.1
theorem dX12_nextLines_35 : decode cX12_nextLines 35 = .ok (.iaload, 1) := fp_hdX12_nextLines_0.1.2.1.2.2.2
theorem dX12_nextLines_36 : decode cX12_nextLines 36 = .ok (.aload_n 0, 1) := fp_hdX12_nextLines_0.1.2.2.1.1.1
theorem dX12_nextLines_37 : decode cX12_nextLines 37 = .ok (.getfield 184, 3) := fp_hdX12_nextLines_0.1.2.2.1.1.2
theorem dX12_nextLines_40 : decode cX12_nextLines 40 = .ok (.if_icmp .ge 5, 3) := fp_hdX12_nextLines_0.1.2.2.1.2.1
theorem dX12_nextLines_43 : decode cX12_nextLines 43 = .ok (.iload_n 2, 1) := fp_hdX12_nextLines_0.1.2.2.1.2.2
theorem dX12_nextLines_44 : decode cX12_nextLines 44 = .ok (.ireturn, 1) := fp_hdX12_nextLines_0.1.2.2.2.1.1
theorem dX12_nextLines_45 : decode cX12_nextLines 45 = .ok (.aload_n 0, 1) := fp_hdX12_nextLines_0.1.2.2.2.1.2
theorem dX12_nextLines_46 : decode cX12_nextLines 46 = .ok (.getfield 50, 3) := fp_hdX12_nextLines_0.1.2.2.2.2.1
theorem dX12_nextLines_49 : decode cX12_nextLines 49 = .ok (.iload_n 2, 1) := fp_hdX12_nextLines_0.1.2.2.2.2.2
theorem fp_hdX12_nextLines_50 : (((decode cX12_nextLines 50 = .ok (.iconst 0, 1) ∧ decode cX12_nextLines 51 = .ok (.iastore, 1)) ∧ decode cX12_nextLines 52 = .ok (.iinc 2 (-1), 3)) ∧ ((decode cX12_nextLines 55 = .ok (.goto (-48), 3) ∧ decode cX12_nextLines 58 = .ok (.bipush (-4), 2)) ∧ decode cX12_nextLines 60 = .ok (.ireturn, 1))) ∧ bA cX12_nextLines 61 [] :=
  have q0 := fp_o3 fp_hdX12_nextLines_0.2
  have q1 := fp_o79 q0.2
  have q2 := fp_o132 (v := (-1)) q1.2 rfl
  have q3 := fp_o167 (v := (-48)) q2.2 rfl
  have q4 := fp_o16 (v := (-4)) q3.2 rfl
  have q5 := fp_o172 q4.2
  ⟨⟨⟨⟨q0.1, q1.1⟩, q2.1⟩, ⟨⟨q3.1, q4.1⟩, q5.1⟩⟩, q5.2⟩
theorem dX12_nextLines_50 : decode cX12_nextLines 50 = .ok (.iconst 0, 1) := fp_hdX12_nextLines_50.1.1.1.1
theorem dX12_nextLines_51 : decode cX12_nextLines 51 = .ok (.iastore, 1) := fp_hdX12_nextLines_50.1.1.1.2
theorem dX12_nextLines_52 : decode cX12_nextLines 52 = .ok (.iinc 2 (-1), 3) := fp_hdX12_nextLines_50.1.1.2
theorem dX12_nextLines_55 : decode cX12_nextLines 55 = .ok (.goto (-48), 3) := fp_hdX12_nextLines_50.1.2.1.1
theorem dX12_nextLines_58 : decode cX12_nextLines 58 = .ok (.bipush (-4), 2) := fp_hdX12_nextLines_50.1.2.1.2
theorem dX12_nextLines_60 : decode cX12_nextLines 60 = .ok (.ireturn, 1) := fp_hdX12_nextLines_50.1.2.2
def fp_scX12_most_3 : List Nat := 21 :: 7 :: 46 :: 167 :: 0 :: 5 :: 16 :: 252 :: 79 :: 132 :: 7 :: 1 :: 167 :: 255 :: 208 :: 21 :: 6 :: 21 :: 4 :: 164 :: 0 :: 8 :: 21 :: 6 :: 167 :: 0 :: 5 :: 21 :: 4 :: 54 :: 4 :: 42 :: 27 :: 182 :: 1 :: 30 :: 54 :: 5 :: 167 :: 255 :: 155 :: 28 :: 154 :: 0 :: 8 :: 21 :: 4 :: 167 :: 0 :: 12 :: 42 :: 180 :: 0 :: 53 :: 28 :: 16 :: 10 :: 100 :: 46 :: 172 :: []
def fp_scX12_most_2 : List Nat := 54 :: 5 :: 21 :: 5 :: 16 :: 252 :: 159 :: 0 :: 100 :: 42 :: 27 :: 21 :: 5 :: 182 :: 1 :: 27 :: 42 :: 17 :: 1 :: 104 :: 27 :: 182 :: 0 :: 234 :: 54 :: 6 :: 3 :: 54 :: 7 :: 21 :: 7 :: 42 :: 182 :: 0 :: 225 :: 162 :: 0 :: 45 :: 21 :: 6 :: 21 :: 4 :: 164 :: 0 :: 38 :: 42 :: 180 :: 0 :: 53 :: 21 :: 7 :: 42 :: 27 :: 21 :: 7 :: 182 :: 1 :: 24 :: 153 :: 0 :: 13 :: 42 :: 180 :: 0 :: 50 :: fp_scX12_most_3
def fp_scX12_most_1 : List Nat := 182 :: 0 :: 225 :: 162 :: 0 :: 17 :: 42 :: 27 :: 21 :: 4 :: 182 :: 1 :: 24 :: 153 :: 0 :: 7 :: 4 :: 167 :: 0 :: 4 :: 3 :: 96 :: 62 :: 132 :: 4 :: 1 :: 167 :: 255 :: 211 :: 42 :: 180 :: 0 :: 184 :: 153 :: 0 :: 9 :: 29 :: 16 :: 7 :: 164 :: 0 :: 6 :: 16 :: 254 :: 172 :: 42 :: 3 :: 17 :: 1 :: 104 :: 182 :: 1 :: 9 :: 42 :: 3 :: 182 :: 1 :: 21 :: 16 :: 252 :: 54 :: 4 :: 3 :: fp_scX12_most_2
def fp_scX12_most_0 : List Nat := 27 :: 184 :: 0 :: 228 :: 153 :: 0 :: 26 :: 28 :: 153 :: 0 :: 24 :: 28 :: 133 :: 20 :: 0 :: 212 :: 16 :: 9 :: 42 :: 182 :: 0 :: 225 :: 96 :: 133 :: 184 :: 0 :: 94 :: 154 :: 0 :: 5 :: 2 :: 172 :: 3 :: 62 :: 3 :: 54 :: 4 :: 21 :: 4 :: 16 :: 12 :: 162 :: 0 :: 44 :: 42 :: 180 :: 0 :: 50 :: 21 :: 4 :: 3 :: 79 :: 29 :: 21 :: 4 :: 42 :: fp_scX12_most_1
theorem fp_bcX12_most : bA cX12_most 0 fp_scX12_most_0 := show cX12_most.data.toList.map UInt8.toNat = fp_scX12_most_0 from by decide +kernel
theorem fp_hdX12_most_0 : (((((decode cX12_most 0 = .ok (.iload_n 1, 1) ∧ decode cX12_most 1 = .ok (.invokestatic 228, 3)) ∧ (decode cX12_most 4 = .ok (.ifCond .eq 26, 3) ∧ decode cX12_most 7 = .ok (.iload_n 2, 1))) ∧ ((decode cX12_most 8 = .ok (.ifCond .eq 24, 3) ∧ decode cX12_most 11 = .ok (.iload_n 2, 1)) ∧ (decode cX12_most 12 = .ok (.i2l, 1) ∧ decode cX12_most 13 = .ok (.ldc2_w 212, 3)))) ∧ (((decode cX12_most 16 = .ok (.bipush 9, 2) ∧ decode cX12_most 18 = .ok (.aload_n 0, 1)) ∧ (decode cX12_most 19 = .ok (.invokevirtual 225, 3) ∧ decode cX12_most 22 = .ok (.iadd, 1))) ∧ ((decode cX12_most 23 = .ok (.i2l, 1) ∧ decode cX12_most 24 = .ok (.invokestatic 94, 3)) ∧ (decode cX12_most 27 = .ok (.ifCond .ne 5, 3) ∧ decode cX12_most 30 = .ok (.iconst (-1), 1))))) ∧ ((((decode cX12_most 31 = .ok (.ireturn, 1) ∧ decode cX12_most 32 = .ok (.iconst 0, 1)) ∧ (decode cX12_most 33 = .ok (.istore_n 3, 1) ∧ decode cX12_most 34 = .ok (.iconst 0, 1))) ∧ ((decode cX12_most 35 = .ok (.istore 4, 2) ∧ decode cX12_most 37 = .ok (.iload 4, 2)) ∧ (decode cX12_most 39 = .ok (.bipush 12, 2) ∧ decode cX12_most 41 = .ok (.if_icmp .ge 44, 3)))) ∧ (((decode cX12_most 44 = .ok (.aload_n 0, 1) ∧ decode cX12_most 45 = .ok (.getfield 50, 3)) ∧ (decode cX12_most 48 = .ok (.iload 4, 2) ∧ decode cX12_most 50 = .ok (.iconst 0, 1))) ∧ ((decode cX12_most 51 = .ok (.iastore, 1) ∧ decode cX12_most 52 = .ok (.iload_n 3, 1)) ∧ (decode cX12_most 53 = .ok (.iload 4, 2) ∧ decode cX12_most 55 = .ok (.aload_n 0, 1)))))) ∧ bA cX12_most 56 fp_scX12_most_1 :=
  have q0 := fp_o27 fp_bcX12_most
  have q1 := fp_o184 (v := 228) q0.2 rfl
  have q2 := fp_o153 (v := 26) q1.2 rfl
  have q3 := fp_o28 q2.2
  have q4 := fp_o153 (v := 24) q3.2 rfl
  have q5 := fp_o28 q4.2
  have q6 := fp_o133 q5.2
  have q7 := fp_o20 (v := 212) q6.2 rfl
  have q8 := fp_o16 (v := 9) q7.2 rfl
  have q9 := fp_o42 q8.2
  have q10 := fp_o182 (v := 225) q9.2 rfl
  have q11 := fp_o96 q10.2
  have q12 := fp_o133 q11.2
  have q13 := fp_o184 (v := 94) q12.2 rfl
  have q14 := fp_o154 (v := 5) q13.2 rfl
  have q15 := fp_o2 q14.2
  have q16 := fp_o172 q15.2
  have q17 := fp_o3 q16.2
  have q18 := fp_o62 q17.2
  have q19 := fp_o3 q18.2
  have q20 := fp_o54 q19.2
  have q21 := fp_o21 q20.2
  have q22 := fp_o16 (v := 12) q21.2 rfl
  have q23 := fp_o162 (v := 44) q22.2 rfl
  have q24 := fp_o42 q23.2
  have q25 := fp_o180 (v := 50) q24.2 rfl
  have q26 := fp_o21 q25.2
  have q27 := fp_o3 q26.2
  have q28 := fp_o79 q27.2
  have q29 := fp_o29 q28.2
  have q30 := fp_o21 q29.2
  have q31 := fp_o42 q30.2
  ⟨⟨⟨⟨⟨⟨q0.1, q1.1⟩, ⟨q2.1, q3.1⟩⟩, ⟨⟨q4.1, q5.1⟩, ⟨q6.1, q7.1⟩⟩⟩, ⟨⟨⟨q8.1, q9.1⟩, ⟨q10.1, q11.1⟩⟩, ⟨⟨q12.1, q13.1⟩, ⟨q14.1, q15.1⟩⟩⟩⟩, ⟨⟨⟨⟨q16.1, q17.1⟩, ⟨q18.1, q19.1⟩⟩, ⟨⟨q20.1, q21.1⟩, ⟨q22.1, q23.1⟩⟩⟩, ⟨⟨⟨q24.1, q25.1⟩, ⟨q26.1, q27.1⟩⟩, ⟨⟨q28.1, q29.1⟩, ⟨q30.1, q31.1⟩⟩⟩⟩⟩, q31.2⟩
theorem dX12_most_0 : decode cX12_most 0 = .ok (.iload_n 1, 1) := fp_hdX12_most_0.1.1.1.1.1.1
theorem dX12_most_1 : decode cX12_most 1 = .ok (.invokestatic 228, 3) := fp_hdX12_most_0.1.1.1.1.1.2
theorem dX12_most_4 : decode cX12_most 4 = .ok (.ifCond .eq 26, 3) := fp_hdX12_most_0.1.1.1.1.2.1
theorem dX12_most_7 : decode cX12_most 7 = .ok (.iload_n 2, 1) := fp_hdX12_most_0.1.1.1.1.2.2
theorem dX12_most_8 : decode cX12_most 8 = .ok (.ifCond .eq 24, 3) := fp_hdX12_most_0.1.1.1.2.1.1
theorem dX12_most_11 : decode cX12_most 11 = .ok (.iload_n 2, 1) := fp_hdX12_most_0.1.1.1.2.1.2
theorem dX12_most_12 : decode cX12_most 12 = .ok (.i2l, 1) := fp_hdX12_most_0.1.1.1.2.2.1
theorem dX12_most_13 : decode cX12_most 13 = .ok (.ldc2_w 212, 3) := fp_hdX12_most_0.1.1.1.2.2.2
theorem dX12_most_16 : decode cX12_most 16 = .ok (.bipush 9, 2) := fp_hdX12_most_0.1.1.2.1.1.1
theorem dX12_most_18 : decode cX12_most 18 = .ok (.aload_n 0, 1) := fp_hdX12_most_0.1.1.2.1.1.2
theorem dX12_most_19 : decode cX12_most 19 = .ok (.invokevirtual 225, 3) := fp_hdX12_most_0.1.1.2.1.2.1
theorem dX12_most_22 : decode cX12_most 22 = .ok (.iadd, 1) := fp_hdX12_most_0.1.1.2.1.2.2
theorem dX12_most_23 : decode cX12_most 23 = .ok (.i2l, 1) := fp_hdX12_most_0.1.1.2.2.1.1
theorem dX12_most_24 : decode cX12_most 24 = .ok (.invokestatic 94, 3) := fp_hdX12_most_0.1.1.2.2.1.2
theorem dX12_most_27 : decode cX12_most 27 = .ok (.ifCond .ne 5, 3) := fp_hdX12_most_0.1.1.2.2.2.1
theorem dX12_most_30 : decode cX12_most 30 = .ok (.iconst (-1), 1) := fp_hdX12_most_0.1.1.2.2.2.2
theorem dX12_most_31 : decode cX12_most 31 = .ok (.ireturn, 1) := fp_hdX12_most_0.1.2.1.1.1.1
theorem dX12_most_32 : decode cX12_most 32 = .ok (.iconst 0, 1) := fp_hdX12_most_0.1.2.1.1.1.2
theorem dX12_most_33 : decode cX12_most 33 = .ok (.istore_n 3, 1) := fp_hdX12_most_0.1.2.1.1.2.1
theorem dX12_most_34 : decode cX12_most 34 = .ok (.iconst 0, 1) := fp_hdX12_most_0.1.2.1.1.2.2
theorem dX12_most_35 : decode cX12_most 35 = .ok (.istore 4, 2) := fp_hdX12_most_0.1.2.1.2.1.1
theorem dX12_most_37 : decode cX12_most 37 = .ok (.iload 4, 2) := fp_hdX12_most_0.1.2.1.2.1.2
theorem dX12_most_39 : decode cX12_most 39 = .ok (.bipush 12, 2) := fp_hdX12_most_0.1.2.1.2.2.1
theorem dX12_most_41 : decode cX12_most 41 = .ok (.if_icmp .ge 44, 3) := fp_hdX12_most_0.1.2.1.2.2.2
theorem dX12_most_44 : decode cX12_most 44 = .ok (.aload_n 0, 1) := fp_hdX12_most_0.1.2.2.1.1.1
theorem dX12_most_45 : decode cX12_most 45 = .ok (.getfield 50, 3) := fp_hdX12_most_0.1.2.2.1.1.2
theorem dX12_most_48 : decode cX12_most 48 = .ok (.iload 4, 2) := fp_hdX12_most_0.1.2.2.1.2.1
theorem dX12_most_50 : decode cX12_most 50 = .ok (.iconst 0, 1) := fp_hdX12_most_0.1.2.2.1.2.2
theorem dX12_most_51 : decode cX12_most 51 = .ok (.iastore, 1) := fp_hdX12_most_0.1.2.2.2.1.1
theorem dX12_most_52 : decode cX12_most 52 = .ok (.iload_n 3, 1) := fp_hdX12_most_0.1.2.2.2.1.2
theorem dX12_most_53 : decode cX12_most 53 = .ok (.iload 4, 2) := fp_hdX12_most_0.1.2.2.2.2.1
theorem dX12_most_55 : decode cX12_most 55 = .ok (.aload_n 0, 1) := fp_hdX12_most_0.1.2.2.2.2.2
theorem fp_hdX12_most_56 : (((((decode cX12_most 56 = .ok (.invokevirtual 225, 3) ∧ decode cX12_most 59 = .ok (.if_icmp .ge 17, 3)) ∧ (decode cX12_most 62 = .ok (.aload_n 0, 1) ∧ decode cX12_most 63 = .ok (.iload_n 1, 1))) ∧ ((decode cX12_most 64 = .ok (.iload 4, 2) ∧ decode cX12_most 66 = .ok (.invokevirtual 280, 3)) ∧ (decode cX12_most 69 = .ok (.ifCond .eq 7, 3) ∧ decode cX12_most 72 = .ok (.iconst 1, 1)))) ∧ (((decode cX12_most 73 = .ok (.goto 4, 3) ∧ decode cX12_most 76 = .ok (.iconst 0, 1)) ∧ (decode cX12_most 77 = .ok (.iadd, 1) ∧ decode cX12_most 78 = .ok (.istore_n 3, 1))) ∧ ((decode cX12_most 79 = .ok (.iinc 4 1, 3) ∧ decode cX12_most 82 = .ok (.goto (-45), 3)) ∧ (decode cX12_most 85 = .ok (.aload_n 0, 1) ∧ decode cX12_most 86 = .ok (.getfield 184, 3))))) ∧ ((((decode cX12_most 89 = .ok (.ifCond .eq 9, 3) ∧ decode cX12_most 92 = .ok (.iload_n 3, 1)) ∧ (decode cX12_most 93 = .ok (.bipush 7, 2) ∧ decode cX12_most 95 = .ok (.if_icmp .le 6, 3))) ∧ ((decode cX12_most 98 = .ok (.bipush (-2), 2) ∧ decode cX12_most 100 = .ok (.ireturn, 1)) ∧ (decode cX12_most 101 = .ok (.aload_n 0, 1) ∧ decode cX12_most 102 = .ok (.iconst 0, 1)))) ∧ (((decode cX12_most 103 = .ok (.sipush 360, 3) ∧ decode cX12_most 106 = .ok (.invokevirtual 265, 3)) ∧ (decode cX12_most 109 = .ok (.aload_n 0, 1) ∧ decode cX12_most 110 = .ok (.iconst 0, 1))) ∧ ((decode cX12_most 111 = .ok (.invokevirtual 277, 3) ∧ decode cX12_most 114 = .ok (.bipush (-4), 2)) ∧ (decode cX12_most 116 = .ok (.istore 4, 2) ∧ decode cX12_most 118 = .ok (.iconst 0, 1)))))) ∧ bA cX12_most 119 fp_scX12_most_2 :=
  have q0 := fp_o182 (v := 225) fp_hdX12_most_0.2 rfl
  have q1 := fp_o162 (v := 17) q0.2 rfl
  have q2 := fp_o42 q1.2
  have q3 := fp_o27 q2.2
  have q4 := fp_o21 q3.2
  have q5 := fp_o182 (v := 280) q4.2 rfl
  have q6 := fp_o153 (v := 7) q5.2 rfl
  have q7 := fp_o4 q6.2
  have q8 := fp_o167 (v := 4) q7.2 rfl
  have q9 := fp_o3 q8.2
  have q10 := fp_o96 q9.2
  have q11 := fp_o62 q10.2
  have q12 := fp_o132 (v := 1) q11.2 rfl
  have q13 := fp_o167 (v := (-45)) q12.2 rfl
  have q14 := fp_o42 q13.2
  have q15 := fp_o180 (v := 184) q14.2 rfl
  have q16 := fp_o153 (v := 9) q15.2 rfl
  have q17 := fp_o29 q16.2
  have q18 := fp_o16 (v := 7) q17.2 rfl
  have q19 := fp_o164 (v := 6) q18.2 rfl
  have q20 := fp_o16 (v := (-2)) q19.2 rfl
  have q21 := fp_o172 q20.2
  have q22 := fp_o42 q21.2
  have q23 := fp_o3 q22.2
  have q24 := fp_o17 (v := 360) q23.2 rfl
  have q25 := fp_o182 (v := 265) q24.2 rfl
  have q26 := fp_o42 q25.2
  have q27 := fp_o3 q26.2
  have q28 := fp_o182 (v := 277) q27.2 rfl
  have q29 := fp_o16 (v := (-4)) q28.2 rfl
  have q30 := fp_o54 q29.2
  have q31 := fp_o3 q30.2
  ⟨⟨⟨⟨⟨⟨q0.1, q1.1⟩, ⟨q2.1, q3.1⟩⟩, ⟨⟨q4.1, q5.1⟩, ⟨q6.1, q7.1⟩⟩⟩, ⟨⟨⟨q8.1, q9.1⟩, ⟨q10.1, q11.1⟩⟩, ⟨⟨q12.1, q13.1⟩, ⟨q14.1, q15.1⟩⟩⟩⟩, ⟨⟨⟨⟨q16.1, q17.1⟩, ⟨q18.1, q19.1⟩⟩, ⟨⟨q20.1, q21.1⟩, ⟨q22.1, q23.1⟩⟩⟩, ⟨⟨⟨q24.1, q25.1⟩, ⟨q26.1, q27.1⟩⟩, ⟨⟨q28.1, q29.1⟩, ⟨q30.1, q31.1⟩⟩⟩⟩⟩, q31.2⟩
theorem dX12_most_56 : decode cX12_most 56 = .ok (.invokevirtual 225, 3) := fp_hdX12_most_56.1.1.1.1.1.1
theorem dX12_most_59 : decode cX12_most 59 = .ok (.if_icmp .ge 17, 3) := fp_hdX12_most_56.1.1.1.1.1.2
theorem dX12_most_62 : decode cX12_most 62 = .ok (.aload_n 0, 1) := fp_hdX12_most_56.1.1.1.1.2.1
theorem dX12_most_63 : decode cX12_most 63 = .ok (.iload_n 1, 1) := fp_hdX12_most_56.1.1.1.1.2.2
theorem dX12_most_64 : decode cX12_most 64 = .ok (.iload 4, 2) := fp_hdX12_most_56.1.1.1.2.1.1
theorem dX12_most_66 : decode cX12_most 66 = .ok (.invokevirtual 280, 3) := fp_hdX12_most_56.1.1.1.2.1.2
theorem dX12_most_69 : decode cX12_most 69 = .ok (.ifCond .eq 7, 3) := fp_hdX12_most_56.1.1.1.2.2.1
theorem dX12_most_72 : decode cX12_most 72 = .ok (.iconst 1, 1) := fp_hdX12_most_56.1.1.1.2.2.2
theorem dX12_most_73 : decode cX12_most 73 = .ok (.goto 4, 3) := fp_hdX12_most_56.1.1.2.1.1.1
theorem dX12_most_76 : decode cX12_most 76 = .ok (.iconst 0, 1) := fp_hdX12_most_56.1.1.2.1.1.2
theorem dX12_most_77 : decode cX12_most 77 = .ok (.iadd, 1) := fp_hdX12_most_56.1.1.2.1.2.1
theorem dX12_most_78 : decode cX12_most 78 = .ok (.istore_n 3, 1) := fp_hdX12_most_56.1.1.2.1.2.2
theorem dX12_most_79 : decode cX12_most 79 = .ok (.iinc 4 1, 3) := fp_hdX12_most_56.1.1.2.2.1.1
theorem dX12_most_82 : decode cX12_most 82 = .ok (.goto (-45), 3) := fp_hdX12_most_56.1.1.2.2.1.2
theorem dX12_most_85 : decode cX12_most 85 = .ok (.aload_n 0, 1) := fp_hdX12_most_56.1.1.2.2.2.1
theorem dX12_most_86 : decode cX12_most 86 = .ok (.getfield 184, 3) := fp_hdX12_most_56.1.1.2.2.2.2
theorem dX12_most_89 : decode cX12_most 89 = .ok (.ifCond .eq 9, 3) := fp_hdX12_most_56.1.2.1.1.1.1
theorem dX12_most_92 : decode cX12_most 92 = .ok (.iload_n 3, 1) := fp_hdX12_most_56.1.2.1.1.1.2
theorem dX12_most_93 : decode cX12_most 93 = .ok (.bipush 7, 2) := fp_hdX12_most_56.1.2.1.1.2.1
theorem dX12_most_95 : decode cX12_most 95 = .ok (.if_icmp .le 6, 3) := fp_hdX12_most_56.1.2.1.1.2.2
theorem dX12_most_98 : decode cX12_most 98 = .ok (.bipush (-2), 2) := fp_hdX12_most_56.1.2.1.2.1.1
theorem dX12_most_100 : decode cX12_most 100 = .ok (.ireturn, 1) := fp_hdX12_most_56.1.2.1.2.1.2
theorem dX12_most_101 : decode cX12_most 101 = .ok (.aload_n 0, 1) := fp_hdX12_most_56.1.2.1.2.2.1
theorem dX12_most_102 : decode cX12_most 102 = .ok (.iconst 0, 1) := fp_hdX12_most_56.1.2.1.2.2.2
theorem dX12_most_103 : decode cX12_most 103 = .ok (.sipush 360, 3) := fp_hdX12_most_56.1.2.2.1.1.1
theorem dX12_most_106 : decode cX12_most 106 = .ok (.invokevirtual 265, 3) := fp_hdX12_most_56.1.2.2.1.1.2
theorem dX12_most_109 : decode cX12_most 109 = .ok (.aload_n 0, 1) := fp_hdX12_most_56.1.2.2.1.2.1
theorem dX12_most_110 : decode cX12_most 110 = .ok (.iconst 0, 1) := fp_hdX12_most_56.1.2.2.1.2.2
theorem dX12_most_111 : decode cX12_most 111 = .ok (.invokevirtual 277, 3) := fp_hdX12_most_56.1.2.2.2.1.1
theorem dX12_most_114 : decode cX12_most 114 = .ok (.bipush (-4), 2) := fp_hdX12_most_56.1.2.2.2.1.2
theorem dX12_most_116 : decode cX12_most 116 = .ok (.istore 4, 2) := fp_hdX12_most_56.1.2.2.2.2.1
theorem dX12_most_118 : decode cX12_most 118 = .ok (.iconst 0, 1) := fp_hdX12_most_56.1.2.2.2.2.2
theorem fp_hdX12_most_119 : (((((decode cX12_most 119 = .ok (.istore 5, 2) ∧ decode cX12_most 121 = .ok (.iload 5, 2)) ∧ (decode cX12_most 123 = .ok (.bipush (-4), 2) ∧ decode cX12_most 125 = .ok (.if_icmp .eq 100, 3))) ∧ ((decode cX12_most 128 = .ok (.aload_n 0, 1) ∧ decode cX12_most 129 = .ok (.iload_n 1, 1)) ∧ (decode cX12_most 130 = .ok (.iload 5, 2) ∧ decode cX12_most 132 = .ok (.invokevirtual 283, 3)))) ∧ (((decode cX12_most 135 = .ok (.aload_n 0, 1) ∧ decode cX12_most 136 = .ok (.sipush 360, 3)) ∧ (decode cX12_most 139 = .ok (.iload_n 1, 1) ∧ decode cX12_most 140 = .ok (.invokevirtual 234, 3))) ∧ ((decode cX12_most 143 = .ok (.istore 6, 2) ∧ decode cX12_most 145 = .ok (.iconst 0, 1)) ∧ (decode cX12_most 146 = .ok (.istore 7, 2) ∧ decode cX12_most 148 = .ok (.iload 7, 2))))) ∧ ((((decode cX12_most 150 = .ok (.aload_n 0, 1) ∧ decode cX12_most 151 = .ok (.invokevirtual 225, 3)) ∧ (decode cX12_most 154 = .ok (.if_icmp .ge 45, 3) ∧ decode cX12_most 157 = .ok (.iload 6, 2))) ∧ ((decode cX12_most 159 = .ok (.iload 4, 2) ∧ decode cX12_most 161 = .ok (.if_icmp .le 38, 3)) ∧ (decode cX12_most 164 = .ok (.aload_n 0, 1) ∧ decode cX12_most 165 = .ok (.getfield 53, 3)))) ∧ (((decode cX12_most 168 = .ok (.iload 7, 2) ∧ decode cX12_most 170 = .ok (.aload_n 0, 1)) ∧ (decode cX12_most 171 = .ok (.iload_n 1, 1) ∧ decode cX12_most 172 = .ok (.iload 7, 2))) ∧ ((decode cX12_most 174 = .ok (.invokevirtual 280, 3) ∧ decode cX12_most 177 = .ok (.ifCond .eq 13, 3)) ∧ (decode cX12_most 180 = .ok (.aload_n 0, 1) ∧ decode cX12_most 181 = .ok (.getfield 50, 3)))))) ∧ bA cX12_most 184 fp_scX12_most_3 :=
  have q0 := fp_o54 fp_hdX12_most_56.2
  have q1 := fp_o21 q0.2
  have q2 := fp_o16 (v := (-4)) q1.2 rfl
  have q3 := fp_o159 (v := 100) q2.2 rfl
  have q4 := fp_o42 q3.2
  have q5 := fp_o27 q4.2
  have q6 := fp_o21 q5.2
  have q7 := fp_o182 (v := 283) q6.2 rfl
  have q8 := fp_o42 q7.2
  have q9 := fp_o17 (v := 360) q8.2 rfl
  have q10 := fp_o27 q9.2
  have q11 := fp_o182 (v := 234) q10.2 rfl
  have q12 := fp_o54 q11.2
  have q13 := fp_o3 q12.2
  have q14 := fp_o54 q13.2
  have q15 := fp_o21 q14.2
  have q16 := fp_o42 q15.2
  have q17 := fp_o182 (v := 225) q16.2 rfl
  have q18 := fp_o162 (v := 45) q17.2 rfl
  have q19 := fp_o21 q18.2
  have q20 := fp_o21 q19.2
  have q21 := fp_o164 (v := 38) q20.2 rfl
  have q22 := fp_o42 q21.2
  have q23 := fp_o180 (v := 53) q22.2 rfl
  have q24 := fp_o21 q23.2
  have q25 := fp_o42 q24.2
  have q26 := fp_o27 q25.2
  have q27 := fp_o21 q26.2
  have q28 := fp_o182 (v := 280) q27.2 rfl
  have q29 := fp_o153 (v := 13) q28.2 rfl
  have q30 := fp_o42 q29.2
  have q31 := fp_o180 (v := 50) q30.2 rfl
  ⟨⟨⟨⟨⟨⟨q0.1, q1.1⟩, ⟨q2.1, q3.1⟩⟩, ⟨⟨q4.1, q5.1⟩, ⟨q6.1, q7.1⟩⟩⟩, ⟨⟨⟨q8.1, q9.1⟩, ⟨q10.1, q11.1⟩⟩, ⟨⟨q12.1, q13.1⟩, ⟨q14.1, q15.1⟩⟩⟩⟩, ⟨⟨⟨⟨q16.1, q17.1⟩, ⟨q18.1, q19.1⟩⟩, ⟨⟨q20.1, q21.1⟩, ⟨q22.1, q23.1⟩⟩⟩, ⟨⟨⟨q24.1, q25.1⟩, ⟨q26.1, q27.1⟩⟩, ⟨⟨q28.1, q29.1⟩, ⟨q30.1, q31.1⟩⟩⟩⟩⟩, q31.2⟩
theorem dX12_most_119 : decode cX12_most 119 = .ok (.istore 5, 2) := fp_hdX12_most_119.1.1.1.1.1.1
theorem dX12_most_121 : decode cX12_most 121 = .ok (.iload 5, 2) := fp_hdX12_most_119.1.1.1.1.1.2
theorem dX12_most_123 : decode cX12_most 123 = .ok (.bipush (-4), 2) := fp_hdX12_most_119.1.1.1.1.2.1
theorem dX12_most_125 : decode cX12_most 125 = .ok (.if_icmp .eq 100, 3) := fp_hdX12_most_119.1.1.1.1.2.2
theorem dX12_most_128 : decode cX12_most 128 = .ok (.aload_n 0, 1) := fp_hdX12_most_119.1.1.1.2.1.1
theorem dX12_most_129 : decode cX12_most 129 = .ok (.iload_n 1, 1) := fp_hdX12_most_119.1.1.1.2.1.2
theorem dX12_most_130 : decode cX12_most 130 = .ok (.iload 5, 2) := fp_hdX12_most_119.1.1.1.2.2.1
theorem dX12_most_132 : decode cX12_most 132 = .ok (.invokevirtual 283, 3) := fp_hdX12_most_119.1.1.1.2.2.2
theorem dX12_most_135 : decode cX12_most 135 = .ok (.aload_n 0, 1) := fp_hdX12_most_119.1.1.2.1.1.1
theorem dX12_most_136 : decode cX12_most 136 = .ok (.sipush 360, 3) := fp_hdX12_most_119.1.1.2.1.1.2
theorem dX12_most_139 : decode cX12_most 139 = .ok (.iload_n 1, 1) := fp_hdX12_most_119.1.1.2.1.2.1
theorem dX12_most_140 : decode cX12_most 140 = .ok (.invokevirtual 234, 3) := fp_hdX12_most_119.1.1.2.1.2.2
theorem dX12_most_143 : decode cX12_most 143 = .ok (.istore 6, 2) := fp_hdX12_most_119.1.1.2.2.1.1
theorem dX12_most_145 : decode cX12_most 145 = .ok (.iconst 0, 1) := fp_hdX12_most_119.1.1.2.2.1.2
theorem dX12_most_146 : decode cX12_most 146 = .ok (.istore 7, 2) := fp_hdX12_most_119.1.1.2.2.2.1
theorem dX12_most_148 : decode cX12_most 148 = .ok (.iload 7, 2) := fp_hdX12_most_119.1.1.2.2.2.2
theorem dX12_most_150 : decode cX12_most 150 = .ok (.aload_n 0, 1) := fp_hdX12_most_119.1.2.1.1.1.1
theorem dX12_most_151 : decode cX12_most 151 = .ok (.invokevirtual 225, 3) := fp_hdX12_most_119.1.2.1.1.1.2
theorem dX12_most_154 : decode cX12_most 154 = .ok (.if_icmp .ge 45, 3) := fp_hdX12_most_119.1.2.1.1.2.1
theorem dX12_most_157 : decode cX12_most 157 = .ok (.iload 6, 2) := fp_hdX12_most_119.1.2.1.1.2.2
theorem dX12_most_159 : decode cX12_most 159 = .ok (.iload 4, 2) := fp_hdX12_most_119.1.2.1.2.1.1
theorem dX12_most_161 : decode cX12_most 161 = .ok (.if_icmp .le 38, 3) := fp_hdX12_most_119.1.2.1.2.1.2
theorem dX12_most_164 : decode cX12_most 164 = .ok (.aload_n 0, 1) := fp_hdX12_most_119.1.2.1.2.2.1
theorem dX12_most_165 : decode cX12_most 165 = .ok (.getfield 53, 3) := fp_hdX12_most_119.1.2.1.2.2.2
theorem dX12_most_168 : decode cX12_most 168 = .ok (.iload 7, 2) := fp_hdX12_most_119.1.2.2.1.1.1
theorem dX12_most_170 : decode cX12_most 170 = .ok (.aload_n 0, 1) := fp_hdX12_most_119.1.2.2.1.1.2
theorem dX12_most_171 : decode cX12_most 171 = .ok (.iload_n 1, 1) := fp_hdX12_most_119.1.2.2.1.2.1
theorem dX12_most_172 : decode cX12_most 172 = .ok (.iload 7, 2) := fp_hdX12_most_119.1.2.2.1.2.2
theorem dX12_most_174 : decode cX12_most 174 = .ok (.invokevirtual 280, 3) := fp_hdX12_most_119.1.2.2.2.1.1
theorem dX12_most_177 : decode cX12_most 177 = .ok (.ifCond .eq 13, 3) := fp_hdX12_most_119.1.2.2.2.1.2
theorem dX12_most_180 : decode cX12_most 180 = .ok (.aload_n 0, 1) := fp_hdX12_most_119.1.2.2.2.2.1
theorem dX12_most_181 : decode cX12_most 181 = .ok (.getfield 50, 3) := fp_hdX12_most_119.1.2.2.2.2.2
theorem fp_hdX12_most_184 : (((((decode cX12_most 184 = .ok (.iload 7, 2) ∧ decode cX12_most 186 = .ok (.iaload, 1)) ∧ (decode cX12_most 187 = .ok (.goto 5, 3) ∧ decode cX12_most 190 = .ok (.bipush (-4), 2))) ∧ ((decode cX12_most 192 = .ok (.iastore, 1) ∧ decode cX12_most 193 = .ok (.iinc 7 1, 3)) ∧ (decode cX12_most 196 = .ok (.goto (-48), 3) ∧ decode cX12_most 199 = .ok (.iload 6, 2)))) ∧ (((decode cX12_most 201 = .ok (.iload 4, 2) ∧ decode cX12_most 203 = .ok (.if_icmp .le 8, 3)) ∧ (decode cX12_most 206 = .ok (.iload 6, 2) ∧ decode cX12_most 208 = .ok (.goto 5, 3))) ∧ ((decode cX12_most 211 = .ok (.iload 4, 2) ∧ decode cX12_most 213 = .ok (.istore 4, 2)) ∧ decode cX12_most 215 = .ok (.aload_n 0, 1)))) ∧ ((((decode cX12_most 216 = .ok (.iload_n 1, 1) ∧ decode cX12_most 217 = .ok (.invokevirtual 286, 3)) ∧ (decode cX12_most 220 = .ok (.istore 5, 2) ∧ decode cX12_most 222 = .ok (.goto (-101), 3))) ∧ ((decode cX12_most 225 = .ok (.iload_n 2, 1) ∧ decode cX12_most 226 = .ok (.ifCond .ne 8, 3)) ∧ (decode cX12_most 229 = .ok (.iload 4, 2) ∧ decode cX12_most 231 = .ok (.goto 12, 3)))) ∧ (((decode cX12_most 234 = .ok (.aload_n 0, 1) ∧ decode cX12_most 235 = .ok (.getfield 53, 3)) ∧ (decode cX12_most 238 = .ok (.iload_n 2, 1) ∧ decode cX12_most 239 = .ok (.bipush 10, 2))) ∧ ((decode cX12_most 241 = .ok (.isub, 1) ∧ decode cX12_most 242 = .ok (.iaload, 1)) ∧ decode cX12_most 243 = .ok (.ireturn, 1))))) ∧ bA cX12_most 244 [] :=
  have q0 := fp_o21 fp_hdX12_most_119.2
  have q1 := fp_o46 q0.2
  have q2 := fp_o167 (v := 5) q1.2 rfl
  have q3 := fp_o16 (v := (-4)) q2.2 rfl
  have q4 := fp_o79 q3.2
  have q5 := fp_o132 (v := 1) q4.2 rfl
  have q6 := fp_o167 (v := (-48)) q5.2 rfl
  have q7 := fp_o21 q6.2
  have q8 := fp_o21 q7.2
  have q9 := fp_o164 (v := 8) q8.2 rfl
  have q10 := fp_o21 q9.2
  have q11 := fp_o167 (v := 5) q10.2 rfl
  have q12 := fp_o21 q11.2
  have q13 := fp_o54 q12.2
  have q14 := fp_o42 q13.2
  have q15 := fp_o27 q14.2
  have q16 := fp_o182 (v := 286) q15.2 rfl
  have q17 := fp_o54 q16.2
  have q18 := fp_o167 (v := (-101)) q17.2 rfl
  have q19 := fp_o28 q18.2
  have q20 := fp_o154 (v := 8) q19.2 rfl
  have q21 := fp_o21 q20.2
  have q22 := fp_o167 (v := 12) q21.2 rfl
  have q23 := fp_o42 q22.2
  have q24 := fp_o180 (v := 53) q23.2 rfl
  have q25 := fp_o28 q24.2
  have q26 := fp_o16 (v := 10) q25.2 rfl
  have q27 := fp_o100 q26.2
  have q28 := fp_o46 q27.2
  have q29 := fp_o172 q28.2
  ⟨⟨⟨⟨⟨⟨q0.1, q1.1⟩, ⟨q2.1, q3.1⟩⟩, ⟨⟨q4.1, q5.1⟩, ⟨q6.1, q7.1⟩⟩⟩, ⟨⟨⟨q8.1, q9.1⟩, ⟨q10.1, q11.1⟩⟩, ⟨⟨q12.1, q13.1⟩, q14.1⟩⟩⟩, ⟨⟨⟨⟨q15.1, q16.1⟩, ⟨q17.1, q18.1⟩⟩, ⟨⟨q19.1, q20.1⟩, ⟨q21.1, q22.1⟩⟩⟩, ⟨⟨⟨q23.1, q24.1⟩, ⟨q25.1, q26.1⟩⟩, ⟨⟨q27.1, q28.1⟩, q29.1⟩⟩⟩⟩, q29.2⟩
theorem dX12_most_184 : decode cX12_most 184 = .ok (.iload 7, 2) := fp_hdX12_most_184.1.1.1.1.1.1
theorem dX12_most_186 : decode cX12_most 186 = .ok (.iaload, 1) := fp_hdX12_most_184.1.1.1.1.1.2
theorem dX12_most_187 : decode cX12_most 187 = .ok (.goto 5, 3) := fp_hdX12_most_184.1.1.1.1.2.1
theorem dX12_most_190 : decode cX12_most 190 = .ok (.bipush (-4), 2) := fp_hdX12_most_184.1.1.1.1.2.2
theorem dX12_most_192 : decode cX12_most 192 = .ok (.iastore, 1) := fp_hdX12_most_184.1.1.1.2.1.1
theorem dX12_most_193 : decode cX12_most 193 = .ok (.iinc 7 1, 3) := fp_hdX12_most_184.1.1.1.2.1.2
theorem dX12_most_196 : decode cX12_most 196 = .ok (.goto (-48), 3) := fp_hdX12_most_184.1.1.1.2.2.1
theorem dX12_most_199 : decode cX12_most 199 = .ok (.iload 6, 2) := fp_hdX12_most_184.1.1.1.2.2.2
theorem dX12_most_201 : decode cX12_most 201 = .ok (.iload 4, 2) := fp_hdX12_most_184.1.1.2.1.1.1
theorem dX12_most_203 : decode cX12_most 203 = .ok (.if_icmp .le 8, 3) := fp_hdX12_most_184.1.1.2.1.1.2
theorem dX12_most_206 : decode cX12_most 206 = .ok (.iload 6, 2) := fp_hdX12_most_184.1.1.2.1.2.1
theorem dX12_most_208 : decode cX12_most 208 = .ok (.goto 5, 3) := fp_hdX12_most_184.1.1.2.1.2.2
theorem dX12_most_211 : decode cX12_most 211 = .ok (.iload 4, 2) := fp_hdX12_most_184.1.1.2.2.1.1
theorem dX12_most_213 : decode cX12_most 213 = .ok (.istore 4, 2) := fp_hdX12_most_184.1.1.2.2.1.2
theorem dX12_most_215 : decode cX12_most 215 = .ok (.aload_n 0, 1) := fp_hdX12_most_184.1.1.2.2.2
theorem dX12_most_216 : decode cX12_most 216 = .ok (.iload_n 1, 1) := fp_hdX12_most_184.1.2.1.1.1.1
theorem dX12_most_217 : decode cX12_most 217 = .ok (.invokevirtual 286, 3) := fp_hdX12_most_184.1.2.1.1.1.2
theorem dX12_most_220 : decode cX12_most 220 = .ok (.istore 5, 2) := fp_hdX12_most_184.1.2.1.1.2.1
theorem dX12_most_222 : decode cX12_most 222 = .ok (.goto (-101), 3) := fp_hdX12_most_184.1.2.1.1.2.2
theorem dX12_most_225 : decode cX12_most 225 = .ok (.iload_n 2, 1) := fp_hdX12_most_184.1.2.1.2.1.1
theorem dX12_most_226 : decode cX12_most 226 = .ok (.ifCond .ne 8, 3) := fp_hdX12_most_184.1.2.1.2.1.2
theorem dX12_most_229 : decode cX12_most 229 = .ok (.iload 4, 2) := fp_hdX12_most_184.1.2.1.2.2.1
theorem dX12_most_231 : decode cX12_most 231 = .ok (.goto 12, 3) := fp_hdX12_most_184.1.2.1.2.2.2
theorem dX12_most_234 : decode cX12_most 234 = .ok (.aload_n 0, 1) := fp_hdX12_most_184.1.2.2.1.1.1
theorem dX12_most_235 : decode cX12_most 235 = .ok (.getfield 53, 3) := fp_hdX12_most_184.1.2.2.1.1.2
theorem dX12_most_238 : decode cX12_most 238 = .ok (.iload_n 2, 1) := fp_hdX12_most_184.1.2.2.1.2.1
theorem dX12_most_239 : decode cX12_most 239 = .ok (.bipush 10, 2) := fp_hdX12_most_184.1.2.2.1.2.2
theorem dX12_most_241 : decode cX12_most 241 = .ok (.isub, 1) := fp_hdX12_most_184.1.2.2.2.1.1
theorem dX12_most_242 : decode cX12_most 242 = .ok (.iaload, 1) := fp_hdX12_most_184.1.2.2.2.1.2
theorem dX12_most_243 : decode cX12_most 243 = .ok (.ireturn, 1) := fp_hdX12_most_184.1.2.2.2.2
def fp_scX12_layChances_3 : List Nat := 9 :: 148 :: 158 :: 0 :: 15 :: 42 :: 180 :: 0 :: 56 :: 21 :: 6 :: 92 :: 47 :: 22 :: 4 :: 97 :: 80 :: 132 :: 3 :: 1 :: 167 :: 255 :: 119 :: 177 :: []
def fp_scX12_layChances_2 : List Nat := 22 :: 4 :: 21 :: 7 :: 153 :: 0 :: 11 :: 42 :: 180 :: 0 :: 22 :: 133 :: 167 :: 0 :: 11 :: 16 :: 10 :: 42 :: 180 :: 0 :: 22 :: 100 :: 133 :: 105 :: 55 :: 4 :: 21 :: 7 :: 153 :: 0 :: 13 :: 42 :: 17 :: 1 :: 104 :: 21 :: 6 :: 182 :: 1 :: 5 :: 87 :: 132 :: 6 :: 1 :: 167 :: 255 :: 182 :: 42 :: 17 :: 1 :: 104 :: 27 :: 182 :: 0 :: 222 :: 54 :: 6 :: 21 :: 6 :: 16 :: 252 :: 159 :: 0 :: 22 :: 22 :: 4 :: fp_scX12_layChances_3
def fp_scX12_layChances_1 : List Nat := 62 :: 29 :: 4 :: 28 :: 120 :: 162 :: 0 :: 136 :: 10 :: 55 :: 4 :: 42 :: 3 :: 17 :: 1 :: 104 :: 182 :: 1 :: 9 :: 3 :: 54 :: 6 :: 21 :: 6 :: 28 :: 162 :: 0 :: 74 :: 22 :: 4 :: 9 :: 148 :: 158 :: 0 :: 67 :: 29 :: 21 :: 6 :: 122 :: 4 :: 126 :: 4 :: 160 :: 0 :: 7 :: 4 :: 167 :: 0 :: 4 :: 3 :: 54 :: 7 :: fp_scX12_layChances_2
def fp_scX12_layChances_0 : List Nat := 42 :: 182 :: 0 :: 225 :: 61 :: 42 :: 10 :: 181 :: 1 :: 33 :: 3 :: 62 :: 29 :: 16 :: 10 :: 162 :: 0 :: 16 :: 42 :: 180 :: 0 :: 56 :: 29 :: 9 :: 80 :: 132 :: 3 :: 1 :: 167 :: 255 :: 240 :: 3 :: 62 :: 29 :: 28 :: 162 :: 0 :: 21 :: 42 :: 89 :: 180 :: 1 :: 33 :: 20 :: 0 :: 212 :: 105 :: 181 :: 1 :: 33 :: 132 :: 3 :: 1 :: 167 :: 255 :: 236 :: 3 :: fp_scX12_layChances_1
theorem fp_bcX12_layChances : bA cX12_layChances 0 fp_scX12_layChances_0 := show cX12_layChances.data.toList.map UInt8.toNat = fp_scX12_layChances_0 from by decide +kernel
theorem fp_hdX12_layChances_0 : (((((decode cX12_layChances 0 = .ok (.aload_n 0, 1) ∧ decode cX12_layChances 1 = .ok (.invokevirtual 225, 3)) ∧ (decode cX12_layChances 4 = .ok (.istore_n 2, 1) ∧ decode cX12_layChances 5 = .ok (.aload_n 0, 1))) ∧ ((decode cX12_layChances 6 = .ok (.lconst 1, 1) ∧ decode cX12_layChances 7 = .ok (.putfield 289, 3)) ∧ (decode cX12_layChances 10 = .ok (.iconst 0, 1) ∧ decode cX12_layChances 11 = .ok (.istore_n 3, 1)))) ∧ (((decode cX12_layChances 12 = .ok (.iload_n 3, 1) ∧ decode cX12_layChances 13 = .ok (.bipush 10, 2)) ∧ (decode cX12_layChances 15 = .ok (.if_icmp .ge 16, 3) ∧ decode cX12_layChances 18 = .ok (.aload_n 0, 1))) ∧ ((decode cX12_layChances 19 = .ok (.getfield 56, 3) ∧ decode cX12_layChances 22 = .ok (.iload_n 3, 1)) ∧ (decode cX12_layChances 23 = .ok (.lconst 0, 1) ∧ decode cX12_layChances 24 = .ok (.lastore, 1))))) ∧ ((((decode cX12_layChances 25 = .ok (.iinc 3 1, 3) ∧ decode cX12_layChances 28 = .ok (.goto (-16), 3)) ∧ (decode cX12_layChances 31 = .ok (.iconst 0, 1) ∧ decode cX12_layChances 32 = .ok (.istore_n 3, 1))) ∧ ((decode cX12_layChances 33 = .ok (.iload_n 3, 1) ∧ decode cX12_layChances 34 = .ok (.iload_n 2, 1)) ∧ (decode cX12_layChances 35 = .ok (.if_icmp .ge 21, 3) ∧ decode cX12_layChances 38 = .ok (.aload_n 0, 1)))) ∧ (((decode cX12_layChances 39 = .ok (.dup, 1) ∧ decode cX12_layChances 40 = .ok (.getfield 289, 3)) ∧ (decode cX12_layChances 43 = .ok (.ldc2_w 212, 3) ∧ decode cX12_layChances 46 = .ok (.lmul, 1))) ∧ ((decode cX12_layChances 47 = .ok (.putfield 289, 3) ∧ decode cX12_layChances 50 = .ok (.iinc 3 1, 3)) ∧ (decode cX12_layChances 53 = .ok (.goto (-20), 3) ∧ decode cX12_layChances 56 = .ok (.iconst 0, 1)))))) ∧ bA cX12_layChances 57 fp_scX12_layChances_1 :=
  have q0 := fp_o42 fp_bcX12_layChances
  have q1 := fp_o182 (v := 225) q0.2 rfl
  have q2 := fp_o61 q1.2
  have q3 := fp_o42 q2.2
  have q4 := fp_o10 q3.2
  have q5 := fp_o181 (v := 289) q4.2 rfl
  have q6 := fp_o3 q5.2
  have q7 := fp_o62 q6.2
  have q8 := fp_o29 q7.2
  have q9 := fp_o16 (v := 10) q8.2 rfl
  have q10 := fp_o162 (v := 16) q9.2 rfl
  have q11 := fp_o42 q10.2
  have q12 := fp_o180 (v := 56) q11.2 rfl
  have q13 := fp_o29 q12.2
  have q14 := fp_o9 q13.2
  have q15 := fp_o80 q14.2
  have q16 := fp_o132 (v := 1) q15.2 rfl
  have q17 := fp_o167 (v := (-16)) q16.2 rfl
  have q18 := fp_o3 q17.2
  have q19 := fp_o62 q18.2
  have q20 := fp_o29 q19.2
  have q21 := fp_o28 q20.2
  have q22 := fp_o162 (v := 21) q21.2 rfl
  have q23 := fp_o42 q22.2
  have q24 := fp_o89 q23.2
  have q25 := fp_o180 (v := 289) q24.2 rfl
  have q26 := fp_o20 (v := 212) q25.2 rfl
  have q27 := fp_o105 q26.2
  have q28 := fp_o181 (v := 289) q27.2 rfl
  have q29 := fp_o132 (v := 1) q28.2 rfl
  have q30 := fp_o167 (v := (-20)) q29.2 rfl
  have q31 := fp_o3 q30.2
  ⟨⟨⟨⟨⟨⟨q0.1, q1.1⟩, ⟨q2.1, q3.1⟩⟩, ⟨⟨q4.1, q5.1⟩, ⟨q6.1, q7.1⟩⟩⟩, ⟨⟨⟨q8.1, q9.1⟩, ⟨q10.1, q11.1⟩⟩, ⟨⟨q12.1, q13.1⟩, ⟨q14.1, q15.1⟩⟩⟩⟩, ⟨⟨⟨⟨q16.1, q17.1⟩, ⟨q18.1, q19.1⟩⟩, ⟨⟨q20.1, q21.1⟩, ⟨q22.1, q23.1⟩⟩⟩, ⟨⟨⟨q24.1, q25.1⟩, ⟨q26.1, q27.1⟩⟩, ⟨⟨q28.1, q29.1⟩, ⟨q30.1, q31.1⟩⟩⟩⟩⟩, q31.2⟩
theorem dX12_layChances_0 : decode cX12_layChances 0 = .ok (.aload_n 0, 1) := fp_hdX12_layChances_0.1.1.1.1.1.1
theorem dX12_layChances_1 : decode cX12_layChances 1 = .ok (.invokevirtual 225, 3) := fp_hdX12_layChances_0.1.1.1.1.1.2
theorem dX12_layChances_4 : decode cX12_layChances 4 = .ok (.istore_n 2, 1) := fp_hdX12_layChances_0.1.1.1.1.2.1
theorem dX12_layChances_5 : decode cX12_layChances 5 = .ok (.aload_n 0, 1) := fp_hdX12_layChances_0.1.1.1.1.2.2
theorem dX12_layChances_6 : decode cX12_layChances 6 = .ok (.lconst 1, 1) := fp_hdX12_layChances_0.1.1.1.2.1.1
theorem dX12_layChances_7 : decode cX12_layChances 7 = .ok (.putfield 289, 3) := fp_hdX12_layChances_0.1.1.1.2.1.2
theorem dX12_layChances_10 : decode cX12_layChances 10 = .ok (.iconst 0, 1) := fp_hdX12_layChances_0.1.1.1.2.2.1
theorem dX12_layChances_11 : decode cX12_layChances 11 = .ok (.istore_n 3, 1) := fp_hdX12_layChances_0.1.1.1.2.2.2
theorem dX12_layChances_12 : decode cX12_layChances 12 = .ok (.iload_n 3, 1) := fp_hdX12_layChances_0.1.1.2.1.1.1
theorem dX12_layChances_13 : decode cX12_layChances 13 = .ok (.bipush 10, 2) := fp_hdX12_layChances_0.1.1.2.1.1.2
theorem dX12_layChances_15 : decode cX12_layChances 15 = .ok (.if_icmp .ge 16, 3) := fp_hdX12_layChances_0.1.1.2.1.2.1
theorem dX12_layChances_18 : decode cX12_layChances 18 = .ok (.aload_n 0, 1) := fp_hdX12_layChances_0.1.1.2.1.2.2
theorem dX12_layChances_19 : decode cX12_layChances 19 = .ok (.getfield 56, 3) := fp_hdX12_layChances_0.1.1.2.2.1.1
theorem dX12_layChances_22 : decode cX12_layChances 22 = .ok (.iload_n 3, 1) := fp_hdX12_layChances_0.1.1.2.2.1.2
theorem dX12_layChances_23 : decode cX12_layChances 23 = .ok (.lconst 0, 1) := fp_hdX12_layChances_0.1.1.2.2.2.1
theorem dX12_layChances_24 : decode cX12_layChances 24 = .ok (.lastore, 1) := fp_hdX12_layChances_0.1.1.2.2.2.2
theorem dX12_layChances_25 : decode cX12_layChances 25 = .ok (.iinc 3 1, 3) := fp_hdX12_layChances_0.1.2.1.1.1.1
theorem dX12_layChances_28 : decode cX12_layChances 28 = .ok (.goto (-16), 3) := fp_hdX12_layChances_0.1.2.1.1.1.2
theorem dX12_layChances_31 : decode cX12_layChances 31 = .ok (.iconst 0, 1) := fp_hdX12_layChances_0.1.2.1.1.2.1
theorem dX12_layChances_32 : decode cX12_layChances 32 = .ok (.istore_n 3, 1) := fp_hdX12_layChances_0.1.2.1.1.2.2
theorem dX12_layChances_33 : decode cX12_layChances 33 = .ok (.iload_n 3, 1) := fp_hdX12_layChances_0.1.2.1.2.1.1
theorem dX12_layChances_34 : decode cX12_layChances 34 = .ok (.iload_n 2, 1) := fp_hdX12_layChances_0.1.2.1.2.1.2
theorem dX12_layChances_35 : decode cX12_layChances 35 = .ok (.if_icmp .ge 21, 3) := fp_hdX12_layChances_0.1.2.1.2.2.1
theorem dX12_layChances_38 : decode cX12_layChances 38 = .ok (.aload_n 0, 1) := fp_hdX12_layChances_0.1.2.1.2.2.2
theorem dX12_layChances_39 : decode cX12_layChances 39 = .ok (.dup, 1) := fp_hdX12_layChances_0.1.2.2.1.1.1
theorem dX12_layChances_40 : decode cX12_layChances 40 = .ok (.getfield 289, 3) := fp_hdX12_layChances_0.1.2.2.1.1.2
theorem dX12_layChances_43 : decode cX12_layChances 43 = .ok (.ldc2_w 212, 3) := fp_hdX12_layChances_0.1.2.2.1.2.1
theorem dX12_layChances_46 : decode cX12_layChances 46 = .ok (.lmul, 1) := fp_hdX12_layChances_0.1.2.2.1.2.2
theorem dX12_layChances_47 : decode cX12_layChances 47 = .ok (.putfield 289, 3) := fp_hdX12_layChances_0.1.2.2.2.1.1
theorem dX12_layChances_50 : decode cX12_layChances 50 = .ok (.iinc 3 1, 3) := fp_hdX12_layChances_0.1.2.2.2.1.2
theorem dX12_layChances_53 : decode cX12_layChances 53 = .ok (.goto (-20), 3) := fp_hdX12_layChances_0.1.2.2.2.2.1
theorem dX12_layChances_56 : decode cX12_layChances 56 = .ok (.iconst 0, 1) := fp_hdX12_layChances_0.1.2.2.2.2.2
theorem fp_hdX12_layChances_57 : (((((decode cX12_layChances 57 = .ok (.istore_n 3, 1) ∧ decode cX12_layChances 58 = .ok (.iload_n 3, 1)) ∧ (decode cX12_layChances 59 = .ok (.iconst 1, 1) ∧ decode cX12_layChances 60 = .ok (.iload_n 2, 1))) ∧ ((decode cX12_layChances 61 = .ok (.ishl, 1) ∧ decode cX12_layChances 62 = .ok (.if_icmp .ge 136, 3)) ∧ (decode cX12_layChances 65 = .ok (.lconst 1, 1) ∧ decode cX12_layChances 66 = .ok (.lstore 4, 2)))) ∧ (((decode cX12_layChances 68 = .ok (.aload_n 0, 1) ∧ decode cX12_layChances 69 = .ok (.iconst 0, 1)) ∧ (decode cX12_layChances 70 = .ok (.sipush 360, 3) ∧ decode cX12_layChances 73 = .ok (.invokevirtual 265, 3))) ∧ ((decode cX12_layChances 76 = .ok (.iconst 0, 1) ∧ decode cX12_layChances 77 = .ok (.istore 6, 2)) ∧ (decode cX12_layChances 79 = .ok (.iload 6, 2) ∧ decode cX12_layChances 81 = .ok (.iload_n 2, 1))))) ∧ ((((decode cX12_layChances 82 = .ok (.if_icmp .ge 74, 3) ∧ decode cX12_layChances 85 = .ok (.lload 4, 2)) ∧ (decode cX12_layChances 87 = .ok (.lconst 0, 1) ∧ decode cX12_layChances 88 = .ok (.lcmp, 1))) ∧ ((decode cX12_layChances 89 = .ok (.ifCond .le 67, 3) ∧ decode cX12_layChances 92 = .ok (.iload_n 3, 1)) ∧ (decode cX12_layChances 93 = .ok (.iload 6, 2) ∧ decode cX12_layChances 95 = .ok (.ishr, 1)))) ∧ (((decode cX12_layChances 96 = .ok (.iconst 1, 1) ∧ decode cX12_layChances 97 = .ok (.iand, 1)) ∧ (decode cX12_layChances 98 = .ok (.iconst 1, 1) ∧ decode cX12_layChances 99 = .ok (.if_icmp .ne 7, 3))) ∧ ((decode cX12_layChances 102 = .ok (.iconst 1, 1) ∧ decode cX12_layChances 103 = .ok (.goto 4, 3)) ∧ (decode cX12_layChances 106 = .ok (.iconst 0, 1) ∧ decode cX12_layChances 107 = .ok (.istore 7, 2)))))) ∧ bA cX12_layChances 109 fp_scX12_layChances_2 :=
  have q0 := fp_o62 fp_hdX12_layChances_0.2
  have q1 := fp_o29 q0.2
  have q2 := fp_o4 q1.2
  have q3 := fp_o28 q2.2
  have q4 := fp_o120 q3.2
  have q5 := fp_o162 (v := 136) q4.2 rfl
  have q6 := fp_o10 q5.2
  have q7 := fp_o55 q6.2
  have q8 := fp_o42 q7.2
  have q9 := fp_o3 q8.2
  have q10 := fp_o17 (v := 360) q9.2 rfl
  have q11 := fp_o182 (v := 265) q10.2 rfl
  have q12 := fp_o3 q11.2
  have q13 := fp_o54 q12.2
  have q14 := fp_o21 q13.2
  have q15 := fp_o28 q14.2
  have q16 := fp_o162 (v := 74) q15.2 rfl
  have q17 := fp_o22 q16.2
  have q18 := fp_o9 q17.2
  have q19 := fp_o148 q18.2
  have q20 := fp_o158 (v := 67) q19.2 rfl
  have q21 := fp_o29 q20.2
  have q22 := fp_o21 q21.2
  have q23 := fp_o122 q22.2
  have q24 := fp_o4 q23.2
  have q25 := fp_o126 q24.2
  have q26 := fp_o4 q25.2
  have q27 := fp_o160 (v := 7) q26.2 rfl
  have q28 := fp_o4 q27.2
  have q29 := fp_o167 (v := 4) q28.2 rfl
  have q30 := fp_o3 q29.2
  have q31 := fp_o54 q30.2
  ⟨⟨⟨⟨⟨⟨q0.1, q1.1⟩, ⟨q2.1, q3.1⟩⟩, ⟨⟨q4.1, q5.1⟩, ⟨q6.1, q7.1⟩⟩⟩, ⟨⟨⟨q8.1, q9.1⟩, ⟨q10.1, q11.1⟩⟩, ⟨⟨q12.1, q13.1⟩, ⟨q14.1, q15.1⟩⟩⟩⟩, ⟨⟨⟨⟨q16.1, q17.1⟩, ⟨q18.1, q19.1⟩⟩, ⟨⟨q20.1, q21.1⟩, ⟨q22.1, q23.1⟩⟩⟩, ⟨⟨⟨q24.1, q25.1⟩, ⟨q26.1, q27.1⟩⟩, ⟨⟨q28.1, q29.1⟩, ⟨q30.1, q31.1⟩⟩⟩⟩⟩, q31.2⟩
theorem dX12_layChances_57 : decode cX12_layChances 57 = .ok (.istore_n 3, 1) := fp_hdX12_layChances_57.1.1.1.1.1.1
theorem dX12_layChances_58 : decode cX12_layChances 58 = .ok (.iload_n 3, 1) := fp_hdX12_layChances_57.1.1.1.1.1.2
theorem dX12_layChances_59 : decode cX12_layChances 59 = .ok (.iconst 1, 1) := fp_hdX12_layChances_57.1.1.1.1.2.1
theorem dX12_layChances_60 : decode cX12_layChances 60 = .ok (.iload_n 2, 1) := fp_hdX12_layChances_57.1.1.1.1.2.2
theorem dX12_layChances_61 : decode cX12_layChances 61 = .ok (.ishl, 1) := fp_hdX12_layChances_57.1.1.1.2.1.1
theorem dX12_layChances_62 : decode cX12_layChances 62 = .ok (.if_icmp .ge 136, 3) := fp_hdX12_layChances_57.1.1.1.2.1.2
theorem dX12_layChances_65 : decode cX12_layChances 65 = .ok (.lconst 1, 1) := fp_hdX12_layChances_57.1.1.1.2.2.1
theorem dX12_layChances_66 : decode cX12_layChances 66 = .ok (.lstore 4, 2) := fp_hdX12_layChances_57.1.1.1.2.2.2
theorem dX12_layChances_68 : decode cX12_layChances 68 = .ok (.aload_n 0, 1) := fp_hdX12_layChances_57.1.1.2.1.1.1
theorem dX12_layChances_69 : decode cX12_layChances 69 = .ok (.iconst 0, 1) := fp_hdX12_layChances_57.1.1.2.1.1.2
theorem dX12_layChances_70 : decode cX12_layChances 70 = .ok (.sipush 360, 3) := fp_hdX12_layChances_57.1.1.2.1.2.1
theorem dX12_layChances_73 : decode cX12_layChances 73 = .ok (.invokevirtual 265, 3) := fp_hdX12_layChances_57.1.1.2.1.2.2
theorem dX12_layChances_76 : decode cX12_layChances 76 = .ok (.iconst 0, 1) := fp_hdX12_layChances_57.1.1.2.2.1.1
theorem dX12_layChances_77 : decode cX12_layChances 77 = .ok (.istore 6, 2) := fp_hdX12_layChances_57.1.1.2.2.1.2
theorem dX12_layChances_79 : decode cX12_layChances 79 = .ok (.iload 6, 2) := fp_hdX12_layChances_57.1.1.2.2.2.1
theorem dX12_layChances_81 : decode cX12_layChances 81 = .ok (.iload_n 2, 1) := fp_hdX12_layChances_57.1.1.2.2.2.2
theorem dX12_layChances_82 : decode cX12_layChances 82 = .ok (.if_icmp .ge 74, 3) := fp_hdX12_layChances_57.1.2.1.1.1.1
theorem dX12_layChances_85 : decode cX12_layChances 85 = .ok (.lload 4, 2) := fp_hdX12_layChances_57.1.2.1.1.1.2
theorem dX12_layChances_87 : decode cX12_layChances 87 = .ok (.lconst 0, 1) := fp_hdX12_layChances_57.1.2.1.1.2.1
theorem dX12_layChances_88 : decode cX12_layChances 88 = .ok (.lcmp, 1) := fp_hdX12_layChances_57.1.2.1.1.2.2
theorem dX12_layChances_89 : decode cX12_layChances 89 = .ok (.ifCond .le 67, 3) := fp_hdX12_layChances_57.1.2.1.2.1.1
theorem dX12_layChances_92 : decode cX12_layChances 92 = .ok (.iload_n 3, 1) := fp_hdX12_layChances_57.1.2.1.2.1.2
theorem dX12_layChances_93 : decode cX12_layChances 93 = .ok (.iload 6, 2) := fp_hdX12_layChances_57.1.2.1.2.2.1
theorem dX12_layChances_95 : decode cX12_layChances 95 = .ok (.ishr, 1) := fp_hdX12_layChances_57.1.2.1.2.2.2
theorem dX12_layChances_96 : decode cX12_layChances 96 = .ok (.iconst 1, 1) := fp_hdX12_layChances_57.1.2.2.1.1.1
theorem dX12_layChances_97 : decode cX12_layChances 97 = .ok (.iand, 1) := fp_hdX12_layChances_57.1.2.2.1.1.2
theorem dX12_layChances_98 : decode cX12_layChances 98 = .ok (.iconst 1, 1) := fp_hdX12_layChances_57.1.2.2.1.2.1
theorem dX12_layChances_99 : decode cX12_layChances 99 = .ok (.if_icmp .ne 7, 3) := fp_hdX12_layChances_57.1.2.2.1.2.2
theorem dX12_layChances_102 : decode cX12_layChances 102 = .ok (.iconst 1, 1) := fp_hdX12_layChances_57.1.2.2.2.1.1
theorem dX12_layChances_103 : decode cX12_layChances 103 = .ok (.goto 4, 3) := fp_hdX12_layChances_57.1.2.2.2.1.2
theorem dX12_layChances_106 : decode cX12_layChances 106 = .ok (.iconst 0, 1) := fp_hdX12_layChances_57.1.2.2.2.2.1
theorem dX12_layChances_107 : decode cX12_layChances 107 = .ok (.istore 7, 2) := fp_hdX12_layChances_57.1.2.2.2.2.2
theorem fp_hdX12_layChances_109 : (((((decode cX12_layChances 109 = .ok (.lload 4, 2) ∧ decode cX12_layChances 111 = .ok (.iload 7, 2)) ∧ (decode cX12_layChances 113 = .ok (.ifCond .eq 11, 3) ∧ decode cX12_layChances 116 = .ok (.aload_n 0, 1))) ∧ ((decode cX12_layChances 117 = .ok (.getfield 22, 3) ∧ decode cX12_layChances 120 = .ok (.i2l, 1)) ∧ (decode cX12_layChances 121 = .ok (.goto 11, 3) ∧ decode cX12_layChances 124 = .ok (.bipush 10, 2)))) ∧ (((decode cX12_layChances 126 = .ok (.aload_n 0, 1) ∧ decode cX12_layChances 127 = .ok (.getfield 22, 3)) ∧ (decode cX12_layChances 130 = .ok (.isub, 1) ∧ decode cX12_layChances 131 = .ok (.i2l, 1))) ∧ ((decode cX12_layChances 132 = .ok (.lmul, 1) ∧ decode cX12_layChances 133 = .ok (.lstore 4, 2)) ∧ (decode cX12_layChances 135 = .ok (.iload 7, 2) ∧ decode cX12_layChances 137 = .ok (.ifCond .eq 13, 3))))) ∧ ((((decode cX12_layChances 140 = .ok (.aload_n 0, 1) ∧ decode cX12_layChances 141 = .ok (.sipush 360, 3)) ∧ (decode cX12_layChances 144 = .ok (.iload 6, 2) ∧ decode cX12_layChances 146 = .ok (.invokevirtual 261, 3))) ∧ ((decode cX12_layChances 149 = .ok (.pop, 1) ∧ decode cX12_layChances 150 = .ok (.iinc 6 1, 3)) ∧ (decode cX12_layChances 153 = .ok (.goto (-74), 3) ∧ decode cX12_layChances 156 = .ok (.aload_n 0, 1)))) ∧ (((decode cX12_layChances 157 = .ok (.sipush 360, 3) ∧ decode cX12_layChances 160 = .ok (.iload_n 1, 1)) ∧ (decode cX12_layChances 161 = .ok (.invokevirtual 222, 3) ∧ decode cX12_layChances 164 = .ok (.istore 6, 2))) ∧ ((decode cX12_layChances 166 = .ok (.iload 6, 2) ∧ decode cX12_layChances 168 = .ok (.bipush (-4), 2)) ∧ (decode cX12_layChances 170 = .ok (.if_icmp .eq 22, 3) ∧ decode cX12_layChances 173 = .ok (.lload 4, 2)))))) ∧ bA cX12_layChances 175 fp_scX12_layChances_3 :=
  have q0 := fp_o22 fp_hdX12_layChances_57.2
  have q1 := fp_o21 q0.2
  have q2 := fp_o153 (v := 11) q1.2 rfl
  have q3 := fp_o42 q2.2
  have q4 := fp_o180 (v := 22) q3.2 rfl
  have q5 := fp_o133 q4.2
  have q6 := fp_o167 (v := 11) q5.2 rfl
  have q7 := fp_o16 (v := 10) q6.2 rfl
  have q8 := fp_o42 q7.2
  have q9 := fp_o180 (v := 22) q8.2 rfl
  have q10 := fp_o100 q9.2
  have q11 := fp_o133 q10.2
  have q12 := fp_o105 q11.2
  have q13 := fp_o55 q12.2
  have q14 := fp_o21 q13.2
  have q15 := fp_o153 (v := 13) q14.2 rfl
  have q16 := fp_o42 q15.2
  have q17 := fp_o17 (v := 360) q16.2 rfl
  have q18 := fp_o21 q17.2
  have q19 := fp_o182 (v := 261) q18.2 rfl
  have q20 := fp_o87 q19.2
  have q21 := fp_o132 (v := 1) q20.2 rfl
  have q22 := fp_o167 (v := (-74)) q21.2 rfl
  have q23 := fp_o42 q22.2
  have q24 := fp_o17 (v := 360) q23.2 rfl
  have q25 := fp_o27 q24.2
  have q26 := fp_o182 (v := 222) q25.2 rfl
  have q27 := fp_o54 q26.2
  have q28 := fp_o21 q27.2
  have q29 := fp_o16 (v := (-4)) q28.2 rfl
  have q30 := fp_o159 (v := 22) q29.2 rfl
  have q31 := fp_o22 q30.2
  ⟨⟨⟨⟨⟨⟨q0.1, q1.1⟩, ⟨q2.1, q3.1⟩⟩, ⟨⟨q4.1, q5.1⟩, ⟨q6.1, q7.1⟩⟩⟩, ⟨⟨⟨q8.1, q9.1⟩, ⟨q10.1, q11.1⟩⟩, ⟨⟨q12.1, q13.1⟩, ⟨q14.1, q15.1⟩⟩⟩⟩, ⟨⟨⟨⟨q16.1, q17.1⟩, ⟨q18.1, q19.1⟩⟩, ⟨⟨q20.1, q21.1⟩, ⟨q22.1, q23.1⟩⟩⟩, ⟨⟨⟨q24.1, q25.1⟩, ⟨q26.1, q27.1⟩⟩, ⟨⟨q28.1, q29.1⟩, ⟨q30.1, q31.1⟩⟩⟩⟩⟩, q31.2⟩
theorem dX12_layChances_109 : decode cX12_layChances 109 = .ok (.lload 4, 2) := fp_hdX12_layChances_109.1.1.1.1.1.1
theorem dX12_layChances_111 : decode cX12_layChances 111 = .ok (.iload 7, 2) := fp_hdX12_layChances_109.1.1.1.1.1.2
theorem dX12_layChances_113 : decode cX12_layChances 113 = .ok (.ifCond .eq 11, 3) := fp_hdX12_layChances_109.1.1.1.1.2.1
theorem dX12_layChances_116 : decode cX12_layChances 116 = .ok (.aload_n 0, 1) := fp_hdX12_layChances_109.1.1.1.1.2.2
theorem dX12_layChances_117 : decode cX12_layChances 117 = .ok (.getfield 22, 3) := fp_hdX12_layChances_109.1.1.1.2.1.1
theorem dX12_layChances_120 : decode cX12_layChances 120 = .ok (.i2l, 1) := fp_hdX12_layChances_109.1.1.1.2.1.2
theorem dX12_layChances_121 : decode cX12_layChances 121 = .ok (.goto 11, 3) := fp_hdX12_layChances_109.1.1.1.2.2.1
theorem dX12_layChances_124 : decode cX12_layChances 124 = .ok (.bipush 10, 2) := fp_hdX12_layChances_109.1.1.1.2.2.2
theorem dX12_layChances_126 : decode cX12_layChances 126 = .ok (.aload_n 0, 1) := fp_hdX12_layChances_109.1.1.2.1.1.1
theorem dX12_layChances_127 : decode cX12_layChances 127 = .ok (.getfield 22, 3) := fp_hdX12_layChances_109.1.1.2.1.1.2
theorem dX12_layChances_130 : decode cX12_layChances 130 = .ok (.isub, 1) := fp_hdX12_layChances_109.1.1.2.1.2.1
theorem dX12_layChances_131 : decode cX12_layChances 131 = .ok (.i2l, 1) := fp_hdX12_layChances_109.1.1.2.1.2.2
theorem dX12_layChances_132 : decode cX12_layChances 132 = .ok (.lmul, 1) := fp_hdX12_layChances_109.1.1.2.2.1.1
theorem dX12_layChances_133 : decode cX12_layChances 133 = .ok (.lstore 4, 2) := fp_hdX12_layChances_109.1.1.2.2.1.2
theorem dX12_layChances_135 : decode cX12_layChances 135 = .ok (.iload 7, 2) := fp_hdX12_layChances_109.1.1.2.2.2.1
theorem dX12_layChances_137 : decode cX12_layChances 137 = .ok (.ifCond .eq 13, 3) := fp_hdX12_layChances_109.1.1.2.2.2.2
theorem dX12_layChances_140 : decode cX12_layChances 140 = .ok (.aload_n 0, 1) := fp_hdX12_layChances_109.1.2.1.1.1.1
theorem dX12_layChances_141 : decode cX12_layChances 141 = .ok (.sipush 360, 3) := fp_hdX12_layChances_109.1.2.1.1.1.2
theorem dX12_layChances_144 : decode cX12_layChances 144 = .ok (.iload 6, 2) := fp_hdX12_layChances_109.1.2.1.1.2.1
theorem dX12_layChances_146 : decode cX12_layChances 146 = .ok (.invokevirtual 261, 3) := fp_hdX12_layChances_109.1.2.1.1.2.2
theorem dX12_layChances_149 : decode cX12_layChances 149 = .ok (.pop, 1) := fp_hdX12_layChances_109.1.2.1.2.1.1
theorem dX12_layChances_150 : decode cX12_layChances 150 = .ok (.iinc 6 1, 3) := fp_hdX12_layChances_109.1.2.1.2.1.2
theorem dX12_layChances_153 : decode cX12_layChances 153 = .ok (.goto (-74), 3) := fp_hdX12_layChances_109.1.2.1.2.2.1
theorem dX12_layChances_156 : decode cX12_layChances 156 = .ok (.aload_n 0, 1) := fp_hdX12_layChances_109.1.2.1.2.2.2
theorem dX12_layChances_157 : decode cX12_layChances 157 = .ok (.sipush 360, 3) := fp_hdX12_layChances_109.1.2.2.1.1.1
theorem dX12_layChances_160 : decode cX12_layChances 160 = .ok (.iload_n 1, 1) := fp_hdX12_layChances_109.1.2.2.1.1.2
theorem dX12_layChances_161 : decode cX12_layChances 161 = .ok (.invokevirtual 222, 3) := fp_hdX12_layChances_109.1.2.2.1.2.1
theorem dX12_layChances_164 : decode cX12_layChances 164 = .ok (.istore 6, 2) := fp_hdX12_layChances_109.1.2.2.1.2.2
theorem dX12_layChances_166 : decode cX12_layChances 166 = .ok (.iload 6, 2) := fp_hdX12_layChances_109.1.2.2.2.1.1
theorem dX12_layChances_168 : decode cX12_layChances 168 = .ok (.bipush (-4), 2) := fp_hdX12_layChances_109.1.2.2.2.1.2
theorem dX12_layChances_170 : decode cX12_layChances 170 = .ok (.if_icmp .eq 22, 3) := fp_hdX12_layChances_109.1.2.2.2.2.1
theorem dX12_layChances_173 : decode cX12_layChances 173 = .ok (.lload 4, 2) := fp_hdX12_layChances_109.1.2.2.2.2.2
theorem fp_hdX12_layChances_175 : ((((decode cX12_layChances 175 = .ok (.lconst 0, 1) ∧ decode cX12_layChances 176 = .ok (.lcmp, 1)) ∧ (decode cX12_layChances 177 = .ok (.ifCond .le 15, 3) ∧ decode cX12_layChances 180 = .ok (.aload_n 0, 1))) ∧ ((decode cX12_layChances 181 = .ok (.getfield 56, 3) ∧ decode cX12_layChances 184 = .ok (.iload 6, 2)) ∧ decode cX12_layChances 186 = .ok (.dup2, 1))) ∧ (((decode cX12_layChances 187 = .ok (.laload, 1) ∧ decode cX12_layChances 188 = .ok (.lload 4, 2)) ∧ (decode cX12_layChances 190 = .ok (.ladd, 1) ∧ decode cX12_layChances 191 = .ok (.lastore, 1))) ∧ ((decode cX12_layChances 192 = .ok (.iinc 3 1, 3) ∧ decode cX12_layChances 195 = .ok (.goto (-137), 3)) ∧ decode cX12_layChances 198 = .ok (.return_, 1)))) ∧ bA cX12_layChances 199 [] :=
  have q0 := fp_o9 fp_hdX12_layChances_109.2
  have q1 := fp_o148 q0.2
  have q2 := fp_o158 (v := 15) q1.2 rfl
  have q3 := fp_o42 q2.2
  have q4 := fp_o180 (v := 56) q3.2 rfl
  have q5 := fp_o21 q4.2
  have q6 := fp_o92 q5.2
  have q7 := fp_o47 q6.2
  have q8 := fp_o22 q7.2
  have q9 := fp_o97 q8.2
  have q10 := fp_o80 q9.2
  have q11 := fp_o132 (v := 1) q10.2 rfl
  have q12 := fp_o167 (v := (-137)) q11.2 rfl
  have q13 := fp_o177 q12.2
  ⟨⟨⟨⟨⟨q0.1, q1.1⟩, ⟨q2.1, q3.1⟩⟩, ⟨⟨q4.1, q5.1⟩, q6.1⟩⟩, ⟨⟨⟨q7.1, q8.1⟩, ⟨q9.1, q10.1⟩⟩, ⟨⟨q11.1, q12.1⟩, q13.1⟩⟩⟩, q13.2⟩
theorem dX12_layChances_175 : decode cX12_layChances 175 = .ok (.lconst 0, 1) := fp_hdX12_layChances_175.1.1.1.1.1
theorem dX12_layChances_176 : decode cX12_layChances 176 = .ok (.lcmp, 1) := fp_hdX12_layChances_175.1.1.1.1.2
theorem dX12_layChances_177 : decode cX12_layChances 177 = .ok (.ifCond .le 15, 3) := fp_hdX12_layChances_175.1.1.1.2.1
theorem dX12_layChances_180 : decode cX12_layChances 180 = .ok (.aload_n 0, 1) := fp_hdX12_layChances_175.1.1.1.2.2
theorem dX12_layChances_181 : decode cX12_layChances 181 = .ok (.getfield 56, 3) := fp_hdX12_layChances_175.1.1.2.1.1
theorem dX12_layChances_184 : decode cX12_layChances 184 = .ok (.iload 6, 2) := fp_hdX12_layChances_175.1.1.2.1.2
theorem dX12_layChances_186 : decode cX12_layChances 186 = .ok (.dup2, 1) := fp_hdX12_layChances_175.1.1.2.2
theorem dX12_layChances_187 : decode cX12_layChances 187 = .ok (.laload, 1) := fp_hdX12_layChances_175.1.2.1.1.1
theorem dX12_layChances_188 : decode cX12_layChances 188 = .ok (.lload 4, 2) := fp_hdX12_layChances_175.1.2.1.1.2
theorem dX12_layChances_190 : decode cX12_layChances 190 = .ok (.ladd, 1) := fp_hdX12_layChances_175.1.2.1.2.1
theorem dX12_layChances_191 : decode cX12_layChances 191 = .ok (.lastore, 1) := fp_hdX12_layChances_175.1.2.1.2.2
theorem dX12_layChances_192 : decode cX12_layChances 192 = .ok (.iinc 3 1, 3) := fp_hdX12_layChances_175.1.2.2.1.1
theorem dX12_layChances_195 : decode cX12_layChances 195 = .ok (.goto (-137), 3) := fp_hdX12_layChances_175.1.2.2.1.2
theorem dX12_layChances_198 : decode cX12_layChances 198 = .ok (.return_, 1) := fp_hdX12_layChances_175.1.2.2.2
def fp_scX12_lowest_0 : List Nat := 30 :: 55 :: 5 :: 32 :: 55 :: 7 :: 22 :: 7 :: 9 :: 148 :: 153 :: 0 :: 21 :: 22 :: 5 :: 22 :: 7 :: 113 :: 55 :: 9 :: 22 :: 7 :: 55 :: 5 :: 22 :: 9 :: 55 :: 7 :: 167 :: 255 :: 234 :: 21 :: 4 :: 154 :: 0 :: 7 :: 30 :: 167 :: 0 :: 4 :: 32 :: 22 :: 5 :: 109 :: 173 :: []
theorem fp_bcX12_lowest : bA cX12_lowest 0 fp_scX12_lowest_0 := show cX12_lowest.data.toList.map UInt8.toNat = fp_scX12_lowest_0 from by decide +kernel
theorem fp_hdX12_lowest_0 : (((((decode cX12_lowest 0 = .ok (.lload_n 0, 1) ∧ decode cX12_lowest 1 = .ok (.lstore 5, 2)) ∧ (decode cX12_lowest 3 = .ok (.lload_n 2, 1) ∧ decode cX12_lowest 4 = .ok (.lstore 7, 2))) ∧ ((decode cX12_lowest 6 = .ok (.lload 7, 2) ∧ decode cX12_lowest 8 = .ok (.lconst 0, 1)) ∧ decode cX12_lowest 9 = .ok (.lcmp, 1))) ∧ (((decode cX12_lowest 10 = .ok (.ifCond .eq 21, 3) ∧ decode cX12_lowest 13 = .ok (.lload 5, 2)) ∧ decode cX12_lowest 15 = .ok (.lload 7, 2)) ∧ ((decode cX12_lowest 17 = .ok (.lrem, 1) ∧ decode cX12_lowest 18 = .ok (.lstore 9, 2)) ∧ decode cX12_lowest 20 = .ok (.lload 7, 2)))) ∧ ((((decode cX12_lowest 22 = .ok (.lstore 5, 2) ∧ decode cX12_lowest 24 = .ok (.lload 9, 2)) ∧ decode cX12_lowest 26 = .ok (.lstore 7, 2)) ∧ ((decode cX12_lowest 28 = .ok (.goto (-22), 3) ∧ decode cX12_lowest 31 = .ok (.iload 4, 2)) ∧ decode cX12_lowest 33 = .ok (.ifCond .ne 7, 3))) ∧ (((decode cX12_lowest 36 = .ok (.lload_n 0, 1) ∧ decode cX12_lowest 37 = .ok (.goto 4, 3)) ∧ decode cX12_lowest 40 = .ok (.lload_n 2, 1)) ∧ ((decode cX12_lowest 41 = .ok (.lload 5, 2) ∧ decode cX12_lowest 43 = .ok (.ldiv, 1)) ∧ decode cX12_lowest 44 = .ok (.lreturn, 1))))) ∧ bA cX12_lowest 45 [] :=
  have q0 := fp_o30 fp_bcX12_lowest
  have q1 := fp_o55 q0.2
  have q2 := fp_o32 q1.2
  have q3 := fp_o55 q2.2
  have q4 := fp_o22 q3.2
  have q5 := fp_o9 q4.2
  have q6 := fp_o148 q5.2
  have q7 := fp_o153 (v := 21) q6.2 rfl
  have q8 := fp_o22 q7.2
  have q9 := fp_o22 q8.2
  have q10 := fp_o113 q9.2
  have q11 := fp_o55 q10.2
  have q12 := fp_o22 q11.2
  have q13 := fp_o55 q12.2
  have q14 := fp_o22 q13.2
  have q15 := fp_o55 q14.2
  have q16 := fp_o167 (v := (-22)) q15.2 rfl
  have q17 := fp_o21 q16.2
  have q18 := fp_o154 (v := 7) q17.2 rfl
  have q19 := fp_o30 q18.2
  have q20 := fp_o167 (v := 4) q19.2 rfl
  have q21 := fp_o32 q20.2
  have q22 := fp_o22 q21.2
  have q23 := fp_o109 q22.2
  have q24 := fp_o173 q23.2
  ⟨⟨⟨⟨⟨⟨q0.1, q1.1⟩, ⟨q2.1, q3.1⟩⟩, ⟨⟨q4.1, q5.1⟩, q6.1⟩⟩, ⟨⟨⟨q7.1, q8.1⟩, q9.1⟩, ⟨⟨q10.1, q11.1⟩, q12.1⟩⟩⟩, ⟨⟨⟨⟨q13.1, q14.1⟩, q15.1⟩, ⟨⟨q16.1, q17.1⟩, q18.1⟩⟩, ⟨⟨⟨q19.1, q20.1⟩, q21.1⟩, ⟨⟨q22.1, q23.1⟩, q24.1⟩⟩⟩⟩, q24.2⟩
theorem dX12_lowest_0 : decode cX12_lowest 0 = .ok (.lload_n 0, 1) := fp_hdX12_lowest_0.1.1.1.1.1.1
theorem dX12_lowest_1 : decode cX12_lowest 1 = .ok (.lstore 5, 2) := fp_hdX12_lowest_0.1.1.1.1.1.2
theorem dX12_lowest_3 : decode cX12_lowest 3 = .ok (.lload_n 2, 1) := fp_hdX12_lowest_0.1.1.1.1.2.1
theorem dX12_lowest_4 : decode cX12_lowest 4 = .ok (.lstore 7, 2) := fp_hdX12_lowest_0.1.1.1.1.2.2
theorem dX12_lowest_6 : decode cX12_lowest 6 = .ok (.lload 7, 2) := fp_hdX12_lowest_0.1.1.1.2.1.1
theorem dX12_lowest_8 : decode cX12_lowest 8 = .ok (.lconst 0, 1) := fp_hdX12_lowest_0.1.1.1.2.1.2
theorem dX12_lowest_9 : decode cX12_lowest 9 = .ok (.lcmp, 1) := fp_hdX12_lowest_0.1.1.1.2.2
theorem dX12_lowest_10 : decode cX12_lowest 10 = .ok (.ifCond .eq 21, 3) := fp_hdX12_lowest_0.1.1.2.1.1.1
theorem dX12_lowest_13 : decode cX12_lowest 13 = .ok (.lload 5, 2) := fp_hdX12_lowest_0.1.1.2.1.1.2
theorem dX12_lowest_15 : decode cX12_lowest 15 = .ok (.lload 7, 2) := fp_hdX12_lowest_0.1.1.2.1.2
theorem dX12_lowest_17 : decode cX12_lowest 17 = .ok (.lrem, 1) := fp_hdX12_lowest_0.1.1.2.2.1.1
theorem dX12_lowest_18 : decode cX12_lowest 18 = .ok (.lstore 9, 2) := fp_hdX12_lowest_0.1.1.2.2.1.2
theorem dX12_lowest_20 : decode cX12_lowest 20 = .ok (.lload 7, 2) := fp_hdX12_lowest_0.1.1.2.2.2
theorem dX12_lowest_22 : decode cX12_lowest 22 = .ok (.lstore 5, 2) := fp_hdX12_lowest_0.1.2.1.1.1.1
theorem dX12_lowest_24 : decode cX12_lowest 24 = .ok (.lload 9, 2) := fp_hdX12_lowest_0.1.2.1.1.1.2
theorem dX12_lowest_26 : decode cX12_lowest 26 = .ok (.lstore 7, 2) := fp_hdX12_lowest_0.1.2.1.1.2
theorem dX12_lowest_28 : decode cX12_lowest 28 = .ok (.goto (-22), 3) := fp_hdX12_lowest_0.1.2.1.2.1.1
theorem dX12_lowest_31 : decode cX12_lowest 31 = .ok (.iload 4, 2) := fp_hdX12_lowest_0.1.2.1.2.1.2
theorem dX12_lowest_33 : decode cX12_lowest 33 = .ok (.ifCond .ne 7, 3) := fp_hdX12_lowest_0.1.2.1.2.2
theorem dX12_lowest_36 : decode cX12_lowest 36 = .ok (.lload_n 0, 1) := fp_hdX12_lowest_0.1.2.2.1.1.1
theorem dX12_lowest_37 : decode cX12_lowest 37 = .ok (.goto 4, 3) := fp_hdX12_lowest_0.1.2.2.1.1.2
theorem dX12_lowest_40 : decode cX12_lowest 40 = .ok (.lload_n 2, 1) := fp_hdX12_lowest_0.1.2.2.1.2
theorem dX12_lowest_41 : decode cX12_lowest 41 = .ok (.lload 5, 2) := fp_hdX12_lowest_0.1.2.2.2.1.1
theorem dX12_lowest_43 : decode cX12_lowest 43 = .ok (.ldiv, 1) := fp_hdX12_lowest_0.1.2.2.2.1.2
theorem dX12_lowest_44 : decode cX12_lowest 44 = .ok (.lreturn, 1) := fp_hdX12_lowest_0.1.2.2.2.2
def fp_scX12_odds_1 : List Nat := 184 :: 1 :: 44 :: 173 :: []
def fp_scX12_odds_0 : List Nat := 42 :: 27 :: 182 :: 0 :: 219 :: 153 :: 0 :: 21 :: 42 :: 28 :: 182 :: 0 :: 205 :: 153 :: 0 :: 13 :: 29 :: 133 :: 9 :: 10 :: 184 :: 0 :: 94 :: 154 :: 0 :: 7 :: 20 :: 1 :: 37 :: 173 :: 42 :: 182 :: 0 :: 225 :: 16 :: 10 :: 164 :: 0 :: 7 :: 20 :: 1 :: 39 :: 173 :: 42 :: 27 :: 182 :: 1 :: 41 :: 42 :: 180 :: 0 :: 56 :: 28 :: 47 :: 42 :: 180 :: 1 :: 33 :: 29 :: fp_scX12_odds_1
theorem fp_bcX12_odds : bA cX12_odds 0 fp_scX12_odds_0 := show cX12_odds.data.toList.map UInt8.toNat = fp_scX12_odds_0 from by decide +kernel
theorem fp_hdX12_odds_0 : (((((decode cX12_odds 0 = .ok (.aload_n 0, 1) ∧ decode cX12_odds 1 = .ok (.iload_n 1, 1)) ∧ (decode cX12_odds 2 = .ok (.invokevirtual 219, 3) ∧ decode cX12_odds 5 = .ok (.ifCond .eq 21, 3))) ∧ ((decode cX12_odds 8 = .ok (.aload_n 0, 1) ∧ decode cX12_odds 9 = .ok (.iload_n 2, 1)) ∧ (decode cX12_odds 10 = .ok (.invokevirtual 205, 3) ∧ decode cX12_odds 13 = .ok (.ifCond .eq 13, 3)))) ∧ (((decode cX12_odds 16 = .ok (.iload_n 3, 1) ∧ decode cX12_odds 17 = .ok (.i2l, 1)) ∧ (decode cX12_odds 18 = .ok (.lconst 0, 1) ∧ decode cX12_odds 19 = .ok (.lconst 1, 1))) ∧ ((decode cX12_odds 20 = .ok (.invokestatic 94, 3) ∧ decode cX12_odds 23 = .ok (.ifCond .ne 7, 3)) ∧ (decode cX12_odds 26 = .ok (.ldc2_w 293, 3) ∧ decode cX12_odds 29 = .ok (.lreturn, 1))))) ∧ ((((decode cX12_odds 30 = .ok (.aload_n 0, 1) ∧ decode cX12_odds 31 = .ok (.invokevirtual 225, 3)) ∧ (decode cX12_odds 34 = .ok (.bipush 10, 2) ∧ decode cX12_odds 36 = .ok (.if_icmp .le 7, 3))) ∧ ((decode cX12_odds 39 = .ok (.ldc2_w 295, 3) ∧ decode cX12_odds 42 = .ok (.lreturn, 1)) ∧ (decode cX12_odds 43 = .ok (.aload_n 0, 1) ∧ decode cX12_odds 44 = .ok (.iload_n 1, 1)))) ∧ (((decode cX12_odds 45 = .ok (.invokevirtual 297, 3) ∧ decode cX12_odds 48 = .ok (.aload_n 0, 1)) ∧ (decode cX12_odds 49 = .ok (.getfield 56, 3) ∧ decode cX12_odds 52 = .ok (.iload_n 2, 1))) ∧ ((decode cX12_odds 53 = .ok (.laload, 1) ∧ decode cX12_odds 54 = .ok (.aload_n 0, 1)) ∧ (decode cX12_odds 55 = .ok (.getfield 289, 3) ∧ decode cX12_odds 58 = .ok (.iload_n 3, 1)))))) ∧ bA cX12_odds 59 fp_scX12_odds_1 :=
  have q0 := fp_o42 fp_bcX12_odds
  have q1 := fp_o27 q0.2
  have q2 := fp_o182 (v := 219) q1.2 rfl
  have q3 := fp_o153 (v := 21) q2.2 rfl
  have q4 := fp_o42 q3.2
  have q5 := fp_o28 q4.2
  have q6 := fp_o182 (v := 205) q5.2 rfl
  have q7 := fp_o153 (v := 13) q6.2 rfl
  have q8 := fp_o29 q7.2
  have q9 := fp_o133 q8.2
  have q10 := fp_o9 q9.2
  have q11 := fp_o10 q10.2
  have q12 := fp_o184 (v := 94) q11.2 rfl
  have q13 := fp_o154 (v := 7) q12.2 rfl
  have q14 := fp_o20 (v := 293) q13.2 rfl
  have q15 := fp_o173 q14.2
  have q16 := fp_o42 q15.2
  have q17 := fp_o182 (v := 225) q16.2 rfl
  have q18 := fp_o16 (v := 10) q17.2 rfl
  have q19 := fp_o164 (v := 7) q18.2 rfl
  have q20 := fp_o20 (v := 295) q19.2 rfl
  have q21 := fp_o173 q20.2
  have q22 := fp_o42 q21.2
  have q23 := fp_o27 q22.2
  have q24 := fp_o182 (v := 297) q23.2 rfl
  have q25 := fp_o42 q24.2
  have q26 := fp_o180 (v := 56) q25.2 rfl
  have q27 := fp_o28 q26.2
  have q28 := fp_o47 q27.2
  have q29 := fp_o42 q28.2
  have q30 := fp_o180 (v := 289) q29.2 rfl
  have q31 := fp_o29 q30.2
  ⟨⟨⟨⟨⟨⟨q0.1, q1.1⟩, ⟨q2.1, q3.1⟩⟩, ⟨⟨q4.1, q5.1⟩, ⟨q6.1, q7.1⟩⟩⟩, ⟨⟨⟨q8.1, q9.1⟩, ⟨q10.1, q11.1⟩⟩, ⟨⟨q12.1, q13.1⟩, ⟨q14.1, q15.1⟩⟩⟩⟩, ⟨⟨⟨⟨q16.1, q17.1⟩, ⟨q18.1, q19.1⟩⟩, ⟨⟨q20.1, q21.1⟩, ⟨q22.1, q23.1⟩⟩⟩, ⟨⟨⟨q24.1, q25.1⟩, ⟨q26.1, q27.1⟩⟩, ⟨⟨q28.1, q29.1⟩, ⟨q30.1, q31.1⟩⟩⟩⟩⟩, q31.2⟩
theorem dX12_odds_0 : decode cX12_odds 0 = .ok (.aload_n 0, 1) := fp_hdX12_odds_0.1.1.1.1.1.1
theorem dX12_odds_1 : decode cX12_odds 1 = .ok (.iload_n 1, 1) := fp_hdX12_odds_0.1.1.1.1.1.2
theorem dX12_odds_2 : decode cX12_odds 2 = .ok (.invokevirtual 219, 3) := fp_hdX12_odds_0.1.1.1.1.2.1
theorem dX12_odds_5 : decode cX12_odds 5 = .ok (.ifCond .eq 21, 3) := fp_hdX12_odds_0.1.1.1.1.2.2
theorem dX12_odds_8 : decode cX12_odds 8 = .ok (.aload_n 0, 1) := fp_hdX12_odds_0.1.1.1.2.1.1
theorem dX12_odds_9 : decode cX12_odds 9 = .ok (.iload_n 2, 1) := fp_hdX12_odds_0.1.1.1.2.1.2
theorem dX12_odds_10 : decode cX12_odds 10 = .ok (.invokevirtual 205, 3) := fp_hdX12_odds_0.1.1.1.2.2.1
theorem dX12_odds_13 : decode cX12_odds 13 = .ok (.ifCond .eq 13, 3) := fp_hdX12_odds_0.1.1.1.2.2.2
theorem dX12_odds_16 : decode cX12_odds 16 = .ok (.iload_n 3, 1) := fp_hdX12_odds_0.1.1.2.1.1.1
theorem dX12_odds_17 : decode cX12_odds 17 = .ok (.i2l, 1) := fp_hdX12_odds_0.1.1.2.1.1.2
theorem dX12_odds_18 : decode cX12_odds 18 = .ok (.lconst 0, 1) := fp_hdX12_odds_0.1.1.2.1.2.1
theorem dX12_odds_19 : decode cX12_odds 19 = .ok (.lconst 1, 1) := fp_hdX12_odds_0.1.1.2.1.2.2
theorem dX12_odds_20 : decode cX12_odds 20 = .ok (.invokestatic 94, 3) := fp_hdX12_odds_0.1.1.2.2.1.1
theorem dX12_odds_23 : decode cX12_odds 23 = .ok (.ifCond .ne 7, 3) := fp_hdX12_odds_0.1.1.2.2.1.2
theorem dX12_odds_26 : decode cX12_odds 26 = .ok (.ldc2_w 293, 3) := fp_hdX12_odds_0.1.1.2.2.2.1
theorem dX12_odds_29 : decode cX12_odds 29 = .ok (.lreturn, 1) := fp_hdX12_odds_0.1.1.2.2.2.2
theorem dX12_odds_30 : decode cX12_odds 30 = .ok (.aload_n 0, 1) := fp_hdX12_odds_0.1.2.1.1.1.1
theorem dX12_odds_31 : decode cX12_odds 31 = .ok (.invokevirtual 225, 3) := fp_hdX12_odds_0.1.2.1.1.1.2
theorem dX12_odds_34 : decode cX12_odds 34 = .ok (.bipush 10, 2) := fp_hdX12_odds_0.1.2.1.1.2.1
theorem dX12_odds_36 : decode cX12_odds 36 = .ok (.if_icmp .le 7, 3) := fp_hdX12_odds_0.1.2.1.1.2.2
theorem dX12_odds_39 : decode cX12_odds 39 = .ok (.ldc2_w 295, 3) := fp_hdX12_odds_0.1.2.1.2.1.1
theorem dX12_odds_42 : decode cX12_odds 42 = .ok (.lreturn, 1) := fp_hdX12_odds_0.1.2.1.2.1.2
theorem dX12_odds_43 : decode cX12_odds 43 = .ok (.aload_n 0, 1) := fp_hdX12_odds_0.1.2.1.2.2.1
theorem dX12_odds_44 : decode cX12_odds 44 = .ok (.iload_n 1, 1) := fp_hdX12_odds_0.1.2.1.2.2.2
theorem dX12_odds_45 : decode cX12_odds 45 = .ok (.invokevirtual 297, 3) := fp_hdX12_odds_0.1.2.2.1.1.1
theorem dX12_odds_48 : decode cX12_odds 48 = .ok (.aload_n 0, 1) := fp_hdX12_odds_0.1.2.2.1.1.2
theorem dX12_odds_49 : decode cX12_odds 49 = .ok (.getfield 56, 3) := fp_hdX12_odds_0.1.2.2.1.2.1
theorem dX12_odds_52 : decode cX12_odds 52 = .ok (.iload_n 2, 1) := fp_hdX12_odds_0.1.2.2.1.2.2
theorem dX12_odds_53 : decode cX12_odds 53 = .ok (.laload, 1) := fp_hdX12_odds_0.1.2.2.2.1.1
theorem dX12_odds_54 : decode cX12_odds 54 = .ok (.aload_n 0, 1) := fp_hdX12_odds_0.1.2.2.2.1.2
theorem dX12_odds_55 : decode cX12_odds 55 = .ok (.getfield 289, 3) := fp_hdX12_odds_0.1.2.2.2.2.1
theorem dX12_odds_58 : decode cX12_odds 58 = .ok (.iload_n 3, 1) := fp_hdX12_odds_0.1.2.2.2.2.2
theorem fp_hdX12_odds_59 : (decode cX12_odds 59 = .ok (.invokestatic 300, 3) ∧ decode cX12_odds 62 = .ok (.lreturn, 1)) ∧ bA cX12_odds 63 [] :=
  have q0 := fp_o184 (v := 300) fp_hdX12_odds_0.2 rfl
  have q1 := fp_o173 q0.2
  ⟨⟨q0.1, q1.1⟩, q1.2⟩
theorem dX12_odds_59 : decode cX12_odds 59 = .ok (.invokestatic 300, 3) := fp_hdX12_odds_59.1.1
theorem dX12_odds_62 : decode cX12_odds 62 = .ok (.lreturn, 1) := fp_hdX12_odds_59.1.2
def fp_scX12_likeliest_1 : List Nat := 42 :: 180 :: 0 :: 56 :: 28 :: 47 :: 148 :: 158 :: 0 :: 7 :: 29 :: 167 :: 0 :: 4 :: 28 :: 61 :: 132 :: 3 :: 1 :: 167 :: 255 :: 213 :: 28 :: 172 :: []
def fp_scX12_likeliest_0 : List Nat := 42 :: 27 :: 182 :: 0 :: 219 :: 154 :: 0 :: 5 :: 2 :: 172 :: 42 :: 182 :: 0 :: 225 :: 16 :: 10 :: 164 :: 0 :: 6 :: 16 :: 254 :: 172 :: 42 :: 27 :: 182 :: 1 :: 41 :: 16 :: 252 :: 61 :: 3 :: 62 :: 29 :: 42 :: 180 :: 0 :: 181 :: 162 :: 0 :: 41 :: 42 :: 180 :: 0 :: 56 :: 29 :: 47 :: 28 :: 16 :: 252 :: 160 :: 0 :: 7 :: 9 :: 167 :: 0 :: 9 :: fp_scX12_likeliest_1
theorem fp_bcX12_likeliest : bA cX12_likeliest 0 fp_scX12_likeliest_0 := show cX12_likeliest.data.toList.map UInt8.toNat = fp_scX12_likeliest_0 from by decide +kernel
theorem fp_hdX12_likeliest_0 : (((((decode cX12_likeliest 0 = .ok (.aload_n 0, 1) ∧ decode cX12_likeliest 1 = .ok (.iload_n 1, 1)) ∧ (decode cX12_likeliest 2 = .ok (.invokevirtual 219, 3) ∧ decode cX12_likeliest 5 = .ok (.ifCond .ne 5, 3))) ∧ ((decode cX12_likeliest 8 = .ok (.iconst (-1), 1) ∧ decode cX12_likeliest 9 = .ok (.ireturn, 1)) ∧ (decode cX12_likeliest 10 = .ok (.aload_n 0, 1) ∧ decode cX12_likeliest 11 = .ok (.invokevirtual 225, 3)))) ∧ (((decode cX12_likeliest 14 = .ok (.bipush 10, 2) ∧ decode cX12_likeliest 16 = .ok (.if_icmp .le 6, 3)) ∧ (decode cX12_likeliest 19 = .ok (.bipush (-2), 2) ∧ decode cX12_likeliest 21 = .ok (.ireturn, 1))) ∧ ((decode cX12_likeliest 22 = .ok (.aload_n 0, 1) ∧ decode cX12_likeliest 23 = .ok (.iload_n 1, 1)) ∧ (decode cX12_likeliest 24 = .ok (.invokevirtual 297, 3) ∧ decode cX12_likeliest 27 = .ok (.bipush (-4), 2))))) ∧ ((((decode cX12_likeliest 29 = .ok (.istore_n 2, 1) ∧ decode cX12_likeliest 30 = .ok (.iconst 0, 1)) ∧ (decode cX12_likeliest 31 = .ok (.istore_n 3, 1) ∧ decode cX12_likeliest 32 = .ok (.iload_n 3, 1))) ∧ ((decode cX12_likeliest 33 = .ok (.aload_n 0, 1) ∧ decode cX12_likeliest 34 = .ok (.getfield 181, 3)) ∧ (decode cX12_likeliest 37 = .ok (.if_icmp .ge 41, 3) ∧ decode cX12_likeliest 40 = .ok (.aload_n 0, 1)))) ∧ (((decode cX12_likeliest 41 = .ok (.getfield 56, 3) ∧ decode cX12_likeliest 44 = .ok (.iload_n 3, 1)) ∧ (decode cX12_likeliest 45 = .ok (.laload, 1) ∧ decode cX12_likeliest 46 = .ok (.iload_n 2, 1))) ∧ ((decode cX12_likeliest 47 = .ok (.bipush (-4), 2) ∧ decode cX12_likeliest 49 = .ok (.if_icmp .ne 7, 3)) ∧ (decode cX12_likeliest 52 = .ok (.lconst 0, 1) ∧ decode cX12_likeliest 53 = .ok (.goto 9, 3)))))) ∧ bA cX12_likeliest 56 fp_scX12_likeliest_1 :=
  have q0 := fp_o42 fp_bcX12_likeliest
  have q1 := fp_o27 q0.2
  have q2 := fp_o182 (v := 219) q1.2 rfl
  have q3 := fp_o154 (v := 5) q2.2 rfl
  have q4 := fp_o2 q3.2
  have q5 := fp_o172 q4.2
  have q6 := fp_o42 q5.2
  have q7 := fp_o182 (v := 225) q6.2 rfl
  have q8 := fp_o16 (v := 10) q7.2 rfl
  have q9 := fp_o164 (v := 6) q8.2 rfl
  have q10 := fp_o16 (v := (-2)) q9.2 rfl
  have q11 := fp_o172 q10.2
  have q12 := fp_o42 q11.2
  have q13 := fp_o27 q12.2
  have q14 := fp_o182 (v := 297) q13.2 rfl
  have q15 := fp_o16 (v := (-4)) q14.2 rfl
  have q16 := fp_o61 q15.2
  have q17 := fp_o3 q16.2
  have q18 := fp_o62 q17.2
  have q19 := fp_o29 q18.2
  have q20 := fp_o42 q19.2
  have q21 := fp_o180 (v := 181) q20.2 rfl
  have q22 := fp_o162 (v := 41) q21.2 rfl
  have q23 := fp_o42 q22.2
  have q24 := fp_o180 (v := 56) q23.2 rfl
  have q25 := fp_o29 q24.2
  have q26 := fp_o47 q25.2
  have q27 := fp_o28 q26.2
  have q28 := fp_o16 (v := (-4)) q27.2 rfl
  have q29 := fp_o160 (v := 7) q28.2 rfl
  have q30 := fp_o9 q29.2
  have q31 := fp_o167 (v := 9) q30.2 rfl
  ⟨⟨⟨⟨⟨⟨q0.1, q1.1⟩, ⟨q2.1, q3.1⟩⟩, ⟨⟨q4.1, q5.1⟩, ⟨q6.1, q7.1⟩⟩⟩, ⟨⟨⟨q8.1, q9.1⟩, ⟨q10.1, q11.1⟩⟩, ⟨⟨q12.1, q13.1⟩, ⟨q14.1, q15.1⟩⟩⟩⟩, ⟨⟨⟨⟨q16.1, q17.1⟩, ⟨q18.1, q19.1⟩⟩, ⟨⟨q20.1, q21.1⟩, ⟨q22.1, q23.1⟩⟩⟩, ⟨⟨⟨q24.1, q25.1⟩, ⟨q26.1, q27.1⟩⟩, ⟨⟨q28.1, q29.1⟩, ⟨q30.1, q31.1⟩⟩⟩⟩⟩, q31.2⟩
theorem dX12_likeliest_0 : decode cX12_likeliest 0 = .ok (.aload_n 0, 1) := fp_hdX12_likeliest_0.1.1.1.1.1.1
theorem dX12_likeliest_1 : decode cX12_likeliest 1 = .ok (.iload_n 1, 1) := fp_hdX12_likeliest_0.1.1.1.1.1.2
theorem dX12_likeliest_2 : decode cX12_likeliest 2 = .ok (.invokevirtual 219, 3) := fp_hdX12_likeliest_0.1.1.1.1.2.1
theorem dX12_likeliest_5 : decode cX12_likeliest 5 = .ok (.ifCond .ne 5, 3) := fp_hdX12_likeliest_0.1.1.1.1.2.2
theorem dX12_likeliest_8 : decode cX12_likeliest 8 = .ok (.iconst (-1), 1) := fp_hdX12_likeliest_0.1.1.1.2.1.1
theorem dX12_likeliest_9 : decode cX12_likeliest 9 = .ok (.ireturn, 1) := fp_hdX12_likeliest_0.1.1.1.2.1.2
theorem dX12_likeliest_10 : decode cX12_likeliest 10 = .ok (.aload_n 0, 1) := fp_hdX12_likeliest_0.1.1.1.2.2.1
theorem dX12_likeliest_11 : decode cX12_likeliest 11 = .ok (.invokevirtual 225, 3) := fp_hdX12_likeliest_0.1.1.1.2.2.2
theorem dX12_likeliest_14 : decode cX12_likeliest 14 = .ok (.bipush 10, 2) := fp_hdX12_likeliest_0.1.1.2.1.1.1
theorem dX12_likeliest_16 : decode cX12_likeliest 16 = .ok (.if_icmp .le 6, 3) := fp_hdX12_likeliest_0.1.1.2.1.1.2
theorem dX12_likeliest_19 : decode cX12_likeliest 19 = .ok (.bipush (-2), 2) := fp_hdX12_likeliest_0.1.1.2.1.2.1
theorem dX12_likeliest_21 : decode cX12_likeliest 21 = .ok (.ireturn, 1) := fp_hdX12_likeliest_0.1.1.2.1.2.2
theorem dX12_likeliest_22 : decode cX12_likeliest 22 = .ok (.aload_n 0, 1) := fp_hdX12_likeliest_0.1.1.2.2.1.1
theorem dX12_likeliest_23 : decode cX12_likeliest 23 = .ok (.iload_n 1, 1) := fp_hdX12_likeliest_0.1.1.2.2.1.2
theorem dX12_likeliest_24 : decode cX12_likeliest 24 = .ok (.invokevirtual 297, 3) := fp_hdX12_likeliest_0.1.1.2.2.2.1
theorem dX12_likeliest_27 : decode cX12_likeliest 27 = .ok (.bipush (-4), 2) := fp_hdX12_likeliest_0.1.1.2.2.2.2
theorem dX12_likeliest_29 : decode cX12_likeliest 29 = .ok (.istore_n 2, 1) := fp_hdX12_likeliest_0.1.2.1.1.1.1
theorem dX12_likeliest_30 : decode cX12_likeliest 30 = .ok (.iconst 0, 1) := fp_hdX12_likeliest_0.1.2.1.1.1.2
theorem dX12_likeliest_31 : decode cX12_likeliest 31 = .ok (.istore_n 3, 1) := fp_hdX12_likeliest_0.1.2.1.1.2.1
theorem dX12_likeliest_32 : decode cX12_likeliest 32 = .ok (.iload_n 3, 1) := fp_hdX12_likeliest_0.1.2.1.1.2.2
theorem dX12_likeliest_33 : decode cX12_likeliest 33 = .ok (.aload_n 0, 1) := fp_hdX12_likeliest_0.1.2.1.2.1.1
theorem dX12_likeliest_34 : decode cX12_likeliest 34 = .ok (.getfield 181, 3) := fp_hdX12_likeliest_0.1.2.1.2.1.2
theorem dX12_likeliest_37 : decode cX12_likeliest 37 = .ok (.if_icmp .ge 41, 3) := fp_hdX12_likeliest_0.1.2.1.2.2.1
theorem dX12_likeliest_40 : decode cX12_likeliest 40 = .ok (.aload_n 0, 1) := fp_hdX12_likeliest_0.1.2.1.2.2.2
theorem dX12_likeliest_41 : decode cX12_likeliest 41 = .ok (.getfield 56, 3) := fp_hdX12_likeliest_0.1.2.2.1.1.1
theorem dX12_likeliest_44 : decode cX12_likeliest 44 = .ok (.iload_n 3, 1) := fp_hdX12_likeliest_0.1.2.2.1.1.2
theorem dX12_likeliest_45 : decode cX12_likeliest 45 = .ok (.laload, 1) := fp_hdX12_likeliest_0.1.2.2.1.2.1
theorem dX12_likeliest_46 : decode cX12_likeliest 46 = .ok (.iload_n 2, 1) := fp_hdX12_likeliest_0.1.2.2.1.2.2
theorem dX12_likeliest_47 : decode cX12_likeliest 47 = .ok (.bipush (-4), 2) := fp_hdX12_likeliest_0.1.2.2.2.1.1
theorem dX12_likeliest_49 : decode cX12_likeliest 49 = .ok (.if_icmp .ne 7, 3) := fp_hdX12_likeliest_0.1.2.2.2.1.2
theorem dX12_likeliest_52 : decode cX12_likeliest 52 = .ok (.lconst 0, 1) := fp_hdX12_likeliest_0.1.2.2.2.2.1
theorem dX12_likeliest_53 : decode cX12_likeliest 53 = .ok (.goto 9, 3) := fp_hdX12_likeliest_0.1.2.2.2.2.2
theorem fp_hdX12_likeliest_56 : ((((decode cX12_likeliest 56 = .ok (.aload_n 0, 1) ∧ decode cX12_likeliest 57 = .ok (.getfield 56, 3)) ∧ (decode cX12_likeliest 60 = .ok (.iload_n 2, 1) ∧ decode cX12_likeliest 61 = .ok (.laload, 1))) ∧ ((decode cX12_likeliest 62 = .ok (.lcmp, 1) ∧ decode cX12_likeliest 63 = .ok (.ifCond .le 7, 3)) ∧ decode cX12_likeliest 66 = .ok (.iload_n 3, 1))) ∧ (((decode cX12_likeliest 67 = .ok (.goto 4, 3) ∧ decode cX12_likeliest 70 = .ok (.iload_n 2, 1)) ∧ (decode cX12_likeliest 71 = .ok (.istore_n 2, 1) ∧ decode cX12_likeliest 72 = .ok (.iinc 3 1, 3))) ∧ ((decode cX12_likeliest 75 = .ok (.goto (-43), 3) ∧ decode cX12_likeliest 78 = .ok (.iload_n 2, 1)) ∧ decode cX12_likeliest 79 = .ok (.ireturn, 1)))) ∧ bA cX12_likeliest 80 [] :=
  have q0 := fp_o42 fp_hdX12_likeliest_0.2
  have q1 := fp_o180 (v := 56) q0.2 rfl
  have q2 := fp_o28 q1.2
  have q3 := fp_o47 q2.2
  have q4 := fp_o148 q3.2
  have q5 := fp_o158 (v := 7) q4.2 rfl
  have q6 := fp_o29 q5.2
  have q7 := fp_o167 (v := 4) q6.2 rfl
  have q8 := fp_o28 q7.2
  have q9 := fp_o61 q8.2
  have q10 := fp_o132 (v := 1) q9.2 rfl
  have q11 := fp_o167 (v := (-43)) q10.2 rfl
  have q12 := fp_o28 q11.2
  have q13 := fp_o172 q12.2
  ⟨⟨⟨⟨⟨q0.1, q1.1⟩, ⟨q2.1, q3.1⟩⟩, ⟨⟨q4.1, q5.1⟩, q6.1⟩⟩, ⟨⟨⟨q7.1, q8.1⟩, ⟨q9.1, q10.1⟩⟩, ⟨⟨q11.1, q12.1⟩, q13.1⟩⟩⟩, q13.2⟩
theorem dX12_likeliest_56 : decode cX12_likeliest 56 = .ok (.aload_n 0, 1) := fp_hdX12_likeliest_56.1.1.1.1.1
theorem dX12_likeliest_57 : decode cX12_likeliest 57 = .ok (.getfield 56, 3) := fp_hdX12_likeliest_56.1.1.1.1.2
theorem dX12_likeliest_60 : decode cX12_likeliest 60 = .ok (.iload_n 2, 1) := fp_hdX12_likeliest_56.1.1.1.2.1
theorem dX12_likeliest_61 : decode cX12_likeliest 61 = .ok (.laload, 1) := fp_hdX12_likeliest_56.1.1.1.2.2
theorem dX12_likeliest_62 : decode cX12_likeliest 62 = .ok (.lcmp, 1) := fp_hdX12_likeliest_56.1.1.2.1.1
theorem dX12_likeliest_63 : decode cX12_likeliest 63 = .ok (.ifCond .le 7, 3) := fp_hdX12_likeliest_56.1.1.2.1.2
theorem dX12_likeliest_66 : decode cX12_likeliest 66 = .ok (.iload_n 3, 1) := fp_hdX12_likeliest_56.1.1.2.2
theorem dX12_likeliest_67 : decode cX12_likeliest 67 = .ok (.goto 4, 3) := fp_hdX12_likeliest_56.1.2.1.1.1
theorem dX12_likeliest_70 : decode cX12_likeliest 70 = .ok (.iload_n 2, 1) := fp_hdX12_likeliest_56.1.2.1.1.2
theorem dX12_likeliest_71 : decode cX12_likeliest 71 = .ok (.istore_n 2, 1) := fp_hdX12_likeliest_56.1.2.1.2.1
theorem dX12_likeliest_72 : decode cX12_likeliest 72 = .ok (.iinc 3 1, 3) := fp_hdX12_likeliest_56.1.2.1.2.2
theorem dX12_likeliest_75 : decode cX12_likeliest 75 = .ok (.goto (-43), 3) := fp_hdX12_likeliest_56.1.2.2.1.1
theorem dX12_likeliest_78 : decode cX12_likeliest 78 = .ok (.iload_n 2, 1) := fp_hdX12_likeliest_56.1.2.2.1.2
theorem dX12_likeliest_79 : decode cX12_likeliest 79 = .ok (.ireturn, 1) := fp_hdX12_likeliest_56.1.2.2.2
def fp_scX12_plays_4 : List Nat := 96 :: 46 :: 116 :: 96 :: 54 :: 8 :: 132 :: 11 :: 1 :: 167 :: 255 :: 48 :: 21 :: 8 :: 172 :: []
def fp_scX12_plays_3 : List Nat := 42 :: 17 :: 1 :: 104 :: 27 :: 182 :: 0 :: 198 :: 158 :: 0 :: 57 :: 42 :: 17 :: 1 :: 104 :: 27 :: 42 :: 17 :: 1 :: 104 :: 27 :: 182 :: 0 :: 216 :: 182 :: 0 :: 241 :: 54 :: 14 :: 21 :: 8 :: 21 :: 12 :: 153 :: 0 :: 17 :: 42 :: 180 :: 0 :: 16 :: 7 :: 21 :: 14 :: 104 :: 28 :: 96 :: 46 :: 167 :: 0 :: 15 :: 42 :: 180 :: 0 :: 16 :: 7 :: 21 :: 14 :: 104 :: 29 :: fp_scX12_plays_4
def fp_scX12_plays_2 : List Nat := 16 :: 8 :: 160 :: 0 :: 7 :: 17 :: 216 :: 241 :: 172 :: 21 :: 9 :: 21 :: 12 :: 153 :: 0 :: 7 :: 4 :: 167 :: 0 :: 4 :: 3 :: 100 :: 54 :: 9 :: 21 :: 10 :: 21 :: 12 :: 153 :: 0 :: 7 :: 3 :: 167 :: 0 :: 4 :: 4 :: 100 :: 54 :: 10 :: 42 :: 17 :: 1 :: 104 :: 16 :: 10 :: 27 :: 42 :: 17 :: 1 :: 104 :: 27 :: 182 :: 0 :: 198 :: 182 :: 0 :: 237 :: 167 :: 0 :: 73 :: 21 :: 13 :: 154 :: 0 :: 68 :: fp_scX12_plays_3
def fp_scX12_plays_1 : List Nat := 4 :: 167 :: 0 :: 4 :: 3 :: 54 :: 12 :: 21 :: 6 :: 21 :: 7 :: 108 :: 6 :: 112 :: 54 :: 13 :: 21 :: 7 :: 6 :: 161 :: 0 :: 10 :: 21 :: 7 :: 6 :: 108 :: 167 :: 0 :: 4 :: 4 :: 54 :: 7 :: 21 :: 13 :: 4 :: 160 :: 0 :: 86 :: 21 :: 12 :: 153 :: 0 :: 8 :: 21 :: 9 :: 167 :: 0 :: 5 :: 21 :: 10 :: 153 :: 0 :: 16 :: 42 :: 17 :: 1 :: 104 :: 27 :: 182 :: 0 :: 198 :: fp_scX12_plays_2
def fp_scX12_plays_0 : List Nat := 4 :: 54 :: 7 :: 4 :: 54 :: 8 :: 21 :: 8 :: 21 :: 5 :: 162 :: 0 :: 15 :: 21 :: 7 :: 6 :: 104 :: 54 :: 7 :: 132 :: 8 :: 1 :: 167 :: 255 :: 240 :: 3 :: 54 :: 8 :: 21 :: 4 :: 54 :: 9 :: 21 :: 4 :: 54 :: 10 :: 42 :: 3 :: 17 :: 1 :: 104 :: 182 :: 1 :: 9 :: 3 :: 54 :: 11 :: 21 :: 11 :: 21 :: 5 :: 162 :: 0 :: 207 :: 21 :: 11 :: 5 :: 112 :: 154 :: 0 :: 7 :: fp_scX12_plays_1
theorem fp_bcX12_plays : bA cX12_plays 0 fp_scX12_plays_0 := show cX12_plays.data.toList.map UInt8.toNat = fp_scX12_plays_0 from by decide +kernel
theorem fp_hdX12_plays_0 : (((((decode cX12_plays 0 = .ok (.iconst 1, 1) ∧ decode cX12_plays 1 = .ok (.istore 7, 2)) ∧ (decode cX12_plays 3 = .ok (.iconst 1, 1) ∧ decode cX12_plays 4 = .ok (.istore 8, 2))) ∧ ((decode cX12_plays 6 = .ok (.iload 8, 2) ∧ decode cX12_plays 8 = .ok (.iload 5, 2)) ∧ (decode cX12_plays 10 = .ok (.if_icmp .ge 15, 3) ∧ decode cX12_plays 13 = .ok (.iload 7, 2)))) ∧ (((decode cX12_plays 15 = .ok (.iconst 3, 1) ∧ decode cX12_plays 16 = .ok (.imul, 1)) ∧ (decode cX12_plays 17 = .ok (.istore 7, 2) ∧ decode cX12_plays 19 = .ok (.iinc 8 1, 3))) ∧ ((decode cX12_plays 22 = .ok (.goto (-16), 3) ∧ decode cX12_plays 25 = .ok (.iconst 0, 1)) ∧ (decode cX12_plays 26 = .ok (.istore 8, 2) ∧ decode cX12_plays 28 = .ok (.iload 4, 2))))) ∧ ((((decode cX12_plays 30 = .ok (.istore 9, 2) ∧ decode cX12_plays 32 = .ok (.iload 4, 2)) ∧ (decode cX12_plays 34 = .ok (.istore 10, 2) ∧ decode cX12_plays 36 = .ok (.aload_n 0, 1))) ∧ ((decode cX12_plays 37 = .ok (.iconst 0, 1) ∧ decode cX12_plays 38 = .ok (.sipush 360, 3)) ∧ (decode cX12_plays 41 = .ok (.invokevirtual 265, 3) ∧ decode cX12_plays 44 = .ok (.iconst 0, 1)))) ∧ (((decode cX12_plays 45 = .ok (.istore 11, 2) ∧ decode cX12_plays 47 = .ok (.iload 11, 2)) ∧ (decode cX12_plays 49 = .ok (.iload 5, 2) ∧ decode cX12_plays 51 = .ok (.if_icmp .ge 207, 3))) ∧ ((decode cX12_plays 54 = .ok (.iload 11, 2) ∧ decode cX12_plays 56 = .ok (.iconst 2, 1)) ∧ (decode cX12_plays 57 = .ok (.irem, 1) ∧ decode cX12_plays 58 = .ok (.ifCond .ne 7, 3)))))) ∧ bA cX12_plays 61 fp_scX12_plays_1 :=
  have q0 := fp_o4 fp_bcX12_plays
  have q1 := fp_o54 q0.2
  have q2 := fp_o4 q1.2
  have q3 := fp_o54 q2.2
  have q4 := fp_o21 q3.2
  have q5 := fp_o21 q4.2
  have q6 := fp_o162 (v := 15) q5.2 rfl
  have q7 := fp_o21 q6.2
  have q8 := fp_o6 q7.2
  have q9 := fp_o104 q8.2
  have q10 := fp_o54 q9.2
  have q11 := fp_o132 (v := 1) q10.2 rfl
  have q12 := fp_o167 (v := (-16)) q11.2 rfl
  have q13 := fp_o3 q12.2
  have q14 := fp_o54 q13.2
  have q15 := fp_o21 q14.2
  have q16 := fp_o54 q15.2
  have q17 := fp_o21 q16.2
  have q18 := fp_o54 q17.2
  have q19 := fp_o42 q18.2
  have q20 := fp_o3 q19.2
  have q21 := fp_o17 (v := 360) q20.2 rfl
  have q22 := fp_o182 (v := 265) q21.2 rfl
  have q23 := fp_o3 q22.2
  have q24 := fp_o54 q23.2
  have q25 := fp_o21 q24.2
  have q26 := fp_o21 q25.2
  have q27 := fp_o162 (v := 207) q26.2 rfl
  have q28 := fp_o21 q27.2
  have q29 := fp_o5 q28.2
  have q30 := fp_o112 q29.2
  have q31 := fp_o154 (v := 7) q30.2 rfl
  ⟨⟨⟨⟨⟨⟨q0.1, q1.1⟩, ⟨q2.1, q3.1⟩⟩, ⟨⟨q4.1, q5.1⟩, ⟨q6.1, q7.1⟩⟩⟩, ⟨⟨⟨q8.1, q9.1⟩, ⟨q10.1, q11.1⟩⟩, ⟨⟨q12.1, q13.1⟩, ⟨q14.1, q15.1⟩⟩⟩⟩, ⟨⟨⟨⟨q16.1, q17.1⟩, ⟨q18.1, q19.1⟩⟩, ⟨⟨q20.1, q21.1⟩, ⟨q22.1, q23.1⟩⟩⟩, ⟨⟨⟨q24.1, q25.1⟩, ⟨q26.1, q27.1⟩⟩, ⟨⟨q28.1, q29.1⟩, ⟨q30.1, q31.1⟩⟩⟩⟩⟩, q31.2⟩
theorem dX12_plays_0 : decode cX12_plays 0 = .ok (.iconst 1, 1) := fp_hdX12_plays_0.1.1.1.1.1.1
theorem dX12_plays_1 : decode cX12_plays 1 = .ok (.istore 7, 2) := fp_hdX12_plays_0.1.1.1.1.1.2
theorem dX12_plays_3 : decode cX12_plays 3 = .ok (.iconst 1, 1) := fp_hdX12_plays_0.1.1.1.1.2.1
theorem dX12_plays_4 : decode cX12_plays 4 = .ok (.istore 8, 2) := fp_hdX12_plays_0.1.1.1.1.2.2
theorem dX12_plays_6 : decode cX12_plays 6 = .ok (.iload 8, 2) := fp_hdX12_plays_0.1.1.1.2.1.1
theorem dX12_plays_8 : decode cX12_plays 8 = .ok (.iload 5, 2) := fp_hdX12_plays_0.1.1.1.2.1.2
theorem dX12_plays_10 : decode cX12_plays 10 = .ok (.if_icmp .ge 15, 3) := fp_hdX12_plays_0.1.1.1.2.2.1
theorem dX12_plays_13 : decode cX12_plays 13 = .ok (.iload 7, 2) := fp_hdX12_plays_0.1.1.1.2.2.2
theorem dX12_plays_15 : decode cX12_plays 15 = .ok (.iconst 3, 1) := fp_hdX12_plays_0.1.1.2.1.1.1
theorem dX12_plays_16 : decode cX12_plays 16 = .ok (.imul, 1) := fp_hdX12_plays_0.1.1.2.1.1.2
theorem dX12_plays_17 : decode cX12_plays 17 = .ok (.istore 7, 2) := fp_hdX12_plays_0.1.1.2.1.2.1
theorem dX12_plays_19 : decode cX12_plays 19 = .ok (.iinc 8 1, 3) := fp_hdX12_plays_0.1.1.2.1.2.2
theorem dX12_plays_22 : decode cX12_plays 22 = .ok (.goto (-16), 3) := fp_hdX12_plays_0.1.1.2.2.1.1
theorem dX12_plays_25 : decode cX12_plays 25 = .ok (.iconst 0, 1) := fp_hdX12_plays_0.1.1.2.2.1.2
theorem dX12_plays_26 : decode cX12_plays 26 = .ok (.istore 8, 2) := fp_hdX12_plays_0.1.1.2.2.2.1
theorem dX12_plays_28 : decode cX12_plays 28 = .ok (.iload 4, 2) := fp_hdX12_plays_0.1.1.2.2.2.2
theorem dX12_plays_30 : decode cX12_plays 30 = .ok (.istore 9, 2) := fp_hdX12_plays_0.1.2.1.1.1.1
theorem dX12_plays_32 : decode cX12_plays 32 = .ok (.iload 4, 2) := fp_hdX12_plays_0.1.2.1.1.1.2
theorem dX12_plays_34 : decode cX12_plays 34 = .ok (.istore 10, 2) := fp_hdX12_plays_0.1.2.1.1.2.1
theorem dX12_plays_36 : decode cX12_plays 36 = .ok (.aload_n 0, 1) := fp_hdX12_plays_0.1.2.1.1.2.2
theorem dX12_plays_37 : decode cX12_plays 37 = .ok (.iconst 0, 1) := fp_hdX12_plays_0.1.2.1.2.1.1
theorem dX12_plays_38 : decode cX12_plays 38 = .ok (.sipush 360, 3) := fp_hdX12_plays_0.1.2.1.2.1.2
theorem dX12_plays_41 : decode cX12_plays 41 = .ok (.invokevirtual 265, 3) := fp_hdX12_plays_0.1.2.1.2.2.1
theorem dX12_plays_44 : decode cX12_plays 44 = .ok (.iconst 0, 1) := fp_hdX12_plays_0.1.2.1.2.2.2
theorem dX12_plays_45 : decode cX12_plays 45 = .ok (.istore 11, 2) := fp_hdX12_plays_0.1.2.2.1.1.1
theorem dX12_plays_47 : decode cX12_plays 47 = .ok (.iload 11, 2) := fp_hdX12_plays_0.1.2.2.1.1.2
theorem dX12_plays_49 : decode cX12_plays 49 = .ok (.iload 5, 2) := fp_hdX12_plays_0.1.2.2.1.2.1
theorem dX12_plays_51 : decode cX12_plays 51 = .ok (.if_icmp .ge 207, 3) := fp_hdX12_plays_0.1.2.2.1.2.2
theorem dX12_plays_54 : decode cX12_plays 54 = .ok (.iload 11, 2) := fp_hdX12_plays_0.1.2.2.2.1.1
theorem dX12_plays_56 : decode cX12_plays 56 = .ok (.iconst 2, 1) := fp_hdX12_plays_0.1.2.2.2.1.2
theorem dX12_plays_57 : decode cX12_plays 57 = .ok (.irem, 1) := fp_hdX12_plays_0.1.2.2.2.2.1
theorem dX12_plays_58 : decode cX12_plays 58 = .ok (.ifCond .ne 7, 3) := fp_hdX12_plays_0.1.2.2.2.2.2
theorem fp_hdX12_plays_61 : (((((decode cX12_plays 61 = .ok (.iconst 1, 1) ∧ decode cX12_plays 62 = .ok (.goto 4, 3)) ∧ (decode cX12_plays 65 = .ok (.iconst 0, 1) ∧ decode cX12_plays 66 = .ok (.istore 12, 2))) ∧ ((decode cX12_plays 68 = .ok (.iload 6, 2) ∧ decode cX12_plays 70 = .ok (.iload 7, 2)) ∧ (decode cX12_plays 72 = .ok (.idiv, 1) ∧ decode cX12_plays 73 = .ok (.iconst 3, 1)))) ∧ (((decode cX12_plays 74 = .ok (.irem, 1) ∧ decode cX12_plays 75 = .ok (.istore 13, 2)) ∧ (decode cX12_plays 77 = .ok (.iload 7, 2) ∧ decode cX12_plays 79 = .ok (.iconst 3, 1))) ∧ ((decode cX12_plays 80 = .ok (.if_icmp .lt 10, 3) ∧ decode cX12_plays 83 = .ok (.iload 7, 2)) ∧ (decode cX12_plays 85 = .ok (.iconst 3, 1) ∧ decode cX12_plays 86 = .ok (.idiv, 1))))) ∧ ((((decode cX12_plays 87 = .ok (.goto 4, 3) ∧ decode cX12_plays 90 = .ok (.iconst 1, 1)) ∧ (decode cX12_plays 91 = .ok (.istore 7, 2) ∧ decode cX12_plays 93 = .ok (.iload 13, 2))) ∧ ((decode cX12_plays 95 = .ok (.iconst 1, 1) ∧ decode cX12_plays 96 = .ok (.if_icmp .ne 86, 3)) ∧ (decode cX12_plays 99 = .ok (.iload 12, 2) ∧ decode cX12_plays 101 = .ok (.ifCond .eq 8, 3)))) ∧ (((decode cX12_plays 104 = .ok (.iload 9, 2) ∧ decode cX12_plays 106 = .ok (.goto 5, 3)) ∧ (decode cX12_plays 109 = .ok (.iload 10, 2) ∧ decode cX12_plays 111 = .ok (.ifCond .eq 16, 3))) ∧ ((decode cX12_plays 114 = .ok (.aload_n 0, 1) ∧ decode cX12_plays 115 = .ok (.sipush 360, 3)) ∧ (decode cX12_plays 118 = .ok (.iload_n 1, 1) ∧ decode cX12_plays 119 = .ok (.invokevirtual 198, 3)))))) ∧ bA cX12_plays 122 fp_scX12_plays_2 :=
  have q0 := fp_o4 fp_hdX12_plays_0.2
  have q1 := fp_o167 (v := 4) q0.2 rfl
  have q2 := fp_o3 q1.2
  have q3 := fp_o54 q2.2
  have q4 := fp_o21 q3.2
  have q5 := fp_o21 q4.2
  have q6 := fp_o108 q5.2
  have q7 := fp_o6 q6.2
  have q8 := fp_o112 q7.2
  have q9 := fp_o54 q8.2
  have q10 := fp_o21 q9.2
  have q11 := fp_o6 q10.2
  have q12 := fp_o161 (v := 10) q11.2 rfl
  have q13 := fp_o21 q12.2
  have q14 := fp_o6 q13.2
  have q15 := fp_o108 q14.2
  have q16 := fp_o167 (v := 4) q15.2 rfl
  have q17 := fp_o4 q16.2
  have q18 := fp_o54 q17.2
  have q19 := fp_o21 q18.2
  have q20 := fp_o4 q19.2
  have q21 := fp_o160 (v := 86) q20.2 rfl
  have q22 := fp_o21 q21.2
  have q23 := fp_o153 (v := 8) q22.2 rfl
  have q24 := fp_o21 q23.2
  have q25 := fp_o167 (v := 5) q24.2 rfl
  have q26 := fp_o21 q25.2
  have q27 := fp_o153 (v := 16) q26.2 rfl
  have q28 := fp_o42 q27.2
  have q29 := fp_o17 (v := 360) q28.2 rfl
  have q30 := fp_o27 q29.2
  have q31 := fp_o182 (v := 198) q30.2 rfl
  ⟨⟨⟨⟨⟨⟨q0.1, q1.1⟩, ⟨q2.1, q3.1⟩⟩, ⟨⟨q4.1, q5.1⟩, ⟨q6.1, q7.1⟩⟩⟩, ⟨⟨⟨q8.1, q9.1⟩, ⟨q10.1, q11.1⟩⟩, ⟨⟨q12.1, q13.1⟩, ⟨q14.1, q15.1⟩⟩⟩⟩, ⟨⟨⟨⟨q16.1, q17.1⟩, ⟨q18.1, q19.1⟩⟩, ⟨⟨q20.1, q21.1⟩, ⟨q22.1, q23.1⟩⟩⟩, ⟨⟨⟨q24.1, q25.1⟩, ⟨q26.1, q27.1⟩⟩, ⟨⟨q28.1, q29.1⟩, ⟨q30.1, q31.1⟩⟩⟩⟩⟩, q31.2⟩
theorem dX12_plays_61 : decode cX12_plays 61 = .ok (.iconst 1, 1) := fp_hdX12_plays_61.1.1.1.1.1.1
theorem dX12_plays_62 : decode cX12_plays 62 = .ok (.goto 4, 3) := fp_hdX12_plays_61.1.1.1.1.1.2
theorem dX12_plays_65 : decode cX12_plays 65 = .ok (.iconst 0, 1) := fp_hdX12_plays_61.1.1.1.1.2.1
theorem dX12_plays_66 : decode cX12_plays 66 = .ok (.istore 12, 2) := fp_hdX12_plays_61.1.1.1.1.2.2
theorem dX12_plays_68 : decode cX12_plays 68 = .ok (.iload 6, 2) := fp_hdX12_plays_61.1.1.1.2.1.1
theorem dX12_plays_70 : decode cX12_plays 70 = .ok (.iload 7, 2) := fp_hdX12_plays_61.1.1.1.2.1.2
theorem dX12_plays_72 : decode cX12_plays 72 = .ok (.idiv, 1) := fp_hdX12_plays_61.1.1.1.2.2.1
theorem dX12_plays_73 : decode cX12_plays 73 = .ok (.iconst 3, 1) := fp_hdX12_plays_61.1.1.1.2.2.2
theorem dX12_plays_74 : decode cX12_plays 74 = .ok (.irem, 1) := fp_hdX12_plays_61.1.1.2.1.1.1
theorem dX12_plays_75 : decode cX12_plays 75 = .ok (.istore 13, 2) := fp_hdX12_plays_61.1.1.2.1.1.2
theorem dX12_plays_77 : decode cX12_plays 77 = .ok (.iload 7, 2) := fp_hdX12_plays_61.1.1.2.1.2.1
theorem dX12_plays_79 : decode cX12_plays 79 = .ok (.iconst 3, 1) := fp_hdX12_plays_61.1.1.2.1.2.2
theorem dX12_plays_80 : decode cX12_plays 80 = .ok (.if_icmp .lt 10, 3) := fp_hdX12_plays_61.1.1.2.2.1.1
theorem dX12_plays_83 : decode cX12_plays 83 = .ok (.iload 7, 2) := fp_hdX12_plays_61.1.1.2.2.1.2
theorem dX12_plays_85 : decode cX12_plays 85 = .ok (.iconst 3, 1) := fp_hdX12_plays_61.1.1.2.2.2.1
theorem dX12_plays_86 : decode cX12_plays 86 = .ok (.idiv, 1) := fp_hdX12_plays_61.1.1.2.2.2.2
theorem dX12_plays_87 : decode cX12_plays 87 = .ok (.goto 4, 3) := fp_hdX12_plays_61.1.2.1.1.1.1
theorem dX12_plays_90 : decode cX12_plays 90 = .ok (.iconst 1, 1) := fp_hdX12_plays_61.1.2.1.1.1.2
theorem dX12_plays_91 : decode cX12_plays 91 = .ok (.istore 7, 2) := fp_hdX12_plays_61.1.2.1.1.2.1
theorem dX12_plays_93 : decode cX12_plays 93 = .ok (.iload 13, 2) := fp_hdX12_plays_61.1.2.1.1.2.2
theorem dX12_plays_95 : decode cX12_plays 95 = .ok (.iconst 1, 1) := fp_hdX12_plays_61.1.2.1.2.1.1
theorem dX12_plays_96 : decode cX12_plays 96 = .ok (.if_icmp .ne 86, 3) := fp_hdX12_plays_61.1.2.1.2.1.2
theorem dX12_plays_99 : decode cX12_plays 99 = .ok (.iload 12, 2) := fp_hdX12_plays_61.1.2.1.2.2.1
theorem dX12_plays_101 : decode cX12_plays 101 = .ok (.ifCond .eq 8, 3) := fp_hdX12_plays_61.1.2.1.2.2.2
theorem dX12_plays_104 : decode cX12_plays 104 = .ok (.iload 9, 2) := fp_hdX12_plays_61.1.2.2.1.1.1
theorem dX12_plays_106 : decode cX12_plays 106 = .ok (.goto 5, 3) := fp_hdX12_plays_61.1.2.2.1.1.2
theorem dX12_plays_109 : decode cX12_plays 109 = .ok (.iload 10, 2) := fp_hdX12_plays_61.1.2.2.1.2.1
theorem dX12_plays_111 : decode cX12_plays 111 = .ok (.ifCond .eq 16, 3) := fp_hdX12_plays_61.1.2.2.1.2.2
theorem dX12_plays_114 : decode cX12_plays 114 = .ok (.aload_n 0, 1) := fp_hdX12_plays_61.1.2.2.2.1.1
theorem dX12_plays_115 : decode cX12_plays 115 = .ok (.sipush 360, 3) := fp_hdX12_plays_61.1.2.2.2.1.2
theorem dX12_plays_118 : decode cX12_plays 118 = .ok (.iload_n 1, 1) := fp_hdX12_plays_61.1.2.2.2.2.1
theorem dX12_plays_119 : decode cX12_plays 119 = .ok (.invokevirtual 198, 3) := fp_hdX12_plays_61.1.2.2.2.2.2
theorem fp_hdX12_plays_122 : (((((decode cX12_plays 122 = .ok (.bipush 8, 2) ∧ decode cX12_plays 124 = .ok (.if_icmp .ne 7, 3)) ∧ (decode cX12_plays 127 = .ok (.sipush (-9999), 3) ∧ decode cX12_plays 130 = .ok (.ireturn, 1))) ∧ ((decode cX12_plays 131 = .ok (.iload 9, 2) ∧ decode cX12_plays 133 = .ok (.iload 12, 2)) ∧ (decode cX12_plays 135 = .ok (.ifCond .eq 7, 3) ∧ decode cX12_plays 138 = .ok (.iconst 1, 1)))) ∧ (((decode cX12_plays 139 = .ok (.goto 4, 3) ∧ decode cX12_plays 142 = .ok (.iconst 0, 1)) ∧ (decode cX12_plays 143 = .ok (.isub, 1) ∧ decode cX12_plays 144 = .ok (.istore 9, 2))) ∧ ((decode cX12_plays 146 = .ok (.iload 10, 2) ∧ decode cX12_plays 148 = .ok (.iload 12, 2)) ∧ (decode cX12_plays 150 = .ok (.ifCond .eq 7, 3) ∧ decode cX12_plays 153 = .ok (.iconst 0, 1))))) ∧ ((((decode cX12_plays 154 = .ok (.goto 4, 3) ∧ decode cX12_plays 157 = .ok (.iconst 1, 1)) ∧ (decode cX12_plays 158 = .ok (.isub, 1) ∧ decode cX12_plays 159 = .ok (.istore 10, 2))) ∧ ((decode cX12_plays 161 = .ok (.aload_n 0, 1) ∧ decode cX12_plays 162 = .ok (.sipush 360, 3)) ∧ (decode cX12_plays 165 = .ok (.bipush 10, 2) ∧ decode cX12_plays 167 = .ok (.iload_n 1, 1)))) ∧ (((decode cX12_plays 168 = .ok (.aload_n 0, 1) ∧ decode cX12_plays 169 = .ok (.sipush 360, 3)) ∧ (decode cX12_plays 172 = .ok (.iload_n 1, 1) ∧ decode cX12_plays 173 = .ok (.invokevirtual 198, 3))) ∧ ((decode cX12_plays 176 = .ok (.invokevirtual 237, 3) ∧ decode cX12_plays 179 = .ok (.goto 73, 3)) ∧ (decode cX12_plays 182 = .ok (.iload 13, 2) ∧ decode cX12_plays 184 = .ok (.ifCond .ne 68, 3)))))) ∧ bA cX12_plays 187 fp_scX12_plays_3 :=
  have q0 := fp_o16 (v := 8) fp_hdX12_plays_61.2 rfl
  have q1 := fp_o160 (v := 7) q0.2 rfl
  have q2 := fp_o17 (v := (-9999)) q1.2 rfl
  have q3 := fp_o172 q2.2
  have q4 := fp_o21 q3.2
  have q5 := fp_o21 q4.2
  have q6 := fp_o153 (v := 7) q5.2 rfl
  have q7 := fp_o4 q6.2
  have q8 := fp_o167 (v := 4) q7.2 rfl
  have q9 := fp_o3 q8.2
  have q10 := fp_o100 q9.2
  have q11 := fp_o54 q10.2
  have q12 := fp_o21 q11.2
  have q13 := fp_o21 q12.2
  have q14 := fp_o153 (v := 7) q13.2 rfl
  have q15 := fp_o3 q14.2
  have q16 := fp_o167 (v := 4) q15.2 rfl
  have q17 := fp_o4 q16.2
  have q18 := fp_o100 q17.2
  have q19 := fp_o54 q18.2
  have q20 := fp_o42 q19.2
  have q21 := fp_o17 (v := 360) q20.2 rfl
  have q22 := fp_o16 (v := 10) q21.2 rfl
  have q23 := fp_o27 q22.2
  have q24 := fp_o42 q23.2
  have q25 := fp_o17 (v := 360) q24.2 rfl
  have q26 := fp_o27 q25.2
  have q27 := fp_o182 (v := 198) q26.2 rfl
  have q28 := fp_o182 (v := 237) q27.2 rfl
  have q29 := fp_o167 (v := 73) q28.2 rfl
  have q30 := fp_o21 q29.2
  have q31 := fp_o154 (v := 68) q30.2 rfl
  ⟨⟨⟨⟨⟨⟨q0.1, q1.1⟩, ⟨q2.1, q3.1⟩⟩, ⟨⟨q4.1, q5.1⟩, ⟨q6.1, q7.1⟩⟩⟩, ⟨⟨⟨q8.1, q9.1⟩, ⟨q10.1, q11.1⟩⟩, ⟨⟨q12.1, q13.1⟩, ⟨q14.1, q15.1⟩⟩⟩⟩, ⟨⟨⟨⟨q16.1, q17.1⟩, ⟨q18.1, q19.1⟩⟩, ⟨⟨q20.1, q21.1⟩, ⟨q22.1, q23.1⟩⟩⟩, ⟨⟨⟨q24.1, q25.1⟩, ⟨q26.1, q27.1⟩⟩, ⟨⟨q28.1, q29.1⟩, ⟨q30.1, q31.1⟩⟩⟩⟩⟩, q31.2⟩
theorem dX12_plays_122 : decode cX12_plays 122 = .ok (.bipush 8, 2) := fp_hdX12_plays_122.1.1.1.1.1.1
theorem dX12_plays_124 : decode cX12_plays 124 = .ok (.if_icmp .ne 7, 3) := fp_hdX12_plays_122.1.1.1.1.1.2
theorem dX12_plays_127 : decode cX12_plays 127 = .ok (.sipush (-9999), 3) := fp_hdX12_plays_122.1.1.1.1.2.1
theorem dX12_plays_130 : decode cX12_plays 130 = .ok (.ireturn, 1) := fp_hdX12_plays_122.1.1.1.1.2.2
theorem dX12_plays_131 : decode cX12_plays 131 = .ok (.iload 9, 2) := fp_hdX12_plays_122.1.1.1.2.1.1
theorem dX12_plays_133 : decode cX12_plays 133 = .ok (.iload 12, 2) := fp_hdX12_plays_122.1.1.1.2.1.2
theorem dX12_plays_135 : decode cX12_plays 135 = .ok (.ifCond .eq 7, 3) := fp_hdX12_plays_122.1.1.1.2.2.1
theorem dX12_plays_138 : decode cX12_plays 138 = .ok (.iconst 1, 1) := fp_hdX12_plays_122.1.1.1.2.2.2
theorem dX12_plays_139 : decode cX12_plays 139 = .ok (.goto 4, 3) := fp_hdX12_plays_122.1.1.2.1.1.1
theorem dX12_plays_142 : decode cX12_plays 142 = .ok (.iconst 0, 1) := fp_hdX12_plays_122.1.1.2.1.1.2
theorem dX12_plays_143 : decode cX12_plays 143 = .ok (.isub, 1) := fp_hdX12_plays_122.1.1.2.1.2.1
theorem dX12_plays_144 : decode cX12_plays 144 = .ok (.istore 9, 2) := fp_hdX12_plays_122.1.1.2.1.2.2
theorem dX12_plays_146 : decode cX12_plays 146 = .ok (.iload 10, 2) := fp_hdX12_plays_122.1.1.2.2.1.1
theorem dX12_plays_148 : decode cX12_plays 148 = .ok (.iload 12, 2) := fp_hdX12_plays_122.1.1.2.2.1.2
theorem dX12_plays_150 : decode cX12_plays 150 = .ok (.ifCond .eq 7, 3) := fp_hdX12_plays_122.1.1.2.2.2.1
theorem dX12_plays_153 : decode cX12_plays 153 = .ok (.iconst 0, 1) := fp_hdX12_plays_122.1.1.2.2.2.2
theorem dX12_plays_154 : decode cX12_plays 154 = .ok (.goto 4, 3) := fp_hdX12_plays_122.1.2.1.1.1.1
theorem dX12_plays_157 : decode cX12_plays 157 = .ok (.iconst 1, 1) := fp_hdX12_plays_122.1.2.1.1.1.2
theorem dX12_plays_158 : decode cX12_plays 158 = .ok (.isub, 1) := fp_hdX12_plays_122.1.2.1.1.2.1
theorem dX12_plays_159 : decode cX12_plays 159 = .ok (.istore 10, 2) := fp_hdX12_plays_122.1.2.1.1.2.2
theorem dX12_plays_161 : decode cX12_plays 161 = .ok (.aload_n 0, 1) := fp_hdX12_plays_122.1.2.1.2.1.1
theorem dX12_plays_162 : decode cX12_plays 162 = .ok (.sipush 360, 3) := fp_hdX12_plays_122.1.2.1.2.1.2
theorem dX12_plays_165 : decode cX12_plays 165 = .ok (.bipush 10, 2) := fp_hdX12_plays_122.1.2.1.2.2.1
theorem dX12_plays_167 : decode cX12_plays 167 = .ok (.iload_n 1, 1) := fp_hdX12_plays_122.1.2.1.2.2.2
theorem dX12_plays_168 : decode cX12_plays 168 = .ok (.aload_n 0, 1) := fp_hdX12_plays_122.1.2.2.1.1.1
theorem dX12_plays_169 : decode cX12_plays 169 = .ok (.sipush 360, 3) := fp_hdX12_plays_122.1.2.2.1.1.2
theorem dX12_plays_172 : decode cX12_plays 172 = .ok (.iload_n 1, 1) := fp_hdX12_plays_122.1.2.2.1.2.1
theorem dX12_plays_173 : decode cX12_plays 173 = .ok (.invokevirtual 198, 3) := fp_hdX12_plays_122.1.2.2.1.2.2
theorem dX12_plays_176 : decode cX12_plays 176 = .ok (.invokevirtual 237, 3) := fp_hdX12_plays_122.1.2.2.2.1.1
theorem dX12_plays_179 : decode cX12_plays 179 = .ok (.goto 73, 3) := fp_hdX12_plays_122.1.2.2.2.1.2
theorem dX12_plays_182 : decode cX12_plays 182 = .ok (.iload 13, 2) := fp_hdX12_plays_122.1.2.2.2.2.1
theorem dX12_plays_184 : decode cX12_plays 184 = .ok (.ifCond .ne 68, 3) := fp_hdX12_plays_122.1.2.2.2.2.2
theorem fp_hdX12_plays_187 : (((((decode cX12_plays 187 = .ok (.aload_n 0, 1) ∧ decode cX12_plays 188 = .ok (.sipush 360, 3)) ∧ (decode cX12_plays 191 = .ok (.iload_n 1, 1) ∧ decode cX12_plays 192 = .ok (.invokevirtual 198, 3))) ∧ ((decode cX12_plays 195 = .ok (.ifCond .le 57, 3) ∧ decode cX12_plays 198 = .ok (.aload_n 0, 1)) ∧ (decode cX12_plays 199 = .ok (.sipush 360, 3) ∧ decode cX12_plays 202 = .ok (.iload_n 1, 1)))) ∧ (((decode cX12_plays 203 = .ok (.aload_n 0, 1) ∧ decode cX12_plays 204 = .ok (.sipush 360, 3)) ∧ (decode cX12_plays 207 = .ok (.iload_n 1, 1) ∧ decode cX12_plays 208 = .ok (.invokevirtual 216, 3))) ∧ ((decode cX12_plays 211 = .ok (.invokevirtual 241, 3) ∧ decode cX12_plays 214 = .ok (.istore 14, 2)) ∧ (decode cX12_plays 216 = .ok (.iload 8, 2) ∧ decode cX12_plays 218 = .ok (.iload 12, 2))))) ∧ ((((decode cX12_plays 220 = .ok (.ifCond .eq 17, 3) ∧ decode cX12_plays 223 = .ok (.aload_n 0, 1)) ∧ (decode cX12_plays 224 = .ok (.getfield 16, 3) ∧ decode cX12_plays 227 = .ok (.iconst 4, 1))) ∧ ((decode cX12_plays 228 = .ok (.iload 14, 2) ∧ decode cX12_plays 230 = .ok (.imul, 1)) ∧ (decode cX12_plays 231 = .ok (.iload_n 2, 1) ∧ decode cX12_plays 232 = .ok (.iadd, 1)))) ∧ (((decode cX12_plays 233 = .ok (.iaload, 1) ∧ decode cX12_plays 234 = .ok (.goto 15, 3)) ∧ (decode cX12_plays 237 = .ok (.aload_n 0, 1) ∧ decode cX12_plays 238 = .ok (.getfield 16, 3))) ∧ ((decode cX12_plays 241 = .ok (.iconst 4, 1) ∧ decode cX12_plays 242 = .ok (.iload 14, 2)) ∧ (decode cX12_plays 244 = .ok (.imul, 1) ∧ decode cX12_plays 245 = .ok (.iload_n 3, 1)))))) ∧ bA cX12_plays 246 fp_scX12_plays_4 :=
  have q0 := fp_o42 fp_hdX12_plays_122.2
  have q1 := fp_o17 (v := 360) q0.2 rfl
  have q2 := fp_o27 q1.2
  have q3 := fp_o182 (v := 198) q2.2 rfl
  have q4 := fp_o158 (v := 57) q3.2 rfl
  have q5 := fp_o42 q4.2
  have q6 := fp_o17 (v := 360) q5.2 rfl
  have q7 := fp_o27 q6.2
  have q8 := fp_o42 q7.2
  have q9 := fp_o17 (v := 360) q8.2 rfl
  have q10 := fp_o27 q9.2
  have q11 := fp_o182 (v := 216) q10.2 rfl
  have q12 := fp_o182 (v := 241) q11.2 rfl
  have q13 := fp_o54 q12.2
  have q14 := fp_o21 q13.2
  have q15 := fp_o21 q14.2
  have q16 := fp_o153 (v := 17) q15.2 rfl
  have q17 := fp_o42 q16.2
  have q18 := fp_o180 (v := 16) q17.2 rfl
  have q19 := fp_o7 q18.2
  have q20 := fp_o21 q19.2
  have q21 := fp_o104 q20.2
  have q22 := fp_o28 q21.2
  have q23 := fp_o96 q22.2
  have q24 := fp_o46 q23.2
  have q25 := fp_o167 (v := 15) q24.2 rfl
  have q26 := fp_o42 q25.2
  have q27 := fp_o180 (v := 16) q26.2 rfl
  have q28 := fp_o7 q27.2
  have q29 := fp_o21 q28.2
  have q30 := fp_o104 q29.2
  have q31 := fp_o29 q30.2
  ⟨⟨⟨⟨⟨⟨q0.1, q1.1⟩, ⟨q2.1, q3.1⟩⟩, ⟨⟨q4.1, q5.1⟩, ⟨q6.1, q7.1⟩⟩⟩, ⟨⟨⟨q8.1, q9.1⟩, ⟨q10.1, q11.1⟩⟩, ⟨⟨q12.1, q13.1⟩, ⟨q14.1, q15.1⟩⟩⟩⟩, ⟨⟨⟨⟨q16.1, q17.1⟩, ⟨q18.1, q19.1⟩⟩, ⟨⟨q20.1, q21.1⟩, ⟨q22.1, q23.1⟩⟩⟩, ⟨⟨⟨q24.1, q25.1⟩, ⟨q26.1, q27.1⟩⟩, ⟨⟨q28.1, q29.1⟩, ⟨q30.1, q31.1⟩⟩⟩⟩⟩, q31.2⟩
theorem dX12_plays_187 : decode cX12_plays 187 = .ok (.aload_n 0, 1) := fp_hdX12_plays_187.1.1.1.1.1.1
theorem dX12_plays_188 : decode cX12_plays 188 = .ok (.sipush 360, 3) := fp_hdX12_plays_187.1.1.1.1.1.2
theorem dX12_plays_191 : decode cX12_plays 191 = .ok (.iload_n 1, 1) := fp_hdX12_plays_187.1.1.1.1.2.1
theorem dX12_plays_192 : decode cX12_plays 192 = .ok (.invokevirtual 198, 3) := fp_hdX12_plays_187.1.1.1.1.2.2
theorem dX12_plays_195 : decode cX12_plays 195 = .ok (.ifCond .le 57, 3) := fp_hdX12_plays_187.1.1.1.2.1.1
theorem dX12_plays_198 : decode cX12_plays 198 = .ok (.aload_n 0, 1) := fp_hdX12_plays_187.1.1.1.2.1.2
theorem dX12_plays_199 : decode cX12_plays 199 = .ok (.sipush 360, 3) := fp_hdX12_plays_187.1.1.1.2.2.1
theorem dX12_plays_202 : decode cX12_plays 202 = .ok (.iload_n 1, 1) := fp_hdX12_plays_187.1.1.1.2.2.2
theorem dX12_plays_203 : decode cX12_plays 203 = .ok (.aload_n 0, 1) := fp_hdX12_plays_187.1.1.2.1.1.1
theorem dX12_plays_204 : decode cX12_plays 204 = .ok (.sipush 360, 3) := fp_hdX12_plays_187.1.1.2.1.1.2
theorem dX12_plays_207 : decode cX12_plays 207 = .ok (.iload_n 1, 1) := fp_hdX12_plays_187.1.1.2.1.2.1
theorem dX12_plays_208 : decode cX12_plays 208 = .ok (.invokevirtual 216, 3) := fp_hdX12_plays_187.1.1.2.1.2.2
theorem dX12_plays_211 : decode cX12_plays 211 = .ok (.invokevirtual 241, 3) := fp_hdX12_plays_187.1.1.2.2.1.1
theorem dX12_plays_214 : decode cX12_plays 214 = .ok (.istore 14, 2) := fp_hdX12_plays_187.1.1.2.2.1.2
theorem dX12_plays_216 : decode cX12_plays 216 = .ok (.iload 8, 2) := fp_hdX12_plays_187.1.1.2.2.2.1
theorem dX12_plays_218 : decode cX12_plays 218 = .ok (.iload 12, 2) := fp_hdX12_plays_187.1.1.2.2.2.2
theorem dX12_plays_220 : decode cX12_plays 220 = .ok (.ifCond .eq 17, 3) := fp_hdX12_plays_187.1.2.1.1.1.1
theorem dX12_plays_223 : decode cX12_plays 223 = .ok (.aload_n 0, 1) := fp_hdX12_plays_187.1.2.1.1.1.2
theorem dX12_plays_224 : decode cX12_plays 224 = .ok (.getfield 16, 3) := fp_hdX12_plays_187.1.2.1.1.2.1
theorem dX12_plays_227 : decode cX12_plays 227 = .ok (.iconst 4, 1) := fp_hdX12_plays_187.1.2.1.1.2.2
theorem dX12_plays_228 : decode cX12_plays 228 = .ok (.iload 14, 2) := fp_hdX12_plays_187.1.2.1.2.1.1
theorem dX12_plays_230 : decode cX12_plays 230 = .ok (.imul, 1) := fp_hdX12_plays_187.1.2.1.2.1.2
theorem dX12_plays_231 : decode cX12_plays 231 = .ok (.iload_n 2, 1) := fp_hdX12_plays_187.1.2.1.2.2.1
theorem dX12_plays_232 : decode cX12_plays 232 = .ok (.iadd, 1) := fp_hdX12_plays_187.1.2.1.2.2.2
theorem dX12_plays_233 : decode cX12_plays 233 = .ok (.iaload, 1) := fp_hdX12_plays_187.1.2.2.1.1.1
theorem dX12_plays_234 : decode cX12_plays 234 = .ok (.goto 15, 3) := fp_hdX12_plays_187.1.2.2.1.1.2
theorem dX12_plays_237 : decode cX12_plays 237 = .ok (.aload_n 0, 1) := fp_hdX12_plays_187.1.2.2.1.2.1
theorem dX12_plays_238 : decode cX12_plays 238 = .ok (.getfield 16, 3) := fp_hdX12_plays_187.1.2.2.1.2.2
theorem dX12_plays_241 : decode cX12_plays 241 = .ok (.iconst 4, 1) := fp_hdX12_plays_187.1.2.2.2.1.1
theorem dX12_plays_242 : decode cX12_plays 242 = .ok (.iload 14, 2) := fp_hdX12_plays_187.1.2.2.2.1.2
theorem dX12_plays_244 : decode cX12_plays 244 = .ok (.imul, 1) := fp_hdX12_plays_187.1.2.2.2.2.1
theorem dX12_plays_245 : decode cX12_plays 245 = .ok (.iload_n 3, 1) := fp_hdX12_plays_187.1.2.2.2.2.2
theorem fp_hdX12_plays_246 : ((((decode cX12_plays 246 = .ok (.iadd, 1) ∧ decode cX12_plays 247 = .ok (.iaload, 1)) ∧ decode cX12_plays 248 = .ok (.ineg, 1)) ∧ (decode cX12_plays 249 = .ok (.iadd, 1) ∧ decode cX12_plays 250 = .ok (.istore 8, 2))) ∧ ((decode cX12_plays 252 = .ok (.iinc 11 1, 3) ∧ decode cX12_plays 255 = .ok (.goto (-208), 3)) ∧ (decode cX12_plays 258 = .ok (.iload 8, 2) ∧ decode cX12_plays 260 = .ok (.ireturn, 1)))) ∧ bA cX12_plays 261 [] :=
  have q0 := fp_o96 fp_hdX12_plays_187.2
  have q1 := fp_o46 q0.2
  have q2 := fp_o116 q1.2
  have q3 := fp_o96 q2.2
  have q4 := fp_o54 q3.2
  have q5 := fp_o132 (v := 1) q4.2 rfl
  have q6 := fp_o167 (v := (-208)) q5.2 rfl
  have q7 := fp_o21 q6.2
  have q8 := fp_o172 q7.2
  ⟨⟨⟨⟨⟨q0.1, q1.1⟩, q2.1⟩, ⟨q3.1, q4.1⟩⟩, ⟨⟨q5.1, q6.1⟩, ⟨q7.1, q8.1⟩⟩⟩, q8.2⟩
theorem dX12_plays_246 : decode cX12_plays 246 = .ok (.iadd, 1) := fp_hdX12_plays_246.1.1.1.1.1
theorem dX12_plays_247 : decode cX12_plays 247 = .ok (.iaload, 1) := fp_hdX12_plays_246.1.1.1.1.2
theorem dX12_plays_248 : decode cX12_plays 248 = .ok (.ineg, 1) := fp_hdX12_plays_246.1.1.1.2
theorem dX12_plays_249 : decode cX12_plays 249 = .ok (.iadd, 1) := fp_hdX12_plays_246.1.1.2.1
theorem dX12_plays_250 : decode cX12_plays 250 = .ok (.istore 8, 2) := fp_hdX12_plays_246.1.1.2.2
theorem dX12_plays_252 : decode cX12_plays 252 = .ok (.iinc 11 1, 3) := fp_hdX12_plays_246.1.2.1.1
theorem dX12_plays_255 : decode cX12_plays 255 = .ok (.goto (-208), 3) := fp_hdX12_plays_246.1.2.1.2
theorem dX12_plays_258 : decode cX12_plays 258 = .ok (.iload 8, 2) := fp_hdX12_plays_246.1.2.2.1
theorem dX12_plays_260 : decode cX12_plays 260 = .ok (.ireturn, 1) := fp_hdX12_plays_246.1.2.2.2
def fp_scX12_duel_4 : List Nat := 153 :: 0 :: 8 :: 21 :: 14 :: 167 :: 0 :: 5 :: 21 :: 11 :: 54 :: 11 :: 132 :: 13 :: 1 :: 167 :: 255 :: 158 :: 42 :: 180 :: 0 :: 60 :: 21 :: 10 :: 21 :: 11 :: 79 :: 21 :: 12 :: 54 :: 8 :: 132 :: 10 :: 1 :: 167 :: 255 :: 121 :: 132 :: 9 :: 255 :: 167 :: 255 :: 101 :: 21 :: 6 :: 154 :: 0 :: 16 :: 17 :: 3 :: 232 :: 42 :: 180 :: 0 :: 60 :: 3 :: 46 :: 96 :: 167 :: 0 :: 5 :: 21 :: 8 :: 172 :: []
def fp_scX12_duel_3 : List Nat := 21 :: 13 :: 96 :: 46 :: 54 :: 14 :: 21 :: 14 :: 17 :: 216 :: 241 :: 159 :: 0 :: 39 :: 21 :: 11 :: 17 :: 216 :: 241 :: 159 :: 0 :: 27 :: 21 :: 9 :: 5 :: 112 :: 154 :: 0 :: 13 :: 21 :: 14 :: 21 :: 11 :: 164 :: 0 :: 17 :: 167 :: 0 :: 10 :: 21 :: 14 :: 21 :: 11 :: 162 :: 0 :: 7 :: 4 :: 167 :: 0 :: 4 :: 3 :: 54 :: 15 :: 21 :: 15 :: 153 :: 0 :: 8 :: 21 :: 13 :: 167 :: 0 :: 5 :: 21 :: 12 :: 54 :: 12 :: 21 :: 15 :: fp_scX12_duel_4
def fp_scX12_duel_2 : List Nat := 167 :: 255 :: 226 :: 3 :: 54 :: 8 :: 21 :: 5 :: 4 :: 100 :: 54 :: 9 :: 21 :: 9 :: 155 :: 0 :: 156 :: 21 :: 7 :: 6 :: 108 :: 54 :: 7 :: 3 :: 54 :: 10 :: 21 :: 10 :: 21 :: 7 :: 162 :: 0 :: 134 :: 17 :: 216 :: 241 :: 54 :: 11 :: 3 :: 54 :: 12 :: 3 :: 54 :: 13 :: 21 :: 13 :: 6 :: 162 :: 0 :: 98 :: 42 :: 180 :: 0 :: 60 :: 6 :: 21 :: 10 :: 104 :: fp_scX12_duel_3
def fp_scX12_duel_1 : List Nat := 172 :: 4 :: 54 :: 7 :: 3 :: 54 :: 8 :: 21 :: 8 :: 21 :: 5 :: 162 :: 0 :: 15 :: 21 :: 7 :: 6 :: 104 :: 54 :: 7 :: 132 :: 8 :: 1 :: 167 :: 255 :: 240 :: 3 :: 54 :: 8 :: 21 :: 8 :: 21 :: 7 :: 162 :: 0 :: 29 :: 42 :: 180 :: 0 :: 60 :: 21 :: 8 :: 42 :: 27 :: 28 :: 29 :: 21 :: 4 :: 21 :: 5 :: 21 :: 8 :: 182 :: 1 :: 50 :: 79 :: 132 :: 8 :: 1 :: fp_scX12_duel_2
def fp_scX12_duel_0 : List Nat := 42 :: 27 :: 182 :: 0 :: 219 :: 153 :: 0 :: 59 :: 28 :: 184 :: 0 :: 228 :: 153 :: 0 :: 52 :: 29 :: 184 :: 0 :: 228 :: 153 :: 0 :: 45 :: 28 :: 29 :: 159 :: 0 :: 40 :: 21 :: 4 :: 133 :: 9 :: 20 :: 1 :: 15 :: 184 :: 0 :: 94 :: 153 :: 0 :: 27 :: 21 :: 5 :: 133 :: 10 :: 20 :: 1 :: 48 :: 184 :: 0 :: 94 :: 153 :: 0 :: 14 :: 21 :: 6 :: 133 :: 9 :: 10 :: 184 :: 0 :: 94 :: 154 :: 0 :: 5 :: 2 :: fp_scX12_duel_1
theorem fp_bcX12_duel : bA cX12_duel 0 fp_scX12_duel_0 := show cX12_duel.data.toList.map UInt8.toNat = fp_scX12_duel_0 from by decide +kernel
theorem fp_hdX12_duel_0 : (((((decode cX12_duel 0 = .ok (.aload_n 0, 1) ∧ decode cX12_duel 1 = .ok (.iload_n 1, 1)) ∧ (decode cX12_duel 2 = .ok (.invokevirtual 219, 3) ∧ decode cX12_duel 5 = .ok (.ifCond .eq 59, 3))) ∧ ((decode cX12_duel 8 = .ok (.iload_n 2, 1) ∧ decode cX12_duel 9 = .ok (.invokestatic 228, 3)) ∧ (decode cX12_duel 12 = .ok (.ifCond .eq 52, 3) ∧ decode cX12_duel 15 = .ok (.iload_n 3, 1)))) ∧ (((decode cX12_duel 16 = .ok (.invokestatic 228, 3) ∧ decode cX12_duel 19 = .ok (.ifCond .eq 45, 3)) ∧ (decode cX12_duel 22 = .ok (.iload_n 2, 1) ∧ decode cX12_duel 23 = .ok (.iload_n 3, 1))) ∧ ((decode cX12_duel 24 = .ok (.if_icmp .eq 40, 3) ∧ decode cX12_duel 27 = .ok (.iload 4, 2)) ∧ (decode cX12_duel 29 = .ok (.i2l, 1) ∧ decode cX12_duel 30 = .ok (.lconst 0, 1))))) ∧ ((((decode cX12_duel 31 = .ok (.ldc2_w 271, 3) ∧ decode cX12_duel 34 = .ok (.invokestatic 94, 3)) ∧ (decode cX12_duel 37 = .ok (.ifCond .eq 27, 3) ∧ decode cX12_duel 40 = .ok (.iload 5, 2))) ∧ ((decode cX12_duel 42 = .ok (.i2l, 1) ∧ decode cX12_duel 43 = .ok (.lconst 1, 1)) ∧ (decode cX12_duel 44 = .ok (.ldc2_w 304, 3) ∧ decode cX12_duel 47 = .ok (.invokestatic 94, 3)))) ∧ (((decode cX12_duel 50 = .ok (.ifCond .eq 14, 3) ∧ decode cX12_duel 53 = .ok (.iload 6, 2)) ∧ (decode cX12_duel 55 = .ok (.i2l, 1) ∧ decode cX12_duel 56 = .ok (.lconst 0, 1))) ∧ ((decode cX12_duel 57 = .ok (.lconst 1, 1) ∧ decode cX12_duel 58 = .ok (.invokestatic 94, 3)) ∧ (decode cX12_duel 61 = .ok (.ifCond .ne 5, 3) ∧ decode cX12_duel 64 = .ok (.iconst (-1), 1)))))) ∧ bA cX12_duel 65 fp_scX12_duel_1 :=
  have q0 := fp_o42 fp_bcX12_duel
  have q1 := fp_o27 q0.2
  have q2 := fp_o182 (v := 219) q1.2 rfl
  have q3 := fp_o153 (v := 59) q2.2 rfl
  have q4 := fp_o28 q3.2
  have q5 := fp_o184 (v := 228) q4.2 rfl
  have q6 := fp_o153 (v := 52) q5.2 rfl
  have q7 := fp_o29 q6.2
  have q8 := fp_o184 (v := 228) q7.2 rfl
  have q9 := fp_o153 (v := 45) q8.2 rfl
  have q10 := fp_o28 q9.2
  have q11 := fp_o29 q10.2
  have q12 := fp_o159 (v := 40) q11.2 rfl
  have q13 := fp_o21 q12.2
  have q14 := fp_o133 q13.2
  have q15 := fp_o9 q14.2
  have q16 := fp_o20 (v := 271) q15.2 rfl
  have q17 := fp_o184 (v := 94) q16.2 rfl
  have q18 := fp_o153 (v := 27) q17.2 rfl
  have q19 := fp_o21 q18.2
  have q20 := fp_o133 q19.2
  have q21 := fp_o10 q20.2
  have q22 := fp_o20 (v := 304) q21.2 rfl
  have q23 := fp_o184 (v := 94) q22.2 rfl
  have q24 := fp_o153 (v := 14) q23.2 rfl
  have q25 := fp_o21 q24.2
  have q26 := fp_o133 q25.2
  have q27 := fp_o9 q26.2
  have q28 := fp_o10 q27.2
  have q29 := fp_o184 (v := 94) q28.2 rfl
  have q30 := fp_o154 (v := 5) q29.2 rfl
  have q31 := fp_o2 q30.2
  ⟨⟨⟨⟨⟨⟨q0.1, q1.1⟩, ⟨q2.1, q3.1⟩⟩, ⟨⟨q4.1, q5.1⟩, ⟨q6.1, q7.1⟩⟩⟩, ⟨⟨⟨q8.1, q9.1⟩, ⟨q10.1, q11.1⟩⟩, ⟨⟨q12.1, q13.1⟩, ⟨q14.1, q15.1⟩⟩⟩⟩, ⟨⟨⟨⟨q16.1, q17.1⟩, ⟨q18.1, q19.1⟩⟩, ⟨⟨q20.1, q21.1⟩, ⟨q22.1, q23.1⟩⟩⟩, ⟨⟨⟨q24.1, q25.1⟩, ⟨q26.1, q27.1⟩⟩, ⟨⟨q28.1, q29.1⟩, ⟨q30.1, q31.1⟩⟩⟩⟩⟩, q31.2⟩
theorem dX12_duel_0 : decode cX12_duel 0 = .ok (.aload_n 0, 1) := fp_hdX12_duel_0.1.1.1.1.1.1
theorem dX12_duel_1 : decode cX12_duel 1 = .ok (.iload_n 1, 1) := fp_hdX12_duel_0.1.1.1.1.1.2
theorem dX12_duel_2 : decode cX12_duel 2 = .ok (.invokevirtual 219, 3) := fp_hdX12_duel_0.1.1.1.1.2.1
theorem dX12_duel_5 : decode cX12_duel 5 = .ok (.ifCond .eq 59, 3) := fp_hdX12_duel_0.1.1.1.1.2.2
theorem dX12_duel_8 : decode cX12_duel 8 = .ok (.iload_n 2, 1) := fp_hdX12_duel_0.1.1.1.2.1.1
theorem dX12_duel_9 : decode cX12_duel 9 = .ok (.invokestatic 228, 3) := fp_hdX12_duel_0.1.1.1.2.1.2
theorem dX12_duel_12 : decode cX12_duel 12 = .ok (.ifCond .eq 52, 3) := fp_hdX12_duel_0.1.1.1.2.2.1
theorem dX12_duel_15 : decode cX12_duel 15 = .ok (.iload_n 3, 1) := fp_hdX12_duel_0.1.1.1.2.2.2
theorem dX12_duel_16 : decode cX12_duel 16 = .ok (.invokestatic 228, 3) := fp_hdX12_duel_0.1.1.2.1.1.1
theorem dX12_duel_19 : decode cX12_duel 19 = .ok (.ifCond .eq 45, 3) := fp_hdX12_duel_0.1.1.2.1.1.2
theorem dX12_duel_22 : decode cX12_duel 22 = .ok (.iload_n 2, 1) := fp_hdX12_duel_0.1.1.2.1.2.1
theorem dX12_duel_23 : decode cX12_duel 23 = .ok (.iload_n 3, 1) := fp_hdX12_duel_0.1.1.2.1.2.2
theorem dX12_duel_24 : decode cX12_duel 24 = .ok (.if_icmp .eq 40, 3) := fp_hdX12_duel_0.1.1.2.2.1.1
theorem dX12_duel_27 : decode cX12_duel 27 = .ok (.iload 4, 2) := fp_hdX12_duel_0.1.1.2.2.1.2
theorem dX12_duel_29 : decode cX12_duel 29 = .ok (.i2l, 1) := fp_hdX12_duel_0.1.1.2.2.2.1
theorem dX12_duel_30 : decode cX12_duel 30 = .ok (.lconst 0, 1) := fp_hdX12_duel_0.1.1.2.2.2.2
theorem dX12_duel_31 : decode cX12_duel 31 = .ok (.ldc2_w 271, 3) := fp_hdX12_duel_0.1.2.1.1.1.1
theorem dX12_duel_34 : decode cX12_duel 34 = .ok (.invokestatic 94, 3) := fp_hdX12_duel_0.1.2.1.1.1.2
theorem dX12_duel_37 : decode cX12_duel 37 = .ok (.ifCond .eq 27, 3) := fp_hdX12_duel_0.1.2.1.1.2.1
theorem dX12_duel_40 : decode cX12_duel 40 = .ok (.iload 5, 2) := fp_hdX12_duel_0.1.2.1.1.2.2
theorem dX12_duel_42 : decode cX12_duel 42 = .ok (.i2l, 1) := fp_hdX12_duel_0.1.2.1.2.1.1
theorem dX12_duel_43 : decode cX12_duel 43 = .ok (.lconst 1, 1) := fp_hdX12_duel_0.1.2.1.2.1.2
theorem dX12_duel_44 : decode cX12_duel 44 = .ok (.ldc2_w 304, 3) := fp_hdX12_duel_0.1.2.1.2.2.1
theorem dX12_duel_47 : decode cX12_duel 47 = .ok (.invokestatic 94, 3) := fp_hdX12_duel_0.1.2.1.2.2.2
theorem dX12_duel_50 : decode cX12_duel 50 = .ok (.ifCond .eq 14, 3) := fp_hdX12_duel_0.1.2.2.1.1.1
theorem dX12_duel_53 : decode cX12_duel 53 = .ok (.iload 6, 2) := fp_hdX12_duel_0.1.2.2.1.1.2
theorem dX12_duel_55 : decode cX12_duel 55 = .ok (.i2l, 1) := fp_hdX12_duel_0.1.2.2.1.2.1
theorem dX12_duel_56 : decode cX12_duel 56 = .ok (.lconst 0, 1) := fp_hdX12_duel_0.1.2.2.1.2.2
theorem dX12_duel_57 : decode cX12_duel 57 = .ok (.lconst 1, 1) := fp_hdX12_duel_0.1.2.2.2.1.1
theorem dX12_duel_58 : decode cX12_duel 58 = .ok (.invokestatic 94, 3) := fp_hdX12_duel_0.1.2.2.2.1.2
theorem dX12_duel_61 : decode cX12_duel 61 = .ok (.ifCond .ne 5, 3) := fp_hdX12_duel_0.1.2.2.2.2.1
theorem dX12_duel_64 : decode cX12_duel 64 = .ok (.iconst (-1), 1) := fp_hdX12_duel_0.1.2.2.2.2.2
theorem fp_hdX12_duel_65 : (((((decode cX12_duel 65 = .ok (.ireturn, 1) ∧ decode cX12_duel 66 = .ok (.iconst 1, 1)) ∧ (decode cX12_duel 67 = .ok (.istore 7, 2) ∧ decode cX12_duel 69 = .ok (.iconst 0, 1))) ∧ ((decode cX12_duel 70 = .ok (.istore 8, 2) ∧ decode cX12_duel 72 = .ok (.iload 8, 2)) ∧ (decode cX12_duel 74 = .ok (.iload 5, 2) ∧ decode cX12_duel 76 = .ok (.if_icmp .ge 15, 3)))) ∧ (((decode cX12_duel 79 = .ok (.iload 7, 2) ∧ decode cX12_duel 81 = .ok (.iconst 3, 1)) ∧ (decode cX12_duel 82 = .ok (.imul, 1) ∧ decode cX12_duel 83 = .ok (.istore 7, 2))) ∧ ((decode cX12_duel 85 = .ok (.iinc 8 1, 3) ∧ decode cX12_duel 88 = .ok (.goto (-16), 3)) ∧ (decode cX12_duel 91 = .ok (.iconst 0, 1) ∧ decode cX12_duel 92 = .ok (.istore 8, 2))))) ∧ ((((decode cX12_duel 94 = .ok (.iload 8, 2) ∧ decode cX12_duel 96 = .ok (.iload 7, 2)) ∧ (decode cX12_duel 98 = .ok (.if_icmp .ge 29, 3) ∧ decode cX12_duel 101 = .ok (.aload_n 0, 1))) ∧ ((decode cX12_duel 102 = .ok (.getfield 60, 3) ∧ decode cX12_duel 105 = .ok (.iload 8, 2)) ∧ (decode cX12_duel 107 = .ok (.aload_n 0, 1) ∧ decode cX12_duel 108 = .ok (.iload_n 1, 1)))) ∧ (((decode cX12_duel 109 = .ok (.iload_n 2, 1) ∧ decode cX12_duel 110 = .ok (.iload_n 3, 1)) ∧ (decode cX12_duel 111 = .ok (.iload 4, 2) ∧ decode cX12_duel 113 = .ok (.iload 5, 2))) ∧ ((decode cX12_duel 115 = .ok (.iload 8, 2) ∧ decode cX12_duel 117 = .ok (.invokevirtual 306, 3)) ∧ (decode cX12_duel 120 = .ok (.iastore, 1) ∧ decode cX12_duel 121 = .ok (.iinc 8 1, 3)))))) ∧ bA cX12_duel 124 fp_scX12_duel_2 :=
  have q0 := fp_o172 fp_hdX12_duel_0.2
  have q1 := fp_o4 q0.2
  have q2 := fp_o54 q1.2
  have q3 := fp_o3 q2.2
  have q4 := fp_o54 q3.2
  have q5 := fp_o21 q4.2
  have q6 := fp_o21 q5.2
  have q7 := fp_o162 (v := 15) q6.2 rfl
  have q8 := fp_o21 q7.2
  have q9 := fp_o6 q8.2
  have q10 := fp_o104 q9.2
  have q11 := fp_o54 q10.2
  have q12 := fp_o132 (v := 1) q11.2 rfl
  have q13 := fp_o167 (v := (-16)) q12.2 rfl
  have q14 := fp_o3 q13.2
  have q15 := fp_o54 q14.2
  have q16 := fp_o21 q15.2
  have q17 := fp_o21 q16.2
  have q18 := fp_o162 (v := 29) q17.2 rfl
  have q19 := fp_o42 q18.2
  have q20 := fp_o180 (v := 60) q19.2 rfl
  have q21 := fp_o21 q20.2
  have q22 := fp_o42 q21.2
  have q23 := fp_o27 q22.2
  have q24 := fp_o28 q23.2
  have q25 := fp_o29 q24.2
  have q26 := fp_o21 q25.2
  have q27 := fp_o21 q26.2
  have q28 := fp_o21 q27.2
  have q29 := fp_o182 (v := 306) q28.2 rfl
  have q30 := fp_o79 q29.2
  have q31 := fp_o132 (v := 1) q30.2 rfl
  ⟨⟨⟨⟨⟨⟨q0.1, q1.1⟩, ⟨q2.1, q3.1⟩⟩, ⟨⟨q4.1, q5.1⟩, ⟨q6.1, q7.1⟩⟩⟩, ⟨⟨⟨q8.1, q9.1⟩, ⟨q10.1, q11.1⟩⟩, ⟨⟨q12.1, q13.1⟩, ⟨q14.1, q15.1⟩⟩⟩⟩, ⟨⟨⟨⟨q16.1, q17.1⟩, ⟨q18.1, q19.1⟩⟩, ⟨⟨q20.1, q21.1⟩, ⟨q22.1, q23.1⟩⟩⟩, ⟨⟨⟨q24.1, q25.1⟩, ⟨q26.1, q27.1⟩⟩, ⟨⟨q28.1, q29.1⟩, ⟨q30.1, q31.1⟩⟩⟩⟩⟩, q31.2⟩
theorem dX12_duel_65 : decode cX12_duel 65 = .ok (.ireturn, 1) := fp_hdX12_duel_65.1.1.1.1.1.1
theorem dX12_duel_66 : decode cX12_duel 66 = .ok (.iconst 1, 1) := fp_hdX12_duel_65.1.1.1.1.1.2
theorem dX12_duel_67 : decode cX12_duel 67 = .ok (.istore 7, 2) := fp_hdX12_duel_65.1.1.1.1.2.1
theorem dX12_duel_69 : decode cX12_duel 69 = .ok (.iconst 0, 1) := fp_hdX12_duel_65.1.1.1.1.2.2
theorem dX12_duel_70 : decode cX12_duel 70 = .ok (.istore 8, 2) := fp_hdX12_duel_65.1.1.1.2.1.1
theorem dX12_duel_72 : decode cX12_duel 72 = .ok (.iload 8, 2) := fp_hdX12_duel_65.1.1.1.2.1.2
theorem dX12_duel_74 : decode cX12_duel 74 = .ok (.iload 5, 2) := fp_hdX12_duel_65.1.1.1.2.2.1
theorem dX12_duel_76 : decode cX12_duel 76 = .ok (.if_icmp .ge 15, 3) := fp_hdX12_duel_65.1.1.1.2.2.2
theorem dX12_duel_79 : decode cX12_duel 79 = .ok (.iload 7, 2) := fp_hdX12_duel_65.1.1.2.1.1.1
theorem dX12_duel_81 : decode cX12_duel 81 = .ok (.iconst 3, 1) := fp_hdX12_duel_65.1.1.2.1.1.2
theorem dX12_duel_82 : decode cX12_duel 82 = .ok (.imul, 1) := fp_hdX12_duel_65.1.1.2.1.2.1
theorem dX12_duel_83 : decode cX12_duel 83 = .ok (.istore 7, 2) := fp_hdX12_duel_65.1.1.2.1.2.2
theorem dX12_duel_85 : decode cX12_duel 85 = .ok (.iinc 8 1, 3) := fp_hdX12_duel_65.1.1.2.2.1.1
theorem dX12_duel_88 : decode cX12_duel 88 = .ok (.goto (-16), 3) := fp_hdX12_duel_65.1.1.2.2.1.2
theorem dX12_duel_91 : decode cX12_duel 91 = .ok (.iconst 0, 1) := fp_hdX12_duel_65.1.1.2.2.2.1
theorem dX12_duel_92 : decode cX12_duel 92 = .ok (.istore 8, 2) := fp_hdX12_duel_65.1.1.2.2.2.2
theorem dX12_duel_94 : decode cX12_duel 94 = .ok (.iload 8, 2) := fp_hdX12_duel_65.1.2.1.1.1.1
theorem dX12_duel_96 : decode cX12_duel 96 = .ok (.iload 7, 2) := fp_hdX12_duel_65.1.2.1.1.1.2
theorem dX12_duel_98 : decode cX12_duel 98 = .ok (.if_icmp .ge 29, 3) := fp_hdX12_duel_65.1.2.1.1.2.1
theorem dX12_duel_101 : decode cX12_duel 101 = .ok (.aload_n 0, 1) := fp_hdX12_duel_65.1.2.1.1.2.2
theorem dX12_duel_102 : decode cX12_duel 102 = .ok (.getfield 60, 3) := fp_hdX12_duel_65.1.2.1.2.1.1
theorem dX12_duel_105 : decode cX12_duel 105 = .ok (.iload 8, 2) := fp_hdX12_duel_65.1.2.1.2.1.2
theorem dX12_duel_107 : decode cX12_duel 107 = .ok (.aload_n 0, 1) := fp_hdX12_duel_65.1.2.1.2.2.1
theorem dX12_duel_108 : decode cX12_duel 108 = .ok (.iload_n 1, 1) := fp_hdX12_duel_65.1.2.1.2.2.2
theorem dX12_duel_109 : decode cX12_duel 109 = .ok (.iload_n 2, 1) := fp_hdX12_duel_65.1.2.2.1.1.1
theorem dX12_duel_110 : decode cX12_duel 110 = .ok (.iload_n 3, 1) := fp_hdX12_duel_65.1.2.2.1.1.2
theorem dX12_duel_111 : decode cX12_duel 111 = .ok (.iload 4, 2) := fp_hdX12_duel_65.1.2.2.1.2.1
theorem dX12_duel_113 : decode cX12_duel 113 = .ok (.iload 5, 2) := fp_hdX12_duel_65.1.2.2.1.2.2
theorem dX12_duel_115 : decode cX12_duel 115 = .ok (.iload 8, 2) := fp_hdX12_duel_65.1.2.2.2.1.1
theorem dX12_duel_117 : decode cX12_duel 117 = .ok (.invokevirtual 306, 3) := fp_hdX12_duel_65.1.2.2.2.1.2
theorem dX12_duel_120 : decode cX12_duel 120 = .ok (.iastore, 1) := fp_hdX12_duel_65.1.2.2.2.2.1
theorem dX12_duel_121 : decode cX12_duel 121 = .ok (.iinc 8 1, 3) := fp_hdX12_duel_65.1.2.2.2.2.2
theorem fp_hdX12_duel_124 : (((((decode cX12_duel 124 = .ok (.goto (-30), 3) ∧ decode cX12_duel 127 = .ok (.iconst 0, 1)) ∧ (decode cX12_duel 128 = .ok (.istore 8, 2) ∧ decode cX12_duel 130 = .ok (.iload 5, 2))) ∧ ((decode cX12_duel 132 = .ok (.iconst 1, 1) ∧ decode cX12_duel 133 = .ok (.isub, 1)) ∧ (decode cX12_duel 134 = .ok (.istore 9, 2) ∧ decode cX12_duel 136 = .ok (.iload 9, 2)))) ∧ (((decode cX12_duel 138 = .ok (.ifCond .lt 156, 3) ∧ decode cX12_duel 141 = .ok (.iload 7, 2)) ∧ (decode cX12_duel 143 = .ok (.iconst 3, 1) ∧ decode cX12_duel 144 = .ok (.idiv, 1))) ∧ ((decode cX12_duel 145 = .ok (.istore 7, 2) ∧ decode cX12_duel 147 = .ok (.iconst 0, 1)) ∧ (decode cX12_duel 148 = .ok (.istore 10, 2) ∧ decode cX12_duel 150 = .ok (.iload 10, 2))))) ∧ ((((decode cX12_duel 152 = .ok (.iload 7, 2) ∧ decode cX12_duel 154 = .ok (.if_icmp .ge 134, 3)) ∧ (decode cX12_duel 157 = .ok (.sipush (-9999), 3) ∧ decode cX12_duel 160 = .ok (.istore 11, 2))) ∧ ((decode cX12_duel 162 = .ok (.iconst 0, 1) ∧ decode cX12_duel 163 = .ok (.istore 12, 2)) ∧ (decode cX12_duel 165 = .ok (.iconst 0, 1) ∧ decode cX12_duel 166 = .ok (.istore 13, 2)))) ∧ (((decode cX12_duel 168 = .ok (.iload 13, 2) ∧ decode cX12_duel 170 = .ok (.iconst 3, 1)) ∧ (decode cX12_duel 171 = .ok (.if_icmp .ge 98, 3) ∧ decode cX12_duel 174 = .ok (.aload_n 0, 1))) ∧ ((decode cX12_duel 175 = .ok (.getfield 60, 3) ∧ decode cX12_duel 178 = .ok (.iconst 3, 1)) ∧ (decode cX12_duel 179 = .ok (.iload 10, 2) ∧ decode cX12_duel 181 = .ok (.imul, 1)))))) ∧ bA cX12_duel 182 fp_scX12_duel_3 :=
  have q0 := fp_o167 (v := (-30)) fp_hdX12_duel_65.2 rfl
  have q1 := fp_o3 q0.2
  have q2 := fp_o54 q1.2
  have q3 := fp_o21 q2.2
  have q4 := fp_o4 q3.2
  have q5 := fp_o100 q4.2
  have q6 := fp_o54 q5.2
  have q7 := fp_o21 q6.2
  have q8 := fp_o155 (v := 156) q7.2 rfl
  have q9 := fp_o21 q8.2
  have q10 := fp_o6 q9.2
  have q11 := fp_o108 q10.2
  have q12 := fp_o54 q11.2
  have q13 := fp_o3 q12.2
  have q14 := fp_o54 q13.2
  have q15 := fp_o21 q14.2
  have q16 := fp_o21 q15.2
  have q17 := fp_o162 (v := 134) q16.2 rfl
  have q18 := fp_o17 (v := (-9999)) q17.2 rfl
  have q19 := fp_o54 q18.2
  have q20 := fp_o3 q19.2
  have q21 := fp_o54 q20.2
  have q22 := fp_o3 q21.2
  have q23 := fp_o54 q22.2
  have q24 := fp_o21 q23.2
  have q25 := fp_o6 q24.2
  have q26 := fp_o162 (v := 98) q25.2 rfl
  have q27 := fp_o42 q26.2
  have q28 := fp_o180 (v := 60) q27.2 rfl
  have q29 := fp_o6 q28.2
  have q30 := fp_o21 q29.2
  have q31 := fp_o104 q30.2
  ⟨⟨⟨⟨⟨⟨q0.1, q1.1⟩, ⟨q2.1, q3.1⟩⟩, ⟨⟨q4.1, q5.1⟩, ⟨q6.1, q7.1⟩⟩⟩, ⟨⟨⟨q8.1, q9.1⟩, ⟨q10.1, q11.1⟩⟩, ⟨⟨q12.1, q13.1⟩, ⟨q14.1, q15.1⟩⟩⟩⟩, ⟨⟨⟨⟨q16.1, q17.1⟩, ⟨q18.1, q19.1⟩⟩, ⟨⟨q20.1, q21.1⟩, ⟨q22.1, q23.1⟩⟩⟩, ⟨⟨⟨q24.1, q25.1⟩, ⟨q26.1, q27.1⟩⟩, ⟨⟨q28.1, q29.1⟩, ⟨q30.1, q31.1⟩⟩⟩⟩⟩, q31.2⟩
theorem dX12_duel_124 : decode cX12_duel 124 = .ok (.goto (-30), 3) := fp_hdX12_duel_124.1.1.1.1.1.1
theorem dX12_duel_127 : decode cX12_duel 127 = .ok (.iconst 0, 1) := fp_hdX12_duel_124.1.1.1.1.1.2
theorem dX12_duel_128 : decode cX12_duel 128 = .ok (.istore 8, 2) := fp_hdX12_duel_124.1.1.1.1.2.1
theorem dX12_duel_130 : decode cX12_duel 130 = .ok (.iload 5, 2) := fp_hdX12_duel_124.1.1.1.1.2.2
theorem dX12_duel_132 : decode cX12_duel 132 = .ok (.iconst 1, 1) := fp_hdX12_duel_124.1.1.1.2.1.1
theorem dX12_duel_133 : decode cX12_duel 133 = .ok (.isub, 1) := fp_hdX12_duel_124.1.1.1.2.1.2
theorem dX12_duel_134 : decode cX12_duel 134 = .ok (.istore 9, 2) := fp_hdX12_duel_124.1.1.1.2.2.1
theorem dX12_duel_136 : decode cX12_duel 136 = .ok (.iload 9, 2) := fp_hdX12_duel_124.1.1.1.2.2.2
theorem dX12_duel_138 : decode cX12_duel 138 = .ok (.ifCond .lt 156, 3) := fp_hdX12_duel_124.1.1.2.1.1.1
theorem dX12_duel_141 : decode cX12_duel 141 = .ok (.iload 7, 2) := fp_hdX12_duel_124.1.1.2.1.1.2
theorem dX12_duel_143 : decode cX12_duel 143 = .ok (.iconst 3, 1) := fp_hdX12_duel_124.1.1.2.1.2.1
theorem dX12_duel_144 : decode cX12_duel 144 = .ok (.idiv, 1) := fp_hdX12_duel_124.1.1.2.1.2.2
theorem dX12_duel_145 : decode cX12_duel 145 = .ok (.istore 7, 2) := fp_hdX12_duel_124.1.1.2.2.1.1
theorem dX12_duel_147 : decode cX12_duel 147 = .ok (.iconst 0, 1) := fp_hdX12_duel_124.1.1.2.2.1.2
theorem dX12_duel_148 : decode cX12_duel 148 = .ok (.istore 10, 2) := fp_hdX12_duel_124.1.1.2.2.2.1
theorem dX12_duel_150 : decode cX12_duel 150 = .ok (.iload 10, 2) := fp_hdX12_duel_124.1.1.2.2.2.2
theorem dX12_duel_152 : decode cX12_duel 152 = .ok (.iload 7, 2) := fp_hdX12_duel_124.1.2.1.1.1.1
theorem dX12_duel_154 : decode cX12_duel 154 = .ok (.if_icmp .ge 134, 3) := fp_hdX12_duel_124.1.2.1.1.1.2
theorem dX12_duel_157 : decode cX12_duel 157 = .ok (.sipush (-9999), 3) := fp_hdX12_duel_124.1.2.1.1.2.1
theorem dX12_duel_160 : decode cX12_duel 160 = .ok (.istore 11, 2) := fp_hdX12_duel_124.1.2.1.1.2.2
theorem dX12_duel_162 : decode cX12_duel 162 = .ok (.iconst 0, 1) := fp_hdX12_duel_124.1.2.1.2.1.1
theorem dX12_duel_163 : decode cX12_duel 163 = .ok (.istore 12, 2) := fp_hdX12_duel_124.1.2.1.2.1.2
theorem dX12_duel_165 : decode cX12_duel 165 = .ok (.iconst 0, 1) := fp_hdX12_duel_124.1.2.1.2.2.1
theorem dX12_duel_166 : decode cX12_duel 166 = .ok (.istore 13, 2) := fp_hdX12_duel_124.1.2.1.2.2.2
theorem dX12_duel_168 : decode cX12_duel 168 = .ok (.iload 13, 2) := fp_hdX12_duel_124.1.2.2.1.1.1
theorem dX12_duel_170 : decode cX12_duel 170 = .ok (.iconst 3, 1) := fp_hdX12_duel_124.1.2.2.1.1.2
theorem dX12_duel_171 : decode cX12_duel 171 = .ok (.if_icmp .ge 98, 3) := fp_hdX12_duel_124.1.2.2.1.2.1
theorem dX12_duel_174 : decode cX12_duel 174 = .ok (.aload_n 0, 1) := fp_hdX12_duel_124.1.2.2.1.2.2
theorem dX12_duel_175 : decode cX12_duel 175 = .ok (.getfield 60, 3) := fp_hdX12_duel_124.1.2.2.2.1.1
theorem dX12_duel_178 : decode cX12_duel 178 = .ok (.iconst 3, 1) := fp_hdX12_duel_124.1.2.2.2.1.2
theorem dX12_duel_179 : decode cX12_duel 179 = .ok (.iload 10, 2) := fp_hdX12_duel_124.1.2.2.2.2.1
theorem dX12_duel_181 : decode cX12_duel 181 = .ok (.imul, 1) := fp_hdX12_duel_124.1.2.2.2.2.2
theorem fp_hdX12_duel_182 : (((((decode cX12_duel 182 = .ok (.iload 13, 2) ∧ decode cX12_duel 184 = .ok (.iadd, 1)) ∧ (decode cX12_duel 185 = .ok (.iaload, 1) ∧ decode cX12_duel 186 = .ok (.istore 14, 2))) ∧ ((decode cX12_duel 188 = .ok (.iload 14, 2) ∧ decode cX12_duel 190 = .ok (.sipush (-9999), 3)) ∧ (decode cX12_duel 193 = .ok (.if_icmp .eq 39, 3) ∧ decode cX12_duel 196 = .ok (.iload 11, 2)))) ∧ (((decode cX12_duel 198 = .ok (.sipush (-9999), 3) ∧ decode cX12_duel 201 = .ok (.if_icmp .eq 27, 3)) ∧ (decode cX12_duel 204 = .ok (.iload 9, 2) ∧ decode cX12_duel 206 = .ok (.iconst 2, 1))) ∧ ((decode cX12_duel 207 = .ok (.irem, 1) ∧ decode cX12_duel 208 = .ok (.ifCond .ne 13, 3)) ∧ (decode cX12_duel 211 = .ok (.iload 14, 2) ∧ decode cX12_duel 213 = .ok (.iload 11, 2))))) ∧ ((((decode cX12_duel 215 = .ok (.if_icmp .le 17, 3) ∧ decode cX12_duel 218 = .ok (.goto 10, 3)) ∧ (decode cX12_duel 221 = .ok (.iload 14, 2) ∧ decode cX12_duel 223 = .ok (.iload 11, 2))) ∧ ((decode cX12_duel 225 = .ok (.if_icmp .ge 7, 3) ∧ decode cX12_duel 228 = .ok (.iconst 1, 1)) ∧ (decode cX12_duel 229 = .ok (.goto 4, 3) ∧ decode cX12_duel 232 = .ok (.iconst 0, 1)))) ∧ (((decode cX12_duel 233 = .ok (.istore 15, 2) ∧ decode cX12_duel 235 = .ok (.iload 15, 2)) ∧ (decode cX12_duel 237 = .ok (.ifCond .eq 8, 3) ∧ decode cX12_duel 240 = .ok (.iload 13, 2))) ∧ ((decode cX12_duel 242 = .ok (.goto 5, 3) ∧ decode cX12_duel 245 = .ok (.iload 12, 2)) ∧ (decode cX12_duel 247 = .ok (.istore 12, 2) ∧ decode cX12_duel 249 = .ok (.iload 15, 2)))))) ∧ bA cX12_duel 251 fp_scX12_duel_4 :=
  have q0 := fp_o21 fp_hdX12_duel_124.2
  have q1 := fp_o96 q0.2
  have q2 := fp_o46 q1.2
  have q3 := fp_o54 q2.2
  have q4 := fp_o21 q3.2
  have q5 := fp_o17 (v := (-9999)) q4.2 rfl
  have q6 := fp_o159 (v := 39) q5.2 rfl
  have q7 := fp_o21 q6.2
  have q8 := fp_o17 (v := (-9999)) q7.2 rfl
  have q9 := fp_o159 (v := 27) q8.2 rfl
  have q10 := fp_o21 q9.2
  have q11 := fp_o5 q10.2
  have q12 := fp_o112 q11.2
  have q13 := fp_o154 (v := 13) q12.2 rfl
  have q14 := fp_o21 q13.2
  have q15 := fp_o21 q14.2
  have q16 := fp_o164 (v := 17) q15.2 rfl
  have q17 := fp_o167 (v := 10) q16.2 rfl
  have q18 := fp_o21 q17.2
  have q19 := fp_o21 q18.2
  have q20 := fp_o162 (v := 7) q19.2 rfl
  have q21 := fp_o4 q20.2
  have q22 := fp_o167 (v := 4) q21.2 rfl
  have q23 := fp_o3 q22.2
  have q24 := fp_o54 q23.2
  have q25 := fp_o21 q24.2
  have q26 := fp_o153 (v := 8) q25.2 rfl
  have q27 := fp_o21 q26.2
  have q28 := fp_o167 (v := 5) q27.2 rfl
  have q29 := fp_o21 q28.2
  have q30 := fp_o54 q29.2
  have q31 := fp_o21 q30.2
  ⟨⟨⟨⟨⟨⟨q0.1, q1.1⟩, ⟨q2.1, q3.1⟩⟩, ⟨⟨q4.1, q5.1⟩, ⟨q6.1, q7.1⟩⟩⟩, ⟨⟨⟨q8.1, q9.1⟩, ⟨q10.1, q11.1⟩⟩, ⟨⟨q12.1, q13.1⟩, ⟨q14.1, q15.1⟩⟩⟩⟩, ⟨⟨⟨⟨q16.1, q17.1⟩, ⟨q18.1, q19.1⟩⟩, ⟨⟨q20.1, q21.1⟩, ⟨q22.1, q23.1⟩⟩⟩, ⟨⟨⟨q24.1, q25.1⟩, ⟨q26.1, q27.1⟩⟩, ⟨⟨q28.1, q29.1⟩, ⟨q30.1, q31.1⟩⟩⟩⟩⟩, q31.2⟩
theorem dX12_duel_182 : decode cX12_duel 182 = .ok (.iload 13, 2) := fp_hdX12_duel_182.1.1.1.1.1.1
theorem dX12_duel_184 : decode cX12_duel 184 = .ok (.iadd, 1) := fp_hdX12_duel_182.1.1.1.1.1.2
theorem dX12_duel_185 : decode cX12_duel 185 = .ok (.iaload, 1) := fp_hdX12_duel_182.1.1.1.1.2.1
theorem dX12_duel_186 : decode cX12_duel 186 = .ok (.istore 14, 2) := fp_hdX12_duel_182.1.1.1.1.2.2
theorem dX12_duel_188 : decode cX12_duel 188 = .ok (.iload 14, 2) := fp_hdX12_duel_182.1.1.1.2.1.1
theorem dX12_duel_190 : decode cX12_duel 190 = .ok (.sipush (-9999), 3) := fp_hdX12_duel_182.1.1.1.2.1.2
theorem dX12_duel_193 : decode cX12_duel 193 = .ok (.if_icmp .eq 39, 3) := fp_hdX12_duel_182.1.1.1.2.2.1
theorem dX12_duel_196 : decode cX12_duel 196 = .ok (.iload 11, 2) := fp_hdX12_duel_182.1.1.1.2.2.2
theorem dX12_duel_198 : decode cX12_duel 198 = .ok (.sipush (-9999), 3) := fp_hdX12_duel_182.1.1.2.1.1.1
theorem dX12_duel_201 : decode cX12_duel 201 = .ok (.if_icmp .eq 27, 3) := fp_hdX12_duel_182.1.1.2.1.1.2
theorem dX12_duel_204 : decode cX12_duel 204 = .ok (.iload 9, 2) := fp_hdX12_duel_182.1.1.2.1.2.1
theorem dX12_duel_206 : decode cX12_duel 206 = .ok (.iconst 2, 1) := fp_hdX12_duel_182.1.1.2.1.2.2
theorem dX12_duel_207 : decode cX12_duel 207 = .ok (.irem, 1) := fp_hdX12_duel_182.1.1.2.2.1.1
theorem dX12_duel_208 : decode cX12_duel 208 = .ok (.ifCond .ne 13, 3) := fp_hdX12_duel_182.1.1.2.2.1.2
theorem dX12_duel_211 : decode cX12_duel 211 = .ok (.iload 14, 2) := fp_hdX12_duel_182.1.1.2.2.2.1
theorem dX12_duel_213 : decode cX12_duel 213 = .ok (.iload 11, 2) := fp_hdX12_duel_182.1.1.2.2.2.2
theorem dX12_duel_215 : decode cX12_duel 215 = .ok (.if_icmp .le 17, 3) := fp_hdX12_duel_182.1.2.1.1.1.1
theorem dX12_duel_218 : decode cX12_duel 218 = .ok (.goto 10, 3) := fp_hdX12_duel_182.1.2.1.1.1.2
theorem dX12_duel_221 : decode cX12_duel 221 = .ok (.iload 14, 2) := fp_hdX12_duel_182.1.2.1.1.2.1
theorem dX12_duel_223 : decode cX12_duel 223 = .ok (.iload 11, 2) := fp_hdX12_duel_182.1.2.1.1.2.2
theorem dX12_duel_225 : decode cX12_duel 225 = .ok (.if_icmp .ge 7, 3) := fp_hdX12_duel_182.1.2.1.2.1.1
theorem dX12_duel_228 : decode cX12_duel 228 = .ok (.iconst 1, 1) := fp_hdX12_duel_182.1.2.1.2.1.2
theorem dX12_duel_229 : decode cX12_duel 229 = .ok (.goto 4, 3) := fp_hdX12_duel_182.1.2.1.2.2.1
theorem dX12_duel_232 : decode cX12_duel 232 = .ok (.iconst 0, 1) := fp_hdX12_duel_182.1.2.1.2.2.2
theorem dX12_duel_233 : decode cX12_duel 233 = .ok (.istore 15, 2) := fp_hdX12_duel_182.1.2.2.1.1.1
theorem dX12_duel_235 : decode cX12_duel 235 = .ok (.iload 15, 2) := fp_hdX12_duel_182.1.2.2.1.1.2
theorem dX12_duel_237 : decode cX12_duel 237 = .ok (.ifCond .eq 8, 3) := fp_hdX12_duel_182.1.2.2.1.2.1
theorem dX12_duel_240 : decode cX12_duel 240 = .ok (.iload 13, 2) := fp_hdX12_duel_182.1.2.2.1.2.2
theorem dX12_duel_242 : decode cX12_duel 242 = .ok (.goto 5, 3) := fp_hdX12_duel_182.1.2.2.2.1.1
theorem dX12_duel_245 : decode cX12_duel 245 = .ok (.iload 12, 2) := fp_hdX12_duel_182.1.2.2.2.1.2
theorem dX12_duel_247 : decode cX12_duel 247 = .ok (.istore 12, 2) := fp_hdX12_duel_182.1.2.2.2.2.1
theorem dX12_duel_249 : decode cX12_duel 249 = .ok (.iload 15, 2) := fp_hdX12_duel_182.1.2.2.2.2.2
theorem fp_hdX12_duel_251 : (((((decode cX12_duel 251 = .ok (.ifCond .eq 8, 3) ∧ decode cX12_duel 254 = .ok (.iload 14, 2)) ∧ (decode cX12_duel 256 = .ok (.goto 5, 3) ∧ decode cX12_duel 259 = .ok (.iload 11, 2))) ∧ ((decode cX12_duel 261 = .ok (.istore 11, 2) ∧ decode cX12_duel 263 = .ok (.iinc 13 1, 3)) ∧ (decode cX12_duel 266 = .ok (.goto (-98), 3) ∧ decode cX12_duel 269 = .ok (.aload_n 0, 1)))) ∧ (((decode cX12_duel 270 = .ok (.getfield 60, 3) ∧ decode cX12_duel 273 = .ok (.iload 10, 2)) ∧ (decode cX12_duel 275 = .ok (.iload 11, 2) ∧ decode cX12_duel 277 = .ok (.iastore, 1))) ∧ ((decode cX12_duel 278 = .ok (.iload 12, 2) ∧ decode cX12_duel 280 = .ok (.istore 8, 2)) ∧ decode cX12_duel 282 = .ok (.iinc 10 1, 3)))) ∧ ((((decode cX12_duel 285 = .ok (.goto (-135), 3) ∧ decode cX12_duel 288 = .ok (.iinc 9 (-1), 3)) ∧ (decode cX12_duel 291 = .ok (.goto (-155), 3) ∧ decode cX12_duel 294 = .ok (.iload 6, 2))) ∧ ((decode cX12_duel 296 = .ok (.ifCond .ne 16, 3) ∧ decode cX12_duel 299 = .ok (.sipush 1000, 3)) ∧ decode cX12_duel 302 = .ok (.aload_n 0, 1))) ∧ (((decode cX12_duel 303 = .ok (.getfield 60, 3) ∧ decode cX12_duel 306 = .ok (.iconst 0, 1)) ∧ (decode cX12_duel 307 = .ok (.iaload, 1) ∧ decode cX12_duel 308 = .ok (.iadd, 1))) ∧ ((decode cX12_duel 309 = .ok (.goto 5, 3) ∧ decode cX12_duel 312 = .ok (.iload 8, 2)) ∧ decode cX12_duel 314 = .ok (.ireturn, 1))))) ∧ bA cX12_duel 315 [] :=
  have q0 := fp_o153 (v := 8) fp_hdX12_duel_182.2 rfl
  have q1 := fp_o21 q0.2
  have q2 := fp_o167 (v := 5) q1.2 rfl
  have q3 := fp_o21 q2.2
  have q4 := fp_o54 q3.2
  have q5 := fp_o132 (v := 1) q4.2 rfl
  have q6 := fp_o167 (v := (-98)) q5.2 rfl
  have q7 := fp_o42 q6.2
  have q8 := fp_o180 (v := 60) q7.2 rfl
  have q9 := fp_o21 q8.2
  have q10 := fp_o21 q9.2
  have q11 := fp_o79 q10.2
  have q12 := fp_o21 q11.2
  have q13 := fp_o54 q12.2
  have q14 := fp_o132 (v := 1) q13.2 rfl
  have q15 := fp_o167 (v := (-135)) q14.2 rfl
  have q16 := fp_o132 (v := (-1)) q15.2 rfl
  have q17 := fp_o167 (v := (-155)) q16.2 rfl
  have q18 := fp_o21 q17.2
  have q19 := fp_o154 (v := 16) q18.2 rfl
  have q20 := fp_o17 (v := 1000) q19.2 rfl
  have q21 := fp_o42 q20.2
  have q22 := fp_o180 (v := 60) q21.2 rfl
  have q23 := fp_o3 q22.2
  have q24 := fp_o46 q23.2
  have q25 := fp_o96 q24.2
  have q26 := fp_o167 (v := 5) q25.2 rfl
  have q27 := fp_o21 q26.2
  have q28 := fp_o172 q27.2
  ⟨⟨⟨⟨⟨⟨q0.1, q1.1⟩, ⟨q2.1, q3.1⟩⟩, ⟨⟨q4.1, q5.1⟩, ⟨q6.1, q7.1⟩⟩⟩, ⟨⟨⟨q8.1, q9.1⟩, ⟨q10.1, q11.1⟩⟩, ⟨⟨q12.1, q13.1⟩, q14.1⟩⟩⟩, ⟨⟨⟨⟨q15.1, q16.1⟩, ⟨q17.1, q18.1⟩⟩, ⟨⟨q19.1, q20.1⟩, q21.1⟩⟩, ⟨⟨⟨q22.1, q23.1⟩, ⟨q24.1, q25.1⟩⟩, ⟨⟨q26.1, q27.1⟩, q28.1⟩⟩⟩⟩, q28.2⟩
theorem dX12_duel_251 : decode cX12_duel 251 = .ok (.ifCond .eq 8, 3) := fp_hdX12_duel_251.1.1.1.1.1.1
theorem dX12_duel_254 : decode cX12_duel 254 = .ok (.iload 14, 2) := fp_hdX12_duel_251.1.1.1.1.1.2
theorem dX12_duel_256 : decode cX12_duel 256 = .ok (.goto 5, 3) := fp_hdX12_duel_251.1.1.1.1.2.1
theorem dX12_duel_259 : decode cX12_duel 259 = .ok (.iload 11, 2) := fp_hdX12_duel_251.1.1.1.1.2.2
theorem dX12_duel_261 : decode cX12_duel 261 = .ok (.istore 11, 2) := fp_hdX12_duel_251.1.1.1.2.1.1
theorem dX12_duel_263 : decode cX12_duel 263 = .ok (.iinc 13 1, 3) := fp_hdX12_duel_251.1.1.1.2.1.2
theorem dX12_duel_266 : decode cX12_duel 266 = .ok (.goto (-98), 3) := fp_hdX12_duel_251.1.1.1.2.2.1
theorem dX12_duel_269 : decode cX12_duel 269 = .ok (.aload_n 0, 1) := fp_hdX12_duel_251.1.1.1.2.2.2
theorem dX12_duel_270 : decode cX12_duel 270 = .ok (.getfield 60, 3) := fp_hdX12_duel_251.1.1.2.1.1.1
theorem dX12_duel_273 : decode cX12_duel 273 = .ok (.iload 10, 2) := fp_hdX12_duel_251.1.1.2.1.1.2
theorem dX12_duel_275 : decode cX12_duel 275 = .ok (.iload 11, 2) := fp_hdX12_duel_251.1.1.2.1.2.1
theorem dX12_duel_277 : decode cX12_duel 277 = .ok (.iastore, 1) := fp_hdX12_duel_251.1.1.2.1.2.2
theorem dX12_duel_278 : decode cX12_duel 278 = .ok (.iload 12, 2) := fp_hdX12_duel_251.1.1.2.2.1.1
theorem dX12_duel_280 : decode cX12_duel 280 = .ok (.istore 8, 2) := fp_hdX12_duel_251.1.1.2.2.1.2
theorem dX12_duel_282 : decode cX12_duel 282 = .ok (.iinc 10 1, 3) := fp_hdX12_duel_251.1.1.2.2.2
theorem dX12_duel_285 : decode cX12_duel 285 = .ok (.goto (-135), 3) := fp_hdX12_duel_251.1.2.1.1.1.1
theorem dX12_duel_288 : decode cX12_duel 288 = .ok (.iinc 9 (-1), 3) := fp_hdX12_duel_251.1.2.1.1.1.2
theorem dX12_duel_291 : decode cX12_duel 291 = .ok (.goto (-155), 3) := fp_hdX12_duel_251.1.2.1.1.2.1
theorem dX12_duel_294 : decode cX12_duel 294 = .ok (.iload 6, 2) := fp_hdX12_duel_251.1.2.1.1.2.2
theorem dX12_duel_296 : decode cX12_duel 296 = .ok (.ifCond .ne 16, 3) := fp_hdX12_duel_251.1.2.1.2.1.1
theorem dX12_duel_299 : decode cX12_duel 299 = .ok (.sipush 1000, 3) := fp_hdX12_duel_251.1.2.1.2.1.2
theorem dX12_duel_302 : decode cX12_duel 302 = .ok (.aload_n 0, 1) := fp_hdX12_duel_251.1.2.1.2.2
theorem dX12_duel_303 : decode cX12_duel 303 = .ok (.getfield 60, 3) := fp_hdX12_duel_251.1.2.2.1.1.1
theorem dX12_duel_306 : decode cX12_duel 306 = .ok (.iconst 0, 1) := fp_hdX12_duel_251.1.2.2.1.1.2
theorem dX12_duel_307 : decode cX12_duel 307 = .ok (.iaload, 1) := fp_hdX12_duel_251.1.2.2.1.2.1
theorem dX12_duel_308 : decode cX12_duel 308 = .ok (.iadd, 1) := fp_hdX12_duel_251.1.2.2.1.2.2
theorem dX12_duel_309 : decode cX12_duel 309 = .ok (.goto 5, 3) := fp_hdX12_duel_251.1.2.2.2.1.1
theorem dX12_duel_312 : decode cX12_duel 312 = .ok (.iload 8, 2) := fp_hdX12_duel_251.1.2.2.2.1.2
theorem dX12_duel_314 : decode cX12_duel 314 = .ok (.ireturn, 1) := fp_hdX12_duel_251.1.2.2.2.2
def fp_scX12_noted_1 : List Nat := 16 :: 253 :: 172 :: 42 :: 180 :: 0 :: 7 :: 16 :: 96 :: 42 :: 180 :: 0 :: 7 :: 16 :: 104 :: 46 :: 96 :: 27 :: 79 :: 42 :: 180 :: 0 :: 7 :: 16 :: 104 :: 92 :: 46 :: 4 :: 96 :: 79 :: 42 :: 180 :: 0 :: 7 :: 16 :: 104 :: 46 :: 172 :: []
def fp_scX12_noted_0 : List Nat := 42 :: 27 :: 182 :: 0 :: 205 :: 154 :: 0 :: 5 :: 2 :: 172 :: 3 :: 61 :: 28 :: 42 :: 180 :: 0 :: 7 :: 16 :: 104 :: 46 :: 162 :: 0 :: 25 :: 42 :: 180 :: 0 :: 7 :: 16 :: 96 :: 28 :: 96 :: 46 :: 27 :: 160 :: 0 :: 6 :: 16 :: 254 :: 172 :: 132 :: 2 :: 1 :: 167 :: 255 :: 226 :: 42 :: 180 :: 0 :: 7 :: 16 :: 104 :: 46 :: 16 :: 8 :: 160 :: 0 :: 6 :: fp_scX12_noted_1
theorem fp_bcX12_noted : bA cX12_noted 0 fp_scX12_noted_0 := show cX12_noted.data.toList.map UInt8.toNat = fp_scX12_noted_0 from by decide +kernel
theorem fp_hdX12_noted_0 : (((((decode cX12_noted 0 = .ok (.aload_n 0, 1) ∧ decode cX12_noted 1 = .ok (.iload_n 1, 1)) ∧ (decode cX12_noted 2 = .ok (.invokevirtual 205, 3) ∧ decode cX12_noted 5 = .ok (.ifCond .ne 5, 3))) ∧ ((decode cX12_noted 8 = .ok (.iconst (-1), 1) ∧ decode cX12_noted 9 = .ok (.ireturn, 1)) ∧ (decode cX12_noted 10 = .ok (.iconst 0, 1) ∧ decode cX12_noted 11 = .ok (.istore_n 2, 1)))) ∧ (((decode cX12_noted 12 = .ok (.iload_n 2, 1) ∧ decode cX12_noted 13 = .ok (.aload_n 0, 1)) ∧ (decode cX12_noted 14 = .ok (.getfield 7, 3) ∧ decode cX12_noted 17 = .ok (.bipush 104, 2))) ∧ ((decode cX12_noted 19 = .ok (.iaload, 1) ∧ decode cX12_noted 20 = .ok (.if_icmp .ge 25, 3)) ∧ (decode cX12_noted 23 = .ok (.aload_n 0, 1) ∧ decode cX12_noted 24 = .ok (.getfield 7, 3))))) ∧ ((((decode cX12_noted 27 = .ok (.bipush 96, 2) ∧ decode cX12_noted 29 = .ok (.iload_n 2, 1)) ∧ (decode cX12_noted 30 = .ok (.iadd, 1) ∧ decode cX12_noted 31 = .ok (.iaload, 1))) ∧ ((decode cX12_noted 32 = .ok (.iload_n 1, 1) ∧ decode cX12_noted 33 = .ok (.if_icmp .ne 6, 3)) ∧ (decode cX12_noted 36 = .ok (.bipush (-2), 2) ∧ decode cX12_noted 38 = .ok (.ireturn, 1)))) ∧ (((decode cX12_noted 39 = .ok (.iinc 2 1, 3) ∧ decode cX12_noted 42 = .ok (.goto (-30), 3)) ∧ (decode cX12_noted 45 = .ok (.aload_n 0, 1) ∧ decode cX12_noted 46 = .ok (.getfield 7, 3))) ∧ ((decode cX12_noted 49 = .ok (.bipush 104, 2) ∧ decode cX12_noted 51 = .ok (.iaload, 1)) ∧ (decode cX12_noted 52 = .ok (.bipush 8, 2) ∧ decode cX12_noted 54 = .ok (.if_icmp .ne 6, 3)))))) ∧ bA cX12_noted 57 fp_scX12_noted_1 :=
  have q0 := fp_o42 fp_bcX12_noted
  have q1 := fp_o27 q0.2
  have q2 := fp_o182 (v := 205) q1.2 rfl
  have q3 := fp_o154 (v := 5) q2.2 rfl
  have q4 := fp_o2 q3.2
  have q5 := fp_o172 q4.2
  have q6 := fp_o3 q5.2
  have q7 := fp_o61 q6.2
  have q8 := fp_o28 q7.2
  have q9 := fp_o42 q8.2
  have q10 := fp_o180 (v := 7) q9.2 rfl
  have q11 := fp_o16 (v := 104) q10.2 rfl
  have q12 := fp_o46 q11.2
  have q13 := fp_o162 (v := 25) q12.2 rfl
  have q14 := fp_o42 q13.2
  have q15 := fp_o180 (v := 7) q14.2 rfl
  have q16 := fp_o16 (v := 96) q15.2 rfl
  have q17 := fp_o28 q16.2
  have q18 := fp_o96 q17.2
  have q19 := fp_o46 q18.2
  have q20 := fp_o27 q19.2
  have q21 := fp_o160 (v := 6) q20.2 rfl
  have q22 := fp_o16 (v := (-2)) q21.2 rfl
  have q23 := fp_o172 q22.2
  have q24 := fp_o132 (v := 1) q23.2 rfl
  have q25 := fp_o167 (v := (-30)) q24.2 rfl
  have q26 := fp_o42 q25.2
  have q27 := fp_o180 (v := 7) q26.2 rfl
  have q28 := fp_o16 (v := 104) q27.2 rfl
  have q29 := fp_o46 q28.2
  have q30 := fp_o16 (v := 8) q29.2 rfl
  have q31 := fp_o160 (v := 6) q30.2 rfl
  ⟨⟨⟨⟨⟨⟨q0.1, q1.1⟩, ⟨q2.1, q3.1⟩⟩, ⟨⟨q4.1, q5.1⟩, ⟨q6.1, q7.1⟩⟩⟩, ⟨⟨⟨q8.1, q9.1⟩, ⟨q10.1, q11.1⟩⟩, ⟨⟨q12.1, q13.1⟩, ⟨q14.1, q15.1⟩⟩⟩⟩, ⟨⟨⟨⟨q16.1, q17.1⟩, ⟨q18.1, q19.1⟩⟩, ⟨⟨q20.1, q21.1⟩, ⟨q22.1, q23.1⟩⟩⟩, ⟨⟨⟨q24.1, q25.1⟩, ⟨q26.1, q27.1⟩⟩, ⟨⟨q28.1, q29.1⟩, ⟨q30.1, q31.1⟩⟩⟩⟩⟩, q31.2⟩
theorem dX12_noted_0 : decode cX12_noted 0 = .ok (.aload_n 0, 1) := fp_hdX12_noted_0.1.1.1.1.1.1
theorem dX12_noted_1 : decode cX12_noted 1 = .ok (.iload_n 1, 1) := fp_hdX12_noted_0.1.1.1.1.1.2
theorem dX12_noted_2 : decode cX12_noted 2 = .ok (.invokevirtual 205, 3) := fp_hdX12_noted_0.1.1.1.1.2.1
theorem dX12_noted_5 : decode cX12_noted 5 = .ok (.ifCond .ne 5, 3) := fp_hdX12_noted_0.1.1.1.1.2.2
theorem dX12_noted_8 : decode cX12_noted 8 = .ok (.iconst (-1), 1) := fp_hdX12_noted_0.1.1.1.2.1.1
theorem dX12_noted_9 : decode cX12_noted 9 = .ok (.ireturn, 1) := fp_hdX12_noted_0.1.1.1.2.1.2
theorem dX12_noted_10 : decode cX12_noted 10 = .ok (.iconst 0, 1) := fp_hdX12_noted_0.1.1.1.2.2.1
theorem dX12_noted_11 : decode cX12_noted 11 = .ok (.istore_n 2, 1) := fp_hdX12_noted_0.1.1.1.2.2.2
theorem dX12_noted_12 : decode cX12_noted 12 = .ok (.iload_n 2, 1) := fp_hdX12_noted_0.1.1.2.1.1.1
theorem dX12_noted_13 : decode cX12_noted 13 = .ok (.aload_n 0, 1) := fp_hdX12_noted_0.1.1.2.1.1.2
theorem dX12_noted_14 : decode cX12_noted 14 = .ok (.getfield 7, 3) := fp_hdX12_noted_0.1.1.2.1.2.1
theorem dX12_noted_17 : decode cX12_noted 17 = .ok (.bipush 104, 2) := fp_hdX12_noted_0.1.1.2.1.2.2
theorem dX12_noted_19 : decode cX12_noted 19 = .ok (.iaload, 1) := fp_hdX12_noted_0.1.1.2.2.1.1
theorem dX12_noted_20 : decode cX12_noted 20 = .ok (.if_icmp .ge 25, 3) := fp_hdX12_noted_0.1.1.2.2.1.2
theorem dX12_noted_23 : decode cX12_noted 23 = .ok (.aload_n 0, 1) := fp_hdX12_noted_0.1.1.2.2.2.1
theorem dX12_noted_24 : decode cX12_noted 24 = .ok (.getfield 7, 3) := fp_hdX12_noted_0.1.1.2.2.2.2
theorem dX12_noted_27 : decode cX12_noted 27 = .ok (.bipush 96, 2) := fp_hdX12_noted_0.1.2.1.1.1.1
theorem dX12_noted_29 : decode cX12_noted 29 = .ok (.iload_n 2, 1) := fp_hdX12_noted_0.1.2.1.1.1.2
theorem dX12_noted_30 : decode cX12_noted 30 = .ok (.iadd, 1) := fp_hdX12_noted_0.1.2.1.1.2.1
theorem dX12_noted_31 : decode cX12_noted 31 = .ok (.iaload, 1) := fp_hdX12_noted_0.1.2.1.1.2.2
theorem dX12_noted_32 : decode cX12_noted 32 = .ok (.iload_n 1, 1) := fp_hdX12_noted_0.1.2.1.2.1.1
theorem dX12_noted_33 : decode cX12_noted 33 = .ok (.if_icmp .ne 6, 3) := fp_hdX12_noted_0.1.2.1.2.1.2
theorem dX12_noted_36 : decode cX12_noted 36 = .ok (.bipush (-2), 2) := fp_hdX12_noted_0.1.2.1.2.2.1
theorem dX12_noted_38 : decode cX12_noted 38 = .ok (.ireturn, 1) := fp_hdX12_noted_0.1.2.1.2.2.2
theorem dX12_noted_39 : decode cX12_noted 39 = .ok (.iinc 2 1, 3) := fp_hdX12_noted_0.1.2.2.1.1.1
theorem dX12_noted_42 : decode cX12_noted 42 = .ok (.goto (-30), 3) := fp_hdX12_noted_0.1.2.2.1.1.2
theorem dX12_noted_45 : decode cX12_noted 45 = .ok (.aload_n 0, 1) := fp_hdX12_noted_0.1.2.2.1.2.1
theorem dX12_noted_46 : decode cX12_noted 46 = .ok (.getfield 7, 3) := fp_hdX12_noted_0.1.2.2.1.2.2
theorem dX12_noted_49 : decode cX12_noted 49 = .ok (.bipush 104, 2) := fp_hdX12_noted_0.1.2.2.2.1.1
theorem dX12_noted_51 : decode cX12_noted 51 = .ok (.iaload, 1) := fp_hdX12_noted_0.1.2.2.2.1.2
theorem dX12_noted_52 : decode cX12_noted 52 = .ok (.bipush 8, 2) := fp_hdX12_noted_0.1.2.2.2.2.1
theorem dX12_noted_54 : decode cX12_noted 54 = .ok (.if_icmp .ne 6, 3) := fp_hdX12_noted_0.1.2.2.2.2.2
theorem fp_hdX12_noted_57 : (((((decode cX12_noted 57 = .ok (.bipush (-3), 2) ∧ decode cX12_noted 59 = .ok (.ireturn, 1)) ∧ (decode cX12_noted 60 = .ok (.aload_n 0, 1) ∧ decode cX12_noted 61 = .ok (.getfield 7, 3))) ∧ ((decode cX12_noted 64 = .ok (.bipush 96, 2) ∧ decode cX12_noted 66 = .ok (.aload_n 0, 1)) ∧ decode cX12_noted 67 = .ok (.getfield 7, 3))) ∧ (((decode cX12_noted 70 = .ok (.bipush 104, 2) ∧ decode cX12_noted 72 = .ok (.iaload, 1)) ∧ decode cX12_noted 73 = .ok (.iadd, 1)) ∧ ((decode cX12_noted 74 = .ok (.iload_n 1, 1) ∧ decode cX12_noted 75 = .ok (.iastore, 1)) ∧ decode cX12_noted 76 = .ok (.aload_n 0, 1)))) ∧ ((((decode cX12_noted 77 = .ok (.getfield 7, 3) ∧ decode cX12_noted 80 = .ok (.bipush 104, 2)) ∧ decode cX12_noted 82 = .ok (.dup2, 1)) ∧ ((decode cX12_noted 83 = .ok (.iaload, 1) ∧ decode cX12_noted 84 = .ok (.iconst 1, 1)) ∧ decode cX12_noted 85 = .ok (.iadd, 1))) ∧ (((decode cX12_noted 86 = .ok (.iastore, 1) ∧ decode cX12_noted 87 = .ok (.aload_n 0, 1)) ∧ decode cX12_noted 88 = .ok (.getfield 7, 3)) ∧ ((decode cX12_noted 91 = .ok (.bipush 104, 2) ∧ decode cX12_noted 93 = .ok (.iaload, 1)) ∧ decode cX12_noted 94 = .ok (.ireturn, 1))))) ∧ bA cX12_noted 95 [] :=
  have q0 := fp_o16 (v := (-3)) fp_hdX12_noted_0.2 rfl
  have q1 := fp_o172 q0.2
  have q2 := fp_o42 q1.2
  have q3 := fp_o180 (v := 7) q2.2 rfl
  have q4 := fp_o16 (v := 96) q3.2 rfl
  have q5 := fp_o42 q4.2
  have q6 := fp_o180 (v := 7) q5.2 rfl
  have q7 := fp_o16 (v := 104) q6.2 rfl
  have q8 := fp_o46 q7.2
  have q9 := fp_o96 q8.2
  have q10 := fp_o27 q9.2
  have q11 := fp_o79 q10.2
  have q12 := fp_o42 q11.2
  have q13 := fp_o180 (v := 7) q12.2 rfl
  have q14 := fp_o16 (v := 104) q13.2 rfl
  have q15 := fp_o92 q14.2
  have q16 := fp_o46 q15.2
  have q17 := fp_o4 q16.2
  have q18 := fp_o96 q17.2
  have q19 := fp_o79 q18.2
  have q20 := fp_o42 q19.2
  have q21 := fp_o180 (v := 7) q20.2 rfl
  have q22 := fp_o16 (v := 104) q21.2 rfl
  have q23 := fp_o46 q22.2
  have q24 := fp_o172 q23.2
  ⟨⟨⟨⟨⟨⟨q0.1, q1.1⟩, ⟨q2.1, q3.1⟩⟩, ⟨⟨q4.1, q5.1⟩, q6.1⟩⟩, ⟨⟨⟨q7.1, q8.1⟩, q9.1⟩, ⟨⟨q10.1, q11.1⟩, q12.1⟩⟩⟩, ⟨⟨⟨⟨q13.1, q14.1⟩, q15.1⟩, ⟨⟨q16.1, q17.1⟩, q18.1⟩⟩, ⟨⟨⟨q19.1, q20.1⟩, q21.1⟩, ⟨⟨q22.1, q23.1⟩, q24.1⟩⟩⟩⟩, q24.2⟩
theorem dX12_noted_57 : decode cX12_noted 57 = .ok (.bipush (-3), 2) := fp_hdX12_noted_57.1.1.1.1.1.1
theorem dX12_noted_59 : decode cX12_noted 59 = .ok (.ireturn, 1) := fp_hdX12_noted_57.1.1.1.1.1.2
theorem dX12_noted_60 : decode cX12_noted 60 = .ok (.aload_n 0, 1) := fp_hdX12_noted_57.1.1.1.1.2.1
theorem dX12_noted_61 : decode cX12_noted 61 = .ok (.getfield 7, 3) := fp_hdX12_noted_57.1.1.1.1.2.2
theorem dX12_noted_64 : decode cX12_noted 64 = .ok (.bipush 96, 2) := fp_hdX12_noted_57.1.1.1.2.1.1
theorem dX12_noted_66 : decode cX12_noted 66 = .ok (.aload_n 0, 1) := fp_hdX12_noted_57.1.1.1.2.1.2
theorem dX12_noted_67 : decode cX12_noted 67 = .ok (.getfield 7, 3) := fp_hdX12_noted_57.1.1.1.2.2
theorem dX12_noted_70 : decode cX12_noted 70 = .ok (.bipush 104, 2) := fp_hdX12_noted_57.1.1.2.1.1.1
theorem dX12_noted_72 : decode cX12_noted 72 = .ok (.iaload, 1) := fp_hdX12_noted_57.1.1.2.1.1.2
theorem dX12_noted_73 : decode cX12_noted 73 = .ok (.iadd, 1) := fp_hdX12_noted_57.1.1.2.1.2
theorem dX12_noted_74 : decode cX12_noted 74 = .ok (.iload_n 1, 1) := fp_hdX12_noted_57.1.1.2.2.1.1
theorem dX12_noted_75 : decode cX12_noted 75 = .ok (.iastore, 1) := fp_hdX12_noted_57.1.1.2.2.1.2
theorem dX12_noted_76 : decode cX12_noted 76 = .ok (.aload_n 0, 1) := fp_hdX12_noted_57.1.1.2.2.2
theorem dX12_noted_77 : decode cX12_noted 77 = .ok (.getfield 7, 3) := fp_hdX12_noted_57.1.2.1.1.1.1
theorem dX12_noted_80 : decode cX12_noted 80 = .ok (.bipush 104, 2) := fp_hdX12_noted_57.1.2.1.1.1.2
theorem dX12_noted_82 : decode cX12_noted 82 = .ok (.dup2, 1) := fp_hdX12_noted_57.1.2.1.1.2
theorem dX12_noted_83 : decode cX12_noted 83 = .ok (.iaload, 1) := fp_hdX12_noted_57.1.2.1.2.1.1
theorem dX12_noted_84 : decode cX12_noted 84 = .ok (.iconst 1, 1) := fp_hdX12_noted_57.1.2.1.2.1.2
theorem dX12_noted_85 : decode cX12_noted 85 = .ok (.iadd, 1) := fp_hdX12_noted_57.1.2.1.2.2
theorem dX12_noted_86 : decode cX12_noted 86 = .ok (.iastore, 1) := fp_hdX12_noted_57.1.2.2.1.1.1
theorem dX12_noted_87 : decode cX12_noted 87 = .ok (.aload_n 0, 1) := fp_hdX12_noted_57.1.2.2.1.1.2
theorem dX12_noted_88 : decode cX12_noted 88 = .ok (.getfield 7, 3) := fp_hdX12_noted_57.1.2.2.1.2
theorem dX12_noted_91 : decode cX12_noted 91 = .ok (.bipush 104, 2) := fp_hdX12_noted_57.1.2.2.2.1.1
theorem dX12_noted_93 : decode cX12_noted 93 = .ok (.iaload, 1) := fp_hdX12_noted_57.1.2.2.2.1.2
theorem dX12_noted_94 : decode cX12_noted 94 = .ok (.ireturn, 1) := fp_hdX12_noted_57.1.2.2.2.2
def fp_scX12_forget_0 : List Nat := 42 :: 180 :: 0 :: 7 :: 16 :: 104 :: 46 :: 60 :: 42 :: 180 :: 0 :: 7 :: 16 :: 104 :: 3 :: 79 :: 27 :: 172 :: []
theorem fp_bcX12_forget : bA cX12_forget 0 fp_scX12_forget_0 := show cX12_forget.data.toList.map UInt8.toNat = fp_scX12_forget_0 from by decide +kernel
theorem fp_hdX12_forget_0 : ((((decode cX12_forget 0 = .ok (.aload_n 0, 1) ∧ decode cX12_forget 1 = .ok (.getfield 7, 3)) ∧ decode cX12_forget 4 = .ok (.bipush 104, 2)) ∧ ((decode cX12_forget 6 = .ok (.iaload, 1) ∧ decode cX12_forget 7 = .ok (.istore_n 1, 1)) ∧ decode cX12_forget 8 = .ok (.aload_n 0, 1))) ∧ (((decode cX12_forget 9 = .ok (.getfield 7, 3) ∧ decode cX12_forget 12 = .ok (.bipush 104, 2)) ∧ decode cX12_forget 14 = .ok (.iconst 0, 1)) ∧ ((decode cX12_forget 15 = .ok (.iastore, 1) ∧ decode cX12_forget 16 = .ok (.iload_n 1, 1)) ∧ decode cX12_forget 17 = .ok (.ireturn, 1)))) ∧ bA cX12_forget 18 [] :=
  have q0 := fp_o42 fp_bcX12_forget
  have q1 := fp_o180 (v := 7) q0.2 rfl
  have q2 := fp_o16 (v := 104) q1.2 rfl
  have q3 := fp_o46 q2.2
  have q4 := fp_o60 q3.2
  have q5 := fp_o42 q4.2
  have q6 := fp_o180 (v := 7) q5.2 rfl
  have q7 := fp_o16 (v := 104) q6.2 rfl
  have q8 := fp_o3 q7.2
  have q9 := fp_o79 q8.2
  have q10 := fp_o27 q9.2
  have q11 := fp_o172 q10.2
  ⟨⟨⟨⟨⟨q0.1, q1.1⟩, q2.1⟩, ⟨⟨q3.1, q4.1⟩, q5.1⟩⟩, ⟨⟨⟨q6.1, q7.1⟩, q8.1⟩, ⟨⟨q9.1, q10.1⟩, q11.1⟩⟩⟩, q11.2⟩
theorem dX12_forget_0 : decode cX12_forget 0 = .ok (.aload_n 0, 1) := fp_hdX12_forget_0.1.1.1.1.1
theorem dX12_forget_1 : decode cX12_forget 1 = .ok (.getfield 7, 3) := fp_hdX12_forget_0.1.1.1.1.2
theorem dX12_forget_4 : decode cX12_forget 4 = .ok (.bipush 104, 2) := fp_hdX12_forget_0.1.1.1.2
theorem dX12_forget_6 : decode cX12_forget 6 = .ok (.iaload, 1) := fp_hdX12_forget_0.1.1.2.1.1
theorem dX12_forget_7 : decode cX12_forget 7 = .ok (.istore_n 1, 1) := fp_hdX12_forget_0.1.1.2.1.2
theorem dX12_forget_8 : decode cX12_forget 8 = .ok (.aload_n 0, 1) := fp_hdX12_forget_0.1.1.2.2
theorem dX12_forget_9 : decode cX12_forget 9 = .ok (.getfield 7, 3) := fp_hdX12_forget_0.1.2.1.1.1
theorem dX12_forget_12 : decode cX12_forget 12 = .ok (.bipush 104, 2) := fp_hdX12_forget_0.1.2.1.1.2
theorem dX12_forget_14 : decode cX12_forget 14 = .ok (.iconst 0, 1) := fp_hdX12_forget_0.1.2.1.2
theorem dX12_forget_15 : decode cX12_forget 15 = .ok (.iastore, 1) := fp_hdX12_forget_0.1.2.2.1.1
theorem dX12_forget_16 : decode cX12_forget 16 = .ok (.iload_n 1, 1) := fp_hdX12_forget_0.1.2.2.1.2
theorem dX12_forget_17 : decode cX12_forget 17 = .ok (.ireturn, 1) := fp_hdX12_forget_0.1.2.2.2
def fp_scX12_fitsRow_1 : List Nat := 21 :: 4 :: 42 :: 180 :: 0 :: 7 :: 16 :: 104 :: 46 :: 162 :: 0 :: 51 :: 42 :: 17 :: 1 :: 104 :: 27 :: 182 :: 0 :: 216 :: 54 :: 5 :: 21 :: 5 :: 16 :: 252 :: 159 :: 0 :: 26 :: 42 :: 17 :: 1 :: 104 :: 27 :: 21 :: 5 :: 182 :: 0 :: 241 :: 42 :: 180 :: 0 :: 7 :: 16 :: 96 :: 21 :: 4 :: 96 :: 46 :: 159 :: 0 :: 5 :: 3 :: 172 :: 132 :: 4 :: 1 :: 167 :: 255 :: 199 :: 4 :: 172 :: []
def fp_scX12_fitsRow_0 : List Nat := 17 :: 1 :: 114 :: 16 :: 9 :: 27 :: 104 :: 96 :: 62 :: 42 :: 180 :: 0 :: 7 :: 29 :: 28 :: 79 :: 3 :: 54 :: 4 :: 21 :: 4 :: 28 :: 162 :: 0 :: 27 :: 42 :: 180 :: 0 :: 7 :: 29 :: 4 :: 96 :: 21 :: 4 :: 96 :: 42 :: 180 :: 0 :: 63 :: 21 :: 4 :: 46 :: 79 :: 132 :: 4 :: 1 :: 167 :: 255 :: 229 :: 3 :: 54 :: 4 :: fp_scX12_fitsRow_1
theorem fp_bcX12_fitsRow : bA cX12_fitsRow 0 fp_scX12_fitsRow_0 := show cX12_fitsRow.data.toList.map UInt8.toNat = fp_scX12_fitsRow_0 from by decide +kernel
theorem fp_hdX12_fitsRow_0 : (((((decode cX12_fitsRow 0 = .ok (.sipush 370, 3) ∧ decode cX12_fitsRow 3 = .ok (.bipush 9, 2)) ∧ (decode cX12_fitsRow 5 = .ok (.iload_n 1, 1) ∧ decode cX12_fitsRow 6 = .ok (.imul, 1))) ∧ ((decode cX12_fitsRow 7 = .ok (.iadd, 1) ∧ decode cX12_fitsRow 8 = .ok (.istore_n 3, 1)) ∧ (decode cX12_fitsRow 9 = .ok (.aload_n 0, 1) ∧ decode cX12_fitsRow 10 = .ok (.getfield 7, 3)))) ∧ (((decode cX12_fitsRow 13 = .ok (.iload_n 3, 1) ∧ decode cX12_fitsRow 14 = .ok (.iload_n 2, 1)) ∧ (decode cX12_fitsRow 15 = .ok (.iastore, 1) ∧ decode cX12_fitsRow 16 = .ok (.iconst 0, 1))) ∧ ((decode cX12_fitsRow 17 = .ok (.istore 4, 2) ∧ decode cX12_fitsRow 19 = .ok (.iload 4, 2)) ∧ (decode cX12_fitsRow 21 = .ok (.iload_n 2, 1) ∧ decode cX12_fitsRow 22 = .ok (.if_icmp .ge 27, 3))))) ∧ ((((decode cX12_fitsRow 25 = .ok (.aload_n 0, 1) ∧ decode cX12_fitsRow 26 = .ok (.getfield 7, 3)) ∧ (decode cX12_fitsRow 29 = .ok (.iload_n 3, 1) ∧ decode cX12_fitsRow 30 = .ok (.iconst 1, 1))) ∧ ((decode cX12_fitsRow 31 = .ok (.iadd, 1) ∧ decode cX12_fitsRow 32 = .ok (.iload 4, 2)) ∧ (decode cX12_fitsRow 34 = .ok (.iadd, 1) ∧ decode cX12_fitsRow 35 = .ok (.aload_n 0, 1)))) ∧ (((decode cX12_fitsRow 36 = .ok (.getfield 63, 3) ∧ decode cX12_fitsRow 39 = .ok (.iload 4, 2)) ∧ (decode cX12_fitsRow 41 = .ok (.iaload, 1) ∧ decode cX12_fitsRow 42 = .ok (.iastore, 1))) ∧ ((decode cX12_fitsRow 43 = .ok (.iinc 4 1, 3) ∧ decode cX12_fitsRow 46 = .ok (.goto (-27), 3)) ∧ (decode cX12_fitsRow 49 = .ok (.iconst 0, 1) ∧ decode cX12_fitsRow 50 = .ok (.istore 4, 2)))))) ∧ bA cX12_fitsRow 52 fp_scX12_fitsRow_1 :=
  have q0 := fp_o17 (v := 370) fp_bcX12_fitsRow rfl
  have q1 := fp_o16 (v := 9) q0.2 rfl
  have q2 := fp_o27 q1.2
  have q3 := fp_o104 q2.2
  have q4 := fp_o96 q3.2
  have q5 := fp_o62 q4.2
  have q6 := fp_o42 q5.2
  have q7 := fp_o180 (v := 7) q6.2 rfl
  have q8 := fp_o29 q7.2
  have q9 := fp_o28 q8.2
  have q10 := fp_o79 q9.2
  have q11 := fp_o3 q10.2
  have q12 := fp_o54 q11.2
  have q13 := fp_o21 q12.2
  have q14 := fp_o28 q13.2
  have q15 := fp_o162 (v := 27) q14.2 rfl
  have q16 := fp_o42 q15.2
  have q17 := fp_o180 (v := 7) q16.2 rfl
  have q18 := fp_o29 q17.2
  have q19 := fp_o4 q18.2
  have q20 := fp_o96 q19.2
  have q21 := fp_o21 q20.2
  have q22 := fp_o96 q21.2
  have q23 := fp_o42 q22.2
  have q24 := fp_o180 (v := 63) q23.2 rfl
  have q25 := fp_o21 q24.2
  have q26 := fp_o46 q25.2
  have q27 := fp_o79 q26.2
  have q28 := fp_o132 (v := 1) q27.2 rfl
  have q29 := fp_o167 (v := (-27)) q28.2 rfl
  have q30 := fp_o3 q29.2
  have q31 := fp_o54 q30.2
  ⟨⟨⟨⟨⟨⟨q0.1, q1.1⟩, ⟨q2.1, q3.1⟩⟩, ⟨⟨q4.1, q5.1⟩, ⟨q6.1, q7.1⟩⟩⟩, ⟨⟨⟨q8.1, q9.1⟩, ⟨q10.1, q11.1⟩⟩, ⟨⟨q12.1, q13.1⟩, ⟨q14.1, q15.1⟩⟩⟩⟩, ⟨⟨⟨⟨q16.1, q17.1⟩, ⟨q18.1, q19.1⟩⟩, ⟨⟨q20.1, q21.1⟩, ⟨q22.1, q23.1⟩⟩⟩, ⟨⟨⟨q24.1, q25.1⟩, ⟨q26.1, q27.1⟩⟩, ⟨⟨q28.1, q29.1⟩, ⟨q30.1, q31.1⟩⟩⟩⟩⟩, q31.2⟩
theorem dX12_fitsRow_0 : decode cX12_fitsRow 0 = .ok (.sipush 370, 3) := fp_hdX12_fitsRow_0.1.1.1.1.1.1
theorem dX12_fitsRow_3 : decode cX12_fitsRow 3 = .ok (.bipush 9, 2) := fp_hdX12_fitsRow_0.1.1.1.1.1.2
theorem dX12_fitsRow_5 : decode cX12_fitsRow 5 = .ok (.iload_n 1, 1) := fp_hdX12_fitsRow_0.1.1.1.1.2.1
theorem dX12_fitsRow_6 : decode cX12_fitsRow 6 = .ok (.imul, 1) := fp_hdX12_fitsRow_0.1.1.1.1.2.2
theorem dX12_fitsRow_7 : decode cX12_fitsRow 7 = .ok (.iadd, 1) := fp_hdX12_fitsRow_0.1.1.1.2.1.1
theorem dX12_fitsRow_8 : decode cX12_fitsRow 8 = .ok (.istore_n 3, 1) := fp_hdX12_fitsRow_0.1.1.1.2.1.2
theorem dX12_fitsRow_9 : decode cX12_fitsRow 9 = .ok (.aload_n 0, 1) := fp_hdX12_fitsRow_0.1.1.1.2.2.1
theorem dX12_fitsRow_10 : decode cX12_fitsRow 10 = .ok (.getfield 7, 3) := fp_hdX12_fitsRow_0.1.1.1.2.2.2
theorem dX12_fitsRow_13 : decode cX12_fitsRow 13 = .ok (.iload_n 3, 1) := fp_hdX12_fitsRow_0.1.1.2.1.1.1
theorem dX12_fitsRow_14 : decode cX12_fitsRow 14 = .ok (.iload_n 2, 1) := fp_hdX12_fitsRow_0.1.1.2.1.1.2
theorem dX12_fitsRow_15 : decode cX12_fitsRow 15 = .ok (.iastore, 1) := fp_hdX12_fitsRow_0.1.1.2.1.2.1
theorem dX12_fitsRow_16 : decode cX12_fitsRow 16 = .ok (.iconst 0, 1) := fp_hdX12_fitsRow_0.1.1.2.1.2.2
theorem dX12_fitsRow_17 : decode cX12_fitsRow 17 = .ok (.istore 4, 2) := fp_hdX12_fitsRow_0.1.1.2.2.1.1
theorem dX12_fitsRow_19 : decode cX12_fitsRow 19 = .ok (.iload 4, 2) := fp_hdX12_fitsRow_0.1.1.2.2.1.2
theorem dX12_fitsRow_21 : decode cX12_fitsRow 21 = .ok (.iload_n 2, 1) := fp_hdX12_fitsRow_0.1.1.2.2.2.1
theorem dX12_fitsRow_22 : decode cX12_fitsRow 22 = .ok (.if_icmp .ge 27, 3) := fp_hdX12_fitsRow_0.1.1.2.2.2.2
theorem dX12_fitsRow_25 : decode cX12_fitsRow 25 = .ok (.aload_n 0, 1) := fp_hdX12_fitsRow_0.1.2.1.1.1.1
theorem dX12_fitsRow_26 : decode cX12_fitsRow 26 = .ok (.getfield 7, 3) := fp_hdX12_fitsRow_0.1.2.1.1.1.2
theorem dX12_fitsRow_29 : decode cX12_fitsRow 29 = .ok (.iload_n 3, 1) := fp_hdX12_fitsRow_0.1.2.1.1.2.1
theorem dX12_fitsRow_30 : decode cX12_fitsRow 30 = .ok (.iconst 1, 1) := fp_hdX12_fitsRow_0.1.2.1.1.2.2
theorem dX12_fitsRow_31 : decode cX12_fitsRow 31 = .ok (.iadd, 1) := fp_hdX12_fitsRow_0.1.2.1.2.1.1
theorem dX12_fitsRow_32 : decode cX12_fitsRow 32 = .ok (.iload 4, 2) := fp_hdX12_fitsRow_0.1.2.1.2.1.2
theorem dX12_fitsRow_34 : decode cX12_fitsRow 34 = .ok (.iadd, 1) := fp_hdX12_fitsRow_0.1.2.1.2.2.1
theorem dX12_fitsRow_35 : decode cX12_fitsRow 35 = .ok (.aload_n 0, 1) := fp_hdX12_fitsRow_0.1.2.1.2.2.2
theorem dX12_fitsRow_36 : decode cX12_fitsRow 36 = .ok (.getfield 63, 3) := fp_hdX12_fitsRow_0.1.2.2.1.1.1
theorem dX12_fitsRow_39 : decode cX12_fitsRow 39 = .ok (.iload 4, 2) := fp_hdX12_fitsRow_0.1.2.2.1.1.2
theorem dX12_fitsRow_41 : decode cX12_fitsRow 41 = .ok (.iaload, 1) := fp_hdX12_fitsRow_0.1.2.2.1.2.1
theorem dX12_fitsRow_42 : decode cX12_fitsRow 42 = .ok (.iastore, 1) := fp_hdX12_fitsRow_0.1.2.2.1.2.2
theorem dX12_fitsRow_43 : decode cX12_fitsRow 43 = .ok (.iinc 4 1, 3) := fp_hdX12_fitsRow_0.1.2.2.2.1.1
theorem dX12_fitsRow_46 : decode cX12_fitsRow 46 = .ok (.goto (-27), 3) := fp_hdX12_fitsRow_0.1.2.2.2.1.2
theorem dX12_fitsRow_49 : decode cX12_fitsRow 49 = .ok (.iconst 0, 1) := fp_hdX12_fitsRow_0.1.2.2.2.2.1
theorem dX12_fitsRow_50 : decode cX12_fitsRow 50 = .ok (.istore 4, 2) := fp_hdX12_fitsRow_0.1.2.2.2.2.2
theorem fp_hdX12_fitsRow_52 : (((((decode cX12_fitsRow 52 = .ok (.iload 4, 2) ∧ decode cX12_fitsRow 54 = .ok (.aload_n 0, 1)) ∧ (decode cX12_fitsRow 55 = .ok (.getfield 7, 3) ∧ decode cX12_fitsRow 58 = .ok (.bipush 104, 2))) ∧ ((decode cX12_fitsRow 60 = .ok (.iaload, 1) ∧ decode cX12_fitsRow 61 = .ok (.if_icmp .ge 51, 3)) ∧ (decode cX12_fitsRow 64 = .ok (.aload_n 0, 1) ∧ decode cX12_fitsRow 65 = .ok (.sipush 360, 3)))) ∧ (((decode cX12_fitsRow 68 = .ok (.iload_n 1, 1) ∧ decode cX12_fitsRow 69 = .ok (.invokevirtual 216, 3)) ∧ (decode cX12_fitsRow 72 = .ok (.istore 5, 2) ∧ decode cX12_fitsRow 74 = .ok (.iload 5, 2))) ∧ ((decode cX12_fitsRow 76 = .ok (.bipush (-4), 2) ∧ decode cX12_fitsRow 78 = .ok (.if_icmp .eq 26, 3)) ∧ (decode cX12_fitsRow 81 = .ok (.aload_n 0, 1) ∧ decode cX12_fitsRow 82 = .ok (.sipush 360, 3))))) ∧ ((((decode cX12_fitsRow 85 = .ok (.iload_n 1, 1) ∧ decode cX12_fitsRow 86 = .ok (.iload 5, 2)) ∧ (decode cX12_fitsRow 88 = .ok (.invokevirtual 241, 3) ∧ decode cX12_fitsRow 91 = .ok (.aload_n 0, 1))) ∧ ((decode cX12_fitsRow 92 = .ok (.getfield 7, 3) ∧ decode cX12_fitsRow 95 = .ok (.bipush 96, 2)) ∧ (decode cX12_fitsRow 97 = .ok (.iload 4, 2) ∧ decode cX12_fitsRow 99 = .ok (.iadd, 1)))) ∧ (((decode cX12_fitsRow 100 = .ok (.iaload, 1) ∧ decode cX12_fitsRow 101 = .ok (.if_icmp .eq 5, 3)) ∧ (decode cX12_fitsRow 104 = .ok (.iconst 0, 1) ∧ decode cX12_fitsRow 105 = .ok (.ireturn, 1))) ∧ ((decode cX12_fitsRow 106 = .ok (.iinc 4 1, 3) ∧ decode cX12_fitsRow 109 = .ok (.goto (-57), 3)) ∧ (decode cX12_fitsRow 112 = .ok (.iconst 1, 1) ∧ decode cX12_fitsRow 113 = .ok (.ireturn, 1)))))) ∧ bA cX12_fitsRow 114 [] :=
  have q0 := fp_o21 fp_hdX12_fitsRow_0.2
  have q1 := fp_o42 q0.2
  have q2 := fp_o180 (v := 7) q1.2 rfl
  have q3 := fp_o16 (v := 104) q2.2 rfl
  have q4 := fp_o46 q3.2
  have q5 := fp_o162 (v := 51) q4.2 rfl
  have q6 := fp_o42 q5.2
  have q7 := fp_o17 (v := 360) q6.2 rfl
  have q8 := fp_o27 q7.2
  have q9 := fp_o182 (v := 216) q8.2 rfl
  have q10 := fp_o54 q9.2
  have q11 := fp_o21 q10.2
  have q12 := fp_o16 (v := (-4)) q11.2 rfl
  have q13 := fp_o159 (v := 26) q12.2 rfl
  have q14 := fp_o42 q13.2
  have q15 := fp_o17 (v := 360) q14.2 rfl
  have q16 := fp_o27 q15.2
  have q17 := fp_o21 q16.2
  have q18 := fp_o182 (v := 241) q17.2 rfl
  have q19 := fp_o42 q18.2
  have q20 := fp_o180 (v := 7) q19.2 rfl
  have q21 := fp_o16 (v := 96) q20.2 rfl
  have q22 := fp_o21 q21.2
  have q23 := fp_o96 q22.2
  have q24 := fp_o46 q23.2
  have q25 := fp_o159 (v := 5) q24.2 rfl
  have q26 := fp_o3 q25.2
  have q27 := fp_o172 q26.2
  have q28 := fp_o132 (v := 1) q27.2 rfl
  have q29 := fp_o167 (v := (-57)) q28.2 rfl
  have q30 := fp_o4 q29.2
  have q31 := fp_o172 q30.2
  ⟨⟨⟨⟨⟨⟨q0.1, q1.1⟩, ⟨q2.1, q3.1⟩⟩, ⟨⟨q4.1, q5.1⟩, ⟨q6.1, q7.1⟩⟩⟩, ⟨⟨⟨q8.1, q9.1⟩, ⟨q10.1, q11.1⟩⟩, ⟨⟨q12.1, q13.1⟩, ⟨q14.1, q15.1⟩⟩⟩⟩, ⟨⟨⟨⟨q16.1, q17.1⟩, ⟨q18.1, q19.1⟩⟩, ⟨⟨q20.1, q21.1⟩, ⟨q22.1, q23.1⟩⟩⟩, ⟨⟨⟨q24.1, q25.1⟩, ⟨q26.1, q27.1⟩⟩, ⟨⟨q28.1, q29.1⟩, ⟨q30.1, q31.1⟩⟩⟩⟩⟩, q31.2⟩
theorem dX12_fitsRow_52 : decode cX12_fitsRow 52 = .ok (.iload 4, 2) := fp_hdX12_fitsRow_52.1.1.1.1.1.1
theorem dX12_fitsRow_54 : decode cX12_fitsRow 54 = .ok (.aload_n 0, 1) := fp_hdX12_fitsRow_52.1.1.1.1.1.2
theorem dX12_fitsRow_55 : decode cX12_fitsRow 55 = .ok (.getfield 7, 3) := fp_hdX12_fitsRow_52.1.1.1.1.2.1
theorem dX12_fitsRow_58 : decode cX12_fitsRow 58 = .ok (.bipush 104, 2) := fp_hdX12_fitsRow_52.1.1.1.1.2.2
theorem dX12_fitsRow_60 : decode cX12_fitsRow 60 = .ok (.iaload, 1) := fp_hdX12_fitsRow_52.1.1.1.2.1.1
theorem dX12_fitsRow_61 : decode cX12_fitsRow 61 = .ok (.if_icmp .ge 51, 3) := fp_hdX12_fitsRow_52.1.1.1.2.1.2
theorem dX12_fitsRow_64 : decode cX12_fitsRow 64 = .ok (.aload_n 0, 1) := fp_hdX12_fitsRow_52.1.1.1.2.2.1
theorem dX12_fitsRow_65 : decode cX12_fitsRow 65 = .ok (.sipush 360, 3) := fp_hdX12_fitsRow_52.1.1.1.2.2.2
theorem dX12_fitsRow_68 : decode cX12_fitsRow 68 = .ok (.iload_n 1, 1) := fp_hdX12_fitsRow_52.1.1.2.1.1.1
theorem dX12_fitsRow_69 : decode cX12_fitsRow 69 = .ok (.invokevirtual 216, 3) := fp_hdX12_fitsRow_52.1.1.2.1.1.2
theorem dX12_fitsRow_72 : decode cX12_fitsRow 72 = .ok (.istore 5, 2) := fp_hdX12_fitsRow_52.1.1.2.1.2.1
theorem dX12_fitsRow_74 : decode cX12_fitsRow 74 = .ok (.iload 5, 2) := fp_hdX12_fitsRow_52.1.1.2.1.2.2
theorem dX12_fitsRow_76 : decode cX12_fitsRow 76 = .ok (.bipush (-4), 2) := fp_hdX12_fitsRow_52.1.1.2.2.1.1
theorem dX12_fitsRow_78 : decode cX12_fitsRow 78 = .ok (.if_icmp .eq 26, 3) := fp_hdX12_fitsRow_52.1.1.2.2.1.2
theorem dX12_fitsRow_81 : decode cX12_fitsRow 81 = .ok (.aload_n 0, 1) := fp_hdX12_fitsRow_52.1.1.2.2.2.1
theorem dX12_fitsRow_82 : decode cX12_fitsRow 82 = .ok (.sipush 360, 3) := fp_hdX12_fitsRow_52.1.1.2.2.2.2
theorem dX12_fitsRow_85 : decode cX12_fitsRow 85 = .ok (.iload_n 1, 1) := fp_hdX12_fitsRow_52.1.2.1.1.1.1
theorem dX12_fitsRow_86 : decode cX12_fitsRow 86 = .ok (.iload 5, 2) := fp_hdX12_fitsRow_52.1.2.1.1.1.2
theorem dX12_fitsRow_88 : decode cX12_fitsRow 88 = .ok (.invokevirtual 241, 3) := fp_hdX12_fitsRow_52.1.2.1.1.2.1
theorem dX12_fitsRow_91 : decode cX12_fitsRow 91 = .ok (.aload_n 0, 1) := fp_hdX12_fitsRow_52.1.2.1.1.2.2
theorem dX12_fitsRow_92 : decode cX12_fitsRow 92 = .ok (.getfield 7, 3) := fp_hdX12_fitsRow_52.1.2.1.2.1.1
theorem dX12_fitsRow_95 : decode cX12_fitsRow 95 = .ok (.bipush 96, 2) := fp_hdX12_fitsRow_52.1.2.1.2.1.2
theorem dX12_fitsRow_97 : decode cX12_fitsRow 97 = .ok (.iload 4, 2) := fp_hdX12_fitsRow_52.1.2.1.2.2.1
theorem dX12_fitsRow_99 : decode cX12_fitsRow 99 = .ok (.iadd, 1) := fp_hdX12_fitsRow_52.1.2.1.2.2.2
theorem dX12_fitsRow_100 : decode cX12_fitsRow 100 = .ok (.iaload, 1) := fp_hdX12_fitsRow_52.1.2.2.1.1.1
theorem dX12_fitsRow_101 : decode cX12_fitsRow 101 = .ok (.if_icmp .eq 5, 3) := fp_hdX12_fitsRow_52.1.2.2.1.1.2
theorem dX12_fitsRow_104 : decode cX12_fitsRow 104 = .ok (.iconst 0, 1) := fp_hdX12_fitsRow_52.1.2.2.1.2.1
theorem dX12_fitsRow_105 : decode cX12_fitsRow 105 = .ok (.ireturn, 1) := fp_hdX12_fitsRow_52.1.2.2.1.2.2
theorem dX12_fitsRow_106 : decode cX12_fitsRow 106 = .ok (.iinc 4 1, 3) := fp_hdX12_fitsRow_52.1.2.2.2.1.1
theorem dX12_fitsRow_109 : decode cX12_fitsRow 109 = .ok (.goto (-57), 3) := fp_hdX12_fitsRow_52.1.2.2.2.1.2
theorem dX12_fitsRow_112 : decode cX12_fitsRow 112 = .ok (.iconst 1, 1) := fp_hdX12_fitsRow_52.1.2.2.2.2.1
theorem dX12_fitsRow_113 : decode cX12_fitsRow 113 = .ok (.ireturn, 1) := fp_hdX12_fitsRow_52.1.2.2.2.2.2
def fp_scX12_nextRow_2 : List Nat := 21 :: 5 :: 21 :: 6 :: 162 :: 0 :: 44 :: 42 :: 180 :: 0 :: 63 :: 21 :: 5 :: 46 :: 54 :: 4 :: 42 :: 180 :: 0 :: 63 :: 21 :: 5 :: 42 :: 180 :: 0 :: 63 :: 21 :: 6 :: 46 :: 79 :: 42 :: 180 :: 0 :: 63 :: 21 :: 6 :: 21 :: 4 :: 79 :: 132 :: 5 :: 1 :: 132 :: 6 :: 255 :: 167 :: 255 :: 211 :: 4 :: 172 :: []
def fp_scX12_nextRow_1 : List Nat := 180 :: 0 :: 63 :: 28 :: 46 :: 162 :: 0 :: 9 :: 132 :: 3 :: 255 :: 167 :: 255 :: 238 :: 42 :: 180 :: 0 :: 63 :: 28 :: 46 :: 54 :: 4 :: 42 :: 180 :: 0 :: 63 :: 28 :: 42 :: 180 :: 0 :: 63 :: 29 :: 46 :: 79 :: 42 :: 180 :: 0 :: 63 :: 29 :: 21 :: 4 :: 79 :: 28 :: 4 :: 96 :: 54 :: 5 :: 27 :: 4 :: 100 :: 54 :: 6 :: fp_scX12_nextRow_2
def fp_scX12_nextRow_0 : List Nat := 27 :: 5 :: 100 :: 61 :: 28 :: 155 :: 0 :: 26 :: 42 :: 180 :: 0 :: 63 :: 28 :: 46 :: 42 :: 180 :: 0 :: 63 :: 28 :: 4 :: 96 :: 46 :: 164 :: 0 :: 9 :: 132 :: 2 :: 255 :: 167 :: 255 :: 232 :: 28 :: 156 :: 0 :: 5 :: 3 :: 172 :: 27 :: 4 :: 100 :: 62 :: 42 :: 180 :: 0 :: 63 :: 29 :: 46 :: 42 :: fp_scX12_nextRow_1
theorem fp_bcX12_nextRow : bA cX12_nextRow 0 fp_scX12_nextRow_0 := show cX12_nextRow.data.toList.map UInt8.toNat = fp_scX12_nextRow_0 from by decide +kernel
theorem fp_hdX12_nextRow_0 : (((((decode cX12_nextRow 0 = .ok (.iload_n 1, 1) ∧ decode cX12_nextRow 1 = .ok (.iconst 2, 1)) ∧ (decode cX12_nextRow 2 = .ok (.isub, 1) ∧ decode cX12_nextRow 3 = .ok (.istore_n 2, 1))) ∧ ((decode cX12_nextRow 4 = .ok (.iload_n 2, 1) ∧ decode cX12_nextRow 5 = .ok (.ifCond .lt 26, 3)) ∧ (decode cX12_nextRow 8 = .ok (.aload_n 0, 1) ∧ decode cX12_nextRow 9 = .ok (.getfield 63, 3)))) ∧ (((decode cX12_nextRow 12 = .ok (.iload_n 2, 1) ∧ decode cX12_nextRow 13 = .ok (.iaload, 1)) ∧ (decode cX12_nextRow 14 = .ok (.aload_n 0, 1) ∧ decode cX12_nextRow 15 = .ok (.getfield 63, 3))) ∧ ((decode cX12_nextRow 18 = .ok (.iload_n 2, 1) ∧ decode cX12_nextRow 19 = .ok (.iconst 1, 1)) ∧ (decode cX12_nextRow 20 = .ok (.iadd, 1) ∧ decode cX12_nextRow 21 = .ok (.iaload, 1))))) ∧ ((((decode cX12_nextRow 22 = .ok (.if_icmp .le 9, 3) ∧ decode cX12_nextRow 25 = .ok (.iinc 2 (-1), 3)) ∧ (decode cX12_nextRow 28 = .ok (.goto (-24), 3) ∧ decode cX12_nextRow 31 = .ok (.iload_n 2, 1))) ∧ ((decode cX12_nextRow 32 = .ok (.ifCond .ge 5, 3) ∧ decode cX12_nextRow 35 = .ok (.iconst 0, 1)) ∧ (decode cX12_nextRow 36 = .ok (.ireturn, 1) ∧ decode cX12_nextRow 37 = .ok (.iload_n 1, 1)))) ∧ (((decode cX12_nextRow 38 = .ok (.iconst 1, 1) ∧ decode cX12_nextRow 39 = .ok (.isub, 1)) ∧ (decode cX12_nextRow 40 = .ok (.istore_n 3, 1) ∧ decode cX12_nextRow 41 = .ok (.aload_n 0, 1))) ∧ ((decode cX12_nextRow 42 = .ok (.getfield 63, 3) ∧ decode cX12_nextRow 45 = .ok (.iload_n 3, 1)) ∧ (decode cX12_nextRow 46 = .ok (.iaload, 1) ∧ decode cX12_nextRow 47 = .ok (.aload_n 0, 1)))))) ∧ bA cX12_nextRow 48 fp_scX12_nextRow_1 :=
  have q0 := fp_o27 fp_bcX12_nextRow
  have q1 := fp_o5 q0.2
  have q2 := fp_o100 q1.2
  have q3 := fp_o61 q2.2
  have q4 := fp_o28 q3.2
  have q5 := fp_o155 (v := 26) q4.2 rfl
  have q6 := fp_o42 q5.2
  have q7 := fp_o180 (v := 63) q6.2 rfl
  have q8 := fp_o28 q7.2
  have q9 := fp_o46 q8.2
  have q10 := fp_o42 q9.2
  have q11 := fp_o180 (v := 63) q10.2 rfl
  have q12 := fp_o28 q11.2
  have q13 := fp_o4 q12.2
  have q14 := fp_o96 q13.2
  have q15 := fp_o46 q14.2
  have q16 := fp_o164 (v := 9) q15.2 rfl
  have q17 := fp_o132 (v := (-1)) q16.2 rfl
  have q18 := fp_o167 (v := (-24)) q17.2 rfl
  have q19 := fp_o28 q18.2
  have q20 := fp_o156 (v := 5) q19.2 rfl
  have q21 := fp_o3 q20.2
  have q22 := fp_o172 q21.2
  have q23 := fp_o27 q22.2
  have q24 := fp_o4 q23.2
  have q25 := fp_o100 q24.2
  have q26 := fp_o62 q25.2
  have q27 := fp_o42 q26.2
  have q28 := fp_o180 (v := 63) q27.2 rfl
  have q29 := fp_o29 q28.2
  have q30 := fp_o46 q29.2
  have q31 := fp_o42 q30.2
  ⟨⟨⟨⟨⟨⟨q0.1, q1.1⟩, ⟨q2.1, q3.1⟩⟩, ⟨⟨q4.1, q5.1⟩, ⟨q6.1, q7.1⟩⟩⟩, ⟨⟨⟨q8.1, q9.1⟩, ⟨q10.1, q11.1⟩⟩, ⟨⟨q12.1, q13.1⟩, ⟨q14.1, q15.1⟩⟩⟩⟩, ⟨⟨⟨⟨q16.1, q17.1⟩, ⟨q18.1, q19.1⟩⟩, ⟨⟨q20.1, q21.1⟩, ⟨q22.1, q23.1⟩⟩⟩, ⟨⟨⟨q24.1, q25.1⟩, ⟨q26.1, q27.1⟩⟩, ⟨⟨q28.1, q29.1⟩, ⟨q30.1, q31.1⟩⟩⟩⟩⟩, q31.2⟩
theorem dX12_nextRow_0 : decode cX12_nextRow 0 = .ok (.iload_n 1, 1) := fp_hdX12_nextRow_0.1.1.1.1.1.1
theorem dX12_nextRow_1 : decode cX12_nextRow 1 = .ok (.iconst 2, 1) := fp_hdX12_nextRow_0.1.1.1.1.1.2
theorem dX12_nextRow_2 : decode cX12_nextRow 2 = .ok (.isub, 1) := fp_hdX12_nextRow_0.1.1.1.1.2.1
theorem dX12_nextRow_3 : decode cX12_nextRow 3 = .ok (.istore_n 2, 1) := fp_hdX12_nextRow_0.1.1.1.1.2.2
theorem dX12_nextRow_4 : decode cX12_nextRow 4 = .ok (.iload_n 2, 1) := fp_hdX12_nextRow_0.1.1.1.2.1.1
theorem dX12_nextRow_5 : decode cX12_nextRow 5 = .ok (.ifCond .lt 26, 3) := fp_hdX12_nextRow_0.1.1.1.2.1.2
theorem dX12_nextRow_8 : decode cX12_nextRow 8 = .ok (.aload_n 0, 1) := fp_hdX12_nextRow_0.1.1.1.2.2.1
theorem dX12_nextRow_9 : decode cX12_nextRow 9 = .ok (.getfield 63, 3) := fp_hdX12_nextRow_0.1.1.1.2.2.2
theorem dX12_nextRow_12 : decode cX12_nextRow 12 = .ok (.iload_n 2, 1) := fp_hdX12_nextRow_0.1.1.2.1.1.1
theorem dX12_nextRow_13 : decode cX12_nextRow 13 = .ok (.iaload, 1) := fp_hdX12_nextRow_0.1.1.2.1.1.2
theorem dX12_nextRow_14 : decode cX12_nextRow 14 = .ok (.aload_n 0, 1) := fp_hdX12_nextRow_0.1.1.2.1.2.1
theorem dX12_nextRow_15 : decode cX12_nextRow 15 = .ok (.getfield 63, 3) := fp_hdX12_nextRow_0.1.1.2.1.2.2
theorem dX12_nextRow_18 : decode cX12_nextRow 18 = .ok (.iload_n 2, 1) := fp_hdX12_nextRow_0.1.1.2.2.1.1
theorem dX12_nextRow_19 : decode cX12_nextRow 19 = .ok (.iconst 1, 1) := fp_hdX12_nextRow_0.1.1.2.2.1.2
theorem dX12_nextRow_20 : decode cX12_nextRow 20 = .ok (.iadd, 1) := fp_hdX12_nextRow_0.1.1.2.2.2.1
theorem dX12_nextRow_21 : decode cX12_nextRow 21 = .ok (.iaload, 1) := fp_hdX12_nextRow_0.1.1.2.2.2.2
theorem dX12_nextRow_22 : decode cX12_nextRow 22 = .ok (.if_icmp .le 9, 3) := fp_hdX12_nextRow_0.1.2.1.1.1.1
theorem dX12_nextRow_25 : decode cX12_nextRow 25 = .ok (.iinc 2 (-1), 3) := fp_hdX12_nextRow_0.1.2.1.1.1.2
theorem dX12_nextRow_28 : decode cX12_nextRow 28 = .ok (.goto (-24), 3) := fp_hdX12_nextRow_0.1.2.1.1.2.1
theorem dX12_nextRow_31 : decode cX12_nextRow 31 = .ok (.iload_n 2, 1) := fp_hdX12_nextRow_0.1.2.1.1.2.2
theorem dX12_nextRow_32 : decode cX12_nextRow 32 = .ok (.ifCond .ge 5, 3) := fp_hdX12_nextRow_0.1.2.1.2.1.1
theorem dX12_nextRow_35 : decode cX12_nextRow 35 = .ok (.iconst 0, 1) := fp_hdX12_nextRow_0.1.2.1.2.1.2
theorem dX12_nextRow_36 : decode cX12_nextRow 36 = .ok (.ireturn, 1) := fp_hdX12_nextRow_0.1.2.1.2.2.1
theorem dX12_nextRow_37 : decode cX12_nextRow 37 = .ok (.iload_n 1, 1) := fp_hdX12_nextRow_0.1.2.1.2.2.2
theorem dX12_nextRow_38 : decode cX12_nextRow 38 = .ok (.iconst 1, 1) := fp_hdX12_nextRow_0.1.2.2.1.1.1
theorem dX12_nextRow_39 : decode cX12_nextRow 39 = .ok (.isub, 1) := fp_hdX12_nextRow_0.1.2.2.1.1.2
theorem dX12_nextRow_40 : decode cX12_nextRow 40 = .ok (.istore_n 3, 1) := fp_hdX12_nextRow_0.1.2.2.1.2.1
theorem dX12_nextRow_41 : decode cX12_nextRow 41 = .ok (.aload_n 0, 1) := fp_hdX12_nextRow_0.1.2.2.1.2.2
theorem dX12_nextRow_42 : decode cX12_nextRow 42 = .ok (.getfield 63, 3) := fp_hdX12_nextRow_0.1.2.2.2.1.1
theorem dX12_nextRow_45 : decode cX12_nextRow 45 = .ok (.iload_n 3, 1) := fp_hdX12_nextRow_0.1.2.2.2.1.2
theorem dX12_nextRow_46 : decode cX12_nextRow 46 = .ok (.iaload, 1) := fp_hdX12_nextRow_0.1.2.2.2.2.1
theorem dX12_nextRow_47 : decode cX12_nextRow 47 = .ok (.aload_n 0, 1) := fp_hdX12_nextRow_0.1.2.2.2.2.2
theorem fp_hdX12_nextRow_48 : (((((decode cX12_nextRow 48 = .ok (.getfield 63, 3) ∧ decode cX12_nextRow 51 = .ok (.iload_n 2, 1)) ∧ (decode cX12_nextRow 52 = .ok (.iaload, 1) ∧ decode cX12_nextRow 53 = .ok (.if_icmp .ge 9, 3))) ∧ ((decode cX12_nextRow 56 = .ok (.iinc 3 (-1), 3) ∧ decode cX12_nextRow 59 = .ok (.goto (-18), 3)) ∧ (decode cX12_nextRow 62 = .ok (.aload_n 0, 1) ∧ decode cX12_nextRow 63 = .ok (.getfield 63, 3)))) ∧ (((decode cX12_nextRow 66 = .ok (.iload_n 2, 1) ∧ decode cX12_nextRow 67 = .ok (.iaload, 1)) ∧ (decode cX12_nextRow 68 = .ok (.istore 4, 2) ∧ decode cX12_nextRow 70 = .ok (.aload_n 0, 1))) ∧ ((decode cX12_nextRow 71 = .ok (.getfield 63, 3) ∧ decode cX12_nextRow 74 = .ok (.iload_n 2, 1)) ∧ (decode cX12_nextRow 75 = .ok (.aload_n 0, 1) ∧ decode cX12_nextRow 76 = .ok (.getfield 63, 3))))) ∧ ((((decode cX12_nextRow 79 = .ok (.iload_n 3, 1) ∧ decode cX12_nextRow 80 = .ok (.iaload, 1)) ∧ (decode cX12_nextRow 81 = .ok (.iastore, 1) ∧ decode cX12_nextRow 82 = .ok (.aload_n 0, 1))) ∧ ((decode cX12_nextRow 83 = .ok (.getfield 63, 3) ∧ decode cX12_nextRow 86 = .ok (.iload_n 3, 1)) ∧ (decode cX12_nextRow 87 = .ok (.iload 4, 2) ∧ decode cX12_nextRow 89 = .ok (.iastore, 1)))) ∧ (((decode cX12_nextRow 90 = .ok (.iload_n 2, 1) ∧ decode cX12_nextRow 91 = .ok (.iconst 1, 1)) ∧ (decode cX12_nextRow 92 = .ok (.iadd, 1) ∧ decode cX12_nextRow 93 = .ok (.istore 5, 2))) ∧ ((decode cX12_nextRow 95 = .ok (.iload_n 1, 1) ∧ decode cX12_nextRow 96 = .ok (.iconst 1, 1)) ∧ (decode cX12_nextRow 97 = .ok (.isub, 1) ∧ decode cX12_nextRow 98 = .ok (.istore 6, 2)))))) ∧ bA cX12_nextRow 100 fp_scX12_nextRow_2 :=
  have q0 := fp_o180 (v := 63) fp_hdX12_nextRow_0.2 rfl
  have q1 := fp_o28 q0.2
  have q2 := fp_o46 q1.2
  have q3 := fp_o162 (v := 9) q2.2 rfl
  have q4 := fp_o132 (v := (-1)) q3.2 rfl
  have q5 := fp_o167 (v := (-18)) q4.2 rfl
  have q6 := fp_o42 q5.2
  have q7 := fp_o180 (v := 63) q6.2 rfl
  have q8 := fp_o28 q7.2
  have q9 := fp_o46 q8.2
  have q10 := fp_o54 q9.2
  have q11 := fp_o42 q10.2
  have q12 := fp_o180 (v := 63) q11.2 rfl
  have q13 := fp_o28 q12.2
  have q14 := fp_o42 q13.2
  have q15 := fp_o180 (v := 63) q14.2 rfl
  have q16 := fp_o29 q15.2
  have q17 := fp_o46 q16.2
  have q18 := fp_o79 q17.2
  have q19 := fp_o42 q18.2
  have q20 := fp_o180 (v := 63) q19.2 rfl
  have q21 := fp_o29 q20.2
  have q22 := fp_o21 q21.2
  have q23 := fp_o79 q22.2
  have q24 := fp_o28 q23.2
  have q25 := fp_o4 q24.2
  have q26 := fp_o96 q25.2
  have q27 := fp_o54 q26.2
  have q28 := fp_o27 q27.2
  have q29 := fp_o4 q28.2
  have q30 := fp_o100 q29.2
  have q31 := fp_o54 q30.2
  ⟨⟨⟨⟨⟨⟨q0.1, q1.1⟩, ⟨q2.1, q3.1⟩⟩, ⟨⟨q4.1, q5.1⟩, ⟨q6.1, q7.1⟩⟩⟩, ⟨⟨⟨q8.1, q9.1⟩, ⟨q10.1, q11.1⟩⟩, ⟨⟨q12.1, q13.1⟩, ⟨q14.1, q15.1⟩⟩⟩⟩, ⟨⟨⟨⟨q16.1, q17.1⟩, ⟨q18.1, q19.1⟩⟩, ⟨⟨q20.1, q21.1⟩, ⟨q22.1, q23.1⟩⟩⟩, ⟨⟨⟨q24.1, q25.1⟩, ⟨q26.1, q27.1⟩⟩, ⟨⟨q28.1, q29.1⟩, ⟨q30.1, q31.1⟩⟩⟩⟩⟩, q31.2⟩
theorem dX12_nextRow_48 : decode cX12_nextRow 48 = .ok (.getfield 63, 3) := fp_hdX12_nextRow_48.1.1.1.1.1.1
theorem dX12_nextRow_51 : decode cX12_nextRow 51 = .ok (.iload_n 2, 1) := fp_hdX12_nextRow_48.1.1.1.1.1.2
theorem dX12_nextRow_52 : decode cX12_nextRow 52 = .ok (.iaload, 1) := fp_hdX12_nextRow_48.1.1.1.1.2.1
theorem dX12_nextRow_53 : decode cX12_nextRow 53 = .ok (.if_icmp .ge 9, 3) := fp_hdX12_nextRow_48.1.1.1.1.2.2
theorem dX12_nextRow_56 : decode cX12_nextRow 56 = .ok (.iinc 3 (-1), 3) := fp_hdX12_nextRow_48.1.1.1.2.1.1
theorem dX12_nextRow_59 : decode cX12_nextRow 59 = .ok (.goto (-18), 3) := fp_hdX12_nextRow_48.1.1.1.2.1.2
theorem dX12_nextRow_62 : decode cX12_nextRow 62 = .ok (.aload_n 0, 1) := fp_hdX12_nextRow_48.1.1.1.2.2.1
theorem dX12_nextRow_63 : decode cX12_nextRow 63 = .ok (.getfield 63, 3) := fp_hdX12_nextRow_48.1.1.1.2.2.2
theorem dX12_nextRow_66 : decode cX12_nextRow 66 = .ok (.iload_n 2, 1) := fp_hdX12_nextRow_48.1.1.2.1.1.1
theorem dX12_nextRow_67 : decode cX12_nextRow 67 = .ok (.iaload, 1) := fp_hdX12_nextRow_48.1.1.2.1.1.2
theorem dX12_nextRow_68 : decode cX12_nextRow 68 = .ok (.istore 4, 2) := fp_hdX12_nextRow_48.1.1.2.1.2.1
theorem dX12_nextRow_70 : decode cX12_nextRow 70 = .ok (.aload_n 0, 1) := fp_hdX12_nextRow_48.1.1.2.1.2.2
theorem dX12_nextRow_71 : decode cX12_nextRow 71 = .ok (.getfield 63, 3) := fp_hdX12_nextRow_48.1.1.2.2.1.1
theorem dX12_nextRow_74 : decode cX12_nextRow 74 = .ok (.iload_n 2, 1) := fp_hdX12_nextRow_48.1.1.2.2.1.2
theorem dX12_nextRow_75 : decode cX12_nextRow 75 = .ok (.aload_n 0, 1) := fp_hdX12_nextRow_48.1.1.2.2.2.1
theorem dX12_nextRow_76 : decode cX12_nextRow 76 = .ok (.getfield 63, 3) := fp_hdX12_nextRow_48.1.1.2.2.2.2
theorem dX12_nextRow_79 : decode cX12_nextRow 79 = .ok (.iload_n 3, 1) := fp_hdX12_nextRow_48.1.2.1.1.1.1
theorem dX12_nextRow_80 : decode cX12_nextRow 80 = .ok (.iaload, 1) := fp_hdX12_nextRow_48.1.2.1.1.1.2
theorem dX12_nextRow_81 : decode cX12_nextRow 81 = .ok (.iastore, 1) := fp_hdX12_nextRow_48.1.2.1.1.2.1
theorem dX12_nextRow_82 : decode cX12_nextRow 82 = .ok (.aload_n 0, 1) := fp_hdX12_nextRow_48.1.2.1.1.2.2
theorem dX12_nextRow_83 : decode cX12_nextRow 83 = .ok (.getfield 63, 3) := fp_hdX12_nextRow_48.1.2.1.2.1.1
theorem dX12_nextRow_86 : decode cX12_nextRow 86 = .ok (.iload_n 3, 1) := fp_hdX12_nextRow_48.1.2.1.2.1.2
theorem dX12_nextRow_87 : decode cX12_nextRow 87 = .ok (.iload 4, 2) := fp_hdX12_nextRow_48.1.2.1.2.2.1
theorem dX12_nextRow_89 : decode cX12_nextRow 89 = .ok (.iastore, 1) := fp_hdX12_nextRow_48.1.2.1.2.2.2
theorem dX12_nextRow_90 : decode cX12_nextRow 90 = .ok (.iload_n 2, 1) := fp_hdX12_nextRow_48.1.2.2.1.1.1
theorem dX12_nextRow_91 : decode cX12_nextRow 91 = .ok (.iconst 1, 1) := fp_hdX12_nextRow_48.1.2.2.1.1.2
theorem dX12_nextRow_92 : decode cX12_nextRow 92 = .ok (.iadd, 1) := fp_hdX12_nextRow_48.1.2.2.1.2.1
theorem dX12_nextRow_93 : decode cX12_nextRow 93 = .ok (.istore 5, 2) := fp_hdX12_nextRow_48.1.2.2.1.2.2
theorem dX12_nextRow_95 : decode cX12_nextRow 95 = .ok (.iload_n 1, 1) := fp_hdX12_nextRow_48.1.2.2.2.1.1
theorem dX12_nextRow_96 : decode cX12_nextRow 96 = .ok (.iconst 1, 1) := fp_hdX12_nextRow_48.1.2.2.2.1.2
theorem dX12_nextRow_97 : decode cX12_nextRow 97 = .ok (.isub, 1) := fp_hdX12_nextRow_48.1.2.2.2.2.1
theorem dX12_nextRow_98 : decode cX12_nextRow 98 = .ok (.istore 6, 2) := fp_hdX12_nextRow_48.1.2.2.2.2.2
theorem fp_hdX12_nextRow_100 : (((((decode cX12_nextRow 100 = .ok (.iload 5, 2) ∧ decode cX12_nextRow 102 = .ok (.iload 6, 2)) ∧ (decode cX12_nextRow 104 = .ok (.if_icmp .ge 44, 3) ∧ decode cX12_nextRow 107 = .ok (.aload_n 0, 1))) ∧ ((decode cX12_nextRow 108 = .ok (.getfield 63, 3) ∧ decode cX12_nextRow 111 = .ok (.iload 5, 2)) ∧ decode cX12_nextRow 113 = .ok (.iaload, 1))) ∧ (((decode cX12_nextRow 114 = .ok (.istore 4, 2) ∧ decode cX12_nextRow 116 = .ok (.aload_n 0, 1)) ∧ decode cX12_nextRow 117 = .ok (.getfield 63, 3)) ∧ ((decode cX12_nextRow 120 = .ok (.iload 5, 2) ∧ decode cX12_nextRow 122 = .ok (.aload_n 0, 1)) ∧ decode cX12_nextRow 123 = .ok (.getfield 63, 3)))) ∧ ((((decode cX12_nextRow 126 = .ok (.iload 6, 2) ∧ decode cX12_nextRow 128 = .ok (.iaload, 1)) ∧ (decode cX12_nextRow 129 = .ok (.iastore, 1) ∧ decode cX12_nextRow 130 = .ok (.aload_n 0, 1))) ∧ ((decode cX12_nextRow 131 = .ok (.getfield 63, 3) ∧ decode cX12_nextRow 134 = .ok (.iload 6, 2)) ∧ decode cX12_nextRow 136 = .ok (.iload 4, 2))) ∧ (((decode cX12_nextRow 138 = .ok (.iastore, 1) ∧ decode cX12_nextRow 139 = .ok (.iinc 5 1, 3)) ∧ decode cX12_nextRow 142 = .ok (.iinc 6 (-1), 3)) ∧ ((decode cX12_nextRow 145 = .ok (.goto (-45), 3) ∧ decode cX12_nextRow 148 = .ok (.iconst 1, 1)) ∧ decode cX12_nextRow 149 = .ok (.ireturn, 1))))) ∧ bA cX12_nextRow 150 [] :=
  have q0 := fp_o21 fp_hdX12_nextRow_48.2
  have q1 := fp_o21 q0.2
  have q2 := fp_o162 (v := 44) q1.2 rfl
  have q3 := fp_o42 q2.2
  have q4 := fp_o180 (v := 63) q3.2 rfl
  have q5 := fp_o21 q4.2
  have q6 := fp_o46 q5.2
  have q7 := fp_o54 q6.2
  have q8 := fp_o42 q7.2
  have q9 := fp_o180 (v := 63) q8.2 rfl
  have q10 := fp_o21 q9.2
  have q11 := fp_o42 q10.2
  have q12 := fp_o180 (v := 63) q11.2 rfl
  have q13 := fp_o21 q12.2
  have q14 := fp_o46 q13.2
  have q15 := fp_o79 q14.2
  have q16 := fp_o42 q15.2
  have q17 := fp_o180 (v := 63) q16.2 rfl
  have q18 := fp_o21 q17.2
  have q19 := fp_o21 q18.2
  have q20 := fp_o79 q19.2
  have q21 := fp_o132 (v := 1) q20.2 rfl
  have q22 := fp_o132 (v := (-1)) q21.2 rfl
  have q23 := fp_o167 (v := (-45)) q22.2 rfl
  have q24 := fp_o4 q23.2
  have q25 := fp_o172 q24.2
  ⟨⟨⟨⟨⟨⟨q0.1, q1.1⟩, ⟨q2.1, q3.1⟩⟩, ⟨⟨q4.1, q5.1⟩, q6.1⟩⟩, ⟨⟨⟨q7.1, q8.1⟩, q9.1⟩, ⟨⟨q10.1, q11.1⟩, q12.1⟩⟩⟩, ⟨⟨⟨⟨q13.1, q14.1⟩, ⟨q15.1, q16.1⟩⟩, ⟨⟨q17.1, q18.1⟩, q19.1⟩⟩, ⟨⟨⟨q20.1, q21.1⟩, q22.1⟩, ⟨⟨q23.1, q24.1⟩, q25.1⟩⟩⟩⟩, q25.2⟩
theorem dX12_nextRow_100 : decode cX12_nextRow 100 = .ok (.iload 5, 2) := fp_hdX12_nextRow_100.1.1.1.1.1.1
theorem dX12_nextRow_102 : decode cX12_nextRow 102 = .ok (.iload 6, 2) := fp_hdX12_nextRow_100.1.1.1.1.1.2
theorem dX12_nextRow_104 : decode cX12_nextRow 104 = .ok (.if_icmp .ge 44, 3) := fp_hdX12_nextRow_100.1.1.1.1.2.1
theorem dX12_nextRow_107 : decode cX12_nextRow 107 = .ok (.aload_n 0, 1) := fp_hdX12_nextRow_100.1.1.1.1.2.2
theorem dX12_nextRow_108 : decode cX12_nextRow 108 = .ok (.getfield 63, 3) := fp_hdX12_nextRow_100.1.1.1.2.1.1
theorem dX12_nextRow_111 : decode cX12_nextRow 111 = .ok (.iload 5, 2) := fp_hdX12_nextRow_100.1.1.1.2.1.2
theorem dX12_nextRow_113 : decode cX12_nextRow 113 = .ok (.iaload, 1) := fp_hdX12_nextRow_100.1.1.1.2.2
theorem dX12_nextRow_114 : decode cX12_nextRow 114 = .ok (.istore 4, 2) := fp_hdX12_nextRow_100.1.1.2.1.1.1
theorem dX12_nextRow_116 : decode cX12_nextRow 116 = .ok (.aload_n 0, 1) := fp_hdX12_nextRow_100.1.1.2.1.1.2
theorem dX12_nextRow_117 : decode cX12_nextRow 117 = .ok (.getfield 63, 3) := fp_hdX12_nextRow_100.1.1.2.1.2
theorem dX12_nextRow_120 : decode cX12_nextRow 120 = .ok (.iload 5, 2) := fp_hdX12_nextRow_100.1.1.2.2.1.1
theorem dX12_nextRow_122 : decode cX12_nextRow 122 = .ok (.aload_n 0, 1) := fp_hdX12_nextRow_100.1.1.2.2.1.2
theorem dX12_nextRow_123 : decode cX12_nextRow 123 = .ok (.getfield 63, 3) := fp_hdX12_nextRow_100.1.1.2.2.2
theorem dX12_nextRow_126 : decode cX12_nextRow 126 = .ok (.iload 6, 2) := fp_hdX12_nextRow_100.1.2.1.1.1.1
theorem dX12_nextRow_128 : decode cX12_nextRow 128 = .ok (.iaload, 1) := fp_hdX12_nextRow_100.1.2.1.1.1.2
theorem dX12_nextRow_129 : decode cX12_nextRow 129 = .ok (.iastore, 1) := fp_hdX12_nextRow_100.1.2.1.1.2.1
theorem dX12_nextRow_130 : decode cX12_nextRow 130 = .ok (.aload_n 0, 1) := fp_hdX12_nextRow_100.1.2.1.1.2.2
theorem dX12_nextRow_131 : decode cX12_nextRow 131 = .ok (.getfield 63, 3) := fp_hdX12_nextRow_100.1.2.1.2.1.1
theorem dX12_nextRow_134 : decode cX12_nextRow 134 = .ok (.iload 6, 2) := fp_hdX12_nextRow_100.1.2.1.2.1.2
theorem dX12_nextRow_136 : decode cX12_nextRow 136 = .ok (.iload 4, 2) := fp_hdX12_nextRow_100.1.2.1.2.2
theorem dX12_nextRow_138 : decode cX12_nextRow 138 = .ok (.iastore, 1) := fp_hdX12_nextRow_100.1.2.2.1.1.1
theorem dX12_nextRow_139 : decode cX12_nextRow 139 = .ok (.iinc 5 1, 3) := fp_hdX12_nextRow_100.1.2.2.1.1.2
theorem dX12_nextRow_142 : decode cX12_nextRow 142 = .ok (.iinc 6 (-1), 3) := fp_hdX12_nextRow_100.1.2.2.1.2
theorem dX12_nextRow_145 : decode cX12_nextRow 145 = .ok (.goto (-45), 3) := fp_hdX12_nextRow_100.1.2.2.2.1.1
theorem dX12_nextRow_148 : decode cX12_nextRow 148 = .ok (.iconst 1, 1) := fp_hdX12_nextRow_100.1.2.2.2.1.2
theorem dX12_nextRow_149 : decode cX12_nextRow 149 = .ok (.ireturn, 1) := fp_hdX12_nextRow_100.1.2.2.2.2
def fp_scX12_orders_3 : List Nat := 180 :: 0 :: 66 :: 28 :: 16 :: 10 :: 100 :: 46 :: 172 :: []
def fp_scX12_orders_2 : List Nat := 21 :: 5 :: 154 :: 0 :: 23 :: 42 :: 180 :: 0 :: 66 :: 21 :: 7 :: 42 :: 180 :: 0 :: 63 :: 21 :: 7 :: 46 :: 79 :: 132 :: 7 :: 1 :: 167 :: 255 :: 228 :: 132 :: 5 :: 1 :: 42 :: 29 :: 182 :: 1 :: 59 :: 54 :: 6 :: 167 :: 255 :: 198 :: 28 :: 154 :: 0 :: 8 :: 21 :: 5 :: 167 :: 0 :: 30 :: 21 :: 5 :: 153 :: 0 :: 11 :: 28 :: 16 :: 10 :: 100 :: 29 :: 161 :: 0 :: 8 :: 16 :: 252 :: 167 :: 0 :: 12 :: 42 :: fp_scX12_orders_3
def fp_scX12_orders_1 : List Nat := 42 :: 180 :: 0 :: 7 :: 21 :: 5 :: 46 :: 16 :: 10 :: 27 :: 96 :: 160 :: 0 :: 15 :: 42 :: 180 :: 0 :: 63 :: 21 :: 4 :: 21 :: 5 :: 79 :: 132 :: 4 :: 1 :: 132 :: 5 :: 1 :: 167 :: 255 :: 218 :: 3 :: 54 :: 5 :: 4 :: 54 :: 6 :: 21 :: 6 :: 153 :: 0 :: 59 :: 42 :: 27 :: 29 :: 182 :: 1 :: 56 :: 153 :: 0 :: 40 :: 3 :: 54 :: 7 :: 21 :: 7 :: 29 :: 162 :: 0 :: 28 :: fp_scX12_orders_2
def fp_scX12_orders_0 : List Nat := 42 :: 27 :: 182 :: 0 :: 219 :: 153 :: 0 :: 21 :: 28 :: 153 :: 0 :: 19 :: 28 :: 133 :: 20 :: 0 :: 212 :: 20 :: 1 :: 54 :: 184 :: 0 :: 94 :: 154 :: 0 :: 5 :: 2 :: 172 :: 42 :: 3 :: 27 :: 182 :: 0 :: 198 :: 62 :: 29 :: 16 :: 7 :: 164 :: 0 :: 6 :: 16 :: 254 :: 172 :: 3 :: 54 :: 4 :: 3 :: 54 :: 5 :: 21 :: 5 :: 42 :: 180 :: 0 :: 181 :: 162 :: 0 :: 35 :: fp_scX12_orders_1
theorem fp_bcX12_orders : bA cX12_orders 0 fp_scX12_orders_0 := show cX12_orders.data.toList.map UInt8.toNat = fp_scX12_orders_0 from by decide +kernel
theorem fp_hdX12_orders_0 : (((((decode cX12_orders 0 = .ok (.aload_n 0, 1) ∧ decode cX12_orders 1 = .ok (.iload_n 1, 1)) ∧ (decode cX12_orders 2 = .ok (.invokevirtual 219, 3) ∧ decode cX12_orders 5 = .ok (.ifCond .eq 21, 3))) ∧ ((decode cX12_orders 8 = .ok (.iload_n 2, 1) ∧ decode cX12_orders 9 = .ok (.ifCond .eq 19, 3)) ∧ (decode cX12_orders 12 = .ok (.iload_n 2, 1) ∧ decode cX12_orders 13 = .ok (.i2l, 1)))) ∧ (((decode cX12_orders 14 = .ok (.ldc2_w 212, 3) ∧ decode cX12_orders 17 = .ok (.ldc2_w 310, 3)) ∧ (decode cX12_orders 20 = .ok (.invokestatic 94, 3) ∧ decode cX12_orders 23 = .ok (.ifCond .ne 5, 3))) ∧ ((decode cX12_orders 26 = .ok (.iconst (-1), 1) ∧ decode cX12_orders 27 = .ok (.ireturn, 1)) ∧ (decode cX12_orders 28 = .ok (.aload_n 0, 1) ∧ decode cX12_orders 29 = .ok (.iconst 0, 1))))) ∧ ((((decode cX12_orders 30 = .ok (.iload_n 1, 1) ∧ decode cX12_orders 31 = .ok (.invokevirtual 198, 3)) ∧ (decode cX12_orders 34 = .ok (.istore_n 3, 1) ∧ decode cX12_orders 35 = .ok (.iload_n 3, 1))) ∧ ((decode cX12_orders 36 = .ok (.bipush 7, 2) ∧ decode cX12_orders 38 = .ok (.if_icmp .le 6, 3)) ∧ (decode cX12_orders 41 = .ok (.bipush (-2), 2) ∧ decode cX12_orders 43 = .ok (.ireturn, 1)))) ∧ (((decode cX12_orders 44 = .ok (.iconst 0, 1) ∧ decode cX12_orders 45 = .ok (.istore 4, 2)) ∧ (decode cX12_orders 47 = .ok (.iconst 0, 1) ∧ decode cX12_orders 48 = .ok (.istore 5, 2))) ∧ ((decode cX12_orders 50 = .ok (.iload 5, 2) ∧ decode cX12_orders 52 = .ok (.aload_n 0, 1)) ∧ (decode cX12_orders 53 = .ok (.getfield 181, 3) ∧ decode cX12_orders 56 = .ok (.if_icmp .ge 35, 3)))))) ∧ bA cX12_orders 59 fp_scX12_orders_1 :=
  have q0 := fp_o42 fp_bcX12_orders
  have q1 := fp_o27 q0.2
  have q2 := fp_o182 (v := 219) q1.2 rfl
  have q3 := fp_o153 (v := 21) q2.2 rfl
  have q4 := fp_o28 q3.2
  have q5 := fp_o153 (v := 19) q4.2 rfl
  have q6 := fp_o28 q5.2
  have q7 := fp_o133 q6.2
  have q8 := fp_o20 (v := 212) q7.2 rfl
  have q9 := fp_o20 (v := 310) q8.2 rfl
  have q10 := fp_o184 (v := 94) q9.2 rfl
  have q11 := fp_o154 (v := 5) q10.2 rfl
  have q12 := fp_o2 q11.2
  have q13 := fp_o172 q12.2
  have q14 := fp_o42 q13.2
  have q15 := fp_o3 q14.2
  have q16 := fp_o27 q15.2
  have q17 := fp_o182 (v := 198) q16.2 rfl
  have q18 := fp_o62 q17.2
  have q19 := fp_o29 q18.2
  have q20 := fp_o16 (v := 7) q19.2 rfl
  have q21 := fp_o164 (v := 6) q20.2 rfl
  have q22 := fp_o16 (v := (-2)) q21.2 rfl
  have q23 := fp_o172 q22.2
  have q24 := fp_o3 q23.2
  have q25 := fp_o54 q24.2
  have q26 := fp_o3 q25.2
  have q27 := fp_o54 q26.2
  have q28 := fp_o21 q27.2
  have q29 := fp_o42 q28.2
  have q30 := fp_o180 (v := 181) q29.2 rfl
  have q31 := fp_o162 (v := 35) q30.2 rfl
  ⟨⟨⟨⟨⟨⟨q0.1, q1.1⟩, ⟨q2.1, q3.1⟩⟩, ⟨⟨q4.1, q5.1⟩, ⟨q6.1, q7.1⟩⟩⟩, ⟨⟨⟨q8.1, q9.1⟩, ⟨q10.1, q11.1⟩⟩, ⟨⟨q12.1, q13.1⟩, ⟨q14.1, q15.1⟩⟩⟩⟩, ⟨⟨⟨⟨q16.1, q17.1⟩, ⟨q18.1, q19.1⟩⟩, ⟨⟨q20.1, q21.1⟩, ⟨q22.1, q23.1⟩⟩⟩, ⟨⟨⟨q24.1, q25.1⟩, ⟨q26.1, q27.1⟩⟩, ⟨⟨q28.1, q29.1⟩, ⟨q30.1, q31.1⟩⟩⟩⟩⟩, q31.2⟩
theorem dX12_orders_0 : decode cX12_orders 0 = .ok (.aload_n 0, 1) := fp_hdX12_orders_0.1.1.1.1.1.1
theorem dX12_orders_1 : decode cX12_orders 1 = .ok (.iload_n 1, 1) := fp_hdX12_orders_0.1.1.1.1.1.2
theorem dX12_orders_2 : decode cX12_orders 2 = .ok (.invokevirtual 219, 3) := fp_hdX12_orders_0.1.1.1.1.2.1
theorem dX12_orders_5 : decode cX12_orders 5 = .ok (.ifCond .eq 21, 3) := fp_hdX12_orders_0.1.1.1.1.2.2
theorem dX12_orders_8 : decode cX12_orders 8 = .ok (.iload_n 2, 1) := fp_hdX12_orders_0.1.1.1.2.1.1
theorem dX12_orders_9 : decode cX12_orders 9 = .ok (.ifCond .eq 19, 3) := fp_hdX12_orders_0.1.1.1.2.1.2
theorem dX12_orders_12 : decode cX12_orders 12 = .ok (.iload_n 2, 1) := fp_hdX12_orders_0.1.1.1.2.2.1
theorem dX12_orders_13 : decode cX12_orders 13 = .ok (.i2l, 1) := fp_hdX12_orders_0.1.1.1.2.2.2
theorem dX12_orders_14 : decode cX12_orders 14 = .ok (.ldc2_w 212, 3) := fp_hdX12_orders_0.1.1.2.1.1.1
theorem dX12_orders_17 : decode cX12_orders 17 = .ok (.ldc2_w 310, 3) := fp_hdX12_orders_0.1.1.2.1.1.2
theorem dX12_orders_20 : decode cX12_orders 20 = .ok (.invokestatic 94, 3) := fp_hdX12_orders_0.1.1.2.1.2.1
theorem dX12_orders_23 : decode cX12_orders 23 = .ok (.ifCond .ne 5, 3) := fp_hdX12_orders_0.1.1.2.1.2.2
theorem dX12_orders_26 : decode cX12_orders 26 = .ok (.iconst (-1), 1) := fp_hdX12_orders_0.1.1.2.2.1.1
theorem dX12_orders_27 : decode cX12_orders 27 = .ok (.ireturn, 1) := fp_hdX12_orders_0.1.1.2.2.1.2
theorem dX12_orders_28 : decode cX12_orders 28 = .ok (.aload_n 0, 1) := fp_hdX12_orders_0.1.1.2.2.2.1
theorem dX12_orders_29 : decode cX12_orders 29 = .ok (.iconst 0, 1) := fp_hdX12_orders_0.1.1.2.2.2.2
theorem dX12_orders_30 : decode cX12_orders 30 = .ok (.iload_n 1, 1) := fp_hdX12_orders_0.1.2.1.1.1.1
theorem dX12_orders_31 : decode cX12_orders 31 = .ok (.invokevirtual 198, 3) := fp_hdX12_orders_0.1.2.1.1.1.2
theorem dX12_orders_34 : decode cX12_orders 34 = .ok (.istore_n 3, 1) := fp_hdX12_orders_0.1.2.1.1.2.1
theorem dX12_orders_35 : decode cX12_orders 35 = .ok (.iload_n 3, 1) := fp_hdX12_orders_0.1.2.1.1.2.2
theorem dX12_orders_36 : decode cX12_orders 36 = .ok (.bipush 7, 2) := fp_hdX12_orders_0.1.2.1.2.1.1
theorem dX12_orders_38 : decode cX12_orders 38 = .ok (.if_icmp .le 6, 3) := fp_hdX12_orders_0.1.2.1.2.1.2
theorem dX12_orders_41 : decode cX12_orders 41 = .ok (.bipush (-2), 2) := fp_hdX12_orders_0.1.2.1.2.2.1
theorem dX12_orders_43 : decode cX12_orders 43 = .ok (.ireturn, 1) := fp_hdX12_orders_0.1.2.1.2.2.2
theorem dX12_orders_44 : decode cX12_orders 44 = .ok (.iconst 0, 1) := fp_hdX12_orders_0.1.2.2.1.1.1
theorem dX12_orders_45 : decode cX12_orders 45 = .ok (.istore 4, 2) := fp_hdX12_orders_0.1.2.2.1.1.2
theorem dX12_orders_47 : decode cX12_orders 47 = .ok (.iconst 0, 1) := fp_hdX12_orders_0.1.2.2.1.2.1
theorem dX12_orders_48 : decode cX12_orders 48 = .ok (.istore 5, 2) := fp_hdX12_orders_0.1.2.2.1.2.2
theorem dX12_orders_50 : decode cX12_orders 50 = .ok (.iload 5, 2) := fp_hdX12_orders_0.1.2.2.2.1.1
theorem dX12_orders_52 : decode cX12_orders 52 = .ok (.aload_n 0, 1) := fp_hdX12_orders_0.1.2.2.2.1.2
theorem dX12_orders_53 : decode cX12_orders 53 = .ok (.getfield 181, 3) := fp_hdX12_orders_0.1.2.2.2.2.1
theorem dX12_orders_56 : decode cX12_orders 56 = .ok (.if_icmp .ge 35, 3) := fp_hdX12_orders_0.1.2.2.2.2.2
theorem fp_hdX12_orders_59 : (((((decode cX12_orders 59 = .ok (.aload_n 0, 1) ∧ decode cX12_orders 60 = .ok (.getfield 7, 3)) ∧ (decode cX12_orders 63 = .ok (.iload 5, 2) ∧ decode cX12_orders 65 = .ok (.iaload, 1))) ∧ ((decode cX12_orders 66 = .ok (.bipush 10, 2) ∧ decode cX12_orders 68 = .ok (.iload_n 1, 1)) ∧ (decode cX12_orders 69 = .ok (.iadd, 1) ∧ decode cX12_orders 70 = .ok (.if_icmp .ne 15, 3)))) ∧ (((decode cX12_orders 73 = .ok (.aload_n 0, 1) ∧ decode cX12_orders 74 = .ok (.getfield 63, 3)) ∧ (decode cX12_orders 77 = .ok (.iload 4, 2) ∧ decode cX12_orders 79 = .ok (.iload 5, 2))) ∧ ((decode cX12_orders 81 = .ok (.iastore, 1) ∧ decode cX12_orders 82 = .ok (.iinc 4 1, 3)) ∧ (decode cX12_orders 85 = .ok (.iinc 5 1, 3) ∧ decode cX12_orders 88 = .ok (.goto (-38), 3))))) ∧ ((((decode cX12_orders 91 = .ok (.iconst 0, 1) ∧ decode cX12_orders 92 = .ok (.istore 5, 2)) ∧ (decode cX12_orders 94 = .ok (.iconst 1, 1) ∧ decode cX12_orders 95 = .ok (.istore 6, 2))) ∧ ((decode cX12_orders 97 = .ok (.iload 6, 2) ∧ decode cX12_orders 99 = .ok (.ifCond .eq 59, 3)) ∧ (decode cX12_orders 102 = .ok (.aload_n 0, 1) ∧ decode cX12_orders 103 = .ok (.iload_n 1, 1)))) ∧ (((decode cX12_orders 104 = .ok (.iload_n 3, 1) ∧ decode cX12_orders 105 = .ok (.invokevirtual 312, 3)) ∧ (decode cX12_orders 108 = .ok (.ifCond .eq 40, 3) ∧ decode cX12_orders 111 = .ok (.iconst 0, 1))) ∧ ((decode cX12_orders 112 = .ok (.istore 7, 2) ∧ decode cX12_orders 114 = .ok (.iload 7, 2)) ∧ (decode cX12_orders 116 = .ok (.iload_n 3, 1) ∧ decode cX12_orders 117 = .ok (.if_icmp .ge 28, 3)))))) ∧ bA cX12_orders 120 fp_scX12_orders_2 :=
  have q0 := fp_o42 fp_hdX12_orders_0.2
  have q1 := fp_o180 (v := 7) q0.2 rfl
  have q2 := fp_o21 q1.2
  have q3 := fp_o46 q2.2
  have q4 := fp_o16 (v := 10) q3.2 rfl
  have q5 := fp_o27 q4.2
  have q6 := fp_o96 q5.2
  have q7 := fp_o160 (v := 15) q6.2 rfl
  have q8 := fp_o42 q7.2
  have q9 := fp_o180 (v := 63) q8.2 rfl
  have q10 := fp_o21 q9.2
  have q11 := fp_o21 q10.2
  have q12 := fp_o79 q11.2
  have q13 := fp_o132 (v := 1) q12.2 rfl
  have q14 := fp_o132 (v := 1) q13.2 rfl
  have q15 := fp_o167 (v := (-38)) q14.2 rfl
  have q16 := fp_o3 q15.2
  have q17 := fp_o54 q16.2
  have q18 := fp_o4 q17.2
  have q19 := fp_o54 q18.2
  have q20 := fp_o21 q19.2
  have q21 := fp_o153 (v := 59) q20.2 rfl
  have q22 := fp_o42 q21.2
  have q23 := fp_o27 q22.2
  have q24 := fp_o29 q23.2
  have q25 := fp_o182 (v := 312) q24.2 rfl
  have q26 := fp_o153 (v := 40) q25.2 rfl
  have q27 := fp_o3 q26.2
  have q28 := fp_o54 q27.2
  have q29 := fp_o21 q28.2
  have q30 := fp_o29 q29.2
  have q31 := fp_o162 (v := 28) q30.2 rfl
  ⟨⟨⟨⟨⟨⟨q0.1, q1.1⟩, ⟨q2.1, q3.1⟩⟩, ⟨⟨q4.1, q5.1⟩, ⟨q6.1, q7.1⟩⟩⟩, ⟨⟨⟨q8.1, q9.1⟩, ⟨q10.1, q11.1⟩⟩, ⟨⟨q12.1, q13.1⟩, ⟨q14.1, q15.1⟩⟩⟩⟩, ⟨⟨⟨⟨q16.1, q17.1⟩, ⟨q18.1, q19.1⟩⟩, ⟨⟨q20.1, q21.1⟩, ⟨q22.1, q23.1⟩⟩⟩, ⟨⟨⟨q24.1, q25.1⟩, ⟨q26.1, q27.1⟩⟩, ⟨⟨q28.1, q29.1⟩, ⟨q30.1, q31.1⟩⟩⟩⟩⟩, q31.2⟩
theorem dX12_orders_59 : decode cX12_orders 59 = .ok (.aload_n 0, 1) := fp_hdX12_orders_59.1.1.1.1.1.1
theorem dX12_orders_60 : decode cX12_orders 60 = .ok (.getfield 7, 3) := fp_hdX12_orders_59.1.1.1.1.1.2
theorem dX12_orders_63 : decode cX12_orders 63 = .ok (.iload 5, 2) := fp_hdX12_orders_59.1.1.1.1.2.1
theorem dX12_orders_65 : decode cX12_orders 65 = .ok (.iaload, 1) := fp_hdX12_orders_59.1.1.1.1.2.2
theorem dX12_orders_66 : decode cX12_orders 66 = .ok (.bipush 10, 2) := fp_hdX12_orders_59.1.1.1.2.1.1
theorem dX12_orders_68 : decode cX12_orders 68 = .ok (.iload_n 1, 1) := fp_hdX12_orders_59.1.1.1.2.1.2
theorem dX12_orders_69 : decode cX12_orders 69 = .ok (.iadd, 1) := fp_hdX12_orders_59.1.1.1.2.2.1
theorem dX12_orders_70 : decode cX12_orders 70 = .ok (.if_icmp .ne 15, 3) := fp_hdX12_orders_59.1.1.1.2.2.2
theorem dX12_orders_73 : decode cX12_orders 73 = .ok (.aload_n 0, 1) := fp_hdX12_orders_59.1.1.2.1.1.1
theorem dX12_orders_74 : decode cX12_orders 74 = .ok (.getfield 63, 3) := fp_hdX12_orders_59.1.1.2.1.1.2
theorem dX12_orders_77 : decode cX12_orders 77 = .ok (.iload 4, 2) := fp_hdX12_orders_59.1.1.2.1.2.1
theorem dX12_orders_79 : decode cX12_orders 79 = .ok (.iload 5, 2) := fp_hdX12_orders_59.1.1.2.1.2.2
theorem dX12_orders_81 : decode cX12_orders 81 = .ok (.iastore, 1) := fp_hdX12_orders_59.1.1.2.2.1.1
theorem dX12_orders_82 : decode cX12_orders 82 = .ok (.iinc 4 1, 3) := fp_hdX12_orders_59.1.1.2.2.1.2
theorem dX12_orders_85 : decode cX12_orders 85 = .ok (.iinc 5 1, 3) := fp_hdX12_orders_59.1.1.2.2.2.1
theorem dX12_orders_88 : decode cX12_orders 88 = .ok (.goto (-38), 3) := fp_hdX12_orders_59.1.1.2.2.2.2
theorem dX12_orders_91 : decode cX12_orders 91 = .ok (.iconst 0, 1) := fp_hdX12_orders_59.1.2.1.1.1.1
theorem dX12_orders_92 : decode cX12_orders 92 = .ok (.istore 5, 2) := fp_hdX12_orders_59.1.2.1.1.1.2
theorem dX12_orders_94 : decode cX12_orders 94 = .ok (.iconst 1, 1) := fp_hdX12_orders_59.1.2.1.1.2.1
theorem dX12_orders_95 : decode cX12_orders 95 = .ok (.istore 6, 2) := fp_hdX12_orders_59.1.2.1.1.2.2
theorem dX12_orders_97 : decode cX12_orders 97 = .ok (.iload 6, 2) := fp_hdX12_orders_59.1.2.1.2.1.1
theorem dX12_orders_99 : decode cX12_orders 99 = .ok (.ifCond .eq 59, 3) := fp_hdX12_orders_59.1.2.1.2.1.2
theorem dX12_orders_102 : decode cX12_orders 102 = .ok (.aload_n 0, 1) := fp_hdX12_orders_59.1.2.1.2.2.1
theorem dX12_orders_103 : decode cX12_orders 103 = .ok (.iload_n 1, 1) := fp_hdX12_orders_59.1.2.1.2.2.2
theorem dX12_orders_104 : decode cX12_orders 104 = .ok (.iload_n 3, 1) := fp_hdX12_orders_59.1.2.2.1.1.1
theorem dX12_orders_105 : decode cX12_orders 105 = .ok (.invokevirtual 312, 3) := fp_hdX12_orders_59.1.2.2.1.1.2
theorem dX12_orders_108 : decode cX12_orders 108 = .ok (.ifCond .eq 40, 3) := fp_hdX12_orders_59.1.2.2.1.2.1
theorem dX12_orders_111 : decode cX12_orders 111 = .ok (.iconst 0, 1) := fp_hdX12_orders_59.1.2.2.1.2.2
theorem dX12_orders_112 : decode cX12_orders 112 = .ok (.istore 7, 2) := fp_hdX12_orders_59.1.2.2.2.1.1
theorem dX12_orders_114 : decode cX12_orders 114 = .ok (.iload 7, 2) := fp_hdX12_orders_59.1.2.2.2.1.2
theorem dX12_orders_116 : decode cX12_orders 116 = .ok (.iload_n 3, 1) := fp_hdX12_orders_59.1.2.2.2.2.1
theorem dX12_orders_117 : decode cX12_orders 117 = .ok (.if_icmp .ge 28, 3) := fp_hdX12_orders_59.1.2.2.2.2.2
theorem fp_hdX12_orders_120 : (((((decode cX12_orders 120 = .ok (.iload 5, 2) ∧ decode cX12_orders 122 = .ok (.ifCond .ne 23, 3)) ∧ (decode cX12_orders 125 = .ok (.aload_n 0, 1) ∧ decode cX12_orders 126 = .ok (.getfield 66, 3))) ∧ ((decode cX12_orders 129 = .ok (.iload 7, 2) ∧ decode cX12_orders 131 = .ok (.aload_n 0, 1)) ∧ (decode cX12_orders 132 = .ok (.getfield 63, 3) ∧ decode cX12_orders 135 = .ok (.iload 7, 2)))) ∧ (((decode cX12_orders 137 = .ok (.iaload, 1) ∧ decode cX12_orders 138 = .ok (.iastore, 1)) ∧ (decode cX12_orders 139 = .ok (.iinc 7 1, 3) ∧ decode cX12_orders 142 = .ok (.goto (-28), 3))) ∧ ((decode cX12_orders 145 = .ok (.iinc 5 1, 3) ∧ decode cX12_orders 148 = .ok (.aload_n 0, 1)) ∧ (decode cX12_orders 149 = .ok (.iload_n 3, 1) ∧ decode cX12_orders 150 = .ok (.invokevirtual 315, 3))))) ∧ ((((decode cX12_orders 153 = .ok (.istore 6, 2) ∧ decode cX12_orders 155 = .ok (.goto (-58), 3)) ∧ (decode cX12_orders 158 = .ok (.iload_n 2, 1) ∧ decode cX12_orders 159 = .ok (.ifCond .ne 8, 3))) ∧ ((decode cX12_orders 162 = .ok (.iload 5, 2) ∧ decode cX12_orders 164 = .ok (.goto 30, 3)) ∧ (decode cX12_orders 167 = .ok (.iload 5, 2) ∧ decode cX12_orders 169 = .ok (.ifCond .eq 11, 3)))) ∧ (((decode cX12_orders 172 = .ok (.iload_n 2, 1) ∧ decode cX12_orders 173 = .ok (.bipush 10, 2)) ∧ (decode cX12_orders 175 = .ok (.isub, 1) ∧ decode cX12_orders 176 = .ok (.iload_n 3, 1))) ∧ ((decode cX12_orders 177 = .ok (.if_icmp .lt 8, 3) ∧ decode cX12_orders 180 = .ok (.bipush (-4), 2)) ∧ (decode cX12_orders 182 = .ok (.goto 12, 3) ∧ decode cX12_orders 185 = .ok (.aload_n 0, 1)))))) ∧ bA cX12_orders 186 fp_scX12_orders_3 :=
  have q0 := fp_o21 fp_hdX12_orders_59.2
  have q1 := fp_o154 (v := 23) q0.2 rfl
  have q2 := fp_o42 q1.2
  have q3 := fp_o180 (v := 66) q2.2 rfl
  have q4 := fp_o21 q3.2
  have q5 := fp_o42 q4.2
  have q6 := fp_o180 (v := 63) q5.2 rfl
  have q7 := fp_o21 q6.2
  have q8 := fp_o46 q7.2
  have q9 := fp_o79 q8.2
  have q10 := fp_o132 (v := 1) q9.2 rfl
  have q11 := fp_o167 (v := (-28)) q10.2 rfl
  have q12 := fp_o132 (v := 1) q11.2 rfl
  have q13 := fp_o42 q12.2
  have q14 := fp_o29 q13.2
  have q15 := fp_o182 (v := 315) q14.2 rfl
  have q16 := fp_o54 q15.2
  have q17 := fp_o167 (v := (-58)) q16.2 rfl
  have q18 := fp_o28 q17.2
  have q19 := fp_o154 (v := 8) q18.2 rfl
  have q20 := fp_o21 q19.2
  have q21 := fp_o167 (v := 30) q20.2 rfl
  have q22 := fp_o21 q21.2
  have q23 := fp_o153 (v := 11) q22.2 rfl
  have q24 := fp_o28 q23.2
  have q25 := fp_o16 (v := 10) q24.2 rfl
  have q26 := fp_o100 q25.2
  have q27 := fp_o29 q26.2
  have q28 := fp_o161 (v := 8) q27.2 rfl
  have q29 := fp_o16 (v := (-4)) q28.2 rfl
  have q30 := fp_o167 (v := 12) q29.2 rfl
  have q31 := fp_o42 q30.2
  ⟨⟨⟨⟨⟨⟨q0.1, q1.1⟩, ⟨q2.1, q3.1⟩⟩, ⟨⟨q4.1, q5.1⟩, ⟨q6.1, q7.1⟩⟩⟩, ⟨⟨⟨q8.1, q9.1⟩, ⟨q10.1, q11.1⟩⟩, ⟨⟨q12.1, q13.1⟩, ⟨q14.1, q15.1⟩⟩⟩⟩, ⟨⟨⟨⟨q16.1, q17.1⟩, ⟨q18.1, q19.1⟩⟩, ⟨⟨q20.1, q21.1⟩, ⟨q22.1, q23.1⟩⟩⟩, ⟨⟨⟨q24.1, q25.1⟩, ⟨q26.1, q27.1⟩⟩, ⟨⟨q28.1, q29.1⟩, ⟨q30.1, q31.1⟩⟩⟩⟩⟩, q31.2⟩
theorem dX12_orders_120 : decode cX12_orders 120 = .ok (.iload 5, 2) := fp_hdX12_orders_120.1.1.1.1.1.1
theorem dX12_orders_122 : decode cX12_orders 122 = .ok (.ifCond .ne 23, 3) := fp_hdX12_orders_120.1.1.1.1.1.2
theorem dX12_orders_125 : decode cX12_orders 125 = .ok (.aload_n 0, 1) := fp_hdX12_orders_120.1.1.1.1.2.1
theorem dX12_orders_126 : decode cX12_orders 126 = .ok (.getfield 66, 3) := fp_hdX12_orders_120.1.1.1.1.2.2
theorem dX12_orders_129 : decode cX12_orders 129 = .ok (.iload 7, 2) := fp_hdX12_orders_120.1.1.1.2.1.1
theorem dX12_orders_131 : decode cX12_orders 131 = .ok (.aload_n 0, 1) := fp_hdX12_orders_120.1.1.1.2.1.2
theorem dX12_orders_132 : decode cX12_orders 132 = .ok (.getfield 63, 3) := fp_hdX12_orders_120.1.1.1.2.2.1
theorem dX12_orders_135 : decode cX12_orders 135 = .ok (.iload 7, 2) := fp_hdX12_orders_120.1.1.1.2.2.2
theorem dX12_orders_137 : decode cX12_orders 137 = .ok (.iaload, 1) := fp_hdX12_orders_120.1.1.2.1.1.1
theorem dX12_orders_138 : decode cX12_orders 138 = .ok (.iastore, 1) := fp_hdX12_orders_120.1.1.2.1.1.2
theorem dX12_orders_139 : decode cX12_orders 139 = .ok (.iinc 7 1, 3) := fp_hdX12_orders_120.1.1.2.1.2.1
theorem dX12_orders_142 : decode cX12_orders 142 = .ok (.goto (-28), 3) := fp_hdX12_orders_120.1.1.2.1.2.2
theorem dX12_orders_145 : decode cX12_orders 145 = .ok (.iinc 5 1, 3) := fp_hdX12_orders_120.1.1.2.2.1.1
theorem dX12_orders_148 : decode cX12_orders 148 = .ok (.aload_n 0, 1) := fp_hdX12_orders_120.1.1.2.2.1.2
theorem dX12_orders_149 : decode cX12_orders 149 = .ok (.iload_n 3, 1) := fp_hdX12_orders_120.1.1.2.2.2.1
theorem dX12_orders_150 : decode cX12_orders 150 = .ok (.invokevirtual 315, 3) := fp_hdX12_orders_120.1.1.2.2.2.2
theorem dX12_orders_153 : decode cX12_orders 153 = .ok (.istore 6, 2) := fp_hdX12_orders_120.1.2.1.1.1.1
theorem dX12_orders_155 : decode cX12_orders 155 = .ok (.goto (-58), 3) := fp_hdX12_orders_120.1.2.1.1.1.2
theorem dX12_orders_158 : decode cX12_orders 158 = .ok (.iload_n 2, 1) := fp_hdX12_orders_120.1.2.1.1.2.1
theorem dX12_orders_159 : decode cX12_orders 159 = .ok (.ifCond .ne 8, 3) := fp_hdX12_orders_120.1.2.1.1.2.2
theorem dX12_orders_162 : decode cX12_orders 162 = .ok (.iload 5, 2) := fp_hdX12_orders_120.1.2.1.2.1.1
theorem dX12_orders_164 : decode cX12_orders 164 = .ok (.goto 30, 3) := fp_hdX12_orders_120.1.2.1.2.1.2
theorem dX12_orders_167 : decode cX12_orders 167 = .ok (.iload 5, 2) := fp_hdX12_orders_120.1.2.1.2.2.1
theorem dX12_orders_169 : decode cX12_orders 169 = .ok (.ifCond .eq 11, 3) := fp_hdX12_orders_120.1.2.1.2.2.2
theorem dX12_orders_172 : decode cX12_orders 172 = .ok (.iload_n 2, 1) := fp_hdX12_orders_120.1.2.2.1.1.1
theorem dX12_orders_173 : decode cX12_orders 173 = .ok (.bipush 10, 2) := fp_hdX12_orders_120.1.2.2.1.1.2
theorem dX12_orders_175 : decode cX12_orders 175 = .ok (.isub, 1) := fp_hdX12_orders_120.1.2.2.1.2.1
theorem dX12_orders_176 : decode cX12_orders 176 = .ok (.iload_n 3, 1) := fp_hdX12_orders_120.1.2.2.1.2.2
theorem dX12_orders_177 : decode cX12_orders 177 = .ok (.if_icmp .lt 8, 3) := fp_hdX12_orders_120.1.2.2.2.1.1
theorem dX12_orders_180 : decode cX12_orders 180 = .ok (.bipush (-4), 2) := fp_hdX12_orders_120.1.2.2.2.1.2
theorem dX12_orders_182 : decode cX12_orders 182 = .ok (.goto 12, 3) := fp_hdX12_orders_120.1.2.2.2.2.1
theorem dX12_orders_185 : decode cX12_orders 185 = .ok (.aload_n 0, 1) := fp_hdX12_orders_120.1.2.2.2.2.2
theorem fp_hdX12_orders_186 : (((decode cX12_orders 186 = .ok (.getfield 66, 3) ∧ decode cX12_orders 189 = .ok (.iload_n 2, 1)) ∧ decode cX12_orders 190 = .ok (.bipush 10, 2)) ∧ ((decode cX12_orders 192 = .ok (.isub, 1) ∧ decode cX12_orders 193 = .ok (.iaload, 1)) ∧ decode cX12_orders 194 = .ok (.ireturn, 1))) ∧ bA cX12_orders 195 [] :=
  have q0 := fp_o180 (v := 66) fp_hdX12_orders_120.2 rfl
  have q1 := fp_o28 q0.2
  have q2 := fp_o16 (v := 10) q1.2 rfl
  have q3 := fp_o100 q2.2
  have q4 := fp_o46 q3.2
  have q5 := fp_o172 q4.2
  ⟨⟨⟨⟨q0.1, q1.1⟩, q2.1⟩, ⟨⟨q3.1, q4.1⟩, q5.1⟩⟩, q5.2⟩
theorem dX12_orders_186 : decode cX12_orders 186 = .ok (.getfield 66, 3) := fp_hdX12_orders_186.1.1.1.1
theorem dX12_orders_189 : decode cX12_orders 189 = .ok (.iload_n 2, 1) := fp_hdX12_orders_186.1.1.1.2
theorem dX12_orders_190 : decode cX12_orders 190 = .ok (.bipush 10, 2) := fp_hdX12_orders_186.1.1.2
theorem dX12_orders_192 : decode cX12_orders 192 = .ok (.isub, 1) := fp_hdX12_orders_186.1.2.1.1
theorem dX12_orders_193 : decode cX12_orders 193 = .ok (.iaload, 1) := fp_hdX12_orders_186.1.2.1.2
theorem dX12_orders_194 : decode cX12_orders 194 = .ok (.ireturn, 1) := fp_hdX12_orders_186.1.2.2
def fp_scX12_likes_2 : List Nat := 29 :: 172 :: []
def fp_scX12_likes_1 : List Nat := 180 :: 0 :: 16 :: 7 :: 42 :: 180 :: 0 :: 69 :: 29 :: 46 :: 104 :: 27 :: 96 :: 46 :: 54 :: 6 :: 21 :: 5 :: 21 :: 6 :: 163 :: 0 :: 26 :: 21 :: 5 :: 21 :: 6 :: 160 :: 0 :: 24 :: 42 :: 180 :: 0 :: 69 :: 21 :: 4 :: 46 :: 42 :: 180 :: 0 :: 69 :: 29 :: 46 :: 162 :: 0 :: 8 :: 21 :: 4 :: 167 :: 0 :: 4 :: 29 :: 62 :: 132 :: 4 :: 1 :: 167 :: 255 :: 154 :: fp_scX12_likes_2
def fp_scX12_likes_0 : List Nat := 16 :: 252 :: 62 :: 3 :: 54 :: 4 :: 21 :: 4 :: 7 :: 162 :: 0 :: 102 :: 28 :: 21 :: 4 :: 122 :: 4 :: 126 :: 4 :: 160 :: 0 :: 86 :: 42 :: 180 :: 0 :: 16 :: 7 :: 42 :: 180 :: 0 :: 69 :: 21 :: 4 :: 46 :: 104 :: 27 :: 96 :: 46 :: 54 :: 5 :: 29 :: 16 :: 252 :: 160 :: 0 :: 8 :: 16 :: 252 :: 167 :: 0 :: 18 :: 42 :: fp_scX12_likes_1
theorem fp_bcX12_likes : bA cX12_likes 0 fp_scX12_likes_0 := show cX12_likes.data.toList.map UInt8.toNat = fp_scX12_likes_0 from by decide +kernel
theorem fp_hdX12_likes_0 : (((((decode cX12_likes 0 = .ok (.bipush (-4), 2) ∧ decode cX12_likes 2 = .ok (.istore_n 3, 1)) ∧ (decode cX12_likes 3 = .ok (.iconst 0, 1) ∧ decode cX12_likes 4 = .ok (.istore 4, 2))) ∧ ((decode cX12_likes 6 = .ok (.iload 4, 2) ∧ decode cX12_likes 8 = .ok (.iconst 4, 1)) ∧ (decode cX12_likes 9 = .ok (.if_icmp .ge 102, 3) ∧ decode cX12_likes 12 = .ok (.iload_n 2, 1)))) ∧ (((decode cX12_likes 13 = .ok (.iload 4, 2) ∧ decode cX12_likes 15 = .ok (.ishr, 1)) ∧ (decode cX12_likes 16 = .ok (.iconst 1, 1) ∧ decode cX12_likes 17 = .ok (.iand, 1))) ∧ ((decode cX12_likes 18 = .ok (.iconst 1, 1) ∧ decode cX12_likes 19 = .ok (.if_icmp .ne 86, 3)) ∧ (decode cX12_likes 22 = .ok (.aload_n 0, 1) ∧ decode cX12_likes 23 = .ok (.getfield 16, 3))))) ∧ ((((decode cX12_likes 26 = .ok (.iconst 4, 1) ∧ decode cX12_likes 27 = .ok (.aload_n 0, 1)) ∧ (decode cX12_likes 28 = .ok (.getfield 69, 3) ∧ decode cX12_likes 31 = .ok (.iload 4, 2))) ∧ ((decode cX12_likes 33 = .ok (.iaload, 1) ∧ decode cX12_likes 34 = .ok (.imul, 1)) ∧ (decode cX12_likes 35 = .ok (.iload_n 1, 1) ∧ decode cX12_likes 36 = .ok (.iadd, 1)))) ∧ (((decode cX12_likes 37 = .ok (.iaload, 1) ∧ decode cX12_likes 38 = .ok (.istore 5, 2)) ∧ (decode cX12_likes 40 = .ok (.iload_n 3, 1) ∧ decode cX12_likes 41 = .ok (.bipush (-4), 2))) ∧ ((decode cX12_likes 43 = .ok (.if_icmp .ne 8, 3) ∧ decode cX12_likes 46 = .ok (.bipush (-4), 2)) ∧ (decode cX12_likes 48 = .ok (.goto 18, 3) ∧ decode cX12_likes 51 = .ok (.aload_n 0, 1)))))) ∧ bA cX12_likes 52 fp_scX12_likes_1 :=
  have q0 := fp_o16 (v := (-4)) fp_bcX12_likes rfl
  have q1 := fp_o62 q0.2
  have q2 := fp_o3 q1.2
  have q3 := fp_o54 q2.2
  have q4 := fp_o21 q3.2
  have q5 := fp_o7 q4.2
  have q6 := fp_o162 (v := 102) q5.2 rfl
  have q7 := fp_o28 q6.2
  have q8 := fp_o21 q7.2
  have q9 := fp_o122 q8.2
  have q10 := fp_o4 q9.2
  have q11 := fp_o126 q10.2
  have q12 := fp_o4 q11.2
  have q13 := fp_o160 (v := 86) q12.2 rfl
  have q14 := fp_o42 q13.2
  have q15 := fp_o180 (v := 16) q14.2 rfl
  have q16 := fp_o7 q15.2
  have q17 := fp_o42 q16.2
  have q18 := fp_o180 (v := 69) q17.2 rfl
  have q19 := fp_o21 q18.2
  have q20 := fp_o46 q19.2
  have q21 := fp_o104 q20.2
  have q22 := fp_o27 q21.2
  have q23 := fp_o96 q22.2
  have q24 := fp_o46 q23.2
  have q25 := fp_o54 q24.2
  have q26 := fp_o29 q25.2
  have q27 := fp_o16 (v := (-4)) q26.2 rfl
  have q28 := fp_o160 (v := 8) q27.2 rfl
  have q29 := fp_o16 (v := (-4)) q28.2 rfl
  have q30 := fp_o167 (v := 18) q29.2 rfl
  have q31 := fp_o42 q30.2
  ⟨⟨⟨⟨⟨⟨q0.1, q1.1⟩, ⟨q2.1, q3.1⟩⟩, ⟨⟨q4.1, q5.1⟩, ⟨q6.1, q7.1⟩⟩⟩, ⟨⟨⟨q8.1, q9.1⟩, ⟨q10.1, q11.1⟩⟩, ⟨⟨q12.1, q13.1⟩, ⟨q14.1, q15.1⟩⟩⟩⟩, ⟨⟨⟨⟨q16.1, q17.1⟩, ⟨q18.1, q19.1⟩⟩, ⟨⟨q20.1, q21.1⟩, ⟨q22.1, q23.1⟩⟩⟩, ⟨⟨⟨q24.1, q25.1⟩, ⟨q26.1, q27.1⟩⟩, ⟨⟨q28.1, q29.1⟩, ⟨q30.1, q31.1⟩⟩⟩⟩⟩, q31.2⟩
theorem dX12_likes_0 : decode cX12_likes 0 = .ok (.bipush (-4), 2) := fp_hdX12_likes_0.1.1.1.1.1.1
theorem dX12_likes_2 : decode cX12_likes 2 = .ok (.istore_n 3, 1) := fp_hdX12_likes_0.1.1.1.1.1.2
theorem dX12_likes_3 : decode cX12_likes 3 = .ok (.iconst 0, 1) := fp_hdX12_likes_0.1.1.1.1.2.1
theorem dX12_likes_4 : decode cX12_likes 4 = .ok (.istore 4, 2) := fp_hdX12_likes_0.1.1.1.1.2.2
theorem dX12_likes_6 : decode cX12_likes 6 = .ok (.iload 4, 2) := fp_hdX12_likes_0.1.1.1.2.1.1
theorem dX12_likes_8 : decode cX12_likes 8 = .ok (.iconst 4, 1) := fp_hdX12_likes_0.1.1.1.2.1.2
theorem dX12_likes_9 : decode cX12_likes 9 = .ok (.if_icmp .ge 102, 3) := fp_hdX12_likes_0.1.1.1.2.2.1
theorem dX12_likes_12 : decode cX12_likes 12 = .ok (.iload_n 2, 1) := fp_hdX12_likes_0.1.1.1.2.2.2
theorem dX12_likes_13 : decode cX12_likes 13 = .ok (.iload 4, 2) := fp_hdX12_likes_0.1.1.2.1.1.1
theorem dX12_likes_15 : decode cX12_likes 15 = .ok (.ishr, 1) := fp_hdX12_likes_0.1.1.2.1.1.2
theorem dX12_likes_16 : decode cX12_likes 16 = .ok (.iconst 1, 1) := fp_hdX12_likes_0.1.1.2.1.2.1
theorem dX12_likes_17 : decode cX12_likes 17 = .ok (.iand, 1) := fp_hdX12_likes_0.1.1.2.1.2.2
theorem dX12_likes_18 : decode cX12_likes 18 = .ok (.iconst 1, 1) := fp_hdX12_likes_0.1.1.2.2.1.1
theorem dX12_likes_19 : decode cX12_likes 19 = .ok (.if_icmp .ne 86, 3) := fp_hdX12_likes_0.1.1.2.2.1.2
theorem dX12_likes_22 : decode cX12_likes 22 = .ok (.aload_n 0, 1) := fp_hdX12_likes_0.1.1.2.2.2.1
theorem dX12_likes_23 : decode cX12_likes 23 = .ok (.getfield 16, 3) := fp_hdX12_likes_0.1.1.2.2.2.2
theorem dX12_likes_26 : decode cX12_likes 26 = .ok (.iconst 4, 1) := fp_hdX12_likes_0.1.2.1.1.1.1
theorem dX12_likes_27 : decode cX12_likes 27 = .ok (.aload_n 0, 1) := fp_hdX12_likes_0.1.2.1.1.1.2
theorem dX12_likes_28 : decode cX12_likes 28 = .ok (.getfield 69, 3) := fp_hdX12_likes_0.1.2.1.1.2.1
theorem dX12_likes_31 : decode cX12_likes 31 = .ok (.iload 4, 2) := fp_hdX12_likes_0.1.2.1.1.2.2
theorem dX12_likes_33 : decode cX12_likes 33 = .ok (.iaload, 1) := fp_hdX12_likes_0.1.2.1.2.1.1
theorem dX12_likes_34 : decode cX12_likes 34 = .ok (.imul, 1) := fp_hdX12_likes_0.1.2.1.2.1.2
theorem dX12_likes_35 : decode cX12_likes 35 = .ok (.iload_n 1, 1) := fp_hdX12_likes_0.1.2.1.2.2.1
theorem dX12_likes_36 : decode cX12_likes 36 = .ok (.iadd, 1) := fp_hdX12_likes_0.1.2.1.2.2.2
theorem dX12_likes_37 : decode cX12_likes 37 = .ok (.iaload, 1) := fp_hdX12_likes_0.1.2.2.1.1.1
theorem dX12_likes_38 : decode cX12_likes 38 = .ok (.istore 5, 2) := fp_hdX12_likes_0.1.2.2.1.1.2
theorem dX12_likes_40 : decode cX12_likes 40 = .ok (.iload_n 3, 1) := fp_hdX12_likes_0.1.2.2.1.2.1
theorem dX12_likes_41 : decode cX12_likes 41 = .ok (.bipush (-4), 2) := fp_hdX12_likes_0.1.2.2.1.2.2
theorem dX12_likes_43 : decode cX12_likes 43 = .ok (.if_icmp .ne 8, 3) := fp_hdX12_likes_0.1.2.2.2.1.1
theorem dX12_likes_46 : decode cX12_likes 46 = .ok (.bipush (-4), 2) := fp_hdX12_likes_0.1.2.2.2.1.2
theorem dX12_likes_48 : decode cX12_likes 48 = .ok (.goto 18, 3) := fp_hdX12_likes_0.1.2.2.2.2.1
theorem dX12_likes_51 : decode cX12_likes 51 = .ok (.aload_n 0, 1) := fp_hdX12_likes_0.1.2.2.2.2.2
theorem fp_hdX12_likes_52 : (((((decode cX12_likes 52 = .ok (.getfield 16, 3) ∧ decode cX12_likes 55 = .ok (.iconst 4, 1)) ∧ (decode cX12_likes 56 = .ok (.aload_n 0, 1) ∧ decode cX12_likes 57 = .ok (.getfield 69, 3))) ∧ ((decode cX12_likes 60 = .ok (.iload_n 3, 1) ∧ decode cX12_likes 61 = .ok (.iaload, 1)) ∧ (decode cX12_likes 62 = .ok (.imul, 1) ∧ decode cX12_likes 63 = .ok (.iload_n 1, 1)))) ∧ (((decode cX12_likes 64 = .ok (.iadd, 1) ∧ decode cX12_likes 65 = .ok (.iaload, 1)) ∧ (decode cX12_likes 66 = .ok (.istore 6, 2) ∧ decode cX12_likes 68 = .ok (.iload 5, 2))) ∧ ((decode cX12_likes 70 = .ok (.iload 6, 2) ∧ decode cX12_likes 72 = .ok (.if_icmp .gt 26, 3)) ∧ (decode cX12_likes 75 = .ok (.iload 5, 2) ∧ decode cX12_likes 77 = .ok (.iload 6, 2))))) ∧ ((((decode cX12_likes 79 = .ok (.if_icmp .ne 24, 3) ∧ decode cX12_likes 82 = .ok (.aload_n 0, 1)) ∧ (decode cX12_likes 83 = .ok (.getfield 69, 3) ∧ decode cX12_likes 86 = .ok (.iload 4, 2))) ∧ ((decode cX12_likes 88 = .ok (.iaload, 1) ∧ decode cX12_likes 89 = .ok (.aload_n 0, 1)) ∧ (decode cX12_likes 90 = .ok (.getfield 69, 3) ∧ decode cX12_likes 93 = .ok (.iload_n 3, 1)))) ∧ (((decode cX12_likes 94 = .ok (.iaload, 1) ∧ decode cX12_likes 95 = .ok (.if_icmp .ge 8, 3)) ∧ (decode cX12_likes 98 = .ok (.iload 4, 2) ∧ decode cX12_likes 100 = .ok (.goto 4, 3))) ∧ ((decode cX12_likes 103 = .ok (.iload_n 3, 1) ∧ decode cX12_likes 104 = .ok (.istore_n 3, 1)) ∧ (decode cX12_likes 105 = .ok (.iinc 4 1, 3) ∧ decode cX12_likes 108 = .ok (.goto (-102), 3)))))) ∧ bA cX12_likes 111 fp_scX12_likes_2 :=
  have q0 := fp_o180 (v := 16) fp_hdX12_likes_0.2 rfl
  have q1 := fp_o7 q0.2
  have q2 := fp_o42 q1.2
  have q3 := fp_o180 (v := 69) q2.2 rfl
  have q4 := fp_o29 q3.2
  have q5 := fp_o46 q4.2
  have q6 := fp_o104 q5.2
  have q7 := fp_o27 q6.2
  have q8 := fp_o96 q7.2
  have q9 := fp_o46 q8.2
  have q10 := fp_o54 q9.2
  have q11 := fp_o21 q10.2
  have q12 := fp_o21 q11.2
  have q13 := fp_o163 (v := 26) q12.2 rfl
  have q14 := fp_o21 q13.2
  have q15 := fp_o21 q14.2
  have q16 := fp_o160 (v := 24) q15.2 rfl
  have q17 := fp_o42 q16.2
  have q18 := fp_o180 (v := 69) q17.2 rfl
  have q19 := fp_o21 q18.2
  have q20 := fp_o46 q19.2
  have q21 := fp_o42 q20.2
  have q22 := fp_o180 (v := 69) q21.2 rfl
  have q23 := fp_o29 q22.2
  have q24 := fp_o46 q23.2
  have q25 := fp_o162 (v := 8) q24.2 rfl
  have q26 := fp_o21 q25.2
  have q27 := fp_o167 (v := 4) q26.2 rfl
  have q28 := fp_o29 q27.2
  have q29 := fp_o62 q28.2
  have q30 := fp_o132 (v := 1) q29.2 rfl
  have q31 := fp_o167 (v := (-102)) q30.2 rfl
  ⟨⟨⟨⟨⟨⟨q0.1, q1.1⟩, ⟨q2.1, q3.1⟩⟩, ⟨⟨q4.1, q5.1⟩, ⟨q6.1, q7.1⟩⟩⟩, ⟨⟨⟨q8.1, q9.1⟩, ⟨q10.1, q11.1⟩⟩, ⟨⟨q12.1, q13.1⟩, ⟨q14.1, q15.1⟩⟩⟩⟩, ⟨⟨⟨⟨q16.1, q17.1⟩, ⟨q18.1, q19.1⟩⟩, ⟨⟨q20.1, q21.1⟩, ⟨q22.1, q23.1⟩⟩⟩, ⟨⟨⟨q24.1, q25.1⟩, ⟨q26.1, q27.1⟩⟩, ⟨⟨q28.1, q29.1⟩, ⟨q30.1, q31.1⟩⟩⟩⟩⟩, q31.2⟩
theorem dX12_likes_52 : decode cX12_likes 52 = .ok (.getfield 16, 3) := fp_hdX12_likes_52.1.1.1.1.1.1
theorem dX12_likes_55 : decode cX12_likes 55 = .ok (.iconst 4, 1) := fp_hdX12_likes_52.1.1.1.1.1.2
theorem dX12_likes_56 : decode cX12_likes 56 = .ok (.aload_n 0, 1) := fp_hdX12_likes_52.1.1.1.1.2.1
theorem dX12_likes_57 : decode cX12_likes 57 = .ok (.getfield 69, 3) := fp_hdX12_likes_52.1.1.1.1.2.2
theorem dX12_likes_60 : decode cX12_likes 60 = .ok (.iload_n 3, 1) := fp_hdX12_likes_52.1.1.1.2.1.1
theorem dX12_likes_61 : decode cX12_likes 61 = .ok (.iaload, 1) := fp_hdX12_likes_52.1.1.1.2.1.2
theorem dX12_likes_62 : decode cX12_likes 62 = .ok (.imul, 1) := fp_hdX12_likes_52.1.1.1.2.2.1
theorem dX12_likes_63 : decode cX12_likes 63 = .ok (.iload_n 1, 1) := fp_hdX12_likes_52.1.1.1.2.2.2
theorem dX12_likes_64 : decode cX12_likes 64 = .ok (.iadd, 1) := fp_hdX12_likes_52.1.1.2.1.1.1
theorem dX12_likes_65 : decode cX12_likes 65 = .ok (.iaload, 1) := fp_hdX12_likes_52.1.1.2.1.1.2
theorem dX12_likes_66 : decode cX12_likes 66 = .ok (.istore 6, 2) := fp_hdX12_likes_52.1.1.2.1.2.1
theorem dX12_likes_68 : decode cX12_likes 68 = .ok (.iload 5, 2) := fp_hdX12_likes_52.1.1.2.1.2.2
theorem dX12_likes_70 : decode cX12_likes 70 = .ok (.iload 6, 2) := fp_hdX12_likes_52.1.1.2.2.1.1
theorem dX12_likes_72 : decode cX12_likes 72 = .ok (.if_icmp .gt 26, 3) := fp_hdX12_likes_52.1.1.2.2.1.2
theorem dX12_likes_75 : decode cX12_likes 75 = .ok (.iload 5, 2) := fp_hdX12_likes_52.1.1.2.2.2.1
theorem dX12_likes_77 : decode cX12_likes 77 = .ok (.iload 6, 2) := fp_hdX12_likes_52.1.1.2.2.2.2
theorem dX12_likes_79 : decode cX12_likes 79 = .ok (.if_icmp .ne 24, 3) := fp_hdX12_likes_52.1.2.1.1.1.1
theorem dX12_likes_82 : decode cX12_likes 82 = .ok (.aload_n 0, 1) := fp_hdX12_likes_52.1.2.1.1.1.2
theorem dX12_likes_83 : decode cX12_likes 83 = .ok (.getfield 69, 3) := fp_hdX12_likes_52.1.2.1.1.2.1
theorem dX12_likes_86 : decode cX12_likes 86 = .ok (.iload 4, 2) := fp_hdX12_likes_52.1.2.1.1.2.2
theorem dX12_likes_88 : decode cX12_likes 88 = .ok (.iaload, 1) := fp_hdX12_likes_52.1.2.1.2.1.1
theorem dX12_likes_89 : decode cX12_likes 89 = .ok (.aload_n 0, 1) := fp_hdX12_likes_52.1.2.1.2.1.2
theorem dX12_likes_90 : decode cX12_likes 90 = .ok (.getfield 69, 3) := fp_hdX12_likes_52.1.2.1.2.2.1
theorem dX12_likes_93 : decode cX12_likes 93 = .ok (.iload_n 3, 1) := fp_hdX12_likes_52.1.2.1.2.2.2
theorem dX12_likes_94 : decode cX12_likes 94 = .ok (.iaload, 1) := fp_hdX12_likes_52.1.2.2.1.1.1
theorem dX12_likes_95 : decode cX12_likes 95 = .ok (.if_icmp .ge 8, 3) := fp_hdX12_likes_52.1.2.2.1.1.2
theorem dX12_likes_98 : decode cX12_likes 98 = .ok (.iload 4, 2) := fp_hdX12_likes_52.1.2.2.1.2.1
theorem dX12_likes_100 : decode cX12_likes 100 = .ok (.goto 4, 3) := fp_hdX12_likes_52.1.2.2.1.2.2
theorem dX12_likes_103 : decode cX12_likes 103 = .ok (.iload_n 3, 1) := fp_hdX12_likes_52.1.2.2.2.1.1
theorem dX12_likes_104 : decode cX12_likes 104 = .ok (.istore_n 3, 1) := fp_hdX12_likes_52.1.2.2.2.1.2
theorem dX12_likes_105 : decode cX12_likes 105 = .ok (.iinc 4 1, 3) := fp_hdX12_likes_52.1.2.2.2.2.1
theorem dX12_likes_108 : decode cX12_likes 108 = .ok (.goto (-102), 3) := fp_hdX12_likes_52.1.2.2.2.2.2
theorem fp_hdX12_likes_111 : (decode cX12_likes 111 = .ok (.iload_n 3, 1) ∧ decode cX12_likes 112 = .ok (.ireturn, 1)) ∧ bA cX12_likes 113 [] :=
  have q0 := fp_o29 fp_hdX12_likes_52.2
  have q1 := fp_o172 q0.2
  ⟨⟨q0.1, q1.1⟩, q1.2⟩
theorem dX12_likes_111 : decode cX12_likes 111 = .ok (.iload_n 3, 1) := fp_hdX12_likes_111.1.1
theorem dX12_likes_112 : decode cX12_likes 112 = .ok (.ireturn, 1) := fp_hdX12_likes_111.1.2
def fp_scX12_ringOf_0 : List Nat := 3 :: 62 :: 27 :: 54 :: 4 :: 3 :: 54 :: 5 :: 21 :: 5 :: 7 :: 162 :: 0 :: 33 :: 42 :: 21 :: 4 :: 28 :: 182 :: 1 :: 62 :: 54 :: 4 :: 29 :: 4 :: 21 :: 4 :: 120 :: 128 :: 62 :: 21 :: 4 :: 27 :: 160 :: 0 :: 5 :: 29 :: 172 :: 132 :: 5 :: 1 :: 167 :: 255 :: 223 :: 3 :: 172 :: []
theorem fp_bcX12_ringOf : bA cX12_ringOf 0 fp_scX12_ringOf_0 := show cX12_ringOf.data.toList.map UInt8.toNat = fp_scX12_ringOf_0 from by decide +kernel
theorem fp_hdX12_ringOf_0 : (((((decode cX12_ringOf 0 = .ok (.iconst 0, 1) ∧ decode cX12_ringOf 1 = .ok (.istore_n 3, 1)) ∧ (decode cX12_ringOf 2 = .ok (.iload_n 1, 1) ∧ decode cX12_ringOf 3 = .ok (.istore 4, 2))) ∧ ((decode cX12_ringOf 5 = .ok (.iconst 0, 1) ∧ decode cX12_ringOf 6 = .ok (.istore 5, 2)) ∧ (decode cX12_ringOf 8 = .ok (.iload 5, 2) ∧ decode cX12_ringOf 10 = .ok (.iconst 4, 1)))) ∧ (((decode cX12_ringOf 11 = .ok (.if_icmp .ge 33, 3) ∧ decode cX12_ringOf 14 = .ok (.aload_n 0, 1)) ∧ (decode cX12_ringOf 15 = .ok (.iload 4, 2) ∧ decode cX12_ringOf 17 = .ok (.iload_n 2, 1))) ∧ ((decode cX12_ringOf 18 = .ok (.invokevirtual 318, 3) ∧ decode cX12_ringOf 21 = .ok (.istore 4, 2)) ∧ decode cX12_ringOf 23 = .ok (.iload_n 3, 1)))) ∧ ((((decode cX12_ringOf 24 = .ok (.iconst 1, 1) ∧ decode cX12_ringOf 25 = .ok (.iload 4, 2)) ∧ (decode cX12_ringOf 27 = .ok (.ishl, 1) ∧ decode cX12_ringOf 28 = .ok (.ior, 1))) ∧ ((decode cX12_ringOf 29 = .ok (.istore_n 3, 1) ∧ decode cX12_ringOf 30 = .ok (.iload 4, 2)) ∧ decode cX12_ringOf 32 = .ok (.iload_n 1, 1))) ∧ (((decode cX12_ringOf 33 = .ok (.if_icmp .ne 5, 3) ∧ decode cX12_ringOf 36 = .ok (.iload_n 3, 1)) ∧ (decode cX12_ringOf 37 = .ok (.ireturn, 1) ∧ decode cX12_ringOf 38 = .ok (.iinc 5 1, 3))) ∧ ((decode cX12_ringOf 41 = .ok (.goto (-33), 3) ∧ decode cX12_ringOf 44 = .ok (.iconst 0, 1)) ∧ decode cX12_ringOf 45 = .ok (.ireturn, 1))))) ∧ bA cX12_ringOf 46 [] :=
  have q0 := fp_o3 fp_bcX12_ringOf
  have q1 := fp_o62 q0.2
  have q2 := fp_o27 q1.2
  have q3 := fp_o54 q2.2
  have q4 := fp_o3 q3.2
  have q5 := fp_o54 q4.2
  have q6 := fp_o21 q5.2
  have q7 := fp_o7 q6.2
  have q8 := fp_o162 (v := 33) q7.2 rfl
  have q9 := fp_o42 q8.2
  have q10 := fp_o21 q9.2
  have q11 := fp_o28 q10.2
  have q12 := fp_o182 (v := 318) q11.2 rfl
  have q13 := fp_o54 q12.2
  have q14 := fp_o29 q13.2
  have q15 := fp_o4 q14.2
  have q16 := fp_o21 q15.2
  have q17 := fp_o120 q16.2
  have q18 := fp_o128 q17.2
  have q19 := fp_o62 q18.2
  have q20 := fp_o21 q19.2
  have q21 := fp_o27 q20.2
  have q22 := fp_o160 (v := 5) q21.2 rfl
  have q23 := fp_o29 q22.2
  have q24 := fp_o172 q23.2
  have q25 := fp_o132 (v := 1) q24.2 rfl
  have q26 := fp_o167 (v := (-33)) q25.2 rfl
  have q27 := fp_o3 q26.2
  have q28 := fp_o172 q27.2
  ⟨⟨⟨⟨⟨⟨q0.1, q1.1⟩, ⟨q2.1, q3.1⟩⟩, ⟨⟨q4.1, q5.1⟩, ⟨q6.1, q7.1⟩⟩⟩, ⟨⟨⟨q8.1, q9.1⟩, ⟨q10.1, q11.1⟩⟩, ⟨⟨q12.1, q13.1⟩, q14.1⟩⟩⟩, ⟨⟨⟨⟨q15.1, q16.1⟩, ⟨q17.1, q18.1⟩⟩, ⟨⟨q19.1, q20.1⟩, q21.1⟩⟩, ⟨⟨⟨q22.1, q23.1⟩, ⟨q24.1, q25.1⟩⟩, ⟨⟨q26.1, q27.1⟩, q28.1⟩⟩⟩⟩, q28.2⟩
theorem dX12_ringOf_0 : decode cX12_ringOf 0 = .ok (.iconst 0, 1) := fp_hdX12_ringOf_0.1.1.1.1.1.1
theorem dX12_ringOf_1 : decode cX12_ringOf 1 = .ok (.istore_n 3, 1) := fp_hdX12_ringOf_0.1.1.1.1.1.2
theorem dX12_ringOf_2 : decode cX12_ringOf 2 = .ok (.iload_n 1, 1) := fp_hdX12_ringOf_0.1.1.1.1.2.1
theorem dX12_ringOf_3 : decode cX12_ringOf 3 = .ok (.istore 4, 2) := fp_hdX12_ringOf_0.1.1.1.1.2.2
theorem dX12_ringOf_5 : decode cX12_ringOf 5 = .ok (.iconst 0, 1) := fp_hdX12_ringOf_0.1.1.1.2.1.1
theorem dX12_ringOf_6 : decode cX12_ringOf 6 = .ok (.istore 5, 2) := fp_hdX12_ringOf_0.1.1.1.2.1.2
theorem dX12_ringOf_8 : decode cX12_ringOf 8 = .ok (.iload 5, 2) := fp_hdX12_ringOf_0.1.1.1.2.2.1
theorem dX12_ringOf_10 : decode cX12_ringOf 10 = .ok (.iconst 4, 1) := fp_hdX12_ringOf_0.1.1.1.2.2.2
theorem dX12_ringOf_11 : decode cX12_ringOf 11 = .ok (.if_icmp .ge 33, 3) := fp_hdX12_ringOf_0.1.1.2.1.1.1
theorem dX12_ringOf_14 : decode cX12_ringOf 14 = .ok (.aload_n 0, 1) := fp_hdX12_ringOf_0.1.1.2.1.1.2
theorem dX12_ringOf_15 : decode cX12_ringOf 15 = .ok (.iload 4, 2) := fp_hdX12_ringOf_0.1.1.2.1.2.1
theorem dX12_ringOf_17 : decode cX12_ringOf 17 = .ok (.iload_n 2, 1) := fp_hdX12_ringOf_0.1.1.2.1.2.2
theorem dX12_ringOf_18 : decode cX12_ringOf 18 = .ok (.invokevirtual 318, 3) := fp_hdX12_ringOf_0.1.1.2.2.1.1
theorem dX12_ringOf_21 : decode cX12_ringOf 21 = .ok (.istore 4, 2) := fp_hdX12_ringOf_0.1.1.2.2.1.2
theorem dX12_ringOf_23 : decode cX12_ringOf 23 = .ok (.iload_n 3, 1) := fp_hdX12_ringOf_0.1.1.2.2.2
theorem dX12_ringOf_24 : decode cX12_ringOf 24 = .ok (.iconst 1, 1) := fp_hdX12_ringOf_0.1.2.1.1.1.1
theorem dX12_ringOf_25 : decode cX12_ringOf 25 = .ok (.iload 4, 2) := fp_hdX12_ringOf_0.1.2.1.1.1.2
theorem dX12_ringOf_27 : decode cX12_ringOf 27 = .ok (.ishl, 1) := fp_hdX12_ringOf_0.1.2.1.1.2.1
theorem dX12_ringOf_28 : decode cX12_ringOf 28 = .ok (.ior, 1) := fp_hdX12_ringOf_0.1.2.1.1.2.2
theorem dX12_ringOf_29 : decode cX12_ringOf 29 = .ok (.istore_n 3, 1) := fp_hdX12_ringOf_0.1.2.1.2.1.1
theorem dX12_ringOf_30 : decode cX12_ringOf 30 = .ok (.iload 4, 2) := fp_hdX12_ringOf_0.1.2.1.2.1.2
theorem dX12_ringOf_32 : decode cX12_ringOf 32 = .ok (.iload_n 1, 1) := fp_hdX12_ringOf_0.1.2.1.2.2
theorem dX12_ringOf_33 : decode cX12_ringOf 33 = .ok (.if_icmp .ne 5, 3) := fp_hdX12_ringOf_0.1.2.2.1.1.1
theorem dX12_ringOf_36 : decode cX12_ringOf 36 = .ok (.iload_n 3, 1) := fp_hdX12_ringOf_0.1.2.2.1.1.2
theorem dX12_ringOf_37 : decode cX12_ringOf 37 = .ok (.ireturn, 1) := fp_hdX12_ringOf_0.1.2.2.1.2.1
theorem dX12_ringOf_38 : decode cX12_ringOf 38 = .ok (.iinc 5 1, 3) := fp_hdX12_ringOf_0.1.2.2.1.2.2
theorem dX12_ringOf_41 : decode cX12_ringOf 41 = .ok (.goto (-33), 3) := fp_hdX12_ringOf_0.1.2.2.2.1.1
theorem dX12_ringOf_44 : decode cX12_ringOf 44 = .ok (.iconst 0, 1) := fp_hdX12_ringOf_0.1.2.2.2.1.2
theorem dX12_ringOf_45 : decode cX12_ringOf 45 = .ok (.ireturn, 1) := fp_hdX12_ringOf_0.1.2.2.2.2
def fp_scX12_layRings_3 : List Nat := 29 :: 21 :: 4 :: 79 :: 42 :: 180 :: 0 :: 72 :: 29 :: 42 :: 180 :: 0 :: 69 :: 42 :: 29 :: 27 :: 182 :: 1 :: 62 :: 46 :: 79 :: 132 :: 3 :: 1 :: 167 :: 255 :: 191 :: 27 :: 28 :: 2 :: 130 :: 126 :: 60 :: 167 :: 255 :: 174 :: 177 :: []
def fp_scX12_layRings_2 : List Nat := 153 :: 0 :: 84 :: 3 :: 61 :: 3 :: 62 :: 29 :: 7 :: 162 :: 0 :: 66 :: 27 :: 29 :: 122 :: 4 :: 126 :: 4 :: 160 :: 0 :: 12 :: 42 :: 29 :: 27 :: 182 :: 1 :: 65 :: 167 :: 0 :: 4 :: 3 :: 54 :: 4 :: 21 :: 4 :: 153 :: 0 :: 34 :: 28 :: 4 :: 29 :: 120 :: 128 :: 61 :: 42 :: 180 :: 0 :: 75 :: fp_scX12_layRings_3
def fp_scX12_layRings_1 : List Nat := 42 :: 180 :: 0 :: 7 :: 29 :: 46 :: 28 :: 160 :: 0 :: 7 :: 29 :: 167 :: 0 :: 9 :: 42 :: 180 :: 0 :: 69 :: 28 :: 46 :: 79 :: 132 :: 3 :: 255 :: 167 :: 255 :: 223 :: 27 :: 42 :: 180 :: 0 :: 69 :: 28 :: 46 :: 16 :: 252 :: 160 :: 0 :: 7 :: 3 :: 167 :: 0 :: 6 :: 4 :: 28 :: 120 :: 128 :: 60 :: 132 :: 2 :: 1 :: 167 :: 255 :: 160 :: 27 :: fp_scX12_layRings_2
def fp_scX12_layRings_0 : List Nat := 3 :: 60 :: 3 :: 61 :: 28 :: 7 :: 162 :: 0 :: 97 :: 42 :: 180 :: 0 :: 69 :: 28 :: 16 :: 252 :: 79 :: 42 :: 180 :: 0 :: 72 :: 28 :: 16 :: 252 :: 79 :: 42 :: 180 :: 0 :: 75 :: 28 :: 16 :: 252 :: 79 :: 42 :: 180 :: 0 :: 181 :: 4 :: 100 :: 62 :: 29 :: 155 :: 0 :: 35 :: 42 :: 180 :: 0 :: 69 :: 28 :: fp_scX12_layRings_1
theorem fp_bcX12_layRings : bA cX12_layRings 0 fp_scX12_layRings_0 := show cX12_layRings.data.toList.map UInt8.toNat = fp_scX12_layRings_0 from by decide +kernel
theorem fp_hdX12_layRings_0 : (((((decode cX12_layRings 0 = .ok (.iconst 0, 1) ∧ decode cX12_layRings 1 = .ok (.istore_n 1, 1)) ∧ (decode cX12_layRings 2 = .ok (.iconst 0, 1) ∧ decode cX12_layRings 3 = .ok (.istore_n 2, 1))) ∧ ((decode cX12_layRings 4 = .ok (.iload_n 2, 1) ∧ decode cX12_layRings 5 = .ok (.iconst 4, 1)) ∧ (decode cX12_layRings 6 = .ok (.if_icmp .ge 97, 3) ∧ decode cX12_layRings 9 = .ok (.aload_n 0, 1)))) ∧ (((decode cX12_layRings 10 = .ok (.getfield 69, 3) ∧ decode cX12_layRings 13 = .ok (.iload_n 2, 1)) ∧ (decode cX12_layRings 14 = .ok (.bipush (-4), 2) ∧ decode cX12_layRings 16 = .ok (.iastore, 1))) ∧ ((decode cX12_layRings 17 = .ok (.aload_n 0, 1) ∧ decode cX12_layRings 18 = .ok (.getfield 72, 3)) ∧ (decode cX12_layRings 21 = .ok (.iload_n 2, 1) ∧ decode cX12_layRings 22 = .ok (.bipush (-4), 2))))) ∧ ((((decode cX12_layRings 24 = .ok (.iastore, 1) ∧ decode cX12_layRings 25 = .ok (.aload_n 0, 1)) ∧ (decode cX12_layRings 26 = .ok (.getfield 75, 3) ∧ decode cX12_layRings 29 = .ok (.iload_n 2, 1))) ∧ ((decode cX12_layRings 30 = .ok (.bipush (-4), 2) ∧ decode cX12_layRings 32 = .ok (.iastore, 1)) ∧ (decode cX12_layRings 33 = .ok (.aload_n 0, 1) ∧ decode cX12_layRings 34 = .ok (.getfield 181, 3)))) ∧ (((decode cX12_layRings 37 = .ok (.iconst 1, 1) ∧ decode cX12_layRings 38 = .ok (.isub, 1)) ∧ (decode cX12_layRings 39 = .ok (.istore_n 3, 1) ∧ decode cX12_layRings 40 = .ok (.iload_n 3, 1))) ∧ ((decode cX12_layRings 41 = .ok (.ifCond .lt 35, 3) ∧ decode cX12_layRings 44 = .ok (.aload_n 0, 1)) ∧ (decode cX12_layRings 45 = .ok (.getfield 69, 3) ∧ decode cX12_layRings 48 = .ok (.iload_n 2, 1)))))) ∧ bA cX12_layRings 49 fp_scX12_layRings_1 :=
  have q0 := fp_o3 fp_bcX12_layRings
  have q1 := fp_o60 q0.2
  have q2 := fp_o3 q1.2
  have q3 := fp_o61 q2.2
  have q4 := fp_o28 q3.2
  have q5 := fp_o7 q4.2
  have q6 := fp_o162 (v := 97) q5.2 rfl
  have q7 := fp_o42 q6.2
  have q8 := fp_o180 (v := 69) q7.2 rfl
  have q9 := fp_o28 q8.2
  have q10 := fp_o16 (v := (-4)) q9.2 rfl
  have q11 := fp_o79 q10.2
  have q12 := fp_o42 q11.2
  have q13 := fp_o180 (v := 72) q12.2 rfl
  have q14 := fp_o28 q13.2
  have q15 := fp_o16 (v := (-4)) q14.2 rfl
  have q16 := fp_o79 q15.2
  have q17 := fp_o42 q16.2
  have q18 := fp_o180 (v := 75) q17.2 rfl
  have q19 := fp_o28 q18.2
  have q20 := fp_o16 (v := (-4)) q19.2 rfl
  have q21 := fp_o79 q20.2
  have q22 := fp_o42 q21.2
  have q23 := fp_o180 (v := 181) q22.2 rfl
  have q24 := fp_o4 q23.2
  have q25 := fp_o100 q24.2
  have q26 := fp_o62 q25.2
  have q27 := fp_o29 q26.2
  have q28 := fp_o155 (v := 35) q27.2 rfl
  have q29 := fp_o42 q28.2
  have q30 := fp_o180 (v := 69) q29.2 rfl
  have q31 := fp_o28 q30.2
  ⟨⟨⟨⟨⟨⟨q0.1, q1.1⟩, ⟨q2.1, q3.1⟩⟩, ⟨⟨q4.1, q5.1⟩, ⟨q6.1, q7.1⟩⟩⟩, ⟨⟨⟨q8.1, q9.1⟩, ⟨q10.1, q11.1⟩⟩, ⟨⟨q12.1, q13.1⟩, ⟨q14.1, q15.1⟩⟩⟩⟩, ⟨⟨⟨⟨q16.1, q17.1⟩, ⟨q18.1, q19.1⟩⟩, ⟨⟨q20.1, q21.1⟩, ⟨q22.1, q23.1⟩⟩⟩, ⟨⟨⟨q24.1, q25.1⟩, ⟨q26.1, q27.1⟩⟩, ⟨⟨q28.1, q29.1⟩, ⟨q30.1, q31.1⟩⟩⟩⟩⟩, q31.2⟩
theorem dX12_layRings_0 : decode cX12_layRings 0 = .ok (.iconst 0, 1) := fp_hdX12_layRings_0.1.1.1.1.1.1
theorem dX12_layRings_1 : decode cX12_layRings 1 = .ok (.istore_n 1, 1) := fp_hdX12_layRings_0.1.1.1.1.1.2
theorem dX12_layRings_2 : decode cX12_layRings 2 = .ok (.iconst 0, 1) := fp_hdX12_layRings_0.1.1.1.1.2.1
theorem dX12_layRings_3 : decode cX12_layRings 3 = .ok (.istore_n 2, 1) := fp_hdX12_layRings_0.1.1.1.1.2.2
theorem dX12_layRings_4 : decode cX12_layRings 4 = .ok (.iload_n 2, 1) := fp_hdX12_layRings_0.1.1.1.2.1.1
theorem dX12_layRings_5 : decode cX12_layRings 5 = .ok (.iconst 4, 1) := fp_hdX12_layRings_0.1.1.1.2.1.2
theorem dX12_layRings_6 : decode cX12_layRings 6 = .ok (.if_icmp .ge 97, 3) := fp_hdX12_layRings_0.1.1.1.2.2.1
theorem dX12_layRings_9 : decode cX12_layRings 9 = .ok (.aload_n 0, 1) := fp_hdX12_layRings_0.1.1.1.2.2.2
theorem dX12_layRings_10 : decode cX12_layRings 10 = .ok (.getfield 69, 3) := fp_hdX12_layRings_0.1.1.2.1.1.1
theorem dX12_layRings_13 : decode cX12_layRings 13 = .ok (.iload_n 2, 1) := fp_hdX12_layRings_0.1.1.2.1.1.2
theorem dX12_layRings_14 : decode cX12_layRings 14 = .ok (.bipush (-4), 2) := fp_hdX12_layRings_0.1.1.2.1.2.1
theorem dX12_layRings_16 : decode cX12_layRings 16 = .ok (.iastore, 1) := fp_hdX12_layRings_0.1.1.2.1.2.2
theorem dX12_layRings_17 : decode cX12_layRings 17 = .ok (.aload_n 0, 1) := fp_hdX12_layRings_0.1.1.2.2.1.1
theorem dX12_layRings_18 : decode cX12_layRings 18 = .ok (.getfield 72, 3) := fp_hdX12_layRings_0.1.1.2.2.1.2
theorem dX12_layRings_21 : decode cX12_layRings 21 = .ok (.iload_n 2, 1) := fp_hdX12_layRings_0.1.1.2.2.2.1
theorem dX12_layRings_22 : decode cX12_layRings 22 = .ok (.bipush (-4), 2) := fp_hdX12_layRings_0.1.1.2.2.2.2
theorem dX12_layRings_24 : decode cX12_layRings 24 = .ok (.iastore, 1) := fp_hdX12_layRings_0.1.2.1.1.1.1
theorem dX12_layRings_25 : decode cX12_layRings 25 = .ok (.aload_n 0, 1) := fp_hdX12_layRings_0.1.2.1.1.1.2
theorem dX12_layRings_26 : decode cX12_layRings 26 = .ok (.getfield 75, 3) := fp_hdX12_layRings_0.1.2.1.1.2.1
theorem dX12_layRings_29 : decode cX12_layRings 29 = .ok (.iload_n 2, 1) := fp_hdX12_layRings_0.1.2.1.1.2.2
theorem dX12_layRings_30 : decode cX12_layRings 30 = .ok (.bipush (-4), 2) := fp_hdX12_layRings_0.1.2.1.2.1.1
theorem dX12_layRings_32 : decode cX12_layRings 32 = .ok (.iastore, 1) := fp_hdX12_layRings_0.1.2.1.2.1.2
theorem dX12_layRings_33 : decode cX12_layRings 33 = .ok (.aload_n 0, 1) := fp_hdX12_layRings_0.1.2.1.2.2.1
theorem dX12_layRings_34 : decode cX12_layRings 34 = .ok (.getfield 181, 3) := fp_hdX12_layRings_0.1.2.1.2.2.2
theorem dX12_layRings_37 : decode cX12_layRings 37 = .ok (.iconst 1, 1) := fp_hdX12_layRings_0.1.2.2.1.1.1
theorem dX12_layRings_38 : decode cX12_layRings 38 = .ok (.isub, 1) := fp_hdX12_layRings_0.1.2.2.1.1.2
theorem dX12_layRings_39 : decode cX12_layRings 39 = .ok (.istore_n 3, 1) := fp_hdX12_layRings_0.1.2.2.1.2.1
theorem dX12_layRings_40 : decode cX12_layRings 40 = .ok (.iload_n 3, 1) := fp_hdX12_layRings_0.1.2.2.1.2.2
theorem dX12_layRings_41 : decode cX12_layRings 41 = .ok (.ifCond .lt 35, 3) := fp_hdX12_layRings_0.1.2.2.2.1.1
theorem dX12_layRings_44 : decode cX12_layRings 44 = .ok (.aload_n 0, 1) := fp_hdX12_layRings_0.1.2.2.2.1.2
theorem dX12_layRings_45 : decode cX12_layRings 45 = .ok (.getfield 69, 3) := fp_hdX12_layRings_0.1.2.2.2.2.1
theorem dX12_layRings_48 : decode cX12_layRings 48 = .ok (.iload_n 2, 1) := fp_hdX12_layRings_0.1.2.2.2.2.2
theorem fp_hdX12_layRings_49 : (((((decode cX12_layRings 49 = .ok (.aload_n 0, 1) ∧ decode cX12_layRings 50 = .ok (.getfield 7, 3)) ∧ (decode cX12_layRings 53 = .ok (.iload_n 3, 1) ∧ decode cX12_layRings 54 = .ok (.iaload, 1))) ∧ ((decode cX12_layRings 55 = .ok (.iload_n 2, 1) ∧ decode cX12_layRings 56 = .ok (.if_icmp .ne 7, 3)) ∧ (decode cX12_layRings 59 = .ok (.iload_n 3, 1) ∧ decode cX12_layRings 60 = .ok (.goto 9, 3)))) ∧ (((decode cX12_layRings 63 = .ok (.aload_n 0, 1) ∧ decode cX12_layRings 64 = .ok (.getfield 69, 3)) ∧ (decode cX12_layRings 67 = .ok (.iload_n 2, 1) ∧ decode cX12_layRings 68 = .ok (.iaload, 1))) ∧ ((decode cX12_layRings 69 = .ok (.iastore, 1) ∧ decode cX12_layRings 70 = .ok (.iinc 3 (-1), 3)) ∧ (decode cX12_layRings 73 = .ok (.goto (-33), 3) ∧ decode cX12_layRings 76 = .ok (.iload_n 1, 1))))) ∧ ((((decode cX12_layRings 77 = .ok (.aload_n 0, 1) ∧ decode cX12_layRings 78 = .ok (.getfield 69, 3)) ∧ (decode cX12_layRings 81 = .ok (.iload_n 2, 1) ∧ decode cX12_layRings 82 = .ok (.iaload, 1))) ∧ ((decode cX12_layRings 83 = .ok (.bipush (-4), 2) ∧ decode cX12_layRings 85 = .ok (.if_icmp .ne 7, 3)) ∧ (decode cX12_layRings 88 = .ok (.iconst 0, 1) ∧ decode cX12_layRings 89 = .ok (.goto 6, 3)))) ∧ (((decode cX12_layRings 92 = .ok (.iconst 1, 1) ∧ decode cX12_layRings 93 = .ok (.iload_n 2, 1)) ∧ (decode cX12_layRings 94 = .ok (.ishl, 1) ∧ decode cX12_layRings 95 = .ok (.ior, 1))) ∧ ((decode cX12_layRings 96 = .ok (.istore_n 1, 1) ∧ decode cX12_layRings 97 = .ok (.iinc 2 1, 3)) ∧ (decode cX12_layRings 100 = .ok (.goto (-96), 3) ∧ decode cX12_layRings 103 = .ok (.iload_n 1, 1)))))) ∧ bA cX12_layRings 104 fp_scX12_layRings_2 :=
  have q0 := fp_o42 fp_hdX12_layRings_0.2
  have q1 := fp_o180 (v := 7) q0.2 rfl
  have q2 := fp_o29 q1.2
  have q3 := fp_o46 q2.2
  have q4 := fp_o28 q3.2
  have q5 := fp_o160 (v := 7) q4.2 rfl
  have q6 := fp_o29 q5.2
  have q7 := fp_o167 (v := 9) q6.2 rfl
  have q8 := fp_o42 q7.2
  have q9 := fp_o180 (v := 69) q8.2 rfl
  have q10 := fp_o28 q9.2
  have q11 := fp_o46 q10.2
  have q12 := fp_o79 q11.2
  have q13 := fp_o132 (v := (-1)) q12.2 rfl
  have q14 := fp_o167 (v := (-33)) q13.2 rfl
  have q15 := fp_o27 q14.2
  have q16 := fp_o42 q15.2
  have q17 := fp_o180 (v := 69) q16.2 rfl
  have q18 := fp_o28 q17.2
  have q19 := fp_o46 q18.2
  have q20 := fp_o16 (v := (-4)) q19.2 rfl
  have q21 := fp_o160 (v := 7) q20.2 rfl
  have q22 := fp_o3 q21.2
  have q23 := fp_o167 (v := 6) q22.2 rfl
  have q24 := fp_o4 q23.2
  have q25 := fp_o28 q24.2
  have q26 := fp_o120 q25.2
  have q27 := fp_o128 q26.2
  have q28 := fp_o60 q27.2
  have q29 := fp_o132 (v := 1) q28.2 rfl
  have q30 := fp_o167 (v := (-96)) q29.2 rfl
  have q31 := fp_o27 q30.2
  ⟨⟨⟨⟨⟨⟨q0.1, q1.1⟩, ⟨q2.1, q3.1⟩⟩, ⟨⟨q4.1, q5.1⟩, ⟨q6.1, q7.1⟩⟩⟩, ⟨⟨⟨q8.1, q9.1⟩, ⟨q10.1, q11.1⟩⟩, ⟨⟨q12.1, q13.1⟩, ⟨q14.1, q15.1⟩⟩⟩⟩, ⟨⟨⟨⟨q16.1, q17.1⟩, ⟨q18.1, q19.1⟩⟩, ⟨⟨q20.1, q21.1⟩, ⟨q22.1, q23.1⟩⟩⟩, ⟨⟨⟨q24.1, q25.1⟩, ⟨q26.1, q27.1⟩⟩, ⟨⟨q28.1, q29.1⟩, ⟨q30.1, q31.1⟩⟩⟩⟩⟩, q31.2⟩
theorem dX12_layRings_49 : decode cX12_layRings 49 = .ok (.aload_n 0, 1) := fp_hdX12_layRings_49.1.1.1.1.1.1
theorem dX12_layRings_50 : decode cX12_layRings 50 = .ok (.getfield 7, 3) := fp_hdX12_layRings_49.1.1.1.1.1.2
theorem dX12_layRings_53 : decode cX12_layRings 53 = .ok (.iload_n 3, 1) := fp_hdX12_layRings_49.1.1.1.1.2.1
theorem dX12_layRings_54 : decode cX12_layRings 54 = .ok (.iaload, 1) := fp_hdX12_layRings_49.1.1.1.1.2.2
theorem dX12_layRings_55 : decode cX12_layRings 55 = .ok (.iload_n 2, 1) := fp_hdX12_layRings_49.1.1.1.2.1.1
theorem dX12_layRings_56 : decode cX12_layRings 56 = .ok (.if_icmp .ne 7, 3) := fp_hdX12_layRings_49.1.1.1.2.1.2
theorem dX12_layRings_59 : decode cX12_layRings 59 = .ok (.iload_n 3, 1) := fp_hdX12_layRings_49.1.1.1.2.2.1
theorem dX12_layRings_60 : decode cX12_layRings 60 = .ok (.goto 9, 3) := fp_hdX12_layRings_49.1.1.1.2.2.2
theorem dX12_layRings_63 : decode cX12_layRings 63 = .ok (.aload_n 0, 1) := fp_hdX12_layRings_49.1.1.2.1.1.1
theorem dX12_layRings_64 : decode cX12_layRings 64 = .ok (.getfield 69, 3) := fp_hdX12_layRings_49.1.1.2.1.1.2
theorem dX12_layRings_67 : decode cX12_layRings 67 = .ok (.iload_n 2, 1) := fp_hdX12_layRings_49.1.1.2.1.2.1
theorem dX12_layRings_68 : decode cX12_layRings 68 = .ok (.iaload, 1) := fp_hdX12_layRings_49.1.1.2.1.2.2
theorem dX12_layRings_69 : decode cX12_layRings 69 = .ok (.iastore, 1) := fp_hdX12_layRings_49.1.1.2.2.1.1
theorem dX12_layRings_70 : decode cX12_layRings 70 = .ok (.iinc 3 (-1), 3) := fp_hdX12_layRings_49.1.1.2.2.1.2
theorem dX12_layRings_73 : decode cX12_layRings 73 = .ok (.goto (-33), 3) := fp_hdX12_layRings_49.1.1.2.2.2.1
theorem dX12_layRings_76 : decode cX12_layRings 76 = .ok (.iload_n 1, 1) := fp_hdX12_layRings_49.1.1.2.2.2.2
theorem dX12_layRings_77 : decode cX12_layRings 77 = .ok (.aload_n 0, 1) := fp_hdX12_layRings_49.1.2.1.1.1.1
theorem dX12_layRings_78 : decode cX12_layRings 78 = .ok (.getfield 69, 3) := fp_hdX12_layRings_49.1.2.1.1.1.2
theorem dX12_layRings_81 : decode cX12_layRings 81 = .ok (.iload_n 2, 1) := fp_hdX12_layRings_49.1.2.1.1.2.1
theorem dX12_layRings_82 : decode cX12_layRings 82 = .ok (.iaload, 1) := fp_hdX12_layRings_49.1.2.1.1.2.2
theorem dX12_layRings_83 : decode cX12_layRings 83 = .ok (.bipush (-4), 2) := fp_hdX12_layRings_49.1.2.1.2.1.1
theorem dX12_layRings_85 : decode cX12_layRings 85 = .ok (.if_icmp .ne 7, 3) := fp_hdX12_layRings_49.1.2.1.2.1.2
theorem dX12_layRings_88 : decode cX12_layRings 88 = .ok (.iconst 0, 1) := fp_hdX12_layRings_49.1.2.1.2.2.1
theorem dX12_layRings_89 : decode cX12_layRings 89 = .ok (.goto 6, 3) := fp_hdX12_layRings_49.1.2.1.2.2.2
theorem dX12_layRings_92 : decode cX12_layRings 92 = .ok (.iconst 1, 1) := fp_hdX12_layRings_49.1.2.2.1.1.1
theorem dX12_layRings_93 : decode cX12_layRings 93 = .ok (.iload_n 2, 1) := fp_hdX12_layRings_49.1.2.2.1.1.2
theorem dX12_layRings_94 : decode cX12_layRings 94 = .ok (.ishl, 1) := fp_hdX12_layRings_49.1.2.2.1.2.1
theorem dX12_layRings_95 : decode cX12_layRings 95 = .ok (.ior, 1) := fp_hdX12_layRings_49.1.2.2.1.2.2
theorem dX12_layRings_96 : decode cX12_layRings 96 = .ok (.istore_n 1, 1) := fp_hdX12_layRings_49.1.2.2.2.1.1
theorem dX12_layRings_97 : decode cX12_layRings 97 = .ok (.iinc 2 1, 3) := fp_hdX12_layRings_49.1.2.2.2.1.2
theorem dX12_layRings_100 : decode cX12_layRings 100 = .ok (.goto (-96), 3) := fp_hdX12_layRings_49.1.2.2.2.2.1
theorem dX12_layRings_103 : decode cX12_layRings 103 = .ok (.iload_n 1, 1) := fp_hdX12_layRings_49.1.2.2.2.2.2
theorem fp_hdX12_layRings_104 : (((((decode cX12_layRings 104 = .ok (.ifCond .eq 84, 3) ∧ decode cX12_layRings 107 = .ok (.iconst 0, 1)) ∧ (decode cX12_layRings 108 = .ok (.istore_n 2, 1) ∧ decode cX12_layRings 109 = .ok (.iconst 0, 1))) ∧ ((decode cX12_layRings 110 = .ok (.istore_n 3, 1) ∧ decode cX12_layRings 111 = .ok (.iload_n 3, 1)) ∧ (decode cX12_layRings 112 = .ok (.iconst 4, 1) ∧ decode cX12_layRings 113 = .ok (.if_icmp .ge 66, 3)))) ∧ (((decode cX12_layRings 116 = .ok (.iload_n 1, 1) ∧ decode cX12_layRings 117 = .ok (.iload_n 3, 1)) ∧ (decode cX12_layRings 118 = .ok (.ishr, 1) ∧ decode cX12_layRings 119 = .ok (.iconst 1, 1))) ∧ ((decode cX12_layRings 120 = .ok (.iand, 1) ∧ decode cX12_layRings 121 = .ok (.iconst 1, 1)) ∧ (decode cX12_layRings 122 = .ok (.if_icmp .ne 12, 3) ∧ decode cX12_layRings 125 = .ok (.aload_n 0, 1))))) ∧ ((((decode cX12_layRings 126 = .ok (.iload_n 3, 1) ∧ decode cX12_layRings 127 = .ok (.iload_n 1, 1)) ∧ (decode cX12_layRings 128 = .ok (.invokevirtual 321, 3) ∧ decode cX12_layRings 131 = .ok (.goto 4, 3))) ∧ ((decode cX12_layRings 134 = .ok (.iconst 0, 1) ∧ decode cX12_layRings 135 = .ok (.istore 4, 2)) ∧ (decode cX12_layRings 137 = .ok (.iload 4, 2) ∧ decode cX12_layRings 139 = .ok (.ifCond .eq 34, 3)))) ∧ (((decode cX12_layRings 142 = .ok (.iload_n 2, 1) ∧ decode cX12_layRings 143 = .ok (.iconst 1, 1)) ∧ (decode cX12_layRings 144 = .ok (.iload_n 3, 1) ∧ decode cX12_layRings 145 = .ok (.ishl, 1))) ∧ ((decode cX12_layRings 146 = .ok (.ior, 1) ∧ decode cX12_layRings 147 = .ok (.istore_n 2, 1)) ∧ (decode cX12_layRings 148 = .ok (.aload_n 0, 1) ∧ decode cX12_layRings 149 = .ok (.getfield 75, 3)))))) ∧ bA cX12_layRings 152 fp_scX12_layRings_3 :=
  have q0 := fp_o153 (v := 84) fp_hdX12_layRings_49.2 rfl
  have q1 := fp_o3 q0.2
  have q2 := fp_o61 q1.2
  have q3 := fp_o3 q2.2
  have q4 := fp_o62 q3.2
  have q5 := fp_o29 q4.2
  have q6 := fp_o7 q5.2
  have q7 := fp_o162 (v := 66) q6.2 rfl
  have q8 := fp_o27 q7.2
  have q9 := fp_o29 q8.2
  have q10 := fp_o122 q9.2
  have q11 := fp_o4 q10.2
  have q12 := fp_o126 q11.2
  have q13 := fp_o4 q12.2
  have q14 := fp_o160 (v := 12) q13.2 rfl
  have q15 := fp_o42 q14.2
  have q16 := fp_o29 q15.2
  have q17 := fp_o27 q16.2
  have q18 := fp_o182 (v := 321) q17.2 rfl
  have q19 := fp_o167 (v := 4) q18.2 rfl
  have q20 := fp_o3 q19.2
  have q21 := fp_o54 q20.2
  have q22 := fp_o21 q21.2
  have q23 := fp_o153 (v := 34) q22.2 rfl
  have q24 := fp_o28 q23.2
  have q25 := fp_o4 q24.2
  have q26 := fp_o29 q25.2
  have q27 := fp_o120 q26.2
  have q28 := fp_o128 q27.2
  have q29 := fp_o61 q28.2
  have q30 := fp_o42 q29.2
  have q31 := fp_o180 (v := 75) q30.2 rfl
  ⟨⟨⟨⟨⟨⟨q0.1, q1.1⟩, ⟨q2.1, q3.1⟩⟩, ⟨⟨q4.1, q5.1⟩, ⟨q6.1, q7.1⟩⟩⟩, ⟨⟨⟨q8.1, q9.1⟩, ⟨q10.1, q11.1⟩⟩, ⟨⟨q12.1, q13.1⟩, ⟨q14.1, q15.1⟩⟩⟩⟩, ⟨⟨⟨⟨q16.1, q17.1⟩, ⟨q18.1, q19.1⟩⟩, ⟨⟨q20.1, q21.1⟩, ⟨q22.1, q23.1⟩⟩⟩, ⟨⟨⟨q24.1, q25.1⟩, ⟨q26.1, q27.1⟩⟩, ⟨⟨q28.1, q29.1⟩, ⟨q30.1, q31.1⟩⟩⟩⟩⟩, q31.2⟩
theorem dX12_layRings_104 : decode cX12_layRings 104 = .ok (.ifCond .eq 84, 3) := fp_hdX12_layRings_104.1.1.1.1.1.1
theorem dX12_layRings_107 : decode cX12_layRings 107 = .ok (.iconst 0, 1) := fp_hdX12_layRings_104.1.1.1.1.1.2
theorem dX12_layRings_108 : decode cX12_layRings 108 = .ok (.istore_n 2, 1) := fp_hdX12_layRings_104.1.1.1.1.2.1
theorem dX12_layRings_109 : decode cX12_layRings 109 = .ok (.iconst 0, 1) := fp_hdX12_layRings_104.1.1.1.1.2.2
theorem dX12_layRings_110 : decode cX12_layRings 110 = .ok (.istore_n 3, 1) := fp_hdX12_layRings_104.1.1.1.2.1.1
theorem dX12_layRings_111 : decode cX12_layRings 111 = .ok (.iload_n 3, 1) := fp_hdX12_layRings_104.1.1.1.2.1.2
theorem dX12_layRings_112 : decode cX12_layRings 112 = .ok (.iconst 4, 1) := fp_hdX12_layRings_104.1.1.1.2.2.1
theorem dX12_layRings_113 : decode cX12_layRings 113 = .ok (.if_icmp .ge 66, 3) := fp_hdX12_layRings_104.1.1.1.2.2.2
theorem dX12_layRings_116 : decode cX12_layRings 116 = .ok (.iload_n 1, 1) := fp_hdX12_layRings_104.1.1.2.1.1.1
theorem dX12_layRings_117 : decode cX12_layRings 117 = .ok (.iload_n 3, 1) := fp_hdX12_layRings_104.1.1.2.1.1.2
theorem dX12_layRings_118 : decode cX12_layRings 118 = .ok (.ishr, 1) := fp_hdX12_layRings_104.1.1.2.1.2.1
theorem dX12_layRings_119 : decode cX12_layRings 119 = .ok (.iconst 1, 1) := fp_hdX12_layRings_104.1.1.2.1.2.2
theorem dX12_layRings_120 : decode cX12_layRings 120 = .ok (.iand, 1) := fp_hdX12_layRings_104.1.1.2.2.1.1
theorem dX12_layRings_121 : decode cX12_layRings 121 = .ok (.iconst 1, 1) := fp_hdX12_layRings_104.1.1.2.2.1.2
theorem dX12_layRings_122 : decode cX12_layRings 122 = .ok (.if_icmp .ne 12, 3) := fp_hdX12_layRings_104.1.1.2.2.2.1
theorem dX12_layRings_125 : decode cX12_layRings 125 = .ok (.aload_n 0, 1) := fp_hdX12_layRings_104.1.1.2.2.2.2
theorem dX12_layRings_126 : decode cX12_layRings 126 = .ok (.iload_n 3, 1) := fp_hdX12_layRings_104.1.2.1.1.1.1
theorem dX12_layRings_127 : decode cX12_layRings 127 = .ok (.iload_n 1, 1) := fp_hdX12_layRings_104.1.2.1.1.1.2
theorem dX12_layRings_128 : decode cX12_layRings 128 = .ok (.invokevirtual 321, 3) := fp_hdX12_layRings_104.1.2.1.1.2.1
theorem dX12_layRings_131 : decode cX12_layRings 131 = .ok (.goto 4, 3) := fp_hdX12_layRings_104.1.2.1.1.2.2
theorem dX12_layRings_134 : decode cX12_layRings 134 = .ok (.iconst 0, 1) := fp_hdX12_layRings_104.1.2.1.2.1.1
theorem dX12_layRings_135 : decode cX12_layRings 135 = .ok (.istore 4, 2) := fp_hdX12_layRings_104.1.2.1.2.1.2
theorem dX12_layRings_137 : decode cX12_layRings 137 = .ok (.iload 4, 2) := fp_hdX12_layRings_104.1.2.1.2.2.1
theorem dX12_layRings_139 : decode cX12_layRings 139 = .ok (.ifCond .eq 34, 3) := fp_hdX12_layRings_104.1.2.1.2.2.2
theorem dX12_layRings_142 : decode cX12_layRings 142 = .ok (.iload_n 2, 1) := fp_hdX12_layRings_104.1.2.2.1.1.1
theorem dX12_layRings_143 : decode cX12_layRings 143 = .ok (.iconst 1, 1) := fp_hdX12_layRings_104.1.2.2.1.1.2
theorem dX12_layRings_144 : decode cX12_layRings 144 = .ok (.iload_n 3, 1) := fp_hdX12_layRings_104.1.2.2.1.2.1
theorem dX12_layRings_145 : decode cX12_layRings 145 = .ok (.ishl, 1) := fp_hdX12_layRings_104.1.2.2.1.2.2
theorem dX12_layRings_146 : decode cX12_layRings 146 = .ok (.ior, 1) := fp_hdX12_layRings_104.1.2.2.2.1.1
theorem dX12_layRings_147 : decode cX12_layRings 147 = .ok (.istore_n 2, 1) := fp_hdX12_layRings_104.1.2.2.2.1.2
theorem dX12_layRings_148 : decode cX12_layRings 148 = .ok (.aload_n 0, 1) := fp_hdX12_layRings_104.1.2.2.2.2.1
theorem dX12_layRings_149 : decode cX12_layRings 149 = .ok (.getfield 75, 3) := fp_hdX12_layRings_104.1.2.2.2.2.2
theorem fp_hdX12_layRings_152 : (((((decode cX12_layRings 152 = .ok (.iload_n 3, 1) ∧ decode cX12_layRings 153 = .ok (.iload 4, 2)) ∧ decode cX12_layRings 155 = .ok (.iastore, 1)) ∧ ((decode cX12_layRings 156 = .ok (.aload_n 0, 1) ∧ decode cX12_layRings 157 = .ok (.getfield 72, 3)) ∧ decode cX12_layRings 160 = .ok (.iload_n 3, 1))) ∧ (((decode cX12_layRings 161 = .ok (.aload_n 0, 1) ∧ decode cX12_layRings 162 = .ok (.getfield 69, 3)) ∧ decode cX12_layRings 165 = .ok (.aload_n 0, 1)) ∧ ((decode cX12_layRings 166 = .ok (.iload_n 3, 1) ∧ decode cX12_layRings 167 = .ok (.iload_n 1, 1)) ∧ decode cX12_layRings 168 = .ok (.invokevirtual 318, 3)))) ∧ ((((decode cX12_layRings 171 = .ok (.iaload, 1) ∧ decode cX12_layRings 172 = .ok (.iastore, 1)) ∧ decode cX12_layRings 173 = .ok (.iinc 3 1, 3)) ∧ ((decode cX12_layRings 176 = .ok (.goto (-65), 3) ∧ decode cX12_layRings 179 = .ok (.iload_n 1, 1)) ∧ decode cX12_layRings 180 = .ok (.iload_n 2, 1))) ∧ (((decode cX12_layRings 181 = .ok (.iconst (-1), 1) ∧ decode cX12_layRings 182 = .ok (.ixor, 1)) ∧ decode cX12_layRings 183 = .ok (.iand, 1)) ∧ ((decode cX12_layRings 184 = .ok (.istore_n 1, 1) ∧ decode cX12_layRings 185 = .ok (.goto (-82), 3)) ∧ decode cX12_layRings 188 = .ok (.return_, 1))))) ∧ bA cX12_layRings 189 [] :=
  have q0 := fp_o29 fp_hdX12_layRings_104.2
  have q1 := fp_o21 q0.2
  have q2 := fp_o79 q1.2
  have q3 := fp_o42 q2.2
  have q4 := fp_o180 (v := 72) q3.2 rfl
  have q5 := fp_o29 q4.2
  have q6 := fp_o42 q5.2
  have q7 := fp_o180 (v := 69) q6.2 rfl
  have q8 := fp_o42 q7.2
  have q9 := fp_o29 q8.2
  have q10 := fp_o27 q9.2
  have q11 := fp_o182 (v := 318) q10.2 rfl
  have q12 := fp_o46 q11.2
  have q13 := fp_o79 q12.2
  have q14 := fp_o132 (v := 1) q13.2 rfl
  have q15 := fp_o167 (v := (-65)) q14.2 rfl
  have q16 := fp_o27 q15.2
  have q17 := fp_o28 q16.2
  have q18 := fp_o2 q17.2
  have q19 := fp_o130 q18.2
  have q20 := fp_o126 q19.2
  have q21 := fp_o60 q20.2
  have q22 := fp_o167 (v := (-82)) q21.2 rfl
  have q23 := fp_o177 q22.2
  ⟨⟨⟨⟨⟨⟨q0.1, q1.1⟩, q2.1⟩, ⟨⟨q3.1, q4.1⟩, q5.1⟩⟩, ⟨⟨⟨q6.1, q7.1⟩, q8.1⟩, ⟨⟨q9.1, q10.1⟩, q11.1⟩⟩⟩, ⟨⟨⟨⟨q12.1, q13.1⟩, q14.1⟩, ⟨⟨q15.1, q16.1⟩, q17.1⟩⟩, ⟨⟨⟨q18.1, q19.1⟩, q20.1⟩, ⟨⟨q21.1, q22.1⟩, q23.1⟩⟩⟩⟩, q23.2⟩
theorem dX12_layRings_152 : decode cX12_layRings 152 = .ok (.iload_n 3, 1) := fp_hdX12_layRings_152.1.1.1.1.1.1
theorem dX12_layRings_153 : decode cX12_layRings 153 = .ok (.iload 4, 2) := fp_hdX12_layRings_152.1.1.1.1.1.2
theorem dX12_layRings_155 : decode cX12_layRings 155 = .ok (.iastore, 1) := fp_hdX12_layRings_152.1.1.1.1.2
theorem dX12_layRings_156 : decode cX12_layRings 156 = .ok (.aload_n 0, 1) := fp_hdX12_layRings_152.1.1.1.2.1.1
theorem dX12_layRings_157 : decode cX12_layRings 157 = .ok (.getfield 72, 3) := fp_hdX12_layRings_152.1.1.1.2.1.2
theorem dX12_layRings_160 : decode cX12_layRings 160 = .ok (.iload_n 3, 1) := fp_hdX12_layRings_152.1.1.1.2.2
theorem dX12_layRings_161 : decode cX12_layRings 161 = .ok (.aload_n 0, 1) := fp_hdX12_layRings_152.1.1.2.1.1.1
theorem dX12_layRings_162 : decode cX12_layRings 162 = .ok (.getfield 69, 3) := fp_hdX12_layRings_152.1.1.2.1.1.2
theorem dX12_layRings_165 : decode cX12_layRings 165 = .ok (.aload_n 0, 1) := fp_hdX12_layRings_152.1.1.2.1.2
theorem dX12_layRings_166 : decode cX12_layRings 166 = .ok (.iload_n 3, 1) := fp_hdX12_layRings_152.1.1.2.2.1.1
theorem dX12_layRings_167 : decode cX12_layRings 167 = .ok (.iload_n 1, 1) := fp_hdX12_layRings_152.1.1.2.2.1.2
theorem dX12_layRings_168 : decode cX12_layRings 168 = .ok (.invokevirtual 318, 3) := fp_hdX12_layRings_152.1.1.2.2.2
theorem dX12_layRings_171 : decode cX12_layRings 171 = .ok (.iaload, 1) := fp_hdX12_layRings_152.1.2.1.1.1.1
theorem dX12_layRings_172 : decode cX12_layRings 172 = .ok (.iastore, 1) := fp_hdX12_layRings_152.1.2.1.1.1.2
theorem dX12_layRings_173 : decode cX12_layRings 173 = .ok (.iinc 3 1, 3) := fp_hdX12_layRings_152.1.2.1.1.2
theorem dX12_layRings_176 : decode cX12_layRings 176 = .ok (.goto (-65), 3) := fp_hdX12_layRings_152.1.2.1.2.1.1
theorem dX12_layRings_179 : decode cX12_layRings 179 = .ok (.iload_n 1, 1) := fp_hdX12_layRings_152.1.2.1.2.1.2
theorem dX12_layRings_180 : decode cX12_layRings 180 = .ok (.iload_n 2, 1) := fp_hdX12_layRings_152.1.2.1.2.2
theorem dX12_layRings_181 : decode cX12_layRings 181 = .ok (.iconst (-1), 1) := fp_hdX12_layRings_152.1.2.2.1.1.1
theorem dX12_layRings_182 : decode cX12_layRings 182 = .ok (.ixor, 1) := fp_hdX12_layRings_152.1.2.2.1.1.2
theorem dX12_layRings_183 : decode cX12_layRings 183 = .ok (.iand, 1) := fp_hdX12_layRings_152.1.2.2.1.2
theorem dX12_layRings_184 : decode cX12_layRings 184 = .ok (.istore_n 1, 1) := fp_hdX12_layRings_152.1.2.2.2.1.1
theorem dX12_layRings_185 : decode cX12_layRings 185 = .ok (.goto (-82), 3) := fp_hdX12_layRings_152.1.2.2.2.1.2
theorem dX12_layRings_188 : decode cX12_layRings 188 = .ok (.return_, 1) := fp_hdX12_layRings_152.1.2.2.2.2
def fp_scX12_ring_0 : List Nat := 27 :: 184 :: 0 :: 228 :: 154 :: 0 :: 5 :: 2 :: 172 :: 42 :: 182 :: 1 :: 68 :: 42 :: 180 :: 0 :: 72 :: 27 :: 46 :: 172 :: []
theorem fp_bcX12_ring : bA cX12_ring 0 fp_scX12_ring_0 := show cX12_ring.data.toList.map UInt8.toNat = fp_scX12_ring_0 from by decide +kernel
theorem fp_hdX12_ring_0 : ((((decode cX12_ring 0 = .ok (.iload_n 1, 1) ∧ decode cX12_ring 1 = .ok (.invokestatic 228, 3)) ∧ decode cX12_ring 4 = .ok (.ifCond .ne 5, 3)) ∧ ((decode cX12_ring 7 = .ok (.iconst (-1), 1) ∧ decode cX12_ring 8 = .ok (.ireturn, 1)) ∧ decode cX12_ring 9 = .ok (.aload_n 0, 1))) ∧ (((decode cX12_ring 10 = .ok (.invokevirtual 324, 3) ∧ decode cX12_ring 13 = .ok (.aload_n 0, 1)) ∧ decode cX12_ring 14 = .ok (.getfield 72, 3)) ∧ ((decode cX12_ring 17 = .ok (.iload_n 1, 1) ∧ decode cX12_ring 18 = .ok (.iaload, 1)) ∧ decode cX12_ring 19 = .ok (.ireturn, 1)))) ∧ bA cX12_ring 20 [] :=
  have q0 := fp_o27 fp_bcX12_ring
  have q1 := fp_o184 (v := 228) q0.2 rfl
  have q2 := fp_o154 (v := 5) q1.2 rfl
  have q3 := fp_o2 q2.2
  have q4 := fp_o172 q3.2
  have q5 := fp_o42 q4.2
  have q6 := fp_o182 (v := 324) q5.2 rfl
  have q7 := fp_o42 q6.2
  have q8 := fp_o180 (v := 72) q7.2 rfl
  have q9 := fp_o27 q8.2
  have q10 := fp_o46 q9.2
  have q11 := fp_o172 q10.2
  ⟨⟨⟨⟨⟨q0.1, q1.1⟩, q2.1⟩, ⟨⟨q3.1, q4.1⟩, q5.1⟩⟩, ⟨⟨⟨q6.1, q7.1⟩, q8.1⟩, ⟨⟨q9.1, q10.1⟩, q11.1⟩⟩⟩, q11.2⟩
theorem dX12_ring_0 : decode cX12_ring 0 = .ok (.iload_n 1, 1) := fp_hdX12_ring_0.1.1.1.1.1
theorem dX12_ring_1 : decode cX12_ring 1 = .ok (.invokestatic 228, 3) := fp_hdX12_ring_0.1.1.1.1.2
theorem dX12_ring_4 : decode cX12_ring 4 = .ok (.ifCond .ne 5, 3) := fp_hdX12_ring_0.1.1.1.2
theorem dX12_ring_7 : decode cX12_ring 7 = .ok (.iconst (-1), 1) := fp_hdX12_ring_0.1.1.2.1.1
theorem dX12_ring_8 : decode cX12_ring 8 = .ok (.ireturn, 1) := fp_hdX12_ring_0.1.1.2.1.2
theorem dX12_ring_9 : decode cX12_ring 9 = .ok (.aload_n 0, 1) := fp_hdX12_ring_0.1.1.2.2
theorem dX12_ring_10 : decode cX12_ring 10 = .ok (.invokevirtual 324, 3) := fp_hdX12_ring_0.1.2.1.1.1
theorem dX12_ring_13 : decode cX12_ring 13 = .ok (.aload_n 0, 1) := fp_hdX12_ring_0.1.2.1.1.2
theorem dX12_ring_14 : decode cX12_ring 14 = .ok (.getfield 72, 3) := fp_hdX12_ring_0.1.2.1.2
theorem dX12_ring_17 : decode cX12_ring 17 = .ok (.iload_n 1, 1) := fp_hdX12_ring_0.1.2.2.1.1
theorem dX12_ring_18 : decode cX12_ring 18 = .ok (.iaload, 1) := fp_hdX12_ring_0.1.2.2.1.2
theorem dX12_ring_19 : decode cX12_ring 19 = .ok (.ireturn, 1) := fp_hdX12_ring_0.1.2.2.2
def fp_scX12_with_0 : List Nat := 27 :: 184 :: 0 :: 228 :: 154 :: 0 :: 5 :: 2 :: 172 :: 42 :: 182 :: 1 :: 68 :: 42 :: 180 :: 0 :: 75 :: 27 :: 46 :: 172 :: []
theorem fp_bcX12_with : bA cX12_with 0 fp_scX12_with_0 := show cX12_with.data.toList.map UInt8.toNat = fp_scX12_with_0 from by decide +kernel
theorem fp_hdX12_with_0 : ((((decode cX12_with 0 = .ok (.iload_n 1, 1) ∧ decode cX12_with 1 = .ok (.invokestatic 228, 3)) ∧ decode cX12_with 4 = .ok (.ifCond .ne 5, 3)) ∧ ((decode cX12_with 7 = .ok (.iconst (-1), 1) ∧ decode cX12_with 8 = .ok (.ireturn, 1)) ∧ decode cX12_with 9 = .ok (.aload_n 0, 1))) ∧ (((decode cX12_with 10 = .ok (.invokevirtual 324, 3) ∧ decode cX12_with 13 = .ok (.aload_n 0, 1)) ∧ decode cX12_with 14 = .ok (.getfield 75, 3)) ∧ ((decode cX12_with 17 = .ok (.iload_n 1, 1) ∧ decode cX12_with 18 = .ok (.iaload, 1)) ∧ decode cX12_with 19 = .ok (.ireturn, 1)))) ∧ bA cX12_with 20 [] :=
  have q0 := fp_o27 fp_bcX12_with
  have q1 := fp_o184 (v := 228) q0.2 rfl
  have q2 := fp_o154 (v := 5) q1.2 rfl
  have q3 := fp_o2 q2.2
  have q4 := fp_o172 q3.2
  have q5 := fp_o42 q4.2
  have q6 := fp_o182 (v := 324) q5.2 rfl
  have q7 := fp_o42 q6.2
  have q8 := fp_o180 (v := 75) q7.2 rfl
  have q9 := fp_o27 q8.2
  have q10 := fp_o46 q9.2
  have q11 := fp_o172 q10.2
  ⟨⟨⟨⟨⟨q0.1, q1.1⟩, q2.1⟩, ⟨⟨q3.1, q4.1⟩, q5.1⟩⟩, ⟨⟨⟨q6.1, q7.1⟩, q8.1⟩, ⟨⟨q9.1, q10.1⟩, q11.1⟩⟩⟩, q11.2⟩
theorem dX12_with_0 : decode cX12_with 0 = .ok (.iload_n 1, 1) := fp_hdX12_with_0.1.1.1.1.1
theorem dX12_with_1 : decode cX12_with 1 = .ok (.invokestatic 228, 3) := fp_hdX12_with_0.1.1.1.1.2
theorem dX12_with_4 : decode cX12_with 4 = .ok (.ifCond .ne 5, 3) := fp_hdX12_with_0.1.1.1.2
theorem dX12_with_7 : decode cX12_with 7 = .ok (.iconst (-1), 1) := fp_hdX12_with_0.1.1.2.1.1
theorem dX12_with_8 : decode cX12_with 8 = .ok (.ireturn, 1) := fp_hdX12_with_0.1.1.2.1.2
theorem dX12_with_9 : decode cX12_with 9 = .ok (.aload_n 0, 1) := fp_hdX12_with_0.1.1.2.2
theorem dX12_with_10 : decode cX12_with 10 = .ok (.invokevirtual 324, 3) := fp_hdX12_with_0.1.2.1.1.1
theorem dX12_with_13 : decode cX12_with 13 = .ok (.aload_n 0, 1) := fp_hdX12_with_0.1.2.1.1.2
theorem dX12_with_14 : decode cX12_with 14 = .ok (.getfield 75, 3) := fp_hdX12_with_0.1.2.1.2
theorem dX12_with_17 : decode cX12_with 17 = .ok (.iload_n 1, 1) := fp_hdX12_with_0.1.2.2.1.1
theorem dX12_with_18 : decode cX12_with 18 = .ok (.iaload, 1) := fp_hdX12_with_0.1.2.2.1.2
theorem dX12_with_19 : decode cX12_with 19 = .ok (.ireturn, 1) := fp_hdX12_with_0.1.2.2.2
def fp_scX12_join_1 : List Nat := 46 :: 54 :: 6 :: 21 :: 6 :: 29 :: 164 :: 0 :: 8 :: 21 :: 4 :: 167 :: 0 :: 4 :: 28 :: 61 :: 21 :: 6 :: 29 :: 164 :: 0 :: 8 :: 21 :: 6 :: 167 :: 0 :: 4 :: 29 :: 62 :: 132 :: 4 :: 1 :: 167 :: 255 :: 184 :: 28 :: 172 :: []
def fp_scX12_join_0 : List Nat := 27 :: 184 :: 0 :: 228 :: 154 :: 0 :: 5 :: 2 :: 172 :: 16 :: 252 :: 61 :: 16 :: 252 :: 62 :: 3 :: 54 :: 4 :: 21 :: 4 :: 42 :: 180 :: 0 :: 184 :: 162 :: 0 :: 69 :: 42 :: 3 :: 21 :: 4 :: 182 :: 0 :: 222 :: 54 :: 5 :: 21 :: 5 :: 16 :: 252 :: 160 :: 0 :: 8 :: 16 :: 252 :: 167 :: 0 :: 14 :: 42 :: 180 :: 0 :: 16 :: 7 :: 21 :: 5 :: 104 :: 27 :: 96 :: fp_scX12_join_1
theorem fp_bcX12_join : bA cX12_join 0 fp_scX12_join_0 := show cX12_join.data.toList.map UInt8.toNat = fp_scX12_join_0 from by decide +kernel
theorem fp_hdX12_join_0 : (((((decode cX12_join 0 = .ok (.iload_n 1, 1) ∧ decode cX12_join 1 = .ok (.invokestatic 228, 3)) ∧ (decode cX12_join 4 = .ok (.ifCond .ne 5, 3) ∧ decode cX12_join 7 = .ok (.iconst (-1), 1))) ∧ ((decode cX12_join 8 = .ok (.ireturn, 1) ∧ decode cX12_join 9 = .ok (.bipush (-4), 2)) ∧ (decode cX12_join 11 = .ok (.istore_n 2, 1) ∧ decode cX12_join 12 = .ok (.bipush (-4), 2)))) ∧ (((decode cX12_join 14 = .ok (.istore_n 3, 1) ∧ decode cX12_join 15 = .ok (.iconst 0, 1)) ∧ (decode cX12_join 16 = .ok (.istore 4, 2) ∧ decode cX12_join 18 = .ok (.iload 4, 2))) ∧ ((decode cX12_join 20 = .ok (.aload_n 0, 1) ∧ decode cX12_join 21 = .ok (.getfield 184, 3)) ∧ (decode cX12_join 24 = .ok (.if_icmp .ge 69, 3) ∧ decode cX12_join 27 = .ok (.aload_n 0, 1))))) ∧ ((((decode cX12_join 28 = .ok (.iconst 0, 1) ∧ decode cX12_join 29 = .ok (.iload 4, 2)) ∧ (decode cX12_join 31 = .ok (.invokevirtual 222, 3) ∧ decode cX12_join 34 = .ok (.istore 5, 2))) ∧ ((decode cX12_join 36 = .ok (.iload 5, 2) ∧ decode cX12_join 38 = .ok (.bipush (-4), 2)) ∧ (decode cX12_join 40 = .ok (.if_icmp .ne 8, 3) ∧ decode cX12_join 43 = .ok (.bipush (-4), 2)))) ∧ (((decode cX12_join 45 = .ok (.goto 14, 3) ∧ decode cX12_join 48 = .ok (.aload_n 0, 1)) ∧ (decode cX12_join 49 = .ok (.getfield 16, 3) ∧ decode cX12_join 52 = .ok (.iconst 4, 1))) ∧ ((decode cX12_join 53 = .ok (.iload 5, 2) ∧ decode cX12_join 55 = .ok (.imul, 1)) ∧ (decode cX12_join 56 = .ok (.iload_n 1, 1) ∧ decode cX12_join 57 = .ok (.iadd, 1)))))) ∧ bA cX12_join 58 fp_scX12_join_1 :=
  have q0 := fp_o27 fp_bcX12_join
  have q1 := fp_o184 (v := 228) q0.2 rfl
  have q2 := fp_o154 (v := 5) q1.2 rfl
  have q3 := fp_o2 q2.2
  have q4 := fp_o172 q3.2
  have q5 := fp_o16 (v := (-4)) q4.2 rfl
  have q6 := fp_o61 q5.2
  have q7 := fp_o16 (v := (-4)) q6.2 rfl
  have q8 := fp_o62 q7.2
  have q9 := fp_o3 q8.2
  have q10 := fp_o54 q9.2
  have q11 := fp_o21 q10.2
  have q12 := fp_o42 q11.2
  have q13 := fp_o180 (v := 184) q12.2 rfl
  have q14 := fp_o162 (v := 69) q13.2 rfl
  have q15 := fp_o42 q14.2
  have q16 := fp_o3 q15.2
  have q17 := fp_o21 q16.2
  have q18 := fp_o182 (v := 222) q17.2 rfl
  have q19 := fp_o54 q18.2
  have q20 := fp_o21 q19.2
  have q21 := fp_o16 (v := (-4)) q20.2 rfl
  have q22 := fp_o160 (v := 8) q21.2 rfl
  have q23 := fp_o16 (v := (-4)) q22.2 rfl
  have q24 := fp_o167 (v := 14) q23.2 rfl
  have q25 := fp_o42 q24.2
  have q26 := fp_o180 (v := 16) q25.2 rfl
  have q27 := fp_o7 q26.2
  have q28 := fp_o21 q27.2
  have q29 := fp_o104 q28.2
  have q30 := fp_o27 q29.2
  have q31 := fp_o96 q30.2
  ⟨⟨⟨⟨⟨⟨q0.1, q1.1⟩, ⟨q2.1, q3.1⟩⟩, ⟨⟨q4.1, q5.1⟩, ⟨q6.1, q7.1⟩⟩⟩, ⟨⟨⟨q8.1, q9.1⟩, ⟨q10.1, q11.1⟩⟩, ⟨⟨q12.1, q13.1⟩, ⟨q14.1, q15.1⟩⟩⟩⟩, ⟨⟨⟨⟨q16.1, q17.1⟩, ⟨q18.1, q19.1⟩⟩, ⟨⟨q20.1, q21.1⟩, ⟨q22.1, q23.1⟩⟩⟩, ⟨⟨⟨q24.1, q25.1⟩, ⟨q26.1, q27.1⟩⟩, ⟨⟨q28.1, q29.1⟩, ⟨q30.1, q31.1⟩⟩⟩⟩⟩, q31.2⟩
theorem dX12_join_0 : decode cX12_join 0 = .ok (.iload_n 1, 1) := fp_hdX12_join_0.1.1.1.1.1.1
theorem dX12_join_1 : decode cX12_join 1 = .ok (.invokestatic 228, 3) := fp_hdX12_join_0.1.1.1.1.1.2
theorem dX12_join_4 : decode cX12_join 4 = .ok (.ifCond .ne 5, 3) := fp_hdX12_join_0.1.1.1.1.2.1
theorem dX12_join_7 : decode cX12_join 7 = .ok (.iconst (-1), 1) := fp_hdX12_join_0.1.1.1.1.2.2
theorem dX12_join_8 : decode cX12_join 8 = .ok (.ireturn, 1) := fp_hdX12_join_0.1.1.1.2.1.1
theorem dX12_join_9 : decode cX12_join 9 = .ok (.bipush (-4), 2) := fp_hdX12_join_0.1.1.1.2.1.2
theorem dX12_join_11 : decode cX12_join 11 = .ok (.istore_n 2, 1) := fp_hdX12_join_0.1.1.1.2.2.1
theorem dX12_join_12 : decode cX12_join 12 = .ok (.bipush (-4), 2) := fp_hdX12_join_0.1.1.1.2.2.2
theorem dX12_join_14 : decode cX12_join 14 = .ok (.istore_n 3, 1) := fp_hdX12_join_0.1.1.2.1.1.1
theorem dX12_join_15 : decode cX12_join 15 = .ok (.iconst 0, 1) := fp_hdX12_join_0.1.1.2.1.1.2
theorem dX12_join_16 : decode cX12_join 16 = .ok (.istore 4, 2) := fp_hdX12_join_0.1.1.2.1.2.1
theorem dX12_join_18 : decode cX12_join 18 = .ok (.iload 4, 2) := fp_hdX12_join_0.1.1.2.1.2.2
theorem dX12_join_20 : decode cX12_join 20 = .ok (.aload_n 0, 1) := fp_hdX12_join_0.1.1.2.2.1.1
theorem dX12_join_21 : decode cX12_join 21 = .ok (.getfield 184, 3) := fp_hdX12_join_0.1.1.2.2.1.2
theorem dX12_join_24 : decode cX12_join 24 = .ok (.if_icmp .ge 69, 3) := fp_hdX12_join_0.1.1.2.2.2.1
theorem dX12_join_27 : decode cX12_join 27 = .ok (.aload_n 0, 1) := fp_hdX12_join_0.1.1.2.2.2.2
theorem dX12_join_28 : decode cX12_join 28 = .ok (.iconst 0, 1) := fp_hdX12_join_0.1.2.1.1.1.1
theorem dX12_join_29 : decode cX12_join 29 = .ok (.iload 4, 2) := fp_hdX12_join_0.1.2.1.1.1.2
theorem dX12_join_31 : decode cX12_join 31 = .ok (.invokevirtual 222, 3) := fp_hdX12_join_0.1.2.1.1.2.1
theorem dX12_join_34 : decode cX12_join 34 = .ok (.istore 5, 2) := fp_hdX12_join_0.1.2.1.1.2.2
theorem dX12_join_36 : decode cX12_join 36 = .ok (.iload 5, 2) := fp_hdX12_join_0.1.2.1.2.1.1
theorem dX12_join_38 : decode cX12_join 38 = .ok (.bipush (-4), 2) := fp_hdX12_join_0.1.2.1.2.1.2
theorem dX12_join_40 : decode cX12_join 40 = .ok (.if_icmp .ne 8, 3) := fp_hdX12_join_0.1.2.1.2.2.1
theorem dX12_join_43 : decode cX12_join 43 = .ok (.bipush (-4), 2) := fp_hdX12_join_0.1.2.1.2.2.2
theorem dX12_join_45 : decode cX12_join 45 = .ok (.goto 14, 3) := fp_hdX12_join_0.1.2.2.1.1.1
theorem dX12_join_48 : decode cX12_join 48 = .ok (.aload_n 0, 1) := fp_hdX12_join_0.1.2.2.1.1.2
theorem dX12_join_49 : decode cX12_join 49 = .ok (.getfield 16, 3) := fp_hdX12_join_0.1.2.2.1.2.1
theorem dX12_join_52 : decode cX12_join 52 = .ok (.iconst 4, 1) := fp_hdX12_join_0.1.2.2.1.2.2
theorem dX12_join_53 : decode cX12_join 53 = .ok (.iload 5, 2) := fp_hdX12_join_0.1.2.2.2.1.1
theorem dX12_join_55 : decode cX12_join 55 = .ok (.imul, 1) := fp_hdX12_join_0.1.2.2.2.1.2
theorem dX12_join_56 : decode cX12_join 56 = .ok (.iload_n 1, 1) := fp_hdX12_join_0.1.2.2.2.2.1
theorem dX12_join_57 : decode cX12_join 57 = .ok (.iadd, 1) := fp_hdX12_join_0.1.2.2.2.2.2
theorem fp_hdX12_join_58 : (((((decode cX12_join 58 = .ok (.iaload, 1) ∧ decode cX12_join 59 = .ok (.istore 6, 2)) ∧ decode cX12_join 61 = .ok (.iload 6, 2)) ∧ (decode cX12_join 63 = .ok (.iload_n 3, 1) ∧ decode cX12_join 64 = .ok (.if_icmp .le 8, 3))) ∧ (((decode cX12_join 67 = .ok (.iload 4, 2) ∧ decode cX12_join 69 = .ok (.goto 4, 3)) ∧ decode cX12_join 72 = .ok (.iload_n 2, 1)) ∧ (decode cX12_join 73 = .ok (.istore_n 2, 1) ∧ decode cX12_join 74 = .ok (.iload 6, 2)))) ∧ ((((decode cX12_join 76 = .ok (.iload_n 3, 1) ∧ decode cX12_join 77 = .ok (.if_icmp .le 8, 3)) ∧ decode cX12_join 80 = .ok (.iload 6, 2)) ∧ (decode cX12_join 82 = .ok (.goto 4, 3) ∧ decode cX12_join 85 = .ok (.iload_n 3, 1))) ∧ (((decode cX12_join 86 = .ok (.istore_n 3, 1) ∧ decode cX12_join 87 = .ok (.iinc 4 1, 3)) ∧ decode cX12_join 90 = .ok (.goto (-72), 3)) ∧ (decode cX12_join 93 = .ok (.iload_n 2, 1) ∧ decode cX12_join 94 = .ok (.ireturn, 1))))) ∧ bA cX12_join 95 [] :=
  have q0 := fp_o46 fp_hdX12_join_0.2
  have q1 := fp_o54 q0.2
  have q2 := fp_o21 q1.2
  have q3 := fp_o29 q2.2
  have q4 := fp_o164 (v := 8) q3.2 rfl
  have q5 := fp_o21 q4.2
  have q6 := fp_o167 (v := 4) q5.2 rfl
  have q7 := fp_o28 q6.2
  have q8 := fp_o61 q7.2
  have q9 := fp_o21 q8.2
  have q10 := fp_o29 q9.2
  have q11 := fp_o164 (v := 8) q10.2 rfl
  have q12 := fp_o21 q11.2
  have q13 := fp_o167 (v := 4) q12.2 rfl
  have q14 := fp_o29 q13.2
  have q15 := fp_o62 q14.2
  have q16 := fp_o132 (v := 1) q15.2 rfl
  have q17 := fp_o167 (v := (-72)) q16.2 rfl
  have q18 := fp_o28 q17.2
  have q19 := fp_o172 q18.2
  ⟨⟨⟨⟨⟨⟨q0.1, q1.1⟩, q2.1⟩, ⟨q3.1, q4.1⟩⟩, ⟨⟨⟨q5.1, q6.1⟩, q7.1⟩, ⟨q8.1, q9.1⟩⟩⟩, ⟨⟨⟨⟨q10.1, q11.1⟩, q12.1⟩, ⟨q13.1, q14.1⟩⟩, ⟨⟨⟨q15.1, q16.1⟩, q17.1⟩, ⟨q18.1, q19.1⟩⟩⟩⟩, q19.2⟩
theorem dX12_join_58 : decode cX12_join 58 = .ok (.iaload, 1) := fp_hdX12_join_58.1.1.1.1.1.1
theorem dX12_join_59 : decode cX12_join 59 = .ok (.istore 6, 2) := fp_hdX12_join_58.1.1.1.1.1.2
theorem dX12_join_61 : decode cX12_join 61 = .ok (.iload 6, 2) := fp_hdX12_join_58.1.1.1.1.2
theorem dX12_join_63 : decode cX12_join 63 = .ok (.iload_n 3, 1) := fp_hdX12_join_58.1.1.1.2.1
theorem dX12_join_64 : decode cX12_join 64 = .ok (.if_icmp .le 8, 3) := fp_hdX12_join_58.1.1.1.2.2
theorem dX12_join_67 : decode cX12_join 67 = .ok (.iload 4, 2) := fp_hdX12_join_58.1.1.2.1.1.1
theorem dX12_join_69 : decode cX12_join 69 = .ok (.goto 4, 3) := fp_hdX12_join_58.1.1.2.1.1.2
theorem dX12_join_72 : decode cX12_join 72 = .ok (.iload_n 2, 1) := fp_hdX12_join_58.1.1.2.1.2
theorem dX12_join_73 : decode cX12_join 73 = .ok (.istore_n 2, 1) := fp_hdX12_join_58.1.1.2.2.1
theorem dX12_join_74 : decode cX12_join 74 = .ok (.iload 6, 2) := fp_hdX12_join_58.1.1.2.2.2
theorem dX12_join_76 : decode cX12_join 76 = .ok (.iload_n 3, 1) := fp_hdX12_join_58.1.2.1.1.1.1
theorem dX12_join_77 : decode cX12_join 77 = .ok (.if_icmp .le 8, 3) := fp_hdX12_join_58.1.2.1.1.1.2
theorem dX12_join_80 : decode cX12_join 80 = .ok (.iload 6, 2) := fp_hdX12_join_58.1.2.1.1.2
theorem dX12_join_82 : decode cX12_join 82 = .ok (.goto 4, 3) := fp_hdX12_join_58.1.2.1.2.1
theorem dX12_join_85 : decode cX12_join 85 = .ok (.iload_n 3, 1) := fp_hdX12_join_58.1.2.1.2.2
theorem dX12_join_86 : decode cX12_join 86 = .ok (.istore_n 3, 1) := fp_hdX12_join_58.1.2.2.1.1.1
theorem dX12_join_87 : decode cX12_join 87 = .ok (.iinc 4 1, 3) := fp_hdX12_join_58.1.2.2.1.1.2
theorem dX12_join_90 : decode cX12_join 90 = .ok (.goto (-72), 3) := fp_hdX12_join_58.1.2.2.1.2
theorem dX12_join_93 : decode cX12_join 93 = .ok (.iload_n 2, 1) := fp_hdX12_join_58.1.2.2.2.1
theorem dX12_join_94 : decode cX12_join 94 = .ok (.ireturn, 1) := fp_hdX12_join_58.1.2.2.2.2
def fp_scX12_copiesAll_0 : List Nat := 3 :: 62 :: 29 :: 16 :: 120 :: 162 :: 0 :: 25 :: 42 :: 180 :: 0 :: 7 :: 28 :: 29 :: 96 :: 42 :: 180 :: 0 :: 7 :: 27 :: 29 :: 96 :: 46 :: 79 :: 132 :: 3 :: 1 :: 167 :: 255 :: 231 :: 177 :: []
theorem fp_bcX12_copiesAll : bA cX12_copiesAll 0 fp_scX12_copiesAll_0 := show cX12_copiesAll.data.toList.map UInt8.toNat = fp_scX12_copiesAll_0 from by decide +kernel
theorem fp_hdX12_copiesAll_0 : (((((decode cX12_copiesAll 0 = .ok (.iconst 0, 1) ∧ decode cX12_copiesAll 1 = .ok (.istore_n 3, 1)) ∧ decode cX12_copiesAll 2 = .ok (.iload_n 3, 1)) ∧ (decode cX12_copiesAll 3 = .ok (.bipush 120, 2) ∧ decode cX12_copiesAll 5 = .ok (.if_icmp .ge 25, 3))) ∧ (((decode cX12_copiesAll 8 = .ok (.aload_n 0, 1) ∧ decode cX12_copiesAll 9 = .ok (.getfield 7, 3)) ∧ decode cX12_copiesAll 12 = .ok (.iload_n 2, 1)) ∧ (decode cX12_copiesAll 13 = .ok (.iload_n 3, 1) ∧ decode cX12_copiesAll 14 = .ok (.iadd, 1)))) ∧ ((((decode cX12_copiesAll 15 = .ok (.aload_n 0, 1) ∧ decode cX12_copiesAll 16 = .ok (.getfield 7, 3)) ∧ decode cX12_copiesAll 19 = .ok (.iload_n 1, 1)) ∧ (decode cX12_copiesAll 20 = .ok (.iload_n 3, 1) ∧ decode cX12_copiesAll 21 = .ok (.iadd, 1))) ∧ (((decode cX12_copiesAll 22 = .ok (.iaload, 1) ∧ decode cX12_copiesAll 23 = .ok (.iastore, 1)) ∧ decode cX12_copiesAll 24 = .ok (.iinc 3 1, 3)) ∧ (decode cX12_copiesAll 27 = .ok (.goto (-25), 3) ∧ decode cX12_copiesAll 30 = .ok (.return_, 1))))) ∧ bA cX12_copiesAll 31 [] :=
  have q0 := fp_o3 fp_bcX12_copiesAll
  have q1 := fp_o62 q0.2
  have q2 := fp_o29 q1.2
  have q3 := fp_o16 (v := 120) q2.2 rfl
  have q4 := fp_o162 (v := 25) q3.2 rfl
  have q5 := fp_o42 q4.2
  have q6 := fp_o180 (v := 7) q5.2 rfl
  have q7 := fp_o28 q6.2
  have q8 := fp_o29 q7.2
  have q9 := fp_o96 q8.2
  have q10 := fp_o42 q9.2
  have q11 := fp_o180 (v := 7) q10.2 rfl
  have q12 := fp_o27 q11.2
  have q13 := fp_o29 q12.2
  have q14 := fp_o96 q13.2
  have q15 := fp_o46 q14.2
  have q16 := fp_o79 q15.2
  have q17 := fp_o132 (v := 1) q16.2 rfl
  have q18 := fp_o167 (v := (-25)) q17.2 rfl
  have q19 := fp_o177 q18.2
  ⟨⟨⟨⟨⟨⟨q0.1, q1.1⟩, q2.1⟩, ⟨q3.1, q4.1⟩⟩, ⟨⟨⟨q5.1, q6.1⟩, q7.1⟩, ⟨q8.1, q9.1⟩⟩⟩, ⟨⟨⟨⟨q10.1, q11.1⟩, q12.1⟩, ⟨q13.1, q14.1⟩⟩, ⟨⟨⟨q15.1, q16.1⟩, q17.1⟩, ⟨q18.1, q19.1⟩⟩⟩⟩, q19.2⟩
theorem dX12_copiesAll_0 : decode cX12_copiesAll 0 = .ok (.iconst 0, 1) := fp_hdX12_copiesAll_0.1.1.1.1.1.1
theorem dX12_copiesAll_1 : decode cX12_copiesAll 1 = .ok (.istore_n 3, 1) := fp_hdX12_copiesAll_0.1.1.1.1.1.2
theorem dX12_copiesAll_2 : decode cX12_copiesAll 2 = .ok (.iload_n 3, 1) := fp_hdX12_copiesAll_0.1.1.1.1.2
theorem dX12_copiesAll_3 : decode cX12_copiesAll 3 = .ok (.bipush 120, 2) := fp_hdX12_copiesAll_0.1.1.1.2.1
theorem dX12_copiesAll_5 : decode cX12_copiesAll 5 = .ok (.if_icmp .ge 25, 3) := fp_hdX12_copiesAll_0.1.1.1.2.2
theorem dX12_copiesAll_8 : decode cX12_copiesAll 8 = .ok (.aload_n 0, 1) := fp_hdX12_copiesAll_0.1.1.2.1.1.1
theorem dX12_copiesAll_9 : decode cX12_copiesAll 9 = .ok (.getfield 7, 3) := fp_hdX12_copiesAll_0.1.1.2.1.1.2
theorem dX12_copiesAll_12 : decode cX12_copiesAll 12 = .ok (.iload_n 2, 1) := fp_hdX12_copiesAll_0.1.1.2.1.2
theorem dX12_copiesAll_13 : decode cX12_copiesAll 13 = .ok (.iload_n 3, 1) := fp_hdX12_copiesAll_0.1.1.2.2.1
theorem dX12_copiesAll_14 : decode cX12_copiesAll 14 = .ok (.iadd, 1) := fp_hdX12_copiesAll_0.1.1.2.2.2
theorem dX12_copiesAll_15 : decode cX12_copiesAll 15 = .ok (.aload_n 0, 1) := fp_hdX12_copiesAll_0.1.2.1.1.1.1
theorem dX12_copiesAll_16 : decode cX12_copiesAll 16 = .ok (.getfield 7, 3) := fp_hdX12_copiesAll_0.1.2.1.1.1.2
theorem dX12_copiesAll_19 : decode cX12_copiesAll 19 = .ok (.iload_n 1, 1) := fp_hdX12_copiesAll_0.1.2.1.1.2
theorem dX12_copiesAll_20 : decode cX12_copiesAll 20 = .ok (.iload_n 3, 1) := fp_hdX12_copiesAll_0.1.2.1.2.1
theorem dX12_copiesAll_21 : decode cX12_copiesAll 21 = .ok (.iadd, 1) := fp_hdX12_copiesAll_0.1.2.1.2.2
theorem dX12_copiesAll_22 : decode cX12_copiesAll 22 = .ok (.iaload, 1) := fp_hdX12_copiesAll_0.1.2.2.1.1.1
theorem dX12_copiesAll_23 : decode cX12_copiesAll 23 = .ok (.iastore, 1) := fp_hdX12_copiesAll_0.1.2.2.1.1.2
theorem dX12_copiesAll_24 : decode cX12_copiesAll 24 = .ok (.iinc 3 1, 3) := fp_hdX12_copiesAll_0.1.2.2.1.2
theorem dX12_copiesAll_27 : decode cX12_copiesAll 27 = .ok (.goto (-25), 3) := fp_hdX12_copiesAll_0.1.2.2.2.1
theorem dX12_copiesAll_30 : decode cX12_copiesAll 30 = .ok (.return_, 1) := fp_hdX12_copiesAll_0.1.2.2.2.2
def fp_scX12_keep_0 : List Nat := 27 :: 133 :: 9 :: 10 :: 184 :: 0 :: 94 :: 154 :: 0 :: 5 :: 2 :: 172 :: 42 :: 3 :: 16 :: 120 :: 27 :: 4 :: 96 :: 104 :: 182 :: 1 :: 71 :: 42 :: 180 :: 0 :: 78 :: 27 :: 51 :: 153 :: 0 :: 7 :: 4 :: 167 :: 0 :: 4 :: 3 :: 61 :: 42 :: 180 :: 0 :: 78 :: 27 :: 4 :: 84 :: 28 :: 172 :: []
theorem fp_bcX12_keep : bA cX12_keep 0 fp_scX12_keep_0 := show cX12_keep.data.toList.map UInt8.toNat = fp_scX12_keep_0 from by decide +kernel
theorem fp_hdX12_keep_0 : (((((decode cX12_keep 0 = .ok (.iload_n 1, 1) ∧ decode cX12_keep 1 = .ok (.i2l, 1)) ∧ (decode cX12_keep 2 = .ok (.lconst 0, 1) ∧ decode cX12_keep 3 = .ok (.lconst 1, 1))) ∧ ((decode cX12_keep 4 = .ok (.invokestatic 94, 3) ∧ decode cX12_keep 7 = .ok (.ifCond .ne 5, 3)) ∧ (decode cX12_keep 10 = .ok (.iconst (-1), 1) ∧ decode cX12_keep 11 = .ok (.ireturn, 1)))) ∧ (((decode cX12_keep 12 = .ok (.aload_n 0, 1) ∧ decode cX12_keep 13 = .ok (.iconst 0, 1)) ∧ (decode cX12_keep 14 = .ok (.bipush 120, 2) ∧ decode cX12_keep 16 = .ok (.iload_n 1, 1))) ∧ ((decode cX12_keep 17 = .ok (.iconst 1, 1) ∧ decode cX12_keep 18 = .ok (.iadd, 1)) ∧ (decode cX12_keep 19 = .ok (.imul, 1) ∧ decode cX12_keep 20 = .ok (.invokevirtual 327, 3))))) ∧ ((((decode cX12_keep 23 = .ok (.aload_n 0, 1) ∧ decode cX12_keep 24 = .ok (.getfield 78, 3)) ∧ (decode cX12_keep 27 = .ok (.iload_n 1, 1) ∧ decode cX12_keep 28 = .ok (.baload, 1))) ∧ ((decode cX12_keep 29 = .ok (.ifCond .eq 7, 3) ∧ decode cX12_keep 32 = .ok (.iconst 1, 1)) ∧ (decode cX12_keep 33 = .ok (.goto 4, 3) ∧ decode cX12_keep 36 = .ok (.iconst 0, 1)))) ∧ (((decode cX12_keep 37 = .ok (.istore_n 2, 1) ∧ decode cX12_keep 38 = .ok (.aload_n 0, 1)) ∧ (decode cX12_keep 39 = .ok (.getfield 78, 3) ∧ decode cX12_keep 42 = .ok (.iload_n 1, 1))) ∧ ((decode cX12_keep 43 = .ok (.iconst 1, 1) ∧ decode cX12_keep 44 = .ok (.bastore, 1)) ∧ (decode cX12_keep 45 = .ok (.iload_n 2, 1) ∧ decode cX12_keep 46 = .ok (.ireturn, 1)))))) ∧ bA cX12_keep 47 [] :=
  have q0 := fp_o27 fp_bcX12_keep
  have q1 := fp_o133 q0.2
  have q2 := fp_o9 q1.2
  have q3 := fp_o10 q2.2
  have q4 := fp_o184 (v := 94) q3.2 rfl
  have q5 := fp_o154 (v := 5) q4.2 rfl
  have q6 := fp_o2 q5.2
  have q7 := fp_o172 q6.2
  have q8 := fp_o42 q7.2
  have q9 := fp_o3 q8.2
  have q10 := fp_o16 (v := 120) q9.2 rfl
  have q11 := fp_o27 q10.2
  have q12 := fp_o4 q11.2
  have q13 := fp_o96 q12.2
  have q14 := fp_o104 q13.2
  have q15 := fp_o182 (v := 327) q14.2 rfl
  have q16 := fp_o42 q15.2
  have q17 := fp_o180 (v := 78) q16.2 rfl
  have q18 := fp_o27 q17.2
  have q19 := fp_o51 q18.2
  have q20 := fp_o153 (v := 7) q19.2 rfl
  have q21 := fp_o4 q20.2
  have q22 := fp_o167 (v := 4) q21.2 rfl
  have q23 := fp_o3 q22.2
  have q24 := fp_o61 q23.2
  have q25 := fp_o42 q24.2
  have q26 := fp_o180 (v := 78) q25.2 rfl
  have q27 := fp_o27 q26.2
  have q28 := fp_o4 q27.2
  have q29 := fp_o84 q28.2
  have q30 := fp_o28 q29.2
  have q31 := fp_o172 q30.2
  ⟨⟨⟨⟨⟨⟨q0.1, q1.1⟩, ⟨q2.1, q3.1⟩⟩, ⟨⟨q4.1, q5.1⟩, ⟨q6.1, q7.1⟩⟩⟩, ⟨⟨⟨q8.1, q9.1⟩, ⟨q10.1, q11.1⟩⟩, ⟨⟨q12.1, q13.1⟩, ⟨q14.1, q15.1⟩⟩⟩⟩, ⟨⟨⟨⟨q16.1, q17.1⟩, ⟨q18.1, q19.1⟩⟩, ⟨⟨q20.1, q21.1⟩, ⟨q22.1, q23.1⟩⟩⟩, ⟨⟨⟨q24.1, q25.1⟩, ⟨q26.1, q27.1⟩⟩, ⟨⟨q28.1, q29.1⟩, ⟨q30.1, q31.1⟩⟩⟩⟩⟩, q31.2⟩
theorem dX12_keep_0 : decode cX12_keep 0 = .ok (.iload_n 1, 1) := fp_hdX12_keep_0.1.1.1.1.1.1
theorem dX12_keep_1 : decode cX12_keep 1 = .ok (.i2l, 1) := fp_hdX12_keep_0.1.1.1.1.1.2
theorem dX12_keep_2 : decode cX12_keep 2 = .ok (.lconst 0, 1) := fp_hdX12_keep_0.1.1.1.1.2.1
theorem dX12_keep_3 : decode cX12_keep 3 = .ok (.lconst 1, 1) := fp_hdX12_keep_0.1.1.1.1.2.2
theorem dX12_keep_4 : decode cX12_keep 4 = .ok (.invokestatic 94, 3) := fp_hdX12_keep_0.1.1.1.2.1.1
theorem dX12_keep_7 : decode cX12_keep 7 = .ok (.ifCond .ne 5, 3) := fp_hdX12_keep_0.1.1.1.2.1.2
theorem dX12_keep_10 : decode cX12_keep 10 = .ok (.iconst (-1), 1) := fp_hdX12_keep_0.1.1.1.2.2.1
theorem dX12_keep_11 : decode cX12_keep 11 = .ok (.ireturn, 1) := fp_hdX12_keep_0.1.1.1.2.2.2
theorem dX12_keep_12 : decode cX12_keep 12 = .ok (.aload_n 0, 1) := fp_hdX12_keep_0.1.1.2.1.1.1
theorem dX12_keep_13 : decode cX12_keep 13 = .ok (.iconst 0, 1) := fp_hdX12_keep_0.1.1.2.1.1.2
theorem dX12_keep_14 : decode cX12_keep 14 = .ok (.bipush 120, 2) := fp_hdX12_keep_0.1.1.2.1.2.1
theorem dX12_keep_16 : decode cX12_keep 16 = .ok (.iload_n 1, 1) := fp_hdX12_keep_0.1.1.2.1.2.2
theorem dX12_keep_17 : decode cX12_keep 17 = .ok (.iconst 1, 1) := fp_hdX12_keep_0.1.1.2.2.1.1
theorem dX12_keep_18 : decode cX12_keep 18 = .ok (.iadd, 1) := fp_hdX12_keep_0.1.1.2.2.1.2
theorem dX12_keep_19 : decode cX12_keep 19 = .ok (.imul, 1) := fp_hdX12_keep_0.1.1.2.2.2.1
theorem dX12_keep_20 : decode cX12_keep 20 = .ok (.invokevirtual 327, 3) := fp_hdX12_keep_0.1.1.2.2.2.2
theorem dX12_keep_23 : decode cX12_keep 23 = .ok (.aload_n 0, 1) := fp_hdX12_keep_0.1.2.1.1.1.1
theorem dX12_keep_24 : decode cX12_keep 24 = .ok (.getfield 78, 3) := fp_hdX12_keep_0.1.2.1.1.1.2
theorem dX12_keep_27 : decode cX12_keep 27 = .ok (.iload_n 1, 1) := fp_hdX12_keep_0.1.2.1.1.2.1
theorem dX12_keep_28 : decode cX12_keep 28 = .ok (.baload, 1) := fp_hdX12_keep_0.1.2.1.1.2.2
theorem dX12_keep_29 : decode cX12_keep 29 = .ok (.ifCond .eq 7, 3) := fp_hdX12_keep_0.1.2.1.2.1.1
theorem dX12_keep_32 : decode cX12_keep 32 = .ok (.iconst 1, 1) := fp_hdX12_keep_0.1.2.1.2.1.2
theorem dX12_keep_33 : decode cX12_keep 33 = .ok (.goto 4, 3) := fp_hdX12_keep_0.1.2.1.2.2.1
theorem dX12_keep_36 : decode cX12_keep 36 = .ok (.iconst 0, 1) := fp_hdX12_keep_0.1.2.1.2.2.2
theorem dX12_keep_37 : decode cX12_keep 37 = .ok (.istore_n 2, 1) := fp_hdX12_keep_0.1.2.2.1.1.1
theorem dX12_keep_38 : decode cX12_keep 38 = .ok (.aload_n 0, 1) := fp_hdX12_keep_0.1.2.2.1.1.2
theorem dX12_keep_39 : decode cX12_keep 39 = .ok (.getfield 78, 3) := fp_hdX12_keep_0.1.2.2.1.2.1
theorem dX12_keep_42 : decode cX12_keep 42 = .ok (.iload_n 1, 1) := fp_hdX12_keep_0.1.2.2.1.2.2
theorem dX12_keep_43 : decode cX12_keep 43 = .ok (.iconst 1, 1) := fp_hdX12_keep_0.1.2.2.2.1.1
theorem dX12_keep_44 : decode cX12_keep 44 = .ok (.bastore, 1) := fp_hdX12_keep_0.1.2.2.2.1.2
theorem dX12_keep_45 : decode cX12_keep 45 = .ok (.iload_n 2, 1) := fp_hdX12_keep_0.1.2.2.2.2.1
theorem dX12_keep_46 : decode cX12_keep 46 = .ok (.ireturn, 1) := fp_hdX12_keep_0.1.2.2.2.2.2
def fp_scX12_back_0 : List Nat := 27 :: 133 :: 9 :: 10 :: 184 :: 0 :: 94 :: 154 :: 0 :: 5 :: 2 :: 172 :: 42 :: 180 :: 0 :: 78 :: 27 :: 51 :: 154 :: 0 :: 6 :: 16 :: 254 :: 172 :: 42 :: 16 :: 120 :: 27 :: 4 :: 96 :: 104 :: 3 :: 182 :: 1 :: 71 :: 42 :: 182 :: 0 :: 225 :: 172 :: []
theorem fp_bcX12_back : bA cX12_back 0 fp_scX12_back_0 := show cX12_back.data.toList.map UInt8.toNat = fp_scX12_back_0 from by decide +kernel
theorem fp_hdX12_back_0 : (((((decode cX12_back 0 = .ok (.iload_n 1, 1) ∧ decode cX12_back 1 = .ok (.i2l, 1)) ∧ (decode cX12_back 2 = .ok (.lconst 0, 1) ∧ decode cX12_back 3 = .ok (.lconst 1, 1))) ∧ ((decode cX12_back 4 = .ok (.invokestatic 94, 3) ∧ decode cX12_back 7 = .ok (.ifCond .ne 5, 3)) ∧ decode cX12_back 10 = .ok (.iconst (-1), 1))) ∧ (((decode cX12_back 11 = .ok (.ireturn, 1) ∧ decode cX12_back 12 = .ok (.aload_n 0, 1)) ∧ decode cX12_back 13 = .ok (.getfield 78, 3)) ∧ ((decode cX12_back 16 = .ok (.iload_n 1, 1) ∧ decode cX12_back 17 = .ok (.baload, 1)) ∧ decode cX12_back 18 = .ok (.ifCond .ne 6, 3)))) ∧ ((((decode cX12_back 21 = .ok (.bipush (-2), 2) ∧ decode cX12_back 23 = .ok (.ireturn, 1)) ∧ (decode cX12_back 24 = .ok (.aload_n 0, 1) ∧ decode cX12_back 25 = .ok (.bipush 120, 2))) ∧ ((decode cX12_back 27 = .ok (.iload_n 1, 1) ∧ decode cX12_back 28 = .ok (.iconst 1, 1)) ∧ decode cX12_back 29 = .ok (.iadd, 1))) ∧ (((decode cX12_back 30 = .ok (.imul, 1) ∧ decode cX12_back 31 = .ok (.iconst 0, 1)) ∧ decode cX12_back 32 = .ok (.invokevirtual 327, 3)) ∧ ((decode cX12_back 35 = .ok (.aload_n 0, 1) ∧ decode cX12_back 36 = .ok (.invokevirtual 225, 3)) ∧ decode cX12_back 39 = .ok (.ireturn, 1))))) ∧ bA cX12_back 40 [] :=
  have q0 := fp_o27 fp_bcX12_back
  have q1 := fp_o133 q0.2
  have q2 := fp_o9 q1.2
  have q3 := fp_o10 q2.2
  have q4 := fp_o184 (v := 94) q3.2 rfl
  have q5 := fp_o154 (v := 5) q4.2 rfl
  have q6 := fp_o2 q5.2
  have q7 := fp_o172 q6.2
  have q8 := fp_o42 q7.2
  have q9 := fp_o180 (v := 78) q8.2 rfl
  have q10 := fp_o27 q9.2
  have q11 := fp_o51 q10.2
  have q12 := fp_o154 (v := 6) q11.2 rfl
  have q13 := fp_o16 (v := (-2)) q12.2 rfl
  have q14 := fp_o172 q13.2
  have q15 := fp_o42 q14.2
  have q16 := fp_o16 (v := 120) q15.2 rfl
  have q17 := fp_o27 q16.2
  have q18 := fp_o4 q17.2
  have q19 := fp_o96 q18.2
  have q20 := fp_o104 q19.2
  have q21 := fp_o3 q20.2
  have q22 := fp_o182 (v := 327) q21.2 rfl
  have q23 := fp_o42 q22.2
  have q24 := fp_o182 (v := 225) q23.2 rfl
  have q25 := fp_o172 q24.2
  ⟨⟨⟨⟨⟨⟨q0.1, q1.1⟩, ⟨q2.1, q3.1⟩⟩, ⟨⟨q4.1, q5.1⟩, q6.1⟩⟩, ⟨⟨⟨q7.1, q8.1⟩, q9.1⟩, ⟨⟨q10.1, q11.1⟩, q12.1⟩⟩⟩, ⟨⟨⟨⟨q13.1, q14.1⟩, ⟨q15.1, q16.1⟩⟩, ⟨⟨q17.1, q18.1⟩, q19.1⟩⟩, ⟨⟨⟨q20.1, q21.1⟩, q22.1⟩, ⟨⟨q23.1, q24.1⟩, q25.1⟩⟩⟩⟩, q25.2⟩
theorem dX12_back_0 : decode cX12_back 0 = .ok (.iload_n 1, 1) := fp_hdX12_back_0.1.1.1.1.1.1
theorem dX12_back_1 : decode cX12_back 1 = .ok (.i2l, 1) := fp_hdX12_back_0.1.1.1.1.1.2
theorem dX12_back_2 : decode cX12_back 2 = .ok (.lconst 0, 1) := fp_hdX12_back_0.1.1.1.1.2.1
theorem dX12_back_3 : decode cX12_back 3 = .ok (.lconst 1, 1) := fp_hdX12_back_0.1.1.1.1.2.2
theorem dX12_back_4 : decode cX12_back 4 = .ok (.invokestatic 94, 3) := fp_hdX12_back_0.1.1.1.2.1.1
theorem dX12_back_7 : decode cX12_back 7 = .ok (.ifCond .ne 5, 3) := fp_hdX12_back_0.1.1.1.2.1.2
theorem dX12_back_10 : decode cX12_back 10 = .ok (.iconst (-1), 1) := fp_hdX12_back_0.1.1.1.2.2
theorem dX12_back_11 : decode cX12_back 11 = .ok (.ireturn, 1) := fp_hdX12_back_0.1.1.2.1.1.1
theorem dX12_back_12 : decode cX12_back 12 = .ok (.aload_n 0, 1) := fp_hdX12_back_0.1.1.2.1.1.2
theorem dX12_back_13 : decode cX12_back 13 = .ok (.getfield 78, 3) := fp_hdX12_back_0.1.1.2.1.2
theorem dX12_back_16 : decode cX12_back 16 = .ok (.iload_n 1, 1) := fp_hdX12_back_0.1.1.2.2.1.1
theorem dX12_back_17 : decode cX12_back 17 = .ok (.baload, 1) := fp_hdX12_back_0.1.1.2.2.1.2
theorem dX12_back_18 : decode cX12_back 18 = .ok (.ifCond .ne 6, 3) := fp_hdX12_back_0.1.1.2.2.2
theorem dX12_back_21 : decode cX12_back 21 = .ok (.bipush (-2), 2) := fp_hdX12_back_0.1.2.1.1.1.1
theorem dX12_back_23 : decode cX12_back 23 = .ok (.ireturn, 1) := fp_hdX12_back_0.1.2.1.1.1.2
theorem dX12_back_24 : decode cX12_back 24 = .ok (.aload_n 0, 1) := fp_hdX12_back_0.1.2.1.1.2.1
theorem dX12_back_25 : decode cX12_back 25 = .ok (.bipush 120, 2) := fp_hdX12_back_0.1.2.1.1.2.2
theorem dX12_back_27 : decode cX12_back 27 = .ok (.iload_n 1, 1) := fp_hdX12_back_0.1.2.1.2.1.1
theorem dX12_back_28 : decode cX12_back 28 = .ok (.iconst 1, 1) := fp_hdX12_back_0.1.2.1.2.1.2
theorem dX12_back_29 : decode cX12_back 29 = .ok (.iadd, 1) := fp_hdX12_back_0.1.2.1.2.2
theorem dX12_back_30 : decode cX12_back 30 = .ok (.imul, 1) := fp_hdX12_back_0.1.2.2.1.1.1
theorem dX12_back_31 : decode cX12_back 31 = .ok (.iconst 0, 1) := fp_hdX12_back_0.1.2.2.1.1.2
theorem dX12_back_32 : decode cX12_back 32 = .ok (.invokevirtual 327, 3) := fp_hdX12_back_0.1.2.2.1.2
theorem dX12_back_35 : decode cX12_back 35 = .ok (.aload_n 0, 1) := fp_hdX12_back_0.1.2.2.2.1.1
theorem dX12_back_36 : decode cX12_back 36 = .ok (.invokevirtual 225, 3) := fp_hdX12_back_0.1.2.2.2.1.2
theorem dX12_back_39 : decode cX12_back 39 = .ok (.ireturn, 1) := fp_hdX12_back_0.1.2.2.2.2
def fp_scX12_sheet_1 : List Nat := 54 :: 4 :: 21 :: 4 :: 16 :: 40 :: 162 :: 0 :: 22 :: 42 :: 180 :: 0 :: 88 :: 16 :: 40 :: 27 :: 104 :: 21 :: 4 :: 96 :: 3 :: 79 :: 132 :: 4 :: 1 :: 167 :: 255 :: 233 :: 4 :: 172 :: []
def fp_scX12_sheet_0 : List Nat := 27 :: 133 :: 9 :: 20 :: 0 :: 196 :: 184 :: 0 :: 94 :: 153 :: 0 :: 21 :: 28 :: 133 :: 9 :: 20 :: 1 :: 15 :: 184 :: 0 :: 94 :: 153 :: 0 :: 9 :: 29 :: 16 :: 40 :: 164 :: 0 :: 5 :: 2 :: 172 :: 29 :: 156 :: 0 :: 6 :: 16 :: 242 :: 172 :: 42 :: 180 :: 0 :: 82 :: 27 :: 28 :: 79 :: 42 :: 180 :: 0 :: 85 :: 27 :: 29 :: 79 :: 3 :: fp_scX12_sheet_1
theorem fp_bcX12_sheet : bA cX12_sheet 0 fp_scX12_sheet_0 := show cX12_sheet.data.toList.map UInt8.toNat = fp_scX12_sheet_0 from by decide +kernel
theorem fp_hdX12_sheet_0 : (((((decode cX12_sheet 0 = .ok (.iload_n 1, 1) ∧ decode cX12_sheet 1 = .ok (.i2l, 1)) ∧ (decode cX12_sheet 2 = .ok (.lconst 0, 1) ∧ decode cX12_sheet 3 = .ok (.ldc2_w 196, 3))) ∧ ((decode cX12_sheet 6 = .ok (.invokestatic 94, 3) ∧ decode cX12_sheet 9 = .ok (.ifCond .eq 21, 3)) ∧ (decode cX12_sheet 12 = .ok (.iload_n 2, 1) ∧ decode cX12_sheet 13 = .ok (.i2l, 1)))) ∧ (((decode cX12_sheet 14 = .ok (.lconst 0, 1) ∧ decode cX12_sheet 15 = .ok (.ldc2_w 271, 3)) ∧ (decode cX12_sheet 18 = .ok (.invokestatic 94, 3) ∧ decode cX12_sheet 21 = .ok (.ifCond .eq 9, 3))) ∧ ((decode cX12_sheet 24 = .ok (.iload_n 3, 1) ∧ decode cX12_sheet 25 = .ok (.bipush 40, 2)) ∧ (decode cX12_sheet 27 = .ok (.if_icmp .le 5, 3) ∧ decode cX12_sheet 30 = .ok (.iconst (-1), 1))))) ∧ ((((decode cX12_sheet 31 = .ok (.ireturn, 1) ∧ decode cX12_sheet 32 = .ok (.iload_n 3, 1)) ∧ (decode cX12_sheet 33 = .ok (.ifCond .ge 6, 3) ∧ decode cX12_sheet 36 = .ok (.bipush (-14), 2))) ∧ ((decode cX12_sheet 38 = .ok (.ireturn, 1) ∧ decode cX12_sheet 39 = .ok (.aload_n 0, 1)) ∧ (decode cX12_sheet 40 = .ok (.getfield 82, 3) ∧ decode cX12_sheet 43 = .ok (.iload_n 1, 1)))) ∧ (((decode cX12_sheet 44 = .ok (.iload_n 2, 1) ∧ decode cX12_sheet 45 = .ok (.iastore, 1)) ∧ (decode cX12_sheet 46 = .ok (.aload_n 0, 1) ∧ decode cX12_sheet 47 = .ok (.getfield 85, 3))) ∧ ((decode cX12_sheet 50 = .ok (.iload_n 1, 1) ∧ decode cX12_sheet 51 = .ok (.iload_n 3, 1)) ∧ (decode cX12_sheet 52 = .ok (.iastore, 1) ∧ decode cX12_sheet 53 = .ok (.iconst 0, 1)))))) ∧ bA cX12_sheet 54 fp_scX12_sheet_1 :=
  have q0 := fp_o27 fp_bcX12_sheet
  have q1 := fp_o133 q0.2
  have q2 := fp_o9 q1.2
  have q3 := fp_o20 (v := 196) q2.2 rfl
  have q4 := fp_o184 (v := 94) q3.2 rfl
  have q5 := fp_o153 (v := 21) q4.2 rfl
  have q6 := fp_o28 q5.2
  have q7 := fp_o133 q6.2
  have q8 := fp_o9 q7.2
  have q9 := fp_o20 (v := 271) q8.2 rfl
  have q10 := fp_o184 (v := 94) q9.2 rfl
  have q11 := fp_o153 (v := 9) q10.2 rfl
  have q12 := fp_o29 q11.2
  have q13 := fp_o16 (v := 40) q12.2 rfl
  have q14 := fp_o164 (v := 5) q13.2 rfl
  have q15 := fp_o2 q14.2
  have q16 := fp_o172 q15.2
  have q17 := fp_o29 q16.2
  have q18 := fp_o156 (v := 6) q17.2 rfl
  have q19 := fp_o16 (v := (-14)) q18.2 rfl
  have q20 := fp_o172 q19.2
  have q21 := fp_o42 q20.2
  have q22 := fp_o180 (v := 82) q21.2 rfl
  have q23 := fp_o27 q22.2
  have q24 := fp_o28 q23.2
  have q25 := fp_o79 q24.2
  have q26 := fp_o42 q25.2
  have q27 := fp_o180 (v := 85) q26.2 rfl
  have q28 := fp_o27 q27.2
  have q29 := fp_o29 q28.2
  have q30 := fp_o79 q29.2
  have q31 := fp_o3 q30.2
  ⟨⟨⟨⟨⟨⟨q0.1, q1.1⟩, ⟨q2.1, q3.1⟩⟩, ⟨⟨q4.1, q5.1⟩, ⟨q6.1, q7.1⟩⟩⟩, ⟨⟨⟨q8.1, q9.1⟩, ⟨q10.1, q11.1⟩⟩, ⟨⟨q12.1, q13.1⟩, ⟨q14.1, q15.1⟩⟩⟩⟩, ⟨⟨⟨⟨q16.1, q17.1⟩, ⟨q18.1, q19.1⟩⟩, ⟨⟨q20.1, q21.1⟩, ⟨q22.1, q23.1⟩⟩⟩, ⟨⟨⟨q24.1, q25.1⟩, ⟨q26.1, q27.1⟩⟩, ⟨⟨q28.1, q29.1⟩, ⟨q30.1, q31.1⟩⟩⟩⟩⟩, q31.2⟩
theorem dX12_sheet_0 : decode cX12_sheet 0 = .ok (.iload_n 1, 1) := fp_hdX12_sheet_0.1.1.1.1.1.1
theorem dX12_sheet_1 : decode cX12_sheet 1 = .ok (.i2l, 1) := fp_hdX12_sheet_0.1.1.1.1.1.2
theorem dX12_sheet_2 : decode cX12_sheet 2 = .ok (.lconst 0, 1) := fp_hdX12_sheet_0.1.1.1.1.2.1
theorem dX12_sheet_3 : decode cX12_sheet 3 = .ok (.ldc2_w 196, 3) := fp_hdX12_sheet_0.1.1.1.1.2.2
theorem dX12_sheet_6 : decode cX12_sheet 6 = .ok (.invokestatic 94, 3) := fp_hdX12_sheet_0.1.1.1.2.1.1
theorem dX12_sheet_9 : decode cX12_sheet 9 = .ok (.ifCond .eq 21, 3) := fp_hdX12_sheet_0.1.1.1.2.1.2
theorem dX12_sheet_12 : decode cX12_sheet 12 = .ok (.iload_n 2, 1) := fp_hdX12_sheet_0.1.1.1.2.2.1
theorem dX12_sheet_13 : decode cX12_sheet 13 = .ok (.i2l, 1) := fp_hdX12_sheet_0.1.1.1.2.2.2
theorem dX12_sheet_14 : decode cX12_sheet 14 = .ok (.lconst 0, 1) := fp_hdX12_sheet_0.1.1.2.1.1.1
theorem dX12_sheet_15 : decode cX12_sheet 15 = .ok (.ldc2_w 271, 3) := fp_hdX12_sheet_0.1.1.2.1.1.2
theorem dX12_sheet_18 : decode cX12_sheet 18 = .ok (.invokestatic 94, 3) := fp_hdX12_sheet_0.1.1.2.1.2.1
theorem dX12_sheet_21 : decode cX12_sheet 21 = .ok (.ifCond .eq 9, 3) := fp_hdX12_sheet_0.1.1.2.1.2.2
theorem dX12_sheet_24 : decode cX12_sheet 24 = .ok (.iload_n 3, 1) := fp_hdX12_sheet_0.1.1.2.2.1.1
theorem dX12_sheet_25 : decode cX12_sheet 25 = .ok (.bipush 40, 2) := fp_hdX12_sheet_0.1.1.2.2.1.2
theorem dX12_sheet_27 : decode cX12_sheet 27 = .ok (.if_icmp .le 5, 3) := fp_hdX12_sheet_0.1.1.2.2.2.1
theorem dX12_sheet_30 : decode cX12_sheet 30 = .ok (.iconst (-1), 1) := fp_hdX12_sheet_0.1.1.2.2.2.2
theorem dX12_sheet_31 : decode cX12_sheet 31 = .ok (.ireturn, 1) := fp_hdX12_sheet_0.1.2.1.1.1.1
theorem dX12_sheet_32 : decode cX12_sheet 32 = .ok (.iload_n 3, 1) := fp_hdX12_sheet_0.1.2.1.1.1.2
theorem dX12_sheet_33 : decode cX12_sheet 33 = .ok (.ifCond .ge 6, 3) := fp_hdX12_sheet_0.1.2.1.1.2.1
theorem dX12_sheet_36 : decode cX12_sheet 36 = .ok (.bipush (-14), 2) := fp_hdX12_sheet_0.1.2.1.1.2.2
theorem dX12_sheet_38 : decode cX12_sheet 38 = .ok (.ireturn, 1) := fp_hdX12_sheet_0.1.2.1.2.1.1
theorem dX12_sheet_39 : decode cX12_sheet 39 = .ok (.aload_n 0, 1) := fp_hdX12_sheet_0.1.2.1.2.1.2
theorem dX12_sheet_40 : decode cX12_sheet 40 = .ok (.getfield 82, 3) := fp_hdX12_sheet_0.1.2.1.2.2.1
theorem dX12_sheet_43 : decode cX12_sheet 43 = .ok (.iload_n 1, 1) := fp_hdX12_sheet_0.1.2.1.2.2.2
theorem dX12_sheet_44 : decode cX12_sheet 44 = .ok (.iload_n 2, 1) := fp_hdX12_sheet_0.1.2.2.1.1.1
theorem dX12_sheet_45 : decode cX12_sheet 45 = .ok (.iastore, 1) := fp_hdX12_sheet_0.1.2.2.1.1.2
theorem dX12_sheet_46 : decode cX12_sheet 46 = .ok (.aload_n 0, 1) := fp_hdX12_sheet_0.1.2.2.1.2.1
theorem dX12_sheet_47 : decode cX12_sheet 47 = .ok (.getfield 85, 3) := fp_hdX12_sheet_0.1.2.2.1.2.2
theorem dX12_sheet_50 : decode cX12_sheet 50 = .ok (.iload_n 1, 1) := fp_hdX12_sheet_0.1.2.2.2.1.1
theorem dX12_sheet_51 : decode cX12_sheet 51 = .ok (.iload_n 3, 1) := fp_hdX12_sheet_0.1.2.2.2.1.2
theorem dX12_sheet_52 : decode cX12_sheet 52 = .ok (.iastore, 1) := fp_hdX12_sheet_0.1.2.2.2.2.1
theorem dX12_sheet_53 : decode cX12_sheet 53 = .ok (.iconst 0, 1) := fp_hdX12_sheet_0.1.2.2.2.2.2
theorem fp_hdX12_sheet_54 : (((((decode cX12_sheet 54 = .ok (.istore 4, 2) ∧ decode cX12_sheet 56 = .ok (.iload 4, 2)) ∧ decode cX12_sheet 58 = .ok (.bipush 40, 2)) ∧ (decode cX12_sheet 60 = .ok (.if_icmp .ge 22, 3) ∧ decode cX12_sheet 63 = .ok (.aload_n 0, 1))) ∧ ((decode cX12_sheet 64 = .ok (.getfield 88, 3) ∧ decode cX12_sheet 67 = .ok (.bipush 40, 2)) ∧ (decode cX12_sheet 69 = .ok (.iload_n 1, 1) ∧ decode cX12_sheet 70 = .ok (.imul, 1)))) ∧ (((decode cX12_sheet 71 = .ok (.iload 4, 2) ∧ decode cX12_sheet 73 = .ok (.iadd, 1)) ∧ (decode cX12_sheet 74 = .ok (.iconst 0, 1) ∧ decode cX12_sheet 75 = .ok (.iastore, 1))) ∧ ((decode cX12_sheet 76 = .ok (.iinc 4 1, 3) ∧ decode cX12_sheet 79 = .ok (.goto (-23), 3)) ∧ (decode cX12_sheet 82 = .ok (.iconst 1, 1) ∧ decode cX12_sheet 83 = .ok (.ireturn, 1))))) ∧ bA cX12_sheet 84 [] :=
  have q0 := fp_o54 fp_hdX12_sheet_0.2
  have q1 := fp_o21 q0.2
  have q2 := fp_o16 (v := 40) q1.2 rfl
  have q3 := fp_o162 (v := 22) q2.2 rfl
  have q4 := fp_o42 q3.2
  have q5 := fp_o180 (v := 88) q4.2 rfl
  have q6 := fp_o16 (v := 40) q5.2 rfl
  have q7 := fp_o27 q6.2
  have q8 := fp_o104 q7.2
  have q9 := fp_o21 q8.2
  have q10 := fp_o96 q9.2
  have q11 := fp_o3 q10.2
  have q12 := fp_o79 q11.2
  have q13 := fp_o132 (v := 1) q12.2 rfl
  have q14 := fp_o167 (v := (-23)) q13.2 rfl
  have q15 := fp_o4 q14.2
  have q16 := fp_o172 q15.2
  ⟨⟨⟨⟨⟨⟨q0.1, q1.1⟩, q2.1⟩, ⟨q3.1, q4.1⟩⟩, ⟨⟨q5.1, q6.1⟩, ⟨q7.1, q8.1⟩⟩⟩, ⟨⟨⟨q9.1, q10.1⟩, ⟨q11.1, q12.1⟩⟩, ⟨⟨q13.1, q14.1⟩, ⟨q15.1, q16.1⟩⟩⟩⟩, q16.2⟩
theorem dX12_sheet_54 : decode cX12_sheet 54 = .ok (.istore 4, 2) := fp_hdX12_sheet_54.1.1.1.1.1.1
theorem dX12_sheet_56 : decode cX12_sheet 56 = .ok (.iload 4, 2) := fp_hdX12_sheet_54.1.1.1.1.1.2
theorem dX12_sheet_58 : decode cX12_sheet 58 = .ok (.bipush 40, 2) := fp_hdX12_sheet_54.1.1.1.1.2
theorem dX12_sheet_60 : decode cX12_sheet 60 = .ok (.if_icmp .ge 22, 3) := fp_hdX12_sheet_54.1.1.1.2.1
theorem dX12_sheet_63 : decode cX12_sheet 63 = .ok (.aload_n 0, 1) := fp_hdX12_sheet_54.1.1.1.2.2
theorem dX12_sheet_64 : decode cX12_sheet 64 = .ok (.getfield 88, 3) := fp_hdX12_sheet_54.1.1.2.1.1
theorem dX12_sheet_67 : decode cX12_sheet 67 = .ok (.bipush 40, 2) := fp_hdX12_sheet_54.1.1.2.1.2
theorem dX12_sheet_69 : decode cX12_sheet 69 = .ok (.iload_n 1, 1) := fp_hdX12_sheet_54.1.1.2.2.1
theorem dX12_sheet_70 : decode cX12_sheet 70 = .ok (.imul, 1) := fp_hdX12_sheet_54.1.1.2.2.2
theorem dX12_sheet_71 : decode cX12_sheet 71 = .ok (.iload 4, 2) := fp_hdX12_sheet_54.1.2.1.1.1
theorem dX12_sheet_73 : decode cX12_sheet 73 = .ok (.iadd, 1) := fp_hdX12_sheet_54.1.2.1.1.2
theorem dX12_sheet_74 : decode cX12_sheet 74 = .ok (.iconst 0, 1) := fp_hdX12_sheet_54.1.2.1.2.1
theorem dX12_sheet_75 : decode cX12_sheet 75 = .ok (.iastore, 1) := fp_hdX12_sheet_54.1.2.1.2.2
theorem dX12_sheet_76 : decode cX12_sheet 76 = .ok (.iinc 4 1, 3) := fp_hdX12_sheet_54.1.2.2.1.1
theorem dX12_sheet_79 : decode cX12_sheet 79 = .ok (.goto (-23), 3) := fp_hdX12_sheet_54.1.2.2.1.2
theorem dX12_sheet_82 : decode cX12_sheet 82 = .ok (.iconst 1, 1) := fp_hdX12_sheet_54.1.2.2.2.1
theorem dX12_sheet_83 : decode cX12_sheet 83 = .ok (.ireturn, 1) := fp_hdX12_sheet_54.1.2.2.2.2
def fp_scX12_lay_1 : List Nat := 16 :: 40 :: 27 :: 104 :: 28 :: 96 :: 42 :: 180 :: 0 :: 82 :: 27 :: 46 :: 154 :: 0 :: 13 :: 29 :: 16 :: 24 :: 120 :: 16 :: 24 :: 122 :: 167 :: 0 :: 24 :: 42 :: 180 :: 0 :: 82 :: 27 :: 46 :: 4 :: 160 :: 0 :: 13 :: 29 :: 16 :: 16 :: 120 :: 16 :: 16 :: 122 :: 167 :: 0 :: 4 :: 29 :: 79 :: 4 :: 172 :: []
def fp_scX12_lay_0 : List Nat := 27 :: 133 :: 9 :: 20 :: 0 :: 196 :: 184 :: 0 :: 94 :: 154 :: 0 :: 5 :: 2 :: 172 :: 42 :: 180 :: 0 :: 82 :: 27 :: 46 :: 16 :: 252 :: 160 :: 0 :: 6 :: 16 :: 245 :: 172 :: 28 :: 133 :: 9 :: 42 :: 180 :: 0 :: 85 :: 27 :: 46 :: 4 :: 100 :: 133 :: 184 :: 0 :: 94 :: 154 :: 0 :: 6 :: 16 :: 244 :: 172 :: 42 :: 180 :: 0 :: 88 :: fp_scX12_lay_1
theorem fp_bcX12_lay : bA cX12_lay 0 fp_scX12_lay_0 := show cX12_lay.data.toList.map UInt8.toNat = fp_scX12_lay_0 from by decide +kernel
theorem fp_hdX12_lay_0 : (((((decode cX12_lay 0 = .ok (.iload_n 1, 1) ∧ decode cX12_lay 1 = .ok (.i2l, 1)) ∧ (decode cX12_lay 2 = .ok (.lconst 0, 1) ∧ decode cX12_lay 3 = .ok (.ldc2_w 196, 3))) ∧ ((decode cX12_lay 6 = .ok (.invokestatic 94, 3) ∧ decode cX12_lay 9 = .ok (.ifCond .ne 5, 3)) ∧ (decode cX12_lay 12 = .ok (.iconst (-1), 1) ∧ decode cX12_lay 13 = .ok (.ireturn, 1)))) ∧ (((decode cX12_lay 14 = .ok (.aload_n 0, 1) ∧ decode cX12_lay 15 = .ok (.getfield 82, 3)) ∧ (decode cX12_lay 18 = .ok (.iload_n 1, 1) ∧ decode cX12_lay 19 = .ok (.iaload, 1))) ∧ ((decode cX12_lay 20 = .ok (.bipush (-4), 2) ∧ decode cX12_lay 22 = .ok (.if_icmp .ne 6, 3)) ∧ (decode cX12_lay 25 = .ok (.bipush (-11), 2) ∧ decode cX12_lay 27 = .ok (.ireturn, 1))))) ∧ ((((decode cX12_lay 28 = .ok (.iload_n 2, 1) ∧ decode cX12_lay 29 = .ok (.i2l, 1)) ∧ (decode cX12_lay 30 = .ok (.lconst 0, 1) ∧ decode cX12_lay 31 = .ok (.aload_n 0, 1))) ∧ ((decode cX12_lay 32 = .ok (.getfield 85, 3) ∧ decode cX12_lay 35 = .ok (.iload_n 1, 1)) ∧ (decode cX12_lay 36 = .ok (.iaload, 1) ∧ decode cX12_lay 37 = .ok (.iconst 1, 1)))) ∧ (((decode cX12_lay 38 = .ok (.isub, 1) ∧ decode cX12_lay 39 = .ok (.i2l, 1)) ∧ (decode cX12_lay 40 = .ok (.invokestatic 94, 3) ∧ decode cX12_lay 43 = .ok (.ifCond .ne 6, 3))) ∧ ((decode cX12_lay 46 = .ok (.bipush (-12), 2) ∧ decode cX12_lay 48 = .ok (.ireturn, 1)) ∧ (decode cX12_lay 49 = .ok (.aload_n 0, 1) ∧ decode cX12_lay 50 = .ok (.getfield 88, 3)))))) ∧ bA cX12_lay 53 fp_scX12_lay_1 :=
  have q0 := fp_o27 fp_bcX12_lay
  have q1 := fp_o133 q0.2
  have q2 := fp_o9 q1.2
  have q3 := fp_o20 (v := 196) q2.2 rfl
  have q4 := fp_o184 (v := 94) q3.2 rfl
  have q5 := fp_o154 (v := 5) q4.2 rfl
  have q6 := fp_o2 q5.2
  have q7 := fp_o172 q6.2
  have q8 := fp_o42 q7.2
  have q9 := fp_o180 (v := 82) q8.2 rfl
  have q10 := fp_o27 q9.2
  have q11 := fp_o46 q10.2
  have q12 := fp_o16 (v := (-4)) q11.2 rfl
  have q13 := fp_o160 (v := 6) q12.2 rfl
  have q14 := fp_o16 (v := (-11)) q13.2 rfl
  have q15 := fp_o172 q14.2
  have q16 := fp_o28 q15.2
  have q17 := fp_o133 q16.2
  have q18 := fp_o9 q17.2
  have q19 := fp_o42 q18.2
  have q20 := fp_o180 (v := 85) q19.2 rfl
  have q21 := fp_o27 q20.2
  have q22 := fp_o46 q21.2
  have q23 := fp_o4 q22.2
  have q24 := fp_o100 q23.2
  have q25 := fp_o133 q24.2
  have q26 := fp_o184 (v := 94) q25.2 rfl
  have q27 := fp_o154 (v := 6) q26.2 rfl
  have q28 := fp_o16 (v := (-12)) q27.2 rfl
  have q29 := fp_o172 q28.2
  have q30 := fp_o42 q29.2
  have q31 := fp_o180 (v := 88) q30.2 rfl
  ⟨⟨⟨⟨⟨⟨q0.1, q1.1⟩, ⟨q2.1, q3.1⟩⟩, ⟨⟨q4.1, q5.1⟩, ⟨q6.1, q7.1⟩⟩⟩, ⟨⟨⟨q8.1, q9.1⟩, ⟨q10.1, q11.1⟩⟩, ⟨⟨q12.1, q13.1⟩, ⟨q14.1, q15.1⟩⟩⟩⟩, ⟨⟨⟨⟨q16.1, q17.1⟩, ⟨q18.1, q19.1⟩⟩, ⟨⟨q20.1, q21.1⟩, ⟨q22.1, q23.1⟩⟩⟩, ⟨⟨⟨q24.1, q25.1⟩, ⟨q26.1, q27.1⟩⟩, ⟨⟨q28.1, q29.1⟩, ⟨q30.1, q31.1⟩⟩⟩⟩⟩, q31.2⟩
theorem dX12_lay_0 : decode cX12_lay 0 = .ok (.iload_n 1, 1) := fp_hdX12_lay_0.1.1.1.1.1.1
theorem dX12_lay_1 : decode cX12_lay 1 = .ok (.i2l, 1) := fp_hdX12_lay_0.1.1.1.1.1.2
theorem dX12_lay_2 : decode cX12_lay 2 = .ok (.lconst 0, 1) := fp_hdX12_lay_0.1.1.1.1.2.1
theorem dX12_lay_3 : decode cX12_lay 3 = .ok (.ldc2_w 196, 3) := fp_hdX12_lay_0.1.1.1.1.2.2
theorem dX12_lay_6 : decode cX12_lay 6 = .ok (.invokestatic 94, 3) := fp_hdX12_lay_0.1.1.1.2.1.1
theorem dX12_lay_9 : decode cX12_lay 9 = .ok (.ifCond .ne 5, 3) := fp_hdX12_lay_0.1.1.1.2.1.2
theorem dX12_lay_12 : decode cX12_lay 12 = .ok (.iconst (-1), 1) := fp_hdX12_lay_0.1.1.1.2.2.1
theorem dX12_lay_13 : decode cX12_lay 13 = .ok (.ireturn, 1) := fp_hdX12_lay_0.1.1.1.2.2.2
theorem dX12_lay_14 : decode cX12_lay 14 = .ok (.aload_n 0, 1) := fp_hdX12_lay_0.1.1.2.1.1.1
theorem dX12_lay_15 : decode cX12_lay 15 = .ok (.getfield 82, 3) := fp_hdX12_lay_0.1.1.2.1.1.2
theorem dX12_lay_18 : decode cX12_lay 18 = .ok (.iload_n 1, 1) := fp_hdX12_lay_0.1.1.2.1.2.1
theorem dX12_lay_19 : decode cX12_lay 19 = .ok (.iaload, 1) := fp_hdX12_lay_0.1.1.2.1.2.2
theorem dX12_lay_20 : decode cX12_lay 20 = .ok (.bipush (-4), 2) := fp_hdX12_lay_0.1.1.2.2.1.1
theorem dX12_lay_22 : decode cX12_lay 22 = .ok (.if_icmp .ne 6, 3) := fp_hdX12_lay_0.1.1.2.2.1.2
theorem dX12_lay_25 : decode cX12_lay 25 = .ok (.bipush (-11), 2) := fp_hdX12_lay_0.1.1.2.2.2.1
theorem dX12_lay_27 : decode cX12_lay 27 = .ok (.ireturn, 1) := fp_hdX12_lay_0.1.1.2.2.2.2
theorem dX12_lay_28 : decode cX12_lay 28 = .ok (.iload_n 2, 1) := fp_hdX12_lay_0.1.2.1.1.1.1
theorem dX12_lay_29 : decode cX12_lay 29 = .ok (.i2l, 1) := fp_hdX12_lay_0.1.2.1.1.1.2
theorem dX12_lay_30 : decode cX12_lay 30 = .ok (.lconst 0, 1) := fp_hdX12_lay_0.1.2.1.1.2.1
theorem dX12_lay_31 : decode cX12_lay 31 = .ok (.aload_n 0, 1) := fp_hdX12_lay_0.1.2.1.1.2.2
theorem dX12_lay_32 : decode cX12_lay 32 = .ok (.getfield 85, 3) := fp_hdX12_lay_0.1.2.1.2.1.1
theorem dX12_lay_35 : decode cX12_lay 35 = .ok (.iload_n 1, 1) := fp_hdX12_lay_0.1.2.1.2.1.2
theorem dX12_lay_36 : decode cX12_lay 36 = .ok (.iaload, 1) := fp_hdX12_lay_0.1.2.1.2.2.1
theorem dX12_lay_37 : decode cX12_lay 37 = .ok (.iconst 1, 1) := fp_hdX12_lay_0.1.2.1.2.2.2
theorem dX12_lay_38 : decode cX12_lay 38 = .ok (.isub, 1) := fp_hdX12_lay_0.1.2.2.1.1.1
theorem dX12_lay_39 : decode cX12_lay 39 = .ok (.i2l, 1) := fp_hdX12_lay_0.1.2.2.1.1.2
theorem dX12_lay_40 : decode cX12_lay 40 = .ok (.invokestatic 94, 3) := fp_hdX12_lay_0.1.2.2.1.2.1
theorem dX12_lay_43 : decode cX12_lay 43 = .ok (.ifCond .ne 6, 3) := fp_hdX12_lay_0.1.2.2.1.2.2
theorem dX12_lay_46 : decode cX12_lay 46 = .ok (.bipush (-12), 2) := fp_hdX12_lay_0.1.2.2.2.1.1
theorem dX12_lay_48 : decode cX12_lay 48 = .ok (.ireturn, 1) := fp_hdX12_lay_0.1.2.2.2.1.2
theorem dX12_lay_49 : decode cX12_lay 49 = .ok (.aload_n 0, 1) := fp_hdX12_lay_0.1.2.2.2.2.1
theorem dX12_lay_50 : decode cX12_lay 50 = .ok (.getfield 88, 3) := fp_hdX12_lay_0.1.2.2.2.2.2
theorem fp_hdX12_lay_53 : (((((decode cX12_lay 53 = .ok (.bipush 40, 2) ∧ decode cX12_lay 55 = .ok (.iload_n 1, 1)) ∧ (decode cX12_lay 56 = .ok (.imul, 1) ∧ decode cX12_lay 57 = .ok (.iload_n 2, 1))) ∧ ((decode cX12_lay 58 = .ok (.iadd, 1) ∧ decode cX12_lay 59 = .ok (.aload_n 0, 1)) ∧ (decode cX12_lay 60 = .ok (.getfield 82, 3) ∧ decode cX12_lay 63 = .ok (.iload_n 1, 1)))) ∧ (((decode cX12_lay 64 = .ok (.iaload, 1) ∧ decode cX12_lay 65 = .ok (.ifCond .ne 13, 3)) ∧ (decode cX12_lay 68 = .ok (.iload_n 3, 1) ∧ decode cX12_lay 69 = .ok (.bipush 24, 2))) ∧ ((decode cX12_lay 71 = .ok (.ishl, 1) ∧ decode cX12_lay 72 = .ok (.bipush 24, 2)) ∧ (decode cX12_lay 74 = .ok (.ishr, 1) ∧ decode cX12_lay 75 = .ok (.goto 24, 3))))) ∧ ((((decode cX12_lay 78 = .ok (.aload_n 0, 1) ∧ decode cX12_lay 79 = .ok (.getfield 82, 3)) ∧ (decode cX12_lay 82 = .ok (.iload_n 1, 1) ∧ decode cX12_lay 83 = .ok (.iaload, 1))) ∧ ((decode cX12_lay 84 = .ok (.iconst 1, 1) ∧ decode cX12_lay 85 = .ok (.if_icmp .ne 13, 3)) ∧ (decode cX12_lay 88 = .ok (.iload_n 3, 1) ∧ decode cX12_lay 89 = .ok (.bipush 16, 2)))) ∧ (((decode cX12_lay 91 = .ok (.ishl, 1) ∧ decode cX12_lay 92 = .ok (.bipush 16, 2)) ∧ (decode cX12_lay 94 = .ok (.ishr, 1) ∧ decode cX12_lay 95 = .ok (.goto 4, 3))) ∧ ((decode cX12_lay 98 = .ok (.iload_n 3, 1) ∧ decode cX12_lay 99 = .ok (.iastore, 1)) ∧ (decode cX12_lay 100 = .ok (.iconst 1, 1) ∧ decode cX12_lay 101 = .ok (.ireturn, 1)))))) ∧ bA cX12_lay 102 [] :=
  have q0 := fp_o16 (v := 40) fp_hdX12_lay_0.2 rfl
  have q1 := fp_o27 q0.2
  have q2 := fp_o104 q1.2
  have q3 := fp_o28 q2.2
  have q4 := fp_o96 q3.2
  have q5 := fp_o42 q4.2
  have q6 := fp_o180 (v := 82) q5.2 rfl
  have q7 := fp_o27 q6.2
  have q8 := fp_o46 q7.2
  have q9 := fp_o154 (v := 13) q8.2 rfl
  have q10 := fp_o29 q9.2
  have q11 := fp_o16 (v := 24) q10.2 rfl
  have q12 := fp_o120 q11.2
  have q13 := fp_o16 (v := 24) q12.2 rfl
  have q14 := fp_o122 q13.2
  have q15 := fp_o167 (v := 24) q14.2 rfl
  have q16 := fp_o42 q15.2
  have q17 := fp_o180 (v := 82) q16.2 rfl
  have q18 := fp_o27 q17.2
  have q19 := fp_o46 q18.2
  have q20 := fp_o4 q19.2
  have q21 := fp_o160 (v := 13) q20.2 rfl
  have q22 := fp_o29 q21.2
  have q23 := fp_o16 (v := 16) q22.2 rfl
  have q24 := fp_o120 q23.2
  have q25 := fp_o16 (v := 16) q24.2 rfl
  have q26 := fp_o122 q25.2
  have q27 := fp_o167 (v := 4) q26.2 rfl
  have q28 := fp_o29 q27.2
  have q29 := fp_o79 q28.2
  have q30 := fp_o4 q29.2
  have q31 := fp_o172 q30.2
  ⟨⟨⟨⟨⟨⟨q0.1, q1.1⟩, ⟨q2.1, q3.1⟩⟩, ⟨⟨q4.1, q5.1⟩, ⟨q6.1, q7.1⟩⟩⟩, ⟨⟨⟨q8.1, q9.1⟩, ⟨q10.1, q11.1⟩⟩, ⟨⟨q12.1, q13.1⟩, ⟨q14.1, q15.1⟩⟩⟩⟩, ⟨⟨⟨⟨q16.1, q17.1⟩, ⟨q18.1, q19.1⟩⟩, ⟨⟨q20.1, q21.1⟩, ⟨q22.1, q23.1⟩⟩⟩, ⟨⟨⟨q24.1, q25.1⟩, ⟨q26.1, q27.1⟩⟩, ⟨⟨q28.1, q29.1⟩, ⟨q30.1, q31.1⟩⟩⟩⟩⟩, q31.2⟩
theorem dX12_lay_53 : decode cX12_lay 53 = .ok (.bipush 40, 2) := fp_hdX12_lay_53.1.1.1.1.1.1
theorem dX12_lay_55 : decode cX12_lay 55 = .ok (.iload_n 1, 1) := fp_hdX12_lay_53.1.1.1.1.1.2
theorem dX12_lay_56 : decode cX12_lay 56 = .ok (.imul, 1) := fp_hdX12_lay_53.1.1.1.1.2.1
theorem dX12_lay_57 : decode cX12_lay 57 = .ok (.iload_n 2, 1) := fp_hdX12_lay_53.1.1.1.1.2.2
theorem dX12_lay_58 : decode cX12_lay 58 = .ok (.iadd, 1) := fp_hdX12_lay_53.1.1.1.2.1.1
theorem dX12_lay_59 : decode cX12_lay 59 = .ok (.aload_n 0, 1) := fp_hdX12_lay_53.1.1.1.2.1.2
theorem dX12_lay_60 : decode cX12_lay 60 = .ok (.getfield 82, 3) := fp_hdX12_lay_53.1.1.1.2.2.1
theorem dX12_lay_63 : decode cX12_lay 63 = .ok (.iload_n 1, 1) := fp_hdX12_lay_53.1.1.1.2.2.2
theorem dX12_lay_64 : decode cX12_lay 64 = .ok (.iaload, 1) := fp_hdX12_lay_53.1.1.2.1.1.1
theorem dX12_lay_65 : decode cX12_lay 65 = .ok (.ifCond .ne 13, 3) := fp_hdX12_lay_53.1.1.2.1.1.2
theorem dX12_lay_68 : decode cX12_lay 68 = .ok (.iload_n 3, 1) := fp_hdX12_lay_53.1.1.2.1.2.1
theorem dX12_lay_69 : decode cX12_lay 69 = .ok (.bipush 24, 2) := fp_hdX12_lay_53.1.1.2.1.2.2
theorem dX12_lay_71 : decode cX12_lay 71 = .ok (.ishl, 1) := fp_hdX12_lay_53.1.1.2.2.1.1
theorem dX12_lay_72 : decode cX12_lay 72 = .ok (.bipush 24, 2) := fp_hdX12_lay_53.1.1.2.2.1.2
theorem dX12_lay_74 : decode cX12_lay 74 = .ok (.ishr, 1) := fp_hdX12_lay_53.1.1.2.2.2.1
theorem dX12_lay_75 : decode cX12_lay 75 = .ok (.goto 24, 3) := fp_hdX12_lay_53.1.1.2.2.2.2
theorem dX12_lay_78 : decode cX12_lay 78 = .ok (.aload_n 0, 1) := fp_hdX12_lay_53.1.2.1.1.1.1
theorem dX12_lay_79 : decode cX12_lay 79 = .ok (.getfield 82, 3) := fp_hdX12_lay_53.1.2.1.1.1.2
theorem dX12_lay_82 : decode cX12_lay 82 = .ok (.iload_n 1, 1) := fp_hdX12_lay_53.1.2.1.1.2.1
theorem dX12_lay_83 : decode cX12_lay 83 = .ok (.iaload, 1) := fp_hdX12_lay_53.1.2.1.1.2.2
theorem dX12_lay_84 : decode cX12_lay 84 = .ok (.iconst 1, 1) := fp_hdX12_lay_53.1.2.1.2.1.1
theorem dX12_lay_85 : decode cX12_lay 85 = .ok (.if_icmp .ne 13, 3) := fp_hdX12_lay_53.1.2.1.2.1.2
theorem dX12_lay_88 : decode cX12_lay 88 = .ok (.iload_n 3, 1) := fp_hdX12_lay_53.1.2.1.2.2.1
theorem dX12_lay_89 : decode cX12_lay 89 = .ok (.bipush 16, 2) := fp_hdX12_lay_53.1.2.1.2.2.2
theorem dX12_lay_91 : decode cX12_lay 91 = .ok (.ishl, 1) := fp_hdX12_lay_53.1.2.2.1.1.1
theorem dX12_lay_92 : decode cX12_lay 92 = .ok (.bipush 16, 2) := fp_hdX12_lay_53.1.2.2.1.1.2
theorem dX12_lay_94 : decode cX12_lay 94 = .ok (.ishr, 1) := fp_hdX12_lay_53.1.2.2.1.2.1
theorem dX12_lay_95 : decode cX12_lay 95 = .ok (.goto 4, 3) := fp_hdX12_lay_53.1.2.2.1.2.2
theorem dX12_lay_98 : decode cX12_lay 98 = .ok (.iload_n 3, 1) := fp_hdX12_lay_53.1.2.2.2.1.1
theorem dX12_lay_99 : decode cX12_lay 99 = .ok (.iastore, 1) := fp_hdX12_lay_53.1.2.2.2.1.2
theorem dX12_lay_100 : decode cX12_lay 100 = .ok (.iconst 1, 1) := fp_hdX12_lay_53.1.2.2.2.2.1
theorem dX12_lay_101 : decode cX12_lay 101 = .ok (.ireturn, 1) := fp_hdX12_lay_53.1.2.2.2.2.2
def fp_scX12_read_4 : List Nat := 42 :: 180 :: 0 :: 7 :: 16 :: 95 :: 92 :: 46 :: 21 :: 6 :: 100 :: 79 :: 16 :: 236 :: 21 :: 6 :: 100 :: 172 :: 42 :: 21 :: 5 :: 181 :: 1 :: 74 :: 21 :: 6 :: 172 :: []
def fp_scX12_read_3 : List Nat := 21 :: 9 :: 5 :: 100 :: 46 :: 42 :: 180 :: 0 :: 88 :: 21 :: 9 :: 4 :: 100 :: 46 :: 42 :: 180 :: 0 :: 88 :: 21 :: 9 :: 46 :: 182 :: 0 :: 253 :: 156 :: 0 :: 7 :: 4 :: 167 :: 0 :: 4 :: 3 :: 54 :: 7 :: 21 :: 6 :: 21 :: 7 :: 153 :: 0 :: 7 :: 3 :: 167 :: 0 :: 4 :: 4 :: 96 :: 54 :: 6 :: 132 :: 8 :: 1 :: 167 :: 255 :: 89 :: 21 :: 7 :: 153 :: 0 :: 21 :: fp_scX12_read_4
def fp_scX12_read_2 : List Nat := 100 :: 133 :: 184 :: 0 :: 94 :: 154 :: 0 :: 7 :: 5 :: 167 :: 0 :: 4 :: 3 :: 54 :: 5 :: 21 :: 5 :: 154 :: 0 :: 85 :: 21 :: 8 :: 7 :: 112 :: 6 :: 160 :: 0 :: 77 :: 16 :: 40 :: 27 :: 104 :: 29 :: 96 :: 21 :: 8 :: 96 :: 54 :: 9 :: 42 :: 42 :: 180 :: 0 :: 88 :: 21 :: 9 :: 6 :: 100 :: 46 :: 42 :: 180 :: 0 :: 88 :: fp_scX12_read_3
def fp_scX12_read_1 : List Nat := 162 :: 0 :: 164 :: 21 :: 5 :: 154 :: 0 :: 159 :: 21 :: 7 :: 154 :: 0 :: 154 :: 42 :: 180 :: 0 :: 82 :: 27 :: 46 :: 16 :: 252 :: 160 :: 0 :: 7 :: 4 :: 167 :: 0 :: 44 :: 42 :: 180 :: 0 :: 82 :: 27 :: 46 :: 28 :: 159 :: 0 :: 7 :: 6 :: 167 :: 0 :: 30 :: 29 :: 133 :: 21 :: 8 :: 133 :: 97 :: 9 :: 42 :: 180 :: 0 :: 85 :: 27 :: 46 :: 4 :: fp_scX12_read_2
def fp_scX12_read_0 : List Nat := 27 :: 133 :: 9 :: 20 :: 0 :: 196 :: 184 :: 0 :: 94 :: 153 :: 0 :: 28 :: 28 :: 133 :: 9 :: 20 :: 1 :: 15 :: 184 :: 0 :: 94 :: 153 :: 0 :: 16 :: 21 :: 4 :: 133 :: 9 :: 20 :: 0 :: 212 :: 184 :: 0 :: 94 :: 154 :: 0 :: 5 :: 2 :: 172 :: 3 :: 54 :: 5 :: 3 :: 54 :: 6 :: 3 :: 54 :: 7 :: 3 :: 54 :: 8 :: 21 :: 8 :: 7 :: 21 :: 4 :: 104 :: fp_scX12_read_1
theorem fp_bcX12_read : bA cX12_read 0 fp_scX12_read_0 := show cX12_read.data.toList.map UInt8.toNat = fp_scX12_read_0 from by decide +kernel
theorem fp_hdX12_read_0 : (((((decode cX12_read 0 = .ok (.iload_n 1, 1) ∧ decode cX12_read 1 = .ok (.i2l, 1)) ∧ (decode cX12_read 2 = .ok (.lconst 0, 1) ∧ decode cX12_read 3 = .ok (.ldc2_w 196, 3))) ∧ ((decode cX12_read 6 = .ok (.invokestatic 94, 3) ∧ decode cX12_read 9 = .ok (.ifCond .eq 28, 3)) ∧ (decode cX12_read 12 = .ok (.iload_n 2, 1) ∧ decode cX12_read 13 = .ok (.i2l, 1)))) ∧ (((decode cX12_read 14 = .ok (.lconst 0, 1) ∧ decode cX12_read 15 = .ok (.ldc2_w 271, 3)) ∧ (decode cX12_read 18 = .ok (.invokestatic 94, 3) ∧ decode cX12_read 21 = .ok (.ifCond .eq 16, 3))) ∧ ((decode cX12_read 24 = .ok (.iload 4, 2) ∧ decode cX12_read 26 = .ok (.i2l, 1)) ∧ (decode cX12_read 27 = .ok (.lconst 0, 1) ∧ decode cX12_read 28 = .ok (.ldc2_w 212, 3))))) ∧ ((((decode cX12_read 31 = .ok (.invokestatic 94, 3) ∧ decode cX12_read 34 = .ok (.ifCond .ne 5, 3)) ∧ (decode cX12_read 37 = .ok (.iconst (-1), 1) ∧ decode cX12_read 38 = .ok (.ireturn, 1))) ∧ ((decode cX12_read 39 = .ok (.iconst 0, 1) ∧ decode cX12_read 40 = .ok (.istore 5, 2)) ∧ (decode cX12_read 42 = .ok (.iconst 0, 1) ∧ decode cX12_read 43 = .ok (.istore 6, 2)))) ∧ (((decode cX12_read 45 = .ok (.iconst 0, 1) ∧ decode cX12_read 46 = .ok (.istore 7, 2)) ∧ (decode cX12_read 48 = .ok (.iconst 0, 1) ∧ decode cX12_read 49 = .ok (.istore 8, 2))) ∧ ((decode cX12_read 51 = .ok (.iload 8, 2) ∧ decode cX12_read 53 = .ok (.iconst 4, 1)) ∧ (decode cX12_read 54 = .ok (.iload 4, 2) ∧ decode cX12_read 56 = .ok (.imul, 1)))))) ∧ bA cX12_read 57 fp_scX12_read_1 :=
  have q0 := fp_o27 fp_bcX12_read
  have q1 := fp_o133 q0.2
  have q2 := fp_o9 q1.2
  have q3 := fp_o20 (v := 196) q2.2 rfl
  have q4 := fp_o184 (v := 94) q3.2 rfl
  have q5 := fp_o153 (v := 28) q4.2 rfl
  have q6 := fp_o28 q5.2
  have q7 := fp_o133 q6.2
  have q8 := fp_o9 q7.2
  have q9 := fp_o20 (v := 271) q8.2 rfl
  have q10 := fp_o184 (v := 94) q9.2 rfl
  have q11 := fp_o153 (v := 16) q10.2 rfl
  have q12 := fp_o21 q11.2
  have q13 := fp_o133 q12.2
  have q14 := fp_o9 q13.2
  have q15 := fp_o20 (v := 212) q14.2 rfl
  have q16 := fp_o184 (v := 94) q15.2 rfl
  have q17 := fp_o154 (v := 5) q16.2 rfl
  have q18 := fp_o2 q17.2
  have q19 := fp_o172 q18.2
  have q20 := fp_o3 q19.2
  have q21 := fp_o54 q20.2
  have q22 := fp_o3 q21.2
  have q23 := fp_o54 q22.2
  have q24 := fp_o3 q23.2
  have q25 := fp_o54 q24.2
  have q26 := fp_o3 q25.2
  have q27 := fp_o54 q26.2
  have q28 := fp_o21 q27.2
  have q29 := fp_o7 q28.2
  have q30 := fp_o21 q29.2
  have q31 := fp_o104 q30.2
  ⟨⟨⟨⟨⟨⟨q0.1, q1.1⟩, ⟨q2.1, q3.1⟩⟩, ⟨⟨q4.1, q5.1⟩, ⟨q6.1, q7.1⟩⟩⟩, ⟨⟨⟨q8.1, q9.1⟩, ⟨q10.1, q11.1⟩⟩, ⟨⟨q12.1, q13.1⟩, ⟨q14.1, q15.1⟩⟩⟩⟩, ⟨⟨⟨⟨q16.1, q17.1⟩, ⟨q18.1, q19.1⟩⟩, ⟨⟨q20.1, q21.1⟩, ⟨q22.1, q23.1⟩⟩⟩, ⟨⟨⟨q24.1, q25.1⟩, ⟨q26.1, q27.1⟩⟩, ⟨⟨q28.1, q29.1⟩, ⟨q30.1, q31.1⟩⟩⟩⟩⟩, q31.2⟩
theorem dX12_read_0 : decode cX12_read 0 = .ok (.iload_n 1, 1) := fp_hdX12_read_0.1.1.1.1.1.1
theorem dX12_read_1 : decode cX12_read 1 = .ok (.i2l, 1) := fp_hdX12_read_0.1.1.1.1.1.2
theorem dX12_read_2 : decode cX12_read 2 = .ok (.lconst 0, 1) := fp_hdX12_read_0.1.1.1.1.2.1
theorem dX12_read_3 : decode cX12_read 3 = .ok (.ldc2_w 196, 3) := fp_hdX12_read_0.1.1.1.1.2.2
theorem dX12_read_6 : decode cX12_read 6 = .ok (.invokestatic 94, 3) := fp_hdX12_read_0.1.1.1.2.1.1
theorem dX12_read_9 : decode cX12_read 9 = .ok (.ifCond .eq 28, 3) := fp_hdX12_read_0.1.1.1.2.1.2
theorem dX12_read_12 : decode cX12_read 12 = .ok (.iload_n 2, 1) := fp_hdX12_read_0.1.1.1.2.2.1
theorem dX12_read_13 : decode cX12_read 13 = .ok (.i2l, 1) := fp_hdX12_read_0.1.1.1.2.2.2
theorem dX12_read_14 : decode cX12_read 14 = .ok (.lconst 0, 1) := fp_hdX12_read_0.1.1.2.1.1.1
theorem dX12_read_15 : decode cX12_read 15 = .ok (.ldc2_w 271, 3) := fp_hdX12_read_0.1.1.2.1.1.2
theorem dX12_read_18 : decode cX12_read 18 = .ok (.invokestatic 94, 3) := fp_hdX12_read_0.1.1.2.1.2.1
theorem dX12_read_21 : decode cX12_read 21 = .ok (.ifCond .eq 16, 3) := fp_hdX12_read_0.1.1.2.1.2.2
theorem dX12_read_24 : decode cX12_read 24 = .ok (.iload 4, 2) := fp_hdX12_read_0.1.1.2.2.1.1
theorem dX12_read_26 : decode cX12_read 26 = .ok (.i2l, 1) := fp_hdX12_read_0.1.1.2.2.1.2
theorem dX12_read_27 : decode cX12_read 27 = .ok (.lconst 0, 1) := fp_hdX12_read_0.1.1.2.2.2.1
theorem dX12_read_28 : decode cX12_read 28 = .ok (.ldc2_w 212, 3) := fp_hdX12_read_0.1.1.2.2.2.2
theorem dX12_read_31 : decode cX12_read 31 = .ok (.invokestatic 94, 3) := fp_hdX12_read_0.1.2.1.1.1.1
theorem dX12_read_34 : decode cX12_read 34 = .ok (.ifCond .ne 5, 3) := fp_hdX12_read_0.1.2.1.1.1.2
theorem dX12_read_37 : decode cX12_read 37 = .ok (.iconst (-1), 1) := fp_hdX12_read_0.1.2.1.1.2.1
theorem dX12_read_38 : decode cX12_read 38 = .ok (.ireturn, 1) := fp_hdX12_read_0.1.2.1.1.2.2
theorem dX12_read_39 : decode cX12_read 39 = .ok (.iconst 0, 1) := fp_hdX12_read_0.1.2.1.2.1.1
theorem dX12_read_40 : decode cX12_read 40 = .ok (.istore 5, 2) := fp_hdX12_read_0.1.2.1.2.1.2
theorem dX12_read_42 : decode cX12_read 42 = .ok (.iconst 0, 1) := fp_hdX12_read_0.1.2.1.2.2.1
theorem dX12_read_43 : decode cX12_read 43 = .ok (.istore 6, 2) := fp_hdX12_read_0.1.2.1.2.2.2
theorem dX12_read_45 : decode cX12_read 45 = .ok (.iconst 0, 1) := fp_hdX12_read_0.1.2.2.1.1.1
theorem dX12_read_46 : decode cX12_read 46 = .ok (.istore 7, 2) := fp_hdX12_read_0.1.2.2.1.1.2
theorem dX12_read_48 : decode cX12_read 48 = .ok (.iconst 0, 1) := fp_hdX12_read_0.1.2.2.1.2.1
theorem dX12_read_49 : decode cX12_read 49 = .ok (.istore 8, 2) := fp_hdX12_read_0.1.2.2.1.2.2
theorem dX12_read_51 : decode cX12_read 51 = .ok (.iload 8, 2) := fp_hdX12_read_0.1.2.2.2.1.1
theorem dX12_read_53 : decode cX12_read 53 = .ok (.iconst 4, 1) := fp_hdX12_read_0.1.2.2.2.1.2
theorem dX12_read_54 : decode cX12_read 54 = .ok (.iload 4, 2) := fp_hdX12_read_0.1.2.2.2.2.1
theorem dX12_read_56 : decode cX12_read 56 = .ok (.imul, 1) := fp_hdX12_read_0.1.2.2.2.2.2
theorem fp_hdX12_read_57 : (((((decode cX12_read 57 = .ok (.if_icmp .ge 164, 3) ∧ decode cX12_read 60 = .ok (.iload 5, 2)) ∧ (decode cX12_read 62 = .ok (.ifCond .ne 159, 3) ∧ decode cX12_read 65 = .ok (.iload 7, 2))) ∧ ((decode cX12_read 67 = .ok (.ifCond .ne 154, 3) ∧ decode cX12_read 70 = .ok (.aload_n 0, 1)) ∧ (decode cX12_read 71 = .ok (.getfield 82, 3) ∧ decode cX12_read 74 = .ok (.iload_n 1, 1)))) ∧ (((decode cX12_read 75 = .ok (.iaload, 1) ∧ decode cX12_read 76 = .ok (.bipush (-4), 2)) ∧ (decode cX12_read 78 = .ok (.if_icmp .ne 7, 3) ∧ decode cX12_read 81 = .ok (.iconst 1, 1))) ∧ ((decode cX12_read 82 = .ok (.goto 44, 3) ∧ decode cX12_read 85 = .ok (.aload_n 0, 1)) ∧ (decode cX12_read 86 = .ok (.getfield 82, 3) ∧ decode cX12_read 89 = .ok (.iload_n 1, 1))))) ∧ ((((decode cX12_read 90 = .ok (.iaload, 1) ∧ decode cX12_read 91 = .ok (.iload_n 2, 1)) ∧ (decode cX12_read 92 = .ok (.if_icmp .eq 7, 3) ∧ decode cX12_read 95 = .ok (.iconst 3, 1))) ∧ ((decode cX12_read 96 = .ok (.goto 30, 3) ∧ decode cX12_read 99 = .ok (.iload_n 3, 1)) ∧ (decode cX12_read 100 = .ok (.i2l, 1) ∧ decode cX12_read 101 = .ok (.iload 8, 2)))) ∧ (((decode cX12_read 103 = .ok (.i2l, 1) ∧ decode cX12_read 104 = .ok (.ladd, 1)) ∧ (decode cX12_read 105 = .ok (.lconst 0, 1) ∧ decode cX12_read 106 = .ok (.aload_n 0, 1))) ∧ ((decode cX12_read 107 = .ok (.getfield 85, 3) ∧ decode cX12_read 110 = .ok (.iload_n 1, 1)) ∧ (decode cX12_read 111 = .ok (.iaload, 1) ∧ decode cX12_read 112 = .ok (.iconst 1, 1)))))) ∧ bA cX12_read 113 fp_scX12_read_2 :=
  have q0 := fp_o162 (v := 164) fp_hdX12_read_0.2 rfl
  have q1 := fp_o21 q0.2
  have q2 := fp_o154 (v := 159) q1.2 rfl
  have q3 := fp_o21 q2.2
  have q4 := fp_o154 (v := 154) q3.2 rfl
  have q5 := fp_o42 q4.2
  have q6 := fp_o180 (v := 82) q5.2 rfl
  have q7 := fp_o27 q6.2
  have q8 := fp_o46 q7.2
  have q9 := fp_o16 (v := (-4)) q8.2 rfl
  have q10 := fp_o160 (v := 7) q9.2 rfl
  have q11 := fp_o4 q10.2
  have q12 := fp_o167 (v := 44) q11.2 rfl
  have q13 := fp_o42 q12.2
  have q14 := fp_o180 (v := 82) q13.2 rfl
  have q15 := fp_o27 q14.2
  have q16 := fp_o46 q15.2
  have q17 := fp_o28 q16.2
  have q18 := fp_o159 (v := 7) q17.2 rfl
  have q19 := fp_o6 q18.2
  have q20 := fp_o167 (v := 30) q19.2 rfl
  have q21 := fp_o29 q20.2
  have q22 := fp_o133 q21.2
  have q23 := fp_o21 q22.2
  have q24 := fp_o133 q23.2
  have q25 := fp_o97 q24.2
  have q26 := fp_o9 q25.2
  have q27 := fp_o42 q26.2
  have q28 := fp_o180 (v := 85) q27.2 rfl
  have q29 := fp_o27 q28.2
  have q30 := fp_o46 q29.2
  have q31 := fp_o4 q30.2
  ⟨⟨⟨⟨⟨⟨q0.1, q1.1⟩, ⟨q2.1, q3.1⟩⟩, ⟨⟨q4.1, q5.1⟩, ⟨q6.1, q7.1⟩⟩⟩, ⟨⟨⟨q8.1, q9.1⟩, ⟨q10.1, q11.1⟩⟩, ⟨⟨q12.1, q13.1⟩, ⟨q14.1, q15.1⟩⟩⟩⟩, ⟨⟨⟨⟨q16.1, q17.1⟩, ⟨q18.1, q19.1⟩⟩, ⟨⟨q20.1, q21.1⟩, ⟨q22.1, q23.1⟩⟩⟩, ⟨⟨⟨q24.1, q25.1⟩, ⟨q26.1, q27.1⟩⟩, ⟨⟨q28.1, q29.1⟩, ⟨q30.1, q31.1⟩⟩⟩⟩⟩, q31.2⟩
theorem dX12_read_57 : decode cX12_read 57 = .ok (.if_icmp .ge 164, 3) := fp_hdX12_read_57.1.1.1.1.1.1
theorem dX12_read_60 : decode cX12_read 60 = .ok (.iload 5, 2) := fp_hdX12_read_57.1.1.1.1.1.2
theorem dX12_read_62 : decode cX12_read 62 = .ok (.ifCond .ne 159, 3) := fp_hdX12_read_57.1.1.1.1.2.1
theorem dX12_read_65 : decode cX12_read 65 = .ok (.iload 7, 2) := fp_hdX12_read_57.1.1.1.1.2.2
theorem dX12_read_67 : decode cX12_read 67 = .ok (.ifCond .ne 154, 3) := fp_hdX12_read_57.1.1.1.2.1.1
theorem dX12_read_70 : decode cX12_read 70 = .ok (.aload_n 0, 1) := fp_hdX12_read_57.1.1.1.2.1.2
theorem dX12_read_71 : decode cX12_read 71 = .ok (.getfield 82, 3) := fp_hdX12_read_57.1.1.1.2.2.1
theorem dX12_read_74 : decode cX12_read 74 = .ok (.iload_n 1, 1) := fp_hdX12_read_57.1.1.1.2.2.2
theorem dX12_read_75 : decode cX12_read 75 = .ok (.iaload, 1) := fp_hdX12_read_57.1.1.2.1.1.1
theorem dX12_read_76 : decode cX12_read 76 = .ok (.bipush (-4), 2) := fp_hdX12_read_57.1.1.2.1.1.2
theorem dX12_read_78 : decode cX12_read 78 = .ok (.if_icmp .ne 7, 3) := fp_hdX12_read_57.1.1.2.1.2.1
theorem dX12_read_81 : decode cX12_read 81 = .ok (.iconst 1, 1) := fp_hdX12_read_57.1.1.2.1.2.2
theorem dX12_read_82 : decode cX12_read 82 = .ok (.goto 44, 3) := fp_hdX12_read_57.1.1.2.2.1.1
theorem dX12_read_85 : decode cX12_read 85 = .ok (.aload_n 0, 1) := fp_hdX12_read_57.1.1.2.2.1.2
theorem dX12_read_86 : decode cX12_read 86 = .ok (.getfield 82, 3) := fp_hdX12_read_57.1.1.2.2.2.1
theorem dX12_read_89 : decode cX12_read 89 = .ok (.iload_n 1, 1) := fp_hdX12_read_57.1.1.2.2.2.2
theorem dX12_read_90 : decode cX12_read 90 = .ok (.iaload, 1) := fp_hdX12_read_57.1.2.1.1.1.1
theorem dX12_read_91 : decode cX12_read 91 = .ok (.iload_n 2, 1) := fp_hdX12_read_57.1.2.1.1.1.2
theorem dX12_read_92 : decode cX12_read 92 = .ok (.if_icmp .eq 7, 3) := fp_hdX12_read_57.1.2.1.1.2.1
theorem dX12_read_95 : decode cX12_read 95 = .ok (.iconst 3, 1) := fp_hdX12_read_57.1.2.1.1.2.2
theorem dX12_read_96 : decode cX12_read 96 = .ok (.goto 30, 3) := fp_hdX12_read_57.1.2.1.2.1.1
theorem dX12_read_99 : decode cX12_read 99 = .ok (.iload_n 3, 1) := fp_hdX12_read_57.1.2.1.2.1.2
theorem dX12_read_100 : decode cX12_read 100 = .ok (.i2l, 1) := fp_hdX12_read_57.1.2.1.2.2.1
theorem dX12_read_101 : decode cX12_read 101 = .ok (.iload 8, 2) := fp_hdX12_read_57.1.2.1.2.2.2
theorem dX12_read_103 : decode cX12_read 103 = .ok (.i2l, 1) := fp_hdX12_read_57.1.2.2.1.1.1
theorem dX12_read_104 : decode cX12_read 104 = .ok (.ladd, 1) := fp_hdX12_read_57.1.2.2.1.1.2
theorem dX12_read_105 : decode cX12_read 105 = .ok (.lconst 0, 1) := fp_hdX12_read_57.1.2.2.1.2.1
theorem dX12_read_106 : decode cX12_read 106 = .ok (.aload_n 0, 1) := fp_hdX12_read_57.1.2.2.1.2.2
theorem dX12_read_107 : decode cX12_read 107 = .ok (.getfield 85, 3) := fp_hdX12_read_57.1.2.2.2.1.1
theorem dX12_read_110 : decode cX12_read 110 = .ok (.iload_n 1, 1) := fp_hdX12_read_57.1.2.2.2.1.2
theorem dX12_read_111 : decode cX12_read 111 = .ok (.iaload, 1) := fp_hdX12_read_57.1.2.2.2.2.1
theorem dX12_read_112 : decode cX12_read 112 = .ok (.iconst 1, 1) := fp_hdX12_read_57.1.2.2.2.2.2
theorem fp_hdX12_read_113 : (((((decode cX12_read 113 = .ok (.isub, 1) ∧ decode cX12_read 114 = .ok (.i2l, 1)) ∧ (decode cX12_read 115 = .ok (.invokestatic 94, 3) ∧ decode cX12_read 118 = .ok (.ifCond .ne 7, 3))) ∧ ((decode cX12_read 121 = .ok (.iconst 2, 1) ∧ decode cX12_read 122 = .ok (.goto 4, 3)) ∧ (decode cX12_read 125 = .ok (.iconst 0, 1) ∧ decode cX12_read 126 = .ok (.istore 5, 2)))) ∧ (((decode cX12_read 128 = .ok (.iload 5, 2) ∧ decode cX12_read 130 = .ok (.ifCond .ne 85, 3)) ∧ (decode cX12_read 133 = .ok (.iload 8, 2) ∧ decode cX12_read 135 = .ok (.iconst 4, 1))) ∧ ((decode cX12_read 136 = .ok (.irem, 1) ∧ decode cX12_read 137 = .ok (.iconst 3, 1)) ∧ (decode cX12_read 138 = .ok (.if_icmp .ne 77, 3) ∧ decode cX12_read 141 = .ok (.bipush 40, 2))))) ∧ ((((decode cX12_read 143 = .ok (.iload_n 1, 1) ∧ decode cX12_read 144 = .ok (.imul, 1)) ∧ (decode cX12_read 145 = .ok (.iload_n 3, 1) ∧ decode cX12_read 146 = .ok (.iadd, 1))) ∧ ((decode cX12_read 147 = .ok (.iload 8, 2) ∧ decode cX12_read 149 = .ok (.iadd, 1)) ∧ (decode cX12_read 150 = .ok (.istore 9, 2) ∧ decode cX12_read 152 = .ok (.aload_n 0, 1)))) ∧ (((decode cX12_read 153 = .ok (.aload_n 0, 1) ∧ decode cX12_read 154 = .ok (.getfield 88, 3)) ∧ (decode cX12_read 157 = .ok (.iload 9, 2) ∧ decode cX12_read 159 = .ok (.iconst 3, 1))) ∧ ((decode cX12_read 160 = .ok (.isub, 1) ∧ decode cX12_read 161 = .ok (.iaload, 1)) ∧ (decode cX12_read 162 = .ok (.aload_n 0, 1) ∧ decode cX12_read 163 = .ok (.getfield 88, 3)))))) ∧ bA cX12_read 166 fp_scX12_read_3 :=
  have q0 := fp_o100 fp_hdX12_read_57.2
  have q1 := fp_o133 q0.2
  have q2 := fp_o184 (v := 94) q1.2 rfl
  have q3 := fp_o154 (v := 7) q2.2 rfl
  have q4 := fp_o5 q3.2
  have q5 := fp_o167 (v := 4) q4.2 rfl
  have q6 := fp_o3 q5.2
  have q7 := fp_o54 q6.2
  have q8 := fp_o21 q7.2
  have q9 := fp_o154 (v := 85) q8.2 rfl
  have q10 := fp_o21 q9.2
  have q11 := fp_o7 q10.2
  have q12 := fp_o112 q11.2
  have q13 := fp_o6 q12.2
  have q14 := fp_o160 (v := 77) q13.2 rfl
  have q15 := fp_o16 (v := 40) q14.2 rfl
  have q16 := fp_o27 q15.2
  have q17 := fp_o104 q16.2
  have q18 := fp_o29 q17.2
  have q19 := fp_o96 q18.2
  have q20 := fp_o21 q19.2
  have q21 := fp_o96 q20.2
  have q22 := fp_o54 q21.2
  have q23 := fp_o42 q22.2
  have q24 := fp_o42 q23.2
  have q25 := fp_o180 (v := 88) q24.2 rfl
  have q26 := fp_o21 q25.2
  have q27 := fp_o6 q26.2
  have q28 := fp_o100 q27.2
  have q29 := fp_o46 q28.2
  have q30 := fp_o42 q29.2
  have q31 := fp_o180 (v := 88) q30.2 rfl
  ⟨⟨⟨⟨⟨⟨q0.1, q1.1⟩, ⟨q2.1, q3.1⟩⟩, ⟨⟨q4.1, q5.1⟩, ⟨q6.1, q7.1⟩⟩⟩, ⟨⟨⟨q8.1, q9.1⟩, ⟨q10.1, q11.1⟩⟩, ⟨⟨q12.1, q13.1⟩, ⟨q14.1, q15.1⟩⟩⟩⟩, ⟨⟨⟨⟨q16.1, q17.1⟩, ⟨q18.1, q19.1⟩⟩, ⟨⟨q20.1, q21.1⟩, ⟨q22.1, q23.1⟩⟩⟩, ⟨⟨⟨q24.1, q25.1⟩, ⟨q26.1, q27.1⟩⟩, ⟨⟨q28.1, q29.1⟩, ⟨q30.1, q31.1⟩⟩⟩⟩⟩, q31.2⟩
theorem dX12_read_113 : decode cX12_read 113 = .ok (.isub, 1) := fp_hdX12_read_113.1.1.1.1.1.1
theorem dX12_read_114 : decode cX12_read 114 = .ok (.i2l, 1) := fp_hdX12_read_113.1.1.1.1.1.2
theorem dX12_read_115 : decode cX12_read 115 = .ok (.invokestatic 94, 3) := fp_hdX12_read_113.1.1.1.1.2.1
theorem dX12_read_118 : decode cX12_read 118 = .ok (.ifCond .ne 7, 3) := fp_hdX12_read_113.1.1.1.1.2.2
theorem dX12_read_121 : decode cX12_read 121 = .ok (.iconst 2, 1) := fp_hdX12_read_113.1.1.1.2.1.1
theorem dX12_read_122 : decode cX12_read 122 = .ok (.goto 4, 3) := fp_hdX12_read_113.1.1.1.2.1.2
theorem dX12_read_125 : decode cX12_read 125 = .ok (.iconst 0, 1) := fp_hdX12_read_113.1.1.1.2.2.1
theorem dX12_read_126 : decode cX12_read 126 = .ok (.istore 5, 2) := fp_hdX12_read_113.1.1.1.2.2.2
theorem dX12_read_128 : decode cX12_read 128 = .ok (.iload 5, 2) := fp_hdX12_read_113.1.1.2.1.1.1
theorem dX12_read_130 : decode cX12_read 130 = .ok (.ifCond .ne 85, 3) := fp_hdX12_read_113.1.1.2.1.1.2
theorem dX12_read_133 : decode cX12_read 133 = .ok (.iload 8, 2) := fp_hdX12_read_113.1.1.2.1.2.1
theorem dX12_read_135 : decode cX12_read 135 = .ok (.iconst 4, 1) := fp_hdX12_read_113.1.1.2.1.2.2
theorem dX12_read_136 : decode cX12_read 136 = .ok (.irem, 1) := fp_hdX12_read_113.1.1.2.2.1.1
theorem dX12_read_137 : decode cX12_read 137 = .ok (.iconst 3, 1) := fp_hdX12_read_113.1.1.2.2.1.2
theorem dX12_read_138 : decode cX12_read 138 = .ok (.if_icmp .ne 77, 3) := fp_hdX12_read_113.1.1.2.2.2.1
theorem dX12_read_141 : decode cX12_read 141 = .ok (.bipush 40, 2) := fp_hdX12_read_113.1.1.2.2.2.2
theorem dX12_read_143 : decode cX12_read 143 = .ok (.iload_n 1, 1) := fp_hdX12_read_113.1.2.1.1.1.1
theorem dX12_read_144 : decode cX12_read 144 = .ok (.imul, 1) := fp_hdX12_read_113.1.2.1.1.1.2
theorem dX12_read_145 : decode cX12_read 145 = .ok (.iload_n 3, 1) := fp_hdX12_read_113.1.2.1.1.2.1
theorem dX12_read_146 : decode cX12_read 146 = .ok (.iadd, 1) := fp_hdX12_read_113.1.2.1.1.2.2
theorem dX12_read_147 : decode cX12_read 147 = .ok (.iload 8, 2) := fp_hdX12_read_113.1.2.1.2.1.1
theorem dX12_read_149 : decode cX12_read 149 = .ok (.iadd, 1) := fp_hdX12_read_113.1.2.1.2.1.2
theorem dX12_read_150 : decode cX12_read 150 = .ok (.istore 9, 2) := fp_hdX12_read_113.1.2.1.2.2.1
theorem dX12_read_152 : decode cX12_read 152 = .ok (.aload_n 0, 1) := fp_hdX12_read_113.1.2.1.2.2.2
theorem dX12_read_153 : decode cX12_read 153 = .ok (.aload_n 0, 1) := fp_hdX12_read_113.1.2.2.1.1.1
theorem dX12_read_154 : decode cX12_read 154 = .ok (.getfield 88, 3) := fp_hdX12_read_113.1.2.2.1.1.2
theorem dX12_read_157 : decode cX12_read 157 = .ok (.iload 9, 2) := fp_hdX12_read_113.1.2.2.1.2.1
theorem dX12_read_159 : decode cX12_read 159 = .ok (.iconst 3, 1) := fp_hdX12_read_113.1.2.2.1.2.2
theorem dX12_read_160 : decode cX12_read 160 = .ok (.isub, 1) := fp_hdX12_read_113.1.2.2.2.1.1
theorem dX12_read_161 : decode cX12_read 161 = .ok (.iaload, 1) := fp_hdX12_read_113.1.2.2.2.1.2
theorem dX12_read_162 : decode cX12_read 162 = .ok (.aload_n 0, 1) := fp_hdX12_read_113.1.2.2.2.2.1
theorem dX12_read_163 : decode cX12_read 163 = .ok (.getfield 88, 3) := fp_hdX12_read_113.1.2.2.2.2.2
theorem fp_hdX12_read_166 : (((((decode cX12_read 166 = .ok (.iload 9, 2) ∧ decode cX12_read 168 = .ok (.iconst 2, 1)) ∧ (decode cX12_read 169 = .ok (.isub, 1) ∧ decode cX12_read 170 = .ok (.iaload, 1))) ∧ ((decode cX12_read 171 = .ok (.aload_n 0, 1) ∧ decode cX12_read 172 = .ok (.getfield 88, 3)) ∧ (decode cX12_read 175 = .ok (.iload 9, 2) ∧ decode cX12_read 177 = .ok (.iconst 1, 1)))) ∧ (((decode cX12_read 178 = .ok (.isub, 1) ∧ decode cX12_read 179 = .ok (.iaload, 1)) ∧ (decode cX12_read 180 = .ok (.aload_n 0, 1) ∧ decode cX12_read 181 = .ok (.getfield 88, 3))) ∧ ((decode cX12_read 184 = .ok (.iload 9, 2) ∧ decode cX12_read 186 = .ok (.iaload, 1)) ∧ (decode cX12_read 187 = .ok (.invokevirtual 253, 3) ∧ decode cX12_read 190 = .ok (.ifCond .ge 7, 3))))) ∧ ((((decode cX12_read 193 = .ok (.iconst 1, 1) ∧ decode cX12_read 194 = .ok (.goto 4, 3)) ∧ (decode cX12_read 197 = .ok (.iconst 0, 1) ∧ decode cX12_read 198 = .ok (.istore 7, 2))) ∧ ((decode cX12_read 200 = .ok (.iload 6, 2) ∧ decode cX12_read 202 = .ok (.iload 7, 2)) ∧ (decode cX12_read 204 = .ok (.ifCond .eq 7, 3) ∧ decode cX12_read 207 = .ok (.iconst 0, 1)))) ∧ (((decode cX12_read 208 = .ok (.goto 4, 3) ∧ decode cX12_read 211 = .ok (.iconst 1, 1)) ∧ (decode cX12_read 212 = .ok (.iadd, 1) ∧ decode cX12_read 213 = .ok (.istore 6, 2))) ∧ ((decode cX12_read 215 = .ok (.iinc 8 1, 3) ∧ decode cX12_read 218 = .ok (.goto (-167), 3)) ∧ (decode cX12_read 221 = .ok (.iload 7, 2) ∧ decode cX12_read 223 = .ok (.ifCond .eq 21, 3)))))) ∧ bA cX12_read 226 fp_scX12_read_4 :=
  have q0 := fp_o21 fp_hdX12_read_113.2
  have q1 := fp_o5 q0.2
  have q2 := fp_o100 q1.2
  have q3 := fp_o46 q2.2
  have q4 := fp_o42 q3.2
  have q5 := fp_o180 (v := 88) q4.2 rfl
  have q6 := fp_o21 q5.2
  have q7 := fp_o4 q6.2
  have q8 := fp_o100 q7.2
  have q9 := fp_o46 q8.2
  have q10 := fp_o42 q9.2
  have q11 := fp_o180 (v := 88) q10.2 rfl
  have q12 := fp_o21 q11.2
  have q13 := fp_o46 q12.2
  have q14 := fp_o182 (v := 253) q13.2 rfl
  have q15 := fp_o156 (v := 7) q14.2 rfl
  have q16 := fp_o4 q15.2
  have q17 := fp_o167 (v := 4) q16.2 rfl
  have q18 := fp_o3 q17.2
  have q19 := fp_o54 q18.2
  have q20 := fp_o21 q19.2
  have q21 := fp_o21 q20.2
  have q22 := fp_o153 (v := 7) q21.2 rfl
  have q23 := fp_o3 q22.2
  have q24 := fp_o167 (v := 4) q23.2 rfl
  have q25 := fp_o4 q24.2
  have q26 := fp_o96 q25.2
  have q27 := fp_o54 q26.2
  have q28 := fp_o132 (v := 1) q27.2 rfl
  have q29 := fp_o167 (v := (-167)) q28.2 rfl
  have q30 := fp_o21 q29.2
  have q31 := fp_o153 (v := 21) q30.2 rfl
  ⟨⟨⟨⟨⟨⟨q0.1, q1.1⟩, ⟨q2.1, q3.1⟩⟩, ⟨⟨q4.1, q5.1⟩, ⟨q6.1, q7.1⟩⟩⟩, ⟨⟨⟨q8.1, q9.1⟩, ⟨q10.1, q11.1⟩⟩, ⟨⟨q12.1, q13.1⟩, ⟨q14.1, q15.1⟩⟩⟩⟩, ⟨⟨⟨⟨q16.1, q17.1⟩, ⟨q18.1, q19.1⟩⟩, ⟨⟨q20.1, q21.1⟩, ⟨q22.1, q23.1⟩⟩⟩, ⟨⟨⟨q24.1, q25.1⟩, ⟨q26.1, q27.1⟩⟩, ⟨⟨q28.1, q29.1⟩, ⟨q30.1, q31.1⟩⟩⟩⟩⟩, q31.2⟩
theorem dX12_read_166 : decode cX12_read 166 = .ok (.iload 9, 2) := fp_hdX12_read_166.1.1.1.1.1.1
theorem dX12_read_168 : decode cX12_read 168 = .ok (.iconst 2, 1) := fp_hdX12_read_166.1.1.1.1.1.2
theorem dX12_read_169 : decode cX12_read 169 = .ok (.isub, 1) := fp_hdX12_read_166.1.1.1.1.2.1
theorem dX12_read_170 : decode cX12_read 170 = .ok (.iaload, 1) := fp_hdX12_read_166.1.1.1.1.2.2
theorem dX12_read_171 : decode cX12_read 171 = .ok (.aload_n 0, 1) := fp_hdX12_read_166.1.1.1.2.1.1
theorem dX12_read_172 : decode cX12_read 172 = .ok (.getfield 88, 3) := fp_hdX12_read_166.1.1.1.2.1.2
theorem dX12_read_175 : decode cX12_read 175 = .ok (.iload 9, 2) := fp_hdX12_read_166.1.1.1.2.2.1
theorem dX12_read_177 : decode cX12_read 177 = .ok (.iconst 1, 1) := fp_hdX12_read_166.1.1.1.2.2.2
theorem dX12_read_178 : decode cX12_read 178 = .ok (.isub, 1) := fp_hdX12_read_166.1.1.2.1.1.1
theorem dX12_read_179 : decode cX12_read 179 = .ok (.iaload, 1) := fp_hdX12_read_166.1.1.2.1.1.2
theorem dX12_read_180 : decode cX12_read 180 = .ok (.aload_n 0, 1) := fp_hdX12_read_166.1.1.2.1.2.1
theorem dX12_read_181 : decode cX12_read 181 = .ok (.getfield 88, 3) := fp_hdX12_read_166.1.1.2.1.2.2
theorem dX12_read_184 : decode cX12_read 184 = .ok (.iload 9, 2) := fp_hdX12_read_166.1.1.2.2.1.1
theorem dX12_read_186 : decode cX12_read 186 = .ok (.iaload, 1) := fp_hdX12_read_166.1.1.2.2.1.2
theorem dX12_read_187 : decode cX12_read 187 = .ok (.invokevirtual 253, 3) := fp_hdX12_read_166.1.1.2.2.2.1
theorem dX12_read_190 : decode cX12_read 190 = .ok (.ifCond .ge 7, 3) := fp_hdX12_read_166.1.1.2.2.2.2
theorem dX12_read_193 : decode cX12_read 193 = .ok (.iconst 1, 1) := fp_hdX12_read_166.1.2.1.1.1.1
theorem dX12_read_194 : decode cX12_read 194 = .ok (.goto 4, 3) := fp_hdX12_read_166.1.2.1.1.1.2
theorem dX12_read_197 : decode cX12_read 197 = .ok (.iconst 0, 1) := fp_hdX12_read_166.1.2.1.1.2.1
theorem dX12_read_198 : decode cX12_read 198 = .ok (.istore 7, 2) := fp_hdX12_read_166.1.2.1.1.2.2
theorem dX12_read_200 : decode cX12_read 200 = .ok (.iload 6, 2) := fp_hdX12_read_166.1.2.1.2.1.1
theorem dX12_read_202 : decode cX12_read 202 = .ok (.iload 7, 2) := fp_hdX12_read_166.1.2.1.2.1.2
theorem dX12_read_204 : decode cX12_read 204 = .ok (.ifCond .eq 7, 3) := fp_hdX12_read_166.1.2.1.2.2.1
theorem dX12_read_207 : decode cX12_read 207 = .ok (.iconst 0, 1) := fp_hdX12_read_166.1.2.1.2.2.2
theorem dX12_read_208 : decode cX12_read 208 = .ok (.goto 4, 3) := fp_hdX12_read_166.1.2.2.1.1.1
theorem dX12_read_211 : decode cX12_read 211 = .ok (.iconst 1, 1) := fp_hdX12_read_166.1.2.2.1.1.2
theorem dX12_read_212 : decode cX12_read 212 = .ok (.iadd, 1) := fp_hdX12_read_166.1.2.2.1.2.1
theorem dX12_read_213 : decode cX12_read 213 = .ok (.istore 6, 2) := fp_hdX12_read_166.1.2.2.1.2.2
theorem dX12_read_215 : decode cX12_read 215 = .ok (.iinc 8 1, 3) := fp_hdX12_read_166.1.2.2.2.1.1
theorem dX12_read_218 : decode cX12_read 218 = .ok (.goto (-167), 3) := fp_hdX12_read_166.1.2.2.2.1.2
theorem dX12_read_221 : decode cX12_read 221 = .ok (.iload 7, 2) := fp_hdX12_read_166.1.2.2.2.2.1
theorem dX12_read_223 : decode cX12_read 223 = .ok (.ifCond .eq 21, 3) := fp_hdX12_read_166.1.2.2.2.2.2
theorem fp_hdX12_read_226 : (((((decode cX12_read 226 = .ok (.aload_n 0, 1) ∧ decode cX12_read 227 = .ok (.getfield 7, 3)) ∧ decode cX12_read 230 = .ok (.bipush 95, 2)) ∧ (decode cX12_read 232 = .ok (.dup2, 1) ∧ decode cX12_read 233 = .ok (.iaload, 1))) ∧ ((decode cX12_read 234 = .ok (.iload 6, 2) ∧ decode cX12_read 236 = .ok (.isub, 1)) ∧ (decode cX12_read 237 = .ok (.iastore, 1) ∧ decode cX12_read 238 = .ok (.bipush (-20), 2)))) ∧ (((decode cX12_read 240 = .ok (.iload 6, 2) ∧ decode cX12_read 242 = .ok (.isub, 1)) ∧ (decode cX12_read 243 = .ok (.ireturn, 1) ∧ decode cX12_read 244 = .ok (.aload_n 0, 1))) ∧ ((decode cX12_read 245 = .ok (.iload 5, 2) ∧ decode cX12_read 247 = .ok (.putfield 330, 3)) ∧ (decode cX12_read 250 = .ok (.iload 6, 2) ∧ decode cX12_read 252 = .ok (.ireturn, 1))))) ∧ bA cX12_read 253 [] :=
  have q0 := fp_o42 fp_hdX12_read_166.2
  have q1 := fp_o180 (v := 7) q0.2 rfl
  have q2 := fp_o16 (v := 95) q1.2 rfl
  have q3 := fp_o92 q2.2
  have q4 := fp_o46 q3.2
  have q5 := fp_o21 q4.2
  have q6 := fp_o100 q5.2
  have q7 := fp_o79 q6.2
  have q8 := fp_o16 (v := (-20)) q7.2 rfl
  have q9 := fp_o21 q8.2
  have q10 := fp_o100 q9.2
  have q11 := fp_o172 q10.2
  have q12 := fp_o42 q11.2
  have q13 := fp_o21 q12.2
  have q14 := fp_o181 (v := 330) q13.2 rfl
  have q15 := fp_o21 q14.2
  have q16 := fp_o172 q15.2
  ⟨⟨⟨⟨⟨⟨q0.1, q1.1⟩, q2.1⟩, ⟨q3.1, q4.1⟩⟩, ⟨⟨q5.1, q6.1⟩, ⟨q7.1, q8.1⟩⟩⟩, ⟨⟨⟨q9.1, q10.1⟩, ⟨q11.1, q12.1⟩⟩, ⟨⟨q13.1, q14.1⟩, ⟨q15.1, q16.1⟩⟩⟩⟩, q16.2⟩
theorem dX12_read_226 : decode cX12_read 226 = .ok (.aload_n 0, 1) := fp_hdX12_read_226.1.1.1.1.1.1
theorem dX12_read_227 : decode cX12_read 227 = .ok (.getfield 7, 3) := fp_hdX12_read_226.1.1.1.1.1.2
theorem dX12_read_230 : decode cX12_read 230 = .ok (.bipush 95, 2) := fp_hdX12_read_226.1.1.1.1.2
theorem dX12_read_232 : decode cX12_read 232 = .ok (.dup2, 1) := fp_hdX12_read_226.1.1.1.2.1
theorem dX12_read_233 : decode cX12_read 233 = .ok (.iaload, 1) := fp_hdX12_read_226.1.1.1.2.2
theorem dX12_read_234 : decode cX12_read 234 = .ok (.iload 6, 2) := fp_hdX12_read_226.1.1.2.1.1
theorem dX12_read_236 : decode cX12_read 236 = .ok (.isub, 1) := fp_hdX12_read_226.1.1.2.1.2
theorem dX12_read_237 : decode cX12_read 237 = .ok (.iastore, 1) := fp_hdX12_read_226.1.1.2.2.1
theorem dX12_read_238 : decode cX12_read 238 = .ok (.bipush (-20), 2) := fp_hdX12_read_226.1.1.2.2.2
theorem dX12_read_240 : decode cX12_read 240 = .ok (.iload 6, 2) := fp_hdX12_read_226.1.2.1.1.1
theorem dX12_read_242 : decode cX12_read 242 = .ok (.isub, 1) := fp_hdX12_read_226.1.2.1.1.2
theorem dX12_read_243 : decode cX12_read 243 = .ok (.ireturn, 1) := fp_hdX12_read_226.1.2.1.2.1
theorem dX12_read_244 : decode cX12_read 244 = .ok (.aload_n 0, 1) := fp_hdX12_read_226.1.2.1.2.2
theorem dX12_read_245 : decode cX12_read 245 = .ok (.iload 5, 2) := fp_hdX12_read_226.1.2.2.1.1
theorem dX12_read_247 : decode cX12_read 247 = .ok (.putfield 330, 3) := fp_hdX12_read_226.1.2.2.1.2
theorem dX12_read_250 : decode cX12_read 250 = .ok (.iload 6, 2) := fp_hdX12_read_226.1.2.2.2.1
theorem dX12_read_252 : decode cX12_read 252 = .ok (.ireturn, 1) := fp_hdX12_read_226.1.2.2.2.2
def fp_scX12_torn_0 : List Nat := 42 :: 180 :: 1 :: 74 :: 172 :: []
theorem fp_bcX12_torn : bA cX12_torn 0 fp_scX12_torn_0 := show cX12_torn.data.toList.map UInt8.toNat = fp_scX12_torn_0 from by decide +kernel
theorem fp_hdX12_torn_0 : ((decode cX12_torn 0 = .ok (.aload_n 0, 1) ∧ decode cX12_torn 1 = .ok (.getfield 330, 3)) ∧ decode cX12_torn 4 = .ok (.ireturn, 1)) ∧ bA cX12_torn 5 [] :=
  have q0 := fp_o42 fp_bcX12_torn
  have q1 := fp_o180 (v := 330) q0.2 rfl
  have q2 := fp_o172 q1.2
  ⟨⟨⟨q0.1, q1.1⟩, q2.1⟩, q2.2⟩
theorem dX12_torn_0 : decode cX12_torn 0 = .ok (.aload_n 0, 1) := fp_hdX12_torn_0.1.1.1
theorem dX12_torn_1 : decode cX12_torn 1 = .ok (.getfield 330, 3) := fp_hdX12_torn_0.1.1.2
theorem dX12_torn_4 : decode cX12_torn 4 = .ok (.ireturn, 1) := fp_hdX12_torn_0.1.2
def fp_scX12_count_1 : List Nat := 96 :: 172 :: 42 :: 180 :: 0 :: 91 :: 172 :: 42 :: 180 :: 0 :: 82 :: 3 :: 46 :: 16 :: 252 :: 160 :: 0 :: 8 :: 16 :: 252 :: 167 :: 0 :: 9 :: 42 :: 180 :: 0 :: 85 :: 3 :: 46 :: 172 :: 2 :: 172 :: []
def fp_scX12_count_0 : List Nat := 27 :: 170 :: 0 :: 0 :: 0 :: 0 :: 0 :: 124 :: 0 :: 0 :: 0 :: 0 :: 0 :: 0 :: 0 :: 6 :: 0 :: 0 :: 0 :: 43 :: 0 :: 0 :: 0 :: 48 :: 0 :: 0 :: 0 :: 53 :: 0 :: 0 :: 0 :: 58 :: 0 :: 0 :: 0 :: 66 :: 0 :: 0 :: 0 :: 96 :: 0 :: 0 :: 0 :: 101 :: 42 :: 180 :: 0 :: 181 :: 172 :: 42 :: 180 :: 0 :: 184 :: 172 :: 42 :: 182 :: 0 :: 225 :: 172 :: 42 :: 180 :: 0 :: 7 :: 16 :: 104 :: 46 :: 172 :: 42 :: 180 :: 0 :: 78 :: 3 :: 51 :: 153 :: 0 :: 7 :: 4 :: 167 :: 0 :: 4 :: 3 :: 42 :: 180 :: 0 :: 78 :: 4 :: 51 :: 153 :: 0 :: 7 :: 4 :: 167 :: 0 :: 4 :: 3 :: fp_scX12_count_1
theorem fp_bcX12_count : bA cX12_count 0 fp_scX12_count_0 := show cX12_count.data.toList.map UInt8.toNat = fp_scX12_count_0 from by decide +kernel
theorem fp_hdX12_count_0 : (((((decode cX12_count 0 = .ok (.iload_n 1, 1) ∧ decode cX12_count 1 = .ok (.tableswitch 124 0 6 #[43, 48, 53, 58, 66, 96, 101], 43)) ∧ (decode cX12_count 44 = .ok (.aload_n 0, 1) ∧ decode cX12_count 45 = .ok (.getfield 181, 3))) ∧ ((decode cX12_count 48 = .ok (.ireturn, 1) ∧ decode cX12_count 49 = .ok (.aload_n 0, 1)) ∧ (decode cX12_count 50 = .ok (.getfield 184, 3) ∧ decode cX12_count 53 = .ok (.ireturn, 1)))) ∧ (((decode cX12_count 54 = .ok (.aload_n 0, 1) ∧ decode cX12_count 55 = .ok (.invokevirtual 225, 3)) ∧ (decode cX12_count 58 = .ok (.ireturn, 1) ∧ decode cX12_count 59 = .ok (.aload_n 0, 1))) ∧ ((decode cX12_count 60 = .ok (.getfield 7, 3) ∧ decode cX12_count 63 = .ok (.bipush 104, 2)) ∧ (decode cX12_count 65 = .ok (.iaload, 1) ∧ decode cX12_count 66 = .ok (.ireturn, 1))))) ∧ ((((decode cX12_count 67 = .ok (.aload_n 0, 1) ∧ decode cX12_count 68 = .ok (.getfield 78, 3)) ∧ (decode cX12_count 71 = .ok (.iconst 0, 1) ∧ decode cX12_count 72 = .ok (.baload, 1))) ∧ ((decode cX12_count 73 = .ok (.ifCond .eq 7, 3) ∧ decode cX12_count 76 = .ok (.iconst 1, 1)) ∧ (decode cX12_count 77 = .ok (.goto 4, 3) ∧ decode cX12_count 80 = .ok (.iconst 0, 1)))) ∧ (((decode cX12_count 81 = .ok (.aload_n 0, 1) ∧ decode cX12_count 82 = .ok (.getfield 78, 3)) ∧ (decode cX12_count 85 = .ok (.iconst 1, 1) ∧ decode cX12_count 86 = .ok (.baload, 1))) ∧ ((decode cX12_count 87 = .ok (.ifCond .eq 7, 3) ∧ decode cX12_count 90 = .ok (.iconst 1, 1)) ∧ (decode cX12_count 91 = .ok (.goto 4, 3) ∧ decode cX12_count 94 = .ok (.iconst 0, 1)))))) ∧ bA cX12_count 95 fp_scX12_count_1 :=
  have q0 := fp_o27 fp_bcX12_count
  have q1 : decode cX12_count 1 = .ok (.tableswitch 124 0 6 #[43, 48, 53, 58, 66, 96, 101], 43) ∧ bA cX12_count 44 (42 :: 180 :: 0 :: 181 :: 172 :: 42 :: 180 :: 0 :: 184 :: 172 :: 42 :: 182 :: 0 :: 225 :: 172 :: 42 :: 180 :: 0 :: 7 :: 16 :: 104 :: 46 :: 172 :: 42 :: 180 :: 0 :: 78 :: 3 :: 51 :: 153 :: 0 :: 7 :: 4 :: 167 :: 0 :: 4 :: 3 :: 42 :: 180 :: 0 :: 78 :: 4 :: 51 :: 153 :: 0 :: 7 :: 4 :: 167 :: 0 :: 4 :: 3 :: fp_scX12_count_1) := ⟨fp_dk (by decide +kernel), bA_skip 43 q0.2⟩
  have q2 := fp_o42 q1.2
  have q3 := fp_o180 (v := 181) q2.2 rfl
  have q4 := fp_o172 q3.2
  have q5 := fp_o42 q4.2
  have q6 := fp_o180 (v := 184) q5.2 rfl
  have q7 := fp_o172 q6.2
  have q8 := fp_o42 q7.2
  have q9 := fp_o182 (v := 225) q8.2 rfl
  have q10 := fp_o172 q9.2
  have q11 := fp_o42 q10.2
  have q12 := fp_o180 (v := 7) q11.2 rfl
  have q13 := fp_o16 (v := 104) q12.2 rfl
  have q14 := fp_o46 q13.2
  have q15 := fp_o172 q14.2
  have q16 := fp_o42 q15.2
  have q17 := fp_o180 (v := 78) q16.2 rfl
  have q18 := fp_o3 q17.2
  have q19 := fp_o51 q18.2
  have q20 := fp_o153 (v := 7) q19.2 rfl
  have q21 := fp_o4 q20.2
  have q22 := fp_o167 (v := 4) q21.2 rfl
  have q23 := fp_o3 q22.2
  have q24 := fp_o42 q23.2
  have q25 := fp_o180 (v := 78) q24.2 rfl
  have q26 := fp_o4 q25.2
  have q27 := fp_o51 q26.2
  have q28 := fp_o153 (v := 7) q27.2 rfl
  have q29 := fp_o4 q28.2
  have q30 := fp_o167 (v := 4) q29.2 rfl
  have q31 := fp_o3 q30.2
  ⟨⟨⟨⟨⟨⟨q0.1, q1.1⟩, ⟨q2.1, q3.1⟩⟩, ⟨⟨q4.1, q5.1⟩, ⟨q6.1, q7.1⟩⟩⟩, ⟨⟨⟨q8.1, q9.1⟩, ⟨q10.1, q11.1⟩⟩, ⟨⟨q12.1, q13.1⟩, ⟨q14.1, q15.1⟩⟩⟩⟩, ⟨⟨⟨⟨q16.1, q17.1⟩, ⟨q18.1, q19.1⟩⟩, ⟨⟨q20.1, q21.1⟩, ⟨q22.1, q23.1⟩⟩⟩, ⟨⟨⟨q24.1, q25.1⟩, ⟨q26.1, q27.1⟩⟩, ⟨⟨q28.1, q29.1⟩, ⟨q30.1, q31.1⟩⟩⟩⟩⟩, q31.2⟩
theorem dX12_count_0 : decode cX12_count 0 = .ok (.iload_n 1, 1) := fp_hdX12_count_0.1.1.1.1.1.1
theorem dX12_count_1 : decode cX12_count 1 = .ok (.tableswitch 124 0 6 #[43, 48, 53, 58, 66, 96, 101], 43) := fp_hdX12_count_0.1.1.1.1.1.2
theorem dX12_count_44 : decode cX12_count 44 = .ok (.aload_n 0, 1) := fp_hdX12_count_0.1.1.1.1.2.1
theorem dX12_count_45 : decode cX12_count 45 = .ok (.getfield 181, 3) := fp_hdX12_count_0.1.1.1.1.2.2
theorem dX12_count_48 : decode cX12_count 48 = .ok (.ireturn, 1) := fp_hdX12_count_0.1.1.1.2.1.1
theorem dX12_count_49 : decode cX12_count 49 = .ok (.aload_n 0, 1) := fp_hdX12_count_0.1.1.1.2.1.2
theorem dX12_count_50 : decode cX12_count 50 = .ok (.getfield 184, 3) := fp_hdX12_count_0.1.1.1.2.2.1
theorem dX12_count_53 : decode cX12_count 53 = .ok (.ireturn, 1) := fp_hdX12_count_0.1.1.1.2.2.2
theorem dX12_count_54 : decode cX12_count 54 = .ok (.aload_n 0, 1) := fp_hdX12_count_0.1.1.2.1.1.1
theorem dX12_count_55 : decode cX12_count 55 = .ok (.invokevirtual 225, 3) := fp_hdX12_count_0.1.1.2.1.1.2
theorem dX12_count_58 : decode cX12_count 58 = .ok (.ireturn, 1) := fp_hdX12_count_0.1.1.2.1.2.1
theorem dX12_count_59 : decode cX12_count 59 = .ok (.aload_n 0, 1) := fp_hdX12_count_0.1.1.2.1.2.2
theorem dX12_count_60 : decode cX12_count 60 = .ok (.getfield 7, 3) := fp_hdX12_count_0.1.1.2.2.1.1
theorem dX12_count_63 : decode cX12_count 63 = .ok (.bipush 104, 2) := fp_hdX12_count_0.1.1.2.2.1.2
theorem dX12_count_65 : decode cX12_count 65 = .ok (.iaload, 1) := fp_hdX12_count_0.1.1.2.2.2.1
theorem dX12_count_66 : decode cX12_count 66 = .ok (.ireturn, 1) := fp_hdX12_count_0.1.1.2.2.2.2
theorem dX12_count_67 : decode cX12_count 67 = .ok (.aload_n 0, 1) := fp_hdX12_count_0.1.2.1.1.1.1
theorem dX12_count_68 : decode cX12_count 68 = .ok (.getfield 78, 3) := fp_hdX12_count_0.1.2.1.1.1.2
theorem dX12_count_71 : decode cX12_count 71 = .ok (.iconst 0, 1) := fp_hdX12_count_0.1.2.1.1.2.1
theorem dX12_count_72 : decode cX12_count 72 = .ok (.baload, 1) := fp_hdX12_count_0.1.2.1.1.2.2
theorem dX12_count_73 : decode cX12_count 73 = .ok (.ifCond .eq 7, 3) := fp_hdX12_count_0.1.2.1.2.1.1
theorem dX12_count_76 : decode cX12_count 76 = .ok (.iconst 1, 1) := fp_hdX12_count_0.1.2.1.2.1.2
theorem dX12_count_77 : decode cX12_count 77 = .ok (.goto 4, 3) := fp_hdX12_count_0.1.2.1.2.2.1
theorem dX12_count_80 : decode cX12_count 80 = .ok (.iconst 0, 1) := fp_hdX12_count_0.1.2.1.2.2.2
theorem dX12_count_81 : decode cX12_count 81 = .ok (.aload_n 0, 1) := fp_hdX12_count_0.1.2.2.1.1.1
theorem dX12_count_82 : decode cX12_count 82 = .ok (.getfield 78, 3) := fp_hdX12_count_0.1.2.2.1.1.2
theorem dX12_count_85 : decode cX12_count 85 = .ok (.iconst 1, 1) := fp_hdX12_count_0.1.2.2.1.2.1
theorem dX12_count_86 : decode cX12_count 86 = .ok (.baload, 1) := fp_hdX12_count_0.1.2.2.1.2.2
theorem dX12_count_87 : decode cX12_count 87 = .ok (.ifCond .eq 7, 3) := fp_hdX12_count_0.1.2.2.2.1.1
theorem dX12_count_90 : decode cX12_count 90 = .ok (.iconst 1, 1) := fp_hdX12_count_0.1.2.2.2.1.2
theorem dX12_count_91 : decode cX12_count 91 = .ok (.goto 4, 3) := fp_hdX12_count_0.1.2.2.2.2.1
theorem dX12_count_94 : decode cX12_count 94 = .ok (.iconst 0, 1) := fp_hdX12_count_0.1.2.2.2.2.2
theorem fp_hdX12_count_95 : (((((decode cX12_count 95 = .ok (.iadd, 1) ∧ decode cX12_count 96 = .ok (.ireturn, 1)) ∧ decode cX12_count 97 = .ok (.aload_n 0, 1)) ∧ (decode cX12_count 98 = .ok (.getfield 91, 3) ∧ decode cX12_count 101 = .ok (.ireturn, 1))) ∧ (((decode cX12_count 102 = .ok (.aload_n 0, 1) ∧ decode cX12_count 103 = .ok (.getfield 82, 3)) ∧ decode cX12_count 106 = .ok (.iconst 0, 1)) ∧ (decode cX12_count 107 = .ok (.iaload, 1) ∧ decode cX12_count 108 = .ok (.bipush (-4), 2)))) ∧ ((((decode cX12_count 110 = .ok (.if_icmp .ne 8, 3) ∧ decode cX12_count 113 = .ok (.bipush (-4), 2)) ∧ decode cX12_count 115 = .ok (.goto 9, 3)) ∧ (decode cX12_count 118 = .ok (.aload_n 0, 1) ∧ decode cX12_count 119 = .ok (.getfield 85, 3))) ∧ (((decode cX12_count 122 = .ok (.iconst 0, 1) ∧ decode cX12_count 123 = .ok (.iaload, 1)) ∧ decode cX12_count 124 = .ok (.ireturn, 1)) ∧ (decode cX12_count 125 = .ok (.iconst (-1), 1) ∧ decode cX12_count 126 = .ok (.ireturn, 1))))) ∧ bA cX12_count 127 [] :=
  have q0 := fp_o96 fp_hdX12_count_0.2
  have q1 := fp_o172 q0.2
  have q2 := fp_o42 q1.2
  have q3 := fp_o180 (v := 91) q2.2 rfl
  have q4 := fp_o172 q3.2
  have q5 := fp_o42 q4.2
  have q6 := fp_o180 (v := 82) q5.2 rfl
  have q7 := fp_o3 q6.2
  have q8 := fp_o46 q7.2
  have q9 := fp_o16 (v := (-4)) q8.2 rfl
  have q10 := fp_o160 (v := 8) q9.2 rfl
  have q11 := fp_o16 (v := (-4)) q10.2 rfl
  have q12 := fp_o167 (v := 9) q11.2 rfl
  have q13 := fp_o42 q12.2
  have q14 := fp_o180 (v := 85) q13.2 rfl
  have q15 := fp_o3 q14.2
  have q16 := fp_o46 q15.2
  have q17 := fp_o172 q16.2
  have q18 := fp_o2 q17.2
  have q19 := fp_o172 q18.2
  ⟨⟨⟨⟨⟨⟨q0.1, q1.1⟩, q2.1⟩, ⟨q3.1, q4.1⟩⟩, ⟨⟨⟨q5.1, q6.1⟩, q7.1⟩, ⟨q8.1, q9.1⟩⟩⟩, ⟨⟨⟨⟨q10.1, q11.1⟩, q12.1⟩, ⟨q13.1, q14.1⟩⟩, ⟨⟨⟨q15.1, q16.1⟩, q17.1⟩, ⟨q18.1, q19.1⟩⟩⟩⟩, q19.2⟩
theorem dX12_count_95 : decode cX12_count 95 = .ok (.iadd, 1) := fp_hdX12_count_95.1.1.1.1.1.1
theorem dX12_count_96 : decode cX12_count 96 = .ok (.ireturn, 1) := fp_hdX12_count_95.1.1.1.1.1.2
theorem dX12_count_97 : decode cX12_count 97 = .ok (.aload_n 0, 1) := fp_hdX12_count_95.1.1.1.1.2
theorem dX12_count_98 : decode cX12_count 98 = .ok (.getfield 91, 3) := fp_hdX12_count_95.1.1.1.2.1
theorem dX12_count_101 : decode cX12_count 101 = .ok (.ireturn, 1) := fp_hdX12_count_95.1.1.1.2.2
theorem dX12_count_102 : decode cX12_count 102 = .ok (.aload_n 0, 1) := fp_hdX12_count_95.1.1.2.1.1.1
theorem dX12_count_103 : decode cX12_count 103 = .ok (.getfield 82, 3) := fp_hdX12_count_95.1.1.2.1.1.2
theorem dX12_count_106 : decode cX12_count 106 = .ok (.iconst 0, 1) := fp_hdX12_count_95.1.1.2.1.2
theorem dX12_count_107 : decode cX12_count 107 = .ok (.iaload, 1) := fp_hdX12_count_95.1.1.2.2.1
theorem dX12_count_108 : decode cX12_count 108 = .ok (.bipush (-4), 2) := fp_hdX12_count_95.1.1.2.2.2
theorem dX12_count_110 : decode cX12_count 110 = .ok (.if_icmp .ne 8, 3) := fp_hdX12_count_95.1.2.1.1.1.1
theorem dX12_count_113 : decode cX12_count 113 = .ok (.bipush (-4), 2) := fp_hdX12_count_95.1.2.1.1.1.2
theorem dX12_count_115 : decode cX12_count 115 = .ok (.goto 9, 3) := fp_hdX12_count_95.1.2.1.1.2
theorem dX12_count_118 : decode cX12_count 118 = .ok (.aload_n 0, 1) := fp_hdX12_count_95.1.2.1.2.1
theorem dX12_count_119 : decode cX12_count 119 = .ok (.getfield 85, 3) := fp_hdX12_count_95.1.2.1.2.2
theorem dX12_count_122 : decode cX12_count 122 = .ok (.iconst 0, 1) := fp_hdX12_count_95.1.2.2.1.1.1
theorem dX12_count_123 : decode cX12_count 123 = .ok (.iaload, 1) := fp_hdX12_count_95.1.2.2.1.1.2
theorem dX12_count_124 : decode cX12_count 124 = .ok (.ireturn, 1) := fp_hdX12_count_95.1.2.2.1.2
theorem dX12_count_125 : decode cX12_count 125 = .ok (.iconst (-1), 1) := fp_hdX12_count_95.1.2.2.2.1
theorem dX12_count_126 : decode cX12_count 126 = .ok (.ireturn, 1) := fp_hdX12_count_95.1.2.2.2.2
