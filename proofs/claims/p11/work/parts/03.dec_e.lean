theorem fp_hdX12_runs_33 : (((((fp_dq cX12_runs 33 (.iconst 1, 1) = true ∧ fp_dq cX12_runs 34 (.iload_n 3, 1) = true) ∧ (fp_dq cX12_runs 35 (.ishl, 1) = true ∧ fp_dq cX12_runs 36 (.ior, 1) = true)) ∧ ((fp_dq cX12_runs 37 (.istore_n 2, 1) = true ∧ fp_dq cX12_runs 38 (.iinc 3 1, 3) = true) ∧ (fp_dq cX12_runs 41 (.goto (-29), 3) = true ∧ fp_dq cX12_runs 44 (.iload_n 2, 1) = true))) ∧ (((fp_dq cX12_runs 45 (.ireturn, 1) = true ∧ fp_dq cX12_after 0 (.iload_n 1, 1) = true) ∧ (fp_dq cX12_after 1 (.i2l, 1) = true ∧ fp_dq cX12_after 2 (.lconst 0, 1) = true)) ∧ ((fp_dq cX12_after 3 (.aload_n 0, 1) = true ∧ fp_dq cX12_after 4 (.invokevirtual 225, 3) = true) ∧ (fp_dq cX12_after 7 (.i2l, 1) = true ∧ fp_dq cX12_after 8 (.invokestatic 94, 3) = true)))) ∧ ((((fp_dq cX12_after 11 (.ifCond .eq 11, 3) = true ∧ fp_dq cX12_after 14 (.aload_n 0, 1) = true) ∧ (fp_dq cX12_after 15 (.iload_n 2, 1) = true ∧ fp_dq cX12_after 16 (.invokevirtual 205, 3) = true)) ∧ ((fp_dq cX12_after 19 (.ifCond .ne 5, 3) = true ∧ fp_dq cX12_after 22 (.iconst (-1), 1) = true) ∧ (fp_dq cX12_after 23 (.ireturn, 1) = true ∧ fp_dq cX12_after 24 (.aload_n 0, 1) = true))) ∧ (((fp_dq cX12_after 25 (.iload_n 1, 1) = true ∧ fp_dq cX12_after 26 (.invokevirtual 268, 3) = true) ∧ (fp_dq cX12_after 29 (.pop, 1) = true ∧ fp_dq cX12_after 30 (.aload_n 0, 1) = true)) ∧ ((fp_dq cX12_after 31 (.getfield 7, 3) = true ∧ fp_dq cX12_after 34 (.sipush 360, 3) = true) ∧ (fp_dq cX12_after 37 (.iload_n 2, 1) = true ∧ fp_dq cX12_after 38 (.iadd, 1) = true))))) := by decide +kernel
theorem dX12_runs_33 : decode cX12_runs 33 = .ok (.iconst 1, 1) := fp_dk fp_hdX12_runs_33.1.1.1.1.1
theorem dX12_runs_34 : decode cX12_runs 34 = .ok (.iload_n 3, 1) := fp_dk fp_hdX12_runs_33.1.1.1.1.2
theorem dX12_runs_35 : decode cX12_runs 35 = .ok (.ishl, 1) := fp_dk fp_hdX12_runs_33.1.1.1.2.1
theorem dX12_runs_36 : decode cX12_runs 36 = .ok (.ior, 1) := fp_dk fp_hdX12_runs_33.1.1.1.2.2
theorem dX12_runs_37 : decode cX12_runs 37 = .ok (.istore_n 2, 1) := fp_dk fp_hdX12_runs_33.1.1.2.1.1
theorem dX12_runs_38 : decode cX12_runs 38 = .ok (.iinc 3 1, 3) := fp_dk fp_hdX12_runs_33.1.1.2.1.2
theorem dX12_runs_41 : decode cX12_runs 41 = .ok (.goto (-29), 3) := fp_dk fp_hdX12_runs_33.1.1.2.2.1
theorem dX12_runs_44 : decode cX12_runs 44 = .ok (.iload_n 2, 1) := fp_dk fp_hdX12_runs_33.1.1.2.2.2
theorem dX12_runs_45 : decode cX12_runs 45 = .ok (.ireturn, 1) := fp_dk fp_hdX12_runs_33.1.2.1.1.1
theorem dX12_after_0 : decode cX12_after 0 = .ok (.iload_n 1, 1) := fp_dk fp_hdX12_runs_33.1.2.1.1.2
theorem dX12_after_1 : decode cX12_after 1 = .ok (.i2l, 1) := fp_dk fp_hdX12_runs_33.1.2.1.2.1
theorem dX12_after_2 : decode cX12_after 2 = .ok (.lconst 0, 1) := fp_dk fp_hdX12_runs_33.1.2.1.2.2
theorem dX12_after_3 : decode cX12_after 3 = .ok (.aload_n 0, 1) := fp_dk fp_hdX12_runs_33.1.2.2.1.1
theorem dX12_after_4 : decode cX12_after 4 = .ok (.invokevirtual 225, 3) := fp_dk fp_hdX12_runs_33.1.2.2.1.2
theorem dX12_after_7 : decode cX12_after 7 = .ok (.i2l, 1) := fp_dk fp_hdX12_runs_33.1.2.2.2.1
theorem dX12_after_8 : decode cX12_after 8 = .ok (.invokestatic 94, 3) := fp_dk fp_hdX12_runs_33.1.2.2.2.2
theorem dX12_after_11 : decode cX12_after 11 = .ok (.ifCond .eq 11, 3) := fp_dk fp_hdX12_runs_33.2.1.1.1.1
theorem dX12_after_14 : decode cX12_after 14 = .ok (.aload_n 0, 1) := fp_dk fp_hdX12_runs_33.2.1.1.1.2
theorem dX12_after_15 : decode cX12_after 15 = .ok (.iload_n 2, 1) := fp_dk fp_hdX12_runs_33.2.1.1.2.1
theorem dX12_after_16 : decode cX12_after 16 = .ok (.invokevirtual 205, 3) := fp_dk fp_hdX12_runs_33.2.1.1.2.2
theorem dX12_after_19 : decode cX12_after 19 = .ok (.ifCond .ne 5, 3) := fp_dk fp_hdX12_runs_33.2.1.2.1.1
theorem dX12_after_22 : decode cX12_after 22 = .ok (.iconst (-1), 1) := fp_dk fp_hdX12_runs_33.2.1.2.1.2
theorem dX12_after_23 : decode cX12_after 23 = .ok (.ireturn, 1) := fp_dk fp_hdX12_runs_33.2.1.2.2.1
theorem dX12_after_24 : decode cX12_after 24 = .ok (.aload_n 0, 1) := fp_dk fp_hdX12_runs_33.2.1.2.2.2
theorem dX12_after_25 : decode cX12_after 25 = .ok (.iload_n 1, 1) := fp_dk fp_hdX12_runs_33.2.2.1.1.1
theorem dX12_after_26 : decode cX12_after 26 = .ok (.invokevirtual 268, 3) := fp_dk fp_hdX12_runs_33.2.2.1.1.2
theorem dX12_after_29 : decode cX12_after 29 = .ok (.pop, 1) := fp_dk fp_hdX12_runs_33.2.2.1.2.1
theorem dX12_after_30 : decode cX12_after 30 = .ok (.aload_n 0, 1) := fp_dk fp_hdX12_runs_33.2.2.1.2.2
theorem dX12_after_31 : decode cX12_after 31 = .ok (.getfield 7, 3) := fp_dk fp_hdX12_runs_33.2.2.2.1.1
theorem dX12_after_34 : decode cX12_after 34 = .ok (.sipush 360, 3) := fp_dk fp_hdX12_runs_33.2.2.2.1.2
theorem dX12_after_37 : decode cX12_after 37 = .ok (.iload_n 2, 1) := fp_dk fp_hdX12_runs_33.2.2.2.2.1
theorem dX12_after_38 : decode cX12_after 38 = .ok (.iadd, 1) := fp_dk fp_hdX12_runs_33.2.2.2.2.2
theorem fp_hdX12_after_39 : (((((fp_dq cX12_after 39 (.iaload, 1) = true ∧ fp_dq cX12_after 40 (.ireturn, 1) = true) ∧ (fp_dq cX12_gains 0 (.iload_n 1, 1) = true ∧ fp_dq cX12_gains 1 (.i2l, 1) = true)) ∧ ((fp_dq cX12_gains 2 (.lconst 0, 1) = true ∧ fp_dq cX12_gains 3 (.aload_n 0, 1) = true) ∧ (fp_dq cX12_gains 4 (.invokevirtual 225, 3) = true ∧ fp_dq cX12_gains 7 (.i2l, 1) = true))) ∧ (((fp_dq cX12_gains 8 (.invokestatic 94, 3) = true ∧ fp_dq cX12_gains 11 (.ifCond .eq 10, 3) = true) ∧ (fp_dq cX12_gains 14 (.iload_n 2, 1) = true ∧ fp_dq cX12_gains 15 (.invokestatic 228, 3) = true)) ∧ ((fp_dq cX12_gains 18 (.ifCond .ne 5, 3) = true ∧ fp_dq cX12_gains 21 (.iconst (-1), 1) = true) ∧ (fp_dq cX12_gains 22 (.ireturn, 1) = true ∧ fp_dq cX12_gains 23 (.aload_n 0, 1) = true)))) ∧ ((((fp_dq cX12_gains 24 (.iload_n 1, 1) = true ∧ fp_dq cX12_gains 25 (.invokevirtual 268, 3) = true) ∧ (fp_dq cX12_gains 28 (.pop, 1) = true ∧ fp_dq cX12_gains 29 (.aload_n 0, 1) = true)) ∧ ((fp_dq cX12_gains 30 (.sipush 360, 3) = true ∧ fp_dq cX12_gains 33 (.iload_n 2, 1) = true) ∧ (fp_dq cX12_gains 34 (.invokevirtual 234, 3) = true ∧ fp_dq cX12_gains 37 (.ireturn, 1) = true))) ∧ (((fp_dq cX12_vain 0 (.aload_n 0, 1) = true ∧ fp_dq cX12_vain 1 (.aload_n 0, 1) = true) ∧ (fp_dq cX12_vain 2 (.invokevirtual 225, 3) = true ∧ fp_dq cX12_vain 5 (.invokevirtual 268, 3) = true)) ∧ ((fp_dq cX12_vain 8 (.ireturn, 1) = true ∧ fp_dq cX12_lost 0 (.iload_n 1, 1) = true) ∧ (fp_dq cX12_lost 1 (.invokestatic 228, 3) = true ∧ fp_dq cX12_lost 4 (.ifCond .ne 5, 3) = true))))) := by decide +kernel
theorem dX12_after_39 : decode cX12_after 39 = .ok (.iaload, 1) := fp_dk fp_hdX12_after_39.1.1.1.1.1
theorem dX12_after_40 : decode cX12_after 40 = .ok (.ireturn, 1) := fp_dk fp_hdX12_after_39.1.1.1.1.2
theorem dX12_gains_0 : decode cX12_gains 0 = .ok (.iload_n 1, 1) := fp_dk fp_hdX12_after_39.1.1.1.2.1
theorem dX12_gains_1 : decode cX12_gains 1 = .ok (.i2l, 1) := fp_dk fp_hdX12_after_39.1.1.1.2.2
theorem dX12_gains_2 : decode cX12_gains 2 = .ok (.lconst 0, 1) := fp_dk fp_hdX12_after_39.1.1.2.1.1
theorem dX12_gains_3 : decode cX12_gains 3 = .ok (.aload_n 0, 1) := fp_dk fp_hdX12_after_39.1.1.2.1.2
theorem dX12_gains_4 : decode cX12_gains 4 = .ok (.invokevirtual 225, 3) := fp_dk fp_hdX12_after_39.1.1.2.2.1
theorem dX12_gains_7 : decode cX12_gains 7 = .ok (.i2l, 1) := fp_dk fp_hdX12_after_39.1.1.2.2.2
theorem dX12_gains_8 : decode cX12_gains 8 = .ok (.invokestatic 94, 3) := fp_dk fp_hdX12_after_39.1.2.1.1.1
theorem dX12_gains_11 : decode cX12_gains 11 = .ok (.ifCond .eq 10, 3) := fp_dk fp_hdX12_after_39.1.2.1.1.2
theorem dX12_gains_14 : decode cX12_gains 14 = .ok (.iload_n 2, 1) := fp_dk fp_hdX12_after_39.1.2.1.2.1
theorem dX12_gains_15 : decode cX12_gains 15 = .ok (.invokestatic 228, 3) := fp_dk fp_hdX12_after_39.1.2.1.2.2
theorem dX12_gains_18 : decode cX12_gains 18 = .ok (.ifCond .ne 5, 3) := fp_dk fp_hdX12_after_39.1.2.2.1.1
theorem dX12_gains_21 : decode cX12_gains 21 = .ok (.iconst (-1), 1) := fp_dk fp_hdX12_after_39.1.2.2.1.2
theorem dX12_gains_22 : decode cX12_gains 22 = .ok (.ireturn, 1) := fp_dk fp_hdX12_after_39.1.2.2.2.1
theorem dX12_gains_23 : decode cX12_gains 23 = .ok (.aload_n 0, 1) := fp_dk fp_hdX12_after_39.1.2.2.2.2
theorem dX12_gains_24 : decode cX12_gains 24 = .ok (.iload_n 1, 1) := fp_dk fp_hdX12_after_39.2.1.1.1.1
theorem dX12_gains_25 : decode cX12_gains 25 = .ok (.invokevirtual 268, 3) := fp_dk fp_hdX12_after_39.2.1.1.1.2
theorem dX12_gains_28 : decode cX12_gains 28 = .ok (.pop, 1) := fp_dk fp_hdX12_after_39.2.1.1.2.1
theorem dX12_gains_29 : decode cX12_gains 29 = .ok (.aload_n 0, 1) := fp_dk fp_hdX12_after_39.2.1.1.2.2
theorem dX12_gains_30 : decode cX12_gains 30 = .ok (.sipush 360, 3) := fp_dk fp_hdX12_after_39.2.1.2.1.1
theorem dX12_gains_33 : decode cX12_gains 33 = .ok (.iload_n 2, 1) := fp_dk fp_hdX12_after_39.2.1.2.1.2
theorem dX12_gains_34 : decode cX12_gains 34 = .ok (.invokevirtual 234, 3) := fp_dk fp_hdX12_after_39.2.1.2.2.1
theorem dX12_gains_37 : decode cX12_gains 37 = .ok (.ireturn, 1) := fp_dk fp_hdX12_after_39.2.1.2.2.2
theorem dX12_vain_0 : decode cX12_vain 0 = .ok (.aload_n 0, 1) := fp_dk fp_hdX12_after_39.2.2.1.1.1
theorem dX12_vain_1 : decode cX12_vain 1 = .ok (.aload_n 0, 1) := fp_dk fp_hdX12_after_39.2.2.1.1.2
theorem dX12_vain_2 : decode cX12_vain 2 = .ok (.invokevirtual 225, 3) := fp_dk fp_hdX12_after_39.2.2.1.2.1
theorem dX12_vain_5 : decode cX12_vain 5 = .ok (.invokevirtual 268, 3) := fp_dk fp_hdX12_after_39.2.2.1.2.2
theorem dX12_vain_8 : decode cX12_vain 8 = .ok (.ireturn, 1) := fp_dk fp_hdX12_after_39.2.2.2.1.1
theorem dX12_lost_0 : decode cX12_lost 0 = .ok (.iload_n 1, 1) := fp_dk fp_hdX12_after_39.2.2.2.1.2
theorem dX12_lost_1 : decode cX12_lost 1 = .ok (.invokestatic 228, 3) := fp_dk fp_hdX12_after_39.2.2.2.2.1
theorem dX12_lost_4 : decode cX12_lost 4 = .ok (.ifCond .ne 5, 3) := fp_dk fp_hdX12_after_39.2.2.2.2.2
theorem fp_hdX12_lost_7 : (((((fp_dq cX12_lost 7 (.iconst (-1), 1) = true ∧ fp_dq cX12_lost 8 (.ireturn, 1) = true) ∧ (fp_dq cX12_lost 9 (.aload_n 0, 1) = true ∧ fp_dq cX12_lost 10 (.iconst 0, 1) = true)) ∧ ((fp_dq cX12_lost 11 (.iload_n 1, 1) = true ∧ fp_dq cX12_lost 12 (.invokevirtual 231, 3) = true) ∧ (fp_dq cX12_lost 15 (.istore_n 2, 1) = true ∧ fp_dq cX12_lost 16 (.aload_n 0, 1) = true))) ∧ (((fp_dq cX12_lost 17 (.aload_n 0, 1) = true ∧ fp_dq cX12_lost 18 (.invokevirtual 225, 3) = true) ∧ (fp_dq cX12_lost 21 (.invokevirtual 268, 3) = true ∧ fp_dq cX12_lost 24 (.istore_n 3, 1) = true)) ∧ ((fp_dq cX12_lost 25 (.iconst 0, 1) = true ∧ fp_dq cX12_lost 26 (.istore 4, 2) = true) ∧ (fp_dq cX12_lost 28 (.iload 4, 2) = true ∧ fp_dq cX12_lost 30 (.aload_n 0, 1) = true)))) ∧ ((((fp_dq cX12_lost 31 (.invokevirtual 225, 3) = true ∧ fp_dq cX12_lost 34 (.if_icmp .ge 82, 3) = true) ∧ (fp_dq cX12_lost 37 (.aload_n 0, 1) = true ∧ fp_dq cX12_lost 38 (.getfield 7, 3) = true)) ∧ ((fp_dq cX12_lost 41 (.bipush 47, 2) = true ∧ fp_dq cX12_lost 43 (.iconst 4, 1) = true) ∧ (fp_dq cX12_lost 44 (.iload 4, 2) = true ∧ fp_dq cX12_lost 46 (.imul, 1) = true))) ∧ (((fp_dq cX12_lost 47 (.iadd, 1) = true ∧ fp_dq cX12_lost 48 (.iconst 3, 1) = true) ∧ (fp_dq cX12_lost 49 (.iadd, 1) = true ∧ fp_dq cX12_lost 50 (.iaload, 1) = true)) ∧ ((fp_dq cX12_lost 51 (.istore 5, 2) = true ∧ fp_dq cX12_lost 53 (.iload 5, 2) = true) ∧ (fp_dq cX12_lost 55 (.bipush (-4), 2) = true ∧ fp_dq cX12_lost 57 (.if_icmp .eq 34, 3) = true))))) := by decide +kernel
theorem dX12_lost_7 : decode cX12_lost 7 = .ok (.iconst (-1), 1) := fp_dk fp_hdX12_lost_7.1.1.1.1.1
theorem dX12_lost_8 : decode cX12_lost 8 = .ok (.ireturn, 1) := fp_dk fp_hdX12_lost_7.1.1.1.1.2
theorem dX12_lost_9 : decode cX12_lost 9 = .ok (.aload_n 0, 1) := fp_dk fp_hdX12_lost_7.1.1.1.2.1
theorem dX12_lost_10 : decode cX12_lost 10 = .ok (.iconst 0, 1) := fp_dk fp_hdX12_lost_7.1.1.1.2.2
theorem dX12_lost_11 : decode cX12_lost 11 = .ok (.iload_n 1, 1) := fp_dk fp_hdX12_lost_7.1.1.2.1.1
theorem dX12_lost_12 : decode cX12_lost 12 = .ok (.invokevirtual 231, 3) := fp_dk fp_hdX12_lost_7.1.1.2.1.2
theorem dX12_lost_15 : decode cX12_lost 15 = .ok (.istore_n 2, 1) := fp_dk fp_hdX12_lost_7.1.1.2.2.1
theorem dX12_lost_16 : decode cX12_lost 16 = .ok (.aload_n 0, 1) := fp_dk fp_hdX12_lost_7.1.1.2.2.2
theorem dX12_lost_17 : decode cX12_lost 17 = .ok (.aload_n 0, 1) := fp_dk fp_hdX12_lost_7.1.2.1.1.1
theorem dX12_lost_18 : decode cX12_lost 18 = .ok (.invokevirtual 225, 3) := fp_dk fp_hdX12_lost_7.1.2.1.1.2
theorem dX12_lost_21 : decode cX12_lost 21 = .ok (.invokevirtual 268, 3) := fp_dk fp_hdX12_lost_7.1.2.1.2.1
theorem dX12_lost_24 : decode cX12_lost 24 = .ok (.istore_n 3, 1) := fp_dk fp_hdX12_lost_7.1.2.1.2.2
theorem dX12_lost_25 : decode cX12_lost 25 = .ok (.iconst 0, 1) := fp_dk fp_hdX12_lost_7.1.2.2.1.1
theorem dX12_lost_26 : decode cX12_lost 26 = .ok (.istore 4, 2) := fp_dk fp_hdX12_lost_7.1.2.2.1.2
theorem dX12_lost_28 : decode cX12_lost 28 = .ok (.iload 4, 2) := fp_dk fp_hdX12_lost_7.1.2.2.2.1
theorem dX12_lost_30 : decode cX12_lost 30 = .ok (.aload_n 0, 1) := fp_dk fp_hdX12_lost_7.1.2.2.2.2
theorem dX12_lost_31 : decode cX12_lost 31 = .ok (.invokevirtual 225, 3) := fp_dk fp_hdX12_lost_7.2.1.1.1.1
theorem dX12_lost_34 : decode cX12_lost 34 = .ok (.if_icmp .ge 82, 3) := fp_dk fp_hdX12_lost_7.2.1.1.1.2
theorem dX12_lost_37 : decode cX12_lost 37 = .ok (.aload_n 0, 1) := fp_dk fp_hdX12_lost_7.2.1.1.2.1
theorem dX12_lost_38 : decode cX12_lost 38 = .ok (.getfield 7, 3) := fp_dk fp_hdX12_lost_7.2.1.1.2.2
theorem dX12_lost_41 : decode cX12_lost 41 = .ok (.bipush 47, 2) := fp_dk fp_hdX12_lost_7.2.1.2.1.1
theorem dX12_lost_43 : decode cX12_lost 43 = .ok (.iconst 4, 1) := fp_dk fp_hdX12_lost_7.2.1.2.1.2
theorem dX12_lost_44 : decode cX12_lost 44 = .ok (.iload 4, 2) := fp_dk fp_hdX12_lost_7.2.1.2.2.1
theorem dX12_lost_46 : decode cX12_lost 46 = .ok (.imul, 1) := fp_dk fp_hdX12_lost_7.2.1.2.2.2
theorem dX12_lost_47 : decode cX12_lost 47 = .ok (.iadd, 1) := fp_dk fp_hdX12_lost_7.2.2.1.1.1
theorem dX12_lost_48 : decode cX12_lost 48 = .ok (.iconst 3, 1) := fp_dk fp_hdX12_lost_7.2.2.1.1.2
theorem dX12_lost_49 : decode cX12_lost 49 = .ok (.iadd, 1) := fp_dk fp_hdX12_lost_7.2.2.1.2.1
theorem dX12_lost_50 : decode cX12_lost 50 = .ok (.iaload, 1) := fp_dk fp_hdX12_lost_7.2.2.1.2.2
theorem dX12_lost_51 : decode cX12_lost 51 = .ok (.istore 5, 2) := fp_dk fp_hdX12_lost_7.2.2.2.1.1
theorem dX12_lost_53 : decode cX12_lost 53 = .ok (.iload 5, 2) := fp_dk fp_hdX12_lost_7.2.2.2.1.2
theorem dX12_lost_55 : decode cX12_lost 55 = .ok (.bipush (-4), 2) := fp_dk fp_hdX12_lost_7.2.2.2.2.1
theorem dX12_lost_57 : decode cX12_lost 57 = .ok (.if_icmp .eq 34, 3) := fp_dk fp_hdX12_lost_7.2.2.2.2.2
theorem fp_hdX12_lost_60 : (((((fp_dq cX12_lost 60 (.aload_n 0, 1) = true ∧ fp_dq cX12_lost 61 (.getfield 7, 3) = true) ∧ (fp_dq cX12_lost 64 (.bipush 47, 2) = true ∧ fp_dq cX12_lost 66 (.iconst 4, 1) = true)) ∧ ((fp_dq cX12_lost 67 (.iload 4, 2) = true ∧ fp_dq cX12_lost 69 (.imul, 1) = true) ∧ (fp_dq cX12_lost 70 (.iadd, 1) = true ∧ fp_dq cX12_lost 71 (.iconst 1, 1) = true))) ∧ (((fp_dq cX12_lost 72 (.iadd, 1) = true ∧ fp_dq cX12_lost 73 (.iaload, 1) = true) ∧ (fp_dq cX12_lost 74 (.iload_n 1, 1) = true ∧ fp_dq cX12_lost 75 (.if_icmp .ne 16, 3) = true)) ∧ ((fp_dq cX12_lost 78 (.iload_n 3, 1) = true ∧ fp_dq cX12_lost 79 (.iload 4, 2) = true) ∧ (fp_dq cX12_lost 81 (.ishr, 1) = true ∧ fp_dq cX12_lost 82 (.iconst 1, 1) = true)))) ∧ ((((fp_dq cX12_lost 83 (.iand, 1) = true ∧ fp_dq cX12_lost 84 (.ifCond .ne 7, 3) = true) ∧ (fp_dq cX12_lost 87 (.iconst 1, 1) = true ∧ fp_dq cX12_lost 88 (.goto 4, 3) = true)) ∧ ((fp_dq cX12_lost 91 (.iconst 0, 1) = true ∧ fp_dq cX12_lost 92 (.istore 6, 2) = true) ∧ (fp_dq cX12_lost 94 (.iload_n 2, 1) = true ∧ fp_dq cX12_lost 95 (.iload 6, 2) = true))) ∧ (((fp_dq cX12_lost 97 (.ifCond .eq 10, 3) = true ∧ fp_dq cX12_lost 100 (.iconst 1, 1) = true) ∧ (fp_dq cX12_lost 101 (.iload 5, 2) = true ∧ fp_dq cX12_lost 103 (.ishl, 1) = true)) ∧ ((fp_dq cX12_lost 104 (.goto 4, 3) = true ∧ fp_dq cX12_lost 107 (.iconst 0, 1) = true) ∧ (fp_dq cX12_lost 108 (.ior, 1) = true ∧ fp_dq cX12_lost 109 (.istore_n 2, 1) = true))))) := by decide +kernel
theorem dX12_lost_60 : decode cX12_lost 60 = .ok (.aload_n 0, 1) := fp_dk fp_hdX12_lost_60.1.1.1.1.1
theorem dX12_lost_61 : decode cX12_lost 61 = .ok (.getfield 7, 3) := fp_dk fp_hdX12_lost_60.1.1.1.1.2
theorem dX12_lost_64 : decode cX12_lost 64 = .ok (.bipush 47, 2) := fp_dk fp_hdX12_lost_60.1.1.1.2.1
theorem dX12_lost_66 : decode cX12_lost 66 = .ok (.iconst 4, 1) := fp_dk fp_hdX12_lost_60.1.1.1.2.2
theorem dX12_lost_67 : decode cX12_lost 67 = .ok (.iload 4, 2) := fp_dk fp_hdX12_lost_60.1.1.2.1.1
theorem dX12_lost_69 : decode cX12_lost 69 = .ok (.imul, 1) := fp_dk fp_hdX12_lost_60.1.1.2.1.2
theorem dX12_lost_70 : decode cX12_lost 70 = .ok (.iadd, 1) := fp_dk fp_hdX12_lost_60.1.1.2.2.1
theorem dX12_lost_71 : decode cX12_lost 71 = .ok (.iconst 1, 1) := fp_dk fp_hdX12_lost_60.1.1.2.2.2
theorem dX12_lost_72 : decode cX12_lost 72 = .ok (.iadd, 1) := fp_dk fp_hdX12_lost_60.1.2.1.1.1
theorem dX12_lost_73 : decode cX12_lost 73 = .ok (.iaload, 1) := fp_dk fp_hdX12_lost_60.1.2.1.1.2
theorem dX12_lost_74 : decode cX12_lost 74 = .ok (.iload_n 1, 1) := fp_dk fp_hdX12_lost_60.1.2.1.2.1
theorem dX12_lost_75 : decode cX12_lost 75 = .ok (.if_icmp .ne 16, 3) := fp_dk fp_hdX12_lost_60.1.2.1.2.2
theorem dX12_lost_78 : decode cX12_lost 78 = .ok (.iload_n 3, 1) := fp_dk fp_hdX12_lost_60.1.2.2.1.1
theorem dX12_lost_79 : decode cX12_lost 79 = .ok (.iload 4, 2) := fp_dk fp_hdX12_lost_60.1.2.2.1.2
theorem dX12_lost_81 : decode cX12_lost 81 = .ok (.ishr, 1) := fp_dk fp_hdX12_lost_60.1.2.2.2.1
theorem dX12_lost_82 : decode cX12_lost 82 = .ok (.iconst 1, 1) := fp_dk fp_hdX12_lost_60.1.2.2.2.2
theorem dX12_lost_83 : decode cX12_lost 83 = .ok (.iand, 1) := fp_dk fp_hdX12_lost_60.2.1.1.1.1
theorem dX12_lost_84 : decode cX12_lost 84 = .ok (.ifCond .ne 7, 3) := fp_dk fp_hdX12_lost_60.2.1.1.1.2
theorem dX12_lost_87 : decode cX12_lost 87 = .ok (.iconst 1, 1) := fp_dk fp_hdX12_lost_60.2.1.1.2.1
theorem dX12_lost_88 : decode cX12_lost 88 = .ok (.goto 4, 3) := fp_dk fp_hdX12_lost_60.2.1.1.2.2
theorem dX12_lost_91 : decode cX12_lost 91 = .ok (.iconst 0, 1) := fp_dk fp_hdX12_lost_60.2.1.2.1.1
theorem dX12_lost_92 : decode cX12_lost 92 = .ok (.istore 6, 2) := fp_dk fp_hdX12_lost_60.2.1.2.1.2
theorem dX12_lost_94 : decode cX12_lost 94 = .ok (.iload_n 2, 1) := fp_dk fp_hdX12_lost_60.2.1.2.2.1
theorem dX12_lost_95 : decode cX12_lost 95 = .ok (.iload 6, 2) := fp_dk fp_hdX12_lost_60.2.1.2.2.2
theorem dX12_lost_97 : decode cX12_lost 97 = .ok (.ifCond .eq 10, 3) := fp_dk fp_hdX12_lost_60.2.2.1.1.1
theorem dX12_lost_100 : decode cX12_lost 100 = .ok (.iconst 1, 1) := fp_dk fp_hdX12_lost_60.2.2.1.1.2
theorem dX12_lost_101 : decode cX12_lost 101 = .ok (.iload 5, 2) := fp_dk fp_hdX12_lost_60.2.2.1.2.1
theorem dX12_lost_103 : decode cX12_lost 103 = .ok (.ishl, 1) := fp_dk fp_hdX12_lost_60.2.2.1.2.2
theorem dX12_lost_104 : decode cX12_lost 104 = .ok (.goto 4, 3) := fp_dk fp_hdX12_lost_60.2.2.2.1.1
theorem dX12_lost_107 : decode cX12_lost 107 = .ok (.iconst 0, 1) := fp_dk fp_hdX12_lost_60.2.2.2.1.2
theorem dX12_lost_108 : decode cX12_lost 108 = .ok (.ior, 1) := fp_dk fp_hdX12_lost_60.2.2.2.2.1
theorem dX12_lost_109 : decode cX12_lost 109 = .ok (.istore_n 2, 1) := fp_dk fp_hdX12_lost_60.2.2.2.2.2
theorem fp_hdX12_lost_110 : (((((fp_dq cX12_lost 110 (.iinc 4 1, 3) = true ∧ fp_dq cX12_lost 113 (.goto (-85), 3) = true) ∧ (fp_dq cX12_lost 116 (.iconst 0, 1) = true ∧ fp_dq cX12_lost 117 (.istore 4, 2) = true)) ∧ ((fp_dq cX12_lost 119 (.iconst 0, 1) = true ∧ fp_dq cX12_lost 120 (.istore 5, 2) = true) ∧ (fp_dq cX12_lost 122 (.iload 5, 2) = true ∧ fp_dq cX12_lost 124 (.iconst 4, 1) = true))) ∧ (((fp_dq cX12_lost 125 (.if_icmp .ge 33, 3) = true ∧ fp_dq cX12_lost 128 (.iload 4, 2) = true) ∧ (fp_dq cX12_lost 130 (.iload 5, 2) = true ∧ fp_dq cX12_lost 132 (.iload_n 1, 1) = true)) ∧ ((fp_dq cX12_lost 133 (.if_icmp .ne 7, 3) = true ∧ fp_dq cX12_lost 136 (.iconst 0, 1) = true) ∧ (fp_dq cX12_lost 137 (.goto 12, 3) = true ∧ fp_dq cX12_lost 140 (.aload_n 0, 1) = true)))) ∧ ((((fp_dq cX12_lost 141 (.sipush 360, 3) = true ∧ fp_dq cX12_lost 144 (.iload 5, 2) = true) ∧ (fp_dq cX12_lost 146 (.invokevirtual 231, 3) = true ∧ fp_dq cX12_lost 149 (.ior, 1) = true)) ∧ ((fp_dq cX12_lost 150 (.istore 4, 2) = true ∧ fp_dq cX12_lost 152 (.iinc 5 1, 3) = true) ∧ (fp_dq cX12_lost 155 (.goto (-33), 3) = true ∧ fp_dq cX12_lost 158 (.iload_n 2, 1) = true))) ∧ (((fp_dq cX12_lost 159 (.iload 4, 2) = true ∧ fp_dq cX12_lost 161 (.iand, 1) = true) ∧ (fp_dq cX12_lost 162 (.ireturn, 1) = true ∧ fp_dq cX12_since 0 (.iload_n 1, 1) = true)) ∧ ((fp_dq cX12_since 1 (.invokestatic 228, 3) = true ∧ fp_dq cX12_since 4 (.ifCond .eq 11, 3) = true) ∧ (fp_dq cX12_since 7 (.aload_n 0, 1) = true ∧ fp_dq cX12_since 8 (.iload_n 2, 1) = true))))) := by decide +kernel
theorem dX12_lost_110 : decode cX12_lost 110 = .ok (.iinc 4 1, 3) := fp_dk fp_hdX12_lost_110.1.1.1.1.1
theorem dX12_lost_113 : decode cX12_lost 113 = .ok (.goto (-85), 3) := fp_dk fp_hdX12_lost_110.1.1.1.1.2
theorem dX12_lost_116 : decode cX12_lost 116 = .ok (.iconst 0, 1) := fp_dk fp_hdX12_lost_110.1.1.1.2.1
theorem dX12_lost_117 : decode cX12_lost 117 = .ok (.istore 4, 2) := fp_dk fp_hdX12_lost_110.1.1.1.2.2
theorem dX12_lost_119 : decode cX12_lost 119 = .ok (.iconst 0, 1) := fp_dk fp_hdX12_lost_110.1.1.2.1.1
theorem dX12_lost_120 : decode cX12_lost 120 = .ok (.istore 5, 2) := fp_dk fp_hdX12_lost_110.1.1.2.1.2
theorem dX12_lost_122 : decode cX12_lost 122 = .ok (.iload 5, 2) := fp_dk fp_hdX12_lost_110.1.1.2.2.1
theorem dX12_lost_124 : decode cX12_lost 124 = .ok (.iconst 4, 1) := fp_dk fp_hdX12_lost_110.1.1.2.2.2
theorem dX12_lost_125 : decode cX12_lost 125 = .ok (.if_icmp .ge 33, 3) := fp_dk fp_hdX12_lost_110.1.2.1.1.1
theorem dX12_lost_128 : decode cX12_lost 128 = .ok (.iload 4, 2) := fp_dk fp_hdX12_lost_110.1.2.1.1.2
theorem dX12_lost_130 : decode cX12_lost 130 = .ok (.iload 5, 2) := fp_dk fp_hdX12_lost_110.1.2.1.2.1
theorem dX12_lost_132 : decode cX12_lost 132 = .ok (.iload_n 1, 1) := fp_dk fp_hdX12_lost_110.1.2.1.2.2
theorem dX12_lost_133 : decode cX12_lost 133 = .ok (.if_icmp .ne 7, 3) := fp_dk fp_hdX12_lost_110.1.2.2.1.1
theorem dX12_lost_136 : decode cX12_lost 136 = .ok (.iconst 0, 1) := fp_dk fp_hdX12_lost_110.1.2.2.1.2
theorem dX12_lost_137 : decode cX12_lost 137 = .ok (.goto 12, 3) := fp_dk fp_hdX12_lost_110.1.2.2.2.1
theorem dX12_lost_140 : decode cX12_lost 140 = .ok (.aload_n 0, 1) := fp_dk fp_hdX12_lost_110.1.2.2.2.2
theorem dX12_lost_141 : decode cX12_lost 141 = .ok (.sipush 360, 3) := fp_dk fp_hdX12_lost_110.2.1.1.1.1
theorem dX12_lost_144 : decode cX12_lost 144 = .ok (.iload 5, 2) := fp_dk fp_hdX12_lost_110.2.1.1.1.2
theorem dX12_lost_146 : decode cX12_lost 146 = .ok (.invokevirtual 231, 3) := fp_dk fp_hdX12_lost_110.2.1.1.2.1
theorem dX12_lost_149 : decode cX12_lost 149 = .ok (.ior, 1) := fp_dk fp_hdX12_lost_110.2.1.1.2.2
theorem dX12_lost_150 : decode cX12_lost 150 = .ok (.istore 4, 2) := fp_dk fp_hdX12_lost_110.2.1.2.1.1
theorem dX12_lost_152 : decode cX12_lost 152 = .ok (.iinc 5 1, 3) := fp_dk fp_hdX12_lost_110.2.1.2.1.2
theorem dX12_lost_155 : decode cX12_lost 155 = .ok (.goto (-33), 3) := fp_dk fp_hdX12_lost_110.2.1.2.2.1
theorem dX12_lost_158 : decode cX12_lost 158 = .ok (.iload_n 2, 1) := fp_dk fp_hdX12_lost_110.2.1.2.2.2
theorem dX12_lost_159 : decode cX12_lost 159 = .ok (.iload 4, 2) := fp_dk fp_hdX12_lost_110.2.2.1.1.1
theorem dX12_lost_161 : decode cX12_lost 161 = .ok (.iand, 1) := fp_dk fp_hdX12_lost_110.2.2.1.1.2
theorem dX12_lost_162 : decode cX12_lost 162 = .ok (.ireturn, 1) := fp_dk fp_hdX12_lost_110.2.2.1.2.1
theorem dX12_since_0 : decode cX12_since 0 = .ok (.iload_n 1, 1) := fp_dk fp_hdX12_lost_110.2.2.1.2.2
theorem dX12_since_1 : decode cX12_since 1 = .ok (.invokestatic 228, 3) := fp_dk fp_hdX12_lost_110.2.2.2.1.1
theorem dX12_since_4 : decode cX12_since 4 = .ok (.ifCond .eq 11, 3) := fp_dk fp_hdX12_lost_110.2.2.2.1.2
theorem dX12_since_7 : decode cX12_since 7 = .ok (.aload_n 0, 1) := fp_dk fp_hdX12_lost_110.2.2.2.2.1
theorem dX12_since_8 : decode cX12_since 8 = .ok (.iload_n 2, 1) := fp_dk fp_hdX12_lost_110.2.2.2.2.2
theorem fp_hdX12_since_9 : (((((fp_dq cX12_since 9 (.invokevirtual 205, 3) = true ∧ fp_dq cX12_since 12 (.ifCond .ne 5, 3) = true) ∧ (fp_dq cX12_since 15 (.iconst (-1), 1) = true ∧ fp_dq cX12_since 16 (.ireturn, 1) = true)) ∧ ((fp_dq cX12_since 17 (.aload_n 0, 1) = true ∧ fp_dq cX12_since 18 (.getfield 7, 3) = true) ∧ (fp_dq cX12_since 21 (.iload_n 2, 1) = true ∧ fp_dq cX12_since 22 (.iaload, 1) = true))) ∧ (((fp_dq cX12_since 23 (.iload_n 1, 1) = true ∧ fp_dq cX12_since 24 (.if_icmp .ne 6, 3) = true) ∧ (fp_dq cX12_since 27 (.bipush (-2), 2) = true ∧ fp_dq cX12_since 29 (.ireturn, 1) = true)) ∧ ((fp_dq cX12_since 30 (.aload_n 0, 1) = true ∧ fp_dq cX12_since 31 (.iconst 0, 1) = true) ∧ (fp_dq cX12_since 32 (.sipush 360, 3) = true ∧ fp_dq cX12_since 35 (.invokevirtual 265, 3) = true)))) ∧ ((((fp_dq cX12_since 38 (.iconst 0, 1) = true ∧ fp_dq cX12_since 39 (.istore_n 3, 1) = true) ∧ (fp_dq cX12_since 40 (.iload_n 3, 1) = true ∧ fp_dq cX12_since 41 (.aload_n 0, 1) = true)) ∧ ((fp_dq cX12_since 42 (.invokevirtual 225, 3) = true ∧ fp_dq cX12_since 45 (.if_icmp .ge 34, 3) = true) ∧ (fp_dq cX12_since 48 (.aload_n 0, 1) = true ∧ fp_dq cX12_since 49 (.sipush 360, 3) = true))) ∧ (((fp_dq cX12_since 52 (.iload_n 3, 1) = true ∧ fp_dq cX12_since 53 (.invokevirtual 261, 3) = true) ∧ (fp_dq cX12_since 56 (.pop, 1) = true ∧ fp_dq cX12_since 57 (.aload_n 0, 1) = true)) ∧ ((fp_dq cX12_since 58 (.getfield 7, 3) = true ∧ fp_dq cX12_since 61 (.sipush 360, 3) = true) ∧ (fp_dq cX12_since 64 (.iload_n 2, 1) = true ∧ fp_dq cX12_since 65 (.iadd, 1) = true))))) := by decide +kernel
theorem dX12_since_9 : decode cX12_since 9 = .ok (.invokevirtual 205, 3) := fp_dk fp_hdX12_since_9.1.1.1.1.1
theorem dX12_since_12 : decode cX12_since 12 = .ok (.ifCond .ne 5, 3) := fp_dk fp_hdX12_since_9.1.1.1.1.2
theorem dX12_since_15 : decode cX12_since 15 = .ok (.iconst (-1), 1) := fp_dk fp_hdX12_since_9.1.1.1.2.1
theorem dX12_since_16 : decode cX12_since 16 = .ok (.ireturn, 1) := fp_dk fp_hdX12_since_9.1.1.1.2.2
theorem dX12_since_17 : decode cX12_since 17 = .ok (.aload_n 0, 1) := fp_dk fp_hdX12_since_9.1.1.2.1.1
theorem dX12_since_18 : decode cX12_since 18 = .ok (.getfield 7, 3) := fp_dk fp_hdX12_since_9.1.1.2.1.2
theorem dX12_since_21 : decode cX12_since 21 = .ok (.iload_n 2, 1) := fp_dk fp_hdX12_since_9.1.1.2.2.1
theorem dX12_since_22 : decode cX12_since 22 = .ok (.iaload, 1) := fp_dk fp_hdX12_since_9.1.1.2.2.2
theorem dX12_since_23 : decode cX12_since 23 = .ok (.iload_n 1, 1) := fp_dk fp_hdX12_since_9.1.2.1.1.1
theorem dX12_since_24 : decode cX12_since 24 = .ok (.if_icmp .ne 6, 3) := fp_dk fp_hdX12_since_9.1.2.1.1.2
theorem dX12_since_27 : decode cX12_since 27 = .ok (.bipush (-2), 2) := fp_dk fp_hdX12_since_9.1.2.1.2.1
theorem dX12_since_29 : decode cX12_since 29 = .ok (.ireturn, 1) := fp_dk fp_hdX12_since_9.1.2.1.2.2
theorem dX12_since_30 : decode cX12_since 30 = .ok (.aload_n 0, 1) := fp_dk fp_hdX12_since_9.1.2.2.1.1
theorem dX12_since_31 : decode cX12_since 31 = .ok (.iconst 0, 1) := fp_dk fp_hdX12_since_9.1.2.2.1.2
theorem dX12_since_32 : decode cX12_since 32 = .ok (.sipush 360, 3) := fp_dk fp_hdX12_since_9.1.2.2.2.1
theorem dX12_since_35 : decode cX12_since 35 = .ok (.invokevirtual 265, 3) := fp_dk fp_hdX12_since_9.1.2.2.2.2
theorem dX12_since_38 : decode cX12_since 38 = .ok (.iconst 0, 1) := fp_dk fp_hdX12_since_9.2.1.1.1.1
theorem dX12_since_39 : decode cX12_since 39 = .ok (.istore_n 3, 1) := fp_dk fp_hdX12_since_9.2.1.1.1.2
theorem dX12_since_40 : decode cX12_since 40 = .ok (.iload_n 3, 1) := fp_dk fp_hdX12_since_9.2.1.1.2.1
theorem dX12_since_41 : decode cX12_since 41 = .ok (.aload_n 0, 1) := fp_dk fp_hdX12_since_9.2.1.1.2.2
theorem dX12_since_42 : decode cX12_since 42 = .ok (.invokevirtual 225, 3) := fp_dk fp_hdX12_since_9.2.1.2.1.1
theorem dX12_since_45 : decode cX12_since 45 = .ok (.if_icmp .ge 34, 3) := fp_dk fp_hdX12_since_9.2.1.2.1.2
theorem dX12_since_48 : decode cX12_since 48 = .ok (.aload_n 0, 1) := fp_dk fp_hdX12_since_9.2.1.2.2.1
theorem dX12_since_49 : decode cX12_since 49 = .ok (.sipush 360, 3) := fp_dk fp_hdX12_since_9.2.1.2.2.2
theorem dX12_since_52 : decode cX12_since 52 = .ok (.iload_n 3, 1) := fp_dk fp_hdX12_since_9.2.2.1.1.1
theorem dX12_since_53 : decode cX12_since 53 = .ok (.invokevirtual 261, 3) := fp_dk fp_hdX12_since_9.2.2.1.1.2
theorem dX12_since_56 : decode cX12_since 56 = .ok (.pop, 1) := fp_dk fp_hdX12_since_9.2.2.1.2.1
theorem dX12_since_57 : decode cX12_since 57 = .ok (.aload_n 0, 1) := fp_dk fp_hdX12_since_9.2.2.1.2.2
theorem dX12_since_58 : decode cX12_since 58 = .ok (.getfield 7, 3) := fp_dk fp_hdX12_since_9.2.2.2.1.1
theorem dX12_since_61 : decode cX12_since 61 = .ok (.sipush 360, 3) := fp_dk fp_hdX12_since_9.2.2.2.1.2
theorem dX12_since_64 : decode cX12_since 64 = .ok (.iload_n 2, 1) := fp_dk fp_hdX12_since_9.2.2.2.2.1
theorem dX12_since_65 : decode cX12_since 65 = .ok (.iadd, 1) := fp_dk fp_hdX12_since_9.2.2.2.2.2
theorem fp_hdX12_since_66 : (((((fp_dq cX12_since 66 (.iaload, 1) = true ∧ fp_dq cX12_since 67 (.iload_n 1, 1) = true) ∧ (fp_dq cX12_since 68 (.if_icmp .ne 5, 3) = true ∧ fp_dq cX12_since 71 (.iload_n 3, 1) = true)) ∧ ((fp_dq cX12_since 72 (.ireturn, 1) = true ∧ fp_dq cX12_since 73 (.iinc 3 1, 3) = true) ∧ (fp_dq cX12_since 76 (.goto (-36), 3) = true ∧ fp_dq cX12_since 79 (.bipush (-4), 2) = true))) ∧ (((fp_dq cX12_since 81 (.ireturn, 1) = true ∧ fp_dq cX12_extra 0 (.iload_n 1, 1) = true) ∧ (fp_dq cX12_extra 1 (.invokestatic 228, 3) = true ∧ fp_dq cX12_extra 4 (.ifCond .eq 21, 3) = true)) ∧ ((fp_dq cX12_extra 7 (.aload_n 0, 1) = true ∧ fp_dq cX12_extra 8 (.iload_n 2, 1) = true) ∧ (fp_dq cX12_extra 9 (.invokevirtual 219, 3) = true ∧ fp_dq cX12_extra 12 (.ifCond .eq 13, 3) = true)))) ∧ ((((fp_dq cX12_extra 15 (.iload_n 3, 1) = true ∧ fp_dq cX12_extra 16 (.i2l, 1) = true) ∧ (fp_dq cX12_extra 17 (.lconst 0, 1) = true ∧ fp_dq cX12_extra 18 (.lconst 1, 1) = true)) ∧ ((fp_dq cX12_extra 19 (.invokestatic 94, 3) = true ∧ fp_dq cX12_extra 22 (.ifCond .ne 5, 3) = true) ∧ (fp_dq cX12_extra 25 (.iconst (-1), 1) = true ∧ fp_dq cX12_extra 26 (.ireturn, 1) = true))) ∧ (((fp_dq cX12_extra 27 (.bipush (-4), 2) = true ∧ fp_dq cX12_extra 29 (.istore 4, 2) = true) ∧ (fp_dq cX12_extra 31 (.bipush (-4), 2) = true ∧ fp_dq cX12_extra 33 (.istore 5, 2) = true)) ∧ ((fp_dq cX12_extra 35 (.iconst 0, 1) = true ∧ fp_dq cX12_extra 36 (.istore 6, 2) = true) ∧ (fp_dq cX12_extra 38 (.iload 6, 2) = true ∧ fp_dq cX12_extra 40 (.aload_n 0, 1) = true))))) := by decide +kernel
theorem dX12_since_66 : decode cX12_since 66 = .ok (.iaload, 1) := fp_dk fp_hdX12_since_66.1.1.1.1.1
theorem dX12_since_67 : decode cX12_since 67 = .ok (.iload_n 1, 1) := fp_dk fp_hdX12_since_66.1.1.1.1.2
theorem dX12_since_68 : decode cX12_since 68 = .ok (.if_icmp .ne 5, 3) := fp_dk fp_hdX12_since_66.1.1.1.2.1
theorem dX12_since_71 : decode cX12_since 71 = .ok (.iload_n 3, 1) := fp_dk fp_hdX12_since_66.1.1.1.2.2
theorem dX12_since_72 : decode cX12_since 72 = .ok (.ireturn, 1) := fp_dk fp_hdX12_since_66.1.1.2.1.1
theorem dX12_since_73 : decode cX12_since 73 = .ok (.iinc 3 1, 3) := fp_dk fp_hdX12_since_66.1.1.2.1.2
theorem dX12_since_76 : decode cX12_since 76 = .ok (.goto (-36), 3) := fp_dk fp_hdX12_since_66.1.1.2.2.1
theorem dX12_since_79 : decode cX12_since 79 = .ok (.bipush (-4), 2) := fp_dk fp_hdX12_since_66.1.1.2.2.2
theorem dX12_since_81 : decode cX12_since 81 = .ok (.ireturn, 1) := fp_dk fp_hdX12_since_66.1.2.1.1.1
theorem dX12_extra_0 : decode cX12_extra 0 = .ok (.iload_n 1, 1) := fp_dk fp_hdX12_since_66.1.2.1.1.2
theorem dX12_extra_1 : decode cX12_extra 1 = .ok (.invokestatic 228, 3) := fp_dk fp_hdX12_since_66.1.2.1.2.1
theorem dX12_extra_4 : decode cX12_extra 4 = .ok (.ifCond .eq 21, 3) := fp_dk fp_hdX12_since_66.1.2.1.2.2
theorem dX12_extra_7 : decode cX12_extra 7 = .ok (.aload_n 0, 1) := fp_dk fp_hdX12_since_66.1.2.2.1.1
theorem dX12_extra_8 : decode cX12_extra 8 = .ok (.iload_n 2, 1) := fp_dk fp_hdX12_since_66.1.2.2.1.2
theorem dX12_extra_9 : decode cX12_extra 9 = .ok (.invokevirtual 219, 3) := fp_dk fp_hdX12_since_66.1.2.2.2.1
theorem dX12_extra_12 : decode cX12_extra 12 = .ok (.ifCond .eq 13, 3) := fp_dk fp_hdX12_since_66.1.2.2.2.2
theorem dX12_extra_15 : decode cX12_extra 15 = .ok (.iload_n 3, 1) := fp_dk fp_hdX12_since_66.2.1.1.1.1
theorem dX12_extra_16 : decode cX12_extra 16 = .ok (.i2l, 1) := fp_dk fp_hdX12_since_66.2.1.1.1.2
theorem dX12_extra_17 : decode cX12_extra 17 = .ok (.lconst 0, 1) := fp_dk fp_hdX12_since_66.2.1.1.2.1
theorem dX12_extra_18 : decode cX12_extra 18 = .ok (.lconst 1, 1) := fp_dk fp_hdX12_since_66.2.1.1.2.2
theorem dX12_extra_19 : decode cX12_extra 19 = .ok (.invokestatic 94, 3) := fp_dk fp_hdX12_since_66.2.1.2.1.1
theorem dX12_extra_22 : decode cX12_extra 22 = .ok (.ifCond .ne 5, 3) := fp_dk fp_hdX12_since_66.2.1.2.1.2
theorem dX12_extra_25 : decode cX12_extra 25 = .ok (.iconst (-1), 1) := fp_dk fp_hdX12_since_66.2.1.2.2.1
theorem dX12_extra_26 : decode cX12_extra 26 = .ok (.ireturn, 1) := fp_dk fp_hdX12_since_66.2.1.2.2.2
theorem dX12_extra_27 : decode cX12_extra 27 = .ok (.bipush (-4), 2) := fp_dk fp_hdX12_since_66.2.2.1.1.1
theorem dX12_extra_29 : decode cX12_extra 29 = .ok (.istore 4, 2) := fp_dk fp_hdX12_since_66.2.2.1.1.2
theorem dX12_extra_31 : decode cX12_extra 31 = .ok (.bipush (-4), 2) := fp_dk fp_hdX12_since_66.2.2.1.2.1
theorem dX12_extra_33 : decode cX12_extra 33 = .ok (.istore 5, 2) := fp_dk fp_hdX12_since_66.2.2.1.2.2
theorem dX12_extra_35 : decode cX12_extra 35 = .ok (.iconst 0, 1) := fp_dk fp_hdX12_since_66.2.2.2.1.1
theorem dX12_extra_36 : decode cX12_extra 36 = .ok (.istore 6, 2) := fp_dk fp_hdX12_since_66.2.2.2.1.2
theorem dX12_extra_38 : decode cX12_extra 38 = .ok (.iload 6, 2) := fp_dk fp_hdX12_since_66.2.2.2.2.1
theorem dX12_extra_40 : decode cX12_extra 40 = .ok (.aload_n 0, 1) := fp_dk fp_hdX12_since_66.2.2.2.2.2
theorem fp_hdX12_extra_41 : (((((fp_dq cX12_extra 41 (.invokevirtual 225, 3) = true ∧ fp_dq cX12_extra 44 (.if_icmp .gt 83, 3) = true) ∧ (fp_dq cX12_extra 47 (.aload_n 0, 1) = true ∧ fp_dq cX12_extra 48 (.iload 6, 2) = true)) ∧ ((fp_dq cX12_extra 50 (.invokevirtual 268, 3) = true ∧ fp_dq cX12_extra 53 (.pop, 1) = true) ∧ (fp_dq cX12_extra 54 (.aload_n 0, 1) = true ∧ fp_dq cX12_extra 55 (.sipush 360, 3) = true))) ∧ (((fp_dq cX12_extra 58 (.iload_n 2, 1) = true ∧ fp_dq cX12_extra 59 (.invokevirtual 222, 3) = true) ∧ (fp_dq cX12_extra 62 (.istore 7, 2) = true ∧ fp_dq cX12_extra 64 (.iload 7, 2) = true)) ∧ ((fp_dq cX12_extra 66 (.bipush (-4), 2) = true ∧ fp_dq cX12_extra 68 (.if_icmp .ne 8, 3) = true) ∧ (fp_dq cX12_extra 71 (.bipush (-4), 2) = true ∧ fp_dq cX12_extra 73 (.goto 14, 3) = true)))) ∧ ((((fp_dq cX12_extra 76 (.aload_n 0, 1) = true ∧ fp_dq cX12_extra 77 (.getfield 16, 3) = true) ∧ (fp_dq cX12_extra 80 (.iconst 4, 1) = true ∧ fp_dq cX12_extra 81 (.iload 7, 2) = true)) ∧ ((fp_dq cX12_extra 83 (.imul, 1) = true ∧ fp_dq cX12_extra 84 (.iload_n 1, 1) = true) ∧ (fp_dq cX12_extra 85 (.iadd, 1) = true ∧ fp_dq cX12_extra 86 (.iaload, 1) = true))) ∧ (((fp_dq cX12_extra 87 (.istore 8, 2) = true ∧ fp_dq cX12_extra 89 (.iload 8, 2) = true) ∧ (fp_dq cX12_extra 91 (.iload 4, 2) = true ∧ fp_dq cX12_extra 93 (.if_icmp .le 8, 3) = true)) ∧ ((fp_dq cX12_extra 96 (.iload 6, 2) = true ∧ fp_dq cX12_extra 98 (.goto 5, 3) = true) ∧ (fp_dq cX12_extra 101 (.iload 5, 2) = true ∧ fp_dq cX12_extra 103 (.istore 5, 2) = true))))) := by decide +kernel
theorem dX12_extra_41 : decode cX12_extra 41 = .ok (.invokevirtual 225, 3) := fp_dk fp_hdX12_extra_41.1.1.1.1.1
theorem dX12_extra_44 : decode cX12_extra 44 = .ok (.if_icmp .gt 83, 3) := fp_dk fp_hdX12_extra_41.1.1.1.1.2
theorem dX12_extra_47 : decode cX12_extra 47 = .ok (.aload_n 0, 1) := fp_dk fp_hdX12_extra_41.1.1.1.2.1
theorem dX12_extra_48 : decode cX12_extra 48 = .ok (.iload 6, 2) := fp_dk fp_hdX12_extra_41.1.1.1.2.2
theorem dX12_extra_50 : decode cX12_extra 50 = .ok (.invokevirtual 268, 3) := fp_dk fp_hdX12_extra_41.1.1.2.1.1
theorem dX12_extra_53 : decode cX12_extra 53 = .ok (.pop, 1) := fp_dk fp_hdX12_extra_41.1.1.2.1.2
theorem dX12_extra_54 : decode cX12_extra 54 = .ok (.aload_n 0, 1) := fp_dk fp_hdX12_extra_41.1.1.2.2.1
theorem dX12_extra_55 : decode cX12_extra 55 = .ok (.sipush 360, 3) := fp_dk fp_hdX12_extra_41.1.1.2.2.2
theorem dX12_extra_58 : decode cX12_extra 58 = .ok (.iload_n 2, 1) := fp_dk fp_hdX12_extra_41.1.2.1.1.1
theorem dX12_extra_59 : decode cX12_extra 59 = .ok (.invokevirtual 222, 3) := fp_dk fp_hdX12_extra_41.1.2.1.1.2
theorem dX12_extra_62 : decode cX12_extra 62 = .ok (.istore 7, 2) := fp_dk fp_hdX12_extra_41.1.2.1.2.1
theorem dX12_extra_64 : decode cX12_extra 64 = .ok (.iload 7, 2) := fp_dk fp_hdX12_extra_41.1.2.1.2.2
theorem dX12_extra_66 : decode cX12_extra 66 = .ok (.bipush (-4), 2) := fp_dk fp_hdX12_extra_41.1.2.2.1.1
theorem dX12_extra_68 : decode cX12_extra 68 = .ok (.if_icmp .ne 8, 3) := fp_dk fp_hdX12_extra_41.1.2.2.1.2
theorem dX12_extra_71 : decode cX12_extra 71 = .ok (.bipush (-4), 2) := fp_dk fp_hdX12_extra_41.1.2.2.2.1
theorem dX12_extra_73 : decode cX12_extra 73 = .ok (.goto 14, 3) := fp_dk fp_hdX12_extra_41.1.2.2.2.2
theorem dX12_extra_76 : decode cX12_extra 76 = .ok (.aload_n 0, 1) := fp_dk fp_hdX12_extra_41.2.1.1.1.1
theorem dX12_extra_77 : decode cX12_extra 77 = .ok (.getfield 16, 3) := fp_dk fp_hdX12_extra_41.2.1.1.1.2
theorem dX12_extra_80 : decode cX12_extra 80 = .ok (.iconst 4, 1) := fp_dk fp_hdX12_extra_41.2.1.1.2.1
theorem dX12_extra_81 : decode cX12_extra 81 = .ok (.iload 7, 2) := fp_dk fp_hdX12_extra_41.2.1.1.2.2
theorem dX12_extra_83 : decode cX12_extra 83 = .ok (.imul, 1) := fp_dk fp_hdX12_extra_41.2.1.2.1.1
theorem dX12_extra_84 : decode cX12_extra 84 = .ok (.iload_n 1, 1) := fp_dk fp_hdX12_extra_41.2.1.2.1.2
theorem dX12_extra_85 : decode cX12_extra 85 = .ok (.iadd, 1) := fp_dk fp_hdX12_extra_41.2.1.2.2.1
theorem dX12_extra_86 : decode cX12_extra 86 = .ok (.iaload, 1) := fp_dk fp_hdX12_extra_41.2.1.2.2.2
theorem dX12_extra_87 : decode cX12_extra 87 = .ok (.istore 8, 2) := fp_dk fp_hdX12_extra_41.2.2.1.1.1
theorem dX12_extra_89 : decode cX12_extra 89 = .ok (.iload 8, 2) := fp_dk fp_hdX12_extra_41.2.2.1.1.2
theorem dX12_extra_91 : decode cX12_extra 91 = .ok (.iload 4, 2) := fp_dk fp_hdX12_extra_41.2.2.1.2.1
theorem dX12_extra_93 : decode cX12_extra 93 = .ok (.if_icmp .le 8, 3) := fp_dk fp_hdX12_extra_41.2.2.1.2.2
theorem dX12_extra_96 : decode cX12_extra 96 = .ok (.iload 6, 2) := fp_dk fp_hdX12_extra_41.2.2.2.1.1
theorem dX12_extra_98 : decode cX12_extra 98 = .ok (.goto 5, 3) := fp_dk fp_hdX12_extra_41.2.2.2.1.2
theorem dX12_extra_101 : decode cX12_extra 101 = .ok (.iload 5, 2) := fp_dk fp_hdX12_extra_41.2.2.2.2.1
theorem dX12_extra_103 : decode cX12_extra 103 = .ok (.istore 5, 2) := fp_dk fp_hdX12_extra_41.2.2.2.2.2
theorem fp_hdX12_extra_105 : (((((fp_dq cX12_extra 105 (.iload 8, 2) = true ∧ fp_dq cX12_extra 107 (.iload 4, 2) = true) ∧ (fp_dq cX12_extra 109 (.if_icmp .le 8, 3) = true ∧ fp_dq cX12_extra 112 (.iload 8, 2) = true)) ∧ ((fp_dq cX12_extra 114 (.goto 5, 3) = true ∧ fp_dq cX12_extra 117 (.iload 4, 2) = true) ∧ (fp_dq cX12_extra 119 (.istore 4, 2) = true ∧ fp_dq cX12_extra 121 (.iinc 6 1, 3) = true))) ∧ (((fp_dq cX12_extra 124 (.goto (-86), 3) = true ∧ fp_dq cX12_extra 127 (.iload 5, 2) = true) ∧ (fp_dq cX12_extra 129 (.bipush (-4), 2) = true ∧ fp_dq cX12_extra 131 (.if_icmp .eq 8, 3) = true)) ∧ ((fp_dq cX12_extra 134 (.iload_n 3, 1) = true ∧ fp_dq cX12_extra 135 (.iconst 1, 1) = true) ∧ (fp_dq cX12_extra 136 (.if_icmp .ne 8, 3) = true ∧ fp_dq cX12_extra 139 (.iload 5, 2) = true)))) ∧ ((((fp_dq cX12_extra 141 (.goto 5, 3) = true ∧ fp_dq cX12_extra 144 (.iload 4, 2) = true) ∧ (fp_dq cX12_extra 146 (.ireturn, 1) = true ∧ fp_dq cX12_aim 0 (.aload_n 0, 1) = true)) ∧ ((fp_dq cX12_aim 1 (.iload_n 1, 1) = true ∧ fp_dq cX12_aim 2 (.invokevirtual 205, 3) = true) ∧ (fp_dq cX12_aim 5 (.ifCond .eq 13, 3) = true ∧ fp_dq cX12_aim 8 (.iload_n 2, 1) = true))) ∧ (((fp_dq cX12_aim 9 (.i2l, 1) = true ∧ fp_dq cX12_aim 10 (.lconst 0, 1) = true) ∧ (fp_dq cX12_aim 11 (.lconst 1, 1) = true ∧ fp_dq cX12_aim 12 (.invokestatic 94, 3) = true)) ∧ ((fp_dq cX12_aim 15 (.ifCond .ne 5, 3) = true ∧ fp_dq cX12_aim 18 (.iconst (-1), 1) = true) ∧ (fp_dq cX12_aim 19 (.ireturn, 1) = true ∧ fp_dq cX12_aim 20 (.iconst 0, 1) = true))))) := by decide +kernel
theorem dX12_extra_105 : decode cX12_extra 105 = .ok (.iload 8, 2) := fp_dk fp_hdX12_extra_105.1.1.1.1.1
theorem dX12_extra_107 : decode cX12_extra 107 = .ok (.iload 4, 2) := fp_dk fp_hdX12_extra_105.1.1.1.1.2
theorem dX12_extra_109 : decode cX12_extra 109 = .ok (.if_icmp .le 8, 3) := fp_dk fp_hdX12_extra_105.1.1.1.2.1
theorem dX12_extra_112 : decode cX12_extra 112 = .ok (.iload 8, 2) := fp_dk fp_hdX12_extra_105.1.1.1.2.2
theorem dX12_extra_114 : decode cX12_extra 114 = .ok (.goto 5, 3) := fp_dk fp_hdX12_extra_105.1.1.2.1.1
theorem dX12_extra_117 : decode cX12_extra 117 = .ok (.iload 4, 2) := fp_dk fp_hdX12_extra_105.1.1.2.1.2
theorem dX12_extra_119 : decode cX12_extra 119 = .ok (.istore 4, 2) := fp_dk fp_hdX12_extra_105.1.1.2.2.1
theorem dX12_extra_121 : decode cX12_extra 121 = .ok (.iinc 6 1, 3) := fp_dk fp_hdX12_extra_105.1.1.2.2.2
theorem dX12_extra_124 : decode cX12_extra 124 = .ok (.goto (-86), 3) := fp_dk fp_hdX12_extra_105.1.2.1.1.1
theorem dX12_extra_127 : decode cX12_extra 127 = .ok (.iload 5, 2) := fp_dk fp_hdX12_extra_105.1.2.1.1.2
theorem dX12_extra_129 : decode cX12_extra 129 = .ok (.bipush (-4), 2) := fp_dk fp_hdX12_extra_105.1.2.1.2.1
theorem dX12_extra_131 : decode cX12_extra 131 = .ok (.if_icmp .eq 8, 3) := fp_dk fp_hdX12_extra_105.1.2.1.2.2
theorem dX12_extra_134 : decode cX12_extra 134 = .ok (.iload_n 3, 1) := fp_dk fp_hdX12_extra_105.1.2.2.1.1
theorem dX12_extra_135 : decode cX12_extra 135 = .ok (.iconst 1, 1) := fp_dk fp_hdX12_extra_105.1.2.2.1.2
theorem dX12_extra_136 : decode cX12_extra 136 = .ok (.if_icmp .ne 8, 3) := fp_dk fp_hdX12_extra_105.1.2.2.2.1
theorem dX12_extra_139 : decode cX12_extra 139 = .ok (.iload 5, 2) := fp_dk fp_hdX12_extra_105.1.2.2.2.2
theorem dX12_extra_141 : decode cX12_extra 141 = .ok (.goto 5, 3) := fp_dk fp_hdX12_extra_105.2.1.1.1.1
theorem dX12_extra_144 : decode cX12_extra 144 = .ok (.iload 4, 2) := fp_dk fp_hdX12_extra_105.2.1.1.1.2
theorem dX12_extra_146 : decode cX12_extra 146 = .ok (.ireturn, 1) := fp_dk fp_hdX12_extra_105.2.1.1.2.1
theorem dX12_aim_0 : decode cX12_aim 0 = .ok (.aload_n 0, 1) := fp_dk fp_hdX12_extra_105.2.1.1.2.2
theorem dX12_aim_1 : decode cX12_aim 1 = .ok (.iload_n 1, 1) := fp_dk fp_hdX12_extra_105.2.1.2.1.1
theorem dX12_aim_2 : decode cX12_aim 2 = .ok (.invokevirtual 205, 3) := fp_dk fp_hdX12_extra_105.2.1.2.1.2
theorem dX12_aim_5 : decode cX12_aim 5 = .ok (.ifCond .eq 13, 3) := fp_dk fp_hdX12_extra_105.2.1.2.2.1
theorem dX12_aim_8 : decode cX12_aim 8 = .ok (.iload_n 2, 1) := fp_dk fp_hdX12_extra_105.2.1.2.2.2
theorem dX12_aim_9 : decode cX12_aim 9 = .ok (.i2l, 1) := fp_dk fp_hdX12_extra_105.2.2.1.1.1
theorem dX12_aim_10 : decode cX12_aim 10 = .ok (.lconst 0, 1) := fp_dk fp_hdX12_extra_105.2.2.1.1.2
theorem dX12_aim_11 : decode cX12_aim 11 = .ok (.lconst 1, 1) := fp_dk fp_hdX12_extra_105.2.2.1.2.1
theorem dX12_aim_12 : decode cX12_aim 12 = .ok (.invokestatic 94, 3) := fp_dk fp_hdX12_extra_105.2.2.1.2.2
theorem dX12_aim_15 : decode cX12_aim 15 = .ok (.ifCond .ne 5, 3) := fp_dk fp_hdX12_extra_105.2.2.2.1.1
theorem dX12_aim_18 : decode cX12_aim 18 = .ok (.iconst (-1), 1) := fp_dk fp_hdX12_extra_105.2.2.2.1.2
theorem dX12_aim_19 : decode cX12_aim 19 = .ok (.ireturn, 1) := fp_dk fp_hdX12_extra_105.2.2.2.2.1
theorem dX12_aim_20 : decode cX12_aim 20 = .ok (.iconst 0, 1) := fp_dk fp_hdX12_extra_105.2.2.2.2.2
theorem fp_hdX12_aim_21 : (((((fp_dq cX12_aim 21 (.istore_n 3, 1) = true ∧ fp_dq cX12_aim 22 (.iload_n 3, 1) = true) ∧ (fp_dq cX12_aim 23 (.aload_n 0, 1) = true ∧ fp_dq cX12_aim 24 (.invokevirtual 225, 3) = true)) ∧ ((fp_dq cX12_aim 27 (.if_icmp .gt 57, 3) = true ∧ fp_dq cX12_aim 30 (.aload_n 0, 1) = true) ∧ (fp_dq cX12_aim 31 (.iload_n 3, 1) = true ∧ fp_dq cX12_aim 32 (.invokevirtual 268, 3) = true))) ∧ (((fp_dq cX12_aim 35 (.pop, 1) = true ∧ fp_dq cX12_aim 36 (.iconst 0, 1) = true) ∧ (fp_dq cX12_aim 37 (.istore 4, 2) = true ∧ fp_dq cX12_aim 39 (.iload 4, 2) = true)) ∧ ((fp_dq cX12_aim 41 (.aload_n 0, 1) = true ∧ fp_dq cX12_aim 42 (.getfield 184, 3) = true) ∧ (fp_dq cX12_aim 45 (.if_icmp .ge 33, 3) = true ∧ fp_dq cX12_aim 48 (.aload_n 0, 1) = true)))) ∧ ((((fp_dq cX12_aim 49 (.sipush 360, 3) = true ∧ fp_dq cX12_aim 52 (.iload 4, 2) = true) ∧ (fp_dq cX12_aim 54 (.invokevirtual 222, 3) = true ∧ fp_dq cX12_aim 57 (.iload_n 1, 1) = true)) ∧ ((fp_dq cX12_aim 58 (.if_icmp .ne 14, 3) = true ∧ fp_dq cX12_aim 61 (.iload_n 2, 1) = true) ∧ (fp_dq cX12_aim 62 (.ifCond .ne 7, 3) = true ∧ fp_dq cX12_aim 65 (.iload_n 3, 1) = true))) ∧ (((fp_dq cX12_aim 66 (.goto 5, 3) = true ∧ fp_dq cX12_aim 69 (.iload 4, 2) = true) ∧ (fp_dq cX12_aim 71 (.ireturn, 1) = true ∧ fp_dq cX12_aim 72 (.iinc 4 1, 3) = true)) ∧ ((fp_dq cX12_aim 75 (.goto (-36), 3) = true ∧ fp_dq cX12_aim 78 (.iinc 3 1, 3) = true) ∧ (fp_dq cX12_aim 81 (.goto (-59), 3) = true ∧ fp_dq cX12_aim 84 (.bipush (-4), 2) = true))))) := by decide +kernel
theorem dX12_aim_21 : decode cX12_aim 21 = .ok (.istore_n 3, 1) := fp_dk fp_hdX12_aim_21.1.1.1.1.1
theorem dX12_aim_22 : decode cX12_aim 22 = .ok (.iload_n 3, 1) := fp_dk fp_hdX12_aim_21.1.1.1.1.2
theorem dX12_aim_23 : decode cX12_aim 23 = .ok (.aload_n 0, 1) := fp_dk fp_hdX12_aim_21.1.1.1.2.1
theorem dX12_aim_24 : decode cX12_aim 24 = .ok (.invokevirtual 225, 3) := fp_dk fp_hdX12_aim_21.1.1.1.2.2
theorem dX12_aim_27 : decode cX12_aim 27 = .ok (.if_icmp .gt 57, 3) := fp_dk fp_hdX12_aim_21.1.1.2.1.1
theorem dX12_aim_30 : decode cX12_aim 30 = .ok (.aload_n 0, 1) := fp_dk fp_hdX12_aim_21.1.1.2.1.2
theorem dX12_aim_31 : decode cX12_aim 31 = .ok (.iload_n 3, 1) := fp_dk fp_hdX12_aim_21.1.1.2.2.1
theorem dX12_aim_32 : decode cX12_aim 32 = .ok (.invokevirtual 268, 3) := fp_dk fp_hdX12_aim_21.1.1.2.2.2
theorem dX12_aim_35 : decode cX12_aim 35 = .ok (.pop, 1) := fp_dk fp_hdX12_aim_21.1.2.1.1.1
theorem dX12_aim_36 : decode cX12_aim 36 = .ok (.iconst 0, 1) := fp_dk fp_hdX12_aim_21.1.2.1.1.2
theorem dX12_aim_37 : decode cX12_aim 37 = .ok (.istore 4, 2) := fp_dk fp_hdX12_aim_21.1.2.1.2.1
theorem dX12_aim_39 : decode cX12_aim 39 = .ok (.iload 4, 2) := fp_dk fp_hdX12_aim_21.1.2.1.2.2
theorem dX12_aim_41 : decode cX12_aim 41 = .ok (.aload_n 0, 1) := fp_dk fp_hdX12_aim_21.1.2.2.1.1
theorem dX12_aim_42 : decode cX12_aim 42 = .ok (.getfield 184, 3) := fp_dk fp_hdX12_aim_21.1.2.2.1.2
theorem dX12_aim_45 : decode cX12_aim 45 = .ok (.if_icmp .ge 33, 3) := fp_dk fp_hdX12_aim_21.1.2.2.2.1
theorem dX12_aim_48 : decode cX12_aim 48 = .ok (.aload_n 0, 1) := fp_dk fp_hdX12_aim_21.1.2.2.2.2
theorem dX12_aim_49 : decode cX12_aim 49 = .ok (.sipush 360, 3) := fp_dk fp_hdX12_aim_21.2.1.1.1.1
theorem dX12_aim_52 : decode cX12_aim 52 = .ok (.iload 4, 2) := fp_dk fp_hdX12_aim_21.2.1.1.1.2
theorem dX12_aim_54 : decode cX12_aim 54 = .ok (.invokevirtual 222, 3) := fp_dk fp_hdX12_aim_21.2.1.1.2.1
theorem dX12_aim_57 : decode cX12_aim 57 = .ok (.iload_n 1, 1) := fp_dk fp_hdX12_aim_21.2.1.1.2.2
theorem dX12_aim_58 : decode cX12_aim 58 = .ok (.if_icmp .ne 14, 3) := fp_dk fp_hdX12_aim_21.2.1.2.1.1
theorem dX12_aim_61 : decode cX12_aim 61 = .ok (.iload_n 2, 1) := fp_dk fp_hdX12_aim_21.2.1.2.1.2
theorem dX12_aim_62 : decode cX12_aim 62 = .ok (.ifCond .ne 7, 3) := fp_dk fp_hdX12_aim_21.2.1.2.2.1
theorem dX12_aim_65 : decode cX12_aim 65 = .ok (.iload_n 3, 1) := fp_dk fp_hdX12_aim_21.2.1.2.2.2
theorem dX12_aim_66 : decode cX12_aim 66 = .ok (.goto 5, 3) := fp_dk fp_hdX12_aim_21.2.2.1.1.1
theorem dX12_aim_69 : decode cX12_aim 69 = .ok (.iload 4, 2) := fp_dk fp_hdX12_aim_21.2.2.1.1.2
theorem dX12_aim_71 : decode cX12_aim 71 = .ok (.ireturn, 1) := fp_dk fp_hdX12_aim_21.2.2.1.2.1
theorem dX12_aim_72 : decode cX12_aim 72 = .ok (.iinc 4 1, 3) := fp_dk fp_hdX12_aim_21.2.2.1.2.2
theorem dX12_aim_75 : decode cX12_aim 75 = .ok (.goto (-36), 3) := fp_dk fp_hdX12_aim_21.2.2.2.1.1
theorem dX12_aim_78 : decode cX12_aim 78 = .ok (.iinc 3 1, 3) := fp_dk fp_hdX12_aim_21.2.2.2.1.2
theorem dX12_aim_81 : decode cX12_aim 81 = .ok (.goto (-59), 3) := fp_dk fp_hdX12_aim_21.2.2.2.2.1
theorem dX12_aim_84 : decode cX12_aim 84 = .ok (.bipush (-4), 2) := fp_dk fp_hdX12_aim_21.2.2.2.2.2
theorem fp_hdX12_aim_86 : (((((fp_dq cX12_aim 86 (.ireturn, 1) = true ∧ fp_dq cX12_isTrick 0 (.aload_n 0, 1) = true) ∧ (fp_dq cX12_isTrick 1 (.iload 4, 2) = true ∧ fp_dq cX12_isTrick 3 (.invokevirtual 268, 3) = true)) ∧ ((fp_dq cX12_isTrick 6 (.pop, 1) = true ∧ fp_dq cX12_isTrick 7 (.aload_n 0, 1) = true) ∧ (fp_dq cX12_isTrick 8 (.sipush 360, 3) = true ∧ fp_dq cX12_isTrick 11 (.iload_n 1, 1) = true))) ∧ (((fp_dq cX12_isTrick 12 (.iload_n 2, 1) = true ∧ fp_dq cX12_isTrick 13 (.iload 6, 2) = true) ∧ (fp_dq cX12_isTrick 15 (.invokevirtual 244, 3) = true ∧ fp_dq cX12_isTrick 18 (.ifCond .ne 5, 3) = true)) ∧ ((fp_dq cX12_isTrick 21 (.iconst 0, 1) = true ∧ fp_dq cX12_isTrick 22 (.ireturn, 1) = true) ∧ (fp_dq cX12_isTrick 23 (.iload 4, 2) = true ∧ fp_dq cX12_isTrick 25 (.istore 7, 2) = true)))) ∧ ((((fp_dq cX12_isTrick 27 (.iload 7, 2) = true ∧ fp_dq cX12_isTrick 29 (.iload 5, 2) = true) ∧ (fp_dq cX12_isTrick 31 (.if_icmp .ge 19, 3) = true ∧ fp_dq cX12_isTrick 34 (.aload_n 0, 1) = true)) ∧ ((fp_dq cX12_isTrick 35 (.sipush 360, 3) = true ∧ fp_dq cX12_isTrick 38 (.iload 7, 2) = true) ∧ (fp_dq cX12_isTrick 40 (.invokevirtual 261, 3) = true ∧ fp_dq cX12_isTrick 43 (.pop, 1) = true))) ∧ (((fp_dq cX12_isTrick 44 (.iinc 7 1, 3) = true ∧ fp_dq cX12_isTrick 47 (.goto (-20), 3) = true) ∧ (fp_dq cX12_isTrick 50 (.aload_n 0, 1) = true ∧ fp_dq cX12_isTrick 51 (.sipush 360, 3) = true)) ∧ ((fp_dq cX12_isTrick 54 (.iload 6, 2) = true ∧ fp_dq cX12_isTrick 56 (.invokevirtual 222, 3) = true) ∧ (fp_dq cX12_isTrick 59 (.iload_n 3, 1) = true ∧ fp_dq cX12_isTrick 60 (.if_icmp .ne 7, 3) = true))))) := by decide +kernel
theorem dX12_aim_86 : decode cX12_aim 86 = .ok (.ireturn, 1) := fp_dk fp_hdX12_aim_86.1.1.1.1.1
theorem dX12_isTrick_0 : decode cX12_isTrick 0 = .ok (.aload_n 0, 1) := fp_dk fp_hdX12_aim_86.1.1.1.1.2
theorem dX12_isTrick_1 : decode cX12_isTrick 1 = .ok (.iload 4, 2) := fp_dk fp_hdX12_aim_86.1.1.1.2.1
theorem dX12_isTrick_3 : decode cX12_isTrick 3 = .ok (.invokevirtual 268, 3) := fp_dk fp_hdX12_aim_86.1.1.1.2.2
theorem dX12_isTrick_6 : decode cX12_isTrick 6 = .ok (.pop, 1) := fp_dk fp_hdX12_aim_86.1.1.2.1.1
theorem dX12_isTrick_7 : decode cX12_isTrick 7 = .ok (.aload_n 0, 1) := fp_dk fp_hdX12_aim_86.1.1.2.1.2
theorem dX12_isTrick_8 : decode cX12_isTrick 8 = .ok (.sipush 360, 3) := fp_dk fp_hdX12_aim_86.1.1.2.2.1
theorem dX12_isTrick_11 : decode cX12_isTrick 11 = .ok (.iload_n 1, 1) := fp_dk fp_hdX12_aim_86.1.1.2.2.2
theorem dX12_isTrick_12 : decode cX12_isTrick 12 = .ok (.iload_n 2, 1) := fp_dk fp_hdX12_aim_86.1.2.1.1.1
theorem dX12_isTrick_13 : decode cX12_isTrick 13 = .ok (.iload 6, 2) := fp_dk fp_hdX12_aim_86.1.2.1.1.2
theorem dX12_isTrick_15 : decode cX12_isTrick 15 = .ok (.invokevirtual 244, 3) := fp_dk fp_hdX12_aim_86.1.2.1.2.1
theorem dX12_isTrick_18 : decode cX12_isTrick 18 = .ok (.ifCond .ne 5, 3) := fp_dk fp_hdX12_aim_86.1.2.1.2.2
theorem dX12_isTrick_21 : decode cX12_isTrick 21 = .ok (.iconst 0, 1) := fp_dk fp_hdX12_aim_86.1.2.2.1.1
theorem dX12_isTrick_22 : decode cX12_isTrick 22 = .ok (.ireturn, 1) := fp_dk fp_hdX12_aim_86.1.2.2.1.2
theorem dX12_isTrick_23 : decode cX12_isTrick 23 = .ok (.iload 4, 2) := fp_dk fp_hdX12_aim_86.1.2.2.2.1
theorem dX12_isTrick_25 : decode cX12_isTrick 25 = .ok (.istore 7, 2) := fp_dk fp_hdX12_aim_86.1.2.2.2.2
theorem dX12_isTrick_27 : decode cX12_isTrick 27 = .ok (.iload 7, 2) := fp_dk fp_hdX12_aim_86.2.1.1.1.1
theorem dX12_isTrick_29 : decode cX12_isTrick 29 = .ok (.iload 5, 2) := fp_dk fp_hdX12_aim_86.2.1.1.1.2
theorem dX12_isTrick_31 : decode cX12_isTrick 31 = .ok (.if_icmp .ge 19, 3) := fp_dk fp_hdX12_aim_86.2.1.1.2.1
theorem dX12_isTrick_34 : decode cX12_isTrick 34 = .ok (.aload_n 0, 1) := fp_dk fp_hdX12_aim_86.2.1.1.2.2
theorem dX12_isTrick_35 : decode cX12_isTrick 35 = .ok (.sipush 360, 3) := fp_dk fp_hdX12_aim_86.2.1.2.1.1
theorem dX12_isTrick_38 : decode cX12_isTrick 38 = .ok (.iload 7, 2) := fp_dk fp_hdX12_aim_86.2.1.2.1.2
theorem dX12_isTrick_40 : decode cX12_isTrick 40 = .ok (.invokevirtual 261, 3) := fp_dk fp_hdX12_aim_86.2.1.2.2.1
theorem dX12_isTrick_43 : decode cX12_isTrick 43 = .ok (.pop, 1) := fp_dk fp_hdX12_aim_86.2.1.2.2.2
theorem dX12_isTrick_44 : decode cX12_isTrick 44 = .ok (.iinc 7 1, 3) := fp_dk fp_hdX12_aim_86.2.2.1.1.1
theorem dX12_isTrick_47 : decode cX12_isTrick 47 = .ok (.goto (-20), 3) := fp_dk fp_hdX12_aim_86.2.2.1.1.2
theorem dX12_isTrick_50 : decode cX12_isTrick 50 = .ok (.aload_n 0, 1) := fp_dk fp_hdX12_aim_86.2.2.1.2.1
theorem dX12_isTrick_51 : decode cX12_isTrick 51 = .ok (.sipush 360, 3) := fp_dk fp_hdX12_aim_86.2.2.1.2.2
theorem dX12_isTrick_54 : decode cX12_isTrick 54 = .ok (.iload 6, 2) := fp_dk fp_hdX12_aim_86.2.2.2.1.1
theorem dX12_isTrick_56 : decode cX12_isTrick 56 = .ok (.invokevirtual 222, 3) := fp_dk fp_hdX12_aim_86.2.2.2.1.2
theorem dX12_isTrick_59 : decode cX12_isTrick 59 = .ok (.iload_n 3, 1) := fp_dk fp_hdX12_aim_86.2.2.2.2.1
theorem dX12_isTrick_60 : decode cX12_isTrick 60 = .ok (.if_icmp .ne 7, 3) := fp_dk fp_hdX12_aim_86.2.2.2.2.2
theorem fp_hdX12_isTrick_63 : (((((fp_dq cX12_isTrick 63 (.iconst 1, 1) = true ∧ fp_dq cX12_isTrick 64 (.goto 4, 3) = true) ∧ (fp_dq cX12_isTrick 67 (.iconst 0, 1) = true ∧ fp_dq cX12_isTrick 68 (.ireturn, 1) = true)) ∧ ((fp_dq cX12_trick 0 (.iload_n 1, 1) = true ∧ fp_dq cX12_trick 1 (.invokestatic 228, 3) = true) ∧ (fp_dq cX12_trick 4 (.ifCond .eq 37, 3) = true ∧ fp_dq cX12_trick 7 (.aload_n 0, 1) = true))) ∧ (((fp_dq cX12_trick 8 (.iload_n 2, 1) = true ∧ fp_dq cX12_trick 9 (.invokevirtual 205, 3) = true) ∧ (fp_dq cX12_trick 12 (.ifCond .eq 29, 3) = true ∧ fp_dq cX12_trick 15 (.aload_n 0, 1) = true)) ∧ ((fp_dq cX12_trick 16 (.iload_n 3, 1) = true ∧ fp_dq cX12_trick 17 (.invokevirtual 205, 3) = true) ∧ (fp_dq cX12_trick 20 (.ifCond .eq 21, 3) = true ∧ fp_dq cX12_trick 23 (.iload_n 2, 1) = true)))) ∧ ((((fp_dq cX12_trick 24 (.iload_n 3, 1) = true ∧ fp_dq cX12_trick 25 (.if_icmp .eq 16, 3) = true) ∧ (fp_dq cX12_trick 28 (.iload 4, 2) = true ∧ fp_dq cX12_trick 30 (.i2l, 1) = true)) ∧ ((fp_dq cX12_trick 31 (.lconst 0, 1) = true ∧ fp_dq cX12_trick 32 (.ldc2_w 271, 3) = true) ∧ (fp_dq cX12_trick 35 (.invokestatic 94, 3) = true ∧ fp_dq cX12_trick 38 (.ifCond .ne 5, 3) = true))) ∧ (((fp_dq cX12_trick 41 (.iconst (-1), 1) = true ∧ fp_dq cX12_trick 42 (.ireturn, 1) = true) ∧ (fp_dq cX12_trick 43 (.aload_n 0, 1) = true ∧ fp_dq cX12_trick 44 (.getfield 7, 3) = true)) ∧ ((fp_dq cX12_trick 47 (.iload_n 2, 1) = true ∧ fp_dq cX12_trick 48 (.iaload, 1) = true) ∧ (fp_dq cX12_trick 49 (.iload_n 1, 1) = true ∧ fp_dq cX12_trick 50 (.if_icmp .eq 6, 3) = true))))) := by decide +kernel
theorem dX12_isTrick_63 : decode cX12_isTrick 63 = .ok (.iconst 1, 1) := fp_dk fp_hdX12_isTrick_63.1.1.1.1.1
theorem dX12_isTrick_64 : decode cX12_isTrick 64 = .ok (.goto 4, 3) := fp_dk fp_hdX12_isTrick_63.1.1.1.1.2
theorem dX12_isTrick_67 : decode cX12_isTrick 67 = .ok (.iconst 0, 1) := fp_dk fp_hdX12_isTrick_63.1.1.1.2.1
theorem dX12_isTrick_68 : decode cX12_isTrick 68 = .ok (.ireturn, 1) := fp_dk fp_hdX12_isTrick_63.1.1.1.2.2
theorem dX12_trick_0 : decode cX12_trick 0 = .ok (.iload_n 1, 1) := fp_dk fp_hdX12_isTrick_63.1.1.2.1.1
theorem dX12_trick_1 : decode cX12_trick 1 = .ok (.invokestatic 228, 3) := fp_dk fp_hdX12_isTrick_63.1.1.2.1.2
theorem dX12_trick_4 : decode cX12_trick 4 = .ok (.ifCond .eq 37, 3) := fp_dk fp_hdX12_isTrick_63.1.1.2.2.1
theorem dX12_trick_7 : decode cX12_trick 7 = .ok (.aload_n 0, 1) := fp_dk fp_hdX12_isTrick_63.1.1.2.2.2
theorem dX12_trick_8 : decode cX12_trick 8 = .ok (.iload_n 2, 1) := fp_dk fp_hdX12_isTrick_63.1.2.1.1.1
theorem dX12_trick_9 : decode cX12_trick 9 = .ok (.invokevirtual 205, 3) := fp_dk fp_hdX12_isTrick_63.1.2.1.1.2
theorem dX12_trick_12 : decode cX12_trick 12 = .ok (.ifCond .eq 29, 3) := fp_dk fp_hdX12_isTrick_63.1.2.1.2.1
theorem dX12_trick_15 : decode cX12_trick 15 = .ok (.aload_n 0, 1) := fp_dk fp_hdX12_isTrick_63.1.2.1.2.2
theorem dX12_trick_16 : decode cX12_trick 16 = .ok (.iload_n 3, 1) := fp_dk fp_hdX12_isTrick_63.1.2.2.1.1
theorem dX12_trick_17 : decode cX12_trick 17 = .ok (.invokevirtual 205, 3) := fp_dk fp_hdX12_isTrick_63.1.2.2.1.2
theorem dX12_trick_20 : decode cX12_trick 20 = .ok (.ifCond .eq 21, 3) := fp_dk fp_hdX12_isTrick_63.1.2.2.2.1
theorem dX12_trick_23 : decode cX12_trick 23 = .ok (.iload_n 2, 1) := fp_dk fp_hdX12_isTrick_63.1.2.2.2.2
theorem dX12_trick_24 : decode cX12_trick 24 = .ok (.iload_n 3, 1) := fp_dk fp_hdX12_isTrick_63.2.1.1.1.1
theorem dX12_trick_25 : decode cX12_trick 25 = .ok (.if_icmp .eq 16, 3) := fp_dk fp_hdX12_isTrick_63.2.1.1.1.2
theorem dX12_trick_28 : decode cX12_trick 28 = .ok (.iload 4, 2) := fp_dk fp_hdX12_isTrick_63.2.1.1.2.1
theorem dX12_trick_30 : decode cX12_trick 30 = .ok (.i2l, 1) := fp_dk fp_hdX12_isTrick_63.2.1.1.2.2
theorem dX12_trick_31 : decode cX12_trick 31 = .ok (.lconst 0, 1) := fp_dk fp_hdX12_isTrick_63.2.1.2.1.1
theorem dX12_trick_32 : decode cX12_trick 32 = .ok (.ldc2_w 271, 3) := fp_dk fp_hdX12_isTrick_63.2.1.2.1.2
theorem dX12_trick_35 : decode cX12_trick 35 = .ok (.invokestatic 94, 3) := fp_dk fp_hdX12_isTrick_63.2.1.2.2.1
theorem dX12_trick_38 : decode cX12_trick 38 = .ok (.ifCond .ne 5, 3) := fp_dk fp_hdX12_isTrick_63.2.1.2.2.2
theorem dX12_trick_41 : decode cX12_trick 41 = .ok (.iconst (-1), 1) := fp_dk fp_hdX12_isTrick_63.2.2.1.1.1
theorem dX12_trick_42 : decode cX12_trick 42 = .ok (.ireturn, 1) := fp_dk fp_hdX12_isTrick_63.2.2.1.1.2
theorem dX12_trick_43 : decode cX12_trick 43 = .ok (.aload_n 0, 1) := fp_dk fp_hdX12_isTrick_63.2.2.1.2.1
theorem dX12_trick_44 : decode cX12_trick 44 = .ok (.getfield 7, 3) := fp_dk fp_hdX12_isTrick_63.2.2.1.2.2
theorem dX12_trick_47 : decode cX12_trick 47 = .ok (.iload_n 2, 1) := fp_dk fp_hdX12_isTrick_63.2.2.2.1.1
theorem dX12_trick_48 : decode cX12_trick 48 = .ok (.iaload, 1) := fp_dk fp_hdX12_isTrick_63.2.2.2.1.2
theorem dX12_trick_49 : decode cX12_trick 49 = .ok (.iload_n 1, 1) := fp_dk fp_hdX12_isTrick_63.2.2.2.2.1
theorem dX12_trick_50 : decode cX12_trick 50 = .ok (.if_icmp .eq 6, 3) := fp_dk fp_hdX12_isTrick_63.2.2.2.2.2
theorem fp_hdX12_trick_53 : (((((fp_dq cX12_trick 53 (.bipush (-2), 2) = true ∧ fp_dq cX12_trick 55 (.ireturn, 1) = true) ∧ (fp_dq cX12_trick 56 (.iconst 0, 1) = true ∧ fp_dq cX12_trick 57 (.istore 5, 2) = true)) ∧ ((fp_dq cX12_trick 59 (.iload 5, 2) = true ∧ fp_dq cX12_trick 61 (.aload_n 0, 1) = true) ∧ (fp_dq cX12_trick 62 (.invokevirtual 225, 3) = true ∧ fp_dq cX12_trick 65 (.if_icmp .gt 86, 3) = true))) ∧ (((fp_dq cX12_trick 68 (.iload 5, 2) = true ∧ fp_dq cX12_trick 70 (.istore 6, 2) = true) ∧ (fp_dq cX12_trick 72 (.iload 6, 2) = true ∧ fp_dq cX12_trick 74 (.aload_n 0, 1) = true)) ∧ ((fp_dq cX12_trick 75 (.invokevirtual 225, 3) = true ∧ fp_dq cX12_trick 78 (.if_icmp .gt 67, 3) = true) ∧ (fp_dq cX12_trick 81 (.iconst 0, 1) = true ∧ fp_dq cX12_trick 82 (.istore 7, 2) = true)))) ∧ ((((fp_dq cX12_trick 84 (.iload 7, 2) = true ∧ fp_dq cX12_trick 86 (.aload_n 0, 1) = true) ∧ (fp_dq cX12_trick 87 (.getfield 184, 3) = true ∧ fp_dq cX12_trick 90 (.if_icmp .ge 49, 3) = true)) ∧ ((fp_dq cX12_trick 93 (.aload_n 0, 1) = true ∧ fp_dq cX12_trick 94 (.iload_n 1, 1) = true) ∧ (fp_dq cX12_trick 95 (.iload_n 2, 1) = true ∧ fp_dq cX12_trick 96 (.iload_n 3, 1) = true))) ∧ (((fp_dq cX12_trick 97 (.iload 5, 2) = true ∧ fp_dq cX12_trick 99 (.iload 6, 2) = true) ∧ (fp_dq cX12_trick 101 (.iload 7, 2) = true ∧ fp_dq cX12_trick 103 (.invokevirtual 273, 3) = true)) ∧ ((fp_dq cX12_trick 106 (.ifCond .eq 27, 3) = true ∧ fp_dq cX12_trick 109 (.iload 4, 2) = true) ∧ (fp_dq cX12_trick 111 (.ifCond .ne 8, 3) = true ∧ fp_dq cX12_trick 114 (.iload 5, 2) = true))))) := by decide +kernel
theorem dX12_trick_53 : decode cX12_trick 53 = .ok (.bipush (-2), 2) := fp_dk fp_hdX12_trick_53.1.1.1.1.1
theorem dX12_trick_55 : decode cX12_trick 55 = .ok (.ireturn, 1) := fp_dk fp_hdX12_trick_53.1.1.1.1.2
theorem dX12_trick_56 : decode cX12_trick 56 = .ok (.iconst 0, 1) := fp_dk fp_hdX12_trick_53.1.1.1.2.1
theorem dX12_trick_57 : decode cX12_trick 57 = .ok (.istore 5, 2) := fp_dk fp_hdX12_trick_53.1.1.1.2.2
theorem dX12_trick_59 : decode cX12_trick 59 = .ok (.iload 5, 2) := fp_dk fp_hdX12_trick_53.1.1.2.1.1
theorem dX12_trick_61 : decode cX12_trick 61 = .ok (.aload_n 0, 1) := fp_dk fp_hdX12_trick_53.1.1.2.1.2
theorem dX12_trick_62 : decode cX12_trick 62 = .ok (.invokevirtual 225, 3) := fp_dk fp_hdX12_trick_53.1.1.2.2.1
theorem dX12_trick_65 : decode cX12_trick 65 = .ok (.if_icmp .gt 86, 3) := fp_dk fp_hdX12_trick_53.1.1.2.2.2
theorem dX12_trick_68 : decode cX12_trick 68 = .ok (.iload 5, 2) := fp_dk fp_hdX12_trick_53.1.2.1.1.1
theorem dX12_trick_70 : decode cX12_trick 70 = .ok (.istore 6, 2) := fp_dk fp_hdX12_trick_53.1.2.1.1.2
theorem dX12_trick_72 : decode cX12_trick 72 = .ok (.iload 6, 2) := fp_dk fp_hdX12_trick_53.1.2.1.2.1
theorem dX12_trick_74 : decode cX12_trick 74 = .ok (.aload_n 0, 1) := fp_dk fp_hdX12_trick_53.1.2.1.2.2
theorem dX12_trick_75 : decode cX12_trick 75 = .ok (.invokevirtual 225, 3) := fp_dk fp_hdX12_trick_53.1.2.2.1.1
theorem dX12_trick_78 : decode cX12_trick 78 = .ok (.if_icmp .gt 67, 3) := fp_dk fp_hdX12_trick_53.1.2.2.1.2
theorem dX12_trick_81 : decode cX12_trick 81 = .ok (.iconst 0, 1) := fp_dk fp_hdX12_trick_53.1.2.2.2.1
theorem dX12_trick_82 : decode cX12_trick 82 = .ok (.istore 7, 2) := fp_dk fp_hdX12_trick_53.1.2.2.2.2
theorem dX12_trick_84 : decode cX12_trick 84 = .ok (.iload 7, 2) := fp_dk fp_hdX12_trick_53.2.1.1.1.1
theorem dX12_trick_86 : decode cX12_trick 86 = .ok (.aload_n 0, 1) := fp_dk fp_hdX12_trick_53.2.1.1.1.2
theorem dX12_trick_87 : decode cX12_trick 87 = .ok (.getfield 184, 3) := fp_dk fp_hdX12_trick_53.2.1.1.2.1
theorem dX12_trick_90 : decode cX12_trick 90 = .ok (.if_icmp .ge 49, 3) := fp_dk fp_hdX12_trick_53.2.1.1.2.2
theorem dX12_trick_93 : decode cX12_trick 93 = .ok (.aload_n 0, 1) := fp_dk fp_hdX12_trick_53.2.1.2.1.1
theorem dX12_trick_94 : decode cX12_trick 94 = .ok (.iload_n 1, 1) := fp_dk fp_hdX12_trick_53.2.1.2.1.2
theorem dX12_trick_95 : decode cX12_trick 95 = .ok (.iload_n 2, 1) := fp_dk fp_hdX12_trick_53.2.1.2.2.1
theorem dX12_trick_96 : decode cX12_trick 96 = .ok (.iload_n 3, 1) := fp_dk fp_hdX12_trick_53.2.1.2.2.2
theorem dX12_trick_97 : decode cX12_trick 97 = .ok (.iload 5, 2) := fp_dk fp_hdX12_trick_53.2.2.1.1.1
theorem dX12_trick_99 : decode cX12_trick 99 = .ok (.iload 6, 2) := fp_dk fp_hdX12_trick_53.2.2.1.1.2
theorem dX12_trick_101 : decode cX12_trick 101 = .ok (.iload 7, 2) := fp_dk fp_hdX12_trick_53.2.2.1.2.1
theorem dX12_trick_103 : decode cX12_trick 103 = .ok (.invokevirtual 273, 3) := fp_dk fp_hdX12_trick_53.2.2.1.2.2
theorem dX12_trick_106 : decode cX12_trick 106 = .ok (.ifCond .eq 27, 3) := fp_dk fp_hdX12_trick_53.2.2.2.1.1
theorem dX12_trick_109 : decode cX12_trick 109 = .ok (.iload 4, 2) := fp_dk fp_hdX12_trick_53.2.2.2.1.2
theorem dX12_trick_111 : decode cX12_trick 111 = .ok (.ifCond .ne 8, 3) := fp_dk fp_hdX12_trick_53.2.2.2.2.1
theorem dX12_trick_114 : decode cX12_trick 114 = .ok (.iload 5, 2) := fp_dk fp_hdX12_trick_53.2.2.2.2.2
theorem fp_hdX12_trick_116 : (((((fp_dq cX12_trick 116 (.goto 16, 3) = true ∧ fp_dq cX12_trick 119 (.iload 4, 2) = true) ∧ (fp_dq cX12_trick 121 (.iconst 1, 1) = true ∧ fp_dq cX12_trick 122 (.if_icmp .ne 8, 3) = true)) ∧ ((fp_dq cX12_trick 125 (.iload 6, 2) = true ∧ fp_dq cX12_trick 127 (.goto 5, 3) = true) ∧ (fp_dq cX12_trick 130 (.iload 7, 2) = true ∧ fp_dq cX12_trick 132 (.ireturn, 1) = true))) ∧ (((fp_dq cX12_trick 133 (.iinc 7 1, 3) = true ∧ fp_dq cX12_trick 136 (.goto (-52), 3) = true) ∧ (fp_dq cX12_trick 139 (.iinc 6 1, 3) = true ∧ fp_dq cX12_trick 142 (.goto (-70), 3) = true)) ∧ ((fp_dq cX12_trick 145 (.iinc 5 1, 3) = true ∧ fp_dq cX12_trick 148 (.goto (-89), 3) = true) ∧ (fp_dq cX12_trick 151 (.bipush (-4), 2) = true ∧ fp_dq cX12_trick 153 (.ireturn, 1) = true)))) ∧ ((((fp_dq cX12_saves 0 (.iconst 0, 1) = true ∧ fp_dq cX12_saves 1 (.istore_n 2, 1) = true) ∧ (fp_dq cX12_saves 2 (.iload_n 2, 1) = true ∧ fp_dq cX12_saves 3 (.bipush 40, 2) = true)) ∧ ((fp_dq cX12_saves 5 (.if_icmp .ge 30, 3) = true ∧ fp_dq cX12_saves 8 (.aload_n 0, 1) = true) ∧ (fp_dq cX12_saves 9 (.getfield 47, 3) = true ∧ fp_dq cX12_saves 12 (.bipush 40, 2) = true))) ∧ (((fp_dq cX12_saves 14 (.iload_n 1, 1) = true ∧ fp_dq cX12_saves 15 (.imul, 1) = true) ∧ (fp_dq cX12_saves 16 (.iload_n 2, 1) = true ∧ fp_dq cX12_saves 17 (.iadd, 1) = true)) ∧ ((fp_dq cX12_saves 18 (.aload_n 0, 1) = true ∧ fp_dq cX12_saves 19 (.getfield 7, 3) = true) ∧ (fp_dq cX12_saves 22 (.sipush 360, 3) = true ∧ fp_dq cX12_saves 25 (.iload_n 2, 1) = true))))) := by decide +kernel
theorem dX12_trick_116 : decode cX12_trick 116 = .ok (.goto 16, 3) := fp_dk fp_hdX12_trick_116.1.1.1.1.1
theorem dX12_trick_119 : decode cX12_trick 119 = .ok (.iload 4, 2) := fp_dk fp_hdX12_trick_116.1.1.1.1.2
theorem dX12_trick_121 : decode cX12_trick 121 = .ok (.iconst 1, 1) := fp_dk fp_hdX12_trick_116.1.1.1.2.1
theorem dX12_trick_122 : decode cX12_trick 122 = .ok (.if_icmp .ne 8, 3) := fp_dk fp_hdX12_trick_116.1.1.1.2.2
theorem dX12_trick_125 : decode cX12_trick 125 = .ok (.iload 6, 2) := fp_dk fp_hdX12_trick_116.1.1.2.1.1
theorem dX12_trick_127 : decode cX12_trick 127 = .ok (.goto 5, 3) := fp_dk fp_hdX12_trick_116.1.1.2.1.2
theorem dX12_trick_130 : decode cX12_trick 130 = .ok (.iload 7, 2) := fp_dk fp_hdX12_trick_116.1.1.2.2.1
theorem dX12_trick_132 : decode cX12_trick 132 = .ok (.ireturn, 1) := fp_dk fp_hdX12_trick_116.1.1.2.2.2
theorem dX12_trick_133 : decode cX12_trick 133 = .ok (.iinc 7 1, 3) := fp_dk fp_hdX12_trick_116.1.2.1.1.1
theorem dX12_trick_136 : decode cX12_trick 136 = .ok (.goto (-52), 3) := fp_dk fp_hdX12_trick_116.1.2.1.1.2
theorem dX12_trick_139 : decode cX12_trick 139 = .ok (.iinc 6 1, 3) := fp_dk fp_hdX12_trick_116.1.2.1.2.1
theorem dX12_trick_142 : decode cX12_trick 142 = .ok (.goto (-70), 3) := fp_dk fp_hdX12_trick_116.1.2.1.2.2
theorem dX12_trick_145 : decode cX12_trick 145 = .ok (.iinc 5 1, 3) := fp_dk fp_hdX12_trick_116.1.2.2.1.1
theorem dX12_trick_148 : decode cX12_trick 148 = .ok (.goto (-89), 3) := fp_dk fp_hdX12_trick_116.1.2.2.1.2
theorem dX12_trick_151 : decode cX12_trick 151 = .ok (.bipush (-4), 2) := fp_dk fp_hdX12_trick_116.1.2.2.2.1
theorem dX12_trick_153 : decode cX12_trick 153 = .ok (.ireturn, 1) := fp_dk fp_hdX12_trick_116.1.2.2.2.2
theorem dX12_saves_0 : decode cX12_saves 0 = .ok (.iconst 0, 1) := fp_dk fp_hdX12_trick_116.2.1.1.1.1
theorem dX12_saves_1 : decode cX12_saves 1 = .ok (.istore_n 2, 1) := fp_dk fp_hdX12_trick_116.2.1.1.1.2
theorem dX12_saves_2 : decode cX12_saves 2 = .ok (.iload_n 2, 1) := fp_dk fp_hdX12_trick_116.2.1.1.2.1
theorem dX12_saves_3 : decode cX12_saves 3 = .ok (.bipush 40, 2) := fp_dk fp_hdX12_trick_116.2.1.1.2.2
theorem dX12_saves_5 : decode cX12_saves 5 = .ok (.if_icmp .ge 30, 3) := fp_dk fp_hdX12_trick_116.2.1.2.1.1
theorem dX12_saves_8 : decode cX12_saves 8 = .ok (.aload_n 0, 1) := fp_dk fp_hdX12_trick_116.2.1.2.1.2
theorem dX12_saves_9 : decode cX12_saves 9 = .ok (.getfield 47, 3) := fp_dk fp_hdX12_trick_116.2.1.2.2.1
theorem dX12_saves_12 : decode cX12_saves 12 = .ok (.bipush 40, 2) := fp_dk fp_hdX12_trick_116.2.1.2.2.2
theorem dX12_saves_14 : decode cX12_saves 14 = .ok (.iload_n 1, 1) := fp_dk fp_hdX12_trick_116.2.2.1.1.1
theorem dX12_saves_15 : decode cX12_saves 15 = .ok (.imul, 1) := fp_dk fp_hdX12_trick_116.2.2.1.1.2
theorem dX12_saves_16 : decode cX12_saves 16 = .ok (.iload_n 2, 1) := fp_dk fp_hdX12_trick_116.2.2.1.2.1
theorem dX12_saves_17 : decode cX12_saves 17 = .ok (.iadd, 1) := fp_dk fp_hdX12_trick_116.2.2.1.2.2
theorem dX12_saves_18 : decode cX12_saves 18 = .ok (.aload_n 0, 1) := fp_dk fp_hdX12_trick_116.2.2.2.1.1
theorem dX12_saves_19 : decode cX12_saves 19 = .ok (.getfield 7, 3) := fp_dk fp_hdX12_trick_116.2.2.2.1.2
theorem dX12_saves_22 : decode cX12_saves 22 = .ok (.sipush 360, 3) := fp_dk fp_hdX12_trick_116.2.2.2.2.1
theorem dX12_saves_25 : decode cX12_saves 25 = .ok (.iload_n 2, 1) := fp_dk fp_hdX12_trick_116.2.2.2.2.2
theorem fp_hdX12_saves_26 : (((((fp_dq cX12_saves 26 (.iadd, 1) = true ∧ fp_dq cX12_saves 27 (.iaload, 1) = true) ∧ (fp_dq cX12_saves 28 (.iastore, 1) = true ∧ fp_dq cX12_saves 29 (.iinc 2 1, 3) = true)) ∧ ((fp_dq cX12_saves 32 (.goto (-30), 3) = true ∧ fp_dq cX12_saves 35 (.return_, 1) = true) ∧ (fp_dq cX12_isOwn 0 (.aload_n 0, 1) = true ∧ fp_dq cX12_isOwn 1 (.getfield 7, 3) = true))) ∧ (((fp_dq cX12_isOwn 4 (.bipush 47, 2) = true ∧ fp_dq cX12_isOwn 6 (.iconst 4, 1) = true) ∧ (fp_dq cX12_isOwn 7 (.iload_n 2, 1) = true ∧ fp_dq cX12_isOwn 8 (.imul, 1) = true)) ∧ ((fp_dq cX12_isOwn 9 (.iadd, 1) = true ∧ fp_dq cX12_isOwn 10 (.iconst 1, 1) = true) ∧ (fp_dq cX12_isOwn 11 (.iadd, 1) = true ∧ fp_dq cX12_isOwn 12 (.iaload, 1) = true)))) ∧ ((((fp_dq cX12_isOwn 13 (.iload_n 1, 1) = true ∧ fp_dq cX12_isOwn 14 (.if_icmp .ne 25, 3) = true) ∧ (fp_dq cX12_isOwn 17 (.aload_n 0, 1) = true ∧ fp_dq cX12_isOwn 18 (.getfield 7, 3) = true)) ∧ ((fp_dq cX12_isOwn 21 (.bipush 47, 2) = true ∧ fp_dq cX12_isOwn 23 (.iconst 4, 1) = true) ∧ (fp_dq cX12_isOwn 24 (.iload_n 2, 1) = true ∧ fp_dq cX12_isOwn 25 (.imul, 1) = true))) ∧ (((fp_dq cX12_isOwn 26 (.iadd, 1) = true ∧ fp_dq cX12_isOwn 27 (.iconst 3, 1) = true) ∧ (fp_dq cX12_isOwn 28 (.iadd, 1) = true ∧ fp_dq cX12_isOwn 29 (.iaload, 1) = true)) ∧ ((fp_dq cX12_isOwn 30 (.bipush (-4), 2) = true ∧ fp_dq cX12_isOwn 32 (.if_icmp .ne 7, 3) = true) ∧ (fp_dq cX12_isOwn 35 (.iconst 1, 1) = true ∧ fp_dq cX12_isOwn 36 (.goto 4, 3) = true))))) := by decide +kernel
theorem dX12_saves_26 : decode cX12_saves 26 = .ok (.iadd, 1) := fp_dk fp_hdX12_saves_26.1.1.1.1.1
theorem dX12_saves_27 : decode cX12_saves 27 = .ok (.iaload, 1) := fp_dk fp_hdX12_saves_26.1.1.1.1.2
theorem dX12_saves_28 : decode cX12_saves 28 = .ok (.iastore, 1) := fp_dk fp_hdX12_saves_26.1.1.1.2.1
theorem dX12_saves_29 : decode cX12_saves 29 = .ok (.iinc 2 1, 3) := fp_dk fp_hdX12_saves_26.1.1.1.2.2
theorem dX12_saves_32 : decode cX12_saves 32 = .ok (.goto (-30), 3) := fp_dk fp_hdX12_saves_26.1.1.2.1.1
theorem dX12_saves_35 : decode cX12_saves 35 = .ok (.return_, 1) := fp_dk fp_hdX12_saves_26.1.1.2.1.2
theorem dX12_isOwn_0 : decode cX12_isOwn 0 = .ok (.aload_n 0, 1) := fp_dk fp_hdX12_saves_26.1.1.2.2.1
theorem dX12_isOwn_1 : decode cX12_isOwn 1 = .ok (.getfield 7, 3) := fp_dk fp_hdX12_saves_26.1.1.2.2.2
theorem dX12_isOwn_4 : decode cX12_isOwn 4 = .ok (.bipush 47, 2) := fp_dk fp_hdX12_saves_26.1.2.1.1.1
theorem dX12_isOwn_6 : decode cX12_isOwn 6 = .ok (.iconst 4, 1) := fp_dk fp_hdX12_saves_26.1.2.1.1.2
theorem dX12_isOwn_7 : decode cX12_isOwn 7 = .ok (.iload_n 2, 1) := fp_dk fp_hdX12_saves_26.1.2.1.2.1
theorem dX12_isOwn_8 : decode cX12_isOwn 8 = .ok (.imul, 1) := fp_dk fp_hdX12_saves_26.1.2.1.2.2
theorem dX12_isOwn_9 : decode cX12_isOwn 9 = .ok (.iadd, 1) := fp_dk fp_hdX12_saves_26.1.2.2.1.1
theorem dX12_isOwn_10 : decode cX12_isOwn 10 = .ok (.iconst 1, 1) := fp_dk fp_hdX12_saves_26.1.2.2.1.2
theorem dX12_isOwn_11 : decode cX12_isOwn 11 = .ok (.iadd, 1) := fp_dk fp_hdX12_saves_26.1.2.2.2.1
theorem dX12_isOwn_12 : decode cX12_isOwn 12 = .ok (.iaload, 1) := fp_dk fp_hdX12_saves_26.1.2.2.2.2
theorem dX12_isOwn_13 : decode cX12_isOwn 13 = .ok (.iload_n 1, 1) := fp_dk fp_hdX12_saves_26.2.1.1.1.1
theorem dX12_isOwn_14 : decode cX12_isOwn 14 = .ok (.if_icmp .ne 25, 3) := fp_dk fp_hdX12_saves_26.2.1.1.1.2
theorem dX12_isOwn_17 : decode cX12_isOwn 17 = .ok (.aload_n 0, 1) := fp_dk fp_hdX12_saves_26.2.1.1.2.1
theorem dX12_isOwn_18 : decode cX12_isOwn 18 = .ok (.getfield 7, 3) := fp_dk fp_hdX12_saves_26.2.1.1.2.2
theorem dX12_isOwn_21 : decode cX12_isOwn 21 = .ok (.bipush 47, 2) := fp_dk fp_hdX12_saves_26.2.1.2.1.1
theorem dX12_isOwn_23 : decode cX12_isOwn 23 = .ok (.iconst 4, 1) := fp_dk fp_hdX12_saves_26.2.1.2.1.2
theorem dX12_isOwn_24 : decode cX12_isOwn 24 = .ok (.iload_n 2, 1) := fp_dk fp_hdX12_saves_26.2.1.2.2.1
theorem dX12_isOwn_25 : decode cX12_isOwn 25 = .ok (.imul, 1) := fp_dk fp_hdX12_saves_26.2.1.2.2.2
theorem dX12_isOwn_26 : decode cX12_isOwn 26 = .ok (.iadd, 1) := fp_dk fp_hdX12_saves_26.2.2.1.1.1
theorem dX12_isOwn_27 : decode cX12_isOwn 27 = .ok (.iconst 3, 1) := fp_dk fp_hdX12_saves_26.2.2.1.1.2
theorem dX12_isOwn_28 : decode cX12_isOwn 28 = .ok (.iadd, 1) := fp_dk fp_hdX12_saves_26.2.2.1.2.1
theorem dX12_isOwn_29 : decode cX12_isOwn 29 = .ok (.iaload, 1) := fp_dk fp_hdX12_saves_26.2.2.1.2.2
theorem dX12_isOwn_30 : decode cX12_isOwn 30 = .ok (.bipush (-4), 2) := fp_dk fp_hdX12_saves_26.2.2.2.1.1
theorem dX12_isOwn_32 : decode cX12_isOwn 32 = .ok (.if_icmp .ne 7, 3) := fp_dk fp_hdX12_saves_26.2.2.2.1.2
theorem dX12_isOwn_35 : decode cX12_isOwn 35 = .ok (.iconst 1, 1) := fp_dk fp_hdX12_saves_26.2.2.2.2.1
theorem dX12_isOwn_36 : decode cX12_isOwn 36 = .ok (.goto 4, 3) := fp_dk fp_hdX12_saves_26.2.2.2.2.2
theorem fp_hdX12_isOwn_39 : (((((fp_dq cX12_isOwn 39 (.iconst 0, 1) = true ∧ fp_dq cX12_isOwn 40 (.ireturn, 1) = true) ∧ (fp_dq cX12_runsFrom 0 (.iconst 0, 1) = true ∧ fp_dq cX12_runsFrom 1 (.istore_n 3, 1) = true)) ∧ ((fp_dq cX12_runsFrom 2 (.iload_n 3, 1) = true ∧ fp_dq cX12_runsFrom 3 (.bipush 40, 2) = true) ∧ (fp_dq cX12_runsFrom 5 (.if_icmp .ge 30, 3) = true ∧ fp_dq cX12_runsFrom 8 (.aload_n 0, 1) = true))) ∧ (((fp_dq cX12_runsFrom 9 (.getfield 7, 3) = true ∧ fp_dq cX12_runsFrom 12 (.sipush 360, 3) = true) ∧ (fp_dq cX12_runsFrom 15 (.iload_n 3, 1) = true ∧ fp_dq cX12_runsFrom 16 (.iadd, 1) = true)) ∧ ((fp_dq cX12_runsFrom 17 (.aload_n 0, 1) = true ∧ fp_dq cX12_runsFrom 18 (.getfield 47, 3) = true) ∧ (fp_dq cX12_runsFrom 21 (.bipush 40, 2) = true ∧ fp_dq cX12_runsFrom 23 (.iload_n 2, 1) = true)))) ∧ ((((fp_dq cX12_runsFrom 24 (.imul, 1) = true ∧ fp_dq cX12_runsFrom 25 (.iload_n 3, 1) = true) ∧ (fp_dq cX12_runsFrom 26 (.iadd, 1) = true ∧ fp_dq cX12_runsFrom 27 (.iaload, 1) = true)) ∧ ((fp_dq cX12_runsFrom 28 (.iastore, 1) = true ∧ fp_dq cX12_runsFrom 29 (.iinc 3 1, 3) = true) ∧ (fp_dq cX12_runsFrom 32 (.goto (-30), 3) = true ∧ fp_dq cX12_runsFrom 35 (.iload_n 2, 1) = true))) ∧ (((fp_dq cX12_runsFrom 36 (.istore_n 3, 1) = true ∧ fp_dq cX12_runsFrom 37 (.iload_n 3, 1) = true) ∧ (fp_dq cX12_runsFrom 38 (.aload_n 0, 1) = true ∧ fp_dq cX12_runsFrom 39 (.invokevirtual 225, 3) = true)) ∧ ((fp_dq cX12_runsFrom 42 (.if_icmp .ge 54, 3) = true ∧ fp_dq cX12_runsFrom 45 (.aload_n 0, 1) = true) ∧ (fp_dq cX12_runsFrom 46 (.iload_n 3, 1) = true ∧ fp_dq cX12_runsFrom 47 (.invokevirtual 277, 3) = true))))) := by decide +kernel
theorem dX12_isOwn_39 : decode cX12_isOwn 39 = .ok (.iconst 0, 1) := fp_dk fp_hdX12_isOwn_39.1.1.1.1.1
theorem dX12_isOwn_40 : decode cX12_isOwn 40 = .ok (.ireturn, 1) := fp_dk fp_hdX12_isOwn_39.1.1.1.1.2
theorem dX12_runsFrom_0 : decode cX12_runsFrom 0 = .ok (.iconst 0, 1) := fp_dk fp_hdX12_isOwn_39.1.1.1.2.1
theorem dX12_runsFrom_1 : decode cX12_runsFrom 1 = .ok (.istore_n 3, 1) := fp_dk fp_hdX12_isOwn_39.1.1.1.2.2
theorem dX12_runsFrom_2 : decode cX12_runsFrom 2 = .ok (.iload_n 3, 1) := fp_dk fp_hdX12_isOwn_39.1.1.2.1.1
theorem dX12_runsFrom_3 : decode cX12_runsFrom 3 = .ok (.bipush 40, 2) := fp_dk fp_hdX12_isOwn_39.1.1.2.1.2
theorem dX12_runsFrom_5 : decode cX12_runsFrom 5 = .ok (.if_icmp .ge 30, 3) := fp_dk fp_hdX12_isOwn_39.1.1.2.2.1
theorem dX12_runsFrom_8 : decode cX12_runsFrom 8 = .ok (.aload_n 0, 1) := fp_dk fp_hdX12_isOwn_39.1.1.2.2.2
theorem dX12_runsFrom_9 : decode cX12_runsFrom 9 = .ok (.getfield 7, 3) := fp_dk fp_hdX12_isOwn_39.1.2.1.1.1
theorem dX12_runsFrom_12 : decode cX12_runsFrom 12 = .ok (.sipush 360, 3) := fp_dk fp_hdX12_isOwn_39.1.2.1.1.2
theorem dX12_runsFrom_15 : decode cX12_runsFrom 15 = .ok (.iload_n 3, 1) := fp_dk fp_hdX12_isOwn_39.1.2.1.2.1
theorem dX12_runsFrom_16 : decode cX12_runsFrom 16 = .ok (.iadd, 1) := fp_dk fp_hdX12_isOwn_39.1.2.1.2.2
theorem dX12_runsFrom_17 : decode cX12_runsFrom 17 = .ok (.aload_n 0, 1) := fp_dk fp_hdX12_isOwn_39.1.2.2.1.1
theorem dX12_runsFrom_18 : decode cX12_runsFrom 18 = .ok (.getfield 47, 3) := fp_dk fp_hdX12_isOwn_39.1.2.2.1.2
theorem dX12_runsFrom_21 : decode cX12_runsFrom 21 = .ok (.bipush 40, 2) := fp_dk fp_hdX12_isOwn_39.1.2.2.2.1
theorem dX12_runsFrom_23 : decode cX12_runsFrom 23 = .ok (.iload_n 2, 1) := fp_dk fp_hdX12_isOwn_39.1.2.2.2.2
theorem dX12_runsFrom_24 : decode cX12_runsFrom 24 = .ok (.imul, 1) := fp_dk fp_hdX12_isOwn_39.2.1.1.1.1
theorem dX12_runsFrom_25 : decode cX12_runsFrom 25 = .ok (.iload_n 3, 1) := fp_dk fp_hdX12_isOwn_39.2.1.1.1.2
theorem dX12_runsFrom_26 : decode cX12_runsFrom 26 = .ok (.iadd, 1) := fp_dk fp_hdX12_isOwn_39.2.1.1.2.1
theorem dX12_runsFrom_27 : decode cX12_runsFrom 27 = .ok (.iaload, 1) := fp_dk fp_hdX12_isOwn_39.2.1.1.2.2
theorem dX12_runsFrom_28 : decode cX12_runsFrom 28 = .ok (.iastore, 1) := fp_dk fp_hdX12_isOwn_39.2.1.2.1.1
theorem dX12_runsFrom_29 : decode cX12_runsFrom 29 = .ok (.iinc 3 1, 3) := fp_dk fp_hdX12_isOwn_39.2.1.2.1.2
theorem dX12_runsFrom_32 : decode cX12_runsFrom 32 = .ok (.goto (-30), 3) := fp_dk fp_hdX12_isOwn_39.2.1.2.2.1
theorem dX12_runsFrom_35 : decode cX12_runsFrom 35 = .ok (.iload_n 2, 1) := fp_dk fp_hdX12_isOwn_39.2.1.2.2.2
theorem dX12_runsFrom_36 : decode cX12_runsFrom 36 = .ok (.istore_n 3, 1) := fp_dk fp_hdX12_isOwn_39.2.2.1.1.1
theorem dX12_runsFrom_37 : decode cX12_runsFrom 37 = .ok (.iload_n 3, 1) := fp_dk fp_hdX12_isOwn_39.2.2.1.1.2
theorem dX12_runsFrom_38 : decode cX12_runsFrom 38 = .ok (.aload_n 0, 1) := fp_dk fp_hdX12_isOwn_39.2.2.1.2.1
theorem dX12_runsFrom_39 : decode cX12_runsFrom 39 = .ok (.invokevirtual 225, 3) := fp_dk fp_hdX12_isOwn_39.2.2.1.2.2
theorem dX12_runsFrom_42 : decode cX12_runsFrom 42 = .ok (.if_icmp .ge 54, 3) := fp_dk fp_hdX12_isOwn_39.2.2.2.1.1
theorem dX12_runsFrom_45 : decode cX12_runsFrom 45 = .ok (.aload_n 0, 1) := fp_dk fp_hdX12_isOwn_39.2.2.2.1.2
theorem dX12_runsFrom_46 : decode cX12_runsFrom 46 = .ok (.iload_n 3, 1) := fp_dk fp_hdX12_isOwn_39.2.2.2.2.1
theorem dX12_runsFrom_47 : decode cX12_runsFrom 47 = .ok (.invokevirtual 277, 3) := fp_dk fp_hdX12_isOwn_39.2.2.2.2.2
theorem fp_hdX12_runsFrom_50 : (((((fp_dq cX12_runsFrom 50 (.aload_n 0, 1) = true ∧ fp_dq cX12_runsFrom 51 (.sipush 360, 3) = true) ∧ (fp_dq cX12_runsFrom 54 (.iload_n 3, 1) = true ∧ fp_dq cX12_runsFrom 55 (.aload_n 0, 1) = true)) ∧ ((fp_dq cX12_runsFrom 56 (.iload_n 1, 1) = true ∧ fp_dq cX12_runsFrom 57 (.iload_n 3, 1) = true) ∧ (fp_dq cX12_runsFrom 58 (.invokevirtual 280, 3) = true ∧ fp_dq cX12_runsFrom 61 (.ifCond .eq 12, 3) = true))) ∧ (((fp_dq cX12_runsFrom 64 (.aload_n 0, 1) = true ∧ fp_dq cX12_runsFrom 65 (.getfield 50, 3) = true) ∧ (fp_dq cX12_runsFrom 68 (.iload_n 3, 1) = true ∧ fp_dq cX12_runsFrom 69 (.iaload, 1) = true)) ∧ ((fp_dq cX12_runsFrom 70 (.goto 16, 3) = true ∧ fp_dq cX12_runsFrom 73 (.aload_n 0, 1) = true) ∧ (fp_dq cX12_runsFrom 74 (.getfield 7, 3) = true ∧ fp_dq cX12_runsFrom 77 (.bipush 47, 2) = true)))) ∧ ((((fp_dq cX12_runsFrom 79 (.iconst 4, 1) = true ∧ fp_dq cX12_runsFrom 80 (.iload_n 3, 1) = true) ∧ (fp_dq cX12_runsFrom 81 (.imul, 1) = true ∧ fp_dq cX12_runsFrom 82 (.iadd, 1) = true)) ∧ ((fp_dq cX12_runsFrom 83 (.iconst 2, 1) = true ∧ fp_dq cX12_runsFrom 84 (.iadd, 1) = true) ∧ (fp_dq cX12_runsFrom 85 (.iaload, 1) = true ∧ fp_dq cX12_runsFrom 86 (.invokevirtual 257, 3) = true))) ∧ (((fp_dq cX12_runsFrom 89 (.pop, 1) = true ∧ fp_dq cX12_runsFrom 90 (.iinc 3 1, 3) = true) ∧ (fp_dq cX12_runsFrom 93 (.goto (-56), 3) = true ∧ fp_dq cX12_runsFrom 96 (.return_, 1) = true)) ∧ ((fp_dq cX12_nextLines 0 (.aload_n 0, 1) = true ∧ fp_dq cX12_nextLines 1 (.invokevirtual 225, 3) = true) ∧ (fp_dq cX12_nextLines 4 (.iconst 1, 1) = true ∧ fp_dq cX12_nextLines 5 (.isub, 1) = true))))) := by decide +kernel
theorem dX12_runsFrom_50 : decode cX12_runsFrom 50 = .ok (.aload_n 0, 1) := fp_dk fp_hdX12_runsFrom_50.1.1.1.1.1
theorem dX12_runsFrom_51 : decode cX12_runsFrom 51 = .ok (.sipush 360, 3) := fp_dk fp_hdX12_runsFrom_50.1.1.1.1.2
theorem dX12_runsFrom_54 : decode cX12_runsFrom 54 = .ok (.iload_n 3, 1) := fp_dk fp_hdX12_runsFrom_50.1.1.1.2.1
theorem dX12_runsFrom_55 : decode cX12_runsFrom 55 = .ok (.aload_n 0, 1) := fp_dk fp_hdX12_runsFrom_50.1.1.1.2.2
theorem dX12_runsFrom_56 : decode cX12_runsFrom 56 = .ok (.iload_n 1, 1) := fp_dk fp_hdX12_runsFrom_50.1.1.2.1.1
theorem dX12_runsFrom_57 : decode cX12_runsFrom 57 = .ok (.iload_n 3, 1) := fp_dk fp_hdX12_runsFrom_50.1.1.2.1.2
theorem dX12_runsFrom_58 : decode cX12_runsFrom 58 = .ok (.invokevirtual 280, 3) := fp_dk fp_hdX12_runsFrom_50.1.1.2.2.1
theorem dX12_runsFrom_61 : decode cX12_runsFrom 61 = .ok (.ifCond .eq 12, 3) := fp_dk fp_hdX12_runsFrom_50.1.1.2.2.2
theorem dX12_runsFrom_64 : decode cX12_runsFrom 64 = .ok (.aload_n 0, 1) := fp_dk fp_hdX12_runsFrom_50.1.2.1.1.1
theorem dX12_runsFrom_65 : decode cX12_runsFrom 65 = .ok (.getfield 50, 3) := fp_dk fp_hdX12_runsFrom_50.1.2.1.1.2
theorem dX12_runsFrom_68 : decode cX12_runsFrom 68 = .ok (.iload_n 3, 1) := fp_dk fp_hdX12_runsFrom_50.1.2.1.2.1
theorem dX12_runsFrom_69 : decode cX12_runsFrom 69 = .ok (.iaload, 1) := fp_dk fp_hdX12_runsFrom_50.1.2.1.2.2
theorem dX12_runsFrom_70 : decode cX12_runsFrom 70 = .ok (.goto 16, 3) := fp_dk fp_hdX12_runsFrom_50.1.2.2.1.1
theorem dX12_runsFrom_73 : decode cX12_runsFrom 73 = .ok (.aload_n 0, 1) := fp_dk fp_hdX12_runsFrom_50.1.2.2.1.2
theorem dX12_runsFrom_74 : decode cX12_runsFrom 74 = .ok (.getfield 7, 3) := fp_dk fp_hdX12_runsFrom_50.1.2.2.2.1
theorem dX12_runsFrom_77 : decode cX12_runsFrom 77 = .ok (.bipush 47, 2) := fp_dk fp_hdX12_runsFrom_50.1.2.2.2.2
theorem dX12_runsFrom_79 : decode cX12_runsFrom 79 = .ok (.iconst 4, 1) := fp_dk fp_hdX12_runsFrom_50.2.1.1.1.1
theorem dX12_runsFrom_80 : decode cX12_runsFrom 80 = .ok (.iload_n 3, 1) := fp_dk fp_hdX12_runsFrom_50.2.1.1.1.2
theorem dX12_runsFrom_81 : decode cX12_runsFrom 81 = .ok (.imul, 1) := fp_dk fp_hdX12_runsFrom_50.2.1.1.2.1
theorem dX12_runsFrom_82 : decode cX12_runsFrom 82 = .ok (.iadd, 1) := fp_dk fp_hdX12_runsFrom_50.2.1.1.2.2
theorem dX12_runsFrom_83 : decode cX12_runsFrom 83 = .ok (.iconst 2, 1) := fp_dk fp_hdX12_runsFrom_50.2.1.2.1.1
theorem dX12_runsFrom_84 : decode cX12_runsFrom 84 = .ok (.iadd, 1) := fp_dk fp_hdX12_runsFrom_50.2.1.2.1.2
theorem dX12_runsFrom_85 : decode cX12_runsFrom 85 = .ok (.iaload, 1) := fp_dk fp_hdX12_runsFrom_50.2.1.2.2.1
theorem dX12_runsFrom_86 : decode cX12_runsFrom 86 = .ok (.invokevirtual 257, 3) := fp_dk fp_hdX12_runsFrom_50.2.1.2.2.2
theorem dX12_runsFrom_89 : decode cX12_runsFrom 89 = .ok (.pop, 1) := fp_dk fp_hdX12_runsFrom_50.2.2.1.1.1
theorem dX12_runsFrom_90 : decode cX12_runsFrom 90 = .ok (.iinc 3 1, 3) := fp_dk fp_hdX12_runsFrom_50.2.2.1.1.2
theorem dX12_runsFrom_93 : decode cX12_runsFrom 93 = .ok (.goto (-56), 3) := fp_dk fp_hdX12_runsFrom_50.2.2.1.2.1
theorem dX12_runsFrom_96 : decode cX12_runsFrom 96 = .ok (.return_, 1) := fp_dk fp_hdX12_runsFrom_50.2.2.1.2.2
theorem dX12_nextLines_0 : decode cX12_nextLines 0 = .ok (.aload_n 0, 1) := fp_dk fp_hdX12_runsFrom_50.2.2.2.1.1
theorem dX12_nextLines_1 : decode cX12_nextLines 1 = .ok (.invokevirtual 225, 3) := fp_dk fp_hdX12_runsFrom_50.2.2.2.1.2
theorem dX12_nextLines_4 : decode cX12_nextLines 4 = .ok (.iconst 1, 1) := fp_dk fp_hdX12_runsFrom_50.2.2.2.2.1
theorem dX12_nextLines_5 : decode cX12_nextLines 5 = .ok (.isub, 1) := fp_dk fp_hdX12_runsFrom_50.2.2.2.2.2
theorem fp_hdX12_nextLines_6 : (((((fp_dq cX12_nextLines 6 (.istore_n 2, 1) = true ∧ fp_dq cX12_nextLines 7 (.iload_n 2, 1) = true) ∧ (fp_dq cX12_nextLines 8 (.ifCond .lt 50, 3) = true ∧ fp_dq cX12_nextLines 11 (.aload_n 0, 1) = true)) ∧ ((fp_dq cX12_nextLines 12 (.iload_n 1, 1) = true ∧ fp_dq cX12_nextLines 13 (.iload_n 2, 1) = true) ∧ (fp_dq cX12_nextLines 14 (.invokevirtual 280, 3) = true ∧ fp_dq cX12_nextLines 17 (.ifCond .eq 35, 3) = true))) ∧ (((fp_dq cX12_nextLines 20 (.aload_n 0, 1) = true ∧ fp_dq cX12_nextLines 21 (.getfield 50, 3) = true) ∧ (fp_dq cX12_nextLines 24 (.iload_n 2, 1) = true ∧ fp_dq cX12_nextLines 25 (.dup2, 1) = true)) ∧ ((fp_dq cX12_nextLines 26 (.iaload, 1) = true ∧ fp_dq cX12_nextLines 27 (.iconst 1, 1) = true) ∧ (fp_dq cX12_nextLines 28 (.iadd, 1) = true ∧ fp_dq cX12_nextLines 29 (.iastore, 1) = true)))) ∧ ((((fp_dq cX12_nextLines 30 (.aload_n 0, 1) = true ∧ fp_dq cX12_nextLines 31 (.getfield 50, 3) = true) ∧ (fp_dq cX12_nextLines 34 (.iload_n 2, 1) = true ∧ fp_dq cX12_nextLines 35 (.iaload, 1) = true)) ∧ ((fp_dq cX12_nextLines 36 (.aload_n 0, 1) = true ∧ fp_dq cX12_nextLines 37 (.getfield 184, 3) = true) ∧ (fp_dq cX12_nextLines 40 (.if_icmp .ge 5, 3) = true ∧ fp_dq cX12_nextLines 43 (.iload_n 2, 1) = true))) ∧ (((fp_dq cX12_nextLines 44 (.ireturn, 1) = true ∧ fp_dq cX12_nextLines 45 (.aload_n 0, 1) = true) ∧ (fp_dq cX12_nextLines 46 (.getfield 50, 3) = true ∧ fp_dq cX12_nextLines 49 (.iload_n 2, 1) = true)) ∧ ((fp_dq cX12_nextLines 50 (.iconst 0, 1) = true ∧ fp_dq cX12_nextLines 51 (.iastore, 1) = true) ∧ (fp_dq cX12_nextLines 52 (.iinc 2 (-1), 3) = true ∧ fp_dq cX12_nextLines 55 (.goto (-48), 3) = true))))) := by decide +kernel
theorem dX12_nextLines_6 : decode cX12_nextLines 6 = .ok (.istore_n 2, 1) := fp_dk fp_hdX12_nextLines_6.1.1.1.1.1
theorem dX12_nextLines_7 : decode cX12_nextLines 7 = .ok (.iload_n 2, 1) := fp_dk fp_hdX12_nextLines_6.1.1.1.1.2
theorem dX12_nextLines_8 : decode cX12_nextLines 8 = .ok (.ifCond .lt 50, 3) := fp_dk fp_hdX12_nextLines_6.1.1.1.2.1
theorem dX12_nextLines_11 : decode cX12_nextLines 11 = .ok (.aload_n 0, 1) := fp_dk fp_hdX12_nextLines_6.1.1.1.2.2
theorem dX12_nextLines_12 : decode cX12_nextLines 12 = .ok (.iload_n 1, 1) := fp_dk fp_hdX12_nextLines_6.1.1.2.1.1
theorem dX12_nextLines_13 : decode cX12_nextLines 13 = .ok (.iload_n 2, 1) := fp_dk fp_hdX12_nextLines_6.1.1.2.1.2
theorem dX12_nextLines_14 : decode cX12_nextLines 14 = .ok (.invokevirtual 280, 3) := fp_dk fp_hdX12_nextLines_6.1.1.2.2.1
theorem dX12_nextLines_17 : decode cX12_nextLines 17 = .ok (.ifCond .eq 35, 3) := fp_dk fp_hdX12_nextLines_6.1.1.2.2.2
theorem dX12_nextLines_20 : decode cX12_nextLines 20 = .ok (.aload_n 0, 1) := fp_dk fp_hdX12_nextLines_6.1.2.1.1.1
theorem dX12_nextLines_21 : decode cX12_nextLines 21 = .ok (.getfield 50, 3) := fp_dk fp_hdX12_nextLines_6.1.2.1.1.2
theorem dX12_nextLines_24 : decode cX12_nextLines 24 = .ok (.iload_n 2, 1) := fp_dk fp_hdX12_nextLines_6.1.2.1.2.1
theorem dX12_nextLines_25 : decode cX12_nextLines 25 = .ok (.dup2, 1) := fp_dk fp_hdX12_nextLines_6.1.2.1.2.2
theorem dX12_nextLines_26 : decode cX12_nextLines 26 = .ok (.iaload, 1) := fp_dk fp_hdX12_nextLines_6.1.2.2.1.1
theorem dX12_nextLines_27 : decode cX12_nextLines 27 = .ok (.iconst 1, 1) := fp_dk fp_hdX12_nextLines_6.1.2.2.1.2
theorem dX12_nextLines_28 : decode cX12_nextLines 28 = .ok (.iadd, 1) := fp_dk fp_hdX12_nextLines_6.1.2.2.2.1
theorem dX12_nextLines_29 : decode cX12_nextLines 29 = .ok (.iastore, 1) := fp_dk fp_hdX12_nextLines_6.1.2.2.2.2
theorem dX12_nextLines_30 : decode cX12_nextLines 30 = .ok (.aload_n 0, 1) := fp_dk fp_hdX12_nextLines_6.2.1.1.1.1
theorem dX12_nextLines_31 : decode cX12_nextLines 31 = .ok (.getfield 50, 3) := fp_dk fp_hdX12_nextLines_6.2.1.1.1.2
theorem dX12_nextLines_34 : decode cX12_nextLines 34 = .ok (.iload_n 2, 1) := fp_dk fp_hdX12_nextLines_6.2.1.1.2.1
theorem dX12_nextLines_35 : decode cX12_nextLines 35 = .ok (.iaload, 1) := fp_dk fp_hdX12_nextLines_6.2.1.1.2.2
theorem dX12_nextLines_36 : decode cX12_nextLines 36 = .ok (.aload_n 0, 1) := fp_dk fp_hdX12_nextLines_6.2.1.2.1.1
theorem dX12_nextLines_37 : decode cX12_nextLines 37 = .ok (.getfield 184, 3) := fp_dk fp_hdX12_nextLines_6.2.1.2.1.2
theorem dX12_nextLines_40 : decode cX12_nextLines 40 = .ok (.if_icmp .ge 5, 3) := fp_dk fp_hdX12_nextLines_6.2.1.2.2.1
theorem dX12_nextLines_43 : decode cX12_nextLines 43 = .ok (.iload_n 2, 1) := fp_dk fp_hdX12_nextLines_6.2.1.2.2.2
theorem dX12_nextLines_44 : decode cX12_nextLines 44 = .ok (.ireturn, 1) := fp_dk fp_hdX12_nextLines_6.2.2.1.1.1
theorem dX12_nextLines_45 : decode cX12_nextLines 45 = .ok (.aload_n 0, 1) := fp_dk fp_hdX12_nextLines_6.2.2.1.1.2
theorem dX12_nextLines_46 : decode cX12_nextLines 46 = .ok (.getfield 50, 3) := fp_dk fp_hdX12_nextLines_6.2.2.1.2.1
theorem dX12_nextLines_49 : decode cX12_nextLines 49 = .ok (.iload_n 2, 1) := fp_dk fp_hdX12_nextLines_6.2.2.1.2.2
theorem dX12_nextLines_50 : decode cX12_nextLines 50 = .ok (.iconst 0, 1) := fp_dk fp_hdX12_nextLines_6.2.2.2.1.1
theorem dX12_nextLines_51 : decode cX12_nextLines 51 = .ok (.iastore, 1) := fp_dk fp_hdX12_nextLines_6.2.2.2.1.2
theorem dX12_nextLines_52 : decode cX12_nextLines 52 = .ok (.iinc 2 (-1), 3) := fp_dk fp_hdX12_nextLines_6.2.2.2.2.1
theorem dX12_nextLines_55 : decode cX12_nextLines 55 = .ok (.goto (-48), 3) := fp_dk fp_hdX12_nextLines_6.2.2.2.2.2
theorem fp_hdX12_nextLines_58 : (((((fp_dq cX12_nextLines 58 (.bipush (-4), 2) = true ∧ fp_dq cX12_nextLines 60 (.ireturn, 1) = true) ∧ (fp_dq cX12_most 0 (.iload_n 1, 1) = true ∧ fp_dq cX12_most 1 (.invokestatic 228, 3) = true)) ∧ ((fp_dq cX12_most 4 (.ifCond .eq 26, 3) = true ∧ fp_dq cX12_most 7 (.iload_n 2, 1) = true) ∧ (fp_dq cX12_most 8 (.ifCond .eq 24, 3) = true ∧ fp_dq cX12_most 11 (.iload_n 2, 1) = true))) ∧ (((fp_dq cX12_most 12 (.i2l, 1) = true ∧ fp_dq cX12_most 13 (.ldc2_w 212, 3) = true) ∧ (fp_dq cX12_most 16 (.bipush 9, 2) = true ∧ fp_dq cX12_most 18 (.aload_n 0, 1) = true)) ∧ ((fp_dq cX12_most 19 (.invokevirtual 225, 3) = true ∧ fp_dq cX12_most 22 (.iadd, 1) = true) ∧ (fp_dq cX12_most 23 (.i2l, 1) = true ∧ fp_dq cX12_most 24 (.invokestatic 94, 3) = true)))) ∧ ((((fp_dq cX12_most 27 (.ifCond .ne 5, 3) = true ∧ fp_dq cX12_most 30 (.iconst (-1), 1) = true) ∧ (fp_dq cX12_most 31 (.ireturn, 1) = true ∧ fp_dq cX12_most 32 (.iconst 0, 1) = true)) ∧ ((fp_dq cX12_most 33 (.istore_n 3, 1) = true ∧ fp_dq cX12_most 34 (.iconst 0, 1) = true) ∧ (fp_dq cX12_most 35 (.istore 4, 2) = true ∧ fp_dq cX12_most 37 (.iload 4, 2) = true))) ∧ (((fp_dq cX12_most 39 (.bipush 12, 2) = true ∧ fp_dq cX12_most 41 (.if_icmp .ge 44, 3) = true) ∧ (fp_dq cX12_most 44 (.aload_n 0, 1) = true ∧ fp_dq cX12_most 45 (.getfield 50, 3) = true)) ∧ ((fp_dq cX12_most 48 (.iload 4, 2) = true ∧ fp_dq cX12_most 50 (.iconst 0, 1) = true) ∧ (fp_dq cX12_most 51 (.iastore, 1) = true ∧ fp_dq cX12_most 52 (.iload_n 3, 1) = true))))) := by decide +kernel
theorem dX12_nextLines_58 : decode cX12_nextLines 58 = .ok (.bipush (-4), 2) := fp_dk fp_hdX12_nextLines_58.1.1.1.1.1
theorem dX12_nextLines_60 : decode cX12_nextLines 60 = .ok (.ireturn, 1) := fp_dk fp_hdX12_nextLines_58.1.1.1.1.2
theorem dX12_most_0 : decode cX12_most 0 = .ok (.iload_n 1, 1) := fp_dk fp_hdX12_nextLines_58.1.1.1.2.1
theorem dX12_most_1 : decode cX12_most 1 = .ok (.invokestatic 228, 3) := fp_dk fp_hdX12_nextLines_58.1.1.1.2.2
theorem dX12_most_4 : decode cX12_most 4 = .ok (.ifCond .eq 26, 3) := fp_dk fp_hdX12_nextLines_58.1.1.2.1.1
theorem dX12_most_7 : decode cX12_most 7 = .ok (.iload_n 2, 1) := fp_dk fp_hdX12_nextLines_58.1.1.2.1.2
theorem dX12_most_8 : decode cX12_most 8 = .ok (.ifCond .eq 24, 3) := fp_dk fp_hdX12_nextLines_58.1.1.2.2.1
theorem dX12_most_11 : decode cX12_most 11 = .ok (.iload_n 2, 1) := fp_dk fp_hdX12_nextLines_58.1.1.2.2.2
theorem dX12_most_12 : decode cX12_most 12 = .ok (.i2l, 1) := fp_dk fp_hdX12_nextLines_58.1.2.1.1.1
theorem dX12_most_13 : decode cX12_most 13 = .ok (.ldc2_w 212, 3) := fp_dk fp_hdX12_nextLines_58.1.2.1.1.2
theorem dX12_most_16 : decode cX12_most 16 = .ok (.bipush 9, 2) := fp_dk fp_hdX12_nextLines_58.1.2.1.2.1
theorem dX12_most_18 : decode cX12_most 18 = .ok (.aload_n 0, 1) := fp_dk fp_hdX12_nextLines_58.1.2.1.2.2
theorem dX12_most_19 : decode cX12_most 19 = .ok (.invokevirtual 225, 3) := fp_dk fp_hdX12_nextLines_58.1.2.2.1.1
theorem dX12_most_22 : decode cX12_most 22 = .ok (.iadd, 1) := fp_dk fp_hdX12_nextLines_58.1.2.2.1.2
theorem dX12_most_23 : decode cX12_most 23 = .ok (.i2l, 1) := fp_dk fp_hdX12_nextLines_58.1.2.2.2.1
theorem dX12_most_24 : decode cX12_most 24 = .ok (.invokestatic 94, 3) := fp_dk fp_hdX12_nextLines_58.1.2.2.2.2
theorem dX12_most_27 : decode cX12_most 27 = .ok (.ifCond .ne 5, 3) := fp_dk fp_hdX12_nextLines_58.2.1.1.1.1
theorem dX12_most_30 : decode cX12_most 30 = .ok (.iconst (-1), 1) := fp_dk fp_hdX12_nextLines_58.2.1.1.1.2
theorem dX12_most_31 : decode cX12_most 31 = .ok (.ireturn, 1) := fp_dk fp_hdX12_nextLines_58.2.1.1.2.1
theorem dX12_most_32 : decode cX12_most 32 = .ok (.iconst 0, 1) := fp_dk fp_hdX12_nextLines_58.2.1.1.2.2
theorem dX12_most_33 : decode cX12_most 33 = .ok (.istore_n 3, 1) := fp_dk fp_hdX12_nextLines_58.2.1.2.1.1
theorem dX12_most_34 : decode cX12_most 34 = .ok (.iconst 0, 1) := fp_dk fp_hdX12_nextLines_58.2.1.2.1.2
theorem dX12_most_35 : decode cX12_most 35 = .ok (.istore 4, 2) := fp_dk fp_hdX12_nextLines_58.2.1.2.2.1
theorem dX12_most_37 : decode cX12_most 37 = .ok (.iload 4, 2) := fp_dk fp_hdX12_nextLines_58.2.1.2.2.2
theorem dX12_most_39 : decode cX12_most 39 = .ok (.bipush 12, 2) := fp_dk fp_hdX12_nextLines_58.2.2.1.1.1
theorem dX12_most_41 : decode cX12_most 41 = .ok (.if_icmp .ge 44, 3) := fp_dk fp_hdX12_nextLines_58.2.2.1.1.2
theorem dX12_most_44 : decode cX12_most 44 = .ok (.aload_n 0, 1) := fp_dk fp_hdX12_nextLines_58.2.2.1.2.1
theorem dX12_most_45 : decode cX12_most 45 = .ok (.getfield 50, 3) := fp_dk fp_hdX12_nextLines_58.2.2.1.2.2
theorem dX12_most_48 : decode cX12_most 48 = .ok (.iload 4, 2) := fp_dk fp_hdX12_nextLines_58.2.2.2.1.1
theorem dX12_most_50 : decode cX12_most 50 = .ok (.iconst 0, 1) := fp_dk fp_hdX12_nextLines_58.2.2.2.1.2
theorem dX12_most_51 : decode cX12_most 51 = .ok (.iastore, 1) := fp_dk fp_hdX12_nextLines_58.2.2.2.2.1
theorem dX12_most_52 : decode cX12_most 52 = .ok (.iload_n 3, 1) := fp_dk fp_hdX12_nextLines_58.2.2.2.2.2
theorem fp_hdX12_most_53 : (((((fp_dq cX12_most 53 (.iload 4, 2) = true ∧ fp_dq cX12_most 55 (.aload_n 0, 1) = true) ∧ (fp_dq cX12_most 56 (.invokevirtual 225, 3) = true ∧ fp_dq cX12_most 59 (.if_icmp .ge 17, 3) = true)) ∧ ((fp_dq cX12_most 62 (.aload_n 0, 1) = true ∧ fp_dq cX12_most 63 (.iload_n 1, 1) = true) ∧ (fp_dq cX12_most 64 (.iload 4, 2) = true ∧ fp_dq cX12_most 66 (.invokevirtual 280, 3) = true))) ∧ (((fp_dq cX12_most 69 (.ifCond .eq 7, 3) = true ∧ fp_dq cX12_most 72 (.iconst 1, 1) = true) ∧ (fp_dq cX12_most 73 (.goto 4, 3) = true ∧ fp_dq cX12_most 76 (.iconst 0, 1) = true)) ∧ ((fp_dq cX12_most 77 (.iadd, 1) = true ∧ fp_dq cX12_most 78 (.istore_n 3, 1) = true) ∧ (fp_dq cX12_most 79 (.iinc 4 1, 3) = true ∧ fp_dq cX12_most 82 (.goto (-45), 3) = true)))) ∧ ((((fp_dq cX12_most 85 (.aload_n 0, 1) = true ∧ fp_dq cX12_most 86 (.getfield 184, 3) = true) ∧ (fp_dq cX12_most 89 (.ifCond .eq 9, 3) = true ∧ fp_dq cX12_most 92 (.iload_n 3, 1) = true)) ∧ ((fp_dq cX12_most 93 (.bipush 7, 2) = true ∧ fp_dq cX12_most 95 (.if_icmp .le 6, 3) = true) ∧ (fp_dq cX12_most 98 (.bipush (-2), 2) = true ∧ fp_dq cX12_most 100 (.ireturn, 1) = true))) ∧ (((fp_dq cX12_most 101 (.aload_n 0, 1) = true ∧ fp_dq cX12_most 102 (.iconst 0, 1) = true) ∧ (fp_dq cX12_most 103 (.sipush 360, 3) = true ∧ fp_dq cX12_most 106 (.invokevirtual 265, 3) = true)) ∧ ((fp_dq cX12_most 109 (.aload_n 0, 1) = true ∧ fp_dq cX12_most 110 (.iconst 0, 1) = true) ∧ (fp_dq cX12_most 111 (.invokevirtual 277, 3) = true ∧ fp_dq cX12_most 114 (.bipush (-4), 2) = true))))) := by decide +kernel
theorem dX12_most_53 : decode cX12_most 53 = .ok (.iload 4, 2) := fp_dk fp_hdX12_most_53.1.1.1.1.1
theorem dX12_most_55 : decode cX12_most 55 = .ok (.aload_n 0, 1) := fp_dk fp_hdX12_most_53.1.1.1.1.2
theorem dX12_most_56 : decode cX12_most 56 = .ok (.invokevirtual 225, 3) := fp_dk fp_hdX12_most_53.1.1.1.2.1
theorem dX12_most_59 : decode cX12_most 59 = .ok (.if_icmp .ge 17, 3) := fp_dk fp_hdX12_most_53.1.1.1.2.2
theorem dX12_most_62 : decode cX12_most 62 = .ok (.aload_n 0, 1) := fp_dk fp_hdX12_most_53.1.1.2.1.1
theorem dX12_most_63 : decode cX12_most 63 = .ok (.iload_n 1, 1) := fp_dk fp_hdX12_most_53.1.1.2.1.2
theorem dX12_most_64 : decode cX12_most 64 = .ok (.iload 4, 2) := fp_dk fp_hdX12_most_53.1.1.2.2.1
theorem dX12_most_66 : decode cX12_most 66 = .ok (.invokevirtual 280, 3) := fp_dk fp_hdX12_most_53.1.1.2.2.2
theorem dX12_most_69 : decode cX12_most 69 = .ok (.ifCond .eq 7, 3) := fp_dk fp_hdX12_most_53.1.2.1.1.1
theorem dX12_most_72 : decode cX12_most 72 = .ok (.iconst 1, 1) := fp_dk fp_hdX12_most_53.1.2.1.1.2
theorem dX12_most_73 : decode cX12_most 73 = .ok (.goto 4, 3) := fp_dk fp_hdX12_most_53.1.2.1.2.1
theorem dX12_most_76 : decode cX12_most 76 = .ok (.iconst 0, 1) := fp_dk fp_hdX12_most_53.1.2.1.2.2
theorem dX12_most_77 : decode cX12_most 77 = .ok (.iadd, 1) := fp_dk fp_hdX12_most_53.1.2.2.1.1
theorem dX12_most_78 : decode cX12_most 78 = .ok (.istore_n 3, 1) := fp_dk fp_hdX12_most_53.1.2.2.1.2
theorem dX12_most_79 : decode cX12_most 79 = .ok (.iinc 4 1, 3) := fp_dk fp_hdX12_most_53.1.2.2.2.1
theorem dX12_most_82 : decode cX12_most 82 = .ok (.goto (-45), 3) := fp_dk fp_hdX12_most_53.1.2.2.2.2
theorem dX12_most_85 : decode cX12_most 85 = .ok (.aload_n 0, 1) := fp_dk fp_hdX12_most_53.2.1.1.1.1
theorem dX12_most_86 : decode cX12_most 86 = .ok (.getfield 184, 3) := fp_dk fp_hdX12_most_53.2.1.1.1.2
theorem dX12_most_89 : decode cX12_most 89 = .ok (.ifCond .eq 9, 3) := fp_dk fp_hdX12_most_53.2.1.1.2.1
theorem dX12_most_92 : decode cX12_most 92 = .ok (.iload_n 3, 1) := fp_dk fp_hdX12_most_53.2.1.1.2.2
theorem dX12_most_93 : decode cX12_most 93 = .ok (.bipush 7, 2) := fp_dk fp_hdX12_most_53.2.1.2.1.1
theorem dX12_most_95 : decode cX12_most 95 = .ok (.if_icmp .le 6, 3) := fp_dk fp_hdX12_most_53.2.1.2.1.2
theorem dX12_most_98 : decode cX12_most 98 = .ok (.bipush (-2), 2) := fp_dk fp_hdX12_most_53.2.1.2.2.1
theorem dX12_most_100 : decode cX12_most 100 = .ok (.ireturn, 1) := fp_dk fp_hdX12_most_53.2.1.2.2.2
theorem dX12_most_101 : decode cX12_most 101 = .ok (.aload_n 0, 1) := fp_dk fp_hdX12_most_53.2.2.1.1.1
theorem dX12_most_102 : decode cX12_most 102 = .ok (.iconst 0, 1) := fp_dk fp_hdX12_most_53.2.2.1.1.2
theorem dX12_most_103 : decode cX12_most 103 = .ok (.sipush 360, 3) := fp_dk fp_hdX12_most_53.2.2.1.2.1
theorem dX12_most_106 : decode cX12_most 106 = .ok (.invokevirtual 265, 3) := fp_dk fp_hdX12_most_53.2.2.1.2.2
theorem dX12_most_109 : decode cX12_most 109 = .ok (.aload_n 0, 1) := fp_dk fp_hdX12_most_53.2.2.2.1.1
theorem dX12_most_110 : decode cX12_most 110 = .ok (.iconst 0, 1) := fp_dk fp_hdX12_most_53.2.2.2.1.2
theorem dX12_most_111 : decode cX12_most 111 = .ok (.invokevirtual 277, 3) := fp_dk fp_hdX12_most_53.2.2.2.2.1
theorem dX12_most_114 : decode cX12_most 114 = .ok (.bipush (-4), 2) := fp_dk fp_hdX12_most_53.2.2.2.2.2
theorem fp_hdX12_most_116 : (((((fp_dq cX12_most 116 (.istore 4, 2) = true ∧ fp_dq cX12_most 118 (.iconst 0, 1) = true) ∧ (fp_dq cX12_most 119 (.istore 5, 2) = true ∧ fp_dq cX12_most 121 (.iload 5, 2) = true)) ∧ ((fp_dq cX12_most 123 (.bipush (-4), 2) = true ∧ fp_dq cX12_most 125 (.if_icmp .eq 100, 3) = true) ∧ (fp_dq cX12_most 128 (.aload_n 0, 1) = true ∧ fp_dq cX12_most 129 (.iload_n 1, 1) = true))) ∧ (((fp_dq cX12_most 130 (.iload 5, 2) = true ∧ fp_dq cX12_most 132 (.invokevirtual 283, 3) = true) ∧ (fp_dq cX12_most 135 (.aload_n 0, 1) = true ∧ fp_dq cX12_most 136 (.sipush 360, 3) = true)) ∧ ((fp_dq cX12_most 139 (.iload_n 1, 1) = true ∧ fp_dq cX12_most 140 (.invokevirtual 234, 3) = true) ∧ (fp_dq cX12_most 143 (.istore 6, 2) = true ∧ fp_dq cX12_most 145 (.iconst 0, 1) = true)))) ∧ ((((fp_dq cX12_most 146 (.istore 7, 2) = true ∧ fp_dq cX12_most 148 (.iload 7, 2) = true) ∧ (fp_dq cX12_most 150 (.aload_n 0, 1) = true ∧ fp_dq cX12_most 151 (.invokevirtual 225, 3) = true)) ∧ ((fp_dq cX12_most 154 (.if_icmp .ge 45, 3) = true ∧ fp_dq cX12_most 157 (.iload 6, 2) = true) ∧ (fp_dq cX12_most 159 (.iload 4, 2) = true ∧ fp_dq cX12_most 161 (.if_icmp .le 38, 3) = true))) ∧ (((fp_dq cX12_most 164 (.aload_n 0, 1) = true ∧ fp_dq cX12_most 165 (.getfield 53, 3) = true) ∧ (fp_dq cX12_most 168 (.iload 7, 2) = true ∧ fp_dq cX12_most 170 (.aload_n 0, 1) = true)) ∧ ((fp_dq cX12_most 171 (.iload_n 1, 1) = true ∧ fp_dq cX12_most 172 (.iload 7, 2) = true) ∧ (fp_dq cX12_most 174 (.invokevirtual 280, 3) = true ∧ fp_dq cX12_most 177 (.ifCond .eq 13, 3) = true))))) := by decide +kernel
theorem dX12_most_116 : decode cX12_most 116 = .ok (.istore 4, 2) := fp_dk fp_hdX12_most_116.1.1.1.1.1
theorem dX12_most_118 : decode cX12_most 118 = .ok (.iconst 0, 1) := fp_dk fp_hdX12_most_116.1.1.1.1.2
theorem dX12_most_119 : decode cX12_most 119 = .ok (.istore 5, 2) := fp_dk fp_hdX12_most_116.1.1.1.2.1
theorem dX12_most_121 : decode cX12_most 121 = .ok (.iload 5, 2) := fp_dk fp_hdX12_most_116.1.1.1.2.2
theorem dX12_most_123 : decode cX12_most 123 = .ok (.bipush (-4), 2) := fp_dk fp_hdX12_most_116.1.1.2.1.1
theorem dX12_most_125 : decode cX12_most 125 = .ok (.if_icmp .eq 100, 3) := fp_dk fp_hdX12_most_116.1.1.2.1.2
theorem dX12_most_128 : decode cX12_most 128 = .ok (.aload_n 0, 1) := fp_dk fp_hdX12_most_116.1.1.2.2.1
theorem dX12_most_129 : decode cX12_most 129 = .ok (.iload_n 1, 1) := fp_dk fp_hdX12_most_116.1.1.2.2.2
theorem dX12_most_130 : decode cX12_most 130 = .ok (.iload 5, 2) := fp_dk fp_hdX12_most_116.1.2.1.1.1
theorem dX12_most_132 : decode cX12_most 132 = .ok (.invokevirtual 283, 3) := fp_dk fp_hdX12_most_116.1.2.1.1.2
theorem dX12_most_135 : decode cX12_most 135 = .ok (.aload_n 0, 1) := fp_dk fp_hdX12_most_116.1.2.1.2.1
theorem dX12_most_136 : decode cX12_most 136 = .ok (.sipush 360, 3) := fp_dk fp_hdX12_most_116.1.2.1.2.2
theorem dX12_most_139 : decode cX12_most 139 = .ok (.iload_n 1, 1) := fp_dk fp_hdX12_most_116.1.2.2.1.1
theorem dX12_most_140 : decode cX12_most 140 = .ok (.invokevirtual 234, 3) := fp_dk fp_hdX12_most_116.1.2.2.1.2
theorem dX12_most_143 : decode cX12_most 143 = .ok (.istore 6, 2) := fp_dk fp_hdX12_most_116.1.2.2.2.1
theorem dX12_most_145 : decode cX12_most 145 = .ok (.iconst 0, 1) := fp_dk fp_hdX12_most_116.1.2.2.2.2
theorem dX12_most_146 : decode cX12_most 146 = .ok (.istore 7, 2) := fp_dk fp_hdX12_most_116.2.1.1.1.1
theorem dX12_most_148 : decode cX12_most 148 = .ok (.iload 7, 2) := fp_dk fp_hdX12_most_116.2.1.1.1.2
theorem dX12_most_150 : decode cX12_most 150 = .ok (.aload_n 0, 1) := fp_dk fp_hdX12_most_116.2.1.1.2.1
theorem dX12_most_151 : decode cX12_most 151 = .ok (.invokevirtual 225, 3) := fp_dk fp_hdX12_most_116.2.1.1.2.2
theorem dX12_most_154 : decode cX12_most 154 = .ok (.if_icmp .ge 45, 3) := fp_dk fp_hdX12_most_116.2.1.2.1.1
theorem dX12_most_157 : decode cX12_most 157 = .ok (.iload 6, 2) := fp_dk fp_hdX12_most_116.2.1.2.1.2
theorem dX12_most_159 : decode cX12_most 159 = .ok (.iload 4, 2) := fp_dk fp_hdX12_most_116.2.1.2.2.1
theorem dX12_most_161 : decode cX12_most 161 = .ok (.if_icmp .le 38, 3) := fp_dk fp_hdX12_most_116.2.1.2.2.2
theorem dX12_most_164 : decode cX12_most 164 = .ok (.aload_n 0, 1) := fp_dk fp_hdX12_most_116.2.2.1.1.1
theorem dX12_most_165 : decode cX12_most 165 = .ok (.getfield 53, 3) := fp_dk fp_hdX12_most_116.2.2.1.1.2
theorem dX12_most_168 : decode cX12_most 168 = .ok (.iload 7, 2) := fp_dk fp_hdX12_most_116.2.2.1.2.1
theorem dX12_most_170 : decode cX12_most 170 = .ok (.aload_n 0, 1) := fp_dk fp_hdX12_most_116.2.2.1.2.2
theorem dX12_most_171 : decode cX12_most 171 = .ok (.iload_n 1, 1) := fp_dk fp_hdX12_most_116.2.2.2.1.1
theorem dX12_most_172 : decode cX12_most 172 = .ok (.iload 7, 2) := fp_dk fp_hdX12_most_116.2.2.2.1.2
theorem dX12_most_174 : decode cX12_most 174 = .ok (.invokevirtual 280, 3) := fp_dk fp_hdX12_most_116.2.2.2.2.1
theorem dX12_most_177 : decode cX12_most 177 = .ok (.ifCond .eq 13, 3) := fp_dk fp_hdX12_most_116.2.2.2.2.2
theorem fp_hdX12_most_180 : (((((fp_dq cX12_most 180 (.aload_n 0, 1) = true ∧ fp_dq cX12_most 181 (.getfield 50, 3) = true) ∧ (fp_dq cX12_most 184 (.iload 7, 2) = true ∧ fp_dq cX12_most 186 (.iaload, 1) = true)) ∧ ((fp_dq cX12_most 187 (.goto 5, 3) = true ∧ fp_dq cX12_most 190 (.bipush (-4), 2) = true) ∧ (fp_dq cX12_most 192 (.iastore, 1) = true ∧ fp_dq cX12_most 193 (.iinc 7 1, 3) = true))) ∧ (((fp_dq cX12_most 196 (.goto (-48), 3) = true ∧ fp_dq cX12_most 199 (.iload 6, 2) = true) ∧ (fp_dq cX12_most 201 (.iload 4, 2) = true ∧ fp_dq cX12_most 203 (.if_icmp .le 8, 3) = true)) ∧ ((fp_dq cX12_most 206 (.iload 6, 2) = true ∧ fp_dq cX12_most 208 (.goto 5, 3) = true) ∧ (fp_dq cX12_most 211 (.iload 4, 2) = true ∧ fp_dq cX12_most 213 (.istore 4, 2) = true)))) ∧ ((((fp_dq cX12_most 215 (.aload_n 0, 1) = true ∧ fp_dq cX12_most 216 (.iload_n 1, 1) = true) ∧ (fp_dq cX12_most 217 (.invokevirtual 286, 3) = true ∧ fp_dq cX12_most 220 (.istore 5, 2) = true)) ∧ ((fp_dq cX12_most 222 (.goto (-101), 3) = true ∧ fp_dq cX12_most 225 (.iload_n 2, 1) = true) ∧ (fp_dq cX12_most 226 (.ifCond .ne 8, 3) = true ∧ fp_dq cX12_most 229 (.iload 4, 2) = true))) ∧ (((fp_dq cX12_most 231 (.goto 12, 3) = true ∧ fp_dq cX12_most 234 (.aload_n 0, 1) = true) ∧ (fp_dq cX12_most 235 (.getfield 53, 3) = true ∧ fp_dq cX12_most 238 (.iload_n 2, 1) = true)) ∧ ((fp_dq cX12_most 239 (.bipush 10, 2) = true ∧ fp_dq cX12_most 241 (.isub, 1) = true) ∧ (fp_dq cX12_most 242 (.iaload, 1) = true ∧ fp_dq cX12_most 243 (.ireturn, 1) = true))))) := by decide +kernel
theorem dX12_most_180 : decode cX12_most 180 = .ok (.aload_n 0, 1) := fp_dk fp_hdX12_most_180.1.1.1.1.1
theorem dX12_most_181 : decode cX12_most 181 = .ok (.getfield 50, 3) := fp_dk fp_hdX12_most_180.1.1.1.1.2
theorem dX12_most_184 : decode cX12_most 184 = .ok (.iload 7, 2) := fp_dk fp_hdX12_most_180.1.1.1.2.1
theorem dX12_most_186 : decode cX12_most 186 = .ok (.iaload, 1) := fp_dk fp_hdX12_most_180.1.1.1.2.2
theorem dX12_most_187 : decode cX12_most 187 = .ok (.goto 5, 3) := fp_dk fp_hdX12_most_180.1.1.2.1.1
theorem dX12_most_190 : decode cX12_most 190 = .ok (.bipush (-4), 2) := fp_dk fp_hdX12_most_180.1.1.2.1.2
theorem dX12_most_192 : decode cX12_most 192 = .ok (.iastore, 1) := fp_dk fp_hdX12_most_180.1.1.2.2.1
theorem dX12_most_193 : decode cX12_most 193 = .ok (.iinc 7 1, 3) := fp_dk fp_hdX12_most_180.1.1.2.2.2
theorem dX12_most_196 : decode cX12_most 196 = .ok (.goto (-48), 3) := fp_dk fp_hdX12_most_180.1.2.1.1.1
theorem dX12_most_199 : decode cX12_most 199 = .ok (.iload 6, 2) := fp_dk fp_hdX12_most_180.1.2.1.1.2
theorem dX12_most_201 : decode cX12_most 201 = .ok (.iload 4, 2) := fp_dk fp_hdX12_most_180.1.2.1.2.1
theorem dX12_most_203 : decode cX12_most 203 = .ok (.if_icmp .le 8, 3) := fp_dk fp_hdX12_most_180.1.2.1.2.2
theorem dX12_most_206 : decode cX12_most 206 = .ok (.iload 6, 2) := fp_dk fp_hdX12_most_180.1.2.2.1.1
theorem dX12_most_208 : decode cX12_most 208 = .ok (.goto 5, 3) := fp_dk fp_hdX12_most_180.1.2.2.1.2
theorem dX12_most_211 : decode cX12_most 211 = .ok (.iload 4, 2) := fp_dk fp_hdX12_most_180.1.2.2.2.1
theorem dX12_most_213 : decode cX12_most 213 = .ok (.istore 4, 2) := fp_dk fp_hdX12_most_180.1.2.2.2.2
theorem dX12_most_215 : decode cX12_most 215 = .ok (.aload_n 0, 1) := fp_dk fp_hdX12_most_180.2.1.1.1.1
theorem dX12_most_216 : decode cX12_most 216 = .ok (.iload_n 1, 1) := fp_dk fp_hdX12_most_180.2.1.1.1.2
theorem dX12_most_217 : decode cX12_most 217 = .ok (.invokevirtual 286, 3) := fp_dk fp_hdX12_most_180.2.1.1.2.1
theorem dX12_most_220 : decode cX12_most 220 = .ok (.istore 5, 2) := fp_dk fp_hdX12_most_180.2.1.1.2.2
theorem dX12_most_222 : decode cX12_most 222 = .ok (.goto (-101), 3) := fp_dk fp_hdX12_most_180.2.1.2.1.1
theorem dX12_most_225 : decode cX12_most 225 = .ok (.iload_n 2, 1) := fp_dk fp_hdX12_most_180.2.1.2.1.2
theorem dX12_most_226 : decode cX12_most 226 = .ok (.ifCond .ne 8, 3) := fp_dk fp_hdX12_most_180.2.1.2.2.1
theorem dX12_most_229 : decode cX12_most 229 = .ok (.iload 4, 2) := fp_dk fp_hdX12_most_180.2.1.2.2.2
theorem dX12_most_231 : decode cX12_most 231 = .ok (.goto 12, 3) := fp_dk fp_hdX12_most_180.2.2.1.1.1
theorem dX12_most_234 : decode cX12_most 234 = .ok (.aload_n 0, 1) := fp_dk fp_hdX12_most_180.2.2.1.1.2
theorem dX12_most_235 : decode cX12_most 235 = .ok (.getfield 53, 3) := fp_dk fp_hdX12_most_180.2.2.1.2.1
theorem dX12_most_238 : decode cX12_most 238 = .ok (.iload_n 2, 1) := fp_dk fp_hdX12_most_180.2.2.1.2.2
theorem dX12_most_239 : decode cX12_most 239 = .ok (.bipush 10, 2) := fp_dk fp_hdX12_most_180.2.2.2.1.1
theorem dX12_most_241 : decode cX12_most 241 = .ok (.isub, 1) := fp_dk fp_hdX12_most_180.2.2.2.1.2
theorem dX12_most_242 : decode cX12_most 242 = .ok (.iaload, 1) := fp_dk fp_hdX12_most_180.2.2.2.2.1
theorem dX12_most_243 : decode cX12_most 243 = .ok (.ireturn, 1) := fp_dk fp_hdX12_most_180.2.2.2.2.2
theorem fp_hdX12_layChances_0 : (((((fp_dq cX12_layChances 0 (.aload_n 0, 1) = true ∧ fp_dq cX12_layChances 1 (.invokevirtual 225, 3) = true) ∧ (fp_dq cX12_layChances 4 (.istore_n 2, 1) = true ∧ fp_dq cX12_layChances 5 (.aload_n 0, 1) = true)) ∧ ((fp_dq cX12_layChances 6 (.lconst 1, 1) = true ∧ fp_dq cX12_layChances 7 (.putfield 289, 3) = true) ∧ (fp_dq cX12_layChances 10 (.iconst 0, 1) = true ∧ fp_dq cX12_layChances 11 (.istore_n 3, 1) = true))) ∧ (((fp_dq cX12_layChances 12 (.iload_n 3, 1) = true ∧ fp_dq cX12_layChances 13 (.bipush 10, 2) = true) ∧ (fp_dq cX12_layChances 15 (.if_icmp .ge 16, 3) = true ∧ fp_dq cX12_layChances 18 (.aload_n 0, 1) = true)) ∧ ((fp_dq cX12_layChances 19 (.getfield 56, 3) = true ∧ fp_dq cX12_layChances 22 (.iload_n 3, 1) = true) ∧ (fp_dq cX12_layChances 23 (.lconst 0, 1) = true ∧ fp_dq cX12_layChances 24 (.lastore, 1) = true)))) ∧ ((((fp_dq cX12_layChances 25 (.iinc 3 1, 3) = true ∧ fp_dq cX12_layChances 28 (.goto (-16), 3) = true) ∧ (fp_dq cX12_layChances 31 (.iconst 0, 1) = true ∧ fp_dq cX12_layChances 32 (.istore_n 3, 1) = true)) ∧ ((fp_dq cX12_layChances 33 (.iload_n 3, 1) = true ∧ fp_dq cX12_layChances 34 (.iload_n 2, 1) = true) ∧ (fp_dq cX12_layChances 35 (.if_icmp .ge 21, 3) = true ∧ fp_dq cX12_layChances 38 (.aload_n 0, 1) = true))) ∧ (((fp_dq cX12_layChances 39 (.dup, 1) = true ∧ fp_dq cX12_layChances 40 (.getfield 289, 3) = true) ∧ (fp_dq cX12_layChances 43 (.ldc2_w 212, 3) = true ∧ fp_dq cX12_layChances 46 (.lmul, 1) = true)) ∧ ((fp_dq cX12_layChances 47 (.putfield 289, 3) = true ∧ fp_dq cX12_layChances 50 (.iinc 3 1, 3) = true) ∧ (fp_dq cX12_layChances 53 (.goto (-20), 3) = true ∧ fp_dq cX12_layChances 56 (.iconst 0, 1) = true))))) := by decide +kernel
theorem dX12_layChances_0 : decode cX12_layChances 0 = .ok (.aload_n 0, 1) := fp_dk fp_hdX12_layChances_0.1.1.1.1.1
theorem dX12_layChances_1 : decode cX12_layChances 1 = .ok (.invokevirtual 225, 3) := fp_dk fp_hdX12_layChances_0.1.1.1.1.2
theorem dX12_layChances_4 : decode cX12_layChances 4 = .ok (.istore_n 2, 1) := fp_dk fp_hdX12_layChances_0.1.1.1.2.1
theorem dX12_layChances_5 : decode cX12_layChances 5 = .ok (.aload_n 0, 1) := fp_dk fp_hdX12_layChances_0.1.1.1.2.2
theorem dX12_layChances_6 : decode cX12_layChances 6 = .ok (.lconst 1, 1) := fp_dk fp_hdX12_layChances_0.1.1.2.1.1
theorem dX12_layChances_7 : decode cX12_layChances 7 = .ok (.putfield 289, 3) := fp_dk fp_hdX12_layChances_0.1.1.2.1.2
theorem dX12_layChances_10 : decode cX12_layChances 10 = .ok (.iconst 0, 1) := fp_dk fp_hdX12_layChances_0.1.1.2.2.1
theorem dX12_layChances_11 : decode cX12_layChances 11 = .ok (.istore_n 3, 1) := fp_dk fp_hdX12_layChances_0.1.1.2.2.2
theorem dX12_layChances_12 : decode cX12_layChances 12 = .ok (.iload_n 3, 1) := fp_dk fp_hdX12_layChances_0.1.2.1.1.1
theorem dX12_layChances_13 : decode cX12_layChances 13 = .ok (.bipush 10, 2) := fp_dk fp_hdX12_layChances_0.1.2.1.1.2
theorem dX12_layChances_15 : decode cX12_layChances 15 = .ok (.if_icmp .ge 16, 3) := fp_dk fp_hdX12_layChances_0.1.2.1.2.1
theorem dX12_layChances_18 : decode cX12_layChances 18 = .ok (.aload_n 0, 1) := fp_dk fp_hdX12_layChances_0.1.2.1.2.2
theorem dX12_layChances_19 : decode cX12_layChances 19 = .ok (.getfield 56, 3) := fp_dk fp_hdX12_layChances_0.1.2.2.1.1
theorem dX12_layChances_22 : decode cX12_layChances 22 = .ok (.iload_n 3, 1) := fp_dk fp_hdX12_layChances_0.1.2.2.1.2
theorem dX12_layChances_23 : decode cX12_layChances 23 = .ok (.lconst 0, 1) := fp_dk fp_hdX12_layChances_0.1.2.2.2.1
theorem dX12_layChances_24 : decode cX12_layChances 24 = .ok (.lastore, 1) := fp_dk fp_hdX12_layChances_0.1.2.2.2.2
theorem dX12_layChances_25 : decode cX12_layChances 25 = .ok (.iinc 3 1, 3) := fp_dk fp_hdX12_layChances_0.2.1.1.1.1
theorem dX12_layChances_28 : decode cX12_layChances 28 = .ok (.goto (-16), 3) := fp_dk fp_hdX12_layChances_0.2.1.1.1.2
theorem dX12_layChances_31 : decode cX12_layChances 31 = .ok (.iconst 0, 1) := fp_dk fp_hdX12_layChances_0.2.1.1.2.1
theorem dX12_layChances_32 : decode cX12_layChances 32 = .ok (.istore_n 3, 1) := fp_dk fp_hdX12_layChances_0.2.1.1.2.2
theorem dX12_layChances_33 : decode cX12_layChances 33 = .ok (.iload_n 3, 1) := fp_dk fp_hdX12_layChances_0.2.1.2.1.1
theorem dX12_layChances_34 : decode cX12_layChances 34 = .ok (.iload_n 2, 1) := fp_dk fp_hdX12_layChances_0.2.1.2.1.2
theorem dX12_layChances_35 : decode cX12_layChances 35 = .ok (.if_icmp .ge 21, 3) := fp_dk fp_hdX12_layChances_0.2.1.2.2.1
theorem dX12_layChances_38 : decode cX12_layChances 38 = .ok (.aload_n 0, 1) := fp_dk fp_hdX12_layChances_0.2.1.2.2.2
theorem dX12_layChances_39 : decode cX12_layChances 39 = .ok (.dup, 1) := fp_dk fp_hdX12_layChances_0.2.2.1.1.1
theorem dX12_layChances_40 : decode cX12_layChances 40 = .ok (.getfield 289, 3) := fp_dk fp_hdX12_layChances_0.2.2.1.1.2
theorem dX12_layChances_43 : decode cX12_layChances 43 = .ok (.ldc2_w 212, 3) := fp_dk fp_hdX12_layChances_0.2.2.1.2.1
theorem dX12_layChances_46 : decode cX12_layChances 46 = .ok (.lmul, 1) := fp_dk fp_hdX12_layChances_0.2.2.1.2.2
theorem dX12_layChances_47 : decode cX12_layChances 47 = .ok (.putfield 289, 3) := fp_dk fp_hdX12_layChances_0.2.2.2.1.1
theorem dX12_layChances_50 : decode cX12_layChances 50 = .ok (.iinc 3 1, 3) := fp_dk fp_hdX12_layChances_0.2.2.2.1.2
theorem dX12_layChances_53 : decode cX12_layChances 53 = .ok (.goto (-20), 3) := fp_dk fp_hdX12_layChances_0.2.2.2.2.1
theorem dX12_layChances_56 : decode cX12_layChances 56 = .ok (.iconst 0, 1) := fp_dk fp_hdX12_layChances_0.2.2.2.2.2
theorem fp_hdX12_layChances_57 : (((((fp_dq cX12_layChances 57 (.istore_n 3, 1) = true ∧ fp_dq cX12_layChances 58 (.iload_n 3, 1) = true) ∧ (fp_dq cX12_layChances 59 (.iconst 1, 1) = true ∧ fp_dq cX12_layChances 60 (.iload_n 2, 1) = true)) ∧ ((fp_dq cX12_layChances 61 (.ishl, 1) = true ∧ fp_dq cX12_layChances 62 (.if_icmp .ge 136, 3) = true) ∧ (fp_dq cX12_layChances 65 (.lconst 1, 1) = true ∧ fp_dq cX12_layChances 66 (.lstore 4, 2) = true))) ∧ (((fp_dq cX12_layChances 68 (.aload_n 0, 1) = true ∧ fp_dq cX12_layChances 69 (.iconst 0, 1) = true) ∧ (fp_dq cX12_layChances 70 (.sipush 360, 3) = true ∧ fp_dq cX12_layChances 73 (.invokevirtual 265, 3) = true)) ∧ ((fp_dq cX12_layChances 76 (.iconst 0, 1) = true ∧ fp_dq cX12_layChances 77 (.istore 6, 2) = true) ∧ (fp_dq cX12_layChances 79 (.iload 6, 2) = true ∧ fp_dq cX12_layChances 81 (.iload_n 2, 1) = true)))) ∧ ((((fp_dq cX12_layChances 82 (.if_icmp .ge 74, 3) = true ∧ fp_dq cX12_layChances 85 (.lload 4, 2) = true) ∧ (fp_dq cX12_layChances 87 (.lconst 0, 1) = true ∧ fp_dq cX12_layChances 88 (.lcmp, 1) = true)) ∧ ((fp_dq cX12_layChances 89 (.ifCond .le 67, 3) = true ∧ fp_dq cX12_layChances 92 (.iload_n 3, 1) = true) ∧ (fp_dq cX12_layChances 93 (.iload 6, 2) = true ∧ fp_dq cX12_layChances 95 (.ishr, 1) = true))) ∧ (((fp_dq cX12_layChances 96 (.iconst 1, 1) = true ∧ fp_dq cX12_layChances 97 (.iand, 1) = true) ∧ (fp_dq cX12_layChances 98 (.iconst 1, 1) = true ∧ fp_dq cX12_layChances 99 (.if_icmp .ne 7, 3) = true)) ∧ ((fp_dq cX12_layChances 102 (.iconst 1, 1) = true ∧ fp_dq cX12_layChances 103 (.goto 4, 3) = true) ∧ (fp_dq cX12_layChances 106 (.iconst 0, 1) = true ∧ fp_dq cX12_layChances 107 (.istore 7, 2) = true))))) := by decide +kernel
theorem dX12_layChances_57 : decode cX12_layChances 57 = .ok (.istore_n 3, 1) := fp_dk fp_hdX12_layChances_57.1.1.1.1.1
theorem dX12_layChances_58 : decode cX12_layChances 58 = .ok (.iload_n 3, 1) := fp_dk fp_hdX12_layChances_57.1.1.1.1.2
theorem dX12_layChances_59 : decode cX12_layChances 59 = .ok (.iconst 1, 1) := fp_dk fp_hdX12_layChances_57.1.1.1.2.1
theorem dX12_layChances_60 : decode cX12_layChances 60 = .ok (.iload_n 2, 1) := fp_dk fp_hdX12_layChances_57.1.1.1.2.2
theorem dX12_layChances_61 : decode cX12_layChances 61 = .ok (.ishl, 1) := fp_dk fp_hdX12_layChances_57.1.1.2.1.1
theorem dX12_layChances_62 : decode cX12_layChances 62 = .ok (.if_icmp .ge 136, 3) := fp_dk fp_hdX12_layChances_57.1.1.2.1.2
theorem dX12_layChances_65 : decode cX12_layChances 65 = .ok (.lconst 1, 1) := fp_dk fp_hdX12_layChances_57.1.1.2.2.1
theorem dX12_layChances_66 : decode cX12_layChances 66 = .ok (.lstore 4, 2) := fp_dk fp_hdX12_layChances_57.1.1.2.2.2
theorem dX12_layChances_68 : decode cX12_layChances 68 = .ok (.aload_n 0, 1) := fp_dk fp_hdX12_layChances_57.1.2.1.1.1
theorem dX12_layChances_69 : decode cX12_layChances 69 = .ok (.iconst 0, 1) := fp_dk fp_hdX12_layChances_57.1.2.1.1.2
theorem dX12_layChances_70 : decode cX12_layChances 70 = .ok (.sipush 360, 3) := fp_dk fp_hdX12_layChances_57.1.2.1.2.1
theorem dX12_layChances_73 : decode cX12_layChances 73 = .ok (.invokevirtual 265, 3) := fp_dk fp_hdX12_layChances_57.1.2.1.2.2
theorem dX12_layChances_76 : decode cX12_layChances 76 = .ok (.iconst 0, 1) := fp_dk fp_hdX12_layChances_57.1.2.2.1.1
theorem dX12_layChances_77 : decode cX12_layChances 77 = .ok (.istore 6, 2) := fp_dk fp_hdX12_layChances_57.1.2.2.1.2
theorem dX12_layChances_79 : decode cX12_layChances 79 = .ok (.iload 6, 2) := fp_dk fp_hdX12_layChances_57.1.2.2.2.1
theorem dX12_layChances_81 : decode cX12_layChances 81 = .ok (.iload_n 2, 1) := fp_dk fp_hdX12_layChances_57.1.2.2.2.2
theorem dX12_layChances_82 : decode cX12_layChances 82 = .ok (.if_icmp .ge 74, 3) := fp_dk fp_hdX12_layChances_57.2.1.1.1.1
theorem dX12_layChances_85 : decode cX12_layChances 85 = .ok (.lload 4, 2) := fp_dk fp_hdX12_layChances_57.2.1.1.1.2
theorem dX12_layChances_87 : decode cX12_layChances 87 = .ok (.lconst 0, 1) := fp_dk fp_hdX12_layChances_57.2.1.1.2.1
theorem dX12_layChances_88 : decode cX12_layChances 88 = .ok (.lcmp, 1) := fp_dk fp_hdX12_layChances_57.2.1.1.2.2
theorem dX12_layChances_89 : decode cX12_layChances 89 = .ok (.ifCond .le 67, 3) := fp_dk fp_hdX12_layChances_57.2.1.2.1.1
theorem dX12_layChances_92 : decode cX12_layChances 92 = .ok (.iload_n 3, 1) := fp_dk fp_hdX12_layChances_57.2.1.2.1.2
theorem dX12_layChances_93 : decode cX12_layChances 93 = .ok (.iload 6, 2) := fp_dk fp_hdX12_layChances_57.2.1.2.2.1
theorem dX12_layChances_95 : decode cX12_layChances 95 = .ok (.ishr, 1) := fp_dk fp_hdX12_layChances_57.2.1.2.2.2
theorem dX12_layChances_96 : decode cX12_layChances 96 = .ok (.iconst 1, 1) := fp_dk fp_hdX12_layChances_57.2.2.1.1.1
theorem dX12_layChances_97 : decode cX12_layChances 97 = .ok (.iand, 1) := fp_dk fp_hdX12_layChances_57.2.2.1.1.2
theorem dX12_layChances_98 : decode cX12_layChances 98 = .ok (.iconst 1, 1) := fp_dk fp_hdX12_layChances_57.2.2.1.2.1
theorem dX12_layChances_99 : decode cX12_layChances 99 = .ok (.if_icmp .ne 7, 3) := fp_dk fp_hdX12_layChances_57.2.2.1.2.2
theorem dX12_layChances_102 : decode cX12_layChances 102 = .ok (.iconst 1, 1) := fp_dk fp_hdX12_layChances_57.2.2.2.1.1
theorem dX12_layChances_103 : decode cX12_layChances 103 = .ok (.goto 4, 3) := fp_dk fp_hdX12_layChances_57.2.2.2.1.2
theorem dX12_layChances_106 : decode cX12_layChances 106 = .ok (.iconst 0, 1) := fp_dk fp_hdX12_layChances_57.2.2.2.2.1
theorem dX12_layChances_107 : decode cX12_layChances 107 = .ok (.istore 7, 2) := fp_dk fp_hdX12_layChances_57.2.2.2.2.2
theorem fp_hdX12_layChances_109 : (((((fp_dq cX12_layChances 109 (.lload 4, 2) = true ∧ fp_dq cX12_layChances 111 (.iload 7, 2) = true) ∧ (fp_dq cX12_layChances 113 (.ifCond .eq 11, 3) = true ∧ fp_dq cX12_layChances 116 (.aload_n 0, 1) = true)) ∧ ((fp_dq cX12_layChances 117 (.getfield 22, 3) = true ∧ fp_dq cX12_layChances 120 (.i2l, 1) = true) ∧ (fp_dq cX12_layChances 121 (.goto 11, 3) = true ∧ fp_dq cX12_layChances 124 (.bipush 10, 2) = true))) ∧ (((fp_dq cX12_layChances 126 (.aload_n 0, 1) = true ∧ fp_dq cX12_layChances 127 (.getfield 22, 3) = true) ∧ (fp_dq cX12_layChances 130 (.isub, 1) = true ∧ fp_dq cX12_layChances 131 (.i2l, 1) = true)) ∧ ((fp_dq cX12_layChances 132 (.lmul, 1) = true ∧ fp_dq cX12_layChances 133 (.lstore 4, 2) = true) ∧ (fp_dq cX12_layChances 135 (.iload 7, 2) = true ∧ fp_dq cX12_layChances 137 (.ifCond .eq 13, 3) = true)))) ∧ ((((fp_dq cX12_layChances 140 (.aload_n 0, 1) = true ∧ fp_dq cX12_layChances 141 (.sipush 360, 3) = true) ∧ (fp_dq cX12_layChances 144 (.iload 6, 2) = true ∧ fp_dq cX12_layChances 146 (.invokevirtual 261, 3) = true)) ∧ ((fp_dq cX12_layChances 149 (.pop, 1) = true ∧ fp_dq cX12_layChances 150 (.iinc 6 1, 3) = true) ∧ (fp_dq cX12_layChances 153 (.goto (-74), 3) = true ∧ fp_dq cX12_layChances 156 (.aload_n 0, 1) = true))) ∧ (((fp_dq cX12_layChances 157 (.sipush 360, 3) = true ∧ fp_dq cX12_layChances 160 (.iload_n 1, 1) = true) ∧ (fp_dq cX12_layChances 161 (.invokevirtual 222, 3) = true ∧ fp_dq cX12_layChances 164 (.istore 6, 2) = true)) ∧ ((fp_dq cX12_layChances 166 (.iload 6, 2) = true ∧ fp_dq cX12_layChances 168 (.bipush (-4), 2) = true) ∧ (fp_dq cX12_layChances 170 (.if_icmp .eq 22, 3) = true ∧ fp_dq cX12_layChances 173 (.lload 4, 2) = true))))) := by decide +kernel
theorem dX12_layChances_109 : decode cX12_layChances 109 = .ok (.lload 4, 2) := fp_dk fp_hdX12_layChances_109.1.1.1.1.1
theorem dX12_layChances_111 : decode cX12_layChances 111 = .ok (.iload 7, 2) := fp_dk fp_hdX12_layChances_109.1.1.1.1.2
theorem dX12_layChances_113 : decode cX12_layChances 113 = .ok (.ifCond .eq 11, 3) := fp_dk fp_hdX12_layChances_109.1.1.1.2.1
theorem dX12_layChances_116 : decode cX12_layChances 116 = .ok (.aload_n 0, 1) := fp_dk fp_hdX12_layChances_109.1.1.1.2.2
theorem dX12_layChances_117 : decode cX12_layChances 117 = .ok (.getfield 22, 3) := fp_dk fp_hdX12_layChances_109.1.1.2.1.1
theorem dX12_layChances_120 : decode cX12_layChances 120 = .ok (.i2l, 1) := fp_dk fp_hdX12_layChances_109.1.1.2.1.2
theorem dX12_layChances_121 : decode cX12_layChances 121 = .ok (.goto 11, 3) := fp_dk fp_hdX12_layChances_109.1.1.2.2.1
theorem dX12_layChances_124 : decode cX12_layChances 124 = .ok (.bipush 10, 2) := fp_dk fp_hdX12_layChances_109.1.1.2.2.2
theorem dX12_layChances_126 : decode cX12_layChances 126 = .ok (.aload_n 0, 1) := fp_dk fp_hdX12_layChances_109.1.2.1.1.1
theorem dX12_layChances_127 : decode cX12_layChances 127 = .ok (.getfield 22, 3) := fp_dk fp_hdX12_layChances_109.1.2.1.1.2
theorem dX12_layChances_130 : decode cX12_layChances 130 = .ok (.isub, 1) := fp_dk fp_hdX12_layChances_109.1.2.1.2.1
theorem dX12_layChances_131 : decode cX12_layChances 131 = .ok (.i2l, 1) := fp_dk fp_hdX12_layChances_109.1.2.1.2.2
theorem dX12_layChances_132 : decode cX12_layChances 132 = .ok (.lmul, 1) := fp_dk fp_hdX12_layChances_109.1.2.2.1.1
theorem dX12_layChances_133 : decode cX12_layChances 133 = .ok (.lstore 4, 2) := fp_dk fp_hdX12_layChances_109.1.2.2.1.2
theorem dX12_layChances_135 : decode cX12_layChances 135 = .ok (.iload 7, 2) := fp_dk fp_hdX12_layChances_109.1.2.2.2.1
theorem dX12_layChances_137 : decode cX12_layChances 137 = .ok (.ifCond .eq 13, 3) := fp_dk fp_hdX12_layChances_109.1.2.2.2.2
theorem dX12_layChances_140 : decode cX12_layChances 140 = .ok (.aload_n 0, 1) := fp_dk fp_hdX12_layChances_109.2.1.1.1.1
theorem dX12_layChances_141 : decode cX12_layChances 141 = .ok (.sipush 360, 3) := fp_dk fp_hdX12_layChances_109.2.1.1.1.2
theorem dX12_layChances_144 : decode cX12_layChances 144 = .ok (.iload 6, 2) := fp_dk fp_hdX12_layChances_109.2.1.1.2.1
theorem dX12_layChances_146 : decode cX12_layChances 146 = .ok (.invokevirtual 261, 3) := fp_dk fp_hdX12_layChances_109.2.1.1.2.2
theorem dX12_layChances_149 : decode cX12_layChances 149 = .ok (.pop, 1) := fp_dk fp_hdX12_layChances_109.2.1.2.1.1
theorem dX12_layChances_150 : decode cX12_layChances 150 = .ok (.iinc 6 1, 3) := fp_dk fp_hdX12_layChances_109.2.1.2.1.2
theorem dX12_layChances_153 : decode cX12_layChances 153 = .ok (.goto (-74), 3) := fp_dk fp_hdX12_layChances_109.2.1.2.2.1
theorem dX12_layChances_156 : decode cX12_layChances 156 = .ok (.aload_n 0, 1) := fp_dk fp_hdX12_layChances_109.2.1.2.2.2
theorem dX12_layChances_157 : decode cX12_layChances 157 = .ok (.sipush 360, 3) := fp_dk fp_hdX12_layChances_109.2.2.1.1.1
theorem dX12_layChances_160 : decode cX12_layChances 160 = .ok (.iload_n 1, 1) := fp_dk fp_hdX12_layChances_109.2.2.1.1.2
theorem dX12_layChances_161 : decode cX12_layChances 161 = .ok (.invokevirtual 222, 3) := fp_dk fp_hdX12_layChances_109.2.2.1.2.1
theorem dX12_layChances_164 : decode cX12_layChances 164 = .ok (.istore 6, 2) := fp_dk fp_hdX12_layChances_109.2.2.1.2.2
theorem dX12_layChances_166 : decode cX12_layChances 166 = .ok (.iload 6, 2) := fp_dk fp_hdX12_layChances_109.2.2.2.1.1
theorem dX12_layChances_168 : decode cX12_layChances 168 = .ok (.bipush (-4), 2) := fp_dk fp_hdX12_layChances_109.2.2.2.1.2
theorem dX12_layChances_170 : decode cX12_layChances 170 = .ok (.if_icmp .eq 22, 3) := fp_dk fp_hdX12_layChances_109.2.2.2.2.1
theorem dX12_layChances_173 : decode cX12_layChances 173 = .ok (.lload 4, 2) := fp_dk fp_hdX12_layChances_109.2.2.2.2.2
theorem fp_hdX12_layChances_175 : (((((fp_dq cX12_layChances 175 (.lconst 0, 1) = true ∧ fp_dq cX12_layChances 176 (.lcmp, 1) = true) ∧ (fp_dq cX12_layChances 177 (.ifCond .le 15, 3) = true ∧ fp_dq cX12_layChances 180 (.aload_n 0, 1) = true)) ∧ ((fp_dq cX12_layChances 181 (.getfield 56, 3) = true ∧ fp_dq cX12_layChances 184 (.iload 6, 2) = true) ∧ (fp_dq cX12_layChances 186 (.dup2, 1) = true ∧ fp_dq cX12_layChances 187 (.laload, 1) = true))) ∧ (((fp_dq cX12_layChances 188 (.lload 4, 2) = true ∧ fp_dq cX12_layChances 190 (.ladd, 1) = true) ∧ (fp_dq cX12_layChances 191 (.lastore, 1) = true ∧ fp_dq cX12_layChances 192 (.iinc 3 1, 3) = true)) ∧ ((fp_dq cX12_layChances 195 (.goto (-137), 3) = true ∧ fp_dq cX12_layChances 198 (.return_, 1) = true) ∧ (fp_dq cX12_lowest 0 (.lload_n 0, 1) = true ∧ fp_dq cX12_lowest 1 (.lstore 5, 2) = true)))) ∧ ((((fp_dq cX12_lowest 3 (.lload_n 2, 1) = true ∧ fp_dq cX12_lowest 4 (.lstore 7, 2) = true) ∧ (fp_dq cX12_lowest 6 (.lload 7, 2) = true ∧ fp_dq cX12_lowest 8 (.lconst 0, 1) = true)) ∧ ((fp_dq cX12_lowest 9 (.lcmp, 1) = true ∧ fp_dq cX12_lowest 10 (.ifCond .eq 21, 3) = true) ∧ (fp_dq cX12_lowest 13 (.lload 5, 2) = true ∧ fp_dq cX12_lowest 15 (.lload 7, 2) = true))) ∧ (((fp_dq cX12_lowest 17 (.lrem, 1) = true ∧ fp_dq cX12_lowest 18 (.lstore 9, 2) = true) ∧ (fp_dq cX12_lowest 20 (.lload 7, 2) = true ∧ fp_dq cX12_lowest 22 (.lstore 5, 2) = true)) ∧ ((fp_dq cX12_lowest 24 (.lload 9, 2) = true ∧ fp_dq cX12_lowest 26 (.lstore 7, 2) = true) ∧ (fp_dq cX12_lowest 28 (.goto (-22), 3) = true ∧ fp_dq cX12_lowest 31 (.iload 4, 2) = true))))) := by decide +kernel
theorem dX12_layChances_175 : decode cX12_layChances 175 = .ok (.lconst 0, 1) := fp_dk fp_hdX12_layChances_175.1.1.1.1.1
theorem dX12_layChances_176 : decode cX12_layChances 176 = .ok (.lcmp, 1) := fp_dk fp_hdX12_layChances_175.1.1.1.1.2
theorem dX12_layChances_177 : decode cX12_layChances 177 = .ok (.ifCond .le 15, 3) := fp_dk fp_hdX12_layChances_175.1.1.1.2.1
theorem dX12_layChances_180 : decode cX12_layChances 180 = .ok (.aload_n 0, 1) := fp_dk fp_hdX12_layChances_175.1.1.1.2.2
theorem dX12_layChances_181 : decode cX12_layChances 181 = .ok (.getfield 56, 3) := fp_dk fp_hdX12_layChances_175.1.1.2.1.1
theorem dX12_layChances_184 : decode cX12_layChances 184 = .ok (.iload 6, 2) := fp_dk fp_hdX12_layChances_175.1.1.2.1.2
theorem dX12_layChances_186 : decode cX12_layChances 186 = .ok (.dup2, 1) := fp_dk fp_hdX12_layChances_175.1.1.2.2.1
theorem dX12_layChances_187 : decode cX12_layChances 187 = .ok (.laload, 1) := fp_dk fp_hdX12_layChances_175.1.1.2.2.2
theorem dX12_layChances_188 : decode cX12_layChances 188 = .ok (.lload 4, 2) := fp_dk fp_hdX12_layChances_175.1.2.1.1.1
theorem dX12_layChances_190 : decode cX12_layChances 190 = .ok (.ladd, 1) := fp_dk fp_hdX12_layChances_175.1.2.1.1.2
theorem dX12_layChances_191 : decode cX12_layChances 191 = .ok (.lastore, 1) := fp_dk fp_hdX12_layChances_175.1.2.1.2.1
theorem dX12_layChances_192 : decode cX12_layChances 192 = .ok (.iinc 3 1, 3) := fp_dk fp_hdX12_layChances_175.1.2.1.2.2
theorem dX12_layChances_195 : decode cX12_layChances 195 = .ok (.goto (-137), 3) := fp_dk fp_hdX12_layChances_175.1.2.2.1.1
theorem dX12_layChances_198 : decode cX12_layChances 198 = .ok (.return_, 1) := fp_dk fp_hdX12_layChances_175.1.2.2.1.2
theorem dX12_lowest_0 : decode cX12_lowest 0 = .ok (.lload_n 0, 1) := fp_dk fp_hdX12_layChances_175.1.2.2.2.1
theorem dX12_lowest_1 : decode cX12_lowest 1 = .ok (.lstore 5, 2) := fp_dk fp_hdX12_layChances_175.1.2.2.2.2
theorem dX12_lowest_3 : decode cX12_lowest 3 = .ok (.lload_n 2, 1) := fp_dk fp_hdX12_layChances_175.2.1.1.1.1
theorem dX12_lowest_4 : decode cX12_lowest 4 = .ok (.lstore 7, 2) := fp_dk fp_hdX12_layChances_175.2.1.1.1.2
theorem dX12_lowest_6 : decode cX12_lowest 6 = .ok (.lload 7, 2) := fp_dk fp_hdX12_layChances_175.2.1.1.2.1
theorem dX12_lowest_8 : decode cX12_lowest 8 = .ok (.lconst 0, 1) := fp_dk fp_hdX12_layChances_175.2.1.1.2.2
theorem dX12_lowest_9 : decode cX12_lowest 9 = .ok (.lcmp, 1) := fp_dk fp_hdX12_layChances_175.2.1.2.1.1
theorem dX12_lowest_10 : decode cX12_lowest 10 = .ok (.ifCond .eq 21, 3) := fp_dk fp_hdX12_layChances_175.2.1.2.1.2
theorem dX12_lowest_13 : decode cX12_lowest 13 = .ok (.lload 5, 2) := fp_dk fp_hdX12_layChances_175.2.1.2.2.1
theorem dX12_lowest_15 : decode cX12_lowest 15 = .ok (.lload 7, 2) := fp_dk fp_hdX12_layChances_175.2.1.2.2.2
theorem dX12_lowest_17 : decode cX12_lowest 17 = .ok (.lrem, 1) := fp_dk fp_hdX12_layChances_175.2.2.1.1.1
theorem dX12_lowest_18 : decode cX12_lowest 18 = .ok (.lstore 9, 2) := fp_dk fp_hdX12_layChances_175.2.2.1.1.2
theorem dX12_lowest_20 : decode cX12_lowest 20 = .ok (.lload 7, 2) := fp_dk fp_hdX12_layChances_175.2.2.1.2.1
theorem dX12_lowest_22 : decode cX12_lowest 22 = .ok (.lstore 5, 2) := fp_dk fp_hdX12_layChances_175.2.2.1.2.2
theorem dX12_lowest_24 : decode cX12_lowest 24 = .ok (.lload 9, 2) := fp_dk fp_hdX12_layChances_175.2.2.2.1.1
theorem dX12_lowest_26 : decode cX12_lowest 26 = .ok (.lstore 7, 2) := fp_dk fp_hdX12_layChances_175.2.2.2.1.2
theorem dX12_lowest_28 : decode cX12_lowest 28 = .ok (.goto (-22), 3) := fp_dk fp_hdX12_layChances_175.2.2.2.2.1
theorem dX12_lowest_31 : decode cX12_lowest 31 = .ok (.iload 4, 2) := fp_dk fp_hdX12_layChances_175.2.2.2.2.2
theorem fp_hdX12_lowest_33 : (((((fp_dq cX12_lowest 33 (.ifCond .ne 7, 3) = true ∧ fp_dq cX12_lowest 36 (.lload_n 0, 1) = true) ∧ (fp_dq cX12_lowest 37 (.goto 4, 3) = true ∧ fp_dq cX12_lowest 40 (.lload_n 2, 1) = true)) ∧ ((fp_dq cX12_lowest 41 (.lload 5, 2) = true ∧ fp_dq cX12_lowest 43 (.ldiv, 1) = true) ∧ (fp_dq cX12_lowest 44 (.lreturn, 1) = true ∧ fp_dq cX12_odds 0 (.aload_n 0, 1) = true))) ∧ (((fp_dq cX12_odds 1 (.iload_n 1, 1) = true ∧ fp_dq cX12_odds 2 (.invokevirtual 219, 3) = true) ∧ (fp_dq cX12_odds 5 (.ifCond .eq 21, 3) = true ∧ fp_dq cX12_odds 8 (.aload_n 0, 1) = true)) ∧ ((fp_dq cX12_odds 9 (.iload_n 2, 1) = true ∧ fp_dq cX12_odds 10 (.invokevirtual 205, 3) = true) ∧ (fp_dq cX12_odds 13 (.ifCond .eq 13, 3) = true ∧ fp_dq cX12_odds 16 (.iload_n 3, 1) = true)))) ∧ ((((fp_dq cX12_odds 17 (.i2l, 1) = true ∧ fp_dq cX12_odds 18 (.lconst 0, 1) = true) ∧ (fp_dq cX12_odds 19 (.lconst 1, 1) = true ∧ fp_dq cX12_odds 20 (.invokestatic 94, 3) = true)) ∧ ((fp_dq cX12_odds 23 (.ifCond .ne 7, 3) = true ∧ fp_dq cX12_odds 26 (.ldc2_w 293, 3) = true) ∧ (fp_dq cX12_odds 29 (.lreturn, 1) = true ∧ fp_dq cX12_odds 30 (.aload_n 0, 1) = true))) ∧ (((fp_dq cX12_odds 31 (.invokevirtual 225, 3) = true ∧ fp_dq cX12_odds 34 (.bipush 10, 2) = true) ∧ (fp_dq cX12_odds 36 (.if_icmp .le 7, 3) = true ∧ fp_dq cX12_odds 39 (.ldc2_w 295, 3) = true)) ∧ ((fp_dq cX12_odds 42 (.lreturn, 1) = true ∧ fp_dq cX12_odds 43 (.aload_n 0, 1) = true) ∧ (fp_dq cX12_odds 44 (.iload_n 1, 1) = true ∧ fp_dq cX12_odds 45 (.invokevirtual 297, 3) = true))))) := by decide +kernel
theorem dX12_lowest_33 : decode cX12_lowest 33 = .ok (.ifCond .ne 7, 3) := fp_dk fp_hdX12_lowest_33.1.1.1.1.1
theorem dX12_lowest_36 : decode cX12_lowest 36 = .ok (.lload_n 0, 1) := fp_dk fp_hdX12_lowest_33.1.1.1.1.2
theorem dX12_lowest_37 : decode cX12_lowest 37 = .ok (.goto 4, 3) := fp_dk fp_hdX12_lowest_33.1.1.1.2.1
theorem dX12_lowest_40 : decode cX12_lowest 40 = .ok (.lload_n 2, 1) := fp_dk fp_hdX12_lowest_33.1.1.1.2.2
theorem dX12_lowest_41 : decode cX12_lowest 41 = .ok (.lload 5, 2) := fp_dk fp_hdX12_lowest_33.1.1.2.1.1
theorem dX12_lowest_43 : decode cX12_lowest 43 = .ok (.ldiv, 1) := fp_dk fp_hdX12_lowest_33.1.1.2.1.2
theorem dX12_lowest_44 : decode cX12_lowest 44 = .ok (.lreturn, 1) := fp_dk fp_hdX12_lowest_33.1.1.2.2.1
theorem dX12_odds_0 : decode cX12_odds 0 = .ok (.aload_n 0, 1) := fp_dk fp_hdX12_lowest_33.1.1.2.2.2
theorem dX12_odds_1 : decode cX12_odds 1 = .ok (.iload_n 1, 1) := fp_dk fp_hdX12_lowest_33.1.2.1.1.1
theorem dX12_odds_2 : decode cX12_odds 2 = .ok (.invokevirtual 219, 3) := fp_dk fp_hdX12_lowest_33.1.2.1.1.2
theorem dX12_odds_5 : decode cX12_odds 5 = .ok (.ifCond .eq 21, 3) := fp_dk fp_hdX12_lowest_33.1.2.1.2.1
theorem dX12_odds_8 : decode cX12_odds 8 = .ok (.aload_n 0, 1) := fp_dk fp_hdX12_lowest_33.1.2.1.2.2
theorem dX12_odds_9 : decode cX12_odds 9 = .ok (.iload_n 2, 1) := fp_dk fp_hdX12_lowest_33.1.2.2.1.1
theorem dX12_odds_10 : decode cX12_odds 10 = .ok (.invokevirtual 205, 3) := fp_dk fp_hdX12_lowest_33.1.2.2.1.2
theorem dX12_odds_13 : decode cX12_odds 13 = .ok (.ifCond .eq 13, 3) := fp_dk fp_hdX12_lowest_33.1.2.2.2.1
theorem dX12_odds_16 : decode cX12_odds 16 = .ok (.iload_n 3, 1) := fp_dk fp_hdX12_lowest_33.1.2.2.2.2
theorem dX12_odds_17 : decode cX12_odds 17 = .ok (.i2l, 1) := fp_dk fp_hdX12_lowest_33.2.1.1.1.1
theorem dX12_odds_18 : decode cX12_odds 18 = .ok (.lconst 0, 1) := fp_dk fp_hdX12_lowest_33.2.1.1.1.2
theorem dX12_odds_19 : decode cX12_odds 19 = .ok (.lconst 1, 1) := fp_dk fp_hdX12_lowest_33.2.1.1.2.1
theorem dX12_odds_20 : decode cX12_odds 20 = .ok (.invokestatic 94, 3) := fp_dk fp_hdX12_lowest_33.2.1.1.2.2
theorem dX12_odds_23 : decode cX12_odds 23 = .ok (.ifCond .ne 7, 3) := fp_dk fp_hdX12_lowest_33.2.1.2.1.1
theorem dX12_odds_26 : decode cX12_odds 26 = .ok (.ldc2_w 293, 3) := fp_dk fp_hdX12_lowest_33.2.1.2.1.2
theorem dX12_odds_29 : decode cX12_odds 29 = .ok (.lreturn, 1) := fp_dk fp_hdX12_lowest_33.2.1.2.2.1
theorem dX12_odds_30 : decode cX12_odds 30 = .ok (.aload_n 0, 1) := fp_dk fp_hdX12_lowest_33.2.1.2.2.2
theorem dX12_odds_31 : decode cX12_odds 31 = .ok (.invokevirtual 225, 3) := fp_dk fp_hdX12_lowest_33.2.2.1.1.1
theorem dX12_odds_34 : decode cX12_odds 34 = .ok (.bipush 10, 2) := fp_dk fp_hdX12_lowest_33.2.2.1.1.2
theorem dX12_odds_36 : decode cX12_odds 36 = .ok (.if_icmp .le 7, 3) := fp_dk fp_hdX12_lowest_33.2.2.1.2.1
theorem dX12_odds_39 : decode cX12_odds 39 = .ok (.ldc2_w 295, 3) := fp_dk fp_hdX12_lowest_33.2.2.1.2.2
theorem dX12_odds_42 : decode cX12_odds 42 = .ok (.lreturn, 1) := fp_dk fp_hdX12_lowest_33.2.2.2.1.1
theorem dX12_odds_43 : decode cX12_odds 43 = .ok (.aload_n 0, 1) := fp_dk fp_hdX12_lowest_33.2.2.2.1.2
theorem dX12_odds_44 : decode cX12_odds 44 = .ok (.iload_n 1, 1) := fp_dk fp_hdX12_lowest_33.2.2.2.2.1
theorem dX12_odds_45 : decode cX12_odds 45 = .ok (.invokevirtual 297, 3) := fp_dk fp_hdX12_lowest_33.2.2.2.2.2
theorem fp_hdX12_odds_48 : (((((fp_dq cX12_odds 48 (.aload_n 0, 1) = true ∧ fp_dq cX12_odds 49 (.getfield 56, 3) = true) ∧ (fp_dq cX12_odds 52 (.iload_n 2, 1) = true ∧ fp_dq cX12_odds 53 (.laload, 1) = true)) ∧ ((fp_dq cX12_odds 54 (.aload_n 0, 1) = true ∧ fp_dq cX12_odds 55 (.getfield 289, 3) = true) ∧ (fp_dq cX12_odds 58 (.iload_n 3, 1) = true ∧ fp_dq cX12_odds 59 (.invokestatic 300, 3) = true))) ∧ (((fp_dq cX12_odds 62 (.lreturn, 1) = true ∧ fp_dq cX12_likeliest 0 (.aload_n 0, 1) = true) ∧ (fp_dq cX12_likeliest 1 (.iload_n 1, 1) = true ∧ fp_dq cX12_likeliest 2 (.invokevirtual 219, 3) = true)) ∧ ((fp_dq cX12_likeliest 5 (.ifCond .ne 5, 3) = true ∧ fp_dq cX12_likeliest 8 (.iconst (-1), 1) = true) ∧ (fp_dq cX12_likeliest 9 (.ireturn, 1) = true ∧ fp_dq cX12_likeliest 10 (.aload_n 0, 1) = true)))) ∧ ((((fp_dq cX12_likeliest 11 (.invokevirtual 225, 3) = true ∧ fp_dq cX12_likeliest 14 (.bipush 10, 2) = true) ∧ (fp_dq cX12_likeliest 16 (.if_icmp .le 6, 3) = true ∧ fp_dq cX12_likeliest 19 (.bipush (-2), 2) = true)) ∧ ((fp_dq cX12_likeliest 21 (.ireturn, 1) = true ∧ fp_dq cX12_likeliest 22 (.aload_n 0, 1) = true) ∧ (fp_dq cX12_likeliest 23 (.iload_n 1, 1) = true ∧ fp_dq cX12_likeliest 24 (.invokevirtual 297, 3) = true))) ∧ (((fp_dq cX12_likeliest 27 (.bipush (-4), 2) = true ∧ fp_dq cX12_likeliest 29 (.istore_n 2, 1) = true) ∧ (fp_dq cX12_likeliest 30 (.iconst 0, 1) = true ∧ fp_dq cX12_likeliest 31 (.istore_n 3, 1) = true)) ∧ ((fp_dq cX12_likeliest 32 (.iload_n 3, 1) = true ∧ fp_dq cX12_likeliest 33 (.aload_n 0, 1) = true) ∧ (fp_dq cX12_likeliest 34 (.getfield 181, 3) = true ∧ fp_dq cX12_likeliest 37 (.if_icmp .ge 41, 3) = true))))) := by decide +kernel
theorem dX12_odds_48 : decode cX12_odds 48 = .ok (.aload_n 0, 1) := fp_dk fp_hdX12_odds_48.1.1.1.1.1
theorem dX12_odds_49 : decode cX12_odds 49 = .ok (.getfield 56, 3) := fp_dk fp_hdX12_odds_48.1.1.1.1.2
theorem dX12_odds_52 : decode cX12_odds 52 = .ok (.iload_n 2, 1) := fp_dk fp_hdX12_odds_48.1.1.1.2.1
theorem dX12_odds_53 : decode cX12_odds 53 = .ok (.laload, 1) := fp_dk fp_hdX12_odds_48.1.1.1.2.2
theorem dX12_odds_54 : decode cX12_odds 54 = .ok (.aload_n 0, 1) := fp_dk fp_hdX12_odds_48.1.1.2.1.1
theorem dX12_odds_55 : decode cX12_odds 55 = .ok (.getfield 289, 3) := fp_dk fp_hdX12_odds_48.1.1.2.1.2
theorem dX12_odds_58 : decode cX12_odds 58 = .ok (.iload_n 3, 1) := fp_dk fp_hdX12_odds_48.1.1.2.2.1
theorem dX12_odds_59 : decode cX12_odds 59 = .ok (.invokestatic 300, 3) := fp_dk fp_hdX12_odds_48.1.1.2.2.2
theorem dX12_odds_62 : decode cX12_odds 62 = .ok (.lreturn, 1) := fp_dk fp_hdX12_odds_48.1.2.1.1.1
theorem dX12_likeliest_0 : decode cX12_likeliest 0 = .ok (.aload_n 0, 1) := fp_dk fp_hdX12_odds_48.1.2.1.1.2
theorem dX12_likeliest_1 : decode cX12_likeliest 1 = .ok (.iload_n 1, 1) := fp_dk fp_hdX12_odds_48.1.2.1.2.1
theorem dX12_likeliest_2 : decode cX12_likeliest 2 = .ok (.invokevirtual 219, 3) := fp_dk fp_hdX12_odds_48.1.2.1.2.2
theorem dX12_likeliest_5 : decode cX12_likeliest 5 = .ok (.ifCond .ne 5, 3) := fp_dk fp_hdX12_odds_48.1.2.2.1.1
theorem dX12_likeliest_8 : decode cX12_likeliest 8 = .ok (.iconst (-1), 1) := fp_dk fp_hdX12_odds_48.1.2.2.1.2
theorem dX12_likeliest_9 : decode cX12_likeliest 9 = .ok (.ireturn, 1) := fp_dk fp_hdX12_odds_48.1.2.2.2.1
theorem dX12_likeliest_10 : decode cX12_likeliest 10 = .ok (.aload_n 0, 1) := fp_dk fp_hdX12_odds_48.1.2.2.2.2
theorem dX12_likeliest_11 : decode cX12_likeliest 11 = .ok (.invokevirtual 225, 3) := fp_dk fp_hdX12_odds_48.2.1.1.1.1
theorem dX12_likeliest_14 : decode cX12_likeliest 14 = .ok (.bipush 10, 2) := fp_dk fp_hdX12_odds_48.2.1.1.1.2
theorem dX12_likeliest_16 : decode cX12_likeliest 16 = .ok (.if_icmp .le 6, 3) := fp_dk fp_hdX12_odds_48.2.1.1.2.1
theorem dX12_likeliest_19 : decode cX12_likeliest 19 = .ok (.bipush (-2), 2) := fp_dk fp_hdX12_odds_48.2.1.1.2.2
theorem dX12_likeliest_21 : decode cX12_likeliest 21 = .ok (.ireturn, 1) := fp_dk fp_hdX12_odds_48.2.1.2.1.1
theorem dX12_likeliest_22 : decode cX12_likeliest 22 = .ok (.aload_n 0, 1) := fp_dk fp_hdX12_odds_48.2.1.2.1.2
theorem dX12_likeliest_23 : decode cX12_likeliest 23 = .ok (.iload_n 1, 1) := fp_dk fp_hdX12_odds_48.2.1.2.2.1
theorem dX12_likeliest_24 : decode cX12_likeliest 24 = .ok (.invokevirtual 297, 3) := fp_dk fp_hdX12_odds_48.2.1.2.2.2
theorem dX12_likeliest_27 : decode cX12_likeliest 27 = .ok (.bipush (-4), 2) := fp_dk fp_hdX12_odds_48.2.2.1.1.1
theorem dX12_likeliest_29 : decode cX12_likeliest 29 = .ok (.istore_n 2, 1) := fp_dk fp_hdX12_odds_48.2.2.1.1.2
theorem dX12_likeliest_30 : decode cX12_likeliest 30 = .ok (.iconst 0, 1) := fp_dk fp_hdX12_odds_48.2.2.1.2.1
theorem dX12_likeliest_31 : decode cX12_likeliest 31 = .ok (.istore_n 3, 1) := fp_dk fp_hdX12_odds_48.2.2.1.2.2
theorem dX12_likeliest_32 : decode cX12_likeliest 32 = .ok (.iload_n 3, 1) := fp_dk fp_hdX12_odds_48.2.2.2.1.1
theorem dX12_likeliest_33 : decode cX12_likeliest 33 = .ok (.aload_n 0, 1) := fp_dk fp_hdX12_odds_48.2.2.2.1.2
theorem dX12_likeliest_34 : decode cX12_likeliest 34 = .ok (.getfield 181, 3) := fp_dk fp_hdX12_odds_48.2.2.2.2.1
theorem dX12_likeliest_37 : decode cX12_likeliest 37 = .ok (.if_icmp .ge 41, 3) := fp_dk fp_hdX12_odds_48.2.2.2.2.2
theorem fp_hdX12_likeliest_40 : (((((fp_dq cX12_likeliest 40 (.aload_n 0, 1) = true ∧ fp_dq cX12_likeliest 41 (.getfield 56, 3) = true) ∧ (fp_dq cX12_likeliest 44 (.iload_n 3, 1) = true ∧ fp_dq cX12_likeliest 45 (.laload, 1) = true)) ∧ ((fp_dq cX12_likeliest 46 (.iload_n 2, 1) = true ∧ fp_dq cX12_likeliest 47 (.bipush (-4), 2) = true) ∧ (fp_dq cX12_likeliest 49 (.if_icmp .ne 7, 3) = true ∧ fp_dq cX12_likeliest 52 (.lconst 0, 1) = true))) ∧ (((fp_dq cX12_likeliest 53 (.goto 9, 3) = true ∧ fp_dq cX12_likeliest 56 (.aload_n 0, 1) = true) ∧ (fp_dq cX12_likeliest 57 (.getfield 56, 3) = true ∧ fp_dq cX12_likeliest 60 (.iload_n 2, 1) = true)) ∧ ((fp_dq cX12_likeliest 61 (.laload, 1) = true ∧ fp_dq cX12_likeliest 62 (.lcmp, 1) = true) ∧ (fp_dq cX12_likeliest 63 (.ifCond .le 7, 3) = true ∧ fp_dq cX12_likeliest 66 (.iload_n 3, 1) = true)))) ∧ ((((fp_dq cX12_likeliest 67 (.goto 4, 3) = true ∧ fp_dq cX12_likeliest 70 (.iload_n 2, 1) = true) ∧ (fp_dq cX12_likeliest 71 (.istore_n 2, 1) = true ∧ fp_dq cX12_likeliest 72 (.iinc 3 1, 3) = true)) ∧ ((fp_dq cX12_likeliest 75 (.goto (-43), 3) = true ∧ fp_dq cX12_likeliest 78 (.iload_n 2, 1) = true) ∧ (fp_dq cX12_likeliest 79 (.ireturn, 1) = true ∧ fp_dq cX12_plays 0 (.iconst 1, 1) = true))) ∧ (((fp_dq cX12_plays 1 (.istore 7, 2) = true ∧ fp_dq cX12_plays 3 (.iconst 1, 1) = true) ∧ (fp_dq cX12_plays 4 (.istore 8, 2) = true ∧ fp_dq cX12_plays 6 (.iload 8, 2) = true)) ∧ ((fp_dq cX12_plays 8 (.iload 5, 2) = true ∧ fp_dq cX12_plays 10 (.if_icmp .ge 15, 3) = true) ∧ (fp_dq cX12_plays 13 (.iload 7, 2) = true ∧ fp_dq cX12_plays 15 (.iconst 3, 1) = true))))) := by decide +kernel
theorem dX12_likeliest_40 : decode cX12_likeliest 40 = .ok (.aload_n 0, 1) := fp_dk fp_hdX12_likeliest_40.1.1.1.1.1
theorem dX12_likeliest_41 : decode cX12_likeliest 41 = .ok (.getfield 56, 3) := fp_dk fp_hdX12_likeliest_40.1.1.1.1.2
theorem dX12_likeliest_44 : decode cX12_likeliest 44 = .ok (.iload_n 3, 1) := fp_dk fp_hdX12_likeliest_40.1.1.1.2.1
theorem dX12_likeliest_45 : decode cX12_likeliest 45 = .ok (.laload, 1) := fp_dk fp_hdX12_likeliest_40.1.1.1.2.2
theorem dX12_likeliest_46 : decode cX12_likeliest 46 = .ok (.iload_n 2, 1) := fp_dk fp_hdX12_likeliest_40.1.1.2.1.1
theorem dX12_likeliest_47 : decode cX12_likeliest 47 = .ok (.bipush (-4), 2) := fp_dk fp_hdX12_likeliest_40.1.1.2.1.2
theorem dX12_likeliest_49 : decode cX12_likeliest 49 = .ok (.if_icmp .ne 7, 3) := fp_dk fp_hdX12_likeliest_40.1.1.2.2.1
theorem dX12_likeliest_52 : decode cX12_likeliest 52 = .ok (.lconst 0, 1) := fp_dk fp_hdX12_likeliest_40.1.1.2.2.2
theorem dX12_likeliest_53 : decode cX12_likeliest 53 = .ok (.goto 9, 3) := fp_dk fp_hdX12_likeliest_40.1.2.1.1.1
theorem dX12_likeliest_56 : decode cX12_likeliest 56 = .ok (.aload_n 0, 1) := fp_dk fp_hdX12_likeliest_40.1.2.1.1.2
theorem dX12_likeliest_57 : decode cX12_likeliest 57 = .ok (.getfield 56, 3) := fp_dk fp_hdX12_likeliest_40.1.2.1.2.1
theorem dX12_likeliest_60 : decode cX12_likeliest 60 = .ok (.iload_n 2, 1) := fp_dk fp_hdX12_likeliest_40.1.2.1.2.2
theorem dX12_likeliest_61 : decode cX12_likeliest 61 = .ok (.laload, 1) := fp_dk fp_hdX12_likeliest_40.1.2.2.1.1
theorem dX12_likeliest_62 : decode cX12_likeliest 62 = .ok (.lcmp, 1) := fp_dk fp_hdX12_likeliest_40.1.2.2.1.2
theorem dX12_likeliest_63 : decode cX12_likeliest 63 = .ok (.ifCond .le 7, 3) := fp_dk fp_hdX12_likeliest_40.1.2.2.2.1
theorem dX12_likeliest_66 : decode cX12_likeliest 66 = .ok (.iload_n 3, 1) := fp_dk fp_hdX12_likeliest_40.1.2.2.2.2
theorem dX12_likeliest_67 : decode cX12_likeliest 67 = .ok (.goto 4, 3) := fp_dk fp_hdX12_likeliest_40.2.1.1.1.1
theorem dX12_likeliest_70 : decode cX12_likeliest 70 = .ok (.iload_n 2, 1) := fp_dk fp_hdX12_likeliest_40.2.1.1.1.2
theorem dX12_likeliest_71 : decode cX12_likeliest 71 = .ok (.istore_n 2, 1) := fp_dk fp_hdX12_likeliest_40.2.1.1.2.1
theorem dX12_likeliest_72 : decode cX12_likeliest 72 = .ok (.iinc 3 1, 3) := fp_dk fp_hdX12_likeliest_40.2.1.1.2.2
theorem dX12_likeliest_75 : decode cX12_likeliest 75 = .ok (.goto (-43), 3) := fp_dk fp_hdX12_likeliest_40.2.1.2.1.1
theorem dX12_likeliest_78 : decode cX12_likeliest 78 = .ok (.iload_n 2, 1) := fp_dk fp_hdX12_likeliest_40.2.1.2.1.2
theorem dX12_likeliest_79 : decode cX12_likeliest 79 = .ok (.ireturn, 1) := fp_dk fp_hdX12_likeliest_40.2.1.2.2.1
theorem dX12_plays_0 : decode cX12_plays 0 = .ok (.iconst 1, 1) := fp_dk fp_hdX12_likeliest_40.2.1.2.2.2
theorem dX12_plays_1 : decode cX12_plays 1 = .ok (.istore 7, 2) := fp_dk fp_hdX12_likeliest_40.2.2.1.1.1
theorem dX12_plays_3 : decode cX12_plays 3 = .ok (.iconst 1, 1) := fp_dk fp_hdX12_likeliest_40.2.2.1.1.2
theorem dX12_plays_4 : decode cX12_plays 4 = .ok (.istore 8, 2) := fp_dk fp_hdX12_likeliest_40.2.2.1.2.1
theorem dX12_plays_6 : decode cX12_plays 6 = .ok (.iload 8, 2) := fp_dk fp_hdX12_likeliest_40.2.2.1.2.2
theorem dX12_plays_8 : decode cX12_plays 8 = .ok (.iload 5, 2) := fp_dk fp_hdX12_likeliest_40.2.2.2.1.1
theorem dX12_plays_10 : decode cX12_plays 10 = .ok (.if_icmp .ge 15, 3) := fp_dk fp_hdX12_likeliest_40.2.2.2.1.2
theorem dX12_plays_13 : decode cX12_plays 13 = .ok (.iload 7, 2) := fp_dk fp_hdX12_likeliest_40.2.2.2.2.1
theorem dX12_plays_15 : decode cX12_plays 15 = .ok (.iconst 3, 1) := fp_dk fp_hdX12_likeliest_40.2.2.2.2.2
theorem fp_hdX12_plays_16 : (((((fp_dq cX12_plays 16 (.imul, 1) = true ∧ fp_dq cX12_plays 17 (.istore 7, 2) = true) ∧ (fp_dq cX12_plays 19 (.iinc 8 1, 3) = true ∧ fp_dq cX12_plays 22 (.goto (-16), 3) = true)) ∧ ((fp_dq cX12_plays 25 (.iconst 0, 1) = true ∧ fp_dq cX12_plays 26 (.istore 8, 2) = true) ∧ (fp_dq cX12_plays 28 (.iload 4, 2) = true ∧ fp_dq cX12_plays 30 (.istore 9, 2) = true))) ∧ (((fp_dq cX12_plays 32 (.iload 4, 2) = true ∧ fp_dq cX12_plays 34 (.istore 10, 2) = true) ∧ (fp_dq cX12_plays 36 (.aload_n 0, 1) = true ∧ fp_dq cX12_plays 37 (.iconst 0, 1) = true)) ∧ ((fp_dq cX12_plays 38 (.sipush 360, 3) = true ∧ fp_dq cX12_plays 41 (.invokevirtual 265, 3) = true) ∧ (fp_dq cX12_plays 44 (.iconst 0, 1) = true ∧ fp_dq cX12_plays 45 (.istore 11, 2) = true)))) ∧ ((((fp_dq cX12_plays 47 (.iload 11, 2) = true ∧ fp_dq cX12_plays 49 (.iload 5, 2) = true) ∧ (fp_dq cX12_plays 51 (.if_icmp .ge 207, 3) = true ∧ fp_dq cX12_plays 54 (.iload 11, 2) = true)) ∧ ((fp_dq cX12_plays 56 (.iconst 2, 1) = true ∧ fp_dq cX12_plays 57 (.irem, 1) = true) ∧ (fp_dq cX12_plays 58 (.ifCond .ne 7, 3) = true ∧ fp_dq cX12_plays 61 (.iconst 1, 1) = true))) ∧ (((fp_dq cX12_plays 62 (.goto 4, 3) = true ∧ fp_dq cX12_plays 65 (.iconst 0, 1) = true) ∧ (fp_dq cX12_plays 66 (.istore 12, 2) = true ∧ fp_dq cX12_plays 68 (.iload 6, 2) = true)) ∧ ((fp_dq cX12_plays 70 (.iload 7, 2) = true ∧ fp_dq cX12_plays 72 (.idiv, 1) = true) ∧ (fp_dq cX12_plays 73 (.iconst 3, 1) = true ∧ fp_dq cX12_plays 74 (.irem, 1) = true))))) := by decide +kernel
theorem dX12_plays_16 : decode cX12_plays 16 = .ok (.imul, 1) := fp_dk fp_hdX12_plays_16.1.1.1.1.1
theorem dX12_plays_17 : decode cX12_plays 17 = .ok (.istore 7, 2) := fp_dk fp_hdX12_plays_16.1.1.1.1.2
theorem dX12_plays_19 : decode cX12_plays 19 = .ok (.iinc 8 1, 3) := fp_dk fp_hdX12_plays_16.1.1.1.2.1
theorem dX12_plays_22 : decode cX12_plays 22 = .ok (.goto (-16), 3) := fp_dk fp_hdX12_plays_16.1.1.1.2.2
theorem dX12_plays_25 : decode cX12_plays 25 = .ok (.iconst 0, 1) := fp_dk fp_hdX12_plays_16.1.1.2.1.1
theorem dX12_plays_26 : decode cX12_plays 26 = .ok (.istore 8, 2) := fp_dk fp_hdX12_plays_16.1.1.2.1.2
theorem dX12_plays_28 : decode cX12_plays 28 = .ok (.iload 4, 2) := fp_dk fp_hdX12_plays_16.1.1.2.2.1
theorem dX12_plays_30 : decode cX12_plays 30 = .ok (.istore 9, 2) := fp_dk fp_hdX12_plays_16.1.1.2.2.2
theorem dX12_plays_32 : decode cX12_plays 32 = .ok (.iload 4, 2) := fp_dk fp_hdX12_plays_16.1.2.1.1.1
theorem dX12_plays_34 : decode cX12_plays 34 = .ok (.istore 10, 2) := fp_dk fp_hdX12_plays_16.1.2.1.1.2
theorem dX12_plays_36 : decode cX12_plays 36 = .ok (.aload_n 0, 1) := fp_dk fp_hdX12_plays_16.1.2.1.2.1
theorem dX12_plays_37 : decode cX12_plays 37 = .ok (.iconst 0, 1) := fp_dk fp_hdX12_plays_16.1.2.1.2.2
theorem dX12_plays_38 : decode cX12_plays 38 = .ok (.sipush 360, 3) := fp_dk fp_hdX12_plays_16.1.2.2.1.1
theorem dX12_plays_41 : decode cX12_plays 41 = .ok (.invokevirtual 265, 3) := fp_dk fp_hdX12_plays_16.1.2.2.1.2
theorem dX12_plays_44 : decode cX12_plays 44 = .ok (.iconst 0, 1) := fp_dk fp_hdX12_plays_16.1.2.2.2.1
theorem dX12_plays_45 : decode cX12_plays 45 = .ok (.istore 11, 2) := fp_dk fp_hdX12_plays_16.1.2.2.2.2
theorem dX12_plays_47 : decode cX12_plays 47 = .ok (.iload 11, 2) := fp_dk fp_hdX12_plays_16.2.1.1.1.1
theorem dX12_plays_49 : decode cX12_plays 49 = .ok (.iload 5, 2) := fp_dk fp_hdX12_plays_16.2.1.1.1.2
theorem dX12_plays_51 : decode cX12_plays 51 = .ok (.if_icmp .ge 207, 3) := fp_dk fp_hdX12_plays_16.2.1.1.2.1
theorem dX12_plays_54 : decode cX12_plays 54 = .ok (.iload 11, 2) := fp_dk fp_hdX12_plays_16.2.1.1.2.2
theorem dX12_plays_56 : decode cX12_plays 56 = .ok (.iconst 2, 1) := fp_dk fp_hdX12_plays_16.2.1.2.1.1
theorem dX12_plays_57 : decode cX12_plays 57 = .ok (.irem, 1) := fp_dk fp_hdX12_plays_16.2.1.2.1.2
theorem dX12_plays_58 : decode cX12_plays 58 = .ok (.ifCond .ne 7, 3) := fp_dk fp_hdX12_plays_16.2.1.2.2.1
theorem dX12_plays_61 : decode cX12_plays 61 = .ok (.iconst 1, 1) := fp_dk fp_hdX12_plays_16.2.1.2.2.2
theorem dX12_plays_62 : decode cX12_plays 62 = .ok (.goto 4, 3) := fp_dk fp_hdX12_plays_16.2.2.1.1.1
theorem dX12_plays_65 : decode cX12_plays 65 = .ok (.iconst 0, 1) := fp_dk fp_hdX12_plays_16.2.2.1.1.2
theorem dX12_plays_66 : decode cX12_plays 66 = .ok (.istore 12, 2) := fp_dk fp_hdX12_plays_16.2.2.1.2.1
theorem dX12_plays_68 : decode cX12_plays 68 = .ok (.iload 6, 2) := fp_dk fp_hdX12_plays_16.2.2.1.2.2
theorem dX12_plays_70 : decode cX12_plays 70 = .ok (.iload 7, 2) := fp_dk fp_hdX12_plays_16.2.2.2.1.1
theorem dX12_plays_72 : decode cX12_plays 72 = .ok (.idiv, 1) := fp_dk fp_hdX12_plays_16.2.2.2.1.2
theorem dX12_plays_73 : decode cX12_plays 73 = .ok (.iconst 3, 1) := fp_dk fp_hdX12_plays_16.2.2.2.2.1
theorem dX12_plays_74 : decode cX12_plays 74 = .ok (.irem, 1) := fp_dk fp_hdX12_plays_16.2.2.2.2.2
theorem fp_hdX12_plays_75 : (((((fp_dq cX12_plays 75 (.istore 13, 2) = true ∧ fp_dq cX12_plays 77 (.iload 7, 2) = true) ∧ (fp_dq cX12_plays 79 (.iconst 3, 1) = true ∧ fp_dq cX12_plays 80 (.if_icmp .lt 10, 3) = true)) ∧ ((fp_dq cX12_plays 83 (.iload 7, 2) = true ∧ fp_dq cX12_plays 85 (.iconst 3, 1) = true) ∧ (fp_dq cX12_plays 86 (.idiv, 1) = true ∧ fp_dq cX12_plays 87 (.goto 4, 3) = true))) ∧ (((fp_dq cX12_plays 90 (.iconst 1, 1) = true ∧ fp_dq cX12_plays 91 (.istore 7, 2) = true) ∧ (fp_dq cX12_plays 93 (.iload 13, 2) = true ∧ fp_dq cX12_plays 95 (.iconst 1, 1) = true)) ∧ ((fp_dq cX12_plays 96 (.if_icmp .ne 86, 3) = true ∧ fp_dq cX12_plays 99 (.iload 12, 2) = true) ∧ (fp_dq cX12_plays 101 (.ifCond .eq 8, 3) = true ∧ fp_dq cX12_plays 104 (.iload 9, 2) = true)))) ∧ ((((fp_dq cX12_plays 106 (.goto 5, 3) = true ∧ fp_dq cX12_plays 109 (.iload 10, 2) = true) ∧ (fp_dq cX12_plays 111 (.ifCond .eq 16, 3) = true ∧ fp_dq cX12_plays 114 (.aload_n 0, 1) = true)) ∧ ((fp_dq cX12_plays 115 (.sipush 360, 3) = true ∧ fp_dq cX12_plays 118 (.iload_n 1, 1) = true) ∧ (fp_dq cX12_plays 119 (.invokevirtual 198, 3) = true ∧ fp_dq cX12_plays 122 (.bipush 8, 2) = true))) ∧ (((fp_dq cX12_plays 124 (.if_icmp .ne 7, 3) = true ∧ fp_dq cX12_plays 127 (.sipush (-9999), 3) = true) ∧ (fp_dq cX12_plays 130 (.ireturn, 1) = true ∧ fp_dq cX12_plays 131 (.iload 9, 2) = true)) ∧ ((fp_dq cX12_plays 133 (.iload 12, 2) = true ∧ fp_dq cX12_plays 135 (.ifCond .eq 7, 3) = true) ∧ (fp_dq cX12_plays 138 (.iconst 1, 1) = true ∧ fp_dq cX12_plays 139 (.goto 4, 3) = true))))) := by decide +kernel
theorem dX12_plays_75 : decode cX12_plays 75 = .ok (.istore 13, 2) := fp_dk fp_hdX12_plays_75.1.1.1.1.1
theorem dX12_plays_77 : decode cX12_plays 77 = .ok (.iload 7, 2) := fp_dk fp_hdX12_plays_75.1.1.1.1.2
theorem dX12_plays_79 : decode cX12_plays 79 = .ok (.iconst 3, 1) := fp_dk fp_hdX12_plays_75.1.1.1.2.1
theorem dX12_plays_80 : decode cX12_plays 80 = .ok (.if_icmp .lt 10, 3) := fp_dk fp_hdX12_plays_75.1.1.1.2.2
theorem dX12_plays_83 : decode cX12_plays 83 = .ok (.iload 7, 2) := fp_dk fp_hdX12_plays_75.1.1.2.1.1
theorem dX12_plays_85 : decode cX12_plays 85 = .ok (.iconst 3, 1) := fp_dk fp_hdX12_plays_75.1.1.2.1.2
theorem dX12_plays_86 : decode cX12_plays 86 = .ok (.idiv, 1) := fp_dk fp_hdX12_plays_75.1.1.2.2.1
theorem dX12_plays_87 : decode cX12_plays 87 = .ok (.goto 4, 3) := fp_dk fp_hdX12_plays_75.1.1.2.2.2
theorem dX12_plays_90 : decode cX12_plays 90 = .ok (.iconst 1, 1) := fp_dk fp_hdX12_plays_75.1.2.1.1.1
theorem dX12_plays_91 : decode cX12_plays 91 = .ok (.istore 7, 2) := fp_dk fp_hdX12_plays_75.1.2.1.1.2
theorem dX12_plays_93 : decode cX12_plays 93 = .ok (.iload 13, 2) := fp_dk fp_hdX12_plays_75.1.2.1.2.1
theorem dX12_plays_95 : decode cX12_plays 95 = .ok (.iconst 1, 1) := fp_dk fp_hdX12_plays_75.1.2.1.2.2
theorem dX12_plays_96 : decode cX12_plays 96 = .ok (.if_icmp .ne 86, 3) := fp_dk fp_hdX12_plays_75.1.2.2.1.1
theorem dX12_plays_99 : decode cX12_plays 99 = .ok (.iload 12, 2) := fp_dk fp_hdX12_plays_75.1.2.2.1.2
theorem dX12_plays_101 : decode cX12_plays 101 = .ok (.ifCond .eq 8, 3) := fp_dk fp_hdX12_plays_75.1.2.2.2.1
theorem dX12_plays_104 : decode cX12_plays 104 = .ok (.iload 9, 2) := fp_dk fp_hdX12_plays_75.1.2.2.2.2
theorem dX12_plays_106 : decode cX12_plays 106 = .ok (.goto 5, 3) := fp_dk fp_hdX12_plays_75.2.1.1.1.1
theorem dX12_plays_109 : decode cX12_plays 109 = .ok (.iload 10, 2) := fp_dk fp_hdX12_plays_75.2.1.1.1.2
theorem dX12_plays_111 : decode cX12_plays 111 = .ok (.ifCond .eq 16, 3) := fp_dk fp_hdX12_plays_75.2.1.1.2.1
theorem dX12_plays_114 : decode cX12_plays 114 = .ok (.aload_n 0, 1) := fp_dk fp_hdX12_plays_75.2.1.1.2.2
theorem dX12_plays_115 : decode cX12_plays 115 = .ok (.sipush 360, 3) := fp_dk fp_hdX12_plays_75.2.1.2.1.1
theorem dX12_plays_118 : decode cX12_plays 118 = .ok (.iload_n 1, 1) := fp_dk fp_hdX12_plays_75.2.1.2.1.2
theorem dX12_plays_119 : decode cX12_plays 119 = .ok (.invokevirtual 198, 3) := fp_dk fp_hdX12_plays_75.2.1.2.2.1
theorem dX12_plays_122 : decode cX12_plays 122 = .ok (.bipush 8, 2) := fp_dk fp_hdX12_plays_75.2.1.2.2.2
theorem dX12_plays_124 : decode cX12_plays 124 = .ok (.if_icmp .ne 7, 3) := fp_dk fp_hdX12_plays_75.2.2.1.1.1
theorem dX12_plays_127 : decode cX12_plays 127 = .ok (.sipush (-9999), 3) := fp_dk fp_hdX12_plays_75.2.2.1.1.2
theorem dX12_plays_130 : decode cX12_plays 130 = .ok (.ireturn, 1) := fp_dk fp_hdX12_plays_75.2.2.1.2.1
theorem dX12_plays_131 : decode cX12_plays 131 = .ok (.iload 9, 2) := fp_dk fp_hdX12_plays_75.2.2.1.2.2
theorem dX12_plays_133 : decode cX12_plays 133 = .ok (.iload 12, 2) := fp_dk fp_hdX12_plays_75.2.2.2.1.1
theorem dX12_plays_135 : decode cX12_plays 135 = .ok (.ifCond .eq 7, 3) := fp_dk fp_hdX12_plays_75.2.2.2.1.2
theorem dX12_plays_138 : decode cX12_plays 138 = .ok (.iconst 1, 1) := fp_dk fp_hdX12_plays_75.2.2.2.2.1
theorem dX12_plays_139 : decode cX12_plays 139 = .ok (.goto 4, 3) := fp_dk fp_hdX12_plays_75.2.2.2.2.2
theorem fp_hdX12_plays_142 : (((((fp_dq cX12_plays 142 (.iconst 0, 1) = true ∧ fp_dq cX12_plays 143 (.isub, 1) = true) ∧ (fp_dq cX12_plays 144 (.istore 9, 2) = true ∧ fp_dq cX12_plays 146 (.iload 10, 2) = true)) ∧ ((fp_dq cX12_plays 148 (.iload 12, 2) = true ∧ fp_dq cX12_plays 150 (.ifCond .eq 7, 3) = true) ∧ (fp_dq cX12_plays 153 (.iconst 0, 1) = true ∧ fp_dq cX12_plays 154 (.goto 4, 3) = true))) ∧ (((fp_dq cX12_plays 157 (.iconst 1, 1) = true ∧ fp_dq cX12_plays 158 (.isub, 1) = true) ∧ (fp_dq cX12_plays 159 (.istore 10, 2) = true ∧ fp_dq cX12_plays 161 (.aload_n 0, 1) = true)) ∧ ((fp_dq cX12_plays 162 (.sipush 360, 3) = true ∧ fp_dq cX12_plays 165 (.bipush 10, 2) = true) ∧ (fp_dq cX12_plays 167 (.iload_n 1, 1) = true ∧ fp_dq cX12_plays 168 (.aload_n 0, 1) = true)))) ∧ ((((fp_dq cX12_plays 169 (.sipush 360, 3) = true ∧ fp_dq cX12_plays 172 (.iload_n 1, 1) = true) ∧ (fp_dq cX12_plays 173 (.invokevirtual 198, 3) = true ∧ fp_dq cX12_plays 176 (.invokevirtual 237, 3) = true)) ∧ ((fp_dq cX12_plays 179 (.goto 73, 3) = true ∧ fp_dq cX12_plays 182 (.iload 13, 2) = true) ∧ (fp_dq cX12_plays 184 (.ifCond .ne 68, 3) = true ∧ fp_dq cX12_plays 187 (.aload_n 0, 1) = true))) ∧ (((fp_dq cX12_plays 188 (.sipush 360, 3) = true ∧ fp_dq cX12_plays 191 (.iload_n 1, 1) = true) ∧ (fp_dq cX12_plays 192 (.invokevirtual 198, 3) = true ∧ fp_dq cX12_plays 195 (.ifCond .le 57, 3) = true)) ∧ ((fp_dq cX12_plays 198 (.aload_n 0, 1) = true ∧ fp_dq cX12_plays 199 (.sipush 360, 3) = true) ∧ (fp_dq cX12_plays 202 (.iload_n 1, 1) = true ∧ fp_dq cX12_plays 203 (.aload_n 0, 1) = true))))) := by decide +kernel
theorem dX12_plays_142 : decode cX12_plays 142 = .ok (.iconst 0, 1) := fp_dk fp_hdX12_plays_142.1.1.1.1.1
theorem dX12_plays_143 : decode cX12_plays 143 = .ok (.isub, 1) := fp_dk fp_hdX12_plays_142.1.1.1.1.2
theorem dX12_plays_144 : decode cX12_plays 144 = .ok (.istore 9, 2) := fp_dk fp_hdX12_plays_142.1.1.1.2.1
theorem dX12_plays_146 : decode cX12_plays 146 = .ok (.iload 10, 2) := fp_dk fp_hdX12_plays_142.1.1.1.2.2
theorem dX12_plays_148 : decode cX12_plays 148 = .ok (.iload 12, 2) := fp_dk fp_hdX12_plays_142.1.1.2.1.1
theorem dX12_plays_150 : decode cX12_plays 150 = .ok (.ifCond .eq 7, 3) := fp_dk fp_hdX12_plays_142.1.1.2.1.2
theorem dX12_plays_153 : decode cX12_plays 153 = .ok (.iconst 0, 1) := fp_dk fp_hdX12_plays_142.1.1.2.2.1
theorem dX12_plays_154 : decode cX12_plays 154 = .ok (.goto 4, 3) := fp_dk fp_hdX12_plays_142.1.1.2.2.2
theorem dX12_plays_157 : decode cX12_plays 157 = .ok (.iconst 1, 1) := fp_dk fp_hdX12_plays_142.1.2.1.1.1
theorem dX12_plays_158 : decode cX12_plays 158 = .ok (.isub, 1) := fp_dk fp_hdX12_plays_142.1.2.1.1.2
theorem dX12_plays_159 : decode cX12_plays 159 = .ok (.istore 10, 2) := fp_dk fp_hdX12_plays_142.1.2.1.2.1
theorem dX12_plays_161 : decode cX12_plays 161 = .ok (.aload_n 0, 1) := fp_dk fp_hdX12_plays_142.1.2.1.2.2
theorem dX12_plays_162 : decode cX12_plays 162 = .ok (.sipush 360, 3) := fp_dk fp_hdX12_plays_142.1.2.2.1.1
theorem dX12_plays_165 : decode cX12_plays 165 = .ok (.bipush 10, 2) := fp_dk fp_hdX12_plays_142.1.2.2.1.2
theorem dX12_plays_167 : decode cX12_plays 167 = .ok (.iload_n 1, 1) := fp_dk fp_hdX12_plays_142.1.2.2.2.1
theorem dX12_plays_168 : decode cX12_plays 168 = .ok (.aload_n 0, 1) := fp_dk fp_hdX12_plays_142.1.2.2.2.2
theorem dX12_plays_169 : decode cX12_plays 169 = .ok (.sipush 360, 3) := fp_dk fp_hdX12_plays_142.2.1.1.1.1
theorem dX12_plays_172 : decode cX12_plays 172 = .ok (.iload_n 1, 1) := fp_dk fp_hdX12_plays_142.2.1.1.1.2
theorem dX12_plays_173 : decode cX12_plays 173 = .ok (.invokevirtual 198, 3) := fp_dk fp_hdX12_plays_142.2.1.1.2.1
theorem dX12_plays_176 : decode cX12_plays 176 = .ok (.invokevirtual 237, 3) := fp_dk fp_hdX12_plays_142.2.1.1.2.2
theorem dX12_plays_179 : decode cX12_plays 179 = .ok (.goto 73, 3) := fp_dk fp_hdX12_plays_142.2.1.2.1.1
theorem dX12_plays_182 : decode cX12_plays 182 = .ok (.iload 13, 2) := fp_dk fp_hdX12_plays_142.2.1.2.1.2
theorem dX12_plays_184 : decode cX12_plays 184 = .ok (.ifCond .ne 68, 3) := fp_dk fp_hdX12_plays_142.2.1.2.2.1
theorem dX12_plays_187 : decode cX12_plays 187 = .ok (.aload_n 0, 1) := fp_dk fp_hdX12_plays_142.2.1.2.2.2
theorem dX12_plays_188 : decode cX12_plays 188 = .ok (.sipush 360, 3) := fp_dk fp_hdX12_plays_142.2.2.1.1.1
theorem dX12_plays_191 : decode cX12_plays 191 = .ok (.iload_n 1, 1) := fp_dk fp_hdX12_plays_142.2.2.1.1.2
theorem dX12_plays_192 : decode cX12_plays 192 = .ok (.invokevirtual 198, 3) := fp_dk fp_hdX12_plays_142.2.2.1.2.1
theorem dX12_plays_195 : decode cX12_plays 195 = .ok (.ifCond .le 57, 3) := fp_dk fp_hdX12_plays_142.2.2.1.2.2
theorem dX12_plays_198 : decode cX12_plays 198 = .ok (.aload_n 0, 1) := fp_dk fp_hdX12_plays_142.2.2.2.1.1
theorem dX12_plays_199 : decode cX12_plays 199 = .ok (.sipush 360, 3) := fp_dk fp_hdX12_plays_142.2.2.2.1.2
theorem dX12_plays_202 : decode cX12_plays 202 = .ok (.iload_n 1, 1) := fp_dk fp_hdX12_plays_142.2.2.2.2.1
theorem dX12_plays_203 : decode cX12_plays 203 = .ok (.aload_n 0, 1) := fp_dk fp_hdX12_plays_142.2.2.2.2.2
theorem fp_hdX12_plays_204 : (((((fp_dq cX12_plays 204 (.sipush 360, 3) = true ∧ fp_dq cX12_plays 207 (.iload_n 1, 1) = true) ∧ (fp_dq cX12_plays 208 (.invokevirtual 216, 3) = true ∧ fp_dq cX12_plays 211 (.invokevirtual 241, 3) = true)) ∧ ((fp_dq cX12_plays 214 (.istore 14, 2) = true ∧ fp_dq cX12_plays 216 (.iload 8, 2) = true) ∧ (fp_dq cX12_plays 218 (.iload 12, 2) = true ∧ fp_dq cX12_plays 220 (.ifCond .eq 17, 3) = true))) ∧ (((fp_dq cX12_plays 223 (.aload_n 0, 1) = true ∧ fp_dq cX12_plays 224 (.getfield 16, 3) = true) ∧ (fp_dq cX12_plays 227 (.iconst 4, 1) = true ∧ fp_dq cX12_plays 228 (.iload 14, 2) = true)) ∧ ((fp_dq cX12_plays 230 (.imul, 1) = true ∧ fp_dq cX12_plays 231 (.iload_n 2, 1) = true) ∧ (fp_dq cX12_plays 232 (.iadd, 1) = true ∧ fp_dq cX12_plays 233 (.iaload, 1) = true)))) ∧ ((((fp_dq cX12_plays 234 (.goto 15, 3) = true ∧ fp_dq cX12_plays 237 (.aload_n 0, 1) = true) ∧ (fp_dq cX12_plays 238 (.getfield 16, 3) = true ∧ fp_dq cX12_plays 241 (.iconst 4, 1) = true)) ∧ ((fp_dq cX12_plays 242 (.iload 14, 2) = true ∧ fp_dq cX12_plays 244 (.imul, 1) = true) ∧ (fp_dq cX12_plays 245 (.iload_n 3, 1) = true ∧ fp_dq cX12_plays 246 (.iadd, 1) = true))) ∧ (((fp_dq cX12_plays 247 (.iaload, 1) = true ∧ fp_dq cX12_plays 248 (.ineg, 1) = true) ∧ (fp_dq cX12_plays 249 (.iadd, 1) = true ∧ fp_dq cX12_plays 250 (.istore 8, 2) = true)) ∧ ((fp_dq cX12_plays 252 (.iinc 11 1, 3) = true ∧ fp_dq cX12_plays 255 (.goto (-208), 3) = true) ∧ (fp_dq cX12_plays 258 (.iload 8, 2) = true ∧ fp_dq cX12_plays 260 (.ireturn, 1) = true))))) := by decide +kernel
theorem dX12_plays_204 : decode cX12_plays 204 = .ok (.sipush 360, 3) := fp_dk fp_hdX12_plays_204.1.1.1.1.1
theorem dX12_plays_207 : decode cX12_plays 207 = .ok (.iload_n 1, 1) := fp_dk fp_hdX12_plays_204.1.1.1.1.2
theorem dX12_plays_208 : decode cX12_plays 208 = .ok (.invokevirtual 216, 3) := fp_dk fp_hdX12_plays_204.1.1.1.2.1
theorem dX12_plays_211 : decode cX12_plays 211 = .ok (.invokevirtual 241, 3) := fp_dk fp_hdX12_plays_204.1.1.1.2.2
theorem dX12_plays_214 : decode cX12_plays 214 = .ok (.istore 14, 2) := fp_dk fp_hdX12_plays_204.1.1.2.1.1
theorem dX12_plays_216 : decode cX12_plays 216 = .ok (.iload 8, 2) := fp_dk fp_hdX12_plays_204.1.1.2.1.2
theorem dX12_plays_218 : decode cX12_plays 218 = .ok (.iload 12, 2) := fp_dk fp_hdX12_plays_204.1.1.2.2.1
theorem dX12_plays_220 : decode cX12_plays 220 = .ok (.ifCond .eq 17, 3) := fp_dk fp_hdX12_plays_204.1.1.2.2.2
theorem dX12_plays_223 : decode cX12_plays 223 = .ok (.aload_n 0, 1) := fp_dk fp_hdX12_plays_204.1.2.1.1.1
theorem dX12_plays_224 : decode cX12_plays 224 = .ok (.getfield 16, 3) := fp_dk fp_hdX12_plays_204.1.2.1.1.2
theorem dX12_plays_227 : decode cX12_plays 227 = .ok (.iconst 4, 1) := fp_dk fp_hdX12_plays_204.1.2.1.2.1
theorem dX12_plays_228 : decode cX12_plays 228 = .ok (.iload 14, 2) := fp_dk fp_hdX12_plays_204.1.2.1.2.2
theorem dX12_plays_230 : decode cX12_plays 230 = .ok (.imul, 1) := fp_dk fp_hdX12_plays_204.1.2.2.1.1
theorem dX12_plays_231 : decode cX12_plays 231 = .ok (.iload_n 2, 1) := fp_dk fp_hdX12_plays_204.1.2.2.1.2
theorem dX12_plays_232 : decode cX12_plays 232 = .ok (.iadd, 1) := fp_dk fp_hdX12_plays_204.1.2.2.2.1
theorem dX12_plays_233 : decode cX12_plays 233 = .ok (.iaload, 1) := fp_dk fp_hdX12_plays_204.1.2.2.2.2
theorem dX12_plays_234 : decode cX12_plays 234 = .ok (.goto 15, 3) := fp_dk fp_hdX12_plays_204.2.1.1.1.1
theorem dX12_plays_237 : decode cX12_plays 237 = .ok (.aload_n 0, 1) := fp_dk fp_hdX12_plays_204.2.1.1.1.2
theorem dX12_plays_238 : decode cX12_plays 238 = .ok (.getfield 16, 3) := fp_dk fp_hdX12_plays_204.2.1.1.2.1
theorem dX12_plays_241 : decode cX12_plays 241 = .ok (.iconst 4, 1) := fp_dk fp_hdX12_plays_204.2.1.1.2.2
theorem dX12_plays_242 : decode cX12_plays 242 = .ok (.iload 14, 2) := fp_dk fp_hdX12_plays_204.2.1.2.1.1
theorem dX12_plays_244 : decode cX12_plays 244 = .ok (.imul, 1) := fp_dk fp_hdX12_plays_204.2.1.2.1.2
theorem dX12_plays_245 : decode cX12_plays 245 = .ok (.iload_n 3, 1) := fp_dk fp_hdX12_plays_204.2.1.2.2.1
theorem dX12_plays_246 : decode cX12_plays 246 = .ok (.iadd, 1) := fp_dk fp_hdX12_plays_204.2.1.2.2.2
theorem dX12_plays_247 : decode cX12_plays 247 = .ok (.iaload, 1) := fp_dk fp_hdX12_plays_204.2.2.1.1.1
theorem dX12_plays_248 : decode cX12_plays 248 = .ok (.ineg, 1) := fp_dk fp_hdX12_plays_204.2.2.1.1.2
theorem dX12_plays_249 : decode cX12_plays 249 = .ok (.iadd, 1) := fp_dk fp_hdX12_plays_204.2.2.1.2.1
theorem dX12_plays_250 : decode cX12_plays 250 = .ok (.istore 8, 2) := fp_dk fp_hdX12_plays_204.2.2.1.2.2
theorem dX12_plays_252 : decode cX12_plays 252 = .ok (.iinc 11 1, 3) := fp_dk fp_hdX12_plays_204.2.2.2.1.1
theorem dX12_plays_255 : decode cX12_plays 255 = .ok (.goto (-208), 3) := fp_dk fp_hdX12_plays_204.2.2.2.1.2
theorem dX12_plays_258 : decode cX12_plays 258 = .ok (.iload 8, 2) := fp_dk fp_hdX12_plays_204.2.2.2.2.1
theorem dX12_plays_260 : decode cX12_plays 260 = .ok (.ireturn, 1) := fp_dk fp_hdX12_plays_204.2.2.2.2.2
theorem fp_hdX12_duel_0 : (((((fp_dq cX12_duel 0 (.aload_n 0, 1) = true ∧ fp_dq cX12_duel 1 (.iload_n 1, 1) = true) ∧ (fp_dq cX12_duel 2 (.invokevirtual 219, 3) = true ∧ fp_dq cX12_duel 5 (.ifCond .eq 59, 3) = true)) ∧ ((fp_dq cX12_duel 8 (.iload_n 2, 1) = true ∧ fp_dq cX12_duel 9 (.invokestatic 228, 3) = true) ∧ (fp_dq cX12_duel 12 (.ifCond .eq 52, 3) = true ∧ fp_dq cX12_duel 15 (.iload_n 3, 1) = true))) ∧ (((fp_dq cX12_duel 16 (.invokestatic 228, 3) = true ∧ fp_dq cX12_duel 19 (.ifCond .eq 45, 3) = true) ∧ (fp_dq cX12_duel 22 (.iload_n 2, 1) = true ∧ fp_dq cX12_duel 23 (.iload_n 3, 1) = true)) ∧ ((fp_dq cX12_duel 24 (.if_icmp .eq 40, 3) = true ∧ fp_dq cX12_duel 27 (.iload 4, 2) = true) ∧ (fp_dq cX12_duel 29 (.i2l, 1) = true ∧ fp_dq cX12_duel 30 (.lconst 0, 1) = true)))) ∧ ((((fp_dq cX12_duel 31 (.ldc2_w 271, 3) = true ∧ fp_dq cX12_duel 34 (.invokestatic 94, 3) = true) ∧ (fp_dq cX12_duel 37 (.ifCond .eq 27, 3) = true ∧ fp_dq cX12_duel 40 (.iload 5, 2) = true)) ∧ ((fp_dq cX12_duel 42 (.i2l, 1) = true ∧ fp_dq cX12_duel 43 (.lconst 1, 1) = true) ∧ (fp_dq cX12_duel 44 (.ldc2_w 304, 3) = true ∧ fp_dq cX12_duel 47 (.invokestatic 94, 3) = true))) ∧ (((fp_dq cX12_duel 50 (.ifCond .eq 14, 3) = true ∧ fp_dq cX12_duel 53 (.iload 6, 2) = true) ∧ (fp_dq cX12_duel 55 (.i2l, 1) = true ∧ fp_dq cX12_duel 56 (.lconst 0, 1) = true)) ∧ ((fp_dq cX12_duel 57 (.lconst 1, 1) = true ∧ fp_dq cX12_duel 58 (.invokestatic 94, 3) = true) ∧ (fp_dq cX12_duel 61 (.ifCond .ne 5, 3) = true ∧ fp_dq cX12_duel 64 (.iconst (-1), 1) = true))))) := by decide +kernel
theorem dX12_duel_0 : decode cX12_duel 0 = .ok (.aload_n 0, 1) := fp_dk fp_hdX12_duel_0.1.1.1.1.1
theorem dX12_duel_1 : decode cX12_duel 1 = .ok (.iload_n 1, 1) := fp_dk fp_hdX12_duel_0.1.1.1.1.2
theorem dX12_duel_2 : decode cX12_duel 2 = .ok (.invokevirtual 219, 3) := fp_dk fp_hdX12_duel_0.1.1.1.2.1
theorem dX12_duel_5 : decode cX12_duel 5 = .ok (.ifCond .eq 59, 3) := fp_dk fp_hdX12_duel_0.1.1.1.2.2
theorem dX12_duel_8 : decode cX12_duel 8 = .ok (.iload_n 2, 1) := fp_dk fp_hdX12_duel_0.1.1.2.1.1
theorem dX12_duel_9 : decode cX12_duel 9 = .ok (.invokestatic 228, 3) := fp_dk fp_hdX12_duel_0.1.1.2.1.2
theorem dX12_duel_12 : decode cX12_duel 12 = .ok (.ifCond .eq 52, 3) := fp_dk fp_hdX12_duel_0.1.1.2.2.1
theorem dX12_duel_15 : decode cX12_duel 15 = .ok (.iload_n 3, 1) := fp_dk fp_hdX12_duel_0.1.1.2.2.2
theorem dX12_duel_16 : decode cX12_duel 16 = .ok (.invokestatic 228, 3) := fp_dk fp_hdX12_duel_0.1.2.1.1.1
theorem dX12_duel_19 : decode cX12_duel 19 = .ok (.ifCond .eq 45, 3) := fp_dk fp_hdX12_duel_0.1.2.1.1.2
theorem dX12_duel_22 : decode cX12_duel 22 = .ok (.iload_n 2, 1) := fp_dk fp_hdX12_duel_0.1.2.1.2.1
theorem dX12_duel_23 : decode cX12_duel 23 = .ok (.iload_n 3, 1) := fp_dk fp_hdX12_duel_0.1.2.1.2.2
theorem dX12_duel_24 : decode cX12_duel 24 = .ok (.if_icmp .eq 40, 3) := fp_dk fp_hdX12_duel_0.1.2.2.1.1
theorem dX12_duel_27 : decode cX12_duel 27 = .ok (.iload 4, 2) := fp_dk fp_hdX12_duel_0.1.2.2.1.2
theorem dX12_duel_29 : decode cX12_duel 29 = .ok (.i2l, 1) := fp_dk fp_hdX12_duel_0.1.2.2.2.1
theorem dX12_duel_30 : decode cX12_duel 30 = .ok (.lconst 0, 1) := fp_dk fp_hdX12_duel_0.1.2.2.2.2
theorem dX12_duel_31 : decode cX12_duel 31 = .ok (.ldc2_w 271, 3) := fp_dk fp_hdX12_duel_0.2.1.1.1.1
theorem dX12_duel_34 : decode cX12_duel 34 = .ok (.invokestatic 94, 3) := fp_dk fp_hdX12_duel_0.2.1.1.1.2
theorem dX12_duel_37 : decode cX12_duel 37 = .ok (.ifCond .eq 27, 3) := fp_dk fp_hdX12_duel_0.2.1.1.2.1
theorem dX12_duel_40 : decode cX12_duel 40 = .ok (.iload 5, 2) := fp_dk fp_hdX12_duel_0.2.1.1.2.2
theorem dX12_duel_42 : decode cX12_duel 42 = .ok (.i2l, 1) := fp_dk fp_hdX12_duel_0.2.1.2.1.1
theorem dX12_duel_43 : decode cX12_duel 43 = .ok (.lconst 1, 1) := fp_dk fp_hdX12_duel_0.2.1.2.1.2
theorem dX12_duel_44 : decode cX12_duel 44 = .ok (.ldc2_w 304, 3) := fp_dk fp_hdX12_duel_0.2.1.2.2.1
theorem dX12_duel_47 : decode cX12_duel 47 = .ok (.invokestatic 94, 3) := fp_dk fp_hdX12_duel_0.2.1.2.2.2
theorem dX12_duel_50 : decode cX12_duel 50 = .ok (.ifCond .eq 14, 3) := fp_dk fp_hdX12_duel_0.2.2.1.1.1
theorem dX12_duel_53 : decode cX12_duel 53 = .ok (.iload 6, 2) := fp_dk fp_hdX12_duel_0.2.2.1.1.2
theorem dX12_duel_55 : decode cX12_duel 55 = .ok (.i2l, 1) := fp_dk fp_hdX12_duel_0.2.2.1.2.1
theorem dX12_duel_56 : decode cX12_duel 56 = .ok (.lconst 0, 1) := fp_dk fp_hdX12_duel_0.2.2.1.2.2
theorem dX12_duel_57 : decode cX12_duel 57 = .ok (.lconst 1, 1) := fp_dk fp_hdX12_duel_0.2.2.2.1.1
theorem dX12_duel_58 : decode cX12_duel 58 = .ok (.invokestatic 94, 3) := fp_dk fp_hdX12_duel_0.2.2.2.1.2
theorem dX12_duel_61 : decode cX12_duel 61 = .ok (.ifCond .ne 5, 3) := fp_dk fp_hdX12_duel_0.2.2.2.2.1
theorem dX12_duel_64 : decode cX12_duel 64 = .ok (.iconst (-1), 1) := fp_dk fp_hdX12_duel_0.2.2.2.2.2
theorem fp_hdX12_duel_65 : (((((fp_dq cX12_duel 65 (.ireturn, 1) = true ∧ fp_dq cX12_duel 66 (.iconst 1, 1) = true) ∧ (fp_dq cX12_duel 67 (.istore 7, 2) = true ∧ fp_dq cX12_duel 69 (.iconst 0, 1) = true)) ∧ ((fp_dq cX12_duel 70 (.istore 8, 2) = true ∧ fp_dq cX12_duel 72 (.iload 8, 2) = true) ∧ (fp_dq cX12_duel 74 (.iload 5, 2) = true ∧ fp_dq cX12_duel 76 (.if_icmp .ge 15, 3) = true))) ∧ (((fp_dq cX12_duel 79 (.iload 7, 2) = true ∧ fp_dq cX12_duel 81 (.iconst 3, 1) = true) ∧ (fp_dq cX12_duel 82 (.imul, 1) = true ∧ fp_dq cX12_duel 83 (.istore 7, 2) = true)) ∧ ((fp_dq cX12_duel 85 (.iinc 8 1, 3) = true ∧ fp_dq cX12_duel 88 (.goto (-16), 3) = true) ∧ (fp_dq cX12_duel 91 (.iconst 0, 1) = true ∧ fp_dq cX12_duel 92 (.istore 8, 2) = true)))) ∧ ((((fp_dq cX12_duel 94 (.iload 8, 2) = true ∧ fp_dq cX12_duel 96 (.iload 7, 2) = true) ∧ (fp_dq cX12_duel 98 (.if_icmp .ge 29, 3) = true ∧ fp_dq cX12_duel 101 (.aload_n 0, 1) = true)) ∧ ((fp_dq cX12_duel 102 (.getfield 60, 3) = true ∧ fp_dq cX12_duel 105 (.iload 8, 2) = true) ∧ (fp_dq cX12_duel 107 (.aload_n 0, 1) = true ∧ fp_dq cX12_duel 108 (.iload_n 1, 1) = true))) ∧ (((fp_dq cX12_duel 109 (.iload_n 2, 1) = true ∧ fp_dq cX12_duel 110 (.iload_n 3, 1) = true) ∧ (fp_dq cX12_duel 111 (.iload 4, 2) = true ∧ fp_dq cX12_duel 113 (.iload 5, 2) = true)) ∧ ((fp_dq cX12_duel 115 (.iload 8, 2) = true ∧ fp_dq cX12_duel 117 (.invokevirtual 306, 3) = true) ∧ (fp_dq cX12_duel 120 (.iastore, 1) = true ∧ fp_dq cX12_duel 121 (.iinc 8 1, 3) = true))))) := by decide +kernel
theorem dX12_duel_65 : decode cX12_duel 65 = .ok (.ireturn, 1) := fp_dk fp_hdX12_duel_65.1.1.1.1.1
theorem dX12_duel_66 : decode cX12_duel 66 = .ok (.iconst 1, 1) := fp_dk fp_hdX12_duel_65.1.1.1.1.2
theorem dX12_duel_67 : decode cX12_duel 67 = .ok (.istore 7, 2) := fp_dk fp_hdX12_duel_65.1.1.1.2.1
theorem dX12_duel_69 : decode cX12_duel 69 = .ok (.iconst 0, 1) := fp_dk fp_hdX12_duel_65.1.1.1.2.2
theorem dX12_duel_70 : decode cX12_duel 70 = .ok (.istore 8, 2) := fp_dk fp_hdX12_duel_65.1.1.2.1.1
theorem dX12_duel_72 : decode cX12_duel 72 = .ok (.iload 8, 2) := fp_dk fp_hdX12_duel_65.1.1.2.1.2
theorem dX12_duel_74 : decode cX12_duel 74 = .ok (.iload 5, 2) := fp_dk fp_hdX12_duel_65.1.1.2.2.1
theorem dX12_duel_76 : decode cX12_duel 76 = .ok (.if_icmp .ge 15, 3) := fp_dk fp_hdX12_duel_65.1.1.2.2.2
theorem dX12_duel_79 : decode cX12_duel 79 = .ok (.iload 7, 2) := fp_dk fp_hdX12_duel_65.1.2.1.1.1
theorem dX12_duel_81 : decode cX12_duel 81 = .ok (.iconst 3, 1) := fp_dk fp_hdX12_duel_65.1.2.1.1.2
theorem dX12_duel_82 : decode cX12_duel 82 = .ok (.imul, 1) := fp_dk fp_hdX12_duel_65.1.2.1.2.1
theorem dX12_duel_83 : decode cX12_duel 83 = .ok (.istore 7, 2) := fp_dk fp_hdX12_duel_65.1.2.1.2.2
theorem dX12_duel_85 : decode cX12_duel 85 = .ok (.iinc 8 1, 3) := fp_dk fp_hdX12_duel_65.1.2.2.1.1
theorem dX12_duel_88 : decode cX12_duel 88 = .ok (.goto (-16), 3) := fp_dk fp_hdX12_duel_65.1.2.2.1.2
theorem dX12_duel_91 : decode cX12_duel 91 = .ok (.iconst 0, 1) := fp_dk fp_hdX12_duel_65.1.2.2.2.1
theorem dX12_duel_92 : decode cX12_duel 92 = .ok (.istore 8, 2) := fp_dk fp_hdX12_duel_65.1.2.2.2.2
theorem dX12_duel_94 : decode cX12_duel 94 = .ok (.iload 8, 2) := fp_dk fp_hdX12_duel_65.2.1.1.1.1
theorem dX12_duel_96 : decode cX12_duel 96 = .ok (.iload 7, 2) := fp_dk fp_hdX12_duel_65.2.1.1.1.2
theorem dX12_duel_98 : decode cX12_duel 98 = .ok (.if_icmp .ge 29, 3) := fp_dk fp_hdX12_duel_65.2.1.1.2.1
theorem dX12_duel_101 : decode cX12_duel 101 = .ok (.aload_n 0, 1) := fp_dk fp_hdX12_duel_65.2.1.1.2.2
theorem dX12_duel_102 : decode cX12_duel 102 = .ok (.getfield 60, 3) := fp_dk fp_hdX12_duel_65.2.1.2.1.1
theorem dX12_duel_105 : decode cX12_duel 105 = .ok (.iload 8, 2) := fp_dk fp_hdX12_duel_65.2.1.2.1.2
theorem dX12_duel_107 : decode cX12_duel 107 = .ok (.aload_n 0, 1) := fp_dk fp_hdX12_duel_65.2.1.2.2.1
theorem dX12_duel_108 : decode cX12_duel 108 = .ok (.iload_n 1, 1) := fp_dk fp_hdX12_duel_65.2.1.2.2.2
theorem dX12_duel_109 : decode cX12_duel 109 = .ok (.iload_n 2, 1) := fp_dk fp_hdX12_duel_65.2.2.1.1.1
theorem dX12_duel_110 : decode cX12_duel 110 = .ok (.iload_n 3, 1) := fp_dk fp_hdX12_duel_65.2.2.1.1.2
theorem dX12_duel_111 : decode cX12_duel 111 = .ok (.iload 4, 2) := fp_dk fp_hdX12_duel_65.2.2.1.2.1
theorem dX12_duel_113 : decode cX12_duel 113 = .ok (.iload 5, 2) := fp_dk fp_hdX12_duel_65.2.2.1.2.2
theorem dX12_duel_115 : decode cX12_duel 115 = .ok (.iload 8, 2) := fp_dk fp_hdX12_duel_65.2.2.2.1.1
theorem dX12_duel_117 : decode cX12_duel 117 = .ok (.invokevirtual 306, 3) := fp_dk fp_hdX12_duel_65.2.2.2.1.2
theorem dX12_duel_120 : decode cX12_duel 120 = .ok (.iastore, 1) := fp_dk fp_hdX12_duel_65.2.2.2.2.1
theorem dX12_duel_121 : decode cX12_duel 121 = .ok (.iinc 8 1, 3) := fp_dk fp_hdX12_duel_65.2.2.2.2.2
theorem fp_hdX12_duel_124 : (((((fp_dq cX12_duel 124 (.goto (-30), 3) = true ∧ fp_dq cX12_duel 127 (.iconst 0, 1) = true) ∧ (fp_dq cX12_duel 128 (.istore 8, 2) = true ∧ fp_dq cX12_duel 130 (.iload 5, 2) = true)) ∧ ((fp_dq cX12_duel 132 (.iconst 1, 1) = true ∧ fp_dq cX12_duel 133 (.isub, 1) = true) ∧ (fp_dq cX12_duel 134 (.istore 9, 2) = true ∧ fp_dq cX12_duel 136 (.iload 9, 2) = true))) ∧ (((fp_dq cX12_duel 138 (.ifCond .lt 156, 3) = true ∧ fp_dq cX12_duel 141 (.iload 7, 2) = true) ∧ (fp_dq cX12_duel 143 (.iconst 3, 1) = true ∧ fp_dq cX12_duel 144 (.idiv, 1) = true)) ∧ ((fp_dq cX12_duel 145 (.istore 7, 2) = true ∧ fp_dq cX12_duel 147 (.iconst 0, 1) = true) ∧ (fp_dq cX12_duel 148 (.istore 10, 2) = true ∧ fp_dq cX12_duel 150 (.iload 10, 2) = true)))) ∧ ((((fp_dq cX12_duel 152 (.iload 7, 2) = true ∧ fp_dq cX12_duel 154 (.if_icmp .ge 134, 3) = true) ∧ (fp_dq cX12_duel 157 (.sipush (-9999), 3) = true ∧ fp_dq cX12_duel 160 (.istore 11, 2) = true)) ∧ ((fp_dq cX12_duel 162 (.iconst 0, 1) = true ∧ fp_dq cX12_duel 163 (.istore 12, 2) = true) ∧ (fp_dq cX12_duel 165 (.iconst 0, 1) = true ∧ fp_dq cX12_duel 166 (.istore 13, 2) = true))) ∧ (((fp_dq cX12_duel 168 (.iload 13, 2) = true ∧ fp_dq cX12_duel 170 (.iconst 3, 1) = true) ∧ (fp_dq cX12_duel 171 (.if_icmp .ge 98, 3) = true ∧ fp_dq cX12_duel 174 (.aload_n 0, 1) = true)) ∧ ((fp_dq cX12_duel 175 (.getfield 60, 3) = true ∧ fp_dq cX12_duel 178 (.iconst 3, 1) = true) ∧ (fp_dq cX12_duel 179 (.iload 10, 2) = true ∧ fp_dq cX12_duel 181 (.imul, 1) = true))))) := by decide +kernel
theorem dX12_duel_124 : decode cX12_duel 124 = .ok (.goto (-30), 3) := fp_dk fp_hdX12_duel_124.1.1.1.1.1
theorem dX12_duel_127 : decode cX12_duel 127 = .ok (.iconst 0, 1) := fp_dk fp_hdX12_duel_124.1.1.1.1.2
theorem dX12_duel_128 : decode cX12_duel 128 = .ok (.istore 8, 2) := fp_dk fp_hdX12_duel_124.1.1.1.2.1
theorem dX12_duel_130 : decode cX12_duel 130 = .ok (.iload 5, 2) := fp_dk fp_hdX12_duel_124.1.1.1.2.2
theorem dX12_duel_132 : decode cX12_duel 132 = .ok (.iconst 1, 1) := fp_dk fp_hdX12_duel_124.1.1.2.1.1
theorem dX12_duel_133 : decode cX12_duel 133 = .ok (.isub, 1) := fp_dk fp_hdX12_duel_124.1.1.2.1.2
theorem dX12_duel_134 : decode cX12_duel 134 = .ok (.istore 9, 2) := fp_dk fp_hdX12_duel_124.1.1.2.2.1
theorem dX12_duel_136 : decode cX12_duel 136 = .ok (.iload 9, 2) := fp_dk fp_hdX12_duel_124.1.1.2.2.2
theorem dX12_duel_138 : decode cX12_duel 138 = .ok (.ifCond .lt 156, 3) := fp_dk fp_hdX12_duel_124.1.2.1.1.1
theorem dX12_duel_141 : decode cX12_duel 141 = .ok (.iload 7, 2) := fp_dk fp_hdX12_duel_124.1.2.1.1.2
theorem dX12_duel_143 : decode cX12_duel 143 = .ok (.iconst 3, 1) := fp_dk fp_hdX12_duel_124.1.2.1.2.1
theorem dX12_duel_144 : decode cX12_duel 144 = .ok (.idiv, 1) := fp_dk fp_hdX12_duel_124.1.2.1.2.2
theorem dX12_duel_145 : decode cX12_duel 145 = .ok (.istore 7, 2) := fp_dk fp_hdX12_duel_124.1.2.2.1.1
theorem dX12_duel_147 : decode cX12_duel 147 = .ok (.iconst 0, 1) := fp_dk fp_hdX12_duel_124.1.2.2.1.2
theorem dX12_duel_148 : decode cX12_duel 148 = .ok (.istore 10, 2) := fp_dk fp_hdX12_duel_124.1.2.2.2.1
theorem dX12_duel_150 : decode cX12_duel 150 = .ok (.iload 10, 2) := fp_dk fp_hdX12_duel_124.1.2.2.2.2
theorem dX12_duel_152 : decode cX12_duel 152 = .ok (.iload 7, 2) := fp_dk fp_hdX12_duel_124.2.1.1.1.1
theorem dX12_duel_154 : decode cX12_duel 154 = .ok (.if_icmp .ge 134, 3) := fp_dk fp_hdX12_duel_124.2.1.1.1.2
theorem dX12_duel_157 : decode cX12_duel 157 = .ok (.sipush (-9999), 3) := fp_dk fp_hdX12_duel_124.2.1.1.2.1
theorem dX12_duel_160 : decode cX12_duel 160 = .ok (.istore 11, 2) := fp_dk fp_hdX12_duel_124.2.1.1.2.2
theorem dX12_duel_162 : decode cX12_duel 162 = .ok (.iconst 0, 1) := fp_dk fp_hdX12_duel_124.2.1.2.1.1
theorem dX12_duel_163 : decode cX12_duel 163 = .ok (.istore 12, 2) := fp_dk fp_hdX12_duel_124.2.1.2.1.2
theorem dX12_duel_165 : decode cX12_duel 165 = .ok (.iconst 0, 1) := fp_dk fp_hdX12_duel_124.2.1.2.2.1
theorem dX12_duel_166 : decode cX12_duel 166 = .ok (.istore 13, 2) := fp_dk fp_hdX12_duel_124.2.1.2.2.2
theorem dX12_duel_168 : decode cX12_duel 168 = .ok (.iload 13, 2) := fp_dk fp_hdX12_duel_124.2.2.1.1.1
theorem dX12_duel_170 : decode cX12_duel 170 = .ok (.iconst 3, 1) := fp_dk fp_hdX12_duel_124.2.2.1.1.2
theorem dX12_duel_171 : decode cX12_duel 171 = .ok (.if_icmp .ge 98, 3) := fp_dk fp_hdX12_duel_124.2.2.1.2.1
theorem dX12_duel_174 : decode cX12_duel 174 = .ok (.aload_n 0, 1) := fp_dk fp_hdX12_duel_124.2.2.1.2.2
theorem dX12_duel_175 : decode cX12_duel 175 = .ok (.getfield 60, 3) := fp_dk fp_hdX12_duel_124.2.2.2.1.1
theorem dX12_duel_178 : decode cX12_duel 178 = .ok (.iconst 3, 1) := fp_dk fp_hdX12_duel_124.2.2.2.1.2
theorem dX12_duel_179 : decode cX12_duel 179 = .ok (.iload 10, 2) := fp_dk fp_hdX12_duel_124.2.2.2.2.1
theorem dX12_duel_181 : decode cX12_duel 181 = .ok (.imul, 1) := fp_dk fp_hdX12_duel_124.2.2.2.2.2
theorem fp_hdX12_duel_182 : (((((fp_dq cX12_duel 182 (.iload 13, 2) = true ∧ fp_dq cX12_duel 184 (.iadd, 1) = true) ∧ (fp_dq cX12_duel 185 (.iaload, 1) = true ∧ fp_dq cX12_duel 186 (.istore 14, 2) = true)) ∧ ((fp_dq cX12_duel 188 (.iload 14, 2) = true ∧ fp_dq cX12_duel 190 (.sipush (-9999), 3) = true) ∧ (fp_dq cX12_duel 193 (.if_icmp .eq 39, 3) = true ∧ fp_dq cX12_duel 196 (.iload 11, 2) = true))) ∧ (((fp_dq cX12_duel 198 (.sipush (-9999), 3) = true ∧ fp_dq cX12_duel 201 (.if_icmp .eq 27, 3) = true) ∧ (fp_dq cX12_duel 204 (.iload 9, 2) = true ∧ fp_dq cX12_duel 206 (.iconst 2, 1) = true)) ∧ ((fp_dq cX12_duel 207 (.irem, 1) = true ∧ fp_dq cX12_duel 208 (.ifCond .ne 13, 3) = true) ∧ (fp_dq cX12_duel 211 (.iload 14, 2) = true ∧ fp_dq cX12_duel 213 (.iload 11, 2) = true)))) ∧ ((((fp_dq cX12_duel 215 (.if_icmp .le 17, 3) = true ∧ fp_dq cX12_duel 218 (.goto 10, 3) = true) ∧ (fp_dq cX12_duel 221 (.iload 14, 2) = true ∧ fp_dq cX12_duel 223 (.iload 11, 2) = true)) ∧ ((fp_dq cX12_duel 225 (.if_icmp .ge 7, 3) = true ∧ fp_dq cX12_duel 228 (.iconst 1, 1) = true) ∧ (fp_dq cX12_duel 229 (.goto 4, 3) = true ∧ fp_dq cX12_duel 232 (.iconst 0, 1) = true))) ∧ (((fp_dq cX12_duel 233 (.istore 15, 2) = true ∧ fp_dq cX12_duel 235 (.iload 15, 2) = true) ∧ (fp_dq cX12_duel 237 (.ifCond .eq 8, 3) = true ∧ fp_dq cX12_duel 240 (.iload 13, 2) = true)) ∧ ((fp_dq cX12_duel 242 (.goto 5, 3) = true ∧ fp_dq cX12_duel 245 (.iload 12, 2) = true) ∧ (fp_dq cX12_duel 247 (.istore 12, 2) = true ∧ fp_dq cX12_duel 249 (.iload 15, 2) = true))))) := by decide +kernel
theorem dX12_duel_182 : decode cX12_duel 182 = .ok (.iload 13, 2) := fp_dk fp_hdX12_duel_182.1.1.1.1.1
theorem dX12_duel_184 : decode cX12_duel 184 = .ok (.iadd, 1) := fp_dk fp_hdX12_duel_182.1.1.1.1.2
theorem dX12_duel_185 : decode cX12_duel 185 = .ok (.iaload, 1) := fp_dk fp_hdX12_duel_182.1.1.1.2.1
theorem dX12_duel_186 : decode cX12_duel 186 = .ok (.istore 14, 2) := fp_dk fp_hdX12_duel_182.1.1.1.2.2
theorem dX12_duel_188 : decode cX12_duel 188 = .ok (.iload 14, 2) := fp_dk fp_hdX12_duel_182.1.1.2.1.1
theorem dX12_duel_190 : decode cX12_duel 190 = .ok (.sipush (-9999), 3) := fp_dk fp_hdX12_duel_182.1.1.2.1.2
theorem dX12_duel_193 : decode cX12_duel 193 = .ok (.if_icmp .eq 39, 3) := fp_dk fp_hdX12_duel_182.1.1.2.2.1
theorem dX12_duel_196 : decode cX12_duel 196 = .ok (.iload 11, 2) := fp_dk fp_hdX12_duel_182.1.1.2.2.2
theorem dX12_duel_198 : decode cX12_duel 198 = .ok (.sipush (-9999), 3) := fp_dk fp_hdX12_duel_182.1.2.1.1.1
theorem dX12_duel_201 : decode cX12_duel 201 = .ok (.if_icmp .eq 27, 3) := fp_dk fp_hdX12_duel_182.1.2.1.1.2
theorem dX12_duel_204 : decode cX12_duel 204 = .ok (.iload 9, 2) := fp_dk fp_hdX12_duel_182.1.2.1.2.1
theorem dX12_duel_206 : decode cX12_duel 206 = .ok (.iconst 2, 1) := fp_dk fp_hdX12_duel_182.1.2.1.2.2
theorem dX12_duel_207 : decode cX12_duel 207 = .ok (.irem, 1) := fp_dk fp_hdX12_duel_182.1.2.2.1.1
theorem dX12_duel_208 : decode cX12_duel 208 = .ok (.ifCond .ne 13, 3) := fp_dk fp_hdX12_duel_182.1.2.2.1.2
theorem dX12_duel_211 : decode cX12_duel 211 = .ok (.iload 14, 2) := fp_dk fp_hdX12_duel_182.1.2.2.2.1
theorem dX12_duel_213 : decode cX12_duel 213 = .ok (.iload 11, 2) := fp_dk fp_hdX12_duel_182.1.2.2.2.2
theorem dX12_duel_215 : decode cX12_duel 215 = .ok (.if_icmp .le 17, 3) := fp_dk fp_hdX12_duel_182.2.1.1.1.1
theorem dX12_duel_218 : decode cX12_duel 218 = .ok (.goto 10, 3) := fp_dk fp_hdX12_duel_182.2.1.1.1.2
theorem dX12_duel_221 : decode cX12_duel 221 = .ok (.iload 14, 2) := fp_dk fp_hdX12_duel_182.2.1.1.2.1
theorem dX12_duel_223 : decode cX12_duel 223 = .ok (.iload 11, 2) := fp_dk fp_hdX12_duel_182.2.1.1.2.2
theorem dX12_duel_225 : decode cX12_duel 225 = .ok (.if_icmp .ge 7, 3) := fp_dk fp_hdX12_duel_182.2.1.2.1.1
theorem dX12_duel_228 : decode cX12_duel 228 = .ok (.iconst 1, 1) := fp_dk fp_hdX12_duel_182.2.1.2.1.2
theorem dX12_duel_229 : decode cX12_duel 229 = .ok (.goto 4, 3) := fp_dk fp_hdX12_duel_182.2.1.2.2.1
theorem dX12_duel_232 : decode cX12_duel 232 = .ok (.iconst 0, 1) := fp_dk fp_hdX12_duel_182.2.1.2.2.2
theorem dX12_duel_233 : decode cX12_duel 233 = .ok (.istore 15, 2) := fp_dk fp_hdX12_duel_182.2.2.1.1.1
theorem dX12_duel_235 : decode cX12_duel 235 = .ok (.iload 15, 2) := fp_dk fp_hdX12_duel_182.2.2.1.1.2
theorem dX12_duel_237 : decode cX12_duel 237 = .ok (.ifCond .eq 8, 3) := fp_dk fp_hdX12_duel_182.2.2.1.2.1
theorem dX12_duel_240 : decode cX12_duel 240 = .ok (.iload 13, 2) := fp_dk fp_hdX12_duel_182.2.2.1.2.2
theorem dX12_duel_242 : decode cX12_duel 242 = .ok (.goto 5, 3) := fp_dk fp_hdX12_duel_182.2.2.2.1.1
theorem dX12_duel_245 : decode cX12_duel 245 = .ok (.iload 12, 2) := fp_dk fp_hdX12_duel_182.2.2.2.1.2
theorem dX12_duel_247 : decode cX12_duel 247 = .ok (.istore 12, 2) := fp_dk fp_hdX12_duel_182.2.2.2.2.1
theorem dX12_duel_249 : decode cX12_duel 249 = .ok (.iload 15, 2) := fp_dk fp_hdX12_duel_182.2.2.2.2.2
theorem fp_hdX12_duel_251 : (((((fp_dq cX12_duel 251 (.ifCond .eq 8, 3) = true ∧ fp_dq cX12_duel 254 (.iload 14, 2) = true) ∧ (fp_dq cX12_duel 256 (.goto 5, 3) = true ∧ fp_dq cX12_duel 259 (.iload 11, 2) = true)) ∧ ((fp_dq cX12_duel 261 (.istore 11, 2) = true ∧ fp_dq cX12_duel 263 (.iinc 13 1, 3) = true) ∧ (fp_dq cX12_duel 266 (.goto (-98), 3) = true ∧ fp_dq cX12_duel 269 (.aload_n 0, 1) = true))) ∧ (((fp_dq cX12_duel 270 (.getfield 60, 3) = true ∧ fp_dq cX12_duel 273 (.iload 10, 2) = true) ∧ (fp_dq cX12_duel 275 (.iload 11, 2) = true ∧ fp_dq cX12_duel 277 (.iastore, 1) = true)) ∧ ((fp_dq cX12_duel 278 (.iload 12, 2) = true ∧ fp_dq cX12_duel 280 (.istore 8, 2) = true) ∧ (fp_dq cX12_duel 282 (.iinc 10 1, 3) = true ∧ fp_dq cX12_duel 285 (.goto (-135), 3) = true)))) ∧ ((((fp_dq cX12_duel 288 (.iinc 9 (-1), 3) = true ∧ fp_dq cX12_duel 291 (.goto (-155), 3) = true) ∧ (fp_dq cX12_duel 294 (.iload 6, 2) = true ∧ fp_dq cX12_duel 296 (.ifCond .ne 16, 3) = true)) ∧ ((fp_dq cX12_duel 299 (.sipush 1000, 3) = true ∧ fp_dq cX12_duel 302 (.aload_n 0, 1) = true) ∧ (fp_dq cX12_duel 303 (.getfield 60, 3) = true ∧ fp_dq cX12_duel 306 (.iconst 0, 1) = true))) ∧ (((fp_dq cX12_duel 307 (.iaload, 1) = true ∧ fp_dq cX12_duel 308 (.iadd, 1) = true) ∧ (fp_dq cX12_duel 309 (.goto 5, 3) = true ∧ fp_dq cX12_duel 312 (.iload 8, 2) = true)) ∧ ((fp_dq cX12_duel 314 (.ireturn, 1) = true ∧ fp_dq cX12_noted 0 (.aload_n 0, 1) = true) ∧ (fp_dq cX12_noted 1 (.iload_n 1, 1) = true ∧ fp_dq cX12_noted 2 (.invokevirtual 205, 3) = true))))) := by decide +kernel
theorem dX12_duel_251 : decode cX12_duel 251 = .ok (.ifCond .eq 8, 3) := fp_dk fp_hdX12_duel_251.1.1.1.1.1
theorem dX12_duel_254 : decode cX12_duel 254 = .ok (.iload 14, 2) := fp_dk fp_hdX12_duel_251.1.1.1.1.2
theorem dX12_duel_256 : decode cX12_duel 256 = .ok (.goto 5, 3) := fp_dk fp_hdX12_duel_251.1.1.1.2.1
theorem dX12_duel_259 : decode cX12_duel 259 = .ok (.iload 11, 2) := fp_dk fp_hdX12_duel_251.1.1.1.2.2
theorem dX12_duel_261 : decode cX12_duel 261 = .ok (.istore 11, 2) := fp_dk fp_hdX12_duel_251.1.1.2.1.1
theorem dX12_duel_263 : decode cX12_duel 263 = .ok (.iinc 13 1, 3) := fp_dk fp_hdX12_duel_251.1.1.2.1.2
theorem dX12_duel_266 : decode cX12_duel 266 = .ok (.goto (-98), 3) := fp_dk fp_hdX12_duel_251.1.1.2.2.1
theorem dX12_duel_269 : decode cX12_duel 269 = .ok (.aload_n 0, 1) := fp_dk fp_hdX12_duel_251.1.1.2.2.2
theorem dX12_duel_270 : decode cX12_duel 270 = .ok (.getfield 60, 3) := fp_dk fp_hdX12_duel_251.1.2.1.1.1
theorem dX12_duel_273 : decode cX12_duel 273 = .ok (.iload 10, 2) := fp_dk fp_hdX12_duel_251.1.2.1.1.2
theorem dX12_duel_275 : decode cX12_duel 275 = .ok (.iload 11, 2) := fp_dk fp_hdX12_duel_251.1.2.1.2.1
theorem dX12_duel_277 : decode cX12_duel 277 = .ok (.iastore, 1) := fp_dk fp_hdX12_duel_251.1.2.1.2.2
theorem dX12_duel_278 : decode cX12_duel 278 = .ok (.iload 12, 2) := fp_dk fp_hdX12_duel_251.1.2.2.1.1
theorem dX12_duel_280 : decode cX12_duel 280 = .ok (.istore 8, 2) := fp_dk fp_hdX12_duel_251.1.2.2.1.2
theorem dX12_duel_282 : decode cX12_duel 282 = .ok (.iinc 10 1, 3) := fp_dk fp_hdX12_duel_251.1.2.2.2.1
theorem dX12_duel_285 : decode cX12_duel 285 = .ok (.goto (-135), 3) := fp_dk fp_hdX12_duel_251.1.2.2.2.2
theorem dX12_duel_288 : decode cX12_duel 288 = .ok (.iinc 9 (-1), 3) := fp_dk fp_hdX12_duel_251.2.1.1.1.1
theorem dX12_duel_291 : decode cX12_duel 291 = .ok (.goto (-155), 3) := fp_dk fp_hdX12_duel_251.2.1.1.1.2
theorem dX12_duel_294 : decode cX12_duel 294 = .ok (.iload 6, 2) := fp_dk fp_hdX12_duel_251.2.1.1.2.1
theorem dX12_duel_296 : decode cX12_duel 296 = .ok (.ifCond .ne 16, 3) := fp_dk fp_hdX12_duel_251.2.1.1.2.2
theorem dX12_duel_299 : decode cX12_duel 299 = .ok (.sipush 1000, 3) := fp_dk fp_hdX12_duel_251.2.1.2.1.1
theorem dX12_duel_302 : decode cX12_duel 302 = .ok (.aload_n 0, 1) := fp_dk fp_hdX12_duel_251.2.1.2.1.2
theorem dX12_duel_303 : decode cX12_duel 303 = .ok (.getfield 60, 3) := fp_dk fp_hdX12_duel_251.2.1.2.2.1
theorem dX12_duel_306 : decode cX12_duel 306 = .ok (.iconst 0, 1) := fp_dk fp_hdX12_duel_251.2.1.2.2.2
theorem dX12_duel_307 : decode cX12_duel 307 = .ok (.iaload, 1) := fp_dk fp_hdX12_duel_251.2.2.1.1.1
theorem dX12_duel_308 : decode cX12_duel 308 = .ok (.iadd, 1) := fp_dk fp_hdX12_duel_251.2.2.1.1.2
theorem dX12_duel_309 : decode cX12_duel 309 = .ok (.goto 5, 3) := fp_dk fp_hdX12_duel_251.2.2.1.2.1
theorem dX12_duel_312 : decode cX12_duel 312 = .ok (.iload 8, 2) := fp_dk fp_hdX12_duel_251.2.2.1.2.2
theorem dX12_duel_314 : decode cX12_duel 314 = .ok (.ireturn, 1) := fp_dk fp_hdX12_duel_251.2.2.2.1.1
theorem dX12_noted_0 : decode cX12_noted 0 = .ok (.aload_n 0, 1) := fp_dk fp_hdX12_duel_251.2.2.2.1.2
theorem dX12_noted_1 : decode cX12_noted 1 = .ok (.iload_n 1, 1) := fp_dk fp_hdX12_duel_251.2.2.2.2.1
theorem dX12_noted_2 : decode cX12_noted 2 = .ok (.invokevirtual 205, 3) := fp_dk fp_hdX12_duel_251.2.2.2.2.2
theorem fp_hdX12_noted_5 : (((((fp_dq cX12_noted 5 (.ifCond .ne 5, 3) = true ∧ fp_dq cX12_noted 8 (.iconst (-1), 1) = true) ∧ (fp_dq cX12_noted 9 (.ireturn, 1) = true ∧ fp_dq cX12_noted 10 (.iconst 0, 1) = true)) ∧ ((fp_dq cX12_noted 11 (.istore_n 2, 1) = true ∧ fp_dq cX12_noted 12 (.iload_n 2, 1) = true) ∧ (fp_dq cX12_noted 13 (.aload_n 0, 1) = true ∧ fp_dq cX12_noted 14 (.getfield 7, 3) = true))) ∧ (((fp_dq cX12_noted 17 (.bipush 104, 2) = true ∧ fp_dq cX12_noted 19 (.iaload, 1) = true) ∧ (fp_dq cX12_noted 20 (.if_icmp .ge 25, 3) = true ∧ fp_dq cX12_noted 23 (.aload_n 0, 1) = true)) ∧ ((fp_dq cX12_noted 24 (.getfield 7, 3) = true ∧ fp_dq cX12_noted 27 (.bipush 96, 2) = true) ∧ (fp_dq cX12_noted 29 (.iload_n 2, 1) = true ∧ fp_dq cX12_noted 30 (.iadd, 1) = true)))) ∧ ((((fp_dq cX12_noted 31 (.iaload, 1) = true ∧ fp_dq cX12_noted 32 (.iload_n 1, 1) = true) ∧ (fp_dq cX12_noted 33 (.if_icmp .ne 6, 3) = true ∧ fp_dq cX12_noted 36 (.bipush (-2), 2) = true)) ∧ ((fp_dq cX12_noted 38 (.ireturn, 1) = true ∧ fp_dq cX12_noted 39 (.iinc 2 1, 3) = true) ∧ (fp_dq cX12_noted 42 (.goto (-30), 3) = true ∧ fp_dq cX12_noted 45 (.aload_n 0, 1) = true))) ∧ (((fp_dq cX12_noted 46 (.getfield 7, 3) = true ∧ fp_dq cX12_noted 49 (.bipush 104, 2) = true) ∧ (fp_dq cX12_noted 51 (.iaload, 1) = true ∧ fp_dq cX12_noted 52 (.bipush 8, 2) = true)) ∧ ((fp_dq cX12_noted 54 (.if_icmp .ne 6, 3) = true ∧ fp_dq cX12_noted 57 (.bipush (-3), 2) = true) ∧ (fp_dq cX12_noted 59 (.ireturn, 1) = true ∧ fp_dq cX12_noted 60 (.aload_n 0, 1) = true))))) := by decide +kernel
theorem dX12_noted_5 : decode cX12_noted 5 = .ok (.ifCond .ne 5, 3) := fp_dk fp_hdX12_noted_5.1.1.1.1.1
theorem dX12_noted_8 : decode cX12_noted 8 = .ok (.iconst (-1), 1) := fp_dk fp_hdX12_noted_5.1.1.1.1.2
theorem dX12_noted_9 : decode cX12_noted 9 = .ok (.ireturn, 1) := fp_dk fp_hdX12_noted_5.1.1.1.2.1
theorem dX12_noted_10 : decode cX12_noted 10 = .ok (.iconst 0, 1) := fp_dk fp_hdX12_noted_5.1.1.1.2.2
theorem dX12_noted_11 : decode cX12_noted 11 = .ok (.istore_n 2, 1) := fp_dk fp_hdX12_noted_5.1.1.2.1.1
theorem dX12_noted_12 : decode cX12_noted 12 = .ok (.iload_n 2, 1) := fp_dk fp_hdX12_noted_5.1.1.2.1.2
theorem dX12_noted_13 : decode cX12_noted 13 = .ok (.aload_n 0, 1) := fp_dk fp_hdX12_noted_5.1.1.2.2.1
theorem dX12_noted_14 : decode cX12_noted 14 = .ok (.getfield 7, 3) := fp_dk fp_hdX12_noted_5.1.1.2.2.2
theorem dX12_noted_17 : decode cX12_noted 17 = .ok (.bipush 104, 2) := fp_dk fp_hdX12_noted_5.1.2.1.1.1
theorem dX12_noted_19 : decode cX12_noted 19 = .ok (.iaload, 1) := fp_dk fp_hdX12_noted_5.1.2.1.1.2
theorem dX12_noted_20 : decode cX12_noted 20 = .ok (.if_icmp .ge 25, 3) := fp_dk fp_hdX12_noted_5.1.2.1.2.1
theorem dX12_noted_23 : decode cX12_noted 23 = .ok (.aload_n 0, 1) := fp_dk fp_hdX12_noted_5.1.2.1.2.2
theorem dX12_noted_24 : decode cX12_noted 24 = .ok (.getfield 7, 3) := fp_dk fp_hdX12_noted_5.1.2.2.1.1
theorem dX12_noted_27 : decode cX12_noted 27 = .ok (.bipush 96, 2) := fp_dk fp_hdX12_noted_5.1.2.2.1.2
theorem dX12_noted_29 : decode cX12_noted 29 = .ok (.iload_n 2, 1) := fp_dk fp_hdX12_noted_5.1.2.2.2.1
theorem dX12_noted_30 : decode cX12_noted 30 = .ok (.iadd, 1) := fp_dk fp_hdX12_noted_5.1.2.2.2.2
theorem dX12_noted_31 : decode cX12_noted 31 = .ok (.iaload, 1) := fp_dk fp_hdX12_noted_5.2.1.1.1.1
theorem dX12_noted_32 : decode cX12_noted 32 = .ok (.iload_n 1, 1) := fp_dk fp_hdX12_noted_5.2.1.1.1.2
theorem dX12_noted_33 : decode cX12_noted 33 = .ok (.if_icmp .ne 6, 3) := fp_dk fp_hdX12_noted_5.2.1.1.2.1
theorem dX12_noted_36 : decode cX12_noted 36 = .ok (.bipush (-2), 2) := fp_dk fp_hdX12_noted_5.2.1.1.2.2
theorem dX12_noted_38 : decode cX12_noted 38 = .ok (.ireturn, 1) := fp_dk fp_hdX12_noted_5.2.1.2.1.1
theorem dX12_noted_39 : decode cX12_noted 39 = .ok (.iinc 2 1, 3) := fp_dk fp_hdX12_noted_5.2.1.2.1.2
theorem dX12_noted_42 : decode cX12_noted 42 = .ok (.goto (-30), 3) := fp_dk fp_hdX12_noted_5.2.1.2.2.1
theorem dX12_noted_45 : decode cX12_noted 45 = .ok (.aload_n 0, 1) := fp_dk fp_hdX12_noted_5.2.1.2.2.2
theorem dX12_noted_46 : decode cX12_noted 46 = .ok (.getfield 7, 3) := fp_dk fp_hdX12_noted_5.2.2.1.1.1
theorem dX12_noted_49 : decode cX12_noted 49 = .ok (.bipush 104, 2) := fp_dk fp_hdX12_noted_5.2.2.1.1.2
theorem dX12_noted_51 : decode cX12_noted 51 = .ok (.iaload, 1) := fp_dk fp_hdX12_noted_5.2.2.1.2.1
theorem dX12_noted_52 : decode cX12_noted 52 = .ok (.bipush 8, 2) := fp_dk fp_hdX12_noted_5.2.2.1.2.2
theorem dX12_noted_54 : decode cX12_noted 54 = .ok (.if_icmp .ne 6, 3) := fp_dk fp_hdX12_noted_5.2.2.2.1.1
theorem dX12_noted_57 : decode cX12_noted 57 = .ok (.bipush (-3), 2) := fp_dk fp_hdX12_noted_5.2.2.2.1.2
theorem dX12_noted_59 : decode cX12_noted 59 = .ok (.ireturn, 1) := fp_dk fp_hdX12_noted_5.2.2.2.2.1
theorem dX12_noted_60 : decode cX12_noted 60 = .ok (.aload_n 0, 1) := fp_dk fp_hdX12_noted_5.2.2.2.2.2
theorem fp_hdX12_noted_61 : (((((fp_dq cX12_noted 61 (.getfield 7, 3) = true ∧ fp_dq cX12_noted 64 (.bipush 96, 2) = true) ∧ (fp_dq cX12_noted 66 (.aload_n 0, 1) = true ∧ fp_dq cX12_noted 67 (.getfield 7, 3) = true)) ∧ ((fp_dq cX12_noted 70 (.bipush 104, 2) = true ∧ fp_dq cX12_noted 72 (.iaload, 1) = true) ∧ (fp_dq cX12_noted 73 (.iadd, 1) = true ∧ fp_dq cX12_noted 74 (.iload_n 1, 1) = true))) ∧ (((fp_dq cX12_noted 75 (.iastore, 1) = true ∧ fp_dq cX12_noted 76 (.aload_n 0, 1) = true) ∧ (fp_dq cX12_noted 77 (.getfield 7, 3) = true ∧ fp_dq cX12_noted 80 (.bipush 104, 2) = true)) ∧ ((fp_dq cX12_noted 82 (.dup2, 1) = true ∧ fp_dq cX12_noted 83 (.iaload, 1) = true) ∧ (fp_dq cX12_noted 84 (.iconst 1, 1) = true ∧ fp_dq cX12_noted 85 (.iadd, 1) = true)))) ∧ ((((fp_dq cX12_noted 86 (.iastore, 1) = true ∧ fp_dq cX12_noted 87 (.aload_n 0, 1) = true) ∧ (fp_dq cX12_noted 88 (.getfield 7, 3) = true ∧ fp_dq cX12_noted 91 (.bipush 104, 2) = true)) ∧ ((fp_dq cX12_noted 93 (.iaload, 1) = true ∧ fp_dq cX12_noted 94 (.ireturn, 1) = true) ∧ (fp_dq cX12_forget 0 (.aload_n 0, 1) = true ∧ fp_dq cX12_forget 1 (.getfield 7, 3) = true))) ∧ (((fp_dq cX12_forget 4 (.bipush 104, 2) = true ∧ fp_dq cX12_forget 6 (.iaload, 1) = true) ∧ (fp_dq cX12_forget 7 (.istore_n 1, 1) = true ∧ fp_dq cX12_forget 8 (.aload_n 0, 1) = true)) ∧ ((fp_dq cX12_forget 9 (.getfield 7, 3) = true ∧ fp_dq cX12_forget 12 (.bipush 104, 2) = true) ∧ (fp_dq cX12_forget 14 (.iconst 0, 1) = true ∧ fp_dq cX12_forget 15 (.iastore, 1) = true))))) := by decide +kernel
theorem dX12_noted_61 : decode cX12_noted 61 = .ok (.getfield 7, 3) := fp_dk fp_hdX12_noted_61.1.1.1.1.1
theorem dX12_noted_64 : decode cX12_noted 64 = .ok (.bipush 96, 2) := fp_dk fp_hdX12_noted_61.1.1.1.1.2
theorem dX12_noted_66 : decode cX12_noted 66 = .ok (.aload_n 0, 1) := fp_dk fp_hdX12_noted_61.1.1.1.2.1
theorem dX12_noted_67 : decode cX12_noted 67 = .ok (.getfield 7, 3) := fp_dk fp_hdX12_noted_61.1.1.1.2.2
theorem dX12_noted_70 : decode cX12_noted 70 = .ok (.bipush 104, 2) := fp_dk fp_hdX12_noted_61.1.1.2.1.1
theorem dX12_noted_72 : decode cX12_noted 72 = .ok (.iaload, 1) := fp_dk fp_hdX12_noted_61.1.1.2.1.2
theorem dX12_noted_73 : decode cX12_noted 73 = .ok (.iadd, 1) := fp_dk fp_hdX12_noted_61.1.1.2.2.1
theorem dX12_noted_74 : decode cX12_noted 74 = .ok (.iload_n 1, 1) := fp_dk fp_hdX12_noted_61.1.1.2.2.2
theorem dX12_noted_75 : decode cX12_noted 75 = .ok (.iastore, 1) := fp_dk fp_hdX12_noted_61.1.2.1.1.1
theorem dX12_noted_76 : decode cX12_noted 76 = .ok (.aload_n 0, 1) := fp_dk fp_hdX12_noted_61.1.2.1.1.2
theorem dX12_noted_77 : decode cX12_noted 77 = .ok (.getfield 7, 3) := fp_dk fp_hdX12_noted_61.1.2.1.2.1
theorem dX12_noted_80 : decode cX12_noted 80 = .ok (.bipush 104, 2) := fp_dk fp_hdX12_noted_61.1.2.1.2.2
theorem dX12_noted_82 : decode cX12_noted 82 = .ok (.dup2, 1) := fp_dk fp_hdX12_noted_61.1.2.2.1.1
theorem dX12_noted_83 : decode cX12_noted 83 = .ok (.iaload, 1) := fp_dk fp_hdX12_noted_61.1.2.2.1.2
theorem dX12_noted_84 : decode cX12_noted 84 = .ok (.iconst 1, 1) := fp_dk fp_hdX12_noted_61.1.2.2.2.1
theorem dX12_noted_85 : decode cX12_noted 85 = .ok (.iadd, 1) := fp_dk fp_hdX12_noted_61.1.2.2.2.2
theorem dX12_noted_86 : decode cX12_noted 86 = .ok (.iastore, 1) := fp_dk fp_hdX12_noted_61.2.1.1.1.1
theorem dX12_noted_87 : decode cX12_noted 87 = .ok (.aload_n 0, 1) := fp_dk fp_hdX12_noted_61.2.1.1.1.2
theorem dX12_noted_88 : decode cX12_noted 88 = .ok (.getfield 7, 3) := fp_dk fp_hdX12_noted_61.2.1.1.2.1
theorem dX12_noted_91 : decode cX12_noted 91 = .ok (.bipush 104, 2) := fp_dk fp_hdX12_noted_61.2.1.1.2.2
theorem dX12_noted_93 : decode cX12_noted 93 = .ok (.iaload, 1) := fp_dk fp_hdX12_noted_61.2.1.2.1.1
theorem dX12_noted_94 : decode cX12_noted 94 = .ok (.ireturn, 1) := fp_dk fp_hdX12_noted_61.2.1.2.1.2
theorem dX12_forget_0 : decode cX12_forget 0 = .ok (.aload_n 0, 1) := fp_dk fp_hdX12_noted_61.2.1.2.2.1
theorem dX12_forget_1 : decode cX12_forget 1 = .ok (.getfield 7, 3) := fp_dk fp_hdX12_noted_61.2.1.2.2.2
theorem dX12_forget_4 : decode cX12_forget 4 = .ok (.bipush 104, 2) := fp_dk fp_hdX12_noted_61.2.2.1.1.1
theorem dX12_forget_6 : decode cX12_forget 6 = .ok (.iaload, 1) := fp_dk fp_hdX12_noted_61.2.2.1.1.2
theorem dX12_forget_7 : decode cX12_forget 7 = .ok (.istore_n 1, 1) := fp_dk fp_hdX12_noted_61.2.2.1.2.1
theorem dX12_forget_8 : decode cX12_forget 8 = .ok (.aload_n 0, 1) := fp_dk fp_hdX12_noted_61.2.2.1.2.2
theorem dX12_forget_9 : decode cX12_forget 9 = .ok (.getfield 7, 3) := fp_dk fp_hdX12_noted_61.2.2.2.1.1
theorem dX12_forget_12 : decode cX12_forget 12 = .ok (.bipush 104, 2) := fp_dk fp_hdX12_noted_61.2.2.2.1.2
theorem dX12_forget_14 : decode cX12_forget 14 = .ok (.iconst 0, 1) := fp_dk fp_hdX12_noted_61.2.2.2.2.1
theorem dX12_forget_15 : decode cX12_forget 15 = .ok (.iastore, 1) := fp_dk fp_hdX12_noted_61.2.2.2.2.2
theorem fp_hdX12_forget_16 : (((((fp_dq cX12_forget 16 (.iload_n 1, 1) = true ∧ fp_dq cX12_forget 17 (.ireturn, 1) = true) ∧ (fp_dq cX12_fitsRow 0 (.sipush 370, 3) = true ∧ fp_dq cX12_fitsRow 3 (.bipush 9, 2) = true)) ∧ ((fp_dq cX12_fitsRow 5 (.iload_n 1, 1) = true ∧ fp_dq cX12_fitsRow 6 (.imul, 1) = true) ∧ (fp_dq cX12_fitsRow 7 (.iadd, 1) = true ∧ fp_dq cX12_fitsRow 8 (.istore_n 3, 1) = true))) ∧ (((fp_dq cX12_fitsRow 9 (.aload_n 0, 1) = true ∧ fp_dq cX12_fitsRow 10 (.getfield 7, 3) = true) ∧ (fp_dq cX12_fitsRow 13 (.iload_n 3, 1) = true ∧ fp_dq cX12_fitsRow 14 (.iload_n 2, 1) = true)) ∧ ((fp_dq cX12_fitsRow 15 (.iastore, 1) = true ∧ fp_dq cX12_fitsRow 16 (.iconst 0, 1) = true) ∧ (fp_dq cX12_fitsRow 17 (.istore 4, 2) = true ∧ fp_dq cX12_fitsRow 19 (.iload 4, 2) = true)))) ∧ ((((fp_dq cX12_fitsRow 21 (.iload_n 2, 1) = true ∧ fp_dq cX12_fitsRow 22 (.if_icmp .ge 27, 3) = true) ∧ (fp_dq cX12_fitsRow 25 (.aload_n 0, 1) = true ∧ fp_dq cX12_fitsRow 26 (.getfield 7, 3) = true)) ∧ ((fp_dq cX12_fitsRow 29 (.iload_n 3, 1) = true ∧ fp_dq cX12_fitsRow 30 (.iconst 1, 1) = true) ∧ (fp_dq cX12_fitsRow 31 (.iadd, 1) = true ∧ fp_dq cX12_fitsRow 32 (.iload 4, 2) = true))) ∧ (((fp_dq cX12_fitsRow 34 (.iadd, 1) = true ∧ fp_dq cX12_fitsRow 35 (.aload_n 0, 1) = true) ∧ (fp_dq cX12_fitsRow 36 (.getfield 63, 3) = true ∧ fp_dq cX12_fitsRow 39 (.iload 4, 2) = true)) ∧ ((fp_dq cX12_fitsRow 41 (.iaload, 1) = true ∧ fp_dq cX12_fitsRow 42 (.iastore, 1) = true) ∧ (fp_dq cX12_fitsRow 43 (.iinc 4 1, 3) = true ∧ fp_dq cX12_fitsRow 46 (.goto (-27), 3) = true))))) := by decide +kernel
theorem dX12_forget_16 : decode cX12_forget 16 = .ok (.iload_n 1, 1) := fp_dk fp_hdX12_forget_16.1.1.1.1.1
theorem dX12_forget_17 : decode cX12_forget 17 = .ok (.ireturn, 1) := fp_dk fp_hdX12_forget_16.1.1.1.1.2
theorem dX12_fitsRow_0 : decode cX12_fitsRow 0 = .ok (.sipush 370, 3) := fp_dk fp_hdX12_forget_16.1.1.1.2.1
theorem dX12_fitsRow_3 : decode cX12_fitsRow 3 = .ok (.bipush 9, 2) := fp_dk fp_hdX12_forget_16.1.1.1.2.2
theorem dX12_fitsRow_5 : decode cX12_fitsRow 5 = .ok (.iload_n 1, 1) := fp_dk fp_hdX12_forget_16.1.1.2.1.1
theorem dX12_fitsRow_6 : decode cX12_fitsRow 6 = .ok (.imul, 1) := fp_dk fp_hdX12_forget_16.1.1.2.1.2
theorem dX12_fitsRow_7 : decode cX12_fitsRow 7 = .ok (.iadd, 1) := fp_dk fp_hdX12_forget_16.1.1.2.2.1
theorem dX12_fitsRow_8 : decode cX12_fitsRow 8 = .ok (.istore_n 3, 1) := fp_dk fp_hdX12_forget_16.1.1.2.2.2
theorem dX12_fitsRow_9 : decode cX12_fitsRow 9 = .ok (.aload_n 0, 1) := fp_dk fp_hdX12_forget_16.1.2.1.1.1
theorem dX12_fitsRow_10 : decode cX12_fitsRow 10 = .ok (.getfield 7, 3) := fp_dk fp_hdX12_forget_16.1.2.1.1.2
theorem dX12_fitsRow_13 : decode cX12_fitsRow 13 = .ok (.iload_n 3, 1) := fp_dk fp_hdX12_forget_16.1.2.1.2.1
theorem dX12_fitsRow_14 : decode cX12_fitsRow 14 = .ok (.iload_n 2, 1) := fp_dk fp_hdX12_forget_16.1.2.1.2.2
theorem dX12_fitsRow_15 : decode cX12_fitsRow 15 = .ok (.iastore, 1) := fp_dk fp_hdX12_forget_16.1.2.2.1.1
theorem dX12_fitsRow_16 : decode cX12_fitsRow 16 = .ok (.iconst 0, 1) := fp_dk fp_hdX12_forget_16.1.2.2.1.2
theorem dX12_fitsRow_17 : decode cX12_fitsRow 17 = .ok (.istore 4, 2) := fp_dk fp_hdX12_forget_16.1.2.2.2.1
theorem dX12_fitsRow_19 : decode cX12_fitsRow 19 = .ok (.iload 4, 2) := fp_dk fp_hdX12_forget_16.1.2.2.2.2
theorem dX12_fitsRow_21 : decode cX12_fitsRow 21 = .ok (.iload_n 2, 1) := fp_dk fp_hdX12_forget_16.2.1.1.1.1
theorem dX12_fitsRow_22 : decode cX12_fitsRow 22 = .ok (.if_icmp .ge 27, 3) := fp_dk fp_hdX12_forget_16.2.1.1.1.2
theorem dX12_fitsRow_25 : decode cX12_fitsRow 25 = .ok (.aload_n 0, 1) := fp_dk fp_hdX12_forget_16.2.1.1.2.1
theorem dX12_fitsRow_26 : decode cX12_fitsRow 26 = .ok (.getfield 7, 3) := fp_dk fp_hdX12_forget_16.2.1.1.2.2
theorem dX12_fitsRow_29 : decode cX12_fitsRow 29 = .ok (.iload_n 3, 1) := fp_dk fp_hdX12_forget_16.2.1.2.1.1
theorem dX12_fitsRow_30 : decode cX12_fitsRow 30 = .ok (.iconst 1, 1) := fp_dk fp_hdX12_forget_16.2.1.2.1.2
theorem dX12_fitsRow_31 : decode cX12_fitsRow 31 = .ok (.iadd, 1) := fp_dk fp_hdX12_forget_16.2.1.2.2.1
theorem dX12_fitsRow_32 : decode cX12_fitsRow 32 = .ok (.iload 4, 2) := fp_dk fp_hdX12_forget_16.2.1.2.2.2
theorem dX12_fitsRow_34 : decode cX12_fitsRow 34 = .ok (.iadd, 1) := fp_dk fp_hdX12_forget_16.2.2.1.1.1
theorem dX12_fitsRow_35 : decode cX12_fitsRow 35 = .ok (.aload_n 0, 1) := fp_dk fp_hdX12_forget_16.2.2.1.1.2
theorem dX12_fitsRow_36 : decode cX12_fitsRow 36 = .ok (.getfield 63, 3) := fp_dk fp_hdX12_forget_16.2.2.1.2.1
theorem dX12_fitsRow_39 : decode cX12_fitsRow 39 = .ok (.iload 4, 2) := fp_dk fp_hdX12_forget_16.2.2.1.2.2
theorem dX12_fitsRow_41 : decode cX12_fitsRow 41 = .ok (.iaload, 1) := fp_dk fp_hdX12_forget_16.2.2.2.1.1
theorem dX12_fitsRow_42 : decode cX12_fitsRow 42 = .ok (.iastore, 1) := fp_dk fp_hdX12_forget_16.2.2.2.1.2
theorem dX12_fitsRow_43 : decode cX12_fitsRow 43 = .ok (.iinc 4 1, 3) := fp_dk fp_hdX12_forget_16.2.2.2.2.1
theorem dX12_fitsRow_46 : decode cX12_fitsRow 46 = .ok (.goto (-27), 3) := fp_dk fp_hdX12_forget_16.2.2.2.2.2
theorem fp_hdX12_fitsRow_49 : (((((fp_dq cX12_fitsRow 49 (.iconst 0, 1) = true ∧ fp_dq cX12_fitsRow 50 (.istore 4, 2) = true) ∧ (fp_dq cX12_fitsRow 52 (.iload 4, 2) = true ∧ fp_dq cX12_fitsRow 54 (.aload_n 0, 1) = true)) ∧ ((fp_dq cX12_fitsRow 55 (.getfield 7, 3) = true ∧ fp_dq cX12_fitsRow 58 (.bipush 104, 2) = true) ∧ (fp_dq cX12_fitsRow 60 (.iaload, 1) = true ∧ fp_dq cX12_fitsRow 61 (.if_icmp .ge 51, 3) = true))) ∧ (((fp_dq cX12_fitsRow 64 (.aload_n 0, 1) = true ∧ fp_dq cX12_fitsRow 65 (.sipush 360, 3) = true) ∧ (fp_dq cX12_fitsRow 68 (.iload_n 1, 1) = true ∧ fp_dq cX12_fitsRow 69 (.invokevirtual 216, 3) = true)) ∧ ((fp_dq cX12_fitsRow 72 (.istore 5, 2) = true ∧ fp_dq cX12_fitsRow 74 (.iload 5, 2) = true) ∧ (fp_dq cX12_fitsRow 76 (.bipush (-4), 2) = true ∧ fp_dq cX12_fitsRow 78 (.if_icmp .eq 26, 3) = true)))) ∧ ((((fp_dq cX12_fitsRow 81 (.aload_n 0, 1) = true ∧ fp_dq cX12_fitsRow 82 (.sipush 360, 3) = true) ∧ (fp_dq cX12_fitsRow 85 (.iload_n 1, 1) = true ∧ fp_dq cX12_fitsRow 86 (.iload 5, 2) = true)) ∧ ((fp_dq cX12_fitsRow 88 (.invokevirtual 241, 3) = true ∧ fp_dq cX12_fitsRow 91 (.aload_n 0, 1) = true) ∧ (fp_dq cX12_fitsRow 92 (.getfield 7, 3) = true ∧ fp_dq cX12_fitsRow 95 (.bipush 96, 2) = true))) ∧ (((fp_dq cX12_fitsRow 97 (.iload 4, 2) = true ∧ fp_dq cX12_fitsRow 99 (.iadd, 1) = true) ∧ (fp_dq cX12_fitsRow 100 (.iaload, 1) = true ∧ fp_dq cX12_fitsRow 101 (.if_icmp .eq 5, 3) = true)) ∧ ((fp_dq cX12_fitsRow 104 (.iconst 0, 1) = true ∧ fp_dq cX12_fitsRow 105 (.ireturn, 1) = true) ∧ (fp_dq cX12_fitsRow 106 (.iinc 4 1, 3) = true ∧ fp_dq cX12_fitsRow 109 (.goto (-57), 3) = true))))) := by decide +kernel
theorem dX12_fitsRow_49 : decode cX12_fitsRow 49 = .ok (.iconst 0, 1) := fp_dk fp_hdX12_fitsRow_49.1.1.1.1.1
theorem dX12_fitsRow_50 : decode cX12_fitsRow 50 = .ok (.istore 4, 2) := fp_dk fp_hdX12_fitsRow_49.1.1.1.1.2
theorem dX12_fitsRow_52 : decode cX12_fitsRow 52 = .ok (.iload 4, 2) := fp_dk fp_hdX12_fitsRow_49.1.1.1.2.1
theorem dX12_fitsRow_54 : decode cX12_fitsRow 54 = .ok (.aload_n 0, 1) := fp_dk fp_hdX12_fitsRow_49.1.1.1.2.2
theorem dX12_fitsRow_55 : decode cX12_fitsRow 55 = .ok (.getfield 7, 3) := fp_dk fp_hdX12_fitsRow_49.1.1.2.1.1
theorem dX12_fitsRow_58 : decode cX12_fitsRow 58 = .ok (.bipush 104, 2) := fp_dk fp_hdX12_fitsRow_49.1.1.2.1.2
theorem dX12_fitsRow_60 : decode cX12_fitsRow 60 = .ok (.iaload, 1) := fp_dk fp_hdX12_fitsRow_49.1.1.2.2.1
theorem dX12_fitsRow_61 : decode cX12_fitsRow 61 = .ok (.if_icmp .ge 51, 3) := fp_dk fp_hdX12_fitsRow_49.1.1.2.2.2
theorem dX12_fitsRow_64 : decode cX12_fitsRow 64 = .ok (.aload_n 0, 1) := fp_dk fp_hdX12_fitsRow_49.1.2.1.1.1
theorem dX12_fitsRow_65 : decode cX12_fitsRow 65 = .ok (.sipush 360, 3) := fp_dk fp_hdX12_fitsRow_49.1.2.1.1.2
theorem dX12_fitsRow_68 : decode cX12_fitsRow 68 = .ok (.iload_n 1, 1) := fp_dk fp_hdX12_fitsRow_49.1.2.1.2.1
theorem dX12_fitsRow_69 : decode cX12_fitsRow 69 = .ok (.invokevirtual 216, 3) := fp_dk fp_hdX12_fitsRow_49.1.2.1.2.2
theorem dX12_fitsRow_72 : decode cX12_fitsRow 72 = .ok (.istore 5, 2) := fp_dk fp_hdX12_fitsRow_49.1.2.2.1.1
theorem dX12_fitsRow_74 : decode cX12_fitsRow 74 = .ok (.iload 5, 2) := fp_dk fp_hdX12_fitsRow_49.1.2.2.1.2
theorem dX12_fitsRow_76 : decode cX12_fitsRow 76 = .ok (.bipush (-4), 2) := fp_dk fp_hdX12_fitsRow_49.1.2.2.2.1
theorem dX12_fitsRow_78 : decode cX12_fitsRow 78 = .ok (.if_icmp .eq 26, 3) := fp_dk fp_hdX12_fitsRow_49.1.2.2.2.2
theorem dX12_fitsRow_81 : decode cX12_fitsRow 81 = .ok (.aload_n 0, 1) := fp_dk fp_hdX12_fitsRow_49.2.1.1.1.1
theorem dX12_fitsRow_82 : decode cX12_fitsRow 82 = .ok (.sipush 360, 3) := fp_dk fp_hdX12_fitsRow_49.2.1.1.1.2
theorem dX12_fitsRow_85 : decode cX12_fitsRow 85 = .ok (.iload_n 1, 1) := fp_dk fp_hdX12_fitsRow_49.2.1.1.2.1
theorem dX12_fitsRow_86 : decode cX12_fitsRow 86 = .ok (.iload 5, 2) := fp_dk fp_hdX12_fitsRow_49.2.1.1.2.2
theorem dX12_fitsRow_88 : decode cX12_fitsRow 88 = .ok (.invokevirtual 241, 3) := fp_dk fp_hdX12_fitsRow_49.2.1.2.1.1
theorem dX12_fitsRow_91 : decode cX12_fitsRow 91 = .ok (.aload_n 0, 1) := fp_dk fp_hdX12_fitsRow_49.2.1.2.1.2
theorem dX12_fitsRow_92 : decode cX12_fitsRow 92 = .ok (.getfield 7, 3) := fp_dk fp_hdX12_fitsRow_49.2.1.2.2.1
theorem dX12_fitsRow_95 : decode cX12_fitsRow 95 = .ok (.bipush 96, 2) := fp_dk fp_hdX12_fitsRow_49.2.1.2.2.2
theorem dX12_fitsRow_97 : decode cX12_fitsRow 97 = .ok (.iload 4, 2) := fp_dk fp_hdX12_fitsRow_49.2.2.1.1.1
theorem dX12_fitsRow_99 : decode cX12_fitsRow 99 = .ok (.iadd, 1) := fp_dk fp_hdX12_fitsRow_49.2.2.1.1.2
theorem dX12_fitsRow_100 : decode cX12_fitsRow 100 = .ok (.iaload, 1) := fp_dk fp_hdX12_fitsRow_49.2.2.1.2.1
theorem dX12_fitsRow_101 : decode cX12_fitsRow 101 = .ok (.if_icmp .eq 5, 3) := fp_dk fp_hdX12_fitsRow_49.2.2.1.2.2
theorem dX12_fitsRow_104 : decode cX12_fitsRow 104 = .ok (.iconst 0, 1) := fp_dk fp_hdX12_fitsRow_49.2.2.2.1.1
theorem dX12_fitsRow_105 : decode cX12_fitsRow 105 = .ok (.ireturn, 1) := fp_dk fp_hdX12_fitsRow_49.2.2.2.1.2
theorem dX12_fitsRow_106 : decode cX12_fitsRow 106 = .ok (.iinc 4 1, 3) := fp_dk fp_hdX12_fitsRow_49.2.2.2.2.1
theorem dX12_fitsRow_109 : decode cX12_fitsRow 109 = .ok (.goto (-57), 3) := fp_dk fp_hdX12_fitsRow_49.2.2.2.2.2
theorem fp_hdX12_fitsRow_112 : (((((fp_dq cX12_fitsRow 112 (.iconst 1, 1) = true ∧ fp_dq cX12_fitsRow 113 (.ireturn, 1) = true) ∧ (fp_dq cX12_nextRow 0 (.iload_n 1, 1) = true ∧ fp_dq cX12_nextRow 1 (.iconst 2, 1) = true)) ∧ ((fp_dq cX12_nextRow 2 (.isub, 1) = true ∧ fp_dq cX12_nextRow 3 (.istore_n 2, 1) = true) ∧ (fp_dq cX12_nextRow 4 (.iload_n 2, 1) = true ∧ fp_dq cX12_nextRow 5 (.ifCond .lt 26, 3) = true))) ∧ (((fp_dq cX12_nextRow 8 (.aload_n 0, 1) = true ∧ fp_dq cX12_nextRow 9 (.getfield 63, 3) = true) ∧ (fp_dq cX12_nextRow 12 (.iload_n 2, 1) = true ∧ fp_dq cX12_nextRow 13 (.iaload, 1) = true)) ∧ ((fp_dq cX12_nextRow 14 (.aload_n 0, 1) = true ∧ fp_dq cX12_nextRow 15 (.getfield 63, 3) = true) ∧ (fp_dq cX12_nextRow 18 (.iload_n 2, 1) = true ∧ fp_dq cX12_nextRow 19 (.iconst 1, 1) = true)))) ∧ ((((fp_dq cX12_nextRow 20 (.iadd, 1) = true ∧ fp_dq cX12_nextRow 21 (.iaload, 1) = true) ∧ (fp_dq cX12_nextRow 22 (.if_icmp .le 9, 3) = true ∧ fp_dq cX12_nextRow 25 (.iinc 2 (-1), 3) = true)) ∧ ((fp_dq cX12_nextRow 28 (.goto (-24), 3) = true ∧ fp_dq cX12_nextRow 31 (.iload_n 2, 1) = true) ∧ (fp_dq cX12_nextRow 32 (.ifCond .ge 5, 3) = true ∧ fp_dq cX12_nextRow 35 (.iconst 0, 1) = true))) ∧ (((fp_dq cX12_nextRow 36 (.ireturn, 1) = true ∧ fp_dq cX12_nextRow 37 (.iload_n 1, 1) = true) ∧ (fp_dq cX12_nextRow 38 (.iconst 1, 1) = true ∧ fp_dq cX12_nextRow 39 (.isub, 1) = true)) ∧ ((fp_dq cX12_nextRow 40 (.istore_n 3, 1) = true ∧ fp_dq cX12_nextRow 41 (.aload_n 0, 1) = true) ∧ (fp_dq cX12_nextRow 42 (.getfield 63, 3) = true ∧ fp_dq cX12_nextRow 45 (.iload_n 3, 1) = true))))) := by decide +kernel
theorem dX12_fitsRow_112 : decode cX12_fitsRow 112 = .ok (.iconst 1, 1) := fp_dk fp_hdX12_fitsRow_112.1.1.1.1.1
theorem dX12_fitsRow_113 : decode cX12_fitsRow 113 = .ok (.ireturn, 1) := fp_dk fp_hdX12_fitsRow_112.1.1.1.1.2
theorem dX12_nextRow_0 : decode cX12_nextRow 0 = .ok (.iload_n 1, 1) := fp_dk fp_hdX12_fitsRow_112.1.1.1.2.1
theorem dX12_nextRow_1 : decode cX12_nextRow 1 = .ok (.iconst 2, 1) := fp_dk fp_hdX12_fitsRow_112.1.1.1.2.2
theorem dX12_nextRow_2 : decode cX12_nextRow 2 = .ok (.isub, 1) := fp_dk fp_hdX12_fitsRow_112.1.1.2.1.1
theorem dX12_nextRow_3 : decode cX12_nextRow 3 = .ok (.istore_n 2, 1) := fp_dk fp_hdX12_fitsRow_112.1.1.2.1.2
theorem dX12_nextRow_4 : decode cX12_nextRow 4 = .ok (.iload_n 2, 1) := fp_dk fp_hdX12_fitsRow_112.1.1.2.2.1
theorem dX12_nextRow_5 : decode cX12_nextRow 5 = .ok (.ifCond .lt 26, 3) := fp_dk fp_hdX12_fitsRow_112.1.1.2.2.2
theorem dX12_nextRow_8 : decode cX12_nextRow 8 = .ok (.aload_n 0, 1) := fp_dk fp_hdX12_fitsRow_112.1.2.1.1.1
theorem dX12_nextRow_9 : decode cX12_nextRow 9 = .ok (.getfield 63, 3) := fp_dk fp_hdX12_fitsRow_112.1.2.1.1.2
theorem dX12_nextRow_12 : decode cX12_nextRow 12 = .ok (.iload_n 2, 1) := fp_dk fp_hdX12_fitsRow_112.1.2.1.2.1
theorem dX12_nextRow_13 : decode cX12_nextRow 13 = .ok (.iaload, 1) := fp_dk fp_hdX12_fitsRow_112.1.2.1.2.2
theorem dX12_nextRow_14 : decode cX12_nextRow 14 = .ok (.aload_n 0, 1) := fp_dk fp_hdX12_fitsRow_112.1.2.2.1.1
theorem dX12_nextRow_15 : decode cX12_nextRow 15 = .ok (.getfield 63, 3) := fp_dk fp_hdX12_fitsRow_112.1.2.2.1.2
theorem dX12_nextRow_18 : decode cX12_nextRow 18 = .ok (.iload_n 2, 1) := fp_dk fp_hdX12_fitsRow_112.1.2.2.2.1
theorem dX12_nextRow_19 : decode cX12_nextRow 19 = .ok (.iconst 1, 1) := fp_dk fp_hdX12_fitsRow_112.1.2.2.2.2
theorem dX12_nextRow_20 : decode cX12_nextRow 20 = .ok (.iadd, 1) := fp_dk fp_hdX12_fitsRow_112.2.1.1.1.1
theorem dX12_nextRow_21 : decode cX12_nextRow 21 = .ok (.iaload, 1) := fp_dk fp_hdX12_fitsRow_112.2.1.1.1.2
theorem dX12_nextRow_22 : decode cX12_nextRow 22 = .ok (.if_icmp .le 9, 3) := fp_dk fp_hdX12_fitsRow_112.2.1.1.2.1
theorem dX12_nextRow_25 : decode cX12_nextRow 25 = .ok (.iinc 2 (-1), 3) := fp_dk fp_hdX12_fitsRow_112.2.1.1.2.2
theorem dX12_nextRow_28 : decode cX12_nextRow 28 = .ok (.goto (-24), 3) := fp_dk fp_hdX12_fitsRow_112.2.1.2.1.1
theorem dX12_nextRow_31 : decode cX12_nextRow 31 = .ok (.iload_n 2, 1) := fp_dk fp_hdX12_fitsRow_112.2.1.2.1.2
theorem dX12_nextRow_32 : decode cX12_nextRow 32 = .ok (.ifCond .ge 5, 3) := fp_dk fp_hdX12_fitsRow_112.2.1.2.2.1
theorem dX12_nextRow_35 : decode cX12_nextRow 35 = .ok (.iconst 0, 1) := fp_dk fp_hdX12_fitsRow_112.2.1.2.2.2
theorem dX12_nextRow_36 : decode cX12_nextRow 36 = .ok (.ireturn, 1) := fp_dk fp_hdX12_fitsRow_112.2.2.1.1.1
theorem dX12_nextRow_37 : decode cX12_nextRow 37 = .ok (.iload_n 1, 1) := fp_dk fp_hdX12_fitsRow_112.2.2.1.1.2
theorem dX12_nextRow_38 : decode cX12_nextRow 38 = .ok (.iconst 1, 1) := fp_dk fp_hdX12_fitsRow_112.2.2.1.2.1
theorem dX12_nextRow_39 : decode cX12_nextRow 39 = .ok (.isub, 1) := fp_dk fp_hdX12_fitsRow_112.2.2.1.2.2
theorem dX12_nextRow_40 : decode cX12_nextRow 40 = .ok (.istore_n 3, 1) := fp_dk fp_hdX12_fitsRow_112.2.2.2.1.1
theorem dX12_nextRow_41 : decode cX12_nextRow 41 = .ok (.aload_n 0, 1) := fp_dk fp_hdX12_fitsRow_112.2.2.2.1.2
theorem dX12_nextRow_42 : decode cX12_nextRow 42 = .ok (.getfield 63, 3) := fp_dk fp_hdX12_fitsRow_112.2.2.2.2.1
theorem dX12_nextRow_45 : decode cX12_nextRow 45 = .ok (.iload_n 3, 1) := fp_dk fp_hdX12_fitsRow_112.2.2.2.2.2
theorem fp_hdX12_nextRow_46 : (((((fp_dq cX12_nextRow 46 (.iaload, 1) = true ∧ fp_dq cX12_nextRow 47 (.aload_n 0, 1) = true) ∧ (fp_dq cX12_nextRow 48 (.getfield 63, 3) = true ∧ fp_dq cX12_nextRow 51 (.iload_n 2, 1) = true)) ∧ ((fp_dq cX12_nextRow 52 (.iaload, 1) = true ∧ fp_dq cX12_nextRow 53 (.if_icmp .ge 9, 3) = true) ∧ (fp_dq cX12_nextRow 56 (.iinc 3 (-1), 3) = true ∧ fp_dq cX12_nextRow 59 (.goto (-18), 3) = true))) ∧ (((fp_dq cX12_nextRow 62 (.aload_n 0, 1) = true ∧ fp_dq cX12_nextRow 63 (.getfield 63, 3) = true) ∧ (fp_dq cX12_nextRow 66 (.iload_n 2, 1) = true ∧ fp_dq cX12_nextRow 67 (.iaload, 1) = true)) ∧ ((fp_dq cX12_nextRow 68 (.istore 4, 2) = true ∧ fp_dq cX12_nextRow 70 (.aload_n 0, 1) = true) ∧ (fp_dq cX12_nextRow 71 (.getfield 63, 3) = true ∧ fp_dq cX12_nextRow 74 (.iload_n 2, 1) = true)))) ∧ ((((fp_dq cX12_nextRow 75 (.aload_n 0, 1) = true ∧ fp_dq cX12_nextRow 76 (.getfield 63, 3) = true) ∧ (fp_dq cX12_nextRow 79 (.iload_n 3, 1) = true ∧ fp_dq cX12_nextRow 80 (.iaload, 1) = true)) ∧ ((fp_dq cX12_nextRow 81 (.iastore, 1) = true ∧ fp_dq cX12_nextRow 82 (.aload_n 0, 1) = true) ∧ (fp_dq cX12_nextRow 83 (.getfield 63, 3) = true ∧ fp_dq cX12_nextRow 86 (.iload_n 3, 1) = true))) ∧ (((fp_dq cX12_nextRow 87 (.iload 4, 2) = true ∧ fp_dq cX12_nextRow 89 (.iastore, 1) = true) ∧ (fp_dq cX12_nextRow 90 (.iload_n 2, 1) = true ∧ fp_dq cX12_nextRow 91 (.iconst 1, 1) = true)) ∧ ((fp_dq cX12_nextRow 92 (.iadd, 1) = true ∧ fp_dq cX12_nextRow 93 (.istore 5, 2) = true) ∧ (fp_dq cX12_nextRow 95 (.iload_n 1, 1) = true ∧ fp_dq cX12_nextRow 96 (.iconst 1, 1) = true))))) := by decide +kernel
theorem dX12_nextRow_46 : decode cX12_nextRow 46 = .ok (.iaload, 1) := fp_dk fp_hdX12_nextRow_46.1.1.1.1.1
theorem dX12_nextRow_47 : decode cX12_nextRow 47 = .ok (.aload_n 0, 1) := fp_dk fp_hdX12_nextRow_46.1.1.1.1.2
theorem dX12_nextRow_48 : decode cX12_nextRow 48 = .ok (.getfield 63, 3) := fp_dk fp_hdX12_nextRow_46.1.1.1.2.1
theorem dX12_nextRow_51 : decode cX12_nextRow 51 = .ok (.iload_n 2, 1) := fp_dk fp_hdX12_nextRow_46.1.1.1.2.2
theorem dX12_nextRow_52 : decode cX12_nextRow 52 = .ok (.iaload, 1) := fp_dk fp_hdX12_nextRow_46.1.1.2.1.1
theorem dX12_nextRow_53 : decode cX12_nextRow 53 = .ok (.if_icmp .ge 9, 3) := fp_dk fp_hdX12_nextRow_46.1.1.2.1.2
theorem dX12_nextRow_56 : decode cX12_nextRow 56 = .ok (.iinc 3 (-1), 3) := fp_dk fp_hdX12_nextRow_46.1.1.2.2.1
theorem dX12_nextRow_59 : decode cX12_nextRow 59 = .ok (.goto (-18), 3) := fp_dk fp_hdX12_nextRow_46.1.1.2.2.2
theorem dX12_nextRow_62 : decode cX12_nextRow 62 = .ok (.aload_n 0, 1) := fp_dk fp_hdX12_nextRow_46.1.2.1.1.1
theorem dX12_nextRow_63 : decode cX12_nextRow 63 = .ok (.getfield 63, 3) := fp_dk fp_hdX12_nextRow_46.1.2.1.1.2
theorem dX12_nextRow_66 : decode cX12_nextRow 66 = .ok (.iload_n 2, 1) := fp_dk fp_hdX12_nextRow_46.1.2.1.2.1
theorem dX12_nextRow_67 : decode cX12_nextRow 67 = .ok (.iaload, 1) := fp_dk fp_hdX12_nextRow_46.1.2.1.2.2
theorem dX12_nextRow_68 : decode cX12_nextRow 68 = .ok (.istore 4, 2) := fp_dk fp_hdX12_nextRow_46.1.2.2.1.1
theorem dX12_nextRow_70 : decode cX12_nextRow 70 = .ok (.aload_n 0, 1) := fp_dk fp_hdX12_nextRow_46.1.2.2.1.2
theorem dX12_nextRow_71 : decode cX12_nextRow 71 = .ok (.getfield 63, 3) := fp_dk fp_hdX12_nextRow_46.1.2.2.2.1
theorem dX12_nextRow_74 : decode cX12_nextRow 74 = .ok (.iload_n 2, 1) := fp_dk fp_hdX12_nextRow_46.1.2.2.2.2
theorem dX12_nextRow_75 : decode cX12_nextRow 75 = .ok (.aload_n 0, 1) := fp_dk fp_hdX12_nextRow_46.2.1.1.1.1
theorem dX12_nextRow_76 : decode cX12_nextRow 76 = .ok (.getfield 63, 3) := fp_dk fp_hdX12_nextRow_46.2.1.1.1.2
theorem dX12_nextRow_79 : decode cX12_nextRow 79 = .ok (.iload_n 3, 1) := fp_dk fp_hdX12_nextRow_46.2.1.1.2.1
theorem dX12_nextRow_80 : decode cX12_nextRow 80 = .ok (.iaload, 1) := fp_dk fp_hdX12_nextRow_46.2.1.1.2.2
theorem dX12_nextRow_81 : decode cX12_nextRow 81 = .ok (.iastore, 1) := fp_dk fp_hdX12_nextRow_46.2.1.2.1.1
theorem dX12_nextRow_82 : decode cX12_nextRow 82 = .ok (.aload_n 0, 1) := fp_dk fp_hdX12_nextRow_46.2.1.2.1.2
theorem dX12_nextRow_83 : decode cX12_nextRow 83 = .ok (.getfield 63, 3) := fp_dk fp_hdX12_nextRow_46.2.1.2.2.1
theorem dX12_nextRow_86 : decode cX12_nextRow 86 = .ok (.iload_n 3, 1) := fp_dk fp_hdX12_nextRow_46.2.1.2.2.2
theorem dX12_nextRow_87 : decode cX12_nextRow 87 = .ok (.iload 4, 2) := fp_dk fp_hdX12_nextRow_46.2.2.1.1.1
theorem dX12_nextRow_89 : decode cX12_nextRow 89 = .ok (.iastore, 1) := fp_dk fp_hdX12_nextRow_46.2.2.1.1.2
theorem dX12_nextRow_90 : decode cX12_nextRow 90 = .ok (.iload_n 2, 1) := fp_dk fp_hdX12_nextRow_46.2.2.1.2.1
theorem dX12_nextRow_91 : decode cX12_nextRow 91 = .ok (.iconst 1, 1) := fp_dk fp_hdX12_nextRow_46.2.2.1.2.2
theorem dX12_nextRow_92 : decode cX12_nextRow 92 = .ok (.iadd, 1) := fp_dk fp_hdX12_nextRow_46.2.2.2.1.1
theorem dX12_nextRow_93 : decode cX12_nextRow 93 = .ok (.istore 5, 2) := fp_dk fp_hdX12_nextRow_46.2.2.2.1.2
theorem dX12_nextRow_95 : decode cX12_nextRow 95 = .ok (.iload_n 1, 1) := fp_dk fp_hdX12_nextRow_46.2.2.2.2.1
theorem dX12_nextRow_96 : decode cX12_nextRow 96 = .ok (.iconst 1, 1) := fp_dk fp_hdX12_nextRow_46.2.2.2.2.2
theorem fp_hdX12_nextRow_97 : (((((fp_dq cX12_nextRow 97 (.isub, 1) = true ∧ fp_dq cX12_nextRow 98 (.istore 6, 2) = true) ∧ (fp_dq cX12_nextRow 100 (.iload 5, 2) = true ∧ fp_dq cX12_nextRow 102 (.iload 6, 2) = true)) ∧ ((fp_dq cX12_nextRow 104 (.if_icmp .ge 44, 3) = true ∧ fp_dq cX12_nextRow 107 (.aload_n 0, 1) = true) ∧ (fp_dq cX12_nextRow 108 (.getfield 63, 3) = true ∧ fp_dq cX12_nextRow 111 (.iload 5, 2) = true))) ∧ (((fp_dq cX12_nextRow 113 (.iaload, 1) = true ∧ fp_dq cX12_nextRow 114 (.istore 4, 2) = true) ∧ (fp_dq cX12_nextRow 116 (.aload_n 0, 1) = true ∧ fp_dq cX12_nextRow 117 (.getfield 63, 3) = true)) ∧ ((fp_dq cX12_nextRow 120 (.iload 5, 2) = true ∧ fp_dq cX12_nextRow 122 (.aload_n 0, 1) = true) ∧ (fp_dq cX12_nextRow 123 (.getfield 63, 3) = true ∧ fp_dq cX12_nextRow 126 (.iload 6, 2) = true)))) ∧ ((((fp_dq cX12_nextRow 128 (.iaload, 1) = true ∧ fp_dq cX12_nextRow 129 (.iastore, 1) = true) ∧ (fp_dq cX12_nextRow 130 (.aload_n 0, 1) = true ∧ fp_dq cX12_nextRow 131 (.getfield 63, 3) = true)) ∧ ((fp_dq cX12_nextRow 134 (.iload 6, 2) = true ∧ fp_dq cX12_nextRow 136 (.iload 4, 2) = true) ∧ (fp_dq cX12_nextRow 138 (.iastore, 1) = true ∧ fp_dq cX12_nextRow 139 (.iinc 5 1, 3) = true))) ∧ (((fp_dq cX12_nextRow 142 (.iinc 6 (-1), 3) = true ∧ fp_dq cX12_nextRow 145 (.goto (-45), 3) = true) ∧ (fp_dq cX12_nextRow 148 (.iconst 1, 1) = true ∧ fp_dq cX12_nextRow 149 (.ireturn, 1) = true)) ∧ ((fp_dq cX12_orders 0 (.aload_n 0, 1) = true ∧ fp_dq cX12_orders 1 (.iload_n 1, 1) = true) ∧ (fp_dq cX12_orders 2 (.invokevirtual 219, 3) = true ∧ fp_dq cX12_orders 5 (.ifCond .eq 21, 3) = true))))) := by decide +kernel
theorem dX12_nextRow_97 : decode cX12_nextRow 97 = .ok (.isub, 1) := fp_dk fp_hdX12_nextRow_97.1.1.1.1.1
theorem dX12_nextRow_98 : decode cX12_nextRow 98 = .ok (.istore 6, 2) := fp_dk fp_hdX12_nextRow_97.1.1.1.1.2
theorem dX12_nextRow_100 : decode cX12_nextRow 100 = .ok (.iload 5, 2) := fp_dk fp_hdX12_nextRow_97.1.1.1.2.1
theorem dX12_nextRow_102 : decode cX12_nextRow 102 = .ok (.iload 6, 2) := fp_dk fp_hdX12_nextRow_97.1.1.1.2.2
theorem dX12_nextRow_104 : decode cX12_nextRow 104 = .ok (.if_icmp .ge 44, 3) := fp_dk fp_hdX12_nextRow_97.1.1.2.1.1
theorem dX12_nextRow_107 : decode cX12_nextRow 107 = .ok (.aload_n 0, 1) := fp_dk fp_hdX12_nextRow_97.1.1.2.1.2
theorem dX12_nextRow_108 : decode cX12_nextRow 108 = .ok (.getfield 63, 3) := fp_dk fp_hdX12_nextRow_97.1.1.2.2.1
theorem dX12_nextRow_111 : decode cX12_nextRow 111 = .ok (.iload 5, 2) := fp_dk fp_hdX12_nextRow_97.1.1.2.2.2
theorem dX12_nextRow_113 : decode cX12_nextRow 113 = .ok (.iaload, 1) := fp_dk fp_hdX12_nextRow_97.1.2.1.1.1
theorem dX12_nextRow_114 : decode cX12_nextRow 114 = .ok (.istore 4, 2) := fp_dk fp_hdX12_nextRow_97.1.2.1.1.2
theorem dX12_nextRow_116 : decode cX12_nextRow 116 = .ok (.aload_n 0, 1) := fp_dk fp_hdX12_nextRow_97.1.2.1.2.1
theorem dX12_nextRow_117 : decode cX12_nextRow 117 = .ok (.getfield 63, 3) := fp_dk fp_hdX12_nextRow_97.1.2.1.2.2
theorem dX12_nextRow_120 : decode cX12_nextRow 120 = .ok (.iload 5, 2) := fp_dk fp_hdX12_nextRow_97.1.2.2.1.1
theorem dX12_nextRow_122 : decode cX12_nextRow 122 = .ok (.aload_n 0, 1) := fp_dk fp_hdX12_nextRow_97.1.2.2.1.2
theorem dX12_nextRow_123 : decode cX12_nextRow 123 = .ok (.getfield 63, 3) := fp_dk fp_hdX12_nextRow_97.1.2.2.2.1
theorem dX12_nextRow_126 : decode cX12_nextRow 126 = .ok (.iload 6, 2) := fp_dk fp_hdX12_nextRow_97.1.2.2.2.2
theorem dX12_nextRow_128 : decode cX12_nextRow 128 = .ok (.iaload, 1) := fp_dk fp_hdX12_nextRow_97.2.1.1.1.1
theorem dX12_nextRow_129 : decode cX12_nextRow 129 = .ok (.iastore, 1) := fp_dk fp_hdX12_nextRow_97.2.1.1.1.2
theorem dX12_nextRow_130 : decode cX12_nextRow 130 = .ok (.aload_n 0, 1) := fp_dk fp_hdX12_nextRow_97.2.1.1.2.1
theorem dX12_nextRow_131 : decode cX12_nextRow 131 = .ok (.getfield 63, 3) := fp_dk fp_hdX12_nextRow_97.2.1.1.2.2
theorem dX12_nextRow_134 : decode cX12_nextRow 134 = .ok (.iload 6, 2) := fp_dk fp_hdX12_nextRow_97.2.1.2.1.1
theorem dX12_nextRow_136 : decode cX12_nextRow 136 = .ok (.iload 4, 2) := fp_dk fp_hdX12_nextRow_97.2.1.2.1.2
theorem dX12_nextRow_138 : decode cX12_nextRow 138 = .ok (.iastore, 1) := fp_dk fp_hdX12_nextRow_97.2.1.2.2.1
theorem dX12_nextRow_139 : decode cX12_nextRow 139 = .ok (.iinc 5 1, 3) := fp_dk fp_hdX12_nextRow_97.2.1.2.2.2
theorem dX12_nextRow_142 : decode cX12_nextRow 142 = .ok (.iinc 6 (-1), 3) := fp_dk fp_hdX12_nextRow_97.2.2.1.1.1
theorem dX12_nextRow_145 : decode cX12_nextRow 145 = .ok (.goto (-45), 3) := fp_dk fp_hdX12_nextRow_97.2.2.1.1.2
theorem dX12_nextRow_148 : decode cX12_nextRow 148 = .ok (.iconst 1, 1) := fp_dk fp_hdX12_nextRow_97.2.2.1.2.1
theorem dX12_nextRow_149 : decode cX12_nextRow 149 = .ok (.ireturn, 1) := fp_dk fp_hdX12_nextRow_97.2.2.1.2.2
theorem dX12_orders_0 : decode cX12_orders 0 = .ok (.aload_n 0, 1) := fp_dk fp_hdX12_nextRow_97.2.2.2.1.1
theorem dX12_orders_1 : decode cX12_orders 1 = .ok (.iload_n 1, 1) := fp_dk fp_hdX12_nextRow_97.2.2.2.1.2
theorem dX12_orders_2 : decode cX12_orders 2 = .ok (.invokevirtual 219, 3) := fp_dk fp_hdX12_nextRow_97.2.2.2.2.1
theorem dX12_orders_5 : decode cX12_orders 5 = .ok (.ifCond .eq 21, 3) := fp_dk fp_hdX12_nextRow_97.2.2.2.2.2
theorem fp_hdX12_orders_8 : (((((fp_dq cX12_orders 8 (.iload_n 2, 1) = true ∧ fp_dq cX12_orders 9 (.ifCond .eq 19, 3) = true) ∧ (fp_dq cX12_orders 12 (.iload_n 2, 1) = true ∧ fp_dq cX12_orders 13 (.i2l, 1) = true)) ∧ ((fp_dq cX12_orders 14 (.ldc2_w 212, 3) = true ∧ fp_dq cX12_orders 17 (.ldc2_w 310, 3) = true) ∧ (fp_dq cX12_orders 20 (.invokestatic 94, 3) = true ∧ fp_dq cX12_orders 23 (.ifCond .ne 5, 3) = true))) ∧ (((fp_dq cX12_orders 26 (.iconst (-1), 1) = true ∧ fp_dq cX12_orders 27 (.ireturn, 1) = true) ∧ (fp_dq cX12_orders 28 (.aload_n 0, 1) = true ∧ fp_dq cX12_orders 29 (.iconst 0, 1) = true)) ∧ ((fp_dq cX12_orders 30 (.iload_n 1, 1) = true ∧ fp_dq cX12_orders 31 (.invokevirtual 198, 3) = true) ∧ (fp_dq cX12_orders 34 (.istore_n 3, 1) = true ∧ fp_dq cX12_orders 35 (.iload_n 3, 1) = true)))) ∧ ((((fp_dq cX12_orders 36 (.bipush 7, 2) = true ∧ fp_dq cX12_orders 38 (.if_icmp .le 6, 3) = true) ∧ (fp_dq cX12_orders 41 (.bipush (-2), 2) = true ∧ fp_dq cX12_orders 43 (.ireturn, 1) = true)) ∧ ((fp_dq cX12_orders 44 (.iconst 0, 1) = true ∧ fp_dq cX12_orders 45 (.istore 4, 2) = true) ∧ (fp_dq cX12_orders 47 (.iconst 0, 1) = true ∧ fp_dq cX12_orders 48 (.istore 5, 2) = true))) ∧ (((fp_dq cX12_orders 50 (.iload 5, 2) = true ∧ fp_dq cX12_orders 52 (.aload_n 0, 1) = true) ∧ (fp_dq cX12_orders 53 (.getfield 181, 3) = true ∧ fp_dq cX12_orders 56 (.if_icmp .ge 35, 3) = true)) ∧ ((fp_dq cX12_orders 59 (.aload_n 0, 1) = true ∧ fp_dq cX12_orders 60 (.getfield 7, 3) = true) ∧ (fp_dq cX12_orders 63 (.iload 5, 2) = true ∧ fp_dq cX12_orders 65 (.iaload, 1) = true))))) := by decide +kernel
theorem dX12_orders_8 : decode cX12_orders 8 = .ok (.iload_n 2, 1) := fp_dk fp_hdX12_orders_8.1.1.1.1.1
theorem dX12_orders_9 : decode cX12_orders 9 = .ok (.ifCond .eq 19, 3) := fp_dk fp_hdX12_orders_8.1.1.1.1.2
theorem dX12_orders_12 : decode cX12_orders 12 = .ok (.iload_n 2, 1) := fp_dk fp_hdX12_orders_8.1.1.1.2.1
theorem dX12_orders_13 : decode cX12_orders 13 = .ok (.i2l, 1) := fp_dk fp_hdX12_orders_8.1.1.1.2.2
theorem dX12_orders_14 : decode cX12_orders 14 = .ok (.ldc2_w 212, 3) := fp_dk fp_hdX12_orders_8.1.1.2.1.1
theorem dX12_orders_17 : decode cX12_orders 17 = .ok (.ldc2_w 310, 3) := fp_dk fp_hdX12_orders_8.1.1.2.1.2
theorem dX12_orders_20 : decode cX12_orders 20 = .ok (.invokestatic 94, 3) := fp_dk fp_hdX12_orders_8.1.1.2.2.1
theorem dX12_orders_23 : decode cX12_orders 23 = .ok (.ifCond .ne 5, 3) := fp_dk fp_hdX12_orders_8.1.1.2.2.2
theorem dX12_orders_26 : decode cX12_orders 26 = .ok (.iconst (-1), 1) := fp_dk fp_hdX12_orders_8.1.2.1.1.1
theorem dX12_orders_27 : decode cX12_orders 27 = .ok (.ireturn, 1) := fp_dk fp_hdX12_orders_8.1.2.1.1.2
theorem dX12_orders_28 : decode cX12_orders 28 = .ok (.aload_n 0, 1) := fp_dk fp_hdX12_orders_8.1.2.1.2.1
theorem dX12_orders_29 : decode cX12_orders 29 = .ok (.iconst 0, 1) := fp_dk fp_hdX12_orders_8.1.2.1.2.2
theorem dX12_orders_30 : decode cX12_orders 30 = .ok (.iload_n 1, 1) := fp_dk fp_hdX12_orders_8.1.2.2.1.1
theorem dX12_orders_31 : decode cX12_orders 31 = .ok (.invokevirtual 198, 3) := fp_dk fp_hdX12_orders_8.1.2.2.1.2
theorem dX12_orders_34 : decode cX12_orders 34 = .ok (.istore_n 3, 1) := fp_dk fp_hdX12_orders_8.1.2.2.2.1
theorem dX12_orders_35 : decode cX12_orders 35 = .ok (.iload_n 3, 1) := fp_dk fp_hdX12_orders_8.1.2.2.2.2
theorem dX12_orders_36 : decode cX12_orders 36 = .ok (.bipush 7, 2) := fp_dk fp_hdX12_orders_8.2.1.1.1.1
theorem dX12_orders_38 : decode cX12_orders 38 = .ok (.if_icmp .le 6, 3) := fp_dk fp_hdX12_orders_8.2.1.1.1.2
theorem dX12_orders_41 : decode cX12_orders 41 = .ok (.bipush (-2), 2) := fp_dk fp_hdX12_orders_8.2.1.1.2.1
theorem dX12_orders_43 : decode cX12_orders 43 = .ok (.ireturn, 1) := fp_dk fp_hdX12_orders_8.2.1.1.2.2
theorem dX12_orders_44 : decode cX12_orders 44 = .ok (.iconst 0, 1) := fp_dk fp_hdX12_orders_8.2.1.2.1.1
theorem dX12_orders_45 : decode cX12_orders 45 = .ok (.istore 4, 2) := fp_dk fp_hdX12_orders_8.2.1.2.1.2
theorem dX12_orders_47 : decode cX12_orders 47 = .ok (.iconst 0, 1) := fp_dk fp_hdX12_orders_8.2.1.2.2.1
theorem dX12_orders_48 : decode cX12_orders 48 = .ok (.istore 5, 2) := fp_dk fp_hdX12_orders_8.2.1.2.2.2
theorem dX12_orders_50 : decode cX12_orders 50 = .ok (.iload 5, 2) := fp_dk fp_hdX12_orders_8.2.2.1.1.1
theorem dX12_orders_52 : decode cX12_orders 52 = .ok (.aload_n 0, 1) := fp_dk fp_hdX12_orders_8.2.2.1.1.2
theorem dX12_orders_53 : decode cX12_orders 53 = .ok (.getfield 181, 3) := fp_dk fp_hdX12_orders_8.2.2.1.2.1
theorem dX12_orders_56 : decode cX12_orders 56 = .ok (.if_icmp .ge 35, 3) := fp_dk fp_hdX12_orders_8.2.2.1.2.2
theorem dX12_orders_59 : decode cX12_orders 59 = .ok (.aload_n 0, 1) := fp_dk fp_hdX12_orders_8.2.2.2.1.1
theorem dX12_orders_60 : decode cX12_orders 60 = .ok (.getfield 7, 3) := fp_dk fp_hdX12_orders_8.2.2.2.1.2
theorem dX12_orders_63 : decode cX12_orders 63 = .ok (.iload 5, 2) := fp_dk fp_hdX12_orders_8.2.2.2.2.1
theorem dX12_orders_65 : decode cX12_orders 65 = .ok (.iaload, 1) := fp_dk fp_hdX12_orders_8.2.2.2.2.2
theorem fp_hdX12_orders_66 : (((((fp_dq cX12_orders 66 (.bipush 10, 2) = true ∧ fp_dq cX12_orders 68 (.iload_n 1, 1) = true) ∧ (fp_dq cX12_orders 69 (.iadd, 1) = true ∧ fp_dq cX12_orders 70 (.if_icmp .ne 15, 3) = true)) ∧ ((fp_dq cX12_orders 73 (.aload_n 0, 1) = true ∧ fp_dq cX12_orders 74 (.getfield 63, 3) = true) ∧ (fp_dq cX12_orders 77 (.iload 4, 2) = true ∧ fp_dq cX12_orders 79 (.iload 5, 2) = true))) ∧ (((fp_dq cX12_orders 81 (.iastore, 1) = true ∧ fp_dq cX12_orders 82 (.iinc 4 1, 3) = true) ∧ (fp_dq cX12_orders 85 (.iinc 5 1, 3) = true ∧ fp_dq cX12_orders 88 (.goto (-38), 3) = true)) ∧ ((fp_dq cX12_orders 91 (.iconst 0, 1) = true ∧ fp_dq cX12_orders 92 (.istore 5, 2) = true) ∧ (fp_dq cX12_orders 94 (.iconst 1, 1) = true ∧ fp_dq cX12_orders 95 (.istore 6, 2) = true)))) ∧ ((((fp_dq cX12_orders 97 (.iload 6, 2) = true ∧ fp_dq cX12_orders 99 (.ifCond .eq 59, 3) = true) ∧ (fp_dq cX12_orders 102 (.aload_n 0, 1) = true ∧ fp_dq cX12_orders 103 (.iload_n 1, 1) = true)) ∧ ((fp_dq cX12_orders 104 (.iload_n 3, 1) = true ∧ fp_dq cX12_orders 105 (.invokevirtual 312, 3) = true) ∧ (fp_dq cX12_orders 108 (.ifCond .eq 40, 3) = true ∧ fp_dq cX12_orders 111 (.iconst 0, 1) = true))) ∧ (((fp_dq cX12_orders 112 (.istore 7, 2) = true ∧ fp_dq cX12_orders 114 (.iload 7, 2) = true) ∧ (fp_dq cX12_orders 116 (.iload_n 3, 1) = true ∧ fp_dq cX12_orders 117 (.if_icmp .ge 28, 3) = true)) ∧ ((fp_dq cX12_orders 120 (.iload 5, 2) = true ∧ fp_dq cX12_orders 122 (.ifCond .ne 23, 3) = true) ∧ (fp_dq cX12_orders 125 (.aload_n 0, 1) = true ∧ fp_dq cX12_orders 126 (.getfield 66, 3) = true))))) := by decide +kernel
theorem dX12_orders_66 : decode cX12_orders 66 = .ok (.bipush 10, 2) := fp_dk fp_hdX12_orders_66.1.1.1.1.1
theorem dX12_orders_68 : decode cX12_orders 68 = .ok (.iload_n 1, 1) := fp_dk fp_hdX12_orders_66.1.1.1.1.2
theorem dX12_orders_69 : decode cX12_orders 69 = .ok (.iadd, 1) := fp_dk fp_hdX12_orders_66.1.1.1.2.1
theorem dX12_orders_70 : decode cX12_orders 70 = .ok (.if_icmp .ne 15, 3) := fp_dk fp_hdX12_orders_66.1.1.1.2.2
theorem dX12_orders_73 : decode cX12_orders 73 = .ok (.aload_n 0, 1) := fp_dk fp_hdX12_orders_66.1.1.2.1.1
theorem dX12_orders_74 : decode cX12_orders 74 = .ok (.getfield 63, 3) := fp_dk fp_hdX12_orders_66.1.1.2.1.2
theorem dX12_orders_77 : decode cX12_orders 77 = .ok (.iload 4, 2) := fp_dk fp_hdX12_orders_66.1.1.2.2.1
theorem dX12_orders_79 : decode cX12_orders 79 = .ok (.iload 5, 2) := fp_dk fp_hdX12_orders_66.1.1.2.2.2
theorem dX12_orders_81 : decode cX12_orders 81 = .ok (.iastore, 1) := fp_dk fp_hdX12_orders_66.1.2.1.1.1
theorem dX12_orders_82 : decode cX12_orders 82 = .ok (.iinc 4 1, 3) := fp_dk fp_hdX12_orders_66.1.2.1.1.2
theorem dX12_orders_85 : decode cX12_orders 85 = .ok (.iinc 5 1, 3) := fp_dk fp_hdX12_orders_66.1.2.1.2.1
theorem dX12_orders_88 : decode cX12_orders 88 = .ok (.goto (-38), 3) := fp_dk fp_hdX12_orders_66.1.2.1.2.2
theorem dX12_orders_91 : decode cX12_orders 91 = .ok (.iconst 0, 1) := fp_dk fp_hdX12_orders_66.1.2.2.1.1
theorem dX12_orders_92 : decode cX12_orders 92 = .ok (.istore 5, 2) := fp_dk fp_hdX12_orders_66.1.2.2.1.2
theorem dX12_orders_94 : decode cX12_orders 94 = .ok (.iconst 1, 1) := fp_dk fp_hdX12_orders_66.1.2.2.2.1
theorem dX12_orders_95 : decode cX12_orders 95 = .ok (.istore 6, 2) := fp_dk fp_hdX12_orders_66.1.2.2.2.2
theorem dX12_orders_97 : decode cX12_orders 97 = .ok (.iload 6, 2) := fp_dk fp_hdX12_orders_66.2.1.1.1.1
theorem dX12_orders_99 : decode cX12_orders 99 = .ok (.ifCond .eq 59, 3) := fp_dk fp_hdX12_orders_66.2.1.1.1.2
theorem dX12_orders_102 : decode cX12_orders 102 = .ok (.aload_n 0, 1) := fp_dk fp_hdX12_orders_66.2.1.1.2.1
theorem dX12_orders_103 : decode cX12_orders 103 = .ok (.iload_n 1, 1) := fp_dk fp_hdX12_orders_66.2.1.1.2.2
theorem dX12_orders_104 : decode cX12_orders 104 = .ok (.iload_n 3, 1) := fp_dk fp_hdX12_orders_66.2.1.2.1.1
theorem dX12_orders_105 : decode cX12_orders 105 = .ok (.invokevirtual 312, 3) := fp_dk fp_hdX12_orders_66.2.1.2.1.2
theorem dX12_orders_108 : decode cX12_orders 108 = .ok (.ifCond .eq 40, 3) := fp_dk fp_hdX12_orders_66.2.1.2.2.1
theorem dX12_orders_111 : decode cX12_orders 111 = .ok (.iconst 0, 1) := fp_dk fp_hdX12_orders_66.2.1.2.2.2
theorem dX12_orders_112 : decode cX12_orders 112 = .ok (.istore 7, 2) := fp_dk fp_hdX12_orders_66.2.2.1.1.1
theorem dX12_orders_114 : decode cX12_orders 114 = .ok (.iload 7, 2) := fp_dk fp_hdX12_orders_66.2.2.1.1.2
theorem dX12_orders_116 : decode cX12_orders 116 = .ok (.iload_n 3, 1) := fp_dk fp_hdX12_orders_66.2.2.1.2.1
theorem dX12_orders_117 : decode cX12_orders 117 = .ok (.if_icmp .ge 28, 3) := fp_dk fp_hdX12_orders_66.2.2.1.2.2
theorem dX12_orders_120 : decode cX12_orders 120 = .ok (.iload 5, 2) := fp_dk fp_hdX12_orders_66.2.2.2.1.1
theorem dX12_orders_122 : decode cX12_orders 122 = .ok (.ifCond .ne 23, 3) := fp_dk fp_hdX12_orders_66.2.2.2.1.2
theorem dX12_orders_125 : decode cX12_orders 125 = .ok (.aload_n 0, 1) := fp_dk fp_hdX12_orders_66.2.2.2.2.1
theorem dX12_orders_126 : decode cX12_orders 126 = .ok (.getfield 66, 3) := fp_dk fp_hdX12_orders_66.2.2.2.2.2
theorem fp_hdX12_orders_129 : (((((fp_dq cX12_orders 129 (.iload 7, 2) = true ∧ fp_dq cX12_orders 131 (.aload_n 0, 1) = true) ∧ (fp_dq cX12_orders 132 (.getfield 63, 3) = true ∧ fp_dq cX12_orders 135 (.iload 7, 2) = true)) ∧ ((fp_dq cX12_orders 137 (.iaload, 1) = true ∧ fp_dq cX12_orders 138 (.iastore, 1) = true) ∧ (fp_dq cX12_orders 139 (.iinc 7 1, 3) = true ∧ fp_dq cX12_orders 142 (.goto (-28), 3) = true))) ∧ (((fp_dq cX12_orders 145 (.iinc 5 1, 3) = true ∧ fp_dq cX12_orders 148 (.aload_n 0, 1) = true) ∧ (fp_dq cX12_orders 149 (.iload_n 3, 1) = true ∧ fp_dq cX12_orders 150 (.invokevirtual 315, 3) = true)) ∧ ((fp_dq cX12_orders 153 (.istore 6, 2) = true ∧ fp_dq cX12_orders 155 (.goto (-58), 3) = true) ∧ (fp_dq cX12_orders 158 (.iload_n 2, 1) = true ∧ fp_dq cX12_orders 159 (.ifCond .ne 8, 3) = true)))) ∧ ((((fp_dq cX12_orders 162 (.iload 5, 2) = true ∧ fp_dq cX12_orders 164 (.goto 30, 3) = true) ∧ (fp_dq cX12_orders 167 (.iload 5, 2) = true ∧ fp_dq cX12_orders 169 (.ifCond .eq 11, 3) = true)) ∧ ((fp_dq cX12_orders 172 (.iload_n 2, 1) = true ∧ fp_dq cX12_orders 173 (.bipush 10, 2) = true) ∧ (fp_dq cX12_orders 175 (.isub, 1) = true ∧ fp_dq cX12_orders 176 (.iload_n 3, 1) = true))) ∧ (((fp_dq cX12_orders 177 (.if_icmp .lt 8, 3) = true ∧ fp_dq cX12_orders 180 (.bipush (-4), 2) = true) ∧ (fp_dq cX12_orders 182 (.goto 12, 3) = true ∧ fp_dq cX12_orders 185 (.aload_n 0, 1) = true)) ∧ ((fp_dq cX12_orders 186 (.getfield 66, 3) = true ∧ fp_dq cX12_orders 189 (.iload_n 2, 1) = true) ∧ (fp_dq cX12_orders 190 (.bipush 10, 2) = true ∧ fp_dq cX12_orders 192 (.isub, 1) = true))))) := by decide +kernel
theorem dX12_orders_129 : decode cX12_orders 129 = .ok (.iload 7, 2) := fp_dk fp_hdX12_orders_129.1.1.1.1.1
theorem dX12_orders_131 : decode cX12_orders 131 = .ok (.aload_n 0, 1) := fp_dk fp_hdX12_orders_129.1.1.1.1.2
theorem dX12_orders_132 : decode cX12_orders 132 = .ok (.getfield 63, 3) := fp_dk fp_hdX12_orders_129.1.1.1.2.1
theorem dX12_orders_135 : decode cX12_orders 135 = .ok (.iload 7, 2) := fp_dk fp_hdX12_orders_129.1.1.1.2.2
theorem dX12_orders_137 : decode cX12_orders 137 = .ok (.iaload, 1) := fp_dk fp_hdX12_orders_129.1.1.2.1.1
theorem dX12_orders_138 : decode cX12_orders 138 = .ok (.iastore, 1) := fp_dk fp_hdX12_orders_129.1.1.2.1.2
theorem dX12_orders_139 : decode cX12_orders 139 = .ok (.iinc 7 1, 3) := fp_dk fp_hdX12_orders_129.1.1.2.2.1
theorem dX12_orders_142 : decode cX12_orders 142 = .ok (.goto (-28), 3) := fp_dk fp_hdX12_orders_129.1.1.2.2.2
theorem dX12_orders_145 : decode cX12_orders 145 = .ok (.iinc 5 1, 3) := fp_dk fp_hdX12_orders_129.1.2.1.1.1
theorem dX12_orders_148 : decode cX12_orders 148 = .ok (.aload_n 0, 1) := fp_dk fp_hdX12_orders_129.1.2.1.1.2
theorem dX12_orders_149 : decode cX12_orders 149 = .ok (.iload_n 3, 1) := fp_dk fp_hdX12_orders_129.1.2.1.2.1
theorem dX12_orders_150 : decode cX12_orders 150 = .ok (.invokevirtual 315, 3) := fp_dk fp_hdX12_orders_129.1.2.1.2.2
theorem dX12_orders_153 : decode cX12_orders 153 = .ok (.istore 6, 2) := fp_dk fp_hdX12_orders_129.1.2.2.1.1
theorem dX12_orders_155 : decode cX12_orders 155 = .ok (.goto (-58), 3) := fp_dk fp_hdX12_orders_129.1.2.2.1.2
theorem dX12_orders_158 : decode cX12_orders 158 = .ok (.iload_n 2, 1) := fp_dk fp_hdX12_orders_129.1.2.2.2.1
theorem dX12_orders_159 : decode cX12_orders 159 = .ok (.ifCond .ne 8, 3) := fp_dk fp_hdX12_orders_129.1.2.2.2.2
theorem dX12_orders_162 : decode cX12_orders 162 = .ok (.iload 5, 2) := fp_dk fp_hdX12_orders_129.2.1.1.1.1
theorem dX12_orders_164 : decode cX12_orders 164 = .ok (.goto 30, 3) := fp_dk fp_hdX12_orders_129.2.1.1.1.2
theorem dX12_orders_167 : decode cX12_orders 167 = .ok (.iload 5, 2) := fp_dk fp_hdX12_orders_129.2.1.1.2.1
theorem dX12_orders_169 : decode cX12_orders 169 = .ok (.ifCond .eq 11, 3) := fp_dk fp_hdX12_orders_129.2.1.1.2.2
theorem dX12_orders_172 : decode cX12_orders 172 = .ok (.iload_n 2, 1) := fp_dk fp_hdX12_orders_129.2.1.2.1.1
theorem dX12_orders_173 : decode cX12_orders 173 = .ok (.bipush 10, 2) := fp_dk fp_hdX12_orders_129.2.1.2.1.2
theorem dX12_orders_175 : decode cX12_orders 175 = .ok (.isub, 1) := fp_dk fp_hdX12_orders_129.2.1.2.2.1
theorem dX12_orders_176 : decode cX12_orders 176 = .ok (.iload_n 3, 1) := fp_dk fp_hdX12_orders_129.2.1.2.2.2
theorem dX12_orders_177 : decode cX12_orders 177 = .ok (.if_icmp .lt 8, 3) := fp_dk fp_hdX12_orders_129.2.2.1.1.1
theorem dX12_orders_180 : decode cX12_orders 180 = .ok (.bipush (-4), 2) := fp_dk fp_hdX12_orders_129.2.2.1.1.2
theorem dX12_orders_182 : decode cX12_orders 182 = .ok (.goto 12, 3) := fp_dk fp_hdX12_orders_129.2.2.1.2.1
theorem dX12_orders_185 : decode cX12_orders 185 = .ok (.aload_n 0, 1) := fp_dk fp_hdX12_orders_129.2.2.1.2.2
theorem dX12_orders_186 : decode cX12_orders 186 = .ok (.getfield 66, 3) := fp_dk fp_hdX12_orders_129.2.2.2.1.1
theorem dX12_orders_189 : decode cX12_orders 189 = .ok (.iload_n 2, 1) := fp_dk fp_hdX12_orders_129.2.2.2.1.2
theorem dX12_orders_190 : decode cX12_orders 190 = .ok (.bipush 10, 2) := fp_dk fp_hdX12_orders_129.2.2.2.2.1
theorem dX12_orders_192 : decode cX12_orders 192 = .ok (.isub, 1) := fp_dk fp_hdX12_orders_129.2.2.2.2.2
theorem fp_hdX12_orders_193 : (((((fp_dq cX12_orders 193 (.iaload, 1) = true ∧ fp_dq cX12_orders 194 (.ireturn, 1) = true) ∧ (fp_dq cX12_likes 0 (.bipush (-4), 2) = true ∧ fp_dq cX12_likes 2 (.istore_n 3, 1) = true)) ∧ ((fp_dq cX12_likes 3 (.iconst 0, 1) = true ∧ fp_dq cX12_likes 4 (.istore 4, 2) = true) ∧ (fp_dq cX12_likes 6 (.iload 4, 2) = true ∧ fp_dq cX12_likes 8 (.iconst 4, 1) = true))) ∧ (((fp_dq cX12_likes 9 (.if_icmp .ge 102, 3) = true ∧ fp_dq cX12_likes 12 (.iload_n 2, 1) = true) ∧ (fp_dq cX12_likes 13 (.iload 4, 2) = true ∧ fp_dq cX12_likes 15 (.ishr, 1) = true)) ∧ ((fp_dq cX12_likes 16 (.iconst 1, 1) = true ∧ fp_dq cX12_likes 17 (.iand, 1) = true) ∧ (fp_dq cX12_likes 18 (.iconst 1, 1) = true ∧ fp_dq cX12_likes 19 (.if_icmp .ne 86, 3) = true)))) ∧ ((((fp_dq cX12_likes 22 (.aload_n 0, 1) = true ∧ fp_dq cX12_likes 23 (.getfield 16, 3) = true) ∧ (fp_dq cX12_likes 26 (.iconst 4, 1) = true ∧ fp_dq cX12_likes 27 (.aload_n 0, 1) = true)) ∧ ((fp_dq cX12_likes 28 (.getfield 69, 3) = true ∧ fp_dq cX12_likes 31 (.iload 4, 2) = true) ∧ (fp_dq cX12_likes 33 (.iaload, 1) = true ∧ fp_dq cX12_likes 34 (.imul, 1) = true))) ∧ (((fp_dq cX12_likes 35 (.iload_n 1, 1) = true ∧ fp_dq cX12_likes 36 (.iadd, 1) = true) ∧ (fp_dq cX12_likes 37 (.iaload, 1) = true ∧ fp_dq cX12_likes 38 (.istore 5, 2) = true)) ∧ ((fp_dq cX12_likes 40 (.iload_n 3, 1) = true ∧ fp_dq cX12_likes 41 (.bipush (-4), 2) = true) ∧ (fp_dq cX12_likes 43 (.if_icmp .ne 8, 3) = true ∧ fp_dq cX12_likes 46 (.bipush (-4), 2) = true))))) := by decide +kernel
theorem dX12_orders_193 : decode cX12_orders 193 = .ok (.iaload, 1) := fp_dk fp_hdX12_orders_193.1.1.1.1.1
theorem dX12_orders_194 : decode cX12_orders 194 = .ok (.ireturn, 1) := fp_dk fp_hdX12_orders_193.1.1.1.1.2
theorem dX12_likes_0 : decode cX12_likes 0 = .ok (.bipush (-4), 2) := fp_dk fp_hdX12_orders_193.1.1.1.2.1
theorem dX12_likes_2 : decode cX12_likes 2 = .ok (.istore_n 3, 1) := fp_dk fp_hdX12_orders_193.1.1.1.2.2
theorem dX12_likes_3 : decode cX12_likes 3 = .ok (.iconst 0, 1) := fp_dk fp_hdX12_orders_193.1.1.2.1.1
theorem dX12_likes_4 : decode cX12_likes 4 = .ok (.istore 4, 2) := fp_dk fp_hdX12_orders_193.1.1.2.1.2
theorem dX12_likes_6 : decode cX12_likes 6 = .ok (.iload 4, 2) := fp_dk fp_hdX12_orders_193.1.1.2.2.1
theorem dX12_likes_8 : decode cX12_likes 8 = .ok (.iconst 4, 1) := fp_dk fp_hdX12_orders_193.1.1.2.2.2
theorem dX12_likes_9 : decode cX12_likes 9 = .ok (.if_icmp .ge 102, 3) := fp_dk fp_hdX12_orders_193.1.2.1.1.1
theorem dX12_likes_12 : decode cX12_likes 12 = .ok (.iload_n 2, 1) := fp_dk fp_hdX12_orders_193.1.2.1.1.2
theorem dX12_likes_13 : decode cX12_likes 13 = .ok (.iload 4, 2) := fp_dk fp_hdX12_orders_193.1.2.1.2.1
theorem dX12_likes_15 : decode cX12_likes 15 = .ok (.ishr, 1) := fp_dk fp_hdX12_orders_193.1.2.1.2.2
theorem dX12_likes_16 : decode cX12_likes 16 = .ok (.iconst 1, 1) := fp_dk fp_hdX12_orders_193.1.2.2.1.1
theorem dX12_likes_17 : decode cX12_likes 17 = .ok (.iand, 1) := fp_dk fp_hdX12_orders_193.1.2.2.1.2
theorem dX12_likes_18 : decode cX12_likes 18 = .ok (.iconst 1, 1) := fp_dk fp_hdX12_orders_193.1.2.2.2.1
theorem dX12_likes_19 : decode cX12_likes 19 = .ok (.if_icmp .ne 86, 3) := fp_dk fp_hdX12_orders_193.1.2.2.2.2
theorem dX12_likes_22 : decode cX12_likes 22 = .ok (.aload_n 0, 1) := fp_dk fp_hdX12_orders_193.2.1.1.1.1
theorem dX12_likes_23 : decode cX12_likes 23 = .ok (.getfield 16, 3) := fp_dk fp_hdX12_orders_193.2.1.1.1.2
theorem dX12_likes_26 : decode cX12_likes 26 = .ok (.iconst 4, 1) := fp_dk fp_hdX12_orders_193.2.1.1.2.1
theorem dX12_likes_27 : decode cX12_likes 27 = .ok (.aload_n 0, 1) := fp_dk fp_hdX12_orders_193.2.1.1.2.2
theorem dX12_likes_28 : decode cX12_likes 28 = .ok (.getfield 69, 3) := fp_dk fp_hdX12_orders_193.2.1.2.1.1
theorem dX12_likes_31 : decode cX12_likes 31 = .ok (.iload 4, 2) := fp_dk fp_hdX12_orders_193.2.1.2.1.2
theorem dX12_likes_33 : decode cX12_likes 33 = .ok (.iaload, 1) := fp_dk fp_hdX12_orders_193.2.1.2.2.1
theorem dX12_likes_34 : decode cX12_likes 34 = .ok (.imul, 1) := fp_dk fp_hdX12_orders_193.2.1.2.2.2
theorem dX12_likes_35 : decode cX12_likes 35 = .ok (.iload_n 1, 1) := fp_dk fp_hdX12_orders_193.2.2.1.1.1
theorem dX12_likes_36 : decode cX12_likes 36 = .ok (.iadd, 1) := fp_dk fp_hdX12_orders_193.2.2.1.1.2
theorem dX12_likes_37 : decode cX12_likes 37 = .ok (.iaload, 1) := fp_dk fp_hdX12_orders_193.2.2.1.2.1
theorem dX12_likes_38 : decode cX12_likes 38 = .ok (.istore 5, 2) := fp_dk fp_hdX12_orders_193.2.2.1.2.2
theorem dX12_likes_40 : decode cX12_likes 40 = .ok (.iload_n 3, 1) := fp_dk fp_hdX12_orders_193.2.2.2.1.1
theorem dX12_likes_41 : decode cX12_likes 41 = .ok (.bipush (-4), 2) := fp_dk fp_hdX12_orders_193.2.2.2.1.2
theorem dX12_likes_43 : decode cX12_likes 43 = .ok (.if_icmp .ne 8, 3) := fp_dk fp_hdX12_orders_193.2.2.2.2.1
theorem dX12_likes_46 : decode cX12_likes 46 = .ok (.bipush (-4), 2) := fp_dk fp_hdX12_orders_193.2.2.2.2.2
theorem fp_hdX12_likes_48 : (((((fp_dq cX12_likes 48 (.goto 18, 3) = true ∧ fp_dq cX12_likes 51 (.aload_n 0, 1) = true) ∧ (fp_dq cX12_likes 52 (.getfield 16, 3) = true ∧ fp_dq cX12_likes 55 (.iconst 4, 1) = true)) ∧ ((fp_dq cX12_likes 56 (.aload_n 0, 1) = true ∧ fp_dq cX12_likes 57 (.getfield 69, 3) = true) ∧ (fp_dq cX12_likes 60 (.iload_n 3, 1) = true ∧ fp_dq cX12_likes 61 (.iaload, 1) = true))) ∧ (((fp_dq cX12_likes 62 (.imul, 1) = true ∧ fp_dq cX12_likes 63 (.iload_n 1, 1) = true) ∧ (fp_dq cX12_likes 64 (.iadd, 1) = true ∧ fp_dq cX12_likes 65 (.iaload, 1) = true)) ∧ ((fp_dq cX12_likes 66 (.istore 6, 2) = true ∧ fp_dq cX12_likes 68 (.iload 5, 2) = true) ∧ (fp_dq cX12_likes 70 (.iload 6, 2) = true ∧ fp_dq cX12_likes 72 (.if_icmp .gt 26, 3) = true)))) ∧ ((((fp_dq cX12_likes 75 (.iload 5, 2) = true ∧ fp_dq cX12_likes 77 (.iload 6, 2) = true) ∧ (fp_dq cX12_likes 79 (.if_icmp .ne 24, 3) = true ∧ fp_dq cX12_likes 82 (.aload_n 0, 1) = true)) ∧ ((fp_dq cX12_likes 83 (.getfield 69, 3) = true ∧ fp_dq cX12_likes 86 (.iload 4, 2) = true) ∧ (fp_dq cX12_likes 88 (.iaload, 1) = true ∧ fp_dq cX12_likes 89 (.aload_n 0, 1) = true))) ∧ (((fp_dq cX12_likes 90 (.getfield 69, 3) = true ∧ fp_dq cX12_likes 93 (.iload_n 3, 1) = true) ∧ (fp_dq cX12_likes 94 (.iaload, 1) = true ∧ fp_dq cX12_likes 95 (.if_icmp .ge 8, 3) = true)) ∧ ((fp_dq cX12_likes 98 (.iload 4, 2) = true ∧ fp_dq cX12_likes 100 (.goto 4, 3) = true) ∧ (fp_dq cX12_likes 103 (.iload_n 3, 1) = true ∧ fp_dq cX12_likes 104 (.istore_n 3, 1) = true))))) := by decide +kernel
theorem dX12_likes_48 : decode cX12_likes 48 = .ok (.goto 18, 3) := fp_dk fp_hdX12_likes_48.1.1.1.1.1
theorem dX12_likes_51 : decode cX12_likes 51 = .ok (.aload_n 0, 1) := fp_dk fp_hdX12_likes_48.1.1.1.1.2
theorem dX12_likes_52 : decode cX12_likes 52 = .ok (.getfield 16, 3) := fp_dk fp_hdX12_likes_48.1.1.1.2.1
theorem dX12_likes_55 : decode cX12_likes 55 = .ok (.iconst 4, 1) := fp_dk fp_hdX12_likes_48.1.1.1.2.2
theorem dX12_likes_56 : decode cX12_likes 56 = .ok (.aload_n 0, 1) := fp_dk fp_hdX12_likes_48.1.1.2.1.1
theorem dX12_likes_57 : decode cX12_likes 57 = .ok (.getfield 69, 3) := fp_dk fp_hdX12_likes_48.1.1.2.1.2
theorem dX12_likes_60 : decode cX12_likes 60 = .ok (.iload_n 3, 1) := fp_dk fp_hdX12_likes_48.1.1.2.2.1
theorem dX12_likes_61 : decode cX12_likes 61 = .ok (.iaload, 1) := fp_dk fp_hdX12_likes_48.1.1.2.2.2
theorem dX12_likes_62 : decode cX12_likes 62 = .ok (.imul, 1) := fp_dk fp_hdX12_likes_48.1.2.1.1.1
theorem dX12_likes_63 : decode cX12_likes 63 = .ok (.iload_n 1, 1) := fp_dk fp_hdX12_likes_48.1.2.1.1.2
theorem dX12_likes_64 : decode cX12_likes 64 = .ok (.iadd, 1) := fp_dk fp_hdX12_likes_48.1.2.1.2.1
theorem dX12_likes_65 : decode cX12_likes 65 = .ok (.iaload, 1) := fp_dk fp_hdX12_likes_48.1.2.1.2.2
theorem dX12_likes_66 : decode cX12_likes 66 = .ok (.istore 6, 2) := fp_dk fp_hdX12_likes_48.1.2.2.1.1
theorem dX12_likes_68 : decode cX12_likes 68 = .ok (.iload 5, 2) := fp_dk fp_hdX12_likes_48.1.2.2.1.2
theorem dX12_likes_70 : decode cX12_likes 70 = .ok (.iload 6, 2) := fp_dk fp_hdX12_likes_48.1.2.2.2.1
theorem dX12_likes_72 : decode cX12_likes 72 = .ok (.if_icmp .gt 26, 3) := fp_dk fp_hdX12_likes_48.1.2.2.2.2
theorem dX12_likes_75 : decode cX12_likes 75 = .ok (.iload 5, 2) := fp_dk fp_hdX12_likes_48.2.1.1.1.1
theorem dX12_likes_77 : decode cX12_likes 77 = .ok (.iload 6, 2) := fp_dk fp_hdX12_likes_48.2.1.1.1.2
theorem dX12_likes_79 : decode cX12_likes 79 = .ok (.if_icmp .ne 24, 3) := fp_dk fp_hdX12_likes_48.2.1.1.2.1
theorem dX12_likes_82 : decode cX12_likes 82 = .ok (.aload_n 0, 1) := fp_dk fp_hdX12_likes_48.2.1.1.2.2
theorem dX12_likes_83 : decode cX12_likes 83 = .ok (.getfield 69, 3) := fp_dk fp_hdX12_likes_48.2.1.2.1.1
theorem dX12_likes_86 : decode cX12_likes 86 = .ok (.iload 4, 2) := fp_dk fp_hdX12_likes_48.2.1.2.1.2
theorem dX12_likes_88 : decode cX12_likes 88 = .ok (.iaload, 1) := fp_dk fp_hdX12_likes_48.2.1.2.2.1
theorem dX12_likes_89 : decode cX12_likes 89 = .ok (.aload_n 0, 1) := fp_dk fp_hdX12_likes_48.2.1.2.2.2
theorem dX12_likes_90 : decode cX12_likes 90 = .ok (.getfield 69, 3) := fp_dk fp_hdX12_likes_48.2.2.1.1.1
theorem dX12_likes_93 : decode cX12_likes 93 = .ok (.iload_n 3, 1) := fp_dk fp_hdX12_likes_48.2.2.1.1.2
theorem dX12_likes_94 : decode cX12_likes 94 = .ok (.iaload, 1) := fp_dk fp_hdX12_likes_48.2.2.1.2.1
theorem dX12_likes_95 : decode cX12_likes 95 = .ok (.if_icmp .ge 8, 3) := fp_dk fp_hdX12_likes_48.2.2.1.2.2
theorem dX12_likes_98 : decode cX12_likes 98 = .ok (.iload 4, 2) := fp_dk fp_hdX12_likes_48.2.2.2.1.1
theorem dX12_likes_100 : decode cX12_likes 100 = .ok (.goto 4, 3) := fp_dk fp_hdX12_likes_48.2.2.2.1.2
theorem dX12_likes_103 : decode cX12_likes 103 = .ok (.iload_n 3, 1) := fp_dk fp_hdX12_likes_48.2.2.2.2.1
theorem dX12_likes_104 : decode cX12_likes 104 = .ok (.istore_n 3, 1) := fp_dk fp_hdX12_likes_48.2.2.2.2.2
theorem fp_hdX12_likes_105 : (((((fp_dq cX12_likes 105 (.iinc 4 1, 3) = true ∧ fp_dq cX12_likes 108 (.goto (-102), 3) = true) ∧ (fp_dq cX12_likes 111 (.iload_n 3, 1) = true ∧ fp_dq cX12_likes 112 (.ireturn, 1) = true)) ∧ ((fp_dq cX12_ringOf 0 (.iconst 0, 1) = true ∧ fp_dq cX12_ringOf 1 (.istore_n 3, 1) = true) ∧ (fp_dq cX12_ringOf 2 (.iload_n 1, 1) = true ∧ fp_dq cX12_ringOf 3 (.istore 4, 2) = true))) ∧ (((fp_dq cX12_ringOf 5 (.iconst 0, 1) = true ∧ fp_dq cX12_ringOf 6 (.istore 5, 2) = true) ∧ (fp_dq cX12_ringOf 8 (.iload 5, 2) = true ∧ fp_dq cX12_ringOf 10 (.iconst 4, 1) = true)) ∧ ((fp_dq cX12_ringOf 11 (.if_icmp .ge 33, 3) = true ∧ fp_dq cX12_ringOf 14 (.aload_n 0, 1) = true) ∧ (fp_dq cX12_ringOf 15 (.iload 4, 2) = true ∧ fp_dq cX12_ringOf 17 (.iload_n 2, 1) = true)))) ∧ ((((fp_dq cX12_ringOf 18 (.invokevirtual 318, 3) = true ∧ fp_dq cX12_ringOf 21 (.istore 4, 2) = true) ∧ (fp_dq cX12_ringOf 23 (.iload_n 3, 1) = true ∧ fp_dq cX12_ringOf 24 (.iconst 1, 1) = true)) ∧ ((fp_dq cX12_ringOf 25 (.iload 4, 2) = true ∧ fp_dq cX12_ringOf 27 (.ishl, 1) = true) ∧ (fp_dq cX12_ringOf 28 (.ior, 1) = true ∧ fp_dq cX12_ringOf 29 (.istore_n 3, 1) = true))) ∧ (((fp_dq cX12_ringOf 30 (.iload 4, 2) = true ∧ fp_dq cX12_ringOf 32 (.iload_n 1, 1) = true) ∧ (fp_dq cX12_ringOf 33 (.if_icmp .ne 5, 3) = true ∧ fp_dq cX12_ringOf 36 (.iload_n 3, 1) = true)) ∧ ((fp_dq cX12_ringOf 37 (.ireturn, 1) = true ∧ fp_dq cX12_ringOf 38 (.iinc 5 1, 3) = true) ∧ (fp_dq cX12_ringOf 41 (.goto (-33), 3) = true ∧ fp_dq cX12_ringOf 44 (.iconst 0, 1) = true))))) := by decide +kernel
theorem dX12_likes_105 : decode cX12_likes 105 = .ok (.iinc 4 1, 3) := fp_dk fp_hdX12_likes_105.1.1.1.1.1
theorem dX12_likes_108 : decode cX12_likes 108 = .ok (.goto (-102), 3) := fp_dk fp_hdX12_likes_105.1.1.1.1.2
theorem dX12_likes_111 : decode cX12_likes 111 = .ok (.iload_n 3, 1) := fp_dk fp_hdX12_likes_105.1.1.1.2.1
theorem dX12_likes_112 : decode cX12_likes 112 = .ok (.ireturn, 1) := fp_dk fp_hdX12_likes_105.1.1.1.2.2
theorem dX12_ringOf_0 : decode cX12_ringOf 0 = .ok (.iconst 0, 1) := fp_dk fp_hdX12_likes_105.1.1.2.1.1
theorem dX12_ringOf_1 : decode cX12_ringOf 1 = .ok (.istore_n 3, 1) := fp_dk fp_hdX12_likes_105.1.1.2.1.2
theorem dX12_ringOf_2 : decode cX12_ringOf 2 = .ok (.iload_n 1, 1) := fp_dk fp_hdX12_likes_105.1.1.2.2.1
theorem dX12_ringOf_3 : decode cX12_ringOf 3 = .ok (.istore 4, 2) := fp_dk fp_hdX12_likes_105.1.1.2.2.2
theorem dX12_ringOf_5 : decode cX12_ringOf 5 = .ok (.iconst 0, 1) := fp_dk fp_hdX12_likes_105.1.2.1.1.1
theorem dX12_ringOf_6 : decode cX12_ringOf 6 = .ok (.istore 5, 2) := fp_dk fp_hdX12_likes_105.1.2.1.1.2
theorem dX12_ringOf_8 : decode cX12_ringOf 8 = .ok (.iload 5, 2) := fp_dk fp_hdX12_likes_105.1.2.1.2.1
theorem dX12_ringOf_10 : decode cX12_ringOf 10 = .ok (.iconst 4, 1) := fp_dk fp_hdX12_likes_105.1.2.1.2.2
theorem dX12_ringOf_11 : decode cX12_ringOf 11 = .ok (.if_icmp .ge 33, 3) := fp_dk fp_hdX12_likes_105.1.2.2.1.1
theorem dX12_ringOf_14 : decode cX12_ringOf 14 = .ok (.aload_n 0, 1) := fp_dk fp_hdX12_likes_105.1.2.2.1.2
theorem dX12_ringOf_15 : decode cX12_ringOf 15 = .ok (.iload 4, 2) := fp_dk fp_hdX12_likes_105.1.2.2.2.1
theorem dX12_ringOf_17 : decode cX12_ringOf 17 = .ok (.iload_n 2, 1) := fp_dk fp_hdX12_likes_105.1.2.2.2.2
theorem dX12_ringOf_18 : decode cX12_ringOf 18 = .ok (.invokevirtual 318, 3) := fp_dk fp_hdX12_likes_105.2.1.1.1.1
theorem dX12_ringOf_21 : decode cX12_ringOf 21 = .ok (.istore 4, 2) := fp_dk fp_hdX12_likes_105.2.1.1.1.2
theorem dX12_ringOf_23 : decode cX12_ringOf 23 = .ok (.iload_n 3, 1) := fp_dk fp_hdX12_likes_105.2.1.1.2.1
theorem dX12_ringOf_24 : decode cX12_ringOf 24 = .ok (.iconst 1, 1) := fp_dk fp_hdX12_likes_105.2.1.1.2.2
theorem dX12_ringOf_25 : decode cX12_ringOf 25 = .ok (.iload 4, 2) := fp_dk fp_hdX12_likes_105.2.1.2.1.1
theorem dX12_ringOf_27 : decode cX12_ringOf 27 = .ok (.ishl, 1) := fp_dk fp_hdX12_likes_105.2.1.2.1.2
theorem dX12_ringOf_28 : decode cX12_ringOf 28 = .ok (.ior, 1) := fp_dk fp_hdX12_likes_105.2.1.2.2.1
theorem dX12_ringOf_29 : decode cX12_ringOf 29 = .ok (.istore_n 3, 1) := fp_dk fp_hdX12_likes_105.2.1.2.2.2
theorem dX12_ringOf_30 : decode cX12_ringOf 30 = .ok (.iload 4, 2) := fp_dk fp_hdX12_likes_105.2.2.1.1.1
theorem dX12_ringOf_32 : decode cX12_ringOf 32 = .ok (.iload_n 1, 1) := fp_dk fp_hdX12_likes_105.2.2.1.1.2
theorem dX12_ringOf_33 : decode cX12_ringOf 33 = .ok (.if_icmp .ne 5, 3) := fp_dk fp_hdX12_likes_105.2.2.1.2.1
theorem dX12_ringOf_36 : decode cX12_ringOf 36 = .ok (.iload_n 3, 1) := fp_dk fp_hdX12_likes_105.2.2.1.2.2
theorem dX12_ringOf_37 : decode cX12_ringOf 37 = .ok (.ireturn, 1) := fp_dk fp_hdX12_likes_105.2.2.2.1.1
theorem dX12_ringOf_38 : decode cX12_ringOf 38 = .ok (.iinc 5 1, 3) := fp_dk fp_hdX12_likes_105.2.2.2.1.2
theorem dX12_ringOf_41 : decode cX12_ringOf 41 = .ok (.goto (-33), 3) := fp_dk fp_hdX12_likes_105.2.2.2.2.1
theorem dX12_ringOf_44 : decode cX12_ringOf 44 = .ok (.iconst 0, 1) := fp_dk fp_hdX12_likes_105.2.2.2.2.2
theorem fp_hdX12_ringOf_45 : (((((fp_dq cX12_ringOf 45 (.ireturn, 1) = true ∧ fp_dq cX12_layRings 0 (.iconst 0, 1) = true) ∧ (fp_dq cX12_layRings 1 (.istore_n 1, 1) = true ∧ fp_dq cX12_layRings 2 (.iconst 0, 1) = true)) ∧ ((fp_dq cX12_layRings 3 (.istore_n 2, 1) = true ∧ fp_dq cX12_layRings 4 (.iload_n 2, 1) = true) ∧ (fp_dq cX12_layRings 5 (.iconst 4, 1) = true ∧ fp_dq cX12_layRings 6 (.if_icmp .ge 97, 3) = true))) ∧ (((fp_dq cX12_layRings 9 (.aload_n 0, 1) = true ∧ fp_dq cX12_layRings 10 (.getfield 69, 3) = true) ∧ (fp_dq cX12_layRings 13 (.iload_n 2, 1) = true ∧ fp_dq cX12_layRings 14 (.bipush (-4), 2) = true)) ∧ ((fp_dq cX12_layRings 16 (.iastore, 1) = true ∧ fp_dq cX12_layRings 17 (.aload_n 0, 1) = true) ∧ (fp_dq cX12_layRings 18 (.getfield 72, 3) = true ∧ fp_dq cX12_layRings 21 (.iload_n 2, 1) = true)))) ∧ ((((fp_dq cX12_layRings 22 (.bipush (-4), 2) = true ∧ fp_dq cX12_layRings 24 (.iastore, 1) = true) ∧ (fp_dq cX12_layRings 25 (.aload_n 0, 1) = true ∧ fp_dq cX12_layRings 26 (.getfield 75, 3) = true)) ∧ ((fp_dq cX12_layRings 29 (.iload_n 2, 1) = true ∧ fp_dq cX12_layRings 30 (.bipush (-4), 2) = true) ∧ (fp_dq cX12_layRings 32 (.iastore, 1) = true ∧ fp_dq cX12_layRings 33 (.aload_n 0, 1) = true))) ∧ (((fp_dq cX12_layRings 34 (.getfield 181, 3) = true ∧ fp_dq cX12_layRings 37 (.iconst 1, 1) = true) ∧ (fp_dq cX12_layRings 38 (.isub, 1) = true ∧ fp_dq cX12_layRings 39 (.istore_n 3, 1) = true)) ∧ ((fp_dq cX12_layRings 40 (.iload_n 3, 1) = true ∧ fp_dq cX12_layRings 41 (.ifCond .lt 35, 3) = true) ∧ (fp_dq cX12_layRings 44 (.aload_n 0, 1) = true ∧ fp_dq cX12_layRings 45 (.getfield 69, 3) = true))))) := by decide +kernel
theorem dX12_ringOf_45 : decode cX12_ringOf 45 = .ok (.ireturn, 1) := fp_dk fp_hdX12_ringOf_45.1.1.1.1.1
theorem dX12_layRings_0 : decode cX12_layRings 0 = .ok (.iconst 0, 1) := fp_dk fp_hdX12_ringOf_45.1.1.1.1.2
theorem dX12_layRings_1 : decode cX12_layRings 1 = .ok (.istore_n 1, 1) := fp_dk fp_hdX12_ringOf_45.1.1.1.2.1
theorem dX12_layRings_2 : decode cX12_layRings 2 = .ok (.iconst 0, 1) := fp_dk fp_hdX12_ringOf_45.1.1.1.2.2
theorem dX12_layRings_3 : decode cX12_layRings 3 = .ok (.istore_n 2, 1) := fp_dk fp_hdX12_ringOf_45.1.1.2.1.1
theorem dX12_layRings_4 : decode cX12_layRings 4 = .ok (.iload_n 2, 1) := fp_dk fp_hdX12_ringOf_45.1.1.2.1.2
theorem dX12_layRings_5 : decode cX12_layRings 5 = .ok (.iconst 4, 1) := fp_dk fp_hdX12_ringOf_45.1.1.2.2.1
theorem dX12_layRings_6 : decode cX12_layRings 6 = .ok (.if_icmp .ge 97, 3) := fp_dk fp_hdX12_ringOf_45.1.1.2.2.2
theorem dX12_layRings_9 : decode cX12_layRings 9 = .ok (.aload_n 0, 1) := fp_dk fp_hdX12_ringOf_45.1.2.1.1.1
theorem dX12_layRings_10 : decode cX12_layRings 10 = .ok (.getfield 69, 3) := fp_dk fp_hdX12_ringOf_45.1.2.1.1.2
theorem dX12_layRings_13 : decode cX12_layRings 13 = .ok (.iload_n 2, 1) := fp_dk fp_hdX12_ringOf_45.1.2.1.2.1
theorem dX12_layRings_14 : decode cX12_layRings 14 = .ok (.bipush (-4), 2) := fp_dk fp_hdX12_ringOf_45.1.2.1.2.2
theorem dX12_layRings_16 : decode cX12_layRings 16 = .ok (.iastore, 1) := fp_dk fp_hdX12_ringOf_45.1.2.2.1.1
theorem dX12_layRings_17 : decode cX12_layRings 17 = .ok (.aload_n 0, 1) := fp_dk fp_hdX12_ringOf_45.1.2.2.1.2
theorem dX12_layRings_18 : decode cX12_layRings 18 = .ok (.getfield 72, 3) := fp_dk fp_hdX12_ringOf_45.1.2.2.2.1
theorem dX12_layRings_21 : decode cX12_layRings 21 = .ok (.iload_n 2, 1) := fp_dk fp_hdX12_ringOf_45.1.2.2.2.2
theorem dX12_layRings_22 : decode cX12_layRings 22 = .ok (.bipush (-4), 2) := fp_dk fp_hdX12_ringOf_45.2.1.1.1.1
theorem dX12_layRings_24 : decode cX12_layRings 24 = .ok (.iastore, 1) := fp_dk fp_hdX12_ringOf_45.2.1.1.1.2
theorem dX12_layRings_25 : decode cX12_layRings 25 = .ok (.aload_n 0, 1) := fp_dk fp_hdX12_ringOf_45.2.1.1.2.1
theorem dX12_layRings_26 : decode cX12_layRings 26 = .ok (.getfield 75, 3) := fp_dk fp_hdX12_ringOf_45.2.1.1.2.2
theorem dX12_layRings_29 : decode cX12_layRings 29 = .ok (.iload_n 2, 1) := fp_dk fp_hdX12_ringOf_45.2.1.2.1.1
theorem dX12_layRings_30 : decode cX12_layRings 30 = .ok (.bipush (-4), 2) := fp_dk fp_hdX12_ringOf_45.2.1.2.1.2
theorem dX12_layRings_32 : decode cX12_layRings 32 = .ok (.iastore, 1) := fp_dk fp_hdX12_ringOf_45.2.1.2.2.1
theorem dX12_layRings_33 : decode cX12_layRings 33 = .ok (.aload_n 0, 1) := fp_dk fp_hdX12_ringOf_45.2.1.2.2.2
theorem dX12_layRings_34 : decode cX12_layRings 34 = .ok (.getfield 181, 3) := fp_dk fp_hdX12_ringOf_45.2.2.1.1.1
theorem dX12_layRings_37 : decode cX12_layRings 37 = .ok (.iconst 1, 1) := fp_dk fp_hdX12_ringOf_45.2.2.1.1.2
theorem dX12_layRings_38 : decode cX12_layRings 38 = .ok (.isub, 1) := fp_dk fp_hdX12_ringOf_45.2.2.1.2.1
theorem dX12_layRings_39 : decode cX12_layRings 39 = .ok (.istore_n 3, 1) := fp_dk fp_hdX12_ringOf_45.2.2.1.2.2
theorem dX12_layRings_40 : decode cX12_layRings 40 = .ok (.iload_n 3, 1) := fp_dk fp_hdX12_ringOf_45.2.2.2.1.1
theorem dX12_layRings_41 : decode cX12_layRings 41 = .ok (.ifCond .lt 35, 3) := fp_dk fp_hdX12_ringOf_45.2.2.2.1.2
theorem dX12_layRings_44 : decode cX12_layRings 44 = .ok (.aload_n 0, 1) := fp_dk fp_hdX12_ringOf_45.2.2.2.2.1
theorem dX12_layRings_45 : decode cX12_layRings 45 = .ok (.getfield 69, 3) := fp_dk fp_hdX12_ringOf_45.2.2.2.2.2
theorem fp_hdX12_layRings_48 : (((((fp_dq cX12_layRings 48 (.iload_n 2, 1) = true ∧ fp_dq cX12_layRings 49 (.aload_n 0, 1) = true) ∧ (fp_dq cX12_layRings 50 (.getfield 7, 3) = true ∧ fp_dq cX12_layRings 53 (.iload_n 3, 1) = true)) ∧ ((fp_dq cX12_layRings 54 (.iaload, 1) = true ∧ fp_dq cX12_layRings 55 (.iload_n 2, 1) = true) ∧ (fp_dq cX12_layRings 56 (.if_icmp .ne 7, 3) = true ∧ fp_dq cX12_layRings 59 (.iload_n 3, 1) = true))) ∧ (((fp_dq cX12_layRings 60 (.goto 9, 3) = true ∧ fp_dq cX12_layRings 63 (.aload_n 0, 1) = true) ∧ (fp_dq cX12_layRings 64 (.getfield 69, 3) = true ∧ fp_dq cX12_layRings 67 (.iload_n 2, 1) = true)) ∧ ((fp_dq cX12_layRings 68 (.iaload, 1) = true ∧ fp_dq cX12_layRings 69 (.iastore, 1) = true) ∧ (fp_dq cX12_layRings 70 (.iinc 3 (-1), 3) = true ∧ fp_dq cX12_layRings 73 (.goto (-33), 3) = true)))) ∧ ((((fp_dq cX12_layRings 76 (.iload_n 1, 1) = true ∧ fp_dq cX12_layRings 77 (.aload_n 0, 1) = true) ∧ (fp_dq cX12_layRings 78 (.getfield 69, 3) = true ∧ fp_dq cX12_layRings 81 (.iload_n 2, 1) = true)) ∧ ((fp_dq cX12_layRings 82 (.iaload, 1) = true ∧ fp_dq cX12_layRings 83 (.bipush (-4), 2) = true) ∧ (fp_dq cX12_layRings 85 (.if_icmp .ne 7, 3) = true ∧ fp_dq cX12_layRings 88 (.iconst 0, 1) = true))) ∧ (((fp_dq cX12_layRings 89 (.goto 6, 3) = true ∧ fp_dq cX12_layRings 92 (.iconst 1, 1) = true) ∧ (fp_dq cX12_layRings 93 (.iload_n 2, 1) = true ∧ fp_dq cX12_layRings 94 (.ishl, 1) = true)) ∧ ((fp_dq cX12_layRings 95 (.ior, 1) = true ∧ fp_dq cX12_layRings 96 (.istore_n 1, 1) = true) ∧ (fp_dq cX12_layRings 97 (.iinc 2 1, 3) = true ∧ fp_dq cX12_layRings 100 (.goto (-96), 3) = true))))) := by decide +kernel
theorem dX12_layRings_48 : decode cX12_layRings 48 = .ok (.iload_n 2, 1) := fp_dk fp_hdX12_layRings_48.1.1.1.1.1
theorem dX12_layRings_49 : decode cX12_layRings 49 = .ok (.aload_n 0, 1) := fp_dk fp_hdX12_layRings_48.1.1.1.1.2
theorem dX12_layRings_50 : decode cX12_layRings 50 = .ok (.getfield 7, 3) := fp_dk fp_hdX12_layRings_48.1.1.1.2.1
theorem dX12_layRings_53 : decode cX12_layRings 53 = .ok (.iload_n 3, 1) := fp_dk fp_hdX12_layRings_48.1.1.1.2.2
theorem dX12_layRings_54 : decode cX12_layRings 54 = .ok (.iaload, 1) := fp_dk fp_hdX12_layRings_48.1.1.2.1.1
theorem dX12_layRings_55 : decode cX12_layRings 55 = .ok (.iload_n 2, 1) := fp_dk fp_hdX12_layRings_48.1.1.2.1.2
theorem dX12_layRings_56 : decode cX12_layRings 56 = .ok (.if_icmp .ne 7, 3) := fp_dk fp_hdX12_layRings_48.1.1.2.2.1
theorem dX12_layRings_59 : decode cX12_layRings 59 = .ok (.iload_n 3, 1) := fp_dk fp_hdX12_layRings_48.1.1.2.2.2
theorem dX12_layRings_60 : decode cX12_layRings 60 = .ok (.goto 9, 3) := fp_dk fp_hdX12_layRings_48.1.2.1.1.1
theorem dX12_layRings_63 : decode cX12_layRings 63 = .ok (.aload_n 0, 1) := fp_dk fp_hdX12_layRings_48.1.2.1.1.2
theorem dX12_layRings_64 : decode cX12_layRings 64 = .ok (.getfield 69, 3) := fp_dk fp_hdX12_layRings_48.1.2.1.2.1
theorem dX12_layRings_67 : decode cX12_layRings 67 = .ok (.iload_n 2, 1) := fp_dk fp_hdX12_layRings_48.1.2.1.2.2
theorem dX12_layRings_68 : decode cX12_layRings 68 = .ok (.iaload, 1) := fp_dk fp_hdX12_layRings_48.1.2.2.1.1
theorem dX12_layRings_69 : decode cX12_layRings 69 = .ok (.iastore, 1) := fp_dk fp_hdX12_layRings_48.1.2.2.1.2
theorem dX12_layRings_70 : decode cX12_layRings 70 = .ok (.iinc 3 (-1), 3) := fp_dk fp_hdX12_layRings_48.1.2.2.2.1
theorem dX12_layRings_73 : decode cX12_layRings 73 = .ok (.goto (-33), 3) := fp_dk fp_hdX12_layRings_48.1.2.2.2.2
theorem dX12_layRings_76 : decode cX12_layRings 76 = .ok (.iload_n 1, 1) := fp_dk fp_hdX12_layRings_48.2.1.1.1.1
theorem dX12_layRings_77 : decode cX12_layRings 77 = .ok (.aload_n 0, 1) := fp_dk fp_hdX12_layRings_48.2.1.1.1.2
theorem dX12_layRings_78 : decode cX12_layRings 78 = .ok (.getfield 69, 3) := fp_dk fp_hdX12_layRings_48.2.1.1.2.1
theorem dX12_layRings_81 : decode cX12_layRings 81 = .ok (.iload_n 2, 1) := fp_dk fp_hdX12_layRings_48.2.1.1.2.2
theorem dX12_layRings_82 : decode cX12_layRings 82 = .ok (.iaload, 1) := fp_dk fp_hdX12_layRings_48.2.1.2.1.1
theorem dX12_layRings_83 : decode cX12_layRings 83 = .ok (.bipush (-4), 2) := fp_dk fp_hdX12_layRings_48.2.1.2.1.2
theorem dX12_layRings_85 : decode cX12_layRings 85 = .ok (.if_icmp .ne 7, 3) := fp_dk fp_hdX12_layRings_48.2.1.2.2.1
theorem dX12_layRings_88 : decode cX12_layRings 88 = .ok (.iconst 0, 1) := fp_dk fp_hdX12_layRings_48.2.1.2.2.2
theorem dX12_layRings_89 : decode cX12_layRings 89 = .ok (.goto 6, 3) := fp_dk fp_hdX12_layRings_48.2.2.1.1.1
theorem dX12_layRings_92 : decode cX12_layRings 92 = .ok (.iconst 1, 1) := fp_dk fp_hdX12_layRings_48.2.2.1.1.2
theorem dX12_layRings_93 : decode cX12_layRings 93 = .ok (.iload_n 2, 1) := fp_dk fp_hdX12_layRings_48.2.2.1.2.1
theorem dX12_layRings_94 : decode cX12_layRings 94 = .ok (.ishl, 1) := fp_dk fp_hdX12_layRings_48.2.2.1.2.2
theorem dX12_layRings_95 : decode cX12_layRings 95 = .ok (.ior, 1) := fp_dk fp_hdX12_layRings_48.2.2.2.1.1
theorem dX12_layRings_96 : decode cX12_layRings 96 = .ok (.istore_n 1, 1) := fp_dk fp_hdX12_layRings_48.2.2.2.1.2
theorem dX12_layRings_97 : decode cX12_layRings 97 = .ok (.iinc 2 1, 3) := fp_dk fp_hdX12_layRings_48.2.2.2.2.1
theorem dX12_layRings_100 : decode cX12_layRings 100 = .ok (.goto (-96), 3) := fp_dk fp_hdX12_layRings_48.2.2.2.2.2
theorem fp_hdX12_layRings_103 : (((((fp_dq cX12_layRings 103 (.iload_n 1, 1) = true ∧ fp_dq cX12_layRings 104 (.ifCond .eq 84, 3) = true) ∧ (fp_dq cX12_layRings 107 (.iconst 0, 1) = true ∧ fp_dq cX12_layRings 108 (.istore_n 2, 1) = true)) ∧ ((fp_dq cX12_layRings 109 (.iconst 0, 1) = true ∧ fp_dq cX12_layRings 110 (.istore_n 3, 1) = true) ∧ (fp_dq cX12_layRings 111 (.iload_n 3, 1) = true ∧ fp_dq cX12_layRings 112 (.iconst 4, 1) = true))) ∧ (((fp_dq cX12_layRings 113 (.if_icmp .ge 66, 3) = true ∧ fp_dq cX12_layRings 116 (.iload_n 1, 1) = true) ∧ (fp_dq cX12_layRings 117 (.iload_n 3, 1) = true ∧ fp_dq cX12_layRings 118 (.ishr, 1) = true)) ∧ ((fp_dq cX12_layRings 119 (.iconst 1, 1) = true ∧ fp_dq cX12_layRings 120 (.iand, 1) = true) ∧ (fp_dq cX12_layRings 121 (.iconst 1, 1) = true ∧ fp_dq cX12_layRings 122 (.if_icmp .ne 12, 3) = true)))) ∧ ((((fp_dq cX12_layRings 125 (.aload_n 0, 1) = true ∧ fp_dq cX12_layRings 126 (.iload_n 3, 1) = true) ∧ (fp_dq cX12_layRings 127 (.iload_n 1, 1) = true ∧ fp_dq cX12_layRings 128 (.invokevirtual 321, 3) = true)) ∧ ((fp_dq cX12_layRings 131 (.goto 4, 3) = true ∧ fp_dq cX12_layRings 134 (.iconst 0, 1) = true) ∧ (fp_dq cX12_layRings 135 (.istore 4, 2) = true ∧ fp_dq cX12_layRings 137 (.iload 4, 2) = true))) ∧ (((fp_dq cX12_layRings 139 (.ifCond .eq 34, 3) = true ∧ fp_dq cX12_layRings 142 (.iload_n 2, 1) = true) ∧ (fp_dq cX12_layRings 143 (.iconst 1, 1) = true ∧ fp_dq cX12_layRings 144 (.iload_n 3, 1) = true)) ∧ ((fp_dq cX12_layRings 145 (.ishl, 1) = true ∧ fp_dq cX12_layRings 146 (.ior, 1) = true) ∧ (fp_dq cX12_layRings 147 (.istore_n 2, 1) = true ∧ fp_dq cX12_layRings 148 (.aload_n 0, 1) = true))))) := by decide +kernel
theorem dX12_layRings_103 : decode cX12_layRings 103 = .ok (.iload_n 1, 1) := fp_dk fp_hdX12_layRings_103.1.1.1.1.1
theorem dX12_layRings_104 : decode cX12_layRings 104 = .ok (.ifCond .eq 84, 3) := fp_dk fp_hdX12_layRings_103.1.1.1.1.2
theorem dX12_layRings_107 : decode cX12_layRings 107 = .ok (.iconst 0, 1) := fp_dk fp_hdX12_layRings_103.1.1.1.2.1
theorem dX12_layRings_108 : decode cX12_layRings 108 = .ok (.istore_n 2, 1) := fp_dk fp_hdX12_layRings_103.1.1.1.2.2
theorem dX12_layRings_109 : decode cX12_layRings 109 = .ok (.iconst 0, 1) := fp_dk fp_hdX12_layRings_103.1.1.2.1.1
theorem dX12_layRings_110 : decode cX12_layRings 110 = .ok (.istore_n 3, 1) := fp_dk fp_hdX12_layRings_103.1.1.2.1.2
theorem dX12_layRings_111 : decode cX12_layRings 111 = .ok (.iload_n 3, 1) := fp_dk fp_hdX12_layRings_103.1.1.2.2.1
theorem dX12_layRings_112 : decode cX12_layRings 112 = .ok (.iconst 4, 1) := fp_dk fp_hdX12_layRings_103.1.1.2.2.2
theorem dX12_layRings_113 : decode cX12_layRings 113 = .ok (.if_icmp .ge 66, 3) := fp_dk fp_hdX12_layRings_103.1.2.1.1.1
theorem dX12_layRings_116 : decode cX12_layRings 116 = .ok (.iload_n 1, 1) := fp_dk fp_hdX12_layRings_103.1.2.1.1.2
theorem dX12_layRings_117 : decode cX12_layRings 117 = .ok (.iload_n 3, 1) := fp_dk fp_hdX12_layRings_103.1.2.1.2.1
theorem dX12_layRings_118 : decode cX12_layRings 118 = .ok (.ishr, 1) := fp_dk fp_hdX12_layRings_103.1.2.1.2.2
theorem dX12_layRings_119 : decode cX12_layRings 119 = .ok (.iconst 1, 1) := fp_dk fp_hdX12_layRings_103.1.2.2.1.1
theorem dX12_layRings_120 : decode cX12_layRings 120 = .ok (.iand, 1) := fp_dk fp_hdX12_layRings_103.1.2.2.1.2
theorem dX12_layRings_121 : decode cX12_layRings 121 = .ok (.iconst 1, 1) := fp_dk fp_hdX12_layRings_103.1.2.2.2.1
theorem dX12_layRings_122 : decode cX12_layRings 122 = .ok (.if_icmp .ne 12, 3) := fp_dk fp_hdX12_layRings_103.1.2.2.2.2
theorem dX12_layRings_125 : decode cX12_layRings 125 = .ok (.aload_n 0, 1) := fp_dk fp_hdX12_layRings_103.2.1.1.1.1
theorem dX12_layRings_126 : decode cX12_layRings 126 = .ok (.iload_n 3, 1) := fp_dk fp_hdX12_layRings_103.2.1.1.1.2
theorem dX12_layRings_127 : decode cX12_layRings 127 = .ok (.iload_n 1, 1) := fp_dk fp_hdX12_layRings_103.2.1.1.2.1
theorem dX12_layRings_128 : decode cX12_layRings 128 = .ok (.invokevirtual 321, 3) := fp_dk fp_hdX12_layRings_103.2.1.1.2.2
theorem dX12_layRings_131 : decode cX12_layRings 131 = .ok (.goto 4, 3) := fp_dk fp_hdX12_layRings_103.2.1.2.1.1
theorem dX12_layRings_134 : decode cX12_layRings 134 = .ok (.iconst 0, 1) := fp_dk fp_hdX12_layRings_103.2.1.2.1.2
theorem dX12_layRings_135 : decode cX12_layRings 135 = .ok (.istore 4, 2) := fp_dk fp_hdX12_layRings_103.2.1.2.2.1
theorem dX12_layRings_137 : decode cX12_layRings 137 = .ok (.iload 4, 2) := fp_dk fp_hdX12_layRings_103.2.1.2.2.2
theorem dX12_layRings_139 : decode cX12_layRings 139 = .ok (.ifCond .eq 34, 3) := fp_dk fp_hdX12_layRings_103.2.2.1.1.1
theorem dX12_layRings_142 : decode cX12_layRings 142 = .ok (.iload_n 2, 1) := fp_dk fp_hdX12_layRings_103.2.2.1.1.2
theorem dX12_layRings_143 : decode cX12_layRings 143 = .ok (.iconst 1, 1) := fp_dk fp_hdX12_layRings_103.2.2.1.2.1
theorem dX12_layRings_144 : decode cX12_layRings 144 = .ok (.iload_n 3, 1) := fp_dk fp_hdX12_layRings_103.2.2.1.2.2
theorem dX12_layRings_145 : decode cX12_layRings 145 = .ok (.ishl, 1) := fp_dk fp_hdX12_layRings_103.2.2.2.1.1
theorem dX12_layRings_146 : decode cX12_layRings 146 = .ok (.ior, 1) := fp_dk fp_hdX12_layRings_103.2.2.2.1.2
theorem dX12_layRings_147 : decode cX12_layRings 147 = .ok (.istore_n 2, 1) := fp_dk fp_hdX12_layRings_103.2.2.2.2.1
theorem dX12_layRings_148 : decode cX12_layRings 148 = .ok (.aload_n 0, 1) := fp_dk fp_hdX12_layRings_103.2.2.2.2.2
theorem fp_hdX12_layRings_149 : (((((fp_dq cX12_layRings 149 (.getfield 75, 3) = true ∧ fp_dq cX12_layRings 152 (.iload_n 3, 1) = true) ∧ (fp_dq cX12_layRings 153 (.iload 4, 2) = true ∧ fp_dq cX12_layRings 155 (.iastore, 1) = true)) ∧ ((fp_dq cX12_layRings 156 (.aload_n 0, 1) = true ∧ fp_dq cX12_layRings 157 (.getfield 72, 3) = true) ∧ (fp_dq cX12_layRings 160 (.iload_n 3, 1) = true ∧ fp_dq cX12_layRings 161 (.aload_n 0, 1) = true))) ∧ (((fp_dq cX12_layRings 162 (.getfield 69, 3) = true ∧ fp_dq cX12_layRings 165 (.aload_n 0, 1) = true) ∧ (fp_dq cX12_layRings 166 (.iload_n 3, 1) = true ∧ fp_dq cX12_layRings 167 (.iload_n 1, 1) = true)) ∧ ((fp_dq cX12_layRings 168 (.invokevirtual 318, 3) = true ∧ fp_dq cX12_layRings 171 (.iaload, 1) = true) ∧ (fp_dq cX12_layRings 172 (.iastore, 1) = true ∧ fp_dq cX12_layRings 173 (.iinc 3 1, 3) = true)))) ∧ ((((fp_dq cX12_layRings 176 (.goto (-65), 3) = true ∧ fp_dq cX12_layRings 179 (.iload_n 1, 1) = true) ∧ (fp_dq cX12_layRings 180 (.iload_n 2, 1) = true ∧ fp_dq cX12_layRings 181 (.iconst (-1), 1) = true)) ∧ ((fp_dq cX12_layRings 182 (.ixor, 1) = true ∧ fp_dq cX12_layRings 183 (.iand, 1) = true) ∧ (fp_dq cX12_layRings 184 (.istore_n 1, 1) = true ∧ fp_dq cX12_layRings 185 (.goto (-82), 3) = true))) ∧ (((fp_dq cX12_layRings 188 (.return_, 1) = true ∧ fp_dq cX12_ring 0 (.iload_n 1, 1) = true) ∧ (fp_dq cX12_ring 1 (.invokestatic 228, 3) = true ∧ fp_dq cX12_ring 4 (.ifCond .ne 5, 3) = true)) ∧ ((fp_dq cX12_ring 7 (.iconst (-1), 1) = true ∧ fp_dq cX12_ring 8 (.ireturn, 1) = true) ∧ (fp_dq cX12_ring 9 (.aload_n 0, 1) = true ∧ fp_dq cX12_ring 10 (.invokevirtual 324, 3) = true))))) := by decide +kernel
theorem dX12_layRings_149 : decode cX12_layRings 149 = .ok (.getfield 75, 3) := fp_dk fp_hdX12_layRings_149.1.1.1.1.1
theorem dX12_layRings_152 : decode cX12_layRings 152 = .ok (.iload_n 3, 1) := fp_dk fp_hdX12_layRings_149.1.1.1.1.2
theorem dX12_layRings_153 : decode cX12_layRings 153 = .ok (.iload 4, 2) := fp_dk fp_hdX12_layRings_149.1.1.1.2.1
theorem dX12_layRings_155 : decode cX12_layRings 155 = .ok (.iastore, 1) := fp_dk fp_hdX12_layRings_149.1.1.1.2.2
theorem dX12_layRings_156 : decode cX12_layRings 156 = .ok (.aload_n 0, 1) := fp_dk fp_hdX12_layRings_149.1.1.2.1.1
theorem dX12_layRings_157 : decode cX12_layRings 157 = .ok (.getfield 72, 3) := fp_dk fp_hdX12_layRings_149.1.1.2.1.2
theorem dX12_layRings_160 : decode cX12_layRings 160 = .ok (.iload_n 3, 1) := fp_dk fp_hdX12_layRings_149.1.1.2.2.1
theorem dX12_layRings_161 : decode cX12_layRings 161 = .ok (.aload_n 0, 1) := fp_dk fp_hdX12_layRings_149.1.1.2.2.2
theorem dX12_layRings_162 : decode cX12_layRings 162 = .ok (.getfield 69, 3) := fp_dk fp_hdX12_layRings_149.1.2.1.1.1
theorem dX12_layRings_165 : decode cX12_layRings 165 = .ok (.aload_n 0, 1) := fp_dk fp_hdX12_layRings_149.1.2.1.1.2
theorem dX12_layRings_166 : decode cX12_layRings 166 = .ok (.iload_n 3, 1) := fp_dk fp_hdX12_layRings_149.1.2.1.2.1
theorem dX12_layRings_167 : decode cX12_layRings 167 = .ok (.iload_n 1, 1) := fp_dk fp_hdX12_layRings_149.1.2.1.2.2
theorem dX12_layRings_168 : decode cX12_layRings 168 = .ok (.invokevirtual 318, 3) := fp_dk fp_hdX12_layRings_149.1.2.2.1.1
theorem dX12_layRings_171 : decode cX12_layRings 171 = .ok (.iaload, 1) := fp_dk fp_hdX12_layRings_149.1.2.2.1.2
theorem dX12_layRings_172 : decode cX12_layRings 172 = .ok (.iastore, 1) := fp_dk fp_hdX12_layRings_149.1.2.2.2.1
theorem dX12_layRings_173 : decode cX12_layRings 173 = .ok (.iinc 3 1, 3) := fp_dk fp_hdX12_layRings_149.1.2.2.2.2
theorem dX12_layRings_176 : decode cX12_layRings 176 = .ok (.goto (-65), 3) := fp_dk fp_hdX12_layRings_149.2.1.1.1.1
theorem dX12_layRings_179 : decode cX12_layRings 179 = .ok (.iload_n 1, 1) := fp_dk fp_hdX12_layRings_149.2.1.1.1.2
theorem dX12_layRings_180 : decode cX12_layRings 180 = .ok (.iload_n 2, 1) := fp_dk fp_hdX12_layRings_149.2.1.1.2.1
theorem dX12_layRings_181 : decode cX12_layRings 181 = .ok (.iconst (-1), 1) := fp_dk fp_hdX12_layRings_149.2.1.1.2.2
theorem dX12_layRings_182 : decode cX12_layRings 182 = .ok (.ixor, 1) := fp_dk fp_hdX12_layRings_149.2.1.2.1.1
theorem dX12_layRings_183 : decode cX12_layRings 183 = .ok (.iand, 1) := fp_dk fp_hdX12_layRings_149.2.1.2.1.2
theorem dX12_layRings_184 : decode cX12_layRings 184 = .ok (.istore_n 1, 1) := fp_dk fp_hdX12_layRings_149.2.1.2.2.1
theorem dX12_layRings_185 : decode cX12_layRings 185 = .ok (.goto (-82), 3) := fp_dk fp_hdX12_layRings_149.2.1.2.2.2
theorem dX12_layRings_188 : decode cX12_layRings 188 = .ok (.return_, 1) := fp_dk fp_hdX12_layRings_149.2.2.1.1.1
theorem dX12_ring_0 : decode cX12_ring 0 = .ok (.iload_n 1, 1) := fp_dk fp_hdX12_layRings_149.2.2.1.1.2
theorem dX12_ring_1 : decode cX12_ring 1 = .ok (.invokestatic 228, 3) := fp_dk fp_hdX12_layRings_149.2.2.1.2.1
theorem dX12_ring_4 : decode cX12_ring 4 = .ok (.ifCond .ne 5, 3) := fp_dk fp_hdX12_layRings_149.2.2.1.2.2
theorem dX12_ring_7 : decode cX12_ring 7 = .ok (.iconst (-1), 1) := fp_dk fp_hdX12_layRings_149.2.2.2.1.1
theorem dX12_ring_8 : decode cX12_ring 8 = .ok (.ireturn, 1) := fp_dk fp_hdX12_layRings_149.2.2.2.1.2
theorem dX12_ring_9 : decode cX12_ring 9 = .ok (.aload_n 0, 1) := fp_dk fp_hdX12_layRings_149.2.2.2.2.1
theorem dX12_ring_10 : decode cX12_ring 10 = .ok (.invokevirtual 324, 3) := fp_dk fp_hdX12_layRings_149.2.2.2.2.2
theorem fp_hdX12_ring_13 : (((((fp_dq cX12_ring 13 (.aload_n 0, 1) = true ∧ fp_dq cX12_ring 14 (.getfield 72, 3) = true) ∧ (fp_dq cX12_ring 17 (.iload_n 1, 1) = true ∧ fp_dq cX12_ring 18 (.iaload, 1) = true)) ∧ ((fp_dq cX12_ring 19 (.ireturn, 1) = true ∧ fp_dq cX12_with 0 (.iload_n 1, 1) = true) ∧ (fp_dq cX12_with 1 (.invokestatic 228, 3) = true ∧ fp_dq cX12_with 4 (.ifCond .ne 5, 3) = true))) ∧ (((fp_dq cX12_with 7 (.iconst (-1), 1) = true ∧ fp_dq cX12_with 8 (.ireturn, 1) = true) ∧ (fp_dq cX12_with 9 (.aload_n 0, 1) = true ∧ fp_dq cX12_with 10 (.invokevirtual 324, 3) = true)) ∧ ((fp_dq cX12_with 13 (.aload_n 0, 1) = true ∧ fp_dq cX12_with 14 (.getfield 75, 3) = true) ∧ (fp_dq cX12_with 17 (.iload_n 1, 1) = true ∧ fp_dq cX12_with 18 (.iaload, 1) = true)))) ∧ ((((fp_dq cX12_with 19 (.ireturn, 1) = true ∧ fp_dq cX12_join 0 (.iload_n 1, 1) = true) ∧ (fp_dq cX12_join 1 (.invokestatic 228, 3) = true ∧ fp_dq cX12_join 4 (.ifCond .ne 5, 3) = true)) ∧ ((fp_dq cX12_join 7 (.iconst (-1), 1) = true ∧ fp_dq cX12_join 8 (.ireturn, 1) = true) ∧ (fp_dq cX12_join 9 (.bipush (-4), 2) = true ∧ fp_dq cX12_join 11 (.istore_n 2, 1) = true))) ∧ (((fp_dq cX12_join 12 (.bipush (-4), 2) = true ∧ fp_dq cX12_join 14 (.istore_n 3, 1) = true) ∧ (fp_dq cX12_join 15 (.iconst 0, 1) = true ∧ fp_dq cX12_join 16 (.istore 4, 2) = true)) ∧ ((fp_dq cX12_join 18 (.iload 4, 2) = true ∧ fp_dq cX12_join 20 (.aload_n 0, 1) = true) ∧ (fp_dq cX12_join 21 (.getfield 184, 3) = true ∧ fp_dq cX12_join 24 (.if_icmp .ge 69, 3) = true))))) := by decide +kernel
theorem dX12_ring_13 : decode cX12_ring 13 = .ok (.aload_n 0, 1) := fp_dk fp_hdX12_ring_13.1.1.1.1.1
theorem dX12_ring_14 : decode cX12_ring 14 = .ok (.getfield 72, 3) := fp_dk fp_hdX12_ring_13.1.1.1.1.2
theorem dX12_ring_17 : decode cX12_ring 17 = .ok (.iload_n 1, 1) := fp_dk fp_hdX12_ring_13.1.1.1.2.1
theorem dX12_ring_18 : decode cX12_ring 18 = .ok (.iaload, 1) := fp_dk fp_hdX12_ring_13.1.1.1.2.2
theorem dX12_ring_19 : decode cX12_ring 19 = .ok (.ireturn, 1) := fp_dk fp_hdX12_ring_13.1.1.2.1.1
theorem dX12_with_0 : decode cX12_with 0 = .ok (.iload_n 1, 1) := fp_dk fp_hdX12_ring_13.1.1.2.1.2
theorem dX12_with_1 : decode cX12_with 1 = .ok (.invokestatic 228, 3) := fp_dk fp_hdX12_ring_13.1.1.2.2.1
theorem dX12_with_4 : decode cX12_with 4 = .ok (.ifCond .ne 5, 3) := fp_dk fp_hdX12_ring_13.1.1.2.2.2
theorem dX12_with_7 : decode cX12_with 7 = .ok (.iconst (-1), 1) := fp_dk fp_hdX12_ring_13.1.2.1.1.1
theorem dX12_with_8 : decode cX12_with 8 = .ok (.ireturn, 1) := fp_dk fp_hdX12_ring_13.1.2.1.1.2
theorem dX12_with_9 : decode cX12_with 9 = .ok (.aload_n 0, 1) := fp_dk fp_hdX12_ring_13.1.2.1.2.1
theorem dX12_with_10 : decode cX12_with 10 = .ok (.invokevirtual 324, 3) := fp_dk fp_hdX12_ring_13.1.2.1.2.2
theorem dX12_with_13 : decode cX12_with 13 = .ok (.aload_n 0, 1) := fp_dk fp_hdX12_ring_13.1.2.2.1.1
theorem dX12_with_14 : decode cX12_with 14 = .ok (.getfield 75, 3) := fp_dk fp_hdX12_ring_13.1.2.2.1.2
theorem dX12_with_17 : decode cX12_with 17 = .ok (.iload_n 1, 1) := fp_dk fp_hdX12_ring_13.1.2.2.2.1
theorem dX12_with_18 : decode cX12_with 18 = .ok (.iaload, 1) := fp_dk fp_hdX12_ring_13.1.2.2.2.2
theorem dX12_with_19 : decode cX12_with 19 = .ok (.ireturn, 1) := fp_dk fp_hdX12_ring_13.2.1.1.1.1
theorem dX12_join_0 : decode cX12_join 0 = .ok (.iload_n 1, 1) := fp_dk fp_hdX12_ring_13.2.1.1.1.2
theorem dX12_join_1 : decode cX12_join 1 = .ok (.invokestatic 228, 3) := fp_dk fp_hdX12_ring_13.2.1.1.2.1
theorem dX12_join_4 : decode cX12_join 4 = .ok (.ifCond .ne 5, 3) := fp_dk fp_hdX12_ring_13.2.1.1.2.2
theorem dX12_join_7 : decode cX12_join 7 = .ok (.iconst (-1), 1) := fp_dk fp_hdX12_ring_13.2.1.2.1.1
theorem dX12_join_8 : decode cX12_join 8 = .ok (.ireturn, 1) := fp_dk fp_hdX12_ring_13.2.1.2.1.2
theorem dX12_join_9 : decode cX12_join 9 = .ok (.bipush (-4), 2) := fp_dk fp_hdX12_ring_13.2.1.2.2.1
theorem dX12_join_11 : decode cX12_join 11 = .ok (.istore_n 2, 1) := fp_dk fp_hdX12_ring_13.2.1.2.2.2
theorem dX12_join_12 : decode cX12_join 12 = .ok (.bipush (-4), 2) := fp_dk fp_hdX12_ring_13.2.2.1.1.1
theorem dX12_join_14 : decode cX12_join 14 = .ok (.istore_n 3, 1) := fp_dk fp_hdX12_ring_13.2.2.1.1.2
theorem dX12_join_15 : decode cX12_join 15 = .ok (.iconst 0, 1) := fp_dk fp_hdX12_ring_13.2.2.1.2.1
theorem dX12_join_16 : decode cX12_join 16 = .ok (.istore 4, 2) := fp_dk fp_hdX12_ring_13.2.2.1.2.2
theorem dX12_join_18 : decode cX12_join 18 = .ok (.iload 4, 2) := fp_dk fp_hdX12_ring_13.2.2.2.1.1
theorem dX12_join_20 : decode cX12_join 20 = .ok (.aload_n 0, 1) := fp_dk fp_hdX12_ring_13.2.2.2.1.2
theorem dX12_join_21 : decode cX12_join 21 = .ok (.getfield 184, 3) := fp_dk fp_hdX12_ring_13.2.2.2.2.1
theorem dX12_join_24 : decode cX12_join 24 = .ok (.if_icmp .ge 69, 3) := fp_dk fp_hdX12_ring_13.2.2.2.2.2
theorem fp_hdX12_join_27 : (((((fp_dq cX12_join 27 (.aload_n 0, 1) = true ∧ fp_dq cX12_join 28 (.iconst 0, 1) = true) ∧ (fp_dq cX12_join 29 (.iload 4, 2) = true ∧ fp_dq cX12_join 31 (.invokevirtual 222, 3) = true)) ∧ ((fp_dq cX12_join 34 (.istore 5, 2) = true ∧ fp_dq cX12_join 36 (.iload 5, 2) = true) ∧ (fp_dq cX12_join 38 (.bipush (-4), 2) = true ∧ fp_dq cX12_join 40 (.if_icmp .ne 8, 3) = true))) ∧ (((fp_dq cX12_join 43 (.bipush (-4), 2) = true ∧ fp_dq cX12_join 45 (.goto 14, 3) = true) ∧ (fp_dq cX12_join 48 (.aload_n 0, 1) = true ∧ fp_dq cX12_join 49 (.getfield 16, 3) = true)) ∧ ((fp_dq cX12_join 52 (.iconst 4, 1) = true ∧ fp_dq cX12_join 53 (.iload 5, 2) = true) ∧ (fp_dq cX12_join 55 (.imul, 1) = true ∧ fp_dq cX12_join 56 (.iload_n 1, 1) = true)))) ∧ ((((fp_dq cX12_join 57 (.iadd, 1) = true ∧ fp_dq cX12_join 58 (.iaload, 1) = true) ∧ (fp_dq cX12_join 59 (.istore 6, 2) = true ∧ fp_dq cX12_join 61 (.iload 6, 2) = true)) ∧ ((fp_dq cX12_join 63 (.iload_n 3, 1) = true ∧ fp_dq cX12_join 64 (.if_icmp .le 8, 3) = true) ∧ (fp_dq cX12_join 67 (.iload 4, 2) = true ∧ fp_dq cX12_join 69 (.goto 4, 3) = true))) ∧ (((fp_dq cX12_join 72 (.iload_n 2, 1) = true ∧ fp_dq cX12_join 73 (.istore_n 2, 1) = true) ∧ (fp_dq cX12_join 74 (.iload 6, 2) = true ∧ fp_dq cX12_join 76 (.iload_n 3, 1) = true)) ∧ ((fp_dq cX12_join 77 (.if_icmp .le 8, 3) = true ∧ fp_dq cX12_join 80 (.iload 6, 2) = true) ∧ (fp_dq cX12_join 82 (.goto 4, 3) = true ∧ fp_dq cX12_join 85 (.iload_n 3, 1) = true))))) := by decide +kernel
theorem dX12_join_27 : decode cX12_join 27 = .ok (.aload_n 0, 1) := fp_dk fp_hdX12_join_27.1.1.1.1.1
theorem dX12_join_28 : decode cX12_join 28 = .ok (.iconst 0, 1) := fp_dk fp_hdX12_join_27.1.1.1.1.2
theorem dX12_join_29 : decode cX12_join 29 = .ok (.iload 4, 2) := fp_dk fp_hdX12_join_27.1.1.1.2.1
theorem dX12_join_31 : decode cX12_join 31 = .ok (.invokevirtual 222, 3) := fp_dk fp_hdX12_join_27.1.1.1.2.2
theorem dX12_join_34 : decode cX12_join 34 = .ok (.istore 5, 2) := fp_dk fp_hdX12_join_27.1.1.2.1.1
theorem dX12_join_36 : decode cX12_join 36 = .ok (.iload 5, 2) := fp_dk fp_hdX12_join_27.1.1.2.1.2
theorem dX12_join_38 : decode cX12_join 38 = .ok (.bipush (-4), 2) := fp_dk fp_hdX12_join_27.1.1.2.2.1
theorem dX12_join_40 : decode cX12_join 40 = .ok (.if_icmp .ne 8, 3) := fp_dk fp_hdX12_join_27.1.1.2.2.2
theorem dX12_join_43 : decode cX12_join 43 = .ok (.bipush (-4), 2) := fp_dk fp_hdX12_join_27.1.2.1.1.1
theorem dX12_join_45 : decode cX12_join 45 = .ok (.goto 14, 3) := fp_dk fp_hdX12_join_27.1.2.1.1.2
theorem dX12_join_48 : decode cX12_join 48 = .ok (.aload_n 0, 1) := fp_dk fp_hdX12_join_27.1.2.1.2.1
theorem dX12_join_49 : decode cX12_join 49 = .ok (.getfield 16, 3) := fp_dk fp_hdX12_join_27.1.2.1.2.2
theorem dX12_join_52 : decode cX12_join 52 = .ok (.iconst 4, 1) := fp_dk fp_hdX12_join_27.1.2.2.1.1
theorem dX12_join_53 : decode cX12_join 53 = .ok (.iload 5, 2) := fp_dk fp_hdX12_join_27.1.2.2.1.2
theorem dX12_join_55 : decode cX12_join 55 = .ok (.imul, 1) := fp_dk fp_hdX12_join_27.1.2.2.2.1
theorem dX12_join_56 : decode cX12_join 56 = .ok (.iload_n 1, 1) := fp_dk fp_hdX12_join_27.1.2.2.2.2
theorem dX12_join_57 : decode cX12_join 57 = .ok (.iadd, 1) := fp_dk fp_hdX12_join_27.2.1.1.1.1
theorem dX12_join_58 : decode cX12_join 58 = .ok (.iaload, 1) := fp_dk fp_hdX12_join_27.2.1.1.1.2
theorem dX12_join_59 : decode cX12_join 59 = .ok (.istore 6, 2) := fp_dk fp_hdX12_join_27.2.1.1.2.1
theorem dX12_join_61 : decode cX12_join 61 = .ok (.iload 6, 2) := fp_dk fp_hdX12_join_27.2.1.1.2.2
theorem dX12_join_63 : decode cX12_join 63 = .ok (.iload_n 3, 1) := fp_dk fp_hdX12_join_27.2.1.2.1.1
theorem dX12_join_64 : decode cX12_join 64 = .ok (.if_icmp .le 8, 3) := fp_dk fp_hdX12_join_27.2.1.2.1.2
theorem dX12_join_67 : decode cX12_join 67 = .ok (.iload 4, 2) := fp_dk fp_hdX12_join_27.2.1.2.2.1
theorem dX12_join_69 : decode cX12_join 69 = .ok (.goto 4, 3) := fp_dk fp_hdX12_join_27.2.1.2.2.2
theorem dX12_join_72 : decode cX12_join 72 = .ok (.iload_n 2, 1) := fp_dk fp_hdX12_join_27.2.2.1.1.1
theorem dX12_join_73 : decode cX12_join 73 = .ok (.istore_n 2, 1) := fp_dk fp_hdX12_join_27.2.2.1.1.2
theorem dX12_join_74 : decode cX12_join 74 = .ok (.iload 6, 2) := fp_dk fp_hdX12_join_27.2.2.1.2.1
theorem dX12_join_76 : decode cX12_join 76 = .ok (.iload_n 3, 1) := fp_dk fp_hdX12_join_27.2.2.1.2.2
theorem dX12_join_77 : decode cX12_join 77 = .ok (.if_icmp .le 8, 3) := fp_dk fp_hdX12_join_27.2.2.2.1.1
theorem dX12_join_80 : decode cX12_join 80 = .ok (.iload 6, 2) := fp_dk fp_hdX12_join_27.2.2.2.1.2
theorem dX12_join_82 : decode cX12_join 82 = .ok (.goto 4, 3) := fp_dk fp_hdX12_join_27.2.2.2.2.1
theorem dX12_join_85 : decode cX12_join 85 = .ok (.iload_n 3, 1) := fp_dk fp_hdX12_join_27.2.2.2.2.2
theorem fp_hdX12_join_86 : (((((fp_dq cX12_join 86 (.istore_n 3, 1) = true ∧ fp_dq cX12_join 87 (.iinc 4 1, 3) = true) ∧ (fp_dq cX12_join 90 (.goto (-72), 3) = true ∧ fp_dq cX12_join 93 (.iload_n 2, 1) = true)) ∧ ((fp_dq cX12_join 94 (.ireturn, 1) = true ∧ fp_dq cX12_copiesAll 0 (.iconst 0, 1) = true) ∧ (fp_dq cX12_copiesAll 1 (.istore_n 3, 1) = true ∧ fp_dq cX12_copiesAll 2 (.iload_n 3, 1) = true))) ∧ (((fp_dq cX12_copiesAll 3 (.bipush 120, 2) = true ∧ fp_dq cX12_copiesAll 5 (.if_icmp .ge 25, 3) = true) ∧ (fp_dq cX12_copiesAll 8 (.aload_n 0, 1) = true ∧ fp_dq cX12_copiesAll 9 (.getfield 7, 3) = true)) ∧ ((fp_dq cX12_copiesAll 12 (.iload_n 2, 1) = true ∧ fp_dq cX12_copiesAll 13 (.iload_n 3, 1) = true) ∧ (fp_dq cX12_copiesAll 14 (.iadd, 1) = true ∧ fp_dq cX12_copiesAll 15 (.aload_n 0, 1) = true)))) ∧ ((((fp_dq cX12_copiesAll 16 (.getfield 7, 3) = true ∧ fp_dq cX12_copiesAll 19 (.iload_n 1, 1) = true) ∧ (fp_dq cX12_copiesAll 20 (.iload_n 3, 1) = true ∧ fp_dq cX12_copiesAll 21 (.iadd, 1) = true)) ∧ ((fp_dq cX12_copiesAll 22 (.iaload, 1) = true ∧ fp_dq cX12_copiesAll 23 (.iastore, 1) = true) ∧ (fp_dq cX12_copiesAll 24 (.iinc 3 1, 3) = true ∧ fp_dq cX12_copiesAll 27 (.goto (-25), 3) = true))) ∧ (((fp_dq cX12_copiesAll 30 (.return_, 1) = true ∧ fp_dq cX12_keep 0 (.iload_n 1, 1) = true) ∧ (fp_dq cX12_keep 1 (.i2l, 1) = true ∧ fp_dq cX12_keep 2 (.lconst 0, 1) = true)) ∧ ((fp_dq cX12_keep 3 (.lconst 1, 1) = true ∧ fp_dq cX12_keep 4 (.invokestatic 94, 3) = true) ∧ (fp_dq cX12_keep 7 (.ifCond .ne 5, 3) = true ∧ fp_dq cX12_keep 10 (.iconst (-1), 1) = true))))) := by decide +kernel
theorem dX12_join_86 : decode cX12_join 86 = .ok (.istore_n 3, 1) := fp_dk fp_hdX12_join_86.1.1.1.1.1
theorem dX12_join_87 : decode cX12_join 87 = .ok (.iinc 4 1, 3) := fp_dk fp_hdX12_join_86.1.1.1.1.2
theorem dX12_join_90 : decode cX12_join 90 = .ok (.goto (-72), 3) := fp_dk fp_hdX12_join_86.1.1.1.2.1
theorem dX12_join_93 : decode cX12_join 93 = .ok (.iload_n 2, 1) := fp_dk fp_hdX12_join_86.1.1.1.2.2
theorem dX12_join_94 : decode cX12_join 94 = .ok (.ireturn, 1) := fp_dk fp_hdX12_join_86.1.1.2.1.1
theorem dX12_copiesAll_0 : decode cX12_copiesAll 0 = .ok (.iconst 0, 1) := fp_dk fp_hdX12_join_86.1.1.2.1.2
theorem dX12_copiesAll_1 : decode cX12_copiesAll 1 = .ok (.istore_n 3, 1) := fp_dk fp_hdX12_join_86.1.1.2.2.1
theorem dX12_copiesAll_2 : decode cX12_copiesAll 2 = .ok (.iload_n 3, 1) := fp_dk fp_hdX12_join_86.1.1.2.2.2
theorem dX12_copiesAll_3 : decode cX12_copiesAll 3 = .ok (.bipush 120, 2) := fp_dk fp_hdX12_join_86.1.2.1.1.1
theorem dX12_copiesAll_5 : decode cX12_copiesAll 5 = .ok (.if_icmp .ge 25, 3) := fp_dk fp_hdX12_join_86.1.2.1.1.2
theorem dX12_copiesAll_8 : decode cX12_copiesAll 8 = .ok (.aload_n 0, 1) := fp_dk fp_hdX12_join_86.1.2.1.2.1
theorem dX12_copiesAll_9 : decode cX12_copiesAll 9 = .ok (.getfield 7, 3) := fp_dk fp_hdX12_join_86.1.2.1.2.2
theorem dX12_copiesAll_12 : decode cX12_copiesAll 12 = .ok (.iload_n 2, 1) := fp_dk fp_hdX12_join_86.1.2.2.1.1
theorem dX12_copiesAll_13 : decode cX12_copiesAll 13 = .ok (.iload_n 3, 1) := fp_dk fp_hdX12_join_86.1.2.2.1.2
theorem dX12_copiesAll_14 : decode cX12_copiesAll 14 = .ok (.iadd, 1) := fp_dk fp_hdX12_join_86.1.2.2.2.1
theorem dX12_copiesAll_15 : decode cX12_copiesAll 15 = .ok (.aload_n 0, 1) := fp_dk fp_hdX12_join_86.1.2.2.2.2
theorem dX12_copiesAll_16 : decode cX12_copiesAll 16 = .ok (.getfield 7, 3) := fp_dk fp_hdX12_join_86.2.1.1.1.1
theorem dX12_copiesAll_19 : decode cX12_copiesAll 19 = .ok (.iload_n 1, 1) := fp_dk fp_hdX12_join_86.2.1.1.1.2
theorem dX12_copiesAll_20 : decode cX12_copiesAll 20 = .ok (.iload_n 3, 1) := fp_dk fp_hdX12_join_86.2.1.1.2.1
theorem dX12_copiesAll_21 : decode cX12_copiesAll 21 = .ok (.iadd, 1) := fp_dk fp_hdX12_join_86.2.1.1.2.2
theorem dX12_copiesAll_22 : decode cX12_copiesAll 22 = .ok (.iaload, 1) := fp_dk fp_hdX12_join_86.2.1.2.1.1
theorem dX12_copiesAll_23 : decode cX12_copiesAll 23 = .ok (.iastore, 1) := fp_dk fp_hdX12_join_86.2.1.2.1.2
theorem dX12_copiesAll_24 : decode cX12_copiesAll 24 = .ok (.iinc 3 1, 3) := fp_dk fp_hdX12_join_86.2.1.2.2.1
theorem dX12_copiesAll_27 : decode cX12_copiesAll 27 = .ok (.goto (-25), 3) := fp_dk fp_hdX12_join_86.2.1.2.2.2
theorem dX12_copiesAll_30 : decode cX12_copiesAll 30 = .ok (.return_, 1) := fp_dk fp_hdX12_join_86.2.2.1.1.1
theorem dX12_keep_0 : decode cX12_keep 0 = .ok (.iload_n 1, 1) := fp_dk fp_hdX12_join_86.2.2.1.1.2
theorem dX12_keep_1 : decode cX12_keep 1 = .ok (.i2l, 1) := fp_dk fp_hdX12_join_86.2.2.1.2.1
theorem dX12_keep_2 : decode cX12_keep 2 = .ok (.lconst 0, 1) := fp_dk fp_hdX12_join_86.2.2.1.2.2
theorem dX12_keep_3 : decode cX12_keep 3 = .ok (.lconst 1, 1) := fp_dk fp_hdX12_join_86.2.2.2.1.1
theorem dX12_keep_4 : decode cX12_keep 4 = .ok (.invokestatic 94, 3) := fp_dk fp_hdX12_join_86.2.2.2.1.2
theorem dX12_keep_7 : decode cX12_keep 7 = .ok (.ifCond .ne 5, 3) := fp_dk fp_hdX12_join_86.2.2.2.2.1
theorem dX12_keep_10 : decode cX12_keep 10 = .ok (.iconst (-1), 1) := fp_dk fp_hdX12_join_86.2.2.2.2.2
theorem fp_hdX12_keep_11 : (((((fp_dq cX12_keep 11 (.ireturn, 1) = true ∧ fp_dq cX12_keep 12 (.aload_n 0, 1) = true) ∧ (fp_dq cX12_keep 13 (.iconst 0, 1) = true ∧ fp_dq cX12_keep 14 (.bipush 120, 2) = true)) ∧ ((fp_dq cX12_keep 16 (.iload_n 1, 1) = true ∧ fp_dq cX12_keep 17 (.iconst 1, 1) = true) ∧ (fp_dq cX12_keep 18 (.iadd, 1) = true ∧ fp_dq cX12_keep 19 (.imul, 1) = true))) ∧ (((fp_dq cX12_keep 20 (.invokevirtual 327, 3) = true ∧ fp_dq cX12_keep 23 (.aload_n 0, 1) = true) ∧ (fp_dq cX12_keep 24 (.getfield 78, 3) = true ∧ fp_dq cX12_keep 27 (.iload_n 1, 1) = true)) ∧ ((fp_dq cX12_keep 28 (.baload, 1) = true ∧ fp_dq cX12_keep 29 (.ifCond .eq 7, 3) = true) ∧ (fp_dq cX12_keep 32 (.iconst 1, 1) = true ∧ fp_dq cX12_keep 33 (.goto 4, 3) = true)))) ∧ ((((fp_dq cX12_keep 36 (.iconst 0, 1) = true ∧ fp_dq cX12_keep 37 (.istore_n 2, 1) = true) ∧ (fp_dq cX12_keep 38 (.aload_n 0, 1) = true ∧ fp_dq cX12_keep 39 (.getfield 78, 3) = true)) ∧ ((fp_dq cX12_keep 42 (.iload_n 1, 1) = true ∧ fp_dq cX12_keep 43 (.iconst 1, 1) = true) ∧ (fp_dq cX12_keep 44 (.bastore, 1) = true ∧ fp_dq cX12_keep 45 (.iload_n 2, 1) = true))) ∧ (((fp_dq cX12_keep 46 (.ireturn, 1) = true ∧ fp_dq cX12_back 0 (.iload_n 1, 1) = true) ∧ (fp_dq cX12_back 1 (.i2l, 1) = true ∧ fp_dq cX12_back 2 (.lconst 0, 1) = true)) ∧ ((fp_dq cX12_back 3 (.lconst 1, 1) = true ∧ fp_dq cX12_back 4 (.invokestatic 94, 3) = true) ∧ (fp_dq cX12_back 7 (.ifCond .ne 5, 3) = true ∧ fp_dq cX12_back 10 (.iconst (-1), 1) = true))))) := by decide +kernel
theorem dX12_keep_11 : decode cX12_keep 11 = .ok (.ireturn, 1) := fp_dk fp_hdX12_keep_11.1.1.1.1.1
theorem dX12_keep_12 : decode cX12_keep 12 = .ok (.aload_n 0, 1) := fp_dk fp_hdX12_keep_11.1.1.1.1.2
theorem dX12_keep_13 : decode cX12_keep 13 = .ok (.iconst 0, 1) := fp_dk fp_hdX12_keep_11.1.1.1.2.1
theorem dX12_keep_14 : decode cX12_keep 14 = .ok (.bipush 120, 2) := fp_dk fp_hdX12_keep_11.1.1.1.2.2
theorem dX12_keep_16 : decode cX12_keep 16 = .ok (.iload_n 1, 1) := fp_dk fp_hdX12_keep_11.1.1.2.1.1
theorem dX12_keep_17 : decode cX12_keep 17 = .ok (.iconst 1, 1) := fp_dk fp_hdX12_keep_11.1.1.2.1.2
theorem dX12_keep_18 : decode cX12_keep 18 = .ok (.iadd, 1) := fp_dk fp_hdX12_keep_11.1.1.2.2.1
theorem dX12_keep_19 : decode cX12_keep 19 = .ok (.imul, 1) := fp_dk fp_hdX12_keep_11.1.1.2.2.2
theorem dX12_keep_20 : decode cX12_keep 20 = .ok (.invokevirtual 327, 3) := fp_dk fp_hdX12_keep_11.1.2.1.1.1
theorem dX12_keep_23 : decode cX12_keep 23 = .ok (.aload_n 0, 1) := fp_dk fp_hdX12_keep_11.1.2.1.1.2
theorem dX12_keep_24 : decode cX12_keep 24 = .ok (.getfield 78, 3) := fp_dk fp_hdX12_keep_11.1.2.1.2.1
theorem dX12_keep_27 : decode cX12_keep 27 = .ok (.iload_n 1, 1) := fp_dk fp_hdX12_keep_11.1.2.1.2.2
theorem dX12_keep_28 : decode cX12_keep 28 = .ok (.baload, 1) := fp_dk fp_hdX12_keep_11.1.2.2.1.1
theorem dX12_keep_29 : decode cX12_keep 29 = .ok (.ifCond .eq 7, 3) := fp_dk fp_hdX12_keep_11.1.2.2.1.2
theorem dX12_keep_32 : decode cX12_keep 32 = .ok (.iconst 1, 1) := fp_dk fp_hdX12_keep_11.1.2.2.2.1
theorem dX12_keep_33 : decode cX12_keep 33 = .ok (.goto 4, 3) := fp_dk fp_hdX12_keep_11.1.2.2.2.2
theorem dX12_keep_36 : decode cX12_keep 36 = .ok (.iconst 0, 1) := fp_dk fp_hdX12_keep_11.2.1.1.1.1
theorem dX12_keep_37 : decode cX12_keep 37 = .ok (.istore_n 2, 1) := fp_dk fp_hdX12_keep_11.2.1.1.1.2
theorem dX12_keep_38 : decode cX12_keep 38 = .ok (.aload_n 0, 1) := fp_dk fp_hdX12_keep_11.2.1.1.2.1
theorem dX12_keep_39 : decode cX12_keep 39 = .ok (.getfield 78, 3) := fp_dk fp_hdX12_keep_11.2.1.1.2.2
theorem dX12_keep_42 : decode cX12_keep 42 = .ok (.iload_n 1, 1) := fp_dk fp_hdX12_keep_11.2.1.2.1.1
theorem dX12_keep_43 : decode cX12_keep 43 = .ok (.iconst 1, 1) := fp_dk fp_hdX12_keep_11.2.1.2.1.2
theorem dX12_keep_44 : decode cX12_keep 44 = .ok (.bastore, 1) := fp_dk fp_hdX12_keep_11.2.1.2.2.1
theorem dX12_keep_45 : decode cX12_keep 45 = .ok (.iload_n 2, 1) := fp_dk fp_hdX12_keep_11.2.1.2.2.2
theorem dX12_keep_46 : decode cX12_keep 46 = .ok (.ireturn, 1) := fp_dk fp_hdX12_keep_11.2.2.1.1.1
theorem dX12_back_0 : decode cX12_back 0 = .ok (.iload_n 1, 1) := fp_dk fp_hdX12_keep_11.2.2.1.1.2
theorem dX12_back_1 : decode cX12_back 1 = .ok (.i2l, 1) := fp_dk fp_hdX12_keep_11.2.2.1.2.1
theorem dX12_back_2 : decode cX12_back 2 = .ok (.lconst 0, 1) := fp_dk fp_hdX12_keep_11.2.2.1.2.2
theorem dX12_back_3 : decode cX12_back 3 = .ok (.lconst 1, 1) := fp_dk fp_hdX12_keep_11.2.2.2.1.1
theorem dX12_back_4 : decode cX12_back 4 = .ok (.invokestatic 94, 3) := fp_dk fp_hdX12_keep_11.2.2.2.1.2
theorem dX12_back_7 : decode cX12_back 7 = .ok (.ifCond .ne 5, 3) := fp_dk fp_hdX12_keep_11.2.2.2.2.1
theorem dX12_back_10 : decode cX12_back 10 = .ok (.iconst (-1), 1) := fp_dk fp_hdX12_keep_11.2.2.2.2.2
theorem fp_hdX12_back_11 : (((((fp_dq cX12_back 11 (.ireturn, 1) = true ∧ fp_dq cX12_back 12 (.aload_n 0, 1) = true) ∧ (fp_dq cX12_back 13 (.getfield 78, 3) = true ∧ fp_dq cX12_back 16 (.iload_n 1, 1) = true)) ∧ ((fp_dq cX12_back 17 (.baload, 1) = true ∧ fp_dq cX12_back 18 (.ifCond .ne 6, 3) = true) ∧ (fp_dq cX12_back 21 (.bipush (-2), 2) = true ∧ fp_dq cX12_back 23 (.ireturn, 1) = true))) ∧ (((fp_dq cX12_back 24 (.aload_n 0, 1) = true ∧ fp_dq cX12_back 25 (.bipush 120, 2) = true) ∧ (fp_dq cX12_back 27 (.iload_n 1, 1) = true ∧ fp_dq cX12_back 28 (.iconst 1, 1) = true)) ∧ ((fp_dq cX12_back 29 (.iadd, 1) = true ∧ fp_dq cX12_back 30 (.imul, 1) = true) ∧ (fp_dq cX12_back 31 (.iconst 0, 1) = true ∧ fp_dq cX12_back 32 (.invokevirtual 327, 3) = true)))) ∧ ((((fp_dq cX12_back 35 (.aload_n 0, 1) = true ∧ fp_dq cX12_back 36 (.invokevirtual 225, 3) = true) ∧ (fp_dq cX12_back 39 (.ireturn, 1) = true ∧ fp_dq cX12_sheet 0 (.iload_n 1, 1) = true)) ∧ ((fp_dq cX12_sheet 1 (.i2l, 1) = true ∧ fp_dq cX12_sheet 2 (.lconst 0, 1) = true) ∧ (fp_dq cX12_sheet 3 (.ldc2_w 196, 3) = true ∧ fp_dq cX12_sheet 6 (.invokestatic 94, 3) = true))) ∧ (((fp_dq cX12_sheet 9 (.ifCond .eq 21, 3) = true ∧ fp_dq cX12_sheet 12 (.iload_n 2, 1) = true) ∧ (fp_dq cX12_sheet 13 (.i2l, 1) = true ∧ fp_dq cX12_sheet 14 (.lconst 0, 1) = true)) ∧ ((fp_dq cX12_sheet 15 (.ldc2_w 271, 3) = true ∧ fp_dq cX12_sheet 18 (.invokestatic 94, 3) = true) ∧ (fp_dq cX12_sheet 21 (.ifCond .eq 9, 3) = true ∧ fp_dq cX12_sheet 24 (.iload_n 3, 1) = true))))) := by decide +kernel
theorem dX12_back_11 : decode cX12_back 11 = .ok (.ireturn, 1) := fp_dk fp_hdX12_back_11.1.1.1.1.1
theorem dX12_back_12 : decode cX12_back 12 = .ok (.aload_n 0, 1) := fp_dk fp_hdX12_back_11.1.1.1.1.2
theorem dX12_back_13 : decode cX12_back 13 = .ok (.getfield 78, 3) := fp_dk fp_hdX12_back_11.1.1.1.2.1
theorem dX12_back_16 : decode cX12_back 16 = .ok (.iload_n 1, 1) := fp_dk fp_hdX12_back_11.1.1.1.2.2
theorem dX12_back_17 : decode cX12_back 17 = .ok (.baload, 1) := fp_dk fp_hdX12_back_11.1.1.2.1.1
theorem dX12_back_18 : decode cX12_back 18 = .ok (.ifCond .ne 6, 3) := fp_dk fp_hdX12_back_11.1.1.2.1.2
theorem dX12_back_21 : decode cX12_back 21 = .ok (.bipush (-2), 2) := fp_dk fp_hdX12_back_11.1.1.2.2.1
theorem dX12_back_23 : decode cX12_back 23 = .ok (.ireturn, 1) := fp_dk fp_hdX12_back_11.1.1.2.2.2
theorem dX12_back_24 : decode cX12_back 24 = .ok (.aload_n 0, 1) := fp_dk fp_hdX12_back_11.1.2.1.1.1
theorem dX12_back_25 : decode cX12_back 25 = .ok (.bipush 120, 2) := fp_dk fp_hdX12_back_11.1.2.1.1.2
theorem dX12_back_27 : decode cX12_back 27 = .ok (.iload_n 1, 1) := fp_dk fp_hdX12_back_11.1.2.1.2.1
theorem dX12_back_28 : decode cX12_back 28 = .ok (.iconst 1, 1) := fp_dk fp_hdX12_back_11.1.2.1.2.2
theorem dX12_back_29 : decode cX12_back 29 = .ok (.iadd, 1) := fp_dk fp_hdX12_back_11.1.2.2.1.1
theorem dX12_back_30 : decode cX12_back 30 = .ok (.imul, 1) := fp_dk fp_hdX12_back_11.1.2.2.1.2
theorem dX12_back_31 : decode cX12_back 31 = .ok (.iconst 0, 1) := fp_dk fp_hdX12_back_11.1.2.2.2.1
theorem dX12_back_32 : decode cX12_back 32 = .ok (.invokevirtual 327, 3) := fp_dk fp_hdX12_back_11.1.2.2.2.2
theorem dX12_back_35 : decode cX12_back 35 = .ok (.aload_n 0, 1) := fp_dk fp_hdX12_back_11.2.1.1.1.1
theorem dX12_back_36 : decode cX12_back 36 = .ok (.invokevirtual 225, 3) := fp_dk fp_hdX12_back_11.2.1.1.1.2
theorem dX12_back_39 : decode cX12_back 39 = .ok (.ireturn, 1) := fp_dk fp_hdX12_back_11.2.1.1.2.1
theorem dX12_sheet_0 : decode cX12_sheet 0 = .ok (.iload_n 1, 1) := fp_dk fp_hdX12_back_11.2.1.1.2.2
theorem dX12_sheet_1 : decode cX12_sheet 1 = .ok (.i2l, 1) := fp_dk fp_hdX12_back_11.2.1.2.1.1
theorem dX12_sheet_2 : decode cX12_sheet 2 = .ok (.lconst 0, 1) := fp_dk fp_hdX12_back_11.2.1.2.1.2
theorem dX12_sheet_3 : decode cX12_sheet 3 = .ok (.ldc2_w 196, 3) := fp_dk fp_hdX12_back_11.2.1.2.2.1
theorem dX12_sheet_6 : decode cX12_sheet 6 = .ok (.invokestatic 94, 3) := fp_dk fp_hdX12_back_11.2.1.2.2.2
theorem dX12_sheet_9 : decode cX12_sheet 9 = .ok (.ifCond .eq 21, 3) := fp_dk fp_hdX12_back_11.2.2.1.1.1
theorem dX12_sheet_12 : decode cX12_sheet 12 = .ok (.iload_n 2, 1) := fp_dk fp_hdX12_back_11.2.2.1.1.2
theorem dX12_sheet_13 : decode cX12_sheet 13 = .ok (.i2l, 1) := fp_dk fp_hdX12_back_11.2.2.1.2.1
theorem dX12_sheet_14 : decode cX12_sheet 14 = .ok (.lconst 0, 1) := fp_dk fp_hdX12_back_11.2.2.1.2.2
theorem dX12_sheet_15 : decode cX12_sheet 15 = .ok (.ldc2_w 271, 3) := fp_dk fp_hdX12_back_11.2.2.2.1.1
theorem dX12_sheet_18 : decode cX12_sheet 18 = .ok (.invokestatic 94, 3) := fp_dk fp_hdX12_back_11.2.2.2.1.2
theorem dX12_sheet_21 : decode cX12_sheet 21 = .ok (.ifCond .eq 9, 3) := fp_dk fp_hdX12_back_11.2.2.2.2.1
theorem dX12_sheet_24 : decode cX12_sheet 24 = .ok (.iload_n 3, 1) := fp_dk fp_hdX12_back_11.2.2.2.2.2
theorem fp_hdX12_sheet_25 : (((((fp_dq cX12_sheet 25 (.bipush 40, 2) = true ∧ fp_dq cX12_sheet 27 (.if_icmp .le 5, 3) = true) ∧ (fp_dq cX12_sheet 30 (.iconst (-1), 1) = true ∧ fp_dq cX12_sheet 31 (.ireturn, 1) = true)) ∧ ((fp_dq cX12_sheet 32 (.iload_n 3, 1) = true ∧ fp_dq cX12_sheet 33 (.ifCond .ge 6, 3) = true) ∧ (fp_dq cX12_sheet 36 (.bipush (-14), 2) = true ∧ fp_dq cX12_sheet 38 (.ireturn, 1) = true))) ∧ (((fp_dq cX12_sheet 39 (.aload_n 0, 1) = true ∧ fp_dq cX12_sheet 40 (.getfield 82, 3) = true) ∧ (fp_dq cX12_sheet 43 (.iload_n 1, 1) = true ∧ fp_dq cX12_sheet 44 (.iload_n 2, 1) = true)) ∧ ((fp_dq cX12_sheet 45 (.iastore, 1) = true ∧ fp_dq cX12_sheet 46 (.aload_n 0, 1) = true) ∧ (fp_dq cX12_sheet 47 (.getfield 85, 3) = true ∧ fp_dq cX12_sheet 50 (.iload_n 1, 1) = true)))) ∧ ((((fp_dq cX12_sheet 51 (.iload_n 3, 1) = true ∧ fp_dq cX12_sheet 52 (.iastore, 1) = true) ∧ (fp_dq cX12_sheet 53 (.iconst 0, 1) = true ∧ fp_dq cX12_sheet 54 (.istore 4, 2) = true)) ∧ ((fp_dq cX12_sheet 56 (.iload 4, 2) = true ∧ fp_dq cX12_sheet 58 (.bipush 40, 2) = true) ∧ (fp_dq cX12_sheet 60 (.if_icmp .ge 22, 3) = true ∧ fp_dq cX12_sheet 63 (.aload_n 0, 1) = true))) ∧ (((fp_dq cX12_sheet 64 (.getfield 88, 3) = true ∧ fp_dq cX12_sheet 67 (.bipush 40, 2) = true) ∧ (fp_dq cX12_sheet 69 (.iload_n 1, 1) = true ∧ fp_dq cX12_sheet 70 (.imul, 1) = true)) ∧ ((fp_dq cX12_sheet 71 (.iload 4, 2) = true ∧ fp_dq cX12_sheet 73 (.iadd, 1) = true) ∧ (fp_dq cX12_sheet 74 (.iconst 0, 1) = true ∧ fp_dq cX12_sheet 75 (.iastore, 1) = true))))) := by decide +kernel
theorem dX12_sheet_25 : decode cX12_sheet 25 = .ok (.bipush 40, 2) := fp_dk fp_hdX12_sheet_25.1.1.1.1.1
theorem dX12_sheet_27 : decode cX12_sheet 27 = .ok (.if_icmp .le 5, 3) := fp_dk fp_hdX12_sheet_25.1.1.1.1.2
theorem dX12_sheet_30 : decode cX12_sheet 30 = .ok (.iconst (-1), 1) := fp_dk fp_hdX12_sheet_25.1.1.1.2.1
theorem dX12_sheet_31 : decode cX12_sheet 31 = .ok (.ireturn, 1) := fp_dk fp_hdX12_sheet_25.1.1.1.2.2
theorem dX12_sheet_32 : decode cX12_sheet 32 = .ok (.iload_n 3, 1) := fp_dk fp_hdX12_sheet_25.1.1.2.1.1
theorem dX12_sheet_33 : decode cX12_sheet 33 = .ok (.ifCond .ge 6, 3) := fp_dk fp_hdX12_sheet_25.1.1.2.1.2
theorem dX12_sheet_36 : decode cX12_sheet 36 = .ok (.bipush (-14), 2) := fp_dk fp_hdX12_sheet_25.1.1.2.2.1
theorem dX12_sheet_38 : decode cX12_sheet 38 = .ok (.ireturn, 1) := fp_dk fp_hdX12_sheet_25.1.1.2.2.2
theorem dX12_sheet_39 : decode cX12_sheet 39 = .ok (.aload_n 0, 1) := fp_dk fp_hdX12_sheet_25.1.2.1.1.1
theorem dX12_sheet_40 : decode cX12_sheet 40 = .ok (.getfield 82, 3) := fp_dk fp_hdX12_sheet_25.1.2.1.1.2
theorem dX12_sheet_43 : decode cX12_sheet 43 = .ok (.iload_n 1, 1) := fp_dk fp_hdX12_sheet_25.1.2.1.2.1
theorem dX12_sheet_44 : decode cX12_sheet 44 = .ok (.iload_n 2, 1) := fp_dk fp_hdX12_sheet_25.1.2.1.2.2
theorem dX12_sheet_45 : decode cX12_sheet 45 = .ok (.iastore, 1) := fp_dk fp_hdX12_sheet_25.1.2.2.1.1
theorem dX12_sheet_46 : decode cX12_sheet 46 = .ok (.aload_n 0, 1) := fp_dk fp_hdX12_sheet_25.1.2.2.1.2
theorem dX12_sheet_47 : decode cX12_sheet 47 = .ok (.getfield 85, 3) := fp_dk fp_hdX12_sheet_25.1.2.2.2.1
theorem dX12_sheet_50 : decode cX12_sheet 50 = .ok (.iload_n 1, 1) := fp_dk fp_hdX12_sheet_25.1.2.2.2.2
theorem dX12_sheet_51 : decode cX12_sheet 51 = .ok (.iload_n 3, 1) := fp_dk fp_hdX12_sheet_25.2.1.1.1.1
theorem dX12_sheet_52 : decode cX12_sheet 52 = .ok (.iastore, 1) := fp_dk fp_hdX12_sheet_25.2.1.1.1.2
theorem dX12_sheet_53 : decode cX12_sheet 53 = .ok (.iconst 0, 1) := fp_dk fp_hdX12_sheet_25.2.1.1.2.1
theorem dX12_sheet_54 : decode cX12_sheet 54 = .ok (.istore 4, 2) := fp_dk fp_hdX12_sheet_25.2.1.1.2.2
theorem dX12_sheet_56 : decode cX12_sheet 56 = .ok (.iload 4, 2) := fp_dk fp_hdX12_sheet_25.2.1.2.1.1
theorem dX12_sheet_58 : decode cX12_sheet 58 = .ok (.bipush 40, 2) := fp_dk fp_hdX12_sheet_25.2.1.2.1.2
theorem dX12_sheet_60 : decode cX12_sheet 60 = .ok (.if_icmp .ge 22, 3) := fp_dk fp_hdX12_sheet_25.2.1.2.2.1
theorem dX12_sheet_63 : decode cX12_sheet 63 = .ok (.aload_n 0, 1) := fp_dk fp_hdX12_sheet_25.2.1.2.2.2
theorem dX12_sheet_64 : decode cX12_sheet 64 = .ok (.getfield 88, 3) := fp_dk fp_hdX12_sheet_25.2.2.1.1.1
theorem dX12_sheet_67 : decode cX12_sheet 67 = .ok (.bipush 40, 2) := fp_dk fp_hdX12_sheet_25.2.2.1.1.2
theorem dX12_sheet_69 : decode cX12_sheet 69 = .ok (.iload_n 1, 1) := fp_dk fp_hdX12_sheet_25.2.2.1.2.1
theorem dX12_sheet_70 : decode cX12_sheet 70 = .ok (.imul, 1) := fp_dk fp_hdX12_sheet_25.2.2.1.2.2
theorem dX12_sheet_71 : decode cX12_sheet 71 = .ok (.iload 4, 2) := fp_dk fp_hdX12_sheet_25.2.2.2.1.1
theorem dX12_sheet_73 : decode cX12_sheet 73 = .ok (.iadd, 1) := fp_dk fp_hdX12_sheet_25.2.2.2.1.2
theorem dX12_sheet_74 : decode cX12_sheet 74 = .ok (.iconst 0, 1) := fp_dk fp_hdX12_sheet_25.2.2.2.2.1
theorem dX12_sheet_75 : decode cX12_sheet 75 = .ok (.iastore, 1) := fp_dk fp_hdX12_sheet_25.2.2.2.2.2
theorem fp_hdX12_sheet_76 : (((((fp_dq cX12_sheet 76 (.iinc 4 1, 3) = true ∧ fp_dq cX12_sheet 79 (.goto (-23), 3) = true) ∧ (fp_dq cX12_sheet 82 (.iconst 1, 1) = true ∧ fp_dq cX12_sheet 83 (.ireturn, 1) = true)) ∧ ((fp_dq cX12_lay 0 (.iload_n 1, 1) = true ∧ fp_dq cX12_lay 1 (.i2l, 1) = true) ∧ (fp_dq cX12_lay 2 (.lconst 0, 1) = true ∧ fp_dq cX12_lay 3 (.ldc2_w 196, 3) = true))) ∧ (((fp_dq cX12_lay 6 (.invokestatic 94, 3) = true ∧ fp_dq cX12_lay 9 (.ifCond .ne 5, 3) = true) ∧ (fp_dq cX12_lay 12 (.iconst (-1), 1) = true ∧ fp_dq cX12_lay 13 (.ireturn, 1) = true)) ∧ ((fp_dq cX12_lay 14 (.aload_n 0, 1) = true ∧ fp_dq cX12_lay 15 (.getfield 82, 3) = true) ∧ (fp_dq cX12_lay 18 (.iload_n 1, 1) = true ∧ fp_dq cX12_lay 19 (.iaload, 1) = true)))) ∧ ((((fp_dq cX12_lay 20 (.bipush (-4), 2) = true ∧ fp_dq cX12_lay 22 (.if_icmp .ne 6, 3) = true) ∧ (fp_dq cX12_lay 25 (.bipush (-11), 2) = true ∧ fp_dq cX12_lay 27 (.ireturn, 1) = true)) ∧ ((fp_dq cX12_lay 28 (.iload_n 2, 1) = true ∧ fp_dq cX12_lay 29 (.i2l, 1) = true) ∧ (fp_dq cX12_lay 30 (.lconst 0, 1) = true ∧ fp_dq cX12_lay 31 (.aload_n 0, 1) = true))) ∧ (((fp_dq cX12_lay 32 (.getfield 85, 3) = true ∧ fp_dq cX12_lay 35 (.iload_n 1, 1) = true) ∧ (fp_dq cX12_lay 36 (.iaload, 1) = true ∧ fp_dq cX12_lay 37 (.iconst 1, 1) = true)) ∧ ((fp_dq cX12_lay 38 (.isub, 1) = true ∧ fp_dq cX12_lay 39 (.i2l, 1) = true) ∧ (fp_dq cX12_lay 40 (.invokestatic 94, 3) = true ∧ fp_dq cX12_lay 43 (.ifCond .ne 6, 3) = true))))) := by decide +kernel
theorem dX12_sheet_76 : decode cX12_sheet 76 = .ok (.iinc 4 1, 3) := fp_dk fp_hdX12_sheet_76.1.1.1.1.1
theorem dX12_sheet_79 : decode cX12_sheet 79 = .ok (.goto (-23), 3) := fp_dk fp_hdX12_sheet_76.1.1.1.1.2
theorem dX12_sheet_82 : decode cX12_sheet 82 = .ok (.iconst 1, 1) := fp_dk fp_hdX12_sheet_76.1.1.1.2.1
theorem dX12_sheet_83 : decode cX12_sheet 83 = .ok (.ireturn, 1) := fp_dk fp_hdX12_sheet_76.1.1.1.2.2
theorem dX12_lay_0 : decode cX12_lay 0 = .ok (.iload_n 1, 1) := fp_dk fp_hdX12_sheet_76.1.1.2.1.1
theorem dX12_lay_1 : decode cX12_lay 1 = .ok (.i2l, 1) := fp_dk fp_hdX12_sheet_76.1.1.2.1.2
theorem dX12_lay_2 : decode cX12_lay 2 = .ok (.lconst 0, 1) := fp_dk fp_hdX12_sheet_76.1.1.2.2.1
theorem dX12_lay_3 : decode cX12_lay 3 = .ok (.ldc2_w 196, 3) := fp_dk fp_hdX12_sheet_76.1.1.2.2.2
theorem dX12_lay_6 : decode cX12_lay 6 = .ok (.invokestatic 94, 3) := fp_dk fp_hdX12_sheet_76.1.2.1.1.1
theorem dX12_lay_9 : decode cX12_lay 9 = .ok (.ifCond .ne 5, 3) := fp_dk fp_hdX12_sheet_76.1.2.1.1.2
theorem dX12_lay_12 : decode cX12_lay 12 = .ok (.iconst (-1), 1) := fp_dk fp_hdX12_sheet_76.1.2.1.2.1
theorem dX12_lay_13 : decode cX12_lay 13 = .ok (.ireturn, 1) := fp_dk fp_hdX12_sheet_76.1.2.1.2.2
theorem dX12_lay_14 : decode cX12_lay 14 = .ok (.aload_n 0, 1) := fp_dk fp_hdX12_sheet_76.1.2.2.1.1
theorem dX12_lay_15 : decode cX12_lay 15 = .ok (.getfield 82, 3) := fp_dk fp_hdX12_sheet_76.1.2.2.1.2
theorem dX12_lay_18 : decode cX12_lay 18 = .ok (.iload_n 1, 1) := fp_dk fp_hdX12_sheet_76.1.2.2.2.1
theorem dX12_lay_19 : decode cX12_lay 19 = .ok (.iaload, 1) := fp_dk fp_hdX12_sheet_76.1.2.2.2.2
theorem dX12_lay_20 : decode cX12_lay 20 = .ok (.bipush (-4), 2) := fp_dk fp_hdX12_sheet_76.2.1.1.1.1
theorem dX12_lay_22 : decode cX12_lay 22 = .ok (.if_icmp .ne 6, 3) := fp_dk fp_hdX12_sheet_76.2.1.1.1.2
theorem dX12_lay_25 : decode cX12_lay 25 = .ok (.bipush (-11), 2) := fp_dk fp_hdX12_sheet_76.2.1.1.2.1
theorem dX12_lay_27 : decode cX12_lay 27 = .ok (.ireturn, 1) := fp_dk fp_hdX12_sheet_76.2.1.1.2.2
theorem dX12_lay_28 : decode cX12_lay 28 = .ok (.iload_n 2, 1) := fp_dk fp_hdX12_sheet_76.2.1.2.1.1
theorem dX12_lay_29 : decode cX12_lay 29 = .ok (.i2l, 1) := fp_dk fp_hdX12_sheet_76.2.1.2.1.2
theorem dX12_lay_30 : decode cX12_lay 30 = .ok (.lconst 0, 1) := fp_dk fp_hdX12_sheet_76.2.1.2.2.1
theorem dX12_lay_31 : decode cX12_lay 31 = .ok (.aload_n 0, 1) := fp_dk fp_hdX12_sheet_76.2.1.2.2.2
theorem dX12_lay_32 : decode cX12_lay 32 = .ok (.getfield 85, 3) := fp_dk fp_hdX12_sheet_76.2.2.1.1.1
theorem dX12_lay_35 : decode cX12_lay 35 = .ok (.iload_n 1, 1) := fp_dk fp_hdX12_sheet_76.2.2.1.1.2
theorem dX12_lay_36 : decode cX12_lay 36 = .ok (.iaload, 1) := fp_dk fp_hdX12_sheet_76.2.2.1.2.1
theorem dX12_lay_37 : decode cX12_lay 37 = .ok (.iconst 1, 1) := fp_dk fp_hdX12_sheet_76.2.2.1.2.2
theorem dX12_lay_38 : decode cX12_lay 38 = .ok (.isub, 1) := fp_dk fp_hdX12_sheet_76.2.2.2.1.1
theorem dX12_lay_39 : decode cX12_lay 39 = .ok (.i2l, 1) := fp_dk fp_hdX12_sheet_76.2.2.2.1.2
theorem dX12_lay_40 : decode cX12_lay 40 = .ok (.invokestatic 94, 3) := fp_dk fp_hdX12_sheet_76.2.2.2.2.1
theorem dX12_lay_43 : decode cX12_lay 43 = .ok (.ifCond .ne 6, 3) := fp_dk fp_hdX12_sheet_76.2.2.2.2.2
theorem fp_hdX12_lay_46 : (((((fp_dq cX12_lay 46 (.bipush (-12), 2) = true ∧ fp_dq cX12_lay 48 (.ireturn, 1) = true) ∧ (fp_dq cX12_lay 49 (.aload_n 0, 1) = true ∧ fp_dq cX12_lay 50 (.getfield 88, 3) = true)) ∧ ((fp_dq cX12_lay 53 (.bipush 40, 2) = true ∧ fp_dq cX12_lay 55 (.iload_n 1, 1) = true) ∧ (fp_dq cX12_lay 56 (.imul, 1) = true ∧ fp_dq cX12_lay 57 (.iload_n 2, 1) = true))) ∧ (((fp_dq cX12_lay 58 (.iadd, 1) = true ∧ fp_dq cX12_lay 59 (.aload_n 0, 1) = true) ∧ (fp_dq cX12_lay 60 (.getfield 82, 3) = true ∧ fp_dq cX12_lay 63 (.iload_n 1, 1) = true)) ∧ ((fp_dq cX12_lay 64 (.iaload, 1) = true ∧ fp_dq cX12_lay 65 (.ifCond .ne 13, 3) = true) ∧ (fp_dq cX12_lay 68 (.iload_n 3, 1) = true ∧ fp_dq cX12_lay 69 (.bipush 24, 2) = true)))) ∧ ((((fp_dq cX12_lay 71 (.ishl, 1) = true ∧ fp_dq cX12_lay 72 (.bipush 24, 2) = true) ∧ (fp_dq cX12_lay 74 (.ishr, 1) = true ∧ fp_dq cX12_lay 75 (.goto 24, 3) = true)) ∧ ((fp_dq cX12_lay 78 (.aload_n 0, 1) = true ∧ fp_dq cX12_lay 79 (.getfield 82, 3) = true) ∧ (fp_dq cX12_lay 82 (.iload_n 1, 1) = true ∧ fp_dq cX12_lay 83 (.iaload, 1) = true))) ∧ (((fp_dq cX12_lay 84 (.iconst 1, 1) = true ∧ fp_dq cX12_lay 85 (.if_icmp .ne 13, 3) = true) ∧ (fp_dq cX12_lay 88 (.iload_n 3, 1) = true ∧ fp_dq cX12_lay 89 (.bipush 16, 2) = true)) ∧ ((fp_dq cX12_lay 91 (.ishl, 1) = true ∧ fp_dq cX12_lay 92 (.bipush 16, 2) = true) ∧ (fp_dq cX12_lay 94 (.ishr, 1) = true ∧ fp_dq cX12_lay 95 (.goto 4, 3) = true))))) := by decide +kernel
theorem dX12_lay_46 : decode cX12_lay 46 = .ok (.bipush (-12), 2) := fp_dk fp_hdX12_lay_46.1.1.1.1.1
theorem dX12_lay_48 : decode cX12_lay 48 = .ok (.ireturn, 1) := fp_dk fp_hdX12_lay_46.1.1.1.1.2
theorem dX12_lay_49 : decode cX12_lay 49 = .ok (.aload_n 0, 1) := fp_dk fp_hdX12_lay_46.1.1.1.2.1
theorem dX12_lay_50 : decode cX12_lay 50 = .ok (.getfield 88, 3) := fp_dk fp_hdX12_lay_46.1.1.1.2.2
theorem dX12_lay_53 : decode cX12_lay 53 = .ok (.bipush 40, 2) := fp_dk fp_hdX12_lay_46.1.1.2.1.1
theorem dX12_lay_55 : decode cX12_lay 55 = .ok (.iload_n 1, 1) := fp_dk fp_hdX12_lay_46.1.1.2.1.2
theorem dX12_lay_56 : decode cX12_lay 56 = .ok (.imul, 1) := fp_dk fp_hdX12_lay_46.1.1.2.2.1
theorem dX12_lay_57 : decode cX12_lay 57 = .ok (.iload_n 2, 1) := fp_dk fp_hdX12_lay_46.1.1.2.2.2
theorem dX12_lay_58 : decode cX12_lay 58 = .ok (.iadd, 1) := fp_dk fp_hdX12_lay_46.1.2.1.1.1
theorem dX12_lay_59 : decode cX12_lay 59 = .ok (.aload_n 0, 1) := fp_dk fp_hdX12_lay_46.1.2.1.1.2
theorem dX12_lay_60 : decode cX12_lay 60 = .ok (.getfield 82, 3) := fp_dk fp_hdX12_lay_46.1.2.1.2.1
theorem dX12_lay_63 : decode cX12_lay 63 = .ok (.iload_n 1, 1) := fp_dk fp_hdX12_lay_46.1.2.1.2.2
theorem dX12_lay_64 : decode cX12_lay 64 = .ok (.iaload, 1) := fp_dk fp_hdX12_lay_46.1.2.2.1.1
theorem dX12_lay_65 : decode cX12_lay 65 = .ok (.ifCond .ne 13, 3) := fp_dk fp_hdX12_lay_46.1.2.2.1.2
theorem dX12_lay_68 : decode cX12_lay 68 = .ok (.iload_n 3, 1) := fp_dk fp_hdX12_lay_46.1.2.2.2.1
theorem dX12_lay_69 : decode cX12_lay 69 = .ok (.bipush 24, 2) := fp_dk fp_hdX12_lay_46.1.2.2.2.2
theorem dX12_lay_71 : decode cX12_lay 71 = .ok (.ishl, 1) := fp_dk fp_hdX12_lay_46.2.1.1.1.1
theorem dX12_lay_72 : decode cX12_lay 72 = .ok (.bipush 24, 2) := fp_dk fp_hdX12_lay_46.2.1.1.1.2
theorem dX12_lay_74 : decode cX12_lay 74 = .ok (.ishr, 1) := fp_dk fp_hdX12_lay_46.2.1.1.2.1
theorem dX12_lay_75 : decode cX12_lay 75 = .ok (.goto 24, 3) := fp_dk fp_hdX12_lay_46.2.1.1.2.2
theorem dX12_lay_78 : decode cX12_lay 78 = .ok (.aload_n 0, 1) := fp_dk fp_hdX12_lay_46.2.1.2.1.1
theorem dX12_lay_79 : decode cX12_lay 79 = .ok (.getfield 82, 3) := fp_dk fp_hdX12_lay_46.2.1.2.1.2
theorem dX12_lay_82 : decode cX12_lay 82 = .ok (.iload_n 1, 1) := fp_dk fp_hdX12_lay_46.2.1.2.2.1
theorem dX12_lay_83 : decode cX12_lay 83 = .ok (.iaload, 1) := fp_dk fp_hdX12_lay_46.2.1.2.2.2
theorem dX12_lay_84 : decode cX12_lay 84 = .ok (.iconst 1, 1) := fp_dk fp_hdX12_lay_46.2.2.1.1.1
theorem dX12_lay_85 : decode cX12_lay 85 = .ok (.if_icmp .ne 13, 3) := fp_dk fp_hdX12_lay_46.2.2.1.1.2
theorem dX12_lay_88 : decode cX12_lay 88 = .ok (.iload_n 3, 1) := fp_dk fp_hdX12_lay_46.2.2.1.2.1
theorem dX12_lay_89 : decode cX12_lay 89 = .ok (.bipush 16, 2) := fp_dk fp_hdX12_lay_46.2.2.1.2.2
theorem dX12_lay_91 : decode cX12_lay 91 = .ok (.ishl, 1) := fp_dk fp_hdX12_lay_46.2.2.2.1.1
theorem dX12_lay_92 : decode cX12_lay 92 = .ok (.bipush 16, 2) := fp_dk fp_hdX12_lay_46.2.2.2.1.2
theorem dX12_lay_94 : decode cX12_lay 94 = .ok (.ishr, 1) := fp_dk fp_hdX12_lay_46.2.2.2.2.1
theorem dX12_lay_95 : decode cX12_lay 95 = .ok (.goto 4, 3) := fp_dk fp_hdX12_lay_46.2.2.2.2.2
theorem fp_hdX12_lay_98 : (((((fp_dq cX12_lay 98 (.iload_n 3, 1) = true ∧ fp_dq cX12_lay 99 (.iastore, 1) = true) ∧ (fp_dq cX12_lay 100 (.iconst 1, 1) = true ∧ fp_dq cX12_lay 101 (.ireturn, 1) = true)) ∧ ((fp_dq cX12_read 0 (.iload_n 1, 1) = true ∧ fp_dq cX12_read 1 (.i2l, 1) = true) ∧ (fp_dq cX12_read 2 (.lconst 0, 1) = true ∧ fp_dq cX12_read 3 (.ldc2_w 196, 3) = true))) ∧ (((fp_dq cX12_read 6 (.invokestatic 94, 3) = true ∧ fp_dq cX12_read 9 (.ifCond .eq 28, 3) = true) ∧ (fp_dq cX12_read 12 (.iload_n 2, 1) = true ∧ fp_dq cX12_read 13 (.i2l, 1) = true)) ∧ ((fp_dq cX12_read 14 (.lconst 0, 1) = true ∧ fp_dq cX12_read 15 (.ldc2_w 271, 3) = true) ∧ (fp_dq cX12_read 18 (.invokestatic 94, 3) = true ∧ fp_dq cX12_read 21 (.ifCond .eq 16, 3) = true)))) ∧ ((((fp_dq cX12_read 24 (.iload 4, 2) = true ∧ fp_dq cX12_read 26 (.i2l, 1) = true) ∧ (fp_dq cX12_read 27 (.lconst 0, 1) = true ∧ fp_dq cX12_read 28 (.ldc2_w 212, 3) = true)) ∧ ((fp_dq cX12_read 31 (.invokestatic 94, 3) = true ∧ fp_dq cX12_read 34 (.ifCond .ne 5, 3) = true) ∧ (fp_dq cX12_read 37 (.iconst (-1), 1) = true ∧ fp_dq cX12_read 38 (.ireturn, 1) = true))) ∧ (((fp_dq cX12_read 39 (.iconst 0, 1) = true ∧ fp_dq cX12_read 40 (.istore 5, 2) = true) ∧ (fp_dq cX12_read 42 (.iconst 0, 1) = true ∧ fp_dq cX12_read 43 (.istore 6, 2) = true)) ∧ ((fp_dq cX12_read 45 (.iconst 0, 1) = true ∧ fp_dq cX12_read 46 (.istore 7, 2) = true) ∧ (fp_dq cX12_read 48 (.iconst 0, 1) = true ∧ fp_dq cX12_read 49 (.istore 8, 2) = true))))) := by decide +kernel
theorem dX12_lay_98 : decode cX12_lay 98 = .ok (.iload_n 3, 1) := fp_dk fp_hdX12_lay_98.1.1.1.1.1
theorem dX12_lay_99 : decode cX12_lay 99 = .ok (.iastore, 1) := fp_dk fp_hdX12_lay_98.1.1.1.1.2
theorem dX12_lay_100 : decode cX12_lay 100 = .ok (.iconst 1, 1) := fp_dk fp_hdX12_lay_98.1.1.1.2.1
theorem dX12_lay_101 : decode cX12_lay 101 = .ok (.ireturn, 1) := fp_dk fp_hdX12_lay_98.1.1.1.2.2
theorem dX12_read_0 : decode cX12_read 0 = .ok (.iload_n 1, 1) := fp_dk fp_hdX12_lay_98.1.1.2.1.1
theorem dX12_read_1 : decode cX12_read 1 = .ok (.i2l, 1) := fp_dk fp_hdX12_lay_98.1.1.2.1.2
theorem dX12_read_2 : decode cX12_read 2 = .ok (.lconst 0, 1) := fp_dk fp_hdX12_lay_98.1.1.2.2.1
theorem dX12_read_3 : decode cX12_read 3 = .ok (.ldc2_w 196, 3) := fp_dk fp_hdX12_lay_98.1.1.2.2.2
theorem dX12_read_6 : decode cX12_read 6 = .ok (.invokestatic 94, 3) := fp_dk fp_hdX12_lay_98.1.2.1.1.1
theorem dX12_read_9 : decode cX12_read 9 = .ok (.ifCond .eq 28, 3) := fp_dk fp_hdX12_lay_98.1.2.1.1.2
theorem dX12_read_12 : decode cX12_read 12 = .ok (.iload_n 2, 1) := fp_dk fp_hdX12_lay_98.1.2.1.2.1
theorem dX12_read_13 : decode cX12_read 13 = .ok (.i2l, 1) := fp_dk fp_hdX12_lay_98.1.2.1.2.2
theorem dX12_read_14 : decode cX12_read 14 = .ok (.lconst 0, 1) := fp_dk fp_hdX12_lay_98.1.2.2.1.1
theorem dX12_read_15 : decode cX12_read 15 = .ok (.ldc2_w 271, 3) := fp_dk fp_hdX12_lay_98.1.2.2.1.2
theorem dX12_read_18 : decode cX12_read 18 = .ok (.invokestatic 94, 3) := fp_dk fp_hdX12_lay_98.1.2.2.2.1
theorem dX12_read_21 : decode cX12_read 21 = .ok (.ifCond .eq 16, 3) := fp_dk fp_hdX12_lay_98.1.2.2.2.2
theorem dX12_read_24 : decode cX12_read 24 = .ok (.iload 4, 2) := fp_dk fp_hdX12_lay_98.2.1.1.1.1
theorem dX12_read_26 : decode cX12_read 26 = .ok (.i2l, 1) := fp_dk fp_hdX12_lay_98.2.1.1.1.2
theorem dX12_read_27 : decode cX12_read 27 = .ok (.lconst 0, 1) := fp_dk fp_hdX12_lay_98.2.1.1.2.1
theorem dX12_read_28 : decode cX12_read 28 = .ok (.ldc2_w 212, 3) := fp_dk fp_hdX12_lay_98.2.1.1.2.2
theorem dX12_read_31 : decode cX12_read 31 = .ok (.invokestatic 94, 3) := fp_dk fp_hdX12_lay_98.2.1.2.1.1
theorem dX12_read_34 : decode cX12_read 34 = .ok (.ifCond .ne 5, 3) := fp_dk fp_hdX12_lay_98.2.1.2.1.2
theorem dX12_read_37 : decode cX12_read 37 = .ok (.iconst (-1), 1) := fp_dk fp_hdX12_lay_98.2.1.2.2.1
theorem dX12_read_38 : decode cX12_read 38 = .ok (.ireturn, 1) := fp_dk fp_hdX12_lay_98.2.1.2.2.2
theorem dX12_read_39 : decode cX12_read 39 = .ok (.iconst 0, 1) := fp_dk fp_hdX12_lay_98.2.2.1.1.1
theorem dX12_read_40 : decode cX12_read 40 = .ok (.istore 5, 2) := fp_dk fp_hdX12_lay_98.2.2.1.1.2
theorem dX12_read_42 : decode cX12_read 42 = .ok (.iconst 0, 1) := fp_dk fp_hdX12_lay_98.2.2.1.2.1
theorem dX12_read_43 : decode cX12_read 43 = .ok (.istore 6, 2) := fp_dk fp_hdX12_lay_98.2.2.1.2.2
theorem dX12_read_45 : decode cX12_read 45 = .ok (.iconst 0, 1) := fp_dk fp_hdX12_lay_98.2.2.2.1.1
theorem dX12_read_46 : decode cX12_read 46 = .ok (.istore 7, 2) := fp_dk fp_hdX12_lay_98.2.2.2.1.2
theorem dX12_read_48 : decode cX12_read 48 = .ok (.iconst 0, 1) := fp_dk fp_hdX12_lay_98.2.2.2.2.1
theorem dX12_read_49 : decode cX12_read 49 = .ok (.istore 8, 2) := fp_dk fp_hdX12_lay_98.2.2.2.2.2
theorem fp_hdX12_read_51 : (((((fp_dq cX12_read 51 (.iload 8, 2) = true ∧ fp_dq cX12_read 53 (.iconst 4, 1) = true) ∧ (fp_dq cX12_read 54 (.iload 4, 2) = true ∧ fp_dq cX12_read 56 (.imul, 1) = true)) ∧ ((fp_dq cX12_read 57 (.if_icmp .ge 164, 3) = true ∧ fp_dq cX12_read 60 (.iload 5, 2) = true) ∧ (fp_dq cX12_read 62 (.ifCond .ne 159, 3) = true ∧ fp_dq cX12_read 65 (.iload 7, 2) = true))) ∧ (((fp_dq cX12_read 67 (.ifCond .ne 154, 3) = true ∧ fp_dq cX12_read 70 (.aload_n 0, 1) = true) ∧ (fp_dq cX12_read 71 (.getfield 82, 3) = true ∧ fp_dq cX12_read 74 (.iload_n 1, 1) = true)) ∧ ((fp_dq cX12_read 75 (.iaload, 1) = true ∧ fp_dq cX12_read 76 (.bipush (-4), 2) = true) ∧ (fp_dq cX12_read 78 (.if_icmp .ne 7, 3) = true ∧ fp_dq cX12_read 81 (.iconst 1, 1) = true)))) ∧ ((((fp_dq cX12_read 82 (.goto 44, 3) = true ∧ fp_dq cX12_read 85 (.aload_n 0, 1) = true) ∧ (fp_dq cX12_read 86 (.getfield 82, 3) = true ∧ fp_dq cX12_read 89 (.iload_n 1, 1) = true)) ∧ ((fp_dq cX12_read 90 (.iaload, 1) = true ∧ fp_dq cX12_read 91 (.iload_n 2, 1) = true) ∧ (fp_dq cX12_read 92 (.if_icmp .eq 7, 3) = true ∧ fp_dq cX12_read 95 (.iconst 3, 1) = true))) ∧ (((fp_dq cX12_read 96 (.goto 30, 3) = true ∧ fp_dq cX12_read 99 (.iload_n 3, 1) = true) ∧ (fp_dq cX12_read 100 (.i2l, 1) = true ∧ fp_dq cX12_read 101 (.iload 8, 2) = true)) ∧ ((fp_dq cX12_read 103 (.i2l, 1) = true ∧ fp_dq cX12_read 104 (.ladd, 1) = true) ∧ (fp_dq cX12_read 105 (.lconst 0, 1) = true ∧ fp_dq cX12_read 106 (.aload_n 0, 1) = true))))) := by decide +kernel
theorem dX12_read_51 : decode cX12_read 51 = .ok (.iload 8, 2) := fp_dk fp_hdX12_read_51.1.1.1.1.1
theorem dX12_read_53 : decode cX12_read 53 = .ok (.iconst 4, 1) := fp_dk fp_hdX12_read_51.1.1.1.1.2
theorem dX12_read_54 : decode cX12_read 54 = .ok (.iload 4, 2) := fp_dk fp_hdX12_read_51.1.1.1.2.1
theorem dX12_read_56 : decode cX12_read 56 = .ok (.imul, 1) := fp_dk fp_hdX12_read_51.1.1.1.2.2
theorem dX12_read_57 : decode cX12_read 57 = .ok (.if_icmp .ge 164, 3) := fp_dk fp_hdX12_read_51.1.1.2.1.1
theorem dX12_read_60 : decode cX12_read 60 = .ok (.iload 5, 2) := fp_dk fp_hdX12_read_51.1.1.2.1.2
theorem dX12_read_62 : decode cX12_read 62 = .ok (.ifCond .ne 159, 3) := fp_dk fp_hdX12_read_51.1.1.2.2.1
theorem dX12_read_65 : decode cX12_read 65 = .ok (.iload 7, 2) := fp_dk fp_hdX12_read_51.1.1.2.2.2
theorem dX12_read_67 : decode cX12_read 67 = .ok (.ifCond .ne 154, 3) := fp_dk fp_hdX12_read_51.1.2.1.1.1
theorem dX12_read_70 : decode cX12_read 70 = .ok (.aload_n 0, 1) := fp_dk fp_hdX12_read_51.1.2.1.1.2
theorem dX12_read_71 : decode cX12_read 71 = .ok (.getfield 82, 3) := fp_dk fp_hdX12_read_51.1.2.1.2.1
theorem dX12_read_74 : decode cX12_read 74 = .ok (.iload_n 1, 1) := fp_dk fp_hdX12_read_51.1.2.1.2.2
theorem dX12_read_75 : decode cX12_read 75 = .ok (.iaload, 1) := fp_dk fp_hdX12_read_51.1.2.2.1.1
theorem dX12_read_76 : decode cX12_read 76 = .ok (.bipush (-4), 2) := fp_dk fp_hdX12_read_51.1.2.2.1.2
theorem dX12_read_78 : decode cX12_read 78 = .ok (.if_icmp .ne 7, 3) := fp_dk fp_hdX12_read_51.1.2.2.2.1
theorem dX12_read_81 : decode cX12_read 81 = .ok (.iconst 1, 1) := fp_dk fp_hdX12_read_51.1.2.2.2.2
theorem dX12_read_82 : decode cX12_read 82 = .ok (.goto 44, 3) := fp_dk fp_hdX12_read_51.2.1.1.1.1
theorem dX12_read_85 : decode cX12_read 85 = .ok (.aload_n 0, 1) := fp_dk fp_hdX12_read_51.2.1.1.1.2
theorem dX12_read_86 : decode cX12_read 86 = .ok (.getfield 82, 3) := fp_dk fp_hdX12_read_51.2.1.1.2.1
theorem dX12_read_89 : decode cX12_read 89 = .ok (.iload_n 1, 1) := fp_dk fp_hdX12_read_51.2.1.1.2.2
theorem dX12_read_90 : decode cX12_read 90 = .ok (.iaload, 1) := fp_dk fp_hdX12_read_51.2.1.2.1.1
theorem dX12_read_91 : decode cX12_read 91 = .ok (.iload_n 2, 1) := fp_dk fp_hdX12_read_51.2.1.2.1.2
theorem dX12_read_92 : decode cX12_read 92 = .ok (.if_icmp .eq 7, 3) := fp_dk fp_hdX12_read_51.2.1.2.2.1
theorem dX12_read_95 : decode cX12_read 95 = .ok (.iconst 3, 1) := fp_dk fp_hdX12_read_51.2.1.2.2.2
theorem dX12_read_96 : decode cX12_read 96 = .ok (.goto 30, 3) := fp_dk fp_hdX12_read_51.2.2.1.1.1
theorem dX12_read_99 : decode cX12_read 99 = .ok (.iload_n 3, 1) := fp_dk fp_hdX12_read_51.2.2.1.1.2
theorem dX12_read_100 : decode cX12_read 100 = .ok (.i2l, 1) := fp_dk fp_hdX12_read_51.2.2.1.2.1
theorem dX12_read_101 : decode cX12_read 101 = .ok (.iload 8, 2) := fp_dk fp_hdX12_read_51.2.2.1.2.2
theorem dX12_read_103 : decode cX12_read 103 = .ok (.i2l, 1) := fp_dk fp_hdX12_read_51.2.2.2.1.1
theorem dX12_read_104 : decode cX12_read 104 = .ok (.ladd, 1) := fp_dk fp_hdX12_read_51.2.2.2.1.2
theorem dX12_read_105 : decode cX12_read 105 = .ok (.lconst 0, 1) := fp_dk fp_hdX12_read_51.2.2.2.2.1
theorem dX12_read_106 : decode cX12_read 106 = .ok (.aload_n 0, 1) := fp_dk fp_hdX12_read_51.2.2.2.2.2
theorem fp_hdX12_read_107 : (((((fp_dq cX12_read 107 (.getfield 85, 3) = true ∧ fp_dq cX12_read 110 (.iload_n 1, 1) = true) ∧ (fp_dq cX12_read 111 (.iaload, 1) = true ∧ fp_dq cX12_read 112 (.iconst 1, 1) = true)) ∧ ((fp_dq cX12_read 113 (.isub, 1) = true ∧ fp_dq cX12_read 114 (.i2l, 1) = true) ∧ (fp_dq cX12_read 115 (.invokestatic 94, 3) = true ∧ fp_dq cX12_read 118 (.ifCond .ne 7, 3) = true))) ∧ (((fp_dq cX12_read 121 (.iconst 2, 1) = true ∧ fp_dq cX12_read 122 (.goto 4, 3) = true) ∧ (fp_dq cX12_read 125 (.iconst 0, 1) = true ∧ fp_dq cX12_read 126 (.istore 5, 2) = true)) ∧ ((fp_dq cX12_read 128 (.iload 5, 2) = true ∧ fp_dq cX12_read 130 (.ifCond .ne 85, 3) = true) ∧ (fp_dq cX12_read 133 (.iload 8, 2) = true ∧ fp_dq cX12_read 135 (.iconst 4, 1) = true)))) ∧ ((((fp_dq cX12_read 136 (.irem, 1) = true ∧ fp_dq cX12_read 137 (.iconst 3, 1) = true) ∧ (fp_dq cX12_read 138 (.if_icmp .ne 77, 3) = true ∧ fp_dq cX12_read 141 (.bipush 40, 2) = true)) ∧ ((fp_dq cX12_read 143 (.iload_n 1, 1) = true ∧ fp_dq cX12_read 144 (.imul, 1) = true) ∧ (fp_dq cX12_read 145 (.iload_n 3, 1) = true ∧ fp_dq cX12_read 146 (.iadd, 1) = true))) ∧ (((fp_dq cX12_read 147 (.iload 8, 2) = true ∧ fp_dq cX12_read 149 (.iadd, 1) = true) ∧ (fp_dq cX12_read 150 (.istore 9, 2) = true ∧ fp_dq cX12_read 152 (.aload_n 0, 1) = true)) ∧ ((fp_dq cX12_read 153 (.aload_n 0, 1) = true ∧ fp_dq cX12_read 154 (.getfield 88, 3) = true) ∧ (fp_dq cX12_read 157 (.iload 9, 2) = true ∧ fp_dq cX12_read 159 (.iconst 3, 1) = true))))) := by decide +kernel
theorem dX12_read_107 : decode cX12_read 107 = .ok (.getfield 85, 3) := fp_dk fp_hdX12_read_107.1.1.1.1.1
theorem dX12_read_110 : decode cX12_read 110 = .ok (.iload_n 1, 1) := fp_dk fp_hdX12_read_107.1.1.1.1.2
theorem dX12_read_111 : decode cX12_read 111 = .ok (.iaload, 1) := fp_dk fp_hdX12_read_107.1.1.1.2.1
theorem dX12_read_112 : decode cX12_read 112 = .ok (.iconst 1, 1) := fp_dk fp_hdX12_read_107.1.1.1.2.2
theorem dX12_read_113 : decode cX12_read 113 = .ok (.isub, 1) := fp_dk fp_hdX12_read_107.1.1.2.1.1
theorem dX12_read_114 : decode cX12_read 114 = .ok (.i2l, 1) := fp_dk fp_hdX12_read_107.1.1.2.1.2
theorem dX12_read_115 : decode cX12_read 115 = .ok (.invokestatic 94, 3) := fp_dk fp_hdX12_read_107.1.1.2.2.1
theorem dX12_read_118 : decode cX12_read 118 = .ok (.ifCond .ne 7, 3) := fp_dk fp_hdX12_read_107.1.1.2.2.2
theorem dX12_read_121 : decode cX12_read 121 = .ok (.iconst 2, 1) := fp_dk fp_hdX12_read_107.1.2.1.1.1
theorem dX12_read_122 : decode cX12_read 122 = .ok (.goto 4, 3) := fp_dk fp_hdX12_read_107.1.2.1.1.2
theorem dX12_read_125 : decode cX12_read 125 = .ok (.iconst 0, 1) := fp_dk fp_hdX12_read_107.1.2.1.2.1
theorem dX12_read_126 : decode cX12_read 126 = .ok (.istore 5, 2) := fp_dk fp_hdX12_read_107.1.2.1.2.2
theorem dX12_read_128 : decode cX12_read 128 = .ok (.iload 5, 2) := fp_dk fp_hdX12_read_107.1.2.2.1.1
theorem dX12_read_130 : decode cX12_read 130 = .ok (.ifCond .ne 85, 3) := fp_dk fp_hdX12_read_107.1.2.2.1.2
theorem dX12_read_133 : decode cX12_read 133 = .ok (.iload 8, 2) := fp_dk fp_hdX12_read_107.1.2.2.2.1
theorem dX12_read_135 : decode cX12_read 135 = .ok (.iconst 4, 1) := fp_dk fp_hdX12_read_107.1.2.2.2.2
theorem dX12_read_136 : decode cX12_read 136 = .ok (.irem, 1) := fp_dk fp_hdX12_read_107.2.1.1.1.1
theorem dX12_read_137 : decode cX12_read 137 = .ok (.iconst 3, 1) := fp_dk fp_hdX12_read_107.2.1.1.1.2
theorem dX12_read_138 : decode cX12_read 138 = .ok (.if_icmp .ne 77, 3) := fp_dk fp_hdX12_read_107.2.1.1.2.1
theorem dX12_read_141 : decode cX12_read 141 = .ok (.bipush 40, 2) := fp_dk fp_hdX12_read_107.2.1.1.2.2
theorem dX12_read_143 : decode cX12_read 143 = .ok (.iload_n 1, 1) := fp_dk fp_hdX12_read_107.2.1.2.1.1
theorem dX12_read_144 : decode cX12_read 144 = .ok (.imul, 1) := fp_dk fp_hdX12_read_107.2.1.2.1.2
theorem dX12_read_145 : decode cX12_read 145 = .ok (.iload_n 3, 1) := fp_dk fp_hdX12_read_107.2.1.2.2.1
theorem dX12_read_146 : decode cX12_read 146 = .ok (.iadd, 1) := fp_dk fp_hdX12_read_107.2.1.2.2.2
theorem dX12_read_147 : decode cX12_read 147 = .ok (.iload 8, 2) := fp_dk fp_hdX12_read_107.2.2.1.1.1
theorem dX12_read_149 : decode cX12_read 149 = .ok (.iadd, 1) := fp_dk fp_hdX12_read_107.2.2.1.1.2
theorem dX12_read_150 : decode cX12_read 150 = .ok (.istore 9, 2) := fp_dk fp_hdX12_read_107.2.2.1.2.1
theorem dX12_read_152 : decode cX12_read 152 = .ok (.aload_n 0, 1) := fp_dk fp_hdX12_read_107.2.2.1.2.2
theorem dX12_read_153 : decode cX12_read 153 = .ok (.aload_n 0, 1) := fp_dk fp_hdX12_read_107.2.2.2.1.1
theorem dX12_read_154 : decode cX12_read 154 = .ok (.getfield 88, 3) := fp_dk fp_hdX12_read_107.2.2.2.1.2
theorem dX12_read_157 : decode cX12_read 157 = .ok (.iload 9, 2) := fp_dk fp_hdX12_read_107.2.2.2.2.1
theorem dX12_read_159 : decode cX12_read 159 = .ok (.iconst 3, 1) := fp_dk fp_hdX12_read_107.2.2.2.2.2
theorem fp_hdX12_read_160 : (((((fp_dq cX12_read 160 (.isub, 1) = true ∧ fp_dq cX12_read 161 (.iaload, 1) = true) ∧ (fp_dq cX12_read 162 (.aload_n 0, 1) = true ∧ fp_dq cX12_read 163 (.getfield 88, 3) = true)) ∧ ((fp_dq cX12_read 166 (.iload 9, 2) = true ∧ fp_dq cX12_read 168 (.iconst 2, 1) = true) ∧ (fp_dq cX12_read 169 (.isub, 1) = true ∧ fp_dq cX12_read 170 (.iaload, 1) = true))) ∧ (((fp_dq cX12_read 171 (.aload_n 0, 1) = true ∧ fp_dq cX12_read 172 (.getfield 88, 3) = true) ∧ (fp_dq cX12_read 175 (.iload 9, 2) = true ∧ fp_dq cX12_read 177 (.iconst 1, 1) = true)) ∧ ((fp_dq cX12_read 178 (.isub, 1) = true ∧ fp_dq cX12_read 179 (.iaload, 1) = true) ∧ (fp_dq cX12_read 180 (.aload_n 0, 1) = true ∧ fp_dq cX12_read 181 (.getfield 88, 3) = true)))) ∧ ((((fp_dq cX12_read 184 (.iload 9, 2) = true ∧ fp_dq cX12_read 186 (.iaload, 1) = true) ∧ (fp_dq cX12_read 187 (.invokevirtual 253, 3) = true ∧ fp_dq cX12_read 190 (.ifCond .ge 7, 3) = true)) ∧ ((fp_dq cX12_read 193 (.iconst 1, 1) = true ∧ fp_dq cX12_read 194 (.goto 4, 3) = true) ∧ (fp_dq cX12_read 197 (.iconst 0, 1) = true ∧ fp_dq cX12_read 198 (.istore 7, 2) = true))) ∧ (((fp_dq cX12_read 200 (.iload 6, 2) = true ∧ fp_dq cX12_read 202 (.iload 7, 2) = true) ∧ (fp_dq cX12_read 204 (.ifCond .eq 7, 3) = true ∧ fp_dq cX12_read 207 (.iconst 0, 1) = true)) ∧ ((fp_dq cX12_read 208 (.goto 4, 3) = true ∧ fp_dq cX12_read 211 (.iconst 1, 1) = true) ∧ (fp_dq cX12_read 212 (.iadd, 1) = true ∧ fp_dq cX12_read 213 (.istore 6, 2) = true))))) := by decide +kernel
theorem dX12_read_160 : decode cX12_read 160 = .ok (.isub, 1) := fp_dk fp_hdX12_read_160.1.1.1.1.1
theorem dX12_read_161 : decode cX12_read 161 = .ok (.iaload, 1) := fp_dk fp_hdX12_read_160.1.1.1.1.2
theorem dX12_read_162 : decode cX12_read 162 = .ok (.aload_n 0, 1) := fp_dk fp_hdX12_read_160.1.1.1.2.1
theorem dX12_read_163 : decode cX12_read 163 = .ok (.getfield 88, 3) := fp_dk fp_hdX12_read_160.1.1.1.2.2
theorem dX12_read_166 : decode cX12_read 166 = .ok (.iload 9, 2) := fp_dk fp_hdX12_read_160.1.1.2.1.1
theorem dX12_read_168 : decode cX12_read 168 = .ok (.iconst 2, 1) := fp_dk fp_hdX12_read_160.1.1.2.1.2
theorem dX12_read_169 : decode cX12_read 169 = .ok (.isub, 1) := fp_dk fp_hdX12_read_160.1.1.2.2.1
theorem dX12_read_170 : decode cX12_read 170 = .ok (.iaload, 1) := fp_dk fp_hdX12_read_160.1.1.2.2.2
theorem dX12_read_171 : decode cX12_read 171 = .ok (.aload_n 0, 1) := fp_dk fp_hdX12_read_160.1.2.1.1.1
theorem dX12_read_172 : decode cX12_read 172 = .ok (.getfield 88, 3) := fp_dk fp_hdX12_read_160.1.2.1.1.2
theorem dX12_read_175 : decode cX12_read 175 = .ok (.iload 9, 2) := fp_dk fp_hdX12_read_160.1.2.1.2.1
theorem dX12_read_177 : decode cX12_read 177 = .ok (.iconst 1, 1) := fp_dk fp_hdX12_read_160.1.2.1.2.2
theorem dX12_read_178 : decode cX12_read 178 = .ok (.isub, 1) := fp_dk fp_hdX12_read_160.1.2.2.1.1
theorem dX12_read_179 : decode cX12_read 179 = .ok (.iaload, 1) := fp_dk fp_hdX12_read_160.1.2.2.1.2
theorem dX12_read_180 : decode cX12_read 180 = .ok (.aload_n 0, 1) := fp_dk fp_hdX12_read_160.1.2.2.2.1
theorem dX12_read_181 : decode cX12_read 181 = .ok (.getfield 88, 3) := fp_dk fp_hdX12_read_160.1.2.2.2.2
theorem dX12_read_184 : decode cX12_read 184 = .ok (.iload 9, 2) := fp_dk fp_hdX12_read_160.2.1.1.1.1
theorem dX12_read_186 : decode cX12_read 186 = .ok (.iaload, 1) := fp_dk fp_hdX12_read_160.2.1.1.1.2
theorem dX12_read_187 : decode cX12_read 187 = .ok (.invokevirtual 253, 3) := fp_dk fp_hdX12_read_160.2.1.1.2.1
theorem dX12_read_190 : decode cX12_read 190 = .ok (.ifCond .ge 7, 3) := fp_dk fp_hdX12_read_160.2.1.1.2.2
theorem dX12_read_193 : decode cX12_read 193 = .ok (.iconst 1, 1) := fp_dk fp_hdX12_read_160.2.1.2.1.1
theorem dX12_read_194 : decode cX12_read 194 = .ok (.goto 4, 3) := fp_dk fp_hdX12_read_160.2.1.2.1.2
theorem dX12_read_197 : decode cX12_read 197 = .ok (.iconst 0, 1) := fp_dk fp_hdX12_read_160.2.1.2.2.1
theorem dX12_read_198 : decode cX12_read 198 = .ok (.istore 7, 2) := fp_dk fp_hdX12_read_160.2.1.2.2.2
theorem dX12_read_200 : decode cX12_read 200 = .ok (.iload 6, 2) := fp_dk fp_hdX12_read_160.2.2.1.1.1
theorem dX12_read_202 : decode cX12_read 202 = .ok (.iload 7, 2) := fp_dk fp_hdX12_read_160.2.2.1.1.2
theorem dX12_read_204 : decode cX12_read 204 = .ok (.ifCond .eq 7, 3) := fp_dk fp_hdX12_read_160.2.2.1.2.1
theorem dX12_read_207 : decode cX12_read 207 = .ok (.iconst 0, 1) := fp_dk fp_hdX12_read_160.2.2.1.2.2
theorem dX12_read_208 : decode cX12_read 208 = .ok (.goto 4, 3) := fp_dk fp_hdX12_read_160.2.2.2.1.1
theorem dX12_read_211 : decode cX12_read 211 = .ok (.iconst 1, 1) := fp_dk fp_hdX12_read_160.2.2.2.1.2
theorem dX12_read_212 : decode cX12_read 212 = .ok (.iadd, 1) := fp_dk fp_hdX12_read_160.2.2.2.2.1
theorem dX12_read_213 : decode cX12_read 213 = .ok (.istore 6, 2) := fp_dk fp_hdX12_read_160.2.2.2.2.2
theorem fp_hdX12_read_215 : (((((fp_dq cX12_read 215 (.iinc 8 1, 3) = true ∧ fp_dq cX12_read 218 (.goto (-167), 3) = true) ∧ (fp_dq cX12_read 221 (.iload 7, 2) = true ∧ fp_dq cX12_read 223 (.ifCond .eq 21, 3) = true)) ∧ ((fp_dq cX12_read 226 (.aload_n 0, 1) = true ∧ fp_dq cX12_read 227 (.getfield 7, 3) = true) ∧ (fp_dq cX12_read 230 (.bipush 95, 2) = true ∧ fp_dq cX12_read 232 (.dup2, 1) = true))) ∧ (((fp_dq cX12_read 233 (.iaload, 1) = true ∧ fp_dq cX12_read 234 (.iload 6, 2) = true) ∧ (fp_dq cX12_read 236 (.isub, 1) = true ∧ fp_dq cX12_read 237 (.iastore, 1) = true)) ∧ ((fp_dq cX12_read 238 (.bipush (-20), 2) = true ∧ fp_dq cX12_read 240 (.iload 6, 2) = true) ∧ (fp_dq cX12_read 242 (.isub, 1) = true ∧ fp_dq cX12_read 243 (.ireturn, 1) = true)))) ∧ ((((fp_dq cX12_read 244 (.aload_n 0, 1) = true ∧ fp_dq cX12_read 245 (.iload 5, 2) = true) ∧ (fp_dq cX12_read 247 (.putfield 330, 3) = true ∧ fp_dq cX12_read 250 (.iload 6, 2) = true)) ∧ ((fp_dq cX12_read 252 (.ireturn, 1) = true ∧ fp_dq cX12_torn 0 (.aload_n 0, 1) = true) ∧ (fp_dq cX12_torn 1 (.getfield 330, 3) = true ∧ fp_dq cX12_torn 4 (.ireturn, 1) = true))) ∧ (((fp_dq cX12_count 0 (.iload_n 1, 1) = true ∧ fp_dq cX12_count 1 (.tableswitch 124 0 6 #[43, 48, 53, 58, 66, 96, 101], 43) = true) ∧ (fp_dq cX12_count 44 (.aload_n 0, 1) = true ∧ fp_dq cX12_count 45 (.getfield 181, 3) = true)) ∧ ((fp_dq cX12_count 48 (.ireturn, 1) = true ∧ fp_dq cX12_count 49 (.aload_n 0, 1) = true) ∧ (fp_dq cX12_count 50 (.getfield 184, 3) = true ∧ fp_dq cX12_count 53 (.ireturn, 1) = true))))) := by decide +kernel
theorem dX12_read_215 : decode cX12_read 215 = .ok (.iinc 8 1, 3) := fp_dk fp_hdX12_read_215.1.1.1.1.1
theorem dX12_read_218 : decode cX12_read 218 = .ok (.goto (-167), 3) := fp_dk fp_hdX12_read_215.1.1.1.1.2
theorem dX12_read_221 : decode cX12_read 221 = .ok (.iload 7, 2) := fp_dk fp_hdX12_read_215.1.1.1.2.1
theorem dX12_read_223 : decode cX12_read 223 = .ok (.ifCond .eq 21, 3) := fp_dk fp_hdX12_read_215.1.1.1.2.2
theorem dX12_read_226 : decode cX12_read 226 = .ok (.aload_n 0, 1) := fp_dk fp_hdX12_read_215.1.1.2.1.1
theorem dX12_read_227 : decode cX12_read 227 = .ok (.getfield 7, 3) := fp_dk fp_hdX12_read_215.1.1.2.1.2
theorem dX12_read_230 : decode cX12_read 230 = .ok (.bipush 95, 2) := fp_dk fp_hdX12_read_215.1.1.2.2.1
theorem dX12_read_232 : decode cX12_read 232 = .ok (.dup2, 1) := fp_dk fp_hdX12_read_215.1.1.2.2.2
theorem dX12_read_233 : decode cX12_read 233 = .ok (.iaload, 1) := fp_dk fp_hdX12_read_215.1.2.1.1.1
theorem dX12_read_234 : decode cX12_read 234 = .ok (.iload 6, 2) := fp_dk fp_hdX12_read_215.1.2.1.1.2
theorem dX12_read_236 : decode cX12_read 236 = .ok (.isub, 1) := fp_dk fp_hdX12_read_215.1.2.1.2.1
theorem dX12_read_237 : decode cX12_read 237 = .ok (.iastore, 1) := fp_dk fp_hdX12_read_215.1.2.1.2.2
theorem dX12_read_238 : decode cX12_read 238 = .ok (.bipush (-20), 2) := fp_dk fp_hdX12_read_215.1.2.2.1.1
theorem dX12_read_240 : decode cX12_read 240 = .ok (.iload 6, 2) := fp_dk fp_hdX12_read_215.1.2.2.1.2
theorem dX12_read_242 : decode cX12_read 242 = .ok (.isub, 1) := fp_dk fp_hdX12_read_215.1.2.2.2.1
theorem dX12_read_243 : decode cX12_read 243 = .ok (.ireturn, 1) := fp_dk fp_hdX12_read_215.1.2.2.2.2
theorem dX12_read_244 : decode cX12_read 244 = .ok (.aload_n 0, 1) := fp_dk fp_hdX12_read_215.2.1.1.1.1
theorem dX12_read_245 : decode cX12_read 245 = .ok (.iload 5, 2) := fp_dk fp_hdX12_read_215.2.1.1.1.2
theorem dX12_read_247 : decode cX12_read 247 = .ok (.putfield 330, 3) := fp_dk fp_hdX12_read_215.2.1.1.2.1
theorem dX12_read_250 : decode cX12_read 250 = .ok (.iload 6, 2) := fp_dk fp_hdX12_read_215.2.1.1.2.2
theorem dX12_read_252 : decode cX12_read 252 = .ok (.ireturn, 1) := fp_dk fp_hdX12_read_215.2.1.2.1.1
theorem dX12_torn_0 : decode cX12_torn 0 = .ok (.aload_n 0, 1) := fp_dk fp_hdX12_read_215.2.1.2.1.2
theorem dX12_torn_1 : decode cX12_torn 1 = .ok (.getfield 330, 3) := fp_dk fp_hdX12_read_215.2.1.2.2.1
theorem dX12_torn_4 : decode cX12_torn 4 = .ok (.ireturn, 1) := fp_dk fp_hdX12_read_215.2.1.2.2.2
theorem dX12_count_0 : decode cX12_count 0 = .ok (.iload_n 1, 1) := fp_dk fp_hdX12_read_215.2.2.1.1.1
theorem dX12_count_1 : decode cX12_count 1 = .ok (.tableswitch 124 0 6 #[43, 48, 53, 58, 66, 96, 101], 43) := fp_dk fp_hdX12_read_215.2.2.1.1.2
theorem dX12_count_44 : decode cX12_count 44 = .ok (.aload_n 0, 1) := fp_dk fp_hdX12_read_215.2.2.1.2.1
theorem dX12_count_45 : decode cX12_count 45 = .ok (.getfield 181, 3) := fp_dk fp_hdX12_read_215.2.2.1.2.2
theorem dX12_count_48 : decode cX12_count 48 = .ok (.ireturn, 1) := fp_dk fp_hdX12_read_215.2.2.2.1.1
theorem dX12_count_49 : decode cX12_count 49 = .ok (.aload_n 0, 1) := fp_dk fp_hdX12_read_215.2.2.2.1.2
theorem dX12_count_50 : decode cX12_count 50 = .ok (.getfield 184, 3) := fp_dk fp_hdX12_read_215.2.2.2.2.1
theorem dX12_count_53 : decode cX12_count 53 = .ok (.ireturn, 1) := fp_dk fp_hdX12_read_215.2.2.2.2.2
theorem fp_hdX12_count_54 : (((((fp_dq cX12_count 54 (.aload_n 0, 1) = true ∧ fp_dq cX12_count 55 (.invokevirtual 225, 3) = true) ∧ (fp_dq cX12_count 58 (.ireturn, 1) = true ∧ fp_dq cX12_count 59 (.aload_n 0, 1) = true)) ∧ ((fp_dq cX12_count 60 (.getfield 7, 3) = true ∧ fp_dq cX12_count 63 (.bipush 104, 2) = true) ∧ (fp_dq cX12_count 65 (.iaload, 1) = true ∧ fp_dq cX12_count 66 (.ireturn, 1) = true))) ∧ (((fp_dq cX12_count 67 (.aload_n 0, 1) = true ∧ fp_dq cX12_count 68 (.getfield 78, 3) = true) ∧ (fp_dq cX12_count 71 (.iconst 0, 1) = true ∧ fp_dq cX12_count 72 (.baload, 1) = true)) ∧ ((fp_dq cX12_count 73 (.ifCond .eq 7, 3) = true ∧ fp_dq cX12_count 76 (.iconst 1, 1) = true) ∧ (fp_dq cX12_count 77 (.goto 4, 3) = true ∧ fp_dq cX12_count 80 (.iconst 0, 1) = true)))) ∧ ((((fp_dq cX12_count 81 (.aload_n 0, 1) = true ∧ fp_dq cX12_count 82 (.getfield 78, 3) = true) ∧ (fp_dq cX12_count 85 (.iconst 1, 1) = true ∧ fp_dq cX12_count 86 (.baload, 1) = true)) ∧ ((fp_dq cX12_count 87 (.ifCond .eq 7, 3) = true ∧ fp_dq cX12_count 90 (.iconst 1, 1) = true) ∧ (fp_dq cX12_count 91 (.goto 4, 3) = true ∧ fp_dq cX12_count 94 (.iconst 0, 1) = true))) ∧ (((fp_dq cX12_count 95 (.iadd, 1) = true ∧ fp_dq cX12_count 96 (.ireturn, 1) = true) ∧ (fp_dq cX12_count 97 (.aload_n 0, 1) = true ∧ fp_dq cX12_count 98 (.getfield 91, 3) = true)) ∧ ((fp_dq cX12_count 101 (.ireturn, 1) = true ∧ fp_dq cX12_count 102 (.aload_n 0, 1) = true) ∧ (fp_dq cX12_count 103 (.getfield 82, 3) = true ∧ fp_dq cX12_count 106 (.iconst 0, 1) = true))))) := by decide +kernel
theorem dX12_count_54 : decode cX12_count 54 = .ok (.aload_n 0, 1) := fp_dk fp_hdX12_count_54.1.1.1.1.1
theorem dX12_count_55 : decode cX12_count 55 = .ok (.invokevirtual 225, 3) := fp_dk fp_hdX12_count_54.1.1.1.1.2
theorem dX12_count_58 : decode cX12_count 58 = .ok (.ireturn, 1) := fp_dk fp_hdX12_count_54.1.1.1.2.1
theorem dX12_count_59 : decode cX12_count 59 = .ok (.aload_n 0, 1) := fp_dk fp_hdX12_count_54.1.1.1.2.2
theorem dX12_count_60 : decode cX12_count 60 = .ok (.getfield 7, 3) := fp_dk fp_hdX12_count_54.1.1.2.1.1
theorem dX12_count_63 : decode cX12_count 63 = .ok (.bipush 104, 2) := fp_dk fp_hdX12_count_54.1.1.2.1.2
theorem dX12_count_65 : decode cX12_count 65 = .ok (.iaload, 1) := fp_dk fp_hdX12_count_54.1.1.2.2.1
theorem dX12_count_66 : decode cX12_count 66 = .ok (.ireturn, 1) := fp_dk fp_hdX12_count_54.1.1.2.2.2
theorem dX12_count_67 : decode cX12_count 67 = .ok (.aload_n 0, 1) := fp_dk fp_hdX12_count_54.1.2.1.1.1
theorem dX12_count_68 : decode cX12_count 68 = .ok (.getfield 78, 3) := fp_dk fp_hdX12_count_54.1.2.1.1.2
theorem dX12_count_71 : decode cX12_count 71 = .ok (.iconst 0, 1) := fp_dk fp_hdX12_count_54.1.2.1.2.1
theorem dX12_count_72 : decode cX12_count 72 = .ok (.baload, 1) := fp_dk fp_hdX12_count_54.1.2.1.2.2
theorem dX12_count_73 : decode cX12_count 73 = .ok (.ifCond .eq 7, 3) := fp_dk fp_hdX12_count_54.1.2.2.1.1
theorem dX12_count_76 : decode cX12_count 76 = .ok (.iconst 1, 1) := fp_dk fp_hdX12_count_54.1.2.2.1.2
theorem dX12_count_77 : decode cX12_count 77 = .ok (.goto 4, 3) := fp_dk fp_hdX12_count_54.1.2.2.2.1
theorem dX12_count_80 : decode cX12_count 80 = .ok (.iconst 0, 1) := fp_dk fp_hdX12_count_54.1.2.2.2.2
theorem dX12_count_81 : decode cX12_count 81 = .ok (.aload_n 0, 1) := fp_dk fp_hdX12_count_54.2.1.1.1.1
theorem dX12_count_82 : decode cX12_count 82 = .ok (.getfield 78, 3) := fp_dk fp_hdX12_count_54.2.1.1.1.2
theorem dX12_count_85 : decode cX12_count 85 = .ok (.iconst 1, 1) := fp_dk fp_hdX12_count_54.2.1.1.2.1
theorem dX12_count_86 : decode cX12_count 86 = .ok (.baload, 1) := fp_dk fp_hdX12_count_54.2.1.1.2.2
theorem dX12_count_87 : decode cX12_count 87 = .ok (.ifCond .eq 7, 3) := fp_dk fp_hdX12_count_54.2.1.2.1.1
theorem dX12_count_90 : decode cX12_count 90 = .ok (.iconst 1, 1) := fp_dk fp_hdX12_count_54.2.1.2.1.2
theorem dX12_count_91 : decode cX12_count 91 = .ok (.goto 4, 3) := fp_dk fp_hdX12_count_54.2.1.2.2.1
theorem dX12_count_94 : decode cX12_count 94 = .ok (.iconst 0, 1) := fp_dk fp_hdX12_count_54.2.1.2.2.2
theorem dX12_count_95 : decode cX12_count 95 = .ok (.iadd, 1) := fp_dk fp_hdX12_count_54.2.2.1.1.1
theorem dX12_count_96 : decode cX12_count 96 = .ok (.ireturn, 1) := fp_dk fp_hdX12_count_54.2.2.1.1.2
theorem dX12_count_97 : decode cX12_count 97 = .ok (.aload_n 0, 1) := fp_dk fp_hdX12_count_54.2.2.1.2.1
theorem dX12_count_98 : decode cX12_count 98 = .ok (.getfield 91, 3) := fp_dk fp_hdX12_count_54.2.2.1.2.2
theorem dX12_count_101 : decode cX12_count 101 = .ok (.ireturn, 1) := fp_dk fp_hdX12_count_54.2.2.2.1.1
theorem dX12_count_102 : decode cX12_count 102 = .ok (.aload_n 0, 1) := fp_dk fp_hdX12_count_54.2.2.2.1.2
theorem dX12_count_103 : decode cX12_count 103 = .ok (.getfield 82, 3) := fp_dk fp_hdX12_count_54.2.2.2.2.1
theorem dX12_count_106 : decode cX12_count 106 = .ok (.iconst 0, 1) := fp_dk fp_hdX12_count_54.2.2.2.2.2
theorem fp_hdX12_count_107 : ((((fp_dq cX12_count 107 (.iaload, 1) = true ∧ fp_dq cX12_count 108 (.bipush (-4), 2) = true) ∧ fp_dq cX12_count 110 (.if_icmp .ne 8, 3) = true) ∧ ((fp_dq cX12_count 113 (.bipush (-4), 2) = true ∧ fp_dq cX12_count 115 (.goto 9, 3) = true) ∧ fp_dq cX12_count 118 (.aload_n 0, 1) = true)) ∧ (((fp_dq cX12_count 119 (.getfield 85, 3) = true ∧ fp_dq cX12_count 122 (.iconst 0, 1) = true) ∧ fp_dq cX12_count 123 (.iaload, 1) = true) ∧ ((fp_dq cX12_count 124 (.ireturn, 1) = true ∧ fp_dq cX12_count 125 (.iconst (-1), 1) = true) ∧ fp_dq cX12_count 126 (.ireturn, 1) = true))) := by decide +kernel
theorem dX12_count_107 : decode cX12_count 107 = .ok (.iaload, 1) := fp_dk fp_hdX12_count_107.1.1.1.1
theorem dX12_count_108 : decode cX12_count 108 = .ok (.bipush (-4), 2) := fp_dk fp_hdX12_count_107.1.1.1.2
theorem dX12_count_110 : decode cX12_count 110 = .ok (.if_icmp .ne 8, 3) := fp_dk fp_hdX12_count_107.1.1.2
theorem dX12_count_113 : decode cX12_count 113 = .ok (.bipush (-4), 2) := fp_dk fp_hdX12_count_107.1.2.1.1
theorem dX12_count_115 : decode cX12_count 115 = .ok (.goto 9, 3) := fp_dk fp_hdX12_count_107.1.2.1.2
theorem dX12_count_118 : decode cX12_count 118 = .ok (.aload_n 0, 1) := fp_dk fp_hdX12_count_107.1.2.2
theorem dX12_count_119 : decode cX12_count 119 = .ok (.getfield 85, 3) := fp_dk fp_hdX12_count_107.2.1.1.1
theorem dX12_count_122 : decode cX12_count 122 = .ok (.iconst 0, 1) := fp_dk fp_hdX12_count_107.2.1.1.2
theorem dX12_count_123 : decode cX12_count 123 = .ok (.iaload, 1) := fp_dk fp_hdX12_count_107.2.1.2
theorem dX12_count_124 : decode cX12_count 124 = .ok (.ireturn, 1) := fp_dk fp_hdX12_count_107.2.2.1.1
theorem dX12_count_125 : decode cX12_count 125 = .ok (.iconst (-1), 1) := fp_dk fp_hdX12_count_107.2.2.1.2
theorem dX12_count_126 : decode cX12_count 126 = .ok (.ireturn, 1) := fp_dk fp_hdX12_count_107.2.2.2
