/-! BY PROGRAM (tools/chunk.py): what stands at each place of the code -/
def fp_dq (c : ByteArray) (pc : Nat) (r : Instr × Nat) : Bool := decide (decode c pc = .ok r)
theorem fp_dk {c : ByteArray} {pc : Nat} {r : Instr × Nat} (h : fp_dq c pc r = true) : decode c pc = .ok r := of_decide_eq_true h
theorem fp_hdX0_init_0 : (((((fp_dq cX0_init 0 (.aload_n 0, 1) = true ∧ fp_dq cX0_init 1 (.invokespecial 3, 3) = true) ∧ (fp_dq cX0_init 4 (.aload_n 0, 1) = true ∧ fp_dq cX0_init 5 (.iconst 2, 1) = true)) ∧ ((fp_dq cX0_init 6 (.newarray .int, 2) = true ∧ fp_dq cX0_init 8 (.putfield 9, 3) = true) ∧ (fp_dq cX0_init 11 (.aload_n 0, 1) = true ∧ fp_dq cX0_init 12 (.iconst 2, 1) = true))) ∧ (((fp_dq cX0_init 13 (.newarray .int, 2) = true ∧ fp_dq cX0_init 15 (.putfield 15, 3) = true) ∧ (fp_dq cX0_init 18 (.aload_n 0, 1) = true ∧ fp_dq cX0_init 19 (.bipush 7, 2) = true)) ∧ ((fp_dq cX0_init 21 (.bipush 8, 2) = true ∧ fp_dq cX0_init 23 (.multianewarray 18 2, 4) = true) ∧ (fp_dq cX0_init 27 (.putfield 20, 3) = true ∧ fp_dq cX0_init 30 (.aload_n 0, 1) = true)))) ∧ ((((fp_dq cX0_init 31 (.bipush 7, 2) = true ∧ fp_dq cX0_init 33 (.newarray .int, 2) = true) ∧ (fp_dq cX0_init 35 (.putfield 23, 3) = true ∧ fp_dq cX0_init 38 (.return_, 1) = true)) ∧ ((fp_dq cX0_prepare 0 (.aload_n 1, 1) = true ∧ fp_dq cX0_prepare 1 (.getfield 26, 3) = true) ∧ (fp_dq cX0_prepare 4 (.iload_n 2, 1) = true ∧ fp_dq cX0_prepare 5 (.bipush 8, 2) = true))) ∧ (((fp_dq cX0_prepare 7 (.imul, 1) = true ∧ fp_dq cX0_prepare 8 (.aload_n 0, 1) = true) ∧ (fp_dq cX0_prepare 9 (.getfield 20, 3) = true ∧ fp_dq cX0_prepare 12 (.iconst 0, 1) = true)) ∧ ((fp_dq cX0_prepare 13 (.aaload, 1) = true ∧ fp_dq cX0_prepare 14 (.iconst 0, 1) = true) ∧ (fp_dq cX0_prepare 15 (.bipush 8, 2) = true ∧ fp_dq cX0_prepare 17 (.invokestatic 31, 3) = true))))) := by decide +kernel
theorem dX0_init_0 : decode cX0_init 0 = .ok (.aload_n 0, 1) := fp_dk fp_hdX0_init_0.1.1.1.1.1
theorem dX0_init_1 : decode cX0_init 1 = .ok (.invokespecial 3, 3) := fp_dk fp_hdX0_init_0.1.1.1.1.2
theorem dX0_init_4 : decode cX0_init 4 = .ok (.aload_n 0, 1) := fp_dk fp_hdX0_init_0.1.1.1.2.1
theorem dX0_init_5 : decode cX0_init 5 = .ok (.iconst 2, 1) := fp_dk fp_hdX0_init_0.1.1.1.2.2
theorem dX0_init_6 : decode cX0_init 6 = .ok (.newarray .int, 2) := fp_dk fp_hdX0_init_0.1.1.2.1.1
theorem dX0_init_8 : decode cX0_init 8 = .ok (.putfield 9, 3) := fp_dk fp_hdX0_init_0.1.1.2.1.2
theorem dX0_init_11 : decode cX0_init 11 = .ok (.aload_n 0, 1) := fp_dk fp_hdX0_init_0.1.1.2.2.1
theorem dX0_init_12 : decode cX0_init 12 = .ok (.iconst 2, 1) := fp_dk fp_hdX0_init_0.1.1.2.2.2
theorem dX0_init_13 : decode cX0_init 13 = .ok (.newarray .int, 2) := fp_dk fp_hdX0_init_0.1.2.1.1.1
theorem dX0_init_15 : decode cX0_init 15 = .ok (.putfield 15, 3) := fp_dk fp_hdX0_init_0.1.2.1.1.2
theorem dX0_init_18 : decode cX0_init 18 = .ok (.aload_n 0, 1) := fp_dk fp_hdX0_init_0.1.2.1.2.1
theorem dX0_init_19 : decode cX0_init 19 = .ok (.bipush 7, 2) := fp_dk fp_hdX0_init_0.1.2.1.2.2
theorem dX0_init_21 : decode cX0_init 21 = .ok (.bipush 8, 2) := fp_dk fp_hdX0_init_0.1.2.2.1.1
theorem dX0_init_23 : decode cX0_init 23 = .ok (.multianewarray 18 2, 4) := fp_dk fp_hdX0_init_0.1.2.2.1.2
theorem dX0_init_27 : decode cX0_init 27 = .ok (.putfield 20, 3) := fp_dk fp_hdX0_init_0.1.2.2.2.1
theorem dX0_init_30 : decode cX0_init 30 = .ok (.aload_n 0, 1) := fp_dk fp_hdX0_init_0.1.2.2.2.2
theorem dX0_init_31 : decode cX0_init 31 = .ok (.bipush 7, 2) := fp_dk fp_hdX0_init_0.2.1.1.1.1
theorem dX0_init_33 : decode cX0_init 33 = .ok (.newarray .int, 2) := fp_dk fp_hdX0_init_0.2.1.1.1.2
theorem dX0_init_35 : decode cX0_init 35 = .ok (.putfield 23, 3) := fp_dk fp_hdX0_init_0.2.1.1.2.1
theorem dX0_init_38 : decode cX0_init 38 = .ok (.return_, 1) := fp_dk fp_hdX0_init_0.2.1.1.2.2
theorem dX0_prepare_0 : decode cX0_prepare 0 = .ok (.aload_n 1, 1) := fp_dk fp_hdX0_init_0.2.1.2.1.1
theorem dX0_prepare_1 : decode cX0_prepare 1 = .ok (.getfield 26, 3) := fp_dk fp_hdX0_init_0.2.1.2.1.2
theorem dX0_prepare_4 : decode cX0_prepare 4 = .ok (.iload_n 2, 1) := fp_dk fp_hdX0_init_0.2.1.2.2.1
theorem dX0_prepare_5 : decode cX0_prepare 5 = .ok (.bipush 8, 2) := fp_dk fp_hdX0_init_0.2.1.2.2.2
theorem dX0_prepare_7 : decode cX0_prepare 7 = .ok (.imul, 1) := fp_dk fp_hdX0_init_0.2.2.1.1.1
theorem dX0_prepare_8 : decode cX0_prepare 8 = .ok (.aload_n 0, 1) := fp_dk fp_hdX0_init_0.2.2.1.1.2
theorem dX0_prepare_9 : decode cX0_prepare 9 = .ok (.getfield 20, 3) := fp_dk fp_hdX0_init_0.2.2.1.2.1
theorem dX0_prepare_12 : decode cX0_prepare 12 = .ok (.iconst 0, 1) := fp_dk fp_hdX0_init_0.2.2.1.2.2
theorem dX0_prepare_13 : decode cX0_prepare 13 = .ok (.aaload, 1) := fp_dk fp_hdX0_init_0.2.2.2.1.1
theorem dX0_prepare_14 : decode cX0_prepare 14 = .ok (.iconst 0, 1) := fp_dk fp_hdX0_init_0.2.2.2.1.2
theorem dX0_prepare_15 : decode cX0_prepare 15 = .ok (.bipush 8, 2) := fp_dk fp_hdX0_init_0.2.2.2.2.1
theorem dX0_prepare_17 : decode cX0_prepare 17 = .ok (.invokestatic 31, 3) := fp_dk fp_hdX0_init_0.2.2.2.2.2
theorem fp_hdX0_prepare_20 : (((((fp_dq cX0_prepare 20 (.aload_n 0, 1) = true ∧ fp_dq cX0_prepare 21 (.getfield 23, 3) = true) ∧ (fp_dq cX0_prepare 24 (.iconst 0, 1) = true ∧ fp_dq cX0_prepare 25 (.aload_n 1, 1) = true)) ∧ ((fp_dq cX0_prepare 26 (.getfield 37, 3) = true ∧ fp_dq cX0_prepare 29 (.iload_n 2, 1) = true) ∧ (fp_dq cX0_prepare 30 (.iaload, 1) = true ∧ fp_dq cX0_prepare 31 (.iastore, 1) = true))) ∧ (((fp_dq cX0_prepare 32 (.aload_n 0, 1) = true ∧ fp_dq cX0_prepare 33 (.getfield 9, 3) = true) ∧ (fp_dq cX0_prepare 36 (.iconst 0, 1) = true ∧ fp_dq cX0_prepare 37 (.iload_n 3, 1) = true)) ∧ ((fp_dq cX0_prepare 38 (.iastore, 1) = true ∧ fp_dq cX0_prepare 39 (.aload_n 0, 1) = true) ∧ (fp_dq cX0_prepare 40 (.getfield 9, 3) = true ∧ fp_dq cX0_prepare 43 (.iconst 1, 1) = true)))) ∧ ((((fp_dq cX0_prepare 44 (.iload 4, 2) = true ∧ fp_dq cX0_prepare 46 (.iastore, 1) = true) ∧ (fp_dq cX0_prepare 47 (.aload_n 0, 1) = true ∧ fp_dq cX0_prepare 48 (.getfield 15, 3) = true)) ∧ ((fp_dq cX0_prepare 51 (.iconst 0, 1) = true ∧ fp_dq cX0_prepare 52 (.iload 5, 2) = true) ∧ (fp_dq cX0_prepare 54 (.iastore, 1) = true ∧ fp_dq cX0_prepare 55 (.aload_n 0, 1) = true))) ∧ (((fp_dq cX0_prepare 56 (.getfield 15, 3) = true ∧ fp_dq cX0_prepare 59 (.iconst 1, 1) = true) ∧ (fp_dq cX0_prepare 60 (.iload 5, 2) = true ∧ fp_dq cX0_prepare 62 (.iastore, 1) = true)) ∧ ((fp_dq cX0_prepare 63 (.aload_n 0, 1) = true ∧ fp_dq cX0_prepare 64 (.iload 6, 2) = true) ∧ (fp_dq cX0_prepare 66 (.putfield 40, 3) = true ∧ fp_dq cX0_prepare 69 (.return_, 1) = true))))) := by decide +kernel
theorem dX0_prepare_20 : decode cX0_prepare 20 = .ok (.aload_n 0, 1) := fp_dk fp_hdX0_prepare_20.1.1.1.1.1
theorem dX0_prepare_21 : decode cX0_prepare 21 = .ok (.getfield 23, 3) := fp_dk fp_hdX0_prepare_20.1.1.1.1.2
theorem dX0_prepare_24 : decode cX0_prepare 24 = .ok (.iconst 0, 1) := fp_dk fp_hdX0_prepare_20.1.1.1.2.1
theorem dX0_prepare_25 : decode cX0_prepare 25 = .ok (.aload_n 1, 1) := fp_dk fp_hdX0_prepare_20.1.1.1.2.2
theorem dX0_prepare_26 : decode cX0_prepare 26 = .ok (.getfield 37, 3) := fp_dk fp_hdX0_prepare_20.1.1.2.1.1
theorem dX0_prepare_29 : decode cX0_prepare 29 = .ok (.iload_n 2, 1) := fp_dk fp_hdX0_prepare_20.1.1.2.1.2
theorem dX0_prepare_30 : decode cX0_prepare 30 = .ok (.iaload, 1) := fp_dk fp_hdX0_prepare_20.1.1.2.2.1
theorem dX0_prepare_31 : decode cX0_prepare 31 = .ok (.iastore, 1) := fp_dk fp_hdX0_prepare_20.1.1.2.2.2
theorem dX0_prepare_32 : decode cX0_prepare 32 = .ok (.aload_n 0, 1) := fp_dk fp_hdX0_prepare_20.1.2.1.1.1
theorem dX0_prepare_33 : decode cX0_prepare 33 = .ok (.getfield 9, 3) := fp_dk fp_hdX0_prepare_20.1.2.1.1.2
theorem dX0_prepare_36 : decode cX0_prepare 36 = .ok (.iconst 0, 1) := fp_dk fp_hdX0_prepare_20.1.2.1.2.1
theorem dX0_prepare_37 : decode cX0_prepare 37 = .ok (.iload_n 3, 1) := fp_dk fp_hdX0_prepare_20.1.2.1.2.2
theorem dX0_prepare_38 : decode cX0_prepare 38 = .ok (.iastore, 1) := fp_dk fp_hdX0_prepare_20.1.2.2.1.1
theorem dX0_prepare_39 : decode cX0_prepare 39 = .ok (.aload_n 0, 1) := fp_dk fp_hdX0_prepare_20.1.2.2.1.2
theorem dX0_prepare_40 : decode cX0_prepare 40 = .ok (.getfield 9, 3) := fp_dk fp_hdX0_prepare_20.1.2.2.2.1
theorem dX0_prepare_43 : decode cX0_prepare 43 = .ok (.iconst 1, 1) := fp_dk fp_hdX0_prepare_20.1.2.2.2.2
theorem dX0_prepare_44 : decode cX0_prepare 44 = .ok (.iload 4, 2) := fp_dk fp_hdX0_prepare_20.2.1.1.1.1
theorem dX0_prepare_46 : decode cX0_prepare 46 = .ok (.iastore, 1) := fp_dk fp_hdX0_prepare_20.2.1.1.1.2
theorem dX0_prepare_47 : decode cX0_prepare 47 = .ok (.aload_n 0, 1) := fp_dk fp_hdX0_prepare_20.2.1.1.2.1
theorem dX0_prepare_48 : decode cX0_prepare 48 = .ok (.getfield 15, 3) := fp_dk fp_hdX0_prepare_20.2.1.1.2.2
theorem dX0_prepare_51 : decode cX0_prepare 51 = .ok (.iconst 0, 1) := fp_dk fp_hdX0_prepare_20.2.1.2.1.1
theorem dX0_prepare_52 : decode cX0_prepare 52 = .ok (.iload 5, 2) := fp_dk fp_hdX0_prepare_20.2.1.2.1.2
theorem dX0_prepare_54 : decode cX0_prepare 54 = .ok (.iastore, 1) := fp_dk fp_hdX0_prepare_20.2.1.2.2.1
theorem dX0_prepare_55 : decode cX0_prepare 55 = .ok (.aload_n 0, 1) := fp_dk fp_hdX0_prepare_20.2.1.2.2.2
theorem dX0_prepare_56 : decode cX0_prepare 56 = .ok (.getfield 15, 3) := fp_dk fp_hdX0_prepare_20.2.2.1.1.1
theorem dX0_prepare_59 : decode cX0_prepare 59 = .ok (.iconst 1, 1) := fp_dk fp_hdX0_prepare_20.2.2.1.1.2
theorem dX0_prepare_60 : decode cX0_prepare 60 = .ok (.iload 5, 2) := fp_dk fp_hdX0_prepare_20.2.2.1.2.1
theorem dX0_prepare_62 : decode cX0_prepare 62 = .ok (.iastore, 1) := fp_dk fp_hdX0_prepare_20.2.2.1.2.2
theorem dX0_prepare_63 : decode cX0_prepare 63 = .ok (.aload_n 0, 1) := fp_dk fp_hdX0_prepare_20.2.2.2.1.1
theorem dX0_prepare_64 : decode cX0_prepare 64 = .ok (.iload 6, 2) := fp_dk fp_hdX0_prepare_20.2.2.2.1.2
theorem dX0_prepare_66 : decode cX0_prepare 66 = .ok (.putfield 40, 3) := fp_dk fp_hdX0_prepare_20.2.2.2.2.1
theorem dX0_prepare_69 : decode cX0_prepare 69 = .ok (.return_, 1) := fp_dk fp_hdX0_prepare_20.2.2.2.2.2
theorem fp_hdX0_fight_0 : (((((fp_dq cX0_fight 0 (.aload_n 0, 1) = true ∧ fp_dq cX0_fight 1 (.aload_n 1, 1) = true) ∧ (fp_dq cX0_fight 2 (.iload_n 2, 1) = true ∧ fp_dq cX0_fight 3 (.iconst 0, 1) = true)) ∧ ((fp_dq cX0_fight 4 (.invokevirtual 44, 3) = true ∧ fp_dq cX0_fight 7 (.ireturn, 1) = true) ∧ (fp_dq cX0_outcome 0 (.iload_n 3, 1) = true ∧ fp_dq cX0_outcome 1 (.bipush 6, 2) = true))) ∧ (((fp_dq cX0_outcome 3 (.if_icmp .ge 11, 3) = true ∧ fp_dq cX0_outcome 6 (.iload_n 3, 1) = true) ∧ (fp_dq cX0_outcome 7 (.aload_n 0, 1) = true ∧ fp_dq cX0_outcome 8 (.getfield 40, 3) = true)) ∧ ((fp_dq cX0_outcome 11 (.if_icmp .lt 5, 3) = true ∧ fp_dq cX0_outcome 14 (.iconst 0, 1) = true) ∧ (fp_dq cX0_outcome 15 (.ireturn, 1) = true ∧ fp_dq cX0_outcome 16 (.iload_n 3, 1) = true)))) ∧ ((((fp_dq cX0_outcome 17 (.iconst 2, 1) = true ∧ fp_dq cX0_outcome 18 (.irem, 1) = true) ∧ (fp_dq cX0_outcome 19 (.istore 4, 2) = true ∧ fp_dq cX0_outcome 21 (.iconst 0, 1) = true)) ∧ ((fp_dq cX0_outcome 22 (.istore 5, 2) = true ∧ fp_dq cX0_outcome 24 (.iconst 0, 1) = true) ∧ (fp_dq cX0_outcome 25 (.istore 6, 2) = true ∧ fp_dq cX0_outcome 27 (.iconst 0, 1) = true))) ∧ (((fp_dq cX0_outcome 28 (.istore 7, 2) = true ∧ fp_dq cX0_outcome 30 (.iload 7, 2) = true) ∧ (fp_dq cX0_outcome 32 (.iconst 3, 1) = true ∧ fp_dq cX0_outcome 33 (.if_icmp .ge 100, 3) = true)) ∧ ((fp_dq cX0_outcome 36 (.aload_n 0, 1) = true ∧ fp_dq cX0_outcome 37 (.iload 7, 2) = true) ∧ (fp_dq cX0_outcome 39 (.iload_n 3, 1) = true ∧ fp_dq cX0_outcome 40 (.iload 4, 2) = true))))) := by decide +kernel
theorem dX0_fight_0 : decode cX0_fight 0 = .ok (.aload_n 0, 1) := fp_dk fp_hdX0_fight_0.1.1.1.1.1
theorem dX0_fight_1 : decode cX0_fight 1 = .ok (.aload_n 1, 1) := fp_dk fp_hdX0_fight_0.1.1.1.1.2
theorem dX0_fight_2 : decode cX0_fight 2 = .ok (.iload_n 2, 1) := fp_dk fp_hdX0_fight_0.1.1.1.2.1
theorem dX0_fight_3 : decode cX0_fight 3 = .ok (.iconst 0, 1) := fp_dk fp_hdX0_fight_0.1.1.1.2.2
theorem dX0_fight_4 : decode cX0_fight 4 = .ok (.invokevirtual 44, 3) := fp_dk fp_hdX0_fight_0.1.1.2.1.1
theorem dX0_fight_7 : decode cX0_fight 7 = .ok (.ireturn, 1) := fp_dk fp_hdX0_fight_0.1.1.2.1.2
theorem dX0_outcome_0 : decode cX0_outcome 0 = .ok (.iload_n 3, 1) := fp_dk fp_hdX0_fight_0.1.1.2.2.1
theorem dX0_outcome_1 : decode cX0_outcome 1 = .ok (.bipush 6, 2) := fp_dk fp_hdX0_fight_0.1.1.2.2.2
theorem dX0_outcome_3 : decode cX0_outcome 3 = .ok (.if_icmp .ge 11, 3) := fp_dk fp_hdX0_fight_0.1.2.1.1.1
theorem dX0_outcome_6 : decode cX0_outcome 6 = .ok (.iload_n 3, 1) := fp_dk fp_hdX0_fight_0.1.2.1.1.2
theorem dX0_outcome_7 : decode cX0_outcome 7 = .ok (.aload_n 0, 1) := fp_dk fp_hdX0_fight_0.1.2.1.2.1
theorem dX0_outcome_8 : decode cX0_outcome 8 = .ok (.getfield 40, 3) := fp_dk fp_hdX0_fight_0.1.2.1.2.2
theorem dX0_outcome_11 : decode cX0_outcome 11 = .ok (.if_icmp .lt 5, 3) := fp_dk fp_hdX0_fight_0.1.2.2.1.1
theorem dX0_outcome_14 : decode cX0_outcome 14 = .ok (.iconst 0, 1) := fp_dk fp_hdX0_fight_0.1.2.2.1.2
theorem dX0_outcome_15 : decode cX0_outcome 15 = .ok (.ireturn, 1) := fp_dk fp_hdX0_fight_0.1.2.2.2.1
theorem dX0_outcome_16 : decode cX0_outcome 16 = .ok (.iload_n 3, 1) := fp_dk fp_hdX0_fight_0.1.2.2.2.2
theorem dX0_outcome_17 : decode cX0_outcome 17 = .ok (.iconst 2, 1) := fp_dk fp_hdX0_fight_0.2.1.1.1.1
theorem dX0_outcome_18 : decode cX0_outcome 18 = .ok (.irem, 1) := fp_dk fp_hdX0_fight_0.2.1.1.1.2
theorem dX0_outcome_19 : decode cX0_outcome 19 = .ok (.istore 4, 2) := fp_dk fp_hdX0_fight_0.2.1.1.2.1
theorem dX0_outcome_21 : decode cX0_outcome 21 = .ok (.iconst 0, 1) := fp_dk fp_hdX0_fight_0.2.1.1.2.2
theorem dX0_outcome_22 : decode cX0_outcome 22 = .ok (.istore 5, 2) := fp_dk fp_hdX0_fight_0.2.1.2.1.1
theorem dX0_outcome_24 : decode cX0_outcome 24 = .ok (.iconst 0, 1) := fp_dk fp_hdX0_fight_0.2.1.2.1.2
theorem dX0_outcome_25 : decode cX0_outcome 25 = .ok (.istore 6, 2) := fp_dk fp_hdX0_fight_0.2.1.2.2.1
theorem dX0_outcome_27 : decode cX0_outcome 27 = .ok (.iconst 0, 1) := fp_dk fp_hdX0_fight_0.2.1.2.2.2
theorem dX0_outcome_28 : decode cX0_outcome 28 = .ok (.istore 7, 2) := fp_dk fp_hdX0_fight_0.2.2.1.1.1
theorem dX0_outcome_30 : decode cX0_outcome 30 = .ok (.iload 7, 2) := fp_dk fp_hdX0_fight_0.2.2.1.1.2
theorem dX0_outcome_32 : decode cX0_outcome 32 = .ok (.iconst 3, 1) := fp_dk fp_hdX0_fight_0.2.2.1.2.1
theorem dX0_outcome_33 : decode cX0_outcome 33 = .ok (.if_icmp .ge 100, 3) := fp_dk fp_hdX0_fight_0.2.2.1.2.2
theorem dX0_outcome_36 : decode cX0_outcome 36 = .ok (.aload_n 0, 1) := fp_dk fp_hdX0_fight_0.2.2.2.1.1
theorem dX0_outcome_37 : decode cX0_outcome 37 = .ok (.iload 7, 2) := fp_dk fp_hdX0_fight_0.2.2.2.1.2
theorem dX0_outcome_39 : decode cX0_outcome 39 = .ok (.iload_n 3, 1) := fp_dk fp_hdX0_fight_0.2.2.2.2.1
theorem dX0_outcome_40 : decode cX0_outcome 40 = .ok (.iload 4, 2) := fp_dk fp_hdX0_fight_0.2.2.2.2.2
theorem fp_hdX0_outcome_42 : (((((fp_dq cX0_outcome 42 (.invokevirtual 48, 3) = true ∧ fp_dq cX0_outcome 45 (.ifCond .ne 6, 3) = true) ∧ (fp_dq cX0_outcome 48 (.goto 79, 3) = true ∧ fp_dq cX0_outcome 51 (.aload_n 0, 1) = true)) ∧ ((fp_dq cX0_outcome 52 (.aload_n 1, 1) = true ∧ fp_dq cX0_outcome 53 (.iload_n 2, 1) = true) ∧ (fp_dq cX0_outcome 54 (.iload 7, 2) = true ∧ fp_dq cX0_outcome 56 (.iload_n 3, 1) = true))) ∧ (((fp_dq cX0_outcome 57 (.iload 4, 2) = true ∧ fp_dq cX0_outcome 59 (.invokevirtual 52, 3) = true) ∧ (fp_dq cX0_outcome 62 (.istore 8, 2) = true ∧ fp_dq cX0_outcome 64 (.iload 8, 2) = true)) ∧ ((fp_dq cX0_outcome 66 (.aload_n 0, 1) = true ∧ fp_dq cX0_outcome 67 (.aload_n 1, 1) = true) ∧ (fp_dq cX0_outcome 68 (.iload_n 2, 1) = true ∧ fp_dq cX0_outcome 69 (.iload_n 3, 1) = true)))) ∧ ((((fp_dq cX0_outcome 70 (.iconst 1, 1) = true ∧ fp_dq cX0_outcome 71 (.iadd, 1) = true) ∧ (fp_dq cX0_outcome 72 (.invokevirtual 44, 3) = true ∧ fp_dq cX0_outcome 75 (.iadd, 1) = true)) ∧ ((fp_dq cX0_outcome 76 (.istore 9, 2) = true ∧ fp_dq cX0_outcome 78 (.aload_n 0, 1) = true) ∧ (fp_dq cX0_outcome 79 (.iload 7, 2) = true ∧ fp_dq cX0_outcome 81 (.iload 4, 2) = true))) ∧ (((fp_dq cX0_outcome 83 (.invokevirtual 56, 3) = true ∧ fp_dq cX0_outcome 86 (.iload 5, 2) = true) ∧ (fp_dq cX0_outcome 88 (.ifCond .eq 25, 3) = true ∧ fp_dq cX0_outcome 91 (.iload 4, 2) = true)) ∧ ((fp_dq cX0_outcome 93 (.ifCond .ne 13, 3) = true ∧ fp_dq cX0_outcome 96 (.iload 9, 2) = true) ∧ (fp_dq cX0_outcome 98 (.iload 6, 2) = true ∧ fp_dq cX0_outcome 100 (.if_icmp .le 27, 3) = true))))) := by decide +kernel
theorem dX0_outcome_42 : decode cX0_outcome 42 = .ok (.invokevirtual 48, 3) := fp_dk fp_hdX0_outcome_42.1.1.1.1.1
theorem dX0_outcome_45 : decode cX0_outcome 45 = .ok (.ifCond .ne 6, 3) := fp_dk fp_hdX0_outcome_42.1.1.1.1.2
theorem dX0_outcome_48 : decode cX0_outcome 48 = .ok (.goto 79, 3) := fp_dk fp_hdX0_outcome_42.1.1.1.2.1
theorem dX0_outcome_51 : decode cX0_outcome 51 = .ok (.aload_n 0, 1) := fp_dk fp_hdX0_outcome_42.1.1.1.2.2
theorem dX0_outcome_52 : decode cX0_outcome 52 = .ok (.aload_n 1, 1) := fp_dk fp_hdX0_outcome_42.1.1.2.1.1
theorem dX0_outcome_53 : decode cX0_outcome 53 = .ok (.iload_n 2, 1) := fp_dk fp_hdX0_outcome_42.1.1.2.1.2
theorem dX0_outcome_54 : decode cX0_outcome 54 = .ok (.iload 7, 2) := fp_dk fp_hdX0_outcome_42.1.1.2.2.1
theorem dX0_outcome_56 : decode cX0_outcome 56 = .ok (.iload_n 3, 1) := fp_dk fp_hdX0_outcome_42.1.1.2.2.2
theorem dX0_outcome_57 : decode cX0_outcome 57 = .ok (.iload 4, 2) := fp_dk fp_hdX0_outcome_42.1.2.1.1.1
theorem dX0_outcome_59 : decode cX0_outcome 59 = .ok (.invokevirtual 52, 3) := fp_dk fp_hdX0_outcome_42.1.2.1.1.2
theorem dX0_outcome_62 : decode cX0_outcome 62 = .ok (.istore 8, 2) := fp_dk fp_hdX0_outcome_42.1.2.1.2.1
theorem dX0_outcome_64 : decode cX0_outcome 64 = .ok (.iload 8, 2) := fp_dk fp_hdX0_outcome_42.1.2.1.2.2
theorem dX0_outcome_66 : decode cX0_outcome 66 = .ok (.aload_n 0, 1) := fp_dk fp_hdX0_outcome_42.1.2.2.1.1
theorem dX0_outcome_67 : decode cX0_outcome 67 = .ok (.aload_n 1, 1) := fp_dk fp_hdX0_outcome_42.1.2.2.1.2
theorem dX0_outcome_68 : decode cX0_outcome 68 = .ok (.iload_n 2, 1) := fp_dk fp_hdX0_outcome_42.1.2.2.2.1
theorem dX0_outcome_69 : decode cX0_outcome 69 = .ok (.iload_n 3, 1) := fp_dk fp_hdX0_outcome_42.1.2.2.2.2
theorem dX0_outcome_70 : decode cX0_outcome 70 = .ok (.iconst 1, 1) := fp_dk fp_hdX0_outcome_42.2.1.1.1.1
theorem dX0_outcome_71 : decode cX0_outcome 71 = .ok (.iadd, 1) := fp_dk fp_hdX0_outcome_42.2.1.1.1.2
theorem dX0_outcome_72 : decode cX0_outcome 72 = .ok (.invokevirtual 44, 3) := fp_dk fp_hdX0_outcome_42.2.1.1.2.1
theorem dX0_outcome_75 : decode cX0_outcome 75 = .ok (.iadd, 1) := fp_dk fp_hdX0_outcome_42.2.1.1.2.2
theorem dX0_outcome_76 : decode cX0_outcome 76 = .ok (.istore 9, 2) := fp_dk fp_hdX0_outcome_42.2.1.2.1.1
theorem dX0_outcome_78 : decode cX0_outcome 78 = .ok (.aload_n 0, 1) := fp_dk fp_hdX0_outcome_42.2.1.2.1.2
theorem dX0_outcome_79 : decode cX0_outcome 79 = .ok (.iload 7, 2) := fp_dk fp_hdX0_outcome_42.2.1.2.2.1
theorem dX0_outcome_81 : decode cX0_outcome 81 = .ok (.iload 4, 2) := fp_dk fp_hdX0_outcome_42.2.1.2.2.2
theorem dX0_outcome_83 : decode cX0_outcome 83 = .ok (.invokevirtual 56, 3) := fp_dk fp_hdX0_outcome_42.2.2.1.1.1
theorem dX0_outcome_86 : decode cX0_outcome 86 = .ok (.iload 5, 2) := fp_dk fp_hdX0_outcome_42.2.2.1.1.2
theorem dX0_outcome_88 : decode cX0_outcome 88 = .ok (.ifCond .eq 25, 3) := fp_dk fp_hdX0_outcome_42.2.2.1.2.1
theorem dX0_outcome_91 : decode cX0_outcome 91 = .ok (.iload 4, 2) := fp_dk fp_hdX0_outcome_42.2.2.1.2.2
theorem dX0_outcome_93 : decode cX0_outcome 93 = .ok (.ifCond .ne 13, 3) := fp_dk fp_hdX0_outcome_42.2.2.2.1.1
theorem dX0_outcome_96 : decode cX0_outcome 96 = .ok (.iload 9, 2) := fp_dk fp_hdX0_outcome_42.2.2.2.1.2
theorem dX0_outcome_98 : decode cX0_outcome 98 = .ok (.iload 6, 2) := fp_dk fp_hdX0_outcome_42.2.2.2.2.1
theorem dX0_outcome_100 : decode cX0_outcome 100 = .ok (.if_icmp .le 27, 3) := fp_dk fp_hdX0_outcome_42.2.2.2.2.2
theorem fp_hdX0_outcome_103 : (((((fp_dq cX0_outcome 103 (.goto 10, 3) = true ∧ fp_dq cX0_outcome 106 (.iload 9, 2) = true) ∧ (fp_dq cX0_outcome 108 (.iload 6, 2) = true ∧ fp_dq cX0_outcome 110 (.if_icmp .ge 17, 3) = true)) ∧ ((fp_dq cX0_outcome 113 (.iconst 1, 1) = true ∧ fp_dq cX0_outcome 114 (.istore 5, 2) = true) ∧ (fp_dq cX0_outcome 116 (.iload 9, 2) = true ∧ fp_dq cX0_outcome 118 (.istore 6, 2) = true))) ∧ (((fp_dq cX0_outcome 120 (.aload_n 0, 1) = true ∧ fp_dq cX0_outcome 121 (.iload_n 3, 1) = true) ∧ (fp_dq cX0_outcome 122 (.iload 7, 2) = true ∧ fp_dq cX0_outcome 124 (.invokevirtual 60, 3) = true)) ∧ ((fp_dq cX0_outcome 127 (.iinc 7 1, 3) = true ∧ fp_dq cX0_outcome 130 (.goto (-100), 3) = true) ∧ (fp_dq cX0_outcome 133 (.iload 6, 2) = true ∧ fp_dq cX0_outcome 135 (.ireturn, 1) = true)))) ∧ ((((fp_dq cX0_canDo 0 (.iload_n 1, 1) = true ∧ fp_dq cX0_canDo 1 (.iconst 1, 1) = true) ∧ (fp_dq cX0_canDo 2 (.if_icmp .ne 23, 3) = true ∧ fp_dq cX0_canDo 5 (.aload_n 0, 1) = true)) ∧ ((fp_dq cX0_canDo 6 (.getfield 15, 3) = true ∧ fp_dq cX0_canDo 9 (.iload_n 3, 1) = true) ∧ (fp_dq cX0_canDo 10 (.iaload, 1) = true ∧ fp_dq cX0_canDo 11 (.ifCond .le 18, 3) = true))) ∧ (((fp_dq cX0_canDo 14 (.aload_n 0, 1) = true ∧ fp_dq cX0_canDo 15 (.getfield 23, 3) = true) ∧ (fp_dq cX0_canDo 18 (.iload_n 2, 1) = true ∧ fp_dq cX0_canDo 19 (.iaload, 1) = true)) ∧ ((fp_dq cX0_canDo 20 (.bipush 8, 2) = true ∧ fp_dq cX0_canDo 22 (.if_icmp .ge 7, 3) = true) ∧ (fp_dq cX0_canDo 25 (.iconst 1, 1) = true ∧ fp_dq cX0_canDo 26 (.goto 4, 3) = true))))) := by decide +kernel
theorem dX0_outcome_103 : decode cX0_outcome 103 = .ok (.goto 10, 3) := fp_dk fp_hdX0_outcome_103.1.1.1.1.1
theorem dX0_outcome_106 : decode cX0_outcome 106 = .ok (.iload 9, 2) := fp_dk fp_hdX0_outcome_103.1.1.1.1.2
theorem dX0_outcome_108 : decode cX0_outcome 108 = .ok (.iload 6, 2) := fp_dk fp_hdX0_outcome_103.1.1.1.2.1
theorem dX0_outcome_110 : decode cX0_outcome 110 = .ok (.if_icmp .ge 17, 3) := fp_dk fp_hdX0_outcome_103.1.1.1.2.2
theorem dX0_outcome_113 : decode cX0_outcome 113 = .ok (.iconst 1, 1) := fp_dk fp_hdX0_outcome_103.1.1.2.1.1
theorem dX0_outcome_114 : decode cX0_outcome 114 = .ok (.istore 5, 2) := fp_dk fp_hdX0_outcome_103.1.1.2.1.2
theorem dX0_outcome_116 : decode cX0_outcome 116 = .ok (.iload 9, 2) := fp_dk fp_hdX0_outcome_103.1.1.2.2.1
theorem dX0_outcome_118 : decode cX0_outcome 118 = .ok (.istore 6, 2) := fp_dk fp_hdX0_outcome_103.1.1.2.2.2
theorem dX0_outcome_120 : decode cX0_outcome 120 = .ok (.aload_n 0, 1) := fp_dk fp_hdX0_outcome_103.1.2.1.1.1
theorem dX0_outcome_121 : decode cX0_outcome 121 = .ok (.iload_n 3, 1) := fp_dk fp_hdX0_outcome_103.1.2.1.1.2
theorem dX0_outcome_122 : decode cX0_outcome 122 = .ok (.iload 7, 2) := fp_dk fp_hdX0_outcome_103.1.2.1.2.1
theorem dX0_outcome_124 : decode cX0_outcome 124 = .ok (.invokevirtual 60, 3) := fp_dk fp_hdX0_outcome_103.1.2.1.2.2
theorem dX0_outcome_127 : decode cX0_outcome 127 = .ok (.iinc 7 1, 3) := fp_dk fp_hdX0_outcome_103.1.2.2.1.1
theorem dX0_outcome_130 : decode cX0_outcome 130 = .ok (.goto (-100), 3) := fp_dk fp_hdX0_outcome_103.1.2.2.1.2
theorem dX0_outcome_133 : decode cX0_outcome 133 = .ok (.iload 6, 2) := fp_dk fp_hdX0_outcome_103.1.2.2.2.1
theorem dX0_outcome_135 : decode cX0_outcome 135 = .ok (.ireturn, 1) := fp_dk fp_hdX0_outcome_103.1.2.2.2.2
theorem dX0_canDo_0 : decode cX0_canDo 0 = .ok (.iload_n 1, 1) := fp_dk fp_hdX0_outcome_103.2.1.1.1.1
theorem dX0_canDo_1 : decode cX0_canDo 1 = .ok (.iconst 1, 1) := fp_dk fp_hdX0_outcome_103.2.1.1.1.2
theorem dX0_canDo_2 : decode cX0_canDo 2 = .ok (.if_icmp .ne 23, 3) := fp_dk fp_hdX0_outcome_103.2.1.1.2.1
theorem dX0_canDo_5 : decode cX0_canDo 5 = .ok (.aload_n 0, 1) := fp_dk fp_hdX0_outcome_103.2.1.1.2.2
theorem dX0_canDo_6 : decode cX0_canDo 6 = .ok (.getfield 15, 3) := fp_dk fp_hdX0_outcome_103.2.1.2.1.1
theorem dX0_canDo_9 : decode cX0_canDo 9 = .ok (.iload_n 3, 1) := fp_dk fp_hdX0_outcome_103.2.1.2.1.2
theorem dX0_canDo_10 : decode cX0_canDo 10 = .ok (.iaload, 1) := fp_dk fp_hdX0_outcome_103.2.1.2.2.1
theorem dX0_canDo_11 : decode cX0_canDo 11 = .ok (.ifCond .le 18, 3) := fp_dk fp_hdX0_outcome_103.2.1.2.2.2
theorem dX0_canDo_14 : decode cX0_canDo 14 = .ok (.aload_n 0, 1) := fp_dk fp_hdX0_outcome_103.2.2.1.1.1
theorem dX0_canDo_15 : decode cX0_canDo 15 = .ok (.getfield 23, 3) := fp_dk fp_hdX0_outcome_103.2.2.1.1.2
theorem dX0_canDo_18 : decode cX0_canDo 18 = .ok (.iload_n 2, 1) := fp_dk fp_hdX0_outcome_103.2.2.1.2.1
theorem dX0_canDo_19 : decode cX0_canDo 19 = .ok (.iaload, 1) := fp_dk fp_hdX0_outcome_103.2.2.1.2.2
theorem dX0_canDo_20 : decode cX0_canDo 20 = .ok (.bipush 8, 2) := fp_dk fp_hdX0_outcome_103.2.2.2.1.1
theorem dX0_canDo_22 : decode cX0_canDo 22 = .ok (.if_icmp .ge 7, 3) := fp_dk fp_hdX0_outcome_103.2.2.2.1.2
theorem dX0_canDo_25 : decode cX0_canDo 25 = .ok (.iconst 1, 1) := fp_dk fp_hdX0_outcome_103.2.2.2.2.1
theorem dX0_canDo_26 : decode cX0_canDo 26 = .ok (.goto 4, 3) := fp_dk fp_hdX0_outcome_103.2.2.2.2.2
theorem fp_hdX0_canDo_29 : (((((fp_dq cX0_canDo 29 (.iconst 0, 1) = true ∧ fp_dq cX0_canDo 30 (.ireturn, 1) = true) ∧ (fp_dq cX0_perform 0 (.aload_n 0, 1) = true ∧ fp_dq cX0_perform 1 (.getfield 20, 3) = true)) ∧ ((fp_dq cX0_perform 4 (.iload 4, 2) = true ∧ fp_dq cX0_perform 6 (.aaload, 1) = true) ∧ (fp_dq cX0_perform 7 (.iconst 0, 1) = true ∧ fp_dq cX0_perform 8 (.aload_n 0, 1) = true))) ∧ (((fp_dq cX0_perform 9 (.getfield 20, 3) = true ∧ fp_dq cX0_perform 12 (.iload 4, 2) = true) ∧ (fp_dq cX0_perform 14 (.iconst 1, 1) = true ∧ fp_dq cX0_perform 15 (.iadd, 1) = true)) ∧ ((fp_dq cX0_perform 16 (.aaload, 1) = true ∧ fp_dq cX0_perform 17 (.iconst 0, 1) = true) ∧ (fp_dq cX0_perform 18 (.bipush 8, 2) = true ∧ fp_dq cX0_perform 20 (.invokestatic 31, 3) = true)))) ∧ ((((fp_dq cX0_perform 23 (.aload_n 0, 1) = true ∧ fp_dq cX0_perform 24 (.getfield 23, 3) = true) ∧ (fp_dq cX0_perform 27 (.iload 4, 2) = true ∧ fp_dq cX0_perform 29 (.iconst 1, 1) = true)) ∧ ((fp_dq cX0_perform 30 (.iadd, 1) = true ∧ fp_dq cX0_perform 31 (.aload_n 0, 1) = true) ∧ (fp_dq cX0_perform 32 (.getfield 23, 3) = true ∧ fp_dq cX0_perform 35 (.iload 4, 2) = true))) ∧ (((fp_dq cX0_perform 37 (.iaload, 1) = true ∧ fp_dq cX0_perform 38 (.iastore, 1) = true) ∧ (fp_dq cX0_perform 39 (.iload_n 3, 1) = true ∧ fp_dq cX0_perform 40 (.iconst 1, 1) = true)) ∧ ((fp_dq cX0_perform 41 (.if_icmp .ne 46, 3) = true ∧ fp_dq cX0_perform 44 (.aload_n 0, 1) = true) ∧ (fp_dq cX0_perform 45 (.getfield 20, 3) = true ∧ fp_dq cX0_perform 48 (.iload 4, 2) = true))))) := by decide +kernel
theorem dX0_canDo_29 : decode cX0_canDo 29 = .ok (.iconst 0, 1) := fp_dk fp_hdX0_canDo_29.1.1.1.1.1
theorem dX0_canDo_30 : decode cX0_canDo 30 = .ok (.ireturn, 1) := fp_dk fp_hdX0_canDo_29.1.1.1.1.2
theorem dX0_perform_0 : decode cX0_perform 0 = .ok (.aload_n 0, 1) := fp_dk fp_hdX0_canDo_29.1.1.1.2.1
theorem dX0_perform_1 : decode cX0_perform 1 = .ok (.getfield 20, 3) := fp_dk fp_hdX0_canDo_29.1.1.1.2.2
theorem dX0_perform_4 : decode cX0_perform 4 = .ok (.iload 4, 2) := fp_dk fp_hdX0_canDo_29.1.1.2.1.1
theorem dX0_perform_6 : decode cX0_perform 6 = .ok (.aaload, 1) := fp_dk fp_hdX0_canDo_29.1.1.2.1.2
theorem dX0_perform_7 : decode cX0_perform 7 = .ok (.iconst 0, 1) := fp_dk fp_hdX0_canDo_29.1.1.2.2.1
theorem dX0_perform_8 : decode cX0_perform 8 = .ok (.aload_n 0, 1) := fp_dk fp_hdX0_canDo_29.1.1.2.2.2
theorem dX0_perform_9 : decode cX0_perform 9 = .ok (.getfield 20, 3) := fp_dk fp_hdX0_canDo_29.1.2.1.1.1
theorem dX0_perform_12 : decode cX0_perform 12 = .ok (.iload 4, 2) := fp_dk fp_hdX0_canDo_29.1.2.1.1.2
theorem dX0_perform_14 : decode cX0_perform 14 = .ok (.iconst 1, 1) := fp_dk fp_hdX0_canDo_29.1.2.1.2.1
theorem dX0_perform_15 : decode cX0_perform 15 = .ok (.iadd, 1) := fp_dk fp_hdX0_canDo_29.1.2.1.2.2
theorem dX0_perform_16 : decode cX0_perform 16 = .ok (.aaload, 1) := fp_dk fp_hdX0_canDo_29.1.2.2.1.1
theorem dX0_perform_17 : decode cX0_perform 17 = .ok (.iconst 0, 1) := fp_dk fp_hdX0_canDo_29.1.2.2.1.2
theorem dX0_perform_18 : decode cX0_perform 18 = .ok (.bipush 8, 2) := fp_dk fp_hdX0_canDo_29.1.2.2.2.1
theorem dX0_perform_20 : decode cX0_perform 20 = .ok (.invokestatic 31, 3) := fp_dk fp_hdX0_canDo_29.1.2.2.2.2
theorem dX0_perform_23 : decode cX0_perform 23 = .ok (.aload_n 0, 1) := fp_dk fp_hdX0_canDo_29.2.1.1.1.1
theorem dX0_perform_24 : decode cX0_perform 24 = .ok (.getfield 23, 3) := fp_dk fp_hdX0_canDo_29.2.1.1.1.2
theorem dX0_perform_27 : decode cX0_perform 27 = .ok (.iload 4, 2) := fp_dk fp_hdX0_canDo_29.2.1.1.2.1
theorem dX0_perform_29 : decode cX0_perform 29 = .ok (.iconst 1, 1) := fp_dk fp_hdX0_canDo_29.2.1.1.2.2
theorem dX0_perform_30 : decode cX0_perform 30 = .ok (.iadd, 1) := fp_dk fp_hdX0_canDo_29.2.1.2.1.1
theorem dX0_perform_31 : decode cX0_perform 31 = .ok (.aload_n 0, 1) := fp_dk fp_hdX0_canDo_29.2.1.2.1.2
theorem dX0_perform_32 : decode cX0_perform 32 = .ok (.getfield 23, 3) := fp_dk fp_hdX0_canDo_29.2.1.2.2.1
theorem dX0_perform_35 : decode cX0_perform 35 = .ok (.iload 4, 2) := fp_dk fp_hdX0_canDo_29.2.1.2.2.2
theorem dX0_perform_37 : decode cX0_perform 37 = .ok (.iaload, 1) := fp_dk fp_hdX0_canDo_29.2.2.1.1.1
theorem dX0_perform_38 : decode cX0_perform 38 = .ok (.iastore, 1) := fp_dk fp_hdX0_canDo_29.2.2.1.1.2
theorem dX0_perform_39 : decode cX0_perform 39 = .ok (.iload_n 3, 1) := fp_dk fp_hdX0_canDo_29.2.2.1.2.1
theorem dX0_perform_40 : decode cX0_perform 40 = .ok (.iconst 1, 1) := fp_dk fp_hdX0_canDo_29.2.2.1.2.2
theorem dX0_perform_41 : decode cX0_perform 41 = .ok (.if_icmp .ne 46, 3) := fp_dk fp_hdX0_canDo_29.2.2.2.1.1
theorem dX0_perform_44 : decode cX0_perform 44 = .ok (.aload_n 0, 1) := fp_dk fp_hdX0_canDo_29.2.2.2.1.2
theorem dX0_perform_45 : decode cX0_perform 45 = .ok (.getfield 20, 3) := fp_dk fp_hdX0_canDo_29.2.2.2.2.1
theorem dX0_perform_48 : decode cX0_perform 48 = .ok (.iload 4, 2) := fp_dk fp_hdX0_canDo_29.2.2.2.2.2
theorem fp_hdX0_perform_50 : (((((fp_dq cX0_perform 50 (.iconst 1, 1) = true ∧ fp_dq cX0_perform 51 (.iadd, 1) = true) ∧ (fp_dq cX0_perform 52 (.aaload, 1) = true ∧ fp_dq cX0_perform 53 (.aload_n 0, 1) = true)) ∧ ((fp_dq cX0_perform 54 (.getfield 23, 3) = true ∧ fp_dq cX0_perform 57 (.iload 4, 2) = true) ∧ (fp_dq cX0_perform 59 (.iaload, 1) = true ∧ fp_dq cX0_perform 60 (.bipush 10, 2) = true))) ∧ (((fp_dq cX0_perform 62 (.iastore, 1) = true ∧ fp_dq cX0_perform 63 (.aload_n 0, 1) = true) ∧ (fp_dq cX0_perform 64 (.getfield 23, 3) = true ∧ fp_dq cX0_perform 67 (.iload 4, 2) = true)) ∧ ((fp_dq cX0_perform 69 (.iconst 1, 1) = true ∧ fp_dq cX0_perform 70 (.iadd, 1) = true) ∧ (fp_dq cX0_perform 71 (.dup2, 1) = true ∧ fp_dq cX0_perform 72 (.iaload, 1) = true)))) ∧ ((((fp_dq cX0_perform 73 (.iconst 1, 1) = true ∧ fp_dq cX0_perform 74 (.iadd, 1) = true) ∧ (fp_dq cX0_perform 75 (.iastore, 1) = true ∧ fp_dq cX0_perform 76 (.aload_n 0, 1) = true)) ∧ ((fp_dq cX0_perform 77 (.getfield 15, 3) = true ∧ fp_dq cX0_perform 80 (.iload 5, 2) = true) ∧ (fp_dq cX0_perform 82 (.dup2, 1) = true ∧ fp_dq cX0_perform 83 (.iaload, 1) = true))) ∧ (((fp_dq cX0_perform 84 (.iconst 1, 1) = true ∧ fp_dq cX0_perform 85 (.isub, 1) = true) ∧ (fp_dq cX0_perform 86 (.iastore, 1) = true ∧ fp_dq cX0_perform 87 (.iload_n 3, 1) = true)) ∧ ((fp_dq cX0_perform 88 (.ifCond .ne 13, 3) = true ∧ fp_dq cX0_perform 91 (.aload_n 0, 1) = true) ∧ (fp_dq cX0_perform 92 (.getfield 23, 3) = true ∧ fp_dq cX0_perform 95 (.iload 4, 2) = true))))) := by decide +kernel
theorem dX0_perform_50 : decode cX0_perform 50 = .ok (.iconst 1, 1) := fp_dk fp_hdX0_perform_50.1.1.1.1.1
theorem dX0_perform_51 : decode cX0_perform 51 = .ok (.iadd, 1) := fp_dk fp_hdX0_perform_50.1.1.1.1.2
theorem dX0_perform_52 : decode cX0_perform 52 = .ok (.aaload, 1) := fp_dk fp_hdX0_perform_50.1.1.1.2.1
theorem dX0_perform_53 : decode cX0_perform 53 = .ok (.aload_n 0, 1) := fp_dk fp_hdX0_perform_50.1.1.1.2.2
theorem dX0_perform_54 : decode cX0_perform 54 = .ok (.getfield 23, 3) := fp_dk fp_hdX0_perform_50.1.1.2.1.1
theorem dX0_perform_57 : decode cX0_perform 57 = .ok (.iload 4, 2) := fp_dk fp_hdX0_perform_50.1.1.2.1.2
theorem dX0_perform_59 : decode cX0_perform 59 = .ok (.iaload, 1) := fp_dk fp_hdX0_perform_50.1.1.2.2.1
theorem dX0_perform_60 : decode cX0_perform 60 = .ok (.bipush 10, 2) := fp_dk fp_hdX0_perform_50.1.1.2.2.2
theorem dX0_perform_62 : decode cX0_perform 62 = .ok (.iastore, 1) := fp_dk fp_hdX0_perform_50.1.2.1.1.1
theorem dX0_perform_63 : decode cX0_perform 63 = .ok (.aload_n 0, 1) := fp_dk fp_hdX0_perform_50.1.2.1.1.2
theorem dX0_perform_64 : decode cX0_perform 64 = .ok (.getfield 23, 3) := fp_dk fp_hdX0_perform_50.1.2.1.2.1
theorem dX0_perform_67 : decode cX0_perform 67 = .ok (.iload 4, 2) := fp_dk fp_hdX0_perform_50.1.2.1.2.2
theorem dX0_perform_69 : decode cX0_perform 69 = .ok (.iconst 1, 1) := fp_dk fp_hdX0_perform_50.1.2.2.1.1
theorem dX0_perform_70 : decode cX0_perform 70 = .ok (.iadd, 1) := fp_dk fp_hdX0_perform_50.1.2.2.1.2
theorem dX0_perform_71 : decode cX0_perform 71 = .ok (.dup2, 1) := fp_dk fp_hdX0_perform_50.1.2.2.2.1
theorem dX0_perform_72 : decode cX0_perform 72 = .ok (.iaload, 1) := fp_dk fp_hdX0_perform_50.1.2.2.2.2
theorem dX0_perform_73 : decode cX0_perform 73 = .ok (.iconst 1, 1) := fp_dk fp_hdX0_perform_50.2.1.1.1.1
theorem dX0_perform_74 : decode cX0_perform 74 = .ok (.iadd, 1) := fp_dk fp_hdX0_perform_50.2.1.1.1.2
theorem dX0_perform_75 : decode cX0_perform 75 = .ok (.iastore, 1) := fp_dk fp_hdX0_perform_50.2.1.1.2.1
theorem dX0_perform_76 : decode cX0_perform 76 = .ok (.aload_n 0, 1) := fp_dk fp_hdX0_perform_50.2.1.1.2.2
theorem dX0_perform_77 : decode cX0_perform 77 = .ok (.getfield 15, 3) := fp_dk fp_hdX0_perform_50.2.1.2.1.1
theorem dX0_perform_80 : decode cX0_perform 80 = .ok (.iload 5, 2) := fp_dk fp_hdX0_perform_50.2.1.2.1.2
theorem dX0_perform_82 : decode cX0_perform 82 = .ok (.dup2, 1) := fp_dk fp_hdX0_perform_50.2.1.2.2.1
theorem dX0_perform_83 : decode cX0_perform 83 = .ok (.iaload, 1) := fp_dk fp_hdX0_perform_50.2.1.2.2.2
theorem dX0_perform_84 : decode cX0_perform 84 = .ok (.iconst 1, 1) := fp_dk fp_hdX0_perform_50.2.2.1.1.1
theorem dX0_perform_85 : decode cX0_perform 85 = .ok (.isub, 1) := fp_dk fp_hdX0_perform_50.2.2.1.1.2
theorem dX0_perform_86 : decode cX0_perform 86 = .ok (.iastore, 1) := fp_dk fp_hdX0_perform_50.2.2.1.2.1
theorem dX0_perform_87 : decode cX0_perform 87 = .ok (.iload_n 3, 1) := fp_dk fp_hdX0_perform_50.2.2.1.2.2
theorem dX0_perform_88 : decode cX0_perform 88 = .ok (.ifCond .ne 13, 3) := fp_dk fp_hdX0_perform_50.2.2.2.1.1
theorem dX0_perform_91 : decode cX0_perform 91 = .ok (.aload_n 0, 1) := fp_dk fp_hdX0_perform_50.2.2.2.1.2
theorem dX0_perform_92 : decode cX0_perform 92 = .ok (.getfield 23, 3) := fp_dk fp_hdX0_perform_50.2.2.2.2.1
theorem dX0_perform_95 : decode cX0_perform 95 = .ok (.iload 4, 2) := fp_dk fp_hdX0_perform_50.2.2.2.2.2
theorem fp_hdX0_perform_97 : (((((fp_dq cX0_perform 97 (.iaload, 1) = true ∧ fp_dq cX0_perform 98 (.ifCond .ne 5, 3) = true) ∧ (fp_dq cX0_perform 101 (.iconst 0, 1) = true ∧ fp_dq cX0_perform 102 (.ireturn, 1) = true)) ∧ ((fp_dq cX0_perform 103 (.aload_n 1, 1) = true ∧ fp_dq cX0_perform 104 (.aload_n 0, 1) = true) ∧ (fp_dq cX0_perform 105 (.getfield 9, 3) = true ∧ fp_dq cX0_perform 108 (.iload 5, 2) = true))) ∧ (((fp_dq cX0_perform 110 (.iaload, 1) = true ∧ fp_dq cX0_perform 111 (.aload_n 0, 1) = true) ∧ (fp_dq cX0_perform 112 (.aload_n 1, 1) = true ∧ fp_dq cX0_perform 113 (.iload_n 2, 1) = true)) ∧ ((fp_dq cX0_perform 114 (.iload 4, 2) = true ∧ fp_dq cX0_perform 116 (.iconst 1, 1) = true) ∧ (fp_dq cX0_perform 117 (.iadd, 1) = true ∧ fp_dq cX0_perform 118 (.invokevirtual 65, 3) = true)))) ∧ ((((fp_dq cX0_perform 121 (.invokevirtual 68, 3) = true ∧ fp_dq cX0_perform 124 (.istore 6, 2) = true) ∧ (fp_dq cX0_perform 126 (.iload 5, 2) = true ∧ fp_dq cX0_perform 128 (.ifCond .ne 8, 3) = true)) ∧ ((fp_dq cX0_perform 131 (.iload 6, 2) = true ∧ fp_dq cX0_perform 133 (.goto 6, 3) = true) ∧ (fp_dq cX0_perform 136 (.iload 6, 2) = true ∧ fp_dq cX0_perform 138 (.ineg, 1) = true))) ∧ (((fp_dq cX0_perform 139 (.ireturn, 1) = true ∧ fp_dq cX0_takeGiven 0 (.aload_n 0, 1) = true) ∧ (fp_dq cX0_takeGiven 1 (.getfield 20, 3) = true ∧ fp_dq cX0_takeGiven 4 (.iload_n 3, 1) = true)) ∧ ((fp_dq cX0_takeGiven 5 (.aaload, 1) = true ∧ fp_dq cX0_takeGiven 6 (.astore 4, 2) = true) ∧ (fp_dq cX0_takeGiven 8 (.aload_n 1, 1) = true ∧ fp_dq cX0_takeGiven 9 (.iload_n 2, 1) = true))))) := by decide +kernel
theorem dX0_perform_97 : decode cX0_perform 97 = .ok (.iaload, 1) := fp_dk fp_hdX0_perform_97.1.1.1.1.1
theorem dX0_perform_98 : decode cX0_perform 98 = .ok (.ifCond .ne 5, 3) := fp_dk fp_hdX0_perform_97.1.1.1.1.2
theorem dX0_perform_101 : decode cX0_perform 101 = .ok (.iconst 0, 1) := fp_dk fp_hdX0_perform_97.1.1.1.2.1
theorem dX0_perform_102 : decode cX0_perform 102 = .ok (.ireturn, 1) := fp_dk fp_hdX0_perform_97.1.1.1.2.2
theorem dX0_perform_103 : decode cX0_perform 103 = .ok (.aload_n 1, 1) := fp_dk fp_hdX0_perform_97.1.1.2.1.1
theorem dX0_perform_104 : decode cX0_perform 104 = .ok (.aload_n 0, 1) := fp_dk fp_hdX0_perform_97.1.1.2.1.2
theorem dX0_perform_105 : decode cX0_perform 105 = .ok (.getfield 9, 3) := fp_dk fp_hdX0_perform_97.1.1.2.2.1
theorem dX0_perform_108 : decode cX0_perform 108 = .ok (.iload 5, 2) := fp_dk fp_hdX0_perform_97.1.1.2.2.2
theorem dX0_perform_110 : decode cX0_perform 110 = .ok (.iaload, 1) := fp_dk fp_hdX0_perform_97.1.2.1.1.1
theorem dX0_perform_111 : decode cX0_perform 111 = .ok (.aload_n 0, 1) := fp_dk fp_hdX0_perform_97.1.2.1.1.2
theorem dX0_perform_112 : decode cX0_perform 112 = .ok (.aload_n 1, 1) := fp_dk fp_hdX0_perform_97.1.2.1.2.1
theorem dX0_perform_113 : decode cX0_perform 113 = .ok (.iload_n 2, 1) := fp_dk fp_hdX0_perform_97.1.2.1.2.2
theorem dX0_perform_114 : decode cX0_perform 114 = .ok (.iload 4, 2) := fp_dk fp_hdX0_perform_97.1.2.2.1.1
theorem dX0_perform_116 : decode cX0_perform 116 = .ok (.iconst 1, 1) := fp_dk fp_hdX0_perform_97.1.2.2.1.2
theorem dX0_perform_117 : decode cX0_perform 117 = .ok (.iadd, 1) := fp_dk fp_hdX0_perform_97.1.2.2.2.1
theorem dX0_perform_118 : decode cX0_perform 118 = .ok (.invokevirtual 65, 3) := fp_dk fp_hdX0_perform_97.1.2.2.2.2
theorem dX0_perform_121 : decode cX0_perform 121 = .ok (.invokevirtual 68, 3) := fp_dk fp_hdX0_perform_97.2.1.1.1.1
theorem dX0_perform_124 : decode cX0_perform 124 = .ok (.istore 6, 2) := fp_dk fp_hdX0_perform_97.2.1.1.1.2
theorem dX0_perform_126 : decode cX0_perform 126 = .ok (.iload 5, 2) := fp_dk fp_hdX0_perform_97.2.1.1.2.1
theorem dX0_perform_128 : decode cX0_perform 128 = .ok (.ifCond .ne 8, 3) := fp_dk fp_hdX0_perform_97.2.1.1.2.2
theorem dX0_perform_131 : decode cX0_perform 131 = .ok (.iload 6, 2) := fp_dk fp_hdX0_perform_97.2.1.2.1.1
theorem dX0_perform_133 : decode cX0_perform 133 = .ok (.goto 6, 3) := fp_dk fp_hdX0_perform_97.2.1.2.1.2
theorem dX0_perform_136 : decode cX0_perform 136 = .ok (.iload 6, 2) := fp_dk fp_hdX0_perform_97.2.1.2.2.1
theorem dX0_perform_138 : decode cX0_perform 138 = .ok (.ineg, 1) := fp_dk fp_hdX0_perform_97.2.1.2.2.2
theorem dX0_perform_139 : decode cX0_perform 139 = .ok (.ireturn, 1) := fp_dk fp_hdX0_perform_97.2.2.1.1.1
theorem dX0_takeGiven_0 : decode cX0_takeGiven 0 = .ok (.aload_n 0, 1) := fp_dk fp_hdX0_perform_97.2.2.1.1.2
theorem dX0_takeGiven_1 : decode cX0_takeGiven 1 = .ok (.getfield 20, 3) := fp_dk fp_hdX0_perform_97.2.2.1.2.1
theorem dX0_takeGiven_4 : decode cX0_takeGiven 4 = .ok (.iload_n 3, 1) := fp_dk fp_hdX0_perform_97.2.2.1.2.2
theorem dX0_takeGiven_5 : decode cX0_takeGiven 5 = .ok (.aaload, 1) := fp_dk fp_hdX0_perform_97.2.2.2.1.1
theorem dX0_takeGiven_6 : decode cX0_takeGiven 6 = .ok (.astore 4, 2) := fp_dk fp_hdX0_perform_97.2.2.2.1.2
theorem dX0_takeGiven_8 : decode cX0_takeGiven 8 = .ok (.aload_n 1, 1) := fp_dk fp_hdX0_perform_97.2.2.2.2.1
theorem dX0_takeGiven_9 : decode cX0_takeGiven 9 = .ok (.iload_n 2, 1) := fp_dk fp_hdX0_perform_97.2.2.2.2.2
theorem fp_hdX0_takeGiven_10 : (((((fp_dq cX0_takeGiven 10 (.aload 4, 2) = true ∧ fp_dq cX0_takeGiven 12 (.iconst 0, 1) = true) ∧ (fp_dq cX0_takeGiven 13 (.aload_n 0, 1) = true ∧ fp_dq cX0_takeGiven 14 (.getfield 23, 3) = true)) ∧ ((fp_dq cX0_takeGiven 17 (.iload_n 3, 1) = true ∧ fp_dq cX0_takeGiven 18 (.iaload, 1) = true) ∧ (fp_dq cX0_takeGiven 19 (.invokestatic 72, 3) = true ∧ fp_dq cX0_takeGiven 22 (.istore 5, 2) = true))) ∧ (((fp_dq cX0_takeGiven 24 (.aload 4, 2) = true ∧ fp_dq cX0_takeGiven 26 (.iload 5, 2) = true) ∧ (fp_dq cX0_takeGiven 28 (.iaload, 1) = true ∧ fp_dq cX0_takeGiven 29 (.istore 6, 2) = true)) ∧ ((fp_dq cX0_takeGiven 31 (.aload_n 0, 1) = true ∧ fp_dq cX0_takeGiven 32 (.getfield 23, 3) = true) ∧ (fp_dq cX0_takeGiven 35 (.iload_n 3, 1) = true ∧ fp_dq cX0_takeGiven 36 (.dup2, 1) = true)))) ∧ ((((fp_dq cX0_takeGiven 37 (.iaload, 1) = true ∧ fp_dq cX0_takeGiven 38 (.iconst 1, 1) = true) ∧ (fp_dq cX0_takeGiven 39 (.isub, 1) = true ∧ fp_dq cX0_takeGiven 40 (.iastore, 1) = true)) ∧ ((fp_dq cX0_takeGiven 41 (.iload 5, 2) = true ∧ fp_dq cX0_takeGiven 43 (.istore 7, 2) = true) ∧ (fp_dq cX0_takeGiven 45 (.iload 7, 2) = true ∧ fp_dq cX0_takeGiven 47 (.aload_n 0, 1) = true))) ∧ (((fp_dq cX0_takeGiven 48 (.getfield 23, 3) = true ∧ fp_dq cX0_takeGiven 51 (.iload_n 3, 1) = true) ∧ (fp_dq cX0_takeGiven 52 (.iaload, 1) = true ∧ fp_dq cX0_takeGiven 53 (.if_icmp .ge 21, 3) = true)) ∧ ((fp_dq cX0_takeGiven 56 (.aload 4, 2) = true ∧ fp_dq cX0_takeGiven 58 (.iload 7, 2) = true) ∧ (fp_dq cX0_takeGiven 60 (.aload 4, 2) = true ∧ fp_dq cX0_takeGiven 62 (.iload 7, 2) = true))))) := by decide +kernel
theorem dX0_takeGiven_10 : decode cX0_takeGiven 10 = .ok (.aload 4, 2) := fp_dk fp_hdX0_takeGiven_10.1.1.1.1.1
theorem dX0_takeGiven_12 : decode cX0_takeGiven 12 = .ok (.iconst 0, 1) := fp_dk fp_hdX0_takeGiven_10.1.1.1.1.2
theorem dX0_takeGiven_13 : decode cX0_takeGiven 13 = .ok (.aload_n 0, 1) := fp_dk fp_hdX0_takeGiven_10.1.1.1.2.1
theorem dX0_takeGiven_14 : decode cX0_takeGiven 14 = .ok (.getfield 23, 3) := fp_dk fp_hdX0_takeGiven_10.1.1.1.2.2
theorem dX0_takeGiven_17 : decode cX0_takeGiven 17 = .ok (.iload_n 3, 1) := fp_dk fp_hdX0_takeGiven_10.1.1.2.1.1
theorem dX0_takeGiven_18 : decode cX0_takeGiven 18 = .ok (.iaload, 1) := fp_dk fp_hdX0_takeGiven_10.1.1.2.1.2
theorem dX0_takeGiven_19 : decode cX0_takeGiven 19 = .ok (.invokestatic 72, 3) := fp_dk fp_hdX0_takeGiven_10.1.1.2.2.1
theorem dX0_takeGiven_22 : decode cX0_takeGiven 22 = .ok (.istore 5, 2) := fp_dk fp_hdX0_takeGiven_10.1.1.2.2.2
theorem dX0_takeGiven_24 : decode cX0_takeGiven 24 = .ok (.aload 4, 2) := fp_dk fp_hdX0_takeGiven_10.1.2.1.1.1
theorem dX0_takeGiven_26 : decode cX0_takeGiven 26 = .ok (.iload 5, 2) := fp_dk fp_hdX0_takeGiven_10.1.2.1.1.2
theorem dX0_takeGiven_28 : decode cX0_takeGiven 28 = .ok (.iaload, 1) := fp_dk fp_hdX0_takeGiven_10.1.2.1.2.1
theorem dX0_takeGiven_29 : decode cX0_takeGiven 29 = .ok (.istore 6, 2) := fp_dk fp_hdX0_takeGiven_10.1.2.1.2.2
theorem dX0_takeGiven_31 : decode cX0_takeGiven 31 = .ok (.aload_n 0, 1) := fp_dk fp_hdX0_takeGiven_10.1.2.2.1.1
theorem dX0_takeGiven_32 : decode cX0_takeGiven 32 = .ok (.getfield 23, 3) := fp_dk fp_hdX0_takeGiven_10.1.2.2.1.2
theorem dX0_takeGiven_35 : decode cX0_takeGiven 35 = .ok (.iload_n 3, 1) := fp_dk fp_hdX0_takeGiven_10.1.2.2.2.1
theorem dX0_takeGiven_36 : decode cX0_takeGiven 36 = .ok (.dup2, 1) := fp_dk fp_hdX0_takeGiven_10.1.2.2.2.2
theorem dX0_takeGiven_37 : decode cX0_takeGiven 37 = .ok (.iaload, 1) := fp_dk fp_hdX0_takeGiven_10.2.1.1.1.1
theorem dX0_takeGiven_38 : decode cX0_takeGiven 38 = .ok (.iconst 1, 1) := fp_dk fp_hdX0_takeGiven_10.2.1.1.1.2
theorem dX0_takeGiven_39 : decode cX0_takeGiven 39 = .ok (.isub, 1) := fp_dk fp_hdX0_takeGiven_10.2.1.1.2.1
theorem dX0_takeGiven_40 : decode cX0_takeGiven 40 = .ok (.iastore, 1) := fp_dk fp_hdX0_takeGiven_10.2.1.1.2.2
theorem dX0_takeGiven_41 : decode cX0_takeGiven 41 = .ok (.iload 5, 2) := fp_dk fp_hdX0_takeGiven_10.2.1.2.1.1
theorem dX0_takeGiven_43 : decode cX0_takeGiven 43 = .ok (.istore 7, 2) := fp_dk fp_hdX0_takeGiven_10.2.1.2.1.2
theorem dX0_takeGiven_45 : decode cX0_takeGiven 45 = .ok (.iload 7, 2) := fp_dk fp_hdX0_takeGiven_10.2.1.2.2.1
theorem dX0_takeGiven_47 : decode cX0_takeGiven 47 = .ok (.aload_n 0, 1) := fp_dk fp_hdX0_takeGiven_10.2.1.2.2.2
theorem dX0_takeGiven_48 : decode cX0_takeGiven 48 = .ok (.getfield 23, 3) := fp_dk fp_hdX0_takeGiven_10.2.2.1.1.1
theorem dX0_takeGiven_51 : decode cX0_takeGiven 51 = .ok (.iload_n 3, 1) := fp_dk fp_hdX0_takeGiven_10.2.2.1.1.2
theorem dX0_takeGiven_52 : decode cX0_takeGiven 52 = .ok (.iaload, 1) := fp_dk fp_hdX0_takeGiven_10.2.2.1.2.1
theorem dX0_takeGiven_53 : decode cX0_takeGiven 53 = .ok (.if_icmp .ge 21, 3) := fp_dk fp_hdX0_takeGiven_10.2.2.1.2.2
theorem dX0_takeGiven_56 : decode cX0_takeGiven 56 = .ok (.aload 4, 2) := fp_dk fp_hdX0_takeGiven_10.2.2.2.1.1
theorem dX0_takeGiven_58 : decode cX0_takeGiven 58 = .ok (.iload 7, 2) := fp_dk fp_hdX0_takeGiven_10.2.2.2.1.2
theorem dX0_takeGiven_60 : decode cX0_takeGiven 60 = .ok (.aload 4, 2) := fp_dk fp_hdX0_takeGiven_10.2.2.2.2.1
theorem dX0_takeGiven_62 : decode cX0_takeGiven 62 = .ok (.iload 7, 2) := fp_dk fp_hdX0_takeGiven_10.2.2.2.2.2
theorem fp_hdX0_takeGiven_64 : (((((fp_dq cX0_takeGiven 64 (.iconst 1, 1) = true ∧ fp_dq cX0_takeGiven 65 (.iadd, 1) = true) ∧ (fp_dq cX0_takeGiven 66 (.iaload, 1) = true ∧ fp_dq cX0_takeGiven 67 (.iastore, 1) = true)) ∧ ((fp_dq cX0_takeGiven 68 (.iinc 7 1, 3) = true ∧ fp_dq cX0_takeGiven 71 (.goto (-26), 3) = true) ∧ (fp_dq cX0_takeGiven 74 (.iload 6, 2) = true ∧ fp_dq cX0_takeGiven 76 (.ireturn, 1) = true))) ∧ (((fp_dq cX0_takeBack 0 (.iload_n 1, 1) = true ∧ fp_dq cX0_takeBack 1 (.iconst 1, 1) = true) ∧ (fp_dq cX0_takeBack 2 (.if_icmp .ne 13, 3) = true ∧ fp_dq cX0_takeBack 5 (.aload_n 0, 1) = true)) ∧ ((fp_dq cX0_takeBack 6 (.getfield 15, 3) = true ∧ fp_dq cX0_takeBack 9 (.iload_n 2, 1) = true) ∧ (fp_dq cX0_takeBack 10 (.dup2, 1) = true ∧ fp_dq cX0_takeBack 11 (.iaload, 1) = true)))) ∧ ((((fp_dq cX0_takeBack 12 (.iconst 1, 1) = true ∧ fp_dq cX0_takeBack 13 (.iadd, 1) = true) ∧ (fp_dq cX0_takeBack 14 (.iastore, 1) = true ∧ fp_dq cX0_takeBack 15 (.return_, 1) = true)) ∧ ((fp_dq cX0_noteFirst 0 (.iload_n 1, 1) = true ∧ fp_dq cX0_noteFirst 1 (.ifCond .ne 8, 3) = true) ∧ (fp_dq cX0_noteFirst 4 (.aload_n 0, 1) = true ∧ fp_dq cX0_noteFirst 5 (.iload_n 2, 1) = true))) ∧ (((fp_dq cX0_noteFirst 6 (.putfield 76, 3) = true ∧ fp_dq cX0_noteFirst 9 (.return_, 1) = true) ∧ (fp_dq cX1_init 0 (.aload_n 0, 1) = true ∧ fp_dq cX1_init 1 (.invokespecial 3, 3) = true)) ∧ ((fp_dq cX1_init 4 (.aload_n 0, 1) = true ∧ fp_dq cX1_init 5 (.bipush 10, 2) = true) ∧ (fp_dq cX1_init 7 (.putfield 9, 3) = true ∧ fp_dq cX1_init 10 (.aload_n 0, 1) = true))))) := by decide +kernel
theorem dX0_takeGiven_64 : decode cX0_takeGiven 64 = .ok (.iconst 1, 1) := fp_dk fp_hdX0_takeGiven_64.1.1.1.1.1
theorem dX0_takeGiven_65 : decode cX0_takeGiven 65 = .ok (.iadd, 1) := fp_dk fp_hdX0_takeGiven_64.1.1.1.1.2
theorem dX0_takeGiven_66 : decode cX0_takeGiven 66 = .ok (.iaload, 1) := fp_dk fp_hdX0_takeGiven_64.1.1.1.2.1
theorem dX0_takeGiven_67 : decode cX0_takeGiven 67 = .ok (.iastore, 1) := fp_dk fp_hdX0_takeGiven_64.1.1.1.2.2
theorem dX0_takeGiven_68 : decode cX0_takeGiven 68 = .ok (.iinc 7 1, 3) := fp_dk fp_hdX0_takeGiven_64.1.1.2.1.1
theorem dX0_takeGiven_71 : decode cX0_takeGiven 71 = .ok (.goto (-26), 3) := fp_dk fp_hdX0_takeGiven_64.1.1.2.1.2
theorem dX0_takeGiven_74 : decode cX0_takeGiven 74 = .ok (.iload 6, 2) := fp_dk fp_hdX0_takeGiven_64.1.1.2.2.1
theorem dX0_takeGiven_76 : decode cX0_takeGiven 76 = .ok (.ireturn, 1) := fp_dk fp_hdX0_takeGiven_64.1.1.2.2.2
theorem dX0_takeBack_0 : decode cX0_takeBack 0 = .ok (.iload_n 1, 1) := fp_dk fp_hdX0_takeGiven_64.1.2.1.1.1
theorem dX0_takeBack_1 : decode cX0_takeBack 1 = .ok (.iconst 1, 1) := fp_dk fp_hdX0_takeGiven_64.1.2.1.1.2
theorem dX0_takeBack_2 : decode cX0_takeBack 2 = .ok (.if_icmp .ne 13, 3) := fp_dk fp_hdX0_takeGiven_64.1.2.1.2.1
theorem dX0_takeBack_5 : decode cX0_takeBack 5 = .ok (.aload_n 0, 1) := fp_dk fp_hdX0_takeGiven_64.1.2.1.2.2
theorem dX0_takeBack_6 : decode cX0_takeBack 6 = .ok (.getfield 15, 3) := fp_dk fp_hdX0_takeGiven_64.1.2.2.1.1
theorem dX0_takeBack_9 : decode cX0_takeBack 9 = .ok (.iload_n 2, 1) := fp_dk fp_hdX0_takeGiven_64.1.2.2.1.2
theorem dX0_takeBack_10 : decode cX0_takeBack 10 = .ok (.dup2, 1) := fp_dk fp_hdX0_takeGiven_64.1.2.2.2.1
theorem dX0_takeBack_11 : decode cX0_takeBack 11 = .ok (.iaload, 1) := fp_dk fp_hdX0_takeGiven_64.1.2.2.2.2
theorem dX0_takeBack_12 : decode cX0_takeBack 12 = .ok (.iconst 1, 1) := fp_dk fp_hdX0_takeGiven_64.2.1.1.1.1
theorem dX0_takeBack_13 : decode cX0_takeBack 13 = .ok (.iadd, 1) := fp_dk fp_hdX0_takeGiven_64.2.1.1.1.2
theorem dX0_takeBack_14 : decode cX0_takeBack 14 = .ok (.iastore, 1) := fp_dk fp_hdX0_takeGiven_64.2.1.1.2.1
theorem dX0_takeBack_15 : decode cX0_takeBack 15 = .ok (.return_, 1) := fp_dk fp_hdX0_takeGiven_64.2.1.1.2.2
theorem dX0_noteFirst_0 : decode cX0_noteFirst 0 = .ok (.iload_n 1, 1) := fp_dk fp_hdX0_takeGiven_64.2.1.2.1.1
theorem dX0_noteFirst_1 : decode cX0_noteFirst 1 = .ok (.ifCond .ne 8, 3) := fp_dk fp_hdX0_takeGiven_64.2.1.2.1.2
theorem dX0_noteFirst_4 : decode cX0_noteFirst 4 = .ok (.aload_n 0, 1) := fp_dk fp_hdX0_takeGiven_64.2.1.2.2.1
theorem dX0_noteFirst_5 : decode cX0_noteFirst 5 = .ok (.iload_n 2, 1) := fp_dk fp_hdX0_takeGiven_64.2.1.2.2.2
theorem dX0_noteFirst_6 : decode cX0_noteFirst 6 = .ok (.putfield 76, 3) := fp_dk fp_hdX0_takeGiven_64.2.2.1.1.1
theorem dX0_noteFirst_9 : decode cX0_noteFirst 9 = .ok (.return_, 1) := fp_dk fp_hdX0_takeGiven_64.2.2.1.1.2
theorem dX1_init_0 : decode cX1_init 0 = .ok (.aload_n 0, 1) := fp_dk fp_hdX0_takeGiven_64.2.2.1.2.1
theorem dX1_init_1 : decode cX1_init 1 = .ok (.invokespecial 3, 3) := fp_dk fp_hdX0_takeGiven_64.2.2.1.2.2
theorem dX1_init_4 : decode cX1_init 4 = .ok (.aload_n 0, 1) := fp_dk fp_hdX0_takeGiven_64.2.2.2.1.1
theorem dX1_init_5 : decode cX1_init 5 = .ok (.bipush 10, 2) := fp_dk fp_hdX0_takeGiven_64.2.2.2.1.2
theorem dX1_init_7 : decode cX1_init 7 = .ok (.putfield 9, 3) := fp_dk fp_hdX0_takeGiven_64.2.2.2.2.1
theorem dX1_init_10 : decode cX1_init 10 = .ok (.aload_n 0, 1) := fp_dk fp_hdX0_takeGiven_64.2.2.2.2.2
theorem fp_hdX1_init_11 : (((((fp_dq cX1_init 11 (.bipush 11, 2) = true ∧ fp_dq cX1_init 13 (.newarray .int, 2) = true) ∧ (fp_dq cX1_init 15 (.putfield 15, 3) = true ∧ fp_dq cX1_init 18 (.aload_n 0, 1) = true)) ∧ ((fp_dq cX1_init 19 (.bipush 44, 2) = true ∧ fp_dq cX1_init 21 (.newarray .int, 2) = true) ∧ (fp_dq cX1_init 23 (.putfield 19, 3) = true ∧ fp_dq cX1_init 26 (.aload_n 0, 1) = true))) ∧ (((fp_dq cX1_init 27 (.iconst 3, 1) = true ∧ fp_dq cX1_init 28 (.newarray .int, 2) = true) ∧ (fp_dq cX1_init 30 (.putfield 22, 3) = true ∧ fp_dq cX1_init 33 (.return_, 1) = true)) ∧ ((fp_dq cX1_clear 0 (.aload_n 0, 1) = true ∧ fp_dq cX1_clear 1 (.iconst 0, 1) = true) ∧ (fp_dq cX1_clear 2 (.putfield 25, 3) = true ∧ fp_dq cX1_clear 5 (.aload_n 0, 1) = true)))) ∧ ((((fp_dq cX1_clear 6 (.iconst 0, 1) = true ∧ fp_dq cX1_clear 7 (.putfield 28, 3) = true) ∧ (fp_dq cX1_clear 10 (.aload_n 0, 1) = true ∧ fp_dq cX1_clear 11 (.bipush 10, 2) = true)) ∧ ((fp_dq cX1_clear 13 (.putfield 9, 3) = true ∧ fp_dq cX1_clear 16 (.return_, 1) = true) ∧ (fp_dq cX1_copyFrom 0 (.aload_n 0, 1) = true ∧ fp_dq cX1_copyFrom 1 (.aload_n 1, 1) = true))) ∧ (((fp_dq cX1_copyFrom 2 (.getfield 25, 3) = true ∧ fp_dq cX1_copyFrom 5 (.putfield 25, 3) = true) ∧ (fp_dq cX1_copyFrom 8 (.aload_n 0, 1) = true ∧ fp_dq cX1_copyFrom 9 (.aload_n 1, 1) = true)) ∧ ((fp_dq cX1_copyFrom 10 (.getfield 28, 3) = true ∧ fp_dq cX1_copyFrom 13 (.putfield 28, 3) = true) ∧ (fp_dq cX1_copyFrom 16 (.aload_n 0, 1) = true ∧ fp_dq cX1_copyFrom 17 (.aload_n 1, 1) = true))))) := by decide +kernel
theorem dX1_init_11 : decode cX1_init 11 = .ok (.bipush 11, 2) := fp_dk fp_hdX1_init_11.1.1.1.1.1
theorem dX1_init_13 : decode cX1_init 13 = .ok (.newarray .int, 2) := fp_dk fp_hdX1_init_11.1.1.1.1.2
theorem dX1_init_15 : decode cX1_init 15 = .ok (.putfield 15, 3) := fp_dk fp_hdX1_init_11.1.1.1.2.1
theorem dX1_init_18 : decode cX1_init 18 = .ok (.aload_n 0, 1) := fp_dk fp_hdX1_init_11.1.1.1.2.2
theorem dX1_init_19 : decode cX1_init 19 = .ok (.bipush 44, 2) := fp_dk fp_hdX1_init_11.1.1.2.1.1
theorem dX1_init_21 : decode cX1_init 21 = .ok (.newarray .int, 2) := fp_dk fp_hdX1_init_11.1.1.2.1.2
theorem dX1_init_23 : decode cX1_init 23 = .ok (.putfield 19, 3) := fp_dk fp_hdX1_init_11.1.1.2.2.1
theorem dX1_init_26 : decode cX1_init 26 = .ok (.aload_n 0, 1) := fp_dk fp_hdX1_init_11.1.1.2.2.2
theorem dX1_init_27 : decode cX1_init 27 = .ok (.iconst 3, 1) := fp_dk fp_hdX1_init_11.1.2.1.1.1
theorem dX1_init_28 : decode cX1_init 28 = .ok (.newarray .int, 2) := fp_dk fp_hdX1_init_11.1.2.1.1.2
theorem dX1_init_30 : decode cX1_init 30 = .ok (.putfield 22, 3) := fp_dk fp_hdX1_init_11.1.2.1.2.1
theorem dX1_init_33 : decode cX1_init 33 = .ok (.return_, 1) := fp_dk fp_hdX1_init_11.1.2.1.2.2
theorem dX1_clear_0 : decode cX1_clear 0 = .ok (.aload_n 0, 1) := fp_dk fp_hdX1_init_11.1.2.2.1.1
theorem dX1_clear_1 : decode cX1_clear 1 = .ok (.iconst 0, 1) := fp_dk fp_hdX1_init_11.1.2.2.1.2
theorem dX1_clear_2 : decode cX1_clear 2 = .ok (.putfield 25, 3) := fp_dk fp_hdX1_init_11.1.2.2.2.1
theorem dX1_clear_5 : decode cX1_clear 5 = .ok (.aload_n 0, 1) := fp_dk fp_hdX1_init_11.1.2.2.2.2
theorem dX1_clear_6 : decode cX1_clear 6 = .ok (.iconst 0, 1) := fp_dk fp_hdX1_init_11.2.1.1.1.1
theorem dX1_clear_7 : decode cX1_clear 7 = .ok (.putfield 28, 3) := fp_dk fp_hdX1_init_11.2.1.1.1.2
theorem dX1_clear_10 : decode cX1_clear 10 = .ok (.aload_n 0, 1) := fp_dk fp_hdX1_init_11.2.1.1.2.1
theorem dX1_clear_11 : decode cX1_clear 11 = .ok (.bipush 10, 2) := fp_dk fp_hdX1_init_11.2.1.1.2.2
theorem dX1_clear_13 : decode cX1_clear 13 = .ok (.putfield 9, 3) := fp_dk fp_hdX1_init_11.2.1.2.1.1
theorem dX1_clear_16 : decode cX1_clear 16 = .ok (.return_, 1) := fp_dk fp_hdX1_init_11.2.1.2.1.2
theorem dX1_copyFrom_0 : decode cX1_copyFrom 0 = .ok (.aload_n 0, 1) := fp_dk fp_hdX1_init_11.2.1.2.2.1
theorem dX1_copyFrom_1 : decode cX1_copyFrom 1 = .ok (.aload_n 1, 1) := fp_dk fp_hdX1_init_11.2.1.2.2.2
theorem dX1_copyFrom_2 : decode cX1_copyFrom 2 = .ok (.getfield 25, 3) := fp_dk fp_hdX1_init_11.2.2.1.1.1
theorem dX1_copyFrom_5 : decode cX1_copyFrom 5 = .ok (.putfield 25, 3) := fp_dk fp_hdX1_init_11.2.2.1.1.2
theorem dX1_copyFrom_8 : decode cX1_copyFrom 8 = .ok (.aload_n 0, 1) := fp_dk fp_hdX1_init_11.2.2.1.2.1
theorem dX1_copyFrom_9 : decode cX1_copyFrom 9 = .ok (.aload_n 1, 1) := fp_dk fp_hdX1_init_11.2.2.1.2.2
theorem dX1_copyFrom_10 : decode cX1_copyFrom 10 = .ok (.getfield 28, 3) := fp_dk fp_hdX1_init_11.2.2.2.1.1
theorem dX1_copyFrom_13 : decode cX1_copyFrom 13 = .ok (.putfield 28, 3) := fp_dk fp_hdX1_init_11.2.2.2.1.2
theorem dX1_copyFrom_16 : decode cX1_copyFrom 16 = .ok (.aload_n 0, 1) := fp_dk fp_hdX1_init_11.2.2.2.2.1
theorem dX1_copyFrom_17 : decode cX1_copyFrom 17 = .ok (.aload_n 1, 1) := fp_dk fp_hdX1_init_11.2.2.2.2.2
theorem fp_hdX1_copyFrom_18 : (((((fp_dq cX1_copyFrom 18 (.getfield 9, 3) = true ∧ fp_dq cX1_copyFrom 21 (.putfield 9, 3) = true) ∧ (fp_dq cX1_copyFrom 24 (.aload_n 1, 1) = true ∧ fp_dq cX1_copyFrom 25 (.getfield 15, 3) = true)) ∧ ((fp_dq cX1_copyFrom 28 (.iconst 0, 1) = true ∧ fp_dq cX1_copyFrom 29 (.aload_n 0, 1) = true) ∧ (fp_dq cX1_copyFrom 30 (.getfield 15, 3) = true ∧ fp_dq cX1_copyFrom 33 (.iconst 0, 1) = true))) ∧ (((fp_dq cX1_copyFrom 34 (.aload_n 0, 1) = true ∧ fp_dq cX1_copyFrom 35 (.getfield 15, 3) = true) ∧ (fp_dq cX1_copyFrom 38 (.arraylength, 1) = true ∧ fp_dq cX1_copyFrom 39 (.invokestatic 31, 3) = true)) ∧ ((fp_dq cX1_copyFrom 42 (.aload_n 1, 1) = true ∧ fp_dq cX1_copyFrom 43 (.getfield 19, 3) = true) ∧ (fp_dq cX1_copyFrom 46 (.iconst 0, 1) = true ∧ fp_dq cX1_copyFrom 47 (.aload_n 0, 1) = true)))) ∧ ((((fp_dq cX1_copyFrom 48 (.getfield 19, 3) = true ∧ fp_dq cX1_copyFrom 51 (.iconst 0, 1) = true) ∧ (fp_dq cX1_copyFrom 52 (.aload_n 0, 1) = true ∧ fp_dq cX1_copyFrom 53 (.getfield 19, 3) = true)) ∧ ((fp_dq cX1_copyFrom 56 (.arraylength, 1) = true ∧ fp_dq cX1_copyFrom 57 (.invokestatic 31, 3) = true) ∧ (fp_dq cX1_copyFrom 60 (.aload_n 1, 1) = true ∧ fp_dq cX1_copyFrom 61 (.getfield 22, 3) = true))) ∧ (((fp_dq cX1_copyFrom 64 (.iconst 0, 1) = true ∧ fp_dq cX1_copyFrom 65 (.aload_n 0, 1) = true) ∧ (fp_dq cX1_copyFrom 66 (.getfield 22, 3) = true ∧ fp_dq cX1_copyFrom 69 (.iconst 0, 1) = true)) ∧ ((fp_dq cX1_copyFrom 70 (.aload_n 0, 1) = true ∧ fp_dq cX1_copyFrom 71 (.getfield 22, 3) = true) ∧ (fp_dq cX1_copyFrom 74 (.arraylength, 1) = true ∧ fp_dq cX1_copyFrom 75 (.invokestatic 31, 3) = true))))) := by decide +kernel
theorem dX1_copyFrom_18 : decode cX1_copyFrom 18 = .ok (.getfield 9, 3) := fp_dk fp_hdX1_copyFrom_18.1.1.1.1.1
theorem dX1_copyFrom_21 : decode cX1_copyFrom 21 = .ok (.putfield 9, 3) := fp_dk fp_hdX1_copyFrom_18.1.1.1.1.2
theorem dX1_copyFrom_24 : decode cX1_copyFrom 24 = .ok (.aload_n 1, 1) := fp_dk fp_hdX1_copyFrom_18.1.1.1.2.1
theorem dX1_copyFrom_25 : decode cX1_copyFrom 25 = .ok (.getfield 15, 3) := fp_dk fp_hdX1_copyFrom_18.1.1.1.2.2
theorem dX1_copyFrom_28 : decode cX1_copyFrom 28 = .ok (.iconst 0, 1) := fp_dk fp_hdX1_copyFrom_18.1.1.2.1.1
theorem dX1_copyFrom_29 : decode cX1_copyFrom 29 = .ok (.aload_n 0, 1) := fp_dk fp_hdX1_copyFrom_18.1.1.2.1.2
theorem dX1_copyFrom_30 : decode cX1_copyFrom 30 = .ok (.getfield 15, 3) := fp_dk fp_hdX1_copyFrom_18.1.1.2.2.1
theorem dX1_copyFrom_33 : decode cX1_copyFrom 33 = .ok (.iconst 0, 1) := fp_dk fp_hdX1_copyFrom_18.1.1.2.2.2
theorem dX1_copyFrom_34 : decode cX1_copyFrom 34 = .ok (.aload_n 0, 1) := fp_dk fp_hdX1_copyFrom_18.1.2.1.1.1
theorem dX1_copyFrom_35 : decode cX1_copyFrom 35 = .ok (.getfield 15, 3) := fp_dk fp_hdX1_copyFrom_18.1.2.1.1.2
theorem dX1_copyFrom_38 : decode cX1_copyFrom 38 = .ok (.arraylength, 1) := fp_dk fp_hdX1_copyFrom_18.1.2.1.2.1
theorem dX1_copyFrom_39 : decode cX1_copyFrom 39 = .ok (.invokestatic 31, 3) := fp_dk fp_hdX1_copyFrom_18.1.2.1.2.2
theorem dX1_copyFrom_42 : decode cX1_copyFrom 42 = .ok (.aload_n 1, 1) := fp_dk fp_hdX1_copyFrom_18.1.2.2.1.1
theorem dX1_copyFrom_43 : decode cX1_copyFrom 43 = .ok (.getfield 19, 3) := fp_dk fp_hdX1_copyFrom_18.1.2.2.1.2
theorem dX1_copyFrom_46 : decode cX1_copyFrom 46 = .ok (.iconst 0, 1) := fp_dk fp_hdX1_copyFrom_18.1.2.2.2.1
theorem dX1_copyFrom_47 : decode cX1_copyFrom 47 = .ok (.aload_n 0, 1) := fp_dk fp_hdX1_copyFrom_18.1.2.2.2.2
theorem dX1_copyFrom_48 : decode cX1_copyFrom 48 = .ok (.getfield 19, 3) := fp_dk fp_hdX1_copyFrom_18.2.1.1.1.1
theorem dX1_copyFrom_51 : decode cX1_copyFrom 51 = .ok (.iconst 0, 1) := fp_dk fp_hdX1_copyFrom_18.2.1.1.1.2
theorem dX1_copyFrom_52 : decode cX1_copyFrom 52 = .ok (.aload_n 0, 1) := fp_dk fp_hdX1_copyFrom_18.2.1.1.2.1
theorem dX1_copyFrom_53 : decode cX1_copyFrom 53 = .ok (.getfield 19, 3) := fp_dk fp_hdX1_copyFrom_18.2.1.1.2.2
theorem dX1_copyFrom_56 : decode cX1_copyFrom 56 = .ok (.arraylength, 1) := fp_dk fp_hdX1_copyFrom_18.2.1.2.1.1
theorem dX1_copyFrom_57 : decode cX1_copyFrom 57 = .ok (.invokestatic 31, 3) := fp_dk fp_hdX1_copyFrom_18.2.1.2.1.2
theorem dX1_copyFrom_60 : decode cX1_copyFrom 60 = .ok (.aload_n 1, 1) := fp_dk fp_hdX1_copyFrom_18.2.1.2.2.1
theorem dX1_copyFrom_61 : decode cX1_copyFrom 61 = .ok (.getfield 22, 3) := fp_dk fp_hdX1_copyFrom_18.2.1.2.2.2
theorem dX1_copyFrom_64 : decode cX1_copyFrom 64 = .ok (.iconst 0, 1) := fp_dk fp_hdX1_copyFrom_18.2.2.1.1.1
theorem dX1_copyFrom_65 : decode cX1_copyFrom 65 = .ok (.aload_n 0, 1) := fp_dk fp_hdX1_copyFrom_18.2.2.1.1.2
theorem dX1_copyFrom_66 : decode cX1_copyFrom 66 = .ok (.getfield 22, 3) := fp_dk fp_hdX1_copyFrom_18.2.2.1.2.1
theorem dX1_copyFrom_69 : decode cX1_copyFrom 69 = .ok (.iconst 0, 1) := fp_dk fp_hdX1_copyFrom_18.2.2.1.2.2
theorem dX1_copyFrom_70 : decode cX1_copyFrom 70 = .ok (.aload_n 0, 1) := fp_dk fp_hdX1_copyFrom_18.2.2.2.1.1
theorem dX1_copyFrom_71 : decode cX1_copyFrom 71 = .ok (.getfield 22, 3) := fp_dk fp_hdX1_copyFrom_18.2.2.2.1.2
theorem dX1_copyFrom_74 : decode cX1_copyFrom 74 = .ok (.arraylength, 1) := fp_dk fp_hdX1_copyFrom_18.2.2.2.2.1
theorem dX1_copyFrom_75 : decode cX1_copyFrom 75 = .ok (.invokestatic 31, 3) := fp_dk fp_hdX1_copyFrom_18.2.2.2.2.2
theorem fp_hdX1_copyFrom_78 : (((((fp_dq cX1_copyFrom 78 (.return_, 1) = true ∧ fp_dq cX1_hasThing 0 (.iload_n 1, 1) = true) ∧ (fp_dq cX1_hasThing 1 (.ifCond .lt 15, 3) = true ∧ fp_dq cX1_hasThing 4 (.iload_n 1, 1) = true)) ∧ ((fp_dq cX1_hasThing 5 (.aload_n 0, 1) = true ∧ fp_dq cX1_hasThing 6 (.getfield 25, 3) = true) ∧ (fp_dq cX1_hasThing 9 (.if_icmp .ge 7, 3) = true ∧ fp_dq cX1_hasThing 12 (.iconst 1, 1) = true))) ∧ (((fp_dq cX1_hasThing 13 (.goto 4, 3) = true ∧ fp_dq cX1_hasThing 16 (.iconst 0, 1) = true) ∧ (fp_dq cX1_hasThing 17 (.ireturn, 1) = true ∧ fp_dq cX1_hasLine 0 (.iload_n 1, 1) = true)) ∧ ((fp_dq cX1_hasLine 1 (.ifCond .lt 15, 3) = true ∧ fp_dq cX1_hasLine 4 (.iload_n 1, 1) = true) ∧ (fp_dq cX1_hasLine 5 (.aload_n 0, 1) = true ∧ fp_dq cX1_hasLine 6 (.getfield 28, 3) = true)))) ∧ ((((fp_dq cX1_hasLine 9 (.if_icmp .ge 7, 3) = true ∧ fp_dq cX1_hasLine 12 (.iconst 1, 1) = true) ∧ (fp_dq cX1_hasLine 13 (.goto 4, 3) = true ∧ fp_dq cX1_hasLine 16 (.iconst 0, 1) = true)) ∧ ((fp_dq cX1_hasLine 17 (.ireturn, 1) = true ∧ fp_dq cX1_valueTo 0 (.aload_n 0, 1) = true) ∧ (fp_dq cX1_valueTo 1 (.getfield 19, 3) = true ∧ fp_dq cX1_valueTo 4 (.iload_n 2, 1) = true))) ∧ (((fp_dq cX1_valueTo 5 (.iconst 4, 1) = true ∧ fp_dq cX1_valueTo 6 (.imul, 1) = true) ∧ (fp_dq cX1_valueTo 7 (.iload_n 1, 1) = true ∧ fp_dq cX1_valueTo 8 (.iadd, 1) = true)) ∧ ((fp_dq cX1_valueTo 9 (.iaload, 1) = true ∧ fp_dq cX1_valueTo 10 (.ireturn, 1) = true) ∧ (fp_dq cX2_init 0 (.aload_n 0, 1) = true ∧ fp_dq cX2_init 1 (.invokespecial 1, 3) = true))))) := by decide +kernel
theorem dX1_copyFrom_78 : decode cX1_copyFrom 78 = .ok (.return_, 1) := fp_dk fp_hdX1_copyFrom_78.1.1.1.1.1
theorem dX1_hasThing_0 : decode cX1_hasThing 0 = .ok (.iload_n 1, 1) := fp_dk fp_hdX1_copyFrom_78.1.1.1.1.2
theorem dX1_hasThing_1 : decode cX1_hasThing 1 = .ok (.ifCond .lt 15, 3) := fp_dk fp_hdX1_copyFrom_78.1.1.1.2.1
theorem dX1_hasThing_4 : decode cX1_hasThing 4 = .ok (.iload_n 1, 1) := fp_dk fp_hdX1_copyFrom_78.1.1.1.2.2
theorem dX1_hasThing_5 : decode cX1_hasThing 5 = .ok (.aload_n 0, 1) := fp_dk fp_hdX1_copyFrom_78.1.1.2.1.1
theorem dX1_hasThing_6 : decode cX1_hasThing 6 = .ok (.getfield 25, 3) := fp_dk fp_hdX1_copyFrom_78.1.1.2.1.2
theorem dX1_hasThing_9 : decode cX1_hasThing 9 = .ok (.if_icmp .ge 7, 3) := fp_dk fp_hdX1_copyFrom_78.1.1.2.2.1
theorem dX1_hasThing_12 : decode cX1_hasThing 12 = .ok (.iconst 1, 1) := fp_dk fp_hdX1_copyFrom_78.1.1.2.2.2
theorem dX1_hasThing_13 : decode cX1_hasThing 13 = .ok (.goto 4, 3) := fp_dk fp_hdX1_copyFrom_78.1.2.1.1.1
theorem dX1_hasThing_16 : decode cX1_hasThing 16 = .ok (.iconst 0, 1) := fp_dk fp_hdX1_copyFrom_78.1.2.1.1.2
theorem dX1_hasThing_17 : decode cX1_hasThing 17 = .ok (.ireturn, 1) := fp_dk fp_hdX1_copyFrom_78.1.2.1.2.1
theorem dX1_hasLine_0 : decode cX1_hasLine 0 = .ok (.iload_n 1, 1) := fp_dk fp_hdX1_copyFrom_78.1.2.1.2.2
theorem dX1_hasLine_1 : decode cX1_hasLine 1 = .ok (.ifCond .lt 15, 3) := fp_dk fp_hdX1_copyFrom_78.1.2.2.1.1
theorem dX1_hasLine_4 : decode cX1_hasLine 4 = .ok (.iload_n 1, 1) := fp_dk fp_hdX1_copyFrom_78.1.2.2.1.2
theorem dX1_hasLine_5 : decode cX1_hasLine 5 = .ok (.aload_n 0, 1) := fp_dk fp_hdX1_copyFrom_78.1.2.2.2.1
theorem dX1_hasLine_6 : decode cX1_hasLine 6 = .ok (.getfield 28, 3) := fp_dk fp_hdX1_copyFrom_78.1.2.2.2.2
theorem dX1_hasLine_9 : decode cX1_hasLine 9 = .ok (.if_icmp .ge 7, 3) := fp_dk fp_hdX1_copyFrom_78.2.1.1.1.1
theorem dX1_hasLine_12 : decode cX1_hasLine 12 = .ok (.iconst 1, 1) := fp_dk fp_hdX1_copyFrom_78.2.1.1.1.2
theorem dX1_hasLine_13 : decode cX1_hasLine 13 = .ok (.goto 4, 3) := fp_dk fp_hdX1_copyFrom_78.2.1.1.2.1
theorem dX1_hasLine_16 : decode cX1_hasLine 16 = .ok (.iconst 0, 1) := fp_dk fp_hdX1_copyFrom_78.2.1.1.2.2
theorem dX1_hasLine_17 : decode cX1_hasLine 17 = .ok (.ireturn, 1) := fp_dk fp_hdX1_copyFrom_78.2.1.2.1.1
theorem dX1_valueTo_0 : decode cX1_valueTo 0 = .ok (.aload_n 0, 1) := fp_dk fp_hdX1_copyFrom_78.2.1.2.1.2
theorem dX1_valueTo_1 : decode cX1_valueTo 1 = .ok (.getfield 19, 3) := fp_dk fp_hdX1_copyFrom_78.2.1.2.2.1
theorem dX1_valueTo_4 : decode cX1_valueTo 4 = .ok (.iload_n 2, 1) := fp_dk fp_hdX1_copyFrom_78.2.1.2.2.2
theorem dX1_valueTo_5 : decode cX1_valueTo 5 = .ok (.iconst 4, 1) := fp_dk fp_hdX1_copyFrom_78.2.2.1.1.1
theorem dX1_valueTo_6 : decode cX1_valueTo 6 = .ok (.imul, 1) := fp_dk fp_hdX1_copyFrom_78.2.2.1.1.2
theorem dX1_valueTo_7 : decode cX1_valueTo 7 = .ok (.iload_n 1, 1) := fp_dk fp_hdX1_copyFrom_78.2.2.1.2.1
theorem dX1_valueTo_8 : decode cX1_valueTo 8 = .ok (.iadd, 1) := fp_dk fp_hdX1_copyFrom_78.2.2.1.2.2
theorem dX1_valueTo_9 : decode cX1_valueTo 9 = .ok (.iaload, 1) := fp_dk fp_hdX1_copyFrom_78.2.2.2.1.1
theorem dX1_valueTo_10 : decode cX1_valueTo 10 = .ok (.ireturn, 1) := fp_dk fp_hdX1_copyFrom_78.2.2.2.1.2
theorem dX2_init_0 : decode cX2_init 0 = .ok (.aload_n 0, 1) := fp_dk fp_hdX1_copyFrom_78.2.2.2.2.1
theorem dX2_init_1 : decode cX2_init 1 = .ok (.invokespecial 1, 3) := fp_dk fp_hdX1_copyFrom_78.2.2.2.2.2
theorem fp_hdX2_init_4 : (((((fp_dq cX2_init 4 (.aload_n 0, 1) = true ∧ fp_dq cX2_init 5 (.new 7, 3) = true) ∧ (fp_dq cX2_init 8 (.dup, 1) = true ∧ fp_dq cX2_init 9 (.invokespecial 9, 3) = true)) ∧ ((fp_dq cX2_init 12 (.putfield 10, 3) = true ∧ fp_dq cX2_init 15 (.aload_n 0, 1) = true) ∧ (fp_dq cX2_init 16 (.new 16, 3) = true ∧ fp_dq cX2_init 19 (.dup, 1) = true))) ∧ (((fp_dq cX2_init 20 (.invokespecial 18, 3) = true ∧ fp_dq cX2_init 23 (.putfield 19, 3) = true) ∧ (fp_dq cX2_init 26 (.aload_n 0, 1) = true ∧ fp_dq cX2_init 27 (.new 23, 3) = true)) ∧ ((fp_dq cX2_init 30 (.dup, 1) = true ∧ fp_dq cX2_init 31 (.invokespecial 25, 3) = true) ∧ (fp_dq cX2_init 34 (.putfield 26, 3) = true ∧ fp_dq cX2_init 37 (.return_, 1) = true)))) ∧ ((((fp_dq cX3_init 0 (.aload_n 0, 1) = true ∧ fp_dq cX3_init 1 (.invokespecial 3, 3) = true) ∧ (fp_dq cX3_init 4 (.aload_n 0, 1) = true ∧ fp_dq cX3_init 5 (.bipush 8, 2) = true)) ∧ ((fp_dq cX3_init 7 (.newarray .int, 2) = true ∧ fp_dq cX3_init 9 (.putfield 9, 3) = true) ∧ (fp_dq cX3_init 12 (.return_, 1) = true ∧ fp_dq cX3_copyFrom 0 (.aload_n 0, 1) = true))) ∧ (((fp_dq cX3_copyFrom 1 (.aload_n 1, 1) = true ∧ fp_dq cX3_copyFrom 2 (.getfield 15, 3) = true) ∧ (fp_dq cX3_copyFrom 5 (.putfield 15, 3) = true ∧ fp_dq cX3_copyFrom 8 (.aload_n 1, 1) = true)) ∧ ((fp_dq cX3_copyFrom 9 (.getfield 9, 3) = true ∧ fp_dq cX3_copyFrom 12 (.iconst 0, 1) = true) ∧ (fp_dq cX3_copyFrom 13 (.aload_n 0, 1) = true ∧ fp_dq cX3_copyFrom 14 (.getfield 9, 3) = true))))) := by decide +kernel
theorem dX2_init_4 : decode cX2_init 4 = .ok (.aload_n 0, 1) := fp_dk fp_hdX2_init_4.1.1.1.1.1
theorem dX2_init_5 : decode cX2_init 5 = .ok (.new 7, 3) := fp_dk fp_hdX2_init_4.1.1.1.1.2
theorem dX2_init_8 : decode cX2_init 8 = .ok (.dup, 1) := fp_dk fp_hdX2_init_4.1.1.1.2.1
theorem dX2_init_9 : decode cX2_init 9 = .ok (.invokespecial 9, 3) := fp_dk fp_hdX2_init_4.1.1.1.2.2
theorem dX2_init_12 : decode cX2_init 12 = .ok (.putfield 10, 3) := fp_dk fp_hdX2_init_4.1.1.2.1.1
theorem dX2_init_15 : decode cX2_init 15 = .ok (.aload_n 0, 1) := fp_dk fp_hdX2_init_4.1.1.2.1.2
theorem dX2_init_16 : decode cX2_init 16 = .ok (.new 16, 3) := fp_dk fp_hdX2_init_4.1.1.2.2.1
theorem dX2_init_19 : decode cX2_init 19 = .ok (.dup, 1) := fp_dk fp_hdX2_init_4.1.1.2.2.2
theorem dX2_init_20 : decode cX2_init 20 = .ok (.invokespecial 18, 3) := fp_dk fp_hdX2_init_4.1.2.1.1.1
theorem dX2_init_23 : decode cX2_init 23 = .ok (.putfield 19, 3) := fp_dk fp_hdX2_init_4.1.2.1.1.2
theorem dX2_init_26 : decode cX2_init 26 = .ok (.aload_n 0, 1) := fp_dk fp_hdX2_init_4.1.2.1.2.1
theorem dX2_init_27 : decode cX2_init 27 = .ok (.new 23, 3) := fp_dk fp_hdX2_init_4.1.2.1.2.2
theorem dX2_init_30 : decode cX2_init 30 = .ok (.dup, 1) := fp_dk fp_hdX2_init_4.1.2.2.1.1
theorem dX2_init_31 : decode cX2_init 31 = .ok (.invokespecial 25, 3) := fp_dk fp_hdX2_init_4.1.2.2.1.2
theorem dX2_init_34 : decode cX2_init 34 = .ok (.putfield 26, 3) := fp_dk fp_hdX2_init_4.1.2.2.2.1
theorem dX2_init_37 : decode cX2_init 37 = .ok (.return_, 1) := fp_dk fp_hdX2_init_4.1.2.2.2.2
theorem dX3_init_0 : decode cX3_init 0 = .ok (.aload_n 0, 1) := fp_dk fp_hdX2_init_4.2.1.1.1.1
theorem dX3_init_1 : decode cX3_init 1 = .ok (.invokespecial 3, 3) := fp_dk fp_hdX2_init_4.2.1.1.1.2
theorem dX3_init_4 : decode cX3_init 4 = .ok (.aload_n 0, 1) := fp_dk fp_hdX2_init_4.2.1.1.2.1
theorem dX3_init_5 : decode cX3_init 5 = .ok (.bipush 8, 2) := fp_dk fp_hdX2_init_4.2.1.1.2.2
theorem dX3_init_7 : decode cX3_init 7 = .ok (.newarray .int, 2) := fp_dk fp_hdX2_init_4.2.1.2.1.1
theorem dX3_init_9 : decode cX3_init 9 = .ok (.putfield 9, 3) := fp_dk fp_hdX2_init_4.2.1.2.1.2
theorem dX3_init_12 : decode cX3_init 12 = .ok (.return_, 1) := fp_dk fp_hdX2_init_4.2.1.2.2.1
theorem dX3_copyFrom_0 : decode cX3_copyFrom 0 = .ok (.aload_n 0, 1) := fp_dk fp_hdX2_init_4.2.1.2.2.2
theorem dX3_copyFrom_1 : decode cX3_copyFrom 1 = .ok (.aload_n 1, 1) := fp_dk fp_hdX2_init_4.2.2.1.1.1
theorem dX3_copyFrom_2 : decode cX3_copyFrom 2 = .ok (.getfield 15, 3) := fp_dk fp_hdX2_init_4.2.2.1.1.2
theorem dX3_copyFrom_5 : decode cX3_copyFrom 5 = .ok (.putfield 15, 3) := fp_dk fp_hdX2_init_4.2.2.1.2.1
theorem dX3_copyFrom_8 : decode cX3_copyFrom 8 = .ok (.aload_n 1, 1) := fp_dk fp_hdX2_init_4.2.2.1.2.2
theorem dX3_copyFrom_9 : decode cX3_copyFrom 9 = .ok (.getfield 9, 3) := fp_dk fp_hdX2_init_4.2.2.2.1.1
theorem dX3_copyFrom_12 : decode cX3_copyFrom 12 = .ok (.iconst 0, 1) := fp_dk fp_hdX2_init_4.2.2.2.1.2
theorem dX3_copyFrom_13 : decode cX3_copyFrom 13 = .ok (.aload_n 0, 1) := fp_dk fp_hdX2_init_4.2.2.2.2.1
theorem dX3_copyFrom_14 : decode cX3_copyFrom 14 = .ok (.getfield 9, 3) := fp_dk fp_hdX2_init_4.2.2.2.2.2
theorem fp_hdX3_copyFrom_17 : (((((fp_dq cX3_copyFrom 17 (.iconst 0, 1) = true ∧ fp_dq cX3_copyFrom 18 (.aload_n 0, 1) = true) ∧ (fp_dq cX3_copyFrom 19 (.getfield 9, 3) = true ∧ fp_dq cX3_copyFrom 22 (.arraylength, 1) = true)) ∧ ((fp_dq cX3_copyFrom 23 (.invokestatic 19, 3) = true ∧ fp_dq cX3_copyFrom 26 (.return_, 1) = true) ∧ (fp_dq cX3_spotOf 0 (.iconst 0, 1) = true ∧ fp_dq cX3_spotOf 1 (.istore_n 2, 1) = true))) ∧ (((fp_dq cX3_spotOf 2 (.iload_n 2, 1) = true ∧ fp_dq cX3_spotOf 3 (.aload_n 0, 1) = true) ∧ (fp_dq cX3_spotOf 4 (.getfield 15, 3) = true ∧ fp_dq cX3_spotOf 7 (.if_icmp .ge 21, 3) = true)) ∧ ((fp_dq cX3_spotOf 10 (.aload_n 0, 1) = true ∧ fp_dq cX3_spotOf 11 (.getfield 9, 3) = true) ∧ (fp_dq cX3_spotOf 14 (.iload_n 2, 1) = true ∧ fp_dq cX3_spotOf 15 (.iaload, 1) = true)))) ∧ ((((fp_dq cX3_spotOf 16 (.iload_n 1, 1) = true ∧ fp_dq cX3_spotOf 17 (.if_icmp .ne 5, 3) = true) ∧ (fp_dq cX3_spotOf 20 (.iload_n 2, 1) = true ∧ fp_dq cX3_spotOf 21 (.ireturn, 1) = true)) ∧ ((fp_dq cX3_spotOf 22 (.iinc 2 1, 3) = true ∧ fp_dq cX3_spotOf 25 (.goto (-23), 3) = true) ∧ (fp_dq cX3_spotOf 28 (.bipush (-4), 2) = true ∧ fp_dq cX3_spotOf 30 (.ireturn, 1) = true))) ∧ (((fp_dq cX3_add 0 (.aload_n 0, 1) = true ∧ fp_dq cX3_add 1 (.getfield 15, 3) = true) ∧ (fp_dq cX3_add 4 (.bipush 8, 2) = true ∧ fp_dq cX3_add 6 (.if_icmp .lt 5, 3) = true)) ∧ ((fp_dq cX3_add 9 (.iconst 0, 1) = true ∧ fp_dq cX3_add 10 (.ireturn, 1) = true) ∧ (fp_dq cX3_add 11 (.aload_n 0, 1) = true ∧ fp_dq cX3_add 12 (.getfield 9, 3) = true))))) := by decide +kernel
theorem dX3_copyFrom_17 : decode cX3_copyFrom 17 = .ok (.iconst 0, 1) := fp_dk fp_hdX3_copyFrom_17.1.1.1.1.1
theorem dX3_copyFrom_18 : decode cX3_copyFrom 18 = .ok (.aload_n 0, 1) := fp_dk fp_hdX3_copyFrom_17.1.1.1.1.2
theorem dX3_copyFrom_19 : decode cX3_copyFrom 19 = .ok (.getfield 9, 3) := fp_dk fp_hdX3_copyFrom_17.1.1.1.2.1
theorem dX3_copyFrom_22 : decode cX3_copyFrom 22 = .ok (.arraylength, 1) := fp_dk fp_hdX3_copyFrom_17.1.1.1.2.2
theorem dX3_copyFrom_23 : decode cX3_copyFrom 23 = .ok (.invokestatic 19, 3) := fp_dk fp_hdX3_copyFrom_17.1.1.2.1.1
theorem dX3_copyFrom_26 : decode cX3_copyFrom 26 = .ok (.return_, 1) := fp_dk fp_hdX3_copyFrom_17.1.1.2.1.2
theorem dX3_spotOf_0 : decode cX3_spotOf 0 = .ok (.iconst 0, 1) := fp_dk fp_hdX3_copyFrom_17.1.1.2.2.1
theorem dX3_spotOf_1 : decode cX3_spotOf 1 = .ok (.istore_n 2, 1) := fp_dk fp_hdX3_copyFrom_17.1.1.2.2.2
theorem dX3_spotOf_2 : decode cX3_spotOf 2 = .ok (.iload_n 2, 1) := fp_dk fp_hdX3_copyFrom_17.1.2.1.1.1
theorem dX3_spotOf_3 : decode cX3_spotOf 3 = .ok (.aload_n 0, 1) := fp_dk fp_hdX3_copyFrom_17.1.2.1.1.2
theorem dX3_spotOf_4 : decode cX3_spotOf 4 = .ok (.getfield 15, 3) := fp_dk fp_hdX3_copyFrom_17.1.2.1.2.1
theorem dX3_spotOf_7 : decode cX3_spotOf 7 = .ok (.if_icmp .ge 21, 3) := fp_dk fp_hdX3_copyFrom_17.1.2.1.2.2
theorem dX3_spotOf_10 : decode cX3_spotOf 10 = .ok (.aload_n 0, 1) := fp_dk fp_hdX3_copyFrom_17.1.2.2.1.1
theorem dX3_spotOf_11 : decode cX3_spotOf 11 = .ok (.getfield 9, 3) := fp_dk fp_hdX3_copyFrom_17.1.2.2.1.2
theorem dX3_spotOf_14 : decode cX3_spotOf 14 = .ok (.iload_n 2, 1) := fp_dk fp_hdX3_copyFrom_17.1.2.2.2.1
theorem dX3_spotOf_15 : decode cX3_spotOf 15 = .ok (.iaload, 1) := fp_dk fp_hdX3_copyFrom_17.1.2.2.2.2
theorem dX3_spotOf_16 : decode cX3_spotOf 16 = .ok (.iload_n 1, 1) := fp_dk fp_hdX3_copyFrom_17.2.1.1.1.1
theorem dX3_spotOf_17 : decode cX3_spotOf 17 = .ok (.if_icmp .ne 5, 3) := fp_dk fp_hdX3_copyFrom_17.2.1.1.1.2
theorem dX3_spotOf_20 : decode cX3_spotOf 20 = .ok (.iload_n 2, 1) := fp_dk fp_hdX3_copyFrom_17.2.1.1.2.1
theorem dX3_spotOf_21 : decode cX3_spotOf 21 = .ok (.ireturn, 1) := fp_dk fp_hdX3_copyFrom_17.2.1.1.2.2
theorem dX3_spotOf_22 : decode cX3_spotOf 22 = .ok (.iinc 2 1, 3) := fp_dk fp_hdX3_copyFrom_17.2.1.2.1.1
theorem dX3_spotOf_25 : decode cX3_spotOf 25 = .ok (.goto (-23), 3) := fp_dk fp_hdX3_copyFrom_17.2.1.2.1.2
theorem dX3_spotOf_28 : decode cX3_spotOf 28 = .ok (.bipush (-4), 2) := fp_dk fp_hdX3_copyFrom_17.2.1.2.2.1
theorem dX3_spotOf_30 : decode cX3_spotOf 30 = .ok (.ireturn, 1) := fp_dk fp_hdX3_copyFrom_17.2.1.2.2.2
theorem dX3_add_0 : decode cX3_add 0 = .ok (.aload_n 0, 1) := fp_dk fp_hdX3_copyFrom_17.2.2.1.1.1
theorem dX3_add_1 : decode cX3_add 1 = .ok (.getfield 15, 3) := fp_dk fp_hdX3_copyFrom_17.2.2.1.1.2
theorem dX3_add_4 : decode cX3_add 4 = .ok (.bipush 8, 2) := fp_dk fp_hdX3_copyFrom_17.2.2.1.2.1
theorem dX3_add_6 : decode cX3_add 6 = .ok (.if_icmp .lt 5, 3) := fp_dk fp_hdX3_copyFrom_17.2.2.1.2.2
theorem dX3_add_9 : decode cX3_add 9 = .ok (.iconst 0, 1) := fp_dk fp_hdX3_copyFrom_17.2.2.2.1.1
theorem dX3_add_10 : decode cX3_add 10 = .ok (.ireturn, 1) := fp_dk fp_hdX3_copyFrom_17.2.2.2.1.2
theorem dX3_add_11 : decode cX3_add 11 = .ok (.aload_n 0, 1) := fp_dk fp_hdX3_copyFrom_17.2.2.2.2.1
theorem dX3_add_12 : decode cX3_add 12 = .ok (.getfield 9, 3) := fp_dk fp_hdX3_copyFrom_17.2.2.2.2.2
theorem fp_hdX3_add_15 : (((((fp_dq cX3_add 15 (.aload_n 0, 1) = true ∧ fp_dq cX3_add 16 (.getfield 15, 3) = true) ∧ (fp_dq cX3_add 19 (.iload_n 1, 1) = true ∧ fp_dq cX3_add 20 (.iastore, 1) = true)) ∧ ((fp_dq cX3_add 21 (.aload_n 0, 1) = true ∧ fp_dq cX3_add 22 (.dup, 1) = true) ∧ (fp_dq cX3_add 23 (.getfield 15, 3) = true ∧ fp_dq cX3_add 26 (.iconst 1, 1) = true))) ∧ (((fp_dq cX3_add 27 (.iadd, 1) = true ∧ fp_dq cX3_add 28 (.putfield 15, 3) = true) ∧ (fp_dq cX3_add 31 (.iconst 1, 1) = true ∧ fp_dq cX3_add 32 (.ireturn, 1) = true)) ∧ ((fp_dq cX4_init 0 (.aload_n 0, 1) = true ∧ fp_dq cX4_init 1 (.invokespecial 3, 3) = true) ∧ (fp_dq cX4_init 4 (.aload_n 0, 1) = true ∧ fp_dq cX4_init 5 (.bipush 8, 2) = true)))) ∧ ((((fp_dq cX4_init 7 (.newarray .int, 2) = true ∧ fp_dq cX4_init 9 (.putfield 9, 3) = true) ∧ (fp_dq cX4_init 12 (.aload_n 0, 1) = true ∧ fp_dq cX4_init 13 (.bipush 8, 2) = true)) ∧ ((fp_dq cX4_init 15 (.newarray .int, 2) = true ∧ fp_dq cX4_init 17 (.putfield 15, 3) = true) ∧ (fp_dq cX4_init 20 (.return_, 1) = true ∧ fp_dq cX4_prepare 0 (.aload_n 0, 1) = true))) ∧ (((fp_dq cX4_prepare 1 (.aload_n 1, 1) = true ∧ fp_dq cX4_prepare 2 (.getfield 18, 3) = true) ∧ (fp_dq cX4_prepare 5 (.iload_n 3, 1) = true ∧ fp_dq cX4_prepare 6 (.iaload, 1) = true)) ∧ ((fp_dq cX4_prepare 7 (.putfield 23, 3) = true ∧ fp_dq cX4_prepare 10 (.aload_n 0, 1) = true) ∧ (fp_dq cX4_prepare 11 (.aload_n 2, 1) = true ∧ fp_dq cX4_prepare 12 (.getfield 26, 3) = true))))) := by decide +kernel
theorem dX3_add_15 : decode cX3_add 15 = .ok (.aload_n 0, 1) := fp_dk fp_hdX3_add_15.1.1.1.1.1
theorem dX3_add_16 : decode cX3_add 16 = .ok (.getfield 15, 3) := fp_dk fp_hdX3_add_15.1.1.1.1.2
theorem dX3_add_19 : decode cX3_add 19 = .ok (.iload_n 1, 1) := fp_dk fp_hdX3_add_15.1.1.1.2.1
theorem dX3_add_20 : decode cX3_add 20 = .ok (.iastore, 1) := fp_dk fp_hdX3_add_15.1.1.1.2.2
theorem dX3_add_21 : decode cX3_add 21 = .ok (.aload_n 0, 1) := fp_dk fp_hdX3_add_15.1.1.2.1.1
theorem dX3_add_22 : decode cX3_add 22 = .ok (.dup, 1) := fp_dk fp_hdX3_add_15.1.1.2.1.2
theorem dX3_add_23 : decode cX3_add 23 = .ok (.getfield 15, 3) := fp_dk fp_hdX3_add_15.1.1.2.2.1
theorem dX3_add_26 : decode cX3_add 26 = .ok (.iconst 1, 1) := fp_dk fp_hdX3_add_15.1.1.2.2.2
theorem dX3_add_27 : decode cX3_add 27 = .ok (.iadd, 1) := fp_dk fp_hdX3_add_15.1.2.1.1.1
theorem dX3_add_28 : decode cX3_add 28 = .ok (.putfield 15, 3) := fp_dk fp_hdX3_add_15.1.2.1.1.2
theorem dX3_add_31 : decode cX3_add 31 = .ok (.iconst 1, 1) := fp_dk fp_hdX3_add_15.1.2.1.2.1
theorem dX3_add_32 : decode cX3_add 32 = .ok (.ireturn, 1) := fp_dk fp_hdX3_add_15.1.2.1.2.2
theorem dX4_init_0 : decode cX4_init 0 = .ok (.aload_n 0, 1) := fp_dk fp_hdX3_add_15.1.2.2.1.1
theorem dX4_init_1 : decode cX4_init 1 = .ok (.invokespecial 3, 3) := fp_dk fp_hdX3_add_15.1.2.2.1.2
theorem dX4_init_4 : decode cX4_init 4 = .ok (.aload_n 0, 1) := fp_dk fp_hdX3_add_15.1.2.2.2.1
theorem dX4_init_5 : decode cX4_init 5 = .ok (.bipush 8, 2) := fp_dk fp_hdX3_add_15.1.2.2.2.2
theorem dX4_init_7 : decode cX4_init 7 = .ok (.newarray .int, 2) := fp_dk fp_hdX3_add_15.2.1.1.1.1
theorem dX4_init_9 : decode cX4_init 9 = .ok (.putfield 9, 3) := fp_dk fp_hdX3_add_15.2.1.1.1.2
theorem dX4_init_12 : decode cX4_init 12 = .ok (.aload_n 0, 1) := fp_dk fp_hdX3_add_15.2.1.1.2.1
theorem dX4_init_13 : decode cX4_init 13 = .ok (.bipush 8, 2) := fp_dk fp_hdX3_add_15.2.1.1.2.2
theorem dX4_init_15 : decode cX4_init 15 = .ok (.newarray .int, 2) := fp_dk fp_hdX3_add_15.2.1.2.1.1
theorem dX4_init_17 : decode cX4_init 17 = .ok (.putfield 15, 3) := fp_dk fp_hdX3_add_15.2.1.2.1.2
theorem dX4_init_20 : decode cX4_init 20 = .ok (.return_, 1) := fp_dk fp_hdX3_add_15.2.1.2.2.1
theorem dX4_prepare_0 : decode cX4_prepare 0 = .ok (.aload_n 0, 1) := fp_dk fp_hdX3_add_15.2.1.2.2.2
theorem dX4_prepare_1 : decode cX4_prepare 1 = .ok (.aload_n 1, 1) := fp_dk fp_hdX3_add_15.2.2.1.1.1
theorem dX4_prepare_2 : decode cX4_prepare 2 = .ok (.getfield 18, 3) := fp_dk fp_hdX3_add_15.2.2.1.1.2
theorem dX4_prepare_5 : decode cX4_prepare 5 = .ok (.iload_n 3, 1) := fp_dk fp_hdX3_add_15.2.2.1.2.1
theorem dX4_prepare_6 : decode cX4_prepare 6 = .ok (.iaload, 1) := fp_dk fp_hdX3_add_15.2.2.1.2.2
theorem dX4_prepare_7 : decode cX4_prepare 7 = .ok (.putfield 23, 3) := fp_dk fp_hdX3_add_15.2.2.2.1.1
theorem dX4_prepare_10 : decode cX4_prepare 10 = .ok (.aload_n 0, 1) := fp_dk fp_hdX3_add_15.2.2.2.1.2
theorem dX4_prepare_11 : decode cX4_prepare 11 = .ok (.aload_n 2, 1) := fp_dk fp_hdX3_add_15.2.2.2.2.1
theorem dX4_prepare_12 : decode cX4_prepare 12 = .ok (.getfield 26, 3) := fp_dk fp_hdX3_add_15.2.2.2.2.2
theorem fp_hdX4_prepare_15 : (((((fp_dq cX4_prepare 15 (.iload_n 3, 1) = true ∧ fp_dq cX4_prepare 16 (.iaload, 1) = true) ∧ (fp_dq cX4_prepare 17 (.putfield 31, 3) = true ∧ fp_dq cX4_prepare 20 (.aload_n 2, 1) = true)) ∧ ((fp_dq cX4_prepare 21 (.getfield 33, 3) = true ∧ fp_dq cX4_prepare 24 (.iload_n 3, 1) = true) ∧ (fp_dq cX4_prepare 25 (.bipush 8, 2) = true ∧ fp_dq cX4_prepare 27 (.imul, 1) = true))) ∧ (((fp_dq cX4_prepare 28 (.aload_n 0, 1) = true ∧ fp_dq cX4_prepare 29 (.getfield 9, 3) = true) ∧ (fp_dq cX4_prepare 32 (.iconst 0, 1) = true ∧ fp_dq cX4_prepare 33 (.bipush 8, 2) = true)) ∧ ((fp_dq cX4_prepare 35 (.invokestatic 36, 3) = true ∧ fp_dq cX4_prepare 38 (.return_, 1) = true) ∧ (fp_dq cX4_weightThatCounts 0 (.aload_n 0, 1) = true ∧ fp_dq cX4_weightThatCounts 1 (.getfield 23, 3) = true)))) ∧ ((((fp_dq cX4_weightThatCounts 4 (.iconst 2, 1) = true ∧ fp_dq cX4_weightThatCounts 5 (.if_icmp .ne 12, 3) = true) ∧ (fp_dq cX4_weightThatCounts 8 (.aload_n 1, 1) = true ∧ fp_dq cX4_weightThatCounts 9 (.getfield 42, 3) = true)) ∧ ((fp_dq cX4_weightThatCounts 12 (.iload_n 2, 1) = true ∧ fp_dq cX4_weightThatCounts 13 (.iaload, 1) = true) ∧ (fp_dq cX4_weightThatCounts 14 (.goto 4, 3) = true ∧ fp_dq cX4_weightThatCounts 17 (.iconst 0, 1) = true))) ∧ (((fp_dq cX4_weightThatCounts 18 (.ireturn, 1) = true ∧ fp_dq cX4_isMember 0 (.iconst 0, 1) = true) ∧ (fp_dq cX4_isMember 1 (.istore_n 2, 1) = true ∧ fp_dq cX4_isMember 2 (.iload_n 2, 1) = true)) ∧ ((fp_dq cX4_isMember 3 (.aload_n 0, 1) = true ∧ fp_dq cX4_isMember 4 (.getfield 31, 3) = true) ∧ (fp_dq cX4_isMember 7 (.if_icmp .ge 21, 3) = true ∧ fp_dq cX4_isMember 10 (.aload_n 0, 1) = true))))) := by decide +kernel
theorem dX4_prepare_15 : decode cX4_prepare 15 = .ok (.iload_n 3, 1) := fp_dk fp_hdX4_prepare_15.1.1.1.1.1
theorem dX4_prepare_16 : decode cX4_prepare 16 = .ok (.iaload, 1) := fp_dk fp_hdX4_prepare_15.1.1.1.1.2
theorem dX4_prepare_17 : decode cX4_prepare 17 = .ok (.putfield 31, 3) := fp_dk fp_hdX4_prepare_15.1.1.1.2.1
theorem dX4_prepare_20 : decode cX4_prepare 20 = .ok (.aload_n 2, 1) := fp_dk fp_hdX4_prepare_15.1.1.1.2.2
theorem dX4_prepare_21 : decode cX4_prepare 21 = .ok (.getfield 33, 3) := fp_dk fp_hdX4_prepare_15.1.1.2.1.1
theorem dX4_prepare_24 : decode cX4_prepare 24 = .ok (.iload_n 3, 1) := fp_dk fp_hdX4_prepare_15.1.1.2.1.2
theorem dX4_prepare_25 : decode cX4_prepare 25 = .ok (.bipush 8, 2) := fp_dk fp_hdX4_prepare_15.1.1.2.2.1
theorem dX4_prepare_27 : decode cX4_prepare 27 = .ok (.imul, 1) := fp_dk fp_hdX4_prepare_15.1.1.2.2.2
theorem dX4_prepare_28 : decode cX4_prepare 28 = .ok (.aload_n 0, 1) := fp_dk fp_hdX4_prepare_15.1.2.1.1.1
theorem dX4_prepare_29 : decode cX4_prepare 29 = .ok (.getfield 9, 3) := fp_dk fp_hdX4_prepare_15.1.2.1.1.2
theorem dX4_prepare_32 : decode cX4_prepare 32 = .ok (.iconst 0, 1) := fp_dk fp_hdX4_prepare_15.1.2.1.2.1
theorem dX4_prepare_33 : decode cX4_prepare 33 = .ok (.bipush 8, 2) := fp_dk fp_hdX4_prepare_15.1.2.1.2.2
theorem dX4_prepare_35 : decode cX4_prepare 35 = .ok (.invokestatic 36, 3) := fp_dk fp_hdX4_prepare_15.1.2.2.1.1
theorem dX4_prepare_38 : decode cX4_prepare 38 = .ok (.return_, 1) := fp_dk fp_hdX4_prepare_15.1.2.2.1.2
theorem dX4_weightThatCounts_0 : decode cX4_weightThatCounts 0 = .ok (.aload_n 0, 1) := fp_dk fp_hdX4_prepare_15.1.2.2.2.1
theorem dX4_weightThatCounts_1 : decode cX4_weightThatCounts 1 = .ok (.getfield 23, 3) := fp_dk fp_hdX4_prepare_15.1.2.2.2.2
theorem dX4_weightThatCounts_4 : decode cX4_weightThatCounts 4 = .ok (.iconst 2, 1) := fp_dk fp_hdX4_prepare_15.2.1.1.1.1
theorem dX4_weightThatCounts_5 : decode cX4_weightThatCounts 5 = .ok (.if_icmp .ne 12, 3) := fp_dk fp_hdX4_prepare_15.2.1.1.1.2
theorem dX4_weightThatCounts_8 : decode cX4_weightThatCounts 8 = .ok (.aload_n 1, 1) := fp_dk fp_hdX4_prepare_15.2.1.1.2.1
theorem dX4_weightThatCounts_9 : decode cX4_weightThatCounts 9 = .ok (.getfield 42, 3) := fp_dk fp_hdX4_prepare_15.2.1.1.2.2
theorem dX4_weightThatCounts_12 : decode cX4_weightThatCounts 12 = .ok (.iload_n 2, 1) := fp_dk fp_hdX4_prepare_15.2.1.2.1.1
theorem dX4_weightThatCounts_13 : decode cX4_weightThatCounts 13 = .ok (.iaload, 1) := fp_dk fp_hdX4_prepare_15.2.1.2.1.2
theorem dX4_weightThatCounts_14 : decode cX4_weightThatCounts 14 = .ok (.goto 4, 3) := fp_dk fp_hdX4_prepare_15.2.1.2.2.1
theorem dX4_weightThatCounts_17 : decode cX4_weightThatCounts 17 = .ok (.iconst 0, 1) := fp_dk fp_hdX4_prepare_15.2.1.2.2.2
theorem dX4_weightThatCounts_18 : decode cX4_weightThatCounts 18 = .ok (.ireturn, 1) := fp_dk fp_hdX4_prepare_15.2.2.1.1.1
theorem dX4_isMember_0 : decode cX4_isMember 0 = .ok (.iconst 0, 1) := fp_dk fp_hdX4_prepare_15.2.2.1.1.2
theorem dX4_isMember_1 : decode cX4_isMember 1 = .ok (.istore_n 2, 1) := fp_dk fp_hdX4_prepare_15.2.2.1.2.1
theorem dX4_isMember_2 : decode cX4_isMember 2 = .ok (.iload_n 2, 1) := fp_dk fp_hdX4_prepare_15.2.2.1.2.2
theorem dX4_isMember_3 : decode cX4_isMember 3 = .ok (.aload_n 0, 1) := fp_dk fp_hdX4_prepare_15.2.2.2.1.1
theorem dX4_isMember_4 : decode cX4_isMember 4 = .ok (.getfield 31, 3) := fp_dk fp_hdX4_prepare_15.2.2.2.1.2
theorem dX4_isMember_7 : decode cX4_isMember 7 = .ok (.if_icmp .ge 21, 3) := fp_dk fp_hdX4_prepare_15.2.2.2.2.1
theorem dX4_isMember_10 : decode cX4_isMember 10 = .ok (.aload_n 0, 1) := fp_dk fp_hdX4_prepare_15.2.2.2.2.2
theorem fp_hdX4_isMember_11 : (((((fp_dq cX4_isMember 11 (.getfield 9, 3) = true ∧ fp_dq cX4_isMember 14 (.iload_n 2, 1) = true) ∧ (fp_dq cX4_isMember 15 (.iaload, 1) = true ∧ fp_dq cX4_isMember 16 (.iload_n 1, 1) = true)) ∧ ((fp_dq cX4_isMember 17 (.if_icmp .ne 5, 3) = true ∧ fp_dq cX4_isMember 20 (.iconst 1, 1) = true) ∧ (fp_dq cX4_isMember 21 (.ireturn, 1) = true ∧ fp_dq cX4_isMember 22 (.iinc 2 1, 3) = true))) ∧ (((fp_dq cX4_isMember 25 (.goto (-23), 3) = true ∧ fp_dq cX4_isMember 28 (.iconst 0, 1) = true) ∧ (fp_dq cX4_isMember 29 (.ireturn, 1) = true ∧ fp_dq cX4_canFit 0 (.iconst 0, 1) = true)) ∧ ((fp_dq cX4_canFit 1 (.istore_n 3, 1) = true ∧ fp_dq cX4_canFit 2 (.iload_n 3, 1) = true) ∧ (fp_dq cX4_canFit 3 (.aload_n 2, 1) = true ∧ fp_dq cX4_canFit 4 (.getfield 45, 3) = true)))) ∧ ((((fp_dq cX4_canFit 7 (.if_icmp .ge 34, 3) = true ∧ fp_dq cX4_canFit 10 (.aload_n 0, 1) = true) ∧ (fp_dq cX4_canFit 11 (.aload_n 2, 1) = true ∧ fp_dq cX4_canFit 12 (.getfield 48, 3) = true)) ∧ ((fp_dq cX4_canFit 15 (.iload_n 3, 1) = true ∧ fp_dq cX4_canFit 16 (.iaload, 1) = true) ∧ (fp_dq cX4_canFit 17 (.invokevirtual 51, 3) = true ∧ fp_dq cX4_canFit 20 (.ifCond .eq 13, 3) = true))) ∧ (((fp_dq cX4_canFit 23 (.aload_n 0, 1) = true ∧ fp_dq cX4_canFit 24 (.aload_n 1, 1) = true) ∧ (fp_dq cX4_canFit 25 (.aload_n 2, 1) = true ∧ fp_dq cX4_canFit 26 (.iload_n 3, 1) = true)) ∧ ((fp_dq cX4_canFit 27 (.invokevirtual 55, 3) = true ∧ fp_dq cX4_canFit 30 (.ifCond .ne 5, 3) = true) ∧ (fp_dq cX4_canFit 33 (.iconst 0, 1) = true ∧ fp_dq cX4_canFit 34 (.ireturn, 1) = true))))) := by decide +kernel
theorem dX4_isMember_11 : decode cX4_isMember 11 = .ok (.getfield 9, 3) := fp_dk fp_hdX4_isMember_11.1.1.1.1.1
theorem dX4_isMember_14 : decode cX4_isMember 14 = .ok (.iload_n 2, 1) := fp_dk fp_hdX4_isMember_11.1.1.1.1.2
theorem dX4_isMember_15 : decode cX4_isMember 15 = .ok (.iaload, 1) := fp_dk fp_hdX4_isMember_11.1.1.1.2.1
theorem dX4_isMember_16 : decode cX4_isMember 16 = .ok (.iload_n 1, 1) := fp_dk fp_hdX4_isMember_11.1.1.1.2.2
theorem dX4_isMember_17 : decode cX4_isMember 17 = .ok (.if_icmp .ne 5, 3) := fp_dk fp_hdX4_isMember_11.1.1.2.1.1
theorem dX4_isMember_20 : decode cX4_isMember 20 = .ok (.iconst 1, 1) := fp_dk fp_hdX4_isMember_11.1.1.2.1.2
theorem dX4_isMember_21 : decode cX4_isMember 21 = .ok (.ireturn, 1) := fp_dk fp_hdX4_isMember_11.1.1.2.2.1
theorem dX4_isMember_22 : decode cX4_isMember 22 = .ok (.iinc 2 1, 3) := fp_dk fp_hdX4_isMember_11.1.1.2.2.2
theorem dX4_isMember_25 : decode cX4_isMember 25 = .ok (.goto (-23), 3) := fp_dk fp_hdX4_isMember_11.1.2.1.1.1
theorem dX4_isMember_28 : decode cX4_isMember 28 = .ok (.iconst 0, 1) := fp_dk fp_hdX4_isMember_11.1.2.1.1.2
theorem dX4_isMember_29 : decode cX4_isMember 29 = .ok (.ireturn, 1) := fp_dk fp_hdX4_isMember_11.1.2.1.2.1
theorem dX4_canFit_0 : decode cX4_canFit 0 = .ok (.iconst 0, 1) := fp_dk fp_hdX4_isMember_11.1.2.1.2.2
theorem dX4_canFit_1 : decode cX4_canFit 1 = .ok (.istore_n 3, 1) := fp_dk fp_hdX4_isMember_11.1.2.2.1.1
theorem dX4_canFit_2 : decode cX4_canFit 2 = .ok (.iload_n 3, 1) := fp_dk fp_hdX4_isMember_11.1.2.2.1.2
theorem dX4_canFit_3 : decode cX4_canFit 3 = .ok (.aload_n 2, 1) := fp_dk fp_hdX4_isMember_11.1.2.2.2.1
theorem dX4_canFit_4 : decode cX4_canFit 4 = .ok (.getfield 45, 3) := fp_dk fp_hdX4_isMember_11.1.2.2.2.2
theorem dX4_canFit_7 : decode cX4_canFit 7 = .ok (.if_icmp .ge 34, 3) := fp_dk fp_hdX4_isMember_11.2.1.1.1.1
theorem dX4_canFit_10 : decode cX4_canFit 10 = .ok (.aload_n 0, 1) := fp_dk fp_hdX4_isMember_11.2.1.1.1.2
theorem dX4_canFit_11 : decode cX4_canFit 11 = .ok (.aload_n 2, 1) := fp_dk fp_hdX4_isMember_11.2.1.1.2.1
theorem dX4_canFit_12 : decode cX4_canFit 12 = .ok (.getfield 48, 3) := fp_dk fp_hdX4_isMember_11.2.1.1.2.2
theorem dX4_canFit_15 : decode cX4_canFit 15 = .ok (.iload_n 3, 1) := fp_dk fp_hdX4_isMember_11.2.1.2.1.1
theorem dX4_canFit_16 : decode cX4_canFit 16 = .ok (.iaload, 1) := fp_dk fp_hdX4_isMember_11.2.1.2.1.2
theorem dX4_canFit_17 : decode cX4_canFit 17 = .ok (.invokevirtual 51, 3) := fp_dk fp_hdX4_isMember_11.2.1.2.2.1
theorem dX4_canFit_20 : decode cX4_canFit 20 = .ok (.ifCond .eq 13, 3) := fp_dk fp_hdX4_isMember_11.2.1.2.2.2
theorem dX4_canFit_23 : decode cX4_canFit 23 = .ok (.aload_n 0, 1) := fp_dk fp_hdX4_isMember_11.2.2.1.1.1
theorem dX4_canFit_24 : decode cX4_canFit 24 = .ok (.aload_n 1, 1) := fp_dk fp_hdX4_isMember_11.2.2.1.1.2
theorem dX4_canFit_25 : decode cX4_canFit 25 = .ok (.aload_n 2, 1) := fp_dk fp_hdX4_isMember_11.2.2.1.2.1
theorem dX4_canFit_26 : decode cX4_canFit 26 = .ok (.iload_n 3, 1) := fp_dk fp_hdX4_isMember_11.2.2.1.2.2
theorem dX4_canFit_27 : decode cX4_canFit 27 = .ok (.invokevirtual 55, 3) := fp_dk fp_hdX4_isMember_11.2.2.2.1.1
theorem dX4_canFit_30 : decode cX4_canFit 30 = .ok (.ifCond .ne 5, 3) := fp_dk fp_hdX4_isMember_11.2.2.2.1.2
theorem dX4_canFit_33 : decode cX4_canFit 33 = .ok (.iconst 0, 1) := fp_dk fp_hdX4_isMember_11.2.2.2.2.1
theorem dX4_canFit_34 : decode cX4_canFit 34 = .ok (.ireturn, 1) := fp_dk fp_hdX4_isMember_11.2.2.2.2.2
theorem fp_hdX4_canFit_35 : (((((fp_dq cX4_canFit 35 (.iinc 3 1, 3) = true ∧ fp_dq cX4_canFit 38 (.goto (-36), 3) = true) ∧ (fp_dq cX4_canFit 41 (.iconst 1, 1) = true ∧ fp_dq cX4_canFit 42 (.ireturn, 1) = true)) ∧ ((fp_dq cX4_isLightestBehind 0 (.aload_n 0, 1) = true ∧ fp_dq cX4_isLightestBehind 1 (.aload_n 1, 1) = true) ∧ (fp_dq cX4_isLightestBehind 2 (.aload_n 2, 1) = true ∧ fp_dq cX4_isLightestBehind 3 (.getfield 48, 3) = true))) ∧ (((fp_dq cX4_isLightestBehind 6 (.iload_n 3, 1) = true ∧ fp_dq cX4_isLightestBehind 7 (.iaload, 1) = true) ∧ (fp_dq cX4_isLightestBehind 8 (.invokevirtual 59, 3) = true ∧ fp_dq cX4_isLightestBehind 11 (.istore 4, 2) = true)) ∧ ((fp_dq cX4_isLightestBehind 13 (.iconst 0, 1) = true ∧ fp_dq cX4_isLightestBehind 14 (.istore 5, 2) = true) ∧ (fp_dq cX4_isLightestBehind 16 (.iload 5, 2) = true ∧ fp_dq cX4_isLightestBehind 18 (.aload_n 0, 1) = true)))) ∧ ((((fp_dq cX4_isLightestBehind 19 (.getfield 31, 3) = true ∧ fp_dq cX4_isLightestBehind 22 (.if_icmp .ge 66, 3) = true) ∧ (fp_dq cX4_isLightestBehind 25 (.aload_n 2, 1) = true ∧ fp_dq cX4_isLightestBehind 26 (.aload_n 0, 1) = true)) ∧ ((fp_dq cX4_isLightestBehind 27 (.getfield 9, 3) = true ∧ fp_dq cX4_isLightestBehind 30 (.iload 5, 2) = true) ∧ (fp_dq cX4_isLightestBehind 32 (.iaload, 1) = true ∧ fp_dq cX4_isLightestBehind 33 (.invokevirtual 63, 3) = true))) ∧ (((fp_dq cX4_isLightestBehind 36 (.istore 6, 2) = true ∧ fp_dq cX4_isLightestBehind 38 (.iload 6, 2) = true) ∧ (fp_dq cX4_isLightestBehind 40 (.bipush (-4), 2) = true ∧ fp_dq cX4_isLightestBehind 42 (.if_icmp .eq 13, 3) = true)) ∧ ((fp_dq cX4_isLightestBehind 45 (.iload 6, 2) = true ∧ fp_dq cX4_isLightestBehind 47 (.iload_n 3, 1) = true) ∧ (fp_dq cX4_isLightestBehind 48 (.if_icmp .ge 7, 3) = true ∧ fp_dq cX4_isLightestBehind 51 (.iconst 1, 1) = true))))) := by decide +kernel
theorem dX4_canFit_35 : decode cX4_canFit 35 = .ok (.iinc 3 1, 3) := fp_dk fp_hdX4_canFit_35.1.1.1.1.1
theorem dX4_canFit_38 : decode cX4_canFit 38 = .ok (.goto (-36), 3) := fp_dk fp_hdX4_canFit_35.1.1.1.1.2
theorem dX4_canFit_41 : decode cX4_canFit 41 = .ok (.iconst 1, 1) := fp_dk fp_hdX4_canFit_35.1.1.1.2.1
theorem dX4_canFit_42 : decode cX4_canFit 42 = .ok (.ireturn, 1) := fp_dk fp_hdX4_canFit_35.1.1.1.2.2
theorem dX4_isLightestBehind_0 : decode cX4_isLightestBehind 0 = .ok (.aload_n 0, 1) := fp_dk fp_hdX4_canFit_35.1.1.2.1.1
theorem dX4_isLightestBehind_1 : decode cX4_isLightestBehind 1 = .ok (.aload_n 1, 1) := fp_dk fp_hdX4_canFit_35.1.1.2.1.2
theorem dX4_isLightestBehind_2 : decode cX4_isLightestBehind 2 = .ok (.aload_n 2, 1) := fp_dk fp_hdX4_canFit_35.1.1.2.2.1
theorem dX4_isLightestBehind_3 : decode cX4_isLightestBehind 3 = .ok (.getfield 48, 3) := fp_dk fp_hdX4_canFit_35.1.1.2.2.2
theorem dX4_isLightestBehind_6 : decode cX4_isLightestBehind 6 = .ok (.iload_n 3, 1) := fp_dk fp_hdX4_canFit_35.1.2.1.1.1
theorem dX4_isLightestBehind_7 : decode cX4_isLightestBehind 7 = .ok (.iaload, 1) := fp_dk fp_hdX4_canFit_35.1.2.1.1.2
theorem dX4_isLightestBehind_8 : decode cX4_isLightestBehind 8 = .ok (.invokevirtual 59, 3) := fp_dk fp_hdX4_canFit_35.1.2.1.2.1
theorem dX4_isLightestBehind_11 : decode cX4_isLightestBehind 11 = .ok (.istore 4, 2) := fp_dk fp_hdX4_canFit_35.1.2.1.2.2
theorem dX4_isLightestBehind_13 : decode cX4_isLightestBehind 13 = .ok (.iconst 0, 1) := fp_dk fp_hdX4_canFit_35.1.2.2.1.1
theorem dX4_isLightestBehind_14 : decode cX4_isLightestBehind 14 = .ok (.istore 5, 2) := fp_dk fp_hdX4_canFit_35.1.2.2.1.2
theorem dX4_isLightestBehind_16 : decode cX4_isLightestBehind 16 = .ok (.iload 5, 2) := fp_dk fp_hdX4_canFit_35.1.2.2.2.1
theorem dX4_isLightestBehind_18 : decode cX4_isLightestBehind 18 = .ok (.aload_n 0, 1) := fp_dk fp_hdX4_canFit_35.1.2.2.2.2
theorem dX4_isLightestBehind_19 : decode cX4_isLightestBehind 19 = .ok (.getfield 31, 3) := fp_dk fp_hdX4_canFit_35.2.1.1.1.1
theorem dX4_isLightestBehind_22 : decode cX4_isLightestBehind 22 = .ok (.if_icmp .ge 66, 3) := fp_dk fp_hdX4_canFit_35.2.1.1.1.2
theorem dX4_isLightestBehind_25 : decode cX4_isLightestBehind 25 = .ok (.aload_n 2, 1) := fp_dk fp_hdX4_canFit_35.2.1.1.2.1
theorem dX4_isLightestBehind_26 : decode cX4_isLightestBehind 26 = .ok (.aload_n 0, 1) := fp_dk fp_hdX4_canFit_35.2.1.1.2.2
theorem dX4_isLightestBehind_27 : decode cX4_isLightestBehind 27 = .ok (.getfield 9, 3) := fp_dk fp_hdX4_canFit_35.2.1.2.1.1
theorem dX4_isLightestBehind_30 : decode cX4_isLightestBehind 30 = .ok (.iload 5, 2) := fp_dk fp_hdX4_canFit_35.2.1.2.1.2
theorem dX4_isLightestBehind_32 : decode cX4_isLightestBehind 32 = .ok (.iaload, 1) := fp_dk fp_hdX4_canFit_35.2.1.2.2.1
theorem dX4_isLightestBehind_33 : decode cX4_isLightestBehind 33 = .ok (.invokevirtual 63, 3) := fp_dk fp_hdX4_canFit_35.2.1.2.2.2
theorem dX4_isLightestBehind_36 : decode cX4_isLightestBehind 36 = .ok (.istore 6, 2) := fp_dk fp_hdX4_canFit_35.2.2.1.1.1
theorem dX4_isLightestBehind_38 : decode cX4_isLightestBehind 38 = .ok (.iload 6, 2) := fp_dk fp_hdX4_canFit_35.2.2.1.1.2
theorem dX4_isLightestBehind_40 : decode cX4_isLightestBehind 40 = .ok (.bipush (-4), 2) := fp_dk fp_hdX4_canFit_35.2.2.1.2.1
theorem dX4_isLightestBehind_42 : decode cX4_isLightestBehind 42 = .ok (.if_icmp .eq 13, 3) := fp_dk fp_hdX4_canFit_35.2.2.1.2.2
theorem dX4_isLightestBehind_45 : decode cX4_isLightestBehind 45 = .ok (.iload 6, 2) := fp_dk fp_hdX4_canFit_35.2.2.2.1.1
theorem dX4_isLightestBehind_47 : decode cX4_isLightestBehind 47 = .ok (.iload_n 3, 1) := fp_dk fp_hdX4_canFit_35.2.2.2.1.2
theorem dX4_isLightestBehind_48 : decode cX4_isLightestBehind 48 = .ok (.if_icmp .ge 7, 3) := fp_dk fp_hdX4_canFit_35.2.2.2.2.1
theorem dX4_isLightestBehind_51 : decode cX4_isLightestBehind 51 = .ok (.iconst 1, 1) := fp_dk fp_hdX4_canFit_35.2.2.2.2.2
theorem fp_hdX4_isLightestBehind_52 : (((((fp_dq cX4_isLightestBehind 52 (.goto 4, 3) = true ∧ fp_dq cX4_isLightestBehind 55 (.iconst 0, 1) = true) ∧ (fp_dq cX4_isLightestBehind 56 (.istore 7, 2) = true ∧ fp_dq cX4_isLightestBehind 58 (.iload 7, 2) = true)) ∧ ((fp_dq cX4_isLightestBehind 60 (.ifCond .ne 22, 3) = true ∧ fp_dq cX4_isLightestBehind 63 (.aload_n 0, 1) = true) ∧ (fp_dq cX4_isLightestBehind 64 (.aload_n 1, 1) = true ∧ fp_dq cX4_isLightestBehind 65 (.aload_n 0, 1) = true))) ∧ (((fp_dq cX4_isLightestBehind 66 (.getfield 9, 3) = true ∧ fp_dq cX4_isLightestBehind 69 (.iload 5, 2) = true) ∧ (fp_dq cX4_isLightestBehind 71 (.iaload, 1) = true ∧ fp_dq cX4_isLightestBehind 72 (.invokevirtual 59, 3) = true)) ∧ ((fp_dq cX4_isLightestBehind 75 (.iload 4, 2) = true ∧ fp_dq cX4_isLightestBehind 77 (.if_icmp .ge 5, 3) = true) ∧ (fp_dq cX4_isLightestBehind 80 (.iconst 0, 1) = true ∧ fp_dq cX4_isLightestBehind 81 (.ireturn, 1) = true)))) ∧ ((((fp_dq cX4_isLightestBehind 82 (.iinc 5 1, 3) = true ∧ fp_dq cX4_isLightestBehind 85 (.goto (-69), 3) = true) ∧ (fp_dq cX4_isLightestBehind 88 (.iconst 1, 1) = true ∧ fp_dq cX4_isLightestBehind 89 (.ireturn, 1) = true)) ∧ ((fp_dq cX4_howMany 0 (.aload_n 0, 1) = true ∧ fp_dq cX4_howMany 1 (.aload_n 1, 1) = true) ∧ (fp_dq cX4_howMany 2 (.aload_n 2, 1) = true ∧ fp_dq cX4_howMany 3 (.invokevirtual 67, 3) = true))) ∧ (((fp_dq cX4_howMany 6 (.ifCond .ne 5, 3) = true ∧ fp_dq cX4_howMany 9 (.iconst 0, 1) = true) ∧ (fp_dq cX4_howMany 10 (.ireturn, 1) = true ∧ fp_dq cX4_howMany 11 (.iconst 1, 1) = true)) ∧ ((fp_dq cX4_howMany 12 (.istore_n 3, 1) = true ∧ fp_dq cX4_howMany 13 (.iconst 2, 1) = true) ∧ (fp_dq cX4_howMany 14 (.istore 4, 2) = true ∧ fp_dq cX4_howMany 16 (.iload 4, 2) = true))))) := by decide +kernel
theorem dX4_isLightestBehind_52 : decode cX4_isLightestBehind 52 = .ok (.goto 4, 3) := fp_dk fp_hdX4_isLightestBehind_52.1.1.1.1.1
theorem dX4_isLightestBehind_55 : decode cX4_isLightestBehind 55 = .ok (.iconst 0, 1) := fp_dk fp_hdX4_isLightestBehind_52.1.1.1.1.2
theorem dX4_isLightestBehind_56 : decode cX4_isLightestBehind 56 = .ok (.istore 7, 2) := fp_dk fp_hdX4_isLightestBehind_52.1.1.1.2.1
theorem dX4_isLightestBehind_58 : decode cX4_isLightestBehind 58 = .ok (.iload 7, 2) := fp_dk fp_hdX4_isLightestBehind_52.1.1.1.2.2
theorem dX4_isLightestBehind_60 : decode cX4_isLightestBehind 60 = .ok (.ifCond .ne 22, 3) := fp_dk fp_hdX4_isLightestBehind_52.1.1.2.1.1
theorem dX4_isLightestBehind_63 : decode cX4_isLightestBehind 63 = .ok (.aload_n 0, 1) := fp_dk fp_hdX4_isLightestBehind_52.1.1.2.1.2
theorem dX4_isLightestBehind_64 : decode cX4_isLightestBehind 64 = .ok (.aload_n 1, 1) := fp_dk fp_hdX4_isLightestBehind_52.1.1.2.2.1
theorem dX4_isLightestBehind_65 : decode cX4_isLightestBehind 65 = .ok (.aload_n 0, 1) := fp_dk fp_hdX4_isLightestBehind_52.1.1.2.2.2
theorem dX4_isLightestBehind_66 : decode cX4_isLightestBehind 66 = .ok (.getfield 9, 3) := fp_dk fp_hdX4_isLightestBehind_52.1.2.1.1.1
theorem dX4_isLightestBehind_69 : decode cX4_isLightestBehind 69 = .ok (.iload 5, 2) := fp_dk fp_hdX4_isLightestBehind_52.1.2.1.1.2
theorem dX4_isLightestBehind_71 : decode cX4_isLightestBehind 71 = .ok (.iaload, 1) := fp_dk fp_hdX4_isLightestBehind_52.1.2.1.2.1
theorem dX4_isLightestBehind_72 : decode cX4_isLightestBehind 72 = .ok (.invokevirtual 59, 3) := fp_dk fp_hdX4_isLightestBehind_52.1.2.1.2.2
theorem dX4_isLightestBehind_75 : decode cX4_isLightestBehind 75 = .ok (.iload 4, 2) := fp_dk fp_hdX4_isLightestBehind_52.1.2.2.1.1
theorem dX4_isLightestBehind_77 : decode cX4_isLightestBehind 77 = .ok (.if_icmp .ge 5, 3) := fp_dk fp_hdX4_isLightestBehind_52.1.2.2.1.2
theorem dX4_isLightestBehind_80 : decode cX4_isLightestBehind 80 = .ok (.iconst 0, 1) := fp_dk fp_hdX4_isLightestBehind_52.1.2.2.2.1
theorem dX4_isLightestBehind_81 : decode cX4_isLightestBehind 81 = .ok (.ireturn, 1) := fp_dk fp_hdX4_isLightestBehind_52.1.2.2.2.2
theorem dX4_isLightestBehind_82 : decode cX4_isLightestBehind 82 = .ok (.iinc 5 1, 3) := fp_dk fp_hdX4_isLightestBehind_52.2.1.1.1.1
theorem dX4_isLightestBehind_85 : decode cX4_isLightestBehind 85 = .ok (.goto (-69), 3) := fp_dk fp_hdX4_isLightestBehind_52.2.1.1.1.2
theorem dX4_isLightestBehind_88 : decode cX4_isLightestBehind 88 = .ok (.iconst 1, 1) := fp_dk fp_hdX4_isLightestBehind_52.2.1.1.2.1
theorem dX4_isLightestBehind_89 : decode cX4_isLightestBehind 89 = .ok (.ireturn, 1) := fp_dk fp_hdX4_isLightestBehind_52.2.1.1.2.2
theorem dX4_howMany_0 : decode cX4_howMany 0 = .ok (.aload_n 0, 1) := fp_dk fp_hdX4_isLightestBehind_52.2.1.2.1.1
theorem dX4_howMany_1 : decode cX4_howMany 1 = .ok (.aload_n 1, 1) := fp_dk fp_hdX4_isLightestBehind_52.2.1.2.1.2
theorem dX4_howMany_2 : decode cX4_howMany 2 = .ok (.aload_n 2, 1) := fp_dk fp_hdX4_isLightestBehind_52.2.1.2.2.1
theorem dX4_howMany_3 : decode cX4_howMany 3 = .ok (.invokevirtual 67, 3) := fp_dk fp_hdX4_isLightestBehind_52.2.1.2.2.2
theorem dX4_howMany_6 : decode cX4_howMany 6 = .ok (.ifCond .ne 5, 3) := fp_dk fp_hdX4_isLightestBehind_52.2.2.1.1.1
theorem dX4_howMany_9 : decode cX4_howMany 9 = .ok (.iconst 0, 1) := fp_dk fp_hdX4_isLightestBehind_52.2.2.1.1.2
theorem dX4_howMany_10 : decode cX4_howMany 10 = .ok (.ireturn, 1) := fp_dk fp_hdX4_isLightestBehind_52.2.2.1.2.1
theorem dX4_howMany_11 : decode cX4_howMany 11 = .ok (.iconst 1, 1) := fp_dk fp_hdX4_isLightestBehind_52.2.2.1.2.2
theorem dX4_howMany_12 : decode cX4_howMany 12 = .ok (.istore_n 3, 1) := fp_dk fp_hdX4_isLightestBehind_52.2.2.2.1.1
theorem dX4_howMany_13 : decode cX4_howMany 13 = .ok (.iconst 2, 1) := fp_dk fp_hdX4_isLightestBehind_52.2.2.2.1.2
theorem dX4_howMany_14 : decode cX4_howMany 14 = .ok (.istore 4, 2) := fp_dk fp_hdX4_isLightestBehind_52.2.2.2.2.1
theorem dX4_howMany_16 : decode cX4_howMany 16 = .ok (.iload 4, 2) := fp_dk fp_hdX4_isLightestBehind_52.2.2.2.2.2
theorem fp_hdX4_howMany_18 : (((((fp_dq cX4_howMany 18 (.aload_n 0, 1) = true ∧ fp_dq cX4_howMany 19 (.getfield 31, 3) = true) ∧ (fp_dq cX4_howMany 22 (.if_icmp .gt 14, 3) = true ∧ fp_dq cX4_howMany 25 (.iload_n 3, 1) = true)) ∧ ((fp_dq cX4_howMany 26 (.iload 4, 2) = true ∧ fp_dq cX4_howMany 28 (.imul, 1) = true) ∧ (fp_dq cX4_howMany 29 (.istore_n 3, 1) = true ∧ fp_dq cX4_howMany 30 (.iinc 4 1, 3) = true))) ∧ (((fp_dq cX4_howMany 33 (.goto (-17), 3) = true ∧ fp_dq cX4_howMany 36 (.iconst 0, 1) = true) ∧ (fp_dq cX4_howMany 37 (.istore 4, 2) = true ∧ fp_dq cX4_howMany 39 (.iload 4, 2) = true)) ∧ ((fp_dq cX4_howMany 41 (.aload_n 2, 1) = true ∧ fp_dq cX4_howMany 42 (.getfield 45, 3) = true) ∧ (fp_dq cX4_howMany 45 (.if_icmp .ge 29, 3) = true ∧ fp_dq cX4_howMany 48 (.aload_n 0, 1) = true)))) ∧ ((((fp_dq cX4_howMany 49 (.aload_n 1, 1) = true ∧ fp_dq cX4_howMany 50 (.aload_n 2, 1) = true) ∧ (fp_dq cX4_howMany 51 (.iload 4, 2) = true ∧ fp_dq cX4_howMany 53 (.invokevirtual 71, 3) = true)) ∧ ((fp_dq cX4_howMany 56 (.istore 5, 2) = true ∧ fp_dq cX4_howMany 58 (.iload 5, 2) = true) ∧ (fp_dq cX4_howMany 60 (.ifCond .le 8, 3) = true ∧ fp_dq cX4_howMany 63 (.iload_n 3, 1) = true))) ∧ (((fp_dq cX4_howMany 64 (.iload 5, 2) = true ∧ fp_dq cX4_howMany 66 (.idiv, 1) = true) ∧ (fp_dq cX4_howMany 67 (.istore_n 3, 1) = true ∧ fp_dq cX4_howMany 68 (.iinc 4 1, 3) = true)) ∧ ((fp_dq cX4_howMany 71 (.goto (-32), 3) = true ∧ fp_dq cX4_howMany 74 (.iload_n 3, 1) = true) ∧ (fp_dq cX4_howMany 75 (.ireturn, 1) = true ∧ fp_dq cX4_choicesAt 0 (.aload_n 0, 1) = true))))) := by decide +kernel
theorem dX4_howMany_18 : decode cX4_howMany 18 = .ok (.aload_n 0, 1) := fp_dk fp_hdX4_howMany_18.1.1.1.1.1
theorem dX4_howMany_19 : decode cX4_howMany 19 = .ok (.getfield 31, 3) := fp_dk fp_hdX4_howMany_18.1.1.1.1.2
theorem dX4_howMany_22 : decode cX4_howMany 22 = .ok (.if_icmp .gt 14, 3) := fp_dk fp_hdX4_howMany_18.1.1.1.2.1
theorem dX4_howMany_25 : decode cX4_howMany 25 = .ok (.iload_n 3, 1) := fp_dk fp_hdX4_howMany_18.1.1.1.2.2
theorem dX4_howMany_26 : decode cX4_howMany 26 = .ok (.iload 4, 2) := fp_dk fp_hdX4_howMany_18.1.1.2.1.1
theorem dX4_howMany_28 : decode cX4_howMany 28 = .ok (.imul, 1) := fp_dk fp_hdX4_howMany_18.1.1.2.1.2
theorem dX4_howMany_29 : decode cX4_howMany 29 = .ok (.istore_n 3, 1) := fp_dk fp_hdX4_howMany_18.1.1.2.2.1
theorem dX4_howMany_30 : decode cX4_howMany 30 = .ok (.iinc 4 1, 3) := fp_dk fp_hdX4_howMany_18.1.1.2.2.2
theorem dX4_howMany_33 : decode cX4_howMany 33 = .ok (.goto (-17), 3) := fp_dk fp_hdX4_howMany_18.1.2.1.1.1
theorem dX4_howMany_36 : decode cX4_howMany 36 = .ok (.iconst 0, 1) := fp_dk fp_hdX4_howMany_18.1.2.1.1.2
theorem dX4_howMany_37 : decode cX4_howMany 37 = .ok (.istore 4, 2) := fp_dk fp_hdX4_howMany_18.1.2.1.2.1
theorem dX4_howMany_39 : decode cX4_howMany 39 = .ok (.iload 4, 2) := fp_dk fp_hdX4_howMany_18.1.2.1.2.2
theorem dX4_howMany_41 : decode cX4_howMany 41 = .ok (.aload_n 2, 1) := fp_dk fp_hdX4_howMany_18.1.2.2.1.1
theorem dX4_howMany_42 : decode cX4_howMany 42 = .ok (.getfield 45, 3) := fp_dk fp_hdX4_howMany_18.1.2.2.1.2
theorem dX4_howMany_45 : decode cX4_howMany 45 = .ok (.if_icmp .ge 29, 3) := fp_dk fp_hdX4_howMany_18.1.2.2.2.1
theorem dX4_howMany_48 : decode cX4_howMany 48 = .ok (.aload_n 0, 1) := fp_dk fp_hdX4_howMany_18.1.2.2.2.2
theorem dX4_howMany_49 : decode cX4_howMany 49 = .ok (.aload_n 1, 1) := fp_dk fp_hdX4_howMany_18.2.1.1.1.1
theorem dX4_howMany_50 : decode cX4_howMany 50 = .ok (.aload_n 2, 1) := fp_dk fp_hdX4_howMany_18.2.1.1.1.2
theorem dX4_howMany_51 : decode cX4_howMany 51 = .ok (.iload 4, 2) := fp_dk fp_hdX4_howMany_18.2.1.1.2.1
theorem dX4_howMany_53 : decode cX4_howMany 53 = .ok (.invokevirtual 71, 3) := fp_dk fp_hdX4_howMany_18.2.1.1.2.2
theorem dX4_howMany_56 : decode cX4_howMany 56 = .ok (.istore 5, 2) := fp_dk fp_hdX4_howMany_18.2.1.2.1.1
theorem dX4_howMany_58 : decode cX4_howMany 58 = .ok (.iload 5, 2) := fp_dk fp_hdX4_howMany_18.2.1.2.1.2
theorem dX4_howMany_60 : decode cX4_howMany 60 = .ok (.ifCond .le 8, 3) := fp_dk fp_hdX4_howMany_18.2.1.2.2.1
theorem dX4_howMany_63 : decode cX4_howMany 63 = .ok (.iload_n 3, 1) := fp_dk fp_hdX4_howMany_18.2.1.2.2.2
theorem dX4_howMany_64 : decode cX4_howMany 64 = .ok (.iload 5, 2) := fp_dk fp_hdX4_howMany_18.2.2.1.1.1
theorem dX4_howMany_66 : decode cX4_howMany 66 = .ok (.idiv, 1) := fp_dk fp_hdX4_howMany_18.2.2.1.1.2
theorem dX4_howMany_67 : decode cX4_howMany 67 = .ok (.istore_n 3, 1) := fp_dk fp_hdX4_howMany_18.2.2.1.2.1
theorem dX4_howMany_68 : decode cX4_howMany 68 = .ok (.iinc 4 1, 3) := fp_dk fp_hdX4_howMany_18.2.2.1.2.2
theorem dX4_howMany_71 : decode cX4_howMany 71 = .ok (.goto (-32), 3) := fp_dk fp_hdX4_howMany_18.2.2.2.1.1
theorem dX4_howMany_74 : decode cX4_howMany 74 = .ok (.iload_n 3, 1) := fp_dk fp_hdX4_howMany_18.2.2.2.1.2
theorem dX4_howMany_75 : decode cX4_howMany 75 = .ok (.ireturn, 1) := fp_dk fp_hdX4_howMany_18.2.2.2.2.1
theorem dX4_choicesAt_0 : decode cX4_choicesAt 0 = .ok (.aload_n 0, 1) := fp_dk fp_hdX4_howMany_18.2.2.2.2.2
theorem fp_hdX4_choicesAt_1 : (((((fp_dq cX4_choicesAt 1 (.aload_n 1, 1) = true ∧ fp_dq cX4_choicesAt 2 (.aload_n 2, 1) = true) ∧ (fp_dq cX4_choicesAt 3 (.getfield 48, 3) = true ∧ fp_dq cX4_choicesAt 6 (.iload_n 3, 1) = true)) ∧ ((fp_dq cX4_choicesAt 7 (.iaload, 1) = true ∧ fp_dq cX4_choicesAt 8 (.invokevirtual 59, 3) = true) ∧ (fp_dq cX4_choicesAt 11 (.istore 4, 2) = true ∧ fp_dq cX4_choicesAt 13 (.iconst 0, 1) = true))) ∧ (((fp_dq cX4_choicesAt 14 (.istore 5, 2) = true ∧ fp_dq cX4_choicesAt 16 (.iconst 0, 1) = true) ∧ (fp_dq cX4_choicesAt 17 (.istore 6, 2) = true ∧ fp_dq cX4_choicesAt 19 (.iload 6, 2) = true)) ∧ ((fp_dq cX4_choicesAt 21 (.aload_n 0, 1) = true ∧ fp_dq cX4_choicesAt 22 (.getfield 31, 3) = true) ∧ (fp_dq cX4_choicesAt 25 (.if_icmp .ge 67, 3) = true ∧ fp_dq cX4_choicesAt 28 (.aload_n 2, 1) = true)))) ∧ ((((fp_dq cX4_choicesAt 29 (.aload_n 0, 1) = true ∧ fp_dq cX4_choicesAt 30 (.getfield 9, 3) = true) ∧ (fp_dq cX4_choicesAt 33 (.iload 6, 2) = true ∧ fp_dq cX4_choicesAt 35 (.iaload, 1) = true)) ∧ ((fp_dq cX4_choicesAt 36 (.invokevirtual 63, 3) = true ∧ fp_dq cX4_choicesAt 39 (.istore 7, 2) = true) ∧ (fp_dq cX4_choicesAt 41 (.iload 7, 2) = true ∧ fp_dq cX4_choicesAt 43 (.bipush (-4), 2) = true))) ∧ (((fp_dq cX4_choicesAt 45 (.if_icmp .eq 13, 3) = true ∧ fp_dq cX4_choicesAt 48 (.iload 7, 2) = true) ∧ (fp_dq cX4_choicesAt 50 (.iload_n 3, 1) = true ∧ fp_dq cX4_choicesAt 51 (.if_icmp .ge 7, 3) = true)) ∧ ((fp_dq cX4_choicesAt 54 (.iconst 1, 1) = true ∧ fp_dq cX4_choicesAt 55 (.goto 4, 3) = true) ∧ (fp_dq cX4_choicesAt 58 (.iconst 0, 1) = true ∧ fp_dq cX4_choicesAt 59 (.istore 8, 2) = true))))) := by decide +kernel
theorem dX4_choicesAt_1 : decode cX4_choicesAt 1 = .ok (.aload_n 1, 1) := fp_dk fp_hdX4_choicesAt_1.1.1.1.1.1
theorem dX4_choicesAt_2 : decode cX4_choicesAt 2 = .ok (.aload_n 2, 1) := fp_dk fp_hdX4_choicesAt_1.1.1.1.1.2
theorem dX4_choicesAt_3 : decode cX4_choicesAt 3 = .ok (.getfield 48, 3) := fp_dk fp_hdX4_choicesAt_1.1.1.1.2.1
theorem dX4_choicesAt_6 : decode cX4_choicesAt 6 = .ok (.iload_n 3, 1) := fp_dk fp_hdX4_choicesAt_1.1.1.1.2.2
theorem dX4_choicesAt_7 : decode cX4_choicesAt 7 = .ok (.iaload, 1) := fp_dk fp_hdX4_choicesAt_1.1.1.2.1.1
theorem dX4_choicesAt_8 : decode cX4_choicesAt 8 = .ok (.invokevirtual 59, 3) := fp_dk fp_hdX4_choicesAt_1.1.1.2.1.2
theorem dX4_choicesAt_11 : decode cX4_choicesAt 11 = .ok (.istore 4, 2) := fp_dk fp_hdX4_choicesAt_1.1.1.2.2.1
theorem dX4_choicesAt_13 : decode cX4_choicesAt 13 = .ok (.iconst 0, 1) := fp_dk fp_hdX4_choicesAt_1.1.1.2.2.2
theorem dX4_choicesAt_14 : decode cX4_choicesAt 14 = .ok (.istore 5, 2) := fp_dk fp_hdX4_choicesAt_1.1.2.1.1.1
theorem dX4_choicesAt_16 : decode cX4_choicesAt 16 = .ok (.iconst 0, 1) := fp_dk fp_hdX4_choicesAt_1.1.2.1.1.2
theorem dX4_choicesAt_17 : decode cX4_choicesAt 17 = .ok (.istore 6, 2) := fp_dk fp_hdX4_choicesAt_1.1.2.1.2.1
theorem dX4_choicesAt_19 : decode cX4_choicesAt 19 = .ok (.iload 6, 2) := fp_dk fp_hdX4_choicesAt_1.1.2.1.2.2
theorem dX4_choicesAt_21 : decode cX4_choicesAt 21 = .ok (.aload_n 0, 1) := fp_dk fp_hdX4_choicesAt_1.1.2.2.1.1
theorem dX4_choicesAt_22 : decode cX4_choicesAt 22 = .ok (.getfield 31, 3) := fp_dk fp_hdX4_choicesAt_1.1.2.2.1.2
theorem dX4_choicesAt_25 : decode cX4_choicesAt 25 = .ok (.if_icmp .ge 67, 3) := fp_dk fp_hdX4_choicesAt_1.1.2.2.2.1
theorem dX4_choicesAt_28 : decode cX4_choicesAt 28 = .ok (.aload_n 2, 1) := fp_dk fp_hdX4_choicesAt_1.1.2.2.2.2
theorem dX4_choicesAt_29 : decode cX4_choicesAt 29 = .ok (.aload_n 0, 1) := fp_dk fp_hdX4_choicesAt_1.2.1.1.1.1
theorem dX4_choicesAt_30 : decode cX4_choicesAt 30 = .ok (.getfield 9, 3) := fp_dk fp_hdX4_choicesAt_1.2.1.1.1.2
theorem dX4_choicesAt_33 : decode cX4_choicesAt 33 = .ok (.iload 6, 2) := fp_dk fp_hdX4_choicesAt_1.2.1.1.2.1
theorem dX4_choicesAt_35 : decode cX4_choicesAt 35 = .ok (.iaload, 1) := fp_dk fp_hdX4_choicesAt_1.2.1.1.2.2
theorem dX4_choicesAt_36 : decode cX4_choicesAt 36 = .ok (.invokevirtual 63, 3) := fp_dk fp_hdX4_choicesAt_1.2.1.2.1.1
theorem dX4_choicesAt_39 : decode cX4_choicesAt 39 = .ok (.istore 7, 2) := fp_dk fp_hdX4_choicesAt_1.2.1.2.1.2
theorem dX4_choicesAt_41 : decode cX4_choicesAt 41 = .ok (.iload 7, 2) := fp_dk fp_hdX4_choicesAt_1.2.1.2.2.1
theorem dX4_choicesAt_43 : decode cX4_choicesAt 43 = .ok (.bipush (-4), 2) := fp_dk fp_hdX4_choicesAt_1.2.1.2.2.2
theorem dX4_choicesAt_45 : decode cX4_choicesAt 45 = .ok (.if_icmp .eq 13, 3) := fp_dk fp_hdX4_choicesAt_1.2.2.1.1.1
theorem dX4_choicesAt_48 : decode cX4_choicesAt 48 = .ok (.iload 7, 2) := fp_dk fp_hdX4_choicesAt_1.2.2.1.1.2
theorem dX4_choicesAt_50 : decode cX4_choicesAt 50 = .ok (.iload_n 3, 1) := fp_dk fp_hdX4_choicesAt_1.2.2.1.2.1
theorem dX4_choicesAt_51 : decode cX4_choicesAt 51 = .ok (.if_icmp .ge 7, 3) := fp_dk fp_hdX4_choicesAt_1.2.2.1.2.2
theorem dX4_choicesAt_54 : decode cX4_choicesAt 54 = .ok (.iconst 1, 1) := fp_dk fp_hdX4_choicesAt_1.2.2.2.1.1
theorem dX4_choicesAt_55 : decode cX4_choicesAt 55 = .ok (.goto 4, 3) := fp_dk fp_hdX4_choicesAt_1.2.2.2.1.2
theorem dX4_choicesAt_58 : decode cX4_choicesAt 58 = .ok (.iconst 0, 1) := fp_dk fp_hdX4_choicesAt_1.2.2.2.2.1
theorem dX4_choicesAt_59 : decode cX4_choicesAt 59 = .ok (.istore 8, 2) := fp_dk fp_hdX4_choicesAt_1.2.2.2.2.2
theorem fp_hdX4_choicesAt_61 : (((((fp_dq cX4_choicesAt 61 (.iload 8, 2) = true ∧ fp_dq cX4_choicesAt 63 (.ifCond .ne 23, 3) = true) ∧ (fp_dq cX4_choicesAt 66 (.aload_n 0, 1) = true ∧ fp_dq cX4_choicesAt 67 (.aload_n 1, 1) = true)) ∧ ((fp_dq cX4_choicesAt 68 (.aload_n 0, 1) = true ∧ fp_dq cX4_choicesAt 69 (.getfield 9, 3) = true) ∧ (fp_dq cX4_choicesAt 72 (.iload 6, 2) = true ∧ fp_dq cX4_choicesAt 74 (.iaload, 1) = true))) ∧ (((fp_dq cX4_choicesAt 75 (.invokevirtual 59, 3) = true ∧ fp_dq cX4_choicesAt 78 (.iload 4, 2) = true) ∧ (fp_dq cX4_choicesAt 80 (.if_icmp .ne 6, 3) = true ∧ fp_dq cX4_choicesAt 83 (.iinc 5 1, 3) = true)) ∧ ((fp_dq cX4_choicesAt 86 (.iinc 6 1, 3) = true ∧ fp_dq cX4_choicesAt 89 (.goto (-70), 3) = true) ∧ (fp_dq cX4_choicesAt 92 (.iload 5, 2) = true ∧ fp_dq cX4_choicesAt 94 (.ireturn, 1) = true)))) ∧ ((((fp_dq cX4_findFirst 0 (.aload_n 0, 1) = true ∧ fp_dq cX4_findFirst 1 (.iconst 0, 1) = true) ∧ (fp_dq cX4_findFirst 2 (.putfield 75, 3) = true ∧ fp_dq cX4_findFirst 5 (.iconst 0, 1) = true)) ∧ ((fp_dq cX4_findFirst 6 (.istore_n 3, 1) = true ∧ fp_dq cX4_findFirst 7 (.iload_n 3, 1) = true) ∧ (fp_dq cX4_findFirst 8 (.aload_n 0, 1) = true ∧ fp_dq cX4_findFirst 9 (.getfield 31, 3) = true))) ∧ (((fp_dq cX4_findFirst 12 (.if_icmp .ge 119, 3) = true ∧ fp_dq cX4_findFirst 15 (.bipush (-4), 2) = true) ∧ (fp_dq cX4_findFirst 17 (.istore 4, 2) = true ∧ fp_dq cX4_findFirst 19 (.iconst 0, 1) = true)) ∧ ((fp_dq cX4_findFirst 20 (.istore 5, 2) = true ∧ fp_dq cX4_findFirst 22 (.iload 5, 2) = true) ∧ (fp_dq cX4_findFirst 24 (.aload_n 0, 1) = true ∧ fp_dq cX4_findFirst 25 (.getfield 31, 3) = true))))) := by decide +kernel
theorem dX4_choicesAt_61 : decode cX4_choicesAt 61 = .ok (.iload 8, 2) := fp_dk fp_hdX4_choicesAt_61.1.1.1.1.1
theorem dX4_choicesAt_63 : decode cX4_choicesAt 63 = .ok (.ifCond .ne 23, 3) := fp_dk fp_hdX4_choicesAt_61.1.1.1.1.2
theorem dX4_choicesAt_66 : decode cX4_choicesAt 66 = .ok (.aload_n 0, 1) := fp_dk fp_hdX4_choicesAt_61.1.1.1.2.1
theorem dX4_choicesAt_67 : decode cX4_choicesAt 67 = .ok (.aload_n 1, 1) := fp_dk fp_hdX4_choicesAt_61.1.1.1.2.2
theorem dX4_choicesAt_68 : decode cX4_choicesAt 68 = .ok (.aload_n 0, 1) := fp_dk fp_hdX4_choicesAt_61.1.1.2.1.1
theorem dX4_choicesAt_69 : decode cX4_choicesAt 69 = .ok (.getfield 9, 3) := fp_dk fp_hdX4_choicesAt_61.1.1.2.1.2
theorem dX4_choicesAt_72 : decode cX4_choicesAt 72 = .ok (.iload 6, 2) := fp_dk fp_hdX4_choicesAt_61.1.1.2.2.1
theorem dX4_choicesAt_74 : decode cX4_choicesAt 74 = .ok (.iaload, 1) := fp_dk fp_hdX4_choicesAt_61.1.1.2.2.2
theorem dX4_choicesAt_75 : decode cX4_choicesAt 75 = .ok (.invokevirtual 59, 3) := fp_dk fp_hdX4_choicesAt_61.1.2.1.1.1
theorem dX4_choicesAt_78 : decode cX4_choicesAt 78 = .ok (.iload 4, 2) := fp_dk fp_hdX4_choicesAt_61.1.2.1.1.2
theorem dX4_choicesAt_80 : decode cX4_choicesAt 80 = .ok (.if_icmp .ne 6, 3) := fp_dk fp_hdX4_choicesAt_61.1.2.1.2.1
theorem dX4_choicesAt_83 : decode cX4_choicesAt 83 = .ok (.iinc 5 1, 3) := fp_dk fp_hdX4_choicesAt_61.1.2.1.2.2
theorem dX4_choicesAt_86 : decode cX4_choicesAt 86 = .ok (.iinc 6 1, 3) := fp_dk fp_hdX4_choicesAt_61.1.2.2.1.1
theorem dX4_choicesAt_89 : decode cX4_choicesAt 89 = .ok (.goto (-70), 3) := fp_dk fp_hdX4_choicesAt_61.1.2.2.1.2
theorem dX4_choicesAt_92 : decode cX4_choicesAt 92 = .ok (.iload 5, 2) := fp_dk fp_hdX4_choicesAt_61.1.2.2.2.1
theorem dX4_choicesAt_94 : decode cX4_choicesAt 94 = .ok (.ireturn, 1) := fp_dk fp_hdX4_choicesAt_61.1.2.2.2.2
theorem dX4_findFirst_0 : decode cX4_findFirst 0 = .ok (.aload_n 0, 1) := fp_dk fp_hdX4_choicesAt_61.2.1.1.1.1
theorem dX4_findFirst_1 : decode cX4_findFirst 1 = .ok (.iconst 0, 1) := fp_dk fp_hdX4_choicesAt_61.2.1.1.1.2
theorem dX4_findFirst_2 : decode cX4_findFirst 2 = .ok (.putfield 75, 3) := fp_dk fp_hdX4_choicesAt_61.2.1.1.2.1
theorem dX4_findFirst_5 : decode cX4_findFirst 5 = .ok (.iconst 0, 1) := fp_dk fp_hdX4_choicesAt_61.2.1.1.2.2
theorem dX4_findFirst_6 : decode cX4_findFirst 6 = .ok (.istore_n 3, 1) := fp_dk fp_hdX4_choicesAt_61.2.1.2.1.1
theorem dX4_findFirst_7 : decode cX4_findFirst 7 = .ok (.iload_n 3, 1) := fp_dk fp_hdX4_choicesAt_61.2.1.2.1.2
theorem dX4_findFirst_8 : decode cX4_findFirst 8 = .ok (.aload_n 0, 1) := fp_dk fp_hdX4_choicesAt_61.2.1.2.2.1
theorem dX4_findFirst_9 : decode cX4_findFirst 9 = .ok (.getfield 31, 3) := fp_dk fp_hdX4_choicesAt_61.2.1.2.2.2
theorem dX4_findFirst_12 : decode cX4_findFirst 12 = .ok (.if_icmp .ge 119, 3) := fp_dk fp_hdX4_choicesAt_61.2.2.1.1.1
theorem dX4_findFirst_15 : decode cX4_findFirst 15 = .ok (.bipush (-4), 2) := fp_dk fp_hdX4_choicesAt_61.2.2.1.1.2
theorem dX4_findFirst_17 : decode cX4_findFirst 17 = .ok (.istore 4, 2) := fp_dk fp_hdX4_choicesAt_61.2.2.1.2.1
theorem dX4_findFirst_19 : decode cX4_findFirst 19 = .ok (.iconst 0, 1) := fp_dk fp_hdX4_choicesAt_61.2.2.1.2.2
theorem dX4_findFirst_20 : decode cX4_findFirst 20 = .ok (.istore 5, 2) := fp_dk fp_hdX4_choicesAt_61.2.2.2.1.1
theorem dX4_findFirst_22 : decode cX4_findFirst 22 = .ok (.iload 5, 2) := fp_dk fp_hdX4_choicesAt_61.2.2.2.1.2
theorem dX4_findFirst_24 : decode cX4_findFirst 24 = .ok (.aload_n 0, 1) := fp_dk fp_hdX4_choicesAt_61.2.2.2.2.1
theorem dX4_findFirst_25 : decode cX4_findFirst 25 = .ok (.getfield 31, 3) := fp_dk fp_hdX4_choicesAt_61.2.2.2.2.2
theorem fp_hdX4_findFirst_28 : (((((fp_dq cX4_findFirst 28 (.if_icmp .ge 69, 3) = true ∧ fp_dq cX4_findFirst 31 (.aload_n 0, 1) = true) ∧ (fp_dq cX4_findFirst 32 (.getfield 9, 3) = true ∧ fp_dq cX4_findFirst 35 (.iload 5, 2) = true)) ∧ ((fp_dq cX4_findFirst 37 (.iaload, 1) = true ∧ fp_dq cX4_findFirst 38 (.istore 6, 2) = true) ∧ (fp_dq cX4_findFirst 40 (.iload 4, 2) = true ∧ fp_dq cX4_findFirst 42 (.bipush (-4), 2) = true))) ∧ (((fp_dq cX4_findFirst 44 (.if_icmp .eq 10, 3) = true ∧ fp_dq cX4_findFirst 47 (.iload 6, 2) = true) ∧ (fp_dq cX4_findFirst 49 (.iload 4, 2) = true ∧ fp_dq cX4_findFirst 51 (.if_icmp .ge 7, 3) = true)) ∧ ((fp_dq cX4_findFirst 54 (.iconst 1, 1) = true ∧ fp_dq cX4_findFirst 55 (.goto 4, 3) = true) ∧ (fp_dq cX4_findFirst 58 (.iconst 0, 1) = true ∧ fp_dq cX4_findFirst 59 (.istore 7, 2) = true)))) ∧ ((((fp_dq cX4_findFirst 61 (.iload 7, 2) = true ∧ fp_dq cX4_findFirst 63 (.ifCond .eq 28, 3) = true) ∧ (fp_dq cX4_findFirst 66 (.aload_n 0, 1) = true ∧ fp_dq cX4_findFirst 67 (.iload 6, 2) = true)) ∧ ((fp_dq cX4_findFirst 69 (.invokevirtual 78, 3) = true ∧ fp_dq cX4_findFirst 72 (.ifCond .ne 19, 3) = true) ∧ (fp_dq cX4_findFirst 75 (.aload_n 0, 1) = true ∧ fp_dq cX4_findFirst 76 (.aload_n 1, 1) = true))) ∧ (((fp_dq cX4_findFirst 77 (.aload_n 2, 1) = true ∧ fp_dq cX4_findFirst 78 (.iload 6, 2) = true) ∧ (fp_dq cX4_findFirst 80 (.iload_n 3, 1) = true ∧ fp_dq cX4_findFirst 81 (.invokevirtual 81, 3) = true)) ∧ ((fp_dq cX4_findFirst 84 (.ifCond .eq 7, 3) = true ∧ fp_dq cX4_findFirst 87 (.iload 6, 2) = true) ∧ (fp_dq cX4_findFirst 89 (.istore 4, 2) = true ∧ fp_dq cX4_findFirst 91 (.iinc 5 1, 3) = true))))) := by decide +kernel
theorem dX4_findFirst_28 : decode cX4_findFirst 28 = .ok (.if_icmp .ge 69, 3) := fp_dk fp_hdX4_findFirst_28.1.1.1.1.1
theorem dX4_findFirst_31 : decode cX4_findFirst 31 = .ok (.aload_n 0, 1) := fp_dk fp_hdX4_findFirst_28.1.1.1.1.2
theorem dX4_findFirst_32 : decode cX4_findFirst 32 = .ok (.getfield 9, 3) := fp_dk fp_hdX4_findFirst_28.1.1.1.2.1
theorem dX4_findFirst_35 : decode cX4_findFirst 35 = .ok (.iload 5, 2) := fp_dk fp_hdX4_findFirst_28.1.1.1.2.2
theorem dX4_findFirst_37 : decode cX4_findFirst 37 = .ok (.iaload, 1) := fp_dk fp_hdX4_findFirst_28.1.1.2.1.1
theorem dX4_findFirst_38 : decode cX4_findFirst 38 = .ok (.istore 6, 2) := fp_dk fp_hdX4_findFirst_28.1.1.2.1.2
theorem dX4_findFirst_40 : decode cX4_findFirst 40 = .ok (.iload 4, 2) := fp_dk fp_hdX4_findFirst_28.1.1.2.2.1
theorem dX4_findFirst_42 : decode cX4_findFirst 42 = .ok (.bipush (-4), 2) := fp_dk fp_hdX4_findFirst_28.1.1.2.2.2
theorem dX4_findFirst_44 : decode cX4_findFirst 44 = .ok (.if_icmp .eq 10, 3) := fp_dk fp_hdX4_findFirst_28.1.2.1.1.1
theorem dX4_findFirst_47 : decode cX4_findFirst 47 = .ok (.iload 6, 2) := fp_dk fp_hdX4_findFirst_28.1.2.1.1.2
theorem dX4_findFirst_49 : decode cX4_findFirst 49 = .ok (.iload 4, 2) := fp_dk fp_hdX4_findFirst_28.1.2.1.2.1
theorem dX4_findFirst_51 : decode cX4_findFirst 51 = .ok (.if_icmp .ge 7, 3) := fp_dk fp_hdX4_findFirst_28.1.2.1.2.2
theorem dX4_findFirst_54 : decode cX4_findFirst 54 = .ok (.iconst 1, 1) := fp_dk fp_hdX4_findFirst_28.1.2.2.1.1
theorem dX4_findFirst_55 : decode cX4_findFirst 55 = .ok (.goto 4, 3) := fp_dk fp_hdX4_findFirst_28.1.2.2.1.2
theorem dX4_findFirst_58 : decode cX4_findFirst 58 = .ok (.iconst 0, 1) := fp_dk fp_hdX4_findFirst_28.1.2.2.2.1
theorem dX4_findFirst_59 : decode cX4_findFirst 59 = .ok (.istore 7, 2) := fp_dk fp_hdX4_findFirst_28.1.2.2.2.2
theorem dX4_findFirst_61 : decode cX4_findFirst 61 = .ok (.iload 7, 2) := fp_dk fp_hdX4_findFirst_28.2.1.1.1.1
theorem dX4_findFirst_63 : decode cX4_findFirst 63 = .ok (.ifCond .eq 28, 3) := fp_dk fp_hdX4_findFirst_28.2.1.1.1.2
theorem dX4_findFirst_66 : decode cX4_findFirst 66 = .ok (.aload_n 0, 1) := fp_dk fp_hdX4_findFirst_28.2.1.1.2.1
theorem dX4_findFirst_67 : decode cX4_findFirst 67 = .ok (.iload 6, 2) := fp_dk fp_hdX4_findFirst_28.2.1.1.2.2
theorem dX4_findFirst_69 : decode cX4_findFirst 69 = .ok (.invokevirtual 78, 3) := fp_dk fp_hdX4_findFirst_28.2.1.2.1.1
theorem dX4_findFirst_72 : decode cX4_findFirst 72 = .ok (.ifCond .ne 19, 3) := fp_dk fp_hdX4_findFirst_28.2.1.2.1.2
theorem dX4_findFirst_75 : decode cX4_findFirst 75 = .ok (.aload_n 0, 1) := fp_dk fp_hdX4_findFirst_28.2.1.2.2.1
theorem dX4_findFirst_76 : decode cX4_findFirst 76 = .ok (.aload_n 1, 1) := fp_dk fp_hdX4_findFirst_28.2.1.2.2.2
theorem dX4_findFirst_77 : decode cX4_findFirst 77 = .ok (.aload_n 2, 1) := fp_dk fp_hdX4_findFirst_28.2.2.1.1.1
theorem dX4_findFirst_78 : decode cX4_findFirst 78 = .ok (.iload 6, 2) := fp_dk fp_hdX4_findFirst_28.2.2.1.1.2
theorem dX4_findFirst_80 : decode cX4_findFirst 80 = .ok (.iload_n 3, 1) := fp_dk fp_hdX4_findFirst_28.2.2.1.2.1
theorem dX4_findFirst_81 : decode cX4_findFirst 81 = .ok (.invokevirtual 81, 3) := fp_dk fp_hdX4_findFirst_28.2.2.1.2.2
theorem dX4_findFirst_84 : decode cX4_findFirst 84 = .ok (.ifCond .eq 7, 3) := fp_dk fp_hdX4_findFirst_28.2.2.2.1.1
theorem dX4_findFirst_87 : decode cX4_findFirst 87 = .ok (.iload 6, 2) := fp_dk fp_hdX4_findFirst_28.2.2.2.1.2
theorem dX4_findFirst_89 : decode cX4_findFirst 89 = .ok (.istore 4, 2) := fp_dk fp_hdX4_findFirst_28.2.2.2.2.1
theorem dX4_findFirst_91 : decode cX4_findFirst 91 = .ok (.iinc 5 1, 3) := fp_dk fp_hdX4_findFirst_28.2.2.2.2.2
theorem fp_hdX4_findFirst_94 : (((((fp_dq cX4_findFirst 94 (.goto (-72), 3) = true ∧ fp_dq cX4_findFirst 97 (.aload_n 0, 1) = true) ∧ (fp_dq cX4_findFirst 98 (.getfield 15, 3) = true ∧ fp_dq cX4_findFirst 101 (.iload_n 3, 1) = true)) ∧ ((fp_dq cX4_findFirst 102 (.iload 4, 2) = true ∧ fp_dq cX4_findFirst 104 (.iastore, 1) = true) ∧ (fp_dq cX4_findFirst 105 (.iload 4, 2) = true ∧ fp_dq cX4_findFirst 107 (.bipush (-4), 2) = true))) ∧ (((fp_dq cX4_findFirst 109 (.if_icmp .eq 16, 3) = true ∧ fp_dq cX4_findFirst 112 (.aload_n 0, 1) = true) ∧ (fp_dq cX4_findFirst 113 (.dup, 1) = true ∧ fp_dq cX4_findFirst 114 (.getfield 75, 3) = true)) ∧ ((fp_dq cX4_findFirst 117 (.iconst 1, 1) = true ∧ fp_dq cX4_findFirst 118 (.iload 4, 2) = true) ∧ (fp_dq cX4_findFirst 120 (.ishl, 1) = true ∧ fp_dq cX4_findFirst 121 (.ior, 1) = true)))) ∧ ((((fp_dq cX4_findFirst 122 (.putfield 75, 3) = true ∧ fp_dq cX4_findFirst 125 (.iinc 3 1, 3) = true) ∧ (fp_dq cX4_findFirst 128 (.goto (-121), 3) = true ∧ fp_dq cX4_findFirst 131 (.return_, 1) = true)) ∧ ((fp_dq cX4_isPlaced 0 (.aload_n 0, 1) = true ∧ fp_dq cX4_isPlaced 1 (.getfield 75, 3) = true) ∧ (fp_dq cX4_isPlaced 4 (.iconst 1, 1) = true ∧ fp_dq cX4_isPlaced 5 (.iload_n 1, 1) = true))) ∧ (((fp_dq cX4_isPlaced 6 (.ishl, 1) = true ∧ fp_dq cX4_isPlaced 7 (.iand, 1) = true) ∧ (fp_dq cX4_isPlaced 8 (.ifCond .eq 7, 3) = true ∧ fp_dq cX4_isPlaced 11 (.iconst 1, 1) = true)) ∧ ((fp_dq cX4_isPlaced 12 (.goto 4, 3) = true ∧ fp_dq cX4_isPlaced 15 (.iconst 0, 1) = true) ∧ (fp_dq cX4_isPlaced 16 (.ireturn, 1) = true ∧ fp_dq cX4_mayStand 0 (.aload_n 0, 1) = true))))) := by decide +kernel
theorem dX4_findFirst_94 : decode cX4_findFirst 94 = .ok (.goto (-72), 3) := fp_dk fp_hdX4_findFirst_94.1.1.1.1.1
theorem dX4_findFirst_97 : decode cX4_findFirst 97 = .ok (.aload_n 0, 1) := fp_dk fp_hdX4_findFirst_94.1.1.1.1.2
theorem dX4_findFirst_98 : decode cX4_findFirst 98 = .ok (.getfield 15, 3) := fp_dk fp_hdX4_findFirst_94.1.1.1.2.1
theorem dX4_findFirst_101 : decode cX4_findFirst 101 = .ok (.iload_n 3, 1) := fp_dk fp_hdX4_findFirst_94.1.1.1.2.2
theorem dX4_findFirst_102 : decode cX4_findFirst 102 = .ok (.iload 4, 2) := fp_dk fp_hdX4_findFirst_94.1.1.2.1.1
theorem dX4_findFirst_104 : decode cX4_findFirst 104 = .ok (.iastore, 1) := fp_dk fp_hdX4_findFirst_94.1.1.2.1.2
theorem dX4_findFirst_105 : decode cX4_findFirst 105 = .ok (.iload 4, 2) := fp_dk fp_hdX4_findFirst_94.1.1.2.2.1
theorem dX4_findFirst_107 : decode cX4_findFirst 107 = .ok (.bipush (-4), 2) := fp_dk fp_hdX4_findFirst_94.1.1.2.2.2
theorem dX4_findFirst_109 : decode cX4_findFirst 109 = .ok (.if_icmp .eq 16, 3) := fp_dk fp_hdX4_findFirst_94.1.2.1.1.1
theorem dX4_findFirst_112 : decode cX4_findFirst 112 = .ok (.aload_n 0, 1) := fp_dk fp_hdX4_findFirst_94.1.2.1.1.2
theorem dX4_findFirst_113 : decode cX4_findFirst 113 = .ok (.dup, 1) := fp_dk fp_hdX4_findFirst_94.1.2.1.2.1
theorem dX4_findFirst_114 : decode cX4_findFirst 114 = .ok (.getfield 75, 3) := fp_dk fp_hdX4_findFirst_94.1.2.1.2.2
theorem dX4_findFirst_117 : decode cX4_findFirst 117 = .ok (.iconst 1, 1) := fp_dk fp_hdX4_findFirst_94.1.2.2.1.1
theorem dX4_findFirst_118 : decode cX4_findFirst 118 = .ok (.iload 4, 2) := fp_dk fp_hdX4_findFirst_94.1.2.2.1.2
theorem dX4_findFirst_120 : decode cX4_findFirst 120 = .ok (.ishl, 1) := fp_dk fp_hdX4_findFirst_94.1.2.2.2.1
theorem dX4_findFirst_121 : decode cX4_findFirst 121 = .ok (.ior, 1) := fp_dk fp_hdX4_findFirst_94.1.2.2.2.2
theorem dX4_findFirst_122 : decode cX4_findFirst 122 = .ok (.putfield 75, 3) := fp_dk fp_hdX4_findFirst_94.2.1.1.1.1
theorem dX4_findFirst_125 : decode cX4_findFirst 125 = .ok (.iinc 3 1, 3) := fp_dk fp_hdX4_findFirst_94.2.1.1.1.2
theorem dX4_findFirst_128 : decode cX4_findFirst 128 = .ok (.goto (-121), 3) := fp_dk fp_hdX4_findFirst_94.2.1.1.2.1
theorem dX4_findFirst_131 : decode cX4_findFirst 131 = .ok (.return_, 1) := fp_dk fp_hdX4_findFirst_94.2.1.1.2.2
theorem dX4_isPlaced_0 : decode cX4_isPlaced 0 = .ok (.aload_n 0, 1) := fp_dk fp_hdX4_findFirst_94.2.1.2.1.1
theorem dX4_isPlaced_1 : decode cX4_isPlaced 1 = .ok (.getfield 75, 3) := fp_dk fp_hdX4_findFirst_94.2.1.2.1.2
theorem dX4_isPlaced_4 : decode cX4_isPlaced 4 = .ok (.iconst 1, 1) := fp_dk fp_hdX4_findFirst_94.2.1.2.2.1
theorem dX4_isPlaced_5 : decode cX4_isPlaced 5 = .ok (.iload_n 1, 1) := fp_dk fp_hdX4_findFirst_94.2.1.2.2.2
theorem dX4_isPlaced_6 : decode cX4_isPlaced 6 = .ok (.ishl, 1) := fp_dk fp_hdX4_findFirst_94.2.2.1.1.1
theorem dX4_isPlaced_7 : decode cX4_isPlaced 7 = .ok (.iand, 1) := fp_dk fp_hdX4_findFirst_94.2.2.1.1.2
theorem dX4_isPlaced_8 : decode cX4_isPlaced 8 = .ok (.ifCond .eq 7, 3) := fp_dk fp_hdX4_findFirst_94.2.2.1.2.1
theorem dX4_isPlaced_11 : decode cX4_isPlaced 11 = .ok (.iconst 1, 1) := fp_dk fp_hdX4_findFirst_94.2.2.1.2.2
theorem dX4_isPlaced_12 : decode cX4_isPlaced 12 = .ok (.goto 4, 3) := fp_dk fp_hdX4_findFirst_94.2.2.2.1.1
theorem dX4_isPlaced_15 : decode cX4_isPlaced 15 = .ok (.iconst 0, 1) := fp_dk fp_hdX4_findFirst_94.2.2.2.1.2
theorem dX4_isPlaced_16 : decode cX4_isPlaced 16 = .ok (.ireturn, 1) := fp_dk fp_hdX4_findFirst_94.2.2.2.2.1
theorem dX4_mayStand_0 : decode cX4_mayStand 0 = .ok (.aload_n 0, 1) := fp_dk fp_hdX4_findFirst_94.2.2.2.2.2
theorem fp_hdX4_mayStand_1 : (((((fp_dq cX4_mayStand 1 (.getfield 23, 3) = true ∧ fp_dq cX4_mayStand 4 (.iconst 1, 1) = true) ∧ (fp_dq cX4_mayStand 5 (.if_icmp .ne 37, 3) = true ∧ fp_dq cX4_mayStand 8 (.aload_n 2, 1) = true)) ∧ ((fp_dq cX4_mayStand 9 (.iload_n 3, 1) = true ∧ fp_dq cX4_mayStand 10 (.invokevirtual 63, 3) = true) ∧ (fp_dq cX4_mayStand 13 (.istore 5, 2) = true ∧ fp_dq cX4_mayStand 15 (.iload 5, 2) = true))) ∧ (((fp_dq cX4_mayStand 17 (.bipush (-4), 2) = true ∧ fp_dq cX4_mayStand 19 (.if_icmp .eq 17, 3) = true) ∧ (fp_dq cX4_mayStand 22 (.iload 4, 2) = true ∧ fp_dq cX4_mayStand 24 (.aload_n 0, 1) = true)) ∧ ((fp_dq cX4_mayStand 25 (.getfield 31, 3) = true ∧ fp_dq cX4_mayStand 28 (.iconst 1, 1) = true) ∧ (fp_dq cX4_mayStand 29 (.isub, 1) = true ∧ fp_dq cX4_mayStand 30 (.iload 5, 2) = true)))) ∧ ((((fp_dq cX4_mayStand 32 (.isub, 1) = true ∧ fp_dq cX4_mayStand 33 (.if_icmp .ne 7, 3) = true) ∧ (fp_dq cX4_mayStand 36 (.iconst 1, 1) = true ∧ fp_dq cX4_mayStand 37 (.goto 4, 3) = true)) ∧ ((fp_dq cX4_mayStand 40 (.iconst 0, 1) = true ∧ fp_dq cX4_mayStand 41 (.ireturn, 1) = true) ∧ (fp_dq cX4_mayStand 42 (.iconst 0, 1) = true ∧ fp_dq cX4_mayStand 43 (.istore 5, 2) = true))) ∧ (((fp_dq cX4_mayStand 45 (.iload 5, 2) = true ∧ fp_dq cX4_mayStand 47 (.aload_n 2, 1) = true) ∧ (fp_dq cX4_mayStand 48 (.getfield 45, 3) = true ∧ fp_dq cX4_mayStand 51 (.if_icmp .ge 53, 3) = true)) ∧ ((fp_dq cX4_mayStand 54 (.aload_n 2, 1) = true ∧ fp_dq cX4_mayStand 55 (.getfield 48, 3) = true) ∧ (fp_dq cX4_mayStand 58 (.iload 5, 2) = true ∧ fp_dq cX4_mayStand 60 (.iaload, 1) = true))))) := by decide +kernel
theorem dX4_mayStand_1 : decode cX4_mayStand 1 = .ok (.getfield 23, 3) := fp_dk fp_hdX4_mayStand_1.1.1.1.1.1
theorem dX4_mayStand_4 : decode cX4_mayStand 4 = .ok (.iconst 1, 1) := fp_dk fp_hdX4_mayStand_1.1.1.1.1.2
theorem dX4_mayStand_5 : decode cX4_mayStand 5 = .ok (.if_icmp .ne 37, 3) := fp_dk fp_hdX4_mayStand_1.1.1.1.2.1
theorem dX4_mayStand_8 : decode cX4_mayStand 8 = .ok (.aload_n 2, 1) := fp_dk fp_hdX4_mayStand_1.1.1.1.2.2
theorem dX4_mayStand_9 : decode cX4_mayStand 9 = .ok (.iload_n 3, 1) := fp_dk fp_hdX4_mayStand_1.1.1.2.1.1
theorem dX4_mayStand_10 : decode cX4_mayStand 10 = .ok (.invokevirtual 63, 3) := fp_dk fp_hdX4_mayStand_1.1.1.2.1.2
theorem dX4_mayStand_13 : decode cX4_mayStand 13 = .ok (.istore 5, 2) := fp_dk fp_hdX4_mayStand_1.1.1.2.2.1
theorem dX4_mayStand_15 : decode cX4_mayStand 15 = .ok (.iload 5, 2) := fp_dk fp_hdX4_mayStand_1.1.1.2.2.2
theorem dX4_mayStand_17 : decode cX4_mayStand 17 = .ok (.bipush (-4), 2) := fp_dk fp_hdX4_mayStand_1.1.2.1.1.1
theorem dX4_mayStand_19 : decode cX4_mayStand 19 = .ok (.if_icmp .eq 17, 3) := fp_dk fp_hdX4_mayStand_1.1.2.1.1.2
theorem dX4_mayStand_22 : decode cX4_mayStand 22 = .ok (.iload 4, 2) := fp_dk fp_hdX4_mayStand_1.1.2.1.2.1
theorem dX4_mayStand_24 : decode cX4_mayStand 24 = .ok (.aload_n 0, 1) := fp_dk fp_hdX4_mayStand_1.1.2.1.2.2
theorem dX4_mayStand_25 : decode cX4_mayStand 25 = .ok (.getfield 31, 3) := fp_dk fp_hdX4_mayStand_1.1.2.2.1.1
theorem dX4_mayStand_28 : decode cX4_mayStand 28 = .ok (.iconst 1, 1) := fp_dk fp_hdX4_mayStand_1.1.2.2.1.2
theorem dX4_mayStand_29 : decode cX4_mayStand 29 = .ok (.isub, 1) := fp_dk fp_hdX4_mayStand_1.1.2.2.2.1
theorem dX4_mayStand_30 : decode cX4_mayStand 30 = .ok (.iload 5, 2) := fp_dk fp_hdX4_mayStand_1.1.2.2.2.2
theorem dX4_mayStand_32 : decode cX4_mayStand 32 = .ok (.isub, 1) := fp_dk fp_hdX4_mayStand_1.2.1.1.1.1
theorem dX4_mayStand_33 : decode cX4_mayStand 33 = .ok (.if_icmp .ne 7, 3) := fp_dk fp_hdX4_mayStand_1.2.1.1.1.2
theorem dX4_mayStand_36 : decode cX4_mayStand 36 = .ok (.iconst 1, 1) := fp_dk fp_hdX4_mayStand_1.2.1.1.2.1
theorem dX4_mayStand_37 : decode cX4_mayStand 37 = .ok (.goto 4, 3) := fp_dk fp_hdX4_mayStand_1.2.1.1.2.2
theorem dX4_mayStand_40 : decode cX4_mayStand 40 = .ok (.iconst 0, 1) := fp_dk fp_hdX4_mayStand_1.2.1.2.1.1
theorem dX4_mayStand_41 : decode cX4_mayStand 41 = .ok (.ireturn, 1) := fp_dk fp_hdX4_mayStand_1.2.1.2.1.2
theorem dX4_mayStand_42 : decode cX4_mayStand 42 = .ok (.iconst 0, 1) := fp_dk fp_hdX4_mayStand_1.2.1.2.2.1
theorem dX4_mayStand_43 : decode cX4_mayStand 43 = .ok (.istore 5, 2) := fp_dk fp_hdX4_mayStand_1.2.1.2.2.2
theorem dX4_mayStand_45 : decode cX4_mayStand 45 = .ok (.iload 5, 2) := fp_dk fp_hdX4_mayStand_1.2.2.1.1.1
theorem dX4_mayStand_47 : decode cX4_mayStand 47 = .ok (.aload_n 2, 1) := fp_dk fp_hdX4_mayStand_1.2.2.1.1.2
theorem dX4_mayStand_48 : decode cX4_mayStand 48 = .ok (.getfield 45, 3) := fp_dk fp_hdX4_mayStand_1.2.2.1.2.1
theorem dX4_mayStand_51 : decode cX4_mayStand 51 = .ok (.if_icmp .ge 53, 3) := fp_dk fp_hdX4_mayStand_1.2.2.1.2.2
theorem dX4_mayStand_54 : decode cX4_mayStand 54 = .ok (.aload_n 2, 1) := fp_dk fp_hdX4_mayStand_1.2.2.2.1.1
theorem dX4_mayStand_55 : decode cX4_mayStand 55 = .ok (.getfield 48, 3) := fp_dk fp_hdX4_mayStand_1.2.2.2.1.2
theorem dX4_mayStand_58 : decode cX4_mayStand 58 = .ok (.iload 5, 2) := fp_dk fp_hdX4_mayStand_1.2.2.2.2.1
theorem dX4_mayStand_60 : decode cX4_mayStand 60 = .ok (.iaload, 1) := fp_dk fp_hdX4_mayStand_1.2.2.2.2.2
theorem fp_hdX4_mayStand_61 : (((((fp_dq cX4_mayStand 61 (.istore 6, 2) = true ∧ fp_dq cX4_mayStand 63 (.iload 6, 2) = true) ∧ (fp_dq cX4_mayStand 65 (.iload_n 3, 1) = true ∧ fp_dq cX4_mayStand 66 (.if_icmp .ne 5, 3) = true)) ∧ ((fp_dq cX4_mayStand 69 (.iconst 1, 1) = true ∧ fp_dq cX4_mayStand 70 (.ireturn, 1) = true) ∧ (fp_dq cX4_mayStand 71 (.aload_n 0, 1) = true ∧ fp_dq cX4_mayStand 72 (.iload 6, 2) = true))) ∧ (((fp_dq cX4_mayStand 74 (.invokevirtual 78, 3) = true ∧ fp_dq cX4_mayStand 77 (.ifCond .ne 21, 3) = true) ∧ (fp_dq cX4_mayStand 80 (.aload_n 0, 1) = true ∧ fp_dq cX4_mayStand 81 (.aload_n 1, 1) = true)) ∧ ((fp_dq cX4_mayStand 82 (.iload 6, 2) = true ∧ fp_dq cX4_mayStand 84 (.invokevirtual 59, 3) = true) ∧ (fp_dq cX4_mayStand 87 (.aload_n 0, 1) = true ∧ fp_dq cX4_mayStand 88 (.aload_n 1, 1) = true)))) ∧ ((((fp_dq cX4_mayStand 89 (.iload_n 3, 1) = true ∧ fp_dq cX4_mayStand 90 (.invokevirtual 59, 3) = true) ∧ (fp_dq cX4_mayStand 93 (.if_icmp .ne 5, 3) = true ∧ fp_dq cX4_mayStand 96 (.iconst 0, 1) = true)) ∧ ((fp_dq cX4_mayStand 97 (.ireturn, 1) = true ∧ fp_dq cX4_mayStand 98 (.iinc 5 1, 3) = true) ∧ (fp_dq cX4_mayStand 101 (.goto (-56), 3) = true ∧ fp_dq cX4_mayStand 104 (.iconst 1, 1) = true))) ∧ (((fp_dq cX4_mayStand 105 (.ireturn, 1) = true ∧ fp_dq cX5_init 0 (.aload_n 0, 1) = true) ∧ (fp_dq cX5_init 1 (.invokespecial 3, 3) = true ∧ fp_dq cX5_init 4 (.aload_n 0, 1) = true)) ∧ ((fp_dq cX5_init 5 (.bipush 10, 2) = true ∧ fp_dq cX5_init 7 (.newarray .int, 2) = true) ∧ (fp_dq cX5_init 9 (.putfield 9, 3) = true ∧ fp_dq cX5_init 12 (.aload_n 0, 1) = true))))) := by decide +kernel
theorem dX4_mayStand_61 : decode cX4_mayStand 61 = .ok (.istore 6, 2) := fp_dk fp_hdX4_mayStand_61.1.1.1.1.1
theorem dX4_mayStand_63 : decode cX4_mayStand 63 = .ok (.iload 6, 2) := fp_dk fp_hdX4_mayStand_61.1.1.1.1.2
theorem dX4_mayStand_65 : decode cX4_mayStand 65 = .ok (.iload_n 3, 1) := fp_dk fp_hdX4_mayStand_61.1.1.1.2.1
theorem dX4_mayStand_66 : decode cX4_mayStand 66 = .ok (.if_icmp .ne 5, 3) := fp_dk fp_hdX4_mayStand_61.1.1.1.2.2
theorem dX4_mayStand_69 : decode cX4_mayStand 69 = .ok (.iconst 1, 1) := fp_dk fp_hdX4_mayStand_61.1.1.2.1.1
theorem dX4_mayStand_70 : decode cX4_mayStand 70 = .ok (.ireturn, 1) := fp_dk fp_hdX4_mayStand_61.1.1.2.1.2
theorem dX4_mayStand_71 : decode cX4_mayStand 71 = .ok (.aload_n 0, 1) := fp_dk fp_hdX4_mayStand_61.1.1.2.2.1
theorem dX4_mayStand_72 : decode cX4_mayStand 72 = .ok (.iload 6, 2) := fp_dk fp_hdX4_mayStand_61.1.1.2.2.2
theorem dX4_mayStand_74 : decode cX4_mayStand 74 = .ok (.invokevirtual 78, 3) := fp_dk fp_hdX4_mayStand_61.1.2.1.1.1
theorem dX4_mayStand_77 : decode cX4_mayStand 77 = .ok (.ifCond .ne 21, 3) := fp_dk fp_hdX4_mayStand_61.1.2.1.1.2
theorem dX4_mayStand_80 : decode cX4_mayStand 80 = .ok (.aload_n 0, 1) := fp_dk fp_hdX4_mayStand_61.1.2.1.2.1
theorem dX4_mayStand_81 : decode cX4_mayStand 81 = .ok (.aload_n 1, 1) := fp_dk fp_hdX4_mayStand_61.1.2.1.2.2
theorem dX4_mayStand_82 : decode cX4_mayStand 82 = .ok (.iload 6, 2) := fp_dk fp_hdX4_mayStand_61.1.2.2.1.1
theorem dX4_mayStand_84 : decode cX4_mayStand 84 = .ok (.invokevirtual 59, 3) := fp_dk fp_hdX4_mayStand_61.1.2.2.1.2
theorem dX4_mayStand_87 : decode cX4_mayStand 87 = .ok (.aload_n 0, 1) := fp_dk fp_hdX4_mayStand_61.1.2.2.2.1
theorem dX4_mayStand_88 : decode cX4_mayStand 88 = .ok (.aload_n 1, 1) := fp_dk fp_hdX4_mayStand_61.1.2.2.2.2
theorem dX4_mayStand_89 : decode cX4_mayStand 89 = .ok (.iload_n 3, 1) := fp_dk fp_hdX4_mayStand_61.2.1.1.1.1
theorem dX4_mayStand_90 : decode cX4_mayStand 90 = .ok (.invokevirtual 59, 3) := fp_dk fp_hdX4_mayStand_61.2.1.1.1.2
theorem dX4_mayStand_93 : decode cX4_mayStand 93 = .ok (.if_icmp .ne 5, 3) := fp_dk fp_hdX4_mayStand_61.2.1.1.2.1
theorem dX4_mayStand_96 : decode cX4_mayStand 96 = .ok (.iconst 0, 1) := fp_dk fp_hdX4_mayStand_61.2.1.1.2.2
theorem dX4_mayStand_97 : decode cX4_mayStand 97 = .ok (.ireturn, 1) := fp_dk fp_hdX4_mayStand_61.2.1.2.1.1
theorem dX4_mayStand_98 : decode cX4_mayStand 98 = .ok (.iinc 5 1, 3) := fp_dk fp_hdX4_mayStand_61.2.1.2.1.2
theorem dX4_mayStand_101 : decode cX4_mayStand 101 = .ok (.goto (-56), 3) := fp_dk fp_hdX4_mayStand_61.2.1.2.2.1
theorem dX4_mayStand_104 : decode cX4_mayStand 104 = .ok (.iconst 1, 1) := fp_dk fp_hdX4_mayStand_61.2.1.2.2.2
theorem dX4_mayStand_105 : decode cX4_mayStand 105 = .ok (.ireturn, 1) := fp_dk fp_hdX4_mayStand_61.2.2.1.1.1
theorem dX5_init_0 : decode cX5_init 0 = .ok (.aload_n 0, 1) := fp_dk fp_hdX4_mayStand_61.2.2.1.1.2
theorem dX5_init_1 : decode cX5_init 1 = .ok (.invokespecial 3, 3) := fp_dk fp_hdX4_mayStand_61.2.2.1.2.1
theorem dX5_init_4 : decode cX5_init 4 = .ok (.aload_n 0, 1) := fp_dk fp_hdX4_mayStand_61.2.2.1.2.2
theorem dX5_init_5 : decode cX5_init 5 = .ok (.bipush 10, 2) := fp_dk fp_hdX4_mayStand_61.2.2.2.1.1
theorem dX5_init_7 : decode cX5_init 7 = .ok (.newarray .int, 2) := fp_dk fp_hdX4_mayStand_61.2.2.2.1.2
theorem dX5_init_9 : decode cX5_init 9 = .ok (.putfield 9, 3) := fp_dk fp_hdX4_mayStand_61.2.2.2.2.1
theorem dX5_init_12 : decode cX5_init 12 = .ok (.aload_n 0, 1) := fp_dk fp_hdX4_mayStand_61.2.2.2.2.2
theorem fp_hdX5_init_13 : (((((fp_dq cX5_init 13 (.bipush 10, 2) = true ∧ fp_dq cX5_init 15 (.newarray .int, 2) = true) ∧ (fp_dq cX5_init 17 (.putfield 15, 3) = true ∧ fp_dq cX5_init 20 (.aload_n 0, 1) = true)) ∧ ((fp_dq cX5_init 21 (.iconst 3, 1) = true ∧ fp_dq cX5_init 22 (.newarray .int, 2) = true) ∧ (fp_dq cX5_init 24 (.putfield 18, 3) = true ∧ fp_dq cX5_init 27 (.aload_n 0, 1) = true))) ∧ (((fp_dq cX5_init 28 (.bipush 24, 2) = true ∧ fp_dq cX5_init 30 (.newarray .int, 2) = true) ∧ (fp_dq cX5_init 32 (.putfield 21, 3) = true ∧ fp_dq cX5_init 35 (.aload_n 0, 1) = true)) ∧ ((fp_dq cX5_init 36 (.getfield 9, 3) = true ∧ fp_dq cX5_init 39 (.bipush (-4), 2) = true) ∧ (fp_dq cX5_init 41 (.invokestatic 24, 3) = true ∧ fp_dq cX5_init 44 (.aload_n 0, 1) = true)))) ∧ ((((fp_dq cX5_init 45 (.getfield 15, 3) = true ∧ fp_dq cX5_init 48 (.bipush (-4), 2) = true) ∧ (fp_dq cX5_init 50 (.invokestatic 24, 3) = true ∧ fp_dq cX5_init 53 (.return_, 1) = true)) ∧ ((fp_dq cX5_clear 0 (.aload_n 0, 1) = true ∧ fp_dq cX5_clear 1 (.getfield 9, 3) = true) ∧ (fp_dq cX5_clear 4 (.bipush (-4), 2) = true ∧ fp_dq cX5_clear 6 (.invokestatic 24, 3) = true))) ∧ (((fp_dq cX5_clear 9 (.aload_n 0, 1) = true ∧ fp_dq cX5_clear 10 (.getfield 15, 3) = true) ∧ (fp_dq cX5_clear 13 (.bipush (-4), 2) = true ∧ fp_dq cX5_clear 15 (.invokestatic 24, 3) = true)) ∧ ((fp_dq cX5_clear 18 (.aload_n 0, 1) = true ∧ fp_dq cX5_clear 19 (.getfield 18, 3) = true) ∧ (fp_dq cX5_clear 22 (.iconst 0, 1) = true ∧ fp_dq cX5_clear 23 (.invokestatic 24, 3) = true))))) := by decide +kernel
theorem dX5_init_13 : decode cX5_init 13 = .ok (.bipush 10, 2) := fp_dk fp_hdX5_init_13.1.1.1.1.1
theorem dX5_init_15 : decode cX5_init 15 = .ok (.newarray .int, 2) := fp_dk fp_hdX5_init_13.1.1.1.1.2
theorem dX5_init_17 : decode cX5_init 17 = .ok (.putfield 15, 3) := fp_dk fp_hdX5_init_13.1.1.1.2.1
theorem dX5_init_20 : decode cX5_init 20 = .ok (.aload_n 0, 1) := fp_dk fp_hdX5_init_13.1.1.1.2.2
theorem dX5_init_21 : decode cX5_init 21 = .ok (.iconst 3, 1) := fp_dk fp_hdX5_init_13.1.1.2.1.1
theorem dX5_init_22 : decode cX5_init 22 = .ok (.newarray .int, 2) := fp_dk fp_hdX5_init_13.1.1.2.1.2
theorem dX5_init_24 : decode cX5_init 24 = .ok (.putfield 18, 3) := fp_dk fp_hdX5_init_13.1.1.2.2.1
theorem dX5_init_27 : decode cX5_init 27 = .ok (.aload_n 0, 1) := fp_dk fp_hdX5_init_13.1.1.2.2.2
theorem dX5_init_28 : decode cX5_init 28 = .ok (.bipush 24, 2) := fp_dk fp_hdX5_init_13.1.2.1.1.1
theorem dX5_init_30 : decode cX5_init 30 = .ok (.newarray .int, 2) := fp_dk fp_hdX5_init_13.1.2.1.1.2
theorem dX5_init_32 : decode cX5_init 32 = .ok (.putfield 21, 3) := fp_dk fp_hdX5_init_13.1.2.1.2.1
theorem dX5_init_35 : decode cX5_init 35 = .ok (.aload_n 0, 1) := fp_dk fp_hdX5_init_13.1.2.1.2.2
theorem dX5_init_36 : decode cX5_init 36 = .ok (.getfield 9, 3) := fp_dk fp_hdX5_init_13.1.2.2.1.1
theorem dX5_init_39 : decode cX5_init 39 = .ok (.bipush (-4), 2) := fp_dk fp_hdX5_init_13.1.2.2.1.2
theorem dX5_init_41 : decode cX5_init 41 = .ok (.invokestatic 24, 3) := fp_dk fp_hdX5_init_13.1.2.2.2.1
theorem dX5_init_44 : decode cX5_init 44 = .ok (.aload_n 0, 1) := fp_dk fp_hdX5_init_13.1.2.2.2.2
theorem dX5_init_45 : decode cX5_init 45 = .ok (.getfield 15, 3) := fp_dk fp_hdX5_init_13.2.1.1.1.1
theorem dX5_init_48 : decode cX5_init 48 = .ok (.bipush (-4), 2) := fp_dk fp_hdX5_init_13.2.1.1.1.2
theorem dX5_init_50 : decode cX5_init 50 = .ok (.invokestatic 24, 3) := fp_dk fp_hdX5_init_13.2.1.1.2.1
theorem dX5_init_53 : decode cX5_init 53 = .ok (.return_, 1) := fp_dk fp_hdX5_init_13.2.1.1.2.2
theorem dX5_clear_0 : decode cX5_clear 0 = .ok (.aload_n 0, 1) := fp_dk fp_hdX5_init_13.2.1.2.1.1
theorem dX5_clear_1 : decode cX5_clear 1 = .ok (.getfield 9, 3) := fp_dk fp_hdX5_init_13.2.1.2.1.2
theorem dX5_clear_4 : decode cX5_clear 4 = .ok (.bipush (-4), 2) := fp_dk fp_hdX5_init_13.2.1.2.2.1
theorem dX5_clear_6 : decode cX5_clear 6 = .ok (.invokestatic 24, 3) := fp_dk fp_hdX5_init_13.2.1.2.2.2
theorem dX5_clear_9 : decode cX5_clear 9 = .ok (.aload_n 0, 1) := fp_dk fp_hdX5_init_13.2.2.1.1.1
theorem dX5_clear_10 : decode cX5_clear 10 = .ok (.getfield 15, 3) := fp_dk fp_hdX5_init_13.2.2.1.1.2
theorem dX5_clear_13 : decode cX5_clear 13 = .ok (.bipush (-4), 2) := fp_dk fp_hdX5_init_13.2.2.1.2.1
theorem dX5_clear_15 : decode cX5_clear 15 = .ok (.invokestatic 24, 3) := fp_dk fp_hdX5_init_13.2.2.1.2.2
theorem dX5_clear_18 : decode cX5_clear 18 = .ok (.aload_n 0, 1) := fp_dk fp_hdX5_init_13.2.2.2.1.1
theorem dX5_clear_19 : decode cX5_clear 19 = .ok (.getfield 18, 3) := fp_dk fp_hdX5_init_13.2.2.2.1.2
theorem dX5_clear_22 : decode cX5_clear 22 = .ok (.iconst 0, 1) := fp_dk fp_hdX5_init_13.2.2.2.2.1
theorem dX5_clear_23 : decode cX5_clear 23 = .ok (.invokestatic 24, 3) := fp_dk fp_hdX5_init_13.2.2.2.2.2
theorem fp_hdX5_clear_26 : (((((fp_dq cX5_clear 26 (.return_, 1) = true ∧ fp_dq cX5_copyFrom 0 (.aload_n 1, 1) = true) ∧ (fp_dq cX5_copyFrom 1 (.getfield 9, 3) = true ∧ fp_dq cX5_copyFrom 4 (.iconst 0, 1) = true)) ∧ ((fp_dq cX5_copyFrom 5 (.aload_n 0, 1) = true ∧ fp_dq cX5_copyFrom 6 (.getfield 9, 3) = true) ∧ (fp_dq cX5_copyFrom 9 (.iconst 0, 1) = true ∧ fp_dq cX5_copyFrom 10 (.aload_n 0, 1) = true))) ∧ (((fp_dq cX5_copyFrom 11 (.getfield 9, 3) = true ∧ fp_dq cX5_copyFrom 14 (.arraylength, 1) = true) ∧ (fp_dq cX5_copyFrom 15 (.invokestatic 30, 3) = true ∧ fp_dq cX5_copyFrom 18 (.aload_n 1, 1) = true)) ∧ ((fp_dq cX5_copyFrom 19 (.getfield 15, 3) = true ∧ fp_dq cX5_copyFrom 22 (.iconst 0, 1) = true) ∧ (fp_dq cX5_copyFrom 23 (.aload_n 0, 1) = true ∧ fp_dq cX5_copyFrom 24 (.getfield 15, 3) = true)))) ∧ ((((fp_dq cX5_copyFrom 27 (.iconst 0, 1) = true ∧ fp_dq cX5_copyFrom 28 (.aload_n 0, 1) = true) ∧ (fp_dq cX5_copyFrom 29 (.getfield 15, 3) = true ∧ fp_dq cX5_copyFrom 32 (.arraylength, 1) = true)) ∧ ((fp_dq cX5_copyFrom 33 (.invokestatic 30, 3) = true ∧ fp_dq cX5_copyFrom 36 (.aload_n 1, 1) = true) ∧ (fp_dq cX5_copyFrom 37 (.getfield 18, 3) = true ∧ fp_dq cX5_copyFrom 40 (.iconst 0, 1) = true))) ∧ (((fp_dq cX5_copyFrom 41 (.aload_n 0, 1) = true ∧ fp_dq cX5_copyFrom 42 (.getfield 18, 3) = true) ∧ (fp_dq cX5_copyFrom 45 (.iconst 0, 1) = true ∧ fp_dq cX5_copyFrom 46 (.aload_n 0, 1) = true)) ∧ ((fp_dq cX5_copyFrom 47 (.getfield 18, 3) = true ∧ fp_dq cX5_copyFrom 50 (.arraylength, 1) = true) ∧ (fp_dq cX5_copyFrom 51 (.invokestatic 30, 3) = true ∧ fp_dq cX5_copyFrom 54 (.aload_n 1, 1) = true))))) := by decide +kernel
theorem dX5_clear_26 : decode cX5_clear 26 = .ok (.return_, 1) := fp_dk fp_hdX5_clear_26.1.1.1.1.1
theorem dX5_copyFrom_0 : decode cX5_copyFrom 0 = .ok (.aload_n 1, 1) := fp_dk fp_hdX5_clear_26.1.1.1.1.2
theorem dX5_copyFrom_1 : decode cX5_copyFrom 1 = .ok (.getfield 9, 3) := fp_dk fp_hdX5_clear_26.1.1.1.2.1
theorem dX5_copyFrom_4 : decode cX5_copyFrom 4 = .ok (.iconst 0, 1) := fp_dk fp_hdX5_clear_26.1.1.1.2.2
theorem dX5_copyFrom_5 : decode cX5_copyFrom 5 = .ok (.aload_n 0, 1) := fp_dk fp_hdX5_clear_26.1.1.2.1.1
theorem dX5_copyFrom_6 : decode cX5_copyFrom 6 = .ok (.getfield 9, 3) := fp_dk fp_hdX5_clear_26.1.1.2.1.2
theorem dX5_copyFrom_9 : decode cX5_copyFrom 9 = .ok (.iconst 0, 1) := fp_dk fp_hdX5_clear_26.1.1.2.2.1
theorem dX5_copyFrom_10 : decode cX5_copyFrom 10 = .ok (.aload_n 0, 1) := fp_dk fp_hdX5_clear_26.1.1.2.2.2
theorem dX5_copyFrom_11 : decode cX5_copyFrom 11 = .ok (.getfield 9, 3) := fp_dk fp_hdX5_clear_26.1.2.1.1.1
theorem dX5_copyFrom_14 : decode cX5_copyFrom 14 = .ok (.arraylength, 1) := fp_dk fp_hdX5_clear_26.1.2.1.1.2
theorem dX5_copyFrom_15 : decode cX5_copyFrom 15 = .ok (.invokestatic 30, 3) := fp_dk fp_hdX5_clear_26.1.2.1.2.1
theorem dX5_copyFrom_18 : decode cX5_copyFrom 18 = .ok (.aload_n 1, 1) := fp_dk fp_hdX5_clear_26.1.2.1.2.2
theorem dX5_copyFrom_19 : decode cX5_copyFrom 19 = .ok (.getfield 15, 3) := fp_dk fp_hdX5_clear_26.1.2.2.1.1
theorem dX5_copyFrom_22 : decode cX5_copyFrom 22 = .ok (.iconst 0, 1) := fp_dk fp_hdX5_clear_26.1.2.2.1.2
theorem dX5_copyFrom_23 : decode cX5_copyFrom 23 = .ok (.aload_n 0, 1) := fp_dk fp_hdX5_clear_26.1.2.2.2.1
theorem dX5_copyFrom_24 : decode cX5_copyFrom 24 = .ok (.getfield 15, 3) := fp_dk fp_hdX5_clear_26.1.2.2.2.2
theorem dX5_copyFrom_27 : decode cX5_copyFrom 27 = .ok (.iconst 0, 1) := fp_dk fp_hdX5_clear_26.2.1.1.1.1
theorem dX5_copyFrom_28 : decode cX5_copyFrom 28 = .ok (.aload_n 0, 1) := fp_dk fp_hdX5_clear_26.2.1.1.1.2
theorem dX5_copyFrom_29 : decode cX5_copyFrom 29 = .ok (.getfield 15, 3) := fp_dk fp_hdX5_clear_26.2.1.1.2.1
theorem dX5_copyFrom_32 : decode cX5_copyFrom 32 = .ok (.arraylength, 1) := fp_dk fp_hdX5_clear_26.2.1.1.2.2
theorem dX5_copyFrom_33 : decode cX5_copyFrom 33 = .ok (.invokestatic 30, 3) := fp_dk fp_hdX5_clear_26.2.1.2.1.1
theorem dX5_copyFrom_36 : decode cX5_copyFrom 36 = .ok (.aload_n 1, 1) := fp_dk fp_hdX5_clear_26.2.1.2.1.2
theorem dX5_copyFrom_37 : decode cX5_copyFrom 37 = .ok (.getfield 18, 3) := fp_dk fp_hdX5_clear_26.2.1.2.2.1
theorem dX5_copyFrom_40 : decode cX5_copyFrom 40 = .ok (.iconst 0, 1) := fp_dk fp_hdX5_clear_26.2.1.2.2.2
theorem dX5_copyFrom_41 : decode cX5_copyFrom 41 = .ok (.aload_n 0, 1) := fp_dk fp_hdX5_clear_26.2.2.1.1.1
theorem dX5_copyFrom_42 : decode cX5_copyFrom 42 = .ok (.getfield 18, 3) := fp_dk fp_hdX5_clear_26.2.2.1.1.2
theorem dX5_copyFrom_45 : decode cX5_copyFrom 45 = .ok (.iconst 0, 1) := fp_dk fp_hdX5_clear_26.2.2.1.2.1
theorem dX5_copyFrom_46 : decode cX5_copyFrom 46 = .ok (.aload_n 0, 1) := fp_dk fp_hdX5_clear_26.2.2.1.2.2
theorem dX5_copyFrom_47 : decode cX5_copyFrom 47 = .ok (.getfield 18, 3) := fp_dk fp_hdX5_clear_26.2.2.2.1.1
theorem dX5_copyFrom_50 : decode cX5_copyFrom 50 = .ok (.arraylength, 1) := fp_dk fp_hdX5_clear_26.2.2.2.1.2
theorem dX5_copyFrom_51 : decode cX5_copyFrom 51 = .ok (.invokestatic 30, 3) := fp_dk fp_hdX5_clear_26.2.2.2.2.1
theorem dX5_copyFrom_54 : decode cX5_copyFrom 54 = .ok (.aload_n 1, 1) := fp_dk fp_hdX5_clear_26.2.2.2.2.2
theorem fp_hdX5_copyFrom_55 : (((((fp_dq cX5_copyFrom 55 (.getfield 21, 3) = true ∧ fp_dq cX5_copyFrom 58 (.iconst 0, 1) = true) ∧ (fp_dq cX5_copyFrom 59 (.aload_n 0, 1) = true ∧ fp_dq cX5_copyFrom 60 (.getfield 21, 3) = true)) ∧ ((fp_dq cX5_copyFrom 63 (.iconst 0, 1) = true ∧ fp_dq cX5_copyFrom 64 (.aload_n 0, 1) = true) ∧ (fp_dq cX5_copyFrom 65 (.getfield 21, 3) = true ∧ fp_dq cX5_copyFrom 68 (.arraylength, 1) = true))) ∧ (((fp_dq cX5_copyFrom 69 (.invokestatic 30, 3) = true ∧ fp_dq cX5_copyFrom 72 (.return_, 1) = true) ∧ (fp_dq cX5_heldBy 0 (.iconst 0, 1) = true ∧ fp_dq cX5_heldBy 1 (.istore_n 2, 1) = true)) ∧ ((fp_dq cX5_heldBy 2 (.iconst 0, 1) = true ∧ fp_dq cX5_heldBy 3 (.istore_n 3, 1) = true) ∧ (fp_dq cX5_heldBy 4 (.iload_n 3, 1) = true ∧ fp_dq cX5_heldBy 5 (.bipush 10, 2) = true)))) ∧ ((((fp_dq cX5_heldBy 7 (.if_icmp .ge 25, 3) = true ∧ fp_dq cX5_heldBy 10 (.aload_n 0, 1) = true) ∧ (fp_dq cX5_heldBy 11 (.getfield 9, 3) = true ∧ fp_dq cX5_heldBy 14 (.iload_n 3, 1) = true)) ∧ ((fp_dq cX5_heldBy 15 (.iaload, 1) = true ∧ fp_dq cX5_heldBy 16 (.iload_n 1, 1) = true) ∧ (fp_dq cX5_heldBy 17 (.if_icmp .ne 9, 3) = true ∧ fp_dq cX5_heldBy 20 (.iload_n 2, 1) = true))) ∧ (((fp_dq cX5_heldBy 21 (.iconst 1, 1) = true ∧ fp_dq cX5_heldBy 22 (.iload_n 3, 1) = true) ∧ (fp_dq cX5_heldBy 23 (.ishl, 1) = true ∧ fp_dq cX5_heldBy 24 (.ior, 1) = true)) ∧ ((fp_dq cX5_heldBy 25 (.istore_n 2, 1) = true ∧ fp_dq cX5_heldBy 26 (.iinc 3 1, 3) = true) ∧ (fp_dq cX5_heldBy 29 (.goto (-25), 3) = true ∧ fp_dq cX5_heldBy 32 (.iload_n 2, 1) = true))))) := by decide +kernel
theorem dX5_copyFrom_55 : decode cX5_copyFrom 55 = .ok (.getfield 21, 3) := fp_dk fp_hdX5_copyFrom_55.1.1.1.1.1
theorem dX5_copyFrom_58 : decode cX5_copyFrom 58 = .ok (.iconst 0, 1) := fp_dk fp_hdX5_copyFrom_55.1.1.1.1.2
theorem dX5_copyFrom_59 : decode cX5_copyFrom 59 = .ok (.aload_n 0, 1) := fp_dk fp_hdX5_copyFrom_55.1.1.1.2.1
theorem dX5_copyFrom_60 : decode cX5_copyFrom 60 = .ok (.getfield 21, 3) := fp_dk fp_hdX5_copyFrom_55.1.1.1.2.2
theorem dX5_copyFrom_63 : decode cX5_copyFrom 63 = .ok (.iconst 0, 1) := fp_dk fp_hdX5_copyFrom_55.1.1.2.1.1
theorem dX5_copyFrom_64 : decode cX5_copyFrom 64 = .ok (.aload_n 0, 1) := fp_dk fp_hdX5_copyFrom_55.1.1.2.1.2
theorem dX5_copyFrom_65 : decode cX5_copyFrom 65 = .ok (.getfield 21, 3) := fp_dk fp_hdX5_copyFrom_55.1.1.2.2.1
theorem dX5_copyFrom_68 : decode cX5_copyFrom 68 = .ok (.arraylength, 1) := fp_dk fp_hdX5_copyFrom_55.1.1.2.2.2
theorem dX5_copyFrom_69 : decode cX5_copyFrom 69 = .ok (.invokestatic 30, 3) := fp_dk fp_hdX5_copyFrom_55.1.2.1.1.1
theorem dX5_copyFrom_72 : decode cX5_copyFrom 72 = .ok (.return_, 1) := fp_dk fp_hdX5_copyFrom_55.1.2.1.1.2
theorem dX5_heldBy_0 : decode cX5_heldBy 0 = .ok (.iconst 0, 1) := fp_dk fp_hdX5_copyFrom_55.1.2.1.2.1
theorem dX5_heldBy_1 : decode cX5_heldBy 1 = .ok (.istore_n 2, 1) := fp_dk fp_hdX5_copyFrom_55.1.2.1.2.2
theorem dX5_heldBy_2 : decode cX5_heldBy 2 = .ok (.iconst 0, 1) := fp_dk fp_hdX5_copyFrom_55.1.2.2.1.1
theorem dX5_heldBy_3 : decode cX5_heldBy 3 = .ok (.istore_n 3, 1) := fp_dk fp_hdX5_copyFrom_55.1.2.2.1.2
theorem dX5_heldBy_4 : decode cX5_heldBy 4 = .ok (.iload_n 3, 1) := fp_dk fp_hdX5_copyFrom_55.1.2.2.2.1
theorem dX5_heldBy_5 : decode cX5_heldBy 5 = .ok (.bipush 10, 2) := fp_dk fp_hdX5_copyFrom_55.1.2.2.2.2
theorem dX5_heldBy_7 : decode cX5_heldBy 7 = .ok (.if_icmp .ge 25, 3) := fp_dk fp_hdX5_copyFrom_55.2.1.1.1.1
theorem dX5_heldBy_10 : decode cX5_heldBy 10 = .ok (.aload_n 0, 1) := fp_dk fp_hdX5_copyFrom_55.2.1.1.1.2
theorem dX5_heldBy_11 : decode cX5_heldBy 11 = .ok (.getfield 9, 3) := fp_dk fp_hdX5_copyFrom_55.2.1.1.2.1
theorem dX5_heldBy_14 : decode cX5_heldBy 14 = .ok (.iload_n 3, 1) := fp_dk fp_hdX5_copyFrom_55.2.1.1.2.2
theorem dX5_heldBy_15 : decode cX5_heldBy 15 = .ok (.iaload, 1) := fp_dk fp_hdX5_copyFrom_55.2.1.2.1.1
theorem dX5_heldBy_16 : decode cX5_heldBy 16 = .ok (.iload_n 1, 1) := fp_dk fp_hdX5_copyFrom_55.2.1.2.1.2
theorem dX5_heldBy_17 : decode cX5_heldBy 17 = .ok (.if_icmp .ne 9, 3) := fp_dk fp_hdX5_copyFrom_55.2.1.2.2.1
theorem dX5_heldBy_20 : decode cX5_heldBy 20 = .ok (.iload_n 2, 1) := fp_dk fp_hdX5_copyFrom_55.2.1.2.2.2
theorem dX5_heldBy_21 : decode cX5_heldBy 21 = .ok (.iconst 1, 1) := fp_dk fp_hdX5_copyFrom_55.2.2.1.1.1
theorem dX5_heldBy_22 : decode cX5_heldBy 22 = .ok (.iload_n 3, 1) := fp_dk fp_hdX5_copyFrom_55.2.2.1.1.2
theorem dX5_heldBy_23 : decode cX5_heldBy 23 = .ok (.ishl, 1) := fp_dk fp_hdX5_copyFrom_55.2.2.1.2.1
theorem dX5_heldBy_24 : decode cX5_heldBy 24 = .ok (.ior, 1) := fp_dk fp_hdX5_copyFrom_55.2.2.1.2.2
theorem dX5_heldBy_25 : decode cX5_heldBy 25 = .ok (.istore_n 2, 1) := fp_dk fp_hdX5_copyFrom_55.2.2.2.1.1
theorem dX5_heldBy_26 : decode cX5_heldBy 26 = .ok (.iinc 3 1, 3) := fp_dk fp_hdX5_copyFrom_55.2.2.2.1.2
theorem dX5_heldBy_29 : decode cX5_heldBy 29 = .ok (.goto (-25), 3) := fp_dk fp_hdX5_copyFrom_55.2.2.2.2.1
theorem dX5_heldBy_32 : decode cX5_heldBy 32 = .ok (.iload_n 2, 1) := fp_dk fp_hdX5_copyFrom_55.2.2.2.2.2
theorem fp_hdX5_heldBy_33 : (((((fp_dq cX5_heldBy 33 (.ireturn, 1) = true ∧ fp_dq cX5_leastHeldBy 0 (.iconst 0, 1) = true) ∧ (fp_dq cX5_leastHeldBy 1 (.istore_n 2, 1) = true ∧ fp_dq cX5_leastHeldBy 2 (.iload_n 2, 1) = true)) ∧ ((fp_dq cX5_leastHeldBy 3 (.bipush 10, 2) = true ∧ fp_dq cX5_leastHeldBy 5 (.if_icmp .ge 21, 3) = true) ∧ (fp_dq cX5_leastHeldBy 8 (.aload_n 0, 1) = true ∧ fp_dq cX5_leastHeldBy 9 (.getfield 9, 3) = true))) ∧ (((fp_dq cX5_leastHeldBy 12 (.iload_n 2, 1) = true ∧ fp_dq cX5_leastHeldBy 13 (.iaload, 1) = true) ∧ (fp_dq cX5_leastHeldBy 14 (.iload_n 1, 1) = true ∧ fp_dq cX5_leastHeldBy 15 (.if_icmp .ne 5, 3) = true)) ∧ ((fp_dq cX5_leastHeldBy 18 (.iload_n 2, 1) = true ∧ fp_dq cX5_leastHeldBy 19 (.ireturn, 1) = true) ∧ (fp_dq cX5_leastHeldBy 20 (.iinc 2 1, 3) = true ∧ fp_dq cX5_leastHeldBy 23 (.goto (-21), 3) = true)))) ∧ ((((fp_dq cX5_leastHeldBy 26 (.bipush (-4), 2) = true ∧ fp_dq cX5_leastHeldBy 28 (.ireturn, 1) = true) ∧ (fp_dq cX5_worthTo 0 (.iconst 0, 1) = true ∧ fp_dq cX5_worthTo 1 (.istore_n 3, 1) = true)) ∧ ((fp_dq cX5_worthTo 2 (.iconst 0, 1) = true ∧ fp_dq cX5_worthTo 3 (.istore 4, 2) = true) ∧ (fp_dq cX5_worthTo 5 (.iload 4, 2) = true ∧ fp_dq cX5_worthTo 7 (.aload_n 1, 1) = true))) ∧ (((fp_dq cX5_worthTo 8 (.getfield 36, 3) = true ∧ fp_dq cX5_worthTo 11 (.if_icmp .ge 30, 3) = true) ∧ (fp_dq cX5_worthTo 14 (.aload_n 0, 1) = true ∧ fp_dq cX5_worthTo 15 (.getfield 9, 3) = true)) ∧ ((fp_dq cX5_worthTo 18 (.iload 4, 2) = true ∧ fp_dq cX5_worthTo 20 (.iaload, 1) = true) ∧ (fp_dq cX5_worthTo 21 (.iload_n 2, 1) = true ∧ fp_dq cX5_worthTo 22 (.if_icmp .ne 13, 3) = true))))) := by decide +kernel
theorem dX5_heldBy_33 : decode cX5_heldBy 33 = .ok (.ireturn, 1) := fp_dk fp_hdX5_heldBy_33.1.1.1.1.1
theorem dX5_leastHeldBy_0 : decode cX5_leastHeldBy 0 = .ok (.iconst 0, 1) := fp_dk fp_hdX5_heldBy_33.1.1.1.1.2
theorem dX5_leastHeldBy_1 : decode cX5_leastHeldBy 1 = .ok (.istore_n 2, 1) := fp_dk fp_hdX5_heldBy_33.1.1.1.2.1
theorem dX5_leastHeldBy_2 : decode cX5_leastHeldBy 2 = .ok (.iload_n 2, 1) := fp_dk fp_hdX5_heldBy_33.1.1.1.2.2
theorem dX5_leastHeldBy_3 : decode cX5_leastHeldBy 3 = .ok (.bipush 10, 2) := fp_dk fp_hdX5_heldBy_33.1.1.2.1.1
theorem dX5_leastHeldBy_5 : decode cX5_leastHeldBy 5 = .ok (.if_icmp .ge 21, 3) := fp_dk fp_hdX5_heldBy_33.1.1.2.1.2
theorem dX5_leastHeldBy_8 : decode cX5_leastHeldBy 8 = .ok (.aload_n 0, 1) := fp_dk fp_hdX5_heldBy_33.1.1.2.2.1
theorem dX5_leastHeldBy_9 : decode cX5_leastHeldBy 9 = .ok (.getfield 9, 3) := fp_dk fp_hdX5_heldBy_33.1.1.2.2.2
theorem dX5_leastHeldBy_12 : decode cX5_leastHeldBy 12 = .ok (.iload_n 2, 1) := fp_dk fp_hdX5_heldBy_33.1.2.1.1.1
theorem dX5_leastHeldBy_13 : decode cX5_leastHeldBy 13 = .ok (.iaload, 1) := fp_dk fp_hdX5_heldBy_33.1.2.1.1.2
theorem dX5_leastHeldBy_14 : decode cX5_leastHeldBy 14 = .ok (.iload_n 1, 1) := fp_dk fp_hdX5_heldBy_33.1.2.1.2.1
theorem dX5_leastHeldBy_15 : decode cX5_leastHeldBy 15 = .ok (.if_icmp .ne 5, 3) := fp_dk fp_hdX5_heldBy_33.1.2.1.2.2
theorem dX5_leastHeldBy_18 : decode cX5_leastHeldBy 18 = .ok (.iload_n 2, 1) := fp_dk fp_hdX5_heldBy_33.1.2.2.1.1
theorem dX5_leastHeldBy_19 : decode cX5_leastHeldBy 19 = .ok (.ireturn, 1) := fp_dk fp_hdX5_heldBy_33.1.2.2.1.2
theorem dX5_leastHeldBy_20 : decode cX5_leastHeldBy 20 = .ok (.iinc 2 1, 3) := fp_dk fp_hdX5_heldBy_33.1.2.2.2.1
theorem dX5_leastHeldBy_23 : decode cX5_leastHeldBy 23 = .ok (.goto (-21), 3) := fp_dk fp_hdX5_heldBy_33.1.2.2.2.2
theorem dX5_leastHeldBy_26 : decode cX5_leastHeldBy 26 = .ok (.bipush (-4), 2) := fp_dk fp_hdX5_heldBy_33.2.1.1.1.1
theorem dX5_leastHeldBy_28 : decode cX5_leastHeldBy 28 = .ok (.ireturn, 1) := fp_dk fp_hdX5_heldBy_33.2.1.1.1.2
theorem dX5_worthTo_0 : decode cX5_worthTo 0 = .ok (.iconst 0, 1) := fp_dk fp_hdX5_heldBy_33.2.1.1.2.1
theorem dX5_worthTo_1 : decode cX5_worthTo 1 = .ok (.istore_n 3, 1) := fp_dk fp_hdX5_heldBy_33.2.1.1.2.2
theorem dX5_worthTo_2 : decode cX5_worthTo 2 = .ok (.iconst 0, 1) := fp_dk fp_hdX5_heldBy_33.2.1.2.1.1
theorem dX5_worthTo_3 : decode cX5_worthTo 3 = .ok (.istore 4, 2) := fp_dk fp_hdX5_heldBy_33.2.1.2.1.2
theorem dX5_worthTo_5 : decode cX5_worthTo 5 = .ok (.iload 4, 2) := fp_dk fp_hdX5_heldBy_33.2.1.2.2.1
theorem dX5_worthTo_7 : decode cX5_worthTo 7 = .ok (.aload_n 1, 1) := fp_dk fp_hdX5_heldBy_33.2.1.2.2.2
theorem dX5_worthTo_8 : decode cX5_worthTo 8 = .ok (.getfield 36, 3) := fp_dk fp_hdX5_heldBy_33.2.2.1.1.1
theorem dX5_worthTo_11 : decode cX5_worthTo 11 = .ok (.if_icmp .ge 30, 3) := fp_dk fp_hdX5_heldBy_33.2.2.1.1.2
theorem dX5_worthTo_14 : decode cX5_worthTo 14 = .ok (.aload_n 0, 1) := fp_dk fp_hdX5_heldBy_33.2.2.1.2.1
theorem dX5_worthTo_15 : decode cX5_worthTo 15 = .ok (.getfield 9, 3) := fp_dk fp_hdX5_heldBy_33.2.2.1.2.2
theorem dX5_worthTo_18 : decode cX5_worthTo 18 = .ok (.iload 4, 2) := fp_dk fp_hdX5_heldBy_33.2.2.2.1.1
theorem dX5_worthTo_20 : decode cX5_worthTo 20 = .ok (.iaload, 1) := fp_dk fp_hdX5_heldBy_33.2.2.2.1.2
theorem dX5_worthTo_21 : decode cX5_worthTo 21 = .ok (.iload_n 2, 1) := fp_dk fp_hdX5_heldBy_33.2.2.2.2.1
theorem dX5_worthTo_22 : decode cX5_worthTo 22 = .ok (.if_icmp .ne 13, 3) := fp_dk fp_hdX5_heldBy_33.2.2.2.2.2
theorem fp_hdX5_worthTo_25 : (((((fp_dq cX5_worthTo 25 (.iload_n 3, 1) = true ∧ fp_dq cX5_worthTo 26 (.aload_n 1, 1) = true) ∧ (fp_dq cX5_worthTo 27 (.iload_n 2, 1) = true ∧ fp_dq cX5_worthTo 28 (.iload 4, 2) = true)) ∧ ((fp_dq cX5_worthTo 30 (.invokevirtual 42, 3) = true ∧ fp_dq cX5_worthTo 33 (.iadd, 1) = true) ∧ (fp_dq cX5_worthTo 34 (.istore_n 3, 1) = true ∧ fp_dq cX5_worthTo 35 (.iinc 4 1, 3) = true))) ∧ (((fp_dq cX5_worthTo 38 (.goto (-33), 3) = true ∧ fp_dq cX5_worthTo 41 (.iload_n 3, 1) = true) ∧ (fp_dq cX5_worthTo 42 (.ireturn, 1) = true ∧ fp_dq cX5_spotOf 0 (.aload_n 0, 1) = true)) ∧ ((fp_dq cX5_spotOf 1 (.getfield 9, 3) = true ∧ fp_dq cX5_spotOf 4 (.iload_n 1, 1) = true) ∧ (fp_dq cX5_spotOf 5 (.iaload, 1) = true ∧ fp_dq cX5_spotOf 6 (.bipush 10, 2) = true)))) ∧ ((((fp_dq cX5_spotOf 8 (.isub, 1) = true ∧ fp_dq cX5_spotOf 9 (.istore_n 2, 1) = true) ∧ (fp_dq cX5_spotOf 10 (.iload_n 2, 1) = true ∧ fp_dq cX5_spotOf 11 (.ifCond .lt 8, 3) = true)) ∧ ((fp_dq cX5_spotOf 14 (.iload_n 2, 1) = true ∧ fp_dq cX5_spotOf 15 (.iconst 3, 1) = true) ∧ (fp_dq cX5_spotOf 16 (.if_icmp .lt 6, 3) = true ∧ fp_dq cX5_spotOf 19 (.bipush (-4), 2) = true))) ∧ (((fp_dq cX5_spotOf 21 (.ireturn, 1) = true ∧ fp_dq cX5_spotOf 22 (.iconst 0, 1) = true) ∧ (fp_dq cX5_spotOf 23 (.istore_n 3, 1) = true ∧ fp_dq cX5_spotOf 24 (.iload_n 3, 1) = true)) ∧ ((fp_dq cX5_spotOf 25 (.aload_n 0, 1) = true ∧ fp_dq cX5_spotOf 26 (.getfield 18, 3) = true) ∧ (fp_dq cX5_spotOf 29 (.iload_n 2, 1) = true ∧ fp_dq cX5_spotOf 30 (.iaload, 1) = true))))) := by decide +kernel
theorem dX5_worthTo_25 : decode cX5_worthTo 25 = .ok (.iload_n 3, 1) := fp_dk fp_hdX5_worthTo_25.1.1.1.1.1
theorem dX5_worthTo_26 : decode cX5_worthTo 26 = .ok (.aload_n 1, 1) := fp_dk fp_hdX5_worthTo_25.1.1.1.1.2
theorem dX5_worthTo_27 : decode cX5_worthTo 27 = .ok (.iload_n 2, 1) := fp_dk fp_hdX5_worthTo_25.1.1.1.2.1
theorem dX5_worthTo_28 : decode cX5_worthTo 28 = .ok (.iload 4, 2) := fp_dk fp_hdX5_worthTo_25.1.1.1.2.2
theorem dX5_worthTo_30 : decode cX5_worthTo 30 = .ok (.invokevirtual 42, 3) := fp_dk fp_hdX5_worthTo_25.1.1.2.1.1
theorem dX5_worthTo_33 : decode cX5_worthTo 33 = .ok (.iadd, 1) := fp_dk fp_hdX5_worthTo_25.1.1.2.1.2
theorem dX5_worthTo_34 : decode cX5_worthTo 34 = .ok (.istore_n 3, 1) := fp_dk fp_hdX5_worthTo_25.1.1.2.2.1
theorem dX5_worthTo_35 : decode cX5_worthTo 35 = .ok (.iinc 4 1, 3) := fp_dk fp_hdX5_worthTo_25.1.1.2.2.2
theorem dX5_worthTo_38 : decode cX5_worthTo 38 = .ok (.goto (-33), 3) := fp_dk fp_hdX5_worthTo_25.1.2.1.1.1
theorem dX5_worthTo_41 : decode cX5_worthTo 41 = .ok (.iload_n 3, 1) := fp_dk fp_hdX5_worthTo_25.1.2.1.1.2
theorem dX5_worthTo_42 : decode cX5_worthTo 42 = .ok (.ireturn, 1) := fp_dk fp_hdX5_worthTo_25.1.2.1.2.1
theorem dX5_spotOf_0 : decode cX5_spotOf 0 = .ok (.aload_n 0, 1) := fp_dk fp_hdX5_worthTo_25.1.2.1.2.2
theorem dX5_spotOf_1 : decode cX5_spotOf 1 = .ok (.getfield 9, 3) := fp_dk fp_hdX5_worthTo_25.1.2.2.1.1
theorem dX5_spotOf_4 : decode cX5_spotOf 4 = .ok (.iload_n 1, 1) := fp_dk fp_hdX5_worthTo_25.1.2.2.1.2
theorem dX5_spotOf_5 : decode cX5_spotOf 5 = .ok (.iaload, 1) := fp_dk fp_hdX5_worthTo_25.1.2.2.2.1
theorem dX5_spotOf_6 : decode cX5_spotOf 6 = .ok (.bipush 10, 2) := fp_dk fp_hdX5_worthTo_25.1.2.2.2.2
theorem dX5_spotOf_8 : decode cX5_spotOf 8 = .ok (.isub, 1) := fp_dk fp_hdX5_worthTo_25.2.1.1.1.1
theorem dX5_spotOf_9 : decode cX5_spotOf 9 = .ok (.istore_n 2, 1) := fp_dk fp_hdX5_worthTo_25.2.1.1.1.2
theorem dX5_spotOf_10 : decode cX5_spotOf 10 = .ok (.iload_n 2, 1) := fp_dk fp_hdX5_worthTo_25.2.1.1.2.1
theorem dX5_spotOf_11 : decode cX5_spotOf 11 = .ok (.ifCond .lt 8, 3) := fp_dk fp_hdX5_worthTo_25.2.1.1.2.2
theorem dX5_spotOf_14 : decode cX5_spotOf 14 = .ok (.iload_n 2, 1) := fp_dk fp_hdX5_worthTo_25.2.1.2.1.1
theorem dX5_spotOf_15 : decode cX5_spotOf 15 = .ok (.iconst 3, 1) := fp_dk fp_hdX5_worthTo_25.2.1.2.1.2
theorem dX5_spotOf_16 : decode cX5_spotOf 16 = .ok (.if_icmp .lt 6, 3) := fp_dk fp_hdX5_worthTo_25.2.1.2.2.1
theorem dX5_spotOf_19 : decode cX5_spotOf 19 = .ok (.bipush (-4), 2) := fp_dk fp_hdX5_worthTo_25.2.1.2.2.2
theorem dX5_spotOf_21 : decode cX5_spotOf 21 = .ok (.ireturn, 1) := fp_dk fp_hdX5_worthTo_25.2.2.1.1.1
theorem dX5_spotOf_22 : decode cX5_spotOf 22 = .ok (.iconst 0, 1) := fp_dk fp_hdX5_worthTo_25.2.2.1.1.2
theorem dX5_spotOf_23 : decode cX5_spotOf 23 = .ok (.istore_n 3, 1) := fp_dk fp_hdX5_worthTo_25.2.2.1.2.1
theorem dX5_spotOf_24 : decode cX5_spotOf 24 = .ok (.iload_n 3, 1) := fp_dk fp_hdX5_worthTo_25.2.2.1.2.2
theorem dX5_spotOf_25 : decode cX5_spotOf 25 = .ok (.aload_n 0, 1) := fp_dk fp_hdX5_worthTo_25.2.2.2.1.1
theorem dX5_spotOf_26 : decode cX5_spotOf 26 = .ok (.getfield 18, 3) := fp_dk fp_hdX5_worthTo_25.2.2.2.1.2
theorem dX5_spotOf_29 : decode cX5_spotOf 29 = .ok (.iload_n 2, 1) := fp_dk fp_hdX5_worthTo_25.2.2.2.2.1
theorem dX5_spotOf_30 : decode cX5_spotOf 30 = .ok (.iaload, 1) := fp_dk fp_hdX5_worthTo_25.2.2.2.2.2
theorem fp_hdX5_spotOf_31 : (((((fp_dq cX5_spotOf 31 (.if_icmp .ge 26, 3) = true ∧ fp_dq cX5_spotOf 34 (.aload_n 0, 1) = true) ∧ (fp_dq cX5_spotOf 35 (.getfield 21, 3) = true ∧ fp_dq cX5_spotOf 38 (.iload_n 2, 1) = true)) ∧ ((fp_dq cX5_spotOf 39 (.bipush 8, 2) = true ∧ fp_dq cX5_spotOf 41 (.imul, 1) = true) ∧ (fp_dq cX5_spotOf 42 (.iload_n 3, 1) = true ∧ fp_dq cX5_spotOf 43 (.iadd, 1) = true))) ∧ (((fp_dq cX5_spotOf 44 (.iaload, 1) = true ∧ fp_dq cX5_spotOf 45 (.iload_n 1, 1) = true) ∧ (fp_dq cX5_spotOf 46 (.if_icmp .ne 5, 3) = true ∧ fp_dq cX5_spotOf 49 (.iload_n 3, 1) = true)) ∧ ((fp_dq cX5_spotOf 50 (.ireturn, 1) = true ∧ fp_dq cX5_spotOf 51 (.iinc 3 1, 3) = true) ∧ (fp_dq cX5_spotOf 54 (.goto (-30), 3) = true ∧ fp_dq cX5_spotOf 57 (.bipush (-4), 2) = true)))) ∧ ((((fp_dq cX5_spotOf 59 (.ireturn, 1) = true ∧ fp_dq cX5_gives 0 (.aload_n 0, 1) = true) ∧ (fp_dq cX5_gives 1 (.getfield 18, 3) = true ∧ fp_dq cX5_gives 4 (.iload_n 2, 1) = true)) ∧ ((fp_dq cX5_gives 5 (.iaload, 1) = true ∧ fp_dq cX5_gives 6 (.ifCond .ne 6, 3) = true) ∧ (fp_dq cX5_gives 9 (.bipush (-4), 2) = true ∧ fp_dq cX5_gives 11 (.ireturn, 1) = true))) ∧ (((fp_dq cX5_gives 12 (.aload_n 0, 1) = true ∧ fp_dq cX5_gives 13 (.getfield 21, 3) = true) ∧ (fp_dq cX5_gives 16 (.iload_n 2, 1) = true ∧ fp_dq cX5_gives 17 (.bipush 8, 2) = true)) ∧ ((fp_dq cX5_gives 19 (.imul, 1) = true ∧ fp_dq cX5_gives 20 (.aload_n 1, 1) = true) ∧ (fp_dq cX5_gives 21 (.aload_n 1, 1) = true ∧ fp_dq cX5_gives 22 (.getfield 46, 3) = true))))) := by decide +kernel
theorem dX5_spotOf_31 : decode cX5_spotOf 31 = .ok (.if_icmp .ge 26, 3) := fp_dk fp_hdX5_spotOf_31.1.1.1.1.1
theorem dX5_spotOf_34 : decode cX5_spotOf 34 = .ok (.aload_n 0, 1) := fp_dk fp_hdX5_spotOf_31.1.1.1.1.2
theorem dX5_spotOf_35 : decode cX5_spotOf 35 = .ok (.getfield 21, 3) := fp_dk fp_hdX5_spotOf_31.1.1.1.2.1
theorem dX5_spotOf_38 : decode cX5_spotOf 38 = .ok (.iload_n 2, 1) := fp_dk fp_hdX5_spotOf_31.1.1.1.2.2
theorem dX5_spotOf_39 : decode cX5_spotOf 39 = .ok (.bipush 8, 2) := fp_dk fp_hdX5_spotOf_31.1.1.2.1.1
theorem dX5_spotOf_41 : decode cX5_spotOf 41 = .ok (.imul, 1) := fp_dk fp_hdX5_spotOf_31.1.1.2.1.2
theorem dX5_spotOf_42 : decode cX5_spotOf 42 = .ok (.iload_n 3, 1) := fp_dk fp_hdX5_spotOf_31.1.1.2.2.1
theorem dX5_spotOf_43 : decode cX5_spotOf 43 = .ok (.iadd, 1) := fp_dk fp_hdX5_spotOf_31.1.1.2.2.2
theorem dX5_spotOf_44 : decode cX5_spotOf 44 = .ok (.iaload, 1) := fp_dk fp_hdX5_spotOf_31.1.2.1.1.1
theorem dX5_spotOf_45 : decode cX5_spotOf 45 = .ok (.iload_n 1, 1) := fp_dk fp_hdX5_spotOf_31.1.2.1.1.2
theorem dX5_spotOf_46 : decode cX5_spotOf 46 = .ok (.if_icmp .ne 5, 3) := fp_dk fp_hdX5_spotOf_31.1.2.1.2.1
theorem dX5_spotOf_49 : decode cX5_spotOf 49 = .ok (.iload_n 3, 1) := fp_dk fp_hdX5_spotOf_31.1.2.1.2.2
theorem dX5_spotOf_50 : decode cX5_spotOf 50 = .ok (.ireturn, 1) := fp_dk fp_hdX5_spotOf_31.1.2.2.1.1
theorem dX5_spotOf_51 : decode cX5_spotOf 51 = .ok (.iinc 3 1, 3) := fp_dk fp_hdX5_spotOf_31.1.2.2.1.2
theorem dX5_spotOf_54 : decode cX5_spotOf 54 = .ok (.goto (-30), 3) := fp_dk fp_hdX5_spotOf_31.1.2.2.2.1
theorem dX5_spotOf_57 : decode cX5_spotOf 57 = .ok (.bipush (-4), 2) := fp_dk fp_hdX5_spotOf_31.1.2.2.2.2
theorem dX5_spotOf_59 : decode cX5_spotOf 59 = .ok (.ireturn, 1) := fp_dk fp_hdX5_spotOf_31.2.1.1.1.1
theorem dX5_gives_0 : decode cX5_gives 0 = .ok (.aload_n 0, 1) := fp_dk fp_hdX5_spotOf_31.2.1.1.1.2
theorem dX5_gives_1 : decode cX5_gives 1 = .ok (.getfield 18, 3) := fp_dk fp_hdX5_spotOf_31.2.1.1.2.1
theorem dX5_gives_4 : decode cX5_gives 4 = .ok (.iload_n 2, 1) := fp_dk fp_hdX5_spotOf_31.2.1.1.2.2
theorem dX5_gives_5 : decode cX5_gives 5 = .ok (.iaload, 1) := fp_dk fp_hdX5_spotOf_31.2.1.2.1.1
theorem dX5_gives_6 : decode cX5_gives 6 = .ok (.ifCond .ne 6, 3) := fp_dk fp_hdX5_spotOf_31.2.1.2.1.2
theorem dX5_gives_9 : decode cX5_gives 9 = .ok (.bipush (-4), 2) := fp_dk fp_hdX5_spotOf_31.2.1.2.2.1
theorem dX5_gives_11 : decode cX5_gives 11 = .ok (.ireturn, 1) := fp_dk fp_hdX5_spotOf_31.2.1.2.2.2
theorem dX5_gives_12 : decode cX5_gives 12 = .ok (.aload_n 0, 1) := fp_dk fp_hdX5_spotOf_31.2.2.1.1.1
theorem dX5_gives_13 : decode cX5_gives 13 = .ok (.getfield 21, 3) := fp_dk fp_hdX5_spotOf_31.2.2.1.1.2
theorem dX5_gives_16 : decode cX5_gives 16 = .ok (.iload_n 2, 1) := fp_dk fp_hdX5_spotOf_31.2.2.1.2.1
theorem dX5_gives_17 : decode cX5_gives 17 = .ok (.bipush 8, 2) := fp_dk fp_hdX5_spotOf_31.2.2.1.2.2
theorem dX5_gives_19 : decode cX5_gives 19 = .ok (.imul, 1) := fp_dk fp_hdX5_spotOf_31.2.2.2.1.1
theorem dX5_gives_20 : decode cX5_gives 20 = .ok (.aload_n 1, 1) := fp_dk fp_hdX5_spotOf_31.2.2.2.1.2
theorem dX5_gives_21 : decode cX5_gives 21 = .ok (.aload_n 1, 1) := fp_dk fp_hdX5_spotOf_31.2.2.2.2.1
theorem dX5_gives_22 : decode cX5_gives 22 = .ok (.getfield 46, 3) := fp_dk fp_hdX5_spotOf_31.2.2.2.2.2
theorem fp_hdX5_gives_25 : (((((fp_dq cX5_gives 25 (.iload_n 2, 1) = true ∧ fp_dq cX5_gives 26 (.iaload, 1) = true) ∧ (fp_dq cX5_gives 27 (.aload_n 0, 1) = true ∧ fp_dq cX5_gives 28 (.getfield 21, 3) = true)) ∧ ((fp_dq cX5_gives 31 (.iload_n 2, 1) = true ∧ fp_dq cX5_gives 32 (.bipush 8, 2) = true) ∧ (fp_dq cX5_gives 34 (.imul, 1) = true ∧ fp_dq cX5_gives 35 (.aload_n 0, 1) = true))) ∧ (((fp_dq cX5_gives 36 (.getfield 18, 3) = true ∧ fp_dq cX5_gives 39 (.iload_n 2, 1) = true) ∧ (fp_dq cX5_gives 40 (.iaload, 1) = true ∧ fp_dq cX5_gives 41 (.invokestatic 49, 3) = true)) ∧ ((fp_dq cX5_gives 44 (.iadd, 1) = true ∧ fp_dq cX5_gives 45 (.iaload, 1) = true) ∧ (fp_dq cX5_gives 46 (.ireturn, 1) = true ∧ fp_dq cX5_giveTo 0 (.aload_n 0, 1) = true)))) ∧ ((((fp_dq cX5_giveTo 1 (.getfield 18, 3) = true ∧ fp_dq cX5_giveTo 4 (.iload_n 3, 1) = true) ∧ (fp_dq cX5_giveTo 5 (.iaload, 1) = true ∧ fp_dq cX5_giveTo 6 (.ifCond .ne 6, 3) = true)) ∧ ((fp_dq cX5_giveTo 9 (.bipush (-4), 2) = true ∧ fp_dq cX5_giveTo 11 (.ireturn, 1) = true) ∧ (fp_dq cX5_giveTo 12 (.iload_n 3, 1) = true ∧ fp_dq cX5_giveTo 13 (.bipush 8, 2) = true))) ∧ (((fp_dq cX5_giveTo 15 (.imul, 1) = true ∧ fp_dq cX5_giveTo 16 (.istore 4, 2) = true) ∧ (fp_dq cX5_giveTo 18 (.aload_n 1, 1) = true ∧ fp_dq cX5_giveTo 19 (.aload_n 1, 1) = true)) ∧ ((fp_dq cX5_giveTo 20 (.getfield 46, 3) = true ∧ fp_dq cX5_giveTo 23 (.iload_n 3, 1) = true) ∧ (fp_dq cX5_giveTo 24 (.iaload, 1) = true ∧ fp_dq cX5_giveTo 25 (.aload_n 0, 1) = true))))) := by decide +kernel
theorem dX5_gives_25 : decode cX5_gives 25 = .ok (.iload_n 2, 1) := fp_dk fp_hdX5_gives_25.1.1.1.1.1
theorem dX5_gives_26 : decode cX5_gives 26 = .ok (.iaload, 1) := fp_dk fp_hdX5_gives_25.1.1.1.1.2
theorem dX5_gives_27 : decode cX5_gives 27 = .ok (.aload_n 0, 1) := fp_dk fp_hdX5_gives_25.1.1.1.2.1
theorem dX5_gives_28 : decode cX5_gives 28 = .ok (.getfield 21, 3) := fp_dk fp_hdX5_gives_25.1.1.1.2.2
theorem dX5_gives_31 : decode cX5_gives 31 = .ok (.iload_n 2, 1) := fp_dk fp_hdX5_gives_25.1.1.2.1.1
theorem dX5_gives_32 : decode cX5_gives 32 = .ok (.bipush 8, 2) := fp_dk fp_hdX5_gives_25.1.1.2.1.2
theorem dX5_gives_34 : decode cX5_gives 34 = .ok (.imul, 1) := fp_dk fp_hdX5_gives_25.1.1.2.2.1
theorem dX5_gives_35 : decode cX5_gives 35 = .ok (.aload_n 0, 1) := fp_dk fp_hdX5_gives_25.1.1.2.2.2
theorem dX5_gives_36 : decode cX5_gives 36 = .ok (.getfield 18, 3) := fp_dk fp_hdX5_gives_25.1.2.1.1.1
theorem dX5_gives_39 : decode cX5_gives 39 = .ok (.iload_n 2, 1) := fp_dk fp_hdX5_gives_25.1.2.1.1.2
theorem dX5_gives_40 : decode cX5_gives 40 = .ok (.iaload, 1) := fp_dk fp_hdX5_gives_25.1.2.1.2.1
theorem dX5_gives_41 : decode cX5_gives 41 = .ok (.invokestatic 49, 3) := fp_dk fp_hdX5_gives_25.1.2.1.2.2
theorem dX5_gives_44 : decode cX5_gives 44 = .ok (.iadd, 1) := fp_dk fp_hdX5_gives_25.1.2.2.1.1
theorem dX5_gives_45 : decode cX5_gives 45 = .ok (.iaload, 1) := fp_dk fp_hdX5_gives_25.1.2.2.1.2
theorem dX5_gives_46 : decode cX5_gives 46 = .ok (.ireturn, 1) := fp_dk fp_hdX5_gives_25.1.2.2.2.1
theorem dX5_giveTo_0 : decode cX5_giveTo 0 = .ok (.aload_n 0, 1) := fp_dk fp_hdX5_gives_25.1.2.2.2.2
theorem dX5_giveTo_1 : decode cX5_giveTo 1 = .ok (.getfield 18, 3) := fp_dk fp_hdX5_gives_25.2.1.1.1.1
theorem dX5_giveTo_4 : decode cX5_giveTo 4 = .ok (.iload_n 3, 1) := fp_dk fp_hdX5_gives_25.2.1.1.1.2
theorem dX5_giveTo_5 : decode cX5_giveTo 5 = .ok (.iaload, 1) := fp_dk fp_hdX5_gives_25.2.1.1.2.1
theorem dX5_giveTo_6 : decode cX5_giveTo 6 = .ok (.ifCond .ne 6, 3) := fp_dk fp_hdX5_gives_25.2.1.1.2.2
theorem dX5_giveTo_9 : decode cX5_giveTo 9 = .ok (.bipush (-4), 2) := fp_dk fp_hdX5_gives_25.2.1.2.1.1
theorem dX5_giveTo_11 : decode cX5_giveTo 11 = .ok (.ireturn, 1) := fp_dk fp_hdX5_gives_25.2.1.2.1.2
theorem dX5_giveTo_12 : decode cX5_giveTo 12 = .ok (.iload_n 3, 1) := fp_dk fp_hdX5_gives_25.2.1.2.2.1
theorem dX5_giveTo_13 : decode cX5_giveTo 13 = .ok (.bipush 8, 2) := fp_dk fp_hdX5_gives_25.2.1.2.2.2
theorem dX5_giveTo_15 : decode cX5_giveTo 15 = .ok (.imul, 1) := fp_dk fp_hdX5_gives_25.2.2.1.1.1
theorem dX5_giveTo_16 : decode cX5_giveTo 16 = .ok (.istore 4, 2) := fp_dk fp_hdX5_gives_25.2.2.1.1.2
theorem dX5_giveTo_18 : decode cX5_giveTo 18 = .ok (.aload_n 1, 1) := fp_dk fp_hdX5_gives_25.2.2.1.2.1
theorem dX5_giveTo_19 : decode cX5_giveTo 19 = .ok (.aload_n 1, 1) := fp_dk fp_hdX5_gives_25.2.2.1.2.2
theorem dX5_giveTo_20 : decode cX5_giveTo 20 = .ok (.getfield 46, 3) := fp_dk fp_hdX5_gives_25.2.2.2.1.1
theorem dX5_giveTo_23 : decode cX5_giveTo 23 = .ok (.iload_n 3, 1) := fp_dk fp_hdX5_gives_25.2.2.2.1.2
theorem dX5_giveTo_24 : decode cX5_giveTo 24 = .ok (.iaload, 1) := fp_dk fp_hdX5_gives_25.2.2.2.2.1
theorem dX5_giveTo_25 : decode cX5_giveTo 25 = .ok (.aload_n 0, 1) := fp_dk fp_hdX5_gives_25.2.2.2.2.2
theorem fp_hdX5_giveTo_26 : (((((fp_dq cX5_giveTo 26 (.getfield 21, 3) = true ∧ fp_dq cX5_giveTo 29 (.iload 4, 2) = true) ∧ (fp_dq cX5_giveTo 31 (.aload_n 0, 1) = true ∧ fp_dq cX5_giveTo 32 (.getfield 18, 3) = true)) ∧ ((fp_dq cX5_giveTo 35 (.iload_n 3, 1) = true ∧ fp_dq cX5_giveTo 36 (.iaload, 1) = true) ∧ (fp_dq cX5_giveTo 37 (.invokestatic 49, 3) = true ∧ fp_dq cX5_giveTo 40 (.istore 5, 2) = true))) ∧ (((fp_dq cX5_giveTo 42 (.aload_n 0, 1) = true ∧ fp_dq cX5_giveTo 43 (.getfield 21, 3) = true) ∧ (fp_dq cX5_giveTo 46 (.iload 4, 2) = true ∧ fp_dq cX5_giveTo 48 (.iload 5, 2) = true)) ∧ ((fp_dq cX5_giveTo 50 (.iadd, 1) = true ∧ fp_dq cX5_giveTo 51 (.iaload, 1) = true) ∧ (fp_dq cX5_giveTo 52 (.istore 6, 2) = true ∧ fp_dq cX5_giveTo 54 (.aload_n 0, 1) = true)))) ∧ ((((fp_dq cX5_giveTo 55 (.getfield 18, 3) = true ∧ fp_dq cX5_giveTo 58 (.iload_n 3, 1) = true) ∧ (fp_dq cX5_giveTo 59 (.dup2, 1) = true ∧ fp_dq cX5_giveTo 60 (.iaload, 1) = true)) ∧ ((fp_dq cX5_giveTo 61 (.iconst 1, 1) = true ∧ fp_dq cX5_giveTo 62 (.isub, 1) = true) ∧ (fp_dq cX5_giveTo 63 (.iastore, 1) = true ∧ fp_dq cX5_giveTo 64 (.iload 5, 2) = true))) ∧ (((fp_dq cX5_giveTo 66 (.istore 7, 2) = true ∧ fp_dq cX5_giveTo 68 (.iload 7, 2) = true) ∧ (fp_dq cX5_giveTo 70 (.aload_n 0, 1) = true ∧ fp_dq cX5_giveTo 71 (.getfield 18, 3) = true)) ∧ ((fp_dq cX5_giveTo 74 (.iload_n 3, 1) = true ∧ fp_dq cX5_giveTo 75 (.iaload, 1) = true) ∧ (fp_dq cX5_giveTo 76 (.if_icmp .ge 31, 3) = true ∧ fp_dq cX5_giveTo 79 (.aload_n 0, 1) = true))))) := by decide +kernel
theorem dX5_giveTo_26 : decode cX5_giveTo 26 = .ok (.getfield 21, 3) := fp_dk fp_hdX5_giveTo_26.1.1.1.1.1
theorem dX5_giveTo_29 : decode cX5_giveTo 29 = .ok (.iload 4, 2) := fp_dk fp_hdX5_giveTo_26.1.1.1.1.2
theorem dX5_giveTo_31 : decode cX5_giveTo 31 = .ok (.aload_n 0, 1) := fp_dk fp_hdX5_giveTo_26.1.1.1.2.1
theorem dX5_giveTo_32 : decode cX5_giveTo 32 = .ok (.getfield 18, 3) := fp_dk fp_hdX5_giveTo_26.1.1.1.2.2
theorem dX5_giveTo_35 : decode cX5_giveTo 35 = .ok (.iload_n 3, 1) := fp_dk fp_hdX5_giveTo_26.1.1.2.1.1
theorem dX5_giveTo_36 : decode cX5_giveTo 36 = .ok (.iaload, 1) := fp_dk fp_hdX5_giveTo_26.1.1.2.1.2
theorem dX5_giveTo_37 : decode cX5_giveTo 37 = .ok (.invokestatic 49, 3) := fp_dk fp_hdX5_giveTo_26.1.1.2.2.1
theorem dX5_giveTo_40 : decode cX5_giveTo 40 = .ok (.istore 5, 2) := fp_dk fp_hdX5_giveTo_26.1.1.2.2.2
theorem dX5_giveTo_42 : decode cX5_giveTo 42 = .ok (.aload_n 0, 1) := fp_dk fp_hdX5_giveTo_26.1.2.1.1.1
theorem dX5_giveTo_43 : decode cX5_giveTo 43 = .ok (.getfield 21, 3) := fp_dk fp_hdX5_giveTo_26.1.2.1.1.2
theorem dX5_giveTo_46 : decode cX5_giveTo 46 = .ok (.iload 4, 2) := fp_dk fp_hdX5_giveTo_26.1.2.1.2.1
theorem dX5_giveTo_48 : decode cX5_giveTo 48 = .ok (.iload 5, 2) := fp_dk fp_hdX5_giveTo_26.1.2.1.2.2
theorem dX5_giveTo_50 : decode cX5_giveTo 50 = .ok (.iadd, 1) := fp_dk fp_hdX5_giveTo_26.1.2.2.1.1
theorem dX5_giveTo_51 : decode cX5_giveTo 51 = .ok (.iaload, 1) := fp_dk fp_hdX5_giveTo_26.1.2.2.1.2
theorem dX5_giveTo_52 : decode cX5_giveTo 52 = .ok (.istore 6, 2) := fp_dk fp_hdX5_giveTo_26.1.2.2.2.1
theorem dX5_giveTo_54 : decode cX5_giveTo 54 = .ok (.aload_n 0, 1) := fp_dk fp_hdX5_giveTo_26.1.2.2.2.2
theorem dX5_giveTo_55 : decode cX5_giveTo 55 = .ok (.getfield 18, 3) := fp_dk fp_hdX5_giveTo_26.2.1.1.1.1
theorem dX5_giveTo_58 : decode cX5_giveTo 58 = .ok (.iload_n 3, 1) := fp_dk fp_hdX5_giveTo_26.2.1.1.1.2
theorem dX5_giveTo_59 : decode cX5_giveTo 59 = .ok (.dup2, 1) := fp_dk fp_hdX5_giveTo_26.2.1.1.2.1
theorem dX5_giveTo_60 : decode cX5_giveTo 60 = .ok (.iaload, 1) := fp_dk fp_hdX5_giveTo_26.2.1.1.2.2
theorem dX5_giveTo_61 : decode cX5_giveTo 61 = .ok (.iconst 1, 1) := fp_dk fp_hdX5_giveTo_26.2.1.2.1.1
theorem dX5_giveTo_62 : decode cX5_giveTo 62 = .ok (.isub, 1) := fp_dk fp_hdX5_giveTo_26.2.1.2.1.2
theorem dX5_giveTo_63 : decode cX5_giveTo 63 = .ok (.iastore, 1) := fp_dk fp_hdX5_giveTo_26.2.1.2.2.1
theorem dX5_giveTo_64 : decode cX5_giveTo 64 = .ok (.iload 5, 2) := fp_dk fp_hdX5_giveTo_26.2.1.2.2.2
theorem dX5_giveTo_66 : decode cX5_giveTo 66 = .ok (.istore 7, 2) := fp_dk fp_hdX5_giveTo_26.2.2.1.1.1
theorem dX5_giveTo_68 : decode cX5_giveTo 68 = .ok (.iload 7, 2) := fp_dk fp_hdX5_giveTo_26.2.2.1.1.2
theorem dX5_giveTo_70 : decode cX5_giveTo 70 = .ok (.aload_n 0, 1) := fp_dk fp_hdX5_giveTo_26.2.2.1.2.1
theorem dX5_giveTo_71 : decode cX5_giveTo 71 = .ok (.getfield 18, 3) := fp_dk fp_hdX5_giveTo_26.2.2.1.2.2
theorem dX5_giveTo_74 : decode cX5_giveTo 74 = .ok (.iload_n 3, 1) := fp_dk fp_hdX5_giveTo_26.2.2.2.1.1
theorem dX5_giveTo_75 : decode cX5_giveTo 75 = .ok (.iaload, 1) := fp_dk fp_hdX5_giveTo_26.2.2.2.1.2
theorem dX5_giveTo_76 : decode cX5_giveTo 76 = .ok (.if_icmp .ge 31, 3) := fp_dk fp_hdX5_giveTo_26.2.2.2.2.1
theorem dX5_giveTo_79 : decode cX5_giveTo 79 = .ok (.aload_n 0, 1) := fp_dk fp_hdX5_giveTo_26.2.2.2.2.2
theorem fp_hdX5_giveTo_80 : (((((fp_dq cX5_giveTo 80 (.getfield 21, 3) = true ∧ fp_dq cX5_giveTo 83 (.iload 4, 2) = true) ∧ (fp_dq cX5_giveTo 85 (.iload 7, 2) = true ∧ fp_dq cX5_giveTo 87 (.iadd, 1) = true)) ∧ ((fp_dq cX5_giveTo 88 (.aload_n 0, 1) = true ∧ fp_dq cX5_giveTo 89 (.getfield 21, 3) = true) ∧ (fp_dq cX5_giveTo 92 (.iload 4, 2) = true ∧ fp_dq cX5_giveTo 94 (.iload 7, 2) = true))) ∧ (((fp_dq cX5_giveTo 96 (.iadd, 1) = true ∧ fp_dq cX5_giveTo 97 (.iconst 1, 1) = true) ∧ (fp_dq cX5_giveTo 98 (.iadd, 1) = true ∧ fp_dq cX5_giveTo 99 (.iaload, 1) = true)) ∧ ((fp_dq cX5_giveTo 100 (.iastore, 1) = true ∧ fp_dq cX5_giveTo 101 (.iinc 7 1, 3) = true) ∧ (fp_dq cX5_giveTo 104 (.goto (-36), 3) = true ∧ fp_dq cX5_giveTo 107 (.aload_n 0, 1) = true)))) ∧ ((((fp_dq cX5_giveTo 108 (.getfield 9, 3) = true ∧ fp_dq cX5_giveTo 111 (.iload 6, 2) = true) ∧ (fp_dq cX5_giveTo 113 (.iload_n 2, 1) = true ∧ fp_dq cX5_giveTo 114 (.iastore, 1) = true)) ∧ ((fp_dq cX5_giveTo 115 (.aload_n 0, 1) = true ∧ fp_dq cX5_giveTo 116 (.getfield 15, 3) = true) ∧ (fp_dq cX5_giveTo 119 (.iload 6, 2) = true ∧ fp_dq cX5_giveTo 121 (.bipush (-4), 2) = true))) ∧ (((fp_dq cX5_giveTo 123 (.iastore, 1) = true ∧ fp_dq cX5_giveTo 124 (.iload 6, 2) = true) ∧ (fp_dq cX5_giveTo 126 (.ireturn, 1) = true ∧ fp_dq cX5_append 0 (.aload_n 0, 1) = true)) ∧ ((fp_dq cX5_append 1 (.getfield 9, 3) = true ∧ fp_dq cX5_append 4 (.iload_n 2, 1) = true) ∧ (fp_dq cX5_append 5 (.iaload, 1) = true ∧ fp_dq cX5_append 6 (.iload_n 1, 1) = true))))) := by decide +kernel
theorem dX5_giveTo_80 : decode cX5_giveTo 80 = .ok (.getfield 21, 3) := fp_dk fp_hdX5_giveTo_80.1.1.1.1.1
theorem dX5_giveTo_83 : decode cX5_giveTo 83 = .ok (.iload 4, 2) := fp_dk fp_hdX5_giveTo_80.1.1.1.1.2
theorem dX5_giveTo_85 : decode cX5_giveTo 85 = .ok (.iload 7, 2) := fp_dk fp_hdX5_giveTo_80.1.1.1.2.1
theorem dX5_giveTo_87 : decode cX5_giveTo 87 = .ok (.iadd, 1) := fp_dk fp_hdX5_giveTo_80.1.1.1.2.2
theorem dX5_giveTo_88 : decode cX5_giveTo 88 = .ok (.aload_n 0, 1) := fp_dk fp_hdX5_giveTo_80.1.1.2.1.1
theorem dX5_giveTo_89 : decode cX5_giveTo 89 = .ok (.getfield 21, 3) := fp_dk fp_hdX5_giveTo_80.1.1.2.1.2
theorem dX5_giveTo_92 : decode cX5_giveTo 92 = .ok (.iload 4, 2) := fp_dk fp_hdX5_giveTo_80.1.1.2.2.1
theorem dX5_giveTo_94 : decode cX5_giveTo 94 = .ok (.iload 7, 2) := fp_dk fp_hdX5_giveTo_80.1.1.2.2.2
theorem dX5_giveTo_96 : decode cX5_giveTo 96 = .ok (.iadd, 1) := fp_dk fp_hdX5_giveTo_80.1.2.1.1.1
theorem dX5_giveTo_97 : decode cX5_giveTo 97 = .ok (.iconst 1, 1) := fp_dk fp_hdX5_giveTo_80.1.2.1.1.2
theorem dX5_giveTo_98 : decode cX5_giveTo 98 = .ok (.iadd, 1) := fp_dk fp_hdX5_giveTo_80.1.2.1.2.1
theorem dX5_giveTo_99 : decode cX5_giveTo 99 = .ok (.iaload, 1) := fp_dk fp_hdX5_giveTo_80.1.2.1.2.2
theorem dX5_giveTo_100 : decode cX5_giveTo 100 = .ok (.iastore, 1) := fp_dk fp_hdX5_giveTo_80.1.2.2.1.1
theorem dX5_giveTo_101 : decode cX5_giveTo 101 = .ok (.iinc 7 1, 3) := fp_dk fp_hdX5_giveTo_80.1.2.2.1.2
theorem dX5_giveTo_104 : decode cX5_giveTo 104 = .ok (.goto (-36), 3) := fp_dk fp_hdX5_giveTo_80.1.2.2.2.1
theorem dX5_giveTo_107 : decode cX5_giveTo 107 = .ok (.aload_n 0, 1) := fp_dk fp_hdX5_giveTo_80.1.2.2.2.2
theorem dX5_giveTo_108 : decode cX5_giveTo 108 = .ok (.getfield 9, 3) := fp_dk fp_hdX5_giveTo_80.2.1.1.1.1
theorem dX5_giveTo_111 : decode cX5_giveTo 111 = .ok (.iload 6, 2) := fp_dk fp_hdX5_giveTo_80.2.1.1.1.2
theorem dX5_giveTo_113 : decode cX5_giveTo 113 = .ok (.iload_n 2, 1) := fp_dk fp_hdX5_giveTo_80.2.1.1.2.1
theorem dX5_giveTo_114 : decode cX5_giveTo 114 = .ok (.iastore, 1) := fp_dk fp_hdX5_giveTo_80.2.1.1.2.2
theorem dX5_giveTo_115 : decode cX5_giveTo 115 = .ok (.aload_n 0, 1) := fp_dk fp_hdX5_giveTo_80.2.1.2.1.1
theorem dX5_giveTo_116 : decode cX5_giveTo 116 = .ok (.getfield 15, 3) := fp_dk fp_hdX5_giveTo_80.2.1.2.1.2
theorem dX5_giveTo_119 : decode cX5_giveTo 119 = .ok (.iload 6, 2) := fp_dk fp_hdX5_giveTo_80.2.1.2.2.1
theorem dX5_giveTo_121 : decode cX5_giveTo 121 = .ok (.bipush (-4), 2) := fp_dk fp_hdX5_giveTo_80.2.1.2.2.2
theorem dX5_giveTo_123 : decode cX5_giveTo 123 = .ok (.iastore, 1) := fp_dk fp_hdX5_giveTo_80.2.2.1.1.1
theorem dX5_giveTo_124 : decode cX5_giveTo 124 = .ok (.iload 6, 2) := fp_dk fp_hdX5_giveTo_80.2.2.1.1.2
theorem dX5_giveTo_126 : decode cX5_giveTo 126 = .ok (.ireturn, 1) := fp_dk fp_hdX5_giveTo_80.2.2.1.2.1
theorem dX5_append_0 : decode cX5_append 0 = .ok (.aload_n 0, 1) := fp_dk fp_hdX5_giveTo_80.2.2.1.2.2
theorem dX5_append_1 : decode cX5_append 1 = .ok (.getfield 9, 3) := fp_dk fp_hdX5_giveTo_80.2.2.2.1.1
theorem dX5_append_4 : decode cX5_append 4 = .ok (.iload_n 2, 1) := fp_dk fp_hdX5_giveTo_80.2.2.2.1.2
theorem dX5_append_5 : decode cX5_append 5 = .ok (.iaload, 1) := fp_dk fp_hdX5_giveTo_80.2.2.2.2.1
theorem dX5_append_6 : decode cX5_append 6 = .ok (.iload_n 1, 1) := fp_dk fp_hdX5_giveTo_80.2.2.2.2.2
theorem fp_hdX5_append_7 : (((((fp_dq cX5_append 7 (.if_icmp .ne 22, 3) = true ∧ fp_dq cX5_append 10 (.aload_n 0, 1) = true) ∧ (fp_dq cX5_append 11 (.iload_n 2, 1) = true ∧ fp_dq cX5_append 12 (.iload_n 3, 1) = true)) ∧ ((fp_dq cX5_append 13 (.aload_n 0, 1) = true ∧ fp_dq cX5_append 14 (.getfield 18, 3) = true) ∧ (fp_dq cX5_append 17 (.iload_n 3, 1) = true ∧ fp_dq cX5_append 18 (.iaload, 1) = true))) ∧ (((fp_dq cX5_append 19 (.invokevirtual 53, 3) = true ∧ fp_dq cX5_append 22 (.ifCond .eq 7, 3) = true) ∧ (fp_dq cX5_append 25 (.iconst 1, 1) = true ∧ fp_dq cX5_append 26 (.goto 4, 3) = true)) ∧ ((fp_dq cX5_append 29 (.iconst 0, 1) = true ∧ fp_dq cX5_append 30 (.ireturn, 1) = true) ∧ (fp_dq cX5_insert 0 (.aload_n 0, 1) = true ∧ fp_dq cX5_insert 1 (.getfield 18, 3) = true)))) ∧ ((((fp_dq cX5_insert 4 (.iload_n 2, 1) = true ∧ fp_dq cX5_insert 5 (.iaload, 1) = true) ∧ (fp_dq cX5_insert 6 (.bipush 8, 2) = true ∧ fp_dq cX5_insert 8 (.if_icmp .lt 5, 3) = true)) ∧ ((fp_dq cX5_insert 11 (.iconst 0, 1) = true ∧ fp_dq cX5_insert 12 (.ireturn, 1) = true) ∧ (fp_dq cX5_insert 13 (.iload_n 2, 1) = true ∧ fp_dq cX5_insert 14 (.bipush 8, 2) = true))) ∧ (((fp_dq cX5_insert 16 (.imul, 1) = true ∧ fp_dq cX5_insert 17 (.istore 4, 2) = true) ∧ (fp_dq cX5_insert 19 (.aload_n 0, 1) = true ∧ fp_dq cX5_insert 20 (.getfield 18, 3) = true)) ∧ ((fp_dq cX5_insert 23 (.iload_n 2, 1) = true ∧ fp_dq cX5_insert 24 (.iaload, 1) = true) ∧ (fp_dq cX5_insert 25 (.istore 5, 2) = true ∧ fp_dq cX5_insert 27 (.iload 5, 2) = true))))) := by decide +kernel
theorem dX5_append_7 : decode cX5_append 7 = .ok (.if_icmp .ne 22, 3) := fp_dk fp_hdX5_append_7.1.1.1.1.1
theorem dX5_append_10 : decode cX5_append 10 = .ok (.aload_n 0, 1) := fp_dk fp_hdX5_append_7.1.1.1.1.2
theorem dX5_append_11 : decode cX5_append 11 = .ok (.iload_n 2, 1) := fp_dk fp_hdX5_append_7.1.1.1.2.1
theorem dX5_append_12 : decode cX5_append 12 = .ok (.iload_n 3, 1) := fp_dk fp_hdX5_append_7.1.1.1.2.2
theorem dX5_append_13 : decode cX5_append 13 = .ok (.aload_n 0, 1) := fp_dk fp_hdX5_append_7.1.1.2.1.1
theorem dX5_append_14 : decode cX5_append 14 = .ok (.getfield 18, 3) := fp_dk fp_hdX5_append_7.1.1.2.1.2
theorem dX5_append_17 : decode cX5_append 17 = .ok (.iload_n 3, 1) := fp_dk fp_hdX5_append_7.1.1.2.2.1
theorem dX5_append_18 : decode cX5_append 18 = .ok (.iaload, 1) := fp_dk fp_hdX5_append_7.1.1.2.2.2
theorem dX5_append_19 : decode cX5_append 19 = .ok (.invokevirtual 53, 3) := fp_dk fp_hdX5_append_7.1.2.1.1.1
theorem dX5_append_22 : decode cX5_append 22 = .ok (.ifCond .eq 7, 3) := fp_dk fp_hdX5_append_7.1.2.1.1.2
theorem dX5_append_25 : decode cX5_append 25 = .ok (.iconst 1, 1) := fp_dk fp_hdX5_append_7.1.2.1.2.1
theorem dX5_append_26 : decode cX5_append 26 = .ok (.goto 4, 3) := fp_dk fp_hdX5_append_7.1.2.1.2.2
theorem dX5_append_29 : decode cX5_append 29 = .ok (.iconst 0, 1) := fp_dk fp_hdX5_append_7.1.2.2.1.1
theorem dX5_append_30 : decode cX5_append 30 = .ok (.ireturn, 1) := fp_dk fp_hdX5_append_7.1.2.2.1.2
theorem dX5_insert_0 : decode cX5_insert 0 = .ok (.aload_n 0, 1) := fp_dk fp_hdX5_append_7.1.2.2.2.1
theorem dX5_insert_1 : decode cX5_insert 1 = .ok (.getfield 18, 3) := fp_dk fp_hdX5_append_7.1.2.2.2.2
theorem dX5_insert_4 : decode cX5_insert 4 = .ok (.iload_n 2, 1) := fp_dk fp_hdX5_append_7.2.1.1.1.1
theorem dX5_insert_5 : decode cX5_insert 5 = .ok (.iaload, 1) := fp_dk fp_hdX5_append_7.2.1.1.1.2
theorem dX5_insert_6 : decode cX5_insert 6 = .ok (.bipush 8, 2) := fp_dk fp_hdX5_append_7.2.1.1.2.1
theorem dX5_insert_8 : decode cX5_insert 8 = .ok (.if_icmp .lt 5, 3) := fp_dk fp_hdX5_append_7.2.1.1.2.2
theorem dX5_insert_11 : decode cX5_insert 11 = .ok (.iconst 0, 1) := fp_dk fp_hdX5_append_7.2.1.2.1.1
theorem dX5_insert_12 : decode cX5_insert 12 = .ok (.ireturn, 1) := fp_dk fp_hdX5_append_7.2.1.2.1.2
theorem dX5_insert_13 : decode cX5_insert 13 = .ok (.iload_n 2, 1) := fp_dk fp_hdX5_append_7.2.1.2.2.1
theorem dX5_insert_14 : decode cX5_insert 14 = .ok (.bipush 8, 2) := fp_dk fp_hdX5_append_7.2.1.2.2.2
theorem dX5_insert_16 : decode cX5_insert 16 = .ok (.imul, 1) := fp_dk fp_hdX5_append_7.2.2.1.1.1
theorem dX5_insert_17 : decode cX5_insert 17 = .ok (.istore 4, 2) := fp_dk fp_hdX5_append_7.2.2.1.1.2
theorem dX5_insert_19 : decode cX5_insert 19 = .ok (.aload_n 0, 1) := fp_dk fp_hdX5_append_7.2.2.1.2.1
theorem dX5_insert_20 : decode cX5_insert 20 = .ok (.getfield 18, 3) := fp_dk fp_hdX5_append_7.2.2.1.2.2
theorem dX5_insert_23 : decode cX5_insert 23 = .ok (.iload_n 2, 1) := fp_dk fp_hdX5_append_7.2.2.2.1.1
theorem dX5_insert_24 : decode cX5_insert 24 = .ok (.iaload, 1) := fp_dk fp_hdX5_append_7.2.2.2.1.2
theorem dX5_insert_25 : decode cX5_insert 25 = .ok (.istore 5, 2) := fp_dk fp_hdX5_append_7.2.2.2.2.1
theorem dX5_insert_27 : decode cX5_insert 27 = .ok (.iload 5, 2) := fp_dk fp_hdX5_append_7.2.2.2.2.2
theorem fp_hdX5_insert_29 : (((((fp_dq cX5_insert 29 (.iload_n 3, 1) = true ∧ fp_dq cX5_insert 30 (.if_icmp .le 31, 3) = true) ∧ (fp_dq cX5_insert 33 (.aload_n 0, 1) = true ∧ fp_dq cX5_insert 34 (.getfield 21, 3) = true)) ∧ ((fp_dq cX5_insert 37 (.iload 4, 2) = true ∧ fp_dq cX5_insert 39 (.iload 5, 2) = true) ∧ (fp_dq cX5_insert 41 (.iadd, 1) = true ∧ fp_dq cX5_insert 42 (.aload_n 0, 1) = true))) ∧ (((fp_dq cX5_insert 43 (.getfield 21, 3) = true ∧ fp_dq cX5_insert 46 (.iload 4, 2) = true) ∧ (fp_dq cX5_insert 48 (.iload 5, 2) = true ∧ fp_dq cX5_insert 50 (.iadd, 1) = true)) ∧ ((fp_dq cX5_insert 51 (.iconst 1, 1) = true ∧ fp_dq cX5_insert 52 (.isub, 1) = true) ∧ (fp_dq cX5_insert 53 (.iaload, 1) = true ∧ fp_dq cX5_insert 54 (.iastore, 1) = true)))) ∧ ((((fp_dq cX5_insert 55 (.iinc 5 (-1), 3) = true ∧ fp_dq cX5_insert 58 (.goto (-31), 3) = true) ∧ (fp_dq cX5_insert 61 (.aload_n 0, 1) = true ∧ fp_dq cX5_insert 62 (.getfield 21, 3) = true)) ∧ ((fp_dq cX5_insert 65 (.iload 4, 2) = true ∧ fp_dq cX5_insert 67 (.iload_n 3, 1) = true) ∧ (fp_dq cX5_insert 68 (.iadd, 1) = true ∧ fp_dq cX5_insert 69 (.iload_n 1, 1) = true))) ∧ (((fp_dq cX5_insert 70 (.iastore, 1) = true ∧ fp_dq cX5_insert 71 (.aload_n 0, 1) = true) ∧ (fp_dq cX5_insert 72 (.getfield 18, 3) = true ∧ fp_dq cX5_insert 75 (.iload_n 2, 1) = true)) ∧ ((fp_dq cX5_insert 76 (.dup2, 1) = true ∧ fp_dq cX5_insert 77 (.iaload, 1) = true) ∧ (fp_dq cX5_insert 78 (.iconst 1, 1) = true ∧ fp_dq cX5_insert 79 (.iadd, 1) = true))))) := by decide +kernel
theorem dX5_insert_29 : decode cX5_insert 29 = .ok (.iload_n 3, 1) := fp_dk fp_hdX5_insert_29.1.1.1.1.1
theorem dX5_insert_30 : decode cX5_insert 30 = .ok (.if_icmp .le 31, 3) := fp_dk fp_hdX5_insert_29.1.1.1.1.2
theorem dX5_insert_33 : decode cX5_insert 33 = .ok (.aload_n 0, 1) := fp_dk fp_hdX5_insert_29.1.1.1.2.1
theorem dX5_insert_34 : decode cX5_insert 34 = .ok (.getfield 21, 3) := fp_dk fp_hdX5_insert_29.1.1.1.2.2
theorem dX5_insert_37 : decode cX5_insert 37 = .ok (.iload 4, 2) := fp_dk fp_hdX5_insert_29.1.1.2.1.1
theorem dX5_insert_39 : decode cX5_insert 39 = .ok (.iload 5, 2) := fp_dk fp_hdX5_insert_29.1.1.2.1.2
theorem dX5_insert_41 : decode cX5_insert 41 = .ok (.iadd, 1) := fp_dk fp_hdX5_insert_29.1.1.2.2.1
theorem dX5_insert_42 : decode cX5_insert 42 = .ok (.aload_n 0, 1) := fp_dk fp_hdX5_insert_29.1.1.2.2.2
theorem dX5_insert_43 : decode cX5_insert 43 = .ok (.getfield 21, 3) := fp_dk fp_hdX5_insert_29.1.2.1.1.1
theorem dX5_insert_46 : decode cX5_insert 46 = .ok (.iload 4, 2) := fp_dk fp_hdX5_insert_29.1.2.1.1.2
theorem dX5_insert_48 : decode cX5_insert 48 = .ok (.iload 5, 2) := fp_dk fp_hdX5_insert_29.1.2.1.2.1
theorem dX5_insert_50 : decode cX5_insert 50 = .ok (.iadd, 1) := fp_dk fp_hdX5_insert_29.1.2.1.2.2
theorem dX5_insert_51 : decode cX5_insert 51 = .ok (.iconst 1, 1) := fp_dk fp_hdX5_insert_29.1.2.2.1.1
theorem dX5_insert_52 : decode cX5_insert 52 = .ok (.isub, 1) := fp_dk fp_hdX5_insert_29.1.2.2.1.2
theorem dX5_insert_53 : decode cX5_insert 53 = .ok (.iaload, 1) := fp_dk fp_hdX5_insert_29.1.2.2.2.1
theorem dX5_insert_54 : decode cX5_insert 54 = .ok (.iastore, 1) := fp_dk fp_hdX5_insert_29.1.2.2.2.2
theorem dX5_insert_55 : decode cX5_insert 55 = .ok (.iinc 5 (-1), 3) := fp_dk fp_hdX5_insert_29.2.1.1.1.1
theorem dX5_insert_58 : decode cX5_insert 58 = .ok (.goto (-31), 3) := fp_dk fp_hdX5_insert_29.2.1.1.1.2
theorem dX5_insert_61 : decode cX5_insert 61 = .ok (.aload_n 0, 1) := fp_dk fp_hdX5_insert_29.2.1.1.2.1
theorem dX5_insert_62 : decode cX5_insert 62 = .ok (.getfield 21, 3) := fp_dk fp_hdX5_insert_29.2.1.1.2.2
theorem dX5_insert_65 : decode cX5_insert 65 = .ok (.iload 4, 2) := fp_dk fp_hdX5_insert_29.2.1.2.1.1
theorem dX5_insert_67 : decode cX5_insert 67 = .ok (.iload_n 3, 1) := fp_dk fp_hdX5_insert_29.2.1.2.1.2
theorem dX5_insert_68 : decode cX5_insert 68 = .ok (.iadd, 1) := fp_dk fp_hdX5_insert_29.2.1.2.2.1
theorem dX5_insert_69 : decode cX5_insert 69 = .ok (.iload_n 1, 1) := fp_dk fp_hdX5_insert_29.2.1.2.2.2
theorem dX5_insert_70 : decode cX5_insert 70 = .ok (.iastore, 1) := fp_dk fp_hdX5_insert_29.2.2.1.1.1
theorem dX5_insert_71 : decode cX5_insert 71 = .ok (.aload_n 0, 1) := fp_dk fp_hdX5_insert_29.2.2.1.1.2
theorem dX5_insert_72 : decode cX5_insert 72 = .ok (.getfield 18, 3) := fp_dk fp_hdX5_insert_29.2.2.1.2.1
theorem dX5_insert_75 : decode cX5_insert 75 = .ok (.iload_n 2, 1) := fp_dk fp_hdX5_insert_29.2.2.1.2.2
theorem dX5_insert_76 : decode cX5_insert 76 = .ok (.dup2, 1) := fp_dk fp_hdX5_insert_29.2.2.2.1.1
theorem dX5_insert_77 : decode cX5_insert 77 = .ok (.iaload, 1) := fp_dk fp_hdX5_insert_29.2.2.2.1.2
theorem dX5_insert_78 : decode cX5_insert 78 = .ok (.iconst 1, 1) := fp_dk fp_hdX5_insert_29.2.2.2.2.1
theorem dX5_insert_79 : decode cX5_insert 79 = .ok (.iadd, 1) := fp_dk fp_hdX5_insert_29.2.2.2.2.2
theorem fp_hdX5_insert_80 : (((((fp_dq cX5_insert 80 (.iastore, 1) = true ∧ fp_dq cX5_insert 81 (.aload_n 0, 1) = true) ∧ (fp_dq cX5_insert 82 (.getfield 15, 3) = true ∧ fp_dq cX5_insert 85 (.iload_n 1, 1) = true)) ∧ ((fp_dq cX5_insert 86 (.aload_n 0, 1) = true ∧ fp_dq cX5_insert 87 (.getfield 9, 3) = true) ∧ (fp_dq cX5_insert 90 (.iload_n 1, 1) = true ∧ fp_dq cX5_insert 91 (.iaload, 1) = true))) ∧ (((fp_dq cX5_insert 92 (.iastore, 1) = true ∧ fp_dq cX5_insert 93 (.aload_n 0, 1) = true) ∧ (fp_dq cX5_insert 94 (.getfield 9, 3) = true ∧ fp_dq cX5_insert 97 (.iload_n 1, 1) = true)) ∧ ((fp_dq cX5_insert 98 (.bipush 10, 2) = true ∧ fp_dq cX5_insert 100 (.iload_n 2, 1) = true) ∧ (fp_dq cX5_insert 101 (.iadd, 1) = true ∧ fp_dq cX5_insert 102 (.iastore, 1) = true)))) ∧ ((((fp_dq cX5_insert 103 (.iconst 1, 1) = true ∧ fp_dq cX5_insert 104 (.ireturn, 1) = true) ∧ (fp_dq cX7_init 0 (.aload_n 0, 1) = true ∧ fp_dq cX7_init 1 (.invokespecial 3, 3) = true)) ∧ ((fp_dq cX7_init 4 (.aload_n 0, 1) = true ∧ fp_dq cX7_init 5 (.iconst 4, 1) = true) ∧ (fp_dq cX7_init 6 (.newarray .int, 2) = true ∧ fp_dq cX7_init 8 (.putfield 9, 3) = true))) ∧ (((fp_dq cX7_init 11 (.aload_n 0, 1) = true ∧ fp_dq cX7_init 12 (.iconst 4, 1) = true) ∧ (fp_dq cX7_init 13 (.newarray .int, 2) = true ∧ fp_dq cX7_init 15 (.putfield 15, 3) = true)) ∧ ((fp_dq cX7_init 18 (.aload_n 0, 1) = true ∧ fp_dq cX7_init 19 (.iconst 4, 1) = true) ∧ (fp_dq cX7_init 20 (.newarray .int, 2) = true ∧ fp_dq cX7_init 22 (.putfield 18, 3) = true))))) := by decide +kernel
theorem dX5_insert_80 : decode cX5_insert 80 = .ok (.iastore, 1) := fp_dk fp_hdX5_insert_80.1.1.1.1.1
theorem dX5_insert_81 : decode cX5_insert 81 = .ok (.aload_n 0, 1) := fp_dk fp_hdX5_insert_80.1.1.1.1.2
theorem dX5_insert_82 : decode cX5_insert 82 = .ok (.getfield 15, 3) := fp_dk fp_hdX5_insert_80.1.1.1.2.1
theorem dX5_insert_85 : decode cX5_insert 85 = .ok (.iload_n 1, 1) := fp_dk fp_hdX5_insert_80.1.1.1.2.2
theorem dX5_insert_86 : decode cX5_insert 86 = .ok (.aload_n 0, 1) := fp_dk fp_hdX5_insert_80.1.1.2.1.1
theorem dX5_insert_87 : decode cX5_insert 87 = .ok (.getfield 9, 3) := fp_dk fp_hdX5_insert_80.1.1.2.1.2
theorem dX5_insert_90 : decode cX5_insert 90 = .ok (.iload_n 1, 1) := fp_dk fp_hdX5_insert_80.1.1.2.2.1
theorem dX5_insert_91 : decode cX5_insert 91 = .ok (.iaload, 1) := fp_dk fp_hdX5_insert_80.1.1.2.2.2
theorem dX5_insert_92 : decode cX5_insert 92 = .ok (.iastore, 1) := fp_dk fp_hdX5_insert_80.1.2.1.1.1
theorem dX5_insert_93 : decode cX5_insert 93 = .ok (.aload_n 0, 1) := fp_dk fp_hdX5_insert_80.1.2.1.1.2
theorem dX5_insert_94 : decode cX5_insert 94 = .ok (.getfield 9, 3) := fp_dk fp_hdX5_insert_80.1.2.1.2.1
theorem dX5_insert_97 : decode cX5_insert 97 = .ok (.iload_n 1, 1) := fp_dk fp_hdX5_insert_80.1.2.1.2.2
theorem dX5_insert_98 : decode cX5_insert 98 = .ok (.bipush 10, 2) := fp_dk fp_hdX5_insert_80.1.2.2.1.1
theorem dX5_insert_100 : decode cX5_insert 100 = .ok (.iload_n 2, 1) := fp_dk fp_hdX5_insert_80.1.2.2.1.2
theorem dX5_insert_101 : decode cX5_insert 101 = .ok (.iadd, 1) := fp_dk fp_hdX5_insert_80.1.2.2.2.1
theorem dX5_insert_102 : decode cX5_insert 102 = .ok (.iastore, 1) := fp_dk fp_hdX5_insert_80.1.2.2.2.2
theorem dX5_insert_103 : decode cX5_insert 103 = .ok (.iconst 1, 1) := fp_dk fp_hdX5_insert_80.2.1.1.1.1
theorem dX5_insert_104 : decode cX5_insert 104 = .ok (.ireturn, 1) := fp_dk fp_hdX5_insert_80.2.1.1.1.2
theorem dX7_init_0 : decode cX7_init 0 = .ok (.aload_n 0, 1) := fp_dk fp_hdX5_insert_80.2.1.1.2.1
theorem dX7_init_1 : decode cX7_init 1 = .ok (.invokespecial 3, 3) := fp_dk fp_hdX5_insert_80.2.1.1.2.2
theorem dX7_init_4 : decode cX7_init 4 = .ok (.aload_n 0, 1) := fp_dk fp_hdX5_insert_80.2.1.2.1.1
theorem dX7_init_5 : decode cX7_init 5 = .ok (.iconst 4, 1) := fp_dk fp_hdX5_insert_80.2.1.2.1.2
theorem dX7_init_6 : decode cX7_init 6 = .ok (.newarray .int, 2) := fp_dk fp_hdX5_insert_80.2.1.2.2.1
theorem dX7_init_8 : decode cX7_init 8 = .ok (.putfield 9, 3) := fp_dk fp_hdX5_insert_80.2.1.2.2.2
theorem dX7_init_11 : decode cX7_init 11 = .ok (.aload_n 0, 1) := fp_dk fp_hdX5_insert_80.2.2.1.1.1
theorem dX7_init_12 : decode cX7_init 12 = .ok (.iconst 4, 1) := fp_dk fp_hdX5_insert_80.2.2.1.1.2
theorem dX7_init_13 : decode cX7_init 13 = .ok (.newarray .int, 2) := fp_dk fp_hdX5_insert_80.2.2.1.2.1
theorem dX7_init_15 : decode cX7_init 15 = .ok (.putfield 15, 3) := fp_dk fp_hdX5_insert_80.2.2.1.2.2
theorem dX7_init_18 : decode cX7_init 18 = .ok (.aload_n 0, 1) := fp_dk fp_hdX5_insert_80.2.2.2.1.1
theorem dX7_init_19 : decode cX7_init 19 = .ok (.iconst 4, 1) := fp_dk fp_hdX5_insert_80.2.2.2.1.2
theorem dX7_init_20 : decode cX7_init 20 = .ok (.newarray .int, 2) := fp_dk fp_hdX5_insert_80.2.2.2.2.1
theorem dX7_init_22 : decode cX7_init 22 = .ok (.putfield 18, 3) := fp_dk fp_hdX5_insert_80.2.2.2.2.2
theorem fp_hdX7_init_25 : (((((fp_dq cX7_init 25 (.aload_n 0, 1) = true ∧ fp_dq cX7_init 26 (.iconst 4, 1) = true) ∧ (fp_dq cX7_init 27 (.newarray .int, 2) = true ∧ fp_dq cX7_init 29 (.putfield 21, 3) = true)) ∧ ((fp_dq cX7_init 32 (.return_, 1) = true ∧ fp_dq cX7_form 0 (.aload_n 0, 1) = true) ∧ (fp_dq cX7_form 1 (.aload_n 2, 1) = true ∧ fp_dq cX7_form 2 (.invokevirtual 24, 3) = true))) ∧ (((fp_dq cX7_form 5 (.iconst 0, 1) = true ∧ fp_dq cX7_form 6 (.istore_n 3, 1) = true) ∧ (fp_dq cX7_form 7 (.iload_n 3, 1) = true ∧ fp_dq cX7_form 8 (.iconst 4, 1) = true)) ∧ ((fp_dq cX7_form 9 (.if_icmp .ge 56, 3) = true ∧ fp_dq cX7_form 12 (.aload_n 0, 1) = true) ∧ (fp_dq cX7_form 13 (.aload_n 1, 1) = true ∧ fp_dq cX7_form 14 (.invokevirtual 28, 3) = true)))) ∧ ((((fp_dq cX7_form 17 (.iconst 0, 1) = true ∧ fp_dq cX7_form 18 (.istore 4, 2) = true) ∧ (fp_dq cX7_form 20 (.iconst 0, 1) = true ∧ fp_dq cX7_form 21 (.istore 5, 2) = true)) ∧ ((fp_dq cX7_form 23 (.iload 5, 2) = true ∧ fp_dq cX7_form 25 (.iconst 4, 1) = true) ∧ (fp_dq cX7_form 26 (.if_icmp .ge 20, 3) = true ∧ fp_dq cX7_form 29 (.iload 4, 2) = true))) ∧ (((fp_dq cX7_form 31 (.aload_n 0, 1) = true ∧ fp_dq cX7_form 32 (.iload 5, 2) = true) ∧ (fp_dq cX7_form 34 (.invokevirtual 32, 3) = true ∧ fp_dq cX7_form 37 (.ior, 1) = true)) ∧ ((fp_dq cX7_form 38 (.istore 4, 2) = true ∧ fp_dq cX7_form 40 (.iinc 5 1, 3) = true) ∧ (fp_dq cX7_form 43 (.goto (-20), 3) = true ∧ fp_dq cX7_form 46 (.aload_n 0, 1) = true))))) := by decide +kernel
theorem dX7_init_25 : decode cX7_init 25 = .ok (.aload_n 0, 1) := fp_dk fp_hdX7_init_25.1.1.1.1.1
theorem dX7_init_26 : decode cX7_init 26 = .ok (.iconst 4, 1) := fp_dk fp_hdX7_init_25.1.1.1.1.2
theorem dX7_init_27 : decode cX7_init 27 = .ok (.newarray .int, 2) := fp_dk fp_hdX7_init_25.1.1.1.2.1
theorem dX7_init_29 : decode cX7_init 29 = .ok (.putfield 21, 3) := fp_dk fp_hdX7_init_25.1.1.1.2.2
theorem dX7_init_32 : decode cX7_init 32 = .ok (.return_, 1) := fp_dk fp_hdX7_init_25.1.1.2.1.1
theorem dX7_form_0 : decode cX7_form 0 = .ok (.aload_n 0, 1) := fp_dk fp_hdX7_init_25.1.1.2.1.2
theorem dX7_form_1 : decode cX7_form 1 = .ok (.aload_n 2, 1) := fp_dk fp_hdX7_init_25.1.1.2.2.1
theorem dX7_form_2 : decode cX7_form 2 = .ok (.invokevirtual 24, 3) := fp_dk fp_hdX7_init_25.1.1.2.2.2
theorem dX7_form_5 : decode cX7_form 5 = .ok (.iconst 0, 1) := fp_dk fp_hdX7_init_25.1.2.1.1.1
theorem dX7_form_6 : decode cX7_form 6 = .ok (.istore_n 3, 1) := fp_dk fp_hdX7_init_25.1.2.1.1.2
theorem dX7_form_7 : decode cX7_form 7 = .ok (.iload_n 3, 1) := fp_dk fp_hdX7_init_25.1.2.1.2.1
theorem dX7_form_8 : decode cX7_form 8 = .ok (.iconst 4, 1) := fp_dk fp_hdX7_init_25.1.2.1.2.2
theorem dX7_form_9 : decode cX7_form 9 = .ok (.if_icmp .ge 56, 3) := fp_dk fp_hdX7_init_25.1.2.2.1.1
theorem dX7_form_12 : decode cX7_form 12 = .ok (.aload_n 0, 1) := fp_dk fp_hdX7_init_25.1.2.2.1.2
theorem dX7_form_13 : decode cX7_form 13 = .ok (.aload_n 1, 1) := fp_dk fp_hdX7_init_25.1.2.2.2.1
theorem dX7_form_14 : decode cX7_form 14 = .ok (.invokevirtual 28, 3) := fp_dk fp_hdX7_init_25.1.2.2.2.2
theorem dX7_form_17 : decode cX7_form 17 = .ok (.iconst 0, 1) := fp_dk fp_hdX7_init_25.2.1.1.1.1
theorem dX7_form_18 : decode cX7_form 18 = .ok (.istore 4, 2) := fp_dk fp_hdX7_init_25.2.1.1.1.2
theorem dX7_form_20 : decode cX7_form 20 = .ok (.iconst 0, 1) := fp_dk fp_hdX7_init_25.2.1.1.2.1
theorem dX7_form_21 : decode cX7_form 21 = .ok (.istore 5, 2) := fp_dk fp_hdX7_init_25.2.1.1.2.2
theorem dX7_form_23 : decode cX7_form 23 = .ok (.iload 5, 2) := fp_dk fp_hdX7_init_25.2.1.2.1.1
theorem dX7_form_25 : decode cX7_form 25 = .ok (.iconst 4, 1) := fp_dk fp_hdX7_init_25.2.1.2.1.2
theorem dX7_form_26 : decode cX7_form 26 = .ok (.if_icmp .ge 20, 3) := fp_dk fp_hdX7_init_25.2.1.2.2.1
theorem dX7_form_29 : decode cX7_form 29 = .ok (.iload 4, 2) := fp_dk fp_hdX7_init_25.2.1.2.2.2
theorem dX7_form_31 : decode cX7_form 31 = .ok (.aload_n 0, 1) := fp_dk fp_hdX7_init_25.2.2.1.1.1
theorem dX7_form_32 : decode cX7_form 32 = .ok (.iload 5, 2) := fp_dk fp_hdX7_init_25.2.2.1.1.2
theorem dX7_form_34 : decode cX7_form 34 = .ok (.invokevirtual 32, 3) := fp_dk fp_hdX7_init_25.2.2.1.2.1
theorem dX7_form_37 : decode cX7_form 37 = .ok (.ior, 1) := fp_dk fp_hdX7_init_25.2.2.1.2.2
theorem dX7_form_38 : decode cX7_form 38 = .ok (.istore 4, 2) := fp_dk fp_hdX7_init_25.2.2.2.1.1
theorem dX7_form_40 : decode cX7_form 40 = .ok (.iinc 5 1, 3) := fp_dk fp_hdX7_init_25.2.2.2.1.2
theorem dX7_form_43 : decode cX7_form 43 = .ok (.goto (-20), 3) := fp_dk fp_hdX7_init_25.2.2.2.2.1
theorem dX7_form_46 : decode cX7_form 46 = .ok (.aload_n 0, 1) := fp_dk fp_hdX7_init_25.2.2.2.2.2
theorem fp_hdX7_form_47 : (((((fp_dq cX7_form 47 (.dup, 1) = true ∧ fp_dq cX7_form 48 (.getfield 36, 3) = true) ∧ (fp_dq cX7_form 51 (.iload 4, 2) = true ∧ fp_dq cX7_form 53 (.iconst (-1), 1) = true)) ∧ ((fp_dq cX7_form 54 (.ixor, 1) = true ∧ fp_dq cX7_form 55 (.iand, 1) = true) ∧ (fp_dq cX7_form 56 (.putfield 36, 3) = true ∧ fp_dq cX7_form 59 (.iinc 3 1, 3) = true))) ∧ (((fp_dq cX7_form 62 (.goto (-55), 3) = true ∧ fp_dq cX7_form 65 (.return_, 1) = true) ∧ (fp_dq cX7_gather 0 (.aload_n 0, 1) = true ∧ fp_dq cX7_gather 1 (.iconst 0, 1) = true)) ∧ ((fp_dq cX7_gather 2 (.putfield 36, 3) = true ∧ fp_dq cX7_gather 5 (.iconst 0, 1) = true) ∧ (fp_dq cX7_gather 6 (.istore_n 2, 1) = true ∧ fp_dq cX7_gather 7 (.iload_n 2, 1) = true)))) ∧ ((((fp_dq cX7_gather 8 (.iconst 4, 1) = true ∧ fp_dq cX7_gather 9 (.if_icmp .ge 59, 3) = true) ∧ (fp_dq cX7_gather 12 (.aload_n 0, 1) = true ∧ fp_dq cX7_gather 13 (.getfield 9, 3) = true)) ∧ ((fp_dq cX7_gather 16 (.iload_n 2, 1) = true ∧ fp_dq cX7_gather 17 (.bipush (-4), 2) = true) ∧ (fp_dq cX7_gather 19 (.iastore, 1) = true ∧ fp_dq cX7_gather 20 (.aload_n 0, 1) = true))) ∧ (((fp_dq cX7_gather 21 (.getfield 15, 3) = true ∧ fp_dq cX7_gather 24 (.iload_n 2, 1) = true) ∧ (fp_dq cX7_gather 25 (.bipush (-4), 2) = true ∧ fp_dq cX7_gather 27 (.iastore, 1) = true)) ∧ ((fp_dq cX7_gather 28 (.aload_n 0, 1) = true ∧ fp_dq cX7_gather 29 (.getfield 18, 3) = true) ∧ (fp_dq cX7_gather 32 (.iload_n 2, 1) = true ∧ fp_dq cX7_gather 33 (.aload_n 1, 1) = true))))) := by decide +kernel
theorem dX7_form_47 : decode cX7_form 47 = .ok (.dup, 1) := fp_dk fp_hdX7_form_47.1.1.1.1.1
theorem dX7_form_48 : decode cX7_form 48 = .ok (.getfield 36, 3) := fp_dk fp_hdX7_form_47.1.1.1.1.2
theorem dX7_form_51 : decode cX7_form 51 = .ok (.iload 4, 2) := fp_dk fp_hdX7_form_47.1.1.1.2.1
theorem dX7_form_53 : decode cX7_form 53 = .ok (.iconst (-1), 1) := fp_dk fp_hdX7_form_47.1.1.1.2.2
theorem dX7_form_54 : decode cX7_form 54 = .ok (.ixor, 1) := fp_dk fp_hdX7_form_47.1.1.2.1.1
theorem dX7_form_55 : decode cX7_form 55 = .ok (.iand, 1) := fp_dk fp_hdX7_form_47.1.1.2.1.2
theorem dX7_form_56 : decode cX7_form 56 = .ok (.putfield 36, 3) := fp_dk fp_hdX7_form_47.1.1.2.2.1
theorem dX7_form_59 : decode cX7_form 59 = .ok (.iinc 3 1, 3) := fp_dk fp_hdX7_form_47.1.1.2.2.2
theorem dX7_form_62 : decode cX7_form 62 = .ok (.goto (-55), 3) := fp_dk fp_hdX7_form_47.1.2.1.1.1
theorem dX7_form_65 : decode cX7_form 65 = .ok (.return_, 1) := fp_dk fp_hdX7_form_47.1.2.1.1.2
theorem dX7_gather_0 : decode cX7_gather 0 = .ok (.aload_n 0, 1) := fp_dk fp_hdX7_form_47.1.2.1.2.1
theorem dX7_gather_1 : decode cX7_gather 1 = .ok (.iconst 0, 1) := fp_dk fp_hdX7_form_47.1.2.1.2.2
theorem dX7_gather_2 : decode cX7_gather 2 = .ok (.putfield 36, 3) := fp_dk fp_hdX7_form_47.1.2.2.1.1
theorem dX7_gather_5 : decode cX7_gather 5 = .ok (.iconst 0, 1) := fp_dk fp_hdX7_form_47.1.2.2.1.2
theorem dX7_gather_6 : decode cX7_gather 6 = .ok (.istore_n 2, 1) := fp_dk fp_hdX7_form_47.1.2.2.2.1
theorem dX7_gather_7 : decode cX7_gather 7 = .ok (.iload_n 2, 1) := fp_dk fp_hdX7_form_47.1.2.2.2.2
theorem dX7_gather_8 : decode cX7_gather 8 = .ok (.iconst 4, 1) := fp_dk fp_hdX7_form_47.2.1.1.1.1
theorem dX7_gather_9 : decode cX7_gather 9 = .ok (.if_icmp .ge 59, 3) := fp_dk fp_hdX7_form_47.2.1.1.1.2
theorem dX7_gather_12 : decode cX7_gather 12 = .ok (.aload_n 0, 1) := fp_dk fp_hdX7_form_47.2.1.1.2.1
theorem dX7_gather_13 : decode cX7_gather 13 = .ok (.getfield 9, 3) := fp_dk fp_hdX7_form_47.2.1.1.2.2
theorem dX7_gather_16 : decode cX7_gather 16 = .ok (.iload_n 2, 1) := fp_dk fp_hdX7_form_47.2.1.2.1.1
theorem dX7_gather_17 : decode cX7_gather 17 = .ok (.bipush (-4), 2) := fp_dk fp_hdX7_form_47.2.1.2.1.2
theorem dX7_gather_19 : decode cX7_gather 19 = .ok (.iastore, 1) := fp_dk fp_hdX7_form_47.2.1.2.2.1
theorem dX7_gather_20 : decode cX7_gather 20 = .ok (.aload_n 0, 1) := fp_dk fp_hdX7_form_47.2.1.2.2.2
theorem dX7_gather_21 : decode cX7_gather 21 = .ok (.getfield 15, 3) := fp_dk fp_hdX7_form_47.2.2.1.1.1
theorem dX7_gather_24 : decode cX7_gather 24 = .ok (.iload_n 2, 1) := fp_dk fp_hdX7_form_47.2.2.1.1.2
theorem dX7_gather_25 : decode cX7_gather 25 = .ok (.bipush (-4), 2) := fp_dk fp_hdX7_form_47.2.2.1.2.1
theorem dX7_gather_27 : decode cX7_gather 27 = .ok (.iastore, 1) := fp_dk fp_hdX7_form_47.2.2.1.2.2
theorem dX7_gather_28 : decode cX7_gather 28 = .ok (.aload_n 0, 1) := fp_dk fp_hdX7_form_47.2.2.2.1.1
theorem dX7_gather_29 : decode cX7_gather 29 = .ok (.getfield 18, 3) := fp_dk fp_hdX7_form_47.2.2.2.1.2
theorem dX7_gather_32 : decode cX7_gather 32 = .ok (.iload_n 2, 1) := fp_dk fp_hdX7_form_47.2.2.2.2.1
theorem dX7_gather_33 : decode cX7_gather 33 = .ok (.aload_n 1, 1) := fp_dk fp_hdX7_form_47.2.2.2.2.2
theorem fp_hdX7_gather_34 : (((((fp_dq cX7_gather 34 (.iload_n 2, 1) = true ∧ fp_dq cX7_gather 35 (.invokevirtual 40, 3) = true) ∧ (fp_dq cX7_gather 38 (.iastore, 1) = true ∧ fp_dq cX7_gather 39 (.aload_n 0, 1) = true)) ∧ ((fp_dq cX7_gather 40 (.getfield 18, 3) = true ∧ fp_dq cX7_gather 43 (.iload_n 2, 1) = true) ∧ (fp_dq cX7_gather 44 (.iaload, 1) = true ∧ fp_dq cX7_gather 45 (.bipush (-4), 2) = true))) ∧ (((fp_dq cX7_gather 47 (.if_icmp .eq 15, 3) = true ∧ fp_dq cX7_gather 50 (.aload_n 0, 1) = true) ∧ (fp_dq cX7_gather 51 (.dup, 1) = true ∧ fp_dq cX7_gather 52 (.getfield 36, 3) = true)) ∧ ((fp_dq cX7_gather 55 (.iconst 1, 1) = true ∧ fp_dq cX7_gather 56 (.iload_n 2, 1) = true) ∧ (fp_dq cX7_gather 57 (.ishl, 1) = true ∧ fp_dq cX7_gather 58 (.ior, 1) = true)))) ∧ ((((fp_dq cX7_gather 59 (.putfield 36, 3) = true ∧ fp_dq cX7_gather 62 (.iinc 2 1, 3) = true) ∧ (fp_dq cX7_gather 65 (.goto (-58), 3) = true ∧ fp_dq cX7_gather 68 (.return_, 1) = true)) ∧ ((fp_dq cX7_isThere 0 (.aload_n 0, 1) = true ∧ fp_dq cX7_isThere 1 (.getfield 36, 3) = true) ∧ (fp_dq cX7_isThere 4 (.iconst 1, 1) = true ∧ fp_dq cX7_isThere 5 (.iload_n 1, 1) = true))) ∧ (((fp_dq cX7_isThere 6 (.ishl, 1) = true ∧ fp_dq cX7_isThere 7 (.iand, 1) = true) ∧ (fp_dq cX7_isThere 8 (.ifCond .eq 7, 3) = true ∧ fp_dq cX7_isThere 11 (.iconst 1, 1) = true)) ∧ ((fp_dq cX7_isThere 12 (.goto 4, 3) = true ∧ fp_dq cX7_isThere 15 (.iconst 0, 1) = true) ∧ (fp_dq cX7_isThere 16 (.ireturn, 1) = true ∧ fp_dq cX7_point 0 (.iconst 0, 1) = true))))) := by decide +kernel
theorem dX7_gather_34 : decode cX7_gather 34 = .ok (.iload_n 2, 1) := fp_dk fp_hdX7_gather_34.1.1.1.1.1
theorem dX7_gather_35 : decode cX7_gather 35 = .ok (.invokevirtual 40, 3) := fp_dk fp_hdX7_gather_34.1.1.1.1.2
theorem dX7_gather_38 : decode cX7_gather 38 = .ok (.iastore, 1) := fp_dk fp_hdX7_gather_34.1.1.1.2.1
theorem dX7_gather_39 : decode cX7_gather 39 = .ok (.aload_n 0, 1) := fp_dk fp_hdX7_gather_34.1.1.1.2.2
theorem dX7_gather_40 : decode cX7_gather 40 = .ok (.getfield 18, 3) := fp_dk fp_hdX7_gather_34.1.1.2.1.1
theorem dX7_gather_43 : decode cX7_gather 43 = .ok (.iload_n 2, 1) := fp_dk fp_hdX7_gather_34.1.1.2.1.2
theorem dX7_gather_44 : decode cX7_gather 44 = .ok (.iaload, 1) := fp_dk fp_hdX7_gather_34.1.1.2.2.1
theorem dX7_gather_45 : decode cX7_gather 45 = .ok (.bipush (-4), 2) := fp_dk fp_hdX7_gather_34.1.1.2.2.2
theorem dX7_gather_47 : decode cX7_gather 47 = .ok (.if_icmp .eq 15, 3) := fp_dk fp_hdX7_gather_34.1.2.1.1.1
theorem dX7_gather_50 : decode cX7_gather 50 = .ok (.aload_n 0, 1) := fp_dk fp_hdX7_gather_34.1.2.1.1.2
theorem dX7_gather_51 : decode cX7_gather 51 = .ok (.dup, 1) := fp_dk fp_hdX7_gather_34.1.2.1.2.1
theorem dX7_gather_52 : decode cX7_gather 52 = .ok (.getfield 36, 3) := fp_dk fp_hdX7_gather_34.1.2.1.2.2
theorem dX7_gather_55 : decode cX7_gather 55 = .ok (.iconst 1, 1) := fp_dk fp_hdX7_gather_34.1.2.2.1.1
theorem dX7_gather_56 : decode cX7_gather 56 = .ok (.iload_n 2, 1) := fp_dk fp_hdX7_gather_34.1.2.2.1.2
theorem dX7_gather_57 : decode cX7_gather 57 = .ok (.ishl, 1) := fp_dk fp_hdX7_gather_34.1.2.2.2.1
theorem dX7_gather_58 : decode cX7_gather 58 = .ok (.ior, 1) := fp_dk fp_hdX7_gather_34.1.2.2.2.2
theorem dX7_gather_59 : decode cX7_gather 59 = .ok (.putfield 36, 3) := fp_dk fp_hdX7_gather_34.2.1.1.1.1
theorem dX7_gather_62 : decode cX7_gather 62 = .ok (.iinc 2 1, 3) := fp_dk fp_hdX7_gather_34.2.1.1.1.2
theorem dX7_gather_65 : decode cX7_gather 65 = .ok (.goto (-58), 3) := fp_dk fp_hdX7_gather_34.2.1.1.2.1
theorem dX7_gather_68 : decode cX7_gather 68 = .ok (.return_, 1) := fp_dk fp_hdX7_gather_34.2.1.1.2.2
theorem dX7_isThere_0 : decode cX7_isThere 0 = .ok (.aload_n 0, 1) := fp_dk fp_hdX7_gather_34.2.1.2.1.1
theorem dX7_isThere_1 : decode cX7_isThere 1 = .ok (.getfield 36, 3) := fp_dk fp_hdX7_gather_34.2.1.2.1.2
theorem dX7_isThere_4 : decode cX7_isThere 4 = .ok (.iconst 1, 1) := fp_dk fp_hdX7_gather_34.2.1.2.2.1
theorem dX7_isThere_5 : decode cX7_isThere 5 = .ok (.iload_n 1, 1) := fp_dk fp_hdX7_gather_34.2.1.2.2.2
theorem dX7_isThere_6 : decode cX7_isThere 6 = .ok (.ishl, 1) := fp_dk fp_hdX7_gather_34.2.2.1.1.1
theorem dX7_isThere_7 : decode cX7_isThere 7 = .ok (.iand, 1) := fp_dk fp_hdX7_gather_34.2.2.1.1.2
theorem dX7_isThere_8 : decode cX7_isThere 8 = .ok (.ifCond .eq 7, 3) := fp_dk fp_hdX7_gather_34.2.2.1.2.1
theorem dX7_isThere_11 : decode cX7_isThere 11 = .ok (.iconst 1, 1) := fp_dk fp_hdX7_gather_34.2.2.1.2.2
theorem dX7_isThere_12 : decode cX7_isThere 12 = .ok (.goto 4, 3) := fp_dk fp_hdX7_gather_34.2.2.2.1.1
theorem dX7_isThere_15 : decode cX7_isThere 15 = .ok (.iconst 0, 1) := fp_dk fp_hdX7_gather_34.2.2.2.1.2
theorem dX7_isThere_16 : decode cX7_isThere 16 = .ok (.ireturn, 1) := fp_dk fp_hdX7_gather_34.2.2.2.2.1
theorem dX7_point_0 : decode cX7_point 0 = .ok (.iconst 0, 1) := fp_dk fp_hdX7_gather_34.2.2.2.2.2
theorem fp_hdX7_point_1 : (((((fp_dq cX7_point 1 (.istore_n 2, 1) = true ∧ fp_dq cX7_point 2 (.iload_n 2, 1) = true) ∧ (fp_dq cX7_point 3 (.iconst 4, 1) = true ∧ fp_dq cX7_point 4 (.if_icmp .ge 73, 3) = true)) ∧ ((fp_dq cX7_point 7 (.bipush (-4), 2) = true ∧ fp_dq cX7_point 9 (.istore_n 3, 1) = true) ∧ (fp_dq cX7_point 10 (.iconst 0, 1) = true ∧ fp_dq cX7_point 11 (.istore 4, 2) = true))) ∧ (((fp_dq cX7_point 13 (.iload 4, 2) = true ∧ fp_dq cX7_point 15 (.iconst 4, 1) = true) ∧ (fp_dq cX7_point 16 (.if_icmp .ge 48, 3) = true ∧ fp_dq cX7_point 19 (.aload_n 0, 1) = true)) ∧ ((fp_dq cX7_point 20 (.iload 4, 2) = true ∧ fp_dq cX7_point 22 (.invokevirtual 45, 3) = true) ∧ (fp_dq cX7_point 25 (.ifCond .eq 33, 3) = true ∧ fp_dq cX7_point 28 (.iload_n 3, 1) = true)))) ∧ ((((fp_dq cX7_point 29 (.bipush (-4), 2) = true ∧ fp_dq cX7_point 31 (.if_icmp .eq 24, 3) = true) ∧ (fp_dq cX7_point 34 (.aload_n 1, 1) = true ∧ fp_dq cX7_point 35 (.iload_n 2, 1) = true)) ∧ ((fp_dq cX7_point 36 (.aload_n 0, 1) = true ∧ fp_dq cX7_point 37 (.getfield 18, 3) = true) ∧ (fp_dq cX7_point 40 (.iload 4, 2) = true ∧ fp_dq cX7_point 42 (.iaload, 1) = true))) ∧ (((fp_dq cX7_point 43 (.aload_n 0, 1) = true ∧ fp_dq cX7_point 44 (.getfield 18, 3) = true) ∧ (fp_dq cX7_point 47 (.iload_n 3, 1) = true ∧ fp_dq cX7_point 48 (.iaload, 1) = true)) ∧ ((fp_dq cX7_point 49 (.invokestatic 49, 3) = true ∧ fp_dq cX7_point 52 (.ifCond .eq 6, 3) = true) ∧ (fp_dq cX7_point 55 (.iload 4, 2) = true ∧ fp_dq cX7_point 57 (.istore_n 3, 1) = true))))) := by decide +kernel
theorem dX7_point_1 : decode cX7_point 1 = .ok (.istore_n 2, 1) := fp_dk fp_hdX7_point_1.1.1.1.1.1
theorem dX7_point_2 : decode cX7_point 2 = .ok (.iload_n 2, 1) := fp_dk fp_hdX7_point_1.1.1.1.1.2
theorem dX7_point_3 : decode cX7_point 3 = .ok (.iconst 4, 1) := fp_dk fp_hdX7_point_1.1.1.1.2.1
theorem dX7_point_4 : decode cX7_point 4 = .ok (.if_icmp .ge 73, 3) := fp_dk fp_hdX7_point_1.1.1.1.2.2
theorem dX7_point_7 : decode cX7_point 7 = .ok (.bipush (-4), 2) := fp_dk fp_hdX7_point_1.1.1.2.1.1
theorem dX7_point_9 : decode cX7_point 9 = .ok (.istore_n 3, 1) := fp_dk fp_hdX7_point_1.1.1.2.1.2
theorem dX7_point_10 : decode cX7_point 10 = .ok (.iconst 0, 1) := fp_dk fp_hdX7_point_1.1.1.2.2.1
theorem dX7_point_11 : decode cX7_point 11 = .ok (.istore 4, 2) := fp_dk fp_hdX7_point_1.1.1.2.2.2
theorem dX7_point_13 : decode cX7_point 13 = .ok (.iload 4, 2) := fp_dk fp_hdX7_point_1.1.2.1.1.1
theorem dX7_point_15 : decode cX7_point 15 = .ok (.iconst 4, 1) := fp_dk fp_hdX7_point_1.1.2.1.1.2
theorem dX7_point_16 : decode cX7_point 16 = .ok (.if_icmp .ge 48, 3) := fp_dk fp_hdX7_point_1.1.2.1.2.1
theorem dX7_point_19 : decode cX7_point 19 = .ok (.aload_n 0, 1) := fp_dk fp_hdX7_point_1.1.2.1.2.2
theorem dX7_point_20 : decode cX7_point 20 = .ok (.iload 4, 2) := fp_dk fp_hdX7_point_1.1.2.2.1.1
theorem dX7_point_22 : decode cX7_point 22 = .ok (.invokevirtual 45, 3) := fp_dk fp_hdX7_point_1.1.2.2.1.2
theorem dX7_point_25 : decode cX7_point 25 = .ok (.ifCond .eq 33, 3) := fp_dk fp_hdX7_point_1.1.2.2.2.1
theorem dX7_point_28 : decode cX7_point 28 = .ok (.iload_n 3, 1) := fp_dk fp_hdX7_point_1.1.2.2.2.2
theorem dX7_point_29 : decode cX7_point 29 = .ok (.bipush (-4), 2) := fp_dk fp_hdX7_point_1.2.1.1.1.1
theorem dX7_point_31 : decode cX7_point 31 = .ok (.if_icmp .eq 24, 3) := fp_dk fp_hdX7_point_1.2.1.1.1.2
theorem dX7_point_34 : decode cX7_point 34 = .ok (.aload_n 1, 1) := fp_dk fp_hdX7_point_1.2.1.1.2.1
theorem dX7_point_35 : decode cX7_point 35 = .ok (.iload_n 2, 1) := fp_dk fp_hdX7_point_1.2.1.1.2.2
theorem dX7_point_36 : decode cX7_point 36 = .ok (.aload_n 0, 1) := fp_dk fp_hdX7_point_1.2.1.2.1.1
theorem dX7_point_37 : decode cX7_point 37 = .ok (.getfield 18, 3) := fp_dk fp_hdX7_point_1.2.1.2.1.2
theorem dX7_point_40 : decode cX7_point 40 = .ok (.iload 4, 2) := fp_dk fp_hdX7_point_1.2.1.2.2.1
theorem dX7_point_42 : decode cX7_point 42 = .ok (.iaload, 1) := fp_dk fp_hdX7_point_1.2.1.2.2.2
theorem dX7_point_43 : decode cX7_point 43 = .ok (.aload_n 0, 1) := fp_dk fp_hdX7_point_1.2.2.1.1.1
theorem dX7_point_44 : decode cX7_point 44 = .ok (.getfield 18, 3) := fp_dk fp_hdX7_point_1.2.2.1.1.2
theorem dX7_point_47 : decode cX7_point 47 = .ok (.iload_n 3, 1) := fp_dk fp_hdX7_point_1.2.2.1.2.1
theorem dX7_point_48 : decode cX7_point 48 = .ok (.iaload, 1) := fp_dk fp_hdX7_point_1.2.2.1.2.2
theorem dX7_point_49 : decode cX7_point 49 = .ok (.invokestatic 49, 3) := fp_dk fp_hdX7_point_1.2.2.2.1.1
theorem dX7_point_52 : decode cX7_point 52 = .ok (.ifCond .eq 6, 3) := fp_dk fp_hdX7_point_1.2.2.2.1.2
theorem dX7_point_55 : decode cX7_point 55 = .ok (.iload 4, 2) := fp_dk fp_hdX7_point_1.2.2.2.2.1
theorem dX7_point_57 : decode cX7_point 57 = .ok (.istore_n 3, 1) := fp_dk fp_hdX7_point_1.2.2.2.2.2
theorem fp_hdX7_point_58 : (((((fp_dq cX7_point 58 (.iinc 4 1, 3) = true ∧ fp_dq cX7_point 61 (.goto (-48), 3) = true) ∧ (fp_dq cX7_point 64 (.aload_n 0, 1) = true ∧ fp_dq cX7_point 65 (.getfield 21, 3) = true)) ∧ ((fp_dq cX7_point 68 (.iload_n 2, 1) = true ∧ fp_dq cX7_point 69 (.iload_n 3, 1) = true) ∧ (fp_dq cX7_point 70 (.iastore, 1) = true ∧ fp_dq cX7_point 71 (.iinc 2 1, 3) = true))) ∧ (((fp_dq cX7_point 74 (.goto (-72), 3) = true ∧ fp_dq cX7_point 77 (.return_, 1) = true) ∧ (fp_dq cX7_likesBetter 0 (.aload_n 0, 1) = true ∧ fp_dq cX7_likesBetter 1 (.iload_n 1, 1) = true)) ∧ ((fp_dq cX7_likesBetter 2 (.iload_n 2, 1) = true ∧ fp_dq cX7_likesBetter 3 (.invokevirtual 53, 3) = true) ∧ (fp_dq cX7_likesBetter 6 (.aload_n 0, 1) = true ∧ fp_dq cX7_likesBetter 7 (.iload_n 1, 1) = true)))) ∧ ((((fp_dq cX7_likesBetter 8 (.iload_n 3, 1) = true ∧ fp_dq cX7_likesBetter 9 (.invokevirtual 53, 3) = true) ∧ (fp_dq cX7_likesBetter 12 (.isub, 1) = true ∧ fp_dq cX7_likesBetter 13 (.istore 4, 2) = true)) ∧ ((fp_dq cX7_likesBetter 15 (.iload 4, 2) = true ∧ fp_dq cX7_likesBetter 17 (.ifCond .gt 13, 3) = true) ∧ (fp_dq cX7_likesBetter 20 (.iload 4, 2) = true ∧ fp_dq cX7_likesBetter 22 (.ifCond .ne 12, 3) = true))) ∧ (((fp_dq cX7_likesBetter 25 (.iload_n 2, 1) = true ∧ fp_dq cX7_likesBetter 26 (.iload_n 3, 1) = true) ∧ (fp_dq cX7_likesBetter 27 (.if_icmp .ge 7, 3) = true ∧ fp_dq cX7_likesBetter 30 (.iconst 1, 1) = true)) ∧ ((fp_dq cX7_likesBetter 31 (.goto 4, 3) = true ∧ fp_dq cX7_likesBetter 34 (.iconst 0, 1) = true) ∧ (fp_dq cX7_likesBetter 35 (.ireturn, 1) = true ∧ fp_dq cX7_takeIfInRing 0 (.aload_n 0, 1) = true))))) := by decide +kernel
theorem dX7_point_58 : decode cX7_point 58 = .ok (.iinc 4 1, 3) := fp_dk fp_hdX7_point_58.1.1.1.1.1
theorem dX7_point_61 : decode cX7_point 61 = .ok (.goto (-48), 3) := fp_dk fp_hdX7_point_58.1.1.1.1.2
theorem dX7_point_64 : decode cX7_point 64 = .ok (.aload_n 0, 1) := fp_dk fp_hdX7_point_58.1.1.1.2.1
theorem dX7_point_65 : decode cX7_point 65 = .ok (.getfield 21, 3) := fp_dk fp_hdX7_point_58.1.1.1.2.2
theorem dX7_point_68 : decode cX7_point 68 = .ok (.iload_n 2, 1) := fp_dk fp_hdX7_point_58.1.1.2.1.1
theorem dX7_point_69 : decode cX7_point 69 = .ok (.iload_n 3, 1) := fp_dk fp_hdX7_point_58.1.1.2.1.2
theorem dX7_point_70 : decode cX7_point 70 = .ok (.iastore, 1) := fp_dk fp_hdX7_point_58.1.1.2.2.1
theorem dX7_point_71 : decode cX7_point 71 = .ok (.iinc 2 1, 3) := fp_dk fp_hdX7_point_58.1.1.2.2.2
theorem dX7_point_74 : decode cX7_point 74 = .ok (.goto (-72), 3) := fp_dk fp_hdX7_point_58.1.2.1.1.1
theorem dX7_point_77 : decode cX7_point 77 = .ok (.return_, 1) := fp_dk fp_hdX7_point_58.1.2.1.1.2
theorem dX7_likesBetter_0 : decode cX7_likesBetter 0 = .ok (.aload_n 0, 1) := fp_dk fp_hdX7_point_58.1.2.1.2.1
theorem dX7_likesBetter_1 : decode cX7_likesBetter 1 = .ok (.iload_n 1, 1) := fp_dk fp_hdX7_point_58.1.2.1.2.2
theorem dX7_likesBetter_2 : decode cX7_likesBetter 2 = .ok (.iload_n 2, 1) := fp_dk fp_hdX7_point_58.1.2.2.1.1
theorem dX7_likesBetter_3 : decode cX7_likesBetter 3 = .ok (.invokevirtual 53, 3) := fp_dk fp_hdX7_point_58.1.2.2.1.2
theorem dX7_likesBetter_6 : decode cX7_likesBetter 6 = .ok (.aload_n 0, 1) := fp_dk fp_hdX7_point_58.1.2.2.2.1
theorem dX7_likesBetter_7 : decode cX7_likesBetter 7 = .ok (.iload_n 1, 1) := fp_dk fp_hdX7_point_58.1.2.2.2.2
theorem dX7_likesBetter_8 : decode cX7_likesBetter 8 = .ok (.iload_n 3, 1) := fp_dk fp_hdX7_point_58.2.1.1.1.1
theorem dX7_likesBetter_9 : decode cX7_likesBetter 9 = .ok (.invokevirtual 53, 3) := fp_dk fp_hdX7_point_58.2.1.1.1.2
theorem dX7_likesBetter_12 : decode cX7_likesBetter 12 = .ok (.isub, 1) := fp_dk fp_hdX7_point_58.2.1.1.2.1
theorem dX7_likesBetter_13 : decode cX7_likesBetter 13 = .ok (.istore 4, 2) := fp_dk fp_hdX7_point_58.2.1.1.2.2
theorem dX7_likesBetter_15 : decode cX7_likesBetter 15 = .ok (.iload 4, 2) := fp_dk fp_hdX7_point_58.2.1.2.1.1
theorem dX7_likesBetter_17 : decode cX7_likesBetter 17 = .ok (.ifCond .gt 13, 3) := fp_dk fp_hdX7_point_58.2.1.2.1.2
theorem dX7_likesBetter_20 : decode cX7_likesBetter 20 = .ok (.iload 4, 2) := fp_dk fp_hdX7_point_58.2.1.2.2.1
theorem dX7_likesBetter_22 : decode cX7_likesBetter 22 = .ok (.ifCond .ne 12, 3) := fp_dk fp_hdX7_point_58.2.1.2.2.2
theorem dX7_likesBetter_25 : decode cX7_likesBetter 25 = .ok (.iload_n 2, 1) := fp_dk fp_hdX7_point_58.2.2.1.1.1
theorem dX7_likesBetter_26 : decode cX7_likesBetter 26 = .ok (.iload_n 3, 1) := fp_dk fp_hdX7_point_58.2.2.1.1.2
theorem dX7_likesBetter_27 : decode cX7_likesBetter 27 = .ok (.if_icmp .ge 7, 3) := fp_dk fp_hdX7_point_58.2.2.1.2.1
theorem dX7_likesBetter_30 : decode cX7_likesBetter 30 = .ok (.iconst 1, 1) := fp_dk fp_hdX7_point_58.2.2.1.2.2
theorem dX7_likesBetter_31 : decode cX7_likesBetter 31 = .ok (.goto 4, 3) := fp_dk fp_hdX7_point_58.2.2.2.1.1
theorem dX7_likesBetter_34 : decode cX7_likesBetter 34 = .ok (.iconst 0, 1) := fp_dk fp_hdX7_point_58.2.2.2.1.2
theorem dX7_likesBetter_35 : decode cX7_likesBetter 35 = .ok (.ireturn, 1) := fp_dk fp_hdX7_point_58.2.2.2.2.1
theorem dX7_takeIfInRing_0 : decode cX7_takeIfInRing 0 = .ok (.aload_n 0, 1) := fp_dk fp_hdX7_point_58.2.2.2.2.2
theorem fp_hdX7_takeIfInRing_1 : (((((fp_dq cX7_takeIfInRing 1 (.iload_n 1, 1) = true ∧ fp_dq cX7_takeIfInRing 2 (.invokevirtual 45, 3) = true) ∧ (fp_dq cX7_takeIfInRing 5 (.ifCond .ne 5, 3) = true ∧ fp_dq cX7_takeIfInRing 8 (.iconst 0, 1) = true)) ∧ ((fp_dq cX7_takeIfInRing 9 (.ireturn, 1) = true ∧ fp_dq cX7_takeIfInRing 10 (.iconst 0, 1) = true) ∧ (fp_dq cX7_takeIfInRing 11 (.istore_n 2, 1) = true ∧ fp_dq cX7_takeIfInRing 12 (.iload_n 1, 1) = true))) ∧ (((fp_dq cX7_takeIfInRing 13 (.istore_n 3, 1) = true ∧ fp_dq cX7_takeIfInRing 14 (.iconst 0, 1) = true) ∧ (fp_dq cX7_takeIfInRing 15 (.istore 4, 2) = true ∧ fp_dq cX7_takeIfInRing 17 (.iload 4, 2) = true)) ∧ ((fp_dq cX7_takeIfInRing 19 (.iconst 4, 1) = true ∧ fp_dq cX7_takeIfInRing 20 (.if_icmp .ge 55, 3) = true) ∧ (fp_dq cX7_takeIfInRing 23 (.iload_n 2, 1) = true ∧ fp_dq cX7_takeIfInRing 24 (.iconst 1, 1) = true)))) ∧ ((((fp_dq cX7_takeIfInRing 25 (.iload_n 3, 1) = true ∧ fp_dq cX7_takeIfInRing 26 (.ishl, 1) = true) ∧ (fp_dq cX7_takeIfInRing 27 (.ior, 1) = true ∧ fp_dq cX7_takeIfInRing 28 (.istore_n 2, 1) = true)) ∧ ((fp_dq cX7_takeIfInRing 29 (.aload_n 0, 1) = true ∧ fp_dq cX7_takeIfInRing 30 (.getfield 21, 3) = true) ∧ (fp_dq cX7_takeIfInRing 33 (.iload_n 3, 1) = true ∧ fp_dq cX7_takeIfInRing 34 (.iaload, 1) = true))) ∧ (((fp_dq cX7_takeIfInRing 35 (.istore_n 3, 1) = true ∧ fp_dq cX7_takeIfInRing 36 (.iload_n 3, 1) = true) ∧ (fp_dq cX7_takeIfInRing 37 (.iload_n 1, 1) = true ∧ fp_dq cX7_takeIfInRing 38 (.if_icmp .ne 31, 3) = true)) ∧ ((fp_dq cX7_takeIfInRing 41 (.aload_n 0, 1) = true ∧ fp_dq cX7_takeIfInRing 42 (.getfield 9, 3) = true) ∧ (fp_dq cX7_takeIfInRing 45 (.iload_n 1, 1) = true ∧ fp_dq cX7_takeIfInRing 46 (.aload_n 0, 1) = true))))) := by decide +kernel
theorem dX7_takeIfInRing_1 : decode cX7_takeIfInRing 1 = .ok (.iload_n 1, 1) := fp_dk fp_hdX7_takeIfInRing_1.1.1.1.1.1
theorem dX7_takeIfInRing_2 : decode cX7_takeIfInRing 2 = .ok (.invokevirtual 45, 3) := fp_dk fp_hdX7_takeIfInRing_1.1.1.1.1.2
theorem dX7_takeIfInRing_5 : decode cX7_takeIfInRing 5 = .ok (.ifCond .ne 5, 3) := fp_dk fp_hdX7_takeIfInRing_1.1.1.1.2.1
theorem dX7_takeIfInRing_8 : decode cX7_takeIfInRing 8 = .ok (.iconst 0, 1) := fp_dk fp_hdX7_takeIfInRing_1.1.1.1.2.2
theorem dX7_takeIfInRing_9 : decode cX7_takeIfInRing 9 = .ok (.ireturn, 1) := fp_dk fp_hdX7_takeIfInRing_1.1.1.2.1.1
theorem dX7_takeIfInRing_10 : decode cX7_takeIfInRing 10 = .ok (.iconst 0, 1) := fp_dk fp_hdX7_takeIfInRing_1.1.1.2.1.2
theorem dX7_takeIfInRing_11 : decode cX7_takeIfInRing 11 = .ok (.istore_n 2, 1) := fp_dk fp_hdX7_takeIfInRing_1.1.1.2.2.1
theorem dX7_takeIfInRing_12 : decode cX7_takeIfInRing 12 = .ok (.iload_n 1, 1) := fp_dk fp_hdX7_takeIfInRing_1.1.1.2.2.2
theorem dX7_takeIfInRing_13 : decode cX7_takeIfInRing 13 = .ok (.istore_n 3, 1) := fp_dk fp_hdX7_takeIfInRing_1.1.2.1.1.1
theorem dX7_takeIfInRing_14 : decode cX7_takeIfInRing 14 = .ok (.iconst 0, 1) := fp_dk fp_hdX7_takeIfInRing_1.1.2.1.1.2
theorem dX7_takeIfInRing_15 : decode cX7_takeIfInRing 15 = .ok (.istore 4, 2) := fp_dk fp_hdX7_takeIfInRing_1.1.2.1.2.1
theorem dX7_takeIfInRing_17 : decode cX7_takeIfInRing 17 = .ok (.iload 4, 2) := fp_dk fp_hdX7_takeIfInRing_1.1.2.1.2.2
theorem dX7_takeIfInRing_19 : decode cX7_takeIfInRing 19 = .ok (.iconst 4, 1) := fp_dk fp_hdX7_takeIfInRing_1.1.2.2.1.1
theorem dX7_takeIfInRing_20 : decode cX7_takeIfInRing 20 = .ok (.if_icmp .ge 55, 3) := fp_dk fp_hdX7_takeIfInRing_1.1.2.2.1.2
theorem dX7_takeIfInRing_23 : decode cX7_takeIfInRing 23 = .ok (.iload_n 2, 1) := fp_dk fp_hdX7_takeIfInRing_1.1.2.2.2.1
theorem dX7_takeIfInRing_24 : decode cX7_takeIfInRing 24 = .ok (.iconst 1, 1) := fp_dk fp_hdX7_takeIfInRing_1.1.2.2.2.2
theorem dX7_takeIfInRing_25 : decode cX7_takeIfInRing 25 = .ok (.iload_n 3, 1) := fp_dk fp_hdX7_takeIfInRing_1.2.1.1.1.1
theorem dX7_takeIfInRing_26 : decode cX7_takeIfInRing 26 = .ok (.ishl, 1) := fp_dk fp_hdX7_takeIfInRing_1.2.1.1.1.2
theorem dX7_takeIfInRing_27 : decode cX7_takeIfInRing 27 = .ok (.ior, 1) := fp_dk fp_hdX7_takeIfInRing_1.2.1.1.2.1
theorem dX7_takeIfInRing_28 : decode cX7_takeIfInRing 28 = .ok (.istore_n 2, 1) := fp_dk fp_hdX7_takeIfInRing_1.2.1.1.2.2
theorem dX7_takeIfInRing_29 : decode cX7_takeIfInRing 29 = .ok (.aload_n 0, 1) := fp_dk fp_hdX7_takeIfInRing_1.2.1.2.1.1
theorem dX7_takeIfInRing_30 : decode cX7_takeIfInRing 30 = .ok (.getfield 21, 3) := fp_dk fp_hdX7_takeIfInRing_1.2.1.2.1.2
theorem dX7_takeIfInRing_33 : decode cX7_takeIfInRing 33 = .ok (.iload_n 3, 1) := fp_dk fp_hdX7_takeIfInRing_1.2.1.2.2.1
theorem dX7_takeIfInRing_34 : decode cX7_takeIfInRing 34 = .ok (.iaload, 1) := fp_dk fp_hdX7_takeIfInRing_1.2.1.2.2.2
theorem dX7_takeIfInRing_35 : decode cX7_takeIfInRing 35 = .ok (.istore_n 3, 1) := fp_dk fp_hdX7_takeIfInRing_1.2.2.1.1.1
theorem dX7_takeIfInRing_36 : decode cX7_takeIfInRing 36 = .ok (.iload_n 3, 1) := fp_dk fp_hdX7_takeIfInRing_1.2.2.1.1.2
theorem dX7_takeIfInRing_37 : decode cX7_takeIfInRing 37 = .ok (.iload_n 1, 1) := fp_dk fp_hdX7_takeIfInRing_1.2.2.1.2.1
theorem dX7_takeIfInRing_38 : decode cX7_takeIfInRing 38 = .ok (.if_icmp .ne 31, 3) := fp_dk fp_hdX7_takeIfInRing_1.2.2.1.2.2
theorem dX7_takeIfInRing_41 : decode cX7_takeIfInRing 41 = .ok (.aload_n 0, 1) := fp_dk fp_hdX7_takeIfInRing_1.2.2.2.1.1
theorem dX7_takeIfInRing_42 : decode cX7_takeIfInRing 42 = .ok (.getfield 9, 3) := fp_dk fp_hdX7_takeIfInRing_1.2.2.2.1.2
theorem dX7_takeIfInRing_45 : decode cX7_takeIfInRing 45 = .ok (.iload_n 1, 1) := fp_dk fp_hdX7_takeIfInRing_1.2.2.2.2.1
theorem dX7_takeIfInRing_46 : decode cX7_takeIfInRing 46 = .ok (.aload_n 0, 1) := fp_dk fp_hdX7_takeIfInRing_1.2.2.2.2.2
theorem fp_hdX7_takeIfInRing_47 : (((((fp_dq cX7_takeIfInRing 47 (.getfield 18, 3) = true ∧ fp_dq cX7_takeIfInRing 50 (.aload_n 0, 1) = true) ∧ (fp_dq cX7_takeIfInRing 51 (.getfield 21, 3) = true ∧ fp_dq cX7_takeIfInRing 54 (.iload_n 1, 1) = true)) ∧ ((fp_dq cX7_takeIfInRing 55 (.iaload, 1) = true ∧ fp_dq cX7_takeIfInRing 56 (.iaload, 1) = true) ∧ (fp_dq cX7_takeIfInRing 57 (.iastore, 1) = true ∧ fp_dq cX7_takeIfInRing 58 (.aload_n 0, 1) = true))) ∧ (((fp_dq cX7_takeIfInRing 59 (.getfield 15, 3) = true ∧ fp_dq cX7_takeIfInRing 62 (.iload_n 1, 1) = true) ∧ (fp_dq cX7_takeIfInRing 63 (.iload_n 2, 1) = true ∧ fp_dq cX7_takeIfInRing 64 (.iastore, 1) = true)) ∧ ((fp_dq cX7_takeIfInRing 65 (.iconst 1, 1) = true ∧ fp_dq cX7_takeIfInRing 66 (.iload_n 1, 1) = true) ∧ (fp_dq cX7_takeIfInRing 67 (.ishl, 1) = true ∧ fp_dq cX7_takeIfInRing 68 (.ireturn, 1) = true)))) ∧ ((((fp_dq cX7_takeIfInRing 69 (.iinc 4 1, 3) = true ∧ fp_dq cX7_takeIfInRing 72 (.goto (-55), 3) = true) ∧ (fp_dq cX7_takeIfInRing 75 (.iconst 0, 1) = true ∧ fp_dq cX7_takeIfInRing 76 (.ireturn, 1) = true)) ∧ ((fp_dq cX8_init 0 (.aload_n 0, 1) = true ∧ fp_dq cX8_init 1 (.invokespecial 3, 3) = true) ∧ (fp_dq cX8_init 4 (.aload_n 0, 1) = true ∧ fp_dq cX8_init 5 (.bipush 13, 2) = true))) ∧ (((fp_dq cX8_init 7 (.anewarray 9, 3) = true ∧ fp_dq cX8_init 10 (.putfield 11, 3) = true) ∧ (fp_dq cX8_init 13 (.aload_n 0, 1) = true ∧ fp_dq cX8_init 14 (.iconst 3, 1) = true)) ∧ ((fp_dq cX8_init 15 (.anewarray 9, 3) = true ∧ fp_dq cX8_init 18 (.putfield 17, 3) = true) ∧ (fp_dq cX8_init 21 (.aload_n 0, 1) = true ∧ fp_dq cX8_init 22 (.iconst 3, 1) = true))))) := by decide +kernel
theorem dX7_takeIfInRing_47 : decode cX7_takeIfInRing 47 = .ok (.getfield 18, 3) := fp_dk fp_hdX7_takeIfInRing_47.1.1.1.1.1
theorem dX7_takeIfInRing_50 : decode cX7_takeIfInRing 50 = .ok (.aload_n 0, 1) := fp_dk fp_hdX7_takeIfInRing_47.1.1.1.1.2
theorem dX7_takeIfInRing_51 : decode cX7_takeIfInRing 51 = .ok (.getfield 21, 3) := fp_dk fp_hdX7_takeIfInRing_47.1.1.1.2.1
theorem dX7_takeIfInRing_54 : decode cX7_takeIfInRing 54 = .ok (.iload_n 1, 1) := fp_dk fp_hdX7_takeIfInRing_47.1.1.1.2.2
theorem dX7_takeIfInRing_55 : decode cX7_takeIfInRing 55 = .ok (.iaload, 1) := fp_dk fp_hdX7_takeIfInRing_47.1.1.2.1.1
theorem dX7_takeIfInRing_56 : decode cX7_takeIfInRing 56 = .ok (.iaload, 1) := fp_dk fp_hdX7_takeIfInRing_47.1.1.2.1.2
theorem dX7_takeIfInRing_57 : decode cX7_takeIfInRing 57 = .ok (.iastore, 1) := fp_dk fp_hdX7_takeIfInRing_47.1.1.2.2.1
theorem dX7_takeIfInRing_58 : decode cX7_takeIfInRing 58 = .ok (.aload_n 0, 1) := fp_dk fp_hdX7_takeIfInRing_47.1.1.2.2.2
theorem dX7_takeIfInRing_59 : decode cX7_takeIfInRing 59 = .ok (.getfield 15, 3) := fp_dk fp_hdX7_takeIfInRing_47.1.2.1.1.1
theorem dX7_takeIfInRing_62 : decode cX7_takeIfInRing 62 = .ok (.iload_n 1, 1) := fp_dk fp_hdX7_takeIfInRing_47.1.2.1.1.2
theorem dX7_takeIfInRing_63 : decode cX7_takeIfInRing 63 = .ok (.iload_n 2, 1) := fp_dk fp_hdX7_takeIfInRing_47.1.2.1.2.1
theorem dX7_takeIfInRing_64 : decode cX7_takeIfInRing 64 = .ok (.iastore, 1) := fp_dk fp_hdX7_takeIfInRing_47.1.2.1.2.2
theorem dX7_takeIfInRing_65 : decode cX7_takeIfInRing 65 = .ok (.iconst 1, 1) := fp_dk fp_hdX7_takeIfInRing_47.1.2.2.1.1
theorem dX7_takeIfInRing_66 : decode cX7_takeIfInRing 66 = .ok (.iload_n 1, 1) := fp_dk fp_hdX7_takeIfInRing_47.1.2.2.1.2
theorem dX7_takeIfInRing_67 : decode cX7_takeIfInRing 67 = .ok (.ishl, 1) := fp_dk fp_hdX7_takeIfInRing_47.1.2.2.2.1
theorem dX7_takeIfInRing_68 : decode cX7_takeIfInRing 68 = .ok (.ireturn, 1) := fp_dk fp_hdX7_takeIfInRing_47.1.2.2.2.2
theorem dX7_takeIfInRing_69 : decode cX7_takeIfInRing 69 = .ok (.iinc 4 1, 3) := fp_dk fp_hdX7_takeIfInRing_47.2.1.1.1.1
theorem dX7_takeIfInRing_72 : decode cX7_takeIfInRing 72 = .ok (.goto (-55), 3) := fp_dk fp_hdX7_takeIfInRing_47.2.1.1.1.2
theorem dX7_takeIfInRing_75 : decode cX7_takeIfInRing 75 = .ok (.iconst 0, 1) := fp_dk fp_hdX7_takeIfInRing_47.2.1.1.2.1
theorem dX7_takeIfInRing_76 : decode cX7_takeIfInRing 76 = .ok (.ireturn, 1) := fp_dk fp_hdX7_takeIfInRing_47.2.1.1.2.2
theorem dX8_init_0 : decode cX8_init 0 = .ok (.aload_n 0, 1) := fp_dk fp_hdX7_takeIfInRing_47.2.1.2.1.1
theorem dX8_init_1 : decode cX8_init 1 = .ok (.invokespecial 3, 3) := fp_dk fp_hdX7_takeIfInRing_47.2.1.2.1.2
theorem dX8_init_4 : decode cX8_init 4 = .ok (.aload_n 0, 1) := fp_dk fp_hdX7_takeIfInRing_47.2.1.2.2.1
theorem dX8_init_5 : decode cX8_init 5 = .ok (.bipush 13, 2) := fp_dk fp_hdX7_takeIfInRing_47.2.1.2.2.2
theorem dX8_init_7 : decode cX8_init 7 = .ok (.anewarray 9, 3) := fp_dk fp_hdX7_takeIfInRing_47.2.2.1.1.1
theorem dX8_init_10 : decode cX8_init 10 = .ok (.putfield 11, 3) := fp_dk fp_hdX7_takeIfInRing_47.2.2.1.1.2
theorem dX8_init_13 : decode cX8_init 13 = .ok (.aload_n 0, 1) := fp_dk fp_hdX7_takeIfInRing_47.2.2.1.2.1
theorem dX8_init_14 : decode cX8_init 14 = .ok (.iconst 3, 1) := fp_dk fp_hdX7_takeIfInRing_47.2.2.1.2.2
theorem dX8_init_15 : decode cX8_init 15 = .ok (.anewarray 9, 3) := fp_dk fp_hdX7_takeIfInRing_47.2.2.2.1.1
theorem dX8_init_18 : decode cX8_init 18 = .ok (.putfield 17, 3) := fp_dk fp_hdX7_takeIfInRing_47.2.2.2.1.2
theorem dX8_init_21 : decode cX8_init 21 = .ok (.aload_n 0, 1) := fp_dk fp_hdX7_takeIfInRing_47.2.2.2.2.1
theorem dX8_init_22 : decode cX8_init 22 = .ok (.iconst 3, 1) := fp_dk fp_hdX7_takeIfInRing_47.2.2.2.2.2
theorem fp_hdX8_init_23 : (((((fp_dq cX8_init 23 (.newarray .boolean, 2) = true ∧ fp_dq cX8_init 25 (.putfield 20, 3) = true) ∧ (fp_dq cX8_init 28 (.aload_n 0, 1) = true ∧ fp_dq cX8_init 29 (.bipush 12, 2) = true)) ∧ ((fp_dq cX8_init 31 (.newarray .int, 2) = true ∧ fp_dq cX8_init 33 (.putfield 24, 3) = true) ∧ (fp_dq cX8_init 36 (.aload_n 0, 1) = true ∧ fp_dq cX8_init 37 (.bipush 12, 2) = true))) ∧ (((fp_dq cX8_init 39 (.newarray .int, 2) = true ∧ fp_dq cX8_init 41 (.putfield 28, 3) = true) ∧ (fp_dq cX8_init 44 (.aload_n 0, 1) = true ∧ fp_dq cX8_init 45 (.bipush 10, 2) = true)) ∧ ((fp_dq cX8_init 47 (.newarray .long, 2) = true ∧ fp_dq cX8_init 49 (.putfield 31, 3) = true) ∧ (fp_dq cX8_init 52 (.iconst 0, 1) = true ∧ fp_dq cX8_init 53 (.istore_n 1, 1) = true)))) ∧ ((((fp_dq cX8_init 54 (.iload_n 1, 1) = true ∧ fp_dq cX8_init 55 (.bipush 12, 2) = true) ∧ (fp_dq cX8_init 57 (.if_icmp .gt 22, 3) = true ∧ fp_dq cX8_init 60 (.aload_n 0, 1) = true)) ∧ ((fp_dq cX8_init 61 (.getfield 11, 3) = true ∧ fp_dq cX8_init 64 (.iload_n 1, 1) = true) ∧ (fp_dq cX8_init 65 (.new 9, 3) = true ∧ fp_dq cX8_init 68 (.dup, 1) = true))) ∧ (((fp_dq cX8_init 69 (.invokespecial 35, 3) = true ∧ fp_dq cX8_init 72 (.aastore, 1) = true) ∧ (fp_dq cX8_init 73 (.iinc 1 1, 3) = true ∧ fp_dq cX8_init 76 (.goto (-22), 3) = true)) ∧ ((fp_dq cX8_init 79 (.iconst 0, 1) = true ∧ fp_dq cX8_init 80 (.istore_n 1, 1) = true) ∧ (fp_dq cX8_init 81 (.iload_n 1, 1) = true ∧ fp_dq cX8_init 82 (.iconst 3, 1) = true))))) := by decide +kernel
theorem dX8_init_23 : decode cX8_init 23 = .ok (.newarray .boolean, 2) := fp_dk fp_hdX8_init_23.1.1.1.1.1
theorem dX8_init_25 : decode cX8_init 25 = .ok (.putfield 20, 3) := fp_dk fp_hdX8_init_23.1.1.1.1.2
theorem dX8_init_28 : decode cX8_init 28 = .ok (.aload_n 0, 1) := fp_dk fp_hdX8_init_23.1.1.1.2.1
theorem dX8_init_29 : decode cX8_init 29 = .ok (.bipush 12, 2) := fp_dk fp_hdX8_init_23.1.1.1.2.2
theorem dX8_init_31 : decode cX8_init 31 = .ok (.newarray .int, 2) := fp_dk fp_hdX8_init_23.1.1.2.1.1
theorem dX8_init_33 : decode cX8_init 33 = .ok (.putfield 24, 3) := fp_dk fp_hdX8_init_23.1.1.2.1.2
theorem dX8_init_36 : decode cX8_init 36 = .ok (.aload_n 0, 1) := fp_dk fp_hdX8_init_23.1.1.2.2.1
theorem dX8_init_37 : decode cX8_init 37 = .ok (.bipush 12, 2) := fp_dk fp_hdX8_init_23.1.1.2.2.2
theorem dX8_init_39 : decode cX8_init 39 = .ok (.newarray .int, 2) := fp_dk fp_hdX8_init_23.1.2.1.1.1
theorem dX8_init_41 : decode cX8_init 41 = .ok (.putfield 28, 3) := fp_dk fp_hdX8_init_23.1.2.1.1.2
theorem dX8_init_44 : decode cX8_init 44 = .ok (.aload_n 0, 1) := fp_dk fp_hdX8_init_23.1.2.1.2.1
theorem dX8_init_45 : decode cX8_init 45 = .ok (.bipush 10, 2) := fp_dk fp_hdX8_init_23.1.2.1.2.2
theorem dX8_init_47 : decode cX8_init 47 = .ok (.newarray .long, 2) := fp_dk fp_hdX8_init_23.1.2.2.1.1
theorem dX8_init_49 : decode cX8_init 49 = .ok (.putfield 31, 3) := fp_dk fp_hdX8_init_23.1.2.2.1.2
theorem dX8_init_52 : decode cX8_init 52 = .ok (.iconst 0, 1) := fp_dk fp_hdX8_init_23.1.2.2.2.1
theorem dX8_init_53 : decode cX8_init 53 = .ok (.istore_n 1, 1) := fp_dk fp_hdX8_init_23.1.2.2.2.2
theorem dX8_init_54 : decode cX8_init 54 = .ok (.iload_n 1, 1) := fp_dk fp_hdX8_init_23.2.1.1.1.1
theorem dX8_init_55 : decode cX8_init 55 = .ok (.bipush 12, 2) := fp_dk fp_hdX8_init_23.2.1.1.1.2
theorem dX8_init_57 : decode cX8_init 57 = .ok (.if_icmp .gt 22, 3) := fp_dk fp_hdX8_init_23.2.1.1.2.1
theorem dX8_init_60 : decode cX8_init 60 = .ok (.aload_n 0, 1) := fp_dk fp_hdX8_init_23.2.1.1.2.2
theorem dX8_init_61 : decode cX8_init 61 = .ok (.getfield 11, 3) := fp_dk fp_hdX8_init_23.2.1.2.1.1
theorem dX8_init_64 : decode cX8_init 64 = .ok (.iload_n 1, 1) := fp_dk fp_hdX8_init_23.2.1.2.1.2
theorem dX8_init_65 : decode cX8_init 65 = .ok (.new 9, 3) := fp_dk fp_hdX8_init_23.2.1.2.2.1
theorem dX8_init_68 : decode cX8_init 68 = .ok (.dup, 1) := fp_dk fp_hdX8_init_23.2.1.2.2.2
theorem dX8_init_69 : decode cX8_init 69 = .ok (.invokespecial 35, 3) := fp_dk fp_hdX8_init_23.2.2.1.1.1
theorem dX8_init_72 : decode cX8_init 72 = .ok (.aastore, 1) := fp_dk fp_hdX8_init_23.2.2.1.1.2
theorem dX8_init_73 : decode cX8_init 73 = .ok (.iinc 1 1, 3) := fp_dk fp_hdX8_init_23.2.2.1.2.1
theorem dX8_init_76 : decode cX8_init 76 = .ok (.goto (-22), 3) := fp_dk fp_hdX8_init_23.2.2.1.2.2
theorem dX8_init_79 : decode cX8_init 79 = .ok (.iconst 0, 1) := fp_dk fp_hdX8_init_23.2.2.2.1.1
theorem dX8_init_80 : decode cX8_init 80 = .ok (.istore_n 1, 1) := fp_dk fp_hdX8_init_23.2.2.2.1.2
theorem dX8_init_81 : decode cX8_init 81 = .ok (.iload_n 1, 1) := fp_dk fp_hdX8_init_23.2.2.2.2.1
theorem dX8_init_82 : decode cX8_init 82 = .ok (.iconst 3, 1) := fp_dk fp_hdX8_init_23.2.2.2.2.2
theorem fp_hdX8_init_83 : (((((fp_dq cX8_init 83 (.if_icmp .ge 22, 3) = true ∧ fp_dq cX8_init 86 (.aload_n 0, 1) = true) ∧ (fp_dq cX8_init 87 (.getfield 17, 3) = true ∧ fp_dq cX8_init 90 (.iload_n 1, 1) = true)) ∧ ((fp_dq cX8_init 91 (.new 9, 3) = true ∧ fp_dq cX8_init 94 (.dup, 1) = true) ∧ (fp_dq cX8_init 95 (.invokespecial 35, 3) = true ∧ fp_dq cX8_init 98 (.aastore, 1) = true))) ∧ (((fp_dq cX8_init 99 (.iinc 1 1, 3) = true ∧ fp_dq cX8_init 102 (.goto (-21), 3) = true) ∧ (fp_dq cX8_init 105 (.return_, 1) = true ∧ fp_dq cX8_behind 0 (.aload_n 0, 1) = true)) ∧ ((fp_dq cX8_behind 1 (.getfield 11, 3) = true ∧ fp_dq cX8_behind 4 (.iconst 0, 1) = true) ∧ (fp_dq cX8_behind 5 (.aaload, 1) = true ∧ fp_dq cX8_behind 6 (.astore 5, 2) = true)))) ∧ ((((fp_dq cX8_behind 8 (.aload 5, 2) = true ∧ fp_dq cX8_behind 10 (.aload_n 3, 1) = true) ∧ (fp_dq cX8_behind 11 (.invokevirtual 36, 3) = true ∧ fp_dq cX8_behind 14 (.iconst 0, 1) = true)) ∧ ((fp_dq cX8_behind 15 (.istore 6, 2) = true ∧ fp_dq cX8_behind 17 (.iload 6, 2) = true) ∧ (fp_dq cX8_behind 19 (.iload 4, 2) = true ∧ fp_dq cX8_behind 21 (.if_icmp .ge 19, 3) = true))) ∧ (((fp_dq cX8_behind 24 (.aload_n 2, 1) = true ∧ fp_dq cX8_behind 25 (.aload_n 1, 1) = true) ∧ (fp_dq cX8_behind 26 (.aload 5, 2) = true ∧ fp_dq cX8_behind 28 (.iload 6, 2) = true)) ∧ ((fp_dq cX8_behind 30 (.invokevirtual 40, 3) = true ∧ fp_dq cX8_behind 33 (.pop, 1) = true) ∧ (fp_dq cX8_behind 34 (.iinc 6 1, 3) = true ∧ fp_dq cX8_behind 37 (.goto (-20), 3) = true))))) := by decide +kernel
theorem dX8_init_83 : decode cX8_init 83 = .ok (.if_icmp .ge 22, 3) := fp_dk fp_hdX8_init_83.1.1.1.1.1
theorem dX8_init_86 : decode cX8_init 86 = .ok (.aload_n 0, 1) := fp_dk fp_hdX8_init_83.1.1.1.1.2
theorem dX8_init_87 : decode cX8_init 87 = .ok (.getfield 17, 3) := fp_dk fp_hdX8_init_83.1.1.1.2.1
theorem dX8_init_90 : decode cX8_init 90 = .ok (.iload_n 1, 1) := fp_dk fp_hdX8_init_83.1.1.1.2.2
theorem dX8_init_91 : decode cX8_init 91 = .ok (.new 9, 3) := fp_dk fp_hdX8_init_83.1.1.2.1.1
theorem dX8_init_94 : decode cX8_init 94 = .ok (.dup, 1) := fp_dk fp_hdX8_init_83.1.1.2.1.2
theorem dX8_init_95 : decode cX8_init 95 = .ok (.invokespecial 35, 3) := fp_dk fp_hdX8_init_83.1.1.2.2.1
theorem dX8_init_98 : decode cX8_init 98 = .ok (.aastore, 1) := fp_dk fp_hdX8_init_83.1.1.2.2.2
theorem dX8_init_99 : decode cX8_init 99 = .ok (.iinc 1 1, 3) := fp_dk fp_hdX8_init_83.1.2.1.1.1
theorem dX8_init_102 : decode cX8_init 102 = .ok (.goto (-21), 3) := fp_dk fp_hdX8_init_83.1.2.1.1.2
theorem dX8_init_105 : decode cX8_init 105 = .ok (.return_, 1) := fp_dk fp_hdX8_init_83.1.2.1.2.1
theorem dX8_behind_0 : decode cX8_behind 0 = .ok (.aload_n 0, 1) := fp_dk fp_hdX8_init_83.1.2.1.2.2
theorem dX8_behind_1 : decode cX8_behind 1 = .ok (.getfield 11, 3) := fp_dk fp_hdX8_init_83.1.2.2.1.1
theorem dX8_behind_4 : decode cX8_behind 4 = .ok (.iconst 0, 1) := fp_dk fp_hdX8_init_83.1.2.2.1.2
theorem dX8_behind_5 : decode cX8_behind 5 = .ok (.aaload, 1) := fp_dk fp_hdX8_init_83.1.2.2.2.1
theorem dX8_behind_6 : decode cX8_behind 6 = .ok (.astore 5, 2) := fp_dk fp_hdX8_init_83.1.2.2.2.2
theorem dX8_behind_8 : decode cX8_behind 8 = .ok (.aload 5, 2) := fp_dk fp_hdX8_init_83.2.1.1.1.1
theorem dX8_behind_10 : decode cX8_behind 10 = .ok (.aload_n 3, 1) := fp_dk fp_hdX8_init_83.2.1.1.1.2
theorem dX8_behind_11 : decode cX8_behind 11 = .ok (.invokevirtual 36, 3) := fp_dk fp_hdX8_init_83.2.1.1.2.1
theorem dX8_behind_14 : decode cX8_behind 14 = .ok (.iconst 0, 1) := fp_dk fp_hdX8_init_83.2.1.1.2.2
theorem dX8_behind_15 : decode cX8_behind 15 = .ok (.istore 6, 2) := fp_dk fp_hdX8_init_83.2.1.2.1.1
theorem dX8_behind_17 : decode cX8_behind 17 = .ok (.iload 6, 2) := fp_dk fp_hdX8_init_83.2.1.2.1.2
theorem dX8_behind_19 : decode cX8_behind 19 = .ok (.iload 4, 2) := fp_dk fp_hdX8_init_83.2.1.2.2.1
theorem dX8_behind_21 : decode cX8_behind 21 = .ok (.if_icmp .ge 19, 3) := fp_dk fp_hdX8_init_83.2.1.2.2.2
theorem dX8_behind_24 : decode cX8_behind 24 = .ok (.aload_n 2, 1) := fp_dk fp_hdX8_init_83.2.2.1.1.1
theorem dX8_behind_25 : decode cX8_behind 25 = .ok (.aload_n 1, 1) := fp_dk fp_hdX8_init_83.2.2.1.1.2
theorem dX8_behind_26 : decode cX8_behind 26 = .ok (.aload 5, 2) := fp_dk fp_hdX8_init_83.2.2.1.2.1
theorem dX8_behind_28 : decode cX8_behind 28 = .ok (.iload 6, 2) := fp_dk fp_hdX8_init_83.2.2.1.2.2
theorem dX8_behind_30 : decode cX8_behind 30 = .ok (.invokevirtual 40, 3) := fp_dk fp_hdX8_init_83.2.2.2.1.1
theorem dX8_behind_33 : decode cX8_behind 33 = .ok (.pop, 1) := fp_dk fp_hdX8_init_83.2.2.2.1.2
theorem dX8_behind_34 : decode cX8_behind 34 = .ok (.iinc 6 1, 3) := fp_dk fp_hdX8_init_83.2.2.2.2.1
theorem dX8_behind_37 : decode cX8_behind 37 = .ok (.goto (-20), 3) := fp_dk fp_hdX8_init_83.2.2.2.2.2
theorem fp_hdX8_behind_40 : (((((fp_dq cX8_behind 40 (.aload 5, 2) = true ∧ fp_dq cX8_behind 42 (.areturn, 1) = true) ∧ (fp_dq cX8_tryTrick 0 (.aload_n 0, 1) = true ∧ fp_dq cX8_tryTrick 1 (.aload_n 1, 1) = true)) ∧ ((fp_dq cX8_tryTrick 2 (.aload_n 2, 1) = true ∧ fp_dq cX8_tryTrick 3 (.aload_n 3, 1) = true) ∧ (fp_dq cX8_tryTrick 4 (.iload 4, 2) = true ∧ fp_dq cX8_tryTrick 6 (.invokevirtual 46, 3) = true))) ∧ (((fp_dq cX8_tryTrick 9 (.astore 6, 2) = true ∧ fp_dq cX8_tryTrick 11 (.iconst 0, 1) = true) ∧ (fp_dq cX8_tryTrick 12 (.istore 7, 2) = true ∧ fp_dq cX8_tryTrick 14 (.iload 7, 2) = true)) ∧ ((fp_dq cX8_tryTrick 16 (.aload_n 1, 1) = true ∧ fp_dq cX8_tryTrick 17 (.getfield 50, 3) = true) ∧ (fp_dq cX8_tryTrick 20 (.if_icmp .ge 49, 3) = true ∧ fp_dq cX8_tryTrick 23 (.aload_n 0, 1) = true)))) ∧ ((((fp_dq cX8_tryTrick 24 (.getfield 17, 3) = true ∧ fp_dq cX8_tryTrick 27 (.iload 7, 2) = true) ∧ (fp_dq cX8_tryTrick 29 (.aaload, 1) = true ∧ fp_dq cX8_tryTrick 30 (.aload 6, 2) = true)) ∧ ((fp_dq cX8_tryTrick 32 (.invokevirtual 36, 3) = true ∧ fp_dq cX8_tryTrick 35 (.aload_n 0, 1) = true) ∧ (fp_dq cX8_tryTrick 36 (.getfield 20, 3) = true ∧ fp_dq cX8_tryTrick 39 (.iload 7, 2) = true))) ∧ (((fp_dq cX8_tryTrick 41 (.aload_n 0, 1) = true ∧ fp_dq cX8_tryTrick 42 (.getfield 17, 3) = true) ∧ (fp_dq cX8_tryTrick 45 (.iload 7, 2) = true ∧ fp_dq cX8_tryTrick 47 (.aaload, 1) = true)) ∧ ((fp_dq cX8_tryTrick 48 (.aload_n 3, 1) = true ∧ fp_dq cX8_tryTrick 49 (.getfield 56, 3) = true) ∧ (fp_dq cX8_tryTrick 52 (.iload 5, 2) = true ∧ fp_dq cX8_tryTrick 54 (.iaload, 1) = true))))) := by decide +kernel
theorem dX8_behind_40 : decode cX8_behind 40 = .ok (.aload 5, 2) := fp_dk fp_hdX8_behind_40.1.1.1.1.1
theorem dX8_behind_42 : decode cX8_behind 42 = .ok (.areturn, 1) := fp_dk fp_hdX8_behind_40.1.1.1.1.2
theorem dX8_tryTrick_0 : decode cX8_tryTrick 0 = .ok (.aload_n 0, 1) := fp_dk fp_hdX8_behind_40.1.1.1.2.1
theorem dX8_tryTrick_1 : decode cX8_tryTrick 1 = .ok (.aload_n 1, 1) := fp_dk fp_hdX8_behind_40.1.1.1.2.2
theorem dX8_tryTrick_2 : decode cX8_tryTrick 2 = .ok (.aload_n 2, 1) := fp_dk fp_hdX8_behind_40.1.1.2.1.1
theorem dX8_tryTrick_3 : decode cX8_tryTrick 3 = .ok (.aload_n 3, 1) := fp_dk fp_hdX8_behind_40.1.1.2.1.2
theorem dX8_tryTrick_4 : decode cX8_tryTrick 4 = .ok (.iload 4, 2) := fp_dk fp_hdX8_behind_40.1.1.2.2.1
theorem dX8_tryTrick_6 : decode cX8_tryTrick 6 = .ok (.invokevirtual 46, 3) := fp_dk fp_hdX8_behind_40.1.1.2.2.2
theorem dX8_tryTrick_9 : decode cX8_tryTrick 9 = .ok (.astore 6, 2) := fp_dk fp_hdX8_behind_40.1.2.1.1.1
theorem dX8_tryTrick_11 : decode cX8_tryTrick 11 = .ok (.iconst 0, 1) := fp_dk fp_hdX8_behind_40.1.2.1.1.2
theorem dX8_tryTrick_12 : decode cX8_tryTrick 12 = .ok (.istore 7, 2) := fp_dk fp_hdX8_behind_40.1.2.1.2.1
theorem dX8_tryTrick_14 : decode cX8_tryTrick 14 = .ok (.iload 7, 2) := fp_dk fp_hdX8_behind_40.1.2.1.2.2
theorem dX8_tryTrick_16 : decode cX8_tryTrick 16 = .ok (.aload_n 1, 1) := fp_dk fp_hdX8_behind_40.1.2.2.1.1
theorem dX8_tryTrick_17 : decode cX8_tryTrick 17 = .ok (.getfield 50, 3) := fp_dk fp_hdX8_behind_40.1.2.2.1.2
theorem dX8_tryTrick_20 : decode cX8_tryTrick 20 = .ok (.if_icmp .ge 49, 3) := fp_dk fp_hdX8_behind_40.1.2.2.2.1
theorem dX8_tryTrick_23 : decode cX8_tryTrick 23 = .ok (.aload_n 0, 1) := fp_dk fp_hdX8_behind_40.1.2.2.2.2
theorem dX8_tryTrick_24 : decode cX8_tryTrick 24 = .ok (.getfield 17, 3) := fp_dk fp_hdX8_behind_40.2.1.1.1.1
theorem dX8_tryTrick_27 : decode cX8_tryTrick 27 = .ok (.iload 7, 2) := fp_dk fp_hdX8_behind_40.2.1.1.1.2
theorem dX8_tryTrick_29 : decode cX8_tryTrick 29 = .ok (.aaload, 1) := fp_dk fp_hdX8_behind_40.2.1.1.2.1
theorem dX8_tryTrick_30 : decode cX8_tryTrick 30 = .ok (.aload 6, 2) := fp_dk fp_hdX8_behind_40.2.1.1.2.2
theorem dX8_tryTrick_32 : decode cX8_tryTrick 32 = .ok (.invokevirtual 36, 3) := fp_dk fp_hdX8_behind_40.2.1.2.1.1
theorem dX8_tryTrick_35 : decode cX8_tryTrick 35 = .ok (.aload_n 0, 1) := fp_dk fp_hdX8_behind_40.2.1.2.1.2
theorem dX8_tryTrick_36 : decode cX8_tryTrick 36 = .ok (.getfield 20, 3) := fp_dk fp_hdX8_behind_40.2.1.2.2.1
theorem dX8_tryTrick_39 : decode cX8_tryTrick 39 = .ok (.iload 7, 2) := fp_dk fp_hdX8_behind_40.2.1.2.2.2
theorem dX8_tryTrick_41 : decode cX8_tryTrick 41 = .ok (.aload_n 0, 1) := fp_dk fp_hdX8_behind_40.2.2.1.1.1
theorem dX8_tryTrick_42 : decode cX8_tryTrick 42 = .ok (.getfield 17, 3) := fp_dk fp_hdX8_behind_40.2.2.1.1.2
theorem dX8_tryTrick_45 : decode cX8_tryTrick 45 = .ok (.iload 7, 2) := fp_dk fp_hdX8_behind_40.2.2.1.2.1
theorem dX8_tryTrick_47 : decode cX8_tryTrick 47 = .ok (.aaload, 1) := fp_dk fp_hdX8_behind_40.2.2.1.2.2
theorem dX8_tryTrick_48 : decode cX8_tryTrick 48 = .ok (.aload_n 3, 1) := fp_dk fp_hdX8_behind_40.2.2.2.1.1
theorem dX8_tryTrick_49 : decode cX8_tryTrick 49 = .ok (.getfield 56, 3) := fp_dk fp_hdX8_behind_40.2.2.2.1.2
theorem dX8_tryTrick_52 : decode cX8_tryTrick 52 = .ok (.iload 5, 2) := fp_dk fp_hdX8_behind_40.2.2.2.2.1
theorem dX8_tryTrick_54 : decode cX8_tryTrick 54 = .ok (.iaload, 1) := fp_dk fp_hdX8_behind_40.2.2.2.2.2
theorem fp_hdX8_tryTrick_55 : (((((fp_dq cX8_tryTrick 55 (.iload 5, 2) = true ∧ fp_dq cX8_tryTrick 57 (.iload 7, 2) = true) ∧ (fp_dq cX8_tryTrick 59 (.invokevirtual 59, 3) = true ∧ fp_dq cX8_tryTrick 62 (.bastore, 1) = true)) ∧ ((fp_dq cX8_tryTrick 63 (.iinc 7 1, 3) = true ∧ fp_dq cX8_tryTrick 66 (.goto (-52), 3) = true) ∧ (fp_dq cX8_tryTrick 69 (.return_, 1) = true ∧ fp_dq cX8_goOnWithTrick 0 (.iconst 0, 1) = true))) ∧ (((fp_dq cX8_goOnWithTrick 1 (.istore 4, 2) = true ∧ fp_dq cX8_goOnWithTrick 3 (.iload 4, 2) = true) ∧ (fp_dq cX8_goOnWithTrick 5 (.aload_n 1, 1) = true ∧ fp_dq cX8_goOnWithTrick 6 (.getfield 50, 3) = true)) ∧ ((fp_dq cX8_goOnWithTrick 9 (.if_icmp .ge 33, 3) = true ∧ fp_dq cX8_goOnWithTrick 12 (.aload_n 0, 1) = true) ∧ (fp_dq cX8_goOnWithTrick 13 (.getfield 20, 3) = true ∧ fp_dq cX8_goOnWithTrick 16 (.iload 4, 2) = true)))) ∧ ((((fp_dq cX8_goOnWithTrick 18 (.baload, 1) = true ∧ fp_dq cX8_goOnWithTrick 19 (.ifCond .eq 17, 3) = true) ∧ (fp_dq cX8_goOnWithTrick 22 (.aload_n 2, 1) = true ∧ fp_dq cX8_goOnWithTrick 23 (.aload_n 1, 1) = true)) ∧ ((fp_dq cX8_goOnWithTrick 24 (.aload_n 0, 1) = true ∧ fp_dq cX8_goOnWithTrick 25 (.getfield 17, 3) = true) ∧ (fp_dq cX8_goOnWithTrick 28 (.iload 4, 2) = true ∧ fp_dq cX8_goOnWithTrick 30 (.aaload, 1) = true))) ∧ (((fp_dq cX8_goOnWithTrick 31 (.iload_n 3, 1) = true ∧ fp_dq cX8_goOnWithTrick 32 (.invokevirtual 40, 3) = true) ∧ (fp_dq cX8_goOnWithTrick 35 (.pop, 1) = true ∧ fp_dq cX8_goOnWithTrick 36 (.iinc 4 1, 3) = true)) ∧ ((fp_dq cX8_goOnWithTrick 39 (.goto (-36), 3) = true ∧ fp_dq cX8_goOnWithTrick 42 (.return_, 1) = true) ∧ (fp_dq cX8_lineTrickedOf 0 (.iconst 0, 1) = true ∧ fp_dq cX8_lineTrickedOf 1 (.istore_n 3, 1) = true))))) := by decide +kernel
theorem dX8_tryTrick_55 : decode cX8_tryTrick 55 = .ok (.iload 5, 2) := fp_dk fp_hdX8_tryTrick_55.1.1.1.1.1
theorem dX8_tryTrick_57 : decode cX8_tryTrick 57 = .ok (.iload 7, 2) := fp_dk fp_hdX8_tryTrick_55.1.1.1.1.2
theorem dX8_tryTrick_59 : decode cX8_tryTrick 59 = .ok (.invokevirtual 59, 3) := fp_dk fp_hdX8_tryTrick_55.1.1.1.2.1
theorem dX8_tryTrick_62 : decode cX8_tryTrick 62 = .ok (.bastore, 1) := fp_dk fp_hdX8_tryTrick_55.1.1.1.2.2
theorem dX8_tryTrick_63 : decode cX8_tryTrick 63 = .ok (.iinc 7 1, 3) := fp_dk fp_hdX8_tryTrick_55.1.1.2.1.1
theorem dX8_tryTrick_66 : decode cX8_tryTrick 66 = .ok (.goto (-52), 3) := fp_dk fp_hdX8_tryTrick_55.1.1.2.1.2
theorem dX8_tryTrick_69 : decode cX8_tryTrick 69 = .ok (.return_, 1) := fp_dk fp_hdX8_tryTrick_55.1.1.2.2.1
theorem dX8_goOnWithTrick_0 : decode cX8_goOnWithTrick 0 = .ok (.iconst 0, 1) := fp_dk fp_hdX8_tryTrick_55.1.1.2.2.2
theorem dX8_goOnWithTrick_1 : decode cX8_goOnWithTrick 1 = .ok (.istore 4, 2) := fp_dk fp_hdX8_tryTrick_55.1.2.1.1.1
theorem dX8_goOnWithTrick_3 : decode cX8_goOnWithTrick 3 = .ok (.iload 4, 2) := fp_dk fp_hdX8_tryTrick_55.1.2.1.1.2
theorem dX8_goOnWithTrick_5 : decode cX8_goOnWithTrick 5 = .ok (.aload_n 1, 1) := fp_dk fp_hdX8_tryTrick_55.1.2.1.2.1
theorem dX8_goOnWithTrick_6 : decode cX8_goOnWithTrick 6 = .ok (.getfield 50, 3) := fp_dk fp_hdX8_tryTrick_55.1.2.1.2.2
theorem dX8_goOnWithTrick_9 : decode cX8_goOnWithTrick 9 = .ok (.if_icmp .ge 33, 3) := fp_dk fp_hdX8_tryTrick_55.1.2.2.1.1
theorem dX8_goOnWithTrick_12 : decode cX8_goOnWithTrick 12 = .ok (.aload_n 0, 1) := fp_dk fp_hdX8_tryTrick_55.1.2.2.1.2
theorem dX8_goOnWithTrick_13 : decode cX8_goOnWithTrick 13 = .ok (.getfield 20, 3) := fp_dk fp_hdX8_tryTrick_55.1.2.2.2.1
theorem dX8_goOnWithTrick_16 : decode cX8_goOnWithTrick 16 = .ok (.iload 4, 2) := fp_dk fp_hdX8_tryTrick_55.1.2.2.2.2
theorem dX8_goOnWithTrick_18 : decode cX8_goOnWithTrick 18 = .ok (.baload, 1) := fp_dk fp_hdX8_tryTrick_55.2.1.1.1.1
theorem dX8_goOnWithTrick_19 : decode cX8_goOnWithTrick 19 = .ok (.ifCond .eq 17, 3) := fp_dk fp_hdX8_tryTrick_55.2.1.1.1.2
theorem dX8_goOnWithTrick_22 : decode cX8_goOnWithTrick 22 = .ok (.aload_n 2, 1) := fp_dk fp_hdX8_tryTrick_55.2.1.1.2.1
theorem dX8_goOnWithTrick_23 : decode cX8_goOnWithTrick 23 = .ok (.aload_n 1, 1) := fp_dk fp_hdX8_tryTrick_55.2.1.1.2.2
theorem dX8_goOnWithTrick_24 : decode cX8_goOnWithTrick 24 = .ok (.aload_n 0, 1) := fp_dk fp_hdX8_tryTrick_55.2.1.2.1.1
theorem dX8_goOnWithTrick_25 : decode cX8_goOnWithTrick 25 = .ok (.getfield 17, 3) := fp_dk fp_hdX8_tryTrick_55.2.1.2.1.2
theorem dX8_goOnWithTrick_28 : decode cX8_goOnWithTrick 28 = .ok (.iload 4, 2) := fp_dk fp_hdX8_tryTrick_55.2.1.2.2.1
theorem dX8_goOnWithTrick_30 : decode cX8_goOnWithTrick 30 = .ok (.aaload, 1) := fp_dk fp_hdX8_tryTrick_55.2.1.2.2.2
theorem dX8_goOnWithTrick_31 : decode cX8_goOnWithTrick 31 = .ok (.iload_n 3, 1) := fp_dk fp_hdX8_tryTrick_55.2.2.1.1.1
theorem dX8_goOnWithTrick_32 : decode cX8_goOnWithTrick 32 = .ok (.invokevirtual 40, 3) := fp_dk fp_hdX8_tryTrick_55.2.2.1.1.2
theorem dX8_goOnWithTrick_35 : decode cX8_goOnWithTrick 35 = .ok (.pop, 1) := fp_dk fp_hdX8_tryTrick_55.2.2.1.2.1
theorem dX8_goOnWithTrick_36 : decode cX8_goOnWithTrick 36 = .ok (.iinc 4 1, 3) := fp_dk fp_hdX8_tryTrick_55.2.2.1.2.2
theorem dX8_goOnWithTrick_39 : decode cX8_goOnWithTrick 39 = .ok (.goto (-36), 3) := fp_dk fp_hdX8_tryTrick_55.2.2.2.1.1
theorem dX8_goOnWithTrick_42 : decode cX8_goOnWithTrick 42 = .ok (.return_, 1) := fp_dk fp_hdX8_tryTrick_55.2.2.2.1.2
theorem dX8_lineTrickedOf_0 : decode cX8_lineTrickedOf 0 = .ok (.iconst 0, 1) := fp_dk fp_hdX8_tryTrick_55.2.2.2.2.1
theorem dX8_lineTrickedOf_1 : decode cX8_lineTrickedOf 1 = .ok (.istore_n 3, 1) := fp_dk fp_hdX8_tryTrick_55.2.2.2.2.2
theorem fp_hdX8_lineTrickedOf_2 : (((((fp_dq cX8_lineTrickedOf 2 (.iload_n 3, 1) = true ∧ fp_dq cX8_lineTrickedOf 3 (.aload_n 1, 1) = true) ∧ (fp_dq cX8_lineTrickedOf 4 (.getfield 50, 3) = true ∧ fp_dq cX8_lineTrickedOf 7 (.if_icmp .ge 35, 3) = true)) ∧ ((fp_dq cX8_lineTrickedOf 10 (.aload_n 0, 1) = true ∧ fp_dq cX8_lineTrickedOf 11 (.getfield 20, 3) = true) ∧ (fp_dq cX8_lineTrickedOf 14 (.iload_n 3, 1) = true ∧ fp_dq cX8_lineTrickedOf 15 (.baload, 1) = true))) ∧ (((fp_dq cX8_lineTrickedOf 16 (.ifCond .eq 20, 3) = true ∧ fp_dq cX8_lineTrickedOf 19 (.aload_n 0, 1) = true) ∧ (fp_dq cX8_lineTrickedOf 20 (.getfield 17, 3) = true ∧ fp_dq cX8_lineTrickedOf 23 (.iload_n 3, 1) = true)) ∧ ((fp_dq cX8_lineTrickedOf 24 (.aaload, 1) = true ∧ fp_dq cX8_lineTrickedOf 25 (.aload_n 1, 1) = true) ∧ (fp_dq cX8_lineTrickedOf 26 (.iload_n 3, 1) = true ∧ fp_dq cX8_lineTrickedOf 27 (.invokevirtual 63, 3) = true)))) ∧ ((((fp_dq cX8_lineTrickedOf 30 (.iload_n 2, 1) = true ∧ fp_dq cX8_lineTrickedOf 31 (.if_icmp .ne 5, 3) = true) ∧ (fp_dq cX8_lineTrickedOf 34 (.iload_n 3, 1) = true ∧ fp_dq cX8_lineTrickedOf 35 (.ireturn, 1) = true)) ∧ ((fp_dq cX8_lineTrickedOf 36 (.iinc 3 1, 3) = true ∧ fp_dq cX8_lineTrickedOf 39 (.goto (-37), 3) = true) ∧ (fp_dq cX8_lineTrickedOf 42 (.bipush (-4), 2) = true ∧ fp_dq cX8_lineTrickedOf 44 (.ireturn, 1) = true))) ∧ (((fp_dq cX8_findMost 0 (.aload_n 0, 1) = true ∧ fp_dq cX8_findMost 1 (.getfield 11, 3) = true) ∧ (fp_dq cX8_findMost 4 (.iconst 0, 1) = true ∧ fp_dq cX8_findMost 5 (.aaload, 1) = true)) ∧ ((fp_dq cX8_findMost 6 (.aload_n 3, 1) = true ∧ fp_dq cX8_findMost 7 (.invokevirtual 36, 3) = true) ∧ (fp_dq cX8_findMost 10 (.aload_n 0, 1) = true ∧ fp_dq cX8_findMost 11 (.bipush (-4), 2) = true))))) := by decide +kernel
theorem dX8_lineTrickedOf_2 : decode cX8_lineTrickedOf 2 = .ok (.iload_n 3, 1) := fp_dk fp_hdX8_lineTrickedOf_2.1.1.1.1.1
theorem dX8_lineTrickedOf_3 : decode cX8_lineTrickedOf 3 = .ok (.aload_n 1, 1) := fp_dk fp_hdX8_lineTrickedOf_2.1.1.1.1.2
theorem dX8_lineTrickedOf_4 : decode cX8_lineTrickedOf 4 = .ok (.getfield 50, 3) := fp_dk fp_hdX8_lineTrickedOf_2.1.1.1.2.1
theorem dX8_lineTrickedOf_7 : decode cX8_lineTrickedOf 7 = .ok (.if_icmp .ge 35, 3) := fp_dk fp_hdX8_lineTrickedOf_2.1.1.1.2.2
theorem dX8_lineTrickedOf_10 : decode cX8_lineTrickedOf 10 = .ok (.aload_n 0, 1) := fp_dk fp_hdX8_lineTrickedOf_2.1.1.2.1.1
theorem dX8_lineTrickedOf_11 : decode cX8_lineTrickedOf 11 = .ok (.getfield 20, 3) := fp_dk fp_hdX8_lineTrickedOf_2.1.1.2.1.2
theorem dX8_lineTrickedOf_14 : decode cX8_lineTrickedOf 14 = .ok (.iload_n 3, 1) := fp_dk fp_hdX8_lineTrickedOf_2.1.1.2.2.1
theorem dX8_lineTrickedOf_15 : decode cX8_lineTrickedOf 15 = .ok (.baload, 1) := fp_dk fp_hdX8_lineTrickedOf_2.1.1.2.2.2
theorem dX8_lineTrickedOf_16 : decode cX8_lineTrickedOf 16 = .ok (.ifCond .eq 20, 3) := fp_dk fp_hdX8_lineTrickedOf_2.1.2.1.1.1
theorem dX8_lineTrickedOf_19 : decode cX8_lineTrickedOf 19 = .ok (.aload_n 0, 1) := fp_dk fp_hdX8_lineTrickedOf_2.1.2.1.1.2
theorem dX8_lineTrickedOf_20 : decode cX8_lineTrickedOf 20 = .ok (.getfield 17, 3) := fp_dk fp_hdX8_lineTrickedOf_2.1.2.1.2.1
theorem dX8_lineTrickedOf_23 : decode cX8_lineTrickedOf 23 = .ok (.iload_n 3, 1) := fp_dk fp_hdX8_lineTrickedOf_2.1.2.1.2.2
theorem dX8_lineTrickedOf_24 : decode cX8_lineTrickedOf 24 = .ok (.aaload, 1) := fp_dk fp_hdX8_lineTrickedOf_2.1.2.2.1.1
theorem dX8_lineTrickedOf_25 : decode cX8_lineTrickedOf 25 = .ok (.aload_n 1, 1) := fp_dk fp_hdX8_lineTrickedOf_2.1.2.2.1.2
theorem dX8_lineTrickedOf_26 : decode cX8_lineTrickedOf 26 = .ok (.iload_n 3, 1) := fp_dk fp_hdX8_lineTrickedOf_2.1.2.2.2.1
theorem dX8_lineTrickedOf_27 : decode cX8_lineTrickedOf 27 = .ok (.invokevirtual 63, 3) := fp_dk fp_hdX8_lineTrickedOf_2.1.2.2.2.2
theorem dX8_lineTrickedOf_30 : decode cX8_lineTrickedOf 30 = .ok (.iload_n 2, 1) := fp_dk fp_hdX8_lineTrickedOf_2.2.1.1.1.1
theorem dX8_lineTrickedOf_31 : decode cX8_lineTrickedOf 31 = .ok (.if_icmp .ne 5, 3) := fp_dk fp_hdX8_lineTrickedOf_2.2.1.1.1.2
theorem dX8_lineTrickedOf_34 : decode cX8_lineTrickedOf 34 = .ok (.iload_n 3, 1) := fp_dk fp_hdX8_lineTrickedOf_2.2.1.1.2.1
theorem dX8_lineTrickedOf_35 : decode cX8_lineTrickedOf 35 = .ok (.ireturn, 1) := fp_dk fp_hdX8_lineTrickedOf_2.2.1.1.2.2
theorem dX8_lineTrickedOf_36 : decode cX8_lineTrickedOf 36 = .ok (.iinc 3 1, 3) := fp_dk fp_hdX8_lineTrickedOf_2.2.1.2.1.1
theorem dX8_lineTrickedOf_39 : decode cX8_lineTrickedOf 39 = .ok (.goto (-37), 3) := fp_dk fp_hdX8_lineTrickedOf_2.2.1.2.1.2
theorem dX8_lineTrickedOf_42 : decode cX8_lineTrickedOf 42 = .ok (.bipush (-4), 2) := fp_dk fp_hdX8_lineTrickedOf_2.2.1.2.2.1
theorem dX8_lineTrickedOf_44 : decode cX8_lineTrickedOf 44 = .ok (.ireturn, 1) := fp_dk fp_hdX8_lineTrickedOf_2.2.1.2.2.2
theorem dX8_findMost_0 : decode cX8_findMost 0 = .ok (.aload_n 0, 1) := fp_dk fp_hdX8_lineTrickedOf_2.2.2.1.1.1
theorem dX8_findMost_1 : decode cX8_findMost 1 = .ok (.getfield 11, 3) := fp_dk fp_hdX8_lineTrickedOf_2.2.2.1.1.2
theorem dX8_findMost_4 : decode cX8_findMost 4 = .ok (.iconst 0, 1) := fp_dk fp_hdX8_lineTrickedOf_2.2.2.1.2.1
theorem dX8_findMost_5 : decode cX8_findMost 5 = .ok (.aaload, 1) := fp_dk fp_hdX8_lineTrickedOf_2.2.2.1.2.2
theorem dX8_findMost_6 : decode cX8_findMost 6 = .ok (.aload_n 3, 1) := fp_dk fp_hdX8_lineTrickedOf_2.2.2.2.1.1
theorem dX8_findMost_7 : decode cX8_findMost 7 = .ok (.invokevirtual 36, 3) := fp_dk fp_hdX8_lineTrickedOf_2.2.2.2.1.2
theorem dX8_findMost_10 : decode cX8_findMost 10 = .ok (.aload_n 0, 1) := fp_dk fp_hdX8_lineTrickedOf_2.2.2.2.2.1
theorem dX8_findMost_11 : decode cX8_findMost 11 = .ok (.bipush (-4), 2) := fp_dk fp_hdX8_lineTrickedOf_2.2.2.2.2.2
theorem fp_hdX8_findMost_13 : (((((fp_dq cX8_findMost 13 (.putfield 67, 3) = true ∧ fp_dq cX8_findMost 16 (.aload_n 0, 1) = true) ∧ (fp_dq cX8_findMost 17 (.getfield 28, 3) = true ∧ fp_dq cX8_findMost 20 (.bipush (-4), 2) = true)) ∧ ((fp_dq cX8_findMost 22 (.invokestatic 70, 3) = true ∧ fp_dq cX8_findMost 25 (.aload_n 0, 1) = true) ∧ (fp_dq cX8_findMost 26 (.aload_n 1, 1) = true ∧ fp_dq cX8_findMost 27 (.aload_n 2, 1) = true))) ∧ (((fp_dq cX8_findMost 28 (.iload 4, 2) = true ∧ fp_dq cX8_findMost 30 (.iconst 0, 1) = true) ∧ (fp_dq cX8_findMost 31 (.invokevirtual 76, 3) = true ∧ fp_dq cX8_findMost 34 (.return_, 1) = true)) ∧ ((fp_dq cX8_tryLines 0 (.iload 4, 2) = true ∧ fp_dq cX8_tryLines 2 (.bipush 12, 2) = true) ∧ (fp_dq cX8_tryLines 4 (.if_icmp .ge 12, 3) = true ∧ fp_dq cX8_tryLines 7 (.iload 4, 2) = true)))) ∧ ((((fp_dq cX8_tryLines 9 (.aload_n 2, 1) = true ∧ fp_dq cX8_tryLines 10 (.getfield 80, 3) = true) ∧ (fp_dq cX8_tryLines 13 (.if_icmp .lt 20, 3) = true ∧ fp_dq cX8_tryLines 16 (.aload_n 0, 1) = true)) ∧ ((fp_dq cX8_tryLines 17 (.aload_n 0, 1) = true ∧ fp_dq cX8_tryLines 18 (.getfield 11, 3) = true) ∧ (fp_dq cX8_tryLines 21 (.iload 4, 2) = true ∧ fp_dq cX8_tryLines 23 (.aaload, 1) = true))) ∧ (((fp_dq cX8_tryLines 24 (.aload_n 1, 1) = true ∧ fp_dq cX8_tryLines 25 (.iload_n 3, 1) = true) ∧ (fp_dq cX8_tryLines 26 (.invokevirtual 83, 3) = true ∧ fp_dq cX8_tryLines 29 (.invokevirtual 86, 3) = true)) ∧ ((fp_dq cX8_tryLines 32 (.return_, 1) = true ∧ fp_dq cX8_tryLines 33 (.aload_n 2, 1) = true) ∧ (fp_dq cX8_tryLines 34 (.iload_n 3, 1) = true ∧ fp_dq cX8_tryLines 35 (.iload 4, 2) = true))))) := by decide +kernel
theorem dX8_findMost_13 : decode cX8_findMost 13 = .ok (.putfield 67, 3) := fp_dk fp_hdX8_findMost_13.1.1.1.1.1
theorem dX8_findMost_16 : decode cX8_findMost 16 = .ok (.aload_n 0, 1) := fp_dk fp_hdX8_findMost_13.1.1.1.1.2
theorem dX8_findMost_17 : decode cX8_findMost 17 = .ok (.getfield 28, 3) := fp_dk fp_hdX8_findMost_13.1.1.1.2.1
theorem dX8_findMost_20 : decode cX8_findMost 20 = .ok (.bipush (-4), 2) := fp_dk fp_hdX8_findMost_13.1.1.1.2.2
theorem dX8_findMost_22 : decode cX8_findMost 22 = .ok (.invokestatic 70, 3) := fp_dk fp_hdX8_findMost_13.1.1.2.1.1
theorem dX8_findMost_25 : decode cX8_findMost 25 = .ok (.aload_n 0, 1) := fp_dk fp_hdX8_findMost_13.1.1.2.1.2
theorem dX8_findMost_26 : decode cX8_findMost 26 = .ok (.aload_n 1, 1) := fp_dk fp_hdX8_findMost_13.1.1.2.2.1
theorem dX8_findMost_27 : decode cX8_findMost 27 = .ok (.aload_n 2, 1) := fp_dk fp_hdX8_findMost_13.1.1.2.2.2
theorem dX8_findMost_28 : decode cX8_findMost 28 = .ok (.iload 4, 2) := fp_dk fp_hdX8_findMost_13.1.2.1.1.1
theorem dX8_findMost_30 : decode cX8_findMost 30 = .ok (.iconst 0, 1) := fp_dk fp_hdX8_findMost_13.1.2.1.1.2
theorem dX8_findMost_31 : decode cX8_findMost 31 = .ok (.invokevirtual 76, 3) := fp_dk fp_hdX8_findMost_13.1.2.1.2.1
theorem dX8_findMost_34 : decode cX8_findMost 34 = .ok (.return_, 1) := fp_dk fp_hdX8_findMost_13.1.2.1.2.2
theorem dX8_tryLines_0 : decode cX8_tryLines 0 = .ok (.iload 4, 2) := fp_dk fp_hdX8_findMost_13.1.2.2.1.1
theorem dX8_tryLines_2 : decode cX8_tryLines 2 = .ok (.bipush 12, 2) := fp_dk fp_hdX8_findMost_13.1.2.2.1.2
theorem dX8_tryLines_4 : decode cX8_tryLines 4 = .ok (.if_icmp .ge 12, 3) := fp_dk fp_hdX8_findMost_13.1.2.2.2.1
theorem dX8_tryLines_7 : decode cX8_tryLines 7 = .ok (.iload 4, 2) := fp_dk fp_hdX8_findMost_13.1.2.2.2.2
theorem dX8_tryLines_9 : decode cX8_tryLines 9 = .ok (.aload_n 2, 1) := fp_dk fp_hdX8_findMost_13.2.1.1.1.1
theorem dX8_tryLines_10 : decode cX8_tryLines 10 = .ok (.getfield 80, 3) := fp_dk fp_hdX8_findMost_13.2.1.1.1.2
theorem dX8_tryLines_13 : decode cX8_tryLines 13 = .ok (.if_icmp .lt 20, 3) := fp_dk fp_hdX8_findMost_13.2.1.1.2.1
theorem dX8_tryLines_16 : decode cX8_tryLines 16 = .ok (.aload_n 0, 1) := fp_dk fp_hdX8_findMost_13.2.1.1.2.2
theorem dX8_tryLines_17 : decode cX8_tryLines 17 = .ok (.aload_n 0, 1) := fp_dk fp_hdX8_findMost_13.2.1.2.1.1
theorem dX8_tryLines_18 : decode cX8_tryLines 18 = .ok (.getfield 11, 3) := fp_dk fp_hdX8_findMost_13.2.1.2.1.2
theorem dX8_tryLines_21 : decode cX8_tryLines 21 = .ok (.iload 4, 2) := fp_dk fp_hdX8_findMost_13.2.1.2.2.1
theorem dX8_tryLines_23 : decode cX8_tryLines 23 = .ok (.aaload, 1) := fp_dk fp_hdX8_findMost_13.2.1.2.2.2
theorem dX8_tryLines_24 : decode cX8_tryLines 24 = .ok (.aload_n 1, 1) := fp_dk fp_hdX8_findMost_13.2.2.1.1.1
theorem dX8_tryLines_25 : decode cX8_tryLines 25 = .ok (.iload_n 3, 1) := fp_dk fp_hdX8_findMost_13.2.2.1.1.2
theorem dX8_tryLines_26 : decode cX8_tryLines 26 = .ok (.invokevirtual 83, 3) := fp_dk fp_hdX8_findMost_13.2.2.1.2.1
theorem dX8_tryLines_29 : decode cX8_tryLines 29 = .ok (.invokevirtual 86, 3) := fp_dk fp_hdX8_findMost_13.2.2.1.2.2
theorem dX8_tryLines_32 : decode cX8_tryLines 32 = .ok (.return_, 1) := fp_dk fp_hdX8_findMost_13.2.2.2.1.1
theorem dX8_tryLines_33 : decode cX8_tryLines 33 = .ok (.aload_n 2, 1) := fp_dk fp_hdX8_findMost_13.2.2.2.1.2
theorem dX8_tryLines_34 : decode cX8_tryLines 34 = .ok (.iload_n 3, 1) := fp_dk fp_hdX8_findMost_13.2.2.2.2.1
theorem dX8_tryLines_35 : decode cX8_tryLines 35 = .ok (.iload 4, 2) := fp_dk fp_hdX8_findMost_13.2.2.2.2.2
theorem fp_hdX8_tryLines_37 : (((((fp_dq cX8_tryLines 37 (.invokevirtual 90, 3) = true ∧ fp_dq cX8_tryLines 40 (.ifCond .ne 51, 3) = true) ∧ (fp_dq cX8_tryLines 43 (.aload_n 0, 1) = true ∧ fp_dq cX8_tryLines 44 (.getfield 11, 3) = true)) ∧ ((fp_dq cX8_tryLines 47 (.iload 4, 2) = true ∧ fp_dq cX8_tryLines 49 (.iconst 1, 1) = true) ∧ (fp_dq cX8_tryLines 50 (.iadd, 1) = true ∧ fp_dq cX8_tryLines 51 (.aaload, 1) = true))) ∧ (((fp_dq cX8_tryLines 52 (.aload_n 0, 1) = true ∧ fp_dq cX8_tryLines 53 (.getfield 11, 3) = true) ∧ (fp_dq cX8_tryLines 56 (.iload 4, 2) = true ∧ fp_dq cX8_tryLines 58 (.aaload, 1) = true)) ∧ ((fp_dq cX8_tryLines 59 (.invokevirtual 36, 3) = true ∧ fp_dq cX8_tryLines 62 (.aload_n 2, 1) = true) ∧ (fp_dq cX8_tryLines 63 (.aload_n 1, 1) = true ∧ fp_dq cX8_tryLines 64 (.aload_n 0, 1) = true)))) ∧ ((((fp_dq cX8_tryLines 65 (.getfield 11, 3) = true ∧ fp_dq cX8_tryLines 68 (.iload 4, 2) = true) ∧ (fp_dq cX8_tryLines 70 (.iconst 1, 1) = true ∧ fp_dq cX8_tryLines 71 (.iadd, 1) = true)) ∧ ((fp_dq cX8_tryLines 72 (.aaload, 1) = true ∧ fp_dq cX8_tryLines 73 (.iload 4, 2) = true) ∧ (fp_dq cX8_tryLines 75 (.invokevirtual 40, 3) = true ∧ fp_dq cX8_tryLines 78 (.pop, 1) = true))) ∧ (((fp_dq cX8_tryLines 79 (.aload_n 0, 1) = true ∧ fp_dq cX8_tryLines 80 (.aload_n 1, 1) = true) ∧ (fp_dq cX8_tryLines 81 (.aload_n 2, 1) = true ∧ fp_dq cX8_tryLines 82 (.iload_n 3, 1) = true)) ∧ ((fp_dq cX8_tryLines 83 (.iload 4, 2) = true ∧ fp_dq cX8_tryLines 85 (.iconst 1, 1) = true) ∧ (fp_dq cX8_tryLines 86 (.iadd, 1) = true ∧ fp_dq cX8_tryLines 87 (.invokevirtual 76, 3) = true))))) := by decide +kernel
theorem dX8_tryLines_37 : decode cX8_tryLines 37 = .ok (.invokevirtual 90, 3) := fp_dk fp_hdX8_tryLines_37.1.1.1.1.1
theorem dX8_tryLines_40 : decode cX8_tryLines 40 = .ok (.ifCond .ne 51, 3) := fp_dk fp_hdX8_tryLines_37.1.1.1.1.2
theorem dX8_tryLines_43 : decode cX8_tryLines 43 = .ok (.aload_n 0, 1) := fp_dk fp_hdX8_tryLines_37.1.1.1.2.1
theorem dX8_tryLines_44 : decode cX8_tryLines 44 = .ok (.getfield 11, 3) := fp_dk fp_hdX8_tryLines_37.1.1.1.2.2
theorem dX8_tryLines_47 : decode cX8_tryLines 47 = .ok (.iload 4, 2) := fp_dk fp_hdX8_tryLines_37.1.1.2.1.1
theorem dX8_tryLines_49 : decode cX8_tryLines 49 = .ok (.iconst 1, 1) := fp_dk fp_hdX8_tryLines_37.1.1.2.1.2
theorem dX8_tryLines_50 : decode cX8_tryLines 50 = .ok (.iadd, 1) := fp_dk fp_hdX8_tryLines_37.1.1.2.2.1
theorem dX8_tryLines_51 : decode cX8_tryLines 51 = .ok (.aaload, 1) := fp_dk fp_hdX8_tryLines_37.1.1.2.2.2
theorem dX8_tryLines_52 : decode cX8_tryLines 52 = .ok (.aload_n 0, 1) := fp_dk fp_hdX8_tryLines_37.1.2.1.1.1
theorem dX8_tryLines_53 : decode cX8_tryLines 53 = .ok (.getfield 11, 3) := fp_dk fp_hdX8_tryLines_37.1.2.1.1.2
theorem dX8_tryLines_56 : decode cX8_tryLines 56 = .ok (.iload 4, 2) := fp_dk fp_hdX8_tryLines_37.1.2.1.2.1
theorem dX8_tryLines_58 : decode cX8_tryLines 58 = .ok (.aaload, 1) := fp_dk fp_hdX8_tryLines_37.1.2.1.2.2
theorem dX8_tryLines_59 : decode cX8_tryLines 59 = .ok (.invokevirtual 36, 3) := fp_dk fp_hdX8_tryLines_37.1.2.2.1.1
theorem dX8_tryLines_62 : decode cX8_tryLines 62 = .ok (.aload_n 2, 1) := fp_dk fp_hdX8_tryLines_37.1.2.2.1.2
theorem dX8_tryLines_63 : decode cX8_tryLines 63 = .ok (.aload_n 1, 1) := fp_dk fp_hdX8_tryLines_37.1.2.2.2.1
theorem dX8_tryLines_64 : decode cX8_tryLines 64 = .ok (.aload_n 0, 1) := fp_dk fp_hdX8_tryLines_37.1.2.2.2.2
theorem dX8_tryLines_65 : decode cX8_tryLines 65 = .ok (.getfield 11, 3) := fp_dk fp_hdX8_tryLines_37.2.1.1.1.1
theorem dX8_tryLines_68 : decode cX8_tryLines 68 = .ok (.iload 4, 2) := fp_dk fp_hdX8_tryLines_37.2.1.1.1.2
theorem dX8_tryLines_70 : decode cX8_tryLines 70 = .ok (.iconst 1, 1) := fp_dk fp_hdX8_tryLines_37.2.1.1.2.1
theorem dX8_tryLines_71 : decode cX8_tryLines 71 = .ok (.iadd, 1) := fp_dk fp_hdX8_tryLines_37.2.1.1.2.2
theorem dX8_tryLines_72 : decode cX8_tryLines 72 = .ok (.aaload, 1) := fp_dk fp_hdX8_tryLines_37.2.1.2.1.1
theorem dX8_tryLines_73 : decode cX8_tryLines 73 = .ok (.iload 4, 2) := fp_dk fp_hdX8_tryLines_37.2.1.2.1.2
theorem dX8_tryLines_75 : decode cX8_tryLines 75 = .ok (.invokevirtual 40, 3) := fp_dk fp_hdX8_tryLines_37.2.1.2.2.1
theorem dX8_tryLines_78 : decode cX8_tryLines 78 = .ok (.pop, 1) := fp_dk fp_hdX8_tryLines_37.2.1.2.2.2
theorem dX8_tryLines_79 : decode cX8_tryLines 79 = .ok (.aload_n 0, 1) := fp_dk fp_hdX8_tryLines_37.2.2.1.1.1
theorem dX8_tryLines_80 : decode cX8_tryLines 80 = .ok (.aload_n 1, 1) := fp_dk fp_hdX8_tryLines_37.2.2.1.1.2
theorem dX8_tryLines_81 : decode cX8_tryLines 81 = .ok (.aload_n 2, 1) := fp_dk fp_hdX8_tryLines_37.2.2.1.2.1
theorem dX8_tryLines_82 : decode cX8_tryLines 82 = .ok (.iload_n 3, 1) := fp_dk fp_hdX8_tryLines_37.2.2.1.2.2
theorem dX8_tryLines_83 : decode cX8_tryLines 83 = .ok (.iload 4, 2) := fp_dk fp_hdX8_tryLines_37.2.2.2.1.1
theorem dX8_tryLines_85 : decode cX8_tryLines 85 = .ok (.iconst 1, 1) := fp_dk fp_hdX8_tryLines_37.2.2.2.1.2
theorem dX8_tryLines_86 : decode cX8_tryLines 86 = .ok (.iadd, 1) := fp_dk fp_hdX8_tryLines_37.2.2.2.2.1
theorem dX8_tryLines_87 : decode cX8_tryLines 87 = .ok (.invokevirtual 76, 3) := fp_dk fp_hdX8_tryLines_37.2.2.2.2.2
theorem fp_hdX8_tryLines_90 : (((((fp_dq cX8_tryLines 90 (.return_, 1) = true ∧ fp_dq cX8_tryLines 91 (.iconst 0, 1) = true) ∧ (fp_dq cX8_tryLines 92 (.istore 5, 2) = true ∧ fp_dq cX8_tryLines 94 (.iload 5, 2) = true)) ∧ ((fp_dq cX8_tryLines 96 (.aload_n 1, 1) = true ∧ fp_dq cX8_tryLines 97 (.getfield 50, 3) = true) ∧ (fp_dq cX8_tryLines 100 (.if_icmp .ge 65, 3) = true ∧ fp_dq cX8_tryLines 103 (.aload_n 0, 1) = true))) ∧ (((fp_dq cX8_tryLines 104 (.getfield 11, 3) = true ∧ fp_dq cX8_tryLines 107 (.iload 4, 2) = true) ∧ (fp_dq cX8_tryLines 109 (.iconst 1, 1) = true ∧ fp_dq cX8_tryLines 110 (.iadd, 1) = true)) ∧ ((fp_dq cX8_tryLines 111 (.aaload, 1) = true ∧ fp_dq cX8_tryLines 112 (.aload_n 0, 1) = true) ∧ (fp_dq cX8_tryLines 113 (.getfield 11, 3) = true ∧ fp_dq cX8_tryLines 116 (.iload 4, 2) = true)))) ∧ ((((fp_dq cX8_tryLines 118 (.aaload, 1) = true ∧ fp_dq cX8_tryLines 119 (.invokevirtual 36, 3) = true) ∧ (fp_dq cX8_tryLines 122 (.aload_n 0, 1) = true ∧ fp_dq cX8_tryLines 123 (.getfield 11, 3) = true)) ∧ ((fp_dq cX8_tryLines 126 (.iload 4, 2) = true ∧ fp_dq cX8_tryLines 128 (.iconst 1, 1) = true) ∧ (fp_dq cX8_tryLines 129 (.iadd, 1) = true ∧ fp_dq cX8_tryLines 130 (.aaload, 1) = true))) ∧ (((fp_dq cX8_tryLines 131 (.aload_n 1, 1) = true ∧ fp_dq cX8_tryLines 132 (.iload_n 3, 1) = true) ∧ (fp_dq cX8_tryLines 133 (.iload 5, 2) = true ∧ fp_dq cX8_tryLines 135 (.invokevirtual 94, 3) = true)) ∧ ((fp_dq cX8_tryLines 138 (.pop, 1) = true ∧ fp_dq cX8_tryLines 139 (.aload_n 0, 1) = true) ∧ (fp_dq cX8_tryLines 140 (.getfield 28, 3) = true ∧ fp_dq cX8_tryLines 143 (.iload 4, 2) = true))))) := by decide +kernel
theorem dX8_tryLines_90 : decode cX8_tryLines 90 = .ok (.return_, 1) := fp_dk fp_hdX8_tryLines_90.1.1.1.1.1
theorem dX8_tryLines_91 : decode cX8_tryLines 91 = .ok (.iconst 0, 1) := fp_dk fp_hdX8_tryLines_90.1.1.1.1.2
theorem dX8_tryLines_92 : decode cX8_tryLines 92 = .ok (.istore 5, 2) := fp_dk fp_hdX8_tryLines_90.1.1.1.2.1
theorem dX8_tryLines_94 : decode cX8_tryLines 94 = .ok (.iload 5, 2) := fp_dk fp_hdX8_tryLines_90.1.1.1.2.2
theorem dX8_tryLines_96 : decode cX8_tryLines 96 = .ok (.aload_n 1, 1) := fp_dk fp_hdX8_tryLines_90.1.1.2.1.1
theorem dX8_tryLines_97 : decode cX8_tryLines 97 = .ok (.getfield 50, 3) := fp_dk fp_hdX8_tryLines_90.1.1.2.1.2
theorem dX8_tryLines_100 : decode cX8_tryLines 100 = .ok (.if_icmp .ge 65, 3) := fp_dk fp_hdX8_tryLines_90.1.1.2.2.1
theorem dX8_tryLines_103 : decode cX8_tryLines 103 = .ok (.aload_n 0, 1) := fp_dk fp_hdX8_tryLines_90.1.1.2.2.2
theorem dX8_tryLines_104 : decode cX8_tryLines 104 = .ok (.getfield 11, 3) := fp_dk fp_hdX8_tryLines_90.1.2.1.1.1
theorem dX8_tryLines_107 : decode cX8_tryLines 107 = .ok (.iload 4, 2) := fp_dk fp_hdX8_tryLines_90.1.2.1.1.2
theorem dX8_tryLines_109 : decode cX8_tryLines 109 = .ok (.iconst 1, 1) := fp_dk fp_hdX8_tryLines_90.1.2.1.2.1
theorem dX8_tryLines_110 : decode cX8_tryLines 110 = .ok (.iadd, 1) := fp_dk fp_hdX8_tryLines_90.1.2.1.2.2
theorem dX8_tryLines_111 : decode cX8_tryLines 111 = .ok (.aaload, 1) := fp_dk fp_hdX8_tryLines_90.1.2.2.1.1
theorem dX8_tryLines_112 : decode cX8_tryLines 112 = .ok (.aload_n 0, 1) := fp_dk fp_hdX8_tryLines_90.1.2.2.1.2
theorem dX8_tryLines_113 : decode cX8_tryLines 113 = .ok (.getfield 11, 3) := fp_dk fp_hdX8_tryLines_90.1.2.2.2.1
theorem dX8_tryLines_116 : decode cX8_tryLines 116 = .ok (.iload 4, 2) := fp_dk fp_hdX8_tryLines_90.1.2.2.2.2
theorem dX8_tryLines_118 : decode cX8_tryLines 118 = .ok (.aaload, 1) := fp_dk fp_hdX8_tryLines_90.2.1.1.1.1
theorem dX8_tryLines_119 : decode cX8_tryLines 119 = .ok (.invokevirtual 36, 3) := fp_dk fp_hdX8_tryLines_90.2.1.1.1.2
theorem dX8_tryLines_122 : decode cX8_tryLines 122 = .ok (.aload_n 0, 1) := fp_dk fp_hdX8_tryLines_90.2.1.1.2.1
theorem dX8_tryLines_123 : decode cX8_tryLines 123 = .ok (.getfield 11, 3) := fp_dk fp_hdX8_tryLines_90.2.1.1.2.2
theorem dX8_tryLines_126 : decode cX8_tryLines 126 = .ok (.iload 4, 2) := fp_dk fp_hdX8_tryLines_90.2.1.2.1.1
theorem dX8_tryLines_128 : decode cX8_tryLines 128 = .ok (.iconst 1, 1) := fp_dk fp_hdX8_tryLines_90.2.1.2.1.2
theorem dX8_tryLines_129 : decode cX8_tryLines 129 = .ok (.iadd, 1) := fp_dk fp_hdX8_tryLines_90.2.1.2.2.1
theorem dX8_tryLines_130 : decode cX8_tryLines 130 = .ok (.aaload, 1) := fp_dk fp_hdX8_tryLines_90.2.1.2.2.2
theorem dX8_tryLines_131 : decode cX8_tryLines 131 = .ok (.aload_n 1, 1) := fp_dk fp_hdX8_tryLines_90.2.2.1.1.1
theorem dX8_tryLines_132 : decode cX8_tryLines 132 = .ok (.iload_n 3, 1) := fp_dk fp_hdX8_tryLines_90.2.2.1.1.2
theorem dX8_tryLines_133 : decode cX8_tryLines 133 = .ok (.iload 5, 2) := fp_dk fp_hdX8_tryLines_90.2.2.1.2.1
theorem dX8_tryLines_135 : decode cX8_tryLines 135 = .ok (.invokevirtual 94, 3) := fp_dk fp_hdX8_tryLines_90.2.2.1.2.2
theorem dX8_tryLines_138 : decode cX8_tryLines 138 = .ok (.pop, 1) := fp_dk fp_hdX8_tryLines_90.2.2.2.1.1
theorem dX8_tryLines_139 : decode cX8_tryLines 139 = .ok (.aload_n 0, 1) := fp_dk fp_hdX8_tryLines_90.2.2.2.1.2
theorem dX8_tryLines_140 : decode cX8_tryLines 140 = .ok (.getfield 28, 3) := fp_dk fp_hdX8_tryLines_90.2.2.2.2.1
theorem dX8_tryLines_143 : decode cX8_tryLines 143 = .ok (.iload 4, 2) := fp_dk fp_hdX8_tryLines_90.2.2.2.2.2
theorem fp_hdX8_tryLines_145 : (((((fp_dq cX8_tryLines 145 (.iload 5, 2) = true ∧ fp_dq cX8_tryLines 147 (.iastore, 1) = true) ∧ (fp_dq cX8_tryLines 148 (.aload_n 0, 1) = true ∧ fp_dq cX8_tryLines 149 (.aload_n 1, 1) = true)) ∧ ((fp_dq cX8_tryLines 150 (.aload_n 2, 1) = true ∧ fp_dq cX8_tryLines 151 (.iload_n 3, 1) = true) ∧ (fp_dq cX8_tryLines 152 (.iload 4, 2) = true ∧ fp_dq cX8_tryLines 154 (.iconst 1, 1) = true))) ∧ (((fp_dq cX8_tryLines 155 (.iadd, 1) = true ∧ fp_dq cX8_tryLines 156 (.invokevirtual 76, 3) = true) ∧ (fp_dq cX8_tryLines 159 (.iinc 5 1, 3) = true ∧ fp_dq cX8_tryLines 162 (.goto (-68), 3) = true)) ∧ ((fp_dq cX8_tryLines 165 (.return_, 1) = true ∧ fp_dq cX8_takeIfBetter 0 (.iload_n 1, 1) = true) ∧ (fp_dq cX8_takeIfBetter 1 (.aload_n 0, 1) = true ∧ fp_dq cX8_takeIfBetter 2 (.getfield 67, 3) = true)))) ∧ ((((fp_dq cX8_takeIfBetter 5 (.if_icmp .le 26, 3) = true ∧ fp_dq cX8_takeIfBetter 8 (.aload_n 0, 1) = true) ∧ (fp_dq cX8_takeIfBetter 9 (.iload_n 1, 1) = true ∧ fp_dq cX8_takeIfBetter 10 (.putfield 67, 3) = true)) ∧ ((fp_dq cX8_takeIfBetter 13 (.aload_n 0, 1) = true ∧ fp_dq cX8_takeIfBetter 14 (.getfield 28, 3) = true) ∧ (fp_dq cX8_takeIfBetter 17 (.iconst 0, 1) = true ∧ fp_dq cX8_takeIfBetter 18 (.aload_n 0, 1) = true))) ∧ (((fp_dq cX8_takeIfBetter 19 (.getfield 24, 3) = true ∧ fp_dq cX8_takeIfBetter 22 (.iconst 0, 1) = true) ∧ (fp_dq cX8_takeIfBetter 23 (.aload_n 0, 1) = true ∧ fp_dq cX8_takeIfBetter 24 (.getfield 24, 3) = true)) ∧ ((fp_dq cX8_takeIfBetter 27 (.arraylength, 1) = true ∧ fp_dq cX8_takeIfBetter 28 (.invokestatic 98, 3) = true) ∧ (fp_dq cX8_takeIfBetter 31 (.return_, 1) = true ∧ fp_dq cX8_findShares 0 (.aload_n 0, 1) = true))))) := by decide +kernel
theorem dX8_tryLines_145 : decode cX8_tryLines 145 = .ok (.iload 5, 2) := fp_dk fp_hdX8_tryLines_145.1.1.1.1.1
theorem dX8_tryLines_147 : decode cX8_tryLines 147 = .ok (.iastore, 1) := fp_dk fp_hdX8_tryLines_145.1.1.1.1.2
theorem dX8_tryLines_148 : decode cX8_tryLines 148 = .ok (.aload_n 0, 1) := fp_dk fp_hdX8_tryLines_145.1.1.1.2.1
theorem dX8_tryLines_149 : decode cX8_tryLines 149 = .ok (.aload_n 1, 1) := fp_dk fp_hdX8_tryLines_145.1.1.1.2.2
theorem dX8_tryLines_150 : decode cX8_tryLines 150 = .ok (.aload_n 2, 1) := fp_dk fp_hdX8_tryLines_145.1.1.2.1.1
theorem dX8_tryLines_151 : decode cX8_tryLines 151 = .ok (.iload_n 3, 1) := fp_dk fp_hdX8_tryLines_145.1.1.2.1.2
theorem dX8_tryLines_152 : decode cX8_tryLines 152 = .ok (.iload 4, 2) := fp_dk fp_hdX8_tryLines_145.1.1.2.2.1
theorem dX8_tryLines_154 : decode cX8_tryLines 154 = .ok (.iconst 1, 1) := fp_dk fp_hdX8_tryLines_145.1.1.2.2.2
theorem dX8_tryLines_155 : decode cX8_tryLines 155 = .ok (.iadd, 1) := fp_dk fp_hdX8_tryLines_145.1.2.1.1.1
theorem dX8_tryLines_156 : decode cX8_tryLines 156 = .ok (.invokevirtual 76, 3) := fp_dk fp_hdX8_tryLines_145.1.2.1.1.2
theorem dX8_tryLines_159 : decode cX8_tryLines 159 = .ok (.iinc 5 1, 3) := fp_dk fp_hdX8_tryLines_145.1.2.1.2.1
theorem dX8_tryLines_162 : decode cX8_tryLines 162 = .ok (.goto (-68), 3) := fp_dk fp_hdX8_tryLines_145.1.2.1.2.2
theorem dX8_tryLines_165 : decode cX8_tryLines 165 = .ok (.return_, 1) := fp_dk fp_hdX8_tryLines_145.1.2.2.1.1
theorem dX8_takeIfBetter_0 : decode cX8_takeIfBetter 0 = .ok (.iload_n 1, 1) := fp_dk fp_hdX8_tryLines_145.1.2.2.1.2
theorem dX8_takeIfBetter_1 : decode cX8_takeIfBetter 1 = .ok (.aload_n 0, 1) := fp_dk fp_hdX8_tryLines_145.1.2.2.2.1
theorem dX8_takeIfBetter_2 : decode cX8_takeIfBetter 2 = .ok (.getfield 67, 3) := fp_dk fp_hdX8_tryLines_145.1.2.2.2.2
theorem dX8_takeIfBetter_5 : decode cX8_takeIfBetter 5 = .ok (.if_icmp .le 26, 3) := fp_dk fp_hdX8_tryLines_145.2.1.1.1.1
theorem dX8_takeIfBetter_8 : decode cX8_takeIfBetter 8 = .ok (.aload_n 0, 1) := fp_dk fp_hdX8_tryLines_145.2.1.1.1.2
theorem dX8_takeIfBetter_9 : decode cX8_takeIfBetter 9 = .ok (.iload_n 1, 1) := fp_dk fp_hdX8_tryLines_145.2.1.1.2.1
theorem dX8_takeIfBetter_10 : decode cX8_takeIfBetter 10 = .ok (.putfield 67, 3) := fp_dk fp_hdX8_tryLines_145.2.1.1.2.2
theorem dX8_takeIfBetter_13 : decode cX8_takeIfBetter 13 = .ok (.aload_n 0, 1) := fp_dk fp_hdX8_tryLines_145.2.1.2.1.1
theorem dX8_takeIfBetter_14 : decode cX8_takeIfBetter 14 = .ok (.getfield 28, 3) := fp_dk fp_hdX8_tryLines_145.2.1.2.1.2
theorem dX8_takeIfBetter_17 : decode cX8_takeIfBetter 17 = .ok (.iconst 0, 1) := fp_dk fp_hdX8_tryLines_145.2.1.2.2.1
theorem dX8_takeIfBetter_18 : decode cX8_takeIfBetter 18 = .ok (.aload_n 0, 1) := fp_dk fp_hdX8_tryLines_145.2.1.2.2.2
theorem dX8_takeIfBetter_19 : decode cX8_takeIfBetter 19 = .ok (.getfield 24, 3) := fp_dk fp_hdX8_tryLines_145.2.2.1.1.1
theorem dX8_takeIfBetter_22 : decode cX8_takeIfBetter 22 = .ok (.iconst 0, 1) := fp_dk fp_hdX8_tryLines_145.2.2.1.1.2
theorem dX8_takeIfBetter_23 : decode cX8_takeIfBetter 23 = .ok (.aload_n 0, 1) := fp_dk fp_hdX8_tryLines_145.2.2.1.2.1
theorem dX8_takeIfBetter_24 : decode cX8_takeIfBetter 24 = .ok (.getfield 24, 3) := fp_dk fp_hdX8_tryLines_145.2.2.1.2.2
theorem dX8_takeIfBetter_27 : decode cX8_takeIfBetter 27 = .ok (.arraylength, 1) := fp_dk fp_hdX8_tryLines_145.2.2.2.1.1
theorem dX8_takeIfBetter_28 : decode cX8_takeIfBetter 28 = .ok (.invokestatic 98, 3) := fp_dk fp_hdX8_tryLines_145.2.2.2.1.2
theorem dX8_takeIfBetter_31 : decode cX8_takeIfBetter 31 = .ok (.return_, 1) := fp_dk fp_hdX8_tryLines_145.2.2.2.2.1
theorem dX8_findShares_0 : decode cX8_findShares 0 = .ok (.aload_n 0, 1) := fp_dk fp_hdX8_tryLines_145.2.2.2.2.2
theorem fp_hdX8_findShares_1 : (((((fp_dq cX8_findShares 1 (.getfield 11, 3) = true ∧ fp_dq cX8_findShares 4 (.iconst 0, 1) = true) ∧ (fp_dq cX8_findShares 5 (.aaload, 1) = true ∧ fp_dq cX8_findShares 6 (.aload_n 3, 1) = true)) ∧ ((fp_dq cX8_findShares 7 (.invokevirtual 36, 3) = true ∧ fp_dq cX8_findShares 10 (.aload_n 0, 1) = true) ∧ (fp_dq cX8_findShares 11 (.getfield 31, 3) = true ∧ fp_dq cX8_findShares 14 (.lconst 0, 1) = true))) ∧ (((fp_dq cX8_findShares 15 (.invokestatic 104, 3) = true ∧ fp_dq cX8_findShares 18 (.aload_n 0, 1) = true) ∧ (fp_dq cX8_findShares 19 (.aload_n 1, 1) = true ∧ fp_dq cX8_findShares 20 (.aload_n 2, 1) = true)) ∧ ((fp_dq cX8_findShares 21 (.iload 4, 2) = true ∧ fp_dq cX8_findShares 23 (.iconst 0, 1) = true) ∧ (fp_dq cX8_findShares 24 (.lconst 1, 1) = true ∧ fp_dq cX8_findShares 25 (.invokevirtual 107, 3) = true)))) ∧ ((((fp_dq cX8_findShares 28 (.lconst 1, 1) = true ∧ fp_dq cX8_findShares 29 (.lstore 5, 2) = true) ∧ (fp_dq cX8_findShares 31 (.iconst 0, 1) = true ∧ fp_dq cX8_findShares 32 (.istore 7, 2) = true)) ∧ ((fp_dq cX8_findShares 34 (.iload 7, 2) = true ∧ fp_dq cX8_findShares 36 (.aload_n 2, 1) = true) ∧ (fp_dq cX8_findShares 37 (.getfield 80, 3) = true ∧ fp_dq cX8_findShares 40 (.if_icmp .ge 17, 3) = true))) ∧ (((fp_dq cX8_findShares 43 (.lload 5, 2) = true ∧ fp_dq cX8_findShares 45 (.ldc2_w 111, 3) = true) ∧ (fp_dq cX8_findShares 48 (.lmul, 1) = true ∧ fp_dq cX8_findShares 49 (.lstore 5, 2) = true)) ∧ ((fp_dq cX8_findShares 51 (.iinc 7 1, 3) = true ∧ fp_dq cX8_findShares 54 (.goto (-20), 3) = true) ∧ (fp_dq cX8_findShares 57 (.lload 5, 2) = true ∧ fp_dq cX8_findShares 59 (.lreturn, 1) = true))))) := by decide +kernel
theorem dX8_findShares_1 : decode cX8_findShares 1 = .ok (.getfield 11, 3) := fp_dk fp_hdX8_findShares_1.1.1.1.1.1
theorem dX8_findShares_4 : decode cX8_findShares 4 = .ok (.iconst 0, 1) := fp_dk fp_hdX8_findShares_1.1.1.1.1.2
theorem dX8_findShares_5 : decode cX8_findShares 5 = .ok (.aaload, 1) := fp_dk fp_hdX8_findShares_1.1.1.1.2.1
theorem dX8_findShares_6 : decode cX8_findShares 6 = .ok (.aload_n 3, 1) := fp_dk fp_hdX8_findShares_1.1.1.1.2.2
theorem dX8_findShares_7 : decode cX8_findShares 7 = .ok (.invokevirtual 36, 3) := fp_dk fp_hdX8_findShares_1.1.1.2.1.1
theorem dX8_findShares_10 : decode cX8_findShares 10 = .ok (.aload_n 0, 1) := fp_dk fp_hdX8_findShares_1.1.1.2.1.2
theorem dX8_findShares_11 : decode cX8_findShares 11 = .ok (.getfield 31, 3) := fp_dk fp_hdX8_findShares_1.1.1.2.2.1
theorem dX8_findShares_14 : decode cX8_findShares 14 = .ok (.lconst 0, 1) := fp_dk fp_hdX8_findShares_1.1.1.2.2.2
theorem dX8_findShares_15 : decode cX8_findShares 15 = .ok (.invokestatic 104, 3) := fp_dk fp_hdX8_findShares_1.1.2.1.1.1
theorem dX8_findShares_18 : decode cX8_findShares 18 = .ok (.aload_n 0, 1) := fp_dk fp_hdX8_findShares_1.1.2.1.1.2
theorem dX8_findShares_19 : decode cX8_findShares 19 = .ok (.aload_n 1, 1) := fp_dk fp_hdX8_findShares_1.1.2.1.2.1
theorem dX8_findShares_20 : decode cX8_findShares 20 = .ok (.aload_n 2, 1) := fp_dk fp_hdX8_findShares_1.1.2.1.2.2
theorem dX8_findShares_21 : decode cX8_findShares 21 = .ok (.iload 4, 2) := fp_dk fp_hdX8_findShares_1.1.2.2.1.1
theorem dX8_findShares_23 : decode cX8_findShares 23 = .ok (.iconst 0, 1) := fp_dk fp_hdX8_findShares_1.1.2.2.1.2
theorem dX8_findShares_24 : decode cX8_findShares 24 = .ok (.lconst 1, 1) := fp_dk fp_hdX8_findShares_1.1.2.2.2.1
theorem dX8_findShares_25 : decode cX8_findShares 25 = .ok (.invokevirtual 107, 3) := fp_dk fp_hdX8_findShares_1.1.2.2.2.2
theorem dX8_findShares_28 : decode cX8_findShares 28 = .ok (.lconst 1, 1) := fp_dk fp_hdX8_findShares_1.2.1.1.1.1
theorem dX8_findShares_29 : decode cX8_findShares 29 = .ok (.lstore 5, 2) := fp_dk fp_hdX8_findShares_1.2.1.1.1.2
theorem dX8_findShares_31 : decode cX8_findShares 31 = .ok (.iconst 0, 1) := fp_dk fp_hdX8_findShares_1.2.1.1.2.1
theorem dX8_findShares_32 : decode cX8_findShares 32 = .ok (.istore 7, 2) := fp_dk fp_hdX8_findShares_1.2.1.1.2.2
theorem dX8_findShares_34 : decode cX8_findShares 34 = .ok (.iload 7, 2) := fp_dk fp_hdX8_findShares_1.2.1.2.1.1
theorem dX8_findShares_36 : decode cX8_findShares 36 = .ok (.aload_n 2, 1) := fp_dk fp_hdX8_findShares_1.2.1.2.1.2
theorem dX8_findShares_37 : decode cX8_findShares 37 = .ok (.getfield 80, 3) := fp_dk fp_hdX8_findShares_1.2.1.2.2.1
theorem dX8_findShares_40 : decode cX8_findShares 40 = .ok (.if_icmp .ge 17, 3) := fp_dk fp_hdX8_findShares_1.2.1.2.2.2
theorem dX8_findShares_43 : decode cX8_findShares 43 = .ok (.lload 5, 2) := fp_dk fp_hdX8_findShares_1.2.2.1.1.1
theorem dX8_findShares_45 : decode cX8_findShares 45 = .ok (.ldc2_w 111, 3) := fp_dk fp_hdX8_findShares_1.2.2.1.1.2
theorem dX8_findShares_48 : decode cX8_findShares 48 = .ok (.lmul, 1) := fp_dk fp_hdX8_findShares_1.2.2.1.2.1
theorem dX8_findShares_49 : decode cX8_findShares 49 = .ok (.lstore 5, 2) := fp_dk fp_hdX8_findShares_1.2.2.1.2.2
theorem dX8_findShares_51 : decode cX8_findShares 51 = .ok (.iinc 7 1, 3) := fp_dk fp_hdX8_findShares_1.2.2.2.1.1
theorem dX8_findShares_54 : decode cX8_findShares 54 = .ok (.goto (-20), 3) := fp_dk fp_hdX8_findShares_1.2.2.2.1.2
theorem dX8_findShares_57 : decode cX8_findShares 57 = .ok (.lload 5, 2) := fp_dk fp_hdX8_findShares_1.2.2.2.2.1
theorem dX8_findShares_59 : decode cX8_findShares 59 = .ok (.lreturn, 1) := fp_dk fp_hdX8_findShares_1.2.2.2.2.2
theorem fp_hdX8_spread_0 : (((((fp_dq cX8_spread 0 (.lload 5, 2) = true ∧ fp_dq cX8_spread 2 (.lconst 0, 1) = true) ∧ (fp_dq cX8_spread 3 (.lcmp, 1) = true ∧ fp_dq cX8_spread 4 (.ifCond .ne 4, 3) = true)) ∧ ((fp_dq cX8_spread 7 (.return_, 1) = true ∧ fp_dq cX8_spread 8 (.iload 4, 2) = true) ∧ (fp_dq cX8_spread 10 (.bipush 12, 2) = true ∧ fp_dq cX8_spread 12 (.if_icmp .ge 12, 3) = true))) ∧ (((fp_dq cX8_spread 15 (.iload 4, 2) = true ∧ fp_dq cX8_spread 17 (.aload_n 2, 1) = true) ∧ (fp_dq cX8_spread 18 (.getfield 80, 3) = true ∧ fp_dq cX8_spread 21 (.if_icmp .lt 37, 3) = true)) ∧ ((fp_dq cX8_spread 24 (.aload_n 0, 1) = true ∧ fp_dq cX8_spread 25 (.getfield 11, 3) = true) ∧ (fp_dq cX8_spread 28 (.iload 4, 2) = true ∧ fp_dq cX8_spread 30 (.aaload, 1) = true)))) ∧ ((((fp_dq cX8_spread 31 (.aload_n 1, 1) = true ∧ fp_dq cX8_spread 32 (.iload_n 3, 1) = true) ∧ (fp_dq cX8_spread 33 (.invokevirtual 63, 3) = true ∧ fp_dq cX8_spread 36 (.istore 7, 2) = true)) ∧ ((fp_dq cX8_spread 38 (.iload 7, 2) = true ∧ fp_dq cX8_spread 40 (.bipush (-4), 2) = true) ∧ (fp_dq cX8_spread 42 (.if_icmp .eq 15, 3) = true ∧ fp_dq cX8_spread 45 (.aload_n 0, 1) = true))) ∧ (((fp_dq cX8_spread 46 (.getfield 31, 3) = true ∧ fp_dq cX8_spread 49 (.iload 7, 2) = true) ∧ (fp_dq cX8_spread 51 (.dup2, 1) = true ∧ fp_dq cX8_spread 52 (.laload, 1) = true)) ∧ ((fp_dq cX8_spread 53 (.lload 5, 2) = true ∧ fp_dq cX8_spread 55 (.ladd, 1) = true) ∧ (fp_dq cX8_spread 56 (.lastore, 1) = true ∧ fp_dq cX8_spread 57 (.return_, 1) = true))))) := by decide +kernel
theorem dX8_spread_0 : decode cX8_spread 0 = .ok (.lload 5, 2) := fp_dk fp_hdX8_spread_0.1.1.1.1.1
theorem dX8_spread_2 : decode cX8_spread 2 = .ok (.lconst 0, 1) := fp_dk fp_hdX8_spread_0.1.1.1.1.2
theorem dX8_spread_3 : decode cX8_spread 3 = .ok (.lcmp, 1) := fp_dk fp_hdX8_spread_0.1.1.1.2.1
theorem dX8_spread_4 : decode cX8_spread 4 = .ok (.ifCond .ne 4, 3) := fp_dk fp_hdX8_spread_0.1.1.1.2.2
theorem dX8_spread_7 : decode cX8_spread 7 = .ok (.return_, 1) := fp_dk fp_hdX8_spread_0.1.1.2.1.1
theorem dX8_spread_8 : decode cX8_spread 8 = .ok (.iload 4, 2) := fp_dk fp_hdX8_spread_0.1.1.2.1.2
theorem dX8_spread_10 : decode cX8_spread 10 = .ok (.bipush 12, 2) := fp_dk fp_hdX8_spread_0.1.1.2.2.1
theorem dX8_spread_12 : decode cX8_spread 12 = .ok (.if_icmp .ge 12, 3) := fp_dk fp_hdX8_spread_0.1.1.2.2.2
theorem dX8_spread_15 : decode cX8_spread 15 = .ok (.iload 4, 2) := fp_dk fp_hdX8_spread_0.1.2.1.1.1
theorem dX8_spread_17 : decode cX8_spread 17 = .ok (.aload_n 2, 1) := fp_dk fp_hdX8_spread_0.1.2.1.1.2
theorem dX8_spread_18 : decode cX8_spread 18 = .ok (.getfield 80, 3) := fp_dk fp_hdX8_spread_0.1.2.1.2.1
theorem dX8_spread_21 : decode cX8_spread 21 = .ok (.if_icmp .lt 37, 3) := fp_dk fp_hdX8_spread_0.1.2.1.2.2
theorem dX8_spread_24 : decode cX8_spread 24 = .ok (.aload_n 0, 1) := fp_dk fp_hdX8_spread_0.1.2.2.1.1
theorem dX8_spread_25 : decode cX8_spread 25 = .ok (.getfield 11, 3) := fp_dk fp_hdX8_spread_0.1.2.2.1.2
theorem dX8_spread_28 : decode cX8_spread 28 = .ok (.iload 4, 2) := fp_dk fp_hdX8_spread_0.1.2.2.2.1
theorem dX8_spread_30 : decode cX8_spread 30 = .ok (.aaload, 1) := fp_dk fp_hdX8_spread_0.1.2.2.2.2
theorem dX8_spread_31 : decode cX8_spread 31 = .ok (.aload_n 1, 1) := fp_dk fp_hdX8_spread_0.2.1.1.1.1
theorem dX8_spread_32 : decode cX8_spread 32 = .ok (.iload_n 3, 1) := fp_dk fp_hdX8_spread_0.2.1.1.1.2
theorem dX8_spread_33 : decode cX8_spread 33 = .ok (.invokevirtual 63, 3) := fp_dk fp_hdX8_spread_0.2.1.1.2.1
theorem dX8_spread_36 : decode cX8_spread 36 = .ok (.istore 7, 2) := fp_dk fp_hdX8_spread_0.2.1.1.2.2
theorem dX8_spread_38 : decode cX8_spread 38 = .ok (.iload 7, 2) := fp_dk fp_hdX8_spread_0.2.1.2.1.1
theorem dX8_spread_40 : decode cX8_spread 40 = .ok (.bipush (-4), 2) := fp_dk fp_hdX8_spread_0.2.1.2.1.2
theorem dX8_spread_42 : decode cX8_spread 42 = .ok (.if_icmp .eq 15, 3) := fp_dk fp_hdX8_spread_0.2.1.2.2.1
theorem dX8_spread_45 : decode cX8_spread 45 = .ok (.aload_n 0, 1) := fp_dk fp_hdX8_spread_0.2.1.2.2.2
theorem dX8_spread_46 : decode cX8_spread 46 = .ok (.getfield 31, 3) := fp_dk fp_hdX8_spread_0.2.2.1.1.1
theorem dX8_spread_49 : decode cX8_spread 49 = .ok (.iload 7, 2) := fp_dk fp_hdX8_spread_0.2.2.1.1.2
theorem dX8_spread_51 : decode cX8_spread 51 = .ok (.dup2, 1) := fp_dk fp_hdX8_spread_0.2.2.1.2.1
theorem dX8_spread_52 : decode cX8_spread 52 = .ok (.laload, 1) := fp_dk fp_hdX8_spread_0.2.2.1.2.2
theorem dX8_spread_53 : decode cX8_spread 53 = .ok (.lload 5, 2) := fp_dk fp_hdX8_spread_0.2.2.2.1.1
theorem dX8_spread_55 : decode cX8_spread 55 = .ok (.ladd, 1) := fp_dk fp_hdX8_spread_0.2.2.2.1.2
theorem dX8_spread_56 : decode cX8_spread 56 = .ok (.lastore, 1) := fp_dk fp_hdX8_spread_0.2.2.2.2.1
theorem dX8_spread_57 : decode cX8_spread 57 = .ok (.return_, 1) := fp_dk fp_hdX8_spread_0.2.2.2.2.2
theorem fp_hdX8_spread_58 : (((((fp_dq cX8_spread 58 (.aload_n 0, 1) = true ∧ fp_dq cX8_spread 59 (.getfield 11, 3) = true) ∧ (fp_dq cX8_spread 62 (.iload 4, 2) = true ∧ fp_dq cX8_spread 64 (.iconst 1, 1) = true)) ∧ ((fp_dq cX8_spread 65 (.iadd, 1) = true ∧ fp_dq cX8_spread 66 (.aaload, 1) = true) ∧ (fp_dq cX8_spread 67 (.aload_n 0, 1) = true ∧ fp_dq cX8_spread 68 (.getfield 11, 3) = true))) ∧ (((fp_dq cX8_spread 71 (.iload 4, 2) = true ∧ fp_dq cX8_spread 73 (.aaload, 1) = true) ∧ (fp_dq cX8_spread 74 (.invokevirtual 36, 3) = true ∧ fp_dq cX8_spread 77 (.aload_n 2, 1) = true)) ∧ ((fp_dq cX8_spread 78 (.aload_n 1, 1) = true ∧ fp_dq cX8_spread 79 (.aload_n 0, 1) = true) ∧ (fp_dq cX8_spread 80 (.getfield 11, 3) = true ∧ fp_dq cX8_spread 83 (.iload 4, 2) = true)))) ∧ ((((fp_dq cX8_spread 85 (.iconst 1, 1) = true ∧ fp_dq cX8_spread 86 (.iadd, 1) = true) ∧ (fp_dq cX8_spread 87 (.aaload, 1) = true ∧ fp_dq cX8_spread 88 (.iload 4, 2) = true)) ∧ ((fp_dq cX8_spread 90 (.invokevirtual 40, 3) = true ∧ fp_dq cX8_spread 93 (.pop, 1) = true) ∧ (fp_dq cX8_spread 94 (.aload_n 0, 1) = true ∧ fp_dq cX8_spread 95 (.aload_n 1, 1) = true))) ∧ (((fp_dq cX8_spread 96 (.aload_n 2, 1) = true ∧ fp_dq cX8_spread 97 (.iload_n 3, 1) = true) ∧ (fp_dq cX8_spread 98 (.iload 4, 2) = true ∧ fp_dq cX8_spread 100 (.iconst 1, 1) = true)) ∧ ((fp_dq cX8_spread 101 (.iadd, 1) = true ∧ fp_dq cX8_spread 102 (.lload 5, 2) = true) ∧ (fp_dq cX8_spread 104 (.aload_n 1, 1) = true ∧ fp_dq cX8_spread 105 (.getfield 113, 3) = true))))) := by decide +kernel
theorem dX8_spread_58 : decode cX8_spread 58 = .ok (.aload_n 0, 1) := fp_dk fp_hdX8_spread_58.1.1.1.1.1
theorem dX8_spread_59 : decode cX8_spread 59 = .ok (.getfield 11, 3) := fp_dk fp_hdX8_spread_58.1.1.1.1.2
theorem dX8_spread_62 : decode cX8_spread 62 = .ok (.iload 4, 2) := fp_dk fp_hdX8_spread_58.1.1.1.2.1
theorem dX8_spread_64 : decode cX8_spread 64 = .ok (.iconst 1, 1) := fp_dk fp_hdX8_spread_58.1.1.1.2.2
theorem dX8_spread_65 : decode cX8_spread 65 = .ok (.iadd, 1) := fp_dk fp_hdX8_spread_58.1.1.2.1.1
theorem dX8_spread_66 : decode cX8_spread 66 = .ok (.aaload, 1) := fp_dk fp_hdX8_spread_58.1.1.2.1.2
theorem dX8_spread_67 : decode cX8_spread 67 = .ok (.aload_n 0, 1) := fp_dk fp_hdX8_spread_58.1.1.2.2.1
theorem dX8_spread_68 : decode cX8_spread 68 = .ok (.getfield 11, 3) := fp_dk fp_hdX8_spread_58.1.1.2.2.2
theorem dX8_spread_71 : decode cX8_spread 71 = .ok (.iload 4, 2) := fp_dk fp_hdX8_spread_58.1.2.1.1.1
theorem dX8_spread_73 : decode cX8_spread 73 = .ok (.aaload, 1) := fp_dk fp_hdX8_spread_58.1.2.1.1.2
theorem dX8_spread_74 : decode cX8_spread 74 = .ok (.invokevirtual 36, 3) := fp_dk fp_hdX8_spread_58.1.2.1.2.1
theorem dX8_spread_77 : decode cX8_spread 77 = .ok (.aload_n 2, 1) := fp_dk fp_hdX8_spread_58.1.2.1.2.2
theorem dX8_spread_78 : decode cX8_spread 78 = .ok (.aload_n 1, 1) := fp_dk fp_hdX8_spread_58.1.2.2.1.1
theorem dX8_spread_79 : decode cX8_spread 79 = .ok (.aload_n 0, 1) := fp_dk fp_hdX8_spread_58.1.2.2.1.2
theorem dX8_spread_80 : decode cX8_spread 80 = .ok (.getfield 11, 3) := fp_dk fp_hdX8_spread_58.1.2.2.2.1
theorem dX8_spread_83 : decode cX8_spread 83 = .ok (.iload 4, 2) := fp_dk fp_hdX8_spread_58.1.2.2.2.2
theorem dX8_spread_85 : decode cX8_spread 85 = .ok (.iconst 1, 1) := fp_dk fp_hdX8_spread_58.2.1.1.1.1
theorem dX8_spread_86 : decode cX8_spread 86 = .ok (.iadd, 1) := fp_dk fp_hdX8_spread_58.2.1.1.1.2
theorem dX8_spread_87 : decode cX8_spread 87 = .ok (.aaload, 1) := fp_dk fp_hdX8_spread_58.2.1.1.2.1
theorem dX8_spread_88 : decode cX8_spread 88 = .ok (.iload 4, 2) := fp_dk fp_hdX8_spread_58.2.1.1.2.2
theorem dX8_spread_90 : decode cX8_spread 90 = .ok (.invokevirtual 40, 3) := fp_dk fp_hdX8_spread_58.2.1.2.1.1
theorem dX8_spread_93 : decode cX8_spread 93 = .ok (.pop, 1) := fp_dk fp_hdX8_spread_58.2.1.2.1.2
theorem dX8_spread_94 : decode cX8_spread 94 = .ok (.aload_n 0, 1) := fp_dk fp_hdX8_spread_58.2.1.2.2.1
theorem dX8_spread_95 : decode cX8_spread 95 = .ok (.aload_n 1, 1) := fp_dk fp_hdX8_spread_58.2.1.2.2.2
theorem dX8_spread_96 : decode cX8_spread 96 = .ok (.aload_n 2, 1) := fp_dk fp_hdX8_spread_58.2.2.1.1.1
theorem dX8_spread_97 : decode cX8_spread 97 = .ok (.iload_n 3, 1) := fp_dk fp_hdX8_spread_58.2.2.1.1.2
theorem dX8_spread_98 : decode cX8_spread 98 = .ok (.iload 4, 2) := fp_dk fp_hdX8_spread_58.2.2.1.2.1
theorem dX8_spread_100 : decode cX8_spread 100 = .ok (.iconst 1, 1) := fp_dk fp_hdX8_spread_58.2.2.1.2.2
theorem dX8_spread_101 : decode cX8_spread 101 = .ok (.iadd, 1) := fp_dk fp_hdX8_spread_58.2.2.2.1.1
theorem dX8_spread_102 : decode cX8_spread 102 = .ok (.lload 5, 2) := fp_dk fp_hdX8_spread_58.2.2.2.1.2
theorem dX8_spread_104 : decode cX8_spread 104 = .ok (.aload_n 1, 1) := fp_dk fp_hdX8_spread_58.2.2.2.2.1
theorem dX8_spread_105 : decode cX8_spread 105 = .ok (.getfield 113, 3) := fp_dk fp_hdX8_spread_58.2.2.2.2.2
theorem fp_hdX8_spread_108 : (((((fp_dq cX8_spread 108 (.i2l, 1) = true ∧ fp_dq cX8_spread 109 (.lmul, 1) = true) ∧ (fp_dq cX8_spread 110 (.invokevirtual 107, 3) = true ∧ fp_dq cX8_spread 113 (.aload_n 0, 1) = true)) ∧ ((fp_dq cX8_spread 114 (.getfield 11, 3) = true ∧ fp_dq cX8_spread 117 (.iload 4, 2) = true) ∧ (fp_dq cX8_spread 119 (.iconst 1, 1) = true ∧ fp_dq cX8_spread 120 (.iadd, 1) = true))) ∧ (((fp_dq cX8_spread 121 (.aaload, 1) = true ∧ fp_dq cX8_spread 122 (.aload_n 0, 1) = true) ∧ (fp_dq cX8_spread 123 (.getfield 11, 3) = true ∧ fp_dq cX8_spread 126 (.iload 4, 2) = true)) ∧ ((fp_dq cX8_spread 128 (.aaload, 1) = true ∧ fp_dq cX8_spread 129 (.invokevirtual 36, 3) = true) ∧ (fp_dq cX8_spread 132 (.aload_n 0, 1) = true ∧ fp_dq cX8_spread 133 (.aload_n 1, 1) = true)))) ∧ ((((fp_dq cX8_spread 134 (.aload_n 2, 1) = true ∧ fp_dq cX8_spread 135 (.iload_n 3, 1) = true) ∧ (fp_dq cX8_spread 136 (.iload 4, 2) = true ∧ fp_dq cX8_spread 138 (.iconst 1, 1) = true)) ∧ ((fp_dq cX8_spread 139 (.iadd, 1) = true ∧ fp_dq cX8_spread 140 (.lload 5, 2) = true) ∧ (fp_dq cX8_spread 142 (.bipush 10, 2) = true ∧ fp_dq cX8_spread 144 (.aload_n 1, 1) = true))) ∧ (((fp_dq cX8_spread 145 (.getfield 113, 3) = true ∧ fp_dq cX8_spread 148 (.isub, 1) = true) ∧ (fp_dq cX8_spread 149 (.i2l, 1) = true ∧ fp_dq cX8_spread 150 (.lmul, 1) = true)) ∧ ((fp_dq cX8_spread 151 (.invokevirtual 107, 3) = true ∧ fp_dq cX8_spread 154 (.return_, 1) = true) ∧ (fp_dq cX9_init 0 (.aload_n 0, 1) = true ∧ fp_dq cX9_init 1 (.invokespecial 3, 3) = true))))) := by decide +kernel
theorem dX8_spread_108 : decode cX8_spread 108 = .ok (.i2l, 1) := fp_dk fp_hdX8_spread_108.1.1.1.1.1
theorem dX8_spread_109 : decode cX8_spread 109 = .ok (.lmul, 1) := fp_dk fp_hdX8_spread_108.1.1.1.1.2
theorem dX8_spread_110 : decode cX8_spread 110 = .ok (.invokevirtual 107, 3) := fp_dk fp_hdX8_spread_108.1.1.1.2.1
theorem dX8_spread_113 : decode cX8_spread 113 = .ok (.aload_n 0, 1) := fp_dk fp_hdX8_spread_108.1.1.1.2.2
theorem dX8_spread_114 : decode cX8_spread 114 = .ok (.getfield 11, 3) := fp_dk fp_hdX8_spread_108.1.1.2.1.1
theorem dX8_spread_117 : decode cX8_spread 117 = .ok (.iload 4, 2) := fp_dk fp_hdX8_spread_108.1.1.2.1.2
theorem dX8_spread_119 : decode cX8_spread 119 = .ok (.iconst 1, 1) := fp_dk fp_hdX8_spread_108.1.1.2.2.1
theorem dX8_spread_120 : decode cX8_spread 120 = .ok (.iadd, 1) := fp_dk fp_hdX8_spread_108.1.1.2.2.2
theorem dX8_spread_121 : decode cX8_spread 121 = .ok (.aaload, 1) := fp_dk fp_hdX8_spread_108.1.2.1.1.1
theorem dX8_spread_122 : decode cX8_spread 122 = .ok (.aload_n 0, 1) := fp_dk fp_hdX8_spread_108.1.2.1.1.2
theorem dX8_spread_123 : decode cX8_spread 123 = .ok (.getfield 11, 3) := fp_dk fp_hdX8_spread_108.1.2.1.2.1
theorem dX8_spread_126 : decode cX8_spread 126 = .ok (.iload 4, 2) := fp_dk fp_hdX8_spread_108.1.2.1.2.2
theorem dX8_spread_128 : decode cX8_spread 128 = .ok (.aaload, 1) := fp_dk fp_hdX8_spread_108.1.2.2.1.1
theorem dX8_spread_129 : decode cX8_spread 129 = .ok (.invokevirtual 36, 3) := fp_dk fp_hdX8_spread_108.1.2.2.1.2
theorem dX8_spread_132 : decode cX8_spread 132 = .ok (.aload_n 0, 1) := fp_dk fp_hdX8_spread_108.1.2.2.2.1
theorem dX8_spread_133 : decode cX8_spread 133 = .ok (.aload_n 1, 1) := fp_dk fp_hdX8_spread_108.1.2.2.2.2
theorem dX8_spread_134 : decode cX8_spread 134 = .ok (.aload_n 2, 1) := fp_dk fp_hdX8_spread_108.2.1.1.1.1
theorem dX8_spread_135 : decode cX8_spread 135 = .ok (.iload_n 3, 1) := fp_dk fp_hdX8_spread_108.2.1.1.1.2
theorem dX8_spread_136 : decode cX8_spread 136 = .ok (.iload 4, 2) := fp_dk fp_hdX8_spread_108.2.1.1.2.1
theorem dX8_spread_138 : decode cX8_spread 138 = .ok (.iconst 1, 1) := fp_dk fp_hdX8_spread_108.2.1.1.2.2
theorem dX8_spread_139 : decode cX8_spread 139 = .ok (.iadd, 1) := fp_dk fp_hdX8_spread_108.2.1.2.1.1
theorem dX8_spread_140 : decode cX8_spread 140 = .ok (.lload 5, 2) := fp_dk fp_hdX8_spread_108.2.1.2.1.2
theorem dX8_spread_142 : decode cX8_spread 142 = .ok (.bipush 10, 2) := fp_dk fp_hdX8_spread_108.2.1.2.2.1
theorem dX8_spread_144 : decode cX8_spread 144 = .ok (.aload_n 1, 1) := fp_dk fp_hdX8_spread_108.2.1.2.2.2
theorem dX8_spread_145 : decode cX8_spread 145 = .ok (.getfield 113, 3) := fp_dk fp_hdX8_spread_108.2.2.1.1.1
theorem dX8_spread_148 : decode cX8_spread 148 = .ok (.isub, 1) := fp_dk fp_hdX8_spread_108.2.2.1.1.2
theorem dX8_spread_149 : decode cX8_spread 149 = .ok (.i2l, 1) := fp_dk fp_hdX8_spread_108.2.2.1.2.1
theorem dX8_spread_150 : decode cX8_spread 150 = .ok (.lmul, 1) := fp_dk fp_hdX8_spread_108.2.2.1.2.2
theorem dX8_spread_151 : decode cX8_spread 151 = .ok (.invokevirtual 107, 3) := fp_dk fp_hdX8_spread_108.2.2.2.1.1
theorem dX8_spread_154 : decode cX8_spread 154 = .ok (.return_, 1) := fp_dk fp_hdX8_spread_108.2.2.2.1.2
theorem dX9_init_0 : decode cX9_init 0 = .ok (.aload_n 0, 1) := fp_dk fp_hdX8_spread_108.2.2.2.2.1
theorem dX9_init_1 : decode cX9_init 1 = .ok (.invokespecial 3, 3) := fp_dk fp_hdX8_spread_108.2.2.2.2.2
theorem fp_hdX9_init_4 : (((((fp_dq cX9_init 4 (.aload_n 0, 1) = true ∧ fp_dq cX9_init 5 (.bipush (-4), 2) = true) ∧ (fp_dq cX9_init 7 (.putfield 9, 3) = true ∧ fp_dq cX9_init 10 (.aload_n 0, 1) = true)) ∧ ((fp_dq cX9_init 11 (.bipush 40, 2) = true ∧ fp_dq cX9_init 13 (.newarray .int, 2) = true) ∧ (fp_dq cX9_init 15 (.putfield 15, 3) = true ∧ fp_dq cX9_init 18 (.return_, 1) = true))) ∧ (((fp_dq cX9_isThere 0 (.aload_n 0, 1) = true ∧ fp_dq cX9_isThere 1 (.getfield 9, 3) = true) ∧ (fp_dq cX9_isThere 4 (.bipush (-4), 2) = true ∧ fp_dq cX9_isThere 6 (.if_icmp .eq 7, 3) = true)) ∧ ((fp_dq cX9_isThere 9 (.iconst 1, 1) = true ∧ fp_dq cX9_isThere 10 (.goto 4, 3) = true) ∧ (fp_dq cX9_isThere 13 (.iconst 0, 1) = true ∧ fp_dq cX9_isThere 14 (.ireturn, 1) = true)))) ∧ ((((fp_dq cX9_has 0 (.iload_n 1, 1) = true ∧ fp_dq cX9_has 1 (.ifCond .lt 15, 3) = true) ∧ (fp_dq cX9_has 4 (.iload_n 1, 1) = true ∧ fp_dq cX9_has 5 (.aload_n 0, 1) = true)) ∧ ((fp_dq cX9_has 6 (.getfield 9, 3) = true ∧ fp_dq cX9_has 9 (.if_icmp .ge 7, 3) = true) ∧ (fp_dq cX9_has 12 (.iconst 1, 1) = true ∧ fp_dq cX9_has 13 (.goto 4, 3) = true))) ∧ (((fp_dq cX9_has 16 (.iconst 0, 1) = true ∧ fp_dq cX9_has 17 (.ireturn, 1) = true) ∧ (fp_dq cX9_hasVisit 0 (.aload_n 0, 1) = true ∧ fp_dq cX9_hasVisit 1 (.iload_n 1, 1) = true)) ∧ ((fp_dq cX9_hasVisit 2 (.invokevirtual 19, 3) = true ∧ fp_dq cX9_hasVisit 5 (.ifCond .eq 23, 3) = true) ∧ (fp_dq cX9_hasVisit 8 (.aload_n 0, 1) = true ∧ fp_dq cX9_hasVisit 9 (.iload_n 1, 1) = true))))) := by decide +kernel
theorem dX9_init_4 : decode cX9_init 4 = .ok (.aload_n 0, 1) := fp_dk fp_hdX9_init_4.1.1.1.1.1
theorem dX9_init_5 : decode cX9_init 5 = .ok (.bipush (-4), 2) := fp_dk fp_hdX9_init_4.1.1.1.1.2
theorem dX9_init_7 : decode cX9_init 7 = .ok (.putfield 9, 3) := fp_dk fp_hdX9_init_4.1.1.1.2.1
theorem dX9_init_10 : decode cX9_init 10 = .ok (.aload_n 0, 1) := fp_dk fp_hdX9_init_4.1.1.1.2.2
theorem dX9_init_11 : decode cX9_init 11 = .ok (.bipush 40, 2) := fp_dk fp_hdX9_init_4.1.1.2.1.1
theorem dX9_init_13 : decode cX9_init 13 = .ok (.newarray .int, 2) := fp_dk fp_hdX9_init_4.1.1.2.1.2
theorem dX9_init_15 : decode cX9_init 15 = .ok (.putfield 15, 3) := fp_dk fp_hdX9_init_4.1.1.2.2.1
theorem dX9_init_18 : decode cX9_init 18 = .ok (.return_, 1) := fp_dk fp_hdX9_init_4.1.1.2.2.2
theorem dX9_isThere_0 : decode cX9_isThere 0 = .ok (.aload_n 0, 1) := fp_dk fp_hdX9_init_4.1.2.1.1.1
theorem dX9_isThere_1 : decode cX9_isThere 1 = .ok (.getfield 9, 3) := fp_dk fp_hdX9_init_4.1.2.1.1.2
theorem dX9_isThere_4 : decode cX9_isThere 4 = .ok (.bipush (-4), 2) := fp_dk fp_hdX9_init_4.1.2.1.2.1
theorem dX9_isThere_6 : decode cX9_isThere 6 = .ok (.if_icmp .eq 7, 3) := fp_dk fp_hdX9_init_4.1.2.1.2.2
theorem dX9_isThere_9 : decode cX9_isThere 9 = .ok (.iconst 1, 1) := fp_dk fp_hdX9_init_4.1.2.2.1.1
theorem dX9_isThere_10 : decode cX9_isThere 10 = .ok (.goto 4, 3) := fp_dk fp_hdX9_init_4.1.2.2.1.2
theorem dX9_isThere_13 : decode cX9_isThere 13 = .ok (.iconst 0, 1) := fp_dk fp_hdX9_init_4.1.2.2.2.1
theorem dX9_isThere_14 : decode cX9_isThere 14 = .ok (.ireturn, 1) := fp_dk fp_hdX9_init_4.1.2.2.2.2
theorem dX9_has_0 : decode cX9_has 0 = .ok (.iload_n 1, 1) := fp_dk fp_hdX9_init_4.2.1.1.1.1
theorem dX9_has_1 : decode cX9_has 1 = .ok (.ifCond .lt 15, 3) := fp_dk fp_hdX9_init_4.2.1.1.1.2
theorem dX9_has_4 : decode cX9_has 4 = .ok (.iload_n 1, 1) := fp_dk fp_hdX9_init_4.2.1.1.2.1
theorem dX9_has_5 : decode cX9_has 5 = .ok (.aload_n 0, 1) := fp_dk fp_hdX9_init_4.2.1.1.2.2
theorem dX9_has_6 : decode cX9_has 6 = .ok (.getfield 9, 3) := fp_dk fp_hdX9_init_4.2.1.2.1.1
theorem dX9_has_9 : decode cX9_has 9 = .ok (.if_icmp .ge 7, 3) := fp_dk fp_hdX9_init_4.2.1.2.1.2
theorem dX9_has_12 : decode cX9_has 12 = .ok (.iconst 1, 1) := fp_dk fp_hdX9_init_4.2.1.2.2.1
theorem dX9_has_13 : decode cX9_has 13 = .ok (.goto 4, 3) := fp_dk fp_hdX9_init_4.2.1.2.2.2
theorem dX9_has_16 : decode cX9_has 16 = .ok (.iconst 0, 1) := fp_dk fp_hdX9_init_4.2.2.1.1.1
theorem dX9_has_17 : decode cX9_has 17 = .ok (.ireturn, 1) := fp_dk fp_hdX9_init_4.2.2.1.1.2
theorem dX9_hasVisit_0 : decode cX9_hasVisit 0 = .ok (.aload_n 0, 1) := fp_dk fp_hdX9_init_4.2.2.1.2.1
theorem dX9_hasVisit_1 : decode cX9_hasVisit 1 = .ok (.iload_n 1, 1) := fp_dk fp_hdX9_init_4.2.2.1.2.2
theorem dX9_hasVisit_2 : decode cX9_hasVisit 2 = .ok (.invokevirtual 19, 3) := fp_dk fp_hdX9_init_4.2.2.2.1.1
theorem dX9_hasVisit_5 : decode cX9_hasVisit 5 = .ok (.ifCond .eq 23, 3) := fp_dk fp_hdX9_init_4.2.2.2.1.2
theorem dX9_hasVisit_8 : decode cX9_hasVisit 8 = .ok (.aload_n 0, 1) := fp_dk fp_hdX9_init_4.2.2.2.2.1
theorem dX9_hasVisit_9 : decode cX9_hasVisit 9 = .ok (.iload_n 1, 1) := fp_dk fp_hdX9_init_4.2.2.2.2.2
theorem fp_hdX9_hasVisit_10 : (((((fp_dq cX9_hasVisit 10 (.iload_n 2, 1) = true ∧ fp_dq cX9_hasVisit 11 (.iconst 1, 1) = true) ∧ (fp_dq cX9_hasVisit 12 (.iadd, 1) = true ∧ fp_dq cX9_hasVisit 13 (.iconst 4, 1) = true)) ∧ ((fp_dq cX9_hasVisit 14 (.imul, 1) = true ∧ fp_dq cX9_hasVisit 15 (.iadd, 1) = true) ∧ (fp_dq cX9_hasVisit 16 (.iconst 1, 1) = true ∧ fp_dq cX9_hasVisit 17 (.isub, 1) = true))) ∧ (((fp_dq cX9_hasVisit 18 (.invokevirtual 19, 3) = true ∧ fp_dq cX9_hasVisit 21 (.ifCond .eq 7, 3) = true) ∧ (fp_dq cX9_hasVisit 24 (.iconst 1, 1) = true ∧ fp_dq cX9_hasVisit 25 (.goto 4, 3) = true)) ∧ ((fp_dq cX9_hasVisit 28 (.iconst 0, 1) = true ∧ fp_dq cX9_hasVisit 29 (.ireturn, 1) = true) ∧ (fp_dq cX9_faultTakenAs 0 (.aload_n 0, 1) = true ∧ fp_dq cX9_faultTakenAs 1 (.invokevirtual 23, 3) = true)))) ∧ ((((fp_dq cX9_faultTakenAs 4 (.ifCond .ne 5, 3) = true ∧ fp_dq cX9_faultTakenAs 7 (.iconst 1, 1) = true) ∧ (fp_dq cX9_faultTakenAs 8 (.ireturn, 1) = true ∧ fp_dq cX9_faultTakenAs 9 (.aload_n 0, 1) = true)) ∧ ((fp_dq cX9_faultTakenAs 10 (.getfield 27, 3) = true ∧ fp_dq cX9_faultTakenAs 13 (.iload_n 1, 1) = true) ∧ (fp_dq cX9_faultTakenAs 14 (.if_icmp .ne 7, 3) = true ∧ fp_dq cX9_faultTakenAs 17 (.iconst 0, 1) = true))) ∧ (((fp_dq cX9_faultTakenAs 18 (.goto 4, 3) = true ∧ fp_dq cX9_faultTakenAs 21 (.iconst 3, 1) = true) ∧ (fp_dq cX9_faultTakenAs 22 (.ireturn, 1) = true ∧ fp_dq cX9_renew 0 (.aload_n 0, 1) = true)) ∧ ((fp_dq cX9_renew 1 (.iload_n 1, 1) = true ∧ fp_dq cX9_renew 2 (.putfield 27, 3) = true) ∧ (fp_dq cX9_renew 5 (.aload_n 0, 1) = true ∧ fp_dq cX9_renew 6 (.iload_n 2, 1) = true))))) := by decide +kernel
theorem dX9_hasVisit_10 : decode cX9_hasVisit 10 = .ok (.iload_n 2, 1) := fp_dk fp_hdX9_hasVisit_10.1.1.1.1.1
theorem dX9_hasVisit_11 : decode cX9_hasVisit 11 = .ok (.iconst 1, 1) := fp_dk fp_hdX9_hasVisit_10.1.1.1.1.2
theorem dX9_hasVisit_12 : decode cX9_hasVisit 12 = .ok (.iadd, 1) := fp_dk fp_hdX9_hasVisit_10.1.1.1.2.1
theorem dX9_hasVisit_13 : decode cX9_hasVisit 13 = .ok (.iconst 4, 1) := fp_dk fp_hdX9_hasVisit_10.1.1.1.2.2
theorem dX9_hasVisit_14 : decode cX9_hasVisit 14 = .ok (.imul, 1) := fp_dk fp_hdX9_hasVisit_10.1.1.2.1.1
theorem dX9_hasVisit_15 : decode cX9_hasVisit 15 = .ok (.iadd, 1) := fp_dk fp_hdX9_hasVisit_10.1.1.2.1.2
theorem dX9_hasVisit_16 : decode cX9_hasVisit 16 = .ok (.iconst 1, 1) := fp_dk fp_hdX9_hasVisit_10.1.1.2.2.1
theorem dX9_hasVisit_17 : decode cX9_hasVisit 17 = .ok (.isub, 1) := fp_dk fp_hdX9_hasVisit_10.1.1.2.2.2
theorem dX9_hasVisit_18 : decode cX9_hasVisit 18 = .ok (.invokevirtual 19, 3) := fp_dk fp_hdX9_hasVisit_10.1.2.1.1.1
theorem dX9_hasVisit_21 : decode cX9_hasVisit 21 = .ok (.ifCond .eq 7, 3) := fp_dk fp_hdX9_hasVisit_10.1.2.1.1.2
theorem dX9_hasVisit_24 : decode cX9_hasVisit 24 = .ok (.iconst 1, 1) := fp_dk fp_hdX9_hasVisit_10.1.2.1.2.1
theorem dX9_hasVisit_25 : decode cX9_hasVisit 25 = .ok (.goto 4, 3) := fp_dk fp_hdX9_hasVisit_10.1.2.1.2.2
theorem dX9_hasVisit_28 : decode cX9_hasVisit 28 = .ok (.iconst 0, 1) := fp_dk fp_hdX9_hasVisit_10.1.2.2.1.1
theorem dX9_hasVisit_29 : decode cX9_hasVisit 29 = .ok (.ireturn, 1) := fp_dk fp_hdX9_hasVisit_10.1.2.2.1.2
theorem dX9_faultTakenAs_0 : decode cX9_faultTakenAs 0 = .ok (.aload_n 0, 1) := fp_dk fp_hdX9_hasVisit_10.1.2.2.2.1
theorem dX9_faultTakenAs_1 : decode cX9_faultTakenAs 1 = .ok (.invokevirtual 23, 3) := fp_dk fp_hdX9_hasVisit_10.1.2.2.2.2
theorem dX9_faultTakenAs_4 : decode cX9_faultTakenAs 4 = .ok (.ifCond .ne 5, 3) := fp_dk fp_hdX9_hasVisit_10.2.1.1.1.1
theorem dX9_faultTakenAs_7 : decode cX9_faultTakenAs 7 = .ok (.iconst 1, 1) := fp_dk fp_hdX9_hasVisit_10.2.1.1.1.2
theorem dX9_faultTakenAs_8 : decode cX9_faultTakenAs 8 = .ok (.ireturn, 1) := fp_dk fp_hdX9_hasVisit_10.2.1.1.2.1
theorem dX9_faultTakenAs_9 : decode cX9_faultTakenAs 9 = .ok (.aload_n 0, 1) := fp_dk fp_hdX9_hasVisit_10.2.1.1.2.2
theorem dX9_faultTakenAs_10 : decode cX9_faultTakenAs 10 = .ok (.getfield 27, 3) := fp_dk fp_hdX9_hasVisit_10.2.1.2.1.1
theorem dX9_faultTakenAs_13 : decode cX9_faultTakenAs 13 = .ok (.iload_n 1, 1) := fp_dk fp_hdX9_hasVisit_10.2.1.2.1.2
theorem dX9_faultTakenAs_14 : decode cX9_faultTakenAs 14 = .ok (.if_icmp .ne 7, 3) := fp_dk fp_hdX9_hasVisit_10.2.1.2.2.1
theorem dX9_faultTakenAs_17 : decode cX9_faultTakenAs 17 = .ok (.iconst 0, 1) := fp_dk fp_hdX9_hasVisit_10.2.1.2.2.2
theorem dX9_faultTakenAs_18 : decode cX9_faultTakenAs 18 = .ok (.goto 4, 3) := fp_dk fp_hdX9_hasVisit_10.2.2.1.1.1
theorem dX9_faultTakenAs_21 : decode cX9_faultTakenAs 21 = .ok (.iconst 3, 1) := fp_dk fp_hdX9_hasVisit_10.2.2.1.1.2
theorem dX9_faultTakenAs_22 : decode cX9_faultTakenAs 22 = .ok (.ireturn, 1) := fp_dk fp_hdX9_hasVisit_10.2.2.1.2.1
theorem dX9_renew_0 : decode cX9_renew 0 = .ok (.aload_n 0, 1) := fp_dk fp_hdX9_hasVisit_10.2.2.1.2.2
theorem dX9_renew_1 : decode cX9_renew 1 = .ok (.iload_n 1, 1) := fp_dk fp_hdX9_hasVisit_10.2.2.2.1.1
theorem dX9_renew_2 : decode cX9_renew 2 = .ok (.putfield 27, 3) := fp_dk fp_hdX9_hasVisit_10.2.2.2.1.2
theorem dX9_renew_5 : decode cX9_renew 5 = .ok (.aload_n 0, 1) := fp_dk fp_hdX9_hasVisit_10.2.2.2.2.1
theorem dX9_renew_6 : decode cX9_renew 6 = .ok (.iload_n 2, 1) := fp_dk fp_hdX9_hasVisit_10.2.2.2.2.2
theorem fp_hdX9_renew_7 : (((((fp_dq cX9_renew 7 (.putfield 9, 3) = true ∧ fp_dq cX9_renew 10 (.aload_n 0, 1) = true) ∧ (fp_dq cX9_renew 11 (.getfield 15, 3) = true ∧ fp_dq cX9_renew 14 (.iconst 0, 1) = true)) ∧ ((fp_dq cX9_renew 15 (.invokestatic 30, 3) = true ∧ fp_dq cX9_renew 18 (.return_, 1) = true) ∧ (fp_dq cX9_write 0 (.aload_n 0, 1) = true ∧ fp_dq cX9_write 1 (.getfield 27, 3) = true))) ∧ (((fp_dq cX9_write 4 (.ifCond .ne 14, 3) = true ∧ fp_dq cX9_write 7 (.aload_n 0, 1) = true) ∧ (fp_dq cX9_write 8 (.getfield 15, 3) = true ∧ fp_dq cX9_write 11 (.iload_n 1, 1) = true)) ∧ ((fp_dq cX9_write 12 (.iload_n 2, 1) = true ∧ fp_dq cX9_write 13 (.i2b, 1) = true) ∧ (fp_dq cX9_write 14 (.iastore, 1) = true ∧ fp_dq cX9_write 15 (.goto 29, 3) = true)))) ∧ ((((fp_dq cX9_write 18 (.aload_n 0, 1) = true ∧ fp_dq cX9_write 19 (.getfield 27, 3) = true) ∧ (fp_dq cX9_write 22 (.iconst 1, 1) = true ∧ fp_dq cX9_write 23 (.if_icmp .ne 14, 3) = true)) ∧ ((fp_dq cX9_write 26 (.aload_n 0, 1) = true ∧ fp_dq cX9_write 27 (.getfield 15, 3) = true) ∧ (fp_dq cX9_write 30 (.iload_n 1, 1) = true ∧ fp_dq cX9_write 31 (.iload_n 2, 1) = true))) ∧ (((fp_dq cX9_write 32 (.i2s, 1) = true ∧ fp_dq cX9_write 33 (.iastore, 1) = true) ∧ (fp_dq cX9_write 34 (.goto 10, 3) = true ∧ fp_dq cX9_write 37 (.aload_n 0, 1) = true)) ∧ ((fp_dq cX9_write 38 (.getfield 15, 3) = true ∧ fp_dq cX9_write 41 (.iload_n 1, 1) = true) ∧ (fp_dq cX9_write 42 (.iload_n 2, 1) = true ∧ fp_dq cX9_write 43 (.iastore, 1) = true))))) := by decide +kernel
theorem dX9_renew_7 : decode cX9_renew 7 = .ok (.putfield 9, 3) := fp_dk fp_hdX9_renew_7.1.1.1.1.1
theorem dX9_renew_10 : decode cX9_renew 10 = .ok (.aload_n 0, 1) := fp_dk fp_hdX9_renew_7.1.1.1.1.2
theorem dX9_renew_11 : decode cX9_renew 11 = .ok (.getfield 15, 3) := fp_dk fp_hdX9_renew_7.1.1.1.2.1
theorem dX9_renew_14 : decode cX9_renew 14 = .ok (.iconst 0, 1) := fp_dk fp_hdX9_renew_7.1.1.1.2.2
theorem dX9_renew_15 : decode cX9_renew 15 = .ok (.invokestatic 30, 3) := fp_dk fp_hdX9_renew_7.1.1.2.1.1
theorem dX9_renew_18 : decode cX9_renew 18 = .ok (.return_, 1) := fp_dk fp_hdX9_renew_7.1.1.2.1.2
theorem dX9_write_0 : decode cX9_write 0 = .ok (.aload_n 0, 1) := fp_dk fp_hdX9_renew_7.1.1.2.2.1
theorem dX9_write_1 : decode cX9_write 1 = .ok (.getfield 27, 3) := fp_dk fp_hdX9_renew_7.1.1.2.2.2
theorem dX9_write_4 : decode cX9_write 4 = .ok (.ifCond .ne 14, 3) := fp_dk fp_hdX9_renew_7.1.2.1.1.1
theorem dX9_write_7 : decode cX9_write 7 = .ok (.aload_n 0, 1) := fp_dk fp_hdX9_renew_7.1.2.1.1.2
theorem dX9_write_8 : decode cX9_write 8 = .ok (.getfield 15, 3) := fp_dk fp_hdX9_renew_7.1.2.1.2.1
theorem dX9_write_11 : decode cX9_write 11 = .ok (.iload_n 1, 1) := fp_dk fp_hdX9_renew_7.1.2.1.2.2
theorem dX9_write_12 : decode cX9_write 12 = .ok (.iload_n 2, 1) := fp_dk fp_hdX9_renew_7.1.2.2.1.1
theorem dX9_write_13 : decode cX9_write 13 = .ok (.i2b, 1) := fp_dk fp_hdX9_renew_7.1.2.2.1.2
theorem dX9_write_14 : decode cX9_write 14 = .ok (.iastore, 1) := fp_dk fp_hdX9_renew_7.1.2.2.2.1
theorem dX9_write_15 : decode cX9_write 15 = .ok (.goto 29, 3) := fp_dk fp_hdX9_renew_7.1.2.2.2.2
theorem dX9_write_18 : decode cX9_write 18 = .ok (.aload_n 0, 1) := fp_dk fp_hdX9_renew_7.2.1.1.1.1
theorem dX9_write_19 : decode cX9_write 19 = .ok (.getfield 27, 3) := fp_dk fp_hdX9_renew_7.2.1.1.1.2
theorem dX9_write_22 : decode cX9_write 22 = .ok (.iconst 1, 1) := fp_dk fp_hdX9_renew_7.2.1.1.2.1
theorem dX9_write_23 : decode cX9_write 23 = .ok (.if_icmp .ne 14, 3) := fp_dk fp_hdX9_renew_7.2.1.1.2.2
theorem dX9_write_26 : decode cX9_write 26 = .ok (.aload_n 0, 1) := fp_dk fp_hdX9_renew_7.2.1.2.1.1
theorem dX9_write_27 : decode cX9_write 27 = .ok (.getfield 15, 3) := fp_dk fp_hdX9_renew_7.2.1.2.1.2
theorem dX9_write_30 : decode cX9_write 30 = .ok (.iload_n 1, 1) := fp_dk fp_hdX9_renew_7.2.1.2.2.1
theorem dX9_write_31 : decode cX9_write 31 = .ok (.iload_n 2, 1) := fp_dk fp_hdX9_renew_7.2.1.2.2.2
theorem dX9_write_32 : decode cX9_write 32 = .ok (.i2s, 1) := fp_dk fp_hdX9_renew_7.2.2.1.1.1
theorem dX9_write_33 : decode cX9_write 33 = .ok (.iastore, 1) := fp_dk fp_hdX9_renew_7.2.2.1.1.2
theorem dX9_write_34 : decode cX9_write 34 = .ok (.goto 10, 3) := fp_dk fp_hdX9_renew_7.2.2.1.2.1
theorem dX9_write_37 : decode cX9_write 37 = .ok (.aload_n 0, 1) := fp_dk fp_hdX9_renew_7.2.2.1.2.2
theorem dX9_write_38 : decode cX9_write 38 = .ok (.getfield 15, 3) := fp_dk fp_hdX9_renew_7.2.2.2.1.1
theorem dX9_write_41 : decode cX9_write 41 = .ok (.iload_n 1, 1) := fp_dk fp_hdX9_renew_7.2.2.2.1.2
theorem dX9_write_42 : decode cX9_write 42 = .ok (.iload_n 2, 1) := fp_dk fp_hdX9_renew_7.2.2.2.2.1
theorem dX9_write_43 : decode cX9_write 43 = .ok (.iastore, 1) := fp_dk fp_hdX9_renew_7.2.2.2.2.2
theorem fp_hdX9_write_44 : (((((fp_dq cX9_write 44 (.return_, 1) = true ∧ fp_dq cX10_init 0 (.aload_n 0, 1) = true) ∧ (fp_dq cX10_init 1 (.invokespecial 3, 3) = true ∧ fp_dq cX10_init 4 (.aload_n 0, 1) = true)) ∧ ((fp_dq cX10_init 5 (.bipush 12, 2) = true ∧ fp_dq cX10_init 7 (.newarray .int, 2) = true) ∧ (fp_dq cX10_init 9 (.putfield 9, 3) = true ∧ fp_dq cX10_init 12 (.aload_n 0, 1) = true))) ∧ (((fp_dq cX10_init 13 (.bipush 12, 2) = true ∧ fp_dq cX10_init 15 (.newarray .int, 2) = true) ∧ (fp_dq cX10_init 17 (.putfield 15, 3) = true ∧ fp_dq cX10_init 20 (.aload_n 0, 1) = true)) ∧ ((fp_dq cX10_init 21 (.bipush 12, 2) = true ∧ fp_dq cX10_init 23 (.newarray .int, 2) = true) ∧ (fp_dq cX10_init 25 (.putfield 18, 3) = true ∧ fp_dq cX10_init 28 (.aload_n 0, 1) = true)))) ∧ ((((fp_dq cX10_init 29 (.bipush 12, 2) = true ∧ fp_dq cX10_init 31 (.newarray .int, 2) = true) ∧ (fp_dq cX10_init 33 (.putfield 21, 3) = true ∧ fp_dq cX10_init 36 (.return_, 1) = true)) ∧ ((fp_dq cX10_copyFrom 0 (.aload_n 0, 1) = true ∧ fp_dq cX10_copyFrom 1 (.aload_n 1, 1) = true) ∧ (fp_dq cX10_copyFrom 2 (.getfield 24, 3) = true ∧ fp_dq cX10_copyFrom 5 (.putfield 24, 3) = true))) ∧ (((fp_dq cX10_copyFrom 8 (.aload_n 1, 1) = true ∧ fp_dq cX10_copyFrom 9 (.getfield 9, 3) = true) ∧ (fp_dq cX10_copyFrom 12 (.iconst 0, 1) = true ∧ fp_dq cX10_copyFrom 13 (.aload_n 0, 1) = true)) ∧ ((fp_dq cX10_copyFrom 14 (.getfield 9, 3) = true ∧ fp_dq cX10_copyFrom 17 (.iconst 0, 1) = true) ∧ (fp_dq cX10_copyFrom 18 (.aload_n 0, 1) = true ∧ fp_dq cX10_copyFrom 19 (.getfield 9, 3) = true))))) := by decide +kernel
theorem dX9_write_44 : decode cX9_write 44 = .ok (.return_, 1) := fp_dk fp_hdX9_write_44.1.1.1.1.1
theorem dX10_init_0 : decode cX10_init 0 = .ok (.aload_n 0, 1) := fp_dk fp_hdX9_write_44.1.1.1.1.2
theorem dX10_init_1 : decode cX10_init 1 = .ok (.invokespecial 3, 3) := fp_dk fp_hdX9_write_44.1.1.1.2.1
theorem dX10_init_4 : decode cX10_init 4 = .ok (.aload_n 0, 1) := fp_dk fp_hdX9_write_44.1.1.1.2.2
theorem dX10_init_5 : decode cX10_init 5 = .ok (.bipush 12, 2) := fp_dk fp_hdX9_write_44.1.1.2.1.1
theorem dX10_init_7 : decode cX10_init 7 = .ok (.newarray .int, 2) := fp_dk fp_hdX9_write_44.1.1.2.1.2
theorem dX10_init_9 : decode cX10_init 9 = .ok (.putfield 9, 3) := fp_dk fp_hdX9_write_44.1.1.2.2.1
theorem dX10_init_12 : decode cX10_init 12 = .ok (.aload_n 0, 1) := fp_dk fp_hdX9_write_44.1.1.2.2.2
theorem dX10_init_13 : decode cX10_init 13 = .ok (.bipush 12, 2) := fp_dk fp_hdX9_write_44.1.2.1.1.1
theorem dX10_init_15 : decode cX10_init 15 = .ok (.newarray .int, 2) := fp_dk fp_hdX9_write_44.1.2.1.1.2
theorem dX10_init_17 : decode cX10_init 17 = .ok (.putfield 15, 3) := fp_dk fp_hdX9_write_44.1.2.1.2.1
theorem dX10_init_20 : decode cX10_init 20 = .ok (.aload_n 0, 1) := fp_dk fp_hdX9_write_44.1.2.1.2.2
theorem dX10_init_21 : decode cX10_init 21 = .ok (.bipush 12, 2) := fp_dk fp_hdX9_write_44.1.2.2.1.1
theorem dX10_init_23 : decode cX10_init 23 = .ok (.newarray .int, 2) := fp_dk fp_hdX9_write_44.1.2.2.1.2
theorem dX10_init_25 : decode cX10_init 25 = .ok (.putfield 18, 3) := fp_dk fp_hdX9_write_44.1.2.2.2.1
theorem dX10_init_28 : decode cX10_init 28 = .ok (.aload_n 0, 1) := fp_dk fp_hdX9_write_44.1.2.2.2.2
theorem dX10_init_29 : decode cX10_init 29 = .ok (.bipush 12, 2) := fp_dk fp_hdX9_write_44.2.1.1.1.1
theorem dX10_init_31 : decode cX10_init 31 = .ok (.newarray .int, 2) := fp_dk fp_hdX9_write_44.2.1.1.1.2
theorem dX10_init_33 : decode cX10_init 33 = .ok (.putfield 21, 3) := fp_dk fp_hdX9_write_44.2.1.1.2.1
theorem dX10_init_36 : decode cX10_init 36 = .ok (.return_, 1) := fp_dk fp_hdX9_write_44.2.1.1.2.2
theorem dX10_copyFrom_0 : decode cX10_copyFrom 0 = .ok (.aload_n 0, 1) := fp_dk fp_hdX9_write_44.2.1.2.1.1
theorem dX10_copyFrom_1 : decode cX10_copyFrom 1 = .ok (.aload_n 1, 1) := fp_dk fp_hdX9_write_44.2.1.2.1.2
theorem dX10_copyFrom_2 : decode cX10_copyFrom 2 = .ok (.getfield 24, 3) := fp_dk fp_hdX9_write_44.2.1.2.2.1
theorem dX10_copyFrom_5 : decode cX10_copyFrom 5 = .ok (.putfield 24, 3) := fp_dk fp_hdX9_write_44.2.1.2.2.2
theorem dX10_copyFrom_8 : decode cX10_copyFrom 8 = .ok (.aload_n 1, 1) := fp_dk fp_hdX9_write_44.2.2.1.1.1
theorem dX10_copyFrom_9 : decode cX10_copyFrom 9 = .ok (.getfield 9, 3) := fp_dk fp_hdX9_write_44.2.2.1.1.2
theorem dX10_copyFrom_12 : decode cX10_copyFrom 12 = .ok (.iconst 0, 1) := fp_dk fp_hdX9_write_44.2.2.1.2.1
theorem dX10_copyFrom_13 : decode cX10_copyFrom 13 = .ok (.aload_n 0, 1) := fp_dk fp_hdX9_write_44.2.2.1.2.2
theorem dX10_copyFrom_14 : decode cX10_copyFrom 14 = .ok (.getfield 9, 3) := fp_dk fp_hdX9_write_44.2.2.2.1.1
theorem dX10_copyFrom_17 : decode cX10_copyFrom 17 = .ok (.iconst 0, 1) := fp_dk fp_hdX9_write_44.2.2.2.1.2
theorem dX10_copyFrom_18 : decode cX10_copyFrom 18 = .ok (.aload_n 0, 1) := fp_dk fp_hdX9_write_44.2.2.2.2.1
theorem dX10_copyFrom_19 : decode cX10_copyFrom 19 = .ok (.getfield 9, 3) := fp_dk fp_hdX9_write_44.2.2.2.2.2
theorem fp_hdX10_copyFrom_22 : (((((fp_dq cX10_copyFrom 22 (.arraylength, 1) = true ∧ fp_dq cX10_copyFrom 23 (.invokestatic 28, 3) = true) ∧ (fp_dq cX10_copyFrom 26 (.aload_n 1, 1) = true ∧ fp_dq cX10_copyFrom 27 (.getfield 15, 3) = true)) ∧ ((fp_dq cX10_copyFrom 30 (.iconst 0, 1) = true ∧ fp_dq cX10_copyFrom 31 (.aload_n 0, 1) = true) ∧ (fp_dq cX10_copyFrom 32 (.getfield 15, 3) = true ∧ fp_dq cX10_copyFrom 35 (.iconst 0, 1) = true))) ∧ (((fp_dq cX10_copyFrom 36 (.aload_n 0, 1) = true ∧ fp_dq cX10_copyFrom 37 (.getfield 15, 3) = true) ∧ (fp_dq cX10_copyFrom 40 (.arraylength, 1) = true ∧ fp_dq cX10_copyFrom 41 (.invokestatic 28, 3) = true)) ∧ ((fp_dq cX10_copyFrom 44 (.aload_n 1, 1) = true ∧ fp_dq cX10_copyFrom 45 (.getfield 18, 3) = true) ∧ (fp_dq cX10_copyFrom 48 (.iconst 0, 1) = true ∧ fp_dq cX10_copyFrom 49 (.aload_n 0, 1) = true)))) ∧ ((((fp_dq cX10_copyFrom 50 (.getfield 18, 3) = true ∧ fp_dq cX10_copyFrom 53 (.iconst 0, 1) = true) ∧ (fp_dq cX10_copyFrom 54 (.aload_n 0, 1) = true ∧ fp_dq cX10_copyFrom 55 (.getfield 18, 3) = true)) ∧ ((fp_dq cX10_copyFrom 58 (.arraylength, 1) = true ∧ fp_dq cX10_copyFrom 59 (.invokestatic 28, 3) = true) ∧ (fp_dq cX10_copyFrom 62 (.aload_n 1, 1) = true ∧ fp_dq cX10_copyFrom 63 (.getfield 21, 3) = true))) ∧ (((fp_dq cX10_copyFrom 66 (.iconst 0, 1) = true ∧ fp_dq cX10_copyFrom 67 (.aload_n 0, 1) = true) ∧ (fp_dq cX10_copyFrom 68 (.getfield 21, 3) = true ∧ fp_dq cX10_copyFrom 71 (.iconst 0, 1) = true)) ∧ ((fp_dq cX10_copyFrom 72 (.aload_n 0, 1) = true ∧ fp_dq cX10_copyFrom 73 (.getfield 21, 3) = true) ∧ (fp_dq cX10_copyFrom 76 (.arraylength, 1) = true ∧ fp_dq cX10_copyFrom 77 (.invokestatic 28, 3) = true))))) := by decide +kernel
theorem dX10_copyFrom_22 : decode cX10_copyFrom 22 = .ok (.arraylength, 1) := fp_dk fp_hdX10_copyFrom_22.1.1.1.1.1
theorem dX10_copyFrom_23 : decode cX10_copyFrom 23 = .ok (.invokestatic 28, 3) := fp_dk fp_hdX10_copyFrom_22.1.1.1.1.2
theorem dX10_copyFrom_26 : decode cX10_copyFrom 26 = .ok (.aload_n 1, 1) := fp_dk fp_hdX10_copyFrom_22.1.1.1.2.1
theorem dX10_copyFrom_27 : decode cX10_copyFrom 27 = .ok (.getfield 15, 3) := fp_dk fp_hdX10_copyFrom_22.1.1.1.2.2
theorem dX10_copyFrom_30 : decode cX10_copyFrom 30 = .ok (.iconst 0, 1) := fp_dk fp_hdX10_copyFrom_22.1.1.2.1.1
theorem dX10_copyFrom_31 : decode cX10_copyFrom 31 = .ok (.aload_n 0, 1) := fp_dk fp_hdX10_copyFrom_22.1.1.2.1.2
theorem dX10_copyFrom_32 : decode cX10_copyFrom 32 = .ok (.getfield 15, 3) := fp_dk fp_hdX10_copyFrom_22.1.1.2.2.1
theorem dX10_copyFrom_35 : decode cX10_copyFrom 35 = .ok (.iconst 0, 1) := fp_dk fp_hdX10_copyFrom_22.1.1.2.2.2
theorem dX10_copyFrom_36 : decode cX10_copyFrom 36 = .ok (.aload_n 0, 1) := fp_dk fp_hdX10_copyFrom_22.1.2.1.1.1
theorem dX10_copyFrom_37 : decode cX10_copyFrom 37 = .ok (.getfield 15, 3) := fp_dk fp_hdX10_copyFrom_22.1.2.1.1.2
theorem dX10_copyFrom_40 : decode cX10_copyFrom 40 = .ok (.arraylength, 1) := fp_dk fp_hdX10_copyFrom_22.1.2.1.2.1
theorem dX10_copyFrom_41 : decode cX10_copyFrom 41 = .ok (.invokestatic 28, 3) := fp_dk fp_hdX10_copyFrom_22.1.2.1.2.2
theorem dX10_copyFrom_44 : decode cX10_copyFrom 44 = .ok (.aload_n 1, 1) := fp_dk fp_hdX10_copyFrom_22.1.2.2.1.1
theorem dX10_copyFrom_45 : decode cX10_copyFrom 45 = .ok (.getfield 18, 3) := fp_dk fp_hdX10_copyFrom_22.1.2.2.1.2
theorem dX10_copyFrom_48 : decode cX10_copyFrom 48 = .ok (.iconst 0, 1) := fp_dk fp_hdX10_copyFrom_22.1.2.2.2.1
theorem dX10_copyFrom_49 : decode cX10_copyFrom 49 = .ok (.aload_n 0, 1) := fp_dk fp_hdX10_copyFrom_22.1.2.2.2.2
theorem dX10_copyFrom_50 : decode cX10_copyFrom 50 = .ok (.getfield 18, 3) := fp_dk fp_hdX10_copyFrom_22.2.1.1.1.1
theorem dX10_copyFrom_53 : decode cX10_copyFrom 53 = .ok (.iconst 0, 1) := fp_dk fp_hdX10_copyFrom_22.2.1.1.1.2
theorem dX10_copyFrom_54 : decode cX10_copyFrom 54 = .ok (.aload_n 0, 1) := fp_dk fp_hdX10_copyFrom_22.2.1.1.2.1
theorem dX10_copyFrom_55 : decode cX10_copyFrom 55 = .ok (.getfield 18, 3) := fp_dk fp_hdX10_copyFrom_22.2.1.1.2.2
theorem dX10_copyFrom_58 : decode cX10_copyFrom 58 = .ok (.arraylength, 1) := fp_dk fp_hdX10_copyFrom_22.2.1.2.1.1
theorem dX10_copyFrom_59 : decode cX10_copyFrom 59 = .ok (.invokestatic 28, 3) := fp_dk fp_hdX10_copyFrom_22.2.1.2.1.2
theorem dX10_copyFrom_62 : decode cX10_copyFrom 62 = .ok (.aload_n 1, 1) := fp_dk fp_hdX10_copyFrom_22.2.1.2.2.1
theorem dX10_copyFrom_63 : decode cX10_copyFrom 63 = .ok (.getfield 21, 3) := fp_dk fp_hdX10_copyFrom_22.2.1.2.2.2
theorem dX10_copyFrom_66 : decode cX10_copyFrom 66 = .ok (.iconst 0, 1) := fp_dk fp_hdX10_copyFrom_22.2.2.1.1.1
theorem dX10_copyFrom_67 : decode cX10_copyFrom 67 = .ok (.aload_n 0, 1) := fp_dk fp_hdX10_copyFrom_22.2.2.1.1.2
theorem dX10_copyFrom_68 : decode cX10_copyFrom 68 = .ok (.getfield 21, 3) := fp_dk fp_hdX10_copyFrom_22.2.2.1.2.1
theorem dX10_copyFrom_71 : decode cX10_copyFrom 71 = .ok (.iconst 0, 1) := fp_dk fp_hdX10_copyFrom_22.2.2.1.2.2
theorem dX10_copyFrom_72 : decode cX10_copyFrom 72 = .ok (.aload_n 0, 1) := fp_dk fp_hdX10_copyFrom_22.2.2.2.1.1
theorem dX10_copyFrom_73 : decode cX10_copyFrom 73 = .ok (.getfield 21, 3) := fp_dk fp_hdX10_copyFrom_22.2.2.2.1.2
theorem dX10_copyFrom_76 : decode cX10_copyFrom 76 = .ok (.arraylength, 1) := fp_dk fp_hdX10_copyFrom_22.2.2.2.2.1
theorem dX10_copyFrom_77 : decode cX10_copyFrom 77 = .ok (.invokestatic 28, 3) := fp_dk fp_hdX10_copyFrom_22.2.2.2.2.2
theorem fp_hdX10_copyFrom_80 : (((((fp_dq cX10_copyFrom 80 (.return_, 1) = true ∧ fp_dq cX10_has 0 (.iload_n 1, 1) = true) ∧ (fp_dq cX10_has 1 (.ifCond .lt 15, 3) = true ∧ fp_dq cX10_has 4 (.iload_n 1, 1) = true)) ∧ ((fp_dq cX10_has 5 (.aload_n 0, 1) = true ∧ fp_dq cX10_has 6 (.getfield 24, 3) = true) ∧ (fp_dq cX10_has 9 (.if_icmp .ge 7, 3) = true ∧ fp_dq cX10_has 12 (.iconst 1, 1) = true))) ∧ (((fp_dq cX10_has 13 (.goto 4, 3) = true ∧ fp_dq cX10_has 16 (.iconst 0, 1) = true) ∧ (fp_dq cX10_has 17 (.ireturn, 1) = true ∧ fp_dq cX10_isDraw 0 (.aload_n 0, 1) = true)) ∧ ((fp_dq cX10_isDraw 1 (.getfield 21, 3) = true ∧ fp_dq cX10_isDraw 4 (.iload_n 1, 1) = true) ∧ (fp_dq cX10_isDraw 5 (.iaload, 1) = true ∧ fp_dq cX10_isDraw 6 (.bipush (-4), 2) = true)))) ∧ ((((fp_dq cX10_isDraw 8 (.if_icmp .ne 7, 3) = true ∧ fp_dq cX10_isDraw 11 (.iconst 1, 1) = true) ∧ (fp_dq cX10_isDraw 12 (.goto 4, 3) = true ∧ fp_dq cX10_isDraw 15 (.iconst 0, 1) = true)) ∧ ((fp_dq cX10_isDraw 16 (.ireturn, 1) = true ∧ fp_dq cX10_isDrawOf 0 (.aload_n 0, 1) = true) ∧ (fp_dq cX10_isDrawOf 1 (.getfield 15, 3) = true ∧ fp_dq cX10_isDrawOf 4 (.iload_n 2, 1) = true))) ∧ (((fp_dq cX10_isDrawOf 5 (.iaload, 1) = true ∧ fp_dq cX10_isDrawOf 6 (.iload_n 1, 1) = true) ∧ (fp_dq cX10_isDrawOf 7 (.if_icmp .ne 15, 3) = true ∧ fp_dq cX10_isDrawOf 10 (.aload_n 0, 1) = true)) ∧ ((fp_dq cX10_isDrawOf 11 (.iload_n 2, 1) = true ∧ fp_dq cX10_isDrawOf 12 (.invokevirtual 34, 3) = true) ∧ (fp_dq cX10_isDrawOf 15 (.ifCond .eq 7, 3) = true ∧ fp_dq cX10_isDrawOf 18 (.iconst 1, 1) = true))))) := by decide +kernel
theorem dX10_copyFrom_80 : decode cX10_copyFrom 80 = .ok (.return_, 1) := fp_dk fp_hdX10_copyFrom_80.1.1.1.1.1
theorem dX10_has_0 : decode cX10_has 0 = .ok (.iload_n 1, 1) := fp_dk fp_hdX10_copyFrom_80.1.1.1.1.2
theorem dX10_has_1 : decode cX10_has 1 = .ok (.ifCond .lt 15, 3) := fp_dk fp_hdX10_copyFrom_80.1.1.1.2.1
theorem dX10_has_4 : decode cX10_has 4 = .ok (.iload_n 1, 1) := fp_dk fp_hdX10_copyFrom_80.1.1.1.2.2
theorem dX10_has_5 : decode cX10_has 5 = .ok (.aload_n 0, 1) := fp_dk fp_hdX10_copyFrom_80.1.1.2.1.1
theorem dX10_has_6 : decode cX10_has 6 = .ok (.getfield 24, 3) := fp_dk fp_hdX10_copyFrom_80.1.1.2.1.2
theorem dX10_has_9 : decode cX10_has 9 = .ok (.if_icmp .ge 7, 3) := fp_dk fp_hdX10_copyFrom_80.1.1.2.2.1
theorem dX10_has_12 : decode cX10_has 12 = .ok (.iconst 1, 1) := fp_dk fp_hdX10_copyFrom_80.1.1.2.2.2
theorem dX10_has_13 : decode cX10_has 13 = .ok (.goto 4, 3) := fp_dk fp_hdX10_copyFrom_80.1.2.1.1.1
theorem dX10_has_16 : decode cX10_has 16 = .ok (.iconst 0, 1) := fp_dk fp_hdX10_copyFrom_80.1.2.1.1.2
theorem dX10_has_17 : decode cX10_has 17 = .ok (.ireturn, 1) := fp_dk fp_hdX10_copyFrom_80.1.2.1.2.1
theorem dX10_isDraw_0 : decode cX10_isDraw 0 = .ok (.aload_n 0, 1) := fp_dk fp_hdX10_copyFrom_80.1.2.1.2.2
theorem dX10_isDraw_1 : decode cX10_isDraw 1 = .ok (.getfield 21, 3) := fp_dk fp_hdX10_copyFrom_80.1.2.2.1.1
theorem dX10_isDraw_4 : decode cX10_isDraw 4 = .ok (.iload_n 1, 1) := fp_dk fp_hdX10_copyFrom_80.1.2.2.1.2
theorem dX10_isDraw_5 : decode cX10_isDraw 5 = .ok (.iaload, 1) := fp_dk fp_hdX10_copyFrom_80.1.2.2.2.1
theorem dX10_isDraw_6 : decode cX10_isDraw 6 = .ok (.bipush (-4), 2) := fp_dk fp_hdX10_copyFrom_80.1.2.2.2.2
theorem dX10_isDraw_8 : decode cX10_isDraw 8 = .ok (.if_icmp .ne 7, 3) := fp_dk fp_hdX10_copyFrom_80.2.1.1.1.1
theorem dX10_isDraw_11 : decode cX10_isDraw 11 = .ok (.iconst 1, 1) := fp_dk fp_hdX10_copyFrom_80.2.1.1.1.2
theorem dX10_isDraw_12 : decode cX10_isDraw 12 = .ok (.goto 4, 3) := fp_dk fp_hdX10_copyFrom_80.2.1.1.2.1
theorem dX10_isDraw_15 : decode cX10_isDraw 15 = .ok (.iconst 0, 1) := fp_dk fp_hdX10_copyFrom_80.2.1.1.2.2
theorem dX10_isDraw_16 : decode cX10_isDraw 16 = .ok (.ireturn, 1) := fp_dk fp_hdX10_copyFrom_80.2.1.2.1.1
theorem dX10_isDrawOf_0 : decode cX10_isDrawOf 0 = .ok (.aload_n 0, 1) := fp_dk fp_hdX10_copyFrom_80.2.1.2.1.2
theorem dX10_isDrawOf_1 : decode cX10_isDrawOf 1 = .ok (.getfield 15, 3) := fp_dk fp_hdX10_copyFrom_80.2.1.2.2.1
theorem dX10_isDrawOf_4 : decode cX10_isDrawOf 4 = .ok (.iload_n 2, 1) := fp_dk fp_hdX10_copyFrom_80.2.1.2.2.2
theorem dX10_isDrawOf_5 : decode cX10_isDrawOf 5 = .ok (.iaload, 1) := fp_dk fp_hdX10_copyFrom_80.2.2.1.1.1
theorem dX10_isDrawOf_6 : decode cX10_isDrawOf 6 = .ok (.iload_n 1, 1) := fp_dk fp_hdX10_copyFrom_80.2.2.1.1.2
theorem dX10_isDrawOf_7 : decode cX10_isDrawOf 7 = .ok (.if_icmp .ne 15, 3) := fp_dk fp_hdX10_copyFrom_80.2.2.1.2.1
theorem dX10_isDrawOf_10 : decode cX10_isDrawOf 10 = .ok (.aload_n 0, 1) := fp_dk fp_hdX10_copyFrom_80.2.2.1.2.2
theorem dX10_isDrawOf_11 : decode cX10_isDrawOf 11 = .ok (.iload_n 2, 1) := fp_dk fp_hdX10_copyFrom_80.2.2.2.1.1
theorem dX10_isDrawOf_12 : decode cX10_isDrawOf 12 = .ok (.invokevirtual 34, 3) := fp_dk fp_hdX10_copyFrom_80.2.2.2.1.2
theorem dX10_isDrawOf_15 : decode cX10_isDrawOf 15 = .ok (.ifCond .eq 7, 3) := fp_dk fp_hdX10_copyFrom_80.2.2.2.2.1
theorem dX10_isDrawOf_18 : decode cX10_isDrawOf 18 = .ok (.iconst 1, 1) := fp_dk fp_hdX10_copyFrom_80.2.2.2.2.2
theorem fp_hdX10_isDrawOf_19 : (((((fp_dq cX10_isDrawOf 19 (.goto 4, 3) = true ∧ fp_dq cX10_isDrawOf 22 (.iconst 0, 1) = true) ∧ (fp_dq cX10_isDrawOf 23 (.ireturn, 1) = true ∧ fp_dq cX10_drawsOf 0 (.iconst 0, 1) = true)) ∧ ((fp_dq cX10_drawsOf 1 (.istore_n 2, 1) = true ∧ fp_dq cX10_drawsOf 2 (.iconst 0, 1) = true) ∧ (fp_dq cX10_drawsOf 3 (.istore_n 3, 1) = true ∧ fp_dq cX10_drawsOf 4 (.iload_n 3, 1) = true))) ∧ (((fp_dq cX10_drawsOf 5 (.aload_n 0, 1) = true ∧ fp_dq cX10_drawsOf 6 (.getfield 24, 3) = true) ∧ (fp_dq cX10_drawsOf 9 (.if_icmp .ge 21, 3) = true ∧ fp_dq cX10_drawsOf 12 (.aload_n 0, 1) = true)) ∧ ((fp_dq cX10_drawsOf 13 (.iload_n 1, 1) = true ∧ fp_dq cX10_drawsOf 14 (.iload_n 3, 1) = true) ∧ (fp_dq cX10_drawsOf 15 (.invokevirtual 38, 3) = true ∧ fp_dq cX10_drawsOf 18 (.ifCond .eq 6, 3) = true)))) ∧ ((((fp_dq cX10_drawsOf 21 (.iinc 2 1, 3) = true ∧ fp_dq cX10_drawsOf 24 (.iinc 3 1, 3) = true) ∧ (fp_dq cX10_drawsOf 27 (.goto (-23), 3) = true ∧ fp_dq cX10_drawsOf 30 (.iload_n 2, 1) = true)) ∧ ((fp_dq cX10_drawsOf 31 (.ireturn, 1) = true ∧ fp_dq cX10_lastDay 0 (.aload_n 0, 1) = true) ∧ (fp_dq cX10_lastDay 1 (.getfield 24, 3) = true ∧ fp_dq cX10_lastDay 4 (.ifCond .ne 7, 3) = true))) ∧ (((fp_dq cX10_lastDay 7 (.iconst 0, 1) = true ∧ fp_dq cX10_lastDay 8 (.goto 14, 3) = true) ∧ (fp_dq cX10_lastDay 11 (.aload_n 0, 1) = true ∧ fp_dq cX10_lastDay 12 (.getfield 9, 3) = true)) ∧ ((fp_dq cX10_lastDay 15 (.aload_n 0, 1) = true ∧ fp_dq cX10_lastDay 16 (.getfield 24, 3) = true) ∧ (fp_dq cX10_lastDay 19 (.iconst 1, 1) = true ∧ fp_dq cX10_lastDay 20 (.isub, 1) = true))))) := by decide +kernel
theorem dX10_isDrawOf_19 : decode cX10_isDrawOf 19 = .ok (.goto 4, 3) := fp_dk fp_hdX10_isDrawOf_19.1.1.1.1.1
theorem dX10_isDrawOf_22 : decode cX10_isDrawOf 22 = .ok (.iconst 0, 1) := fp_dk fp_hdX10_isDrawOf_19.1.1.1.1.2
theorem dX10_isDrawOf_23 : decode cX10_isDrawOf 23 = .ok (.ireturn, 1) := fp_dk fp_hdX10_isDrawOf_19.1.1.1.2.1
theorem dX10_drawsOf_0 : decode cX10_drawsOf 0 = .ok (.iconst 0, 1) := fp_dk fp_hdX10_isDrawOf_19.1.1.1.2.2
theorem dX10_drawsOf_1 : decode cX10_drawsOf 1 = .ok (.istore_n 2, 1) := fp_dk fp_hdX10_isDrawOf_19.1.1.2.1.1
theorem dX10_drawsOf_2 : decode cX10_drawsOf 2 = .ok (.iconst 0, 1) := fp_dk fp_hdX10_isDrawOf_19.1.1.2.1.2
theorem dX10_drawsOf_3 : decode cX10_drawsOf 3 = .ok (.istore_n 3, 1) := fp_dk fp_hdX10_isDrawOf_19.1.1.2.2.1
theorem dX10_drawsOf_4 : decode cX10_drawsOf 4 = .ok (.iload_n 3, 1) := fp_dk fp_hdX10_isDrawOf_19.1.1.2.2.2
theorem dX10_drawsOf_5 : decode cX10_drawsOf 5 = .ok (.aload_n 0, 1) := fp_dk fp_hdX10_isDrawOf_19.1.2.1.1.1
theorem dX10_drawsOf_6 : decode cX10_drawsOf 6 = .ok (.getfield 24, 3) := fp_dk fp_hdX10_isDrawOf_19.1.2.1.1.2
theorem dX10_drawsOf_9 : decode cX10_drawsOf 9 = .ok (.if_icmp .ge 21, 3) := fp_dk fp_hdX10_isDrawOf_19.1.2.1.2.1
theorem dX10_drawsOf_12 : decode cX10_drawsOf 12 = .ok (.aload_n 0, 1) := fp_dk fp_hdX10_isDrawOf_19.1.2.1.2.2
theorem dX10_drawsOf_13 : decode cX10_drawsOf 13 = .ok (.iload_n 1, 1) := fp_dk fp_hdX10_isDrawOf_19.1.2.2.1.1
theorem dX10_drawsOf_14 : decode cX10_drawsOf 14 = .ok (.iload_n 3, 1) := fp_dk fp_hdX10_isDrawOf_19.1.2.2.1.2
theorem dX10_drawsOf_15 : decode cX10_drawsOf 15 = .ok (.invokevirtual 38, 3) := fp_dk fp_hdX10_isDrawOf_19.1.2.2.2.1
theorem dX10_drawsOf_18 : decode cX10_drawsOf 18 = .ok (.ifCond .eq 6, 3) := fp_dk fp_hdX10_isDrawOf_19.1.2.2.2.2
theorem dX10_drawsOf_21 : decode cX10_drawsOf 21 = .ok (.iinc 2 1, 3) := fp_dk fp_hdX10_isDrawOf_19.2.1.1.1.1
theorem dX10_drawsOf_24 : decode cX10_drawsOf 24 = .ok (.iinc 3 1, 3) := fp_dk fp_hdX10_isDrawOf_19.2.1.1.1.2
theorem dX10_drawsOf_27 : decode cX10_drawsOf 27 = .ok (.goto (-23), 3) := fp_dk fp_hdX10_isDrawOf_19.2.1.1.2.1
theorem dX10_drawsOf_30 : decode cX10_drawsOf 30 = .ok (.iload_n 2, 1) := fp_dk fp_hdX10_isDrawOf_19.2.1.1.2.2
theorem dX10_drawsOf_31 : decode cX10_drawsOf 31 = .ok (.ireturn, 1) := fp_dk fp_hdX10_isDrawOf_19.2.1.2.1.1
theorem dX10_lastDay_0 : decode cX10_lastDay 0 = .ok (.aload_n 0, 1) := fp_dk fp_hdX10_isDrawOf_19.2.1.2.1.2
theorem dX10_lastDay_1 : decode cX10_lastDay 1 = .ok (.getfield 24, 3) := fp_dk fp_hdX10_isDrawOf_19.2.1.2.2.1
theorem dX10_lastDay_4 : decode cX10_lastDay 4 = .ok (.ifCond .ne 7, 3) := fp_dk fp_hdX10_isDrawOf_19.2.1.2.2.2
theorem dX10_lastDay_7 : decode cX10_lastDay 7 = .ok (.iconst 0, 1) := fp_dk fp_hdX10_isDrawOf_19.2.2.1.1.1
theorem dX10_lastDay_8 : decode cX10_lastDay 8 = .ok (.goto 14, 3) := fp_dk fp_hdX10_isDrawOf_19.2.2.1.1.2
theorem dX10_lastDay_11 : decode cX10_lastDay 11 = .ok (.aload_n 0, 1) := fp_dk fp_hdX10_isDrawOf_19.2.2.1.2.1
theorem dX10_lastDay_12 : decode cX10_lastDay 12 = .ok (.getfield 9, 3) := fp_dk fp_hdX10_isDrawOf_19.2.2.1.2.2
theorem dX10_lastDay_15 : decode cX10_lastDay 15 = .ok (.aload_n 0, 1) := fp_dk fp_hdX10_isDrawOf_19.2.2.2.1.1
theorem dX10_lastDay_16 : decode cX10_lastDay 16 = .ok (.getfield 24, 3) := fp_dk fp_hdX10_isDrawOf_19.2.2.2.1.2
theorem dX10_lastDay_19 : decode cX10_lastDay 19 = .ok (.iconst 1, 1) := fp_dk fp_hdX10_isDrawOf_19.2.2.2.2.1
theorem dX10_lastDay_20 : decode cX10_lastDay 20 = .ok (.isub, 1) := fp_dk fp_hdX10_isDrawOf_19.2.2.2.2.2
theorem fp_hdX10_lastDay_21 : (((((fp_dq cX10_lastDay 21 (.iaload, 1) = true ∧ fp_dq cX10_lastDay 22 (.ireturn, 1) = true) ∧ (fp_dq cX10_add 0 (.aload_n 0, 1) = true ∧ fp_dq cX10_add 1 (.getfield 24, 3) = true)) ∧ ((fp_dq cX10_add 4 (.bipush 12, 2) = true ∧ fp_dq cX10_add 6 (.if_icmp .lt 5, 3) = true) ∧ (fp_dq cX10_add 9 (.iconst 0, 1) = true ∧ fp_dq cX10_add 10 (.ireturn, 1) = true))) ∧ (((fp_dq cX10_add 11 (.aload_n 0, 1) = true ∧ fp_dq cX10_add 12 (.getfield 9, 3) = true) ∧ (fp_dq cX10_add 15 (.aload_n 0, 1) = true ∧ fp_dq cX10_add 16 (.getfield 24, 3) = true)) ∧ ((fp_dq cX10_add 19 (.iload_n 1, 1) = true ∧ fp_dq cX10_add 20 (.iastore, 1) = true) ∧ (fp_dq cX10_add 21 (.aload_n 0, 1) = true ∧ fp_dq cX10_add 22 (.getfield 15, 3) = true)))) ∧ ((((fp_dq cX10_add 25 (.aload_n 0, 1) = true ∧ fp_dq cX10_add 26 (.getfield 24, 3) = true) ∧ (fp_dq cX10_add 29 (.iload_n 2, 1) = true ∧ fp_dq cX10_add 30 (.iastore, 1) = true)) ∧ ((fp_dq cX10_add 31 (.aload_n 0, 1) = true ∧ fp_dq cX10_add 32 (.getfield 18, 3) = true) ∧ (fp_dq cX10_add 35 (.aload_n 0, 1) = true ∧ fp_dq cX10_add 36 (.getfield 24, 3) = true))) ∧ (((fp_dq cX10_add 39 (.iload_n 3, 1) = true ∧ fp_dq cX10_add 40 (.iastore, 1) = true) ∧ (fp_dq cX10_add 41 (.aload_n 0, 1) = true ∧ fp_dq cX10_add 42 (.getfield 21, 3) = true)) ∧ ((fp_dq cX10_add 45 (.aload_n 0, 1) = true ∧ fp_dq cX10_add 46 (.getfield 24, 3) = true) ∧ (fp_dq cX10_add 49 (.iload 4, 2) = true ∧ fp_dq cX10_add 51 (.iastore, 1) = true))))) := by decide +kernel
theorem dX10_lastDay_21 : decode cX10_lastDay 21 = .ok (.iaload, 1) := fp_dk fp_hdX10_lastDay_21.1.1.1.1.1
theorem dX10_lastDay_22 : decode cX10_lastDay 22 = .ok (.ireturn, 1) := fp_dk fp_hdX10_lastDay_21.1.1.1.1.2
theorem dX10_add_0 : decode cX10_add 0 = .ok (.aload_n 0, 1) := fp_dk fp_hdX10_lastDay_21.1.1.1.2.1
theorem dX10_add_1 : decode cX10_add 1 = .ok (.getfield 24, 3) := fp_dk fp_hdX10_lastDay_21.1.1.1.2.2
theorem dX10_add_4 : decode cX10_add 4 = .ok (.bipush 12, 2) := fp_dk fp_hdX10_lastDay_21.1.1.2.1.1
theorem dX10_add_6 : decode cX10_add 6 = .ok (.if_icmp .lt 5, 3) := fp_dk fp_hdX10_lastDay_21.1.1.2.1.2
theorem dX10_add_9 : decode cX10_add 9 = .ok (.iconst 0, 1) := fp_dk fp_hdX10_lastDay_21.1.1.2.2.1
theorem dX10_add_10 : decode cX10_add 10 = .ok (.ireturn, 1) := fp_dk fp_hdX10_lastDay_21.1.1.2.2.2
theorem dX10_add_11 : decode cX10_add 11 = .ok (.aload_n 0, 1) := fp_dk fp_hdX10_lastDay_21.1.2.1.1.1
theorem dX10_add_12 : decode cX10_add 12 = .ok (.getfield 9, 3) := fp_dk fp_hdX10_lastDay_21.1.2.1.1.2
theorem dX10_add_15 : decode cX10_add 15 = .ok (.aload_n 0, 1) := fp_dk fp_hdX10_lastDay_21.1.2.1.2.1
theorem dX10_add_16 : decode cX10_add 16 = .ok (.getfield 24, 3) := fp_dk fp_hdX10_lastDay_21.1.2.1.2.2
theorem dX10_add_19 : decode cX10_add 19 = .ok (.iload_n 1, 1) := fp_dk fp_hdX10_lastDay_21.1.2.2.1.1
theorem dX10_add_20 : decode cX10_add 20 = .ok (.iastore, 1) := fp_dk fp_hdX10_lastDay_21.1.2.2.1.2
theorem dX10_add_21 : decode cX10_add 21 = .ok (.aload_n 0, 1) := fp_dk fp_hdX10_lastDay_21.1.2.2.2.1
theorem dX10_add_22 : decode cX10_add 22 = .ok (.getfield 15, 3) := fp_dk fp_hdX10_lastDay_21.1.2.2.2.2
theorem dX10_add_25 : decode cX10_add 25 = .ok (.aload_n 0, 1) := fp_dk fp_hdX10_lastDay_21.2.1.1.1.1
theorem dX10_add_26 : decode cX10_add 26 = .ok (.getfield 24, 3) := fp_dk fp_hdX10_lastDay_21.2.1.1.1.2
theorem dX10_add_29 : decode cX10_add 29 = .ok (.iload_n 2, 1) := fp_dk fp_hdX10_lastDay_21.2.1.1.2.1
theorem dX10_add_30 : decode cX10_add 30 = .ok (.iastore, 1) := fp_dk fp_hdX10_lastDay_21.2.1.1.2.2
theorem dX10_add_31 : decode cX10_add 31 = .ok (.aload_n 0, 1) := fp_dk fp_hdX10_lastDay_21.2.1.2.1.1
theorem dX10_add_32 : decode cX10_add 32 = .ok (.getfield 18, 3) := fp_dk fp_hdX10_lastDay_21.2.1.2.1.2
theorem dX10_add_35 : decode cX10_add 35 = .ok (.aload_n 0, 1) := fp_dk fp_hdX10_lastDay_21.2.1.2.2.1
theorem dX10_add_36 : decode cX10_add 36 = .ok (.getfield 24, 3) := fp_dk fp_hdX10_lastDay_21.2.1.2.2.2
theorem dX10_add_39 : decode cX10_add 39 = .ok (.iload_n 3, 1) := fp_dk fp_hdX10_lastDay_21.2.2.1.1.1
theorem dX10_add_40 : decode cX10_add 40 = .ok (.iastore, 1) := fp_dk fp_hdX10_lastDay_21.2.2.1.1.2
theorem dX10_add_41 : decode cX10_add 41 = .ok (.aload_n 0, 1) := fp_dk fp_hdX10_lastDay_21.2.2.1.2.1
theorem dX10_add_42 : decode cX10_add 42 = .ok (.getfield 21, 3) := fp_dk fp_hdX10_lastDay_21.2.2.1.2.2
theorem dX10_add_45 : decode cX10_add 45 = .ok (.aload_n 0, 1) := fp_dk fp_hdX10_lastDay_21.2.2.2.1.1
theorem dX10_add_46 : decode cX10_add 46 = .ok (.getfield 24, 3) := fp_dk fp_hdX10_lastDay_21.2.2.2.1.2
theorem dX10_add_49 : decode cX10_add 49 = .ok (.iload 4, 2) := fp_dk fp_hdX10_lastDay_21.2.2.2.2.1
theorem dX10_add_51 : decode cX10_add 51 = .ok (.iastore, 1) := fp_dk fp_hdX10_lastDay_21.2.2.2.2.2
theorem fp_hdX10_add_52 : (((((fp_dq cX10_add 52 (.aload_n 0, 1) = true ∧ fp_dq cX10_add 53 (.dup, 1) = true) ∧ (fp_dq cX10_add 54 (.getfield 24, 3) = true ∧ fp_dq cX10_add 57 (.iconst 1, 1) = true)) ∧ ((fp_dq cX10_add 58 (.iadd, 1) = true ∧ fp_dq cX10_add 59 (.putfield 24, 3) = true) ∧ (fp_dq cX10_add 62 (.iconst 1, 1) = true ∧ fp_dq cX10_add 63 (.ireturn, 1) = true))) ∧ (((fp_dq cX10_dropFirst 0 (.iload_n 1, 1) = true ∧ fp_dq cX10_dropFirst 1 (.istore_n 2, 1) = true) ∧ (fp_dq cX10_dropFirst 2 (.iload_n 2, 1) = true ∧ fp_dq cX10_dropFirst 3 (.aload_n 0, 1) = true)) ∧ ((fp_dq cX10_dropFirst 4 (.getfield 24, 3) = true ∧ fp_dq cX10_dropFirst 7 (.if_icmp .ge 65, 3) = true) ∧ (fp_dq cX10_dropFirst 10 (.aload_n 0, 1) = true ∧ fp_dq cX10_dropFirst 11 (.getfield 9, 3) = true)))) ∧ ((((fp_dq cX10_dropFirst 14 (.iload_n 2, 1) = true ∧ fp_dq cX10_dropFirst 15 (.iload_n 1, 1) = true) ∧ (fp_dq cX10_dropFirst 16 (.isub, 1) = true ∧ fp_dq cX10_dropFirst 17 (.aload_n 0, 1) = true)) ∧ ((fp_dq cX10_dropFirst 18 (.getfield 9, 3) = true ∧ fp_dq cX10_dropFirst 21 (.iload_n 2, 1) = true) ∧ (fp_dq cX10_dropFirst 22 (.iaload, 1) = true ∧ fp_dq cX10_dropFirst 23 (.iastore, 1) = true))) ∧ (((fp_dq cX10_dropFirst 24 (.aload_n 0, 1) = true ∧ fp_dq cX10_dropFirst 25 (.getfield 15, 3) = true) ∧ (fp_dq cX10_dropFirst 28 (.iload_n 2, 1) = true ∧ fp_dq cX10_dropFirst 29 (.iload_n 1, 1) = true)) ∧ ((fp_dq cX10_dropFirst 30 (.isub, 1) = true ∧ fp_dq cX10_dropFirst 31 (.aload_n 0, 1) = true) ∧ (fp_dq cX10_dropFirst 32 (.getfield 15, 3) = true ∧ fp_dq cX10_dropFirst 35 (.iload_n 2, 1) = true))))) := by decide +kernel
theorem dX10_add_52 : decode cX10_add 52 = .ok (.aload_n 0, 1) := fp_dk fp_hdX10_add_52.1.1.1.1.1
theorem dX10_add_53 : decode cX10_add 53 = .ok (.dup, 1) := fp_dk fp_hdX10_add_52.1.1.1.1.2
theorem dX10_add_54 : decode cX10_add 54 = .ok (.getfield 24, 3) := fp_dk fp_hdX10_add_52.1.1.1.2.1
theorem dX10_add_57 : decode cX10_add 57 = .ok (.iconst 1, 1) := fp_dk fp_hdX10_add_52.1.1.1.2.2
theorem dX10_add_58 : decode cX10_add 58 = .ok (.iadd, 1) := fp_dk fp_hdX10_add_52.1.1.2.1.1
theorem dX10_add_59 : decode cX10_add 59 = .ok (.putfield 24, 3) := fp_dk fp_hdX10_add_52.1.1.2.1.2
theorem dX10_add_62 : decode cX10_add 62 = .ok (.iconst 1, 1) := fp_dk fp_hdX10_add_52.1.1.2.2.1
theorem dX10_add_63 : decode cX10_add 63 = .ok (.ireturn, 1) := fp_dk fp_hdX10_add_52.1.1.2.2.2
theorem dX10_dropFirst_0 : decode cX10_dropFirst 0 = .ok (.iload_n 1, 1) := fp_dk fp_hdX10_add_52.1.2.1.1.1
theorem dX10_dropFirst_1 : decode cX10_dropFirst 1 = .ok (.istore_n 2, 1) := fp_dk fp_hdX10_add_52.1.2.1.1.2
theorem dX10_dropFirst_2 : decode cX10_dropFirst 2 = .ok (.iload_n 2, 1) := fp_dk fp_hdX10_add_52.1.2.1.2.1
theorem dX10_dropFirst_3 : decode cX10_dropFirst 3 = .ok (.aload_n 0, 1) := fp_dk fp_hdX10_add_52.1.2.1.2.2
theorem dX10_dropFirst_4 : decode cX10_dropFirst 4 = .ok (.getfield 24, 3) := fp_dk fp_hdX10_add_52.1.2.2.1.1
theorem dX10_dropFirst_7 : decode cX10_dropFirst 7 = .ok (.if_icmp .ge 65, 3) := fp_dk fp_hdX10_add_52.1.2.2.1.2
theorem dX10_dropFirst_10 : decode cX10_dropFirst 10 = .ok (.aload_n 0, 1) := fp_dk fp_hdX10_add_52.1.2.2.2.1
theorem dX10_dropFirst_11 : decode cX10_dropFirst 11 = .ok (.getfield 9, 3) := fp_dk fp_hdX10_add_52.1.2.2.2.2
theorem dX10_dropFirst_14 : decode cX10_dropFirst 14 = .ok (.iload_n 2, 1) := fp_dk fp_hdX10_add_52.2.1.1.1.1
theorem dX10_dropFirst_15 : decode cX10_dropFirst 15 = .ok (.iload_n 1, 1) := fp_dk fp_hdX10_add_52.2.1.1.1.2
theorem dX10_dropFirst_16 : decode cX10_dropFirst 16 = .ok (.isub, 1) := fp_dk fp_hdX10_add_52.2.1.1.2.1
theorem dX10_dropFirst_17 : decode cX10_dropFirst 17 = .ok (.aload_n 0, 1) := fp_dk fp_hdX10_add_52.2.1.1.2.2
theorem dX10_dropFirst_18 : decode cX10_dropFirst 18 = .ok (.getfield 9, 3) := fp_dk fp_hdX10_add_52.2.1.2.1.1
theorem dX10_dropFirst_21 : decode cX10_dropFirst 21 = .ok (.iload_n 2, 1) := fp_dk fp_hdX10_add_52.2.1.2.1.2
theorem dX10_dropFirst_22 : decode cX10_dropFirst 22 = .ok (.iaload, 1) := fp_dk fp_hdX10_add_52.2.1.2.2.1
theorem dX10_dropFirst_23 : decode cX10_dropFirst 23 = .ok (.iastore, 1) := fp_dk fp_hdX10_add_52.2.1.2.2.2
theorem dX10_dropFirst_24 : decode cX10_dropFirst 24 = .ok (.aload_n 0, 1) := fp_dk fp_hdX10_add_52.2.2.1.1.1
theorem dX10_dropFirst_25 : decode cX10_dropFirst 25 = .ok (.getfield 15, 3) := fp_dk fp_hdX10_add_52.2.2.1.1.2
theorem dX10_dropFirst_28 : decode cX10_dropFirst 28 = .ok (.iload_n 2, 1) := fp_dk fp_hdX10_add_52.2.2.1.2.1
theorem dX10_dropFirst_29 : decode cX10_dropFirst 29 = .ok (.iload_n 1, 1) := fp_dk fp_hdX10_add_52.2.2.1.2.2
theorem dX10_dropFirst_30 : decode cX10_dropFirst 30 = .ok (.isub, 1) := fp_dk fp_hdX10_add_52.2.2.2.1.1
theorem dX10_dropFirst_31 : decode cX10_dropFirst 31 = .ok (.aload_n 0, 1) := fp_dk fp_hdX10_add_52.2.2.2.1.2
theorem dX10_dropFirst_32 : decode cX10_dropFirst 32 = .ok (.getfield 15, 3) := fp_dk fp_hdX10_add_52.2.2.2.2.1
theorem dX10_dropFirst_35 : decode cX10_dropFirst 35 = .ok (.iload_n 2, 1) := fp_dk fp_hdX10_add_52.2.2.2.2.2
theorem fp_hdX10_dropFirst_36 : (((((fp_dq cX10_dropFirst 36 (.iaload, 1) = true ∧ fp_dq cX10_dropFirst 37 (.iastore, 1) = true) ∧ (fp_dq cX10_dropFirst 38 (.aload_n 0, 1) = true ∧ fp_dq cX10_dropFirst 39 (.getfield 18, 3) = true)) ∧ ((fp_dq cX10_dropFirst 42 (.iload_n 2, 1) = true ∧ fp_dq cX10_dropFirst 43 (.iload_n 1, 1) = true) ∧ (fp_dq cX10_dropFirst 44 (.isub, 1) = true ∧ fp_dq cX10_dropFirst 45 (.aload_n 0, 1) = true))) ∧ (((fp_dq cX10_dropFirst 46 (.getfield 18, 3) = true ∧ fp_dq cX10_dropFirst 49 (.iload_n 2, 1) = true) ∧ (fp_dq cX10_dropFirst 50 (.iaload, 1) = true ∧ fp_dq cX10_dropFirst 51 (.iastore, 1) = true)) ∧ ((fp_dq cX10_dropFirst 52 (.aload_n 0, 1) = true ∧ fp_dq cX10_dropFirst 53 (.getfield 21, 3) = true) ∧ (fp_dq cX10_dropFirst 56 (.iload_n 2, 1) = true ∧ fp_dq cX10_dropFirst 57 (.iload_n 1, 1) = true)))) ∧ ((((fp_dq cX10_dropFirst 58 (.isub, 1) = true ∧ fp_dq cX10_dropFirst 59 (.aload_n 0, 1) = true) ∧ (fp_dq cX10_dropFirst 60 (.getfield 21, 3) = true ∧ fp_dq cX10_dropFirst 63 (.iload_n 2, 1) = true)) ∧ ((fp_dq cX10_dropFirst 64 (.iaload, 1) = true ∧ fp_dq cX10_dropFirst 65 (.iastore, 1) = true) ∧ (fp_dq cX10_dropFirst 66 (.iinc 2 1, 3) = true ∧ fp_dq cX10_dropFirst 69 (.goto (-67), 3) = true))) ∧ (((fp_dq cX10_dropFirst 72 (.aload_n 0, 1) = true ∧ fp_dq cX10_dropFirst 73 (.dup, 1) = true) ∧ (fp_dq cX10_dropFirst 74 (.getfield 24, 3) = true ∧ fp_dq cX10_dropFirst 77 (.iload_n 1, 1) = true)) ∧ ((fp_dq cX10_dropFirst 78 (.isub, 1) = true ∧ fp_dq cX10_dropFirst 79 (.putfield 24, 3) = true) ∧ (fp_dq cX10_dropFirst 82 (.return_, 1) = true ∧ fp_dq cX10_happens 0 (.aload_n 0, 1) = true))))) := by decide +kernel
theorem dX10_dropFirst_36 : decode cX10_dropFirst 36 = .ok (.iaload, 1) := fp_dk fp_hdX10_dropFirst_36.1.1.1.1.1
theorem dX10_dropFirst_37 : decode cX10_dropFirst 37 = .ok (.iastore, 1) := fp_dk fp_hdX10_dropFirst_36.1.1.1.1.2
theorem dX10_dropFirst_38 : decode cX10_dropFirst 38 = .ok (.aload_n 0, 1) := fp_dk fp_hdX10_dropFirst_36.1.1.1.2.1
theorem dX10_dropFirst_39 : decode cX10_dropFirst 39 = .ok (.getfield 18, 3) := fp_dk fp_hdX10_dropFirst_36.1.1.1.2.2
theorem dX10_dropFirst_42 : decode cX10_dropFirst 42 = .ok (.iload_n 2, 1) := fp_dk fp_hdX10_dropFirst_36.1.1.2.1.1
theorem dX10_dropFirst_43 : decode cX10_dropFirst 43 = .ok (.iload_n 1, 1) := fp_dk fp_hdX10_dropFirst_36.1.1.2.1.2
theorem dX10_dropFirst_44 : decode cX10_dropFirst 44 = .ok (.isub, 1) := fp_dk fp_hdX10_dropFirst_36.1.1.2.2.1
theorem dX10_dropFirst_45 : decode cX10_dropFirst 45 = .ok (.aload_n 0, 1) := fp_dk fp_hdX10_dropFirst_36.1.1.2.2.2
theorem dX10_dropFirst_46 : decode cX10_dropFirst 46 = .ok (.getfield 18, 3) := fp_dk fp_hdX10_dropFirst_36.1.2.1.1.1
theorem dX10_dropFirst_49 : decode cX10_dropFirst 49 = .ok (.iload_n 2, 1) := fp_dk fp_hdX10_dropFirst_36.1.2.1.1.2
theorem dX10_dropFirst_50 : decode cX10_dropFirst 50 = .ok (.iaload, 1) := fp_dk fp_hdX10_dropFirst_36.1.2.1.2.1
theorem dX10_dropFirst_51 : decode cX10_dropFirst 51 = .ok (.iastore, 1) := fp_dk fp_hdX10_dropFirst_36.1.2.1.2.2
theorem dX10_dropFirst_52 : decode cX10_dropFirst 52 = .ok (.aload_n 0, 1) := fp_dk fp_hdX10_dropFirst_36.1.2.2.1.1
theorem dX10_dropFirst_53 : decode cX10_dropFirst 53 = .ok (.getfield 21, 3) := fp_dk fp_hdX10_dropFirst_36.1.2.2.1.2
theorem dX10_dropFirst_56 : decode cX10_dropFirst 56 = .ok (.iload_n 2, 1) := fp_dk fp_hdX10_dropFirst_36.1.2.2.2.1
theorem dX10_dropFirst_57 : decode cX10_dropFirst 57 = .ok (.iload_n 1, 1) := fp_dk fp_hdX10_dropFirst_36.1.2.2.2.2
theorem dX10_dropFirst_58 : decode cX10_dropFirst 58 = .ok (.isub, 1) := fp_dk fp_hdX10_dropFirst_36.2.1.1.1.1
theorem dX10_dropFirst_59 : decode cX10_dropFirst 59 = .ok (.aload_n 0, 1) := fp_dk fp_hdX10_dropFirst_36.2.1.1.1.2
theorem dX10_dropFirst_60 : decode cX10_dropFirst 60 = .ok (.getfield 21, 3) := fp_dk fp_hdX10_dropFirst_36.2.1.1.2.1
theorem dX10_dropFirst_63 : decode cX10_dropFirst 63 = .ok (.iload_n 2, 1) := fp_dk fp_hdX10_dropFirst_36.2.1.1.2.2
theorem dX10_dropFirst_64 : decode cX10_dropFirst 64 = .ok (.iaload, 1) := fp_dk fp_hdX10_dropFirst_36.2.1.2.1.1
theorem dX10_dropFirst_65 : decode cX10_dropFirst 65 = .ok (.iastore, 1) := fp_dk fp_hdX10_dropFirst_36.2.1.2.1.2
theorem dX10_dropFirst_66 : decode cX10_dropFirst 66 = .ok (.iinc 2 1, 3) := fp_dk fp_hdX10_dropFirst_36.2.1.2.2.1
theorem dX10_dropFirst_69 : decode cX10_dropFirst 69 = .ok (.goto (-67), 3) := fp_dk fp_hdX10_dropFirst_36.2.1.2.2.2
theorem dX10_dropFirst_72 : decode cX10_dropFirst 72 = .ok (.aload_n 0, 1) := fp_dk fp_hdX10_dropFirst_36.2.2.1.1.1
theorem dX10_dropFirst_73 : decode cX10_dropFirst 73 = .ok (.dup, 1) := fp_dk fp_hdX10_dropFirst_36.2.2.1.1.2
theorem dX10_dropFirst_74 : decode cX10_dropFirst 74 = .ok (.getfield 24, 3) := fp_dk fp_hdX10_dropFirst_36.2.2.1.2.1
theorem dX10_dropFirst_77 : decode cX10_dropFirst 77 = .ok (.iload_n 1, 1) := fp_dk fp_hdX10_dropFirst_36.2.2.1.2.2
theorem dX10_dropFirst_78 : decode cX10_dropFirst 78 = .ok (.isub, 1) := fp_dk fp_hdX10_dropFirst_36.2.2.2.1.1
theorem dX10_dropFirst_79 : decode cX10_dropFirst 79 = .ok (.putfield 24, 3) := fp_dk fp_hdX10_dropFirst_36.2.2.2.1.2
theorem dX10_dropFirst_82 : decode cX10_dropFirst 82 = .ok (.return_, 1) := fp_dk fp_hdX10_dropFirst_36.2.2.2.2.1
theorem dX10_happens_0 : decode cX10_happens 0 = .ok (.aload_n 0, 1) := fp_dk fp_hdX10_dropFirst_36.2.2.2.2.2
theorem fp_hdX10_happens_1 : (((((fp_dq cX10_happens 1 (.iload_n 3, 1) = true ∧ fp_dq cX10_happens 2 (.invokevirtual 42, 3) = true) ∧ (fp_dq cX10_happens 5 (.ifCond .ne 5, 3) = true ∧ fp_dq cX10_happens 8 (.iconst 0, 1) = true)) ∧ ((fp_dq cX10_happens 9 (.ireturn, 1) = true ∧ fp_dq cX10_happens 10 (.aload_n 0, 1) = true) ∧ (fp_dq cX10_happens 11 (.iload_n 3, 1) = true ∧ fp_dq cX10_happens 12 (.invokevirtual 34, 3) = true))) ∧ (((fp_dq cX10_happens 15 (.ifCond .eq 31, 3) = true ∧ fp_dq cX10_happens 18 (.aload_n 2, 1) = true) ∧ (fp_dq cX10_happens 19 (.aload_n 1, 1) = true ∧ fp_dq cX10_happens 20 (.aload_n 0, 1) = true)) ∧ ((fp_dq cX10_happens 21 (.getfield 15, 3) = true ∧ fp_dq cX10_happens 24 (.iload_n 3, 1) = true) ∧ (fp_dq cX10_happens 25 (.iaload, 1) = true ∧ fp_dq cX10_happens 26 (.aload_n 0, 1) = true)))) ∧ ((((fp_dq cX10_happens 27 (.getfield 18, 3) = true ∧ fp_dq cX10_happens 30 (.iload_n 3, 1) = true) ∧ (fp_dq cX10_happens 31 (.iaload, 1) = true ∧ fp_dq cX10_happens 32 (.invokevirtual 45, 3) = true)) ∧ ((fp_dq cX10_happens 35 (.bipush (-4), 2) = true ∧ fp_dq cX10_happens 37 (.if_icmp .eq 7, 3) = true) ∧ (fp_dq cX10_happens 40 (.iconst 1, 1) = true ∧ fp_dq cX10_happens 41 (.goto 4, 3) = true))) ∧ (((fp_dq cX10_happens 44 (.iconst 0, 1) = true ∧ fp_dq cX10_happens 45 (.ireturn, 1) = true) ∧ (fp_dq cX10_happens 46 (.aload_n 2, 1) = true ∧ fp_dq cX10_happens 47 (.aload_n 0, 1) = true)) ∧ ((fp_dq cX10_happens 48 (.getfield 15, 3) = true ∧ fp_dq cX10_happens 51 (.iload_n 3, 1) = true) ∧ (fp_dq cX10_happens 52 (.iaload, 1) = true ∧ fp_dq cX10_happens 53 (.aload_n 0, 1) = true))))) := by decide +kernel
theorem dX10_happens_1 : decode cX10_happens 1 = .ok (.iload_n 3, 1) := fp_dk fp_hdX10_happens_1.1.1.1.1.1
theorem dX10_happens_2 : decode cX10_happens 2 = .ok (.invokevirtual 42, 3) := fp_dk fp_hdX10_happens_1.1.1.1.1.2
theorem dX10_happens_5 : decode cX10_happens 5 = .ok (.ifCond .ne 5, 3) := fp_dk fp_hdX10_happens_1.1.1.1.2.1
theorem dX10_happens_8 : decode cX10_happens 8 = .ok (.iconst 0, 1) := fp_dk fp_hdX10_happens_1.1.1.1.2.2
theorem dX10_happens_9 : decode cX10_happens 9 = .ok (.ireturn, 1) := fp_dk fp_hdX10_happens_1.1.1.2.1.1
theorem dX10_happens_10 : decode cX10_happens 10 = .ok (.aload_n 0, 1) := fp_dk fp_hdX10_happens_1.1.1.2.1.2
theorem dX10_happens_11 : decode cX10_happens 11 = .ok (.iload_n 3, 1) := fp_dk fp_hdX10_happens_1.1.1.2.2.1
theorem dX10_happens_12 : decode cX10_happens 12 = .ok (.invokevirtual 34, 3) := fp_dk fp_hdX10_happens_1.1.1.2.2.2
theorem dX10_happens_15 : decode cX10_happens 15 = .ok (.ifCond .eq 31, 3) := fp_dk fp_hdX10_happens_1.1.2.1.1.1
theorem dX10_happens_18 : decode cX10_happens 18 = .ok (.aload_n 2, 1) := fp_dk fp_hdX10_happens_1.1.2.1.1.2
theorem dX10_happens_19 : decode cX10_happens 19 = .ok (.aload_n 1, 1) := fp_dk fp_hdX10_happens_1.1.2.1.2.1
theorem dX10_happens_20 : decode cX10_happens 20 = .ok (.aload_n 0, 1) := fp_dk fp_hdX10_happens_1.1.2.1.2.2
theorem dX10_happens_21 : decode cX10_happens 21 = .ok (.getfield 15, 3) := fp_dk fp_hdX10_happens_1.1.2.2.1.1
theorem dX10_happens_24 : decode cX10_happens 24 = .ok (.iload_n 3, 1) := fp_dk fp_hdX10_happens_1.1.2.2.1.2
theorem dX10_happens_25 : decode cX10_happens 25 = .ok (.iaload, 1) := fp_dk fp_hdX10_happens_1.1.2.2.2.1
theorem dX10_happens_26 : decode cX10_happens 26 = .ok (.aload_n 0, 1) := fp_dk fp_hdX10_happens_1.1.2.2.2.2
theorem dX10_happens_27 : decode cX10_happens 27 = .ok (.getfield 18, 3) := fp_dk fp_hdX10_happens_1.2.1.1.1.1
theorem dX10_happens_30 : decode cX10_happens 30 = .ok (.iload_n 3, 1) := fp_dk fp_hdX10_happens_1.2.1.1.1.2
theorem dX10_happens_31 : decode cX10_happens 31 = .ok (.iaload, 1) := fp_dk fp_hdX10_happens_1.2.1.1.2.1
theorem dX10_happens_32 : decode cX10_happens 32 = .ok (.invokevirtual 45, 3) := fp_dk fp_hdX10_happens_1.2.1.1.2.2
theorem dX10_happens_35 : decode cX10_happens 35 = .ok (.bipush (-4), 2) := fp_dk fp_hdX10_happens_1.2.1.2.1.1
theorem dX10_happens_37 : decode cX10_happens 37 = .ok (.if_icmp .eq 7, 3) := fp_dk fp_hdX10_happens_1.2.1.2.1.2
theorem dX10_happens_40 : decode cX10_happens 40 = .ok (.iconst 1, 1) := fp_dk fp_hdX10_happens_1.2.1.2.2.1
theorem dX10_happens_41 : decode cX10_happens 41 = .ok (.goto 4, 3) := fp_dk fp_hdX10_happens_1.2.1.2.2.2
theorem dX10_happens_44 : decode cX10_happens 44 = .ok (.iconst 0, 1) := fp_dk fp_hdX10_happens_1.2.2.1.1.1
theorem dX10_happens_45 : decode cX10_happens 45 = .ok (.ireturn, 1) := fp_dk fp_hdX10_happens_1.2.2.1.1.2
theorem dX10_happens_46 : decode cX10_happens 46 = .ok (.aload_n 2, 1) := fp_dk fp_hdX10_happens_1.2.2.1.2.1
theorem dX10_happens_47 : decode cX10_happens 47 = .ok (.aload_n 0, 1) := fp_dk fp_hdX10_happens_1.2.2.1.2.2
theorem dX10_happens_48 : decode cX10_happens 48 = .ok (.getfield 15, 3) := fp_dk fp_hdX10_happens_1.2.2.2.1.1
theorem dX10_happens_51 : decode cX10_happens 51 = .ok (.iload_n 3, 1) := fp_dk fp_hdX10_happens_1.2.2.2.1.2
theorem dX10_happens_52 : decode cX10_happens 52 = .ok (.iaload, 1) := fp_dk fp_hdX10_happens_1.2.2.2.2.1
theorem dX10_happens_53 : decode cX10_happens 53 = .ok (.aload_n 0, 1) := fp_dk fp_hdX10_happens_1.2.2.2.2.2
theorem fp_hdX10_happens_54 : (((((fp_dq cX10_happens 54 (.getfield 21, 3) = true ∧ fp_dq cX10_happens 57 (.iload_n 3, 1) = true) ∧ (fp_dq cX10_happens 58 (.iaload, 1) = true ∧ fp_dq cX10_happens 59 (.aload_n 0, 1) = true)) ∧ ((fp_dq cX10_happens 60 (.getfield 18, 3) = true ∧ fp_dq cX10_happens 63 (.iload_n 3, 1) = true) ∧ (fp_dq cX10_happens 64 (.iaload, 1) = true ∧ fp_dq cX10_happens 65 (.invokevirtual 51, 3) = true))) ∧ (((fp_dq cX10_happens 68 (.ireturn, 1) = true ∧ fp_dq cJ0_length_8abf5 0 (.aload_n 0, 1) = true) ∧ (fp_dq cJ0_length_8abf5 1 (.getfield 9, 3) = true ∧ fp_dq cJ0_length_8abf5 4 (.arraylength, 1) = true)) ∧ ((fp_dq cJ0_length_8abf5 5 (.aload_n 0, 1) = true ∧ fp_dq cJ0_length_8abf5 6 (.invokevirtual 335, 3) = true) ∧ (fp_dq cJ0_length_8abf5 9 (.ishr, 1) = true ∧ fp_dq cJ0_length_8abf5 10 (.ireturn, 1) = true)))) ∧ ((((fp_dq cJ0_charAt_5068e 0 (.aload_n 0, 1) = true ∧ fp_dq cJ0_charAt_5068e 1 (.invokevirtual 492, 3) = true) ∧ (fp_dq cJ0_charAt_5068e 4 (.ifCond .eq 12, 3) = true ∧ fp_dq cJ0_charAt_5068e 7 (.aload_n 0, 1) = true)) ∧ ((fp_dq cJ0_charAt_5068e 8 (.getfield 9, 3) = true ∧ fp_dq cJ0_charAt_5068e 11 (.iload_n 1, 1) = true) ∧ (fp_dq cJ0_charAt_5068e 12 (.invokestatic 495, 3) = true ∧ fp_dq cJ0_charAt_5068e 15 (.ireturn, 1) = true))) ∧ (((fp_dq cJ0_charAt_5068e 16 (.aload_n 0, 1) = true ∧ fp_dq cJ0_charAt_5068e 17 (.getfield 9, 3) = true) ∧ (fp_dq cJ0_charAt_5068e 20 (.iload_n 1, 1) = true ∧ fp_dq cJ0_charAt_5068e 21 (.invokestatic 498, 3) = true)) ∧ ((fp_dq cJ0_charAt_5068e 24 (.ireturn, 1) = true ∧ fp_dq cJ0_coder_7d493 0 (.getstatic 38, 3) = true) ∧ (fp_dq cJ0_coder_7d493 3 (.ifCond .eq 10, 3) = true ∧ fp_dq cJ0_coder_7d493 6 (.aload_n 0, 1) = true))))) := by decide +kernel
theorem dX10_happens_54 : decode cX10_happens 54 = .ok (.getfield 21, 3) := fp_dk fp_hdX10_happens_54.1.1.1.1.1
theorem dX10_happens_57 : decode cX10_happens 57 = .ok (.iload_n 3, 1) := fp_dk fp_hdX10_happens_54.1.1.1.1.2
theorem dX10_happens_58 : decode cX10_happens 58 = .ok (.iaload, 1) := fp_dk fp_hdX10_happens_54.1.1.1.2.1
theorem dX10_happens_59 : decode cX10_happens 59 = .ok (.aload_n 0, 1) := fp_dk fp_hdX10_happens_54.1.1.1.2.2
theorem dX10_happens_60 : decode cX10_happens 60 = .ok (.getfield 18, 3) := fp_dk fp_hdX10_happens_54.1.1.2.1.1
theorem dX10_happens_63 : decode cX10_happens 63 = .ok (.iload_n 3, 1) := fp_dk fp_hdX10_happens_54.1.1.2.1.2
theorem dX10_happens_64 : decode cX10_happens 64 = .ok (.iaload, 1) := fp_dk fp_hdX10_happens_54.1.1.2.2.1
theorem dX10_happens_65 : decode cX10_happens 65 = .ok (.invokevirtual 51, 3) := fp_dk fp_hdX10_happens_54.1.1.2.2.2
theorem dX10_happens_68 : decode cX10_happens 68 = .ok (.ireturn, 1) := fp_dk fp_hdX10_happens_54.1.2.1.1.1
theorem dJ0_length_8abf5_0 : decode cJ0_length_8abf5 0 = .ok (.aload_n 0, 1) := fp_dk fp_hdX10_happens_54.1.2.1.1.2
theorem dJ0_length_8abf5_1 : decode cJ0_length_8abf5 1 = .ok (.getfield 9, 3) := fp_dk fp_hdX10_happens_54.1.2.1.2.1
theorem dJ0_length_8abf5_4 : decode cJ0_length_8abf5 4 = .ok (.arraylength, 1) := fp_dk fp_hdX10_happens_54.1.2.1.2.2
theorem dJ0_length_8abf5_5 : decode cJ0_length_8abf5 5 = .ok (.aload_n 0, 1) := fp_dk fp_hdX10_happens_54.1.2.2.1.1
theorem dJ0_length_8abf5_6 : decode cJ0_length_8abf5 6 = .ok (.invokevirtual 335, 3) := fp_dk fp_hdX10_happens_54.1.2.2.1.2
theorem dJ0_length_8abf5_9 : decode cJ0_length_8abf5 9 = .ok (.ishr, 1) := fp_dk fp_hdX10_happens_54.1.2.2.2.1
theorem dJ0_length_8abf5_10 : decode cJ0_length_8abf5 10 = .ok (.ireturn, 1) := fp_dk fp_hdX10_happens_54.1.2.2.2.2
theorem dJ0_charAt_5068e_0 : decode cJ0_charAt_5068e 0 = .ok (.aload_n 0, 1) := fp_dk fp_hdX10_happens_54.2.1.1.1.1
theorem dJ0_charAt_5068e_1 : decode cJ0_charAt_5068e 1 = .ok (.invokevirtual 492, 3) := fp_dk fp_hdX10_happens_54.2.1.1.1.2
theorem dJ0_charAt_5068e_4 : decode cJ0_charAt_5068e 4 = .ok (.ifCond .eq 12, 3) := fp_dk fp_hdX10_happens_54.2.1.1.2.1
theorem dJ0_charAt_5068e_7 : decode cJ0_charAt_5068e 7 = .ok (.aload_n 0, 1) := fp_dk fp_hdX10_happens_54.2.1.1.2.2
theorem dJ0_charAt_5068e_8 : decode cJ0_charAt_5068e 8 = .ok (.getfield 9, 3) := fp_dk fp_hdX10_happens_54.2.1.2.1.1
theorem dJ0_charAt_5068e_11 : decode cJ0_charAt_5068e 11 = .ok (.iload_n 1, 1) := fp_dk fp_hdX10_happens_54.2.1.2.1.2
theorem dJ0_charAt_5068e_12 : decode cJ0_charAt_5068e 12 = .ok (.invokestatic 495, 3) := fp_dk fp_hdX10_happens_54.2.1.2.2.1
theorem dJ0_charAt_5068e_15 : decode cJ0_charAt_5068e 15 = .ok (.ireturn, 1) := fp_dk fp_hdX10_happens_54.2.1.2.2.2
theorem dJ0_charAt_5068e_16 : decode cJ0_charAt_5068e 16 = .ok (.aload_n 0, 1) := fp_dk fp_hdX10_happens_54.2.2.1.1.1
theorem dJ0_charAt_5068e_17 : decode cJ0_charAt_5068e 17 = .ok (.getfield 9, 3) := fp_dk fp_hdX10_happens_54.2.2.1.1.2
theorem dJ0_charAt_5068e_20 : decode cJ0_charAt_5068e 20 = .ok (.iload_n 1, 1) := fp_dk fp_hdX10_happens_54.2.2.1.2.1
theorem dJ0_charAt_5068e_21 : decode cJ0_charAt_5068e 21 = .ok (.invokestatic 498, 3) := fp_dk fp_hdX10_happens_54.2.2.1.2.2
theorem dJ0_charAt_5068e_24 : decode cJ0_charAt_5068e 24 = .ok (.ireturn, 1) := fp_dk fp_hdX10_happens_54.2.2.2.1.1
theorem dJ0_coder_7d493_0 : decode cJ0_coder_7d493 0 = .ok (.getstatic 38, 3) := fp_dk fp_hdX10_happens_54.2.2.2.1.2
theorem dJ0_coder_7d493_3 : decode cJ0_coder_7d493 3 = .ok (.ifCond .eq 10, 3) := fp_dk fp_hdX10_happens_54.2.2.2.2.1
theorem dJ0_coder_7d493_6 : decode cJ0_coder_7d493 6 = .ok (.aload_n 0, 1) := fp_dk fp_hdX10_happens_54.2.2.2.2.2
theorem fp_hdJ0_coder_7d493_7 : (((((fp_dq cJ0_coder_7d493 7 (.getfield 15, 3) = true ∧ fp_dq cJ0_coder_7d493 10 (.goto 4, 3) = true) ∧ (fp_dq cJ0_coder_7d493 13 (.iconst 1, 1) = true ∧ fp_dq cJ0_coder_7d493 14 (.ireturn, 1) = true)) ∧ ((fp_dq cJ0_isLatin1_aae02 0 (.getstatic 38, 3) = true ∧ fp_dq cJ0_isLatin1_aae02 3 (.ifCond .eq 14, 3) = true) ∧ (fp_dq cJ0_isLatin1_aae02 6 (.aload_n 0, 1) = true ∧ fp_dq cJ0_isLatin1_aae02 7 (.getfield 15, 3) = true))) ∧ (((fp_dq cJ0_isLatin1_aae02 10 (.ifCond .ne 7, 3) = true ∧ fp_dq cJ0_isLatin1_aae02 13 (.iconst 1, 1) = true) ∧ (fp_dq cJ0_isLatin1_aae02 14 (.goto 4, 3) = true ∧ fp_dq cJ0_isLatin1_aae02 17 (.iconst 0, 1) = true)) ∧ ((fp_dq cJ0_isLatin1_aae02 18 (.ireturn, 1) = true ∧ fp_dq cJ0_checkIndex_df160 0 (.iload_n 0, 1) = true) ∧ (fp_dq cJ0_checkIndex_df160 1 (.iload_n 1, 1) = true ∧ fp_dq cJ0_checkIndex_df160 2 (.getstatic 1053, 3) = true)))) ∧ ((((fp_dq cJ0_checkIndex_df160 5 (.invokestatic 1059, 3) = true ∧ fp_dq cJ0_checkIndex_df160 8 (.pop, 1) = true) ∧ (fp_dq cJ0_checkIndex_df160 9 (.return_, 1) = true ∧ fp_dq cJ1_charAt_3b067 0 (.iload_n 1, 1) = true)) ∧ ((fp_dq cJ1_charAt_3b067 1 (.aload_n 0, 1) = true ∧ fp_dq cJ1_charAt_3b067 2 (.arraylength, 1) = true) ∧ (fp_dq cJ1_charAt_3b067 3 (.invokestatic 9, 3) = true ∧ fp_dq cJ1_charAt_3b067 6 (.aload_n 0, 1) = true))) ∧ (((fp_dq cJ1_charAt_3b067 7 (.iload_n 1, 1) = true ∧ fp_dq cJ1_charAt_3b067 8 (.baload, 1) = true) ∧ (fp_dq cJ1_charAt_3b067 9 (.sipush 255, 3) = true ∧ fp_dq cJ1_charAt_3b067 12 (.iand, 1) = true)) ∧ ((fp_dq cJ1_charAt_3b067 13 (.i2c, 1) = true ∧ fp_dq cJ1_charAt_3b067 14 (.ireturn, 1) = true) ∧ (fp_dq cJ2_getChar_3b067 0 (.getstatic 44, 3) = true ∧ fp_dq cJ2_getChar_3b067 3 (.ifCond .ne 25, 3) = true))))) := by decide +kernel
theorem dJ0_coder_7d493_7 : decode cJ0_coder_7d493 7 = .ok (.getfield 15, 3) := fp_dk fp_hdJ0_coder_7d493_7.1.1.1.1.1
theorem dJ0_coder_7d493_10 : decode cJ0_coder_7d493 10 = .ok (.goto 4, 3) := fp_dk fp_hdJ0_coder_7d493_7.1.1.1.1.2
theorem dJ0_coder_7d493_13 : decode cJ0_coder_7d493 13 = .ok (.iconst 1, 1) := fp_dk fp_hdJ0_coder_7d493_7.1.1.1.2.1
theorem dJ0_coder_7d493_14 : decode cJ0_coder_7d493 14 = .ok (.ireturn, 1) := fp_dk fp_hdJ0_coder_7d493_7.1.1.1.2.2
theorem dJ0_isLatin1_aae02_0 : decode cJ0_isLatin1_aae02 0 = .ok (.getstatic 38, 3) := fp_dk fp_hdJ0_coder_7d493_7.1.1.2.1.1
theorem dJ0_isLatin1_aae02_3 : decode cJ0_isLatin1_aae02 3 = .ok (.ifCond .eq 14, 3) := fp_dk fp_hdJ0_coder_7d493_7.1.1.2.1.2
theorem dJ0_isLatin1_aae02_6 : decode cJ0_isLatin1_aae02 6 = .ok (.aload_n 0, 1) := fp_dk fp_hdJ0_coder_7d493_7.1.1.2.2.1
theorem dJ0_isLatin1_aae02_7 : decode cJ0_isLatin1_aae02 7 = .ok (.getfield 15, 3) := fp_dk fp_hdJ0_coder_7d493_7.1.1.2.2.2
theorem dJ0_isLatin1_aae02_10 : decode cJ0_isLatin1_aae02 10 = .ok (.ifCond .ne 7, 3) := fp_dk fp_hdJ0_coder_7d493_7.1.2.1.1.1
theorem dJ0_isLatin1_aae02_13 : decode cJ0_isLatin1_aae02 13 = .ok (.iconst 1, 1) := fp_dk fp_hdJ0_coder_7d493_7.1.2.1.1.2
theorem dJ0_isLatin1_aae02_14 : decode cJ0_isLatin1_aae02 14 = .ok (.goto 4, 3) := fp_dk fp_hdJ0_coder_7d493_7.1.2.1.2.1
theorem dJ0_isLatin1_aae02_17 : decode cJ0_isLatin1_aae02 17 = .ok (.iconst 0, 1) := fp_dk fp_hdJ0_coder_7d493_7.1.2.1.2.2
theorem dJ0_isLatin1_aae02_18 : decode cJ0_isLatin1_aae02 18 = .ok (.ireturn, 1) := fp_dk fp_hdJ0_coder_7d493_7.1.2.2.1.1
theorem dJ0_checkIndex_df160_0 : decode cJ0_checkIndex_df160 0 = .ok (.iload_n 0, 1) := fp_dk fp_hdJ0_coder_7d493_7.1.2.2.1.2
theorem dJ0_checkIndex_df160_1 : decode cJ0_checkIndex_df160 1 = .ok (.iload_n 1, 1) := fp_dk fp_hdJ0_coder_7d493_7.1.2.2.2.1
theorem dJ0_checkIndex_df160_2 : decode cJ0_checkIndex_df160 2 = .ok (.getstatic 1053, 3) := fp_dk fp_hdJ0_coder_7d493_7.1.2.2.2.2
theorem dJ0_checkIndex_df160_5 : decode cJ0_checkIndex_df160 5 = .ok (.invokestatic 1059, 3) := fp_dk fp_hdJ0_coder_7d493_7.2.1.1.1.1
theorem dJ0_checkIndex_df160_8 : decode cJ0_checkIndex_df160 8 = .ok (.pop, 1) := fp_dk fp_hdJ0_coder_7d493_7.2.1.1.1.2
theorem dJ0_checkIndex_df160_9 : decode cJ0_checkIndex_df160 9 = .ok (.return_, 1) := fp_dk fp_hdJ0_coder_7d493_7.2.1.1.2.1
theorem dJ1_charAt_3b067_0 : decode cJ1_charAt_3b067 0 = .ok (.iload_n 1, 1) := fp_dk fp_hdJ0_coder_7d493_7.2.1.1.2.2
theorem dJ1_charAt_3b067_1 : decode cJ1_charAt_3b067 1 = .ok (.aload_n 0, 1) := fp_dk fp_hdJ0_coder_7d493_7.2.1.2.1.1
theorem dJ1_charAt_3b067_2 : decode cJ1_charAt_3b067 2 = .ok (.arraylength, 1) := fp_dk fp_hdJ0_coder_7d493_7.2.1.2.1.2
theorem dJ1_charAt_3b067_3 : decode cJ1_charAt_3b067 3 = .ok (.invokestatic 9, 3) := fp_dk fp_hdJ0_coder_7d493_7.2.1.2.2.1
theorem dJ1_charAt_3b067_6 : decode cJ1_charAt_3b067 6 = .ok (.aload_n 0, 1) := fp_dk fp_hdJ0_coder_7d493_7.2.1.2.2.2
theorem dJ1_charAt_3b067_7 : decode cJ1_charAt_3b067 7 = .ok (.iload_n 1, 1) := fp_dk fp_hdJ0_coder_7d493_7.2.2.1.1.1
theorem dJ1_charAt_3b067_8 : decode cJ1_charAt_3b067 8 = .ok (.baload, 1) := fp_dk fp_hdJ0_coder_7d493_7.2.2.1.1.2
theorem dJ1_charAt_3b067_9 : decode cJ1_charAt_3b067 9 = .ok (.sipush 255, 3) := fp_dk fp_hdJ0_coder_7d493_7.2.2.1.2.1
theorem dJ1_charAt_3b067_12 : decode cJ1_charAt_3b067 12 = .ok (.iand, 1) := fp_dk fp_hdJ0_coder_7d493_7.2.2.1.2.2
theorem dJ1_charAt_3b067_13 : decode cJ1_charAt_3b067 13 = .ok (.i2c, 1) := fp_dk fp_hdJ0_coder_7d493_7.2.2.2.1.1
theorem dJ1_charAt_3b067_14 : decode cJ1_charAt_3b067 14 = .ok (.ireturn, 1) := fp_dk fp_hdJ0_coder_7d493_7.2.2.2.1.2
theorem dJ2_getChar_3b067_0 : decode cJ2_getChar_3b067 0 = .ok (.getstatic 44, 3) := fp_dk fp_hdJ0_coder_7d493_7.2.2.2.2.1
theorem dJ2_getChar_3b067_3 : decode cJ2_getChar_3b067 3 = .ok (.ifCond .ne 25, 3) := fp_dk fp_hdJ0_coder_7d493_7.2.2.2.2.2
theorem fp_hdJ2_getChar_3b067_6 : (((((fp_dq cJ2_getChar_3b067 6 (.iload_n 1, 1) = true ∧ fp_dq cJ2_getChar_3b067 7 (.ifCond .lt 11, 3) = true) ∧ (fp_dq cJ2_getChar_3b067 10 (.iload_n 1, 1) = true ∧ fp_dq cJ2_getChar_3b067 11 (.aload_n 0, 1) = true)) ∧ ((fp_dq cJ2_getChar_3b067 12 (.invokestatic 48, 3) = true ∧ fp_dq cJ2_getChar_3b067 15 (.if_icmp .lt 13, 3) = true) ∧ (fp_dq cJ2_getChar_3b067 18 (.new 52, 3) = true ∧ fp_dq cJ2_getChar_3b067 21 (.dup, 1) = true))) ∧ (((fp_dq cJ2_getChar_3b067 22 (.ldc 54, 2) = true ∧ fp_dq cJ2_getChar_3b067 24 (.invokespecial 56, 3) = true) ∧ (fp_dq cJ2_getChar_3b067 27 (.athrow, 1) = true ∧ fp_dq cJ2_getChar_3b067 28 (.iload_n 1, 1) = true)) ∧ ((fp_dq cJ2_getChar_3b067 29 (.iconst 1, 1) = true ∧ fp_dq cJ2_getChar_3b067 30 (.ishl, 1) = true) ∧ (fp_dq cJ2_getChar_3b067 31 (.istore_n 1, 1) = true ∧ fp_dq cJ2_getChar_3b067 32 (.aload_n 0, 1) = true)))) ∧ ((((fp_dq cJ2_getChar_3b067 33 (.iload_n 1, 1) = true ∧ fp_dq cJ2_getChar_3b067 34 (.iinc 1 1, 3) = true) ∧ (fp_dq cJ2_getChar_3b067 37 (.baload, 1) = true ∧ fp_dq cJ2_getChar_3b067 38 (.sipush 255, 3) = true)) ∧ ((fp_dq cJ2_getChar_3b067 41 (.iand, 1) = true ∧ fp_dq cJ2_getChar_3b067 42 (.getstatic 59, 3) = true) ∧ (fp_dq cJ2_getChar_3b067 45 (.ishl, 1) = true ∧ fp_dq cJ2_getChar_3b067 46 (.aload_n 0, 1) = true))) ∧ (((fp_dq cJ2_getChar_3b067 47 (.iload_n 1, 1) = true ∧ fp_dq cJ2_getChar_3b067 48 (.baload, 1) = true) ∧ (fp_dq cJ2_getChar_3b067 49 (.sipush 255, 3) = true ∧ fp_dq cJ2_getChar_3b067 52 (.iand, 1) = true)) ∧ ((fp_dq cJ2_getChar_3b067 53 (.getstatic 63, 3) = true ∧ fp_dq cJ2_getChar_3b067 56 (.ishl, 1) = true) ∧ (fp_dq cJ2_getChar_3b067 57 (.ior, 1) = true ∧ fp_dq cJ2_getChar_3b067 58 (.i2c, 1) = true))))) := by decide +kernel
theorem dJ2_getChar_3b067_6 : decode cJ2_getChar_3b067 6 = .ok (.iload_n 1, 1) := fp_dk fp_hdJ2_getChar_3b067_6.1.1.1.1.1
theorem dJ2_getChar_3b067_7 : decode cJ2_getChar_3b067 7 = .ok (.ifCond .lt 11, 3) := fp_dk fp_hdJ2_getChar_3b067_6.1.1.1.1.2
theorem dJ2_getChar_3b067_10 : decode cJ2_getChar_3b067 10 = .ok (.iload_n 1, 1) := fp_dk fp_hdJ2_getChar_3b067_6.1.1.1.2.1
theorem dJ2_getChar_3b067_11 : decode cJ2_getChar_3b067 11 = .ok (.aload_n 0, 1) := fp_dk fp_hdJ2_getChar_3b067_6.1.1.1.2.2
theorem dJ2_getChar_3b067_12 : decode cJ2_getChar_3b067 12 = .ok (.invokestatic 48, 3) := fp_dk fp_hdJ2_getChar_3b067_6.1.1.2.1.1
theorem dJ2_getChar_3b067_15 : decode cJ2_getChar_3b067 15 = .ok (.if_icmp .lt 13, 3) := fp_dk fp_hdJ2_getChar_3b067_6.1.1.2.1.2
theorem dJ2_getChar_3b067_18 : decode cJ2_getChar_3b067 18 = .ok (.new 52, 3) := fp_dk fp_hdJ2_getChar_3b067_6.1.1.2.2.1
theorem dJ2_getChar_3b067_21 : decode cJ2_getChar_3b067 21 = .ok (.dup, 1) := fp_dk fp_hdJ2_getChar_3b067_6.1.1.2.2.2
theorem dJ2_getChar_3b067_22 : decode cJ2_getChar_3b067 22 = .ok (.ldc 54, 2) := fp_dk fp_hdJ2_getChar_3b067_6.1.2.1.1.1
theorem dJ2_getChar_3b067_24 : decode cJ2_getChar_3b067 24 = .ok (.invokespecial 56, 3) := fp_dk fp_hdJ2_getChar_3b067_6.1.2.1.1.2
theorem dJ2_getChar_3b067_27 : decode cJ2_getChar_3b067 27 = .ok (.athrow, 1) := fp_dk fp_hdJ2_getChar_3b067_6.1.2.1.2.1
theorem dJ2_getChar_3b067_28 : decode cJ2_getChar_3b067 28 = .ok (.iload_n 1, 1) := fp_dk fp_hdJ2_getChar_3b067_6.1.2.1.2.2
theorem dJ2_getChar_3b067_29 : decode cJ2_getChar_3b067 29 = .ok (.iconst 1, 1) := fp_dk fp_hdJ2_getChar_3b067_6.1.2.2.1.1
theorem dJ2_getChar_3b067_30 : decode cJ2_getChar_3b067 30 = .ok (.ishl, 1) := fp_dk fp_hdJ2_getChar_3b067_6.1.2.2.1.2
theorem dJ2_getChar_3b067_31 : decode cJ2_getChar_3b067 31 = .ok (.istore_n 1, 1) := fp_dk fp_hdJ2_getChar_3b067_6.1.2.2.2.1
theorem dJ2_getChar_3b067_32 : decode cJ2_getChar_3b067 32 = .ok (.aload_n 0, 1) := fp_dk fp_hdJ2_getChar_3b067_6.1.2.2.2.2
theorem dJ2_getChar_3b067_33 : decode cJ2_getChar_3b067 33 = .ok (.iload_n 1, 1) := fp_dk fp_hdJ2_getChar_3b067_6.2.1.1.1.1
theorem dJ2_getChar_3b067_34 : decode cJ2_getChar_3b067 34 = .ok (.iinc 1 1, 3) := fp_dk fp_hdJ2_getChar_3b067_6.2.1.1.1.2
theorem dJ2_getChar_3b067_37 : decode cJ2_getChar_3b067 37 = .ok (.baload, 1) := fp_dk fp_hdJ2_getChar_3b067_6.2.1.1.2.1
theorem dJ2_getChar_3b067_38 : decode cJ2_getChar_3b067 38 = .ok (.sipush 255, 3) := fp_dk fp_hdJ2_getChar_3b067_6.2.1.1.2.2
theorem dJ2_getChar_3b067_41 : decode cJ2_getChar_3b067 41 = .ok (.iand, 1) := fp_dk fp_hdJ2_getChar_3b067_6.2.1.2.1.1
theorem dJ2_getChar_3b067_42 : decode cJ2_getChar_3b067 42 = .ok (.getstatic 59, 3) := fp_dk fp_hdJ2_getChar_3b067_6.2.1.2.1.2
theorem dJ2_getChar_3b067_45 : decode cJ2_getChar_3b067 45 = .ok (.ishl, 1) := fp_dk fp_hdJ2_getChar_3b067_6.2.1.2.2.1
theorem dJ2_getChar_3b067_46 : decode cJ2_getChar_3b067 46 = .ok (.aload_n 0, 1) := fp_dk fp_hdJ2_getChar_3b067_6.2.1.2.2.2
theorem dJ2_getChar_3b067_47 : decode cJ2_getChar_3b067 47 = .ok (.iload_n 1, 1) := fp_dk fp_hdJ2_getChar_3b067_6.2.2.1.1.1
theorem dJ2_getChar_3b067_48 : decode cJ2_getChar_3b067 48 = .ok (.baload, 1) := fp_dk fp_hdJ2_getChar_3b067_6.2.2.1.1.2
theorem dJ2_getChar_3b067_49 : decode cJ2_getChar_3b067 49 = .ok (.sipush 255, 3) := fp_dk fp_hdJ2_getChar_3b067_6.2.2.1.2.1
theorem dJ2_getChar_3b067_52 : decode cJ2_getChar_3b067 52 = .ok (.iand, 1) := fp_dk fp_hdJ2_getChar_3b067_6.2.2.1.2.2
theorem dJ2_getChar_3b067_53 : decode cJ2_getChar_3b067 53 = .ok (.getstatic 63, 3) := fp_dk fp_hdJ2_getChar_3b067_6.2.2.2.1.1
theorem dJ2_getChar_3b067_56 : decode cJ2_getChar_3b067 56 = .ok (.ishl, 1) := fp_dk fp_hdJ2_getChar_3b067_6.2.2.2.1.2
theorem dJ2_getChar_3b067_57 : decode cJ2_getChar_3b067 57 = .ok (.ior, 1) := fp_dk fp_hdJ2_getChar_3b067_6.2.2.2.2.1
theorem dJ2_getChar_3b067_58 : decode cJ2_getChar_3b067 58 = .ok (.i2c, 1) := fp_dk fp_hdJ2_getChar_3b067_6.2.2.2.2.2
theorem fp_hdJ2_getChar_3b067_59 : (((((fp_dq cJ2_getChar_3b067 59 (.ireturn, 1) = true ∧ fp_dq cJ2_length_9d52b 0 (.aload_n 0, 1) = true) ∧ (fp_dq cJ2_length_9d52b 1 (.arraylength, 1) = true ∧ fp_dq cJ2_length_9d52b 2 (.iconst 1, 1) = true)) ∧ ((fp_dq cJ2_length_9d52b 3 (.ishr, 1) = true ∧ fp_dq cJ2_length_9d52b 4 (.ireturn, 1) = true) ∧ (fp_dq cJ2_charAt_3b067 0 (.iload_n 1, 1) = true ∧ fp_dq cJ2_charAt_3b067 1 (.aload_n 0, 1) = true))) ∧ (((fp_dq cJ2_charAt_3b067 2 (.invokestatic 67, 3) = true ∧ fp_dq cJ2_charAt_3b067 5 (.aload_n 0, 1) = true) ∧ (fp_dq cJ2_charAt_3b067 6 (.iload_n 1, 1) = true ∧ fp_dq cJ2_charAt_3b067 7 (.invokestatic 71, 3) = true)) ∧ ((fp_dq cJ2_charAt_3b067 10 (.ireturn, 1) = true ∧ fp_dq cJ2_checkIndex_2214a 0 (.iload_n 0, 1) = true) ∧ (fp_dq cJ2_checkIndex_2214a 1 (.aload_n 1, 1) = true ∧ fp_dq cJ2_checkIndex_2214a 2 (.invokestatic 48, 3) = true)))) ∧ ((((fp_dq cJ2_checkIndex_2214a 5 (.invokestatic 414, 3) = true ∧ fp_dq cJ2_checkIndex_2214a 8 (.return_, 1) = true) ∧ (fp_dq cJ7_fill_d0a16 0 (.iconst 0, 1) = true ∧ fp_dq cJ7_fill_d0a16 1 (.istore_n 3, 1) = true)) ∧ ((fp_dq cJ7_fill_d0a16 2 (.aload_n 0, 1) = true ∧ fp_dq cJ7_fill_d0a16 3 (.arraylength, 1) = true) ∧ (fp_dq cJ7_fill_d0a16 4 (.istore 4, 2) = true ∧ fp_dq cJ7_fill_d0a16 6 (.iload_n 3, 1) = true))) ∧ (((fp_dq cJ7_fill_d0a16 7 (.iload 4, 2) = true ∧ fp_dq cJ7_fill_d0a16 9 (.if_icmp .ge 13, 3) = true) ∧ (fp_dq cJ7_fill_d0a16 12 (.aload_n 0, 1) = true ∧ fp_dq cJ7_fill_d0a16 13 (.iload_n 3, 1) = true)) ∧ ((fp_dq cJ7_fill_d0a16 14 (.lload_n 1, 1) = true ∧ fp_dq cJ7_fill_d0a16 15 (.lastore, 1) = true) ∧ (fp_dq cJ7_fill_d0a16 16 (.iinc 3 1, 3) = true ∧ fp_dq cJ7_fill_d0a16 19 (.goto (-13), 3) = true))))) := by decide +kernel
theorem dJ2_getChar_3b067_59 : decode cJ2_getChar_3b067 59 = .ok (.ireturn, 1) := fp_dk fp_hdJ2_getChar_3b067_59.1.1.1.1.1
theorem dJ2_length_9d52b_0 : decode cJ2_length_9d52b 0 = .ok (.aload_n 0, 1) := fp_dk fp_hdJ2_getChar_3b067_59.1.1.1.1.2
theorem dJ2_length_9d52b_1 : decode cJ2_length_9d52b 1 = .ok (.arraylength, 1) := fp_dk fp_hdJ2_getChar_3b067_59.1.1.1.2.1
theorem dJ2_length_9d52b_2 : decode cJ2_length_9d52b 2 = .ok (.iconst 1, 1) := fp_dk fp_hdJ2_getChar_3b067_59.1.1.1.2.2
theorem dJ2_length_9d52b_3 : decode cJ2_length_9d52b 3 = .ok (.ishr, 1) := fp_dk fp_hdJ2_getChar_3b067_59.1.1.2.1.1
theorem dJ2_length_9d52b_4 : decode cJ2_length_9d52b 4 = .ok (.ireturn, 1) := fp_dk fp_hdJ2_getChar_3b067_59.1.1.2.1.2
theorem dJ2_charAt_3b067_0 : decode cJ2_charAt_3b067 0 = .ok (.iload_n 1, 1) := fp_dk fp_hdJ2_getChar_3b067_59.1.1.2.2.1
theorem dJ2_charAt_3b067_1 : decode cJ2_charAt_3b067 1 = .ok (.aload_n 0, 1) := fp_dk fp_hdJ2_getChar_3b067_59.1.1.2.2.2
theorem dJ2_charAt_3b067_2 : decode cJ2_charAt_3b067 2 = .ok (.invokestatic 67, 3) := fp_dk fp_hdJ2_getChar_3b067_59.1.2.1.1.1
theorem dJ2_charAt_3b067_5 : decode cJ2_charAt_3b067 5 = .ok (.aload_n 0, 1) := fp_dk fp_hdJ2_getChar_3b067_59.1.2.1.1.2
theorem dJ2_charAt_3b067_6 : decode cJ2_charAt_3b067 6 = .ok (.iload_n 1, 1) := fp_dk fp_hdJ2_getChar_3b067_59.1.2.1.2.1
theorem dJ2_charAt_3b067_7 : decode cJ2_charAt_3b067 7 = .ok (.invokestatic 71, 3) := fp_dk fp_hdJ2_getChar_3b067_59.1.2.1.2.2
theorem dJ2_charAt_3b067_10 : decode cJ2_charAt_3b067 10 = .ok (.ireturn, 1) := fp_dk fp_hdJ2_getChar_3b067_59.1.2.2.1.1
theorem dJ2_checkIndex_2214a_0 : decode cJ2_checkIndex_2214a 0 = .ok (.iload_n 0, 1) := fp_dk fp_hdJ2_getChar_3b067_59.1.2.2.1.2
theorem dJ2_checkIndex_2214a_1 : decode cJ2_checkIndex_2214a 1 = .ok (.aload_n 1, 1) := fp_dk fp_hdJ2_getChar_3b067_59.1.2.2.2.1
theorem dJ2_checkIndex_2214a_2 : decode cJ2_checkIndex_2214a 2 = .ok (.invokestatic 48, 3) := fp_dk fp_hdJ2_getChar_3b067_59.1.2.2.2.2
theorem dJ2_checkIndex_2214a_5 : decode cJ2_checkIndex_2214a 5 = .ok (.invokestatic 414, 3) := fp_dk fp_hdJ2_getChar_3b067_59.2.1.1.1.1
theorem dJ2_checkIndex_2214a_8 : decode cJ2_checkIndex_2214a 8 = .ok (.return_, 1) := fp_dk fp_hdJ2_getChar_3b067_59.2.1.1.1.2
theorem dJ7_fill_d0a16_0 : decode cJ7_fill_d0a16 0 = .ok (.iconst 0, 1) := fp_dk fp_hdJ2_getChar_3b067_59.2.1.1.2.1
theorem dJ7_fill_d0a16_1 : decode cJ7_fill_d0a16 1 = .ok (.istore_n 3, 1) := fp_dk fp_hdJ2_getChar_3b067_59.2.1.1.2.2
theorem dJ7_fill_d0a16_2 : decode cJ7_fill_d0a16 2 = .ok (.aload_n 0, 1) := fp_dk fp_hdJ2_getChar_3b067_59.2.1.2.1.1
theorem dJ7_fill_d0a16_3 : decode cJ7_fill_d0a16 3 = .ok (.arraylength, 1) := fp_dk fp_hdJ2_getChar_3b067_59.2.1.2.1.2
theorem dJ7_fill_d0a16_4 : decode cJ7_fill_d0a16 4 = .ok (.istore 4, 2) := fp_dk fp_hdJ2_getChar_3b067_59.2.1.2.2.1
theorem dJ7_fill_d0a16_6 : decode cJ7_fill_d0a16 6 = .ok (.iload_n 3, 1) := fp_dk fp_hdJ2_getChar_3b067_59.2.1.2.2.2
theorem dJ7_fill_d0a16_7 : decode cJ7_fill_d0a16 7 = .ok (.iload 4, 2) := fp_dk fp_hdJ2_getChar_3b067_59.2.2.1.1.1
theorem dJ7_fill_d0a16_9 : decode cJ7_fill_d0a16 9 = .ok (.if_icmp .ge 13, 3) := fp_dk fp_hdJ2_getChar_3b067_59.2.2.1.1.2
theorem dJ7_fill_d0a16_12 : decode cJ7_fill_d0a16 12 = .ok (.aload_n 0, 1) := fp_dk fp_hdJ2_getChar_3b067_59.2.2.1.2.1
theorem dJ7_fill_d0a16_13 : decode cJ7_fill_d0a16 13 = .ok (.iload_n 3, 1) := fp_dk fp_hdJ2_getChar_3b067_59.2.2.1.2.2
theorem dJ7_fill_d0a16_14 : decode cJ7_fill_d0a16 14 = .ok (.lload_n 1, 1) := fp_dk fp_hdJ2_getChar_3b067_59.2.2.2.1.1
theorem dJ7_fill_d0a16_15 : decode cJ7_fill_d0a16 15 = .ok (.lastore, 1) := fp_dk fp_hdJ2_getChar_3b067_59.2.2.2.1.2
theorem dJ7_fill_d0a16_16 : decode cJ7_fill_d0a16 16 = .ok (.iinc 3 1, 3) := fp_dk fp_hdJ2_getChar_3b067_59.2.2.2.2.1
theorem dJ7_fill_d0a16_19 : decode cJ7_fill_d0a16 19 = .ok (.goto (-13), 3) := fp_dk fp_hdJ2_getChar_3b067_59.2.2.2.2.2
theorem fp_hdJ7_fill_d0a16_22 : (((((fp_dq cJ7_fill_d0a16 22 (.return_, 1) = true ∧ fp_dq cJ7_fill_53178 0 (.iconst 0, 1) = true) ∧ (fp_dq cJ7_fill_53178 1 (.istore_n 2, 1) = true ∧ fp_dq cJ7_fill_53178 2 (.aload_n 0, 1) = true)) ∧ ((fp_dq cJ7_fill_53178 3 (.arraylength, 1) = true ∧ fp_dq cJ7_fill_53178 4 (.istore_n 3, 1) = true) ∧ fp_dq cJ7_fill_53178 5 (.iload_n 2, 1) = true)) ∧ (((fp_dq cJ7_fill_53178 6 (.iload_n 3, 1) = true ∧ fp_dq cJ7_fill_53178 7 (.if_icmp .ge 13, 3) = true) ∧ (fp_dq cJ7_fill_53178 10 (.aload_n 0, 1) = true ∧ fp_dq cJ7_fill_53178 11 (.iload_n 2, 1) = true)) ∧ ((fp_dq cJ7_fill_53178 12 (.iload_n 1, 1) = true ∧ fp_dq cJ7_fill_53178 13 (.iastore, 1) = true) ∧ fp_dq cJ7_fill_53178 14 (.iinc 2 1, 3) = true))) ∧ ((((fp_dq cJ7_fill_53178 17 (.goto (-12), 3) = true ∧ fp_dq cJ7_fill_53178 20 (.return_, 1) = true) ∧ (fp_dq cJ3_checkIndex_8e157 0 (.iload_n 0, 1) = true ∧ fp_dq cJ3_checkIndex_8e157 1 (.ifCond .lt 8, 3) = true)) ∧ ((fp_dq cJ3_checkIndex_8e157 4 (.iload_n 0, 1) = true ∧ fp_dq cJ3_checkIndex_8e157 5 (.iload_n 1, 1) = true) ∧ fp_dq cJ3_checkIndex_8e157 6 (.if_icmp .lt 10, 3) = true)) ∧ (((fp_dq cJ3_checkIndex_8e157 9 (.aload_n 2, 1) = true ∧ fp_dq cJ3_checkIndex_8e157 10 (.iload_n 0, 1) = true) ∧ (fp_dq cJ3_checkIndex_8e157 11 (.iload_n 1, 1) = true ∧ fp_dq cJ3_checkIndex_8e157 12 (.invokestatic 95, 3) = true)) ∧ ((fp_dq cJ3_checkIndex_8e157 15 (.athrow, 1) = true ∧ fp_dq cJ3_checkIndex_8e157 16 (.iload_n 0, 1) = true) ∧ fp_dq cJ3_checkIndex_8e157 17 (.ireturn, 1) = true)))) := by decide +kernel
theorem dJ7_fill_d0a16_22 : decode cJ7_fill_d0a16 22 = .ok (.return_, 1) := fp_dk fp_hdJ7_fill_d0a16_22.1.1.1.1.1
theorem dJ7_fill_53178_0 : decode cJ7_fill_53178 0 = .ok (.iconst 0, 1) := fp_dk fp_hdJ7_fill_d0a16_22.1.1.1.1.2
theorem dJ7_fill_53178_1 : decode cJ7_fill_53178 1 = .ok (.istore_n 2, 1) := fp_dk fp_hdJ7_fill_d0a16_22.1.1.1.2.1
theorem dJ7_fill_53178_2 : decode cJ7_fill_53178 2 = .ok (.aload_n 0, 1) := fp_dk fp_hdJ7_fill_d0a16_22.1.1.1.2.2
theorem dJ7_fill_53178_3 : decode cJ7_fill_53178 3 = .ok (.arraylength, 1) := fp_dk fp_hdJ7_fill_d0a16_22.1.1.2.1.1
theorem dJ7_fill_53178_4 : decode cJ7_fill_53178 4 = .ok (.istore_n 3, 1) := fp_dk fp_hdJ7_fill_d0a16_22.1.1.2.1.2
theorem dJ7_fill_53178_5 : decode cJ7_fill_53178 5 = .ok (.iload_n 2, 1) := fp_dk fp_hdJ7_fill_d0a16_22.1.1.2.2
theorem dJ7_fill_53178_6 : decode cJ7_fill_53178 6 = .ok (.iload_n 3, 1) := fp_dk fp_hdJ7_fill_d0a16_22.1.2.1.1.1
theorem dJ7_fill_53178_7 : decode cJ7_fill_53178 7 = .ok (.if_icmp .ge 13, 3) := fp_dk fp_hdJ7_fill_d0a16_22.1.2.1.1.2
theorem dJ7_fill_53178_10 : decode cJ7_fill_53178 10 = .ok (.aload_n 0, 1) := fp_dk fp_hdJ7_fill_d0a16_22.1.2.1.2.1
theorem dJ7_fill_53178_11 : decode cJ7_fill_53178 11 = .ok (.iload_n 2, 1) := fp_dk fp_hdJ7_fill_d0a16_22.1.2.1.2.2
theorem dJ7_fill_53178_12 : decode cJ7_fill_53178 12 = .ok (.iload_n 1, 1) := fp_dk fp_hdJ7_fill_d0a16_22.1.2.2.1.1
theorem dJ7_fill_53178_13 : decode cJ7_fill_53178 13 = .ok (.iastore, 1) := fp_dk fp_hdJ7_fill_d0a16_22.1.2.2.1.2
theorem dJ7_fill_53178_14 : decode cJ7_fill_53178 14 = .ok (.iinc 2 1, 3) := fp_dk fp_hdJ7_fill_d0a16_22.1.2.2.2
theorem dJ7_fill_53178_17 : decode cJ7_fill_53178 17 = .ok (.goto (-12), 3) := fp_dk fp_hdJ7_fill_d0a16_22.2.1.1.1.1
theorem dJ7_fill_53178_20 : decode cJ7_fill_53178 20 = .ok (.return_, 1) := fp_dk fp_hdJ7_fill_d0a16_22.2.1.1.1.2
theorem dJ3_checkIndex_8e157_0 : decode cJ3_checkIndex_8e157 0 = .ok (.iload_n 0, 1) := fp_dk fp_hdJ7_fill_d0a16_22.2.1.1.2.1
theorem dJ3_checkIndex_8e157_1 : decode cJ3_checkIndex_8e157 1 = .ok (.ifCond .lt 8, 3) := fp_dk fp_hdJ7_fill_d0a16_22.2.1.1.2.2
theorem dJ3_checkIndex_8e157_4 : decode cJ3_checkIndex_8e157 4 = .ok (.iload_n 0, 1) := fp_dk fp_hdJ7_fill_d0a16_22.2.1.2.1.1
theorem dJ3_checkIndex_8e157_5 : decode cJ3_checkIndex_8e157 5 = .ok (.iload_n 1, 1) := fp_dk fp_hdJ7_fill_d0a16_22.2.1.2.1.2
theorem dJ3_checkIndex_8e157_6 : decode cJ3_checkIndex_8e157 6 = .ok (.if_icmp .lt 10, 3) := fp_dk fp_hdJ7_fill_d0a16_22.2.1.2.2
theorem dJ3_checkIndex_8e157_9 : decode cJ3_checkIndex_8e157 9 = .ok (.aload_n 2, 1) := fp_dk fp_hdJ7_fill_d0a16_22.2.2.1.1.1
theorem dJ3_checkIndex_8e157_10 : decode cJ3_checkIndex_8e157 10 = .ok (.iload_n 0, 1) := fp_dk fp_hdJ7_fill_d0a16_22.2.2.1.1.2
theorem dJ3_checkIndex_8e157_11 : decode cJ3_checkIndex_8e157 11 = .ok (.iload_n 1, 1) := fp_dk fp_hdJ7_fill_d0a16_22.2.2.1.2.1
theorem dJ3_checkIndex_8e157_12 : decode cJ3_checkIndex_8e157 12 = .ok (.invokestatic 95, 3) := fp_dk fp_hdJ7_fill_d0a16_22.2.2.1.2.2
theorem dJ3_checkIndex_8e157_15 : decode cJ3_checkIndex_8e157 15 = .ok (.athrow, 1) := fp_dk fp_hdJ7_fill_d0a16_22.2.2.2.1.1
theorem dJ3_checkIndex_8e157_16 : decode cJ3_checkIndex_8e157 16 = .ok (.iload_n 0, 1) := fp_dk fp_hdJ7_fill_d0a16_22.2.2.2.1.2
theorem dJ3_checkIndex_8e157_17 : decode cJ3_checkIndex_8e157 17 = .ok (.ireturn, 1) := fp_dk fp_hdJ7_fill_d0a16_22.2.2.2.2
