theorem fp_hdX6_init_0 : (((((fp_dq cX6_init 0 (.aload_n 0, 1) = true ∧ fp_dq cX6_init 1 (.invokespecial 3, 3) = true) ∧ (fp_dq cX6_init 4 (.aload_n 0, 1) = true ∧ fp_dq cX6_init 5 (.new 9, 3) = true)) ∧ ((fp_dq cX6_init 8 (.dup, 1) = true ∧ fp_dq cX6_init 9 (.invokespecial 11, 3) = true) ∧ (fp_dq cX6_init 12 (.putfield 12, 3) = true ∧ fp_dq cX6_init 15 (.aload_n 0, 1) = true))) ∧ (((fp_dq cX6_init 16 (.new 18, 3) = true ∧ fp_dq cX6_init 19 (.dup, 1) = true) ∧ (fp_dq cX6_init 20 (.invokespecial 20, 3) = true ∧ fp_dq cX6_init 23 (.putfield 21, 3) = true)) ∧ ((fp_dq cX6_init 26 (.aload_n 0, 1) = true ∧ fp_dq cX6_init 27 (.new 25, 3) = true) ∧ (fp_dq cX6_init 30 (.dup, 1) = true ∧ fp_dq cX6_init 31 (.invokespecial 27, 3) = true)))) ∧ ((((fp_dq cX6_init 34 (.putfield 28, 3) = true ∧ fp_dq cX6_init 37 (.aload_n 0, 1) = true) ∧ (fp_dq cX6_init 38 (.iconst 0, 1) = true ∧ fp_dq cX6_init 39 (.newarray .byte, 2) = true)) ∧ ((fp_dq cX6_init 41 (.putfield 32, 3) = true ∧ fp_dq cX6_init 44 (.return_, 1) = true) ∧ (fp_dq cX6_readText 0 (.aload_n 0, 1) = true ∧ fp_dq cX6_readText 1 (.aload_n 1, 1) = true))) ∧ (((fp_dq cX6_readText 2 (.putfield 32, 3) = true ∧ fp_dq cX6_readText 5 (.aload_n 0, 1) = true) ∧ (fp_dq cX6_readText 6 (.iload_n 2, 1) = true ∧ fp_dq cX6_readText 7 (.putfield 36, 3) = true)) ∧ ((fp_dq cX6_readText 10 (.aload_n 0, 1) = true ∧ fp_dq cX6_readText 11 (.iconst 0, 1) = true) ∧ (fp_dq cX6_readText 12 (.putfield 40, 3) = true ∧ fp_dq cX6_readText 15 (.aload_n 0, 1) = true))))) := by decide +kernel
theorem dX6_init_0 : decode cX6_init 0 = .ok (.aload_n 0, 1) := fp_dk fp_hdX6_init_0.1.1.1.1.1
theorem dX6_init_1 : decode cX6_init 1 = .ok (.invokespecial 3, 3) := fp_dk fp_hdX6_init_0.1.1.1.1.2
theorem dX6_init_4 : decode cX6_init 4 = .ok (.aload_n 0, 1) := fp_dk fp_hdX6_init_0.1.1.1.2.1
theorem dX6_init_5 : decode cX6_init 5 = .ok (.new 9, 3) := fp_dk fp_hdX6_init_0.1.1.1.2.2
theorem dX6_init_8 : decode cX6_init 8 = .ok (.dup, 1) := fp_dk fp_hdX6_init_0.1.1.2.1.1
theorem dX6_init_9 : decode cX6_init 9 = .ok (.invokespecial 11, 3) := fp_dk fp_hdX6_init_0.1.1.2.1.2
theorem dX6_init_12 : decode cX6_init 12 = .ok (.putfield 12, 3) := fp_dk fp_hdX6_init_0.1.1.2.2.1
theorem dX6_init_15 : decode cX6_init 15 = .ok (.aload_n 0, 1) := fp_dk fp_hdX6_init_0.1.1.2.2.2
theorem dX6_init_16 : decode cX6_init 16 = .ok (.new 18, 3) := fp_dk fp_hdX6_init_0.1.2.1.1.1
theorem dX6_init_19 : decode cX6_init 19 = .ok (.dup, 1) := fp_dk fp_hdX6_init_0.1.2.1.1.2
theorem dX6_init_20 : decode cX6_init 20 = .ok (.invokespecial 20, 3) := fp_dk fp_hdX6_init_0.1.2.1.2.1
theorem dX6_init_23 : decode cX6_init 23 = .ok (.putfield 21, 3) := fp_dk fp_hdX6_init_0.1.2.1.2.2
theorem dX6_init_26 : decode cX6_init 26 = .ok (.aload_n 0, 1) := fp_dk fp_hdX6_init_0.1.2.2.1.1
theorem dX6_init_27 : decode cX6_init 27 = .ok (.new 25, 3) := fp_dk fp_hdX6_init_0.1.2.2.1.2
theorem dX6_init_30 : decode cX6_init 30 = .ok (.dup, 1) := fp_dk fp_hdX6_init_0.1.2.2.2.1
theorem dX6_init_31 : decode cX6_init 31 = .ok (.invokespecial 27, 3) := fp_dk fp_hdX6_init_0.1.2.2.2.2
theorem dX6_init_34 : decode cX6_init 34 = .ok (.putfield 28, 3) := fp_dk fp_hdX6_init_0.2.1.1.1.1
theorem dX6_init_37 : decode cX6_init 37 = .ok (.aload_n 0, 1) := fp_dk fp_hdX6_init_0.2.1.1.1.2
theorem dX6_init_38 : decode cX6_init 38 = .ok (.iconst 0, 1) := fp_dk fp_hdX6_init_0.2.1.1.2.1
theorem dX6_init_39 : decode cX6_init 39 = .ok (.newarray .byte, 2) := fp_dk fp_hdX6_init_0.2.1.1.2.2
theorem dX6_init_41 : decode cX6_init 41 = .ok (.putfield 32, 3) := fp_dk fp_hdX6_init_0.2.1.2.1.1
theorem dX6_init_44 : decode cX6_init 44 = .ok (.return_, 1) := fp_dk fp_hdX6_init_0.2.1.2.1.2
theorem dX6_readText_0 : decode cX6_readText 0 = .ok (.aload_n 0, 1) := fp_dk fp_hdX6_init_0.2.1.2.2.1
theorem dX6_readText_1 : decode cX6_readText 1 = .ok (.aload_n 1, 1) := fp_dk fp_hdX6_init_0.2.1.2.2.2
theorem dX6_readText_2 : decode cX6_readText 2 = .ok (.putfield 32, 3) := fp_dk fp_hdX6_init_0.2.2.1.1.1
theorem dX6_readText_5 : decode cX6_readText 5 = .ok (.aload_n 0, 1) := fp_dk fp_hdX6_init_0.2.2.1.1.2
theorem dX6_readText_6 : decode cX6_readText 6 = .ok (.iload_n 2, 1) := fp_dk fp_hdX6_init_0.2.2.1.2.1
theorem dX6_readText_7 : decode cX6_readText 7 = .ok (.putfield 36, 3) := fp_dk fp_hdX6_init_0.2.2.1.2.2
theorem dX6_readText_10 : decode cX6_readText 10 = .ok (.aload_n 0, 1) := fp_dk fp_hdX6_init_0.2.2.2.1.1
theorem dX6_readText_11 : decode cX6_readText 11 = .ok (.iconst 0, 1) := fp_dk fp_hdX6_init_0.2.2.2.1.2
theorem dX6_readText_12 : decode cX6_readText 12 = .ok (.putfield 40, 3) := fp_dk fp_hdX6_init_0.2.2.2.2.1
theorem dX6_readText_15 : decode cX6_readText 15 = .ok (.aload_n 0, 1) := fp_dk fp_hdX6_init_0.2.2.2.2.2
theorem fp_hdX6_readText_16 : (((((fp_dq cX6_readText 16 (.iconst 0, 1) = true ∧ fp_dq cX6_readText 17 (.putfield 43, 3) = true) ∧ (fp_dq cX6_readText 20 (.aload_n 0, 1) = true ∧ fp_dq cX6_readText 21 (.iconst 0, 1) = true)) ∧ ((fp_dq cX6_readText 22 (.putfield 46, 3) = true ∧ fp_dq cX6_readText 25 (.aload_n 0, 1) = true) ∧ (fp_dq cX6_readText 26 (.iconst 0, 1) = true ∧ fp_dq cX6_readText 27 (.putfield 49, 3) = true))) ∧ (((fp_dq cX6_readText 30 (.aload_n 0, 1) = true ∧ fp_dq cX6_readText 31 (.getfield 12, 3) = true) ∧ (fp_dq cX6_readText 34 (.invokevirtual 53, 3) = true ∧ fp_dq cX6_readText 37 (.aload_n 0, 1) = true)) ∧ ((fp_dq cX6_readText 38 (.getfield 21, 3) = true ∧ fp_dq cX6_readText 41 (.invokevirtual 56, 3) = true) ∧ (fp_dq cX6_readText 44 (.aload_n 0, 1) = true ∧ fp_dq cX6_readText 45 (.getfield 28, 3) = true)))) ∧ ((((fp_dq cX6_readText 48 (.iconst 0, 1) = true ∧ fp_dq cX6_readText 49 (.putfield 57, 3) = true) ∧ (fp_dq cX6_readText 52 (.iconst 0, 1) = true ∧ fp_dq cX6_readText 53 (.istore_n 3, 1) = true)) ∧ ((fp_dq cX6_readText 54 (.iconst 0, 1) = true ∧ fp_dq cX6_readText 55 (.istore 4, 2) = true) ∧ (fp_dq cX6_readText 57 (.iload 4, 2) = true ∧ fp_dq cX6_readText 59 (.aload_n 0, 1) = true))) ∧ (((fp_dq cX6_readText 60 (.getfield 36, 3) = true ∧ fp_dq cX6_readText 63 (.if_icmp .gt 36, 3) = true) ∧ (fp_dq cX6_readText 66 (.aload_n 0, 1) = true ∧ fp_dq cX6_readText 67 (.invokevirtual 60, 3) = true)) ∧ ((fp_dq cX6_readText 70 (.ifCond .eq 29, 3) = true ∧ fp_dq cX6_readText 73 (.aload_n 0, 1) = true) ∧ (fp_dq cX6_readText 74 (.getfield 64, 3) = true ∧ fp_dq cX6_readText 77 (.ifCond .eq 22, 3) = true))))) := by decide +kernel
theorem dX6_readText_16 : decode cX6_readText 16 = .ok (.iconst 0, 1) := fp_dk fp_hdX6_readText_16.1.1.1.1.1
theorem dX6_readText_17 : decode cX6_readText 17 = .ok (.putfield 43, 3) := fp_dk fp_hdX6_readText_16.1.1.1.1.2
theorem dX6_readText_20 : decode cX6_readText 20 = .ok (.aload_n 0, 1) := fp_dk fp_hdX6_readText_16.1.1.1.2.1
theorem dX6_readText_21 : decode cX6_readText 21 = .ok (.iconst 0, 1) := fp_dk fp_hdX6_readText_16.1.1.1.2.2
theorem dX6_readText_22 : decode cX6_readText 22 = .ok (.putfield 46, 3) := fp_dk fp_hdX6_readText_16.1.1.2.1.1
theorem dX6_readText_25 : decode cX6_readText 25 = .ok (.aload_n 0, 1) := fp_dk fp_hdX6_readText_16.1.1.2.1.2
theorem dX6_readText_26 : decode cX6_readText 26 = .ok (.iconst 0, 1) := fp_dk fp_hdX6_readText_16.1.1.2.2.1
theorem dX6_readText_27 : decode cX6_readText 27 = .ok (.putfield 49, 3) := fp_dk fp_hdX6_readText_16.1.1.2.2.2
theorem dX6_readText_30 : decode cX6_readText 30 = .ok (.aload_n 0, 1) := fp_dk fp_hdX6_readText_16.1.2.1.1.1
theorem dX6_readText_31 : decode cX6_readText 31 = .ok (.getfield 12, 3) := fp_dk fp_hdX6_readText_16.1.2.1.1.2
theorem dX6_readText_34 : decode cX6_readText 34 = .ok (.invokevirtual 53, 3) := fp_dk fp_hdX6_readText_16.1.2.1.2.1
theorem dX6_readText_37 : decode cX6_readText 37 = .ok (.aload_n 0, 1) := fp_dk fp_hdX6_readText_16.1.2.1.2.2
theorem dX6_readText_38 : decode cX6_readText 38 = .ok (.getfield 21, 3) := fp_dk fp_hdX6_readText_16.1.2.2.1.1
theorem dX6_readText_41 : decode cX6_readText 41 = .ok (.invokevirtual 56, 3) := fp_dk fp_hdX6_readText_16.1.2.2.1.2
theorem dX6_readText_44 : decode cX6_readText 44 = .ok (.aload_n 0, 1) := fp_dk fp_hdX6_readText_16.1.2.2.2.1
theorem dX6_readText_45 : decode cX6_readText 45 = .ok (.getfield 28, 3) := fp_dk fp_hdX6_readText_16.1.2.2.2.2
theorem dX6_readText_48 : decode cX6_readText 48 = .ok (.iconst 0, 1) := fp_dk fp_hdX6_readText_16.2.1.1.1.1
theorem dX6_readText_49 : decode cX6_readText 49 = .ok (.putfield 57, 3) := fp_dk fp_hdX6_readText_16.2.1.1.1.2
theorem dX6_readText_52 : decode cX6_readText 52 = .ok (.iconst 0, 1) := fp_dk fp_hdX6_readText_16.2.1.1.2.1
theorem dX6_readText_53 : decode cX6_readText 53 = .ok (.istore_n 3, 1) := fp_dk fp_hdX6_readText_16.2.1.1.2.2
theorem dX6_readText_54 : decode cX6_readText 54 = .ok (.iconst 0, 1) := fp_dk fp_hdX6_readText_16.2.1.2.1.1
theorem dX6_readText_55 : decode cX6_readText 55 = .ok (.istore 4, 2) := fp_dk fp_hdX6_readText_16.2.1.2.1.2
theorem dX6_readText_57 : decode cX6_readText 57 = .ok (.iload 4, 2) := fp_dk fp_hdX6_readText_16.2.1.2.2.1
theorem dX6_readText_59 : decode cX6_readText 59 = .ok (.aload_n 0, 1) := fp_dk fp_hdX6_readText_16.2.1.2.2.2
theorem dX6_readText_60 : decode cX6_readText 60 = .ok (.getfield 36, 3) := fp_dk fp_hdX6_readText_16.2.2.1.1.1
theorem dX6_readText_63 : decode cX6_readText 63 = .ok (.if_icmp .gt 36, 3) := fp_dk fp_hdX6_readText_16.2.2.1.1.2
theorem dX6_readText_66 : decode cX6_readText 66 = .ok (.aload_n 0, 1) := fp_dk fp_hdX6_readText_16.2.2.1.2.1
theorem dX6_readText_67 : decode cX6_readText 67 = .ok (.invokevirtual 60, 3) := fp_dk fp_hdX6_readText_16.2.2.1.2.2
theorem dX6_readText_70 : decode cX6_readText 70 = .ok (.ifCond .eq 29, 3) := fp_dk fp_hdX6_readText_16.2.2.2.1.1
theorem dX6_readText_73 : decode cX6_readText 73 = .ok (.aload_n 0, 1) := fp_dk fp_hdX6_readText_16.2.2.2.1.2
theorem dX6_readText_74 : decode cX6_readText 74 = .ok (.getfield 64, 3) := fp_dk fp_hdX6_readText_16.2.2.2.2.1
theorem dX6_readText_77 : decode cX6_readText 77 = .ok (.ifCond .eq 22, 3) := fp_dk fp_hdX6_readText_16.2.2.2.2.2
theorem fp_hdX6_readText_80 : (((((fp_dq cX6_readText 80 (.aload_n 0, 1) = true ∧ fp_dq cX6_readText 81 (.invokevirtual 67, 3) = true) ∧ (fp_dq cX6_readText 84 (.ifCond .ne 6, 3) = true ∧ fp_dq cX6_readText 87 (.goto 12, 3) = true)) ∧ ((fp_dq cX6_readText 90 (.iinc 3 1, 3) = true ∧ fp_dq cX6_readText 93 (.iinc 4 1, 3) = true) ∧ (fp_dq cX6_readText 96 (.goto (-39), 3) = true ∧ fp_dq cX6_readText 99 (.aload_n 0, 1) = true))) ∧ (((fp_dq cX6_readText 100 (.getfield 43, 3) = true ∧ fp_dq cX6_readText 103 (.ifCond .ne 7, 3) = true) ∧ (fp_dq cX6_readText 106 (.aload_n 0, 1) = true ∧ fp_dq cX6_readText 107 (.invokevirtual 70, 3) = true)) ∧ ((fp_dq cX6_readText 110 (.iload_n 3, 1) = true ∧ fp_dq cX6_readText 111 (.ireturn, 1) = true) ∧ (fp_dq cX6_refuse 0 (.aload_n 0, 1) = true ∧ fp_dq cX6_refuse 1 (.iload_n 1, 1) = true)))) ∧ ((((fp_dq cX6_refuse 2 (.putfield 43, 3) = true ∧ fp_dq cX6_refuse 5 (.aload_n 0, 1) = true) ∧ (fp_dq cX6_refuse 6 (.iload_n 2, 1) = true ∧ fp_dq cX6_refuse 7 (.putfield 73, 3) = true)) ∧ ((fp_dq cX6_refuse 10 (.iconst 0, 1) = true ∧ fp_dq cX6_refuse 11 (.ireturn, 1) = true) ∧ (fp_dq cX6_isLetter 0 (.iload_n 0, 1) = true ∧ fp_dq cX6_isLetter 1 (.bipush 97, 2) = true))) ∧ (((fp_dq cX6_isLetter 3 (.if_icmp .lt 13, 3) = true ∧ fp_dq cX6_isLetter 6 (.iload_n 0, 1) = true) ∧ (fp_dq cX6_isLetter 7 (.bipush 122, 2) = true ∧ fp_dq cX6_isLetter 9 (.if_icmp .gt 7, 3) = true)) ∧ ((fp_dq cX6_isLetter 12 (.iconst 1, 1) = true ∧ fp_dq cX6_isLetter 13 (.goto 4, 3) = true) ∧ (fp_dq cX6_isLetter 16 (.iconst 0, 1) = true ∧ fp_dq cX6_isLetter 17 (.ireturn, 1) = true))))) := by decide +kernel
theorem dX6_readText_80 : decode cX6_readText 80 = .ok (.aload_n 0, 1) := fp_dk fp_hdX6_readText_80.1.1.1.1.1
theorem dX6_readText_81 : decode cX6_readText 81 = .ok (.invokevirtual 67, 3) := fp_dk fp_hdX6_readText_80.1.1.1.1.2
theorem dX6_readText_84 : decode cX6_readText 84 = .ok (.ifCond .ne 6, 3) := fp_dk fp_hdX6_readText_80.1.1.1.2.1
theorem dX6_readText_87 : decode cX6_readText 87 = .ok (.goto 12, 3) := fp_dk fp_hdX6_readText_80.1.1.1.2.2
theorem dX6_readText_90 : decode cX6_readText 90 = .ok (.iinc 3 1, 3) := fp_dk fp_hdX6_readText_80.1.1.2.1.1
theorem dX6_readText_93 : decode cX6_readText 93 = .ok (.iinc 4 1, 3) := fp_dk fp_hdX6_readText_80.1.1.2.1.2
theorem dX6_readText_96 : decode cX6_readText 96 = .ok (.goto (-39), 3) := fp_dk fp_hdX6_readText_80.1.1.2.2.1
theorem dX6_readText_99 : decode cX6_readText 99 = .ok (.aload_n 0, 1) := fp_dk fp_hdX6_readText_80.1.1.2.2.2
theorem dX6_readText_100 : decode cX6_readText 100 = .ok (.getfield 43, 3) := fp_dk fp_hdX6_readText_80.1.2.1.1.1
theorem dX6_readText_103 : decode cX6_readText 103 = .ok (.ifCond .ne 7, 3) := fp_dk fp_hdX6_readText_80.1.2.1.1.2
theorem dX6_readText_106 : decode cX6_readText 106 = .ok (.aload_n 0, 1) := fp_dk fp_hdX6_readText_80.1.2.1.2.1
theorem dX6_readText_107 : decode cX6_readText 107 = .ok (.invokevirtual 70, 3) := fp_dk fp_hdX6_readText_80.1.2.1.2.2
theorem dX6_readText_110 : decode cX6_readText 110 = .ok (.iload_n 3, 1) := fp_dk fp_hdX6_readText_80.1.2.2.1.1
theorem dX6_readText_111 : decode cX6_readText 111 = .ok (.ireturn, 1) := fp_dk fp_hdX6_readText_80.1.2.2.1.2
theorem dX6_refuse_0 : decode cX6_refuse 0 = .ok (.aload_n 0, 1) := fp_dk fp_hdX6_readText_80.1.2.2.2.1
theorem dX6_refuse_1 : decode cX6_refuse 1 = .ok (.iload_n 1, 1) := fp_dk fp_hdX6_readText_80.1.2.2.2.2
theorem dX6_refuse_2 : decode cX6_refuse 2 = .ok (.putfield 43, 3) := fp_dk fp_hdX6_readText_80.2.1.1.1.1
theorem dX6_refuse_5 : decode cX6_refuse 5 = .ok (.aload_n 0, 1) := fp_dk fp_hdX6_readText_80.2.1.1.1.2
theorem dX6_refuse_6 : decode cX6_refuse 6 = .ok (.iload_n 2, 1) := fp_dk fp_hdX6_readText_80.2.1.1.2.1
theorem dX6_refuse_7 : decode cX6_refuse 7 = .ok (.putfield 73, 3) := fp_dk fp_hdX6_readText_80.2.1.1.2.2
theorem dX6_refuse_10 : decode cX6_refuse 10 = .ok (.iconst 0, 1) := fp_dk fp_hdX6_readText_80.2.1.2.1.1
theorem dX6_refuse_11 : decode cX6_refuse 11 = .ok (.ireturn, 1) := fp_dk fp_hdX6_readText_80.2.1.2.1.2
theorem dX6_isLetter_0 : decode cX6_isLetter 0 = .ok (.iload_n 0, 1) := fp_dk fp_hdX6_readText_80.2.1.2.2.1
theorem dX6_isLetter_1 : decode cX6_isLetter 1 = .ok (.bipush 97, 2) := fp_dk fp_hdX6_readText_80.2.1.2.2.2
theorem dX6_isLetter_3 : decode cX6_isLetter 3 = .ok (.if_icmp .lt 13, 3) := fp_dk fp_hdX6_readText_80.2.2.1.1.1
theorem dX6_isLetter_6 : decode cX6_isLetter 6 = .ok (.iload_n 0, 1) := fp_dk fp_hdX6_readText_80.2.2.1.1.2
theorem dX6_isLetter_7 : decode cX6_isLetter 7 = .ok (.bipush 122, 2) := fp_dk fp_hdX6_readText_80.2.2.1.2.1
theorem dX6_isLetter_9 : decode cX6_isLetter 9 = .ok (.if_icmp .gt 7, 3) := fp_dk fp_hdX6_readText_80.2.2.1.2.2
theorem dX6_isLetter_12 : decode cX6_isLetter 12 = .ok (.iconst 1, 1) := fp_dk fp_hdX6_readText_80.2.2.2.1.1
theorem dX6_isLetter_13 : decode cX6_isLetter 13 = .ok (.goto 4, 3) := fp_dk fp_hdX6_readText_80.2.2.2.1.2
theorem dX6_isLetter_16 : decode cX6_isLetter 16 = .ok (.iconst 0, 1) := fp_dk fp_hdX6_readText_80.2.2.2.2.1
theorem dX6_isLetter_17 : decode cX6_isLetter 17 = .ok (.ireturn, 1) := fp_dk fp_hdX6_readText_80.2.2.2.2.2
theorem fp_hdX6_isFigure_0 : (((((fp_dq cX6_isFigure 0 (.iload_n 0, 1) = true ∧ fp_dq cX6_isFigure 1 (.bipush 48, 2) = true) ∧ (fp_dq cX6_isFigure 3 (.if_icmp .lt 13, 3) = true ∧ fp_dq cX6_isFigure 6 (.iload_n 0, 1) = true)) ∧ ((fp_dq cX6_isFigure 7 (.bipush 57, 2) = true ∧ fp_dq cX6_isFigure 9 (.if_icmp .gt 7, 3) = true) ∧ (fp_dq cX6_isFigure 12 (.iconst 1, 1) = true ∧ fp_dq cX6_isFigure 13 (.goto 4, 3) = true))) ∧ (((fp_dq cX6_isFigure 16 (.iconst 0, 1) = true ∧ fp_dq cX6_isFigure 17 (.ireturn, 1) = true) ∧ (fp_dq cX6_step 0 (.aload_n 0, 1) = true ∧ fp_dq cX6_step 1 (.getfield 40, 3) = true)) ∧ ((fp_dq cX6_step 4 (.aload_n 0, 1) = true ∧ fp_dq cX6_step 5 (.getfield 36, 3) = true) ∧ (fp_dq cX6_step 8 (.if_icmp .ge 30, 3) = true ∧ fp_dq cX6_step 11 (.aload_n 0, 1) = true)))) ∧ ((((fp_dq cX6_step 12 (.getfield 32, 3) = true ∧ fp_dq cX6_step 15 (.aload_n 0, 1) = true) ∧ (fp_dq cX6_step 16 (.getfield 40, 3) = true ∧ fp_dq cX6_step 19 (.baload, 1) = true)) ∧ ((fp_dq cX6_step 20 (.bipush 32, 2) = true ∧ fp_dq cX6_step 22 (.if_icmp .ne 16, 3) = true) ∧ (fp_dq cX6_step 25 (.aload_n 0, 1) = true ∧ fp_dq cX6_step 26 (.dup, 1) = true))) ∧ (((fp_dq cX6_step 27 (.getfield 40, 3) = true ∧ fp_dq cX6_step 30 (.iconst 1, 1) = true) ∧ (fp_dq cX6_step 31 (.iadd, 1) = true ∧ fp_dq cX6_step 32 (.putfield 40, 3) = true)) ∧ ((fp_dq cX6_step 35 (.goto (-35), 3) = true ∧ fp_dq cX6_step 38 (.aload_n 0, 1) = true) ∧ (fp_dq cX6_step 39 (.aload_n 0, 1) = true ∧ fp_dq cX6_step 40 (.getfield 40, 3) = true))))) := by decide +kernel
theorem dX6_isFigure_0 : decode cX6_isFigure 0 = .ok (.iload_n 0, 1) := fp_dk fp_hdX6_isFigure_0.1.1.1.1.1
theorem dX6_isFigure_1 : decode cX6_isFigure 1 = .ok (.bipush 48, 2) := fp_dk fp_hdX6_isFigure_0.1.1.1.1.2
theorem dX6_isFigure_3 : decode cX6_isFigure 3 = .ok (.if_icmp .lt 13, 3) := fp_dk fp_hdX6_isFigure_0.1.1.1.2.1
theorem dX6_isFigure_6 : decode cX6_isFigure 6 = .ok (.iload_n 0, 1) := fp_dk fp_hdX6_isFigure_0.1.1.1.2.2
theorem dX6_isFigure_7 : decode cX6_isFigure 7 = .ok (.bipush 57, 2) := fp_dk fp_hdX6_isFigure_0.1.1.2.1.1
theorem dX6_isFigure_9 : decode cX6_isFigure 9 = .ok (.if_icmp .gt 7, 3) := fp_dk fp_hdX6_isFigure_0.1.1.2.1.2
theorem dX6_isFigure_12 : decode cX6_isFigure 12 = .ok (.iconst 1, 1) := fp_dk fp_hdX6_isFigure_0.1.1.2.2.1
theorem dX6_isFigure_13 : decode cX6_isFigure 13 = .ok (.goto 4, 3) := fp_dk fp_hdX6_isFigure_0.1.1.2.2.2
theorem dX6_isFigure_16 : decode cX6_isFigure 16 = .ok (.iconst 0, 1) := fp_dk fp_hdX6_isFigure_0.1.2.1.1.1
theorem dX6_isFigure_17 : decode cX6_isFigure 17 = .ok (.ireturn, 1) := fp_dk fp_hdX6_isFigure_0.1.2.1.1.2
theorem dX6_step_0 : decode cX6_step 0 = .ok (.aload_n 0, 1) := fp_dk fp_hdX6_isFigure_0.1.2.1.2.1
theorem dX6_step_1 : decode cX6_step 1 = .ok (.getfield 40, 3) := fp_dk fp_hdX6_isFigure_0.1.2.1.2.2
theorem dX6_step_4 : decode cX6_step 4 = .ok (.aload_n 0, 1) := fp_dk fp_hdX6_isFigure_0.1.2.2.1.1
theorem dX6_step_5 : decode cX6_step 5 = .ok (.getfield 36, 3) := fp_dk fp_hdX6_isFigure_0.1.2.2.1.2
theorem dX6_step_8 : decode cX6_step 8 = .ok (.if_icmp .ge 30, 3) := fp_dk fp_hdX6_isFigure_0.1.2.2.2.1
theorem dX6_step_11 : decode cX6_step 11 = .ok (.aload_n 0, 1) := fp_dk fp_hdX6_isFigure_0.1.2.2.2.2
theorem dX6_step_12 : decode cX6_step 12 = .ok (.getfield 32, 3) := fp_dk fp_hdX6_isFigure_0.2.1.1.1.1
theorem dX6_step_15 : decode cX6_step 15 = .ok (.aload_n 0, 1) := fp_dk fp_hdX6_isFigure_0.2.1.1.1.2
theorem dX6_step_16 : decode cX6_step 16 = .ok (.getfield 40, 3) := fp_dk fp_hdX6_isFigure_0.2.1.1.2.1
theorem dX6_step_19 : decode cX6_step 19 = .ok (.baload, 1) := fp_dk fp_hdX6_isFigure_0.2.1.1.2.2
theorem dX6_step_20 : decode cX6_step 20 = .ok (.bipush 32, 2) := fp_dk fp_hdX6_isFigure_0.2.1.2.1.1
theorem dX6_step_22 : decode cX6_step 22 = .ok (.if_icmp .ne 16, 3) := fp_dk fp_hdX6_isFigure_0.2.1.2.1.2
theorem dX6_step_25 : decode cX6_step 25 = .ok (.aload_n 0, 1) := fp_dk fp_hdX6_isFigure_0.2.1.2.2.1
theorem dX6_step_26 : decode cX6_step 26 = .ok (.dup, 1) := fp_dk fp_hdX6_isFigure_0.2.1.2.2.2
theorem dX6_step_27 : decode cX6_step 27 = .ok (.getfield 40, 3) := fp_dk fp_hdX6_isFigure_0.2.2.1.1.1
theorem dX6_step_30 : decode cX6_step 30 = .ok (.iconst 1, 1) := fp_dk fp_hdX6_isFigure_0.2.2.1.1.2
theorem dX6_step_31 : decode cX6_step 31 = .ok (.iadd, 1) := fp_dk fp_hdX6_isFigure_0.2.2.1.2.1
theorem dX6_step_32 : decode cX6_step 32 = .ok (.putfield 40, 3) := fp_dk fp_hdX6_isFigure_0.2.2.1.2.2
theorem dX6_step_35 : decode cX6_step 35 = .ok (.goto (-35), 3) := fp_dk fp_hdX6_isFigure_0.2.2.2.1.1
theorem dX6_step_38 : decode cX6_step 38 = .ok (.aload_n 0, 1) := fp_dk fp_hdX6_isFigure_0.2.2.2.1.2
theorem dX6_step_39 : decode cX6_step 39 = .ok (.aload_n 0, 1) := fp_dk fp_hdX6_isFigure_0.2.2.2.2.1
theorem dX6_step_40 : decode cX6_step 40 = .ok (.getfield 40, 3) := fp_dk fp_hdX6_isFigure_0.2.2.2.2.2
theorem fp_hdX6_step_43 : (((((fp_dq cX6_step 43 (.putfield 76, 3) = true ∧ fp_dq cX6_step 46 (.aload_n 0, 1) = true) ∧ (fp_dq cX6_step 47 (.getfield 40, 3) = true ∧ fp_dq cX6_step 50 (.aload_n 0, 1) = true)) ∧ ((fp_dq cX6_step 51 (.getfield 36, 3) = true ∧ fp_dq cX6_step 54 (.if_icmp .lt 10, 3) = true) ∧ (fp_dq cX6_step 57 (.aload_n 0, 1) = true ∧ fp_dq cX6_step 58 (.iconst 0, 1) = true))) ∧ (((fp_dq cX6_step 59 (.putfield 64, 3) = true ∧ fp_dq cX6_step 62 (.iconst 1, 1) = true) ∧ (fp_dq cX6_step 63 (.ireturn, 1) = true ∧ fp_dq cX6_step 64 (.aload_n 0, 1) = true)) ∧ ((fp_dq cX6_step 65 (.getfield 32, 3) = true ∧ fp_dq cX6_step 68 (.aload_n 0, 1) = true) ∧ (fp_dq cX6_step 69 (.getfield 40, 3) = true ∧ fp_dq cX6_step 72 (.baload, 1) = true)))) ∧ ((((fp_dq cX6_step 73 (.invokestatic 79, 3) = true ∧ fp_dq cX6_step 76 (.ifCond .eq 49, 3) = true) ∧ (fp_dq cX6_step 79 (.aload_n 0, 1) = true ∧ fp_dq cX6_step 80 (.iconst 1, 1) = true)) ∧ ((fp_dq cX6_step 81 (.putfield 64, 3) = true ∧ fp_dq cX6_step 84 (.aload_n 0, 1) = true) ∧ (fp_dq cX6_step 85 (.getfield 40, 3) = true ∧ fp_dq cX6_step 88 (.aload_n 0, 1) = true))) ∧ (((fp_dq cX6_step 89 (.getfield 36, 3) = true ∧ fp_dq cX6_step 92 (.if_icmp .ge 31, 3) = true) ∧ (fp_dq cX6_step 95 (.aload_n 0, 1) = true ∧ fp_dq cX6_step 96 (.getfield 32, 3) = true)) ∧ ((fp_dq cX6_step 99 (.aload_n 0, 1) = true ∧ fp_dq cX6_step 100 (.getfield 40, 3) = true) ∧ (fp_dq cX6_step 103 (.baload, 1) = true ∧ fp_dq cX6_step 104 (.invokestatic 79, 3) = true))))) := by decide +kernel
theorem dX6_step_43 : decode cX6_step 43 = .ok (.putfield 76, 3) := fp_dk fp_hdX6_step_43.1.1.1.1.1
theorem dX6_step_46 : decode cX6_step 46 = .ok (.aload_n 0, 1) := fp_dk fp_hdX6_step_43.1.1.1.1.2
theorem dX6_step_47 : decode cX6_step 47 = .ok (.getfield 40, 3) := fp_dk fp_hdX6_step_43.1.1.1.2.1
theorem dX6_step_50 : decode cX6_step 50 = .ok (.aload_n 0, 1) := fp_dk fp_hdX6_step_43.1.1.1.2.2
theorem dX6_step_51 : decode cX6_step 51 = .ok (.getfield 36, 3) := fp_dk fp_hdX6_step_43.1.1.2.1.1
theorem dX6_step_54 : decode cX6_step 54 = .ok (.if_icmp .lt 10, 3) := fp_dk fp_hdX6_step_43.1.1.2.1.2
theorem dX6_step_57 : decode cX6_step 57 = .ok (.aload_n 0, 1) := fp_dk fp_hdX6_step_43.1.1.2.2.1
theorem dX6_step_58 : decode cX6_step 58 = .ok (.iconst 0, 1) := fp_dk fp_hdX6_step_43.1.1.2.2.2
theorem dX6_step_59 : decode cX6_step 59 = .ok (.putfield 64, 3) := fp_dk fp_hdX6_step_43.1.2.1.1.1
theorem dX6_step_62 : decode cX6_step 62 = .ok (.iconst 1, 1) := fp_dk fp_hdX6_step_43.1.2.1.1.2
theorem dX6_step_63 : decode cX6_step 63 = .ok (.ireturn, 1) := fp_dk fp_hdX6_step_43.1.2.1.2.1
theorem dX6_step_64 : decode cX6_step 64 = .ok (.aload_n 0, 1) := fp_dk fp_hdX6_step_43.1.2.1.2.2
theorem dX6_step_65 : decode cX6_step 65 = .ok (.getfield 32, 3) := fp_dk fp_hdX6_step_43.1.2.2.1.1
theorem dX6_step_68 : decode cX6_step 68 = .ok (.aload_n 0, 1) := fp_dk fp_hdX6_step_43.1.2.2.1.2
theorem dX6_step_69 : decode cX6_step 69 = .ok (.getfield 40, 3) := fp_dk fp_hdX6_step_43.1.2.2.2.1
theorem dX6_step_72 : decode cX6_step 72 = .ok (.baload, 1) := fp_dk fp_hdX6_step_43.1.2.2.2.2
theorem dX6_step_73 : decode cX6_step 73 = .ok (.invokestatic 79, 3) := fp_dk fp_hdX6_step_43.2.1.1.1.1
theorem dX6_step_76 : decode cX6_step 76 = .ok (.ifCond .eq 49, 3) := fp_dk fp_hdX6_step_43.2.1.1.1.2
theorem dX6_step_79 : decode cX6_step 79 = .ok (.aload_n 0, 1) := fp_dk fp_hdX6_step_43.2.1.1.2.1
theorem dX6_step_80 : decode cX6_step 80 = .ok (.iconst 1, 1) := fp_dk fp_hdX6_step_43.2.1.1.2.2
theorem dX6_step_81 : decode cX6_step 81 = .ok (.putfield 64, 3) := fp_dk fp_hdX6_step_43.2.1.2.1.1
theorem dX6_step_84 : decode cX6_step 84 = .ok (.aload_n 0, 1) := fp_dk fp_hdX6_step_43.2.1.2.1.2
theorem dX6_step_85 : decode cX6_step 85 = .ok (.getfield 40, 3) := fp_dk fp_hdX6_step_43.2.1.2.2.1
theorem dX6_step_88 : decode cX6_step 88 = .ok (.aload_n 0, 1) := fp_dk fp_hdX6_step_43.2.1.2.2.2
theorem dX6_step_89 : decode cX6_step 89 = .ok (.getfield 36, 3) := fp_dk fp_hdX6_step_43.2.2.1.1.1
theorem dX6_step_92 : decode cX6_step 92 = .ok (.if_icmp .ge 31, 3) := fp_dk fp_hdX6_step_43.2.2.1.1.2
theorem dX6_step_95 : decode cX6_step 95 = .ok (.aload_n 0, 1) := fp_dk fp_hdX6_step_43.2.2.1.2.1
theorem dX6_step_96 : decode cX6_step 96 = .ok (.getfield 32, 3) := fp_dk fp_hdX6_step_43.2.2.1.2.2
theorem dX6_step_99 : decode cX6_step 99 = .ok (.aload_n 0, 1) := fp_dk fp_hdX6_step_43.2.2.2.1.1
theorem dX6_step_100 : decode cX6_step 100 = .ok (.getfield 40, 3) := fp_dk fp_hdX6_step_43.2.2.2.1.2
theorem dX6_step_103 : decode cX6_step 103 = .ok (.baload, 1) := fp_dk fp_hdX6_step_43.2.2.2.2.1
theorem dX6_step_104 : decode cX6_step 104 = .ok (.invokestatic 79, 3) := fp_dk fp_hdX6_step_43.2.2.2.2.2
theorem fp_hdX6_step_107 : (((((fp_dq cX6_step 107 (.ifCond .eq 16, 3) = true ∧ fp_dq cX6_step 110 (.aload_n 0, 1) = true) ∧ (fp_dq cX6_step 111 (.dup, 1) = true ∧ fp_dq cX6_step 112 (.getfield 40, 3) = true)) ∧ ((fp_dq cX6_step 115 (.iconst 1, 1) = true ∧ fp_dq cX6_step 116 (.iadd, 1) = true) ∧ (fp_dq cX6_step 117 (.putfield 40, 3) = true ∧ fp_dq cX6_step 120 (.goto (-36), 3) = true))) ∧ (((fp_dq cX6_step 123 (.iconst 1, 1) = true ∧ fp_dq cX6_step 124 (.ireturn, 1) = true) ∧ (fp_dq cX6_step 125 (.aload_n 0, 1) = true ∧ fp_dq cX6_step 126 (.getfield 32, 3) = true)) ∧ ((fp_dq cX6_step 129 (.aload_n 0, 1) = true ∧ fp_dq cX6_step 130 (.getfield 40, 3) = true) ∧ (fp_dq cX6_step 133 (.baload, 1) = true ∧ fp_dq cX6_step 134 (.invokestatic 83, 3) = true)))) ∧ ((((fp_dq cX6_step 137 (.ifCond .eq 107, 3) = true ∧ fp_dq cX6_step 140 (.aload_n 0, 1) = true) ∧ (fp_dq cX6_step 141 (.iconst 2, 1) = true ∧ fp_dq cX6_step 142 (.putfield 64, 3) = true)) ∧ ((fp_dq cX6_step 145 (.aload_n 0, 1) = true ∧ fp_dq cX6_step 146 (.iconst 0, 1) = true) ∧ (fp_dq cX6_step 147 (.putfield 86, 3) = true ∧ fp_dq cX6_step 150 (.aload_n 0, 1) = true))) ∧ (((fp_dq cX6_step 151 (.getfield 40, 3) = true ∧ fp_dq cX6_step 154 (.aload_n 0, 1) = true) ∧ (fp_dq cX6_step 155 (.getfield 36, 3) = true ∧ fp_dq cX6_step 158 (.if_icmp .ge 55, 3) = true)) ∧ ((fp_dq cX6_step 161 (.aload_n 0, 1) = true ∧ fp_dq cX6_step 162 (.getfield 32, 3) = true) ∧ (fp_dq cX6_step 165 (.aload_n 0, 1) = true ∧ fp_dq cX6_step 166 (.getfield 40, 3) = true))))) := by decide +kernel
theorem dX6_step_107 : decode cX6_step 107 = .ok (.ifCond .eq 16, 3) := fp_dk fp_hdX6_step_107.1.1.1.1.1
theorem dX6_step_110 : decode cX6_step 110 = .ok (.aload_n 0, 1) := fp_dk fp_hdX6_step_107.1.1.1.1.2
theorem dX6_step_111 : decode cX6_step 111 = .ok (.dup, 1) := fp_dk fp_hdX6_step_107.1.1.1.2.1
theorem dX6_step_112 : decode cX6_step 112 = .ok (.getfield 40, 3) := fp_dk fp_hdX6_step_107.1.1.1.2.2
theorem dX6_step_115 : decode cX6_step 115 = .ok (.iconst 1, 1) := fp_dk fp_hdX6_step_107.1.1.2.1.1
theorem dX6_step_116 : decode cX6_step 116 = .ok (.iadd, 1) := fp_dk fp_hdX6_step_107.1.1.2.1.2
theorem dX6_step_117 : decode cX6_step 117 = .ok (.putfield 40, 3) := fp_dk fp_hdX6_step_107.1.1.2.2.1
theorem dX6_step_120 : decode cX6_step 120 = .ok (.goto (-36), 3) := fp_dk fp_hdX6_step_107.1.1.2.2.2
theorem dX6_step_123 : decode cX6_step 123 = .ok (.iconst 1, 1) := fp_dk fp_hdX6_step_107.1.2.1.1.1
theorem dX6_step_124 : decode cX6_step 124 = .ok (.ireturn, 1) := fp_dk fp_hdX6_step_107.1.2.1.1.2
theorem dX6_step_125 : decode cX6_step 125 = .ok (.aload_n 0, 1) := fp_dk fp_hdX6_step_107.1.2.1.2.1
theorem dX6_step_126 : decode cX6_step 126 = .ok (.getfield 32, 3) := fp_dk fp_hdX6_step_107.1.2.1.2.2
theorem dX6_step_129 : decode cX6_step 129 = .ok (.aload_n 0, 1) := fp_dk fp_hdX6_step_107.1.2.2.1.1
theorem dX6_step_130 : decode cX6_step 130 = .ok (.getfield 40, 3) := fp_dk fp_hdX6_step_107.1.2.2.1.2
theorem dX6_step_133 : decode cX6_step 133 = .ok (.baload, 1) := fp_dk fp_hdX6_step_107.1.2.2.2.1
theorem dX6_step_134 : decode cX6_step 134 = .ok (.invokestatic 83, 3) := fp_dk fp_hdX6_step_107.1.2.2.2.2
theorem dX6_step_137 : decode cX6_step 137 = .ok (.ifCond .eq 107, 3) := fp_dk fp_hdX6_step_107.2.1.1.1.1
theorem dX6_step_140 : decode cX6_step 140 = .ok (.aload_n 0, 1) := fp_dk fp_hdX6_step_107.2.1.1.1.2
theorem dX6_step_141 : decode cX6_step 141 = .ok (.iconst 2, 1) := fp_dk fp_hdX6_step_107.2.1.1.2.1
theorem dX6_step_142 : decode cX6_step 142 = .ok (.putfield 64, 3) := fp_dk fp_hdX6_step_107.2.1.1.2.2
theorem dX6_step_145 : decode cX6_step 145 = .ok (.aload_n 0, 1) := fp_dk fp_hdX6_step_107.2.1.2.1.1
theorem dX6_step_146 : decode cX6_step 146 = .ok (.iconst 0, 1) := fp_dk fp_hdX6_step_107.2.1.2.1.2
theorem dX6_step_147 : decode cX6_step 147 = .ok (.putfield 86, 3) := fp_dk fp_hdX6_step_107.2.1.2.2.1
theorem dX6_step_150 : decode cX6_step 150 = .ok (.aload_n 0, 1) := fp_dk fp_hdX6_step_107.2.1.2.2.2
theorem dX6_step_151 : decode cX6_step 151 = .ok (.getfield 40, 3) := fp_dk fp_hdX6_step_107.2.2.1.1.1
theorem dX6_step_154 : decode cX6_step 154 = .ok (.aload_n 0, 1) := fp_dk fp_hdX6_step_107.2.2.1.1.2
theorem dX6_step_155 : decode cX6_step 155 = .ok (.getfield 36, 3) := fp_dk fp_hdX6_step_107.2.2.1.2.1
theorem dX6_step_158 : decode cX6_step 158 = .ok (.if_icmp .ge 55, 3) := fp_dk fp_hdX6_step_107.2.2.1.2.2
theorem dX6_step_161 : decode cX6_step 161 = .ok (.aload_n 0, 1) := fp_dk fp_hdX6_step_107.2.2.2.1.1
theorem dX6_step_162 : decode cX6_step 162 = .ok (.getfield 32, 3) := fp_dk fp_hdX6_step_107.2.2.2.1.2
theorem dX6_step_165 : decode cX6_step 165 = .ok (.aload_n 0, 1) := fp_dk fp_hdX6_step_107.2.2.2.2.1
theorem dX6_step_166 : decode cX6_step 166 = .ok (.getfield 40, 3) := fp_dk fp_hdX6_step_107.2.2.2.2.2
theorem fp_hdX6_step_169 : (((((fp_dq cX6_step 169 (.baload, 1) = true ∧ fp_dq cX6_step 170 (.invokestatic 83, 3) = true) ∧ (fp_dq cX6_step 173 (.ifCond .eq 40, 3) = true ∧ fp_dq cX6_step 176 (.aload_n 0, 1) = true)) ∧ ((fp_dq cX6_step 177 (.aload_n 0, 1) = true ∧ fp_dq cX6_step 178 (.getfield 86, 3) = true) ∧ (fp_dq cX6_step 181 (.bipush 10, 2) = true ∧ fp_dq cX6_step 183 (.imul, 1) = true))) ∧ (((fp_dq cX6_step 184 (.aload_n 0, 1) = true ∧ fp_dq cX6_step 185 (.getfield 32, 3) = true) ∧ (fp_dq cX6_step 188 (.aload_n 0, 1) = true ∧ fp_dq cX6_step 189 (.getfield 40, 3) = true)) ∧ ((fp_dq cX6_step 192 (.baload, 1) = true ∧ fp_dq cX6_step 193 (.iadd, 1) = true) ∧ (fp_dq cX6_step 194 (.bipush 48, 2) = true ∧ fp_dq cX6_step 196 (.isub, 1) = true)))) ∧ ((((fp_dq cX6_step 197 (.putfield 86, 3) = true ∧ fp_dq cX6_step 200 (.aload_n 0, 1) = true) ∧ (fp_dq cX6_step 201 (.dup, 1) = true ∧ fp_dq cX6_step 202 (.getfield 40, 3) = true)) ∧ ((fp_dq cX6_step 205 (.iconst 1, 1) = true ∧ fp_dq cX6_step 206 (.iadd, 1) = true) ∧ (fp_dq cX6_step 207 (.putfield 40, 3) = true ∧ fp_dq cX6_step 210 (.goto (-60), 3) = true))) ∧ (((fp_dq cX6_step 213 (.aload_n 0, 1) = true ∧ fp_dq cX6_step 214 (.getfield 40, 3) = true) ∧ (fp_dq cX6_step 217 (.aload_n 0, 1) = true ∧ fp_dq cX6_step 218 (.getfield 76, 3) = true)) ∧ ((fp_dq cX6_step 221 (.isub, 1) = true ∧ fp_dq cX6_step 222 (.iconst 2, 1) = true) ∧ (fp_dq cX6_step 223 (.if_icmp .le 15, 3) = true ∧ fp_dq cX6_step 226 (.aload_n 0, 1) = true))))) := by decide +kernel
theorem dX6_step_169 : decode cX6_step 169 = .ok (.baload, 1) := fp_dk fp_hdX6_step_169.1.1.1.1.1
theorem dX6_step_170 : decode cX6_step 170 = .ok (.invokestatic 83, 3) := fp_dk fp_hdX6_step_169.1.1.1.1.2
theorem dX6_step_173 : decode cX6_step 173 = .ok (.ifCond .eq 40, 3) := fp_dk fp_hdX6_step_169.1.1.1.2.1
theorem dX6_step_176 : decode cX6_step 176 = .ok (.aload_n 0, 1) := fp_dk fp_hdX6_step_169.1.1.1.2.2
theorem dX6_step_177 : decode cX6_step 177 = .ok (.aload_n 0, 1) := fp_dk fp_hdX6_step_169.1.1.2.1.1
theorem dX6_step_178 : decode cX6_step 178 = .ok (.getfield 86, 3) := fp_dk fp_hdX6_step_169.1.1.2.1.2
theorem dX6_step_181 : decode cX6_step 181 = .ok (.bipush 10, 2) := fp_dk fp_hdX6_step_169.1.1.2.2.1
theorem dX6_step_183 : decode cX6_step 183 = .ok (.imul, 1) := fp_dk fp_hdX6_step_169.1.1.2.2.2
theorem dX6_step_184 : decode cX6_step 184 = .ok (.aload_n 0, 1) := fp_dk fp_hdX6_step_169.1.2.1.1.1
theorem dX6_step_185 : decode cX6_step 185 = .ok (.getfield 32, 3) := fp_dk fp_hdX6_step_169.1.2.1.1.2
theorem dX6_step_188 : decode cX6_step 188 = .ok (.aload_n 0, 1) := fp_dk fp_hdX6_step_169.1.2.1.2.1
theorem dX6_step_189 : decode cX6_step 189 = .ok (.getfield 40, 3) := fp_dk fp_hdX6_step_169.1.2.1.2.2
theorem dX6_step_192 : decode cX6_step 192 = .ok (.baload, 1) := fp_dk fp_hdX6_step_169.1.2.2.1.1
theorem dX6_step_193 : decode cX6_step 193 = .ok (.iadd, 1) := fp_dk fp_hdX6_step_169.1.2.2.1.2
theorem dX6_step_194 : decode cX6_step 194 = .ok (.bipush 48, 2) := fp_dk fp_hdX6_step_169.1.2.2.2.1
theorem dX6_step_196 : decode cX6_step 196 = .ok (.isub, 1) := fp_dk fp_hdX6_step_169.1.2.2.2.2
theorem dX6_step_197 : decode cX6_step 197 = .ok (.putfield 86, 3) := fp_dk fp_hdX6_step_169.2.1.1.1.1
theorem dX6_step_200 : decode cX6_step 200 = .ok (.aload_n 0, 1) := fp_dk fp_hdX6_step_169.2.1.1.1.2
theorem dX6_step_201 : decode cX6_step 201 = .ok (.dup, 1) := fp_dk fp_hdX6_step_169.2.1.1.2.1
theorem dX6_step_202 : decode cX6_step 202 = .ok (.getfield 40, 3) := fp_dk fp_hdX6_step_169.2.1.1.2.2
theorem dX6_step_205 : decode cX6_step 205 = .ok (.iconst 1, 1) := fp_dk fp_hdX6_step_169.2.1.2.1.1
theorem dX6_step_206 : decode cX6_step 206 = .ok (.iadd, 1) := fp_dk fp_hdX6_step_169.2.1.2.1.2
theorem dX6_step_207 : decode cX6_step 207 = .ok (.putfield 40, 3) := fp_dk fp_hdX6_step_169.2.1.2.2.1
theorem dX6_step_210 : decode cX6_step 210 = .ok (.goto (-60), 3) := fp_dk fp_hdX6_step_169.2.1.2.2.2
theorem dX6_step_213 : decode cX6_step 213 = .ok (.aload_n 0, 1) := fp_dk fp_hdX6_step_169.2.2.1.1.1
theorem dX6_step_214 : decode cX6_step 214 = .ok (.getfield 40, 3) := fp_dk fp_hdX6_step_169.2.2.1.1.2
theorem dX6_step_217 : decode cX6_step 217 = .ok (.aload_n 0, 1) := fp_dk fp_hdX6_step_169.2.2.1.2.1
theorem dX6_step_218 : decode cX6_step 218 = .ok (.getfield 76, 3) := fp_dk fp_hdX6_step_169.2.2.1.2.2
theorem dX6_step_221 : decode cX6_step 221 = .ok (.isub, 1) := fp_dk fp_hdX6_step_169.2.2.2.1.1
theorem dX6_step_222 : decode cX6_step 222 = .ok (.iconst 2, 1) := fp_dk fp_hdX6_step_169.2.2.2.1.2
theorem dX6_step_223 : decode cX6_step 223 = .ok (.if_icmp .le 15, 3) := fp_dk fp_hdX6_step_169.2.2.2.2.1
theorem dX6_step_226 : decode cX6_step 226 = .ok (.aload_n 0, 1) := fp_dk fp_hdX6_step_169.2.2.2.2.2
theorem fp_hdX6_step_227 : (((((fp_dq cX6_step 227 (.iconst 1, 1) = true ∧ fp_dq cX6_step 228 (.aload_n 0, 1) = true) ∧ (fp_dq cX6_step 229 (.getfield 76, 3) = true ∧ fp_dq cX6_step 232 (.invokevirtual 89, 3) = true)) ∧ ((fp_dq cX6_step 235 (.ifCond .eq 7, 3) = true ∧ fp_dq cX6_step 238 (.iconst 1, 1) = true) ∧ (fp_dq cX6_step 239 (.goto 4, 3) = true ∧ fp_dq cX6_step 242 (.iconst 0, 1) = true))) ∧ (((fp_dq cX6_step 243 (.ireturn, 1) = true ∧ fp_dq cX6_step 244 (.aload_n 0, 1) = true) ∧ (fp_dq cX6_step 245 (.iconst 3, 1) = true ∧ fp_dq cX6_step 246 (.putfield 64, 3) = true)) ∧ ((fp_dq cX6_step 249 (.aload_n 0, 1) = true ∧ fp_dq cX6_step 250 (.dup, 1) = true) ∧ (fp_dq cX6_step 251 (.getfield 40, 3) = true ∧ fp_dq cX6_step 254 (.iconst 1, 1) = true)))) ∧ ((((fp_dq cX6_step 255 (.iadd, 1) = true ∧ fp_dq cX6_step 256 (.putfield 40, 3) = true) ∧ (fp_dq cX6_step 259 (.aload_n 0, 1) = true ∧ fp_dq cX6_step 260 (.getfield 32, 3) = true)) ∧ ((fp_dq cX6_step 263 (.aload_n 0, 1) = true ∧ fp_dq cX6_step 264 (.getfield 76, 3) = true) ∧ (fp_dq cX6_step 267 (.baload, 1) = true ∧ fp_dq cX6_step 268 (.bipush 59, 2) = true))) ∧ (((fp_dq cX6_step 270 (.if_icmp .eq 15, 3) = true ∧ fp_dq cX6_step 273 (.aload_n 0, 1) = true) ∧ (fp_dq cX6_step 274 (.iconst 1, 1) = true ∧ fp_dq cX6_step 275 (.aload_n 0, 1) = true)) ∧ ((fp_dq cX6_step 276 (.getfield 76, 3) = true ∧ fp_dq cX6_step 279 (.invokevirtual 89, 3) = true) ∧ (fp_dq cX6_step 282 (.ifCond .eq 7, 3) = true ∧ fp_dq cX6_step 285 (.iconst 1, 1) = true))))) := by decide +kernel
theorem dX6_step_227 : decode cX6_step 227 = .ok (.iconst 1, 1) := fp_dk fp_hdX6_step_227.1.1.1.1.1
theorem dX6_step_228 : decode cX6_step 228 = .ok (.aload_n 0, 1) := fp_dk fp_hdX6_step_227.1.1.1.1.2
theorem dX6_step_229 : decode cX6_step 229 = .ok (.getfield 76, 3) := fp_dk fp_hdX6_step_227.1.1.1.2.1
theorem dX6_step_232 : decode cX6_step 232 = .ok (.invokevirtual 89, 3) := fp_dk fp_hdX6_step_227.1.1.1.2.2
theorem dX6_step_235 : decode cX6_step 235 = .ok (.ifCond .eq 7, 3) := fp_dk fp_hdX6_step_227.1.1.2.1.1
theorem dX6_step_238 : decode cX6_step 238 = .ok (.iconst 1, 1) := fp_dk fp_hdX6_step_227.1.1.2.1.2
theorem dX6_step_239 : decode cX6_step 239 = .ok (.goto 4, 3) := fp_dk fp_hdX6_step_227.1.1.2.2.1
theorem dX6_step_242 : decode cX6_step 242 = .ok (.iconst 0, 1) := fp_dk fp_hdX6_step_227.1.1.2.2.2
theorem dX6_step_243 : decode cX6_step 243 = .ok (.ireturn, 1) := fp_dk fp_hdX6_step_227.1.2.1.1.1
theorem dX6_step_244 : decode cX6_step 244 = .ok (.aload_n 0, 1) := fp_dk fp_hdX6_step_227.1.2.1.1.2
theorem dX6_step_245 : decode cX6_step 245 = .ok (.iconst 3, 1) := fp_dk fp_hdX6_step_227.1.2.1.2.1
theorem dX6_step_246 : decode cX6_step 246 = .ok (.putfield 64, 3) := fp_dk fp_hdX6_step_227.1.2.1.2.2
theorem dX6_step_249 : decode cX6_step 249 = .ok (.aload_n 0, 1) := fp_dk fp_hdX6_step_227.1.2.2.1.1
theorem dX6_step_250 : decode cX6_step 250 = .ok (.dup, 1) := fp_dk fp_hdX6_step_227.1.2.2.1.2
theorem dX6_step_251 : decode cX6_step 251 = .ok (.getfield 40, 3) := fp_dk fp_hdX6_step_227.1.2.2.2.1
theorem dX6_step_254 : decode cX6_step 254 = .ok (.iconst 1, 1) := fp_dk fp_hdX6_step_227.1.2.2.2.2
theorem dX6_step_255 : decode cX6_step 255 = .ok (.iadd, 1) := fp_dk fp_hdX6_step_227.2.1.1.1.1
theorem dX6_step_256 : decode cX6_step 256 = .ok (.putfield 40, 3) := fp_dk fp_hdX6_step_227.2.1.1.1.2
theorem dX6_step_259 : decode cX6_step 259 = .ok (.aload_n 0, 1) := fp_dk fp_hdX6_step_227.2.1.1.2.1
theorem dX6_step_260 : decode cX6_step 260 = .ok (.getfield 32, 3) := fp_dk fp_hdX6_step_227.2.1.1.2.2
theorem dX6_step_263 : decode cX6_step 263 = .ok (.aload_n 0, 1) := fp_dk fp_hdX6_step_227.2.1.2.1.1
theorem dX6_step_264 : decode cX6_step 264 = .ok (.getfield 76, 3) := fp_dk fp_hdX6_step_227.2.1.2.1.2
theorem dX6_step_267 : decode cX6_step 267 = .ok (.baload, 1) := fp_dk fp_hdX6_step_227.2.1.2.2.1
theorem dX6_step_268 : decode cX6_step 268 = .ok (.bipush 59, 2) := fp_dk fp_hdX6_step_227.2.1.2.2.2
theorem dX6_step_270 : decode cX6_step 270 = .ok (.if_icmp .eq 15, 3) := fp_dk fp_hdX6_step_227.2.2.1.1.1
theorem dX6_step_273 : decode cX6_step 273 = .ok (.aload_n 0, 1) := fp_dk fp_hdX6_step_227.2.2.1.1.2
theorem dX6_step_274 : decode cX6_step 274 = .ok (.iconst 1, 1) := fp_dk fp_hdX6_step_227.2.2.1.2.1
theorem dX6_step_275 : decode cX6_step 275 = .ok (.aload_n 0, 1) := fp_dk fp_hdX6_step_227.2.2.1.2.2
theorem dX6_step_276 : decode cX6_step 276 = .ok (.getfield 76, 3) := fp_dk fp_hdX6_step_227.2.2.2.1.1
theorem dX6_step_279 : decode cX6_step 279 = .ok (.invokevirtual 89, 3) := fp_dk fp_hdX6_step_227.2.2.2.1.2
theorem dX6_step_282 : decode cX6_step 282 = .ok (.ifCond .eq 7, 3) := fp_dk fp_hdX6_step_227.2.2.2.2.1
theorem dX6_step_285 : decode cX6_step 285 = .ok (.iconst 1, 1) := fp_dk fp_hdX6_step_227.2.2.2.2.2
theorem fp_hdX6_step_286 : (((((fp_dq cX6_step 286 (.goto 4, 3) = true ∧ fp_dq cX6_step 289 (.iconst 0, 1) = true) ∧ (fp_dq cX6_step 290 (.ireturn, 1) = true ∧ fp_dq cX6_isWord 0 (.aload_n 0, 1) = true)) ∧ ((fp_dq cX6_isWord 1 (.getfield 64, 3) = true ∧ fp_dq cX6_isWord 4 (.iconst 1, 1) = true) ∧ (fp_dq cX6_isWord 5 (.if_icmp .ne 19, 3) = true ∧ fp_dq cX6_isWord 8 (.aload_n 0, 1) = true))) ∧ (((fp_dq cX6_isWord 9 (.getfield 40, 3) = true ∧ fp_dq cX6_isWord 12 (.aload_n 0, 1) = true) ∧ (fp_dq cX6_isWord 13 (.getfield 76, 3) = true ∧ fp_dq cX6_isWord 16 (.isub, 1) = true)) ∧ ((fp_dq cX6_isWord 17 (.aload_n 1, 1) = true ∧ fp_dq cX6_isWord 18 (.invokevirtual 93, 3) = true) ∧ (fp_dq cX6_isWord 21 (.if_icmp .eq 5, 3) = true ∧ fp_dq cX6_isWord 24 (.iconst 0, 1) = true)))) ∧ ((((fp_dq cX6_isWord 25 (.ireturn, 1) = true ∧ fp_dq cX6_isWord 26 (.iconst 0, 1) = true) ∧ (fp_dq cX6_isWord 27 (.istore_n 2, 1) = true ∧ fp_dq cX6_isWord 28 (.iload_n 2, 1) = true)) ∧ ((fp_dq cX6_isWord 29 (.aload_n 1, 1) = true ∧ fp_dq cX6_isWord 30 (.invokevirtual 93, 3) = true) ∧ (fp_dq cX6_isWord 33 (.if_icmp .ge 30, 3) = true ∧ fp_dq cX6_isWord 36 (.aload_n 0, 1) = true))) ∧ (((fp_dq cX6_isWord 37 (.getfield 32, 3) = true ∧ fp_dq cX6_isWord 40 (.aload_n 0, 1) = true) ∧ (fp_dq cX6_isWord 41 (.getfield 76, 3) = true ∧ fp_dq cX6_isWord 44 (.iload_n 2, 1) = true)) ∧ ((fp_dq cX6_isWord 45 (.iadd, 1) = true ∧ fp_dq cX6_isWord 46 (.baload, 1) = true) ∧ (fp_dq cX6_isWord 47 (.aload_n 1, 1) = true ∧ fp_dq cX6_isWord 48 (.iload_n 2, 1) = true))))) := by decide +kernel
theorem dX6_step_286 : decode cX6_step 286 = .ok (.goto 4, 3) := fp_dk fp_hdX6_step_286.1.1.1.1.1
theorem dX6_step_289 : decode cX6_step 289 = .ok (.iconst 0, 1) := fp_dk fp_hdX6_step_286.1.1.1.1.2
theorem dX6_step_290 : decode cX6_step 290 = .ok (.ireturn, 1) := fp_dk fp_hdX6_step_286.1.1.1.2.1
theorem dX6_isWord_0 : decode cX6_isWord 0 = .ok (.aload_n 0, 1) := fp_dk fp_hdX6_step_286.1.1.1.2.2
theorem dX6_isWord_1 : decode cX6_isWord 1 = .ok (.getfield 64, 3) := fp_dk fp_hdX6_step_286.1.1.2.1.1
theorem dX6_isWord_4 : decode cX6_isWord 4 = .ok (.iconst 1, 1) := fp_dk fp_hdX6_step_286.1.1.2.1.2
theorem dX6_isWord_5 : decode cX6_isWord 5 = .ok (.if_icmp .ne 19, 3) := fp_dk fp_hdX6_step_286.1.1.2.2.1
theorem dX6_isWord_8 : decode cX6_isWord 8 = .ok (.aload_n 0, 1) := fp_dk fp_hdX6_step_286.1.1.2.2.2
theorem dX6_isWord_9 : decode cX6_isWord 9 = .ok (.getfield 40, 3) := fp_dk fp_hdX6_step_286.1.2.1.1.1
theorem dX6_isWord_12 : decode cX6_isWord 12 = .ok (.aload_n 0, 1) := fp_dk fp_hdX6_step_286.1.2.1.1.2
theorem dX6_isWord_13 : decode cX6_isWord 13 = .ok (.getfield 76, 3) := fp_dk fp_hdX6_step_286.1.2.1.2.1
theorem dX6_isWord_16 : decode cX6_isWord 16 = .ok (.isub, 1) := fp_dk fp_hdX6_step_286.1.2.1.2.2
theorem dX6_isWord_17 : decode cX6_isWord 17 = .ok (.aload_n 1, 1) := fp_dk fp_hdX6_step_286.1.2.2.1.1
theorem dX6_isWord_18 : decode cX6_isWord 18 = .ok (.invokevirtual 93, 3) := fp_dk fp_hdX6_step_286.1.2.2.1.2
theorem dX6_isWord_21 : decode cX6_isWord 21 = .ok (.if_icmp .eq 5, 3) := fp_dk fp_hdX6_step_286.1.2.2.2.1
theorem dX6_isWord_24 : decode cX6_isWord 24 = .ok (.iconst 0, 1) := fp_dk fp_hdX6_step_286.1.2.2.2.2
theorem dX6_isWord_25 : decode cX6_isWord 25 = .ok (.ireturn, 1) := fp_dk fp_hdX6_step_286.2.1.1.1.1
theorem dX6_isWord_26 : decode cX6_isWord 26 = .ok (.iconst 0, 1) := fp_dk fp_hdX6_step_286.2.1.1.1.2
theorem dX6_isWord_27 : decode cX6_isWord 27 = .ok (.istore_n 2, 1) := fp_dk fp_hdX6_step_286.2.1.1.2.1
theorem dX6_isWord_28 : decode cX6_isWord 28 = .ok (.iload_n 2, 1) := fp_dk fp_hdX6_step_286.2.1.1.2.2
theorem dX6_isWord_29 : decode cX6_isWord 29 = .ok (.aload_n 1, 1) := fp_dk fp_hdX6_step_286.2.1.2.1.1
theorem dX6_isWord_30 : decode cX6_isWord 30 = .ok (.invokevirtual 93, 3) := fp_dk fp_hdX6_step_286.2.1.2.1.2
theorem dX6_isWord_33 : decode cX6_isWord 33 = .ok (.if_icmp .ge 30, 3) := fp_dk fp_hdX6_step_286.2.1.2.2.1
theorem dX6_isWord_36 : decode cX6_isWord 36 = .ok (.aload_n 0, 1) := fp_dk fp_hdX6_step_286.2.1.2.2.2
theorem dX6_isWord_37 : decode cX6_isWord 37 = .ok (.getfield 32, 3) := fp_dk fp_hdX6_step_286.2.2.1.1.1
theorem dX6_isWord_40 : decode cX6_isWord 40 = .ok (.aload_n 0, 1) := fp_dk fp_hdX6_step_286.2.2.1.1.2
theorem dX6_isWord_41 : decode cX6_isWord 41 = .ok (.getfield 76, 3) := fp_dk fp_hdX6_step_286.2.2.1.2.1
theorem dX6_isWord_44 : decode cX6_isWord 44 = .ok (.iload_n 2, 1) := fp_dk fp_hdX6_step_286.2.2.1.2.2
theorem dX6_isWord_45 : decode cX6_isWord 45 = .ok (.iadd, 1) := fp_dk fp_hdX6_step_286.2.2.2.1.1
theorem dX6_isWord_46 : decode cX6_isWord 46 = .ok (.baload, 1) := fp_dk fp_hdX6_step_286.2.2.2.1.2
theorem dX6_isWord_47 : decode cX6_isWord 47 = .ok (.aload_n 1, 1) := fp_dk fp_hdX6_step_286.2.2.2.2.1
theorem dX6_isWord_48 : decode cX6_isWord 48 = .ok (.iload_n 2, 1) := fp_dk fp_hdX6_step_286.2.2.2.2.2
theorem fp_hdX6_isWord_49 : (((((fp_dq cX6_isWord 49 (.invokevirtual 98, 3) = true ∧ fp_dq cX6_isWord 52 (.if_icmp .eq 5, 3) = true) ∧ (fp_dq cX6_isWord 55 (.iconst 0, 1) = true ∧ fp_dq cX6_isWord 56 (.ireturn, 1) = true)) ∧ ((fp_dq cX6_isWord 57 (.iinc 2 1, 3) = true ∧ fp_dq cX6_isWord 60 (.goto (-32), 3) = true) ∧ (fp_dq cX6_isWord 63 (.iconst 1, 1) = true ∧ fp_dq cX6_isWord 64 (.ireturn, 1) = true))) ∧ (((fp_dq cX6_readLine 0 (.aload_n 0, 1) = true ∧ fp_dq cX6_readLine 1 (.ldc 102, 2) = true) ∧ (fp_dq cX6_readLine 3 (.invokevirtual 104, 3) = true ∧ fp_dq cX6_readLine 6 (.ifCond .eq 8, 3) = true)) ∧ ((fp_dq cX6_readLine 9 (.aload_n 0, 1) = true ∧ fp_dq cX6_readLine 10 (.invokevirtual 108, 3) = true) ∧ (fp_dq cX6_readLine 13 (.ireturn, 1) = true ∧ fp_dq cX6_readLine 14 (.aload_n 0, 1) = true)))) ∧ ((((fp_dq cX6_readLine 15 (.ldc 111, 2) = true ∧ fp_dq cX6_readLine 17 (.invokevirtual 104, 3) = true) ∧ (fp_dq cX6_readLine 20 (.ifCond .eq 8, 3) = true ∧ fp_dq cX6_readLine 23 (.aload_n 0, 1) = true)) ∧ ((fp_dq cX6_readLine 24 (.invokevirtual 113, 3) = true ∧ fp_dq cX6_readLine 27 (.ireturn, 1) = true) ∧ (fp_dq cX6_readLine 28 (.aload_n 0, 1) = true ∧ fp_dq cX6_readLine 29 (.ldc 116, 2) = true))) ∧ (((fp_dq cX6_readLine 31 (.invokevirtual 104, 3) = true ∧ fp_dq cX6_readLine 34 (.ifCond .eq 9, 3) = true) ∧ (fp_dq cX6_readLine 37 (.aload_n 0, 1) = true ∧ fp_dq cX6_readLine 38 (.iconst 1, 1) = true)) ∧ ((fp_dq cX6_readLine 39 (.invokevirtual 118, 3) = true ∧ fp_dq cX6_readLine 42 (.ireturn, 1) = true) ∧ (fp_dq cX6_readLine 43 (.aload_n 0, 1) = true ∧ fp_dq cX6_readLine 44 (.ldc 122, 2) = true))))) := by decide +kernel
theorem dX6_isWord_49 : decode cX6_isWord 49 = .ok (.invokevirtual 98, 3) := fp_dk fp_hdX6_isWord_49.1.1.1.1.1
theorem dX6_isWord_52 : decode cX6_isWord 52 = .ok (.if_icmp .eq 5, 3) := fp_dk fp_hdX6_isWord_49.1.1.1.1.2
theorem dX6_isWord_55 : decode cX6_isWord 55 = .ok (.iconst 0, 1) := fp_dk fp_hdX6_isWord_49.1.1.1.2.1
theorem dX6_isWord_56 : decode cX6_isWord 56 = .ok (.ireturn, 1) := fp_dk fp_hdX6_isWord_49.1.1.1.2.2
theorem dX6_isWord_57 : decode cX6_isWord 57 = .ok (.iinc 2 1, 3) := fp_dk fp_hdX6_isWord_49.1.1.2.1.1
theorem dX6_isWord_60 : decode cX6_isWord 60 = .ok (.goto (-32), 3) := fp_dk fp_hdX6_isWord_49.1.1.2.1.2
theorem dX6_isWord_63 : decode cX6_isWord 63 = .ok (.iconst 1, 1) := fp_dk fp_hdX6_isWord_49.1.1.2.2.1
theorem dX6_isWord_64 : decode cX6_isWord 64 = .ok (.ireturn, 1) := fp_dk fp_hdX6_isWord_49.1.1.2.2.2
theorem dX6_readLine_0 : decode cX6_readLine 0 = .ok (.aload_n 0, 1) := fp_dk fp_hdX6_isWord_49.1.2.1.1.1
theorem dX6_readLine_1 : decode cX6_readLine 1 = .ok (.ldc 102, 2) := fp_dk fp_hdX6_isWord_49.1.2.1.1.2
theorem dX6_readLine_3 : decode cX6_readLine 3 = .ok (.invokevirtual 104, 3) := fp_dk fp_hdX6_isWord_49.1.2.1.2.1
theorem dX6_readLine_6 : decode cX6_readLine 6 = .ok (.ifCond .eq 8, 3) := fp_dk fp_hdX6_isWord_49.1.2.1.2.2
theorem dX6_readLine_9 : decode cX6_readLine 9 = .ok (.aload_n 0, 1) := fp_dk fp_hdX6_isWord_49.1.2.2.1.1
theorem dX6_readLine_10 : decode cX6_readLine 10 = .ok (.invokevirtual 108, 3) := fp_dk fp_hdX6_isWord_49.1.2.2.1.2
theorem dX6_readLine_13 : decode cX6_readLine 13 = .ok (.ireturn, 1) := fp_dk fp_hdX6_isWord_49.1.2.2.2.1
theorem dX6_readLine_14 : decode cX6_readLine 14 = .ok (.aload_n 0, 1) := fp_dk fp_hdX6_isWord_49.1.2.2.2.2
theorem dX6_readLine_15 : decode cX6_readLine 15 = .ok (.ldc 111, 2) := fp_dk fp_hdX6_isWord_49.2.1.1.1.1
theorem dX6_readLine_17 : decode cX6_readLine 17 = .ok (.invokevirtual 104, 3) := fp_dk fp_hdX6_isWord_49.2.1.1.1.2
theorem dX6_readLine_20 : decode cX6_readLine 20 = .ok (.ifCond .eq 8, 3) := fp_dk fp_hdX6_isWord_49.2.1.1.2.1
theorem dX6_readLine_23 : decode cX6_readLine 23 = .ok (.aload_n 0, 1) := fp_dk fp_hdX6_isWord_49.2.1.1.2.2
theorem dX6_readLine_24 : decode cX6_readLine 24 = .ok (.invokevirtual 113, 3) := fp_dk fp_hdX6_isWord_49.2.1.2.1.1
theorem dX6_readLine_27 : decode cX6_readLine 27 = .ok (.ireturn, 1) := fp_dk fp_hdX6_isWord_49.2.1.2.1.2
theorem dX6_readLine_28 : decode cX6_readLine 28 = .ok (.aload_n 0, 1) := fp_dk fp_hdX6_isWord_49.2.1.2.2.1
theorem dX6_readLine_29 : decode cX6_readLine 29 = .ok (.ldc 116, 2) := fp_dk fp_hdX6_isWord_49.2.1.2.2.2
theorem dX6_readLine_31 : decode cX6_readLine 31 = .ok (.invokevirtual 104, 3) := fp_dk fp_hdX6_isWord_49.2.2.1.1.1
theorem dX6_readLine_34 : decode cX6_readLine 34 = .ok (.ifCond .eq 9, 3) := fp_dk fp_hdX6_isWord_49.2.2.1.1.2
theorem dX6_readLine_37 : decode cX6_readLine 37 = .ok (.aload_n 0, 1) := fp_dk fp_hdX6_isWord_49.2.2.1.2.1
theorem dX6_readLine_38 : decode cX6_readLine 38 = .ok (.iconst 1, 1) := fp_dk fp_hdX6_isWord_49.2.2.1.2.2
theorem dX6_readLine_39 : decode cX6_readLine 39 = .ok (.invokevirtual 118, 3) := fp_dk fp_hdX6_isWord_49.2.2.2.1.1
theorem dX6_readLine_42 : decode cX6_readLine 42 = .ok (.ireturn, 1) := fp_dk fp_hdX6_isWord_49.2.2.2.1.2
theorem dX6_readLine_43 : decode cX6_readLine 43 = .ok (.aload_n 0, 1) := fp_dk fp_hdX6_isWord_49.2.2.2.2.1
theorem dX6_readLine_44 : decode cX6_readLine 44 = .ok (.ldc 122, 2) := fp_dk fp_hdX6_isWord_49.2.2.2.2.2
theorem fp_hdX6_readLine_46 : (((((fp_dq cX6_readLine 46 (.invokevirtual 104, 3) = true ∧ fp_dq cX6_readLine 49 (.ifCond .eq 9, 3) = true) ∧ (fp_dq cX6_readLine 52 (.aload_n 0, 1) = true ∧ fp_dq cX6_readLine 53 (.iconst 0, 1) = true)) ∧ ((fp_dq cX6_readLine 54 (.invokevirtual 118, 3) = true ∧ fp_dq cX6_readLine 57 (.ireturn, 1) = true) ∧ (fp_dq cX6_readLine 58 (.aload_n 0, 1) = true ∧ fp_dq cX6_readLine 59 (.ldc 124, 2) = true))) ∧ (((fp_dq cX6_readLine 61 (.invokevirtual 104, 3) = true ∧ fp_dq cX6_readLine 64 (.ifCond .eq 8, 3) = true) ∧ (fp_dq cX6_readLine 67 (.aload_n 0, 1) = true ∧ fp_dq cX6_readLine 68 (.invokevirtual 126, 3) = true)) ∧ ((fp_dq cX6_readLine 71 (.ireturn, 1) = true ∧ fp_dq cX6_readLine 72 (.aload_n 0, 1) = true) ∧ (fp_dq cX6_readLine 73 (.iconst 2, 1) = true ∧ fp_dq cX6_readLine 74 (.aload_n 0, 1) = true)))) ∧ ((((fp_dq cX6_readLine 75 (.getfield 76, 3) = true ∧ fp_dq cX6_readLine 78 (.invokevirtual 89, 3) = true) ∧ (fp_dq cX6_readLine 81 (.ireturn, 1) = true ∧ fp_dq cX6_readNumber 0 (.aload_n 0, 1) = true)) ∧ ((fp_dq cX6_readNumber 1 (.invokevirtual 60, 3) = true ∧ fp_dq cX6_readNumber 4 (.ifCond .ne 5, 3) = true) ∧ (fp_dq cX6_readNumber 7 (.iconst 0, 1) = true ∧ fp_dq cX6_readNumber 8 (.ireturn, 1) = true))) ∧ (((fp_dq cX6_readNumber 9 (.aload_n 0, 1) = true ∧ fp_dq cX6_readNumber 10 (.getfield 64, 3) = true) ∧ (fp_dq cX6_readNumber 13 (.iconst 2, 1) = true ∧ fp_dq cX6_readNumber 14 (.if_icmp .eq 13, 3) = true)) ∧ ((fp_dq cX6_readNumber 17 (.aload_n 0, 1) = true ∧ fp_dq cX6_readNumber 18 (.iconst 2, 1) = true) ∧ (fp_dq cX6_readNumber 19 (.aload_n 0, 1) = true ∧ fp_dq cX6_readNumber 20 (.getfield 76, 3) = true))))) := by decide +kernel
theorem dX6_readLine_46 : decode cX6_readLine 46 = .ok (.invokevirtual 104, 3) := fp_dk fp_hdX6_readLine_46.1.1.1.1.1
theorem dX6_readLine_49 : decode cX6_readLine 49 = .ok (.ifCond .eq 9, 3) := fp_dk fp_hdX6_readLine_46.1.1.1.1.2
theorem dX6_readLine_52 : decode cX6_readLine 52 = .ok (.aload_n 0, 1) := fp_dk fp_hdX6_readLine_46.1.1.1.2.1
theorem dX6_readLine_53 : decode cX6_readLine 53 = .ok (.iconst 0, 1) := fp_dk fp_hdX6_readLine_46.1.1.1.2.2
theorem dX6_readLine_54 : decode cX6_readLine 54 = .ok (.invokevirtual 118, 3) := fp_dk fp_hdX6_readLine_46.1.1.2.1.1
theorem dX6_readLine_57 : decode cX6_readLine 57 = .ok (.ireturn, 1) := fp_dk fp_hdX6_readLine_46.1.1.2.1.2
theorem dX6_readLine_58 : decode cX6_readLine 58 = .ok (.aload_n 0, 1) := fp_dk fp_hdX6_readLine_46.1.1.2.2.1
theorem dX6_readLine_59 : decode cX6_readLine 59 = .ok (.ldc 124, 2) := fp_dk fp_hdX6_readLine_46.1.1.2.2.2
theorem dX6_readLine_61 : decode cX6_readLine 61 = .ok (.invokevirtual 104, 3) := fp_dk fp_hdX6_readLine_46.1.2.1.1.1
theorem dX6_readLine_64 : decode cX6_readLine 64 = .ok (.ifCond .eq 8, 3) := fp_dk fp_hdX6_readLine_46.1.2.1.1.2
theorem dX6_readLine_67 : decode cX6_readLine 67 = .ok (.aload_n 0, 1) := fp_dk fp_hdX6_readLine_46.1.2.1.2.1
theorem dX6_readLine_68 : decode cX6_readLine 68 = .ok (.invokevirtual 126, 3) := fp_dk fp_hdX6_readLine_46.1.2.1.2.2
theorem dX6_readLine_71 : decode cX6_readLine 71 = .ok (.ireturn, 1) := fp_dk fp_hdX6_readLine_46.1.2.2.1.1
theorem dX6_readLine_72 : decode cX6_readLine 72 = .ok (.aload_n 0, 1) := fp_dk fp_hdX6_readLine_46.1.2.2.1.2
theorem dX6_readLine_73 : decode cX6_readLine 73 = .ok (.iconst 2, 1) := fp_dk fp_hdX6_readLine_46.1.2.2.2.1
theorem dX6_readLine_74 : decode cX6_readLine 74 = .ok (.aload_n 0, 1) := fp_dk fp_hdX6_readLine_46.1.2.2.2.2
theorem dX6_readLine_75 : decode cX6_readLine 75 = .ok (.getfield 76, 3) := fp_dk fp_hdX6_readLine_46.2.1.1.1.1
theorem dX6_readLine_78 : decode cX6_readLine 78 = .ok (.invokevirtual 89, 3) := fp_dk fp_hdX6_readLine_46.2.1.1.1.2
theorem dX6_readLine_81 : decode cX6_readLine 81 = .ok (.ireturn, 1) := fp_dk fp_hdX6_readLine_46.2.1.1.2.1
theorem dX6_readNumber_0 : decode cX6_readNumber 0 = .ok (.aload_n 0, 1) := fp_dk fp_hdX6_readLine_46.2.1.1.2.2
theorem dX6_readNumber_1 : decode cX6_readNumber 1 = .ok (.invokevirtual 60, 3) := fp_dk fp_hdX6_readLine_46.2.1.2.1.1
theorem dX6_readNumber_4 : decode cX6_readNumber 4 = .ok (.ifCond .ne 5, 3) := fp_dk fp_hdX6_readLine_46.2.1.2.1.2
theorem dX6_readNumber_7 : decode cX6_readNumber 7 = .ok (.iconst 0, 1) := fp_dk fp_hdX6_readLine_46.2.1.2.2.1
theorem dX6_readNumber_8 : decode cX6_readNumber 8 = .ok (.ireturn, 1) := fp_dk fp_hdX6_readLine_46.2.1.2.2.2
theorem dX6_readNumber_9 : decode cX6_readNumber 9 = .ok (.aload_n 0, 1) := fp_dk fp_hdX6_readLine_46.2.2.1.1.1
theorem dX6_readNumber_10 : decode cX6_readNumber 10 = .ok (.getfield 64, 3) := fp_dk fp_hdX6_readLine_46.2.2.1.1.2
theorem dX6_readNumber_13 : decode cX6_readNumber 13 = .ok (.iconst 2, 1) := fp_dk fp_hdX6_readLine_46.2.2.1.2.1
theorem dX6_readNumber_14 : decode cX6_readNumber 14 = .ok (.if_icmp .eq 13, 3) := fp_dk fp_hdX6_readLine_46.2.2.1.2.2
theorem dX6_readNumber_17 : decode cX6_readNumber 17 = .ok (.aload_n 0, 1) := fp_dk fp_hdX6_readLine_46.2.2.2.1.1
theorem dX6_readNumber_18 : decode cX6_readNumber 18 = .ok (.iconst 2, 1) := fp_dk fp_hdX6_readLine_46.2.2.2.1.2
theorem dX6_readNumber_19 : decode cX6_readNumber 19 = .ok (.aload_n 0, 1) := fp_dk fp_hdX6_readLine_46.2.2.2.2.1
theorem dX6_readNumber_20 : decode cX6_readNumber 20 = .ok (.getfield 76, 3) := fp_dk fp_hdX6_readLine_46.2.2.2.2.2
theorem fp_hdX6_readNumber_23 : (((((fp_dq cX6_readNumber 23 (.invokevirtual 89, 3) = true ∧ fp_dq cX6_readNumber 26 (.ireturn, 1) = true) ∧ (fp_dq cX6_readNumber 27 (.aload_n 0, 1) = true ∧ fp_dq cX6_readNumber 28 (.getfield 86, 3) = true)) ∧ ((fp_dq cX6_readNumber 31 (.iload_n 1, 1) = true ∧ fp_dq cX6_readNumber 32 (.if_icmp .lt 11, 3) = true) ∧ (fp_dq cX6_readNumber 35 (.aload_n 0, 1) = true ∧ fp_dq cX6_readNumber 36 (.getfield 86, 3) = true))) ∧ (((fp_dq cX6_readNumber 39 (.iload_n 2, 1) = true ∧ fp_dq cX6_readNumber 40 (.if_icmp .le 15, 3) = true) ∧ (fp_dq cX6_readNumber 43 (.aload_n 0, 1) = true ∧ fp_dq cX6_readNumber 44 (.iconst 3, 1) = true)) ∧ ((fp_dq cX6_readNumber 45 (.aload_n 0, 1) = true ∧ fp_dq cX6_readNumber 46 (.getfield 76, 3) = true) ∧ (fp_dq cX6_readNumber 49 (.invokevirtual 89, 3) = true ∧ fp_dq cX6_readNumber 52 (.ifCond .eq 7, 3) = true)))) ∧ ((((fp_dq cX6_readNumber 55 (.iconst 1, 1) = true ∧ fp_dq cX6_readNumber 56 (.goto 4, 3) = true) ∧ (fp_dq cX6_readNumber 59 (.iconst 0, 1) = true ∧ fp_dq cX6_readNumber 60 (.ireturn, 1) = true)) ∧ ((fp_dq cX6_readStop 0 (.aload_n 0, 1) = true ∧ fp_dq cX6_readStop 1 (.invokevirtual 60, 3) = true) ∧ (fp_dq cX6_readStop 4 (.ifCond .eq 27, 3) = true ∧ fp_dq cX6_readStop 7 (.aload_n 0, 1) = true))) ∧ (((fp_dq cX6_readStop 8 (.getfield 64, 3) = true ∧ fp_dq cX6_readStop 11 (.iconst 3, 1) = true) ∧ (fp_dq cX6_readStop 12 (.if_icmp .eq 15, 3) = true ∧ fp_dq cX6_readStop 15 (.aload_n 0, 1) = true)) ∧ ((fp_dq cX6_readStop 16 (.iconst 2, 1) = true ∧ fp_dq cX6_readStop 17 (.aload_n 0, 1) = true) ∧ (fp_dq cX6_readStop 18 (.getfield 76, 3) = true ∧ fp_dq cX6_readStop 21 (.invokevirtual 89, 3) = true))))) := by decide +kernel
theorem dX6_readNumber_23 : decode cX6_readNumber 23 = .ok (.invokevirtual 89, 3) := fp_dk fp_hdX6_readNumber_23.1.1.1.1.1
theorem dX6_readNumber_26 : decode cX6_readNumber 26 = .ok (.ireturn, 1) := fp_dk fp_hdX6_readNumber_23.1.1.1.1.2
theorem dX6_readNumber_27 : decode cX6_readNumber 27 = .ok (.aload_n 0, 1) := fp_dk fp_hdX6_readNumber_23.1.1.1.2.1
theorem dX6_readNumber_28 : decode cX6_readNumber 28 = .ok (.getfield 86, 3) := fp_dk fp_hdX6_readNumber_23.1.1.1.2.2
theorem dX6_readNumber_31 : decode cX6_readNumber 31 = .ok (.iload_n 1, 1) := fp_dk fp_hdX6_readNumber_23.1.1.2.1.1
theorem dX6_readNumber_32 : decode cX6_readNumber 32 = .ok (.if_icmp .lt 11, 3) := fp_dk fp_hdX6_readNumber_23.1.1.2.1.2
theorem dX6_readNumber_35 : decode cX6_readNumber 35 = .ok (.aload_n 0, 1) := fp_dk fp_hdX6_readNumber_23.1.1.2.2.1
theorem dX6_readNumber_36 : decode cX6_readNumber 36 = .ok (.getfield 86, 3) := fp_dk fp_hdX6_readNumber_23.1.1.2.2.2
theorem dX6_readNumber_39 : decode cX6_readNumber 39 = .ok (.iload_n 2, 1) := fp_dk fp_hdX6_readNumber_23.1.2.1.1.1
theorem dX6_readNumber_40 : decode cX6_readNumber 40 = .ok (.if_icmp .le 15, 3) := fp_dk fp_hdX6_readNumber_23.1.2.1.1.2
theorem dX6_readNumber_43 : decode cX6_readNumber 43 = .ok (.aload_n 0, 1) := fp_dk fp_hdX6_readNumber_23.1.2.1.2.1
theorem dX6_readNumber_44 : decode cX6_readNumber 44 = .ok (.iconst 3, 1) := fp_dk fp_hdX6_readNumber_23.1.2.1.2.2
theorem dX6_readNumber_45 : decode cX6_readNumber 45 = .ok (.aload_n 0, 1) := fp_dk fp_hdX6_readNumber_23.1.2.2.1.1
theorem dX6_readNumber_46 : decode cX6_readNumber 46 = .ok (.getfield 76, 3) := fp_dk fp_hdX6_readNumber_23.1.2.2.1.2
theorem dX6_readNumber_49 : decode cX6_readNumber 49 = .ok (.invokevirtual 89, 3) := fp_dk fp_hdX6_readNumber_23.1.2.2.2.1
theorem dX6_readNumber_52 : decode cX6_readNumber 52 = .ok (.ifCond .eq 7, 3) := fp_dk fp_hdX6_readNumber_23.1.2.2.2.2
theorem dX6_readNumber_55 : decode cX6_readNumber 55 = .ok (.iconst 1, 1) := fp_dk fp_hdX6_readNumber_23.2.1.1.1.1
theorem dX6_readNumber_56 : decode cX6_readNumber 56 = .ok (.goto 4, 3) := fp_dk fp_hdX6_readNumber_23.2.1.1.1.2
theorem dX6_readNumber_59 : decode cX6_readNumber 59 = .ok (.iconst 0, 1) := fp_dk fp_hdX6_readNumber_23.2.1.1.2.1
theorem dX6_readNumber_60 : decode cX6_readNumber 60 = .ok (.ireturn, 1) := fp_dk fp_hdX6_readNumber_23.2.1.1.2.2
theorem dX6_readStop_0 : decode cX6_readStop 0 = .ok (.aload_n 0, 1) := fp_dk fp_hdX6_readNumber_23.2.1.2.1.1
theorem dX6_readStop_1 : decode cX6_readStop 1 = .ok (.invokevirtual 60, 3) := fp_dk fp_hdX6_readNumber_23.2.1.2.1.2
theorem dX6_readStop_4 : decode cX6_readStop 4 = .ok (.ifCond .eq 27, 3) := fp_dk fp_hdX6_readNumber_23.2.1.2.2.1
theorem dX6_readStop_7 : decode cX6_readStop 7 = .ok (.aload_n 0, 1) := fp_dk fp_hdX6_readNumber_23.2.1.2.2.2
theorem dX6_readStop_8 : decode cX6_readStop 8 = .ok (.getfield 64, 3) := fp_dk fp_hdX6_readNumber_23.2.2.1.1.1
theorem dX6_readStop_11 : decode cX6_readStop 11 = .ok (.iconst 3, 1) := fp_dk fp_hdX6_readNumber_23.2.2.1.1.2
theorem dX6_readStop_12 : decode cX6_readStop 12 = .ok (.if_icmp .eq 15, 3) := fp_dk fp_hdX6_readNumber_23.2.2.1.2.1
theorem dX6_readStop_15 : decode cX6_readStop 15 = .ok (.aload_n 0, 1) := fp_dk fp_hdX6_readNumber_23.2.2.1.2.2
theorem dX6_readStop_16 : decode cX6_readStop 16 = .ok (.iconst 2, 1) := fp_dk fp_hdX6_readNumber_23.2.2.2.1.1
theorem dX6_readStop_17 : decode cX6_readStop 17 = .ok (.aload_n 0, 1) := fp_dk fp_hdX6_readNumber_23.2.2.2.1.2
theorem dX6_readStop_18 : decode cX6_readStop 18 = .ok (.getfield 76, 3) := fp_dk fp_hdX6_readNumber_23.2.2.2.2.1
theorem dX6_readStop_21 : decode cX6_readStop 21 = .ok (.invokevirtual 89, 3) := fp_dk fp_hdX6_readNumber_23.2.2.2.2.2
theorem fp_hdX6_readStop_24 : (((((fp_dq cX6_readStop 24 (.ifCond .eq 7, 3) = true ∧ fp_dq cX6_readStop 27 (.iconst 1, 1) = true) ∧ (fp_dq cX6_readStop 28 (.goto 4, 3) = true ∧ fp_dq cX6_readStop 31 (.iconst 0, 1) = true)) ∧ ((fp_dq cX6_readStop 32 (.ireturn, 1) = true ∧ fp_dq cX6_readThing 0 (.aload_n 0, 1) = true) ∧ (fp_dq cX6_readThing 1 (.getfield 12, 3) = true ∧ fp_dq cX6_readThing 4 (.getfield 129, 3) = true))) ∧ (((fp_dq cX6_readThing 7 (.istore_n 1, 1) = true ∧ fp_dq cX6_readThing 8 (.iload_n 1, 1) = true) ∧ (fp_dq cX6_readThing 9 (.bipush 10, 2) = true ∧ fp_dq cX6_readThing 11 (.if_icmp .lt 13, 3) = true)) ∧ ((fp_dq cX6_readThing 14 (.aload_n 0, 1) = true ∧ fp_dq cX6_readThing 15 (.iconst 5, 1) = true) ∧ (fp_dq cX6_readThing 16 (.aload_n 0, 1) = true ∧ fp_dq cX6_readThing 17 (.getfield 76, 3) = true)))) ∧ ((((fp_dq cX6_readThing 20 (.invokevirtual 89, 3) = true ∧ fp_dq cX6_readThing 23 (.ireturn, 1) = true) ∧ (fp_dq cX6_readThing 24 (.aload_n 0, 1) = true ∧ fp_dq cX6_readThing 25 (.iconst 0, 1) = true)) ∧ ((fp_dq cX6_readThing 26 (.iconst 3, 1) = true ∧ fp_dq cX6_readThing 27 (.invokevirtual 132, 3) = true) ∧ (fp_dq cX6_readThing 30 (.ifCond .ne 5, 3) = true ∧ fp_dq cX6_readThing 33 (.iconst 0, 1) = true))) ∧ (((fp_dq cX6_readThing 34 (.ireturn, 1) = true ∧ fp_dq cX6_readThing 35 (.aload_n 0, 1) = true) ∧ (fp_dq cX6_readThing 36 (.getfield 21, 3) = true ∧ fp_dq cX6_readThing 39 (.getfield 135, 3) = true)) ∧ ((fp_dq cX6_readThing 42 (.iload_n 1, 1) = true ∧ fp_dq cX6_readThing 43 (.aload_n 0, 1) = true) ∧ (fp_dq cX6_readThing 44 (.getfield 86, 3) = true ∧ fp_dq cX6_readThing 47 (.iastore, 1) = true))))) := by decide +kernel
theorem dX6_readStop_24 : decode cX6_readStop 24 = .ok (.ifCond .eq 7, 3) := fp_dk fp_hdX6_readStop_24.1.1.1.1.1
theorem dX6_readStop_27 : decode cX6_readStop 27 = .ok (.iconst 1, 1) := fp_dk fp_hdX6_readStop_24.1.1.1.1.2
theorem dX6_readStop_28 : decode cX6_readStop 28 = .ok (.goto 4, 3) := fp_dk fp_hdX6_readStop_24.1.1.1.2.1
theorem dX6_readStop_31 : decode cX6_readStop 31 = .ok (.iconst 0, 1) := fp_dk fp_hdX6_readStop_24.1.1.1.2.2
theorem dX6_readStop_32 : decode cX6_readStop 32 = .ok (.ireturn, 1) := fp_dk fp_hdX6_readStop_24.1.1.2.1.1
theorem dX6_readThing_0 : decode cX6_readThing 0 = .ok (.aload_n 0, 1) := fp_dk fp_hdX6_readStop_24.1.1.2.1.2
theorem dX6_readThing_1 : decode cX6_readThing 1 = .ok (.getfield 12, 3) := fp_dk fp_hdX6_readStop_24.1.1.2.2.1
theorem dX6_readThing_4 : decode cX6_readThing 4 = .ok (.getfield 129, 3) := fp_dk fp_hdX6_readStop_24.1.1.2.2.2
theorem dX6_readThing_7 : decode cX6_readThing 7 = .ok (.istore_n 1, 1) := fp_dk fp_hdX6_readStop_24.1.2.1.1.1
theorem dX6_readThing_8 : decode cX6_readThing 8 = .ok (.iload_n 1, 1) := fp_dk fp_hdX6_readStop_24.1.2.1.1.2
theorem dX6_readThing_9 : decode cX6_readThing 9 = .ok (.bipush 10, 2) := fp_dk fp_hdX6_readStop_24.1.2.1.2.1
theorem dX6_readThing_11 : decode cX6_readThing 11 = .ok (.if_icmp .lt 13, 3) := fp_dk fp_hdX6_readStop_24.1.2.1.2.2
theorem dX6_readThing_14 : decode cX6_readThing 14 = .ok (.aload_n 0, 1) := fp_dk fp_hdX6_readStop_24.1.2.2.1.1
theorem dX6_readThing_15 : decode cX6_readThing 15 = .ok (.iconst 5, 1) := fp_dk fp_hdX6_readStop_24.1.2.2.1.2
theorem dX6_readThing_16 : decode cX6_readThing 16 = .ok (.aload_n 0, 1) := fp_dk fp_hdX6_readStop_24.1.2.2.2.1
theorem dX6_readThing_17 : decode cX6_readThing 17 = .ok (.getfield 76, 3) := fp_dk fp_hdX6_readStop_24.1.2.2.2.2
theorem dX6_readThing_20 : decode cX6_readThing 20 = .ok (.invokevirtual 89, 3) := fp_dk fp_hdX6_readStop_24.2.1.1.1.1
theorem dX6_readThing_23 : decode cX6_readThing 23 = .ok (.ireturn, 1) := fp_dk fp_hdX6_readStop_24.2.1.1.1.2
theorem dX6_readThing_24 : decode cX6_readThing 24 = .ok (.aload_n 0, 1) := fp_dk fp_hdX6_readStop_24.2.1.1.2.1
theorem dX6_readThing_25 : decode cX6_readThing 25 = .ok (.iconst 0, 1) := fp_dk fp_hdX6_readStop_24.2.1.1.2.2
theorem dX6_readThing_26 : decode cX6_readThing 26 = .ok (.iconst 3, 1) := fp_dk fp_hdX6_readStop_24.2.1.2.1.1
theorem dX6_readThing_27 : decode cX6_readThing 27 = .ok (.invokevirtual 132, 3) := fp_dk fp_hdX6_readStop_24.2.1.2.1.2
theorem dX6_readThing_30 : decode cX6_readThing 30 = .ok (.ifCond .ne 5, 3) := fp_dk fp_hdX6_readStop_24.2.1.2.2.1
theorem dX6_readThing_33 : decode cX6_readThing 33 = .ok (.iconst 0, 1) := fp_dk fp_hdX6_readStop_24.2.1.2.2.2
theorem dX6_readThing_34 : decode cX6_readThing 34 = .ok (.ireturn, 1) := fp_dk fp_hdX6_readStop_24.2.2.1.1.1
theorem dX6_readThing_35 : decode cX6_readThing 35 = .ok (.aload_n 0, 1) := fp_dk fp_hdX6_readStop_24.2.2.1.1.2
theorem dX6_readThing_36 : decode cX6_readThing 36 = .ok (.getfield 21, 3) := fp_dk fp_hdX6_readStop_24.2.2.1.2.1
theorem dX6_readThing_39 : decode cX6_readThing 39 = .ok (.getfield 135, 3) := fp_dk fp_hdX6_readStop_24.2.2.1.2.2
theorem dX6_readThing_42 : decode cX6_readThing 42 = .ok (.iload_n 1, 1) := fp_dk fp_hdX6_readStop_24.2.2.2.1.1
theorem dX6_readThing_43 : decode cX6_readThing 43 = .ok (.aload_n 0, 1) := fp_dk fp_hdX6_readStop_24.2.2.2.1.2
theorem dX6_readThing_44 : decode cX6_readThing 44 = .ok (.getfield 86, 3) := fp_dk fp_hdX6_readStop_24.2.2.2.2.1
theorem dX6_readThing_47 : decode cX6_readThing 47 = .ok (.iastore, 1) := fp_dk fp_hdX6_readStop_24.2.2.2.2.2
theorem fp_hdX6_readThing_48 : (((((fp_dq cX6_readThing 48 (.aload_n 0, 1) = true ∧ fp_dq cX6_readThing 49 (.iconst 0, 1) = true) ∧ (fp_dq cX6_readThing 50 (.bipush 9, 2) = true ∧ fp_dq cX6_readThing 52 (.invokevirtual 132, 3) = true)) ∧ ((fp_dq cX6_readThing 55 (.ifCond .ne 5, 3) = true ∧ fp_dq cX6_readThing 58 (.iconst 0, 1) = true) ∧ (fp_dq cX6_readThing 59 (.ireturn, 1) = true ∧ fp_dq cX6_readThing 60 (.aload_n 0, 1) = true))) ∧ (((fp_dq cX6_readThing 61 (.getfield 12, 3) = true ∧ fp_dq cX6_readThing 64 (.getfield 139, 3) = true) ∧ (fp_dq cX6_readThing 67 (.iload_n 1, 1) = true ∧ fp_dq cX6_readThing 68 (.aload_n 0, 1) = true)) ∧ ((fp_dq cX6_readThing 69 (.getfield 86, 3) = true ∧ fp_dq cX6_readThing 72 (.iastore, 1) = true) ∧ (fp_dq cX6_readThing 73 (.iconst 0, 1) = true ∧ fp_dq cX6_readThing 74 (.istore_n 2, 1) = true)))) ∧ ((((fp_dq cX6_readThing 75 (.iload_n 2, 1) = true ∧ fp_dq cX6_readThing 76 (.iconst 4, 1) = true) ∧ (fp_dq cX6_readThing 77 (.if_icmp .ge 38, 3) = true ∧ fp_dq cX6_readThing 80 (.aload_n 0, 1) = true)) ∧ ((fp_dq cX6_readThing 81 (.iconst 0, 1) = true ∧ fp_dq cX6_readThing 82 (.bipush 20, 2) = true) ∧ (fp_dq cX6_readThing 84 (.invokevirtual 132, 3) = true ∧ fp_dq cX6_readThing 87 (.ifCond .ne 5, 3) = true))) ∧ (((fp_dq cX6_readThing 90 (.iconst 0, 1) = true ∧ fp_dq cX6_readThing 91 (.ireturn, 1) = true) ∧ (fp_dq cX6_readThing 92 (.aload_n 0, 1) = true ∧ fp_dq cX6_readThing 93 (.getfield 12, 3) = true)) ∧ ((fp_dq cX6_readThing 96 (.getfield 142, 3) = true ∧ fp_dq cX6_readThing 99 (.iload_n 1, 1) = true) ∧ (fp_dq cX6_readThing 100 (.iconst 4, 1) = true ∧ fp_dq cX6_readThing 101 (.imul, 1) = true))))) := by decide +kernel
theorem dX6_readThing_48 : decode cX6_readThing 48 = .ok (.aload_n 0, 1) := fp_dk fp_hdX6_readThing_48.1.1.1.1.1
theorem dX6_readThing_49 : decode cX6_readThing 49 = .ok (.iconst 0, 1) := fp_dk fp_hdX6_readThing_48.1.1.1.1.2
theorem dX6_readThing_50 : decode cX6_readThing 50 = .ok (.bipush 9, 2) := fp_dk fp_hdX6_readThing_48.1.1.1.2.1
theorem dX6_readThing_52 : decode cX6_readThing 52 = .ok (.invokevirtual 132, 3) := fp_dk fp_hdX6_readThing_48.1.1.1.2.2
theorem dX6_readThing_55 : decode cX6_readThing 55 = .ok (.ifCond .ne 5, 3) := fp_dk fp_hdX6_readThing_48.1.1.2.1.1
theorem dX6_readThing_58 : decode cX6_readThing 58 = .ok (.iconst 0, 1) := fp_dk fp_hdX6_readThing_48.1.1.2.1.2
theorem dX6_readThing_59 : decode cX6_readThing 59 = .ok (.ireturn, 1) := fp_dk fp_hdX6_readThing_48.1.1.2.2.1
theorem dX6_readThing_60 : decode cX6_readThing 60 = .ok (.aload_n 0, 1) := fp_dk fp_hdX6_readThing_48.1.1.2.2.2
theorem dX6_readThing_61 : decode cX6_readThing 61 = .ok (.getfield 12, 3) := fp_dk fp_hdX6_readThing_48.1.2.1.1.1
theorem dX6_readThing_64 : decode cX6_readThing 64 = .ok (.getfield 139, 3) := fp_dk fp_hdX6_readThing_48.1.2.1.1.2
theorem dX6_readThing_67 : decode cX6_readThing 67 = .ok (.iload_n 1, 1) := fp_dk fp_hdX6_readThing_48.1.2.1.2.1
theorem dX6_readThing_68 : decode cX6_readThing 68 = .ok (.aload_n 0, 1) := fp_dk fp_hdX6_readThing_48.1.2.1.2.2
theorem dX6_readThing_69 : decode cX6_readThing 69 = .ok (.getfield 86, 3) := fp_dk fp_hdX6_readThing_48.1.2.2.1.1
theorem dX6_readThing_72 : decode cX6_readThing 72 = .ok (.iastore, 1) := fp_dk fp_hdX6_readThing_48.1.2.2.1.2
theorem dX6_readThing_73 : decode cX6_readThing 73 = .ok (.iconst 0, 1) := fp_dk fp_hdX6_readThing_48.1.2.2.2.1
theorem dX6_readThing_74 : decode cX6_readThing 74 = .ok (.istore_n 2, 1) := fp_dk fp_hdX6_readThing_48.1.2.2.2.2
theorem dX6_readThing_75 : decode cX6_readThing 75 = .ok (.iload_n 2, 1) := fp_dk fp_hdX6_readThing_48.2.1.1.1.1
theorem dX6_readThing_76 : decode cX6_readThing 76 = .ok (.iconst 4, 1) := fp_dk fp_hdX6_readThing_48.2.1.1.1.2
theorem dX6_readThing_77 : decode cX6_readThing 77 = .ok (.if_icmp .ge 38, 3) := fp_dk fp_hdX6_readThing_48.2.1.1.2.1
theorem dX6_readThing_80 : decode cX6_readThing 80 = .ok (.aload_n 0, 1) := fp_dk fp_hdX6_readThing_48.2.1.1.2.2
theorem dX6_readThing_81 : decode cX6_readThing 81 = .ok (.iconst 0, 1) := fp_dk fp_hdX6_readThing_48.2.1.2.1.1
theorem dX6_readThing_82 : decode cX6_readThing 82 = .ok (.bipush 20, 2) := fp_dk fp_hdX6_readThing_48.2.1.2.1.2
theorem dX6_readThing_84 : decode cX6_readThing 84 = .ok (.invokevirtual 132, 3) := fp_dk fp_hdX6_readThing_48.2.1.2.2.1
theorem dX6_readThing_87 : decode cX6_readThing 87 = .ok (.ifCond .ne 5, 3) := fp_dk fp_hdX6_readThing_48.2.1.2.2.2
theorem dX6_readThing_90 : decode cX6_readThing 90 = .ok (.iconst 0, 1) := fp_dk fp_hdX6_readThing_48.2.2.1.1.1
theorem dX6_readThing_91 : decode cX6_readThing 91 = .ok (.ireturn, 1) := fp_dk fp_hdX6_readThing_48.2.2.1.1.2
theorem dX6_readThing_92 : decode cX6_readThing 92 = .ok (.aload_n 0, 1) := fp_dk fp_hdX6_readThing_48.2.2.1.2.1
theorem dX6_readThing_93 : decode cX6_readThing 93 = .ok (.getfield 12, 3) := fp_dk fp_hdX6_readThing_48.2.2.1.2.2
theorem dX6_readThing_96 : decode cX6_readThing 96 = .ok (.getfield 142, 3) := fp_dk fp_hdX6_readThing_48.2.2.2.1.1
theorem dX6_readThing_99 : decode cX6_readThing 99 = .ok (.iload_n 1, 1) := fp_dk fp_hdX6_readThing_48.2.2.2.1.2
theorem dX6_readThing_100 : decode cX6_readThing 100 = .ok (.iconst 4, 1) := fp_dk fp_hdX6_readThing_48.2.2.2.2.1
theorem dX6_readThing_101 : decode cX6_readThing 101 = .ok (.imul, 1) := fp_dk fp_hdX6_readThing_48.2.2.2.2.2
theorem fp_hdX6_readThing_102 : (((((fp_dq cX6_readThing 102 (.iload_n 2, 1) = true ∧ fp_dq cX6_readThing 103 (.iadd, 1) = true) ∧ (fp_dq cX6_readThing 104 (.aload_n 0, 1) = true ∧ fp_dq cX6_readThing 105 (.getfield 86, 3) = true)) ∧ ((fp_dq cX6_readThing 108 (.iastore, 1) = true ∧ fp_dq cX6_readThing 109 (.iinc 2 1, 3) = true) ∧ (fp_dq cX6_readThing 112 (.goto (-37), 3) = true ∧ fp_dq cX6_readThing 115 (.aload_n 0, 1) = true))) ∧ (((fp_dq cX6_readThing 116 (.getfield 12, 3) = true ∧ fp_dq cX6_readThing 119 (.dup, 1) = true) ∧ (fp_dq cX6_readThing 120 (.getfield 129, 3) = true ∧ fp_dq cX6_readThing 123 (.iconst 1, 1) = true)) ∧ ((fp_dq cX6_readThing 124 (.iadd, 1) = true ∧ fp_dq cX6_readThing 125 (.putfield 129, 3) = true) ∧ (fp_dq cX6_readThing 128 (.aload_n 0, 1) = true ∧ fp_dq cX6_readThing 129 (.invokevirtual 145, 3) = true)))) ∧ ((((fp_dq cX6_readThing 132 (.ireturn, 1) = true ∧ fp_dq cX6_kindRead 0 (.aload_n 0, 1) = true) ∧ (fp_dq cX6_kindRead 1 (.ldc 148, 2) = true ∧ fp_dq cX6_kindRead 3 (.invokevirtual 104, 3) = true)) ∧ ((fp_dq cX6_kindRead 6 (.ifCond .eq 5, 3) = true ∧ fp_dq cX6_kindRead 9 (.iconst 0, 1) = true) ∧ (fp_dq cX6_kindRead 10 (.ireturn, 1) = true ∧ fp_dq cX6_kindRead 11 (.aload_n 0, 1) = true))) ∧ (((fp_dq cX6_kindRead 12 (.ldc 150, 2) = true ∧ fp_dq cX6_kindRead 14 (.invokevirtual 104, 3) = true) ∧ (fp_dq cX6_kindRead 17 (.ifCond .eq 5, 3) = true ∧ fp_dq cX6_kindRead 20 (.iconst 1, 1) = true)) ∧ ((fp_dq cX6_kindRead 21 (.ireturn, 1) = true ∧ fp_dq cX6_kindRead 22 (.aload_n 0, 1) = true) ∧ (fp_dq cX6_kindRead 23 (.ldc 152, 2) = true ∧ fp_dq cX6_kindRead 25 (.invokevirtual 104, 3) = true))))) := by decide +kernel
theorem dX6_readThing_102 : decode cX6_readThing 102 = .ok (.iload_n 2, 1) := fp_dk fp_hdX6_readThing_102.1.1.1.1.1
theorem dX6_readThing_103 : decode cX6_readThing 103 = .ok (.iadd, 1) := fp_dk fp_hdX6_readThing_102.1.1.1.1.2
theorem dX6_readThing_104 : decode cX6_readThing 104 = .ok (.aload_n 0, 1) := fp_dk fp_hdX6_readThing_102.1.1.1.2.1
theorem dX6_readThing_105 : decode cX6_readThing 105 = .ok (.getfield 86, 3) := fp_dk fp_hdX6_readThing_102.1.1.1.2.2
theorem dX6_readThing_108 : decode cX6_readThing 108 = .ok (.iastore, 1) := fp_dk fp_hdX6_readThing_102.1.1.2.1.1
theorem dX6_readThing_109 : decode cX6_readThing 109 = .ok (.iinc 2 1, 3) := fp_dk fp_hdX6_readThing_102.1.1.2.1.2
theorem dX6_readThing_112 : decode cX6_readThing 112 = .ok (.goto (-37), 3) := fp_dk fp_hdX6_readThing_102.1.1.2.2.1
theorem dX6_readThing_115 : decode cX6_readThing 115 = .ok (.aload_n 0, 1) := fp_dk fp_hdX6_readThing_102.1.1.2.2.2
theorem dX6_readThing_116 : decode cX6_readThing 116 = .ok (.getfield 12, 3) := fp_dk fp_hdX6_readThing_102.1.2.1.1.1
theorem dX6_readThing_119 : decode cX6_readThing 119 = .ok (.dup, 1) := fp_dk fp_hdX6_readThing_102.1.2.1.1.2
theorem dX6_readThing_120 : decode cX6_readThing 120 = .ok (.getfield 129, 3) := fp_dk fp_hdX6_readThing_102.1.2.1.2.1
theorem dX6_readThing_123 : decode cX6_readThing 123 = .ok (.iconst 1, 1) := fp_dk fp_hdX6_readThing_102.1.2.1.2.2
theorem dX6_readThing_124 : decode cX6_readThing 124 = .ok (.iadd, 1) := fp_dk fp_hdX6_readThing_102.1.2.2.1.1
theorem dX6_readThing_125 : decode cX6_readThing 125 = .ok (.putfield 129, 3) := fp_dk fp_hdX6_readThing_102.1.2.2.1.2
theorem dX6_readThing_128 : decode cX6_readThing 128 = .ok (.aload_n 0, 1) := fp_dk fp_hdX6_readThing_102.1.2.2.2.1
theorem dX6_readThing_129 : decode cX6_readThing 129 = .ok (.invokevirtual 145, 3) := fp_dk fp_hdX6_readThing_102.1.2.2.2.2
theorem dX6_readThing_132 : decode cX6_readThing 132 = .ok (.ireturn, 1) := fp_dk fp_hdX6_readThing_102.2.1.1.1.1
theorem dX6_kindRead_0 : decode cX6_kindRead 0 = .ok (.aload_n 0, 1) := fp_dk fp_hdX6_readThing_102.2.1.1.1.2
theorem dX6_kindRead_1 : decode cX6_kindRead 1 = .ok (.ldc 148, 2) := fp_dk fp_hdX6_readThing_102.2.1.1.2.1
theorem dX6_kindRead_3 : decode cX6_kindRead 3 = .ok (.invokevirtual 104, 3) := fp_dk fp_hdX6_readThing_102.2.1.1.2.2
theorem dX6_kindRead_6 : decode cX6_kindRead 6 = .ok (.ifCond .eq 5, 3) := fp_dk fp_hdX6_readThing_102.2.1.2.1.1
theorem dX6_kindRead_9 : decode cX6_kindRead 9 = .ok (.iconst 0, 1) := fp_dk fp_hdX6_readThing_102.2.1.2.1.2
theorem dX6_kindRead_10 : decode cX6_kindRead 10 = .ok (.ireturn, 1) := fp_dk fp_hdX6_readThing_102.2.1.2.2.1
theorem dX6_kindRead_11 : decode cX6_kindRead 11 = .ok (.aload_n 0, 1) := fp_dk fp_hdX6_readThing_102.2.1.2.2.2
theorem dX6_kindRead_12 : decode cX6_kindRead 12 = .ok (.ldc 150, 2) := fp_dk fp_hdX6_readThing_102.2.2.1.1.1
theorem dX6_kindRead_14 : decode cX6_kindRead 14 = .ok (.invokevirtual 104, 3) := fp_dk fp_hdX6_readThing_102.2.2.1.1.2
theorem dX6_kindRead_17 : decode cX6_kindRead 17 = .ok (.ifCond .eq 5, 3) := fp_dk fp_hdX6_readThing_102.2.2.1.2.1
theorem dX6_kindRead_20 : decode cX6_kindRead 20 = .ok (.iconst 1, 1) := fp_dk fp_hdX6_readThing_102.2.2.1.2.2
theorem dX6_kindRead_21 : decode cX6_kindRead 21 = .ok (.ireturn, 1) := fp_dk fp_hdX6_readThing_102.2.2.2.1.1
theorem dX6_kindRead_22 : decode cX6_kindRead 22 = .ok (.aload_n 0, 1) := fp_dk fp_hdX6_readThing_102.2.2.2.1.2
theorem dX6_kindRead_23 : decode cX6_kindRead 23 = .ok (.ldc 152, 2) := fp_dk fp_hdX6_readThing_102.2.2.2.2.1
theorem dX6_kindRead_25 : decode cX6_kindRead 25 = .ok (.invokevirtual 104, 3) := fp_dk fp_hdX6_readThing_102.2.2.2.2.2
theorem fp_hdX6_kindRead_28 : (((((fp_dq cX6_kindRead 28 (.ifCond .eq 7, 3) = true ∧ fp_dq cX6_kindRead 31 (.iconst 2, 1) = true) ∧ (fp_dq cX6_kindRead 32 (.goto 5, 3) = true ∧ fp_dq cX6_kindRead 35 (.bipush (-4), 2) = true)) ∧ ((fp_dq cX6_kindRead 37 (.ireturn, 1) = true ∧ fp_dq cX6_readLineOfThings 0 (.aload_n 0, 1) = true) ∧ (fp_dq cX6_readLineOfThings 1 (.getfield 12, 3) = true ∧ fp_dq cX6_readLineOfThings 4 (.getfield 154, 3) = true))) ∧ (((fp_dq cX6_readLineOfThings 7 (.istore_n 1, 1) = true ∧ fp_dq cX6_readLineOfThings 8 (.iload_n 1, 1) = true) ∧ (fp_dq cX6_readLineOfThings 9 (.iconst 3, 1) = true ∧ fp_dq cX6_readLineOfThings 10 (.if_icmp .lt 13, 3) = true)) ∧ ((fp_dq cX6_readLineOfThings 13 (.aload_n 0, 1) = true ∧ fp_dq cX6_readLineOfThings 14 (.iconst 5, 1) = true) ∧ (fp_dq cX6_readLineOfThings 15 (.aload_n 0, 1) = true ∧ fp_dq cX6_readLineOfThings 16 (.getfield 76, 3) = true)))) ∧ ((((fp_dq cX6_readLineOfThings 19 (.invokevirtual 89, 3) = true ∧ fp_dq cX6_readLineOfThings 22 (.ireturn, 1) = true) ∧ (fp_dq cX6_readLineOfThings 23 (.aload_n 0, 1) = true ∧ fp_dq cX6_readLineOfThings 24 (.invokevirtual 60, 3) = true)) ∧ ((fp_dq cX6_readLineOfThings 27 (.ifCond .ne 5, 3) = true ∧ fp_dq cX6_readLineOfThings 30 (.iconst 0, 1) = true) ∧ (fp_dq cX6_readLineOfThings 31 (.ireturn, 1) = true ∧ fp_dq cX6_readLineOfThings 32 (.aload_n 0, 1) = true))) ∧ (((fp_dq cX6_readLineOfThings 33 (.invokevirtual 157, 3) = true ∧ fp_dq cX6_readLineOfThings 36 (.istore_n 2, 1) = true) ∧ (fp_dq cX6_readLineOfThings 37 (.iload_n 2, 1) = true ∧ fp_dq cX6_readLineOfThings 38 (.bipush (-4), 2) = true)) ∧ ((fp_dq cX6_readLineOfThings 40 (.if_icmp .ne 13, 3) = true ∧ fp_dq cX6_readLineOfThings 43 (.aload_n 0, 1) = true) ∧ (fp_dq cX6_readLineOfThings 44 (.iconst 2, 1) = true ∧ fp_dq cX6_readLineOfThings 45 (.aload_n 0, 1) = true))))) := by decide +kernel
theorem dX6_kindRead_28 : decode cX6_kindRead 28 = .ok (.ifCond .eq 7, 3) := fp_dk fp_hdX6_kindRead_28.1.1.1.1.1
theorem dX6_kindRead_31 : decode cX6_kindRead 31 = .ok (.iconst 2, 1) := fp_dk fp_hdX6_kindRead_28.1.1.1.1.2
theorem dX6_kindRead_32 : decode cX6_kindRead 32 = .ok (.goto 5, 3) := fp_dk fp_hdX6_kindRead_28.1.1.1.2.1
theorem dX6_kindRead_35 : decode cX6_kindRead 35 = .ok (.bipush (-4), 2) := fp_dk fp_hdX6_kindRead_28.1.1.1.2.2
theorem dX6_kindRead_37 : decode cX6_kindRead 37 = .ok (.ireturn, 1) := fp_dk fp_hdX6_kindRead_28.1.1.2.1.1
theorem dX6_readLineOfThings_0 : decode cX6_readLineOfThings 0 = .ok (.aload_n 0, 1) := fp_dk fp_hdX6_kindRead_28.1.1.2.1.2
theorem dX6_readLineOfThings_1 : decode cX6_readLineOfThings 1 = .ok (.getfield 12, 3) := fp_dk fp_hdX6_kindRead_28.1.1.2.2.1
theorem dX6_readLineOfThings_4 : decode cX6_readLineOfThings 4 = .ok (.getfield 154, 3) := fp_dk fp_hdX6_kindRead_28.1.1.2.2.2
theorem dX6_readLineOfThings_7 : decode cX6_readLineOfThings 7 = .ok (.istore_n 1, 1) := fp_dk fp_hdX6_kindRead_28.1.2.1.1.1
theorem dX6_readLineOfThings_8 : decode cX6_readLineOfThings 8 = .ok (.iload_n 1, 1) := fp_dk fp_hdX6_kindRead_28.1.2.1.1.2
theorem dX6_readLineOfThings_9 : decode cX6_readLineOfThings 9 = .ok (.iconst 3, 1) := fp_dk fp_hdX6_kindRead_28.1.2.1.2.1
theorem dX6_readLineOfThings_10 : decode cX6_readLineOfThings 10 = .ok (.if_icmp .lt 13, 3) := fp_dk fp_hdX6_kindRead_28.1.2.1.2.2
theorem dX6_readLineOfThings_13 : decode cX6_readLineOfThings 13 = .ok (.aload_n 0, 1) := fp_dk fp_hdX6_kindRead_28.1.2.2.1.1
theorem dX6_readLineOfThings_14 : decode cX6_readLineOfThings 14 = .ok (.iconst 5, 1) := fp_dk fp_hdX6_kindRead_28.1.2.2.1.2
theorem dX6_readLineOfThings_15 : decode cX6_readLineOfThings 15 = .ok (.aload_n 0, 1) := fp_dk fp_hdX6_kindRead_28.1.2.2.2.1
theorem dX6_readLineOfThings_16 : decode cX6_readLineOfThings 16 = .ok (.getfield 76, 3) := fp_dk fp_hdX6_kindRead_28.1.2.2.2.2
theorem dX6_readLineOfThings_19 : decode cX6_readLineOfThings 19 = .ok (.invokevirtual 89, 3) := fp_dk fp_hdX6_kindRead_28.2.1.1.1.1
theorem dX6_readLineOfThings_22 : decode cX6_readLineOfThings 22 = .ok (.ireturn, 1) := fp_dk fp_hdX6_kindRead_28.2.1.1.1.2
theorem dX6_readLineOfThings_23 : decode cX6_readLineOfThings 23 = .ok (.aload_n 0, 1) := fp_dk fp_hdX6_kindRead_28.2.1.1.2.1
theorem dX6_readLineOfThings_24 : decode cX6_readLineOfThings 24 = .ok (.invokevirtual 60, 3) := fp_dk fp_hdX6_kindRead_28.2.1.1.2.2
theorem dX6_readLineOfThings_27 : decode cX6_readLineOfThings 27 = .ok (.ifCond .ne 5, 3) := fp_dk fp_hdX6_kindRead_28.2.1.2.1.1
theorem dX6_readLineOfThings_30 : decode cX6_readLineOfThings 30 = .ok (.iconst 0, 1) := fp_dk fp_hdX6_kindRead_28.2.1.2.1.2
theorem dX6_readLineOfThings_31 : decode cX6_readLineOfThings 31 = .ok (.ireturn, 1) := fp_dk fp_hdX6_kindRead_28.2.1.2.2.1
theorem dX6_readLineOfThings_32 : decode cX6_readLineOfThings 32 = .ok (.aload_n 0, 1) := fp_dk fp_hdX6_kindRead_28.2.1.2.2.2
theorem dX6_readLineOfThings_33 : decode cX6_readLineOfThings 33 = .ok (.invokevirtual 157, 3) := fp_dk fp_hdX6_kindRead_28.2.2.1.1.1
theorem dX6_readLineOfThings_36 : decode cX6_readLineOfThings 36 = .ok (.istore_n 2, 1) := fp_dk fp_hdX6_kindRead_28.2.2.1.1.2
theorem dX6_readLineOfThings_37 : decode cX6_readLineOfThings 37 = .ok (.iload_n 2, 1) := fp_dk fp_hdX6_kindRead_28.2.2.1.2.1
theorem dX6_readLineOfThings_38 : decode cX6_readLineOfThings 38 = .ok (.bipush (-4), 2) := fp_dk fp_hdX6_kindRead_28.2.2.1.2.2
theorem dX6_readLineOfThings_40 : decode cX6_readLineOfThings 40 = .ok (.if_icmp .ne 13, 3) := fp_dk fp_hdX6_kindRead_28.2.2.2.1.1
theorem dX6_readLineOfThings_43 : decode cX6_readLineOfThings 43 = .ok (.aload_n 0, 1) := fp_dk fp_hdX6_kindRead_28.2.2.2.1.2
theorem dX6_readLineOfThings_44 : decode cX6_readLineOfThings 44 = .ok (.iconst 2, 1) := fp_dk fp_hdX6_kindRead_28.2.2.2.2.1
theorem dX6_readLineOfThings_45 : decode cX6_readLineOfThings 45 = .ok (.aload_n 0, 1) := fp_dk fp_hdX6_kindRead_28.2.2.2.2.2
theorem fp_hdX6_readLineOfThings_46 : (((((fp_dq cX6_readLineOfThings 46 (.getfield 76, 3) = true ∧ fp_dq cX6_readLineOfThings 49 (.invokevirtual 89, 3) = true) ∧ (fp_dq cX6_readLineOfThings 52 (.ireturn, 1) = true ∧ fp_dq cX6_readLineOfThings 53 (.aload_n 0, 1) = true)) ∧ ((fp_dq cX6_readLineOfThings 54 (.getfield 12, 3) = true ∧ fp_dq cX6_readLineOfThings 57 (.getfield 160, 3) = true) ∧ (fp_dq cX6_readLineOfThings 60 (.iload_n 1, 1) = true ∧ fp_dq cX6_readLineOfThings 61 (.iload_n 2, 1) = true))) ∧ (((fp_dq cX6_readLineOfThings 62 (.iastore, 1) = true ∧ fp_dq cX6_readLineOfThings 63 (.aload_n 0, 1) = true) ∧ (fp_dq cX6_readLineOfThings 64 (.getfield 12, 3) = true ∧ fp_dq cX6_readLineOfThings 67 (.dup, 1) = true)) ∧ ((fp_dq cX6_readLineOfThings 68 (.getfield 154, 3) = true ∧ fp_dq cX6_readLineOfThings 71 (.iconst 1, 1) = true) ∧ (fp_dq cX6_readLineOfThings 72 (.iadd, 1) = true ∧ fp_dq cX6_readLineOfThings 73 (.putfield 154, 3) = true)))) ∧ ((((fp_dq cX6_readLineOfThings 76 (.iconst 0, 1) = true ∧ fp_dq cX6_readLineOfThings 77 (.istore_n 3, 1) = true) ∧ (fp_dq cX6_readLineOfThings 78 (.iload_n 3, 1) = true ∧ fp_dq cX6_readLineOfThings 79 (.bipush 8, 2) = true)) ∧ ((fp_dq cX6_readLineOfThings 81 (.if_icmp .gt 38, 3) = true ∧ fp_dq cX6_readLineOfThings 84 (.aload_n 0, 1) = true) ∧ (fp_dq cX6_readLineOfThings 85 (.invokevirtual 60, 3) = true ∧ fp_dq cX6_readLineOfThings 88 (.ifCond .ne 5, 3) = true))) ∧ (((fp_dq cX6_readLineOfThings 91 (.iconst 0, 1) = true ∧ fp_dq cX6_readLineOfThings 92 (.ireturn, 1) = true) ∧ (fp_dq cX6_readLineOfThings 93 (.aload_n 0, 1) = true ∧ fp_dq cX6_readLineOfThings 94 (.getfield 64, 3) = true)) ∧ ((fp_dq cX6_readLineOfThings 97 (.iconst 3, 1) = true ∧ fp_dq cX6_readLineOfThings 98 (.if_icmp .ne 5, 3) = true) ∧ (fp_dq cX6_readLineOfThings 101 (.iconst 1, 1) = true ∧ fp_dq cX6_readLineOfThings 102 (.ireturn, 1) = true))))) := by decide +kernel
theorem dX6_readLineOfThings_46 : decode cX6_readLineOfThings 46 = .ok (.getfield 76, 3) := fp_dk fp_hdX6_readLineOfThings_46.1.1.1.1.1
theorem dX6_readLineOfThings_49 : decode cX6_readLineOfThings 49 = .ok (.invokevirtual 89, 3) := fp_dk fp_hdX6_readLineOfThings_46.1.1.1.1.2
theorem dX6_readLineOfThings_52 : decode cX6_readLineOfThings 52 = .ok (.ireturn, 1) := fp_dk fp_hdX6_readLineOfThings_46.1.1.1.2.1
theorem dX6_readLineOfThings_53 : decode cX6_readLineOfThings 53 = .ok (.aload_n 0, 1) := fp_dk fp_hdX6_readLineOfThings_46.1.1.1.2.2
theorem dX6_readLineOfThings_54 : decode cX6_readLineOfThings 54 = .ok (.getfield 12, 3) := fp_dk fp_hdX6_readLineOfThings_46.1.1.2.1.1
theorem dX6_readLineOfThings_57 : decode cX6_readLineOfThings 57 = .ok (.getfield 160, 3) := fp_dk fp_hdX6_readLineOfThings_46.1.1.2.1.2
theorem dX6_readLineOfThings_60 : decode cX6_readLineOfThings 60 = .ok (.iload_n 1, 1) := fp_dk fp_hdX6_readLineOfThings_46.1.1.2.2.1
theorem dX6_readLineOfThings_61 : decode cX6_readLineOfThings 61 = .ok (.iload_n 2, 1) := fp_dk fp_hdX6_readLineOfThings_46.1.1.2.2.2
theorem dX6_readLineOfThings_62 : decode cX6_readLineOfThings 62 = .ok (.iastore, 1) := fp_dk fp_hdX6_readLineOfThings_46.1.2.1.1.1
theorem dX6_readLineOfThings_63 : decode cX6_readLineOfThings 63 = .ok (.aload_n 0, 1) := fp_dk fp_hdX6_readLineOfThings_46.1.2.1.1.2
theorem dX6_readLineOfThings_64 : decode cX6_readLineOfThings 64 = .ok (.getfield 12, 3) := fp_dk fp_hdX6_readLineOfThings_46.1.2.1.2.1
theorem dX6_readLineOfThings_67 : decode cX6_readLineOfThings 67 = .ok (.dup, 1) := fp_dk fp_hdX6_readLineOfThings_46.1.2.1.2.2
theorem dX6_readLineOfThings_68 : decode cX6_readLineOfThings 68 = .ok (.getfield 154, 3) := fp_dk fp_hdX6_readLineOfThings_46.1.2.2.1.1
theorem dX6_readLineOfThings_71 : decode cX6_readLineOfThings 71 = .ok (.iconst 1, 1) := fp_dk fp_hdX6_readLineOfThings_46.1.2.2.1.2
theorem dX6_readLineOfThings_72 : decode cX6_readLineOfThings 72 = .ok (.iadd, 1) := fp_dk fp_hdX6_readLineOfThings_46.1.2.2.2.1
theorem dX6_readLineOfThings_73 : decode cX6_readLineOfThings 73 = .ok (.putfield 154, 3) := fp_dk fp_hdX6_readLineOfThings_46.1.2.2.2.2
theorem dX6_readLineOfThings_76 : decode cX6_readLineOfThings 76 = .ok (.iconst 0, 1) := fp_dk fp_hdX6_readLineOfThings_46.2.1.1.1.1
theorem dX6_readLineOfThings_77 : decode cX6_readLineOfThings 77 = .ok (.istore_n 3, 1) := fp_dk fp_hdX6_readLineOfThings_46.2.1.1.1.2
theorem dX6_readLineOfThings_78 : decode cX6_readLineOfThings 78 = .ok (.iload_n 3, 1) := fp_dk fp_hdX6_readLineOfThings_46.2.1.1.2.1
theorem dX6_readLineOfThings_79 : decode cX6_readLineOfThings 79 = .ok (.bipush 8, 2) := fp_dk fp_hdX6_readLineOfThings_46.2.1.1.2.2
theorem dX6_readLineOfThings_81 : decode cX6_readLineOfThings 81 = .ok (.if_icmp .gt 38, 3) := fp_dk fp_hdX6_readLineOfThings_46.2.1.2.1.1
theorem dX6_readLineOfThings_84 : decode cX6_readLineOfThings 84 = .ok (.aload_n 0, 1) := fp_dk fp_hdX6_readLineOfThings_46.2.1.2.1.2
theorem dX6_readLineOfThings_85 : decode cX6_readLineOfThings 85 = .ok (.invokevirtual 60, 3) := fp_dk fp_hdX6_readLineOfThings_46.2.1.2.2.1
theorem dX6_readLineOfThings_88 : decode cX6_readLineOfThings 88 = .ok (.ifCond .ne 5, 3) := fp_dk fp_hdX6_readLineOfThings_46.2.1.2.2.2
theorem dX6_readLineOfThings_91 : decode cX6_readLineOfThings 91 = .ok (.iconst 0, 1) := fp_dk fp_hdX6_readLineOfThings_46.2.2.1.1.1
theorem dX6_readLineOfThings_92 : decode cX6_readLineOfThings 92 = .ok (.ireturn, 1) := fp_dk fp_hdX6_readLineOfThings_46.2.2.1.1.2
theorem dX6_readLineOfThings_93 : decode cX6_readLineOfThings 93 = .ok (.aload_n 0, 1) := fp_dk fp_hdX6_readLineOfThings_46.2.2.1.2.1
theorem dX6_readLineOfThings_94 : decode cX6_readLineOfThings 94 = .ok (.getfield 64, 3) := fp_dk fp_hdX6_readLineOfThings_46.2.2.1.2.2
theorem dX6_readLineOfThings_97 : decode cX6_readLineOfThings 97 = .ok (.iconst 3, 1) := fp_dk fp_hdX6_readLineOfThings_46.2.2.2.1.1
theorem dX6_readLineOfThings_98 : decode cX6_readLineOfThings 98 = .ok (.if_icmp .ne 5, 3) := fp_dk fp_hdX6_readLineOfThings_46.2.2.2.1.2
theorem dX6_readLineOfThings_101 : decode cX6_readLineOfThings 101 = .ok (.iconst 1, 1) := fp_dk fp_hdX6_readLineOfThings_46.2.2.2.2.1
theorem dX6_readLineOfThings_102 : decode cX6_readLineOfThings 102 = .ok (.ireturn, 1) := fp_dk fp_hdX6_readLineOfThings_46.2.2.2.2.2
theorem fp_hdX6_readLineOfThings_103 : (((((fp_dq cX6_readLineOfThings 103 (.aload_n 0, 1) = true ∧ fp_dq cX6_readLineOfThings 104 (.iload_n 1, 1) = true) ∧ (fp_dq cX6_readLineOfThings 105 (.invokevirtual 163, 3) = true ∧ fp_dq cX6_readLineOfThings 108 (.ifCond .ne 5, 3) = true)) ∧ ((fp_dq cX6_readLineOfThings 111 (.iconst 0, 1) = true ∧ fp_dq cX6_readLineOfThings 112 (.ireturn, 1) = true) ∧ (fp_dq cX6_readLineOfThings 113 (.iinc 3 1, 3) = true ∧ fp_dq cX6_readLineOfThings 116 (.goto (-38), 3) = true))) ∧ (((fp_dq cX6_readLineOfThings 119 (.iconst 0, 1) = true ∧ fp_dq cX6_readLineOfThings 120 (.ireturn, 1) = true) ∧ (fp_dq cX6_takeLying 0 (.aload_n 0, 1) = true ∧ fp_dq cX6_takeLying 1 (.getfield 64, 3) = true)) ∧ ((fp_dq cX6_takeLying 4 (.iconst 2, 1) = true ∧ fp_dq cX6_takeLying 5 (.if_icmp .eq 13, 3) = true) ∧ (fp_dq cX6_takeLying 8 (.aload_n 0, 1) = true ∧ fp_dq cX6_takeLying 9 (.iconst 2, 1) = true)))) ∧ ((((fp_dq cX6_takeLying 10 (.aload_n 0, 1) = true ∧ fp_dq cX6_takeLying 11 (.getfield 76, 3) = true) ∧ (fp_dq cX6_takeLying 14 (.invokevirtual 89, 3) = true ∧ fp_dq cX6_takeLying 17 (.ireturn, 1) = true)) ∧ ((fp_dq cX6_takeLying 18 (.aload_n 0, 1) = true ∧ fp_dq cX6_takeLying 19 (.getfield 86, 3) = true) ∧ (fp_dq cX6_takeLying 22 (.bipush 10, 2) = true ∧ fp_dq cX6_takeLying 24 (.if_icmp .lt 13, 3) = true))) ∧ (((fp_dq cX6_takeLying 27 (.aload_n 0, 1) = true ∧ fp_dq cX6_takeLying 28 (.iconst 3, 1) = true) ∧ (fp_dq cX6_takeLying 29 (.aload_n 0, 1) = true ∧ fp_dq cX6_takeLying 30 (.getfield 76, 3) = true)) ∧ ((fp_dq cX6_takeLying 33 (.invokevirtual 89, 3) = true ∧ fp_dq cX6_takeLying 36 (.ireturn, 1) = true) ∧ (fp_dq cX6_takeLying 37 (.aload_n 0, 1) = true ∧ fp_dq cX6_takeLying 38 (.getfield 46, 3) = true))))) := by decide +kernel
theorem dX6_readLineOfThings_103 : decode cX6_readLineOfThings 103 = .ok (.aload_n 0, 1) := fp_dk fp_hdX6_readLineOfThings_103.1.1.1.1.1
theorem dX6_readLineOfThings_104 : decode cX6_readLineOfThings 104 = .ok (.iload_n 1, 1) := fp_dk fp_hdX6_readLineOfThings_103.1.1.1.1.2
theorem dX6_readLineOfThings_105 : decode cX6_readLineOfThings 105 = .ok (.invokevirtual 163, 3) := fp_dk fp_hdX6_readLineOfThings_103.1.1.1.2.1
theorem dX6_readLineOfThings_108 : decode cX6_readLineOfThings 108 = .ok (.ifCond .ne 5, 3) := fp_dk fp_hdX6_readLineOfThings_103.1.1.1.2.2
theorem dX6_readLineOfThings_111 : decode cX6_readLineOfThings 111 = .ok (.iconst 0, 1) := fp_dk fp_hdX6_readLineOfThings_103.1.1.2.1.1
theorem dX6_readLineOfThings_112 : decode cX6_readLineOfThings 112 = .ok (.ireturn, 1) := fp_dk fp_hdX6_readLineOfThings_103.1.1.2.1.2
theorem dX6_readLineOfThings_113 : decode cX6_readLineOfThings 113 = .ok (.iinc 3 1, 3) := fp_dk fp_hdX6_readLineOfThings_103.1.1.2.2.1
theorem dX6_readLineOfThings_116 : decode cX6_readLineOfThings 116 = .ok (.goto (-38), 3) := fp_dk fp_hdX6_readLineOfThings_103.1.1.2.2.2
theorem dX6_readLineOfThings_119 : decode cX6_readLineOfThings 119 = .ok (.iconst 0, 1) := fp_dk fp_hdX6_readLineOfThings_103.1.2.1.1.1
theorem dX6_readLineOfThings_120 : decode cX6_readLineOfThings 120 = .ok (.ireturn, 1) := fp_dk fp_hdX6_readLineOfThings_103.1.2.1.1.2
theorem dX6_takeLying_0 : decode cX6_takeLying 0 = .ok (.aload_n 0, 1) := fp_dk fp_hdX6_readLineOfThings_103.1.2.1.2.1
theorem dX6_takeLying_1 : decode cX6_takeLying 1 = .ok (.getfield 64, 3) := fp_dk fp_hdX6_readLineOfThings_103.1.2.1.2.2
theorem dX6_takeLying_4 : decode cX6_takeLying 4 = .ok (.iconst 2, 1) := fp_dk fp_hdX6_readLineOfThings_103.1.2.2.1.1
theorem dX6_takeLying_5 : decode cX6_takeLying 5 = .ok (.if_icmp .eq 13, 3) := fp_dk fp_hdX6_readLineOfThings_103.1.2.2.1.2
theorem dX6_takeLying_8 : decode cX6_takeLying 8 = .ok (.aload_n 0, 1) := fp_dk fp_hdX6_readLineOfThings_103.1.2.2.2.1
theorem dX6_takeLying_9 : decode cX6_takeLying 9 = .ok (.iconst 2, 1) := fp_dk fp_hdX6_readLineOfThings_103.1.2.2.2.2
theorem dX6_takeLying_10 : decode cX6_takeLying 10 = .ok (.aload_n 0, 1) := fp_dk fp_hdX6_readLineOfThings_103.2.1.1.1.1
theorem dX6_takeLying_11 : decode cX6_takeLying 11 = .ok (.getfield 76, 3) := fp_dk fp_hdX6_readLineOfThings_103.2.1.1.1.2
theorem dX6_takeLying_14 : decode cX6_takeLying 14 = .ok (.invokevirtual 89, 3) := fp_dk fp_hdX6_readLineOfThings_103.2.1.1.2.1
theorem dX6_takeLying_17 : decode cX6_takeLying 17 = .ok (.ireturn, 1) := fp_dk fp_hdX6_readLineOfThings_103.2.1.1.2.2
theorem dX6_takeLying_18 : decode cX6_takeLying 18 = .ok (.aload_n 0, 1) := fp_dk fp_hdX6_readLineOfThings_103.2.1.2.1.1
theorem dX6_takeLying_19 : decode cX6_takeLying 19 = .ok (.getfield 86, 3) := fp_dk fp_hdX6_readLineOfThings_103.2.1.2.1.2
theorem dX6_takeLying_22 : decode cX6_takeLying 22 = .ok (.bipush 10, 2) := fp_dk fp_hdX6_readLineOfThings_103.2.1.2.2.1
theorem dX6_takeLying_24 : decode cX6_takeLying 24 = .ok (.if_icmp .lt 13, 3) := fp_dk fp_hdX6_readLineOfThings_103.2.1.2.2.2
theorem dX6_takeLying_27 : decode cX6_takeLying 27 = .ok (.aload_n 0, 1) := fp_dk fp_hdX6_readLineOfThings_103.2.2.1.1.1
theorem dX6_takeLying_28 : decode cX6_takeLying 28 = .ok (.iconst 3, 1) := fp_dk fp_hdX6_readLineOfThings_103.2.2.1.1.2
theorem dX6_takeLying_29 : decode cX6_takeLying 29 = .ok (.aload_n 0, 1) := fp_dk fp_hdX6_readLineOfThings_103.2.2.1.2.1
theorem dX6_takeLying_30 : decode cX6_takeLying 30 = .ok (.getfield 76, 3) := fp_dk fp_hdX6_readLineOfThings_103.2.2.1.2.2
theorem dX6_takeLying_33 : decode cX6_takeLying 33 = .ok (.invokevirtual 89, 3) := fp_dk fp_hdX6_readLineOfThings_103.2.2.2.1.1
theorem dX6_takeLying_36 : decode cX6_takeLying 36 = .ok (.ireturn, 1) := fp_dk fp_hdX6_readLineOfThings_103.2.2.2.1.2
theorem dX6_takeLying_37 : decode cX6_takeLying 37 = .ok (.aload_n 0, 1) := fp_dk fp_hdX6_readLineOfThings_103.2.2.2.2.1
theorem dX6_takeLying_38 : decode cX6_takeLying 38 = .ok (.getfield 46, 3) := fp_dk fp_hdX6_readLineOfThings_103.2.2.2.2.2
theorem fp_hdX6_takeLying_41 : (((((fp_dq cX6_takeLying 41 (.iconst 1, 1) = true ∧ fp_dq cX6_takeLying 42 (.aload_n 0, 1) = true) ∧ (fp_dq cX6_takeLying 43 (.getfield 86, 3) = true ∧ fp_dq cX6_takeLying 46 (.ishl, 1) = true)) ∧ ((fp_dq cX6_takeLying 47 (.iand, 1) = true ∧ fp_dq cX6_takeLying 48 (.ifCond .eq 13, 3) = true) ∧ (fp_dq cX6_takeLying 51 (.aload_n 0, 1) = true ∧ fp_dq cX6_takeLying 52 (.iconst 4, 1) = true))) ∧ (((fp_dq cX6_takeLying 53 (.aload_n 0, 1) = true ∧ fp_dq cX6_takeLying 54 (.getfield 76, 3) = true) ∧ (fp_dq cX6_takeLying 57 (.invokevirtual 89, 3) = true ∧ fp_dq cX6_takeLying 60 (.ireturn, 1) = true)) ∧ ((fp_dq cX6_takeLying 61 (.aload_n 0, 1) = true ∧ fp_dq cX6_takeLying 62 (.getfield 21, 3) = true) ∧ (fp_dq cX6_takeLying 65 (.getfield 166, 3) = true ∧ fp_dq cX6_takeLying 68 (.iload_n 1, 1) = true)))) ∧ ((((fp_dq cX6_takeLying 69 (.iaload, 1) = true ∧ fp_dq cX6_takeLying 70 (.bipush 8, 2) = true) ∧ (fp_dq cX6_takeLying 72 (.if_icmp .lt 13, 3) = true ∧ fp_dq cX6_takeLying 75 (.aload_n 0, 1) = true)) ∧ ((fp_dq cX6_takeLying 76 (.iconst 5, 1) = true ∧ fp_dq cX6_takeLying 77 (.aload_n 0, 1) = true) ∧ (fp_dq cX6_takeLying 78 (.getfield 76, 3) = true ∧ fp_dq cX6_takeLying 81 (.invokevirtual 89, 3) = true))) ∧ (((fp_dq cX6_takeLying 84 (.ireturn, 1) = true ∧ fp_dq cX6_takeLying 85 (.aload_n 0, 1) = true) ∧ (fp_dq cX6_takeLying 86 (.dup, 1) = true ∧ fp_dq cX6_takeLying 87 (.getfield 46, 3) = true)) ∧ ((fp_dq cX6_takeLying 90 (.iconst 1, 1) = true ∧ fp_dq cX6_takeLying 91 (.aload_n 0, 1) = true) ∧ (fp_dq cX6_takeLying 92 (.getfield 86, 3) = true ∧ fp_dq cX6_takeLying 95 (.ishl, 1) = true))))) := by decide +kernel
theorem dX6_takeLying_41 : decode cX6_takeLying 41 = .ok (.iconst 1, 1) := fp_dk fp_hdX6_takeLying_41.1.1.1.1.1
theorem dX6_takeLying_42 : decode cX6_takeLying 42 = .ok (.aload_n 0, 1) := fp_dk fp_hdX6_takeLying_41.1.1.1.1.2
theorem dX6_takeLying_43 : decode cX6_takeLying 43 = .ok (.getfield 86, 3) := fp_dk fp_hdX6_takeLying_41.1.1.1.2.1
theorem dX6_takeLying_46 : decode cX6_takeLying 46 = .ok (.ishl, 1) := fp_dk fp_hdX6_takeLying_41.1.1.1.2.2
theorem dX6_takeLying_47 : decode cX6_takeLying 47 = .ok (.iand, 1) := fp_dk fp_hdX6_takeLying_41.1.1.2.1.1
theorem dX6_takeLying_48 : decode cX6_takeLying 48 = .ok (.ifCond .eq 13, 3) := fp_dk fp_hdX6_takeLying_41.1.1.2.1.2
theorem dX6_takeLying_51 : decode cX6_takeLying 51 = .ok (.aload_n 0, 1) := fp_dk fp_hdX6_takeLying_41.1.1.2.2.1
theorem dX6_takeLying_52 : decode cX6_takeLying 52 = .ok (.iconst 4, 1) := fp_dk fp_hdX6_takeLying_41.1.1.2.2.2
theorem dX6_takeLying_53 : decode cX6_takeLying 53 = .ok (.aload_n 0, 1) := fp_dk fp_hdX6_takeLying_41.1.2.1.1.1
theorem dX6_takeLying_54 : decode cX6_takeLying 54 = .ok (.getfield 76, 3) := fp_dk fp_hdX6_takeLying_41.1.2.1.1.2
theorem dX6_takeLying_57 : decode cX6_takeLying 57 = .ok (.invokevirtual 89, 3) := fp_dk fp_hdX6_takeLying_41.1.2.1.2.1
theorem dX6_takeLying_60 : decode cX6_takeLying 60 = .ok (.ireturn, 1) := fp_dk fp_hdX6_takeLying_41.1.2.1.2.2
theorem dX6_takeLying_61 : decode cX6_takeLying 61 = .ok (.aload_n 0, 1) := fp_dk fp_hdX6_takeLying_41.1.2.2.1.1
theorem dX6_takeLying_62 : decode cX6_takeLying 62 = .ok (.getfield 21, 3) := fp_dk fp_hdX6_takeLying_41.1.2.2.1.2
theorem dX6_takeLying_65 : decode cX6_takeLying 65 = .ok (.getfield 166, 3) := fp_dk fp_hdX6_takeLying_41.1.2.2.2.1
theorem dX6_takeLying_68 : decode cX6_takeLying 68 = .ok (.iload_n 1, 1) := fp_dk fp_hdX6_takeLying_41.1.2.2.2.2
theorem dX6_takeLying_69 : decode cX6_takeLying 69 = .ok (.iaload, 1) := fp_dk fp_hdX6_takeLying_41.2.1.1.1.1
theorem dX6_takeLying_70 : decode cX6_takeLying 70 = .ok (.bipush 8, 2) := fp_dk fp_hdX6_takeLying_41.2.1.1.1.2
theorem dX6_takeLying_72 : decode cX6_takeLying 72 = .ok (.if_icmp .lt 13, 3) := fp_dk fp_hdX6_takeLying_41.2.1.1.2.1
theorem dX6_takeLying_75 : decode cX6_takeLying 75 = .ok (.aload_n 0, 1) := fp_dk fp_hdX6_takeLying_41.2.1.1.2.2
theorem dX6_takeLying_76 : decode cX6_takeLying 76 = .ok (.iconst 5, 1) := fp_dk fp_hdX6_takeLying_41.2.1.2.1.1
theorem dX6_takeLying_77 : decode cX6_takeLying 77 = .ok (.aload_n 0, 1) := fp_dk fp_hdX6_takeLying_41.2.1.2.1.2
theorem dX6_takeLying_78 : decode cX6_takeLying 78 = .ok (.getfield 76, 3) := fp_dk fp_hdX6_takeLying_41.2.1.2.2.1
theorem dX6_takeLying_81 : decode cX6_takeLying 81 = .ok (.invokevirtual 89, 3) := fp_dk fp_hdX6_takeLying_41.2.1.2.2.2
theorem dX6_takeLying_84 : decode cX6_takeLying 84 = .ok (.ireturn, 1) := fp_dk fp_hdX6_takeLying_41.2.2.1.1.1
theorem dX6_takeLying_85 : decode cX6_takeLying 85 = .ok (.aload_n 0, 1) := fp_dk fp_hdX6_takeLying_41.2.2.1.1.2
theorem dX6_takeLying_86 : decode cX6_takeLying 86 = .ok (.dup, 1) := fp_dk fp_hdX6_takeLying_41.2.2.1.2.1
theorem dX6_takeLying_87 : decode cX6_takeLying 87 = .ok (.getfield 46, 3) := fp_dk fp_hdX6_takeLying_41.2.2.1.2.2
theorem dX6_takeLying_90 : decode cX6_takeLying 90 = .ok (.iconst 1, 1) := fp_dk fp_hdX6_takeLying_41.2.2.2.1.1
theorem dX6_takeLying_91 : decode cX6_takeLying 91 = .ok (.aload_n 0, 1) := fp_dk fp_hdX6_takeLying_41.2.2.2.1.2
theorem dX6_takeLying_92 : decode cX6_takeLying 92 = .ok (.getfield 86, 3) := fp_dk fp_hdX6_takeLying_41.2.2.2.2.1
theorem dX6_takeLying_95 : decode cX6_takeLying 95 = .ok (.ishl, 1) := fp_dk fp_hdX6_takeLying_41.2.2.2.2.2
theorem fp_hdX6_takeLying_96 : (((((fp_dq cX6_takeLying 96 (.ior, 1) = true ∧ fp_dq cX6_takeLying 97 (.putfield 46, 3) = true) ∧ (fp_dq cX6_takeLying 100 (.aload_n 0, 1) = true ∧ fp_dq cX6_takeLying 101 (.getfield 21, 3) = true)) ∧ ((fp_dq cX6_takeLying 104 (.getfield 168, 3) = true ∧ fp_dq cX6_takeLying 107 (.iload_n 1, 1) = true) ∧ (fp_dq cX6_takeLying 108 (.bipush 8, 2) = true ∧ fp_dq cX6_takeLying 110 (.imul, 1) = true))) ∧ (((fp_dq cX6_takeLying 111 (.aload_n 0, 1) = true ∧ fp_dq cX6_takeLying 112 (.getfield 21, 3) = true) ∧ (fp_dq cX6_takeLying 115 (.getfield 166, 3) = true ∧ fp_dq cX6_takeLying 118 (.iload_n 1, 1) = true)) ∧ ((fp_dq cX6_takeLying 119 (.iaload, 1) = true ∧ fp_dq cX6_takeLying 120 (.iadd, 1) = true) ∧ (fp_dq cX6_takeLying 121 (.aload_n 0, 1) = true ∧ fp_dq cX6_takeLying 122 (.getfield 86, 3) = true)))) ∧ ((((fp_dq cX6_takeLying 125 (.iastore, 1) = true ∧ fp_dq cX6_takeLying 126 (.aload_n 0, 1) = true) ∧ (fp_dq cX6_takeLying 127 (.getfield 21, 3) = true ∧ fp_dq cX6_takeLying 130 (.getfield 166, 3) = true)) ∧ ((fp_dq cX6_takeLying 133 (.iload_n 1, 1) = true ∧ fp_dq cX6_takeLying 134 (.dup2, 1) = true) ∧ (fp_dq cX6_takeLying 135 (.iaload, 1) = true ∧ fp_dq cX6_takeLying 136 (.iconst 1, 1) = true))) ∧ (((fp_dq cX6_takeLying 137 (.iadd, 1) = true ∧ fp_dq cX6_takeLying 138 (.iastore, 1) = true) ∧ (fp_dq cX6_takeLying 139 (.iconst 1, 1) = true ∧ fp_dq cX6_takeLying 140 (.ireturn, 1) = true)) ∧ ((fp_dq cX6_readVisit 0 (.aload_n 0, 1) = true ∧ fp_dq cX6_readVisit 1 (.getfield 28, 3) = true) ∧ (fp_dq cX6_readVisit 4 (.getfield 57, 3) = true ∧ fp_dq cX6_readVisit 7 (.bipush 12, 2) = true))))) := by decide +kernel
theorem dX6_takeLying_96 : decode cX6_takeLying 96 = .ok (.ior, 1) := fp_dk fp_hdX6_takeLying_96.1.1.1.1.1
theorem dX6_takeLying_97 : decode cX6_takeLying 97 = .ok (.putfield 46, 3) := fp_dk fp_hdX6_takeLying_96.1.1.1.1.2
theorem dX6_takeLying_100 : decode cX6_takeLying 100 = .ok (.aload_n 0, 1) := fp_dk fp_hdX6_takeLying_96.1.1.1.2.1
theorem dX6_takeLying_101 : decode cX6_takeLying 101 = .ok (.getfield 21, 3) := fp_dk fp_hdX6_takeLying_96.1.1.1.2.2
theorem dX6_takeLying_104 : decode cX6_takeLying 104 = .ok (.getfield 168, 3) := fp_dk fp_hdX6_takeLying_96.1.1.2.1.1
theorem dX6_takeLying_107 : decode cX6_takeLying 107 = .ok (.iload_n 1, 1) := fp_dk fp_hdX6_takeLying_96.1.1.2.1.2
theorem dX6_takeLying_108 : decode cX6_takeLying 108 = .ok (.bipush 8, 2) := fp_dk fp_hdX6_takeLying_96.1.1.2.2.1
theorem dX6_takeLying_110 : decode cX6_takeLying 110 = .ok (.imul, 1) := fp_dk fp_hdX6_takeLying_96.1.1.2.2.2
theorem dX6_takeLying_111 : decode cX6_takeLying 111 = .ok (.aload_n 0, 1) := fp_dk fp_hdX6_takeLying_96.1.2.1.1.1
theorem dX6_takeLying_112 : decode cX6_takeLying 112 = .ok (.getfield 21, 3) := fp_dk fp_hdX6_takeLying_96.1.2.1.1.2
theorem dX6_takeLying_115 : decode cX6_takeLying 115 = .ok (.getfield 166, 3) := fp_dk fp_hdX6_takeLying_96.1.2.1.2.1
theorem dX6_takeLying_118 : decode cX6_takeLying 118 = .ok (.iload_n 1, 1) := fp_dk fp_hdX6_takeLying_96.1.2.1.2.2
theorem dX6_takeLying_119 : decode cX6_takeLying 119 = .ok (.iaload, 1) := fp_dk fp_hdX6_takeLying_96.1.2.2.1.1
theorem dX6_takeLying_120 : decode cX6_takeLying 120 = .ok (.iadd, 1) := fp_dk fp_hdX6_takeLying_96.1.2.2.1.2
theorem dX6_takeLying_121 : decode cX6_takeLying 121 = .ok (.aload_n 0, 1) := fp_dk fp_hdX6_takeLying_96.1.2.2.2.1
theorem dX6_takeLying_122 : decode cX6_takeLying 122 = .ok (.getfield 86, 3) := fp_dk fp_hdX6_takeLying_96.1.2.2.2.2
theorem dX6_takeLying_125 : decode cX6_takeLying 125 = .ok (.iastore, 1) := fp_dk fp_hdX6_takeLying_96.2.1.1.1.1
theorem dX6_takeLying_126 : decode cX6_takeLying 126 = .ok (.aload_n 0, 1) := fp_dk fp_hdX6_takeLying_96.2.1.1.1.2
theorem dX6_takeLying_127 : decode cX6_takeLying 127 = .ok (.getfield 21, 3) := fp_dk fp_hdX6_takeLying_96.2.1.1.2.1
theorem dX6_takeLying_130 : decode cX6_takeLying 130 = .ok (.getfield 166, 3) := fp_dk fp_hdX6_takeLying_96.2.1.1.2.2
theorem dX6_takeLying_133 : decode cX6_takeLying 133 = .ok (.iload_n 1, 1) := fp_dk fp_hdX6_takeLying_96.2.1.2.1.1
theorem dX6_takeLying_134 : decode cX6_takeLying 134 = .ok (.dup2, 1) := fp_dk fp_hdX6_takeLying_96.2.1.2.1.2
theorem dX6_takeLying_135 : decode cX6_takeLying 135 = .ok (.iaload, 1) := fp_dk fp_hdX6_takeLying_96.2.1.2.2.1
theorem dX6_takeLying_136 : decode cX6_takeLying 136 = .ok (.iconst 1, 1) := fp_dk fp_hdX6_takeLying_96.2.1.2.2.2
theorem dX6_takeLying_137 : decode cX6_takeLying 137 = .ok (.iadd, 1) := fp_dk fp_hdX6_takeLying_96.2.2.1.1.1
theorem dX6_takeLying_138 : decode cX6_takeLying 138 = .ok (.iastore, 1) := fp_dk fp_hdX6_takeLying_96.2.2.1.1.2
theorem dX6_takeLying_139 : decode cX6_takeLying 139 = .ok (.iconst 1, 1) := fp_dk fp_hdX6_takeLying_96.2.2.1.2.1
theorem dX6_takeLying_140 : decode cX6_takeLying 140 = .ok (.ireturn, 1) := fp_dk fp_hdX6_takeLying_96.2.2.1.2.2
theorem dX6_readVisit_0 : decode cX6_readVisit 0 = .ok (.aload_n 0, 1) := fp_dk fp_hdX6_takeLying_96.2.2.2.1.1
theorem dX6_readVisit_1 : decode cX6_readVisit 1 = .ok (.getfield 28, 3) := fp_dk fp_hdX6_takeLying_96.2.2.2.1.2
theorem dX6_readVisit_4 : decode cX6_readVisit 4 = .ok (.getfield 57, 3) := fp_dk fp_hdX6_takeLying_96.2.2.2.2.1
theorem dX6_readVisit_7 : decode cX6_readVisit 7 = .ok (.bipush 12, 2) := fp_dk fp_hdX6_takeLying_96.2.2.2.2.2
theorem fp_hdX6_readVisit_9 : (((((fp_dq cX6_readVisit 9 (.if_icmp .lt 13, 3) = true ∧ fp_dq cX6_readVisit 12 (.aload_n 0, 1) = true) ∧ (fp_dq cX6_readVisit 13 (.iconst 5, 1) = true ∧ fp_dq cX6_readVisit 14 (.aload_n 0, 1) = true)) ∧ ((fp_dq cX6_readVisit 15 (.getfield 76, 3) = true ∧ fp_dq cX6_readVisit 18 (.invokevirtual 89, 3) = true) ∧ (fp_dq cX6_readVisit 21 (.ireturn, 1) = true ∧ fp_dq cX6_readVisit 22 (.aload_n 0, 1) = true))) ∧ (((fp_dq cX6_readVisit 23 (.aload_n 0, 1) = true ∧ fp_dq cX6_readVisit 24 (.getfield 28, 3) = true) ∧ (fp_dq cX6_readVisit 27 (.invokevirtual 170, 3) = true ∧ fp_dq cX6_readVisit 30 (.bipush 99, 2) = true)) ∧ ((fp_dq cX6_readVisit 32 (.invokevirtual 132, 3) = true ∧ fp_dq cX6_readVisit 35 (.ifCond .ne 5, 3) = true) ∧ (fp_dq cX6_readVisit 38 (.iconst 0, 1) = true ∧ fp_dq cX6_readVisit 39 (.ireturn, 1) = true)))) ∧ ((((fp_dq cX6_readVisit 40 (.aload_n 0, 1) = true ∧ fp_dq cX6_readVisit 41 (.getfield 86, 3) = true) ∧ (fp_dq cX6_readVisit 44 (.istore_n 2, 1) = true ∧ fp_dq cX6_readVisit 45 (.aload_n 0, 1) = true)) ∧ ((fp_dq cX6_readVisit 46 (.iconst 0, 1) = true ∧ fp_dq cX6_readVisit 47 (.iconst 3, 1) = true) ∧ (fp_dq cX6_readVisit 48 (.invokevirtual 132, 3) = true ∧ fp_dq cX6_readVisit 51 (.ifCond .ne 5, 3) = true))) ∧ (((fp_dq cX6_readVisit 54 (.iconst 0, 1) = true ∧ fp_dq cX6_readVisit 55 (.ireturn, 1) = true) ∧ (fp_dq cX6_readVisit 56 (.aload_n 0, 1) = true ∧ fp_dq cX6_readVisit 57 (.getfield 86, 3) = true)) ∧ ((fp_dq cX6_readVisit 60 (.istore_n 3, 1) = true ∧ fp_dq cX6_readVisit 61 (.aload_n 0, 1) = true) ∧ (fp_dq cX6_readVisit 62 (.iconst 0, 1) = true ∧ fp_dq cX6_readVisit 63 (.iconst 2, 1) = true))))) := by decide +kernel
theorem dX6_readVisit_9 : decode cX6_readVisit 9 = .ok (.if_icmp .lt 13, 3) := fp_dk fp_hdX6_readVisit_9.1.1.1.1.1
theorem dX6_readVisit_12 : decode cX6_readVisit 12 = .ok (.aload_n 0, 1) := fp_dk fp_hdX6_readVisit_9.1.1.1.1.2
theorem dX6_readVisit_13 : decode cX6_readVisit 13 = .ok (.iconst 5, 1) := fp_dk fp_hdX6_readVisit_9.1.1.1.2.1
theorem dX6_readVisit_14 : decode cX6_readVisit 14 = .ok (.aload_n 0, 1) := fp_dk fp_hdX6_readVisit_9.1.1.1.2.2
theorem dX6_readVisit_15 : decode cX6_readVisit 15 = .ok (.getfield 76, 3) := fp_dk fp_hdX6_readVisit_9.1.1.2.1.1
theorem dX6_readVisit_18 : decode cX6_readVisit 18 = .ok (.invokevirtual 89, 3) := fp_dk fp_hdX6_readVisit_9.1.1.2.1.2
theorem dX6_readVisit_21 : decode cX6_readVisit 21 = .ok (.ireturn, 1) := fp_dk fp_hdX6_readVisit_9.1.1.2.2.1
theorem dX6_readVisit_22 : decode cX6_readVisit 22 = .ok (.aload_n 0, 1) := fp_dk fp_hdX6_readVisit_9.1.1.2.2.2
theorem dX6_readVisit_23 : decode cX6_readVisit 23 = .ok (.aload_n 0, 1) := fp_dk fp_hdX6_readVisit_9.1.2.1.1.1
theorem dX6_readVisit_24 : decode cX6_readVisit 24 = .ok (.getfield 28, 3) := fp_dk fp_hdX6_readVisit_9.1.2.1.1.2
theorem dX6_readVisit_27 : decode cX6_readVisit 27 = .ok (.invokevirtual 170, 3) := fp_dk fp_hdX6_readVisit_9.1.2.1.2.1
theorem dX6_readVisit_30 : decode cX6_readVisit 30 = .ok (.bipush 99, 2) := fp_dk fp_hdX6_readVisit_9.1.2.1.2.2
theorem dX6_readVisit_32 : decode cX6_readVisit 32 = .ok (.invokevirtual 132, 3) := fp_dk fp_hdX6_readVisit_9.1.2.2.1.1
theorem dX6_readVisit_35 : decode cX6_readVisit 35 = .ok (.ifCond .ne 5, 3) := fp_dk fp_hdX6_readVisit_9.1.2.2.1.2
theorem dX6_readVisit_38 : decode cX6_readVisit 38 = .ok (.iconst 0, 1) := fp_dk fp_hdX6_readVisit_9.1.2.2.2.1
theorem dX6_readVisit_39 : decode cX6_readVisit 39 = .ok (.ireturn, 1) := fp_dk fp_hdX6_readVisit_9.1.2.2.2.2
theorem dX6_readVisit_40 : decode cX6_readVisit 40 = .ok (.aload_n 0, 1) := fp_dk fp_hdX6_readVisit_9.2.1.1.1.1
theorem dX6_readVisit_41 : decode cX6_readVisit 41 = .ok (.getfield 86, 3) := fp_dk fp_hdX6_readVisit_9.2.1.1.1.2
theorem dX6_readVisit_44 : decode cX6_readVisit 44 = .ok (.istore_n 2, 1) := fp_dk fp_hdX6_readVisit_9.2.1.1.2.1
theorem dX6_readVisit_45 : decode cX6_readVisit 45 = .ok (.aload_n 0, 1) := fp_dk fp_hdX6_readVisit_9.2.1.1.2.2
theorem dX6_readVisit_46 : decode cX6_readVisit 46 = .ok (.iconst 0, 1) := fp_dk fp_hdX6_readVisit_9.2.1.2.1.1
theorem dX6_readVisit_47 : decode cX6_readVisit 47 = .ok (.iconst 3, 1) := fp_dk fp_hdX6_readVisit_9.2.1.2.1.2
theorem dX6_readVisit_48 : decode cX6_readVisit 48 = .ok (.invokevirtual 132, 3) := fp_dk fp_hdX6_readVisit_9.2.1.2.2.1
theorem dX6_readVisit_51 : decode cX6_readVisit 51 = .ok (.ifCond .ne 5, 3) := fp_dk fp_hdX6_readVisit_9.2.1.2.2.2
theorem dX6_readVisit_54 : decode cX6_readVisit 54 = .ok (.iconst 0, 1) := fp_dk fp_hdX6_readVisit_9.2.2.1.1.1
theorem dX6_readVisit_55 : decode cX6_readVisit 55 = .ok (.ireturn, 1) := fp_dk fp_hdX6_readVisit_9.2.2.1.1.2
theorem dX6_readVisit_56 : decode cX6_readVisit 56 = .ok (.aload_n 0, 1) := fp_dk fp_hdX6_readVisit_9.2.2.1.2.1
theorem dX6_readVisit_57 : decode cX6_readVisit 57 = .ok (.getfield 86, 3) := fp_dk fp_hdX6_readVisit_9.2.2.1.2.2
theorem dX6_readVisit_60 : decode cX6_readVisit 60 = .ok (.istore_n 3, 1) := fp_dk fp_hdX6_readVisit_9.2.2.2.1.1
theorem dX6_readVisit_61 : decode cX6_readVisit 61 = .ok (.aload_n 0, 1) := fp_dk fp_hdX6_readVisit_9.2.2.2.1.2
theorem dX6_readVisit_62 : decode cX6_readVisit 62 = .ok (.iconst 0, 1) := fp_dk fp_hdX6_readVisit_9.2.2.2.2.1
theorem dX6_readVisit_63 : decode cX6_readVisit 63 = .ok (.iconst 2, 1) := fp_dk fp_hdX6_readVisit_9.2.2.2.2.2
theorem fp_hdX6_readVisit_64 : (((((fp_dq cX6_readVisit 64 (.invokevirtual 132, 3) = true ∧ fp_dq cX6_readVisit 67 (.ifCond .ne 5, 3) = true) ∧ (fp_dq cX6_readVisit 70 (.iconst 0, 1) = true ∧ fp_dq cX6_readVisit 71 (.ireturn, 1) = true)) ∧ ((fp_dq cX6_readVisit 72 (.aload_n 0, 1) = true ∧ fp_dq cX6_readVisit 73 (.getfield 86, 3) = true) ∧ (fp_dq cX6_readVisit 76 (.istore 4, 2) = true ∧ fp_dq cX6_readVisit 78 (.iload_n 1, 1) = true))) ∧ (((fp_dq cX6_readVisit 79 (.ifCond .eq 15, 3) = true ∧ fp_dq cX6_readVisit 82 (.aload_n 0, 1) = true) ∧ (fp_dq cX6_readVisit 83 (.iconst 0, 1) = true ∧ fp_dq cX6_readVisit 84 (.bipush 9, 2) = true)) ∧ ((fp_dq cX6_readVisit 86 (.invokevirtual 132, 3) = true ∧ fp_dq cX6_readVisit 89 (.ifCond .ne 5, 3) = true) ∧ (fp_dq cX6_readVisit 92 (.iconst 0, 1) = true ∧ fp_dq cX6_readVisit 93 (.ireturn, 1) = true)))) ∧ ((((fp_dq cX6_readVisit 94 (.aload_n 0, 1) = true ∧ fp_dq cX6_readVisit 95 (.getfield 28, 3) = true) ∧ (fp_dq cX6_readVisit 98 (.iload_n 2, 1) = true ∧ fp_dq cX6_readVisit 99 (.iload_n 3, 1) = true)) ∧ ((fp_dq cX6_readVisit 100 (.iload 4, 2) = true ∧ fp_dq cX6_readVisit 102 (.iload_n 1, 1) = true) ∧ (fp_dq cX6_readVisit 103 (.ifCond .eq 10, 3) = true ∧ fp_dq cX6_readVisit 106 (.aload_n 0, 1) = true))) ∧ (((fp_dq cX6_readVisit 107 (.getfield 86, 3) = true ∧ fp_dq cX6_readVisit 110 (.goto 5, 3) = true) ∧ (fp_dq cX6_readVisit 113 (.bipush (-4), 2) = true ∧ fp_dq cX6_readVisit 115 (.invokevirtual 173, 3) = true)) ∧ ((fp_dq cX6_readVisit 118 (.pop, 1) = true ∧ fp_dq cX6_readVisit 119 (.aload_n 0, 1) = true) ∧ (fp_dq cX6_readVisit 120 (.invokevirtual 145, 3) = true ∧ fp_dq cX6_readVisit 123 (.ireturn, 1) = true))))) := by decide +kernel
theorem dX6_readVisit_64 : decode cX6_readVisit 64 = .ok (.invokevirtual 132, 3) := fp_dk fp_hdX6_readVisit_64.1.1.1.1.1
theorem dX6_readVisit_67 : decode cX6_readVisit 67 = .ok (.ifCond .ne 5, 3) := fp_dk fp_hdX6_readVisit_64.1.1.1.1.2
theorem dX6_readVisit_70 : decode cX6_readVisit 70 = .ok (.iconst 0, 1) := fp_dk fp_hdX6_readVisit_64.1.1.1.2.1
theorem dX6_readVisit_71 : decode cX6_readVisit 71 = .ok (.ireturn, 1) := fp_dk fp_hdX6_readVisit_64.1.1.1.2.2
theorem dX6_readVisit_72 : decode cX6_readVisit 72 = .ok (.aload_n 0, 1) := fp_dk fp_hdX6_readVisit_64.1.1.2.1.1
theorem dX6_readVisit_73 : decode cX6_readVisit 73 = .ok (.getfield 86, 3) := fp_dk fp_hdX6_readVisit_64.1.1.2.1.2
theorem dX6_readVisit_76 : decode cX6_readVisit 76 = .ok (.istore 4, 2) := fp_dk fp_hdX6_readVisit_64.1.1.2.2.1
theorem dX6_readVisit_78 : decode cX6_readVisit 78 = .ok (.iload_n 1, 1) := fp_dk fp_hdX6_readVisit_64.1.1.2.2.2
theorem dX6_readVisit_79 : decode cX6_readVisit 79 = .ok (.ifCond .eq 15, 3) := fp_dk fp_hdX6_readVisit_64.1.2.1.1.1
theorem dX6_readVisit_82 : decode cX6_readVisit 82 = .ok (.aload_n 0, 1) := fp_dk fp_hdX6_readVisit_64.1.2.1.1.2
theorem dX6_readVisit_83 : decode cX6_readVisit 83 = .ok (.iconst 0, 1) := fp_dk fp_hdX6_readVisit_64.1.2.1.2.1
theorem dX6_readVisit_84 : decode cX6_readVisit 84 = .ok (.bipush 9, 2) := fp_dk fp_hdX6_readVisit_64.1.2.1.2.2
theorem dX6_readVisit_86 : decode cX6_readVisit 86 = .ok (.invokevirtual 132, 3) := fp_dk fp_hdX6_readVisit_64.1.2.2.1.1
theorem dX6_readVisit_89 : decode cX6_readVisit 89 = .ok (.ifCond .ne 5, 3) := fp_dk fp_hdX6_readVisit_64.1.2.2.1.2
theorem dX6_readVisit_92 : decode cX6_readVisit 92 = .ok (.iconst 0, 1) := fp_dk fp_hdX6_readVisit_64.1.2.2.2.1
theorem dX6_readVisit_93 : decode cX6_readVisit 93 = .ok (.ireturn, 1) := fp_dk fp_hdX6_readVisit_64.1.2.2.2.2
theorem dX6_readVisit_94 : decode cX6_readVisit 94 = .ok (.aload_n 0, 1) := fp_dk fp_hdX6_readVisit_64.2.1.1.1.1
theorem dX6_readVisit_95 : decode cX6_readVisit 95 = .ok (.getfield 28, 3) := fp_dk fp_hdX6_readVisit_64.2.1.1.1.2
theorem dX6_readVisit_98 : decode cX6_readVisit 98 = .ok (.iload_n 2, 1) := fp_dk fp_hdX6_readVisit_64.2.1.1.2.1
theorem dX6_readVisit_99 : decode cX6_readVisit 99 = .ok (.iload_n 3, 1) := fp_dk fp_hdX6_readVisit_64.2.1.1.2.2
theorem dX6_readVisit_100 : decode cX6_readVisit 100 = .ok (.iload 4, 2) := fp_dk fp_hdX6_readVisit_64.2.1.2.1.1
theorem dX6_readVisit_102 : decode cX6_readVisit 102 = .ok (.iload_n 1, 1) := fp_dk fp_hdX6_readVisit_64.2.1.2.1.2
theorem dX6_readVisit_103 : decode cX6_readVisit 103 = .ok (.ifCond .eq 10, 3) := fp_dk fp_hdX6_readVisit_64.2.1.2.2.1
theorem dX6_readVisit_106 : decode cX6_readVisit 106 = .ok (.aload_n 0, 1) := fp_dk fp_hdX6_readVisit_64.2.1.2.2.2
theorem dX6_readVisit_107 : decode cX6_readVisit 107 = .ok (.getfield 86, 3) := fp_dk fp_hdX6_readVisit_64.2.2.1.1.1
theorem dX6_readVisit_110 : decode cX6_readVisit 110 = .ok (.goto 5, 3) := fp_dk fp_hdX6_readVisit_64.2.2.1.1.2
theorem dX6_readVisit_113 : decode cX6_readVisit 113 = .ok (.bipush (-4), 2) := fp_dk fp_hdX6_readVisit_64.2.2.1.2.1
theorem dX6_readVisit_115 : decode cX6_readVisit 115 = .ok (.invokevirtual 173, 3) := fp_dk fp_hdX6_readVisit_64.2.2.1.2.2
theorem dX6_readVisit_118 : decode cX6_readVisit 118 = .ok (.pop, 1) := fp_dk fp_hdX6_readVisit_64.2.2.2.1.1
theorem dX6_readVisit_119 : decode cX6_readVisit 119 = .ok (.aload_n 0, 1) := fp_dk fp_hdX6_readVisit_64.2.2.2.1.2
theorem dX6_readVisit_120 : decode cX6_readVisit 120 = .ok (.invokevirtual 145, 3) := fp_dk fp_hdX6_readVisit_64.2.2.2.2.1
theorem dX6_readVisit_123 : decode cX6_readVisit 123 = .ok (.ireturn, 1) := fp_dk fp_hdX6_readVisit_64.2.2.2.2.2
theorem fp_hdX6_readChance_0 : (((((fp_dq cX6_readChance 0 (.aload_n 0, 1) = true ∧ fp_dq cX6_readChance 1 (.getfield 49, 3) = true) ∧ (fp_dq cX6_readChance 4 (.ifCond .eq 13, 3) = true ∧ fp_dq cX6_readChance 7 (.aload_n 0, 1) = true)) ∧ ((fp_dq cX6_readChance 8 (.iconst 4, 1) = true ∧ fp_dq cX6_readChance 9 (.aload_n 0, 1) = true) ∧ (fp_dq cX6_readChance 10 (.getfield 76, 3) = true ∧ fp_dq cX6_readChance 13 (.invokevirtual 89, 3) = true))) ∧ (((fp_dq cX6_readChance 16 (.ireturn, 1) = true ∧ fp_dq cX6_readChance 17 (.aload_n 0, 1) = true) ∧ (fp_dq cX6_readChance 18 (.iconst 1, 1) = true ∧ fp_dq cX6_readChance 19 (.putfield 49, 3) = true)) ∧ ((fp_dq cX6_readChance 22 (.aload_n 0, 1) = true ∧ fp_dq cX6_readChance 23 (.iconst 0, 1) = true) ∧ (fp_dq cX6_readChance 24 (.bipush 10, 2) = true ∧ fp_dq cX6_readChance 26 (.invokevirtual 132, 3) = true)))) ∧ ((((fp_dq cX6_readChance 29 (.ifCond .ne 5, 3) = true ∧ fp_dq cX6_readChance 32 (.iconst 0, 1) = true) ∧ (fp_dq cX6_readChance 33 (.ireturn, 1) = true ∧ fp_dq cX6_readChance 34 (.aload_n 0, 1) = true)) ∧ ((fp_dq cX6_readChance 35 (.getfield 12, 3) = true ∧ fp_dq cX6_readChance 38 (.aload_n 0, 1) = true) ∧ (fp_dq cX6_readChance 39 (.getfield 86, 3) = true ∧ fp_dq cX6_readChance 42 (.putfield 177, 3) = true))) ∧ (((fp_dq cX6_readChance 45 (.aload_n 0, 1) = true ∧ fp_dq cX6_readChance 46 (.invokevirtual 145, 3) = true) ∧ (fp_dq cX6_readChance 49 (.ireturn, 1) = true ∧ fp_dq cX6_settle 0 (.iconst 0, 1) = true)) ∧ ((fp_dq cX6_settle 1 (.istore_n 1, 1) = true ∧ fp_dq cX6_settle 2 (.iload_n 1, 1) = true) ∧ (fp_dq cX6_settle 3 (.aload_n 0, 1) = true ∧ fp_dq cX6_settle 4 (.getfield 12, 3) = true))))) := by decide +kernel
theorem dX6_readChance_0 : decode cX6_readChance 0 = .ok (.aload_n 0, 1) := fp_dk fp_hdX6_readChance_0.1.1.1.1.1
theorem dX6_readChance_1 : decode cX6_readChance 1 = .ok (.getfield 49, 3) := fp_dk fp_hdX6_readChance_0.1.1.1.1.2
theorem dX6_readChance_4 : decode cX6_readChance 4 = .ok (.ifCond .eq 13, 3) := fp_dk fp_hdX6_readChance_0.1.1.1.2.1
theorem dX6_readChance_7 : decode cX6_readChance 7 = .ok (.aload_n 0, 1) := fp_dk fp_hdX6_readChance_0.1.1.1.2.2
theorem dX6_readChance_8 : decode cX6_readChance 8 = .ok (.iconst 4, 1) := fp_dk fp_hdX6_readChance_0.1.1.2.1.1
theorem dX6_readChance_9 : decode cX6_readChance 9 = .ok (.aload_n 0, 1) := fp_dk fp_hdX6_readChance_0.1.1.2.1.2
theorem dX6_readChance_10 : decode cX6_readChance 10 = .ok (.getfield 76, 3) := fp_dk fp_hdX6_readChance_0.1.1.2.2.1
theorem dX6_readChance_13 : decode cX6_readChance 13 = .ok (.invokevirtual 89, 3) := fp_dk fp_hdX6_readChance_0.1.1.2.2.2
theorem dX6_readChance_16 : decode cX6_readChance 16 = .ok (.ireturn, 1) := fp_dk fp_hdX6_readChance_0.1.2.1.1.1
theorem dX6_readChance_17 : decode cX6_readChance 17 = .ok (.aload_n 0, 1) := fp_dk fp_hdX6_readChance_0.1.2.1.1.2
theorem dX6_readChance_18 : decode cX6_readChance 18 = .ok (.iconst 1, 1) := fp_dk fp_hdX6_readChance_0.1.2.1.2.1
theorem dX6_readChance_19 : decode cX6_readChance 19 = .ok (.putfield 49, 3) := fp_dk fp_hdX6_readChance_0.1.2.1.2.2
theorem dX6_readChance_22 : decode cX6_readChance 22 = .ok (.aload_n 0, 1) := fp_dk fp_hdX6_readChance_0.1.2.2.1.1
theorem dX6_readChance_23 : decode cX6_readChance 23 = .ok (.iconst 0, 1) := fp_dk fp_hdX6_readChance_0.1.2.2.1.2
theorem dX6_readChance_24 : decode cX6_readChance 24 = .ok (.bipush 10, 2) := fp_dk fp_hdX6_readChance_0.1.2.2.2.1
theorem dX6_readChance_26 : decode cX6_readChance 26 = .ok (.invokevirtual 132, 3) := fp_dk fp_hdX6_readChance_0.1.2.2.2.2
theorem dX6_readChance_29 : decode cX6_readChance 29 = .ok (.ifCond .ne 5, 3) := fp_dk fp_hdX6_readChance_0.2.1.1.1.1
theorem dX6_readChance_32 : decode cX6_readChance 32 = .ok (.iconst 0, 1) := fp_dk fp_hdX6_readChance_0.2.1.1.1.2
theorem dX6_readChance_33 : decode cX6_readChance 33 = .ok (.ireturn, 1) := fp_dk fp_hdX6_readChance_0.2.1.1.2.1
theorem dX6_readChance_34 : decode cX6_readChance 34 = .ok (.aload_n 0, 1) := fp_dk fp_hdX6_readChance_0.2.1.1.2.2
theorem dX6_readChance_35 : decode cX6_readChance 35 = .ok (.getfield 12, 3) := fp_dk fp_hdX6_readChance_0.2.1.2.1.1
theorem dX6_readChance_38 : decode cX6_readChance 38 = .ok (.aload_n 0, 1) := fp_dk fp_hdX6_readChance_0.2.1.2.1.2
theorem dX6_readChance_39 : decode cX6_readChance 39 = .ok (.getfield 86, 3) := fp_dk fp_hdX6_readChance_0.2.1.2.2.1
theorem dX6_readChance_42 : decode cX6_readChance 42 = .ok (.putfield 177, 3) := fp_dk fp_hdX6_readChance_0.2.1.2.2.2
theorem dX6_readChance_45 : decode cX6_readChance 45 = .ok (.aload_n 0, 1) := fp_dk fp_hdX6_readChance_0.2.2.1.1.1
theorem dX6_readChance_46 : decode cX6_readChance 46 = .ok (.invokevirtual 145, 3) := fp_dk fp_hdX6_readChance_0.2.2.1.1.2
theorem dX6_readChance_49 : decode cX6_readChance 49 = .ok (.ireturn, 1) := fp_dk fp_hdX6_readChance_0.2.2.1.2.1
theorem dX6_settle_0 : decode cX6_settle 0 = .ok (.iconst 0, 1) := fp_dk fp_hdX6_readChance_0.2.2.1.2.2
theorem dX6_settle_1 : decode cX6_settle 1 = .ok (.istore_n 1, 1) := fp_dk fp_hdX6_readChance_0.2.2.2.1.1
theorem dX6_settle_2 : decode cX6_settle 2 = .ok (.iload_n 1, 1) := fp_dk fp_hdX6_readChance_0.2.2.2.1.2
theorem dX6_settle_3 : decode cX6_settle 3 = .ok (.aload_n 0, 1) := fp_dk fp_hdX6_readChance_0.2.2.2.2.1
theorem dX6_settle_4 : decode cX6_settle 4 = .ok (.getfield 12, 3) := fp_dk fp_hdX6_readChance_0.2.2.2.2.2
theorem fp_hdX6_settle_7 : (((((fp_dq cX6_settle 7 (.getfield 154, 3) = true ∧ fp_dq cX6_settle 10 (.if_icmp .ge 49, 3) = true) ∧ (fp_dq cX6_settle 13 (.iconst 0, 1) = true ∧ fp_dq cX6_settle 14 (.istore_n 2, 1) = true)) ∧ ((fp_dq cX6_settle 15 (.iload_n 2, 1) = true ∧ fp_dq cX6_settle 16 (.aload_n 0, 1) = true) ∧ (fp_dq cX6_settle 17 (.getfield 21, 3) = true ∧ fp_dq cX6_settle 20 (.getfield 166, 3) = true))) ∧ (((fp_dq cX6_settle 23 (.iload_n 1, 1) = true ∧ fp_dq cX6_settle 24 (.iaload, 1) = true) ∧ (fp_dq cX6_settle 25 (.if_icmp .ge 28, 3) = true ∧ fp_dq cX6_settle 28 (.aload_n 0, 1) = true)) ∧ ((fp_dq cX6_settle 29 (.aload_n 0, 1) = true ∧ fp_dq cX6_settle 30 (.getfield 21, 3) = true) ∧ (fp_dq cX6_settle 33 (.getfield 168, 3) = true ∧ fp_dq cX6_settle 36 (.iload_n 1, 1) = true)))) ∧ ((((fp_dq cX6_settle 37 (.bipush 8, 2) = true ∧ fp_dq cX6_settle 39 (.imul, 1) = true) ∧ (fp_dq cX6_settle 40 (.iload_n 2, 1) = true ∧ fp_dq cX6_settle 41 (.iadd, 1) = true)) ∧ ((fp_dq cX6_settle 42 (.iaload, 1) = true ∧ fp_dq cX6_settle 43 (.iload_n 1, 1) = true) ∧ (fp_dq cX6_settle 44 (.invokevirtual 180, 3) = true ∧ fp_dq cX6_settle 47 (.iinc 2 1, 3) = true))) ∧ (((fp_dq cX6_settle 50 (.goto (-35), 3) = true ∧ fp_dq cX6_settle 53 (.iinc 1 1, 3) = true) ∧ (fp_dq cX6_settle 56 (.goto (-54), 3) = true ∧ fp_dq cX6_settle 59 (.iconst 0, 1) = true)) ∧ ((fp_dq cX6_settle 60 (.istore_n 1, 1) = true ∧ fp_dq cX6_settle 61 (.iload_n 1, 1) = true) ∧ (fp_dq cX6_settle 62 (.aload_n 0, 1) = true ∧ fp_dq cX6_settle 63 (.getfield 28, 3) = true))))) := by decide +kernel
theorem dX6_settle_7 : decode cX6_settle 7 = .ok (.getfield 154, 3) := fp_dk fp_hdX6_settle_7.1.1.1.1.1
theorem dX6_settle_10 : decode cX6_settle 10 = .ok (.if_icmp .ge 49, 3) := fp_dk fp_hdX6_settle_7.1.1.1.1.2
theorem dX6_settle_13 : decode cX6_settle 13 = .ok (.iconst 0, 1) := fp_dk fp_hdX6_settle_7.1.1.1.2.1
theorem dX6_settle_14 : decode cX6_settle 14 = .ok (.istore_n 2, 1) := fp_dk fp_hdX6_settle_7.1.1.1.2.2
theorem dX6_settle_15 : decode cX6_settle 15 = .ok (.iload_n 2, 1) := fp_dk fp_hdX6_settle_7.1.1.2.1.1
theorem dX6_settle_16 : decode cX6_settle 16 = .ok (.aload_n 0, 1) := fp_dk fp_hdX6_settle_7.1.1.2.1.2
theorem dX6_settle_17 : decode cX6_settle 17 = .ok (.getfield 21, 3) := fp_dk fp_hdX6_settle_7.1.1.2.2.1
theorem dX6_settle_20 : decode cX6_settle 20 = .ok (.getfield 166, 3) := fp_dk fp_hdX6_settle_7.1.1.2.2.2
theorem dX6_settle_23 : decode cX6_settle 23 = .ok (.iload_n 1, 1) := fp_dk fp_hdX6_settle_7.1.2.1.1.1
theorem dX6_settle_24 : decode cX6_settle 24 = .ok (.iaload, 1) := fp_dk fp_hdX6_settle_7.1.2.1.1.2
theorem dX6_settle_25 : decode cX6_settle 25 = .ok (.if_icmp .ge 28, 3) := fp_dk fp_hdX6_settle_7.1.2.1.2.1
theorem dX6_settle_28 : decode cX6_settle 28 = .ok (.aload_n 0, 1) := fp_dk fp_hdX6_settle_7.1.2.1.2.2
theorem dX6_settle_29 : decode cX6_settle 29 = .ok (.aload_n 0, 1) := fp_dk fp_hdX6_settle_7.1.2.2.1.1
theorem dX6_settle_30 : decode cX6_settle 30 = .ok (.getfield 21, 3) := fp_dk fp_hdX6_settle_7.1.2.2.1.2
theorem dX6_settle_33 : decode cX6_settle 33 = .ok (.getfield 168, 3) := fp_dk fp_hdX6_settle_7.1.2.2.2.1
theorem dX6_settle_36 : decode cX6_settle 36 = .ok (.iload_n 1, 1) := fp_dk fp_hdX6_settle_7.1.2.2.2.2
theorem dX6_settle_37 : decode cX6_settle 37 = .ok (.bipush 8, 2) := fp_dk fp_hdX6_settle_7.2.1.1.1.1
theorem dX6_settle_39 : decode cX6_settle 39 = .ok (.imul, 1) := fp_dk fp_hdX6_settle_7.2.1.1.1.2
theorem dX6_settle_40 : decode cX6_settle 40 = .ok (.iload_n 2, 1) := fp_dk fp_hdX6_settle_7.2.1.1.2.1
theorem dX6_settle_41 : decode cX6_settle 41 = .ok (.iadd, 1) := fp_dk fp_hdX6_settle_7.2.1.1.2.2
theorem dX6_settle_42 : decode cX6_settle 42 = .ok (.iaload, 1) := fp_dk fp_hdX6_settle_7.2.1.2.1.1
theorem dX6_settle_43 : decode cX6_settle 43 = .ok (.iload_n 1, 1) := fp_dk fp_hdX6_settle_7.2.1.2.1.2
theorem dX6_settle_44 : decode cX6_settle 44 = .ok (.invokevirtual 180, 3) := fp_dk fp_hdX6_settle_7.2.1.2.2.1
theorem dX6_settle_47 : decode cX6_settle 47 = .ok (.iinc 2 1, 3) := fp_dk fp_hdX6_settle_7.2.1.2.2.2
theorem dX6_settle_50 : decode cX6_settle 50 = .ok (.goto (-35), 3) := fp_dk fp_hdX6_settle_7.2.2.1.1.1
theorem dX6_settle_53 : decode cX6_settle 53 = .ok (.iinc 1 1, 3) := fp_dk fp_hdX6_settle_7.2.2.1.1.2
theorem dX6_settle_56 : decode cX6_settle 56 = .ok (.goto (-54), 3) := fp_dk fp_hdX6_settle_7.2.2.1.2.1
theorem dX6_settle_59 : decode cX6_settle 59 = .ok (.iconst 0, 1) := fp_dk fp_hdX6_settle_7.2.2.1.2.2
theorem dX6_settle_60 : decode cX6_settle 60 = .ok (.istore_n 1, 1) := fp_dk fp_hdX6_settle_7.2.2.2.1.1
theorem dX6_settle_61 : decode cX6_settle 61 = .ok (.iload_n 1, 1) := fp_dk fp_hdX6_settle_7.2.2.2.1.2
theorem dX6_settle_62 : decode cX6_settle 62 = .ok (.aload_n 0, 1) := fp_dk fp_hdX6_settle_7.2.2.2.2.1
theorem dX6_settle_63 : decode cX6_settle 63 = .ok (.getfield 28, 3) := fp_dk fp_hdX6_settle_7.2.2.2.2.2
theorem fp_hdX6_settle_66 : (((((fp_dq cX6_settle 66 (.getfield 57, 3) = true ∧ fp_dq cX6_settle 69 (.if_icmp .ge 79, 3) = true) ∧ (fp_dq cX6_settle 72 (.aload_n 0, 1) = true ∧ fp_dq cX6_settle 73 (.getfield 28, 3) = true)) ∧ ((fp_dq cX6_settle 76 (.iload_n 1, 1) = true ∧ fp_dq cX6_settle 77 (.invokevirtual 184, 3) = true) ∧ (fp_dq cX6_settle 80 (.ifCond .ne 22, 3) = true ∧ fp_dq cX6_settle 83 (.aload_n 0, 1) = true))) ∧ (((fp_dq cX6_settle 84 (.getfield 12, 3) = true ∧ fp_dq cX6_settle 87 (.aload_n 0, 1) = true) ∧ (fp_dq cX6_settle 88 (.getfield 28, 3) = true ∧ fp_dq cX6_settle 91 (.getfield 187, 3) = true)) ∧ ((fp_dq cX6_settle 94 (.iload_n 1, 1) = true ∧ fp_dq cX6_settle 95 (.iaload, 1) = true) ∧ (fp_dq cX6_settle 96 (.invokevirtual 190, 3) = true ∧ fp_dq cX6_settle 99 (.ifCond .eq 7, 3) = true)))) ∧ ((((fp_dq cX6_settle 102 (.iconst 1, 1) = true ∧ fp_dq cX6_settle 103 (.goto 4, 3) = true) ∧ (fp_dq cX6_settle 106 (.iconst 0, 1) = true ∧ fp_dq cX6_settle 107 (.istore_n 2, 1) = true)) ∧ ((fp_dq cX6_settle 108 (.iload_n 2, 1) = true ∧ fp_dq cX6_settle 109 (.ifCond .eq 22, 3) = true) ∧ (fp_dq cX6_settle 112 (.aload_n 0, 1) = true ∧ fp_dq cX6_settle 113 (.getfield 12, 3) = true))) ∧ (((fp_dq cX6_settle 116 (.aload_n 0, 1) = true ∧ fp_dq cX6_settle 117 (.getfield 28, 3) = true) ∧ (fp_dq cX6_settle 120 (.getfield 193, 3) = true ∧ fp_dq cX6_settle 123 (.iload_n 1, 1) = true)) ∧ ((fp_dq cX6_settle 124 (.iaload, 1) = true ∧ fp_dq cX6_settle 125 (.invokevirtual 196, 3) = true) ∧ (fp_dq cX6_settle 128 (.ifCond .ne 14, 3) = true ∧ fp_dq cX6_settle 131 (.aload_n 0, 1) = true))))) := by decide +kernel
theorem dX6_settle_66 : decode cX6_settle 66 = .ok (.getfield 57, 3) := fp_dk fp_hdX6_settle_66.1.1.1.1.1
theorem dX6_settle_69 : decode cX6_settle 69 = .ok (.if_icmp .ge 79, 3) := fp_dk fp_hdX6_settle_66.1.1.1.1.2
theorem dX6_settle_72 : decode cX6_settle 72 = .ok (.aload_n 0, 1) := fp_dk fp_hdX6_settle_66.1.1.1.2.1
theorem dX6_settle_73 : decode cX6_settle 73 = .ok (.getfield 28, 3) := fp_dk fp_hdX6_settle_66.1.1.1.2.2
theorem dX6_settle_76 : decode cX6_settle 76 = .ok (.iload_n 1, 1) := fp_dk fp_hdX6_settle_66.1.1.2.1.1
theorem dX6_settle_77 : decode cX6_settle 77 = .ok (.invokevirtual 184, 3) := fp_dk fp_hdX6_settle_66.1.1.2.1.2
theorem dX6_settle_80 : decode cX6_settle 80 = .ok (.ifCond .ne 22, 3) := fp_dk fp_hdX6_settle_66.1.1.2.2.1
theorem dX6_settle_83 : decode cX6_settle 83 = .ok (.aload_n 0, 1) := fp_dk fp_hdX6_settle_66.1.1.2.2.2
theorem dX6_settle_84 : decode cX6_settle 84 = .ok (.getfield 12, 3) := fp_dk fp_hdX6_settle_66.1.2.1.1.1
theorem dX6_settle_87 : decode cX6_settle 87 = .ok (.aload_n 0, 1) := fp_dk fp_hdX6_settle_66.1.2.1.1.2
theorem dX6_settle_88 : decode cX6_settle 88 = .ok (.getfield 28, 3) := fp_dk fp_hdX6_settle_66.1.2.1.2.1
theorem dX6_settle_91 : decode cX6_settle 91 = .ok (.getfield 187, 3) := fp_dk fp_hdX6_settle_66.1.2.1.2.2
theorem dX6_settle_94 : decode cX6_settle 94 = .ok (.iload_n 1, 1) := fp_dk fp_hdX6_settle_66.1.2.2.1.1
theorem dX6_settle_95 : decode cX6_settle 95 = .ok (.iaload, 1) := fp_dk fp_hdX6_settle_66.1.2.2.1.2
theorem dX6_settle_96 : decode cX6_settle 96 = .ok (.invokevirtual 190, 3) := fp_dk fp_hdX6_settle_66.1.2.2.2.1
theorem dX6_settle_99 : decode cX6_settle 99 = .ok (.ifCond .eq 7, 3) := fp_dk fp_hdX6_settle_66.1.2.2.2.2
theorem dX6_settle_102 : decode cX6_settle 102 = .ok (.iconst 1, 1) := fp_dk fp_hdX6_settle_66.2.1.1.1.1
theorem dX6_settle_103 : decode cX6_settle 103 = .ok (.goto 4, 3) := fp_dk fp_hdX6_settle_66.2.1.1.1.2
theorem dX6_settle_106 : decode cX6_settle 106 = .ok (.iconst 0, 1) := fp_dk fp_hdX6_settle_66.2.1.1.2.1
theorem dX6_settle_107 : decode cX6_settle 107 = .ok (.istore_n 2, 1) := fp_dk fp_hdX6_settle_66.2.1.1.2.2
theorem dX6_settle_108 : decode cX6_settle 108 = .ok (.iload_n 2, 1) := fp_dk fp_hdX6_settle_66.2.1.2.1.1
theorem dX6_settle_109 : decode cX6_settle 109 = .ok (.ifCond .eq 22, 3) := fp_dk fp_hdX6_settle_66.2.1.2.1.2
theorem dX6_settle_112 : decode cX6_settle 112 = .ok (.aload_n 0, 1) := fp_dk fp_hdX6_settle_66.2.1.2.2.1
theorem dX6_settle_113 : decode cX6_settle 113 = .ok (.getfield 12, 3) := fp_dk fp_hdX6_settle_66.2.1.2.2.2
theorem dX6_settle_116 : decode cX6_settle 116 = .ok (.aload_n 0, 1) := fp_dk fp_hdX6_settle_66.2.2.1.1.1
theorem dX6_settle_117 : decode cX6_settle 117 = .ok (.getfield 28, 3) := fp_dk fp_hdX6_settle_66.2.2.1.1.2
theorem dX6_settle_120 : decode cX6_settle 120 = .ok (.getfield 193, 3) := fp_dk fp_hdX6_settle_66.2.2.1.2.1
theorem dX6_settle_123 : decode cX6_settle 123 = .ok (.iload_n 1, 1) := fp_dk fp_hdX6_settle_66.2.2.1.2.2
theorem dX6_settle_124 : decode cX6_settle 124 = .ok (.iaload, 1) := fp_dk fp_hdX6_settle_66.2.2.2.1.1
theorem dX6_settle_125 : decode cX6_settle 125 = .ok (.invokevirtual 196, 3) := fp_dk fp_hdX6_settle_66.2.2.2.1.2
theorem dX6_settle_128 : decode cX6_settle 128 = .ok (.ifCond .ne 14, 3) := fp_dk fp_hdX6_settle_66.2.2.2.2.1
theorem dX6_settle_131 : decode cX6_settle 131 = .ok (.aload_n 0, 1) := fp_dk fp_hdX6_settle_66.2.2.2.2.2
theorem fp_hdX6_settle_132 : (((((fp_dq cX6_settle 132 (.bipush 6, 2) = true ∧ fp_dq cX6_settle 134 (.aload_n 0, 1) = true) ∧ (fp_dq cX6_settle 135 (.getfield 36, 3) = true ∧ fp_dq cX6_settle 138 (.invokevirtual 89, 3) = true)) ∧ ((fp_dq cX6_settle 141 (.pop, 1) = true ∧ fp_dq cX6_settle 142 (.iinc 1 1, 3) = true) ∧ (fp_dq cX6_settle 145 (.goto (-84), 3) = true ∧ fp_dq cX6_settle 148 (.return_, 1) = true))) ∧ (((fp_dq cX6_settleThing 0 (.aload_n 0, 1) = true ∧ fp_dq cX6_settleThing 1 (.getfield 12, 3) = true) ∧ (fp_dq cX6_settleThing 4 (.iload_n 1, 1) = true ∧ fp_dq cX6_settleThing 5 (.invokevirtual 190, 3) = true)) ∧ ((fp_dq cX6_settleThing 8 (.ifCond .ne 15, 3) = true ∧ fp_dq cX6_settleThing 11 (.aload_n 0, 1) = true) ∧ (fp_dq cX6_settleThing 12 (.bipush 6, 2) = true ∧ fp_dq cX6_settleThing 14 (.aload_n 0, 1) = true)))) ∧ ((((fp_dq cX6_settleThing 15 (.getfield 36, 3) = true ∧ fp_dq cX6_settleThing 18 (.invokevirtual 89, 3) = true) ∧ (fp_dq cX6_settleThing 21 (.pop, 1) = true ∧ fp_dq cX6_settleThing 22 (.return_, 1) = true)) ∧ ((fp_dq cX6_settleThing 23 (.aload_n 0, 1) = true ∧ fp_dq cX6_settleThing 24 (.getfield 21, 3) = true) ∧ (fp_dq cX6_settleThing 27 (.getfield 199, 3) = true ∧ fp_dq cX6_settleThing 30 (.iload_n 1, 1) = true))) ∧ (((fp_dq cX6_settleThing 31 (.aload_n 0, 1) = true ∧ fp_dq cX6_settleThing 32 (.getfield 21, 3) = true) ∧ (fp_dq cX6_settleThing 35 (.getfield 135, 3) = true ∧ fp_dq cX6_settleThing 38 (.iload_n 1, 1) = true)) ∧ ((fp_dq cX6_settleThing 39 (.iaload, 1) = true ∧ fp_dq cX6_settleThing 40 (.iastore, 1) = true) ∧ (fp_dq cX6_settleThing 41 (.aload_n 0, 1) = true ∧ fp_dq cX6_settleThing 42 (.getfield 21, 3) = true))))) := by decide +kernel
theorem dX6_settle_132 : decode cX6_settle 132 = .ok (.bipush 6, 2) := fp_dk fp_hdX6_settle_132.1.1.1.1.1
theorem dX6_settle_134 : decode cX6_settle 134 = .ok (.aload_n 0, 1) := fp_dk fp_hdX6_settle_132.1.1.1.1.2
theorem dX6_settle_135 : decode cX6_settle 135 = .ok (.getfield 36, 3) := fp_dk fp_hdX6_settle_132.1.1.1.2.1
theorem dX6_settle_138 : decode cX6_settle 138 = .ok (.invokevirtual 89, 3) := fp_dk fp_hdX6_settle_132.1.1.1.2.2
theorem dX6_settle_141 : decode cX6_settle 141 = .ok (.pop, 1) := fp_dk fp_hdX6_settle_132.1.1.2.1.1
theorem dX6_settle_142 : decode cX6_settle 142 = .ok (.iinc 1 1, 3) := fp_dk fp_hdX6_settle_132.1.1.2.1.2
theorem dX6_settle_145 : decode cX6_settle 145 = .ok (.goto (-84), 3) := fp_dk fp_hdX6_settle_132.1.1.2.2.1
theorem dX6_settle_148 : decode cX6_settle 148 = .ok (.return_, 1) := fp_dk fp_hdX6_settle_132.1.1.2.2.2
theorem dX6_settleThing_0 : decode cX6_settleThing 0 = .ok (.aload_n 0, 1) := fp_dk fp_hdX6_settle_132.1.2.1.1.1
theorem dX6_settleThing_1 : decode cX6_settleThing 1 = .ok (.getfield 12, 3) := fp_dk fp_hdX6_settle_132.1.2.1.1.2
theorem dX6_settleThing_4 : decode cX6_settleThing 4 = .ok (.iload_n 1, 1) := fp_dk fp_hdX6_settle_132.1.2.1.2.1
theorem dX6_settleThing_5 : decode cX6_settleThing 5 = .ok (.invokevirtual 190, 3) := fp_dk fp_hdX6_settle_132.1.2.1.2.2
theorem dX6_settleThing_8 : decode cX6_settleThing 8 = .ok (.ifCond .ne 15, 3) := fp_dk fp_hdX6_settle_132.1.2.2.1.1
theorem dX6_settleThing_11 : decode cX6_settleThing 11 = .ok (.aload_n 0, 1) := fp_dk fp_hdX6_settle_132.1.2.2.1.2
theorem dX6_settleThing_12 : decode cX6_settleThing 12 = .ok (.bipush 6, 2) := fp_dk fp_hdX6_settle_132.1.2.2.2.1
theorem dX6_settleThing_14 : decode cX6_settleThing 14 = .ok (.aload_n 0, 1) := fp_dk fp_hdX6_settle_132.1.2.2.2.2
theorem dX6_settleThing_15 : decode cX6_settleThing 15 = .ok (.getfield 36, 3) := fp_dk fp_hdX6_settle_132.2.1.1.1.1
theorem dX6_settleThing_18 : decode cX6_settleThing 18 = .ok (.invokevirtual 89, 3) := fp_dk fp_hdX6_settle_132.2.1.1.1.2
theorem dX6_settleThing_21 : decode cX6_settleThing 21 = .ok (.pop, 1) := fp_dk fp_hdX6_settle_132.2.1.1.2.1
theorem dX6_settleThing_22 : decode cX6_settleThing 22 = .ok (.return_, 1) := fp_dk fp_hdX6_settle_132.2.1.1.2.2
theorem dX6_settleThing_23 : decode cX6_settleThing 23 = .ok (.aload_n 0, 1) := fp_dk fp_hdX6_settle_132.2.1.2.1.1
theorem dX6_settleThing_24 : decode cX6_settleThing 24 = .ok (.getfield 21, 3) := fp_dk fp_hdX6_settle_132.2.1.2.1.2
theorem dX6_settleThing_27 : decode cX6_settleThing 27 = .ok (.getfield 199, 3) := fp_dk fp_hdX6_settle_132.2.1.2.2.1
theorem dX6_settleThing_30 : decode cX6_settleThing 30 = .ok (.iload_n 1, 1) := fp_dk fp_hdX6_settle_132.2.1.2.2.2
theorem dX6_settleThing_31 : decode cX6_settleThing 31 = .ok (.aload_n 0, 1) := fp_dk fp_hdX6_settle_132.2.2.1.1.1
theorem dX6_settleThing_32 : decode cX6_settleThing 32 = .ok (.getfield 21, 3) := fp_dk fp_hdX6_settle_132.2.2.1.1.2
theorem dX6_settleThing_35 : decode cX6_settleThing 35 = .ok (.getfield 135, 3) := fp_dk fp_hdX6_settle_132.2.2.1.2.1
theorem dX6_settleThing_38 : decode cX6_settleThing 38 = .ok (.iload_n 1, 1) := fp_dk fp_hdX6_settle_132.2.2.1.2.2
theorem dX6_settleThing_39 : decode cX6_settleThing 39 = .ok (.iaload, 1) := fp_dk fp_hdX6_settle_132.2.2.2.1.1
theorem dX6_settleThing_40 : decode cX6_settleThing 40 = .ok (.iastore, 1) := fp_dk fp_hdX6_settle_132.2.2.2.1.2
theorem dX6_settleThing_41 : decode cX6_settleThing 41 = .ok (.aload_n 0, 1) := fp_dk fp_hdX6_settle_132.2.2.2.2.1
theorem dX6_settleThing_42 : decode cX6_settleThing 42 = .ok (.getfield 21, 3) := fp_dk fp_hdX6_settle_132.2.2.2.2.2
theorem fp_hdX6_settleThing_45 : (((fp_dq cX6_settleThing 45 (.getfield 135, 3) = true ∧ fp_dq cX6_settleThing 48 (.iload_n 1, 1) = true) ∧ (fp_dq cX6_settleThing 49 (.bipush 10, 2) = true ∧ fp_dq cX6_settleThing 51 (.iload_n 2, 1) = true)) ∧ ((fp_dq cX6_settleThing 52 (.iadd, 1) = true ∧ fp_dq cX6_settleThing 53 (.iastore, 1) = true) ∧ fp_dq cX6_settleThing 54 (.return_, 1) = true)) := by decide +kernel
theorem dX6_settleThing_45 : decode cX6_settleThing 45 = .ok (.getfield 135, 3) := fp_dk fp_hdX6_settleThing_45.1.1.1
theorem dX6_settleThing_48 : decode cX6_settleThing 48 = .ok (.iload_n 1, 1) := fp_dk fp_hdX6_settleThing_45.1.1.2
theorem dX6_settleThing_49 : decode cX6_settleThing 49 = .ok (.bipush 10, 2) := fp_dk fp_hdX6_settleThing_45.1.2.1
theorem dX6_settleThing_51 : decode cX6_settleThing 51 = .ok (.iload_n 2, 1) := fp_dk fp_hdX6_settleThing_45.1.2.2
theorem dX6_settleThing_52 : decode cX6_settleThing 52 = .ok (.iadd, 1) := fp_dk fp_hdX6_settleThing_45.2.1.1
theorem dX6_settleThing_53 : decode cX6_settleThing 53 = .ok (.iastore, 1) := fp_dk fp_hdX6_settleThing_45.2.1.2
theorem dX6_settleThing_54 : decode cX6_settleThing 54 = .ok (.return_, 1) := fp_dk fp_hdX6_settleThing_45.2.2
