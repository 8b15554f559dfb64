/-! AN EMPTY TEXT TAKEN -/
section BK0
variable {l : Launch} {G : fp_WG} {M : fp_Mem} {tp : List Int} {fl : Int} {g : aGd} {pg : aPg} {vs : List aVt} {nt : List Int} {im : aIm} {sh : aSh} {tn : Int} {k k2 : Nat}
theorem b0_copyG (hk : fp_isgd k) (hk2 : fp_isgd k2) : fp_Ok l G 1 kX1_copyFrom [rV G k, rV G k2] M (qV fun N => ∀ a, (a < k ∨ k + 3 < a) → N a = M a) := by
  refine fp_Ok.of (r := 0) rfl (Nat.le_of_ble_eq_true rfl) rfl ?_
  refine S.aload_n (pc' := 1) dX1_copyFrom_0 rfl rfl rfl ?_
  refine S.aload_n (pc' := 2) dX1_copyFrom_1 rfl rfl rfl ?_
  refine S.getI (pc' := 5) dX1_copyFrom_2 rfl fX1_25 (gd_lay hk2) ?_
  refine S.putI (pc' := 8) dX1_copyFrom_5 rfl fX1_25 (gd_lay hk) ?_
  refine S.aload_n (pc' := 9) dX1_copyFrom_8 rfl rfl rfl ?_
  refine S.aload_n (pc' := 10) dX1_copyFrom_9 rfl rfl rfl ?_
  refine S.getI (pc' := 13) dX1_copyFrom_10 rfl fX1_28 (gd_lay hk2) ?_
  refine S.putI (pc' := 16) dX1_copyFrom_13 rfl fX1_28 (gd_lay hk) ?_
  refine S.aload_n (pc' := 17) dX1_copyFrom_16 rfl rfl rfl ?_
  refine S.aload_n (pc' := 18) dX1_copyFrom_17 rfl rfl rfl ?_
  refine S.getI (pc' := 21) dX1_copyFrom_18 rfl fX1_9 (gd_lay hk2) ?_
  refine S.putI (pc' := 24) dX1_copyFrom_21 rfl fX1_9 (gd_lay hk) ?_
  refine S.aload_n (pc' := 25) dX1_copyFrom_24 rfl rfl rfl ?_
  refine S.getR (pc' := 28) dX1_copyFrom_25 rfl fX1_15 (gd_lay hk2) (gd_r3 hk2) ?_
  refine S.iconst (pc' := 29) dX1_copyFrom_28 rfl ?_
  refine S.aload_n (pc' := 30) dX1_copyFrom_29 rfl rfl rfl ?_
  refine S.getR (pc' := 33) dX1_copyFrom_30 rfl fX1_15 (gd_lay hk) (gd_r3 hk) ?_
  refine S.iconst (pc' := 34) dX1_copyFrom_33 rfl ?_
  refine S.aload_n (pc' := 35) dX1_copyFrom_34 rfl rfl rfl ?_
  refine S.getR (pc' := 38) dX1_copyFrom_35 rfl fX1_15 (gd_lay hk) (gd_r3 hk) ?_
  refine S.alen (pc' := 39) dX1_copyFrom_38 rfl (gd_a3 hk) (by decide) rfl (by first | assumption | decide) ?_
  refine S.copyi (pc' := 42) dX1_copyFrom_39 rfl aX1_31 (gd_a3 hk2) (gd_a3 hk) (by decide) (by decide) (by omega) (by omega) (by omega) (by omega) (by omega) (by decide) (Nat.le_of_ble_eq_true rfl) ?_
  refine S.aload_n (pc' := 43) dX1_copyFrom_42 rfl rfl rfl ?_
  refine S.getR (pc' := 46) dX1_copyFrom_43 rfl fX1_19 (gd_lay hk2) (gd_r4 hk2) ?_
  refine S.iconst (pc' := 47) dX1_copyFrom_46 rfl ?_
  refine S.aload_n (pc' := 48) dX1_copyFrom_47 rfl rfl rfl ?_
  refine S.getR (pc' := 51) dX1_copyFrom_48 rfl fX1_19 (gd_lay hk) (gd_r4 hk) ?_
  refine S.iconst (pc' := 52) dX1_copyFrom_51 rfl ?_
  refine S.aload_n (pc' := 53) dX1_copyFrom_52 rfl rfl rfl ?_
  refine S.getR (pc' := 56) dX1_copyFrom_53 rfl fX1_19 (gd_lay hk) (gd_r4 hk) ?_
  refine S.alen (pc' := 57) dX1_copyFrom_56 rfl (gd_a4 hk) (by decide) rfl (by first | assumption | decide) ?_
  refine S.copyi (pc' := 60) dX1_copyFrom_57 rfl aX1_31 (gd_a4 hk2) (gd_a4 hk) (by decide) (by decide) (by omega) (by omega) (by omega) (by omega) (by omega) (by decide) (Nat.le_of_ble_eq_true rfl) ?_
  refine S.aload_n (pc' := 61) dX1_copyFrom_60 rfl rfl rfl ?_
  refine S.getR (pc' := 64) dX1_copyFrom_61 rfl fX1_22 (gd_lay hk2) (gd_r5 hk2) ?_
  refine S.iconst (pc' := 65) dX1_copyFrom_64 rfl ?_
  refine S.aload_n (pc' := 66) dX1_copyFrom_65 rfl rfl rfl ?_
  refine S.getR (pc' := 69) dX1_copyFrom_66 rfl fX1_22 (gd_lay hk) (gd_r5 hk) ?_
  refine S.iconst (pc' := 70) dX1_copyFrom_69 rfl ?_
  refine S.aload_n (pc' := 71) dX1_copyFrom_70 rfl rfl rfl ?_
  refine S.getR (pc' := 74) dX1_copyFrom_71 rfl fX1_22 (gd_lay hk) (gd_r5 hk) ?_
  refine S.alen (pc' := 75) dX1_copyFrom_74 rfl (gd_a5 hk) (by decide) rfl (by first | assumption | decide) ?_
  refine S.copyi (pc' := 78) dX1_copyFrom_75 rfl aX1_31 (gd_a5 hk2) (gd_a5 hk) (by decide) (by decide) (by omega) (by omega) (by omega) (by omega) (by omega) (by decide) (Nat.le_of_ble_eq_true rfl) ?_
  refine S.vret dX1_copyFrom_78 rfl ?_
  exact fun a ha => by rw [fp_upM_ne (by omega), fp_upM_ne (by omega), fp_upM_ne (by omega), fp_up_ne (by omega), fp_up_ne (by omega), fp_up_ne (by omega)]
theorem b0_copyP (hk : fp_ispl k) (hk2 : fp_ispl k2) (hne : k2 + 4 < k + 1 ∨ k + 4 < k2 + 1) : fp_Ok l G 1 kX5_copyFrom [rV G k, rV G k2] M (qV fun N => ∀ a, (a < k + 1 ∨ k + 4 < a) → N a = M a) := by
  refine (ok_X5_copyFrom hk hk2 hne).toV (fun a ha => ?_)
  unfold fp_spl
  rw [if_neg (by omega), if_neg (by omega), if_neg (by omega), if_neg (by omega)]
theorem b0_clearP (hk : fp_ispl k) : fp_Ok l G 1 kX5_clear [rV G k] M (qV fun N => ∀ a, (a < k + 1 ∨ k + 4 < a) → N a = M a) := by
  refine (ok_X5_clear hk).toV (fun a ha => ?_)
  unfold fp_spl
  rw [if_neg (by omega), if_neg (by omega), if_neg (by omega), if_neg (by omega)]
theorem b0_clear (hk : fp_isgd k) : fp_Ok l G 0 kX1_clear [rV G k] M (qW (fp_up (fp_up (fp_up M k 0 0) k 1 0) k 2 10)) := by
  refine fp_Ok.of (r := 0) rfl (Nat.le_of_ble_eq_true rfl) rfl ?_
  refine S.aload_n (pc' := 1) dX1_clear_0 rfl rfl rfl ?_
  refine S.iconst (pc' := 2) dX1_clear_1 rfl ?_
  refine S.putI (pc' := 5) dX1_clear_2 rfl fX1_25 (gd_lay hk) ?_
  refine S.aload_n (pc' := 6) dX1_clear_5 rfl rfl rfl ?_
  refine S.iconst (pc' := 7) dX1_clear_6 rfl ?_
  refine S.putI (pc' := 10) dX1_clear_7 rfl fX1_28 (gd_lay hk) ?_
  refine S.aload_n (pc' := 11) dX1_clear_10 rfl rfl rfl ?_
  refine S.bipush (pc' := 13) dX1_clear_11 rfl (by decide) ?_
  refine S.putI (pc' := 16) dX1_clear_13 rfl fX1_9 (gd_lay hk) ?_
  refine S.vret dX1_clear_16 rfl ?_
  rfl
theorem b0_step (h7 : M 2 7 = 0) (h6 : M 2 6 = 0) : fp_Ok l G 0 kX6_step [rV G 2] M (qE 1 (fp_up (fp_up M 2 9 (M 2 7)) 2 8 0)) := by
  refine fp_Ok.of (r := 0) rfl (Nat.le_of_ble_eq_true rfl) rfl ?_
  have q7 : fp_up M 2 9 (M 2 7) 2 7 = M 2 7 := rfl
  have q6 : fp_up M 2 9 (M 2 7) 2 6 = M 2 6 := rfl
  refine S.aload_n (pc' := 1) dX6_step_0 rfl rfl rfl ?_
  refine S.getI (pc' := 4) dX6_step_1 rfl fX6_40 L_2 ?_
  refine S.aload_n (pc' := 5) dX6_step_4 rfl rfl rfl ?_
  refine S.getI (pc' := 8) dX6_step_5 rfl fX6_36 L_2 ?_
  refine S.icmp_ge (pc' := 11) (tgt := 38) dX6_step_8 (by decide) rfl (by rw [h7]; exact fp_rng0) (by rw [h6]; exact fp_rng0) (fun h8 => ?_) (fun h8 => ?_)
  · refine S.aload_n (pc' := 39) dX6_step_38 rfl rfl rfl ?_
    refine S.aload_n (pc' := 40) dX6_step_39 rfl rfl rfl ?_
    refine S.getI (pc' := 43) dX6_step_40 rfl fX6_40 L_2 ?_
    refine S.putI (pc' := 46) dX6_step_43 rfl fX6_76 L_2 ?_
    refine S.aload_n (pc' := 47) dX6_step_46 rfl rfl rfl ?_
    refine S.getI (pc' := 50) dX6_step_47 rfl fX6_40 L_2 ?_
    refine S.aload_n (pc' := 51) dX6_step_50 rfl rfl rfl ?_
    refine S.getI (pc' := 54) dX6_step_51 rfl fX6_36 L_2 ?_
    refine S.icmp_lt (pc' := 57) (tgt := 64) dX6_step_54 (by decide) rfl (by rw [q7, h7]; exact fp_rng0) (by rw [q6, h6]; exact fp_rng0) (fun h54 => ?_) (fun h54 => ?_)
    · exfalso; rw [q7, q6, h7, h6] at h54; omega
    · refine S.aload_n (pc' := 58) dX6_step_57 rfl rfl rfl ?_
      refine S.iconst (pc' := 59) dX6_step_58 rfl ?_
      refine S.putI (pc' := 62) dX6_step_59 rfl fX6_64 L_2 ?_
      refine S.iconst (pc' := 63) dX6_step_62 rfl ?_
      refine S.zret dX6_step_63 rfl (by first | exact Or.inl rfl | exact Or.inr rfl | omega) ?_
      exact ⟨rfl, rfl⟩
  · exfalso; omega
theorem b0_settle (h3 : M 3 1 = 0) (h12 : M 12 0 = 0) : fp_Ok l G 0 kX6_settle [rV G 2] M (qW M) := by
  refine fp_Ok.of (r := 2) rfl (Nat.le_of_ble_eq_true rfl) rfl ?_
  refine S.iconst (pc' := 1) dX6_settle_0 rfl ?_
  refine S.istore_n (pc' := 2) (LL' := [_, _, _]) dX6_settle_1 rfl (by decide) rfl rfl rfl ?_
  refine S.iload_n (pc' := 3) dX6_settle_2 rfl rfl rfl ?_
  refine S.aload_n (pc' := 4) dX6_settle_3 rfl rfl rfl ?_
  refine S.getR (pc' := 7) dX6_settle_4 rfl fX6_12 L_2 rf_2_0 ?_
  refine S.getI (pc' := 10) dX6_settle_7 rfl fX6_154 (gd_lay gd3) ?_
  refine S.icmp_ge (pc' := 13) (tgt := 59) dX6_settle_10 (by decide) rfl (by unfold fp_rng; omega) (by rw [h3]; exact fp_rng0) (fun h10 => ?_) (fun h10 => ?_)
  · refine S.iconst (pc' := 60) dX6_settle_59 rfl ?_
    refine S.istore_n (pc' := 61) (LL' := [_, _, _]) dX6_settle_60 rfl (by decide) rfl rfl rfl ?_
    refine S.iload_n (pc' := 62) dX6_settle_61 rfl rfl rfl ?_
    refine S.aload_n (pc' := 63) dX6_settle_62 rfl rfl rfl ?_
    refine S.getR (pc' := 66) dX6_settle_63 rfl fX6_28 L_2 rf_2_2 ?_
    refine S.getI (pc' := 69) dX6_settle_66 rfl fX6_57 (vs_lay vs12) ?_
    refine S.icmp_ge (pc' := 72) (tgt := 148) dX6_settle_69 (by decide) rfl (by unfold fp_rng; omega) (by rw [h12]; exact fp_rng0) (fun h69 => ?_) (fun h69 => ?_)
    · refine S.vret dX6_settle_148 rfl ?_
      rfl
    · exfalso; omega
  · exfalso; omega
theorem b0_read {n : Int} (hn : n = 0) : fp_Ok l G 2 kX6_readText [rV G 2, rV G 1, iV n] M (qI fun z N => z = 0 ∧ N 2 3 = 0 ∧ N 12 0 = 0 ∧ ∀ a, (a < 2 ∨ 16 < a) → N a = M a) := by
  subst hn
  refine fp_Ok.of (r := 2) rfl (Nat.le_of_ble_eq_true rfl) rfl ?_
  refine S.aload_n (pc' := 1) dX6_readText_0 rfl rfl rfl ?_
  refine S.aload_n (pc' := 2) dX6_readText_1 rfl rfl rfl ?_
  refine S.putT (pc' := 5) dX6_readText_2 rfl fX6_32 L_2 rf_2_5 ?_
  refine S.aload_n (pc' := 6) dX6_readText_5 rfl rfl rfl ?_
  refine S.iload_n (pc' := 7) dX6_readText_6 rfl rfl rfl ?_
  refine S.putI (pc' := 10) dX6_readText_7 rfl fX6_36 L_2 ?_
  refine S.aload_n (pc' := 11) dX6_readText_10 rfl rfl rfl ?_
  refine S.iconst (pc' := 12) dX6_readText_11 rfl ?_
  refine S.putI (pc' := 15) dX6_readText_12 rfl fX6_40 L_2 ?_
  refine S.aload_n (pc' := 16) dX6_readText_15 rfl rfl rfl ?_
  refine S.iconst (pc' := 17) dX6_readText_16 rfl ?_
  refine S.putI (pc' := 20) dX6_readText_17 rfl fX6_43 L_2 ?_
  refine S.aload_n (pc' := 21) dX6_readText_20 rfl rfl rfl ?_
  refine S.iconst (pc' := 22) dX6_readText_21 rfl ?_
  refine S.putI (pc' := 25) dX6_readText_22 rfl fX6_46 L_2 ?_
  refine S.aload_n (pc' := 26) dX6_readText_25 rfl rfl rfl ?_
  refine S.iconst (pc' := 27) dX6_readText_26 rfl ?_
  refine S.putZ (pc' := 30) dX6_readText_27 rfl fX6_49 L_2 (by first | exact Or.inl rfl | exact Or.inr rfl | omega) ?_
  refine S.aload_n (pc' := 31) dX6_readText_30 rfl rfl rfl ?_
  refine S.getR (pc' := 34) dX6_readText_31 rfl fX6_12 L_2 rf_2_0 ?_
  refine S.callVw (pc' := 37) dX6_readText_34 rfl cX6_53 (b0_clear gd3) rfl (gd_lay gd3) (by decide) rfl (Nat.le_of_ble_eq_true rfl) ?_
  refine S.aload_n (pc' := 38) dX6_readText_37 rfl rfl rfl ?_
  refine S.getR (pc' := 41) dX6_readText_38 rfl fX6_21 L_2 rf_2_1 ?_
  refine S.callVv (pc' := 44) dX6_readText_41 rfl cX6_56 (b0_clearP pl7) rfl (pl_lay pl7) (by decide) rfl (Nat.le_of_ble_eq_true rfl) (fun M41 q41 => ?_)
  have e7 : M41 2 7 = 0 := by rw [q41 2 (by omega)]; rfl
  have e6 : M41 2 6 = 0 := by rw [q41 2 (by omega)]; rfl
  have e3 : M41 2 3 = 0 := by rw [q41 2 (by omega)]; rfl
  have e31 : M41 3 1 = 0 := by rw [q41 3 (by omega)]; rfl
  have hfr : ∀ a, (a < 2 ∨ 16 < a) → M41 a = M a := by
    intro a ha
    rw [q41 a (by omega), fp_up_ne (by omega), fp_up_ne (by omega), fp_up_ne (by omega), fp_up_ne (by omega), fp_up_ne (by omega), fp_up_ne (by omega), fp_up_ne (by omega), fp_up_ne (by omega), fp_up_ne (by omega)]
  clear q41
  refine S.aload_n (pc' := 45) dX6_readText_44 rfl rfl rfl ?_
  refine S.getR (pc' := 48) dX6_readText_45 rfl fX6_28 L_2 rf_2_2 ?_
  refine S.iconst (pc' := 49) dX6_readText_48 rfl ?_
  refine S.putI (pc' := 52) dX6_readText_49 rfl fX6_57 (vs_lay vs12) ?_
  refine S.iconst (pc' := 53) dX6_readText_52 rfl ?_
  refine S.istore_n (pc' := 54) (LL' := [_, _, _, _, _]) dX6_readText_53 rfl (by decide) rfl rfl rfl ?_
  refine S.iconst (pc' := 55) dX6_readText_54 rfl ?_
  refine S.istore (pc' := 57) (LL' := [_, _, _, _, _]) dX6_readText_55 rfl (by decide) rfl rfl ?_
  refine S.iload (pc' := 59) dX6_readText_57 rfl rfl ?_
  refine S.aload_n (pc' := 60) dX6_readText_59 rfl rfl rfl ?_
  refine S.getI (pc' := 63) dX6_readText_60 rfl fX6_36 L_2 ?_
  have e63 : fp_up M41 12 0 0 2 6 = 0 := e6
  refine S.icmp_gt (pc' := 66) (tgt := 99) dX6_readText_63 (by decide) rfl (by unfold fp_rng; omega) (show fp_rng (M41 2 6) by rw [e6]; exact fp_rng0) (fun h63 => ?_) (fun h63 => ?_)
  · refine S.aload_n (pc' := 100) dX6_readText_99 rfl rfl rfl ?_
    refine S.getI (pc' := 103) dX6_readText_100 rfl fX6_43 L_2 ?_
    refine S.if_ne (pc' := 106) (tgt := 110) dX6_readText_103 (by decide) rfl (show fp_rng (M41 2 3) by rw [e3]; exact fp_rng0) (fun h103 => ?_) (fun h103 => ?_)
    · refine S.iload_n (pc' := 111) dX6_readText_110 rfl rfl rfl ?_
      refine S.iret dX6_readText_111 rfl ?_
      refine ⟨rfl, e3, rfl, fun a ha => ?_⟩
      rw [← hfr a ha]
      first | rw [fp_up_ne (by omega), fp_up_ne (by omega), fp_up_ne (by omega)] | (exfalso; omega)
    · refine S.aload_n (pc' := 107) dX6_readText_106 rfl rfl rfl ?_
      refine S.callVw (pc' := 110) dX6_readText_107 rfl cX6_70 (b0_settle (show M41 3 1 = 0 from e31) rfl) rfl L_2 (by decide) rfl (Nat.le_of_ble_eq_true rfl) ?_
      refine S.iload_n (pc' := 111) dX6_readText_110 rfl rfl rfl ?_
      refine S.iret dX6_readText_111 rfl ?_
      refine ⟨rfl, e3, rfl, fun a ha => ?_⟩
      rw [← hfr a ha]
      first | rw [fp_up_ne (by omega), fp_up_ne (by omega), fp_up_ne (by omega)] | (exfalso; omega)
  · refine S.aload_n (pc' := 67) dX6_readText_66 rfl rfl rfl ?_
    refine S.callVe (pc' := 70) dX6_readText_67 rfl cX6_60 (b0_step (M := fp_up M41 12 0 0) (show M41 2 7 = 0 from e7) (show M41 2 6 = 0 from e6)) rfl L_2 (by decide) rfl (Nat.le_of_ble_eq_true rfl) ?_
    refine S.if_eq (pc' := 73) (tgt := 99) dX6_readText_70 (by decide) rfl (by unfold fp_rng; omega) (fun h70 => ?_) (fun h70 => ?_)
    · refine S.aload_n (pc' := 100) dX6_readText_99 rfl rfl rfl ?_
      refine S.getI (pc' := 103) dX6_readText_100 rfl fX6_43 L_2 ?_
      refine S.if_ne (pc' := 106) (tgt := 110) dX6_readText_103 (by decide) rfl (show fp_rng (M41 2 3) by rw [e3]; exact fp_rng0) (fun h103 => ?_) (fun h103 => ?_)
      · refine S.iload_n (pc' := 111) dX6_readText_110 rfl rfl rfl ?_
        refine S.iret dX6_readText_111 rfl ?_
        refine ⟨rfl, e3, rfl, fun a ha => ?_⟩
        rw [← hfr a ha]
        first | rw [fp_up_ne (by omega), fp_up_ne (by omega), fp_up_ne (by omega)] | (exfalso; omega)
      · refine S.aload_n (pc' := 107) dX6_readText_106 rfl rfl rfl ?_
        refine S.callVw (pc' := 110) dX6_readText_107 rfl cX6_70 (b0_settle (show M41 3 1 = 0 from e31) rfl) rfl L_2 (by decide) rfl (Nat.le_of_ble_eq_true rfl) ?_
        refine S.iload_n (pc' := 111) dX6_readText_110 rfl rfl rfl ?_
        refine S.iret dX6_readText_111 rfl ?_
        refine ⟨rfl, e3, rfl, fun a ha => ?_⟩
        rw [← hfr a ha]
        first | rw [fp_up_ne (by omega), fp_up_ne (by omega), fp_up_ne (by omega)] | (exfalso; omega)
    · refine S.aload_n (pc' := 74) dX6_readText_73 rfl rfl rfl ?_
      refine S.getI (pc' := 77) dX6_readText_74 rfl fX6_64 L_2 ?_
      refine S.if_eq (pc' := 80) (tgt := 99) dX6_readText_77 (by decide) rfl fp_rng0 (fun h77 => ?_) (fun h77 => ?_)
      · refine S.aload_n (pc' := 100) dX6_readText_99 rfl rfl rfl ?_
        refine S.getI (pc' := 103) dX6_readText_100 rfl fX6_43 L_2 ?_
        refine S.if_ne (pc' := 106) (tgt := 110) dX6_readText_103 (by decide) rfl (show fp_rng (M41 2 3) by rw [e3]; exact fp_rng0) (fun h103 => ?_) (fun h103 => ?_)
        · refine S.iload_n (pc' := 111) dX6_readText_110 rfl rfl rfl ?_
          refine S.iret dX6_readText_111 rfl ?_
          refine ⟨rfl, e3, rfl, fun a ha => ?_⟩
          rw [← hfr a ha]
          first | rw [fp_up_ne (by omega), fp_up_ne (by omega), fp_up_ne (by omega)] | (exfalso; omega)
        · refine S.aload_n (pc' := 107) dX6_readText_106 rfl rfl rfl ?_
          refine S.callVw (pc' := 110) dX6_readText_107 rfl cX6_70 (b0_settle (show M41 3 1 = 0 from e31) rfl) rfl L_2 (by decide) rfl (Nat.le_of_ble_eq_true rfl) ?_
          refine S.iload_n (pc' := 111) dX6_readText_110 rfl rfl rfl ?_
          refine S.iret dX6_readText_111 rfl ?_
          refine ⟨rfl, e3, rfl, fun a ha => ?_⟩
          rw [← hfr a ha]
          first | rw [fp_up_ne (by omega), fp_up_ne (by omega), fp_up_ne (by omega)] | (exfalso; omega)
      · exact absurd rfl h77
theorem b0_img : ∀ (n : Nat) (i : Int) (N : fp_Mem), (2 - i).toNat < n → 0 ≤ i → i ≤ 2 → frC M N →
    fp_S l G 3 kX11_bank 94 [some (rV G 0), some (iV 0), some (iV i)] [] N (qI fun z O => z = 0 ∧ frC M O) := by
  intro n
  induction n with
  | zero => intro i N hn; omega
  | succ n ih =>
    intro i N hn h0 h1 hN
    refine S.iload_n (pc' := 95) dX11_bank_94 rfl rfl rfl ?_
    refine S.iconst (pc' := 96) dX11_bank_95 rfl ?_
    refine S.icmp_ge (pc' := 99) (tgt := 115) dX11_bank_96 (by decide) rfl (by unfold fp_rng; omega) (by unfold fp_rng; omega) (fun h96 => ?_) (fun h96 => ?_)
    · refine S.iload_n (pc' := 116) dX11_bank_115 rfl rfl rfl ?_
      refine S.iret dX11_bank_116 rfl ?_
      exact ⟨rfl, hN⟩
    · refine S.aload_n (pc' := 100) dX11_bank_99 rfl rfl rfl ?_
      refine S.getR (pc' := 103) dX11_bank_100 rfl fX11_78 L_0 rf_0_11 ?_
      refine S.iload_n (pc' := 104) dX11_bank_103 rfl rfl rfl ?_
      refine S.aald (pc' := 105) dX11_bank_104 rfl L_141 (by decide) (by decide) (by omega) (by omega) (img_r (by omega) (by omega)) ?_
      refine S.iconst (pc' := 106) dX11_bank_105 rfl ?_
      refine S.putZ (pc' := 109) dX11_bank_106 rfl fX11_122 (im_lay (img_o (by omega) (by omega))) (by first | exact Or.inl rfl | exact Or.inr rfl | omega) ?_
      refine S.iinc (pc' := 112) (LL' := [_, _, _]) dX11_bank_109 rfl (by decide) rfl rfl rfl ?_
      refine S.goto (pc' := 94) dX11_bank_112 (by decide) ?_
      exact ih (i + 1) _ (by omega) (by omega) (by omega) (fun c hc => by rw [← hN c hc]; exact fp_up_ne (by omega))
theorem c0_bank (hc : CS M tp fl g pg vs nt im sh tn) (ht : (tp.length : Int) = 0) : fp_Ok l G 3 kX11_bank [rV G 0] M (qI fun z N => z = 0 ∧ frC M N) := by
  obtain ⟨hA, hd, hcl, hv, -⟩ := hc
  have h01 : M 0 1 = 0 := by rw [hA.1]; exact ht
  refine fp_Ok.of (r := 2) rfl (Nat.le_of_ble_eq_true rfl) rfl ?_
  refine S.aload_n (pc' := 1) dX11_bank_0 rfl rfl rfl ?_
  refine S.getR (pc' := 4) dX11_bank_1 rfl fX11_16 L_0 rf_0_2 ?_
  refine S.aload_n (pc' := 5) dX11_bank_4 rfl rfl rfl ?_
  refine S.getR (pc' := 8) dX11_bank_5 rfl fX11_9 L_0 rf_0_0 ?_
  refine S.aload_n (pc' := 9) dX11_bank_8 rfl rfl rfl ?_
  refine S.getI (pc' := 12) dX11_bank_9 rfl fX11_90 L_0 ?_
  refine S.callVi (pc' := 15) dX11_bank_12 rfl cX11_94 (b0_read h01) rfl L_2 (by decide) rfl (Nat.le_of_ble_eq_true rfl) (fun z12 M12 q12 => ?_)
  obtain ⟨rfl, r2, r3, r4⟩ := q12
  refine S.istore_n (pc' := 16) (LL' := [_, _, _]) dX11_bank_15 rfl (by decide) rfl rfl rfl ?_
  refine S.aload_n (pc' := 17) dX11_bank_16 rfl rfl rfl ?_
  refine S.iconst (pc' := 18) dX11_bank_17 rfl ?_
  refine S.putI (pc' := 21) dX11_bank_18 rfl fX11_90 L_0 ?_
  refine S.aload_n (pc' := 22) dX11_bank_21 rfl rfl rfl ?_
  refine S.getR (pc' := 25) dX11_bank_22 rfl fX11_16 L_0 rf_0_2 ?_
  refine S.getI (pc' := 28) dX11_bank_25 rfl fX11_98 L_2 ?_
  refine S.if_eq (pc' := 31) (tgt := 42) dX11_bank_28 (by decide) rfl (show fp_rng (M12 2 3) by rw [r2]; exact fp_rng0) (fun h28 => ?_) (fun h28 => ?_)
  · refine S.aload_n (pc' := 43) dX11_bank_42 rfl rfl rfl ?_
    refine S.getR (pc' := 46) dX11_bank_43 rfl fX11_23 L_0 rf_0_3 ?_
    refine S.aload_n (pc' := 47) dX11_bank_46 rfl rfl rfl ?_
    refine S.getR (pc' := 50) dX11_bank_47 rfl fX11_16 L_0 rf_0_2 ?_
    refine S.getR (pc' := 53) dX11_bank_50 rfl fX11_104 L_2 rf_2_0 ?_
    refine S.callVv (pc' := 56) dX11_bank_53 rfl cX11_105 (b0_copyG gd18 gd3) rfl (gd_lay gd18) (by decide) rfl (Nat.le_of_ble_eq_true rfl) (fun M53 q53 => ?_)
    refine S.aload_n (pc' := 57) dX11_bank_56 rfl rfl rfl ?_
    refine S.getR (pc' := 60) dX11_bank_57 rfl fX11_30 L_0 rf_0_4 ?_
    refine S.aload_n (pc' := 61) dX11_bank_60 rfl rfl rfl ?_
    refine S.getR (pc' := 64) dX11_bank_61 rfl fX11_16 L_0 rf_0_2 ?_
    refine S.getR (pc' := 67) dX11_bank_64 rfl fX11_109 L_2 rf_2_1 ?_
    refine S.callVv (pc' := 70) dX11_bank_67 rfl cX11_112 (b0_copyP pl22 pl7 (by omega)) rfl (pl_lay pl22) (by decide) rfl (Nat.le_of_ble_eq_true rfl) (fun M67 q67 => ?_)
    have hv12 : vsIs M67 12 [] := ⟨by rw [q67 12 (by omega), q53 12 (by omega)]; exact r3, by decide, fun i i0 i1 => absurd i1 (by simp; omega)⟩
    refine S.aload_n (pc' := 71) dX11_bank_70 rfl rfl rfl ?_
    refine S.getR (pc' := 74) dX11_bank_71 rfl fX11_37 L_0 rf_0_5 ?_
    refine S.aload_n (pc' := 75) dX11_bank_74 rfl rfl rfl ?_
    refine S.getR (pc' := 78) dX11_bank_75 rfl fX11_16 L_0 rf_0_2 ?_
    refine S.getR (pc' := 81) dX11_bank_78 rfl fX11_115 L_2 rf_2_2 ?_
    refine S.callVv (pc' := 84) dX11_bank_81 rfl cX11_116 (rk_X10_copyFrom (vs := []) vs27 vs12 (by omega) hv12) rfl (vs_lay vs27) (by decide) rfl (Nat.le_of_ble_eq_true rfl) (fun M81 q81 => ?_)
    refine S.aload_n (pc' := 85) dX11_bank_84 rfl rfl rfl ?_
    refine S.getR (pc' := 88) dX11_bank_85 rfl fX11_44 L_0 rf_0_6 ?_
    refine S.iconst (pc' := 89) dX11_bank_88 rfl ?_
    refine S.putI (pc' := 92) dX11_bank_89 rfl fX11_119 (nt_lay nt32) ?_
    refine S.iconst (pc' := 93) dX11_bank_92 rfl ?_
    refine S.istore_n (pc' := 94) (LL' := [_, _, _]) dX11_bank_93 rfl (by decide) rfl rfl rfl ?_
    refine b0_img 3 0 _ (by omega) (by omega) (by omega) (fun c hc => ?_)
    rw [fp_up_ne (by omega), q81.2 c (by omega), q67 c (by omega), q53 c (by omega), fp_up_ne (by omega)]
    exact r4 c (by omega)
  · exact absurd r2 h28
end BK0
