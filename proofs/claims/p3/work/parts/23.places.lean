/-! PLACES: spotOf, gives, giveTo, insert, append, clear, copyFrom -/
section PLD
variable {l : Launch} {G : fp_WG} {M : fp_Mem}
theorem spot_loop {k : Nat} {t x : Int} (hk : fp_ispl k) (ho : pl_ok M k) (ht : fp_rng t) (hx : 0 ≤ x ∧ x < 3) : ∀ (n : Nat) (i : Int), (M (k + 3) x.toNat - i).toNat = n → 0 ≤ i → i ≤ M (k + 3) x.toNat →
    fp_S l G 0 kX5_spotOf 24 [some (rV G k), some (iV t), some (iV x), some (iV i)] [] M (qE (fp_find (fun i => M (k + 4) (x * 8 + i).toNat) t n i) M) := by
  intro n
  have hs := ho.2.1 x hx.1 hx.2
  induction n with
  | zero =>
    intro i h h0 h1
    refine S.iload_n dX5_spotOf_24 rfl rfl rfl ?_
    refine S.aload_n dX5_spotOf_25 rfl rfl rfl ?_
    refine S.getR dX5_spotOf_26 rfl fX5_18 (pl_lay hk) (pl_r2 hk) ?_
    refine S.iload_n dX5_spotOf_29 rfl rfl rfl ?_
    refine S.iald dX5_spotOf_30 rfl (pl_a2 hk) (by omega) (by omega) ?_
    refine S.icmp_ge (tgt := 57) dX5_spotOf_31 (by decide) rfl (by unfold fp_rng; omega) (by unfold fp_rng; omega) (fun h31 => ?_) (fun h31 => ?_)
    · refine S.bipush dX5_spotOf_57 rfl (by decide) ?_
      refine S.iret dX5_spotOf_59 rfl ?_
      exact ⟨rfl, rfl⟩
    · exfalso; omega
  | succ n ih =>
    intro i h h0 h1
    unfold fp_find
    refine S.iload_n dX5_spotOf_24 rfl rfl rfl ?_
    refine S.aload_n dX5_spotOf_25 rfl rfl rfl ?_
    refine S.getR dX5_spotOf_26 rfl fX5_18 (pl_lay hk) (pl_r2 hk) ?_
    refine S.iload_n dX5_spotOf_29 rfl rfl rfl ?_
    refine S.iald dX5_spotOf_30 rfl (pl_a2 hk) (by omega) (by omega) ?_
    refine S.icmp_ge (tgt := 57) dX5_spotOf_31 (by decide) rfl (by unfold fp_rng; omega) (by unfold fp_rng; omega) (fun h31 => ?_) (fun h31 => ?_)
    · refine S.bipush dX5_spotOf_57 rfl (by decide) ?_
      refine S.iret dX5_spotOf_59 rfl ?_
      exfalso; omega
    · have hw := ho.2.2 (x * 8 + i) (by omega) (by omega)
      refine S.aload_n dX5_spotOf_34 rfl rfl rfl ?_
      refine S.getR dX5_spotOf_35 rfl fX5_21 (pl_lay hk) (pl_r3 hk) ?_
      refine S.iload_n dX5_spotOf_38 rfl rfl rfl ?_
      refine S.bipush dX5_spotOf_39 rfl (by decide) ?_
      refine S.imul dX5_spotOf_41 rfl ?_
      refine S.iload_n dX5_spotOf_42 rfl rfl rfl ?_
      refine S.iadd dX5_spotOf_43 rfl ?_
      refine S.iald dX5_spotOf_44 rfl (pl_a3 hk) (by omega) (by omega) ?_
      refine S.iload_n dX5_spotOf_45 rfl rfl rfl ?_
      refine S.icmp_ne (tgt := 51) dX5_spotOf_46 (by decide) rfl (by unfold fp_rng; omega) ht (fun h46 => ?_) (fun h46 => ?_)
      · refine S.iinc (LL' := [_, _, _, _]) dX5_spotOf_51 rfl (by decide) rfl rfl rfl ?_
        refine S.goto (pc' := 24) dX5_spotOf_54 (by decide) ?_
        rw [if_neg h46]
        exact ih _ (by omega) (by omega) (by omega)
      · refine S.iload_n dX5_spotOf_49 rfl rfl rfl ?_
        refine S.iret dX5_spotOf_50 rfl ?_
        exact ⟨by rw [if_pos h46], rfl⟩
def pl_spot (M : fp_Mem) (k : Nat) (t : Int) : Int := if 0 ≤ M (k + 1) t.toNat - 10 ∧ M (k + 1) t.toNat - 10 < 3 then fp_find (fun i => M (k + 4) ((M (k + 1) t.toNat - 10) * 8 + i).toNat) t (M (k + 3) (M (k + 1) t.toNat - 10).toNat).toNat 0 else -4
theorem ok_X5_spotOf {k : Nat} {t : Int} (hk : fp_ispl k) (ho : pl_ok M k := by assumption) (ht : 0 ≤ t ∧ t < 10 := by first | assumption | omega) : fp_Ok l G 0 kX5_spotOf [rV G k, iV t] M (qE (pl_spot M k t) M) := by
  have hw := ho.1 t ht.1 ht.2
  unfold pl_spot
  refine fp_Ok.of (r := 2) rfl (Nat.le_of_ble_eq_true rfl) rfl ?_
  refine S.aload_n dX5_spotOf_0 rfl rfl rfl ?_
  refine S.getR dX5_spotOf_1 rfl fX5_9 (pl_lay hk) (pl_r0 hk) ?_
  refine S.iload_n dX5_spotOf_4 rfl rfl rfl ?_
  refine S.iald dX5_spotOf_5 rfl (pl_a0 hk) (by omega) (by omega) ?_
  refine S.bipush dX5_spotOf_6 rfl (by decide) ?_
  refine S.isub dX5_spotOf_8 rfl ?_
  refine S.istore_n (LL' := [_, _, _, _]) dX5_spotOf_9 rfl (by decide) rfl rfl rfl ?_
  refine S.iload_n dX5_spotOf_10 rfl rfl rfl ?_
  refine S.if_lt (tgt := 19) dX5_spotOf_11 (by decide) rfl (by unfold fp_rng; omega) (fun h11 => ?_) (fun h11 => ?_)
  · refine S.bipush dX5_spotOf_19 rfl (by decide) ?_
    refine S.iret dX5_spotOf_21 rfl ?_
    exact ⟨by rw [if_neg (by omega)], rfl⟩
  · refine S.iload_n dX5_spotOf_14 rfl rfl rfl ?_
    refine S.iconst dX5_spotOf_15 rfl ?_
    refine S.icmp_lt (tgt := 22) dX5_spotOf_16 (by decide) rfl (by unfold fp_rng; omega) (by unfold fp_rng; omega) (fun h16 => ?_) (fun h16 => ?_)
    · refine S.iconst dX5_spotOf_22 rfl ?_
      refine S.istore_n (LL' := [_, _, _, _]) dX5_spotOf_23 rfl (by decide) rfl rfl rfl ?_
      rw [if_pos ⟨by omega, by omega⟩]
      have hs := ho.2.1 (M (k + 1) t.toNat - 10) (by omega) (by omega)
      exact spot_loop hk ho (by unfold fp_rng; omega) ⟨by omega, by omega⟩ _ 0 (by omega) (by omega) (by omega)
    · refine S.bipush dX5_spotOf_19 rfl (by decide) ?_
      refine S.iret dX5_spotOf_21 rfl ?_
      exact ⟨by rw [if_neg (by omega)], rfl⟩
theorem pl_row {k : Nat} {x : Int} (ho : pl_ok M k) (hx : 0 ≤ x ∧ x < 3) : ∀ i : Int, 0 ≤ i → i < M (k + 3) x.toNat → 0 ≤ M (k + 4) (x * 8 + i).toNat ∧ M (k + 4) (x * 8 + i).toNat ≤ 10 := by
  intro i h0 h1
  have hs := ho.2.1 x hx.1 hx.2
  have := ho.2.2 (x * 8 + i) (by omega) (by omega)
  omega
theorem ok_X5_gives {k kg : Nat} {x : Int} (hk : fp_ispl k) (hg : fp_isgd kg) (ho : pl_ok M k := by assumption) (hgo : gd_ok M kg := by assumption) (hx : 0 ≤ x ∧ x < 3 := by first | assumption | omega) : fp_Ok l G 1 kX5_gives [rV G k, rV G kg, iV x] M (qE (pl_gives M kg k x) M) := by
  have hs := ho.2.1 x hx.1 hx.2
  have hkd := hgo.2.2.2.2.2 x hx.1 hx.2
  have hrow := pl_row ho hx
  have hw := hgo.2.2.2.1
  unfold pl_gives
  refine fp_Ok.of (r := 0) rfl (Nat.le_of_ble_eq_true rfl) rfl ?_
  refine S.aload_n dX5_gives_0 rfl rfl rfl ?_
  refine S.getR dX5_gives_1 rfl fX5_18 (pl_lay hk) (pl_r2 hk) ?_
  refine S.iload_n dX5_gives_4 rfl rfl rfl ?_
  refine S.iald dX5_gives_5 rfl (pl_a2 hk) (by omega) (by omega) ?_
  refine S.if_ne (tgt := 12) dX5_gives_6 (by decide) rfl (by unfold fp_rng; omega) (fun h6 => ?_) (fun h6 => ?_)
  · refine S.aload_n dX5_gives_12 rfl rfl rfl ?_
    refine S.getR dX5_gives_13 rfl fX5_21 (pl_lay hk) (pl_r3 hk) ?_
    refine S.iload_n dX5_gives_16 rfl rfl rfl ?_
    refine S.bipush dX5_gives_17 rfl (by decide) ?_
    refine S.imul dX5_gives_19 rfl ?_
    refine S.aload_n dX5_gives_20 rfl rfl rfl ?_
    refine S.aload_n dX5_gives_21 rfl rfl rfl ?_
    refine S.getR dX5_gives_22 rfl fX5_46 (gd_lay hg) (gd_r5 hg) ?_
    refine S.iload_n dX5_gives_25 rfl rfl rfl ?_
    refine S.iald dX5_gives_26 rfl (gd_a5 hg) (by omega) (by omega) ?_
    refine S.aload_n dX5_gives_27 rfl rfl rfl ?_
    refine S.getR dX5_gives_28 rfl fX5_21 (pl_lay hk) (pl_r3 hk) ?_
    refine S.iload_n dX5_gives_31 rfl rfl rfl ?_
    refine S.bipush dX5_gives_32 rfl (by decide) ?_
    refine S.imul dX5_gives_34 rfl ?_
    refine S.aload_n dX5_gives_35 rfl rfl rfl ?_
    refine S.getR dX5_gives_36 rfl fX5_18 (pl_lay hk) (pl_r2 hk) ?_
    refine S.iload_n dX5_gives_39 rfl rfl rfl ?_
    refine S.iald dX5_gives_40 rfl (pl_a2 hk) (by omega) (by omega) ?_
    refine S.callSNe dX5_gives_41 rfl cX5_49 (ok_X11_givenSpot hg (pl_a3 hk)) rfl (by decide) rfl (Nat.le_of_ble_eq_true rfl) ?_
    refine S.iadd dX5_gives_44 rfl ?_
    have hsel : 0 ≤ pl_sel M kg k x ∧ pl_sel M kg k x < M (k + 3) x.toNat := fp_giv_in (by omega)
    refine S.iald dX5_gives_45 rfl (pl_a3 hk) (by show 0 ≤ x * 8 + pl_sel M kg k x; omega) (by show x * 8 + pl_sel M kg k x < 24; omega) ?_
    refine S.iret dX5_gives_46 rfl ?_
    exact ⟨by rw [if_neg h6]; rfl, rfl⟩
  · refine S.bipush dX5_gives_9 rfl (by decide) ?_
    refine S.iret dX5_gives_11 rfl ?_
    exact ⟨by rw [if_pos h6], rfl⟩
theorem give_loop {k kg : Nat} {p x s : Int} (hk : fp_ispl k) (hg : fp_isgd kg) (ho : pl_ok M k) (hx : 0 ≤ x ∧ x < 3) (hs0 : 0 ≤ s) (hs1 : s < M (k + 3) x.toNat) (hp : fp_rng p) (ht : 0 ≤ M (k + 4) (x * 8 + s).toNat ∧ M (k + 4) (x * 8 + s).toNat ≤ 9) (L1 : Nat → Int) (hL1 : L1 = fun j : Nat => if x * 8 + s ≤ j ∧ (j : Int) < x * 8 + (M (k + 3) x.toNat - 1) then M (k + 4) (j + 1) else M (k + 4) j) : ∀ (n : Nat) (i : Int) (N : fp_Mem), (M (k + 3) x.toNat - i).toNat < n → s ≤ i → i ≤ M (k + 3) x.toNat - 1 → N = fp_upM (fp_up M (k + 3) x.toNat (M (k + 3) x.toNat - 1)) (k + 4) (fun j : Nat => if x * 8 + s ≤ j ∧ (j : Int) < x * 8 + i then M (k + 4) (j + 1) else M (k + 4) j) →
    fp_S l G 1 kX5_giveTo 68 [some (rV G k), some (rV G kg), some (iV p), some (iV x), some (iV (x * 8)), some (iV s), some (iV (M (k + 4) (x * 8 + s).toNat)), some (iV i)] [] N (qE (M (k + 4) (x * 8 + s).toNat) (fp_spl M k (fp_upf (M (k + 1)) (M (k + 4) (x * 8 + s).toNat).toNat p) (fp_upf (M (k + 2)) (M (k + 4) (x * 8 + s).toNat).toNat (-4)) (fp_upf (M (k + 3)) x.toNat (M (k + 3) x.toNat - 1)) L1)) := by
  intro n
  have hsz := ho.2.1 x hx.1 hx.2
  induction n with
  | zero => intro i N h; omega
  | succ n ih =>
    intro i N h h0 h1 hN
    have e3 : N (k + 3) x.toNat = M (k + 3) x.toNat - 1 := by rw [hN, fp_upM_ne (by omega), fp_up_at, fp_upf_at]
    have e4 : N (k + 4) = fun j : Nat => if x * 8 + s ≤ j ∧ (j : Int) < x * 8 + i then M (k + 4) (j + 1) else M (k + 4) j := by rw [hN, fp_upM_at]
    have e1 : N (k + 1) = M (k + 1) := by rw [hN, fp_upM_ne (by omega), fp_up_ne (by omega)]
    have e2 : N (k + 2) = M (k + 2) := by rw [hN, fp_upM_ne (by omega), fp_up_ne (by omega)]
    refine S.iload dX5_giveTo_68 rfl rfl ?_
    refine S.aload_n dX5_giveTo_70 rfl rfl rfl ?_
    refine S.getR dX5_giveTo_71 rfl fX5_18 (pl_lay hk) (pl_r2 hk) ?_
    refine S.iload_n dX5_giveTo_74 rfl rfl rfl ?_
    refine S.iald dX5_giveTo_75 rfl (pl_a2 hk) (by omega) (by omega) ?_
    refine S.icmp_ge (tgt := 107) dX5_giveTo_76 (by decide) rfl (by unfold fp_rng; omega) (by unfold fp_rng; omega) (fun h76 => ?_) (fun h76 => ?_)
    · refine S.aload_n dX5_giveTo_107 rfl rfl rfl ?_
      refine S.getR dX5_giveTo_108 rfl fX5_9 (pl_lay hk) (pl_r0 hk) ?_
      refine S.iload dX5_giveTo_111 rfl rfl ?_
      refine S.iload_n dX5_giveTo_113 rfl rfl rfl ?_
      refine S.iast dX5_giveTo_114 rfl (pl_a0 hk) (by omega) (by omega) ?_
      refine S.aload_n dX5_giveTo_115 rfl rfl rfl ?_
      refine S.getR dX5_giveTo_116 rfl fX5_15 (pl_lay hk) (pl_r1 hk) ?_
      refine S.iload dX5_giveTo_119 rfl rfl ?_
      refine S.bipush dX5_giveTo_121 rfl (by decide) ?_
      refine S.iast dX5_giveTo_123 rfl (pl_a1 hk) (by omega) (by omega) ?_
      refine S.iload dX5_giveTo_124 rfl rfl ?_
      refine S.iret dX5_giveTo_126 rfl ?_
      refine ⟨rfl, ?_⟩
      funext a
      unfold fp_spl
      by_cases a2 : a = k + 2
      · subst a2; rw [fp_up_at, if_neg (by omega), if_pos rfl, fp_up_ne (by omega), e2]
      · rw [fp_up_ne a2]
        by_cases a1 : a = k + 1
        · subst a1; rw [fp_up_at, if_pos rfl, e1]
        · rw [fp_up_ne a1, if_neg a1, if_neg a2, hN]
          by_cases a4 : a = k + 4
          · subst a4; rw [fp_upM_at, if_neg (by omega), if_pos rfl, hL1, show i = M (k + 3) x.toNat - 1 by omega]
          · rw [fp_upM_ne a4]
            by_cases a3 : a = k + 3
            · subst a3; rw [fp_up_at, if_pos rfl]
            · rw [fp_up_ne a3, if_neg a3, if_neg a4]
    · refine S.aload_n dX5_giveTo_79 rfl rfl rfl ?_
      refine S.getR dX5_giveTo_80 rfl fX5_21 (pl_lay hk) (pl_r3 hk) ?_
      refine S.iload dX5_giveTo_83 rfl rfl ?_
      refine S.iload dX5_giveTo_85 rfl rfl ?_
      refine S.iadd dX5_giveTo_87 rfl ?_
      refine S.aload_n dX5_giveTo_88 rfl rfl rfl ?_
      refine S.getR dX5_giveTo_89 rfl fX5_21 (pl_lay hk) (pl_r3 hk) ?_
      refine S.iload dX5_giveTo_92 rfl rfl ?_
      refine S.iload dX5_giveTo_94 rfl rfl ?_
      refine S.iadd dX5_giveTo_96 rfl ?_
      refine S.iconst dX5_giveTo_97 rfl ?_
      refine S.iadd dX5_giveTo_98 rfl ?_
      refine S.iald dX5_giveTo_99 rfl (pl_a3 hk) (by omega) (by omega) ?_
      refine S.iast dX5_giveTo_100 rfl (pl_a3 hk) (by omega) (by omega) ?_
      refine S.iinc (LL' := [_, _, _, _, _, _, _, _]) dX5_giveTo_101 rfl (by decide) rfl rfl rfl ?_
      refine S.goto (pc' := 68) dX5_giveTo_104 (by decide) ?_
      refine ih _ _ (by omega) (by omega) (by omega) ?_
      rw [hN, fp_up_same]
      refine congrArg (fp_upM _ (k + 4)) (funext fun j => ?_)
      rw [fp_upM_at]
      dsimp only [fp_upf]
      (repeat' split) <;> first | rfl | (exfalso; omega) | (congr 1; omega)
theorem ok_X5_giveTo {k kg : Nat} {p x : Int} (hk : fp_ispl k) (hg : fp_isgd kg) (ho : pl_ok M k := by assumption) (hgo : gd_ok M kg := by assumption) (hp : fp_rng p := by first | assumption | (unfold fp_rng; omega)) (hx : 0 ≤ x ∧ x < 3 := by first | assumption | omega) : fp_Ok l G 1 kX5_giveTo [rV G k, rV G kg, iV p, iV x] M (qE (pl_gives M kg k x) (if M (k + 3) x.toNat = 0 then M else pl_give M kg k p x)) := by
  have hs := ho.2.1 x hx.1 hx.2
  have hkd := hgo.2.2.2.2.2 x hx.1 hx.2
  have hrow := pl_row ho hx
  have hw := hgo.2.2.2.1
  refine fp_Ok.of (r := 4) rfl (Nat.le_of_ble_eq_true rfl) rfl ?_
  refine S.aload_n dX5_giveTo_0 rfl rfl rfl ?_
  refine S.getR dX5_giveTo_1 rfl fX5_18 (pl_lay hk) (pl_r2 hk) ?_
  refine S.iload_n dX5_giveTo_4 rfl rfl rfl ?_
  refine S.iald dX5_giveTo_5 rfl (pl_a2 hk) (by omega) (by omega) ?_
  refine S.if_ne (tgt := 12) dX5_giveTo_6 (by decide) rfl (by unfold fp_rng; omega) (fun h6 => ?_) (fun h6 => ?_)
  · refine S.iload_n dX5_giveTo_12 rfl rfl rfl ?_
    refine S.bipush dX5_giveTo_13 rfl (by decide) ?_
    refine S.imul dX5_giveTo_15 rfl ?_
    refine S.istore (LL' := [_, _, _, _, _, _, _, _]) dX5_giveTo_16 rfl (by decide) rfl rfl ?_
    refine S.aload_n dX5_giveTo_18 rfl rfl rfl ?_
    refine S.aload_n dX5_giveTo_19 rfl rfl rfl ?_
    refine S.getR dX5_giveTo_20 rfl fX5_46 (gd_lay hg) (gd_r5 hg) ?_
    refine S.iload_n dX5_giveTo_23 rfl rfl rfl ?_
    refine S.iald dX5_giveTo_24 rfl (gd_a5 hg) (by omega) (by omega) ?_
    refine S.aload_n dX5_giveTo_25 rfl rfl rfl ?_
    refine S.getR dX5_giveTo_26 rfl fX5_21 (pl_lay hk) (pl_r3 hk) ?_
    refine S.iload dX5_giveTo_29 rfl rfl ?_
    refine S.aload_n dX5_giveTo_31 rfl rfl rfl ?_
    refine S.getR dX5_giveTo_32 rfl fX5_18 (pl_lay hk) (pl_r2 hk) ?_
    refine S.iload_n dX5_giveTo_35 rfl rfl rfl ?_
    refine S.iald dX5_giveTo_36 rfl (pl_a2 hk) (by omega) (by omega) ?_
    refine S.callSNe dX5_giveTo_37 rfl cX5_49 (ok_X11_givenSpot hg (pl_a3 hk)) rfl (by decide) rfl (Nat.le_of_ble_eq_true rfl) ?_
    refine S.istore (LL' := [_, _, _, _, _, _, _, _]) dX5_giveTo_40 rfl (by decide) rfl rfl ?_
    have hsel : 0 ≤ pl_sel M kg k x ∧ pl_sel M kg k x < M (k + 3) x.toNat := fp_giv_in (by omega)
    refine S.aload_n dX5_giveTo_42 rfl rfl rfl ?_
    refine S.getR dX5_giveTo_43 rfl fX5_21 (pl_lay hk) (pl_r3 hk) ?_
    refine S.iload dX5_giveTo_46 rfl rfl ?_
    refine S.iload dX5_giveTo_48 rfl rfl ?_
    refine S.iadd dX5_giveTo_50 rfl ?_
    refine S.iald dX5_giveTo_51 rfl (pl_a3 hk) (by show 0 ≤ x * 8 + pl_sel M kg k x; omega) (by show x * 8 + pl_sel M kg k x < 24; omega) ?_
    refine S.istore (LL' := [_, _, _, _, _, _, _, _]) dX5_giveTo_52 rfl (by decide) rfl rfl ?_
    refine S.aload_n dX5_giveTo_54 rfl rfl rfl ?_
    refine S.getR dX5_giveTo_55 rfl fX5_18 (pl_lay hk) (pl_r2 hk) ?_
    refine S.iload_n dX5_giveTo_58 rfl rfl rfl ?_
    refine S.dup2 dX5_giveTo_59 rfl rfl rfl ?_
    refine S.iald dX5_giveTo_60 rfl (pl_a2 hk) (by omega) (by omega) ?_
    refine S.iconst dX5_giveTo_61 rfl ?_
    refine S.isub dX5_giveTo_62 rfl ?_
    refine S.iast dX5_giveTo_63 rfl (pl_a2 hk) (by omega) (by omega) ?_
    refine S.iload dX5_giveTo_64 rfl rfl ?_
    refine S.istore (LL' := [_, _, _, _, _, _, _, _]) dX5_giveTo_66 rfl (by decide) rfl rfl ?_
    have hr2 := ho.2.2 (x * 8 + pl_sel M kg k x) (by omega) (by omega)
    have eg : pl_gives M kg k x = M (k + 4) (x * 8 + pl_sel M kg k x).toNat := by unfold pl_gives; rw [if_neg h6]
    rw [if_neg h6]
    unfold pl_give
    rw [eg]
    refine give_loop (s := pl_sel M kg k x) hk hg ho hx hsel.1 hsel.2 hp hr2 _ rfl ((M (k + 3) x.toNat).toNat + 1) (pl_sel M kg k x) _ (by omega) (by omega) (by omega) ?_
    funext a
    by_cases a4 : a = k + 4
    · subst a4
      rw [fp_upM_at, fp_up_ne (by omega)]
      funext j
      rw [if_neg (by omega)]
    · rw [fp_upM_ne a4]
  · refine S.bipush dX5_giveTo_9 rfl (by decide) ?_
    refine S.iret dX5_giveTo_11 rfl ?_
    exact ⟨by unfold pl_gives; rw [if_pos h6], by rw [if_pos h6]⟩
end PLD
