/-! THE PUBLIC CALLS: line, visit, chance, put, draw, slip -/
def A_line (g : aGd) (pg : aPg) (x w : Int) : Int := if ¬ (0 ≤ x ∧ x < g.2.1) then -1 else if w = 0 then g.2.2.2.2.2 x else if w = 1 then (pg.2.2 x).length else if w = 2 then aGv g pg x else if 10 ≤ w ∧ w < 10 + (pg.2.2 x).length then (pg.2.2 x).getD (w - 10).toNat 0 else -1
def A_visit (vs : List aVt) (i w : Int) : Int := if ¬ (0 ≤ i ∧ i < vs.length) then -1 else if w = 0 then (vs.getD i.toNat aV0).1 else if w = 1 then (vs.getD i.toNat aV0).2.1 else if w = 2 then (vs.getD i.toNat aV0).2.2.1 else if w = 3 then (vs.getD i.toNat aV0).2.2.2 else -1
def A_chance (g : aGd) (v : Int) : Int × aGd := if 0 ≤ v ∧ v ≤ 10 then (g.2.2.1, (g.1, g.2.1, v, g.2.2.2)) else (-1, g)
def A_put (g : aGd) (pg : aPg) (p t x : Int) : Int × aPg := if ¬ ((0 ≤ p ∧ p < 4) ∧ (0 ≤ t ∧ t < g.1) ∧ (0 ≤ x ∧ x < g.2.1)) then (-1, pg) else if pg.1 t ≠ p then (-2, pg) else if (pg.2.2 x).length < 8 then ((pg.2.2 x).length, aIns pg t x (pg.2.2 x).length) else (-3, pg)
def A_draw (g : aGd) (pg : aPg) (p x : Int) : Int × aPg := if ¬ ((0 ≤ p ∧ p < 4) ∧ (0 ≤ x ∧ x < g.2.1)) then (-1, pg) else (aGv g pg x, aDraw g pg p x)
def A_slip (g : aGd) (pg : aPg) (t x i : Int) : Int × aPg := if ¬ ((0 ≤ t ∧ t < g.1) ∧ (0 ≤ x ∧ x < g.2.1) ∧ (0 ≤ i ∧ i ≤ (pg.2.2 x).length)) then (-1, pg) else if 10 ≤ pg.1 t then (-2, pg) else if 8 ≤ (pg.2.2 x).length then (-3, pg) else ((pg.2.2 x).length + 1, aIns pg t x i.toNat)
section PUC
variable {l : Launch} {G : fp_WG} {M : fp_Mem} {tp : List Int} {fl : Int} {g : aGd} {pg : aPg} {vs : List aVt} {nt : List Int} {im : aIm} {sh : aSh} {tn : Int}
theorem cc_line {x w : Int} (hc : CS M tp fl g pg vs nt im sh tn) (ho : OK g pg vs nt im sh) (hx : fp_rng x) (hw : fp_rng w) : fp_Ok l G 2 kX11_line [rV G 0, iV x, iV w] M (qE (A_line g pg x w) M) := by
  obtain ⟨-, hd, hcl, -⟩ := hc
  obtain ⟨hg, hP, -⟩ := ho
  have hg2 := hg.2.1
  have hw' := hw
  unfold fp_rng at hw'
  refine fp_Ok.of (r := 0) rfl (Nat.le_of_ble_eq_true rfl) rfl ?_
  unfold A_line
  by_cases hin : 0 ≤ x ∧ x < g.2.1
  · obtain ⟨n1, n2, n3⟩ := hcl.line hP hin hg
    have hk := hd.2.2.2.2.2.2.2.1 x hin.1 hin.2
    rw [if_neg (by omega)]
    refine S.aload_n dX11_line_0 rfl rfl rfl ?_
    refine S.getR dX11_line_1 rfl fX11_23 L_0 rf_0_3 ?_
    refine S.iload_n dX11_line_4 rfl rfl rfl ?_
    refine S.callVi dX11_line_5 rfl cX11_148 (bk_X1_hasLine gd18) rfl (gd_lay gd18) (by decide) rfl (Nat.le_of_ble_eq_true rfl) (fun z5 M5 q5 => ?_)
    obtain ⟨b5, rfl⟩ := q5
    refine S.if_ne (tgt := 13) dX11_line_8 (by decide) rfl (by unfold fp_rng; omega) (fun h8 => ?_) (fun h8 => ?_)
    · refine S.iload_n dX11_line_13 rfl rfl rfl ?_
      refine S.bipush dX11_line_14 rfl (by decide) ?_
      refine S.icmp_lt (tgt := 53) dX11_line_16 (by decide) rfl (by unfold fp_rng; omega) (by unfold fp_rng; omega) (fun h16 => ?_) (fun h16 => ?_)
      · refine S.iload_n dX11_line_53 rfl rfl rfl ?_
        rcases (show w < 0 ∨ 2 < w ∨ w = 0 ∨ w = 1 ∨ w = 2 by omega) with hs | hs | hs | hs | hs
        · refine S.tableOut (tgt := 113) dX11_line_54 (by unfold fp_rng; omega) (by omega) (by decide) ?_
          refine S.iconst dX11_line_113 rfl ?_
          refine S.iret dX11_line_114 rfl ?_
          refine ⟨?_, rfl⟩
          (repeat' split) <;> first | rfl | omega
        · refine S.tableOut (tgt := 113) dX11_line_54 (by unfold fp_rng; omega) (by omega) (by decide) ?_
          refine S.iconst dX11_line_113 rfl ?_
          refine S.iret dX11_line_114 rfl ?_
          refine ⟨?_, rfl⟩
          (repeat' split) <;> first | rfl | omega
        · refine S.tableIn (tgt := 80) dX11_line_54 (by unfold fp_rng; omega) (by omega) (by omega) (by rw [hs]; rfl) (by decide) ?_
          refine S.aload_n dX11_line_80 rfl rfl rfl ?_
          refine S.getR dX11_line_81 rfl fX11_23 L_0 rf_0_3 ?_
          refine S.getR dX11_line_84 rfl fX11_156 (gd_lay gd18) (gd_r5 gd18) ?_
          refine S.iload_n dX11_line_87 rfl rfl rfl ?_
          refine S.iald dX11_line_88 rfl (gd_a5 gd18) (by omega) (by omega) ?_
          refine S.iret dX11_line_89 rfl ?_
          refine ⟨?_, rfl⟩
          (repeat' split) <;> first | rfl | omega
        · refine S.tableIn (tgt := 90) dX11_line_54 (by unfold fp_rng; omega) (by omega) (by omega) (by rw [hs]; rfl) (by decide) ?_
          refine S.aload_n dX11_line_90 rfl rfl rfl ?_
          refine S.getR dX11_line_91 rfl fX11_30 L_0 rf_0_4 ?_
          refine S.getR dX11_line_94 rfl fX11_151 (pl_lay pl22) (pl_r2 pl22) ?_
          refine S.iload_n dX11_line_97 rfl rfl rfl ?_
          refine S.iald dX11_line_98 rfl (pl_a2 pl22) (by omega) (by omega) ?_
          refine S.iret dX11_line_99 rfl ?_
          refine ⟨?_, rfl⟩
          (repeat' split) <;> first | rfl | omega
        · refine S.tableIn (tgt := 100) dX11_line_54 (by unfold fp_rng; omega) (by omega) (by omega) (by rw [hs]; rfl) (by decide) ?_
          refine S.aload_n dX11_line_100 rfl rfl rfl ?_
          refine S.getR dX11_line_101 rfl fX11_30 L_0 rf_0_4 ?_
          refine S.aload_n dX11_line_104 rfl rfl rfl ?_
          refine S.getR dX11_line_105 rfl fX11_23 L_0 rf_0_3 ?_
          refine S.iload_n dX11_line_108 rfl rfl rfl ?_
          refine S.callVe dX11_line_109 rfl cX11_159 (rk_X5_gives pl22 gd18) rfl (pl_lay pl22) (by decide) rfl (Nat.le_of_ble_eq_true rfl) ?_
          refine S.iret dX11_line_112 rfl ?_
          refine ⟨?_, rfl⟩
          (repeat' split) <;> first | rfl | omega
      · refine S.iload_n dX11_line_19 rfl rfl rfl ?_
        refine S.bipush dX11_line_20 rfl (by decide) ?_
        refine S.aload_n dX11_line_22 rfl rfl rfl ?_
        refine S.getR dX11_line_23 rfl fX11_30 L_0 rf_0_4 ?_
        refine S.getR dX11_line_26 rfl fX11_151 (pl_lay pl22) (pl_r2 pl22) ?_
        refine S.iload_n dX11_line_29 rfl rfl rfl ?_
        refine S.iald dX11_line_30 rfl (pl_a2 pl22) (by omega) (by omega) ?_
        refine S.iadd dX11_line_31 rfl ?_
        refine S.icmp_ge (tgt := 53) dX11_line_32 (by decide) rfl (by unfold fp_rng; omega) (by unfold fp_rng; omega) (fun h32 => ?_) (fun h32 => ?_)
        · refine S.iload_n dX11_line_53 rfl rfl rfl ?_
          rcases (show w < 0 ∨ 2 < w ∨ w = 0 ∨ w = 1 ∨ w = 2 by omega) with hs | hs | hs | hs | hs
          · refine S.tableOut (tgt := 113) dX11_line_54 (by unfold fp_rng; omega) (by omega) (by decide) ?_
            refine S.iconst dX11_line_113 rfl ?_
            refine S.iret dX11_line_114 rfl ?_
            refine ⟨?_, rfl⟩
            (repeat' split) <;> first | rfl | omega
          · refine S.tableOut (tgt := 113) dX11_line_54 (by unfold fp_rng; omega) (by omega) (by decide) ?_
            refine S.iconst dX11_line_113 rfl ?_
            refine S.iret dX11_line_114 rfl ?_
            refine ⟨?_, rfl⟩
            (repeat' split) <;> first | rfl | omega
          · refine S.tableIn (tgt := 80) dX11_line_54 (by unfold fp_rng; omega) (by omega) (by omega) (by rw [hs]; rfl) (by decide) ?_
            refine S.aload_n dX11_line_80 rfl rfl rfl ?_
            refine S.getR dX11_line_81 rfl fX11_23 L_0 rf_0_3 ?_
            refine S.getR dX11_line_84 rfl fX11_156 (gd_lay gd18) (gd_r5 gd18) ?_
            refine S.iload_n dX11_line_87 rfl rfl rfl ?_
            refine S.iald dX11_line_88 rfl (gd_a5 gd18) (by omega) (by omega) ?_
            refine S.iret dX11_line_89 rfl ?_
            refine ⟨?_, rfl⟩
            (repeat' split) <;> first | rfl | omega
          · refine S.tableIn (tgt := 90) dX11_line_54 (by unfold fp_rng; omega) (by omega) (by omega) (by rw [hs]; rfl) (by decide) ?_
            refine S.aload_n dX11_line_90 rfl rfl rfl ?_
            refine S.getR dX11_line_91 rfl fX11_30 L_0 rf_0_4 ?_
            refine S.getR dX11_line_94 rfl fX11_151 (pl_lay pl22) (pl_r2 pl22) ?_
            refine S.iload_n dX11_line_97 rfl rfl rfl ?_
            refine S.iald dX11_line_98 rfl (pl_a2 pl22) (by omega) (by omega) ?_
            refine S.iret dX11_line_99 rfl ?_
            refine ⟨?_, rfl⟩
            (repeat' split) <;> first | rfl | omega
          · refine S.tableIn (tgt := 100) dX11_line_54 (by unfold fp_rng; omega) (by omega) (by omega) (by rw [hs]; rfl) (by decide) ?_
            refine S.aload_n dX11_line_100 rfl rfl rfl ?_
            refine S.getR dX11_line_101 rfl fX11_30 L_0 rf_0_4 ?_
            refine S.aload_n dX11_line_104 rfl rfl rfl ?_
            refine S.getR dX11_line_105 rfl fX11_23 L_0 rf_0_3 ?_
            refine S.iload_n dX11_line_108 rfl rfl rfl ?_
            refine S.callVe dX11_line_109 rfl cX11_159 (rk_X5_gives pl22 gd18) rfl (pl_lay pl22) (by decide) rfl (Nat.le_of_ble_eq_true rfl) ?_
            refine S.iret dX11_line_112 rfl ?_
            refine ⟨?_, rfl⟩
            (repeat' split) <;> first | rfl | omega
        · refine S.aload_n dX11_line_35 rfl rfl rfl ?_
          refine S.getR dX11_line_36 rfl fX11_30 L_0 rf_0_4 ?_
          refine S.getR dX11_line_39 rfl fX11_153 (pl_lay pl22) (pl_r3 pl22) ?_
          refine S.iload_n dX11_line_42 rfl rfl rfl ?_
          refine S.bipush dX11_line_43 rfl (by decide) ?_
          refine S.imul dX11_line_45 rfl ?_
          refine S.iload_n dX11_line_46 rfl rfl rfl ?_
          refine S.iadd dX11_line_47 rfl ?_
          refine S.bipush dX11_line_48 rfl (by decide) ?_
          refine S.isub dX11_line_50 rfl ?_
          refine S.iald dX11_line_51 rfl (pl_a3 pl22) (by omega) (by omega) ?_
          refine S.iret dX11_line_52 rfl ?_
          refine ⟨?_, rfl⟩
          have hv := (n2 (w - 10) (by omega) (by omega)).1
          rw [show x * 8 + (w - 10) = x * 8 + w - 10 by omega] at hv
          (repeat' split) <;> first | exact hv | omega
    · exfalso; omega
  · rw [if_pos hin]
    refine S.aload_n dX11_line_0 rfl rfl rfl ?_
    refine S.getR dX11_line_1 rfl fX11_23 L_0 rf_0_3 ?_
    refine S.iload_n dX11_line_4 rfl rfl rfl ?_
    refine S.callVi dX11_line_5 rfl cX11_148 (bk_X1_hasLine gd18) rfl (gd_lay gd18) (by decide) rfl (Nat.le_of_ble_eq_true rfl) (fun z5 M5 q5 => ?_)
    obtain ⟨b5, rfl⟩ := q5
    refine S.if_ne (tgt := 13) dX11_line_8 (by decide) rfl (by unfold fp_rng; omega) (fun h8 => ?_) (fun h8 => ?_)
    · exfalso; omega
    · refine S.iconst dX11_line_11 rfl ?_
      refine S.iret dX11_line_12 rfl ?_
      exact ⟨rfl, rfl⟩
theorem mm_line {x w : Int} (hc : MS M tp fl g pg vs nt im sh tn) (ho : OK g pg vs nt im sh) (hx : fp_rng x) (hw : fp_rng w) : fp_Ok l G 3 kX12_line [rV G 177, iV x, iV w] M (qE (A_line g pg x w) M) := by
  obtain ⟨-, hd, hcl, -⟩ := hc
  obtain ⟨hg, hP, -⟩ := ho
  have hg2 := hg.2.1
  have hw' := hw
  unfold fp_rng at hw'
  refine fp_Ok.of (r := 0) rfl (Nat.le_of_ble_eq_true rfl) rfl ?_
  unfold A_line
  by_cases hin : 0 ≤ x ∧ x < g.2.1
  · obtain ⟨n1, n2, n3⟩ := hcl.line hP hin hg
    have hk := hd.2.2.2.2.2.2.2.1 x hin.1 hin.2
    rw [if_neg (by omega)]
    refine S.aload_n dX12_line_0 rfl rfl rfl ?_
    refine S.iload_n dX12_line_1 rfl rfl rfl ?_
    refine S.callVi dX12_line_2 rfl cX12_219 (bk_X12_isLine) rfl L_177 (by decide) rfl (Nat.le_of_ble_eq_true rfl) (fun z2 M2 q2 => ?_)
    obtain ⟨b2, rfl⟩ := q2
    refine S.if_ne (tgt := 10) dX12_line_5 (by decide) rfl (by unfold fp_rng; omega) (fun h5 => ?_) (fun h5 => ?_)
    · refine S.iload_n dX12_line_10 rfl rfl rfl ?_
      refine S.if_ne (tgt := 23) dX12_line_11 (by decide) rfl (by unfold fp_rng; omega) (fun h11 => ?_) (fun h11 => ?_)
      · refine S.iload_n dX12_line_23 rfl rfl rfl ?_
        refine S.iconst dX12_line_24 rfl ?_
        refine S.icmp_ne (tgt := 37) dX12_line_25 (by decide) rfl (by unfold fp_rng; omega) (by unfold fp_rng; omega) (fun h25 => ?_) (fun h25 => ?_)
        · refine S.iload_n dX12_line_37 rfl rfl rfl ?_
          refine S.iconst dX12_line_38 rfl ?_
          refine S.icmp_ne (tgt := 51) dX12_line_39 (by decide) rfl (by unfold fp_rng; omega) (by unfold fp_rng; omega) (fun h39 => ?_) (fun h39 => ?_)
          · refine S.iload_n dX12_line_51 rfl rfl rfl ?_
            refine S.i2l dX12_line_52 rfl (by unfold fp_rng; omega) ?_
            refine S.ldc2 (v := 10) dX12_line_53 rfl lX12_212 (by decide) ?_
            refine S.bipush dX12_line_56 rfl (by decide) ?_
            refine S.aload_n dX12_line_58 rfl rfl rfl ?_
            refine S.iconst dX12_line_59 rfl ?_
            refine S.iload_n dX12_line_60 rfl rfl rfl ?_
            refine S.callVe dX12_line_61 rfl cX12_198 (ok_X12_lie) rfl L_177 (by decide) rfl (Nat.le_of_ble_eq_true rfl) ?_
            refine S.iadd dX12_line_64 rfl ?_
            refine S.i2l dX12_line_65 rfl (by unfold fp_rng; omega) ?_
            refine S.callSi dX12_line_66 rfl cX12_94 (bk_X12_in) rfl (by decide) rfl (Nat.le_of_ble_eq_true rfl) (fun z66 M66 q66 => ?_)
            obtain ⟨b66, rfl⟩ := q66
            refine S.if_eq (tgt := 85) dX12_line_69 (by decide) rfl (by unfold fp_rng; omega) (fun h69 => ?_) (fun h69 => ?_)
            · refine S.iconst dX12_line_85 rfl ?_
              refine S.iret dX12_line_86 rfl ?_
              refine ⟨?_, rfl⟩
              (repeat' split) <;> first | rfl | omega | (have hv := (n2 (w - 10) (by omega) (by omega)).1; exact hv)
            · refine S.aload_n dX12_line_72 rfl rfl rfl ?_
              refine S.iconst dX12_line_73 rfl ?_
              refine S.iload_n dX12_line_74 rfl rfl rfl ?_
              refine S.iload_n dX12_line_75 rfl rfl rfl ?_
              refine S.bipush dX12_line_76 rfl (by decide) ?_
              refine S.isub dX12_line_78 rfl ?_
              refine S.callVe dX12_line_79 rfl cX12_201 (ok_X12_lies) rfl L_177 (by decide) rfl (Nat.le_of_ble_eq_true rfl) ?_
              refine S.goto (pc' := 86) dX12_line_82 (by decide) ?_
              refine S.iret dX12_line_86 rfl ?_
              refine ⟨?_, rfl⟩
              (repeat' split) <;> first | rfl | omega | (have hv := (n2 (w - 10) (by omega) (by omega)).1; exact hv)
          · refine S.aload_n dX12_line_42 rfl rfl rfl ?_
            refine S.iconst dX12_line_43 rfl ?_
            refine S.iload_n dX12_line_44 rfl rfl rfl ?_
            refine S.callVe dX12_line_45 rfl cX12_222 (rk_X12_gives (g := g) (pg := pg)) rfl L_177 (by decide) rfl (Nat.le_of_ble_eq_true rfl) ?_
            refine S.goto (pc' := 86) dX12_line_48 (by decide) ?_
            refine S.iret dX12_line_86 rfl ?_
            refine ⟨?_, rfl⟩
            (repeat' split) <;> first | rfl | omega | (have hv := (n2 (w - 10) (by omega) (by omega)).1; exact hv)
        · refine S.aload_n dX12_line_28 rfl rfl rfl ?_
          refine S.iconst dX12_line_29 rfl ?_
          refine S.iload_n dX12_line_30 rfl rfl rfl ?_
          refine S.callVe dX12_line_31 rfl cX12_198 (ok_X12_lie) rfl L_177 (by decide) rfl (Nat.le_of_ble_eq_true rfl) ?_
          refine S.goto (pc' := 86) dX12_line_34 (by decide) ?_
          refine S.iret dX12_line_86 rfl ?_
          refine ⟨?_, rfl⟩
          (repeat' split) <;> first | rfl | omega | (have hv := (n2 (w - 10) (by omega) (by omega)).1; exact hv)
      · refine S.aload_n dX12_line_14 rfl rfl rfl ?_
        refine S.getR dX12_line_15 rfl fX12_19 L_177 rf_177_3 ?_
        refine S.iload_n dX12_line_18 rfl rfl rfl ?_
        refine S.iald dX12_line_19 rfl L_181 (by omega) (by omega) ?_
        refine S.goto (pc' := 86) dX12_line_20 (by decide) ?_
        refine S.iret dX12_line_86 rfl ?_
        refine ⟨?_, rfl⟩
        (repeat' split) <;> first | rfl | omega | (have hv := (n2 (w - 10) (by omega) (by omega)).1; exact hv)
    · exfalso; omega
  · rw [if_pos hin]
    refine S.aload_n dX12_line_0 rfl rfl rfl ?_
    refine S.iload_n dX12_line_1 rfl rfl rfl ?_
    refine S.callVi dX12_line_2 rfl cX12_219 (bk_X12_isLine) rfl L_177 (by decide) rfl (Nat.le_of_ble_eq_true rfl) (fun z2 M2 q2 => ?_)
    obtain ⟨b2, rfl⟩ := q2
    refine S.if_ne (tgt := 10) dX12_line_5 (by decide) rfl (by unfold fp_rng; omega) (fun h5 => ?_) (fun h5 => ?_)
    · exfalso; omega
    · refine S.iconst dX12_line_8 rfl ?_
      refine S.iret dX12_line_9 rfl ?_
      exact ⟨rfl, rfl⟩
theorem cc_visit {i w : Int} (hc : CS M tp fl g pg vs nt im sh tn) (hi : fp_rng i) (hw : fp_rng w) : fp_Ok l G 1 kX11_visit [rV G 0, iV i, iV w] M (qE (A_visit vs i w) M) := by
  obtain ⟨-, hd, hcl, hv, -⟩ := hc
  have hw' := hw
  unfold fp_rng at hw'
  have hl := hv.2.1
  refine fp_Ok.of (r := 0) rfl (Nat.le_of_ble_eq_true rfl) rfl ?_
  unfold A_visit
  by_cases hin : 0 ≤ i ∧ i < vs.length
  · obtain ⟨e1, e2, e3, e4⟩ := hv.2.2 i hin.1 hin.2
    rw [if_neg (by omega)]
    refine S.aload_n dX11_visit_0 rfl rfl rfl ?_
    refine S.getR dX11_visit_1 rfl fX11_37 L_0 rf_0_5 ?_
    refine S.iload_n dX11_visit_4 rfl rfl rfl ?_
    refine S.callVi dX11_visit_5 rfl cX11_163 (bk_X10_has vs27) rfl (vs_lay vs27) (by decide) rfl (Nat.le_of_ble_eq_true rfl) (fun z5 M5 q5 => ?_)
    obtain ⟨b5, rfl⟩ := q5
    refine S.if_ne (tgt := 13) dX11_visit_8 (by decide) rfl (by unfold fp_rng; omega) (fun h8 => ?_) (fun h8 => ?_)
    · refine S.iload_n dX11_visit_13 rfl rfl rfl ?_
      rcases (show w < 0 ∨ 3 < w ∨ w = 0 ∨ w = 1 ∨ w = 2 ∨ w = 3 by omega) with hs | hs | hs | hs | hs | hs
      · refine S.tableOut (tgt := 84) dX11_visit_14 (by unfold fp_rng; omega) (by omega) (by decide) ?_
        refine S.iconst dX11_visit_84 rfl ?_
        refine S.iret dX11_visit_85 rfl ?_
        refine ⟨?_, rfl⟩
        (repeat' split) <;> first | rfl | omega
      · refine S.tableOut (tgt := 84) dX11_visit_14 (by unfold fp_rng; omega) (by omega) (by decide) ?_
        refine S.iconst dX11_visit_84 rfl ?_
        refine S.iret dX11_visit_85 rfl ?_
        refine ⟨?_, rfl⟩
        (repeat' split) <;> first | rfl | omega
      · refine S.tableIn (tgt := 44) dX11_visit_14 (by unfold fp_rng; omega) (by omega) (by omega) (by rw [hs]; rfl) (by decide) ?_
        refine S.aload_n dX11_visit_44 rfl rfl rfl ?_
        refine S.getR dX11_visit_45 rfl fX11_37 L_0 rf_0_5 ?_
        refine S.getR dX11_visit_48 rfl fX11_166 (vs_lay vs27) (vs_r1 vs27) ?_
        refine S.iload_n dX11_visit_51 rfl rfl rfl ?_
        refine S.iald dX11_visit_52 rfl (vs_a1 vs27) (by omega) (by omega) ?_
        refine S.iret dX11_visit_53 rfl ?_
        refine ⟨?_, rfl⟩
        (repeat' split) <;> first | rfl | omega
      · refine S.tableIn (tgt := 54) dX11_visit_14 (by unfold fp_rng; omega) (by omega) (by omega) (by rw [hs]; rfl) (by decide) ?_
        refine S.aload_n dX11_visit_54 rfl rfl rfl ?_
        refine S.getR dX11_visit_55 rfl fX11_37 L_0 rf_0_5 ?_
        refine S.getR dX11_visit_58 rfl fX11_169 (vs_lay vs27) (vs_r2 vs27) ?_
        refine S.iload_n dX11_visit_61 rfl rfl rfl ?_
        refine S.iald dX11_visit_62 rfl (vs_a2 vs27) (by omega) (by omega) ?_
        refine S.iret dX11_visit_63 rfl ?_
        refine ⟨?_, rfl⟩
        (repeat' split) <;> first | rfl | omega
      · refine S.tableIn (tgt := 64) dX11_visit_14 (by unfold fp_rng; omega) (by omega) (by omega) (by rw [hs]; rfl) (by decide) ?_
        refine S.aload_n dX11_visit_64 rfl rfl rfl ?_
        refine S.getR dX11_visit_65 rfl fX11_37 L_0 rf_0_5 ?_
        refine S.getR dX11_visit_68 rfl fX11_172 (vs_lay vs27) (vs_r3 vs27) ?_
        refine S.iload_n dX11_visit_71 rfl rfl rfl ?_
        refine S.iald dX11_visit_72 rfl (vs_a3 vs27) (by omega) (by omega) ?_
        refine S.iret dX11_visit_73 rfl ?_
        refine ⟨?_, rfl⟩
        (repeat' split) <;> first | rfl | omega
      · refine S.tableIn (tgt := 74) dX11_visit_14 (by unfold fp_rng; omega) (by omega) (by omega) (by rw [hs]; rfl) (by decide) ?_
        refine S.aload_n dX11_visit_74 rfl rfl rfl ?_
        refine S.getR dX11_visit_75 rfl fX11_37 L_0 rf_0_5 ?_
        refine S.getR dX11_visit_78 rfl fX11_175 (vs_lay vs27) (vs_r4 vs27) ?_
        refine S.iload_n dX11_visit_81 rfl rfl rfl ?_
        refine S.iald dX11_visit_82 rfl (vs_a4 vs27) (by omega) (by omega) ?_
        refine S.iret dX11_visit_83 rfl ?_
        refine ⟨?_, rfl⟩
        (repeat' split) <;> first | rfl | omega
    · exfalso; omega
  · rw [if_pos hin]
    refine S.aload_n dX11_visit_0 rfl rfl rfl ?_
    refine S.getR dX11_visit_1 rfl fX11_37 L_0 rf_0_5 ?_
    refine S.iload_n dX11_visit_4 rfl rfl rfl ?_
    refine S.callVi dX11_visit_5 rfl cX11_163 (bk_X10_has vs27) rfl (vs_lay vs27) (by decide) rfl (Nat.le_of_ble_eq_true rfl) (fun z5 M5 q5 => ?_)
    obtain ⟨b5, rfl⟩ := q5
    refine S.if_ne (tgt := 13) dX11_visit_8 (by decide) rfl (by unfold fp_rng; omega) (fun h8 => ?_) (fun h8 => ?_)
    · exfalso; omega
    · refine S.iconst dX11_visit_11 rfl ?_
      refine S.iret dX11_visit_12 rfl ?_
      exact ⟨rfl, rfl⟩
theorem mm_visit {i w : Int} (hc : MS M tp fl g pg vs nt im sh tn) (hi : fp_rng i) (hw : fp_rng w) : fp_Ok l G 1 kX12_visit [rV G 177, iV i, iV w] M (qE (A_visit vs i w) M) := by
  obtain ⟨-, hd, hcl, hv, -⟩ := hc
  have hw' := hw
  unfold fp_rng at hw'
  have hl := hv.2.1
  have hl1 := hv.1
  have hi' := hi
  unfold fp_rng at hi'
  refine fp_Ok.of (r := 0) rfl (Nat.le_of_ble_eq_true rfl) rfl ?_
  unfold A_visit
  by_cases hin : 0 ≤ i ∧ i < vs.length
  · obtain ⟨e1, e2, e3, e4⟩ := hv.2.2 i hin.1 hin.2
    rw [if_neg (by omega)]
    refine S.iload_n dX12_visit_0 rfl rfl rfl ?_
    refine S.i2l dX12_visit_1 rfl hi ?_
    refine S.lconst (w := 0) dX12_visit_2 rfl rfl ?_
    refine S.aload_n dX12_visit_3 rfl rfl rfl ?_
    refine S.callVe dX12_visit_4 rfl cX12_225 (ok_X12_visits) rfl L_177 (by decide) rfl (Nat.le_of_ble_eq_true rfl) ?_
    refine S.iconst dX12_visit_7 rfl ?_
    refine S.isub dX12_visit_8 rfl ?_
    refine S.i2l dX12_visit_9 rfl (by unfold fp_rng; omega) ?_
    refine S.callSi dX12_visit_10 rfl cX12_94 (bk_X12_in) rfl (by decide) rfl (Nat.le_of_ble_eq_true rfl) (fun z10 M10 q10 => ?_)
    obtain ⟨b10, rfl⟩ := q10
    refine S.if_eq (tgt := 44) dX12_visit_13 (by decide) rfl (by unfold fp_rng; omega) (fun h13 => ?_) (fun h13 => ?_)
    · refine S.iconst dX12_visit_44 rfl ?_
      refine S.iret dX12_visit_45 rfl ?_
      refine ⟨?_, rfl⟩
      first | (rw [if_neg (by omega), if_neg (by omega), if_neg (by omega), if_neg (by omega)]; done) | (rcases (show w = 0 ∨ w = 1 ∨ w = 2 ∨ w = 3 by omega) with rfl | rfl | rfl | rfl; (rw [if_pos rfl, Int.add_zero]; exact e1); (rw [if_neg (by decide), if_pos rfl]; exact e2); (rw [if_neg (by decide), if_neg (by decide), if_pos rfl]; exact e3); (rw [if_neg (by decide), if_neg (by decide), if_neg (by decide), if_pos rfl]; exact e4))
    · refine S.iload_n dX12_visit_16 rfl rfl rfl ?_
      refine S.i2l dX12_visit_17 rfl hw ?_
      refine S.lconst (w := 0) dX12_visit_18 rfl rfl ?_
      refine S.ldc2 (v := 3) dX12_visit_19 rfl lX12_196 (by decide) ?_
      refine S.callSi dX12_visit_22 rfl cX12_94 (bk_X12_in) rfl (by decide) rfl (Nat.le_of_ble_eq_true rfl) (fun z22 M22 q22 => ?_)
      obtain ⟨b22, rfl⟩ := q22
      refine S.if_eq (tgt := 44) dX12_visit_25 (by decide) rfl (by unfold fp_rng; omega) (fun h25 => ?_) (fun h25 => ?_)
      · refine S.iconst dX12_visit_44 rfl ?_
        refine S.iret dX12_visit_45 rfl ?_
        refine ⟨?_, rfl⟩
        first | (rw [if_neg (by omega), if_neg (by omega), if_neg (by omega), if_neg (by omega)]; done) | (rcases (show w = 0 ∨ w = 1 ∨ w = 2 ∨ w = 3 by omega) with rfl | rfl | rfl | rfl; (rw [if_pos rfl, Int.add_zero]; exact e1); (rw [if_neg (by decide), if_pos rfl]; exact e2); (rw [if_neg (by decide), if_neg (by decide), if_pos rfl]; exact e3); (rw [if_neg (by decide), if_neg (by decide), if_neg (by decide), if_pos rfl]; exact e4))
      · refine S.aload_n dX12_visit_28 rfl rfl rfl ?_
        refine S.getR dX12_visit_29 rfl fX12_7 L_177 rf_177_0 ?_
        refine S.bipush dX12_visit_32 rfl (by decide) ?_
        refine S.iconst dX12_visit_34 rfl ?_
        refine S.iload_n dX12_visit_35 rfl rfl rfl ?_
        refine S.imul dX12_visit_36 rfl ?_
        refine S.iadd dX12_visit_37 rfl ?_
        refine S.iload_n dX12_visit_38 rfl rfl rfl ?_
        refine S.iadd dX12_visit_39 rfl ?_
        refine S.iald dX12_visit_40 rfl L_178 (by omega) (by omega) ?_
        refine S.goto (pc' := 45) dX12_visit_41 (by decide) ?_
        refine S.iret dX12_visit_45 rfl ?_
        refine ⟨?_, rfl⟩
        first | (rw [if_neg (by omega), if_neg (by omega), if_neg (by omega), if_neg (by omega)]; done) | (rcases (show w = 0 ∨ w = 1 ∨ w = 2 ∨ w = 3 by omega) with rfl | rfl | rfl | rfl; (rw [if_pos rfl, Int.add_zero]; exact e1); (rw [if_neg (by decide), if_pos rfl]; exact e2); (rw [if_neg (by decide), if_neg (by decide), if_pos rfl]; exact e3); (rw [if_neg (by decide), if_neg (by decide), if_neg (by decide), if_pos rfl]; exact e4))
  · rw [if_pos hin]
    refine S.iload_n dX12_visit_0 rfl rfl rfl ?_
    refine S.i2l dX12_visit_1 rfl hi ?_
    refine S.lconst (w := 0) dX12_visit_2 rfl rfl ?_
    refine S.aload_n dX12_visit_3 rfl rfl rfl ?_
    refine S.callVe dX12_visit_4 rfl cX12_225 (ok_X12_visits) rfl L_177 (by decide) rfl (Nat.le_of_ble_eq_true rfl) ?_
    refine S.iconst dX12_visit_7 rfl ?_
    refine S.isub dX12_visit_8 rfl ?_
    refine S.i2l dX12_visit_9 rfl (by unfold fp_rng; omega) ?_
    refine S.callSi dX12_visit_10 rfl cX12_94 (bk_X12_in) rfl (by decide) rfl (Nat.le_of_ble_eq_true rfl) (fun z10 M10 q10 => ?_)
    obtain ⟨b10, rfl⟩ := q10
    refine S.if_eq (tgt := 44) dX12_visit_13 (by decide) rfl (by unfold fp_rng; omega) (fun h13 => ?_) (fun h13 => ?_)
    · refine S.iconst dX12_visit_44 rfl ?_
      refine S.iret dX12_visit_45 rfl ?_
      exact ⟨rfl, rfl⟩
    · exfalso; omega
theorem clIs.ch {k : Nat} {v : Int} (h : clIs M k g pg) : clIs M k (g.1, g.2.1, v, g.2.2.2) pg := h
theorem cc_chance {v : Int} (hc : CS M tp fl g pg vs nt im sh tn) (ho : OK g pg vs nt im sh) (hv : fp_rng v) : fp_Ok l G 0 kX11_chance [rV G 0, iV v] M (qI fun z N => z = (A_chance g v).1 ∧ CS N tp fl (A_chance g v).2 pg vs nt im sh tn ∧ frC M N) := by
  obtain ⟨s1, hd, s3, s4, s5, s6, s7⟩ := hc
  have hch := hd.2.2.1
  refine fp_Ok.of (r := 1) rfl (Nat.le_of_ble_eq_true rfl) rfl ?_
  unfold A_chance
  by_cases hin : 0 ≤ v ∧ v ≤ 10
  · rw [if_pos hin]
    refine S.iload_n dX11_chance_0 rfl rfl rfl ?_
    refine S.if_lt (tgt := 10) dX11_chance_1 (by decide) rfl hv (fun h1 => ?_) (fun h1 => ?_)
    · exfalso; omega
    · refine S.iload_n dX11_chance_4 rfl rfl rfl ?_
      refine S.bipush dX11_chance_5 rfl (by decide) ?_
      refine S.icmp_le (tgt := 12) dX11_chance_7 (by decide) rfl hv (by unfold fp_rng; omega) (fun h7 => ?_) (fun h7 => ?_)
      · refine S.aload_n dX11_chance_12 rfl rfl rfl ?_
        refine S.getR dX11_chance_13 rfl fX11_23 L_0 rf_0_3 ?_
        refine S.getI dX11_chance_16 rfl fX11_178 (gd_lay gd18) ?_
        refine S.istore_n (LL' := [_, _, _]) dX11_chance_19 rfl (by decide) rfl rfl rfl ?_
        refine S.aload_n dX11_chance_20 rfl rfl rfl ?_
        refine S.getR dX11_chance_21 rfl fX11_23 L_0 rf_0_3 ?_
        refine S.iload_n dX11_chance_24 rfl rfl rfl ?_
        refine S.putI dX11_chance_25 rfl fX11_178 (gd_lay gd18) ?_
        refine S.iload_n dX11_chance_28 rfl rfl rfl ?_
        refine S.iret dX11_chance_29 rfl ?_
        have e : ∀ a, a ≠ 18 → fp_up M 18 2 v a = M a := fun a ha => fp_up_ne ha
        have eg : gdIs (fp_up M 18 2 v) 18 (g.1, g.2.1, v, g.2.2.2) := by
          obtain ⟨d1, d2, d3, d4, d5, d6, d7, d8, d9⟩ := hd
          unfold gdIs gd_ok at *
          rw [fp_up_at, e 19 (by decide), e 20 (by decide), e 21 (by decide), fp_upf_ne (by decide), fp_upf_ne (by decide), fp_upf_at]
          exact ⟨d1, d2, rfl, d4, d5, d6, d7, d8, d9.1, d9.2.1, hin, d9.2.2.2⟩
        refine ⟨hch, ⟨s1.kept (e 0 (by decide)) (e 1 (by decide)) (by rw [e 2 (by decide)]), eg, (s3.kept (fun a q1 q2 => e a (by omega))).ch, s4.kept (fun a q1 q2 => e a (by omega)), s5.kept (fun a q1 q2 => e a (by omega)), s6.kept (fun a q1 q2 => e a (by omega)), s7.kept (fun a q1 q2 => e a (by omega))⟩, fun c hc => e c (by omega)⟩
      · exfalso; omega
  · rw [if_neg hin]
    refine S.iload_n dX11_chance_0 rfl rfl rfl ?_
    refine S.if_lt (tgt := 10) dX11_chance_1 (by decide) rfl hv (fun h1 => ?_) (fun h1 => ?_)
    · refine S.iconst dX11_chance_10 rfl ?_
      refine S.iret dX11_chance_11 rfl ?_
      exact ⟨rfl, ⟨s1, hd, s3, s4, s5, s6, s7⟩, frC.refl _⟩
    · refine S.iload_n dX11_chance_4 rfl rfl rfl ?_
      refine S.bipush dX11_chance_5 rfl (by decide) ?_
      refine S.icmp_le (tgt := 12) dX11_chance_7 (by decide) rfl hv (by unfold fp_rng; omega) (fun h7 => ?_) (fun h7 => ?_)
      · exfalso; omega
      · refine S.iconst dX11_chance_10 rfl ?_
        refine S.iret dX11_chance_11 rfl ?_
        exact ⟨rfl, ⟨s1, hd, s3, s4, s5, s6, s7⟩, frC.refl _⟩
theorem mm_chance {v : Int} (hc : MS M tp fl g pg vs nt im sh tn) (ho : OK g pg vs nt im sh) (hv : fp_rng v) : fp_Ok l G 1 kX12_chance [rV G 177, iV v] M (qI fun z N => z = (A_chance g v).1 ∧ MS N tp fl (A_chance g v).2 pg vs nt im sh tn ∧ frD M N) := by
  obtain ⟨s1, hd, s3, s4, s5, s6, s7, s8⟩ := hc
  have hch := hd.2.2.1
  have hv' := hv
  unfold fp_rng at hv'
  refine fp_Ok.of (r := 1) rfl (Nat.le_of_ble_eq_true rfl) rfl ?_
  unfold A_chance
  by_cases hin : 0 ≤ v ∧ v ≤ 10
  · rw [if_pos hin]
    refine S.iload_n dX12_chance_0 rfl rfl rfl ?_
    refine S.i2l dX12_chance_1 rfl hv ?_
    refine S.lconst (w := 0) dX12_chance_2 rfl rfl ?_
    refine S.ldc2 (v := 10) dX12_chance_3 rfl lX12_212 (by decide) ?_
    refine S.callSi dX12_chance_6 rfl cX12_94 (bk_X12_in) rfl (by decide) rfl (Nat.le_of_ble_eq_true rfl) (fun z6 M6 q6 => ?_)
    obtain ⟨b6, rfl⟩ := q6
    refine S.if_ne (tgt := 14) dX12_chance_9 (by decide) rfl (by unfold fp_rng; omega) (fun h9 => ?_) (fun h9 => ?_)
    · refine S.aload_n dX12_chance_14 rfl rfl rfl ?_
      refine S.getI dX12_chance_15 rfl fX12_22 L_177 ?_
      refine S.istore_n (LL' := [_, _, _]) dX12_chance_18 rfl (by decide) rfl rfl rfl ?_
      refine S.aload_n dX12_chance_19 rfl rfl rfl ?_
      refine S.iload_n dX12_chance_20 rfl rfl rfl ?_
      refine S.putI dX12_chance_21 rfl fX12_22 L_177 ?_
      refine S.iload_n dX12_chance_24 rfl rfl rfl ?_
      refine S.iret dX12_chance_25 rfl ?_
      have e : ∀ a, a ≠ 177 → fp_up M 177 6 v a = M a := fun a ha => fp_up_ne ha
      have eg : mdIs (fp_up M 177 6 v) (g.1, g.2.1, v, g.2.2.2) := by
        obtain ⟨d1, d2, d3, d4, d5, d6, d7, d8, d9⟩ := hd
        unfold mdIs md_ok at *
        rw [fp_up_at, e 179 (by decide), e 180 (by decide), e 181 (by decide), fp_upf_ne (by decide), fp_upf_ne (by decide), fp_upf_at]
        exact ⟨d1, d2, rfl, d4, d5, d6, d7, d8, d9.1, d9.2.1, hin, d9.2.2.2⟩
      refine ⟨hch, ⟨?_, eg, ?_, ?_, ?_, ?_, ?_, ?_⟩, fun c hc => e c (by omega)⟩
      · unfold msA at *; rw [fp_up_at, fp_upf_ne (by decide), fp_upf_ne (by decide), fp_upf_ne (by decide), e 186 (by decide)]; exact s1
      · unfold mpIs at *; rw [e 178 (by decide)]; exact s3
      · rw [e 178 (by decide)]; exact s4
      · rw [e 178 (by decide)]; exact s5
      · unfold msI at *; rw [e 178 (by decide), e 199 (by decide)]; exact s6
      · unfold msS at *; rw [e 200 (by decide), e 201 (by decide), e 202 (by decide)]; exact s7
      · unfold msK at *; rw [e 187 (by decide), e 188 (by decide)]; exact s8
    · exfalso; omega
  · rw [if_neg hin]
    refine S.iload_n dX12_chance_0 rfl rfl rfl ?_
    refine S.i2l dX12_chance_1 rfl hv ?_
    refine S.lconst (w := 0) dX12_chance_2 rfl rfl ?_
    refine S.ldc2 (v := 10) dX12_chance_3 rfl lX12_212 (by decide) ?_
    refine S.callSi dX12_chance_6 rfl cX12_94 (bk_X12_in) rfl (by decide) rfl (Nat.le_of_ble_eq_true rfl) (fun z6 M6 q6 => ?_)
    obtain ⟨b6, rfl⟩ := q6
    refine S.if_ne (tgt := 14) dX12_chance_9 (by decide) rfl (by unfold fp_rng; omega) (fun h9 => ?_) (fun h9 => ?_)
    · exfalso; omega
    · refine S.iconst dX12_chance_12 rfl ?_
      refine S.iret dX12_chance_13 rfl ?_
      exact ⟨rfl, ⟨s1, hd, s3, s4, s5, s6, s7, s8⟩, frD.refl _⟩
end PUC
