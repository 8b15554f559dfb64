/-! THE PUBLIC CALLS: put, draw, slip -/
section PUD
variable {l : Launch} {G : fp_WG} {M : fp_Mem} {tp : List Int} {fl : Int} {g : aGd} {pg : aPg} {vs : List aVt} {nt : List Int} {im : aIm} {sh : aSh} {tn : Int}
theorem A_put_ok {p t x : Int} (hg : gOk g) (hP : pgOk g pg) : pgOk g (A_put g pg p t x).2 := by
  unfold A_put
  split
  · exact hP
  · split
    · exact hP
    · split
      · exact aIns_ok hg hP (by omega) ⟨by omega, by omega⟩ (by omega) (by assumption) (Nat.le_refl _)
      · exact hP
theorem A_draw_ok {p x : Int} (hg : gOk g) (hP : pgOk g pg) : pgOk g (A_draw g pg p x).2 := by
  unfold A_draw
  split
  · exact hP
  · exact aDraw_ok hg hP (by omega) (by omega)
theorem A_slip_ok {t x i : Int} (hg : gOk g) (hP : pgOk g pg) : pgOk g (A_slip g pg t x i).2 := by
  unfold A_slip
  split
  · exact hP
  · split
    · exact hP
    · split
      · exact hP
      · have := hP.1 t (by omega) (by omega)
        exact aIns_ok hg hP (by omega) (by omega) (by omega) (by omega) (by omega)
theorem aApp_eq {p t x : Int} : aApp pg p t x = if pg.1 t = p ∧ (pg.2.2 x).length < 8 then (1, aIns pg t x (pg.2.2 x).length) else (0, pg) := rfl
theorem cc_put {p t x : Int} (hc : CS M tp fl g pg vs nt im sh tn) (ho : OK g pg vs nt im sh) (hp : fp_rng p) (ht : fp_rng t) (hx : fp_rng x) : fp_Ok l G 2 kX11_put [rV G 0, iV p, iV t, iV x] M (qI fun z N => z = (A_put g pg p t x).1 ∧ CS N tp fl g (A_put g pg p t x).2 vs nt im sh tn ∧ frC M N) := by
  have hcs := hc
  obtain ⟨-, hd, hcl, -⟩ := hc
  obtain ⟨hg, hP, -⟩ := ho
  have hg1 := hg.1
  have hg2 := hg.2.1
  refine fp_Ok.of (r := 0) rfl (Nat.le_of_ble_eq_true rfl) rfl ?_
  unfold A_put
  by_cases hin : (0 ≤ p ∧ p < 4) ∧ (0 ≤ t ∧ t < g.1) ∧ (0 ≤ x ∧ x < g.2.1)
  · rw [if_neg (fun q => q hin)]
    have hwt := hcl.1 t hin.2.1.1 hin.2.1.2
    have hwo := hP.1 t hin.2.1.1 hin.2.1.2
    by_cases hpt : pg.1 t = p
    · rw [if_neg (fun q => q hpt)]
      by_cases l8 : (pg.2.2 x).length < 8
      · rw [if_pos l8]
        have ea : aApp pg p t x = (1, aIns pg t x (pg.2.2 x).length) := by unfold aApp; rw [if_pos ⟨hpt, l8⟩]
        have hl : ((aIns pg t x (pg.2.2 x).length).2.2 x).length = (pg.2.2 x).length + 1 := by
          show List.length (fp_ui pg.2.2 x _ x) = _
          rw [fp_ui_at, List.length_insertIdx_of_le_length (Nat.le_refl _)]
        refine S.iload_n (pc' := 1) dX11_put_0 rfl rfl rfl ?_
        refine S.callSi (pc' := 4) dX11_put_1 rfl cX11_181 (bk_X11_isOne) rfl (by decide) rfl (Nat.le_of_ble_eq_true rfl) (fun z1 M1 q1 => ?_)
        obtain ⟨b1, rfl⟩ := q1
        refine S.if_eq (pc' := 7) (tgt := 29) dX11_put_4 (by decide) rfl (by unfold fp_rng; omega) (fun h4 => ?_) (fun h4 => ?_)
        · exfalso; omega
        · refine S.aload_n (pc' := 8) dX11_put_7 rfl rfl rfl ?_
          refine S.getR (pc' := 11) dX11_put_8 rfl fX11_23 L_0 rf_0_3 ?_
          refine S.iload_n (pc' := 12) dX11_put_11 rfl rfl rfl ?_
          refine S.callVi (pc' := 15) dX11_put_12 rfl cX11_126 (bk_X1_hasThing gd18) rfl (gd_lay gd18) (by decide) rfl (Nat.le_of_ble_eq_true rfl) (fun z12 M12 q12 => ?_)
          obtain ⟨b12, rfl⟩ := q12
          refine S.if_eq (pc' := 18) (tgt := 29) dX11_put_15 (by decide) rfl (by unfold fp_rng; omega) (fun h15 => ?_) (fun h15 => ?_)
          · exfalso; omega
          · refine S.aload_n (pc' := 19) dX11_put_18 rfl rfl rfl ?_
            refine S.getR (pc' := 22) dX11_put_19 rfl fX11_23 L_0 rf_0_3 ?_
            refine S.iload_n (pc' := 23) dX11_put_22 rfl rfl rfl ?_
            refine S.callVi (pc' := 26) dX11_put_23 rfl cX11_148 (bk_X1_hasLine gd18) rfl (gd_lay gd18) (by decide) rfl (Nat.le_of_ble_eq_true rfl) (fun z23 M23 q23 => ?_)
            obtain ⟨b23, rfl⟩ := q23
            refine S.if_ne (pc' := 29) (tgt := 31) dX11_put_26 (by decide) rfl (by unfold fp_rng; omega) (fun h26 => ?_) (fun h26 => ?_)
            · refine S.aload_n (pc' := 32) dX11_put_31 rfl rfl rfl ?_
              refine S.getR (pc' := 35) dX11_put_32 rfl fX11_30 L_0 rf_0_4 ?_
              refine S.getR (pc' := 38) dX11_put_35 rfl fX11_138 (pl_lay pl22) (pl_r0 pl22) ?_
              refine S.iload_n (pc' := 39) dX11_put_38 rfl rfl rfl ?_
              refine S.iald (pc' := 40) dX11_put_39 rfl (pl_a0 pl22) (by omega) (by omega) ?_
              refine S.iload_n (pc' := 41) dX11_put_40 rfl rfl rfl ?_
              refine S.icmp_eq (pc' := 44) (tgt := 47) dX11_put_41 (by decide) rfl (by unfold fp_rng; omega) (by unfold fp_rng; omega) (fun h41 => ?_) (fun h41 => ?_)
              · refine S.aload_n (pc' := 48) dX11_put_47 rfl rfl rfl ?_
                refine S.getR (pc' := 51) dX11_put_48 rfl fX11_30 L_0 rf_0_4 ?_
                refine S.iload_n (pc' := 52) dX11_put_51 rfl rfl rfl ?_
                refine S.iload_n (pc' := 53) dX11_put_52 rfl rfl rfl ?_
                refine S.iload_n (pc' := 54) dX11_put_53 rfl rfl rfl ?_
                refine S.callVi (pc' := 57) dX11_put_54 rfl cX11_190 (rk_X5_append (g := g) (pg := pg) pl22) rfl (pl_lay pl22) (by decide) rfl (Nat.le_of_ble_eq_true rfl) (fun z54 M54 q54 => ?_)
                rw [ea] at q54
                obtain ⟨z1, c1, f1⟩ := q54
                have n1 := (c1.2.2.2.1 x (by omega) (by omega)).1
                dsimp only at n1
                refine S.if_eq (pc' := 60) (tgt := 74) dX11_put_57 (by decide) rfl (by unfold fp_rng; omega) (fun h57 => ?_) (fun h57 => ?_)
                · exfalso; omega
                · refine S.aload_n (pc' := 61) dX11_put_60 rfl rfl rfl ?_
                  refine S.getR (pc' := 64) dX11_put_61 rfl fX11_30 L_0 rf_0_4 ?_
                  refine S.getR (pc' := 67) dX11_put_64 rfl fX11_151 (pl_lay pl22) (pl_r2 pl22) ?_
                  refine S.iload_n (pc' := 68) dX11_put_67 rfl rfl rfl ?_
                  refine S.iald (pc' := 69) dX11_put_68 rfl (pl_a2 pl22) (by omega) (by omega) ?_
                  refine S.iconst (pc' := 70) dX11_put_69 rfl ?_
                  refine S.isub (pc' := 71) dX11_put_70 rfl ?_
                  refine S.goto (pc' := 76) dX11_put_71 (by decide) ?_
                  refine S.iret dX11_put_76 rfl ?_
                  exact ⟨by omega, hcs.page f1 c1, f1.c (by decide)⟩
              · exfalso; omega
            · exfalso; omega
      · rw [if_neg l8]
        have ea : aApp pg p t x = (0, pg) := by unfold aApp; rw [if_neg (fun q => l8 q.2)]
        refine S.iload_n (pc' := 1) dX11_put_0 rfl rfl rfl ?_
        refine S.callSi (pc' := 4) dX11_put_1 rfl cX11_181 (bk_X11_isOne) rfl (by decide) rfl (Nat.le_of_ble_eq_true rfl) (fun z1 M1 q1 => ?_)
        obtain ⟨b1, rfl⟩ := q1
        refine S.if_eq (pc' := 7) (tgt := 29) dX11_put_4 (by decide) rfl (by unfold fp_rng; omega) (fun h4 => ?_) (fun h4 => ?_)
        · exfalso; omega
        · refine S.aload_n (pc' := 8) dX11_put_7 rfl rfl rfl ?_
          refine S.getR (pc' := 11) dX11_put_8 rfl fX11_23 L_0 rf_0_3 ?_
          refine S.iload_n (pc' := 12) dX11_put_11 rfl rfl rfl ?_
          refine S.callVi (pc' := 15) dX11_put_12 rfl cX11_126 (bk_X1_hasThing gd18) rfl (gd_lay gd18) (by decide) rfl (Nat.le_of_ble_eq_true rfl) (fun z12 M12 q12 => ?_)
          obtain ⟨b12, rfl⟩ := q12
          refine S.if_eq (pc' := 18) (tgt := 29) dX11_put_15 (by decide) rfl (by unfold fp_rng; omega) (fun h15 => ?_) (fun h15 => ?_)
          · exfalso; omega
          · refine S.aload_n (pc' := 19) dX11_put_18 rfl rfl rfl ?_
            refine S.getR (pc' := 22) dX11_put_19 rfl fX11_23 L_0 rf_0_3 ?_
            refine S.iload_n (pc' := 23) dX11_put_22 rfl rfl rfl ?_
            refine S.callVi (pc' := 26) dX11_put_23 rfl cX11_148 (bk_X1_hasLine gd18) rfl (gd_lay gd18) (by decide) rfl (Nat.le_of_ble_eq_true rfl) (fun z23 M23 q23 => ?_)
            obtain ⟨b23, rfl⟩ := q23
            refine S.if_ne (pc' := 29) (tgt := 31) dX11_put_26 (by decide) rfl (by unfold fp_rng; omega) (fun h26 => ?_) (fun h26 => ?_)
            · refine S.aload_n (pc' := 32) dX11_put_31 rfl rfl rfl ?_
              refine S.getR (pc' := 35) dX11_put_32 rfl fX11_30 L_0 rf_0_4 ?_
              refine S.getR (pc' := 38) dX11_put_35 rfl fX11_138 (pl_lay pl22) (pl_r0 pl22) ?_
              refine S.iload_n (pc' := 39) dX11_put_38 rfl rfl rfl ?_
              refine S.iald (pc' := 40) dX11_put_39 rfl (pl_a0 pl22) (by omega) (by omega) ?_
              refine S.iload_n (pc' := 41) dX11_put_40 rfl rfl rfl ?_
              refine S.icmp_eq (pc' := 44) (tgt := 47) dX11_put_41 (by decide) rfl (by unfold fp_rng; omega) (by unfold fp_rng; omega) (fun h41 => ?_) (fun h41 => ?_)
              · refine S.aload_n (pc' := 48) dX11_put_47 rfl rfl rfl ?_
                refine S.getR (pc' := 51) dX11_put_48 rfl fX11_30 L_0 rf_0_4 ?_
                refine S.iload_n (pc' := 52) dX11_put_51 rfl rfl rfl ?_
                refine S.iload_n (pc' := 53) dX11_put_52 rfl rfl rfl ?_
                refine S.iload_n (pc' := 54) dX11_put_53 rfl rfl rfl ?_
                refine S.callVi (pc' := 57) dX11_put_54 rfl cX11_190 (rk_X5_append (g := g) (pg := pg) pl22) rfl (pl_lay pl22) (by decide) rfl (Nat.le_of_ble_eq_true rfl) (fun z54 M54 q54 => ?_)
                rw [ea] at q54
                obtain ⟨z1, c1, f1⟩ := q54
                refine S.if_eq (pc' := 60) (tgt := 74) dX11_put_57 (by decide) rfl (by unfold fp_rng; omega) (fun h57 => ?_) (fun h57 => ?_)
                · refine S.bipush (pc' := 76) dX11_put_74 rfl (by decide) ?_
                  refine S.iret dX11_put_76 rfl ?_
                  exact ⟨rfl, hcs.page f1 c1, f1.c (by decide)⟩
                · exfalso; omega
              · exfalso; omega
            · exfalso; omega
    · rw [if_pos hpt]
      refine S.iload_n (pc' := 1) dX11_put_0 rfl rfl rfl ?_
      refine S.callSi (pc' := 4) dX11_put_1 rfl cX11_181 (bk_X11_isOne) rfl (by decide) rfl (Nat.le_of_ble_eq_true rfl) (fun z1 M1 q1 => ?_)
      obtain ⟨b1, rfl⟩ := q1
      refine S.if_eq (pc' := 7) (tgt := 29) dX11_put_4 (by decide) rfl (by unfold fp_rng; omega) (fun h4 => ?_) (fun h4 => ?_)
      · exfalso; omega
      · refine S.aload_n (pc' := 8) dX11_put_7 rfl rfl rfl ?_
        refine S.getR (pc' := 11) dX11_put_8 rfl fX11_23 L_0 rf_0_3 ?_
        refine S.iload_n (pc' := 12) dX11_put_11 rfl rfl rfl ?_
        refine S.callVi (pc' := 15) dX11_put_12 rfl cX11_126 (bk_X1_hasThing gd18) rfl (gd_lay gd18) (by decide) rfl (Nat.le_of_ble_eq_true rfl) (fun z12 M12 q12 => ?_)
        obtain ⟨b12, rfl⟩ := q12
        refine S.if_eq (pc' := 18) (tgt := 29) dX11_put_15 (by decide) rfl (by unfold fp_rng; omega) (fun h15 => ?_) (fun h15 => ?_)
        · exfalso; omega
        · refine S.aload_n (pc' := 19) dX11_put_18 rfl rfl rfl ?_
          refine S.getR (pc' := 22) dX11_put_19 rfl fX11_23 L_0 rf_0_3 ?_
          refine S.iload_n (pc' := 23) dX11_put_22 rfl rfl rfl ?_
          refine S.callVi (pc' := 26) dX11_put_23 rfl cX11_148 (bk_X1_hasLine gd18) rfl (gd_lay gd18) (by decide) rfl (Nat.le_of_ble_eq_true rfl) (fun z23 M23 q23 => ?_)
          obtain ⟨b23, rfl⟩ := q23
          refine S.if_ne (pc' := 29) (tgt := 31) dX11_put_26 (by decide) rfl (by unfold fp_rng; omega) (fun h26 => ?_) (fun h26 => ?_)
          · refine S.aload_n (pc' := 32) dX11_put_31 rfl rfl rfl ?_
            refine S.getR (pc' := 35) dX11_put_32 rfl fX11_30 L_0 rf_0_4 ?_
            refine S.getR (pc' := 38) dX11_put_35 rfl fX11_138 (pl_lay pl22) (pl_r0 pl22) ?_
            refine S.iload_n (pc' := 39) dX11_put_38 rfl rfl rfl ?_
            refine S.iald (pc' := 40) dX11_put_39 rfl (pl_a0 pl22) (by omega) (by omega) ?_
            refine S.iload_n (pc' := 41) dX11_put_40 rfl rfl rfl ?_
            refine S.icmp_eq (pc' := 44) (tgt := 47) dX11_put_41 (by decide) rfl (by unfold fp_rng; omega) (by unfold fp_rng; omega) (fun h41 => ?_) (fun h41 => ?_)
            · exfalso; omega
            · refine S.bipush (pc' := 46) dX11_put_44 rfl (by decide) ?_
              refine S.iret dX11_put_46 rfl ?_
              exact ⟨rfl, hcs, frC.refl _⟩
          · exfalso; omega
  · rw [if_pos hin]
    refine S.iload_n (pc' := 1) dX11_put_0 rfl rfl rfl ?_
    refine S.callSi (pc' := 4) dX11_put_1 rfl cX11_181 (bk_X11_isOne) rfl (by decide) rfl (Nat.le_of_ble_eq_true rfl) (fun z1 M1 q1 => ?_)
    obtain ⟨b1, rfl⟩ := q1
    refine S.if_eq (pc' := 7) (tgt := 29) dX11_put_4 (by decide) rfl (by unfold fp_rng; omega) (fun h4 => ?_) (fun h4 => ?_)
    · refine S.iconst (pc' := 30) dX11_put_29 rfl ?_
      refine S.iret dX11_put_30 rfl ?_
      exact ⟨rfl, hcs, frC.refl _⟩
    · refine S.aload_n (pc' := 8) dX11_put_7 rfl rfl rfl ?_
      refine S.getR (pc' := 11) dX11_put_8 rfl fX11_23 L_0 rf_0_3 ?_
      refine S.iload_n (pc' := 12) dX11_put_11 rfl rfl rfl ?_
      refine S.callVi (pc' := 15) dX11_put_12 rfl cX11_126 (bk_X1_hasThing gd18) rfl (gd_lay gd18) (by decide) rfl (Nat.le_of_ble_eq_true rfl) (fun z12 M12 q12 => ?_)
      obtain ⟨b12, rfl⟩ := q12
      refine S.if_eq (pc' := 18) (tgt := 29) dX11_put_15 (by decide) rfl (by unfold fp_rng; omega) (fun h15 => ?_) (fun h15 => ?_)
      · refine S.iconst (pc' := 30) dX11_put_29 rfl ?_
        refine S.iret dX11_put_30 rfl ?_
        exact ⟨rfl, hcs, frC.refl _⟩
      · refine S.aload_n (pc' := 19) dX11_put_18 rfl rfl rfl ?_
        refine S.getR (pc' := 22) dX11_put_19 rfl fX11_23 L_0 rf_0_3 ?_
        refine S.iload_n (pc' := 23) dX11_put_22 rfl rfl rfl ?_
        refine S.callVi (pc' := 26) dX11_put_23 rfl cX11_148 (bk_X1_hasLine gd18) rfl (gd_lay gd18) (by decide) rfl (Nat.le_of_ble_eq_true rfl) (fun z23 M23 q23 => ?_)
        obtain ⟨b23, rfl⟩ := q23
        refine S.if_ne (pc' := 29) (tgt := 31) dX11_put_26 (by decide) rfl (by unfold fp_rng; omega) (fun h26 => ?_) (fun h26 => ?_)
        · exfalso; omega
        · refine S.iconst (pc' := 30) dX11_put_29 rfl ?_
          refine S.iret dX11_put_30 rfl ?_
          exact ⟨rfl, hcs, frC.refl _⟩
theorem mm_put {p t x : Int} (hc : MS M tp fl g pg vs nt im sh tn) (ho : OK g pg vs nt im sh) (hp : fp_rng p) (ht : fp_rng t) (hx : fp_rng x) : fp_Ok l G 2 kX12_put [rV G 177, iV p, iV t, iV x] M (qI fun z N => z = (A_put g pg p t x).1 ∧ MS N tp fl g (A_put g pg p t x).2 vs nt im sh tn ∧ frD M N) := by
  have hcs := hc
  obtain ⟨-, hd, hcl, -⟩ := hc
  obtain ⟨hg, hP, -, -, hio, -⟩ := ho
  have hg1 := hg.1
  have hg2 := hg.2.1
  refine fp_Ok.of (r := 0) rfl (Nat.le_of_ble_eq_true rfl) rfl ?_
  unfold A_put
  by_cases hin : (0 ≤ p ∧ p < 4) ∧ (0 ≤ t ∧ t < g.1) ∧ (0 ≤ x ∧ x < g.2.1)
  · rw [if_neg (fun q => q hin)]
    have hwt := hcl.1 t hin.2.1.1 hin.2.1.2
    rw [Int.zero_add] at hwt
    have hwo := hP.1 t hin.2.1.1 hin.2.1.2
    by_cases hpt : pg.1 t = p
    · rw [if_neg (fun q => q hpt)]
      by_cases l8 : (pg.2.2 x).length < 8
      · rw [if_pos l8]
        have ea : aApp pg p t x = (1, aIns pg t x (pg.2.2 x).length) := by unfold aApp; rw [if_pos ⟨hpt, l8⟩]
        have hl : ((aIns pg t x (pg.2.2 x).length).2.2 x).length = (pg.2.2 x).length + 1 := by
          show List.length (fp_ui pg.2.2 x _ x) = _
          rw [fp_ui_at, List.length_insertIdx_of_le_length (Nat.le_refl _)]
        refine S.iload_n (pc' := 1) dX12_put_0 rfl rfl rfl ?_
        refine S.callSi (pc' := 4) dX12_put_1 rfl cX12_228 (bk_X12_isOne) rfl (by decide) rfl (Nat.le_of_ble_eq_true rfl) (fun z1 M1 q1 => ?_)
        obtain ⟨b1, rfl⟩ := q1
        refine S.if_eq (pc' := 7) (tgt := 23) dX12_put_4 (by decide) rfl (by unfold fp_rng; omega) (fun h4 => ?_) (fun h4 => ?_)
        · exfalso; omega
        · refine S.aload_n (pc' := 8) dX12_put_7 rfl rfl rfl ?_
          refine S.iload_n (pc' := 9) dX12_put_8 rfl rfl rfl ?_
          refine S.callVi (pc' := 12) dX12_put_9 rfl cX12_205 (bk_X12_isThing) rfl L_177 (by decide) rfl (Nat.le_of_ble_eq_true rfl) (fun z9 M9 q9 => ?_)
          obtain ⟨b9, rfl⟩ := q9
          refine S.if_eq (pc' := 15) (tgt := 23) dX12_put_12 (by decide) rfl (by unfold fp_rng; omega) (fun h12 => ?_) (fun h12 => ?_)
          · exfalso; omega
          · refine S.aload_n (pc' := 16) dX12_put_15 rfl rfl rfl ?_
            refine S.iload_n (pc' := 17) dX12_put_16 rfl rfl rfl ?_
            refine S.callVi (pc' := 20) dX12_put_17 rfl cX12_219 (bk_X12_isLine) rfl L_177 (by decide) rfl (Nat.le_of_ble_eq_true rfl) (fun z17 M17 q17 => ?_)
            obtain ⟨b17, rfl⟩ := q17
            refine S.if_ne (pc' := 23) (tgt := 25) dX12_put_20 (by decide) rfl (by unfold fp_rng; omega) (fun h20 => ?_) (fun h20 => ?_)
            · refine S.aload_n (pc' := 26) dX12_put_25 rfl rfl rfl ?_
              refine S.getR (pc' := 29) dX12_put_26 rfl fX12_7 L_177 rf_177_0 ?_
              refine S.iload_n (pc' := 30) dX12_put_29 rfl rfl rfl ?_
              refine S.iald (pc' := 31) dX12_put_30 rfl L_178 (by omega) (by omega) ?_
              refine S.iload_n (pc' := 32) dX12_put_31 rfl rfl rfl ?_
              refine S.icmp_eq (pc' := 35) (tgt := 38) dX12_put_32 (by decide) rfl (by unfold fp_rng; omega) (by unfold fp_rng; omega) (fun h32 => ?_) (fun h32 => ?_)
              · refine S.aload_n (pc' := 39) dX12_put_38 rfl rfl rfl ?_
                refine S.iconst (pc' := 40) dX12_put_39 rfl ?_
                refine S.iload_n (pc' := 41) dX12_put_40 rfl rfl rfl ?_
                refine S.iload_n (pc' := 42) dX12_put_41 rfl rfl rfl ?_
                refine S.iload_n (pc' := 43) dX12_put_42 rfl rfl rfl ?_
                refine S.callVi (pc' := 46) dX12_put_43 rfl cX12_244 (rk_X12_puts (g := g) (pg := pg)) rfl L_177 (by decide) rfl (Nat.le_of_ble_eq_true rfl) (fun z43 M43 q43 => ?_)
                rw [ea] at q43
                obtain ⟨z1, c1, f1⟩ := q43
                have n1 := (c1.2.2 x (by omega) (by omega)).1
                dsimp only at n1
                refine S.if_eq (pc' := 49) (tgt := 60) dX12_put_46 (by decide) rfl (by unfold fp_rng; omega) (fun h46 => ?_) (fun h46 => ?_)
                · exfalso; omega
                · refine S.aload_n (pc' := 50) dX12_put_49 rfl rfl rfl ?_
                  refine S.iconst (pc' := 51) dX12_put_50 rfl ?_
                  refine S.iload_n (pc' := 52) dX12_put_51 rfl rfl rfl ?_
                  refine S.callVe (pc' := 55) dX12_put_52 rfl cX12_198 (ok_X12_lie) rfl L_177 (by decide) rfl (Nat.le_of_ble_eq_true rfl) ?_
                  refine S.iconst (pc' := 56) dX12_put_55 rfl ?_
                  refine S.isub (pc' := 57) dX12_put_56 rfl ?_
                  refine S.goto (pc' := 62) dX12_put_57 (by decide) ?_
                  refine S.iret dX12_put_62 rfl ?_
                  exact ⟨by omega, hcs.page hio hg f1 c1, f1.d⟩
              · exfalso; omega
            · exfalso; omega
      · rw [if_neg l8]
        have ea : aApp pg p t x = (0, pg) := by unfold aApp; rw [if_neg (fun q => l8 q.2)]
        refine S.iload_n (pc' := 1) dX12_put_0 rfl rfl rfl ?_
        refine S.callSi (pc' := 4) dX12_put_1 rfl cX12_228 (bk_X12_isOne) rfl (by decide) rfl (Nat.le_of_ble_eq_true rfl) (fun z1 M1 q1 => ?_)
        obtain ⟨b1, rfl⟩ := q1
        refine S.if_eq (pc' := 7) (tgt := 23) dX12_put_4 (by decide) rfl (by unfold fp_rng; omega) (fun h4 => ?_) (fun h4 => ?_)
        · exfalso; omega
        · refine S.aload_n (pc' := 8) dX12_put_7 rfl rfl rfl ?_
          refine S.iload_n (pc' := 9) dX12_put_8 rfl rfl rfl ?_
          refine S.callVi (pc' := 12) dX12_put_9 rfl cX12_205 (bk_X12_isThing) rfl L_177 (by decide) rfl (Nat.le_of_ble_eq_true rfl) (fun z9 M9 q9 => ?_)
          obtain ⟨b9, rfl⟩ := q9
          refine S.if_eq (pc' := 15) (tgt := 23) dX12_put_12 (by decide) rfl (by unfold fp_rng; omega) (fun h12 => ?_) (fun h12 => ?_)
          · exfalso; omega
          · refine S.aload_n (pc' := 16) dX12_put_15 rfl rfl rfl ?_
            refine S.iload_n (pc' := 17) dX12_put_16 rfl rfl rfl ?_
            refine S.callVi (pc' := 20) dX12_put_17 rfl cX12_219 (bk_X12_isLine) rfl L_177 (by decide) rfl (Nat.le_of_ble_eq_true rfl) (fun z17 M17 q17 => ?_)
            obtain ⟨b17, rfl⟩ := q17
            refine S.if_ne (pc' := 23) (tgt := 25) dX12_put_20 (by decide) rfl (by unfold fp_rng; omega) (fun h20 => ?_) (fun h20 => ?_)
            · refine S.aload_n (pc' := 26) dX12_put_25 rfl rfl rfl ?_
              refine S.getR (pc' := 29) dX12_put_26 rfl fX12_7 L_177 rf_177_0 ?_
              refine S.iload_n (pc' := 30) dX12_put_29 rfl rfl rfl ?_
              refine S.iald (pc' := 31) dX12_put_30 rfl L_178 (by omega) (by omega) ?_
              refine S.iload_n (pc' := 32) dX12_put_31 rfl rfl rfl ?_
              refine S.icmp_eq (pc' := 35) (tgt := 38) dX12_put_32 (by decide) rfl (by unfold fp_rng; omega) (by unfold fp_rng; omega) (fun h32 => ?_) (fun h32 => ?_)
              · refine S.aload_n (pc' := 39) dX12_put_38 rfl rfl rfl ?_
                refine S.iconst (pc' := 40) dX12_put_39 rfl ?_
                refine S.iload_n (pc' := 41) dX12_put_40 rfl rfl rfl ?_
                refine S.iload_n (pc' := 42) dX12_put_41 rfl rfl rfl ?_
                refine S.iload_n (pc' := 43) dX12_put_42 rfl rfl rfl ?_
                refine S.callVi (pc' := 46) dX12_put_43 rfl cX12_244 (rk_X12_puts (g := g) (pg := pg)) rfl L_177 (by decide) rfl (Nat.le_of_ble_eq_true rfl) (fun z43 M43 q43 => ?_)
                rw [ea] at q43
                obtain ⟨z1, c1, f1⟩ := q43
                refine S.if_eq (pc' := 49) (tgt := 60) dX12_put_46 (by decide) rfl (by unfold fp_rng; omega) (fun h46 => ?_) (fun h46 => ?_)
                · refine S.bipush (pc' := 62) dX12_put_60 rfl (by decide) ?_
                  refine S.iret dX12_put_62 rfl ?_
                  exact ⟨rfl, hcs.page hio hg f1 c1, f1.d⟩
                · exfalso; omega
              · exfalso; omega
            · exfalso; omega
    · rw [if_pos hpt]
      refine S.iload_n (pc' := 1) dX12_put_0 rfl rfl rfl ?_
      refine S.callSi (pc' := 4) dX12_put_1 rfl cX12_228 (bk_X12_isOne) rfl (by decide) rfl (Nat.le_of_ble_eq_true rfl) (fun z1 M1 q1 => ?_)
      obtain ⟨b1, rfl⟩ := q1
      refine S.if_eq (pc' := 7) (tgt := 23) dX12_put_4 (by decide) rfl (by unfold fp_rng; omega) (fun h4 => ?_) (fun h4 => ?_)
      · exfalso; omega
      · refine S.aload_n (pc' := 8) dX12_put_7 rfl rfl rfl ?_
        refine S.iload_n (pc' := 9) dX12_put_8 rfl rfl rfl ?_
        refine S.callVi (pc' := 12) dX12_put_9 rfl cX12_205 (bk_X12_isThing) rfl L_177 (by decide) rfl (Nat.le_of_ble_eq_true rfl) (fun z9 M9 q9 => ?_)
        obtain ⟨b9, rfl⟩ := q9
        refine S.if_eq (pc' := 15) (tgt := 23) dX12_put_12 (by decide) rfl (by unfold fp_rng; omega) (fun h12 => ?_) (fun h12 => ?_)
        · exfalso; omega
        · refine S.aload_n (pc' := 16) dX12_put_15 rfl rfl rfl ?_
          refine S.iload_n (pc' := 17) dX12_put_16 rfl rfl rfl ?_
          refine S.callVi (pc' := 20) dX12_put_17 rfl cX12_219 (bk_X12_isLine) rfl L_177 (by decide) rfl (Nat.le_of_ble_eq_true rfl) (fun z17 M17 q17 => ?_)
          obtain ⟨b17, rfl⟩ := q17
          refine S.if_ne (pc' := 23) (tgt := 25) dX12_put_20 (by decide) rfl (by unfold fp_rng; omega) (fun h20 => ?_) (fun h20 => ?_)
          · refine S.aload_n (pc' := 26) dX12_put_25 rfl rfl rfl ?_
            refine S.getR (pc' := 29) dX12_put_26 rfl fX12_7 L_177 rf_177_0 ?_
            refine S.iload_n (pc' := 30) dX12_put_29 rfl rfl rfl ?_
            refine S.iald (pc' := 31) dX12_put_30 rfl L_178 (by omega) (by omega) ?_
            refine S.iload_n (pc' := 32) dX12_put_31 rfl rfl rfl ?_
            refine S.icmp_eq (pc' := 35) (tgt := 38) dX12_put_32 (by decide) rfl (by unfold fp_rng; omega) (by unfold fp_rng; omega) (fun h32 => ?_) (fun h32 => ?_)
            · exfalso; omega
            · refine S.bipush (pc' := 37) dX12_put_35 rfl (by decide) ?_
              refine S.iret dX12_put_37 rfl ?_
              exact ⟨rfl, hcs, frD.refl _⟩
          · exfalso; omega
  · rw [if_pos hin]
    refine S.iload_n (pc' := 1) dX12_put_0 rfl rfl rfl ?_
    refine S.callSi (pc' := 4) dX12_put_1 rfl cX12_228 (bk_X12_isOne) rfl (by decide) rfl (Nat.le_of_ble_eq_true rfl) (fun z1 M1 q1 => ?_)
    obtain ⟨b1, rfl⟩ := q1
    refine S.if_eq (pc' := 7) (tgt := 23) dX12_put_4 (by decide) rfl (by unfold fp_rng; omega) (fun h4 => ?_) (fun h4 => ?_)
    · refine S.iconst (pc' := 24) dX12_put_23 rfl ?_
      refine S.iret dX12_put_24 rfl ?_
      exact ⟨rfl, hcs, frD.refl _⟩
    · refine S.aload_n (pc' := 8) dX12_put_7 rfl rfl rfl ?_
      refine S.iload_n (pc' := 9) dX12_put_8 rfl rfl rfl ?_
      refine S.callVi (pc' := 12) dX12_put_9 rfl cX12_205 (bk_X12_isThing) rfl L_177 (by decide) rfl (Nat.le_of_ble_eq_true rfl) (fun z9 M9 q9 => ?_)
      obtain ⟨b9, rfl⟩ := q9
      refine S.if_eq (pc' := 15) (tgt := 23) dX12_put_12 (by decide) rfl (by unfold fp_rng; omega) (fun h12 => ?_) (fun h12 => ?_)
      · refine S.iconst (pc' := 24) dX12_put_23 rfl ?_
        refine S.iret dX12_put_24 rfl ?_
        exact ⟨rfl, hcs, frD.refl _⟩
      · refine S.aload_n (pc' := 16) dX12_put_15 rfl rfl rfl ?_
        refine S.iload_n (pc' := 17) dX12_put_16 rfl rfl rfl ?_
        refine S.callVi (pc' := 20) dX12_put_17 rfl cX12_219 (bk_X12_isLine) rfl L_177 (by decide) rfl (Nat.le_of_ble_eq_true rfl) (fun z17 M17 q17 => ?_)
        obtain ⟨b17, rfl⟩ := q17
        refine S.if_ne (pc' := 23) (tgt := 25) dX12_put_20 (by decide) rfl (by unfold fp_rng; omega) (fun h20 => ?_) (fun h20 => ?_)
        · exfalso; omega
        · refine S.iconst (pc' := 24) dX12_put_23 rfl ?_
          refine S.iret dX12_put_24 rfl ?_
          exact ⟨rfl, hcs, frD.refl _⟩
theorem cc_draw {p x : Int} (hc : CS M tp fl g pg vs nt im sh tn) (ho : OK g pg vs nt im sh) (hp : fp_rng p) (hx : fp_rng x) : fp_Ok l G 2 kX11_draw [rV G 0, iV p, iV x] M (qI fun z N => z = (A_draw g pg p x).1 ∧ CS N tp fl g (A_draw g pg p x).2 vs nt im sh tn ∧ frC M N) := by
  have hcs := hc
  obtain ⟨-, hd, hcl, -⟩ := hc
  obtain ⟨hg, hP, -⟩ := ho
  have hg2 := hg.2.1
  refine fp_Ok.of (r := 0) rfl (Nat.le_of_ble_eq_true rfl) rfl ?_
  unfold A_draw
  by_cases hin : (0 ≤ p ∧ p < 4) ∧ (0 ≤ x ∧ x < g.2.1)
  · rw [if_neg (fun q => q hin)]
    refine S.iload_n (pc' := 1) dX11_draw_0 rfl rfl rfl ?_
    refine S.callSi (pc' := 4) dX11_draw_1 rfl cX11_181 (bk_X11_isOne) rfl (by decide) rfl (Nat.le_of_ble_eq_true rfl) (fun z1 M1 q1 => ?_)
    obtain ⟨b1, rfl⟩ := q1
    refine S.if_eq (pc' := 7) (tgt := 18) dX11_draw_4 (by decide) rfl (by unfold fp_rng; omega) (fun h4 => ?_) (fun h4 => ?_)
    · exfalso; omega
    · refine S.aload_n (pc' := 8) dX11_draw_7 rfl rfl rfl ?_
      refine S.getR (pc' := 11) dX11_draw_8 rfl fX11_23 L_0 rf_0_3 ?_
      refine S.iload_n (pc' := 12) dX11_draw_11 rfl rfl rfl ?_
      refine S.callVi (pc' := 15) dX11_draw_12 rfl cX11_148 (bk_X1_hasLine gd18) rfl (gd_lay gd18) (by decide) rfl (Nat.le_of_ble_eq_true rfl) (fun z12 M12 q12 => ?_)
      obtain ⟨b12, rfl⟩ := q12
      refine S.if_ne (pc' := 18) (tgt := 20) dX11_draw_15 (by decide) rfl (by unfold fp_rng; omega) (fun h15 => ?_) (fun h15 => ?_)
      · refine S.aload_n (pc' := 21) dX11_draw_20 rfl rfl rfl ?_
        refine S.getR (pc' := 24) dX11_draw_21 rfl fX11_30 L_0 rf_0_4 ?_
        refine S.aload_n (pc' := 25) dX11_draw_24 rfl rfl rfl ?_
        refine S.getR (pc' := 28) dX11_draw_25 rfl fX11_23 L_0 rf_0_3 ?_
        refine S.iload_n (pc' := 29) dX11_draw_28 rfl rfl rfl ?_
        refine S.iload_n (pc' := 30) dX11_draw_29 rfl rfl rfl ?_
        refine S.callVi (pc' := 33) dX11_draw_30 rfl cX11_194 (rk_X5_giveTo (g := g) (pg := pg) pl22 gd18) rfl (pl_lay pl22) (by decide) rfl (Nat.le_of_ble_eq_true rfl) (fun z30 M30 q30 => ?_)
        obtain ⟨z1, c1, f1⟩ := q30
        refine S.iret dX11_draw_33 rfl ?_
        exact ⟨z1, hcs.page f1 c1, f1.c (by decide)⟩
      · exfalso; omega
  · rw [if_pos hin]
    refine S.iload_n (pc' := 1) dX11_draw_0 rfl rfl rfl ?_
    refine S.callSi (pc' := 4) dX11_draw_1 rfl cX11_181 (bk_X11_isOne) rfl (by decide) rfl (Nat.le_of_ble_eq_true rfl) (fun z1 M1 q1 => ?_)
    obtain ⟨b1, rfl⟩ := q1
    refine S.if_eq (pc' := 7) (tgt := 18) dX11_draw_4 (by decide) rfl (by unfold fp_rng; omega) (fun h4 => ?_) (fun h4 => ?_)
    · refine S.iconst (pc' := 19) dX11_draw_18 rfl ?_
      refine S.iret dX11_draw_19 rfl ?_
      exact ⟨rfl, hcs, frC.refl _⟩
    · refine S.aload_n (pc' := 8) dX11_draw_7 rfl rfl rfl ?_
      refine S.getR (pc' := 11) dX11_draw_8 rfl fX11_23 L_0 rf_0_3 ?_
      refine S.iload_n (pc' := 12) dX11_draw_11 rfl rfl rfl ?_
      refine S.callVi (pc' := 15) dX11_draw_12 rfl cX11_148 (bk_X1_hasLine gd18) rfl (gd_lay gd18) (by decide) rfl (Nat.le_of_ble_eq_true rfl) (fun z12 M12 q12 => ?_)
      obtain ⟨b12, rfl⟩ := q12
      refine S.if_ne (pc' := 18) (tgt := 20) dX11_draw_15 (by decide) rfl (by unfold fp_rng; omega) (fun h15 => ?_) (fun h15 => ?_)
      · exfalso; omega
      · refine S.iconst (pc' := 19) dX11_draw_18 rfl ?_
        refine S.iret dX11_draw_19 rfl ?_
        exact ⟨rfl, hcs, frC.refl _⟩
theorem mm_draw {p x : Int} (hc : MS M tp fl g pg vs nt im sh tn) (ho : OK g pg vs nt im sh) (hp : fp_rng p) (hx : fp_rng x) : fp_Ok l G 3 kX12_draw [rV G 177, iV p, iV x] M (qI fun z N => z = (A_draw g pg p x).1 ∧ MS N tp fl g (A_draw g pg p x).2 vs nt im sh tn ∧ frD M N) := by
  have hcs := hc
  obtain ⟨-, hd, hcl, -⟩ := hc
  obtain ⟨hg, hP, -, -, hio, -⟩ := ho
  have hg2 := hg.2.1
  refine fp_Ok.of (r := 0) rfl (Nat.le_of_ble_eq_true rfl) rfl ?_
  unfold A_draw
  by_cases hin : (0 ≤ p ∧ p < 4) ∧ (0 ≤ x ∧ x < g.2.1)
  · rw [if_neg (fun q => q hin)]
    refine S.iload_n (pc' := 1) dX12_draw_0 rfl rfl rfl ?_
    refine S.callSi (pc' := 4) dX12_draw_1 rfl cX12_228 (bk_X12_isOne) rfl (by decide) rfl (Nat.le_of_ble_eq_true rfl) (fun z1 M1 q1 => ?_)
    obtain ⟨b1, rfl⟩ := q1
    refine S.if_eq (pc' := 7) (tgt := 25) dX12_draw_4 (by decide) rfl (by unfold fp_rng; omega) (fun h4 => ?_) (fun h4 => ?_)
    · exfalso; omega
    · refine S.aload_n (pc' := 8) dX12_draw_7 rfl rfl rfl ?_
      refine S.iload_n (pc' := 9) dX12_draw_8 rfl rfl rfl ?_
      refine S.callVi (pc' := 12) dX12_draw_9 rfl cX12_219 (bk_X12_isLine) rfl L_177 (by decide) rfl (Nat.le_of_ble_eq_true rfl) (fun z9 M9 q9 => ?_)
      obtain ⟨b9, rfl⟩ := q9
      refine S.if_eq (pc' := 15) (tgt := 25) dX12_draw_12 (by decide) rfl (by unfold fp_rng; omega) (fun h12 => ?_) (fun h12 => ?_)
      · exfalso; omega
      · refine S.aload_n (pc' := 16) dX12_draw_15 rfl rfl rfl ?_
        refine S.iconst (pc' := 17) dX12_draw_16 rfl ?_
        refine S.iload_n (pc' := 18) dX12_draw_17 rfl rfl rfl ?_
        refine S.iload_n (pc' := 19) dX12_draw_18 rfl rfl rfl ?_
        refine S.callVi (pc' := 22) dX12_draw_19 rfl cX12_248 (rk_X12_draws (g := g) (pg := pg)) rfl L_177 (by decide) rfl (Nat.le_of_ble_eq_true rfl) (fun z19 M19 q19 => ?_)
        obtain ⟨z1, c1, f1⟩ := q19
        refine S.goto (pc' := 26) dX12_draw_22 (by decide) ?_
        refine S.iret dX12_draw_26 rfl ?_
        exact ⟨z1, hcs.page hio hg f1 c1, f1.d⟩
  · rw [if_pos hin]
    refine S.iload_n (pc' := 1) dX12_draw_0 rfl rfl rfl ?_
    refine S.callSi (pc' := 4) dX12_draw_1 rfl cX12_228 (bk_X12_isOne) rfl (by decide) rfl (Nat.le_of_ble_eq_true rfl) (fun z1 M1 q1 => ?_)
    obtain ⟨b1, rfl⟩ := q1
    refine S.if_eq (pc' := 7) (tgt := 25) dX12_draw_4 (by decide) rfl (by unfold fp_rng; omega) (fun h4 => ?_) (fun h4 => ?_)
    · refine S.iconst (pc' := 26) dX12_draw_25 rfl ?_
      refine S.iret dX12_draw_26 rfl ?_
      exact ⟨rfl, hcs, frD.refl _⟩
    · refine S.aload_n (pc' := 8) dX12_draw_7 rfl rfl rfl ?_
      refine S.iload_n (pc' := 9) dX12_draw_8 rfl rfl rfl ?_
      refine S.callVi (pc' := 12) dX12_draw_9 rfl cX12_219 (bk_X12_isLine) rfl L_177 (by decide) rfl (Nat.le_of_ble_eq_true rfl) (fun z9 M9 q9 => ?_)
      obtain ⟨b9, rfl⟩ := q9
      refine S.if_eq (pc' := 15) (tgt := 25) dX12_draw_12 (by decide) rfl (by unfold fp_rng; omega) (fun h12 => ?_) (fun h12 => ?_)
      · refine S.iconst (pc' := 26) dX12_draw_25 rfl ?_
        refine S.iret dX12_draw_26 rfl ?_
        exact ⟨rfl, hcs, frD.refl _⟩
      · exfalso; omega
theorem cc_slip {t x i : Int} (hc : CS M tp fl g pg vs nt im sh tn) (ho : OK g pg vs nt im sh) (ht : fp_rng t) (hx : fp_rng x) (hi : fp_rng i) : fp_Ok l G 1 kX11_slip [rV G 0, iV t, iV x, iV i] M (qI fun z N => z = (A_slip g pg t x i).1 ∧ CS N tp fl g (A_slip g pg t x i).2 vs nt im sh tn ∧ frC M N) := by
  have hcs := hc
  obtain ⟨-, hd, hcl, -⟩ := hc
  obtain ⟨hg, hP, -⟩ := ho
  have hg1 := hg.1
  have hg2 := hg.2.1
  refine fp_Ok.of (r := 0) rfl (Nat.le_of_ble_eq_true rfl) rfl ?_
  unfold A_slip
  by_cases hin : (0 ≤ t ∧ t < g.1) ∧ (0 ≤ x ∧ x < g.2.1) ∧ (0 ≤ i ∧ i ≤ (pg.2.2 x).length)
  · rw [if_neg (fun q => q hin)]
    have hwt := hcl.1 t hin.1.1 hin.1.2
    have hwo := hP.1 t hin.1.1 hin.1.2
    obtain ⟨n1, n2, n3⟩ := hcl.line hP hin.2.1 hg
    by_cases hpt : 10 ≤ pg.1 t
    · rw [if_pos hpt]
      refine S.aload_n (pc' := 1) dX11_slip_0 rfl rfl rfl ?_
      refine S.getR (pc' := 4) dX11_slip_1 rfl fX11_23 L_0 rf_0_3 ?_
      refine S.iload_n (pc' := 5) dX11_slip_4 rfl rfl rfl ?_
      refine S.callVi (pc' := 8) dX11_slip_5 rfl cX11_126 (bk_X1_hasThing gd18) rfl (gd_lay gd18) (by decide) rfl (Nat.le_of_ble_eq_true rfl) (fun z5 M5 q5 => ?_)
      obtain ⟨b5, rfl⟩ := q5
      refine S.if_eq (pc' := 11) (tgt := 39) dX11_slip_8 (by decide) rfl (by unfold fp_rng; omega) (fun h8 => ?_) (fun h8 => ?_)
      · exfalso; omega
      · refine S.aload_n (pc' := 12) dX11_slip_11 rfl rfl rfl ?_
        refine S.getR (pc' := 15) dX11_slip_12 rfl fX11_23 L_0 rf_0_3 ?_
        refine S.iload_n (pc' := 16) dX11_slip_15 rfl rfl rfl ?_
        refine S.callVi (pc' := 19) dX11_slip_16 rfl cX11_148 (bk_X1_hasLine gd18) rfl (gd_lay gd18) (by decide) rfl (Nat.le_of_ble_eq_true rfl) (fun z16 M16 q16 => ?_)
        obtain ⟨b16, rfl⟩ := q16
        refine S.if_eq (pc' := 22) (tgt := 39) dX11_slip_19 (by decide) rfl (by unfold fp_rng; omega) (fun h19 => ?_) (fun h19 => ?_)
        · exfalso; omega
        · refine S.iload_n (pc' := 23) dX11_slip_22 rfl rfl rfl ?_
          refine S.if_lt (pc' := 26) (tgt := 39) dX11_slip_23 (by decide) rfl (by unfold fp_rng; omega) (fun h23 => ?_) (fun h23 => ?_)
          · exfalso; omega
          · refine S.iload_n (pc' := 27) dX11_slip_26 rfl rfl rfl ?_
            refine S.aload_n (pc' := 28) dX11_slip_27 rfl rfl rfl ?_
            refine S.getR (pc' := 31) dX11_slip_28 rfl fX11_30 L_0 rf_0_4 ?_
            refine S.getR (pc' := 34) dX11_slip_31 rfl fX11_151 (pl_lay pl22) (pl_r2 pl22) ?_
            refine S.iload_n (pc' := 35) dX11_slip_34 rfl rfl rfl ?_
            refine S.iald (pc' := 36) dX11_slip_35 rfl (pl_a2 pl22) (by omega) (by omega) ?_
            refine S.icmp_le (pc' := 39) (tgt := 41) dX11_slip_36 (by decide) rfl (by unfold fp_rng; omega) (by unfold fp_rng; omega) (fun h36 => ?_) (fun h36 => ?_)
            · refine S.aload_n (pc' := 42) dX11_slip_41 rfl rfl rfl ?_
              refine S.getR (pc' := 45) dX11_slip_42 rfl fX11_30 L_0 rf_0_4 ?_
              refine S.getR (pc' := 48) dX11_slip_45 rfl fX11_138 (pl_lay pl22) (pl_r0 pl22) ?_
              refine S.iload_n (pc' := 49) dX11_slip_48 rfl rfl rfl ?_
              refine S.iald (pc' := 50) dX11_slip_49 rfl (pl_a0 pl22) (by omega) (by omega) ?_
              refine S.callSi (pc' := 53) dX11_slip_50 rfl cX11_181 (bk_X11_isOne) rfl (by decide) rfl (Nat.le_of_ble_eq_true rfl) (fun z50 M50 q50 => ?_)
              obtain ⟨b50, rfl⟩ := q50
              refine S.if_ne (pc' := 56) (tgt := 59) dX11_slip_53 (by decide) rfl (by unfold fp_rng; omega) (fun h53 => ?_) (fun h53 => ?_)
              · exfalso; omega
              · refine S.bipush (pc' := 58) dX11_slip_56 rfl (by decide) ?_
                refine S.iret dX11_slip_58 rfl ?_
                exact ⟨rfl, hcs, frC.refl _⟩
            · exfalso; omega
    · rw [if_neg hpt]
      by_cases l8 : 8 ≤ (pg.2.2 x).length
      · rw [if_pos l8]
        refine S.aload_n (pc' := 1) dX11_slip_0 rfl rfl rfl ?_
        refine S.getR (pc' := 4) dX11_slip_1 rfl fX11_23 L_0 rf_0_3 ?_
        refine S.iload_n (pc' := 5) dX11_slip_4 rfl rfl rfl ?_
        refine S.callVi (pc' := 8) dX11_slip_5 rfl cX11_126 (bk_X1_hasThing gd18) rfl (gd_lay gd18) (by decide) rfl (Nat.le_of_ble_eq_true rfl) (fun z5 M5 q5 => ?_)
        obtain ⟨b5, rfl⟩ := q5
        refine S.if_eq (pc' := 11) (tgt := 39) dX11_slip_8 (by decide) rfl (by unfold fp_rng; omega) (fun h8 => ?_) (fun h8 => ?_)
        · exfalso; omega
        · refine S.aload_n (pc' := 12) dX11_slip_11 rfl rfl rfl ?_
          refine S.getR (pc' := 15) dX11_slip_12 rfl fX11_23 L_0 rf_0_3 ?_
          refine S.iload_n (pc' := 16) dX11_slip_15 rfl rfl rfl ?_
          refine S.callVi (pc' := 19) dX11_slip_16 rfl cX11_148 (bk_X1_hasLine gd18) rfl (gd_lay gd18) (by decide) rfl (Nat.le_of_ble_eq_true rfl) (fun z16 M16 q16 => ?_)
          obtain ⟨b16, rfl⟩ := q16
          refine S.if_eq (pc' := 22) (tgt := 39) dX11_slip_19 (by decide) rfl (by unfold fp_rng; omega) (fun h19 => ?_) (fun h19 => ?_)
          · exfalso; omega
          · refine S.iload_n (pc' := 23) dX11_slip_22 rfl rfl rfl ?_
            refine S.if_lt (pc' := 26) (tgt := 39) dX11_slip_23 (by decide) rfl (by unfold fp_rng; omega) (fun h23 => ?_) (fun h23 => ?_)
            · exfalso; omega
            · refine S.iload_n (pc' := 27) dX11_slip_26 rfl rfl rfl ?_
              refine S.aload_n (pc' := 28) dX11_slip_27 rfl rfl rfl ?_
              refine S.getR (pc' := 31) dX11_slip_28 rfl fX11_30 L_0 rf_0_4 ?_
              refine S.getR (pc' := 34) dX11_slip_31 rfl fX11_151 (pl_lay pl22) (pl_r2 pl22) ?_
              refine S.iload_n (pc' := 35) dX11_slip_34 rfl rfl rfl ?_
              refine S.iald (pc' := 36) dX11_slip_35 rfl (pl_a2 pl22) (by omega) (by omega) ?_
              refine S.icmp_le (pc' := 39) (tgt := 41) dX11_slip_36 (by decide) rfl (by unfold fp_rng; omega) (by unfold fp_rng; omega) (fun h36 => ?_) (fun h36 => ?_)
              · refine S.aload_n (pc' := 42) dX11_slip_41 rfl rfl rfl ?_
                refine S.getR (pc' := 45) dX11_slip_42 rfl fX11_30 L_0 rf_0_4 ?_
                refine S.getR (pc' := 48) dX11_slip_45 rfl fX11_138 (pl_lay pl22) (pl_r0 pl22) ?_
                refine S.iload_n (pc' := 49) dX11_slip_48 rfl rfl rfl ?_
                refine S.iald (pc' := 50) dX11_slip_49 rfl (pl_a0 pl22) (by omega) (by omega) ?_
                refine S.callSi (pc' := 53) dX11_slip_50 rfl cX11_181 (bk_X11_isOne) rfl (by decide) rfl (Nat.le_of_ble_eq_true rfl) (fun z50 M50 q50 => ?_)
                obtain ⟨b50, rfl⟩ := q50
                refine S.if_ne (pc' := 56) (tgt := 59) dX11_slip_53 (by decide) rfl (by unfold fp_rng; omega) (fun h53 => ?_) (fun h53 => ?_)
                · refine S.aload_n (pc' := 60) dX11_slip_59 rfl rfl rfl ?_
                  refine S.getR (pc' := 63) dX11_slip_60 rfl fX11_30 L_0 rf_0_4 ?_
                  refine S.iload_n (pc' := 64) dX11_slip_63 rfl rfl rfl ?_
                  refine S.iload_n (pc' := 65) dX11_slip_64 rfl rfl rfl ?_
                  refine S.iload_n (pc' := 66) dX11_slip_65 rfl rfl rfl ?_
                  refine S.callVi (pc' := 69) dX11_slip_66 rfl cX11_198 (rk_X5_insert (g := g) (pg := pg) pl22) rfl (pl_lay pl22) (by decide) rfl (Nat.le_of_ble_eq_true rfl) (fun z66 M66 q66 => ?_)
                  rw [if_pos l8, if_pos l8] at q66
                  obtain ⟨z1, c1, f1⟩ := q66
                  refine S.if_eq (pc' := 72) (tgt := 84) dX11_slip_69 (by decide) rfl (by unfold fp_rng; omega) (fun h69 => ?_) (fun h69 => ?_)
                  · refine S.bipush (pc' := 86) dX11_slip_84 rfl (by decide) ?_
                    refine S.iret dX11_slip_86 rfl ?_
                    exact ⟨rfl, hcs.page f1 c1, f1.c (by decide)⟩
                  · exfalso; omega
                · exfalso; omega
              · exfalso; omega
      · rw [if_neg l8]
        have hl : ((aIns pg t x i.toNat).2.2 x).length = (pg.2.2 x).length + 1 := by
          show List.length (fp_ui pg.2.2 x _ x) = _
          rw [fp_ui_at, List.length_insertIdx_of_le_length (by omega)]
        refine S.aload_n (pc' := 1) dX11_slip_0 rfl rfl rfl ?_
        refine S.getR (pc' := 4) dX11_slip_1 rfl fX11_23 L_0 rf_0_3 ?_
        refine S.iload_n (pc' := 5) dX11_slip_4 rfl rfl rfl ?_
        refine S.callVi (pc' := 8) dX11_slip_5 rfl cX11_126 (bk_X1_hasThing gd18) rfl (gd_lay gd18) (by decide) rfl (Nat.le_of_ble_eq_true rfl) (fun z5 M5 q5 => ?_)
        obtain ⟨b5, rfl⟩ := q5
        refine S.if_eq (pc' := 11) (tgt := 39) dX11_slip_8 (by decide) rfl (by unfold fp_rng; omega) (fun h8 => ?_) (fun h8 => ?_)
        · exfalso; omega
        · refine S.aload_n (pc' := 12) dX11_slip_11 rfl rfl rfl ?_
          refine S.getR (pc' := 15) dX11_slip_12 rfl fX11_23 L_0 rf_0_3 ?_
          refine S.iload_n (pc' := 16) dX11_slip_15 rfl rfl rfl ?_
          refine S.callVi (pc' := 19) dX11_slip_16 rfl cX11_148 (bk_X1_hasLine gd18) rfl (gd_lay gd18) (by decide) rfl (Nat.le_of_ble_eq_true rfl) (fun z16 M16 q16 => ?_)
          obtain ⟨b16, rfl⟩ := q16
          refine S.if_eq (pc' := 22) (tgt := 39) dX11_slip_19 (by decide) rfl (by unfold fp_rng; omega) (fun h19 => ?_) (fun h19 => ?_)
          · exfalso; omega
          · refine S.iload_n (pc' := 23) dX11_slip_22 rfl rfl rfl ?_
            refine S.if_lt (pc' := 26) (tgt := 39) dX11_slip_23 (by decide) rfl (by unfold fp_rng; omega) (fun h23 => ?_) (fun h23 => ?_)
            · exfalso; omega
            · refine S.iload_n (pc' := 27) dX11_slip_26 rfl rfl rfl ?_
              refine S.aload_n (pc' := 28) dX11_slip_27 rfl rfl rfl ?_
              refine S.getR (pc' := 31) dX11_slip_28 rfl fX11_30 L_0 rf_0_4 ?_
              refine S.getR (pc' := 34) dX11_slip_31 rfl fX11_151 (pl_lay pl22) (pl_r2 pl22) ?_
              refine S.iload_n (pc' := 35) dX11_slip_34 rfl rfl rfl ?_
              refine S.iald (pc' := 36) dX11_slip_35 rfl (pl_a2 pl22) (by omega) (by omega) ?_
              refine S.icmp_le (pc' := 39) (tgt := 41) dX11_slip_36 (by decide) rfl (by unfold fp_rng; omega) (by unfold fp_rng; omega) (fun h36 => ?_) (fun h36 => ?_)
              · refine S.aload_n (pc' := 42) dX11_slip_41 rfl rfl rfl ?_
                refine S.getR (pc' := 45) dX11_slip_42 rfl fX11_30 L_0 rf_0_4 ?_
                refine S.getR (pc' := 48) dX11_slip_45 rfl fX11_138 (pl_lay pl22) (pl_r0 pl22) ?_
                refine S.iload_n (pc' := 49) dX11_slip_48 rfl rfl rfl ?_
                refine S.iald (pc' := 50) dX11_slip_49 rfl (pl_a0 pl22) (by omega) (by omega) ?_
                refine S.callSi (pc' := 53) dX11_slip_50 rfl cX11_181 (bk_X11_isOne) rfl (by decide) rfl (Nat.le_of_ble_eq_true rfl) (fun z50 M50 q50 => ?_)
                obtain ⟨b50, rfl⟩ := q50
                refine S.if_ne (pc' := 56) (tgt := 59) dX11_slip_53 (by decide) rfl (by unfold fp_rng; omega) (fun h53 => ?_) (fun h53 => ?_)
                · refine S.aload_n (pc' := 60) dX11_slip_59 rfl rfl rfl ?_
                  refine S.getR (pc' := 63) dX11_slip_60 rfl fX11_30 L_0 rf_0_4 ?_
                  refine S.iload_n (pc' := 64) dX11_slip_63 rfl rfl rfl ?_
                  refine S.iload_n (pc' := 65) dX11_slip_64 rfl rfl rfl ?_
                  refine S.iload_n (pc' := 66) dX11_slip_65 rfl rfl rfl ?_
                  refine S.callVi (pc' := 69) dX11_slip_66 rfl cX11_198 (rk_X5_insert (g := g) (pg := pg) pl22) rfl (pl_lay pl22) (by decide) rfl (Nat.le_of_ble_eq_true rfl) (fun z66 M66 q66 => ?_)
                  rw [if_neg l8, if_neg l8] at q66
                  obtain ⟨z1, c1, f1⟩ := q66
                  have n4 := (c1.2.2.2.1 x (by omega) (by omega)).1
                  refine S.if_eq (pc' := 72) (tgt := 84) dX11_slip_69 (by decide) rfl (by unfold fp_rng; omega) (fun h69 => ?_) (fun h69 => ?_)
                  · exfalso; omega
                  · refine S.aload_n (pc' := 73) dX11_slip_72 rfl rfl rfl ?_
                    refine S.getR (pc' := 76) dX11_slip_73 rfl fX11_30 L_0 rf_0_4 ?_
                    refine S.getR (pc' := 79) dX11_slip_76 rfl fX11_151 (pl_lay pl22) (pl_r2 pl22) ?_
                    refine S.iload_n (pc' := 80) dX11_slip_79 rfl rfl rfl ?_
                    refine S.iald (pc' := 81) dX11_slip_80 rfl (pl_a2 pl22) (by omega) (by omega) ?_
                    refine S.goto (pc' := 86) dX11_slip_81 (by decide) ?_
                    refine S.iret dX11_slip_86 rfl ?_
                    exact ⟨by omega, hcs.page f1 c1, f1.c (by decide)⟩
                · exfalso; omega
              · exfalso; omega
  · rw [if_pos hin]
    by_cases hx2 : 0 ≤ x ∧ x < g.2.1
    · obtain ⟨n1, n2, n3⟩ := hcl.line hP hx2 hg
      refine S.aload_n (pc' := 1) dX11_slip_0 rfl rfl rfl ?_
      refine S.getR (pc' := 4) dX11_slip_1 rfl fX11_23 L_0 rf_0_3 ?_
      refine S.iload_n (pc' := 5) dX11_slip_4 rfl rfl rfl ?_
      refine S.callVi (pc' := 8) dX11_slip_5 rfl cX11_126 (bk_X1_hasThing gd18) rfl (gd_lay gd18) (by decide) rfl (Nat.le_of_ble_eq_true rfl) (fun z5 M5 q5 => ?_)
      obtain ⟨b5, rfl⟩ := q5
      refine S.if_eq (pc' := 11) (tgt := 39) dX11_slip_8 (by decide) rfl (by unfold fp_rng; omega) (fun h8 => ?_) (fun h8 => ?_)
      · refine S.iconst (pc' := 40) dX11_slip_39 rfl ?_
        refine S.iret dX11_slip_40 rfl ?_
        exact ⟨rfl, hcs, frC.refl _⟩
      · refine S.aload_n (pc' := 12) dX11_slip_11 rfl rfl rfl ?_
        refine S.getR (pc' := 15) dX11_slip_12 rfl fX11_23 L_0 rf_0_3 ?_
        refine S.iload_n (pc' := 16) dX11_slip_15 rfl rfl rfl ?_
        refine S.callVi (pc' := 19) dX11_slip_16 rfl cX11_148 (bk_X1_hasLine gd18) rfl (gd_lay gd18) (by decide) rfl (Nat.le_of_ble_eq_true rfl) (fun z16 M16 q16 => ?_)
        obtain ⟨b16, rfl⟩ := q16
        refine S.if_eq (pc' := 22) (tgt := 39) dX11_slip_19 (by decide) rfl (by unfold fp_rng; omega) (fun h19 => ?_) (fun h19 => ?_)
        · refine S.iconst (pc' := 40) dX11_slip_39 rfl ?_
          refine S.iret dX11_slip_40 rfl ?_
          exact ⟨rfl, hcs, frC.refl _⟩
        · refine S.iload_n (pc' := 23) dX11_slip_22 rfl rfl rfl ?_
          refine S.if_lt (pc' := 26) (tgt := 39) dX11_slip_23 (by decide) rfl hi (fun h23 => ?_) (fun h23 => ?_)
          · refine S.iconst (pc' := 40) dX11_slip_39 rfl ?_
            refine S.iret dX11_slip_40 rfl ?_
            exact ⟨rfl, hcs, frC.refl _⟩
          · refine S.iload_n (pc' := 27) dX11_slip_26 rfl rfl rfl ?_
            refine S.aload_n (pc' := 28) dX11_slip_27 rfl rfl rfl ?_
            refine S.getR (pc' := 31) dX11_slip_28 rfl fX11_30 L_0 rf_0_4 ?_
            refine S.getR (pc' := 34) dX11_slip_31 rfl fX11_151 (pl_lay pl22) (pl_r2 pl22) ?_
            refine S.iload_n (pc' := 35) dX11_slip_34 rfl rfl rfl ?_
            refine S.iald (pc' := 36) dX11_slip_35 rfl (pl_a2 pl22) (by omega) (by omega) ?_
            refine S.icmp_le (pc' := 39) (tgt := 41) dX11_slip_36 (by decide) rfl hi (by unfold fp_rng; omega) (fun h36 => ?_) (fun h36 => ?_)
            · exfalso; omega
            · refine S.iconst (pc' := 40) dX11_slip_39 rfl ?_
              refine S.iret dX11_slip_40 rfl ?_
              exact ⟨rfl, hcs, frC.refl _⟩
    · refine S.aload_n (pc' := 1) dX11_slip_0 rfl rfl rfl ?_
      refine S.getR (pc' := 4) dX11_slip_1 rfl fX11_23 L_0 rf_0_3 ?_
      refine S.iload_n (pc' := 5) dX11_slip_4 rfl rfl rfl ?_
      refine S.callVi (pc' := 8) dX11_slip_5 rfl cX11_126 (bk_X1_hasThing gd18) rfl (gd_lay gd18) (by decide) rfl (Nat.le_of_ble_eq_true rfl) (fun z5 M5 q5 => ?_)
      obtain ⟨b5, rfl⟩ := q5
      refine S.if_eq (pc' := 11) (tgt := 39) dX11_slip_8 (by decide) rfl (by unfold fp_rng; omega) (fun h8 => ?_) (fun h8 => ?_)
      · refine S.iconst (pc' := 40) dX11_slip_39 rfl ?_
        refine S.iret dX11_slip_40 rfl ?_
        exact ⟨rfl, hcs, frC.refl _⟩
      · refine S.aload_n (pc' := 12) dX11_slip_11 rfl rfl rfl ?_
        refine S.getR (pc' := 15) dX11_slip_12 rfl fX11_23 L_0 rf_0_3 ?_
        refine S.iload_n (pc' := 16) dX11_slip_15 rfl rfl rfl ?_
        refine S.callVi (pc' := 19) dX11_slip_16 rfl cX11_148 (bk_X1_hasLine gd18) rfl (gd_lay gd18) (by decide) rfl (Nat.le_of_ble_eq_true rfl) (fun z16 M16 q16 => ?_)
        obtain ⟨b16, rfl⟩ := q16
        refine S.if_eq (pc' := 22) (tgt := 39) dX11_slip_19 (by decide) rfl (by unfold fp_rng; omega) (fun h19 => ?_) (fun h19 => ?_)
        · refine S.iconst (pc' := 40) dX11_slip_39 rfl ?_
          refine S.iret dX11_slip_40 rfl ?_
          exact ⟨rfl, hcs, frC.refl _⟩
        · exfalso; omega
end PUD
