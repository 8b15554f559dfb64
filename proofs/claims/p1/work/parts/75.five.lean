/-! WITH NO LINE TOLD: most, odds, likeliest, duel, orders -/
section FIV
variable {l : Launch} {G : fp_WG} {M : fp_Mem} {tp : List Int} {fl : Int} {g : aGd} {pg : aPg} {vs : List aVt} {nt : List Int} {im : aIm} {sh : aSh} {tn : Int}
def A_most0 (p w : Int) : Int := if (0 ≤ p ∧ p < 4) ∧ w = 0 then -2 else -1
theorem c0_most {p w : Int} (hc : CS M tp fl g pg vs nt im sh tn) (ho : OK g pg vs nt im sh) (h0 : g.2.1 = 0) (hvl : (vs.length : Int) = 0) (hp : fp_rng p) (hw : fp_rng w) : fp_Ok l G 2 kX11_most [rV G 0, iV p, iV w] M (qI fun z N => z = A_most0 p w ∧ frC M N) := by
  obtain ⟨-, hd, hcl, hv, -⟩ := hc
  obtain ⟨hg, hP, -⟩ := ho
  have hd1 : M 18 1 = g.2.1 := hd.2.1
  have hw1 := hw.1
  have hw2 := hw.2
  refine fp_Ok.of (r := 1) rfl (Nat.le_of_ble_eq_true rfl) rfl ?_
  unfold A_most0
  refine S.iload_n (pc' := 1) dX11_most_0 rfl rfl rfl ?_
  refine S.bipush (pc' := 3) dX11_most_1 rfl (by decide) ?_
  refine S.icmp_lt (pc' := 6) (tgt := 24) dX11_most_3 (by decide) rfl (by unfold fp_rng; omega) (by unfold fp_rng; omega) (fun h3 => ?_) (fun h3 => ?_)
  · refine S.iconst (pc' := 25) dX11_most_24 rfl ?_
    refine S.istore_n (pc' := 26) (LL' := [_, _, _, _]) dX11_most_25 rfl (by decide) rfl rfl rfl ?_
    refine S.iload_n (pc' := 27) dX11_most_26 rfl rfl rfl ?_
    refine S.callSi (pc' := 30) dX11_most_27 rfl cX11_181 (bk_X11_isOne) rfl (by decide) rfl (Nat.le_of_ble_eq_true rfl) (fun z27 M27 q27 => ?_)
    obtain ⟨b27, rfl⟩ := q27
    refine S.if_eq (pc' := 33) (tgt := 41) dX11_most_30 (by decide) rfl (by unfold fp_rng; omega) (fun h30 => ?_) (fun h30 => ?_)
    · refine S.iconst (pc' := 42) dX11_most_41 rfl ?_
      refine S.iret dX11_most_42 rfl ?_
      refine ⟨?_, frC.refl _⟩
      (repeat' split) <;> first | rfl | omega
    · refine S.iload_n (pc' := 34) dX11_most_33 rfl rfl rfl ?_
      refine S.if_eq (pc' := 37) (tgt := 43) dX11_most_34 (by decide) rfl (by unfold fp_rng; omega) (fun h34 => ?_) (fun h34 => ?_)
      · refine S.aload_n (pc' := 44) dX11_most_43 rfl rfl rfl ?_
        refine S.getR (pc' := 47) dX11_most_44 rfl fX11_23 L_0 rf_0_3 ?_
        refine S.getI (pc' := 50) dX11_most_47 rfl fX11_225 (gd_lay gd18) ?_
        refine S.if_eq (pc' := 53) (tgt := 66) dX11_most_50 (by decide) rfl (by rw [hd1, h0]; exact fp_rng0) (fun h50 => ?_) (fun h50 => ?_)
        · refine S.bipush (pc' := 68) dX11_most_66 rfl (by decide) ?_
          refine S.iret dX11_most_68 rfl ?_
          refine ⟨?_, frC.refl _⟩
          (repeat' split) <;> first | rfl | omega
        · exfalso; omega
      · refine S.iload_n (pc' := 38) dX11_most_37 rfl rfl rfl ?_
        refine S.if_ne (pc' := 41) (tgt := 43) dX11_most_38 (by decide) rfl (by unfold fp_rng; omega) (fun h38 => ?_) (fun h38 => ?_)
        · refine S.aload_n (pc' := 44) dX11_most_43 rfl rfl rfl ?_
          refine S.getR (pc' := 47) dX11_most_44 rfl fX11_23 L_0 rf_0_3 ?_
          refine S.getI (pc' := 50) dX11_most_47 rfl fX11_225 (gd_lay gd18) ?_
          refine S.if_eq (pc' := 53) (tgt := 66) dX11_most_50 (by decide) rfl (by rw [hd1, h0]; exact fp_rng0) (fun h50 => ?_) (fun h50 => ?_)
          · refine S.bipush (pc' := 68) dX11_most_66 rfl (by decide) ?_
            refine S.iret dX11_most_68 rfl ?_
            refine ⟨?_, frC.refl _⟩
            (repeat' split) <;> first | rfl | omega
          · exfalso; omega
        · refine S.iconst (pc' := 42) dX11_most_41 rfl ?_
          refine S.iret dX11_most_42 rfl ?_
          refine ⟨?_, frC.refl _⟩
          (repeat' split) <;> first | rfl | omega
  · refine S.aload_n (pc' := 7) dX11_most_6 rfl rfl rfl ?_
    refine S.getR (pc' := 10) dX11_most_7 rfl fX11_37 L_0 rf_0_5 ?_
    refine S.iload_n (pc' := 11) dX11_most_10 rfl rfl rfl ?_
    refine S.bipush (pc' := 13) dX11_most_11 rfl (by decide) ?_
    refine S.isub (pc' := 14) dX11_most_13 rfl ?_
    refine S.callVi (pc' := 17) dX11_most_14 rfl cX11_163 (bk_X10_has vs27) rfl (vs_lay vs27) (by decide) rfl (Nat.le_of_ble_eq_true rfl) (fun z14 M14 q14 => ?_)
    obtain ⟨b14, rfl⟩ := q14
    refine S.if_eq (pc' := 20) (tgt := 24) dX11_most_17 (by decide) rfl (by unfold fp_rng; omega) (fun h17 => ?_) (fun h17 => ?_)
    · refine S.iconst (pc' := 25) dX11_most_24 rfl ?_
      refine S.istore_n (pc' := 26) (LL' := [_, _, _, _]) dX11_most_25 rfl (by decide) rfl rfl rfl ?_
      refine S.iload_n (pc' := 27) dX11_most_26 rfl rfl rfl ?_
      refine S.callSi (pc' := 30) dX11_most_27 rfl cX11_181 (bk_X11_isOne) rfl (by decide) rfl (Nat.le_of_ble_eq_true rfl) (fun z27 M27 q27 => ?_)
      obtain ⟨b27, rfl⟩ := q27
      refine S.if_eq (pc' := 33) (tgt := 41) dX11_most_30 (by decide) rfl (by unfold fp_rng; omega) (fun h30 => ?_) (fun h30 => ?_)
      · refine S.iconst (pc' := 42) dX11_most_41 rfl ?_
        refine S.iret dX11_most_42 rfl ?_
        refine ⟨?_, frC.refl _⟩
        (repeat' split) <;> first | rfl | omega
      · refine S.iload_n (pc' := 34) dX11_most_33 rfl rfl rfl ?_
        refine S.if_eq (pc' := 37) (tgt := 43) dX11_most_34 (by decide) rfl (by unfold fp_rng; omega) (fun h34 => ?_) (fun h34 => ?_)
        · refine S.aload_n (pc' := 44) dX11_most_43 rfl rfl rfl ?_
          refine S.getR (pc' := 47) dX11_most_44 rfl fX11_23 L_0 rf_0_3 ?_
          refine S.getI (pc' := 50) dX11_most_47 rfl fX11_225 (gd_lay gd18) ?_
          refine S.if_eq (pc' := 53) (tgt := 66) dX11_most_50 (by decide) rfl (by rw [hd1, h0]; exact fp_rng0) (fun h50 => ?_) (fun h50 => ?_)
          · refine S.bipush (pc' := 68) dX11_most_66 rfl (by decide) ?_
            refine S.iret dX11_most_68 rfl ?_
            refine ⟨?_, frC.refl _⟩
            (repeat' split) <;> first | rfl | omega
          · exfalso; omega
        · refine S.iload_n (pc' := 38) dX11_most_37 rfl rfl rfl ?_
          refine S.if_ne (pc' := 41) (tgt := 43) dX11_most_38 (by decide) rfl (by unfold fp_rng; omega) (fun h38 => ?_) (fun h38 => ?_)
          · refine S.aload_n (pc' := 44) dX11_most_43 rfl rfl rfl ?_
            refine S.getR (pc' := 47) dX11_most_44 rfl fX11_23 L_0 rf_0_3 ?_
            refine S.getI (pc' := 50) dX11_most_47 rfl fX11_225 (gd_lay gd18) ?_
            refine S.if_eq (pc' := 53) (tgt := 66) dX11_most_50 (by decide) rfl (by rw [hd1, h0]; exact fp_rng0) (fun h50 => ?_) (fun h50 => ?_)
            · refine S.bipush (pc' := 68) dX11_most_66 rfl (by decide) ?_
              refine S.iret dX11_most_68 rfl ?_
              refine ⟨?_, frC.refl _⟩
              (repeat' split) <;> first | rfl | omega
            · exfalso; omega
          · refine S.iconst (pc' := 42) dX11_most_41 rfl ?_
            refine S.iret dX11_most_42 rfl ?_
            refine ⟨?_, frC.refl _⟩
            (repeat' split) <;> first | rfl | omega
    · exfalso; omega
theorem c0_odds {x t w : Int} (hc : CS M tp fl g pg vs nt im sh tn) (ho : OK g pg vs nt im sh) (h0 : g.2.1 = 0) (hx : fp_rng x) (ht : fp_rng t) (hw : fp_rng w) : fp_Ok l G 2 kX11_odds [rV G 0, iV x, iV t, iV w] M (qJ fun z N => z = -1 ∧ frC M N) := by
  obtain ⟨-, hd, hcl, hv, -⟩ := hc
  obtain ⟨hg, hP, -⟩ := ho
  refine fp_Ok.of (r := 6) rfl (Nat.le_of_ble_eq_true rfl) rfl ?_
  refine S.aload_n (pc' := 1) dX11_odds_0 rfl rfl rfl ?_
  refine S.getR (pc' := 4) dX11_odds_1 rfl fX11_23 L_0 rf_0_3 ?_
  refine S.iload_n (pc' := 5) dX11_odds_4 rfl rfl rfl ?_
  refine S.callVi (pc' := 8) dX11_odds_5 rfl cX11_148 (bk_X1_hasLine gd18) rfl (gd_lay gd18) (by decide) rfl (Nat.le_of_ble_eq_true rfl) (fun z5 M5 q5 => ?_)
  obtain ⟨b5, rfl⟩ := q5
  refine S.if_eq (pc' := 11) (tgt := 30) dX11_odds_8 (by decide) rfl (by unfold fp_rng; omega) (fun h8 => ?_) (fun h8 => ?_)
  · refine S.ldc2 (pc' := 33) (v := -1) dX11_odds_30 rfl lX11_252 (by decide) ?_
    refine S.lret dX11_odds_33 rfl ?_
    exact ⟨rfl, frC.refl _⟩
  · exfalso; omega
theorem c0_likeliest {x : Int} (hc : CS M tp fl g pg vs nt im sh tn) (ho : OK g pg vs nt im sh) (h0 : g.2.1 = 0) (hx : fp_rng x) : fp_Ok l G 2 kX11_likeliest [rV G 0, iV x] M (qI fun z N => z = -1 ∧ frC M N) := by
  obtain ⟨-, hd, hcl, hv, -⟩ := hc
  obtain ⟨hg, hP, -⟩ := ho
  refine fp_Ok.of (r := 4) rfl (Nat.le_of_ble_eq_true rfl) rfl ?_
  refine S.aload_n (pc' := 1) dX11_likeliest_0 rfl rfl rfl ?_
  refine S.getR (pc' := 4) dX11_likeliest_1 rfl fX11_23 L_0 rf_0_3 ?_
  refine S.iload_n (pc' := 5) dX11_likeliest_4 rfl rfl rfl ?_
  refine S.callVi (pc' := 8) dX11_likeliest_5 rfl cX11_148 (bk_X1_hasLine gd18) rfl (gd_lay gd18) (by decide) rfl (Nat.le_of_ble_eq_true rfl) (fun z5 M5 q5 => ?_)
  obtain ⟨b5, rfl⟩ := q5
  refine S.if_ne (pc' := 11) (tgt := 13) dX11_likeliest_8 (by decide) rfl (by unfold fp_rng; omega) (fun h8 => ?_) (fun h8 => ?_)
  · exfalso; omega
  · refine S.iconst (pc' := 12) dX11_likeliest_11 rfl ?_
    refine S.iret dX11_likeliest_12 rfl ?_
    exact ⟨rfl, frC.refl _⟩
theorem c0_duel {x p q r n w : Int} (hc : CS M tp fl g pg vs nt im sh tn) (ho : OK g pg vs nt im sh) (h0 : g.2.1 = 0) (hx : fp_rng x) (hp : fp_rng p) (hq : fp_rng q) (hr : fp_rng r) (hn : fp_rng n) (hw : fp_rng w) : fp_Ok l G 2 kX11_duel [rV G 0, iV x, iV p, iV q, iV r, iV n, iV w] M (qI fun z N => z = -1 ∧ frC M N) := by
  obtain ⟨-, hd, hcl, hv, -⟩ := hc
  obtain ⟨hg, hP, -⟩ := ho
  refine fp_Ok.of (r := 1) rfl (Nat.le_of_ble_eq_true rfl) rfl ?_
  refine S.aload_n (pc' := 1) dX11_duel_0 rfl rfl rfl ?_
  refine S.getR (pc' := 4) dX11_duel_1 rfl fX11_23 L_0 rf_0_3 ?_
  refine S.iload_n (pc' := 5) dX11_duel_4 rfl rfl rfl ?_
  refine S.callVi (pc' := 8) dX11_duel_5 rfl cX11_148 (bk_X1_hasLine gd18) rfl (gd_lay gd18) (by decide) rfl (Nat.le_of_ble_eq_true rfl) (fun z5 M5 q5 => ?_)
  obtain ⟨b5, rfl⟩ := q5
  refine S.if_eq (pc' := 11) (tgt := 30) dX11_duel_8 (by decide) rfl (by unfold fp_rng; omega) (fun h8 => ?_) (fun h8 => ?_)
  · refine S.iconst (pc' := 31) dX11_duel_30 rfl ?_
    refine S.iret dX11_duel_31 rfl ?_
    exact ⟨rfl, frC.refl _⟩
  · exfalso; omega
theorem c0_orders {x w : Int} (hc : CS M tp fl g pg vs nt im sh tn) (ho : OK g pg vs nt im sh) (h0 : g.2.1 = 0) (hx : fp_rng x) (hw : fp_rng w) : fp_Ok l G 2 kX11_orders [rV G 0, iV x, iV w] M (qI fun z N => z = -1 ∧ frC M N) := by
  have hw1 := hw.1
  have hw2 := hw.2
  obtain ⟨-, hd, hcl, hv, -⟩ := hc
  obtain ⟨hg, hP, -⟩ := ho
  refine fp_Ok.of (r := 1) rfl (Nat.le_of_ble_eq_true rfl) rfl ?_
  refine S.iload_n (pc' := 1) dX11_orders_0 rfl rfl rfl ?_
  refine S.bipush (pc' := 3) dX11_orders_1 rfl (by decide) ?_
  refine S.icmp_lt (pc' := 6) (tgt := 16) dX11_orders_3 (by decide) rfl (by unfold fp_rng; omega) (by unfold fp_rng; omega) (fun h3 => ?_) (fun h3 => ?_)
  · refine S.iconst (pc' := 17) dX11_orders_16 rfl ?_
    refine S.istore_n (pc' := 18) (LL' := [_, _, _, _]) dX11_orders_17 rfl (by decide) rfl rfl rfl ?_
    refine S.aload_n (pc' := 19) dX11_orders_18 rfl rfl rfl ?_
    refine S.getR (pc' := 22) dX11_orders_19 rfl fX11_23 L_0 rf_0_3 ?_
    refine S.iload_n (pc' := 23) dX11_orders_22 rfl rfl rfl ?_
    refine S.callVi (pc' := 26) dX11_orders_23 rfl cX11_148 (bk_X1_hasLine gd18) rfl (gd_lay gd18) (by decide) rfl (Nat.le_of_ble_eq_true rfl) (fun z23 M23 q23 => ?_)
    obtain ⟨b23, rfl⟩ := q23
    refine S.if_eq (pc' := 29) (tgt := 37) dX11_orders_26 (by decide) rfl (by unfold fp_rng; omega) (fun h26 => ?_) (fun h26 => ?_)
    · refine S.iconst (pc' := 38) dX11_orders_37 rfl ?_
      refine S.iret dX11_orders_38 rfl ?_
      exact ⟨rfl, frC.refl _⟩
    · exfalso; omega
  · refine S.iload_n (pc' := 7) dX11_orders_6 rfl rfl rfl ?_
    refine S.bipush (pc' := 9) dX11_orders_7 rfl (by decide) ?_
    refine S.icmp_ge (pc' := 12) (tgt := 16) dX11_orders_9 (by decide) rfl (by unfold fp_rng; omega) (by unfold fp_rng; omega) (fun h9 => ?_) (fun h9 => ?_)
    · refine S.iconst (pc' := 17) dX11_orders_16 rfl ?_
      refine S.istore_n (pc' := 18) (LL' := [_, _, _, _]) dX11_orders_17 rfl (by decide) rfl rfl rfl ?_
      refine S.aload_n (pc' := 19) dX11_orders_18 rfl rfl rfl ?_
      refine S.getR (pc' := 22) dX11_orders_19 rfl fX11_23 L_0 rf_0_3 ?_
      refine S.iload_n (pc' := 23) dX11_orders_22 rfl rfl rfl ?_
      refine S.callVi (pc' := 26) dX11_orders_23 rfl cX11_148 (bk_X1_hasLine gd18) rfl (gd_lay gd18) (by decide) rfl (Nat.le_of_ble_eq_true rfl) (fun z23 M23 q23 => ?_)
      obtain ⟨b23, rfl⟩ := q23
      refine S.if_eq (pc' := 29) (tgt := 37) dX11_orders_26 (by decide) rfl (by unfold fp_rng; omega) (fun h26 => ?_) (fun h26 => ?_)
      · refine S.iconst (pc' := 38) dX11_orders_37 rfl ?_
        refine S.iret dX11_orders_38 rfl ?_
        exact ⟨rfl, frC.refl _⟩
      · exfalso; omega
    · refine S.iconst (pc' := 13) dX11_orders_12 rfl ?_
      refine S.goto (pc' := 17) dX11_orders_13 (by decide) ?_
      refine S.istore_n (pc' := 18) (LL' := [_, _, _, _]) dX11_orders_17 rfl (by decide) rfl rfl rfl ?_
      refine S.aload_n (pc' := 19) dX11_orders_18 rfl rfl rfl ?_
      refine S.getR (pc' := 22) dX11_orders_19 rfl fX11_23 L_0 rf_0_3 ?_
      refine S.iload_n (pc' := 23) dX11_orders_22 rfl rfl rfl ?_
      refine S.callVi (pc' := 26) dX11_orders_23 rfl cX11_148 (bk_X1_hasLine gd18) rfl (gd_lay gd18) (by decide) rfl (Nat.le_of_ble_eq_true rfl) (fun z23 M23 q23 => ?_)
      obtain ⟨b23, rfl⟩ := q23
      refine S.if_eq (pc' := 29) (tgt := 37) dX11_orders_26 (by decide) rfl (by unfold fp_rng; omega) (fun h26 => ?_) (fun h26 => ?_)
      · refine S.iconst (pc' := 38) dX11_orders_37 rfl ?_
        refine S.iret dX11_orders_38 rfl ?_
        exact ⟨rfl, frC.refl _⟩
      · exfalso; omega
theorem m0_odds {x t w : Int} (hc : MS M tp fl g pg vs nt im sh tn) (ho : OK g pg vs nt im sh) (h0 : g.2.1 = 0) (hx : fp_rng x) (ht : fp_rng t) (hw : fp_rng w) : fp_Ok l G 2 kX12_odds [rV G 177, iV x, iV t, iV w] M (qJ fun z N => z = -1 ∧ frD M N) := by
  obtain ⟨-, hd, hcl, hv, -⟩ := hc
  obtain ⟨hg, hP, -⟩ := ho
  refine fp_Ok.of (r := 0) rfl (Nat.le_of_ble_eq_true rfl) rfl ?_
  refine S.aload_n (pc' := 1) dX12_odds_0 rfl rfl rfl ?_
  refine S.iload_n (pc' := 2) dX12_odds_1 rfl rfl rfl ?_
  refine S.callVi (pc' := 5) dX12_odds_2 rfl cX12_219 (bk_X12_isLine) rfl L_177 (by decide) rfl (Nat.le_of_ble_eq_true rfl) (fun z2 M2 q2 => ?_)
  obtain ⟨b2, rfl⟩ := q2
  refine S.if_eq (pc' := 8) (tgt := 26) dX12_odds_5 (by decide) rfl (by unfold fp_rng; omega) (fun h5 => ?_) (fun h5 => ?_)
  · refine S.ldc2 (pc' := 29) (v := -1) dX12_odds_26 rfl lX12_293 (by decide) ?_
    refine S.lret dX12_odds_29 rfl ?_
    exact ⟨rfl, frD.refl _⟩
  · exfalso; omega
theorem m0_likeliest {x : Int} (hc : MS M tp fl g pg vs nt im sh tn) (ho : OK g pg vs nt im sh) (h0 : g.2.1 = 0) (hx : fp_rng x) : fp_Ok l G 2 kX12_likeliest [rV G 177, iV x] M (qI fun z N => z = -1 ∧ frD M N) := by
  obtain ⟨-, hd, hcl, hv, -⟩ := hc
  obtain ⟨hg, hP, -⟩ := ho
  refine fp_Ok.of (r := 2) rfl (Nat.le_of_ble_eq_true rfl) rfl ?_
  refine S.aload_n (pc' := 1) dX12_likeliest_0 rfl rfl rfl ?_
  refine S.iload_n (pc' := 2) dX12_likeliest_1 rfl rfl rfl ?_
  refine S.callVi (pc' := 5) dX12_likeliest_2 rfl cX12_219 (bk_X12_isLine) rfl L_177 (by decide) rfl (Nat.le_of_ble_eq_true rfl) (fun z2 M2 q2 => ?_)
  obtain ⟨b2, rfl⟩ := q2
  refine S.if_ne (pc' := 8) (tgt := 10) dX12_likeliest_5 (by decide) rfl (by unfold fp_rng; omega) (fun h5 => ?_) (fun h5 => ?_)
  · exfalso; omega
  · refine S.iconst (pc' := 9) dX12_likeliest_8 rfl ?_
    refine S.iret dX12_likeliest_9 rfl ?_
    exact ⟨rfl, frD.refl _⟩
theorem m0_duel {x p q r n w : Int} (hc : MS M tp fl g pg vs nt im sh tn) (ho : OK g pg vs nt im sh) (h0 : g.2.1 = 0) (hx : fp_rng x) (hp : fp_rng p) (hq : fp_rng q) (hr : fp_rng r) (hn : fp_rng n) (hw : fp_rng w) : fp_Ok l G 2 kX12_duel [rV G 177, iV x, iV p, iV q, iV r, iV n, iV w] M (qI fun z N => z = -1 ∧ frD M N) := by
  obtain ⟨-, hd, hcl, hv, -⟩ := hc
  obtain ⟨hg, hP, -⟩ := ho
  refine fp_Ok.of (r := 9) rfl (Nat.le_of_ble_eq_true rfl) rfl ?_
  refine S.aload_n (pc' := 1) dX12_duel_0 rfl rfl rfl ?_
  refine S.iload_n (pc' := 2) dX12_duel_1 rfl rfl rfl ?_
  refine S.callVi (pc' := 5) dX12_duel_2 rfl cX12_219 (bk_X12_isLine) rfl L_177 (by decide) rfl (Nat.le_of_ble_eq_true rfl) (fun z2 M2 q2 => ?_)
  obtain ⟨b2, rfl⟩ := q2
  refine S.if_eq (pc' := 8) (tgt := 64) dX12_duel_5 (by decide) rfl (by unfold fp_rng; omega) (fun h5 => ?_) (fun h5 => ?_)
  · refine S.iconst (pc' := 65) dX12_duel_64 rfl ?_
    refine S.iret dX12_duel_65 rfl ?_
    exact ⟨rfl, frD.refl _⟩
  · exfalso; omega
theorem m0_orders {x w : Int} (hc : MS M tp fl g pg vs nt im sh tn) (ho : OK g pg vs nt im sh) (h0 : g.2.1 = 0) (hx : fp_rng x) (hw : fp_rng w) : fp_Ok l G 2 kX12_orders [rV G 177, iV x, iV w] M (qI fun z N => z = -1 ∧ frD M N) := by
  obtain ⟨-, hd, hcl, hv, -⟩ := hc
  obtain ⟨hg, hP, -⟩ := ho
  refine fp_Ok.of (r := 5) rfl (Nat.le_of_ble_eq_true rfl) rfl ?_
  refine S.aload_n (pc' := 1) dX12_orders_0 rfl rfl rfl ?_
  refine S.iload_n (pc' := 2) dX12_orders_1 rfl rfl rfl ?_
  refine S.callVi (pc' := 5) dX12_orders_2 rfl cX12_219 (bk_X12_isLine) rfl L_177 (by decide) rfl (Nat.le_of_ble_eq_true rfl) (fun z2 M2 q2 => ?_)
  obtain ⟨b2, rfl⟩ := q2
  refine S.if_eq (pc' := 8) (tgt := 26) dX12_orders_5 (by decide) rfl (by unfold fp_rng; omega) (fun h5 => ?_) (fun h5 => ?_)
  · refine S.iconst (pc' := 27) dX12_orders_26 rfl ?_
    refine S.iret dX12_orders_27 rfl ?_
    exact ⟨rfl, frD.refl _⟩
  · exfalso; omega
theorem m0_most_i {p w : Int} (h5 : M 177 5 = 0) (hv0 : M 178 95 = 0) (hp : fp_rng p) (hw : fp_rng w) : ∀ (n : Nat) (i s9 : Int) (N : fp_Mem) (o5 o6 o7 : Option Value), (12 - i).toNat < n → 0 ≤ i → i ≤ 12 → s9 = 0 → (∀ c, c ≠ 190 → N c = M c) →
    fp_S l G 2 kX12_most 37 [some (rV G 177), some (iV p), some (iV w), some (iV s9), some (iV i), o5, o6, o7] [] N (qI fun z _ => z = -2) := by
  intro n
  induction n with
  | zero => intro i s9 N o5 o6 o7 hn; omega
  | succ n ih =>
    intro i s9 N o5 o6 o7 hn hi0 hi1 hs hN
    have e7 : N 177 5 = 0 := by rw [hN 177 (by decide)]; exact h5
    have e8 : N 178 95 = 0 := by rw [hN 178 (by decide)]; exact hv0
    refine S.iload (pc' := 39) dX12_most_37 rfl rfl ?_
    refine S.bipush (pc' := 41) dX12_most_39 rfl (by decide) ?_
    refine S.icmp_ge (pc' := 44) (tgt := 85) dX12_most_41 (by decide) rfl (by unfold fp_rng; omega) (by unfold fp_rng; omega) (fun h41 => ?_) (fun h41 => ?_)
    · refine S.aload_n (pc' := 86) dX12_most_85 rfl rfl rfl ?_
      refine S.getI (pc' := 89) dX12_most_86 rfl fX12_184 L_177 ?_
      refine S.if_eq (pc' := 92) (tgt := 98) dX12_most_89 (by decide) rfl (by rw [e7]; exact fp_rng0) (fun h89 => ?_) (fun h89 => ?_)
      · refine S.bipush (pc' := 100) dX12_most_98 rfl (by decide) ?_
        refine S.iret dX12_most_100 rfl ?_
        rfl
      · exfalso; omega
    · refine S.aload_n (pc' := 45) dX12_most_44 rfl rfl rfl ?_
      refine S.getR (pc' := 48) dX12_most_45 rfl fX12_50 L_177 rf_177_30 ?_
      refine S.iload (pc' := 50) dX12_most_48 rfl rfl ?_
      refine S.iconst (pc' := 51) dX12_most_50 rfl ?_
      refine S.iast (pc' := 52) dX12_most_51 rfl L_190 (by omega) (by omega) ?_
      refine S.iload_n (pc' := 53) dX12_most_52 rfl rfl rfl ?_
      refine S.iload (pc' := 55) dX12_most_53 rfl rfl ?_
      refine S.aload_n (pc' := 56) dX12_most_55 rfl rfl rfl ?_
      refine S.callVe (pc' := 59) dX12_most_56 rfl cX12_225 (ok_X12_visits) rfl L_177 (by decide) rfl (Nat.le_of_ble_eq_true rfl) ?_
      refine S.icmp_ge (pc' := 62) (tgt := 76) dX12_most_59 (by decide) rfl (by unfold fp_rng; omega) (by have q : fp_up N 190 i.toNat 0 178 95 = N 178 95 := rfl; rw [q, e8]; exact fp_rng0) (fun h59 => ?_) (fun h59 => ?_)
      · refine S.iconst (pc' := 77) dX12_most_76 rfl ?_
        refine S.iadd (pc' := 78) dX12_most_77 rfl ?_
        refine S.istore_n (pc' := 79) (LL' := [_, _, _, _, _, _, _, _]) dX12_most_78 rfl (by decide) rfl rfl rfl ?_
        refine S.iinc (pc' := 82) (LL' := [_, _, _, _, _, _, _, _]) dX12_most_79 rfl (by decide) rfl rfl rfl ?_
        refine S.goto (pc' := 37) dX12_most_82 (by decide) ?_
        exact ih (i + 1) _ _ _ _ _ (by omega) (by omega) (by omega) (by omega) (fun c hc => by rw [← hN c hc]; simp [fp_upM, hc])
      · exfalso; have q : fp_up N 190 i.toNat 0 178 95 = N 178 95 := rfl; rw [q, e8] at h59; omega
theorem m0_most {p w : Int} (hc : MS M tp fl g pg vs nt im sh tn) (ho : OK g pg vs nt im sh) (h0 : g.2.1 = 0) (hvl : (vs.length : Int) = 0) (hp : fp_rng p) (hw : fp_rng w) : fp_Ok l G 2 kX12_most [rV G 177, iV p, iV w] M (qI fun z _ => z = A_most0 p w) := by
  obtain ⟨-, hd, hcl, hv, -⟩ := hc
  obtain ⟨hg, hP, -⟩ := ho
  have h5 : M 177 5 = 0 := by rw [hd.2.1, h0]
  have hv0 : M 178 95 = 0 := by rw [hv.1, hvl]
  have hw1 := hw.1
  have hw2 := hw.2
  refine fp_Ok.of (r := 5) rfl (Nat.le_of_ble_eq_true rfl) rfl ?_
  unfold A_most0
  by_cases hin : (0 ≤ p ∧ p < 4) ∧ w = 0
  · rw [if_pos hin]
    refine S.iload_n (pc' := 1) dX12_most_0 rfl rfl rfl ?_
    refine S.callSi (pc' := 4) dX12_most_1 rfl cX12_228 (bk_X12_isOne) rfl (by decide) rfl (Nat.le_of_ble_eq_true rfl) (fun z1 M1 q1 => ?_)
    obtain ⟨b1, rfl⟩ := q1
    refine S.if_eq (pc' := 7) (tgt := 30) dX12_most_4 (by decide) rfl (by unfold fp_rng; omega) (fun h4 => ?_) (fun h4 => ?_)
    · exfalso; omega
    · refine S.iload_n (pc' := 8) dX12_most_7 rfl rfl rfl ?_
      refine S.if_eq (pc' := 11) (tgt := 32) dX12_most_8 (by decide) rfl (by unfold fp_rng; omega) (fun h8 => ?_) (fun h8 => ?_)
      · refine S.iconst (pc' := 33) dX12_most_32 rfl ?_
        refine S.istore_n (pc' := 34) (LL' := [_, _, _, _, _, _, _, _]) dX12_most_33 rfl (by decide) rfl rfl rfl ?_
        refine S.iconst (pc' := 35) dX12_most_34 rfl ?_
        refine S.istore (pc' := 37) (LL' := [_, _, _, _, _, _, _, _]) dX12_most_35 rfl (by decide) rfl rfl ?_
        exact m0_most_i h5 hv0 hp hw 13 0 0 _ _ _ _ (by omega) (by omega) (by omega) rfl (fun _ _ => rfl)
      · exfalso; omega
  · rw [if_neg hin]
    refine S.iload_n (pc' := 1) dX12_most_0 rfl rfl rfl ?_
    refine S.callSi (pc' := 4) dX12_most_1 rfl cX12_228 (bk_X12_isOne) rfl (by decide) rfl (Nat.le_of_ble_eq_true rfl) (fun z1 M1 q1 => ?_)
    obtain ⟨b1, rfl⟩ := q1
    refine S.if_eq (pc' := 7) (tgt := 30) dX12_most_4 (by decide) rfl (by unfold fp_rng; omega) (fun h4 => ?_) (fun h4 => ?_)
    · refine S.iconst (pc' := 31) dX12_most_30 rfl ?_
      refine S.iret dX12_most_31 rfl ?_
      rfl
    · refine S.iload_n (pc' := 8) dX12_most_7 rfl rfl rfl ?_
      refine S.if_eq (pc' := 11) (tgt := 32) dX12_most_8 (by decide) rfl (by unfold fp_rng; omega) (fun h8 => ?_) (fun h8 => ?_)
      · exfalso; omega
      · refine S.iload_n (pc' := 12) dX12_most_11 rfl rfl rfl ?_
        refine S.i2l (pc' := 13) dX12_most_12 rfl (by unfold fp_rng; omega) ?_
        refine S.ldc2 (pc' := 16) (v := 10) dX12_most_13 rfl lX12_212 (by decide) ?_
        refine S.bipush (pc' := 18) dX12_most_16 rfl (by decide) ?_
        refine S.aload_n (pc' := 19) dX12_most_18 rfl rfl rfl ?_
        refine S.callVe (pc' := 22) dX12_most_19 rfl cX12_225 (ok_X12_visits) rfl L_177 (by decide) rfl (Nat.le_of_ble_eq_true rfl) ?_
        refine S.iadd (pc' := 23) dX12_most_22 rfl ?_
        refine S.i2l (pc' := 24) dX12_most_23 rfl (by rw [hv0]; unfold fp_rng; omega) ?_
        refine S.callSi (pc' := 27) dX12_most_24 rfl cX12_94 (bk_X12_in (fp_rng_lng hw) (by unfold fp_lng; omega) (by rw [hv0]; unfold fp_lng; omega)) rfl (by decide) rfl (Nat.le_of_ble_eq_true rfl) (fun z24 M24 q24 => ?_)
        obtain ⟨b24, rfl⟩ := q24
        rw [hv0] at b24
        refine S.if_ne (pc' := 30) (tgt := 32) dX12_most_27 (by decide) rfl (by unfold fp_rng; omega) (fun h27 => ?_) (fun h27 => ?_)
        · exfalso; omega
        · refine S.iconst (pc' := 31) dX12_most_30 rfl ?_
          refine S.iret dX12_most_31 rfl ?_
          rfl
end FIV
