/-! odds, likeliest: the class -/
section COD
variable {l : Launch} {G : fp_WG} {M N : fp_Mem} {tp : List Int} {fl : Int} {g : aGd} {pg : aPg} {vs : List aVt} {nt : List Int} {im : aIm} {sh : aSh} {tn : Int}
theorem cc_odds {x t b : Int} (hc : CS M tp fl g pg vs nt im sh tn) (ho : OK g pg vs nt im sh) (hxr : fp_rng x) (htr : fp_rng t) (hbr : fp_rng b) : fp_Ok l G 15 kX11_odds [rV G 0, iV x, iV t, iV b] M (qJ fun z N => z = A_odds g pg vs x t b ∧ CS N tp fl g pg vs nt im sh tn ∧ frC M N) := by
  have hcs := hc
  obtain ⟨-, hd, hcl, hv, -⟩ := hc
  obtain ⟨hg, hP, hvo, -⟩ := ho
  have hl1 := hv.1
  have hl := hv.2.1
  have hg1 := hg.1
  have hg2 := hg.2.1
  refine fp_Ok.of (r := 6) rfl (Nat.le_of_ble_eq_true rfl) rfl ?_
  unfold A_odds
  by_cases hin : ((0 ≤ x ∧ x < g.2.1) ∧ (0 ≤ t ∧ t < g.1)) ∧ (0 ≤ b ∧ b ≤ 1)
  · rw [if_pos hin]
    by_cases h10 : 10 < vs.length
    · rw [if_pos h10]
      refine S.aload_n (pc' := 1) dX11_odds_0 rfl rfl rfl ?_
      refine S.getR (pc' := 4) dX11_odds_1 rfl fX11_23 L_0 rf_0_3 ?_
      refine S.iload_n (pc' := 5) dX11_odds_4 rfl rfl rfl ?_
      refine S.callVi (pc' := 8) dX11_odds_5 rfl cX11_148 (bk_X1_hasLine gd18) rfl (gd_lay gd18) (by decide) rfl (Nat.le_of_ble_eq_true rfl) (fun z5 M5 q5 => ?_)
      obtain ⟨b5, rfl⟩ := q5
      refine S.if_eq (pc' := 11) (tgt := 30) dX11_odds_8 (by decide) rfl (by unfold fp_rng; omega) (fun h8 => ?_) (fun h8 => ?_)
      · exfalso; omega
      · refine S.aload_n (pc' := 12) dX11_odds_11 rfl rfl rfl ?_
        refine S.getR (pc' := 15) dX11_odds_12 rfl fX11_23 L_0 rf_0_3 ?_
        refine S.iload_n (pc' := 16) dX11_odds_15 rfl rfl rfl ?_
        refine S.callVi (pc' := 19) dX11_odds_16 rfl cX11_126 (bk_X1_hasThing gd18) rfl (gd_lay gd18) (by decide) rfl (Nat.le_of_ble_eq_true rfl) (fun z16 M16 q16 => ?_)
        obtain ⟨b16, rfl⟩ := q16
        refine S.if_eq (pc' := 22) (tgt := 30) dX11_odds_19 (by decide) rfl (by unfold fp_rng; omega) (fun h19 => ?_) (fun h19 => ?_)
        · exfalso; omega
        · refine S.iload_n (pc' := 23) dX11_odds_22 rfl rfl rfl ?_
          refine S.iconst (pc' := 24) dX11_odds_23 rfl ?_
          refine S.callSi (pc' := 27) dX11_odds_24 rfl cX11_221 (bk_X11_isWithin) rfl (by decide) rfl (Nat.le_of_ble_eq_true rfl) (fun z24 M24 q24 => ?_)
          obtain ⟨b24, rfl⟩ := q24
          refine S.if_ne (pc' := 30) (tgt := 34) dX11_odds_27 (by decide) rfl (by unfold fp_rng; omega) (fun h27 => ?_) (fun h27 => ?_)
          · refine S.aload_n (pc' := 35) dX11_odds_34 rfl rfl rfl ?_
            refine S.getR (pc' := 38) dX11_odds_35 rfl fX11_37 L_0 rf_0_5 ?_
            refine S.getI (pc' := 41) dX11_odds_38 rfl fX11_205 (vs_lay vs27) ?_
            refine S.bipush (pc' := 43) dX11_odds_41 rfl (by decide) ?_
            refine S.icmp_le (pc' := 46) (tgt := 50) dX11_odds_43 (by decide) rfl (by unfold fp_rng; omega) (by unfold fp_rng; omega) (fun h43 => ?_) (fun h43 => ?_)
            · exfalso; omega
            · refine S.ldc2 (pc' := 49) (v := -2) dX11_odds_46 rfl lX11_254 (by decide) ?_
              refine S.lret dX11_odds_49 rfl ?_
              exact ⟨rfl, hcs, frC.refl _⟩
          · exfalso; omega
    · rw [if_neg h10]
      have hF := (chF_in (x := x) hg hP hvo (by omega) t (2 ^ vs.length)).1
      have hW := chF_whole (x := x) (t := t) hg hP hvo
      have hp10 := pow10_le (show vs.length ≤ 10 by omega)
      have hp0 : (0 : Int) < 10 ^ vs.length := Int.pow_pos (by decide)
      have hT : ∃ T, 2 ^ vs.length = T := ⟨_, rfl⟩
      obtain ⟨T, hT⟩ := hT
      rw [hT] at hF hW ⊢
      have eF : ∃ F, chF g pg vs x T t = F := ⟨_, rfl⟩
      obtain ⟨F, eF⟩ := eF
      have ew : ∃ W, (10 : Int) ^ vs.length = W := ⟨_, rfl⟩
      obtain ⟨W, ew⟩ := ew
      rw [eF] at hF hW ⊢
      rw [ew] at hW hp10 hp0 ⊢
      rw [Nat.gcd_comm F.toNat W.toNat]
      have hD : 0 < ((Nat.gcd W.toNat F.toNat : Nat) : Int) ∧ ((Nat.gcd W.toNat F.toNat : Nat) : Int) ≤ W := by
        have a1 : 0 < Nat.gcd W.toNat F.toNat := Nat.gcd_pos_of_pos_left _ (by omega)
        have a2 : Nat.gcd W.toNat F.toNat ≤ W.toNat := Nat.gcd_le_left _ (by omega)
        omega
      refine S.aload_n (pc' := 1) dX11_odds_0 rfl rfl rfl ?_
      refine S.getR (pc' := 4) dX11_odds_1 rfl fX11_23 L_0 rf_0_3 ?_
      refine S.iload_n (pc' := 5) dX11_odds_4 rfl rfl rfl ?_
      refine S.callVi (pc' := 8) dX11_odds_5 rfl cX11_148 (bk_X1_hasLine gd18) rfl (gd_lay gd18) (by decide) rfl (Nat.le_of_ble_eq_true rfl) (fun z5 M5 q5 => ?_)
      obtain ⟨b5, rfl⟩ := q5
      refine S.if_eq (pc' := 11) (tgt := 30) dX11_odds_8 (by decide) rfl (by unfold fp_rng; omega) (fun h8 => ?_) (fun h8 => ?_)
      · exfalso; omega
      · refine S.aload_n (pc' := 12) dX11_odds_11 rfl rfl rfl ?_
        refine S.getR (pc' := 15) dX11_odds_12 rfl fX11_23 L_0 rf_0_3 ?_
        refine S.iload_n (pc' := 16) dX11_odds_15 rfl rfl rfl ?_
        refine S.callVi (pc' := 19) dX11_odds_16 rfl cX11_126 (bk_X1_hasThing gd18) rfl (gd_lay gd18) (by decide) rfl (Nat.le_of_ble_eq_true rfl) (fun z16 M16 q16 => ?_)
        obtain ⟨b16, rfl⟩ := q16
        refine S.if_eq (pc' := 22) (tgt := 30) dX11_odds_19 (by decide) rfl (by unfold fp_rng; omega) (fun h19 => ?_) (fun h19 => ?_)
        · exfalso; omega
        · refine S.iload_n (pc' := 23) dX11_odds_22 rfl rfl rfl ?_
          refine S.iconst (pc' := 24) dX11_odds_23 rfl ?_
          refine S.callSi (pc' := 27) dX11_odds_24 rfl cX11_221 (bk_X11_isWithin) rfl (by decide) rfl (Nat.le_of_ble_eq_true rfl) (fun z24 M24 q24 => ?_)
          obtain ⟨b24, rfl⟩ := q24
          refine S.if_ne (pc' := 30) (tgt := 34) dX11_odds_27 (by decide) rfl (by unfold fp_rng; omega) (fun h27 => ?_) (fun h27 => ?_)
          · refine S.aload_n (pc' := 35) dX11_odds_34 rfl rfl rfl ?_
            refine S.getR (pc' := 38) dX11_odds_35 rfl fX11_37 L_0 rf_0_5 ?_
            refine S.getI (pc' := 41) dX11_odds_38 rfl fX11_205 (vs_lay vs27) ?_
            refine S.bipush (pc' := 43) dX11_odds_41 rfl (by decide) ?_
            refine S.icmp_le (pc' := 46) (tgt := 50) dX11_odds_43 (by decide) rfl (by unfold fp_rng; omega) (by unfold fp_rng; omega) (fun h43 => ?_) (fun h43 => ?_)
            · refine S.aload_n (pc' := 51) dX11_odds_50 rfl rfl rfl ?_
              refine S.getR (pc' := 54) dX11_odds_51 rfl fX11_51 L_0 rf_0_7 ?_
              refine S.aload_n (pc' := 55) dX11_odds_54 rfl rfl rfl ?_
              refine S.getR (pc' := 58) dX11_odds_55 rfl fX11_23 L_0 rf_0_3 ?_
              refine S.aload_n (pc' := 59) dX11_odds_58 rfl rfl rfl ?_
              refine S.getR (pc' := 62) dX11_odds_59 rfl fX11_37 L_0 rf_0_5 ?_
              refine S.aload_n (pc' := 63) dX11_odds_62 rfl rfl rfl ?_
              refine S.getR (pc' := 66) dX11_odds_63 rfl fX11_30 L_0 rf_0_4 ?_
              refine S.iload_n (pc' := 67) dX11_odds_66 rfl rfl rfl ?_
              refine S.callVj (pc' := 70) dX11_odds_67 rfl cX11_256 (rk_X8_findShares hg hP hvo (by omega) hin.1.1 hcl hd hv) rfl L_34 (by decide) rfl (Nat.le_of_ble_eq_true rfl) (fun z67 M67 q67 => ?_)
              obtain ⟨e1, r1, f1⟩ := q67
              rw [ew] at e1
              subst e1
              refine S.lstore (pc' := 72) (LL' := [_, _, _, _, _, _, _, _, _, _]) dX11_odds_70 rfl (by decide) rfl rfl (by decide) ?_
              refine S.aload_n (pc' := 73) dX11_odds_72 rfl rfl rfl ?_
              refine S.getR (pc' := 76) dX11_odds_73 rfl fX11_51 L_0 rf_0_7 ?_
              refine S.getR (pc' := 79) dX11_odds_76 rfl fX11_260 L_34 rf_34_6 ?_
              refine S.iload_n (pc' := 80) dX11_odds_79 rfl rfl rfl ?_
              refine S.lald (pc' := 81) dX11_odds_80 rfl L_40 (by omega) (by omega) ?_
              rw [r1 t (by omega) (by omega), hT, eF]
              refine S.lstore (pc' := 83) (LL' := [_, _, _, _, _, _, _, _, _, _]) dX11_odds_81 rfl (by decide) rfl rfl (by decide) ?_
              refine S.lload (pc' := 85) dX11_odds_83 rfl rfl ?_
              refine S.lload (pc' := 87) dX11_odds_85 rfl rfl ?_
              refine S.callSj (pc' := 90) dX11_odds_87 rfl cX11_264 (rk_X11_greatestDivisor (by omega) (by omega)) rfl (by decide) rfl (Nat.le_of_ble_eq_true rfl) (fun z87 M87 q87 => ?_)
              obtain ⟨rfl, rfl⟩ := q87
              refine S.lstore (pc' := 92) (LL' := [_, _, _, _, _, _, _, _, _, _]) dX11_odds_90 rfl (by decide) rfl rfl (by decide) ?_
              refine S.lload (pc' := 94) dX11_odds_92 rfl rfl ?_
              refine S.lconst (pc' := 95) (w := 0) dX11_odds_94 rfl rfl ?_
              refine S.lcmp (pc' := 96) dX11_odds_95 rfl (by unfold fp_lng; omega) (by unfold fp_lng; omega) ?_
              refine S.if_gt (pc' := 99) (tgt := 103) dX11_odds_96 (by decide) rfl (by unfold fp_rng; omega) (fun h96 => ?_) (fun h96 => ?_)
              · refine S.iload_n (pc' := 104) dX11_odds_103 rfl rfl rfl ?_
                refine S.if_ne (pc' := 107) (tgt := 115) dX11_odds_104 (by decide) rfl (by unfold fp_rng; omega) (fun h104 => ?_) (fun h104 => ?_)
                · refine S.lload (pc' := 117) dX11_odds_115 rfl rfl ?_
                  refine S.lload (pc' := 119) dX11_odds_117 rfl rfl ?_
                  refine S.ldiv (pc' := 120) dX11_odds_119 rfl (fp_jne (by omega)) (fp_jdiv (by omega) (by omega)) ?_
                  refine S.lret dX11_odds_120 rfl ?_
                  first
                  | exact ⟨by rw [if_pos (by omega)], hcs.scz f1, f1.c⟩
                  | exact ⟨by rw [if_neg (by omega)], hcs.scz f1, f1.c⟩
                · refine S.lload (pc' := 109) dX11_odds_107 rfl rfl ?_
                  refine S.lload (pc' := 111) dX11_odds_109 rfl rfl ?_
                  refine S.ldiv (pc' := 112) dX11_odds_111 rfl (fp_jne (by omega)) (fp_jdiv (by omega) (by omega)) ?_
                  refine S.goto (pc' := 120) dX11_odds_112 (by decide) ?_
                  refine S.lret dX11_odds_120 rfl ?_
                  first
                  | exact ⟨by rw [if_pos (by omega)], hcs.scz f1, f1.c⟩
                  | exact ⟨by rw [if_neg (by omega)], hcs.scz f1, f1.c⟩
              · exfalso; omega
            · exfalso; omega
          · exfalso; omega
  · rw [if_neg hin]
    refine S.aload_n (pc' := 1) dX11_odds_0 rfl rfl rfl ?_
    refine S.getR (pc' := 4) dX11_odds_1 rfl fX11_23 L_0 rf_0_3 ?_
    refine S.iload_n (pc' := 5) dX11_odds_4 rfl rfl rfl ?_
    refine S.callVi (pc' := 8) dX11_odds_5 rfl cX11_148 (bk_X1_hasLine gd18) rfl (gd_lay gd18) (by decide) rfl (Nat.le_of_ble_eq_true rfl) (fun z5 M5 q5 => ?_)
    obtain ⟨b5, rfl⟩ := q5
    refine S.if_eq (pc' := 11) (tgt := 30) dX11_odds_8 (by decide) rfl (by unfold fp_rng; omega) (fun h8 => ?_) (fun h8 => ?_)
    · refine S.ldc2 (pc' := 33) (v := -1) dX11_odds_30 rfl lX11_252 (by decide) ?_
      refine S.lret dX11_odds_33 rfl ?_
      exact ⟨rfl, hcs, frC.refl _⟩
    · refine S.aload_n (pc' := 12) dX11_odds_11 rfl rfl rfl ?_
      refine S.getR (pc' := 15) dX11_odds_12 rfl fX11_23 L_0 rf_0_3 ?_
      refine S.iload_n (pc' := 16) dX11_odds_15 rfl rfl rfl ?_
      refine S.callVi (pc' := 19) dX11_odds_16 rfl cX11_126 (bk_X1_hasThing gd18) rfl (gd_lay gd18) (by decide) rfl (Nat.le_of_ble_eq_true rfl) (fun z16 M16 q16 => ?_)
      obtain ⟨b16, rfl⟩ := q16
      refine S.if_eq (pc' := 22) (tgt := 30) dX11_odds_19 (by decide) rfl (by unfold fp_rng; omega) (fun h19 => ?_) (fun h19 => ?_)
      · refine S.ldc2 (pc' := 33) (v := -1) dX11_odds_30 rfl lX11_252 (by decide) ?_
        refine S.lret dX11_odds_33 rfl ?_
        exact ⟨rfl, hcs, frC.refl _⟩
      · refine S.iload_n (pc' := 23) dX11_odds_22 rfl rfl rfl ?_
        refine S.iconst (pc' := 24) dX11_odds_23 rfl ?_
        refine S.callSi (pc' := 27) dX11_odds_24 rfl cX11_221 (bk_X11_isWithin) rfl (by decide) rfl (Nat.le_of_ble_eq_true rfl) (fun z24 M24 q24 => ?_)
        obtain ⟨b24, rfl⟩ := q24
        refine S.if_ne (pc' := 30) (tgt := 34) dX11_odds_27 (by decide) rfl (by unfold fp_rng; omega) (fun h27 => ?_) (fun h27 => ?_)
        · exfalso; omega
        · refine S.ldc2 (pc' := 33) (v := -1) dX11_odds_30 rfl lX11_252 (by decide) ?_
          refine S.lret dX11_odds_33 rfl ?_
          exact ⟨rfl, hcs, frC.refl _⟩
theorem clk_loop {x : Int} {F : Int → Int} (hF : ∀ t : Int, 0 ≤ t → t < 10 → M 40 t.toNat = F t ∧ 0 ≤ F t ∧ F t ≤ 10240000000000) (h4 : M 18 0 = g.1) (hg : 0 ≤ g.1 ∧ g.1 ≤ 10) : ∀ (r k : Nat), g.1.toNat - k < r → (k : Int) ≤ g.1 →
    fp_S l G 15 kX11_likeliest 58 [some (rV G 0), some (iV x), some (jV (if lkI F k = -4 then 0 else F (lkI F k))), none, some (iV (lkI F k)), some (iV (k : Int))] [] M (qI fun z N => z = lkI F g.1.toNat ∧ N = M) := by
  intro r
  induction r with
  | zero => intro k hr; omega
  | succ r ih =>
    intro k hr hk
    have hin := lkI_in F k
    by_cases he : (k : Int) < g.1
    · obtain ⟨f1, f2, f3⟩ := hF k (by omega) (by omega)
      have hgr : 0 ≤ (if lkI F k = -4 then 0 else F (lkI F k)) ∧ (if lkI F k = -4 then 0 else F (lkI F k)) ≤ 10240000000000 := by
        by_cases e : lkI F k = -4
        · rw [if_pos e]; omega
        · rw [if_neg e]
          have := hF (lkI F k) (by omega) (by omega)
          omega
      have hs1 : lkI F (k + 1) = if (if lkI F k = -4 then 0 else F (lkI F k)) < F k then (k : Int) else lkI F k := rfl
      have hi := ih (k + 1) (by omega) (by omega)
      have hgg : ∃ gr, (if lkI F k = -4 then 0 else F (lkI F k)) = gr := ⟨_, rfl⟩
      obtain ⟨gr, hgg⟩ := hgg
      rw [hgg] at hgr hs1 ⊢
      by_cases hb : gr < F k
      · rw [if_pos hb] at hs1
        rw [hs1, if_neg (show ¬ (k : Int) = -4 by omega)] at hi
        have h100 : fp_S l G 15 kX11_likeliest 100 [some (rV G 0), some (iV x), some (jV (F k)), none, some (iV (k : Int)), some (iV (k : Int))] [] M (qI fun z N => z = lkI F g.1.toNat ∧ N = M) := by
          refine S.iinc (pc' := 103) (LL' := [_, _, _, _, _, _]) dX11_likeliest_100 rfl (by decide) rfl rfl rfl ?_
          refine S.goto (pc' := 58) dX11_likeliest_103 (by decide) ?_
          rw [show ((k : Int) + 1) = ((k + 1 : Nat) : Int) by omega]
          exact hi
        refine S.iload (pc' := 60) dX11_likeliest_58 rfl rfl ?_
        refine S.aload_n (pc' := 61) dX11_likeliest_60 rfl rfl rfl ?_
        refine S.getR (pc' := 64) dX11_likeliest_61 rfl fX11_23 L_0 rf_0_3 ?_
        refine S.getI (pc' := 67) dX11_likeliest_64 rfl fX11_268 (gd_lay gd18) ?_
        rw [h4]
        refine S.icmp_ge (pc' := 70) (tgt := 106) dX11_likeliest_67 (by decide) rfl (by unfold fp_rng; omega) (by unfold fp_rng; omega) (fun h67 => ?_) (fun h67 => ?_)
        · exfalso; omega
        · refine S.aload_n (pc' := 71) dX11_likeliest_70 rfl rfl rfl ?_
          refine S.getR (pc' := 74) dX11_likeliest_71 rfl fX11_51 L_0 rf_0_7 ?_
          refine S.getR (pc' := 77) dX11_likeliest_74 rfl fX11_260 L_34 rf_34_6 ?_
          refine S.iload (pc' := 79) dX11_likeliest_77 rfl rfl ?_
          refine S.lald (pc' := 80) dX11_likeliest_79 rfl L_40 (by omega) (by omega) ?_
          rw [f1]
          refine S.lload_n (pc' := 81) dX11_likeliest_80 rfl rfl rfl ?_
          refine S.lcmp (pc' := 82) dX11_likeliest_81 rfl (by unfold fp_lng; omega) (by unfold fp_lng; omega) ?_
          refine S.if_le (pc' := 85) (tgt := 100) dX11_likeliest_82 (by decide) rfl (by unfold fp_rng; omega) (fun h82 => ?_) (fun h82 => ?_)
          · first
            | (exfalso; omega)
            | exact h100
          · refine S.aload_n (pc' := 86) dX11_likeliest_85 rfl rfl rfl ?_
            refine S.getR (pc' := 89) dX11_likeliest_86 rfl fX11_51 L_0 rf_0_7 ?_
            refine S.getR (pc' := 92) dX11_likeliest_89 rfl fX11_260 L_34 rf_34_6 ?_
            refine S.iload (pc' := 94) dX11_likeliest_92 rfl rfl ?_
            refine S.lald (pc' := 95) dX11_likeliest_94 rfl L_40 (by omega) (by omega) ?_
            rw [f1]
            refine S.lstore_n (pc' := 96) (LL' := [_, _, _, _, _, _]) dX11_likeliest_95 rfl (by decide) rfl rfl rfl (by decide) ?_
            refine S.iload (pc' := 98) dX11_likeliest_96 rfl rfl ?_
            refine S.istore (pc' := 100) (LL' := [_, _, _, _, _, _]) dX11_likeliest_98 rfl (by decide) rfl rfl ?_
            first
            | (exfalso; omega)
            | exact h100
      · rw [if_neg hb] at hs1
        rw [hs1, hgg] at hi
        refine S.iload (pc' := 60) dX11_likeliest_58 rfl rfl ?_
        refine S.aload_n (pc' := 61) dX11_likeliest_60 rfl rfl rfl ?_
        refine S.getR (pc' := 64) dX11_likeliest_61 rfl fX11_23 L_0 rf_0_3 ?_
        refine S.getI (pc' := 67) dX11_likeliest_64 rfl fX11_268 (gd_lay gd18) ?_
        rw [h4]
        refine S.icmp_ge (pc' := 70) (tgt := 106) dX11_likeliest_67 (by decide) rfl (by unfold fp_rng; omega) (by unfold fp_rng; omega) (fun h67 => ?_) (fun h67 => ?_)
        · exfalso; omega
        · refine S.aload_n (pc' := 71) dX11_likeliest_70 rfl rfl rfl ?_
          refine S.getR (pc' := 74) dX11_likeliest_71 rfl fX11_51 L_0 rf_0_7 ?_
          refine S.getR (pc' := 77) dX11_likeliest_74 rfl fX11_260 L_34 rf_34_6 ?_
          refine S.iload (pc' := 79) dX11_likeliest_77 rfl rfl ?_
          refine S.lald (pc' := 80) dX11_likeliest_79 rfl L_40 (by omega) (by omega) ?_
          rw [f1]
          refine S.lload_n (pc' := 81) dX11_likeliest_80 rfl rfl rfl ?_
          refine S.lcmp (pc' := 82) dX11_likeliest_81 rfl (by unfold fp_lng; omega) (by unfold fp_lng; omega) ?_
          refine S.if_le (pc' := 85) (tgt := 100) dX11_likeliest_82 (by decide) rfl (by unfold fp_rng; omega) (fun h82 => ?_) (fun h82 => ?_)
          · refine S.iinc (pc' := 103) (LL' := [_, _, _, _, _, _]) dX11_likeliest_100 rfl (by decide) rfl rfl rfl ?_
            refine S.goto (pc' := 58) dX11_likeliest_103 (by decide) ?_
            rw [show ((k : Int) + 1) = ((k + 1 : Nat) : Int) by omega]
            exact hi
          · exfalso; omega
    · have e : g.1.toNat = k := by omega
      rw [e]
      refine S.iload (pc' := 60) dX11_likeliest_58 rfl rfl ?_
      refine S.aload_n (pc' := 61) dX11_likeliest_60 rfl rfl rfl ?_
      refine S.getR (pc' := 64) dX11_likeliest_61 rfl fX11_23 L_0 rf_0_3 ?_
      refine S.getI (pc' := 67) dX11_likeliest_64 rfl fX11_268 (gd_lay gd18) ?_
      rw [h4]
      refine S.icmp_ge (pc' := 70) (tgt := 106) dX11_likeliest_67 (by decide) rfl (by unfold fp_rng; omega) (by unfold fp_rng; omega) (fun h67 => ?_) (fun h67 => ?_)
      · refine S.iload (pc' := 108) dX11_likeliest_106 rfl rfl ?_
        refine S.iret dX11_likeliest_108 rfl ?_
        exact ⟨rfl, rfl⟩
      · exfalso; omega
theorem cc_likeliest {x : Int} (hc : CS M tp fl g pg vs nt im sh tn) (ho : OK g pg vs nt im sh) (hxr : fp_rng x) : fp_Ok l G 15 kX11_likeliest [rV G 0, iV x] M (qI fun z N => z = A_likeliest g pg vs x ∧ CS N tp fl g pg vs nt im sh tn ∧ frC M N) := by
  have hcs := hc
  obtain ⟨-, hd, hcl, hv, -⟩ := hc
  obtain ⟨hg, hP, hvo, -⟩ := ho
  have hl1 := hv.1
  have hl := hv.2.1
  have hg1 := hg.1
  have hg2 := hg.2.1
  refine fp_Ok.of (r := 4) rfl (Nat.le_of_ble_eq_true rfl) rfl ?_
  unfold A_likeliest
  by_cases hx : 0 ≤ x ∧ x < g.2.1
  · rw [if_pos hx]
    by_cases h10 : 10 < vs.length
    · rw [if_pos h10]
      refine S.aload_n (pc' := 1) dX11_likeliest_0 rfl rfl rfl ?_
      refine S.getR (pc' := 4) dX11_likeliest_1 rfl fX11_23 L_0 rf_0_3 ?_
      refine S.iload_n (pc' := 5) dX11_likeliest_4 rfl rfl rfl ?_
      refine S.callVi (pc' := 8) dX11_likeliest_5 rfl cX11_148 (bk_X1_hasLine gd18) rfl (gd_lay gd18) (by decide) rfl (Nat.le_of_ble_eq_true rfl) (fun z5 M5 q5 => ?_)
      obtain ⟨b5, rfl⟩ := q5
      refine S.if_ne (pc' := 11) (tgt := 13) dX11_likeliest_8 (by decide) rfl (by unfold fp_rng; omega) (fun h8 => ?_) (fun h8 => ?_)
      · refine S.aload_n (pc' := 14) dX11_likeliest_13 rfl rfl rfl ?_
        refine S.getR (pc' := 17) dX11_likeliest_14 rfl fX11_37 L_0 rf_0_5 ?_
        refine S.getI (pc' := 20) dX11_likeliest_17 rfl fX11_205 (vs_lay vs27) ?_
        refine S.bipush (pc' := 22) dX11_likeliest_20 rfl (by decide) ?_
        refine S.icmp_le (pc' := 25) (tgt := 28) dX11_likeliest_22 (by decide) rfl (by unfold fp_rng; omega) (by unfold fp_rng; omega) (fun h22 => ?_) (fun h22 => ?_)
        · exfalso; omega
        · refine S.bipush (pc' := 27) dX11_likeliest_25 rfl (by decide) ?_
          refine S.iret dX11_likeliest_27 rfl ?_
          exact ⟨rfl, hcs, frC.refl _⟩
      · exfalso; omega
    · rw [if_neg h10]
      have hF := fun t => chF_in (x := x) hg hP hvo (by omega) t (2 ^ vs.length)
      have h1024 : ((2 ^ vs.length : Nat) : Int) ≤ 1024 := by
        have q : ∀ n : Nat, n < 11 → ((2 ^ n : Nat) : Int) ≤ 1024 := by decide +kernel
        exact q _ (by omega)
      have hT : ∃ T, 2 ^ vs.length = T := ⟨_, rfl⟩
      obtain ⟨T, hT⟩ := hT
      rw [hT] at h1024 hF ⊢
      refine S.aload_n (pc' := 1) dX11_likeliest_0 rfl rfl rfl ?_
      refine S.getR (pc' := 4) dX11_likeliest_1 rfl fX11_23 L_0 rf_0_3 ?_
      refine S.iload_n (pc' := 5) dX11_likeliest_4 rfl rfl rfl ?_
      refine S.callVi (pc' := 8) dX11_likeliest_5 rfl cX11_148 (bk_X1_hasLine gd18) rfl (gd_lay gd18) (by decide) rfl (Nat.le_of_ble_eq_true rfl) (fun z5 M5 q5 => ?_)
      obtain ⟨b5, rfl⟩ := q5
      refine S.if_ne (pc' := 11) (tgt := 13) dX11_likeliest_8 (by decide) rfl (by unfold fp_rng; omega) (fun h8 => ?_) (fun h8 => ?_)
      · refine S.aload_n (pc' := 14) dX11_likeliest_13 rfl rfl rfl ?_
        refine S.getR (pc' := 17) dX11_likeliest_14 rfl fX11_37 L_0 rf_0_5 ?_
        refine S.getI (pc' := 20) dX11_likeliest_17 rfl fX11_205 (vs_lay vs27) ?_
        refine S.bipush (pc' := 22) dX11_likeliest_20 rfl (by decide) ?_
        refine S.icmp_le (pc' := 25) (tgt := 28) dX11_likeliest_22 (by decide) rfl (by unfold fp_rng; omega) (by unfold fp_rng; omega) (fun h22 => ?_) (fun h22 => ?_)
        · refine S.aload_n (pc' := 29) dX11_likeliest_28 rfl rfl rfl ?_
          refine S.getR (pc' := 32) dX11_likeliest_29 rfl fX11_51 L_0 rf_0_7 ?_
          refine S.aload_n (pc' := 33) dX11_likeliest_32 rfl rfl rfl ?_
          refine S.getR (pc' := 36) dX11_likeliest_33 rfl fX11_23 L_0 rf_0_3 ?_
          refine S.aload_n (pc' := 37) dX11_likeliest_36 rfl rfl rfl ?_
          refine S.getR (pc' := 40) dX11_likeliest_37 rfl fX11_37 L_0 rf_0_5 ?_
          refine S.aload_n (pc' := 41) dX11_likeliest_40 rfl rfl rfl ?_
          refine S.getR (pc' := 44) dX11_likeliest_41 rfl fX11_30 L_0 rf_0_4 ?_
          refine S.iload_n (pc' := 45) dX11_likeliest_44 rfl rfl rfl ?_
          refine S.callVj (pc' := 48) dX11_likeliest_45 rfl cX11_256 (rk_X8_findShares hg hP hvo (by omega) hx hcl hd hv) rfl L_34 (by decide) rfl (Nat.le_of_ble_eq_true rfl) (fun z45 M45 q45 => ?_)
          obtain ⟨e1, r1, f1⟩ := q45
          refine S.pop2l (pc' := 49) dX11_likeliest_48 rfl rfl ?_
          refine S.lconst (pc' := 50) (w := 0) dX11_likeliest_49 rfl rfl ?_
          refine S.lstore_n (pc' := 51) (LL' := [_, _, _, _, _, _]) dX11_likeliest_50 rfl (by decide) rfl rfl rfl (by decide) ?_
          refine S.bipush (pc' := 53) dX11_likeliest_51 rfl (by decide) ?_
          refine S.istore (pc' := 55) (LL' := [_, _, _, _, _, _]) dX11_likeliest_53 rfl (by decide) rfl rfl ?_
          refine S.iconst (pc' := 56) dX11_likeliest_55 rfl ?_
          refine S.istore (pc' := 58) (LL' := [_, _, _, _, _, _]) dX11_likeliest_56 rfl (by decide) rfl rfl ?_
          refine fp_S.wI (clk_loop (F := chF g pg vs x T) (g := g) (fun t t0 t1 => ⟨by rw [r1 t t0 t1, hT], (hF t).1, by have := (hF t).2; omega⟩) (by rw [f1 18 (by omega)]; exact hd.1) hg1 11 0 (by omega) (by omega)) (fun z N q => ?_)
          obtain ⟨rfl, rfl⟩ := q
          exact ⟨rfl, hcs.scz f1, f1.c⟩
        · exfalso; omega
      · exfalso; omega
  · rw [if_neg hx]
    refine S.aload_n (pc' := 1) dX11_likeliest_0 rfl rfl rfl ?_
    refine S.getR (pc' := 4) dX11_likeliest_1 rfl fX11_23 L_0 rf_0_3 ?_
    refine S.iload_n (pc' := 5) dX11_likeliest_4 rfl rfl rfl ?_
    refine S.callVi (pc' := 8) dX11_likeliest_5 rfl cX11_148 (bk_X1_hasLine gd18) rfl (gd_lay gd18) (by decide) rfl (Nat.le_of_ble_eq_true rfl) (fun z5 M5 q5 => ?_)
    obtain ⟨b5, rfl⟩ := q5
    refine S.if_ne (pc' := 11) (tgt := 13) dX11_likeliest_8 (by decide) rfl (by unfold fp_rng; omega) (fun h8 => ?_) (fun h8 => ?_)
    · exfalso; omega
    · refine S.iconst (pc' := 12) dX11_likeliest_11 rfl ?_
      refine S.iret dX11_likeliest_12 rfl ?_
      exact ⟨rfl, hcs, frC.refl _⟩
end COD
