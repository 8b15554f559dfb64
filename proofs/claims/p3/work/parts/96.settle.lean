/-! BEHIND ALL: the VISITS; the whole text, the class -/
def vt2 (D : pD) (v : aVt) : Prop := (v.2.2.2 = -4 ∨ v.2.2.2 < D.1.1) ∧ v.2.2.1 < D.1.2.1
section SE2
variable {l : Launch} {G : fp_WG} {M N A : fp_Mem} {tp : List Int} {D : pD}
def svI (tp : List Int) (D : pD) (P : Prop) (A N : fp_Mem) (i : Int) : Prop := (∀ a, a ≠ 2 → N a = A a) ∧ (∀ j, j ≠ 3 → j ≠ 4 → N 2 j = A 2 j) ∧ ((P ∧ N 2 3 = 0 ∧ ∀ j : Int, 0 ≤ j → j < i → vt2 D (D.2.2.2.2.2.getD j.toNat aV0)) ∨ (¬ stOk D ∧ flt N (tp.length : Int)))
theorem svI_bad {P : Prop} {i : Int} (h : svI tp D P A N i) (hi : 0 ≤ i) (hl : i < (D.2.2.2.2.2.length : Int)) (hb : ¬ vt2 D (D.2.2.2.2.2.getD i.toNat aV0)) : svI tp D P A (fp_up (fp_up N 2 3 6) 2 4 (tp.length : Int)) (i + 1) := by
  obtain ⟨h1, h2, h3⟩ := h
  refine ⟨fun a ha => by rw [fp_up_ne ha, fp_up_ne ha]; exact h1 a ha, fun j q3 q4 => by rw [fp_up_at, fp_upf_ne q4, fp_up_at, fp_upf_ne q3]; exact h2 j q3 q4, Or.inr ⟨fun s => hb (s.2 _ ?_), flt_refuse (by omega)⟩⟩
  rw [List.getD_eq_getElem?_getD, List.getElem?_eq_getElem (by omega)]
  exact List.getElem_mem _
theorem svI_good {P : Prop} {i : Int} (h : svI tp D P A N i) (hb : vt2 D (D.2.2.2.2.2.getD i.toNat aV0)) : svI tp D P A N (i + 1) := by
  obtain ⟨h1, h2, h3⟩ := h
  refine ⟨h1, h2, ?_⟩
  rcases h3 with ⟨k1, k2, k3⟩ | h3
  · refine Or.inl ⟨k1, k2, fun j j0 j1 => ?_⟩
    by_cases e : j = i
    · subst e; exact hb
    · exact k3 j j0 (by omega)
  · exact Or.inr h3
theorem sv_loop {P : Prop} (hA3 : A 3 0 = D.1.1 ∧ A 3 1 = D.1.2.1) (hA6 : A 2 6 = (tp.length : Int)) (hv : vsIs A 12 D.2.2.2.2.2) (hD : dOk D) : ∀ (k : Nat) (i : Int) (N : fp_Mem) (o : Option Value), ((D.2.2.2.2.2.length : Int) - i).toNat = k → 0 ≤ i → i ≤ (D.2.2.2.2.2.length : Int) → svI tp D P A N i →
    fp_S l G 2 kX6_settle 61 [some (rV G 2), some (iV i), o] [] N (qV fun O => svI tp D P A O (D.2.2.2.2.2.length : Int)) := by
  have hg1 := hD.1.1
  have hg2 := hD.1.2.1
  have hvl := hD.2.2.2.2.2.2.1
  obtain ⟨v1, v2, v3⟩ := hv
  intro k
  induction k with
  | zero =>
    intro i N o hk i0 i1 hI
    have : i = (D.2.2.2.2.2.length : Int) := by omega
    subst this
    have e12 : N 12 0 = (D.2.2.2.2.2.length : Int) := by rw [hI.1 12 (by decide)]; exact v1
    refine S.iload_n (pc' := 62) dX6_settle_61 rfl rfl rfl ?_
    refine S.aload_n (pc' := 63) dX6_settle_62 rfl rfl rfl ?_
    refine S.getR (pc' := 66) dX6_settle_63 rfl fX6_28 L_2 rf_2_2 ?_
    refine S.getI (pc' := 69) dX6_settle_66 rfl fX6_57 (vs_lay vs12) ?_
    rw [e12]
    refine S.icmp_ge (pc' := 72) (tgt := 148) dX6_settle_69 (by decide) rfl (by unfold fp_rng; omega) (by unfold fp_rng; omega) (fun h69 => ?_) (fun h69 => ?_)
    · refine S.vret dX6_settle_148 rfl ?_
      exact hI
    · exfalso; omega
  | succ k ih =>
    intro i N o hk i0 i1 hI
    have e12 : N 12 0 = (D.2.2.2.2.2.length : Int) := by rw [hI.1 12 (by decide)]; exact v1
    obtain ⟨u1, u2, u3, u4⟩ := v3 i i0 (by omega)
    have hmem : D.2.2.2.2.2.getD i.toNat aV0 ∈ D.2.2.2.2.2 := by
      rw [List.getD_eq_getElem?_getD, List.getElem?_eq_getElem (by omega)]
      exact List.getElem_mem _
    have hvt := hD.2.2.2.2.2.2.2 _ hmem
    generalize hw : D.2.2.2.2.2.getD i.toNat aV0 = v at *
    have e16 : N 16 i.toNat = v.2.2.2 := by rw [hI.1 16 (by decide)]; exact u4
    have e15 : N 15 i.toNat = v.2.2.1 := by rw [hI.1 15 (by decide)]; exact u3
    have e30 : N 3 0 = D.1.1 := by rw [hI.1 3 (by decide)]; exact hA3.1
    have e31 : N 3 1 = D.1.2.1 := by rw [hI.1 3 (by decide)]; exact hA3.2
    have e26 : N 2 6 = (tp.length : Int) := by rw [hI.2.1 6 (by decide) (by decide)]; exact hA6
    obtain ⟨t1, t2, t3, t4⟩ := hvt
    have hisd := ok_X10_isDraw (l := l) (G := G) (M := N) (kv := 12) (i := i) vs12 (by omega) (by rw [e16]; unfold fp_rng; omega)
    rw [show N (12 + 4) i.toNat = v.2.2.2 from e16] at hisd
    have hth := ok_X1_hasThing (l := l) (G := G) (M := N) (t := v.2.2.2) gd3 (by unfold fp_rng; omega) (by rw [e30]; unfold fp_rng; omega)
    rw [e30] at hth
    have hli := ok_X1_hasLine (l := l) (G := G) (M := N) (t := v.2.2.1) gd3 (by unfold fp_rng; omega) (by rw [e31]; unfold fp_rng; omega)
    rw [e31] at hli
    have hgood : vt2 D v → svI tp D P A N (i + 1) := fun hb => svI_good hI (by rw [hw]; exact hb)
    have hbad : ¬ vt2 D v → svI tp D P A (fp_up (fp_up N 2 3 6) 2 4 (tp.length : Int)) (i + 1) := fun hb => svI_bad hI i0 (by omega) (by rw [hw]; exact hb)
    by_cases hl2 : v.2.2.1 < D.1.2.1
    · rw [if_pos (by omega)] at hli
      by_cases ht4 : v.2.2.2 = -4
      · rw [if_pos ht4] at hisd
        refine S.iload_n (pc' := 62) dX6_settle_61 rfl rfl rfl ?_
        refine S.aload_n (pc' := 63) dX6_settle_62 rfl rfl rfl ?_
        refine S.getR (pc' := 66) dX6_settle_63 rfl fX6_28 L_2 rf_2_2 ?_
        refine S.getI (pc' := 69) dX6_settle_66 rfl fX6_57 (vs_lay vs12) ?_
        rw [e12]
        refine S.icmp_ge (pc' := 72) (tgt := 148) dX6_settle_69 (by decide) rfl (by unfold fp_rng; omega) (by unfold fp_rng; omega) (fun h69 => ?_) (fun h69 => ?_)
        · exfalso; omega
        · refine S.aload_n (pc' := 73) dX6_settle_72 rfl rfl rfl ?_
          refine S.getR (pc' := 76) dX6_settle_73 rfl fX6_28 L_2 rf_2_2 ?_
          refine S.iload_n (pc' := 77) dX6_settle_76 rfl rfl rfl ?_
          refine S.callVe (pc' := 80) dX6_settle_77 rfl cX6_184 hisd rfl (vs_lay vs12) (by decide) rfl (Nat.le_of_ble_eq_true rfl) ?_
          refine S.if_ne (pc' := 83) (tgt := 102) dX6_settle_80 (by decide) rfl (by unfold fp_rng; omega) (fun h80 => ?_) (fun h80 => ?_)
          · refine S.iconst (pc' := 103) dX6_settle_102 rfl ?_
            refine S.goto (pc' := 107) dX6_settle_103 (by decide) ?_
            refine S.istore_n (pc' := 108) (LL' := [_, _, _]) dX6_settle_107 rfl (by decide) rfl rfl rfl ?_
            refine S.iload_n (pc' := 109) dX6_settle_108 rfl rfl rfl ?_
            refine S.if_eq (pc' := 112) (tgt := 131) dX6_settle_109 (by decide) rfl (by unfold fp_rng; omega) (fun h109 => ?_) (fun h109 => ?_)
            · first | exact absurd h109 (by decide) | exact absurd h128 (by decide) | (exfalso; omega)
            · refine S.aload_n (pc' := 113) dX6_settle_112 rfl rfl rfl ?_
              refine S.getR (pc' := 116) dX6_settle_113 rfl fX6_12 L_2 rf_2_0 ?_
              refine S.aload_n (pc' := 117) dX6_settle_116 rfl rfl rfl ?_
              refine S.getR (pc' := 120) dX6_settle_117 rfl fX6_28 L_2 rf_2_2 ?_
              refine S.getR (pc' := 123) dX6_settle_120 rfl fX6_193 (vs_lay vs12) (vs_r3 vs12) ?_
              refine S.iload_n (pc' := 124) dX6_settle_123 rfl rfl rfl ?_
              refine S.iald (pc' := 125) dX6_settle_124 rfl (vs_a3 vs12) (by omega) (by omega) ?_
              rw [e15]
              refine S.callVe (pc' := 128) dX6_settle_125 rfl cX6_196 hli rfl (gd_lay gd3) (by decide) rfl (Nat.le_of_ble_eq_true rfl) ?_
              refine S.if_ne (pc' := 131) (tgt := 142) dX6_settle_128 (by decide) rfl (by unfold fp_rng; omega) (fun h128 => ?_) (fun h128 => ?_)
              · refine S.iinc (pc' := 145) (LL' := [_, _, _]) dX6_settle_142 rfl (by decide) rfl rfl rfl ?_
                refine S.goto (pc' := 61) dX6_settle_145 (by decide) ?_
                exact ih (i + 1) _ _ (by omega) (by omega) (by omega) (hgood ⟨Or.inl ht4, hl2⟩)
              · first | exact absurd h109 (by decide) | exact absurd h128 (by decide) | (exfalso; omega)
          · exact absurd h80 (by decide)
      · rw [if_neg ht4] at hisd
        by_cases htg : v.2.2.2 < D.1.1
        · rw [if_pos (by omega)] at hth
          refine S.iload_n (pc' := 62) dX6_settle_61 rfl rfl rfl ?_
          refine S.aload_n (pc' := 63) dX6_settle_62 rfl rfl rfl ?_
          refine S.getR (pc' := 66) dX6_settle_63 rfl fX6_28 L_2 rf_2_2 ?_
          refine S.getI (pc' := 69) dX6_settle_66 rfl fX6_57 (vs_lay vs12) ?_
          rw [e12]
          refine S.icmp_ge (pc' := 72) (tgt := 148) dX6_settle_69 (by decide) rfl (by unfold fp_rng; omega) (by unfold fp_rng; omega) (fun h69 => ?_) (fun h69 => ?_)
          · exfalso; omega
          · refine S.aload_n (pc' := 73) dX6_settle_72 rfl rfl rfl ?_
            refine S.getR (pc' := 76) dX6_settle_73 rfl fX6_28 L_2 rf_2_2 ?_
            refine S.iload_n (pc' := 77) dX6_settle_76 rfl rfl rfl ?_
            refine S.callVe (pc' := 80) dX6_settle_77 rfl cX6_184 hisd rfl (vs_lay vs12) (by decide) rfl (Nat.le_of_ble_eq_true rfl) ?_
            refine S.if_ne (pc' := 83) (tgt := 102) dX6_settle_80 (by decide) rfl (by unfold fp_rng; omega) (fun h80 => ?_) (fun h80 => ?_)
            · refine S.iconst (pc' := 103) dX6_settle_102 rfl ?_
              refine S.goto (pc' := 107) dX6_settle_103 (by decide) ?_
              refine S.istore_n (pc' := 108) (LL' := [_, _, _]) dX6_settle_107 rfl (by decide) rfl rfl rfl ?_
              refine S.iload_n (pc' := 109) dX6_settle_108 rfl rfl rfl ?_
              refine S.if_eq (pc' := 112) (tgt := 131) dX6_settle_109 (by decide) rfl (by unfold fp_rng; omega) (fun h109 => ?_) (fun h109 => ?_)
              · first | exact absurd h109 (by decide) | exact absurd h128 (by decide) | exact absurd h99 (by decide) | (exfalso; omega)
              · refine S.aload_n (pc' := 113) dX6_settle_112 rfl rfl rfl ?_
                refine S.getR (pc' := 116) dX6_settle_113 rfl fX6_12 L_2 rf_2_0 ?_
                refine S.aload_n (pc' := 117) dX6_settle_116 rfl rfl rfl ?_
                refine S.getR (pc' := 120) dX6_settle_117 rfl fX6_28 L_2 rf_2_2 ?_
                refine S.getR (pc' := 123) dX6_settle_120 rfl fX6_193 (vs_lay vs12) (vs_r3 vs12) ?_
                refine S.iload_n (pc' := 124) dX6_settle_123 rfl rfl rfl ?_
                refine S.iald (pc' := 125) dX6_settle_124 rfl (vs_a3 vs12) (by omega) (by omega) ?_
                rw [e15]
                refine S.callVe (pc' := 128) dX6_settle_125 rfl cX6_196 hli rfl (gd_lay gd3) (by decide) rfl (Nat.le_of_ble_eq_true rfl) ?_
                refine S.if_ne (pc' := 131) (tgt := 142) dX6_settle_128 (by decide) rfl (by unfold fp_rng; omega) (fun h128 => ?_) (fun h128 => ?_)
                · refine S.iinc (pc' := 145) (LL' := [_, _, _]) dX6_settle_142 rfl (by decide) rfl rfl rfl ?_
                  refine S.goto (pc' := 61) dX6_settle_145 (by decide) ?_
                  exact ih (i + 1) _ _ (by omega) (by omega) (by omega) (hgood ⟨Or.inr htg, hl2⟩)
                · first | exact absurd h109 (by decide) | exact absurd h128 (by decide) | exact absurd h99 (by decide) | (exfalso; omega)
            · refine S.aload_n (pc' := 84) dX6_settle_83 rfl rfl rfl ?_
              refine S.getR (pc' := 87) dX6_settle_84 rfl fX6_12 L_2 rf_2_0 ?_
              refine S.aload_n (pc' := 88) dX6_settle_87 rfl rfl rfl ?_
              refine S.getR (pc' := 91) dX6_settle_88 rfl fX6_28 L_2 rf_2_2 ?_
              refine S.getR (pc' := 94) dX6_settle_91 rfl fX6_187 (vs_lay vs12) (vs_r4 vs12) ?_
              refine S.iload_n (pc' := 95) dX6_settle_94 rfl rfl rfl ?_
              refine S.iald (pc' := 96) dX6_settle_95 rfl (vs_a4 vs12) (by omega) (by omega) ?_
              rw [e16]
              refine S.callVe (pc' := 99) dX6_settle_96 rfl cX6_190 hth rfl (gd_lay gd3) (by decide) rfl (Nat.le_of_ble_eq_true rfl) ?_
              refine S.if_eq (pc' := 102) (tgt := 106) dX6_settle_99 (by decide) rfl (by unfold fp_rng; omega) (fun h99 => ?_) (fun h99 => ?_)
              · refine S.iconst (pc' := 107) dX6_settle_106 rfl ?_
                refine S.istore_n (pc' := 108) (LL' := [_, _, _]) dX6_settle_107 rfl (by decide) rfl rfl rfl ?_
                refine S.iload_n (pc' := 109) dX6_settle_108 rfl rfl rfl ?_
                refine S.if_eq (pc' := 112) (tgt := 131) dX6_settle_109 (by decide) rfl (by unfold fp_rng; omega) (fun h109 => ?_) (fun h109 => ?_)
                · first | exact absurd h109 (by decide) | exact absurd h128 (by decide) | exact absurd h99 (by decide) | (exfalso; omega)
                · refine S.aload_n (pc' := 113) dX6_settle_112 rfl rfl rfl ?_
                  refine S.getR (pc' := 116) dX6_settle_113 rfl fX6_12 L_2 rf_2_0 ?_
                  refine S.aload_n (pc' := 117) dX6_settle_116 rfl rfl rfl ?_
                  refine S.getR (pc' := 120) dX6_settle_117 rfl fX6_28 L_2 rf_2_2 ?_
                  refine S.getR (pc' := 123) dX6_settle_120 rfl fX6_193 (vs_lay vs12) (vs_r3 vs12) ?_
                  refine S.iload_n (pc' := 124) dX6_settle_123 rfl rfl rfl ?_
                  refine S.iald (pc' := 125) dX6_settle_124 rfl (vs_a3 vs12) (by omega) (by omega) ?_
                  rw [e15]
                  refine S.callVe (pc' := 128) dX6_settle_125 rfl cX6_196 hli rfl (gd_lay gd3) (by decide) rfl (Nat.le_of_ble_eq_true rfl) ?_
                  refine S.if_ne (pc' := 131) (tgt := 142) dX6_settle_128 (by decide) rfl (by unfold fp_rng; omega) (fun h128 => ?_) (fun h128 => ?_)
                  · refine S.iinc (pc' := 145) (LL' := [_, _, _]) dX6_settle_142 rfl (by decide) rfl rfl rfl ?_
                    refine S.goto (pc' := 61) dX6_settle_145 (by decide) ?_
                    exact ih (i + 1) _ _ (by omega) (by omega) (by omega) (hgood ⟨Or.inr htg, hl2⟩)
                  · first | exact absurd h109 (by decide) | exact absurd h128 (by decide) | exact absurd h99 (by decide) | (exfalso; omega)
              · refine S.iconst (pc' := 103) dX6_settle_102 rfl ?_
                refine S.goto (pc' := 107) dX6_settle_103 (by decide) ?_
                refine S.istore_n (pc' := 108) (LL' := [_, _, _]) dX6_settle_107 rfl (by decide) rfl rfl rfl ?_
                refine S.iload_n (pc' := 109) dX6_settle_108 rfl rfl rfl ?_
                refine S.if_eq (pc' := 112) (tgt := 131) dX6_settle_109 (by decide) rfl (by unfold fp_rng; omega) (fun h109 => ?_) (fun h109 => ?_)
                · first | exact absurd h109 (by decide) | exact absurd h128 (by decide) | exact absurd h99 (by decide) | (exfalso; omega)
                · refine S.aload_n (pc' := 113) dX6_settle_112 rfl rfl rfl ?_
                  refine S.getR (pc' := 116) dX6_settle_113 rfl fX6_12 L_2 rf_2_0 ?_
                  refine S.aload_n (pc' := 117) dX6_settle_116 rfl rfl rfl ?_
                  refine S.getR (pc' := 120) dX6_settle_117 rfl fX6_28 L_2 rf_2_2 ?_
                  refine S.getR (pc' := 123) dX6_settle_120 rfl fX6_193 (vs_lay vs12) (vs_r3 vs12) ?_
                  refine S.iload_n (pc' := 124) dX6_settle_123 rfl rfl rfl ?_
                  refine S.iald (pc' := 125) dX6_settle_124 rfl (vs_a3 vs12) (by omega) (by omega) ?_
                  rw [e15]
                  refine S.callVe (pc' := 128) dX6_settle_125 rfl cX6_196 hli rfl (gd_lay gd3) (by decide) rfl (Nat.le_of_ble_eq_true rfl) ?_
                  refine S.if_ne (pc' := 131) (tgt := 142) dX6_settle_128 (by decide) rfl (by unfold fp_rng; omega) (fun h128 => ?_) (fun h128 => ?_)
                  · refine S.iinc (pc' := 145) (LL' := [_, _, _]) dX6_settle_142 rfl (by decide) rfl rfl rfl ?_
                    refine S.goto (pc' := 61) dX6_settle_145 (by decide) ?_
                    exact ih (i + 1) _ _ (by omega) (by omega) (by omega) (hgood ⟨Or.inr htg, hl2⟩)
                  · first | exact absurd h109 (by decide) | exact absurd h128 (by decide) | exact absurd h99 (by decide) | (exfalso; omega)
        · rw [if_neg (by omega)] at hth
          refine S.iload_n (pc' := 62) dX6_settle_61 rfl rfl rfl ?_
          refine S.aload_n (pc' := 63) dX6_settle_62 rfl rfl rfl ?_
          refine S.getR (pc' := 66) dX6_settle_63 rfl fX6_28 L_2 rf_2_2 ?_
          refine S.getI (pc' := 69) dX6_settle_66 rfl fX6_57 (vs_lay vs12) ?_
          rw [e12]
          refine S.icmp_ge (pc' := 72) (tgt := 148) dX6_settle_69 (by decide) rfl (by unfold fp_rng; omega) (by unfold fp_rng; omega) (fun h69 => ?_) (fun h69 => ?_)
          · exfalso; omega
          · refine S.aload_n (pc' := 73) dX6_settle_72 rfl rfl rfl ?_
            refine S.getR (pc' := 76) dX6_settle_73 rfl fX6_28 L_2 rf_2_2 ?_
            refine S.iload_n (pc' := 77) dX6_settle_76 rfl rfl rfl ?_
            refine S.callVe (pc' := 80) dX6_settle_77 rfl cX6_184 hisd rfl (vs_lay vs12) (by decide) rfl (Nat.le_of_ble_eq_true rfl) ?_
            refine S.if_ne (pc' := 83) (tgt := 102) dX6_settle_80 (by decide) rfl (by unfold fp_rng; omega) (fun h80 => ?_) (fun h80 => ?_)
            · first | exact absurd rfl h99 | exact absurd rfl h80 | (exfalso; omega)
            · refine S.aload_n (pc' := 84) dX6_settle_83 rfl rfl rfl ?_
              refine S.getR (pc' := 87) dX6_settle_84 rfl fX6_12 L_2 rf_2_0 ?_
              refine S.aload_n (pc' := 88) dX6_settle_87 rfl rfl rfl ?_
              refine S.getR (pc' := 91) dX6_settle_88 rfl fX6_28 L_2 rf_2_2 ?_
              refine S.getR (pc' := 94) dX6_settle_91 rfl fX6_187 (vs_lay vs12) (vs_r4 vs12) ?_
              refine S.iload_n (pc' := 95) dX6_settle_94 rfl rfl rfl ?_
              refine S.iald (pc' := 96) dX6_settle_95 rfl (vs_a4 vs12) (by omega) (by omega) ?_
              rw [e16]
              refine S.callVe (pc' := 99) dX6_settle_96 rfl cX6_190 hth rfl (gd_lay gd3) (by decide) rfl (Nat.le_of_ble_eq_true rfl) ?_
              refine S.if_eq (pc' := 102) (tgt := 106) dX6_settle_99 (by decide) rfl (by unfold fp_rng; omega) (fun h99 => ?_) (fun h99 => ?_)
              · refine S.iconst (pc' := 107) dX6_settle_106 rfl ?_
                refine S.istore_n (pc' := 108) (LL' := [_, _, _]) dX6_settle_107 rfl (by decide) rfl rfl rfl ?_
                refine S.iload_n (pc' := 109) dX6_settle_108 rfl rfl rfl ?_
                refine S.if_eq (pc' := 112) (tgt := 131) dX6_settle_109 (by decide) rfl (by unfold fp_rng; omega) (fun h109 => ?_) (fun h109 => ?_)
                · refine S.aload_n (pc' := 132) dX6_settle_131 rfl rfl rfl ?_
                  refine S.bipush (pc' := 134) dX6_settle_132 rfl (by decide) ?_
                  refine S.aload_n (pc' := 135) dX6_settle_134 rfl rfl rfl ?_
                  refine S.getI (pc' := 138) dX6_settle_135 rfl fX6_36 L_2 ?_
                  rw [e26]
                  refine S.callVe (pc' := 141) dX6_settle_138 rfl cX6_89 ok_X6_refuse rfl L_2 (by decide) rfl (Nat.le_of_ble_eq_true rfl) ?_
                  refine S.pop (pc' := 142) dX6_settle_141 rfl rfl ?_
                  refine S.iinc (pc' := 145) (LL' := [_, _, _]) dX6_settle_142 rfl (by decide) rfl rfl rfl ?_
                  refine S.goto (pc' := 61) dX6_settle_145 (by decide) ?_
                  first | exact ih (i + 1) _ _ (by omega) (by omega) (by omega) (hbad (fun q => by rcases q.1 with z | z <;> omega)) | (exfalso; omega)
                · first | exact absurd rfl h109 | (exfalso; omega)
              · first | exact absurd rfl h99 | exact absurd rfl h80 | (exfalso; omega)
    · rw [if_neg (by omega)] at hli
      by_cases ht4 : v.2.2.2 = -4
      · rw [if_pos ht4] at hisd
        refine S.iload_n (pc' := 62) dX6_settle_61 rfl rfl rfl ?_
        refine S.aload_n (pc' := 63) dX6_settle_62 rfl rfl rfl ?_
        refine S.getR (pc' := 66) dX6_settle_63 rfl fX6_28 L_2 rf_2_2 ?_
        refine S.getI (pc' := 69) dX6_settle_66 rfl fX6_57 (vs_lay vs12) ?_
        rw [e12]
        refine S.icmp_ge (pc' := 72) (tgt := 148) dX6_settle_69 (by decide) rfl (by unfold fp_rng; omega) (by unfold fp_rng; omega) (fun h69 => ?_) (fun h69 => ?_)
        · exfalso; omega
        · refine S.aload_n (pc' := 73) dX6_settle_72 rfl rfl rfl ?_
          refine S.getR (pc' := 76) dX6_settle_73 rfl fX6_28 L_2 rf_2_2 ?_
          refine S.iload_n (pc' := 77) dX6_settle_76 rfl rfl rfl ?_
          refine S.callVe (pc' := 80) dX6_settle_77 rfl cX6_184 hisd rfl (vs_lay vs12) (by decide) rfl (Nat.le_of_ble_eq_true rfl) ?_
          refine S.if_ne (pc' := 83) (tgt := 102) dX6_settle_80 (by decide) rfl (by unfold fp_rng; omega) (fun h80 => ?_) (fun h80 => ?_)
          · refine S.iconst (pc' := 103) dX6_settle_102 rfl ?_
            refine S.goto (pc' := 107) dX6_settle_103 (by decide) ?_
            refine S.istore_n (pc' := 108) (LL' := [_, _, _]) dX6_settle_107 rfl (by decide) rfl rfl rfl ?_
            refine S.iload_n (pc' := 109) dX6_settle_108 rfl rfl rfl ?_
            refine S.if_eq (pc' := 112) (tgt := 131) dX6_settle_109 (by decide) rfl (by unfold fp_rng; omega) (fun h109 => ?_) (fun h109 => ?_)
            · refine S.aload_n (pc' := 132) dX6_settle_131 rfl rfl rfl ?_
              refine S.bipush (pc' := 134) dX6_settle_132 rfl (by decide) ?_
              refine S.aload_n (pc' := 135) dX6_settle_134 rfl rfl rfl ?_
              refine S.getI (pc' := 138) dX6_settle_135 rfl fX6_36 L_2 ?_
              rw [e26]
              refine S.callVe (pc' := 141) dX6_settle_138 rfl cX6_89 ok_X6_refuse rfl L_2 (by decide) rfl (Nat.le_of_ble_eq_true rfl) ?_
              refine S.pop (pc' := 142) dX6_settle_141 rfl rfl ?_
              refine S.iinc (pc' := 145) (LL' := [_, _, _]) dX6_settle_142 rfl (by decide) rfl rfl rfl ?_
              refine S.goto (pc' := 61) dX6_settle_145 (by decide) ?_
              first | exact ih (i + 1) _ _ (by omega) (by omega) (by omega) (hbad (fun q => hl2 q.2)) | exact absurd rfl h128 | (exfalso; omega)
            · refine S.aload_n (pc' := 113) dX6_settle_112 rfl rfl rfl ?_
              refine S.getR (pc' := 116) dX6_settle_113 rfl fX6_12 L_2 rf_2_0 ?_
              refine S.aload_n (pc' := 117) dX6_settle_116 rfl rfl rfl ?_
              refine S.getR (pc' := 120) dX6_settle_117 rfl fX6_28 L_2 rf_2_2 ?_
              refine S.getR (pc' := 123) dX6_settle_120 rfl fX6_193 (vs_lay vs12) (vs_r3 vs12) ?_
              refine S.iload_n (pc' := 124) dX6_settle_123 rfl rfl rfl ?_
              refine S.iald (pc' := 125) dX6_settle_124 rfl (vs_a3 vs12) (by omega) (by omega) ?_
              rw [e15]
              refine S.callVe (pc' := 128) dX6_settle_125 rfl cX6_196 hli rfl (gd_lay gd3) (by decide) rfl (Nat.le_of_ble_eq_true rfl) ?_
              refine S.if_ne (pc' := 131) (tgt := 142) dX6_settle_128 (by decide) rfl (by unfold fp_rng; omega) (fun h128 => ?_) (fun h128 => ?_)
              · refine S.iinc (pc' := 145) (LL' := [_, _, _]) dX6_settle_142 rfl (by decide) rfl rfl rfl ?_
                refine S.goto (pc' := 61) dX6_settle_145 (by decide) ?_
                first | exact ih (i + 1) _ _ (by omega) (by omega) (by omega) (hbad (fun q => hl2 q.2)) | exact absurd rfl h128 | (exfalso; omega)
              · refine S.aload_n (pc' := 132) dX6_settle_131 rfl rfl rfl ?_
                refine S.bipush (pc' := 134) dX6_settle_132 rfl (by decide) ?_
                refine S.aload_n (pc' := 135) dX6_settle_134 rfl rfl rfl ?_
                refine S.getI (pc' := 138) dX6_settle_135 rfl fX6_36 L_2 ?_
                rw [e26]
                refine S.callVe (pc' := 141) dX6_settle_138 rfl cX6_89 ok_X6_refuse rfl L_2 (by decide) rfl (Nat.le_of_ble_eq_true rfl) ?_
                refine S.pop (pc' := 142) dX6_settle_141 rfl rfl ?_
                refine S.iinc (pc' := 145) (LL' := [_, _, _]) dX6_settle_142 rfl (by decide) rfl rfl rfl ?_
                refine S.goto (pc' := 61) dX6_settle_145 (by decide) ?_
                first | exact ih (i + 1) _ _ (by omega) (by omega) (by omega) (hbad (fun q => hl2 q.2)) | exact absurd rfl h128 | (exfalso; omega)
          · exact absurd h80 (by decide)
      · rw [if_neg ht4] at hisd
        by_cases htg : v.2.2.2 < D.1.1
        · rw [if_pos (by omega)] at hth
          refine S.iload_n (pc' := 62) dX6_settle_61 rfl rfl rfl ?_
          refine S.aload_n (pc' := 63) dX6_settle_62 rfl rfl rfl ?_
          refine S.getR (pc' := 66) dX6_settle_63 rfl fX6_28 L_2 rf_2_2 ?_
          refine S.getI (pc' := 69) dX6_settle_66 rfl fX6_57 (vs_lay vs12) ?_
          rw [e12]
          refine S.icmp_ge (pc' := 72) (tgt := 148) dX6_settle_69 (by decide) rfl (by unfold fp_rng; omega) (by unfold fp_rng; omega) (fun h69 => ?_) (fun h69 => ?_)
          · exfalso; omega
          · refine S.aload_n (pc' := 73) dX6_settle_72 rfl rfl rfl ?_
            refine S.getR (pc' := 76) dX6_settle_73 rfl fX6_28 L_2 rf_2_2 ?_
            refine S.iload_n (pc' := 77) dX6_settle_76 rfl rfl rfl ?_
            refine S.callVe (pc' := 80) dX6_settle_77 rfl cX6_184 hisd rfl (vs_lay vs12) (by decide) rfl (Nat.le_of_ble_eq_true rfl) ?_
            refine S.if_ne (pc' := 83) (tgt := 102) dX6_settle_80 (by decide) rfl (by unfold fp_rng; omega) (fun h80 => ?_) (fun h80 => ?_)
            · refine S.iconst (pc' := 103) dX6_settle_102 rfl ?_
              refine S.goto (pc' := 107) dX6_settle_103 (by decide) ?_
              refine S.istore_n (pc' := 108) (LL' := [_, _, _]) dX6_settle_107 rfl (by decide) rfl rfl rfl ?_
              refine S.iload_n (pc' := 109) dX6_settle_108 rfl rfl rfl ?_
              refine S.if_eq (pc' := 112) (tgt := 131) dX6_settle_109 (by decide) rfl (by unfold fp_rng; omega) (fun h109 => ?_) (fun h109 => ?_)
              · refine S.aload_n (pc' := 132) dX6_settle_131 rfl rfl rfl ?_
                refine S.bipush (pc' := 134) dX6_settle_132 rfl (by decide) ?_
                refine S.aload_n (pc' := 135) dX6_settle_134 rfl rfl rfl ?_
                refine S.getI (pc' := 138) dX6_settle_135 rfl fX6_36 L_2 ?_
                rw [e26]
                refine S.callVe (pc' := 141) dX6_settle_138 rfl cX6_89 ok_X6_refuse rfl L_2 (by decide) rfl (Nat.le_of_ble_eq_true rfl) ?_
                refine S.pop (pc' := 142) dX6_settle_141 rfl rfl ?_
                refine S.iinc (pc' := 145) (LL' := [_, _, _]) dX6_settle_142 rfl (by decide) rfl rfl rfl ?_
                refine S.goto (pc' := 61) dX6_settle_145 (by decide) ?_
                first | exact ih (i + 1) _ _ (by omega) (by omega) (by omega) (hbad (fun q => hl2 q.2)) | exact absurd rfl h128 | (exfalso; omega)
              · refine S.aload_n (pc' := 113) dX6_settle_112 rfl rfl rfl ?_
                refine S.getR (pc' := 116) dX6_settle_113 rfl fX6_12 L_2 rf_2_0 ?_
                refine S.aload_n (pc' := 117) dX6_settle_116 rfl rfl rfl ?_
                refine S.getR (pc' := 120) dX6_settle_117 rfl fX6_28 L_2 rf_2_2 ?_
                refine S.getR (pc' := 123) dX6_settle_120 rfl fX6_193 (vs_lay vs12) (vs_r3 vs12) ?_
                refine S.iload_n (pc' := 124) dX6_settle_123 rfl rfl rfl ?_
                refine S.iald (pc' := 125) dX6_settle_124 rfl (vs_a3 vs12) (by omega) (by omega) ?_
                rw [e15]
                refine S.callVe (pc' := 128) dX6_settle_125 rfl cX6_196 hli rfl (gd_lay gd3) (by decide) rfl (Nat.le_of_ble_eq_true rfl) ?_
                refine S.if_ne (pc' := 131) (tgt := 142) dX6_settle_128 (by decide) rfl (by unfold fp_rng; omega) (fun h128 => ?_) (fun h128 => ?_)
                · refine S.iinc (pc' := 145) (LL' := [_, _, _]) dX6_settle_142 rfl (by decide) rfl rfl rfl ?_
                  refine S.goto (pc' := 61) dX6_settle_145 (by decide) ?_
                  first | exact ih (i + 1) _ _ (by omega) (by omega) (by omega) (hbad (fun q => hl2 q.2)) | exact absurd rfl h128 | (exfalso; omega)
                · refine S.aload_n (pc' := 132) dX6_settle_131 rfl rfl rfl ?_
                  refine S.bipush (pc' := 134) dX6_settle_132 rfl (by decide) ?_
                  refine S.aload_n (pc' := 135) dX6_settle_134 rfl rfl rfl ?_
                  refine S.getI (pc' := 138) dX6_settle_135 rfl fX6_36 L_2 ?_
                  rw [e26]
                  refine S.callVe (pc' := 141) dX6_settle_138 rfl cX6_89 ok_X6_refuse rfl L_2 (by decide) rfl (Nat.le_of_ble_eq_true rfl) ?_
                  refine S.pop (pc' := 142) dX6_settle_141 rfl rfl ?_
                  refine S.iinc (pc' := 145) (LL' := [_, _, _]) dX6_settle_142 rfl (by decide) rfl rfl rfl ?_
                  refine S.goto (pc' := 61) dX6_settle_145 (by decide) ?_
                  first | exact ih (i + 1) _ _ (by omega) (by omega) (by omega) (hbad (fun q => hl2 q.2)) | exact absurd rfl h128 | (exfalso; omega)
            · refine S.aload_n (pc' := 84) dX6_settle_83 rfl rfl rfl ?_
              refine S.getR (pc' := 87) dX6_settle_84 rfl fX6_12 L_2 rf_2_0 ?_
              refine S.aload_n (pc' := 88) dX6_settle_87 rfl rfl rfl ?_
              refine S.getR (pc' := 91) dX6_settle_88 rfl fX6_28 L_2 rf_2_2 ?_
              refine S.getR (pc' := 94) dX6_settle_91 rfl fX6_187 (vs_lay vs12) (vs_r4 vs12) ?_
              refine S.iload_n (pc' := 95) dX6_settle_94 rfl rfl rfl ?_
              refine S.iald (pc' := 96) dX6_settle_95 rfl (vs_a4 vs12) (by omega) (by omega) ?_
              rw [e16]
              refine S.callVe (pc' := 99) dX6_settle_96 rfl cX6_190 hth rfl (gd_lay gd3) (by decide) rfl (Nat.le_of_ble_eq_true rfl) ?_
              refine S.if_eq (pc' := 102) (tgt := 106) dX6_settle_99 (by decide) rfl (by unfold fp_rng; omega) (fun h99 => ?_) (fun h99 => ?_)
              · refine S.iconst (pc' := 107) dX6_settle_106 rfl ?_
                refine S.istore_n (pc' := 108) (LL' := [_, _, _]) dX6_settle_107 rfl (by decide) rfl rfl rfl ?_
                refine S.iload_n (pc' := 109) dX6_settle_108 rfl rfl rfl ?_
                refine S.if_eq (pc' := 112) (tgt := 131) dX6_settle_109 (by decide) rfl (by unfold fp_rng; omega) (fun h109 => ?_) (fun h109 => ?_)
                · refine S.aload_n (pc' := 132) dX6_settle_131 rfl rfl rfl ?_
                  refine S.bipush (pc' := 134) dX6_settle_132 rfl (by decide) ?_
                  refine S.aload_n (pc' := 135) dX6_settle_134 rfl rfl rfl ?_
                  refine S.getI (pc' := 138) dX6_settle_135 rfl fX6_36 L_2 ?_
                  rw [e26]
                  refine S.callVe (pc' := 141) dX6_settle_138 rfl cX6_89 ok_X6_refuse rfl L_2 (by decide) rfl (Nat.le_of_ble_eq_true rfl) ?_
                  refine S.pop (pc' := 142) dX6_settle_141 rfl rfl ?_
                  refine S.iinc (pc' := 145) (LL' := [_, _, _]) dX6_settle_142 rfl (by decide) rfl rfl rfl ?_
                  refine S.goto (pc' := 61) dX6_settle_145 (by decide) ?_
                  first | exact ih (i + 1) _ _ (by omega) (by omega) (by omega) (hbad (fun q => hl2 q.2)) | exact absurd rfl h128 | (exfalso; omega)
                · refine S.aload_n (pc' := 113) dX6_settle_112 rfl rfl rfl ?_
                  refine S.getR (pc' := 116) dX6_settle_113 rfl fX6_12 L_2 rf_2_0 ?_
                  refine S.aload_n (pc' := 117) dX6_settle_116 rfl rfl rfl ?_
                  refine S.getR (pc' := 120) dX6_settle_117 rfl fX6_28 L_2 rf_2_2 ?_
                  refine S.getR (pc' := 123) dX6_settle_120 rfl fX6_193 (vs_lay vs12) (vs_r3 vs12) ?_
                  refine S.iload_n (pc' := 124) dX6_settle_123 rfl rfl rfl ?_
                  refine S.iald (pc' := 125) dX6_settle_124 rfl (vs_a3 vs12) (by omega) (by omega) ?_
                  rw [e15]
                  refine S.callVe (pc' := 128) dX6_settle_125 rfl cX6_196 hli rfl (gd_lay gd3) (by decide) rfl (Nat.le_of_ble_eq_true rfl) ?_
                  refine S.if_ne (pc' := 131) (tgt := 142) dX6_settle_128 (by decide) rfl (by unfold fp_rng; omega) (fun h128 => ?_) (fun h128 => ?_)
                  · refine S.iinc (pc' := 145) (LL' := [_, _, _]) dX6_settle_142 rfl (by decide) rfl rfl rfl ?_
                    refine S.goto (pc' := 61) dX6_settle_145 (by decide) ?_
                    first | exact ih (i + 1) _ _ (by omega) (by omega) (by omega) (hbad (fun q => hl2 q.2)) | exact absurd rfl h128 | (exfalso; omega)
                  · refine S.aload_n (pc' := 132) dX6_settle_131 rfl rfl rfl ?_
                    refine S.bipush (pc' := 134) dX6_settle_132 rfl (by decide) ?_
                    refine S.aload_n (pc' := 135) dX6_settle_134 rfl rfl rfl ?_
                    refine S.getI (pc' := 138) dX6_settle_135 rfl fX6_36 L_2 ?_
                    rw [e26]
                    refine S.callVe (pc' := 141) dX6_settle_138 rfl cX6_89 ok_X6_refuse rfl L_2 (by decide) rfl (Nat.le_of_ble_eq_true rfl) ?_
                    refine S.pop (pc' := 142) dX6_settle_141 rfl rfl ?_
                    refine S.iinc (pc' := 145) (LL' := [_, _, _]) dX6_settle_142 rfl (by decide) rfl rfl rfl ?_
                    refine S.goto (pc' := 61) dX6_settle_145 (by decide) ?_
                    first | exact ih (i + 1) _ _ (by omega) (by omega) (by omega) (hbad (fun q => hl2 q.2)) | exact absurd rfl h128 | (exfalso; omega)
              · refine S.iconst (pc' := 103) dX6_settle_102 rfl ?_
                refine S.goto (pc' := 107) dX6_settle_103 (by decide) ?_
                refine S.istore_n (pc' := 108) (LL' := [_, _, _]) dX6_settle_107 rfl (by decide) rfl rfl rfl ?_
                refine S.iload_n (pc' := 109) dX6_settle_108 rfl rfl rfl ?_
                refine S.if_eq (pc' := 112) (tgt := 131) dX6_settle_109 (by decide) rfl (by unfold fp_rng; omega) (fun h109 => ?_) (fun h109 => ?_)
                · refine S.aload_n (pc' := 132) dX6_settle_131 rfl rfl rfl ?_
                  refine S.bipush (pc' := 134) dX6_settle_132 rfl (by decide) ?_
                  refine S.aload_n (pc' := 135) dX6_settle_134 rfl rfl rfl ?_
                  refine S.getI (pc' := 138) dX6_settle_135 rfl fX6_36 L_2 ?_
                  rw [e26]
                  refine S.callVe (pc' := 141) dX6_settle_138 rfl cX6_89 ok_X6_refuse rfl L_2 (by decide) rfl (Nat.le_of_ble_eq_true rfl) ?_
                  refine S.pop (pc' := 142) dX6_settle_141 rfl rfl ?_
                  refine S.iinc (pc' := 145) (LL' := [_, _, _]) dX6_settle_142 rfl (by decide) rfl rfl rfl ?_
                  refine S.goto (pc' := 61) dX6_settle_145 (by decide) ?_
                  first | exact ih (i + 1) _ _ (by omega) (by omega) (by omega) (hbad (fun q => hl2 q.2)) | exact absurd rfl h128 | (exfalso; omega)
                · refine S.aload_n (pc' := 113) dX6_settle_112 rfl rfl rfl ?_
                  refine S.getR (pc' := 116) dX6_settle_113 rfl fX6_12 L_2 rf_2_0 ?_
                  refine S.aload_n (pc' := 117) dX6_settle_116 rfl rfl rfl ?_
                  refine S.getR (pc' := 120) dX6_settle_117 rfl fX6_28 L_2 rf_2_2 ?_
                  refine S.getR (pc' := 123) dX6_settle_120 rfl fX6_193 (vs_lay vs12) (vs_r3 vs12) ?_
                  refine S.iload_n (pc' := 124) dX6_settle_123 rfl rfl rfl ?_
                  refine S.iald (pc' := 125) dX6_settle_124 rfl (vs_a3 vs12) (by omega) (by omega) ?_
                  rw [e15]
                  refine S.callVe (pc' := 128) dX6_settle_125 rfl cX6_196 hli rfl (gd_lay gd3) (by decide) rfl (Nat.le_of_ble_eq_true rfl) ?_
                  refine S.if_ne (pc' := 131) (tgt := 142) dX6_settle_128 (by decide) rfl (by unfold fp_rng; omega) (fun h128 => ?_) (fun h128 => ?_)
                  · refine S.iinc (pc' := 145) (LL' := [_, _, _]) dX6_settle_142 rfl (by decide) rfl rfl rfl ?_
                    refine S.goto (pc' := 61) dX6_settle_145 (by decide) ?_
                    first | exact ih (i + 1) _ _ (by omega) (by omega) (by omega) (hbad (fun q => hl2 q.2)) | exact absurd rfl h128 | (exfalso; omega)
                  · refine S.aload_n (pc' := 132) dX6_settle_131 rfl rfl rfl ?_
                    refine S.bipush (pc' := 134) dX6_settle_132 rfl (by decide) ?_
                    refine S.aload_n (pc' := 135) dX6_settle_134 rfl rfl rfl ?_
                    refine S.getI (pc' := 138) dX6_settle_135 rfl fX6_36 L_2 ?_
                    rw [e26]
                    refine S.callVe (pc' := 141) dX6_settle_138 rfl cX6_89 ok_X6_refuse rfl L_2 (by decide) rfl (Nat.le_of_ble_eq_true rfl) ?_
                    refine S.pop (pc' := 142) dX6_settle_141 rfl rfl ?_
                    refine S.iinc (pc' := 145) (LL' := [_, _, _]) dX6_settle_142 rfl (by decide) rfl rfl rfl ?_
                    refine S.goto (pc' := 61) dX6_settle_145 (by decide) ?_
                    first | exact ih (i + 1) _ _ (by omega) (by omega) (by omega) (hbad (fun q => hl2 q.2)) | exact absurd rfl h128 | (exfalso; omega)
        · rw [if_neg (by omega)] at hth
          refine S.iload_n (pc' := 62) dX6_settle_61 rfl rfl rfl ?_
          refine S.aload_n (pc' := 63) dX6_settle_62 rfl rfl rfl ?_
          refine S.getR (pc' := 66) dX6_settle_63 rfl fX6_28 L_2 rf_2_2 ?_
          refine S.getI (pc' := 69) dX6_settle_66 rfl fX6_57 (vs_lay vs12) ?_
          rw [e12]
          refine S.icmp_ge (pc' := 72) (tgt := 148) dX6_settle_69 (by decide) rfl (by unfold fp_rng; omega) (by unfold fp_rng; omega) (fun h69 => ?_) (fun h69 => ?_)
          · exfalso; omega
          · refine S.aload_n (pc' := 73) dX6_settle_72 rfl rfl rfl ?_
            refine S.getR (pc' := 76) dX6_settle_73 rfl fX6_28 L_2 rf_2_2 ?_
            refine S.iload_n (pc' := 77) dX6_settle_76 rfl rfl rfl ?_
            refine S.callVe (pc' := 80) dX6_settle_77 rfl cX6_184 hisd rfl (vs_lay vs12) (by decide) rfl (Nat.le_of_ble_eq_true rfl) ?_
            refine S.if_ne (pc' := 83) (tgt := 102) dX6_settle_80 (by decide) rfl (by unfold fp_rng; omega) (fun h80 => ?_) (fun h80 => ?_)
            · refine S.iconst (pc' := 103) dX6_settle_102 rfl ?_
              refine S.goto (pc' := 107) dX6_settle_103 (by decide) ?_
              refine S.istore_n (pc' := 108) (LL' := [_, _, _]) dX6_settle_107 rfl (by decide) rfl rfl rfl ?_
              refine S.iload_n (pc' := 109) dX6_settle_108 rfl rfl rfl ?_
              refine S.if_eq (pc' := 112) (tgt := 131) dX6_settle_109 (by decide) rfl (by unfold fp_rng; omega) (fun h109 => ?_) (fun h109 => ?_)
              · refine S.aload_n (pc' := 132) dX6_settle_131 rfl rfl rfl ?_
                refine S.bipush (pc' := 134) dX6_settle_132 rfl (by decide) ?_
                refine S.aload_n (pc' := 135) dX6_settle_134 rfl rfl rfl ?_
                refine S.getI (pc' := 138) dX6_settle_135 rfl fX6_36 L_2 ?_
                rw [e26]
                refine S.callVe (pc' := 141) dX6_settle_138 rfl cX6_89 ok_X6_refuse rfl L_2 (by decide) rfl (Nat.le_of_ble_eq_true rfl) ?_
                refine S.pop (pc' := 142) dX6_settle_141 rfl rfl ?_
                refine S.iinc (pc' := 145) (LL' := [_, _, _]) dX6_settle_142 rfl (by decide) rfl rfl rfl ?_
                refine S.goto (pc' := 61) dX6_settle_145 (by decide) ?_
                first | exact ih (i + 1) _ _ (by omega) (by omega) (by omega) (hbad (fun q => hl2 q.2)) | exact absurd rfl h128 | (exfalso; omega)
              · refine S.aload_n (pc' := 113) dX6_settle_112 rfl rfl rfl ?_
                refine S.getR (pc' := 116) dX6_settle_113 rfl fX6_12 L_2 rf_2_0 ?_
                refine S.aload_n (pc' := 117) dX6_settle_116 rfl rfl rfl ?_
                refine S.getR (pc' := 120) dX6_settle_117 rfl fX6_28 L_2 rf_2_2 ?_
                refine S.getR (pc' := 123) dX6_settle_120 rfl fX6_193 (vs_lay vs12) (vs_r3 vs12) ?_
                refine S.iload_n (pc' := 124) dX6_settle_123 rfl rfl rfl ?_
                refine S.iald (pc' := 125) dX6_settle_124 rfl (vs_a3 vs12) (by omega) (by omega) ?_
                rw [e15]
                refine S.callVe (pc' := 128) dX6_settle_125 rfl cX6_196 hli rfl (gd_lay gd3) (by decide) rfl (Nat.le_of_ble_eq_true rfl) ?_
                refine S.if_ne (pc' := 131) (tgt := 142) dX6_settle_128 (by decide) rfl (by unfold fp_rng; omega) (fun h128 => ?_) (fun h128 => ?_)
                · refine S.iinc (pc' := 145) (LL' := [_, _, _]) dX6_settle_142 rfl (by decide) rfl rfl rfl ?_
                  refine S.goto (pc' := 61) dX6_settle_145 (by decide) ?_
                  first | exact ih (i + 1) _ _ (by omega) (by omega) (by omega) (hbad (fun q => hl2 q.2)) | exact absurd rfl h128 | (exfalso; omega)
                · refine S.aload_n (pc' := 132) dX6_settle_131 rfl rfl rfl ?_
                  refine S.bipush (pc' := 134) dX6_settle_132 rfl (by decide) ?_
                  refine S.aload_n (pc' := 135) dX6_settle_134 rfl rfl rfl ?_
                  refine S.getI (pc' := 138) dX6_settle_135 rfl fX6_36 L_2 ?_
                  rw [e26]
                  refine S.callVe (pc' := 141) dX6_settle_138 rfl cX6_89 ok_X6_refuse rfl L_2 (by decide) rfl (Nat.le_of_ble_eq_true rfl) ?_
                  refine S.pop (pc' := 142) dX6_settle_141 rfl rfl ?_
                  refine S.iinc (pc' := 145) (LL' := [_, _, _]) dX6_settle_142 rfl (by decide) rfl rfl rfl ?_
                  refine S.goto (pc' := 61) dX6_settle_145 (by decide) ?_
                  first | exact ih (i + 1) _ _ (by omega) (by omega) (by omega) (hbad (fun q => hl2 q.2)) | exact absurd rfl h128 | (exfalso; omega)
            · refine S.aload_n (pc' := 84) dX6_settle_83 rfl rfl rfl ?_
              refine S.getR (pc' := 87) dX6_settle_84 rfl fX6_12 L_2 rf_2_0 ?_
              refine S.aload_n (pc' := 88) dX6_settle_87 rfl rfl rfl ?_
              refine S.getR (pc' := 91) dX6_settle_88 rfl fX6_28 L_2 rf_2_2 ?_
              refine S.getR (pc' := 94) dX6_settle_91 rfl fX6_187 (vs_lay vs12) (vs_r4 vs12) ?_
              refine S.iload_n (pc' := 95) dX6_settle_94 rfl rfl rfl ?_
              refine S.iald (pc' := 96) dX6_settle_95 rfl (vs_a4 vs12) (by omega) (by omega) ?_
              rw [e16]
              refine S.callVe (pc' := 99) dX6_settle_96 rfl cX6_190 hth rfl (gd_lay gd3) (by decide) rfl (Nat.le_of_ble_eq_true rfl) ?_
              refine S.if_eq (pc' := 102) (tgt := 106) dX6_settle_99 (by decide) rfl (by unfold fp_rng; omega) (fun h99 => ?_) (fun h99 => ?_)
              · refine S.iconst (pc' := 107) dX6_settle_106 rfl ?_
                refine S.istore_n (pc' := 108) (LL' := [_, _, _]) dX6_settle_107 rfl (by decide) rfl rfl rfl ?_
                refine S.iload_n (pc' := 109) dX6_settle_108 rfl rfl rfl ?_
                refine S.if_eq (pc' := 112) (tgt := 131) dX6_settle_109 (by decide) rfl (by unfold fp_rng; omega) (fun h109 => ?_) (fun h109 => ?_)
                · refine S.aload_n (pc' := 132) dX6_settle_131 rfl rfl rfl ?_
                  refine S.bipush (pc' := 134) dX6_settle_132 rfl (by decide) ?_
                  refine S.aload_n (pc' := 135) dX6_settle_134 rfl rfl rfl ?_
                  refine S.getI (pc' := 138) dX6_settle_135 rfl fX6_36 L_2 ?_
                  rw [e26]
                  refine S.callVe (pc' := 141) dX6_settle_138 rfl cX6_89 ok_X6_refuse rfl L_2 (by decide) rfl (Nat.le_of_ble_eq_true rfl) ?_
                  refine S.pop (pc' := 142) dX6_settle_141 rfl rfl ?_
                  refine S.iinc (pc' := 145) (LL' := [_, _, _]) dX6_settle_142 rfl (by decide) rfl rfl rfl ?_
                  refine S.goto (pc' := 61) dX6_settle_145 (by decide) ?_
                  first | exact ih (i + 1) _ _ (by omega) (by omega) (by omega) (hbad (fun q => hl2 q.2)) | exact absurd rfl h128 | (exfalso; omega)
                · refine S.aload_n (pc' := 113) dX6_settle_112 rfl rfl rfl ?_
                  refine S.getR (pc' := 116) dX6_settle_113 rfl fX6_12 L_2 rf_2_0 ?_
                  refine S.aload_n (pc' := 117) dX6_settle_116 rfl rfl rfl ?_
                  refine S.getR (pc' := 120) dX6_settle_117 rfl fX6_28 L_2 rf_2_2 ?_
                  refine S.getR (pc' := 123) dX6_settle_120 rfl fX6_193 (vs_lay vs12) (vs_r3 vs12) ?_
                  refine S.iload_n (pc' := 124) dX6_settle_123 rfl rfl rfl ?_
                  refine S.iald (pc' := 125) dX6_settle_124 rfl (vs_a3 vs12) (by omega) (by omega) ?_
                  rw [e15]
                  refine S.callVe (pc' := 128) dX6_settle_125 rfl cX6_196 hli rfl (gd_lay gd3) (by decide) rfl (Nat.le_of_ble_eq_true rfl) ?_
                  refine S.if_ne (pc' := 131) (tgt := 142) dX6_settle_128 (by decide) rfl (by unfold fp_rng; omega) (fun h128 => ?_) (fun h128 => ?_)
                  · refine S.iinc (pc' := 145) (LL' := [_, _, _]) dX6_settle_142 rfl (by decide) rfl rfl rfl ?_
                    refine S.goto (pc' := 61) dX6_settle_145 (by decide) ?_
                    first | exact ih (i + 1) _ _ (by omega) (by omega) (by omega) (hbad (fun q => hl2 q.2)) | exact absurd rfl h128 | (exfalso; omega)
                  · refine S.aload_n (pc' := 132) dX6_settle_131 rfl rfl rfl ?_
                    refine S.bipush (pc' := 134) dX6_settle_132 rfl (by decide) ?_
                    refine S.aload_n (pc' := 135) dX6_settle_134 rfl rfl rfl ?_
                    refine S.getI (pc' := 138) dX6_settle_135 rfl fX6_36 L_2 ?_
                    rw [e26]
                    refine S.callVe (pc' := 141) dX6_settle_138 rfl cX6_89 ok_X6_refuse rfl L_2 (by decide) rfl (Nat.le_of_ble_eq_true rfl) ?_
                    refine S.pop (pc' := 142) dX6_settle_141 rfl rfl ?_
                    refine S.iinc (pc' := 145) (LL' := [_, _, _]) dX6_settle_142 rfl (by decide) rfl rfl rfl ?_
                    refine S.goto (pc' := 61) dX6_settle_145 (by decide) ?_
                    first | exact ih (i + 1) _ _ (by omega) (by omega) (by omega) (hbad (fun q => hl2 q.2)) | exact absurd rfl h128 | (exfalso; omega)
              · refine S.iconst (pc' := 103) dX6_settle_102 rfl ?_
                refine S.goto (pc' := 107) dX6_settle_103 (by decide) ?_
                refine S.istore_n (pc' := 108) (LL' := [_, _, _]) dX6_settle_107 rfl (by decide) rfl rfl rfl ?_
                refine S.iload_n (pc' := 109) dX6_settle_108 rfl rfl rfl ?_
                refine S.if_eq (pc' := 112) (tgt := 131) dX6_settle_109 (by decide) rfl (by unfold fp_rng; omega) (fun h109 => ?_) (fun h109 => ?_)
                · refine S.aload_n (pc' := 132) dX6_settle_131 rfl rfl rfl ?_
                  refine S.bipush (pc' := 134) dX6_settle_132 rfl (by decide) ?_
                  refine S.aload_n (pc' := 135) dX6_settle_134 rfl rfl rfl ?_
                  refine S.getI (pc' := 138) dX6_settle_135 rfl fX6_36 L_2 ?_
                  rw [e26]
                  refine S.callVe (pc' := 141) dX6_settle_138 rfl cX6_89 ok_X6_refuse rfl L_2 (by decide) rfl (Nat.le_of_ble_eq_true rfl) ?_
                  refine S.pop (pc' := 142) dX6_settle_141 rfl rfl ?_
                  refine S.iinc (pc' := 145) (LL' := [_, _, _]) dX6_settle_142 rfl (by decide) rfl rfl rfl ?_
                  refine S.goto (pc' := 61) dX6_settle_145 (by decide) ?_
                  first | exact ih (i + 1) _ _ (by omega) (by omega) (by omega) (hbad (fun q => hl2 q.2)) | exact absurd rfl h128 | (exfalso; omega)
                · refine S.aload_n (pc' := 113) dX6_settle_112 rfl rfl rfl ?_
                  refine S.getR (pc' := 116) dX6_settle_113 rfl fX6_12 L_2 rf_2_0 ?_
                  refine S.aload_n (pc' := 117) dX6_settle_116 rfl rfl rfl ?_
                  refine S.getR (pc' := 120) dX6_settle_117 rfl fX6_28 L_2 rf_2_2 ?_
                  refine S.getR (pc' := 123) dX6_settle_120 rfl fX6_193 (vs_lay vs12) (vs_r3 vs12) ?_
                  refine S.iload_n (pc' := 124) dX6_settle_123 rfl rfl rfl ?_
                  refine S.iald (pc' := 125) dX6_settle_124 rfl (vs_a3 vs12) (by omega) (by omega) ?_
                  rw [e15]
                  refine S.callVe (pc' := 128) dX6_settle_125 rfl cX6_196 hli rfl (gd_lay gd3) (by decide) rfl (Nat.le_of_ble_eq_true rfl) ?_
                  refine S.if_ne (pc' := 131) (tgt := 142) dX6_settle_128 (by decide) rfl (by unfold fp_rng; omega) (fun h128 => ?_) (fun h128 => ?_)
                  · refine S.iinc (pc' := 145) (LL' := [_, _, _]) dX6_settle_142 rfl (by decide) rfl rfl rfl ?_
                    refine S.goto (pc' := 61) dX6_settle_145 (by decide) ?_
                    first | exact ih (i + 1) _ _ (by omega) (by omega) (by omega) (hbad (fun q => hl2 q.2)) | exact absurd rfl h128 | (exfalso; omega)
                  · refine S.aload_n (pc' := 132) dX6_settle_131 rfl rfl rfl ?_
                    refine S.bipush (pc' := 134) dX6_settle_132 rfl (by decide) ?_
                    refine S.aload_n (pc' := 135) dX6_settle_134 rfl rfl rfl ?_
                    refine S.getI (pc' := 138) dX6_settle_135 rfl fX6_36 L_2 ?_
                    rw [e26]
                    refine S.callVe (pc' := 141) dX6_settle_138 rfl cX6_89 ok_X6_refuse rfl L_2 (by decide) rfl (Nat.le_of_ble_eq_true rfl) ?_
                    refine S.pop (pc' := 142) dX6_settle_141 rfl rfl ?_
                    refine S.iinc (pc' := 145) (LL' := [_, _, _]) dX6_settle_142 rfl (by decide) rfl rfl rfl ?_
                    refine S.goto (pc' := 61) dX6_settle_145 (by decide) ?_
                    first | exact ih (i + 1) _ _ (by omega) (by omega) (by omega) (hbad (fun q => hl2 q.2)) | exact absurd rfl h128 | (exfalso; omega)
end SE2
