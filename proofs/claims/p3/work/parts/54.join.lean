/-! JOIN, COUNT -/
def aJn (g : aGd) (pg : aPg) (p : Int) : Nat → Int × Int
  | 0 => (-4, -4)
  | n + 1 => if aGv g pg n ≠ -4 ∧ (aJn g pg p n).1 < g.2.2.2.2.1 (aGv g pg n) p then (g.2.2.2.2.1 (aGv g pg n) p, (n : Int)) else aJn g pg p n
def A_join (g : aGd) (pg : aPg) (p : Int) : Int := if 0 ≤ p ∧ p < 4 then (aJn g pg p g.2.1.toNat).2 else -1
def A_count (tp : List Int) (g : aGd) (vs : List aVt) (nt : List Int) (im : aIm) (sh : aSh) (w : Int) : Int := if w = 0 then g.1 else if w = 1 then g.2.1 else if w = 2 then vs.length else if w = 3 then nt.length else if w = 4 then (if (im 0).isSome then 1 else 0) + (if (im 1).isSome then 1 else 0) else if w = 5 then tp.length else if w = 6 then (if (sh 0).1 = -4 then -4 else (sh 0).2.1) else -1
theorem aJn_succ {g : aGd} {pg : aPg} {p i : Int} (h : 0 ≤ i) : aJn g pg p (i + 1).toNat = if aGv g pg i ≠ -4 ∧ (aJn g pg p i.toNat).1 < g.2.2.2.2.1 (aGv g pg i) p then (g.2.2.2.2.1 (aGv g pg i) p, i) else aJn g pg p i.toNat := by
  have e1 : (i + 1).toNat = i.toNat + 1 := by omega
  rw [e1]
  show (if aGv g pg ((i.toNat : Nat) : Int) ≠ -4 ∧ _ then (_, ((i.toNat : Nat) : Int)) else _) = _
  rw [Int.toNat_of_nonneg h]
theorem aJn_in {g : aGd} {pg : aPg} {p : Int} (hg : gOk g) (hP : pgOk g pg) (hp : 0 ≤ p ∧ p < 4) : ∀ n : Nat, (n : Int) ≤ g.2.1 → (-4 ≤ (aJn g pg p n).1 ∧ (aJn g pg p n).1 ≤ 20) ∧ (-4 ≤ (aJn g pg p n).2 ∧ (aJn g pg p n).2 ≤ n)
  | 0 => fun _ => by unfold aJn; decide
  | n + 1 => fun h => by
    have q := aJn_in hg hP hp n (by omega)
    have hq := aGv_in hP hg (x := (n : Int)) ⟨by omega, by omega⟩
    unfold aJn
    split
    · rename_i hh
      have hv := hg.2.2.2.2.1 (aGv g pg n) p (by omega) (by omega) hp.1 hp.2
      exact ⟨⟨by dsimp only; omega, by dsimp only; omega⟩, by dsimp only; omega, by dsimp only; omega⟩
    · exact ⟨q.1, by omega, by omega⟩
section JOI
variable {l : Launch} {G : fp_WG} {M N : fp_Mem} {tp tp' : List Int} {fl fl' : Int} {g : aGd} {pg pg' : aPg} {vs vs' : List aVt} {nt nt' : List Int} {im im' : aIm} {sh sh' : aSh} {tn tn' : Int} {k k2 : Nat}
theorem cjoin_loop {p : Int} (hp : 0 ≤ p ∧ p < 4) (hc : CS M tp fl g pg vs nt im sh tn) (ho : OK g pg vs nt im sh) : ∀ (n : Nat) (i : Int) (o5 : Option Value), (g.2.1 - i).toNat < n → 0 ≤ i → i ≤ g.2.1 →
    fp_S l G 2 kX11_join 18 [some (rV G 0), some (iV p), some (iV (aJn g pg p i.toNat).1), some (iV (aJn g pg p i.toNat).2), some (iV i), o5] [] M (qI fun z N => z = (aJn g pg p g.2.1.toNat).2 ∧ CS N tp fl g pg vs nt im sh tn ∧ frC M N) := by
  have hcs := hc
  obtain ⟨-, hd, hcl, -⟩ := hc
  have hg := ho.1
  have hg1 := hg.1
  have hP := ho.2.1
  have hd1 := hd.2.1
  have hg2 := hg.2.1
  intro n
  induction n with
  | zero => intro i o5 h; omega
  | succ n ih =>
    intro i o5 h i0 i1
    have es := aJn_succ (g := g) (pg := pg) (p := p) i0
    have hb := aJn_in hg hP hp i.toNat (by omega)
    by_cases hlt : i < g.2.1
    · have hq := aGv_in hP hg (x := i) ⟨i0, hlt⟩
      rcases hq with hq | hq
      · rw [if_neg (by omega)] at es
        refine S.iload (pc' := 20) dX11_join_18 rfl rfl ?_
        refine S.aload_n (pc' := 21) dX11_join_20 rfl rfl rfl ?_
        refine S.getR (pc' := 24) dX11_join_21 rfl fX11_23 L_0 rf_0_3 ?_
        refine S.getI (pc' := 27) dX11_join_24 rfl fX11_225 (gd_lay gd18) ?_
        refine S.icmp_ge (pc' := 30) (tgt := 86) dX11_join_27 (by decide) rfl (by unfold fp_rng; omega) (by unfold fp_rng; omega) (fun h27 => ?_) (fun h27 => ?_)
        · exfalso; omega
        · refine S.aload_n (pc' := 31) dX11_join_30 rfl rfl rfl ?_
          refine S.getR (pc' := 34) dX11_join_31 rfl fX11_30 L_0 rf_0_4 ?_
          refine S.aload_n (pc' := 35) dX11_join_34 rfl rfl rfl ?_
          refine S.getR (pc' := 38) dX11_join_35 rfl fX11_23 L_0 rf_0_3 ?_
          refine S.iload (pc' := 40) dX11_join_38 rfl rfl ?_
          refine S.callVe (pc' := 43) dX11_join_40 rfl cX11_159 (rk_X5_gives (g := g) (pg := pg) pl22 gd18) rfl (pl_lay pl22) (by decide) rfl (Nat.le_of_ble_eq_true rfl) ?_
          refine S.istore (pc' := 45) (LL' := [_, _, _, _, _, _]) dX11_join_43 rfl (by decide) rfl rfl ?_
          refine S.iload (pc' := 47) dX11_join_45 rfl rfl ?_
          refine S.bipush (pc' := 49) dX11_join_47 rfl (by decide) ?_
          refine S.icmp_eq (pc' := 52) (tgt := 80) dX11_join_49 (by decide) rfl (by unfold fp_rng; omega) (by unfold fp_rng; omega) (fun h49 => ?_) (fun h49 => ?_)
          · refine S.iinc (pc' := 83) (LL' := [_, _, _, _, _, _]) dX11_join_80 rfl (by decide) rfl rfl rfl ?_
            refine S.goto (pc' := 18) dX11_join_83 (by decide) ?_
            rw [← es]; exact ih _ _ (by omega) (by omega) (by omega)
          · exfalso; omega
      · have hv := hd.2.2.2.2.2.1 (aGv g pg i) p (by omega) (by omega) hp.1 hp.2
        have hvb := hg.2.2.2.2.1 (aGv g pg i) p (by omega) (by omega) hp.1 hp.2
        have hvr : fp_rng (M (18 + 2) (aGv g pg i * 4 + p).toNat) := by rw [hv]; exact ⟨by omega, by omega⟩
        have hvs : M (18 + 2) (aGv g pg i * 4 + p).toNat = g.2.2.2.2.1 (aGv g pg i) p := hv
        refine S.iload (pc' := 20) dX11_join_18 rfl rfl ?_
        refine S.aload_n (pc' := 21) dX11_join_20 rfl rfl rfl ?_
        refine S.getR (pc' := 24) dX11_join_21 rfl fX11_23 L_0 rf_0_3 ?_
        refine S.getI (pc' := 27) dX11_join_24 rfl fX11_225 (gd_lay gd18) ?_
        refine S.icmp_ge (pc' := 30) (tgt := 86) dX11_join_27 (by decide) rfl (by unfold fp_rng; omega) (by unfold fp_rng; omega) (fun h27 => ?_) (fun h27 => ?_)
        · exfalso; omega
        · refine S.aload_n (pc' := 31) dX11_join_30 rfl rfl rfl ?_
          refine S.getR (pc' := 34) dX11_join_31 rfl fX11_30 L_0 rf_0_4 ?_
          refine S.aload_n (pc' := 35) dX11_join_34 rfl rfl rfl ?_
          refine S.getR (pc' := 38) dX11_join_35 rfl fX11_23 L_0 rf_0_3 ?_
          refine S.iload (pc' := 40) dX11_join_38 rfl rfl ?_
          refine S.callVe (pc' := 43) dX11_join_40 rfl cX11_159 (rk_X5_gives (g := g) (pg := pg) pl22 gd18) rfl (pl_lay pl22) (by decide) rfl (Nat.le_of_ble_eq_true rfl) ?_
          refine S.istore (pc' := 45) (LL' := [_, _, _, _, _, _]) dX11_join_43 rfl (by decide) rfl rfl ?_
          refine S.iload (pc' := 47) dX11_join_45 rfl rfl ?_
          refine S.bipush (pc' := 49) dX11_join_47 rfl (by decide) ?_
          refine S.icmp_eq (pc' := 52) (tgt := 80) dX11_join_49 (by decide) rfl (by unfold fp_rng; omega) (by unfold fp_rng; omega) (fun h49 => ?_) (fun h49 => ?_)
          · refine S.iinc (pc' := 83) (LL' := [_, _, _, _, _, _]) dX11_join_80 rfl (by decide) rfl rfl rfl ?_
            refine S.goto (pc' := 18) dX11_join_83 (by decide) ?_
            first | (rw [if_pos (by omega)] at es; rw [hvs]; have e1 := congrArg Prod.fst es; have e2 := congrArg Prod.snd es; dsimp only at e1 e2; rw [← e1]; have e3 := ih (i + 1) (some (iV (aGv g pg i))) (by omega) (by omega) (by omega); rw [e2] at e3; exact e3) | (rw [if_neg (by omega)] at es; rw [← es]; exact ih _ _ (by omega) (by omega) (by omega))
          · refine S.aload_n (pc' := 53) dX11_join_52 rfl rfl rfl ?_
            refine S.getR (pc' := 56) dX11_join_53 rfl fX11_23 L_0 rf_0_3 ?_
            refine S.iload_n (pc' := 57) dX11_join_56 rfl rfl rfl ?_
            refine S.iload (pc' := 59) dX11_join_57 rfl rfl ?_
            refine S.callVe (pc' := 62) dX11_join_59 rfl cX11_130 (ok_X1_valueTo gd18) rfl (gd_lay gd18) (by decide) rfl (Nat.le_of_ble_eq_true rfl) ?_
            refine S.iload_n (pc' := 63) dX11_join_62 rfl rfl rfl ?_
            refine S.icmp_le (pc' := 66) (tgt := 80) dX11_join_63 (by decide) rfl (by unfold fp_rng; omega) (by unfold fp_rng; omega) (fun h63 => ?_) (fun h63 => ?_)
            · refine S.iinc (pc' := 83) (LL' := [_, _, _, _, _, _]) dX11_join_80 rfl (by decide) rfl rfl rfl ?_
              refine S.goto (pc' := 18) dX11_join_83 (by decide) ?_
              first | (rw [if_pos (by omega)] at es; rw [hvs]; have e1 := congrArg Prod.fst es; have e2 := congrArg Prod.snd es; dsimp only at e1 e2; rw [← e1]; have e3 := ih (i + 1) (some (iV (aGv g pg i))) (by omega) (by omega) (by omega); rw [e2] at e3; exact e3) | (rw [if_neg (by omega)] at es; rw [← es]; exact ih _ _ (by omega) (by omega) (by omega))
            · refine S.aload_n (pc' := 67) dX11_join_66 rfl rfl rfl ?_
              refine S.getR (pc' := 70) dX11_join_67 rfl fX11_23 L_0 rf_0_3 ?_
              refine S.iload_n (pc' := 71) dX11_join_70 rfl rfl rfl ?_
              refine S.iload (pc' := 73) dX11_join_71 rfl rfl ?_
              refine S.callVe (pc' := 76) dX11_join_73 rfl cX11_130 (ok_X1_valueTo gd18) rfl (gd_lay gd18) (by decide) rfl (Nat.le_of_ble_eq_true rfl) ?_
              refine S.istore_n (pc' := 77) (LL' := [_, _, _, _, _, _]) dX11_join_76 rfl (by decide) rfl rfl rfl ?_
              refine S.iload (pc' := 79) dX11_join_77 rfl rfl ?_
              refine S.istore_n (pc' := 80) (LL' := [_, _, _, _, _, _]) dX11_join_79 rfl (by decide) rfl rfl rfl ?_
              refine S.iinc (pc' := 83) (LL' := [_, _, _, _, _, _]) dX11_join_80 rfl (by decide) rfl rfl rfl ?_
              refine S.goto (pc' := 18) dX11_join_83 (by decide) ?_
              first | (rw [if_pos (by omega)] at es; rw [hvs]; have e1 := congrArg Prod.fst es; have e2 := congrArg Prod.snd es; dsimp only at e1 e2; rw [← e1]; have e3 := ih (i + 1) (some (iV (aGv g pg i))) (by omega) (by omega) (by omega); rw [e2] at e3; exact e3) | (rw [if_neg (by omega)] at es; rw [← es]; exact ih _ _ (by omega) (by omega) (by omega))
    · refine S.iload (pc' := 20) dX11_join_18 rfl rfl ?_
      refine S.aload_n (pc' := 21) dX11_join_20 rfl rfl rfl ?_
      refine S.getR (pc' := 24) dX11_join_21 rfl fX11_23 L_0 rf_0_3 ?_
      refine S.getI (pc' := 27) dX11_join_24 rfl fX11_225 (gd_lay gd18) ?_
      refine S.icmp_ge (pc' := 30) (tgt := 86) dX11_join_27 (by decide) rfl (by unfold fp_rng; omega) (by unfold fp_rng; omega) (fun h27 => ?_) (fun h27 => ?_)
      · refine S.iload_n (pc' := 87) dX11_join_86 rfl rfl rfl ?_
        refine S.iret dX11_join_87 rfl ?_
        rw [show i = g.2.1 by omega]; exact ⟨rfl, hcs, frC.refl _⟩
      · exfalso; omega
theorem cc_join {p : Int} (hc : CS M tp fl g pg vs nt im sh tn) (ho : OK g pg vs nt im sh) (hp : fp_rng p) : fp_Ok l G 2 kX11_join [rV G 0, iV p] M (qI fun z N => z = A_join g pg p ∧ CS N tp fl g pg vs nt im sh tn ∧ frC M N) := by
  refine fp_Ok.of (r := 4) rfl (Nat.le_of_ble_eq_true rfl) rfl ?_
  unfold A_join
  have hg2 := ho.1.2.1
  by_cases hin : 0 ≤ p ∧ p < 4
  · rw [if_pos hin]
    have hcc := cjoin_loop (l := l) (G := G) hin hc ho (g.2.1.toNat + 1) 0 none (by omega) (by omega) (by omega)
    refine S.iload_n (pc' := 1) dX11_join_0 rfl rfl rfl ?_
    refine S.callSi (pc' := 4) dX11_join_1 rfl cX11_181 (bk_X11_isOne) rfl (by decide) rfl (Nat.le_of_ble_eq_true rfl) (fun z1 M1 q1 => ?_)
    obtain ⟨b1, rfl⟩ := q1
    refine S.if_ne (pc' := 7) (tgt := 9) dX11_join_4 (by decide) rfl (by unfold fp_rng; omega) (fun h4 => ?_) (fun h4 => ?_)
    · refine S.bipush (pc' := 11) dX11_join_9 rfl (by decide) ?_
      refine S.istore_n (pc' := 12) (LL' := [_, _, _, _, _, _]) dX11_join_11 rfl (by decide) rfl rfl rfl ?_
      refine S.bipush (pc' := 14) dX11_join_12 rfl (by decide) ?_
      refine S.istore_n (pc' := 15) (LL' := [_, _, _, _, _, _]) dX11_join_14 rfl (by decide) rfl rfl rfl ?_
      refine S.iconst (pc' := 16) dX11_join_15 rfl ?_
      refine S.istore (pc' := 18) (LL' := [_, _, _, _, _, _]) dX11_join_16 rfl (by decide) rfl rfl ?_
      exact hcc
    · exfalso; omega
  · rw [if_neg hin]
    refine S.iload_n (pc' := 1) dX11_join_0 rfl rfl rfl ?_
    refine S.callSi (pc' := 4) dX11_join_1 rfl cX11_181 (bk_X11_isOne) rfl (by decide) rfl (Nat.le_of_ble_eq_true rfl) (fun z1 M1 q1 => ?_)
    obtain ⟨b1, rfl⟩ := q1
    refine S.if_ne (pc' := 7) (tgt := 9) dX11_join_4 (by decide) rfl (by unfold fp_rng; omega) (fun h4 => ?_) (fun h4 => ?_)
    · exfalso; omega
    · refine S.iconst (pc' := 8) dX11_join_7 rfl ?_
      refine S.iret dX11_join_8 rfl ?_
      exact ⟨rfl, hc, frC.refl _⟩
theorem mjoin_loop {p : Int} (hp : 0 ≤ p ∧ p < 4) (hc : MS M tp fl g pg vs nt im sh tn) (ho : OK g pg vs nt im sh) : ∀ (n : Nat) (i : Int) (o5 o6 : Option Value), (g.2.1 - i).toNat < n → 0 ≤ i → i ≤ g.2.1 →
    fp_S l G 3 kX12_join 18 [some (rV G 177), some (iV p), some (iV (aJn g pg p i.toNat).2), some (iV (aJn g pg p i.toNat).1), some (iV i), o5, o6] [] M (qI fun z N => z = (aJn g pg p g.2.1.toNat).2 ∧ MS N tp fl g pg vs nt im sh tn ∧ frD M N) := by
  have hcs := hc
  obtain ⟨-, hd, hcl, -⟩ := hc
  have hg := ho.1
  have hg1 := hg.1
  have hP := ho.2.1
  have hd1 := hd.2.1
  have hg2 := hg.2.1
  intro n
  induction n with
  | zero => intro i o5 o6 h; omega
  | succ n ih =>
    intro i o5 o6 h i0 i1
    have es := aJn_succ (g := g) (pg := pg) (p := p) i0
    have hb := aJn_in hg hP hp i.toNat (by omega)
    by_cases hlt : i < g.2.1
    · have hq := aGv_in hP hg (x := i) ⟨i0, hlt⟩
      rcases hq with hq | hq
      · rw [if_neg (by omega)] at es
        refine S.iload (pc' := 20) dX12_join_18 rfl rfl ?_
        refine S.aload_n (pc' := 21) dX12_join_20 rfl rfl rfl ?_
        refine S.getI (pc' := 24) dX12_join_21 rfl fX12_184 L_177 ?_
        refine S.icmp_ge (pc' := 27) (tgt := 93) dX12_join_24 (by decide) rfl (by unfold fp_rng; omega) (by unfold fp_rng; omega) (fun h24 => ?_) (fun h24 => ?_)
        · exfalso; omega
        · refine S.aload_n (pc' := 28) dX12_join_27 rfl rfl rfl ?_
          refine S.iconst (pc' := 29) dX12_join_28 rfl ?_
          refine S.iload (pc' := 31) dX12_join_29 rfl rfl ?_
          refine S.callVe (pc' := 34) dX12_join_31 rfl cX12_222 (rk_X12_gives (g := g) (pg := pg)) rfl L_177 (by decide) rfl (Nat.le_of_ble_eq_true rfl) ?_
          refine S.istore (pc' := 36) (LL' := [_, _, _, _, _, _, _]) dX12_join_34 rfl (by decide) rfl rfl ?_
          refine S.iload (pc' := 38) dX12_join_36 rfl rfl ?_
          refine S.bipush (pc' := 40) dX12_join_38 rfl (by decide) ?_
          refine S.icmp_ne (pc' := 43) (tgt := 48) dX12_join_40 (by decide) rfl (by unfold fp_rng; omega) (by unfold fp_rng; omega) (fun h40 => ?_) (fun h40 => ?_)
          · exfalso; omega
          · refine S.bipush (pc' := 45) dX12_join_43 rfl (by decide) ?_
            refine S.goto (pc' := 59) dX12_join_45 (by decide) ?_
            refine S.istore (pc' := 61) (LL' := [_, _, _, _, _, _, _]) dX12_join_59 rfl (by decide) rfl rfl ?_
            refine S.iload (pc' := 63) dX12_join_61 rfl rfl ?_
            refine S.iload_n (pc' := 64) dX12_join_63 rfl rfl rfl ?_
            refine S.icmp_le (pc' := 67) (tgt := 72) dX12_join_64 (by decide) rfl (by unfold fp_rng; omega) (by unfold fp_rng; omega) (fun h64 => ?_) (fun h64 => ?_)
            · refine S.iload_n (pc' := 73) dX12_join_72 rfl rfl rfl ?_
              refine S.istore_n (pc' := 74) (LL' := [_, _, _, _, _, _, _]) dX12_join_73 rfl (by decide) rfl rfl rfl ?_
              refine S.iload (pc' := 76) dX12_join_74 rfl rfl ?_
              refine S.iload_n (pc' := 77) dX12_join_76 rfl rfl rfl ?_
              refine S.icmp_le (pc' := 80) (tgt := 85) dX12_join_77 (by decide) rfl (by unfold fp_rng; omega) (by unfold fp_rng; omega) (fun h77 => ?_) (fun h77 => ?_)
              · refine S.iload_n (pc' := 86) dX12_join_85 rfl rfl rfl ?_
                refine S.istore_n (pc' := 87) (LL' := [_, _, _, _, _, _, _]) dX12_join_86 rfl (by decide) rfl rfl rfl ?_
                refine S.iinc (pc' := 90) (LL' := [_, _, _, _, _, _, _]) dX12_join_87 rfl (by decide) rfl rfl rfl ?_
                refine S.goto (pc' := 18) dX12_join_90 (by decide) ?_
                rw [← es]; exact ih _ _ _ (by omega) (by omega) (by omega)
              · exfalso; omega
            · exfalso; omega
      · have hv := hd.2.2.2.2.2.1 (aGv g pg i) p (by omega) (by omega) hp.1 hp.2
        have hvb := hg.2.2.2.2.1 (aGv g pg i) p (by omega) (by omega) hp.1 hp.2
        have hvr : fp_rng (M 180 (4 * aGv g pg i + p).toNat) := by rw [hv]; exact ⟨by omega, by omega⟩
        refine S.iload (pc' := 20) dX12_join_18 rfl rfl ?_
        refine S.aload_n (pc' := 21) dX12_join_20 rfl rfl rfl ?_
        refine S.getI (pc' := 24) dX12_join_21 rfl fX12_184 L_177 ?_
        refine S.icmp_ge (pc' := 27) (tgt := 93) dX12_join_24 (by decide) rfl (by unfold fp_rng; omega) (by unfold fp_rng; omega) (fun h24 => ?_) (fun h24 => ?_)
        · exfalso; omega
        · refine S.aload_n (pc' := 28) dX12_join_27 rfl rfl rfl ?_
          refine S.iconst (pc' := 29) dX12_join_28 rfl ?_
          refine S.iload (pc' := 31) dX12_join_29 rfl rfl ?_
          refine S.callVe (pc' := 34) dX12_join_31 rfl cX12_222 (rk_X12_gives (g := g) (pg := pg)) rfl L_177 (by decide) rfl (Nat.le_of_ble_eq_true rfl) ?_
          refine S.istore (pc' := 36) (LL' := [_, _, _, _, _, _, _]) dX12_join_34 rfl (by decide) rfl rfl ?_
          refine S.iload (pc' := 38) dX12_join_36 rfl rfl ?_
          refine S.bipush (pc' := 40) dX12_join_38 rfl (by decide) ?_
          refine S.icmp_ne (pc' := 43) (tgt := 48) dX12_join_40 (by decide) rfl (by unfold fp_rng; omega) (by unfold fp_rng; omega) (fun h40 => ?_) (fun h40 => ?_)
          · refine S.aload_n (pc' := 49) dX12_join_48 rfl rfl rfl ?_
            refine S.getR (pc' := 52) dX12_join_49 rfl fX12_16 L_177 rf_177_2 ?_
            refine S.iconst (pc' := 53) dX12_join_52 rfl ?_
            refine S.iload (pc' := 55) dX12_join_53 rfl rfl ?_
            refine S.imul (pc' := 56) dX12_join_55 rfl ?_
            refine S.iload_n (pc' := 57) dX12_join_56 rfl rfl rfl ?_
            refine S.iadd (pc' := 58) dX12_join_57 rfl ?_
            refine S.iald (pc' := 59) dX12_join_58 rfl L_180 (by omega) (by omega) ?_
            refine S.istore (pc' := 61) (LL' := [_, _, _, _, _, _, _]) dX12_join_59 rfl (by decide) rfl rfl ?_
            refine S.iload (pc' := 63) dX12_join_61 rfl rfl ?_
            refine S.iload_n (pc' := 64) dX12_join_63 rfl rfl rfl ?_
            refine S.icmp_le (pc' := 67) (tgt := 72) dX12_join_64 (by decide) rfl (by unfold fp_rng; omega) (by unfold fp_rng; omega) (fun h64 => ?_) (fun h64 => ?_)
            · refine S.iload_n (pc' := 73) dX12_join_72 rfl rfl rfl ?_
              refine S.istore_n (pc' := 74) (LL' := [_, _, _, _, _, _, _]) dX12_join_73 rfl (by decide) rfl rfl rfl ?_
              refine S.iload (pc' := 76) dX12_join_74 rfl rfl ?_
              refine S.iload_n (pc' := 77) dX12_join_76 rfl rfl rfl ?_
              refine S.icmp_le (pc' := 80) (tgt := 85) dX12_join_77 (by decide) rfl (by unfold fp_rng; omega) (by unfold fp_rng; omega) (fun h77 => ?_) (fun h77 => ?_)
              · refine S.iload_n (pc' := 86) dX12_join_85 rfl rfl rfl ?_
                refine S.istore_n (pc' := 87) (LL' := [_, _, _, _, _, _, _]) dX12_join_86 rfl (by decide) rfl rfl rfl ?_
                refine S.iinc (pc' := 90) (LL' := [_, _, _, _, _, _, _]) dX12_join_87 rfl (by decide) rfl rfl rfl ?_
                refine S.goto (pc' := 18) dX12_join_90 (by decide) ?_
                first | (exfalso; omega) | (rw [if_pos (by omega)] at es; rw [hv]; have e1 := congrArg Prod.fst es; have e2 := congrArg Prod.snd es; dsimp only at e1 e2; rw [← e1]; have e3 := fun o5 o6 => ih (i + 1) o5 o6 (by omega) (by omega) (by omega); rw [e2] at e3; exact e3 _ _) | (rw [if_neg (by omega)] at es; rw [← es]; exact ih _ _ _ (by omega) (by omega) (by omega))
              · refine S.iload (pc' := 82) dX12_join_80 rfl rfl ?_
                refine S.goto (pc' := 86) dX12_join_82 (by decide) ?_
                refine S.istore_n (pc' := 87) (LL' := [_, _, _, _, _, _, _]) dX12_join_86 rfl (by decide) rfl rfl rfl ?_
                refine S.iinc (pc' := 90) (LL' := [_, _, _, _, _, _, _]) dX12_join_87 rfl (by decide) rfl rfl rfl ?_
                refine S.goto (pc' := 18) dX12_join_90 (by decide) ?_
                first | (exfalso; omega) | (rw [if_pos (by omega)] at es; rw [hv]; have e1 := congrArg Prod.fst es; have e2 := congrArg Prod.snd es; dsimp only at e1 e2; rw [← e1]; have e3 := fun o5 o6 => ih (i + 1) o5 o6 (by omega) (by omega) (by omega); rw [e2] at e3; exact e3 _ _) | (rw [if_neg (by omega)] at es; rw [← es]; exact ih _ _ _ (by omega) (by omega) (by omega))
            · refine S.iload (pc' := 69) dX12_join_67 rfl rfl ?_
              refine S.goto (pc' := 73) dX12_join_69 (by decide) ?_
              refine S.istore_n (pc' := 74) (LL' := [_, _, _, _, _, _, _]) dX12_join_73 rfl (by decide) rfl rfl rfl ?_
              refine S.iload (pc' := 76) dX12_join_74 rfl rfl ?_
              refine S.iload_n (pc' := 77) dX12_join_76 rfl rfl rfl ?_
              refine S.icmp_le (pc' := 80) (tgt := 85) dX12_join_77 (by decide) rfl (by unfold fp_rng; omega) (by unfold fp_rng; omega) (fun h77 => ?_) (fun h77 => ?_)
              · refine S.iload_n (pc' := 86) dX12_join_85 rfl rfl rfl ?_
                refine S.istore_n (pc' := 87) (LL' := [_, _, _, _, _, _, _]) dX12_join_86 rfl (by decide) rfl rfl rfl ?_
                refine S.iinc (pc' := 90) (LL' := [_, _, _, _, _, _, _]) dX12_join_87 rfl (by decide) rfl rfl rfl ?_
                refine S.goto (pc' := 18) dX12_join_90 (by decide) ?_
                first | (exfalso; omega) | (rw [if_pos (by omega)] at es; rw [hv]; have e1 := congrArg Prod.fst es; have e2 := congrArg Prod.snd es; dsimp only at e1 e2; rw [← e1]; have e3 := fun o5 o6 => ih (i + 1) o5 o6 (by omega) (by omega) (by omega); rw [e2] at e3; exact e3 _ _) | (rw [if_neg (by omega)] at es; rw [← es]; exact ih _ _ _ (by omega) (by omega) (by omega))
              · refine S.iload (pc' := 82) dX12_join_80 rfl rfl ?_
                refine S.goto (pc' := 86) dX12_join_82 (by decide) ?_
                refine S.istore_n (pc' := 87) (LL' := [_, _, _, _, _, _, _]) dX12_join_86 rfl (by decide) rfl rfl rfl ?_
                refine S.iinc (pc' := 90) (LL' := [_, _, _, _, _, _, _]) dX12_join_87 rfl (by decide) rfl rfl rfl ?_
                refine S.goto (pc' := 18) dX12_join_90 (by decide) ?_
                first | (exfalso; omega) | (rw [if_pos (by omega)] at es; rw [hv]; have e1 := congrArg Prod.fst es; have e2 := congrArg Prod.snd es; dsimp only at e1 e2; rw [← e1]; have e3 := fun o5 o6 => ih (i + 1) o5 o6 (by omega) (by omega) (by omega); rw [e2] at e3; exact e3 _ _) | (rw [if_neg (by omega)] at es; rw [← es]; exact ih _ _ _ (by omega) (by omega) (by omega))
          · exfalso; omega
    · refine S.iload (pc' := 20) dX12_join_18 rfl rfl ?_
      refine S.aload_n (pc' := 21) dX12_join_20 rfl rfl rfl ?_
      refine S.getI (pc' := 24) dX12_join_21 rfl fX12_184 L_177 ?_
      refine S.icmp_ge (pc' := 27) (tgt := 93) dX12_join_24 (by decide) rfl (by unfold fp_rng; omega) (by unfold fp_rng; omega) (fun h24 => ?_) (fun h24 => ?_)
      · refine S.iload_n (pc' := 94) dX12_join_93 rfl rfl rfl ?_
        refine S.iret dX12_join_94 rfl ?_
        rw [show i = g.2.1 by omega]; exact ⟨rfl, hcs, frD.refl _⟩
      · exfalso; omega
theorem mm_join {p : Int} (hc : MS M tp fl g pg vs nt im sh tn) (ho : OK g pg vs nt im sh) (hp : fp_rng p) : fp_Ok l G 3 kX12_join [rV G 177, iV p] M (qI fun z N => z = A_join g pg p ∧ MS N tp fl g pg vs nt im sh tn ∧ frD M N) := by
  refine fp_Ok.of (r := 5) rfl (Nat.le_of_ble_eq_true rfl) rfl ?_
  unfold A_join
  have hg2 := ho.1.2.1
  by_cases hin : 0 ≤ p ∧ p < 4
  · rw [if_pos hin]
    have hcc := mjoin_loop (l := l) (G := G) hin hc ho (g.2.1.toNat + 1) 0 none none (by omega) (by omega) (by omega)
    refine S.iload_n (pc' := 1) dX12_join_0 rfl rfl rfl ?_
    refine S.callSi (pc' := 4) dX12_join_1 rfl cX12_228 (bk_X12_isOne) rfl (by decide) rfl (Nat.le_of_ble_eq_true rfl) (fun z1 M1 q1 => ?_)
    obtain ⟨b1, rfl⟩ := q1
    refine S.if_ne (pc' := 7) (tgt := 9) dX12_join_4 (by decide) rfl (by unfold fp_rng; omega) (fun h4 => ?_) (fun h4 => ?_)
    · refine S.bipush (pc' := 11) dX12_join_9 rfl (by decide) ?_
      refine S.istore_n (pc' := 12) (LL' := [_, _, _, _, _, _, _]) dX12_join_11 rfl (by decide) rfl rfl rfl ?_
      refine S.bipush (pc' := 14) dX12_join_12 rfl (by decide) ?_
      refine S.istore_n (pc' := 15) (LL' := [_, _, _, _, _, _, _]) dX12_join_14 rfl (by decide) rfl rfl rfl ?_
      refine S.iconst (pc' := 16) dX12_join_15 rfl ?_
      refine S.istore (pc' := 18) (LL' := [_, _, _, _, _, _, _]) dX12_join_16 rfl (by decide) rfl rfl ?_
      exact hcc
    · exfalso; omega
  · rw [if_neg hin]
    refine S.iload_n (pc' := 1) dX12_join_0 rfl rfl rfl ?_
    refine S.callSi (pc' := 4) dX12_join_1 rfl cX12_228 (bk_X12_isOne) rfl (by decide) rfl (Nat.le_of_ble_eq_true rfl) (fun z1 M1 q1 => ?_)
    obtain ⟨b1, rfl⟩ := q1
    refine S.if_ne (pc' := 7) (tgt := 9) dX12_join_4 (by decide) rfl (by unfold fp_rng; omega) (fun h4 => ?_) (fun h4 => ?_)
    · exfalso; omega
    · refine S.iconst (pc' := 8) dX12_join_7 rfl ?_
      refine S.iret dX12_join_8 rfl ?_
      exact ⟨rfl, hc, frD.refl _⟩
theorem cc_count {w : Int} (hc : CS M tp fl g pg vs nt im sh tn) (hw : fp_rng w) : fp_Ok l G 0 kX11_count [rV G 0, iV w] M (qI fun z N => z = A_count tp g vs nt im sh w ∧ CS N tp fl g pg vs nt im sh tn ∧ frC M N) := by
  have hcs := hc
  have hw' := hw
  unfold fp_rng at hw'
  obtain ⟨hA, hG, hP, hV, hN, hI, hS⟩ := hc
  have i0 : M 143 0 = if (im 0).isSome then 1 else 0 := by
    rcases hI 0 (by omega) (by omega) with ⟨q1, q2⟩ | ⟨x, q1, q2, -⟩
    · rw [q1]; exact q2
    · rw [q1]; exact q2
  have i1 : M 156 0 = if (im 1).isSome then 1 else 0 := by
    rcases hI 1 (by omega) (by omega) with ⟨q1, q2⟩ | ⟨x, q1, q2, -⟩
    · rw [q1]; exact q2
    · rw [q1]; exact q2
  have b0 : M 143 0 = 0 ∨ M 143 0 = 1 := by rw [i0]; split <;> omega
  have b1 : M 156 0 = 0 ∨ M 156 0 = 1 := by rw [i1]; split <;> omega
  have s0 : M 169 1 = if (sh 0).1 = -4 then -4 else (sh 0).2.1 := by
    rcases hS 0 (by omega) (by omega) with ⟨q1, q2⟩ | ⟨q1, q2, q3, -⟩
    · rw [if_pos q1]; exact q2
    · rw [if_neg q1]; exact q3
  refine fp_Ok.of (r := 0) rfl (Nat.le_of_ble_eq_true rfl) rfl ?_
  unfold A_count
  rw [← i0, ← i1, ← s0]
  refine S.iload_n (pc' := 1) dX11_count_0 rfl rfl rfl ?_
  rcases (show w < 0 ∨ 6 < w ∨ w = 0 ∨ w = 1 ∨ w = 2 ∨ w = 3 ∨ w = 4 ∨ w = 5 ∨ w = 6 by omega) with hs | hs | hs | hs | hs | hs | hs | hs | hs
  · refine S.tableOut (tgt := 127) dX11_count_1 (by unfold fp_rng; omega) (by omega) (by decide) ?_
    refine S.iconst (pc' := 128) dX11_count_127 rfl ?_
    refine S.iret dX11_count_128 rfl ?_
    refine ⟨?_, hcs, frC.refl _⟩
    have g1 := hG.1
    have g2 := hG.2.1
    have v1 := hV.1
    have n1 := hN.1
    have a1 := hA.1
    (repeat' split) <;> first | omega | exact g1 | exact g2 | exact v1 | exact n1 | exact a1
  · refine S.tableOut (tgt := 127) dX11_count_1 (by unfold fp_rng; omega) (by omega) (by decide) ?_
    refine S.iconst (pc' := 128) dX11_count_127 rfl ?_
    refine S.iret dX11_count_128 rfl ?_
    refine ⟨?_, hcs, frC.refl _⟩
    have g1 := hG.1
    have g2 := hG.2.1
    have v1 := hV.1
    have n1 := hN.1
    have a1 := hA.1
    (repeat' split) <;> first | omega | exact g1 | exact g2 | exact v1 | exact n1 | exact a1
  · refine S.tableIn (tgt := 44) dX11_count_1 (by unfold fp_rng; omega) (by omega) (by omega) (by rw [hs]; rfl) (by decide) ?_
    refine S.aload_n (pc' := 45) dX11_count_44 rfl rfl rfl ?_
    refine S.getR (pc' := 48) dX11_count_45 rfl fX11_23 L_0 rf_0_3 ?_
    refine S.getI (pc' := 51) dX11_count_48 rfl fX11_268 (gd_lay gd18) ?_
    refine S.iret dX11_count_51 rfl ?_
    refine ⟨?_, hcs, frC.refl _⟩
    have g1 := hG.1
    have g2 := hG.2.1
    have v1 := hV.1
    have n1 := hN.1
    have a1 := hA.1
    (repeat' split) <;> first | omega | exact g1 | exact g2 | exact v1 | exact n1 | exact a1
  · refine S.tableIn (tgt := 52) dX11_count_1 (by unfold fp_rng; omega) (by omega) (by omega) (by rw [hs]; rfl) (by decide) ?_
    refine S.aload_n (pc' := 53) dX11_count_52 rfl rfl rfl ?_
    refine S.getR (pc' := 56) dX11_count_53 rfl fX11_23 L_0 rf_0_3 ?_
    refine S.getI (pc' := 59) dX11_count_56 rfl fX11_225 (gd_lay gd18) ?_
    refine S.iret dX11_count_59 rfl ?_
    refine ⟨?_, hcs, frC.refl _⟩
    have g1 := hG.1
    have g2 := hG.2.1
    have v1 := hV.1
    have n1 := hN.1
    have a1 := hA.1
    (repeat' split) <;> first | omega | exact g1 | exact g2 | exact v1 | exact n1 | exact a1
  · refine S.tableIn (tgt := 60) dX11_count_1 (by unfold fp_rng; omega) (by omega) (by omega) (by rw [hs]; rfl) (by decide) ?_
    refine S.aload_n (pc' := 61) dX11_count_60 rfl rfl rfl ?_
    refine S.getR (pc' := 64) dX11_count_61 rfl fX11_37 L_0 rf_0_5 ?_
    refine S.getI (pc' := 67) dX11_count_64 rfl fX11_205 (vs_lay vs27) ?_
    refine S.iret dX11_count_67 rfl ?_
    refine ⟨?_, hcs, frC.refl _⟩
    have g1 := hG.1
    have g2 := hG.2.1
    have v1 := hV.1
    have n1 := hN.1
    have a1 := hA.1
    (repeat' split) <;> first | omega | exact g1 | exact g2 | exact v1 | exact n1 | exact a1
  · refine S.tableIn (tgt := 68) dX11_count_1 (by unfold fp_rng; omega) (by omega) (by omega) (by rw [hs]; rfl) (by decide) ?_
    refine S.aload_n (pc' := 69) dX11_count_68 rfl rfl rfl ?_
    refine S.getR (pc' := 72) dX11_count_69 rfl fX11_44 L_0 rf_0_6 ?_
    refine S.getI (pc' := 75) dX11_count_72 rfl fX11_119 (nt_lay nt32) ?_
    refine S.iret dX11_count_75 rfl ?_
    refine ⟨?_, hcs, frC.refl _⟩
    have g1 := hG.1
    have g2 := hG.2.1
    have v1 := hV.1
    have n1 := hN.1
    have a1 := hA.1
    (repeat' split) <;> first | omega | exact g1 | exact g2 | exact v1 | exact n1 | exact a1
  · refine S.tableIn (tgt := 76) dX11_count_1 (by unfold fp_rng; omega) (by omega) (by omega) (by rw [hs]; rfl) (by decide) ?_
    refine S.aload_n (pc' := 77) dX11_count_76 rfl rfl rfl ?_
    refine S.getR (pc' := 80) dX11_count_77 rfl fX11_78 L_0 rf_0_11 ?_
    refine S.iconst (pc' := 81) dX11_count_80 rfl ?_
    refine S.aald (pc' := 82) (t := 143) dX11_count_81 rfl L_141 (by decide) (by decide) (by omega) (by omega) (by decide +kernel) ?_
    refine S.getI (pc' := 85) dX11_count_82 rfl fX11_122 (im_lay im143) ?_
    refine S.if_eq (pc' := 88) (tgt := 92) dX11_count_85 (by decide) rfl (by unfold fp_rng; omega) (fun h85 => ?_) (fun h85 => ?_)
    · refine S.iconst (pc' := 93) dX11_count_92 rfl ?_
      refine S.aload_n (pc' := 94) dX11_count_93 rfl rfl rfl ?_
      refine S.getR (pc' := 97) dX11_count_94 rfl fX11_78 L_0 rf_0_11 ?_
      refine S.iconst (pc' := 98) dX11_count_97 rfl ?_
      refine S.aald (pc' := 99) (t := 156) dX11_count_98 rfl L_141 (by decide) (by decide) (by omega) (by omega) (by decide +kernel) ?_
      refine S.getI (pc' := 102) dX11_count_99 rfl fX11_122 (im_lay im156) ?_
      refine S.if_eq (pc' := 105) (tgt := 109) dX11_count_102 (by decide) rfl (by unfold fp_rng; omega) (fun h102 => ?_) (fun h102 => ?_)
      · refine S.iconst (pc' := 110) dX11_count_109 rfl ?_
        refine S.iadd (pc' := 111) dX11_count_110 rfl ?_
        refine S.iret dX11_count_111 rfl ?_
        refine ⟨?_, hcs, frC.refl _⟩
        have g1 := hG.1
        have g2 := hG.2.1
        have v1 := hV.1
        have n1 := hN.1
        have a1 := hA.1
        (repeat' split) <;> first | omega | exact g1 | exact g2 | exact v1 | exact n1 | exact a1
      · refine S.iconst (pc' := 106) dX11_count_105 rfl ?_
        refine S.goto (pc' := 110) dX11_count_106 (by decide) ?_
        refine S.iadd (pc' := 111) dX11_count_110 rfl ?_
        refine S.iret dX11_count_111 rfl ?_
        refine ⟨?_, hcs, frC.refl _⟩
        have g1 := hG.1
        have g2 := hG.2.1
        have v1 := hV.1
        have n1 := hN.1
        have a1 := hA.1
        (repeat' split) <;> first | omega | exact g1 | exact g2 | exact v1 | exact n1 | exact a1
    · refine S.iconst (pc' := 89) dX11_count_88 rfl ?_
      refine S.goto (pc' := 93) dX11_count_89 (by decide) ?_
      refine S.aload_n (pc' := 94) dX11_count_93 rfl rfl rfl ?_
      refine S.getR (pc' := 97) dX11_count_94 rfl fX11_78 L_0 rf_0_11 ?_
      refine S.iconst (pc' := 98) dX11_count_97 rfl ?_
      refine S.aald (pc' := 99) (t := 156) dX11_count_98 rfl L_141 (by decide) (by decide) (by omega) (by omega) (by decide +kernel) ?_
      refine S.getI (pc' := 102) dX11_count_99 rfl fX11_122 (im_lay im156) ?_
      refine S.if_eq (pc' := 105) (tgt := 109) dX11_count_102 (by decide) rfl (by unfold fp_rng; omega) (fun h102 => ?_) (fun h102 => ?_)
      · refine S.iconst (pc' := 110) dX11_count_109 rfl ?_
        refine S.iadd (pc' := 111) dX11_count_110 rfl ?_
        refine S.iret dX11_count_111 rfl ?_
        refine ⟨?_, hcs, frC.refl _⟩
        have g1 := hG.1
        have g2 := hG.2.1
        have v1 := hV.1
        have n1 := hN.1
        have a1 := hA.1
        (repeat' split) <;> first | omega | exact g1 | exact g2 | exact v1 | exact n1 | exact a1
      · refine S.iconst (pc' := 106) dX11_count_105 rfl ?_
        refine S.goto (pc' := 110) dX11_count_106 (by decide) ?_
        refine S.iadd (pc' := 111) dX11_count_110 rfl ?_
        refine S.iret dX11_count_111 rfl ?_
        refine ⟨?_, hcs, frC.refl _⟩
        have g1 := hG.1
        have g2 := hG.2.1
        have v1 := hV.1
        have n1 := hN.1
        have a1 := hA.1
        (repeat' split) <;> first | omega | exact g1 | exact g2 | exact v1 | exact n1 | exact a1
  · refine S.tableIn (tgt := 112) dX11_count_1 (by unfold fp_rng; omega) (by omega) (by omega) (by rw [hs]; rfl) (by decide) ?_
    refine S.aload_n (pc' := 113) dX11_count_112 rfl rfl rfl ?_
    refine S.getI (pc' := 116) dX11_count_113 rfl fX11_90 L_0 ?_
    refine S.iret dX11_count_116 rfl ?_
    refine ⟨?_, hcs, frC.refl _⟩
    have g1 := hG.1
    have g2 := hG.2.1
    have v1 := hV.1
    have n1 := hN.1
    have a1 := hA.1
    (repeat' split) <;> first | omega | exact g1 | exact g2 | exact v1 | exact n1 | exact a1
  · refine S.tableIn (tgt := 117) dX11_count_1 (by unfold fp_rng; omega) (by omega) (by omega) (by rw [hs]; rfl) (by decide) ?_
    refine S.aload_n (pc' := 118) dX11_count_117 rfl rfl rfl ?_
    refine S.getR (pc' := 121) dX11_count_118 rfl fX11_84 L_0 rf_0_12 ?_
    refine S.iconst (pc' := 122) dX11_count_121 rfl ?_
    refine S.aald (pc' := 123) (t := 169) dX11_count_122 rfl L_142 (by decide) (by decide) (by omega) (by omega) (by decide +kernel) ?_
    refine S.getI (pc' := 126) dX11_count_123 rfl fX11_344 (sh_lay sh169) ?_
    refine S.iret dX11_count_126 rfl ?_
    refine ⟨?_, hcs, frC.refl _⟩
    have g1 := hG.1
    have g2 := hG.2.1
    have v1 := hV.1
    have n1 := hN.1
    have a1 := hA.1
    (repeat' split) <;> first | omega | exact g1 | exact g2 | exact v1 | exact n1 | exact a1
theorem mm_count {w : Int} (hc : MS M tp fl g pg vs nt im sh tn) (ho : OK g pg vs nt im sh) (hw : fp_rng w) : fp_Ok l G 1 kX12_count [rV G 177, iV w] M (qI fun z N => z = A_count tp g vs nt im sh w ∧ MS N tp fl g pg vs nt im sh tn ∧ frD M N) := by
  have hcs := hc
  have hw' := hw
  unfold fp_rng at hw'
  obtain ⟨hA, hG, hP, hV, hN, hI, hS, hK⟩ := hc
  have i0 : M 199 (0 : Int).toNat = if (im 0).isSome then 1 else 0 := by
    rcases hI 0 (by omega) (by omega) with ⟨q1, q2⟩ | ⟨x, q1, q2, -⟩
    · rw [q1]; exact q2
    · rw [q1]; exact q2
  have i1 : M 199 (1 : Int).toNat = if (im 1).isSome then 1 else 0 := by
    rcases hI 1 (by omega) (by omega) with ⟨q1, q2⟩ | ⟨x, q1, q2, -⟩
    · rw [q1]; exact q2
    · rw [q1]; exact q2
  have b0 : M 199 (0 : Int).toNat = 0 ∨ M 199 (0 : Int).toNat = 1 := by rw [i0]; split <;> omega
  have b1 : M 199 (1 : Int).toNat = 0 ∨ M 199 (1 : Int).toNat = 1 := by rw [i1]; split <;> omega
  have s0 := hS 0 (by omega) (by omega)
  have s1 : M 200 (0 : Int).toNat = (sh 0).1 := s0.1
  have s2 : (sh 0).1 ≠ -4 → M 201 (0 : Int).toNat = (sh 0).2.1 := fun q => (s0.2 q).1
  have s3 : fp_rng (M 200 (0 : Int).toNat) := by
    rw [s1]
    unfold fp_rng
    have := ho.2.2.2.2.2 0 (by omega) (by omega)
    omega
  refine fp_Ok.of (r := 0) rfl (Nat.le_of_ble_eq_true rfl) rfl ?_
  unfold A_count
  rw [← i0, ← i1]
  refine S.iload_n (pc' := 1) dX12_count_0 rfl rfl rfl ?_
  rcases (show w < 0 ∨ 6 < w ∨ w = 0 ∨ w = 1 ∨ w = 2 ∨ w = 3 ∨ w = 4 ∨ w = 5 ∨ w = 6 by omega) with hs | hs | hs | hs | hs | hs | hs | hs | hs
  · refine S.tableOut (tgt := 125) dX12_count_1 (by unfold fp_rng; omega) (by omega) (by decide) ?_
    refine S.iconst (pc' := 126) dX12_count_125 rfl ?_
    refine S.iret dX12_count_126 rfl ?_
    refine ⟨?_, hcs, frD.refl _⟩
    have g1 := hG.1
    have g2 := hG.2.1
    have v1 := hV.1
    have n1 : M 178 (104 : Int).toNat = nt.length := hN.1
    have a1 := hA.1
    (repeat' split) <;> first | omega | exact g1 | exact g2 | exact v1 | exact n1 | exact a1
  · refine S.tableOut (tgt := 125) dX12_count_1 (by unfold fp_rng; omega) (by omega) (by decide) ?_
    refine S.iconst (pc' := 126) dX12_count_125 rfl ?_
    refine S.iret dX12_count_126 rfl ?_
    refine ⟨?_, hcs, frD.refl _⟩
    have g1 := hG.1
    have g2 := hG.2.1
    have v1 := hV.1
    have n1 : M 178 (104 : Int).toNat = nt.length := hN.1
    have a1 := hA.1
    (repeat' split) <;> first | omega | exact g1 | exact g2 | exact v1 | exact n1 | exact a1
  · refine S.tableIn (tgt := 44) dX12_count_1 (by unfold fp_rng; omega) (by omega) (by omega) (by rw [hs]; rfl) (by decide) ?_
    refine S.aload_n (pc' := 45) dX12_count_44 rfl rfl rfl ?_
    refine S.getI (pc' := 48) dX12_count_45 rfl fX12_181 L_177 ?_
    refine S.iret dX12_count_48 rfl ?_
    refine ⟨?_, hcs, frD.refl _⟩
    have g1 := hG.1
    have g2 := hG.2.1
    have v1 := hV.1
    have n1 : M 178 (104 : Int).toNat = nt.length := hN.1
    have a1 := hA.1
    (repeat' split) <;> first | omega | exact g1 | exact g2 | exact v1 | exact n1 | exact a1
  · refine S.tableIn (tgt := 49) dX12_count_1 (by unfold fp_rng; omega) (by omega) (by omega) (by rw [hs]; rfl) (by decide) ?_
    refine S.aload_n (pc' := 50) dX12_count_49 rfl rfl rfl ?_
    refine S.getI (pc' := 53) dX12_count_50 rfl fX12_184 L_177 ?_
    refine S.iret dX12_count_53 rfl ?_
    refine ⟨?_, hcs, frD.refl _⟩
    have g1 := hG.1
    have g2 := hG.2.1
    have v1 := hV.1
    have n1 : M 178 (104 : Int).toNat = nt.length := hN.1
    have a1 := hA.1
    (repeat' split) <;> first | omega | exact g1 | exact g2 | exact v1 | exact n1 | exact a1
  · refine S.tableIn (tgt := 54) dX12_count_1 (by unfold fp_rng; omega) (by omega) (by omega) (by rw [hs]; rfl) (by decide) ?_
    refine S.aload_n (pc' := 55) dX12_count_54 rfl rfl rfl ?_
    refine S.callVe (pc' := 58) dX12_count_55 rfl cX12_225 (ok_X12_visits) rfl L_177 (by decide) rfl (Nat.le_of_ble_eq_true rfl) ?_
    refine S.iret dX12_count_58 rfl ?_
    refine ⟨?_, hcs, frD.refl _⟩
    have g1 := hG.1
    have g2 := hG.2.1
    have v1 := hV.1
    have n1 : M 178 (104 : Int).toNat = nt.length := hN.1
    have a1 := hA.1
    (repeat' split) <;> first | omega | exact g1 | exact g2 | exact v1 | exact n1 | exact a1
  · refine S.tableIn (tgt := 59) dX12_count_1 (by unfold fp_rng; omega) (by omega) (by omega) (by rw [hs]; rfl) (by decide) ?_
    refine S.aload_n (pc' := 60) dX12_count_59 rfl rfl rfl ?_
    refine S.getR (pc' := 63) dX12_count_60 rfl fX12_7 L_177 rf_177_0 ?_
    refine S.bipush (pc' := 65) dX12_count_63 rfl (by decide) ?_
    refine S.iald (pc' := 66) dX12_count_65 rfl L_178 (by omega) (by omega) ?_
    refine S.iret dX12_count_66 rfl ?_
    refine ⟨?_, hcs, frD.refl _⟩
    have g1 := hG.1
    have g2 := hG.2.1
    have v1 := hV.1
    have n1 : M 178 (104 : Int).toNat = nt.length := hN.1
    have a1 := hA.1
    (repeat' split) <;> first | omega | exact g1 | exact g2 | exact v1 | exact n1 | exact a1
  · refine S.tableIn (tgt := 67) dX12_count_1 (by unfold fp_rng; omega) (by omega) (by omega) (by rw [hs]; rfl) (by decide) ?_
    refine S.aload_n (pc' := 68) dX12_count_67 rfl rfl rfl ?_
    refine S.getR (pc' := 71) dX12_count_68 rfl fX12_78 L_177 rf_177_40 ?_
    refine S.iconst (pc' := 72) dX12_count_71 rfl ?_
    refine S.zald (pc' := 73) dX12_count_72 rfl L_199 (by omega) (by omega) ?_
    refine S.if_eq (pc' := 76) (tgt := 80) dX12_count_73 (by decide) rfl (by unfold fp_rng; omega) (fun h73 => ?_) (fun h73 => ?_)
    · refine S.iconst (pc' := 81) dX12_count_80 rfl ?_
      refine S.aload_n (pc' := 82) dX12_count_81 rfl rfl rfl ?_
      refine S.getR (pc' := 85) dX12_count_82 rfl fX12_78 L_177 rf_177_40 ?_
      refine S.iconst (pc' := 86) dX12_count_85 rfl ?_
      refine S.zald (pc' := 87) dX12_count_86 rfl L_199 (by omega) (by omega) ?_
      refine S.if_eq (pc' := 90) (tgt := 94) dX12_count_87 (by decide) rfl (by unfold fp_rng; omega) (fun h87 => ?_) (fun h87 => ?_)
      · refine S.iconst (pc' := 95) dX12_count_94 rfl ?_
        refine S.iadd (pc' := 96) dX12_count_95 rfl ?_
        refine S.iret dX12_count_96 rfl ?_
        refine ⟨?_, hcs, frD.refl _⟩
        have g1 := hG.1
        have g2 := hG.2.1
        have v1 := hV.1
        have n1 : M 178 (104 : Int).toNat = nt.length := hN.1
        have a1 := hA.1
        (repeat' split) <;> first | omega | exact g1 | exact g2 | exact v1 | exact n1 | exact a1
      · refine S.iconst (pc' := 91) dX12_count_90 rfl ?_
        refine S.goto (pc' := 95) dX12_count_91 (by decide) ?_
        refine S.iadd (pc' := 96) dX12_count_95 rfl ?_
        refine S.iret dX12_count_96 rfl ?_
        refine ⟨?_, hcs, frD.refl _⟩
        have g1 := hG.1
        have g2 := hG.2.1
        have v1 := hV.1
        have n1 : M 178 (104 : Int).toNat = nt.length := hN.1
        have a1 := hA.1
        (repeat' split) <;> first | omega | exact g1 | exact g2 | exact v1 | exact n1 | exact a1
    · refine S.iconst (pc' := 77) dX12_count_76 rfl ?_
      refine S.goto (pc' := 81) dX12_count_77 (by decide) ?_
      refine S.aload_n (pc' := 82) dX12_count_81 rfl rfl rfl ?_
      refine S.getR (pc' := 85) dX12_count_82 rfl fX12_78 L_177 rf_177_40 ?_
      refine S.iconst (pc' := 86) dX12_count_85 rfl ?_
      refine S.zald (pc' := 87) dX12_count_86 rfl L_199 (by omega) (by omega) ?_
      refine S.if_eq (pc' := 90) (tgt := 94) dX12_count_87 (by decide) rfl (by unfold fp_rng; omega) (fun h87 => ?_) (fun h87 => ?_)
      · refine S.iconst (pc' := 95) dX12_count_94 rfl ?_
        refine S.iadd (pc' := 96) dX12_count_95 rfl ?_
        refine S.iret dX12_count_96 rfl ?_
        refine ⟨?_, hcs, frD.refl _⟩
        have g1 := hG.1
        have g2 := hG.2.1
        have v1 := hV.1
        have n1 : M 178 (104 : Int).toNat = nt.length := hN.1
        have a1 := hA.1
        (repeat' split) <;> first | omega | exact g1 | exact g2 | exact v1 | exact n1 | exact a1
      · refine S.iconst (pc' := 91) dX12_count_90 rfl ?_
        refine S.goto (pc' := 95) dX12_count_91 (by decide) ?_
        refine S.iadd (pc' := 96) dX12_count_95 rfl ?_
        refine S.iret dX12_count_96 rfl ?_
        refine ⟨?_, hcs, frD.refl _⟩
        have g1 := hG.1
        have g2 := hG.2.1
        have v1 := hV.1
        have n1 : M 178 (104 : Int).toNat = nt.length := hN.1
        have a1 := hA.1
        (repeat' split) <;> first | omega | exact g1 | exact g2 | exact v1 | exact n1 | exact a1
  · refine S.tableIn (tgt := 97) dX12_count_1 (by unfold fp_rng; omega) (by omega) (by omega) (by rw [hs]; rfl) (by decide) ?_
    refine S.aload_n (pc' := 98) dX12_count_97 rfl rfl rfl ?_
    refine S.getI (pc' := 101) dX12_count_98 rfl fX12_91 L_177 ?_
    refine S.iret dX12_count_101 rfl ?_
    refine ⟨?_, hcs, frD.refl _⟩
    have g1 := hG.1
    have g2 := hG.2.1
    have v1 := hV.1
    have n1 : M 178 (104 : Int).toNat = nt.length := hN.1
    have a1 := hA.1
    (repeat' split) <;> first | omega | exact g1 | exact g2 | exact v1 | exact n1 | exact a1
  · refine S.tableIn (tgt := 102) dX12_count_1 (by unfold fp_rng; omega) (by omega) (by omega) (by rw [hs]; rfl) (by decide) ?_
    refine S.aload_n (pc' := 103) dX12_count_102 rfl rfl rfl ?_
    refine S.getR (pc' := 106) dX12_count_103 rfl fX12_82 L_177 rf_177_41 ?_
    refine S.iconst (pc' := 107) dX12_count_106 rfl ?_
    refine S.iald (pc' := 108) dX12_count_107 rfl L_200 (by omega) (by omega) ?_
    refine S.bipush (pc' := 110) dX12_count_108 rfl (by decide) ?_
    refine S.icmp_ne (pc' := 113) (tgt := 118) dX12_count_110 (by decide) rfl s3 (by unfold fp_rng; omega) (fun h110 => ?_) (fun h110 => ?_)
    · refine S.aload_n (pc' := 119) dX12_count_118 rfl rfl rfl ?_
      refine S.getR (pc' := 122) dX12_count_119 rfl fX12_85 L_177 rf_177_42 ?_
      refine S.iconst (pc' := 123) dX12_count_122 rfl ?_
      refine S.iald (pc' := 124) dX12_count_123 rfl L_201 (by omega) (by omega) ?_
      refine S.iret dX12_count_124 rfl ?_
      refine ⟨?_, hcs, frD.refl _⟩
      have g1 := hG.1
      have g2 := hG.2.1
      have v1 := hV.1
      have n1 : M 178 (104 : Int).toNat = nt.length := hN.1
      have a1 := hA.1
      (repeat' split) <;> first | omega | exact g1 | exact g2 | exact v1 | exact n1 | exact a1
    · refine S.bipush (pc' := 115) dX12_count_113 rfl (by decide) ?_
      refine S.goto (pc' := 124) dX12_count_115 (by decide) ?_
      refine S.iret dX12_count_124 rfl ?_
      refine ⟨?_, hcs, frD.refl _⟩
      have g1 := hG.1
      have g2 := hG.2.1
      have v1 := hV.1
      have n1 : M 178 (104 : Int).toNat = nt.length := hN.1
      have a1 := hA.1
      (repeat' split) <;> first | omega | exact g1 | exact g2 | exact v1 | exact n1 | exact a1
end JOI
