/-! most: the class, the call -/
def aDrs (vs : List aVt) (p : Int) : Nat → Int
  | 0 => 0
  | n + 1 => aDrs vs p n + if aOwn vs p (n : Int) = true then 1 else 0
theorem aDrs_in (vs : List aVt) (p : Int) : ∀ n : Nat, 0 ≤ aDrs vs p n ∧ aDrs vs p n ≤ n
  | 0 => by show (0 : Int) ≤ 0 ∧ (0 : Int) ≤ ((0 : Nat) : Int); omega
  | n + 1 => by
    have := aDrs_in vs p n
    unfold aDrs
    split <;> omega
def aMo (g : aGd) (pg : aPg) (vs : List aVt) (p : Int) : moT := moC g vs p vs.length 0 pg (fun _ => -4) (-4, fun _ => 0)
def A_most (g : aGd) (pg : aPg) (vs : List aVt) (p w : Int) : Int := if ¬ ((0 ≤ p ∧ p < 4) ∧ (w = 0 ∨ (10 ≤ w ∧ w < 10 + vs.length))) then -1 else if g.2.1 = 0 ∨ 7 < aDrs vs p vs.length then -2 else if w = 0 then (aMo g pg vs p).1 else (aMo g pg vs p).2 (w - 10)
section CMP
variable {l : Launch} {G : fp_WG} {M N : fp_Mem} {tp : List Int} {fl : Int} {g : aGd} {pg : aPg} {vs : List aVt} {nt : List Int} {im : aIm} {sh : aSh} {tn : Int}
theorem drs_loop {p : Int} (hg : gOk g) (hvo : vsOk g vs) (hv : vsIs M 27 vs) (hp : fp_rng p) : ∀ (r k : Nat), vs.length - k < r → k ≤ vs.length →
    fp_S l G 2 kX10_drawsOf 4 [some (rV G 27), some (iV p), some (iV (aDrs vs p k)), some (iV (k : Int))] [] M (qE (aDrs vs p vs.length) M) := by
  have hl1 := hv.1
  have hl := hv.2.1
  intro r
  induction r with
  | zero => intro k hr; omega
  | succ r ih =>
    intro k hr hk
    by_cases he : k < vs.length
    · have hi := ih (k + 1) (by omega) (by omega)
      have es : aDrs vs p (k + 1) = aDrs vs p k + if aOwn vs p (k : Int) = true then 1 else 0 := rfl
      have cO := rk_X10_isDrawOf (l := l) (G := G) hg hvo hv hp (show 0 ≤ (k : Int) ∧ (k : Int) < (vs.length : Int) by omega)
      rw [es, show ((k + 1 : Nat) : Int) = (k : Int) + 1 by omega] at hi
      by_cases hown : aOwn vs p (k : Int) = true
      · rw [if_pos hown] at cO hi
        have h24 : fp_S l G 2 kX10_drawsOf 24 [some (rV G 27), some (iV p), some (iV (aDrs vs p k + 1)), some (iV (k : Int))] [] M (qE (aDrs vs p vs.length) M) := by
          refine S.iinc (pc' := 27) (LL' := [_, _, _, _]) dX10_drawsOf_24 rfl (by decide) rfl rfl rfl ?_
          refine S.goto (pc' := 4) dX10_drawsOf_27 (by decide) ?_
          exact hi
        refine S.iload_n (pc' := 5) dX10_drawsOf_4 rfl rfl rfl ?_
        refine S.aload_n (pc' := 6) dX10_drawsOf_5 rfl rfl rfl ?_
        refine S.getI (pc' := 9) dX10_drawsOf_6 rfl fX10_24 (vs_lay vs27) ?_
        refine S.icmp_ge (pc' := 12) (tgt := 30) dX10_drawsOf_9 (by decide) rfl (by unfold fp_rng; omega) (by unfold fp_rng; omega) (fun h9 => ?_) (fun h9 => ?_)
        · exfalso; omega
        · refine S.aload_n (pc' := 13) dX10_drawsOf_12 rfl rfl rfl ?_
          refine S.iload_n (pc' := 14) dX10_drawsOf_13 rfl rfl rfl ?_
          refine S.iload_n (pc' := 15) dX10_drawsOf_14 rfl rfl rfl ?_
          refine S.callVe (pc' := 18) dX10_drawsOf_15 rfl cX10_38 cO rfl (vs_lay vs27) (by decide) rfl (Nat.le_of_ble_eq_true rfl) ?_
          refine S.if_eq (pc' := 21) (tgt := 24) dX10_drawsOf_18 (by decide) rfl (by unfold fp_rng; omega) (fun h18 => ?_) (fun h18 => ?_)
          · first
            | (exact absurd h18 (by decide))
            | exact h24
          · refine S.iinc (pc' := 24) (LL' := [_, _, _, _]) dX10_drawsOf_21 rfl (by decide) rfl rfl rfl ?_
            first
            | (exact absurd h18 (by decide))
            | exact h24
      · rw [if_neg hown, Int.add_zero] at hi
        rw [if_neg hown] at cO
        refine S.iload_n (pc' := 5) dX10_drawsOf_4 rfl rfl rfl ?_
        refine S.aload_n (pc' := 6) dX10_drawsOf_5 rfl rfl rfl ?_
        refine S.getI (pc' := 9) dX10_drawsOf_6 rfl fX10_24 (vs_lay vs27) ?_
        refine S.icmp_ge (pc' := 12) (tgt := 30) dX10_drawsOf_9 (by decide) rfl (by unfold fp_rng; omega) (by unfold fp_rng; omega) (fun h9 => ?_) (fun h9 => ?_)
        · exfalso; omega
        · refine S.aload_n (pc' := 13) dX10_drawsOf_12 rfl rfl rfl ?_
          refine S.iload_n (pc' := 14) dX10_drawsOf_13 rfl rfl rfl ?_
          refine S.iload_n (pc' := 15) dX10_drawsOf_14 rfl rfl rfl ?_
          refine S.callVe (pc' := 18) dX10_drawsOf_15 rfl cX10_38 cO rfl (vs_lay vs27) (by decide) rfl (Nat.le_of_ble_eq_true rfl) ?_
          refine S.if_eq (pc' := 21) (tgt := 24) dX10_drawsOf_18 (by decide) rfl (by unfold fp_rng; omega) (fun h18 => ?_) (fun h18 => ?_)
          · refine S.iinc (pc' := 27) (LL' := [_, _, _, _]) dX10_drawsOf_24 rfl (by decide) rfl rfl rfl ?_
            refine S.goto (pc' := 4) dX10_drawsOf_27 (by decide) ?_
            exact hi
          · exact absurd rfl h18
    · have e : vs.length = k := by omega
      rw [e]
      refine S.iload_n (pc' := 5) dX10_drawsOf_4 rfl rfl rfl ?_
      refine S.aload_n (pc' := 6) dX10_drawsOf_5 rfl rfl rfl ?_
      refine S.getI (pc' := 9) dX10_drawsOf_6 rfl fX10_24 (vs_lay vs27) ?_
      refine S.icmp_ge (pc' := 12) (tgt := 30) dX10_drawsOf_9 (by decide) rfl (by unfold fp_rng; omega) (by unfold fp_rng; omega) (fun h9 => ?_) (fun h9 => ?_)
      · refine S.iload_n (pc' := 31) dX10_drawsOf_30 rfl rfl rfl ?_
        refine S.iret dX10_drawsOf_31 rfl ?_
        exact ⟨rfl, rfl⟩
      · exfalso; omega
theorem rk_X10_drawsOf {p : Int} (hg : gOk g) (hvo : vsOk g vs) (hv : vsIs M 27 vs) (hp : fp_rng p) : fp_Ok l G 2 kX10_drawsOf [rV G 27, iV p] M (qE (aDrs vs p vs.length) M) := by
  refine fp_Ok.of (r := 2) rfl (Nat.le_of_ble_eq_true rfl) rfl ?_
  refine S.iconst (pc' := 1) dX10_drawsOf_0 rfl ?_
  refine S.istore_n (pc' := 2) (LL' := [_, _, _, _]) dX10_drawsOf_1 rfl (by decide) rfl rfl rfl ?_
  refine S.iconst (pc' := 3) dX10_drawsOf_2 rfl ?_
  refine S.istore_n (pc' := 4) (LL' := [_, _, _, _]) dX10_drawsOf_3 rfl (by decide) rfl rfl rfl ?_
  exact drs_loop hg hvo hv hp (vs.length + 1) 0 (by omega) (by omega)
theorem rk_X8_findMost {p : Int} (hg : gOk g) (hP : pgOk g pg) (hvo : vsOk g vs) (hp : 0 ≤ p ∧ p < 4) (hcl : clIs M 22 g pg) (hd : gdIs M 18 g) (hv : vsIs M 27 vs) : fp_Ok l G 16 kX8_findMost [rV G 34, rV G 18, rV G 27, rV G 22, iV p] M (qV fun N => moB vs N (aMo g pg vs p) ∧ frZ M N) := by
  have hl := hv.2.1
  refine fp_Ok.of (r := 0) rfl (Nat.le_of_ble_eq_true rfl) rfl ?_
  refine S.aload_n (pc' := 1) dX8_findMost_0 rfl rfl rfl ?_
  refine S.getR (pc' := 4) dX8_findMost_1 rfl fX8_11 L_34 rf_34_0 ?_
  refine S.iconst (pc' := 5) dX8_findMost_4 rfl ?_
  refine S.aald (pc' := 6) (t := 41) dX8_findMost_5 rfl L_35 (by decide) (by decide) (by omega) (by omega) (by decide +kernel) ?_
  refine S.aload_n (pc' := 7) dX8_findMost_6 rfl rfl rfl ?_
  refine S.callVv (pc' := 10) dX8_findMost_7 rfl cX8_36 (rk_X5_copyFrom (g := g) (pg := pg) pl41 pl22 (by omega)) rfl (pl_lay pl41) (by omega) rfl (Nat.le_of_ble_eq_true rfl) (fun M7 q7 => ?_)
  obtain ⟨c1, f1⟩ := q7
  refine S.aload_n (pc' := 11) dX8_findMost_10 rfl rfl rfl ?_
  refine S.bipush (pc' := 13) dX8_findMost_11 rfl (by decide) ?_
  refine S.putI (pc' := 16) dX8_findMost_13 rfl fX8_67 L_34 ?_
  refine S.aload_n (pc' := 17) dX8_findMost_16 rfl rfl rfl ?_
  refine S.getR (pc' := 20) dX8_findMost_17 rfl fX8_28 L_34 rf_34_5 ?_
  refine S.bipush (pc' := 22) dX8_findMost_20 rfl (by decide) ?_
  refine S.callSw (pc' := 25) dX8_findMost_22 rfl cX8_70 (ok_J7_fill_53178 L_39) rfl (by omega) rfl (Nat.le_of_ble_eq_true rfl) ?_
  generalize hN : fp_upM (fp_up M7 34 3 (-4)) 39 (fun j => if (j : Int) < (12 : Nat) then -4 else fp_up M7 34 3 (-4) 39 j) = N1
  have ff : ∀ a, a ≠ 34 → a ≠ 39 → N1 a = M7 a := fun a h4 h9 => by rw [← hN, fp_upM_ne h9, fp_up_ne h4]
  have n34 : N1 34 3 = -4 := by rw [← hN, fp_upM_ne (by decide), fp_up_at, fp_upf_at]
  have n39 : ∀ j : Int, 0 ≤ j → j < vs.length → N1 39 j.toNat = -4 := fun j j0 j1 => by rw [← hN, fp_upM_at, if_pos (by omega)]
  refine S.aload_n (pc' := 26) dX8_findMost_25 rfl rfl rfl ?_
  refine S.aload_n (pc' := 27) dX8_findMost_26 rfl rfl rfl ?_
  refine S.aload_n (pc' := 28) dX8_findMost_27 rfl rfl rfl ?_
  refine S.iload (pc' := 30) dX8_findMost_28 rfl rfl ?_
  refine S.iconst (pc' := 31) dX8_findMost_30 rfl ?_
  refine S.callVv (pc' := 34) dX8_findMost_31 rfl cX8_76 (rk_X8_tryLines hg hvo hl hp vs.length 0 pg (fun _ => -4) (-4, fun _ => 0) N1 (by omega) (by omega) hP (c1.kept (fun a q1 q2 => ff a (by omega) (by omega))) (hd.kept (fun a q1 q2 => by rw [ff a (by omega) (by omega)]; exact f1 a (by omega))) (hv.kept (fun a q1 q2 => by rw [ff a (by omega) (by omega)]; exact f1 a (by omega))) ⟨n34, fun q => absurd rfl q⟩ ⟨fun j j0 j1 => by omega, fun j j0 j1 _ => n39 j j0 j1⟩ (by decide)) rfl L_34 (by omega) rfl (Nat.le_of_ble_eq_true rfl) (fun M31 q31 => ?_)
  refine S.vret dX8_findMost_34 rfl ?_
  obtain ⟨t1, t2, t3⟩ := q31
  exact ⟨t1, fun a ha => by rw [t3 a (by omega), ff a (by omega) (by omega)]; exact f1 a (by omega)⟩
theorem cc_most {p w : Int} (hc : CS M tp fl g pg vs nt im sh tn) (ho : OK g pg vs nt im sh) (hp : fp_rng p) (hw : fp_rng w) : fp_Ok l G 17 kX11_most [rV G 0, iV p, iV w] M (qI fun z N => z = A_most g pg vs p w ∧ CS N tp fl g pg vs nt im sh tn ∧ frC M N) := by
  have hcs := hc
  obtain ⟨-, hd, hcl, hv, -⟩ := hc
  obtain ⟨hg, hP, hvo, -⟩ := ho
  have hl1 := hv.1
  have hl := hv.2.1
  have hg1 := hg.1
  have hg2 := hg.2.1
  have e1 : M 18 1 = g.2.1 := hd.2.1
  have hD := aDrs_in vs p vs.length
  have hw' := hw
  unfold fp_rng at hw'
  have cD := rk_X10_drawsOf (l := l) (G := G) hg hvo hv hp
  refine fp_Ok.of (r := 1) rfl (Nat.le_of_ble_eq_true rfl) rfl ?_
  unfold A_most
  by_cases hin : (0 ≤ p ∧ p < 4) ∧ (w = 0 ∨ (10 ≤ w ∧ w < 10 + vs.length))
  · rw [if_neg (fun q => q hin)]
    by_cases hst : g.2.1 = 0 ∨ 7 < aDrs vs p vs.length
    · rw [if_pos hst]
      refine S.iload_n (pc' := 1) dX11_most_0 rfl rfl rfl ?_
      refine S.bipush (pc' := 3) dX11_most_1 rfl (by decide) ?_
      refine S.icmp_lt (pc' := 6) (tgt := 24) dX11_most_3 (by decide) rfl hw (by unfold fp_rng; omega) (fun h3 => ?_) (fun h3 => ?_)
      · refine S.iconst (pc' := 25) dX11_most_24 rfl ?_
        refine S.istore_n (pc' := 26) (LL' := [_, _, _, _]) dX11_most_25 rfl (by decide) rfl rfl rfl ?_
        refine S.iload_n (pc' := 27) dX11_most_26 rfl rfl rfl ?_
        refine S.callSi (pc' := 30) dX11_most_27 rfl cX11_181 (bk_X11_isOne) rfl (by decide) rfl (Nat.le_of_ble_eq_true rfl) (fun z27 M27 q27 => ?_)
        obtain ⟨b27, rfl⟩ := q27
        refine S.if_eq (pc' := 33) (tgt := 41) dX11_most_30 (by decide) rfl (by unfold fp_rng; omega) (fun h30 => ?_) (fun h30 => ?_)
        · exfalso; omega
        · refine S.iload_n (pc' := 34) dX11_most_33 rfl rfl rfl ?_
          refine S.if_eq (pc' := 37) (tgt := 43) dX11_most_34 (by decide) rfl hw (fun h34 => ?_) (fun h34 => ?_)
          · refine S.aload_n (pc' := 44) dX11_most_43 rfl rfl rfl ?_
            refine S.getR (pc' := 47) dX11_most_44 rfl fX11_23 L_0 rf_0_3 ?_
            refine S.getI (pc' := 50) dX11_most_47 rfl fX11_225 (gd_lay gd18) ?_
            refine S.if_eq (pc' := 53) (tgt := 66) dX11_most_50 (by decide) rfl (by unfold fp_rng; omega) (fun h50 => ?_) (fun h50 => ?_)
            · refine S.bipush (pc' := 68) dX11_most_66 rfl (by decide) ?_
              refine S.iret dX11_most_68 rfl ?_
              exact ⟨rfl, hcs, frC.refl _⟩
            · refine S.aload_n (pc' := 54) dX11_most_53 rfl rfl rfl ?_
              refine S.getR (pc' := 57) dX11_most_54 rfl fX11_37 L_0 rf_0_5 ?_
              refine S.iload_n (pc' := 58) dX11_most_57 rfl rfl rfl ?_
              refine S.callVe (pc' := 61) dX11_most_58 rfl cX11_239 cD rfl (vs_lay vs27) (by decide) rfl (Nat.le_of_ble_eq_true rfl) ?_
              refine S.bipush (pc' := 63) dX11_most_61 rfl (by decide) ?_
              refine S.icmp_le (pc' := 66) (tgt := 69) dX11_most_63 (by decide) rfl (by unfold fp_rng; omega) (by unfold fp_rng; omega) (fun h63 => ?_) (fun h63 => ?_)
              · exfalso; omega
              · refine S.bipush (pc' := 68) dX11_most_66 rfl (by decide) ?_
                refine S.iret dX11_most_68 rfl ?_
                exact ⟨rfl, hcs, frC.refl _⟩
          · refine S.iload_n (pc' := 38) dX11_most_37 rfl rfl rfl ?_
            refine S.if_ne (pc' := 41) (tgt := 43) dX11_most_38 (by decide) rfl (by unfold fp_rng; omega) (fun h38 => ?_) (fun h38 => ?_)
            · refine S.aload_n (pc' := 44) dX11_most_43 rfl rfl rfl ?_
              refine S.getR (pc' := 47) dX11_most_44 rfl fX11_23 L_0 rf_0_3 ?_
              refine S.getI (pc' := 50) dX11_most_47 rfl fX11_225 (gd_lay gd18) ?_
              refine S.if_eq (pc' := 53) (tgt := 66) dX11_most_50 (by decide) rfl (by unfold fp_rng; omega) (fun h50 => ?_) (fun h50 => ?_)
              · refine S.bipush (pc' := 68) dX11_most_66 rfl (by decide) ?_
                refine S.iret dX11_most_68 rfl ?_
                exact ⟨rfl, hcs, frC.refl _⟩
              · refine S.aload_n (pc' := 54) dX11_most_53 rfl rfl rfl ?_
                refine S.getR (pc' := 57) dX11_most_54 rfl fX11_37 L_0 rf_0_5 ?_
                refine S.iload_n (pc' := 58) dX11_most_57 rfl rfl rfl ?_
                refine S.callVe (pc' := 61) dX11_most_58 rfl cX11_239 cD rfl (vs_lay vs27) (by decide) rfl (Nat.le_of_ble_eq_true rfl) ?_
                refine S.bipush (pc' := 63) dX11_most_61 rfl (by decide) ?_
                refine S.icmp_le (pc' := 66) (tgt := 69) dX11_most_63 (by decide) rfl (by unfold fp_rng; omega) (by unfold fp_rng; omega) (fun h63 => ?_) (fun h63 => ?_)
                · exfalso; omega
                · refine S.bipush (pc' := 68) dX11_most_66 rfl (by decide) ?_
                  refine S.iret dX11_most_68 rfl ?_
                  exact ⟨rfl, hcs, frC.refl _⟩
            · exfalso; omega
      · refine S.aload_n (pc' := 7) dX11_most_6 rfl rfl rfl ?_
        refine S.getR (pc' := 10) dX11_most_7 rfl fX11_37 L_0 rf_0_5 ?_
        refine S.iload_n (pc' := 11) dX11_most_10 rfl rfl rfl ?_
        refine S.bipush (pc' := 13) dX11_most_11 rfl (by decide) ?_
        refine S.isub (pc' := 14) dX11_most_13 rfl ?_
        refine S.callVi (pc' := 17) dX11_most_14 rfl cX11_163 (bk_X10_has vs27) rfl (vs_lay vs27) (by decide) rfl (Nat.le_of_ble_eq_true rfl) (fun z14 M14 q14 => ?_)
        obtain ⟨b14, rfl⟩ := q14
        refine S.if_eq (pc' := 20) (tgt := 24) dX11_most_17 (by decide) rfl (by unfold fp_rng; omega) (fun h17 => ?_) (fun h17 => ?_)
        · refine S.iconst (pc' := 25) dX11_most_24 rfl ?_
          refine S.istore_n (pc' := 26) (LL' := [_, _, _, _]) dX11_most_25 rfl (by decide) rfl rfl rfl ?_
          refine S.iload_n (pc' := 27) dX11_most_26 rfl rfl rfl ?_
          refine S.callSi (pc' := 30) dX11_most_27 rfl cX11_181 (bk_X11_isOne) rfl (by decide) rfl (Nat.le_of_ble_eq_true rfl) (fun z27 M27 q27 => ?_)
          obtain ⟨b27, rfl⟩ := q27
          refine S.if_eq (pc' := 33) (tgt := 41) dX11_most_30 (by decide) rfl (by unfold fp_rng; omega) (fun h30 => ?_) (fun h30 => ?_)
          · exfalso; omega
          · refine S.iload_n (pc' := 34) dX11_most_33 rfl rfl rfl ?_
            refine S.if_eq (pc' := 37) (tgt := 43) dX11_most_34 (by decide) rfl hw (fun h34 => ?_) (fun h34 => ?_)
            · refine S.aload_n (pc' := 44) dX11_most_43 rfl rfl rfl ?_
              refine S.getR (pc' := 47) dX11_most_44 rfl fX11_23 L_0 rf_0_3 ?_
              refine S.getI (pc' := 50) dX11_most_47 rfl fX11_225 (gd_lay gd18) ?_
              refine S.if_eq (pc' := 53) (tgt := 66) dX11_most_50 (by decide) rfl (by unfold fp_rng; omega) (fun h50 => ?_) (fun h50 => ?_)
              · refine S.bipush (pc' := 68) dX11_most_66 rfl (by decide) ?_
                refine S.iret dX11_most_68 rfl ?_
                exact ⟨rfl, hcs, frC.refl _⟩
              · refine S.aload_n (pc' := 54) dX11_most_53 rfl rfl rfl ?_
                refine S.getR (pc' := 57) dX11_most_54 rfl fX11_37 L_0 rf_0_5 ?_
                refine S.iload_n (pc' := 58) dX11_most_57 rfl rfl rfl ?_
                refine S.callVe (pc' := 61) dX11_most_58 rfl cX11_239 cD rfl (vs_lay vs27) (by decide) rfl (Nat.le_of_ble_eq_true rfl) ?_
                refine S.bipush (pc' := 63) dX11_most_61 rfl (by decide) ?_
                refine S.icmp_le (pc' := 66) (tgt := 69) dX11_most_63 (by decide) rfl (by unfold fp_rng; omega) (by unfold fp_rng; omega) (fun h63 => ?_) (fun h63 => ?_)
                · exfalso; omega
                · refine S.bipush (pc' := 68) dX11_most_66 rfl (by decide) ?_
                  refine S.iret dX11_most_68 rfl ?_
                  exact ⟨rfl, hcs, frC.refl _⟩
            · refine S.iload_n (pc' := 38) dX11_most_37 rfl rfl rfl ?_
              refine S.if_ne (pc' := 41) (tgt := 43) dX11_most_38 (by decide) rfl (by unfold fp_rng; omega) (fun h38 => ?_) (fun h38 => ?_)
              · refine S.aload_n (pc' := 44) dX11_most_43 rfl rfl rfl ?_
                refine S.getR (pc' := 47) dX11_most_44 rfl fX11_23 L_0 rf_0_3 ?_
                refine S.getI (pc' := 50) dX11_most_47 rfl fX11_225 (gd_lay gd18) ?_
                refine S.if_eq (pc' := 53) (tgt := 66) dX11_most_50 (by decide) rfl (by unfold fp_rng; omega) (fun h50 => ?_) (fun h50 => ?_)
                · refine S.bipush (pc' := 68) dX11_most_66 rfl (by decide) ?_
                  refine S.iret dX11_most_68 rfl ?_
                  exact ⟨rfl, hcs, frC.refl _⟩
                · refine S.aload_n (pc' := 54) dX11_most_53 rfl rfl rfl ?_
                  refine S.getR (pc' := 57) dX11_most_54 rfl fX11_37 L_0 rf_0_5 ?_
                  refine S.iload_n (pc' := 58) dX11_most_57 rfl rfl rfl ?_
                  refine S.callVe (pc' := 61) dX11_most_58 rfl cX11_239 cD rfl (vs_lay vs27) (by decide) rfl (Nat.le_of_ble_eq_true rfl) ?_
                  refine S.bipush (pc' := 63) dX11_most_61 rfl (by decide) ?_
                  refine S.icmp_le (pc' := 66) (tgt := 69) dX11_most_63 (by decide) rfl (by unfold fp_rng; omega) (by unfold fp_rng; omega) (fun h63 => ?_) (fun h63 => ?_)
                  · exfalso; omega
                  · refine S.bipush (pc' := 68) dX11_most_66 rfl (by decide) ?_
                    refine S.iret dX11_most_68 rfl ?_
                    exact ⟨rfl, hcs, frC.refl _⟩
              · exfalso; omega
        · refine S.iconst (pc' := 21) dX11_most_20 rfl ?_
          refine S.goto (pc' := 25) dX11_most_21 (by decide) ?_
          refine S.istore_n (pc' := 26) (LL' := [_, _, _, _]) dX11_most_25 rfl (by decide) rfl rfl rfl ?_
          refine S.iload_n (pc' := 27) dX11_most_26 rfl rfl rfl ?_
          refine S.callSi (pc' := 30) dX11_most_27 rfl cX11_181 (bk_X11_isOne) rfl (by decide) rfl (Nat.le_of_ble_eq_true rfl) (fun z27 M27 q27 => ?_)
          obtain ⟨b27, rfl⟩ := q27
          refine S.if_eq (pc' := 33) (tgt := 41) dX11_most_30 (by decide) rfl (by unfold fp_rng; omega) (fun h30 => ?_) (fun h30 => ?_)
          · exfalso; omega
          · refine S.iload_n (pc' := 34) dX11_most_33 rfl rfl rfl ?_
            refine S.if_eq (pc' := 37) (tgt := 43) dX11_most_34 (by decide) rfl hw (fun h34 => ?_) (fun h34 => ?_)
            · refine S.aload_n (pc' := 44) dX11_most_43 rfl rfl rfl ?_
              refine S.getR (pc' := 47) dX11_most_44 rfl fX11_23 L_0 rf_0_3 ?_
              refine S.getI (pc' := 50) dX11_most_47 rfl fX11_225 (gd_lay gd18) ?_
              refine S.if_eq (pc' := 53) (tgt := 66) dX11_most_50 (by decide) rfl (by unfold fp_rng; omega) (fun h50 => ?_) (fun h50 => ?_)
              · refine S.bipush (pc' := 68) dX11_most_66 rfl (by decide) ?_
                refine S.iret dX11_most_68 rfl ?_
                exact ⟨rfl, hcs, frC.refl _⟩
              · refine S.aload_n (pc' := 54) dX11_most_53 rfl rfl rfl ?_
                refine S.getR (pc' := 57) dX11_most_54 rfl fX11_37 L_0 rf_0_5 ?_
                refine S.iload_n (pc' := 58) dX11_most_57 rfl rfl rfl ?_
                refine S.callVe (pc' := 61) dX11_most_58 rfl cX11_239 cD rfl (vs_lay vs27) (by decide) rfl (Nat.le_of_ble_eq_true rfl) ?_
                refine S.bipush (pc' := 63) dX11_most_61 rfl (by decide) ?_
                refine S.icmp_le (pc' := 66) (tgt := 69) dX11_most_63 (by decide) rfl (by unfold fp_rng; omega) (by unfold fp_rng; omega) (fun h63 => ?_) (fun h63 => ?_)
                · exfalso; omega
                · refine S.bipush (pc' := 68) dX11_most_66 rfl (by decide) ?_
                  refine S.iret dX11_most_68 rfl ?_
                  exact ⟨rfl, hcs, frC.refl _⟩
            · refine S.iload_n (pc' := 38) dX11_most_37 rfl rfl rfl ?_
              refine S.if_ne (pc' := 41) (tgt := 43) dX11_most_38 (by decide) rfl (by unfold fp_rng; omega) (fun h38 => ?_) (fun h38 => ?_)
              · refine S.aload_n (pc' := 44) dX11_most_43 rfl rfl rfl ?_
                refine S.getR (pc' := 47) dX11_most_44 rfl fX11_23 L_0 rf_0_3 ?_
                refine S.getI (pc' := 50) dX11_most_47 rfl fX11_225 (gd_lay gd18) ?_
                refine S.if_eq (pc' := 53) (tgt := 66) dX11_most_50 (by decide) rfl (by unfold fp_rng; omega) (fun h50 => ?_) (fun h50 => ?_)
                · refine S.bipush (pc' := 68) dX11_most_66 rfl (by decide) ?_
                  refine S.iret dX11_most_68 rfl ?_
                  exact ⟨rfl, hcs, frC.refl _⟩
                · refine S.aload_n (pc' := 54) dX11_most_53 rfl rfl rfl ?_
                  refine S.getR (pc' := 57) dX11_most_54 rfl fX11_37 L_0 rf_0_5 ?_
                  refine S.iload_n (pc' := 58) dX11_most_57 rfl rfl rfl ?_
                  refine S.callVe (pc' := 61) dX11_most_58 rfl cX11_239 cD rfl (vs_lay vs27) (by decide) rfl (Nat.le_of_ble_eq_true rfl) ?_
                  refine S.bipush (pc' := 63) dX11_most_61 rfl (by decide) ?_
                  refine S.icmp_le (pc' := 66) (tgt := 69) dX11_most_63 (by decide) rfl (by unfold fp_rng; omega) (by unfold fp_rng; omega) (fun h63 => ?_) (fun h63 => ?_)
                  · exfalso; omega
                  · refine S.bipush (pc' := 68) dX11_most_66 rfl (by decide) ?_
                    refine S.iret dX11_most_68 rfl ?_
                    exact ⟨rfl, hcs, frC.refl _⟩
              · exfalso; omega
    · rw [if_neg hst]
      have hup := (moC_up (vs := vs) hg hin.1 (by omega) vs.length 0 pg (fun _ => -4) (-4, fun _ => 0)).1
      have hup2 : (aMo g pg vs p).1 ≠ -4 := by unfold aMo; omega
      have h93 : w ≠ 0 → ∀ (N : fp_Mem) (z3 : Int), moB vs N (aMo g pg vs p) → frZ M N → fp_S l G 17 kX11_most 93 [some (rV G 0), some (iV p), some (iV w), some (iV z3)] [] N (qI fun z N => z = (if w = 0 then (aMo g pg vs p).1 else (aMo g pg vs p).2 (w - 10)) ∧ CS N tp fl g pg vs nt im sh tn ∧ frC M N) := by
        intro w0 N z3 t1 f1
        refine S.aload_n (pc' := 94) dX11_most_93 rfl rfl rfl ?_
        refine S.getR (pc' := 97) dX11_most_94 rfl fX11_51 L_0 rf_0_7 ?_
        refine S.getR (pc' := 100) dX11_most_97 rfl fX11_246 L_34 rf_34_4 ?_
        refine S.iload_n (pc' := 101) dX11_most_100 rfl rfl rfl ?_
        refine S.bipush (pc' := 103) dX11_most_101 rfl (by decide) ?_
        refine S.isub (pc' := 104) dX11_most_103 rfl ?_
        refine S.iald (pc' := 105) dX11_most_104 rfl L_38 (by omega) (by omega) ?_
        refine S.goto (pc' := 115) dX11_most_105 (by decide) ?_
        refine S.iret dX11_most_115 rfl ?_
        exact ⟨by rw [if_neg w0]; exact t1.2 hup2 (w - 10) (by omega) (by omega), hcs.scz f1, f1.c⟩
      have h108 : w = 0 → ∀ (N : fp_Mem) (z3 : Int), moB vs N (aMo g pg vs p) → frZ M N → fp_S l G 17 kX11_most 108 [some (rV G 0), some (iV p), some (iV w), some (iV z3)] [] N (qI fun z N => z = (if w = 0 then (aMo g pg vs p).1 else (aMo g pg vs p).2 (w - 10)) ∧ CS N tp fl g pg vs nt im sh tn ∧ frC M N) := by
        intro w0 N z3 t1 f1
        refine S.aload_n (pc' := 109) dX11_most_108 rfl rfl rfl ?_
        refine S.getR (pc' := 112) dX11_most_109 rfl fX11_51 L_0 rf_0_7 ?_
        refine S.getI (pc' := 115) dX11_most_112 rfl fX11_249 L_34 ?_
        refine S.iret dX11_most_115 rfl ?_
        exact ⟨by rw [if_pos w0]; exact t1.1, hcs.scz f1, f1.c⟩
      refine S.iload_n (pc' := 1) dX11_most_0 rfl rfl rfl ?_
      refine S.bipush (pc' := 3) dX11_most_1 rfl (by decide) ?_
      refine S.icmp_lt (pc' := 6) (tgt := 24) dX11_most_3 (by decide) rfl hw (by unfold fp_rng; omega) (fun h3 => ?_) (fun h3 => ?_)
      · refine S.iconst (pc' := 25) dX11_most_24 rfl ?_
        refine S.istore_n (pc' := 26) (LL' := [_, _, _, _]) dX11_most_25 rfl (by decide) rfl rfl rfl ?_
        refine S.iload_n (pc' := 27) dX11_most_26 rfl rfl rfl ?_
        refine S.callSi (pc' := 30) dX11_most_27 rfl cX11_181 (bk_X11_isOne) rfl (by decide) rfl (Nat.le_of_ble_eq_true rfl) (fun z27 M27 q27 => ?_)
        obtain ⟨b27, rfl⟩ := q27
        refine S.if_eq (pc' := 33) (tgt := 41) dX11_most_30 (by decide) rfl (by unfold fp_rng; omega) (fun h30 => ?_) (fun h30 => ?_)
        · exfalso; omega
        · refine S.iload_n (pc' := 34) dX11_most_33 rfl rfl rfl ?_
          refine S.if_eq (pc' := 37) (tgt := 43) dX11_most_34 (by decide) rfl hw (fun h34 => ?_) (fun h34 => ?_)
          · refine S.aload_n (pc' := 44) dX11_most_43 rfl rfl rfl ?_
            refine S.getR (pc' := 47) dX11_most_44 rfl fX11_23 L_0 rf_0_3 ?_
            refine S.getI (pc' := 50) dX11_most_47 rfl fX11_225 (gd_lay gd18) ?_
            refine S.if_eq (pc' := 53) (tgt := 66) dX11_most_50 (by decide) rfl (by unfold fp_rng; omega) (fun h50 => ?_) (fun h50 => ?_)
            · exfalso; omega
            · refine S.aload_n (pc' := 54) dX11_most_53 rfl rfl rfl ?_
              refine S.getR (pc' := 57) dX11_most_54 rfl fX11_37 L_0 rf_0_5 ?_
              refine S.iload_n (pc' := 58) dX11_most_57 rfl rfl rfl ?_
              refine S.callVe (pc' := 61) dX11_most_58 rfl cX11_239 cD rfl (vs_lay vs27) (by decide) rfl (Nat.le_of_ble_eq_true rfl) ?_
              refine S.bipush (pc' := 63) dX11_most_61 rfl (by decide) ?_
              refine S.icmp_le (pc' := 66) (tgt := 69) dX11_most_63 (by decide) rfl (by unfold fp_rng; omega) (by unfold fp_rng; omega) (fun h63 => ?_) (fun h63 => ?_)
              · refine S.aload_n (pc' := 70) dX11_most_69 rfl rfl rfl ?_
                refine S.getR (pc' := 73) dX11_most_70 rfl fX11_51 L_0 rf_0_7 ?_
                refine S.aload_n (pc' := 74) dX11_most_73 rfl rfl rfl ?_
                refine S.getR (pc' := 77) dX11_most_74 rfl fX11_23 L_0 rf_0_3 ?_
                refine S.aload_n (pc' := 78) dX11_most_77 rfl rfl rfl ?_
                refine S.getR (pc' := 81) dX11_most_78 rfl fX11_37 L_0 rf_0_5 ?_
                refine S.aload_n (pc' := 82) dX11_most_81 rfl rfl rfl ?_
                refine S.getR (pc' := 85) dX11_most_82 rfl fX11_30 L_0 rf_0_4 ?_
                refine S.iload_n (pc' := 86) dX11_most_85 rfl rfl rfl ?_
                refine S.callVv (pc' := 89) dX11_most_86 rfl cX11_242 (rk_X8_findMost hg hP hvo hin.1 hcl hd hv) rfl L_34 (by decide) rfl (Nat.le_of_ble_eq_true rfl) (fun M86 q86 => ?_)
                obtain ⟨t1, f1⟩ := q86
                refine S.iload_n (pc' := 90) dX11_most_89 rfl rfl rfl ?_
                refine S.if_eq (pc' := 93) (tgt := 108) dX11_most_90 (by decide) rfl (by unfold fp_rng; omega) (fun h90 => ?_) (fun h90 => ?_)
                · first
                  | (exfalso; omega)
                  | exact h108 (by omega) _ _ t1 f1
                · first
                  | (exfalso; omega)
                  | exact h93 (by omega) _ _ t1 f1
              · exfalso; omega
          · refine S.iload_n (pc' := 38) dX11_most_37 rfl rfl rfl ?_
            refine S.if_ne (pc' := 41) (tgt := 43) dX11_most_38 (by decide) rfl (by unfold fp_rng; omega) (fun h38 => ?_) (fun h38 => ?_)
            · refine S.aload_n (pc' := 44) dX11_most_43 rfl rfl rfl ?_
              refine S.getR (pc' := 47) dX11_most_44 rfl fX11_23 L_0 rf_0_3 ?_
              refine S.getI (pc' := 50) dX11_most_47 rfl fX11_225 (gd_lay gd18) ?_
              refine S.if_eq (pc' := 53) (tgt := 66) dX11_most_50 (by decide) rfl (by unfold fp_rng; omega) (fun h50 => ?_) (fun h50 => ?_)
              · exfalso; omega
              · refine S.aload_n (pc' := 54) dX11_most_53 rfl rfl rfl ?_
                refine S.getR (pc' := 57) dX11_most_54 rfl fX11_37 L_0 rf_0_5 ?_
                refine S.iload_n (pc' := 58) dX11_most_57 rfl rfl rfl ?_
                refine S.callVe (pc' := 61) dX11_most_58 rfl cX11_239 cD rfl (vs_lay vs27) (by decide) rfl (Nat.le_of_ble_eq_true rfl) ?_
                refine S.bipush (pc' := 63) dX11_most_61 rfl (by decide) ?_
                refine S.icmp_le (pc' := 66) (tgt := 69) dX11_most_63 (by decide) rfl (by unfold fp_rng; omega) (by unfold fp_rng; omega) (fun h63 => ?_) (fun h63 => ?_)
                · refine S.aload_n (pc' := 70) dX11_most_69 rfl rfl rfl ?_
                  refine S.getR (pc' := 73) dX11_most_70 rfl fX11_51 L_0 rf_0_7 ?_
                  refine S.aload_n (pc' := 74) dX11_most_73 rfl rfl rfl ?_
                  refine S.getR (pc' := 77) dX11_most_74 rfl fX11_23 L_0 rf_0_3 ?_
                  refine S.aload_n (pc' := 78) dX11_most_77 rfl rfl rfl ?_
                  refine S.getR (pc' := 81) dX11_most_78 rfl fX11_37 L_0 rf_0_5 ?_
                  refine S.aload_n (pc' := 82) dX11_most_81 rfl rfl rfl ?_
                  refine S.getR (pc' := 85) dX11_most_82 rfl fX11_30 L_0 rf_0_4 ?_
                  refine S.iload_n (pc' := 86) dX11_most_85 rfl rfl rfl ?_
                  refine S.callVv (pc' := 89) dX11_most_86 rfl cX11_242 (rk_X8_findMost hg hP hvo hin.1 hcl hd hv) rfl L_34 (by decide) rfl (Nat.le_of_ble_eq_true rfl) (fun M86 q86 => ?_)
                  obtain ⟨t1, f1⟩ := q86
                  refine S.iload_n (pc' := 90) dX11_most_89 rfl rfl rfl ?_
                  refine S.if_eq (pc' := 93) (tgt := 108) dX11_most_90 (by decide) rfl (by unfold fp_rng; omega) (fun h90 => ?_) (fun h90 => ?_)
                  · first
                    | (exfalso; omega)
                    | exact h108 (by omega) _ _ t1 f1
                  · first
                    | (exfalso; omega)
                    | exact h93 (by omega) _ _ t1 f1
                · exfalso; omega
            · exfalso; omega
      · refine S.aload_n (pc' := 7) dX11_most_6 rfl rfl rfl ?_
        refine S.getR (pc' := 10) dX11_most_7 rfl fX11_37 L_0 rf_0_5 ?_
        refine S.iload_n (pc' := 11) dX11_most_10 rfl rfl rfl ?_
        refine S.bipush (pc' := 13) dX11_most_11 rfl (by decide) ?_
        refine S.isub (pc' := 14) dX11_most_13 rfl ?_
        refine S.callVi (pc' := 17) dX11_most_14 rfl cX11_163 (bk_X10_has vs27) rfl (vs_lay vs27) (by decide) rfl (Nat.le_of_ble_eq_true rfl) (fun z14 M14 q14 => ?_)
        obtain ⟨b14, rfl⟩ := q14
        refine S.if_eq (pc' := 20) (tgt := 24) dX11_most_17 (by decide) rfl (by unfold fp_rng; omega) (fun h17 => ?_) (fun h17 => ?_)
        · refine S.iconst (pc' := 25) dX11_most_24 rfl ?_
          refine S.istore_n (pc' := 26) (LL' := [_, _, _, _]) dX11_most_25 rfl (by decide) rfl rfl rfl ?_
          refine S.iload_n (pc' := 27) dX11_most_26 rfl rfl rfl ?_
          refine S.callSi (pc' := 30) dX11_most_27 rfl cX11_181 (bk_X11_isOne) rfl (by decide) rfl (Nat.le_of_ble_eq_true rfl) (fun z27 M27 q27 => ?_)
          obtain ⟨b27, rfl⟩ := q27
          refine S.if_eq (pc' := 33) (tgt := 41) dX11_most_30 (by decide) rfl (by unfold fp_rng; omega) (fun h30 => ?_) (fun h30 => ?_)
          · exfalso; omega
          · refine S.iload_n (pc' := 34) dX11_most_33 rfl rfl rfl ?_
            refine S.if_eq (pc' := 37) (tgt := 43) dX11_most_34 (by decide) rfl hw (fun h34 => ?_) (fun h34 => ?_)
            · refine S.aload_n (pc' := 44) dX11_most_43 rfl rfl rfl ?_
              refine S.getR (pc' := 47) dX11_most_44 rfl fX11_23 L_0 rf_0_3 ?_
              refine S.getI (pc' := 50) dX11_most_47 rfl fX11_225 (gd_lay gd18) ?_
              refine S.if_eq (pc' := 53) (tgt := 66) dX11_most_50 (by decide) rfl (by unfold fp_rng; omega) (fun h50 => ?_) (fun h50 => ?_)
              · exfalso; omega
              · refine S.aload_n (pc' := 54) dX11_most_53 rfl rfl rfl ?_
                refine S.getR (pc' := 57) dX11_most_54 rfl fX11_37 L_0 rf_0_5 ?_
                refine S.iload_n (pc' := 58) dX11_most_57 rfl rfl rfl ?_
                refine S.callVe (pc' := 61) dX11_most_58 rfl cX11_239 cD rfl (vs_lay vs27) (by decide) rfl (Nat.le_of_ble_eq_true rfl) ?_
                refine S.bipush (pc' := 63) dX11_most_61 rfl (by decide) ?_
                refine S.icmp_le (pc' := 66) (tgt := 69) dX11_most_63 (by decide) rfl (by unfold fp_rng; omega) (by unfold fp_rng; omega) (fun h63 => ?_) (fun h63 => ?_)
                · refine S.aload_n (pc' := 70) dX11_most_69 rfl rfl rfl ?_
                  refine S.getR (pc' := 73) dX11_most_70 rfl fX11_51 L_0 rf_0_7 ?_
                  refine S.aload_n (pc' := 74) dX11_most_73 rfl rfl rfl ?_
                  refine S.getR (pc' := 77) dX11_most_74 rfl fX11_23 L_0 rf_0_3 ?_
                  refine S.aload_n (pc' := 78) dX11_most_77 rfl rfl rfl ?_
                  refine S.getR (pc' := 81) dX11_most_78 rfl fX11_37 L_0 rf_0_5 ?_
                  refine S.aload_n (pc' := 82) dX11_most_81 rfl rfl rfl ?_
                  refine S.getR (pc' := 85) dX11_most_82 rfl fX11_30 L_0 rf_0_4 ?_
                  refine S.iload_n (pc' := 86) dX11_most_85 rfl rfl rfl ?_
                  refine S.callVv (pc' := 89) dX11_most_86 rfl cX11_242 (rk_X8_findMost hg hP hvo hin.1 hcl hd hv) rfl L_34 (by decide) rfl (Nat.le_of_ble_eq_true rfl) (fun M86 q86 => ?_)
                  obtain ⟨t1, f1⟩ := q86
                  refine S.iload_n (pc' := 90) dX11_most_89 rfl rfl rfl ?_
                  refine S.if_eq (pc' := 93) (tgt := 108) dX11_most_90 (by decide) rfl (by unfold fp_rng; omega) (fun h90 => ?_) (fun h90 => ?_)
                  · first
                    | (exfalso; omega)
                    | exact h108 (by omega) _ _ t1 f1
                  · first
                    | (exfalso; omega)
                    | exact h93 (by omega) _ _ t1 f1
                · exfalso; omega
            · refine S.iload_n (pc' := 38) dX11_most_37 rfl rfl rfl ?_
              refine S.if_ne (pc' := 41) (tgt := 43) dX11_most_38 (by decide) rfl (by unfold fp_rng; omega) (fun h38 => ?_) (fun h38 => ?_)
              · refine S.aload_n (pc' := 44) dX11_most_43 rfl rfl rfl ?_
                refine S.getR (pc' := 47) dX11_most_44 rfl fX11_23 L_0 rf_0_3 ?_
                refine S.getI (pc' := 50) dX11_most_47 rfl fX11_225 (gd_lay gd18) ?_
                refine S.if_eq (pc' := 53) (tgt := 66) dX11_most_50 (by decide) rfl (by unfold fp_rng; omega) (fun h50 => ?_) (fun h50 => ?_)
                · exfalso; omega
                · refine S.aload_n (pc' := 54) dX11_most_53 rfl rfl rfl ?_
                  refine S.getR (pc' := 57) dX11_most_54 rfl fX11_37 L_0 rf_0_5 ?_
                  refine S.iload_n (pc' := 58) dX11_most_57 rfl rfl rfl ?_
                  refine S.callVe (pc' := 61) dX11_most_58 rfl cX11_239 cD rfl (vs_lay vs27) (by decide) rfl (Nat.le_of_ble_eq_true rfl) ?_
                  refine S.bipush (pc' := 63) dX11_most_61 rfl (by decide) ?_
                  refine S.icmp_le (pc' := 66) (tgt := 69) dX11_most_63 (by decide) rfl (by unfold fp_rng; omega) (by unfold fp_rng; omega) (fun h63 => ?_) (fun h63 => ?_)
                  · refine S.aload_n (pc' := 70) dX11_most_69 rfl rfl rfl ?_
                    refine S.getR (pc' := 73) dX11_most_70 rfl fX11_51 L_0 rf_0_7 ?_
                    refine S.aload_n (pc' := 74) dX11_most_73 rfl rfl rfl ?_
                    refine S.getR (pc' := 77) dX11_most_74 rfl fX11_23 L_0 rf_0_3 ?_
                    refine S.aload_n (pc' := 78) dX11_most_77 rfl rfl rfl ?_
                    refine S.getR (pc' := 81) dX11_most_78 rfl fX11_37 L_0 rf_0_5 ?_
                    refine S.aload_n (pc' := 82) dX11_most_81 rfl rfl rfl ?_
                    refine S.getR (pc' := 85) dX11_most_82 rfl fX11_30 L_0 rf_0_4 ?_
                    refine S.iload_n (pc' := 86) dX11_most_85 rfl rfl rfl ?_
                    refine S.callVv (pc' := 89) dX11_most_86 rfl cX11_242 (rk_X8_findMost hg hP hvo hin.1 hcl hd hv) rfl L_34 (by decide) rfl (Nat.le_of_ble_eq_true rfl) (fun M86 q86 => ?_)
                    obtain ⟨t1, f1⟩ := q86
                    refine S.iload_n (pc' := 90) dX11_most_89 rfl rfl rfl ?_
                    refine S.if_eq (pc' := 93) (tgt := 108) dX11_most_90 (by decide) rfl (by unfold fp_rng; omega) (fun h90 => ?_) (fun h90 => ?_)
                    · first
                      | (exfalso; omega)
                      | exact h108 (by omega) _ _ t1 f1
                    · first
                      | (exfalso; omega)
                      | exact h93 (by omega) _ _ t1 f1
                  · exfalso; omega
              · exfalso; omega
        · refine S.iconst (pc' := 21) dX11_most_20 rfl ?_
          refine S.goto (pc' := 25) dX11_most_21 (by decide) ?_
          refine S.istore_n (pc' := 26) (LL' := [_, _, _, _]) dX11_most_25 rfl (by decide) rfl rfl rfl ?_
          refine S.iload_n (pc' := 27) dX11_most_26 rfl rfl rfl ?_
          refine S.callSi (pc' := 30) dX11_most_27 rfl cX11_181 (bk_X11_isOne) rfl (by decide) rfl (Nat.le_of_ble_eq_true rfl) (fun z27 M27 q27 => ?_)
          obtain ⟨b27, rfl⟩ := q27
          refine S.if_eq (pc' := 33) (tgt := 41) dX11_most_30 (by decide) rfl (by unfold fp_rng; omega) (fun h30 => ?_) (fun h30 => ?_)
          · exfalso; omega
          · refine S.iload_n (pc' := 34) dX11_most_33 rfl rfl rfl ?_
            refine S.if_eq (pc' := 37) (tgt := 43) dX11_most_34 (by decide) rfl hw (fun h34 => ?_) (fun h34 => ?_)
            · refine S.aload_n (pc' := 44) dX11_most_43 rfl rfl rfl ?_
              refine S.getR (pc' := 47) dX11_most_44 rfl fX11_23 L_0 rf_0_3 ?_
              refine S.getI (pc' := 50) dX11_most_47 rfl fX11_225 (gd_lay gd18) ?_
              refine S.if_eq (pc' := 53) (tgt := 66) dX11_most_50 (by decide) rfl (by unfold fp_rng; omega) (fun h50 => ?_) (fun h50 => ?_)
              · exfalso; omega
              · refine S.aload_n (pc' := 54) dX11_most_53 rfl rfl rfl ?_
                refine S.getR (pc' := 57) dX11_most_54 rfl fX11_37 L_0 rf_0_5 ?_
                refine S.iload_n (pc' := 58) dX11_most_57 rfl rfl rfl ?_
                refine S.callVe (pc' := 61) dX11_most_58 rfl cX11_239 cD rfl (vs_lay vs27) (by decide) rfl (Nat.le_of_ble_eq_true rfl) ?_
                refine S.bipush (pc' := 63) dX11_most_61 rfl (by decide) ?_
                refine S.icmp_le (pc' := 66) (tgt := 69) dX11_most_63 (by decide) rfl (by unfold fp_rng; omega) (by unfold fp_rng; omega) (fun h63 => ?_) (fun h63 => ?_)
                · refine S.aload_n (pc' := 70) dX11_most_69 rfl rfl rfl ?_
                  refine S.getR (pc' := 73) dX11_most_70 rfl fX11_51 L_0 rf_0_7 ?_
                  refine S.aload_n (pc' := 74) dX11_most_73 rfl rfl rfl ?_
                  refine S.getR (pc' := 77) dX11_most_74 rfl fX11_23 L_0 rf_0_3 ?_
                  refine S.aload_n (pc' := 78) dX11_most_77 rfl rfl rfl ?_
                  refine S.getR (pc' := 81) dX11_most_78 rfl fX11_37 L_0 rf_0_5 ?_
                  refine S.aload_n (pc' := 82) dX11_most_81 rfl rfl rfl ?_
                  refine S.getR (pc' := 85) dX11_most_82 rfl fX11_30 L_0 rf_0_4 ?_
                  refine S.iload_n (pc' := 86) dX11_most_85 rfl rfl rfl ?_
                  refine S.callVv (pc' := 89) dX11_most_86 rfl cX11_242 (rk_X8_findMost hg hP hvo hin.1 hcl hd hv) rfl L_34 (by decide) rfl (Nat.le_of_ble_eq_true rfl) (fun M86 q86 => ?_)
                  obtain ⟨t1, f1⟩ := q86
                  refine S.iload_n (pc' := 90) dX11_most_89 rfl rfl rfl ?_
                  refine S.if_eq (pc' := 93) (tgt := 108) dX11_most_90 (by decide) rfl (by unfold fp_rng; omega) (fun h90 => ?_) (fun h90 => ?_)
                  · first
                    | (exfalso; omega)
                    | exact h108 (by omega) _ _ t1 f1
                  · first
                    | (exfalso; omega)
                    | exact h93 (by omega) _ _ t1 f1
                · exfalso; omega
            · refine S.iload_n (pc' := 38) dX11_most_37 rfl rfl rfl ?_
              refine S.if_ne (pc' := 41) (tgt := 43) dX11_most_38 (by decide) rfl (by unfold fp_rng; omega) (fun h38 => ?_) (fun h38 => ?_)
              · refine S.aload_n (pc' := 44) dX11_most_43 rfl rfl rfl ?_
                refine S.getR (pc' := 47) dX11_most_44 rfl fX11_23 L_0 rf_0_3 ?_
                refine S.getI (pc' := 50) dX11_most_47 rfl fX11_225 (gd_lay gd18) ?_
                refine S.if_eq (pc' := 53) (tgt := 66) dX11_most_50 (by decide) rfl (by unfold fp_rng; omega) (fun h50 => ?_) (fun h50 => ?_)
                · exfalso; omega
                · refine S.aload_n (pc' := 54) dX11_most_53 rfl rfl rfl ?_
                  refine S.getR (pc' := 57) dX11_most_54 rfl fX11_37 L_0 rf_0_5 ?_
                  refine S.iload_n (pc' := 58) dX11_most_57 rfl rfl rfl ?_
                  refine S.callVe (pc' := 61) dX11_most_58 rfl cX11_239 cD rfl (vs_lay vs27) (by decide) rfl (Nat.le_of_ble_eq_true rfl) ?_
                  refine S.bipush (pc' := 63) dX11_most_61 rfl (by decide) ?_
                  refine S.icmp_le (pc' := 66) (tgt := 69) dX11_most_63 (by decide) rfl (by unfold fp_rng; omega) (by unfold fp_rng; omega) (fun h63 => ?_) (fun h63 => ?_)
                  · refine S.aload_n (pc' := 70) dX11_most_69 rfl rfl rfl ?_
                    refine S.getR (pc' := 73) dX11_most_70 rfl fX11_51 L_0 rf_0_7 ?_
                    refine S.aload_n (pc' := 74) dX11_most_73 rfl rfl rfl ?_
                    refine S.getR (pc' := 77) dX11_most_74 rfl fX11_23 L_0 rf_0_3 ?_
                    refine S.aload_n (pc' := 78) dX11_most_77 rfl rfl rfl ?_
                    refine S.getR (pc' := 81) dX11_most_78 rfl fX11_37 L_0 rf_0_5 ?_
                    refine S.aload_n (pc' := 82) dX11_most_81 rfl rfl rfl ?_
                    refine S.getR (pc' := 85) dX11_most_82 rfl fX11_30 L_0 rf_0_4 ?_
                    refine S.iload_n (pc' := 86) dX11_most_85 rfl rfl rfl ?_
                    refine S.callVv (pc' := 89) dX11_most_86 rfl cX11_242 (rk_X8_findMost hg hP hvo hin.1 hcl hd hv) rfl L_34 (by decide) rfl (Nat.le_of_ble_eq_true rfl) (fun M86 q86 => ?_)
                    obtain ⟨t1, f1⟩ := q86
                    refine S.iload_n (pc' := 90) dX11_most_89 rfl rfl rfl ?_
                    refine S.if_eq (pc' := 93) (tgt := 108) dX11_most_90 (by decide) rfl (by unfold fp_rng; omega) (fun h90 => ?_) (fun h90 => ?_)
                    · first
                      | (exfalso; omega)
                      | exact h108 (by omega) _ _ t1 f1
                    · first
                      | (exfalso; omega)
                      | exact h93 (by omega) _ _ t1 f1
                  · exfalso; omega
              · exfalso; omega
  · rw [if_pos hin]
    refine S.iload_n (pc' := 1) dX11_most_0 rfl rfl rfl ?_
    refine S.bipush (pc' := 3) dX11_most_1 rfl (by decide) ?_
    refine S.icmp_lt (pc' := 6) (tgt := 24) dX11_most_3 (by decide) rfl hw (by unfold fp_rng; omega) (fun h3 => ?_) (fun h3 => ?_)
    · refine S.iconst (pc' := 25) dX11_most_24 rfl ?_
      refine S.istore_n (pc' := 26) (LL' := [_, _, _, _]) dX11_most_25 rfl (by decide) rfl rfl rfl ?_
      refine S.iload_n (pc' := 27) dX11_most_26 rfl rfl rfl ?_
      refine S.callSi (pc' := 30) dX11_most_27 rfl cX11_181 (bk_X11_isOne) rfl (by decide) rfl (Nat.le_of_ble_eq_true rfl) (fun z27 M27 q27 => ?_)
      obtain ⟨b27, rfl⟩ := q27
      refine S.if_eq (pc' := 33) (tgt := 41) dX11_most_30 (by decide) rfl (by unfold fp_rng; omega) (fun h30 => ?_) (fun h30 => ?_)
      · refine S.iconst (pc' := 42) dX11_most_41 rfl ?_
        refine S.iret dX11_most_42 rfl ?_
        exact ⟨rfl, hcs, frC.refl _⟩
      · refine S.iload_n (pc' := 34) dX11_most_33 rfl rfl rfl ?_
        refine S.if_eq (pc' := 37) (tgt := 43) dX11_most_34 (by decide) rfl hw (fun h34 => ?_) (fun h34 => ?_)
        · exfalso; omega
        · refine S.iload_n (pc' := 38) dX11_most_37 rfl rfl rfl ?_
          refine S.if_ne (pc' := 41) (tgt := 43) dX11_most_38 (by decide) rfl (by unfold fp_rng; omega) (fun h38 => ?_) (fun h38 => ?_)
          · exfalso; omega
          · refine S.iconst (pc' := 42) dX11_most_41 rfl ?_
            refine S.iret dX11_most_42 rfl ?_
            exact ⟨rfl, hcs, frC.refl _⟩
    · refine S.aload_n (pc' := 7) dX11_most_6 rfl rfl rfl ?_
      refine S.getR (pc' := 10) dX11_most_7 rfl fX11_37 L_0 rf_0_5 ?_
      refine S.iload_n (pc' := 11) dX11_most_10 rfl rfl rfl ?_
      refine S.bipush (pc' := 13) dX11_most_11 rfl (by decide) ?_
      refine S.isub (pc' := 14) dX11_most_13 rfl ?_
      refine S.callVi (pc' := 17) dX11_most_14 rfl cX11_163 (bk_X10_has vs27) rfl (vs_lay vs27) (by decide) rfl (Nat.le_of_ble_eq_true rfl) (fun z14 M14 q14 => ?_)
      obtain ⟨b14, rfl⟩ := q14
      refine S.if_eq (pc' := 20) (tgt := 24) dX11_most_17 (by decide) rfl (by unfold fp_rng; omega) (fun h17 => ?_) (fun h17 => ?_)
      · refine S.iconst (pc' := 25) dX11_most_24 rfl ?_
        refine S.istore_n (pc' := 26) (LL' := [_, _, _, _]) dX11_most_25 rfl (by decide) rfl rfl rfl ?_
        refine S.iload_n (pc' := 27) dX11_most_26 rfl rfl rfl ?_
        refine S.callSi (pc' := 30) dX11_most_27 rfl cX11_181 (bk_X11_isOne) rfl (by decide) rfl (Nat.le_of_ble_eq_true rfl) (fun z27 M27 q27 => ?_)
        obtain ⟨b27, rfl⟩ := q27
        refine S.if_eq (pc' := 33) (tgt := 41) dX11_most_30 (by decide) rfl (by unfold fp_rng; omega) (fun h30 => ?_) (fun h30 => ?_)
        · refine S.iconst (pc' := 42) dX11_most_41 rfl ?_
          refine S.iret dX11_most_42 rfl ?_
          exact ⟨rfl, hcs, frC.refl _⟩
        · refine S.iload_n (pc' := 34) dX11_most_33 rfl rfl rfl ?_
          refine S.if_eq (pc' := 37) (tgt := 43) dX11_most_34 (by decide) rfl hw (fun h34 => ?_) (fun h34 => ?_)
          · exfalso; omega
          · refine S.iload_n (pc' := 38) dX11_most_37 rfl rfl rfl ?_
            refine S.if_ne (pc' := 41) (tgt := 43) dX11_most_38 (by decide) rfl (by unfold fp_rng; omega) (fun h38 => ?_) (fun h38 => ?_)
            · exfalso; omega
            · refine S.iconst (pc' := 42) dX11_most_41 rfl ?_
              refine S.iret dX11_most_42 rfl ?_
              exact ⟨rfl, hcs, frC.refl _⟩
      · refine S.iconst (pc' := 21) dX11_most_20 rfl ?_
        refine S.goto (pc' := 25) dX11_most_21 (by decide) ?_
        refine S.istore_n (pc' := 26) (LL' := [_, _, _, _]) dX11_most_25 rfl (by decide) rfl rfl rfl ?_
        refine S.iload_n (pc' := 27) dX11_most_26 rfl rfl rfl ?_
        refine S.callSi (pc' := 30) dX11_most_27 rfl cX11_181 (bk_X11_isOne) rfl (by decide) rfl (Nat.le_of_ble_eq_true rfl) (fun z27 M27 q27 => ?_)
        obtain ⟨b27, rfl⟩ := q27
        refine S.if_eq (pc' := 33) (tgt := 41) dX11_most_30 (by decide) rfl (by unfold fp_rng; omega) (fun h30 => ?_) (fun h30 => ?_)
        · refine S.iconst (pc' := 42) dX11_most_41 rfl ?_
          refine S.iret dX11_most_42 rfl ?_
          exact ⟨rfl, hcs, frC.refl _⟩
        · refine S.iload_n (pc' := 34) dX11_most_33 rfl rfl rfl ?_
          refine S.if_eq (pc' := 37) (tgt := 43) dX11_most_34 (by decide) rfl hw (fun h34 => ?_) (fun h34 => ?_)
          · exfalso; omega
          · refine S.iload_n (pc' := 38) dX11_most_37 rfl rfl rfl ?_
            refine S.if_ne (pc' := 41) (tgt := 43) dX11_most_38 (by decide) rfl (by unfold fp_rng; omega) (fun h38 => ?_) (fun h38 => ?_)
            · exfalso; omega
            · refine S.iconst (pc' := 42) dX11_most_41 rfl ?_
              refine S.iret dX11_most_42 rfl ?_
              exact ⟨rfl, hcs, frC.refl _⟩
end CMP
