/-! IMAGES: keep, back -/
def A_keep (im : aIm) (k : Int) (x : aPg × List aVt × List Int) : Int × aIm := if ¬ (0 ≤ k ∧ k ≤ 1) then (-1, im) else (if (im k).isSome then 1 else 0, fp_ui im k (some x))
def A_back (im : aIm) (k : Int) (x : aPg × List aVt × List Int) : Int × aPg × List aVt × List Int := if ¬ (0 ≤ k ∧ k ≤ 1) then (-1, x) else match im k with
  | none => (-2, x)
  | some y => ((y.2.1.length : Int), y)
theorem A_keep_ok {g : aGd} {im : aIm} {k : Int} {x : aPg × List aVt × List Int} (h : imOk g im) (hx : pgOk g x.1 ∧ vsOk g x.2.1 ∧ ntOk g x.2.2) : imOk g (A_keep im k x).2 := by
  unfold A_keep
  split
  · exact h
  · intro j y e
    dsimp only at e
    by_cases q : j = k
    · subst q; rw [fp_ui_at] at e; rw [← Option.some.inj e]; exact hx
    · rw [fp_ui_ne q] at e; exact h j y e
theorem A_back_ok {g : aGd} {im : aIm} {k : Int} {x : aPg × List aVt × List Int} (h : imOk g im) (hx : pgOk g x.1 ∧ vsOk g x.2.1 ∧ ntOk g x.2.2) : pgOk g (A_back im k x).2.1 ∧ vsOk g (A_back im k x).2.2.1 ∧ ntOk g (A_back im k x).2.2.2 := by
  unfold A_back
  split
  · exact hx
  · cases e : im k with
    | none => exact hx
    | some y => exact h k y e
section IMA
variable {l : Launch} {G : fp_WG} {M N : fp_Mem} {tp tp' : List Int} {fl fl' : Int} {g : aGd} {pg pg' : aPg} {vs vs' : List aVt} {nt nt' : List Int} {im im' : aIm} {sh sh' : aSh} {tn tn' : Int} {k k2 : Nat}
theorem rk_X10_copyFrom (hk : fp_isvs k) (hk2 : fp_isvs k2) (hne : k2 + 4 < k ∨ k + 4 < k2) (hv : vsIs M k2 vs := by assumption) : fp_Ok l G 1 kX10_copyFrom [rV G k, rV G k2] M (qV fun N => vsIs N k vs ∧ ∀ a, (a < k ∨ k + 4 < a) → N a = M a) := by
  obtain ⟨v1, v2, v3⟩ := hv
  refine fp_Ok.of (r := 0) rfl (Nat.le_of_ble_eq_true rfl) rfl ?_
  refine S.aload_n (pc' := 1) dX10_copyFrom_0 rfl rfl rfl ?_
  refine S.aload_n (pc' := 2) dX10_copyFrom_1 rfl rfl rfl ?_
  refine S.getI (pc' := 5) dX10_copyFrom_2 rfl fX10_24 (vs_lay hk2) ?_
  refine S.putI (pc' := 8) dX10_copyFrom_5 rfl fX10_24 (vs_lay hk) ?_
  refine S.aload_n (pc' := 9) dX10_copyFrom_8 rfl rfl rfl ?_
  refine S.getR (pc' := 12) dX10_copyFrom_9 rfl fX10_9 (vs_lay hk2) (vs_r1 hk2) ?_
  refine S.iconst (pc' := 13) dX10_copyFrom_12 rfl ?_
  refine S.aload_n (pc' := 14) dX10_copyFrom_13 rfl rfl rfl ?_
  refine S.getR (pc' := 17) dX10_copyFrom_14 rfl fX10_9 (vs_lay hk) (vs_r1 hk) ?_
  refine S.iconst (pc' := 18) dX10_copyFrom_17 rfl ?_
  refine S.aload_n (pc' := 19) dX10_copyFrom_18 rfl rfl rfl ?_
  refine S.getR (pc' := 22) dX10_copyFrom_19 rfl fX10_9 (vs_lay hk) (vs_r1 hk) ?_
  refine S.alen (pc' := 23) dX10_copyFrom_22 rfl (vs_a1 hk) (by decide) rfl (by first | assumption | decide) ?_
  refine S.copyi (pc' := 26) dX10_copyFrom_23 rfl aX10_28 (vs_a1 hk2) (vs_a1 hk) (by decide) (by decide) (by omega) (by omega) (by omega) (by omega) (by omega) (by decide) (Nat.le_of_ble_eq_true rfl) ?_
  refine S.aload_n (pc' := 27) dX10_copyFrom_26 rfl rfl rfl ?_
  refine S.getR (pc' := 30) dX10_copyFrom_27 rfl fX10_15 (vs_lay hk2) (vs_r2 hk2) ?_
  refine S.iconst (pc' := 31) dX10_copyFrom_30 rfl ?_
  refine S.aload_n (pc' := 32) dX10_copyFrom_31 rfl rfl rfl ?_
  refine S.getR (pc' := 35) dX10_copyFrom_32 rfl fX10_15 (vs_lay hk) (vs_r2 hk) ?_
  refine S.iconst (pc' := 36) dX10_copyFrom_35 rfl ?_
  refine S.aload_n (pc' := 37) dX10_copyFrom_36 rfl rfl rfl ?_
  refine S.getR (pc' := 40) dX10_copyFrom_37 rfl fX10_15 (vs_lay hk) (vs_r2 hk) ?_
  refine S.alen (pc' := 41) dX10_copyFrom_40 rfl (vs_a2 hk) (by decide) rfl (by first | assumption | decide) ?_
  refine S.copyi (pc' := 44) dX10_copyFrom_41 rfl aX10_28 (vs_a2 hk2) (vs_a2 hk) (by decide) (by decide) (by omega) (by omega) (by omega) (by omega) (by omega) (by decide) (Nat.le_of_ble_eq_true rfl) ?_
  refine S.aload_n (pc' := 45) dX10_copyFrom_44 rfl rfl rfl ?_
  refine S.getR (pc' := 48) dX10_copyFrom_45 rfl fX10_18 (vs_lay hk2) (vs_r3 hk2) ?_
  refine S.iconst (pc' := 49) dX10_copyFrom_48 rfl ?_
  refine S.aload_n (pc' := 50) dX10_copyFrom_49 rfl rfl rfl ?_
  refine S.getR (pc' := 53) dX10_copyFrom_50 rfl fX10_18 (vs_lay hk) (vs_r3 hk) ?_
  refine S.iconst (pc' := 54) dX10_copyFrom_53 rfl ?_
  refine S.aload_n (pc' := 55) dX10_copyFrom_54 rfl rfl rfl ?_
  refine S.getR (pc' := 58) dX10_copyFrom_55 rfl fX10_18 (vs_lay hk) (vs_r3 hk) ?_
  refine S.alen (pc' := 59) dX10_copyFrom_58 rfl (vs_a3 hk) (by decide) rfl (by first | assumption | decide) ?_
  refine S.copyi (pc' := 62) dX10_copyFrom_59 rfl aX10_28 (vs_a3 hk2) (vs_a3 hk) (by decide) (by decide) (by omega) (by omega) (by omega) (by omega) (by omega) (by decide) (Nat.le_of_ble_eq_true rfl) ?_
  refine S.aload_n (pc' := 63) dX10_copyFrom_62 rfl rfl rfl ?_
  refine S.getR (pc' := 66) dX10_copyFrom_63 rfl fX10_21 (vs_lay hk2) (vs_r4 hk2) ?_
  refine S.iconst (pc' := 67) dX10_copyFrom_66 rfl ?_
  refine S.aload_n (pc' := 68) dX10_copyFrom_67 rfl rfl rfl ?_
  refine S.getR (pc' := 71) dX10_copyFrom_68 rfl fX10_21 (vs_lay hk) (vs_r4 hk) ?_
  refine S.iconst (pc' := 72) dX10_copyFrom_71 rfl ?_
  refine S.aload_n (pc' := 73) dX10_copyFrom_72 rfl rfl rfl ?_
  refine S.getR (pc' := 76) dX10_copyFrom_73 rfl fX10_21 (vs_lay hk) (vs_r4 hk) ?_
  refine S.alen (pc' := 77) dX10_copyFrom_76 rfl (vs_a4 hk) (by decide) rfl (by first | assumption | decide) ?_
  refine S.copyi (pc' := 80) dX10_copyFrom_77 rfl aX10_28 (vs_a4 hk2) (vs_a4 hk) (by decide) (by decide) (by omega) (by omega) (by omega) (by omega) (by omega) (by decide) (Nat.le_of_ble_eq_true rfl) ?_
  refine S.vret dX10_copyFrom_80 rfl ?_
  refine ⟨?_, fun a ha => by rw [fp_upM_ne (by omega), fp_upM_ne (by omega), fp_upM_ne (by omega), fp_upM_ne (by omega), fp_up_ne (by omega)]⟩
  refine ⟨?_, v2, fun i i0 i1 => ?_⟩
  · rw [fp_upM_ne (by omega), fp_upM_ne (by omega), fp_upM_ne (by omega), fp_upM_ne (by omega), fp_up_at, fp_upf_at, v1]
  · obtain ⟨u1, u2, u3, u4⟩ := v3 i i0 i1
    refine ⟨?_, ?_, ?_, ?_⟩
    · rw [fp_upM_ne (by omega), fp_upM_ne (by omega), fp_upM_ne (by omega), fp_upM_at, fp_up_ne (show k2 + 1 ≠ k by omega), ← u1]; simp [va_cpy]; intro; omega
    · rw [fp_upM_ne (by omega), fp_upM_ne (by omega), fp_upM_at, fp_upM_ne (show k2 + 2 ≠ k + 1 by omega), fp_up_ne (show k2 + 2 ≠ k by omega), ← u2]; simp [va_cpy]; intro; omega
    · rw [fp_upM_ne (by omega), fp_upM_at, fp_upM_ne (show k2 + 3 ≠ k + 2 by omega), fp_upM_ne (show k2 + 3 ≠ k + 1 by omega), fp_up_ne (show k2 + 3 ≠ k by omega), ← u3]; simp [va_cpy]; intro; omega
    · rw [fp_upM_at, fp_upM_ne (show k2 + 4 ≠ k + 3 by omega), fp_upM_ne (show k2 + 4 ≠ k + 2 by omega), fp_upM_ne (show k2 + 4 ≠ k + 1 by omega), fp_up_ne (show k2 + 4 ≠ k by omega), ← u4]; simp [va_cpy]; intro; omega
theorem rk_X3_copyFrom (hk : fp_isnt k) (hk2 : fp_isnt k2) (hne : k2 + 1 < k ∨ k + 1 < k2) (hv : ntIs M k2 nt := by assumption) : fp_Ok l G 1 kX3_copyFrom [rV G k, rV G k2] M (qV fun N => ntIs N k nt ∧ ∀ a, (a < k ∨ k + 1 < a) → N a = M a) := by
  obtain ⟨v1, v2, v3⟩ := hv
  refine fp_Ok.of (r := 0) rfl (Nat.le_of_ble_eq_true rfl) rfl ?_
  refine S.aload_n (pc' := 1) dX3_copyFrom_0 rfl rfl rfl ?_
  refine S.aload_n (pc' := 2) dX3_copyFrom_1 rfl rfl rfl ?_
  refine S.getI (pc' := 5) dX3_copyFrom_2 rfl fX3_15 (nt_lay hk2) ?_
  refine S.putI (pc' := 8) dX3_copyFrom_5 rfl fX3_15 (nt_lay hk) ?_
  refine S.aload_n (pc' := 9) dX3_copyFrom_8 rfl rfl rfl ?_
  refine S.getR (pc' := 12) dX3_copyFrom_9 rfl fX3_9 (nt_lay hk2) (nt_r1 hk2) ?_
  refine S.iconst (pc' := 13) dX3_copyFrom_12 rfl ?_
  refine S.aload_n (pc' := 14) dX3_copyFrom_13 rfl rfl rfl ?_
  refine S.getR (pc' := 17) dX3_copyFrom_14 rfl fX3_9 (nt_lay hk) (nt_r1 hk) ?_
  refine S.iconst (pc' := 18) dX3_copyFrom_17 rfl ?_
  refine S.aload_n (pc' := 19) dX3_copyFrom_18 rfl rfl rfl ?_
  refine S.getR (pc' := 22) dX3_copyFrom_19 rfl fX3_9 (nt_lay hk) (nt_r1 hk) ?_
  refine S.alen (pc' := 23) dX3_copyFrom_22 rfl (nt_a1 hk) (by decide) rfl (by first | assumption | decide) ?_
  refine S.copyi (pc' := 26) dX3_copyFrom_23 rfl aX3_19 (nt_a1 hk2) (nt_a1 hk) (by decide) (by decide) (by omega) (by omega) (by omega) (by omega) (by omega) (by decide) (Nat.le_of_ble_eq_true rfl) ?_
  refine S.vret dX3_copyFrom_26 rfl ?_
  refine ⟨?_, fun a ha => by rw [fp_upM_ne (by omega), fp_up_ne (by omega)]⟩
  refine ⟨?_, v2, fun i i0 i1 => ?_⟩
  · rw [fp_upM_ne (by omega), fp_up_at, fp_upf_at, v1]
  · have u1 := v3 i i0 i1
    rw [fp_upM_at, fp_up_ne (show k2 + 1 ≠ k by omega), ← u1]; simp [va_cpy]; intro; omega
theorem cc_keep {k9 : Int} (hc : CS M tp fl g pg vs nt im sh tn) (ho : OK g pg vs nt im sh) (h1 : fp_rng k9) : fp_Ok l G 2 kX11_keep [rV G 0, iV k9] M (qI fun z N => z = (A_keep im k9 (pg, vs, nt)).1 ∧ CS N tp fl g pg vs nt (A_keep im k9 (pg, vs, nt)).2 sh tn ∧ frC M N) := by
  have hcs := hc
  obtain ⟨hA, hG, hP, hV, hN, hI, hS⟩ := hc
  have hpo := ho.2.1
  have hg := ho.1
  refine fp_Ok.of (r := 2) rfl (Nat.le_of_ble_eq_true rfl) rfl ?_
  unfold A_keep
  by_cases hin : 0 ≤ k9 ∧ k9 ≤ 1
  · rw [if_neg (fun q => q hin)]
    have hk := hI k9 hin.1 (by omega)
    have hb : M (143 + 13 * k9.toNat) 0 = if (im k9).isSome then 1 else 0 := by
      rcases hk with ⟨q1, q2⟩ | ⟨x, q1, q2, -⟩
      · rw [q1, q2]; rfl
      · rw [q1, q2]; rfl
    have ho1 := img_o hin.1 (show k9 < 2 by omega)
    have hfin : ∀ N1 N2 N3 N4 : fp_Mem, N1 = fp_up M (143 + 13 * k9.toNat) 0 1 → clIs N2 (143 + 13 * k9.toNat + 1) g pg → frP N1 N2 (143 + 13 * k9.toNat + 1) → vsIs N3 (143 + 13 * k9.toNat + 6) vs → (∀ a, (a < 143 + 13 * k9.toNat + 6 ∨ 143 + 13 * k9.toNat + 6 + 4 < a) → N3 a = N2 a) → ntIs N4 (143 + 13 * k9.toNat + 11) nt → (∀ a, (a < 143 + 13 * k9.toNat + 11 ∨ 143 + 13 * k9.toNat + 11 + 1 < a) → N4 a = N3 a) → CS N4 tp fl g pg vs nt (fp_ui im k9 (some (pg, vs, nt))) sh tn ∧ frC M N4 := by
      intro N1 N2 N3 N4 e1 c2 f2 c3 f3 c4 f4
      have hk01 : k9.toNat = 0 ∨ k9.toNat = 1 := by omega
      have hall : ∀ a, (a < 143 + 13 * k9.toNat ∨ 143 + 13 * k9.toNat + 12 < a) → N4 a = M a := by
        intro a ha
        rw [f4 a (by omega), f3 a (by omega), f2 a (by omega), e1, fp_up_ne (by omega)]
      have e5 : N4 (143 + 13 * k9.toNat) 0 = 1 := by rw [f4 _ (by omega), f3 _ (by omega), f2 _ (by omega), e1, fp_up_at, fp_upf_at]
      refine ⟨⟨hA.kept (hall 0 (by omega)) (hall 1 (by omega)) (by rw [hall 2 (by omega)]), hG.kept (fun a q1 q2 => hall a (by omega)), hP.kept (fun a q1 q2 => hall a (by omega)), hV.kept (fun a q1 q2 => hall a (by omega)), hN.kept (fun a q1 q2 => hall a (by omega)), ?_, hS.kept (fun a q1 q2 => hall a (by omega))⟩, fun c hc => hall c (by omega)⟩
      intro j j0 j1
      by_cases e : j = k9
      · subst e
        rw [fp_ui_at]
        exact Or.inr ⟨_, rfl, e5, c2.kept (fun a q1 q2 => by rw [f4 a (by omega), f3 a (by omega)]), c3.kept (fun a q1 q2 => f4 a (by omega)), c4⟩
      · rw [fp_ui_ne e]
        have hj : j.toNat = 0 ∨ j.toNat = 1 := by omega
        rcases hI j j0 j1 with ⟨q1, q2⟩ | ⟨x, q1, q2, q3, q4, q5⟩
        · exact Or.inl ⟨q1, by rw [hall _ (by omega)]; exact q2⟩
        · exact Or.inr ⟨x, q1, by rw [hall _ (by omega)]; exact q2, q3.kept (fun a h0 h1 => hall a (by omega)), q4.kept (fun a h0 h1 => hall a (by omega)), q5.kept (fun a h0 h1 => hall a (by omega))⟩
    rw [← hb]
    have hb01 : M (143 + 13 * k9.toNat) 0 = 0 ∨ M (143 + 13 * k9.toNat) 0 = 1 := by rw [hb]; split <;> omega
    refine S.iload_n (pc' := 1) dX11_keep_0 rfl rfl rfl ?_
    refine S.iconst (pc' := 2) dX11_keep_1 rfl ?_
    refine S.callSi (pc' := 5) dX11_keep_2 rfl cX11_221 (bk_X11_isWithin) rfl (by decide) rfl (Nat.le_of_ble_eq_true rfl) (fun z2 M2 q2 => ?_)
    obtain ⟨b2, rfl⟩ := q2
    refine S.if_ne (pc' := 8) (tgt := 10) dX11_keep_5 (by decide) rfl (by unfold fp_rng; omega) (fun h5 => ?_) (fun h5 => ?_)
    · refine S.aload_n (pc' := 11) dX11_keep_10 rfl rfl rfl ?_
      refine S.getR (pc' := 14) dX11_keep_11 rfl fX11_78 L_0 rf_0_11 ?_
      refine S.iload_n (pc' := 15) dX11_keep_14 rfl rfl rfl ?_
      refine S.aald (pc' := 16) dX11_keep_15 rfl L_141 (by decide) (by decide) (by omega) (by omega) (img_r (by omega) (by omega)) ?_
      refine S.astore_n (pc' := 17) (LL' := [_, _, _, _]) dX11_keep_16 rfl (by decide) rfl rfl rfl ?_
      refine S.aload_n (pc' := 18) dX11_keep_17 rfl rfl rfl ?_
      refine S.getI (pc' := 21) dX11_keep_18 rfl fX11_122 (im_lay (img_o (by omega) (by omega))) ?_
      refine S.if_eq (pc' := 24) (tgt := 28) dX11_keep_21 (by decide) rfl (by unfold fp_rng; omega) (fun h21 => ?_) (fun h21 => ?_)
      · refine S.iconst (pc' := 29) dX11_keep_28 rfl ?_
        refine S.istore_n (pc' := 30) (LL' := [_, _, _, _]) dX11_keep_29 rfl (by decide) rfl rfl rfl ?_
        refine S.aload_n (pc' := 31) dX11_keep_30 rfl rfl rfl ?_
        refine S.iconst (pc' := 32) dX11_keep_31 rfl ?_
        refine S.putZ (pc' := 35) dX11_keep_32 rfl fX11_122 (im_lay (img_o (by omega) (by omega))) (by first | exact Or.inl rfl | exact Or.inr rfl | omega) ?_
        refine S.aload_n (pc' := 36) dX11_keep_35 rfl rfl rfl ?_
        refine S.getR (pc' := 39) dX11_keep_36 rfl fX11_313 (im_lay (img_o (by omega) (by omega))) (im_r1 (img_o (by omega) (by omega))) ?_
        refine S.aload_n (pc' := 40) dX11_keep_39 rfl rfl rfl ?_
        refine S.getR (pc' := 43) dX11_keep_40 rfl fX11_30 L_0 rf_0_4 ?_
        have hP1 : clIs (fp_up M (143 + 13 * k9.toNat) 0 1) 22 g pg := hP.kept (fun a q1 q2 => fp_up_ne (by omega))
        refine S.callVv (pc' := 46) dX11_keep_43 rfl cX11_112 (rk_X5_copyFrom (g := g) (pg := pg) (im_o1 ho1) pl22 (by omega)) rfl (pl_lay (im_o1 (img_o (by omega) (by omega)))) (by decide) rfl (Nat.le_of_ble_eq_true rfl) (fun M43 q43 => ?_)
        obtain ⟨c1, f1⟩ := q43
        have hV1 : vsIs M43 27 vs := hV.kept (fun a q1 q2 => by rw [f1 a (by omega), fp_up_ne (by omega)])
        refine S.aload_n (pc' := 47) dX11_keep_46 rfl rfl rfl ?_
        refine S.getR (pc' := 50) dX11_keep_47 rfl fX11_314 (im_lay (img_o (by omega) (by omega))) (im_r2 (img_o (by omega) (by omega))) ?_
        refine S.aload_n (pc' := 51) dX11_keep_50 rfl rfl rfl ?_
        refine S.getR (pc' := 54) dX11_keep_51 rfl fX11_37 L_0 rf_0_5 ?_
        refine S.callVv (pc' := 57) dX11_keep_54 rfl cX11_116 (rk_X10_copyFrom (vs := vs) (im_o2 ho1) vs27 (by omega)) rfl (vs_lay (im_o2 (img_o (by omega) (by omega)))) (by decide) rfl (Nat.le_of_ble_eq_true rfl) (fun M54 q54 => ?_)
        obtain ⟨c2, f2⟩ := q54
        have hN1 : ntIs M54 32 nt := hN.kept (fun a q1 q2 => by rw [f2 a (by omega), f1 a (by omega), fp_up_ne (by omega)])
        refine S.aload_n (pc' := 58) dX11_keep_57 rfl rfl rfl ?_
        refine S.getR (pc' := 61) dX11_keep_58 rfl fX11_315 (im_lay (img_o (by omega) (by omega))) (im_r3 (img_o (by omega) (by omega))) ?_
        refine S.aload_n (pc' := 62) dX11_keep_61 rfl rfl rfl ?_
        refine S.getR (pc' := 65) dX11_keep_62 rfl fX11_44 L_0 rf_0_6 ?_
        refine S.callVv (pc' := 68) dX11_keep_65 rfl cX11_316 (rk_X3_copyFrom (nt := nt) (im_o3 ho1) nt32 (by omega)) rfl (nt_lay (im_o3 (img_o (by omega) (by omega)))) (by decide) rfl (Nat.le_of_ble_eq_true rfl) (fun M65 q65 => ?_)
        obtain ⟨c3, f3⟩ := q65
        refine S.iload_n (pc' := 69) dX11_keep_68 rfl rfl rfl ?_
        refine S.iret dX11_keep_69 rfl ?_
        exact ⟨by omega, hfin _ _ _ _ rfl c1 f1 c2 f2 c3 f3⟩
      · refine S.iconst (pc' := 25) dX11_keep_24 rfl ?_
        refine S.goto (pc' := 29) dX11_keep_25 (by decide) ?_
        refine S.istore_n (pc' := 30) (LL' := [_, _, _, _]) dX11_keep_29 rfl (by decide) rfl rfl rfl ?_
        refine S.aload_n (pc' := 31) dX11_keep_30 rfl rfl rfl ?_
        refine S.iconst (pc' := 32) dX11_keep_31 rfl ?_
        refine S.putZ (pc' := 35) dX11_keep_32 rfl fX11_122 (im_lay (img_o (by omega) (by omega))) (by first | exact Or.inl rfl | exact Or.inr rfl | omega) ?_
        refine S.aload_n (pc' := 36) dX11_keep_35 rfl rfl rfl ?_
        refine S.getR (pc' := 39) dX11_keep_36 rfl fX11_313 (im_lay (img_o (by omega) (by omega))) (im_r1 (img_o (by omega) (by omega))) ?_
        refine S.aload_n (pc' := 40) dX11_keep_39 rfl rfl rfl ?_
        refine S.getR (pc' := 43) dX11_keep_40 rfl fX11_30 L_0 rf_0_4 ?_
        have hP1 : clIs (fp_up M (143 + 13 * k9.toNat) 0 1) 22 g pg := hP.kept (fun a q1 q2 => fp_up_ne (by omega))
        refine S.callVv (pc' := 46) dX11_keep_43 rfl cX11_112 (rk_X5_copyFrom (g := g) (pg := pg) (im_o1 ho1) pl22 (by omega)) rfl (pl_lay (im_o1 (img_o (by omega) (by omega)))) (by decide) rfl (Nat.le_of_ble_eq_true rfl) (fun M43 q43 => ?_)
        obtain ⟨c1, f1⟩ := q43
        have hV1 : vsIs M43 27 vs := hV.kept (fun a q1 q2 => by rw [f1 a (by omega), fp_up_ne (by omega)])
        refine S.aload_n (pc' := 47) dX11_keep_46 rfl rfl rfl ?_
        refine S.getR (pc' := 50) dX11_keep_47 rfl fX11_314 (im_lay (img_o (by omega) (by omega))) (im_r2 (img_o (by omega) (by omega))) ?_
        refine S.aload_n (pc' := 51) dX11_keep_50 rfl rfl rfl ?_
        refine S.getR (pc' := 54) dX11_keep_51 rfl fX11_37 L_0 rf_0_5 ?_
        refine S.callVv (pc' := 57) dX11_keep_54 rfl cX11_116 (rk_X10_copyFrom (vs := vs) (im_o2 ho1) vs27 (by omega)) rfl (vs_lay (im_o2 (img_o (by omega) (by omega)))) (by decide) rfl (Nat.le_of_ble_eq_true rfl) (fun M54 q54 => ?_)
        obtain ⟨c2, f2⟩ := q54
        have hN1 : ntIs M54 32 nt := hN.kept (fun a q1 q2 => by rw [f2 a (by omega), f1 a (by omega), fp_up_ne (by omega)])
        refine S.aload_n (pc' := 58) dX11_keep_57 rfl rfl rfl ?_
        refine S.getR (pc' := 61) dX11_keep_58 rfl fX11_315 (im_lay (img_o (by omega) (by omega))) (im_r3 (img_o (by omega) (by omega))) ?_
        refine S.aload_n (pc' := 62) dX11_keep_61 rfl rfl rfl ?_
        refine S.getR (pc' := 65) dX11_keep_62 rfl fX11_44 L_0 rf_0_6 ?_
        refine S.callVv (pc' := 68) dX11_keep_65 rfl cX11_316 (rk_X3_copyFrom (nt := nt) (im_o3 ho1) nt32 (by omega)) rfl (nt_lay (im_o3 (img_o (by omega) (by omega)))) (by decide) rfl (Nat.le_of_ble_eq_true rfl) (fun M65 q65 => ?_)
        obtain ⟨c3, f3⟩ := q65
        refine S.iload_n (pc' := 69) dX11_keep_68 rfl rfl rfl ?_
        refine S.iret dX11_keep_69 rfl ?_
        exact ⟨by omega, hfin _ _ _ _ rfl c1 f1 c2 f2 c3 f3⟩
    · exfalso; omega
  · rw [if_pos hin]
    refine S.iload_n (pc' := 1) dX11_keep_0 rfl rfl rfl ?_
    refine S.iconst (pc' := 2) dX11_keep_1 rfl ?_
    refine S.callSi (pc' := 5) dX11_keep_2 rfl cX11_221 (bk_X11_isWithin) rfl (by decide) rfl (Nat.le_of_ble_eq_true rfl) (fun z2 M2 q2 => ?_)
    obtain ⟨b2, rfl⟩ := q2
    refine S.if_ne (pc' := 8) (tgt := 10) dX11_keep_5 (by decide) rfl (by unfold fp_rng; omega) (fun h5 => ?_) (fun h5 => ?_)
    · exfalso; omega
    · refine S.iconst (pc' := 9) dX11_keep_8 rfl ?_
      refine S.iret dX11_keep_9 rfl ?_
      exact ⟨rfl, hcs, frC.refl _⟩
theorem cc_back {k9 : Int} (hc : CS M tp fl g pg vs nt im sh tn) (ho : OK g pg vs nt im sh) (h1 : fp_rng k9) : fp_Ok l G 2 kX11_back [rV G 0, iV k9] M (qI fun z N => z = (A_back im k9 (pg, vs, nt)).1 ∧ CS N tp fl g (A_back im k9 (pg, vs, nt)).2.1 (A_back im k9 (pg, vs, nt)).2.2.1 (A_back im k9 (pg, vs, nt)).2.2.2 im sh tn ∧ frC M N) := by
  have hcs := hc
  obtain ⟨hA, hG, hP, hV, hN, hI, hS⟩ := hc
  have hg := ho.1
  have hio := ho.2.2.2.2.1
  refine fp_Ok.of (r := 1) rfl (Nat.le_of_ble_eq_true rfl) rfl ?_
  unfold A_back
  by_cases hin : 0 ≤ k9 ∧ k9 ≤ 1
  · rw [if_neg (fun q => q hin)]
    have ho1 := img_o hin.1 (show k9 < 2 by omega)
    have hk01 : k9.toNat = 0 ∨ k9.toNat = 1 := by omega
    rcases hI k9 hin.1 (by omega) with ⟨y1, y2⟩ | ⟨x, y1, y2, y3, y4, y5⟩
    · rw [y1]
      refine S.iload_n (pc' := 1) dX11_back_0 rfl rfl rfl ?_
      refine S.iconst (pc' := 2) dX11_back_1 rfl ?_
      refine S.callSi (pc' := 5) dX11_back_2 rfl cX11_221 (bk_X11_isWithin) rfl (by decide) rfl (Nat.le_of_ble_eq_true rfl) (fun z2 M2 q2 => ?_)
      obtain ⟨b2, rfl⟩ := q2
      refine S.if_ne (pc' := 8) (tgt := 10) dX11_back_5 (by decide) rfl (by unfold fp_rng; omega) (fun h5 => ?_) (fun h5 => ?_)
      · refine S.aload_n (pc' := 11) dX11_back_10 rfl rfl rfl ?_
        refine S.getR (pc' := 14) dX11_back_11 rfl fX11_78 L_0 rf_0_11 ?_
        refine S.iload_n (pc' := 15) dX11_back_14 rfl rfl rfl ?_
        refine S.aald (pc' := 16) dX11_back_15 rfl L_141 (by decide) (by decide) (by omega) (by omega) (img_r (by omega) (by omega)) ?_
        refine S.astore_n (pc' := 17) (LL' := [_, _, _]) dX11_back_16 rfl (by decide) rfl rfl rfl ?_
        refine S.aload_n (pc' := 18) dX11_back_17 rfl rfl rfl ?_
        refine S.getI (pc' := 21) dX11_back_18 rfl fX11_122 (im_lay (img_o (by omega) (by omega))) ?_
        refine S.if_ne (pc' := 24) (tgt := 27) dX11_back_21 (by decide) rfl (by unfold fp_rng; omega) (fun h21 => ?_) (fun h21 => ?_)
        · exfalso; omega
        · refine S.bipush (pc' := 26) dX11_back_24 rfl (by decide) ?_
          refine S.iret dX11_back_26 rfl ?_
          exact ⟨rfl, hcs, frC.refl _⟩
      · exfalso; omega
    · rw [y1]
      have hpo := (hio k9 x y1).1
      refine S.iload_n (pc' := 1) dX11_back_0 rfl rfl rfl ?_
      refine S.iconst (pc' := 2) dX11_back_1 rfl ?_
      refine S.callSi (pc' := 5) dX11_back_2 rfl cX11_221 (bk_X11_isWithin) rfl (by decide) rfl (Nat.le_of_ble_eq_true rfl) (fun z2 M2 q2 => ?_)
      obtain ⟨b2, rfl⟩ := q2
      refine S.if_ne (pc' := 8) (tgt := 10) dX11_back_5 (by decide) rfl (by unfold fp_rng; omega) (fun h5 => ?_) (fun h5 => ?_)
      · refine S.aload_n (pc' := 11) dX11_back_10 rfl rfl rfl ?_
        refine S.getR (pc' := 14) dX11_back_11 rfl fX11_78 L_0 rf_0_11 ?_
        refine S.iload_n (pc' := 15) dX11_back_14 rfl rfl rfl ?_
        refine S.aald (pc' := 16) dX11_back_15 rfl L_141 (by decide) (by decide) (by omega) (by omega) (img_r (by omega) (by omega)) ?_
        refine S.astore_n (pc' := 17) (LL' := [_, _, _]) dX11_back_16 rfl (by decide) rfl rfl rfl ?_
        refine S.aload_n (pc' := 18) dX11_back_17 rfl rfl rfl ?_
        refine S.getI (pc' := 21) dX11_back_18 rfl fX11_122 (im_lay (img_o (by omega) (by omega))) ?_
        refine S.if_ne (pc' := 24) (tgt := 27) dX11_back_21 (by decide) rfl (by unfold fp_rng; omega) (fun h21 => ?_) (fun h21 => ?_)
        · refine S.aload_n (pc' := 28) dX11_back_27 rfl rfl rfl ?_
          refine S.getR (pc' := 31) dX11_back_28 rfl fX11_30 L_0 rf_0_4 ?_
          refine S.aload_n (pc' := 32) dX11_back_31 rfl rfl rfl ?_
          refine S.getR (pc' := 35) dX11_back_32 rfl fX11_313 (im_lay (img_o (by omega) (by omega))) (im_r1 (img_o (by omega) (by omega))) ?_
          refine S.callVv (pc' := 38) dX11_back_35 rfl cX11_112 (rk_X5_copyFrom (g := g) (pg := x.1) pl22 (im_o1 ho1) (by omega)) rfl (pl_lay pl22) (by decide) rfl (Nat.le_of_ble_eq_true rfl) (fun M35 q35 => ?_)
          obtain ⟨c1, f1⟩ := q35
          have hV1 : vsIs M35 (143 + 13 * k9.toNat + 6) x.2.1 := y4.kept (fun a q1 q2 => by rw [f1 a (by omega)])
          refine S.aload_n (pc' := 39) dX11_back_38 rfl rfl rfl ?_
          refine S.getR (pc' := 42) dX11_back_39 rfl fX11_37 L_0 rf_0_5 ?_
          refine S.aload_n (pc' := 43) dX11_back_42 rfl rfl rfl ?_
          refine S.getR (pc' := 46) dX11_back_43 rfl fX11_314 (im_lay (img_o (by omega) (by omega))) (im_r2 (img_o (by omega) (by omega))) ?_
          refine S.callVv (pc' := 49) dX11_back_46 rfl cX11_116 (rk_X10_copyFrom (vs := x.2.1) vs27 (im_o2 ho1) (by omega)) rfl (vs_lay vs27) (by decide) rfl (Nat.le_of_ble_eq_true rfl) (fun M46 q46 => ?_)
          obtain ⟨c2, f2⟩ := q46
          have hN1 : ntIs M46 (143 + 13 * k9.toNat + 11) x.2.2 := y5.kept (fun a q1 q2 => by rw [f2 a (by omega), f1 a (by omega)])
          refine S.aload_n (pc' := 50) dX11_back_49 rfl rfl rfl ?_
          refine S.getR (pc' := 53) dX11_back_50 rfl fX11_44 L_0 rf_0_6 ?_
          refine S.aload_n (pc' := 54) dX11_back_53 rfl rfl rfl ?_
          refine S.getR (pc' := 57) dX11_back_54 rfl fX11_315 (im_lay (img_o (by omega) (by omega))) (im_r3 (img_o (by omega) (by omega))) ?_
          refine S.callVv (pc' := 60) dX11_back_57 rfl cX11_316 (rk_X3_copyFrom (nt := x.2.2) nt32 (im_o3 ho1) (by omega)) rfl (nt_lay nt32) (by decide) rfl (Nat.le_of_ble_eq_true rfl) (fun M57 q57 => ?_)
          obtain ⟨c3, f3⟩ := q57
          refine S.aload_n (pc' := 61) dX11_back_60 rfl rfl rfl ?_
          refine S.getR (pc' := 64) dX11_back_61 rfl fX11_37 L_0 rf_0_5 ?_
          refine S.getI (pc' := 67) dX11_back_64 rfl fX11_205 (vs_lay vs27) ?_
          refine S.iret dX11_back_67 rfl ?_
          have c4 := c2.kept (fun a q1 q2 => f3 a (by omega))
          refine ⟨c4.1, ⟨hA.kept (by rw [f3 0 (by omega), f2 0 (by omega), f1 0 (by omega)]) (by rw [f3 1 (by omega), f2 1 (by omega), f1 1 (by omega)]) (by rw [f3 2 (by omega), f2 2 (by omega), f1 2 (by omega)]), hG.kept (fun a q1 q2 => by rw [f3 a (by omega), f2 a (by omega), f1 a (by omega)]), c1.kept (fun a q1 q2 => by rw [f3 a (by omega), f2 a (by omega)]), c4, c3, hI.kept (fun a q1 q2 => by rw [f3 a (by omega), f2 a (by omega), f1 a (by omega)]), hS.kept (fun a q1 q2 => by rw [f3 a (by omega), f2 a (by omega), f1 a (by omega)])⟩, fun c hc => by rw [f3 c (by omega), f2 c (by omega), f1 c (by omega)]⟩
        · exfalso; omega
      · exfalso; omega
  · rw [if_pos hin]
    refine S.iload_n (pc' := 1) dX11_back_0 rfl rfl rfl ?_
    refine S.iconst (pc' := 2) dX11_back_1 rfl ?_
    refine S.callSi (pc' := 5) dX11_back_2 rfl cX11_221 (bk_X11_isWithin) rfl (by decide) rfl (Nat.le_of_ble_eq_true rfl) (fun z2 M2 q2 => ?_)
    obtain ⟨b2, rfl⟩ := q2
    refine S.if_ne (pc' := 8) (tgt := 10) dX11_back_5 (by decide) rfl (by unfold fp_rng; omega) (fun h5 => ?_) (fun h5 => ?_)
    · exfalso; omega
    · refine S.iconst (pc' := 9) dX11_back_8 rfl ?_
      refine S.iret dX11_back_9 rfl ?_
      exact ⟨rfl, hcs, frC.refl _⟩
theorem mpRow.kept {f h : Nat → Int} (c : mpRow f 0 g pg) (hg : gOk g) (hP : pgOk g pg) (e : ∀ j : Nat, j < 120 → h j = f j) : mpRow h 0 g pg := mpIs.kept (M := fun _ => f) (N := fun _ => h) c hg hP (by omega) (fun j _ _ => e j (by omega))
theorem mvRow.kept {f h : Nat → Int} (c : mvRow f vs) (e : ∀ j : Nat, j < 120 → h j = f j) : mvRow h vs := mvIs.kept (M := fun _ => f) (N := fun _ => h) c (fun j _ _ => e j (by omega))
theorem copiesAll_loop {a b : Int} (ha : 0 ≤ a ∧ a ≤ 240) (hb : 0 ≤ b ∧ b ≤ 240) (hab : a + 120 ≤ b ∨ b + 120 ≤ a) : ∀ (n : Nat) (k : Int) (N : fp_Mem), (120 - k).toNat < n → 0 ≤ k → k ≤ 120 → N = fp_upM M 178 (fun j : Nat => if b ≤ j ∧ (j : Int) < b + k then M 178 (a + (j - b)).toNat else M 178 j) →
    fp_S l G 0 kX12_copiesAll 2 [some (rV G 177), some (iV a), some (iV b), some (iV k)] [] N (qW (fp_upM M 178 (fun j : Nat => if b ≤ j ∧ (j : Int) < b + 120 then M 178 (a + (j - b)).toNat else M 178 j))) := by
  intro n
  induction n with
  | zero => intro k N h; omega
  | succ n ih =>
    intro k N h k0 k1 hN
    refine S.iload_n (pc' := 3) dX12_copiesAll_2 rfl rfl rfl ?_
    refine S.bipush (pc' := 5) dX12_copiesAll_3 rfl (by decide) ?_
    refine S.icmp_ge (pc' := 8) (tgt := 30) dX12_copiesAll_5 (by decide) rfl (by unfold fp_rng; omega) (by unfold fp_rng; omega) (fun h5 => ?_) (fun h5 => ?_)
    · refine S.vret dX12_copiesAll_30 rfl ?_
      show _ = _
      rw [hN, show k = 120 by omega]
    · refine S.aload_n (pc' := 9) dX12_copiesAll_8 rfl rfl rfl ?_
      refine S.getR (pc' := 12) dX12_copiesAll_9 rfl fX12_7 L_177 rf_177_0 ?_
      refine S.iload_n (pc' := 13) dX12_copiesAll_12 rfl rfl rfl ?_
      refine S.iload_n (pc' := 14) dX12_copiesAll_13 rfl rfl rfl ?_
      refine S.iadd (pc' := 15) dX12_copiesAll_14 rfl ?_
      refine S.aload_n (pc' := 16) dX12_copiesAll_15 rfl rfl rfl ?_
      refine S.getR (pc' := 19) dX12_copiesAll_16 rfl fX12_7 L_177 rf_177_0 ?_
      refine S.iload_n (pc' := 20) dX12_copiesAll_19 rfl rfl rfl ?_
      refine S.iload_n (pc' := 21) dX12_copiesAll_20 rfl rfl rfl ?_
      refine S.iadd (pc' := 22) dX12_copiesAll_21 rfl ?_
      refine S.iald (pc' := 23) dX12_copiesAll_22 rfl L_178 (by omega) (by omega) ?_
      refine S.iast (pc' := 24) dX12_copiesAll_23 rfl L_178 (by omega) (by omega) ?_
      refine S.iinc (pc' := 27) (LL' := [_, _, _, _]) dX12_copiesAll_24 rfl (by decide) rfl rfl rfl ?_
      refine S.goto (pc' := 2) dX12_copiesAll_27 (by decide) ?_
      refine ih _ _ (by omega) (by omega) (by omega) ?_
      rw [hN, fp_up_same]
      refine congrArg (fp_upM _ 178) (funext fun j => ?_)
      rw [fp_upM_at]
      dsimp only [fp_upf]
      (repeat' split) <;> first | (exfalso; omega) | (refine congrArg (M 178) ?_; omega)
theorem ok_X12_copiesAll {a b : Int} (ha : 0 ≤ a ∧ a ≤ 240) (hb : 0 ≤ b ∧ b ≤ 240) (hab : a + 120 ≤ b ∨ b + 120 ≤ a) : fp_Ok l G 0 kX12_copiesAll [rV G 177, iV a, iV b] M (qW (fp_upM M 178 (fun j : Nat => if b ≤ j ∧ (j : Int) < b + 120 then M 178 (a + (j - b)).toNat else M 178 j))) := by
  refine fp_Ok.of (r := 1) rfl (Nat.le_of_ble_eq_true rfl) rfl ?_
  refine S.iconst (pc' := 1) dX12_copiesAll_0 rfl ?_
  refine S.istore_n (pc' := 2) (LL' := [_, _, _, _]) dX12_copiesAll_1 rfl (by decide) rfl rfl rfl ?_
  refine copiesAll_loop ha hb hab 121 0 M (by omega) (by omega) (by omega) ?_
  rw [show (fun j : Nat => if b ≤ j ∧ (j : Int) < b + 0 then M 178 (a + (j - b)).toNat else M 178 j) = M 178 from funext fun j => by rw [if_neg (by omega)], fp_upM_self]
theorem mm_keep {k9 : Int} (hc : MS M tp fl g pg vs nt im sh tn) (ho : OK g pg vs nt im sh) (h1 : fp_rng k9) : fp_Ok l G 1 kX12_keep [rV G 177, iV k9] M (qI fun z N => z = (A_keep im k9 (pg, vs, nt)).1 ∧ MS N tp fl g pg vs nt (A_keep im k9 (pg, vs, nt)).2 sh tn ∧ frD M N) := by
  have hcs := hc
  obtain ⟨hA, hG, hP, hV, hN, hI, hS, hK⟩ := hc
  have h1' := h1
  unfold fp_rng at h1'
  refine fp_Ok.of (r := 1) rfl (Nat.le_of_ble_eq_true rfl) rfl ?_
  unfold A_keep
  by_cases hin : 0 ≤ k9 ∧ k9 ≤ 1
  · rw [if_neg (fun q => q hin)]
    have hk := hI k9 hin.1 (by omega)
    have hk01 : k9.toNat = 0 ∨ k9.toNat = 1 := by omega
    have hb : M 199 k9.toNat = if (im k9).isSome then 1 else 0 := by
      rcases hk with ⟨q1, q2⟩ | ⟨x, q1, q2, -⟩
      · rw [q1, q2]; rfl
      · rw [q1, q2]; rfl
    rw [← hb]
    have hb01 : M 199 k9.toNat = 0 ∨ M 199 k9.toNat = 1 := by rw [hb]; split <;> omega
    have hfin : ∀ N1 : fp_Mem, N1 178 = (fun j : Nat => if 120 * (k9 + 1) ≤ j ∧ (j : Int) < 120 * (k9 + 1) + 120 then M 178 (0 + (j - 120 * (k9 + 1))).toNat else M 178 j) → N1 199 = fp_upf (M 199) k9.toNat 1 → (∀ a, a ≠ 178 → a ≠ 199 → N1 a = M a) → MS N1 tp fl g pg vs nt (fp_ui im k9 (some (pg, vs, nt))) sh tn ∧ frD M N1 := by
      intro N1 e1 e2 e3
      have e4 : ∀ j : Nat, j < 120 → N1 178 j = M 178 j := fun j hj => by rw [e1]; dsimp only; rw [if_neg (by omega)]
      refine ⟨⟨?_, ?_, hP.kept ho.1 ho.2.1 (by omega) (fun j j0 j1 => e4 j (by omega)), hV.kept e4, hN.kept (fun j j0 j1 => e4 j (by omega)), ?_, ?_, ?_⟩, fun c hc => e3 c (by omega) (by omega)⟩
      · unfold msA at *; rw [e3 177 (by decide) (by decide), e3 186 (by decide) (by decide)]; exact hA
      · unfold mdIs md_ok at *; rw [e3 177 (by decide) (by decide), e3 179 (by decide) (by decide), e3 180 (by decide) (by decide), e3 181 (by decide) (by decide)]; exact hG
      · intro j j0 j1
        rw [e2]
        by_cases e : j = k9
        · subst e
          rw [fp_ui_at, fp_upf_at]
          have e5 : ∀ i : Nat, i < 120 → (fun i => N1 178 (120 * (j.toNat + 1) + i)) i = M 178 i := fun i hi => by
            dsimp only
            rw [e1]
            dsimp only
            rw [if_pos (by omega)]
            refine congrArg (M 178) ?_
            omega
          exact Or.inr ⟨_, rfl, rfl, mpRow.kept hP ho.1 ho.2.1 e5, hV.kept e5, hN.kept (fun i i0 i1 => e5 i (by omega))⟩
        · rw [fp_ui_ne e, fp_upf_ne (by omega)]
          have e5 : ∀ i : Nat, i < 120 → (fun i => N1 178 (120 * (j.toNat + 1) + i)) i = (fun i => M 178 (120 * (j.toNat + 1) + i)) i := fun i hi => by
            dsimp only
            rw [e1]
            dsimp only
            rw [if_neg (by omega)]
          rcases hI j j0 j1 with ⟨q1, q2⟩ | ⟨x, q1, q2, q3, q4, q5⟩
          · exact Or.inl ⟨q1, q2⟩
          · exact Or.inr ⟨x, q1, q2, q3.kept ho.1 (ho.2.2.2.2.1 j x q1).1 e5, q4.kept e5, q5.kept (fun i i0 i1 => e5 i (by omega))⟩
      · unfold msS at *; rw [e3 200 (by decide) (by decide), e3 201 (by decide) (by decide), e3 202 (by decide) (by decide)]; exact hS
      · unfold msK at *; rw [e3 187 (by decide) (by decide), e3 188 (by decide) (by decide)]; exact hK
    refine S.iload_n (pc' := 1) dX12_keep_0 rfl rfl rfl ?_
    refine S.i2l (pc' := 2) dX12_keep_1 rfl (by unfold fp_rng; omega) ?_
    refine S.lconst (pc' := 3) (w := 0) dX12_keep_2 rfl rfl ?_
    refine S.lconst (pc' := 4) (w := 1) dX12_keep_3 rfl rfl ?_
    refine S.callSi (pc' := 7) dX12_keep_4 rfl cX12_94 (bk_X12_in) rfl (by decide) rfl (Nat.le_of_ble_eq_true rfl) (fun z4 M4 q4 => ?_)
    obtain ⟨b4, rfl⟩ := q4
    refine S.if_ne (pc' := 10) (tgt := 12) dX12_keep_7 (by decide) rfl (by unfold fp_rng; omega) (fun h7 => ?_) (fun h7 => ?_)
    · refine S.aload_n (pc' := 13) dX12_keep_12 rfl rfl rfl ?_
      refine S.iconst (pc' := 14) dX12_keep_13 rfl ?_
      refine S.bipush (pc' := 16) dX12_keep_14 rfl (by decide) ?_
      refine S.iload_n (pc' := 17) dX12_keep_16 rfl rfl rfl ?_
      refine S.iconst (pc' := 18) dX12_keep_17 rfl ?_
      refine S.iadd (pc' := 19) dX12_keep_18 rfl ?_
      refine S.imul (pc' := 20) dX12_keep_19 rfl ?_
      refine S.callVw (pc' := 23) dX12_keep_20 rfl cX12_327 (ok_X12_copiesAll (by omega) (by omega) (by omega)) rfl L_177 (by decide) rfl (Nat.le_of_ble_eq_true rfl) ?_
      refine S.aload_n (pc' := 24) dX12_keep_23 rfl rfl rfl ?_
      refine S.getR (pc' := 27) dX12_keep_24 rfl fX12_78 L_177 rf_177_40 ?_
      refine S.iload_n (pc' := 28) dX12_keep_27 rfl rfl rfl ?_
      refine S.zald (pc' := 29) dX12_keep_28 rfl L_199 (by omega) (by omega) ?_
      rw [fp_upM_ne (show 199 ≠ 178 by decide)]
      refine S.if_eq (pc' := 32) (tgt := 36) dX12_keep_29 (by decide) rfl (by unfold fp_rng; omega) (fun h29 => ?_) (fun h29 => ?_)
      · refine S.iconst (pc' := 37) dX12_keep_36 rfl ?_
        refine S.istore_n (pc' := 38) (LL' := [_, _, _]) dX12_keep_37 rfl (by decide) rfl rfl rfl ?_
        refine S.aload_n (pc' := 39) dX12_keep_38 rfl rfl rfl ?_
        refine S.getR (pc' := 42) dX12_keep_39 rfl fX12_78 L_177 rf_177_40 ?_
        refine S.iload_n (pc' := 43) dX12_keep_42 rfl rfl rfl ?_
        refine S.iconst (pc' := 44) dX12_keep_43 rfl ?_
        refine S.zast (pc' := 45) dX12_keep_44 rfl L_199 (by omega) (by omega) (by first | exact Or.inl rfl | exact Or.inr rfl | omega) ?_
        refine S.iload_n (pc' := 46) dX12_keep_45 rfl rfl rfl ?_
        refine S.iret dX12_keep_46 rfl ?_
        refine ⟨by omega, hfin _ ?_ ?_ ?_⟩
        · rw [fp_up_ne (by decide), fp_upM_at]
        · rw [fp_up_at, fp_upM_ne (by decide)]
        · intro a ha hb; rw [fp_up_ne hb, fp_upM_ne ha]
      · refine S.iconst (pc' := 33) dX12_keep_32 rfl ?_
        refine S.goto (pc' := 37) dX12_keep_33 (by decide) ?_
        refine S.istore_n (pc' := 38) (LL' := [_, _, _]) dX12_keep_37 rfl (by decide) rfl rfl rfl ?_
        refine S.aload_n (pc' := 39) dX12_keep_38 rfl rfl rfl ?_
        refine S.getR (pc' := 42) dX12_keep_39 rfl fX12_78 L_177 rf_177_40 ?_
        refine S.iload_n (pc' := 43) dX12_keep_42 rfl rfl rfl ?_
        refine S.iconst (pc' := 44) dX12_keep_43 rfl ?_
        refine S.zast (pc' := 45) dX12_keep_44 rfl L_199 (by omega) (by omega) (by first | exact Or.inl rfl | exact Or.inr rfl | omega) ?_
        refine S.iload_n (pc' := 46) dX12_keep_45 rfl rfl rfl ?_
        refine S.iret dX12_keep_46 rfl ?_
        refine ⟨by omega, hfin _ ?_ ?_ ?_⟩
        · rw [fp_up_ne (by decide), fp_upM_at]
        · rw [fp_up_at, fp_upM_ne (by decide)]
        · intro a ha hb; rw [fp_up_ne hb, fp_upM_ne ha]
    · exfalso; omega
  · rw [if_pos hin]
    refine S.iload_n (pc' := 1) dX12_keep_0 rfl rfl rfl ?_
    refine S.i2l (pc' := 2) dX12_keep_1 rfl (by unfold fp_rng; omega) ?_
    refine S.lconst (pc' := 3) (w := 0) dX12_keep_2 rfl rfl ?_
    refine S.lconst (pc' := 4) (w := 1) dX12_keep_3 rfl rfl ?_
    refine S.callSi (pc' := 7) dX12_keep_4 rfl cX12_94 (bk_X12_in) rfl (by decide) rfl (Nat.le_of_ble_eq_true rfl) (fun z4 M4 q4 => ?_)
    obtain ⟨b4, rfl⟩ := q4
    refine S.if_ne (pc' := 10) (tgt := 12) dX12_keep_7 (by decide) rfl (by unfold fp_rng; omega) (fun h7 => ?_) (fun h7 => ?_)
    · exfalso; omega
    · refine S.iconst (pc' := 11) dX12_keep_10 rfl ?_
      refine S.iret dX12_keep_11 rfl ?_
      exact ⟨rfl, hcs, frD.refl _⟩
theorem mm_back {k9 : Int} (hc : MS M tp fl g pg vs nt im sh tn) (ho : OK g pg vs nt im sh) (h1 : fp_rng k9) : fp_Ok l G 1 kX12_back [rV G 177, iV k9] M (qI fun z N => z = (A_back im k9 (pg, vs, nt)).1 ∧ MS N tp fl g (A_back im k9 (pg, vs, nt)).2.1 (A_back im k9 (pg, vs, nt)).2.2.1 (A_back im k9 (pg, vs, nt)).2.2.2 im sh tn ∧ frD M N) := by
  have hcs := hc
  obtain ⟨hA, hG, hP, hV, hN, hI, hS, hK⟩ := hc
  have hio := ho.2.2.2.2.1
  have h1' := h1
  unfold fp_rng at h1'
  refine fp_Ok.of (r := 0) rfl (Nat.le_of_ble_eq_true rfl) rfl ?_
  unfold A_back
  by_cases hin : 0 ≤ k9 ∧ k9 ≤ 1
  · rw [if_neg (fun q => q hin)]
    have hk01 : k9.toNat = 0 ∨ k9.toNat = 1 := by omega
    rcases hI k9 hin.1 (by omega) with ⟨y1, y2⟩ | ⟨x, y1, y2, y3, y4, y5⟩
    · rw [y1]
      refine S.iload_n (pc' := 1) dX12_back_0 rfl rfl rfl ?_
      refine S.i2l (pc' := 2) dX12_back_1 rfl (by unfold fp_rng; omega) ?_
      refine S.lconst (pc' := 3) (w := 0) dX12_back_2 rfl rfl ?_
      refine S.lconst (pc' := 4) (w := 1) dX12_back_3 rfl rfl ?_
      refine S.callSi (pc' := 7) dX12_back_4 rfl cX12_94 (bk_X12_in) rfl (by decide) rfl (Nat.le_of_ble_eq_true rfl) (fun z4 M4 q4 => ?_)
      obtain ⟨b4, rfl⟩ := q4
      refine S.if_ne (pc' := 10) (tgt := 12) dX12_back_7 (by decide) rfl (by unfold fp_rng; omega) (fun h7 => ?_) (fun h7 => ?_)
      · refine S.aload_n (pc' := 13) dX12_back_12 rfl rfl rfl ?_
        refine S.getR (pc' := 16) dX12_back_13 rfl fX12_78 L_177 rf_177_40 ?_
        refine S.iload_n (pc' := 17) dX12_back_16 rfl rfl rfl ?_
        refine S.zald (pc' := 18) dX12_back_17 rfl L_199 (by omega) (by omega) ?_
        refine S.if_ne (pc' := 21) (tgt := 24) dX12_back_18 (by decide) rfl (by unfold fp_rng; omega) (fun h18 => ?_) (fun h18 => ?_)
        · exfalso; omega
        · refine S.bipush (pc' := 23) dX12_back_21 rfl (by decide) ?_
          refine S.iret dX12_back_23 rfl ?_
          exact ⟨rfl, hcs, frD.refl _⟩
      · exfalso; omega
    · rw [y1]
      have hpo := (hio k9 x y1).1
      have hfin : ∀ N1 : fp_Mem, N1 = fp_upM M 178 (fun j : Nat => if 0 ≤ (j : Int) ∧ (j : Int) < 0 + 120 then M 178 (120 * (k9 + 1) + (j - 0)).toNat else M 178 j) → N1 178 95 = x.2.1.length ∧ MS N1 tp fl g x.1 x.2.1 x.2.2 im sh tn ∧ frD M N1 := by
        intro N1 e0
        have e3 : ∀ a, a ≠ 178 → N1 a = M a := fun a ha => by rw [e0, fp_upM_ne ha]
        have e4 : ∀ j : Nat, j < 120 → N1 178 j = (fun i => M 178 (120 * (k9.toNat + 1) + i)) j := fun j hj => by
          rw [e0, fp_upM_at, if_pos (by omega)]
          refine congrArg (M 178) ?_
          omega
        have e5 : ∀ j : Nat, 120 ≤ j → N1 178 j = M 178 j := fun j hj => by rw [e0, fp_upM_at, if_neg (by omega)]
        have hv := y4.kept e4
        refine ⟨hv.1, ⟨?_, ?_, mpRow.kept y3 ho.1 hpo e4, hv, y5.kept (fun j j0 j1 => e4 j (by omega)), hI.kept (e3 199 (by decide)) (fun j j0 j1 => e5 j (by omega)) hio ho.1, ?_, ?_⟩, fun c hc => e3 c (by omega)⟩
        · unfold msA at *; rw [e3 177 (by decide), e3 186 (by decide)]; exact hA
        · unfold mdIs md_ok at *; rw [e3 177 (by decide), e3 179 (by decide), e3 180 (by decide), e3 181 (by decide)]; exact hG
        · unfold msS at *; rw [e3 200 (by decide), e3 201 (by decide), e3 202 (by decide)]; exact hS
        · unfold msK at *; rw [e3 187 (by decide), e3 188 (by decide)]; exact hK
      refine S.iload_n (pc' := 1) dX12_back_0 rfl rfl rfl ?_
      refine S.i2l (pc' := 2) dX12_back_1 rfl (by unfold fp_rng; omega) ?_
      refine S.lconst (pc' := 3) (w := 0) dX12_back_2 rfl rfl ?_
      refine S.lconst (pc' := 4) (w := 1) dX12_back_3 rfl rfl ?_
      refine S.callSi (pc' := 7) dX12_back_4 rfl cX12_94 (bk_X12_in) rfl (by decide) rfl (Nat.le_of_ble_eq_true rfl) (fun z4 M4 q4 => ?_)
      obtain ⟨b4, rfl⟩ := q4
      refine S.if_ne (pc' := 10) (tgt := 12) dX12_back_7 (by decide) rfl (by unfold fp_rng; omega) (fun h7 => ?_) (fun h7 => ?_)
      · refine S.aload_n (pc' := 13) dX12_back_12 rfl rfl rfl ?_
        refine S.getR (pc' := 16) dX12_back_13 rfl fX12_78 L_177 rf_177_40 ?_
        refine S.iload_n (pc' := 17) dX12_back_16 rfl rfl rfl ?_
        refine S.zald (pc' := 18) dX12_back_17 rfl L_199 (by omega) (by omega) ?_
        refine S.if_ne (pc' := 21) (tgt := 24) dX12_back_18 (by decide) rfl (by unfold fp_rng; omega) (fun h18 => ?_) (fun h18 => ?_)
        · refine S.aload_n (pc' := 25) dX12_back_24 rfl rfl rfl ?_
          refine S.bipush (pc' := 27) dX12_back_25 rfl (by decide) ?_
          refine S.iload_n (pc' := 28) dX12_back_27 rfl rfl rfl ?_
          refine S.iconst (pc' := 29) dX12_back_28 rfl ?_
          refine S.iadd (pc' := 30) dX12_back_29 rfl ?_
          refine S.imul (pc' := 31) dX12_back_30 rfl ?_
          refine S.iconst (pc' := 32) dX12_back_31 rfl ?_
          refine S.callVw (pc' := 35) dX12_back_32 rfl cX12_327 (ok_X12_copiesAll (by omega) (by omega) (by omega)) rfl L_177 (by decide) rfl (Nat.le_of_ble_eq_true rfl) ?_
          refine S.aload_n (pc' := 36) dX12_back_35 rfl rfl rfl ?_
          refine S.callVe (pc' := 39) dX12_back_36 rfl cX12_225 (ok_X12_visits) rfl L_177 (by decide) rfl (Nat.le_of_ble_eq_true rfl) ?_
          refine S.iret dX12_back_39 rfl ?_
          exact hfin _ rfl
        · exfalso; omega
      · exfalso; omega
  · rw [if_pos hin]
    refine S.iload_n (pc' := 1) dX12_back_0 rfl rfl rfl ?_
    refine S.i2l (pc' := 2) dX12_back_1 rfl (by unfold fp_rng; omega) ?_
    refine S.lconst (pc' := 3) (w := 0) dX12_back_2 rfl rfl ?_
    refine S.lconst (pc' := 4) (w := 1) dX12_back_3 rfl rfl ?_
    refine S.callSi (pc' := 7) dX12_back_4 rfl cX12_94 (bk_X12_in) rfl (by decide) rfl (Nat.le_of_ble_eq_true rfl) (fun z4 M4 q4 => ?_)
    obtain ⟨b4, rfl⟩ := q4
    refine S.if_ne (pc' := 10) (tgt := 12) dX12_back_7 (by decide) rfl (by unfold fp_rng; omega) (fun h7 => ?_) (fun h7 => ?_)
    · exfalso; omega
    · refine S.iconst (pc' := 11) dX12_back_10 rfl ?_
      refine S.iret dX12_back_11 rfl ?_
      exact ⟨rfl, hcs, frD.refl _⟩
end IMA
