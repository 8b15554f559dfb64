/-! odds, likeliest: the reference -/
theorem chF_in {g : aGd} {pg : aPg} {vs : List aVt} {x : Int} (hg : gOk g) (hP : pgOk g pg) (hv : vsOk g vs) (hl : vs.length ≤ 10) (t : Int) : ∀ m : Nat, 0 ≤ chF g pg vs x m t ∧ chF g pg vs x m t ≤ m * 10000000000
  | 0 => by show (0 : Int) ≤ 0 ∧ (0 : Int) ≤ ((0 : Nat) : Int) * 10000000000; omega
  | m + 1 => by
    have h := chF_in (x := x) hg hP hv hl t m
    obtain ⟨⟨w0, w1⟩, -⟩ := chI_in (m := (m : Int)) hg hP hv vs.length
    have w2 := pow10_le hl
    unfold chF
    split <;> omega
section MOD
variable {l : Launch} {G : fp_WG} {M N : fp_Mem} {tp : List Int} {fl : Int} {g : aGd} {pg : aPg} {vs : List aVt} {nt : List Int} {im : aIm} {sh : aSh} {tn : Int}
theorem MS.lay (h : MS M tp fl g pg vs nt im sh tn) (ho : OK g pg vs nt im sh) (f : frJ M N) : MS N tp fl g pg vs nt im sh tn := by
  obtain ⟨f1, f2, f3⟩ := f
  have h1 : MS (fp_up M 177 33 (N 177 33)) tp fl g pg vs nt im sh tn := by
    refine MS.tap h (fun c hc _ => fp_up_ne hc) ⟨rfl, rfl, rfl⟩ ?_
    exact h.1
  have e177 : N 177 = fp_up M 177 33 (N 177 33) 177 := by
    funext j
    by_cases e : j = 33
    · subst e; rfl
    · rw [f2 j e, fp_up_at, fp_upf_ne e]
  refine h1.trial ho (fun c hc => ?_) (fun j hj => ?_)
  · by_cases e : c = 177
    · subst e; exact e177
    · rw [fp_up_ne e]; exact f1 c e (by omega) (by omega)
  · rw [fp_up_ne (by decide)]; exact f3 j (by omega)
theorem frJ.d (f : frJ M N) : frD M N := fun c hc => f.1 c (by omega) (by omega) (by omega)
def A_odds (g : aGd) (pg : aPg) (vs : List aVt) (x t b : Int) : Int := if ((0 ≤ x ∧ x < g.2.1) ∧ (0 ≤ t ∧ t < g.1)) ∧ (0 ≤ b ∧ b ≤ 1) then (if 10 < vs.length then -2 else (if b = 0 then chF g pg vs x (2 ^ vs.length) t else 10 ^ vs.length) / ((Nat.gcd (chF g pg vs x (2 ^ vs.length) t).toNat ((10 : Int) ^ vs.length).toNat : Nat) : Int)) else -1
theorem mm_odds {x t b : Int} (hc : MS M tp fl g pg vs nt im sh tn) (ho : OK g pg vs nt im sh) (hxr : fp_rng x) (htr : fp_rng t) (hbr : fp_rng b) : fp_Ok l G 6 kX12_odds [rV G 177, iV x, iV t, iV b] M (qJ fun z N => z = A_odds g pg vs x t b ∧ MS N tp fl g pg vs nt im sh tn ∧ frD M N) := by
  have hcs := hc
  obtain ⟨-, hd, hcl, hv, -⟩ := hc
  have hg := ho.1
  have hP := ho.2.1
  have hvo := ho.2.2.1
  have hv' : mvIs M vs := hv
  have h95 : M 178 95 = (vs.length : Int) := hv.1
  have hl12 := hv.2.1
  have e4 : M 177 4 = g.1 := hd.1
  have e5 : M 177 5 = g.2.1 := hd.2.1
  have g1 := hg.1
  have g2 := hg.2.1
  have hthis : fp_rng x := hxr
  unfold fp_rng at hxr htr hbr
  refine fp_Ok.of (r := 0) rfl (Nat.le_of_ble_eq_true rfl) rfl ?_
  have cL := ok_X12_isLine (l := l) (G := G) (M := M) (t := x) hthis (by rw [e5]; exact g2)
  have cT := ok_X12_isThing (l := l) (G := G) (M := M) (t := t) (by unfold fp_rng; omega) (by rw [e4]; exact g1)
  rw [e5] at cL
  rw [e4] at cT
  unfold A_odds
  by_cases hx : 0 ≤ x ∧ x < g.2.1
  · rw [if_pos hx] at cL
    by_cases htt : 0 ≤ t ∧ t < g.1
    · rw [if_pos htt] at cT
      by_cases hb : 0 ≤ b ∧ b ≤ 1
      · rw [if_pos ⟨⟨hx, htt⟩, hb⟩]
        have cB := ok_X12_in (l := l) (G := G) (M := M) (v := b) (lo := 0) (hi := 1) (by unfold fp_lng; omega) (by unfold fp_lng; omega) (by unfold fp_lng; omega)
        rw [if_pos hb] at cB
        by_cases h10 : 10 < vs.length
        · rw [if_pos h10]
          refine S.aload_n (pc' := 1) dX12_odds_0 rfl rfl rfl ?_
          refine S.iload_n (pc' := 2) dX12_odds_1 rfl rfl rfl ?_
          refine S.callVe (pc' := 5) dX12_odds_2 rfl cX12_219 cL rfl L_177 (by decide) rfl (Nat.le_of_ble_eq_true rfl) ?_
          refine S.if_eq (pc' := 8) (tgt := 26) dX12_odds_5 (by decide) rfl (by unfold fp_rng; omega) (fun h5 => ?_) (fun h5 => ?_)
          · first | exact absurd h5 (by decide) | exact absurd h13 (by decide) | exact absurd h23 (by decide)
          · refine S.aload_n (pc' := 9) dX12_odds_8 rfl rfl rfl ?_
            refine S.iload_n (pc' := 10) dX12_odds_9 rfl rfl rfl ?_
            refine S.callVe (pc' := 13) dX12_odds_10 rfl cX12_205 cT rfl L_177 (by decide) rfl (Nat.le_of_ble_eq_true rfl) ?_
            refine S.if_eq (pc' := 16) (tgt := 26) dX12_odds_13 (by decide) rfl (by unfold fp_rng; omega) (fun h13 => ?_) (fun h13 => ?_)
            · first | exact absurd h5 (by decide) | exact absurd h13 (by decide) | exact absurd h23 (by decide)
            · refine S.iload_n (pc' := 17) dX12_odds_16 rfl rfl rfl ?_
              refine S.i2l (pc' := 18) dX12_odds_17 rfl (by unfold fp_rng; omega) ?_
              refine S.lconst (pc' := 19) (w := 0) dX12_odds_18 rfl rfl ?_
              refine S.lconst (pc' := 20) (w := 1) dX12_odds_19 rfl rfl ?_
              refine S.callSe (pc' := 23) dX12_odds_20 rfl cX12_94 cB rfl (by decide) rfl (Nat.le_of_ble_eq_true rfl) ?_
              refine S.if_ne (pc' := 26) (tgt := 30) dX12_odds_23 (by decide) rfl (by unfold fp_rng; omega) (fun h23 => ?_) (fun h23 => ?_)
              · refine S.aload_n (pc' := 31) dX12_odds_30 rfl rfl rfl ?_
                refine S.callVe (pc' := 34) dX12_odds_31 rfl cX12_225 ok_X12_visits rfl L_177 (by decide) rfl (Nat.le_of_ble_eq_true rfl) ?_
                rw [h95]
                refine S.bipush (pc' := 36) dX12_odds_34 rfl (by decide) ?_
                refine S.icmp_le (pc' := 39) (tgt := 43) dX12_odds_36 (by decide) rfl (by unfold fp_rng; omega) (by unfold fp_rng; omega) (fun h36 => ?_) (fun h36 => ?_)
                · exfalso; omega
                · refine S.ldc2 (pc' := 42) (v := -2) dX12_odds_39 rfl lX12_295 (by decide) ?_
                  refine S.lret dX12_odds_42 rfl ?_
                  exact ⟨rfl, hcs, fun _ _ => rfl⟩
              · first | exact absurd h5 (by decide) | exact absurd h13 (by decide) | exact absurd h23 (by decide)
        · rw [if_neg h10]
          have hF := chF_in (x := x) hg hP hvo (by omega) t (2 ^ vs.length)
          have h1024 : ((2 ^ vs.length : Nat) : Int) ≤ 1024 := by
            have q : ∀ n : Nat, n < 11 → ((2 ^ n : Nat) : Int) ≤ 1024 := by decide +kernel
            exact q _ (by omega)
          have hp10 := pow10_le (show vs.length ≤ 10 by omega)
          have hp0 : (0 : Int) < 10 ^ vs.length := Int.pow_pos (by decide)
          generalize hTT : 2 ^ vs.length = TT at *
          refine S.aload_n (pc' := 1) dX12_odds_0 rfl rfl rfl ?_
          refine S.iload_n (pc' := 2) dX12_odds_1 rfl rfl rfl ?_
          refine S.callVe (pc' := 5) dX12_odds_2 rfl cX12_219 cL rfl L_177 (by decide) rfl (Nat.le_of_ble_eq_true rfl) ?_
          refine S.if_eq (pc' := 8) (tgt := 26) dX12_odds_5 (by decide) rfl (by unfold fp_rng; omega) (fun h5 => ?_) (fun h5 => ?_)
          · first | exact absurd h5 (by decide) | exact absurd h13 (by decide) | exact absurd h23 (by decide)
          · refine S.aload_n (pc' := 9) dX12_odds_8 rfl rfl rfl ?_
            refine S.iload_n (pc' := 10) dX12_odds_9 rfl rfl rfl ?_
            refine S.callVe (pc' := 13) dX12_odds_10 rfl cX12_205 cT rfl L_177 (by decide) rfl (Nat.le_of_ble_eq_true rfl) ?_
            refine S.if_eq (pc' := 16) (tgt := 26) dX12_odds_13 (by decide) rfl (by unfold fp_rng; omega) (fun h13 => ?_) (fun h13 => ?_)
            · first | exact absurd h5 (by decide) | exact absurd h13 (by decide) | exact absurd h23 (by decide)
            · refine S.iload_n (pc' := 17) dX12_odds_16 rfl rfl rfl ?_
              refine S.i2l (pc' := 18) dX12_odds_17 rfl (by unfold fp_rng; omega) ?_
              refine S.lconst (pc' := 19) (w := 0) dX12_odds_18 rfl rfl ?_
              refine S.lconst (pc' := 20) (w := 1) dX12_odds_19 rfl rfl ?_
              refine S.callSe (pc' := 23) dX12_odds_20 rfl cX12_94 cB rfl (by decide) rfl (Nat.le_of_ble_eq_true rfl) ?_
              refine S.if_ne (pc' := 26) (tgt := 30) dX12_odds_23 (by decide) rfl (by unfold fp_rng; omega) (fun h23 => ?_) (fun h23 => ?_)
              · refine S.aload_n (pc' := 31) dX12_odds_30 rfl rfl rfl ?_
                refine S.callVe (pc' := 34) dX12_odds_31 rfl cX12_225 ok_X12_visits rfl L_177 (by decide) rfl (Nat.le_of_ble_eq_true rfl) ?_
                rw [h95]
                refine S.bipush (pc' := 36) dX12_odds_34 rfl (by decide) ?_
                refine S.icmp_le (pc' := 39) (tgt := 43) dX12_odds_36 (by decide) rfl (by unfold fp_rng; omega) (by unfold fp_rng; omega) (fun h36 => ?_) (fun h36 => ?_)
                · refine S.aload_n (pc' := 44) dX12_odds_43 rfl rfl rfl ?_
                  refine S.iload_n (pc' := 45) dX12_odds_44 rfl rfl rfl ?_
                  refine S.callVv (pc' := 48) dX12_odds_45 rfl cX12_297 (rk_X12_layChances hg hP hvo (by omega) hx hd hv' hcl) rfl L_177 (by decide) rfl (Nat.le_of_ble_eq_true rfl) (fun M45 q45 => ?_)
                  refine S.aload_n (pc' := 49) dX12_odds_48 rfl rfl rfl ?_
                  refine S.getR (pc' := 52) dX12_odds_49 rfl fX12_56 L_177 rf_177_32 ?_
                  refine S.iload_n (pc' := 53) dX12_odds_52 rfl rfl rfl ?_
                  refine S.lald (pc' := 54) dX12_odds_53 rfl L_192 (by omega) (by omega) ?_
                  refine S.aload_n (pc' := 55) dX12_odds_54 rfl rfl rfl ?_
                  refine S.getJ (pc' := 58) dX12_odds_55 rfl fX12_289 L_177 ?_
                  rw [q45.2.2 t (by omega) (by omega), q45.2.1, hTT]
                  refine S.iload_n (pc' := 59) dX12_odds_58 rfl rfl rfl ?_
                  refine S.callSj (pc' := 62) dX12_odds_59 rfl cX12_300 (rk_X12_lowest (by omega) (by omega) (by omega)) rfl (by decide) rfl (Nat.le_of_ble_eq_true rfl) (fun z59 M59 q59 => ?_)
                  refine S.lret dX12_odds_62 rfl ?_
                  obtain ⟨rfl, rfl⟩ := q59
                  exact ⟨rfl, hcs.lay ho q45.1, q45.1.d⟩
                · exfalso; omega
              · first | exact absurd h5 (by decide) | exact absurd h13 (by decide) | exact absurd h23 (by decide)
      · rw [if_neg (fun q => hb q.2)]
        have cB := ok_X12_in (l := l) (G := G) (M := M) (v := b) (lo := 0) (hi := 1) (by unfold fp_lng; omega) (by unfold fp_lng; omega) (by unfold fp_lng; omega)
        rw [if_neg hb] at cB
        refine S.aload_n (pc' := 1) dX12_odds_0 rfl rfl rfl ?_
        refine S.iload_n (pc' := 2) dX12_odds_1 rfl rfl rfl ?_
        refine S.callVe (pc' := 5) dX12_odds_2 rfl cX12_219 cL rfl L_177 (by decide) rfl (Nat.le_of_ble_eq_true rfl) ?_
        refine S.if_eq (pc' := 8) (tgt := 26) dX12_odds_5 (by decide) rfl (by unfold fp_rng; omega) (fun h5 => ?_) (fun h5 => ?_)
        · refine S.ldc2 (pc' := 29) (v := -1) dX12_odds_26 rfl lX12_293 (by decide) ?_
          refine S.lret dX12_odds_29 rfl ?_
          exact ⟨rfl, hcs, fun _ _ => rfl⟩
        · refine S.aload_n (pc' := 9) dX12_odds_8 rfl rfl rfl ?_
          refine S.iload_n (pc' := 10) dX12_odds_9 rfl rfl rfl ?_
          refine S.callVe (pc' := 13) dX12_odds_10 rfl cX12_205 cT rfl L_177 (by decide) rfl (Nat.le_of_ble_eq_true rfl) ?_
          refine S.if_eq (pc' := 16) (tgt := 26) dX12_odds_13 (by decide) rfl (by unfold fp_rng; omega) (fun h13 => ?_) (fun h13 => ?_)
          · refine S.ldc2 (pc' := 29) (v := -1) dX12_odds_26 rfl lX12_293 (by decide) ?_
            refine S.lret dX12_odds_29 rfl ?_
            exact ⟨rfl, hcs, fun _ _ => rfl⟩
          · refine S.iload_n (pc' := 17) dX12_odds_16 rfl rfl rfl ?_
            refine S.i2l (pc' := 18) dX12_odds_17 rfl (by unfold fp_rng; omega) ?_
            refine S.lconst (pc' := 19) (w := 0) dX12_odds_18 rfl rfl ?_
            refine S.lconst (pc' := 20) (w := 1) dX12_odds_19 rfl rfl ?_
            refine S.callSe (pc' := 23) dX12_odds_20 rfl cX12_94 cB rfl (by decide) rfl (Nat.le_of_ble_eq_true rfl) ?_
            refine S.if_ne (pc' := 26) (tgt := 30) dX12_odds_23 (by decide) rfl (by unfold fp_rng; omega) (fun h23 => ?_) (fun h23 => ?_)
            · exact absurd rfl h23
            · refine S.ldc2 (pc' := 29) (v := -1) dX12_odds_26 rfl lX12_293 (by decide) ?_
              refine S.lret dX12_odds_29 rfl ?_
              exact ⟨rfl, hcs, fun _ _ => rfl⟩
    · rw [if_neg (fun q => htt q.1.2)]
      rw [if_neg htt] at cT
      refine S.aload_n (pc' := 1) dX12_odds_0 rfl rfl rfl ?_
      refine S.iload_n (pc' := 2) dX12_odds_1 rfl rfl rfl ?_
      refine S.callVe (pc' := 5) dX12_odds_2 rfl cX12_219 cL rfl L_177 (by decide) rfl (Nat.le_of_ble_eq_true rfl) ?_
      refine S.if_eq (pc' := 8) (tgt := 26) dX12_odds_5 (by decide) rfl (by unfold fp_rng; omega) (fun h5 => ?_) (fun h5 => ?_)
      · refine S.ldc2 (pc' := 29) (v := -1) dX12_odds_26 rfl lX12_293 (by decide) ?_
        refine S.lret dX12_odds_29 rfl ?_
        exact ⟨rfl, hcs, fun _ _ => rfl⟩
      · refine S.aload_n (pc' := 9) dX12_odds_8 rfl rfl rfl ?_
        refine S.iload_n (pc' := 10) dX12_odds_9 rfl rfl rfl ?_
        refine S.callVe (pc' := 13) dX12_odds_10 rfl cX12_205 cT rfl L_177 (by decide) rfl (Nat.le_of_ble_eq_true rfl) ?_
        refine S.if_eq (pc' := 16) (tgt := 26) dX12_odds_13 (by decide) rfl (by unfold fp_rng; omega) (fun h13 => ?_) (fun h13 => ?_)
        · refine S.ldc2 (pc' := 29) (v := -1) dX12_odds_26 rfl lX12_293 (by decide) ?_
          refine S.lret dX12_odds_29 rfl ?_
          exact ⟨rfl, hcs, fun _ _ => rfl⟩
        · exact absurd rfl h13
  · rw [if_neg (fun q => hx q.1.1)]
    rw [if_neg hx] at cL
    refine S.aload_n (pc' := 1) dX12_odds_0 rfl rfl rfl ?_
    refine S.iload_n (pc' := 2) dX12_odds_1 rfl rfl rfl ?_
    refine S.callVe (pc' := 5) dX12_odds_2 rfl cX12_219 cL rfl L_177 (by decide) rfl (Nat.le_of_ble_eq_true rfl) ?_
    refine S.if_eq (pc' := 8) (tgt := 26) dX12_odds_5 (by decide) rfl (by unfold fp_rng; omega) (fun h5 => ?_) (fun h5 => ?_)
    · refine S.ldc2 (pc' := 29) (v := -1) dX12_odds_26 rfl lX12_293 (by decide) ?_
      refine S.lret dX12_odds_29 rfl ?_
      exact ⟨rfl, hcs, fun _ _ => rfl⟩
    · exact absurd rfl h5
end MOD
