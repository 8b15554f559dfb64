-- joined by tools/merge.py: 99s.mlow, 99t.modds, 99u.mlike, 99v.mmost, 99w.cdiv, 99x.chsum, 99y.csh, 99z.codds, 9a.cmost, 9b.cmost
section
/-! LOWEST TERMS, the reference -/
theorem fp_jI {a : Int} (h : 0 ≤ a ∧ a < 9223372036854775808) : (Int64.ofInt a).toInt = a := Int64.toInt_ofInt_of_le (by omega) (by omega)
theorem fp_jdiv {a b : Int} (ha : 0 ≤ a ∧ a < 9223372036854775808) (hb : 0 < b ∧ b < 9223372036854775808) : Int64.ofInt a / Int64.ofInt b = Int64.ofInt (a / b) := by
  have hq : 0 ≤ a / b ∧ a / b ≤ a := ⟨Int.ediv_nonneg ha.1 (by omega), Int.ediv_le_self b ha.1⟩
  apply Int64.toInt_inj.mp
  rw [fp_jI (by omega), Int64.toInt_div, fp_jI ha, fp_jI (by omega), Int.tdiv_eq_ediv_of_nonneg ha.1]
  exact Int.bmod_eq_of_le (by omega) (by omega)
theorem fp_jne {b : Int} (hb : 0 < b ∧ b < 9223372036854775808) : ¬ Int64.ofInt b = 0 := by
  intro e
  have := congrArg Int64.toInt e
  rw [fp_jI (by omega)] at this
  have h0 : (0 : Int64).toInt = 0 := rfl
  omega
theorem fp_jrem {a b : Int} (ha : 0 ≤ a ∧ a < 9223372036854775808) (hb : 0 < b ∧ b < 9223372036854775808) : Int64.ofInt a - Int64.ofInt a / Int64.ofInt b * Int64.ofInt b = Int64.ofInt (a % b) := by
  rw [fp_jdiv ha hb, ← Int64.ofInt_mul, ← Int64.ofInt_sub, Int.emod_def, Int.mul_comm]
section MLW
variable {l : Launch} {G : fp_WG} {M N : fp_Mem}
theorem lw_loop {a0 b0 w : Int} (hw : w = 0 ∨ w = 1) (ha : 0 ≤ a0 ∧ a0 < 9223372036854775808) (hb : 0 < b0 ∧ b0 < 9223372036854775808) : ∀ (r P R : Nat) (o9 o10 : Option Value), R < r → (P : Int) < 9223372036854775808 → (R : Int) < 9223372036854775808 → 0 < Nat.gcd P R →
    fp_S l G 0 kX12_lowest 6 [some (jV a0), none, some (jV b0), none, some (iV w), some (jV (P : Int)), none, some (jV (R : Int)), none, o9, o10] [] M (qJ fun z N => z = (if w = 0 then a0 else b0) / ((Nat.gcd P R : Nat) : Int) ∧ N = M) := by
  intro r
  induction r with
  | zero => intro P R o9 o10 hr; omega
  | succ r ih =>
    intro P R o9 o10 hr hP hR hg
    by_cases h0 : R = 0
    · subst h0
      rw [Nat.gcd_zero_right] at hg ⊢
      refine S.lload (pc' := 8) dX12_lowest_6 rfl rfl ?_
      refine S.lconst (pc' := 9) (w := 0) dX12_lowest_8 rfl rfl ?_
      refine S.lcmp (pc' := 10) dX12_lowest_9 rfl (by unfold fp_lng; omega) (by unfold fp_lng; omega) ?_
      refine S.if_eq (pc' := 13) (tgt := 31) dX12_lowest_10 (by decide) rfl (by unfold fp_rng; omega) (fun h10 => ?_) (fun h10 => ?_)
      · refine S.iload (pc' := 33) dX12_lowest_31 rfl rfl ?_
        refine S.if_ne (pc' := 36) (tgt := 40) dX12_lowest_33 (by decide) rfl (by unfold fp_rng; omega) (fun h33 => ?_) (fun h33 => ?_)
        · refine S.lload_n (pc' := 41) dX12_lowest_40 rfl rfl rfl ?_
          refine S.lload (pc' := 43) dX12_lowest_41 rfl rfl ?_
          refine S.ldiv (pc' := 44) dX12_lowest_43 rfl (fp_jne (by omega)) (fp_jdiv (by omega) (by omega)) ?_
          refine S.lret dX12_lowest_44 rfl ?_
          first
          | exact ⟨by rw [if_pos (by omega)], rfl⟩
          | exact ⟨by rw [if_neg (by omega)], rfl⟩
        · refine S.lload_n (pc' := 37) dX12_lowest_36 rfl rfl rfl ?_
          refine S.goto (pc' := 41) dX12_lowest_37 (by decide) ?_
          refine S.lload (pc' := 43) dX12_lowest_41 rfl rfl ?_
          refine S.ldiv (pc' := 44) dX12_lowest_43 rfl (fp_jne (by omega)) (fp_jdiv (by omega) (by omega)) ?_
          refine S.lret dX12_lowest_44 rfl ?_
          first
          | exact ⟨by rw [if_pos (by omega)], rfl⟩
          | exact ⟨by rw [if_neg (by omega)], rfl⟩
      · exfalso; first | (split at h10 <;> omega) | omega
    · have hm : P % R < R := Nat.mod_lt _ (by omega)
      have hgr : Nat.gcd P R = Nat.gcd R (P % R) := by rw [Nat.gcd_comm P R, Nat.gcd_rec R P, Nat.gcd_comm]
      rw [hgr] at hg ⊢
      refine S.lload (pc' := 8) dX12_lowest_6 rfl rfl ?_
      refine S.lconst (pc' := 9) (w := 0) dX12_lowest_8 rfl rfl ?_
      refine S.lcmp (pc' := 10) dX12_lowest_9 rfl (by unfold fp_lng; omega) (by unfold fp_lng; omega) ?_
      refine S.if_eq (pc' := 13) (tgt := 31) dX12_lowest_10 (by decide) rfl (by unfold fp_rng; omega) (fun h10 => ?_) (fun h10 => ?_)
      · exfalso; split at h10 <;> omega
      · refine S.lload (pc' := 15) dX12_lowest_13 rfl rfl ?_
        refine S.lload (pc' := 17) dX12_lowest_15 rfl rfl ?_
        refine S.lrem (pc' := 18) dX12_lowest_17 rfl (fp_jne (by omega)) (fp_jrem (by omega) (by omega)) ?_
        refine S.lstore (pc' := 20) (LL' := [_, _, _, _, _, _, _, _, _, _, _]) dX12_lowest_18 rfl (by decide) rfl rfl (by decide) ?_
        refine S.lload (pc' := 22) dX12_lowest_20 rfl rfl ?_
        refine S.lstore (pc' := 24) (LL' := [_, _, _, _, _, _, _, _, _, _, _]) dX12_lowest_22 rfl (by decide) rfl rfl (by decide) ?_
        refine S.lload (pc' := 26) dX12_lowest_24 rfl rfl ?_
        refine S.lstore (pc' := 28) (LL' := [_, _, _, _, _, _, _, _, _, _, _]) dX12_lowest_26 rfl (by decide) rfl rfl (by decide) ?_
        refine S.goto (pc' := 6) dX12_lowest_28 (by decide) ?_
        rw [show ((P : Int) % (R : Int)) = ((P % R : Nat) : Int) from (Int.natCast_emod P R).symm]
        exact ih R (P % R) _ _ (by omega) (by omega) (by omega) hg
theorem rk_X12_lowest {a0 b0 w : Int} (hw : w = 0 ∨ w = 1) (ha : 0 ≤ a0 ∧ a0 < 9223372036854775808) (hb : 0 < b0 ∧ b0 < 9223372036854775808) : fp_Ok l G 0 kX12_lowest [jV a0, jV b0, iV w] M (qJ fun z N => z = (if w = 0 then a0 else b0) / ((Nat.gcd a0.toNat b0.toNat : Nat) : Int) ∧ N = M) := by
  refine fp_Ok.of (r := 6) rfl (Nat.le_of_ble_eq_true rfl) rfl ?_
  have hg : 0 < Nat.gcd a0.toNat b0.toNat := Nat.gcd_pos_of_pos_right _ (by omega)
  have ea : a0 = (a0.toNat : Int) := by omega
  have eb : b0 = (b0.toNat : Int) := by omega
  have := lw_loop (l := l) (G := G) (M := M) hw ha hb (b0.toNat + 1) a0.toNat b0.toNat none none (by omega) (by omega) (by omega) hg
  rw [← ea, ← eb] at this
  refine S.lload_n (pc' := 1) dX12_lowest_0 rfl rfl rfl ?_
  refine S.lstore (pc' := 3) (LL' := [_, _, _, _, _, _, _, _, _, _, _]) dX12_lowest_1 rfl (by decide) rfl rfl (by decide) ?_
  refine S.lload_n (pc' := 4) dX12_lowest_3 rfl rfl rfl ?_
  refine S.lstore (pc' := 6) (LL' := [_, _, _, _, _, _, _, _, _, _, _]) dX12_lowest_4 rfl (by decide) rfl rfl (by decide) ?_
  exact this
end MLW
end
section
/-! odds, likeliest: the reference -/
theorem chF_in {g : aGd} {pg : aPg} {vs : List aVt} {x : Int} (hg : gOk g) (hP : pgOk g pg) (hv : vsOk g vs) (hl : vs.length ≤ 10) (t : Int) : ∀ m : Nat, 0 ≤ chF g pg vs x m t ∧ chF g pg vs x m t ≤ m * 10000000000
  | 0 => by show (0 : Int) ≤ 0 ∧ (0 : Int) ≤ ((0 : Nat) : Int) * 10000000000; omega
  | m + 1 => by
    have h := chF_in (x := x) hg hP hv hl t m
    obtain ⟨⟨w0, w1⟩, -⟩ := chI_in (m := (m : Int)) hg hP hv vs.length
    have w2 := pow10_le hl
    unfold chF
    split <;> omega
section MOD
variable {l : Launch} {G : fp_WG} {M N : fp_Mem} {tp : List Int} {fl : Int} {g : aGd} {pg : aPg} {vs : List aVt} {nt : List Int} {im : aIm} {sh : aSh} {tn : Int}
theorem MS.lay (h : MS M tp fl g pg vs nt im sh tn) (ho : OK g pg vs nt im sh) (f : frJ M N) : MS N tp fl g pg vs nt im sh tn := by
  obtain ⟨f1, f2, f3⟩ := f
  have h1 : MS (fp_up M 177 33 (N 177 33)) tp fl g pg vs nt im sh tn := by
    refine MS.tap h (fun c hc _ => fp_up_ne hc) ⟨rfl, rfl, rfl⟩ ?_
    exact h.1
  have e177 : N 177 = fp_up M 177 33 (N 177 33) 177 := by
    funext j
    by_cases e : j = 33
    · subst e; rfl
    · rw [f2 j e, fp_up_at, fp_upf_ne e]
  refine h1.trial ho (fun c hc => ?_) (fun j hj => ?_)
  · by_cases e : c = 177
    · subst e; exact e177
    · rw [fp_up_ne e]; exact f1 c e (by omega) (by omega)
  · rw [fp_up_ne (by decide)]; exact f3 j (by omega)
theorem frJ.d (f : frJ M N) : frD M N := fun c hc => f.1 c (by omega) (by omega) (by omega)
def A_odds (g : aGd) (pg : aPg) (vs : List aVt) (x t b : Int) : Int := if ((0 ≤ x ∧ x < g.2.1) ∧ (0 ≤ t ∧ t < g.1)) ∧ (0 ≤ b ∧ b ≤ 1) then (if 10 < vs.length then -2 else (if b = 0 then chF g pg vs x (2 ^ vs.length) t else 10 ^ vs.length) / ((Nat.gcd (chF g pg vs x (2 ^ vs.length) t).toNat ((10 : Int) ^ vs.length).toNat : Nat) : Int)) else -1
theorem mm_odds {x t b : Int} (hc : MS M tp fl g pg vs nt im sh tn) (ho : OK g pg vs nt im sh) (hxr : fp_rng x) (htr : fp_rng t) (hbr : fp_rng b) : fp_Ok l G 6 kX12_odds [rV G 177, iV x, iV t, iV b] M (qJ fun z N => z = A_odds g pg vs x t b ∧ MS N tp fl g pg vs nt im sh tn ∧ frD M N) := by
  have hcs := hc
  obtain ⟨-, hd, hcl, hv, -⟩ := hc
  have hg := ho.1
  have hP := ho.2.1
  have hvo := ho.2.2.1
  have hv' : mvIs M vs := hv
  have h95 : M 178 95 = (vs.length : Int) := hv.1
  have hl12 := hv.2.1
  have e4 : M 177 4 = g.1 := hd.1
  have e5 : M 177 5 = g.2.1 := hd.2.1
  have g1 := hg.1
  have g2 := hg.2.1
  have hthis : fp_rng x := hxr
  unfold fp_rng at hxr htr hbr
  refine fp_Ok.of (r := 0) rfl (Nat.le_of_ble_eq_true rfl) rfl ?_
  have cL := ok_X12_isLine (l := l) (G := G) (M := M) (t := x) hthis (by rw [e5]; exact g2)
  have cT := ok_X12_isThing (l := l) (G := G) (M := M) (t := t) (by unfold fp_rng; omega) (by rw [e4]; exact g1)
  rw [e5] at cL
  rw [e4] at cT
  unfold A_odds
  by_cases hx : 0 ≤ x ∧ x < g.2.1
  · rw [if_pos hx] at cL
    by_cases htt : 0 ≤ t ∧ t < g.1
    · rw [if_pos htt] at cT
      by_cases hb : 0 ≤ b ∧ b ≤ 1
      · rw [if_pos ⟨⟨hx, htt⟩, hb⟩]
        have cB := ok_X12_in (l := l) (G := G) (M := M) (v := b) (lo := 0) (hi := 1) (by unfold fp_lng; omega) (by unfold fp_lng; omega) (by unfold fp_lng; omega)
        rw [if_pos hb] at cB
        by_cases h10 : 10 < vs.length
        · rw [if_pos h10]
          refine S.aload_n (pc' := 1) dX12_odds_0 rfl rfl rfl ?_
          refine S.iload_n (pc' := 2) dX12_odds_1 rfl rfl rfl ?_
          refine S.callVe (pc' := 5) dX12_odds_2 rfl cX12_219 cL rfl L_177 (by decide) rfl (Nat.le_of_ble_eq_true rfl) ?_
          refine S.if_eq (pc' := 8) (tgt := 26) dX12_odds_5 (by decide) rfl (by unfold fp_rng; omega) (fun h5 => ?_) (fun h5 => ?_)
          · first | exact absurd h5 (by decide) | exact absurd h13 (by decide) | exact absurd h23 (by decide)
          · refine S.aload_n (pc' := 9) dX12_odds_8 rfl rfl rfl ?_
            refine S.iload_n (pc' := 10) dX12_odds_9 rfl rfl rfl ?_
            refine S.callVe (pc' := 13) dX12_odds_10 rfl cX12_205 cT rfl L_177 (by decide) rfl (Nat.le_of_ble_eq_true rfl) ?_
            refine S.if_eq (pc' := 16) (tgt := 26) dX12_odds_13 (by decide) rfl (by unfold fp_rng; omega) (fun h13 => ?_) (fun h13 => ?_)
            · first | exact absurd h5 (by decide) | exact absurd h13 (by decide) | exact absurd h23 (by decide)
            · refine S.iload_n (pc' := 17) dX12_odds_16 rfl rfl rfl ?_
              refine S.i2l (pc' := 18) dX12_odds_17 rfl (by unfold fp_rng; omega) ?_
              refine S.lconst (pc' := 19) (w := 0) dX12_odds_18 rfl rfl ?_
              refine S.lconst (pc' := 20) (w := 1) dX12_odds_19 rfl rfl ?_
              refine S.callSe (pc' := 23) dX12_odds_20 rfl cX12_94 cB rfl (by decide) rfl (Nat.le_of_ble_eq_true rfl) ?_
              refine S.if_ne (pc' := 26) (tgt := 30) dX12_odds_23 (by decide) rfl (by unfold fp_rng; omega) (fun h23 => ?_) (fun h23 => ?_)
              · refine S.aload_n (pc' := 31) dX12_odds_30 rfl rfl rfl ?_
                refine S.callVe (pc' := 34) dX12_odds_31 rfl cX12_225 ok_X12_visits rfl L_177 (by decide) rfl (Nat.le_of_ble_eq_true rfl) ?_
                rw [h95]
                refine S.bipush (pc' := 36) dX12_odds_34 rfl (by decide) ?_
                refine S.icmp_le (pc' := 39) (tgt := 43) dX12_odds_36 (by decide) rfl (by unfold fp_rng; omega) (by unfold fp_rng; omega) (fun h36 => ?_) (fun h36 => ?_)
                · exfalso; omega
                · refine S.ldc2 (pc' := 42) (v := -2) dX12_odds_39 rfl lX12_295 (by decide) ?_
                  refine S.lret dX12_odds_42 rfl ?_
                  exact ⟨rfl, hcs, fun _ _ => rfl⟩
              · first | exact absurd h5 (by decide) | exact absurd h13 (by decide) | exact absurd h23 (by decide)
        · rw [if_neg h10]
          have hF := chF_in (x := x) hg hP hvo (by omega) t (2 ^ vs.length)
          have h1024 : ((2 ^ vs.length : Nat) : Int) ≤ 1024 := by
            have q : ∀ n : Nat, n < 11 → ((2 ^ n : Nat) : Int) ≤ 1024 := by decide +kernel
            exact q _ (by omega)
          have hp10 := pow10_le (show vs.length ≤ 10 by omega)
          have hp0 : (0 : Int) < 10 ^ vs.length := Int.pow_pos (by decide)
          generalize hTT : 2 ^ vs.length = TT at *
          refine S.aload_n (pc' := 1) dX12_odds_0 rfl rfl rfl ?_
          refine S.iload_n (pc' := 2) dX12_odds_1 rfl rfl rfl ?_
          refine S.callVe (pc' := 5) dX12_odds_2 rfl cX12_219 cL rfl L_177 (by decide) rfl (Nat.le_of_ble_eq_true rfl) ?_
          refine S.if_eq (pc' := 8) (tgt := 26) dX12_odds_5 (by decide) rfl (by unfold fp_rng; omega) (fun h5 => ?_) (fun h5 => ?_)
          · first | exact absurd h5 (by decide) | exact absurd h13 (by decide) | exact absurd h23 (by decide)
          · refine S.aload_n (pc' := 9) dX12_odds_8 rfl rfl rfl ?_
            refine S.iload_n (pc' := 10) dX12_odds_9 rfl rfl rfl ?_
            refine S.callVe (pc' := 13) dX12_odds_10 rfl cX12_205 cT rfl L_177 (by decide) rfl (Nat.le_of_ble_eq_true rfl) ?_
            refine S.if_eq (pc' := 16) (tgt := 26) dX12_odds_13 (by decide) rfl (by unfold fp_rng; omega) (fun h13 => ?_) (fun h13 => ?_)
            · first | exact absurd h5 (by decide) | exact absurd h13 (by decide) | exact absurd h23 (by decide)
            · refine S.iload_n (pc' := 17) dX12_odds_16 rfl rfl rfl ?_
              refine S.i2l (pc' := 18) dX12_odds_17 rfl (by unfold fp_rng; omega) ?_
              refine S.lconst (pc' := 19) (w := 0) dX12_odds_18 rfl rfl ?_
              refine S.lconst (pc' := 20) (w := 1) dX12_odds_19 rfl rfl ?_
              refine S.callSe (pc' := 23) dX12_odds_20 rfl cX12_94 cB rfl (by decide) rfl (Nat.le_of_ble_eq_true rfl) ?_
              refine S.if_ne (pc' := 26) (tgt := 30) dX12_odds_23 (by decide) rfl (by unfold fp_rng; omega) (fun h23 => ?_) (fun h23 => ?_)
              · refine S.aload_n (pc' := 31) dX12_odds_30 rfl rfl rfl ?_
                refine S.callVe (pc' := 34) dX12_odds_31 rfl cX12_225 ok_X12_visits rfl L_177 (by decide) rfl (Nat.le_of_ble_eq_true rfl) ?_
                rw [h95]
                refine S.bipush (pc' := 36) dX12_odds_34 rfl (by decide) ?_
                refine S.icmp_le (pc' := 39) (tgt := 43) dX12_odds_36 (by decide) rfl (by unfold fp_rng; omega) (by unfold fp_rng; omega) (fun h36 => ?_) (fun h36 => ?_)
                · refine S.aload_n (pc' := 44) dX12_odds_43 rfl rfl rfl ?_
                  refine S.iload_n (pc' := 45) dX12_odds_44 rfl rfl rfl ?_
                  refine S.callVv (pc' := 48) dX12_odds_45 rfl cX12_297 (rk_X12_layChances hg hP hvo (by omega) hx hd hv' hcl) rfl L_177 (by decide) rfl (Nat.le_of_ble_eq_true rfl) (fun M45 q45 => ?_)
                  refine S.aload_n (pc' := 49) dX12_odds_48 rfl rfl rfl ?_
                  refine S.getR (pc' := 52) dX12_odds_49 rfl fX12_56 L_177 rf_177_32 ?_
                  refine S.iload_n (pc' := 53) dX12_odds_52 rfl rfl rfl ?_
                  refine S.lald (pc' := 54) dX12_odds_53 rfl L_192 (by omega) (by omega) ?_
                  refine S.aload_n (pc' := 55) dX12_odds_54 rfl rfl rfl ?_
                  refine S.getJ (pc' := 58) dX12_odds_55 rfl fX12_289 L_177 ?_
                  rw [q45.2.2 t (by omega) (by omega), q45.2.1, hTT]
                  refine S.iload_n (pc' := 59) dX12_odds_58 rfl rfl rfl ?_
                  refine S.callSj (pc' := 62) dX12_odds_59 rfl cX12_300 (rk_X12_lowest (by omega) (by omega) (by omega)) rfl (by decide) rfl (Nat.le_of_ble_eq_true rfl) (fun z59 M59 q59 => ?_)
                  refine S.lret dX12_odds_62 rfl ?_
                  obtain ⟨rfl, rfl⟩ := q59
                  exact ⟨rfl, hcs.lay ho q45.1, q45.1.d⟩
                · exfalso; omega
              · first | exact absurd h5 (by decide) | exact absurd h13 (by decide) | exact absurd h23 (by decide)
      · rw [if_neg (fun q => hb q.2)]
        have cB := ok_X12_in (l := l) (G := G) (M := M) (v := b) (lo := 0) (hi := 1) (by unfold fp_lng; omega) (by unfold fp_lng; omega) (by unfold fp_lng; omega)
        rw [if_neg hb] at cB
        refine S.aload_n (pc' := 1) dX12_odds_0 rfl rfl rfl ?_
        refine S.iload_n (pc' := 2) dX12_odds_1 rfl rfl rfl ?_
        refine S.callVe (pc' := 5) dX12_odds_2 rfl cX12_219 cL rfl L_177 (by decide) rfl (Nat.le_of_ble_eq_true rfl) ?_
        refine S.if_eq (pc' := 8) (tgt := 26) dX12_odds_5 (by decide) rfl (by unfold fp_rng; omega) (fun h5 => ?_) (fun h5 => ?_)
        · refine S.ldc2 (pc' := 29) (v := -1) dX12_odds_26 rfl lX12_293 (by decide) ?_
          refine S.lret dX12_odds_29 rfl ?_
          exact ⟨rfl, hcs, fun _ _ => rfl⟩
        · refine S.aload_n (pc' := 9) dX12_odds_8 rfl rfl rfl ?_
          refine S.iload_n (pc' := 10) dX12_odds_9 rfl rfl rfl ?_
          refine S.callVe (pc' := 13) dX12_odds_10 rfl cX12_205 cT rfl L_177 (by decide) rfl (Nat.le_of_ble_eq_true rfl) ?_
          refine S.if_eq (pc' := 16) (tgt := 26) dX12_odds_13 (by decide) rfl (by unfold fp_rng; omega) (fun h13 => ?_) (fun h13 => ?_)
          · refine S.ldc2 (pc' := 29) (v := -1) dX12_odds_26 rfl lX12_293 (by decide) ?_
            refine S.lret dX12_odds_29 rfl ?_
            exact ⟨rfl, hcs, fun _ _ => rfl⟩
          · refine S.iload_n (pc' := 17) dX12_odds_16 rfl rfl rfl ?_
            refine S.i2l (pc' := 18) dX12_odds_17 rfl (by unfold fp_rng; omega) ?_
            refine S.lconst (pc' := 19) (w := 0) dX12_odds_18 rfl rfl ?_
            refine S.lconst (pc' := 20) (w := 1) dX12_odds_19 rfl rfl ?_
            refine S.callSe (pc' := 23) dX12_odds_20 rfl cX12_94 cB rfl (by decide) rfl (Nat.le_of_ble_eq_true rfl) ?_
            refine S.if_ne (pc' := 26) (tgt := 30) dX12_odds_23 (by decide) rfl (by unfold fp_rng; omega) (fun h23 => ?_) (fun h23 => ?_)
            · exact absurd rfl h23
            · refine S.ldc2 (pc' := 29) (v := -1) dX12_odds_26 rfl lX12_293 (by decide) ?_
              refine S.lret dX12_odds_29 rfl ?_
              exact ⟨rfl, hcs, fun _ _ => rfl⟩
    · rw [if_neg (fun q => htt q.1.2)]
      rw [if_neg htt] at cT
      refine S.aload_n (pc' := 1) dX12_odds_0 rfl rfl rfl ?_
      refine S.iload_n (pc' := 2) dX12_odds_1 rfl rfl rfl ?_
      refine S.callVe (pc' := 5) dX12_odds_2 rfl cX12_219 cL rfl L_177 (by decide) rfl (Nat.le_of_ble_eq_true rfl) ?_
      refine S.if_eq (pc' := 8) (tgt := 26) dX12_odds_5 (by decide) rfl (by unfold fp_rng; omega) (fun h5 => ?_) (fun h5 => ?_)
      · refine S.ldc2 (pc' := 29) (v := -1) dX12_odds_26 rfl lX12_293 (by decide) ?_
        refine S.lret dX12_odds_29 rfl ?_
        exact ⟨rfl, hcs, fun _ _ => rfl⟩
      · refine S.aload_n (pc' := 9) dX12_odds_8 rfl rfl rfl ?_
        refine S.iload_n (pc' := 10) dX12_odds_9 rfl rfl rfl ?_
        refine S.callVe (pc' := 13) dX12_odds_10 rfl cX12_205 cT rfl L_177 (by decide) rfl (Nat.le_of_ble_eq_true rfl) ?_
        refine S.if_eq (pc' := 16) (tgt := 26) dX12_odds_13 (by decide) rfl (by unfold fp_rng; omega) (fun h13 => ?_) (fun h13 => ?_)
        · refine S.ldc2 (pc' := 29) (v := -1) dX12_odds_26 rfl lX12_293 (by decide) ?_
          refine S.lret dX12_odds_29 rfl ?_
          exact ⟨rfl, hcs, fun _ _ => rfl⟩
        · exact absurd rfl h13
  · rw [if_neg (fun q => hx q.1.1)]
    rw [if_neg hx] at cL
    refine S.aload_n (pc' := 1) dX12_odds_0 rfl rfl rfl ?_
    refine S.iload_n (pc' := 2) dX12_odds_1 rfl rfl rfl ?_
    refine S.callVe (pc' := 5) dX12_odds_2 rfl cX12_219 cL rfl L_177 (by decide) rfl (Nat.le_of_ble_eq_true rfl) ?_
    refine S.if_eq (pc' := 8) (tgt := 26) dX12_odds_5 (by decide) rfl (by unfold fp_rng; omega) (fun h5 => ?_) (fun h5 => ?_)
    · refine S.ldc2 (pc' := 29) (v := -1) dX12_odds_26 rfl lX12_293 (by decide) ?_
      refine S.lret dX12_odds_29 rfl ?_
      exact ⟨rfl, hcs, fun _ _ => rfl⟩
    · exact absurd rfl h5
end MOD
end
section
/-! likeliest: the reference -/
def lkI (F : Int → Int) : Nat → Int
  | 0 => -4
  | k + 1 => if (if lkI F k = -4 then 0 else F (lkI F k)) < F k then (k : Int) else lkI F k
theorem lc_le {a b : Int} : ((if b < a then (1 : Int) else if a = b then 0 else -1) ≤ 0) ↔ ¬ b < a := by
  split
  · omega
  · split <;> omega
theorem lkI_in (F : Int → Int) : ∀ k, lkI F k = -4 ∨ (0 ≤ lkI F k ∧ lkI F k < k)
  | 0 => Or.inl rfl
  | k + 1 => by
    have := lkI_in F k
    unfold lkI
    split <;> omega
def A_likeliest (g : aGd) (pg : aPg) (vs : List aVt) (x : Int) : Int := if 0 ≤ x ∧ x < g.2.1 then (if 10 < vs.length then -2 else lkI (chF g pg vs x (2 ^ vs.length)) g.1.toNat) else -1
section MLK
variable {l : Launch} {G : fp_WG} {M N : fp_Mem} {tp : List Int} {fl : Int} {g : aGd} {pg : aPg} {vs : List aVt} {nt : List Int} {im : aIm} {sh : aSh} {tn : Int}
theorem lk_loop {x : Int} {F : Int → Int} (hF : ∀ t : Int, 0 ≤ t → t < 10 → M 192 t.toNat = F t ∧ 0 ≤ F t ∧ F t ≤ 10240000000000) (h4 : M 177 4 = g.1) (hg : 0 ≤ g.1 ∧ g.1 ≤ 10) : ∀ (r k : Nat), g.1.toNat - k < r → (k : Int) ≤ g.1 →
    fp_S l G 6 kX12_likeliest 32 [some (rV G 177), some (iV x), some (iV (lkI F k)), some (iV (k : Int))] [] M (qI fun z N => z = lkI F g.1.toNat ∧ N = M) := by
  intro r
  induction r with
  | zero => intro k hr; omega
  | succ r ih =>
    intro k hr hk
    have hin := lkI_in F k
    by_cases he : (k : Int) < g.1
    · obtain ⟨f1, f2, f3⟩ := hF k (by omega) (by omega)
      rw [Int.toNat_natCast] at f1
      have hst : ∀ z, z = lkI F (k + 1) → fp_S l G 6 kX12_likeliest 71 [some (rV G 177), some (iV x), some (iV (lkI F k)), some (iV (k : Int))] [iV z] M (qI fun z N => z = lkI F g.1.toNat ∧ N = M) := by
        intro z hz
        refine S.istore_n (pc' := 72) (LL' := [_, _, _, _]) dX12_likeliest_71 rfl (by decide) rfl rfl rfl ?_
        refine S.iinc (pc' := 75) (LL' := [_, _, _, _]) dX12_likeliest_72 rfl (by decide) rfl rfl rfl ?_
        refine S.goto (pc' := 32) dX12_likeliest_75 (by decide) ?_
        rw [hz, show ((k : Int) + 1) = ((k + 1 : Nat) : Int) by omega]
        exact ih (k + 1) (by omega) (by omega)
      by_cases hb : lkI F k = -4
      · have hs1 : lkI F (k + 1) = if 0 < F k then (k : Int) else lkI F k := by rw [lkI, if_pos hb]
        refine S.iload_n (pc' := 33) dX12_likeliest_32 rfl rfl rfl ?_
        refine S.aload_n (pc' := 34) dX12_likeliest_33 rfl rfl rfl ?_
        refine S.getI (pc' := 37) dX12_likeliest_34 rfl fX12_181 L_177 ?_
        rw [h4]
        refine S.icmp_ge (pc' := 40) (tgt := 78) dX12_likeliest_37 (by decide) rfl (by unfold fp_rng; omega) (by unfold fp_rng; omega) (fun h37 => ?_) (fun h37 => ?_)
        · exfalso; omega
        · refine S.aload_n (pc' := 41) dX12_likeliest_40 rfl rfl rfl ?_
          refine S.getR (pc' := 44) dX12_likeliest_41 rfl fX12_56 L_177 rf_177_32 ?_
          refine S.iload_n (pc' := 45) dX12_likeliest_44 rfl rfl rfl ?_
          refine S.lald (pc' := 46) dX12_likeliest_45 rfl L_192 (by omega) (by omega) ?_
          rw [Int.toNat_natCast, f1]
          refine S.iload_n (pc' := 47) dX12_likeliest_46 rfl rfl rfl ?_
          refine S.bipush (pc' := 49) dX12_likeliest_47 rfl (by decide) ?_
          refine S.icmp_ne (pc' := 52) (tgt := 56) dX12_likeliest_49 (by decide) rfl (by unfold fp_rng; omega) (by unfold fp_rng; omega) (fun h49 => ?_) (fun h49 => ?_)
          · exact absurd hb h49
          · refine S.lconst (pc' := 53) (w := 0) dX12_likeliest_52 rfl rfl ?_
            refine S.goto (pc' := 62) dX12_likeliest_53 (by decide) ?_
            refine S.lcmp (pc' := 63) dX12_likeliest_62 rfl (by unfold fp_lng; omega) (by unfold fp_lng; omega) ?_
            refine S.if_le (pc' := 66) (tgt := 70) dX12_likeliest_63 (by decide) rfl (by unfold fp_rng; split <;> (try split) <;> omega) (fun h63 => ?_) (fun h63 => ?_)
            · refine S.iload_n (pc' := 71) dX12_likeliest_70 rfl rfl rfl ?_
              refine hst _ ?_
              rw [hs1]
              rw [lc_le] at h63
              first
              | rw [if_neg h63]
              | rw [if_pos (Decidable.not_not.mp h63)]
            · refine S.iload_n (pc' := 67) dX12_likeliest_66 rfl rfl rfl ?_
              refine S.goto (pc' := 71) dX12_likeliest_67 (by decide) ?_
              refine hst _ ?_
              rw [hs1]
              rw [lc_le] at h63
              first
              | rw [if_neg h63]
              | rw [if_pos (Decidable.not_not.mp h63)]
      · obtain ⟨b1, b2, b3⟩ := hF (lkI F k) (by omega) (by omega)
        have hs1 : lkI F (k + 1) = if F (lkI F k) < F k then (k : Int) else lkI F k := by rw [lkI, if_neg hb]
        refine S.iload_n (pc' := 33) dX12_likeliest_32 rfl rfl rfl ?_
        refine S.aload_n (pc' := 34) dX12_likeliest_33 rfl rfl rfl ?_
        refine S.getI (pc' := 37) dX12_likeliest_34 rfl fX12_181 L_177 ?_
        rw [h4]
        refine S.icmp_ge (pc' := 40) (tgt := 78) dX12_likeliest_37 (by decide) rfl (by unfold fp_rng; omega) (by unfold fp_rng; omega) (fun h37 => ?_) (fun h37 => ?_)
        · exfalso; omega
        · refine S.aload_n (pc' := 41) dX12_likeliest_40 rfl rfl rfl ?_
          refine S.getR (pc' := 44) dX12_likeliest_41 rfl fX12_56 L_177 rf_177_32 ?_
          refine S.iload_n (pc' := 45) dX12_likeliest_44 rfl rfl rfl ?_
          refine S.lald (pc' := 46) dX12_likeliest_45 rfl L_192 (by omega) (by omega) ?_
          rw [Int.toNat_natCast, f1]
          refine S.iload_n (pc' := 47) dX12_likeliest_46 rfl rfl rfl ?_
          refine S.bipush (pc' := 49) dX12_likeliest_47 rfl (by decide) ?_
          refine S.icmp_ne (pc' := 52) (tgt := 56) dX12_likeliest_49 (by decide) rfl (by unfold fp_rng; omega) (by unfold fp_rng; omega) (fun h49 => ?_) (fun h49 => ?_)
          · refine S.aload_n (pc' := 57) dX12_likeliest_56 rfl rfl rfl ?_
            refine S.getR (pc' := 60) dX12_likeliest_57 rfl fX12_56 L_177 rf_177_32 ?_
            refine S.iload_n (pc' := 61) dX12_likeliest_60 rfl rfl rfl ?_
            refine S.lald (pc' := 62) dX12_likeliest_61 rfl L_192 (by omega) (by omega) ?_
            rw [b1]
            refine S.lcmp (pc' := 63) dX12_likeliest_62 rfl (by unfold fp_lng; omega) (by unfold fp_lng; omega) ?_
            refine S.if_le (pc' := 66) (tgt := 70) dX12_likeliest_63 (by decide) rfl (by unfold fp_rng; split <;> (try split) <;> omega) (fun h63 => ?_) (fun h63 => ?_)
            · refine S.iload_n (pc' := 71) dX12_likeliest_70 rfl rfl rfl ?_
              refine hst _ ?_
              rw [hs1]
              rw [lc_le] at h63
              first
              | rw [if_neg h63]
              | rw [if_pos (Decidable.not_not.mp h63)]
            · refine S.iload_n (pc' := 67) dX12_likeliest_66 rfl rfl rfl ?_
              refine S.goto (pc' := 71) dX12_likeliest_67 (by decide) ?_
              refine hst _ ?_
              rw [hs1]
              rw [lc_le] at h63
              first
              | rw [if_neg h63]
              | rw [if_pos (Decidable.not_not.mp h63)]
          · exact absurd h49 hb
    · have e : g.1.toNat = k := by omega
      rw [e]
      refine S.iload_n (pc' := 33) dX12_likeliest_32 rfl rfl rfl ?_
      refine S.aload_n (pc' := 34) dX12_likeliest_33 rfl rfl rfl ?_
      refine S.getI (pc' := 37) dX12_likeliest_34 rfl fX12_181 L_177 ?_
      rw [h4]
      refine S.icmp_ge (pc' := 40) (tgt := 78) dX12_likeliest_37 (by decide) rfl (by unfold fp_rng; omega) (by unfold fp_rng; omega) (fun h37 => ?_) (fun h37 => ?_)
      · refine S.iload_n (pc' := 79) dX12_likeliest_78 rfl rfl rfl ?_
        refine S.iret dX12_likeliest_79 rfl ?_
        exact ⟨rfl, rfl⟩
      · exfalso; omega
theorem mm_likeliest {x : Int} (hc : MS M tp fl g pg vs nt im sh tn) (ho : OK g pg vs nt im sh) (hxr : fp_rng x) : fp_Ok l G 6 kX12_likeliest [rV G 177, iV x] M (qI fun z N => z = A_likeliest g pg vs x ∧ MS N tp fl g pg vs nt im sh tn ∧ frD M N) := by
  have hcs := hc
  obtain ⟨-, hd, hcl, hv, -⟩ := hc
  have hg := ho.1
  have hP := ho.2.1
  have hvo := ho.2.2.1
  have hv' : mvIs M vs := hv
  have h95 : M 178 95 = (vs.length : Int) := hv.1
  have hl12 := hv.2.1
  have e4 : M 177 4 = g.1 := hd.1
  have e5 : M 177 5 = g.2.1 := hd.2.1
  have g1 := hg.1
  have g2 := hg.2.1
  refine fp_Ok.of (r := 2) rfl (Nat.le_of_ble_eq_true rfl) rfl ?_
  have cL := ok_X12_isLine (l := l) (G := G) (M := M) (t := x) hxr (by rw [e5]; exact g2)
  rw [e5] at cL
  unfold A_likeliest
  by_cases hx : 0 ≤ x ∧ x < g.2.1
  · rw [if_pos hx] at cL ⊢
    by_cases h10 : 10 < vs.length
    · rw [if_pos h10]
      refine S.aload_n (pc' := 1) dX12_likeliest_0 rfl rfl rfl ?_
      refine S.iload_n (pc' := 2) dX12_likeliest_1 rfl rfl rfl ?_
      refine S.callVe (pc' := 5) dX12_likeliest_2 rfl cX12_219 cL rfl L_177 (by decide) rfl (Nat.le_of_ble_eq_true rfl) ?_
      refine S.if_ne (pc' := 8) (tgt := 10) dX12_likeliest_5 (by decide) rfl (by unfold fp_rng; omega) (fun h5 => ?_) (fun h5 => ?_)
      · refine S.aload_n (pc' := 11) dX12_likeliest_10 rfl rfl rfl ?_
        refine S.callVe (pc' := 14) dX12_likeliest_11 rfl cX12_225 ok_X12_visits rfl L_177 (by decide) rfl (Nat.le_of_ble_eq_true rfl) ?_
        rw [h95]
        refine S.bipush (pc' := 16) dX12_likeliest_14 rfl (by decide) ?_
        refine S.icmp_le (pc' := 19) (tgt := 22) dX12_likeliest_16 (by decide) rfl (by unfold fp_rng; omega) (by unfold fp_rng; omega) (fun h16 => ?_) (fun h16 => ?_)
        · exfalso; omega
        · refine S.bipush (pc' := 21) dX12_likeliest_19 rfl (by decide) ?_
          refine S.iret dX12_likeliest_21 rfl ?_
          exact ⟨rfl, hcs, fun _ _ => rfl⟩
      · exact absurd h5 (by decide)
    · rw [if_neg h10]
      have h1024 : ((2 ^ vs.length : Nat) : Int) ≤ 1024 := by
        have q : ∀ n : Nat, n < 11 → ((2 ^ n : Nat) : Int) ≤ 1024 := by decide +kernel
        exact q _ (by omega)
      have hF := fun t => chF_in (x := x) hg hP hvo (by omega) t (2 ^ vs.length)
      generalize hTT : 2 ^ vs.length = TT at *
      refine S.aload_n (pc' := 1) dX12_likeliest_0 rfl rfl rfl ?_
      refine S.iload_n (pc' := 2) dX12_likeliest_1 rfl rfl rfl ?_
      refine S.callVe (pc' := 5) dX12_likeliest_2 rfl cX12_219 cL rfl L_177 (by decide) rfl (Nat.le_of_ble_eq_true rfl) ?_
      refine S.if_ne (pc' := 8) (tgt := 10) dX12_likeliest_5 (by decide) rfl (by unfold fp_rng; omega) (fun h5 => ?_) (fun h5 => ?_)
      · refine S.aload_n (pc' := 11) dX12_likeliest_10 rfl rfl rfl ?_
        refine S.callVe (pc' := 14) dX12_likeliest_11 rfl cX12_225 ok_X12_visits rfl L_177 (by decide) rfl (Nat.le_of_ble_eq_true rfl) ?_
        rw [h95]
        refine S.bipush (pc' := 16) dX12_likeliest_14 rfl (by decide) ?_
        refine S.icmp_le (pc' := 19) (tgt := 22) dX12_likeliest_16 (by decide) rfl (by unfold fp_rng; omega) (by unfold fp_rng; omega) (fun h16 => ?_) (fun h16 => ?_)
        · refine S.aload_n (pc' := 23) dX12_likeliest_22 rfl rfl rfl ?_
          refine S.iload_n (pc' := 24) dX12_likeliest_23 rfl rfl rfl ?_
          refine S.callVv (pc' := 27) dX12_likeliest_24 rfl cX12_297 (rk_X12_layChances hg hP hvo (by omega) hx hd hv' hcl) rfl L_177 (by decide) rfl (Nat.le_of_ble_eq_true rfl) (fun M24 q24 => ?_)
          refine S.bipush (pc' := 29) dX12_likeliest_27 rfl (by decide) ?_
          refine S.istore_n (pc' := 30) (LL' := [_, _, _, _]) dX12_likeliest_29 rfl (by decide) rfl rfl rfl ?_
          refine S.iconst (pc' := 31) dX12_likeliest_30 rfl ?_
          refine S.istore_n (pc' := 32) (LL' := [_, _, _, _]) dX12_likeliest_31 rfl (by decide) rfl rfl rfl ?_
          refine fp_S.wI (lk_loop (F := chF g pg vs x TT) (fun t t0 t1 => ⟨by rw [q24.2.2 t t0 t1, hTT], (hF t).1, by have := (hF t).2; omega⟩) (by rw [q24.1.2.1 4 (by decide)]; exact e4) g1 11 0 (by omega) (by omega)) (fun z N q => ?_)
          obtain ⟨rfl, rfl⟩ := q
          exact ⟨rfl, hcs.lay ho q24.1, q24.1.d⟩
        · exfalso; omega
      · exact absurd h5 (by decide)
  · rw [if_neg hx] at cL ⊢
    refine S.aload_n (pc' := 1) dX12_likeliest_0 rfl rfl rfl ?_
    refine S.iload_n (pc' := 2) dX12_likeliest_1 rfl rfl rfl ?_
    refine S.callVe (pc' := 5) dX12_likeliest_2 rfl cX12_219 cL rfl L_177 (by decide) rfl (Nat.le_of_ble_eq_true rfl) ?_
    refine S.if_ne (pc' := 8) (tgt := 10) dX12_likeliest_5 (by decide) rfl (by unfold fp_rng; omega) (fun h5 => ?_) (fun h5 => ?_)
    · exact absurd rfl h5
    · refine S.iconst (pc' := 9) dX12_likeliest_8 rfl ?_
      refine S.iret dX12_likeliest_9 rfl ?_
      exact ⟨rfl, hcs, fun _ _ => rfl⟩
end MLK
end
section
/-! most: the reference's own draws, its levels -/
def aOwn (vs : List aVt) (p i : Int) : Bool := decide ((vs.getD i.toNat aV0).2.1 = p ∧ (vs.getD i.toNat aV0).2.2.2 = -4)
section MMO
variable {l : Launch} {G : fp_WG} {M N : fp_Mem} {g : aGd} {pg : aPg} {vs : List aVt}
theorem rk_X12_isOwn {p i : Int} (hv : mvIs M vs) (hvo : vsOk g vs) (hg : gOk g) (hp : fp_rng p) (hi : 0 ≤ i ∧ i < (vs.length : Int)) : fp_Ok l G 0 kX12_isOwn [rV G 177, iV p, iV i] M (qE (if aOwn vs p i = true then 1 else 0) M) := by
  refine fp_Ok.of (r := 0) rfl (Nat.le_of_ble_eq_true rfl) rfl ?_
  obtain ⟨h1, h2, h3⟩ := hv
  obtain ⟨k1, k2, k3, k4⟩ := h3 i hi.1 hi.2
  have hm : vs.getD i.toNat aV0 ∈ vs := by
    rw [List.getD_eq_getElem?_getD, List.getElem?_eq_getElem (by omega)]; exact List.getElem_mem _
  obtain ⟨o1, o2, o3, o4⟩ := hvo _ hm
  have g1 := hg.1
  unfold aOwn
  simp only [decide_eq_true_eq]
  generalize (vs.getD i.toNat aV0).2.1 = a at *
  generalize (vs.getD i.toNat aV0).2.2.2 = b at *
  refine S.aload_n (pc' := 1) dX12_isOwn_0 rfl rfl rfl ?_
  refine S.getR (pc' := 4) dX12_isOwn_1 rfl fX12_7 L_177 rf_177_0 ?_
  refine S.bipush (pc' := 6) dX12_isOwn_4 rfl (by decide) ?_
  refine S.iconst (pc' := 7) dX12_isOwn_6 rfl ?_
  refine S.iload_n (pc' := 8) dX12_isOwn_7 rfl rfl rfl ?_
  refine S.imul (pc' := 9) dX12_isOwn_8 rfl ?_
  refine S.iadd (pc' := 10) dX12_isOwn_9 rfl ?_
  refine S.iconst (pc' := 11) dX12_isOwn_10 rfl ?_
  refine S.iadd (pc' := 12) dX12_isOwn_11 rfl ?_
  refine S.iald (pc' := 13) dX12_isOwn_12 rfl L_178 (by omega) (by omega) ?_
  rw [k2]
  refine S.iload_n (pc' := 14) dX12_isOwn_13 rfl rfl rfl ?_
  refine S.icmp_ne (pc' := 17) (tgt := 39) dX12_isOwn_14 (by decide) rfl (by unfold fp_rng; omega) hp (fun h14 => ?_) (fun h14 => ?_)
  · refine S.iconst (pc' := 40) dX12_isOwn_39 rfl ?_
    refine S.zret dX12_isOwn_40 rfl (by first | exact Or.inl rfl | exact Or.inr rfl | omega) ?_
    first
    | exact ⟨by rw [if_pos ⟨by omega, by omega⟩], rfl⟩
    | exact ⟨by rw [if_neg (fun q => by omega)], rfl⟩
  · refine S.aload_n (pc' := 18) dX12_isOwn_17 rfl rfl rfl ?_
    refine S.getR (pc' := 21) dX12_isOwn_18 rfl fX12_7 L_177 rf_177_0 ?_
    refine S.bipush (pc' := 23) dX12_isOwn_21 rfl (by decide) ?_
    refine S.iconst (pc' := 24) dX12_isOwn_23 rfl ?_
    refine S.iload_n (pc' := 25) dX12_isOwn_24 rfl rfl rfl ?_
    refine S.imul (pc' := 26) dX12_isOwn_25 rfl ?_
    refine S.iadd (pc' := 27) dX12_isOwn_26 rfl ?_
    refine S.iconst (pc' := 28) dX12_isOwn_27 rfl ?_
    refine S.iadd (pc' := 29) dX12_isOwn_28 rfl ?_
    refine S.iald (pc' := 30) dX12_isOwn_29 rfl L_178 (by omega) (by omega) ?_
    rw [k4]
    refine S.bipush (pc' := 32) dX12_isOwn_30 rfl (by decide) ?_
    refine S.icmp_ne (pc' := 35) (tgt := 39) dX12_isOwn_32 (by decide) rfl (by unfold fp_rng; omega) (by unfold fp_rng; omega) (fun h32 => ?_) (fun h32 => ?_)
    · refine S.iconst (pc' := 40) dX12_isOwn_39 rfl ?_
      refine S.zret dX12_isOwn_40 rfl (by first | exact Or.inl rfl | exact Or.inr rfl | omega) ?_
      first
      | exact ⟨by rw [if_pos ⟨by omega, by omega⟩], rfl⟩
      | exact ⟨by rw [if_neg (fun q => by omega)], rfl⟩
    · refine S.iconst (pc' := 36) dX12_isOwn_35 rfl ?_
      refine S.goto (pc' := 40) dX12_isOwn_36 (by decide) ?_
      refine S.zret dX12_isOwn_40 rfl (by first | exact Or.inl rfl | exact Or.inr rfl | omega) ?_
      first
      | exact ⟨by rw [if_pos ⟨by omega, by omega⟩], rfl⟩
      | exact ⟨by rw [if_neg (fun q => by omega)], rfl⟩
/-- a level is kept: the row of levels alone differs -/
def svP (M N : fp_Mem) (i : Int) : Prop := (∀ c, c ≠ 189 → N c = M c) ∧ ∀ j : Nat, N 189 j = if 40 * i ≤ (j : Int) ∧ (j : Int) < 40 * i + 40 then M 178 (360 + ((j : Int) - 40 * i)).toNat else M 189 j
theorem rk_X12_saves {i : Int} (hi : 0 ≤ i ∧ i < 14) : fp_Ok l G 0 kX12_saves [rV G 177, iV i] M (qV fun N => svP M N i) := by
  refine fp_Ok.of (r := 1) rfl (Nat.le_of_ble_eq_true rfl) rfl ?_
  have hL : ∀ (r : Nat) (k : Int) (N : fp_Mem), (40 - k).toNat < r → 0 ≤ k → k ≤ 40 → (∀ c, c ≠ 189 → N c = M c) → (∀ j : Nat, N 189 j = if 40 * i ≤ (j : Int) ∧ (j : Int) < 40 * i + k then M 178 (360 + ((j : Int) - 40 * i)).toNat else M 189 j) → fp_S l G 0 kX12_saves 2 [some (rV G 177), some (iV i), some (iV k)] [] N (qV fun N => svP M N i) := by
    intro r
    induction r with
    | zero => intro k N hr; omega
    | succ r ih =>
      intro k N hr k0 k1 hf hR
      by_cases hk : k < 40
      · refine S.iload_n (pc' := 3) dX12_saves_2 rfl rfl rfl ?_
        refine S.bipush (pc' := 5) dX12_saves_3 rfl (by decide) ?_
        refine S.icmp_ge (pc' := 8) (tgt := 35) dX12_saves_5 (by decide) rfl (by unfold fp_rng; omega) (by unfold fp_rng; omega) (fun h5 => ?_) (fun h5 => ?_)
        · exfalso; omega
        · refine S.aload_n (pc' := 9) dX12_saves_8 rfl rfl rfl ?_
          refine S.getR (pc' := 12) dX12_saves_9 rfl fX12_47 L_177 rf_177_29 ?_
          refine S.bipush (pc' := 14) dX12_saves_12 rfl (by decide) ?_
          refine S.iload_n (pc' := 15) dX12_saves_14 rfl rfl rfl ?_
          refine S.imul (pc' := 16) dX12_saves_15 rfl ?_
          refine S.iload_n (pc' := 17) dX12_saves_16 rfl rfl rfl ?_
          refine S.iadd (pc' := 18) dX12_saves_17 rfl ?_
          refine S.aload_n (pc' := 19) dX12_saves_18 rfl rfl rfl ?_
          refine S.getR (pc' := 22) dX12_saves_19 rfl fX12_7 L_177 rf_177_0 ?_
          refine S.sipush (pc' := 25) dX12_saves_22 rfl (by decide) ?_
          refine S.iload_n (pc' := 26) dX12_saves_25 rfl rfl rfl ?_
          refine S.iadd (pc' := 27) dX12_saves_26 rfl ?_
          refine S.iald (pc' := 28) dX12_saves_27 rfl L_178 (by omega) (by omega) ?_
          refine S.iast (pc' := 29) dX12_saves_28 rfl L_189 (by omega) (by omega) ?_
          refine S.iinc (pc' := 32) (LL' := [_, _, _]) dX12_saves_29 rfl (by decide) rfl rfl rfl ?_
          refine S.goto (pc' := 2) dX12_saves_32 (by decide) ?_
          refine ih (k + 1) _ (by omega) (by omega) (by omega) (fun c hc => by rw [fp_up_ne hc]; exact hf c hc) (fun j => ?_)
          rw [fp_up_at, hf 178 (by decide)]
          by_cases e : j = (40 * i + k).toNat
          · rw [if_pos (by omega), e, show (360 + ((((40 * i + k).toNat : Nat) : Int) - 40 * i)) = 360 + k by omega]; simp [fp_upf]
          · rw [fp_upf_ne e, hR j]
            by_cases e2 : 40 * i ≤ (j : Int) ∧ (j : Int) < 40 * i + k
            · rw [if_pos e2, if_pos (by omega)]
            · rw [if_neg e2, if_neg (by omega)]
      · have e : k = 40 := by omega
        subst e
        refine S.iload_n (pc' := 3) dX12_saves_2 rfl rfl rfl ?_
        refine S.bipush (pc' := 5) dX12_saves_3 rfl (by decide) ?_
        refine S.icmp_ge (pc' := 8) (tgt := 35) dX12_saves_5 (by decide) rfl (by unfold fp_rng; omega) (by unfold fp_rng; omega) (fun h5 => ?_) (fun h5 => ?_)
        · refine S.vret dX12_saves_35 rfl ?_
          exact ⟨hf, hR⟩
        · exfalso; omega
  refine S.iconst (pc' := 1) dX12_saves_0 rfl ?_
  refine S.istore_n (pc' := 2) (LL' := [_, _, _]) dX12_saves_1 rfl (by decide) rfl rfl rfl ?_
  exact hL 41 0 M (by omega) (by omega) (by omega) (fun _ _ => rfl) (fun j => by rw [if_neg (by omega)])
end MMO
end
section
/-! THE GREATEST COMMON DIVISOR, the class -/
theorem gd_half {P R r : Nat} (hR : 0 < R) (h : R ≤ P) (hp : P * R < 2 ^ (r + 1)) : R * (P % R) < 2 ^ r := by
  have h1 : P % R < R := Nat.mod_lt _ hR
  have h2 : R * (P / R) + P % R = P := Nat.div_add_mod P R
  have h3 : 1 ≤ P / R := Nat.div_pos h hR
  have h4 : R ≤ R * (P / R) := Nat.le_mul_of_pos_right R h3
  have h5 : 2 * (P % R) ≤ P := by omega
  have h6 : R * (2 * (P % R)) ≤ R * P := Nat.mul_le_mul_left R h5
  rw [Nat.pow_succ] at hp
  rw [Nat.mul_comm P R] at hp
  have h7 : R * (2 * (P % R)) = 2 * (R * (P % R)) := by rw [Nat.mul_left_comm]
  omega
section CDV
variable {l : Launch} {G : fp_WG} {M N : fp_Mem}
theorem gd_loop {a0 b0 : Int} : ∀ (r P R : Nat) (i : Int) (o9 o10 : Option Value), R ≤ P → P * R < 2 ^ r → 0 ≤ i → i + r ≤ 99 → (P : Int) < 9223372036854775808 →
    fp_S l G 0 kX11_greatestDivisor 9 [some (jV a0), none, some (jV b0), none, some (jV (P : Int)), none, some (jV (R : Int)), none, some (iV i), o9, o10] [] M (qJ fun z N => z = ((Nat.gcd P R : Nat) : Int) ∧ N = M) := by
  intro r
  induction r with
  | zero =>
    intro P R i o9 o10 h hp i0 i1 hP
    have hz : P * R = 0 := by omega
    have hR : R = 0 := by
      rcases Nat.mul_eq_zero.mp hz with q | q <;> omega
    subst hR
    rw [Nat.gcd_zero_right]
    refine S.iload (pc' := 11) dX11_greatestDivisor_9 rfl rfl ?_
    refine S.bipush (pc' := 13) dX11_greatestDivisor_11 rfl (by decide) ?_
    refine S.icmp_ge (pc' := 16) (tgt := 44) dX11_greatestDivisor_13 (by decide) rfl (by unfold fp_rng; omega) (by unfold fp_rng; omega) (fun h13 => ?_) (fun h13 => ?_)
    · refine S.lload (pc' := 46) dX11_greatestDivisor_44 rfl rfl ?_
      refine S.lret dX11_greatestDivisor_46 rfl ?_
      exact ⟨rfl, rfl⟩
    · refine S.lload (pc' := 18) dX11_greatestDivisor_16 rfl rfl ?_
      refine S.lconst (pc' := 19) (w := 0) dX11_greatestDivisor_18 rfl rfl ?_
      refine S.lcmp (pc' := 20) dX11_greatestDivisor_19 rfl (by unfold fp_lng; omega) (by unfold fp_lng; omega) ?_
      refine S.if_le (pc' := 23) (tgt := 44) dX11_greatestDivisor_20 (by decide) rfl (by unfold fp_rng; omega) (fun h20 => ?_) (fun h20 => ?_)
      · refine S.lload (pc' := 46) dX11_greatestDivisor_44 rfl rfl ?_
        refine S.lret dX11_greatestDivisor_46 rfl ?_
        exact ⟨rfl, rfl⟩
      · exfalso; split at h20 <;> omega
  | succ r ih =>
    intro P R i o9 o10 h hp i0 i1 hP
    by_cases h0 : R = 0
    · subst h0
      rw [Nat.gcd_zero_right]
      refine S.iload (pc' := 11) dX11_greatestDivisor_9 rfl rfl ?_
      refine S.bipush (pc' := 13) dX11_greatestDivisor_11 rfl (by decide) ?_
      refine S.icmp_ge (pc' := 16) (tgt := 44) dX11_greatestDivisor_13 (by decide) rfl (by unfold fp_rng; omega) (by unfold fp_rng; omega) (fun h13 => ?_) (fun h13 => ?_)
      · refine S.lload (pc' := 46) dX11_greatestDivisor_44 rfl rfl ?_
        refine S.lret dX11_greatestDivisor_46 rfl ?_
        exact ⟨rfl, rfl⟩
      · refine S.lload (pc' := 18) dX11_greatestDivisor_16 rfl rfl ?_
        refine S.lconst (pc' := 19) (w := 0) dX11_greatestDivisor_18 rfl rfl ?_
        refine S.lcmp (pc' := 20) dX11_greatestDivisor_19 rfl (by unfold fp_lng; omega) (by unfold fp_lng; omega) ?_
        refine S.if_le (pc' := 23) (tgt := 44) dX11_greatestDivisor_20 (by decide) rfl (by unfold fp_rng; omega) (fun h20 => ?_) (fun h20 => ?_)
        · refine S.lload (pc' := 46) dX11_greatestDivisor_44 rfl rfl ?_
          refine S.lret dX11_greatestDivisor_46 rfl ?_
          exact ⟨rfl, rfl⟩
        · exfalso; split at h20 <;> omega
    · have hm : P % R < R := Nat.mod_lt _ (by omega)
      have hh := gd_half (by omega) h hp
      have hgr : Nat.gcd P R = Nat.gcd R (P % R) := by rw [Nat.gcd_comm P R, Nat.gcd_rec R P, Nat.gcd_comm]
      rw [hgr]
      refine S.iload (pc' := 11) dX11_greatestDivisor_9 rfl rfl ?_
      refine S.bipush (pc' := 13) dX11_greatestDivisor_11 rfl (by decide) ?_
      refine S.icmp_ge (pc' := 16) (tgt := 44) dX11_greatestDivisor_13 (by decide) rfl (by unfold fp_rng; omega) (by unfold fp_rng; omega) (fun h13 => ?_) (fun h13 => ?_)
      · exfalso; first | omega | (split at h20 <;> omega)
      · refine S.lload (pc' := 18) dX11_greatestDivisor_16 rfl rfl ?_
        refine S.lconst (pc' := 19) (w := 0) dX11_greatestDivisor_18 rfl rfl ?_
        refine S.lcmp (pc' := 20) dX11_greatestDivisor_19 rfl (by unfold fp_lng; omega) (by unfold fp_lng; omega) ?_
        refine S.if_le (pc' := 23) (tgt := 44) dX11_greatestDivisor_20 (by decide) rfl (by unfold fp_rng; omega) (fun h20 => ?_) (fun h20 => ?_)
        · exfalso; first | omega | (split at h20 <;> omega)
        · refine S.lload (pc' := 25) dX11_greatestDivisor_23 rfl rfl ?_
          refine S.lload (pc' := 27) dX11_greatestDivisor_25 rfl rfl ?_
          refine S.lrem (pc' := 28) dX11_greatestDivisor_27 rfl (fp_jne (by omega)) (fp_jrem (by omega) (by omega)) ?_
          refine S.lstore (pc' := 30) (LL' := [_, _, _, _, _, _, _, _, _, _, _]) dX11_greatestDivisor_28 rfl (by decide) rfl rfl (by decide) ?_
          refine S.lload (pc' := 32) dX11_greatestDivisor_30 rfl rfl ?_
          refine S.lstore (pc' := 34) (LL' := [_, _, _, _, _, _, _, _, _, _, _]) dX11_greatestDivisor_32 rfl (by decide) rfl rfl (by decide) ?_
          refine S.lload (pc' := 36) dX11_greatestDivisor_34 rfl rfl ?_
          refine S.lstore (pc' := 38) (LL' := [_, _, _, _, _, _, _, _, _, _, _]) dX11_greatestDivisor_36 rfl (by decide) rfl rfl (by decide) ?_
          refine S.iinc (pc' := 41) (LL' := [_, _, _, _, _, _, _, _, _, _, _]) dX11_greatestDivisor_38 rfl (by decide) rfl rfl rfl ?_
          refine S.goto (pc' := 9) dX11_greatestDivisor_41 (by decide) ?_
          rw [show ((P : Int) % (R : Int)) = ((P % R : Nat) : Int) from (Int.natCast_emod P R).symm]
          exact ih R (P % R) (i + 1) _ _ (by omega) hh (by omega) (by omega) (by omega)
theorem rk_X11_greatestDivisor {a0 b0 : Int} (hb : 0 ≤ b0 ∧ b0 ≤ a0) (ha : a0 ≤ 10000000000) : fp_Ok l G 0 kX11_greatestDivisor [jV a0, jV b0] M (qJ fun z N => z = ((Nat.gcd a0.toNat b0.toNat : Nat) : Int) ∧ N = M) := by
  refine fp_Ok.of (r := 7) rfl (Nat.le_of_ble_eq_true rfl) rfl ?_
  have ea : a0 = (a0.toNat : Int) := by omega
  have eb : b0 = (b0.toNat : Int) := by omega
  have hp : a0.toNat * b0.toNat < 2 ^ 70 := by
    have h1 : a0.toNat * b0.toNat ≤ 10000000000 * 10000000000 := Nat.mul_le_mul (by omega) (by omega)
    exact Nat.lt_of_le_of_lt h1 (by decide)
  have := gd_loop (l := l) (G := G) (M := M) (a0 := a0) (b0 := b0) 70 a0.toNat b0.toNat 0 none none (by omega) hp (by omega) (by omega) (by omega)
  rw [← ea, ← eb] at this
  refine S.lload_n (pc' := 1) dX11_greatestDivisor_0 rfl rfl rfl ?_
  refine S.lstore (pc' := 3) (LL' := [_, _, _, _, _, _, _, _, _, _, _]) dX11_greatestDivisor_1 rfl (by decide) rfl rfl (by decide) ?_
  refine S.lload_n (pc' := 4) dX11_greatestDivisor_3 rfl rfl rfl ?_
  refine S.lstore (pc' := 6) (LL' := [_, _, _, _, _, _, _, _, _, _, _]) dX11_greatestDivisor_4 rfl (by decide) rfl rfl (by decide) ?_
  refine S.iconst (pc' := 7) dX11_greatestDivisor_6 rfl ?_
  refine S.istore (pc' := 9) (LL' := [_, _, _, _, _, _, _, _, _, _, _]) dX11_greatestDivisor_7 rfl (by decide) rfl rfl ?_
  exact this
end CDV
end
section
/-! THE WEIGHTS OF ALL ROWS are the whole -/
theorem chI_bits {g : aGd} {pg : aPg} {vs : List aVt} {m m' : Int} : ∀ k : Nat, (∀ i, i < k → m.toNat.testBit i = m'.toNat.testBit i) → chI g pg vs m k = chI g pg vs m' k
  | 0, _ => rfl
  | k + 1, h => by
    have e := chI_bits (g := g) (pg := pg) (vs := vs) (m := m) (m' := m') k (fun i hi => h i (by omega))
    unfold chI
    rw [e, h k (by omega)]
def chS (g : aGd) (pg : aPg) (vs : List aVt) (k : Nat) (a : Nat) : Nat → Int
  | 0 => 0
  | m + 1 => chS g pg vs k a m + (chI g pg vs ((a + m : Nat) : Int) k).1
theorem chS_add {g : aGd} {pg : aPg} {vs : List aVt} {k a : Nat} (p : Nat) : ∀ q, chS g pg vs k a (p + q) = chS g pg vs k a p + chS g pg vs k (a + p) q
  | 0 => by simp [chS]
  | q + 1 => by
    rw [show p + (q + 1) = (p + q) + 1 by omega, chS, chS_add p q, chS, show a + (p + q) = a + p + q by omega]
    omega
theorem chS_one {g : aGd} {pg : aPg} {vs : List aVt} (hg : gOk g) (hP : pgOk g pg) (hv : vsOk g vs) (k a : Nat) (c : Int) (b : Bool) (hc : c = if b = true then g.2.2.1 else 10 - g.2.2.1) : ∀ q, (∀ m, m < q → (a + m).testBit k = b ∧ ∀ i, i < k → (a + m).testBit i = m.testBit i) → chS g pg vs (k + 1) a q = chS g pg vs k 0 q * c
  | 0, _ => by simp [chS]
  | q + 1, h => by
    rw [chS, chS, chS_one hg hP hv k a c b hc q (fun m hm => h m (by omega)), Int.add_mul]
    congr 1
    obtain ⟨h1, h2⟩ := h q (by omega)
    have e : chI g pg vs ((a + q : Nat) : Int) k = chI g pg vs ((0 + q : Nat) : Int) k := chI_bits k (fun i hi => by rw [Int.toNat_natCast, Int.toNat_natCast, h2 i hi, Nat.zero_add])
    have hw := (chI_in (m := ((0 + q : Nat) : Int)) hg hP hv k).1.1
    rw [chI, e, Int.toNat_natCast, h1, hc]
    split
    · rename_i h0
      rw [show (chI g pg vs ((0 + q : Nat) : Int) k).1 = 0 by omega, Int.zero_mul]
    · cases b <;> rfl
theorem chS_all {g : aGd} {pg : aPg} {vs : List aVt} (hg : gOk g) (hP : pgOk g pg) (hv : vsOk g vs) : ∀ k : Nat, chS g pg vs k 0 (2 ^ k) = 10 ^ k
  | 0 => rfl
  | k + 1 => by
    have ih := chS_all hg hP hv k
    rw [show 2 ^ (k + 1) = 2 ^ k + 2 ^ k by omega, chS_add, chS_one hg hP hv k 0 (10 - g.2.2.1) false rfl _ (fun m hm => ⟨by rw [Nat.zero_add]; exact Nat.testBit_lt_two_pow hm, fun i _ => by rw [Nat.zero_add]⟩), chS_one hg hP hv k (0 + 2 ^ k) g.2.2.1 true rfl _ (fun m hm => ⟨by rw [Nat.zero_add, Nat.testBit_two_pow_add_eq, Nat.testBit_lt_two_pow hm]; rfl, fun i hi => by rw [Nat.zero_add]; exact Nat.testBit_two_pow_add_gt hi m⟩), ih, Int.pow_succ]
    rw [← Int.mul_add]
    congr 1
    omega
theorem chF_le {g : aGd} {pg : aPg} {vs : List aVt} {x t : Int} (hg : gOk g) (hP : pgOk g pg) (hv : vsOk g vs) : ∀ m : Nat, chF g pg vs x m t ≤ chS g pg vs vs.length 0 m
  | 0 => by show (0 : Int) ≤ 0; omega
  | m + 1 => by
    have h := chF_le (x := x) (t := t) hg hP hv m
    have hw := (chI_in (m := (m : Int)) hg hP hv vs.length).1.1
    rw [chF, chS, Nat.zero_add]
    split <;> omega
theorem chF_whole {g : aGd} {pg : aPg} {vs : List aVt} {x t : Int} (hg : gOk g) (hP : pgOk g pg) (hv : vsOk g vs) : chF g pg vs x (2 ^ vs.length) t ≤ 10 ^ vs.length := by
  rw [← chS_all hg hP hv vs.length]
  exact chF_le hg hP hv _
end
section
/-! CHANCES, the class: what the rows of the visits from k on give; the same as all rows together -/
def spS (g : aGd) (vs : List aVt) (x t : Int) : Nat → Nat → Int → aPg → Int
  | 0, _, w, pg => if aGv g pg x = t ∧ 0 < w then w else 0
  | n + 1, k, w, pg => spS g vs x t n (k + 1) (w * g.2.2.1) (aHapI g pg vs (k : Int)).2 + spS g vs x t n (k + 1) (w * (10 - g.2.2.1)) pg
theorem spS_zero {g : aGd} {vs : List aVt} {x t : Int} : ∀ (n k : Nat) (pg : aPg), spS g vs x t n k 0 pg = 0
  | 0, k, pg => by show (if aGv g pg x = t ∧ (0 : Int) < 0 then (0 : Int) else 0) = 0; split <;> rfl
  | n + 1, k, pg => by rw [spS, Int.zero_mul, Int.zero_mul, spS_zero n, spS_zero n]; rfl
def spT (g : aGd) (pg : aPg) (vs : List aVt) (x t : Int) (n k a : Nat) : Nat → Int
  | 0 => 0
  | m + 1 => spT g pg vs x t n k a m + spS g vs x t n k (chI g pg vs ((a + m : Nat) : Int) k).1 (chI g pg vs ((a + m : Nat) : Int) k).2
theorem spT_add {g : aGd} {pg : aPg} {vs : List aVt} {x t : Int} {n k a : Nat} (p : Nat) : ∀ q, spT g pg vs x t n k a (p + q) = spT g pg vs x t n k a p + spT g pg vs x t n k (a + p) q
  | 0 => by simp [spT]
  | q + 1 => by
    rw [show p + (q + 1) = (p + q) + 1 by omega, spT, spT_add p q, spT, show a + (p + q) = a + p + q by omega]
    omega
theorem spT_two {g : aGd} {pg : aPg} {vs : List aVt} {x t : Int} (hg : gOk g) (hP : pgOk g pg) (hv : vsOk g vs) (n k : Nat) : ∀ q, q ≤ 2 ^ k → spT g pg vs x t n (k + 1) 0 q + spT g pg vs x t n (k + 1) (2 ^ k) q = spT g pg vs x t (n + 1) k 0 q
  | 0, _ => rfl
  | q + 1, h => by
    have ih := spT_two (x := x) (t := t) hg hP hv n k q (by omega)
    have hq : q < 2 ^ k := by omega
    rw [spT, spT, spT, ← ih]
    have e1 : chI g pg vs ((2 ^ k + q : Nat) : Int) k = chI g pg vs ((0 + q : Nat) : Int) k := chI_bits k (fun i hi => by rw [Int.toNat_natCast, Int.toNat_natCast, Nat.zero_add]; exact Nat.testBit_two_pow_add_gt hi q)
    have b1 : ((2 ^ k + q : Nat) : Int).toNat.testBit k = true := by rw [Int.toNat_natCast, Nat.testBit_two_pow_add_eq, Nat.testBit_lt_two_pow hq]; rfl
    have b0 : ¬ ((0 + q : Nat) : Int).toNat.testBit k = true := by rw [Int.toNat_natCast, Nat.zero_add, Nat.testBit_lt_two_pow hq]; decide
    have hw := (chI_in (m := ((0 + q : Nat) : Int)) hg hP hv k).1.1
    have key : spS g vs x t n (k + 1) (chI g pg vs ((0 + q : Nat) : Int) (k + 1)).1 (chI g pg vs ((0 + q : Nat) : Int) (k + 1)).2 + spS g vs x t n (k + 1) (chI g pg vs ((2 ^ k + q : Nat) : Int) (k + 1)).1 (chI g pg vs ((2 ^ k + q : Nat) : Int) (k + 1)).2 = spS g vs x t (n + 1) k (chI g pg vs ((0 + q : Nat) : Int) k).1 (chI g pg vs ((0 + q : Nat) : Int) k).2 := by
      rw [chI, chI, e1, if_neg b0, if_pos b1]
      generalize chI g pg vs ((0 + q : Nat) : Int) k = c at *
      by_cases h0 : c.1 ≤ 0
      · rw [if_pos h0, if_pos h0, show c.1 = 0 by omega, spS_zero, spS_zero]; rfl
      · rw [if_neg h0, if_neg h0, spS]
        dsimp only
        omega
    omega
theorem spT_all {g : aGd} {pg : aPg} {vs : List aVt} {x t : Int} (hg : gOk g) (hP : pgOk g pg) (hv : vsOk g vs) : ∀ (k n : Nat), spT g pg vs x t n k 0 (2 ^ k) = spS g vs x t (n + k) 0 1 pg
  | 0, n => by
    show (0 : Int) + spS g vs x t n 0 (chI g pg vs ((0 + 0 : Nat) : Int) 0).1 (chI g pg vs ((0 + 0 : Nat) : Int) 0).2 = _
    rw [Int.zero_add]
    rfl
  | k + 1, n => by
    have ih := spT_all (x := x) (t := t) hg hP hv k (n + 1)
    rw [show 2 ^ (k + 1) = 2 ^ k + 2 ^ k by omega, spT_add, Nat.zero_add, spT_two hg hP hv n k _ (Nat.le_refl _), ih, show n + 1 + k = n + (k + 1) by omega]
theorem spT_end {g : aGd} {pg : aPg} {vs : List aVt} {x t : Int} : ∀ q, spT g pg vs x t 0 vs.length 0 q = chF g pg vs x q t
  | 0 => rfl
  | q + 1 => by
    rw [spT, chF, spT_end q, Nat.zero_add]
    rfl
theorem spS_chF {g : aGd} {pg : aPg} {vs : List aVt} {x t : Int} (hg : gOk g) (hP : pgOk g pg) (hv : vsOk g vs) : spS g vs x t vs.length 0 1 pg = chF g pg vs x (2 ^ vs.length) t := by
  rw [← spT_end, spT_all hg hP hv vs.length 0, Nat.zero_add]
/-- only rows that the state does not speak of differ, the class -/
def frZ (M N : fp_Mem) : Prop := ∀ a, (a < 34 ∨ 142 < a) → N a = M a
theorem frZ.refl (M : fp_Mem) : frZ M M := fun _ _ => rfl
theorem frZ.trans {M N O : fp_Mem} (h1 : frZ M N) (h2 : frZ N O) : frZ M O := fun a ha => (h2 a ha).trans (h1 a ha)
theorem frZ.c {M N : fp_Mem} (h : frZ M N) : frC M N := fun c hc => h c (by omega)
section CSH
variable {l : Launch} {G : fp_WG} {M N : fp_Mem} {tp : List Int} {fl : Int} {g : aGd} {pg : aPg} {vs : List aVt} {nt : List Int} {im : aIm} {sh : aSh} {tn : Int}
theorem CS.scz (h : CS M tp fl g pg vs nt im sh tn) (e : frZ M N) : CS N tp fl g pg vs nt im sh tn := h.kept (fun a ha => e a (by omega))
theorem rk_X8_spread {x : Int} (hg : gOk g) (hvo : vsOk g vs) (hl : vs.length ≤ 10) (hx : 0 ≤ x ∧ x < g.2.1) : ∀ (n : Nat) (i w : Int) (pg : aPg) (M : fp_Mem), 0 ≤ i → i + n = vs.length → 0 ≤ w ∧ w ≤ 10 ^ i.toNat → pgOk g pg → clIs M (41 + 5 * i.toNat) g pg → gdIs M 18 g → vsIs M 27 vs →
    fp_Ok l G (n + 3) kX8_spread [rV G 34, rV G 18, rV G 27, iV x, iV i, jV w] M (qV fun N => (∀ t : Int, 0 ≤ t → t < 10 → N 40 t.toNat = M 40 t.toNat + spS g vs x t n i.toNat w pg) ∧ ∀ a, (a < 40 ∨ (40 < a ∧ a < 46 + 5 * i.toNat) ∨ 105 < a) → N a = M a) := by
  have hc := hg.2.2.1
  have hg1 := hg.1
  intro n
  induction n with
  | zero =>
    intro i w pg M i0 hi hw hP hcl hd hv
    have w2 := pow10_le (show i.toNat ≤ 10 by omega)
    have hl1 := hv.1
    have hgv := aGv_in hP hg hx
    have ho := stg_o i0 (show i < 13 by omega)
    refine fp_Ok.of (r := 1) rfl (Nat.le_of_ble_eq_true rfl) rfl ?_
    refine S.lload (pc' := 2) dX8_spread_0 rfl rfl ?_
    refine S.lconst (pc' := 3) (w := 0) dX8_spread_2 rfl rfl ?_
    refine S.lcmp (pc' := 4) dX8_spread_3 rfl (by unfold fp_lng; omega) (by unfold fp_lng; omega) ?_
    refine S.if_ne (pc' := 7) (tgt := 8) dX8_spread_4 (by decide) rfl (by unfold fp_rng; omega) (fun h4 => ?_) (fun h4 => ?_)
    · refine S.iload (pc' := 10) dX8_spread_8 rfl rfl ?_
      refine S.bipush (pc' := 12) dX8_spread_10 rfl (by decide) ?_
      refine S.icmp_ge (pc' := 15) (tgt := 24) dX8_spread_12 (by decide) rfl (by unfold fp_rng; omega) (by unfold fp_rng; omega) (fun h12 => ?_) (fun h12 => ?_)
      · refine S.aload_n (pc' := 25) dX8_spread_24 rfl rfl rfl ?_
        refine S.getR (pc' := 28) dX8_spread_25 rfl fX8_11 L_34 rf_34_0 ?_
        refine S.iload (pc' := 30) dX8_spread_28 rfl rfl ?_
        refine S.aald (pc' := 31) dX8_spread_30 rfl L_35 (by decide) (by decide) (by omega) (by omega) (stg_r (by omega) (by omega)) ?_
        refine S.aload_n (pc' := 32) dX8_spread_31 rfl rfl rfl ?_
        refine S.iload_n (pc' := 33) dX8_spread_32 rfl rfl rfl ?_
        refine S.callVe (pc' := 36) dX8_spread_33 rfl cX8_63 (rk_X5_gives (g := g) (pg := pg) ho gd18) rfl (pl_lay (stg_o (by omega) (by omega))) (by omega) rfl (Nat.le_of_ble_eq_true rfl) ?_
        refine S.istore (pc' := 38) (LL' := [_, _, _, _, _, _, _, _]) dX8_spread_36 rfl (by decide) rfl rfl ?_
        refine S.iload (pc' := 40) dX8_spread_38 rfl rfl ?_
        refine S.bipush (pc' := 42) dX8_spread_40 rfl (by decide) ?_
        refine S.icmp_eq (pc' := 45) (tgt := 57) dX8_spread_42 (by decide) rfl (by unfold fp_rng; omega) (by unfold fp_rng; omega) (fun h42 => ?_) (fun h42 => ?_)
        · refine S.vret dX8_spread_57 rfl ?_
          first
          | (refine ⟨fun t t0 t1 => ?_, fun _ _ => rfl⟩; show M 40 t.toNat = M 40 t.toNat + (if aGv g pg x = t ∧ 0 < w then w else 0); rw [if_neg (fun q => by omega)]; omega)
          | (refine ⟨fun t t0 t1 => ?_, fun a ha => fp_up_ne (by omega)⟩
             show _ = M 40 t.toNat + (if aGv g pg x = t ∧ 0 < w then w else 0)
             rw [fp_up_at]
             by_cases e : aGv g pg x = t
             · rw [if_pos ⟨e, by omega⟩, ← e, fp_upf_at]
             · rw [if_neg (fun q => e q.1), fp_upf_ne (by omega)]; omega)
        · refine S.aload_n (pc' := 46) dX8_spread_45 rfl rfl rfl ?_
          refine S.getR (pc' := 49) dX8_spread_46 rfl fX8_31 L_34 rf_34_6 ?_
          refine S.iload (pc' := 51) dX8_spread_49 rfl rfl ?_
          refine S.dup2 (pc' := 52) dX8_spread_51 rfl rfl rfl ?_
          refine S.lald (pc' := 53) dX8_spread_52 rfl L_40 (by omega) (by omega) ?_
          refine S.lload (pc' := 55) dX8_spread_53 rfl rfl ?_
          refine S.ladd (pc' := 56) dX8_spread_55 rfl ?_
          refine S.last (pc' := 57) dX8_spread_56 rfl L_40 (by omega) (by omega) ?_
          refine S.vret dX8_spread_57 rfl ?_
          first
          | (refine ⟨fun t t0 t1 => ?_, fun _ _ => rfl⟩; show M 40 t.toNat = M 40 t.toNat + (if aGv g pg x = t ∧ 0 < w then w else 0); rw [if_neg (fun q => by omega)]; omega)
          | (refine ⟨fun t t0 t1 => ?_, fun a ha => fp_up_ne (by omega)⟩
             show _ = M 40 t.toNat + (if aGv g pg x = t ∧ 0 < w then w else 0)
             rw [fp_up_at]
             by_cases e : aGv g pg x = t
             · rw [if_pos ⟨e, by omega⟩, ← e, fp_upf_at]
             · rw [if_neg (fun q => e q.1), fp_upf_ne (by omega)]; omega)
      · refine S.iload (pc' := 17) dX8_spread_15 rfl rfl ?_
        refine S.aload_n (pc' := 18) dX8_spread_17 rfl rfl rfl ?_
        refine S.getI (pc' := 21) dX8_spread_18 rfl fX8_80 (vs_lay vs27) ?_
        refine S.icmp_lt (pc' := 24) (tgt := 58) dX8_spread_21 (by decide) rfl (by unfold fp_rng; omega) (by unfold fp_rng; omega) (fun h21 => ?_) (fun h21 => ?_)
        · exfalso; omega
        · refine S.aload_n (pc' := 25) dX8_spread_24 rfl rfl rfl ?_
          refine S.getR (pc' := 28) dX8_spread_25 rfl fX8_11 L_34 rf_34_0 ?_
          refine S.iload (pc' := 30) dX8_spread_28 rfl rfl ?_
          refine S.aald (pc' := 31) dX8_spread_30 rfl L_35 (by decide) (by decide) (by omega) (by omega) (stg_r (by omega) (by omega)) ?_
          refine S.aload_n (pc' := 32) dX8_spread_31 rfl rfl rfl ?_
          refine S.iload_n (pc' := 33) dX8_spread_32 rfl rfl rfl ?_
          refine S.callVe (pc' := 36) dX8_spread_33 rfl cX8_63 (rk_X5_gives (g := g) (pg := pg) ho gd18) rfl (pl_lay (stg_o (by omega) (by omega))) (by omega) rfl (Nat.le_of_ble_eq_true rfl) ?_
          refine S.istore (pc' := 38) (LL' := [_, _, _, _, _, _, _, _]) dX8_spread_36 rfl (by decide) rfl rfl ?_
          refine S.iload (pc' := 40) dX8_spread_38 rfl rfl ?_
          refine S.bipush (pc' := 42) dX8_spread_40 rfl (by decide) ?_
          refine S.icmp_eq (pc' := 45) (tgt := 57) dX8_spread_42 (by decide) rfl (by unfold fp_rng; omega) (by unfold fp_rng; omega) (fun h42 => ?_) (fun h42 => ?_)
          · refine S.vret dX8_spread_57 rfl ?_
            first
            | (refine ⟨fun t t0 t1 => ?_, fun _ _ => rfl⟩; show M 40 t.toNat = M 40 t.toNat + (if aGv g pg x = t ∧ 0 < w then w else 0); rw [if_neg (fun q => by omega)]; omega)
            | (refine ⟨fun t t0 t1 => ?_, fun a ha => fp_up_ne (by omega)⟩
               show _ = M 40 t.toNat + (if aGv g pg x = t ∧ 0 < w then w else 0)
               rw [fp_up_at]
               by_cases e : aGv g pg x = t
               · rw [if_pos ⟨e, by omega⟩, ← e, fp_upf_at]
               · rw [if_neg (fun q => e q.1), fp_upf_ne (by omega)]; omega)
          · refine S.aload_n (pc' := 46) dX8_spread_45 rfl rfl rfl ?_
            refine S.getR (pc' := 49) dX8_spread_46 rfl fX8_31 L_34 rf_34_6 ?_
            refine S.iload (pc' := 51) dX8_spread_49 rfl rfl ?_
            refine S.dup2 (pc' := 52) dX8_spread_51 rfl rfl rfl ?_
            refine S.lald (pc' := 53) dX8_spread_52 rfl L_40 (by omega) (by omega) ?_
            refine S.lload (pc' := 55) dX8_spread_53 rfl rfl ?_
            refine S.ladd (pc' := 56) dX8_spread_55 rfl ?_
            refine S.last (pc' := 57) dX8_spread_56 rfl L_40 (by omega) (by omega) ?_
            refine S.vret dX8_spread_57 rfl ?_
            first
            | (refine ⟨fun t t0 t1 => ?_, fun _ _ => rfl⟩; show M 40 t.toNat = M 40 t.toNat + (if aGv g pg x = t ∧ 0 < w then w else 0); rw [if_neg (fun q => by omega)]; omega)
            | (refine ⟨fun t t0 t1 => ?_, fun a ha => fp_up_ne (by omega)⟩
               show _ = M 40 t.toNat + (if aGv g pg x = t ∧ 0 < w then w else 0)
               rw [fp_up_at]
               by_cases e : aGv g pg x = t
               · rw [if_pos ⟨e, by omega⟩, ← e, fp_upf_at]
               · rw [if_neg (fun q => e q.1), fp_upf_ne (by omega)]; omega)
    · refine S.vret dX8_spread_7 rfl ?_
      have hw0 : w = 0 := by omega
      subst hw0
      exact ⟨fun t t0 t1 => by rw [spS_zero]; omega, fun _ _ => rfl⟩
  | succ n ih =>
    intro i w pg M i0 hi hw hP hcl hd hv
    have w2 := pow10_le (show i.toNat ≤ 10 by omega)
    have hl1 := hv.1
    have ho := stg_o i0 (show i < 13 by omega)
    have ho1 := stg_o (show 0 ≤ i + 1 by omega) (show i + 1 < 13 by omega)
    have hP1 := aHapI_ok (i := i) hg hP hvo
    have ep : (10 : Int) ^ (i + 1).toNat = 10 ^ i.toNat * 10 := by rw [show (i + 1).toNat = i.toNat + 1 by omega]; exact Int.pow_succ 10 _
    have hmul : ∀ c : Int, 0 ≤ c → c ≤ 10 → 0 ≤ w * c ∧ w * c ≤ 10 ^ (i + 1).toNat := fun c c0 c1 => by rw [ep]; exact ⟨Int.mul_nonneg hw.1 c0, Int.mul_le_mul hw.2 c1 c0 (by omega)⟩
    have es : ∀ t, spS g vs x t (n + 1) i.toNat w pg = spS g vs x t n (i + 1).toNat (w * g.2.2.1) (aHapI g pg vs i).2 + spS g vs x t n (i + 1).toNat (w * (10 - g.2.2.1)) pg := fun t => by rw [spS, show ((i.toNat : Nat) : Int) = i by omega, show (i + 1).toNat = i.toNat + 1 by omega]
    refine fp_Ok.of (r := 1) rfl (Nat.le_of_ble_eq_true rfl) rfl ?_
    refine S.lload (pc' := 2) dX8_spread_0 rfl rfl ?_
    refine S.lconst (pc' := 3) (w := 0) dX8_spread_2 rfl rfl ?_
    refine S.lcmp (pc' := 4) dX8_spread_3 rfl (by unfold fp_lng; omega) (by unfold fp_lng; omega) ?_
    refine S.if_ne (pc' := 7) (tgt := 8) dX8_spread_4 (by decide) rfl (by unfold fp_rng; omega) (fun h4 => ?_) (fun h4 => ?_)
    · refine S.iload (pc' := 10) dX8_spread_8 rfl rfl ?_
      refine S.bipush (pc' := 12) dX8_spread_10 rfl (by decide) ?_
      refine S.icmp_ge (pc' := 15) (tgt := 24) dX8_spread_12 (by decide) rfl (by unfold fp_rng; omega) (by unfold fp_rng; omega) (fun h12 => ?_) (fun h12 => ?_)
      · exfalso; omega
      · refine S.iload (pc' := 17) dX8_spread_15 rfl rfl ?_
        refine S.aload_n (pc' := 18) dX8_spread_17 rfl rfl rfl ?_
        refine S.getI (pc' := 21) dX8_spread_18 rfl fX8_80 (vs_lay vs27) ?_
        refine S.icmp_lt (pc' := 24) (tgt := 58) dX8_spread_21 (by decide) rfl (by unfold fp_rng; omega) (by unfold fp_rng; omega) (fun h21 => ?_) (fun h21 => ?_)
        · refine S.aload_n (pc' := 59) dX8_spread_58 rfl rfl rfl ?_
          refine S.getR (pc' := 62) dX8_spread_59 rfl fX8_11 L_34 rf_34_0 ?_
          refine S.iload (pc' := 64) dX8_spread_62 rfl rfl ?_
          refine S.iconst (pc' := 65) dX8_spread_64 rfl ?_
          refine S.iadd (pc' := 66) dX8_spread_65 rfl ?_
          refine S.aald (pc' := 67) dX8_spread_66 rfl L_35 (by decide) (by decide) (by omega) (by omega) (stg_r (by omega) (by omega)) ?_
          refine S.aload_n (pc' := 68) dX8_spread_67 rfl rfl rfl ?_
          refine S.getR (pc' := 71) dX8_spread_68 rfl fX8_11 L_34 rf_34_0 ?_
          refine S.iload (pc' := 73) dX8_spread_71 rfl rfl ?_
          refine S.aald (pc' := 74) dX8_spread_73 rfl L_35 (by decide) (by decide) (by omega) (by omega) (stg_r (by omega) (by omega)) ?_
          refine S.callVv (pc' := 77) dX8_spread_74 rfl cX8_36 (rk_X5_copyFrom (g := g) (pg := pg) ho1 ho (by omega)) rfl (pl_lay (stg_o (by omega) (by omega))) (by omega) rfl (Nat.le_of_ble_eq_true rfl) (fun M74 q74 => ?_)
          obtain ⟨c1, f1⟩ := q74
          have d1 : gdIs M74 18 g := hd.kept (fun a q1 q2 => f1 a (by omega))
          have v1 : vsIs M74 27 vs := hv.kept (fun a q1 q2 => f1 a (by omega))
          refine S.aload_n (pc' := 78) dX8_spread_77 rfl rfl rfl ?_
          refine S.aload_n (pc' := 79) dX8_spread_78 rfl rfl rfl ?_
          refine S.aload_n (pc' := 80) dX8_spread_79 rfl rfl rfl ?_
          refine S.getR (pc' := 83) dX8_spread_80 rfl fX8_11 L_34 rf_34_0 ?_
          refine S.iload (pc' := 85) dX8_spread_83 rfl rfl ?_
          refine S.iconst (pc' := 86) dX8_spread_85 rfl ?_
          refine S.iadd (pc' := 87) dX8_spread_86 rfl ?_
          refine S.aald (pc' := 88) dX8_spread_87 rfl L_35 (by decide) (by decide) (by omega) (by omega) (stg_r (by omega) (by omega)) ?_
          refine S.iload (pc' := 90) dX8_spread_88 rfl rfl ?_
          refine S.callVi (pc' := 93) dX8_spread_90 rfl cX8_40 (rk_X10_happens (g := g) (pg := pg) (vs := vs) vs27 gd18 ho1) rfl (vs_lay vs27) (by omega) rfl (Nat.le_of_ble_eq_true rfl) (fun z90 M90 q90 => ?_)
          obtain ⟨z2, c2, f2⟩ := q90
          have d2 : gdIs M90 18 g := d1.kept (fun a q1 q2 => f2 a (by omega))
          have v2 : vsIs M90 27 vs := v1.kept (fun a q1 q2 => f2 a (by omega))
          refine S.pop (pc' := 94) dX8_spread_93 rfl rfl ?_
          refine S.aload_n (pc' := 95) dX8_spread_94 rfl rfl rfl ?_
          refine S.aload_n (pc' := 96) dX8_spread_95 rfl rfl rfl ?_
          refine S.aload_n (pc' := 97) dX8_spread_96 rfl rfl rfl ?_
          refine S.iload_n (pc' := 98) dX8_spread_97 rfl rfl rfl ?_
          refine S.iload (pc' := 100) dX8_spread_98 rfl rfl ?_
          refine S.iconst (pc' := 101) dX8_spread_100 rfl ?_
          refine S.iadd (pc' := 102) dX8_spread_101 rfl ?_
          refine S.lload (pc' := 104) dX8_spread_102 rfl rfl ?_
          refine S.aload_n (pc' := 105) dX8_spread_104 rfl rfl rfl ?_
          refine S.getI (pc' := 108) dX8_spread_105 rfl fX8_113 (gd_lay gd18) ?_
          rw [d2.2.2.1]
          refine S.i2l (pc' := 109) dX8_spread_108 rfl (by unfold fp_rng; omega) ?_
          refine S.lmul (pc' := 110) dX8_spread_109 rfl ?_
          refine S.callVv (pc' := 113) dX8_spread_110 rfl cX8_107 (ih (i + 1) (w * g.2.2.1) (aHapI g pg vs i).2 M90 (by omega) (by omega) (hmul _ hc.1 hc.2) hP1 c2 d2 v2) rfl L_34 (by omega) rfl (Nat.le_of_ble_eq_true rfl) (fun M110 q110 => ?_)
          obtain ⟨r3, f3⟩ := q110
          have k3 : clIs M110 (41 + 5 * i.toNat) g pg := hcl.kept (fun a q1 q2 => by rw [f3 a (by omega), f2 a (by omega), f1 a (by omega)])
          have d3 : gdIs M110 18 g := d2.kept (fun a q1 q2 => f3 a (by omega))
          have v3 : vsIs M110 27 vs := v2.kept (fun a q1 q2 => f3 a (by omega))
          refine S.aload_n (pc' := 114) dX8_spread_113 rfl rfl rfl ?_
          refine S.getR (pc' := 117) dX8_spread_114 rfl fX8_11 L_34 rf_34_0 ?_
          refine S.iload (pc' := 119) dX8_spread_117 rfl rfl ?_
          refine S.iconst (pc' := 120) dX8_spread_119 rfl ?_
          refine S.iadd (pc' := 121) dX8_spread_120 rfl ?_
          refine S.aald (pc' := 122) dX8_spread_121 rfl L_35 (by decide) (by decide) (by omega) (by omega) (stg_r (by omega) (by omega)) ?_
          refine S.aload_n (pc' := 123) dX8_spread_122 rfl rfl rfl ?_
          refine S.getR (pc' := 126) dX8_spread_123 rfl fX8_11 L_34 rf_34_0 ?_
          refine S.iload (pc' := 128) dX8_spread_126 rfl rfl ?_
          refine S.aald (pc' := 129) dX8_spread_128 rfl L_35 (by decide) (by decide) (by omega) (by omega) (stg_r (by omega) (by omega)) ?_
          refine S.callVv (pc' := 132) dX8_spread_129 rfl cX8_36 (rk_X5_copyFrom (g := g) (pg := pg) ho1 ho (by omega)) rfl (pl_lay (stg_o (by omega) (by omega))) (by omega) rfl (Nat.le_of_ble_eq_true rfl) (fun M129 q129 => ?_)
          obtain ⟨c4, f4⟩ := q129
          have d4 : gdIs M129 18 g := d3.kept (fun a q1 q2 => f4 a (by omega))
          have v4 : vsIs M129 27 vs := v3.kept (fun a q1 q2 => f4 a (by omega))
          refine S.aload_n (pc' := 133) dX8_spread_132 rfl rfl rfl ?_
          refine S.aload_n (pc' := 134) dX8_spread_133 rfl rfl rfl ?_
          refine S.aload_n (pc' := 135) dX8_spread_134 rfl rfl rfl ?_
          refine S.iload_n (pc' := 136) dX8_spread_135 rfl rfl rfl ?_
          refine S.iload (pc' := 138) dX8_spread_136 rfl rfl ?_
          refine S.iconst (pc' := 139) dX8_spread_138 rfl ?_
          refine S.iadd (pc' := 140) dX8_spread_139 rfl ?_
          refine S.lload (pc' := 142) dX8_spread_140 rfl rfl ?_
          refine S.bipush (pc' := 144) dX8_spread_142 rfl (by decide) ?_
          refine S.aload_n (pc' := 145) dX8_spread_144 rfl rfl rfl ?_
          refine S.getI (pc' := 148) dX8_spread_145 rfl fX8_113 (gd_lay gd18) ?_
          rw [d4.2.2.1]
          refine S.isub (pc' := 149) dX8_spread_148 rfl ?_
          refine S.i2l (pc' := 150) dX8_spread_149 rfl (by unfold fp_rng; omega) ?_
          refine S.lmul (pc' := 151) dX8_spread_150 rfl ?_
          refine S.callVv (pc' := 154) dX8_spread_151 rfl cX8_107 (ih (i + 1) (w * (10 - g.2.2.1)) pg M129 (by omega) (by omega) (hmul _ (by omega) (by omega)) hP c4 d4 v4) rfl L_34 (by omega) rfl (Nat.le_of_ble_eq_true rfl) (fun M151 q151 => ?_)
          refine S.vret dX8_spread_154 rfl ?_
          obtain ⟨r5, f5⟩ := q151
          refine ⟨fun t t0 t1 => ?_, fun a ha => by rw [f5 a (by omega), f4 a (by omega), f3 a (by omega), f2 a (by omega), f1 a (by omega)]⟩
          rw [r5 t t0 t1, f4 40 (by omega), r3 t t0 t1, f2 40 (by omega), f1 40 (by omega), es]
          omega
        · exfalso; omega
    · refine S.vret dX8_spread_7 rfl ?_
      have hw0 : w = 0 := by omega
      subst hw0
      exact ⟨fun t t0 t1 => by rw [spS_zero]; omega, fun _ _ => rfl⟩
theorem lfill_loop {a len : Nat} {v : Int} (ha : fp_lay a = (4, len)) (hp : 0 < len) (hv : len ≤ 1000) : ∀ (n : Nat) (i : Int) (N : fp_Mem), ((len : Int) - i).toNat < n → 0 ≤ i → i ≤ len → N = fp_upM M a (fun j => if (j : Int) < i then v else M a j) →
    fp_S l G 0 kJ7_fill_d0a16 6 [some (rV G a), some (jV v), none, some (iV i), some (iV (len : Int))] [] N (qW (fp_upM M a (fun j => if (j : Int) < len then v else M a j))) := by
  intro n
  induction n with
  | zero => intro i N h; omega
  | succ n ih =>
    intro i N h h0 h1 hN
    refine S.iload_n (pc' := 7) dJ7_fill_d0a16_6 rfl rfl rfl ?_
    refine S.iload (pc' := 9) dJ7_fill_d0a16_7 rfl rfl ?_
    refine S.icmp_ge (pc' := 12) (tgt := 22) dJ7_fill_d0a16_9 (by decide) rfl (by unfold fp_rng; omega) (by unfold fp_rng; omega) (fun h9 => ?_) (fun h9 => ?_)
    · refine S.vret dJ7_fill_d0a16_22 rfl ?_
      show N = _
      rw [hN, show i = (len : Int) by omega]
    · refine S.aload_n (pc' := 13) dJ7_fill_d0a16_12 rfl rfl rfl ?_
      refine S.iload_n (pc' := 14) dJ7_fill_d0a16_13 rfl rfl rfl ?_
      refine S.lload_n (pc' := 15) dJ7_fill_d0a16_14 rfl rfl rfl ?_
      refine S.last (pc' := 16) dJ7_fill_d0a16_15 rfl ha (by omega) (by omega) ?_
      refine S.iinc (pc' := 19) (LL' := [_, _, _, _, _]) dJ7_fill_d0a16_16 rfl (by decide) rfl rfl rfl ?_
      refine S.goto (pc' := 6) dJ7_fill_d0a16_19 (by decide) ?_
      refine ih _ _ (by omega) (by omega) (by omega) ?_
      rw [hN, fp_up_same]
      refine congrArg (fp_upM M a) (funext fun j => ?_)
      unfold fp_upf
      by_cases hj : j = i.toNat
      · rw [if_pos hj, if_pos (by omega)]
      · rw [if_neg hj]
        dsimp only
        by_cases hj2 : (j : Int) < i
        · rw [if_pos hj2, if_pos (by omega)]
        · rw [if_neg hj2, if_neg (by omega)]
theorem ok_J7_fill_d0a16 {a len : Nat} {v : Int} (ha : fp_lay a = (4, len)) (hp : 0 < len := by decide) (hv : len ≤ 1000 := by decide) : fp_Ok l G 0 kJ7_fill_d0a16 [rV G a, jV v] M (qW (fp_upM M a (fun j => if (j : Int) < len then v else M a j))) := by
  refine fp_Ok.of (r := 2) rfl (Nat.le_of_ble_eq_true rfl) rfl ?_
  refine S.iconst (pc' := 1) dJ7_fill_d0a16_0 rfl ?_
  refine S.istore_n (pc' := 2) (LL' := [_, _, _, _, _]) dJ7_fill_d0a16_1 rfl (by decide) rfl rfl rfl ?_
  refine S.aload_n (pc' := 3) dJ7_fill_d0a16_2 rfl rfl rfl ?_
  refine S.alen (pc' := 4) dJ7_fill_d0a16_3 rfl ha (by decide) rfl (by first | assumption | decide) ?_
  refine S.istore (pc' := 6) (LL' := [_, _, _, _, _]) dJ7_fill_d0a16_4 rfl (by decide) rfl rfl ?_
  refine lfill_loop ha hp hv (len + 1) 0 M (by omega) (by omega) (by omega) ?_
  rw [show (fun j : Nat => if (j : Int) < 0 then v else M a j) = M a from funext fun j => by rw [if_neg (by omega)], fp_upM_self]
theorem sh_loop {x : Int} {P : Int → fp_Mem → Prop} (hl : vs.length ≤ 10) (hv : vsIs N 27 vs) (K : P (10 ^ vs.length) N) : ∀ (r k : Nat), vs.length - k < r → k ≤ vs.length →
    fp_S l G 14 kX8_findShares 34 [some (rV G 34), some (rV G 18), some (rV G 27), some (rV G 22), some (iV x), some (jV (10 ^ k)), none, some (iV (k : Int))] [] N (qJ P) := by
  have hl1 := hv.1
  intro r
  induction r with
  | zero => intro k hr; omega
  | succ r ih =>
    intro k hr hk
    by_cases he : k < vs.length
    · refine S.iload (pc' := 36) dX8_findShares_34 rfl rfl ?_
      refine S.aload_n (pc' := 37) dX8_findShares_36 rfl rfl rfl ?_
      refine S.getI (pc' := 40) dX8_findShares_37 rfl fX8_80 (vs_lay vs27) ?_
      refine S.icmp_ge (pc' := 43) (tgt := 57) dX8_findShares_40 (by decide) rfl (by unfold fp_rng; omega) (by unfold fp_rng; omega) (fun h40 => ?_) (fun h40 => ?_)
      · exfalso; omega
      · refine S.lload (pc' := 45) dX8_findShares_43 rfl rfl ?_
        refine S.ldc2 (pc' := 48) (v := 10) dX8_findShares_45 rfl lX8_111 (by decide) ?_
        refine S.lmul (pc' := 49) dX8_findShares_48 rfl ?_
        refine S.lstore (pc' := 51) (LL' := [_, _, _, _, _, _, _, _]) dX8_findShares_49 rfl (by decide) rfl rfl (by decide) ?_
        refine S.iinc (pc' := 54) (LL' := [_, _, _, _, _, _, _, _]) dX8_findShares_51 rfl (by decide) rfl rfl rfl ?_
        refine S.goto (pc' := 34) dX8_findShares_54 (by decide) ?_
        rw [show (10 : Int) ^ k * 10 = 10 ^ (k + 1) from (Int.pow_succ 10 k).symm, show ((k : Int) + 1) = ((k + 1 : Nat) : Int) by omega]
        exact ih (k + 1) (by omega) (by omega)
    · have e : vs.length = k := by omega
      rw [e] at K
      refine S.iload (pc' := 36) dX8_findShares_34 rfl rfl ?_
      refine S.aload_n (pc' := 37) dX8_findShares_36 rfl rfl rfl ?_
      refine S.getI (pc' := 40) dX8_findShares_37 rfl fX8_80 (vs_lay vs27) ?_
      refine S.icmp_ge (pc' := 43) (tgt := 57) dX8_findShares_40 (by decide) rfl (by unfold fp_rng; omega) (by unfold fp_rng; omega) (fun h40 => ?_) (fun h40 => ?_)
      · refine S.lload (pc' := 59) dX8_findShares_57 rfl rfl ?_
        refine S.lret dX8_findShares_59 rfl ?_
        exact K
      · exfalso; omega
theorem rk_X8_findShares {x : Int} (hg : gOk g) (hP : pgOk g pg) (hvo : vsOk g vs) (hl : vs.length ≤ 10) (hx : 0 ≤ x ∧ x < g.2.1) (hcl : clIs M 22 g pg) (hd : gdIs M 18 g) (hv : vsIs M 27 vs) : fp_Ok l G 14 kX8_findShares [rV G 34, rV G 18, rV G 27, rV G 22, iV x] M (qJ fun z N => z = 10 ^ vs.length ∧ (∀ t : Int, 0 ≤ t → t < 10 → N 40 t.toNat = chF g pg vs x (2 ^ vs.length) t) ∧ frZ M N) := by
  refine fp_Ok.of (r := 3) rfl (Nat.le_of_ble_eq_true rfl) rfl ?_
  refine S.aload_n (pc' := 1) dX8_findShares_0 rfl rfl rfl ?_
  refine S.getR (pc' := 4) dX8_findShares_1 rfl fX8_11 L_34 rf_34_0 ?_
  refine S.iconst (pc' := 5) dX8_findShares_4 rfl ?_
  refine S.aald (pc' := 6) (t := 41) dX8_findShares_5 rfl L_35 (by decide) (by decide) (by omega) (by omega) (by decide +kernel) ?_
  refine S.aload_n (pc' := 7) dX8_findShares_6 rfl rfl rfl ?_
  refine S.callVv (pc' := 10) dX8_findShares_7 rfl cX8_36 (rk_X5_copyFrom (g := g) (pg := pg) pl41 pl22 (by omega)) rfl (pl_lay pl41) (by omega) rfl (Nat.le_of_ble_eq_true rfl) (fun M7 q7 => ?_)
  obtain ⟨c1, f1⟩ := q7
  refine S.aload_n (pc' := 11) dX8_findShares_10 rfl rfl rfl ?_
  refine S.getR (pc' := 14) dX8_findShares_11 rfl fX8_31 L_34 rf_34_6 ?_
  refine S.lconst (pc' := 15) (w := 0) dX8_findShares_14 rfl rfl ?_
  refine S.callSw (pc' := 18) dX8_findShares_15 rfl cX8_104 (ok_J7_fill_d0a16 L_40) rfl (by omega) rfl (Nat.le_of_ble_eq_true rfl) ?_
  have d1 : gdIs (fp_upM M7 40 (fun j => if (j : Int) < (10 : Nat) then 0 else M7 40 j)) 18 g := hd.kept (fun a q1 q2 => by rw [fp_upM_ne (by omega)]; exact f1 a (by omega))
  have v1 : vsIs (fp_upM M7 40 (fun j => if (j : Int) < (10 : Nat) then 0 else M7 40 j)) 27 vs := hv.kept (fun a q1 q2 => by rw [fp_upM_ne (by omega)]; exact f1 a (by omega))
  have c2 : clIs (fp_upM M7 40 (fun j => if (j : Int) < (10 : Nat) then 0 else M7 40 j)) 41 g pg := c1.kept (fun a q1 q2 => fp_upM_ne (by omega))
  refine S.aload_n (pc' := 19) dX8_findShares_18 rfl rfl rfl ?_
  refine S.aload_n (pc' := 20) dX8_findShares_19 rfl rfl rfl ?_
  refine S.aload_n (pc' := 21) dX8_findShares_20 rfl rfl rfl ?_
  refine S.iload (pc' := 23) dX8_findShares_21 rfl rfl ?_
  refine S.iconst (pc' := 24) dX8_findShares_23 rfl ?_
  refine S.lconst (pc' := 25) (w := 1) dX8_findShares_24 rfl rfl ?_
  refine S.callVv (pc' := 28) dX8_findShares_25 rfl cX8_107 (rk_X8_spread hg hvo hl hx vs.length 0 1 pg _ (by omega) (by omega) (by decide) hP c2 d1 v1) rfl L_34 (by omega) rfl (Nat.le_of_ble_eq_true rfl) (fun M25 q25 => ?_)
  obtain ⟨r2, f2⟩ := q25
  have v2 : vsIs M25 27 vs := v1.kept (fun a q1 q2 => f2 a (by omega))
  refine S.lconst (pc' := 29) (w := 1) dX8_findShares_28 rfl rfl ?_
  refine S.lstore (pc' := 31) (LL' := [_, _, _, _, _, _, _, _]) dX8_findShares_29 rfl (by decide) rfl rfl (by decide) ?_
  refine S.iconst (pc' := 32) dX8_findShares_31 rfl ?_
  refine S.istore (pc' := 34) (LL' := [_, _, _, _, _, _, _, _]) dX8_findShares_32 rfl (by decide) rfl rfl ?_
  refine sh_loop hl v2 ⟨rfl, fun t t0 t1 => ?_, fun a ha => ?_⟩ (vs.length + 1) 0 (by omega) (by omega)
  · rw [r2 t t0 t1, fp_upM_at, if_pos (by omega), Int.zero_add]
    exact spS_chF hg hP hvo
  · rw [f2 a (by omega), fp_upM_ne (by omega)]
    exact f1 a (by omega)
end CSH
end
section
/-! odds, likeliest: the class -/
section COD
variable {l : Launch} {G : fp_WG} {M N : fp_Mem} {tp : List Int} {fl : Int} {g : aGd} {pg : aPg} {vs : List aVt} {nt : List Int} {im : aIm} {sh : aSh} {tn : Int}
theorem cc_odds {x t b : Int} (hc : CS M tp fl g pg vs nt im sh tn) (ho : OK g pg vs nt im sh) (hxr : fp_rng x) (htr : fp_rng t) (hbr : fp_rng b) : fp_Ok l G 15 kX11_odds [rV G 0, iV x, iV t, iV b] M (qJ fun z N => z = A_odds g pg vs x t b ∧ CS N tp fl g pg vs nt im sh tn ∧ frC M N) := by
  have hcs := hc
  obtain ⟨-, hd, hcl, hv, -⟩ := hc
  obtain ⟨hg, hP, hvo, -⟩ := ho
  have hl1 := hv.1
  have hl := hv.2.1
  have hg1 := hg.1
  have hg2 := hg.2.1
  refine fp_Ok.of (r := 6) rfl (Nat.le_of_ble_eq_true rfl) rfl ?_
  unfold A_odds
  by_cases hin : ((0 ≤ x ∧ x < g.2.1) ∧ (0 ≤ t ∧ t < g.1)) ∧ (0 ≤ b ∧ b ≤ 1)
  · rw [if_pos hin]
    by_cases h10 : 10 < vs.length
    · rw [if_pos h10]
      refine S.aload_n (pc' := 1) dX11_odds_0 rfl rfl rfl ?_
      refine S.getR (pc' := 4) dX11_odds_1 rfl fX11_23 L_0 rf_0_3 ?_
      refine S.iload_n (pc' := 5) dX11_odds_4 rfl rfl rfl ?_
      refine S.callVi (pc' := 8) dX11_odds_5 rfl cX11_148 (bk_X1_hasLine gd18) rfl (gd_lay gd18) (by decide) rfl (Nat.le_of_ble_eq_true rfl) (fun z5 M5 q5 => ?_)
      obtain ⟨b5, rfl⟩ := q5
      refine S.if_eq (pc' := 11) (tgt := 30) dX11_odds_8 (by decide) rfl (by unfold fp_rng; omega) (fun h8 => ?_) (fun h8 => ?_)
      · exfalso; omega
      · refine S.aload_n (pc' := 12) dX11_odds_11 rfl rfl rfl ?_
        refine S.getR (pc' := 15) dX11_odds_12 rfl fX11_23 L_0 rf_0_3 ?_
        refine S.iload_n (pc' := 16) dX11_odds_15 rfl rfl rfl ?_
        refine S.callVi (pc' := 19) dX11_odds_16 rfl cX11_126 (bk_X1_hasThing gd18) rfl (gd_lay gd18) (by decide) rfl (Nat.le_of_ble_eq_true rfl) (fun z16 M16 q16 => ?_)
        obtain ⟨b16, rfl⟩ := q16
        refine S.if_eq (pc' := 22) (tgt := 30) dX11_odds_19 (by decide) rfl (by unfold fp_rng; omega) (fun h19 => ?_) (fun h19 => ?_)
        · exfalso; omega
        · refine S.iload_n (pc' := 23) dX11_odds_22 rfl rfl rfl ?_
          refine S.iconst (pc' := 24) dX11_odds_23 rfl ?_
          refine S.callSi (pc' := 27) dX11_odds_24 rfl cX11_221 (bk_X11_isWithin) rfl (by decide) rfl (Nat.le_of_ble_eq_true rfl) (fun z24 M24 q24 => ?_)
          obtain ⟨b24, rfl⟩ := q24
          refine S.if_ne (pc' := 30) (tgt := 34) dX11_odds_27 (by decide) rfl (by unfold fp_rng; omega) (fun h27 => ?_) (fun h27 => ?_)
          · refine S.aload_n (pc' := 35) dX11_odds_34 rfl rfl rfl ?_
            refine S.getR (pc' := 38) dX11_odds_35 rfl fX11_37 L_0 rf_0_5 ?_
            refine S.getI (pc' := 41) dX11_odds_38 rfl fX11_205 (vs_lay vs27) ?_
            refine S.bipush (pc' := 43) dX11_odds_41 rfl (by decide) ?_
            refine S.icmp_le (pc' := 46) (tgt := 50) dX11_odds_43 (by decide) rfl (by unfold fp_rng; omega) (by unfold fp_rng; omega) (fun h43 => ?_) (fun h43 => ?_)
            · exfalso; omega
            · refine S.ldc2 (pc' := 49) (v := -2) dX11_odds_46 rfl lX11_254 (by decide) ?_
              refine S.lret dX11_odds_49 rfl ?_
              exact ⟨rfl, hcs, frC.refl _⟩
          · exfalso; omega
    · rw [if_neg h10]
      have hF := (chF_in (x := x) hg hP hvo (by omega) t (2 ^ vs.length)).1
      have hW := chF_whole (x := x) (t := t) hg hP hvo
      have hp10 := pow10_le (show vs.length ≤ 10 by omega)
      have hp0 : (0 : Int) < 10 ^ vs.length := Int.pow_pos (by decide)
      have hT : ∃ T, 2 ^ vs.length = T := ⟨_, rfl⟩
      obtain ⟨T, hT⟩ := hT
      rw [hT] at hF hW ⊢
      have eF : ∃ F, chF g pg vs x T t = F := ⟨_, rfl⟩
      obtain ⟨F, eF⟩ := eF
      have ew : ∃ W, (10 : Int) ^ vs.length = W := ⟨_, rfl⟩
      obtain ⟨W, ew⟩ := ew
      rw [eF] at hF hW ⊢
      rw [ew] at hW hp10 hp0 ⊢
      rw [Nat.gcd_comm F.toNat W.toNat]
      have hD : 0 < ((Nat.gcd W.toNat F.toNat : Nat) : Int) ∧ ((Nat.gcd W.toNat F.toNat : Nat) : Int) ≤ W := by
        have a1 : 0 < Nat.gcd W.toNat F.toNat := Nat.gcd_pos_of_pos_left _ (by omega)
        have a2 : Nat.gcd W.toNat F.toNat ≤ W.toNat := Nat.gcd_le_left _ (by omega)
        omega
      refine S.aload_n (pc' := 1) dX11_odds_0 rfl rfl rfl ?_
      refine S.getR (pc' := 4) dX11_odds_1 rfl fX11_23 L_0 rf_0_3 ?_
      refine S.iload_n (pc' := 5) dX11_odds_4 rfl rfl rfl ?_
      refine S.callVi (pc' := 8) dX11_odds_5 rfl cX11_148 (bk_X1_hasLine gd18) rfl (gd_lay gd18) (by decide) rfl (Nat.le_of_ble_eq_true rfl) (fun z5 M5 q5 => ?_)
      obtain ⟨b5, rfl⟩ := q5
      refine S.if_eq (pc' := 11) (tgt := 30) dX11_odds_8 (by decide) rfl (by unfold fp_rng; omega) (fun h8 => ?_) (fun h8 => ?_)
      · exfalso; omega
      · refine S.aload_n (pc' := 12) dX11_odds_11 rfl rfl rfl ?_
        refine S.getR (pc' := 15) dX11_odds_12 rfl fX11_23 L_0 rf_0_3 ?_
        refine S.iload_n (pc' := 16) dX11_odds_15 rfl rfl rfl ?_
        refine S.callVi (pc' := 19) dX11_odds_16 rfl cX11_126 (bk_X1_hasThing gd18) rfl (gd_lay gd18) (by decide) rfl (Nat.le_of_ble_eq_true rfl) (fun z16 M16 q16 => ?_)
        obtain ⟨b16, rfl⟩ := q16
        refine S.if_eq (pc' := 22) (tgt := 30) dX11_odds_19 (by decide) rfl (by unfold fp_rng; omega) (fun h19 => ?_) (fun h19 => ?_)
        · exfalso; omega
        · refine S.iload_n (pc' := 23) dX11_odds_22 rfl rfl rfl ?_
          refine S.iconst (pc' := 24) dX11_odds_23 rfl ?_
          refine S.callSi (pc' := 27) dX11_odds_24 rfl cX11_221 (bk_X11_isWithin) rfl (by decide) rfl (Nat.le_of_ble_eq_true rfl) (fun z24 M24 q24 => ?_)
          obtain ⟨b24, rfl⟩ := q24
          refine S.if_ne (pc' := 30) (tgt := 34) dX11_odds_27 (by decide) rfl (by unfold fp_rng; omega) (fun h27 => ?_) (fun h27 => ?_)
          · refine S.aload_n (pc' := 35) dX11_odds_34 rfl rfl rfl ?_
            refine S.getR (pc' := 38) dX11_odds_35 rfl fX11_37 L_0 rf_0_5 ?_
            refine S.getI (pc' := 41) dX11_odds_38 rfl fX11_205 (vs_lay vs27) ?_
            refine S.bipush (pc' := 43) dX11_odds_41 rfl (by decide) ?_
            refine S.icmp_le (pc' := 46) (tgt := 50) dX11_odds_43 (by decide) rfl (by unfold fp_rng; omega) (by unfold fp_rng; omega) (fun h43 => ?_) (fun h43 => ?_)
            · refine S.aload_n (pc' := 51) dX11_odds_50 rfl rfl rfl ?_
              refine S.getR (pc' := 54) dX11_odds_51 rfl fX11_51 L_0 rf_0_7 ?_
              refine S.aload_n (pc' := 55) dX11_odds_54 rfl rfl rfl ?_
              refine S.getR (pc' := 58) dX11_odds_55 rfl fX11_23 L_0 rf_0_3 ?_
              refine S.aload_n (pc' := 59) dX11_odds_58 rfl rfl rfl ?_
              refine S.getR (pc' := 62) dX11_odds_59 rfl fX11_37 L_0 rf_0_5 ?_
              refine S.aload_n (pc' := 63) dX11_odds_62 rfl rfl rfl ?_
              refine S.getR (pc' := 66) dX11_odds_63 rfl fX11_30 L_0 rf_0_4 ?_
              refine S.iload_n (pc' := 67) dX11_odds_66 rfl rfl rfl ?_
              refine S.callVj (pc' := 70) dX11_odds_67 rfl cX11_256 (rk_X8_findShares hg hP hvo (by omega) hin.1.1 hcl hd hv) rfl L_34 (by decide) rfl (Nat.le_of_ble_eq_true rfl) (fun z67 M67 q67 => ?_)
              obtain ⟨e1, r1, f1⟩ := q67
              rw [ew] at e1
              subst e1
              refine S.lstore (pc' := 72) (LL' := [_, _, _, _, _, _, _, _, _, _]) dX11_odds_70 rfl (by decide) rfl rfl (by decide) ?_
              refine S.aload_n (pc' := 73) dX11_odds_72 rfl rfl rfl ?_
              refine S.getR (pc' := 76) dX11_odds_73 rfl fX11_51 L_0 rf_0_7 ?_
              refine S.getR (pc' := 79) dX11_odds_76 rfl fX11_260 L_34 rf_34_6 ?_
              refine S.iload_n (pc' := 80) dX11_odds_79 rfl rfl rfl ?_
              refine S.lald (pc' := 81) dX11_odds_80 rfl L_40 (by omega) (by omega) ?_
              rw [r1 t (by omega) (by omega), hT, eF]
              refine S.lstore (pc' := 83) (LL' := [_, _, _, _, _, _, _, _, _, _]) dX11_odds_81 rfl (by decide) rfl rfl (by decide) ?_
              refine S.lload (pc' := 85) dX11_odds_83 rfl rfl ?_
              refine S.lload (pc' := 87) dX11_odds_85 rfl rfl ?_
              refine S.callSj (pc' := 90) dX11_odds_87 rfl cX11_264 (rk_X11_greatestDivisor (by omega) (by omega)) rfl (by decide) rfl (Nat.le_of_ble_eq_true rfl) (fun z87 M87 q87 => ?_)
              obtain ⟨rfl, rfl⟩ := q87
              refine S.lstore (pc' := 92) (LL' := [_, _, _, _, _, _, _, _, _, _]) dX11_odds_90 rfl (by decide) rfl rfl (by decide) ?_
              refine S.lload (pc' := 94) dX11_odds_92 rfl rfl ?_
              refine S.lconst (pc' := 95) (w := 0) dX11_odds_94 rfl rfl ?_
              refine S.lcmp (pc' := 96) dX11_odds_95 rfl (by unfold fp_lng; omega) (by unfold fp_lng; omega) ?_
              refine S.if_gt (pc' := 99) (tgt := 103) dX11_odds_96 (by decide) rfl (by unfold fp_rng; omega) (fun h96 => ?_) (fun h96 => ?_)
              · refine S.iload_n (pc' := 104) dX11_odds_103 rfl rfl rfl ?_
                refine S.if_ne (pc' := 107) (tgt := 115) dX11_odds_104 (by decide) rfl (by unfold fp_rng; omega) (fun h104 => ?_) (fun h104 => ?_)
                · refine S.lload (pc' := 117) dX11_odds_115 rfl rfl ?_
                  refine S.lload (pc' := 119) dX11_odds_117 rfl rfl ?_
                  refine S.ldiv (pc' := 120) dX11_odds_119 rfl (fp_jne (by omega)) (fp_jdiv (by omega) (by omega)) ?_
                  refine S.lret dX11_odds_120 rfl ?_
                  first
                  | exact ⟨by rw [if_pos (by omega)], hcs.scz f1, f1.c⟩
                  | exact ⟨by rw [if_neg (by omega)], hcs.scz f1, f1.c⟩
                · refine S.lload (pc' := 109) dX11_odds_107 rfl rfl ?_
                  refine S.lload (pc' := 111) dX11_odds_109 rfl rfl ?_
                  refine S.ldiv (pc' := 112) dX11_odds_111 rfl (fp_jne (by omega)) (fp_jdiv (by omega) (by omega)) ?_
                  refine S.goto (pc' := 120) dX11_odds_112 (by decide) ?_
                  refine S.lret dX11_odds_120 rfl ?_
                  first
                  | exact ⟨by rw [if_pos (by omega)], hcs.scz f1, f1.c⟩
                  | exact ⟨by rw [if_neg (by omega)], hcs.scz f1, f1.c⟩
              · exfalso; omega
            · exfalso; omega
          · exfalso; omega
  · rw [if_neg hin]
    refine S.aload_n (pc' := 1) dX11_odds_0 rfl rfl rfl ?_
    refine S.getR (pc' := 4) dX11_odds_1 rfl fX11_23 L_0 rf_0_3 ?_
    refine S.iload_n (pc' := 5) dX11_odds_4 rfl rfl rfl ?_
    refine S.callVi (pc' := 8) dX11_odds_5 rfl cX11_148 (bk_X1_hasLine gd18) rfl (gd_lay gd18) (by decide) rfl (Nat.le_of_ble_eq_true rfl) (fun z5 M5 q5 => ?_)
    obtain ⟨b5, rfl⟩ := q5
    refine S.if_eq (pc' := 11) (tgt := 30) dX11_odds_8 (by decide) rfl (by unfold fp_rng; omega) (fun h8 => ?_) (fun h8 => ?_)
    · refine S.ldc2 (pc' := 33) (v := -1) dX11_odds_30 rfl lX11_252 (by decide) ?_
      refine S.lret dX11_odds_33 rfl ?_
      exact ⟨rfl, hcs, frC.refl _⟩
    · refine S.aload_n (pc' := 12) dX11_odds_11 rfl rfl rfl ?_
      refine S.getR (pc' := 15) dX11_odds_12 rfl fX11_23 L_0 rf_0_3 ?_
      refine S.iload_n (pc' := 16) dX11_odds_15 rfl rfl rfl ?_
      refine S.callVi (pc' := 19) dX11_odds_16 rfl cX11_126 (bk_X1_hasThing gd18) rfl (gd_lay gd18) (by decide) rfl (Nat.le_of_ble_eq_true rfl) (fun z16 M16 q16 => ?_)
      obtain ⟨b16, rfl⟩ := q16
      refine S.if_eq (pc' := 22) (tgt := 30) dX11_odds_19 (by decide) rfl (by unfold fp_rng; omega) (fun h19 => ?_) (fun h19 => ?_)
      · refine S.ldc2 (pc' := 33) (v := -1) dX11_odds_30 rfl lX11_252 (by decide) ?_
        refine S.lret dX11_odds_33 rfl ?_
        exact ⟨rfl, hcs, frC.refl _⟩
      · refine S.iload_n (pc' := 23) dX11_odds_22 rfl rfl rfl ?_
        refine S.iconst (pc' := 24) dX11_odds_23 rfl ?_
        refine S.callSi (pc' := 27) dX11_odds_24 rfl cX11_221 (bk_X11_isWithin) rfl (by decide) rfl (Nat.le_of_ble_eq_true rfl) (fun z24 M24 q24 => ?_)
        obtain ⟨b24, rfl⟩ := q24
        refine S.if_ne (pc' := 30) (tgt := 34) dX11_odds_27 (by decide) rfl (by unfold fp_rng; omega) (fun h27 => ?_) (fun h27 => ?_)
        · exfalso; omega
        · refine S.ldc2 (pc' := 33) (v := -1) dX11_odds_30 rfl lX11_252 (by decide) ?_
          refine S.lret dX11_odds_33 rfl ?_
          exact ⟨rfl, hcs, frC.refl _⟩
theorem clk_loop {x : Int} {F : Int → Int} (hF : ∀ t : Int, 0 ≤ t → t < 10 → M 40 t.toNat = F t ∧ 0 ≤ F t ∧ F t ≤ 10240000000000) (h4 : M 18 0 = g.1) (hg : 0 ≤ g.1 ∧ g.1 ≤ 10) : ∀ (r k : Nat), g.1.toNat - k < r → (k : Int) ≤ g.1 →
    fp_S l G 15 kX11_likeliest 58 [some (rV G 0), some (iV x), some (jV (if lkI F k = -4 then 0 else F (lkI F k))), none, some (iV (lkI F k)), some (iV (k : Int))] [] M (qI fun z N => z = lkI F g.1.toNat ∧ N = M) := by
  intro r
  induction r with
  | zero => intro k hr; omega
  | succ r ih =>
    intro k hr hk
    have hin := lkI_in F k
    by_cases he : (k : Int) < g.1
    · obtain ⟨f1, f2, f3⟩ := hF k (by omega) (by omega)
      have hgr : 0 ≤ (if lkI F k = -4 then 0 else F (lkI F k)) ∧ (if lkI F k = -4 then 0 else F (lkI F k)) ≤ 10240000000000 := by
        by_cases e : lkI F k = -4
        · rw [if_pos e]; omega
        · rw [if_neg e]
          have := hF (lkI F k) (by omega) (by omega)
          omega
      have hs1 : lkI F (k + 1) = if (if lkI F k = -4 then 0 else F (lkI F k)) < F k then (k : Int) else lkI F k := rfl
      have hi := ih (k + 1) (by omega) (by omega)
      have hgg : ∃ gr, (if lkI F k = -4 then 0 else F (lkI F k)) = gr := ⟨_, rfl⟩
      obtain ⟨gr, hgg⟩ := hgg
      rw [hgg] at hgr hs1 ⊢
      by_cases hb : gr < F k
      · rw [if_pos hb] at hs1
        rw [hs1, if_neg (show ¬ (k : Int) = -4 by omega)] at hi
        have h100 : fp_S l G 15 kX11_likeliest 100 [some (rV G 0), some (iV x), some (jV (F k)), none, some (iV (k : Int)), some (iV (k : Int))] [] M (qI fun z N => z = lkI F g.1.toNat ∧ N = M) := by
          refine S.iinc (pc' := 103) (LL' := [_, _, _, _, _, _]) dX11_likeliest_100 rfl (by decide) rfl rfl rfl ?_
          refine S.goto (pc' := 58) dX11_likeliest_103 (by decide) ?_
          rw [show ((k : Int) + 1) = ((k + 1 : Nat) : Int) by omega]
          exact hi
        refine S.iload (pc' := 60) dX11_likeliest_58 rfl rfl ?_
        refine S.aload_n (pc' := 61) dX11_likeliest_60 rfl rfl rfl ?_
        refine S.getR (pc' := 64) dX11_likeliest_61 rfl fX11_23 L_0 rf_0_3 ?_
        refine S.getI (pc' := 67) dX11_likeliest_64 rfl fX11_268 (gd_lay gd18) ?_
        rw [h4]
        refine S.icmp_ge (pc' := 70) (tgt := 106) dX11_likeliest_67 (by decide) rfl (by unfold fp_rng; omega) (by unfold fp_rng; omega) (fun h67 => ?_) (fun h67 => ?_)
        · exfalso; omega
        · refine S.aload_n (pc' := 71) dX11_likeliest_70 rfl rfl rfl ?_
          refine S.getR (pc' := 74) dX11_likeliest_71 rfl fX11_51 L_0 rf_0_7 ?_
          refine S.getR (pc' := 77) dX11_likeliest_74 rfl fX11_260 L_34 rf_34_6 ?_
          refine S.iload (pc' := 79) dX11_likeliest_77 rfl rfl ?_
          refine S.lald (pc' := 80) dX11_likeliest_79 rfl L_40 (by omega) (by omega) ?_
          rw [f1]
          refine S.lload_n (pc' := 81) dX11_likeliest_80 rfl rfl rfl ?_
          refine S.lcmp (pc' := 82) dX11_likeliest_81 rfl (by unfold fp_lng; omega) (by unfold fp_lng; omega) ?_
          refine S.if_le (pc' := 85) (tgt := 100) dX11_likeliest_82 (by decide) rfl (by unfold fp_rng; omega) (fun h82 => ?_) (fun h82 => ?_)
          · first
            | (exfalso; omega)
            | exact h100
          · refine S.aload_n (pc' := 86) dX11_likeliest_85 rfl rfl rfl ?_
            refine S.getR (pc' := 89) dX11_likeliest_86 rfl fX11_51 L_0 rf_0_7 ?_
            refine S.getR (pc' := 92) dX11_likeliest_89 rfl fX11_260 L_34 rf_34_6 ?_
            refine S.iload (pc' := 94) dX11_likeliest_92 rfl rfl ?_
            refine S.lald (pc' := 95) dX11_likeliest_94 rfl L_40 (by omega) (by omega) ?_
            rw [f1]
            refine S.lstore_n (pc' := 96) (LL' := [_, _, _, _, _, _]) dX11_likeliest_95 rfl (by decide) rfl rfl rfl (by decide) ?_
            refine S.iload (pc' := 98) dX11_likeliest_96 rfl rfl ?_
            refine S.istore (pc' := 100) (LL' := [_, _, _, _, _, _]) dX11_likeliest_98 rfl (by decide) rfl rfl ?_
            first
            | (exfalso; omega)
            | exact h100
      · rw [if_neg hb] at hs1
        rw [hs1, hgg] at hi
        refine S.iload (pc' := 60) dX11_likeliest_58 rfl rfl ?_
        refine S.aload_n (pc' := 61) dX11_likeliest_60 rfl rfl rfl ?_
        refine S.getR (pc' := 64) dX11_likeliest_61 rfl fX11_23 L_0 rf_0_3 ?_
        refine S.getI (pc' := 67) dX11_likeliest_64 rfl fX11_268 (gd_lay gd18) ?_
        rw [h4]
        refine S.icmp_ge (pc' := 70) (tgt := 106) dX11_likeliest_67 (by decide) rfl (by unfold fp_rng; omega) (by unfold fp_rng; omega) (fun h67 => ?_) (fun h67 => ?_)
        · exfalso; omega
        · refine S.aload_n (pc' := 71) dX11_likeliest_70 rfl rfl rfl ?_
          refine S.getR (pc' := 74) dX11_likeliest_71 rfl fX11_51 L_0 rf_0_7 ?_
          refine S.getR (pc' := 77) dX11_likeliest_74 rfl fX11_260 L_34 rf_34_6 ?_
          refine S.iload (pc' := 79) dX11_likeliest_77 rfl rfl ?_
          refine S.lald (pc' := 80) dX11_likeliest_79 rfl L_40 (by omega) (by omega) ?_
          rw [f1]
          refine S.lload_n (pc' := 81) dX11_likeliest_80 rfl rfl rfl ?_
          refine S.lcmp (pc' := 82) dX11_likeliest_81 rfl (by unfold fp_lng; omega) (by unfold fp_lng; omega) ?_
          refine S.if_le (pc' := 85) (tgt := 100) dX11_likeliest_82 (by decide) rfl (by unfold fp_rng; omega) (fun h82 => ?_) (fun h82 => ?_)
          · refine S.iinc (pc' := 103) (LL' := [_, _, _, _, _, _]) dX11_likeliest_100 rfl (by decide) rfl rfl rfl ?_
            refine S.goto (pc' := 58) dX11_likeliest_103 (by decide) ?_
            rw [show ((k : Int) + 1) = ((k + 1 : Nat) : Int) by omega]
            exact hi
          · exfalso; omega
    · have e : g.1.toNat = k := by omega
      rw [e]
      refine S.iload (pc' := 60) dX11_likeliest_58 rfl rfl ?_
      refine S.aload_n (pc' := 61) dX11_likeliest_60 rfl rfl rfl ?_
      refine S.getR (pc' := 64) dX11_likeliest_61 rfl fX11_23 L_0 rf_0_3 ?_
      refine S.getI (pc' := 67) dX11_likeliest_64 rfl fX11_268 (gd_lay gd18) ?_
      rw [h4]
      refine S.icmp_ge (pc' := 70) (tgt := 106) dX11_likeliest_67 (by decide) rfl (by unfold fp_rng; omega) (by unfold fp_rng; omega) (fun h67 => ?_) (fun h67 => ?_)
      · refine S.iload (pc' := 108) dX11_likeliest_106 rfl rfl ?_
        refine S.iret dX11_likeliest_108 rfl ?_
        exact ⟨rfl, rfl⟩
      · exfalso; omega
theorem cc_likeliest {x : Int} (hc : CS M tp fl g pg vs nt im sh tn) (ho : OK g pg vs nt im sh) (hxr : fp_rng x) : fp_Ok l G 15 kX11_likeliest [rV G 0, iV x] M (qI fun z N => z = A_likeliest g pg vs x ∧ CS N tp fl g pg vs nt im sh tn ∧ frC M N) := by
  have hcs := hc
  obtain ⟨-, hd, hcl, hv, -⟩ := hc
  obtain ⟨hg, hP, hvo, -⟩ := ho
  have hl1 := hv.1
  have hl := hv.2.1
  have hg1 := hg.1
  have hg2 := hg.2.1
  refine fp_Ok.of (r := 4) rfl (Nat.le_of_ble_eq_true rfl) rfl ?_
  unfold A_likeliest
  by_cases hx : 0 ≤ x ∧ x < g.2.1
  · rw [if_pos hx]
    by_cases h10 : 10 < vs.length
    · rw [if_pos h10]
      refine S.aload_n (pc' := 1) dX11_likeliest_0 rfl rfl rfl ?_
      refine S.getR (pc' := 4) dX11_likeliest_1 rfl fX11_23 L_0 rf_0_3 ?_
      refine S.iload_n (pc' := 5) dX11_likeliest_4 rfl rfl rfl ?_
      refine S.callVi (pc' := 8) dX11_likeliest_5 rfl cX11_148 (bk_X1_hasLine gd18) rfl (gd_lay gd18) (by decide) rfl (Nat.le_of_ble_eq_true rfl) (fun z5 M5 q5 => ?_)
      obtain ⟨b5, rfl⟩ := q5
      refine S.if_ne (pc' := 11) (tgt := 13) dX11_likeliest_8 (by decide) rfl (by unfold fp_rng; omega) (fun h8 => ?_) (fun h8 => ?_)
      · refine S.aload_n (pc' := 14) dX11_likeliest_13 rfl rfl rfl ?_
        refine S.getR (pc' := 17) dX11_likeliest_14 rfl fX11_37 L_0 rf_0_5 ?_
        refine S.getI (pc' := 20) dX11_likeliest_17 rfl fX11_205 (vs_lay vs27) ?_
        refine S.bipush (pc' := 22) dX11_likeliest_20 rfl (by decide) ?_
        refine S.icmp_le (pc' := 25) (tgt := 28) dX11_likeliest_22 (by decide) rfl (by unfold fp_rng; omega) (by unfold fp_rng; omega) (fun h22 => ?_) (fun h22 => ?_)
        · exfalso; omega
        · refine S.bipush (pc' := 27) dX11_likeliest_25 rfl (by decide) ?_
          refine S.iret dX11_likeliest_27 rfl ?_
          exact ⟨rfl, hcs, frC.refl _⟩
      · exfalso; omega
    · rw [if_neg h10]
      have hF := fun t => chF_in (x := x) hg hP hvo (by omega) t (2 ^ vs.length)
      have h1024 : ((2 ^ vs.length : Nat) : Int) ≤ 1024 := by
        have q : ∀ n : Nat, n < 11 → ((2 ^ n : Nat) : Int) ≤ 1024 := by decide +kernel
        exact q _ (by omega)
      have hT : ∃ T, 2 ^ vs.length = T := ⟨_, rfl⟩
      obtain ⟨T, hT⟩ := hT
      rw [hT] at h1024 hF ⊢
      refine S.aload_n (pc' := 1) dX11_likeliest_0 rfl rfl rfl ?_
      refine S.getR (pc' := 4) dX11_likeliest_1 rfl fX11_23 L_0 rf_0_3 ?_
      refine S.iload_n (pc' := 5) dX11_likeliest_4 rfl rfl rfl ?_
      refine S.callVi (pc' := 8) dX11_likeliest_5 rfl cX11_148 (bk_X1_hasLine gd18) rfl (gd_lay gd18) (by decide) rfl (Nat.le_of_ble_eq_true rfl) (fun z5 M5 q5 => ?_)
      obtain ⟨b5, rfl⟩ := q5
      refine S.if_ne (pc' := 11) (tgt := 13) dX11_likeliest_8 (by decide) rfl (by unfold fp_rng; omega) (fun h8 => ?_) (fun h8 => ?_)
      · refine S.aload_n (pc' := 14) dX11_likeliest_13 rfl rfl rfl ?_
        refine S.getR (pc' := 17) dX11_likeliest_14 rfl fX11_37 L_0 rf_0_5 ?_
        refine S.getI (pc' := 20) dX11_likeliest_17 rfl fX11_205 (vs_lay vs27) ?_
        refine S.bipush (pc' := 22) dX11_likeliest_20 rfl (by decide) ?_
        refine S.icmp_le (pc' := 25) (tgt := 28) dX11_likeliest_22 (by decide) rfl (by unfold fp_rng; omega) (by unfold fp_rng; omega) (fun h22 => ?_) (fun h22 => ?_)
        · refine S.aload_n (pc' := 29) dX11_likeliest_28 rfl rfl rfl ?_
          refine S.getR (pc' := 32) dX11_likeliest_29 rfl fX11_51 L_0 rf_0_7 ?_
          refine S.aload_n (pc' := 33) dX11_likeliest_32 rfl rfl rfl ?_
          refine S.getR (pc' := 36) dX11_likeliest_33 rfl fX11_23 L_0 rf_0_3 ?_
          refine S.aload_n (pc' := 37) dX11_likeliest_36 rfl rfl rfl ?_
          refine S.getR (pc' := 40) dX11_likeliest_37 rfl fX11_37 L_0 rf_0_5 ?_
          refine S.aload_n (pc' := 41) dX11_likeliest_40 rfl rfl rfl ?_
          refine S.getR (pc' := 44) dX11_likeliest_41 rfl fX11_30 L_0 rf_0_4 ?_
          refine S.iload_n (pc' := 45) dX11_likeliest_44 rfl rfl rfl ?_
          refine S.callVj (pc' := 48) dX11_likeliest_45 rfl cX11_256 (rk_X8_findShares hg hP hvo (by omega) hx hcl hd hv) rfl L_34 (by decide) rfl (Nat.le_of_ble_eq_true rfl) (fun z45 M45 q45 => ?_)
          obtain ⟨e1, r1, f1⟩ := q45
          refine S.pop2l (pc' := 49) dX11_likeliest_48 rfl rfl ?_
          refine S.lconst (pc' := 50) (w := 0) dX11_likeliest_49 rfl rfl ?_
          refine S.lstore_n (pc' := 51) (LL' := [_, _, _, _, _, _]) dX11_likeliest_50 rfl (by decide) rfl rfl rfl (by decide) ?_
          refine S.bipush (pc' := 53) dX11_likeliest_51 rfl (by decide) ?_
          refine S.istore (pc' := 55) (LL' := [_, _, _, _, _, _]) dX11_likeliest_53 rfl (by decide) rfl rfl ?_
          refine S.iconst (pc' := 56) dX11_likeliest_55 rfl ?_
          refine S.istore (pc' := 58) (LL' := [_, _, _, _, _, _]) dX11_likeliest_56 rfl (by decide) rfl rfl ?_
          refine fp_S.wI (clk_loop (F := chF g pg vs x T) (g := g) (fun t t0 t1 => ⟨by rw [r1 t t0 t1, hT], (hF t).1, by have := (hF t).2; omega⟩) (by rw [f1 18 (by omega)]; exact hd.1) hg1 11 0 (by omega) (by omega)) (fun z N q => ?_)
          obtain ⟨rfl, rfl⟩ := q
          exact ⟨rfl, hcs.scz f1, f1.c⟩
        · exfalso; omega
      · exfalso; omega
  · rw [if_neg hx]
    refine S.aload_n (pc' := 1) dX11_likeliest_0 rfl rfl rfl ?_
    refine S.getR (pc' := 4) dX11_likeliest_1 rfl fX11_23 L_0 rf_0_3 ?_
    refine S.iload_n (pc' := 5) dX11_likeliest_4 rfl rfl rfl ?_
    refine S.callVi (pc' := 8) dX11_likeliest_5 rfl cX11_148 (bk_X1_hasLine gd18) rfl (gd_lay gd18) (by decide) rfl (Nat.le_of_ble_eq_true rfl) (fun z5 M5 q5 => ?_)
    obtain ⟨b5, rfl⟩ := q5
    refine S.if_ne (pc' := 11) (tgt := 13) dX11_likeliest_8 (by decide) rfl (by unfold fp_rng; omega) (fun h8 => ?_) (fun h8 => ?_)
    · exfalso; omega
    · refine S.iconst (pc' := 12) dX11_likeliest_11 rfl ?_
      refine S.iret dX11_likeliest_12 rfl ?_
      exact ⟨rfl, hcs, frC.refl _⟩
end COD
end
section
/-! most: the class; all ways of his draws in the order of their lines, the first greatest kept -/
def foldL {β : Type} (f : Int → β → β) : Nat → β → β
  | 0, b => b
  | m + 1, b => f (m : Int) (foldL f m b)
abbrev moT : Type := Int × (Int → Int)
def moU (w : Int) (c : Int → Int) (b : moT) : moT := if b.1 < w then (w, c) else b
def moC (g : aGd) (vs : List aVt) (p : Int) : Nat → Nat → aPg → (Int → Int) → moT → moT
  | 0, _, pg, c, b => moU (aWorth g pg p) c b
  | n + 1, k, pg, c, b => if aOwn vs p (k : Int) = true then foldL (fun x b => moC g vs p n (k + 1) (aDraw g pg p x) (fp_ui c (k : Int) x) b) g.2.1.toNat b else moC g vs p n (k + 1) (aHapI g pg vs (k : Int)).2 (fp_ui c (k : Int) (-4)) b
theorem moC_own {g : aGd} {vs : List aVt} {p : Int} {n k : Nat} {pg : aPg} {c : Int → Int} {b : moT} (h : aOwn vs p (k : Int) = true) : moC g vs p (n + 1) k pg c b = foldL (fun x b => moC g vs p n (k + 1) (aDraw g pg p x) (fp_ui c (k : Int) x) b) g.2.1.toNat b := by rw [moC, if_pos h]
theorem moC_else {g : aGd} {vs : List aVt} {p : Int} {n k : Nat} {pg : aPg} {c : Int → Int} {b : moT} (h : ¬ aOwn vs p (k : Int) = true) : moC g vs p (n + 1) k pg c b = moC g vs p n (k + 1) (aHapI g pg vs (k : Int)).2 (fp_ui c (k : Int) (-4)) b := by rw [moC, if_neg h]
theorem fp_sum_in {f : Int → Int} {B : Int} : ∀ n : Nat, (∀ t : Int, 0 ≤ t → t < n → 0 ≤ f t ∧ f t ≤ B) → 0 ≤ fp_sum f n ∧ fp_sum f n ≤ n * B
  | 0, _ => by show (0 : Int) ≤ 0 ∧ (0 : Int) ≤ ((0 : Nat) : Int) * B; rw [Int.natCast_zero, Int.zero_mul]; omega
  | n + 1, h => by
    have ih := fp_sum_in n (fun t t0 t1 => h t t0 (by omega))
    have := h n (by omega) (by omega)
    unfold fp_sum
    rw [Int.natCast_add, Int.add_mul]
    omega
theorem aWorth_in {g : aGd} {pg : aPg} {p : Int} (hg : gOk g) (hp : 0 ≤ p ∧ p < 4) : 0 ≤ aWorth g pg p ∧ aWorth g pg p ≤ 200 := by
  have hg1 := hg.1
  have h := fp_sum_in (f := fun t => if pg.1 t = p then g.2.2.2.2.1 t p else 0) (B := 20) g.1.toNat (fun t t0 t1 => by
    have := hg.2.2.2.2.1 t p t0 (by omega) hp.1 hp.2
    split <;> omega)
  unfold aWorth
  omega
theorem foldL_ind {β : Type} {f : Int → β → β} {P : β → Prop} : ∀ m : Nat, (∀ (x : Int) b, 0 ≤ x → x < (m : Int) → P b → P (f x b)) → ∀ b, P b → P (foldL f m b)
  | 0, _, b, hb => hb
  | m + 1, h, b, hb => h m _ (by omega) (by omega) (foldL_ind m (fun x b x0 x1 => h x b x0 (by omega)) b hb)
theorem moC_in {g : aGd} {vs : List aVt} {p : Int} (hg : gOk g) (hp : 0 ≤ p ∧ p < 4) : ∀ (n k : Nat) (pg : aPg) (c : Int → Int) (b : moT), (-4 ≤ b.1 ∧ b.1 ≤ 200) → -4 ≤ (moC g vs p n k pg c b).1 ∧ (moC g vs p n k pg c b).1 ≤ 200
  | 0, k, pg, c, b, h => by
    have := aWorth_in (pg := pg) hg hp
    unfold moC moU
    split
    · show -4 ≤ aWorth g pg p ∧ aWorth g pg p ≤ 200; omega
    · exact h
  | n + 1, k, pg, c, b, h => by
    unfold moC
    split
    · exact foldL_ind (P := fun b : moT => -4 ≤ b.1 ∧ b.1 ≤ 200) _ (fun x b _ _ hb => moC_in hg hp n (k + 1) _ _ b hb) b h
    · exact moC_in hg hp n (k + 1) _ _ b h
/-- with a line at least some way is kept -/
theorem moC_up {g : aGd} {vs : List aVt} {p : Int} (hg : gOk g) (hp : 0 ≤ p ∧ p < 4) (hl : 0 < g.2.1) : ∀ (n k : Nat) (pg : aPg) (c : Int → Int) (b : moT), 0 ≤ (moC g vs p n k pg c b).1 ∧ b.1 ≤ (moC g vs p n k pg c b).1
  | 0, k, pg, c, b => by
    have := aWorth_in (pg := pg) hg hp
    unfold moC moU
    split
    · show 0 ≤ aWorth g pg p ∧ b.1 ≤ aWorth g pg p; omega
    · omega
  | n + 1, k, pg, c, b => by
    unfold moC
    split
    · obtain ⟨m, hm⟩ : ∃ m, g.2.1.toNat = m + 1 := ⟨g.2.1.toNat - 1, by omega⟩
      rw [hm]
      have h1 := foldL_ind (f := fun x b => moC g vs p n (k + 1) (aDraw g pg p x) (fp_ui c (k : Int) x) b) (P := fun b' : moT => b.1 ≤ b'.1) m (fun x b' _ _ hb => by have := (moC_up (vs := vs) hg hp hl n (k + 1) (aDraw g pg p x) (fp_ui c (k : Int) x) b').2; omega) b (by omega)
      have h2 := moC_up (vs := vs) hg hp hl n (k + 1) (aDraw g pg p m) (fp_ui c (k : Int) m) (foldL (fun x b => moC g vs p n (k + 1) (aDraw g pg p x) (fp_ui c (k : Int) x) b) m b)
      exact ⟨h2.1, by have := h2.2; unfold foldL; omega⟩
    · exact moC_up hg hp hl n (k + 1) _ _ b
def moB (vs : List aVt) (M : fp_Mem) (b : moT) : Prop := M 34 3 = b.1 ∧ (b.1 ≠ -4 → ∀ j : Int, 0 ≤ j → j < vs.length → M 38 j.toNat = b.2 j)
def moR (vs : List aVt) (p : Int) (M : fp_Mem) (i : Int) (c : Int → Int) : Prop := (∀ j : Int, 0 ≤ j → j < i → M 39 j.toNat = c j) ∧ ∀ j : Int, i ≤ j → j < vs.length → aOwn vs p j = false → M 39 j.toNat = -4
section CMO
variable {l : Launch} {G : fp_WG} {M N : fp_Mem} {tp : List Int} {fl : Int} {g : aGd} {pg : aPg} {vs : List aVt} {nt : List Int} {im : aIm} {sh : aSh} {tn : Int}
theorem rk_X10_isDrawOf {p i : Int} (hg : gOk g) (hvo : vsOk g vs) (hv : vsIs M 27 vs) (hp : fp_rng p) (hi : 0 ≤ i ∧ i < (vs.length : Int)) : fp_Ok l G 1 kX10_isDrawOf [rV G 27, iV p, iV i] M (qE (if aOwn vs p i = true then 1 else 0) M) := by
  have hl := hv.2.1
  have hb := hv.at hvo hg hi.1 hi.2
  have hg1 := hg.1
  obtain ⟨e1, e2, e3, e4⟩ := hv.2.2 i hi.1 hi.2
  refine fp_Ok.of (r := 0) rfl (Nat.le_of_ble_eq_true rfl) rfl ?_
  unfold aOwn
  simp only [decide_eq_true_eq]
  rw [← e2, ← e4]
  refine S.aload_n (pc' := 1) dX10_isDrawOf_0 rfl rfl rfl ?_
  refine S.getR (pc' := 4) dX10_isDrawOf_1 rfl fX10_15 (vs_lay vs27) (vs_r2 vs27) ?_
  refine S.iload_n (pc' := 5) dX10_isDrawOf_4 rfl rfl rfl ?_
  refine S.iald (pc' := 6) dX10_isDrawOf_5 rfl (vs_a2 vs27) (by omega) (by omega) ?_
  refine S.iload_n (pc' := 7) dX10_isDrawOf_6 rfl rfl rfl ?_
  refine S.icmp_ne (pc' := 10) (tgt := 22) dX10_isDrawOf_7 (by decide) rfl (by unfold fp_rng; omega) hp (fun h7 => ?_) (fun h7 => ?_)
  · refine S.iconst (pc' := 23) dX10_isDrawOf_22 rfl ?_
    refine S.zret dX10_isDrawOf_23 rfl (by first | exact Or.inl rfl | exact Or.inr rfl | omega) ?_
    first
    | exact ⟨by rw [if_pos ⟨by omega, by omega⟩], rfl⟩
    | exact ⟨by rw [if_neg (fun q => by omega)], rfl⟩
  · refine S.aload_n (pc' := 11) dX10_isDrawOf_10 rfl rfl rfl ?_
    refine S.iload_n (pc' := 12) dX10_isDrawOf_11 rfl rfl rfl ?_
    refine S.callVe (pc' := 15) dX10_isDrawOf_12 rfl cX10_34 (ok_X10_isDraw vs27) rfl (vs_lay vs27) (by decide) rfl (Nat.le_of_ble_eq_true rfl) ?_
    refine S.if_eq (pc' := 18) (tgt := 22) dX10_isDrawOf_15 (by decide) rfl (by unfold fp_rng; omega) (fun h15 => ?_) (fun h15 => ?_)
    · refine S.iconst (pc' := 23) dX10_isDrawOf_22 rfl ?_
      refine S.zret dX10_isDrawOf_23 rfl (by first | exact Or.inl rfl | exact Or.inr rfl | omega) ?_
      first
      | exact ⟨by rw [if_pos ⟨by omega, by omega⟩], rfl⟩
      | exact ⟨by rw [if_neg (fun q => by omega)], rfl⟩
    · refine S.iconst (pc' := 19) dX10_isDrawOf_18 rfl ?_
      refine S.goto (pc' := 23) dX10_isDrawOf_19 (by decide) ?_
      refine S.zret dX10_isDrawOf_23 rfl (by first | exact Or.inl rfl | exact Or.inr rfl | omega) ?_
      first
      | exact ⟨by rw [if_pos ⟨by omega, by omega⟩], rfl⟩
      | exact ⟨by rw [if_neg (fun q => by omega)], rfl⟩
theorem rk_X8_takeIfBetter {w : Int} (hw : fp_rng w) (hb : fp_rng (M 34 3)) : fp_Ok l G 1 kX8_takeIfBetter [rV G 34, iV w] M (qV fun N => N 34 3 = (if M 34 3 < w then w else M 34 3) ∧ (∀ j : Nat, j < 12 → N 38 j = if M 34 3 < w then M 39 j else M 38 j) ∧ ∀ a, a ≠ 34 → a ≠ 38 → N a = M a) := by
  refine fp_Ok.of (r := 0) rfl (Nat.le_of_ble_eq_true rfl) rfl ?_
  refine S.iload_n (pc' := 1) dX8_takeIfBetter_0 rfl rfl rfl ?_
  refine S.aload_n (pc' := 2) dX8_takeIfBetter_1 rfl rfl rfl ?_
  refine S.getI (pc' := 5) dX8_takeIfBetter_2 rfl fX8_67 L_34 ?_
  refine S.icmp_le (pc' := 8) (tgt := 31) dX8_takeIfBetter_5 (by decide) rfl hw hb (fun h5 => ?_) (fun h5 => ?_)
  · refine S.vret dX8_takeIfBetter_31 rfl ?_
    first
    | (refine ⟨by rw [if_neg (by omega)], fun j hj => by rw [if_neg (by omega)], fun _ _ _ => rfl⟩; done)
    | (refine ⟨?_, fun j hj => ?_, fun a h1 h2 => by rw [fp_upM_ne h2, fp_up_ne h1]⟩
       · rw [if_pos (by omega), fp_upM_ne (by decide), fp_up_at, fp_upf_at]
       · rw [if_pos (by omega), fp_upM_at]; simp [va_cpy, fp_up_ne]; intro; omega)
  · refine S.aload_n (pc' := 9) dX8_takeIfBetter_8 rfl rfl rfl ?_
    refine S.iload_n (pc' := 10) dX8_takeIfBetter_9 rfl rfl rfl ?_
    refine S.putI (pc' := 13) dX8_takeIfBetter_10 rfl fX8_67 L_34 ?_
    refine S.aload_n (pc' := 14) dX8_takeIfBetter_13 rfl rfl rfl ?_
    refine S.getR (pc' := 17) dX8_takeIfBetter_14 rfl fX8_28 L_34 rf_34_5 ?_
    refine S.iconst (pc' := 18) dX8_takeIfBetter_17 rfl ?_
    refine S.aload_n (pc' := 19) dX8_takeIfBetter_18 rfl rfl rfl ?_
    refine S.getR (pc' := 22) dX8_takeIfBetter_19 rfl fX8_24 L_34 rf_34_4 ?_
    refine S.iconst (pc' := 23) dX8_takeIfBetter_22 rfl ?_
    refine S.aload_n (pc' := 24) dX8_takeIfBetter_23 rfl rfl rfl ?_
    refine S.getR (pc' := 27) dX8_takeIfBetter_24 rfl fX8_24 L_34 rf_34_4 ?_
    refine S.alen (pc' := 28) dX8_takeIfBetter_27 rfl L_38 (by decide) rfl (by first | assumption | decide) ?_
    refine S.copyi (pc' := 31) dX8_takeIfBetter_28 rfl aX8_98 L_39 L_38 (by decide) (by decide) (by omega) (by omega) (by omega) (by omega) (by omega) (by decide) (Nat.le_of_ble_eq_true rfl) ?_
    refine S.vret dX8_takeIfBetter_31 rfl ?_
    first
    | (refine ⟨by rw [if_neg (by omega)], fun j hj => by rw [if_neg (by omega)], fun _ _ _ => rfl⟩; done)
    | (refine ⟨?_, fun j hj => ?_, fun a h1 h2 => by rw [fp_upM_ne h2, fp_up_ne h1]⟩
       · rw [if_pos (by omega), fp_upM_ne (by decide), fp_up_at, fp_upf_at]
       · rw [if_pos (by omega), fp_upM_at]; simp [va_cpy, fp_up_ne]; intro; omega)
theorem rk_X8_tryLines {p : Int} (hg : gOk g) (hvo : vsOk g vs) (hl : vs.length ≤ 12) (hp : 0 ≤ p ∧ p < 4) : ∀ (n : Nat) (i : Int) (pg : aPg) (c : Int → Int) (b : moT) (M : fp_Mem), 0 ≤ i → i + n = vs.length → pgOk g pg → clIs M (41 + 5 * i.toNat) g pg → gdIs M 18 g → vsIs M 27 vs → moB vs M b → moR vs p M i c → (-4 ≤ b.1 ∧ b.1 ≤ 200) →
    fp_Ok l G (n + 3) kX8_tryLines [rV G 34, rV G 18, rV G 27, iV p, iV i] M (qV fun N => moB vs N (moC g vs p n i.toNat pg c b) ∧ moR vs p N i c ∧ ∀ a, (a < 34 ∨ (34 < a ∧ a < 38) ∨ (39 < a ∧ a < 46 + 5 * i.toNat) ∨ 105 < a) → N a = M a) := by
  have hg2 := hg.2.1
  intro n
  induction n with
  | zero =>
    intro i pg c b M i0 hi hP hcl hd hv hB hR hb
    have hl1 := hv.1
    have ho := stg_o i0 (show i < 13 by omega)
    have hw := aWorth_in (pg := pg) hg hp
    have hB1 := hB.1
    refine fp_Ok.of (r := 1) rfl (Nat.le_of_ble_eq_true rfl) rfl ?_
    refine S.iload (pc' := 2) dX8_tryLines_0 rfl rfl ?_
    refine S.bipush (pc' := 4) dX8_tryLines_2 rfl (by decide) ?_
    refine S.icmp_ge (pc' := 7) (tgt := 16) dX8_tryLines_4 (by decide) rfl (by unfold fp_rng; omega) (by unfold fp_rng; omega) (fun h4 => ?_) (fun h4 => ?_)
    · refine S.aload_n (pc' := 17) dX8_tryLines_16 rfl rfl rfl ?_
      refine S.aload_n (pc' := 18) dX8_tryLines_17 rfl rfl rfl ?_
      refine S.getR (pc' := 21) dX8_tryLines_18 rfl fX8_11 L_34 rf_34_0 ?_
      refine S.iload (pc' := 23) dX8_tryLines_21 rfl rfl ?_
      refine S.aald (pc' := 24) dX8_tryLines_23 rfl L_35 (by decide) (by decide) (by omega) (by omega) (stg_r (by omega) (by omega)) ?_
      refine S.aload_n (pc' := 25) dX8_tryLines_24 rfl rfl rfl ?_
      refine S.iload_n (pc' := 26) dX8_tryLines_25 rfl rfl rfl ?_
      refine S.callVe (pc' := 29) dX8_tryLines_26 rfl cX8_83 (rk_X5_worthTo (g := g) (pg := pg) ho gd18) rfl (pl_lay (stg_o (by omega) (by omega))) (by omega) rfl (Nat.le_of_ble_eq_true rfl) ?_
      refine S.callVv (pc' := 32) dX8_tryLines_29 rfl cX8_86 (rk_X8_takeIfBetter (by unfold fp_rng; omega) (by unfold fp_rng; omega)) rfl L_34 (by omega) rfl (Nat.le_of_ble_eq_true rfl) (fun M29 q29 => ?_)
      refine S.vret dX8_tryLines_32 rfl ?_
      obtain ⟨t1, t2, t3⟩ := q29
      have hcc : ∀ j : Int, 0 ≤ j → j < vs.length → M 39 j.toNat = c j := fun j j0 j1 => hR.1 j j0 (by omega)
      refine ⟨?_, ⟨fun j j0 j1 => by rw [t3 39 (by decide) (by decide)]; exact hR.1 j j0 j1, fun j j0 j1 => by omega⟩, fun a ha => t3 a (by omega) (by omega)⟩
      unfold moC moU moB
      rw [hB1] at t1 t2
      by_cases e : b.1 < aWorth g pg p
      · rw [if_pos e] at t1 ⊢
        exact ⟨t1, fun _ j j0 j1 => by rw [t2 _ (by omega), if_pos e]; exact hcc j j0 j1⟩
      · rw [if_neg e] at t1 ⊢
        exact ⟨t1, fun q j j0 j1 => by rw [t2 _ (by omega), if_neg e]; exact hB.2 q j j0 j1⟩
    · refine S.iload (pc' := 9) dX8_tryLines_7 rfl rfl ?_
      refine S.aload_n (pc' := 10) dX8_tryLines_9 rfl rfl rfl ?_
      refine S.getI (pc' := 13) dX8_tryLines_10 rfl fX8_80 (vs_lay vs27) ?_
      refine S.icmp_lt (pc' := 16) (tgt := 33) dX8_tryLines_13 (by decide) rfl (by unfold fp_rng; omega) (by unfold fp_rng; omega) (fun h13 => ?_) (fun h13 => ?_)
      · exfalso; omega
      · refine S.aload_n (pc' := 17) dX8_tryLines_16 rfl rfl rfl ?_
        refine S.aload_n (pc' := 18) dX8_tryLines_17 rfl rfl rfl ?_
        refine S.getR (pc' := 21) dX8_tryLines_18 rfl fX8_11 L_34 rf_34_0 ?_
        refine S.iload (pc' := 23) dX8_tryLines_21 rfl rfl ?_
        refine S.aald (pc' := 24) dX8_tryLines_23 rfl L_35 (by decide) (by decide) (by omega) (by omega) (stg_r (by omega) (by omega)) ?_
        refine S.aload_n (pc' := 25) dX8_tryLines_24 rfl rfl rfl ?_
        refine S.iload_n (pc' := 26) dX8_tryLines_25 rfl rfl rfl ?_
        refine S.callVe (pc' := 29) dX8_tryLines_26 rfl cX8_83 (rk_X5_worthTo (g := g) (pg := pg) ho gd18) rfl (pl_lay (stg_o (by omega) (by omega))) (by omega) rfl (Nat.le_of_ble_eq_true rfl) ?_
        refine S.callVv (pc' := 32) dX8_tryLines_29 rfl cX8_86 (rk_X8_takeIfBetter (by unfold fp_rng; omega) (by unfold fp_rng; omega)) rfl L_34 (by omega) rfl (Nat.le_of_ble_eq_true rfl) (fun M29 q29 => ?_)
        refine S.vret dX8_tryLines_32 rfl ?_
        obtain ⟨t1, t2, t3⟩ := q29
        have hcc : ∀ j : Int, 0 ≤ j → j < vs.length → M 39 j.toNat = c j := fun j j0 j1 => hR.1 j j0 (by omega)
        refine ⟨?_, ⟨fun j j0 j1 => by rw [t3 39 (by decide) (by decide)]; exact hR.1 j j0 j1, fun j j0 j1 => by omega⟩, fun a ha => t3 a (by omega) (by omega)⟩
        unfold moC moU moB
        rw [hB1] at t1 t2
        by_cases e : b.1 < aWorth g pg p
        · rw [if_pos e] at t1 ⊢
          exact ⟨t1, fun _ j j0 j1 => by rw [t2 _ (by omega), if_pos e]; exact hcc j j0 j1⟩
        · rw [if_neg e] at t1 ⊢
          exact ⟨t1, fun q j j0 j1 => by rw [t2 _ (by omega), if_neg e]; exact hB.2 q j j0 j1⟩
  | succ n ih =>
    intro i pg c b M i0 hi hP hcl hd hv hB hR hb
    have hl1 := hv.1
    have ho := stg_o i0 (show i < 13 by omega)
    have ho1 := stg_o (show 0 ≤ i + 1 by omega) (show i + 1 < 13 by omega)
    have ei : ((i.toNat : Nat) : Int) = i := by omega
    have e1 : (i + 1).toNat = i.toNat + 1 := by omega
    have cO := rk_X10_isDrawOf (l := l) (G := G) hg hvo hv (show fp_rng p by unfold fp_rng; omega) (show 0 ≤ i ∧ i < (vs.length : Int) by omega)
    refine fp_Ok.of (r := 1) rfl (Nat.le_of_ble_eq_true rfl) rfl ?_
    by_cases hown : aOwn vs p i = true
    · rw [if_pos hown] at cO
      have em : moC g vs p (n + 1) i.toNat pg c b = foldL (fun x b => moC g vs p n (i + 1).toNat (aDraw g pg p x) (fp_ui c i x) b) g.2.1.toNat b := by
        rw [moC_own (by rw [ei]; exact hown), ei, e1]
      rw [em]
      have hL : ∀ (r : Nat) (x : Int) (N : fp_Mem), (g.2.1 - x).toNat < r → 0 ≤ x → x ≤ g.2.1 → moB vs N (foldL (fun x b => moC g vs p n (i + 1).toNat (aDraw g pg p x) (fp_ui c i x) b) x.toNat b) → moR vs p N i c → (∀ a, (a < 34 ∨ (34 < a ∧ a < 38) ∨ (39 < a ∧ a < 46 + 5 * i.toNat) ∨ 105 < a) → N a = M a) →
          fp_S l G (n + 1 + 3) kX8_tryLines 94 [some (rV G 34), some (rV G 18), some (rV G 27), some (iV p), some (iV i), some (iV x)] [] N (qV fun N => moB vs N (foldL (fun x b => moC g vs p n (i + 1).toNat (aDraw g pg p x) (fp_ui c i x) b) g.2.1.toNat b) ∧ moR vs p N i c ∧ ∀ a, (a < 34 ∨ (34 < a ∧ a < 38) ∨ (39 < a ∧ a < 46 + 5 * i.toNat) ∨ 105 < a) → N a = M a) := by
        intro r
        induction r with
        | zero => intro x N hr; omega
        | succ r ihr =>
          intro x N hr x0 x1 nB nR nF
          have dN : gdIs N 18 g := hd.kept (fun a q1 q2 => nF a (by omega))
          have vN : vsIs N 27 vs := hv.kept (fun a q1 q2 => nF a (by omega))
          have cN : clIs N (41 + 5 * i.toNat) g pg := hcl.kept (fun a q1 q2 => nF a (by omega))
          have hd1 : N 18 1 = g.2.1 := dN.2.1
          by_cases hlt : x < g.2.1
          · have hPx := aDraw_ok hg hP hp ⟨x0, hlt⟩
            have hbx := foldL_ind (f := fun x b => moC g vs p n (i + 1).toNat (aDraw g pg p x) (fp_ui c i x) b) (P := fun b : moT => -4 ≤ b.1 ∧ b.1 ≤ 200) x.toNat (fun y b _ _ hb => moC_in hg hp n (i + 1).toNat _ _ b hb) b hb
            have ef : foldL (fun x b => moC g vs p n (i + 1).toNat (aDraw g pg p x) (fp_ui c i x) b) (x + 1).toNat b = moC g vs p n (i + 1).toNat (aDraw g pg p x) (fp_ui c i x) (foldL (fun x b => moC g vs p n (i + 1).toNat (aDraw g pg p x) (fp_ui c i x) b) x.toNat b) := by
              rw [show (x + 1).toNat = x.toNat + 1 by omega, foldL, show ((x.toNat : Nat) : Int) = x by omega]
            refine S.iload (pc' := 96) dX8_tryLines_94 rfl rfl ?_
            refine S.aload_n (pc' := 97) dX8_tryLines_96 rfl rfl rfl ?_
            refine S.getI (pc' := 100) dX8_tryLines_97 rfl fX8_50 (gd_lay gd18) ?_
            refine S.icmp_ge (pc' := 103) (tgt := 165) dX8_tryLines_100 (by decide) rfl (by unfold fp_rng; omega) (by unfold fp_rng; omega) (fun h100 => ?_) (fun h100 => ?_)
            · exfalso; omega
            · refine S.aload_n (pc' := 104) dX8_tryLines_103 rfl rfl rfl ?_
              refine S.getR (pc' := 107) dX8_tryLines_104 rfl fX8_11 L_34 rf_34_0 ?_
              refine S.iload (pc' := 109) dX8_tryLines_107 rfl rfl ?_
              refine S.iconst (pc' := 110) dX8_tryLines_109 rfl ?_
              refine S.iadd (pc' := 111) dX8_tryLines_110 rfl ?_
              refine S.aald (pc' := 112) dX8_tryLines_111 rfl L_35 (by decide) (by decide) (by omega) (by omega) (stg_r (by omega) (by omega)) ?_
              refine S.aload_n (pc' := 113) dX8_tryLines_112 rfl rfl rfl ?_
              refine S.getR (pc' := 116) dX8_tryLines_113 rfl fX8_11 L_34 rf_34_0 ?_
              refine S.iload (pc' := 118) dX8_tryLines_116 rfl rfl ?_
              refine S.aald (pc' := 119) dX8_tryLines_118 rfl L_35 (by decide) (by decide) (by omega) (by omega) (stg_r (by omega) (by omega)) ?_
              refine S.callVv (pc' := 122) dX8_tryLines_119 rfl cX8_36 (rk_X5_copyFrom (g := g) (pg := pg) ho1 ho (by omega)) rfl (pl_lay (stg_o (by omega) (by omega))) (by omega) rfl (Nat.le_of_ble_eq_true rfl) (fun M119 q119 => ?_)
              obtain ⟨c1, f1⟩ := q119
              have d1 : gdIs M119 18 g := dN.kept (fun a q1 q2 => f1 a (by omega))
              refine S.aload_n (pc' := 123) dX8_tryLines_122 rfl rfl rfl ?_
              refine S.getR (pc' := 126) dX8_tryLines_123 rfl fX8_11 L_34 rf_34_0 ?_
              refine S.iload (pc' := 128) dX8_tryLines_126 rfl rfl ?_
              refine S.iconst (pc' := 129) dX8_tryLines_128 rfl ?_
              refine S.iadd (pc' := 130) dX8_tryLines_129 rfl ?_
              refine S.aald (pc' := 131) dX8_tryLines_130 rfl L_35 (by decide) (by decide) (by omega) (by omega) (stg_r (by omega) (by omega)) ?_
              refine S.aload_n (pc' := 132) dX8_tryLines_131 rfl rfl rfl ?_
              refine S.iload_n (pc' := 133) dX8_tryLines_132 rfl rfl rfl ?_
              refine S.iload (pc' := 135) dX8_tryLines_133 rfl rfl ?_
              refine S.callVi (pc' := 138) dX8_tryLines_135 rfl cX8_94 (rk_X5_giveTo (g := g) (pg := pg) ho1 gd18) rfl (pl_lay (stg_o (by omega) (by omega))) (by omega) rfl (Nat.le_of_ble_eq_true rfl) (fun z135 M135 q135 => ?_)
              obtain ⟨z2, c2, f2⟩ := q135
              have ff : ∀ a, (a < 46 + 5 * i.toNat ∨ 50 + 5 * i.toNat < a) → a ≠ 39 → fp_up M135 39 i.toNat x a = N a := fun a ha h9 => by rw [fp_up_ne h9, f2 a (by omega), f1 a (by omega)]
              have e39 : M135 39 = N 39 := by rw [f2 39 (by omega), f1 39 (by omega)]
              have hR2 : moR vs p (fp_up M135 39 i.toNat x) (i + 1) (fp_ui c i x) := by
                refine ⟨fun j j0 j1 => ?_, fun j j0 j1 jo => ?_⟩
                · rw [fp_up_at, e39]
                  by_cases e : j = i
                  · rw [e, fp_upf_at, fp_ui_at]
                  · rw [fp_upf_ne (by omega), fp_ui_ne e]; exact nR.1 j j0 (by omega)
                · rw [fp_up_at, e39, fp_upf_ne (by omega)]; exact nR.2 j (by omega) j1 jo
              refine S.pop (pc' := 139) dX8_tryLines_138 rfl rfl ?_
              refine S.aload_n (pc' := 140) dX8_tryLines_139 rfl rfl rfl ?_
              refine S.getR (pc' := 143) dX8_tryLines_140 rfl fX8_28 L_34 rf_34_5 ?_
              refine S.iload (pc' := 145) dX8_tryLines_143 rfl rfl ?_
              refine S.iload (pc' := 147) dX8_tryLines_145 rfl rfl ?_
              refine S.iast (pc' := 148) dX8_tryLines_147 rfl L_39 (by omega) (by omega) ?_
              refine S.aload_n (pc' := 149) dX8_tryLines_148 rfl rfl rfl ?_
              refine S.aload_n (pc' := 150) dX8_tryLines_149 rfl rfl rfl ?_
              refine S.aload_n (pc' := 151) dX8_tryLines_150 rfl rfl rfl ?_
              refine S.iload_n (pc' := 152) dX8_tryLines_151 rfl rfl rfl ?_
              refine S.iload (pc' := 154) dX8_tryLines_152 rfl rfl ?_
              refine S.iconst (pc' := 155) dX8_tryLines_154 rfl ?_
              refine S.iadd (pc' := 156) dX8_tryLines_155 rfl ?_
              refine S.callVv (pc' := 159) dX8_tryLines_156 rfl cX8_76 (ih (i + 1) (aDraw g pg p x) (fp_ui c i x) (foldL (fun x b => moC g vs p n (i + 1).toNat (aDraw g pg p x) (fp_ui c i x) b) x.toNat b) (fp_up M135 39 i.toNat x) (by omega) (by omega) hPx (c2.kept (fun a q1 q2 => fp_up_ne (by omega))) (dN.kept (fun a q1 q2 => ff a (by omega) (by omega))) (vN.kept (fun a q1 q2 => ff a (by omega) (by omega))) ⟨by rw [ff 34 (by omega) (by decide)]; exact nB.1, fun q j j0 j1 => by rw [ff 38 (by omega) (by decide)]; exact nB.2 q j j0 j1⟩ hR2 hbx) rfl L_34 (by omega) rfl (Nat.le_of_ble_eq_true rfl) (fun M156 q156 => ?_)
              refine S.iinc (pc' := 162) (LL' := [_, _, _, _, _, _]) dX8_tryLines_159 rfl (by decide) rfl rfl rfl ?_
              refine S.goto (pc' := 94) dX8_tryLines_162 (by decide) ?_
              obtain ⟨t1, t2, t3⟩ := q156
              refine ihr (x + 1) _ (by omega) (by omega) (by omega) (by rw [ef]; exact t1) ⟨fun j j0 j1 => by rw [t2.1 j j0 (by omega), fp_ui_ne (by omega)], fun j j0 j1 jo => ?_⟩ (fun a ha => by rw [t3 a (by omega), ff a (by omega) (by omega)]; exact nF a ha)
              have hji : j ≠ i := fun e => by rw [e, hown] at jo; exact absurd jo (by decide)
              exact t2.2 j (by omega) j1 jo
          · rw [show g.2.1.toNat = x.toNat by omega]
            refine S.iload (pc' := 96) dX8_tryLines_94 rfl rfl ?_
            refine S.aload_n (pc' := 97) dX8_tryLines_96 rfl rfl rfl ?_
            refine S.getI (pc' := 100) dX8_tryLines_97 rfl fX8_50 (gd_lay gd18) ?_
            refine S.icmp_ge (pc' := 103) (tgt := 165) dX8_tryLines_100 (by decide) rfl (by unfold fp_rng; omega) (by unfold fp_rng; omega) (fun h100 => ?_) (fun h100 => ?_)
            · refine S.vret dX8_tryLines_165 rfl ?_
              exact ⟨nB, nR, nF⟩
            · exfalso; omega
      refine S.iload (pc' := 2) dX8_tryLines_0 rfl rfl ?_
      refine S.bipush (pc' := 4) dX8_tryLines_2 rfl (by decide) ?_
      refine S.icmp_ge (pc' := 7) (tgt := 16) dX8_tryLines_4 (by decide) rfl (by unfold fp_rng; omega) (by unfold fp_rng; omega) (fun h4 => ?_) (fun h4 => ?_)
      · exfalso; omega
      · refine S.iload (pc' := 9) dX8_tryLines_7 rfl rfl ?_
        refine S.aload_n (pc' := 10) dX8_tryLines_9 rfl rfl rfl ?_
        refine S.getI (pc' := 13) dX8_tryLines_10 rfl fX8_80 (vs_lay vs27) ?_
        refine S.icmp_lt (pc' := 16) (tgt := 33) dX8_tryLines_13 (by decide) rfl (by unfold fp_rng; omega) (by unfold fp_rng; omega) (fun h13 => ?_) (fun h13 => ?_)
        · refine S.aload_n (pc' := 34) dX8_tryLines_33 rfl rfl rfl ?_
          refine S.iload_n (pc' := 35) dX8_tryLines_34 rfl rfl rfl ?_
          refine S.iload (pc' := 37) dX8_tryLines_35 rfl rfl ?_
          refine S.callVe (pc' := 40) dX8_tryLines_37 rfl cX8_90 cO rfl (vs_lay vs27) (by omega) rfl (Nat.le_of_ble_eq_true rfl) ?_
          refine S.if_ne (pc' := 43) (tgt := 91) dX8_tryLines_40 (by decide) rfl (by unfold fp_rng; omega) (fun h40 => ?_) (fun h40 => ?_)
          · refine S.iconst (pc' := 92) dX8_tryLines_91 rfl ?_
            refine S.istore (pc' := 94) (LL' := [_, _, _, _, _, _]) dX8_tryLines_92 rfl (by decide) rfl rfl ?_
            exact hL (g.2.1.toNat + 1) 0 M (by omega) (by omega) (by omega) hB hR (fun _ _ => rfl)
          · exact absurd h40 (by decide)
        · exfalso; omega
    · rw [if_neg hown] at cO
      have hP1 := aHapI_ok (i := i) hg hP hvo
      have em : moC g vs p (n + 1) i.toNat pg c b = moC g vs p n (i + 1).toNat (aHapI g pg vs i).2 (fp_ui c i (-4)) b := by
        rw [moC_else (by rw [ei]; exact hown), ei, e1]
      have hown' : aOwn vs p i = false := by cases h : aOwn vs p i; rfl; exact absurd h hown
      rw [em]
      refine S.iload (pc' := 2) dX8_tryLines_0 rfl rfl ?_
      refine S.bipush (pc' := 4) dX8_tryLines_2 rfl (by decide) ?_
      refine S.icmp_ge (pc' := 7) (tgt := 16) dX8_tryLines_4 (by decide) rfl (by unfold fp_rng; omega) (by unfold fp_rng; omega) (fun h4 => ?_) (fun h4 => ?_)
      · exfalso; omega
      · refine S.iload (pc' := 9) dX8_tryLines_7 rfl rfl ?_
        refine S.aload_n (pc' := 10) dX8_tryLines_9 rfl rfl rfl ?_
        refine S.getI (pc' := 13) dX8_tryLines_10 rfl fX8_80 (vs_lay vs27) ?_
        refine S.icmp_lt (pc' := 16) (tgt := 33) dX8_tryLines_13 (by decide) rfl (by unfold fp_rng; omega) (by unfold fp_rng; omega) (fun h13 => ?_) (fun h13 => ?_)
        · refine S.aload_n (pc' := 34) dX8_tryLines_33 rfl rfl rfl ?_
          refine S.iload_n (pc' := 35) dX8_tryLines_34 rfl rfl rfl ?_
          refine S.iload (pc' := 37) dX8_tryLines_35 rfl rfl ?_
          refine S.callVe (pc' := 40) dX8_tryLines_37 rfl cX8_90 cO rfl (vs_lay vs27) (by omega) rfl (Nat.le_of_ble_eq_true rfl) ?_
          refine S.if_ne (pc' := 43) (tgt := 91) dX8_tryLines_40 (by decide) rfl (by unfold fp_rng; omega) (fun h40 => ?_) (fun h40 => ?_)
          · exact absurd rfl h40
          · refine S.aload_n (pc' := 44) dX8_tryLines_43 rfl rfl rfl ?_
            refine S.getR (pc' := 47) dX8_tryLines_44 rfl fX8_11 L_34 rf_34_0 ?_
            refine S.iload (pc' := 49) dX8_tryLines_47 rfl rfl ?_
            refine S.iconst (pc' := 50) dX8_tryLines_49 rfl ?_
            refine S.iadd (pc' := 51) dX8_tryLines_50 rfl ?_
            refine S.aald (pc' := 52) dX8_tryLines_51 rfl L_35 (by decide) (by decide) (by omega) (by omega) (stg_r (by omega) (by omega)) ?_
            refine S.aload_n (pc' := 53) dX8_tryLines_52 rfl rfl rfl ?_
            refine S.getR (pc' := 56) dX8_tryLines_53 rfl fX8_11 L_34 rf_34_0 ?_
            refine S.iload (pc' := 58) dX8_tryLines_56 rfl rfl ?_
            refine S.aald (pc' := 59) dX8_tryLines_58 rfl L_35 (by decide) (by decide) (by omega) (by omega) (stg_r (by omega) (by omega)) ?_
            refine S.callVv (pc' := 62) dX8_tryLines_59 rfl cX8_36 (rk_X5_copyFrom (g := g) (pg := pg) ho1 ho (by omega)) rfl (pl_lay (stg_o (by omega) (by omega))) (by omega) rfl (Nat.le_of_ble_eq_true rfl) (fun M59 q59 => ?_)
            obtain ⟨c1, f1⟩ := q59
            have d1 : gdIs M59 18 g := hd.kept (fun a q1 q2 => f1 a (by omega))
            have v1 : vsIs M59 27 vs := hv.kept (fun a q1 q2 => f1 a (by omega))
            refine S.aload_n (pc' := 63) dX8_tryLines_62 rfl rfl rfl ?_
            refine S.aload_n (pc' := 64) dX8_tryLines_63 rfl rfl rfl ?_
            refine S.aload_n (pc' := 65) dX8_tryLines_64 rfl rfl rfl ?_
            refine S.getR (pc' := 68) dX8_tryLines_65 rfl fX8_11 L_34 rf_34_0 ?_
            refine S.iload (pc' := 70) dX8_tryLines_68 rfl rfl ?_
            refine S.iconst (pc' := 71) dX8_tryLines_70 rfl ?_
            refine S.iadd (pc' := 72) dX8_tryLines_71 rfl ?_
            refine S.aald (pc' := 73) dX8_tryLines_72 rfl L_35 (by decide) (by decide) (by omega) (by omega) (stg_r (by omega) (by omega)) ?_
            refine S.iload (pc' := 75) dX8_tryLines_73 rfl rfl ?_
            refine S.callVi (pc' := 78) dX8_tryLines_75 rfl cX8_40 (rk_X10_happens (g := g) (pg := pg) (vs := vs) vs27 gd18 ho1) rfl (vs_lay vs27) (by omega) rfl (Nat.le_of_ble_eq_true rfl) (fun z75 M75 q75 => ?_)
            obtain ⟨z2, c2, f2⟩ := q75
            have ff : ∀ a, (a < 46 + 5 * i.toNat ∨ 50 + 5 * i.toNat < a) → M75 a = M a := fun a ha => by rw [f2 a (by omega), f1 a (by omega)]
            have hR2 : moR vs p M75 (i + 1) (fp_ui c i (-4)) := by
              refine ⟨fun j j0 j1 => ?_, fun j j0 j1 jo => by rw [ff 39 (by omega)]; exact hR.2 j (by omega) j1 jo⟩
              rw [ff 39 (by omega)]
              by_cases e : j = i
              · rw [e, fp_ui_at]; exact hR.2 i (by omega) (by omega) hown'
              · rw [fp_ui_ne e]; exact hR.1 j j0 (by omega)
            refine S.pop (pc' := 79) dX8_tryLines_78 rfl rfl ?_
            refine S.aload_n (pc' := 80) dX8_tryLines_79 rfl rfl rfl ?_
            refine S.aload_n (pc' := 81) dX8_tryLines_80 rfl rfl rfl ?_
            refine S.aload_n (pc' := 82) dX8_tryLines_81 rfl rfl rfl ?_
            refine S.iload_n (pc' := 83) dX8_tryLines_82 rfl rfl rfl ?_
            refine S.iload (pc' := 85) dX8_tryLines_83 rfl rfl ?_
            refine S.iconst (pc' := 86) dX8_tryLines_85 rfl ?_
            refine S.iadd (pc' := 87) dX8_tryLines_86 rfl ?_
            refine S.callVv (pc' := 90) dX8_tryLines_87 rfl cX8_76 (ih (i + 1) (aHapI g pg vs i).2 (fp_ui c i (-4)) b M75 (by omega) (by omega) hP1 c2 (hd.kept (fun a q1 q2 => ff a (by omega))) (hv.kept (fun a q1 q2 => ff a (by omega))) ⟨by rw [ff 34 (by omega)]; exact hB.1, fun q j j0 j1 => by rw [ff 38 (by omega)]; exact hB.2 q j j0 j1⟩ hR2 hb) rfl L_34 (by omega) rfl (Nat.le_of_ble_eq_true rfl) (fun M87 q87 => ?_)
            refine S.vret dX8_tryLines_90 rfl ?_
            obtain ⟨t1, t2, t3⟩ := q87
            refine ⟨t1, ⟨fun j j0 j1 => by rw [t2.1 j j0 (by omega), fp_ui_ne (by omega)], fun j j0 j1 jo => ?_⟩, fun a ha => by rw [t3 a (by omega), ff a (by omega)]⟩
            by_cases e : j = i
            · rw [e, t2.1 i (by omega) (by omega), fp_ui_at]
            · exact t2.2 j (by omega) j1 jo
        · exfalso; omega
end CMO
end
section
/-! most: the class, the call -/
def aDrs (vs : List aVt) (p : Int) : Nat → Int
  | 0 => 0
  | n + 1 => aDrs vs p n + if aOwn vs p (n : Int) = true then 1 else 0
theorem aDrs_in (vs : List aVt) (p : Int) : ∀ n : Nat, 0 ≤ aDrs vs p n ∧ aDrs vs p n ≤ n
  | 0 => by show (0 : Int) ≤ 0 ∧ (0 : Int) ≤ ((0 : Nat) : Int); omega
  | n + 1 => by
    have := aDrs_in vs p n
    unfold aDrs
    split <;> omega
def aMo (g : aGd) (pg : aPg) (vs : List aVt) (p : Int) : moT := moC g vs p vs.length 0 pg (fun _ => -4) (-4, fun _ => 0)
def A_most (g : aGd) (pg : aPg) (vs : List aVt) (p w : Int) : Int := if ¬ ((0 ≤ p ∧ p < 4) ∧ (w = 0 ∨ (10 ≤ w ∧ w < 10 + vs.length))) then -1 else if g.2.1 = 0 ∨ 7 < aDrs vs p vs.length then -2 else if w = 0 then (aMo g pg vs p).1 else (aMo g pg vs p).2 (w - 10)
section CMP
variable {l : Launch} {G : fp_WG} {M N : fp_Mem} {tp : List Int} {fl : Int} {g : aGd} {pg : aPg} {vs : List aVt} {nt : List Int} {im : aIm} {sh : aSh} {tn : Int}
theorem drs_loop {p : Int} (hg : gOk g) (hvo : vsOk g vs) (hv : vsIs M 27 vs) (hp : fp_rng p) : ∀ (r k : Nat), vs.length - k < r → k ≤ vs.length →
    fp_S l G 2 kX10_drawsOf 4 [some (rV G 27), some (iV p), some (iV (aDrs vs p k)), some (iV (k : Int))] [] M (qE (aDrs vs p vs.length) M) := by
  have hl1 := hv.1
  have hl := hv.2.1
  intro r
  induction r with
  | zero => intro k hr; omega
  | succ r ih =>
    intro k hr hk
    by_cases he : k < vs.length
    · have hi := ih (k + 1) (by omega) (by omega)
      have es : aDrs vs p (k + 1) = aDrs vs p k + if aOwn vs p (k : Int) = true then 1 else 0 := rfl
      have cO := rk_X10_isDrawOf (l := l) (G := G) hg hvo hv hp (show 0 ≤ (k : Int) ∧ (k : Int) < (vs.length : Int) by omega)
      rw [es, show ((k + 1 : Nat) : Int) = (k : Int) + 1 by omega] at hi
      by_cases hown : aOwn vs p (k : Int) = true
      · rw [if_pos hown] at cO hi
        have h24 : fp_S l G 2 kX10_drawsOf 24 [some (rV G 27), some (iV p), some (iV (aDrs vs p k + 1)), some (iV (k : Int))] [] M (qE (aDrs vs p vs.length) M) := by
          refine S.iinc (pc' := 27) (LL' := [_, _, _, _]) dX10_drawsOf_24 rfl (by decide) rfl rfl rfl ?_
          refine S.goto (pc' := 4) dX10_drawsOf_27 (by decide) ?_
          exact hi
        refine S.iload_n (pc' := 5) dX10_drawsOf_4 rfl rfl rfl ?_
        refine S.aload_n (pc' := 6) dX10_drawsOf_5 rfl rfl rfl ?_
        refine S.getI (pc' := 9) dX10_drawsOf_6 rfl fX10_24 (vs_lay vs27) ?_
        refine S.icmp_ge (pc' := 12) (tgt := 30) dX10_drawsOf_9 (by decide) rfl (by unfold fp_rng; omega) (by unfold fp_rng; omega) (fun h9 => ?_) (fun h9 => ?_)
        · exfalso; omega
        · refine S.aload_n (pc' := 13) dX10_drawsOf_12 rfl rfl rfl ?_
          refine S.iload_n (pc' := 14) dX10_drawsOf_13 rfl rfl rfl ?_
          refine S.iload_n (pc' := 15) dX10_drawsOf_14 rfl rfl rfl ?_
          refine S.callVe (pc' := 18) dX10_drawsOf_15 rfl cX10_38 cO rfl (vs_lay vs27) (by decide) rfl (Nat.le_of_ble_eq_true rfl) ?_
          refine S.if_eq (pc' := 21) (tgt := 24) dX10_drawsOf_18 (by decide) rfl (by unfold fp_rng; omega) (fun h18 => ?_) (fun h18 => ?_)
          · first
            | (exact absurd h18 (by decide))
            | exact h24
          · refine S.iinc (pc' := 24) (LL' := [_, _, _, _]) dX10_drawsOf_21 rfl (by decide) rfl rfl rfl ?_
            first
            | (exact absurd h18 (by decide))
            | exact h24
      · rw [if_neg hown, Int.add_zero] at hi
        rw [if_neg hown] at cO
        refine S.iload_n (pc' := 5) dX10_drawsOf_4 rfl rfl rfl ?_
        refine S.aload_n (pc' := 6) dX10_drawsOf_5 rfl rfl rfl ?_
        refine S.getI (pc' := 9) dX10_drawsOf_6 rfl fX10_24 (vs_lay vs27) ?_
        refine S.icmp_ge (pc' := 12) (tgt := 30) dX10_drawsOf_9 (by decide) rfl (by unfold fp_rng; omega) (by unfold fp_rng; omega) (fun h9 => ?_) (fun h9 => ?_)
        · exfalso; omega
        · refine S.aload_n (pc' := 13) dX10_drawsOf_12 rfl rfl rfl ?_
          refine S.iload_n (pc' := 14) dX10_drawsOf_13 rfl rfl rfl ?_
          refine S.iload_n (pc' := 15) dX10_drawsOf_14 rfl rfl rfl ?_
          refine S.callVe (pc' := 18) dX10_drawsOf_15 rfl cX10_38 cO rfl (vs_lay vs27) (by decide) rfl (Nat.le_of_ble_eq_true rfl) ?_
          refine S.if_eq (pc' := 21) (tgt := 24) dX10_drawsOf_18 (by decide) rfl (by unfold fp_rng; omega) (fun h18 => ?_) (fun h18 => ?_)
          · refine S.iinc (pc' := 27) (LL' := [_, _, _, _]) dX10_drawsOf_24 rfl (by decide) rfl rfl rfl ?_
            refine S.goto (pc' := 4) dX10_drawsOf_27 (by decide) ?_
            exact hi
          · exact absurd rfl h18
    · have e : vs.length = k := by omega
      rw [e]
      refine S.iload_n (pc' := 5) dX10_drawsOf_4 rfl rfl rfl ?_
      refine S.aload_n (pc' := 6) dX10_drawsOf_5 rfl rfl rfl ?_
      refine S.getI (pc' := 9) dX10_drawsOf_6 rfl fX10_24 (vs_lay vs27) ?_
      refine S.icmp_ge (pc' := 12) (tgt := 30) dX10_drawsOf_9 (by decide) rfl (by unfold fp_rng; omega) (by unfold fp_rng; omega) (fun h9 => ?_) (fun h9 => ?_)
      · refine S.iload_n (pc' := 31) dX10_drawsOf_30 rfl rfl rfl ?_
        refine S.iret dX10_drawsOf_31 rfl ?_
        exact ⟨rfl, rfl⟩
      · exfalso; omega
theorem rk_X10_drawsOf {p : Int} (hg : gOk g) (hvo : vsOk g vs) (hv : vsIs M 27 vs) (hp : fp_rng p) : fp_Ok l G 2 kX10_drawsOf [rV G 27, iV p] M (qE (aDrs vs p vs.length) M) := by
  refine fp_Ok.of (r := 2) rfl (Nat.le_of_ble_eq_true rfl) rfl ?_
  refine S.iconst (pc' := 1) dX10_drawsOf_0 rfl ?_
  refine S.istore_n (pc' := 2) (LL' := [_, _, _, _]) dX10_drawsOf_1 rfl (by decide) rfl rfl rfl ?_
  refine S.iconst (pc' := 3) dX10_drawsOf_2 rfl ?_
  refine S.istore_n (pc' := 4) (LL' := [_, _, _, _]) dX10_drawsOf_3 rfl (by decide) rfl rfl rfl ?_
  exact drs_loop hg hvo hv hp (vs.length + 1) 0 (by omega) (by omega)
theorem rk_X8_findMost {p : Int} (hg : gOk g) (hP : pgOk g pg) (hvo : vsOk g vs) (hp : 0 ≤ p ∧ p < 4) (hcl : clIs M 22 g pg) (hd : gdIs M 18 g) (hv : vsIs M 27 vs) : fp_Ok l G 16 kX8_findMost [rV G 34, rV G 18, rV G 27, rV G 22, iV p] M (qV fun N => moB vs N (aMo g pg vs p) ∧ frZ M N) := by
  have hl := hv.2.1
  refine fp_Ok.of (r := 0) rfl (Nat.le_of_ble_eq_true rfl) rfl ?_
  refine S.aload_n (pc' := 1) dX8_findMost_0 rfl rfl rfl ?_
  refine S.getR (pc' := 4) dX8_findMost_1 rfl fX8_11 L_34 rf_34_0 ?_
  refine S.iconst (pc' := 5) dX8_findMost_4 rfl ?_
  refine S.aald (pc' := 6) (t := 41) dX8_findMost_5 rfl L_35 (by decide) (by decide) (by omega) (by omega) (by decide +kernel) ?_
  refine S.aload_n (pc' := 7) dX8_findMost_6 rfl rfl rfl ?_
  refine S.callVv (pc' := 10) dX8_findMost_7 rfl cX8_36 (rk_X5_copyFrom (g := g) (pg := pg) pl41 pl22 (by omega)) rfl (pl_lay pl41) (by omega) rfl (Nat.le_of_ble_eq_true rfl) (fun M7 q7 => ?_)
  obtain ⟨c1, f1⟩ := q7
  refine S.aload_n (pc' := 11) dX8_findMost_10 rfl rfl rfl ?_
  refine S.bipush (pc' := 13) dX8_findMost_11 rfl (by decide) ?_
  refine S.putI (pc' := 16) dX8_findMost_13 rfl fX8_67 L_34 ?_
  refine S.aload_n (pc' := 17) dX8_findMost_16 rfl rfl rfl ?_
  refine S.getR (pc' := 20) dX8_findMost_17 rfl fX8_28 L_34 rf_34_5 ?_
  refine S.bipush (pc' := 22) dX8_findMost_20 rfl (by decide) ?_
  refine S.callSw (pc' := 25) dX8_findMost_22 rfl cX8_70 (ok_J7_fill_53178 L_39) rfl (by omega) rfl (Nat.le_of_ble_eq_true rfl) ?_
  generalize hN : fp_upM (fp_up M7 34 3 (-4)) 39 (fun j => if (j : Int) < (12 : Nat) then -4 else fp_up M7 34 3 (-4) 39 j) = N1
  have ff : ∀ a, a ≠ 34 → a ≠ 39 → N1 a = M7 a := fun a h4 h9 => by rw [← hN, fp_upM_ne h9, fp_up_ne h4]
  have n34 : N1 34 3 = -4 := by rw [← hN, fp_upM_ne (by decide), fp_up_at, fp_upf_at]
  have n39 : ∀ j : Int, 0 ≤ j → j < vs.length → N1 39 j.toNat = -4 := fun j j0 j1 => by rw [← hN, fp_upM_at, if_pos (by omega)]
  refine S.aload_n (pc' := 26) dX8_findMost_25 rfl rfl rfl ?_
  refine S.aload_n (pc' := 27) dX8_findMost_26 rfl rfl rfl ?_
  refine S.aload_n (pc' := 28) dX8_findMost_27 rfl rfl rfl ?_
  refine S.iload (pc' := 30) dX8_findMost_28 rfl rfl ?_
  refine S.iconst (pc' := 31) dX8_findMost_30 rfl ?_
  refine S.callVv (pc' := 34) dX8_findMost_31 rfl cX8_76 (rk_X8_tryLines hg hvo hl hp vs.length 0 pg (fun _ => -4) (-4, fun _ => 0) N1 (by omega) (by omega) hP (c1.kept (fun a q1 q2 => ff a (by omega) (by omega))) (hd.kept (fun a q1 q2 => by rw [ff a (by omega) (by omega)]; exact f1 a (by omega))) (hv.kept (fun a q1 q2 => by rw [ff a (by omega) (by omega)]; exact f1 a (by omega))) ⟨n34, fun q => absurd rfl q⟩ ⟨fun j j0 j1 => by omega, fun j j0 j1 _ => n39 j j0 j1⟩ (by decide)) rfl L_34 (by omega) rfl (Nat.le_of_ble_eq_true rfl) (fun M31 q31 => ?_)
  refine S.vret dX8_findMost_34 rfl ?_
  obtain ⟨t1, t2, t3⟩ := q31
  exact ⟨t1, fun a ha => by rw [t3 a (by omega), ff a (by omega) (by omega)]; exact f1 a (by omega)⟩
theorem cc_most {p w : Int} (hc : CS M tp fl g pg vs nt im sh tn) (ho : OK g pg vs nt im sh) (hp : fp_rng p) (hw : fp_rng w) : fp_Ok l G 17 kX11_most [rV G 0, iV p, iV w] M (qI fun z N => z = A_most g pg vs p w ∧ CS N tp fl g pg vs nt im sh tn ∧ frC M N) := by
  have hcs := hc
  obtain ⟨-, hd, hcl, hv, -⟩ := hc
  obtain ⟨hg, hP, hvo, -⟩ := ho
  have hl1 := hv.1
  have hl := hv.2.1
  have hg1 := hg.1
  have hg2 := hg.2.1
  have e1 : M 18 1 = g.2.1 := hd.2.1
  have hD := aDrs_in vs p vs.length
  have hw' := hw
  unfold fp_rng at hw'
  have cD := rk_X10_drawsOf (l := l) (G := G) hg hvo hv hp
  refine fp_Ok.of (r := 1) rfl (Nat.le_of_ble_eq_true rfl) rfl ?_
  unfold A_most
  by_cases hin : (0 ≤ p ∧ p < 4) ∧ (w = 0 ∨ (10 ≤ w ∧ w < 10 + vs.length))
  · rw [if_neg (fun q => q hin)]
    by_cases hst : g.2.1 = 0 ∨ 7 < aDrs vs p vs.length
    · rw [if_pos hst]
      refine S.iload_n (pc' := 1) dX11_most_0 rfl rfl rfl ?_
      refine S.bipush (pc' := 3) dX11_most_1 rfl (by decide) ?_
      refine S.icmp_lt (pc' := 6) (tgt := 24) dX11_most_3 (by decide) rfl hw (by unfold fp_rng; omega) (fun h3 => ?_) (fun h3 => ?_)
      · refine S.iconst (pc' := 25) dX11_most_24 rfl ?_
        refine S.istore_n (pc' := 26) (LL' := [_, _, _, _]) dX11_most_25 rfl (by decide) rfl rfl rfl ?_
        refine S.iload_n (pc' := 27) dX11_most_26 rfl rfl rfl ?_
        refine S.callSi (pc' := 30) dX11_most_27 rfl cX11_181 (bk_X11_isOne) rfl (by decide) rfl (Nat.le_of_ble_eq_true rfl) (fun z27 M27 q27 => ?_)
        obtain ⟨b27, rfl⟩ := q27
        refine S.if_eq (pc' := 33) (tgt := 41) dX11_most_30 (by decide) rfl (by unfold fp_rng; omega) (fun h30 => ?_) (fun h30 => ?_)
        · exfalso; omega
        · refine S.iload_n (pc' := 34) dX11_most_33 rfl rfl rfl ?_
          refine S.if_eq (pc' := 37) (tgt := 43) dX11_most_34 (by decide) rfl hw (fun h34 => ?_) (fun h34 => ?_)
          · refine S.aload_n (pc' := 44) dX11_most_43 rfl rfl rfl ?_
            refine S.getR (pc' := 47) dX11_most_44 rfl fX11_23 L_0 rf_0_3 ?_
            refine S.getI (pc' := 50) dX11_most_47 rfl fX11_225 (gd_lay gd18) ?_
            refine S.if_eq (pc' := 53) (tgt := 66) dX11_most_50 (by decide) rfl (by unfold fp_rng; omega) (fun h50 => ?_) (fun h50 => ?_)
            · refine S.bipush (pc' := 68) dX11_most_66 rfl (by decide) ?_
              refine S.iret dX11_most_68 rfl ?_
              exact ⟨rfl, hcs, frC.refl _⟩
            · refine S.aload_n (pc' := 54) dX11_most_53 rfl rfl rfl ?_
              refine S.getR (pc' := 57) dX11_most_54 rfl fX11_37 L_0 rf_0_5 ?_
              refine S.iload_n (pc' := 58) dX11_most_57 rfl rfl rfl ?_
              refine S.callVe (pc' := 61) dX11_most_58 rfl cX11_239 cD rfl (vs_lay vs27) (by decide) rfl (Nat.le_of_ble_eq_true rfl) ?_
              refine S.bipush (pc' := 63) dX11_most_61 rfl (by decide) ?_
              refine S.icmp_le (pc' := 66) (tgt := 69) dX11_most_63 (by decide) rfl (by unfold fp_rng; omega) (by unfold fp_rng; omega) (fun h63 => ?_) (fun h63 => ?_)
              · exfalso; omega
              · refine S.bipush (pc' := 68) dX11_most_66 rfl (by decide) ?_
                refine S.iret dX11_most_68 rfl ?_
                exact ⟨rfl, hcs, frC.refl _⟩
          · refine S.iload_n (pc' := 38) dX11_most_37 rfl rfl rfl ?_
            refine S.if_ne (pc' := 41) (tgt := 43) dX11_most_38 (by decide) rfl (by unfold fp_rng; omega) (fun h38 => ?_) (fun h38 => ?_)
            · refine S.aload_n (pc' := 44) dX11_most_43 rfl rfl rfl ?_
              refine S.getR (pc' := 47) dX11_most_44 rfl fX11_23 L_0 rf_0_3 ?_
              refine S.getI (pc' := 50) dX11_most_47 rfl fX11_225 (gd_lay gd18) ?_
              refine S.if_eq (pc' := 53) (tgt := 66) dX11_most_50 (by decide) rfl (by unfold fp_rng; omega) (fun h50 => ?_) (fun h50 => ?_)
              · refine S.bipush (pc' := 68) dX11_most_66 rfl (by decide) ?_
                refine S.iret dX11_most_68 rfl ?_
                exact ⟨rfl, hcs, frC.refl _⟩
              · refine S.aload_n (pc' := 54) dX11_most_53 rfl rfl rfl ?_
                refine S.getR (pc' := 57) dX11_most_54 rfl fX11_37 L_0 rf_0_5 ?_
                refine S.iload_n (pc' := 58) dX11_most_57 rfl rfl rfl ?_
                refine S.callVe (pc' := 61) dX11_most_58 rfl cX11_239 cD rfl (vs_lay vs27) (by decide) rfl (Nat.le_of_ble_eq_true rfl) ?_
                refine S.bipush (pc' := 63) dX11_most_61 rfl (by decide) ?_
                refine S.icmp_le (pc' := 66) (tgt := 69) dX11_most_63 (by decide) rfl (by unfold fp_rng; omega) (by unfold fp_rng; omega) (fun h63 => ?_) (fun h63 => ?_)
                · exfalso; omega
                · refine S.bipush (pc' := 68) dX11_most_66 rfl (by decide) ?_
                  refine S.iret dX11_most_68 rfl ?_
                  exact ⟨rfl, hcs, frC.refl _⟩
            · exfalso; omega
      · refine S.aload_n (pc' := 7) dX11_most_6 rfl rfl rfl ?_
        refine S.getR (pc' := 10) dX11_most_7 rfl fX11_37 L_0 rf_0_5 ?_
        refine S.iload_n (pc' := 11) dX11_most_10 rfl rfl rfl ?_
        refine S.bipush (pc' := 13) dX11_most_11 rfl (by decide) ?_
        refine S.isub (pc' := 14) dX11_most_13 rfl ?_
        refine S.callVi (pc' := 17) dX11_most_14 rfl cX11_163 (bk_X10_has vs27) rfl (vs_lay vs27) (by decide) rfl (Nat.le_of_ble_eq_true rfl) (fun z14 M14 q14 => ?_)
        obtain ⟨b14, rfl⟩ := q14
        refine S.if_eq (pc' := 20) (tgt := 24) dX11_most_17 (by decide) rfl (by unfold fp_rng; omega) (fun h17 => ?_) (fun h17 => ?_)
        · refine S.iconst (pc' := 25) dX11_most_24 rfl ?_
          refine S.istore_n (pc' := 26) (LL' := [_, _, _, _]) dX11_most_25 rfl (by decide) rfl rfl rfl ?_
          refine S.iload_n (pc' := 27) dX11_most_26 rfl rfl rfl ?_
          refine S.callSi (pc' := 30) dX11_most_27 rfl cX11_181 (bk_X11_isOne) rfl (by decide) rfl (Nat.le_of_ble_eq_true rfl) (fun z27 M27 q27 => ?_)
          obtain ⟨b27, rfl⟩ := q27
          refine S.if_eq (pc' := 33) (tgt := 41) dX11_most_30 (by decide) rfl (by unfold fp_rng; omega) (fun h30 => ?_) (fun h30 => ?_)
          · exfalso; omega
          · refine S.iload_n (pc' := 34) dX11_most_33 rfl rfl rfl ?_
            refine S.if_eq (pc' := 37) (tgt := 43) dX11_most_34 (by decide) rfl hw (fun h34 => ?_) (fun h34 => ?_)
            · refine S.aload_n (pc' := 44) dX11_most_43 rfl rfl rfl ?_
              refine S.getR (pc' := 47) dX11_most_44 rfl fX11_23 L_0 rf_0_3 ?_
              refine S.getI (pc' := 50) dX11_most_47 rfl fX11_225 (gd_lay gd18) ?_
              refine S.if_eq (pc' := 53) (tgt := 66) dX11_most_50 (by decide) rfl (by unfold fp_rng; omega) (fun h50 => ?_) (fun h50 => ?_)
              · refine S.bipush (pc' := 68) dX11_most_66 rfl (by decide) ?_
                refine S.iret dX11_most_68 rfl ?_
                exact ⟨rfl, hcs, frC.refl _⟩
              · refine S.aload_n (pc' := 54) dX11_most_53 rfl rfl rfl ?_
                refine S.getR (pc' := 57) dX11_most_54 rfl fX11_37 L_0 rf_0_5 ?_
                refine S.iload_n (pc' := 58) dX11_most_57 rfl rfl rfl ?_
                refine S.callVe (pc' := 61) dX11_most_58 rfl cX11_239 cD rfl (vs_lay vs27) (by decide) rfl (Nat.le_of_ble_eq_true rfl) ?_
                refine S.bipush (pc' := 63) dX11_most_61 rfl (by decide) ?_
                refine S.icmp_le (pc' := 66) (tgt := 69) dX11_most_63 (by decide) rfl (by unfold fp_rng; omega) (by unfold fp_rng; omega) (fun h63 => ?_) (fun h63 => ?_)
                · exfalso; omega
                · refine S.bipush (pc' := 68) dX11_most_66 rfl (by decide) ?_
                  refine S.iret dX11_most_68 rfl ?_
                  exact ⟨rfl, hcs, frC.refl _⟩
            · refine S.iload_n (pc' := 38) dX11_most_37 rfl rfl rfl ?_
              refine S.if_ne (pc' := 41) (tgt := 43) dX11_most_38 (by decide) rfl (by unfold fp_rng; omega) (fun h38 => ?_) (fun h38 => ?_)
              · refine S.aload_n (pc' := 44) dX11_most_43 rfl rfl rfl ?_
                refine S.getR (pc' := 47) dX11_most_44 rfl fX11_23 L_0 rf_0_3 ?_
                refine S.getI (pc' := 50) dX11_most_47 rfl fX11_225 (gd_lay gd18) ?_
                refine S.if_eq (pc' := 53) (tgt := 66) dX11_most_50 (by decide) rfl (by unfold fp_rng; omega) (fun h50 => ?_) (fun h50 => ?_)
                · refine S.bipush (pc' := 68) dX11_most_66 rfl (by decide) ?_
                  refine S.iret dX11_most_68 rfl ?_
                  exact ⟨rfl, hcs, frC.refl _⟩
                · refine S.aload_n (pc' := 54) dX11_most_53 rfl rfl rfl ?_
                  refine S.getR (pc' := 57) dX11_most_54 rfl fX11_37 L_0 rf_0_5 ?_
                  refine S.iload_n (pc' := 58) dX11_most_57 rfl rfl rfl ?_
                  refine S.callVe (pc' := 61) dX11_most_58 rfl cX11_239 cD rfl (vs_lay vs27) (by decide) rfl (Nat.le_of_ble_eq_true rfl) ?_
                  refine S.bipush (pc' := 63) dX11_most_61 rfl (by decide) ?_
                  refine S.icmp_le (pc' := 66) (tgt := 69) dX11_most_63 (by decide) rfl (by unfold fp_rng; omega) (by unfold fp_rng; omega) (fun h63 => ?_) (fun h63 => ?_)
                  · exfalso; omega
                  · refine S.bipush (pc' := 68) dX11_most_66 rfl (by decide) ?_
                    refine S.iret dX11_most_68 rfl ?_
                    exact ⟨rfl, hcs, frC.refl _⟩
              · exfalso; omega
        · refine S.iconst (pc' := 21) dX11_most_20 rfl ?_
          refine S.goto (pc' := 25) dX11_most_21 (by decide) ?_
          refine S.istore_n (pc' := 26) (LL' := [_, _, _, _]) dX11_most_25 rfl (by decide) rfl rfl rfl ?_
          refine S.iload_n (pc' := 27) dX11_most_26 rfl rfl rfl ?_
          refine S.callSi (pc' := 30) dX11_most_27 rfl cX11_181 (bk_X11_isOne) rfl (by decide) rfl (Nat.le_of_ble_eq_true rfl) (fun z27 M27 q27 => ?_)
          obtain ⟨b27, rfl⟩ := q27
          refine S.if_eq (pc' := 33) (tgt := 41) dX11_most_30 (by decide) rfl (by unfold fp_rng; omega) (fun h30 => ?_) (fun h30 => ?_)
          · exfalso; omega
          · refine S.iload_n (pc' := 34) dX11_most_33 rfl rfl rfl ?_
            refine S.if_eq (pc' := 37) (tgt := 43) dX11_most_34 (by decide) rfl hw (fun h34 => ?_) (fun h34 => ?_)
            · refine S.aload_n (pc' := 44) dX11_most_43 rfl rfl rfl ?_
              refine S.getR (pc' := 47) dX11_most_44 rfl fX11_23 L_0 rf_0_3 ?_
              refine S.getI (pc' := 50) dX11_most_47 rfl fX11_225 (gd_lay gd18) ?_
              refine S.if_eq (pc' := 53) (tgt := 66) dX11_most_50 (by decide) rfl (by unfold fp_rng; omega) (fun h50 => ?_) (fun h50 => ?_)
              · refine S.bipush (pc' := 68) dX11_most_66 rfl (by decide) ?_
                refine S.iret dX11_most_68 rfl ?_
                exact ⟨rfl, hcs, frC.refl _⟩
              · refine S.aload_n (pc' := 54) dX11_most_53 rfl rfl rfl ?_
                refine S.getR (pc' := 57) dX11_most_54 rfl fX11_37 L_0 rf_0_5 ?_
                refine S.iload_n (pc' := 58) dX11_most_57 rfl rfl rfl ?_
                refine S.callVe (pc' := 61) dX11_most_58 rfl cX11_239 cD rfl (vs_lay vs27) (by decide) rfl (Nat.le_of_ble_eq_true rfl) ?_
                refine S.bipush (pc' := 63) dX11_most_61 rfl (by decide) ?_
                refine S.icmp_le (pc' := 66) (tgt := 69) dX11_most_63 (by decide) rfl (by unfold fp_rng; omega) (by unfold fp_rng; omega) (fun h63 => ?_) (fun h63 => ?_)
                · exfalso; omega
                · refine S.bipush (pc' := 68) dX11_most_66 rfl (by decide) ?_
                  refine S.iret dX11_most_68 rfl ?_
                  exact ⟨rfl, hcs, frC.refl _⟩
            · refine S.iload_n (pc' := 38) dX11_most_37 rfl rfl rfl ?_
              refine S.if_ne (pc' := 41) (tgt := 43) dX11_most_38 (by decide) rfl (by unfold fp_rng; omega) (fun h38 => ?_) (fun h38 => ?_)
              · refine S.aload_n (pc' := 44) dX11_most_43 rfl rfl rfl ?_
                refine S.getR (pc' := 47) dX11_most_44 rfl fX11_23 L_0 rf_0_3 ?_
                refine S.getI (pc' := 50) dX11_most_47 rfl fX11_225 (gd_lay gd18) ?_
                refine S.if_eq (pc' := 53) (tgt := 66) dX11_most_50 (by decide) rfl (by unfold fp_rng; omega) (fun h50 => ?_) (fun h50 => ?_)
                · refine S.bipush (pc' := 68) dX11_most_66 rfl (by decide) ?_
                  refine S.iret dX11_most_68 rfl ?_
                  exact ⟨rfl, hcs, frC.refl _⟩
                · refine S.aload_n (pc' := 54) dX11_most_53 rfl rfl rfl ?_
                  refine S.getR (pc' := 57) dX11_most_54 rfl fX11_37 L_0 rf_0_5 ?_
                  refine S.iload_n (pc' := 58) dX11_most_57 rfl rfl rfl ?_
                  refine S.callVe (pc' := 61) dX11_most_58 rfl cX11_239 cD rfl (vs_lay vs27) (by decide) rfl (Nat.le_of_ble_eq_true rfl) ?_
                  refine S.bipush (pc' := 63) dX11_most_61 rfl (by decide) ?_
                  refine S.icmp_le (pc' := 66) (tgt := 69) dX11_most_63 (by decide) rfl (by unfold fp_rng; omega) (by unfold fp_rng; omega) (fun h63 => ?_) (fun h63 => ?_)
                  · exfalso; omega
                  · refine S.bipush (pc' := 68) dX11_most_66 rfl (by decide) ?_
                    refine S.iret dX11_most_68 rfl ?_
                    exact ⟨rfl, hcs, frC.refl _⟩
              · exfalso; omega
    · rw [if_neg hst]
      have hup := (moC_up (vs := vs) hg hin.1 (by omega) vs.length 0 pg (fun _ => -4) (-4, fun _ => 0)).1
      have hup2 : (aMo g pg vs p).1 ≠ -4 := by unfold aMo; omega
      have h93 : w ≠ 0 → ∀ (N : fp_Mem) (z3 : Int), moB vs N (aMo g pg vs p) → frZ M N → fp_S l G 17 kX11_most 93 [some (rV G 0), some (iV p), some (iV w), some (iV z3)] [] N (qI fun z N => z = (if w = 0 then (aMo g pg vs p).1 else (aMo g pg vs p).2 (w - 10)) ∧ CS N tp fl g pg vs nt im sh tn ∧ frC M N) := by
        intro w0 N z3 t1 f1
        refine S.aload_n (pc' := 94) dX11_most_93 rfl rfl rfl ?_
        refine S.getR (pc' := 97) dX11_most_94 rfl fX11_51 L_0 rf_0_7 ?_
        refine S.getR (pc' := 100) dX11_most_97 rfl fX11_246 L_34 rf_34_4 ?_
        refine S.iload_n (pc' := 101) dX11_most_100 rfl rfl rfl ?_
        refine S.bipush (pc' := 103) dX11_most_101 rfl (by decide) ?_
        refine S.isub (pc' := 104) dX11_most_103 rfl ?_
        refine S.iald (pc' := 105) dX11_most_104 rfl L_38 (by omega) (by omega) ?_
        refine S.goto (pc' := 115) dX11_most_105 (by decide) ?_
        refine S.iret dX11_most_115 rfl ?_
        exact ⟨by rw [if_neg w0]; exact t1.2 hup2 (w - 10) (by omega) (by omega), hcs.scz f1, f1.c⟩
      have h108 : w = 0 → ∀ (N : fp_Mem) (z3 : Int), moB vs N (aMo g pg vs p) → frZ M N → fp_S l G 17 kX11_most 108 [some (rV G 0), some (iV p), some (iV w), some (iV z3)] [] N (qI fun z N => z = (if w = 0 then (aMo g pg vs p).1 else (aMo g pg vs p).2 (w - 10)) ∧ CS N tp fl g pg vs nt im sh tn ∧ frC M N) := by
        intro w0 N z3 t1 f1
        refine S.aload_n (pc' := 109) dX11_most_108 rfl rfl rfl ?_
        refine S.getR (pc' := 112) dX11_most_109 rfl fX11_51 L_0 rf_0_7 ?_
        refine S.getI (pc' := 115) dX11_most_112 rfl fX11_249 L_34 ?_
        refine S.iret dX11_most_115 rfl ?_
        exact ⟨by rw [if_pos w0]; exact t1.1, hcs.scz f1, f1.c⟩
      refine S.iload_n (pc' := 1) dX11_most_0 rfl rfl rfl ?_
      refine S.bipush (pc' := 3) dX11_most_1 rfl (by decide) ?_
      refine S.icmp_lt (pc' := 6) (tgt := 24) dX11_most_3 (by decide) rfl hw (by unfold fp_rng; omega) (fun h3 => ?_) (fun h3 => ?_)
      · refine S.iconst (pc' := 25) dX11_most_24 rfl ?_
        refine S.istore_n (pc' := 26) (LL' := [_, _, _, _]) dX11_most_25 rfl (by decide) rfl rfl rfl ?_
        refine S.iload_n (pc' := 27) dX11_most_26 rfl rfl rfl ?_
        refine S.callSi (pc' := 30) dX11_most_27 rfl cX11_181 (bk_X11_isOne) rfl (by decide) rfl (Nat.le_of_ble_eq_true rfl) (fun z27 M27 q27 => ?_)
        obtain ⟨b27, rfl⟩ := q27
        refine S.if_eq (pc' := 33) (tgt := 41) dX11_most_30 (by decide) rfl (by unfold fp_rng; omega) (fun h30 => ?_) (fun h30 => ?_)
        · exfalso; omega
        · refine S.iload_n (pc' := 34) dX11_most_33 rfl rfl rfl ?_
          refine S.if_eq (pc' := 37) (tgt := 43) dX11_most_34 (by decide) rfl hw (fun h34 => ?_) (fun h34 => ?_)
          · refine S.aload_n (pc' := 44) dX11_most_43 rfl rfl rfl ?_
            refine S.getR (pc' := 47) dX11_most_44 rfl fX11_23 L_0 rf_0_3 ?_
            refine S.getI (pc' := 50) dX11_most_47 rfl fX11_225 (gd_lay gd18) ?_
            refine S.if_eq (pc' := 53) (tgt := 66) dX11_most_50 (by decide) rfl (by unfold fp_rng; omega) (fun h50 => ?_) (fun h50 => ?_)
            · exfalso; omega
            · refine S.aload_n (pc' := 54) dX11_most_53 rfl rfl rfl ?_
              refine S.getR (pc' := 57) dX11_most_54 rfl fX11_37 L_0 rf_0_5 ?_
              refine S.iload_n (pc' := 58) dX11_most_57 rfl rfl rfl ?_
              refine S.callVe (pc' := 61) dX11_most_58 rfl cX11_239 cD rfl (vs_lay vs27) (by decide) rfl (Nat.le_of_ble_eq_true rfl) ?_
              refine S.bipush (pc' := 63) dX11_most_61 rfl (by decide) ?_
              refine S.icmp_le (pc' := 66) (tgt := 69) dX11_most_63 (by decide) rfl (by unfold fp_rng; omega) (by unfold fp_rng; omega) (fun h63 => ?_) (fun h63 => ?_)
              · refine S.aload_n (pc' := 70) dX11_most_69 rfl rfl rfl ?_
                refine S.getR (pc' := 73) dX11_most_70 rfl fX11_51 L_0 rf_0_7 ?_
                refine S.aload_n (pc' := 74) dX11_most_73 rfl rfl rfl ?_
                refine S.getR (pc' := 77) dX11_most_74 rfl fX11_23 L_0 rf_0_3 ?_
                refine S.aload_n (pc' := 78) dX11_most_77 rfl rfl rfl ?_
                refine S.getR (pc' := 81) dX11_most_78 rfl fX11_37 L_0 rf_0_5 ?_
                refine S.aload_n (pc' := 82) dX11_most_81 rfl rfl rfl ?_
                refine S.getR (pc' := 85) dX11_most_82 rfl fX11_30 L_0 rf_0_4 ?_
                refine S.iload_n (pc' := 86) dX11_most_85 rfl rfl rfl ?_
                refine S.callVv (pc' := 89) dX11_most_86 rfl cX11_242 (rk_X8_findMost hg hP hvo hin.1 hcl hd hv) rfl L_34 (by decide) rfl (Nat.le_of_ble_eq_true rfl) (fun M86 q86 => ?_)
                obtain ⟨t1, f1⟩ := q86
                refine S.iload_n (pc' := 90) dX11_most_89 rfl rfl rfl ?_
                refine S.if_eq (pc' := 93) (tgt := 108) dX11_most_90 (by decide) rfl (by unfold fp_rng; omega) (fun h90 => ?_) (fun h90 => ?_)
                · first
                  | (exfalso; omega)
                  | exact h108 (by omega) _ _ t1 f1
                · first
                  | (exfalso; omega)
                  | exact h93 (by omega) _ _ t1 f1
              · exfalso; omega
          · refine S.iload_n (pc' := 38) dX11_most_37 rfl rfl rfl ?_
            refine S.if_ne (pc' := 41) (tgt := 43) dX11_most_38 (by decide) rfl (by unfold fp_rng; omega) (fun h38 => ?_) (fun h38 => ?_)
            · refine S.aload_n (pc' := 44) dX11_most_43 rfl rfl rfl ?_
              refine S.getR (pc' := 47) dX11_most_44 rfl fX11_23 L_0 rf_0_3 ?_
              refine S.getI (pc' := 50) dX11_most_47 rfl fX11_225 (gd_lay gd18) ?_
              refine S.if_eq (pc' := 53) (tgt := 66) dX11_most_50 (by decide) rfl (by unfold fp_rng; omega) (fun h50 => ?_) (fun h50 => ?_)
              · exfalso; omega
              · refine S.aload_n (pc' := 54) dX11_most_53 rfl rfl rfl ?_
                refine S.getR (pc' := 57) dX11_most_54 rfl fX11_37 L_0 rf_0_5 ?_
                refine S.iload_n (pc' := 58) dX11_most_57 rfl rfl rfl ?_
                refine S.callVe (pc' := 61) dX11_most_58 rfl cX11_239 cD rfl (vs_lay vs27) (by decide) rfl (Nat.le_of_ble_eq_true rfl) ?_
                refine S.bipush (pc' := 63) dX11_most_61 rfl (by decide) ?_
                refine S.icmp_le (pc' := 66) (tgt := 69) dX11_most_63 (by decide) rfl (by unfold fp_rng; omega) (by unfold fp_rng; omega) (fun h63 => ?_) (fun h63 => ?_)
                · refine S.aload_n (pc' := 70) dX11_most_69 rfl rfl rfl ?_
                  refine S.getR (pc' := 73) dX11_most_70 rfl fX11_51 L_0 rf_0_7 ?_
                  refine S.aload_n (pc' := 74) dX11_most_73 rfl rfl rfl ?_
                  refine S.getR (pc' := 77) dX11_most_74 rfl fX11_23 L_0 rf_0_3 ?_
                  refine S.aload_n (pc' := 78) dX11_most_77 rfl rfl rfl ?_
                  refine S.getR (pc' := 81) dX11_most_78 rfl fX11_37 L_0 rf_0_5 ?_
                  refine S.aload_n (pc' := 82) dX11_most_81 rfl rfl rfl ?_
                  refine S.getR (pc' := 85) dX11_most_82 rfl fX11_30 L_0 rf_0_4 ?_
                  refine S.iload_n (pc' := 86) dX11_most_85 rfl rfl rfl ?_
                  refine S.callVv (pc' := 89) dX11_most_86 rfl cX11_242 (rk_X8_findMost hg hP hvo hin.1 hcl hd hv) rfl L_34 (by decide) rfl (Nat.le_of_ble_eq_true rfl) (fun M86 q86 => ?_)
                  obtain ⟨t1, f1⟩ := q86
                  refine S.iload_n (pc' := 90) dX11_most_89 rfl rfl rfl ?_
                  refine S.if_eq (pc' := 93) (tgt := 108) dX11_most_90 (by decide) rfl (by unfold fp_rng; omega) (fun h90 => ?_) (fun h90 => ?_)
                  · first
                    | (exfalso; omega)
                    | exact h108 (by omega) _ _ t1 f1
                  · first
                    | (exfalso; omega)
                    | exact h93 (by omega) _ _ t1 f1
                · exfalso; omega
            · exfalso; omega
      · refine S.aload_n (pc' := 7) dX11_most_6 rfl rfl rfl ?_
        refine S.getR (pc' := 10) dX11_most_7 rfl fX11_37 L_0 rf_0_5 ?_
        refine S.iload_n (pc' := 11) dX11_most_10 rfl rfl rfl ?_
        refine S.bipush (pc' := 13) dX11_most_11 rfl (by decide) ?_
        refine S.isub (pc' := 14) dX11_most_13 rfl ?_
        refine S.callVi (pc' := 17) dX11_most_14 rfl cX11_163 (bk_X10_has vs27) rfl (vs_lay vs27) (by decide) rfl (Nat.le_of_ble_eq_true rfl) (fun z14 M14 q14 => ?_)
        obtain ⟨b14, rfl⟩ := q14
        refine S.if_eq (pc' := 20) (tgt := 24) dX11_most_17 (by decide) rfl (by unfold fp_rng; omega) (fun h17 => ?_) (fun h17 => ?_)
        · refine S.iconst (pc' := 25) dX11_most_24 rfl ?_
          refine S.istore_n (pc' := 26) (LL' := [_, _, _, _]) dX11_most_25 rfl (by decide) rfl rfl rfl ?_
          refine S.iload_n (pc' := 27) dX11_most_26 rfl rfl rfl ?_
          refine S.callSi (pc' := 30) dX11_most_27 rfl cX11_181 (bk_X11_isOne) rfl (by decide) rfl (Nat.le_of_ble_eq_true rfl) (fun z27 M27 q27 => ?_)
          obtain ⟨b27, rfl⟩ := q27
          refine S.if_eq (pc' := 33) (tgt := 41) dX11_most_30 (by decide) rfl (by unfold fp_rng; omega) (fun h30 => ?_) (fun h30 => ?_)
          · exfalso; omega
          · refine S.iload_n (pc' := 34) dX11_most_33 rfl rfl rfl ?_
            refine S.if_eq (pc' := 37) (tgt := 43) dX11_most_34 (by decide) rfl hw (fun h34 => ?_) (fun h34 => ?_)
            · refine S.aload_n (pc' := 44) dX11_most_43 rfl rfl rfl ?_
              refine S.getR (pc' := 47) dX11_most_44 rfl fX11_23 L_0 rf_0_3 ?_
              refine S.getI (pc' := 50) dX11_most_47 rfl fX11_225 (gd_lay gd18) ?_
              refine S.if_eq (pc' := 53) (tgt := 66) dX11_most_50 (by decide) rfl (by unfold fp_rng; omega) (fun h50 => ?_) (fun h50 => ?_)
              · exfalso; omega
              · refine S.aload_n (pc' := 54) dX11_most_53 rfl rfl rfl ?_
                refine S.getR (pc' := 57) dX11_most_54 rfl fX11_37 L_0 rf_0_5 ?_
                refine S.iload_n (pc' := 58) dX11_most_57 rfl rfl rfl ?_
                refine S.callVe (pc' := 61) dX11_most_58 rfl cX11_239 cD rfl (vs_lay vs27) (by decide) rfl (Nat.le_of_ble_eq_true rfl) ?_
                refine S.bipush (pc' := 63) dX11_most_61 rfl (by decide) ?_
                refine S.icmp_le (pc' := 66) (tgt := 69) dX11_most_63 (by decide) rfl (by unfold fp_rng; omega) (by unfold fp_rng; omega) (fun h63 => ?_) (fun h63 => ?_)
                · refine S.aload_n (pc' := 70) dX11_most_69 rfl rfl rfl ?_
                  refine S.getR (pc' := 73) dX11_most_70 rfl fX11_51 L_0 rf_0_7 ?_
                  refine S.aload_n (pc' := 74) dX11_most_73 rfl rfl rfl ?_
                  refine S.getR (pc' := 77) dX11_most_74 rfl fX11_23 L_0 rf_0_3 ?_
                  refine S.aload_n (pc' := 78) dX11_most_77 rfl rfl rfl ?_
                  refine S.getR (pc' := 81) dX11_most_78 rfl fX11_37 L_0 rf_0_5 ?_
                  refine S.aload_n (pc' := 82) dX11_most_81 rfl rfl rfl ?_
                  refine S.getR (pc' := 85) dX11_most_82 rfl fX11_30 L_0 rf_0_4 ?_
                  refine S.iload_n (pc' := 86) dX11_most_85 rfl rfl rfl ?_
                  refine S.callVv (pc' := 89) dX11_most_86 rfl cX11_242 (rk_X8_findMost hg hP hvo hin.1 hcl hd hv) rfl L_34 (by decide) rfl (Nat.le_of_ble_eq_true rfl) (fun M86 q86 => ?_)
                  obtain ⟨t1, f1⟩ := q86
                  refine S.iload_n (pc' := 90) dX11_most_89 rfl rfl rfl ?_
                  refine S.if_eq (pc' := 93) (tgt := 108) dX11_most_90 (by decide) rfl (by unfold fp_rng; omega) (fun h90 => ?_) (fun h90 => ?_)
                  · first
                    | (exfalso; omega)
                    | exact h108 (by omega) _ _ t1 f1
                  · first
                    | (exfalso; omega)
                    | exact h93 (by omega) _ _ t1 f1
                · exfalso; omega
            · refine S.iload_n (pc' := 38) dX11_most_37 rfl rfl rfl ?_
              refine S.if_ne (pc' := 41) (tgt := 43) dX11_most_38 (by decide) rfl (by unfold fp_rng; omega) (fun h38 => ?_) (fun h38 => ?_)
              · refine S.aload_n (pc' := 44) dX11_most_43 rfl rfl rfl ?_
                refine S.getR (pc' := 47) dX11_most_44 rfl fX11_23 L_0 rf_0_3 ?_
                refine S.getI (pc' := 50) dX11_most_47 rfl fX11_225 (gd_lay gd18) ?_
                refine S.if_eq (pc' := 53) (tgt := 66) dX11_most_50 (by decide) rfl (by unfold fp_rng; omega) (fun h50 => ?_) (fun h50 => ?_)
                · exfalso; omega
                · refine S.aload_n (pc' := 54) dX11_most_53 rfl rfl rfl ?_
                  refine S.getR (pc' := 57) dX11_most_54 rfl fX11_37 L_0 rf_0_5 ?_
                  refine S.iload_n (pc' := 58) dX11_most_57 rfl rfl rfl ?_
                  refine S.callVe (pc' := 61) dX11_most_58 rfl cX11_239 cD rfl (vs_lay vs27) (by decide) rfl (Nat.le_of_ble_eq_true rfl) ?_
                  refine S.bipush (pc' := 63) dX11_most_61 rfl (by decide) ?_
                  refine S.icmp_le (pc' := 66) (tgt := 69) dX11_most_63 (by decide) rfl (by unfold fp_rng; omega) (by unfold fp_rng; omega) (fun h63 => ?_) (fun h63 => ?_)
                  · refine S.aload_n (pc' := 70) dX11_most_69 rfl rfl rfl ?_
                    refine S.getR (pc' := 73) dX11_most_70 rfl fX11_51 L_0 rf_0_7 ?_
                    refine S.aload_n (pc' := 74) dX11_most_73 rfl rfl rfl ?_
                    refine S.getR (pc' := 77) dX11_most_74 rfl fX11_23 L_0 rf_0_3 ?_
                    refine S.aload_n (pc' := 78) dX11_most_77 rfl rfl rfl ?_
                    refine S.getR (pc' := 81) dX11_most_78 rfl fX11_37 L_0 rf_0_5 ?_
                    refine S.aload_n (pc' := 82) dX11_most_81 rfl rfl rfl ?_
                    refine S.getR (pc' := 85) dX11_most_82 rfl fX11_30 L_0 rf_0_4 ?_
                    refine S.iload_n (pc' := 86) dX11_most_85 rfl rfl rfl ?_
                    refine S.callVv (pc' := 89) dX11_most_86 rfl cX11_242 (rk_X8_findMost hg hP hvo hin.1 hcl hd hv) rfl L_34 (by decide) rfl (Nat.le_of_ble_eq_true rfl) (fun M86 q86 => ?_)
                    obtain ⟨t1, f1⟩ := q86
                    refine S.iload_n (pc' := 90) dX11_most_89 rfl rfl rfl ?_
                    refine S.if_eq (pc' := 93) (tgt := 108) dX11_most_90 (by decide) rfl (by unfold fp_rng; omega) (fun h90 => ?_) (fun h90 => ?_)
                    · first
                      | (exfalso; omega)
                      | exact h108 (by omega) _ _ t1 f1
                    · first
                      | (exfalso; omega)
                      | exact h93 (by omega) _ _ t1 f1
                  · exfalso; omega
              · exfalso; omega
        · refine S.iconst (pc' := 21) dX11_most_20 rfl ?_
          refine S.goto (pc' := 25) dX11_most_21 (by decide) ?_
          refine S.istore_n (pc' := 26) (LL' := [_, _, _, _]) dX11_most_25 rfl (by decide) rfl rfl rfl ?_
          refine S.iload_n (pc' := 27) dX11_most_26 rfl rfl rfl ?_
          refine S.callSi (pc' := 30) dX11_most_27 rfl cX11_181 (bk_X11_isOne) rfl (by decide) rfl (Nat.le_of_ble_eq_true rfl) (fun z27 M27 q27 => ?_)
          obtain ⟨b27, rfl⟩ := q27
          refine S.if_eq (pc' := 33) (tgt := 41) dX11_most_30 (by decide) rfl (by unfold fp_rng; omega) (fun h30 => ?_) (fun h30 => ?_)
          · exfalso; omega
          · refine S.iload_n (pc' := 34) dX11_most_33 rfl rfl rfl ?_
            refine S.if_eq (pc' := 37) (tgt := 43) dX11_most_34 (by decide) rfl hw (fun h34 => ?_) (fun h34 => ?_)
            · refine S.aload_n (pc' := 44) dX11_most_43 rfl rfl rfl ?_
              refine S.getR (pc' := 47) dX11_most_44 rfl fX11_23 L_0 rf_0_3 ?_
              refine S.getI (pc' := 50) dX11_most_47 rfl fX11_225 (gd_lay gd18) ?_
              refine S.if_eq (pc' := 53) (tgt := 66) dX11_most_50 (by decide) rfl (by unfold fp_rng; omega) (fun h50 => ?_) (fun h50 => ?_)
              · exfalso; omega
              · refine S.aload_n (pc' := 54) dX11_most_53 rfl rfl rfl ?_
                refine S.getR (pc' := 57) dX11_most_54 rfl fX11_37 L_0 rf_0_5 ?_
                refine S.iload_n (pc' := 58) dX11_most_57 rfl rfl rfl ?_
                refine S.callVe (pc' := 61) dX11_most_58 rfl cX11_239 cD rfl (vs_lay vs27) (by decide) rfl (Nat.le_of_ble_eq_true rfl) ?_
                refine S.bipush (pc' := 63) dX11_most_61 rfl (by decide) ?_
                refine S.icmp_le (pc' := 66) (tgt := 69) dX11_most_63 (by decide) rfl (by unfold fp_rng; omega) (by unfold fp_rng; omega) (fun h63 => ?_) (fun h63 => ?_)
                · refine S.aload_n (pc' := 70) dX11_most_69 rfl rfl rfl ?_
                  refine S.getR (pc' := 73) dX11_most_70 rfl fX11_51 L_0 rf_0_7 ?_
                  refine S.aload_n (pc' := 74) dX11_most_73 rfl rfl rfl ?_
                  refine S.getR (pc' := 77) dX11_most_74 rfl fX11_23 L_0 rf_0_3 ?_
                  refine S.aload_n (pc' := 78) dX11_most_77 rfl rfl rfl ?_
                  refine S.getR (pc' := 81) dX11_most_78 rfl fX11_37 L_0 rf_0_5 ?_
                  refine S.aload_n (pc' := 82) dX11_most_81 rfl rfl rfl ?_
                  refine S.getR (pc' := 85) dX11_most_82 rfl fX11_30 L_0 rf_0_4 ?_
                  refine S.iload_n (pc' := 86) dX11_most_85 rfl rfl rfl ?_
                  refine S.callVv (pc' := 89) dX11_most_86 rfl cX11_242 (rk_X8_findMost hg hP hvo hin.1 hcl hd hv) rfl L_34 (by decide) rfl (Nat.le_of_ble_eq_true rfl) (fun M86 q86 => ?_)
                  obtain ⟨t1, f1⟩ := q86
                  refine S.iload_n (pc' := 90) dX11_most_89 rfl rfl rfl ?_
                  refine S.if_eq (pc' := 93) (tgt := 108) dX11_most_90 (by decide) rfl (by unfold fp_rng; omega) (fun h90 => ?_) (fun h90 => ?_)
                  · first
                    | (exfalso; omega)
                    | exact h108 (by omega) _ _ t1 f1
                  · first
                    | (exfalso; omega)
                    | exact h93 (by omega) _ _ t1 f1
                · exfalso; omega
            · refine S.iload_n (pc' := 38) dX11_most_37 rfl rfl rfl ?_
              refine S.if_ne (pc' := 41) (tgt := 43) dX11_most_38 (by decide) rfl (by unfold fp_rng; omega) (fun h38 => ?_) (fun h38 => ?_)
              · refine S.aload_n (pc' := 44) dX11_most_43 rfl rfl rfl ?_
                refine S.getR (pc' := 47) dX11_most_44 rfl fX11_23 L_0 rf_0_3 ?_
                refine S.getI (pc' := 50) dX11_most_47 rfl fX11_225 (gd_lay gd18) ?_
                refine S.if_eq (pc' := 53) (tgt := 66) dX11_most_50 (by decide) rfl (by unfold fp_rng; omega) (fun h50 => ?_) (fun h50 => ?_)
                · exfalso; omega
                · refine S.aload_n (pc' := 54) dX11_most_53 rfl rfl rfl ?_
                  refine S.getR (pc' := 57) dX11_most_54 rfl fX11_37 L_0 rf_0_5 ?_
                  refine S.iload_n (pc' := 58) dX11_most_57 rfl rfl rfl ?_
                  refine S.callVe (pc' := 61) dX11_most_58 rfl cX11_239 cD rfl (vs_lay vs27) (by decide) rfl (Nat.le_of_ble_eq_true rfl) ?_
                  refine S.bipush (pc' := 63) dX11_most_61 rfl (by decide) ?_
                  refine S.icmp_le (pc' := 66) (tgt := 69) dX11_most_63 (by decide) rfl (by unfold fp_rng; omega) (by unfold fp_rng; omega) (fun h63 => ?_) (fun h63 => ?_)
                  · refine S.aload_n (pc' := 70) dX11_most_69 rfl rfl rfl ?_
                    refine S.getR (pc' := 73) dX11_most_70 rfl fX11_51 L_0 rf_0_7 ?_
                    refine S.aload_n (pc' := 74) dX11_most_73 rfl rfl rfl ?_
                    refine S.getR (pc' := 77) dX11_most_74 rfl fX11_23 L_0 rf_0_3 ?_
                    refine S.aload_n (pc' := 78) dX11_most_77 rfl rfl rfl ?_
                    refine S.getR (pc' := 81) dX11_most_78 rfl fX11_37 L_0 rf_0_5 ?_
                    refine S.aload_n (pc' := 82) dX11_most_81 rfl rfl rfl ?_
                    refine S.getR (pc' := 85) dX11_most_82 rfl fX11_30 L_0 rf_0_4 ?_
                    refine S.iload_n (pc' := 86) dX11_most_85 rfl rfl rfl ?_
                    refine S.callVv (pc' := 89) dX11_most_86 rfl cX11_242 (rk_X8_findMost hg hP hvo hin.1 hcl hd hv) rfl L_34 (by decide) rfl (Nat.le_of_ble_eq_true rfl) (fun M86 q86 => ?_)
                    obtain ⟨t1, f1⟩ := q86
                    refine S.iload_n (pc' := 90) dX11_most_89 rfl rfl rfl ?_
                    refine S.if_eq (pc' := 93) (tgt := 108) dX11_most_90 (by decide) rfl (by unfold fp_rng; omega) (fun h90 => ?_) (fun h90 => ?_)
                    · first
                      | (exfalso; omega)
                      | exact h108 (by omega) _ _ t1 f1
                    · first
                      | (exfalso; omega)
                      | exact h93 (by omega) _ _ t1 f1
                  · exfalso; omega
              · exfalso; omega
  · rw [if_pos hin]
    refine S.iload_n (pc' := 1) dX11_most_0 rfl rfl rfl ?_
    refine S.bipush (pc' := 3) dX11_most_1 rfl (by decide) ?_
    refine S.icmp_lt (pc' := 6) (tgt := 24) dX11_most_3 (by decide) rfl hw (by unfold fp_rng; omega) (fun h3 => ?_) (fun h3 => ?_)
    · refine S.iconst (pc' := 25) dX11_most_24 rfl ?_
      refine S.istore_n (pc' := 26) (LL' := [_, _, _, _]) dX11_most_25 rfl (by decide) rfl rfl rfl ?_
      refine S.iload_n (pc' := 27) dX11_most_26 rfl rfl rfl ?_
      refine S.callSi (pc' := 30) dX11_most_27 rfl cX11_181 (bk_X11_isOne) rfl (by decide) rfl (Nat.le_of_ble_eq_true rfl) (fun z27 M27 q27 => ?_)
      obtain ⟨b27, rfl⟩ := q27
      refine S.if_eq (pc' := 33) (tgt := 41) dX11_most_30 (by decide) rfl (by unfold fp_rng; omega) (fun h30 => ?_) (fun h30 => ?_)
      · refine S.iconst (pc' := 42) dX11_most_41 rfl ?_
        refine S.iret dX11_most_42 rfl ?_
        exact ⟨rfl, hcs, frC.refl _⟩
      · refine S.iload_n (pc' := 34) dX11_most_33 rfl rfl rfl ?_
        refine S.if_eq (pc' := 37) (tgt := 43) dX11_most_34 (by decide) rfl hw (fun h34 => ?_) (fun h34 => ?_)
        · exfalso; omega
        · refine S.iload_n (pc' := 38) dX11_most_37 rfl rfl rfl ?_
          refine S.if_ne (pc' := 41) (tgt := 43) dX11_most_38 (by decide) rfl (by unfold fp_rng; omega) (fun h38 => ?_) (fun h38 => ?_)
          · exfalso; omega
          · refine S.iconst (pc' := 42) dX11_most_41 rfl ?_
            refine S.iret dX11_most_42 rfl ?_
            exact ⟨rfl, hcs, frC.refl _⟩
    · refine S.aload_n (pc' := 7) dX11_most_6 rfl rfl rfl ?_
      refine S.getR (pc' := 10) dX11_most_7 rfl fX11_37 L_0 rf_0_5 ?_
      refine S.iload_n (pc' := 11) dX11_most_10 rfl rfl rfl ?_
      refine S.bipush (pc' := 13) dX11_most_11 rfl (by decide) ?_
      refine S.isub (pc' := 14) dX11_most_13 rfl ?_
      refine S.callVi (pc' := 17) dX11_most_14 rfl cX11_163 (bk_X10_has vs27) rfl (vs_lay vs27) (by decide) rfl (Nat.le_of_ble_eq_true rfl) (fun z14 M14 q14 => ?_)
      obtain ⟨b14, rfl⟩ := q14
      refine S.if_eq (pc' := 20) (tgt := 24) dX11_most_17 (by decide) rfl (by unfold fp_rng; omega) (fun h17 => ?_) (fun h17 => ?_)
      · refine S.iconst (pc' := 25) dX11_most_24 rfl ?_
        refine S.istore_n (pc' := 26) (LL' := [_, _, _, _]) dX11_most_25 rfl (by decide) rfl rfl rfl ?_
        refine S.iload_n (pc' := 27) dX11_most_26 rfl rfl rfl ?_
        refine S.callSi (pc' := 30) dX11_most_27 rfl cX11_181 (bk_X11_isOne) rfl (by decide) rfl (Nat.le_of_ble_eq_true rfl) (fun z27 M27 q27 => ?_)
        obtain ⟨b27, rfl⟩ := q27
        refine S.if_eq (pc' := 33) (tgt := 41) dX11_most_30 (by decide) rfl (by unfold fp_rng; omega) (fun h30 => ?_) (fun h30 => ?_)
        · refine S.iconst (pc' := 42) dX11_most_41 rfl ?_
          refine S.iret dX11_most_42 rfl ?_
          exact ⟨rfl, hcs, frC.refl _⟩
        · refine S.iload_n (pc' := 34) dX11_most_33 rfl rfl rfl ?_
          refine S.if_eq (pc' := 37) (tgt := 43) dX11_most_34 (by decide) rfl hw (fun h34 => ?_) (fun h34 => ?_)
          · exfalso; omega
          · refine S.iload_n (pc' := 38) dX11_most_37 rfl rfl rfl ?_
            refine S.if_ne (pc' := 41) (tgt := 43) dX11_most_38 (by decide) rfl (by unfold fp_rng; omega) (fun h38 => ?_) (fun h38 => ?_)
            · exfalso; omega
            · refine S.iconst (pc' := 42) dX11_most_41 rfl ?_
              refine S.iret dX11_most_42 rfl ?_
              exact ⟨rfl, hcs, frC.refl _⟩
      · refine S.iconst (pc' := 21) dX11_most_20 rfl ?_
        refine S.goto (pc' := 25) dX11_most_21 (by decide) ?_
        refine S.istore_n (pc' := 26) (LL' := [_, _, _, _]) dX11_most_25 rfl (by decide) rfl rfl rfl ?_
        refine S.iload_n (pc' := 27) dX11_most_26 rfl rfl rfl ?_
        refine S.callSi (pc' := 30) dX11_most_27 rfl cX11_181 (bk_X11_isOne) rfl (by decide) rfl (Nat.le_of_ble_eq_true rfl) (fun z27 M27 q27 => ?_)
        obtain ⟨b27, rfl⟩ := q27
        refine S.if_eq (pc' := 33) (tgt := 41) dX11_most_30 (by decide) rfl (by unfold fp_rng; omega) (fun h30 => ?_) (fun h30 => ?_)
        · refine S.iconst (pc' := 42) dX11_most_41 rfl ?_
          refine S.iret dX11_most_42 rfl ?_
          exact ⟨rfl, hcs, frC.refl _⟩
        · refine S.iload_n (pc' := 34) dX11_most_33 rfl rfl rfl ?_
          refine S.if_eq (pc' := 37) (tgt := 43) dX11_most_34 (by decide) rfl hw (fun h34 => ?_) (fun h34 => ?_)
          · exfalso; omega
          · refine S.iload_n (pc' := 38) dX11_most_37 rfl rfl rfl ?_
            refine S.if_ne (pc' := 41) (tgt := 43) dX11_most_38 (by decide) rfl (by unfold fp_rng; omega) (fun h38 => ?_) (fun h38 => ?_)
            · exfalso; omega
            · refine S.iconst (pc' := 42) dX11_most_41 rfl ?_
              refine S.iret dX11_most_42 rfl ?_
              exact ⟨rfl, hcs, frC.refl _⟩
end CMP
end
