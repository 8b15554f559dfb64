/-! A THING TOLD IN A TEXT: the reference -/
def thA (M : fp_Mem) (t w c v0 v1 v2 v3 : Int) : fp_Mem := fp_up (fp_up (fp_up (fp_up (fp_up (fp_up (fp_up M 182 t.toNat w) 183 t.toNat c) 184 (4 * t + 0).toNat v0) 184 (4 * t + (0 + 1)).toNat v1) 184 (4 * t + (0 + 1 + 1)).toNat v2) 184 (4 * t + (0 + 1 + 1 + 1)).toNat v3) 177 11 (t + 1)
def thR (tp : List Int) (s : Int) (r6 : Int ⊕ Int) (w c v0 v1 v2 v3 : Int) : Prop := ∃ r1 r2 r3 r4 r5, r1 = nuR tp 0 3 (.inr s) ∧ w = nuV tp 0 3 (.inr s) ∧ r2 = nuR tp 0 9 r1 ∧ c = nuV tp 0 9 r1 ∧ r3 = nuR tp 0 20 r2 ∧ v0 = nuV tp 0 20 r2 ∧ r4 = nuR tp 0 20 r3 ∧ v1 = nuV tp 0 20 r3 ∧ r5 = nuR tp 0 20 r4 ∧ v2 = nuV tp 0 20 r4 ∧ r6 = nuR tp 0 20 r5 ∧ v3 = nuV tp 0 20 r5
theorem pFin_R (tp : List Int) (s' : Int) (D' : pD) : toR (pFin tp s' D') = stR tp (.inr s') ∧ ∀ q, pFin tp s' D' = .inr q → q.2 = D' := by
  unfold pFin stR
  simp only
  by_cases a : spOk tp s'
  · rw [if_pos a, if_neg (fun q => q a)]
    exact ⟨rfl, fun q e => by cases e; rfl⟩
  · rw [if_neg a, if_pos a]
    exact ⟨rfl, fun q e => by cases e⟩
theorem th_R {tp : List Int} {D : pD} {st s w c v0 v1 v2 v3 : Int} {r6 : Int ⊕ Int} (hv : thR tp s r6 w c v0 v1 v2 v3) (hl : ¬ 10 ≤ D.1.1) : toR (pThing tp st s D) = stR tp r6 ∧ ∀ q, pThing tp st s D = .inr q → ∃ f : Int → Int, q.2 = pTh D w c f ∧ f 0 = v0 ∧ f 1 = v1 ∧ f 2 = v2 ∧ f 3 = v3 := by
  obtain ⟨r1, r2, r3, r4, r5, rfl, rfl, rfl, rfl, rfl, rfl, rfl, rfl, rfl, rfl, rfl, rfl⟩ := hv
  unfold pThing
  rw [if_neg hl]
  by_cases a1 : nmOk tp s 0 3
  · rw [if_neg (fun q => q a1)]
    simp only [nuR, nuV, if_pos a1]
    by_cases a2 : nmOk tp (nxt tp s) 0 9
    · rw [if_neg (fun q => q a2)]
      simp only [if_pos a2]
      generalize hs2 : nxt tp (nxt tp s) = s2
      by_cases b0 : nmOk tp s2 0 20
      · simp only [pVl, if_pos b0]
        by_cases b1 : nmOk tp (nxt tp s2) 0 20
        · simp only [if_pos b1]
          by_cases b2 : nmOk tp (nxt tp (nxt tp s2)) 0 20
          · simp only [if_pos b2]
            by_cases b3 : nmOk tp (nxt tp (nxt tp (nxt tp s2))) 0 20
            · simp only [if_pos b3]
              have := pFin_R tp (itN tp 4 s2) (pTh D (num tp s) (num tp (nxt tp s)) (fun p => num tp (itN tp p.toNat s2)))
              exact ⟨this.1, fun q e => ⟨_, this.2 q e, rfl, rfl, rfl, rfl⟩⟩
            · simp only [if_neg b3]
              exact ⟨rfl, fun q e => by cases e⟩
          · simp only [if_neg b2]
            exact ⟨rfl, fun q e => by cases e⟩
        · simp only [if_neg b1]
          exact ⟨rfl, fun q e => by cases e⟩
      · simp only [pVl, if_neg b0]
        exact ⟨rfl, fun q e => by cases e⟩
    · rw [if_pos a2]
      simp only [if_neg a2]
      exact ⟨rfl, fun q e => by cases e⟩
  · rw [if_pos a1]
    simp only [nuR, nuV, if_neg a1]
    exact ⟨rfl, fun q e => by cases e⟩
theorem thM_D {M : fp_Mem} {D : pD} {t w c v0 v1 v2 v3 : Int} {f : Int → Int} (hd : mrD M D) (hD : dOk D) (ht : t = D.1.1) (hl : t < 10) (f0 : f 0 = v0) (f1 : f 1 = v1) (f2 : f 2 = v2) (f3 : f 3 = v3) : mrD (thA M t w c v0 v1 v2 v3) (pTh D w c f) := by
  obtain ⟨⟨g1, g2, g3, g4, g5, g6⟩, d2, d3, d4, d5, d6, d7⟩ := hd
  have hg := hD.1.1
  have e2 : thA M t w c v0 v1 v2 v3 182 = fp_upf (M 182) t.toNat w := rfl
  have e3 : thA M t w c v0 v1 v2 v3 183 = fp_upf (M 183) t.toNat c := rfl
  have e4 : thA M t w c v0 v1 v2 v3 184 = fp_upf (fp_upf (fp_upf (fp_upf (M 184) (4 * t + 0).toNat v0) (4 * t + (0 + 1)).toNat v1) (4 * t + (0 + 1 + 1)).toNat v2) (4 * t + (0 + 1 + 1 + 1)).toNat v3 := rfl
  have hne : ∀ j : Nat, 10 ≤ j → thA M t w c v0 v1 v2 v3 182 j = M 182 j := fun j hj => by rw [e2, fp_upf_ne (by omega)]
  refine ⟨⟨by show t + 1 = D.1.1 + 1; rw [ht], g2, g3, fun u u0 u1 => ?_, fun u p u0 u1 p0 p1 => ?_, g6⟩, ⟨fun u u0 u1 => ?_, fun x x0 x1 => ?_⟩, ⟨?_, d3.2.1, fun i i0 i1 => ?_⟩, d4, d5, ?_, d7⟩
  · have u2 : u < D.1.1 + 1 := u1
    show _ = (if u = D.1.1 then c else D.1.2.2.2.1 u)
    rw [e3]
    by_cases e : u = D.1.1
    · rw [if_pos e, e, ← ht]; simp [fp_upf]
    · rw [if_neg e, fp_upf_ne (by omega)]; exact g4 u u0 (by omega)
  · have u2 : u < D.1.1 + 1 := u1
    show _ = (if u = D.1.1 then f p else D.1.2.2.2.2.1 u p)
    rw [e4]
    by_cases e : u = D.1.1
    · rw [if_pos e, e, ← ht]
      rcases (show p = 0 ∨ p = 1 ∨ p = 2 ∨ p = 3 by omega) with rfl | rfl | rfl | rfl
      · rw [fp_upf_ne (by omega), fp_upf_ne (by omega), fp_upf_ne (by omega), f0]; simp [fp_upf]
      · rw [fp_upf_ne (by omega), fp_upf_ne (by omega), f1]; simp [fp_upf]
      · rw [fp_upf_ne (by omega), f2]; simp [fp_upf]
      · rw [f3]; simp [fp_upf]
    · rw [if_neg e, fp_upf_ne (by omega), fp_upf_ne (by omega), fp_upf_ne (by omega), fp_upf_ne (by omega)]
      exact g5 u p u0 (by omega) p0 p1
  · have u2 : u < D.1.1 + 1 := u1
    show _ = (if u = D.1.1 then w else D.2.1 u)
    rw [e2]
    by_cases e : u = D.1.1
    · rw [if_pos e, e, ← ht]; simp [fp_upf]
    · rw [if_neg e, fp_upf_ne (by omega)]; exact d2.1 u u0 (by omega)
  · obtain ⟨p1, p2⟩ := d2.2 x x0 x1
    refine ⟨by rw [hne _ (by omega)]; exact p1, fun i i0 i1 => ?_⟩
    rw [hne _ (by omega)]
    exact p2 i i0 i1
  · rw [hne _ (by omega)]; exact d3.1
  · rw [hne _ (by omega), hne _ (by omega), hne _ (by omega), hne _ (by omega)]
    exact d3.2.2 i i0 i1
  · rw [hne _ (by omega)]; exact d6
section MTH
variable {l : Launch} {G : fp_WG} {M N A : fp_Mem} {tp : List Int} {r r' : Int ⊕ Int} {D : pD}
theorem th_it {t j : Int} {Q : fp_Q} (ht : tpOk tp) (h : aT tp A M r) (hm : mtT A tp) (h11 : A 177 11 = t) (t0 : 0 ≤ t ∧ t < 10) (j0 : 0 ≤ j ∧ j < 4) (K : ∀ N, aT tp (fp_up A 184 (4 * t + j).toNat (nuV tp 0 20 r)) N (nuR tp 0 20 r) → fp_S l G 3 kX12_readThing 52 [some (rV G 177), some (iV (j + 1))] [] N Q) : fp_S l G 3 kX12_readThing 52 [some (rV G 177), some (iV j)] [] M Q := by
  have e11 : M 177 11 = t := by rw [h.rd (by omega)]; exact h11
  refine S.iload_n (pc' := 53) dX12_readThing_52 rfl rfl rfl ?_
  refine S.iconst (pc' := 54) dX12_readThing_53 rfl ?_
  refine S.icmp_ge (pc' := 57) (tgt := 83) dX12_readThing_54 (by decide) rfl (by unfold fp_rng; omega) (by unfold fp_rng; omega) (fun h54 => ?_) (fun h54 => ?_)
  · exfalso; omega
  · refine S.aload_n (pc' := 58) dX12_readThing_57 rfl rfl rfl ?_
    refine S.getR (pc' := 61) dX12_readThing_58 rfl fX12_32 L_177 rf_177_9 ?_
    refine S.iconst (pc' := 62) dX12_readThing_61 rfl ?_
    refine S.aload_n (pc' := 63) dX12_readThing_62 rfl rfl rfl ?_
    refine S.getI (pc' := 66) dX12_readThing_63 rfl fX12_139 L_177 ?_
    rw [e11]
    refine S.imul (pc' := 67) dX12_readThing_66 rfl ?_
    refine S.iload_n (pc' := 68) dX12_readThing_67 rfl rfl rfl ?_
    refine S.iadd (pc' := 69) dX12_readThing_68 rfl ?_
    refine S.aload_n (pc' := 70) dX12_readThing_69 rfl rfl rfl ?_
    refine S.iconst (pc' := 71) dX12_readThing_70 rfl ?_
    refine S.bipush (pc' := 73) dX12_readThing_71 rfl (by decide) ?_
    refine S.callVi (pc' := 76) dX12_readThing_73 rfl cX12_142 (mt_nu ht h hm (by unfold fp_rng; omega) (by unfold fp_rng; omega)) rfl L_177 (by decide) rfl (Nat.le_of_ble_eq_true rfl) (fun z73 M73 q73 => ?_)
    obtain ⟨a73, z⟩ := q73
    rw [z]
    refine S.iast (pc' := 77) dX12_readThing_76 rfl L_184 (by omega) (by omega) ?_
    refine S.iinc (pc' := 80) (LL' := [_, _]) dX12_readThing_77 rfl (by decide) rfl rfl rfl ?_
    refine S.goto (pc' := 52) dX12_readThing_80 (by decide) ?_
    exact K _ (a73.up (Or.inl (by decide)))
theorem rk_X12_readThing {s : Int} (ht : tpOk tp) (hm : mtT M tp) (hq : mq tp M (.inr s)) (ho : mtO tp M s) (hi : mrI M) (hd : mrD M D) (hD : dOk D) : fp_Ok l G 3 kX12_readThing [rV G 177] M (qV fun N => rlP tp M N (pThing tp (tkS tp s) (nxt tp s) D)) := by
  have h11 : M 177 11 = D.1.1 := hd.1.1
  have hg := hD.1.1
  refine fp_Ok.of (r := 1) rfl (Nat.le_of_ble_eq_true rfl) rfl ?_
  by_cases hl : 10 ≤ D.1.1
  · have hpn : pThing tp (tkS tp s) (nxt tp s) D = .inl (tkS tp s) := by unfold pThing; rw [if_pos hl]
    refine S.aload_n (pc' := 1) dX12_readThing_0 rfl rfl rfl ?_
    refine S.getI (pc' := 4) dX12_readThing_1 rfl fX12_139 L_177 ?_
    refine S.bipush (pc' := 6) dX12_readThing_4 rfl (by decide) ?_
    rw [h11]
    refine S.icmp_ne (pc' := 9) (tgt := 15) dX12_readThing_6 (by decide) rfl (by unfold fp_rng; omega) (by unfold fp_rng; omega) (fun h6 => ?_) (fun h6 => ?_)
    · exfalso; omega
    · refine S.aload_n (pc' := 10) dX12_readThing_9 rfl rfl rfl ?_
      refine S.iconst (pc' := 11) dX12_readThing_10 rfl ?_
      refine S.callVw (pc' := 14) dX12_readThing_11 rfl cX12_128 (mt_fails0 ho.1) rfl L_177 (by decide) rfl (Nat.le_of_ble_eq_true rfl) ?_
      refine S.vret dX12_readThing_14 rfl ?_
      exact rl_no hi hq.2.1 (by omega) hpn
  · have hx := nxt_le hq.1.2
    have a0 : aT tp M M (.inr s) := ⟨frW.refl _, hq⟩
    have hfin : ∀ (O : fp_Mem) (r6 : Int ⊕ Int) (w c v0 v1 v2 v3 : Int) (j : Int), 4 ≤ j → j ≤ 4 → aT tp (fp_up (fp_up (fp_up (fp_up (fp_up (fp_up M 182 D.1.1.toNat w) 183 D.1.1.toNat c) 184 (4 * D.1.1 + 0).toNat v0) 184 (4 * D.1.1 + (0 + 1)).toNat v1) 184 (4 * D.1.1 + (0 + 1 + 1)).toNat v2) 184 (4 * D.1.1 + (0 + 1 + 1 + 1)).toNat v3) O r6 → thR tp (nxt tp s) r6 w c v0 v1 v2 v3 → fp_S l G 3 kX12_readThing 52 [some (rV G 177), some (iV j)] [] O (qV fun N => rlP tp M N (pThing tp (tkS tp s) (nxt tp s) D)) := by
      intro O r6 w c v0 v1 v2 v3 j j0 j1 ha hR
      have e11 : O 177 11 = D.1.1 := by rw [ha.rd (by omega)]; exact h11
      have hr := th_R (st := tkS tp s) (D := D) hR hl
      obtain ⟨r1, r2, r3, r4, r5, _, b1, _, b2, _, b3, _, b4, _, b5, _, b6⟩ := hR
      have c2 := nuV_in (tp := tp) (lo := 0) (hi := 9) r1 (by omega)
      have c3 := nuV_in (tp := tp) (lo := 0) (hi := 20) r2 (by omega)
      have c4 := nuV_in (tp := tp) (lo := 0) (hi := 20) r3 (by omega)
      have c5 := nuV_in (tp := tp) (lo := 0) (hi := 20) r4 (by omega)
      have c6 := nuV_in (tp := tp) (lo := 0) (hi := 20) r5 (by omega)
      rw [← b2] at c2
      rw [← b3] at c3
      rw [← b4] at c4
      rw [← b5] at c5
      rw [← b6] at c6
      have ha2 := ha.up (k := 177) (j := 11) (z := D.1.1 + 1) (by omega)
      have hI : mrI (thA M D.1.1 w c v0 v1 v2 v3) := by
        obtain ⟨i1, i2, i3⟩ := hi
        refine ⟨fun i i0 i4 => ?_, fun i i0 i4 => ?_, i3⟩
        · show 0 ≤ fp_upf (M 183) D.1.1.toNat c i.toNat ∧ fp_upf (M 183) D.1.1.toNat c i.toNat ≤ 9
          unfold fp_upf
          split
          · omega
          · exact i1 i i0 i4
        · show 0 ≤ fp_upf (fp_upf (fp_upf (fp_upf (M 184) (4 * D.1.1 + 0).toNat v0) (4 * D.1.1 + (0 + 1)).toNat v1) (4 * D.1.1 + (0 + 1 + 1)).toNat v2) (4 * D.1.1 + (0 + 1 + 1 + 1)).toNat v3 i.toNat ∧ fp_upf (fp_upf (fp_upf (fp_upf (M 184) (4 * D.1.1 + 0).toNat v0) (4 * D.1.1 + (0 + 1)).toNat v1) (4 * D.1.1 + (0 + 1 + 1)).toNat v2) (4 * D.1.1 + (0 + 1 + 1 + 1)).toNat v3 i.toNat ≤ 20
          have i5 := i2 i i0 i4
          simp only [fp_upf]
          repeat' split
          all_goals omega
      refine S.iload_n (pc' := 53) dX12_readThing_52 rfl rfl rfl ?_
      refine S.iconst (pc' := 54) dX12_readThing_53 rfl ?_
      refine S.icmp_ge (pc' := 57) (tgt := 83) dX12_readThing_54 (by decide) rfl (by unfold fp_rng; omega) (by unfold fp_rng; omega) (fun h54 => ?_) (fun h54 => ?_)
      · refine S.aload_n (pc' := 84) dX12_readThing_83 rfl rfl rfl ?_
        refine S.dup (pc' := 85) dX12_readThing_84 rfl rfl ?_
        refine S.getI (pc' := 88) dX12_readThing_85 rfl fX12_139 L_177 ?_
        refine S.iconst (pc' := 89) dX12_readThing_88 rfl ?_
        refine S.iadd (pc' := 90) dX12_readThing_89 rfl ?_
        rw [e11]
        refine S.putI (pc' := 93) dX12_readThing_90 rfl fX12_139 L_177 ?_
        refine S.vret dX12_readThing_93 rfl ?_
        refine ⟨frQ.trans ?_ ha2.1.Q, ha2.1.I hI, r6, ha2.2, hr.1, fun q e => ?_⟩
        · exact (((((((frQ.refl M).up (by omega)).up (by omega)).up (by omega)).up (by omega)).up (by omega)).up (by omega)).up (by omega)
        · obtain ⟨f, k0, k1, k2, k3, k4⟩ := hr.2 q e
          rw [k0]
          exact ha2.1.D (thM_D hd hD rfl (by omega) k1 k2 k3 k4)
      · exfalso; omega
    have hmU : ∀ (O : fp_Mem) (k j : Nat) (z : Int), 182 ≤ k → k ≤ 184 → mtT O tp → mtT (fp_up O k j z) tp := fun O k j z k0 k1 h => ⟨by rw [fp_up_ne (by omega)]; exact h.1, fun i i0 i1 => by rw [fp_up_ne (by omega)]; exact h.2 i i0 i1⟩
    refine S.aload_n (pc' := 1) dX12_readThing_0 rfl rfl rfl ?_
    refine S.getI (pc' := 4) dX12_readThing_1 rfl fX12_139 L_177 ?_
    refine S.bipush (pc' := 6) dX12_readThing_4 rfl (by decide) ?_
    rw [h11]
    refine S.icmp_ne (pc' := 9) (tgt := 15) dX12_readThing_6 (by decide) rfl (by unfold fp_rng; omega) (by unfold fp_rng; omega) (fun h6 => ?_) (fun h6 => ?_)
    · refine S.aload_n (pc' := 16) dX12_readThing_15 rfl rfl rfl ?_
      refine S.callVv (pc' := 19) dX12_readThing_16 rfl cX12_136 (mt_st ht a0 ho hm) rfl L_177 (by decide) rfl (Nat.le_of_ble_eq_true rfl) (fun M16 q16 => ?_)
      refine S.aload_n (pc' := 20) dX12_readThing_19 rfl rfl rfl ?_
      refine S.getR (pc' := 23) dX12_readThing_20 rfl fX12_26 L_177 rf_177_7 ?_
      refine S.aload_n (pc' := 24) dX12_readThing_23 rfl rfl rfl ?_
      refine S.getI (pc' := 27) dX12_readThing_24 rfl fX12_139 L_177 ?_
      rw [show M16 177 11 = D.1.1 by rw [q16.rd (by omega)]; exact h11]
      refine S.aload_n (pc' := 28) dX12_readThing_27 rfl rfl rfl ?_
      refine S.iconst (pc' := 29) dX12_readThing_28 rfl ?_
      refine S.iconst (pc' := 30) dX12_readThing_29 rfl ?_
      refine S.callVi (pc' := 33) dX12_readThing_30 rfl cX12_142 (mt_nu ht q16 hm (by unfold fp_rng; omega) (by unfold fp_rng; omega)) rfl L_177 (by decide) rfl (Nat.le_of_ble_eq_true rfl) (fun z30 M30 q30 => ?_)
      obtain ⟨a30, z⟩ := q30
      rw [z]
      refine S.iast (pc' := 34) dX12_readThing_33 rfl L_182 (by omega) (by omega) ?_
      have a33 := a30.up (k := 182) (j := D.1.1.toNat) (z := nuV tp 0 3 (.inr (nxt tp s))) (Or.inl (by decide))
      refine S.aload_n (pc' := 35) dX12_readThing_34 rfl rfl rfl ?_
      refine S.getR (pc' := 38) dX12_readThing_35 rfl fX12_29 L_177 rf_177_8 ?_
      refine S.aload_n (pc' := 39) dX12_readThing_38 rfl rfl rfl ?_
      refine S.getI (pc' := 42) dX12_readThing_39 rfl fX12_139 L_177 ?_
      rw [show fp_up M30 182 D.1.1.toNat (nuV tp 0 3 (.inr (nxt tp s))) 177 11 = D.1.1 by rw [a33.rd (by omega)]; exact h11]
      refine S.aload_n (pc' := 43) dX12_readThing_42 rfl rfl rfl ?_
      refine S.iconst (pc' := 44) dX12_readThing_43 rfl ?_
      refine S.bipush (pc' := 46) dX12_readThing_44 rfl (by decide) ?_
      refine S.callVi (pc' := 49) dX12_readThing_46 rfl cX12_142 (mt_nu ht a33 (hmU _ _ _ _ (by omega) (by omega) hm) (by unfold fp_rng; omega) (by unfold fp_rng; omega)) rfl L_177 (by decide) rfl (Nat.le_of_ble_eq_true rfl) (fun z46 M46 q46 => ?_)
      obtain ⟨a46, z2⟩ := q46
      rw [z2]
      refine S.iast (pc' := 50) dX12_readThing_49 rfl L_183 (by omega) (by omega) ?_
      refine S.iconst (pc' := 51) dX12_readThing_50 rfl ?_
      refine S.istore_n (pc' := 52) (LL' := [_, _]) dX12_readThing_51 rfl (by decide) rfl rfl rfl ?_
      have hm2 := hmU _ 183 D.1.1.toNat (nuV tp 0 9 (nuR tp 0 3 (.inr (nxt tp s)))) (by omega) (by omega) (hmU _ 182 D.1.1.toNat (nuV tp 0 3 (.inr (nxt tp s))) (by omega) (by omega) hm)
      refine th_it ht (a46.up (Or.inl (by decide))) hm2 h11 (by omega) (by omega) (fun N0 n0 => ?_)
      refine th_it ht n0 (hmU _ _ _ _ (by omega) (by omega) hm2) h11 (by omega) (by omega) (fun N1 n1 => ?_)
      refine th_it ht n1 (hmU _ _ _ _ (by omega) (by omega) (hmU _ _ _ _ (by omega) (by omega) hm2)) h11 (by omega) (by omega) (fun N2 n2 => ?_)
      refine th_it ht n2 (hmU _ _ _ _ (by omega) (by omega) (hmU _ _ _ _ (by omega) (by omega) (hmU _ _ _ _ (by omega) (by omega) hm2))) h11 (by omega) (by omega) (fun N3 n3 => ?_)
      exact hfin N3 _ _ _ _ _ _ _ _ (by omega) (by omega) n3 ⟨_, _, _, _, _, rfl, rfl, rfl, rfl, rfl, rfl, rfl, rfl, rfl, rfl, rfl, rfl⟩
    · exfalso; omega
end MTH
