/-! THE PUBLIC CALLS, first batch; tests by property -/
theorem fp_Ok.toB {l : Launch} {G : fp_WG} {d : Nat} {Y : fp_MR} {a : List Value} {M : fp_Mem} {c : Prop} [Decidable c] (h : fp_Ok l G d Y a M (qE (if c then 1 else 0) M)) : fp_Ok l G d Y a M (qI fun z N => ((z = 1 ∧ c) ∨ (z = 0 ∧ ¬ c)) ∧ M = N) := h.toI ⟨by by_cases hc : c <;> simp [hc], rfl⟩
section PUB
variable {l : Launch} {G : fp_WG} {M : fp_Mem} {tp : List Int} {fl : Int} {g : aGd} {pg : aPg} {vs : List aVt} {nt : List Int} {im : aIm} {sh : aSh} {tn : Int}
theorem bk_X11_isOne {p : Int} (hp : fp_rng p := by first | assumption | (unfold fp_rng; omega)) : fp_Ok l G 0 kX11_isOne [iV p] M (qI fun z N => ((z = 1 ∧ (0 ≤ p ∧ p < 4)) ∨ (z = 0 ∧ ¬ (0 ≤ p ∧ p < 4))) ∧ M = N) := (ok_X11_isOne hp).toB
theorem bk_X11_isWithin {n h : Int} (hn : fp_rng n := by first | assumption | (unfold fp_rng; omega)) (hh : fp_rng h := by first | assumption | (unfold fp_rng; omega)) : fp_Ok l G 0 kX11_isWithin [iV n, iV h] M (qI fun z N => ((z = 1 ∧ (0 ≤ n ∧ n ≤ h)) ∨ (z = 0 ∧ ¬ (0 ≤ n ∧ n ≤ h))) ∧ M = N) := (ok_X11_isWithin hn hh).toB
theorem bk_X1_hasThing {k : Nat} {t : Int} (hk : fp_isgd k) (hd : gdIs M k g := by assumption) (hg : gOk g := by assumption) (ht : fp_rng t := by first | assumption | (unfold fp_rng; omega)) : fp_Ok l G 0 kX1_hasThing [rV G k, iV t] M (qI fun z N => ((z = 1 ∧ (0 ≤ t ∧ t < g.1)) ∨ (z = 0 ∧ ¬ (0 ≤ t ∧ t < g.1))) ∧ M = N) := by
  have h := (ok_X1_hasThing (l := l) (G := G) (M := M) (t := t) hk ht (by rw [hd.1]; have := hg.1; unfold fp_rng; omega)).toB
  rw [hd.1] at h
  exact h
theorem bk_X1_hasLine {k : Nat} {t : Int} (hk : fp_isgd k) (hd : gdIs M k g := by assumption) (hg : gOk g := by assumption) (ht : fp_rng t := by first | assumption | (unfold fp_rng; omega)) : fp_Ok l G 0 kX1_hasLine [rV G k, iV t] M (qI fun z N => ((z = 1 ∧ (0 ≤ t ∧ t < g.2.1)) ∨ (z = 0 ∧ ¬ (0 ≤ t ∧ t < g.2.1))) ∧ M = N) := by
  have h := (ok_X1_hasLine (l := l) (G := G) (M := M) (t := t) hk ht (by rw [hd.2.1]; have := hg.2.1; unfold fp_rng; omega)).toB
  rw [hd.2.1] at h
  exact h
theorem bk_X10_has {k : Nat} {i : Int} (hk : fp_isvs k) (hv : vsIs M k vs := by assumption) (hi : fp_rng i := by first | assumption | (unfold fp_rng; omega)) : fp_Ok l G 0 kX10_has [rV G k, iV i] M (qI fun z N => ((z = 1 ∧ (0 ≤ i ∧ i < vs.length)) ∨ (z = 0 ∧ ¬ (0 ≤ i ∧ i < vs.length))) ∧ M = N) := by
  have h := (ok_X10_has (l := l) (G := G) (M := M) (i := i) hk hi (by rw [hv.1]; have := hv.2.1; unfold fp_rng; omega)).toB
  rw [hv.1] at h
  exact h
theorem bk_X12_in {v lo hi : Int} (h1 : fp_lng v := by first | assumption | (unfold fp_lng; omega)) (h2 : fp_lng lo := by first | assumption | (unfold fp_lng; omega)) (h3 : fp_lng hi := by first | assumption | (unfold fp_lng; omega)) : fp_Ok l G 0 kX12_in [jV v, jV lo, jV hi] M (qI fun z N => ((z = 1 ∧ (lo ≤ v ∧ v ≤ hi)) ∨ (z = 0 ∧ ¬ (lo ≤ v ∧ v ≤ hi))) ∧ M = N) := (ok_X12_in h1 h2 h3).toB
theorem bk_X12_isThing {t : Int} (hd : mdIs M g := by assumption) (hg : gOk g := by assumption) (ht : fp_rng t := by first | assumption | (unfold fp_rng; omega)) : fp_Ok l G 1 kX12_isThing [rV G 177, iV t] M (qI fun z N => ((z = 1 ∧ (0 ≤ t ∧ t < g.1)) ∨ (z = 0 ∧ ¬ (0 ≤ t ∧ t < g.1))) ∧ M = N) := by
  have h := (ok_X12_isThing (l := l) (G := G) (M := M) (t := t) ht (by rw [hd.1]; exact hg.1)).toB
  rw [hd.1] at h
  exact h
theorem bk_X12_isLine {t : Int} (hd : mdIs M g := by assumption) (hg : gOk g := by assumption) (ht : fp_rng t := by first | assumption | (unfold fp_rng; omega)) : fp_Ok l G 1 kX12_isLine [rV G 177, iV t] M (qI fun z N => ((z = 1 ∧ (0 ≤ t ∧ t < g.2.1)) ∨ (z = 0 ∧ ¬ (0 ≤ t ∧ t < g.2.1))) ∧ M = N) := by
  have h := (ok_X12_isLine (l := l) (G := G) (M := M) (t := t) ht (by rw [hd.2.1]; exact hg.2.1)).toB
  rw [hd.2.1] at h
  exact h
theorem bk_X12_isOne {t : Int} (ht : fp_rng t := by first | assumption | (unfold fp_rng; omega)) : fp_Ok l G 1 kX12_isOne [iV t] M (qI fun z N => ((z = 1 ∧ (0 ≤ t ∧ t < 4)) ∨ (z = 0 ∧ ¬ (0 ≤ t ∧ t < 4))) ∧ M = N) := (ok_X12_isOne ht).toB
/-! holds, worth -/
def A_holds (g : aGd) (pg : aPg) (p : Int) : Int := if 0 ≤ p ∧ p < 4 then aHolds g pg p else -1
def A_worth (g : aGd) (pg : aPg) (p : Int) : Int := if 0 ≤ p ∧ p < 4 then aWorth g pg p else -1
theorem cc_holds {p : Int} (hc : CS M tp fl g pg vs nt im sh tn) (ho : OK g pg vs nt im sh) (hp : fp_rng p) : fp_Ok l G 1 kX11_holds [rV G 0, iV p] M (qE (A_holds g pg p) M) := by
  obtain ⟨-, hd, hcl, -⟩ := hc
  obtain ⟨hg, hP, -⟩ := ho
  refine fp_Ok.of (r := 0) rfl (Nat.le_of_ble_eq_true rfl) rfl ?_
  unfold A_holds
  refine S.iload_n dX11_holds_0 rfl rfl rfl ?_
  refine S.callSi dX11_holds_1 rfl cX11_181 (bk_X11_isOne) rfl (by decide) rfl (Nat.le_of_ble_eq_true rfl) (fun z1 M1 q1 => ?_)
  obtain ⟨b1, rfl⟩ := q1
  refine S.if_eq (tgt := 18) dX11_holds_4 (by decide) rfl (by unfold fp_rng; omega) (fun h4 => ?_) (fun h4 => ?_)
  · refine S.iconst dX11_holds_18 rfl ?_
    refine S.iret dX11_holds_19 rfl ?_
    refine ⟨?_, rfl⟩
    (repeat' split) <;> first | rfl | omega
  · refine S.aload_n dX11_holds_7 rfl rfl rfl ?_
    refine S.getR dX11_holds_8 rfl fX11_30 L_0 rf_0_4 ?_
    refine S.iload_n dX11_holds_11 rfl rfl rfl ?_
    refine S.callVe dX11_holds_12 rfl cX11_184 (rk_X5_heldBy pl22) rfl (pl_lay pl22) (by decide) rfl (Nat.le_of_ble_eq_true rfl) ?_
    refine S.goto (pc' := 19) dX11_holds_15 (by decide) ?_
    refine S.iret dX11_holds_19 rfl ?_
    refine ⟨?_, rfl⟩
    (repeat' split) <;> first | rfl | omega
theorem cc_worth {p : Int} (hc : CS M tp fl g pg vs nt im sh tn) (ho : OK g pg vs nt im sh) (hp : fp_rng p) : fp_Ok l G 2 kX11_worth [rV G 0, iV p] M (qE (A_worth g pg p) M) := by
  obtain ⟨-, hd, hcl, -⟩ := hc
  obtain ⟨hg, hP, -⟩ := ho
  refine fp_Ok.of (r := 0) rfl (Nat.le_of_ble_eq_true rfl) rfl ?_
  unfold A_worth
  refine S.iload_n dX11_worth_0 rfl rfl rfl ?_
  refine S.callSi dX11_worth_1 rfl cX11_181 (bk_X11_isOne) rfl (by decide) rfl (Nat.le_of_ble_eq_true rfl) (fun z1 M1 q1 => ?_)
  obtain ⟨b1, rfl⟩ := q1
  refine S.if_eq (tgt := 22) dX11_worth_4 (by decide) rfl (by unfold fp_rng; omega) (fun h4 => ?_) (fun h4 => ?_)
  · refine S.iconst dX11_worth_22 rfl ?_
    refine S.iret dX11_worth_23 rfl ?_
    refine ⟨?_, rfl⟩
    (repeat' split) <;> first | rfl | omega
  · refine S.aload_n dX11_worth_7 rfl rfl rfl ?_
    refine S.getR dX11_worth_8 rfl fX11_30 L_0 rf_0_4 ?_
    refine S.aload_n dX11_worth_11 rfl rfl rfl ?_
    refine S.getR dX11_worth_12 rfl fX11_23 L_0 rf_0_3 ?_
    refine S.iload_n dX11_worth_15 rfl rfl rfl ?_
    refine S.callVe dX11_worth_16 rfl cX11_187 (rk_X5_worthTo pl22 gd18) rfl (pl_lay pl22) (by decide) rfl (Nat.le_of_ble_eq_true rfl) ?_
    refine S.goto (pc' := 23) dX11_worth_19 (by decide) ?_
    refine S.iret dX11_worth_23 rfl ?_
    refine ⟨?_, rfl⟩
    (repeat' split) <;> first | rfl | omega
theorem mm_holds {p : Int} (hc : MS M tp fl g pg vs nt im sh tn) (ho : OK g pg vs nt im sh) (hp : fp_rng p) : fp_Ok l G 2 kX12_holds [rV G 177, iV p] M (qE (A_holds g pg p) M) := by
  obtain ⟨-, hd, hcl, -⟩ := hc
  obtain ⟨hg, hP, -⟩ := ho
  refine fp_Ok.of (r := 0) rfl (Nat.le_of_ble_eq_true rfl) rfl ?_
  unfold A_holds
  refine S.iload_n dX12_holds_0 rfl rfl rfl ?_
  refine S.callSi dX12_holds_1 rfl cX12_228 (bk_X12_isOne) rfl (by decide) rfl (Nat.le_of_ble_eq_true rfl) (fun z1 M1 q1 => ?_)
  obtain ⟨b1, rfl⟩ := q1
  refine S.if_eq (tgt := 16) dX12_holds_4 (by decide) rfl (by unfold fp_rng; omega) (fun h4 => ?_) (fun h4 => ?_)
  · refine S.iconst dX12_holds_16 rfl ?_
    refine S.iret dX12_holds_17 rfl ?_
    refine ⟨?_, rfl⟩
    (repeat' split) <;> first | rfl | omega
  · refine S.aload_n dX12_holds_7 rfl rfl rfl ?_
    refine S.iconst dX12_holds_8 rfl ?_
    refine S.iload_n dX12_holds_9 rfl rfl rfl ?_
    refine S.callVe dX12_holds_10 rfl cX12_231 (rk_X12_holdsAt (g := g) (pg := pg)) rfl L_177 (by decide) rfl (Nat.le_of_ble_eq_true rfl) ?_
    refine S.goto (pc' := 17) dX12_holds_13 (by decide) ?_
    refine S.iret dX12_holds_17 rfl ?_
    refine ⟨?_, rfl⟩
    (repeat' split) <;> first | rfl | omega
theorem mm_worth {p : Int} (hc : MS M tp fl g pg vs nt im sh tn) (ho : OK g pg vs nt im sh) (hp : fp_rng p) : fp_Ok l G 2 kX12_worth [rV G 177, iV p] M (qE (A_worth g pg p) M) := by
  obtain ⟨-, hd, hcl, -⟩ := hc
  obtain ⟨hg, hP, -⟩ := ho
  refine fp_Ok.of (r := 0) rfl (Nat.le_of_ble_eq_true rfl) rfl ?_
  unfold A_worth
  refine S.iload_n dX12_worth_0 rfl rfl rfl ?_
  refine S.callSi dX12_worth_1 rfl cX12_228 (bk_X12_isOne) rfl (by decide) rfl (Nat.le_of_ble_eq_true rfl) (fun z1 M1 q1 => ?_)
  obtain ⟨b1, rfl⟩ := q1
  refine S.if_eq (tgt := 16) dX12_worth_4 (by decide) rfl (by unfold fp_rng; omega) (fun h4 => ?_) (fun h4 => ?_)
  · refine S.iconst dX12_worth_16 rfl ?_
    refine S.iret dX12_worth_17 rfl ?_
    refine ⟨?_, rfl⟩
    (repeat' split) <;> first | rfl | omega
  · refine S.aload_n dX12_worth_7 rfl rfl rfl ?_
    refine S.iconst dX12_worth_8 rfl ?_
    refine S.iload_n dX12_worth_9 rfl rfl rfl ?_
    refine S.callVe dX12_worth_10 rfl cX12_234 (rk_X12_worthAt (g := g) (pg := pg)) rfl L_177 (by decide) rfl (Nat.le_of_ble_eq_true rfl) ?_
    refine S.goto (pc' := 17) dX12_worth_13 (by decide) ?_
    refine S.iret dX12_worth_17 rfl ?_
    refine ⟨?_, rfl⟩
    (repeat' split) <;> first | rfl | omega
/-! thing -/
def A_thing (g : aGd) (pg : aPg) (t w : Int) : Int := if ¬ (0 ≤ t ∧ t < g.1) then -1 else if w = 0 then g.2.2.2.1 t else if w = 1 then pg.1 t else if w = 2 then aSpot pg t else if w = 3 then (if pg.1 t < 10 then -4 else pg.2.1 t) else if 10 ≤ w ∧ w ≤ 13 then g.2.2.2.2.1 t (w - 10) else -1
theorem cc_thing {t w : Int} (hc : CS M tp fl g pg vs nt im sh tn) (ho : OK g pg vs nt im sh) (ht : fp_rng t) (hw : fp_rng w) : fp_Ok l G 1 kX11_thing [rV G 0, iV t, iV w] M (qE (A_thing g pg t w) M) := by
  obtain ⟨-, hd, hcl, -⟩ := hc
  obtain ⟨hg, hP, -⟩ := ho
  have hg1 := hg.1
  have hw' := hw
  unfold fp_rng at hw'
  refine fp_Ok.of (r := 0) rfl (Nat.le_of_ble_eq_true rfl) rfl ?_
  unfold A_thing
  refine S.aload_n dX11_thing_0 rfl rfl rfl ?_
  refine S.getR dX11_thing_1 rfl fX11_23 L_0 rf_0_3 ?_
  refine S.iload_n dX11_thing_4 rfl rfl rfl ?_
  refine S.callVi dX11_thing_5 rfl cX11_126 (bk_X1_hasThing gd18) rfl (gd_lay gd18) (by decide) rfl (Nat.le_of_ble_eq_true rfl) (fun z5 M5 q5 => ?_)
  obtain ⟨b5, rfl⟩ := q5
  refine S.if_ne (tgt := 13) dX11_thing_8 (by decide) rfl (by unfold fp_rng; omega) (fun h8 => ?_) (fun h8 => ?_)
  · refine S.iload_n dX11_thing_13 rfl rfl rfl ?_
    refine S.bipush dX11_thing_14 rfl (by decide) ?_
    refine S.icmp_lt (tgt := 38) dX11_thing_16 (by decide) rfl (by unfold fp_rng; omega) (by unfold fp_rng; omega) (fun h16 => ?_) (fun h16 => ?_)
    · refine S.iload_n dX11_thing_38 rfl rfl rfl ?_
      rcases (show w < 0 ∨ 3 < w ∨ w = 0 ∨ w = 1 ∨ w = 2 ∨ w = 3 by omega) with hs | hs | hs | hs | hs | hs
      · refine S.tableOut (tgt := 107) dX11_thing_39 (by unfold fp_rng; omega) (by omega) (by decide) ?_
        refine S.iconst dX11_thing_107 rfl ?_
        refine S.iret dX11_thing_108 rfl ?_
        refine ⟨?_, rfl⟩
        (repeat' split) <;> first | rfl | omega
      · refine S.tableOut (tgt := 107) dX11_thing_39 (by unfold fp_rng; omega) (by omega) (by decide) ?_
        refine S.iconst dX11_thing_107 rfl ?_
        refine S.iret dX11_thing_108 rfl ?_
        refine ⟨?_, rfl⟩
        (repeat' split) <;> first | rfl | omega
      · refine S.tableIn (tgt := 68) dX11_thing_39 (by unfold fp_rng; omega) (by omega) (by omega) (by rw [hs]; rfl) (by decide) ?_
        refine S.aload_n dX11_thing_68 rfl rfl rfl ?_
        refine S.getR dX11_thing_69 rfl fX11_23 L_0 rf_0_3 ?_
        refine S.getR dX11_thing_72 rfl fX11_134 (gd_lay gd18) (gd_r3 gd18) ?_
        refine S.iload_n dX11_thing_75 rfl rfl rfl ?_
        refine S.iald dX11_thing_76 rfl (gd_a3 gd18) (by omega) (by omega) ?_
        refine S.iret dX11_thing_77 rfl ?_
        refine ⟨?_, rfl⟩
        have hv := hd.2.2.2.1 t (by omega) (by omega)
        (repeat' split) <;> first | exact hv | omega
      · refine S.tableIn (tgt := 78) dX11_thing_39 (by unfold fp_rng; omega) (by omega) (by omega) (by rw [hs]; rfl) (by decide) ?_
        refine S.aload_n dX11_thing_78 rfl rfl rfl ?_
        refine S.getR dX11_thing_79 rfl fX11_30 L_0 rf_0_4 ?_
        refine S.getR dX11_thing_82 rfl fX11_138 (pl_lay pl22) (pl_r0 pl22) ?_
        refine S.iload_n dX11_thing_85 rfl rfl rfl ?_
        refine S.iald dX11_thing_86 rfl (pl_a0 pl22) (by omega) (by omega) ?_
        refine S.iret dX11_thing_87 rfl ?_
        refine ⟨?_, rfl⟩
        have hv := hcl.1 t (by omega) (by omega)
        (repeat' split) <;> first | exact hv | omega
      · refine S.tableIn (tgt := 88) dX11_thing_39 (by unfold fp_rng; omega) (by omega) (by omega) (by rw [hs]; rfl) (by decide) ?_
        refine S.aload_n dX11_thing_88 rfl rfl rfl ?_
        refine S.getR dX11_thing_89 rfl fX11_30 L_0 rf_0_4 ?_
        refine S.iload_n dX11_thing_92 rfl rfl rfl ?_
        refine S.callVe dX11_thing_93 rfl cX11_141 (rk_X5_spotOf pl22) rfl (pl_lay pl22) (by decide) rfl (Nat.le_of_ble_eq_true rfl) ?_
        refine S.iret dX11_thing_96 rfl ?_
        refine ⟨?_, rfl⟩
        (repeat' split) <;> first | rfl | omega
      · refine S.tableIn (tgt := 97) dX11_thing_39 (by unfold fp_rng; omega) (by omega) (by omega) (by rw [hs]; rfl) (by decide) ?_
        refine S.aload_n dX11_thing_97 rfl rfl rfl ?_
        refine S.getR dX11_thing_98 rfl fX11_30 L_0 rf_0_4 ?_
        refine S.getR dX11_thing_101 rfl fX11_145 (pl_lay pl22) (pl_r1 pl22) ?_
        refine S.iload_n dX11_thing_104 rfl rfl rfl ?_
        refine S.iald dX11_thing_105 rfl (pl_a1 pl22) (by omega) (by omega) ?_
        refine S.iret dX11_thing_106 rfl ?_
        refine ⟨?_, rfl⟩
        have hv := hcl.2.2.1 t (by omega) (by omega)
        (repeat' split) <;> first | (exfalso; omega) | (split at hv <;> first | exact hv | omega)
    · refine S.iload_n dX11_thing_19 rfl rfl rfl ?_
      refine S.bipush dX11_thing_20 rfl (by decide) ?_
      refine S.icmp_ge (tgt := 38) dX11_thing_22 (by decide) rfl (by unfold fp_rng; omega) (by unfold fp_rng; omega) (fun h22 => ?_) (fun h22 => ?_)
      · refine S.iload_n dX11_thing_38 rfl rfl rfl ?_
        rcases (show w < 0 ∨ 3 < w ∨ w = 0 ∨ w = 1 ∨ w = 2 ∨ w = 3 by omega) with hs | hs | hs | hs | hs | hs
        · refine S.tableOut (tgt := 107) dX11_thing_39 (by unfold fp_rng; omega) (by omega) (by decide) ?_
          refine S.iconst dX11_thing_107 rfl ?_
          refine S.iret dX11_thing_108 rfl ?_
          refine ⟨?_, rfl⟩
          (repeat' split) <;> first | rfl | omega
        · refine S.tableOut (tgt := 107) dX11_thing_39 (by unfold fp_rng; omega) (by omega) (by decide) ?_
          refine S.iconst dX11_thing_107 rfl ?_
          refine S.iret dX11_thing_108 rfl ?_
          refine ⟨?_, rfl⟩
          (repeat' split) <;> first | rfl | omega
        · refine S.tableIn (tgt := 68) dX11_thing_39 (by unfold fp_rng; omega) (by omega) (by omega) (by rw [hs]; rfl) (by decide) ?_
          refine S.aload_n dX11_thing_68 rfl rfl rfl ?_
          refine S.getR dX11_thing_69 rfl fX11_23 L_0 rf_0_3 ?_
          refine S.getR dX11_thing_72 rfl fX11_134 (gd_lay gd18) (gd_r3 gd18) ?_
          refine S.iload_n dX11_thing_75 rfl rfl rfl ?_
          refine S.iald dX11_thing_76 rfl (gd_a3 gd18) (by omega) (by omega) ?_
          refine S.iret dX11_thing_77 rfl ?_
          refine ⟨?_, rfl⟩
          have hv := hd.2.2.2.1 t (by omega) (by omega)
          (repeat' split) <;> first | exact hv | omega
        · refine S.tableIn (tgt := 78) dX11_thing_39 (by unfold fp_rng; omega) (by omega) (by omega) (by rw [hs]; rfl) (by decide) ?_
          refine S.aload_n dX11_thing_78 rfl rfl rfl ?_
          refine S.getR dX11_thing_79 rfl fX11_30 L_0 rf_0_4 ?_
          refine S.getR dX11_thing_82 rfl fX11_138 (pl_lay pl22) (pl_r0 pl22) ?_
          refine S.iload_n dX11_thing_85 rfl rfl rfl ?_
          refine S.iald dX11_thing_86 rfl (pl_a0 pl22) (by omega) (by omega) ?_
          refine S.iret dX11_thing_87 rfl ?_
          refine ⟨?_, rfl⟩
          have hv := hcl.1 t (by omega) (by omega)
          (repeat' split) <;> first | exact hv | omega
        · refine S.tableIn (tgt := 88) dX11_thing_39 (by unfold fp_rng; omega) (by omega) (by omega) (by rw [hs]; rfl) (by decide) ?_
          refine S.aload_n dX11_thing_88 rfl rfl rfl ?_
          refine S.getR dX11_thing_89 rfl fX11_30 L_0 rf_0_4 ?_
          refine S.iload_n dX11_thing_92 rfl rfl rfl ?_
          refine S.callVe dX11_thing_93 rfl cX11_141 (rk_X5_spotOf pl22) rfl (pl_lay pl22) (by decide) rfl (Nat.le_of_ble_eq_true rfl) ?_
          refine S.iret dX11_thing_96 rfl ?_
          refine ⟨?_, rfl⟩
          (repeat' split) <;> first | rfl | omega
        · refine S.tableIn (tgt := 97) dX11_thing_39 (by unfold fp_rng; omega) (by omega) (by omega) (by rw [hs]; rfl) (by decide) ?_
          refine S.aload_n dX11_thing_97 rfl rfl rfl ?_
          refine S.getR dX11_thing_98 rfl fX11_30 L_0 rf_0_4 ?_
          refine S.getR dX11_thing_101 rfl fX11_145 (pl_lay pl22) (pl_r1 pl22) ?_
          refine S.iload_n dX11_thing_104 rfl rfl rfl ?_
          refine S.iald dX11_thing_105 rfl (pl_a1 pl22) (by omega) (by omega) ?_
          refine S.iret dX11_thing_106 rfl ?_
          refine ⟨?_, rfl⟩
          have hv := hcl.2.2.1 t (by omega) (by omega)
          (repeat' split) <;> first | (exfalso; omega) | (split at hv <;> first | exact hv | omega)
      · refine S.aload_n dX11_thing_25 rfl rfl rfl ?_
        refine S.getR dX11_thing_26 rfl fX11_23 L_0 rf_0_3 ?_
        refine S.iload_n dX11_thing_29 rfl rfl rfl ?_
        refine S.bipush dX11_thing_30 rfl (by decide) ?_
        refine S.isub dX11_thing_32 rfl ?_
        refine S.iload_n dX11_thing_33 rfl rfl rfl ?_
        refine S.callVe dX11_thing_34 rfl cX11_130 (ok_X1_valueTo gd18) rfl (gd_lay gd18) (by decide) rfl (Nat.le_of_ble_eq_true rfl) ?_
        refine S.iret dX11_thing_37 rfl ?_
        refine ⟨?_, rfl⟩
        have hv := hd.2.2.2.2.2.1 t (w - 10) (by omega) (by omega) (by omega) (by omega)
        (repeat' split) <;> first | exact hv | omega
  · refine S.iconst dX11_thing_11 rfl ?_
    refine S.iret dX11_thing_12 rfl ?_
    refine ⟨?_, rfl⟩
    (repeat' split) <;> first | rfl | omega
theorem mm_thing {t w : Int} (hc : MS M tp fl g pg vs nt im sh tn) (ho : OK g pg vs nt im sh) (ht : fp_rng t) (hw : fp_rng w) : fp_Ok l G 2 kX12_thing [rV G 177, iV t, iV w] M (qE (A_thing g pg t w) M) := by
  obtain ⟨-, hd, hcl, -⟩ := hc
  obtain ⟨hg, hP, -⟩ := ho
  have hg1 := hg.1
  have hg2 := hg.2.1
  have hw' := hw
  unfold fp_rng at hw'
  refine fp_Ok.of (r := 0) rfl (Nat.le_of_ble_eq_true rfl) rfl ?_
  unfold A_thing
  refine S.aload_n dX12_thing_0 rfl rfl rfl ?_
  refine S.iload_n dX12_thing_1 rfl rfl rfl ?_
  refine S.callVi dX12_thing_2 rfl cX12_205 (bk_X12_isThing) rfl L_177 (by decide) rfl (Nat.le_of_ble_eq_true rfl) (fun z2 M2 q2 => ?_)
  obtain ⟨b2, rfl⟩ := q2
  refine S.if_ne (tgt := 10) dX12_thing_5 (by decide) rfl (by unfold fp_rng; omega) (fun h5 => ?_) (fun h5 => ?_)
  · refine S.iload_n dX12_thing_10 rfl rfl rfl ?_
    rcases (show w < 0 ∨ 3 < w ∨ w = 0 ∨ w = 1 ∨ w = 2 ∨ w = 3 by omega) with hs | hs | hs | hs | hs | hs
    · refine S.tableOut (tgt := 86) dX12_thing_11 (by unfold fp_rng; omega) (by omega) (by decide) ?_
      refine S.iload_n dX12_thing_86 rfl rfl rfl ?_
      refine S.i2l dX12_thing_87 rfl (by unfold fp_rng; omega) ?_
      refine S.ldc2 (v := 10) dX12_thing_88 rfl lX12_212 (by decide) ?_
      refine S.ldc2 (v := 13) dX12_thing_91 rfl lX12_214 (by decide) ?_
      refine S.callSi dX12_thing_94 rfl cX12_94 (bk_X12_in) rfl (by decide) rfl (Nat.le_of_ble_eq_true rfl) (fun z94 M94 q94 => ?_)
      obtain ⟨b94, rfl⟩ := q94
      refine S.if_eq (tgt := 116) dX12_thing_97 (by decide) rfl (by unfold fp_rng; omega) (fun h97 => ?_) (fun h97 => ?_)
      · refine S.iconst dX12_thing_116 rfl ?_
        refine S.iret dX12_thing_117 rfl ?_
        refine ⟨?_, rfl⟩
        (repeat' split) <;> first | (exfalso; omega) | rfl | (have hv := hd.2.2.2.2.2.1 t (w - 10) (by omega) (by omega) (by omega) (by omega); rw [show 4 * t + (w - 10) = 4 * t + w - 10 by omega] at hv; exact hv)
      · refine S.aload_n dX12_thing_100 rfl rfl rfl ?_
        refine S.getR dX12_thing_101 rfl fX12_16 L_177 rf_177_2 ?_
        refine S.iconst dX12_thing_104 rfl ?_
        refine S.iload_n dX12_thing_105 rfl rfl rfl ?_
        refine S.imul dX12_thing_106 rfl ?_
        refine S.iload_n dX12_thing_107 rfl rfl rfl ?_
        refine S.iadd dX12_thing_108 rfl ?_
        refine S.bipush dX12_thing_109 rfl (by decide) ?_
        refine S.isub dX12_thing_111 rfl ?_
        refine S.iald dX12_thing_112 rfl L_180 (by omega) (by omega) ?_
        refine S.goto (pc' := 117) dX12_thing_113 (by decide) ?_
        refine S.iret dX12_thing_117 rfl ?_
        refine ⟨?_, rfl⟩
        (repeat' split) <;> first | (exfalso; omega) | rfl | (have hv := hd.2.2.2.2.2.1 t (w - 10) (by omega) (by omega) (by omega) (by omega); rw [show 4 * t + (w - 10) = 4 * t + w - 10 by omega] at hv; exact hv)
    · refine S.tableOut (tgt := 86) dX12_thing_11 (by unfold fp_rng; omega) (by omega) (by decide) ?_
      refine S.iload_n dX12_thing_86 rfl rfl rfl ?_
      refine S.i2l dX12_thing_87 rfl (by unfold fp_rng; omega) ?_
      refine S.ldc2 (v := 10) dX12_thing_88 rfl lX12_212 (by decide) ?_
      refine S.ldc2 (v := 13) dX12_thing_91 rfl lX12_214 (by decide) ?_
      refine S.callSi dX12_thing_94 rfl cX12_94 (bk_X12_in) rfl (by decide) rfl (Nat.le_of_ble_eq_true rfl) (fun z94 M94 q94 => ?_)
      obtain ⟨b94, rfl⟩ := q94
      refine S.if_eq (tgt := 116) dX12_thing_97 (by decide) rfl (by unfold fp_rng; omega) (fun h97 => ?_) (fun h97 => ?_)
      · refine S.iconst dX12_thing_116 rfl ?_
        refine S.iret dX12_thing_117 rfl ?_
        refine ⟨?_, rfl⟩
        (repeat' split) <;> first | (exfalso; omega) | rfl | (have hv := hd.2.2.2.2.2.1 t (w - 10) (by omega) (by omega) (by omega) (by omega); rw [show 4 * t + (w - 10) = 4 * t + w - 10 by omega] at hv; exact hv)
      · refine S.aload_n dX12_thing_100 rfl rfl rfl ?_
        refine S.getR dX12_thing_101 rfl fX12_16 L_177 rf_177_2 ?_
        refine S.iconst dX12_thing_104 rfl ?_
        refine S.iload_n dX12_thing_105 rfl rfl rfl ?_
        refine S.imul dX12_thing_106 rfl ?_
        refine S.iload_n dX12_thing_107 rfl rfl rfl ?_
        refine S.iadd dX12_thing_108 rfl ?_
        refine S.bipush dX12_thing_109 rfl (by decide) ?_
        refine S.isub dX12_thing_111 rfl ?_
        refine S.iald dX12_thing_112 rfl L_180 (by omega) (by omega) ?_
        refine S.goto (pc' := 117) dX12_thing_113 (by decide) ?_
        refine S.iret dX12_thing_117 rfl ?_
        refine ⟨?_, rfl⟩
        (repeat' split) <;> first | (exfalso; omega) | rfl | (have hv := hd.2.2.2.2.2.1 t (w - 10) (by omega) (by omega) (by omega) (by omega); rw [show 4 * t + (w - 10) = 4 * t + w - 10 by omega] at hv; exact hv)
    · refine S.tableIn (tgt := 40) dX12_thing_11 (by unfold fp_rng; omega) (by omega) (by omega) (by rw [hs]; rfl) (by decide) ?_
      refine S.aload_n dX12_thing_40 rfl rfl rfl ?_
      refine S.getR dX12_thing_41 rfl fX12_13 L_177 rf_177_1 ?_
      refine S.iload_n dX12_thing_44 rfl rfl rfl ?_
      refine S.iald dX12_thing_45 rfl L_179 (by omega) (by omega) ?_
      refine S.iret dX12_thing_46 rfl ?_
      refine ⟨?_, rfl⟩
      have hv := hd.2.2.2.1 t (by omega) (by omega)
      (repeat' split) <;> first | exact hv | omega
    · refine S.tableIn (tgt := 47) dX12_thing_11 (by unfold fp_rng; omega) (by omega) (by omega) (by rw [hs]; rfl) (by decide) ?_
      refine S.aload_n dX12_thing_47 rfl rfl rfl ?_
      refine S.getR dX12_thing_48 rfl fX12_7 L_177 rf_177_0 ?_
      refine S.iload_n dX12_thing_51 rfl rfl rfl ?_
      refine S.iald dX12_thing_52 rfl L_178 (by omega) (by omega) ?_
      refine S.iret dX12_thing_53 rfl ?_
      refine ⟨?_, rfl⟩
      have hv := hcl.1 t (by omega) (by omega)
      rw [Int.zero_add] at hv
      (repeat' split) <;> first | exact hv | omega
    · refine S.tableIn (tgt := 54) dX12_thing_11 (by unfold fp_rng; omega) (by omega) (by omega) (by rw [hs]; rfl) (by decide) ?_
      refine S.aload_n dX12_thing_54 rfl rfl rfl ?_
      refine S.iload_n dX12_thing_55 rfl rfl rfl ?_
      refine S.callVe dX12_thing_56 rfl cX12_209 (rk_X12_placeOf (g := g) (pg := pg)) rfl L_177 (by decide) rfl (Nat.le_of_ble_eq_true rfl) ?_
      refine S.iret dX12_thing_59 rfl ?_
      refine ⟨?_, rfl⟩
      (repeat' split) <;> first | rfl | omega
    · refine S.tableIn (tgt := 60) dX12_thing_11 (by unfold fp_rng; omega) (by omega) (by omega) (by rw [hs]; rfl) (by decide) ?_
      refine S.aload_n dX12_thing_60 rfl rfl rfl ?_
      refine S.getR dX12_thing_61 rfl fX12_7 L_177 rf_177_0 ?_
      refine S.iload_n dX12_thing_64 rfl rfl rfl ?_
      refine S.iald dX12_thing_65 rfl L_178 (by omega) (by omega) ?_
      refine S.bipush dX12_thing_66 rfl (by decide) ?_
      refine S.icmp_lt (tgt := 83) dX12_thing_68 (by decide) rfl (by have := hcl.1 t (by omega) (by omega); rw [Int.zero_add] at this; have := hP.1 t (by omega) (by omega); unfold fp_rng; omega) (by unfold fp_rng; omega) (fun h68 => ?_) (fun h68 => ?_)
      · refine S.bipush dX12_thing_83 rfl (by decide) ?_
        refine S.iret dX12_thing_85 rfl ?_
        refine ⟨?_, rfl⟩
        have hv := hcl.1 t (by omega) (by omega)
        rw [Int.zero_add] at hv
        have hv2 := hcl.2.1 t (by omega) (by omega)
        rw [show (0 : Int) + 37 + t = 37 + t by omega] at hv2
        (repeat' split) <;> first | (exfalso; omega) | rfl | exact hv2 (by omega)
      · refine S.aload_n dX12_thing_71 rfl rfl rfl ?_
        refine S.getR dX12_thing_72 rfl fX12_7 L_177 rf_177_0 ?_
        refine S.bipush dX12_thing_75 rfl (by decide) ?_
        refine S.iload_n dX12_thing_77 rfl rfl rfl ?_
        refine S.iadd dX12_thing_78 rfl ?_
        refine S.iald dX12_thing_79 rfl L_178 (by omega) (by omega) ?_
        refine S.goto (pc' := 85) dX12_thing_80 (by decide) ?_
        refine S.iret dX12_thing_85 rfl ?_
        refine ⟨?_, rfl⟩
        have hv := hcl.1 t (by omega) (by omega)
        rw [Int.zero_add] at hv
        have hv2 := hcl.2.1 t (by omega) (by omega)
        rw [show (0 : Int) + 37 + t = 37 + t by omega] at hv2
        (repeat' split) <;> first | (exfalso; omega) | rfl | exact hv2 (by omega)
  · refine S.iconst dX12_thing_8 rfl ?_
    refine S.iret dX12_thing_9 rfl ?_
    refine ⟨?_, rfl⟩
    (repeat' split) <;> first | rfl | omega
end PUB
