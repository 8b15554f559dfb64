/-! THE REFERENCE in the bank's own words: gives, draws, puts, happens -/
def mvIs (M : fp_Mem) (vs : List aVt) : Prop := M 178 95 = vs.length ∧ vs.length ≤ 12 ∧ ∀ i : Int, 0 ≤ i → i < vs.length → M 178 (47 + 4 * i).toNat = (vs.getD i.toNat aV0).1 ∧ M 178 (47 + 4 * i + 1).toNat = (vs.getD i.toNat aV0).2.1 ∧ M 178 (47 + 4 * i + 2).toNat = (vs.getD i.toNat aV0).2.2.1 ∧ M 178 (47 + 4 * i + 3).toNat = (vs.getD i.toNat aV0).2.2.2
theorem mvIs.kept {M N : fp_Mem} {vs : List aVt} (h : mvIs M vs) (e : ∀ j : Nat, 47 ≤ j → j ≤ 95 → N 178 j = M 178 j) : mvIs N vs := by
  obtain ⟨h1, h2, h3⟩ := h
  refine ⟨by rw [e 95 (by decide) (by decide)]; exact h1, h2, fun i i0 i1 => ?_⟩
  rw [e _ (by omega) (by omega), e _ (by omega) (by omega), e _ (by omega) (by omega), e _ (by omega) (by omega)]
  exact h3 i i0 i1
theorem mvIs.at {M : fp_Mem} {g : aGd} {vs : List aVt} (h : mvIs M vs) (ho : vsOk g vs) {i : Int} (h0 : 0 ≤ i) (h1 : i < vs.length) : (0 ≤ M 178 (47 + 4 * i).toNat ∧ M 178 (47 + 4 * i).toNat ≤ 99) ∧ (0 ≤ M 178 (47 + 4 * i + 1).toNat ∧ M 178 (47 + 4 * i + 1).toNat < 4) ∧ (0 ≤ M 178 (47 + 4 * i + 2).toNat ∧ M 178 (47 + 4 * i + 2).toNat < g.2.1) ∧ (M 178 (47 + 4 * i + 3).toNat = -4 ∨ (0 ≤ M 178 (47 + 4 * i + 3).toNat ∧ M 178 (47 + 4 * i + 3).toNat < g.1)) := by
  obtain ⟨e1, e2, e3, e4⟩ := h.2.2 i h0 h1
  have := ho.at h0 h1
  rw [e1, e2, e3, e4]
  exact this
section MRL
variable {l : Launch} {G : fp_WG} {M : fp_Mem} {a : Int} {g : aGd} {pg : aPg} {vs : List aVt}
theorem mpIs.line (h : mpIs M a g pg) (hP : pgOk g pg) {x : Int} (hx : 0 ≤ x ∧ x < g.2.1) (hg : gOk g) : M 178 (a + 10 + 9 * x).toNat = (pg.2.2 x).length ∧ (∀ i : Int, 0 ≤ i → i < (pg.2.2 x).length → M 178 (a + 10 + 9 * x + 1 + i).toNat = (pg.2.2 x).getD i.toNat 0 ∧ 0 ≤ (pg.2.2 x).getD i.toNat 0 ∧ (pg.2.2 x).getD i.toNat 0 < g.1) ∧ (pg.2.2 x).length ≤ 8 := by
  have hx3 : x < 3 := by have := hg.2.1.2; omega
  obtain ⟨h1, h2⟩ := h.2.2 x hx.1 hx3
  obtain ⟨l1, l2, l3, l4⟩ := hP.2.1 x hx.1 hx3
  refine ⟨h1, fun i h0 hl => ⟨h2 i h0 hl, ?_⟩, l1⟩
  have := l4 _ (fp_getD_mem (L := pg.2.2 x) (i := i.toNat) (by omega))
  exact ⟨this.1, this.2.1⟩
theorem mpIs.rows (h : mpIs M a g pg) (hP : pgOk g pg) {x : Int} (hx : 0 ≤ x ∧ x < g.2.1) (hg : gOk g) : (0 ≤ M 178 (a + 10 + 9 * x).toNat ∧ M 178 (a + 10 + 9 * x).toNat ≤ 8) ∧ ∀ i : Int, 0 ≤ i → i < M 178 (a + 10 + 9 * x).toNat → 0 ≤ M 178 (a + 10 + 9 * x + 1 + i).toNat ∧ M 178 (a + 10 + 9 * x + 1 + i).toNat ≤ 10 := by
  obtain ⟨h1, h2, h3⟩ := h.line hP hx hg
  refine ⟨by omega, fun i i0 i1 => ?_⟩
  rw [h1] at i1
  have := h2 i i0 i1
  have := hg.1.2
  omega
theorem mp_sel (h : mpIs M a g pg) (hd : mdIs M g) (hP : pgOk g pg) (hg : gOk g) {x : Int} (hx : 0 ≤ x ∧ x < g.2.1) : md_sel M a x = if pg.2.2 x = [] then -4 else aSel g (pg.2.2 x) (g.2.2.2.2.2 x) := by
  obtain ⟨h1, h2, h3⟩ := h.line hP hx hg
  unfold md_sel
  rw [h1]
  by_cases hne : pg.2.2 x = []
  · rw [if_pos (by rw [hne]; rfl), if_pos hne]
  · have hlen : 0 < (pg.2.2 x).length := List.length_pos_iff.mpr hne
    rw [if_neg (by omega), if_neg hne]
    unfold aSel
    rw [hd.2.2.2.2.2.2.2.1 x hx.1 hx.2]
    refine fp_giv_congr (by omega) (fun i h0 hl => ?_)
    obtain ⟨e1, e2, e3⟩ := h2 i h0 hl
    unfold md_w
    rw [e1]
    exact hd.2.2.2.1 _ e2 e3
theorem mp_gives (h : mpIs M a g pg) (hd : mdIs M g) (hP : pgOk g pg) (hg : gOk g) {x : Int} (hx : 0 ≤ x ∧ x < g.2.1) : md_gives M a x = aGv g pg x := by
  obtain ⟨h1, h2, h3⟩ := h.line hP hx hg
  unfold md_gives aGv
  rw [h1, mp_sel h hd hP hg hx]
  by_cases hne : pg.2.2 x = []
  · rw [if_pos (by rw [hne]; rfl), if_pos hne]
  · have hlen : 0 < (pg.2.2 x).length := List.length_pos_iff.mpr hne
    rw [if_neg (by omega), if_neg hne, if_neg hne]
    have hs := aSel_in (g := g) (kind := g.2.2.2.2.2 x) hne
    exact (h2 _ hs.1 hs.2).1
theorem rk_X12_gives {x : Int} (ha : 0 ≤ a ∧ a ≤ 500 := by omega) (hc : mpIs M a g pg := by assumption) (hd : mdIs M g := by assumption) (hP : pgOk g pg := by assumption) (hg : gOk g := by assumption) (hx : 0 ≤ x ∧ x < g.2.1 := by first | assumption | omega) : fp_Ok l G 2 kX12_gives [rV G 177, iV a, iV x] M (qE (aGv g pg x) M) := by
  rw [← mp_gives hc hd hP hg hx]
  have hr := hc.rows hP hx hg
  exact ok_X12_gives ha.1 ha.2 ⟨hx.1, by have := hg.2.1.2; omega⟩ hd.2.2.2.2.2.2.2.2 hr.1 hr.2
theorem rk_X12_draws {p x : Int} (ha : 0 ≤ a ∧ a ≤ 500 := by omega) (hc : mpIs M a g pg := by assumption) (hd : mdIs M g := by assumption) (hP : pgOk g pg := by assumption) (hg : gOk g := by assumption) (hp : 0 ≤ p ∧ p < 4 := by first | assumption | omega) (hx : 0 ≤ x ∧ x < g.2.1 := by first | assumption | omega) : fp_Ok l G 2 kX12_draws [rV G 177, iV a, iV p, iV x] M (qI fun z N => z = aGv g pg x ∧ mpIs N a g (aDraw g pg p x) ∧ frM M N a) := by
  have hg2 := hg.2.1.2
  have hg1 := hg.1
  have hr := hc.rows hP hx hg
  have hr1 := hr.1
  have hr2 := hr.2
  have ho := hd.2.2.2.2.2.2.2.2
  have hsel := mp_sel hc hd hP hg hx
  obtain ⟨n1, n2, n3⟩ := hc.line hP hx hg
  refine fp_Ok.of (r := 2) rfl (Nat.le_of_ble_eq_true rfl) rfl ?_
  by_cases hne : pg.2.2 x = []
  · rw [if_pos hne] at hsel
    refine S.aload_n dX12_draws_0 rfl rfl rfl ?_
    refine S.iload_n dX12_draws_1 rfl rfl rfl ?_
    refine S.iload_n dX12_draws_2 rfl rfl rfl ?_
    refine S.callVe dX12_draws_3 rfl cX12_216 (ok_X12_givesAt) rfl L_177 (by decide) rfl (Nat.le_of_ble_eq_true rfl) ?_
    rw [hsel]
    refine S.istore (LL' := [_, _, _, _, _, _]) dX12_draws_6 rfl (by decide) rfl rfl ?_
    refine S.iload dX12_draws_8 rfl rfl ?_
    refine S.bipush dX12_draws_10 rfl (by decide) ?_
    refine S.icmp_ne (tgt := 18) dX12_draws_12 (by decide) rfl (by unfold fp_rng; omega) (by unfold fp_rng; omega) (fun h12 => ?_) (fun h12 => ?_)
    · exfalso; omega
    · refine S.bipush dX12_draws_15 rfl (by decide) ?_
      refine S.iret dX12_draws_17 rfl ?_
      refine ⟨by unfold aGv; rw [if_pos hne], ?_, frM.refl _ _⟩
      unfold aDraw; rw [if_pos hne]; exact hc
  · rw [if_neg hne] at hsel
    have hs := aSel_in (g := g) (kind := g.2.2.2.2.2 x) hne
    have eg : aGv g pg x = M 178 (a + 10 + 9 * x + 1 + aSel g (pg.2.2 x) (g.2.2.2.2.2 x)).toNat := by
      unfold aGv; rw [if_neg hne]; exact ((n2 _ hs.1 hs.2).1).symm
    have ht := (hP.2.1 x hx.1 (by omega)).2.2.2 _ (aGv_mem (g := g) hne)
    have hw := hP.2.1 x hx.1 (by omega)
    refine S.aload_n dX12_draws_0 rfl rfl rfl ?_
    refine S.iload_n dX12_draws_1 rfl rfl rfl ?_
    refine S.iload_n dX12_draws_2 rfl rfl rfl ?_
    refine S.callVe dX12_draws_3 rfl cX12_216 (ok_X12_givesAt) rfl L_177 (by decide) rfl (Nat.le_of_ble_eq_true rfl) ?_
    rw [hsel]
    refine S.istore (LL' := [_, _, _, _, _, _]) dX12_draws_6 rfl (by decide) rfl rfl ?_
    refine S.iload dX12_draws_8 rfl rfl ?_
    refine S.bipush dX12_draws_10 rfl (by decide) ?_
    refine S.icmp_ne (tgt := 18) dX12_draws_12 (by decide) rfl (by unfold fp_rng; omega) (by unfold fp_rng; omega) (fun h12 => ?_) (fun h12 => ?_)
    · refine S.aload_n dX12_draws_18 rfl rfl rfl ?_
      refine S.iload_n dX12_draws_19 rfl rfl rfl ?_
      refine S.iload_n dX12_draws_20 rfl rfl rfl ?_
      refine S.iload dX12_draws_21 rfl rfl ?_
      refine S.callVe dX12_draws_23 rfl cX12_241 (ok_X12_takesOut) rfl L_177 (by decide) rfl (Nat.le_of_ble_eq_true rfl) ?_
      rw [← eg]
      refine S.istore (LL' := [_, _, _, _, _, _]) dX12_draws_26 rfl (by decide) rfl rfl ?_
      refine S.aload_n dX12_draws_28 rfl rfl rfl ?_
      refine S.getR dX12_draws_29 rfl fX12_7 L_177 rf_177_0 ?_
      refine S.iload_n dX12_draws_32 rfl rfl rfl ?_
      refine S.iload dX12_draws_33 rfl rfl ?_
      refine S.iadd dX12_draws_35 rfl ?_
      refine S.iload_n dX12_draws_36 rfl rfl rfl ?_
      refine S.iast dX12_draws_37 rfl L_178 (by omega) (by omega) ?_
      refine S.iload dX12_draws_38 rfl rfl ?_
      refine S.iret dX12_draws_40 rfl ?_
      refine ⟨rfl, ?_, ?_⟩
      · unfold mpIs
        rw [fp_up_at, fp_upM_at]
        exact mp_draw hc hP hg ha.1 hp hx hne
      · refine ⟨fun c hc => by rw [fp_up_ne hc, fp_upM_ne hc], fun j hj => ?_⟩
        rw [fp_up_at, fp_upM_at]
        unfold fp_upf md_take
        rw [if_neg (by omega), if_neg (by omega), if_neg (by omega)]
    · exfalso; omega
theorem rk_X12_puts {p t x : Int} (ha : 0 ≤ a ∧ a ≤ 500 := by omega) (hc : mpIs M a g pg := by assumption) (hP : pgOk g pg := by assumption) (hg : gOk g := by assumption) (hp : 0 ≤ p ∧ p < 4 := by first | assumption | omega) (ht : 0 ≤ t ∧ t < g.1 := by first | assumption | omega) (hx : 0 ≤ x ∧ x < g.2.1 := by first | assumption | omega) : fp_Ok l G 1 kX12_puts [rV G 177, iV a, iV p, iV t, iV x] M (qI fun z N => z = (aApp pg p t x).1 ∧ mpIs N a g (aApp pg p t x).2 ∧ frM M N a) := by
  have hg2 := hg.2.1.2
  have hg1 := hg.1
  have hr := hc.rows hP hx hg
  have hr1 := hr.1
  obtain ⟨n1, n2, n3⟩ := hc.line hP hx hg
  have hwt := hc.1 t ht.1 ht.2
  have hwo := hP.1 t ht.1 ht.2
  refine fp_Ok.of (r := 0) rfl (Nat.le_of_ble_eq_true rfl) rfl ?_
  unfold aApp
  by_cases hcn : pg.1 t = p ∧ (pg.2.2 x).length < 8
  · rw [if_pos hcn]
    refine S.aload_n dX12_puts_0 rfl rfl rfl ?_
    refine S.getR dX12_puts_1 rfl fX12_7 L_177 rf_177_0 ?_
    refine S.iload_n dX12_puts_4 rfl rfl rfl ?_
    refine S.iload_n dX12_puts_5 rfl rfl rfl ?_
    refine S.iadd dX12_puts_6 rfl ?_
    refine S.iald dX12_puts_7 rfl L_178 (by omega) (by omega) ?_
    refine S.iload_n dX12_puts_8 rfl rfl rfl ?_
    refine S.icmp_ne (tgt := 24) dX12_puts_9 (by decide) rfl (by unfold fp_rng; omega) (by unfold fp_rng; omega) (fun h9 => ?_) (fun h9 => ?_)
    · exfalso; omega
    · refine S.aload_n dX12_puts_12 rfl rfl rfl ?_
      refine S.iload_n dX12_puts_13 rfl rfl rfl ?_
      refine S.iload dX12_puts_14 rfl rfl ?_
      refine S.callVe dX12_puts_16 rfl cX12_198 (ok_X12_lie) rfl L_177 (by decide) rfl (Nat.le_of_ble_eq_true rfl) ?_
      refine S.bipush dX12_puts_19 rfl (by decide) ?_
      refine S.icmp_ne (tgt := 26) dX12_puts_21 (by decide) rfl (by unfold fp_rng; omega) (by unfold fp_rng; omega) (fun h21 => ?_) (fun h21 => ?_)
      · refine S.aload_n dX12_puts_26 rfl rfl rfl ?_
        refine S.iload_n dX12_puts_27 rfl rfl rfl ?_
        refine S.iload_n dX12_puts_28 rfl rfl rfl ?_
        refine S.iload dX12_puts_29 rfl rfl ?_
        refine S.aload_n dX12_puts_31 rfl rfl rfl ?_
        refine S.iload_n dX12_puts_32 rfl rfl rfl ?_
        refine S.iload dX12_puts_33 rfl rfl ?_
        refine S.callVe dX12_puts_35 rfl cX12_198 (ok_X12_lie) rfl L_177 (by decide) rfl (Nat.le_of_ble_eq_true rfl) ?_
        refine S.callVw dX12_puts_38 rfl cX12_237 (ok_X12_laysIn) rfl L_177 (by decide) rfl (Nat.le_of_ble_eq_true rfl) ?_
        refine S.aload_n dX12_puts_41 rfl rfl rfl ?_
        refine S.getR dX12_puts_42 rfl fX12_7 L_177 rf_177_0 ?_
        refine S.iload_n dX12_puts_45 rfl rfl rfl ?_
        refine S.iload_n dX12_puts_46 rfl rfl rfl ?_
        refine S.iadd dX12_puts_47 rfl ?_
        refine S.bipush dX12_puts_48 rfl (by decide) ?_
        refine S.iload dX12_puts_50 rfl rfl ?_
        refine S.iadd dX12_puts_52 rfl ?_
        refine S.iast dX12_puts_53 rfl L_178 (by omega) (by omega) ?_
        refine S.aload_n dX12_puts_54 rfl rfl rfl ?_
        refine S.getR dX12_puts_55 rfl fX12_7 L_177 rf_177_0 ?_
        refine S.iload_n dX12_puts_58 rfl rfl rfl ?_
        refine S.bipush dX12_puts_59 rfl (by decide) ?_
        refine S.iadd dX12_puts_61 rfl ?_
        refine S.iload_n dX12_puts_62 rfl rfl rfl ?_
        refine S.iadd dX12_puts_63 rfl ?_
        refine S.iload_n dX12_puts_64 rfl rfl rfl ?_
        refine S.iast dX12_puts_65 rfl L_178 (by omega) (by omega) ?_
        refine S.iconst dX12_puts_66 rfl ?_
        refine S.zret dX12_puts_67 rfl (by first | exact Or.inl rfl | exact Or.inr rfl | omega) ?_
        refine ⟨rfl, ?_, ?_⟩
        · unfold mpIs
          rw [fp_up_at, fp_up_at, fp_upM_at, n1]
          have hi := mp_ins (s := (pg.2.2 x).length) hc hP hg ha.1 ht ⟨by omega, by omega⟩ hx hcn.2 (Nat.le_refl _)
          rw [hcn.1] at hi
          exact hi
        · refine ⟨fun c hc => by rw [fp_up_ne hc, fp_up_ne hc, fp_upM_ne hc], fun j hj => ?_⟩
          rw [fp_up_at, fp_up_at, fp_upM_at, n1]
          unfold fp_upf md_lay
          rw [n1, if_neg (by omega), if_neg (by omega), if_neg (by omega), if_neg (by omega), if_neg (by omega)]
      · exfalso; omega
  · rw [if_neg hcn]
    refine S.aload_n dX12_puts_0 rfl rfl rfl ?_
    refine S.getR dX12_puts_1 rfl fX12_7 L_177 rf_177_0 ?_
    refine S.iload_n dX12_puts_4 rfl rfl rfl ?_
    refine S.iload_n dX12_puts_5 rfl rfl rfl ?_
    refine S.iadd dX12_puts_6 rfl ?_
    refine S.iald dX12_puts_7 rfl L_178 (by omega) (by omega) ?_
    refine S.iload_n dX12_puts_8 rfl rfl rfl ?_
    refine S.icmp_ne (tgt := 24) dX12_puts_9 (by decide) rfl (by unfold fp_rng; omega) (by unfold fp_rng; omega) (fun h9 => ?_) (fun h9 => ?_)
    · refine S.iconst dX12_puts_24 rfl ?_
      refine S.zret dX12_puts_25 rfl (by first | exact Or.inl rfl | exact Or.inr rfl | omega) ?_
      exact ⟨rfl, hc, frM.refl _ _⟩
    · refine S.aload_n dX12_puts_12 rfl rfl rfl ?_
      refine S.iload_n dX12_puts_13 rfl rfl rfl ?_
      refine S.iload dX12_puts_14 rfl rfl ?_
      refine S.callVe dX12_puts_16 rfl cX12_198 (ok_X12_lie) rfl L_177 (by decide) rfl (Nat.le_of_ble_eq_true rfl) ?_
      refine S.bipush dX12_puts_19 rfl (by decide) ?_
      refine S.icmp_ne (tgt := 26) dX12_puts_21 (by decide) rfl (by unfold fp_rng; omega) (by unfold fp_rng; omega) (fun h21 => ?_) (fun h21 => ?_)
      · exfalso; omega
      · refine S.iconst dX12_puts_24 rfl ?_
        refine S.zret dX12_puts_25 rfl (by first | exact Or.inl rfl | exact Or.inr rfl | omega) ?_
        exact ⟨rfl, hc, frM.refl _ _⟩
theorem rk_X12_visits2 {i x : Int} (ha : 0 ≤ a ∧ a ≤ 500 := by omega) (hv : mvIs M vs := by assumption) (hd : mdIs M g := by assumption) (hc : mpIs M a g pg := by assumption) (hP : pgOk g pg := by assumption) (hg : gOk g := by assumption) (hvo : vsOk g vs := by assumption) (hi : 0 ≤ i ∧ i < vs.length := by first | assumption | omega) (hx : 0 ≤ x ∧ x < g.2.1 := by first | assumption | omega) : fp_Ok l G 3 kX12_visits2 [rV G 177, iV a, iV i, iV x] M (qI fun z N => z = (aHap g pg ((vs.getD i.toNat aV0).1, (vs.getD i.toNat aV0).2.1, x, (vs.getD i.toNat aV0).2.2.2)).1 ∧ mpIs N a g (aHap g pg ((vs.getD i.toNat aV0).1, (vs.getD i.toNat aV0).2.1, x, (vs.getD i.toNat aV0).2.2.2)).2 ∧ frM M N a) := by
  have hg2 := hg.2.1.2
  have hg1 := hg.1
  have hl2 := hv.2.1
  have hb := hv.at hvo hi.1 hi.2
  obtain ⟨e1, e2, e3, e4⟩ := hv.2.2 i hi.1 hi.2
  refine fp_Ok.of (r := 2) rfl (Nat.le_of_ble_eq_true rfl) rfl ?_
  unfold aHap
  by_cases hdr : M 178 (47 + 4 * i + 3).toNat = -4
  · rw [if_pos (by rw [← e4]; exact hdr), ← e2]
    dsimp only
    have hgv : pg.2.2 x = [] ∨ (0 ≤ aGv g pg x ∧ aGv g pg x < g.1) := by
      by_cases q : pg.2.2 x = []
      · exact Or.inl q
      · have := (hP.2.1 _ hx.1 (by omega)).2.2.2 _ (aGv_mem (g := g) q)
        exact Or.inr ⟨this.1, this.2.1⟩
    have hgv2 : pg.2.2 x = [] → aGv g pg x = -4 := fun q => by unfold aGv; rw [if_pos q]
    refine S.aload_n dX12_visits2_0 rfl rfl rfl ?_
    refine S.getR dX12_visits2_1 rfl fX12_7 L_177 rf_177_0 ?_
    refine S.bipush dX12_visits2_4 rfl (by decide) ?_
    refine S.iconst dX12_visits2_6 rfl ?_
    refine S.iload_n dX12_visits2_7 rfl rfl rfl ?_
    refine S.imul dX12_visits2_8 rfl ?_
    refine S.iadd dX12_visits2_9 rfl ?_
    refine S.iconst dX12_visits2_10 rfl ?_
    refine S.iadd dX12_visits2_11 rfl ?_
    refine S.iald dX12_visits2_12 rfl L_178 (by omega) (by omega) ?_
    refine S.istore (LL' := [_, _, _, _, _, _]) dX12_visits2_13 rfl (by decide) rfl rfl ?_
    refine S.aload_n dX12_visits2_15 rfl rfl rfl ?_
    refine S.getR dX12_visits2_16 rfl fX12_7 L_177 rf_177_0 ?_
    refine S.bipush dX12_visits2_19 rfl (by decide) ?_
    refine S.iconst dX12_visits2_21 rfl ?_
    refine S.iload_n dX12_visits2_22 rfl rfl rfl ?_
    refine S.imul dX12_visits2_23 rfl ?_
    refine S.iadd dX12_visits2_24 rfl ?_
    refine S.iconst dX12_visits2_25 rfl ?_
    refine S.iadd dX12_visits2_26 rfl ?_
    refine S.iald dX12_visits2_27 rfl L_178 (by omega) (by omega) ?_
    refine S.istore (LL' := [_, _, _, _, _, _]) dX12_visits2_28 rfl (by decide) rfl rfl ?_
    refine S.iload dX12_visits2_30 rfl rfl ?_
    refine S.bipush dX12_visits2_32 rfl (by decide) ?_
    refine S.icmp_ne (tgt := 58) dX12_visits2_34 (by decide) rfl (by unfold fp_rng; omega) (by unfold fp_rng; omega) (fun h34 => ?_) (fun h34 => ?_)
    · exfalso; omega
    · refine S.aload_n dX12_visits2_37 rfl rfl rfl ?_
      refine S.iload_n dX12_visits2_38 rfl rfl rfl ?_
      refine S.iload dX12_visits2_39 rfl rfl ?_
      refine S.iload_n dX12_visits2_41 rfl rfl rfl ?_
      refine S.callVi dX12_visits2_42 rfl cX12_248 (rk_X12_draws (g := g) (pg := pg)) rfl L_177 (by decide) rfl (Nat.le_of_ble_eq_true rfl) (fun z42 M42 q42 => ?_)
      obtain ⟨rfl, c42, f42⟩ := q42
      refine S.bipush dX12_visits2_45 rfl (by decide) ?_
      refine S.icmp_eq (tgt := 54) dX12_visits2_47 (by decide) rfl (by unfold fp_rng; rcases hgv with q | q; (have := hgv2 q; omega); omega) (by unfold fp_rng; omega) (fun h47 => ?_) (fun h47 => ?_)
      · refine S.iconst dX12_visits2_54 rfl ?_
        refine S.goto (pc' := 68) dX12_visits2_55 (by decide) ?_
        refine S.zret dX12_visits2_68 rfl (by first | exact Or.inl rfl | exact Or.inr rfl | omega) ?_
        first | (exfalso; omega) | (refine ⟨?_, c42, f42⟩; first | (rw [if_neg (fun q => by have := hgv2 q; omega)]; done) | (rw [if_pos (by rcases hgv with q | q; exact q; exfalso; omega)]; done))
      · refine S.iconst dX12_visits2_50 rfl ?_
        refine S.goto (pc' := 68) dX12_visits2_51 (by decide) ?_
        refine S.zret dX12_visits2_68 rfl (by first | exact Or.inl rfl | exact Or.inr rfl | omega) ?_
        first | (exfalso; omega) | (refine ⟨?_, c42, f42⟩; first | (rw [if_neg (fun q => by have := hgv2 q; omega)]; done) | (rw [if_pos (by rcases hgv with q | q; exact q; exfalso; omega)]; done))
  · rw [if_neg (by rw [← e4]; exact hdr), ← e2, ← e4]
    dsimp only
    refine S.aload_n dX12_visits2_0 rfl rfl rfl ?_
    refine S.getR dX12_visits2_1 rfl fX12_7 L_177 rf_177_0 ?_
    refine S.bipush dX12_visits2_4 rfl (by decide) ?_
    refine S.iconst dX12_visits2_6 rfl ?_
    refine S.iload_n dX12_visits2_7 rfl rfl rfl ?_
    refine S.imul dX12_visits2_8 rfl ?_
    refine S.iadd dX12_visits2_9 rfl ?_
    refine S.iconst dX12_visits2_10 rfl ?_
    refine S.iadd dX12_visits2_11 rfl ?_
    refine S.iald dX12_visits2_12 rfl L_178 (by omega) (by omega) ?_
    refine S.istore (LL' := [_, _, _, _, _, _]) dX12_visits2_13 rfl (by decide) rfl rfl ?_
    refine S.aload_n dX12_visits2_15 rfl rfl rfl ?_
    refine S.getR dX12_visits2_16 rfl fX12_7 L_177 rf_177_0 ?_
    refine S.bipush dX12_visits2_19 rfl (by decide) ?_
    refine S.iconst dX12_visits2_21 rfl ?_
    refine S.iload_n dX12_visits2_22 rfl rfl rfl ?_
    refine S.imul dX12_visits2_23 rfl ?_
    refine S.iadd dX12_visits2_24 rfl ?_
    refine S.iconst dX12_visits2_25 rfl ?_
    refine S.iadd dX12_visits2_26 rfl ?_
    refine S.iald dX12_visits2_27 rfl L_178 (by omega) (by omega) ?_
    refine S.istore (LL' := [_, _, _, _, _, _]) dX12_visits2_28 rfl (by decide) rfl rfl ?_
    refine S.iload dX12_visits2_30 rfl rfl ?_
    refine S.bipush dX12_visits2_32 rfl (by decide) ?_
    refine S.icmp_ne (tgt := 58) dX12_visits2_34 (by decide) rfl (by unfold fp_rng; omega) (by unfold fp_rng; omega) (fun h34 => ?_) (fun h34 => ?_)
    · refine S.aload_n dX12_visits2_58 rfl rfl rfl ?_
      refine S.iload_n dX12_visits2_59 rfl rfl rfl ?_
      refine S.iload dX12_visits2_60 rfl rfl ?_
      refine S.iload dX12_visits2_62 rfl rfl ?_
      refine S.iload_n dX12_visits2_64 rfl rfl rfl ?_
      refine S.callVi dX12_visits2_65 rfl cX12_244 (rk_X12_puts (g := g) (pg := pg)) rfl L_177 (by decide) rfl (Nat.le_of_ble_eq_true rfl) (fun z65 M65 q65 => ?_)
      refine S.zret dX12_visits2_68 rfl (by rw [q65.1]; unfold aApp; split <;> simp) ?_
      exact q65
    · exfalso; omega
theorem rk_X12_happens {i : Int} (ha : 0 ≤ a ∧ a ≤ 500 := by omega) (hv : mvIs M vs := by assumption) (hd : mdIs M g := by assumption) (hc : mpIs M a g pg := by assumption) (hP : pgOk g pg := by assumption) (hg : gOk g := by assumption) (hvo : vsOk g vs := by assumption) (hi : 0 ≤ i ∧ i < vs.length := by first | assumption | omega) : fp_Ok l G 4 kX12_happens [rV G 177, iV a, iV i] M (qI fun z N => z = (aHapI g pg vs i).1 ∧ mpIs N a g (aHapI g pg vs i).2 ∧ frM M N a) := by
  have hl2 := hv.2.1
  have hb := hv.at hvo hi.1 hi.2
  obtain ⟨e1, e2, e3, e4⟩ := hv.2.2 i hi.1 hi.2
  have h01 := aHapI_01 g pg vs i
  refine fp_Ok.of (r := 0) rfl (Nat.le_of_ble_eq_true rfl) rfl ?_
  unfold aHapI at h01 ⊢
  rw [if_pos hi] at h01 ⊢
  refine S.aload_n dX12_happens_0 rfl rfl rfl ?_
  refine S.iload_n dX12_happens_1 rfl rfl rfl ?_
  refine S.iload_n dX12_happens_2 rfl rfl rfl ?_
  refine S.aload_n dX12_happens_3 rfl rfl rfl ?_
  refine S.getR dX12_happens_4 rfl fX12_7 L_177 rf_177_0 ?_
  refine S.bipush dX12_happens_7 rfl (by decide) ?_
  refine S.iconst dX12_happens_9 rfl ?_
  refine S.iload_n dX12_happens_10 rfl rfl rfl ?_
  refine S.imul dX12_happens_11 rfl ?_
  refine S.iadd dX12_happens_12 rfl ?_
  refine S.iconst dX12_happens_13 rfl ?_
  refine S.iadd dX12_happens_14 rfl ?_
  refine S.iald dX12_happens_15 rfl L_178 (by omega) (by omega) ?_
  refine S.callVi dX12_happens_16 rfl cX12_257 (rk_X12_visits2 (g := g) (pg := pg) (vs := vs)) rfl L_177 (by decide) rfl (Nat.le_of_ble_eq_true rfl) (fun z16 M16 q16 => ?_)
  rw [e3] at q16
  refine S.zret dX12_happens_19 rfl (by rw [q16.1]; exact h01) ?_
  exact q16
end MRL
