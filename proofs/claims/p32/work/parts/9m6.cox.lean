/-! orders: the class, exactly: what fits, how many (p32 alone) -/
def oPx (M : fp_Mem) (g : aGd) (nt : List Int) (K : Int) (L : List Int) : Prop := oPre M g nt ∧ M 133 0 = K ∧ M 133 1 = L.length ∧ (∀ i : Int, 0 ≤ i → i < L.length → M 134 i.toNat = L.getD i.toNat 0) ∧ gdIs M 18 g ∧ oIn g L
theorem oPx.kept {M N : fp_Mem} {g : aGd} {nt : List Int} {K : Int} {L : List Int} (h : oPx M g nt K L) (e0 : N 133 0 = M 133 0) (e1 : N 133 1 = M 133 1) (e : ∀ a, a ≠ 133 → a ≠ 135 → N a = M a) : oPx N g nt K L := by
  obtain ⟨h1, h2, h3, h4, h5, h6⟩ := h
  exact ⟨h1.kept e0 e1 e, by rw [e0]; exact h2, by rw [e1]; exact h3, by rw [e 134 (by decide) (by decide)]; exact h4, h5.kept (fun a a1 a2 => e a (by omega) (by omega)), h6⟩
theorem oPx.at {M : fp_Mem} {g : aGd} {nt : List Int} {K : Int} {L : List Int} (h : oPx M g nt K L) {i : Int} (i0 : 0 ≤ i) (i1 : i < L.length) : M 134 i.toNat = L.getD i.toNat 0 ∧ 0 ≤ L.getD i.toNat 0 ∧ L.getD i.toNat 0 < g.1 ∧ L.getD i.toNat 0 ∈ L := by
  have hm : L.getD i.toNat 0 ∈ L := fp_getD_mem (by omega)
  have h9 := h.2.2.2.2.2.2.1 _ hm
  exact ⟨h.2.2.2.1 i i0 i1, h9.1, h9.2, hm⟩
theorem oPx.nt {M : fp_Mem} {g : aGd} {nt : List Int} {K : Int} {L : List Int} (h : oPx M g nt K L) {i : Int} (i0 : 0 ≤ i) (i1 : i < nt.length) : M (32 + 1) i.toNat = nt.getD i.toNat 0 ∧ 0 ≤ nt.getD i.toNat 0 ∧ nt.getD i.toNat 0 < g.1 := by
  have h9 := h.1.2.2.2.2.2.1.1 _ (fp_getD_mem (L := nt) (i := i.toNat) (by omega))
  exact ⟨h.1.2.2.2.2.1.2.2 i i0 i1, h9.1, h9.2⟩
theorem oPx.g1 {M : fp_Mem} {g : aGd} {nt : List Int} {K : Int} {L : List Int} (h : oPx M g nt K L) : g.1 ≤ 10 := h.2.2.2.2.2.2.2
theorem oPx.gok {M : fp_Mem} {g : aGd} {nt : List Int} {K : Int} {L : List Int} (h : oPx M g nt K L) : gOk g := h.1.2.2.2.2.2.2
theorem oPx.nd {M : fp_Mem} {g : aGd} {nt : List Int} {K : Int} {L : List Int} (h : oPx M g nt K L) : nt.Nodup := h.1.2.2.2.2.2.1.2
theorem oPx.l7 {M : fp_Mem} {g : aGd} {nt : List Int} {K : Int} {L : List Int} (h : oPx M g nt K L) : L.length ≤ 7 := by
  have h1 := h.1.2.1
  have h2 := h.2.2.1
  omega
section CXA
variable {l : Launch} {G : fp_WG} {M N : fp_Mem} {g : aGd} {nt : List Int} {K : Int} {L : List Int}
theorem xk_X3_spotOf {t : Int} (h : oPx M g nt K L) (ht : fp_rng t) : fp_Ok l G 0 kX3_spotOf [rV G 32, iV t] M (qI fun z N => oSpot nt z t ∧ M = N) := by
  obtain ⟨-, -, -, -, hn, ho, hg⟩ := h.1
  have h9 : oSpot nt (fp_find (fun i => nt.getD i.toNat 0) t nt.length 0) t := by
    rcases fp_find_in (f := fun i => nt.getD i.toNat 0) (t := t) nt.length 0 with q | q
    · exact Or.inl ⟨q, fp_find_mem.mp q⟩
    · exact Or.inr ⟨⟨q.1, by omega⟩, q.2.2⟩
  exact (rk_X3_spotOf nt32 hn ho hg ht).toI ⟨h9, rfl⟩
theorem xk_X4_weight {t : Int} (h : oPx M g nt K L) (ht : 0 ≤ t ∧ t < g.1) : fp_Ok l G 0 kX4_weightThatCounts [rV G 133, rV G 18, iV t] M (qE (oW g K t) M) := by
  have hk := h.2.1
  have hw := h.2.2.2.2.1.2.2.2.1 t ht.1 ht.2
  have h1 := h.1.1
  have hg1 := h.g1
  refine fp_Ok.of (r := 0) rfl (Nat.le_of_ble_eq_true rfl) rfl ?_
  refine S.aload_n (pc' := 1) dX4_weightThatCounts_0 rfl rfl rfl ?_
  refine S.getI (pc' := 4) dX4_weightThatCounts_1 rfl fX4_23 L_133 ?_
  refine S.iconst (pc' := 5) dX4_weightThatCounts_4 rfl ?_
  refine S.icmp_ne (pc' := 8) (tgt := 17) dX4_weightThatCounts_5 (by decide) rfl (by unfold fp_rng; omega) (by unfold fp_rng; omega) (fun h5 => ?_) (fun h5 => ?_)
  · refine S.iconst (pc' := 18) dX4_weightThatCounts_17 rfl ?_
    refine S.iret dX4_weightThatCounts_18 rfl ?_
    refine ⟨?_, rfl⟩
    unfold oW
    first
    | (rw [if_pos (by omega)]; exact hw)
    | rw [if_neg (by omega)]
  · refine S.aload_n (pc' := 9) dX4_weightThatCounts_8 rfl rfl rfl ?_
    refine S.getR (pc' := 12) dX4_weightThatCounts_9 rfl fX4_42 (gd_lay gd18) (gd_r3 gd18) ?_
    refine S.iload_n (pc' := 13) dX4_weightThatCounts_12 rfl rfl rfl ?_
    refine S.iald (pc' := 14) dX4_weightThatCounts_13 rfl (gd_a3 gd18) (by omega) (by omega) ?_
    refine S.goto (pc' := 18) dX4_weightThatCounts_14 (by decide) ?_
    refine S.iret dX4_weightThatCounts_18 rfl ?_
    refine ⟨?_, rfl⟩
    unfold oW
    first
    | (rw [if_pos (by omega)]; exact hw)
    | rw [if_neg (by omega)]
theorem xk_X4_isMember {t : Int} (h : oPx M g nt K L) (ht : fp_rng t) : fp_Ok l G 0 kX4_isMember [rV G 133, iV t] M (qI fun z N => ((z = 1 ∧ t ∈ L) ∨ (z = 0 ∧ t ∉ L)) ∧ M = N) := by
  have h2 := h.2.2.1
  have h7 := h.l7
  have hg1 := h.g1
  have hL : ∀ (r : Nat) (i : Int), (8 - i).toNat < r → 0 ≤ i → i ≤ 8 → (∀ j : Int, 0 ≤ j → j < i → j < L.length → L.getD j.toNat 0 ≠ t) → fp_S l G 0 kX4_isMember 2 [some (rV G 133), some (iV t), some (iV i)] [] M (qI fun z N => ((z = 1 ∧ t ∈ L) ∨ (z = 0 ∧ t ∉ L)) ∧ M = N) := by
    intro r
    induction r with
    | zero => intro i hr; omega
    | succ r ih =>
      intro i hr i0 i1 hq
      by_cases hlt : i < L.length
      · obtain ⟨m1, m2, m3, m4⟩ := h.at i0 hlt
        refine S.iload_n (pc' := 3) dX4_isMember_2 rfl rfl rfl ?_
        refine S.aload_n (pc' := 4) dX4_isMember_3 rfl rfl rfl ?_
        refine S.getI (pc' := 7) dX4_isMember_4 rfl fX4_31 L_133 ?_
        refine S.icmp_ge (pc' := 10) (tgt := 28) dX4_isMember_7 (by decide) rfl (by unfold fp_rng; omega) (by unfold fp_rng; omega) (fun h7 => ?_) (fun h7 => ?_)
        · exfalso; omega
        · refine S.aload_n (pc' := 11) dX4_isMember_10 rfl rfl rfl ?_
          refine S.getR (pc' := 14) dX4_isMember_11 rfl fX4_9 L_133 rf_133_2 ?_
          refine S.iload_n (pc' := 15) dX4_isMember_14 rfl rfl rfl ?_
          refine S.iald (pc' := 16) dX4_isMember_15 rfl L_134 (by omega) (by omega) ?_
          refine S.iload_n (pc' := 17) dX4_isMember_16 rfl rfl rfl ?_
          refine S.icmp_ne (pc' := 20) (tgt := 22) dX4_isMember_17 (by decide) rfl (by unfold fp_rng; omega) ht (fun h17 => ?_) (fun h17 => ?_)
          · refine S.iinc (pc' := 25) (LL' := [_, _, _]) dX4_isMember_22 rfl (by decide) rfl rfl rfl ?_
            refine S.goto (pc' := 2) dX4_isMember_25 (by decide) ?_
            refine ih _ (by omega) (by omega) (by omega) (fun j j0 j1 j2 => ?_)
            by_cases e : j = i
            · rw [e]; omega
            · exact hq j j0 (by omega) j2
          · refine S.iconst (pc' := 21) dX4_isMember_20 rfl ?_
            refine S.zret dX4_isMember_21 rfl (by first | exact Or.inl rfl | exact Or.inr rfl | omega) ?_
            exact ⟨Or.inl ⟨rfl, o_memD.mpr ⟨i, ⟨i0, hlt⟩, by omega⟩⟩, rfl⟩
      · refine S.iload_n (pc' := 3) dX4_isMember_2 rfl rfl rfl ?_
        refine S.aload_n (pc' := 4) dX4_isMember_3 rfl rfl rfl ?_
        refine S.getI (pc' := 7) dX4_isMember_4 rfl fX4_31 L_133 ?_
        refine S.icmp_ge (pc' := 10) (tgt := 28) dX4_isMember_7 (by decide) rfl (by unfold fp_rng; omega) (by unfold fp_rng; omega) (fun h7 => ?_) (fun h7 => ?_)
        · refine S.iconst (pc' := 29) dX4_isMember_28 rfl ?_
          refine S.zret dX4_isMember_29 rfl (by first | exact Or.inl rfl | exact Or.inr rfl | omega) ?_
          exact ⟨Or.inr ⟨rfl, fun q => (o_memD.mp q).elim (fun j hj => hq j hj.1.1 (by omega) hj.1.2 hj.2)⟩, rfl⟩
        · exfalso; omega
  refine fp_Ok.of (r := 1) rfl (Nat.le_of_ble_eq_true rfl) rfl ?_
  refine S.iconst (pc' := 1) dX4_isMember_0 rfl ?_
  refine S.istore_n (pc' := 2) (LL' := [_, _, _]) dX4_isMember_1 rfl (by decide) rfl rfl rfl ?_
  exact hL 9 0 (by omega) (by omega) (by omega) (fun j j0 j1 => by omega)
def oLb (g : aGd) (K : Int) (L nt : List Int) (i : Int) : Prop := ∀ x, x ∈ L → x ∉ nt.take i.toNat → oW g K (nt.getD i.toNat 0) ≤ oW g K x
theorem xk_X4_isLightest {i : Int} (h : oPx M g nt K L) (hi : 0 ≤ i ∧ i < nt.length) : fp_Ok l G 1 kX4_isLightestBehind [rV G 133, rV G 18, rV G 32, iV i] M (qI fun z N => ((z = 1 ∧ oLb g K L nt i) ∨ (z = 0 ∧ ¬ oLb g K L nt i)) ∧ M = N) := by
  have h2 := h.2.2.1
  have h7 := h.l7
  have hl := h.1.2.2.2.2.1.2.1
  have hg1 := h.g1
  obtain ⟨d1, d2, d3⟩ := h.nt hi.1 hi.2
  have hw := oW_in (K := K) h.gok ⟨d2, d3⟩
  have hL : ∀ (r : Nat) (j : Int) (o6 o7 : Option Value), (8 - j).toNat < r → 0 ≤ j → j ≤ 8 → (∀ y : Int, 0 ≤ y → y < j → y < L.length → L.getD y.toNat 0 ∉ nt.take i.toNat → oW g K (nt.getD i.toNat 0) ≤ oW g K (L.getD y.toNat 0)) → fp_S l G 1 kX4_isLightestBehind 16 [some (rV G 133), some (rV G 18), some (rV G 32), some (iV i), some (iV (oW g K (nt.getD i.toNat 0))), some (iV j), o6, o7] [] M (qI fun z N => ((z = 1 ∧ oLb g K L nt i) ∨ (z = 0 ∧ ¬ oLb g K L nt i)) ∧ M = N) := by
    intro r
    induction r with
    | zero => intro j o6 o7 hr; omega
    | succ r ih =>
      intro j o6 o7 hr j0 j1 hq
      by_cases hlt : j < L.length
      · obtain ⟨m1, m2, m3, m4⟩ := h.at j0 hlt
        have hwx := oW_in (K := K) h.gok ⟨m2, m3⟩
        have hgo : ∀ o6 o7 : Option Value, (L.getD j.toNat 0 ∉ nt.take i.toNat → oW g K (nt.getD i.toNat 0) ≤ oW g K (L.getD j.toNat 0)) → fp_S l G 1 kX4_isLightestBehind 16 [some (rV G 133), some (rV G 18), some (rV G 32), some (iV i), some (iV (oW g K (nt.getD i.toNat 0))), some (iV (j + 1)), o6, o7] [] M (qI fun z N => ((z = 1 ∧ oLb g K L nt i) ∨ (z = 0 ∧ ¬ oLb g K L nt i)) ∧ M = N) := by
          intro o6 o7 hj
          refine ih _ _ _ (by omega) (by omega) (by omega) (fun y y0 y1 y2 hy => ?_)
          by_cases e : y = j
          · subst e; exact hj hy
          · exact hq y y0 (by omega) y2 hy
        have h56 : ∀ z s : Int, ((z = 1 ∧ L.getD j.toNat 0 ∈ nt.take i.toNat) ∨ (z = 0 ∧ L.getD j.toNat 0 ∉ nt.take i.toNat)) → fp_S l G 1 kX4_isLightestBehind 56 [some (rV G 133), some (rV G 18), some (rV G 32), some (iV i), some (iV (oW g K (nt.getD i.toNat 0))), some (iV j), some (iV s), o7] [iV z] M (qI fun z N => ((z = 1 ∧ oLb g K L nt i) ∨ (z = 0 ∧ ¬ oLb g K L nt i)) ∧ M = N) := by
          intro z s hz
          refine S.istore (pc' := 58) (LL' := [_, _, _, _, _, _, _, _]) dX4_isLightestBehind_56 rfl (by decide) rfl rfl ?_
          refine S.iload (pc' := 60) dX4_isLightestBehind_58 rfl rfl ?_
          refine S.if_ne (pc' := 63) (tgt := 82) dX4_isLightestBehind_60 (by decide) rfl (by unfold fp_rng; omega) (fun h60 => ?_) (fun h60 => ?_)
          · refine S.iinc (pc' := 85) (LL' := [_, _, _, _, _, _, _, _]) dX4_isLightestBehind_82 rfl (by decide) rfl rfl rfl ?_
            refine S.goto (pc' := 16) dX4_isLightestBehind_85 (by decide) ?_
            first
            | exact hgo _ _ (fun _ => by omega)
            | exact hgo _ _ (fun q => absurd (hz.resolve_right (fun e => by omega)).2 q)
          · refine S.aload_n (pc' := 64) dX4_isLightestBehind_63 rfl rfl rfl ?_
            refine S.aload_n (pc' := 65) dX4_isLightestBehind_64 rfl rfl rfl ?_
            refine S.aload_n (pc' := 66) dX4_isLightestBehind_65 rfl rfl rfl ?_
            refine S.getR (pc' := 69) dX4_isLightestBehind_66 rfl fX4_9 L_133 rf_133_2 ?_
            refine S.iload (pc' := 71) dX4_isLightestBehind_69 rfl rfl ?_
            refine S.iald (pc' := 72) dX4_isLightestBehind_71 rfl L_134 (by omega) (by omega) ?_
            rw [m1]
            refine S.callVe (pc' := 75) dX4_isLightestBehind_72 rfl cX4_59 (xk_X4_weight h ⟨m2, m3⟩) rfl L_133 (by decide) rfl (Nat.le_of_ble_eq_true rfl) ?_
            refine S.iload (pc' := 77) dX4_isLightestBehind_75 rfl rfl ?_
            refine S.icmp_ge (pc' := 80) (tgt := 82) dX4_isLightestBehind_77 (by decide) rfl (by unfold fp_rng; omega) (by unfold fp_rng; omega) (fun h77 => ?_) (fun h77 => ?_)
            · refine S.iinc (pc' := 85) (LL' := [_, _, _, _, _, _, _, _]) dX4_isLightestBehind_82 rfl (by decide) rfl rfl rfl ?_
              refine S.goto (pc' := 16) dX4_isLightestBehind_85 (by decide) ?_
              first
              | exact hgo _ _ (fun _ => by omega)
              | exact hgo _ _ (fun q => absurd (hz.resolve_right (fun e => by omega)).2 q)
            · refine S.iconst (pc' := 81) dX4_isLightestBehind_80 rfl ?_
              refine S.zret dX4_isLightestBehind_81 rfl (by first | exact Or.inl rfl | exact Or.inr rfl | omega) ?_
              exact ⟨Or.inr ⟨rfl, fun q => by have h9 := q _ m4 (hz.resolve_left (fun e => by omega)).2; omega⟩, rfl⟩
        refine S.iload (pc' := 18) dX4_isLightestBehind_16 rfl rfl ?_
        refine S.aload_n (pc' := 19) dX4_isLightestBehind_18 rfl rfl rfl ?_
        refine S.getI (pc' := 22) dX4_isLightestBehind_19 rfl fX4_31 L_133 ?_
        refine S.icmp_ge (pc' := 25) (tgt := 88) dX4_isLightestBehind_22 (by decide) rfl (by unfold fp_rng; omega) (by unfold fp_rng; omega) (fun h22 => ?_) (fun h22 => ?_)
        · exfalso; omega
        · refine S.aload_n (pc' := 26) dX4_isLightestBehind_25 rfl rfl rfl ?_
          refine S.aload_n (pc' := 27) dX4_isLightestBehind_26 rfl rfl rfl ?_
          refine S.getR (pc' := 30) dX4_isLightestBehind_27 rfl fX4_9 L_133 rf_133_2 ?_
          refine S.iload (pc' := 32) dX4_isLightestBehind_30 rfl rfl ?_
          refine S.iald (pc' := 33) dX4_isLightestBehind_32 rfl L_134 (by omega) (by omega) ?_
          rw [m1]
          refine S.callVi (pc' := 36) dX4_isLightestBehind_33 rfl cX4_63 (xk_X3_spotOf h (by unfold fp_rng; omega)) rfl (nt_lay nt32) (by decide) rfl (Nat.le_of_ble_eq_true rfl) (fun z33 M33 q33 => ?_)
          obtain ⟨s1, rfl⟩ := q33
          have hst := o_ahead (i := i) h.nd s1
          have hsr : z33 = -4 ∨ (0 ≤ z33 ∧ z33 < nt.length) := s1.elim (fun q => Or.inl q.1) (fun q => Or.inr q.1)
          refine S.istore (pc' := 38) (LL' := [_, _, _, _, _, _, _, _]) dX4_isLightestBehind_36 rfl (by decide) rfl rfl ?_
          refine S.iload (pc' := 40) dX4_isLightestBehind_38 rfl rfl ?_
          refine S.bipush (pc' := 42) dX4_isLightestBehind_40 rfl (by decide) ?_
          refine S.icmp_eq (pc' := 45) (tgt := 55) dX4_isLightestBehind_42 (by decide) rfl (by unfold fp_rng; omega) (by unfold fp_rng; omega) (fun h42 => ?_) (fun h42 => ?_)
          · refine S.iconst (pc' := 56) dX4_isLightestBehind_55 rfl ?_
            first
            | exact h56 _ _ (Or.inl ⟨rfl, hst.mp ⟨by omega, by omega⟩⟩)
            | exact h56 _ _ (Or.inr ⟨rfl, fun q => by have h9 := hst.mpr q; omega⟩)
          · refine S.iload (pc' := 47) dX4_isLightestBehind_45 rfl rfl ?_
            refine S.iload_n (pc' := 48) dX4_isLightestBehind_47 rfl rfl rfl ?_
            refine S.icmp_ge (pc' := 51) (tgt := 55) dX4_isLightestBehind_48 (by decide) rfl (by unfold fp_rng; omega) (by unfold fp_rng; omega) (fun h48 => ?_) (fun h48 => ?_)
            · refine S.iconst (pc' := 56) dX4_isLightestBehind_55 rfl ?_
              first
              | exact h56 _ _ (Or.inl ⟨rfl, hst.mp ⟨by omega, by omega⟩⟩)
              | exact h56 _ _ (Or.inr ⟨rfl, fun q => by have h9 := hst.mpr q; omega⟩)
            · refine S.iconst (pc' := 52) dX4_isLightestBehind_51 rfl ?_
              refine S.goto (pc' := 56) dX4_isLightestBehind_52 (by decide) ?_
              first
              | exact h56 _ _ (Or.inl ⟨rfl, hst.mp ⟨by omega, by omega⟩⟩)
              | exact h56 _ _ (Or.inr ⟨rfl, fun q => by have h9 := hst.mpr q; omega⟩)
      · refine S.iload (pc' := 18) dX4_isLightestBehind_16 rfl rfl ?_
        refine S.aload_n (pc' := 19) dX4_isLightestBehind_18 rfl rfl rfl ?_
        refine S.getI (pc' := 22) dX4_isLightestBehind_19 rfl fX4_31 L_133 ?_
        refine S.icmp_ge (pc' := 25) (tgt := 88) dX4_isLightestBehind_22 (by decide) rfl (by unfold fp_rng; omega) (by unfold fp_rng; omega) (fun h22 => ?_) (fun h22 => ?_)
        · refine S.iconst (pc' := 89) dX4_isLightestBehind_88 rfl ?_
          refine S.zret dX4_isLightestBehind_89 rfl (by first | exact Or.inl rfl | exact Or.inr rfl | omega) ?_
          refine ⟨Or.inl ⟨rfl, fun x hx hxn => ?_⟩, rfl⟩
          obtain ⟨y, hy, e⟩ := o_memD.mp hx
          rw [← e] at hxn ⊢
          exact hq y hy.1 (by omega) hy.2 hxn
        · exfalso; omega
  refine fp_Ok.of (r := 4) rfl (Nat.le_of_ble_eq_true rfl) rfl ?_
  refine S.aload_n (pc' := 1) dX4_isLightestBehind_0 rfl rfl rfl ?_
  refine S.aload_n (pc' := 2) dX4_isLightestBehind_1 rfl rfl rfl ?_
  refine S.aload_n (pc' := 3) dX4_isLightestBehind_2 rfl rfl rfl ?_
  refine S.getR (pc' := 6) dX4_isLightestBehind_3 rfl fX4_48 (nt_lay nt32) (nt_r1 nt32) ?_
  refine S.iload_n (pc' := 7) dX4_isLightestBehind_6 rfl rfl rfl ?_
  refine S.iald (pc' := 8) dX4_isLightestBehind_7 rfl (nt_a1 nt32) (by omega) (by omega) ?_
  rw [d1]
  refine S.callVe (pc' := 11) dX4_isLightestBehind_8 rfl cX4_59 (xk_X4_weight h ⟨d2, d3⟩) rfl L_133 (by decide) rfl (Nat.le_of_ble_eq_true rfl) ?_
  refine S.istore (pc' := 13) (LL' := [_, _, _, _, _, _, _, _]) dX4_isLightestBehind_11 rfl (by decide) rfl rfl ?_
  refine S.iconst (pc' := 14) dX4_isLightestBehind_13 rfl ?_
  refine S.istore (pc' := 16) (LL' := [_, _, _, _, _, _, _, _]) dX4_isLightestBehind_14 rfl (by decide) rfl rfl ?_
  exact hL 9 0 _ _ (by omega) (by omega) (by omega) (fun y y0 y1 => by omega)
theorem xk_X4_canFit (h : oPx M g nt K L) : fp_Ok l G 2 kX4_canFit [rV G 133, rV G 18, rV G 32] M (qI fun z N => ((z = 1 ∧ oCanI (oW g K) L nt) ∨ (z = 0 ∧ ¬ oCanI (oW g K) L nt)) ∧ M = N) := by
  have hl1 := h.1.2.2.2.2.1.1
  have hl := h.1.2.2.2.2.1.2.1
  have hg1 := h.g1
  have hL : ∀ (r : Nat) (i : Int), (8 - i).toNat < r → 0 ≤ i → i ≤ 8 → (∀ k : Nat, (k : Int) < i → k < nt.length → nt.getD k 0 ∈ L ∧ ∀ x, x ∈ L → x ∉ nt.take k → oW g K (nt.getD k 0) ≤ oW g K x) → fp_S l G 2 kX4_canFit 2 [some (rV G 133), some (rV G 18), some (rV G 32), some (iV i)] [] M (qI fun z N => ((z = 1 ∧ oCanI (oW g K) L nt) ∨ (z = 0 ∧ ¬ oCanI (oW g K) L nt)) ∧ M = N) := by
    intro r
    induction r with
    | zero => intro i hr; omega
    | succ r ih =>
      intro i hr i0 i1 hq
      by_cases hlt : i < nt.length
      · obtain ⟨d1, d2, d3⟩ := h.nt i0 hlt
        have hno : ∀ z : Int, ((z = 0 ∧ nt.getD i.toNat 0 ∉ L) ∨ (z = 0 ∧ ¬ oLb g K L nt i)) → ¬ oCanI (oW g K) L nt := fun z hz q => by
          have h9 := q i.toNat (by omega)
          rcases hz with e | e
          · exact e.2 h9.1
          · exact e.2 h9.2
        refine S.iload_n (pc' := 3) dX4_canFit_2 rfl rfl rfl ?_
        refine S.aload_n (pc' := 4) dX4_canFit_3 rfl rfl rfl ?_
        refine S.getI (pc' := 7) dX4_canFit_4 rfl fX4_45 (nt_lay nt32) ?_
        refine S.icmp_ge (pc' := 10) (tgt := 41) dX4_canFit_7 (by decide) rfl (by unfold fp_rng; omega) (by unfold fp_rng; omega) (fun h7 => ?_) (fun h7 => ?_)
        · exfalso; omega
        · refine S.aload_n (pc' := 11) dX4_canFit_10 rfl rfl rfl ?_
          refine S.aload_n (pc' := 12) dX4_canFit_11 rfl rfl rfl ?_
          refine S.getR (pc' := 15) dX4_canFit_12 rfl fX4_48 (nt_lay nt32) (nt_r1 nt32) ?_
          refine S.iload_n (pc' := 16) dX4_canFit_15 rfl rfl rfl ?_
          refine S.iald (pc' := 17) dX4_canFit_16 rfl (nt_a1 nt32) (by omega) (by omega) ?_
          rw [d1]
          refine S.callVi (pc' := 20) dX4_canFit_17 rfl cX4_51 (xk_X4_isMember h (by unfold fp_rng; omega)) rfl L_133 (by decide) rfl (Nat.le_of_ble_eq_true rfl) (fun z17 M17 q17 => ?_)
          obtain ⟨z1, rfl⟩ := q17
          refine S.if_eq (pc' := 23) (tgt := 33) dX4_canFit_20 (by decide) rfl (by unfold fp_rng; omega) (fun h20 => ?_) (fun h20 => ?_)
          · refine S.iconst (pc' := 34) dX4_canFit_33 rfl ?_
            refine S.zret dX4_canFit_34 rfl (by first | exact Or.inl rfl | exact Or.inr rfl | omega) ?_
            first
            | exact ⟨Or.inr ⟨rfl, hno 0 (Or.inr ⟨rfl, (z2.resolve_left (fun e => by omega)).2⟩)⟩, rfl⟩
            | exact ⟨Or.inr ⟨rfl, hno 0 (Or.inl ⟨rfl, (z1.resolve_left (fun e => by omega)).2⟩)⟩, rfl⟩
          · refine S.aload_n (pc' := 24) dX4_canFit_23 rfl rfl rfl ?_
            refine S.aload_n (pc' := 25) dX4_canFit_24 rfl rfl rfl ?_
            refine S.aload_n (pc' := 26) dX4_canFit_25 rfl rfl rfl ?_
            refine S.iload_n (pc' := 27) dX4_canFit_26 rfl rfl rfl ?_
            refine S.callVi (pc' := 30) dX4_canFit_27 rfl cX4_55 (xk_X4_isLightest h ⟨i0, hlt⟩) rfl L_133 (by decide) rfl (Nat.le_of_ble_eq_true rfl) (fun z27 M27 q27 => ?_)
            obtain ⟨z2, rfl⟩ := q27
            refine S.if_ne (pc' := 33) (tgt := 35) dX4_canFit_30 (by decide) rfl (by unfold fp_rng; omega) (fun h30 => ?_) (fun h30 => ?_)
            · refine S.iinc (pc' := 38) (LL' := [_, _, _, _]) dX4_canFit_35 rfl (by decide) rfl rfl rfl ?_
              refine S.goto (pc' := 2) dX4_canFit_38 (by decide) ?_
              refine ih _ (by omega) (by omega) (by omega) (fun k k1 k2 => ?_)
              by_cases e : (k : Int) = i
              · subst e
                exact ⟨(z1.resolve_right (fun e => by omega)).2, (z2.resolve_right (fun e => by omega)).2⟩
              · exact hq k (by omega) k2
            · refine S.iconst (pc' := 34) dX4_canFit_33 rfl ?_
              refine S.zret dX4_canFit_34 rfl (by first | exact Or.inl rfl | exact Or.inr rfl | omega) ?_
              first
              | exact ⟨Or.inr ⟨rfl, hno 0 (Or.inr ⟨rfl, (z2.resolve_left (fun e => by omega)).2⟩)⟩, rfl⟩
              | exact ⟨Or.inr ⟨rfl, hno 0 (Or.inl ⟨rfl, (z1.resolve_left (fun e => by omega)).2⟩)⟩, rfl⟩
      · refine S.iload_n (pc' := 3) dX4_canFit_2 rfl rfl rfl ?_
        refine S.aload_n (pc' := 4) dX4_canFit_3 rfl rfl rfl ?_
        refine S.getI (pc' := 7) dX4_canFit_4 rfl fX4_45 (nt_lay nt32) ?_
        refine S.icmp_ge (pc' := 10) (tgt := 41) dX4_canFit_7 (by decide) rfl (by unfold fp_rng; omega) (by unfold fp_rng; omega) (fun h7 => ?_) (fun h7 => ?_)
        · refine S.iconst (pc' := 42) dX4_canFit_41 rfl ?_
          refine S.zret dX4_canFit_42 rfl (by first | exact Or.inl rfl | exact Or.inr rfl | omega) ?_
          exact ⟨Or.inl ⟨rfl, fun k hk => hq k (by omega) hk⟩, rfl⟩
        · exfalso; omega
  refine fp_Ok.of (r := 1) rfl (Nat.le_of_ble_eq_true rfl) rfl ?_
  refine S.iconst (pc' := 1) dX4_canFit_0 rfl ?_
  refine S.istore_n (pc' := 2) (LL' := [_, _, _, _]) dX4_canFit_1 rfl (by decide) rfl rfl rfl ?_
  exact hL 9 0 (by omega) (by omega) (by omega) (fun k hk => by omega)
def oCf (g : aGd) (K : Int) (nt : List Int) (i : Int) (t : Int) : Bool := decide (t ∉ nt.take i.toNat ∧ oW g K t = oW g K (nt.getD i.toNat 0))
theorem xk_X4_choicesAt {i : Int} (h : oPx M g nt K L) (hi : 0 ≤ i ∧ i < nt.length) : fp_Ok l G 1 kX4_choicesAt [rV G 133, rV G 18, rV G 32, iV i] M (qE ((L.countP (oCf g K nt i) : Nat) : Int) M) := by
  have h2 := h.2.2.1
  have h7 := h.l7
  have hl := h.1.2.2.2.2.1.2.1
  have hg1 := h.g1
  obtain ⟨d1, d2, d3⟩ := h.nt hi.1 hi.2
  have hw := oW_in (K := K) h.gok ⟨d2, d3⟩
  have hL : ∀ (r : Nat) (c j : Int) (o7 o8 : Option Value), c = oCk L (oCf g K nt i) j → (8 - j).toNat < r → 0 ≤ j → j ≤ 8 → fp_S l G 1 kX4_choicesAt 19 [some (rV G 133), some (rV G 18), some (rV G 32), some (iV i), some (iV (oW g K (nt.getD i.toNat 0))), some (iV c), some (iV j), o7, o8] [] M (qE ((L.countP (oCf g K nt i) : Nat) : Int) M) := by
    intro r
    induction r with
    | zero => intro c j o7 o8 hc hr; omega
    | succ r ih =>
      intro c j o7 o8 hc hr j0 j1
      have hci := oCk_in (L := L) (f := oCf g K nt i) j0
      by_cases hlt : j < L.length
      · obtain ⟨m1, m2, m3, m4⟩ := h.at j0 hlt
        have hwx := oW_in (K := K) h.gok ⟨m2, m3⟩
        have hs := oCk_succ (f := oCf g K nt i) j0 hlt
        have hyes : (L.getD j.toNat 0 ∉ nt.take i.toNat ∧ oW g K (L.getD j.toNat 0) = oW g K (nt.getD i.toNat 0)) → oCk L (oCf g K nt i) (j + 1) = c + 1 := fun q => by
          rw [hs, if_pos (by unfold oCf; rw [decide_eq_true_eq]; exact q), hc]
        have hno : ¬ (L.getD j.toNat 0 ∉ nt.take i.toNat ∧ oW g K (L.getD j.toNat 0) = oW g K (nt.getD i.toNat 0)) → oCk L (oCf g K nt i) (j + 1) = c := fun q => by
          rw [hs, if_neg (by unfold oCf; rw [decide_eq_true_eq]; exact q), hc]; omega
        have h59 : ∀ z s : Int, ((z = 1 ∧ L.getD j.toNat 0 ∈ nt.take i.toNat) ∨ (z = 0 ∧ L.getD j.toNat 0 ∉ nt.take i.toNat)) → fp_S l G 1 kX4_choicesAt 59 [some (rV G 133), some (rV G 18), some (rV G 32), some (iV i), some (iV (oW g K (nt.getD i.toNat 0))), some (iV c), some (iV j), some (iV s), o8] [iV z] M (qE ((L.countP (oCf g K nt i) : Nat) : Int) M) := by
          intro z s hz
          refine S.istore (pc' := 61) (LL' := [_, _, _, _, _, _, _, _, _]) dX4_choicesAt_59 rfl (by decide) rfl rfl ?_
          refine S.iload (pc' := 63) dX4_choicesAt_61 rfl rfl ?_
          refine S.if_ne (pc' := 66) (tgt := 86) dX4_choicesAt_63 (by decide) rfl (by unfold fp_rng; omega) (fun h63 => ?_) (fun h63 => ?_)
          · refine S.iinc (pc' := 89) (LL' := [_, _, _, _, _, _, _, _, _]) dX4_choicesAt_86 rfl (by decide) rfl rfl rfl ?_
            refine S.goto (pc' := 19) dX4_choicesAt_89 (by decide) ?_
            first
            | exact ih _ _ _ _ (hyes ⟨(hz.resolve_left (fun e => by omega)).2, by omega⟩).symm (by omega) (by omega) (by omega)
            | exact ih _ _ _ _ (hno (fun q => by omega)).symm (by omega) (by omega) (by omega)
            | exact ih _ _ _ _ (hno (fun q => q.1 (hz.resolve_right (fun e => by omega)).2)).symm (by omega) (by omega) (by omega)
          · refine S.aload_n (pc' := 67) dX4_choicesAt_66 rfl rfl rfl ?_
            refine S.aload_n (pc' := 68) dX4_choicesAt_67 rfl rfl rfl ?_
            refine S.aload_n (pc' := 69) dX4_choicesAt_68 rfl rfl rfl ?_
            refine S.getR (pc' := 72) dX4_choicesAt_69 rfl fX4_9 L_133 rf_133_2 ?_
            refine S.iload (pc' := 74) dX4_choicesAt_72 rfl rfl ?_
            refine S.iald (pc' := 75) dX4_choicesAt_74 rfl L_134 (by omega) (by omega) ?_
            rw [m1]
            refine S.callVe (pc' := 78) dX4_choicesAt_75 rfl cX4_59 (xk_X4_weight h ⟨m2, m3⟩) rfl L_133 (by decide) rfl (Nat.le_of_ble_eq_true rfl) ?_
            refine S.iload (pc' := 80) dX4_choicesAt_78 rfl rfl ?_
            refine S.icmp_ne (pc' := 83) (tgt := 86) dX4_choicesAt_80 (by decide) rfl (by unfold fp_rng; omega) (by unfold fp_rng; omega) (fun h80 => ?_) (fun h80 => ?_)
            · refine S.iinc (pc' := 89) (LL' := [_, _, _, _, _, _, _, _, _]) dX4_choicesAt_86 rfl (by decide) rfl rfl rfl ?_
              refine S.goto (pc' := 19) dX4_choicesAt_89 (by decide) ?_
              first
              | exact ih _ _ _ _ (hyes ⟨(hz.resolve_left (fun e => by omega)).2, by omega⟩).symm (by omega) (by omega) (by omega)
              | exact ih _ _ _ _ (hno (fun q => by omega)).symm (by omega) (by omega) (by omega)
              | exact ih _ _ _ _ (hno (fun q => q.1 (hz.resolve_right (fun e => by omega)).2)).symm (by omega) (by omega) (by omega)
            · refine S.iinc (pc' := 86) (LL' := [_, _, _, _, _, _, _, _, _]) dX4_choicesAt_83 rfl (by decide) rfl rfl rfl ?_
              refine S.iinc (pc' := 89) (LL' := [_, _, _, _, _, _, _, _, _]) dX4_choicesAt_86 rfl (by decide) rfl rfl rfl ?_
              refine S.goto (pc' := 19) dX4_choicesAt_89 (by decide) ?_
              first
              | exact ih _ _ _ _ (hyes ⟨(hz.resolve_left (fun e => by omega)).2, by omega⟩).symm (by omega) (by omega) (by omega)
              | exact ih _ _ _ _ (hno (fun q => by omega)).symm (by omega) (by omega) (by omega)
              | exact ih _ _ _ _ (hno (fun q => q.1 (hz.resolve_right (fun e => by omega)).2)).symm (by omega) (by omega) (by omega)
        refine S.iload (pc' := 21) dX4_choicesAt_19 rfl rfl ?_
        refine S.aload_n (pc' := 22) dX4_choicesAt_21 rfl rfl rfl ?_
        refine S.getI (pc' := 25) dX4_choicesAt_22 rfl fX4_31 L_133 ?_
        refine S.icmp_ge (pc' := 28) (tgt := 92) dX4_choicesAt_25 (by decide) rfl (by unfold fp_rng; omega) (by unfold fp_rng; omega) (fun h25 => ?_) (fun h25 => ?_)
        · exfalso; omega
        · refine S.aload_n (pc' := 29) dX4_choicesAt_28 rfl rfl rfl ?_
          refine S.aload_n (pc' := 30) dX4_choicesAt_29 rfl rfl rfl ?_
          refine S.getR (pc' := 33) dX4_choicesAt_30 rfl fX4_9 L_133 rf_133_2 ?_
          refine S.iload (pc' := 35) dX4_choicesAt_33 rfl rfl ?_
          refine S.iald (pc' := 36) dX4_choicesAt_35 rfl L_134 (by omega) (by omega) ?_
          rw [m1]
          refine S.callVi (pc' := 39) dX4_choicesAt_36 rfl cX4_63 (xk_X3_spotOf h (by unfold fp_rng; omega)) rfl (nt_lay nt32) (by decide) rfl (Nat.le_of_ble_eq_true rfl) (fun z36 M36 q36 => ?_)
          obtain ⟨s1, rfl⟩ := q36
          have hst := o_ahead (i := i) h.nd s1
          have hsr : z36 = -4 ∨ (0 ≤ z36 ∧ z36 < nt.length) := s1.elim (fun q => Or.inl q.1) (fun q => Or.inr q.1)
          refine S.istore (pc' := 41) (LL' := [_, _, _, _, _, _, _, _, _]) dX4_choicesAt_39 rfl (by decide) rfl rfl ?_
          refine S.iload (pc' := 43) dX4_choicesAt_41 rfl rfl ?_
          refine S.bipush (pc' := 45) dX4_choicesAt_43 rfl (by decide) ?_
          refine S.icmp_eq (pc' := 48) (tgt := 58) dX4_choicesAt_45 (by decide) rfl (by unfold fp_rng; omega) (by unfold fp_rng; omega) (fun h45 => ?_) (fun h45 => ?_)
          · refine S.iconst (pc' := 59) dX4_choicesAt_58 rfl ?_
            first
            | exact h59 _ _ (Or.inl ⟨rfl, hst.mp ⟨by omega, by omega⟩⟩)
            | exact h59 _ _ (Or.inr ⟨rfl, fun q => by have h9 := hst.mpr q; omega⟩)
          · refine S.iload (pc' := 50) dX4_choicesAt_48 rfl rfl ?_
            refine S.iload_n (pc' := 51) dX4_choicesAt_50 rfl rfl rfl ?_
            refine S.icmp_ge (pc' := 54) (tgt := 58) dX4_choicesAt_51 (by decide) rfl (by unfold fp_rng; omega) (by unfold fp_rng; omega) (fun h51 => ?_) (fun h51 => ?_)
            · refine S.iconst (pc' := 59) dX4_choicesAt_58 rfl ?_
              first
              | exact h59 _ _ (Or.inl ⟨rfl, hst.mp ⟨by omega, by omega⟩⟩)
              | exact h59 _ _ (Or.inr ⟨rfl, fun q => by have h9 := hst.mpr q; omega⟩)
            · refine S.iconst (pc' := 55) dX4_choicesAt_54 rfl ?_
              refine S.goto (pc' := 59) dX4_choicesAt_55 (by decide) ?_
              first
              | exact h59 _ _ (Or.inl ⟨rfl, hst.mp ⟨by omega, by omega⟩⟩)
              | exact h59 _ _ (Or.inr ⟨rfl, fun q => by have h9 := hst.mpr q; omega⟩)
      · refine S.iload (pc' := 21) dX4_choicesAt_19 rfl rfl ?_
        refine S.aload_n (pc' := 22) dX4_choicesAt_21 rfl rfl rfl ?_
        refine S.getI (pc' := 25) dX4_choicesAt_22 rfl fX4_31 L_133 ?_
        refine S.icmp_ge (pc' := 28) (tgt := 92) dX4_choicesAt_25 (by decide) rfl (by unfold fp_rng; omega) (by unfold fp_rng; omega) (fun h25 => ?_) (fun h25 => ?_)
        · refine S.iload (pc' := 94) dX4_choicesAt_92 rfl rfl ?_
          refine S.iret dX4_choicesAt_94 rfl ?_
          exact ⟨by rw [hc, oCk_all (by omega)], rfl⟩
        · exfalso; omega
  refine fp_Ok.of (r := 5) rfl (Nat.le_of_ble_eq_true rfl) rfl ?_
  refine S.aload_n (pc' := 1) dX4_choicesAt_0 rfl rfl rfl ?_
  refine S.aload_n (pc' := 2) dX4_choicesAt_1 rfl rfl rfl ?_
  refine S.aload_n (pc' := 3) dX4_choicesAt_2 rfl rfl rfl ?_
  refine S.getR (pc' := 6) dX4_choicesAt_3 rfl fX4_48 (nt_lay nt32) (nt_r1 nt32) ?_
  refine S.iload_n (pc' := 7) dX4_choicesAt_6 rfl rfl rfl ?_
  refine S.iald (pc' := 8) dX4_choicesAt_7 rfl (nt_a1 nt32) (by omega) (by omega) ?_
  rw [d1]
  refine S.callVe (pc' := 11) dX4_choicesAt_8 rfl cX4_59 (xk_X4_weight h ⟨d2, d3⟩) rfl L_133 (by decide) rfl (Nat.le_of_ble_eq_true rfl) ?_
  refine S.istore (pc' := 13) (LL' := [_, _, _, _, _, _, _, _, _]) dX4_choicesAt_11 rfl (by decide) rfl rfl ?_
  refine S.iconst (pc' := 14) dX4_choicesAt_13 rfl ?_
  refine S.istore (pc' := 16) (LL' := [_, _, _, _, _, _, _, _, _]) dX4_choicesAt_14 rfl (by decide) rfl rfl ?_
  refine S.iconst (pc' := 17) dX4_choicesAt_16 rfl ?_
  refine S.istore (pc' := 19) (LL' := [_, _, _, _, _, _, _, _, _]) dX4_choicesAt_17 rfl (by decide) rfl rfl ?_
  exact hL 9 0 0 _ _ (oCk_zero _ _).symm (by omega) (by omega) (by omega)
theorem xk_X4_howMany (h : oPx M g nt K L) : fp_Ok l G 3 kX4_howMany [rV G 133, rV G 18, rV G 32] M (qE (oCt g K L nt) M) := by
  have h2 := h.2.2.1
  have h7 := h.l7
  have hin := h.2.2.2.2.2
  have hl1 := h.1.2.2.2.2.1.1
  have hl := h.1.2.2.2.2.1.2.1
  have hci := oCan_iff (W := oW g K) hin.1 h.nd
  have hL2 : oCanI (oW g K) L nt → ∀ (r : Nat) (m i : Int) (o5 : Option Value), m = oCt g K L (nt.take i.toNat) → (8 - i).toNat < r → 0 ≤ i → i ≤ 8 → fp_S l G 3 kX4_howMany 39 [some (rV G 133), some (rV G 18), some (rV G 32), some (iV m), some (iV i), o5] [] M (qE (oCt g K L nt) M) := by
    intro hcan r
    induction r with
    | zero => intro m i o5 hm hr; omega
    | succ r ih =>
      intro m i o5 hm hr i0 i1
      have hb := oCt_in (K := K) (nt := nt.take i.toNat) hin h7
      by_cases hlt : i < nt.length
      · obtain ⟨s1, s2⟩ := hin.step hcan h.nd (i := i.toNat) (by omega)
        have hcd : L.countP (oCf g K nt i) = L.countP (fun t => decide (t ∉ nt.take i.toNat ∧ oW g K t = oW g K (nt.getD i.toNat 0))) := rfl
        rw [← hcd] at s1 s2
        have hc8 := List.countP_le_length (p := oCf g K nt i) (l := L)
        have hq : m / ((L.countP (oCf g K nt i) : Nat) : Int) = oCt g K L (nt.take (i + 1).toNat) := by
          rw [hm, s1, Int.mul_ediv_cancel_left _ (by omega), show (i + 1).toNat = i.toNat + 1 by omega]
        generalize hc : ((L.countP (oCf g K nt i) : Nat) : Int) = c at hq
        refine S.iload (pc' := 41) dX4_howMany_39 rfl rfl ?_
        refine S.aload_n (pc' := 42) dX4_howMany_41 rfl rfl rfl ?_
        refine S.getI (pc' := 45) dX4_howMany_42 rfl fX4_45 (nt_lay nt32) ?_
        refine S.icmp_ge (pc' := 48) (tgt := 74) dX4_howMany_45 (by decide) rfl (by unfold fp_rng; omega) (by unfold fp_rng; omega) (fun h45 => ?_) (fun h45 => ?_)
        · exfalso; omega
        · refine S.aload_n (pc' := 49) dX4_howMany_48 rfl rfl rfl ?_
          refine S.aload_n (pc' := 50) dX4_howMany_49 rfl rfl rfl ?_
          refine S.aload_n (pc' := 51) dX4_howMany_50 rfl rfl rfl ?_
          refine S.iload (pc' := 53) dX4_howMany_51 rfl rfl ?_
          refine S.callVe (pc' := 56) dX4_howMany_53 rfl cX4_71 (xk_X4_choicesAt h ⟨i0, hlt⟩) rfl L_133 (by decide) rfl (Nat.le_of_ble_eq_true rfl) ?_
          rw [hc]
          refine S.istore (pc' := 58) (LL' := [_, _, _, _, _, _]) dX4_howMany_56 rfl (by decide) rfl rfl ?_
          refine S.iload (pc' := 60) dX4_howMany_58 rfl rfl ?_
          refine S.if_le (pc' := 63) (tgt := 68) dX4_howMany_60 (by decide) rfl (by unfold fp_rng; omega) (fun h60 => ?_) (fun h60 => ?_)
          · refine S.iinc (pc' := 71) (LL' := [_, _, _, _, _, _]) dX4_howMany_68 rfl (by decide) rfl rfl rfl ?_
            refine S.goto (pc' := 39) dX4_howMany_71 (by decide) ?_
            first
            | exact ih _ _ _ hq (by omega) (by omega) (by omega)
            | (exfalso; omega)
          · refine S.iload_n (pc' := 64) dX4_howMany_63 rfl rfl rfl ?_
            refine S.iload (pc' := 66) dX4_howMany_64 rfl rfl ?_
            refine S.idiv (pc' := 67) dX4_howMany_66 rfl (fp_ine (by omega)) (fp_idiv (by omega) (by omega)) ?_
            refine S.istore_n (pc' := 68) (LL' := [_, _, _, _, _, _]) dX4_howMany_67 rfl (by decide) rfl rfl rfl ?_
            refine S.iinc (pc' := 71) (LL' := [_, _, _, _, _, _]) dX4_howMany_68 rfl (by decide) rfl rfl rfl ?_
            refine S.goto (pc' := 39) dX4_howMany_71 (by decide) ?_
            first
            | exact ih _ _ _ hq (by omega) (by omega) (by omega)
            | (exfalso; omega)
      · refine S.iload (pc' := 41) dX4_howMany_39 rfl rfl ?_
        refine S.aload_n (pc' := 42) dX4_howMany_41 rfl rfl rfl ?_
        refine S.getI (pc' := 45) dX4_howMany_42 rfl fX4_45 (nt_lay nt32) ?_
        refine S.icmp_ge (pc' := 48) (tgt := 74) dX4_howMany_45 (by decide) rfl (by unfold fp_rng; omega) (by unfold fp_rng; omega) (fun h45 => ?_) (fun h45 => ?_)
        · refine S.iload_n (pc' := 75) dX4_howMany_74 rfl rfl rfl ?_
          refine S.iret dX4_howMany_75 rfl ?_
          exact ⟨by rw [hm, List.take_of_length_le (by omega)], rfl⟩
        · exfalso; omega
  have hL1 : oCanI (oW g K) L nt → ∀ (r k : Nat), 7 - k < r → (k = 0 ∨ (k : Int) + 1 ≤ L.length) → fp_S l G 3 kX4_howMany 16 [some (rV G 133), some (rV G 18), some (rV G 32), some (iV (fcI k)), some (iV ((k : Int) + 2)), none] [] M (qE (oCt g K L nt) M) := by
    intro hcan r
    induction r with
    | zero => intro k hr; omega
    | succ r ih =>
      intro k hr hk
      have hf := fcI_in (show k < 7 by omega)
      have hff : ¬ ((k : Int) + 2 ≤ L.length) → fcI k = oCt g K L (nt.take (0 : Int).toNat) := fun q => by
        show fcI k = oCt g K L (nt.take 0)
        rw [List.take_zero, hin.full, fcI_fct]
        rcases hk with e | e
        · subst e
          rcases (show L.length = 0 ∨ L.length = 1 by omega) with e2 | e2
          · rw [e2]; rfl
          · rw [e2]
        · rw [show L.length = k + 1 by omega]
      refine S.iload (pc' := 18) dX4_howMany_16 rfl rfl ?_
      refine S.aload_n (pc' := 19) dX4_howMany_18 rfl rfl rfl ?_
      refine S.getI (pc' := 22) dX4_howMany_19 rfl fX4_31 L_133 ?_
      refine S.icmp_gt (pc' := 25) (tgt := 36) dX4_howMany_22 (by decide) rfl (by unfold fp_rng; omega) (by unfold fp_rng; omega) (fun h22 => ?_) (fun h22 => ?_)
      · refine S.iconst (pc' := 37) dX4_howMany_36 rfl ?_
        refine S.istore (pc' := 39) (LL' := [_, _, _, _, _, _]) dX4_howMany_37 rfl (by decide) rfl rfl ?_
        exact hL2 hcan 9 _ 0 _ (hff (by omega)) (by omega) (by omega) (by omega)
      · refine S.iload_n (pc' := 26) dX4_howMany_25 rfl rfl rfl ?_
        refine S.iload (pc' := 28) dX4_howMany_26 rfl rfl ?_
        refine S.imul (pc' := 29) dX4_howMany_28 rfl ?_
        refine S.istore_n (pc' := 30) (LL' := [_, _, _, _, _, _]) dX4_howMany_29 rfl (by decide) rfl rfl rfl ?_
        refine S.iinc (pc' := 33) (LL' := [_, _, _, _, _, _]) dX4_howMany_30 rfl (by decide) rfl rfl rfl ?_
        refine S.goto (pc' := 16) dX4_howMany_33 (by decide) ?_
        rw [show fcI k * ((k : Int) + 2) = fcI (k + 1) from rfl, show ((k : Int) + 2 + 1) = ((k + 1 : Nat) : Int) + 2 by omega]
        exact ih (k + 1) (by omega) (by omega)
  refine fp_Ok.of (r := 3) rfl (Nat.le_of_ble_eq_true rfl) rfl ?_
  refine S.aload_n (pc' := 1) dX4_howMany_0 rfl rfl rfl ?_
  refine S.aload_n (pc' := 2) dX4_howMany_1 rfl rfl rfl ?_
  refine S.aload_n (pc' := 3) dX4_howMany_2 rfl rfl rfl ?_
  refine S.callVi (pc' := 6) dX4_howMany_3 rfl cX4_67 (xk_X4_canFit h) rfl L_133 (by decide) rfl (Nat.le_of_ble_eq_true rfl) (fun z3 M3 q3 => ?_)
  obtain ⟨z1, rfl⟩ := q3
  refine S.if_ne (pc' := 9) (tgt := 11) dX4_howMany_6 (by decide) rfl (by unfold fp_rng; omega) (fun h6 => ?_) (fun h6 => ?_)
  · refine S.iconst (pc' := 12) dX4_howMany_11 rfl ?_
    refine S.istore_n (pc' := 13) (LL' := [_, _, _, _, _, _]) dX4_howMany_12 rfl (by decide) rfl rfl rfl ?_
    refine S.iconst (pc' := 14) dX4_howMany_13 rfl ?_
    refine S.istore (pc' := 16) (LL' := [_, _, _, _, _, _]) dX4_howMany_14 rfl (by decide) rfl rfl ?_
    exact hL1 (z1.resolve_right (fun e => by omega)).2 8 0 (by omega) (Or.inl rfl)
  · refine S.iconst (pc' := 10) dX4_howMany_9 rfl ?_
    refine S.iret dX4_howMany_10 rfl ?_
    refine ⟨?_, rfl⟩
    have hnc := (z1.resolve_left (fun e => by omega)).2
    exact (hin.none_ct (fun q => hnc (hci.mp q))).symm
end CXA
