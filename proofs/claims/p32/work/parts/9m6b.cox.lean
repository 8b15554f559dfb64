/-! orders: the class, exactly: the first one; the call (p32 alone) -/
section CXB
variable {l : Launch} {G : fp_WG} {M N : fp_Mem} {tp : List Int} {fl : Int} {g : aGd} {pg : aPg} {vs : List aVt} {nt : List Int} {im : aIm} {sh : aSh} {tn : Int} {K : Int} {L q S' nt' : List Int} {pb : Int}
theorem xk_X4_isPlaced {t : Int} (hp : oPb pb q) (hM : M 133 3 = pb) (ht : 0 ≤ t ∧ t ≤ 9) : fp_Ok l G 0 kX4_isPlaced [rV G 133, iV t] M (qI fun z N => ((z = 1 ∧ t ∈ q) ∨ (z = 0 ∧ t ∉ q)) ∧ M = N) := by
  have hb := fp_bitg (v := pb) (i := t) hp.1.1
  have h9 := o_pow9 ht
  have hpb := hp.1
  have hq := hp.2 t ht.1 ht.2
  refine fp_Ok.of (r := 0) rfl (Nat.le_of_ble_eq_true rfl) rfl ?_
  by_cases hm : pb.toNat.testBit t.toNat = true
  · rw [if_pos hm] at hb
    refine S.aload_n (pc' := 1) dX4_isPlaced_0 rfl rfl rfl ?_
    refine S.getI (pc' := 4) dX4_isPlaced_1 rfl fX4_75 L_133 ?_
    rw [hM]
    refine S.iconst (pc' := 5) dX4_isPlaced_4 rfl ?_
    refine S.iload_n (pc' := 6) dX4_isPlaced_5 rfl rfl rfl ?_
    refine S.ishl (pc' := 7) dX4_isPlaced_6 rfl (fp_shl1 (by omega) (by omega)) ?_
    refine S.iand (pc' := 8) dX4_isPlaced_7 rfl (fp_iand hpb.1 (by omega)) ?_
    refine S.if_eq (pc' := 11) (tgt := 15) dX4_isPlaced_8 (by decide) rfl (by rw [hb]; unfold fp_rng; omega) (fun h8 => ?_) (fun h8 => ?_)
    · exfalso; omega
    · refine S.iconst (pc' := 12) dX4_isPlaced_11 rfl ?_
      refine S.goto (pc' := 16) dX4_isPlaced_12 (by decide) ?_
      refine S.zret dX4_isPlaced_16 rfl (by first | exact Or.inl rfl | exact Or.inr rfl | omega) ?_
      exact ⟨Or.inl ⟨rfl, hq.mp hm⟩, rfl⟩
  · rw [if_neg hm] at hb
    refine S.aload_n (pc' := 1) dX4_isPlaced_0 rfl rfl rfl ?_
    refine S.getI (pc' := 4) dX4_isPlaced_1 rfl fX4_75 L_133 ?_
    rw [hM]
    refine S.iconst (pc' := 5) dX4_isPlaced_4 rfl ?_
    refine S.iload_n (pc' := 6) dX4_isPlaced_5 rfl rfl rfl ?_
    refine S.ishl (pc' := 7) dX4_isPlaced_6 rfl (fp_shl1 (by omega) (by omega)) ?_
    refine S.iand (pc' := 8) dX4_isPlaced_7 rfl (fp_iand hpb.1 (by omega)) ?_
    refine S.if_eq (pc' := 11) (tgt := 15) dX4_isPlaced_8 (by decide) rfl (by rw [hb]; unfold fp_rng; omega) (fun h8 => ?_) (fun h8 => ?_)
    · refine S.iconst (pc' := 16) dX4_isPlaced_15 rfl ?_
      refine S.zret dX4_isPlaced_16 rfl (by first | exact Or.inl rfl | exact Or.inr rfl | omega) ?_
      exact ⟨Or.inr ⟨rfl, fun e => hm (hq.mpr e)⟩, rfl⟩
    · exfalso; omega
theorem xk_X4_mayStand {t s : Int} (h : oPx M g nt K L) (hst : oSt g K L nt q S' nt') (hp : oPb pb q) (hM : M 133 3 = pb) (ht : t ∈ S') (ht9 : 0 ≤ t ∧ t < g.1) (hs : s = q.length) (hs8 : s ≤ 8) : fp_Ok l G 1 kX4_mayStand [rV G 133, rV G 18, rV G 32, iV t, iV s] M (qI fun z N => ((z = 1 ∧ oM K (oW g K) t nt' S'.length) ∨ (z = 0 ∧ ¬ oM K (oW g K) t nt' S'.length)) ∧ M = N) := by
  have h1 := h.1.1
  have hk := h.2.1
  have h2 := h.2.2.1
  have h7 := h.l7
  have hg1 := h.g1
  have hl1 := h.1.2.2.2.2.1.1
  have hl := h.1.2.2.2.2.1.2.1
  have htq : t ∉ q := ((hst.2.2.1 t).mp ht).2
  have hwt := oW_in (K := K) h.gok ht9
  have hL : K ≠ 1 → ∀ (r : Nat) (i : Int) (o6 : Option Value), (8 - i).toNat < r → 0 ≤ i → i ≤ 8 → (oMe (oW g K) t (oFq q nt) ↔ oMe (oW g K) t (oFq q (nt.drop i.toNat))) → fp_S l G 1 kX4_mayStand 45 [some (rV G 133), some (rV G 18), some (rV G 32), some (iV t), some (iV s), some (iV i), o6] [] M (qI fun z N => ((z = 1 ∧ oM K (oW g K) t nt' S'.length) ∨ (z = 0 ∧ ¬ oM K (oW g K) t nt' S'.length)) ∧ M = N) := by
    intro hK1 r
    have hme := hst.stand2 (t := t) hK1
    induction r with
    | zero => intro i o6 hr; omega
    | succ r ih =>
      intro i o6 hr i0 i1 hq
      rw [hq] at hme
      by_cases hlt : i < nt.length
      · obtain ⟨d1, d2, d3⟩ := h.nt i0 hlt
        have hwn := oW_in (K := K) h.gok ⟨d2, d3⟩
        have hdr := o_drop (L := nt) (i := i.toNat) (by omega)
        rw [hdr, oFq_cons] at hme
        have hskip : nt.getD i.toNat 0 ≠ t → (nt.getD i.toNat 0 ∈ q ∨ oW g K (nt.getD i.toNat 0) ≠ oW g K t) → (oMe (oW g K) t (oFq q nt) ↔ oMe (oW g K) t (oFq q (nt.drop (i + 1).toNat))) := fun e1 e2 => by
          rw [hq, hdr, oFq_cons, show (i + 1).toNat = i.toNat + 1 by omega]
          by_cases e3 : nt.getD i.toNat 0 ∈ q
          · rw [if_pos e3]
          · rw [if_neg e3, oMe]
            exact ⟨fun e => (e.resolve_left e1).2, fun e => Or.inr ⟨e2.resolve_left e3, e⟩⟩
        have hyes : nt.getD i.toNat 0 = t → oM K (oW g K) t nt' S'.length := fun e1 => by
          rw [hme, if_neg (by rw [e1]; exact htq), oMe]
          exact Or.inl e1
        have hno : nt.getD i.toNat 0 ≠ t → nt.getD i.toNat 0 ∉ q → oW g K (nt.getD i.toNat 0) = oW g K t → ¬ oM K (oW g K) t nt' S'.length := fun e1 e2 e3 e => by
          rw [hme, if_neg e2, oMe] at e
          exact (e.resolve_left e1).1 e3
        refine S.iload (pc' := 47) dX4_mayStand_45 rfl rfl ?_
        refine S.aload_n (pc' := 48) dX4_mayStand_47 rfl rfl rfl ?_
        refine S.getI (pc' := 51) dX4_mayStand_48 rfl fX4_45 (nt_lay nt32) ?_
        refine S.icmp_ge (pc' := 54) (tgt := 104) dX4_mayStand_51 (by decide) rfl (by unfold fp_rng; omega) (by unfold fp_rng; omega) (fun h51 => ?_) (fun h51 => ?_)
        · exfalso; omega
        · refine S.aload_n (pc' := 55) dX4_mayStand_54 rfl rfl rfl ?_
          refine S.getR (pc' := 58) dX4_mayStand_55 rfl fX4_48 (nt_lay nt32) (nt_r1 nt32) ?_
          refine S.iload (pc' := 60) dX4_mayStand_58 rfl rfl ?_
          refine S.iald (pc' := 61) dX4_mayStand_60 rfl (nt_a1 nt32) (by omega) (by omega) ?_
          rw [d1]
          refine S.istore (pc' := 63) (LL' := [_, _, _, _, _, _, _]) dX4_mayStand_61 rfl (by decide) rfl rfl ?_
          refine S.iload (pc' := 65) dX4_mayStand_63 rfl rfl ?_
          refine S.iload_n (pc' := 66) dX4_mayStand_65 rfl rfl rfl ?_
          refine S.icmp_ne (pc' := 69) (tgt := 71) dX4_mayStand_66 (by decide) rfl (by unfold fp_rng; omega) (by unfold fp_rng; omega) (fun h66 => ?_) (fun h66 => ?_)
          · refine S.aload_n (pc' := 72) dX4_mayStand_71 rfl rfl rfl ?_
            refine S.iload (pc' := 74) dX4_mayStand_72 rfl rfl ?_
            refine S.callVi (pc' := 77) dX4_mayStand_74 rfl cX4_78 (xk_X4_isPlaced hp hM (by omega)) rfl L_133 (by decide) rfl (Nat.le_of_ble_eq_true rfl) (fun z74 M74 q74 => ?_)
            obtain ⟨b74, rfl⟩ := q74
            refine S.if_ne (pc' := 80) (tgt := 98) dX4_mayStand_77 (by decide) rfl (by unfold fp_rng; omega) (fun h77 => ?_) (fun h77 => ?_)
            · refine S.iinc (pc' := 101) (LL' := [_, _, _, _, _, _, _]) dX4_mayStand_98 rfl (by decide) rfl rfl rfl ?_
              refine S.goto (pc' := 45) dX4_mayStand_101 (by decide) ?_
              first
              | exact ih _ _ (by omega) (by omega) (by omega) (hskip (fun e => by omega) (Or.inl (b74.resolve_right (fun e => by omega)).2))
              | exact ih _ _ (by omega) (by omega) (by omega) (hskip (fun e => by omega) (Or.inr (fun e => by omega)))
            · refine S.aload_n (pc' := 81) dX4_mayStand_80 rfl rfl rfl ?_
              refine S.aload_n (pc' := 82) dX4_mayStand_81 rfl rfl rfl ?_
              refine S.iload (pc' := 84) dX4_mayStand_82 rfl rfl ?_
              refine S.callVe (pc' := 87) dX4_mayStand_84 rfl cX4_59 (xk_X4_weight h ⟨d2, d3⟩) rfl L_133 (by decide) rfl (Nat.le_of_ble_eq_true rfl) ?_
              refine S.aload_n (pc' := 88) dX4_mayStand_87 rfl rfl rfl ?_
              refine S.aload_n (pc' := 89) dX4_mayStand_88 rfl rfl rfl ?_
              refine S.iload_n (pc' := 90) dX4_mayStand_89 rfl rfl rfl ?_
              refine S.callVe (pc' := 93) dX4_mayStand_90 rfl cX4_59 (xk_X4_weight h ht9) rfl L_133 (by decide) rfl (Nat.le_of_ble_eq_true rfl) ?_
              refine S.icmp_ne (pc' := 96) (tgt := 98) dX4_mayStand_93 (by decide) rfl (by unfold fp_rng; omega) (by unfold fp_rng; omega) (fun h93 => ?_) (fun h93 => ?_)
              · refine S.iinc (pc' := 101) (LL' := [_, _, _, _, _, _, _]) dX4_mayStand_98 rfl (by decide) rfl rfl rfl ?_
                refine S.goto (pc' := 45) dX4_mayStand_101 (by decide) ?_
                first
                | exact ih _ _ (by omega) (by omega) (by omega) (hskip (fun e => by omega) (Or.inl (b74.resolve_right (fun e => by omega)).2))
                | exact ih _ _ (by omega) (by omega) (by omega) (hskip (fun e => by omega) (Or.inr (fun e => by omega)))
              · refine S.iconst (pc' := 97) dX4_mayStand_96 rfl ?_
                refine S.zret dX4_mayStand_97 rfl (by first | exact Or.inl rfl | exact Or.inr rfl | omega) ?_
                exact ⟨Or.inr ⟨rfl, hno (fun e => by omega) (b74.resolve_left (fun e => by omega)).2 (by omega)⟩, rfl⟩
          · refine S.iconst (pc' := 70) dX4_mayStand_69 rfl ?_
            refine S.zret dX4_mayStand_70 rfl (by first | exact Or.inl rfl | exact Or.inr rfl | omega) ?_
            exact ⟨Or.inl ⟨rfl, hyes (by omega)⟩, rfl⟩
      · refine S.iload (pc' := 47) dX4_mayStand_45 rfl rfl ?_
        refine S.aload_n (pc' := 48) dX4_mayStand_47 rfl rfl rfl ?_
        refine S.getI (pc' := 51) dX4_mayStand_48 rfl fX4_45 (nt_lay nt32) ?_
        refine S.icmp_ge (pc' := 54) (tgt := 104) dX4_mayStand_51 (by decide) rfl (by unfold fp_rng; omega) (by unfold fp_rng; omega) (fun h51 => ?_) (fun h51 => ?_)
        · refine S.iconst (pc' := 105) dX4_mayStand_104 rfl ?_
          refine S.zret dX4_mayStand_105 rfl (by first | exact Or.inl rfl | exact Or.inr rfl | omega) ?_
          refine ⟨Or.inl ⟨rfl, hme.mpr ?_⟩, rfl⟩
          rw [List.drop_eq_nil_of_le (by omega)]
          exact trivial
        · exfalso; omega
  refine fp_Ok.of (r := 2) rfl (Nat.le_of_ble_eq_true rfl) rfl ?_
  refine S.aload_n (pc' := 1) dX4_mayStand_0 rfl rfl rfl ?_
  refine S.getI (pc' := 4) dX4_mayStand_1 rfl fX4_23 L_133 ?_
  refine S.iconst (pc' := 5) dX4_mayStand_4 rfl ?_
  refine S.icmp_ne (pc' := 8) (tgt := 42) dX4_mayStand_5 (by decide) rfl (by unfold fp_rng; omega) (by unfold fp_rng; omega) (fun h5 => ?_) (fun h5 => ?_)
  · refine S.iconst (pc' := 43) dX4_mayStand_42 rfl ?_
    refine S.istore (pc' := 45) (LL' := [_, _, _, _, _, _, _]) dX4_mayStand_43 rfl (by decide) rfl rfl ?_
    exact hL (by omega) 9 0 _ (by omega) (by omega) (by omega) Iff.rfl
  · refine S.aload_n (pc' := 9) dX4_mayStand_8 rfl rfl rfl ?_
    refine S.iload_n (pc' := 10) dX4_mayStand_9 rfl rfl rfl ?_
    refine S.callVi (pc' := 13) dX4_mayStand_10 rfl cX4_63 (xk_X3_spotOf h (by unfold fp_rng; omega)) rfl (nt_lay nt32) (by decide) rfl (Nat.le_of_ble_eq_true rfl) (fun z10 M10 q10 => ?_)
    obtain ⟨s1, rfl⟩ := q10
    have hsr : z10 = -4 ∨ (0 ≤ z10 ∧ z10 < nt.length) := s1.elim (fun e => Or.inl e.1) (fun e => Or.inr e.1)
    have hsd := hst.stand h.nd (by omega) ht s1
    refine S.istore (pc' := 15) (LL' := [_, _, _, _, _, _, _]) dX4_mayStand_13 rfl (by decide) rfl rfl ?_
    refine S.iload (pc' := 17) dX4_mayStand_15 rfl rfl ?_
    refine S.bipush (pc' := 19) dX4_mayStand_17 rfl (by decide) ?_
    refine S.icmp_eq (pc' := 22) (tgt := 36) dX4_mayStand_19 (by decide) rfl (by unfold fp_rng; omega) (by unfold fp_rng; omega) (fun h19 => ?_) (fun h19 => ?_)
    · refine S.iconst (pc' := 37) dX4_mayStand_36 rfl ?_
      refine S.goto (pc' := 41) dX4_mayStand_37 (by decide) ?_
      refine S.zret dX4_mayStand_41 rfl (by first | exact Or.inl rfl | exact Or.inr rfl | omega) ?_
      first
      | exact ⟨Or.inl ⟨rfl, hsd.mpr (by omega)⟩, rfl⟩
      | exact ⟨Or.inr ⟨rfl, fun e => by have h9 := hsd.mp e; omega⟩, rfl⟩
    · refine S.iload (pc' := 24) dX4_mayStand_22 rfl rfl ?_
      refine S.aload_n (pc' := 25) dX4_mayStand_24 rfl rfl rfl ?_
      refine S.getI (pc' := 28) dX4_mayStand_25 rfl fX4_31 L_133 ?_
      refine S.iconst (pc' := 29) dX4_mayStand_28 rfl ?_
      refine S.isub (pc' := 30) dX4_mayStand_29 rfl ?_
      refine S.iload (pc' := 32) dX4_mayStand_30 rfl rfl ?_
      refine S.isub (pc' := 33) dX4_mayStand_32 rfl ?_
      refine S.icmp_ne (pc' := 36) (tgt := 40) dX4_mayStand_33 (by decide) rfl (by unfold fp_rng; omega) (by unfold fp_rng; omega) (fun h33 => ?_) (fun h33 => ?_)
      · refine S.iconst (pc' := 41) dX4_mayStand_40 rfl ?_
        refine S.zret dX4_mayStand_41 rfl (by first | exact Or.inl rfl | exact Or.inr rfl | omega) ?_
        first
        | exact ⟨Or.inl ⟨rfl, hsd.mpr (by omega)⟩, rfl⟩
        | exact ⟨Or.inr ⟨rfl, fun e => by have h9 := hsd.mp e; omega⟩, rfl⟩
      · refine S.iconst (pc' := 37) dX4_mayStand_36 rfl ?_
        refine S.goto (pc' := 41) dX4_mayStand_37 (by decide) ?_
        refine S.zret dX4_mayStand_41 rfl (by first | exact Or.inl rfl | exact Or.inr rfl | omega) ?_
        first
        | exact ⟨Or.inl ⟨rfl, hsd.mpr (by omega)⟩, rfl⟩
        | exact ⟨Or.inr ⟨rfl, fun e => by have h9 := hsd.mp e; omega⟩, rfl⟩
def oCd (g : aGd) (K : Int) (S' nt' : List Int) (t : Int) : Prop := t ∈ S' ∧ oM K (oW g K) t nt' S'.length
def oLe (g : aGd) (K : Int) (L S' nt' : List Int) (le j : Int) : Prop := (le = -4 ∧ ∀ y : Int, 0 ≤ y → y < j → y < L.length → ¬ oCd g K S' nt' (L.getD y.toNat 0)) ∨ (oCd g K S' nt' le ∧ ∀ y : Int, 0 ≤ y → y < j → y < L.length → oCd g K S' nt' (L.getD y.toNat 0) → le ≤ L.getD y.toNat 0)
theorem oLe.skip {le j : Int} (h : oLe g K L S' nt' le j) (q : oCd g K S' nt' (L.getD j.toNat 0) → le ≠ -4 ∧ le ≤ L.getD j.toNat 0) : oLe g K L S' nt' le (j + 1) := by
  rcases h with ⟨h1, h2⟩ | ⟨h1, h2⟩
  · refine Or.inl ⟨h1, fun y y0 y1 y2 => ?_⟩
    by_cases e : y = j
    · rw [e]; exact fun e2 => (q e2).1 h1
    · exact h2 y y0 (by omega) y2
  · refine Or.inr ⟨h1, fun y y0 y1 y2 e2 => ?_⟩
    by_cases e : y = j
    · rw [e] at e2 ⊢; exact (q e2).2
    · exact h2 y y0 (by omega) y2 e2
theorem oLe.take {le j : Int} (h : oLe g K L S' nt' le j) (hl : le = -4 ∨ L.getD j.toNat 0 < le) (q : oCd g K S' nt' (L.getD j.toNat 0)) (h4 : ∀ t, t ∈ S' → 0 ≤ t) : oLe g K L S' nt' (L.getD j.toNat 0) (j + 1) := by
  refine Or.inr ⟨q, fun y y0 y1 y2 e2 => ?_⟩
  by_cases e : y = j
  · rw [e]; exact Int.le_refl _
  · rcases h with ⟨h1, h2⟩ | ⟨h1, h2⟩
    · exact absurd e2 (h2 y y0 (by omega) y2)
    · have h9 := h2 y y0 (by omega) y2 e2
      have h8 := h4 _ h1.1
      omega
theorem xf_in {s : Int} {Q : fp_Q} (h : oPx N g nt K L) (hst : oSt g K L nt q S' nt') (hp : oPb pb q) (hM : N 133 3 = pb) (hs : s = q.length) (hs8 : s ≤ 8) (KK : ∀ (le j : Int) (o6 o7 : Option Value), oLe g K L S' nt' le L.length → fp_S l G 2 kX4_findFirst 97 [some (rV G 133), some (rV G 18), some (rV G 32), some (iV s), some (iV le), some (iV j), o6, o7] [] N Q) : ∀ (r : Nat) (le j : Int) (o6 o7 : Option Value), (8 - j).toNat < r → 0 ≤ j → j ≤ L.length → oLe g K L S' nt' le j → (le = -4 ∨ (0 ≤ le ∧ le ≤ 9)) →
    fp_S l G 2 kX4_findFirst 22 [some (rV G 133), some (rV G 18), some (rV G 32), some (iV s), some (iV le), some (iV j), o6, o7] [] N Q := by
  have h2 := h.2.2.1
  have h7 := h.l7
  have hg1 := h.g1
  have hmem := hst.2.2.1
  have h4 : ∀ t, t ∈ S' → 0 ≤ t := fun t ht => (h.2.2.2.2.2.2.1 t ((hmem t).mp ht).1).1
  intro r
  induction r with
  | zero => intro le j o6 o7 hr; omega
  | succ r ih =>
    intro le j o6 o7 hr j0 j1 hle hlr
    by_cases hlt : j < L.length
    · obtain ⟨m1, m2, m3, m4⟩ := h.at j0 hlt
      have hA : ∀ o6 o7 : Option Value, (oCd g K S' nt' (L.getD j.toNat 0) → le ≠ -4 ∧ le ≤ L.getD j.toNat 0) → fp_S l G 2 kX4_findFirst 22 [some (rV G 133), some (rV G 18), some (rV G 32), some (iV s), some (iV le), some (iV (j + 1)), o6, o7] [] N Q := fun o6 o7 e => ih _ _ _ _ (by omega) (by omega) (by omega) (hle.skip e) hlr
      have hD : ∀ o6 o7 : Option Value, (le = -4 ∨ L.getD j.toNat 0 < le) → oCd g K S' nt' (L.getD j.toNat 0) → fp_S l G 2 kX4_findFirst 22 [some (rV G 133), some (rV G 18), some (rV G 32), some (iV s), some (iV (L.getD j.toNat 0)), some (iV (j + 1)), o6, o7] [] N Q := fun o6 o7 e1 e2 => ih _ _ _ _ (by omega) (by omega) (by omega) (hle.take e1 e2 h4) (Or.inr (by omega))
      have h59 : ∀ z : Int, ((z = 1 ∧ (le = -4 ∨ L.getD j.toNat 0 < le)) ∨ (z = 0 ∧ ¬ (le = -4 ∨ L.getD j.toNat 0 < le))) → fp_S l G 2 kX4_findFirst 59 [some (rV G 133), some (rV G 18), some (rV G 32), some (iV s), some (iV le), some (iV j), some (iV (L.getD j.toNat 0)), o7] [iV z] N Q := by
        intro z hz
        refine S.istore (pc' := 61) (LL' := [_, _, _, _, _, _, _, _]) dX4_findFirst_59 rfl (by decide) rfl rfl ?_
        refine S.iload (pc' := 63) dX4_findFirst_61 rfl rfl ?_
        refine S.if_eq (pc' := 66) (tgt := 91) dX4_findFirst_63 (by decide) rfl (by unfold fp_rng; omega) (fun h63 => ?_) (fun h63 => ?_)
        · refine S.iinc (pc' := 94) (LL' := [_, _, _, _, _, _, _, _]) dX4_findFirst_91 rfl (by decide) rfl rfl rfl ?_
          refine S.goto (pc' := 22) dX4_findFirst_94 (by decide) ?_
          first
          | exact hD _ _ (hz.resolve_right (fun e => by omega)).2 ⟨(hmem _).mpr ⟨m4, (b69.resolve_left (fun e => by omega)).2⟩, (b81.resolve_right (fun e => by omega)).2⟩
          | exact hA _ _ (fun e => absurd e.2 (b81.resolve_left (fun e => by omega)).2)
          | exact hA _ _ (fun e => absurd (b69.resolve_right (fun e => by omega)).2 ((hmem _).mp e.1).2)
          | exact hA _ _ (fun _ => by have h9 := (hz.resolve_left (fun e => by omega)).2; omega)
        · refine S.aload_n (pc' := 67) dX4_findFirst_66 rfl rfl rfl ?_
          refine S.iload (pc' := 69) dX4_findFirst_67 rfl rfl ?_
          refine S.callVi (pc' := 72) dX4_findFirst_69 rfl cX4_78 (xk_X4_isPlaced hp hM (by omega)) rfl L_133 (by decide) rfl (Nat.le_of_ble_eq_true rfl) (fun z69 M69 q69 => ?_)
          obtain ⟨b69, rfl⟩ := q69
          refine S.if_ne (pc' := 75) (tgt := 91) dX4_findFirst_72 (by decide) rfl (by unfold fp_rng; omega) (fun h72 => ?_) (fun h72 => ?_)
          · refine S.iinc (pc' := 94) (LL' := [_, _, _, _, _, _, _, _]) dX4_findFirst_91 rfl (by decide) rfl rfl rfl ?_
            refine S.goto (pc' := 22) dX4_findFirst_94 (by decide) ?_
            first
            | exact hD _ _ (hz.resolve_right (fun e => by omega)).2 ⟨(hmem _).mpr ⟨m4, (b69.resolve_left (fun e => by omega)).2⟩, (b81.resolve_right (fun e => by omega)).2⟩
            | exact hA _ _ (fun e => absurd e.2 (b81.resolve_left (fun e => by omega)).2)
            | exact hA _ _ (fun e => absurd (b69.resolve_right (fun e => by omega)).2 ((hmem _).mp e.1).2)
            | exact hA _ _ (fun _ => by have h9 := (hz.resolve_left (fun e => by omega)).2; omega)
          · refine S.aload_n (pc' := 76) dX4_findFirst_75 rfl rfl rfl ?_
            refine S.aload_n (pc' := 77) dX4_findFirst_76 rfl rfl rfl ?_
            refine S.aload_n (pc' := 78) dX4_findFirst_77 rfl rfl rfl ?_
            refine S.iload (pc' := 80) dX4_findFirst_78 rfl rfl ?_
            refine S.iload_n (pc' := 81) dX4_findFirst_80 rfl rfl rfl ?_
            refine S.callVi (pc' := 84) dX4_findFirst_81 rfl cX4_81 (xk_X4_mayStand h hst hp hM ((hmem _).mpr ⟨m4, (b69.resolve_left (fun e => by omega)).2⟩) ⟨m2, m3⟩ hs hs8) rfl L_133 (by decide) rfl (Nat.le_of_ble_eq_true rfl) (fun z81 M81 q81 => ?_)
            obtain ⟨b81, rfl⟩ := q81
            refine S.if_eq (pc' := 87) (tgt := 91) dX4_findFirst_84 (by decide) rfl (by unfold fp_rng; omega) (fun h84 => ?_) (fun h84 => ?_)
            · refine S.iinc (pc' := 94) (LL' := [_, _, _, _, _, _, _, _]) dX4_findFirst_91 rfl (by decide) rfl rfl rfl ?_
              refine S.goto (pc' := 22) dX4_findFirst_94 (by decide) ?_
              first
              | exact hD _ _ (hz.resolve_right (fun e => by omega)).2 ⟨(hmem _).mpr ⟨m4, (b69.resolve_left (fun e => by omega)).2⟩, (b81.resolve_right (fun e => by omega)).2⟩
              | exact hA _ _ (fun e => absurd e.2 (b81.resolve_left (fun e => by omega)).2)
              | exact hA _ _ (fun e => absurd (b69.resolve_right (fun e => by omega)).2 ((hmem _).mp e.1).2)
              | exact hA _ _ (fun _ => by have h9 := (hz.resolve_left (fun e => by omega)).2; omega)
            · refine S.iload (pc' := 89) dX4_findFirst_87 rfl rfl ?_
              refine S.istore (pc' := 91) (LL' := [_, _, _, _, _, _, _, _]) dX4_findFirst_89 rfl (by decide) rfl rfl ?_
              refine S.iinc (pc' := 94) (LL' := [_, _, _, _, _, _, _, _]) dX4_findFirst_91 rfl (by decide) rfl rfl rfl ?_
              refine S.goto (pc' := 22) dX4_findFirst_94 (by decide) ?_
              first
              | exact hD _ _ (hz.resolve_right (fun e => by omega)).2 ⟨(hmem _).mpr ⟨m4, (b69.resolve_left (fun e => by omega)).2⟩, (b81.resolve_right (fun e => by omega)).2⟩
              | exact hA _ _ (fun e => absurd e.2 (b81.resolve_left (fun e => by omega)).2)
              | exact hA _ _ (fun e => absurd (b69.resolve_right (fun e => by omega)).2 ((hmem _).mp e.1).2)
              | exact hA _ _ (fun _ => by have h9 := (hz.resolve_left (fun e => by omega)).2; omega)
      refine S.iload (pc' := 24) dX4_findFirst_22 rfl rfl ?_
      refine S.aload_n (pc' := 25) dX4_findFirst_24 rfl rfl rfl ?_
      refine S.getI (pc' := 28) dX4_findFirst_25 rfl fX4_31 L_133 ?_
      refine S.icmp_ge (pc' := 31) (tgt := 97) dX4_findFirst_28 (by decide) rfl (by unfold fp_rng; omega) (by unfold fp_rng; omega) (fun h28 => ?_) (fun h28 => ?_)
      · exfalso; omega
      · refine S.aload_n (pc' := 32) dX4_findFirst_31 rfl rfl rfl ?_
        refine S.getR (pc' := 35) dX4_findFirst_32 rfl fX4_9 L_133 rf_133_2 ?_
        refine S.iload (pc' := 37) dX4_findFirst_35 rfl rfl ?_
        refine S.iald (pc' := 38) dX4_findFirst_37 rfl L_134 (by omega) (by omega) ?_
        rw [m1]
        refine S.istore (pc' := 40) (LL' := [_, _, _, _, _, _, _, _]) dX4_findFirst_38 rfl (by decide) rfl rfl ?_
        refine S.iload (pc' := 42) dX4_findFirst_40 rfl rfl ?_
        refine S.bipush (pc' := 44) dX4_findFirst_42 rfl (by decide) ?_
        refine S.icmp_eq (pc' := 47) (tgt := 54) dX4_findFirst_44 (by decide) rfl (by unfold fp_rng; omega) (by unfold fp_rng; omega) (fun h44 => ?_) (fun h44 => ?_)
        · refine S.iconst (pc' := 55) dX4_findFirst_54 rfl ?_
          refine S.goto (pc' := 59) dX4_findFirst_55 (by decide) ?_
          first
          | exact h59 _ (Or.inl ⟨rfl, by omega⟩)
          | exact h59 _ (Or.inr ⟨rfl, by omega⟩)
        · refine S.iload (pc' := 49) dX4_findFirst_47 rfl rfl ?_
          refine S.iload (pc' := 51) dX4_findFirst_49 rfl rfl ?_
          refine S.icmp_ge (pc' := 54) (tgt := 58) dX4_findFirst_51 (by decide) rfl (by unfold fp_rng; omega) (by unfold fp_rng; omega) (fun h51 => ?_) (fun h51 => ?_)
          · refine S.iconst (pc' := 59) dX4_findFirst_58 rfl ?_
            first
            | exact h59 _ (Or.inl ⟨rfl, by omega⟩)
            | exact h59 _ (Or.inr ⟨rfl, by omega⟩)
          · refine S.iconst (pc' := 55) dX4_findFirst_54 rfl ?_
            refine S.goto (pc' := 59) dX4_findFirst_55 (by decide) ?_
            first
            | exact h59 _ (Or.inl ⟨rfl, by omega⟩)
            | exact h59 _ (Or.inr ⟨rfl, by omega⟩)
    · have ej : j = L.length := by omega
      subst ej
      refine S.iload (pc' := 24) dX4_findFirst_22 rfl rfl ?_
      refine S.aload_n (pc' := 25) dX4_findFirst_24 rfl rfl rfl ?_
      refine S.getI (pc' := 28) dX4_findFirst_25 rfl fX4_31 L_133 ?_
      refine S.icmp_ge (pc' := 31) (tgt := 97) dX4_findFirst_28 (by decide) rfl (by unfold fp_rng; omega) (by unfold fp_rng; omega) (fun h28 => ?_) (fun h28 => ?_)
      · exact KK _ _ _ _ hle
      · exfalso; omega
def oFo (M : fp_Mem) (g : aGd) (K : Int) (L nt : List Int) (N : fp_Mem) : Prop := (∀ a, a ≠ 133 → a ≠ 135 → N a = M a) ∧ ∃ q, oG K (oW g K) L nt q ∧ q.length = L.length ∧ ∀ i : Int, 0 ≤ i → i < L.length → N 135 i.toNat = q.getD i.toNat 0
theorem xk_X4_findFirst (h : oPx M g nt K L) (hc : oCan (oW g K) L nt) : fp_Ok l G 2 kX4_findFirst [rV G 133, rV G 18, rV G 32] M (qV fun N => oFo M g K L nt N) := by
  have h2 := h.2.2.1
  have h7 := h.l7
  have hin := h.2.2.2.2.2
  have hg1 := h.g1
  have hL : ∀ (r : Nat) (s : Int) (q S' nt' : List Int) (N : fp_Mem) (o4 o5 o6 o7 : Option Value), (8 - s).toNat < r → s = q.length → s ≤ L.length → oSt g K L nt q S' nt' → oPb (N 133 3) q → (∀ i : Int, 0 ≤ i → i < s → N 135 i.toNat = q.getD i.toNat 0) → N 133 0 = M 133 0 → N 133 1 = M 133 1 → (∀ a, a ≠ 133 → a ≠ 135 → N a = M a) → fp_S l G 2 kX4_findFirst 7 [some (rV G 133), some (rV G 18), some (rV G 32), some (iV s), o4, o5, o6, o7] [] N (qV fun N => oFo M g K L nt N) := by
    intro r
    induction r with
    | zero => intro s q S' nt' N o4 o5 o6 o7 hr; omega
    | succ r ih =>
      intro s q S' nt' N o4 o5 o6 o7 hr hs s1 hst hp hrow e0 e1 hf
      have hN := h.kept e0 e1 hf
      by_cases hlt : s < L.length
      · have hmem := hst.2.2.1
        have h97 : ∀ (le j : Int) (o6 o7 : Option Value), oLe g K L S' nt' le L.length → fp_S l G 2 kX4_findFirst 97 [some (rV G 133), some (rV G 18), some (rV G 32), some (iV s), some (iV le), some (iV j), o6, o7] [] N (qV fun N => oFo M g K L nt N) := by
          intro le j o6 o7 hle
          obtain ⟨a, ha1, ha2⟩ := hst.has (by omega)
          have hcand : oCd g K S' nt' le ∧ ∀ y : Int, 0 ≤ y → y < L.length → y < L.length → oCd g K S' nt' (L.getD y.toNat 0) → le ≤ L.getD y.toNat 0 := by
            rcases hle with ⟨q1, q2⟩ | q1
            · exfalso
              obtain ⟨y, hy, e⟩ := o_memD.mp ((hmem a).mp ha1).1
              exact q2 y hy.1 hy.2 hy.2 (by rw [e]; exact ⟨ha1, ha2⟩)
            · exact q1
          have hstep := hst.step h.nd hcand.1.1 hcand.1.2 (fun b hb hbm => by
            obtain ⟨y, hy, e⟩ := o_memD.mp ((hmem b).mp hb).1
            have h9 := hcand.2 y hy.1 hy.2 hy.2 (by rw [e]; exact ⟨hb, hbm⟩)
            rw [e] at h9
            exact h9)
          have hle9 := hin.2.1 le ((hmem le).mp hcand.1.1).1
          have hpa := hp.add (a := le) (by omega)
          have hp9 := o_pow9 (a := le) (by omega)
          have hp0 := hp.1
          have h125 : ∀ (o6 o7 : Option Value), fp_S l G 2 kX4_findFirst 125 [some (rV G 133), some (rV G 18), some (rV G 32), some (iV s), some (iV le), some (iV j), o6, o7] [] (fp_up (fp_up N 135 s.toNat le) 133 3 (fp_or (N 133 3) (2 ^ le.toNat))) (qV fun N => oFo M g K L nt N) := by
            intro o6 o7
            refine S.iinc (pc' := 128) (LL' := [_, _, _, _, _, _, _, _]) dX4_findFirst_125 rfl (by decide) rfl rfl rfl ?_
            refine S.goto (pc' := 7) dX4_findFirst_128 (by decide) ?_
            refine ih _ (q ++ [le]) _ _ _ _ _ _ _ (by omega) (by rw [List.length_append, List.length_singleton]; omega) (by omega) hstep (by rw [fp_up_at, fp_upf_at]; exact hpa) (fun i i0 i1 => ?_) (by rw [fp_up_at, fp_upf_ne (by decide), fp_up_ne (by decide)]; exact e0) (by rw [fp_up_at, fp_upf_ne (by decide), fp_up_ne (by decide)]; exact e1) (fun a a1 a2 => by rw [fp_up_ne a1, fp_up_ne a2]; exact hf a a1 a2)
            rw [fp_up_ne (by decide), fp_up_at, fp_appD]
            by_cases e : i = s
            · rw [e, fp_upf_at, if_neg (by omega), if_pos (by omega)]
            · rw [fp_upf_ne (by omega), if_pos (by omega)]; exact hrow i i0 (by omega)
          refine S.aload_n (pc' := 98) dX4_findFirst_97 rfl rfl rfl ?_
          refine S.getR (pc' := 101) dX4_findFirst_98 rfl fX4_15 L_133 rf_133_4 ?_
          refine S.iload_n (pc' := 102) dX4_findFirst_101 rfl rfl rfl ?_
          refine S.iload (pc' := 104) dX4_findFirst_102 rfl rfl ?_
          refine S.iast (pc' := 105) dX4_findFirst_104 rfl L_135 (by omega) (by omega) ?_
          refine S.iload (pc' := 107) dX4_findFirst_105 rfl rfl ?_
          refine S.bipush (pc' := 109) dX4_findFirst_107 rfl (by decide) ?_
          refine S.icmp_eq (pc' := 112) (tgt := 125) dX4_findFirst_109 (by decide) rfl (by unfold fp_rng; omega) (by unfold fp_rng; omega) (fun h109 => ?_) (fun h109 => ?_)
          · first
            | (exfalso; omega)
            | exact h125 _ _
          · refine S.aload_n (pc' := 113) dX4_findFirst_112 rfl rfl rfl ?_
            refine S.dup (pc' := 114) dX4_findFirst_113 rfl rfl ?_
            refine S.getI (pc' := 117) dX4_findFirst_114 rfl fX4_75 L_133 ?_
            rw [fp_up_ne (show (133 : Nat) ≠ 135 by decide)]
            refine S.iconst (pc' := 118) dX4_findFirst_117 rfl ?_
            refine S.iload (pc' := 120) dX4_findFirst_118 rfl rfl ?_
            refine S.ishl (pc' := 121) dX4_findFirst_120 rfl (fp_shl1 (by omega) (by omega)) ?_
            refine S.ior (pc' := 122) dX4_findFirst_121 rfl (fp_ior hp0.1 (by omega)) ?_
            refine S.putI (pc' := 125) dX4_findFirst_122 rfl fX4_75 L_133 ?_
            first
            | (exfalso; omega)
            | exact h125 _ _
        refine S.iload_n (pc' := 8) dX4_findFirst_7 rfl rfl rfl ?_
        refine S.aload_n (pc' := 9) dX4_findFirst_8 rfl rfl rfl ?_
        refine S.getI (pc' := 12) dX4_findFirst_9 rfl fX4_31 L_133 ?_
        refine S.icmp_ge (pc' := 15) (tgt := 131) dX4_findFirst_12 (by decide) rfl (by unfold fp_rng; omega) (by unfold fp_rng; omega) (fun h12 => ?_) (fun h12 => ?_)
        · exfalso; omega
        · refine S.bipush (pc' := 17) dX4_findFirst_15 rfl (by decide) ?_
          refine S.istore (pc' := 19) (LL' := [_, _, _, _, _, _, _, _]) dX4_findFirst_17 rfl (by decide) rfl rfl ?_
          refine S.iconst (pc' := 20) dX4_findFirst_19 rfl ?_
          refine S.istore (pc' := 22) (LL' := [_, _, _, _, _, _, _, _]) dX4_findFirst_20 rfl (by decide) rfl rfl ?_
          exact xf_in hN hst hp rfl hs (by omega) h97 9 _ 0 _ _ (by omega) (by omega) (by omega) (Or.inl ⟨rfl, fun y y0 y1 => by omega⟩) (Or.inl rfl)
      · refine S.iload_n (pc' := 8) dX4_findFirst_7 rfl rfl rfl ?_
        refine S.aload_n (pc' := 9) dX4_findFirst_8 rfl rfl rfl ?_
        refine S.getI (pc' := 12) dX4_findFirst_9 rfl fX4_31 L_133 ?_
        refine S.icmp_ge (pc' := 15) (tgt := 131) dX4_findFirst_12 (by decide) rfl (by unfold fp_rng; omega) (by unfold fp_rng; omega) (fun h12 => ?_) (fun h12 => ?_)
        · refine S.vret dX4_findFirst_131 rfl ?_
          exact ⟨hf, q, hst.fin (by omega), by omega, fun i i0 i1 => hrow i i0 (by omega)⟩
        · exfalso; omega
  refine fp_Ok.of (r := 5) rfl (Nat.le_of_ble_eq_true rfl) rfl ?_
  refine S.aload_n (pc' := 1) dX4_findFirst_0 rfl rfl rfl ?_
  refine S.iconst (pc' := 2) dX4_findFirst_1 rfl ?_
  refine S.putI (pc' := 5) dX4_findFirst_2 rfl fX4_75 L_133 ?_
  refine S.iconst (pc' := 6) dX4_findFirst_5 rfl ?_
  refine S.istore_n (pc' := 7) (LL' := [_, _, _, _, _, _, _, _]) dX4_findFirst_6 rfl (by decide) rfl rfl rfl ?_
  exact hL 9 0 [] L nt _ _ _ _ _ (by omega) rfl (by omega) (oSt.start hin.1 hc) (by rw [fp_up_at, fp_upf_at]; exact oPb_0) (fun i i0 i1 => by omega) (by rw [fp_up_at, fp_upf_ne (by decide)]) (by rw [fp_up_at, fp_upf_ne (by decide)]) (fun a a1 _ => fp_up_ne a1)
theorem xk_X4_prepare {x : Int} (hx : 0 ≤ x ∧ x < g.2.1) (hc : clIs M 22 g pg) (hd : gdIs M 18 g) (hP : pgOk g pg) (hn : ntIs M 32 nt) (hno : ntOk g nt) (hg : gOk g) (h7 : (pg.2.2 x).length ≤ 7) : fp_Ok l G 1 kX4_prepare [rV G 133, rV G 18, rV G 22, iV x] M (qV fun N => oPx N g nt (g.2.2.2.2.2 x) (pg.2.2 x) ∧ ∀ a, a ≠ 133 → a ≠ 134 → N a = M a) := by
  have hg2 := hg.2.1
  have hg1 := hg.1
  have hx3 : 0 ≤ x ∧ x < 3 := by omega
  have hgd := hd.2.2.2.2.2.2.2.2
  have hpl := hc.2.2.2.2
  have hk := hgd.2.2.2.2.2 x hx3.1 hx3.2
  have hkx : M (18 + 3) x.toNat = g.2.2.2.2.2 x := hd.2.2.2.2.2.2.2.1 x hx.1 hx.2
  obtain ⟨c1, c2, c3⟩ := hc.line hP hx hg
  have c1' : M 25 x.toNat = (pg.2.2 x).length := c1
  obtain ⟨l1, l2, l3, l4⟩ := hP.2.1 x hx.1 hx3.2
  refine fp_Ok.of (r := 0) rfl (Nat.le_of_ble_eq_true rfl) rfl ?_
  refine S.aload_n (pc' := 1) dX4_prepare_0 rfl rfl rfl ?_
  refine S.aload_n (pc' := 2) dX4_prepare_1 rfl rfl rfl ?_
  refine S.getR (pc' := 5) dX4_prepare_2 rfl fX4_18 (gd_lay gd18) (gd_r5 gd18) ?_
  refine S.iload_n (pc' := 6) dX4_prepare_5 rfl rfl rfl ?_
  refine S.iald (pc' := 7) dX4_prepare_6 rfl (gd_a5 gd18) (by omega) (by omega) ?_
  refine S.putI (pc' := 10) dX4_prepare_7 rfl fX4_23 L_133 ?_
  refine S.aload_n (pc' := 11) dX4_prepare_10 rfl rfl rfl ?_
  refine S.aload_n (pc' := 12) dX4_prepare_11 rfl rfl rfl ?_
  refine S.getR (pc' := 15) dX4_prepare_12 rfl fX4_26 (pl_lay pl22) (pl_r2 pl22) ?_
  refine S.iload_n (pc' := 16) dX4_prepare_15 rfl rfl rfl ?_
  refine S.iald (pc' := 17) dX4_prepare_16 rfl (pl_a2 pl22) (by omega) (by omega) ?_
  rw [fp_up_ne (by decide)]
  refine S.putI (pc' := 20) dX4_prepare_17 rfl fX4_31 L_133 ?_
  refine S.aload_n (pc' := 21) dX4_prepare_20 rfl rfl rfl ?_
  refine S.getR (pc' := 24) dX4_prepare_21 rfl fX4_33 (pl_lay pl22) (pl_r3 pl22) ?_
  refine S.iload_n (pc' := 25) dX4_prepare_24 rfl rfl rfl ?_
  refine S.bipush (pc' := 27) dX4_prepare_25 rfl (by decide) ?_
  refine S.imul (pc' := 28) dX4_prepare_27 rfl ?_
  refine S.aload_n (pc' := 29) dX4_prepare_28 rfl rfl rfl ?_
  refine S.getR (pc' := 32) dX4_prepare_29 rfl fX4_9 L_133 rf_133_2 ?_
  refine S.iconst (pc' := 33) dX4_prepare_32 rfl ?_
  refine S.bipush (pc' := 35) dX4_prepare_33 rfl (by decide) ?_
  refine S.copyi (pc' := 38) dX4_prepare_35 rfl aX4_36 (pl_a3 pl22) L_134 (by decide) (by decide) (by omega) (by omega) (by omega) (by omega) (by omega) (by decide) (Nat.le_of_ble_eq_true rfl) ?_
  generalize hN1 : fp_upM _ 134 _ = N1
  have n1 : ∀ a, a ≠ 133 → a ≠ 134 → N1 a = M a := fun a a1 a2 => by rw [← hN1, fp_upM_ne a2, fp_up_ne a1, fp_up_ne a1]
  have k0 : N1 133 0 = M (18 + 3) x.toNat := by rw [← hN1, fp_upM_ne (by decide), fp_up_at, fp_upf_ne (by decide), fp_up_at, fp_upf_at]
  have k1 : N1 133 1 = M 25 x.toNat := by rw [← hN1, fp_upM_ne (by decide), fp_up_at, fp_upf_at]
  have r0 : ∀ i : Int, 0 ≤ i → i < 8 → N1 134 i.toNat = M (22 + 4) (x * 8 + i).toNat := fun i i0 i1 => by
    rw [← hN1, fp_upM_at]
    simp only [va_cpy]
    rw [if_pos (by omega), fp_up_ne (by decide), fp_up_ne (by decide), show (x * 8).toNat + (i.toNat - (0 : Int).toNat) = (x * 8 + i).toNat by omega]
  have r1 : ∀ i : Int, 0 ≤ i → i < 8 → 0 ≤ N1 134 i.toNat ∧ N1 134 i.toNat ≤ 9 := fun i i0 i1 => by
    rw [r0 i i0 i1]
    exact hpl.2.2 (x * 8 + i) (by omega) (by omega)
  refine S.vret dX4_prepare_38 rfl ?_
  refine ⟨⟨⟨by rw [k0]; exact hk, by rw [k1]; omega, r1, ?_, hn.kept (fun a a1 a2 => n1 a (by omega) (by omega)), hno, hg⟩, by rw [k0]; exact hkx, by rw [k1]; exact c1', fun i i0 i1 => by rw [r0 i i0 (by omega)]; exact (c2 i i0 i1).1, hd.kept (fun a a1 a2 => n1 a (by omega) (by omega)), l2, fun t ht => ⟨(l4 t ht).1, (l4 t ht).2.1⟩, hg1.2⟩, n1⟩
  unfold gd_ok at hgd ⊢
  rw [n1 18 (by decide) (by decide), n1 (18 + 1) (by decide) (by decide), n1 (18 + 2) (by decide) (by decide), n1 (18 + 3) (by decide) (by decide)]
  exact hgd
theorem cc_orders {x w : Int} (hc : CS M tp fl g pg vs nt im sh tn) (ho : OK g pg vs nt im sh) (hx : fp_rng x) (hw : fp_rng w) : fp_Ok l G 4 kX11_orders [rV G 0, iV x, iV w] M (qI fun z N => z = A_orders g pg nt x w ∧ CS N tp fl g pg vs nt im sh tn ∧ frC M N) := by
  have hcs := hc
  obtain ⟨-, hd, hcl, hv, hn, -⟩ := hc
  obtain ⟨hg, hP, hvo, hno, -⟩ := ho
  have hg1 := hg.1
  have hg2 := hg.2.1
  have hgd := hd.2.2.2.2.2.2.2.2
  have hpl := hcl.2.2.2.2
  have hw' := hw
  unfold fp_rng at hw'
  refine fp_Ok.of (r := 1) rfl (Nat.le_of_ble_eq_true rfl) rfl ?_
  have h39 : ∀ z3 : Int, (z3 = 0 ∨ z3 = 1) → (z3 = 1 → 10 ≤ w ∧ w < 18) → (z3 = 0 → w = 0) → (0 ≤ x ∧ x < g.2.1) → fp_S l G 4 kX11_orders 39 [some (rV G 0), some (iV x), some (iV w), some (iV z3)] [] M (qI fun z N => z = A_orders g pg nt x w ∧ CS N tp fl g pg vs nt im sh tn ∧ frC M N) := by
    intro z3 hz hz1 hz0 hxx
    have hlen : M (22 + 3) x.toNat = (pg.2.2 x).length := (hcl.line hP hxx hg).1
    have hs : 0 ≤ M (22 + 3) x.toNat ∧ M (22 + 3) x.toNat ≤ 8 := hpl.2.1 x hxx.1 (by omega)
    have eA : A_orders g pg nt x w = if 7 < ((pg.2.2 x).length : Int) then -2 else if w = 0 then oCt g (g.2.2.2.2.2 x) (pg.2.2 x) nt else oAt g (g.2.2.2.2.2 x) (pg.2.2 x) nt (w - 10) := by
      unfold A_orders
      rw [if_pos ⟨hxx, by omega⟩]
    by_cases h7 : M (22 + 3) x.toNat ≤ 7
    · rw [if_neg (by omega)] at eA
      refine S.aload_n (pc' := 40) dX11_orders_39 rfl rfl rfl ?_
      refine S.getR (pc' := 43) dX11_orders_40 rfl fX11_30 L_0 rf_0_4 ?_
      refine S.getR (pc' := 46) dX11_orders_43 rfl fX11_151 (pl_lay pl22) (pl_r2 pl22) ?_
      refine S.iload_n (pc' := 47) dX11_orders_46 rfl rfl rfl ?_
      refine S.iald (pc' := 48) dX11_orders_47 rfl (pl_a2 pl22) (by omega) (by omega) ?_
      refine S.bipush (pc' := 50) dX11_orders_48 rfl (by decide) ?_
      refine S.icmp_le (pc' := 53) (tgt := 56) dX11_orders_50 (by decide) rfl (by unfold fp_rng; omega) (by unfold fp_rng; omega) (fun h50 => ?_) (fun h50 => ?_)
      · refine S.aload_n (pc' := 57) dX11_orders_56 rfl rfl rfl ?_
        refine S.getR (pc' := 60) dX11_orders_57 rfl fX11_65 L_0 rf_0_9 ?_
        refine S.aload_n (pc' := 61) dX11_orders_60 rfl rfl rfl ?_
        refine S.getR (pc' := 64) dX11_orders_61 rfl fX11_23 L_0 rf_0_3 ?_
        refine S.aload_n (pc' := 65) dX11_orders_64 rfl rfl rfl ?_
        refine S.getR (pc' := 68) dX11_orders_65 rfl fX11_30 L_0 rf_0_4 ?_
        refine S.iload_n (pc' := 69) dX11_orders_68 rfl rfl rfl ?_
        refine S.callVv (pc' := 72) dX11_orders_69 rfl cX11_285 (xk_X4_prepare hxx hcl hd hP hn hno hg (by omega)) rfl L_133 (by decide) rfl (Nat.le_of_ble_eq_true rfl) (fun M69 q69 => ?_)
        obtain ⟨p1, f1⟩ := q69
        have fz : frZ M M69 := fun a ha => f1 a (by omega) (by omega)
        have hci := oCan_iff (W := oW g (g.2.2.2.2.2 x)) p1.2.2.2.2.2.1 p1.nd
        refine S.iload_n (pc' := 73) dX11_orders_72 rfl rfl rfl ?_
        refine S.if_ne (pc' := 76) (tgt := 92) dX11_orders_73 (by decide) rfl (by unfold fp_rng; omega) (fun h73 => ?_) (fun h73 => ?_)
        · refine S.aload_n (pc' := 93) dX11_orders_92 rfl rfl rfl ?_
          refine S.getR (pc' := 96) dX11_orders_93 rfl fX11_65 L_0 rf_0_9 ?_
          refine S.aload_n (pc' := 97) dX11_orders_96 rfl rfl rfl ?_
          refine S.getR (pc' := 100) dX11_orders_97 rfl fX11_23 L_0 rf_0_3 ?_
          refine S.aload_n (pc' := 101) dX11_orders_100 rfl rfl rfl ?_
          refine S.getR (pc' := 104) dX11_orders_101 rfl fX11_44 L_0 rf_0_6 ?_
          refine S.callVi (pc' := 107) dX11_orders_104 rfl cX11_292 (xk_X4_canFit p1) rfl L_133 (by decide) rfl (Nat.le_of_ble_eq_true rfl) (fun z104 M104 q104 => ?_)
          obtain ⟨z4, rfl⟩ := q104
          refine S.if_eq (pc' := 110) (tgt := 126) dX11_orders_107 (by decide) rfl (by unfold fp_rng; omega) (fun h107 => ?_) (fun h107 => ?_)
          · refine S.bipush (pc' := 128) dX11_orders_126 rfl (by decide) ?_
            refine S.iret dX11_orders_128 rfl ?_
            refine ⟨?_, hcs.scz fz, fz.c⟩
            rw [eA, if_neg (by omega)]
            first
            | exact (p1.2.2.2.2.2.none_at (fun e => (z4.resolve_left (fun e => by omega)).2 (hci.mp e)) _).symm
            | (have hcan := (z4.resolve_right (fun e => by omega)).2; unfold oAt; split; rfl; rw [if_neg (by omega)])
          · refine S.iload_n (pc' := 111) dX11_orders_110 rfl rfl rfl ?_
            refine S.bipush (pc' := 113) dX11_orders_111 rfl (by decide) ?_
            refine S.isub (pc' := 114) dX11_orders_113 rfl ?_
            refine S.aload_n (pc' := 115) dX11_orders_114 rfl rfl rfl ?_
            refine S.getR (pc' := 118) dX11_orders_115 rfl fX11_30 L_0 rf_0_4 ?_
            refine S.getR (pc' := 121) dX11_orders_118 rfl fX11_151 (pl_lay pl22) (pl_r2 pl22) ?_
            refine S.iload_n (pc' := 122) dX11_orders_121 rfl rfl rfl ?_
            refine S.iald (pc' := 123) dX11_orders_122 rfl (pl_a2 pl22) (by omega) (by omega) ?_
            rw [f1 (22 + 3) (by decide) (by decide)]
            refine S.icmp_lt (pc' := 126) (tgt := 129) dX11_orders_123 (by decide) rfl (by unfold fp_rng; omega) (by unfold fp_rng; omega) (fun h123 => ?_) (fun h123 => ?_)
            · refine S.aload_n (pc' := 130) dX11_orders_129 rfl rfl rfl ?_
              refine S.getR (pc' := 133) dX11_orders_130 rfl fX11_65 L_0 rf_0_9 ?_
              refine S.aload_n (pc' := 134) dX11_orders_133 rfl rfl rfl ?_
              refine S.getR (pc' := 137) dX11_orders_134 rfl fX11_23 L_0 rf_0_3 ?_
              refine S.aload_n (pc' := 138) dX11_orders_137 rfl rfl rfl ?_
              refine S.getR (pc' := 141) dX11_orders_138 rfl fX11_44 L_0 rf_0_6 ?_
              refine S.callVv (pc' := 144) dX11_orders_141 rfl cX11_296 (xk_X4_findFirst p1 (hci.mpr (z4.resolve_right (fun e => by omega)).2)) rfl L_133 (by decide) rfl (Nat.le_of_ble_eq_true rfl) (fun M141 q141 => ?_)
              refine S.aload_n (pc' := 145) dX11_orders_144 rfl rfl rfl ?_
              refine S.getR (pc' := 148) dX11_orders_145 rfl fX11_65 L_0 rf_0_9 ?_
              refine S.getR (pc' := 151) dX11_orders_148 rfl fX11_300 L_133 rf_133_4 ?_
              refine S.iload_n (pc' := 152) dX11_orders_151 rfl rfl rfl ?_
              refine S.bipush (pc' := 154) dX11_orders_152 rfl (by decide) ?_
              refine S.isub (pc' := 155) dX11_orders_154 rfl ?_
              refine S.iald (pc' := 156) dX11_orders_155 rfl L_135 (by omega) (by omega) ?_
              refine S.iret dX11_orders_156 rfl ?_
              obtain ⟨f2, q, hq1, hq2, hq3⟩ := q141
              have fz2 : frZ M M141 := fz.trans (fun a ha => f2 a (by omega) (by omega))
              refine ⟨?_, hcs.scz fz2, fz2.c⟩
              rw [eA, if_neg (by omega), p1.2.2.2.2.2.first (hci.mpr (z4.resolve_right (fun e => by omega)).2) hq1, if_pos (by omega)]
              exact hq3 _ (by omega) (by omega)
            · refine S.bipush (pc' := 128) dX11_orders_126 rfl (by decide) ?_
              refine S.iret dX11_orders_128 rfl ?_
              refine ⟨?_, hcs.scz fz, fz.c⟩
              rw [eA, if_neg (by omega)]
              first
              | exact (p1.2.2.2.2.2.none_at (fun e => (z4.resolve_left (fun e => by omega)).2 (hci.mp e)) _).symm
              | (have hcan := (z4.resolve_right (fun e => by omega)).2; unfold oAt; split; rfl; rw [if_neg (by omega)])
        · refine S.aload_n (pc' := 77) dX11_orders_76 rfl rfl rfl ?_
          refine S.getR (pc' := 80) dX11_orders_77 rfl fX11_65 L_0 rf_0_9 ?_
          refine S.aload_n (pc' := 81) dX11_orders_80 rfl rfl rfl ?_
          refine S.getR (pc' := 84) dX11_orders_81 rfl fX11_23 L_0 rf_0_3 ?_
          refine S.aload_n (pc' := 85) dX11_orders_84 rfl rfl rfl ?_
          refine S.getR (pc' := 88) dX11_orders_85 rfl fX11_44 L_0 rf_0_6 ?_
          refine S.callVe (pc' := 91) dX11_orders_88 rfl cX11_288 (xk_X4_howMany p1) rfl L_133 (by decide) rfl (Nat.le_of_ble_eq_true rfl) ?_
          refine S.iret dX11_orders_91 rfl ?_
          exact ⟨by rw [eA, if_pos (by omega)], hcs.scz fz, fz.c⟩
      · exfalso; omega
    · rw [if_pos (by omega)] at eA
      refine S.aload_n (pc' := 40) dX11_orders_39 rfl rfl rfl ?_
      refine S.getR (pc' := 43) dX11_orders_40 rfl fX11_30 L_0 rf_0_4 ?_
      refine S.getR (pc' := 46) dX11_orders_43 rfl fX11_151 (pl_lay pl22) (pl_r2 pl22) ?_
      refine S.iload_n (pc' := 47) dX11_orders_46 rfl rfl rfl ?_
      refine S.iald (pc' := 48) dX11_orders_47 rfl (pl_a2 pl22) (by omega) (by omega) ?_
      refine S.bipush (pc' := 50) dX11_orders_48 rfl (by decide) ?_
      refine S.icmp_le (pc' := 53) (tgt := 56) dX11_orders_50 (by decide) rfl (by unfold fp_rng; omega) (by unfold fp_rng; omega) (fun h50 => ?_) (fun h50 => ?_)
      · exfalso; omega
      · refine S.bipush (pc' := 55) dX11_orders_53 rfl (by decide) ?_
        refine S.iret dX11_orders_55 rfl ?_
        exact ⟨eA.symm, hcs, frC.refl _⟩
  refine S.iload_n (pc' := 1) dX11_orders_0 rfl rfl rfl ?_
  refine S.bipush (pc' := 3) dX11_orders_1 rfl (by decide) ?_
  refine S.icmp_lt (pc' := 6) (tgt := 16) dX11_orders_3 (by decide) rfl hw (by unfold fp_rng; omega) (fun h3 => ?_) (fun h3 => ?_)
  · refine S.iconst (pc' := 17) dX11_orders_16 rfl ?_
    refine S.istore_n (pc' := 18) (LL' := [_, _, _, _]) dX11_orders_17 rfl (by decide) rfl rfl rfl ?_
    refine S.aload_n (pc' := 19) dX11_orders_18 rfl rfl rfl ?_
    refine S.getR (pc' := 22) dX11_orders_19 rfl fX11_23 L_0 rf_0_3 ?_
    refine S.iload_n (pc' := 23) dX11_orders_22 rfl rfl rfl ?_
    refine S.callVi (pc' := 26) dX11_orders_23 rfl cX11_148 (bk_X1_hasLine gd18) rfl (gd_lay gd18) (by decide) rfl (Nat.le_of_ble_eq_true rfl) (fun z23 M23 q23 => ?_)
    obtain ⟨b23, rfl⟩ := q23
    refine S.if_eq (pc' := 29) (tgt := 37) dX11_orders_26 (by decide) rfl (by unfold fp_rng; omega) (fun h26 => ?_) (fun h26 => ?_)
    · refine S.iconst (pc' := 38) dX11_orders_37 rfl ?_
      refine S.iret dX11_orders_38 rfl ?_
      refine ⟨?_, hcs, frC.refl _⟩
      unfold A_orders
      rw [if_neg (by omega)]
    · refine S.iload_n (pc' := 30) dX11_orders_29 rfl rfl rfl ?_
      refine S.if_eq (pc' := 33) (tgt := 39) dX11_orders_30 (by decide) rfl hw (fun h30 => ?_) (fun h30 => ?_)
      · exact h39 _ (by omega) (by omega) (by omega) (by omega)
      · refine S.iload_n (pc' := 34) dX11_orders_33 rfl rfl rfl ?_
        refine S.if_ne (pc' := 37) (tgt := 39) dX11_orders_34 (by decide) rfl (by unfold fp_rng; omega) (fun h34 => ?_) (fun h34 => ?_)
        · exact h39 _ (by omega) (by omega) (by omega) (by omega)
        · refine S.iconst (pc' := 38) dX11_orders_37 rfl ?_
          refine S.iret dX11_orders_38 rfl ?_
          refine ⟨?_, hcs, frC.refl _⟩
          unfold A_orders
          rw [if_neg (by omega)]
  · refine S.iload_n (pc' := 7) dX11_orders_6 rfl rfl rfl ?_
    refine S.bipush (pc' := 9) dX11_orders_7 rfl (by decide) ?_
    refine S.icmp_ge (pc' := 12) (tgt := 16) dX11_orders_9 (by decide) rfl hw (by unfold fp_rng; omega) (fun h9 => ?_) (fun h9 => ?_)
    · refine S.iconst (pc' := 17) dX11_orders_16 rfl ?_
      refine S.istore_n (pc' := 18) (LL' := [_, _, _, _]) dX11_orders_17 rfl (by decide) rfl rfl rfl ?_
      refine S.aload_n (pc' := 19) dX11_orders_18 rfl rfl rfl ?_
      refine S.getR (pc' := 22) dX11_orders_19 rfl fX11_23 L_0 rf_0_3 ?_
      refine S.iload_n (pc' := 23) dX11_orders_22 rfl rfl rfl ?_
      refine S.callVi (pc' := 26) dX11_orders_23 rfl cX11_148 (bk_X1_hasLine gd18) rfl (gd_lay gd18) (by decide) rfl (Nat.le_of_ble_eq_true rfl) (fun z23 M23 q23 => ?_)
      obtain ⟨b23, rfl⟩ := q23
      refine S.if_eq (pc' := 29) (tgt := 37) dX11_orders_26 (by decide) rfl (by unfold fp_rng; omega) (fun h26 => ?_) (fun h26 => ?_)
      · refine S.iconst (pc' := 38) dX11_orders_37 rfl ?_
        refine S.iret dX11_orders_38 rfl ?_
        refine ⟨?_, hcs, frC.refl _⟩
        unfold A_orders
        rw [if_neg (by omega)]
      · refine S.iload_n (pc' := 30) dX11_orders_29 rfl rfl rfl ?_
        refine S.if_eq (pc' := 33) (tgt := 39) dX11_orders_30 (by decide) rfl hw (fun h30 => ?_) (fun h30 => ?_)
        · exact h39 _ (by omega) (by omega) (by omega) (by omega)
        · refine S.iload_n (pc' := 34) dX11_orders_33 rfl rfl rfl ?_
          refine S.if_ne (pc' := 37) (tgt := 39) dX11_orders_34 (by decide) rfl (by unfold fp_rng; omega) (fun h34 => ?_) (fun h34 => ?_)
          · exact h39 _ (by omega) (by omega) (by omega) (by omega)
          · refine S.iconst (pc' := 38) dX11_orders_37 rfl ?_
            refine S.iret dX11_orders_38 rfl ?_
            refine ⟨?_, hcs, frC.refl _⟩
            unfold A_orders
            rw [if_neg (by omega)]
    · refine S.iconst (pc' := 13) dX11_orders_12 rfl ?_
      refine S.goto (pc' := 17) dX11_orders_13 (by decide) ?_
      refine S.istore_n (pc' := 18) (LL' := [_, _, _, _]) dX11_orders_17 rfl (by decide) rfl rfl rfl ?_
      refine S.aload_n (pc' := 19) dX11_orders_18 rfl rfl rfl ?_
      refine S.getR (pc' := 22) dX11_orders_19 rfl fX11_23 L_0 rf_0_3 ?_
      refine S.iload_n (pc' := 23) dX11_orders_22 rfl rfl rfl ?_
      refine S.callVi (pc' := 26) dX11_orders_23 rfl cX11_148 (bk_X1_hasLine gd18) rfl (gd_lay gd18) (by decide) rfl (Nat.le_of_ble_eq_true rfl) (fun z23 M23 q23 => ?_)
      obtain ⟨b23, rfl⟩ := q23
      refine S.if_eq (pc' := 29) (tgt := 37) dX11_orders_26 (by decide) rfl (by unfold fp_rng; omega) (fun h26 => ?_) (fun h26 => ?_)
      · refine S.iconst (pc' := 38) dX11_orders_37 rfl ?_
        refine S.iret dX11_orders_38 rfl ?_
        refine ⟨?_, hcs, frC.refl _⟩
        unfold A_orders
        rw [if_neg (by omega)]
      · refine S.iload_n (pc' := 30) dX11_orders_29 rfl rfl rfl ?_
        refine S.if_eq (pc' := 33) (tgt := 39) dX11_orders_30 (by decide) rfl hw (fun h30 => ?_) (fun h30 => ?_)
        · exact h39 _ (by omega) (by omega) (by omega) (by omega)
        · refine S.iload_n (pc' := 34) dX11_orders_33 rfl rfl rfl ?_
          refine S.if_ne (pc' := 37) (tgt := 39) dX11_orders_34 (by decide) rfl (by unfold fp_rng; omega) (fun h34 => ?_) (fun h34 => ?_)
          · exact h39 _ (by omega) (by omega) (by omega) (by omega)
          · refine S.iconst (pc' := 38) dX11_orders_37 rfl ?_
            refine S.iret dX11_orders_38 rfl ?_
            refine ⟨?_, hcs, frC.refl _⟩
            unfold A_orders
            rw [if_neg (by omega)]
end CXB
