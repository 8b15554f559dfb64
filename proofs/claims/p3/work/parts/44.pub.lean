/-! THE PUBLIC CALLS: slip of the reference, cut, end, forget, noted, fault, torn -/
theorem fp_takeD {α : Type} (L : List α) (n i : Nat) (d : α) (h : i < n) : (L.take n).getD i d = L.getD i d := by
  rw [List.getD_eq_getElem?_getD, List.getD_eq_getElem?_getD, List.getElem?_take_of_lt h]
theorem fp_appD {α : Type} (L : List α) (x d : α) (i : Nat) : (L ++ [x]).getD i d = if i < L.length then L.getD i d else if i = L.length then x else d := by
  rw [List.getD_eq_getElem?_getD, List.getD_eq_getElem?_getD]
  by_cases h : i < L.length
  · rw [if_pos h, List.getElem?_append_left h]
  · rw [if_neg h, List.getElem?_append_right (by omega)]
    by_cases h2 : i = L.length
    · rw [if_pos h2]; simp [h2]
    · rw [if_neg h2, List.getElem?_eq_none (by simp; omega)]; rfl
section PUE
variable {l : Launch} {G : fp_WG} {M N : fp_Mem} {tp tp' : List Int} {fl fl' : Int} {g : aGd} {pg : aPg} {vs vs' : List aVt} {nt nt' : List Int} {im : aIm} {sh : aSh} {tn tn' : Int}
theorem CS.vis (h : CS M tp fl g pg vs nt im sh tn) (e : ∀ a, (a < 27 ∨ 31 < a) → N a = M a) (hv : vsIs N 27 vs') : CS N tp fl g pg vs' nt im sh tn := by
  obtain ⟨h1, h2, h3, h4, h5, h6, h7⟩ := h
  exact ⟨h1.kept (e 0 (by omega)) (e 1 (by omega)) (by rw [e 2 (by omega)]), h2.kept (fun a q1 q2 => e a (by omega)), h3.kept (fun a q1 q2 => e a (by omega)), hv, h5.kept (fun a q1 q2 => e a (by omega)), h6.kept (fun a q1 q2 => e a (by omega)), h7.kept (fun a q1 q2 => e a (by omega))⟩
theorem CS.nts (h : CS M tp fl g pg vs nt im sh tn) (e : ∀ a, (a < 32 ∨ 33 < a) → N a = M a) (hv : ntIs N 32 nt') : CS N tp fl g pg vs nt' im sh tn := by
  obtain ⟨h1, h2, h3, h4, h5, h6, h7⟩ := h
  exact ⟨h1.kept (e 0 (by omega)) (e 1 (by omega)) (by rw [e 2 (by omega)]), h2.kept (fun a q1 q2 => e a (by omega)), h3.kept (fun a q1 q2 => e a (by omega)), h4.kept (fun a q1 q2 => e a (by omega)), hv, h6.kept (fun a q1 q2 => e a (by omega)), h7.kept (fun a q1 q2 => e a (by omega))⟩
theorem CS.tap (h : CS M tp fl g pg vs nt im sh tn) (e : ∀ a, 2 ≤ a → N a = M a) (hv : csA N tp' fl' tn') : CS N tp' fl' g pg vs nt im sh tn' := by
  obtain ⟨h1, h2, h3, h4, h5, h6, h7⟩ := h
  exact ⟨hv, h2.kept (fun a q1 q2 => e a (by omega)), h3.kept (fun a q1 q2 => e a (by omega)), h4.kept (fun a q1 q2 => e a (by omega)), h5.kept (fun a q1 q2 => e a (by omega)), h6.kept (fun a q1 q2 => e a (by omega)), h7.kept (fun a q1 q2 => e a (by omega))⟩
theorem MS.vis (h : MS M tp fl g pg vs nt im sh tn) (ho : OK g pg vs nt im sh) (e : ∀ c, c ≠ 178 → N c = M c) (e8 : ∀ j : Nat, (j < 47 ∨ 95 < j) → N 178 j = M 178 j) (hv : mvRow (N 178) vs') : MS N tp fl g pg vs' nt im sh tn := by
  obtain ⟨h1, h2, h3, h4, h5, h6, h7, h8⟩ := h
  refine ⟨?_, h2.kept e, h3.kept ho.1 ho.2.1 (by omega) (fun j j0 j1 => e8 j (by omega)), hv, h5.kept (fun j j0 j1 => e8 j (by omega)), h6.kept (e 199 (by decide)) (fun j j0 j1 => e8 j (by omega)) ho.2.2.2.2.1 ho.1, ?_, ?_⟩
  · unfold msA at *; rw [e 177 (by decide), e 186 (by decide)]; exact h1
  · unfold msS at *; rw [e 200 (by decide), e 201 (by decide), e 202 (by decide)]; exact h7
  · unfold msK at *; rw [e 187 (by decide), e 188 (by decide)]; exact h8
theorem MS.nts (h : MS M tp fl g pg vs nt im sh tn) (ho : OK g pg vs nt im sh) (e : ∀ c, c ≠ 178 → N c = M c) (e8 : ∀ j : Nat, (j < 96 ∨ 104 < j) → N 178 j = M 178 j) (hv : mnRow (N 178) nt') : MS N tp fl g pg vs nt' im sh tn := by
  obtain ⟨h1, h2, h3, h4, h5, h6, h7, h8⟩ := h
  refine ⟨?_, h2.kept e, h3.kept ho.1 ho.2.1 (by omega) (fun j j0 j1 => e8 j (by omega)), mvIs.kept h4 (fun j j0 j1 => e8 j (by omega)), hv, h6.kept (e 199 (by decide)) (fun j j0 j1 => e8 j (by omega)) ho.2.2.2.2.1 ho.1, ?_, ?_⟩
  · unfold msA at *; rw [e 177 (by decide), e 186 (by decide)]; exact h1
  · unfold msS at *; rw [e 200 (by decide), e 201 (by decide), e 202 (by decide)]; exact h7
  · unfold msK at *; rw [e 187 (by decide), e 188 (by decide)]; exact h8
theorem MS.tap (h : MS M tp fl g pg vs nt im sh tn) (e : ∀ c, c ≠ 177 → c ≠ 186 → N c = M c) (e7 : N 177 4 = M 177 4 ∧ N 177 5 = M 177 5 ∧ N 177 6 = M 177 6) (hv : msA N tp' fl' tn') : MS N tp' fl' g pg vs nt im sh tn' := by
  obtain ⟨h1, h2, h3, h4, h5, h6, h7, h8⟩ := h
  refine ⟨hv, ?_, ?_, ?_, ?_, ?_, ?_, ?_⟩
  · unfold mdIs md_ok at *; rw [e7.1, e7.2.1, e7.2.2, e 179 (by decide) (by decide), e 180 (by decide) (by decide), e 181 (by decide) (by decide)]; exact h2
  · unfold mpIs at *; rw [e 178 (by decide) (by decide)]; exact h3
  · rw [e 178 (by decide) (by decide)]; exact h4
  · rw [e 178 (by decide) (by decide)]; exact h5
  · unfold msI at *; rw [e 178 (by decide) (by decide), e 199 (by decide) (by decide)]; exact h6
  · unfold msS at *; rw [e 200 (by decide) (by decide), e 201 (by decide) (by decide), e 202 (by decide) (by decide)]; exact h7
  · unfold msK at *; rw [e 187 (by decide) (by decide), e 188 (by decide) (by decide)]; exact h8
theorem md_lay_up {f : Nat → Int} {b t i q v : Int} (hb : 0 ≤ b) (hq : b + 1 + f b.toNat < q) (hi : 0 ≤ i ∧ i ≤ f b.toNat) : md_lay (fp_upf f q.toNat v) b t i = fp_upf (md_lay f b t i) q.toNat v := by
  funext j
  unfold md_lay fp_upf
  dsimp only
  rw [if_neg (show ¬ b.toNat = q.toNat by omega)]
  (repeat' split) <;> first | rfl | (exfalso; omega)
theorem mm_slip {t x i : Int} (hc : MS M tp fl g pg vs nt im sh tn) (ho : OK g pg vs nt im sh) (ht : fp_rng t) (hx : fp_rng x) (hi : fp_rng i) : fp_Ok l G 2 kX12_slip [rV G 177, iV t, iV x, iV i] M (qI fun z N => z = (A_slip g pg t x i).1 ∧ MS N tp fl g (A_slip g pg t x i).2 vs nt im sh tn ∧ frD M N) := by
  have hcs := hc
  obtain ⟨-, hd, hcl, -⟩ := hc
  obtain ⟨hg, hP, -, -, hio, -⟩ := ho
  have hg1 := hg.1
  have hg2 := hg.2.1
  have hi' := hi
  unfold fp_rng at hi'
  refine fp_Ok.of (r := 0) rfl (Nat.le_of_ble_eq_true rfl) rfl ?_
  unfold A_slip
  by_cases hin : (0 ≤ t ∧ t < g.1) ∧ (0 ≤ x ∧ x < g.2.1) ∧ (0 ≤ i ∧ i ≤ (pg.2.2 x).length)
  · rw [if_neg (fun q => q hin)]
    have hwt := hcl.1 t hin.1.1 hin.1.2
    rw [Int.zero_add] at hwt
    have hwo := hP.1 t hin.1.1 hin.1.2
    obtain ⟨n1, n2, n3⟩ := hcl.line hP hin.2.1 hg
    by_cases hpt : 10 ≤ pg.1 t
    · rw [if_pos hpt]
      refine S.aload_n (pc' := 1) dX12_slip_0 rfl rfl rfl ?_
      refine S.iload_n (pc' := 2) dX12_slip_1 rfl rfl rfl ?_
      refine S.callVi (pc' := 5) dX12_slip_2 rfl cX12_205 (bk_X12_isThing) rfl L_177 (by decide) rfl (Nat.le_of_ble_eq_true rfl) (fun z2 M2 q2 => ?_)
      obtain ⟨b2, rfl⟩ := q2
      refine S.if_eq (pc' := 8) (tgt := 32) dX12_slip_5 (by decide) rfl (by unfold fp_rng; omega) (fun h5 => ?_) (fun h5 => ?_)
      · exfalso; omega
      · refine S.aload_n (pc' := 9) dX12_slip_8 rfl rfl rfl ?_
        refine S.iload_n (pc' := 10) dX12_slip_9 rfl rfl rfl ?_
        refine S.callVi (pc' := 13) dX12_slip_10 rfl cX12_219 (bk_X12_isLine) rfl L_177 (by decide) rfl (Nat.le_of_ble_eq_true rfl) (fun z10 M10 q10 => ?_)
        obtain ⟨b10, rfl⟩ := q10
        refine S.if_eq (pc' := 16) (tgt := 32) dX12_slip_13 (by decide) rfl (by unfold fp_rng; omega) (fun h13 => ?_) (fun h13 => ?_)
        · exfalso; omega
        · refine S.iload_n (pc' := 17) dX12_slip_16 rfl rfl rfl ?_
          refine S.i2l (pc' := 18) dX12_slip_17 rfl hi ?_
          refine S.lconst (pc' := 19) (w := 0) dX12_slip_18 rfl rfl ?_
          refine S.aload_n (pc' := 20) dX12_slip_19 rfl rfl rfl ?_
          refine S.iconst (pc' := 21) dX12_slip_20 rfl ?_
          refine S.iload_n (pc' := 22) dX12_slip_21 rfl rfl rfl ?_
          refine S.callVe (pc' := 25) dX12_slip_22 rfl cX12_198 (ok_X12_lie) rfl L_177 (by decide) rfl (Nat.le_of_ble_eq_true rfl) ?_
          refine S.i2l (pc' := 26) dX12_slip_25 rfl (by unfold fp_rng; omega) ?_
          refine S.callSi (pc' := 29) dX12_slip_26 rfl cX12_94 (bk_X12_in) rfl (by decide) rfl (Nat.le_of_ble_eq_true rfl) (fun z26 M26 q26 => ?_)
          obtain ⟨b26, rfl⟩ := q26
          refine S.if_ne (pc' := 32) (tgt := 34) dX12_slip_29 (by decide) rfl (by unfold fp_rng; omega) (fun h29 => ?_) (fun h29 => ?_)
          · refine S.aload_n (pc' := 35) dX12_slip_34 rfl rfl rfl ?_
            refine S.getR (pc' := 38) dX12_slip_35 rfl fX12_7 L_177 rf_177_0 ?_
            refine S.iload_n (pc' := 39) dX12_slip_38 rfl rfl rfl ?_
            refine S.iald (pc' := 40) dX12_slip_39 rfl L_178 (by omega) (by omega) ?_
            refine S.bipush (pc' := 42) dX12_slip_40 rfl (by decide) ?_
            refine S.icmp_lt (pc' := 45) (tgt := 48) dX12_slip_42 (by decide) rfl (by unfold fp_rng; omega) (by unfold fp_rng; omega) (fun h42 => ?_) (fun h42 => ?_)
            · exfalso; omega
            · refine S.bipush (pc' := 47) dX12_slip_45 rfl (by decide) ?_
              refine S.iret dX12_slip_47 rfl ?_
              exact ⟨rfl, hcs, frD.refl _⟩
          · exfalso; omega
    · rw [if_neg hpt]
      by_cases l8 : 8 ≤ (pg.2.2 x).length
      · rw [if_pos l8]
        refine S.aload_n (pc' := 1) dX12_slip_0 rfl rfl rfl ?_
        refine S.iload_n (pc' := 2) dX12_slip_1 rfl rfl rfl ?_
        refine S.callVi (pc' := 5) dX12_slip_2 rfl cX12_205 (bk_X12_isThing) rfl L_177 (by decide) rfl (Nat.le_of_ble_eq_true rfl) (fun z2 M2 q2 => ?_)
        obtain ⟨b2, rfl⟩ := q2
        refine S.if_eq (pc' := 8) (tgt := 32) dX12_slip_5 (by decide) rfl (by unfold fp_rng; omega) (fun h5 => ?_) (fun h5 => ?_)
        · exfalso; omega
        · refine S.aload_n (pc' := 9) dX12_slip_8 rfl rfl rfl ?_
          refine S.iload_n (pc' := 10) dX12_slip_9 rfl rfl rfl ?_
          refine S.callVi (pc' := 13) dX12_slip_10 rfl cX12_219 (bk_X12_isLine) rfl L_177 (by decide) rfl (Nat.le_of_ble_eq_true rfl) (fun z10 M10 q10 => ?_)
          obtain ⟨b10, rfl⟩ := q10
          refine S.if_eq (pc' := 16) (tgt := 32) dX12_slip_13 (by decide) rfl (by unfold fp_rng; omega) (fun h13 => ?_) (fun h13 => ?_)
          · exfalso; omega
          · refine S.iload_n (pc' := 17) dX12_slip_16 rfl rfl rfl ?_
            refine S.i2l (pc' := 18) dX12_slip_17 rfl hi ?_
            refine S.lconst (pc' := 19) (w := 0) dX12_slip_18 rfl rfl ?_
            refine S.aload_n (pc' := 20) dX12_slip_19 rfl rfl rfl ?_
            refine S.iconst (pc' := 21) dX12_slip_20 rfl ?_
            refine S.iload_n (pc' := 22) dX12_slip_21 rfl rfl rfl ?_
            refine S.callVe (pc' := 25) dX12_slip_22 rfl cX12_198 (ok_X12_lie) rfl L_177 (by decide) rfl (Nat.le_of_ble_eq_true rfl) ?_
            refine S.i2l (pc' := 26) dX12_slip_25 rfl (by unfold fp_rng; omega) ?_
            refine S.callSi (pc' := 29) dX12_slip_26 rfl cX12_94 (bk_X12_in) rfl (by decide) rfl (Nat.le_of_ble_eq_true rfl) (fun z26 M26 q26 => ?_)
            obtain ⟨b26, rfl⟩ := q26
            refine S.if_ne (pc' := 32) (tgt := 34) dX12_slip_29 (by decide) rfl (by unfold fp_rng; omega) (fun h29 => ?_) (fun h29 => ?_)
            · refine S.aload_n (pc' := 35) dX12_slip_34 rfl rfl rfl ?_
              refine S.getR (pc' := 38) dX12_slip_35 rfl fX12_7 L_177 rf_177_0 ?_
              refine S.iload_n (pc' := 39) dX12_slip_38 rfl rfl rfl ?_
              refine S.iald (pc' := 40) dX12_slip_39 rfl L_178 (by omega) (by omega) ?_
              refine S.bipush (pc' := 42) dX12_slip_40 rfl (by decide) ?_
              refine S.icmp_lt (pc' := 45) (tgt := 48) dX12_slip_42 (by decide) rfl (by unfold fp_rng; omega) (by unfold fp_rng; omega) (fun h42 => ?_) (fun h42 => ?_)
              · refine S.aload_n (pc' := 49) dX12_slip_48 rfl rfl rfl ?_
                refine S.iconst (pc' := 50) dX12_slip_49 rfl ?_
                refine S.iload_n (pc' := 51) dX12_slip_50 rfl rfl rfl ?_
                refine S.callVe (pc' := 54) dX12_slip_51 rfl cX12_198 (ok_X12_lie) rfl L_177 (by decide) rfl (Nat.le_of_ble_eq_true rfl) ?_
                refine S.bipush (pc' := 56) dX12_slip_54 rfl (by decide) ?_
                refine S.icmp_ne (pc' := 59) (tgt := 62) dX12_slip_56 (by decide) rfl (by unfold fp_rng; omega) (by unfold fp_rng; omega) (fun h56 => ?_) (fun h56 => ?_)
                · exfalso; omega
                · refine S.bipush (pc' := 61) dX12_slip_59 rfl (by decide) ?_
                  refine S.iret dX12_slip_61 rfl ?_
                  exact ⟨rfl, hcs, frD.refl _⟩
              · exfalso; omega
            · exfalso; omega
      · rw [if_neg l8]
        have hl : ((aIns pg t x i.toNat).2.2 x).length = (pg.2.2 x).length + 1 := by
          show List.length (fp_ui pg.2.2 x _ x) = _
          rw [fp_ui_at, List.length_insertIdx_of_le_length (by omega)]
        have hmi := mp_ins (s := i.toNat) hcl hP hg (by omega) hin.1 ⟨by omega, by omega⟩ hin.2.1 (by omega) (by omega)
        rw [Int.toNat_of_nonneg hin.2.2.1] at hmi
        refine S.aload_n (pc' := 1) dX12_slip_0 rfl rfl rfl ?_
        refine S.iload_n (pc' := 2) dX12_slip_1 rfl rfl rfl ?_
        refine S.callVi (pc' := 5) dX12_slip_2 rfl cX12_205 (bk_X12_isThing) rfl L_177 (by decide) rfl (Nat.le_of_ble_eq_true rfl) (fun z2 M2 q2 => ?_)
        obtain ⟨b2, rfl⟩ := q2
        refine S.if_eq (pc' := 8) (tgt := 32) dX12_slip_5 (by decide) rfl (by unfold fp_rng; omega) (fun h5 => ?_) (fun h5 => ?_)
        · exfalso; omega
        · refine S.aload_n (pc' := 9) dX12_slip_8 rfl rfl rfl ?_
          refine S.iload_n (pc' := 10) dX12_slip_9 rfl rfl rfl ?_
          refine S.callVi (pc' := 13) dX12_slip_10 rfl cX12_219 (bk_X12_isLine) rfl L_177 (by decide) rfl (Nat.le_of_ble_eq_true rfl) (fun z10 M10 q10 => ?_)
          obtain ⟨b10, rfl⟩ := q10
          refine S.if_eq (pc' := 16) (tgt := 32) dX12_slip_13 (by decide) rfl (by unfold fp_rng; omega) (fun h13 => ?_) (fun h13 => ?_)
          · exfalso; omega
          · refine S.iload_n (pc' := 17) dX12_slip_16 rfl rfl rfl ?_
            refine S.i2l (pc' := 18) dX12_slip_17 rfl hi ?_
            refine S.lconst (pc' := 19) (w := 0) dX12_slip_18 rfl rfl ?_
            refine S.aload_n (pc' := 20) dX12_slip_19 rfl rfl rfl ?_
            refine S.iconst (pc' := 21) dX12_slip_20 rfl ?_
            refine S.iload_n (pc' := 22) dX12_slip_21 rfl rfl rfl ?_
            refine S.callVe (pc' := 25) dX12_slip_22 rfl cX12_198 (ok_X12_lie) rfl L_177 (by decide) rfl (Nat.le_of_ble_eq_true rfl) ?_
            refine S.i2l (pc' := 26) dX12_slip_25 rfl (by unfold fp_rng; omega) ?_
            refine S.callSi (pc' := 29) dX12_slip_26 rfl cX12_94 (bk_X12_in) rfl (by decide) rfl (Nat.le_of_ble_eq_true rfl) (fun z26 M26 q26 => ?_)
            obtain ⟨b26, rfl⟩ := q26
            refine S.if_ne (pc' := 32) (tgt := 34) dX12_slip_29 (by decide) rfl (by unfold fp_rng; omega) (fun h29 => ?_) (fun h29 => ?_)
            · refine S.aload_n (pc' := 35) dX12_slip_34 rfl rfl rfl ?_
              refine S.getR (pc' := 38) dX12_slip_35 rfl fX12_7 L_177 rf_177_0 ?_
              refine S.iload_n (pc' := 39) dX12_slip_38 rfl rfl rfl ?_
              refine S.iald (pc' := 40) dX12_slip_39 rfl L_178 (by omega) (by omega) ?_
              refine S.bipush (pc' := 42) dX12_slip_40 rfl (by decide) ?_
              refine S.icmp_lt (pc' := 45) (tgt := 48) dX12_slip_42 (by decide) rfl (by unfold fp_rng; omega) (by unfold fp_rng; omega) (fun h42 => ?_) (fun h42 => ?_)
              · refine S.aload_n (pc' := 49) dX12_slip_48 rfl rfl rfl ?_
                refine S.iconst (pc' := 50) dX12_slip_49 rfl ?_
                refine S.iload_n (pc' := 51) dX12_slip_50 rfl rfl rfl ?_
                refine S.callVe (pc' := 54) dX12_slip_51 rfl cX12_198 (ok_X12_lie) rfl L_177 (by decide) rfl (Nat.le_of_ble_eq_true rfl) ?_
                refine S.bipush (pc' := 56) dX12_slip_54 rfl (by decide) ?_
                refine S.icmp_ne (pc' := 59) (tgt := 62) dX12_slip_56 (by decide) rfl (by unfold fp_rng; omega) (by unfold fp_rng; omega) (fun h56 => ?_) (fun h56 => ?_)
                · refine S.aload_n (pc' := 63) dX12_slip_62 rfl rfl rfl ?_
                  refine S.getR (pc' := 66) dX12_slip_63 rfl fX12_7 L_177 rf_177_0 ?_
                  refine S.bipush (pc' := 68) dX12_slip_66 rfl (by decide) ?_
                  refine S.iload_n (pc' := 69) dX12_slip_68 rfl rfl rfl ?_
                  refine S.iadd (pc' := 70) dX12_slip_69 rfl ?_
                  refine S.aload_n (pc' := 71) dX12_slip_70 rfl rfl rfl ?_
                  refine S.getR (pc' := 74) dX12_slip_71 rfl fX12_7 L_177 rf_177_0 ?_
                  refine S.iload_n (pc' := 75) dX12_slip_74 rfl rfl rfl ?_
                  refine S.iald (pc' := 76) dX12_slip_75 rfl L_178 (by omega) (by omega) ?_
                  refine S.iast (pc' := 77) dX12_slip_76 rfl L_178 (by omega) (by omega) ?_
                  have eb : fp_up M 178 (37 + t).toNat (M 178 t.toNat) 178 (0 + 10 + 9 * x).toNat = (pg.2.2 x).length := by rw [fp_up_at, fp_upf_ne (by omega)]; exact n1
                  refine S.aload_n (pc' := 78) dX12_slip_77 rfl rfl rfl ?_
                  refine S.iconst (pc' := 79) dX12_slip_78 rfl ?_
                  refine S.iload_n (pc' := 80) dX12_slip_79 rfl rfl rfl ?_
                  refine S.iload_n (pc' := 81) dX12_slip_80 rfl rfl rfl ?_
                  refine S.iload_n (pc' := 82) dX12_slip_81 rfl rfl rfl ?_
                  refine S.callVw (pc' := 85) dX12_slip_82 rfl cX12_237 (ok_X12_laysIn) rfl L_177 (by decide) rfl (Nat.le_of_ble_eq_true rfl) ?_
                  refine S.aload_n (pc' := 86) dX12_slip_85 rfl rfl rfl ?_
                  refine S.getR (pc' := 89) dX12_slip_86 rfl fX12_7 L_177 rf_177_0 ?_
                  refine S.iload_n (pc' := 90) dX12_slip_89 rfl rfl rfl ?_
                  refine S.bipush (pc' := 92) dX12_slip_90 rfl (by decide) ?_
                  refine S.iload_n (pc' := 93) dX12_slip_92 rfl rfl rfl ?_
                  refine S.iadd (pc' := 94) dX12_slip_93 rfl ?_
                  refine S.iast (pc' := 95) dX12_slip_94 rfl L_178 (by omega) (by omega) ?_
                  have eN : fp_up (fp_upM (fp_up M 178 (37 + t).toNat (M 178 t.toNat)) 178 (md_lay (fp_up M 178 (37 + t).toNat (M 178 t.toNat) 178) (0 + 10 + 9 * x) t i)) 178 t.toNat (10 + x) = fp_upM M 178 (fp_upf (fp_upf (md_lay (M 178) (0 + 10 + 9 * x) t i) (0 + t).toNat (10 + x)) (0 + 37 + t).toNat (pg.1 t)) := by
                    rw [fp_up_same, fp_upM_upM, fp_up_at, md_lay_up (by omega) (by omega) (by omega), hwt, Int.zero_add, show (0 : Int) + 37 + t = 37 + t by omega]
                    refine congrArg (fp_upM M 178) (funext fun j => ?_)
                    unfold fp_upf
                    (repeat' split) <;> first | rfl | (exfalso; omega)
                  rw [eN]
                  have c1 : mpIs (fp_upM M 178 (fp_upf (fp_upf (md_lay (M 178) (0 + 10 + 9 * x) t i) (0 + t).toNat (10 + x)) (0 + 37 + t).toNat (pg.1 t))) 0 g (aIns pg t x i.toNat) := by unfold mpIs; rw [fp_upM_at]; exact hmi
                  have f1 : frM M (fp_upM M 178 (fp_upf (fp_upf (md_lay (M 178) (0 + 10 + 9 * x) t i) (0 + t).toNat (10 + x)) (0 + 37 + t).toNat (pg.1 t))) 0 := ⟨fun c hc => fp_upM_ne hc, fun j hj => by rw [fp_upM_at]; unfold fp_upf md_lay; rw [n1, if_neg (by omega), if_neg (by omega), if_neg (by omega), if_neg (by omega), if_neg (by omega)]⟩
                  have n4 := (c1.2.2 x (by omega) (by omega)).1
                  refine S.aload_n (pc' := 96) dX12_slip_95 rfl rfl rfl ?_
                  refine S.iconst (pc' := 97) dX12_slip_96 rfl ?_
                  refine S.iload_n (pc' := 98) dX12_slip_97 rfl rfl rfl ?_
                  refine S.callVe (pc' := 101) dX12_slip_98 rfl cX12_198 (ok_X12_lie) rfl L_177 (by decide) rfl (Nat.le_of_ble_eq_true rfl) ?_
                  refine S.iret dX12_slip_101 rfl ?_
                  exact ⟨by omega, hcs.page hio hg f1 c1, f1.d⟩
                · exfalso; omega
              · exfalso; omega
            · exfalso; omega
  · rw [if_pos hin]
    by_cases hx2 : 0 ≤ x ∧ x < g.2.1
    · obtain ⟨n1, n2, n3⟩ := hcl.line hP hx2 hg
      refine S.aload_n (pc' := 1) dX12_slip_0 rfl rfl rfl ?_
      refine S.iload_n (pc' := 2) dX12_slip_1 rfl rfl rfl ?_
      refine S.callVi (pc' := 5) dX12_slip_2 rfl cX12_205 (bk_X12_isThing) rfl L_177 (by decide) rfl (Nat.le_of_ble_eq_true rfl) (fun z2 M2 q2 => ?_)
      obtain ⟨b2, rfl⟩ := q2
      refine S.if_eq (pc' := 8) (tgt := 32) dX12_slip_5 (by decide) rfl (by unfold fp_rng; omega) (fun h5 => ?_) (fun h5 => ?_)
      · refine S.iconst (pc' := 33) dX12_slip_32 rfl ?_
        refine S.iret dX12_slip_33 rfl ?_
        exact ⟨rfl, hcs, frD.refl _⟩
      · refine S.aload_n (pc' := 9) dX12_slip_8 rfl rfl rfl ?_
        refine S.iload_n (pc' := 10) dX12_slip_9 rfl rfl rfl ?_
        refine S.callVi (pc' := 13) dX12_slip_10 rfl cX12_219 (bk_X12_isLine) rfl L_177 (by decide) rfl (Nat.le_of_ble_eq_true rfl) (fun z10 M10 q10 => ?_)
        obtain ⟨b10, rfl⟩ := q10
        refine S.if_eq (pc' := 16) (tgt := 32) dX12_slip_13 (by decide) rfl (by unfold fp_rng; omega) (fun h13 => ?_) (fun h13 => ?_)
        · refine S.iconst (pc' := 33) dX12_slip_32 rfl ?_
          refine S.iret dX12_slip_33 rfl ?_
          exact ⟨rfl, hcs, frD.refl _⟩
        · refine S.iload_n (pc' := 17) dX12_slip_16 rfl rfl rfl ?_
          refine S.i2l (pc' := 18) dX12_slip_17 rfl hi ?_
          refine S.lconst (pc' := 19) (w := 0) dX12_slip_18 rfl rfl ?_
          refine S.aload_n (pc' := 20) dX12_slip_19 rfl rfl rfl ?_
          refine S.iconst (pc' := 21) dX12_slip_20 rfl ?_
          refine S.iload_n (pc' := 22) dX12_slip_21 rfl rfl rfl ?_
          refine S.callVe (pc' := 25) dX12_slip_22 rfl cX12_198 (ok_X12_lie) rfl L_177 (by decide) rfl (Nat.le_of_ble_eq_true rfl) ?_
          refine S.i2l (pc' := 26) dX12_slip_25 rfl (by unfold fp_rng; omega) ?_
          refine S.callSi (pc' := 29) dX12_slip_26 rfl cX12_94 (bk_X12_in) rfl (by decide) rfl (Nat.le_of_ble_eq_true rfl) (fun z26 M26 q26 => ?_)
          obtain ⟨b26, rfl⟩ := q26
          refine S.if_ne (pc' := 32) (tgt := 34) dX12_slip_29 (by decide) rfl (by unfold fp_rng; omega) (fun h29 => ?_) (fun h29 => ?_)
          · exfalso; omega
          · refine S.iconst (pc' := 33) dX12_slip_32 rfl ?_
            refine S.iret dX12_slip_33 rfl ?_
            exact ⟨rfl, hcs, frD.refl _⟩
    · refine S.aload_n (pc' := 1) dX12_slip_0 rfl rfl rfl ?_
      refine S.iload_n (pc' := 2) dX12_slip_1 rfl rfl rfl ?_
      refine S.callVi (pc' := 5) dX12_slip_2 rfl cX12_205 (bk_X12_isThing) rfl L_177 (by decide) rfl (Nat.le_of_ble_eq_true rfl) (fun z2 M2 q2 => ?_)
      obtain ⟨b2, rfl⟩ := q2
      refine S.if_eq (pc' := 8) (tgt := 32) dX12_slip_5 (by decide) rfl (by unfold fp_rng; omega) (fun h5 => ?_) (fun h5 => ?_)
      · refine S.iconst (pc' := 33) dX12_slip_32 rfl ?_
        refine S.iret dX12_slip_33 rfl ?_
        exact ⟨rfl, hcs, frD.refl _⟩
      · refine S.aload_n (pc' := 9) dX12_slip_8 rfl rfl rfl ?_
        refine S.iload_n (pc' := 10) dX12_slip_9 rfl rfl rfl ?_
        refine S.callVi (pc' := 13) dX12_slip_10 rfl cX12_219 (bk_X12_isLine) rfl L_177 (by decide) rfl (Nat.le_of_ble_eq_true rfl) (fun z10 M10 q10 => ?_)
        obtain ⟨b10, rfl⟩ := q10
        refine S.if_eq (pc' := 16) (tgt := 32) dX12_slip_13 (by decide) rfl (by unfold fp_rng; omega) (fun h13 => ?_) (fun h13 => ?_)
        · refine S.iconst (pc' := 33) dX12_slip_32 rfl ?_
          refine S.iret dX12_slip_33 rfl ?_
          exact ⟨rfl, hcs, frD.refl _⟩
        · exfalso; omega
end PUE
