-- joined by tools/merge.py: 44.pub, 45.pub, 46.pub, 47.come, 48.run, 49.more, 50.aim, 51.go
section
/-! THE PUBLIC CALLS: slip of the reference, cut, end, forget, noted, fault, torn -/
theorem fp_takeD {α : Type} (L : List α) (n i : Nat) (d : α) (h : i < n) : (L.take n).getD i d = L.getD i d := by
  rw [List.getD_eq_getElem?_getD, List.getD_eq_getElem?_getD, List.getElem?_take_of_lt h]
theorem fp_appD {α : Type} (L : List α) (x d : α) (i : Nat) : (L ++ [x]).getD i d = if i < L.length then L.getD i d else if i = L.length then x else d := by
  rw [List.getD_eq_getElem?_getD, List.getD_eq_getElem?_getD]
  by_cases h : i < L.length
  · rw [if_pos h, List.getElem?_append_left h]
  · rw [if_neg h, List.getElem?_append_right (by omega)]
    by_cases h2 : i = L.length
    · rw [if_pos h2]; simp [h2]
    · rw [if_neg h2, List.getElem?_eq_none (by simp; omega)]; rfl
section PUE
variable {l : Launch} {G : fp_WG} {M N : fp_Mem} {tp tp' : List Int} {fl fl' : Int} {g : aGd} {pg : aPg} {vs vs' : List aVt} {nt nt' : List Int} {im : aIm} {sh : aSh} {tn tn' : Int}
theorem CS.vis (h : CS M tp fl g pg vs nt im sh tn) (e : ∀ a, (a < 27 ∨ 31 < a) → N a = M a) (hv : vsIs N 27 vs') : CS N tp fl g pg vs' nt im sh tn := by
  obtain ⟨h1, h2, h3, h4, h5, h6, h7⟩ := h
  exact ⟨h1.kept (e 0 (by omega)) (e 1 (by omega)) (by rw [e 2 (by omega)]), h2.kept (fun a q1 q2 => e a (by omega)), h3.kept (fun a q1 q2 => e a (by omega)), hv, h5.kept (fun a q1 q2 => e a (by omega)), h6.kept (fun a q1 q2 => e a (by omega)), h7.kept (fun a q1 q2 => e a (by omega))⟩
theorem CS.nts (h : CS M tp fl g pg vs nt im sh tn) (e : ∀ a, (a < 32 ∨ 33 < a) → N a = M a) (hv : ntIs N 32 nt') : CS N tp fl g pg vs nt' im sh tn := by
  obtain ⟨h1, h2, h3, h4, h5, h6, h7⟩ := h
  exact ⟨h1.kept (e 0 (by omega)) (e 1 (by omega)) (by rw [e 2 (by omega)]), h2.kept (fun a q1 q2 => e a (by omega)), h3.kept (fun a q1 q2 => e a (by omega)), h4.kept (fun a q1 q2 => e a (by omega)), hv, h6.kept (fun a q1 q2 => e a (by omega)), h7.kept (fun a q1 q2 => e a (by omega))⟩
theorem CS.tap (h : CS M tp fl g pg vs nt im sh tn) (e : ∀ a, 2 ≤ a → N a = M a) (hv : csA N tp' fl' tn') : CS N tp' fl' g pg vs nt im sh tn' := by
  obtain ⟨h1, h2, h3, h4, h5, h6, h7⟩ := h
  exact ⟨hv, h2.kept (fun a q1 q2 => e a (by omega)), h3.kept (fun a q1 q2 => e a (by omega)), h4.kept (fun a q1 q2 => e a (by omega)), h5.kept (fun a q1 q2 => e a (by omega)), h6.kept (fun a q1 q2 => e a (by omega)), h7.kept (fun a q1 q2 => e a (by omega))⟩
theorem MS.vis (h : MS M tp fl g pg vs nt im sh tn) (ho : OK g pg vs nt im sh) (e : ∀ c, c ≠ 178 → N c = M c) (e8 : ∀ j : Nat, (j < 47 ∨ 95 < j) → N 178 j = M 178 j) (hv : mvRow (N 178) vs') : MS N tp fl g pg vs' nt im sh tn := by
  obtain ⟨h1, h2, h3, h4, h5, h6, h7, h8⟩ := h
  refine ⟨?_, h2.kept e, h3.kept ho.1 ho.2.1 (by omega) (fun j j0 j1 => e8 j (by omega)), hv, h5.kept (fun j j0 j1 => e8 j (by omega)), h6.kept (e 199 (by decide)) (fun j j0 j1 => e8 j (by omega)) ho.2.2.2.2.1 ho.1, ?_, ?_⟩
  · unfold msA at *; rw [e 177 (by decide), e 186 (by decide)]; exact h1
  · unfold msS at *; rw [e 200 (by decide), e 201 (by decide), e 202 (by decide)]; exact h7
  · unfold msK at *; rw [e 187 (by decide), e 188 (by decide)]; exact h8
theorem MS.nts (h : MS M tp fl g pg vs nt im sh tn) (ho : OK g pg vs nt im sh) (e : ∀ c, c ≠ 178 → N c = M c) (e8 : ∀ j : Nat, (j < 96 ∨ 104 < j) → N 178 j = M 178 j) (hv : mnRow (N 178) nt') : MS N tp fl g pg vs nt' im sh tn := by
  obtain ⟨h1, h2, h3, h4, h5, h6, h7, h8⟩ := h
  refine ⟨?_, h2.kept e, h3.kept ho.1 ho.2.1 (by omega) (fun j j0 j1 => e8 j (by omega)), mvIs.kept h4 (fun j j0 j1 => e8 j (by omega)), hv, h6.kept (e 199 (by decide)) (fun j j0 j1 => e8 j (by omega)) ho.2.2.2.2.1 ho.1, ?_, ?_⟩
  · unfold msA at *; rw [e 177 (by decide), e 186 (by decide)]; exact h1
  · unfold msS at *; rw [e 200 (by decide), e 201 (by decide), e 202 (by decide)]; exact h7
  · unfold msK at *; rw [e 187 (by decide), e 188 (by decide)]; exact h8
theorem MS.tap (h : MS M tp fl g pg vs nt im sh tn) (e : ∀ c, c ≠ 177 → c ≠ 186 → N c = M c) (e7 : N 177 4 = M 177 4 ∧ N 177 5 = M 177 5 ∧ N 177 6 = M 177 6) (hv : msA N tp' fl' tn') : MS N tp' fl' g pg vs nt im sh tn' := by
  obtain ⟨h1, h2, h3, h4, h5, h6, h7, h8⟩ := h
  refine ⟨hv, ?_, ?_, ?_, ?_, ?_, ?_, ?_⟩
  · unfold mdIs md_ok at *; rw [e7.1, e7.2.1, e7.2.2, e 179 (by decide) (by decide), e 180 (by decide) (by decide), e 181 (by decide) (by decide)]; exact h2
  · unfold mpIs at *; rw [e 178 (by decide) (by decide)]; exact h3
  · rw [e 178 (by decide) (by decide)]; exact h4
  · rw [e 178 (by decide) (by decide)]; exact h5
  · unfold msI at *; rw [e 178 (by decide) (by decide), e 199 (by decide) (by decide)]; exact h6
  · unfold msS at *; rw [e 200 (by decide) (by decide), e 201 (by decide) (by decide), e 202 (by decide) (by decide)]; exact h7
  · unfold msK at *; rw [e 187 (by decide) (by decide), e 188 (by decide) (by decide)]; exact h8
theorem md_lay_up {f : Nat → Int} {b t i q v : Int} (hb : 0 ≤ b) (hq : b + 1 + f b.toNat < q) (hi : 0 ≤ i ∧ i ≤ f b.toNat) : md_lay (fp_upf f q.toNat v) b t i = fp_upf (md_lay f b t i) q.toNat v := by
  funext j
  unfold md_lay fp_upf
  dsimp only
  rw [if_neg (show ¬ b.toNat = q.toNat by omega)]
  (repeat' split) <;> first | rfl | (exfalso; omega)
theorem mm_slip {t x i : Int} (hc : MS M tp fl g pg vs nt im sh tn) (ho : OK g pg vs nt im sh) (ht : fp_rng t) (hx : fp_rng x) (hi : fp_rng i) : fp_Ok l G 2 kX12_slip [rV G 177, iV t, iV x, iV i] M (qI fun z N => z = (A_slip g pg t x i).1 ∧ MS N tp fl g (A_slip g pg t x i).2 vs nt im sh tn ∧ frD M N) := by
  have hcs := hc
  obtain ⟨-, hd, hcl, -⟩ := hc
  obtain ⟨hg, hP, -, -, hio, -⟩ := ho
  have hg1 := hg.1
  have hg2 := hg.2.1
  have hi' := hi
  unfold fp_rng at hi'
  refine fp_Ok.of (r := 0) rfl (Nat.le_of_ble_eq_true rfl) rfl ?_
  unfold A_slip
  by_cases hin : (0 ≤ t ∧ t < g.1) ∧ (0 ≤ x ∧ x < g.2.1) ∧ (0 ≤ i ∧ i ≤ (pg.2.2 x).length)
  · rw [if_neg (fun q => q hin)]
    have hwt := hcl.1 t hin.1.1 hin.1.2
    rw [Int.zero_add] at hwt
    have hwo := hP.1 t hin.1.1 hin.1.2
    obtain ⟨n1, n2, n3⟩ := hcl.line hP hin.2.1 hg
    by_cases hpt : 10 ≤ pg.1 t
    · rw [if_pos hpt]
      refine S.aload_n (pc' := 1) dX12_slip_0 rfl rfl rfl ?_
      refine S.iload_n (pc' := 2) dX12_slip_1 rfl rfl rfl ?_
      refine S.callVi (pc' := 5) dX12_slip_2 rfl cX12_205 (bk_X12_isThing) rfl L_177 (by decide) rfl (Nat.le_of_ble_eq_true rfl) (fun z2 M2 q2 => ?_)
      obtain ⟨b2, rfl⟩ := q2
      refine S.if_eq (pc' := 8) (tgt := 32) dX12_slip_5 (by decide) rfl (by unfold fp_rng; omega) (fun h5 => ?_) (fun h5 => ?_)
      · exfalso; omega
      · refine S.aload_n (pc' := 9) dX12_slip_8 rfl rfl rfl ?_
        refine S.iload_n (pc' := 10) dX12_slip_9 rfl rfl rfl ?_
        refine S.callVi (pc' := 13) dX12_slip_10 rfl cX12_219 (bk_X12_isLine) rfl L_177 (by decide) rfl (Nat.le_of_ble_eq_true rfl) (fun z10 M10 q10 => ?_)
        obtain ⟨b10, rfl⟩ := q10
        refine S.if_eq (pc' := 16) (tgt := 32) dX12_slip_13 (by decide) rfl (by unfold fp_rng; omega) (fun h13 => ?_) (fun h13 => ?_)
        · exfalso; omega
        · refine S.iload_n (pc' := 17) dX12_slip_16 rfl rfl rfl ?_
          refine S.i2l (pc' := 18) dX12_slip_17 rfl hi ?_
          refine S.lconst (pc' := 19) (w := 0) dX12_slip_18 rfl rfl ?_
          refine S.aload_n (pc' := 20) dX12_slip_19 rfl rfl rfl ?_
          refine S.iconst (pc' := 21) dX12_slip_20 rfl ?_
          refine S.iload_n (pc' := 22) dX12_slip_21 rfl rfl rfl ?_
          refine S.callVe (pc' := 25) dX12_slip_22 rfl cX12_198 (ok_X12_lie) rfl L_177 (by decide) rfl (Nat.le_of_ble_eq_true rfl) ?_
          refine S.i2l (pc' := 26) dX12_slip_25 rfl (by unfold fp_rng; omega) ?_
          refine S.callSi (pc' := 29) dX12_slip_26 rfl cX12_94 (bk_X12_in) rfl (by decide) rfl (Nat.le_of_ble_eq_true rfl) (fun z26 M26 q26 => ?_)
          obtain ⟨b26, rfl⟩ := q26
          refine S.if_ne (pc' := 32) (tgt := 34) dX12_slip_29 (by decide) rfl (by unfold fp_rng; omega) (fun h29 => ?_) (fun h29 => ?_)
          · refine S.aload_n (pc' := 35) dX12_slip_34 rfl rfl rfl ?_
            refine S.getR (pc' := 38) dX12_slip_35 rfl fX12_7 L_177 rf_177_0 ?_
            refine S.iload_n (pc' := 39) dX12_slip_38 rfl rfl rfl ?_
            refine S.iald (pc' := 40) dX12_slip_39 rfl L_178 (by omega) (by omega) ?_
            refine S.bipush (pc' := 42) dX12_slip_40 rfl (by decide) ?_
            refine S.icmp_lt (pc' := 45) (tgt := 48) dX12_slip_42 (by decide) rfl (by unfold fp_rng; omega) (by unfold fp_rng; omega) (fun h42 => ?_) (fun h42 => ?_)
            · exfalso; omega
            · refine S.bipush (pc' := 47) dX12_slip_45 rfl (by decide) ?_
              refine S.iret dX12_slip_47 rfl ?_
              exact ⟨rfl, hcs, frD.refl _⟩
          · exfalso; omega
    · rw [if_neg hpt]
      by_cases l8 : 8 ≤ (pg.2.2 x).length
      · rw [if_pos l8]
        refine S.aload_n (pc' := 1) dX12_slip_0 rfl rfl rfl ?_
        refine S.iload_n (pc' := 2) dX12_slip_1 rfl rfl rfl ?_
        refine S.callVi (pc' := 5) dX12_slip_2 rfl cX12_205 (bk_X12_isThing) rfl L_177 (by decide) rfl (Nat.le_of_ble_eq_true rfl) (fun z2 M2 q2 => ?_)
        obtain ⟨b2, rfl⟩ := q2
        refine S.if_eq (pc' := 8) (tgt := 32) dX12_slip_5 (by decide) rfl (by unfold fp_rng; omega) (fun h5 => ?_) (fun h5 => ?_)
        · exfalso; omega
        · refine S.aload_n (pc' := 9) dX12_slip_8 rfl rfl rfl ?_
          refine S.iload_n (pc' := 10) dX12_slip_9 rfl rfl rfl ?_
          refine S.callVi (pc' := 13) dX12_slip_10 rfl cX12_219 (bk_X12_isLine) rfl L_177 (by decide) rfl (Nat.le_of_ble_eq_true rfl) (fun z10 M10 q10 => ?_)
          obtain ⟨b10, rfl⟩ := q10
          refine S.if_eq (pc' := 16) (tgt := 32) dX12_slip_13 (by decide) rfl (by unfold fp_rng; omega) (fun h13 => ?_) (fun h13 => ?_)
          · exfalso; omega
          · refine S.iload_n (pc' := 17) dX12_slip_16 rfl rfl rfl ?_
            refine S.i2l (pc' := 18) dX12_slip_17 rfl hi ?_
            refine S.lconst (pc' := 19) (w := 0) dX12_slip_18 rfl rfl ?_
            refine S.aload_n (pc' := 20) dX12_slip_19 rfl rfl rfl ?_
            refine S.iconst (pc' := 21) dX12_slip_20 rfl ?_
            refine S.iload_n (pc' := 22) dX12_slip_21 rfl rfl rfl ?_
            refine S.callVe (pc' := 25) dX12_slip_22 rfl cX12_198 (ok_X12_lie) rfl L_177 (by decide) rfl (Nat.le_of_ble_eq_true rfl) ?_
            refine S.i2l (pc' := 26) dX12_slip_25 rfl (by unfold fp_rng; omega) ?_
            refine S.callSi (pc' := 29) dX12_slip_26 rfl cX12_94 (bk_X12_in) rfl (by decide) rfl (Nat.le_of_ble_eq_true rfl) (fun z26 M26 q26 => ?_)
            obtain ⟨b26, rfl⟩ := q26
            refine S.if_ne (pc' := 32) (tgt := 34) dX12_slip_29 (by decide) rfl (by unfold fp_rng; omega) (fun h29 => ?_) (fun h29 => ?_)
            · refine S.aload_n (pc' := 35) dX12_slip_34 rfl rfl rfl ?_
              refine S.getR (pc' := 38) dX12_slip_35 rfl fX12_7 L_177 rf_177_0 ?_
              refine S.iload_n (pc' := 39) dX12_slip_38 rfl rfl rfl ?_
              refine S.iald (pc' := 40) dX12_slip_39 rfl L_178 (by omega) (by omega) ?_
              refine S.bipush (pc' := 42) dX12_slip_40 rfl (by decide) ?_
              refine S.icmp_lt (pc' := 45) (tgt := 48) dX12_slip_42 (by decide) rfl (by unfold fp_rng; omega) (by unfold fp_rng; omega) (fun h42 => ?_) (fun h42 => ?_)
              · refine S.aload_n (pc' := 49) dX12_slip_48 rfl rfl rfl ?_
                refine S.iconst (pc' := 50) dX12_slip_49 rfl ?_
                refine S.iload_n (pc' := 51) dX12_slip_50 rfl rfl rfl ?_
                refine S.callVe (pc' := 54) dX12_slip_51 rfl cX12_198 (ok_X12_lie) rfl L_177 (by decide) rfl (Nat.le_of_ble_eq_true rfl) ?_
                refine S.bipush (pc' := 56) dX12_slip_54 rfl (by decide) ?_
                refine S.icmp_ne (pc' := 59) (tgt := 62) dX12_slip_56 (by decide) rfl (by unfold fp_rng; omega) (by unfold fp_rng; omega) (fun h56 => ?_) (fun h56 => ?_)
                · exfalso; omega
                · refine S.bipush (pc' := 61) dX12_slip_59 rfl (by decide) ?_
                  refine S.iret dX12_slip_61 rfl ?_
                  exact ⟨rfl, hcs, frD.refl _⟩
              · exfalso; omega
            · exfalso; omega
      · rw [if_neg l8]
        have hl : ((aIns pg t x i.toNat).2.2 x).length = (pg.2.2 x).length + 1 := by
          show List.length (fp_ui pg.2.2 x _ x) = _
          rw [fp_ui_at, List.length_insertIdx_of_le_length (by omega)]
        have hmi := mp_ins (s := i.toNat) hcl hP hg (by omega) hin.1 ⟨by omega, by omega⟩ hin.2.1 (by omega) (by omega)
        rw [Int.toNat_of_nonneg hin.2.2.1] at hmi
        refine S.aload_n (pc' := 1) dX12_slip_0 rfl rfl rfl ?_
        refine S.iload_n (pc' := 2) dX12_slip_1 rfl rfl rfl ?_
        refine S.callVi (pc' := 5) dX12_slip_2 rfl cX12_205 (bk_X12_isThing) rfl L_177 (by decide) rfl (Nat.le_of_ble_eq_true rfl) (fun z2 M2 q2 => ?_)
        obtain ⟨b2, rfl⟩ := q2
        refine S.if_eq (pc' := 8) (tgt := 32) dX12_slip_5 (by decide) rfl (by unfold fp_rng; omega) (fun h5 => ?_) (fun h5 => ?_)
        · exfalso; omega
        · refine S.aload_n (pc' := 9) dX12_slip_8 rfl rfl rfl ?_
          refine S.iload_n (pc' := 10) dX12_slip_9 rfl rfl rfl ?_
          refine S.callVi (pc' := 13) dX12_slip_10 rfl cX12_219 (bk_X12_isLine) rfl L_177 (by decide) rfl (Nat.le_of_ble_eq_true rfl) (fun z10 M10 q10 => ?_)
          obtain ⟨b10, rfl⟩ := q10
          refine S.if_eq (pc' := 16) (tgt := 32) dX12_slip_13 (by decide) rfl (by unfold fp_rng; omega) (fun h13 => ?_) (fun h13 => ?_)
          · exfalso; omega
          · refine S.iload_n (pc' := 17) dX12_slip_16 rfl rfl rfl ?_
            refine S.i2l (pc' := 18) dX12_slip_17 rfl hi ?_
            refine S.lconst (pc' := 19) (w := 0) dX12_slip_18 rfl rfl ?_
            refine S.aload_n (pc' := 20) dX12_slip_19 rfl rfl rfl ?_
            refine S.iconst (pc' := 21) dX12_slip_20 rfl ?_
            refine S.iload_n (pc' := 22) dX12_slip_21 rfl rfl rfl ?_
            refine S.callVe (pc' := 25) dX12_slip_22 rfl cX12_198 (ok_X12_lie) rfl L_177 (by decide) rfl (Nat.le_of_ble_eq_true rfl) ?_
            refine S.i2l (pc' := 26) dX12_slip_25 rfl (by unfold fp_rng; omega) ?_
            refine S.callSi (pc' := 29) dX12_slip_26 rfl cX12_94 (bk_X12_in) rfl (by decide) rfl (Nat.le_of_ble_eq_true rfl) (fun z26 M26 q26 => ?_)
            obtain ⟨b26, rfl⟩ := q26
            refine S.if_ne (pc' := 32) (tgt := 34) dX12_slip_29 (by decide) rfl (by unfold fp_rng; omega) (fun h29 => ?_) (fun h29 => ?_)
            · refine S.aload_n (pc' := 35) dX12_slip_34 rfl rfl rfl ?_
              refine S.getR (pc' := 38) dX12_slip_35 rfl fX12_7 L_177 rf_177_0 ?_
              refine S.iload_n (pc' := 39) dX12_slip_38 rfl rfl rfl ?_
              refine S.iald (pc' := 40) dX12_slip_39 rfl L_178 (by omega) (by omega) ?_
              refine S.bipush (pc' := 42) dX12_slip_40 rfl (by decide) ?_
              refine S.icmp_lt (pc' := 45) (tgt := 48) dX12_slip_42 (by decide) rfl (by unfold fp_rng; omega) (by unfold fp_rng; omega) (fun h42 => ?_) (fun h42 => ?_)
              · refine S.aload_n (pc' := 49) dX12_slip_48 rfl rfl rfl ?_
                refine S.iconst (pc' := 50) dX12_slip_49 rfl ?_
                refine S.iload_n (pc' := 51) dX12_slip_50 rfl rfl rfl ?_
                refine S.callVe (pc' := 54) dX12_slip_51 rfl cX12_198 (ok_X12_lie) rfl L_177 (by decide) rfl (Nat.le_of_ble_eq_true rfl) ?_
                refine S.bipush (pc' := 56) dX12_slip_54 rfl (by decide) ?_
                refine S.icmp_ne (pc' := 59) (tgt := 62) dX12_slip_56 (by decide) rfl (by unfold fp_rng; omega) (by unfold fp_rng; omega) (fun h56 => ?_) (fun h56 => ?_)
                · refine S.aload_n (pc' := 63) dX12_slip_62 rfl rfl rfl ?_
                  refine S.getR (pc' := 66) dX12_slip_63 rfl fX12_7 L_177 rf_177_0 ?_
                  refine S.bipush (pc' := 68) dX12_slip_66 rfl (by decide) ?_
                  refine S.iload_n (pc' := 69) dX12_slip_68 rfl rfl rfl ?_
                  refine S.iadd (pc' := 70) dX12_slip_69 rfl ?_
                  refine S.aload_n (pc' := 71) dX12_slip_70 rfl rfl rfl ?_
                  refine S.getR (pc' := 74) dX12_slip_71 rfl fX12_7 L_177 rf_177_0 ?_
                  refine S.iload_n (pc' := 75) dX12_slip_74 rfl rfl rfl ?_
                  refine S.iald (pc' := 76) dX12_slip_75 rfl L_178 (by omega) (by omega) ?_
                  refine S.iast (pc' := 77) dX12_slip_76 rfl L_178 (by omega) (by omega) ?_
                  have eb : fp_up M 178 (37 + t).toNat (M 178 t.toNat) 178 (0 + 10 + 9 * x).toNat = (pg.2.2 x).length := by rw [fp_up_at, fp_upf_ne (by omega)]; exact n1
                  refine S.aload_n (pc' := 78) dX12_slip_77 rfl rfl rfl ?_
                  refine S.iconst (pc' := 79) dX12_slip_78 rfl ?_
                  refine S.iload_n (pc' := 80) dX12_slip_79 rfl rfl rfl ?_
                  refine S.iload_n (pc' := 81) dX12_slip_80 rfl rfl rfl ?_
                  refine S.iload_n (pc' := 82) dX12_slip_81 rfl rfl rfl ?_
                  refine S.callVw (pc' := 85) dX12_slip_82 rfl cX12_237 (ok_X12_laysIn) rfl L_177 (by decide) rfl (Nat.le_of_ble_eq_true rfl) ?_
                  refine S.aload_n (pc' := 86) dX12_slip_85 rfl rfl rfl ?_
                  refine S.getR (pc' := 89) dX12_slip_86 rfl fX12_7 L_177 rf_177_0 ?_
                  refine S.iload_n (pc' := 90) dX12_slip_89 rfl rfl rfl ?_
                  refine S.bipush (pc' := 92) dX12_slip_90 rfl (by decide) ?_
                  refine S.iload_n (pc' := 93) dX12_slip_92 rfl rfl rfl ?_
                  refine S.iadd (pc' := 94) dX12_slip_93 rfl ?_
                  refine S.iast (pc' := 95) dX12_slip_94 rfl L_178 (by omega) (by omega) ?_
                  have eN : fp_up (fp_upM (fp_up M 178 (37 + t).toNat (M 178 t.toNat)) 178 (md_lay (fp_up M 178 (37 + t).toNat (M 178 t.toNat) 178) (0 + 10 + 9 * x) t i)) 178 t.toNat (10 + x) = fp_upM M 178 (fp_upf (fp_upf (md_lay (M 178) (0 + 10 + 9 * x) t i) (0 + t).toNat (10 + x)) (0 + 37 + t).toNat (pg.1 t)) := by
                    rw [fp_up_same, fp_upM_upM, fp_up_at, md_lay_up (by omega) (by omega) (by omega), hwt, Int.zero_add, show (0 : Int) + 37 + t = 37 + t by omega]
                    refine congrArg (fp_upM M 178) (funext fun j => ?_)
                    unfold fp_upf
                    (repeat' split) <;> first | rfl | (exfalso; omega)
                  rw [eN]
                  have c1 : mpIs (fp_upM M 178 (fp_upf (fp_upf (md_lay (M 178) (0 + 10 + 9 * x) t i) (0 + t).toNat (10 + x)) (0 + 37 + t).toNat (pg.1 t))) 0 g (aIns pg t x i.toNat) := by unfold mpIs; rw [fp_upM_at]; exact hmi
                  have f1 : frM M (fp_upM M 178 (fp_upf (fp_upf (md_lay (M 178) (0 + 10 + 9 * x) t i) (0 + t).toNat (10 + x)) (0 + 37 + t).toNat (pg.1 t))) 0 := ⟨fun c hc => fp_upM_ne hc, fun j hj => by rw [fp_upM_at]; unfold fp_upf md_lay; rw [n1, if_neg (by omega), if_neg (by omega), if_neg (by omega), if_neg (by omega), if_neg (by omega)]⟩
                  have n4 := (c1.2.2 x (by omega) (by omega)).1
                  refine S.aload_n (pc' := 96) dX12_slip_95 rfl rfl rfl ?_
                  refine S.iconst (pc' := 97) dX12_slip_96 rfl ?_
                  refine S.iload_n (pc' := 98) dX12_slip_97 rfl rfl rfl ?_
                  refine S.callVe (pc' := 101) dX12_slip_98 rfl cX12_198 (ok_X12_lie) rfl L_177 (by decide) rfl (Nat.le_of_ble_eq_true rfl) ?_
                  refine S.iret dX12_slip_101 rfl ?_
                  exact ⟨by omega, hcs.page hio hg f1 c1, f1.d⟩
                · exfalso; omega
              · exfalso; omega
            · exfalso; omega
  · rw [if_pos hin]
    by_cases hx2 : 0 ≤ x ∧ x < g.2.1
    · obtain ⟨n1, n2, n3⟩ := hcl.line hP hx2 hg
      refine S.aload_n (pc' := 1) dX12_slip_0 rfl rfl rfl ?_
      refine S.iload_n (pc' := 2) dX12_slip_1 rfl rfl rfl ?_
      refine S.callVi (pc' := 5) dX12_slip_2 rfl cX12_205 (bk_X12_isThing) rfl L_177 (by decide) rfl (Nat.le_of_ble_eq_true rfl) (fun z2 M2 q2 => ?_)
      obtain ⟨b2, rfl⟩ := q2
      refine S.if_eq (pc' := 8) (tgt := 32) dX12_slip_5 (by decide) rfl (by unfold fp_rng; omega) (fun h5 => ?_) (fun h5 => ?_)
      · refine S.iconst (pc' := 33) dX12_slip_32 rfl ?_
        refine S.iret dX12_slip_33 rfl ?_
        exact ⟨rfl, hcs, frD.refl _⟩
      · refine S.aload_n (pc' := 9) dX12_slip_8 rfl rfl rfl ?_
        refine S.iload_n (pc' := 10) dX12_slip_9 rfl rfl rfl ?_
        refine S.callVi (pc' := 13) dX12_slip_10 rfl cX12_219 (bk_X12_isLine) rfl L_177 (by decide) rfl (Nat.le_of_ble_eq_true rfl) (fun z10 M10 q10 => ?_)
        obtain ⟨b10, rfl⟩ := q10
        refine S.if_eq (pc' := 16) (tgt := 32) dX12_slip_13 (by decide) rfl (by unfold fp_rng; omega) (fun h13 => ?_) (fun h13 => ?_)
        · refine S.iconst (pc' := 33) dX12_slip_32 rfl ?_
          refine S.iret dX12_slip_33 rfl ?_
          exact ⟨rfl, hcs, frD.refl _⟩
        · refine S.iload_n (pc' := 17) dX12_slip_16 rfl rfl rfl ?_
          refine S.i2l (pc' := 18) dX12_slip_17 rfl hi ?_
          refine S.lconst (pc' := 19) (w := 0) dX12_slip_18 rfl rfl ?_
          refine S.aload_n (pc' := 20) dX12_slip_19 rfl rfl rfl ?_
          refine S.iconst (pc' := 21) dX12_slip_20 rfl ?_
          refine S.iload_n (pc' := 22) dX12_slip_21 rfl rfl rfl ?_
          refine S.callVe (pc' := 25) dX12_slip_22 rfl cX12_198 (ok_X12_lie) rfl L_177 (by decide) rfl (Nat.le_of_ble_eq_true rfl) ?_
          refine S.i2l (pc' := 26) dX12_slip_25 rfl (by unfold fp_rng; omega) ?_
          refine S.callSi (pc' := 29) dX12_slip_26 rfl cX12_94 (bk_X12_in) rfl (by decide) rfl (Nat.le_of_ble_eq_true rfl) (fun z26 M26 q26 => ?_)
          obtain ⟨b26, rfl⟩ := q26
          refine S.if_ne (pc' := 32) (tgt := 34) dX12_slip_29 (by decide) rfl (by unfold fp_rng; omega) (fun h29 => ?_) (fun h29 => ?_)
          · exfalso; omega
          · refine S.iconst (pc' := 33) dX12_slip_32 rfl ?_
            refine S.iret dX12_slip_33 rfl ?_
            exact ⟨rfl, hcs, frD.refl _⟩
    · refine S.aload_n (pc' := 1) dX12_slip_0 rfl rfl rfl ?_
      refine S.iload_n (pc' := 2) dX12_slip_1 rfl rfl rfl ?_
      refine S.callVi (pc' := 5) dX12_slip_2 rfl cX12_205 (bk_X12_isThing) rfl L_177 (by decide) rfl (Nat.le_of_ble_eq_true rfl) (fun z2 M2 q2 => ?_)
      obtain ⟨b2, rfl⟩ := q2
      refine S.if_eq (pc' := 8) (tgt := 32) dX12_slip_5 (by decide) rfl (by unfold fp_rng; omega) (fun h5 => ?_) (fun h5 => ?_)
      · refine S.iconst (pc' := 33) dX12_slip_32 rfl ?_
        refine S.iret dX12_slip_33 rfl ?_
        exact ⟨rfl, hcs, frD.refl _⟩
      · refine S.aload_n (pc' := 9) dX12_slip_8 rfl rfl rfl ?_
        refine S.iload_n (pc' := 10) dX12_slip_9 rfl rfl rfl ?_
        refine S.callVi (pc' := 13) dX12_slip_10 rfl cX12_219 (bk_X12_isLine) rfl L_177 (by decide) rfl (Nat.le_of_ble_eq_true rfl) (fun z10 M10 q10 => ?_)
        obtain ⟨b10, rfl⟩ := q10
        refine S.if_eq (pc' := 16) (tgt := 32) dX12_slip_13 (by decide) rfl (by unfold fp_rng; omega) (fun h13 => ?_) (fun h13 => ?_)
        · refine S.iconst (pc' := 33) dX12_slip_32 rfl ?_
          refine S.iret dX12_slip_33 rfl ?_
          exact ⟨rfl, hcs, frD.refl _⟩
        · exfalso; omega
end PUE
end
section
/-! THE PUBLIC CALLS: fault, torn, end, cut, forget, noted -/
def A_end (tp : List Int) (n : Int) : Int × List Int := if 0 ≤ n ∧ n ≤ tp.length then (tp.length, tp.take n.toNat) else (-1, tp)
def A_cut (vs : List aVt) (n : Int) : Int × List aVt := if 0 ≤ n ∧ n ≤ vs.length then (vs.length, vs.take n.toNat) else (-1, vs)
def A_noted (g : aGd) (nt : List Int) (t : Int) : Int × List Int := if ¬ (0 ≤ t ∧ t < g.1) then (-1, nt) else if t ∈ nt then (-2, nt) else if 8 ≤ nt.length then (-3, nt) else (nt.length + 1, nt ++ [t])
theorem fp_find_mem {L : List Int} {t : Int} : fp_find (fun i => L.getD i.toNat 0) t L.length 0 = -4 ↔ t ∉ L := by
  constructor
  · intro h hm
    obtain ⟨i, hi, e⟩ := List.getElem_of_mem hm
    have h2 : ∀ (n : Nat) (k : Int), 0 ≤ k → k ≤ i → (i : Int) < k + n → fp_find (fun i => L.getD i.toNat 0) t n k ≠ -4 := by
      intro n
      induction n with
      | zero => intro k k0 k1 k2; omega
      | succ n ih =>
        intro k k0 k1 k2
        unfold fp_find
        split
        · omega
        · rename_i hne
          refine ih (k + 1) (by omega) ?_ (by omega)
          apply Decidable.byContradiction
          intro q
          have hk : k = i := by omega
          subst hk
          apply hne
          show L.getD (i : Int).toNat 0 = t
          rw [Int.toNat_natCast, List.getD_eq_getElem?_getD, List.getElem?_eq_getElem hi, e]
          rfl
    exact h2 L.length 0 (by omega) (by omega) (by omega) h
  · intro h
    refine fp_find_none _ _ (fun j j0 j1 q => h ?_)
    rw [← q]
    exact fp_getD_mem (by omega)
section PUF
variable {l : Launch} {G : fp_WG} {M N : fp_Mem} {tp tp' : List Int} {fl fl' : Int} {g : aGd} {pg : aPg} {vs vs' : List aVt} {nt nt' : List Int} {im : aIm} {sh : aSh} {tn tn' : Int}
theorem cc_fault (hc : CS M tp fl g pg vs nt im sh tn) : fp_Ok l G 0 kX11_fault [rV G 0] M (qE fl M) := by
  obtain ⟨⟨-, -, -, a4, -⟩, -⟩ := hc
  refine fp_Ok.of (r := 0) rfl (Nat.le_of_ble_eq_true rfl) rfl ?_
  refine S.aload_n (pc' := 1) dX11_fault_0 rfl rfl rfl ?_
  refine S.getR (pc' := 4) dX11_fault_1 rfl fX11_16 L_0 rf_0_2 ?_
  refine S.getI (pc' := 7) dX11_fault_4 rfl fX11_98 L_2 ?_
  refine S.iret dX11_fault_7 rfl ?_
  exact ⟨a4, rfl⟩
theorem mm_fault (hc : MS M tp fl g pg vs nt im sh tn) : fp_Ok l G 0 kX12_fault [rV G 177] M (qE fl M) := by
  obtain ⟨⟨-, -, -, a4, -⟩, -⟩ := hc
  refine fp_Ok.of (r := 0) rfl (Nat.le_of_ble_eq_true rfl) rfl ?_
  refine S.aload_n (pc' := 1) dX12_fault_0 rfl rfl rfl ?_
  refine S.getI (pc' := 4) dX12_fault_1 rfl fX12_190 L_177 ?_
  refine S.iret dX12_fault_4 rfl ?_
  exact ⟨a4, rfl⟩
theorem cc_torn (hc : CS M tp fl g pg vs nt im sh tn) : fp_Ok l G 0 kX11_torn [rV G 0] M (qE tn M) := by
  obtain ⟨⟨-, -, -, -, a5, -⟩, -⟩ := hc
  refine fp_Ok.of (r := 0) rfl (Nat.le_of_ble_eq_true rfl) rfl ?_
  refine S.aload_n (pc' := 1) dX11_torn_0 rfl rfl rfl ?_
  refine S.getI (pc' := 4) dX11_torn_1 rfl fX11_334 L_0 ?_
  refine S.iret dX11_torn_4 rfl ?_
  exact ⟨a5, rfl⟩
theorem mm_torn (hc : MS M tp fl g pg vs nt im sh tn) : fp_Ok l G 0 kX12_torn [rV G 177] M (qE tn M) := by
  obtain ⟨⟨-, -, -, -, a5⟩, -⟩ := hc
  refine fp_Ok.of (r := 0) rfl (Nat.le_of_ble_eq_true rfl) rfl ?_
  refine S.aload_n (pc' := 1) dX12_torn_0 rfl rfl rfl ?_
  refine S.getI (pc' := 4) dX12_torn_1 rfl fX12_330 L_177 ?_
  refine S.iret dX12_torn_4 rfl ?_
  exact ⟨a5, rfl⟩
theorem cc_end {n : Int} (hc : CS M tp fl g pg vs nt im sh tn) (hn : fp_rng n) : fp_Ok l G 0 kX11_end [rV G 0, iV n] M (qI fun z N => z = (A_end tp n).1 ∧ CS N (A_end tp n).2 fl g pg vs nt im sh tn ∧ frC M N) := by
  have hcs := hc
  obtain ⟨⟨a1, a2, a3, a4, a5, a6⟩, -⟩ := hc
  refine fp_Ok.of (r := 1) rfl (Nat.le_of_ble_eq_true rfl) rfl ?_
  unfold A_end
  by_cases hin : 0 ≤ n ∧ n ≤ tp.length
  · rw [if_pos hin]
    have hlt : (tp.take n.toNat).length = n.toNat := by rw [List.length_take]; omega
    refine S.iload_n (pc' := 1) dX11_end_0 rfl rfl rfl ?_
    refine S.if_lt (pc' := 4) (tgt := 12) dX11_end_1 (by decide) rfl hn (fun h1 => ?_) (fun h1 => ?_)
    · exfalso; omega
    · refine S.iload_n (pc' := 5) dX11_end_4 rfl rfl rfl ?_
      refine S.aload_n (pc' := 6) dX11_end_5 rfl rfl rfl ?_
      refine S.getI (pc' := 9) dX11_end_6 rfl fX11_90 L_0 ?_
      refine S.icmp_le (pc' := 12) (tgt := 14) dX11_end_9 (by decide) rfl hn (by unfold fp_rng; omega) (fun h9 => ?_) (fun h9 => ?_)
      · refine S.aload_n (pc' := 15) dX11_end_14 rfl rfl rfl ?_
        refine S.getI (pc' := 18) dX11_end_15 rfl fX11_90 L_0 ?_
        refine S.istore_n (pc' := 19) (LL' := [_, _, _]) dX11_end_18 rfl (by decide) rfl rfl rfl ?_
        refine S.aload_n (pc' := 20) dX11_end_19 rfl rfl rfl ?_
        refine S.iload_n (pc' := 21) dX11_end_20 rfl rfl rfl ?_
        refine S.putI (pc' := 24) dX11_end_21 rfl fX11_90 L_0 ?_
        refine S.iload_n (pc' := 25) dX11_end_24 rfl rfl rfl ?_
        refine S.iret dX11_end_25 rfl ?_
        refine ⟨a1, hcs.tap (fun a ha => fp_up_ne (by omega)) ?_, fun c hc => fp_up_ne (by omega)⟩
        unfold csA
        rw [fp_up_at, fp_up_ne (by decide), fp_up_ne (by decide), fp_upf_at, fp_upf_ne (by decide), hlt]
        refine ⟨by omega, by omega, fun i i0 i1 => ?_, a4, a5, a6⟩
        rw [fp_takeD _ _ _ _ (by omega)]
        exact a3 i i0 (by omega)
      · exfalso; omega
  · rw [if_neg hin]
    refine S.iload_n (pc' := 1) dX11_end_0 rfl rfl rfl ?_
    refine S.if_lt (pc' := 4) (tgt := 12) dX11_end_1 (by decide) rfl hn (fun h1 => ?_) (fun h1 => ?_)
    · refine S.iconst (pc' := 13) dX11_end_12 rfl ?_
      refine S.iret dX11_end_13 rfl ?_
      exact ⟨rfl, hcs, frC.refl _⟩
    · refine S.iload_n (pc' := 5) dX11_end_4 rfl rfl rfl ?_
      refine S.aload_n (pc' := 6) dX11_end_5 rfl rfl rfl ?_
      refine S.getI (pc' := 9) dX11_end_6 rfl fX11_90 L_0 ?_
      refine S.icmp_le (pc' := 12) (tgt := 14) dX11_end_9 (by decide) rfl hn (by unfold fp_rng; omega) (fun h9 => ?_) (fun h9 => ?_)
      · exfalso; omega
      · refine S.iconst (pc' := 13) dX11_end_12 rfl ?_
        refine S.iret dX11_end_13 rfl ?_
        exact ⟨rfl, hcs, frC.refl _⟩
theorem mm_end {n : Int} (hc : MS M tp fl g pg vs nt im sh tn) (hn : fp_rng n) : fp_Ok l G 1 kX12_end [rV G 177, iV n] M (qI fun z N => z = (A_end tp n).1 ∧ MS N (A_end tp n).2 fl g pg vs nt im sh tn ∧ frD M N) := by
  have hcs := hc
  obtain ⟨⟨a1, a2, a3, a4, a5⟩, -⟩ := hc
  have hn' := hn
  unfold fp_rng at hn'
  refine fp_Ok.of (r := 1) rfl (Nat.le_of_ble_eq_true rfl) rfl ?_
  unfold A_end
  by_cases hin : 0 ≤ n ∧ n ≤ tp.length
  · rw [if_pos hin]
    have hlt : (tp.take n.toNat).length = n.toNat := by rw [List.length_take]; omega
    refine S.iload_n (pc' := 1) dX12_end_0 rfl rfl rfl ?_
    refine S.i2l (pc' := 2) dX12_end_1 rfl hn ?_
    refine S.lconst (pc' := 3) (w := 0) dX12_end_2 rfl rfl ?_
    refine S.aload_n (pc' := 4) dX12_end_3 rfl rfl rfl ?_
    refine S.getI (pc' := 7) dX12_end_4 rfl fX12_91 L_177 ?_
    refine S.i2l (pc' := 8) dX12_end_7 rfl (by unfold fp_rng; omega) ?_
    refine S.callSi (pc' := 11) dX12_end_8 rfl cX12_94 (bk_X12_in) rfl (by decide) rfl (Nat.le_of_ble_eq_true rfl) (fun z8 M8 q8 => ?_)
    obtain ⟨b8, rfl⟩ := q8
    refine S.if_ne (pc' := 14) (tgt := 16) dX12_end_11 (by decide) rfl (by unfold fp_rng; omega) (fun h11 => ?_) (fun h11 => ?_)
    · refine S.aload_n (pc' := 17) dX12_end_16 rfl rfl rfl ?_
      refine S.getI (pc' := 20) dX12_end_17 rfl fX12_91 L_177 ?_
      refine S.istore_n (pc' := 21) (LL' := [_, _, _]) dX12_end_20 rfl (by decide) rfl rfl rfl ?_
      refine S.aload_n (pc' := 22) dX12_end_21 rfl rfl rfl ?_
      refine S.iload_n (pc' := 23) dX12_end_22 rfl rfl rfl ?_
      refine S.putI (pc' := 26) dX12_end_23 rfl fX12_91 L_177 ?_
      refine S.iload_n (pc' := 27) dX12_end_26 rfl rfl rfl ?_
      refine S.iret dX12_end_27 rfl ?_
      refine ⟨a1, hcs.tap (fun a ha hb => fp_up_ne ha) ⟨by rw [fp_up_at, fp_upf_ne (by decide)], by rw [fp_up_at, fp_upf_ne (by decide)], by rw [fp_up_at, fp_upf_ne (by decide)]⟩ ?_, fun c hc => fp_up_ne (by omega)⟩
      unfold msA
      rw [fp_up_at, fp_up_ne (by decide), fp_upf_at, fp_upf_ne (by decide), fp_upf_ne (by decide), hlt]
      refine ⟨by omega, by omega, fun i i0 i1 => ?_, a4, a5⟩
      rw [fp_takeD _ _ _ _ (by omega)]
      exact a3 i i0 (by omega)
    · exfalso; omega
  · rw [if_neg hin]
    refine S.iload_n (pc' := 1) dX12_end_0 rfl rfl rfl ?_
    refine S.i2l (pc' := 2) dX12_end_1 rfl hn ?_
    refine S.lconst (pc' := 3) (w := 0) dX12_end_2 rfl rfl ?_
    refine S.aload_n (pc' := 4) dX12_end_3 rfl rfl rfl ?_
    refine S.getI (pc' := 7) dX12_end_4 rfl fX12_91 L_177 ?_
    refine S.i2l (pc' := 8) dX12_end_7 rfl (by unfold fp_rng; omega) ?_
    refine S.callSi (pc' := 11) dX12_end_8 rfl cX12_94 (bk_X12_in) rfl (by decide) rfl (Nat.le_of_ble_eq_true rfl) (fun z8 M8 q8 => ?_)
    obtain ⟨b8, rfl⟩ := q8
    refine S.if_ne (pc' := 14) (tgt := 16) dX12_end_11 (by decide) rfl (by unfold fp_rng; omega) (fun h11 => ?_) (fun h11 => ?_)
    · exfalso; omega
    · refine S.iconst (pc' := 15) dX12_end_14 rfl ?_
      refine S.iret dX12_end_15 rfl ?_
      exact ⟨rfl, hcs, frD.refl _⟩
theorem cc_cut {n : Int} (hc : CS M tp fl g pg vs nt im sh tn) (hn : fp_rng n) : fp_Ok l G 0 kX11_cut [rV G 0, iV n] M (qI fun z N => z = (A_cut vs n).1 ∧ CS N tp fl g pg (A_cut vs n).2 nt im sh tn ∧ frC M N) := by
  have hcs := hc
  obtain ⟨-, -, -, ⟨a1, a2, a3⟩, -⟩ := hc
  refine fp_Ok.of (r := 1) rfl (Nat.le_of_ble_eq_true rfl) rfl ?_
  unfold A_cut
  by_cases hin : 0 ≤ n ∧ n ≤ vs.length
  · rw [if_pos hin]
    have hlt : (vs.take n.toNat).length = n.toNat := by rw [List.length_take]; omega
    refine S.iload_n (pc' := 1) dX11_cut_0 rfl rfl rfl ?_
    refine S.if_lt (pc' := 4) (tgt := 15) dX11_cut_1 (by decide) rfl hn (fun h1 => ?_) (fun h1 => ?_)
    · exfalso; omega
    · refine S.iload_n (pc' := 5) dX11_cut_4 rfl rfl rfl ?_
      refine S.aload_n (pc' := 6) dX11_cut_5 rfl rfl rfl ?_
      refine S.getR (pc' := 9) dX11_cut_6 rfl fX11_37 L_0 rf_0_5 ?_
      refine S.getI (pc' := 12) dX11_cut_9 rfl fX11_205 (vs_lay vs27) ?_
      refine S.icmp_le (pc' := 15) (tgt := 17) dX11_cut_12 (by decide) rfl hn (by unfold fp_rng; omega) (fun h12 => ?_) (fun h12 => ?_)
      · refine S.aload_n (pc' := 18) dX11_cut_17 rfl rfl rfl ?_
        refine S.getR (pc' := 21) dX11_cut_18 rfl fX11_37 L_0 rf_0_5 ?_
        refine S.getI (pc' := 24) dX11_cut_21 rfl fX11_205 (vs_lay vs27) ?_
        refine S.istore_n (pc' := 25) (LL' := [_, _, _]) dX11_cut_24 rfl (by decide) rfl rfl rfl ?_
        refine S.aload_n (pc' := 26) dX11_cut_25 rfl rfl rfl ?_
        refine S.getR (pc' := 29) dX11_cut_26 rfl fX11_37 L_0 rf_0_5 ?_
        refine S.iload_n (pc' := 30) dX11_cut_29 rfl rfl rfl ?_
        refine S.putI (pc' := 33) dX11_cut_30 rfl fX11_205 (vs_lay vs27) ?_
        refine S.iload_n (pc' := 34) dX11_cut_33 rfl rfl rfl ?_
        refine S.iret dX11_cut_34 rfl ?_
        refine ⟨a1, hcs.vis (fun a ha => fp_up_ne (by omega)) ?_, fun c hc => fp_up_ne (by omega)⟩
        unfold vsIs
        rw [fp_up_at, fp_up_ne (by decide), fp_up_ne (by decide), fp_up_ne (by decide), fp_up_ne (by decide), fp_upf_at, hlt]
        refine ⟨by omega, by omega, fun i i0 i1 => ?_⟩
        rw [fp_takeD _ _ _ _ (by omega)]
        exact a3 i i0 (by omega)
      · exfalso; omega
  · rw [if_neg hin]
    refine S.iload_n (pc' := 1) dX11_cut_0 rfl rfl rfl ?_
    refine S.if_lt (pc' := 4) (tgt := 15) dX11_cut_1 (by decide) rfl hn (fun h1 => ?_) (fun h1 => ?_)
    · refine S.iconst (pc' := 16) dX11_cut_15 rfl ?_
      refine S.iret dX11_cut_16 rfl ?_
      exact ⟨rfl, hcs, frC.refl _⟩
    · refine S.iload_n (pc' := 5) dX11_cut_4 rfl rfl rfl ?_
      refine S.aload_n (pc' := 6) dX11_cut_5 rfl rfl rfl ?_
      refine S.getR (pc' := 9) dX11_cut_6 rfl fX11_37 L_0 rf_0_5 ?_
      refine S.getI (pc' := 12) dX11_cut_9 rfl fX11_205 (vs_lay vs27) ?_
      refine S.icmp_le (pc' := 15) (tgt := 17) dX11_cut_12 (by decide) rfl hn (by unfold fp_rng; omega) (fun h12 => ?_) (fun h12 => ?_)
      · exfalso; omega
      · refine S.iconst (pc' := 16) dX11_cut_15 rfl ?_
        refine S.iret dX11_cut_16 rfl ?_
        exact ⟨rfl, hcs, frC.refl _⟩
theorem mm_cut {n : Int} (hc : MS M tp fl g pg vs nt im sh tn) (ho : OK g pg vs nt im sh) (hn : fp_rng n) : fp_Ok l G 1 kX12_cut [rV G 177, iV n] M (qI fun z N => z = (A_cut vs n).1 ∧ MS N tp fl g pg (A_cut vs n).2 nt im sh tn ∧ frD M N) := by
  have hcs := hc
  obtain ⟨-, -, -, ⟨a1, a2, a3⟩, -⟩ := hc
  have hn' := hn
  unfold fp_rng at hn'
  refine fp_Ok.of (r := 1) rfl (Nat.le_of_ble_eq_true rfl) rfl ?_
  unfold A_cut
  by_cases hin : 0 ≤ n ∧ n ≤ vs.length
  · rw [if_pos hin]
    have hlt : (vs.take n.toNat).length = n.toNat := by rw [List.length_take]; omega
    refine S.iload_n (pc' := 1) dX12_cut_0 rfl rfl rfl ?_
    refine S.i2l (pc' := 2) dX12_cut_1 rfl hn ?_
    refine S.lconst (pc' := 3) (w := 0) dX12_cut_2 rfl rfl ?_
    refine S.aload_n (pc' := 4) dX12_cut_3 rfl rfl rfl ?_
    refine S.callVe (pc' := 7) dX12_cut_4 rfl cX12_225 (ok_X12_visits) rfl L_177 (by decide) rfl (Nat.le_of_ble_eq_true rfl) ?_
    refine S.i2l (pc' := 8) dX12_cut_7 rfl (by unfold fp_rng; omega) ?_
    refine S.callSi (pc' := 11) dX12_cut_8 rfl cX12_94 (bk_X12_in) rfl (by decide) rfl (Nat.le_of_ble_eq_true rfl) (fun z8 M8 q8 => ?_)
    obtain ⟨b8, rfl⟩ := q8
    refine S.if_ne (pc' := 14) (tgt := 16) dX12_cut_11 (by decide) rfl (by unfold fp_rng; omega) (fun h11 => ?_) (fun h11 => ?_)
    · refine S.aload_n (pc' := 17) dX12_cut_16 rfl rfl rfl ?_
      refine S.callVe (pc' := 20) dX12_cut_17 rfl cX12_225 (ok_X12_visits) rfl L_177 (by decide) rfl (Nat.le_of_ble_eq_true rfl) ?_
      refine S.istore_n (pc' := 21) (LL' := [_, _, _]) dX12_cut_20 rfl (by decide) rfl rfl rfl ?_
      refine S.aload_n (pc' := 22) dX12_cut_21 rfl rfl rfl ?_
      refine S.getR (pc' := 25) dX12_cut_22 rfl fX12_7 L_177 rf_177_0 ?_
      refine S.bipush (pc' := 27) dX12_cut_25 rfl (by decide) ?_
      refine S.iload_n (pc' := 28) dX12_cut_27 rfl rfl rfl ?_
      refine S.iast (pc' := 29) dX12_cut_28 rfl L_178 (by omega) (by omega) ?_
      refine S.iload_n (pc' := 30) dX12_cut_29 rfl rfl rfl ?_
      refine S.iret dX12_cut_30 rfl ?_
      refine ⟨a1, hcs.vis ho (fun a ha => fp_up_ne ha) (fun j hj => by rw [fp_up_at, fp_upf_ne (by show j ≠ 95; omega)]) ?_, fun c hc => fp_up_ne (by omega)⟩
      unfold mvRow
      rw [fp_up_at]
      dsimp only
      refine ⟨by rw [show (95 : Int).toNat = 95 from rfl, fp_upf_at, hlt]; omega, by omega, fun i i0 i1 => ?_⟩
      rw [fp_takeD _ _ _ _ (by omega), fp_upf_ne (by show _ ≠ 95; omega), fp_upf_ne (by show _ ≠ 95; omega), fp_upf_ne (by show _ ≠ 95; omega), fp_upf_ne (by show _ ≠ 95; omega)]
      exact a3 i i0 (by omega)
    · exfalso; omega
  · rw [if_neg hin]
    refine S.iload_n (pc' := 1) dX12_cut_0 rfl rfl rfl ?_
    refine S.i2l (pc' := 2) dX12_cut_1 rfl hn ?_
    refine S.lconst (pc' := 3) (w := 0) dX12_cut_2 rfl rfl ?_
    refine S.aload_n (pc' := 4) dX12_cut_3 rfl rfl rfl ?_
    refine S.callVe (pc' := 7) dX12_cut_4 rfl cX12_225 (ok_X12_visits) rfl L_177 (by decide) rfl (Nat.le_of_ble_eq_true rfl) ?_
    refine S.i2l (pc' := 8) dX12_cut_7 rfl (by unfold fp_rng; omega) ?_
    refine S.callSi (pc' := 11) dX12_cut_8 rfl cX12_94 (bk_X12_in) rfl (by decide) rfl (Nat.le_of_ble_eq_true rfl) (fun z8 M8 q8 => ?_)
    obtain ⟨b8, rfl⟩ := q8
    refine S.if_ne (pc' := 14) (tgt := 16) dX12_cut_11 (by decide) rfl (by unfold fp_rng; omega) (fun h11 => ?_) (fun h11 => ?_)
    · exfalso; omega
    · refine S.iconst (pc' := 15) dX12_cut_14 rfl ?_
      refine S.iret dX12_cut_15 rfl ?_
      exact ⟨rfl, hcs, frD.refl _⟩
theorem cc_forget (hc : CS M tp fl g pg vs nt im sh tn) : fp_Ok l G 0 kX11_forget [rV G 0] M (qI fun z N => z = nt.length ∧ CS N tp fl g pg vs [] im sh tn ∧ frC M N) := by
  have hcs := hc
  obtain ⟨-, -, -, -, ⟨a1, a2, a3⟩, -⟩ := hc
  refine fp_Ok.of (r := 1) rfl (Nat.le_of_ble_eq_true rfl) rfl ?_
  refine S.aload_n (pc' := 1) dX11_forget_0 rfl rfl rfl ?_
  refine S.getR (pc' := 4) dX11_forget_1 rfl fX11_44 L_0 rf_0_6 ?_
  refine S.getI (pc' := 7) dX11_forget_4 rfl fX11_119 (nt_lay nt32) ?_
  refine S.istore_n (pc' := 8) (LL' := [_, _]) dX11_forget_7 rfl (by decide) rfl rfl rfl ?_
  refine S.aload_n (pc' := 9) dX11_forget_8 rfl rfl rfl ?_
  refine S.getR (pc' := 12) dX11_forget_9 rfl fX11_44 L_0 rf_0_6 ?_
  refine S.iconst (pc' := 13) dX11_forget_12 rfl ?_
  refine S.putI (pc' := 16) dX11_forget_13 rfl fX11_119 (nt_lay nt32) ?_
  refine S.iload_n (pc' := 17) dX11_forget_16 rfl rfl rfl ?_
  refine S.iret dX11_forget_17 rfl ?_
  refine ⟨a1, hcs.nts (fun a ha => fp_up_ne (by omega)) ⟨by rw [fp_up_at, fp_upf_at]; rfl, by decide, fun i i0 i1 => ?_⟩, fun c hc => fp_up_ne (by omega)⟩
  simp at i1
  omega
theorem mm_forget (hc : MS M tp fl g pg vs nt im sh tn) (ho : OK g pg vs nt im sh) : fp_Ok l G 0 kX12_forget [rV G 177] M (qI fun z N => z = nt.length ∧ MS N tp fl g pg vs [] im sh tn ∧ frD M N) := by
  have hcs := hc
  obtain ⟨-, -, -, -, ⟨a1, a2, a3⟩, -⟩ := hc
  refine fp_Ok.of (r := 1) rfl (Nat.le_of_ble_eq_true rfl) rfl ?_
  refine S.aload_n (pc' := 1) dX12_forget_0 rfl rfl rfl ?_
  refine S.getR (pc' := 4) dX12_forget_1 rfl fX12_7 L_177 rf_177_0 ?_
  refine S.bipush (pc' := 6) dX12_forget_4 rfl (by decide) ?_
  refine S.iald (pc' := 7) dX12_forget_6 rfl L_178 (by omega) (by omega) ?_
  refine S.istore_n (pc' := 8) (LL' := [_, _]) dX12_forget_7 rfl (by decide) rfl rfl rfl ?_
  refine S.aload_n (pc' := 9) dX12_forget_8 rfl rfl rfl ?_
  refine S.getR (pc' := 12) dX12_forget_9 rfl fX12_7 L_177 rf_177_0 ?_
  refine S.bipush (pc' := 14) dX12_forget_12 rfl (by decide) ?_
  refine S.iconst (pc' := 15) dX12_forget_14 rfl ?_
  refine S.iast (pc' := 16) dX12_forget_15 rfl L_178 (by omega) (by omega) ?_
  refine S.iload_n (pc' := 17) dX12_forget_16 rfl rfl rfl ?_
  refine S.iret dX12_forget_17 rfl ?_
  refine ⟨a1, hcs.nts ho (fun a ha => fp_up_ne ha) (fun j hj => by rw [fp_up_at, fp_upf_ne (by show j ≠ 104; omega)]) ⟨by rw [fp_up_at, show (104 : Int).toNat = 104 from rfl, fp_upf_at]; rfl, by decide, fun i i0 i1 => ?_⟩, fun c hc => fp_up_ne (by omega)⟩
  simp at i1
  omega
end PUF
end
section
/-! NOTES; THE PUBLIC CALLS: noted, count -/
section PUG
variable {l : Launch} {G : fp_WG} {M N : fp_Mem} {tp tp' : List Int} {fl fl' : Int} {g : aGd} {pg : aPg} {vs vs' : List aVt} {nt nt' : List Int} {im : aIm} {sh : aSh} {tn tn' : Int} {k : Nat}
theorem nspot_loop {t : Int} (hk : fp_isnt k) (hn : ntIs M k nt) (hno : ntOk g nt) (hg : gOk g) (ht : fp_rng t) : ∀ (n : Nat) (i : Int), ((nt.length : Int) - i).toNat = n → 0 ≤ i → i ≤ nt.length →
    fp_S l G 0 kX3_spotOf 2 [some (rV G k), some (iV t), some (iV i)] [] M (qE (fp_find (fun i => nt.getD i.toNat 0) t n i) M) := by
  obtain ⟨a1, a2, a3⟩ := hn
  have hg1 := hg.1
  intro n
  induction n with
  | zero =>
    intro i h h0 h1
    refine S.iload_n (pc' := 3) dX3_spotOf_2 rfl rfl rfl ?_
    refine S.aload_n (pc' := 4) dX3_spotOf_3 rfl rfl rfl ?_
    refine S.getI (pc' := 7) dX3_spotOf_4 rfl fX3_15 (nt_lay hk) ?_
    refine S.icmp_ge (pc' := 10) (tgt := 28) dX3_spotOf_7 (by decide) rfl (by unfold fp_rng; omega) (by unfold fp_rng; omega) (fun h7 => ?_) (fun h7 => ?_)
    · refine S.bipush (pc' := 30) dX3_spotOf_28 rfl (by decide) ?_
      refine S.iret dX3_spotOf_30 rfl ?_
      exact ⟨rfl, rfl⟩
    · exfalso; omega
  | succ n ih =>
    intro i h h0 h1
    unfold fp_find
    have q := a3 i h0 (by omega)
    have q2 := hno.1 _ (fp_getD_mem (L := nt) (i := i.toNat) (by omega))
    refine S.iload_n (pc' := 3) dX3_spotOf_2 rfl rfl rfl ?_
    refine S.aload_n (pc' := 4) dX3_spotOf_3 rfl rfl rfl ?_
    refine S.getI (pc' := 7) dX3_spotOf_4 rfl fX3_15 (nt_lay hk) ?_
    refine S.icmp_ge (pc' := 10) (tgt := 28) dX3_spotOf_7 (by decide) rfl (by unfold fp_rng; omega) (by unfold fp_rng; omega) (fun h7 => ?_) (fun h7 => ?_)
    · refine S.bipush (pc' := 30) dX3_spotOf_28 rfl (by decide) ?_
      refine S.iret dX3_spotOf_30 rfl ?_
      exfalso; omega
    · refine S.aload_n (pc' := 11) dX3_spotOf_10 rfl rfl rfl ?_
      refine S.getR (pc' := 14) dX3_spotOf_11 rfl fX3_9 (nt_lay hk) (nt_r1 hk) ?_
      refine S.iload_n (pc' := 15) dX3_spotOf_14 rfl rfl rfl ?_
      refine S.iald (pc' := 16) dX3_spotOf_15 rfl (nt_a1 hk) (by omega) (by omega) ?_
      refine S.iload_n (pc' := 17) dX3_spotOf_16 rfl rfl rfl ?_
      refine S.icmp_ne (pc' := 20) (tgt := 22) dX3_spotOf_17 (by decide) rfl (by unfold fp_rng; omega) ht (fun h17 => ?_) (fun h17 => ?_)
      · refine S.iinc (pc' := 25) (LL' := [_, _, _]) dX3_spotOf_22 rfl (by decide) rfl rfl rfl ?_
        refine S.goto (pc' := 2) dX3_spotOf_25 (by decide) ?_
        rw [q] at h17; rw [if_neg h17]
        exact ih _ (by omega) (by omega) (by omega)
      · refine S.iload_n (pc' := 21) dX3_spotOf_20 rfl rfl rfl ?_
        refine S.iret dX3_spotOf_21 rfl ?_
        exact ⟨by rw [q] at h17; rw [if_pos h17], rfl⟩
theorem rk_X3_spotOf {t : Int} (hk : fp_isnt k) (hn : ntIs M k nt := by assumption) (hno : ntOk g nt := by assumption) (hg : gOk g := by assumption) (ht : fp_rng t := by first | assumption | (unfold fp_rng; omega)) : fp_Ok l G 0 kX3_spotOf [rV G k, iV t] M (qE (fp_find (fun i => nt.getD i.toNat 0) t nt.length 0) M) := by
  refine fp_Ok.of (r := 1) rfl (Nat.le_of_ble_eq_true rfl) rfl ?_
  refine S.iconst (pc' := 1) dX3_spotOf_0 rfl ?_
  refine S.istore_n (pc' := 2) (LL' := [_, _, _]) dX3_spotOf_1 rfl (by decide) rfl rfl rfl ?_
  exact nspot_loop hk hn hno hg ht _ 0 (by omega) (by omega) (by omega)
theorem ntIs.app {t : Int} (hn : ntIs M k nt) (h8 : nt.length < 8) (e0 : N k = fp_upf (M k) 0 (nt.length + 1)) (e1 : N (k + 1) = fp_upf (M (k + 1)) nt.length t) : ntIs N k (nt ++ [t]) := by
  obtain ⟨a1, a2, a3⟩ := hn
  unfold ntIs
  rw [e0, e1, fp_upf_at, List.length_append]
  refine ⟨by simp, by simp; omega, fun i i0 i1 => ?_⟩
  simp at i1
  rw [fp_appD]
  by_cases h : i < nt.length
  · rw [fp_upf_ne (by omega), if_pos (by omega)]; exact a3 i i0 h
  · rw [if_neg (by omega), if_pos (by omega), show i.toNat = nt.length by omega, fp_upf_at]
theorem rk_X3_add {t : Int} (hk : fp_isnt k) (hn : ntIs M k nt := by assumption) : fp_Ok l G 0 kX3_add [rV G k, iV t] M (qI fun z N => z = (if 8 ≤ nt.length then 0 else 1) ∧ ntIs N k (if 8 ≤ nt.length then nt else nt ++ [t]) ∧ ∀ a, (a < k ∨ k + 1 < a) → N a = M a) := by
  have hn' := hn
  obtain ⟨a1, a2, a3⟩ := hn
  refine fp_Ok.of (r := 0) rfl (Nat.le_of_ble_eq_true rfl) rfl ?_
  by_cases h8 : 8 ≤ nt.length
  · rw [if_pos h8, if_pos h8]
    refine S.aload_n (pc' := 1) dX3_add_0 rfl rfl rfl ?_
    refine S.getI (pc' := 4) dX3_add_1 rfl fX3_15 (nt_lay hk) ?_
    refine S.bipush (pc' := 6) dX3_add_4 rfl (by decide) ?_
    refine S.icmp_lt (pc' := 9) (tgt := 11) dX3_add_6 (by decide) rfl (by unfold fp_rng; omega) (by unfold fp_rng; omega) (fun h6 => ?_) (fun h6 => ?_)
    · exfalso; omega
    · refine S.iconst (pc' := 10) dX3_add_9 rfl ?_
      refine S.zret dX3_add_10 rfl (by first | exact Or.inl rfl | exact Or.inr rfl | omega) ?_
      exact ⟨rfl, hn', fun a ha => rfl⟩
  · rw [if_neg h8, if_neg h8]
    have ne1 : k + 1 ≠ k := by omega
    refine S.aload_n (pc' := 1) dX3_add_0 rfl rfl rfl ?_
    refine S.getI (pc' := 4) dX3_add_1 rfl fX3_15 (nt_lay hk) ?_
    refine S.bipush (pc' := 6) dX3_add_4 rfl (by decide) ?_
    refine S.icmp_lt (pc' := 9) (tgt := 11) dX3_add_6 (by decide) rfl (by unfold fp_rng; omega) (by unfold fp_rng; omega) (fun h6 => ?_) (fun h6 => ?_)
    · refine S.aload_n (pc' := 12) dX3_add_11 rfl rfl rfl ?_
      refine S.getR (pc' := 15) dX3_add_12 rfl fX3_9 (nt_lay hk) (nt_r1 hk) ?_
      refine S.aload_n (pc' := 16) dX3_add_15 rfl rfl rfl ?_
      refine S.getI (pc' := 19) dX3_add_16 rfl fX3_15 (nt_lay hk) ?_
      refine S.iload_n (pc' := 20) dX3_add_19 rfl rfl rfl ?_
      rw [a1]
      refine S.iast (pc' := 21) dX3_add_20 rfl (nt_a1 hk) (by omega) (by omega) ?_
      refine S.aload_n (pc' := 22) dX3_add_21 rfl rfl rfl ?_
      refine S.dup (pc' := 23) dX3_add_22 rfl rfl ?_
      refine S.getI (pc' := 26) dX3_add_23 rfl fX3_15 (nt_lay hk) ?_
      refine S.iconst (pc' := 27) dX3_add_26 rfl ?_
      rw [fp_up_ne (show k ≠ k + 1 by omega), a1]
      refine S.iadd (pc' := 28) dX3_add_27 rfl ?_
      refine S.putI (pc' := 31) dX3_add_28 rfl fX3_15 (nt_lay hk) ?_
      refine S.iconst (pc' := 32) dX3_add_31 rfl ?_
      refine S.zret dX3_add_32 rfl (by first | exact Or.inl rfl | exact Or.inr rfl | omega) ?_
      refine ⟨rfl, hn'.app (by omega) ?_ ?_, fun a ha => by rw [fp_up_ne (by omega), fp_up_ne (by omega)]⟩
      · rw [fp_up_at, fp_up_ne (show k ≠ k + 1 by omega)]
      · rw [fp_up_ne ne1, fp_up_at, Int.toNat_natCast]
    · exfalso; omega
theorem cc_noted {t : Int} (hc : CS M tp fl g pg vs nt im sh tn) (ho : OK g pg vs nt im sh) (ht : fp_rng t) : fp_Ok l G 1 kX11_noted [rV G 0, iV t] M (qI fun z N => z = (A_noted g nt t).1 ∧ CS N tp fl g pg vs (A_noted g nt t).2 im sh tn ∧ frC M N) := by
  have hcs := hc
  obtain ⟨-, hd, -, -, hn, -⟩ := hc
  obtain ⟨hg, hP, -, hno, -⟩ := ho
  have hl := hn.2.1
  have hfi := fp_find_in (f := fun i => nt.getD i.toNat 0) (t := t) nt.length 0
  have hfm := fp_find_mem (L := nt) (t := t)
  refine fp_Ok.of (r := 0) rfl (Nat.le_of_ble_eq_true rfl) rfl ?_
  unfold A_noted
  by_cases hin : 0 ≤ t ∧ t < g.1
  · rw [if_neg (fun q => q hin)]
    by_cases hm : t ∈ nt
    · rw [if_pos hm]
      have hne : fp_find (fun i => nt.getD i.toNat 0) t nt.length 0 ≠ -4 := fun q => hfm.mp q hm
      refine S.aload_n (pc' := 1) dX11_noted_0 rfl rfl rfl ?_
      refine S.getR (pc' := 4) dX11_noted_1 rfl fX11_23 L_0 rf_0_3 ?_
      refine S.iload_n (pc' := 5) dX11_noted_4 rfl rfl rfl ?_
      refine S.callVi (pc' := 8) dX11_noted_5 rfl cX11_126 (bk_X1_hasThing gd18) rfl (gd_lay gd18) (by decide) rfl (Nat.le_of_ble_eq_true rfl) (fun z5 M5 q5 => ?_)
      obtain ⟨b5, rfl⟩ := q5
      refine S.if_ne (pc' := 11) (tgt := 13) dX11_noted_8 (by decide) rfl (by unfold fp_rng; omega) (fun h8 => ?_) (fun h8 => ?_)
      · refine S.aload_n (pc' := 14) dX11_noted_13 rfl rfl rfl ?_
        refine S.getR (pc' := 17) dX11_noted_14 rfl fX11_44 L_0 rf_0_6 ?_
        refine S.iload_n (pc' := 18) dX11_noted_17 rfl rfl rfl ?_
        refine S.callVe (pc' := 21) dX11_noted_18 rfl cX11_281 (rk_X3_spotOf (g := g) nt32) rfl (nt_lay nt32) (by decide) rfl (Nat.le_of_ble_eq_true rfl) ?_
        refine S.bipush (pc' := 23) dX11_noted_21 rfl (by decide) ?_
        refine S.icmp_eq (pc' := 26) (tgt := 29) dX11_noted_23 (by decide) rfl (by unfold fp_rng; omega) (by unfold fp_rng; omega) (fun h23 => ?_) (fun h23 => ?_)
        · exfalso; omega
        · refine S.bipush (pc' := 28) dX11_noted_26 rfl (by decide) ?_
          refine S.iret dX11_noted_28 rfl ?_
          exact ⟨rfl, hcs, frC.refl _⟩
      · exfalso; omega
    · rw [if_neg hm]
      have he : fp_find (fun i => nt.getD i.toNat 0) t nt.length 0 = -4 := hfm.mpr hm
      by_cases l8 : 8 ≤ nt.length
      · rw [if_pos l8]
        refine S.aload_n (pc' := 1) dX11_noted_0 rfl rfl rfl ?_
        refine S.getR (pc' := 4) dX11_noted_1 rfl fX11_23 L_0 rf_0_3 ?_
        refine S.iload_n (pc' := 5) dX11_noted_4 rfl rfl rfl ?_
        refine S.callVi (pc' := 8) dX11_noted_5 rfl cX11_126 (bk_X1_hasThing gd18) rfl (gd_lay gd18) (by decide) rfl (Nat.le_of_ble_eq_true rfl) (fun z5 M5 q5 => ?_)
        obtain ⟨b5, rfl⟩ := q5
        refine S.if_ne (pc' := 11) (tgt := 13) dX11_noted_8 (by decide) rfl (by unfold fp_rng; omega) (fun h8 => ?_) (fun h8 => ?_)
        · refine S.aload_n (pc' := 14) dX11_noted_13 rfl rfl rfl ?_
          refine S.getR (pc' := 17) dX11_noted_14 rfl fX11_44 L_0 rf_0_6 ?_
          refine S.iload_n (pc' := 18) dX11_noted_17 rfl rfl rfl ?_
          refine S.callVe (pc' := 21) dX11_noted_18 rfl cX11_281 (rk_X3_spotOf (g := g) nt32) rfl (nt_lay nt32) (by decide) rfl (Nat.le_of_ble_eq_true rfl) ?_
          refine S.bipush (pc' := 23) dX11_noted_21 rfl (by decide) ?_
          refine S.icmp_eq (pc' := 26) (tgt := 29) dX11_noted_23 (by decide) rfl (by unfold fp_rng; omega) (by unfold fp_rng; omega) (fun h23 => ?_) (fun h23 => ?_)
          · refine S.aload_n (pc' := 30) dX11_noted_29 rfl rfl rfl ?_
            refine S.getR (pc' := 33) dX11_noted_30 rfl fX11_44 L_0 rf_0_6 ?_
            refine S.iload_n (pc' := 34) dX11_noted_33 rfl rfl rfl ?_
            refine S.callVi (pc' := 37) dX11_noted_34 rfl cX11_282 (rk_X3_add nt32 hn) rfl (nt_lay nt32) (by decide) rfl (Nat.le_of_ble_eq_true rfl) (fun z34 M34 q34 => ?_)
            rw [if_pos l8, if_pos l8] at q34
            obtain ⟨z1, c1, f1⟩ := q34
            refine S.if_eq (pc' := 40) (tgt := 50) dX11_noted_37 (by decide) rfl (by unfold fp_rng; omega) (fun h37 => ?_) (fun h37 => ?_)
            · refine S.bipush (pc' := 52) dX11_noted_50 rfl (by decide) ?_
              refine S.iret dX11_noted_52 rfl ?_
              exact ⟨rfl, hcs.nts (fun a ha => f1 a (by omega)) c1, fun c hc => f1 c (by omega)⟩
            · exfalso; omega
          · exfalso; omega
        · exfalso; omega
      · rw [if_neg l8]
        refine S.aload_n (pc' := 1) dX11_noted_0 rfl rfl rfl ?_
        refine S.getR (pc' := 4) dX11_noted_1 rfl fX11_23 L_0 rf_0_3 ?_
        refine S.iload_n (pc' := 5) dX11_noted_4 rfl rfl rfl ?_
        refine S.callVi (pc' := 8) dX11_noted_5 rfl cX11_126 (bk_X1_hasThing gd18) rfl (gd_lay gd18) (by decide) rfl (Nat.le_of_ble_eq_true rfl) (fun z5 M5 q5 => ?_)
        obtain ⟨b5, rfl⟩ := q5
        refine S.if_ne (pc' := 11) (tgt := 13) dX11_noted_8 (by decide) rfl (by unfold fp_rng; omega) (fun h8 => ?_) (fun h8 => ?_)
        · refine S.aload_n (pc' := 14) dX11_noted_13 rfl rfl rfl ?_
          refine S.getR (pc' := 17) dX11_noted_14 rfl fX11_44 L_0 rf_0_6 ?_
          refine S.iload_n (pc' := 18) dX11_noted_17 rfl rfl rfl ?_
          refine S.callVe (pc' := 21) dX11_noted_18 rfl cX11_281 (rk_X3_spotOf (g := g) nt32) rfl (nt_lay nt32) (by decide) rfl (Nat.le_of_ble_eq_true rfl) ?_
          refine S.bipush (pc' := 23) dX11_noted_21 rfl (by decide) ?_
          refine S.icmp_eq (pc' := 26) (tgt := 29) dX11_noted_23 (by decide) rfl (by unfold fp_rng; omega) (by unfold fp_rng; omega) (fun h23 => ?_) (fun h23 => ?_)
          · refine S.aload_n (pc' := 30) dX11_noted_29 rfl rfl rfl ?_
            refine S.getR (pc' := 33) dX11_noted_30 rfl fX11_44 L_0 rf_0_6 ?_
            refine S.iload_n (pc' := 34) dX11_noted_33 rfl rfl rfl ?_
            refine S.callVi (pc' := 37) dX11_noted_34 rfl cX11_282 (rk_X3_add nt32 hn) rfl (nt_lay nt32) (by decide) rfl (Nat.le_of_ble_eq_true rfl) (fun z34 M34 q34 => ?_)
            rw [if_neg l8, if_neg l8] at q34
            obtain ⟨z1, c1, f1⟩ := q34
            have n4 := c1.1
            refine S.if_eq (pc' := 40) (tgt := 50) dX11_noted_37 (by decide) rfl (by unfold fp_rng; omega) (fun h37 => ?_) (fun h37 => ?_)
            · exfalso; omega
            · refine S.aload_n (pc' := 41) dX11_noted_40 rfl rfl rfl ?_
              refine S.getR (pc' := 44) dX11_noted_41 rfl fX11_44 L_0 rf_0_6 ?_
              refine S.getI (pc' := 47) dX11_noted_44 rfl fX11_119 (nt_lay nt32) ?_
              refine S.goto (pc' := 52) dX11_noted_47 (by decide) ?_
              refine S.iret dX11_noted_52 rfl ?_
              exact ⟨by rw [n4]; simp, hcs.nts (fun a ha => f1 a (by omega)) c1, fun c hc => f1 c (by omega)⟩
          · exfalso; omega
        · exfalso; omega
  · rw [if_pos hin]
    refine S.aload_n (pc' := 1) dX11_noted_0 rfl rfl rfl ?_
    refine S.getR (pc' := 4) dX11_noted_1 rfl fX11_23 L_0 rf_0_3 ?_
    refine S.iload_n (pc' := 5) dX11_noted_4 rfl rfl rfl ?_
    refine S.callVi (pc' := 8) dX11_noted_5 rfl cX11_126 (bk_X1_hasThing gd18) rfl (gd_lay gd18) (by decide) rfl (Nat.le_of_ble_eq_true rfl) (fun z5 M5 q5 => ?_)
    obtain ⟨b5, rfl⟩ := q5
    refine S.if_ne (pc' := 11) (tgt := 13) dX11_noted_8 (by decide) rfl (by unfold fp_rng; omega) (fun h8 => ?_) (fun h8 => ?_)
    · exfalso; omega
    · refine S.iconst (pc' := 12) dX11_noted_11 rfl ?_
      refine S.iret dX11_noted_12 rfl ?_
      exact ⟨rfl, hcs, frC.refl _⟩
theorem mnote_loop {t : Int} (hcs : MS M tp fl g pg vs nt im sh tn) (ho : OK g pg vs nt im sh) (hin : 0 ≤ t ∧ t < g.1) : ∀ (n : Nat) (i : Int), ((nt.length : Int) - i).toNat = n → 0 ≤ i → i ≤ nt.length →
    fp_S l G 2 kX12_noted 12 [some (rV G 177), some (iV t), some (iV i)] [] M (qI fun z N => z = (if fp_find (fun i => nt.getD i.toNat 0) t n i ≠ -4 then -2 else if 8 ≤ nt.length then -3 else (nt.length : Int) + 1) ∧ MS N tp fl g pg vs (if fp_find (fun i => nt.getD i.toNat 0) t n i ≠ -4 then nt else if 8 ≤ nt.length then nt else nt ++ [t]) im sh tn ∧ frD M N) := by
  have hcs' := hcs
  obtain ⟨-, hd, -, -, ⟨a1, a2, a3⟩, -⟩ := hcs
  have a1' : M 178 (104 : Int).toNat = nt.length := a1
  have hno := ho.2.2.2.1
  have hg1 := ho.1.1
  intro n
  induction n with
  | zero =>
    intro i h h0 h1
    have e : fp_find (fun i => nt.getD i.toNat 0) t 0 i = -4 := rfl
    have hne : ¬ (fp_find (fun i => nt.getD i.toNat 0) t 0 i ≠ -4) := fun q => q e
    rw [if_neg hne, if_neg hne]
    by_cases l8 : 8 ≤ nt.length
    · rw [if_pos l8, if_pos l8]
      refine S.iload_n (pc' := 13) dX12_noted_12 rfl rfl rfl ?_
      refine S.aload_n (pc' := 14) dX12_noted_13 rfl rfl rfl ?_
      refine S.getR (pc' := 17) dX12_noted_14 rfl fX12_7 L_177 rf_177_0 ?_
      refine S.bipush (pc' := 19) dX12_noted_17 rfl (by decide) ?_
      refine S.iald (pc' := 20) dX12_noted_19 rfl L_178 (by omega) (by omega) ?_
      refine S.icmp_ge (pc' := 23) (tgt := 45) dX12_noted_20 (by decide) rfl (by unfold fp_rng; omega) (by unfold fp_rng; omega) (fun h20 => ?_) (fun h20 => ?_)
      · refine S.aload_n (pc' := 46) dX12_noted_45 rfl rfl rfl ?_
        refine S.getR (pc' := 49) dX12_noted_46 rfl fX12_7 L_177 rf_177_0 ?_
        refine S.bipush (pc' := 51) dX12_noted_49 rfl (by decide) ?_
        refine S.iald (pc' := 52) dX12_noted_51 rfl L_178 (by omega) (by omega) ?_
        refine S.bipush (pc' := 54) dX12_noted_52 rfl (by decide) ?_
        refine S.icmp_ne (pc' := 57) (tgt := 60) dX12_noted_54 (by decide) rfl (by unfold fp_rng; omega) (by unfold fp_rng; omega) (fun h54 => ?_) (fun h54 => ?_)
        · exfalso; omega
        · refine S.bipush (pc' := 59) dX12_noted_57 rfl (by decide) ?_
          refine S.iret dX12_noted_59 rfl ?_
          exact ⟨rfl, hcs', frD.refl _⟩
      · exfalso; omega
    · rw [if_neg l8, if_neg l8]
      refine S.iload_n (pc' := 13) dX12_noted_12 rfl rfl rfl ?_
      refine S.aload_n (pc' := 14) dX12_noted_13 rfl rfl rfl ?_
      refine S.getR (pc' := 17) dX12_noted_14 rfl fX12_7 L_177 rf_177_0 ?_
      refine S.bipush (pc' := 19) dX12_noted_17 rfl (by decide) ?_
      refine S.iald (pc' := 20) dX12_noted_19 rfl L_178 (by omega) (by omega) ?_
      refine S.icmp_ge (pc' := 23) (tgt := 45) dX12_noted_20 (by decide) rfl (by unfold fp_rng; omega) (by unfold fp_rng; omega) (fun h20 => ?_) (fun h20 => ?_)
      · refine S.aload_n (pc' := 46) dX12_noted_45 rfl rfl rfl ?_
        refine S.getR (pc' := 49) dX12_noted_46 rfl fX12_7 L_177 rf_177_0 ?_
        refine S.bipush (pc' := 51) dX12_noted_49 rfl (by decide) ?_
        refine S.iald (pc' := 52) dX12_noted_51 rfl L_178 (by omega) (by omega) ?_
        refine S.bipush (pc' := 54) dX12_noted_52 rfl (by decide) ?_
        refine S.icmp_ne (pc' := 57) (tgt := 60) dX12_noted_54 (by decide) rfl (by unfold fp_rng; omega) (by unfold fp_rng; omega) (fun h54 => ?_) (fun h54 => ?_)
        · refine S.aload_n (pc' := 61) dX12_noted_60 rfl rfl rfl ?_
          refine S.getR (pc' := 64) dX12_noted_61 rfl fX12_7 L_177 rf_177_0 ?_
          refine S.bipush (pc' := 66) dX12_noted_64 rfl (by decide) ?_
          refine S.aload_n (pc' := 67) dX12_noted_66 rfl rfl rfl ?_
          refine S.getR (pc' := 70) dX12_noted_67 rfl fX12_7 L_177 rf_177_0 ?_
          refine S.bipush (pc' := 72) dX12_noted_70 rfl (by decide) ?_
          refine S.iald (pc' := 73) dX12_noted_72 rfl L_178 (by omega) (by omega) ?_
          refine S.iadd (pc' := 74) dX12_noted_73 rfl ?_
          rw [show (104 : Int).toNat = 104 from rfl, a1]
          refine S.iload_n (pc' := 75) dX12_noted_74 rfl rfl rfl ?_
          refine S.iast (pc' := 76) dX12_noted_75 rfl L_178 (by omega) (by omega) ?_
          refine S.aload_n (pc' := 77) dX12_noted_76 rfl rfl rfl ?_
          refine S.getR (pc' := 80) dX12_noted_77 rfl fX12_7 L_177 rf_177_0 ?_
          refine S.bipush (pc' := 82) dX12_noted_80 rfl (by decide) ?_
          refine S.dup2 (pc' := 83) dX12_noted_82 rfl rfl rfl ?_
          refine S.iald (pc' := 84) dX12_noted_83 rfl L_178 (by omega) (by omega) ?_
          refine S.iconst (pc' := 85) dX12_noted_84 rfl ?_
          refine S.iadd (pc' := 86) dX12_noted_85 rfl ?_
          refine S.iast (pc' := 87) dX12_noted_86 rfl L_178 (by omega) (by omega) ?_
          rw [show (104 : Int).toNat = 104 from rfl, fp_up_same, fp_up_at, fp_upf_ne (show 104 ≠ (96 + (nt.length : Int)).toNat by omega), a1]
          refine S.aload_n (pc' := 88) dX12_noted_87 rfl rfl rfl ?_
          refine S.getR (pc' := 91) dX12_noted_88 rfl fX12_7 L_177 rf_177_0 ?_
          refine S.bipush (pc' := 93) dX12_noted_91 rfl (by decide) ?_
          refine S.iald (pc' := 94) dX12_noted_93 rfl L_178 (by omega) (by omega) ?_
          refine S.iret dX12_noted_94 rfl ?_
          have e4 : fp_upM M 178 (fp_upf (fp_upf (M 178) (96 + (nt.length : Int)).toNat t) 104 ((nt.length : Int) + 1)) 178 (104 : Int).toNat = (nt.length : Int) + 1 := by rw [fp_upM_at, show (104 : Int).toNat = 104 from rfl, fp_upf_at]
          refine ⟨e4, hcs'.nts ho (fun a ha => fp_upM_ne ha) (fun j hj => by rw [fp_upM_at, fp_upf_ne (by omega), fp_upf_ne (by omega)]) ?_, fun c hc => fp_upM_ne (by omega)⟩
          unfold mnRow
          rw [fp_upM_at, fp_upf_at, List.length_append]
          refine ⟨by simp, by simp; omega, fun i i0 i1 => ?_⟩
          simp at i1
          rw [fp_appD, fp_upf_ne (by omega)]
          by_cases h : i < nt.length
          · rw [fp_upf_ne (by omega), if_pos (by omega)]; exact a3 i i0 h
          · rw [if_neg (by omega), if_pos (by omega), show (96 + i).toNat = (96 + (nt.length : Int)).toNat by omega, fp_upf_at]
        · exfalso; omega
      · exfalso; omega
  | succ n ih =>
    intro i h h0 h1
    have q := a3 i h0 (by omega)
    have q2 := hno.1 _ (fp_getD_mem (L := nt) (i := i.toNat) (by omega))
    have es : fp_find (fun i => nt.getD i.toNat 0) t (n + 1) i = if nt.getD i.toNat 0 = t then i else fp_find (fun i => nt.getD i.toNat 0) t n (i + 1) := rfl
    by_cases hq : nt.getD i.toNat 0 = t
    · rw [es, if_pos hq, if_pos (by omega), if_pos (by omega)]
      refine S.iload_n (pc' := 13) dX12_noted_12 rfl rfl rfl ?_
      refine S.aload_n (pc' := 14) dX12_noted_13 rfl rfl rfl ?_
      refine S.getR (pc' := 17) dX12_noted_14 rfl fX12_7 L_177 rf_177_0 ?_
      refine S.bipush (pc' := 19) dX12_noted_17 rfl (by decide) ?_
      refine S.iald (pc' := 20) dX12_noted_19 rfl L_178 (by omega) (by omega) ?_
      refine S.icmp_ge (pc' := 23) (tgt := 45) dX12_noted_20 (by decide) rfl (by unfold fp_rng; omega) (by unfold fp_rng; omega) (fun h20 => ?_) (fun h20 => ?_)
      · exfalso; omega
      · refine S.aload_n (pc' := 24) dX12_noted_23 rfl rfl rfl ?_
        refine S.getR (pc' := 27) dX12_noted_24 rfl fX12_7 L_177 rf_177_0 ?_
        refine S.bipush (pc' := 29) dX12_noted_27 rfl (by decide) ?_
        refine S.iload_n (pc' := 30) dX12_noted_29 rfl rfl rfl ?_
        refine S.iadd (pc' := 31) dX12_noted_30 rfl ?_
        refine S.iald (pc' := 32) dX12_noted_31 rfl L_178 (by omega) (by omega) ?_
        refine S.iload_n (pc' := 33) dX12_noted_32 rfl rfl rfl ?_
        refine S.icmp_ne (pc' := 36) (tgt := 39) dX12_noted_33 (by decide) rfl (by unfold fp_rng; omega) (by unfold fp_rng; omega) (fun h33 => ?_) (fun h33 => ?_)
        · exfalso; omega
        · refine S.bipush (pc' := 38) dX12_noted_36 rfl (by decide) ?_
          refine S.iret dX12_noted_38 rfl ?_
          exact ⟨rfl, hcs', frD.refl _⟩
    · rw [es, if_neg hq]
      refine S.iload_n (pc' := 13) dX12_noted_12 rfl rfl rfl ?_
      refine S.aload_n (pc' := 14) dX12_noted_13 rfl rfl rfl ?_
      refine S.getR (pc' := 17) dX12_noted_14 rfl fX12_7 L_177 rf_177_0 ?_
      refine S.bipush (pc' := 19) dX12_noted_17 rfl (by decide) ?_
      refine S.iald (pc' := 20) dX12_noted_19 rfl L_178 (by omega) (by omega) ?_
      refine S.icmp_ge (pc' := 23) (tgt := 45) dX12_noted_20 (by decide) rfl (by unfold fp_rng; omega) (by unfold fp_rng; omega) (fun h20 => ?_) (fun h20 => ?_)
      · exfalso; omega
      · refine S.aload_n (pc' := 24) dX12_noted_23 rfl rfl rfl ?_
        refine S.getR (pc' := 27) dX12_noted_24 rfl fX12_7 L_177 rf_177_0 ?_
        refine S.bipush (pc' := 29) dX12_noted_27 rfl (by decide) ?_
        refine S.iload_n (pc' := 30) dX12_noted_29 rfl rfl rfl ?_
        refine S.iadd (pc' := 31) dX12_noted_30 rfl ?_
        refine S.iald (pc' := 32) dX12_noted_31 rfl L_178 (by omega) (by omega) ?_
        refine S.iload_n (pc' := 33) dX12_noted_32 rfl rfl rfl ?_
        refine S.icmp_ne (pc' := 36) (tgt := 39) dX12_noted_33 (by decide) rfl (by unfold fp_rng; omega) (by unfold fp_rng; omega) (fun h33 => ?_) (fun h33 => ?_)
        · refine S.iinc (pc' := 42) (LL' := [_, _, _]) dX12_noted_39 rfl (by decide) rfl rfl rfl ?_
          refine S.goto (pc' := 12) dX12_noted_42 (by decide) ?_
          exact ih _ (by omega) (by omega) (by omega)
        · exfalso; omega
theorem mm_noted {t : Int} (hc : MS M tp fl g pg vs nt im sh tn) (ho : OK g pg vs nt im sh) (ht : fp_rng t) : fp_Ok l G 2 kX12_noted [rV G 177, iV t] M (qI fun z N => z = (A_noted g nt t).1 ∧ MS N tp fl g pg vs (A_noted g nt t).2 im sh tn ∧ frD M N) := by
  have hcs := hc
  obtain ⟨-, hd, -⟩ := hc
  have hg := ho.1
  have hfm := fp_find_mem (L := nt) (t := t)
  refine fp_Ok.of (r := 1) rfl (Nat.le_of_ble_eq_true rfl) rfl ?_
  unfold A_noted
  by_cases hin : 0 ≤ t ∧ t < g.1
  · rw [if_neg (fun q => q hin)]
    have hw : fp_S l G 2 kX12_noted 12 [some (rV G 177), some (iV t), some (iV 0)] [] M (qI fun z N => z = (if t ∈ nt then (-2, nt) else if 8 ≤ nt.length then (-3, nt) else ((nt.length : Int) + 1, nt ++ [t])).1 ∧ MS N tp fl g pg vs (if t ∈ nt then (-2, nt) else if 8 ≤ nt.length then (-3, nt) else ((nt.length : Int) + 1, nt ++ [t])).2 im sh tn ∧ frD M N) := by
      have h := mnote_loop (l := l) (G := G) hcs ho hin nt.length 0 (by omega) (by omega) (by omega)
      by_cases hm : t ∈ nt
      · have hne : fp_find (fun i => nt.getD i.toNat 0) t nt.length 0 ≠ -4 := fun q => hfm.mp q hm
        rw [if_pos hne, if_pos hne] at h
        simp only [if_pos hm]
        exact h
      · have he : fp_find (fun i => nt.getD i.toNat 0) t nt.length 0 = -4 := hfm.mpr hm
        have hne : ¬ (fp_find (fun i => nt.getD i.toNat 0) t nt.length 0 ≠ -4) := fun q => q he
        rw [if_neg hne, if_neg hne] at h
        simp only [if_neg hm]
        by_cases l8 : 8 ≤ nt.length
        · rw [if_pos l8, if_pos l8] at h; simp only [if_pos l8]; exact h
        · rw [if_neg l8, if_neg l8] at h; simp only [if_neg l8]; exact h
    refine S.aload_n (pc' := 1) dX12_noted_0 rfl rfl rfl ?_
    refine S.iload_n (pc' := 2) dX12_noted_1 rfl rfl rfl ?_
    refine S.callVi (pc' := 5) dX12_noted_2 rfl cX12_205 (bk_X12_isThing) rfl L_177 (by decide) rfl (Nat.le_of_ble_eq_true rfl) (fun z2 M2 q2 => ?_)
    obtain ⟨b2, rfl⟩ := q2
    refine S.if_ne (pc' := 8) (tgt := 10) dX12_noted_5 (by decide) rfl (by unfold fp_rng; omega) (fun h5 => ?_) (fun h5 => ?_)
    · refine S.iconst (pc' := 11) dX12_noted_10 rfl ?_
      refine S.istore_n (pc' := 12) (LL' := [_, _, _]) dX12_noted_11 rfl (by decide) rfl rfl rfl ?_
      exact hw
    · exfalso; omega
  · rw [if_pos hin]
    refine S.aload_n (pc' := 1) dX12_noted_0 rfl rfl rfl ?_
    refine S.iload_n (pc' := 2) dX12_noted_1 rfl rfl rfl ?_
    refine S.callVi (pc' := 5) dX12_noted_2 rfl cX12_205 (bk_X12_isThing) rfl L_177 (by decide) rfl (Nat.le_of_ble_eq_true rfl) (fun z2 M2 q2 => ?_)
    obtain ⟨b2, rfl⟩ := q2
    refine S.if_ne (pc' := 8) (tgt := 10) dX12_noted_5 (by decide) rfl (by unfold fp_rng; omega) (fun h5 => ?_) (fun h5 => ?_)
    · exfalso; omega
    · refine S.iconst (pc' := 9) dX12_noted_8 rfl ?_
      refine S.iret dX12_noted_9 rfl ?_
      exact ⟨rfl, hcs, frD.refl _⟩
end PUG
end
section
/-! VISITS TOLD: lastDay, add, come -/
def aLast (vs : List aVt) : Int := if vs.length = 0 then 0 else (vs.getD (vs.length - 1) aV0).1
def A_come (g : aGd) (vs : List aVt) (day p x t : Int) : Int × List aVt := if ¬ ((aLast vs ≤ day ∧ 0 ≤ day ∧ day ≤ 99) ∧ (0 ≤ p ∧ p < 4) ∧ (0 ≤ x ∧ x < g.2.1) ∧ (t = -4 ∨ (0 ≤ t ∧ t < g.1))) then (-1, vs) else if 12 ≤ vs.length then (-3, vs) else (vs.length + 1, vs ++ [(day, p, x, t)])
theorem aLast_in {g : aGd} {vs : List aVt} (h : vsOk g vs) : 0 ≤ aLast vs ∧ aLast vs ≤ 99 := by
  unfold aLast
  split
  · omega
  · have := (h.at (i := (vs.length : Int) - 1) (by omega) (by omega)).1
    rw [show ((vs.length : Int) - 1).toNat = vs.length - 1 by omega] at this
    exact this
theorem A_come_ok {g : aGd} {vs : List aVt} {day p x t : Int} (h : vsOk g vs) : vsOk g (A_come g vs day p x t).2 := by
  unfold A_come
  split
  · exact h
  · split
    · exact h
    · intro v hv
      rcases List.mem_append.mp hv with q | q
      · exact h v q
      · simp only [List.mem_singleton] at q
        subst q
        exact ⟨by dsimp only; omega, by dsimp only; omega, by dsimp only; omega, by dsimp only; omega⟩
section CME
variable {l : Launch} {G : fp_WG} {M N : fp_Mem} {tp tp' : List Int} {fl fl' : Int} {g : aGd} {pg : aPg} {vs vs' : List aVt} {nt nt' : List Int} {im : aIm} {sh : aSh} {tn tn' : Int} {k : Nat}
theorem rk_X10_lastDay (hk : fp_isvs k) (hv : vsIs M k vs := by assumption) : fp_Ok l G 0 kX10_lastDay [rV G k] M (qE (aLast vs) M) := by
  obtain ⟨a1, a2, a3⟩ := hv
  refine fp_Ok.of (r := 0) rfl (Nat.le_of_ble_eq_true rfl) rfl ?_
  unfold aLast
  by_cases h0 : vs.length = 0
  · rw [if_pos h0]
    refine S.aload_n (pc' := 1) dX10_lastDay_0 rfl rfl rfl ?_
    refine S.getI (pc' := 4) dX10_lastDay_1 rfl fX10_24 (vs_lay hk) ?_
    refine S.if_ne (pc' := 7) (tgt := 11) dX10_lastDay_4 (by decide) rfl (by unfold fp_rng; omega) (fun h4 => ?_) (fun h4 => ?_)
    · exfalso; omega
    · refine S.iconst (pc' := 8) dX10_lastDay_7 rfl ?_
      refine S.goto (pc' := 22) dX10_lastDay_8 (by decide) ?_
      refine S.iret dX10_lastDay_22 rfl ?_
      exact ⟨rfl, rfl⟩
  · rw [if_neg h0]
    have q := (a3 ((vs.length : Int) - 1) (by omega) (by omega)).1
    rw [show ((vs.length : Int) - 1).toNat = vs.length - 1 by omega] at q
    refine S.aload_n (pc' := 1) dX10_lastDay_0 rfl rfl rfl ?_
    refine S.getI (pc' := 4) dX10_lastDay_1 rfl fX10_24 (vs_lay hk) ?_
    refine S.if_ne (pc' := 7) (tgt := 11) dX10_lastDay_4 (by decide) rfl (by unfold fp_rng; omega) (fun h4 => ?_) (fun h4 => ?_)
    · refine S.aload_n (pc' := 12) dX10_lastDay_11 rfl rfl rfl ?_
      refine S.getR (pc' := 15) dX10_lastDay_12 rfl fX10_9 (vs_lay hk) (vs_r1 hk) ?_
      refine S.aload_n (pc' := 16) dX10_lastDay_15 rfl rfl rfl ?_
      refine S.getI (pc' := 19) dX10_lastDay_16 rfl fX10_24 (vs_lay hk) ?_
      refine S.iconst (pc' := 20) dX10_lastDay_19 rfl ?_
      refine S.isub (pc' := 21) dX10_lastDay_20 rfl ?_
      refine S.iald (pc' := 22) dX10_lastDay_21 rfl (vs_a1 hk) (by omega) (by omega) ?_
      refine S.iret dX10_lastDay_22 rfl ?_
      refine ⟨?_, rfl⟩
      rw [a1, show ((vs.length : Int) - 1).toNat = vs.length - 1 by omega]
      exact q
    · exfalso; omega
theorem vsIs.app {v : aVt} (hv : vsIs M k vs) (h : vs.length < 12) (e0 : N k 0 = vs.length + 1) (e1 : N (k + 1) = fp_upf (M (k + 1)) vs.length v.1) (e2 : N (k + 2) = fp_upf (M (k + 2)) vs.length v.2.1) (e3 : N (k + 3) = fp_upf (M (k + 3)) vs.length v.2.2.1) (e4 : N (k + 4) = fp_upf (M (k + 4)) vs.length v.2.2.2) : vsIs N k (vs ++ [v]) := by
  obtain ⟨a1, a2, a3⟩ := hv
  unfold vsIs
  rw [e0, e1, e2, e3, e4, List.length_append]
  refine ⟨by simp, by simp; omega, fun i i0 i1 => ?_⟩
  simp at i1
  rw [fp_appD]
  by_cases h : i < vs.length
  · rw [fp_upf_ne (by omega), fp_upf_ne (by omega), fp_upf_ne (by omega), fp_upf_ne (by omega), if_pos (by omega)]; exact a3 i i0 h
  · rw [if_neg (by omega), if_pos (by omega), show i.toNat = vs.length by omega, fp_upf_at, fp_upf_at, fp_upf_at, fp_upf_at]
    exact ⟨rfl, rfl, rfl, rfl⟩
theorem rk_X10_add {day p x t : Int} (hk : fp_isvs k) (hv : vsIs M k vs := by assumption) : fp_Ok l G 0 kX10_add [rV G k, iV day, iV p, iV x, iV t] M (qI fun z N => z = (if 12 ≤ vs.length then 0 else 1) ∧ vsIs N k (if 12 ≤ vs.length then vs else vs ++ [(day, p, x, t)]) ∧ ∀ a, (a < k ∨ k + 4 < a) → N a = M a) := by
  have hv' := hv
  obtain ⟨a1, a2, a3⟩ := hv
  refine fp_Ok.of (r := 0) rfl (Nat.le_of_ble_eq_true rfl) rfl ?_
  by_cases h12 : 12 ≤ vs.length
  · rw [if_pos h12, if_pos h12]
    refine S.aload_n (pc' := 1) dX10_add_0 rfl rfl rfl ?_
    refine S.getI (pc' := 4) dX10_add_1 rfl fX10_24 (vs_lay hk) ?_
    refine S.bipush (pc' := 6) dX10_add_4 rfl (by decide) ?_
    refine S.icmp_lt (pc' := 9) (tgt := 11) dX10_add_6 (by decide) rfl (by unfold fp_rng; omega) (by unfold fp_rng; omega) (fun h6 => ?_) (fun h6 => ?_)
    · exfalso; omega
    · refine S.iconst (pc' := 10) dX10_add_9 rfl ?_
      refine S.zret dX10_add_10 rfl (by first | exact Or.inl rfl | exact Or.inr rfl | omega) ?_
      exact ⟨rfl, hv', fun a ha => rfl⟩
  · rw [if_neg h12, if_neg h12]
    have n1 : k ≠ k + 1 := by omega
    have n2 : k ≠ k + 2 := by omega
    have n3 : k ≠ k + 3 := by omega
    have n4 : k ≠ k + 4 := by omega
    refine S.aload_n (pc' := 1) dX10_add_0 rfl rfl rfl ?_
    refine S.getI (pc' := 4) dX10_add_1 rfl fX10_24 (vs_lay hk) ?_
    refine S.bipush (pc' := 6) dX10_add_4 rfl (by decide) ?_
    refine S.icmp_lt (pc' := 9) (tgt := 11) dX10_add_6 (by decide) rfl (by unfold fp_rng; omega) (by unfold fp_rng; omega) (fun h6 => ?_) (fun h6 => ?_)
    · refine S.aload_n (pc' := 12) dX10_add_11 rfl rfl rfl ?_
      refine S.getR (pc' := 15) dX10_add_12 rfl fX10_9 (vs_lay hk) (vs_r1 hk) ?_
      refine S.aload_n (pc' := 16) dX10_add_15 rfl rfl rfl ?_
      refine S.getI (pc' := 19) dX10_add_16 rfl fX10_24 (vs_lay hk) ?_
      refine S.iload_n (pc' := 20) dX10_add_19 rfl rfl rfl ?_
      rw [a1]
      refine S.iast (pc' := 21) dX10_add_20 rfl (vs_a1 hk) (by omega) (by omega) ?_
      refine S.aload_n (pc' := 22) dX10_add_21 rfl rfl rfl ?_
      refine S.getR (pc' := 25) dX10_add_22 rfl fX10_15 (vs_lay hk) (vs_r2 hk) ?_
      refine S.aload_n (pc' := 26) dX10_add_25 rfl rfl rfl ?_
      refine S.getI (pc' := 29) dX10_add_26 rfl fX10_24 (vs_lay hk) ?_
      refine S.iload_n (pc' := 30) dX10_add_29 rfl rfl rfl ?_
      rw [fp_up_ne n1, a1]
      refine S.iast (pc' := 31) dX10_add_30 rfl (vs_a2 hk) (by omega) (by omega) ?_
      refine S.aload_n (pc' := 32) dX10_add_31 rfl rfl rfl ?_
      refine S.getR (pc' := 35) dX10_add_32 rfl fX10_18 (vs_lay hk) (vs_r3 hk) ?_
      refine S.aload_n (pc' := 36) dX10_add_35 rfl rfl rfl ?_
      refine S.getI (pc' := 39) dX10_add_36 rfl fX10_24 (vs_lay hk) ?_
      refine S.iload_n (pc' := 40) dX10_add_39 rfl rfl rfl ?_
      rw [fp_up_ne n2, fp_up_ne n1, a1]
      refine S.iast (pc' := 41) dX10_add_40 rfl (vs_a3 hk) (by omega) (by omega) ?_
      refine S.aload_n (pc' := 42) dX10_add_41 rfl rfl rfl ?_
      refine S.getR (pc' := 45) dX10_add_42 rfl fX10_21 (vs_lay hk) (vs_r4 hk) ?_
      refine S.aload_n (pc' := 46) dX10_add_45 rfl rfl rfl ?_
      refine S.getI (pc' := 49) dX10_add_46 rfl fX10_24 (vs_lay hk) ?_
      refine S.iload (pc' := 51) dX10_add_49 rfl rfl ?_
      rw [fp_up_ne n3, fp_up_ne n2, fp_up_ne n1, a1]
      refine S.iast (pc' := 52) dX10_add_51 rfl (vs_a4 hk) (by omega) (by omega) ?_
      refine S.aload_n (pc' := 53) dX10_add_52 rfl rfl rfl ?_
      refine S.dup (pc' := 54) dX10_add_53 rfl rfl ?_
      refine S.getI (pc' := 57) dX10_add_54 rfl fX10_24 (vs_lay hk) ?_
      refine S.iconst (pc' := 58) dX10_add_57 rfl ?_
      rw [fp_up_ne n4, fp_up_ne n3, fp_up_ne n2, fp_up_ne n1, a1]
      refine S.iadd (pc' := 59) dX10_add_58 rfl ?_
      refine S.putI (pc' := 62) dX10_add_59 rfl fX10_24 (vs_lay hk) ?_
      refine S.iconst (pc' := 63) dX10_add_62 rfl ?_
      refine S.zret dX10_add_63 rfl (by first | exact Or.inl rfl | exact Or.inr rfl | omega) ?_
      refine ⟨rfl, hv'.app (by omega) ?_ ?_ ?_ ?_ ?_, fun a ha => by rw [fp_up_ne (by omega), fp_up_ne (by omega), fp_up_ne (by omega), fp_up_ne (by omega), fp_up_ne (by omega)]⟩
      · rw [fp_up_at, fp_upf_at]
      · rw [fp_up_ne (by omega), fp_up_ne (by omega), fp_up_ne (by omega), fp_up_ne (by omega), fp_up_at, Int.toNat_natCast]
      · rw [fp_up_ne (by omega), fp_up_ne (by omega), fp_up_ne (by omega), fp_up_at, fp_up_ne (by omega), Int.toNat_natCast]
      · rw [fp_up_ne (by omega), fp_up_ne (by omega), fp_up_at, fp_up_ne (by omega), fp_up_ne (by omega), Int.toNat_natCast]
      · rw [fp_up_ne (by omega), fp_up_at, fp_up_ne (by omega), fp_up_ne (by omega), fp_up_ne (by omega), Int.toNat_natCast]
    · exfalso; omega
theorem rk_X11_tellVisit {day p x t : Int} (hv : vsIs M 27 vs := by assumption) (hd : gdIs M 18 g := by assumption) (hg : gOk g := by assumption) (hvo : vsOk g vs := by assumption) (h1 : fp_rng day := by first | assumption | (unfold fp_rng; omega)) (h2 : fp_rng p := by first | assumption | (unfold fp_rng; omega)) (h3 : fp_rng x := by first | assumption | (unfold fp_rng; omega)) (h4 : fp_rng t := by first | assumption | (unfold fp_rng; omega)) : fp_Ok l G 1 kX11_tellVisit [rV G 0, iV day, iV p, iV x, iV t] M (qI fun z N => z = (A_come g vs day p x t).1 ∧ vsIs N 27 (A_come g vs day p x t).2 ∧ ∀ a, (a < 27 ∨ 31 < a) → N a = M a) := by
  have hlst := aLast_in hvo
  have hl2 := hv.2.1
  refine fp_Ok.of (r := 0) rfl (Nat.le_of_ble_eq_true rfl) rfl ?_
  unfold A_come
  by_cases hin : (aLast vs ≤ day ∧ 0 ≤ day ∧ day ≤ 99) ∧ (0 ≤ p ∧ p < 4) ∧ (0 ≤ x ∧ x < g.2.1) ∧ (t = -4 ∨ (0 ≤ t ∧ t < g.1))
  · rw [if_neg (fun q => q hin)]
    by_cases h12 : 12 ≤ vs.length
    · rw [if_pos h12]
      refine S.iload_n (pc' := 1) dX11_tellVisit_0 rfl rfl rfl ?_
      refine S.bipush (pc' := 3) dX11_tellVisit_1 rfl (by decide) ?_
      refine S.callSi (pc' := 6) dX11_tellVisit_3 rfl cX11_221 (bk_X11_isWithin) rfl (by decide) rfl (Nat.le_of_ble_eq_true rfl) (fun z3 M3 q3 => ?_)
      obtain ⟨b3, rfl⟩ := q3
      refine S.if_eq (pc' := 9) (tgt := 46) dX11_tellVisit_6 (by decide) rfl (by unfold fp_rng; omega) (fun h6 => ?_) (fun h6 => ?_)
      · exfalso; omega
      · refine S.iload_n (pc' := 10) dX11_tellVisit_9 rfl rfl rfl ?_
        refine S.callSi (pc' := 13) dX11_tellVisit_10 rfl cX11_181 (bk_X11_isOne) rfl (by decide) rfl (Nat.le_of_ble_eq_true rfl) (fun z10 M10 q10 => ?_)
        obtain ⟨b10, rfl⟩ := q10
        refine S.if_eq (pc' := 16) (tgt := 46) dX11_tellVisit_13 (by decide) rfl (by unfold fp_rng; omega) (fun h13 => ?_) (fun h13 => ?_)
        · exfalso; omega
        · refine S.aload_n (pc' := 17) dX11_tellVisit_16 rfl rfl rfl ?_
          refine S.getR (pc' := 20) dX11_tellVisit_17 rfl fX11_23 L_0 rf_0_3 ?_
          refine S.iload_n (pc' := 21) dX11_tellVisit_20 rfl rfl rfl ?_
          refine S.callVi (pc' := 24) dX11_tellVisit_21 rfl cX11_148 (bk_X1_hasLine gd18) rfl (gd_lay gd18) (by decide) rfl (Nat.le_of_ble_eq_true rfl) (fun z21 M21 q21 => ?_)
          obtain ⟨b21, rfl⟩ := q21
          refine S.if_eq (pc' := 27) (tgt := 46) dX11_tellVisit_24 (by decide) rfl (by unfold fp_rng; omega) (fun h24 => ?_) (fun h24 => ?_)
          · exfalso; omega
          · refine S.iload (pc' := 29) dX11_tellVisit_27 rfl rfl ?_
            refine S.bipush (pc' := 31) dX11_tellVisit_29 rfl (by decide) ?_
            refine S.icmp_eq (pc' := 34) (tgt := 48) dX11_tellVisit_31 (by decide) rfl h4 (by unfold fp_rng; omega) (fun h31 => ?_) (fun h31 => ?_)
            · refine S.iload_n (pc' := 49) dX11_tellVisit_48 rfl rfl rfl ?_
              refine S.aload_n (pc' := 50) dX11_tellVisit_49 rfl rfl rfl ?_
              refine S.getR (pc' := 53) dX11_tellVisit_50 rfl fX11_37 L_0 rf_0_5 ?_
              refine S.callVe (pc' := 56) dX11_tellVisit_53 rfl cX11_345 (rk_X10_lastDay vs27 hv) rfl (vs_lay vs27) (by decide) rfl (Nat.le_of_ble_eq_true rfl) ?_
              refine S.icmp_ge (pc' := 59) (tgt := 61) dX11_tellVisit_56 (by decide) rfl h1 (by unfold fp_rng; omega) (fun h56 => ?_) (fun h56 => ?_)
              · refine S.aload_n (pc' := 62) dX11_tellVisit_61 rfl rfl rfl ?_
                refine S.getR (pc' := 65) dX11_tellVisit_62 rfl fX11_37 L_0 rf_0_5 ?_
                refine S.iload_n (pc' := 66) dX11_tellVisit_65 rfl rfl rfl ?_
                refine S.iload_n (pc' := 67) dX11_tellVisit_66 rfl rfl rfl ?_
                refine S.iload_n (pc' := 68) dX11_tellVisit_67 rfl rfl rfl ?_
                refine S.iload (pc' := 70) dX11_tellVisit_68 rfl rfl ?_
                refine S.callVi (pc' := 73) dX11_tellVisit_70 rfl cX11_349 (rk_X10_add vs27 hv) rfl (vs_lay vs27) (by decide) rfl (Nat.le_of_ble_eq_true rfl) (fun z70 M70 q70 => ?_)
                rw [if_pos h12, if_pos h12] at q70
                obtain ⟨z1, c1, f1⟩ := q70
                refine S.if_eq (pc' := 76) (tgt := 86) dX11_tellVisit_73 (by decide) rfl (by unfold fp_rng; omega) (fun h73 => ?_) (fun h73 => ?_)
                · refine S.bipush (pc' := 88) dX11_tellVisit_86 rfl (by decide) ?_
                  refine S.iret dX11_tellVisit_88 rfl ?_
                  exact ⟨rfl, c1, fun a ha => f1 a (by omega)⟩
                · exfalso; omega
              · exfalso; omega
            · refine S.aload_n (pc' := 35) dX11_tellVisit_34 rfl rfl rfl ?_
              refine S.getR (pc' := 38) dX11_tellVisit_35 rfl fX11_23 L_0 rf_0_3 ?_
              refine S.iload (pc' := 40) dX11_tellVisit_38 rfl rfl ?_
              refine S.callVi (pc' := 43) dX11_tellVisit_40 rfl cX11_126 (bk_X1_hasThing gd18) rfl (gd_lay gd18) (by decide) rfl (Nat.le_of_ble_eq_true rfl) (fun z40 M40 q40 => ?_)
              obtain ⟨b40, rfl⟩ := q40
              refine S.if_ne (pc' := 46) (tgt := 48) dX11_tellVisit_43 (by decide) rfl (by unfold fp_rng; omega) (fun h43 => ?_) (fun h43 => ?_)
              · refine S.iload_n (pc' := 49) dX11_tellVisit_48 rfl rfl rfl ?_
                refine S.aload_n (pc' := 50) dX11_tellVisit_49 rfl rfl rfl ?_
                refine S.getR (pc' := 53) dX11_tellVisit_50 rfl fX11_37 L_0 rf_0_5 ?_
                refine S.callVe (pc' := 56) dX11_tellVisit_53 rfl cX11_345 (rk_X10_lastDay vs27 hv) rfl (vs_lay vs27) (by decide) rfl (Nat.le_of_ble_eq_true rfl) ?_
                refine S.icmp_ge (pc' := 59) (tgt := 61) dX11_tellVisit_56 (by decide) rfl h1 (by unfold fp_rng; omega) (fun h56 => ?_) (fun h56 => ?_)
                · refine S.aload_n (pc' := 62) dX11_tellVisit_61 rfl rfl rfl ?_
                  refine S.getR (pc' := 65) dX11_tellVisit_62 rfl fX11_37 L_0 rf_0_5 ?_
                  refine S.iload_n (pc' := 66) dX11_tellVisit_65 rfl rfl rfl ?_
                  refine S.iload_n (pc' := 67) dX11_tellVisit_66 rfl rfl rfl ?_
                  refine S.iload_n (pc' := 68) dX11_tellVisit_67 rfl rfl rfl ?_
                  refine S.iload (pc' := 70) dX11_tellVisit_68 rfl rfl ?_
                  refine S.callVi (pc' := 73) dX11_tellVisit_70 rfl cX11_349 (rk_X10_add vs27 hv) rfl (vs_lay vs27) (by decide) rfl (Nat.le_of_ble_eq_true rfl) (fun z70 M70 q70 => ?_)
                  rw [if_pos h12, if_pos h12] at q70
                  obtain ⟨z1, c1, f1⟩ := q70
                  refine S.if_eq (pc' := 76) (tgt := 86) dX11_tellVisit_73 (by decide) rfl (by unfold fp_rng; omega) (fun h73 => ?_) (fun h73 => ?_)
                  · refine S.bipush (pc' := 88) dX11_tellVisit_86 rfl (by decide) ?_
                    refine S.iret dX11_tellVisit_88 rfl ?_
                    exact ⟨rfl, c1, fun a ha => f1 a (by omega)⟩
                  · exfalso; omega
                · exfalso; omega
              · exfalso; omega
    · rw [if_neg h12]
      refine S.iload_n (pc' := 1) dX11_tellVisit_0 rfl rfl rfl ?_
      refine S.bipush (pc' := 3) dX11_tellVisit_1 rfl (by decide) ?_
      refine S.callSi (pc' := 6) dX11_tellVisit_3 rfl cX11_221 (bk_X11_isWithin) rfl (by decide) rfl (Nat.le_of_ble_eq_true rfl) (fun z3 M3 q3 => ?_)
      obtain ⟨b3, rfl⟩ := q3
      refine S.if_eq (pc' := 9) (tgt := 46) dX11_tellVisit_6 (by decide) rfl (by unfold fp_rng; omega) (fun h6 => ?_) (fun h6 => ?_)
      · exfalso; omega
      · refine S.iload_n (pc' := 10) dX11_tellVisit_9 rfl rfl rfl ?_
        refine S.callSi (pc' := 13) dX11_tellVisit_10 rfl cX11_181 (bk_X11_isOne) rfl (by decide) rfl (Nat.le_of_ble_eq_true rfl) (fun z10 M10 q10 => ?_)
        obtain ⟨b10, rfl⟩ := q10
        refine S.if_eq (pc' := 16) (tgt := 46) dX11_tellVisit_13 (by decide) rfl (by unfold fp_rng; omega) (fun h13 => ?_) (fun h13 => ?_)
        · exfalso; omega
        · refine S.aload_n (pc' := 17) dX11_tellVisit_16 rfl rfl rfl ?_
          refine S.getR (pc' := 20) dX11_tellVisit_17 rfl fX11_23 L_0 rf_0_3 ?_
          refine S.iload_n (pc' := 21) dX11_tellVisit_20 rfl rfl rfl ?_
          refine S.callVi (pc' := 24) dX11_tellVisit_21 rfl cX11_148 (bk_X1_hasLine gd18) rfl (gd_lay gd18) (by decide) rfl (Nat.le_of_ble_eq_true rfl) (fun z21 M21 q21 => ?_)
          obtain ⟨b21, rfl⟩ := q21
          refine S.if_eq (pc' := 27) (tgt := 46) dX11_tellVisit_24 (by decide) rfl (by unfold fp_rng; omega) (fun h24 => ?_) (fun h24 => ?_)
          · exfalso; omega
          · refine S.iload (pc' := 29) dX11_tellVisit_27 rfl rfl ?_
            refine S.bipush (pc' := 31) dX11_tellVisit_29 rfl (by decide) ?_
            refine S.icmp_eq (pc' := 34) (tgt := 48) dX11_tellVisit_31 (by decide) rfl h4 (by unfold fp_rng; omega) (fun h31 => ?_) (fun h31 => ?_)
            · refine S.iload_n (pc' := 49) dX11_tellVisit_48 rfl rfl rfl ?_
              refine S.aload_n (pc' := 50) dX11_tellVisit_49 rfl rfl rfl ?_
              refine S.getR (pc' := 53) dX11_tellVisit_50 rfl fX11_37 L_0 rf_0_5 ?_
              refine S.callVe (pc' := 56) dX11_tellVisit_53 rfl cX11_345 (rk_X10_lastDay vs27 hv) rfl (vs_lay vs27) (by decide) rfl (Nat.le_of_ble_eq_true rfl) ?_
              refine S.icmp_ge (pc' := 59) (tgt := 61) dX11_tellVisit_56 (by decide) rfl h1 (by unfold fp_rng; omega) (fun h56 => ?_) (fun h56 => ?_)
              · refine S.aload_n (pc' := 62) dX11_tellVisit_61 rfl rfl rfl ?_
                refine S.getR (pc' := 65) dX11_tellVisit_62 rfl fX11_37 L_0 rf_0_5 ?_
                refine S.iload_n (pc' := 66) dX11_tellVisit_65 rfl rfl rfl ?_
                refine S.iload_n (pc' := 67) dX11_tellVisit_66 rfl rfl rfl ?_
                refine S.iload_n (pc' := 68) dX11_tellVisit_67 rfl rfl rfl ?_
                refine S.iload (pc' := 70) dX11_tellVisit_68 rfl rfl ?_
                refine S.callVi (pc' := 73) dX11_tellVisit_70 rfl cX11_349 (rk_X10_add vs27 hv) rfl (vs_lay vs27) (by decide) rfl (Nat.le_of_ble_eq_true rfl) (fun z70 M70 q70 => ?_)
                rw [if_neg h12, if_neg h12] at q70
                obtain ⟨z1, c1, f1⟩ := q70
                have n4 := c1.1
                refine S.if_eq (pc' := 76) (tgt := 86) dX11_tellVisit_73 (by decide) rfl (by unfold fp_rng; omega) (fun h73 => ?_) (fun h73 => ?_)
                · exfalso; omega
                · refine S.aload_n (pc' := 77) dX11_tellVisit_76 rfl rfl rfl ?_
                  refine S.getR (pc' := 80) dX11_tellVisit_77 rfl fX11_37 L_0 rf_0_5 ?_
                  refine S.getI (pc' := 83) dX11_tellVisit_80 rfl fX11_205 (vs_lay vs27) ?_
                  refine S.goto (pc' := 88) dX11_tellVisit_83 (by decide) ?_
                  refine S.iret dX11_tellVisit_88 rfl ?_
                  exact ⟨by rw [n4]; simp, c1, fun a ha => f1 a (by omega)⟩
              · exfalso; omega
            · refine S.aload_n (pc' := 35) dX11_tellVisit_34 rfl rfl rfl ?_
              refine S.getR (pc' := 38) dX11_tellVisit_35 rfl fX11_23 L_0 rf_0_3 ?_
              refine S.iload (pc' := 40) dX11_tellVisit_38 rfl rfl ?_
              refine S.callVi (pc' := 43) dX11_tellVisit_40 rfl cX11_126 (bk_X1_hasThing gd18) rfl (gd_lay gd18) (by decide) rfl (Nat.le_of_ble_eq_true rfl) (fun z40 M40 q40 => ?_)
              obtain ⟨b40, rfl⟩ := q40
              refine S.if_ne (pc' := 46) (tgt := 48) dX11_tellVisit_43 (by decide) rfl (by unfold fp_rng; omega) (fun h43 => ?_) (fun h43 => ?_)
              · refine S.iload_n (pc' := 49) dX11_tellVisit_48 rfl rfl rfl ?_
                refine S.aload_n (pc' := 50) dX11_tellVisit_49 rfl rfl rfl ?_
                refine S.getR (pc' := 53) dX11_tellVisit_50 rfl fX11_37 L_0 rf_0_5 ?_
                refine S.callVe (pc' := 56) dX11_tellVisit_53 rfl cX11_345 (rk_X10_lastDay vs27 hv) rfl (vs_lay vs27) (by decide) rfl (Nat.le_of_ble_eq_true rfl) ?_
                refine S.icmp_ge (pc' := 59) (tgt := 61) dX11_tellVisit_56 (by decide) rfl h1 (by unfold fp_rng; omega) (fun h56 => ?_) (fun h56 => ?_)
                · refine S.aload_n (pc' := 62) dX11_tellVisit_61 rfl rfl rfl ?_
                  refine S.getR (pc' := 65) dX11_tellVisit_62 rfl fX11_37 L_0 rf_0_5 ?_
                  refine S.iload_n (pc' := 66) dX11_tellVisit_65 rfl rfl rfl ?_
                  refine S.iload_n (pc' := 67) dX11_tellVisit_66 rfl rfl rfl ?_
                  refine S.iload_n (pc' := 68) dX11_tellVisit_67 rfl rfl rfl ?_
                  refine S.iload (pc' := 70) dX11_tellVisit_68 rfl rfl ?_
                  refine S.callVi (pc' := 73) dX11_tellVisit_70 rfl cX11_349 (rk_X10_add vs27 hv) rfl (vs_lay vs27) (by decide) rfl (Nat.le_of_ble_eq_true rfl) (fun z70 M70 q70 => ?_)
                  rw [if_neg h12, if_neg h12] at q70
                  obtain ⟨z1, c1, f1⟩ := q70
                  have n4 := c1.1
                  refine S.if_eq (pc' := 76) (tgt := 86) dX11_tellVisit_73 (by decide) rfl (by unfold fp_rng; omega) (fun h73 => ?_) (fun h73 => ?_)
                  · exfalso; omega
                  · refine S.aload_n (pc' := 77) dX11_tellVisit_76 rfl rfl rfl ?_
                    refine S.getR (pc' := 80) dX11_tellVisit_77 rfl fX11_37 L_0 rf_0_5 ?_
                    refine S.getI (pc' := 83) dX11_tellVisit_80 rfl fX11_205 (vs_lay vs27) ?_
                    refine S.goto (pc' := 88) dX11_tellVisit_83 (by decide) ?_
                    refine S.iret dX11_tellVisit_88 rfl ?_
                    exact ⟨by rw [n4]; simp, c1, fun a ha => f1 a (by omega)⟩
                · exfalso; omega
              · exfalso; omega
  · rw [if_pos hin]
    refine S.iload_n (pc' := 1) dX11_tellVisit_0 rfl rfl rfl ?_
    refine S.bipush (pc' := 3) dX11_tellVisit_1 rfl (by decide) ?_
    refine S.callSi (pc' := 6) dX11_tellVisit_3 rfl cX11_221 (bk_X11_isWithin) rfl (by decide) rfl (Nat.le_of_ble_eq_true rfl) (fun z3 M3 q3 => ?_)
    obtain ⟨b3, rfl⟩ := q3
    refine S.if_eq (pc' := 9) (tgt := 46) dX11_tellVisit_6 (by decide) rfl (by unfold fp_rng; omega) (fun h6 => ?_) (fun h6 => ?_)
    · refine S.iconst (pc' := 47) dX11_tellVisit_46 rfl ?_
      refine S.iret dX11_tellVisit_47 rfl ?_
      exact ⟨rfl, hv, fun a ha => rfl⟩
    · refine S.iload_n (pc' := 10) dX11_tellVisit_9 rfl rfl rfl ?_
      refine S.callSi (pc' := 13) dX11_tellVisit_10 rfl cX11_181 (bk_X11_isOne) rfl (by decide) rfl (Nat.le_of_ble_eq_true rfl) (fun z10 M10 q10 => ?_)
      obtain ⟨b10, rfl⟩ := q10
      refine S.if_eq (pc' := 16) (tgt := 46) dX11_tellVisit_13 (by decide) rfl (by unfold fp_rng; omega) (fun h13 => ?_) (fun h13 => ?_)
      · refine S.iconst (pc' := 47) dX11_tellVisit_46 rfl ?_
        refine S.iret dX11_tellVisit_47 rfl ?_
        exact ⟨rfl, hv, fun a ha => rfl⟩
      · refine S.aload_n (pc' := 17) dX11_tellVisit_16 rfl rfl rfl ?_
        refine S.getR (pc' := 20) dX11_tellVisit_17 rfl fX11_23 L_0 rf_0_3 ?_
        refine S.iload_n (pc' := 21) dX11_tellVisit_20 rfl rfl rfl ?_
        refine S.callVi (pc' := 24) dX11_tellVisit_21 rfl cX11_148 (bk_X1_hasLine gd18) rfl (gd_lay gd18) (by decide) rfl (Nat.le_of_ble_eq_true rfl) (fun z21 M21 q21 => ?_)
        obtain ⟨b21, rfl⟩ := q21
        refine S.if_eq (pc' := 27) (tgt := 46) dX11_tellVisit_24 (by decide) rfl (by unfold fp_rng; omega) (fun h24 => ?_) (fun h24 => ?_)
        · refine S.iconst (pc' := 47) dX11_tellVisit_46 rfl ?_
          refine S.iret dX11_tellVisit_47 rfl ?_
          exact ⟨rfl, hv, fun a ha => rfl⟩
        · refine S.iload (pc' := 29) dX11_tellVisit_27 rfl rfl ?_
          refine S.bipush (pc' := 31) dX11_tellVisit_29 rfl (by decide) ?_
          refine S.icmp_eq (pc' := 34) (tgt := 48) dX11_tellVisit_31 (by decide) rfl h4 (by unfold fp_rng; omega) (fun h31 => ?_) (fun h31 => ?_)
          · refine S.iload_n (pc' := 49) dX11_tellVisit_48 rfl rfl rfl ?_
            refine S.aload_n (pc' := 50) dX11_tellVisit_49 rfl rfl rfl ?_
            refine S.getR (pc' := 53) dX11_tellVisit_50 rfl fX11_37 L_0 rf_0_5 ?_
            refine S.callVe (pc' := 56) dX11_tellVisit_53 rfl cX11_345 (rk_X10_lastDay vs27 hv) rfl (vs_lay vs27) (by decide) rfl (Nat.le_of_ble_eq_true rfl) ?_
            refine S.icmp_ge (pc' := 59) (tgt := 61) dX11_tellVisit_56 (by decide) rfl h1 (by unfold fp_rng; omega) (fun h56 => ?_) (fun h56 => ?_)
            · exfalso; omega
            · refine S.iconst (pc' := 60) dX11_tellVisit_59 rfl ?_
              refine S.iret dX11_tellVisit_60 rfl ?_
              exact ⟨rfl, hv, fun a ha => rfl⟩
          · refine S.aload_n (pc' := 35) dX11_tellVisit_34 rfl rfl rfl ?_
            refine S.getR (pc' := 38) dX11_tellVisit_35 rfl fX11_23 L_0 rf_0_3 ?_
            refine S.iload (pc' := 40) dX11_tellVisit_38 rfl rfl ?_
            refine S.callVi (pc' := 43) dX11_tellVisit_40 rfl cX11_126 (bk_X1_hasThing gd18) rfl (gd_lay gd18) (by decide) rfl (Nat.le_of_ble_eq_true rfl) (fun z40 M40 q40 => ?_)
            obtain ⟨b40, rfl⟩ := q40
            refine S.if_ne (pc' := 46) (tgt := 48) dX11_tellVisit_43 (by decide) rfl (by unfold fp_rng; omega) (fun h43 => ?_) (fun h43 => ?_)
            · refine S.iload_n (pc' := 49) dX11_tellVisit_48 rfl rfl rfl ?_
              refine S.aload_n (pc' := 50) dX11_tellVisit_49 rfl rfl rfl ?_
              refine S.getR (pc' := 53) dX11_tellVisit_50 rfl fX11_37 L_0 rf_0_5 ?_
              refine S.callVe (pc' := 56) dX11_tellVisit_53 rfl cX11_345 (rk_X10_lastDay vs27 hv) rfl (vs_lay vs27) (by decide) rfl (Nat.le_of_ble_eq_true rfl) ?_
              refine S.icmp_ge (pc' := 59) (tgt := 61) dX11_tellVisit_56 (by decide) rfl h1 (by unfold fp_rng; omega) (fun h56 => ?_) (fun h56 => ?_)
              · exfalso; omega
              · refine S.iconst (pc' := 60) dX11_tellVisit_59 rfl ?_
                refine S.iret dX11_tellVisit_60 rfl ?_
                exact ⟨rfl, hv, fun a ha => rfl⟩
            · refine S.iconst (pc' := 47) dX11_tellVisit_46 rfl ?_
              refine S.iret dX11_tellVisit_47 rfl ?_
              exact ⟨rfl, hv, fun a ha => rfl⟩
theorem cc_come {day p x t : Int} (hc : CS M tp fl g pg vs nt im sh tn) (ho : OK g pg vs nt im sh) (h1 : fp_rng day) (h2 : fp_rng p) (h3 : fp_rng x) (h4 : fp_rng t) : fp_Ok l G 2 kX11_come [rV G 0, iV day, iV p, iV x, iV t] M (qI fun z N => z = (A_come g vs day p x t).1 ∧ CS N tp fl g pg (A_come g vs day p x t).2 nt im sh tn ∧ frC M N) := by
  have hcs := hc
  obtain ⟨-, hd, -, hv, -⟩ := hc
  obtain ⟨hg, hP, hvo, -⟩ := ho
  refine fp_Ok.of (r := 0) rfl (Nat.le_of_ble_eq_true rfl) rfl ?_
  refine S.aload_n (pc' := 1) dX11_come_0 rfl rfl rfl ?_
  refine S.iload_n (pc' := 2) dX11_come_1 rfl rfl rfl ?_
  refine S.iload_n (pc' := 3) dX11_come_2 rfl rfl rfl ?_
  refine S.iload_n (pc' := 4) dX11_come_3 rfl rfl rfl ?_
  refine S.iload (pc' := 6) dX11_come_4 rfl rfl ?_
  refine S.callVi (pc' := 9) dX11_come_6 rfl cX11_201 (rk_X11_tellVisit (g := g) (vs := vs)) rfl L_0 (by decide) rfl (Nat.le_of_ble_eq_true rfl) (fun z6 M6 q6 => ?_)
  obtain ⟨z1, c1, f1⟩ := q6
  refine S.iret dX11_come_9 rfl ?_
  exact ⟨z1, hcs.vis f1 c1, fun c hc => f1 c (by omega)⟩
theorem mvRow.app {f : Nat → Int} {v : aVt} (hv : mvRow f vs) (h : vs.length < 12) : mvRow (fp_upf (fp_upf (fp_upf (fp_upf (fp_upf f (47 + 4 * (vs.length : Int)).toNat v.1) (47 + 4 * (vs.length : Int) + 1).toNat v.2.1) (47 + 4 * (vs.length : Int) + 2).toNat v.2.2.1) (47 + 4 * (vs.length : Int) + 3).toNat v.2.2.2) 95 (vs.length + 1)) (vs ++ [v]) := by
  obtain ⟨a1, a2, a3⟩ := hv
  unfold mvRow
  rw [List.length_append, fp_upf_at]
  refine ⟨by simp, by simp; omega, fun i i0 i1 => ?_⟩
  simp at i1
  rw [fp_appD]
  unfold fp_upf
  by_cases h : i < vs.length
  · rw [if_pos (show i.toNat < vs.length by omega)]
    obtain ⟨b1, b2, b3, b4⟩ := a3 i i0 h
    refine ⟨?_, ?_, ?_, ?_⟩
    · rw [if_neg (by omega), if_neg (by omega), if_neg (by omega), if_neg (by omega), if_neg (by omega)]; exact b1
    · rw [if_neg (by omega), if_neg (by omega), if_neg (by omega), if_neg (by omega), if_neg (by omega)]; exact b2
    · rw [if_neg (by omega), if_neg (by omega), if_neg (by omega), if_neg (by omega), if_neg (by omega)]; exact b3
    · rw [if_neg (by omega), if_neg (by omega), if_neg (by omega), if_neg (by omega), if_neg (by omega)]; exact b4
  · rw [if_neg (show ¬ i.toNat < vs.length by omega), if_pos (show i.toNat = vs.length by omega)]
    refine ⟨?_, ?_, ?_, ?_⟩
    · rw [if_neg (by omega), if_neg (by omega), if_neg (by omega), if_neg (by omega), if_pos (by omega)]
    · rw [if_neg (by omega), if_neg (by omega), if_neg (by omega), if_pos (by omega)]
    · rw [if_neg (by omega), if_neg (by omega), if_pos (by omega)]
    · rw [if_neg (by omega), if_pos (by omega)]
theorem rk_X12_comes {day p x t : Int} (hv : mvRow (M 178) vs := by assumption) (hd : mdIs M g := by assumption) (hg : gOk g := by assumption) (hvo : vsOk g vs := by assumption) (h1 : fp_rng day := by first | assumption | (unfold fp_rng; omega)) (h2 : fp_rng p := by first | assumption | (unfold fp_rng; omega)) (h3 : fp_rng x := by first | assumption | (unfold fp_rng; omega)) (h4 : fp_rng t := by first | assumption | (unfold fp_rng; omega)) : fp_Ok l G 2 kX12_comes [rV G 177, iV day, iV p, iV x, iV t] M (qI fun z N => z = (A_come g vs day p x t).1 ∧ mvRow (N 178) (A_come g vs day p x t).2 ∧ (∀ c, c ≠ 178 → N c = M c) ∧ ∀ j : Nat, (j < 47 ∨ 95 < j) → N 178 j = M 178 j) := by
  have hlst := aLast_in hvo
  have hv' := hv
  obtain ⟨a1, a2, a3⟩ := hv
  have h1' := h1
  unfold fp_rng at h1'
  have hls : vs.length ≠ 0 → M 178 (47 + 4 * (vs.length : Int) - 4).toNat = aLast vs := by
    intro h0
    unfold aLast
    rw [if_neg h0]
    have := (a3 ((vs.length : Int) - 1) (by omega) (by omega)).1
    rw [show ((vs.length : Int) - 1).toNat = vs.length - 1 by omega, show (47 + 4 * ((vs.length : Int) - 1)) = 47 + 4 * (vs.length : Int) - 4 by omega] at this
    exact this
  have hl0 : vs.length = 0 → aLast vs = 0 := fun q => by unfold aLast; rw [if_pos q]
  refine fp_Ok.of (r := 2) rfl (Nat.le_of_ble_eq_true rfl) rfl ?_
  have body : fp_S l G 2 kX12_comes 31 [some (rV G 177), some (iV day), some (iV p), some (iV x), some (iV t), some (iV (vs.length : Int)), some (iV (aLast vs))] [] M (qI fun z N => z = (A_come g vs day p x t).1 ∧ mvRow (N 178) (A_come g vs day p x t).2 ∧ (∀ c, c ≠ 178 → N c = M c) ∧ ∀ j : Nat, (j < 47 ∨ 95 < j) → N 178 j = M 178 j) := by
    unfold A_come
    by_cases hin : (aLast vs ≤ day ∧ 0 ≤ day ∧ day ≤ 99) ∧ (0 ≤ p ∧ p < 4) ∧ (0 ≤ x ∧ x < g.2.1) ∧ (t = -4 ∨ (0 ≤ t ∧ t < g.1))
    · rw [if_neg (fun q => q hin)]
      by_cases h12 : 12 ≤ vs.length
      · rw [if_pos h12]
        refine S.iload_n (pc' := 32) dX12_comes_31 rfl rfl rfl ?_
        refine S.i2l (pc' := 33) dX12_comes_32 rfl h1 ?_
        refine S.iload (pc' := 35) dX12_comes_33 rfl rfl ?_
        refine S.i2l (pc' := 36) dX12_comes_35 rfl (by unfold fp_rng; omega) ?_
        refine S.ldc2 (pc' := 39) (v := 99) dX12_comes_36 rfl lX12_251 (by decide) ?_
        refine S.callSi (pc' := 42) dX12_comes_39 rfl cX12_94 (bk_X12_in) rfl (by decide) rfl (Nat.le_of_ble_eq_true rfl) (fun z39 M39 q39 => ?_)
        obtain ⟨b39, rfl⟩ := q39
        refine S.if_eq (pc' := 45) (tgt := 76) dX12_comes_42 (by decide) rfl (by unfold fp_rng; omega) (fun h42 => ?_) (fun h42 => ?_)
        · exfalso; omega
        · refine S.iload_n (pc' := 46) dX12_comes_45 rfl rfl rfl ?_
          refine S.callSi (pc' := 49) dX12_comes_46 rfl cX12_228 (bk_X12_isOne) rfl (by decide) rfl (Nat.le_of_ble_eq_true rfl) (fun z46 M46 q46 => ?_)
          obtain ⟨b46, rfl⟩ := q46
          refine S.if_eq (pc' := 52) (tgt := 76) dX12_comes_49 (by decide) rfl (by unfold fp_rng; omega) (fun h49 => ?_) (fun h49 => ?_)
          · exfalso; omega
          · refine S.aload_n (pc' := 53) dX12_comes_52 rfl rfl rfl ?_
            refine S.iload_n (pc' := 54) dX12_comes_53 rfl rfl rfl ?_
            refine S.callVi (pc' := 57) dX12_comes_54 rfl cX12_219 (bk_X12_isLine) rfl L_177 (by decide) rfl (Nat.le_of_ble_eq_true rfl) (fun z54 M54 q54 => ?_)
            obtain ⟨b54, rfl⟩ := q54
            refine S.if_eq (pc' := 60) (tgt := 76) dX12_comes_57 (by decide) rfl (by unfold fp_rng; omega) (fun h57 => ?_) (fun h57 => ?_)
            · exfalso; omega
            · refine S.aload_n (pc' := 61) dX12_comes_60 rfl rfl rfl ?_
              refine S.iload (pc' := 63) dX12_comes_61 rfl rfl ?_
              refine S.callVi (pc' := 66) dX12_comes_63 rfl cX12_205 (bk_X12_isThing) rfl L_177 (by decide) rfl (Nat.le_of_ble_eq_true rfl) (fun z63 M63 q63 => ?_)
              obtain ⟨b63, rfl⟩ := q63
              refine S.if_ne (pc' := 69) (tgt := 78) dX12_comes_66 (by decide) rfl (by unfold fp_rng; omega) (fun h66 => ?_) (fun h66 => ?_)
              · refine S.iload (pc' := 80) dX12_comes_78 rfl rfl ?_
                refine S.bipush (pc' := 82) dX12_comes_80 rfl (by decide) ?_
                refine S.icmp_ne (pc' := 85) (tgt := 88) dX12_comes_82 (by decide) rfl (by unfold fp_rng; omega) (by unfold fp_rng; omega) (fun h82 => ?_) (fun h82 => ?_)
                · exfalso; omega
                · refine S.bipush (pc' := 87) dX12_comes_85 rfl (by decide) ?_
                  refine S.iret dX12_comes_87 rfl ?_
                  exact ⟨rfl, hv', fun c hc => rfl, fun j hj => rfl⟩
              · refine S.iload (pc' := 71) dX12_comes_69 rfl rfl ?_
                refine S.bipush (pc' := 73) dX12_comes_71 rfl (by decide) ?_
                refine S.icmp_eq (pc' := 76) (tgt := 78) dX12_comes_73 (by decide) rfl h4 (by unfold fp_rng; omega) (fun h73 => ?_) (fun h73 => ?_)
                · refine S.iload (pc' := 80) dX12_comes_78 rfl rfl ?_
                  refine S.bipush (pc' := 82) dX12_comes_80 rfl (by decide) ?_
                  refine S.icmp_ne (pc' := 85) (tgt := 88) dX12_comes_82 (by decide) rfl (by unfold fp_rng; omega) (by unfold fp_rng; omega) (fun h82 => ?_) (fun h82 => ?_)
                  · exfalso; omega
                  · refine S.bipush (pc' := 87) dX12_comes_85 rfl (by decide) ?_
                    refine S.iret dX12_comes_87 rfl ?_
                    exact ⟨rfl, hv', fun c hc => rfl, fun j hj => rfl⟩
                · exfalso; omega
      · rw [if_neg h12]
        refine S.iload_n (pc' := 32) dX12_comes_31 rfl rfl rfl ?_
        refine S.i2l (pc' := 33) dX12_comes_32 rfl h1 ?_
        refine S.iload (pc' := 35) dX12_comes_33 rfl rfl ?_
        refine S.i2l (pc' := 36) dX12_comes_35 rfl (by unfold fp_rng; omega) ?_
        refine S.ldc2 (pc' := 39) (v := 99) dX12_comes_36 rfl lX12_251 (by decide) ?_
        refine S.callSi (pc' := 42) dX12_comes_39 rfl cX12_94 (bk_X12_in) rfl (by decide) rfl (Nat.le_of_ble_eq_true rfl) (fun z39 M39 q39 => ?_)
        obtain ⟨b39, rfl⟩ := q39
        refine S.if_eq (pc' := 45) (tgt := 76) dX12_comes_42 (by decide) rfl (by unfold fp_rng; omega) (fun h42 => ?_) (fun h42 => ?_)
        · exfalso; omega
        · refine S.iload_n (pc' := 46) dX12_comes_45 rfl rfl rfl ?_
          refine S.callSi (pc' := 49) dX12_comes_46 rfl cX12_228 (bk_X12_isOne) rfl (by decide) rfl (Nat.le_of_ble_eq_true rfl) (fun z46 M46 q46 => ?_)
          obtain ⟨b46, rfl⟩ := q46
          refine S.if_eq (pc' := 52) (tgt := 76) dX12_comes_49 (by decide) rfl (by unfold fp_rng; omega) (fun h49 => ?_) (fun h49 => ?_)
          · exfalso; omega
          · refine S.aload_n (pc' := 53) dX12_comes_52 rfl rfl rfl ?_
            refine S.iload_n (pc' := 54) dX12_comes_53 rfl rfl rfl ?_
            refine S.callVi (pc' := 57) dX12_comes_54 rfl cX12_219 (bk_X12_isLine) rfl L_177 (by decide) rfl (Nat.le_of_ble_eq_true rfl) (fun z54 M54 q54 => ?_)
            obtain ⟨b54, rfl⟩ := q54
            refine S.if_eq (pc' := 60) (tgt := 76) dX12_comes_57 (by decide) rfl (by unfold fp_rng; omega) (fun h57 => ?_) (fun h57 => ?_)
            · exfalso; omega
            · refine S.aload_n (pc' := 61) dX12_comes_60 rfl rfl rfl ?_
              refine S.iload (pc' := 63) dX12_comes_61 rfl rfl ?_
              refine S.callVi (pc' := 66) dX12_comes_63 rfl cX12_205 (bk_X12_isThing) rfl L_177 (by decide) rfl (Nat.le_of_ble_eq_true rfl) (fun z63 M63 q63 => ?_)
              obtain ⟨b63, rfl⟩ := q63
              refine S.if_ne (pc' := 69) (tgt := 78) dX12_comes_66 (by decide) rfl (by unfold fp_rng; omega) (fun h66 => ?_) (fun h66 => ?_)
              · refine S.iload (pc' := 80) dX12_comes_78 rfl rfl ?_
                refine S.bipush (pc' := 82) dX12_comes_80 rfl (by decide) ?_
                refine S.icmp_ne (pc' := 85) (tgt := 88) dX12_comes_82 (by decide) rfl (by unfold fp_rng; omega) (by unfold fp_rng; omega) (fun h82 => ?_) (fun h82 => ?_)
                · refine S.aload_n (pc' := 89) dX12_comes_88 rfl rfl rfl ?_
                  refine S.getR (pc' := 92) dX12_comes_89 rfl fX12_7 L_177 rf_177_0 ?_
                  refine S.bipush (pc' := 94) dX12_comes_92 rfl (by decide) ?_
                  refine S.iconst (pc' := 95) dX12_comes_94 rfl ?_
                  refine S.iload (pc' := 97) dX12_comes_95 rfl rfl ?_
                  refine S.imul (pc' := 98) dX12_comes_97 rfl ?_
                  refine S.iadd (pc' := 99) dX12_comes_98 rfl ?_
                  refine S.iload_n (pc' := 100) dX12_comes_99 rfl rfl rfl ?_
                  refine S.iast (pc' := 101) dX12_comes_100 rfl L_178 (by omega) (by omega) ?_
                  refine S.aload_n (pc' := 102) dX12_comes_101 rfl rfl rfl ?_
                  refine S.getR (pc' := 105) dX12_comes_102 rfl fX12_7 L_177 rf_177_0 ?_
                  refine S.bipush (pc' := 107) dX12_comes_105 rfl (by decide) ?_
                  refine S.iconst (pc' := 108) dX12_comes_107 rfl ?_
                  refine S.iload (pc' := 110) dX12_comes_108 rfl rfl ?_
                  refine S.imul (pc' := 111) dX12_comes_110 rfl ?_
                  refine S.iadd (pc' := 112) dX12_comes_111 rfl ?_
                  refine S.iconst (pc' := 113) dX12_comes_112 rfl ?_
                  refine S.iadd (pc' := 114) dX12_comes_113 rfl ?_
                  refine S.iload_n (pc' := 115) dX12_comes_114 rfl rfl rfl ?_
                  refine S.iast (pc' := 116) dX12_comes_115 rfl L_178 (by omega) (by omega) ?_
                  refine S.aload_n (pc' := 117) dX12_comes_116 rfl rfl rfl ?_
                  refine S.getR (pc' := 120) dX12_comes_117 rfl fX12_7 L_177 rf_177_0 ?_
                  refine S.bipush (pc' := 122) dX12_comes_120 rfl (by decide) ?_
                  refine S.iconst (pc' := 123) dX12_comes_122 rfl ?_
                  refine S.iload (pc' := 125) dX12_comes_123 rfl rfl ?_
                  refine S.imul (pc' := 126) dX12_comes_125 rfl ?_
                  refine S.iadd (pc' := 127) dX12_comes_126 rfl ?_
                  refine S.iconst (pc' := 128) dX12_comes_127 rfl ?_
                  refine S.iadd (pc' := 129) dX12_comes_128 rfl ?_
                  refine S.iload_n (pc' := 130) dX12_comes_129 rfl rfl rfl ?_
                  refine S.iast (pc' := 131) dX12_comes_130 rfl L_178 (by omega) (by omega) ?_
                  refine S.aload_n (pc' := 132) dX12_comes_131 rfl rfl rfl ?_
                  refine S.getR (pc' := 135) dX12_comes_132 rfl fX12_7 L_177 rf_177_0 ?_
                  refine S.bipush (pc' := 137) dX12_comes_135 rfl (by decide) ?_
                  refine S.iconst (pc' := 138) dX12_comes_137 rfl ?_
                  refine S.iload (pc' := 140) dX12_comes_138 rfl rfl ?_
                  refine S.imul (pc' := 141) dX12_comes_140 rfl ?_
                  refine S.iadd (pc' := 142) dX12_comes_141 rfl ?_
                  refine S.iconst (pc' := 143) dX12_comes_142 rfl ?_
                  refine S.iadd (pc' := 144) dX12_comes_143 rfl ?_
                  refine S.iload (pc' := 146) dX12_comes_144 rfl rfl ?_
                  refine S.iast (pc' := 147) dX12_comes_146 rfl L_178 (by omega) (by omega) ?_
                  simp only [fp_up_same, fp_upM_at, fp_upM_upM]
                  refine S.aload_n (pc' := 148) dX12_comes_147 rfl rfl rfl ?_
                  refine S.getR (pc' := 151) dX12_comes_148 rfl fX12_7 L_177 rf_177_0 ?_
                  refine S.bipush (pc' := 153) dX12_comes_151 rfl (by decide) ?_
                  refine S.dup2 (pc' := 154) dX12_comes_153 rfl rfl rfl ?_
                  refine S.iald (pc' := 155) dX12_comes_154 rfl L_178 (by omega) (by omega) ?_
                  refine S.iconst (pc' := 156) dX12_comes_155 rfl ?_
                  refine S.iadd (pc' := 157) dX12_comes_156 rfl ?_
                  refine S.iast (pc' := 158) dX12_comes_157 rfl L_178 (by omega) (by omega) ?_
                  simp only [fp_up_same, fp_upM_at, fp_upM_upM]
                  rw [show (95 : Int).toNat = 95 from rfl, fp_upf_ne (show 95 ≠ _ by omega), fp_upf_ne (show 95 ≠ _ by omega), fp_upf_ne (show 95 ≠ _ by omega), fp_upf_ne (show 95 ≠ _ by omega), a1]
                  refine S.iload (pc' := 160) dX12_comes_158 rfl rfl ?_
                  refine S.iconst (pc' := 161) dX12_comes_160 rfl ?_
                  refine S.iadd (pc' := 162) dX12_comes_161 rfl ?_
                  refine S.iret dX12_comes_162 rfl ?_
                  refine ⟨rfl, by rw [fp_upM_at]; exact hv'.app (by omega), fun c hc => fp_upM_ne hc, fun j hj => by rw [fp_upM_at, fp_upf_ne (by omega), fp_upf_ne (by omega), fp_upf_ne (by omega), fp_upf_ne (by omega), fp_upf_ne (by omega)]⟩
                · exfalso; omega
              · refine S.iload (pc' := 71) dX12_comes_69 rfl rfl ?_
                refine S.bipush (pc' := 73) dX12_comes_71 rfl (by decide) ?_
                refine S.icmp_eq (pc' := 76) (tgt := 78) dX12_comes_73 (by decide) rfl h4 (by unfold fp_rng; omega) (fun h73 => ?_) (fun h73 => ?_)
                · refine S.iload (pc' := 80) dX12_comes_78 rfl rfl ?_
                  refine S.bipush (pc' := 82) dX12_comes_80 rfl (by decide) ?_
                  refine S.icmp_ne (pc' := 85) (tgt := 88) dX12_comes_82 (by decide) rfl (by unfold fp_rng; omega) (by unfold fp_rng; omega) (fun h82 => ?_) (fun h82 => ?_)
                  · refine S.aload_n (pc' := 89) dX12_comes_88 rfl rfl rfl ?_
                    refine S.getR (pc' := 92) dX12_comes_89 rfl fX12_7 L_177 rf_177_0 ?_
                    refine S.bipush (pc' := 94) dX12_comes_92 rfl (by decide) ?_
                    refine S.iconst (pc' := 95) dX12_comes_94 rfl ?_
                    refine S.iload (pc' := 97) dX12_comes_95 rfl rfl ?_
                    refine S.imul (pc' := 98) dX12_comes_97 rfl ?_
                    refine S.iadd (pc' := 99) dX12_comes_98 rfl ?_
                    refine S.iload_n (pc' := 100) dX12_comes_99 rfl rfl rfl ?_
                    refine S.iast (pc' := 101) dX12_comes_100 rfl L_178 (by omega) (by omega) ?_
                    refine S.aload_n (pc' := 102) dX12_comes_101 rfl rfl rfl ?_
                    refine S.getR (pc' := 105) dX12_comes_102 rfl fX12_7 L_177 rf_177_0 ?_
                    refine S.bipush (pc' := 107) dX12_comes_105 rfl (by decide) ?_
                    refine S.iconst (pc' := 108) dX12_comes_107 rfl ?_
                    refine S.iload (pc' := 110) dX12_comes_108 rfl rfl ?_
                    refine S.imul (pc' := 111) dX12_comes_110 rfl ?_
                    refine S.iadd (pc' := 112) dX12_comes_111 rfl ?_
                    refine S.iconst (pc' := 113) dX12_comes_112 rfl ?_
                    refine S.iadd (pc' := 114) dX12_comes_113 rfl ?_
                    refine S.iload_n (pc' := 115) dX12_comes_114 rfl rfl rfl ?_
                    refine S.iast (pc' := 116) dX12_comes_115 rfl L_178 (by omega) (by omega) ?_
                    refine S.aload_n (pc' := 117) dX12_comes_116 rfl rfl rfl ?_
                    refine S.getR (pc' := 120) dX12_comes_117 rfl fX12_7 L_177 rf_177_0 ?_
                    refine S.bipush (pc' := 122) dX12_comes_120 rfl (by decide) ?_
                    refine S.iconst (pc' := 123) dX12_comes_122 rfl ?_
                    refine S.iload (pc' := 125) dX12_comes_123 rfl rfl ?_
                    refine S.imul (pc' := 126) dX12_comes_125 rfl ?_
                    refine S.iadd (pc' := 127) dX12_comes_126 rfl ?_
                    refine S.iconst (pc' := 128) dX12_comes_127 rfl ?_
                    refine S.iadd (pc' := 129) dX12_comes_128 rfl ?_
                    refine S.iload_n (pc' := 130) dX12_comes_129 rfl rfl rfl ?_
                    refine S.iast (pc' := 131) dX12_comes_130 rfl L_178 (by omega) (by omega) ?_
                    refine S.aload_n (pc' := 132) dX12_comes_131 rfl rfl rfl ?_
                    refine S.getR (pc' := 135) dX12_comes_132 rfl fX12_7 L_177 rf_177_0 ?_
                    refine S.bipush (pc' := 137) dX12_comes_135 rfl (by decide) ?_
                    refine S.iconst (pc' := 138) dX12_comes_137 rfl ?_
                    refine S.iload (pc' := 140) dX12_comes_138 rfl rfl ?_
                    refine S.imul (pc' := 141) dX12_comes_140 rfl ?_
                    refine S.iadd (pc' := 142) dX12_comes_141 rfl ?_
                    refine S.iconst (pc' := 143) dX12_comes_142 rfl ?_
                    refine S.iadd (pc' := 144) dX12_comes_143 rfl ?_
                    refine S.iload (pc' := 146) dX12_comes_144 rfl rfl ?_
                    refine S.iast (pc' := 147) dX12_comes_146 rfl L_178 (by omega) (by omega) ?_
                    simp only [fp_up_same, fp_upM_at, fp_upM_upM]
                    refine S.aload_n (pc' := 148) dX12_comes_147 rfl rfl rfl ?_
                    refine S.getR (pc' := 151) dX12_comes_148 rfl fX12_7 L_177 rf_177_0 ?_
                    refine S.bipush (pc' := 153) dX12_comes_151 rfl (by decide) ?_
                    refine S.dup2 (pc' := 154) dX12_comes_153 rfl rfl rfl ?_
                    refine S.iald (pc' := 155) dX12_comes_154 rfl L_178 (by omega) (by omega) ?_
                    refine S.iconst (pc' := 156) dX12_comes_155 rfl ?_
                    refine S.iadd (pc' := 157) dX12_comes_156 rfl ?_
                    refine S.iast (pc' := 158) dX12_comes_157 rfl L_178 (by omega) (by omega) ?_
                    simp only [fp_up_same, fp_upM_at, fp_upM_upM]
                    rw [show (95 : Int).toNat = 95 from rfl, fp_upf_ne (show 95 ≠ _ by omega), fp_upf_ne (show 95 ≠ _ by omega), fp_upf_ne (show 95 ≠ _ by omega), fp_upf_ne (show 95 ≠ _ by omega), a1]
                    refine S.iload (pc' := 160) dX12_comes_158 rfl rfl ?_
                    refine S.iconst (pc' := 161) dX12_comes_160 rfl ?_
                    refine S.iadd (pc' := 162) dX12_comes_161 rfl ?_
                    refine S.iret dX12_comes_162 rfl ?_
                    refine ⟨rfl, by rw [fp_upM_at]; exact hv'.app (by omega), fun c hc => fp_upM_ne hc, fun j hj => by rw [fp_upM_at, fp_upf_ne (by omega), fp_upf_ne (by omega), fp_upf_ne (by omega), fp_upf_ne (by omega), fp_upf_ne (by omega)]⟩
                  · exfalso; omega
                · exfalso; omega
    · rw [if_pos hin]
      refine S.iload_n (pc' := 32) dX12_comes_31 rfl rfl rfl ?_
      refine S.i2l (pc' := 33) dX12_comes_32 rfl h1 ?_
      refine S.iload (pc' := 35) dX12_comes_33 rfl rfl ?_
      refine S.i2l (pc' := 36) dX12_comes_35 rfl (by unfold fp_rng; omega) ?_
      refine S.ldc2 (pc' := 39) (v := 99) dX12_comes_36 rfl lX12_251 (by decide) ?_
      refine S.callSi (pc' := 42) dX12_comes_39 rfl cX12_94 (bk_X12_in) rfl (by decide) rfl (Nat.le_of_ble_eq_true rfl) (fun z39 M39 q39 => ?_)
      obtain ⟨b39, rfl⟩ := q39
      refine S.if_eq (pc' := 45) (tgt := 76) dX12_comes_42 (by decide) rfl (by unfold fp_rng; omega) (fun h42 => ?_) (fun h42 => ?_)
      · refine S.iconst (pc' := 77) dX12_comes_76 rfl ?_
        refine S.iret dX12_comes_77 rfl ?_
        exact ⟨rfl, hv', fun c hc => rfl, fun j hj => rfl⟩
      · refine S.iload_n (pc' := 46) dX12_comes_45 rfl rfl rfl ?_
        refine S.callSi (pc' := 49) dX12_comes_46 rfl cX12_228 (bk_X12_isOne) rfl (by decide) rfl (Nat.le_of_ble_eq_true rfl) (fun z46 M46 q46 => ?_)
        obtain ⟨b46, rfl⟩ := q46
        refine S.if_eq (pc' := 52) (tgt := 76) dX12_comes_49 (by decide) rfl (by unfold fp_rng; omega) (fun h49 => ?_) (fun h49 => ?_)
        · refine S.iconst (pc' := 77) dX12_comes_76 rfl ?_
          refine S.iret dX12_comes_77 rfl ?_
          exact ⟨rfl, hv', fun c hc => rfl, fun j hj => rfl⟩
        · refine S.aload_n (pc' := 53) dX12_comes_52 rfl rfl rfl ?_
          refine S.iload_n (pc' := 54) dX12_comes_53 rfl rfl rfl ?_
          refine S.callVi (pc' := 57) dX12_comes_54 rfl cX12_219 (bk_X12_isLine) rfl L_177 (by decide) rfl (Nat.le_of_ble_eq_true rfl) (fun z54 M54 q54 => ?_)
          obtain ⟨b54, rfl⟩ := q54
          refine S.if_eq (pc' := 60) (tgt := 76) dX12_comes_57 (by decide) rfl (by unfold fp_rng; omega) (fun h57 => ?_) (fun h57 => ?_)
          · refine S.iconst (pc' := 77) dX12_comes_76 rfl ?_
            refine S.iret dX12_comes_77 rfl ?_
            exact ⟨rfl, hv', fun c hc => rfl, fun j hj => rfl⟩
          · refine S.aload_n (pc' := 61) dX12_comes_60 rfl rfl rfl ?_
            refine S.iload (pc' := 63) dX12_comes_61 rfl rfl ?_
            refine S.callVi (pc' := 66) dX12_comes_63 rfl cX12_205 (bk_X12_isThing) rfl L_177 (by decide) rfl (Nat.le_of_ble_eq_true rfl) (fun z63 M63 q63 => ?_)
            obtain ⟨b63, rfl⟩ := q63
            refine S.if_ne (pc' := 69) (tgt := 78) dX12_comes_66 (by decide) rfl (by unfold fp_rng; omega) (fun h66 => ?_) (fun h66 => ?_)
            · exfalso; omega
            · refine S.iload (pc' := 71) dX12_comes_69 rfl rfl ?_
              refine S.bipush (pc' := 73) dX12_comes_71 rfl (by decide) ?_
              refine S.icmp_eq (pc' := 76) (tgt := 78) dX12_comes_73 (by decide) rfl h4 (by unfold fp_rng; omega) (fun h73 => ?_) (fun h73 => ?_)
              · exfalso; omega
              · refine S.iconst (pc' := 77) dX12_comes_76 rfl ?_
                refine S.iret dX12_comes_77 rfl ?_
                exact ⟨rfl, hv', fun c hc => rfl, fun j hj => rfl⟩
  refine S.aload_n (pc' := 1) dX12_comes_0 rfl rfl rfl ?_
  refine S.callVe (pc' := 4) dX12_comes_1 rfl cX12_225 (ok_X12_visits) rfl L_177 (by decide) rfl (Nat.le_of_ble_eq_true rfl) ?_
  rw [a1]
  refine S.istore (pc' := 6) (LL' := [_, _, _, _, _, _, _]) dX12_comes_4 rfl (by decide) rfl rfl ?_
  refine S.iload (pc' := 8) dX12_comes_6 rfl rfl ?_
  refine S.if_ne (pc' := 11) (tgt := 15) dX12_comes_8 (by decide) rfl (by unfold fp_rng; omega) (fun h8 => ?_) (fun h8 => ?_)
  · refine S.aload_n (pc' := 16) dX12_comes_15 rfl rfl rfl ?_
    refine S.getR (pc' := 19) dX12_comes_16 rfl fX12_7 L_177 rf_177_0 ?_
    refine S.bipush (pc' := 21) dX12_comes_19 rfl (by decide) ?_
    refine S.iconst (pc' := 22) dX12_comes_21 rfl ?_
    refine S.iload (pc' := 24) dX12_comes_22 rfl rfl ?_
    refine S.imul (pc' := 25) dX12_comes_24 rfl ?_
    refine S.iadd (pc' := 26) dX12_comes_25 rfl ?_
    refine S.iconst (pc' := 27) dX12_comes_26 rfl ?_
    refine S.isub (pc' := 28) dX12_comes_27 rfl ?_
    refine S.iald (pc' := 29) dX12_comes_28 rfl L_178 (by omega) (by omega) ?_
    first | (rw [hls (by omega)]) | (rw [← hl0 (by omega)])
    refine S.istore (pc' := 31) (LL' := [_, _, _, _, _, _, _]) dX12_comes_29 rfl (by decide) rfl rfl ?_
    exact body
  · refine S.iconst (pc' := 12) dX12_comes_11 rfl ?_
    refine S.goto (pc' := 29) dX12_comes_12 (by decide) ?_
    first | (rw [hls (by omega)]) | (rw [← hl0 (by omega)])
    refine S.istore (pc' := 31) (LL' := [_, _, _, _, _, _, _]) dX12_comes_29 rfl (by decide) rfl rfl ?_
    exact body
theorem mm_come {day p x t : Int} (hc : MS M tp fl g pg vs nt im sh tn) (ho : OK g pg vs nt im sh) (h1 : fp_rng day) (h2 : fp_rng p) (h3 : fp_rng x) (h4 : fp_rng t) : fp_Ok l G 3 kX12_come [rV G 177, iV day, iV p, iV x, iV t] M (qI fun z N => z = (A_come g vs day p x t).1 ∧ MS N tp fl g pg (A_come g vs day p x t).2 nt im sh tn ∧ frD M N) := by
  have hcs := hc
  obtain ⟨-, hd, -, hv, -⟩ := hc
  have hg := ho.1
  have hvo := ho.2.2.1
  refine fp_Ok.of (r := 0) rfl (Nat.le_of_ble_eq_true rfl) rfl ?_
  refine S.aload_n (pc' := 1) dX12_come_0 rfl rfl rfl ?_
  refine S.iload_n (pc' := 2) dX12_come_1 rfl rfl rfl ?_
  refine S.iload_n (pc' := 3) dX12_come_2 rfl rfl rfl ?_
  refine S.iload_n (pc' := 4) dX12_come_3 rfl rfl rfl ?_
  refine S.iload (pc' := 6) dX12_come_4 rfl rfl ?_
  refine S.callVi (pc' := 9) dX12_come_6 rfl cX12_253 (rk_X12_comes (g := g) (vs := vs)) rfl L_177 (by decide) rfl (Nat.le_of_ble_eq_true rfl) (fun z6 M6 q6 => ?_)
  obtain ⟨z1, c1, f1, f2⟩ := q6
  refine S.iret dX12_come_9 rfl ?_
  exact ⟨z1, hcs.vis ho f1 f2 c1, fun c hc => f1 c (by omega)⟩
end CME
end
section
/-! RUNS: copyFrom, behind; after, gains, vain, since -/
def A_after (g : aGd) (pg : aPg) (vs : List aVt) (n t : Int) : Int := if (0 ≤ n ∧ n ≤ vs.length) ∧ (0 ≤ t ∧ t < g.1) then (aRun g pg vs n.toNat).1 t else -1
def A_gains (g : aGd) (pg : aPg) (vs : List aVt) (n p : Int) : Int := if (0 ≤ n ∧ n ≤ vs.length) ∧ (0 ≤ p ∧ p < 4) then aWorth g (aRun g pg vs n.toNat) p else -1
def A_since (g : aGd) (pg : aPg) (vs : List aVt) (p t : Int) : Int := if ¬ ((0 ≤ p ∧ p < 4) ∧ (0 ≤ t ∧ t < g.1)) then -1 else if pg.1 t = p then -2 else fp_find (fun i => (aRun g pg vs (i + 1).toNat).1 t) p vs.length 0
section RUN
variable {l : Launch} {G : fp_WG} {M N : fp_Mem} {tp tp' : List Int} {fl fl' : Int} {g : aGd} {pg : aPg} {vs vs' : List aVt} {nt nt' : List Int} {im : aIm} {sh : aSh} {tn tn' : Int} {k k2 kg kv : Nat}
theorem rk_X5_copyFrom (hk : fp_ispl k) (hk2 : fp_ispl k2) (hne : k ≠ k2) (hc : clIs M k2 g pg := by assumption) (hP : pgOk g pg := by assumption) (hg : gOk g := by assumption) : fp_Ok l G 1 kX5_copyFrom [rV G k, rV G k2] M (qV fun N => clIs N k g pg ∧ frP M N k) := by
  have hap := pl_pl hk hk2 hne
  have hg1 := hg.1
  refine (ok_X5_copyFrom hk hk2 (by omega)).toV ⟨?_, fun a ha => fp_splo ha⟩
  obtain ⟨c1, c2, c3, c4, o1, o2, o3⟩ := hc
  refine ⟨fun t t0 t1 => ?_, fun t t0 t1 => ?_, fun t t0 t1 => ?_, fun x x0 x3 => ?_, fun t t0 t1 => ?_, fun x x0 x3 => ?_, fun i i0 i1 => ?_⟩
  · rw [fp_spl1, if_pos (by omega)]; exact c1 t t0 t1
  · rw [fp_spl1, if_pos (by omega)]; exact c2 t t0 t1
  · rw [fp_spl2, if_pos (by omega)]; exact c3 t t0 t1
  · rw [fp_spl3, fp_spl4, if_pos (by omega)]
    obtain ⟨q1, q2⟩ := c4 x x0 x3
    have hl := (hP.2.1 x x0 x3).1
    refine ⟨q1, fun i i0 i1 => ?_⟩
    rw [if_pos (by omega)]; exact q2 i i0 i1
  · rw [fp_spl1, if_pos (by omega)]; exact o1 t t0 t1
  · rw [fp_spl3, if_pos (by omega)]; exact o2 x x0 x3
  · rw [fp_spl4, if_pos (by omega)]; exact o3 i i0 i1
theorem behind_loop {m9 : Int} (hkg : fp_isgd kg) (hkv : fp_isvs kv) (hP : pgOk g pg) (hg : gOk g) (hvo : vsOk g vs) (hv : vsIs M kv vs) (hd : gdIs M kg g) (hm : 0 ≤ m9 ∧ m9 ≤ vs.length) : ∀ (n : Nat) (i : Int) (N : fp_Mem), (m9 - i).toNat < n → 0 ≤ i → i ≤ m9 → frP M N 41 → clIs N 41 g (aRun g pg vs i.toNat) →
    fp_S l G 3 kX8_behind 17 [some (rV G 34), some (rV G kg), some (rV G kv), some (rV G k), some (iV m9), some (rV G 41), some (iV i)] [] N (qR G fun z O => z = 41 ∧ clIs O 41 g (aRun g pg vs m9.toNat) ∧ frP M O 41) := by
  have hl := hv.2.1
  intro n
  induction n with
  | zero => intro i N h; omega
  | succ n ih =>
    intro i N h i0 i1 hf hc
    have er := aRun_succ (g := g) (pg := pg) (vs := vs) i0
    have hPi := aRun_ok hg hP hvo i.toNat
    have hv' := hf.vs pl41 hkv hv
    have hd' := hf.gd pl41 hkg hd
    refine S.iload (pc' := 19) dX8_behind_17 rfl rfl ?_
    refine S.iload (pc' := 21) dX8_behind_19 rfl rfl ?_
    refine S.icmp_ge (pc' := 24) (tgt := 40) dX8_behind_21 (by decide) rfl (by unfold fp_rng; omega) (by unfold fp_rng; omega) (fun h21 => ?_) (fun h21 => ?_)
    · refine S.aload (pc' := 42) dX8_behind_40 rfl rfl ?_
      refine S.aret dX8_behind_42 rfl (Or.inl ⟨_, rfl⟩) ?_
      rw [show m9 = i by omega]; exact ⟨rfl, hc, hf⟩
    · refine S.aload_n (pc' := 25) dX8_behind_24 rfl rfl rfl ?_
      refine S.aload_n (pc' := 26) dX8_behind_25 rfl rfl rfl ?_
      refine S.aload (pc' := 28) dX8_behind_26 rfl rfl ?_
      refine S.iload (pc' := 30) dX8_behind_28 rfl rfl ?_
      refine S.callVi (pc' := 33) dX8_behind_30 rfl cX8_40 (rk_X10_happens (g := g) (pg := aRun g pg vs i.toNat) (vs := vs) hkv hkg pl41) rfl (vs_lay hkv) (by decide) rfl (Nat.le_of_ble_eq_true rfl) (fun z30 M30 q30 => ?_)
      obtain ⟨z1, c1, f1⟩ := q30
      rw [← er] at c1
      refine S.pop (pc' := 34) dX8_behind_33 rfl rfl ?_
      refine S.iinc (pc' := 37) (LL' := [_, _, _, _, _, _, _]) dX8_behind_34 rfl (by decide) rfl rfl rfl ?_
      refine S.goto (pc' := 17) dX8_behind_37 (by decide) ?_
      exact ih _ _ (by omega) (by omega) (by omega) (hf.trans f1) c1
theorem rk_X8_behind {m9 : Int} (hkg : fp_isgd kg) (hkv : fp_isvs kv) (hk : fp_ispl k) (hne : 41 ≠ k := by decide) (hc : clIs M k g pg := by assumption) (hP : pgOk g pg := by assumption) (hg : gOk g := by assumption) (hvo : vsOk g vs := by assumption) (hv : vsIs M kv vs := by assumption) (hd : gdIs M kg g := by assumption) (hm : 0 ≤ m9 ∧ m9 ≤ vs.length := by first | assumption | omega) : fp_Ok l G 3 kX8_behind [rV G 34, rV G kg, rV G kv, rV G k, iV m9] M (qR G fun z O => z = 41 ∧ clIs O 41 g (aRun g pg vs m9.toNat) ∧ frP M O 41) := by
  refine fp_Ok.of (r := 2) rfl (Nat.le_of_ble_eq_true rfl) rfl ?_
  refine S.aload_n (pc' := 1) dX8_behind_0 rfl rfl rfl ?_
  refine S.getR (pc' := 4) dX8_behind_1 rfl fX8_11 L_34 rf_34_0 ?_
  refine S.iconst (pc' := 5) dX8_behind_4 rfl ?_
  refine S.aald (pc' := 6) (t := 41) dX8_behind_5 rfl L_35 (by decide) (by decide) (by omega) (by omega) (by decide +kernel) ?_
  refine S.astore (pc' := 8) (LL' := [_, _, _, _, _, _, _]) dX8_behind_6 rfl (by decide) rfl rfl ?_
  refine S.aload (pc' := 10) dX8_behind_8 rfl rfl ?_
  refine S.aload_n (pc' := 11) dX8_behind_10 rfl rfl rfl ?_
  refine S.callVv (pc' := 14) dX8_behind_11 rfl cX8_36 (rk_X5_copyFrom (g := g) (pg := pg) pl41 hk hne) rfl (pl_lay pl41) (by decide) rfl (Nat.le_of_ble_eq_true rfl) (fun M11 q11 => ?_)
  obtain ⟨c1, f1⟩ := q11
  refine S.iconst (pc' := 15) dX8_behind_14 rfl ?_
  refine S.istore (pc' := 17) (LL' := [_, _, _, _, _, _, _]) dX8_behind_15 rfl (by decide) rfl rfl ?_
  exact behind_loop hkg hkv hP hg hvo hv hd hm (m9.toNat + 1) 0 _ (by omega) (by omega) (by omega) f1 c1
theorem CS.scr (h : CS M tp fl g pg vs nt im sh tn) (e : frP M N 41) : CS N tp fl g pg vs nt im sh tn := h.kept (fun a ha => e a (by omega))
theorem MS.tri (h : MS M tp fl g pg vs nt im sh tn) (ho : OK g pg vs nt im sh) (e : frT M N) : MS N tp fl g pg vs nt im sh tn := h.trial ho (fun c hc => e.1 c (by omega)) (fun j hj => e.2 j (by omega))
theorem cc_after {n t : Int} (hc : CS M tp fl g pg vs nt im sh tn) (ho : OK g pg vs nt im sh) (hn : fp_rng n) (ht : fp_rng t) : fp_Ok l G 4 kX11_after [rV G 0, iV n, iV t] M (qI fun z N => z = A_after g pg vs n t ∧ CS N tp fl g pg vs nt im sh tn ∧ frC M N) := by
  have hcs := hc
  obtain ⟨-, hd, hcl, hv, -⟩ := hc
  obtain ⟨hg, hP, hvo, -⟩ := ho
  have hl1 := hv.1
  have hl := hv.2.1
  have hg1 := hg.1
  refine fp_Ok.of (r := 0) rfl (Nat.le_of_ble_eq_true rfl) rfl ?_
  unfold A_after
  by_cases hin : (0 ≤ n ∧ n ≤ vs.length) ∧ (0 ≤ t ∧ t < g.1)
  · rw [if_pos hin]
    refine S.iload_n (pc' := 1) dX11_after_0 rfl rfl rfl ?_
    refine S.if_lt (pc' := 4) (tgt := 26) dX11_after_1 (by decide) rfl hn (fun h1 => ?_) (fun h1 => ?_)
    · exfalso; omega
    · refine S.iload_n (pc' := 5) dX11_after_4 rfl rfl rfl ?_
      refine S.aload_n (pc' := 6) dX11_after_5 rfl rfl rfl ?_
      refine S.getR (pc' := 9) dX11_after_6 rfl fX11_37 L_0 rf_0_5 ?_
      refine S.getI (pc' := 12) dX11_after_9 rfl fX11_205 (vs_lay vs27) ?_
      refine S.icmp_gt (pc' := 15) (tgt := 26) dX11_after_12 (by decide) rfl hn (by unfold fp_rng; omega) (fun h12 => ?_) (fun h12 => ?_)
      · exfalso; omega
      · refine S.aload_n (pc' := 16) dX11_after_15 rfl rfl rfl ?_
        refine S.getR (pc' := 19) dX11_after_16 rfl fX11_23 L_0 rf_0_3 ?_
        refine S.iload_n (pc' := 20) dX11_after_19 rfl rfl rfl ?_
        refine S.callVi (pc' := 23) dX11_after_20 rfl cX11_126 (bk_X1_hasThing gd18) rfl (gd_lay gd18) (by decide) rfl (Nat.le_of_ble_eq_true rfl) (fun z20 M20 q20 => ?_)
        obtain ⟨b20, rfl⟩ := q20
        refine S.if_ne (pc' := 26) (tgt := 28) dX11_after_23 (by decide) rfl (by unfold fp_rng; omega) (fun h23 => ?_) (fun h23 => ?_)
        · refine S.aload_n (pc' := 29) dX11_after_28 rfl rfl rfl ?_
          refine S.getR (pc' := 32) dX11_after_29 rfl fX11_51 L_0 rf_0_7 ?_
          refine S.aload_n (pc' := 33) dX11_after_32 rfl rfl rfl ?_
          refine S.getR (pc' := 36) dX11_after_33 rfl fX11_23 L_0 rf_0_3 ?_
          refine S.aload_n (pc' := 37) dX11_after_36 rfl rfl rfl ?_
          refine S.getR (pc' := 40) dX11_after_37 rfl fX11_37 L_0 rf_0_5 ?_
          refine S.aload_n (pc' := 41) dX11_after_40 rfl rfl rfl ?_
          refine S.getR (pc' := 44) dX11_after_41 rfl fX11_30 L_0 rf_0_4 ?_
          refine S.iload_n (pc' := 45) dX11_after_44 rfl rfl rfl ?_
          refine S.callVr (pc' := 48) dX11_after_45 rfl cX11_214 (rk_X8_behind (g := g) (pg := pg) (vs := vs) gd18 vs27 pl22) rfl L_34 (by decide) rfl (Nat.le_of_ble_eq_true rfl) (fun z45 M45 q45 => ?_)
          obtain ⟨rfl, c1, f1⟩ := q45
          refine S.getR (pc' := 51) dX11_after_48 rfl fX11_138 (pl_lay pl41) (pl_r0 pl41) ?_
          refine S.iload_n (pc' := 52) dX11_after_51 rfl rfl rfl ?_
          refine S.iald (pc' := 53) dX11_after_52 rfl (pl_a0 pl41) (by omega) (by omega) ?_
          refine S.iret dX11_after_53 rfl ?_
          exact ⟨c1.1 t hin.2.1 hin.2.2, hcs.scr f1, f1.c (by decide)⟩
        · exfalso; omega
  · rw [if_neg hin]
    refine S.iload_n (pc' := 1) dX11_after_0 rfl rfl rfl ?_
    refine S.if_lt (pc' := 4) (tgt := 26) dX11_after_1 (by decide) rfl hn (fun h1 => ?_) (fun h1 => ?_)
    · refine S.iconst (pc' := 27) dX11_after_26 rfl ?_
      refine S.iret dX11_after_27 rfl ?_
      exact ⟨rfl, hcs, frC.refl _⟩
    · refine S.iload_n (pc' := 5) dX11_after_4 rfl rfl rfl ?_
      refine S.aload_n (pc' := 6) dX11_after_5 rfl rfl rfl ?_
      refine S.getR (pc' := 9) dX11_after_6 rfl fX11_37 L_0 rf_0_5 ?_
      refine S.getI (pc' := 12) dX11_after_9 rfl fX11_205 (vs_lay vs27) ?_
      refine S.icmp_gt (pc' := 15) (tgt := 26) dX11_after_12 (by decide) rfl hn (by unfold fp_rng; omega) (fun h12 => ?_) (fun h12 => ?_)
      · refine S.iconst (pc' := 27) dX11_after_26 rfl ?_
        refine S.iret dX11_after_27 rfl ?_
        exact ⟨rfl, hcs, frC.refl _⟩
      · refine S.aload_n (pc' := 16) dX11_after_15 rfl rfl rfl ?_
        refine S.getR (pc' := 19) dX11_after_16 rfl fX11_23 L_0 rf_0_3 ?_
        refine S.iload_n (pc' := 20) dX11_after_19 rfl rfl rfl ?_
        refine S.callVi (pc' := 23) dX11_after_20 rfl cX11_126 (bk_X1_hasThing gd18) rfl (gd_lay gd18) (by decide) rfl (Nat.le_of_ble_eq_true rfl) (fun z20 M20 q20 => ?_)
        obtain ⟨b20, rfl⟩ := q20
        refine S.if_ne (pc' := 26) (tgt := 28) dX11_after_23 (by decide) rfl (by unfold fp_rng; omega) (fun h23 => ?_) (fun h23 => ?_)
        · exfalso; omega
        · refine S.iconst (pc' := 27) dX11_after_26 rfl ?_
          refine S.iret dX11_after_27 rfl ?_
          exact ⟨rfl, hcs, frC.refl _⟩
theorem mm_after {n t : Int} (hc : MS M tp fl g pg vs nt im sh tn) (ho : OK g pg vs nt im sh) (hn : fp_rng n) (ht : fp_rng t) : fp_Ok l G 6 kX12_after [rV G 177, iV n, iV t] M (qI fun z N => z = A_after g pg vs n t ∧ MS N tp fl g pg vs nt im sh tn ∧ frD M N) := by
  have hcs := hc
  obtain ⟨-, hd, hcl, hv, -⟩ := hc
  have hg := ho.1
  have hP := ho.2.1
  have hvo := ho.2.2.1
  have hv' : mvIs M vs := hv
  have hl1 := hv.1
  have hl := hv.2.1
  have hg1 := hg.1
  have hn' := hn
  unfold fp_rng at hn'
  refine fp_Ok.of (r := 0) rfl (Nat.le_of_ble_eq_true rfl) rfl ?_
  unfold A_after
  by_cases hin : (0 ≤ n ∧ n ≤ vs.length) ∧ (0 ≤ t ∧ t < g.1)
  · rw [if_pos hin]
    refine S.iload_n (pc' := 1) dX12_after_0 rfl rfl rfl ?_
    refine S.i2l (pc' := 2) dX12_after_1 rfl hn ?_
    refine S.lconst (pc' := 3) (w := 0) dX12_after_2 rfl rfl ?_
    refine S.aload_n (pc' := 4) dX12_after_3 rfl rfl rfl ?_
    refine S.callVe (pc' := 7) dX12_after_4 rfl cX12_225 (ok_X12_visits) rfl L_177 (by decide) rfl (Nat.le_of_ble_eq_true rfl) ?_
    refine S.i2l (pc' := 8) dX12_after_7 rfl (by unfold fp_rng; omega) ?_
    refine S.callSi (pc' := 11) dX12_after_8 rfl cX12_94 (bk_X12_in) rfl (by decide) rfl (Nat.le_of_ble_eq_true rfl) (fun z8 M8 q8 => ?_)
    obtain ⟨b8, rfl⟩ := q8
    refine S.if_eq (pc' := 14) (tgt := 22) dX12_after_11 (by decide) rfl (by unfold fp_rng; omega) (fun h11 => ?_) (fun h11 => ?_)
    · exfalso; omega
    · refine S.aload_n (pc' := 15) dX12_after_14 rfl rfl rfl ?_
      refine S.iload_n (pc' := 16) dX12_after_15 rfl rfl rfl ?_
      refine S.callVi (pc' := 19) dX12_after_16 rfl cX12_205 (bk_X12_isThing) rfl L_177 (by decide) rfl (Nat.le_of_ble_eq_true rfl) (fun z16 M16 q16 => ?_)
      obtain ⟨b16, rfl⟩ := q16
      refine S.if_ne (pc' := 22) (tgt := 24) dX12_after_19 (by decide) rfl (by unfold fp_rng; omega) (fun h19 => ?_) (fun h19 => ?_)
      · refine S.aload_n (pc' := 25) dX12_after_24 rfl rfl rfl ?_
        refine S.iload_n (pc' := 26) dX12_after_25 rfl rfl rfl ?_
        refine S.callVi (pc' := 29) dX12_after_26 rfl cX12_268 (rk_X12_runs (g := g) (pg := pg) (vs := vs)) rfl L_177 (by decide) rfl (Nat.le_of_ble_eq_true rfl) (fun z26 M26 q26 => ?_)
        obtain ⟨z1, c1, f1⟩ := q26
        refine S.pop (pc' := 30) dX12_after_29 rfl rfl ?_
        refine S.aload_n (pc' := 31) dX12_after_30 rfl rfl rfl ?_
        refine S.getR (pc' := 34) dX12_after_31 rfl fX12_7 L_177 rf_177_0 ?_
        refine S.sipush (pc' := 37) dX12_after_34 rfl (by decide) ?_
        refine S.iload_n (pc' := 38) dX12_after_37 rfl rfl rfl ?_
        refine S.iadd (pc' := 39) dX12_after_38 rfl ?_
        refine S.iald (pc' := 40) dX12_after_39 rfl L_178 (by omega) (by omega) ?_
        refine S.iret dX12_after_40 rfl ?_
        exact ⟨c1.1 t hin.2.1 hin.2.2, hcs.tri ho f1, f1.d⟩
      · exfalso; omega
  · rw [if_neg hin]
    refine S.iload_n (pc' := 1) dX12_after_0 rfl rfl rfl ?_
    refine S.i2l (pc' := 2) dX12_after_1 rfl hn ?_
    refine S.lconst (pc' := 3) (w := 0) dX12_after_2 rfl rfl ?_
    refine S.aload_n (pc' := 4) dX12_after_3 rfl rfl rfl ?_
    refine S.callVe (pc' := 7) dX12_after_4 rfl cX12_225 (ok_X12_visits) rfl L_177 (by decide) rfl (Nat.le_of_ble_eq_true rfl) ?_
    refine S.i2l (pc' := 8) dX12_after_7 rfl (by unfold fp_rng; omega) ?_
    refine S.callSi (pc' := 11) dX12_after_8 rfl cX12_94 (bk_X12_in) rfl (by decide) rfl (Nat.le_of_ble_eq_true rfl) (fun z8 M8 q8 => ?_)
    obtain ⟨b8, rfl⟩ := q8
    refine S.if_eq (pc' := 14) (tgt := 22) dX12_after_11 (by decide) rfl (by unfold fp_rng; omega) (fun h11 => ?_) (fun h11 => ?_)
    · refine S.iconst (pc' := 23) dX12_after_22 rfl ?_
      refine S.iret dX12_after_23 rfl ?_
      exact ⟨rfl, hcs, frD.refl _⟩
    · refine S.aload_n (pc' := 15) dX12_after_14 rfl rfl rfl ?_
      refine S.iload_n (pc' := 16) dX12_after_15 rfl rfl rfl ?_
      refine S.callVi (pc' := 19) dX12_after_16 rfl cX12_205 (bk_X12_isThing) rfl L_177 (by decide) rfl (Nat.le_of_ble_eq_true rfl) (fun z16 M16 q16 => ?_)
      obtain ⟨b16, rfl⟩ := q16
      refine S.if_ne (pc' := 22) (tgt := 24) dX12_after_19 (by decide) rfl (by unfold fp_rng; omega) (fun h19 => ?_) (fun h19 => ?_)
      · exfalso; omega
      · refine S.iconst (pc' := 23) dX12_after_22 rfl ?_
        refine S.iret dX12_after_23 rfl ?_
        exact ⟨rfl, hcs, frD.refl _⟩
theorem cc_gains {n p : Int} (hc : CS M tp fl g pg vs nt im sh tn) (ho : OK g pg vs nt im sh) (hn : fp_rng n) (hp : fp_rng p) : fp_Ok l G 4 kX11_gains [rV G 0, iV n, iV p] M (qI fun z N => z = A_gains g pg vs n p ∧ CS N tp fl g pg vs nt im sh tn ∧ frC M N) := by
  have hcs := hc
  obtain ⟨-, hd, hcl, hv, -⟩ := hc
  obtain ⟨hg, hP, hvo, -⟩ := ho
  have hl1 := hv.1
  have hl := hv.2.1
  refine fp_Ok.of (r := 0) rfl (Nat.le_of_ble_eq_true rfl) rfl ?_
  unfold A_gains
  by_cases hin : (0 ≤ n ∧ n ≤ vs.length) ∧ (0 ≤ p ∧ p < 4)
  · rw [if_pos hin]
    refine S.iload_n (pc' := 1) dX11_gains_0 rfl rfl rfl ?_
    refine S.if_lt (pc' := 4) (tgt := 22) dX11_gains_1 (by decide) rfl hn (fun h1 => ?_) (fun h1 => ?_)
    · exfalso; omega
    · refine S.iload_n (pc' := 5) dX11_gains_4 rfl rfl rfl ?_
      refine S.aload_n (pc' := 6) dX11_gains_5 rfl rfl rfl ?_
      refine S.getR (pc' := 9) dX11_gains_6 rfl fX11_37 L_0 rf_0_5 ?_
      refine S.getI (pc' := 12) dX11_gains_9 rfl fX11_205 (vs_lay vs27) ?_
      refine S.icmp_gt (pc' := 15) (tgt := 22) dX11_gains_12 (by decide) rfl hn (by unfold fp_rng; omega) (fun h12 => ?_) (fun h12 => ?_)
      · exfalso; omega
      · refine S.iload_n (pc' := 16) dX11_gains_15 rfl rfl rfl ?_
        refine S.callSi (pc' := 19) dX11_gains_16 rfl cX11_181 (bk_X11_isOne) rfl (by decide) rfl (Nat.le_of_ble_eq_true rfl) (fun z16 M16 q16 => ?_)
        obtain ⟨b16, rfl⟩ := q16
        refine S.if_ne (pc' := 22) (tgt := 24) dX11_gains_19 (by decide) rfl (by unfold fp_rng; omega) (fun h19 => ?_) (fun h19 => ?_)
        · refine S.aload_n (pc' := 25) dX11_gains_24 rfl rfl rfl ?_
          refine S.getR (pc' := 28) dX11_gains_25 rfl fX11_51 L_0 rf_0_7 ?_
          refine S.aload_n (pc' := 29) dX11_gains_28 rfl rfl rfl ?_
          refine S.getR (pc' := 32) dX11_gains_29 rfl fX11_23 L_0 rf_0_3 ?_
          refine S.aload_n (pc' := 33) dX11_gains_32 rfl rfl rfl ?_
          refine S.getR (pc' := 36) dX11_gains_33 rfl fX11_37 L_0 rf_0_5 ?_
          refine S.aload_n (pc' := 37) dX11_gains_36 rfl rfl rfl ?_
          refine S.getR (pc' := 40) dX11_gains_37 rfl fX11_30 L_0 rf_0_4 ?_
          refine S.iload_n (pc' := 41) dX11_gains_40 rfl rfl rfl ?_
          refine S.callVr (pc' := 44) dX11_gains_41 rfl cX11_214 (rk_X8_behind (g := g) (pg := pg) (vs := vs) gd18 vs27 pl22) rfl L_34 (by decide) rfl (Nat.le_of_ble_eq_true rfl) (fun z41 M41 q41 => ?_)
          obtain ⟨rfl, c1, f1⟩ := q41
          have d1 := f1.gd pl41 gd18 hd
          refine S.aload_n (pc' := 45) dX11_gains_44 rfl rfl rfl ?_
          refine S.getR (pc' := 48) dX11_gains_45 rfl fX11_23 L_0 rf_0_3 ?_
          refine S.iload_n (pc' := 49) dX11_gains_48 rfl rfl rfl ?_
          refine S.callVe (pc' := 52) dX11_gains_49 rfl cX11_187 (rk_X5_worthTo (g := g) (pg := aRun g pg vs n.toNat) pl41 gd18) rfl (pl_lay pl41) (by decide) rfl (Nat.le_of_ble_eq_true rfl) ?_
          refine S.iret dX11_gains_52 rfl ?_
          exact ⟨rfl, hcs.scr f1, f1.c (by decide)⟩
        · exfalso; omega
  · rw [if_neg hin]
    refine S.iload_n (pc' := 1) dX11_gains_0 rfl rfl rfl ?_
    refine S.if_lt (pc' := 4) (tgt := 22) dX11_gains_1 (by decide) rfl hn (fun h1 => ?_) (fun h1 => ?_)
    · refine S.iconst (pc' := 23) dX11_gains_22 rfl ?_
      refine S.iret dX11_gains_23 rfl ?_
      exact ⟨rfl, hcs, frC.refl _⟩
    · refine S.iload_n (pc' := 5) dX11_gains_4 rfl rfl rfl ?_
      refine S.aload_n (pc' := 6) dX11_gains_5 rfl rfl rfl ?_
      refine S.getR (pc' := 9) dX11_gains_6 rfl fX11_37 L_0 rf_0_5 ?_
      refine S.getI (pc' := 12) dX11_gains_9 rfl fX11_205 (vs_lay vs27) ?_
      refine S.icmp_gt (pc' := 15) (tgt := 22) dX11_gains_12 (by decide) rfl hn (by unfold fp_rng; omega) (fun h12 => ?_) (fun h12 => ?_)
      · refine S.iconst (pc' := 23) dX11_gains_22 rfl ?_
        refine S.iret dX11_gains_23 rfl ?_
        exact ⟨rfl, hcs, frC.refl _⟩
      · refine S.iload_n (pc' := 16) dX11_gains_15 rfl rfl rfl ?_
        refine S.callSi (pc' := 19) dX11_gains_16 rfl cX11_181 (bk_X11_isOne) rfl (by decide) rfl (Nat.le_of_ble_eq_true rfl) (fun z16 M16 q16 => ?_)
        obtain ⟨b16, rfl⟩ := q16
        refine S.if_ne (pc' := 22) (tgt := 24) dX11_gains_19 (by decide) rfl (by unfold fp_rng; omega) (fun h19 => ?_) (fun h19 => ?_)
        · exfalso; omega
        · refine S.iconst (pc' := 23) dX11_gains_22 rfl ?_
          refine S.iret dX11_gains_23 rfl ?_
          exact ⟨rfl, hcs, frC.refl _⟩
theorem mm_gains {n p : Int} (hc : MS M tp fl g pg vs nt im sh tn) (ho : OK g pg vs nt im sh) (hn : fp_rng n) (hp : fp_rng p) : fp_Ok l G 6 kX12_gains [rV G 177, iV n, iV p] M (qI fun z N => z = A_gains g pg vs n p ∧ MS N tp fl g pg vs nt im sh tn ∧ frD M N) := by
  have hcs := hc
  obtain ⟨-, hd, hcl, hv, -⟩ := hc
  have hg := ho.1
  have hP := ho.2.1
  have hvo := ho.2.2.1
  have hv' : mvIs M vs := hv
  have hl1 := hv.1
  have hl := hv.2.1
  have hn' := hn
  unfold fp_rng at hn'
  have hPn := aRun_ok hg hP hvo n.toNat
  refine fp_Ok.of (r := 0) rfl (Nat.le_of_ble_eq_true rfl) rfl ?_
  unfold A_gains
  by_cases hin : (0 ≤ n ∧ n ≤ vs.length) ∧ (0 ≤ p ∧ p < 4)
  · rw [if_pos hin]
    refine S.iload_n (pc' := 1) dX12_gains_0 rfl rfl rfl ?_
    refine S.i2l (pc' := 2) dX12_gains_1 rfl hn ?_
    refine S.lconst (pc' := 3) (w := 0) dX12_gains_2 rfl rfl ?_
    refine S.aload_n (pc' := 4) dX12_gains_3 rfl rfl rfl ?_
    refine S.callVe (pc' := 7) dX12_gains_4 rfl cX12_225 (ok_X12_visits) rfl L_177 (by decide) rfl (Nat.le_of_ble_eq_true rfl) ?_
    refine S.i2l (pc' := 8) dX12_gains_7 rfl (by unfold fp_rng; omega) ?_
    refine S.callSi (pc' := 11) dX12_gains_8 rfl cX12_94 (bk_X12_in) rfl (by decide) rfl (Nat.le_of_ble_eq_true rfl) (fun z8 M8 q8 => ?_)
    obtain ⟨b8, rfl⟩ := q8
    refine S.if_eq (pc' := 14) (tgt := 21) dX12_gains_11 (by decide) rfl (by unfold fp_rng; omega) (fun h11 => ?_) (fun h11 => ?_)
    · exfalso; omega
    · refine S.iload_n (pc' := 15) dX12_gains_14 rfl rfl rfl ?_
      refine S.callSi (pc' := 18) dX12_gains_15 rfl cX12_228 (bk_X12_isOne) rfl (by decide) rfl (Nat.le_of_ble_eq_true rfl) (fun z15 M15 q15 => ?_)
      obtain ⟨b15, rfl⟩ := q15
      refine S.if_ne (pc' := 21) (tgt := 23) dX12_gains_18 (by decide) rfl (by unfold fp_rng; omega) (fun h18 => ?_) (fun h18 => ?_)
      · refine S.aload_n (pc' := 24) dX12_gains_23 rfl rfl rfl ?_
        refine S.iload_n (pc' := 25) dX12_gains_24 rfl rfl rfl ?_
        refine S.callVi (pc' := 28) dX12_gains_25 rfl cX12_268 (rk_X12_runs (g := g) (pg := pg) (vs := vs)) rfl L_177 (by decide) rfl (Nat.le_of_ble_eq_true rfl) (fun z25 M25 q25 => ?_)
        obtain ⟨z1, c1, f1⟩ := q25
        have d1 := f1.md hd
        refine S.pop (pc' := 29) dX12_gains_28 rfl rfl ?_
        refine S.aload_n (pc' := 30) dX12_gains_29 rfl rfl rfl ?_
        refine S.sipush (pc' := 33) dX12_gains_30 rfl (by decide) ?_
        refine S.iload_n (pc' := 34) dX12_gains_33 rfl rfl rfl ?_
        refine S.callVe (pc' := 37) dX12_gains_34 rfl cX12_234 (rk_X12_worthAt (g := g) (pg := aRun g pg vs n.toNat)) rfl L_177 (by decide) rfl (Nat.le_of_ble_eq_true rfl) ?_
        refine S.iret dX12_gains_37 rfl ?_
        exact ⟨rfl, hcs.tri ho f1, f1.d⟩
      · exfalso; omega
  · rw [if_neg hin]
    refine S.iload_n (pc' := 1) dX12_gains_0 rfl rfl rfl ?_
    refine S.i2l (pc' := 2) dX12_gains_1 rfl hn ?_
    refine S.lconst (pc' := 3) (w := 0) dX12_gains_2 rfl rfl ?_
    refine S.aload_n (pc' := 4) dX12_gains_3 rfl rfl rfl ?_
    refine S.callVe (pc' := 7) dX12_gains_4 rfl cX12_225 (ok_X12_visits) rfl L_177 (by decide) rfl (Nat.le_of_ble_eq_true rfl) ?_
    refine S.i2l (pc' := 8) dX12_gains_7 rfl (by unfold fp_rng; omega) ?_
    refine S.callSi (pc' := 11) dX12_gains_8 rfl cX12_94 (bk_X12_in) rfl (by decide) rfl (Nat.le_of_ble_eq_true rfl) (fun z8 M8 q8 => ?_)
    obtain ⟨b8, rfl⟩ := q8
    refine S.if_eq (pc' := 14) (tgt := 21) dX12_gains_11 (by decide) rfl (by unfold fp_rng; omega) (fun h11 => ?_) (fun h11 => ?_)
    · refine S.iconst (pc' := 22) dX12_gains_21 rfl ?_
      refine S.iret dX12_gains_22 rfl ?_
      exact ⟨rfl, hcs, frD.refl _⟩
    · refine S.iload_n (pc' := 15) dX12_gains_14 rfl rfl rfl ?_
      refine S.callSi (pc' := 18) dX12_gains_15 rfl cX12_228 (bk_X12_isOne) rfl (by decide) rfl (Nat.le_of_ble_eq_true rfl) (fun z15 M15 q15 => ?_)
      obtain ⟨b15, rfl⟩ := q15
      refine S.if_ne (pc' := 21) (tgt := 23) dX12_gains_18 (by decide) rfl (by unfold fp_rng; omega) (fun h18 => ?_) (fun h18 => ?_)
      · exfalso; omega
      · refine S.iconst (pc' := 22) dX12_gains_21 rfl ?_
        refine S.iret dX12_gains_22 rfl ?_
        exact ⟨rfl, hcs, frD.refl _⟩
theorem mm_vain (hc : MS M tp fl g pg vs nt im sh tn) (ho : OK g pg vs nt im sh) : fp_Ok l G 6 kX12_vain [rV G 177] M (qI fun z N => z = aVn g pg vs vs.length ∧ MS N tp fl g pg vs nt im sh tn ∧ frD M N) := by
  have hcs := hc
  obtain ⟨-, hd, hcl, hv, -⟩ := hc
  have hg := ho.1
  have hP := ho.2.1
  have hvo := ho.2.2.1
  have hv' : mvIs M vs := hv
  have hl1 := hv.1
  refine fp_Ok.of (r := 0) rfl (Nat.le_of_ble_eq_true rfl) rfl ?_
  refine S.aload_n (pc' := 1) dX12_vain_0 rfl rfl rfl ?_
  refine S.aload_n (pc' := 2) dX12_vain_1 rfl rfl rfl ?_
  refine S.callVe (pc' := 5) dX12_vain_2 rfl cX12_225 (ok_X12_visits) rfl L_177 (by decide) rfl (Nat.le_of_ble_eq_true rfl) ?_
  rw [hl1]
  refine S.callVi (pc' := 8) dX12_vain_5 rfl cX12_268 (rk_X12_runs (g := g) (pg := pg) (vs := vs)) rfl L_177 (by decide) rfl (Nat.le_of_ble_eq_true rfl) (fun z5 M5 q5 => ?_)
  obtain ⟨z1, c1, f1⟩ := q5
  refine S.iret dX12_vain_8 rfl ?_
  exact ⟨by rw [z1, Int.toNat_natCast], hcs.tri ho f1, f1.d⟩
theorem vain_loop (hP : pgOk g pg) (hg : gOk g) (hvo : vsOk g vs) (hv : vsIs M 27 vs) (hd : gdIs M 18 g) (hcs : CS M tp fl g pg vs nt im sh tn) : ∀ (n : Nat) (i : Int) (N : fp_Mem), ((vs.length : Int) - i).toNat < n → 0 ≤ i → i ≤ vs.length → frP M N 41 → clIs N 41 g (aRun g pg vs i.toNat) →
    fp_S l G 4 kX11_vain 25 [some (rV G 0), some (rV G 41), some (iV (aVn g pg vs i.toNat)), some (iV i)] [] N (qI fun z O => z = aVn g pg vs vs.length ∧ CS O tp fl g pg vs nt im sh tn ∧ frC M O) := by
  have hl := hv.2.1
  intro n
  induction n with
  | zero => intro i N h; omega
  | succ n ih =>
    intro i N h i0 i1 hf hc
    have hb := aVn_lt g pg vs i.toNat
    have es := aVn_succ (g := g) (pg := pg) (vs := vs) i0
    have er := aRun_succ (g := g) (pg := pg) (vs := vs) i0
    have hPi := aRun_ok hg hP hvo i.toNat
    have hv' := hf.vs pl41 vs27 hv
    have hd' := hf.gd pl41 gd18 hd
    have hl1 := hv'.1
    have hpw := fp_pow_le (i := i) (n := 12) (by omega)
    refine S.iload_n (pc' := 26) dX11_vain_25 rfl rfl rfl ?_
    refine S.aload_n (pc' := 27) dX11_vain_26 rfl rfl rfl ?_
    refine S.getR (pc' := 30) dX11_vain_27 rfl fX11_37 L_0 rf_0_5 ?_
    refine S.getI (pc' := 33) dX11_vain_30 rfl fX11_205 (vs_lay vs27) ?_
    refine S.icmp_ge (pc' := 36) (tgt := 64) dX11_vain_33 (by decide) rfl (by unfold fp_rng; omega) (by unfold fp_rng; omega) (fun h33 => ?_) (fun h33 => ?_)
    · refine S.iload_n (pc' := 65) dX11_vain_64 rfl rfl rfl ?_
      refine S.iret dX11_vain_65 rfl ?_
      exact ⟨by rw [show i = (vs.length : Int) by omega, Int.toNat_natCast], hcs.scr hf, hf.c (by decide)⟩
    · refine S.aload_n (pc' := 37) dX11_vain_36 rfl rfl rfl ?_
      refine S.getR (pc' := 40) dX11_vain_37 rfl fX11_37 L_0 rf_0_5 ?_
      refine S.aload_n (pc' := 41) dX11_vain_40 rfl rfl rfl ?_
      refine S.getR (pc' := 44) dX11_vain_41 rfl fX11_23 L_0 rf_0_3 ?_
      refine S.aload_n (pc' := 45) dX11_vain_44 rfl rfl rfl ?_
      refine S.iload_n (pc' := 46) dX11_vain_45 rfl rfl rfl ?_
      refine S.callVi (pc' := 49) dX11_vain_46 rfl cX11_206 (rk_X10_happens (g := g) (pg := aRun g pg vs i.toNat) (vs := vs) vs27 gd18 pl41) rfl (vs_lay vs27) (by decide) rfl (Nat.le_of_ble_eq_true rfl) (fun z46 M46 q46 => ?_)
      have h01 := aHapI_01 g (aRun g pg vs i.toNat) vs i
      obtain ⟨rfl, c1, f1⟩ := q46
      rw [← er] at c1
      refine S.if_ne (pc' := 52) (tgt := 58) dX11_vain_49 (by decide) rfl (by unfold fp_rng; omega) (fun h49 => ?_) (fun h49 => ?_)
      · refine S.iinc (pc' := 61) (LL' := [_, _, _, _]) dX11_vain_58 rfl (by decide) rfl rfl rfl ?_
        refine S.goto (pc' := 25) dX11_vain_61 (by decide) ?_
        first | (rw [if_neg h49] at es; rw [← es]; exact ih _ _ (by omega) (by omega) (by omega) (hf.trans f1) c1) | (rw [if_pos h49] at es; rw [← es]; exact ih _ _ (by omega) (by omega) (by omega) (hf.trans f1) c1)
      · refine S.iload_n (pc' := 53) dX11_vain_52 rfl rfl rfl ?_
        refine S.iconst (pc' := 54) dX11_vain_53 rfl ?_
        refine S.iload_n (pc' := 55) dX11_vain_54 rfl rfl rfl ?_
        refine S.ishl (pc' := 56) dX11_vain_55 rfl (fp_shl1 (by omega) (by omega)) ?_
        refine S.ior (pc' := 57) dX11_vain_56 rfl (fp_ior hb.1 (by omega)) ?_
        refine S.istore_n (pc' := 58) (LL' := [_, _, _, _]) dX11_vain_57 rfl (by decide) rfl rfl rfl ?_
        refine S.iinc (pc' := 61) (LL' := [_, _, _, _]) dX11_vain_58 rfl (by decide) rfl rfl rfl ?_
        refine S.goto (pc' := 25) dX11_vain_61 (by decide) ?_
        first | (rw [if_neg h49] at es; rw [← es]; exact ih _ _ (by omega) (by omega) (by omega) (hf.trans f1) c1) | (rw [if_pos h49] at es; rw [← es]; exact ih _ _ (by omega) (by omega) (by omega) (hf.trans f1) c1)
theorem cc_vain (hc : CS M tp fl g pg vs nt im sh tn) (ho : OK g pg vs nt im sh) : fp_Ok l G 4 kX11_vain [rV G 0] M (qI fun z N => z = aVn g pg vs vs.length ∧ CS N tp fl g pg vs nt im sh tn ∧ frC M N) := by
  have hcs := hc
  obtain ⟨-, hd, hcl, hv, -⟩ := hc
  obtain ⟨hg, hP, hvo, -⟩ := ho
  refine fp_Ok.of (r := 3) rfl (Nat.le_of_ble_eq_true rfl) rfl ?_
  refine S.aload_n (pc' := 1) dX11_vain_0 rfl rfl rfl ?_
  refine S.getR (pc' := 4) dX11_vain_1 rfl fX11_51 L_0 rf_0_7 ?_
  refine S.aload_n (pc' := 5) dX11_vain_4 rfl rfl rfl ?_
  refine S.getR (pc' := 8) dX11_vain_5 rfl fX11_23 L_0 rf_0_3 ?_
  refine S.aload_n (pc' := 9) dX11_vain_8 rfl rfl rfl ?_
  refine S.getR (pc' := 12) dX11_vain_9 rfl fX11_37 L_0 rf_0_5 ?_
  refine S.aload_n (pc' := 13) dX11_vain_12 rfl rfl rfl ?_
  refine S.getR (pc' := 16) dX11_vain_13 rfl fX11_30 L_0 rf_0_4 ?_
  refine S.iconst (pc' := 17) dX11_vain_16 rfl ?_
  refine S.callVr (pc' := 20) dX11_vain_17 rfl cX11_214 (rk_X8_behind (g := g) (pg := pg) (vs := vs) gd18 vs27 pl22) rfl L_34 (by decide) rfl (Nat.le_of_ble_eq_true rfl) (fun z17 M17 q17 => ?_)
  obtain ⟨rfl, c1, f1⟩ := q17
  refine S.astore_n (pc' := 21) (LL' := [_, _, _, _]) dX11_vain_20 rfl (by decide) rfl rfl rfl ?_
  refine S.iconst (pc' := 22) dX11_vain_21 rfl ?_
  refine S.istore_n (pc' := 23) (LL' := [_, _, _, _]) dX11_vain_22 rfl (by decide) rfl rfl rfl ?_
  refine S.iconst (pc' := 24) dX11_vain_23 rfl ?_
  refine S.istore_n (pc' := 25) (LL' := [_, _, _, _]) dX11_vain_24 rfl (by decide) rfl rfl rfl ?_
  exact vain_loop hP hg hvo hv hd hcs (vs.length + 1) 0 _ (by omega) (by omega) (by omega) f1 c1
end RUN
end
section
/-! since, extra, aim -/
theorem aGv_in {g : aGd} {pg : aPg} {x : Int} (hP : pgOk g pg) (hg : gOk g) (hx : 0 ≤ x ∧ x < g.2.1) : (pg.2.2 x = [] ∧ aGv g pg x = -4) ∨ (pg.2.2 x ≠ [] ∧ 0 ≤ aGv g pg x ∧ aGv g pg x < g.1) := by
  by_cases q : pg.2.2 x = []
  · left; exact ⟨q, by unfold aGv; rw [if_pos q]⟩
  · right
    have := (hP.2.1 x hx.1 (by have := hg.2.1; omega)).2.2.2 _ (aGv_mem (g := g) q)
    exact ⟨q, this.1, this.2.1⟩
def aEx (g : aGd) (pg : aPg) (vs : List aVt) (p x : Int) : Nat → Int × Int
  | 0 => (-4, -4)
  | n + 1 => if aGv g (aRun g pg vs n) x ≠ -4 ∧ (aEx g pg vs p x n).1 < g.2.2.2.2.1 (aGv g (aRun g pg vs n) x) p then (g.2.2.2.2.1 (aGv g (aRun g pg vs n) x) p, n) else aEx g pg vs p x n
def A_extra (g : aGd) (pg : aPg) (vs : List aVt) (p x w : Int) : Int := if ¬ ((0 ≤ p ∧ p < 4) ∧ (0 ≤ x ∧ x < g.2.1) ∧ (0 ≤ w ∧ w ≤ 1)) then -1 else if w = 0 then (aEx g pg vs p x (vs.length + 1)).1 else (aEx g pg vs p x (vs.length + 1)).2
theorem aEx_succ {g : aGd} {pg : aPg} {vs : List aVt} {p x i : Int} (h : 0 ≤ i) : aEx g pg vs p x (i + 1).toNat = if aGv g (aRun g pg vs i.toNat) x ≠ -4 ∧ (aEx g pg vs p x i.toNat).1 < g.2.2.2.2.1 (aGv g (aRun g pg vs i.toNat) x) p then (g.2.2.2.2.1 (aGv g (aRun g pg vs i.toNat) x) p, i) else aEx g pg vs p x i.toNat := by
  have e1 : (i + 1).toNat = i.toNat + 1 := by omega
  rw [e1]
  show (if _ then (_, ((i.toNat : Nat) : Int)) else _) = _
  rw [Int.toNat_of_nonneg h]
theorem aEx_in {g : aGd} {pg : aPg} {vs : List aVt} {p x : Int} (hg : gOk g) (hP : pgOk g pg) (hvo : vsOk g vs) (hp : 0 ≤ p ∧ p < 4) (hx : 0 ≤ x ∧ x < g.2.1) : ∀ n : Nat, ((aEx g pg vs p x n).1 = -4 ∧ (aEx g pg vs p x n).2 = -4) ∨ (0 ≤ (aEx g pg vs p x n).1 ∧ (aEx g pg vs p x n).1 ≤ 20 ∧ 0 ≤ (aEx g pg vs p x n).2 ∧ (aEx g pg vs p x n).2 < n)
  | 0 => Or.inl ⟨rfl, rfl⟩
  | n + 1 => by
    have ih := aEx_in hg hP hvo hp hx n
    unfold aEx
    split
    · rename_i h
      have hq := aGv_in (aRun_ok hg hP hvo n) hg hx
      have hv := hg.2.2.2.2.1 (aGv g (aRun g pg vs n) x) p (by omega) (by omega) hp.1 hp.2
      right; dsimp only; omega
    · omega
section MOE
variable {l : Launch} {G : fp_WG} {M N : fp_Mem} {tp tp' : List Int} {fl fl' : Int} {g : aGd} {pg : aPg} {vs vs' : List aVt} {nt nt' : List Int} {im : aIm} {sh : aSh} {tn tn' : Int} {k k2 kg kv : Nat}
theorem since_loop {p t : Int} (hp : 0 ≤ p ∧ p < 4) (ht : 0 ≤ t ∧ t < g.1) (hP : pgOk g pg) (hg : gOk g) (hvo : vsOk g vs) (hv : vsIs M 27 vs) (hd : gdIs M 18 g) (hcs : CS M tp fl g pg vs nt im sh tn) : ∀ (n : Nat) (i : Int) (N : fp_Mem), ((vs.length : Int) - i).toNat = n → 0 ≤ i → i ≤ vs.length → frP M N 41 → clIs N 41 g (aRun g pg vs i.toNat) →
    fp_S l G 4 kX11_since 60 [some (rV G 0), some (iV p), some (iV t), some (rV G 41), some (iV i)] [] N (qI fun z O => z = fp_find (fun i => (aRun g pg vs (i + 1).toNat).1 t) p n i ∧ CS O tp fl g pg vs nt im sh tn ∧ frC M O) := by
  have hl := hv.2.1
  have hg1 := hg.1
  intro n
  induction n with
  | zero =>
    intro i N h i0 i1 hf hc
    have hl1 := (hf.vs pl41 vs27 hv).1
    refine S.iload (pc' := 62) dX11_since_60 rfl rfl ?_
    refine S.aload_n (pc' := 63) dX11_since_62 rfl rfl rfl ?_
    refine S.getR (pc' := 66) dX11_since_63 rfl fX11_37 L_0 rf_0_5 ?_
    refine S.getI (pc' := 69) dX11_since_66 rfl fX11_205 (vs_lay vs27) ?_
    refine S.icmp_ge (pc' := 72) (tgt := 106) dX11_since_69 (by decide) rfl (by unfold fp_rng; omega) (by unfold fp_rng; omega) (fun h69 => ?_) (fun h69 => ?_)
    · refine S.bipush (pc' := 108) dX11_since_106 rfl (by decide) ?_
      refine S.iret dX11_since_108 rfl ?_
      exact ⟨rfl, hcs.scr hf, hf.c (by decide)⟩
    · exfalso; omega
  | succ n ih =>
    intro i N h i0 i1 hf hc
    have er := aRun_succ (g := g) (pg := pg) (vs := vs) i0
    have hPi := aRun_ok hg hP hvo i.toNat
    have hP2 := aRun_ok hg hP hvo (i + 1).toNat
    have hv' := hf.vs pl41 vs27 hv
    have hd' := hf.gd pl41 gd18 hd
    have hl1 := hv'.1
    unfold fp_find
    refine S.iload (pc' := 62) dX11_since_60 rfl rfl ?_
    refine S.aload_n (pc' := 63) dX11_since_62 rfl rfl rfl ?_
    refine S.getR (pc' := 66) dX11_since_63 rfl fX11_37 L_0 rf_0_5 ?_
    refine S.getI (pc' := 69) dX11_since_66 rfl fX11_205 (vs_lay vs27) ?_
    refine S.icmp_ge (pc' := 72) (tgt := 106) dX11_since_69 (by decide) rfl (by unfold fp_rng; omega) (by unfold fp_rng; omega) (fun h69 => ?_) (fun h69 => ?_)
    · refine S.bipush (pc' := 108) dX11_since_106 rfl (by decide) ?_
      refine S.iret dX11_since_108 rfl ?_
      exfalso; omega
    · refine S.aload_n (pc' := 73) dX11_since_72 rfl rfl rfl ?_
      refine S.getR (pc' := 76) dX11_since_73 rfl fX11_37 L_0 rf_0_5 ?_
      refine S.aload_n (pc' := 77) dX11_since_76 rfl rfl rfl ?_
      refine S.getR (pc' := 80) dX11_since_77 rfl fX11_23 L_0 rf_0_3 ?_
      refine S.aload_n (pc' := 81) dX11_since_80 rfl rfl rfl ?_
      refine S.iload (pc' := 83) dX11_since_81 rfl rfl ?_
      refine S.callVi (pc' := 86) dX11_since_83 rfl cX11_206 (rk_X10_happens (g := g) (pg := aRun g pg vs i.toNat) (vs := vs) vs27 gd18 pl41) rfl (vs_lay vs27) (by decide) rfl (Nat.le_of_ble_eq_true rfl) (fun z83 M83 q83 => ?_)
      obtain ⟨z1, c1, f1⟩ := q83
      rw [← er] at c1
      have hw := c1.1 t ht.1 ht.2
      have hwo := hP2.1 t ht.1 ht.2
      have hg2 := hg.2.1
      refine S.pop (pc' := 87) dX11_since_86 rfl rfl ?_
      refine S.aload_n (pc' := 88) dX11_since_87 rfl rfl rfl ?_
      refine S.getR (pc' := 91) dX11_since_88 rfl fX11_138 (pl_lay pl41) (pl_r0 pl41) ?_
      refine S.iload_n (pc' := 92) dX11_since_91 rfl rfl rfl ?_
      refine S.iald (pc' := 93) dX11_since_92 rfl (pl_a0 pl41) (by omega) (by omega) ?_
      refine S.iload_n (pc' := 94) dX11_since_93 rfl rfl rfl ?_
      refine S.icmp_ne (pc' := 97) (tgt := 100) dX11_since_94 (by decide) rfl (by unfold fp_rng; omega) (by unfold fp_rng; omega) (fun h94 => ?_) (fun h94 => ?_)
      · refine S.iinc (pc' := 103) (LL' := [_, _, _, _, _]) dX11_since_100 rfl (by decide) rfl rfl rfl ?_
        refine S.goto (pc' := 60) dX11_since_103 (by decide) ?_
        rw [hw] at h94; rw [if_neg h94]
        exact ih _ _ (by omega) (by omega) (by omega) (hf.trans f1) c1
      · refine S.iload (pc' := 99) dX11_since_97 rfl rfl ?_
        refine S.iret dX11_since_99 rfl ?_
        rw [hw] at h94; rw [if_pos h94]
        exact ⟨rfl, hcs.scr (hf.trans f1), (hf.trans f1).c (by decide)⟩
theorem cc_since {p t : Int} (hc : CS M tp fl g pg vs nt im sh tn) (ho : OK g pg vs nt im sh) (hp : fp_rng p) (ht : fp_rng t) : fp_Ok l G 4 kX11_since [rV G 0, iV p, iV t] M (qI fun z N => z = A_since g pg vs p t ∧ CS N tp fl g pg vs nt im sh tn ∧ frC M N) := by
  have hcs := hc
  obtain ⟨-, hd, hcl, hv, -⟩ := hc
  obtain ⟨hg, hP, hvo, -⟩ := ho
  have hg1 := hg.1
  have hg2 := hg.2.1
  refine fp_Ok.of (r := 2) rfl (Nat.le_of_ble_eq_true rfl) rfl ?_
  unfold A_since
  by_cases hin : (0 ≤ p ∧ p < 4) ∧ (0 ≤ t ∧ t < g.1)
  · rw [if_neg (fun q => q hin)]
    have hw := hcl.1 t hin.2.1 hin.2.2
    have hwo := hP.1 t hin.2.1 hin.2.2
    by_cases hpt : pg.1 t = p
    · rw [if_pos hpt]
      refine S.iload_n (pc' := 1) dX11_since_0 rfl rfl rfl ?_
      refine S.callSi (pc' := 4) dX11_since_1 rfl cX11_181 (bk_X11_isOne) rfl (by decide) rfl (Nat.le_of_ble_eq_true rfl) (fun z1 M1 q1 => ?_)
      obtain ⟨b1, rfl⟩ := q1
      refine S.if_eq (pc' := 7) (tgt := 18) dX11_since_4 (by decide) rfl (by unfold fp_rng; omega) (fun h4 => ?_) (fun h4 => ?_)
      · exfalso; omega
      · refine S.aload_n (pc' := 8) dX11_since_7 rfl rfl rfl ?_
        refine S.getR (pc' := 11) dX11_since_8 rfl fX11_23 L_0 rf_0_3 ?_
        refine S.iload_n (pc' := 12) dX11_since_11 rfl rfl rfl ?_
        refine S.callVi (pc' := 15) dX11_since_12 rfl cX11_126 (bk_X1_hasThing gd18) rfl (gd_lay gd18) (by decide) rfl (Nat.le_of_ble_eq_true rfl) (fun z12 M12 q12 => ?_)
        obtain ⟨b12, rfl⟩ := q12
        refine S.if_ne (pc' := 18) (tgt := 20) dX11_since_15 (by decide) rfl (by unfold fp_rng; omega) (fun h15 => ?_) (fun h15 => ?_)
        · refine S.aload_n (pc' := 21) dX11_since_20 rfl rfl rfl ?_
          refine S.getR (pc' := 24) dX11_since_21 rfl fX11_30 L_0 rf_0_4 ?_
          refine S.getR (pc' := 27) dX11_since_24 rfl fX11_138 (pl_lay pl22) (pl_r0 pl22) ?_
          refine S.iload_n (pc' := 28) dX11_since_27 rfl rfl rfl ?_
          refine S.iald (pc' := 29) dX11_since_28 rfl (pl_a0 pl22) (by omega) (by omega) ?_
          refine S.iload_n (pc' := 30) dX11_since_29 rfl rfl rfl ?_
          refine S.icmp_ne (pc' := 33) (tgt := 36) dX11_since_30 (by decide) rfl (by unfold fp_rng; omega) (by unfold fp_rng; omega) (fun h30 => ?_) (fun h30 => ?_)
          · exfalso; omega
          · refine S.bipush (pc' := 35) dX11_since_33 rfl (by decide) ?_
            refine S.iret dX11_since_35 rfl ?_
            exact ⟨rfl, hcs, frC.refl _⟩
        · exfalso; omega
    · rw [if_neg hpt]
      refine S.iload_n (pc' := 1) dX11_since_0 rfl rfl rfl ?_
      refine S.callSi (pc' := 4) dX11_since_1 rfl cX11_181 (bk_X11_isOne) rfl (by decide) rfl (Nat.le_of_ble_eq_true rfl) (fun z1 M1 q1 => ?_)
      obtain ⟨b1, rfl⟩ := q1
      refine S.if_eq (pc' := 7) (tgt := 18) dX11_since_4 (by decide) rfl (by unfold fp_rng; omega) (fun h4 => ?_) (fun h4 => ?_)
      · exfalso; omega
      · refine S.aload_n (pc' := 8) dX11_since_7 rfl rfl rfl ?_
        refine S.getR (pc' := 11) dX11_since_8 rfl fX11_23 L_0 rf_0_3 ?_
        refine S.iload_n (pc' := 12) dX11_since_11 rfl rfl rfl ?_
        refine S.callVi (pc' := 15) dX11_since_12 rfl cX11_126 (bk_X1_hasThing gd18) rfl (gd_lay gd18) (by decide) rfl (Nat.le_of_ble_eq_true rfl) (fun z12 M12 q12 => ?_)
        obtain ⟨b12, rfl⟩ := q12
        refine S.if_ne (pc' := 18) (tgt := 20) dX11_since_15 (by decide) rfl (by unfold fp_rng; omega) (fun h15 => ?_) (fun h15 => ?_)
        · refine S.aload_n (pc' := 21) dX11_since_20 rfl rfl rfl ?_
          refine S.getR (pc' := 24) dX11_since_21 rfl fX11_30 L_0 rf_0_4 ?_
          refine S.getR (pc' := 27) dX11_since_24 rfl fX11_138 (pl_lay pl22) (pl_r0 pl22) ?_
          refine S.iload_n (pc' := 28) dX11_since_27 rfl rfl rfl ?_
          refine S.iald (pc' := 29) dX11_since_28 rfl (pl_a0 pl22) (by omega) (by omega) ?_
          refine S.iload_n (pc' := 30) dX11_since_29 rfl rfl rfl ?_
          refine S.icmp_ne (pc' := 33) (tgt := 36) dX11_since_30 (by decide) rfl (by unfold fp_rng; omega) (by unfold fp_rng; omega) (fun h30 => ?_) (fun h30 => ?_)
          · refine S.aload_n (pc' := 37) dX11_since_36 rfl rfl rfl ?_
            refine S.getR (pc' := 40) dX11_since_37 rfl fX11_51 L_0 rf_0_7 ?_
            refine S.aload_n (pc' := 41) dX11_since_40 rfl rfl rfl ?_
            refine S.getR (pc' := 44) dX11_since_41 rfl fX11_23 L_0 rf_0_3 ?_
            refine S.aload_n (pc' := 45) dX11_since_44 rfl rfl rfl ?_
            refine S.getR (pc' := 48) dX11_since_45 rfl fX11_37 L_0 rf_0_5 ?_
            refine S.aload_n (pc' := 49) dX11_since_48 rfl rfl rfl ?_
            refine S.getR (pc' := 52) dX11_since_49 rfl fX11_30 L_0 rf_0_4 ?_
            refine S.iconst (pc' := 53) dX11_since_52 rfl ?_
            refine S.callVr (pc' := 56) dX11_since_53 rfl cX11_214 (rk_X8_behind (g := g) (pg := pg) (vs := vs) gd18 vs27 pl22) rfl L_34 (by decide) rfl (Nat.le_of_ble_eq_true rfl) (fun z53 M53 q53 => ?_)
            obtain ⟨rfl, c1, f1⟩ := q53
            refine S.astore_n (pc' := 57) (LL' := [_, _, _, _, _]) dX11_since_56 rfl (by decide) rfl rfl rfl ?_
            refine S.iconst (pc' := 58) dX11_since_57 rfl ?_
            refine S.istore (pc' := 60) (LL' := [_, _, _, _, _]) dX11_since_58 rfl (by decide) rfl rfl ?_
            exact since_loop hin.1 hin.2 hP hg hvo hv hd hcs vs.length 0 _ (by omega) (by omega) (by omega) f1 c1
          · exfalso; omega
        · exfalso; omega
  · rw [if_pos hin]
    refine S.iload_n (pc' := 1) dX11_since_0 rfl rfl rfl ?_
    refine S.callSi (pc' := 4) dX11_since_1 rfl cX11_181 (bk_X11_isOne) rfl (by decide) rfl (Nat.le_of_ble_eq_true rfl) (fun z1 M1 q1 => ?_)
    obtain ⟨b1, rfl⟩ := q1
    refine S.if_eq (pc' := 7) (tgt := 18) dX11_since_4 (by decide) rfl (by unfold fp_rng; omega) (fun h4 => ?_) (fun h4 => ?_)
    · refine S.iconst (pc' := 19) dX11_since_18 rfl ?_
      refine S.iret dX11_since_19 rfl ?_
      exact ⟨rfl, hcs, frC.refl _⟩
    · refine S.aload_n (pc' := 8) dX11_since_7 rfl rfl rfl ?_
      refine S.getR (pc' := 11) dX11_since_8 rfl fX11_23 L_0 rf_0_3 ?_
      refine S.iload_n (pc' := 12) dX11_since_11 rfl rfl rfl ?_
      refine S.callVi (pc' := 15) dX11_since_12 rfl cX11_126 (bk_X1_hasThing gd18) rfl (gd_lay gd18) (by decide) rfl (Nat.le_of_ble_eq_true rfl) (fun z12 M12 q12 => ?_)
      obtain ⟨b12, rfl⟩ := q12
      refine S.if_ne (pc' := 18) (tgt := 20) dX11_since_15 (by decide) rfl (by unfold fp_rng; omega) (fun h15 => ?_) (fun h15 => ?_)
      · exfalso; omega
      · refine S.iconst (pc' := 19) dX11_since_18 rfl ?_
        refine S.iret dX11_since_19 rfl ?_
        exact ⟨rfl, hcs, frC.refl _⟩
theorem msince_loop {p t : Int} (hp : 0 ≤ p ∧ p < 4) (ht : 0 ≤ t ∧ t < g.1) (ho : OK g pg vs nt im sh) (hcs : MS M tp fl g pg vs nt im sh tn) : ∀ (n : Nat) (i : Int) (N : fp_Mem), ((vs.length : Int) - i).toNat = n → 0 ≤ i → i ≤ vs.length → frT M N → mpIs N 360 g (aRun g pg vs i.toNat) →
    fp_S l G 5 kX12_since 40 [some (rV G 177), some (iV p), some (iV t), some (iV i)] [] N (qI fun z O => z = fp_find (fun i => (aRun g pg vs (i + 1).toNat).1 t) p n i ∧ MS O tp fl g pg vs nt im sh tn ∧ frD M O) := by
  have hcs' := hcs
  obtain ⟨-, hd, hcl, hv, -⟩ := hcs
  have hg := ho.1
  have hP := ho.2.1
  have hvo := ho.2.2.1
  have hv0 : mvIs M vs := hv
  have hl := hv.2.1
  have hg1 := hg.1
  intro n
  induction n with
  | zero =>
    intro i N h i0 i1 hf hc
    have hl1 := (hf.mv hv0).1
    refine S.iload_n (pc' := 41) dX12_since_40 rfl rfl rfl ?_
    refine S.aload_n (pc' := 42) dX12_since_41 rfl rfl rfl ?_
    refine S.callVe (pc' := 45) dX12_since_42 rfl cX12_225 (ok_X12_visits) rfl L_177 (by decide) rfl (Nat.le_of_ble_eq_true rfl) ?_
    refine S.icmp_ge (pc' := 48) (tgt := 79) dX12_since_45 (by decide) rfl (by unfold fp_rng; omega) (by unfold fp_rng; omega) (fun h45 => ?_) (fun h45 => ?_)
    · refine S.bipush (pc' := 81) dX12_since_79 rfl (by decide) ?_
      refine S.iret dX12_since_81 rfl ?_
      exact ⟨rfl, hcs'.tri ho hf, hf.d⟩
    · exfalso; omega
  | succ n ih =>
    intro i N h i0 i1 hf hc
    have er := aRun_succ (g := g) (pg := pg) (vs := vs) i0
    have hPi := aRun_ok hg hP hvo i.toNat
    have hP2 := aRun_ok hg hP hvo (i + 1).toNat
    have hv' := hf.mv hv0
    have hd' := hf.md hd
    have hl1 := hv'.1
    unfold fp_find
    refine S.iload_n (pc' := 41) dX12_since_40 rfl rfl rfl ?_
    refine S.aload_n (pc' := 42) dX12_since_41 rfl rfl rfl ?_
    refine S.callVe (pc' := 45) dX12_since_42 rfl cX12_225 (ok_X12_visits) rfl L_177 (by decide) rfl (Nat.le_of_ble_eq_true rfl) ?_
    refine S.icmp_ge (pc' := 48) (tgt := 79) dX12_since_45 (by decide) rfl (by unfold fp_rng; omega) (by unfold fp_rng; omega) (fun h45 => ?_) (fun h45 => ?_)
    · refine S.bipush (pc' := 81) dX12_since_79 rfl (by decide) ?_
      refine S.iret dX12_since_81 rfl ?_
      exfalso; omega
    · refine S.aload_n (pc' := 49) dX12_since_48 rfl rfl rfl ?_
      refine S.sipush (pc' := 52) dX12_since_49 rfl (by decide) ?_
      refine S.iload_n (pc' := 53) dX12_since_52 rfl rfl rfl ?_
      refine S.callVi (pc' := 56) dX12_since_53 rfl cX12_261 (rk_X12_happens (g := g) (pg := aRun g pg vs i.toNat) (vs := vs)) rfl L_177 (by decide) rfl (Nat.le_of_ble_eq_true rfl) (fun z53 M53 q53 => ?_)
      obtain ⟨z1, c1, f1⟩ := q53
      rw [← er] at c1
      have hw := c1.1 t ht.1 ht.2
      have hwo := hP2.1 t ht.1 ht.2
      have hg2 := hg.2.1
      refine S.pop (pc' := 57) dX12_since_56 rfl rfl ?_
      refine S.aload_n (pc' := 58) dX12_since_57 rfl rfl rfl ?_
      refine S.getR (pc' := 61) dX12_since_58 rfl fX12_7 L_177 rf_177_0 ?_
      refine S.sipush (pc' := 64) dX12_since_61 rfl (by decide) ?_
      refine S.iload_n (pc' := 65) dX12_since_64 rfl rfl rfl ?_
      refine S.iadd (pc' := 66) dX12_since_65 rfl ?_
      refine S.iald (pc' := 67) dX12_since_66 rfl L_178 (by omega) (by omega) ?_
      refine S.iload_n (pc' := 68) dX12_since_67 rfl rfl rfl ?_
      refine S.icmp_ne (pc' := 71) (tgt := 73) dX12_since_68 (by decide) rfl (by unfold fp_rng; omega) (by unfold fp_rng; omega) (fun h68 => ?_) (fun h68 => ?_)
      · refine S.iinc (pc' := 76) (LL' := [_, _, _, _]) dX12_since_73 rfl (by decide) rfl rfl rfl ?_
        refine S.goto (pc' := 40) dX12_since_76 (by decide) ?_
        rw [hw] at h68; rw [if_neg h68]
        exact ih _ _ (by omega) (by omega) (by omega) (hf.trans f1.toT) c1
      · refine S.iload_n (pc' := 72) dX12_since_71 rfl rfl rfl ?_
        refine S.iret dX12_since_72 rfl ?_
        rw [hw] at h68; rw [if_pos h68]
        exact ⟨rfl, hcs'.tri ho (hf.trans f1.toT), (hf.trans f1.toT).d⟩
theorem mm_since {p t : Int} (hc : MS M tp fl g pg vs nt im sh tn) (ho : OK g pg vs nt im sh) (hp : fp_rng p) (ht : fp_rng t) : fp_Ok l G 5 kX12_since [rV G 177, iV p, iV t] M (qI fun z N => z = A_since g pg vs p t ∧ MS N tp fl g pg vs nt im sh tn ∧ frD M N) := by
  have hcs := hc
  obtain ⟨-, hd, hcl, hv, -⟩ := hc
  have hg := ho.1
  have hP := ho.2.1
  have hg1 := hg.1
  have hg2 := hg.2.1
  refine fp_Ok.of (r := 1) rfl (Nat.le_of_ble_eq_true rfl) rfl ?_
  unfold A_since
  by_cases hin : (0 ≤ p ∧ p < 4) ∧ (0 ≤ t ∧ t < g.1)
  · rw [if_neg (fun q => q hin)]
    have hw := hcl.1 t hin.2.1 hin.2.2
    rw [Int.zero_add] at hw
    have hwo := hP.1 t hin.2.1 hin.2.2
    by_cases hpt : pg.1 t = p
    · rw [if_pos hpt]
      refine S.iload_n (pc' := 1) dX12_since_0 rfl rfl rfl ?_
      refine S.callSi (pc' := 4) dX12_since_1 rfl cX12_228 (bk_X12_isOne) rfl (by decide) rfl (Nat.le_of_ble_eq_true rfl) (fun z1 M1 q1 => ?_)
      obtain ⟨b1, rfl⟩ := q1
      refine S.if_eq (pc' := 7) (tgt := 15) dX12_since_4 (by decide) rfl (by unfold fp_rng; omega) (fun h4 => ?_) (fun h4 => ?_)
      · exfalso; omega
      · refine S.aload_n (pc' := 8) dX12_since_7 rfl rfl rfl ?_
        refine S.iload_n (pc' := 9) dX12_since_8 rfl rfl rfl ?_
        refine S.callVi (pc' := 12) dX12_since_9 rfl cX12_205 (bk_X12_isThing) rfl L_177 (by decide) rfl (Nat.le_of_ble_eq_true rfl) (fun z9 M9 q9 => ?_)
        obtain ⟨b9, rfl⟩ := q9
        refine S.if_ne (pc' := 15) (tgt := 17) dX12_since_12 (by decide) rfl (by unfold fp_rng; omega) (fun h12 => ?_) (fun h12 => ?_)
        · refine S.aload_n (pc' := 18) dX12_since_17 rfl rfl rfl ?_
          refine S.getR (pc' := 21) dX12_since_18 rfl fX12_7 L_177 rf_177_0 ?_
          refine S.iload_n (pc' := 22) dX12_since_21 rfl rfl rfl ?_
          refine S.iald (pc' := 23) dX12_since_22 rfl L_178 (by omega) (by omega) ?_
          refine S.iload_n (pc' := 24) dX12_since_23 rfl rfl rfl ?_
          refine S.icmp_ne (pc' := 27) (tgt := 30) dX12_since_24 (by decide) rfl (by unfold fp_rng; omega) (by unfold fp_rng; omega) (fun h24 => ?_) (fun h24 => ?_)
          · exfalso; omega
          · refine S.bipush (pc' := 29) dX12_since_27 rfl (by decide) ?_
            refine S.iret dX12_since_29 rfl ?_
            exact ⟨rfl, hcs, frD.refl _⟩
        · exfalso; omega
    · rw [if_neg hpt]
      refine S.iload_n (pc' := 1) dX12_since_0 rfl rfl rfl ?_
      refine S.callSi (pc' := 4) dX12_since_1 rfl cX12_228 (bk_X12_isOne) rfl (by decide) rfl (Nat.le_of_ble_eq_true rfl) (fun z1 M1 q1 => ?_)
      obtain ⟨b1, rfl⟩ := q1
      refine S.if_eq (pc' := 7) (tgt := 15) dX12_since_4 (by decide) rfl (by unfold fp_rng; omega) (fun h4 => ?_) (fun h4 => ?_)
      · exfalso; omega
      · refine S.aload_n (pc' := 8) dX12_since_7 rfl rfl rfl ?_
        refine S.iload_n (pc' := 9) dX12_since_8 rfl rfl rfl ?_
        refine S.callVi (pc' := 12) dX12_since_9 rfl cX12_205 (bk_X12_isThing) rfl L_177 (by decide) rfl (Nat.le_of_ble_eq_true rfl) (fun z9 M9 q9 => ?_)
        obtain ⟨b9, rfl⟩ := q9
        refine S.if_ne (pc' := 15) (tgt := 17) dX12_since_12 (by decide) rfl (by unfold fp_rng; omega) (fun h12 => ?_) (fun h12 => ?_)
        · refine S.aload_n (pc' := 18) dX12_since_17 rfl rfl rfl ?_
          refine S.getR (pc' := 21) dX12_since_18 rfl fX12_7 L_177 rf_177_0 ?_
          refine S.iload_n (pc' := 22) dX12_since_21 rfl rfl rfl ?_
          refine S.iald (pc' := 23) dX12_since_22 rfl L_178 (by omega) (by omega) ?_
          refine S.iload_n (pc' := 24) dX12_since_23 rfl rfl rfl ?_
          refine S.icmp_ne (pc' := 27) (tgt := 30) dX12_since_24 (by decide) rfl (by unfold fp_rng; omega) (by unfold fp_rng; omega) (fun h24 => ?_) (fun h24 => ?_)
          · refine S.aload_n (pc' := 31) dX12_since_30 rfl rfl rfl ?_
            refine S.iconst (pc' := 32) dX12_since_31 rfl ?_
            refine S.sipush (pc' := 35) dX12_since_32 rfl (by decide) ?_
            refine S.callVv (pc' := 38) dX12_since_35 rfl cX12_265 (rk_X12_copies (g := g) (pg := pg)) rfl L_177 (by decide) rfl (Nat.le_of_ble_eq_true rfl) (fun M35 q35 => ?_)
            refine S.iconst (pc' := 39) dX12_since_38 rfl ?_
            refine S.istore_n (pc' := 40) (LL' := [_, _, _, _]) dX12_since_39 rfl (by decide) rfl rfl rfl ?_
            exact msince_loop hin.1 hin.2 ho hcs vs.length 0 _ (by omega) (by omega) (by omega) q35.2 q35.1
          · exfalso; omega
        · exfalso; omega
  · rw [if_pos hin]
    refine S.iload_n (pc' := 1) dX12_since_0 rfl rfl rfl ?_
    refine S.callSi (pc' := 4) dX12_since_1 rfl cX12_228 (bk_X12_isOne) rfl (by decide) rfl (Nat.le_of_ble_eq_true rfl) (fun z1 M1 q1 => ?_)
    obtain ⟨b1, rfl⟩ := q1
    refine S.if_eq (pc' := 7) (tgt := 15) dX12_since_4 (by decide) rfl (by unfold fp_rng; omega) (fun h4 => ?_) (fun h4 => ?_)
    · refine S.iconst (pc' := 16) dX12_since_15 rfl ?_
      refine S.iret dX12_since_16 rfl ?_
      exact ⟨rfl, hcs, frD.refl _⟩
    · refine S.aload_n (pc' := 8) dX12_since_7 rfl rfl rfl ?_
      refine S.iload_n (pc' := 9) dX12_since_8 rfl rfl rfl ?_
      refine S.callVi (pc' := 12) dX12_since_9 rfl cX12_205 (bk_X12_isThing) rfl L_177 (by decide) rfl (Nat.le_of_ble_eq_true rfl) (fun z9 M9 q9 => ?_)
      obtain ⟨b9, rfl⟩ := q9
      refine S.if_ne (pc' := 15) (tgt := 17) dX12_since_12 (by decide) rfl (by unfold fp_rng; omega) (fun h12 => ?_) (fun h12 => ?_)
      · exfalso; omega
      · refine S.iconst (pc' := 16) dX12_since_15 rfl ?_
        refine S.iret dX12_since_16 rfl ?_
        exact ⟨rfl, hcs, frD.refl _⟩
theorem extra_loop {p x w : Int} (hp : 0 ≤ p ∧ p < 4) (hx : 0 ≤ x ∧ x < g.2.1) (hw : 0 ≤ w ∧ w ≤ 1) (hP : pgOk g pg) (hg : gOk g) (hvo : vsOk g vs) (hv : vsIs M 27 vs) (hd : gdIs M 18 g) (hcs : CS M tp fl g pg vs nt im sh tn) : ∀ (n : Nat) (i : Int) (N : fp_Mem) (o8 : Option Value), ((vs.length : Int) + 1 - i).toNat < n → 0 ≤ i → i ≤ vs.length + 1 → frP M N 41 → (i ≤ vs.length → clIs N 41 g (aRun g pg vs i.toNat)) →
    fp_S l G 4 kX11_extra 61 [some (rV G 0), some (iV p), some (iV x), some (iV w), some (rV G 41), some (iV (aEx g pg vs p x i.toNat).1), some (iV (aEx g pg vs p x i.toNat).2), some (iV i), o8] [] N (qI fun z O => z = (if w = 0 then (aEx g pg vs p x (vs.length + 1)).1 else (aEx g pg vs p x (vs.length + 1)).2) ∧ CS O tp fl g pg vs nt im sh tn ∧ frC M O) := by
  have hl := hv.2.1
  have hg1 := hg.1
  have hg2 := hg.2.1
  intro n
  induction n with
  | zero => intro i N o8 h; omega
  | succ n ih =>
    intro i N o8 h i0 i1 hf hc
    have er := aRun_succ (g := g) (pg := pg) (vs := vs) i0
    have es := aEx_succ (g := g) (pg := pg) (vs := vs) (p := p) (x := x) i0
    have hb := aEx_in hg hP hvo hp hx i.toNat
    have hPi := aRun_ok hg hP hvo i.toNat
    have hv' := hf.vs pl41 vs27 hv
    have hd' := hf.gd pl41 gd18 hd
    have hl1 := hv'.1
    by_cases hle : i ≤ vs.length
    · have hc := hc hle
      have hq := aGv_in hPi hg hx
      have fin : ∀ (a b : Int) (o8 : Option Value), (a, b) = aEx g pg vs p x (i + 1).toNat → fp_S l G 4 kX11_extra 123 [some (rV G 0), some (iV p), some (iV x), some (iV w), some (rV G 41), some (iV a), some (iV b), some (iV i), o8] [] N (qI fun z O => z = (if w = 0 then (aEx g pg vs p x (vs.length + 1)).1 else (aEx g pg vs p x (vs.length + 1)).2) ∧ CS O tp fl g pg vs nt im sh tn ∧ frC M O) := by
        intro a b o8 hab
        have ha : a = (aEx g pg vs p x (i + 1).toNat).1 := by rw [← hab]
        have hb9 : b = (aEx g pg vs p x (i + 1).toNat).2 := by rw [← hab]
        subst ha
        subst hb9
        refine S.aload_n (pc' := 124) dX11_extra_123 rfl rfl rfl ?_
        refine S.getR (pc' := 127) dX11_extra_124 rfl fX11_37 L_0 rf_0_5 ?_
        refine S.aload_n (pc' := 128) dX11_extra_127 rfl rfl rfl ?_
        refine S.getR (pc' := 131) dX11_extra_128 rfl fX11_23 L_0 rf_0_3 ?_
        refine S.aload (pc' := 133) dX11_extra_131 rfl rfl ?_
        refine S.iload (pc' := 135) dX11_extra_133 rfl rfl ?_
        refine S.callVi (pc' := 138) dX11_extra_135 rfl cX11_206 (rk_X10_happens (g := g) (pg := aRun g pg vs i.toNat) (vs := vs) vs27 gd18 pl41) rfl (vs_lay vs27) (by decide) rfl (Nat.le_of_ble_eq_true rfl) (fun z135 M135 q135 => ?_)
        obtain ⟨z1, c1, f1⟩ := q135
        rw [← er] at c1
        refine S.pop (pc' := 139) dX11_extra_138 rfl rfl ?_
        refine S.iinc (pc' := 142) (LL' := [_, _, _, _, _, _, _, _, _]) dX11_extra_139 rfl (by decide) rfl rfl rfl ?_
        refine S.goto (pc' := 61) dX11_extra_142 (by decide) ?_
        exact ih _ _ _ (by omega) (by omega) (by omega) (hf.trans f1) (fun _ => c1)
      rcases hq with hq | hq
      · refine S.iload (pc' := 63) dX11_extra_61 rfl rfl ?_
        refine S.aload_n (pc' := 64) dX11_extra_63 rfl rfl rfl ?_
        refine S.getR (pc' := 67) dX11_extra_64 rfl fX11_37 L_0 rf_0_5 ?_
        refine S.getI (pc' := 70) dX11_extra_67 rfl fX11_205 (vs_lay vs27) ?_
        refine S.icmp_gt (pc' := 73) (tgt := 145) dX11_extra_70 (by decide) rfl (by unfold fp_rng; omega) (by unfold fp_rng; omega) (fun h70 => ?_) (fun h70 => ?_)
        · exfalso; omega
        · refine S.aload (pc' := 75) dX11_extra_73 rfl rfl ?_
          refine S.aload_n (pc' := 76) dX11_extra_75 rfl rfl rfl ?_
          refine S.getR (pc' := 79) dX11_extra_76 rfl fX11_23 L_0 rf_0_3 ?_
          refine S.iload_n (pc' := 80) dX11_extra_79 rfl rfl rfl ?_
          refine S.callVe (pc' := 83) dX11_extra_80 rfl cX11_159 (rk_X5_gives (g := g) (pg := aRun g pg vs i.toNat) pl41 gd18) rfl (pl_lay pl41) (by decide) rfl (Nat.le_of_ble_eq_true rfl) ?_
          refine S.istore (pc' := 85) (LL' := [_, _, _, _, _, _, _, _, _]) dX11_extra_83 rfl (by decide) rfl rfl ?_
          refine S.iload (pc' := 87) dX11_extra_85 rfl rfl ?_
          refine S.bipush (pc' := 89) dX11_extra_87 rfl (by decide) ?_
          refine S.icmp_eq (pc' := 92) (tgt := 123) dX11_extra_89 (by decide) rfl (by unfold fp_rng; omega) (by unfold fp_rng; omega) (fun h89 => ?_) (fun h89 => ?_)
          · exact fin _ _ _ (by rw [es, if_neg (fun q => q.1 hq.2)])
          · exfalso; omega
      · have hvl := hd'.2.2.2.2.2.1 (aGv g (aRun g pg vs i.toNat) x) p hq.2.1 hq.2.2 hp.1 hp.2
        have hvr := hg.2.2.2.2.1 (aGv g (aRun g pg vs i.toNat) x) p hq.2.1 hq.2.2 hp.1 hp.2
        refine S.iload (pc' := 63) dX11_extra_61 rfl rfl ?_
        refine S.aload_n (pc' := 64) dX11_extra_63 rfl rfl rfl ?_
        refine S.getR (pc' := 67) dX11_extra_64 rfl fX11_37 L_0 rf_0_5 ?_
        refine S.getI (pc' := 70) dX11_extra_67 rfl fX11_205 (vs_lay vs27) ?_
        refine S.icmp_gt (pc' := 73) (tgt := 145) dX11_extra_70 (by decide) rfl (by unfold fp_rng; omega) (by unfold fp_rng; omega) (fun h70 => ?_) (fun h70 => ?_)
        · exfalso; omega
        · refine S.aload (pc' := 75) dX11_extra_73 rfl rfl ?_
          refine S.aload_n (pc' := 76) dX11_extra_75 rfl rfl rfl ?_
          refine S.getR (pc' := 79) dX11_extra_76 rfl fX11_23 L_0 rf_0_3 ?_
          refine S.iload_n (pc' := 80) dX11_extra_79 rfl rfl rfl ?_
          refine S.callVe (pc' := 83) dX11_extra_80 rfl cX11_159 (rk_X5_gives (g := g) (pg := aRun g pg vs i.toNat) pl41 gd18) rfl (pl_lay pl41) (by decide) rfl (Nat.le_of_ble_eq_true rfl) ?_
          refine S.istore (pc' := 85) (LL' := [_, _, _, _, _, _, _, _, _]) dX11_extra_83 rfl (by decide) rfl rfl ?_
          refine S.iload (pc' := 87) dX11_extra_85 rfl rfl ?_
          refine S.bipush (pc' := 89) dX11_extra_87 rfl (by decide) ?_
          refine S.icmp_eq (pc' := 92) (tgt := 123) dX11_extra_89 (by decide) rfl (by unfold fp_rng; omega) (by unfold fp_rng; omega) (fun h89 => ?_) (fun h89 => ?_)
          · first | (exfalso; omega) | exact fin _ _ _ (by rw [es, if_pos ⟨by omega, by omega⟩]) | exact fin _ _ _ (by rw [es, if_neg (fun q => by have := q.2; omega)])
          · refine S.aload_n (pc' := 93) dX11_extra_92 rfl rfl rfl ?_
            refine S.getR (pc' := 96) dX11_extra_93 rfl fX11_23 L_0 rf_0_3 ?_
            refine S.iload_n (pc' := 97) dX11_extra_96 rfl rfl rfl ?_
            refine S.iload (pc' := 99) dX11_extra_97 rfl rfl ?_
            refine S.callVe (pc' := 102) dX11_extra_99 rfl cX11_130 (ok_X1_valueTo gd18) rfl (gd_lay gd18) (by decide) rfl (Nat.le_of_ble_eq_true rfl) ?_
            rw [hvl]
            refine S.iload (pc' := 104) dX11_extra_102 rfl rfl ?_
            refine S.icmp_le (pc' := 107) (tgt := 123) dX11_extra_104 (by decide) rfl (by unfold fp_rng; omega) (by unfold fp_rng; omega) (fun h104 => ?_) (fun h104 => ?_)
            · first | (exfalso; omega) | exact fin _ _ _ (by rw [es, if_pos ⟨by omega, by omega⟩]) | exact fin _ _ _ (by rw [es, if_neg (fun q => by have := q.2; omega)])
            · refine S.aload_n (pc' := 108) dX11_extra_107 rfl rfl rfl ?_
              refine S.getR (pc' := 111) dX11_extra_108 rfl fX11_23 L_0 rf_0_3 ?_
              refine S.iload_n (pc' := 112) dX11_extra_111 rfl rfl rfl ?_
              refine S.iload (pc' := 114) dX11_extra_112 rfl rfl ?_
              refine S.callVe (pc' := 117) dX11_extra_114 rfl cX11_130 (ok_X1_valueTo gd18) rfl (gd_lay gd18) (by decide) rfl (Nat.le_of_ble_eq_true rfl) ?_
              rw [hvl]
              refine S.istore (pc' := 119) (LL' := [_, _, _, _, _, _, _, _, _]) dX11_extra_117 rfl (by decide) rfl rfl ?_
              refine S.iload (pc' := 121) dX11_extra_119 rfl rfl ?_
              refine S.istore (pc' := 123) (LL' := [_, _, _, _, _, _, _, _, _]) dX11_extra_121 rfl (by decide) rfl rfl ?_
              first | (exfalso; omega) | exact fin _ _ _ (by rw [es, if_pos ⟨by omega, by omega⟩]) | exact fin _ _ _ (by rw [es, if_neg (fun q => by have := q.2; omega)])
    · have ei : i = (vs.length : Int) + 1 := by omega
      have en : i.toNat = vs.length + 1 := by omega
      rw [en]
      refine S.iload (pc' := 63) dX11_extra_61 rfl rfl ?_
      refine S.aload_n (pc' := 64) dX11_extra_63 rfl rfl rfl ?_
      refine S.getR (pc' := 67) dX11_extra_64 rfl fX11_37 L_0 rf_0_5 ?_
      refine S.getI (pc' := 70) dX11_extra_67 rfl fX11_205 (vs_lay vs27) ?_
      refine S.icmp_gt (pc' := 73) (tgt := 145) dX11_extra_70 (by decide) rfl (by unfold fp_rng; omega) (by unfold fp_rng; omega) (fun h70 => ?_) (fun h70 => ?_)
      · refine S.iload_n (pc' := 146) dX11_extra_145 rfl rfl rfl ?_
        refine S.if_ne (pc' := 149) (tgt := 154) dX11_extra_146 (by decide) rfl (by unfold fp_rng; omega) (fun h146 => ?_) (fun h146 => ?_)
        · refine S.iload (pc' := 156) dX11_extra_154 rfl rfl ?_
          refine S.iret dX11_extra_156 rfl ?_
          refine ⟨?_, hcs.scr hf, hf.c (by decide)⟩
          (repeat' split) <;> first | rfl | omega
        · refine S.iload (pc' := 151) dX11_extra_149 rfl rfl ?_
          refine S.goto (pc' := 156) dX11_extra_151 (by decide) ?_
          refine S.iret dX11_extra_156 rfl ?_
          refine ⟨?_, hcs.scr hf, hf.c (by decide)⟩
          (repeat' split) <;> first | rfl | omega
      · exfalso; omega
theorem cc_extra {p x w : Int} (hc : CS M tp fl g pg vs nt im sh tn) (ho : OK g pg vs nt im sh) (hp : fp_rng p) (hx : fp_rng x) (hw : fp_rng w) : fp_Ok l G 4 kX11_extra [rV G 0, iV p, iV x, iV w] M (qI fun z N => z = A_extra g pg vs p x w ∧ CS N tp fl g pg vs nt im sh tn ∧ frC M N) := by
  have hcs := hc
  obtain ⟨-, hd, hcl, hv, -⟩ := hc
  obtain ⟨hg, hP, hvo, -⟩ := ho
  refine fp_Ok.of (r := 5) rfl (Nat.le_of_ble_eq_true rfl) rfl ?_
  unfold A_extra
  by_cases hin : (0 ≤ p ∧ p < 4) ∧ (0 ≤ x ∧ x < g.2.1) ∧ (0 ≤ w ∧ w ≤ 1)
  · rw [if_neg (fun q => q hin)]
    refine S.iload_n (pc' := 1) dX11_extra_0 rfl rfl rfl ?_
    refine S.callSi (pc' := 4) dX11_extra_1 rfl cX11_181 (bk_X11_isOne) rfl (by decide) rfl (Nat.le_of_ble_eq_true rfl) (fun z1 M1 q1 => ?_)
    obtain ⟨b1, rfl⟩ := q1
    refine S.if_eq (pc' := 7) (tgt := 26) dX11_extra_4 (by decide) rfl (by unfold fp_rng; omega) (fun h4 => ?_) (fun h4 => ?_)
    · exfalso; omega
    · refine S.aload_n (pc' := 8) dX11_extra_7 rfl rfl rfl ?_
      refine S.getR (pc' := 11) dX11_extra_8 rfl fX11_23 L_0 rf_0_3 ?_
      refine S.iload_n (pc' := 12) dX11_extra_11 rfl rfl rfl ?_
      refine S.callVi (pc' := 15) dX11_extra_12 rfl cX11_148 (bk_X1_hasLine gd18) rfl (gd_lay gd18) (by decide) rfl (Nat.le_of_ble_eq_true rfl) (fun z12 M12 q12 => ?_)
      obtain ⟨b12, rfl⟩ := q12
      refine S.if_eq (pc' := 18) (tgt := 26) dX11_extra_15 (by decide) rfl (by unfold fp_rng; omega) (fun h15 => ?_) (fun h15 => ?_)
      · exfalso; omega
      · refine S.iload_n (pc' := 19) dX11_extra_18 rfl rfl rfl ?_
        refine S.iconst (pc' := 20) dX11_extra_19 rfl ?_
        refine S.callSi (pc' := 23) dX11_extra_20 rfl cX11_221 (bk_X11_isWithin) rfl (by decide) rfl (Nat.le_of_ble_eq_true rfl) (fun z20 M20 q20 => ?_)
        obtain ⟨b20, rfl⟩ := q20
        refine S.if_ne (pc' := 26) (tgt := 28) dX11_extra_23 (by decide) rfl (by unfold fp_rng; omega) (fun h23 => ?_) (fun h23 => ?_)
        · refine S.aload_n (pc' := 29) dX11_extra_28 rfl rfl rfl ?_
          refine S.getR (pc' := 32) dX11_extra_29 rfl fX11_51 L_0 rf_0_7 ?_
          refine S.aload_n (pc' := 33) dX11_extra_32 rfl rfl rfl ?_
          refine S.getR (pc' := 36) dX11_extra_33 rfl fX11_23 L_0 rf_0_3 ?_
          refine S.aload_n (pc' := 37) dX11_extra_36 rfl rfl rfl ?_
          refine S.getR (pc' := 40) dX11_extra_37 rfl fX11_37 L_0 rf_0_5 ?_
          refine S.aload_n (pc' := 41) dX11_extra_40 rfl rfl rfl ?_
          refine S.getR (pc' := 44) dX11_extra_41 rfl fX11_30 L_0 rf_0_4 ?_
          refine S.iconst (pc' := 45) dX11_extra_44 rfl ?_
          refine S.callVr (pc' := 48) dX11_extra_45 rfl cX11_214 (rk_X8_behind (g := g) (pg := pg) (vs := vs) gd18 vs27 pl22) rfl L_34 (by decide) rfl (Nat.le_of_ble_eq_true rfl) (fun z45 M45 q45 => ?_)
          obtain ⟨rfl, c1, f1⟩ := q45
          refine S.astore (pc' := 50) (LL' := [_, _, _, _, _, _, _, _, _]) dX11_extra_48 rfl (by decide) rfl rfl ?_
          refine S.bipush (pc' := 52) dX11_extra_50 rfl (by decide) ?_
          refine S.istore (pc' := 54) (LL' := [_, _, _, _, _, _, _, _, _]) dX11_extra_52 rfl (by decide) rfl rfl ?_
          refine S.bipush (pc' := 56) dX11_extra_54 rfl (by decide) ?_
          refine S.istore (pc' := 58) (LL' := [_, _, _, _, _, _, _, _, _]) dX11_extra_56 rfl (by decide) rfl rfl ?_
          refine S.iconst (pc' := 59) dX11_extra_58 rfl ?_
          refine S.istore (pc' := 61) (LL' := [_, _, _, _, _, _, _, _, _]) dX11_extra_59 rfl (by decide) rfl rfl ?_
          exact extra_loop hin.1 hin.2.1 hin.2.2 hP hg hvo hv hd hcs (vs.length + 2) 0 _ _ (by omega) (by omega) (by omega) f1 (fun _ => c1)
        · exfalso; omega
  · rw [if_pos hin]
    refine S.iload_n (pc' := 1) dX11_extra_0 rfl rfl rfl ?_
    refine S.callSi (pc' := 4) dX11_extra_1 rfl cX11_181 (bk_X11_isOne) rfl (by decide) rfl (Nat.le_of_ble_eq_true rfl) (fun z1 M1 q1 => ?_)
    obtain ⟨b1, rfl⟩ := q1
    refine S.if_eq (pc' := 7) (tgt := 26) dX11_extra_4 (by decide) rfl (by unfold fp_rng; omega) (fun h4 => ?_) (fun h4 => ?_)
    · refine S.iconst (pc' := 27) dX11_extra_26 rfl ?_
      refine S.iret dX11_extra_27 rfl ?_
      exact ⟨rfl, hcs, frC.refl _⟩
    · refine S.aload_n (pc' := 8) dX11_extra_7 rfl rfl rfl ?_
      refine S.getR (pc' := 11) dX11_extra_8 rfl fX11_23 L_0 rf_0_3 ?_
      refine S.iload_n (pc' := 12) dX11_extra_11 rfl rfl rfl ?_
      refine S.callVi (pc' := 15) dX11_extra_12 rfl cX11_148 (bk_X1_hasLine gd18) rfl (gd_lay gd18) (by decide) rfl (Nat.le_of_ble_eq_true rfl) (fun z12 M12 q12 => ?_)
      obtain ⟨b12, rfl⟩ := q12
      refine S.if_eq (pc' := 18) (tgt := 26) dX11_extra_15 (by decide) rfl (by unfold fp_rng; omega) (fun h15 => ?_) (fun h15 => ?_)
      · refine S.iconst (pc' := 27) dX11_extra_26 rfl ?_
        refine S.iret dX11_extra_27 rfl ?_
        exact ⟨rfl, hcs, frC.refl _⟩
      · refine S.iload_n (pc' := 19) dX11_extra_18 rfl rfl rfl ?_
        refine S.iconst (pc' := 20) dX11_extra_19 rfl ?_
        refine S.callSi (pc' := 23) dX11_extra_20 rfl cX11_221 (bk_X11_isWithin) rfl (by decide) rfl (Nat.le_of_ble_eq_true rfl) (fun z20 M20 q20 => ?_)
        obtain ⟨b20, rfl⟩ := q20
        refine S.if_ne (pc' := 26) (tgt := 28) dX11_extra_23 (by decide) rfl (by unfold fp_rng; omega) (fun h23 => ?_) (fun h23 => ?_)
        · exfalso; omega
        · refine S.iconst (pc' := 27) dX11_extra_26 rfl ?_
          refine S.iret dX11_extra_27 rfl ?_
          exact ⟨rfl, hcs, frC.refl _⟩
end MOE
end
section
/-! extra of the reference; aim -/
def aLn (g : aGd) (pg : aPg) (t : Int) : Int := fp_find (fun x => aGv g pg x) t g.2.1.toNat 0
def aAim (g : aGd) (pg : aPg) (vs : List aVt) (t : Int) : Nat → Int → Int × Int
  | 0, _ => (-4, -4)
  | n + 1, i => if aLn g (aRun g pg vs i.toNat) t ≠ -4 then (i, aLn g (aRun g pg vs i.toNat) t) else aAim g pg vs t n (i + 1)
def A_aim (g : aGd) (pg : aPg) (vs : List aVt) (t w : Int) : Int := if ¬ ((0 ≤ t ∧ t < g.1) ∧ (0 ≤ w ∧ w ≤ 1)) then -1 else if w = 0 then (aAim g pg vs t (vs.length + 1) 0).1 else (aAim g pg vs t (vs.length + 1) 0).2
section AIM
variable {l : Launch} {G : fp_WG} {M N : fp_Mem} {tp tp' : List Int} {fl fl' : Int} {g : aGd} {pg : aPg} {vs vs' : List aVt} {nt nt' : List Int} {im : aIm} {sh : aSh} {tn tn' : Int} {k k2 kg kv : Nat}
theorem mextra_loop {p x w : Int} (hp : 0 ≤ p ∧ p < 4) (hx : 0 ≤ x ∧ x < g.2.1) (hw : 0 ≤ w ∧ w ≤ 1) (ho : OK g pg vs nt im sh) (hcs : MS M tp fl g pg vs nt im sh tn) : ∀ (n : Nat) (i : Int) (N : fp_Mem) (o7 o8 : Option Value), ((vs.length : Int) + 1 - i).toNat < n → 0 ≤ i → i ≤ vs.length + 1 → frT M N → fp_ok1 [some (rV G 177), some (iV p), some (iV x), some (iV w), some (iV 0), some (iV 0), some (iV i), o7, o8] 8 = true →
    fp_S l G 6 kX12_extra 38 [some (rV G 177), some (iV p), some (iV x), some (iV w), some (iV (aEx g pg vs p x i.toNat).1), some (iV (aEx g pg vs p x i.toNat).2), some (iV i), o7, o8] [] N (qI fun z O => z = (if w = 0 then (aEx g pg vs p x (vs.length + 1)).1 else (aEx g pg vs p x (vs.length + 1)).2) ∧ MS O tp fl g pg vs nt im sh tn ∧ frD M O) := by
  have hcs' := hcs
  obtain ⟨-, hd, hcl, hv, -⟩ := hcs
  have hg := ho.1
  have hP := ho.2.1
  have hvo := ho.2.2.1
  have hv0 : mvIs M vs := hv
  have hl := hv.2.1
  have hg1 := hg.1
  have hg2 := hg.2.1
  intro n
  induction n with
  | zero => intro i N o7 o8 h; omega
  | succ n ih =>
    intro i N o7 o8 h i0 i1 hf ho8
    have es := aEx_succ (g := g) (pg := pg) (vs := vs) (p := p) (x := x) i0
    have hb := aEx_in hg hP hvo hp hx i.toNat
    have hPi := aRun_ok hg hP hvo i.toNat
    have hv' := hf.mv hv0
    have hd' := hf.md hd
    have hc' := hf.mp0 hg hP hcl
    have hl1 := hv'.1
    by_cases hle : i ≤ vs.length
    · have fin : ∀ (N' : fp_Mem) (a b : Int) (o7 o8 : Option Value), frT M N' → fp_ok1 [some (rV G 177), some (iV p), some (iV x), some (iV w), some (iV 0), some (iV 0), some (iV (i + 1)), o7, o8] 8 = true → (a, b) = aEx g pg vs p x (i + 1).toNat → fp_S l G 6 kX12_extra 38 [some (rV G 177), some (iV p), some (iV x), some (iV w), some (iV a), some (iV b), some (iV (i + 1)), o7, o8] [] N' (qI fun z O => z = (if w = 0 then (aEx g pg vs p x (vs.length + 1)).1 else (aEx g pg vs p x (vs.length + 1)).2) ∧ MS O tp fl g pg vs nt im sh tn ∧ frD M O) := by
        intro N' a b o7 o8 hf' h8 hab
        have ha : a = (aEx g pg vs p x (i + 1).toNat).1 := by rw [← hab]
        have hb9 : b = (aEx g pg vs p x (i + 1).toNat).2 := by rw [← hab]
        subst ha
        subst hb9
        exact ih _ _ _ _ (by omega) (by omega) (by omega) hf' h8
      have hq := aGv_in hPi hg hx
      rcases hq with hq | hq
      · refine S.iload (pc' := 40) dX12_extra_38 rfl rfl ?_
        refine S.aload_n (pc' := 41) dX12_extra_40 rfl rfl rfl ?_
        refine S.callVe (pc' := 44) dX12_extra_41 rfl cX12_225 (ok_X12_visits) rfl L_177 (by decide) rfl (Nat.le_of_ble_eq_true rfl) ?_
        refine S.icmp_gt (pc' := 47) (tgt := 127) dX12_extra_44 (by decide) rfl (by unfold fp_rng; omega) (by unfold fp_rng; omega) (fun h44 => ?_) (fun h44 => ?_)
        · exfalso; omega
        · refine S.aload_n (pc' := 48) dX12_extra_47 rfl rfl rfl ?_
          refine S.iload (pc' := 50) dX12_extra_48 rfl rfl ?_
          refine S.callVi (pc' := 53) dX12_extra_50 rfl cX12_268 (rk_X12_runs (g := g) (pg := pg) (vs := vs)) rfl L_177 (by decide) rfl (Nat.le_of_ble_eq_true rfl) (fun z50 M50 q50 => ?_)
          obtain ⟨z1, c1, f1⟩ := q50
          have hd2 := f1.md hd'
          refine S.pop (pc' := 54) dX12_extra_53 rfl rfl ?_
          refine S.aload_n (pc' := 55) dX12_extra_54 rfl rfl rfl ?_
          refine S.sipush (pc' := 58) dX12_extra_55 rfl (by decide) ?_
          refine S.iload_n (pc' := 59) dX12_extra_58 rfl rfl rfl ?_
          refine S.callVe (pc' := 62) dX12_extra_59 rfl cX12_222 (rk_X12_gives (g := g) (pg := aRun g pg vs i.toNat)) rfl L_177 (by decide) rfl (Nat.le_of_ble_eq_true rfl) ?_
          refine S.istore (pc' := 64) (LL' := [_, _, _, _, _, _, _, _, _]) dX12_extra_62 rfl (by decide) rfl rfl ?_
          refine S.iload (pc' := 66) dX12_extra_64 rfl rfl ?_
          refine S.bipush (pc' := 68) dX12_extra_66 rfl (by decide) ?_
          refine S.icmp_ne (pc' := 71) (tgt := 76) dX12_extra_68 (by decide) rfl (by unfold fp_rng; omega) (by unfold fp_rng; omega) (fun h68 => ?_) (fun h68 => ?_)
          · exfalso; omega
          · refine S.bipush (pc' := 73) dX12_extra_71 rfl (by decide) ?_
            refine S.goto (pc' := 87) dX12_extra_73 (by decide) ?_
            refine S.istore (pc' := 89) (LL' := [_, _, _, _, _, _, _, _, _]) dX12_extra_87 rfl (by decide) rfl rfl ?_
            refine S.iload (pc' := 91) dX12_extra_89 rfl rfl ?_
            refine S.iload (pc' := 93) dX12_extra_91 rfl rfl ?_
            refine S.icmp_le (pc' := 96) (tgt := 101) dX12_extra_93 (by decide) rfl (by unfold fp_rng; omega) (by unfold fp_rng; omega) (fun h93 => ?_) (fun h93 => ?_)
            · refine S.iload (pc' := 103) dX12_extra_101 rfl rfl ?_
              refine S.istore (pc' := 105) (LL' := [_, _, _, _, _, _, _, _, _]) dX12_extra_103 rfl (by decide) rfl rfl ?_
              refine S.iload (pc' := 107) dX12_extra_105 rfl rfl ?_
              refine S.iload (pc' := 109) dX12_extra_107 rfl rfl ?_
              refine S.icmp_le (pc' := 112) (tgt := 117) dX12_extra_109 (by decide) rfl (by unfold fp_rng; omega) (by unfold fp_rng; omega) (fun h109 => ?_) (fun h109 => ?_)
              · refine S.iload (pc' := 119) dX12_extra_117 rfl rfl ?_
                refine S.istore (pc' := 121) (LL' := [_, _, _, _, _, _, _, _, _]) dX12_extra_119 rfl (by decide) rfl rfl ?_
                refine S.iinc (pc' := 124) (LL' := [_, _, _, _, _, _, _, _, _]) dX12_extra_121 rfl (by decide) rfl rfl rfl ?_
                refine S.goto (pc' := 38) dX12_extra_124 (by decide) ?_
                exact fin _ _ _ _ _ (hf.trans f1) rfl (by rw [es, if_neg (fun q => q.1 hq.2)])
              · exfalso; omega
            · exfalso; omega
      · have hvr := hg.2.2.2.2.1 (aGv g (aRun g pg vs i.toNat) x) p hq.2.1 hq.2.2 hp.1 hp.2
        refine S.iload (pc' := 40) dX12_extra_38 rfl rfl ?_
        refine S.aload_n (pc' := 41) dX12_extra_40 rfl rfl rfl ?_
        refine S.callVe (pc' := 44) dX12_extra_41 rfl cX12_225 (ok_X12_visits) rfl L_177 (by decide) rfl (Nat.le_of_ble_eq_true rfl) ?_
        refine S.icmp_gt (pc' := 47) (tgt := 127) dX12_extra_44 (by decide) rfl (by unfold fp_rng; omega) (by unfold fp_rng; omega) (fun h44 => ?_) (fun h44 => ?_)
        · exfalso; omega
        · refine S.aload_n (pc' := 48) dX12_extra_47 rfl rfl rfl ?_
          refine S.iload (pc' := 50) dX12_extra_48 rfl rfl ?_
          refine S.callVi (pc' := 53) dX12_extra_50 rfl cX12_268 (rk_X12_runs (g := g) (pg := pg) (vs := vs)) rfl L_177 (by decide) rfl (Nat.le_of_ble_eq_true rfl) (fun z50 M50 q50 => ?_)
          obtain ⟨z1, c1, f1⟩ := q50
          have hd2 := f1.md hd'
          have hvl := hd2.2.2.2.2.2.1 (aGv g (aRun g pg vs i.toNat) x) p hq.2.1 hq.2.2 hp.1 hp.2
          refine S.pop (pc' := 54) dX12_extra_53 rfl rfl ?_
          refine S.aload_n (pc' := 55) dX12_extra_54 rfl rfl rfl ?_
          refine S.sipush (pc' := 58) dX12_extra_55 rfl (by decide) ?_
          refine S.iload_n (pc' := 59) dX12_extra_58 rfl rfl rfl ?_
          refine S.callVe (pc' := 62) dX12_extra_59 rfl cX12_222 (rk_X12_gives (g := g) (pg := aRun g pg vs i.toNat)) rfl L_177 (by decide) rfl (Nat.le_of_ble_eq_true rfl) ?_
          refine S.istore (pc' := 64) (LL' := [_, _, _, _, _, _, _, _, _]) dX12_extra_62 rfl (by decide) rfl rfl ?_
          refine S.iload (pc' := 66) dX12_extra_64 rfl rfl ?_
          refine S.bipush (pc' := 68) dX12_extra_66 rfl (by decide) ?_
          refine S.icmp_ne (pc' := 71) (tgt := 76) dX12_extra_68 (by decide) rfl (by unfold fp_rng; omega) (by unfold fp_rng; omega) (fun h68 => ?_) (fun h68 => ?_)
          · refine S.aload_n (pc' := 77) dX12_extra_76 rfl rfl rfl ?_
            refine S.getR (pc' := 80) dX12_extra_77 rfl fX12_16 L_177 rf_177_2 ?_
            refine S.iconst (pc' := 81) dX12_extra_80 rfl ?_
            refine S.iload (pc' := 83) dX12_extra_81 rfl rfl ?_
            refine S.imul (pc' := 84) dX12_extra_83 rfl ?_
            refine S.iload_n (pc' := 85) dX12_extra_84 rfl rfl rfl ?_
            refine S.iadd (pc' := 86) dX12_extra_85 rfl ?_
            refine S.iald (pc' := 87) dX12_extra_86 rfl L_180 (by omega) (by omega) ?_
            rw [hvl]
            refine S.istore (pc' := 89) (LL' := [_, _, _, _, _, _, _, _, _]) dX12_extra_87 rfl (by decide) rfl rfl ?_
            refine S.iload (pc' := 91) dX12_extra_89 rfl rfl ?_
            refine S.iload (pc' := 93) dX12_extra_91 rfl rfl ?_
            refine S.icmp_le (pc' := 96) (tgt := 101) dX12_extra_93 (by decide) rfl (by unfold fp_rng; omega) (by unfold fp_rng; omega) (fun h93 => ?_) (fun h93 => ?_)
            · refine S.iload (pc' := 103) dX12_extra_101 rfl rfl ?_
              refine S.istore (pc' := 105) (LL' := [_, _, _, _, _, _, _, _, _]) dX12_extra_103 rfl (by decide) rfl rfl ?_
              refine S.iload (pc' := 107) dX12_extra_105 rfl rfl ?_
              refine S.iload (pc' := 109) dX12_extra_107 rfl rfl ?_
              refine S.icmp_le (pc' := 112) (tgt := 117) dX12_extra_109 (by decide) rfl (by unfold fp_rng; omega) (by unfold fp_rng; omega) (fun h109 => ?_) (fun h109 => ?_)
              · refine S.iload (pc' := 119) dX12_extra_117 rfl rfl ?_
                refine S.istore (pc' := 121) (LL' := [_, _, _, _, _, _, _, _, _]) dX12_extra_119 rfl (by decide) rfl rfl ?_
                refine S.iinc (pc' := 124) (LL' := [_, _, _, _, _, _, _, _, _]) dX12_extra_121 rfl (by decide) rfl rfl rfl ?_
                refine S.goto (pc' := 38) dX12_extra_124 (by decide) ?_
                first | (exfalso; omega) | exact fin _ _ _ _ _ (hf.trans f1) rfl (by rw [es, if_pos ⟨by omega, by omega⟩]) | exact fin _ _ _ _ _ (hf.trans f1) rfl (by rw [es, if_neg (fun q => by have := q.2; omega)])
              · refine S.iload (pc' := 114) dX12_extra_112 rfl rfl ?_
                refine S.goto (pc' := 119) dX12_extra_114 (by decide) ?_
                refine S.istore (pc' := 121) (LL' := [_, _, _, _, _, _, _, _, _]) dX12_extra_119 rfl (by decide) rfl rfl ?_
                refine S.iinc (pc' := 124) (LL' := [_, _, _, _, _, _, _, _, _]) dX12_extra_121 rfl (by decide) rfl rfl rfl ?_
                refine S.goto (pc' := 38) dX12_extra_124 (by decide) ?_
                first | (exfalso; omega) | exact fin _ _ _ _ _ (hf.trans f1) rfl (by rw [es, if_pos ⟨by omega, by omega⟩]) | exact fin _ _ _ _ _ (hf.trans f1) rfl (by rw [es, if_neg (fun q => by have := q.2; omega)])
            · refine S.iload (pc' := 98) dX12_extra_96 rfl rfl ?_
              refine S.goto (pc' := 103) dX12_extra_98 (by decide) ?_
              refine S.istore (pc' := 105) (LL' := [_, _, _, _, _, _, _, _, _]) dX12_extra_103 rfl (by decide) rfl rfl ?_
              refine S.iload (pc' := 107) dX12_extra_105 rfl rfl ?_
              refine S.iload (pc' := 109) dX12_extra_107 rfl rfl ?_
              refine S.icmp_le (pc' := 112) (tgt := 117) dX12_extra_109 (by decide) rfl (by unfold fp_rng; omega) (by unfold fp_rng; omega) (fun h109 => ?_) (fun h109 => ?_)
              · refine S.iload (pc' := 119) dX12_extra_117 rfl rfl ?_
                refine S.istore (pc' := 121) (LL' := [_, _, _, _, _, _, _, _, _]) dX12_extra_119 rfl (by decide) rfl rfl ?_
                refine S.iinc (pc' := 124) (LL' := [_, _, _, _, _, _, _, _, _]) dX12_extra_121 rfl (by decide) rfl rfl rfl ?_
                refine S.goto (pc' := 38) dX12_extra_124 (by decide) ?_
                first | (exfalso; omega) | exact fin _ _ _ _ _ (hf.trans f1) rfl (by rw [es, if_pos ⟨by omega, by omega⟩]) | exact fin _ _ _ _ _ (hf.trans f1) rfl (by rw [es, if_neg (fun q => by have := q.2; omega)])
              · refine S.iload (pc' := 114) dX12_extra_112 rfl rfl ?_
                refine S.goto (pc' := 119) dX12_extra_114 (by decide) ?_
                refine S.istore (pc' := 121) (LL' := [_, _, _, _, _, _, _, _, _]) dX12_extra_119 rfl (by decide) rfl rfl ?_
                refine S.iinc (pc' := 124) (LL' := [_, _, _, _, _, _, _, _, _]) dX12_extra_121 rfl (by decide) rfl rfl rfl ?_
                refine S.goto (pc' := 38) dX12_extra_124 (by decide) ?_
                first | (exfalso; omega) | exact fin _ _ _ _ _ (hf.trans f1) rfl (by rw [es, if_pos ⟨by omega, by omega⟩]) | exact fin _ _ _ _ _ (hf.trans f1) rfl (by rw [es, if_neg (fun q => by have := q.2; omega)])
          · exfalso; omega
    · have ei : i = (vs.length : Int) + 1 := by omega
      have en : i.toNat = vs.length + 1 := by omega
      rw [en] at hb ⊢
      refine S.iload (pc' := 40) dX12_extra_38 rfl rfl ?_
      refine S.aload_n (pc' := 41) dX12_extra_40 rfl rfl rfl ?_
      refine S.callVe (pc' := 44) dX12_extra_41 rfl cX12_225 (ok_X12_visits) rfl L_177 (by decide) rfl (Nat.le_of_ble_eq_true rfl) ?_
      refine S.icmp_gt (pc' := 47) (tgt := 127) dX12_extra_44 (by decide) rfl (by unfold fp_rng; omega) (by unfold fp_rng; omega) (fun h44 => ?_) (fun h44 => ?_)
      · refine S.iload (pc' := 129) dX12_extra_127 rfl rfl ?_
        refine S.bipush (pc' := 131) dX12_extra_129 rfl (by decide) ?_
        refine S.icmp_eq (pc' := 134) (tgt := 139) dX12_extra_131 (by decide) rfl (by unfold fp_rng; omega) (by unfold fp_rng; omega) (fun h131 => ?_) (fun h131 => ?_)
        · refine S.iload (pc' := 141) dX12_extra_139 rfl rfl ?_
          refine S.goto (pc' := 146) dX12_extra_141 (by decide) ?_
          refine S.iret dX12_extra_146 rfl ?_
          refine ⟨?_, hcs'.tri ho hf, hf.d⟩
          (repeat' split) <;> first | rfl | omega
        · refine S.iload_n (pc' := 135) dX12_extra_134 rfl rfl rfl ?_
          refine S.iconst (pc' := 136) dX12_extra_135 rfl ?_
          refine S.icmp_ne (pc' := 139) (tgt := 144) dX12_extra_136 (by decide) rfl (by unfold fp_rng; omega) (by unfold fp_rng; omega) (fun h136 => ?_) (fun h136 => ?_)
          · refine S.iload (pc' := 146) dX12_extra_144 rfl rfl ?_
            refine S.iret dX12_extra_146 rfl ?_
            refine ⟨?_, hcs'.tri ho hf, hf.d⟩
            (repeat' split) <;> first | rfl | omega
          · refine S.iload (pc' := 141) dX12_extra_139 rfl rfl ?_
            refine S.goto (pc' := 146) dX12_extra_141 (by decide) ?_
            refine S.iret dX12_extra_146 rfl ?_
            refine ⟨?_, hcs'.tri ho hf, hf.d⟩
            (repeat' split) <;> first | rfl | omega
      · exfalso; omega
theorem mm_extra {p x w : Int} (hc : MS M tp fl g pg vs nt im sh tn) (ho : OK g pg vs nt im sh) (hp : fp_rng p) (hx : fp_rng x) (hw : fp_rng w) : fp_Ok l G 6 kX12_extra [rV G 177, iV p, iV x, iV w] M (qI fun z N => z = A_extra g pg vs p x w ∧ MS N tp fl g pg vs nt im sh tn ∧ frD M N) := by
  have hcs := hc
  obtain ⟨-, hd, hcl, hv, -⟩ := hc
  have hg := ho.1
  have hw' := hw
  unfold fp_rng at hw'
  refine fp_Ok.of (r := 5) rfl (Nat.le_of_ble_eq_true rfl) rfl ?_
  unfold A_extra
  by_cases hin : (0 ≤ p ∧ p < 4) ∧ (0 ≤ x ∧ x < g.2.1) ∧ (0 ≤ w ∧ w ≤ 1)
  · rw [if_neg (fun q => q hin)]
    refine S.iload_n (pc' := 1) dX12_extra_0 rfl rfl rfl ?_
    refine S.callSi (pc' := 4) dX12_extra_1 rfl cX12_228 (bk_X12_isOne) rfl (by decide) rfl (Nat.le_of_ble_eq_true rfl) (fun z1 M1 q1 => ?_)
    obtain ⟨b1, rfl⟩ := q1
    refine S.if_eq (pc' := 7) (tgt := 25) dX12_extra_4 (by decide) rfl (by unfold fp_rng; omega) (fun h4 => ?_) (fun h4 => ?_)
    · exfalso; omega
    · refine S.aload_n (pc' := 8) dX12_extra_7 rfl rfl rfl ?_
      refine S.iload_n (pc' := 9) dX12_extra_8 rfl rfl rfl ?_
      refine S.callVi (pc' := 12) dX12_extra_9 rfl cX12_219 (bk_X12_isLine) rfl L_177 (by decide) rfl (Nat.le_of_ble_eq_true rfl) (fun z9 M9 q9 => ?_)
      obtain ⟨b9, rfl⟩ := q9
      refine S.if_eq (pc' := 15) (tgt := 25) dX12_extra_12 (by decide) rfl (by unfold fp_rng; omega) (fun h12 => ?_) (fun h12 => ?_)
      · exfalso; omega
      · refine S.iload_n (pc' := 16) dX12_extra_15 rfl rfl rfl ?_
        refine S.i2l (pc' := 17) dX12_extra_16 rfl hw ?_
        refine S.lconst (pc' := 18) (w := 0) dX12_extra_17 rfl rfl ?_
        refine S.lconst (pc' := 19) (w := 1) dX12_extra_18 rfl rfl ?_
        refine S.callSi (pc' := 22) dX12_extra_19 rfl cX12_94 (bk_X12_in) rfl (by decide) rfl (Nat.le_of_ble_eq_true rfl) (fun z19 M19 q19 => ?_)
        obtain ⟨b19, rfl⟩ := q19
        refine S.if_ne (pc' := 25) (tgt := 27) dX12_extra_22 (by decide) rfl (by unfold fp_rng; omega) (fun h22 => ?_) (fun h22 => ?_)
        · refine S.bipush (pc' := 29) dX12_extra_27 rfl (by decide) ?_
          refine S.istore (pc' := 31) (LL' := [_, _, _, _, _, _, _, _, _]) dX12_extra_29 rfl (by decide) rfl rfl ?_
          refine S.bipush (pc' := 33) dX12_extra_31 rfl (by decide) ?_
          refine S.istore (pc' := 35) (LL' := [_, _, _, _, _, _, _, _, _]) dX12_extra_33 rfl (by decide) rfl rfl ?_
          refine S.iconst (pc' := 36) dX12_extra_35 rfl ?_
          refine S.istore (pc' := 38) (LL' := [_, _, _, _, _, _, _, _, _]) dX12_extra_36 rfl (by decide) rfl rfl ?_
          exact mextra_loop hin.1 hin.2.1 hin.2.2 ho hcs (vs.length + 2) 0 _ _ _ (by omega) (by omega) (by omega) (frT.refl _) rfl
        · exfalso; omega
  · rw [if_pos hin]
    refine S.iload_n (pc' := 1) dX12_extra_0 rfl rfl rfl ?_
    refine S.callSi (pc' := 4) dX12_extra_1 rfl cX12_228 (bk_X12_isOne) rfl (by decide) rfl (Nat.le_of_ble_eq_true rfl) (fun z1 M1 q1 => ?_)
    obtain ⟨b1, rfl⟩ := q1
    refine S.if_eq (pc' := 7) (tgt := 25) dX12_extra_4 (by decide) rfl (by unfold fp_rng; omega) (fun h4 => ?_) (fun h4 => ?_)
    · refine S.iconst (pc' := 26) dX12_extra_25 rfl ?_
      refine S.iret dX12_extra_26 rfl ?_
      exact ⟨rfl, hcs, frD.refl _⟩
    · refine S.aload_n (pc' := 8) dX12_extra_7 rfl rfl rfl ?_
      refine S.iload_n (pc' := 9) dX12_extra_8 rfl rfl rfl ?_
      refine S.callVi (pc' := 12) dX12_extra_9 rfl cX12_219 (bk_X12_isLine) rfl L_177 (by decide) rfl (Nat.le_of_ble_eq_true rfl) (fun z9 M9 q9 => ?_)
      obtain ⟨b9, rfl⟩ := q9
      refine S.if_eq (pc' := 15) (tgt := 25) dX12_extra_12 (by decide) rfl (by unfold fp_rng; omega) (fun h12 => ?_) (fun h12 => ?_)
      · refine S.iconst (pc' := 26) dX12_extra_25 rfl ?_
        refine S.iret dX12_extra_26 rfl ?_
        exact ⟨rfl, hcs, frD.refl _⟩
      · refine S.iload_n (pc' := 16) dX12_extra_15 rfl rfl rfl ?_
        refine S.i2l (pc' := 17) dX12_extra_16 rfl hw ?_
        refine S.lconst (pc' := 18) (w := 0) dX12_extra_17 rfl rfl ?_
        refine S.lconst (pc' := 19) (w := 1) dX12_extra_18 rfl rfl ?_
        refine S.callSi (pc' := 22) dX12_extra_19 rfl cX12_94 (bk_X12_in) rfl (by decide) rfl (Nat.le_of_ble_eq_true rfl) (fun z19 M19 q19 => ?_)
        obtain ⟨b19, rfl⟩ := q19
        refine S.if_ne (pc' := 25) (tgt := 27) dX12_extra_22 (by decide) rfl (by unfold fp_rng; omega) (fun h22 => ?_) (fun h22 => ?_)
        · exfalso; omega
        · refine S.iconst (pc' := 26) dX12_extra_25 rfl ?_
          refine S.iret dX12_extra_26 rfl ?_
          exact ⟨rfl, hcs, frD.refl _⟩
theorem aim_in {pr : aPg} {t w i : Int} {P : Int → fp_Mem → Prop} (ht : 0 ≤ t ∧ t < g.1) (hw : fp_rng w) (hP : pgOk g pr) (hg : gOk g) (hd : gdIs N 18 g) (hc : clIs N 41 g pr) (hcont : aLn g pr t = -4 → fp_S l G 4 kX11_aim 104 [some (rV G 0), some (iV t), some (iV w), some (rV G 41), some (iV i), some (iV g.2.1)] [] N (qI P)) (hret : aLn g pr t ≠ -4 → P (if w = 0 then i else aLn g pr t) N) : ∀ (n : Nat) (x : Int), (g.2.1 - x).toNat = n → 0 ≤ x → x ≤ g.2.1 → fp_find (fun x => aGv g pr x) t n x = aLn g pr t →
    fp_S l G 4 kX11_aim 60 [some (rV G 0), some (iV t), some (iV w), some (rV G 41), some (iV i), some (iV x)] [] N (qI P) := by
  have hg1 := hg.1
  have hg2 := hg.2.1
  have hl2 := hd.2.1
  intro n
  induction n with
  | zero =>
    intro x h x0 x1 he
    refine S.iload (pc' := 62) dX11_aim_60 rfl rfl ?_
    refine S.aload_n (pc' := 63) dX11_aim_62 rfl rfl rfl ?_
    refine S.getR (pc' := 66) dX11_aim_63 rfl fX11_23 L_0 rf_0_3 ?_
    refine S.getI (pc' := 69) dX11_aim_66 rfl fX11_225 (gd_lay gd18) ?_
    refine S.icmp_ge (pc' := 72) (tgt := 104) dX11_aim_69 (by decide) rfl (by unfold fp_rng; omega) (by unfold fp_rng; omega) (fun h69 => ?_) (fun h69 => ?_)
    · rw [show x = g.2.1 by omega]; exact hcont he.symm
    · exfalso; omega
  | succ n ih =>
    intro x h x0 x1 he
    have hq := aGv_in hP hg (x := x) ⟨x0, by omega⟩
    have es : fp_find (fun x => aGv g pr x) t (n + 1) x = if aGv g pr x = t then x else fp_find (fun x => aGv g pr x) t n (x + 1) := rfl
    refine S.iload (pc' := 62) dX11_aim_60 rfl rfl ?_
    refine S.aload_n (pc' := 63) dX11_aim_62 rfl rfl rfl ?_
    refine S.getR (pc' := 66) dX11_aim_63 rfl fX11_23 L_0 rf_0_3 ?_
    refine S.getI (pc' := 69) dX11_aim_66 rfl fX11_225 (gd_lay gd18) ?_
    refine S.icmp_ge (pc' := 72) (tgt := 104) dX11_aim_69 (by decide) rfl (by unfold fp_rng; omega) (by unfold fp_rng; omega) (fun h69 => ?_) (fun h69 => ?_)
    · exfalso; omega
    · refine S.aload_n (pc' := 73) dX11_aim_72 rfl rfl rfl ?_
      refine S.aload_n (pc' := 74) dX11_aim_73 rfl rfl rfl ?_
      refine S.getR (pc' := 77) dX11_aim_74 rfl fX11_23 L_0 rf_0_3 ?_
      refine S.iload (pc' := 79) dX11_aim_77 rfl rfl ?_
      refine S.callVe (pc' := 82) dX11_aim_79 rfl cX11_159 (rk_X5_gives (g := g) (pg := pr) pl41 gd18) rfl (pl_lay pl41) (by decide) rfl (Nat.le_of_ble_eq_true rfl) ?_
      refine S.iload_n (pc' := 83) dX11_aim_82 rfl rfl rfl ?_
      refine S.icmp_ne (pc' := 86) (tgt := 98) dX11_aim_83 (by decide) rfl (by unfold fp_rng; omega) (by unfold fp_rng; omega) (fun h83 => ?_) (fun h83 => ?_)
      · refine S.iinc (pc' := 101) (LL' := [_, _, _, _, _, _]) dX11_aim_98 rfl (by decide) rfl rfl rfl ?_
        refine S.goto (pc' := 60) dX11_aim_101 (by decide) ?_
        rw [if_neg h83] at es; exact ih _ (by omega) (by omega) (by omega) (by rw [← es]; exact he)
      · refine S.iload_n (pc' := 87) dX11_aim_86 rfl rfl rfl ?_
        refine S.if_ne (pc' := 90) (tgt := 95) dX11_aim_87 (by decide) rfl hw (fun h87 => ?_) (fun h87 => ?_)
        · refine S.iload (pc' := 97) dX11_aim_95 rfl rfl ?_
          refine S.iret dX11_aim_97 rfl ?_
          rw [if_pos h83] at es; have e9 : aLn g pr t = x := by rw [← he, es]
          have hr := hret (by omega)
          rw [e9] at hr
          first | (rw [if_pos h87] at hr; exact hr) | (rw [if_neg h87] at hr; exact hr)
        · refine S.iload (pc' := 92) dX11_aim_90 rfl rfl ?_
          refine S.goto (pc' := 97) dX11_aim_92 (by decide) ?_
          refine S.iret dX11_aim_97 rfl ?_
          rw [if_pos h83] at es; have e9 : aLn g pr t = x := by rw [← he, es]
          have hr := hret (by omega)
          rw [e9] at hr
          first | (rw [if_pos h87] at hr; exact hr) | (rw [if_neg h87] at hr; exact hr)
theorem aim_loop {t w : Int} (ht : 0 ≤ t ∧ t < g.1) (hw : 0 ≤ w ∧ w ≤ 1) (hP : pgOk g pg) (hg : gOk g) (hvo : vsOk g vs) (hv : vsIs M 27 vs) (hd : gdIs M 18 g) (hcs : CS M tp fl g pg vs nt im sh tn) : ∀ (n : Nat) (i : Int) (N : fp_Mem) (o5 : Option Value), ((vs.length : Int) + 1 - i).toNat = n → 0 ≤ i → i ≤ vs.length + 1 → frP M N 41 → (i ≤ vs.length → clIs N 41 g (aRun g pg vs i.toNat)) →
    fp_S l G 4 kX11_aim 45 [some (rV G 0), some (iV t), some (iV w), some (rV G 41), some (iV i), o5] [] N (qI fun z O => z = (if w = 0 then (aAim g pg vs t n i).1 else (aAim g pg vs t n i).2) ∧ CS O tp fl g pg vs nt im sh tn ∧ frC M O) := by
  have hl := hv.2.1
  have hg1 := hg.1
  have hg2 := hg.2.1
  intro n
  induction n with
  | zero =>
    intro i N o5 h i0 i1 hf hc
    have hl1 := (hf.vs pl41 vs27 hv).1
    refine S.iload (pc' := 47) dX11_aim_45 rfl rfl ?_
    refine S.aload_n (pc' := 48) dX11_aim_47 rfl rfl rfl ?_
    refine S.getR (pc' := 51) dX11_aim_48 rfl fX11_37 L_0 rf_0_5 ?_
    refine S.getI (pc' := 54) dX11_aim_51 rfl fX11_205 (vs_lay vs27) ?_
    refine S.icmp_gt (pc' := 57) (tgt := 125) dX11_aim_54 (by decide) rfl (by unfold fp_rng; omega) (by unfold fp_rng; omega) (fun h54 => ?_) (fun h54 => ?_)
    · refine S.bipush (pc' := 127) dX11_aim_125 rfl (by decide) ?_
      refine S.iret dX11_aim_127 rfl ?_
      refine ⟨?_, hcs.scr hf, hf.c (by decide)⟩
      unfold aAim
      split <;> rfl
    · exfalso; omega
  | succ n ih =>
    intro i N o5 h i0 i1 hf hc
    have er := aRun_succ (g := g) (pg := pg) (vs := vs) i0
    have hPi := aRun_ok hg hP hvo i.toNat
    have hv' := hf.vs pl41 vs27 hv
    have hd' := hf.gd pl41 gd18 hd
    have hl1 := hv'.1
    have hc := hc (by omega)
    have es : aAim g pg vs t (n + 1) i = if aLn g (aRun g pg vs i.toNat) t ≠ -4 then (i, aLn g (aRun g pg vs i.toNat) t) else aAim g pg vs t n (i + 1) := rfl
    have hcont : aLn g (aRun g pg vs i.toNat) t = -4 → fp_S l G 4 kX11_aim 104 [some (rV G 0), some (iV t), some (iV w), some (rV G 41), some (iV i), some (iV g.2.1)] [] N (qI fun z O => z = (if w = 0 then (aAim g pg vs t (n + 1) i).1 else (aAim g pg vs t (n + 1) i).2) ∧ CS O tp fl g pg vs nt im sh tn ∧ frC M O) := by
      intro hno
      have es' : aAim g pg vs t (n + 1) i = aAim g pg vs t n (i + 1) := by rw [es, if_neg (fun q => q hno)]
      rw [es']
      refine S.aload_n (pc' := 105) dX11_aim_104 rfl rfl rfl ?_
      refine S.getR (pc' := 108) dX11_aim_105 rfl fX11_37 L_0 rf_0_5 ?_
      refine S.aload_n (pc' := 109) dX11_aim_108 rfl rfl rfl ?_
      refine S.getR (pc' := 112) dX11_aim_109 rfl fX11_23 L_0 rf_0_3 ?_
      refine S.aload_n (pc' := 113) dX11_aim_112 rfl rfl rfl ?_
      refine S.iload (pc' := 115) dX11_aim_113 rfl rfl ?_
      refine S.callVi (pc' := 118) dX11_aim_115 rfl cX11_206 (rk_X10_happens (g := g) (pg := aRun g pg vs i.toNat) (vs := vs) vs27 gd18 pl41) rfl (vs_lay vs27) (by decide) rfl (Nat.le_of_ble_eq_true rfl) (fun z115 M115 q115 => ?_)
      obtain ⟨z1, c1, f1⟩ := q115
      rw [← er] at c1
      refine S.pop (pc' := 119) dX11_aim_118 rfl rfl ?_
      refine S.iinc (pc' := 122) (LL' := [_, _, _, _, _, _]) dX11_aim_119 rfl (by decide) rfl rfl rfl ?_
      refine S.goto (pc' := 45) dX11_aim_122 (by decide) ?_
      exact ih _ _ _ (by omega) (by omega) (by omega) (hf.trans f1) (fun _ => c1)
    have hret : aLn g (aRun g pg vs i.toNat) t ≠ -4 → (if w = 0 then i else aLn g (aRun g pg vs i.toNat) t) = (if w = 0 then (aAim g pg vs t (n + 1) i).1 else (aAim g pg vs t (n + 1) i).2) ∧ CS N tp fl g pg vs nt im sh tn ∧ frC M N := by
      intro hyes
      have es' : aAim g pg vs t (n + 1) i = (i, aLn g (aRun g pg vs i.toNat) t) := by rw [es, if_pos hyes]
      rw [es']
      exact ⟨rfl, hcs.scr hf, hf.c (by decide)⟩
    refine S.iload (pc' := 47) dX11_aim_45 rfl rfl ?_
    refine S.aload_n (pc' := 48) dX11_aim_47 rfl rfl rfl ?_
    refine S.getR (pc' := 51) dX11_aim_48 rfl fX11_37 L_0 rf_0_5 ?_
    refine S.getI (pc' := 54) dX11_aim_51 rfl fX11_205 (vs_lay vs27) ?_
    refine S.icmp_gt (pc' := 57) (tgt := 125) dX11_aim_54 (by decide) rfl (by unfold fp_rng; omega) (by unfold fp_rng; omega) (fun h54 => ?_) (fun h54 => ?_)
    · exfalso; omega
    · refine S.iconst (pc' := 58) dX11_aim_57 rfl ?_
      refine S.istore (pc' := 60) (LL' := [_, _, _, _, _, _]) dX11_aim_58 rfl (by decide) rfl rfl ?_
      exact aim_in ht (by unfold fp_rng; omega) hPi hg hd' hc hcont hret g.2.1.toNat 0 (by omega) (by omega) (by omega) rfl
theorem cc_aim {t w : Int} (hc : CS M tp fl g pg vs nt im sh tn) (ho : OK g pg vs nt im sh) (ht : fp_rng t) (hw : fp_rng w) : fp_Ok l G 4 kX11_aim [rV G 0, iV t, iV w] M (qI fun z N => z = A_aim g pg vs t w ∧ CS N tp fl g pg vs nt im sh tn ∧ frC M N) := by
  have hcs := hc
  obtain ⟨-, hd, hcl, hv, -⟩ := hc
  obtain ⟨hg, hP, hvo, -⟩ := ho
  refine fp_Ok.of (r := 3) rfl (Nat.le_of_ble_eq_true rfl) rfl ?_
  unfold A_aim
  by_cases hin : (0 ≤ t ∧ t < g.1) ∧ (0 ≤ w ∧ w ≤ 1)
  · rw [if_neg (fun q => q hin)]
    refine S.aload_n (pc' := 1) dX11_aim_0 rfl rfl rfl ?_
    refine S.getR (pc' := 4) dX11_aim_1 rfl fX11_23 L_0 rf_0_3 ?_
    refine S.iload_n (pc' := 5) dX11_aim_4 rfl rfl rfl ?_
    refine S.callVi (pc' := 8) dX11_aim_5 rfl cX11_126 (bk_X1_hasThing gd18) rfl (gd_lay gd18) (by decide) rfl (Nat.le_of_ble_eq_true rfl) (fun z5 M5 q5 => ?_)
    obtain ⟨b5, rfl⟩ := q5
    refine S.if_eq (pc' := 11) (tgt := 19) dX11_aim_8 (by decide) rfl (by unfold fp_rng; omega) (fun h8 => ?_) (fun h8 => ?_)
    · exfalso; omega
    · refine S.iload_n (pc' := 12) dX11_aim_11 rfl rfl rfl ?_
      refine S.iconst (pc' := 13) dX11_aim_12 rfl ?_
      refine S.callSi (pc' := 16) dX11_aim_13 rfl cX11_221 (bk_X11_isWithin) rfl (by decide) rfl (Nat.le_of_ble_eq_true rfl) (fun z13 M13 q13 => ?_)
      obtain ⟨b13, rfl⟩ := q13
      refine S.if_ne (pc' := 19) (tgt := 21) dX11_aim_16 (by decide) rfl (by unfold fp_rng; omega) (fun h16 => ?_) (fun h16 => ?_)
      · refine S.aload_n (pc' := 22) dX11_aim_21 rfl rfl rfl ?_
        refine S.getR (pc' := 25) dX11_aim_22 rfl fX11_51 L_0 rf_0_7 ?_
        refine S.aload_n (pc' := 26) dX11_aim_25 rfl rfl rfl ?_
        refine S.getR (pc' := 29) dX11_aim_26 rfl fX11_23 L_0 rf_0_3 ?_
        refine S.aload_n (pc' := 30) dX11_aim_29 rfl rfl rfl ?_
        refine S.getR (pc' := 33) dX11_aim_30 rfl fX11_37 L_0 rf_0_5 ?_
        refine S.aload_n (pc' := 34) dX11_aim_33 rfl rfl rfl ?_
        refine S.getR (pc' := 37) dX11_aim_34 rfl fX11_30 L_0 rf_0_4 ?_
        refine S.iconst (pc' := 38) dX11_aim_37 rfl ?_
        refine S.callVr (pc' := 41) dX11_aim_38 rfl cX11_214 (rk_X8_behind (g := g) (pg := pg) (vs := vs) gd18 vs27 pl22) rfl L_34 (by decide) rfl (Nat.le_of_ble_eq_true rfl) (fun z38 M38 q38 => ?_)
        obtain ⟨rfl, c1, f1⟩ := q38
        refine S.astore_n (pc' := 42) (LL' := [_, _, _, _, _, _]) dX11_aim_41 rfl (by decide) rfl rfl rfl ?_
        refine S.iconst (pc' := 43) dX11_aim_42 rfl ?_
        refine S.istore (pc' := 45) (LL' := [_, _, _, _, _, _]) dX11_aim_43 rfl (by decide) rfl rfl ?_
        exact aim_loop hin.1 hin.2 hP hg hvo hv hd hcs (vs.length + 1) 0 _ _ (by omega) (by omega) (by omega) f1 (fun _ => c1)
      · exfalso; omega
  · rw [if_pos hin]
    refine S.aload_n (pc' := 1) dX11_aim_0 rfl rfl rfl ?_
    refine S.getR (pc' := 4) dX11_aim_1 rfl fX11_23 L_0 rf_0_3 ?_
    refine S.iload_n (pc' := 5) dX11_aim_4 rfl rfl rfl ?_
    refine S.callVi (pc' := 8) dX11_aim_5 rfl cX11_126 (bk_X1_hasThing gd18) rfl (gd_lay gd18) (by decide) rfl (Nat.le_of_ble_eq_true rfl) (fun z5 M5 q5 => ?_)
    obtain ⟨b5, rfl⟩ := q5
    refine S.if_eq (pc' := 11) (tgt := 19) dX11_aim_8 (by decide) rfl (by unfold fp_rng; omega) (fun h8 => ?_) (fun h8 => ?_)
    · refine S.iconst (pc' := 20) dX11_aim_19 rfl ?_
      refine S.iret dX11_aim_20 rfl ?_
      exact ⟨rfl, hcs, frC.refl _⟩
    · refine S.iload_n (pc' := 12) dX11_aim_11 rfl rfl rfl ?_
      refine S.iconst (pc' := 13) dX11_aim_12 rfl ?_
      refine S.callSi (pc' := 16) dX11_aim_13 rfl cX11_221 (bk_X11_isWithin) rfl (by decide) rfl (Nat.le_of_ble_eq_true rfl) (fun z13 M13 q13 => ?_)
      obtain ⟨b13, rfl⟩ := q13
      refine S.if_ne (pc' := 19) (tgt := 21) dX11_aim_16 (by decide) rfl (by unfold fp_rng; omega) (fun h16 => ?_) (fun h16 => ?_)
      · exfalso; omega
      · refine S.iconst (pc' := 20) dX11_aim_19 rfl ?_
        refine S.iret dX11_aim_20 rfl ?_
        exact ⟨rfl, hcs, frC.refl _⟩
theorem maim_in {pr : aPg} {t w i : Int} {P : Int → fp_Mem → Prop} (ht : 0 ≤ t ∧ t < g.1) (hw : fp_rng w) (hP : pgOk g pr) (hg : gOk g) (hd : mdIs N g) (hc : mpIs N 360 g pr) (hcont : aLn g pr t = -4 → fp_S l G 6 kX12_aim 78 [some (rV G 177), some (iV t), some (iV w), some (iV i), some (iV g.2.1)] [] N (qI P)) (hret : aLn g pr t ≠ -4 → P (if w = 0 then i else aLn g pr t) N) : ∀ (n : Nat) (x : Int), (g.2.1 - x).toNat = n → 0 ≤ x → x ≤ g.2.1 → fp_find (fun x => aGv g pr x) t n x = aLn g pr t →
    fp_S l G 6 kX12_aim 39 [some (rV G 177), some (iV t), some (iV w), some (iV i), some (iV x)] [] N (qI P) := by
  have hg1 := hg.1
  have hg2 := hg.2.1
  have hl2 := hd.2.1
  intro n
  induction n with
  | zero =>
    intro x h x0 x1 he
    refine S.iload (pc' := 41) dX12_aim_39 rfl rfl ?_
    refine S.aload_n (pc' := 42) dX12_aim_41 rfl rfl rfl ?_
    refine S.getI (pc' := 45) dX12_aim_42 rfl fX12_184 L_177 ?_
    refine S.icmp_ge (pc' := 48) (tgt := 78) dX12_aim_45 (by decide) rfl (by unfold fp_rng; omega) (by unfold fp_rng; omega) (fun h45 => ?_) (fun h45 => ?_)
    · rw [show x = g.2.1 by omega]; exact hcont he.symm
    · exfalso; omega
  | succ n ih =>
    intro x h x0 x1 he
    have hq := aGv_in hP hg (x := x) ⟨x0, by omega⟩
    have es : fp_find (fun x => aGv g pr x) t (n + 1) x = if aGv g pr x = t then x else fp_find (fun x => aGv g pr x) t n (x + 1) := rfl
    refine S.iload (pc' := 41) dX12_aim_39 rfl rfl ?_
    refine S.aload_n (pc' := 42) dX12_aim_41 rfl rfl rfl ?_
    refine S.getI (pc' := 45) dX12_aim_42 rfl fX12_184 L_177 ?_
    refine S.icmp_ge (pc' := 48) (tgt := 78) dX12_aim_45 (by decide) rfl (by unfold fp_rng; omega) (by unfold fp_rng; omega) (fun h45 => ?_) (fun h45 => ?_)
    · exfalso; omega
    · refine S.aload_n (pc' := 49) dX12_aim_48 rfl rfl rfl ?_
      refine S.sipush (pc' := 52) dX12_aim_49 rfl (by decide) ?_
      refine S.iload (pc' := 54) dX12_aim_52 rfl rfl ?_
      refine S.callVe (pc' := 57) dX12_aim_54 rfl cX12_222 (rk_X12_gives (g := g) (pg := pr)) rfl L_177 (by decide) rfl (Nat.le_of_ble_eq_true rfl) ?_
      refine S.iload_n (pc' := 58) dX12_aim_57 rfl rfl rfl ?_
      refine S.icmp_ne (pc' := 61) (tgt := 72) dX12_aim_58 (by decide) rfl (by unfold fp_rng; omega) (by unfold fp_rng; omega) (fun h58 => ?_) (fun h58 => ?_)
      · refine S.iinc (pc' := 75) (LL' := [_, _, _, _, _]) dX12_aim_72 rfl (by decide) rfl rfl rfl ?_
        refine S.goto (pc' := 39) dX12_aim_75 (by decide) ?_
        rw [if_neg h58] at es; exact ih _ (by omega) (by omega) (by omega) (by rw [← es]; exact he)
      · refine S.iload_n (pc' := 62) dX12_aim_61 rfl rfl rfl ?_
        refine S.if_ne (pc' := 65) (tgt := 69) dX12_aim_62 (by decide) rfl hw (fun h62 => ?_) (fun h62 => ?_)
        · refine S.iload (pc' := 71) dX12_aim_69 rfl rfl ?_
          refine S.iret dX12_aim_71 rfl ?_
          rw [if_pos h58] at es; have e9 : aLn g pr t = x := by rw [← he, es]
          have hr := hret (by omega)
          rw [e9] at hr
          first | (rw [if_pos h62] at hr; exact hr) | (rw [if_neg h62] at hr; exact hr)
        · refine S.iload_n (pc' := 66) dX12_aim_65 rfl rfl rfl ?_
          refine S.goto (pc' := 71) dX12_aim_66 (by decide) ?_
          refine S.iret dX12_aim_71 rfl ?_
          rw [if_pos h58] at es; have e9 : aLn g pr t = x := by rw [← he, es]
          have hr := hret (by omega)
          rw [e9] at hr
          first | (rw [if_pos h62] at hr; exact hr) | (rw [if_neg h62] at hr; exact hr)
theorem maim_loop {t w : Int} (ht : 0 ≤ t ∧ t < g.1) (hw : 0 ≤ w ∧ w ≤ 1) (ho : OK g pg vs nt im sh) (hcs : MS M tp fl g pg vs nt im sh tn) : ∀ (n : Nat) (i : Int) (N : fp_Mem) (o4 : Option Value), ((vs.length : Int) + 1 - i).toNat = n → 0 ≤ i → i ≤ vs.length + 1 → frT M N →
    fp_S l G 6 kX12_aim 22 [some (rV G 177), some (iV t), some (iV w), some (iV i), o4] [] N (qI fun z O => z = (if w = 0 then (aAim g pg vs t n i).1 else (aAim g pg vs t n i).2) ∧ MS O tp fl g pg vs nt im sh tn ∧ frD M O) := by
  have hcs' := hcs
  obtain ⟨-, hd, hcl, hv, -⟩ := hcs
  have hg := ho.1
  have hP := ho.2.1
  have hvo := ho.2.2.1
  have hv0 : mvIs M vs := hv
  have hl := hv.2.1
  have hg1 := hg.1
  have hg2 := hg.2.1
  intro n
  induction n with
  | zero =>
    intro i N o4 h i0 i1 hf
    have hl1 := (hf.mv hv0).1
    refine S.iload_n (pc' := 23) dX12_aim_22 rfl rfl rfl ?_
    refine S.aload_n (pc' := 24) dX12_aim_23 rfl rfl rfl ?_
    refine S.callVe (pc' := 27) dX12_aim_24 rfl cX12_225 (ok_X12_visits) rfl L_177 (by decide) rfl (Nat.le_of_ble_eq_true rfl) ?_
    refine S.icmp_gt (pc' := 30) (tgt := 84) dX12_aim_27 (by decide) rfl (by unfold fp_rng; omega) (by unfold fp_rng; omega) (fun h27 => ?_) (fun h27 => ?_)
    · refine S.bipush (pc' := 86) dX12_aim_84 rfl (by decide) ?_
      refine S.iret dX12_aim_86 rfl ?_
      refine ⟨?_, hcs'.tri ho hf, hf.d⟩
      unfold aAim
      split <;> rfl
    · exfalso; omega
  | succ n ih =>
    intro i N o4 h i0 i1 hf
    have hPi := aRun_ok hg hP hvo i.toNat
    have hv' := hf.mv hv0
    have hd' := hf.md hd
    have hc' := hf.mp0 hg hP hcl
    have hl1 := hv'.1
    have es : aAim g pg vs t (n + 1) i = if aLn g (aRun g pg vs i.toNat) t ≠ -4 then (i, aLn g (aRun g pg vs i.toNat) t) else aAim g pg vs t n (i + 1) := rfl
    refine S.iload_n (pc' := 23) dX12_aim_22 rfl rfl rfl ?_
    refine S.aload_n (pc' := 24) dX12_aim_23 rfl rfl rfl ?_
    refine S.callVe (pc' := 27) dX12_aim_24 rfl cX12_225 (ok_X12_visits) rfl L_177 (by decide) rfl (Nat.le_of_ble_eq_true rfl) ?_
    refine S.icmp_gt (pc' := 30) (tgt := 84) dX12_aim_27 (by decide) rfl (by unfold fp_rng; omega) (by unfold fp_rng; omega) (fun h27 => ?_) (fun h27 => ?_)
    · exfalso; omega
    · refine S.aload_n (pc' := 31) dX12_aim_30 rfl rfl rfl ?_
      refine S.iload_n (pc' := 32) dX12_aim_31 rfl rfl rfl ?_
      refine S.callVi (pc' := 35) dX12_aim_32 rfl cX12_268 (rk_X12_runs (g := g) (pg := pg) (vs := vs)) rfl L_177 (by decide) rfl (Nat.le_of_ble_eq_true rfl) (fun z32 M32 q32 => ?_)
      obtain ⟨z1, c1, f1⟩ := q32
      have hd2 := f1.md hd'
      refine S.pop (pc' := 36) dX12_aim_35 rfl rfl ?_
      refine S.iconst (pc' := 37) dX12_aim_36 rfl ?_
      refine S.istore (pc' := 39) (LL' := [_, _, _, _, _]) dX12_aim_37 rfl (by decide) rfl rfl ?_
      refine maim_in ht (by unfold fp_rng; omega) hPi hg hd2 c1 (fun hno => ?_) (fun hyes => ?_) g.2.1.toNat 0 (by omega) (by omega) (by omega) rfl
      · have es' : aAim g pg vs t (n + 1) i = aAim g pg vs t n (i + 1) := by rw [es, if_neg (fun q => q hno)]
        rw [es']
        refine S.iinc (pc' := 81) (LL' := [_, _, _, _, _]) dX12_aim_78 rfl (by decide) rfl rfl rfl ?_
        refine S.goto (pc' := 22) dX12_aim_81 (by decide) ?_
        exact ih _ _ _ (by omega) (by omega) (by omega) (hf.trans f1)
      · have es' : aAim g pg vs t (n + 1) i = (i, aLn g (aRun g pg vs i.toNat) t) := by rw [es, if_pos hyes]
        rw [es']
        exact ⟨rfl, hcs'.tri ho (hf.trans f1), (hf.trans f1).d⟩
theorem mm_aim {t w : Int} (hc : MS M tp fl g pg vs nt im sh tn) (ho : OK g pg vs nt im sh) (ht : fp_rng t) (hw : fp_rng w) : fp_Ok l G 6 kX12_aim [rV G 177, iV t, iV w] M (qI fun z N => z = A_aim g pg vs t w ∧ MS N tp fl g pg vs nt im sh tn ∧ frD M N) := by
  have hcs := hc
  obtain ⟨-, hd, hcl, hv, -⟩ := hc
  have hg := ho.1
  have hw' := hw
  unfold fp_rng at hw'
  refine fp_Ok.of (r := 2) rfl (Nat.le_of_ble_eq_true rfl) rfl ?_
  unfold A_aim
  by_cases hin : (0 ≤ t ∧ t < g.1) ∧ (0 ≤ w ∧ w ≤ 1)
  · rw [if_neg (fun q => q hin)]
    refine S.aload_n (pc' := 1) dX12_aim_0 rfl rfl rfl ?_
    refine S.iload_n (pc' := 2) dX12_aim_1 rfl rfl rfl ?_
    refine S.callVi (pc' := 5) dX12_aim_2 rfl cX12_205 (bk_X12_isThing) rfl L_177 (by decide) rfl (Nat.le_of_ble_eq_true rfl) (fun z2 M2 q2 => ?_)
    obtain ⟨b2, rfl⟩ := q2
    refine S.if_eq (pc' := 8) (tgt := 18) dX12_aim_5 (by decide) rfl (by unfold fp_rng; omega) (fun h5 => ?_) (fun h5 => ?_)
    · exfalso; omega
    · refine S.iload_n (pc' := 9) dX12_aim_8 rfl rfl rfl ?_
      refine S.i2l (pc' := 10) dX12_aim_9 rfl hw ?_
      refine S.lconst (pc' := 11) (w := 0) dX12_aim_10 rfl rfl ?_
      refine S.lconst (pc' := 12) (w := 1) dX12_aim_11 rfl rfl ?_
      refine S.callSi (pc' := 15) dX12_aim_12 rfl cX12_94 (bk_X12_in) rfl (by decide) rfl (Nat.le_of_ble_eq_true rfl) (fun z12 M12 q12 => ?_)
      obtain ⟨b12, rfl⟩ := q12
      refine S.if_ne (pc' := 18) (tgt := 20) dX12_aim_15 (by decide) rfl (by unfold fp_rng; omega) (fun h15 => ?_) (fun h15 => ?_)
      · refine S.iconst (pc' := 21) dX12_aim_20 rfl ?_
        refine S.istore_n (pc' := 22) (LL' := [_, _, _, _, _]) dX12_aim_21 rfl (by decide) rfl rfl rfl ?_
        exact maim_loop hin.1 hin.2 ho hcs (vs.length + 1) 0 _ _ (by omega) (by omega) (by omega) (frT.refl _)
      · exfalso; omega
  · rw [if_pos hin]
    refine S.aload_n (pc' := 1) dX12_aim_0 rfl rfl rfl ?_
    refine S.iload_n (pc' := 2) dX12_aim_1 rfl rfl rfl ?_
    refine S.callVi (pc' := 5) dX12_aim_2 rfl cX12_205 (bk_X12_isThing) rfl L_177 (by decide) rfl (Nat.le_of_ble_eq_true rfl) (fun z2 M2 q2 => ?_)
    obtain ⟨b2, rfl⟩ := q2
    refine S.if_eq (pc' := 8) (tgt := 18) dX12_aim_5 (by decide) rfl (by unfold fp_rng; omega) (fun h5 => ?_) (fun h5 => ?_)
    · refine S.iconst (pc' := 19) dX12_aim_18 rfl ?_
      refine S.iret dX12_aim_19 rfl ?_
      exact ⟨rfl, hcs, frD.refl _⟩
    · refine S.iload_n (pc' := 9) dX12_aim_8 rfl rfl rfl ?_
      refine S.i2l (pc' := 10) dX12_aim_9 rfl hw ?_
      refine S.lconst (pc' := 11) (w := 0) dX12_aim_10 rfl rfl ?_
      refine S.lconst (pc' := 12) (w := 1) dX12_aim_11 rfl rfl ?_
      refine S.callSi (pc' := 15) dX12_aim_12 rfl cX12_94 (bk_X12_in) rfl (by decide) rfl (Nat.le_of_ble_eq_true rfl) (fun z12 M12 q12 => ?_)
      obtain ⟨b12, rfl⟩ := q12
      refine S.if_ne (pc' := 18) (tgt := 20) dX12_aim_15 (by decide) rfl (by unfold fp_rng; omega) (fun h15 => ?_) (fun h15 => ?_)
      · exfalso; omega
      · refine S.iconst (pc' := 19) dX12_aim_18 rfl ?_
        refine S.iret dX12_aim_19 rfl ?_
        exact ⟨rfl, hcs, frD.refl _⟩
end AIM
end
section
/-! go; join -/
def aVc (g : aGd) (pg : aPg) (vs : List aVt) : Nat → Int
  | 0 => 0
  | n + 1 => if (aHapI g (aRun g pg vs n) vs n).1 = 0 then aVc g pg vs n + 1 else aVc g pg vs n
def A_go (g : aGd) (pg : aPg) (vs : List aVt) (n : Int) : Int × aPg × List aVt := if 0 ≤ n ∧ n ≤ vs.length then (aVc g pg vs n.toNat, aRun g pg vs n.toNat, vs.drop n.toNat) else (-1, pg, vs)
theorem aVc_succ {g : aGd} {pg : aPg} {vs : List aVt} {i : Int} (h : 0 ≤ i) : aVc g pg vs (i + 1).toNat = if (aHapI g (aRun g pg vs i.toNat) vs i).1 = 0 then aVc g pg vs i.toNat + 1 else aVc g pg vs i.toNat := by
  have e1 : (i + 1).toNat = i.toNat + 1 := by omega
  rw [e1]
  show (if (aHapI g (aRun g pg vs i.toNat) vs ((i.toNat : Nat) : Int)).1 = 0 then _ else _) = _
  rw [Int.toNat_of_nonneg h]
theorem fp_dropD {α : Type} (L : List α) (n i : Nat) (d : α) : (L.drop n).getD i d = L.getD (n + i) d := by
  rw [List.getD_eq_getElem?_getD, List.getD_eq_getElem?_getD, List.getElem?_drop]
def fp_shf (f : Nat → Int) (b : Int) (n : Nat) : Nat → Int := fun j => if (j : Int) < b then f (j + n) else f j
section GOE
variable {l : Launch} {G : fp_WG} {M N : fp_Mem} {tp tp' : List Int} {fl fl' : Int} {g : aGd} {pg : aPg} {vs vs' : List aVt} {nt nt' : List Int} {im : aIm} {sh : aSh} {tn tn' : Int} {k k2 kg kv : Nat}
theorem drop_loop {m9 : Int} (hk : fp_isvs k) (hv : vsIs M k vs) (hm : 0 ≤ m9 ∧ m9 ≤ vs.length) : ∀ (n : Nat) (i : Int) (N : fp_Mem), ((vs.length : Int) - i).toNat < n → m9 ≤ i → i ≤ vs.length → N = fp_spl M k (fp_shf (M (k + 1)) (i - m9) m9.toNat) (fp_shf (M (k + 2)) (i - m9) m9.toNat) (fp_shf (M (k + 3)) (i - m9) m9.toNat) (fp_shf (M (k + 4)) (i - m9) m9.toNat) →
    fp_S l G 0 kX10_dropFirst 2 [some (rV G k), some (iV m9), some (iV i)] [] N (qV fun O => vsIs O k (vs.drop m9.toNat) ∧ ∀ a, (a < k ∨ k + 4 < a) → O a = M a) := by
  obtain ⟨a1, a2, a3⟩ := hv
  intro n
  induction n with
  | zero => intro i N h; omega
  | succ n ih =>
    intro i N h i0 i1 hN
    have e0 : N k = M k := by rw [hN]; exact fp_splo (by omega)
    have e1 : N (k + 1) = fp_shf (M (k + 1)) (i - m9) m9.toNat := by rw [hN]; exact fp_spl1
    have e2 : N (k + 2) = fp_shf (M (k + 2)) (i - m9) m9.toNat := by rw [hN]; exact fp_spl2
    have e3 : N (k + 3) = fp_shf (M (k + 3)) (i - m9) m9.toNat := by rw [hN]; exact fp_spl3
    have e4 : N (k + 4) = fp_shf (M (k + 4)) (i - m9) m9.toNat := by rw [hN]; exact fp_spl4
    have hsz : N k 0 = vs.length := by rw [e0]; exact a1
    have hst : ∀ f : Nat → Int, fp_upf (fp_shf f (i - m9) m9.toNat) (i - m9).toNat (fp_shf f (i - m9) m9.toNat i.toNat) = fp_shf f (i + 1 - m9) m9.toNat := by
      intro f
      funext j
      unfold fp_upf fp_shf
      (repeat' split) <;> first | rfl | (exfalso; omega) | (refine congrArg f ?_; omega)
    refine S.iload_n (pc' := 3) dX10_dropFirst_2 rfl rfl rfl ?_
    refine S.aload_n (pc' := 4) dX10_dropFirst_3 rfl rfl rfl ?_
    refine S.getI (pc' := 7) dX10_dropFirst_4 rfl fX10_24 (vs_lay hk) ?_
    refine S.icmp_ge (pc' := 10) (tgt := 72) dX10_dropFirst_7 (by decide) rfl (by unfold fp_rng; omega) (by unfold fp_rng; omega) (fun h7 => ?_) (fun h7 => ?_)
    · refine S.aload_n (pc' := 73) dX10_dropFirst_72 rfl rfl rfl ?_
      refine S.dup (pc' := 74) dX10_dropFirst_73 rfl rfl ?_
      refine S.getI (pc' := 77) dX10_dropFirst_74 rfl fX10_24 (vs_lay hk) ?_
      refine S.iload_n (pc' := 78) dX10_dropFirst_77 rfl rfl rfl ?_
      refine S.isub (pc' := 79) dX10_dropFirst_78 rfl ?_
      refine S.putI (pc' := 82) dX10_dropFirst_79 rfl fX10_24 (vs_lay hk) ?_
      refine S.vret dX10_dropFirst_82 rfl ?_
      have hi : i = vs.length := by omega
      refine ⟨?_, fun a ha => by rw [fp_up_ne (by omega), hN]; exact fp_splo (by omega)⟩
      unfold vsIs
      rw [fp_up_at, fp_up_ne (by omega), fp_up_ne (by omega), fp_up_ne (by omega), fp_up_ne (by omega), fp_upf_at, hsz, e1, e2, e3, e4, List.length_drop]
      refine ⟨by omega, by omega, fun j j0 j1 => ?_⟩
      rw [fp_dropD]
      unfold fp_shf
      rw [if_pos (by omega), if_pos (by omega), if_pos (by omega), if_pos (by omega)]
      have q := a3 (m9 + j) (by omega) (by omega)
      rw [show (m9 + j).toNat = j.toNat + m9.toNat by omega] at q
      rw [Nat.add_comm m9.toNat]
      exact q
    · refine S.aload_n (pc' := 11) dX10_dropFirst_10 rfl rfl rfl ?_
      refine S.getR (pc' := 14) dX10_dropFirst_11 rfl fX10_9 (vs_lay hk) (vs_r1 hk) ?_
      refine S.iload_n (pc' := 15) dX10_dropFirst_14 rfl rfl rfl ?_
      refine S.iload_n (pc' := 16) dX10_dropFirst_15 rfl rfl rfl ?_
      refine S.isub (pc' := 17) dX10_dropFirst_16 rfl ?_
      refine S.aload_n (pc' := 18) dX10_dropFirst_17 rfl rfl rfl ?_
      refine S.getR (pc' := 21) dX10_dropFirst_18 rfl fX10_9 (vs_lay hk) (vs_r1 hk) ?_
      refine S.iload_n (pc' := 22) dX10_dropFirst_21 rfl rfl rfl ?_
      refine S.iald (pc' := 23) dX10_dropFirst_22 rfl (vs_a1 hk) (by omega) (by omega) ?_
      refine S.iast (pc' := 24) dX10_dropFirst_23 rfl (vs_a1 hk) (by omega) (by omega) ?_
      refine S.aload_n (pc' := 25) dX10_dropFirst_24 rfl rfl rfl ?_
      refine S.getR (pc' := 28) dX10_dropFirst_25 rfl fX10_15 (vs_lay hk) (vs_r2 hk) ?_
      refine S.iload_n (pc' := 29) dX10_dropFirst_28 rfl rfl rfl ?_
      refine S.iload_n (pc' := 30) dX10_dropFirst_29 rfl rfl rfl ?_
      refine S.isub (pc' := 31) dX10_dropFirst_30 rfl ?_
      refine S.aload_n (pc' := 32) dX10_dropFirst_31 rfl rfl rfl ?_
      refine S.getR (pc' := 35) dX10_dropFirst_32 rfl fX10_15 (vs_lay hk) (vs_r2 hk) ?_
      refine S.iload_n (pc' := 36) dX10_dropFirst_35 rfl rfl rfl ?_
      refine S.iald (pc' := 37) dX10_dropFirst_36 rfl (vs_a2 hk) (by omega) (by omega) ?_
      refine S.iast (pc' := 38) dX10_dropFirst_37 rfl (vs_a2 hk) (by omega) (by omega) ?_
      refine S.aload_n (pc' := 39) dX10_dropFirst_38 rfl rfl rfl ?_
      refine S.getR (pc' := 42) dX10_dropFirst_39 rfl fX10_18 (vs_lay hk) (vs_r3 hk) ?_
      refine S.iload_n (pc' := 43) dX10_dropFirst_42 rfl rfl rfl ?_
      refine S.iload_n (pc' := 44) dX10_dropFirst_43 rfl rfl rfl ?_
      refine S.isub (pc' := 45) dX10_dropFirst_44 rfl ?_
      refine S.aload_n (pc' := 46) dX10_dropFirst_45 rfl rfl rfl ?_
      refine S.getR (pc' := 49) dX10_dropFirst_46 rfl fX10_18 (vs_lay hk) (vs_r3 hk) ?_
      refine S.iload_n (pc' := 50) dX10_dropFirst_49 rfl rfl rfl ?_
      refine S.iald (pc' := 51) dX10_dropFirst_50 rfl (vs_a3 hk) (by omega) (by omega) ?_
      refine S.iast (pc' := 52) dX10_dropFirst_51 rfl (vs_a3 hk) (by omega) (by omega) ?_
      refine S.aload_n (pc' := 53) dX10_dropFirst_52 rfl rfl rfl ?_
      refine S.getR (pc' := 56) dX10_dropFirst_53 rfl fX10_21 (vs_lay hk) (vs_r4 hk) ?_
      refine S.iload_n (pc' := 57) dX10_dropFirst_56 rfl rfl rfl ?_
      refine S.iload_n (pc' := 58) dX10_dropFirst_57 rfl rfl rfl ?_
      refine S.isub (pc' := 59) dX10_dropFirst_58 rfl ?_
      refine S.aload_n (pc' := 60) dX10_dropFirst_59 rfl rfl rfl ?_
      refine S.getR (pc' := 63) dX10_dropFirst_60 rfl fX10_21 (vs_lay hk) (vs_r4 hk) ?_
      refine S.iload_n (pc' := 64) dX10_dropFirst_63 rfl rfl rfl ?_
      refine S.iald (pc' := 65) dX10_dropFirst_64 rfl (vs_a4 hk) (by omega) (by omega) ?_
      refine S.iast (pc' := 66) dX10_dropFirst_65 rfl (vs_a4 hk) (by omega) (by omega) ?_
      refine S.iinc (pc' := 69) (LL' := [_, _, _]) dX10_dropFirst_66 rfl (by decide) rfl rfl rfl ?_
      refine S.goto (pc' := 2) dX10_dropFirst_69 (by decide) ?_
      refine ih _ _ (by omega) (by omega) (by omega) ?_
      funext a
      unfold fp_spl
      by_cases a4 : a = k + 4
      · subst a4; rw [fp_up_at, if_neg (by omega), if_neg (by omega), if_neg (by omega), if_pos rfl, fp_up_ne (by omega), fp_up_ne (by omega), fp_up_ne (by omega), e4]; exact hst _
      · rw [fp_up_ne a4]
        by_cases a3 : a = k + 3
        · subst a3; rw [fp_up_at, if_neg (by omega), if_neg (by omega), if_pos rfl, fp_up_ne (by omega), fp_up_ne (by omega), e3]; exact hst _
        · rw [fp_up_ne a3]
          by_cases a2 : a = k + 2
          · subst a2; rw [fp_up_at, if_neg (by omega), if_pos rfl, fp_up_ne (by omega), e2]; exact hst _
          · rw [fp_up_ne a2]
            by_cases a1 : a = k + 1
            · subst a1; rw [fp_up_at, if_pos rfl, e1]; exact hst _
            · rw [fp_up_ne a1, if_neg a1, if_neg a2, if_neg a3, if_neg a4, hN]
              exact fp_splo (by omega)
theorem rk_X10_dropFirst {m9 : Int} (hk : fp_isvs k) (hv : vsIs M k vs := by assumption) (hm : 0 ≤ m9 ∧ m9 ≤ vs.length := by first | assumption | omega) : fp_Ok l G 0 kX10_dropFirst [rV G k, iV m9] M (qV fun O => vsIs O k (vs.drop m9.toNat) ∧ ∀ a, (a < k ∨ k + 4 < a) → O a = M a) := by
  refine fp_Ok.of (r := 1) rfl (Nat.le_of_ble_eq_true rfl) rfl ?_
  have h0 : M = fp_spl M k (fp_shf (M (k + 1)) (m9 - m9) m9.toNat) (fp_shf (M (k + 2)) (m9 - m9) m9.toNat) (fp_shf (M (k + 3)) (m9 - m9) m9.toNat) (fp_shf (M (k + 4)) (m9 - m9) m9.toNat) := by
    have hs : ∀ f : Nat → Int, fp_shf f (m9 - m9) m9.toNat = f := fun f => funext fun j => by unfold fp_shf; rw [if_neg (by omega)]
    rw [hs, hs, hs, hs]
    funext a
    unfold fp_spl
    (repeat' split) <;> first | rfl | (rename_i h; rw [h])
  refine S.iload_n (pc' := 1) dX10_dropFirst_0 rfl rfl rfl ?_
  refine S.istore_n (pc' := 2) (LL' := [_, _, _]) dX10_dropFirst_1 rfl (by decide) rfl rfl rfl ?_
  exact drop_loop hk hv hm (vs.length + 1) m9 M (by omega) (by omega) (by omega) h0
theorem go_loop {m9 : Int} (hm : 0 ≤ m9 ∧ m9 ≤ vs.length) (ho : OK g pg vs nt im sh) (hcs : CS M tp fl g pg vs nt im sh tn) : ∀ (n : Nat) (i : Int) (N : fp_Mem), (m9 - i).toNat < n → 0 ≤ i → i ≤ m9 → frP M N 22 → clIs N 22 g (aRun g pg vs i.toNat) →
    fp_S l G 3 kX11_go 21 [some (rV G 0), some (iV m9), some (iV (aVc g pg vs i.toNat)), some (iV i)] [] N (qI fun z O => z = aVc g pg vs m9.toNat ∧ CS O tp fl g (aRun g pg vs m9.toNat) (vs.drop m9.toNat) nt im sh tn ∧ frC M O) := by
  obtain ⟨-, hd, hcl, hv, -⟩ := id hcs
  obtain ⟨hg, hP, hvo, -⟩ := ho
  have hl := hv.2.1
  intro n
  induction n with
  | zero => intro i N h; omega
  | succ n ih =>
    intro i N h i0 i1 hf hc
    have es := aVc_succ (g := g) (pg := pg) (vs := vs) i0
    have er := aRun_succ (g := g) (pg := pg) (vs := vs) i0
    have hPi := aRun_ok hg hP hvo i.toNat
    have hv' := hf.vs pl22 vs27 hv
    have hd' := hf.gd pl22 gd18 hd
    refine S.iload_n (pc' := 22) dX11_go_21 rfl rfl rfl ?_
    refine S.iload_n (pc' := 23) dX11_go_22 rfl rfl rfl ?_
    refine S.icmp_ge (pc' := 26) (tgt := 54) dX11_go_23 (by decide) rfl (by unfold fp_rng; omega) (by unfold fp_rng; omega) (fun h23 => ?_) (fun h23 => ?_)
    · refine S.aload_n (pc' := 55) dX11_go_54 rfl rfl rfl ?_
      refine S.getR (pc' := 58) dX11_go_55 rfl fX11_37 L_0 rf_0_5 ?_
      refine S.iload_n (pc' := 59) dX11_go_58 rfl rfl rfl ?_
      refine S.callVv (pc' := 62) dX11_go_59 rfl cX11_210 (rk_X10_dropFirst (vs := vs) vs27) rfl (vs_lay vs27) (by decide) rfl (Nat.le_of_ble_eq_true rfl) (fun M59 q59 => ?_)
      obtain ⟨c2, f2⟩ := q59
      refine S.iload_n (pc' := 63) dX11_go_62 rfl rfl rfl ?_
      refine S.iret dX11_go_63 rfl ?_
      have ei : i = m9 := by omega
      rw [ei] at hc
      exact ⟨by rw [ei], (hcs.page hf hc).vis (fun a ha => f2 a (by omega)) c2, fun c hc2 => (f2 c (by omega)).trans (hf c (by omega))⟩
    · refine S.aload_n (pc' := 27) dX11_go_26 rfl rfl rfl ?_
      refine S.getR (pc' := 30) dX11_go_27 rfl fX11_37 L_0 rf_0_5 ?_
      refine S.aload_n (pc' := 31) dX11_go_30 rfl rfl rfl ?_
      refine S.getR (pc' := 34) dX11_go_31 rfl fX11_23 L_0 rf_0_3 ?_
      refine S.aload_n (pc' := 35) dX11_go_34 rfl rfl rfl ?_
      refine S.getR (pc' := 38) dX11_go_35 rfl fX11_30 L_0 rf_0_4 ?_
      refine S.iload_n (pc' := 39) dX11_go_38 rfl rfl rfl ?_
      refine S.callVi (pc' := 42) dX11_go_39 rfl cX11_206 (rk_X10_happens (g := g) (pg := aRun g pg vs i.toNat) (vs := vs) vs27 gd18 pl22) rfl (vs_lay vs27) (by decide) rfl (Nat.le_of_ble_eq_true rfl) (fun z39 M39 q39 => ?_)
      have h01 := aHapI_01 g (aRun g pg vs i.toNat) vs i
      obtain ⟨rfl, c1, f1⟩ := q39
      rw [← er] at c1
      refine S.if_ne (pc' := 45) (tgt := 48) dX11_go_42 (by decide) rfl (by unfold fp_rng; omega) (fun h42 => ?_) (fun h42 => ?_)
      · refine S.iinc (pc' := 51) (LL' := [_, _, _, _]) dX11_go_48 rfl (by decide) rfl rfl rfl ?_
        refine S.goto (pc' := 21) dX11_go_51 (by decide) ?_
        first | (rw [if_neg h42] at es; rw [← es]; exact ih _ _ (by omega) (by omega) (by omega) (hf.trans f1) c1) | (rw [if_pos h42] at es; rw [← es]; exact ih _ _ (by omega) (by omega) (by omega) (hf.trans f1) c1)
      · refine S.iinc (pc' := 48) (LL' := [_, _, _, _]) dX11_go_45 rfl (by decide) rfl rfl rfl ?_
        refine S.iinc (pc' := 51) (LL' := [_, _, _, _]) dX11_go_48 rfl (by decide) rfl rfl rfl ?_
        refine S.goto (pc' := 21) dX11_go_51 (by decide) ?_
        first | (rw [if_neg h42] at es; rw [← es]; exact ih _ _ (by omega) (by omega) (by omega) (hf.trans f1) c1) | (rw [if_pos h42] at es; rw [← es]; exact ih _ _ (by omega) (by omega) (by omega) (hf.trans f1) c1)
theorem cc_go {m9 : Int} (hc : CS M tp fl g pg vs nt im sh tn) (ho : OK g pg vs nt im sh) (hn : fp_rng m9) : fp_Ok l G 3 kX11_go [rV G 0, iV m9] M (qI fun z N => z = (A_go g pg vs m9).1 ∧ CS N tp fl g (A_go g pg vs m9).2.1 (A_go g pg vs m9).2.2 nt im sh tn ∧ frC M N) := by
  obtain ⟨-, hd, hcl, hv, -⟩ := id hc
  have hl1 := hv.1
  have hl := hv.2.1
  refine fp_Ok.of (r := 2) rfl (Nat.le_of_ble_eq_true rfl) rfl ?_
  unfold A_go
  by_cases hin : 0 ≤ m9 ∧ m9 ≤ vs.length
  · rw [if_pos hin]
    refine S.iload_n (pc' := 1) dX11_go_0 rfl rfl rfl ?_
    refine S.if_lt (pc' := 4) (tgt := 15) dX11_go_1 (by decide) rfl hn (fun h1 => ?_) (fun h1 => ?_)
    · exfalso; omega
    · refine S.iload_n (pc' := 5) dX11_go_4 rfl rfl rfl ?_
      refine S.aload_n (pc' := 6) dX11_go_5 rfl rfl rfl ?_
      refine S.getR (pc' := 9) dX11_go_6 rfl fX11_37 L_0 rf_0_5 ?_
      refine S.getI (pc' := 12) dX11_go_9 rfl fX11_205 (vs_lay vs27) ?_
      refine S.icmp_le (pc' := 15) (tgt := 17) dX11_go_12 (by decide) rfl hn (by unfold fp_rng; omega) (fun h12 => ?_) (fun h12 => ?_)
      · refine S.iconst (pc' := 18) dX11_go_17 rfl ?_
        refine S.istore_n (pc' := 19) (LL' := [_, _, _, _]) dX11_go_18 rfl (by decide) rfl rfl rfl ?_
        refine S.iconst (pc' := 20) dX11_go_19 rfl ?_
        refine S.istore_n (pc' := 21) (LL' := [_, _, _, _]) dX11_go_20 rfl (by decide) rfl rfl rfl ?_
        exact go_loop hin ho hc (m9.toNat + 1) 0 _ (by omega) (by omega) (by omega) (frP.refl _ _) hcl
      · exfalso; omega
  · rw [if_neg hin]
    refine S.iload_n (pc' := 1) dX11_go_0 rfl rfl rfl ?_
    refine S.if_lt (pc' := 4) (tgt := 15) dX11_go_1 (by decide) rfl hn (fun h1 => ?_) (fun h1 => ?_)
    · refine S.iconst (pc' := 16) dX11_go_15 rfl ?_
      refine S.iret dX11_go_16 rfl ?_
      exact ⟨rfl, hc, frC.refl _⟩
    · refine S.iload_n (pc' := 5) dX11_go_4 rfl rfl rfl ?_
      refine S.aload_n (pc' := 6) dX11_go_5 rfl rfl rfl ?_
      refine S.getR (pc' := 9) dX11_go_6 rfl fX11_37 L_0 rf_0_5 ?_
      refine S.getI (pc' := 12) dX11_go_9 rfl fX11_205 (vs_lay vs27) ?_
      refine S.icmp_le (pc' := 15) (tgt := 17) dX11_go_12 (by decide) rfl hn (by unfold fp_rng; omega) (fun h12 => ?_) (fun h12 => ?_)
      · exfalso; omega
      · refine S.iconst (pc' := 16) dX11_go_15 rfl ?_
        refine S.iret dX11_go_16 rfl ?_
        exact ⟨rfl, hc, frC.refl _⟩
theorem mshift_loop {m9 z0 : Int} {pg' : aPg} (hm : 0 ≤ m9 ∧ m9 ≤ vs.length) (ho : OK g pg' vs nt im sh) (hcs : MS M tp fl g pg' vs nt im sh tn) : ∀ (n : Nat) (k9 : Int) (N : fp_Mem), (4 * (vs.length : Int) - k9).toNat < n → 4 * m9 ≤ k9 → k9 ≤ 4 * vs.length → N = fp_upM M 178 (fun j : Nat => if 47 ≤ j ∧ (j : Int) < 47 + k9 - 4 * m9 then M 178 (j + 4 * m9.toNat) else M 178 j) →
    fp_S l G 5 kX12_go 52 [some (rV G 177), some (iV m9), some (iV z0), some (iV k9)] [] N (qI fun z O => z = z0 ∧ MS O tp fl g pg' (vs.drop m9.toNat) nt im sh tn ∧ frD M O) := by
  obtain ⟨-, hd, hcl, ⟨a1, a2, a3⟩, -⟩ := id hcs
  intro n
  induction n with
  | zero => intro k9 N h; omega
  | succ n ih =>
    intro k9 N h k0 k1 hN
    have e95 : N 178 95 = vs.length := by rw [hN, fp_upM_at, if_neg (by omega)]; exact a1
    have e95' : N 178 (95 : Int).toNat = vs.length := e95
    refine S.iload_n (pc' := 53) dX12_go_52 rfl rfl rfl ?_
    refine S.iconst (pc' := 54) dX12_go_53 rfl ?_
    refine S.aload_n (pc' := 55) dX12_go_54 rfl rfl rfl ?_
    refine S.callVe (pc' := 58) dX12_go_55 rfl cX12_225 (ok_X12_visits) rfl L_177 (by decide) rfl (Nat.le_of_ble_eq_true rfl) ?_
    refine S.imul (pc' := 59) dX12_go_58 rfl ?_
    refine S.icmp_ge (pc' := 62) (tgt := 90) dX12_go_59 (by decide) rfl (by unfold fp_rng; omega) (by unfold fp_rng; omega) (fun h59 => ?_) (fun h59 => ?_)
    · refine S.aload_n (pc' := 91) dX12_go_90 rfl rfl rfl ?_
      refine S.getR (pc' := 94) dX12_go_91 rfl fX12_7 L_177 rf_177_0 ?_
      refine S.bipush (pc' := 96) dX12_go_94 rfl (by decide) ?_
      refine S.dup2 (pc' := 97) dX12_go_96 rfl rfl rfl ?_
      refine S.iald (pc' := 98) dX12_go_97 rfl L_178 (by omega) (by omega) ?_
      refine S.iload_n (pc' := 99) dX12_go_98 rfl rfl rfl ?_
      refine S.isub (pc' := 100) dX12_go_99 rfl ?_
      refine S.iast (pc' := 101) dX12_go_100 rfl L_178 (by omega) (by omega) ?_
      refine S.iload_n (pc' := 102) dX12_go_101 rfl rfl rfl ?_
      refine S.iret dX12_go_102 rfl ?_
      have hk : k9 = 4 * vs.length := by omega
      refine ⟨rfl, hcs.vis ho (fun c hc => by rw [fp_up_ne hc, hN, fp_upM_ne hc]) (fun j hj => by rw [fp_up_at, fp_upf_ne (by show j ≠ 95; omega), hN, fp_upM_at, if_neg (by omega)]) ?_, fun c hc => by rw [fp_up_ne (by omega), hN, fp_upM_ne (by omega)]⟩
      unfold mvRow
      rw [fp_up_at, e95']
      rw [show (95 : Int).toNat = 95 from rfl, fp_upf_at, List.length_drop]
      refine ⟨by omega, by omega, fun i i0 i1 => ?_⟩
      rw [fp_dropD, fp_upf_ne (by omega), fp_upf_ne (by omega), fp_upf_ne (by omega), fp_upf_ne (by omega), hN, fp_upM_at]
      have q := a3 (m9 + i) (by omega) (by omega)
      rw [show (m9 + i).toNat = m9.toNat + i.toNat by omega] at q
      obtain ⟨q1, q2, q3, q4⟩ := q
      rw [if_pos (by omega), if_pos (by omega), if_pos (by omega), if_pos (by omega), ← q1, ← q2, ← q3, ← q4]
      exact ⟨by refine congrArg (M 178) ?_; omega, by refine congrArg (M 178) ?_; omega, by refine congrArg (M 178) ?_; omega, by refine congrArg (M 178) ?_; omega⟩
    · refine S.aload_n (pc' := 63) dX12_go_62 rfl rfl rfl ?_
      refine S.getR (pc' := 66) dX12_go_63 rfl fX12_7 L_177 rf_177_0 ?_
      refine S.bipush (pc' := 68) dX12_go_66 rfl (by decide) ?_
      refine S.iload_n (pc' := 69) dX12_go_68 rfl rfl rfl ?_
      refine S.iadd (pc' := 70) dX12_go_69 rfl ?_
      refine S.iconst (pc' := 71) dX12_go_70 rfl ?_
      refine S.iload_n (pc' := 72) dX12_go_71 rfl rfl rfl ?_
      refine S.imul (pc' := 73) dX12_go_72 rfl ?_
      refine S.isub (pc' := 74) dX12_go_73 rfl ?_
      refine S.aload_n (pc' := 75) dX12_go_74 rfl rfl rfl ?_
      refine S.getR (pc' := 78) dX12_go_75 rfl fX12_7 L_177 rf_177_0 ?_
      refine S.bipush (pc' := 80) dX12_go_78 rfl (by decide) ?_
      refine S.iload_n (pc' := 81) dX12_go_80 rfl rfl rfl ?_
      refine S.iadd (pc' := 82) dX12_go_81 rfl ?_
      refine S.iald (pc' := 83) dX12_go_82 rfl L_178 (by omega) (by omega) ?_
      refine S.iast (pc' := 84) dX12_go_83 rfl L_178 (by omega) (by omega) ?_
      refine S.iinc (pc' := 87) (LL' := [_, _, _, _]) dX12_go_84 rfl (by decide) rfl rfl rfl ?_
      refine S.goto (pc' := 52) dX12_go_87 (by decide) ?_
      refine ih _ _ (by omega) (by omega) (by omega) ?_
      rw [hN]
      simp only [fp_up_same, fp_upM_at, fp_upM_upM]
      refine congrArg (fp_upM _ 178) (funext fun j => ?_)
      dsimp only [fp_upf]
      (repeat' split) <;> first | (exfalso; omega) | (refine congrArg (M 178) ?_; omega)
theorem mgo_loop {m9 : Int} (hm : 0 ≤ m9 ∧ m9 ≤ vs.length) (ho : OK g pg vs nt im sh) (hcs : MS M tp fl g pg vs nt im sh tn) : ∀ (n : Nat) (i : Int) (N : fp_Mem), (m9 - i).toNat < n → 0 ≤ i → i ≤ m9 → frM M N 0 → mpIs N 0 g (aRun g pg vs i.toNat) →
    fp_S l G 5 kX12_go 20 [some (rV G 177), some (iV m9), some (iV (aVc g pg vs i.toNat)), some (iV i)] [] N (qI fun z O => z = aVc g pg vs m9.toNat ∧ MS O tp fl g (aRun g pg vs m9.toNat) (vs.drop m9.toNat) nt im sh tn ∧ frD M O) := by
  obtain ⟨-, hd, hcl, hv, -⟩ := id hcs
  have hg := ho.1
  have hP := ho.2.1
  have hvo := ho.2.2.1
  have hv0 : mvIs M vs := hv
  have hl := hv.2.1
  intro n
  induction n with
  | zero => intro i N h; omega
  | succ n ih =>
    intro i N h i0 i1 hf hc
    have es := aVc_succ (g := g) (pg := pg) (vs := vs) i0
    have er := aRun_succ (g := g) (pg := pg) (vs := vs) i0
    have hPi := aRun_ok hg hP hvo i.toNat
    have hv' : mvIs N vs := hv0.kept (fun j j0 j1 => hf.2 j (by omega))
    have hd' := hd.kept hf.1
    refine S.iload_n (pc' := 21) dX12_go_20 rfl rfl rfl ?_
    refine S.iload_n (pc' := 22) dX12_go_21 rfl rfl rfl ?_
    refine S.icmp_ge (pc' := 25) (tgt := 48) dX12_go_22 (by decide) rfl (by unfold fp_rng; omega) (by unfold fp_rng; omega) (fun h22 => ?_) (fun h22 => ?_)
    · refine S.iconst (pc' := 49) dX12_go_48 rfl ?_
      refine S.iload_n (pc' := 50) dX12_go_49 rfl rfl rfl ?_
      refine S.imul (pc' := 51) dX12_go_50 rfl ?_
      refine S.istore_n (pc' := 52) (LL' := [_, _, _, _]) dX12_go_51 rfl (by decide) rfl rfl rfl ?_
      have ei : i = m9 := by omega
      rw [ei] at hc hPi ⊢
      have hms := hcs.page ho.2.2.2.2.1 hg hf hc
      refine fp_S.weaken (mshift_loop (pg' := aRun g pg vs m9.toNat) hm ⟨hg, hPi, ho.2.2⟩ hms (4 * vs.length + 1) (4 * m9) N (by omega) (by omega) (by omega) ?_) ?_
      · rw [show (fun j : Nat => if 47 ≤ j ∧ (j : Int) < 47 + 4 * m9 - 4 * m9 then N 178 (j + 4 * m9.toNat) else N 178 j) = N 178 from funext fun j => by rw [if_neg (by omega)], fp_upM_self]
      · rintro r O ⟨z, hz, e1, e2, e3⟩
        exact ⟨z, hz, e1, e2, hf.d.trans e3⟩
    · refine S.iload_n (pc' := 26) dX12_go_25 rfl rfl rfl ?_
      refine S.aload_n (pc' := 27) dX12_go_26 rfl rfl rfl ?_
      refine S.iconst (pc' := 28) dX12_go_27 rfl ?_
      refine S.iload_n (pc' := 29) dX12_go_28 rfl rfl rfl ?_
      refine S.callVi (pc' := 32) dX12_go_29 rfl cX12_261 (rk_X12_happens (g := g) (pg := aRun g pg vs i.toNat) (vs := vs)) rfl L_177 (by decide) rfl (Nat.le_of_ble_eq_true rfl) (fun z29 M29 q29 => ?_)
      have h01 := aHapI_01 g (aRun g pg vs i.toNat) vs i
      obtain ⟨rfl, c1, f1⟩ := q29
      rw [← er] at c1
      refine S.if_eq (pc' := 35) (tgt := 39) dX12_go_32 (by decide) rfl (by unfold fp_rng; omega) (fun h32 => ?_) (fun h32 => ?_)
      · refine S.iconst (pc' := 40) dX12_go_39 rfl ?_
        refine S.iadd (pc' := 41) dX12_go_40 rfl ?_
        refine S.istore_n (pc' := 42) (LL' := [_, _, _, _]) dX12_go_41 rfl (by decide) rfl rfl rfl ?_
        refine S.iinc (pc' := 45) (LL' := [_, _, _, _]) dX12_go_42 rfl (by decide) rfl rfl rfl ?_
        refine S.goto (pc' := 20) dX12_go_45 (by decide) ?_
        first | (rw [if_neg h32] at es; rw [Int.add_zero, ← es]; exact ih _ _ (by omega) (by omega) (by omega) (hf.trans f1) c1) | (rw [if_pos h32] at es; rw [← es]; exact ih _ _ (by omega) (by omega) (by omega) (hf.trans f1) c1)
      · refine S.iconst (pc' := 36) dX12_go_35 rfl ?_
        refine S.goto (pc' := 40) dX12_go_36 (by decide) ?_
        refine S.iadd (pc' := 41) dX12_go_40 rfl ?_
        refine S.istore_n (pc' := 42) (LL' := [_, _, _, _]) dX12_go_41 rfl (by decide) rfl rfl rfl ?_
        refine S.iinc (pc' := 45) (LL' := [_, _, _, _]) dX12_go_42 rfl (by decide) rfl rfl rfl ?_
        refine S.goto (pc' := 20) dX12_go_45 (by decide) ?_
        first | (rw [if_neg h32] at es; rw [Int.add_zero, ← es]; exact ih _ _ (by omega) (by omega) (by omega) (hf.trans f1) c1) | (rw [if_pos h32] at es; rw [← es]; exact ih _ _ (by omega) (by omega) (by omega) (hf.trans f1) c1)
theorem mm_go {m9 : Int} (hc : MS M tp fl g pg vs nt im sh tn) (ho : OK g pg vs nt im sh) (hn : fp_rng m9) : fp_Ok l G 5 kX12_go [rV G 177, iV m9] M (qI fun z N => z = (A_go g pg vs m9).1 ∧ MS N tp fl g (A_go g pg vs m9).2.1 (A_go g pg vs m9).2.2 nt im sh tn ∧ frD M N) := by
  obtain ⟨-, hd, hcl, hv, -⟩ := id hc
  have hl1 := hv.1
  have hl := hv.2.1
  have hn' := hn
  unfold fp_rng at hn'
  refine fp_Ok.of (r := 2) rfl (Nat.le_of_ble_eq_true rfl) rfl ?_
  unfold A_go
  by_cases hin : 0 ≤ m9 ∧ m9 ≤ vs.length
  · rw [if_pos hin]
    refine S.iload_n (pc' := 1) dX12_go_0 rfl rfl rfl ?_
    refine S.i2l (pc' := 2) dX12_go_1 rfl hn ?_
    refine S.lconst (pc' := 3) (w := 0) dX12_go_2 rfl rfl ?_
    refine S.aload_n (pc' := 4) dX12_go_3 rfl rfl rfl ?_
    refine S.callVe (pc' := 7) dX12_go_4 rfl cX12_225 (ok_X12_visits) rfl L_177 (by decide) rfl (Nat.le_of_ble_eq_true rfl) ?_
    refine S.i2l (pc' := 8) dX12_go_7 rfl (by unfold fp_rng; omega) ?_
    refine S.callSi (pc' := 11) dX12_go_8 rfl cX12_94 (bk_X12_in) rfl (by decide) rfl (Nat.le_of_ble_eq_true rfl) (fun z8 M8 q8 => ?_)
    obtain ⟨b8, rfl⟩ := q8
    refine S.if_ne (pc' := 14) (tgt := 16) dX12_go_11 (by decide) rfl (by unfold fp_rng; omega) (fun h11 => ?_) (fun h11 => ?_)
    · refine S.iconst (pc' := 17) dX12_go_16 rfl ?_
      refine S.istore_n (pc' := 18) (LL' := [_, _, _, _]) dX12_go_17 rfl (by decide) rfl rfl rfl ?_
      refine S.iconst (pc' := 19) dX12_go_18 rfl ?_
      refine S.istore_n (pc' := 20) (LL' := [_, _, _, _]) dX12_go_19 rfl (by decide) rfl rfl rfl ?_
      exact mgo_loop hin ho hc (m9.toNat + 1) 0 _ (by omega) (by omega) (by omega) (frM.refl _ _) hcl
    · exfalso; omega
  · rw [if_neg hin]
    refine S.iload_n (pc' := 1) dX12_go_0 rfl rfl rfl ?_
    refine S.i2l (pc' := 2) dX12_go_1 rfl hn ?_
    refine S.lconst (pc' := 3) (w := 0) dX12_go_2 rfl rfl ?_
    refine S.aload_n (pc' := 4) dX12_go_3 rfl rfl rfl ?_
    refine S.callVe (pc' := 7) dX12_go_4 rfl cX12_225 (ok_X12_visits) rfl L_177 (by decide) rfl (Nat.le_of_ble_eq_true rfl) ?_
    refine S.i2l (pc' := 8) dX12_go_7 rfl (by unfold fp_rng; omega) ?_
    refine S.callSi (pc' := 11) dX12_go_8 rfl cX12_94 (bk_X12_in) rfl (by decide) rfl (Nat.le_of_ble_eq_true rfl) (fun z8 M8 q8 => ?_)
    obtain ⟨b8, rfl⟩ := q8
    refine S.if_ne (pc' := 14) (tgt := 16) dX12_go_11 (by decide) rfl (by unfold fp_rng; omega) (fun h11 => ?_) (fun h11 => ?_)
    · exfalso; omega
    · refine S.iconst (pc' := 15) dX12_go_14 rfl ?_
      refine S.iret dX12_go_15 rfl ?_
      exact ⟨rfl, hc, frD.refl _⟩
end GOE
end
