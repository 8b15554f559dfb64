/-! THE PUBLIC CALLS: fault, torn, end, cut, forget, noted -/
def A_end (tp : List Int) (n : Int) : Int × List Int := if 0 ≤ n ∧ n ≤ tp.length then (tp.length, tp.take n.toNat) else (-1, tp)
def A_cut (vs : List aVt) (n : Int) : Int × List aVt := if 0 ≤ n ∧ n ≤ vs.length then (vs.length, vs.take n.toNat) else (-1, vs)
def A_noted (g : aGd) (nt : List Int) (t : Int) : Int × List Int := if ¬ (0 ≤ t ∧ t < g.1) then (-1, nt) else if t ∈ nt then (-2, nt) else if 8 ≤ nt.length then (-3, nt) else (nt.length + 1, nt ++ [t])
theorem fp_find_mem {L : List Int} {t : Int} : fp_find (fun i => L.getD i.toNat 0) t L.length 0 = -4 ↔ t ∉ L := by
  constructor
  · intro h hm
    obtain ⟨i, hi, e⟩ := List.getElem_of_mem hm
    have h2 : ∀ (n : Nat) (k : Int), 0 ≤ k → k ≤ i → (i : Int) < k + n → fp_find (fun i => L.getD i.toNat 0) t n k ≠ -4 := by
      intro n
      induction n with
      | zero => intro k k0 k1 k2; omega
      | succ n ih =>
        intro k k0 k1 k2
        unfold fp_find
        split
        · omega
        · rename_i hne
          refine ih (k + 1) (by omega) ?_ (by omega)
          apply Decidable.byContradiction
          intro q
          have hk : k = i := by omega
          subst hk
          apply hne
          show L.getD (i : Int).toNat 0 = t
          rw [Int.toNat_natCast, List.getD_eq_getElem?_getD, List.getElem?_eq_getElem hi, e]
          rfl
    exact h2 L.length 0 (by omega) (by omega) (by omega) h
  · intro h
    refine fp_find_none _ _ (fun j j0 j1 q => h ?_)
    rw [← q]
    exact fp_getD_mem (by omega)
section PUF
variable {l : Launch} {G : fp_WG} {M N : fp_Mem} {tp tp' : List Int} {fl fl' : Int} {g : aGd} {pg : aPg} {vs vs' : List aVt} {nt nt' : List Int} {im : aIm} {sh : aSh} {tn tn' : Int}
theorem cc_fault (hc : CS M tp fl g pg vs nt im sh tn) : fp_Ok l G 0 kX11_fault [rV G 0] M (qE fl M) := by
  obtain ⟨⟨-, -, -, a4, -⟩, -⟩ := hc
  refine fp_Ok.of (r := 0) rfl (Nat.le_of_ble_eq_true rfl) rfl ?_
  refine S.aload_n (pc' := 1) dX11_fault_0 rfl rfl rfl ?_
  refine S.getR (pc' := 4) dX11_fault_1 rfl fX11_16 L_0 rf_0_2 ?_
  refine S.getI (pc' := 7) dX11_fault_4 rfl fX11_98 L_2 ?_
  refine S.iret dX11_fault_7 rfl ?_
  exact ⟨a4, rfl⟩
theorem mm_fault (hc : MS M tp fl g pg vs nt im sh tn) : fp_Ok l G 0 kX12_fault [rV G 177] M (qE fl M) := by
  obtain ⟨⟨-, -, -, a4, -⟩, -⟩ := hc
  refine fp_Ok.of (r := 0) rfl (Nat.le_of_ble_eq_true rfl) rfl ?_
  refine S.aload_n (pc' := 1) dX12_fault_0 rfl rfl rfl ?_
  refine S.getI (pc' := 4) dX12_fault_1 rfl fX12_190 L_177 ?_
  refine S.iret dX12_fault_4 rfl ?_
  exact ⟨a4, rfl⟩
theorem cc_torn (hc : CS M tp fl g pg vs nt im sh tn) : fp_Ok l G 0 kX11_torn [rV G 0] M (qE tn M) := by
  obtain ⟨⟨-, -, -, -, a5, -⟩, -⟩ := hc
  refine fp_Ok.of (r := 0) rfl (Nat.le_of_ble_eq_true rfl) rfl ?_
  refine S.aload_n (pc' := 1) dX11_torn_0 rfl rfl rfl ?_
  refine S.getI (pc' := 4) dX11_torn_1 rfl fX11_334 L_0 ?_
  refine S.iret dX11_torn_4 rfl ?_
  exact ⟨a5, rfl⟩
theorem mm_torn (hc : MS M tp fl g pg vs nt im sh tn) : fp_Ok l G 0 kX12_torn [rV G 177] M (qE tn M) := by
  obtain ⟨⟨-, -, -, -, a5⟩, -⟩ := hc
  refine fp_Ok.of (r := 0) rfl (Nat.le_of_ble_eq_true rfl) rfl ?_
  refine S.aload_n (pc' := 1) dX12_torn_0 rfl rfl rfl ?_
  refine S.getI (pc' := 4) dX12_torn_1 rfl fX12_330 L_177 ?_
  refine S.iret dX12_torn_4 rfl ?_
  exact ⟨a5, rfl⟩
theorem cc_end {n : Int} (hc : CS M tp fl g pg vs nt im sh tn) (hn : fp_rng n) : fp_Ok l G 0 kX11_end [rV G 0, iV n] M (qI fun z N => z = (A_end tp n).1 ∧ CS N (A_end tp n).2 fl g pg vs nt im sh tn ∧ frC M N) := by
  have hcs := hc
  obtain ⟨⟨a1, a2, a3, a4, a5, a6⟩, -⟩ := hc
  refine fp_Ok.of (r := 1) rfl (Nat.le_of_ble_eq_true rfl) rfl ?_
  unfold A_end
  by_cases hin : 0 ≤ n ∧ n ≤ tp.length
  · rw [if_pos hin]
    have hlt : (tp.take n.toNat).length = n.toNat := by rw [List.length_take]; omega
    refine S.iload_n (pc' := 1) dX11_end_0 rfl rfl rfl ?_
    refine S.if_lt (pc' := 4) (tgt := 12) dX11_end_1 (by decide) rfl hn (fun h1 => ?_) (fun h1 => ?_)
    · exfalso; omega
    · refine S.iload_n (pc' := 5) dX11_end_4 rfl rfl rfl ?_
      refine S.aload_n (pc' := 6) dX11_end_5 rfl rfl rfl ?_
      refine S.getI (pc' := 9) dX11_end_6 rfl fX11_90 L_0 ?_
      refine S.icmp_le (pc' := 12) (tgt := 14) dX11_end_9 (by decide) rfl hn (by unfold fp_rng; omega) (fun h9 => ?_) (fun h9 => ?_)
      · refine S.aload_n (pc' := 15) dX11_end_14 rfl rfl rfl ?_
        refine S.getI (pc' := 18) dX11_end_15 rfl fX11_90 L_0 ?_
        refine S.istore_n (pc' := 19) (LL' := [_, _, _]) dX11_end_18 rfl (by decide) rfl rfl rfl ?_
        refine S.aload_n (pc' := 20) dX11_end_19 rfl rfl rfl ?_
        refine S.iload_n (pc' := 21) dX11_end_20 rfl rfl rfl ?_
        refine S.putI (pc' := 24) dX11_end_21 rfl fX11_90 L_0 ?_
        refine S.iload_n (pc' := 25) dX11_end_24 rfl rfl rfl ?_
        refine S.iret dX11_end_25 rfl ?_
        refine ⟨a1, hcs.tap (fun a ha => fp_up_ne (by omega)) ?_, fun c hc => fp_up_ne (by omega)⟩
        unfold csA
        rw [fp_up_at, fp_up_ne (by decide), fp_up_ne (by decide), fp_upf_at, fp_upf_ne (by decide), hlt]
        refine ⟨by omega, by omega, fun i i0 i1 => ?_, a4, a5, a6⟩
        rw [fp_takeD _ _ _ _ (by omega)]
        exact a3 i i0 (by omega)
      · exfalso; omega
  · rw [if_neg hin]
    refine S.iload_n (pc' := 1) dX11_end_0 rfl rfl rfl ?_
    refine S.if_lt (pc' := 4) (tgt := 12) dX11_end_1 (by decide) rfl hn (fun h1 => ?_) (fun h1 => ?_)
    · refine S.iconst (pc' := 13) dX11_end_12 rfl ?_
      refine S.iret dX11_end_13 rfl ?_
      exact ⟨rfl, hcs, frC.refl _⟩
    · refine S.iload_n (pc' := 5) dX11_end_4 rfl rfl rfl ?_
      refine S.aload_n (pc' := 6) dX11_end_5 rfl rfl rfl ?_
      refine S.getI (pc' := 9) dX11_end_6 rfl fX11_90 L_0 ?_
      refine S.icmp_le (pc' := 12) (tgt := 14) dX11_end_9 (by decide) rfl hn (by unfold fp_rng; omega) (fun h9 => ?_) (fun h9 => ?_)
      · exfalso; omega
      · refine S.iconst (pc' := 13) dX11_end_12 rfl ?_
        refine S.iret dX11_end_13 rfl ?_
        exact ⟨rfl, hcs, frC.refl _⟩
theorem mm_end {n : Int} (hc : MS M tp fl g pg vs nt im sh tn) (hn : fp_rng n) : fp_Ok l G 1 kX12_end [rV G 177, iV n] M (qI fun z N => z = (A_end tp n).1 ∧ MS N (A_end tp n).2 fl g pg vs nt im sh tn ∧ frD M N) := by
  have hcs := hc
  obtain ⟨⟨a1, a2, a3, a4, a5⟩, -⟩ := hc
  have hn' := hn
  unfold fp_rng at hn'
  refine fp_Ok.of (r := 1) rfl (Nat.le_of_ble_eq_true rfl) rfl ?_
  unfold A_end
  by_cases hin : 0 ≤ n ∧ n ≤ tp.length
  · rw [if_pos hin]
    have hlt : (tp.take n.toNat).length = n.toNat := by rw [List.length_take]; omega
    refine S.iload_n (pc' := 1) dX12_end_0 rfl rfl rfl ?_
    refine S.i2l (pc' := 2) dX12_end_1 rfl hn ?_
    refine S.lconst (pc' := 3) (w := 0) dX12_end_2 rfl rfl ?_
    refine S.aload_n (pc' := 4) dX12_end_3 rfl rfl rfl ?_
    refine S.getI (pc' := 7) dX12_end_4 rfl fX12_91 L_177 ?_
    refine S.i2l (pc' := 8) dX12_end_7 rfl (by unfold fp_rng; omega) ?_
    refine S.callSi (pc' := 11) dX12_end_8 rfl cX12_94 (bk_X12_in) rfl (by decide) rfl (Nat.le_of_ble_eq_true rfl) (fun z8 M8 q8 => ?_)
    obtain ⟨b8, rfl⟩ := q8
    refine S.if_ne (pc' := 14) (tgt := 16) dX12_end_11 (by decide) rfl (by unfold fp_rng; omega) (fun h11 => ?_) (fun h11 => ?_)
    · refine S.aload_n (pc' := 17) dX12_end_16 rfl rfl rfl ?_
      refine S.getI (pc' := 20) dX12_end_17 rfl fX12_91 L_177 ?_
      refine S.istore_n (pc' := 21) (LL' := [_, _, _]) dX12_end_20 rfl (by decide) rfl rfl rfl ?_
      refine S.aload_n (pc' := 22) dX12_end_21 rfl rfl rfl ?_
      refine S.iload_n (pc' := 23) dX12_end_22 rfl rfl rfl ?_
      refine S.putI (pc' := 26) dX12_end_23 rfl fX12_91 L_177 ?_
      refine S.iload_n (pc' := 27) dX12_end_26 rfl rfl rfl ?_
      refine S.iret dX12_end_27 rfl ?_
      refine ⟨a1, hcs.tap (fun a ha hb => fp_up_ne ha) ⟨by rw [fp_up_at, fp_upf_ne (by decide)], by rw [fp_up_at, fp_upf_ne (by decide)], by rw [fp_up_at, fp_upf_ne (by decide)]⟩ ?_, fun c hc => fp_up_ne (by omega)⟩
      unfold msA
      rw [fp_up_at, fp_up_ne (by decide), fp_upf_at, fp_upf_ne (by decide), fp_upf_ne (by decide), hlt]
      refine ⟨by omega, by omega, fun i i0 i1 => ?_, a4, a5⟩
      rw [fp_takeD _ _ _ _ (by omega)]
      exact a3 i i0 (by omega)
    · exfalso; omega
  · rw [if_neg hin]
    refine S.iload_n (pc' := 1) dX12_end_0 rfl rfl rfl ?_
    refine S.i2l (pc' := 2) dX12_end_1 rfl hn ?_
    refine S.lconst (pc' := 3) (w := 0) dX12_end_2 rfl rfl ?_
    refine S.aload_n (pc' := 4) dX12_end_3 rfl rfl rfl ?_
    refine S.getI (pc' := 7) dX12_end_4 rfl fX12_91 L_177 ?_
    refine S.i2l (pc' := 8) dX12_end_7 rfl (by unfold fp_rng; omega) ?_
    refine S.callSi (pc' := 11) dX12_end_8 rfl cX12_94 (bk_X12_in) rfl (by decide) rfl (Nat.le_of_ble_eq_true rfl) (fun z8 M8 q8 => ?_)
    obtain ⟨b8, rfl⟩ := q8
    refine S.if_ne (pc' := 14) (tgt := 16) dX12_end_11 (by decide) rfl (by unfold fp_rng; omega) (fun h11 => ?_) (fun h11 => ?_)
    · exfalso; omega
    · refine S.iconst (pc' := 15) dX12_end_14 rfl ?_
      refine S.iret dX12_end_15 rfl ?_
      exact ⟨rfl, hcs, frD.refl _⟩
theorem cc_cut {n : Int} (hc : CS M tp fl g pg vs nt im sh tn) (hn : fp_rng n) : fp_Ok l G 0 kX11_cut [rV G 0, iV n] M (qI fun z N => z = (A_cut vs n).1 ∧ CS N tp fl g pg (A_cut vs n).2 nt im sh tn ∧ frC M N) := by
  have hcs := hc
  obtain ⟨-, -, -, ⟨a1, a2, a3⟩, -⟩ := hc
  refine fp_Ok.of (r := 1) rfl (Nat.le_of_ble_eq_true rfl) rfl ?_
  unfold A_cut
  by_cases hin : 0 ≤ n ∧ n ≤ vs.length
  · rw [if_pos hin]
    have hlt : (vs.take n.toNat).length = n.toNat := by rw [List.length_take]; omega
    refine S.iload_n (pc' := 1) dX11_cut_0 rfl rfl rfl ?_
    refine S.if_lt (pc' := 4) (tgt := 15) dX11_cut_1 (by decide) rfl hn (fun h1 => ?_) (fun h1 => ?_)
    · exfalso; omega
    · refine S.iload_n (pc' := 5) dX11_cut_4 rfl rfl rfl ?_
      refine S.aload_n (pc' := 6) dX11_cut_5 rfl rfl rfl ?_
      refine S.getR (pc' := 9) dX11_cut_6 rfl fX11_37 L_0 rf_0_5 ?_
      refine S.getI (pc' := 12) dX11_cut_9 rfl fX11_205 (vs_lay vs27) ?_
      refine S.icmp_le (pc' := 15) (tgt := 17) dX11_cut_12 (by decide) rfl hn (by unfold fp_rng; omega) (fun h12 => ?_) (fun h12 => ?_)
      · refine S.aload_n (pc' := 18) dX11_cut_17 rfl rfl rfl ?_
        refine S.getR (pc' := 21) dX11_cut_18 rfl fX11_37 L_0 rf_0_5 ?_
        refine S.getI (pc' := 24) dX11_cut_21 rfl fX11_205 (vs_lay vs27) ?_
        refine S.istore_n (pc' := 25) (LL' := [_, _, _]) dX11_cut_24 rfl (by decide) rfl rfl rfl ?_
        refine S.aload_n (pc' := 26) dX11_cut_25 rfl rfl rfl ?_
        refine S.getR (pc' := 29) dX11_cut_26 rfl fX11_37 L_0 rf_0_5 ?_
        refine S.iload_n (pc' := 30) dX11_cut_29 rfl rfl rfl ?_
        refine S.putI (pc' := 33) dX11_cut_30 rfl fX11_205 (vs_lay vs27) ?_
        refine S.iload_n (pc' := 34) dX11_cut_33 rfl rfl rfl ?_
        refine S.iret dX11_cut_34 rfl ?_
        refine ⟨a1, hcs.vis (fun a ha => fp_up_ne (by omega)) ?_, fun c hc => fp_up_ne (by omega)⟩
        unfold vsIs
        rw [fp_up_at, fp_up_ne (by decide), fp_up_ne (by decide), fp_up_ne (by decide), fp_up_ne (by decide), fp_upf_at, hlt]
        refine ⟨by omega, by omega, fun i i0 i1 => ?_⟩
        rw [fp_takeD _ _ _ _ (by omega)]
        exact a3 i i0 (by omega)
      · exfalso; omega
  · rw [if_neg hin]
    refine S.iload_n (pc' := 1) dX11_cut_0 rfl rfl rfl ?_
    refine S.if_lt (pc' := 4) (tgt := 15) dX11_cut_1 (by decide) rfl hn (fun h1 => ?_) (fun h1 => ?_)
    · refine S.iconst (pc' := 16) dX11_cut_15 rfl ?_
      refine S.iret dX11_cut_16 rfl ?_
      exact ⟨rfl, hcs, frC.refl _⟩
    · refine S.iload_n (pc' := 5) dX11_cut_4 rfl rfl rfl ?_
      refine S.aload_n (pc' := 6) dX11_cut_5 rfl rfl rfl ?_
      refine S.getR (pc' := 9) dX11_cut_6 rfl fX11_37 L_0 rf_0_5 ?_
      refine S.getI (pc' := 12) dX11_cut_9 rfl fX11_205 (vs_lay vs27) ?_
      refine S.icmp_le (pc' := 15) (tgt := 17) dX11_cut_12 (by decide) rfl hn (by unfold fp_rng; omega) (fun h12 => ?_) (fun h12 => ?_)
      · exfalso; omega
      · refine S.iconst (pc' := 16) dX11_cut_15 rfl ?_
        refine S.iret dX11_cut_16 rfl ?_
        exact ⟨rfl, hcs, frC.refl _⟩
theorem mm_cut {n : Int} (hc : MS M tp fl g pg vs nt im sh tn) (ho : OK g pg vs nt im sh) (hn : fp_rng n) : fp_Ok l G 1 kX12_cut [rV G 177, iV n] M (qI fun z N => z = (A_cut vs n).1 ∧ MS N tp fl g pg (A_cut vs n).2 nt im sh tn ∧ frD M N) := by
  have hcs := hc
  obtain ⟨-, -, -, ⟨a1, a2, a3⟩, -⟩ := hc
  have hn' := hn
  unfold fp_rng at hn'
  refine fp_Ok.of (r := 1) rfl (Nat.le_of_ble_eq_true rfl) rfl ?_
  unfold A_cut
  by_cases hin : 0 ≤ n ∧ n ≤ vs.length
  · rw [if_pos hin]
    have hlt : (vs.take n.toNat).length = n.toNat := by rw [List.length_take]; omega
    refine S.iload_n (pc' := 1) dX12_cut_0 rfl rfl rfl ?_
    refine S.i2l (pc' := 2) dX12_cut_1 rfl hn ?_
    refine S.lconst (pc' := 3) (w := 0) dX12_cut_2 rfl rfl ?_
    refine S.aload_n (pc' := 4) dX12_cut_3 rfl rfl rfl ?_
    refine S.callVe (pc' := 7) dX12_cut_4 rfl cX12_225 (ok_X12_visits) rfl L_177 (by decide) rfl (Nat.le_of_ble_eq_true rfl) ?_
    refine S.i2l (pc' := 8) dX12_cut_7 rfl (by unfold fp_rng; omega) ?_
    refine S.callSi (pc' := 11) dX12_cut_8 rfl cX12_94 (bk_X12_in) rfl (by decide) rfl (Nat.le_of_ble_eq_true rfl) (fun z8 M8 q8 => ?_)
    obtain ⟨b8, rfl⟩ := q8
    refine S.if_ne (pc' := 14) (tgt := 16) dX12_cut_11 (by decide) rfl (by unfold fp_rng; omega) (fun h11 => ?_) (fun h11 => ?_)
    · refine S.aload_n (pc' := 17) dX12_cut_16 rfl rfl rfl ?_
      refine S.callVe (pc' := 20) dX12_cut_17 rfl cX12_225 (ok_X12_visits) rfl L_177 (by decide) rfl (Nat.le_of_ble_eq_true rfl) ?_
      refine S.istore_n (pc' := 21) (LL' := [_, _, _]) dX12_cut_20 rfl (by decide) rfl rfl rfl ?_
      refine S.aload_n (pc' := 22) dX12_cut_21 rfl rfl rfl ?_
      refine S.getR (pc' := 25) dX12_cut_22 rfl fX12_7 L_177 rf_177_0 ?_
      refine S.bipush (pc' := 27) dX12_cut_25 rfl (by decide) ?_
      refine S.iload_n (pc' := 28) dX12_cut_27 rfl rfl rfl ?_
      refine S.iast (pc' := 29) dX12_cut_28 rfl L_178 (by omega) (by omega) ?_
      refine S.iload_n (pc' := 30) dX12_cut_29 rfl rfl rfl ?_
      refine S.iret dX12_cut_30 rfl ?_
      refine ⟨a1, hcs.vis ho (fun a ha => fp_up_ne ha) (fun j hj => by rw [fp_up_at, fp_upf_ne (by show j ≠ 95; omega)]) ?_, fun c hc => fp_up_ne (by omega)⟩
      unfold mvRow
      rw [fp_up_at]
      dsimp only
      refine ⟨by rw [show (95 : Int).toNat = 95 from rfl, fp_upf_at, hlt]; omega, by omega, fun i i0 i1 => ?_⟩
      rw [fp_takeD _ _ _ _ (by omega), fp_upf_ne (by show _ ≠ 95; omega), fp_upf_ne (by show _ ≠ 95; omega), fp_upf_ne (by show _ ≠ 95; omega), fp_upf_ne (by show _ ≠ 95; omega)]
      exact a3 i i0 (by omega)
    · exfalso; omega
  · rw [if_neg hin]
    refine S.iload_n (pc' := 1) dX12_cut_0 rfl rfl rfl ?_
    refine S.i2l (pc' := 2) dX12_cut_1 rfl hn ?_
    refine S.lconst (pc' := 3) (w := 0) dX12_cut_2 rfl rfl ?_
    refine S.aload_n (pc' := 4) dX12_cut_3 rfl rfl rfl ?_
    refine S.callVe (pc' := 7) dX12_cut_4 rfl cX12_225 (ok_X12_visits) rfl L_177 (by decide) rfl (Nat.le_of_ble_eq_true rfl) ?_
    refine S.i2l (pc' := 8) dX12_cut_7 rfl (by unfold fp_rng; omega) ?_
    refine S.callSi (pc' := 11) dX12_cut_8 rfl cX12_94 (bk_X12_in) rfl (by decide) rfl (Nat.le_of_ble_eq_true rfl) (fun z8 M8 q8 => ?_)
    obtain ⟨b8, rfl⟩ := q8
    refine S.if_ne (pc' := 14) (tgt := 16) dX12_cut_11 (by decide) rfl (by unfold fp_rng; omega) (fun h11 => ?_) (fun h11 => ?_)
    · exfalso; omega
    · refine S.iconst (pc' := 15) dX12_cut_14 rfl ?_
      refine S.iret dX12_cut_15 rfl ?_
      exact ⟨rfl, hcs, frD.refl _⟩
theorem cc_forget (hc : CS M tp fl g pg vs nt im sh tn) : fp_Ok l G 0 kX11_forget [rV G 0] M (qI fun z N => z = nt.length ∧ CS N tp fl g pg vs [] im sh tn ∧ frC M N) := by
  have hcs := hc
  obtain ⟨-, -, -, -, ⟨a1, a2, a3⟩, -⟩ := hc
  refine fp_Ok.of (r := 1) rfl (Nat.le_of_ble_eq_true rfl) rfl ?_
  refine S.aload_n (pc' := 1) dX11_forget_0 rfl rfl rfl ?_
  refine S.getR (pc' := 4) dX11_forget_1 rfl fX11_44 L_0 rf_0_6 ?_
  refine S.getI (pc' := 7) dX11_forget_4 rfl fX11_119 (nt_lay nt32) ?_
  refine S.istore_n (pc' := 8) (LL' := [_, _]) dX11_forget_7 rfl (by decide) rfl rfl rfl ?_
  refine S.aload_n (pc' := 9) dX11_forget_8 rfl rfl rfl ?_
  refine S.getR (pc' := 12) dX11_forget_9 rfl fX11_44 L_0 rf_0_6 ?_
  refine S.iconst (pc' := 13) dX11_forget_12 rfl ?_
  refine S.putI (pc' := 16) dX11_forget_13 rfl fX11_119 (nt_lay nt32) ?_
  refine S.iload_n (pc' := 17) dX11_forget_16 rfl rfl rfl ?_
  refine S.iret dX11_forget_17 rfl ?_
  refine ⟨a1, hcs.nts (fun a ha => fp_up_ne (by omega)) ⟨by rw [fp_up_at, fp_upf_at]; rfl, by decide, fun i i0 i1 => ?_⟩, fun c hc => fp_up_ne (by omega)⟩
  simp at i1
  omega
theorem mm_forget (hc : MS M tp fl g pg vs nt im sh tn) (ho : OK g pg vs nt im sh) : fp_Ok l G 0 kX12_forget [rV G 177] M (qI fun z N => z = nt.length ∧ MS N tp fl g pg vs [] im sh tn ∧ frD M N) := by
  have hcs := hc
  obtain ⟨-, -, -, -, ⟨a1, a2, a3⟩, -⟩ := hc
  refine fp_Ok.of (r := 1) rfl (Nat.le_of_ble_eq_true rfl) rfl ?_
  refine S.aload_n (pc' := 1) dX12_forget_0 rfl rfl rfl ?_
  refine S.getR (pc' := 4) dX12_forget_1 rfl fX12_7 L_177 rf_177_0 ?_
  refine S.bipush (pc' := 6) dX12_forget_4 rfl (by decide) ?_
  refine S.iald (pc' := 7) dX12_forget_6 rfl L_178 (by omega) (by omega) ?_
  refine S.istore_n (pc' := 8) (LL' := [_, _]) dX12_forget_7 rfl (by decide) rfl rfl rfl ?_
  refine S.aload_n (pc' := 9) dX12_forget_8 rfl rfl rfl ?_
  refine S.getR (pc' := 12) dX12_forget_9 rfl fX12_7 L_177 rf_177_0 ?_
  refine S.bipush (pc' := 14) dX12_forget_12 rfl (by decide) ?_
  refine S.iconst (pc' := 15) dX12_forget_14 rfl ?_
  refine S.iast (pc' := 16) dX12_forget_15 rfl L_178 (by omega) (by omega) ?_
  refine S.iload_n (pc' := 17) dX12_forget_16 rfl rfl rfl ?_
  refine S.iret dX12_forget_17 rfl ?_
  refine ⟨a1, hcs.nts ho (fun a ha => fp_up_ne ha) (fun j hj => by rw [fp_up_at, fp_upf_ne (by show j ≠ 104; omega)]) ⟨by rw [fp_up_at, show (104 : Int).toNat = 104 from rfl, fp_upf_at]; rfl, by decide, fun i i0 i1 => ?_⟩, fun c hc => fp_up_ne (by omega)⟩
  simp at i1
  omega
end PUF
