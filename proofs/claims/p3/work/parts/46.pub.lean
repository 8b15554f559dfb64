/-! NOTES; THE PUBLIC CALLS: noted, count -/
section PUG
variable {l : Launch} {G : fp_WG} {M N : fp_Mem} {tp tp' : List Int} {fl fl' : Int} {g : aGd} {pg : aPg} {vs vs' : List aVt} {nt nt' : List Int} {im : aIm} {sh : aSh} {tn tn' : Int} {k : Nat}
theorem nspot_loop {t : Int} (hk : fp_isnt k) (hn : ntIs M k nt) (hno : ntOk g nt) (hg : gOk g) (ht : fp_rng t) : ∀ (n : Nat) (i : Int), ((nt.length : Int) - i).toNat = n → 0 ≤ i → i ≤ nt.length →
    fp_S l G 0 kX3_spotOf 2 [some (rV G k), some (iV t), some (iV i)] [] M (qE (fp_find (fun i => nt.getD i.toNat 0) t n i) M) := by
  obtain ⟨a1, a2, a3⟩ := hn
  have hg1 := hg.1
  intro n
  induction n with
  | zero =>
    intro i h h0 h1
    refine S.iload_n (pc' := 3) dX3_spotOf_2 rfl rfl rfl ?_
    refine S.aload_n (pc' := 4) dX3_spotOf_3 rfl rfl rfl ?_
    refine S.getI (pc' := 7) dX3_spotOf_4 rfl fX3_15 (nt_lay hk) ?_
    refine S.icmp_ge (pc' := 10) (tgt := 28) dX3_spotOf_7 (by decide) rfl (by unfold fp_rng; omega) (by unfold fp_rng; omega) (fun h7 => ?_) (fun h7 => ?_)
    · refine S.bipush (pc' := 30) dX3_spotOf_28 rfl (by decide) ?_
      refine S.iret dX3_spotOf_30 rfl ?_
      exact ⟨rfl, rfl⟩
    · exfalso; omega
  | succ n ih =>
    intro i h h0 h1
    unfold fp_find
    have q := a3 i h0 (by omega)
    have q2 := hno.1 _ (fp_getD_mem (L := nt) (i := i.toNat) (by omega))
    refine S.iload_n (pc' := 3) dX3_spotOf_2 rfl rfl rfl ?_
    refine S.aload_n (pc' := 4) dX3_spotOf_3 rfl rfl rfl ?_
    refine S.getI (pc' := 7) dX3_spotOf_4 rfl fX3_15 (nt_lay hk) ?_
    refine S.icmp_ge (pc' := 10) (tgt := 28) dX3_spotOf_7 (by decide) rfl (by unfold fp_rng; omega) (by unfold fp_rng; omega) (fun h7 => ?_) (fun h7 => ?_)
    · refine S.bipush (pc' := 30) dX3_spotOf_28 rfl (by decide) ?_
      refine S.iret dX3_spotOf_30 rfl ?_
      exfalso; omega
    · refine S.aload_n (pc' := 11) dX3_spotOf_10 rfl rfl rfl ?_
      refine S.getR (pc' := 14) dX3_spotOf_11 rfl fX3_9 (nt_lay hk) (nt_r1 hk) ?_
      refine S.iload_n (pc' := 15) dX3_spotOf_14 rfl rfl rfl ?_
      refine S.iald (pc' := 16) dX3_spotOf_15 rfl (nt_a1 hk) (by omega) (by omega) ?_
      refine S.iload_n (pc' := 17) dX3_spotOf_16 rfl rfl rfl ?_
      refine S.icmp_ne (pc' := 20) (tgt := 22) dX3_spotOf_17 (by decide) rfl (by unfold fp_rng; omega) ht (fun h17 => ?_) (fun h17 => ?_)
      · refine S.iinc (pc' := 25) (LL' := [_, _, _]) dX3_spotOf_22 rfl (by decide) rfl rfl rfl ?_
        refine S.goto (pc' := 2) dX3_spotOf_25 (by decide) ?_
        rw [q] at h17; rw [if_neg h17]
        exact ih _ (by omega) (by omega) (by omega)
      · refine S.iload_n (pc' := 21) dX3_spotOf_20 rfl rfl rfl ?_
        refine S.iret dX3_spotOf_21 rfl ?_
        exact ⟨by rw [q] at h17; rw [if_pos h17], rfl⟩
theorem rk_X3_spotOf {t : Int} (hk : fp_isnt k) (hn : ntIs M k nt := by assumption) (hno : ntOk g nt := by assumption) (hg : gOk g := by assumption) (ht : fp_rng t := by first | assumption | (unfold fp_rng; omega)) : fp_Ok l G 0 kX3_spotOf [rV G k, iV t] M (qE (fp_find (fun i => nt.getD i.toNat 0) t nt.length 0) M) := by
  refine fp_Ok.of (r := 1) rfl (Nat.le_of_ble_eq_true rfl) rfl ?_
  refine S.iconst (pc' := 1) dX3_spotOf_0 rfl ?_
  refine S.istore_n (pc' := 2) (LL' := [_, _, _]) dX3_spotOf_1 rfl (by decide) rfl rfl rfl ?_
  exact nspot_loop hk hn hno hg ht _ 0 (by omega) (by omega) (by omega)
theorem ntIs.app {t : Int} (hn : ntIs M k nt) (h8 : nt.length < 8) (e0 : N k = fp_upf (M k) 0 (nt.length + 1)) (e1 : N (k + 1) = fp_upf (M (k + 1)) nt.length t) : ntIs N k (nt ++ [t]) := by
  obtain ⟨a1, a2, a3⟩ := hn
  unfold ntIs
  rw [e0, e1, fp_upf_at, List.length_append]
  refine ⟨by simp, by simp; omega, fun i i0 i1 => ?_⟩
  simp at i1
  rw [fp_appD]
  by_cases h : i < nt.length
  · rw [fp_upf_ne (by omega), if_pos (by omega)]; exact a3 i i0 h
  · rw [if_neg (by omega), if_pos (by omega), show i.toNat = nt.length by omega, fp_upf_at]
theorem rk_X3_add {t : Int} (hk : fp_isnt k) (hn : ntIs M k nt := by assumption) : fp_Ok l G 0 kX3_add [rV G k, iV t] M (qI fun z N => z = (if 8 ≤ nt.length then 0 else 1) ∧ ntIs N k (if 8 ≤ nt.length then nt else nt ++ [t]) ∧ ∀ a, (a < k ∨ k + 1 < a) → N a = M a) := by
  have hn' := hn
  obtain ⟨a1, a2, a3⟩ := hn
  refine fp_Ok.of (r := 0) rfl (Nat.le_of_ble_eq_true rfl) rfl ?_
  by_cases h8 : 8 ≤ nt.length
  · rw [if_pos h8, if_pos h8]
    refine S.aload_n (pc' := 1) dX3_add_0 rfl rfl rfl ?_
    refine S.getI (pc' := 4) dX3_add_1 rfl fX3_15 (nt_lay hk) ?_
    refine S.bipush (pc' := 6) dX3_add_4 rfl (by decide) ?_
    refine S.icmp_lt (pc' := 9) (tgt := 11) dX3_add_6 (by decide) rfl (by unfold fp_rng; omega) (by unfold fp_rng; omega) (fun h6 => ?_) (fun h6 => ?_)
    · exfalso; omega
    · refine S.iconst (pc' := 10) dX3_add_9 rfl ?_
      refine S.zret dX3_add_10 rfl (by first | exact Or.inl rfl | exact Or.inr rfl | omega) ?_
      exact ⟨rfl, hn', fun a ha => rfl⟩
  · rw [if_neg h8, if_neg h8]
    have ne1 : k + 1 ≠ k := by omega
    refine S.aload_n (pc' := 1) dX3_add_0 rfl rfl rfl ?_
    refine S.getI (pc' := 4) dX3_add_1 rfl fX3_15 (nt_lay hk) ?_
    refine S.bipush (pc' := 6) dX3_add_4 rfl (by decide) ?_
    refine S.icmp_lt (pc' := 9) (tgt := 11) dX3_add_6 (by decide) rfl (by unfold fp_rng; omega) (by unfold fp_rng; omega) (fun h6 => ?_) (fun h6 => ?_)
    · refine S.aload_n (pc' := 12) dX3_add_11 rfl rfl rfl ?_
      refine S.getR (pc' := 15) dX3_add_12 rfl fX3_9 (nt_lay hk) (nt_r1 hk) ?_
      refine S.aload_n (pc' := 16) dX3_add_15 rfl rfl rfl ?_
      refine S.getI (pc' := 19) dX3_add_16 rfl fX3_15 (nt_lay hk) ?_
      refine S.iload_n (pc' := 20) dX3_add_19 rfl rfl rfl ?_
      rw [a1]
      refine S.iast (pc' := 21) dX3_add_20 rfl (nt_a1 hk) (by omega) (by omega) ?_
      refine S.aload_n (pc' := 22) dX3_add_21 rfl rfl rfl ?_
      refine S.dup (pc' := 23) dX3_add_22 rfl rfl ?_
      refine S.getI (pc' := 26) dX3_add_23 rfl fX3_15 (nt_lay hk) ?_
      refine S.iconst (pc' := 27) dX3_add_26 rfl ?_
      rw [fp_up_ne (show k ≠ k + 1 by omega), a1]
      refine S.iadd (pc' := 28) dX3_add_27 rfl ?_
      refine S.putI (pc' := 31) dX3_add_28 rfl fX3_15 (nt_lay hk) ?_
      refine S.iconst (pc' := 32) dX3_add_31 rfl ?_
      refine S.zret dX3_add_32 rfl (by first | exact Or.inl rfl | exact Or.inr rfl | omega) ?_
      refine ⟨rfl, hn'.app (by omega) ?_ ?_, fun a ha => by rw [fp_up_ne (by omega), fp_up_ne (by omega)]⟩
      · rw [fp_up_at, fp_up_ne (show k ≠ k + 1 by omega)]
      · rw [fp_up_ne ne1, fp_up_at, Int.toNat_natCast]
    · exfalso; omega
theorem cc_noted {t : Int} (hc : CS M tp fl g pg vs nt im sh tn) (ho : OK g pg vs nt im sh) (ht : fp_rng t) : fp_Ok l G 1 kX11_noted [rV G 0, iV t] M (qI fun z N => z = (A_noted g nt t).1 ∧ CS N tp fl g pg vs (A_noted g nt t).2 im sh tn ∧ frC M N) := by
  have hcs := hc
  obtain ⟨-, hd, -, -, hn, -⟩ := hc
  obtain ⟨hg, hP, -, hno, -⟩ := ho
  have hl := hn.2.1
  have hfi := fp_find_in (f := fun i => nt.getD i.toNat 0) (t := t) nt.length 0
  have hfm := fp_find_mem (L := nt) (t := t)
  refine fp_Ok.of (r := 0) rfl (Nat.le_of_ble_eq_true rfl) rfl ?_
  unfold A_noted
  by_cases hin : 0 ≤ t ∧ t < g.1
  · rw [if_neg (fun q => q hin)]
    by_cases hm : t ∈ nt
    · rw [if_pos hm]
      have hne : fp_find (fun i => nt.getD i.toNat 0) t nt.length 0 ≠ -4 := fun q => hfm.mp q hm
      refine S.aload_n (pc' := 1) dX11_noted_0 rfl rfl rfl ?_
      refine S.getR (pc' := 4) dX11_noted_1 rfl fX11_23 L_0 rf_0_3 ?_
      refine S.iload_n (pc' := 5) dX11_noted_4 rfl rfl rfl ?_
      refine S.callVi (pc' := 8) dX11_noted_5 rfl cX11_126 (bk_X1_hasThing gd18) rfl (gd_lay gd18) (by decide) rfl (Nat.le_of_ble_eq_true rfl) (fun z5 M5 q5 => ?_)
      obtain ⟨b5, rfl⟩ := q5
      refine S.if_ne (pc' := 11) (tgt := 13) dX11_noted_8 (by decide) rfl (by unfold fp_rng; omega) (fun h8 => ?_) (fun h8 => ?_)
      · refine S.aload_n (pc' := 14) dX11_noted_13 rfl rfl rfl ?_
        refine S.getR (pc' := 17) dX11_noted_14 rfl fX11_44 L_0 rf_0_6 ?_
        refine S.iload_n (pc' := 18) dX11_noted_17 rfl rfl rfl ?_
        refine S.callVe (pc' := 21) dX11_noted_18 rfl cX11_281 (rk_X3_spotOf (g := g) nt32) rfl (nt_lay nt32) (by decide) rfl (Nat.le_of_ble_eq_true rfl) ?_
        refine S.bipush (pc' := 23) dX11_noted_21 rfl (by decide) ?_
        refine S.icmp_eq (pc' := 26) (tgt := 29) dX11_noted_23 (by decide) rfl (by unfold fp_rng; omega) (by unfold fp_rng; omega) (fun h23 => ?_) (fun h23 => ?_)
        · exfalso; omega
        · refine S.bipush (pc' := 28) dX11_noted_26 rfl (by decide) ?_
          refine S.iret dX11_noted_28 rfl ?_
          exact ⟨rfl, hcs, frC.refl _⟩
      · exfalso; omega
    · rw [if_neg hm]
      have he : fp_find (fun i => nt.getD i.toNat 0) t nt.length 0 = -4 := hfm.mpr hm
      by_cases l8 : 8 ≤ nt.length
      · rw [if_pos l8]
        refine S.aload_n (pc' := 1) dX11_noted_0 rfl rfl rfl ?_
        refine S.getR (pc' := 4) dX11_noted_1 rfl fX11_23 L_0 rf_0_3 ?_
        refine S.iload_n (pc' := 5) dX11_noted_4 rfl rfl rfl ?_
        refine S.callVi (pc' := 8) dX11_noted_5 rfl cX11_126 (bk_X1_hasThing gd18) rfl (gd_lay gd18) (by decide) rfl (Nat.le_of_ble_eq_true rfl) (fun z5 M5 q5 => ?_)
        obtain ⟨b5, rfl⟩ := q5
        refine S.if_ne (pc' := 11) (tgt := 13) dX11_noted_8 (by decide) rfl (by unfold fp_rng; omega) (fun h8 => ?_) (fun h8 => ?_)
        · refine S.aload_n (pc' := 14) dX11_noted_13 rfl rfl rfl ?_
          refine S.getR (pc' := 17) dX11_noted_14 rfl fX11_44 L_0 rf_0_6 ?_
          refine S.iload_n (pc' := 18) dX11_noted_17 rfl rfl rfl ?_
          refine S.callVe (pc' := 21) dX11_noted_18 rfl cX11_281 (rk_X3_spotOf (g := g) nt32) rfl (nt_lay nt32) (by decide) rfl (Nat.le_of_ble_eq_true rfl) ?_
          refine S.bipush (pc' := 23) dX11_noted_21 rfl (by decide) ?_
          refine S.icmp_eq (pc' := 26) (tgt := 29) dX11_noted_23 (by decide) rfl (by unfold fp_rng; omega) (by unfold fp_rng; omega) (fun h23 => ?_) (fun h23 => ?_)
          · refine S.aload_n (pc' := 30) dX11_noted_29 rfl rfl rfl ?_
            refine S.getR (pc' := 33) dX11_noted_30 rfl fX11_44 L_0 rf_0_6 ?_
            refine S.iload_n (pc' := 34) dX11_noted_33 rfl rfl rfl ?_
            refine S.callVi (pc' := 37) dX11_noted_34 rfl cX11_282 (rk_X3_add nt32 hn) rfl (nt_lay nt32) (by decide) rfl (Nat.le_of_ble_eq_true rfl) (fun z34 M34 q34 => ?_)
            rw [if_pos l8, if_pos l8] at q34
            obtain ⟨z1, c1, f1⟩ := q34
            refine S.if_eq (pc' := 40) (tgt := 50) dX11_noted_37 (by decide) rfl (by unfold fp_rng; omega) (fun h37 => ?_) (fun h37 => ?_)
            · refine S.bipush (pc' := 52) dX11_noted_50 rfl (by decide) ?_
              refine S.iret dX11_noted_52 rfl ?_
              exact ⟨rfl, hcs.nts (fun a ha => f1 a (by omega)) c1, fun c hc => f1 c (by omega)⟩
            · exfalso; omega
          · exfalso; omega
        · exfalso; omega
      · rw [if_neg l8]
        refine S.aload_n (pc' := 1) dX11_noted_0 rfl rfl rfl ?_
        refine S.getR (pc' := 4) dX11_noted_1 rfl fX11_23 L_0 rf_0_3 ?_
        refine S.iload_n (pc' := 5) dX11_noted_4 rfl rfl rfl ?_
        refine S.callVi (pc' := 8) dX11_noted_5 rfl cX11_126 (bk_X1_hasThing gd18) rfl (gd_lay gd18) (by decide) rfl (Nat.le_of_ble_eq_true rfl) (fun z5 M5 q5 => ?_)
        obtain ⟨b5, rfl⟩ := q5
        refine S.if_ne (pc' := 11) (tgt := 13) dX11_noted_8 (by decide) rfl (by unfold fp_rng; omega) (fun h8 => ?_) (fun h8 => ?_)
        · refine S.aload_n (pc' := 14) dX11_noted_13 rfl rfl rfl ?_
          refine S.getR (pc' := 17) dX11_noted_14 rfl fX11_44 L_0 rf_0_6 ?_
          refine S.iload_n (pc' := 18) dX11_noted_17 rfl rfl rfl ?_
          refine S.callVe (pc' := 21) dX11_noted_18 rfl cX11_281 (rk_X3_spotOf (g := g) nt32) rfl (nt_lay nt32) (by decide) rfl (Nat.le_of_ble_eq_true rfl) ?_
          refine S.bipush (pc' := 23) dX11_noted_21 rfl (by decide) ?_
          refine S.icmp_eq (pc' := 26) (tgt := 29) dX11_noted_23 (by decide) rfl (by unfold fp_rng; omega) (by unfold fp_rng; omega) (fun h23 => ?_) (fun h23 => ?_)
          · refine S.aload_n (pc' := 30) dX11_noted_29 rfl rfl rfl ?_
            refine S.getR (pc' := 33) dX11_noted_30 rfl fX11_44 L_0 rf_0_6 ?_
            refine S.iload_n (pc' := 34) dX11_noted_33 rfl rfl rfl ?_
            refine S.callVi (pc' := 37) dX11_noted_34 rfl cX11_282 (rk_X3_add nt32 hn) rfl (nt_lay nt32) (by decide) rfl (Nat.le_of_ble_eq_true rfl) (fun z34 M34 q34 => ?_)
            rw [if_neg l8, if_neg l8] at q34
            obtain ⟨z1, c1, f1⟩ := q34
            have n4 := c1.1
            refine S.if_eq (pc' := 40) (tgt := 50) dX11_noted_37 (by decide) rfl (by unfold fp_rng; omega) (fun h37 => ?_) (fun h37 => ?_)
            · exfalso; omega
            · refine S.aload_n (pc' := 41) dX11_noted_40 rfl rfl rfl ?_
              refine S.getR (pc' := 44) dX11_noted_41 rfl fX11_44 L_0 rf_0_6 ?_
              refine S.getI (pc' := 47) dX11_noted_44 rfl fX11_119 (nt_lay nt32) ?_
              refine S.goto (pc' := 52) dX11_noted_47 (by decide) ?_
              refine S.iret dX11_noted_52 rfl ?_
              exact ⟨by rw [n4]; simp, hcs.nts (fun a ha => f1 a (by omega)) c1, fun c hc => f1 c (by omega)⟩
          · exfalso; omega
        · exfalso; omega
  · rw [if_pos hin]
    refine S.aload_n (pc' := 1) dX11_noted_0 rfl rfl rfl ?_
    refine S.getR (pc' := 4) dX11_noted_1 rfl fX11_23 L_0 rf_0_3 ?_
    refine S.iload_n (pc' := 5) dX11_noted_4 rfl rfl rfl ?_
    refine S.callVi (pc' := 8) dX11_noted_5 rfl cX11_126 (bk_X1_hasThing gd18) rfl (gd_lay gd18) (by decide) rfl (Nat.le_of_ble_eq_true rfl) (fun z5 M5 q5 => ?_)
    obtain ⟨b5, rfl⟩ := q5
    refine S.if_ne (pc' := 11) (tgt := 13) dX11_noted_8 (by decide) rfl (by unfold fp_rng; omega) (fun h8 => ?_) (fun h8 => ?_)
    · exfalso; omega
    · refine S.iconst (pc' := 12) dX11_noted_11 rfl ?_
      refine S.iret dX11_noted_12 rfl ?_
      exact ⟨rfl, hcs, frC.refl _⟩
theorem mnote_loop {t : Int} (hcs : MS M tp fl g pg vs nt im sh tn) (ho : OK g pg vs nt im sh) (hin : 0 ≤ t ∧ t < g.1) : ∀ (n : Nat) (i : Int), ((nt.length : Int) - i).toNat = n → 0 ≤ i → i ≤ nt.length →
    fp_S l G 2 kX12_noted 12 [some (rV G 177), some (iV t), some (iV i)] [] M (qI fun z N => z = (if fp_find (fun i => nt.getD i.toNat 0) t n i ≠ -4 then -2 else if 8 ≤ nt.length then -3 else (nt.length : Int) + 1) ∧ MS N tp fl g pg vs (if fp_find (fun i => nt.getD i.toNat 0) t n i ≠ -4 then nt else if 8 ≤ nt.length then nt else nt ++ [t]) im sh tn ∧ frD M N) := by
  have hcs' := hcs
  obtain ⟨-, hd, -, -, ⟨a1, a2, a3⟩, -⟩ := hcs
  have a1' : M 178 (104 : Int).toNat = nt.length := a1
  have hno := ho.2.2.2.1
  have hg1 := ho.1.1
  intro n
  induction n with
  | zero =>
    intro i h h0 h1
    have e : fp_find (fun i => nt.getD i.toNat 0) t 0 i = -4 := rfl
    have hne : ¬ (fp_find (fun i => nt.getD i.toNat 0) t 0 i ≠ -4) := fun q => q e
    rw [if_neg hne, if_neg hne]
    by_cases l8 : 8 ≤ nt.length
    · rw [if_pos l8, if_pos l8]
      refine S.iload_n (pc' := 13) dX12_noted_12 rfl rfl rfl ?_
      refine S.aload_n (pc' := 14) dX12_noted_13 rfl rfl rfl ?_
      refine S.getR (pc' := 17) dX12_noted_14 rfl fX12_7 L_177 rf_177_0 ?_
      refine S.bipush (pc' := 19) dX12_noted_17 rfl (by decide) ?_
      refine S.iald (pc' := 20) dX12_noted_19 rfl L_178 (by omega) (by omega) ?_
      refine S.icmp_ge (pc' := 23) (tgt := 45) dX12_noted_20 (by decide) rfl (by unfold fp_rng; omega) (by unfold fp_rng; omega) (fun h20 => ?_) (fun h20 => ?_)
      · refine S.aload_n (pc' := 46) dX12_noted_45 rfl rfl rfl ?_
        refine S.getR (pc' := 49) dX12_noted_46 rfl fX12_7 L_177 rf_177_0 ?_
        refine S.bipush (pc' := 51) dX12_noted_49 rfl (by decide) ?_
        refine S.iald (pc' := 52) dX12_noted_51 rfl L_178 (by omega) (by omega) ?_
        refine S.bipush (pc' := 54) dX12_noted_52 rfl (by decide) ?_
        refine S.icmp_ne (pc' := 57) (tgt := 60) dX12_noted_54 (by decide) rfl (by unfold fp_rng; omega) (by unfold fp_rng; omega) (fun h54 => ?_) (fun h54 => ?_)
        · exfalso; omega
        · refine S.bipush (pc' := 59) dX12_noted_57 rfl (by decide) ?_
          refine S.iret dX12_noted_59 rfl ?_
          exact ⟨rfl, hcs', frD.refl _⟩
      · exfalso; omega
    · rw [if_neg l8, if_neg l8]
      refine S.iload_n (pc' := 13) dX12_noted_12 rfl rfl rfl ?_
      refine S.aload_n (pc' := 14) dX12_noted_13 rfl rfl rfl ?_
      refine S.getR (pc' := 17) dX12_noted_14 rfl fX12_7 L_177 rf_177_0 ?_
      refine S.bipush (pc' := 19) dX12_noted_17 rfl (by decide) ?_
      refine S.iald (pc' := 20) dX12_noted_19 rfl L_178 (by omega) (by omega) ?_
      refine S.icmp_ge (pc' := 23) (tgt := 45) dX12_noted_20 (by decide) rfl (by unfold fp_rng; omega) (by unfold fp_rng; omega) (fun h20 => ?_) (fun h20 => ?_)
      · refine S.aload_n (pc' := 46) dX12_noted_45 rfl rfl rfl ?_
        refine S.getR (pc' := 49) dX12_noted_46 rfl fX12_7 L_177 rf_177_0 ?_
        refine S.bipush (pc' := 51) dX12_noted_49 rfl (by decide) ?_
        refine S.iald (pc' := 52) dX12_noted_51 rfl L_178 (by omega) (by omega) ?_
        refine S.bipush (pc' := 54) dX12_noted_52 rfl (by decide) ?_
        refine S.icmp_ne (pc' := 57) (tgt := 60) dX12_noted_54 (by decide) rfl (by unfold fp_rng; omega) (by unfold fp_rng; omega) (fun h54 => ?_) (fun h54 => ?_)
        · refine S.aload_n (pc' := 61) dX12_noted_60 rfl rfl rfl ?_
          refine S.getR (pc' := 64) dX12_noted_61 rfl fX12_7 L_177 rf_177_0 ?_
          refine S.bipush (pc' := 66) dX12_noted_64 rfl (by decide) ?_
          refine S.aload_n (pc' := 67) dX12_noted_66 rfl rfl rfl ?_
          refine S.getR (pc' := 70) dX12_noted_67 rfl fX12_7 L_177 rf_177_0 ?_
          refine S.bipush (pc' := 72) dX12_noted_70 rfl (by decide) ?_
          refine S.iald (pc' := 73) dX12_noted_72 rfl L_178 (by omega) (by omega) ?_
          refine S.iadd (pc' := 74) dX12_noted_73 rfl ?_
          rw [show (104 : Int).toNat = 104 from rfl, a1]
          refine S.iload_n (pc' := 75) dX12_noted_74 rfl rfl rfl ?_
          refine S.iast (pc' := 76) dX12_noted_75 rfl L_178 (by omega) (by omega) ?_
          refine S.aload_n (pc' := 77) dX12_noted_76 rfl rfl rfl ?_
          refine S.getR (pc' := 80) dX12_noted_77 rfl fX12_7 L_177 rf_177_0 ?_
          refine S.bipush (pc' := 82) dX12_noted_80 rfl (by decide) ?_
          refine S.dup2 (pc' := 83) dX12_noted_82 rfl rfl rfl ?_
          refine S.iald (pc' := 84) dX12_noted_83 rfl L_178 (by omega) (by omega) ?_
          refine S.iconst (pc' := 85) dX12_noted_84 rfl ?_
          refine S.iadd (pc' := 86) dX12_noted_85 rfl ?_
          refine S.iast (pc' := 87) dX12_noted_86 rfl L_178 (by omega) (by omega) ?_
          rw [show (104 : Int).toNat = 104 from rfl, fp_up_same, fp_up_at, fp_upf_ne (show 104 ≠ (96 + (nt.length : Int)).toNat by omega), a1]
          refine S.aload_n (pc' := 88) dX12_noted_87 rfl rfl rfl ?_
          refine S.getR (pc' := 91) dX12_noted_88 rfl fX12_7 L_177 rf_177_0 ?_
          refine S.bipush (pc' := 93) dX12_noted_91 rfl (by decide) ?_
          refine S.iald (pc' := 94) dX12_noted_93 rfl L_178 (by omega) (by omega) ?_
          refine S.iret dX12_noted_94 rfl ?_
          have e4 : fp_upM M 178 (fp_upf (fp_upf (M 178) (96 + (nt.length : Int)).toNat t) 104 ((nt.length : Int) + 1)) 178 (104 : Int).toNat = (nt.length : Int) + 1 := by rw [fp_upM_at, show (104 : Int).toNat = 104 from rfl, fp_upf_at]
          refine ⟨e4, hcs'.nts ho (fun a ha => fp_upM_ne ha) (fun j hj => by rw [fp_upM_at, fp_upf_ne (by omega), fp_upf_ne (by omega)]) ?_, fun c hc => fp_upM_ne (by omega)⟩
          unfold mnRow
          rw [fp_upM_at, fp_upf_at, List.length_append]
          refine ⟨by simp, by simp; omega, fun i i0 i1 => ?_⟩
          simp at i1
          rw [fp_appD, fp_upf_ne (by omega)]
          by_cases h : i < nt.length
          · rw [fp_upf_ne (by omega), if_pos (by omega)]; exact a3 i i0 h
          · rw [if_neg (by omega), if_pos (by omega), show (96 + i).toNat = (96 + (nt.length : Int)).toNat by omega, fp_upf_at]
        · exfalso; omega
      · exfalso; omega
  | succ n ih =>
    intro i h h0 h1
    have q := a3 i h0 (by omega)
    have q2 := hno.1 _ (fp_getD_mem (L := nt) (i := i.toNat) (by omega))
    have es : fp_find (fun i => nt.getD i.toNat 0) t (n + 1) i = if nt.getD i.toNat 0 = t then i else fp_find (fun i => nt.getD i.toNat 0) t n (i + 1) := rfl
    by_cases hq : nt.getD i.toNat 0 = t
    · rw [es, if_pos hq, if_pos (by omega), if_pos (by omega)]
      refine S.iload_n (pc' := 13) dX12_noted_12 rfl rfl rfl ?_
      refine S.aload_n (pc' := 14) dX12_noted_13 rfl rfl rfl ?_
      refine S.getR (pc' := 17) dX12_noted_14 rfl fX12_7 L_177 rf_177_0 ?_
      refine S.bipush (pc' := 19) dX12_noted_17 rfl (by decide) ?_
      refine S.iald (pc' := 20) dX12_noted_19 rfl L_178 (by omega) (by omega) ?_
      refine S.icmp_ge (pc' := 23) (tgt := 45) dX12_noted_20 (by decide) rfl (by unfold fp_rng; omega) (by unfold fp_rng; omega) (fun h20 => ?_) (fun h20 => ?_)
      · exfalso; omega
      · refine S.aload_n (pc' := 24) dX12_noted_23 rfl rfl rfl ?_
        refine S.getR (pc' := 27) dX12_noted_24 rfl fX12_7 L_177 rf_177_0 ?_
        refine S.bipush (pc' := 29) dX12_noted_27 rfl (by decide) ?_
        refine S.iload_n (pc' := 30) dX12_noted_29 rfl rfl rfl ?_
        refine S.iadd (pc' := 31) dX12_noted_30 rfl ?_
        refine S.iald (pc' := 32) dX12_noted_31 rfl L_178 (by omega) (by omega) ?_
        refine S.iload_n (pc' := 33) dX12_noted_32 rfl rfl rfl ?_
        refine S.icmp_ne (pc' := 36) (tgt := 39) dX12_noted_33 (by decide) rfl (by unfold fp_rng; omega) (by unfold fp_rng; omega) (fun h33 => ?_) (fun h33 => ?_)
        · exfalso; omega
        · refine S.bipush (pc' := 38) dX12_noted_36 rfl (by decide) ?_
          refine S.iret dX12_noted_38 rfl ?_
          exact ⟨rfl, hcs', frD.refl _⟩
    · rw [es, if_neg hq]
      refine S.iload_n (pc' := 13) dX12_noted_12 rfl rfl rfl ?_
      refine S.aload_n (pc' := 14) dX12_noted_13 rfl rfl rfl ?_
      refine S.getR (pc' := 17) dX12_noted_14 rfl fX12_7 L_177 rf_177_0 ?_
      refine S.bipush (pc' := 19) dX12_noted_17 rfl (by decide) ?_
      refine S.iald (pc' := 20) dX12_noted_19 rfl L_178 (by omega) (by omega) ?_
      refine S.icmp_ge (pc' := 23) (tgt := 45) dX12_noted_20 (by decide) rfl (by unfold fp_rng; omega) (by unfold fp_rng; omega) (fun h20 => ?_) (fun h20 => ?_)
      · exfalso; omega
      · refine S.aload_n (pc' := 24) dX12_noted_23 rfl rfl rfl ?_
        refine S.getR (pc' := 27) dX12_noted_24 rfl fX12_7 L_177 rf_177_0 ?_
        refine S.bipush (pc' := 29) dX12_noted_27 rfl (by decide) ?_
        refine S.iload_n (pc' := 30) dX12_noted_29 rfl rfl rfl ?_
        refine S.iadd (pc' := 31) dX12_noted_30 rfl ?_
        refine S.iald (pc' := 32) dX12_noted_31 rfl L_178 (by omega) (by omega) ?_
        refine S.iload_n (pc' := 33) dX12_noted_32 rfl rfl rfl ?_
        refine S.icmp_ne (pc' := 36) (tgt := 39) dX12_noted_33 (by decide) rfl (by unfold fp_rng; omega) (by unfold fp_rng; omega) (fun h33 => ?_) (fun h33 => ?_)
        · refine S.iinc (pc' := 42) (LL' := [_, _, _]) dX12_noted_39 rfl (by decide) rfl rfl rfl ?_
          refine S.goto (pc' := 12) dX12_noted_42 (by decide) ?_
          exact ih _ (by omega) (by omega) (by omega)
        · exfalso; omega
theorem mm_noted {t : Int} (hc : MS M tp fl g pg vs nt im sh tn) (ho : OK g pg vs nt im sh) (ht : fp_rng t) : fp_Ok l G 2 kX12_noted [rV G 177, iV t] M (qI fun z N => z = (A_noted g nt t).1 ∧ MS N tp fl g pg vs (A_noted g nt t).2 im sh tn ∧ frD M N) := by
  have hcs := hc
  obtain ⟨-, hd, -⟩ := hc
  have hg := ho.1
  have hfm := fp_find_mem (L := nt) (t := t)
  refine fp_Ok.of (r := 1) rfl (Nat.le_of_ble_eq_true rfl) rfl ?_
  unfold A_noted
  by_cases hin : 0 ≤ t ∧ t < g.1
  · rw [if_neg (fun q => q hin)]
    have hw : fp_S l G 2 kX12_noted 12 [some (rV G 177), some (iV t), some (iV 0)] [] M (qI fun z N => z = (if t ∈ nt then (-2, nt) else if 8 ≤ nt.length then (-3, nt) else ((nt.length : Int) + 1, nt ++ [t])).1 ∧ MS N tp fl g pg vs (if t ∈ nt then (-2, nt) else if 8 ≤ nt.length then (-3, nt) else ((nt.length : Int) + 1, nt ++ [t])).2 im sh tn ∧ frD M N) := by
      have h := mnote_loop (l := l) (G := G) hcs ho hin nt.length 0 (by omega) (by omega) (by omega)
      by_cases hm : t ∈ nt
      · have hne : fp_find (fun i => nt.getD i.toNat 0) t nt.length 0 ≠ -4 := fun q => hfm.mp q hm
        rw [if_pos hne, if_pos hne] at h
        simp only [if_pos hm]
        exact h
      · have he : fp_find (fun i => nt.getD i.toNat 0) t nt.length 0 = -4 := hfm.mpr hm
        have hne : ¬ (fp_find (fun i => nt.getD i.toNat 0) t nt.length 0 ≠ -4) := fun q => q he
        rw [if_neg hne, if_neg hne] at h
        simp only [if_neg hm]
        by_cases l8 : 8 ≤ nt.length
        · rw [if_pos l8, if_pos l8] at h; simp only [if_pos l8]; exact h
        · rw [if_neg l8, if_neg l8] at h; simp only [if_neg l8]; exact h
    refine S.aload_n (pc' := 1) dX12_noted_0 rfl rfl rfl ?_
    refine S.iload_n (pc' := 2) dX12_noted_1 rfl rfl rfl ?_
    refine S.callVi (pc' := 5) dX12_noted_2 rfl cX12_205 (bk_X12_isThing) rfl L_177 (by decide) rfl (Nat.le_of_ble_eq_true rfl) (fun z2 M2 q2 => ?_)
    obtain ⟨b2, rfl⟩ := q2
    refine S.if_ne (pc' := 8) (tgt := 10) dX12_noted_5 (by decide) rfl (by unfold fp_rng; omega) (fun h5 => ?_) (fun h5 => ?_)
    · refine S.iconst (pc' := 11) dX12_noted_10 rfl ?_
      refine S.istore_n (pc' := 12) (LL' := [_, _, _]) dX12_noted_11 rfl (by decide) rfl rfl rfl ?_
      exact hw
    · exfalso; omega
  · rw [if_pos hin]
    refine S.aload_n (pc' := 1) dX12_noted_0 rfl rfl rfl ?_
    refine S.iload_n (pc' := 2) dX12_noted_1 rfl rfl rfl ?_
    refine S.callVi (pc' := 5) dX12_noted_2 rfl cX12_205 (bk_X12_isThing) rfl L_177 (by decide) rfl (Nat.le_of_ble_eq_true rfl) (fun z2 M2 q2 => ?_)
    obtain ⟨b2, rfl⟩ := q2
    refine S.if_ne (pc' := 8) (tgt := 10) dX12_noted_5 (by decide) rfl (by unfold fp_rng; omega) (fun h5 => ?_) (fun h5 => ?_)
    · exfalso; omega
    · refine S.iconst (pc' := 9) dX12_noted_8 rfl ?_
      refine S.iret dX12_noted_9 rfl ?_
      exact ⟨rfl, hcs, frD.refl _⟩
end PUG
