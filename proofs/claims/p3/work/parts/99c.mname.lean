/-! THE REFERENCE HOLDS A NAME AGAINST THE WORDS -/
def nmF (tp : List Int) (h : Int) : Nat → Nat → Int
  | 0, _ => -4
  | r + 1, i => if nmW tp h i = true then (i : Int) else nmF tp h r (i + 1)
theorem nmF_no {tp : List Int} {h : Int} (hk : ¬ tkK tp h = 1) : ∀ r i, nmF tp h r i = -4
  | 0, _ => rfl
  | r + 1, i => by
    unfold nmF
    rw [if_neg, nmF_no hk r (i + 1)]
    unfold nmW
    simp [hk]
theorem nmF_in {tp : List Int} {h : Int} : ∀ r i, nmF tp h r i = -4 ∨ ((i : Int) ≤ nmF tp h r i ∧ nmF tp h r i < i + r)
  | 0, _ => Or.inl rfl
  | r + 1, i => by
    unfold nmF
    split
    · right; omega
    · have := nmF_in (tp := tp) (h := h) r (i + 1)
      omega
theorem fp_cuts : ∀ i, i < 8 → 0 ≤ fp_cutL.getD i 0 ∧ fp_cutL.getD (i + 1) 0 = fp_cutL.getD i 0 + ((fp_wd i).length : Int) ∧ fp_cutL.getD (i + 1) 0 ≤ 42 ∧ ∀ j, j < (fp_wd i).length → fp_letL.getD (fp_cutL.getD i 0 + (j : Int)).toNat 0 = (fp_wd i).getD j 0 := by decide +kernel
theorem fp_cutB : ∀ i, i < 9 → 0 ≤ fp_cutL.getD i 0 ∧ fp_cutL.getD i 0 ≤ 42 := by decide +kernel
section MNM
variable {l : Launch} {G : fp_WG} {M N : fp_Mem} {tp : List Int}
theorem mn_b0 {Q : fp_Q} {i j : Int} (K : fp_S l G 1 kX12_nameHere 112 [some (rV G 177), some (iV i), some (iV 0), some (iV j)] [] M Q) : fp_S l G 1 kX12_nameHere 51 [some (rV G 177), some (iV i), some (iV 0), some (iV j)] [] M Q := by
  refine S.iload_n (pc' := 52) dX12_nameHere_51 rfl rfl rfl ?_
  refine S.if_eq (pc' := 55) (tgt := 106) dX12_nameHere_52 (by decide) rfl (by unfold fp_rng; omega) (fun h52 => ?_) (fun h52 => ?_)
  · refine S.iload_n (pc' := 107) dX12_nameHere_106 rfl rfl rfl ?_
    refine S.if_eq (pc' := 110) (tgt := 112) dX12_nameHere_107 (by decide) rfl (by unfold fp_rng; omega) (fun h107 => ?_) (fun h107 => ?_)
    · exact K
    · exact absurd rfl h107
  · exact absurd rfl h52
theorem mn_in {i : Nat} {h e : Int} {Q : fp_Q} (ht : tpOk tp) (hm : mtT M tp) (hK : msK M) (h24 : M 177 24 = h) (h23 : M 177 23 = e) (hh : 0 ≤ h) (he : e ≤ (tp.length : Int)) (i8 : i < 8) (hl : e - h = ((fp_wd i).length : Int)) (K1 : ∀ j, wdIs tp h e (fp_wd i) → fp_S l G 1 kX12_nameHere 110 [some (rV G 177), some (iV i), some (iV 1), some (iV j)] [] M Q) (K0 : ∀ j, ¬ wdIs tp h e (fp_wd i) → fp_S l G 1 kX12_nameHere 112 [some (rV G 177), some (iV i), some (iV 0), some (iV j)] [] M Q) : ∀ (r : Nat) (j : Int), (((fp_wd i).length : Int) - j).toNat < r → 0 ≤ j → j ≤ ((fp_wd i).length : Int) → (∀ k : Int, 0 ≤ k → k < j → aBy tp (h + k) = (fp_wd i).getD k.toNat 0) →
    fp_S l G 1 kX12_nameHere 51 [some (rV G 177), some (iV i), some (iV 1), some (iV j)] [] M Q := by
  have hn := ht.1
  obtain ⟨c1, c2, c3, c4⟩ := fp_cuts i i8
  have c5 := hK.1 i (by omega)
  intro r
  induction r with
  | zero => intro j hr; omega
  | succ r ih =>
    intro j hr j0 j1 hk
    by_cases hj : j < ((fp_wd i).length : Int)
    · have hb := ht.2 (h + j) (by omega) (by omega)
      have hbb : mB tp (h + j) = aBy tp (h + j) := by unfold mB; rw [if_pos (by omega)]
      have c6 : M 188 (fp_cutL.getD i 0 + j).toNat = (fp_wd i).getD j.toNat 0 := by
        rw [hK.2 _ (by omega), ← c4 j.toNat (by omega), Int.toNat_of_nonneg j0]
      have hw := (fp_wd_ok i i8).2 j j0 hj
      refine S.iload_n (pc' := 52) dX12_nameHere_51 rfl rfl rfl ?_
      refine S.if_eq (pc' := 55) (tgt := 106) dX12_nameHere_52 (by decide) rfl (by unfold fp_rng; omega) (fun h52 => ?_) (fun h52 => ?_)
      · exfalso; first | omega | skip
      · refine S.iload_n (pc' := 56) dX12_nameHere_55 rfl rfl rfl ?_
        refine S.aload_n (pc' := 57) dX12_nameHere_56 rfl rfl rfl ?_
        refine S.getI (pc' := 60) dX12_nameHere_57 rfl fX12_110 L_177 ?_
        refine S.aload_n (pc' := 61) dX12_nameHere_60 rfl rfl rfl ?_
        refine S.getI (pc' := 64) dX12_nameHere_61 rfl fX12_101 L_177 ?_
        refine S.isub (pc' := 65) dX12_nameHere_64 rfl ?_
        rw [h23, h24]
        refine S.icmp_ge (pc' := 68) (tgt := 106) dX12_nameHere_65 (by decide) rfl (by unfold fp_rng; omega) (by unfold fp_rng; omega) (fun h65 => ?_) (fun h65 => ?_)
        · exfalso; first | omega | skip
        · refine S.aload_n (pc' := 69) dX12_nameHere_68 rfl rfl rfl ?_
          refine S.aload_n (pc' := 70) dX12_nameHere_69 rfl rfl rfl ?_
          refine S.getI (pc' := 73) dX12_nameHere_70 rfl fX12_101 L_177 ?_
          refine S.iload_n (pc' := 74) dX12_nameHere_73 rfl rfl rfl ?_
          refine S.iadd (pc' := 75) dX12_nameHere_74 rfl ?_
          rw [h24]
          refine S.callVe (pc' := 78) dX12_nameHere_75 rfl cX12_113 (mt_byte ht hm (by omega) (by omega)) rfl L_177 (by decide) rfl (Nat.le_of_ble_eq_true rfl) ?_
          rw [hbb]
          refine S.aload_n (pc' := 79) dX12_nameHere_78 rfl rfl rfl ?_
          refine S.getR (pc' := 82) dX12_nameHere_79 rfl fX12_44 L_177 rf_177_28 ?_
          refine S.aload_n (pc' := 83) dX12_nameHere_82 rfl rfl rfl ?_
          refine S.getR (pc' := 86) dX12_nameHere_83 rfl fX12_41 L_177 rf_177_27 ?_
          refine S.iload_n (pc' := 87) dX12_nameHere_86 rfl rfl rfl ?_
          refine S.iald (pc' := 88) dX12_nameHere_87 rfl L_187 (by omega) (by omega) ?_
          rw [Int.toNat_natCast, c5]
          refine S.iload_n (pc' := 89) dX12_nameHere_88 rfl rfl rfl ?_
          refine S.iadd (pc' := 90) dX12_nameHere_89 rfl ?_
          refine S.iald (pc' := 91) dX12_nameHere_90 rfl L_188 (by omega) (by omega) ?_
          rw [c6]
          refine S.icmp_ne (pc' := 94) (tgt := 98) dX12_nameHere_91 (by decide) rfl (by unfold fp_rng; omega) (by unfold fp_rng; omega) (fun h91 => ?_) (fun h91 => ?_)
          · refine S.iconst (pc' := 99) dX12_nameHere_98 rfl ?_
            refine S.istore_n (pc' := 100) (LL' := [_, _, _, _]) dX12_nameHere_99 rfl (by decide) rfl rfl rfl ?_
            refine S.iinc (pc' := 103) (LL' := [_, _, _, _]) dX12_nameHere_100 rfl (by decide) rfl rfl rfl ?_
            refine S.goto (pc' := 51) dX12_nameHere_103 (by decide) ?_
            first
            | exact mn_b0 (K0 _ (fun q => h91 (q.2 j j0 hj)))
            | (refine ih (j + 1) (by omega) (by omega) (by omega) (fun k k0 k1 => ?_)
               by_cases ek : k = j
               · subst ek; exact h91
               · exact hk k k0 (by omega))
          · refine S.iconst (pc' := 95) dX12_nameHere_94 rfl ?_
            refine S.goto (pc' := 99) dX12_nameHere_95 (by decide) ?_
            refine S.istore_n (pc' := 100) (LL' := [_, _, _, _]) dX12_nameHere_99 rfl (by decide) rfl rfl rfl ?_
            refine S.iinc (pc' := 103) (LL' := [_, _, _, _]) dX12_nameHere_100 rfl (by decide) rfl rfl rfl ?_
            refine S.goto (pc' := 51) dX12_nameHere_103 (by decide) ?_
            first
            | exact mn_b0 (K0 _ (fun q => h91 (q.2 j j0 hj)))
            | (refine ih (j + 1) (by omega) (by omega) (by omega) (fun k k0 k1 => ?_)
               by_cases ek : k = j
               · subst ek; exact h91
               · exact hk k k0 (by omega))
    · refine S.iload_n (pc' := 52) dX12_nameHere_51 rfl rfl rfl ?_
      refine S.if_eq (pc' := 55) (tgt := 106) dX12_nameHere_52 (by decide) rfl (by unfold fp_rng; omega) (fun h52 => ?_) (fun h52 => ?_)
      · refine S.iload_n (pc' := 107) dX12_nameHere_106 rfl rfl rfl ?_
        refine S.if_eq (pc' := 110) (tgt := 112) dX12_nameHere_107 (by decide) rfl (by unfold fp_rng; omega) (fun h107 => ?_) (fun h107 => ?_)
        · first | exact absurd h107 (by decide) | (exfalso; omega)
        · exact K1 _ ⟨hl, fun k k0 k1 => hk k k0 (by omega)⟩
      · refine S.iload_n (pc' := 56) dX12_nameHere_55 rfl rfl rfl ?_
        refine S.aload_n (pc' := 57) dX12_nameHere_56 rfl rfl rfl ?_
        refine S.getI (pc' := 60) dX12_nameHere_57 rfl fX12_110 L_177 ?_
        refine S.aload_n (pc' := 61) dX12_nameHere_60 rfl rfl rfl ?_
        refine S.getI (pc' := 64) dX12_nameHere_61 rfl fX12_101 L_177 ?_
        refine S.isub (pc' := 65) dX12_nameHere_64 rfl ?_
        rw [h23, h24]
        refine S.icmp_ge (pc' := 68) (tgt := 106) dX12_nameHere_65 (by decide) rfl (by unfold fp_rng; omega) (by unfold fp_rng; omega) (fun h65 => ?_) (fun h65 => ?_)
        · refine S.iload_n (pc' := 107) dX12_nameHere_106 rfl rfl rfl ?_
          refine S.if_eq (pc' := 110) (tgt := 112) dX12_nameHere_107 (by decide) rfl (by unfold fp_rng; omega) (fun h107 => ?_) (fun h107 => ?_)
          · first | exact absurd h107 (by decide) | (exfalso; omega)
          · exact K1 _ ⟨hl, fun k k0 k1 => hk k k0 (by omega)⟩
        · exfalso; omega
theorem mt_name {h : Int} (ht : tpOk tp) (hm : mtT M tp) (hK : msK M) (h24 : M 177 24 = h) (h23 : M 177 23 = tkE tp h) (h25 : M 177 25 = tkK tp h) (hh : 0 ≤ h) (hle : h ≤ (tp.length : Int)) : fp_Ok l G 1 kX12_nameHere [rV G 177] M (qE (nmF tp h 8 0) M) := by
  refine fp_Ok.of (r := 3) rfl (Nat.le_of_ble_eq_true rfl) rfl ?_
  have hn := ht.1
  have hE := tkE_le hle
  have hkk := tkK_in tp h
  by_cases hk : tkK tp h = 1
  · have hL : ∀ (r i : Nat) (o2 o3 : Option Value), i + r = 8 → fp_S l G 1 kX12_nameHere 2 [some (rV G 177), some (iV i), o2, o3] [] M (qE (nmF tp h r i) M) := by
      intro r
      induction r with
      | zero =>
        intro i o2 o3 hi
        refine S.iload_n (pc' := 3) dX12_nameHere_2 rfl rfl rfl ?_
        refine S.bipush (pc' := 5) dX12_nameHere_3 rfl (by decide) ?_
        refine S.icmp_ge (pc' := 8) (tgt := 118) dX12_nameHere_5 (by decide) rfl (by unfold fp_rng; omega) (by unfold fp_rng; omega) (fun h5 => ?_) (fun h5 => ?_)
        · refine S.bipush (pc' := 120) dX12_nameHere_118 rfl (by decide) ?_
          refine S.iret dX12_nameHere_120 rfl ?_
          exact ⟨rfl, rfl⟩
        · exfalso; omega
      | succ r ih =>
        intro i o2 o3 hi
        have i8 : i < 8 := by omega
        obtain ⟨c1, c2, c3, c4⟩ := fp_cuts i i8
        have c5 := hK.1 i (by omega)
        have c7 : M 187 ((i : Int) + 1).toNat = fp_cutL.getD (i + 1) 0 := by
          rw [show ((i : Int) + 1).toNat = i + 1 by omega]
          exact hK.1 (i + 1) (by omega)
        have hw : nmW tp h i = true ↔ wdIs tp h (tkE tp h) (fp_wd i) := by
          rw [← wdB_iff]
          unfold nmW
          simp [hk]
        have K0 : ∀ o j, ¬ wdIs tp h (tkE tp h) (fp_wd i) → fp_S l G 1 kX12_nameHere 112 [some (rV G 177), some (iV i), o, some (iV j)] [] M (qE (nmF tp h (r + 1) i) M) := by
          intro o j q
          unfold nmF
          rw [if_neg (fun x => q (hw.mp x))]
          refine S.iinc (pc' := 115) (LL' := [_, _, _, _]) dX12_nameHere_112 rfl (by decide) rfl rfl rfl ?_
          refine S.goto (pc' := 2) dX12_nameHere_115 (by decide) ?_
          exact ih (i + 1) _ _ (by omega)
        have K1 : ∀ o j, wdIs tp h (tkE tp h) (fp_wd i) → fp_S l G 1 kX12_nameHere 110 [some (rV G 177), some (iV i), o, some (iV j)] [] M (qE (nmF tp h (r + 1) i) M) := by
          intro o j q
          unfold nmF
          rw [if_pos (hw.mpr q)]
          refine S.iload_n (pc' := 111) dX12_nameHere_110 rfl rfl rfl ?_
          refine S.iret dX12_nameHere_111 rfl ?_
          exact ⟨rfl, rfl⟩
        refine S.iload_n (pc' := 3) dX12_nameHere_2 rfl rfl rfl ?_
        refine S.bipush (pc' := 5) dX12_nameHere_3 rfl (by decide) ?_
        refine S.icmp_ge (pc' := 8) (tgt := 118) dX12_nameHere_5 (by decide) rfl (by unfold fp_rng; omega) (by unfold fp_rng; omega) (fun h5 => ?_) (fun h5 => ?_)
        · exfalso; omega
        · refine S.aload_n (pc' := 9) dX12_nameHere_8 rfl rfl rfl ?_
          refine S.getI (pc' := 12) dX12_nameHere_9 rfl fX12_107 L_177 ?_
          refine S.iconst (pc' := 13) dX12_nameHere_12 rfl ?_
          rw [h25, hk]
          refine S.icmp_ne (pc' := 16) (tgt := 118) dX12_nameHere_13 (by decide) rfl (by unfold fp_rng; omega) (by unfold fp_rng; omega) (fun h13 => ?_) (fun h13 => ?_)
          · exfalso; omega
          · refine S.aload_n (pc' := 17) dX12_nameHere_16 rfl rfl rfl ?_
            refine S.getI (pc' := 20) dX12_nameHere_17 rfl fX12_110 L_177 ?_
            refine S.aload_n (pc' := 21) dX12_nameHere_20 rfl rfl rfl ?_
            refine S.getI (pc' := 24) dX12_nameHere_21 rfl fX12_101 L_177 ?_
            refine S.isub (pc' := 25) dX12_nameHere_24 rfl ?_
            refine S.aload_n (pc' := 26) dX12_nameHere_25 rfl rfl rfl ?_
            refine S.getR (pc' := 29) dX12_nameHere_26 rfl fX12_41 L_177 rf_177_27 ?_
            refine S.iload_n (pc' := 30) dX12_nameHere_29 rfl rfl rfl ?_
            refine S.iconst (pc' := 31) dX12_nameHere_30 rfl ?_
            refine S.iadd (pc' := 32) dX12_nameHere_31 rfl ?_
            refine S.iald (pc' := 33) dX12_nameHere_32 rfl L_187 (by omega) (by omega) ?_
            refine S.aload_n (pc' := 34) dX12_nameHere_33 rfl rfl rfl ?_
            refine S.getR (pc' := 37) dX12_nameHere_34 rfl fX12_41 L_177 rf_177_27 ?_
            refine S.iload_n (pc' := 38) dX12_nameHere_37 rfl rfl rfl ?_
            refine S.iald (pc' := 39) dX12_nameHere_38 rfl L_187 (by omega) (by omega) ?_
            refine S.isub (pc' := 40) dX12_nameHere_39 rfl ?_
            rw [h23, h24, Int.toNat_natCast, c5, c7]
            refine S.icmp_ne (pc' := 43) (tgt := 47) dX12_nameHere_40 (by decide) rfl (by unfold fp_rng; omega) (by unfold fp_rng; omega) (fun h40 => ?_) (fun h40 => ?_)
            · refine S.iconst (pc' := 48) dX12_nameHere_47 rfl ?_
              refine S.istore_n (pc' := 49) (LL' := [_, _, _, _]) dX12_nameHere_48 rfl (by decide) rfl rfl rfl ?_
              refine S.iconst (pc' := 50) dX12_nameHere_49 rfl ?_
              refine S.istore_n (pc' := 51) (LL' := [_, _, _, _]) dX12_nameHere_50 rfl (by decide) rfl rfl rfl ?_
              first
              | exact mn_b0 (K0 _ _ (fun q => by have := q.1; omega))
              | exact mn_in ht hm hK h24 h23 hh (by omega) i8 (by omega) (fun j => K1 _ j) (fun j => K0 _ j) 100 0 (by have := (fp_wd_ok i i8).1; omega) (by omega) (by omega) (fun k k0 k1 => by omega)
            · refine S.iconst (pc' := 44) dX12_nameHere_43 rfl ?_
              refine S.goto (pc' := 48) dX12_nameHere_44 (by decide) ?_
              refine S.istore_n (pc' := 49) (LL' := [_, _, _, _]) dX12_nameHere_48 rfl (by decide) rfl rfl rfl ?_
              refine S.iconst (pc' := 50) dX12_nameHere_49 rfl ?_
              refine S.istore_n (pc' := 51) (LL' := [_, _, _, _]) dX12_nameHere_50 rfl (by decide) rfl rfl rfl ?_
              first
              | exact mn_b0 (K0 _ _ (fun q => by have := q.1; omega))
              | exact mn_in ht hm hK h24 h23 hh (by omega) i8 (by omega) (fun j => K1 _ j) (fun j => K0 _ j) 100 0 (by have := (fp_wd_ok i i8).1; omega) (by omega) (by omega) (fun k k0 k1 => by omega)
    refine S.iconst (pc' := 1) dX12_nameHere_0 rfl ?_
    refine S.istore_n (pc' := 2) (LL' := [_, _, _, _]) dX12_nameHere_1 rfl (by decide) rfl rfl rfl ?_
    exact hL 8 0 _ _ rfl
  · rw [nmF_no hk]
    refine S.iconst (pc' := 1) dX12_nameHere_0 rfl ?_
    refine S.istore_n (pc' := 2) (LL' := [_, _, _, _]) dX12_nameHere_1 rfl (by decide) rfl rfl rfl ?_
    refine S.iload_n (pc' := 3) dX12_nameHere_2 rfl rfl rfl ?_
    refine S.bipush (pc' := 5) dX12_nameHere_3 rfl (by decide) ?_
    refine S.icmp_ge (pc' := 8) (tgt := 118) dX12_nameHere_5 (by decide) rfl (by unfold fp_rng; omega) (by unfold fp_rng; omega) (fun h5 => ?_) (fun h5 => ?_)
    · refine S.bipush (pc' := 120) dX12_nameHere_118 rfl (by decide) ?_
      refine S.iret dX12_nameHere_120 rfl ?_
      exact ⟨rfl, rfl⟩
    · refine S.aload_n (pc' := 9) dX12_nameHere_8 rfl rfl rfl ?_
      refine S.getI (pc' := 12) dX12_nameHere_9 rfl fX12_107 L_177 ?_
      refine S.iconst (pc' := 13) dX12_nameHere_12 rfl ?_
      rw [h25]
      refine S.icmp_ne (pc' := 16) (tgt := 118) dX12_nameHere_13 (by decide) rfl (by unfold fp_rng; omega) (by unfold fp_rng; omega) (fun h13 => ?_) (fun h13 => ?_)
      · refine S.bipush (pc' := 120) dX12_nameHere_118 rfl (by decide) ?_
        refine S.iret dX12_nameHere_120 rfl ?_
        exact ⟨rfl, rfl⟩
      · exact absurd h13 hk
end MNM
