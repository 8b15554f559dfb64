/-! ANY LINE OF A TEXT: the reference -/
def mlP (tp : List Int) (M N : fp_Mem) (p : Int ⊕ (Int × pD)) : Prop := frQ M N ∧ mrI N ∧ mq tp N (toR p) ∧ ∀ q, p = .inr q → mrD N q.2
section MRW
variable {l : Launch} {G : fp_WG} {M N O : fp_Mem} {tp : List Int} {r r' : Int ⊕ Int} {D : pD} {o1 o2 : Option Value}
/-- the STOP -/
theorem ml_100 {p : Int ⊕ (Int × pD)} (ht : tpOk tp) (hm : mtT O tp) (h : rlP tp M O p) : fp_S l G 4 kX12_readLine 100 [some (rV G 177), o1] [] O (qV fun N => mlP tp M N p) := by
  obtain ⟨f, hi, r, hq, hr, hd⟩ := h
  have hbr : ∀ h, mtB O h → stR tp r = .inl h → fp_S l G 4 kX12_readLine 100 [some (rV G 177), o1] [] O (qV fun N => mlP tp M N p) := by
    intro h hb e
    have b1 := hb.1
    refine S.aload_n (pc' := 101) dX12_readLine_100 rfl rfl rfl ?_
    refine S.getI (pc' := 104) dX12_readLine_101 rfl fX12_98 L_177 ?_
    refine S.if_ne (pc' := 107) (tgt := 120) dX12_readLine_104 (by decide) rfl (by unfold fp_rng; omega) (fun h104 => ?_) (fun h104 => ?_)
    · refine S.aload_n (pc' := 121) dX12_readLine_120 rfl rfl rfl ?_
      refine S.callVw (pc' := 124) dX12_readLine_121 rfl cX12_136 (mt_step1 b1) rfl L_177 (by decide) rfl (Nat.le_of_ble_eq_true rfl) ?_
      refine S.vret dX12_readLine_124 rfl ?_
      exact ⟨f, hi, by rw [hr, e]; exact hb, hd⟩
    · exfalso; omega
  cases r with
  | inl h => exact hbr h hq rfl
  | inr s =>
    have hq' := hq
    obtain ⟨hs, hg, ho⟩ := hq
    rcases ho with ho | ⟨hno, hb⟩
    · have hkk := tkK_in tp (tkS tp s)
      by_cases h3 : tkK tp (tkS tp s) = 3
      · have e : stR tp (.inr s) = .inr (nxt tp s) := by unfold stR; simp only; rw [if_pos ⟨ho.2.1, h3⟩]
        refine S.aload_n (pc' := 101) dX12_readLine_100 rfl rfl rfl ?_
        refine S.getI (pc' := 104) dX12_readLine_101 rfl fX12_98 L_177 ?_
        rw [ho.1]
        refine S.if_ne (pc' := 107) (tgt := 120) dX12_readLine_104 (by decide) rfl (by unfold fp_rng; omega) (fun h104 => ?_) (fun h104 => ?_)
        · refine S.aload_n (pc' := 121) dX12_readLine_120 rfl rfl rfl ?_
          refine S.callVv (pc' := 124) dX12_readLine_121 rfl cX12_136 (mt_st (A := O) ht ⟨frW.refl _, hq'⟩ ho hm) rfl L_177 (by decide) rfl (Nat.le_of_ble_eq_true rfl) (fun M121 q121 => ?_)
          first
          | exact absurd rfl h104
          | exact S.vret dX12_readLine_124 rfl ⟨f.trans q121.1.Q, q121.1.I hi, by rw [hr, e]; exact q121.2, fun q e2 => q121.1.D (hd q e2)⟩
        · refine S.aload_n (pc' := 108) dX12_readLine_107 rfl rfl rfl ?_
          refine S.getI (pc' := 111) dX12_readLine_108 rfl fX12_107 L_177 ?_
          refine S.iconst (pc' := 112) dX12_readLine_111 rfl ?_
          rw [hg.2.2, h3]
          refine S.icmp_eq (pc' := 115) (tgt := 120) dX12_readLine_112 (by decide) rfl (by unfold fp_rng; omega) (by unfold fp_rng; omega) (fun h112 => ?_) (fun h112 => ?_)
          · refine S.aload_n (pc' := 121) dX12_readLine_120 rfl rfl rfl ?_
            refine S.callVv (pc' := 124) dX12_readLine_121 rfl cX12_136 (mt_st (A := O) ht ⟨frW.refl _, hq'⟩ ho hm) rfl L_177 (by decide) rfl (Nat.le_of_ble_eq_true rfl) (fun M121 q121 => ?_)
            first
            | exact absurd rfl h104
            | exact S.vret dX12_readLine_124 rfl ⟨f.trans q121.1.Q, q121.1.I hi, by rw [hr, e]; exact q121.2, fun q e2 => q121.1.D (hd q e2)⟩
          · exact absurd rfl h112
      · have e : stR tp (.inr s) = .inl (tkS tp s) := by unfold stR; simp only; rw [if_neg (fun q => h3 q.2)]
        have a := aT.no (tp := tp) (A := O) (N := O) (s := s) (w := 2) ⟨frW.refl _, hq'⟩ (by omega)
        have h120 : fp_S l G 4 kX12_readLine 120 [some (rV G 177), o1] [] (fp_up (fp_up O 177 21 2) 177 22 (tkS tp s)) (qV fun N => mlP tp M N p) := by
          refine S.aload_n (pc' := 121) dX12_readLine_120 rfl rfl rfl ?_
          refine S.callVw (pc' := 124) dX12_readLine_121 rfl cX12_136 (mt_step1 a.2.1) rfl L_177 (by decide) rfl (Nat.le_of_ble_eq_true rfl) ?_
          refine S.vret dX12_readLine_124 rfl ?_
          exact ⟨f.trans a.1.Q, a.1.I hi, by rw [hr, e]; exact a.2, fun q e2 => a.1.D (hd q e2)⟩
        refine S.aload_n (pc' := 101) dX12_readLine_100 rfl rfl rfl ?_
        refine S.getI (pc' := 104) dX12_readLine_101 rfl fX12_98 L_177 ?_
        rw [ho.1]
        refine S.if_ne (pc' := 107) (tgt := 120) dX12_readLine_104 (by decide) rfl (by unfold fp_rng; omega) (fun h104 => ?_) (fun h104 => ?_)
        · first
          | exact absurd rfl h104
          | exact absurd h112 h3
          | (rw [hg.1]; exact h120)
        · refine S.aload_n (pc' := 108) dX12_readLine_107 rfl rfl rfl ?_
          refine S.getI (pc' := 111) dX12_readLine_108 rfl fX12_107 L_177 ?_
          refine S.iconst (pc' := 112) dX12_readLine_111 rfl ?_
          rw [hg.2.2]
          refine S.icmp_eq (pc' := 115) (tgt := 120) dX12_readLine_112 (by decide) rfl (by unfold fp_rng; omega) (by unfold fp_rng; omega) (fun h112 => ?_) (fun h112 => ?_)
          · first
            | exact absurd rfl h104
            | exact absurd h112 h3
            | (rw [hg.1]; exact h120)
          · refine S.aload_n (pc' := 116) dX12_readLine_115 rfl rfl rfl ?_
            refine S.iconst (pc' := 117) dX12_readLine_116 rfl ?_
            refine S.callVw (pc' := 120) dX12_readLine_117 rfl cX12_128 (mt_fails0 ho.1) rfl L_177 (by decide) rfl (Nat.le_of_ble_eq_true rfl) ?_
            first
            | exact absurd rfl h104
            | exact absurd h112 h3
            | (rw [hg.1]; exact h120)
    · exact hbr _ hb (by unfold stR; simp only; rw [if_neg (fun q => hno q.1)])
def chN (tp : List Int) (M : fp_Mem) (s : Int) (D : pD) (N : fp_Mem) : Prop := rlP tp M N (pChance tp (tkS tp s) (nxt tp s) D)
theorem rk_X12_readLine {s : Int} (ht : tpOk tp) (hm : mtT M tp) (hK : msK M) (hq : mq tp M (.inr s)) (ho : mtO tp M s) (hi : mrI M) (hd : mrD M D) (hD : dOk D) : fp_Ok l G 4 kX12_readLine [rV G 177] M (qV fun N => mlP tp M N (pRow tp (tkS tp s) D)) := by
  refine fp_Ok.of (r := 1) rfl (Nat.le_of_ble_eq_true rfl) rfl ?_
  have hs := hq.1
  have hg := hq.2.1
  have hx := nxt_le hs.2
  have htk := tkS_le hs.2
  have hin := nmF_in (tp := tp) (h := tkS tp s) 8 0
  have a0 : aT tp M M (.inr s) := ⟨frW.refl _, hq⟩
  have hsp := nmF_spec (tp := tp) (h := tkS tp s) 8 0
  have hu : ∀ i j, i < 8 → j < 8 → i ≠ j → nmW tp (tkS tp s) j = true → ¬ nmW tp (tkS tp s) i = true := fun i j i8 j8 ne c q => ne (nm_uniq i8 j8 q c)
  have hmO : ∀ O p, rlP tp M O p → mtT O tp := fun O p h => h.1.T hm
  by_cases hno : 0 ≤ nmF tp (tkS tp s) 8 0 ∧ nmF tp (tkS tp s) 8 0 ≤ 4
  · have hsp2 : ∃ j : Nat, j ≤ 4 ∧ nmF tp (tkS tp s) 8 0 = (j : Int) ∧ nmW tp (tkS tp s) j = true := by
      rcases hsp with ⟨a, _⟩ | ⟨j, a, b, c⟩
      · exfalso; omega
      · exact ⟨j, by omega, b, c⟩
    obtain ⟨j, j4, ej, cj⟩ := hsp2
    have hcall : fp_Ok l G 1 kX12_nameHere [rV G 177] M (qE (nmF tp (tkS tp s) 8 0) M) := mt_name ht hm hK hg.1 hg.2.1 hg.2.2 (by omega) htk.2
    rw [ej] at hcall
    have hnx : tkE tp (tkS tp s) = nxt tp s := rfl
    rcases (show j = 0 ∨ j = 1 ∨ j = 2 ∨ j = 3 ∨ j = 4 by omega) with rfl | rfl | rfl | rfl | rfl
    · have hp : pRow tp (tkS tp s) D = pThing tp (tkS tp s) (nxt tp s) D := by unfold pRow; rw [if_pos cj, hnx]
      rw [hp]
      refine S.aload_n (pc' := 1) dX12_readLine_0 rfl rfl rfl ?_
      refine S.callVe (pc' := 4) dX12_readLine_1 rfl cX12_149 hcall rfl L_177 (by decide) rfl (Nat.le_of_ble_eq_true rfl) ?_
      refine S.istore_n (pc' := 5) (LL' := [_, _]) dX12_readLine_4 rfl (by decide) rfl rfl rfl ?_
      refine S.iload_n (pc' := 6) dX12_readLine_5 rfl rfl rfl ?_
      refine S.i2l (pc' := 7) dX12_readLine_6 rfl (by unfold fp_rng; omega) ?_
      refine S.lconst (pc' := 8) (w := 0) dX12_readLine_7 rfl rfl ?_
      refine S.ldc2 (pc' := 11) (v := 4) dX12_readLine_8 rfl lX12_162 (by decide) ?_
      refine S.callSe (pc' := 14) dX12_readLine_11 rfl cX12_94 ok_X12_in rfl (by decide) rfl (Nat.le_of_ble_eq_true rfl) ?_
      refine S.if_ne (pc' := 17) (tgt := 23) dX12_readLine_14 (by decide) rfl (by unfold fp_rng; split <;> omega) (fun h14 => ?_) (fun h14 => ?_)
      · refine S.iload_n (pc' := 24) dX12_readLine_23 rfl rfl rfl ?_
        refine S.if_ne (pc' := 27) (tgt := 34) dX12_readLine_24 (by decide) rfl (by unfold fp_rng; omega) (fun h24 => ?_) (fun h24 => ?_)
        · exact absurd rfl h24
        · refine S.aload_n (pc' := 28) dX12_readLine_27 rfl rfl rfl ?_
          refine S.callVv (pc' := 31) dX12_readLine_28 rfl cX12_164 (rk_X12_readThing ht hm hq ho hi hd hD) rfl L_177 (by decide) rfl (Nat.le_of_ble_eq_true rfl) (fun M28 q28 => ?_)
          refine S.goto (pc' := 100) dX12_readLine_31 (by decide) ?_
          exact ml_100 ht (hmO _ _ q28) q28
      · exact absurd h14 (by decide)
    · have hp : pRow tp (tkS tp s) D = pLine tp (tkS tp s) (nxt tp s) D := by unfold pRow; rw [if_neg (hu 0 1 (by omega) (by omega) (by omega) cj), if_pos cj, hnx]
      rw [hp]
      refine S.aload_n (pc' := 1) dX12_readLine_0 rfl rfl rfl ?_
      refine S.callVe (pc' := 4) dX12_readLine_1 rfl cX12_149 hcall rfl L_177 (by decide) rfl (Nat.le_of_ble_eq_true rfl) ?_
      refine S.istore_n (pc' := 5) (LL' := [_, _]) dX12_readLine_4 rfl (by decide) rfl rfl rfl ?_
      refine S.iload_n (pc' := 6) dX12_readLine_5 rfl rfl rfl ?_
      refine S.i2l (pc' := 7) dX12_readLine_6 rfl (by unfold fp_rng; omega) ?_
      refine S.lconst (pc' := 8) (w := 0) dX12_readLine_7 rfl rfl ?_
      refine S.ldc2 (pc' := 11) (v := 4) dX12_readLine_8 rfl lX12_162 (by decide) ?_
      refine S.callSe (pc' := 14) dX12_readLine_11 rfl cX12_94 ok_X12_in rfl (by decide) rfl (Nat.le_of_ble_eq_true rfl) ?_
      refine S.if_ne (pc' := 17) (tgt := 23) dX12_readLine_14 (by decide) rfl (by unfold fp_rng; split <;> omega) (fun h14 => ?_) (fun h14 => ?_)
      · refine S.iload_n (pc' := 24) dX12_readLine_23 rfl rfl rfl ?_
        refine S.if_ne (pc' := 27) (tgt := 34) dX12_readLine_24 (by decide) rfl (by unfold fp_rng; omega) (fun h24 => ?_) (fun h24 => ?_)
        · refine S.iload_n (pc' := 35) dX12_readLine_34 rfl rfl rfl ?_
          refine S.iconst (pc' := 36) dX12_readLine_35 rfl ?_
          refine S.icmp_ne (pc' := 39) (tgt := 46) dX12_readLine_36 (by decide) rfl (by unfold fp_rng; omega) (by unfold fp_rng; omega) (fun h36 => ?_) (fun h36 => ?_)
          · exact absurd rfl h36
          · refine S.aload_n (pc' := 40) dX12_readLine_39 rfl rfl rfl ?_
            refine S.callVv (pc' := 43) dX12_readLine_40 rfl cX12_167 (rk_X12_readALine ht hm hK hq ho hi hd hD) rfl L_177 (by decide) rfl (Nat.le_of_ble_eq_true rfl) (fun M40 q40 => ?_)
            refine S.goto (pc' := 100) dX12_readLine_43 (by decide) ?_
            exact ml_100 ht (hmO _ _ q40) q40
        · exact absurd h24 (by decide)
      · exact absurd h14 (by decide)
    · have hp : pRow tp (tkS tp s) D = pVisit tp (tkS tp s) (nxt tp s) 1 D := by unfold pRow; rw [if_neg (hu 0 2 (by omega) (by omega) (by omega) cj), if_neg (hu 1 2 (by omega) (by omega) (by omega) cj), if_pos cj, hnx]
      rw [hp]
      refine S.aload_n (pc' := 1) dX12_readLine_0 rfl rfl rfl ?_
      refine S.callVe (pc' := 4) dX12_readLine_1 rfl cX12_149 hcall rfl L_177 (by decide) rfl (Nat.le_of_ble_eq_true rfl) ?_
      refine S.istore_n (pc' := 5) (LL' := [_, _]) dX12_readLine_4 rfl (by decide) rfl rfl rfl ?_
      refine S.iload_n (pc' := 6) dX12_readLine_5 rfl rfl rfl ?_
      refine S.i2l (pc' := 7) dX12_readLine_6 rfl (by unfold fp_rng; omega) ?_
      refine S.lconst (pc' := 8) (w := 0) dX12_readLine_7 rfl rfl ?_
      refine S.ldc2 (pc' := 11) (v := 4) dX12_readLine_8 rfl lX12_162 (by decide) ?_
      refine S.callSe (pc' := 14) dX12_readLine_11 rfl cX12_94 ok_X12_in rfl (by decide) rfl (Nat.le_of_ble_eq_true rfl) ?_
      refine S.if_ne (pc' := 17) (tgt := 23) dX12_readLine_14 (by decide) rfl (by unfold fp_rng; split <;> omega) (fun h14 => ?_) (fun h14 => ?_)
      · refine S.iload_n (pc' := 24) dX12_readLine_23 rfl rfl rfl ?_
        refine S.if_ne (pc' := 27) (tgt := 34) dX12_readLine_24 (by decide) rfl (by unfold fp_rng; omega) (fun h24 => ?_) (fun h24 => ?_)
        · refine S.iload_n (pc' := 35) dX12_readLine_34 rfl rfl rfl ?_
          refine S.iconst (pc' := 36) dX12_readLine_35 rfl ?_
          refine S.icmp_ne (pc' := 39) (tgt := 46) dX12_readLine_36 (by decide) rfl (by unfold fp_rng; omega) (by unfold fp_rng; omega) (fun h36 => ?_) (fun h36 => ?_)
          · refine S.iload_n (pc' := 47) dX12_readLine_46 rfl rfl rfl ?_
            refine S.iconst (pc' := 48) dX12_readLine_47 rfl ?_
            refine S.icmp_ne (pc' := 51) (tgt := 86) dX12_readLine_48 (by decide) rfl (by unfold fp_rng; omega) (by unfold fp_rng; omega) (fun h48 => ?_) (fun h48 => ?_)
            · refine S.aload_n (pc' := 87) dX12_readLine_86 rfl rfl rfl ?_
              refine S.iload_n (pc' := 88) dX12_readLine_87 rfl rfl rfl ?_
              refine S.iconst (pc' := 89) dX12_readLine_88 rfl ?_
              refine S.icmp_ne (pc' := 92) (tgt := 96) dX12_readLine_89 (by decide) rfl (by unfold fp_rng; omega) (by unfold fp_rng; omega) (fun h89 => ?_) (fun h89 => ?_)
              · exact absurd rfl h89
              · refine S.iconst (pc' := 93) dX12_readLine_92 rfl ?_
                refine S.goto (pc' := 97) dX12_readLine_93 (by decide) ?_
                refine S.callVv (pc' := 100) dX12_readLine_97 rfl cX12_177 (rk_X12_readVisit ht hm hq ho hi hd hD (Or.inr rfl)) rfl L_177 (by decide) rfl (Nat.le_of_ble_eq_true rfl) (fun M97 q97 => ?_)
                exact ml_100 ht (hmO _ _ q97) q97
            · exact absurd h48 (by decide)
          · exact absurd h36 (by decide)
        · exact absurd h24 (by decide)
      · exact absurd h14 (by decide)
    · have hp : pRow tp (tkS tp s) D = pVisit tp (tkS tp s) (nxt tp s) 0 D := by unfold pRow; rw [if_neg (hu 0 3 (by omega) (by omega) (by omega) cj), if_neg (hu 1 3 (by omega) (by omega) (by omega) cj), if_neg (hu 2 3 (by omega) (by omega) (by omega) cj), if_pos cj, hnx]
      rw [hp]
      refine S.aload_n (pc' := 1) dX12_readLine_0 rfl rfl rfl ?_
      refine S.callVe (pc' := 4) dX12_readLine_1 rfl cX12_149 hcall rfl L_177 (by decide) rfl (Nat.le_of_ble_eq_true rfl) ?_
      refine S.istore_n (pc' := 5) (LL' := [_, _]) dX12_readLine_4 rfl (by decide) rfl rfl rfl ?_
      refine S.iload_n (pc' := 6) dX12_readLine_5 rfl rfl rfl ?_
      refine S.i2l (pc' := 7) dX12_readLine_6 rfl (by unfold fp_rng; omega) ?_
      refine S.lconst (pc' := 8) (w := 0) dX12_readLine_7 rfl rfl ?_
      refine S.ldc2 (pc' := 11) (v := 4) dX12_readLine_8 rfl lX12_162 (by decide) ?_
      refine S.callSe (pc' := 14) dX12_readLine_11 rfl cX12_94 ok_X12_in rfl (by decide) rfl (Nat.le_of_ble_eq_true rfl) ?_
      refine S.if_ne (pc' := 17) (tgt := 23) dX12_readLine_14 (by decide) rfl (by unfold fp_rng; split <;> omega) (fun h14 => ?_) (fun h14 => ?_)
      · refine S.iload_n (pc' := 24) dX12_readLine_23 rfl rfl rfl ?_
        refine S.if_ne (pc' := 27) (tgt := 34) dX12_readLine_24 (by decide) rfl (by unfold fp_rng; omega) (fun h24 => ?_) (fun h24 => ?_)
        · refine S.iload_n (pc' := 35) dX12_readLine_34 rfl rfl rfl ?_
          refine S.iconst (pc' := 36) dX12_readLine_35 rfl ?_
          refine S.icmp_ne (pc' := 39) (tgt := 46) dX12_readLine_36 (by decide) rfl (by unfold fp_rng; omega) (by unfold fp_rng; omega) (fun h36 => ?_) (fun h36 => ?_)
          · refine S.iload_n (pc' := 47) dX12_readLine_46 rfl rfl rfl ?_
            refine S.iconst (pc' := 48) dX12_readLine_47 rfl ?_
            refine S.icmp_ne (pc' := 51) (tgt := 86) dX12_readLine_48 (by decide) rfl (by unfold fp_rng; omega) (by unfold fp_rng; omega) (fun h48 => ?_) (fun h48 => ?_)
            · refine S.aload_n (pc' := 87) dX12_readLine_86 rfl rfl rfl ?_
              refine S.iload_n (pc' := 88) dX12_readLine_87 rfl rfl rfl ?_
              refine S.iconst (pc' := 89) dX12_readLine_88 rfl ?_
              refine S.icmp_ne (pc' := 92) (tgt := 96) dX12_readLine_89 (by decide) rfl (by unfold fp_rng; omega) (by unfold fp_rng; omega) (fun h89 => ?_) (fun h89 => ?_)
              · refine S.iconst (pc' := 97) dX12_readLine_96 rfl ?_
                refine S.callVv (pc' := 100) dX12_readLine_97 rfl cX12_177 (rk_X12_readVisit ht hm hq ho hi hd hD (Or.inl rfl)) rfl L_177 (by decide) rfl (Nat.le_of_ble_eq_true rfl) (fun M97 q97 => ?_)
                exact ml_100 ht (hmO _ _ q97) q97
              · exact absurd h89 (by decide)
            · exact absurd h48 (by decide)
          · exact absurd h36 (by decide)
        · exact absurd h24 (by decide)
      · exact absurd h14 (by decide)
    · have hp : pRow tp (tkS tp s) D = pChance tp (tkS tp s) (nxt tp s) D := by unfold pRow; rw [if_neg (hu 0 4 (by omega) (by omega) (by omega) cj), if_neg (hu 1 4 (by omega) (by omega) (by omega) cj), if_neg (hu 2 4 (by omega) (by omega) (by omega) cj), if_neg (hu 3 4 (by omega) (by omega) (by omega) cj), if_pos cj, hnx]
      rw [hp]
      have h14f : M 177 14 = D.2.2.2.2.1 := hd.2.2.2.2.1
      have hct := hD.2.2.2.2.2.1
      by_cases hc : D.2.2.2.2.1 = 0
      · have hR : toR (pChance tp (tkS tp s) (nxt tp s) D) = stR tp (nuR tp 0 10 (.inr (nxt tp s))) ∧ ∀ q, pChance tp (tkS tp s) (nxt tp s) D = .inr q → q.2 = ((D.1.1, D.1.2.1, nuV tp 0 10 (.inr (nxt tp s)), D.1.2.2.2), D.2.1, D.2.2.1, D.2.2.2.1, 1, D.2.2.2.2.2) := by
          unfold pChance
          rw [if_neg (fun q => q hc)]
          by_cases b1 : nmOk tp (nxt tp s) 0 10
          · rw [if_neg (fun q => q b1)]
            simp only [nuR, nuV, stR, if_pos b1]
            by_cases b2 : spOk tp (nxt tp (nxt tp s))
            · rw [if_neg (fun q => q b2), if_pos b2]
              exact ⟨rfl, fun q e => by cases e; rfl⟩
            · rw [if_pos b2, if_neg b2]
              exact ⟨rfl, fun q e => by cases e⟩
          · rw [if_pos b1]
            simp only [nuR, nuV, stR, if_neg b1]
            exact ⟨rfl, fun q e => by cases e⟩
        have a1 : aT tp (fp_up M 177 14 1) (fp_up M 177 14 1) (.inr s) := a0.up (by omega)
        have hm1 : mtT (fp_up M 177 14 1) tp := ⟨hm.1, hm.2⟩
        have hDD : mrD (fp_up (fp_up M 177 14 1) 177 13 (nuV tp 0 10 (.inr (nxt tp s)))) ((D.1.1, D.1.2.1, nuV tp 0 10 (.inr (nxt tp s)), D.1.2.2.2), D.2.1, D.2.2.1, D.2.2.2.1, 1, D.2.2.2.2.2) := by
          obtain ⟨⟨g1, g2, g3, g4, g5, g6⟩, d2, d3, d4, d5, d6, d7⟩ := hd
          exact ⟨⟨g1, g2, rfl, g4, g5, g6⟩, d2, d3, d4, rfl, d6, d7⟩
        refine S.aload_n (pc' := 1) dX12_readLine_0 rfl rfl rfl ?_
        refine S.callVe (pc' := 4) dX12_readLine_1 rfl cX12_149 hcall rfl L_177 (by decide) rfl (Nat.le_of_ble_eq_true rfl) ?_
        refine S.istore_n (pc' := 5) (LL' := [_, _]) dX12_readLine_4 rfl (by decide) rfl rfl rfl ?_
        refine S.iload_n (pc' := 6) dX12_readLine_5 rfl rfl rfl ?_
        refine S.i2l (pc' := 7) dX12_readLine_6 rfl (by unfold fp_rng; omega) ?_
        refine S.lconst (pc' := 8) (w := 0) dX12_readLine_7 rfl rfl ?_
        refine S.ldc2 (pc' := 11) (v := 4) dX12_readLine_8 rfl lX12_162 (by decide) ?_
        refine S.callSe (pc' := 14) dX12_readLine_11 rfl cX12_94 ok_X12_in rfl (by decide) rfl (Nat.le_of_ble_eq_true rfl) ?_
        refine S.if_ne (pc' := 17) (tgt := 23) dX12_readLine_14 (by decide) rfl (by unfold fp_rng; split <;> omega) (fun h14 => ?_) (fun h14 => ?_)
        · refine S.iload_n (pc' := 24) dX12_readLine_23 rfl rfl rfl ?_
          refine S.if_ne (pc' := 27) (tgt := 34) dX12_readLine_24 (by decide) rfl (by unfold fp_rng; omega) (fun h24 => ?_) (fun h24 => ?_)
          · refine S.iload_n (pc' := 35) dX12_readLine_34 rfl rfl rfl ?_
            refine S.iconst (pc' := 36) dX12_readLine_35 rfl ?_
            refine S.icmp_ne (pc' := 39) (tgt := 46) dX12_readLine_36 (by decide) rfl (by unfold fp_rng; omega) (by unfold fp_rng; omega) (fun h36 => ?_) (fun h36 => ?_)
            · refine S.iload_n (pc' := 47) dX12_readLine_46 rfl rfl rfl ?_
              refine S.iconst (pc' := 48) dX12_readLine_47 rfl ?_
              refine S.icmp_ne (pc' := 51) (tgt := 86) dX12_readLine_48 (by decide) rfl (by unfold fp_rng; omega) (by unfold fp_rng; omega) (fun h48 => ?_) (fun h48 => ?_)
              · exact absurd rfl h48
              · refine S.aload_n (pc' := 52) dX12_readLine_51 rfl rfl rfl ?_
                refine S.getI (pc' := 55) dX12_readLine_52 rfl fX12_170 L_177 ?_
                rw [h14f, hc]
                refine S.if_eq (pc' := 58) (tgt := 63) dX12_readLine_55 (by decide) rfl (by unfold fp_rng; omega) (fun h55 => ?_) (fun h55 => ?_)
                · refine S.aload_n (pc' := 64) dX12_readLine_63 rfl rfl rfl ?_
                  refine S.iconst (pc' := 65) dX12_readLine_64 rfl ?_
                  refine S.putZ (pc' := 68) dX12_readLine_65 rfl fX12_170 L_177 (by first | exact Or.inl rfl | exact Or.inr rfl | omega) ?_
                  refine S.aload_n (pc' := 69) dX12_readLine_68 rfl rfl rfl ?_
                  refine S.callVv (pc' := 72) dX12_readLine_69 rfl cX12_136 (mt_st ht a1 ho hm1) rfl L_177 (by decide) rfl (Nat.le_of_ble_eq_true rfl) (fun M69 q69 => ?_)
                  refine S.aload_n (pc' := 73) dX12_readLine_72 rfl rfl rfl ?_
                  refine S.aload_n (pc' := 74) dX12_readLine_73 rfl rfl rfl ?_
                  refine S.iconst (pc' := 75) dX12_readLine_74 rfl ?_
                  refine S.bipush (pc' := 77) dX12_readLine_75 rfl (by decide) ?_
                  refine S.callVi (pc' := 80) dX12_readLine_77 rfl cX12_142 (mt_nu ht q69 hm1 (by unfold fp_rng; omega) (by unfold fp_rng; omega)) rfl L_177 (by decide) rfl (Nat.le_of_ble_eq_true rfl) (fun z77 M77 q77 => ?_)
                  obtain ⟨a77, z⟩ := q77
                  rw [z]
                  refine S.putI (pc' := 83) dX12_readLine_80 rfl fX12_174 L_177 ?_
                  refine S.goto (pc' := 100) dX12_readLine_83 (by decide) ?_
                  have a80 := a77.up (k := 177) (j := 13) (z := nuV tp 0 10 (.inr (nxt tp s))) (by omega)
                  have q : rlP tp M _ (pChance tp (tkS tp s) (nxt tp s) D) := ⟨frQ.trans (((frQ.refl M).up (by omega)).up (by omega)) a80.1.Q, a80.1.I (hi.kept rfl rfl rfl), _, a80.2, hR.1, fun q e => by rw [hR.2 q e]; exact a80.1.D hDD⟩
                  exact ml_100 ht (hmO _ _ q) q
                · exact absurd rfl h55
            · exact absurd h36 (by decide)
          · exact absurd h24 (by decide)
        · exact absurd h14 (by decide)
      · have hpn : pChance tp (tkS tp s) (nxt tp s) D = .inl (tkS tp s) := by unfold pChance; rw [if_pos hc]
        have hlo0 : fp_rng 0 := by unfold fp_rng; omega
        have a2 := (aT.no a0 (w := 4) (by omega)).up (k := 177) (j := 14) (z := 1) (by omega)
        have hm2 : mtT (fp_up M 177 14 1) tp := ⟨hm.1, hm.2⟩
        have h63 : ∀ o1, fp_S l G 4 kX12_readLine 63 [some (rV G 177), o1] [] (fp_up (fp_up M 177 21 4) 177 22 (tkS tp s)) (qV fun N => mlP tp M N (pChance tp (tkS tp s) (nxt tp s) D)) := by
          intro o1
          refine S.aload_n (pc' := 64) dX12_readLine_63 rfl rfl rfl ?_
          refine S.iconst (pc' := 65) dX12_readLine_64 rfl ?_
          refine S.putZ (pc' := 68) dX12_readLine_65 rfl fX12_170 L_177 (by first | exact Or.inl rfl | exact Or.inr rfl | omega) ?_
          refine S.aload_n (pc' := 69) dX12_readLine_68 rfl rfl rfl ?_
          refine S.callVw (pc' := 72) dX12_readLine_69 rfl cX12_136 (mt_step1 a2.2.1) rfl L_177 (by decide) rfl (Nat.le_of_ble_eq_true rfl) ?_
          refine S.aload_n (pc' := 73) dX12_readLine_72 rfl rfl rfl ?_
          refine S.aload_n (pc' := 74) dX12_readLine_73 rfl rfl rfl ?_
          refine S.iconst (pc' := 75) dX12_readLine_74 rfl ?_
          refine S.bipush (pc' := 77) dX12_readLine_75 rfl (by decide) ?_
          refine S.callVi (pc' := 80) dX12_readLine_77 rfl cX12_142 (mt_nu ht a2 hm2 (by unfold fp_rng; omega) (by unfold fp_rng; omega)) rfl L_177 (by decide) rfl (Nat.le_of_ble_eq_true rfl) (fun z77 M77 q77 => ?_)
          obtain ⟨a77, z⟩ := q77
          rw [z]
          refine S.putI (pc' := 83) dX12_readLine_80 rfl fX12_174 L_177 ?_
          refine S.goto (pc' := 100) dX12_readLine_83 (by decide) ?_
          have a80 := a77.up (k := 177) (j := 13) (z := nuV tp 0 10 (.inl (tkS tp s))) (by omega)
          have q : rlP tp M _ (pChance tp (tkS tp s) (nxt tp s) D) := ⟨frQ.trans (((frQ.refl M).up (by omega)).up (by omega)) a80.1.Q, a80.1.I (hi.kept rfl rfl rfl), _, a80.2, by rw [hpn]; rfl, fun q e => by rw [hpn] at e; cases e⟩
          exact ml_100 ht (hmO _ _ q) q
        refine S.aload_n (pc' := 1) dX12_readLine_0 rfl rfl rfl ?_
        refine S.callVe (pc' := 4) dX12_readLine_1 rfl cX12_149 hcall rfl L_177 (by decide) rfl (Nat.le_of_ble_eq_true rfl) ?_
        refine S.istore_n (pc' := 5) (LL' := [_, _]) dX12_readLine_4 rfl (by decide) rfl rfl rfl ?_
        refine S.iload_n (pc' := 6) dX12_readLine_5 rfl rfl rfl ?_
        refine S.i2l (pc' := 7) dX12_readLine_6 rfl (by unfold fp_rng; omega) ?_
        refine S.lconst (pc' := 8) (w := 0) dX12_readLine_7 rfl rfl ?_
        refine S.ldc2 (pc' := 11) (v := 4) dX12_readLine_8 rfl lX12_162 (by decide) ?_
        refine S.callSe (pc' := 14) dX12_readLine_11 rfl cX12_94 ok_X12_in rfl (by decide) rfl (Nat.le_of_ble_eq_true rfl) ?_
        refine S.if_ne (pc' := 17) (tgt := 23) dX12_readLine_14 (by decide) rfl (by unfold fp_rng; split <;> omega) (fun h14 => ?_) (fun h14 => ?_)
        · refine S.iload_n (pc' := 24) dX12_readLine_23 rfl rfl rfl ?_
          refine S.if_ne (pc' := 27) (tgt := 34) dX12_readLine_24 (by decide) rfl (by unfold fp_rng; omega) (fun h24 => ?_) (fun h24 => ?_)
          · refine S.iload_n (pc' := 35) dX12_readLine_34 rfl rfl rfl ?_
            refine S.iconst (pc' := 36) dX12_readLine_35 rfl ?_
            refine S.icmp_ne (pc' := 39) (tgt := 46) dX12_readLine_36 (by decide) rfl (by unfold fp_rng; omega) (by unfold fp_rng; omega) (fun h36 => ?_) (fun h36 => ?_)
            · refine S.iload_n (pc' := 47) dX12_readLine_46 rfl rfl rfl ?_
              refine S.iconst (pc' := 48) dX12_readLine_47 rfl ?_
              refine S.icmp_ne (pc' := 51) (tgt := 86) dX12_readLine_48 (by decide) rfl (by unfold fp_rng; omega) (by unfold fp_rng; omega) (fun h48 => ?_) (fun h48 => ?_)
              · exact absurd rfl h48
              · refine S.aload_n (pc' := 52) dX12_readLine_51 rfl rfl rfl ?_
                refine S.getI (pc' := 55) dX12_readLine_52 rfl fX12_170 L_177 ?_
                rw [h14f]
                refine S.if_eq (pc' := 58) (tgt := 63) dX12_readLine_55 (by decide) rfl (by unfold fp_rng; omega) (fun h55 => ?_) (fun h55 => ?_)
                · first
                  | exact absurd h55 hc
                  | (rw [hg.1]; exact h63 _)
                · refine S.aload_n (pc' := 59) dX12_readLine_58 rfl rfl rfl ?_
                  refine S.iconst (pc' := 60) dX12_readLine_59 rfl ?_
                  refine S.callVw (pc' := 63) dX12_readLine_60 rfl cX12_128 (mt_fails0 ho.1) rfl L_177 (by decide) rfl (Nat.le_of_ble_eq_true rfl) ?_
                  first
                  | exact absurd h55 hc
                  | (rw [hg.1]; exact h63 _)
            · exact absurd h36 (by decide)
          · exact absurd h24 (by decide)
        · exact absurd h14 (by decide)
  · have hp : pRow tp (tkS tp s) D = .inl (tkS tp s) := by
      have hf : ∀ i, i < 5 → ¬ nmW tp (tkS tp s) i = true := by
        intro i i5 q
        rcases hsp with ⟨_, b⟩ | ⟨j, a, b, c⟩
        · rw [b i (by omega) (by omega)] at q; exact absurd q (by decide)
        · have : i = j := nm_uniq (by omega) (by omega) q c
          omega
      unfold pRow
      rw [if_neg (hf 0 (by omega)), if_neg (hf 1 (by omega)), if_neg (hf 2 (by omega)), if_neg (hf 3 (by omega)), if_neg (hf 4 (by omega))]
    rw [hp]
    have a := aT.no a0 (w := 2) (by omega)
    clear hsp hu hmO
    refine S.aload_n (pc' := 1) dX12_readLine_0 rfl rfl rfl ?_
    refine S.callVe (pc' := 4) dX12_readLine_1 rfl cX12_149 (mt_name ht hm hK hg.1 hg.2.1 hg.2.2 (by omega) htk.2) rfl L_177 (by decide) rfl (Nat.le_of_ble_eq_true rfl) ?_
    refine S.istore_n (pc' := 5) (LL' := [_, _]) dX12_readLine_4 rfl (by decide) rfl rfl rfl ?_
    refine S.iload_n (pc' := 6) dX12_readLine_5 rfl rfl rfl ?_
    refine S.i2l (pc' := 7) dX12_readLine_6 rfl (by unfold fp_rng; omega) ?_
    refine S.lconst (pc' := 8) (w := 0) dX12_readLine_7 rfl rfl ?_
    refine S.ldc2 (pc' := 11) (v := 4) dX12_readLine_8 rfl lX12_162 (by decide) ?_
    refine S.callSe (pc' := 14) dX12_readLine_11 rfl cX12_94 ok_X12_in rfl (by decide) rfl (Nat.le_of_ble_eq_true rfl) ?_
    rw [if_neg hno]
    refine S.if_ne (pc' := 17) (tgt := 23) dX12_readLine_14 (by decide) rfl (by unfold fp_rng; omega) (fun h14 => ?_) (fun h14 => ?_)
    · exact absurd rfl h14
    · refine S.aload_n (pc' := 18) dX12_readLine_17 rfl rfl rfl ?_
      refine S.iconst (pc' := 19) dX12_readLine_18 rfl ?_
      refine S.callVw (pc' := 22) dX12_readLine_19 rfl cX12_128 (mt_fails0 ho.1) rfl L_177 (by decide) rfl (Nat.le_of_ble_eq_true rfl) ?_
      refine S.vret dX12_readLine_22 rfl ?_
      rw [hg.1]
      exact ⟨a.1.Q, a.1.I hi, a.2, fun q e => by cases e⟩
end MRW
