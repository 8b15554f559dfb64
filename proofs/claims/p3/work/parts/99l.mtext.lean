/-! THE LINES OF A TEXT: the reference -/
def txM (tp : List Int) (M N : fp_Mem) (r : Int ⊕ (Int × pD)) (z : Int) : Prop := frQ M N ∧ mrI N ∧ ((∃ h, r = .inl h ∧ mtB N h) ∨ ∃ q, r = .inr q ∧ z = q.1 ∧ N 177 21 = 0 ∧ N 177 24 = (tp.length : Int) ∧ mrD N q.2 ∧ dOk q.2)
section MTX
variable {l : Launch} {G : fp_WG} {M N O : fp_Mem} {tp : List Int} {D : pD} {o : Option Value}
theorem mb_73B {Q : fp_Q} {h i : Int} (hb : mtB N h) (K : fp_S l G 5 kX12_bank 97 [some (rV G 177), some (iV i), o] [] N Q) : fp_S l G 5 kX12_bank 73 [some (rV G 177), some (iV i), o] [] N Q := by
  have b1 := hb.1
  refine S.aload_n (pc' := 74) dX12_bank_73 rfl rfl rfl ?_
  refine S.getI (pc' := 77) dX12_bank_74 rfl fX12_98 L_177 ?_
  refine S.if_ne (pc' := 80) (tgt := 97) dX12_bank_77 (by decide) rfl (by unfold fp_rng; omega) (fun h77 => ?_) (fun h77 => ?_)
  · exact K
  · exfalso; omega
theorem mb_loop {R : Int ⊕ (Int × pD)} {Q : fp_Q} (ht : tpOk tp) (hm : mtT M tp) (hK : msK M) (K : ∀ (N : fp_Mem) (z : Int), txM tp M N R z → fp_S l G 5 kX12_bank 97 [some (rV G 177), some (iV z), o] [] N Q) : ∀ (k : Nat) (s i : Int) (D : pD) (N : fp_Mem), ((tp.length : Int) - s).toNat < k → 0 ≤ i → i ≤ s → frQ M N → mq tp N (.inr s) → mrD N D → dOk D → mrI N → pText tp k s i D = R →
    fp_S l G 5 kX12_bank 73 [some (rV G 177), some (iV i), o] [] N Q := by
  intro k
  have hn := ht.1
  induction k with
  | zero => intro s i D N hk; omega
  | succ k ih =>
    intro s i D N hk i0 i1 hf hq hd hD hi hR
    have hs := hq.1
    have hS := tkS_le hs.2
    have hkk := tkK_in tp (tkS tp s)
    unfold pText at hR
    rcases hq.2.2 with ho | ⟨hno, hb⟩
    · rw [if_neg (fun q => q ho.2.1)] at hR
      by_cases h0 : tkK tp (tkS tp s) = 0
      · rw [if_pos h0] at hR
        have hend : tkS tp s = (tp.length : Int) := by
          unfold tkK at h0
          by_cases e : (tp.length : Int) ≤ tkS tp s
          · omega
          · rw [if_neg e] at h0
            repeat' split at h0
            all_goals omega
        refine S.aload_n (pc' := 74) dX12_bank_73 rfl rfl rfl ?_
        refine S.getI (pc' := 77) dX12_bank_74 rfl fX12_98 L_177 ?_
        rw [ho.1]
        refine S.if_ne (pc' := 80) (tgt := 97) dX12_bank_77 (by decide) rfl (by unfold fp_rng; omega) (fun h77 => ?_) (fun h77 => ?_)
        · first
          | exact absurd rfl h77
          | exact K _ _ ⟨hf, hi, Or.inr ⟨_, hR.symm, rfl, ho.1, hq.2.1.1.trans hend, hd, hD⟩⟩
        · refine S.aload_n (pc' := 81) dX12_bank_80 rfl rfl rfl ?_
          refine S.getI (pc' := 84) dX12_bank_81 rfl fX12_107 L_177 ?_
          rw [hq.2.1.2.2, h0]
          refine S.if_eq (pc' := 87) (tgt := 97) dX12_bank_84 (by decide) rfl (by unfold fp_rng; omega) (fun h84 => ?_) (fun h84 => ?_)
          · first
            | exact absurd rfl h77
            | exact K _ _ ⟨hf, hi, Or.inr ⟨_, hR.symm, rfl, ho.1, hq.2.1.1.trans hend, hd, hD⟩⟩
          · exact absurd rfl h84
      · rw [if_neg h0] at hR
        refine S.aload_n (pc' := 74) dX12_bank_73 rfl rfl rfl ?_
        refine S.getI (pc' := 77) dX12_bank_74 rfl fX12_98 L_177 ?_
        rw [ho.1]
        refine S.if_ne (pc' := 80) (tgt := 97) dX12_bank_77 (by decide) rfl (by unfold fp_rng; omega) (fun h77 => ?_) (fun h77 => ?_)
        · first
          | exact absurd rfl h77
          | exact absurd h84 h0
        · refine S.aload_n (pc' := 81) dX12_bank_80 rfl rfl rfl ?_
          refine S.getI (pc' := 84) dX12_bank_81 rfl fX12_107 L_177 ?_
          rw [hq.2.1.2.2]
          refine S.if_eq (pc' := 87) (tgt := 97) dX12_bank_84 (by decide) rfl (by unfold fp_rng; omega) (fun h84 => ?_) (fun h84 => ?_)
          · first
            | exact absurd rfl h77
            | exact absurd h84 h0
          · refine S.aload_n (pc' := 88) dX12_bank_87 rfl rfl rfl ?_
            refine S.callVv (pc' := 91) dX12_bank_88 rfl cX12_187 (rk_X12_readLine ht (hf.T hm) (hf.K hK) hq ho hi hd hD) rfl L_177 (by decide) rfl (Nat.le_of_ble_eq_true rfl) (fun M88 q88 => ?_)
            refine S.iinc (pc' := 94) (LL' := [_, _, _]) dX12_bank_91 rfl (by decide) rfl rfl rfl ?_
            refine S.goto (pc' := 73) dX12_bank_94 (by decide) ?_
            obtain ⟨f1, f2, f3, f4⟩ := q88
            cases hP : pRow tp (tkS tp s) D with
            | inl h =>
              rw [hP] at hR f3
              exact mb_73B f3 (K _ _ ⟨hf.trans f1, f2, Or.inl ⟨h, hR.symm, f3⟩⟩)
            | inr q =>
              rw [hP] at hR f3
              obtain ⟨r1, r2, r3⟩ := pRow_ok hS.2 hD hP
              exact ih q.1 (i + 1) q.2 _ (by omega) (by omega) (by omega) (hf.trans f1) f3 (f4 q hP) r1 f2 hR
    · rw [if_pos hno] at hR
      exact mb_73B hb (K _ _ ⟨hf, hi, Or.inl ⟨_, hR.symm, hb⟩⟩)
end MTX
