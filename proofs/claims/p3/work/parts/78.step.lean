/-! THE CLASS READS A TOKEN -/
/-- the reader stands at s: the tape is its text -/
def rdT (M : fp_Mem) (tp : List Int) : Prop := M 2 5 = 2 ∧ M 2 6 = (tp.length : Int) ∧ ∀ i : Int, 0 ≤ i → i < (tp.length : Int) → M 1 i.toNat = (aBy tp i).bmod 256
section STP
variable {l : Launch} {G : fp_WG} {M N : fp_Mem} {tp : List Int}
theorem ok_X6_refuse {w x : Int} : fp_Ok l G 0 kX6_refuse [rV G 2, iV w, iV x] M (qE 0 (fp_up (fp_up M 2 3 w) 2 4 x)) := by
  refine fp_Ok.of (r := 0) rfl (Nat.le_of_ble_eq_true rfl) rfl ?_
  refine S.aload_n (pc' := 1) dX6_refuse_0 rfl rfl rfl ?_
  refine S.iload_n (pc' := 2) dX6_refuse_1 rfl rfl rfl ?_
  refine S.putI (pc' := 5) dX6_refuse_2 rfl fX6_43 L_2 ?_
  refine S.aload_n (pc' := 6) dX6_refuse_5 rfl rfl rfl ?_
  refine S.iload_n (pc' := 7) dX6_refuse_6 rfl rfl rfl ?_
  refine S.putI (pc' := 10) dX6_refuse_7 rfl fX6_73 L_2 ?_
  refine S.iconst (pc' := 11) dX6_refuse_10 rfl ?_
  refine S.zret dX6_refuse_11 rfl (by first | exact Or.inl rfl | exact Or.inr rfl | omega) ?_
  exact ⟨rfl, rfl⟩
theorem ok_X6_isLetter {b : Int} (hb : fp_rng b) : fp_Ok l G 0 kX6_isLetter [iV b] M (qE (if 97 ≤ b ∧ b ≤ 122 then 1 else 0) M) := by
  refine fp_Ok.of (r := 0) rfl (Nat.le_of_ble_eq_true rfl) rfl ?_
  refine S.iload_n (pc' := 1) dX6_isLetter_0 rfl rfl rfl ?_
  refine S.bipush (pc' := 3) dX6_isLetter_1 rfl (by decide) ?_
  refine S.icmp_lt (pc' := 6) (tgt := 16) dX6_isLetter_3 (by decide) rfl hb (by unfold fp_rng; omega) (fun h3 => ?_) (fun h3 => ?_)
  · refine S.iconst (pc' := 17) dX6_isLetter_16 rfl ?_
    refine S.zret dX6_isLetter_17 rfl (by first | exact Or.inl rfl | exact Or.inr rfl | omega) ?_
    exact ⟨by split <;> first | rfl | omega, rfl⟩
  · refine S.iload_n (pc' := 7) dX6_isLetter_6 rfl rfl rfl ?_
    refine S.bipush (pc' := 9) dX6_isLetter_7 rfl (by decide) ?_
    refine S.icmp_gt (pc' := 12) (tgt := 16) dX6_isLetter_9 (by decide) rfl hb (by unfold fp_rng; omega) (fun h9 => ?_) (fun h9 => ?_)
    · refine S.iconst (pc' := 17) dX6_isLetter_16 rfl ?_
      refine S.zret dX6_isLetter_17 rfl (by first | exact Or.inl rfl | exact Or.inr rfl | omega) ?_
      exact ⟨by split <;> first | rfl | omega, rfl⟩
    · refine S.iconst (pc' := 13) dX6_isLetter_12 rfl ?_
      refine S.goto (pc' := 17) dX6_isLetter_13 (by decide) ?_
      refine S.zret dX6_isLetter_17 rfl (by first | exact Or.inl rfl | exact Or.inr rfl | omega) ?_
      exact ⟨by split <;> first | rfl | omega, rfl⟩
theorem ok_X6_isFigure {b : Int} (hb : fp_rng b) : fp_Ok l G 0 kX6_isFigure [iV b] M (qE (if 48 ≤ b ∧ b ≤ 57 then 1 else 0) M) := by
  refine fp_Ok.of (r := 0) rfl (Nat.le_of_ble_eq_true rfl) rfl ?_
  refine S.iload_n (pc' := 1) dX6_isFigure_0 rfl rfl rfl ?_
  refine S.bipush (pc' := 3) dX6_isFigure_1 rfl (by decide) ?_
  refine S.icmp_lt (pc' := 6) (tgt := 16) dX6_isFigure_3 (by decide) rfl hb (by unfold fp_rng; omega) (fun h3 => ?_) (fun h3 => ?_)
  · refine S.iconst (pc' := 17) dX6_isFigure_16 rfl ?_
    refine S.zret dX6_isFigure_17 rfl (by first | exact Or.inl rfl | exact Or.inr rfl | omega) ?_
    exact ⟨by split <;> first | rfl | omega, rfl⟩
  · refine S.iload_n (pc' := 7) dX6_isFigure_6 rfl rfl rfl ?_
    refine S.bipush (pc' := 9) dX6_isFigure_7 rfl (by decide) ?_
    refine S.icmp_gt (pc' := 12) (tgt := 16) dX6_isFigure_9 (by decide) rfl hb (by unfold fp_rng; omega) (fun h9 => ?_) (fun h9 => ?_)
    · refine S.iconst (pc' := 17) dX6_isFigure_16 rfl ?_
      refine S.zret dX6_isFigure_17 rfl (by first | exact Or.inl rfl | exact Or.inr rfl | omega) ?_
      exact ⟨by split <;> first | rfl | omega, rfl⟩
    · refine S.iconst (pc' := 13) dX6_isFigure_12 rfl ?_
      refine S.goto (pc' := 17) dX6_isFigure_13 (by decide) ?_
      refine S.zret dX6_isFigure_17 rfl (by first | exact Or.inl rfl | exact Or.inr rfl | omega) ?_
      exact ⟨by split <;> first | rfl | omega, rfl⟩
theorem isLe_bm {b : Int} (h : 0 ≤ b ∧ b < 256) : (if 97 ≤ b.bmod 256 ∧ b.bmod 256 ≤ 122 then (1 : Int) else 0) = if isLe b = true then 1 else 0 := by
  rw [by_bm h]
  unfold isLe
  simp only [decide_eq_true_eq]
  repeat' split
  all_goals first | rfl | omega
theorem isFi_bm {b : Int} (h : 0 ≤ b ∧ b < 256) : (if 48 ≤ b.bmod 256 ∧ b.bmod 256 ≤ 57 then (1 : Int) else 0) = if isFi b = true then 1 else 0 := by
  rw [by_bm h]
  unfold isFi
  simp only [decide_eq_true_eq]
  repeat' split
  all_goals first | rfl | omega
theorem bm_rng {b : Int} (h : 0 ≤ b ∧ b < 256) : fp_rng (b.bmod 256) := by
  rw [by_bm h]
  unfold fp_rng
  split <;> omega
theorem st_sp {Q : fp_Q} {s0 : Int} (ht : tpOk tp) (hm : rdT M tp) (K : fp_S l G 1 kX6_step 38 [some (rV G 2)] [] (fp_up M 2 7 (tkS tp s0)) Q) : ∀ (r : Nat) (s : Int), ((tp.length : Int) - s).toNat = r → 0 ≤ s → s ≤ (tp.length : Int) → aEnd isSp tp s = tkS tp s0 →
    fp_S l G 1 kX6_step 0 [some (rV G 2)] [] (fp_up M 2 7 s) Q := by
  obtain ⟨h5, h6, h1⟩ := hm
  have hn := ht.1
  intro r
  induction r with
  | zero =>
    intro s hr s0' s1 he
    have e7 : fp_up M 2 7 s 2 7 = s := rfl
    have e6 : fp_up M 2 7 s 2 6 = (tp.length : Int) := h6
    rw [aEnd_out (by omega)] at he
    refine S.aload_n (pc' := 1) dX6_step_0 rfl rfl rfl ?_
    refine S.getI (pc' := 4) dX6_step_1 rfl fX6_40 L_2 ?_
    refine S.aload_n (pc' := 5) dX6_step_4 rfl rfl rfl ?_
    refine S.getI (pc' := 8) dX6_step_5 rfl fX6_36 L_2 ?_
    rw [e7, e6]
    refine S.icmp_ge (pc' := 11) (tgt := 38) dX6_step_8 (by decide) rfl (by unfold fp_rng; omega) (by unfold fp_rng; omega) (fun h8 => ?_) (fun h8 => ?_)
    · rw [he]; exact K
    · exfalso; omega
  | succ r ih =>
    intro s hr s0' s1 he
    have e7 : fp_up M 2 7 s 2 7 = s := rfl
    have e6 : fp_up M 2 7 s 2 6 = (tp.length : Int) := h6
    have htx : fp_up M 2 7 s 2 5 = ((1 : Nat) : Int) + 1 := h5
    have hb := ht.2 s s0' (by omega)
    have e1 : fp_up M 2 7 s 1 s.toNat = (aBy tp s).bmod 256 := h1 s s0' (by omega)
    have hbm := by_bm hb
    rw [aEnd_step (by omega)] at he
    refine S.aload_n (pc' := 1) dX6_step_0 rfl rfl rfl ?_
    refine S.getI (pc' := 4) dX6_step_1 rfl fX6_40 L_2 ?_
    refine S.aload_n (pc' := 5) dX6_step_4 rfl rfl rfl ?_
    refine S.getI (pc' := 8) dX6_step_5 rfl fX6_36 L_2 ?_
    rw [e7, e6]
    refine S.icmp_ge (pc' := 11) (tgt := 38) dX6_step_8 (by decide) rfl (by unfold fp_rng; omega) (by unfold fp_rng; omega) (fun h8 => ?_) (fun h8 => ?_)
    · first | (exfalso; omega) | (rw [if_neg (by unfold isSp; simp only [decide_eq_true_eq]; rw [hbm] at h22; split at h22 <;> omega)] at he; rw [he]; exact K)
    · refine S.aload_n (pc' := 12) dX6_step_11 rfl rfl rfl ?_
      refine S.getT (pc' := 15) (t := 1) dX6_step_12 rfl fX6_32 L_2 rf_2_5 htx ?_
      refine S.aload_n (pc' := 16) dX6_step_15 rfl rfl rfl ?_
      refine S.getI (pc' := 19) dX6_step_16 rfl fX6_40 L_2 ?_
      rw [e7]
      refine S.bald (pc' := 20) dX6_step_19 rfl L_1 (by omega) (by omega) ?_
      rw [e1]
      refine S.bipush (pc' := 22) dX6_step_20 rfl (by decide) ?_
      refine S.icmp_ne (pc' := 25) (tgt := 38) dX6_step_22 (by decide) rfl (bm_rng hb) (by unfold fp_rng; omega) (fun h22 => ?_) (fun h22 => ?_)
      · first | (exfalso; omega) | (rw [if_neg (by unfold isSp; simp only [decide_eq_true_eq]; rw [hbm] at h22; split at h22 <;> omega)] at he; rw [he]; exact K)
      · refine S.aload_n (pc' := 26) dX6_step_25 rfl rfl rfl ?_
        refine S.dup (pc' := 27) dX6_step_26 rfl rfl ?_
        refine S.getI (pc' := 30) dX6_step_27 rfl fX6_40 L_2 ?_
        refine S.iconst (pc' := 31) dX6_step_30 rfl ?_
        refine S.iadd (pc' := 32) dX6_step_31 rfl ?_
        rw [e7]
        refine S.putI (pc' := 35) dX6_step_32 rfl fX6_40 L_2 ?_
        rw [fp_up_up]
        refine S.goto (pc' := 0) dX6_step_35 (by decide) ?_
        refine ih (s + 1) (by omega) (by omega) (by omega) ?_
        rw [if_pos (by unfold isSp; simp only [decide_eq_true_eq]; rw [hbm] at h22; split at h22 <;> omega)] at he
        exact he
theorem st_le {Q : fp_Q} {e0 : Int} (ht : tpOk tp) (hm : rdT M tp) (K : fp_S l G 1 kX6_step 123 [some (rV G 2)] [] (fp_up M 2 7 e0) Q) : ∀ (r : Nat) (s : Int), ((tp.length : Int) - s).toNat = r → 0 ≤ s → s ≤ (tp.length : Int) → aEnd isLe tp s = e0 →
    fp_S l G 1 kX6_step 84 [some (rV G 2)] [] (fp_up M 2 7 s) Q := by
  obtain ⟨h5, h6, h1⟩ := hm
  have hn := ht.1
  intro r
  induction r with
  | zero =>
    intro s hr s0' s1 he
    have e7 : fp_up M 2 7 s 2 7 = s := rfl
    have e6 : fp_up M 2 7 s 2 6 = (tp.length : Int) := h6
    rw [aEnd_out (by omega)] at he
    refine S.aload_n (pc' := 85) dX6_step_84 rfl rfl rfl ?_
    refine S.getI (pc' := 88) dX6_step_85 rfl fX6_40 L_2 ?_
    refine S.aload_n (pc' := 89) dX6_step_88 rfl rfl rfl ?_
    refine S.getI (pc' := 92) dX6_step_89 rfl fX6_36 L_2 ?_
    rw [e7, e6]
    refine S.icmp_ge (pc' := 95) (tgt := 123) dX6_step_92 (by decide) rfl (by unfold fp_rng; omega) (by unfold fp_rng; omega) (fun h92 => ?_) (fun h92 => ?_)
    · rw [he]; exact K
    · exfalso; omega
  | succ r ih =>
    intro s hr s0' s1 he
    have e7 : fp_up M 2 7 s 2 7 = s := rfl
    have e6 : fp_up M 2 7 s 2 6 = (tp.length : Int) := h6
    have htx : fp_up M 2 7 s 2 5 = ((1 : Nat) : Int) + 1 := h5
    have hb := ht.2 s s0' (by omega)
    have e1 : fp_up M 2 7 s 1 s.toNat = (aBy tp s).bmod 256 := h1 s s0' (by omega)
    have hbm := isLe_bm hb
    rw [aEnd_step (by omega)] at he
    by_cases hP : isLe (aBy tp s) = true
    · rw [if_pos hP] at he hbm
      refine S.aload_n (pc' := 85) dX6_step_84 rfl rfl rfl ?_
      refine S.getI (pc' := 88) dX6_step_85 rfl fX6_40 L_2 ?_
      refine S.aload_n (pc' := 89) dX6_step_88 rfl rfl rfl ?_
      refine S.getI (pc' := 92) dX6_step_89 rfl fX6_36 L_2 ?_
      rw [e7, e6]
      refine S.icmp_ge (pc' := 95) (tgt := 123) dX6_step_92 (by decide) rfl (by unfold fp_rng; omega) (by unfold fp_rng; omega) (fun h92 => ?_) (fun h92 => ?_)
      · exfalso; omega
      · refine S.aload_n (pc' := 96) dX6_step_95 rfl rfl rfl ?_
        refine S.getT (pc' := 99) (t := 1) dX6_step_96 rfl fX6_32 L_2 rf_2_5 htx ?_
        refine S.aload_n (pc' := 100) dX6_step_99 rfl rfl rfl ?_
        refine S.getI (pc' := 103) dX6_step_100 rfl fX6_40 L_2 ?_
        rw [e7]
        refine S.bald (pc' := 104) dX6_step_103 rfl L_1 (by omega) (by omega) ?_
        rw [e1]
        refine S.callSe (pc' := 107) dX6_step_104 rfl cX6_79 (ok_X6_isLetter (bm_rng hb)) rfl (by decide) rfl (Nat.le_of_ble_eq_true rfl) ?_
        rw [hbm]
        refine S.if_eq (pc' := 110) (tgt := 123) dX6_step_107 (by decide) rfl (by unfold fp_rng; omega) (fun h107 => ?_) (fun h107 => ?_)
        · exfalso; omega
        · refine S.aload_n (pc' := 111) dX6_step_110 rfl rfl rfl ?_
          refine S.dup (pc' := 112) dX6_step_111 rfl rfl ?_
          refine S.getI (pc' := 115) dX6_step_112 rfl fX6_40 L_2 ?_
          refine S.iconst (pc' := 116) dX6_step_115 rfl ?_
          refine S.iadd (pc' := 117) dX6_step_116 rfl ?_
          rw [e7]
          refine S.putI (pc' := 120) dX6_step_117 rfl fX6_40 L_2 ?_
          rw [fp_up_up]
          refine S.goto (pc' := 84) dX6_step_120 (by decide) ?_
          exact ih (s + 1) (by omega) (by omega) (by omega) he
    · rw [if_neg hP] at he hbm
      refine S.aload_n (pc' := 85) dX6_step_84 rfl rfl rfl ?_
      refine S.getI (pc' := 88) dX6_step_85 rfl fX6_40 L_2 ?_
      refine S.aload_n (pc' := 89) dX6_step_88 rfl rfl rfl ?_
      refine S.getI (pc' := 92) dX6_step_89 rfl fX6_36 L_2 ?_
      rw [e7, e6]
      refine S.icmp_ge (pc' := 95) (tgt := 123) dX6_step_92 (by decide) rfl (by unfold fp_rng; omega) (by unfold fp_rng; omega) (fun h92 => ?_) (fun h92 => ?_)
      · first | (exfalso; omega) | (rw [he]; exact K)
      · refine S.aload_n (pc' := 96) dX6_step_95 rfl rfl rfl ?_
        refine S.getT (pc' := 99) (t := 1) dX6_step_96 rfl fX6_32 L_2 rf_2_5 htx ?_
        refine S.aload_n (pc' := 100) dX6_step_99 rfl rfl rfl ?_
        refine S.getI (pc' := 103) dX6_step_100 rfl fX6_40 L_2 ?_
        rw [e7]
        refine S.bald (pc' := 104) dX6_step_103 rfl L_1 (by omega) (by omega) ?_
        rw [e1]
        refine S.callSe (pc' := 107) dX6_step_104 rfl cX6_79 (ok_X6_isLetter (bm_rng hb)) rfl (by decide) rfl (Nat.le_of_ble_eq_true rfl) ?_
        rw [hbm]
        refine S.if_eq (pc' := 110) (tgt := 123) dX6_step_107 (by decide) rfl (by unfold fp_rng; omega) (fun h107 => ?_) (fun h107 => ?_)
        · first | (exfalso; omega) | (rw [he]; exact K)
        · exfalso; omega
theorem fp_up4 (M : fp_Mem) (v s v' s' : Int) : fp_up (fp_up (fp_up (fp_up M 2 10 v) 2 7 s) 2 10 v') 2 7 s' = fp_up (fp_up M 2 10 v') 2 7 s' := by
  funext x y
  simp only [fp_up, fp_upM]
  by_cases hx : x = 2
  · subst hx
    by_cases hy : y = 7
    · simp [hy, fp_upf]
    · by_cases h0 : y = 10
      · simp [h0, fp_upf]
      · simp [hy, h0, fp_upf]
  · simp [hx]
theorem st_fi {Q : fp_Q} {e0 h : Int} (ht : tpOk tp) (hm : rdT M tp) (K : fp_S l G 1 kX6_step 213 [some (rV G 2)] [] (fp_up (fp_up M 2 10 (aDec tp h (e0 - h).toNat)) 2 7 e0) Q) : ∀ (r : Nat) (s : Int), ((tp.length : Int) - s).toNat = r → 0 ≤ h → h ≤ s → s ≤ (tp.length : Int) → aEnd isFi tp s = e0 →
    fp_S l G 1 kX6_step 150 [some (rV G 2)] [] (fp_up (fp_up M 2 10 (aDec tp h (s - h).toNat)) 2 7 s) Q := by
  obtain ⟨h5, h6, h1⟩ := hm
  have hn := ht.1
  intro r
  induction r with
  | zero =>
    intro s hr hh0 s0' s1 he
    have e7 : fp_up (fp_up M 2 10 (aDec tp h (s - h).toNat)) 2 7 s 2 7 = s := rfl
    have e6 : fp_up (fp_up M 2 10 (aDec tp h (s - h).toNat)) 2 7 s 2 6 = (tp.length : Int) := h6
    rw [aEnd_out (by omega)] at he
    subst he
    refine S.aload_n (pc' := 151) dX6_step_150 rfl rfl rfl ?_
    refine S.getI (pc' := 154) dX6_step_151 rfl fX6_40 L_2 ?_
    refine S.aload_n (pc' := 155) dX6_step_154 rfl rfl rfl ?_
    refine S.getI (pc' := 158) dX6_step_155 rfl fX6_36 L_2 ?_
    rw [e7, e6]
    refine S.icmp_ge (pc' := 161) (tgt := 213) dX6_step_158 (by decide) rfl (by unfold fp_rng; omega) (by unfold fp_rng; omega) (fun h158 => ?_) (fun h158 => ?_)
    · exact K
    · exfalso; omega
  | succ r ih =>
    intro s hr hh0 s0' s1 he
    have e7 : fp_up (fp_up M 2 10 (aDec tp h (s - h).toNat)) 2 7 s 2 7 = s := rfl
    have e6 : fp_up (fp_up M 2 10 (aDec tp h (s - h).toNat)) 2 7 s 2 6 = (tp.length : Int) := h6
    have e10 : fp_up (fp_up M 2 10 (aDec tp h (s - h).toNat)) 2 7 s 2 10 = aDec tp h (s - h).toNat := rfl
    have htx : fp_up (fp_up M 2 10 (aDec tp h (s - h).toNat)) 2 7 s 2 5 = ((1 : Nat) : Int) + 1 := h5
    have hb := ht.2 s (by omega) (by omega)
    have e1 : fp_up (fp_up M 2 10 (aDec tp h (s - h).toNat)) 2 7 s 1 s.toNat = (aBy tp s).bmod 256 := h1 s (by omega) (by omega)
    have hbm := isFi_bm hb
    rw [aEnd_step (by omega)] at he
    by_cases hP : isFi (aBy tp s) = true
    · rw [if_pos hP] at he hbm
      have hd : aDec tp h (s + 1 - h).toNat = aDec tp h (s - h).toNat * 10 + aBy tp s - 48 := by
        rw [show (s + 1 - h).toNat = (s - h).toNat + 1 by omega]
        show aDec tp h (s - h).toNat * 10 + aBy tp (h + ((s - h).toNat : Nat)) - 48 = _
        rw [show h + (((s - h).toNat : Nat) : Int) = s by omega]
      have hbv : (aBy tp s).bmod 256 = aBy tp s := by
        rw [by_bm hb]
        unfold isFi at hP
        simp only [decide_eq_true_eq] at hP
        rw [if_pos (by omega)]
      refine S.aload_n (pc' := 151) dX6_step_150 rfl rfl rfl ?_
      refine S.getI (pc' := 154) dX6_step_151 rfl fX6_40 L_2 ?_
      refine S.aload_n (pc' := 155) dX6_step_154 rfl rfl rfl ?_
      refine S.getI (pc' := 158) dX6_step_155 rfl fX6_36 L_2 ?_
      rw [e7, e6]
      refine S.icmp_ge (pc' := 161) (tgt := 213) dX6_step_158 (by decide) rfl (by unfold fp_rng; omega) (by unfold fp_rng; omega) (fun h158 => ?_) (fun h158 => ?_)
      · exfalso; omega
      · refine S.aload_n (pc' := 162) dX6_step_161 rfl rfl rfl ?_
        refine S.getT (pc' := 165) (t := 1) dX6_step_162 rfl fX6_32 L_2 rf_2_5 htx ?_
        refine S.aload_n (pc' := 166) dX6_step_165 rfl rfl rfl ?_
        refine S.getI (pc' := 169) dX6_step_166 rfl fX6_40 L_2 ?_
        rw [e7]
        refine S.bald (pc' := 170) dX6_step_169 rfl L_1 (by omega) (by omega) ?_
        rw [e1]
        refine S.callSe (pc' := 173) dX6_step_170 rfl cX6_83 (ok_X6_isFigure (bm_rng hb)) rfl (by decide) rfl (Nat.le_of_ble_eq_true rfl) ?_
        rw [hbm]
        refine S.if_eq (pc' := 176) (tgt := 213) dX6_step_173 (by decide) rfl (by unfold fp_rng; omega) (fun h173 => ?_) (fun h173 => ?_)
        · exfalso; omega
        · refine S.aload_n (pc' := 177) dX6_step_176 rfl rfl rfl ?_
          refine S.aload_n (pc' := 178) dX6_step_177 rfl rfl rfl ?_
          refine S.getI (pc' := 181) dX6_step_178 rfl fX6_86 L_2 ?_
          rw [e10]
          refine S.bipush (pc' := 183) dX6_step_181 rfl (by decide) ?_
          refine S.imul (pc' := 184) dX6_step_183 rfl ?_
          refine S.aload_n (pc' := 185) dX6_step_184 rfl rfl rfl ?_
          refine S.getT (pc' := 188) (t := 1) dX6_step_185 rfl fX6_32 L_2 rf_2_5 htx ?_
          refine S.aload_n (pc' := 189) dX6_step_188 rfl rfl rfl ?_
          refine S.getI (pc' := 192) dX6_step_189 rfl fX6_40 L_2 ?_
          rw [e7]
          refine S.bald (pc' := 193) dX6_step_192 rfl L_1 (by omega) (by omega) ?_
          rw [e1, hbv]
          refine S.iadd (pc' := 194) dX6_step_193 rfl ?_
          refine S.bipush (pc' := 196) dX6_step_194 rfl (by decide) ?_
          refine S.isub (pc' := 197) dX6_step_196 rfl ?_
          rw [← hd]
          refine S.putI (pc' := 200) dX6_step_197 rfl fX6_86 L_2 ?_
          refine S.aload_n (pc' := 201) dX6_step_200 rfl rfl rfl ?_
          refine S.dup (pc' := 202) dX6_step_201 rfl rfl ?_
          refine S.getI (pc' := 205) dX6_step_202 rfl fX6_40 L_2 ?_
          refine S.iconst (pc' := 206) dX6_step_205 rfl ?_
          refine S.iadd (pc' := 207) dX6_step_206 rfl ?_
          rw [show fp_up (fp_up (fp_up M 2 10 (aDec tp h (s - h).toNat)) 2 7 s) 2 10 (aDec tp h (s + 1 - h).toNat) 2 7 = s from rfl]
          refine S.putI (pc' := 210) dX6_step_207 rfl fX6_40 L_2 ?_
          rw [fp_up4]
          refine S.goto (pc' := 150) dX6_step_210 (by decide) ?_
          exact ih (s + 1) (by omega) hh0 (by omega) (by omega) he
    · rw [if_neg hP] at he hbm
      subst he
      refine S.aload_n (pc' := 151) dX6_step_150 rfl rfl rfl ?_
      refine S.getI (pc' := 154) dX6_step_151 rfl fX6_40 L_2 ?_
      refine S.aload_n (pc' := 155) dX6_step_154 rfl rfl rfl ?_
      refine S.getI (pc' := 158) dX6_step_155 rfl fX6_36 L_2 ?_
      rw [e7, e6]
      refine S.icmp_ge (pc' := 161) (tgt := 213) dX6_step_158 (by decide) rfl (by unfold fp_rng; omega) (by unfold fp_rng; omega) (fun h158 => ?_) (fun h158 => ?_)
      · first | (exfalso; omega) | exact K
      · refine S.aload_n (pc' := 162) dX6_step_161 rfl rfl rfl ?_
        refine S.getT (pc' := 165) (t := 1) dX6_step_162 rfl fX6_32 L_2 rf_2_5 htx ?_
        refine S.aload_n (pc' := 166) dX6_step_165 rfl rfl rfl ?_
        refine S.getI (pc' := 169) dX6_step_166 rfl fX6_40 L_2 ?_
        rw [e7]
        refine S.bald (pc' := 170) dX6_step_169 rfl L_1 (by omega) (by omega) ?_
        rw [e1]
        refine S.callSe (pc' := 173) dX6_step_170 rfl cX6_83 (ok_X6_isFigure (bm_rng hb)) rfl (by decide) rfl (Nat.le_of_ble_eq_true rfl) ?_
        rw [hbm]
        refine S.if_eq (pc' := 176) (tgt := 213) dX6_step_173 (by decide) rfl (by unfold fp_rng; omega) (fun h173 => ?_) (fun h173 => ?_)
        · first | (exfalso; omega) | exact K
        · exfalso; omega
end STP
