/-! A LINE TOLD IN A TEXT: the reference -/
theorem fp_wd_ne : ∀ i, i < 8 → ∀ j, j < 8 → i = j ∨ (fp_wd i).length ≠ (fp_wd j).length ∨ ∃ k, k < (fp_wd i).length ∧ (fp_wd i).getD k 0 ≠ (fp_wd j).getD k 0 := by decide +kernel
theorem nm_uniq {tp : List Int} {h : Int} {i j : Nat} (i8 : i < 8) (j8 : j < 8) (hi : nmW tp h i = true) (hj : nmW tp h j = true) : i = j := by
  unfold nmW at hi hj
  simp only [Bool.and_eq_true, wdB_iff] at hi hj
  obtain ⟨_, a1, a2⟩ := hi
  obtain ⟨_, b1, b2⟩ := hj
  rcases fp_wd_ne i i8 j j8 with e | e | ⟨k, k0, k1⟩
  · exact e
  · exfalso; omega
  · exfalso
    have p := a2 (k : Int) (by omega) (by omega)
    have q := b2 (k : Int) (by omega) (by omega)
    rw [Int.toNat_natCast] at p q
    exact k1 (p.symm.trans q)
theorem nmF_spec {tp : List Int} {h : Int} : ∀ r i, (nmF tp h r i = -4 ∧ ∀ j, i ≤ j → j < i + r → nmW tp h j = false) ∨ ∃ j, (i ≤ j ∧ j < i + r) ∧ nmF tp h r i = (j : Int) ∧ nmW tp h j = true
  | 0, i => Or.inl ⟨rfl, fun j a b => by omega⟩
  | r + 1, i => by
    unfold nmF
    by_cases e : nmW tp h i = true
    · rw [if_pos e]; exact Or.inr ⟨i, by omega, rfl, e⟩
    · rw [if_neg e]
      rcases nmF_spec (tp := tp) (h := h) r (i + 1) with ⟨a, b⟩ | ⟨j, a, b, c⟩
      · refine Or.inl ⟨a, fun j j0 j1 => ?_⟩
        by_cases ej : j = i
        · subst ej; simpa using e
        · exact b j (by omega) (by omega)
      · exact Or.inr ⟨j, by omega, b, c⟩
theorem aKd_nm (tp : List Int) (h : Int) : aKd tp h = if nmF tp h 8 0 - 5 < 0 then -4 else nmF tp h 8 0 - 5 := by
  unfold aKd
  rcases nmF_spec (tp := tp) (h := h) 8 0 with ⟨a, b⟩ | ⟨j, a, b, c⟩
  · rw [a, b 5 (by omega) (by omega), b 6 (by omega) (by omega), b 7 (by omega) (by omega)]
    rfl
  · rw [b]
    have hu : ∀ i, i < 8 → i ≠ j → ¬ nmW tp h i = true := fun i i8 ne q => ne (nm_uniq i8 (by omega) q c)
    by_cases j4 : j ≤ 4
    · rw [if_neg (hu 5 (by omega) (by omega)), if_neg (hu 6 (by omega) (by omega)), if_neg (hu 7 (by omega) (by omega)), if_pos (by omega)]
    · rw [if_neg (show ¬ ((j : Int) - 5 < 0) by omega)]
      rcases (show j = 5 ∨ j = 6 ∨ j = 7 by omega) with rfl | rfl | rfl
      · rw [if_pos c]; rfl
      · rw [if_neg (hu 5 (by omega) (by omega)), if_pos c]; rfl
      · rw [if_neg (hu 5 (by omega) (by omega)), if_neg (hu 6 (by omega) (by omega)), if_pos c]; rfl
theorem nm_ok {tp : List Int} {h : Int} (hn : h ≤ (tp.length : Int)) (hk : ¬ nmF tp h 8 0 = -4) : tkOk tp h := by
  have h1 : tkK tp h = 1 := by
    by_cases e : tkK tp h = 1
    · exact e
    · exact absurd (nmF_no e 8 0) hk
  unfold tkK at h1
  by_cases e1 : (tp.length : Int) ≤ h
  · exact Or.inl e1
  · rw [if_neg e1] at h1
    by_cases e2 : isLe (aBy tp h) = true
    · exact Or.inr (Or.inl e2)
    · rw [if_neg e2] at h1
      split at h1 <;> omega
theorem la_D {M A : fp_Mem} {D : pD} {x kd mk : Int} {L : List Int} (h : laI M x kd L mk A) (hd : mrD M D) (hD : dOk D) (hx : x = D.1.2.1) (x3 : x < 3) : mrD (fp_up A 177 12 (x + 1)) (pLn D kd L mk) := by
  obtain ⟨⟨h1, h2⟩, h3, h4, ⟨h5, h6, h7⟩, h8, h9⟩ := h
  obtain ⟨⟨g1, g2, g3, g4, g5, g6⟩, d2, d3, d4, d5, d6, d7⟩ := hd
  have hg := hD.1.1
  have hg2 := hD.1.2.1
  have hnil : D.2.2.1 x = [] := (hD.2.2.1 x (by omega) x3).2.2.1 (by omega)
  have e3 : fp_up A 177 12 (x + 1) 183 = M 183 := h1 183 (by decide) (by decide) (by decide)
  have e4 : fp_up A 177 12 (x + 1) 184 = M 184 := h1 184 (by decide) (by decide) (by decide)
  have e5 : fp_up A 177 12 (x + 1) 185 = fp_upf (M 185) x.toNat kd := h3
  have e2 : fp_up A 177 12 (x + 1) 182 = A 182 := rfl
  have hf : ∀ j, j ≠ 12 → j ≠ 15 → j ≠ 17 → fp_up A 177 12 (x + 1) 177 j = M 177 j := fun j j1 j2 j3 => by rw [fp_up_at, fp_upf_ne j1]; exact h2 j j2 j3
  refine ⟨⟨by rw [hf 11 (by decide) (by decide) (by decide)]; exact g1, by show x + 1 = D.1.2.1 + 1; rw [hx], by rw [hf 13 (by decide) (by decide) (by decide)]; exact g3, by rw [e3]; exact g4, by rw [e4]; exact g5, fun y y0 y1 => ?_⟩, ⟨fun u u0 u1 => ?_, fun y y0 y1 => ?_⟩, ⟨?_, d3.2.1, fun i i0 i1 => ?_⟩, h4, by rw [hf 14 (by decide) (by decide) (by decide)]; exact d5, ?_, ?_⟩
  · have y2 : y < D.1.2.1 + 1 := y1
    show _ = (if y = D.1.2.1 then kd else D.1.2.2.2.2.2 y)
    rw [e5]
    by_cases e : y = D.1.2.1
    · rw [if_pos e, e, ← hx]; simp [fp_upf]
    · rw [if_neg e, fp_upf_ne (by omega)]; exact g6 y y0 (by omega)
  · have u2 : u < D.1.1 := u1
    rw [e2, h7 _ (by omega)]; exact d2.1 u u0 u1
  · show _ = (((if y = D.1.2.1 then L else D.2.2.1 y).length : Nat) : Int) ∧ ∀ i : Int, 0 ≤ i → i < (((if y = D.1.2.1 then L else D.2.2.1 y).length : Nat) : Int) → _ = (if y = D.1.2.1 then L else D.2.2.1 y).getD i.toNat 0
    by_cases e : y = D.1.2.1
    · rw [if_pos e, e, ← hx, e2]; exact ⟨h5, h6⟩
    · rw [if_neg e, e2]
      obtain ⟨p1, p2⟩ := d2.2 y y0 y1
      have hlen := (hD.2.2.1 y y0 y1).1
      refine ⟨by rw [h7 _ (by omega)]; exact p1, fun i i0 i1 => ?_⟩
      rw [h7 _ (by omega)]; exact p2 i i0 i1
  · rw [e2, h7 _ (by omega)]; exact d3.1
  · rw [e2, h7 _ (by omega), h7 _ (by omega), h7 _ (by omega), h7 _ (by omega)]
    exact d3.2.2 i i0 i1
  · rw [e2, h7 _ (by omega)]; exact d6
  · obtain ⟨k1, k2, k3, k4⟩ := d7
    rw [hf 16 (by decide) (by decide) (by decide)]
    show mrH (A 177 15) (M 177 16) (fun y => if y = D.1.2.1 then L else D.2.2.1 y) D.2.2.2.2.2
    refine ⟨h8, k2, fun n n0 => ?_, k4⟩
    rw [h9 n n0, k3 n n0]
    constructor
    · rintro ⟨⟨a, b⟩, c⟩
      refine ⟨fun y t y0 y1 ht => ?_, b⟩
      by_cases e : y = D.1.2.1
      · simp only [if_pos e] at ht; exact c t ht
      · simp only [if_neg e] at ht; exact a y t y0 y1 ht
    · rintro ⟨a, b⟩
      refine ⟨⟨fun y t y0 y1 ht => ?_, b⟩, fun t ht => ?_⟩
      · by_cases e : y = D.1.2.1
        · rw [e, ← hx, hnil] at ht; exact (List.not_mem_nil ht).elim
        · exact a y t y0 y1 (by simp only [if_neg e]; exact ht)
      · exact a x t (by omega) x3 (by simp only [if_pos hx]; exact ht)
section MLJ
variable {l : Launch} {G : fp_WG} {M N A : fp_Mem} {tp : List Int} {r r' : Int ⊕ Int} {D : pD} {o1 o2 : Option Value}
theorem frW.K (h : frW M N) (hm : msK M) : msK N := h.Q.K hm
theorem rk_X12_readALine {s : Int} (ht : tpOk tp) (hm : mtT M tp) (hK : msK M) (hq : mq tp M (.inr s)) (ho : mtO tp M s) (hi : mrI M) (hd : mrD M D) (hD : dOk D) : fp_Ok l G 3 kX12_readALine [rV G 177] M (qV fun N => rlP tp M N (pLine tp (tkS tp s) (nxt tp s) D)) := by
  have h12 : M 177 12 = D.1.2.1 := hd.1.2.1
  have hg := hD.1.2.1
  refine fp_Ok.of (r := 2) rfl (Nat.le_of_ble_eq_true rfl) rfl ?_
  by_cases hl : 3 ≤ D.1.2.1
  · have hpn : pLine tp (tkS tp s) (nxt tp s) D = .inl (tkS tp s) := by unfold pLine; rw [if_pos hl]
    refine S.aload_n (pc' := 1) dX12_readALine_0 rfl rfl rfl ?_
    refine S.getI (pc' := 4) dX12_readALine_1 rfl fX12_146 L_177 ?_
    refine S.iconst (pc' := 5) dX12_readALine_4 rfl ?_
    rw [h12]
    refine S.icmp_ne (pc' := 8) (tgt := 14) dX12_readALine_5 (by decide) rfl (by unfold fp_rng; omega) (by unfold fp_rng; omega) (fun h5 => ?_) (fun h5 => ?_)
    · exfalso; omega
    · refine S.aload_n (pc' := 9) dX12_readALine_8 rfl rfl rfl ?_
      refine S.iconst (pc' := 10) dX12_readALine_9 rfl ?_
      refine S.callVw (pc' := 13) dX12_readALine_10 rfl cX12_128 (mt_fails0 ho.1) rfl L_177 (by decide) rfl (Nat.le_of_ble_eq_true rfl) ?_
      refine S.vret dX12_readALine_13 rfl ?_
      exact rl_no hi hq.2.1 (by omega) hpn
  · have hx := nxt_le hq.1.2
    have hs0 := hq.1.1
    have htk := tkS_le hx.2
    have a0 : aT tp M M (.inr s) := ⟨frW.refl _, hq⟩
    have hin := nmF_in (tp := tp) (h := tkS tp (nxt tp s)) 8 0
    have hkd := aKd_nm tp (tkS tp (nxt tp s))
    by_cases hneg : nmF tp (tkS tp (nxt tp s)) 8 0 - 5 < 0
    · rw [if_pos hneg] at hkd
      have hpn : pLine tp (tkS tp s) (nxt tp s) D = .inl (tkS tp (nxt tp s)) := by
        unfold pLine
        rw [if_neg hl]
        by_cases e : tkOk tp (tkS tp (nxt tp s))
        · rw [if_neg (fun z => z e), if_pos hkd]
        · rw [if_pos e]
      have hbr : ∀ O : fp_Mem, frW M O → mtB O (tkS tp (nxt tp s)) → rlP tp M O (pLine tp (tkS tp s) (nxt tp s) D) := fun O f b => ⟨f.Q, f.I hi, .inl _, b, by rw [hpn]; rfl, fun q e => by rw [hpn] at e; cases e⟩
      have h29 : ∀ (O : fp_Mem) (o1 o2 : Option Value), aT tp M O (.inr (nxt tp s)) → fp_S l G 3 kX12_readALine 29 [some (rV G 177), o1, o2] [] O (qV fun N => rlP tp M N (pLine tp (tkS tp s) (nxt tp s) D)) := by
        intro O o1 o2 a
        rcases a.2.2.2 with o | ⟨hno, hb⟩
        · have an := a.no (w := 2) (by omega)
          refine S.aload_n (pc' := 30) dX12_readALine_29 rfl rfl rfl ?_
          refine S.iconst (pc' := 31) dX12_readALine_30 rfl ?_
          refine S.callVw (pc' := 34) dX12_readALine_31 rfl cX12_128 (mt_fails0 o.1) rfl L_177 (by decide) rfl (Nat.le_of_ble_eq_true rfl) ?_
          refine S.vret dX12_readALine_34 rfl ?_
          rw [a.2.2.1.1]
          exact hbr _ an.1 an.2
        · refine S.aload_n (pc' := 30) dX12_readALine_29 rfl rfl rfl ?_
          refine S.iconst (pc' := 31) dX12_readALine_30 rfl ?_
          refine S.callVw (pc' := 34) dX12_readALine_31 rfl cX12_128 (mt_fails1 hb.1) rfl L_177 (by decide) rfl (Nat.le_of_ble_eq_true rfl) ?_
          refine S.vret dX12_readALine_34 rfl ?_
          exact hbr _ a.1 hb
      refine S.aload_n (pc' := 1) dX12_readALine_0 rfl rfl rfl ?_
      refine S.getI (pc' := 4) dX12_readALine_1 rfl fX12_146 L_177 ?_
      refine S.iconst (pc' := 5) dX12_readALine_4 rfl ?_
      rw [h12]
      refine S.icmp_ne (pc' := 8) (tgt := 14) dX12_readALine_5 (by decide) rfl (by unfold fp_rng; omega) (by unfold fp_rng; omega) (fun h5 => ?_) (fun h5 => ?_)
      · refine S.aload_n (pc' := 15) dX12_readALine_14 rfl rfl rfl ?_
        refine S.callVv (pc' := 18) dX12_readALine_15 rfl cX12_136 (mt_st ht a0 ho hm) rfl L_177 (by decide) rfl (Nat.le_of_ble_eq_true rfl) (fun M15 q15 => ?_)
        refine S.aload_n (pc' := 19) dX12_readALine_18 rfl rfl rfl ?_
        refine S.callVe (pc' := 22) dX12_readALine_19 rfl cX12_149 (mt_name ht (q15.1.T hm) (q15.1.K hK) q15.2.2.1.1 q15.2.2.1.2.1 q15.2.2.1.2.2 (by omega) htk.2) rfl L_177 (by decide) rfl (Nat.le_of_ble_eq_true rfl) ?_
        refine S.iconst (pc' := 23) dX12_readALine_22 rfl ?_
        refine S.isub (pc' := 24) dX12_readALine_23 rfl ?_
        refine S.istore_n (pc' := 25) (LL' := [_, _, _]) dX12_readALine_24 rfl (by decide) rfl rfl rfl ?_
        refine S.iload_n (pc' := 26) dX12_readALine_25 rfl rfl rfl ?_
        refine S.if_ge (pc' := 29) (tgt := 35) dX12_readALine_26 (by decide) rfl (by unfold fp_rng; omega) (fun h26 => ?_) (fun h26 => ?_)
        · exfalso; omega
        · exact h29 _ _ _ q15
      · exfalso; omega
    · rw [if_neg hneg] at hkd
      have hok := nm_ok htk.2 (by omega)
      have hkm : nmF tp (tkS tp (nxt tp s)) 8 0 - 5 ≤ 2 := by omega
      have hpl : pLine tp (tkS tp s) (nxt tp s) D = match pIt tp 9 (nxt tp (nxt tp s)) [] D.2.2.2.1 with
          | .inl h => .inl h
          | .inr q => .inr (q.1, pLn D (nmF tp (tkS tp (nxt tp s)) 8 0 - 5) q.2.1 q.2.2) := by
        unfold pLine
        rw [if_neg hl, if_neg (fun z => z hok), if_neg (by omega), hkd]
        cases pIt tp 9 (nxt tp (nxt tp s)) [] D.2.2.2.1 <;> rfl
      generalize hkk : nmF tp (tkS tp (nxt tp s)) 8 0 - 5 = kd at *
      have hnil : D.2.2.1 D.1.2.1 = [] := (hD.2.2.1 D.1.2.1 (by omega) (by omega)).2.2.1 (by omega)
      have hla : laI M D.1.2.1 kd [] D.2.2.2.1 (fp_up M 185 D.1.2.1.toNat kd) := by
        refine ⟨⟨fun a a1 a2 a3 => by rw [fp_up_ne a3], fun j j1 j2 => rfl⟩, rfl, hd.2.2.2.1, ⟨?_, fun i i0 i1 => ?_, fun j hj => rfl⟩, hd.2.2.2.2.2.2.1, fun n n0 => ⟨fun q => ⟨q, fun t ht => (List.not_mem_nil ht).elim⟩, fun q => q.1⟩⟩
        · have := (hd.2.1.2 D.1.2.1 (by omega) (by omega)).1
          rw [hnil] at this
          exact this
        · exact absurd i1 (by simp; omega)
      have hend : ∀ N', (∃ A' r L' mk', aT tp (fp_up A' 177 12 (D.1.2.1 + 1)) N' r ∧ laI M D.1.2.1 kd L' mk' A' ∧ toL (pIt tp 9 (nxt tp (nxt tp s)) [] D.2.2.2.1) = stR tp r ∧ ∀ q, pIt tp 9 (nxt tp (nxt tp s)) [] D.2.2.2.1 = .inr q → q.2 = (L', mk')) → rlP tp M N' (pLine tp (tkS tp s) (nxt tp s) D) := by
        rintro N' ⟨A', r, L', mk', a, hI, e1, e2⟩
        have hQ : frQ M (fp_up A' 177 12 (D.1.2.1 + 1)) := frQ.up ⟨fun c hc => hI.1.1 c (by omega) (by omega) (by omega), fun j hj => hI.1.2 j (by omega) (by omega)⟩ (by omega)
        have hII : mrI (fp_up A' 177 12 (D.1.2.1 + 1)) := by
          obtain ⟨i1, i2, i3⟩ := hi
          refine ⟨fun i i0 i4 => ?_, fun i i0 i4 => ?_, fun y y0 y1 => ?_⟩
          · rw [fp_up_ne (by decide), hI.1.1 183 (by decide) (by decide) (by decide)]; exact i1 i i0 i4
          · rw [fp_up_ne (by decide), hI.1.1 184 (by decide) (by decide) (by decide)]; exact i2 i i0 i4
          · rw [fp_up_ne (by decide), hI.2.1]
            unfold fp_upf
            split
            · omega
            · exact i3 y y0 y1
        refine ⟨hQ.trans a.1.Q, a.1.I hII, r, a.2, ?_, fun q e => ?_⟩
        · rw [← e1, hpl]
          cases pIt tp 9 (nxt tp (nxt tp s)) [] D.2.2.2.1 <;> rfl
        · rw [hpl] at e
          cases hP : pIt tp 9 (nxt tp (nxt tp s)) [] D.2.2.2.1 with
          | inl h => rw [hP] at e; cases e
          | inr p =>
            rw [hP] at e
            have := e2 p hP
            cases e
            rw [show p.2.1 = L' by rw [this], show p.2.2 = mk' by rw [this]]
            exact a.1.D (la_D hI hd hD rfl (by omega))
      refine S.aload_n (pc' := 1) dX12_readALine_0 rfl rfl rfl ?_
      refine S.getI (pc' := 4) dX12_readALine_1 rfl fX12_146 L_177 ?_
      refine S.iconst (pc' := 5) dX12_readALine_4 rfl ?_
      rw [h12]
      refine S.icmp_ne (pc' := 8) (tgt := 14) dX12_readALine_5 (by decide) rfl (by unfold fp_rng; omega) (by unfold fp_rng; omega) (fun h5 => ?_) (fun h5 => ?_)
      · refine S.aload_n (pc' := 15) dX12_readALine_14 rfl rfl rfl ?_
        refine S.callVv (pc' := 18) dX12_readALine_15 rfl cX12_136 (mt_st ht a0 ho hm) rfl L_177 (by decide) rfl (Nat.le_of_ble_eq_true rfl) (fun M15 q15 => ?_)
        refine S.aload_n (pc' := 19) dX12_readALine_18 rfl rfl rfl ?_
        refine S.callVe (pc' := 22) dX12_readALine_19 rfl cX12_149 (mt_name ht (q15.1.T hm) (q15.1.K hK) q15.2.2.1.1 q15.2.2.1.2.1 q15.2.2.1.2.2 (by omega) htk.2) rfl L_177 (by decide) rfl (Nat.le_of_ble_eq_true rfl) ?_
        refine S.iconst (pc' := 23) dX12_readALine_22 rfl ?_
        refine S.isub (pc' := 24) dX12_readALine_23 rfl ?_
        rw [hkk]
        refine S.istore_n (pc' := 25) (LL' := [_, _, _]) dX12_readALine_24 rfl (by decide) rfl rfl rfl ?_
        refine S.iload_n (pc' := 26) dX12_readALine_25 rfl rfl rfl ?_
        refine S.if_ge (pc' := 29) (tgt := 35) dX12_readALine_26 (by decide) rfl (by unfold fp_rng; omega) (fun h26 => ?_) (fun h26 => ?_)
        · have ho2 : mtO tp M15 (nxt tp s) := by
            rcases q15.2.2.2 with o | ⟨hno, _⟩
            · exact o
            · exact absurd hok hno
          refine S.aload_n (pc' := 36) dX12_readALine_35 rfl rfl rfl ?_
          refine S.callVv (pc' := 39) dX12_readALine_36 rfl cX12_136 (mt_st ht q15 ho2 hm) rfl L_177 (by decide) rfl (Nat.le_of_ble_eq_true rfl) (fun M36 q36 => ?_)
          refine S.aload_n (pc' := 40) dX12_readALine_39 rfl rfl rfl ?_
          refine S.getR (pc' := 43) dX12_readALine_40 rfl fX12_35 L_177 rf_177_10 ?_
          refine S.aload_n (pc' := 44) dX12_readALine_43 rfl rfl rfl ?_
          refine S.getI (pc' := 47) dX12_readALine_44 rfl fX12_146 L_177 ?_
          rw [show M36 177 12 = D.1.2.1 by rw [q36.rd (by omega)]; exact h12]
          refine S.iload_n (pc' := 48) dX12_readALine_47 rfl rfl rfl ?_
          refine S.iast (pc' := 49) dX12_readALine_48 rfl L_185 (by omega) (by omega) ?_
          refine S.bipush (pc' := 51) dX12_readALine_49 rfl (by decide) ?_
          refine S.bipush (pc' := 53) dX12_readALine_51 rfl (by decide) ?_
          refine S.aload_n (pc' := 54) dX12_readALine_53 rfl rfl rfl ?_
          refine S.getI (pc' := 57) dX12_readALine_54 rfl fX12_146 L_177 ?_
          rw [show fp_up M36 185 D.1.2.1.toNat kd 177 12 = D.1.2.1 by rw [fp_up_ne (by decide), q36.rd (by omega)]; exact h12]
          refine S.imul (pc' := 58) dX12_readALine_57 rfl ?_
          refine S.iadd (pc' := 59) dX12_readALine_58 rfl ?_
          refine S.istore_n (pc' := 60) (LL' := [_, _, _]) dX12_readALine_59 rfl (by decide) rfl rfl rfl ?_
          exact fp_S.wV (ln_loop ht hm (by omega) h12 9 _ [] D.2.2.2.1 _ _ rfl (by simp) (q36.up (by omega)) hla hD.2.2.2.2.1) (fun N' q => hend N' q)
        · exfalso; omega
      · exfalso; omega
end MLJ
