/-! READ -/
def aRd (g : aGd) (vs0 : List aVt) (tn : Int) (c : Int → Int) (len f : Int) : Nat → Int → List aVt → Int × List aVt × Int
  | 0, j, vs => (j, vs, 0)
  | n + 1, j, vs => if ¬ (0 ≤ f ∧ f + 4 * j + 3 < len) then (j, vs, 2) else if (A_come g vs (c (f + 4 * j)) (c (f + 4 * j + 1)) (c (f + 4 * j + 2)) (c (f + 4 * j + 3))).1 < 0 then (-20 - j, vs0, tn) else aRd g vs0 tn c len f n (j + 1) (A_come g vs (c (f + 4 * j)) (c (f + 4 * j + 1)) (c (f + 4 * j + 2)) (c (f + 4 * j + 3))).2
def A_read (g : aGd) (vs : List aVt) (sh : aSh) (tn k lane f n : Int) : Int × List aVt × Int := if ¬ ((0 ≤ k ∧ k ≤ 3) ∧ (0 ≤ lane ∧ lane ≤ 2) ∧ (0 ≤ n ∧ n ≤ 10)) then (-1, vs, tn) else if n = 0 then (0, vs, 0) else if (sh k).1 = -4 then (0, vs, 1) else if (sh k).1 ≠ lane then (0, vs, 3) else aRd g vs tn (sh k).2.2 (sh k).2.1 f n.toNat 0 vs
theorem A_come_or (g : aGd) (vs : List aVt) (a b c d : Int) : ((A_come g vs a b c d).1 < 0 ∧ (A_come g vs a b c d).2 = vs) ∨ (0 ≤ (A_come g vs a b c d).1 ∧ (A_come g vs a b c d).2 = vs ++ [(a, b, c, d)]) := by
  unfold A_come
  split
  · exact Or.inl ⟨by dsimp only; omega, rfl⟩
  · split
    · exact Or.inl ⟨by dsimp only; omega, rfl⟩
    · exact Or.inr ⟨by dsimp only; omega, rfl⟩
theorem aRd_ok {g : aGd} {vs0 : List aVt} {tn : Int} {c : Int → Int} {len f : Int} (h0 : vsOk g vs0) : ∀ (n : Nat) (j : Int) (vs : List aVt), vsOk g vs → vsOk g (aRd g vs0 tn c len f n j vs).2.1
  | 0, j, vs, h => h
  | n + 1, j, vs, h => by
    unfold aRd
    split
    · exact h
    · split
      · exact h0
      · exact aRd_ok h0 n (j + 1) _ (A_come_ok h)
theorem A_read_ok {g : aGd} {vs : List aVt} {sh : aSh} {tn k lane f n : Int} (h : vsOk g vs) : vsOk g (A_read g vs sh tn k lane f n).2.1 := by
  unfold A_read
  (repeat' split) <;> first | exact h | exact aRd_ok h _ _ _ h
theorem fp_rem4 {i : Int} (h : 0 ≤ i ∧ i < 40) : Int32.ofInt i - Int32.ofInt i / Int32.ofInt 4 * Int32.ofInt 4 = Int32.ofInt (i % 4) := by
  obtain ⟨n, rfl⟩ := Int.eq_ofNat_of_zero_le h.1
  exact (by decide +kernel : ∀ n : Nat, n < 40 → Int32.ofInt (n : Int) - Int32.ofInt n / Int32.ofInt 4 * Int32.ofInt 4 = Int32.ofInt ((n : Int) % 4)) n (by omega)
section REA
variable {l : Launch} {G : fp_WG} {M N : fp_Mem} {tp tp' : List Int} {fl fl' : Int} {g : aGd} {pg pg' : aPg} {vs vs' : List aVt} {nt nt' : List Int} {im im' : aIm} {sh sh' : aSh} {tn tn' : Int} {k k2 : Nat}
theorem vsIs.pre {ex : List aVt} (h : vsIs M k (vs ++ ex)) (e0 : N k 0 = vs.length) (e : ∀ a, k < a → a ≤ k + 4 → N a = M a) : vsIs N k vs := by
  obtain ⟨h1, h2, h3⟩ := h
  rw [List.length_append] at h1 h2
  refine ⟨e0, by omega, fun i i0 i1 => ?_⟩
  rw [e (k + 1) (by omega) (by omega), e (k + 2) (by omega) (by omega), e (k + 3) (by omega) (by omega), e (k + 4) (by omega) (by omega)]
  have q := h3 i i0 (by rw [List.length_append]; omega)
  rw [show (vs ++ ex).getD i.toNat aV0 = vs.getD i.toNat aV0 by rw [List.getD_eq_getElem?_getD, List.getElem?_append_left (by omega), List.getD_eq_getElem?_getD]] at q
  exact q
theorem mvRow.pre {f h : Nat → Int} {ex : List aVt} (c : mvRow f (vs ++ ex)) (e0 : h 95 = vs.length) (e : ∀ j : Nat, j < 95 → h j = f j) : mvRow h vs := by
  obtain ⟨h1, h2, h3⟩ := c
  rw [List.length_append] at h1 h2
  refine ⟨e0, by omega, fun i i0 i1 => ?_⟩
  rw [e _ (by omega), e _ (by omega), e _ (by omega), e _ (by omega)]
  have q := h3 i i0 (by rw [List.length_append]; omega)
  rw [show (vs ++ ex).getD i.toNat aV0 = vs.getD i.toNat aV0 by rw [List.getD_eq_getElem?_getD, List.getElem?_append_left (by omega), List.getD_eq_getElem?_getD]] at q
  exact q
theorem ok_X9_faultTakenAs {lane : Int} (hk : fp_issh k) (hl : fp_rng lane := by first | assumption | (unfold fp_rng; omega)) (hm : fp_rng (M k 1) := by first | assumption | (unfold fp_rng; omega)) (hn : M k 1 = -4 ∨ fp_rng (M k 0)) : fp_Ok l G 1 kX9_faultTakenAs [rV G k, iV lane] M (qI fun z N => z = (if M k 1 = -4 then 1 else if M k 0 = lane then 0 else 3) ∧ M = N) := by
  refine fp_Ok.of (r := 0) rfl (Nat.le_of_ble_eq_true rfl) rfl ?_
  by_cases hq4 : M k 1 = -4
  · refine S.aload_n (pc' := 1) dX9_faultTakenAs_0 rfl rfl rfl ?_
    refine S.callVi (pc' := 4) dX9_faultTakenAs_1 rfl cX9_23 (bk_X9_isThere hk) rfl (sh_lay hk) (by decide) rfl (Nat.le_of_ble_eq_true rfl) (fun z1 M1 q1 => ?_)
    obtain ⟨b1, rfl⟩ := q1
    refine S.if_ne (pc' := 7) (tgt := 9) dX9_faultTakenAs_4 (by decide) rfl (by unfold fp_rng; omega) (fun h4 => ?_) (fun h4 => ?_)
    · exfalso; omega
    · refine S.iconst (pc' := 8) dX9_faultTakenAs_7 rfl ?_
      refine S.iret dX9_faultTakenAs_8 rfl ?_
      exact ⟨by rw [if_pos hq4], rfl⟩
  · have hn2 : fp_rng (M k 0) := by
      rcases hn with q | q
      · exact absurd q hq4
      · exact q
    refine S.aload_n (pc' := 1) dX9_faultTakenAs_0 rfl rfl rfl ?_
    refine S.callVi (pc' := 4) dX9_faultTakenAs_1 rfl cX9_23 (bk_X9_isThere hk) rfl (sh_lay hk) (by decide) rfl (Nat.le_of_ble_eq_true rfl) (fun z1 M1 q1 => ?_)
    obtain ⟨b1, rfl⟩ := q1
    refine S.if_ne (pc' := 7) (tgt := 9) dX9_faultTakenAs_4 (by decide) rfl (by unfold fp_rng; omega) (fun h4 => ?_) (fun h4 => ?_)
    · refine S.aload_n (pc' := 10) dX9_faultTakenAs_9 rfl rfl rfl ?_
      refine S.getI (pc' := 13) dX9_faultTakenAs_10 rfl fX9_27 (sh_lay hk) ?_
      refine S.iload_n (pc' := 14) dX9_faultTakenAs_13 rfl rfl rfl ?_
      refine S.icmp_ne (pc' := 17) (tgt := 21) dX9_faultTakenAs_14 (by decide) rfl hn2 hl (fun h14 => ?_) (fun h14 => ?_)
      · refine S.iconst (pc' := 22) dX9_faultTakenAs_21 rfl ?_
        refine S.iret dX9_faultTakenAs_22 rfl ?_
        exact ⟨by rw [if_neg hq4]; first | rw [if_pos h14] | rw [if_neg h14], rfl⟩
      · refine S.iconst (pc' := 18) dX9_faultTakenAs_17 rfl ?_
        refine S.goto (pc' := 22) dX9_faultTakenAs_18 (by decide) ?_
        refine S.iret dX9_faultTakenAs_22 rfl ?_
        exact ⟨by rw [if_neg hq4]; first | rw [if_pos h14] | rw [if_neg h14], rfl⟩
    · exfalso; omega
theorem bk_X9_hasVisit {f i : Int} (hk : fp_issh k) (hf : fp_rng f := by first | assumption | (unfold fp_rng; omega)) (hi : 0 ≤ i ∧ i < 10 := by first | assumption | omega) (hm : 0 ≤ M k 1 ∧ M k 1 ≤ 40 := by first | assumption | omega) : fp_Ok l G 1 kX9_hasVisit [rV G k, iV f, iV i] M (qI fun z N => ((z = 1 ∧ (0 ≤ f ∧ f + 4 * i + 3 < M k 1)) ∨ (z = 0 ∧ ¬ (0 ≤ f ∧ f + 4 * i + 3 < M k 1))) ∧ M = N) := by
  refine fp_Ok.of (r := 0) rfl (Nat.le_of_ble_eq_true rfl) rfl ?_
  have hf' := hf
  unfold fp_rng at hf'
  refine S.aload_n (pc' := 1) dX9_hasVisit_0 rfl rfl rfl ?_
  refine S.iload_n (pc' := 2) dX9_hasVisit_1 rfl rfl rfl ?_
  refine S.callVi (pc' := 5) dX9_hasVisit_2 rfl cX9_19 (bk_X9_has hk) rfl (sh_lay hk) (by decide) rfl (Nat.le_of_ble_eq_true rfl) (fun z2 M2 q2 => ?_)
  obtain ⟨b2, rfl⟩ := q2
  refine S.if_eq (pc' := 8) (tgt := 28) dX9_hasVisit_5 (by decide) rfl (by unfold fp_rng; omega) (fun h5 => ?_) (fun h5 => ?_)
  · refine S.iconst (pc' := 29) dX9_hasVisit_28 rfl ?_
    refine S.zret dX9_hasVisit_29 rfl (by first | exact Or.inl rfl | exact Or.inr rfl | omega) ?_
    exact ⟨by omega, rfl⟩
  · refine S.aload_n (pc' := 9) dX9_hasVisit_8 rfl rfl rfl ?_
    refine S.iload_n (pc' := 10) dX9_hasVisit_9 rfl rfl rfl ?_
    refine S.iload_n (pc' := 11) dX9_hasVisit_10 rfl rfl rfl ?_
    refine S.iconst (pc' := 12) dX9_hasVisit_11 rfl ?_
    refine S.iadd (pc' := 13) dX9_hasVisit_12 rfl ?_
    refine S.iconst (pc' := 14) dX9_hasVisit_13 rfl ?_
    refine S.imul (pc' := 15) dX9_hasVisit_14 rfl ?_
    refine S.iadd (pc' := 16) dX9_hasVisit_15 rfl ?_
    refine S.iconst (pc' := 17) dX9_hasVisit_16 rfl ?_
    refine S.isub (pc' := 18) dX9_hasVisit_17 rfl ?_
    refine S.callVi (pc' := 21) dX9_hasVisit_18 rfl cX9_19 (bk_X9_has hk) rfl (sh_lay hk) (by decide) rfl (Nat.le_of_ble_eq_true rfl) (fun z18 M18 q18 => ?_)
    obtain ⟨b18, rfl⟩ := q18
    refine S.if_eq (pc' := 24) (tgt := 28) dX9_hasVisit_21 (by decide) rfl (by unfold fp_rng; omega) (fun h21 => ?_) (fun h21 => ?_)
    · refine S.iconst (pc' := 29) dX9_hasVisit_28 rfl ?_
      refine S.zret dX9_hasVisit_29 rfl (by first | exact Or.inl rfl | exact Or.inr rfl | omega) ?_
      exact ⟨by omega, rfl⟩
    · refine S.iconst (pc' := 25) dX9_hasVisit_24 rfl ?_
      refine S.goto (pc' := 29) dX9_hasVisit_25 (by decide) ?_
      refine S.zret dX9_hasVisit_29 rfl (by first | exact Or.inl rfl | exact Or.inr rfl | omega) ?_
      exact ⟨by omega, rfl⟩
theorem rk_X11_tellVisitOf {i : Int} {c : Int → Int} (hk : fp_issh k) (hv : vsIs M 27 vs := by assumption) (hd : gdIs M 18 g := by assumption) (hg : gOk g := by assumption) (hvo : vsOk g vs := by assumption) (hi : 0 ≤ i ∧ i + 3 < 40 := by first | assumption | omega) (hcl : ∀ i : Int, 0 ≤ i → i < 40 → M (k + 1) i.toNat = c i := by assumption) (hcr : ∀ i : Int, 0 ≤ i → i < 40 → fp_rng (c i) := by assumption) : fp_Ok l G 2 kX11_tellVisitOf [rV G 0, rV G k, iV i] M (qI fun z N => z = (A_come g vs (c i) (c (i + 1)) (c (i + 2)) (c (i + 3))).1 ∧ vsIs N 27 (A_come g vs (c i) (c (i + 1)) (c (i + 2)) (c (i + 3))).2 ∧ ∀ a, (a < 27 ∨ 31 < a) → N a = M a) := by
  refine fp_Ok.of (r := 0) rfl (Nat.le_of_ble_eq_true rfl) rfl ?_
  refine S.aload_n (pc' := 1) dX11_tellVisitOf_0 rfl rfl rfl ?_
  refine S.aload_n (pc' := 2) dX11_tellVisitOf_1 rfl rfl rfl ?_
  refine S.getR (pc' := 5) dX11_tellVisitOf_2 rfl fX11_352 (sh_lay hk) (sh_r2 hk) ?_
  refine S.iload_n (pc' := 6) dX11_tellVisitOf_5 rfl rfl rfl ?_
  refine S.iald (pc' := 7) dX11_tellVisitOf_6 rfl (sh_a2 hk) (by omega) (by omega) ?_
  refine S.aload_n (pc' := 8) dX11_tellVisitOf_7 rfl rfl rfl ?_
  refine S.getR (pc' := 11) dX11_tellVisitOf_8 rfl fX11_352 (sh_lay hk) (sh_r2 hk) ?_
  refine S.iload_n (pc' := 12) dX11_tellVisitOf_11 rfl rfl rfl ?_
  refine S.iconst (pc' := 13) dX11_tellVisitOf_12 rfl ?_
  refine S.iadd (pc' := 14) dX11_tellVisitOf_13 rfl ?_
  refine S.iald (pc' := 15) dX11_tellVisitOf_14 rfl (sh_a2 hk) (by omega) (by omega) ?_
  refine S.aload_n (pc' := 16) dX11_tellVisitOf_15 rfl rfl rfl ?_
  refine S.getR (pc' := 19) dX11_tellVisitOf_16 rfl fX11_352 (sh_lay hk) (sh_r2 hk) ?_
  refine S.iload_n (pc' := 20) dX11_tellVisitOf_19 rfl rfl rfl ?_
  refine S.iconst (pc' := 21) dX11_tellVisitOf_20 rfl ?_
  refine S.iadd (pc' := 22) dX11_tellVisitOf_21 rfl ?_
  refine S.iald (pc' := 23) dX11_tellVisitOf_22 rfl (sh_a2 hk) (by omega) (by omega) ?_
  refine S.aload_n (pc' := 24) dX11_tellVisitOf_23 rfl rfl rfl ?_
  refine S.getR (pc' := 27) dX11_tellVisitOf_24 rfl fX11_352 (sh_lay hk) (sh_r2 hk) ?_
  refine S.iload_n (pc' := 28) dX11_tellVisitOf_27 rfl rfl rfl ?_
  refine S.iconst (pc' := 29) dX11_tellVisitOf_28 rfl ?_
  refine S.iadd (pc' := 30) dX11_tellVisitOf_29 rfl ?_
  refine S.iald (pc' := 31) dX11_tellVisitOf_30 rfl (sh_a2 hk) (by omega) (by omega) ?_
  rw [hcl i (by omega) (by omega), hcl (i + 1) (by omega) (by omega), hcl (i + 2) (by omega) (by omega), hcl (i + 3) (by omega) (by omega)]
  refine S.callVi (pc' := 34) dX11_tellVisitOf_31 rfl cX11_201 (rk_X11_tellVisit (g := g) (vs := vs) (h1 := hcr _ (by omega) (by omega)) (h2 := hcr _ (by omega) (by omega)) (h3 := hcr _ (by omega) (by omega)) (h4 := hcr _ (by omega) (by omega))) rfl L_0 (by decide) rfl (Nat.le_of_ble_eq_true rfl) (fun z31 M31 q31 => ?_)
  refine S.iret dX11_tellVisitOf_34 rfl ?_
  exact q31
theorem CS.torn {v : Int} (h : CS M tp fl g pg vs nt im sh tn) (hv : 0 ≤ v ∧ v ≤ 4) : CS (fp_up M 0 13 v) tp fl g pg vs nt im sh v := by
  refine h.tap (fun a ha => fp_up_ne (by omega)) ?_
  obtain ⟨h1, h2, h3, h4, h5, h6, h7⟩ := h.1
  refine ⟨by rw [fp_up_at, fp_upf_ne (by decide)]; exact h1, h2, fun i i0 i1 => ?_, by rw [fp_up_ne (by decide)]; exact h4, by rw [fp_up_at, fp_upf_at], h6, hv⟩
  rw [fp_up_ne (by decide)]
  exact h3 i i0 i1
theorem MS.torn {v : Int} (h : MS M tp fl g pg vs nt im sh tn) : MS (fp_up M 177 44 v) tp fl g pg vs nt im sh v := by
  refine h.tap (fun a ha hb => fp_up_ne (by omega)) (by rw [fp_up_at, fp_upf_ne (by decide), fp_upf_ne (by decide), fp_upf_ne (by decide)]; exact ⟨rfl, rfl, rfl⟩) ?_
  obtain ⟨h1, h2, h3, h4, h5⟩ := h.1
  refine ⟨by rw [fp_up_at, fp_upf_ne (by decide)]; exact h1, h2, fun i i0 i1 => ?_, by rw [fp_up_at, fp_upf_ne (by decide)]; exact h4, by rw [fp_up_at, fp_upf_at]⟩
  rw [fp_up_ne (by decide)]
  exact h3 i i0 i1
theorem cread_loop {k9 lane f n9 : Int} (hk : 0 ≤ k9 ∧ k9 ≤ 3) (hf : fp_rng f) (hn9 : 0 ≤ n9 ∧ n9 ≤ 10) (ho : OK g pg vs nt im sh) (hne : (sh k9).1 ≠ -4) (h12 : vs.length ≤ 12) : ∀ (m : Nat) (i : Int) (N : fp_Mem) (ex : List aVt), (n9 - i).toNat = m → 0 ≤ i → i ≤ n9 → CS N tp fl g pg (vs ++ ex) nt im sh tn → frC M N → vsOk g (vs ++ ex) →
    fp_S l G 3 kX11_read 78 [some (rV G 0), some (iV k9), some (iV lane), some (iV f), some (iV n9), some (rV G (169 + 2 * k9.toNat)), some (iV 0), some (iV vs.length), some (iV i)] [] N (qI fun z O => z = (aRd g vs tn (sh k9).2.2 (sh k9).2.1 f m i (vs ++ ex)).1 ∧ CS O tp fl g pg (aRd g vs tn (sh k9).2.2 (sh k9).2.1 f m i (vs ++ ex)).2.1 nt im sh (aRd g vs tn (sh k9).2.2 (sh k9).2.1 f m i (vs ++ ex)).2.2 ∧ frC M O) := by
  have ho1 := shs_o hk.1 (show k9 < 4 by omega)
  have hg := ho.1
  have hsh : (0 ≤ (sh k9).1 ∧ (sh k9).1 ≤ 2) ∧ (0 ≤ (sh k9).2.1 ∧ (sh k9).2.1 ≤ 40) ∧ ∀ i, 0 ≤ i → i < 40 → fp_rng ((sh k9).2.2 i) := by
    rcases ho.2.2.2.2.2 k9 hk.1 (by omega) with q | q
    · exact absurd q hne
    · exact q
  obtain ⟨hs1, hs2, hcr⟩ := hsh
  have hf' := hf
  unfold fp_rng at hf'
  intro m
  induction m with
  | zero =>
    intro i N ex h i0 i1 hc hfr hvo
    refine S.iload (pc' := 80) dX11_read_78 rfl rfl ?_
    refine S.iload (pc' := 82) dX11_read_80 rfl rfl ?_
    refine S.icmp_ge (pc' := 85) (tgt := 140) dX11_read_82 (by decide) rfl (by unfold fp_rng; omega) (by unfold fp_rng; omega) (fun h82 => ?_) (fun h82 => ?_)
    · refine S.aload_n (pc' := 141) dX11_read_140 rfl rfl rfl ?_
      refine S.iconst (pc' := 142) dX11_read_141 rfl ?_
      refine S.putI (pc' := 145) dX11_read_142 rfl fX11_334 L_0 ?_
      refine S.iload (pc' := 147) dX11_read_145 rfl rfl ?_
      refine S.iret dX11_read_147 rfl ?_
      refine ⟨by show _ = i; omega, hc.torn (by omega), fun c hcc => by rw [fp_up_ne (by omega)]; exact hfr c hcc⟩
    · exfalso; omega
  | succ m ih =>
    intro i N ex h i0 i1 hc hfr hvo
    have hcs := hc
    obtain ⟨hA, hd, hP, hv, hNt, hI, hS⟩ := hc
    have hk2 : N (169 + 2 * k9.toNat) 1 = (sh k9).2.1 ∧ ∀ i : Int, 0 ≤ i → i < 40 → N (169 + 2 * k9.toNat + 1) i.toNat = (sh k9).2.2 i := by
      rcases hS k9 hk.1 (by omega) with q | q
      · exact absurd q.1 hne
      · exact q.2.2
    obtain ⟨hk3, hcl⟩ := hk2
    unfold aRd
    by_cases hr : 0 ≤ f ∧ f + 4 * i + 3 < (sh k9).2.1
    · rw [if_neg (fun q => q hr)]
      have e4 : f + i * 4 = f + 4 * i := by omega
      have hor := A_come_or g (vs ++ ex) ((sh k9).2.2 (f + 4 * i)) ((sh k9).2.2 (f + 4 * i + 1)) ((sh k9).2.2 (f + 4 * i + 2)) ((sh k9).2.2 (f + 4 * i + 3))
      have hok := A_come_ok (g := g) (vs := vs ++ ex) (day := (sh k9).2.2 (f + 4 * i)) (p := (sh k9).2.2 (f + 4 * i + 1)) (x := (sh k9).2.2 (f + 4 * i + 2)) (t := (sh k9).2.2 (f + 4 * i + 3)) hvo
      generalize hY : A_come g (vs ++ ex) ((sh k9).2.2 (f + 4 * i)) ((sh k9).2.2 (f + 4 * i + 1)) ((sh k9).2.2 (f + 4 * i + 2)) ((sh k9).2.2 (f + 4 * i + 3)) = Y at hor hok ⊢
      have hYb : -3 ≤ Y.1 ∧ Y.1 ≤ 13 := by
        rw [← hY]
        have hl := hv.2.1
        unfold A_come
        split
        · dsimp only; omega
        · split
          · dsimp only; omega
          · dsimp only; omega
      by_cases hneg : Y.1 < 0
      · rw [if_pos hneg]
        refine S.iload (pc' := 80) dX11_read_78 rfl rfl ?_
        refine S.iload (pc' := 82) dX11_read_80 rfl rfl ?_
        refine S.icmp_ge (pc' := 85) (tgt := 140) dX11_read_82 (by decide) rfl (by unfold fp_rng; omega) (by unfold fp_rng; omega) (fun h82 => ?_) (fun h82 => ?_)
        · exfalso; omega
        · refine S.aload (pc' := 87) dX11_read_85 rfl rfl ?_
          refine S.iload_n (pc' := 88) dX11_read_87 rfl rfl rfl ?_
          refine S.iload (pc' := 90) dX11_read_88 rfl rfl ?_
          refine S.callVi (pc' := 93) dX11_read_90 rfl cX11_337 (bk_X9_hasVisit ho1) rfl (sh_lay ho1) (by decide) rfl (Nat.le_of_ble_eq_true rfl) (fun z90 M90 q90 => ?_)
          obtain ⟨b90, rfl⟩ := q90
          refine S.if_ne (pc' := 96) (tgt := 104) dX11_read_93 (by decide) rfl (by unfold fp_rng; omega) (fun h93 => ?_) (fun h93 => ?_)
          · refine S.aload_n (pc' := 105) dX11_read_104 rfl rfl rfl ?_
            refine S.aload (pc' := 107) dX11_read_105 rfl rfl ?_
            refine S.iload_n (pc' := 108) dX11_read_107 rfl rfl rfl ?_
            refine S.iload (pc' := 110) dX11_read_108 rfl rfl ?_
            refine S.iconst (pc' := 111) dX11_read_110 rfl ?_
            refine S.imul (pc' := 112) dX11_read_111 rfl ?_
            refine S.iadd (pc' := 113) dX11_read_112 rfl ?_
            rw [e4]
            refine S.callVi (pc' := 116) dX11_read_113 rfl cX11_340 (rk_X11_tellVisitOf (c := (sh k9).2.2) (g := g) (vs := vs ++ ex) ho1) rfl L_0 (by decide) rfl (Nat.le_of_ble_eq_true rfl) (fun z113 M113 q113 => ?_)
            rw [hY] at q113
            obtain ⟨z1, c1, f1⟩ := q113
            refine S.if_ge (pc' := 119) (tgt := 134) dX11_read_116 (by decide) rfl (by unfold fp_rng; omega) (fun h116 => ?_) (fun h116 => ?_)
            · exfalso; omega
            · refine S.aload_n (pc' := 120) dX11_read_119 rfl rfl rfl ?_
              refine S.getR (pc' := 123) dX11_read_120 rfl fX11_37 L_0 rf_0_5 ?_
              refine S.iload (pc' := 125) dX11_read_123 rfl rfl ?_
              refine S.putI (pc' := 128) dX11_read_125 rfl fX11_205 (vs_lay vs27) ?_
              refine S.bipush (pc' := 130) dX11_read_128 rfl (by decide) ?_
              refine S.iload (pc' := 132) dX11_read_130 rfl rfl ?_
              refine S.isub (pc' := 133) dX11_read_132 rfl ?_
              refine S.iret dX11_read_133 rfl ?_
              have hY2 : Y.2 = vs ++ ex := by
                rcases hor with q | q
                · exact q.2
                · exact absurd q.1 (by omega)
              rw [hY2] at c1
              refine ⟨rfl, hcs.vis (fun a ha => by rw [fp_up_ne (by omega)]; exact f1 a ha) (c1.pre (by rw [fp_up_at, fp_upf_at]) (fun a q1 q2 => fp_up_ne (by omega))), fun c hcc => by rw [fp_up_ne (by omega), f1 c (by omega)]; exact hfr c hcc⟩
          · exfalso; omega
      · rw [if_neg hneg]
        refine S.iload (pc' := 80) dX11_read_78 rfl rfl ?_
        refine S.iload (pc' := 82) dX11_read_80 rfl rfl ?_
        refine S.icmp_ge (pc' := 85) (tgt := 140) dX11_read_82 (by decide) rfl (by unfold fp_rng; omega) (by unfold fp_rng; omega) (fun h82 => ?_) (fun h82 => ?_)
        · exfalso; omega
        · refine S.aload (pc' := 87) dX11_read_85 rfl rfl ?_
          refine S.iload_n (pc' := 88) dX11_read_87 rfl rfl rfl ?_
          refine S.iload (pc' := 90) dX11_read_88 rfl rfl ?_
          refine S.callVi (pc' := 93) dX11_read_90 rfl cX11_337 (bk_X9_hasVisit ho1) rfl (sh_lay ho1) (by decide) rfl (Nat.le_of_ble_eq_true rfl) (fun z90 M90 q90 => ?_)
          obtain ⟨b90, rfl⟩ := q90
          refine S.if_ne (pc' := 96) (tgt := 104) dX11_read_93 (by decide) rfl (by unfold fp_rng; omega) (fun h93 => ?_) (fun h93 => ?_)
          · refine S.aload_n (pc' := 105) dX11_read_104 rfl rfl rfl ?_
            refine S.aload (pc' := 107) dX11_read_105 rfl rfl ?_
            refine S.iload_n (pc' := 108) dX11_read_107 rfl rfl rfl ?_
            refine S.iload (pc' := 110) dX11_read_108 rfl rfl ?_
            refine S.iconst (pc' := 111) dX11_read_110 rfl ?_
            refine S.imul (pc' := 112) dX11_read_111 rfl ?_
            refine S.iadd (pc' := 113) dX11_read_112 rfl ?_
            rw [e4]
            refine S.callVi (pc' := 116) dX11_read_113 rfl cX11_340 (rk_X11_tellVisitOf (c := (sh k9).2.2) (g := g) (vs := vs ++ ex) ho1) rfl L_0 (by decide) rfl (Nat.le_of_ble_eq_true rfl) (fun z113 M113 q113 => ?_)
            rw [hY] at q113
            obtain ⟨z1, c1, f1⟩ := q113
            refine S.if_ge (pc' := 119) (tgt := 134) dX11_read_116 (by decide) rfl (by unfold fp_rng; omega) (fun h116 => ?_) (fun h116 => ?_)
            · refine S.iinc (pc' := 137) (LL' := [_, _, _, _, _, _, _, _, _]) dX11_read_134 rfl (by decide) rfl rfl rfl ?_
              refine S.goto (pc' := 78) dX11_read_137 (by decide) ?_
              have hY2 : ∃ v, Y.2 = vs ++ (ex ++ [v]) := by
                rcases hor with q | q
                · exact absurd q.1 hneg
                · exact ⟨_, by rw [q.2, List.append_assoc]⟩
              obtain ⟨v, hY2⟩ := hY2
              rw [hY2] at c1 hok ⊢
              exact ih _ _ _ (by omega) (by omega) (by omega) (hcs.vis f1 c1) (hfr.trans (fun c hc => f1 c (by omega))) hok
            · exfalso; omega
          · exfalso; omega
    · rw [if_pos hr]
      refine S.iload (pc' := 80) dX11_read_78 rfl rfl ?_
      refine S.iload (pc' := 82) dX11_read_80 rfl rfl ?_
      refine S.icmp_ge (pc' := 85) (tgt := 140) dX11_read_82 (by decide) rfl (by unfold fp_rng; omega) (by unfold fp_rng; omega) (fun h82 => ?_) (fun h82 => ?_)
      · exfalso; omega
      · refine S.aload (pc' := 87) dX11_read_85 rfl rfl ?_
        refine S.iload_n (pc' := 88) dX11_read_87 rfl rfl rfl ?_
        refine S.iload (pc' := 90) dX11_read_88 rfl rfl ?_
        refine S.callVi (pc' := 93) dX11_read_90 rfl cX11_337 (bk_X9_hasVisit ho1) rfl (sh_lay ho1) (by decide) rfl (Nat.le_of_ble_eq_true rfl) (fun z90 M90 q90 => ?_)
        obtain ⟨b90, rfl⟩ := q90
        refine S.if_ne (pc' := 96) (tgt := 104) dX11_read_93 (by decide) rfl (by unfold fp_rng; omega) (fun h93 => ?_) (fun h93 => ?_)
        · exfalso; omega
        · refine S.aload_n (pc' := 97) dX11_read_96 rfl rfl rfl ?_
          refine S.iconst (pc' := 98) dX11_read_97 rfl ?_
          refine S.putI (pc' := 101) dX11_read_98 rfl fX11_334 L_0 ?_
          refine S.iload (pc' := 103) dX11_read_101 rfl rfl ?_
          refine S.iret dX11_read_103 rfl ?_
          exact ⟨rfl, hcs.torn (by omega), fun c hcc => by rw [fp_up_ne (by omega)]; exact hfr c hcc⟩
theorem cc_read {k9 lane f n9 : Int} (hc : CS M tp fl g pg vs nt im sh tn) (ho : OK g pg vs nt im sh) (h1 : fp_rng k9) (h2 : fp_rng lane) (h3 : fp_rng f) (hn : fp_rng n9) : fp_Ok l G 3 kX11_read [rV G 0, iV k9, iV lane, iV f, iV n9] M (qI fun z N => z = (A_read g vs sh tn k9 lane f n9).1 ∧ CS N tp fl g pg (A_read g vs sh tn k9 lane f n9).2.1 nt im sh (A_read g vs sh tn k9 lane f n9).2.2 ∧ frC M N) := by
  have hcs := hc
  obtain ⟨hA, hd, hP, hv, hNt, hI, hS⟩ := hc
  have hv1 := hv.1
  have hv2 := hv.2.1
  refine fp_Ok.of (r := 4) rfl (Nat.le_of_ble_eq_true rfl) rfl ?_
  unfold A_read
  by_cases hin : (0 ≤ k9 ∧ k9 ≤ 3) ∧ (0 ≤ lane ∧ lane ≤ 2) ∧ (0 ≤ n9 ∧ n9 ≤ 10)
  · rw [if_neg (fun q => q hin)]
    have ho1 := shs_o hin.1.1 (show k9 < 4 by omega)
    by_cases hn0 : n9 = 0
    · rw [if_pos hn0]
      refine S.iload_n (pc' := 1) dX11_read_0 rfl rfl rfl ?_
      refine S.iconst (pc' := 2) dX11_read_1 rfl ?_
      refine S.callSi (pc' := 5) dX11_read_2 rfl cX11_221 (bk_X11_isWithin) rfl (by decide) rfl (Nat.le_of_ble_eq_true rfl) (fun z2 M2 q2 => ?_)
      obtain ⟨b2, rfl⟩ := q2
      refine S.if_eq (pc' := 8) (tgt := 26) dX11_read_5 (by decide) rfl (by unfold fp_rng; omega) (fun h5 => ?_) (fun h5 => ?_)
      · exfalso; omega
      · refine S.iload_n (pc' := 9) dX11_read_8 rfl rfl rfl ?_
        refine S.iconst (pc' := 10) dX11_read_9 rfl ?_
        refine S.callSi (pc' := 13) dX11_read_10 rfl cX11_221 (bk_X11_isWithin) rfl (by decide) rfl (Nat.le_of_ble_eq_true rfl) (fun z10 M10 q10 => ?_)
        obtain ⟨b10, rfl⟩ := q10
        refine S.if_eq (pc' := 16) (tgt := 26) dX11_read_13 (by decide) rfl (by unfold fp_rng; omega) (fun h13 => ?_) (fun h13 => ?_)
        · exfalso; omega
        · refine S.iload (pc' := 18) dX11_read_16 rfl rfl ?_
          refine S.bipush (pc' := 20) dX11_read_18 rfl (by decide) ?_
          refine S.callSi (pc' := 23) dX11_read_20 rfl cX11_221 (bk_X11_isWithin) rfl (by decide) rfl (Nat.le_of_ble_eq_true rfl) (fun z20 M20 q20 => ?_)
          obtain ⟨b20, rfl⟩ := q20
          refine S.if_ne (pc' := 26) (tgt := 28) dX11_read_23 (by decide) rfl (by unfold fp_rng; omega) (fun h23 => ?_) (fun h23 => ?_)
          · refine S.aload_n (pc' := 29) dX11_read_28 rfl rfl rfl ?_
            refine S.getR (pc' := 32) dX11_read_29 rfl fX11_84 L_0 rf_0_12 ?_
            refine S.iload_n (pc' := 33) dX11_read_32 rfl rfl rfl ?_
            refine S.aald (pc' := 34) dX11_read_33 rfl L_142 (by decide) (by decide) (by omega) (by omega) (shs_r (by omega) (by omega)) ?_
            refine S.astore (pc' := 36) (LL' := [_, _, _, _, _, _, _, _, _]) dX11_read_34 rfl (by decide) rfl rfl ?_
            refine S.iload (pc' := 38) dX11_read_36 rfl rfl ?_
            refine S.if_ne (pc' := 41) (tgt := 45) dX11_read_38 (by decide) rfl (by unfold fp_rng; omega) (fun h38 => ?_) (fun h38 => ?_)
            · exfalso; omega
            · refine S.iconst (pc' := 42) dX11_read_41 rfl ?_
              refine S.goto (pc' := 51) dX11_read_42 (by decide) ?_
              refine S.istore (pc' := 53) (LL' := [_, _, _, _, _, _, _, _, _]) dX11_read_51 rfl (by decide) rfl rfl ?_
              refine S.iload (pc' := 55) dX11_read_53 rfl rfl ?_
              refine S.if_eq (pc' := 58) (tgt := 66) dX11_read_55 (by decide) rfl (by unfold fp_rng; omega) (fun h55 => ?_) (fun h55 => ?_)
              · refine S.aload_n (pc' := 67) dX11_read_66 rfl rfl rfl ?_
                refine S.getR (pc' := 70) dX11_read_67 rfl fX11_37 L_0 rf_0_5 ?_
                refine S.getI (pc' := 73) dX11_read_70 rfl fX11_205 (vs_lay vs27) ?_
                refine S.istore (pc' := 75) (LL' := [_, _, _, _, _, _, _, _, _]) dX11_read_73 rfl (by decide) rfl rfl ?_
                refine S.iconst (pc' := 76) dX11_read_75 rfl ?_
                refine S.istore (pc' := 78) (LL' := [_, _, _, _, _, _, _, _, _]) dX11_read_76 rfl (by decide) rfl rfl ?_
                refine S.iload (pc' := 80) dX11_read_78 rfl rfl ?_
                refine S.iload (pc' := 82) dX11_read_80 rfl rfl ?_
                refine S.icmp_ge (pc' := 85) (tgt := 140) dX11_read_82 (by decide) rfl (by unfold fp_rng; omega) (by unfold fp_rng; omega) (fun h82 => ?_) (fun h82 => ?_)
                · refine S.aload_n (pc' := 141) dX11_read_140 rfl rfl rfl ?_
                  refine S.iconst (pc' := 142) dX11_read_141 rfl ?_
                  refine S.putI (pc' := 145) dX11_read_142 rfl fX11_334 L_0 ?_
                  refine S.iload (pc' := 147) dX11_read_145 rfl rfl ?_
                  refine S.iret dX11_read_147 rfl ?_
                  exact ⟨hn0, hcs.torn (by omega), fun c hcc => by rw [fp_up_ne (by omega)]⟩
                · exfalso; omega
              · exfalso; omega
          · exfalso; omega
    · rw [if_neg hn0]
      have hs := hS k9 hin.1.1 (by omega)
      have hso := ho.2.2.2.2.2 k9 hin.1.1 (by omega)
      have hm1 : fp_rng (M (169 + 2 * k9.toNat) 1) := by
        unfold fp_rng
        rcases hs with q | q
        · rw [q.2]; omega
        · rw [q.2.2.1]; omega
      have hm0 : M (169 + 2 * k9.toNat) 1 = -4 ∨ fp_rng (M (169 + 2 * k9.toNat) 0) := by
        unfold fp_rng
        rcases hs with q | q
        · exact Or.inl q.2
        · right; rw [q.2.1]; omega
      have hval : (if M (169 + 2 * k9.toNat) 1 = -4 then (1 : Int) else if M (169 + 2 * k9.toNat) 0 = lane then 0 else 3) = if (sh k9).1 = -4 then 1 else if (sh k9).1 = lane then 0 else 3 := by
        rcases hs with q | q
        · rw [if_pos q.2, if_pos q.1]
        · rw [if_neg (by omega), if_neg q.1, q.2.1]
      by_cases h40 : (sh k9).1 = -4
      · rw [if_pos h40]
        rw [if_pos h40] at hval
        refine S.iload_n (pc' := 1) dX11_read_0 rfl rfl rfl ?_
        refine S.iconst (pc' := 2) dX11_read_1 rfl ?_
        refine S.callSi (pc' := 5) dX11_read_2 rfl cX11_221 (bk_X11_isWithin) rfl (by decide) rfl (Nat.le_of_ble_eq_true rfl) (fun z2 M2 q2 => ?_)
        obtain ⟨b2, rfl⟩ := q2
        refine S.if_eq (pc' := 8) (tgt := 26) dX11_read_5 (by decide) rfl (by unfold fp_rng; omega) (fun h5 => ?_) (fun h5 => ?_)
        · exfalso; omega
        · refine S.iload_n (pc' := 9) dX11_read_8 rfl rfl rfl ?_
          refine S.iconst (pc' := 10) dX11_read_9 rfl ?_
          refine S.callSi (pc' := 13) dX11_read_10 rfl cX11_221 (bk_X11_isWithin) rfl (by decide) rfl (Nat.le_of_ble_eq_true rfl) (fun z10 M10 q10 => ?_)
          obtain ⟨b10, rfl⟩ := q10
          refine S.if_eq (pc' := 16) (tgt := 26) dX11_read_13 (by decide) rfl (by unfold fp_rng; omega) (fun h13 => ?_) (fun h13 => ?_)
          · exfalso; omega
          · refine S.iload (pc' := 18) dX11_read_16 rfl rfl ?_
            refine S.bipush (pc' := 20) dX11_read_18 rfl (by decide) ?_
            refine S.callSi (pc' := 23) dX11_read_20 rfl cX11_221 (bk_X11_isWithin) rfl (by decide) rfl (Nat.le_of_ble_eq_true rfl) (fun z20 M20 q20 => ?_)
            obtain ⟨b20, rfl⟩ := q20
            refine S.if_ne (pc' := 26) (tgt := 28) dX11_read_23 (by decide) rfl (by unfold fp_rng; omega) (fun h23 => ?_) (fun h23 => ?_)
            · refine S.aload_n (pc' := 29) dX11_read_28 rfl rfl rfl ?_
              refine S.getR (pc' := 32) dX11_read_29 rfl fX11_84 L_0 rf_0_12 ?_
              refine S.iload_n (pc' := 33) dX11_read_32 rfl rfl rfl ?_
              refine S.aald (pc' := 34) dX11_read_33 rfl L_142 (by decide) (by decide) (by omega) (by omega) (shs_r (by omega) (by omega)) ?_
              refine S.astore (pc' := 36) (LL' := [_, _, _, _, _, _, _, _, _]) dX11_read_34 rfl (by decide) rfl rfl ?_
              refine S.iload (pc' := 38) dX11_read_36 rfl rfl ?_
              refine S.if_ne (pc' := 41) (tgt := 45) dX11_read_38 (by decide) rfl (by unfold fp_rng; omega) (fun h38 => ?_) (fun h38 => ?_)
              · refine S.aload (pc' := 47) dX11_read_45 rfl rfl ?_
                refine S.iload_n (pc' := 48) dX11_read_47 rfl rfl rfl ?_
                refine S.callVi (pc' := 51) dX11_read_48 rfl cX11_331 (ok_X9_faultTakenAs ho1 (hn := hm0)) rfl (sh_lay (shs_o (by omega) (by omega))) (by decide) rfl (Nat.le_of_ble_eq_true rfl) (fun z48 M48 q48 => ?_)
                obtain ⟨z1, rfl⟩ := q48
                rw [hval] at z1
                refine S.istore (pc' := 53) (LL' := [_, _, _, _, _, _, _, _, _]) dX11_read_51 rfl (by decide) rfl rfl ?_
                refine S.iload (pc' := 55) dX11_read_53 rfl rfl ?_
                refine S.if_eq (pc' := 58) (tgt := 66) dX11_read_55 (by decide) rfl (by unfold fp_rng; omega) (fun h55 => ?_) (fun h55 => ?_)
                · exfalso; omega
                · refine S.aload_n (pc' := 59) dX11_read_58 rfl rfl rfl ?_
                  refine S.iload (pc' := 61) dX11_read_59 rfl rfl ?_
                  refine S.putI (pc' := 64) dX11_read_61 rfl fX11_334 L_0 ?_
                  refine S.iconst (pc' := 65) dX11_read_64 rfl ?_
                  refine S.iret dX11_read_65 rfl ?_
                  subst z1
                  exact ⟨rfl, hcs.torn (by omega), fun c hcc => by rw [fp_up_ne (by omega)]⟩
              · exfalso; omega
            · exfalso; omega
      · rw [if_neg h40]
        rw [if_neg h40] at hval
        by_cases hln : (sh k9).1 = lane
        · rw [if_neg (fun q => q hln)]
          rw [if_pos hln] at hval
          have hl9 := cread_loop (l := l) (G := G) (lane := lane) (M := M) (tp := tp) (fl := fl) (tn := tn) hin.1 h3 hin.2.2 ho h40 hv2 n9.toNat 0 M [] (by omega) (by omega) (by omega) (by rw [List.append_nil]; exact hcs) (frC.refl _) (by rw [List.append_nil]; exact ho.2.2.1)
          rw [List.append_nil] at hl9
          refine S.iload_n (pc' := 1) dX11_read_0 rfl rfl rfl ?_
          refine S.iconst (pc' := 2) dX11_read_1 rfl ?_
          refine S.callSi (pc' := 5) dX11_read_2 rfl cX11_221 (bk_X11_isWithin) rfl (by decide) rfl (Nat.le_of_ble_eq_true rfl) (fun z2 M2 q2 => ?_)
          obtain ⟨b2, rfl⟩ := q2
          refine S.if_eq (pc' := 8) (tgt := 26) dX11_read_5 (by decide) rfl (by unfold fp_rng; omega) (fun h5 => ?_) (fun h5 => ?_)
          · exfalso; omega
          · refine S.iload_n (pc' := 9) dX11_read_8 rfl rfl rfl ?_
            refine S.iconst (pc' := 10) dX11_read_9 rfl ?_
            refine S.callSi (pc' := 13) dX11_read_10 rfl cX11_221 (bk_X11_isWithin) rfl (by decide) rfl (Nat.le_of_ble_eq_true rfl) (fun z10 M10 q10 => ?_)
            obtain ⟨b10, rfl⟩ := q10
            refine S.if_eq (pc' := 16) (tgt := 26) dX11_read_13 (by decide) rfl (by unfold fp_rng; omega) (fun h13 => ?_) (fun h13 => ?_)
            · exfalso; omega
            · refine S.iload (pc' := 18) dX11_read_16 rfl rfl ?_
              refine S.bipush (pc' := 20) dX11_read_18 rfl (by decide) ?_
              refine S.callSi (pc' := 23) dX11_read_20 rfl cX11_221 (bk_X11_isWithin) rfl (by decide) rfl (Nat.le_of_ble_eq_true rfl) (fun z20 M20 q20 => ?_)
              obtain ⟨b20, rfl⟩ := q20
              refine S.if_ne (pc' := 26) (tgt := 28) dX11_read_23 (by decide) rfl (by unfold fp_rng; omega) (fun h23 => ?_) (fun h23 => ?_)
              · refine S.aload_n (pc' := 29) dX11_read_28 rfl rfl rfl ?_
                refine S.getR (pc' := 32) dX11_read_29 rfl fX11_84 L_0 rf_0_12 ?_
                refine S.iload_n (pc' := 33) dX11_read_32 rfl rfl rfl ?_
                refine S.aald (pc' := 34) dX11_read_33 rfl L_142 (by decide) (by decide) (by omega) (by omega) (shs_r (by omega) (by omega)) ?_
                refine S.astore (pc' := 36) (LL' := [_, _, _, _, _, _, _, _, _]) dX11_read_34 rfl (by decide) rfl rfl ?_
                refine S.iload (pc' := 38) dX11_read_36 rfl rfl ?_
                refine S.if_ne (pc' := 41) (tgt := 45) dX11_read_38 (by decide) rfl (by unfold fp_rng; omega) (fun h38 => ?_) (fun h38 => ?_)
                · refine S.aload (pc' := 47) dX11_read_45 rfl rfl ?_
                  refine S.iload_n (pc' := 48) dX11_read_47 rfl rfl rfl ?_
                  refine S.callVi (pc' := 51) dX11_read_48 rfl cX11_331 (ok_X9_faultTakenAs ho1 (hn := hm0)) rfl (sh_lay (shs_o (by omega) (by omega))) (by decide) rfl (Nat.le_of_ble_eq_true rfl) (fun z48 M48 q48 => ?_)
                  obtain ⟨z1, rfl⟩ := q48
                  rw [hval] at z1
                  subst z1
                  refine S.istore (pc' := 53) (LL' := [_, _, _, _, _, _, _, _, _]) dX11_read_51 rfl (by decide) rfl rfl ?_
                  refine S.iload (pc' := 55) dX11_read_53 rfl rfl ?_
                  refine S.if_eq (pc' := 58) (tgt := 66) dX11_read_55 (by decide) rfl (by unfold fp_rng; omega) (fun h55 => ?_) (fun h55 => ?_)
                  · refine S.aload_n (pc' := 67) dX11_read_66 rfl rfl rfl ?_
                    refine S.getR (pc' := 70) dX11_read_67 rfl fX11_37 L_0 rf_0_5 ?_
                    refine S.getI (pc' := 73) dX11_read_70 rfl fX11_205 (vs_lay vs27) ?_
                    refine S.istore (pc' := 75) (LL' := [_, _, _, _, _, _, _, _, _]) dX11_read_73 rfl (by decide) rfl rfl ?_
                    refine S.iconst (pc' := 76) dX11_read_75 rfl ?_
                    refine S.istore (pc' := 78) (LL' := [_, _, _, _, _, _, _, _, _]) dX11_read_76 rfl (by decide) rfl rfl ?_
                    rw [hv1]; exact hl9
                  · exfalso; omega
                · exfalso; omega
              · exfalso; omega
        · rw [if_pos hln]
          rw [if_neg hln] at hval
          refine S.iload_n (pc' := 1) dX11_read_0 rfl rfl rfl ?_
          refine S.iconst (pc' := 2) dX11_read_1 rfl ?_
          refine S.callSi (pc' := 5) dX11_read_2 rfl cX11_221 (bk_X11_isWithin) rfl (by decide) rfl (Nat.le_of_ble_eq_true rfl) (fun z2 M2 q2 => ?_)
          obtain ⟨b2, rfl⟩ := q2
          refine S.if_eq (pc' := 8) (tgt := 26) dX11_read_5 (by decide) rfl (by unfold fp_rng; omega) (fun h5 => ?_) (fun h5 => ?_)
          · exfalso; omega
          · refine S.iload_n (pc' := 9) dX11_read_8 rfl rfl rfl ?_
            refine S.iconst (pc' := 10) dX11_read_9 rfl ?_
            refine S.callSi (pc' := 13) dX11_read_10 rfl cX11_221 (bk_X11_isWithin) rfl (by decide) rfl (Nat.le_of_ble_eq_true rfl) (fun z10 M10 q10 => ?_)
            obtain ⟨b10, rfl⟩ := q10
            refine S.if_eq (pc' := 16) (tgt := 26) dX11_read_13 (by decide) rfl (by unfold fp_rng; omega) (fun h13 => ?_) (fun h13 => ?_)
            · exfalso; omega
            · refine S.iload (pc' := 18) dX11_read_16 rfl rfl ?_
              refine S.bipush (pc' := 20) dX11_read_18 rfl (by decide) ?_
              refine S.callSi (pc' := 23) dX11_read_20 rfl cX11_221 (bk_X11_isWithin) rfl (by decide) rfl (Nat.le_of_ble_eq_true rfl) (fun z20 M20 q20 => ?_)
              obtain ⟨b20, rfl⟩ := q20
              refine S.if_ne (pc' := 26) (tgt := 28) dX11_read_23 (by decide) rfl (by unfold fp_rng; omega) (fun h23 => ?_) (fun h23 => ?_)
              · refine S.aload_n (pc' := 29) dX11_read_28 rfl rfl rfl ?_
                refine S.getR (pc' := 32) dX11_read_29 rfl fX11_84 L_0 rf_0_12 ?_
                refine S.iload_n (pc' := 33) dX11_read_32 rfl rfl rfl ?_
                refine S.aald (pc' := 34) dX11_read_33 rfl L_142 (by decide) (by decide) (by omega) (by omega) (shs_r (by omega) (by omega)) ?_
                refine S.astore (pc' := 36) (LL' := [_, _, _, _, _, _, _, _, _]) dX11_read_34 rfl (by decide) rfl rfl ?_
                refine S.iload (pc' := 38) dX11_read_36 rfl rfl ?_
                refine S.if_ne (pc' := 41) (tgt := 45) dX11_read_38 (by decide) rfl (by unfold fp_rng; omega) (fun h38 => ?_) (fun h38 => ?_)
                · refine S.aload (pc' := 47) dX11_read_45 rfl rfl ?_
                  refine S.iload_n (pc' := 48) dX11_read_47 rfl rfl rfl ?_
                  refine S.callVi (pc' := 51) dX11_read_48 rfl cX11_331 (ok_X9_faultTakenAs ho1 (hn := hm0)) rfl (sh_lay (shs_o (by omega) (by omega))) (by decide) rfl (Nat.le_of_ble_eq_true rfl) (fun z48 M48 q48 => ?_)
                  obtain ⟨z1, rfl⟩ := q48
                  rw [hval] at z1
                  refine S.istore (pc' := 53) (LL' := [_, _, _, _, _, _, _, _, _]) dX11_read_51 rfl (by decide) rfl rfl ?_
                  refine S.iload (pc' := 55) dX11_read_53 rfl rfl ?_
                  refine S.if_eq (pc' := 58) (tgt := 66) dX11_read_55 (by decide) rfl (by unfold fp_rng; omega) (fun h55 => ?_) (fun h55 => ?_)
                  · exfalso; omega
                  · refine S.aload_n (pc' := 59) dX11_read_58 rfl rfl rfl ?_
                    refine S.iload (pc' := 61) dX11_read_59 rfl rfl ?_
                    refine S.putI (pc' := 64) dX11_read_61 rfl fX11_334 L_0 ?_
                    refine S.iconst (pc' := 65) dX11_read_64 rfl ?_
                    refine S.iret dX11_read_65 rfl ?_
                    subst z1
                    exact ⟨rfl, hcs.torn (by omega), fun c hcc => by rw [fp_up_ne (by omega)]⟩
                · exfalso; omega
              · exfalso; omega
  · rw [if_pos hin]
    refine S.iload_n (pc' := 1) dX11_read_0 rfl rfl rfl ?_
    refine S.iconst (pc' := 2) dX11_read_1 rfl ?_
    refine S.callSi (pc' := 5) dX11_read_2 rfl cX11_221 (bk_X11_isWithin) rfl (by decide) rfl (Nat.le_of_ble_eq_true rfl) (fun z2 M2 q2 => ?_)
    obtain ⟨b2, rfl⟩ := q2
    refine S.if_eq (pc' := 8) (tgt := 26) dX11_read_5 (by decide) rfl (by unfold fp_rng; omega) (fun h5 => ?_) (fun h5 => ?_)
    · refine S.iconst (pc' := 27) dX11_read_26 rfl ?_
      refine S.iret dX11_read_27 rfl ?_
      exact ⟨rfl, hcs, frC.refl _⟩
    · refine S.iload_n (pc' := 9) dX11_read_8 rfl rfl rfl ?_
      refine S.iconst (pc' := 10) dX11_read_9 rfl ?_
      refine S.callSi (pc' := 13) dX11_read_10 rfl cX11_221 (bk_X11_isWithin) rfl (by decide) rfl (Nat.le_of_ble_eq_true rfl) (fun z10 M10 q10 => ?_)
      obtain ⟨b10, rfl⟩ := q10
      refine S.if_eq (pc' := 16) (tgt := 26) dX11_read_13 (by decide) rfl (by unfold fp_rng; omega) (fun h13 => ?_) (fun h13 => ?_)
      · refine S.iconst (pc' := 27) dX11_read_26 rfl ?_
        refine S.iret dX11_read_27 rfl ?_
        exact ⟨rfl, hcs, frC.refl _⟩
      · refine S.iload (pc' := 18) dX11_read_16 rfl rfl ?_
        refine S.bipush (pc' := 20) dX11_read_18 rfl (by decide) ?_
        refine S.callSi (pc' := 23) dX11_read_20 rfl cX11_221 (bk_X11_isWithin) rfl (by decide) rfl (Nat.le_of_ble_eq_true rfl) (fun z20 M20 q20 => ?_)
        obtain ⟨b20, rfl⟩ := q20
        refine S.if_ne (pc' := 26) (tgt := 28) dX11_read_23 (by decide) rfl (by unfold fp_rng; omega) (fun h23 => ?_) (fun h23 => ?_)
        · exfalso; omega
        · refine S.iconst (pc' := 27) dX11_read_26 rfl ?_
          refine S.iret dX11_read_27 rfl ?_
          exact ⟨rfl, hcs, frC.refl _⟩
theorem fp_S.wI {d pc : Nat} {Y : fp_MR} {LL : List (Option Value)} {st : List Value} {P P' : Int → fp_Mem → Prop} (h : fp_S l G d Y pc LL st M (qI P)) (hq : ∀ z N, P z N → P' z N) : fp_S l G d Y pc LL st M (qI P') := fp_S.weaken h (fun r M' ⟨z, e, q⟩ => ⟨z, e, hq z M' q⟩)
theorem aRd_step {vs0 : List aVt} {c : Int → Int} {len f n9 j : Int} (h : j < n9) (h0 : 0 ≤ j) : aRd g vs0 tn c len f (n9 - j).toNat j vs = if ¬ (0 ≤ f ∧ f + 4 * j + 3 < len) then (j, vs, 2) else if (A_come g vs (c (f + 4 * j)) (c (f + 4 * j + 1)) (c (f + 4 * j + 2)) (c (f + 4 * j + 3))).1 < 0 then (-20 - j, vs0, tn) else aRd g vs0 tn c len f (n9 - (j + 1)).toNat (j + 1) (A_come g vs (c (f + 4 * j)) (c (f + 4 * j + 1)) (c (f + 4 * j + 2)) (c (f + 4 * j + 3))).2 := by
  obtain ⟨q, hq⟩ : ∃ q, (n9 - j).toNat = q + 1 := ⟨(n9 - j).toNat - 1, by omega⟩
  rw [hq, show (n9 - (j + 1)).toNat = q by omega]
  rfl
theorem mread_by {k9 lane f n9 b cm i : Int} {o9 : Option Value} (hb : 1 ≤ b ∧ b ≤ 3) (hi : 0 ≤ i ∧ i ≤ 40) (hn : 0 ≤ n9 ∧ n9 ≤ 10) : fp_S l G 3 kX12_read 51 [some (rV G 177), some (iV k9), some (iV lane), some (iV f), some (iV n9), some (iV b), some (iV cm), some (iV 0), some (iV i), o9] [] N (qI fun z O => z = cm ∧ O = fp_up N 177 44 b) := by
  refine S.iload (pc' := 53) dX12_read_51 rfl rfl ?_
  refine S.iconst (pc' := 54) dX12_read_53 rfl ?_
  refine S.iload (pc' := 56) dX12_read_54 rfl rfl ?_
  refine S.imul (pc' := 57) dX12_read_56 rfl ?_
  refine S.icmp_ge (pc' := 60) (tgt := 221) dX12_read_57 (by decide) rfl (by unfold fp_rng; omega) (by unfold fp_rng; omega) (fun h57 => ?_) (fun h57 => ?_)
  · refine S.iload (pc' := 223) dX12_read_221 rfl rfl ?_
    refine S.if_eq (pc' := 226) (tgt := 244) dX12_read_223 (by decide) rfl (by unfold fp_rng; omega) (fun h223 => ?_) (fun h223 => ?_)
    · refine S.aload_n (pc' := 245) dX12_read_244 rfl rfl rfl ?_
      refine S.iload (pc' := 247) dX12_read_245 rfl rfl ?_
      refine S.putI (pc' := 250) dX12_read_247 rfl fX12_330 L_177 ?_
      refine S.iload (pc' := 252) dX12_read_250 rfl rfl ?_
      refine S.iret dX12_read_252 rfl ?_
      exact ⟨rfl, rfl⟩
    · exfalso; omega
  · refine S.iload (pc' := 62) dX12_read_60 rfl rfl ?_
    refine S.if_ne (pc' := 65) (tgt := 221) dX12_read_62 (by decide) rfl (by unfold fp_rng; omega) (fun h62 => ?_) (fun h62 => ?_)
    · refine S.iload (pc' := 223) dX12_read_221 rfl rfl ?_
      refine S.if_eq (pc' := 226) (tgt := 244) dX12_read_223 (by decide) rfl (by unfold fp_rng; omega) (fun h223 => ?_) (fun h223 => ?_)
      · refine S.aload_n (pc' := 245) dX12_read_244 rfl rfl rfl ?_
        refine S.iload (pc' := 247) dX12_read_245 rfl rfl ?_
        refine S.putI (pc' := 250) dX12_read_247 rfl fX12_330 L_177 ?_
        refine S.iload (pc' := 252) dX12_read_250 rfl rfl ?_
        refine S.iret dX12_read_252 rfl ?_
        exact ⟨rfl, rfl⟩
      · exfalso; omega
    · exfalso; omega
theorem mread_no {k9 lane f n9 cm i : Int} {o9 : Option Value} (hi : 0 ≤ i ∧ i ≤ 40) (hn : 0 ≤ n9 ∧ n9 ≤ 10) (hcm : 0 ≤ cm ∧ cm ≤ 10) (h95 : 0 ≤ N 178 95 ∧ N 178 95 ≤ 12) : fp_S l G 3 kX12_read 51 [some (rV G 177), some (iV k9), some (iV lane), some (iV f), some (iV n9), some (iV 0), some (iV cm), some (iV 1), some (iV i), o9] [] N (qI fun z O => z = -20 - cm ∧ O = fp_up N 178 95 (N 178 95 - cm)) := by
  refine S.iload (pc' := 53) dX12_read_51 rfl rfl ?_
  refine S.iconst (pc' := 54) dX12_read_53 rfl ?_
  refine S.iload (pc' := 56) dX12_read_54 rfl rfl ?_
  refine S.imul (pc' := 57) dX12_read_56 rfl ?_
  refine S.icmp_ge (pc' := 60) (tgt := 221) dX12_read_57 (by decide) rfl (by unfold fp_rng; omega) (by unfold fp_rng; omega) (fun h57 => ?_) (fun h57 => ?_)
  · refine S.iload (pc' := 223) dX12_read_221 rfl rfl ?_
    refine S.if_eq (pc' := 226) (tgt := 244) dX12_read_223 (by decide) rfl (by unfold fp_rng; omega) (fun h223 => ?_) (fun h223 => ?_)
    · exfalso; omega
    · refine S.aload_n (pc' := 227) dX12_read_226 rfl rfl rfl ?_
      refine S.getR (pc' := 230) dX12_read_227 rfl fX12_7 L_177 rf_177_0 ?_
      refine S.bipush (pc' := 232) dX12_read_230 rfl (by decide) ?_
      refine S.dup2 (pc' := 233) dX12_read_232 rfl rfl rfl ?_
      refine S.iald (pc' := 234) dX12_read_233 rfl L_178 (by omega) (by omega) ?_
      refine S.iload (pc' := 236) dX12_read_234 rfl rfl ?_
      refine S.isub (pc' := 237) dX12_read_236 rfl ?_
      refine S.iast (pc' := 238) dX12_read_237 rfl L_178 (by omega) (by omega) ?_
      refine S.bipush (pc' := 240) dX12_read_238 rfl (by decide) ?_
      refine S.iload (pc' := 242) dX12_read_240 rfl rfl ?_
      refine S.isub (pc' := 243) dX12_read_242 rfl ?_
      refine S.iret dX12_read_243 rfl ?_
      exact ⟨rfl, rfl⟩
  · refine S.iload (pc' := 62) dX12_read_60 rfl rfl ?_
    refine S.if_ne (pc' := 65) (tgt := 221) dX12_read_62 (by decide) rfl (by unfold fp_rng; omega) (fun h62 => ?_) (fun h62 => ?_)
    · refine S.iload (pc' := 223) dX12_read_221 rfl rfl ?_
      refine S.if_eq (pc' := 226) (tgt := 244) dX12_read_223 (by decide) rfl (by unfold fp_rng; omega) (fun h223 => ?_) (fun h223 => ?_)
      · exfalso; omega
      · refine S.aload_n (pc' := 227) dX12_read_226 rfl rfl rfl ?_
        refine S.getR (pc' := 230) dX12_read_227 rfl fX12_7 L_177 rf_177_0 ?_
        refine S.bipush (pc' := 232) dX12_read_230 rfl (by decide) ?_
        refine S.dup2 (pc' := 233) dX12_read_232 rfl rfl rfl ?_
        refine S.iald (pc' := 234) dX12_read_233 rfl L_178 (by omega) (by omega) ?_
        refine S.iload (pc' := 236) dX12_read_234 rfl rfl ?_
        refine S.isub (pc' := 237) dX12_read_236 rfl ?_
        refine S.iast (pc' := 238) dX12_read_237 rfl L_178 (by omega) (by omega) ?_
        refine S.bipush (pc' := 240) dX12_read_238 rfl (by decide) ?_
        refine S.iload (pc' := 242) dX12_read_240 rfl rfl ?_
        refine S.isub (pc' := 243) dX12_read_242 rfl ?_
        refine S.iret dX12_read_243 rfl ?_
        exact ⟨rfl, rfl⟩
    · refine S.iload (pc' := 67) dX12_read_65 rfl rfl ?_
      refine S.if_ne (pc' := 70) (tgt := 221) dX12_read_67 (by decide) rfl (by unfold fp_rng; omega) (fun h67 => ?_) (fun h67 => ?_)
      · refine S.iload (pc' := 223) dX12_read_221 rfl rfl ?_
        refine S.if_eq (pc' := 226) (tgt := 244) dX12_read_223 (by decide) rfl (by unfold fp_rng; omega) (fun h223 => ?_) (fun h223 => ?_)
        · exfalso; omega
        · refine S.aload_n (pc' := 227) dX12_read_226 rfl rfl rfl ?_
          refine S.getR (pc' := 230) dX12_read_227 rfl fX12_7 L_177 rf_177_0 ?_
          refine S.bipush (pc' := 232) dX12_read_230 rfl (by decide) ?_
          refine S.dup2 (pc' := 233) dX12_read_232 rfl rfl rfl ?_
          refine S.iald (pc' := 234) dX12_read_233 rfl L_178 (by omega) (by omega) ?_
          refine S.iload (pc' := 236) dX12_read_234 rfl rfl ?_
          refine S.isub (pc' := 237) dX12_read_236 rfl ?_
          refine S.iast (pc' := 238) dX12_read_237 rfl L_178 (by omega) (by omega) ?_
          refine S.bipush (pc' := 240) dX12_read_238 rfl (by decide) ?_
          refine S.iload (pc' := 242) dX12_read_240 rfl rfl ?_
          refine S.isub (pc' := 243) dX12_read_242 rfl ?_
          refine S.iret dX12_read_243 rfl ?_
          exact ⟨rfl, rfl⟩
      · exfalso; omega
theorem mread_end {k9 lane f n9 cm : Int} {o9 : Option Value} (hn : 0 ≤ n9 ∧ n9 ≤ 10) : fp_S l G 3 kX12_read 51 [some (rV G 177), some (iV k9), some (iV lane), some (iV f), some (iV n9), some (iV 0), some (iV cm), some (iV 0), some (iV (4 * n9)), o9] [] N (qI fun z O => z = cm ∧ O = fp_up N 177 44 0) := by
  refine S.iload (pc' := 53) dX12_read_51 rfl rfl ?_
  refine S.iconst (pc' := 54) dX12_read_53 rfl ?_
  refine S.iload (pc' := 56) dX12_read_54 rfl rfl ?_
  refine S.imul (pc' := 57) dX12_read_56 rfl ?_
  refine S.icmp_ge (pc' := 60) (tgt := 221) dX12_read_57 (by decide) rfl (by unfold fp_rng; omega) (by unfold fp_rng; omega) (fun h57 => ?_) (fun h57 => ?_)
  · refine S.iload (pc' := 223) dX12_read_221 rfl rfl ?_
    refine S.if_eq (pc' := 226) (tgt := 244) dX12_read_223 (by decide) rfl (by unfold fp_rng; omega) (fun h223 => ?_) (fun h223 => ?_)
    · refine S.aload_n (pc' := 245) dX12_read_244 rfl rfl rfl ?_
      refine S.iload (pc' := 247) dX12_read_245 rfl rfl ?_
      refine S.putI (pc' := 250) dX12_read_247 rfl fX12_330 L_177 ?_
      refine S.iload (pc' := 252) dX12_read_250 rfl rfl ?_
      refine S.iret dX12_read_252 rfl ?_
      exact ⟨rfl, rfl⟩
    · exfalso; omega
  · exfalso; omega
theorem mread_loop {k9 lane f n9 : Int} (hk : 0 ≤ k9 ∧ k9 ≤ 3) (hf : fp_rng f) (hn9 : 0 ≤ n9 ∧ n9 ≤ 10) (ho : OK g pg vs nt im sh) (hne : (sh k9).1 ≠ -4) (hln : (sh k9).1 = lane) : ∀ (m : Nat) (i j r : Int) (N : fp_Mem) (ex : List aVt) (o9 : Option Value), (4 * n9 - i).toNat < m → i = 4 * j + r → 0 ≤ r → r < 4 → 0 ≤ j → i ≤ 4 * n9 → (i = 0 ∨ (0 ≤ f ∧ f + i ≤ (sh k9).2.1)) → ex.length = j → MS N tp fl g pg (vs ++ ex) nt im sh tn → frD M N → vsOk g (vs ++ ex) →
    fp_S l G 3 kX12_read 51 [some (rV G 177), some (iV k9), some (iV lane), some (iV f), some (iV n9), some (iV 0), some (iV j), some (iV 0), some (iV i), o9] [] N (qI fun z O => z = (aRd g vs tn (sh k9).2.2 (sh k9).2.1 f (n9 - j).toNat j (vs ++ ex)).1 ∧ MS O tp fl g pg (aRd g vs tn (sh k9).2.2 (sh k9).2.1 f (n9 - j).toNat j (vs ++ ex)).2.1 nt im sh (aRd g vs tn (sh k9).2.2 (sh k9).2.1 f (n9 - j).toNat j (vs ++ ex)).2.2 ∧ frD M O) := by
  have hg := ho.1
  have hsh : (0 ≤ (sh k9).1 ∧ (sh k9).1 ≤ 2) ∧ (0 ≤ (sh k9).2.1 ∧ (sh k9).2.1 ≤ 40) ∧ ∀ i, 0 ≤ i → i < 40 → fp_rng ((sh k9).2.2 i) := by
    rcases ho.2.2.2.2.2 k9 hk.1 (by omega) with q | q
    · exact absurd q hne
    · exact q
  obtain ⟨hs1, hs2, hcr⟩ := hsh
  have hf' := hf
  unfold fp_rng at hf'
  intro m
  induction m with
  | zero => intro i j r N ex o9 h; omega
  | succ m ih =>
    intro i j r N ex o9 h hij r0 r1 j0 hi4 hin hex hc hfr hvo
    have hcs := hc
    obtain ⟨hA, hd, hP, hv, hNt, hI, hS, hK⟩ := hc
    have hov : OK g pg (vs ++ ex) nt im sh := ⟨ho.1, ho.2.1, hvo, ho.2.2.2⟩
    obtain ⟨k2, hk3⟩ := hS k9 hk.1 (by omega)
    obtain ⟨k3, hcl⟩ := hk3 hne
    by_cases hend : i = 4 * n9
    · have hr : r = 0 := by omega
      have hj : j = n9 := by omega
      rw [hend, show (n9 - j).toNat = 0 by omega]
      refine (mread_end (l := l) (G := G) hn9).wI (fun z O q => ?_)
      obtain ⟨q1, q2⟩ := q
      subst q2
      exact ⟨q1, hcs.torn, fun c hcc => by rw [fp_up_ne (by omega)]; exact hfr c hcc⟩
    · have es := aRd_step (g := g) (tn := tn) (vs := vs ++ ex) (vs0 := vs) (c := (sh k9).2.2) (len := (sh k9).2.1) (f := f) (n9 := n9) (j := j) (by omega) j0
      by_cases hr : 0 ≤ f + i ∧ f + i ≤ (sh k9).2.1 - 1
      · by_cases hr3 : r = 3
        · rw [if_neg (fun q => q (by omega))] at es
          have hor := A_come_or g (vs ++ ex) ((sh k9).2.2 (f + 4 * j)) ((sh k9).2.2 (f + 4 * j + 1)) ((sh k9).2.2 (f + 4 * j + 2)) ((sh k9).2.2 (f + 4 * j + 3))
          have hok := A_come_ok (g := g) (vs := vs ++ ex) (day := (sh k9).2.2 (f + 4 * j)) (p := (sh k9).2.2 (f + 4 * j + 1)) (x := (sh k9).2.2 (f + 4 * j + 2)) (t := (sh k9).2.2 (f + 4 * j + 3)) hvo
          generalize hY : A_come g (vs ++ ex) ((sh k9).2.2 (f + 4 * j)) ((sh k9).2.2 (f + 4 * j + 1)) ((sh k9).2.2 (f + 4 * j + 2)) ((sh k9).2.2 (f + 4 * j + 3)) = Y at hor hok es
          have hYb : -3 ≤ Y.1 ∧ Y.1 ≤ 13 := by
            rw [← hY]
            have hl := hv.2.1
            unfold A_come
            split
            · dsimp only; omega
            · split
              · dsimp only; omega
              · dsimp only; omega
          have d0 : N 202 (40 * k9 + f + i - 3).toNat = (sh k9).2.2 (f + 4 * j) := by rw [← hcl (f + 4 * j) (by omega) (by omega)]; exact congrArg (N 202) (by omega)
          have d1 : N 202 (40 * k9 + f + i - 2).toNat = (sh k9).2.2 (f + 4 * j + 1) := by rw [← hcl (f + 4 * j + 1) (by omega) (by omega)]; exact congrArg (N 202) (by omega)
          have d2 : N 202 (40 * k9 + f + i - 1).toNat = (sh k9).2.2 (f + 4 * j + 2) := by rw [← hcl (f + 4 * j + 2) (by omega) (by omega)]; exact congrArg (N 202) (by omega)
          have d3 : N 202 (40 * k9 + f + i).toNat = (sh k9).2.2 (f + 4 * j + 3) := by rw [← hcl (f + 4 * j + 3) (by omega) (by omega)]; exact congrArg (N 202) (by omega)
          by_cases hneg : Y.1 < 0
          · rw [if_pos hneg] at es
            rw [es]
            refine S.iload (pc' := 53) dX12_read_51 rfl rfl ?_
            refine S.iconst (pc' := 54) dX12_read_53 rfl ?_
            refine S.iload (pc' := 56) dX12_read_54 rfl rfl ?_
            refine S.imul (pc' := 57) dX12_read_56 rfl ?_
            refine S.icmp_ge (pc' := 60) (tgt := 221) dX12_read_57 (by decide) rfl (by unfold fp_rng; omega) (by unfold fp_rng; omega) (fun h57 => ?_) (fun h57 => ?_)
            · exfalso; omega
            · refine S.iload (pc' := 62) dX12_read_60 rfl rfl ?_
              refine S.if_ne (pc' := 65) (tgt := 221) dX12_read_62 (by decide) rfl (by unfold fp_rng; omega) (fun h62 => ?_) (fun h62 => ?_)
              · exfalso; omega
              · refine S.iload (pc' := 67) dX12_read_65 rfl rfl ?_
                refine S.if_ne (pc' := 70) (tgt := 221) dX12_read_67 (by decide) rfl (by unfold fp_rng; omega) (fun h67 => ?_) (fun h67 => ?_)
                · exfalso; omega
                · refine S.aload_n (pc' := 71) dX12_read_70 rfl rfl rfl ?_
                  refine S.getR (pc' := 74) dX12_read_71 rfl fX12_82 L_177 rf_177_41 ?_
                  refine S.iload_n (pc' := 75) dX12_read_74 rfl rfl rfl ?_
                  refine S.iald (pc' := 76) dX12_read_75 rfl L_200 (by omega) (by omega) ?_
                  refine S.bipush (pc' := 78) dX12_read_76 rfl (by decide) ?_
                  refine S.icmp_ne (pc' := 81) (tgt := 85) dX12_read_78 (by decide) rfl (by unfold fp_rng; omega) (by unfold fp_rng; omega) (fun h78 => ?_) (fun h78 => ?_)
                  · refine S.aload_n (pc' := 86) dX12_read_85 rfl rfl rfl ?_
                    refine S.getR (pc' := 89) dX12_read_86 rfl fX12_82 L_177 rf_177_41 ?_
                    refine S.iload_n (pc' := 90) dX12_read_89 rfl rfl rfl ?_
                    refine S.iald (pc' := 91) dX12_read_90 rfl L_200 (by omega) (by omega) ?_
                    refine S.iload_n (pc' := 92) dX12_read_91 rfl rfl rfl ?_
                    refine S.icmp_eq (pc' := 95) (tgt := 99) dX12_read_92 (by decide) rfl (by unfold fp_rng; omega) (by unfold fp_rng; omega) (fun h92 => ?_) (fun h92 => ?_)
                    · refine S.iload_n (pc' := 100) dX12_read_99 rfl rfl rfl ?_
                      refine S.i2l (pc' := 101) dX12_read_100 rfl (by unfold fp_rng; omega) ?_
                      refine S.iload (pc' := 103) dX12_read_101 rfl rfl ?_
                      refine S.i2l (pc' := 104) dX12_read_103 rfl (by unfold fp_rng; omega) ?_
                      refine S.ladd (pc' := 105) dX12_read_104 rfl ?_
                      refine S.lconst (pc' := 106) (w := 0) dX12_read_105 rfl rfl ?_
                      refine S.aload_n (pc' := 107) dX12_read_106 rfl rfl rfl ?_
                      refine S.getR (pc' := 110) dX12_read_107 rfl fX12_85 L_177 rf_177_42 ?_
                      refine S.iload_n (pc' := 111) dX12_read_110 rfl rfl rfl ?_
                      refine S.iald (pc' := 112) dX12_read_111 rfl L_201 (by omega) (by omega) ?_
                      refine S.iconst (pc' := 113) dX12_read_112 rfl ?_
                      refine S.isub (pc' := 114) dX12_read_113 rfl ?_
                      refine S.i2l (pc' := 115) dX12_read_114 rfl (by unfold fp_rng; omega) ?_
                      refine S.callSi (pc' := 118) dX12_read_115 rfl cX12_94 (bk_X12_in) rfl (by decide) rfl (Nat.le_of_ble_eq_true rfl) (fun z115 M115 q115 => ?_)
                      obtain ⟨b115, rfl⟩ := q115
                      refine S.if_ne (pc' := 121) (tgt := 125) dX12_read_118 (by decide) rfl (by unfold fp_rng; omega) (fun h118 => ?_) (fun h118 => ?_)
                      · refine S.iconst (pc' := 126) dX12_read_125 rfl ?_
                        refine S.istore (pc' := 128) (LL' := [_, _, _, _, _, _, _, _, _, _]) dX12_read_126 rfl (by decide) rfl rfl ?_
                        refine S.iload (pc' := 130) dX12_read_128 rfl rfl ?_
                        refine S.if_ne (pc' := 133) (tgt := 215) dX12_read_130 (by decide) rfl (by unfold fp_rng; omega) (fun h130 => ?_) (fun h130 => ?_)
                        · refine S.iinc (pc' := 218) (LL' := [_, _, _, _, _, _, _, _, _, _]) dX12_read_215 rfl (by decide) rfl rfl rfl ?_
                          refine S.goto (pc' := 51) dX12_read_218 (by decide) ?_
                          try (exfalso; omega)
                          all_goals
                            have hY2 : Y.2 = vs ++ ex := by
                              rcases hor with q | q
                              · exact q.2
                              · exact absurd q.1 (by omega)
                            rw [hY2] at c1
                            have c95 := c1.1
                            have c12 := c1.2.1
                            rw [List.length_append] at c95 c12
                            refine (mread_no (l := l) (G := G) (by omega) hn9 (by omega) (by omega)).wI (fun z O q => ?_)
                            obtain ⟨q1, q2⟩ := q
                            subst q2
                            refine ⟨by show z = -20 - j; omega, hcs.vis hov (fun c hcc => by rw [fp_up_ne hcc]; exact f1 c hcc) (fun j hj => by rw [fp_up_at, fp_upf_ne (by omega)]; exact g1 j hj) (c1.pre (by rw [fp_up_at, fp_upf_at, c95]; omega) (fun j hj => by rw [fp_up_at, fp_upf_ne (by omega)])), fun c hcc => by rw [fp_up_ne (by omega), f1 c (by omega)]; exact hfr c hcc⟩
                        · refine S.iload (pc' := 135) dX12_read_133 rfl rfl ?_
                          refine S.iconst (pc' := 136) dX12_read_135 rfl ?_
                          refine S.irem (pc' := 137) dX12_read_136 rfl (by decide) (fp_rem4 (by omega)) ?_
                          refine S.iconst (pc' := 138) dX12_read_137 rfl ?_
                          refine S.icmp_ne (pc' := 141) (tgt := 215) dX12_read_138 (by decide) rfl (by unfold fp_rng; omega) (by unfold fp_rng; omega) (fun h138 => ?_) (fun h138 => ?_)
                          · refine S.iinc (pc' := 218) (LL' := [_, _, _, _, _, _, _, _, _, _]) dX12_read_215 rfl (by decide) rfl rfl rfl ?_
                            refine S.goto (pc' := 51) dX12_read_218 (by decide) ?_
                            try (exfalso; omega)
                            all_goals
                              have hY2 : Y.2 = vs ++ ex := by
                                rcases hor with q | q
                                · exact q.2
                                · exact absurd q.1 (by omega)
                              rw [hY2] at c1
                              have c95 := c1.1
                              have c12 := c1.2.1
                              rw [List.length_append] at c95 c12
                              refine (mread_no (l := l) (G := G) (by omega) hn9 (by omega) (by omega)).wI (fun z O q => ?_)
                              obtain ⟨q1, q2⟩ := q
                              subst q2
                              refine ⟨by show z = -20 - j; omega, hcs.vis hov (fun c hcc => by rw [fp_up_ne hcc]; exact f1 c hcc) (fun j hj => by rw [fp_up_at, fp_upf_ne (by omega)]; exact g1 j hj) (c1.pre (by rw [fp_up_at, fp_upf_at, c95]; omega) (fun j hj => by rw [fp_up_at, fp_upf_ne (by omega)])), fun c hcc => by rw [fp_up_ne (by omega), f1 c (by omega)]; exact hfr c hcc⟩
                          · refine S.bipush (pc' := 143) dX12_read_141 rfl (by decide) ?_
                            refine S.iload_n (pc' := 144) dX12_read_143 rfl rfl rfl ?_
                            refine S.imul (pc' := 145) dX12_read_144 rfl ?_
                            refine S.iload_n (pc' := 146) dX12_read_145 rfl rfl rfl ?_
                            refine S.iadd (pc' := 147) dX12_read_146 rfl ?_
                            refine S.iload (pc' := 149) dX12_read_147 rfl rfl ?_
                            refine S.iadd (pc' := 150) dX12_read_149 rfl ?_
                            refine S.istore (pc' := 152) (LL' := [_, _, _, _, _, _, _, _, _, _]) dX12_read_150 rfl (by decide) rfl rfl ?_
                            refine S.aload_n (pc' := 153) dX12_read_152 rfl rfl rfl ?_
                            refine S.aload_n (pc' := 154) dX12_read_153 rfl rfl rfl ?_
                            refine S.getR (pc' := 157) dX12_read_154 rfl fX12_88 L_177 rf_177_43 ?_
                            refine S.iload (pc' := 159) dX12_read_157 rfl rfl ?_
                            refine S.iconst (pc' := 160) dX12_read_159 rfl ?_
                            refine S.isub (pc' := 161) dX12_read_160 rfl ?_
                            refine S.iald (pc' := 162) dX12_read_161 rfl L_202 (by omega) (by omega) ?_
                            refine S.aload_n (pc' := 163) dX12_read_162 rfl rfl rfl ?_
                            refine S.getR (pc' := 166) dX12_read_163 rfl fX12_88 L_177 rf_177_43 ?_
                            refine S.iload (pc' := 168) dX12_read_166 rfl rfl ?_
                            refine S.iconst (pc' := 169) dX12_read_168 rfl ?_
                            refine S.isub (pc' := 170) dX12_read_169 rfl ?_
                            refine S.iald (pc' := 171) dX12_read_170 rfl L_202 (by omega) (by omega) ?_
                            refine S.aload_n (pc' := 172) dX12_read_171 rfl rfl rfl ?_
                            refine S.getR (pc' := 175) dX12_read_172 rfl fX12_88 L_177 rf_177_43 ?_
                            refine S.iload (pc' := 177) dX12_read_175 rfl rfl ?_
                            refine S.iconst (pc' := 178) dX12_read_177 rfl ?_
                            refine S.isub (pc' := 179) dX12_read_178 rfl ?_
                            refine S.iald (pc' := 180) dX12_read_179 rfl L_202 (by omega) (by omega) ?_
                            refine S.aload_n (pc' := 181) dX12_read_180 rfl rfl rfl ?_
                            refine S.getR (pc' := 184) dX12_read_181 rfl fX12_88 L_177 rf_177_43 ?_
                            refine S.iload (pc' := 186) dX12_read_184 rfl rfl ?_
                            refine S.iald (pc' := 187) dX12_read_186 rfl L_202 (by omega) (by omega) ?_
                            rw [d0, d1, d2, d3]
                            refine S.callVi (pc' := 190) dX12_read_187 rfl cX12_253 (rk_X12_comes (g := g) (vs := vs ++ ex) (h1 := hcr _ (by omega) (by omega)) (h2 := hcr _ (by omega) (by omega)) (h3 := hcr _ (by omega) (by omega)) (h4 := hcr _ (by omega) (by omega))) rfl L_177 (by decide) rfl (Nat.le_of_ble_eq_true rfl) (fun z187 M187 q187 => ?_)
                            rw [hY] at q187
                            obtain ⟨z1, c1, f1, g1⟩ := q187
                            refine S.if_ge (pc' := 193) (tgt := 197) dX12_read_190 (by decide) rfl (by unfold fp_rng; omega) (fun h190 => ?_) (fun h190 => ?_)
                            · exfalso; omega
                            · refine S.iconst (pc' := 194) dX12_read_193 rfl ?_
                              refine S.goto (pc' := 198) dX12_read_194 (by decide) ?_
                              refine S.istore (pc' := 200) (LL' := [_, _, _, _, _, _, _, _, _, _]) dX12_read_198 rfl (by decide) rfl rfl ?_
                              refine S.iload (pc' := 202) dX12_read_200 rfl rfl ?_
                              refine S.iload (pc' := 204) dX12_read_202 rfl rfl ?_
                              refine S.if_eq (pc' := 207) (tgt := 211) dX12_read_204 (by decide) rfl (by unfold fp_rng; omega) (fun h204 => ?_) (fun h204 => ?_)
                              · exfalso; omega
                              · refine S.iconst (pc' := 208) dX12_read_207 rfl ?_
                                refine S.goto (pc' := 212) dX12_read_208 (by decide) ?_
                                refine S.iadd (pc' := 213) dX12_read_212 rfl ?_
                                refine S.istore (pc' := 215) (LL' := [_, _, _, _, _, _, _, _, _, _]) dX12_read_213 rfl (by decide) rfl rfl ?_
                                refine S.iinc (pc' := 218) (LL' := [_, _, _, _, _, _, _, _, _, _]) dX12_read_215 rfl (by decide) rfl rfl rfl ?_
                                refine S.goto (pc' := 51) dX12_read_218 (by decide) ?_
                                try (exfalso; omega)
                                all_goals
                                  have hY2 : Y.2 = vs ++ ex := by
                                    rcases hor with q | q
                                    · exact q.2
                                    · exact absurd q.1 (by omega)
                                  rw [hY2] at c1
                                  have c95 := c1.1
                                  have c12 := c1.2.1
                                  rw [List.length_append] at c95 c12
                                  refine (mread_no (l := l) (G := G) (by omega) hn9 (by omega) (by omega)).wI (fun z O q => ?_)
                                  obtain ⟨q1, q2⟩ := q
                                  subst q2
                                  refine ⟨by show z = -20 - j; omega, hcs.vis hov (fun c hcc => by rw [fp_up_ne hcc]; exact f1 c hcc) (fun j hj => by rw [fp_up_at, fp_upf_ne (by omega)]; exact g1 j hj) (c1.pre (by rw [fp_up_at, fp_upf_at, c95]; omega) (fun j hj => by rw [fp_up_at, fp_upf_ne (by omega)])), fun c hcc => by rw [fp_up_ne (by omega), f1 c (by omega)]; exact hfr c hcc⟩
                      · exfalso; omega
                    · exfalso; omega
                  · exfalso; omega
          · rw [if_neg hneg] at es
            rw [es]
            refine S.iload (pc' := 53) dX12_read_51 rfl rfl ?_
            refine S.iconst (pc' := 54) dX12_read_53 rfl ?_
            refine S.iload (pc' := 56) dX12_read_54 rfl rfl ?_
            refine S.imul (pc' := 57) dX12_read_56 rfl ?_
            refine S.icmp_ge (pc' := 60) (tgt := 221) dX12_read_57 (by decide) rfl (by unfold fp_rng; omega) (by unfold fp_rng; omega) (fun h57 => ?_) (fun h57 => ?_)
            · exfalso; omega
            · refine S.iload (pc' := 62) dX12_read_60 rfl rfl ?_
              refine S.if_ne (pc' := 65) (tgt := 221) dX12_read_62 (by decide) rfl (by unfold fp_rng; omega) (fun h62 => ?_) (fun h62 => ?_)
              · exfalso; omega
              · refine S.iload (pc' := 67) dX12_read_65 rfl rfl ?_
                refine S.if_ne (pc' := 70) (tgt := 221) dX12_read_67 (by decide) rfl (by unfold fp_rng; omega) (fun h67 => ?_) (fun h67 => ?_)
                · exfalso; omega
                · refine S.aload_n (pc' := 71) dX12_read_70 rfl rfl rfl ?_
                  refine S.getR (pc' := 74) dX12_read_71 rfl fX12_82 L_177 rf_177_41 ?_
                  refine S.iload_n (pc' := 75) dX12_read_74 rfl rfl rfl ?_
                  refine S.iald (pc' := 76) dX12_read_75 rfl L_200 (by omega) (by omega) ?_
                  refine S.bipush (pc' := 78) dX12_read_76 rfl (by decide) ?_
                  refine S.icmp_ne (pc' := 81) (tgt := 85) dX12_read_78 (by decide) rfl (by unfold fp_rng; omega) (by unfold fp_rng; omega) (fun h78 => ?_) (fun h78 => ?_)
                  · refine S.aload_n (pc' := 86) dX12_read_85 rfl rfl rfl ?_
                    refine S.getR (pc' := 89) dX12_read_86 rfl fX12_82 L_177 rf_177_41 ?_
                    refine S.iload_n (pc' := 90) dX12_read_89 rfl rfl rfl ?_
                    refine S.iald (pc' := 91) dX12_read_90 rfl L_200 (by omega) (by omega) ?_
                    refine S.iload_n (pc' := 92) dX12_read_91 rfl rfl rfl ?_
                    refine S.icmp_eq (pc' := 95) (tgt := 99) dX12_read_92 (by decide) rfl (by unfold fp_rng; omega) (by unfold fp_rng; omega) (fun h92 => ?_) (fun h92 => ?_)
                    · refine S.iload_n (pc' := 100) dX12_read_99 rfl rfl rfl ?_
                      refine S.i2l (pc' := 101) dX12_read_100 rfl (by unfold fp_rng; omega) ?_
                      refine S.iload (pc' := 103) dX12_read_101 rfl rfl ?_
                      refine S.i2l (pc' := 104) dX12_read_103 rfl (by unfold fp_rng; omega) ?_
                      refine S.ladd (pc' := 105) dX12_read_104 rfl ?_
                      refine S.lconst (pc' := 106) (w := 0) dX12_read_105 rfl rfl ?_
                      refine S.aload_n (pc' := 107) dX12_read_106 rfl rfl rfl ?_
                      refine S.getR (pc' := 110) dX12_read_107 rfl fX12_85 L_177 rf_177_42 ?_
                      refine S.iload_n (pc' := 111) dX12_read_110 rfl rfl rfl ?_
                      refine S.iald (pc' := 112) dX12_read_111 rfl L_201 (by omega) (by omega) ?_
                      refine S.iconst (pc' := 113) dX12_read_112 rfl ?_
                      refine S.isub (pc' := 114) dX12_read_113 rfl ?_
                      refine S.i2l (pc' := 115) dX12_read_114 rfl (by unfold fp_rng; omega) ?_
                      refine S.callSi (pc' := 118) dX12_read_115 rfl cX12_94 (bk_X12_in) rfl (by decide) rfl (Nat.le_of_ble_eq_true rfl) (fun z115 M115 q115 => ?_)
                      obtain ⟨b115, rfl⟩ := q115
                      refine S.if_ne (pc' := 121) (tgt := 125) dX12_read_118 (by decide) rfl (by unfold fp_rng; omega) (fun h118 => ?_) (fun h118 => ?_)
                      · refine S.iconst (pc' := 126) dX12_read_125 rfl ?_
                        refine S.istore (pc' := 128) (LL' := [_, _, _, _, _, _, _, _, _, _]) dX12_read_126 rfl (by decide) rfl rfl ?_
                        refine S.iload (pc' := 130) dX12_read_128 rfl rfl ?_
                        refine S.if_ne (pc' := 133) (tgt := 215) dX12_read_130 (by decide) rfl (by unfold fp_rng; omega) (fun h130 => ?_) (fun h130 => ?_)
                        · refine S.iinc (pc' := 218) (LL' := [_, _, _, _, _, _, _, _, _, _]) dX12_read_215 rfl (by decide) rfl rfl rfl ?_
                          refine S.goto (pc' := 51) dX12_read_218 (by decide) ?_
                          try (exfalso; omega)
                          all_goals
                            have hY2 : ∃ v, Y.2 = vs ++ (ex ++ [v]) := by
                              rcases hor with q | q
                              · exact absurd q.1 hneg
                              · exact ⟨_, by rw [q.2, List.append_assoc]⟩
                            obtain ⟨v, hY2⟩ := hY2
                            rw [hY2] at c1 hok ⊢
                            exact ih _ (j + 1) 0 _ _ _ (by omega) (by omega) (by omega) (by omega) (by omega) (by omega) (by omega) (by rw [List.length_append]; simp; omega) (hcs.vis hov f1 g1 c1) (hfr.trans (fun c hc => f1 c (by omega))) hok
                        · refine S.iload (pc' := 135) dX12_read_133 rfl rfl ?_
                          refine S.iconst (pc' := 136) dX12_read_135 rfl ?_
                          refine S.irem (pc' := 137) dX12_read_136 rfl (by decide) (fp_rem4 (by omega)) ?_
                          refine S.iconst (pc' := 138) dX12_read_137 rfl ?_
                          refine S.icmp_ne (pc' := 141) (tgt := 215) dX12_read_138 (by decide) rfl (by unfold fp_rng; omega) (by unfold fp_rng; omega) (fun h138 => ?_) (fun h138 => ?_)
                          · refine S.iinc (pc' := 218) (LL' := [_, _, _, _, _, _, _, _, _, _]) dX12_read_215 rfl (by decide) rfl rfl rfl ?_
                            refine S.goto (pc' := 51) dX12_read_218 (by decide) ?_
                            try (exfalso; omega)
                            all_goals
                              have hY2 : ∃ v, Y.2 = vs ++ (ex ++ [v]) := by
                                rcases hor with q | q
                                · exact absurd q.1 hneg
                                · exact ⟨_, by rw [q.2, List.append_assoc]⟩
                              obtain ⟨v, hY2⟩ := hY2
                              rw [hY2] at c1 hok ⊢
                              exact ih _ (j + 1) 0 _ _ _ (by omega) (by omega) (by omega) (by omega) (by omega) (by omega) (by omega) (by rw [List.length_append]; simp; omega) (hcs.vis hov f1 g1 c1) (hfr.trans (fun c hc => f1 c (by omega))) hok
                          · refine S.bipush (pc' := 143) dX12_read_141 rfl (by decide) ?_
                            refine S.iload_n (pc' := 144) dX12_read_143 rfl rfl rfl ?_
                            refine S.imul (pc' := 145) dX12_read_144 rfl ?_
                            refine S.iload_n (pc' := 146) dX12_read_145 rfl rfl rfl ?_
                            refine S.iadd (pc' := 147) dX12_read_146 rfl ?_
                            refine S.iload (pc' := 149) dX12_read_147 rfl rfl ?_
                            refine S.iadd (pc' := 150) dX12_read_149 rfl ?_
                            refine S.istore (pc' := 152) (LL' := [_, _, _, _, _, _, _, _, _, _]) dX12_read_150 rfl (by decide) rfl rfl ?_
                            refine S.aload_n (pc' := 153) dX12_read_152 rfl rfl rfl ?_
                            refine S.aload_n (pc' := 154) dX12_read_153 rfl rfl rfl ?_
                            refine S.getR (pc' := 157) dX12_read_154 rfl fX12_88 L_177 rf_177_43 ?_
                            refine S.iload (pc' := 159) dX12_read_157 rfl rfl ?_
                            refine S.iconst (pc' := 160) dX12_read_159 rfl ?_
                            refine S.isub (pc' := 161) dX12_read_160 rfl ?_
                            refine S.iald (pc' := 162) dX12_read_161 rfl L_202 (by omega) (by omega) ?_
                            refine S.aload_n (pc' := 163) dX12_read_162 rfl rfl rfl ?_
                            refine S.getR (pc' := 166) dX12_read_163 rfl fX12_88 L_177 rf_177_43 ?_
                            refine S.iload (pc' := 168) dX12_read_166 rfl rfl ?_
                            refine S.iconst (pc' := 169) dX12_read_168 rfl ?_
                            refine S.isub (pc' := 170) dX12_read_169 rfl ?_
                            refine S.iald (pc' := 171) dX12_read_170 rfl L_202 (by omega) (by omega) ?_
                            refine S.aload_n (pc' := 172) dX12_read_171 rfl rfl rfl ?_
                            refine S.getR (pc' := 175) dX12_read_172 rfl fX12_88 L_177 rf_177_43 ?_
                            refine S.iload (pc' := 177) dX12_read_175 rfl rfl ?_
                            refine S.iconst (pc' := 178) dX12_read_177 rfl ?_
                            refine S.isub (pc' := 179) dX12_read_178 rfl ?_
                            refine S.iald (pc' := 180) dX12_read_179 rfl L_202 (by omega) (by omega) ?_
                            refine S.aload_n (pc' := 181) dX12_read_180 rfl rfl rfl ?_
                            refine S.getR (pc' := 184) dX12_read_181 rfl fX12_88 L_177 rf_177_43 ?_
                            refine S.iload (pc' := 186) dX12_read_184 rfl rfl ?_
                            refine S.iald (pc' := 187) dX12_read_186 rfl L_202 (by omega) (by omega) ?_
                            rw [d0, d1, d2, d3]
                            refine S.callVi (pc' := 190) dX12_read_187 rfl cX12_253 (rk_X12_comes (g := g) (vs := vs ++ ex) (h1 := hcr _ (by omega) (by omega)) (h2 := hcr _ (by omega) (by omega)) (h3 := hcr _ (by omega) (by omega)) (h4 := hcr _ (by omega) (by omega))) rfl L_177 (by decide) rfl (Nat.le_of_ble_eq_true rfl) (fun z187 M187 q187 => ?_)
                            rw [hY] at q187
                            obtain ⟨z1, c1, f1, g1⟩ := q187
                            refine S.if_ge (pc' := 193) (tgt := 197) dX12_read_190 (by decide) rfl (by unfold fp_rng; omega) (fun h190 => ?_) (fun h190 => ?_)
                            · refine S.iconst (pc' := 198) dX12_read_197 rfl ?_
                              refine S.istore (pc' := 200) (LL' := [_, _, _, _, _, _, _, _, _, _]) dX12_read_198 rfl (by decide) rfl rfl ?_
                              refine S.iload (pc' := 202) dX12_read_200 rfl rfl ?_
                              refine S.iload (pc' := 204) dX12_read_202 rfl rfl ?_
                              refine S.if_eq (pc' := 207) (tgt := 211) dX12_read_204 (by decide) rfl (by unfold fp_rng; omega) (fun h204 => ?_) (fun h204 => ?_)
                              · refine S.iconst (pc' := 212) dX12_read_211 rfl ?_
                                refine S.iadd (pc' := 213) dX12_read_212 rfl ?_
                                refine S.istore (pc' := 215) (LL' := [_, _, _, _, _, _, _, _, _, _]) dX12_read_213 rfl (by decide) rfl rfl ?_
                                refine S.iinc (pc' := 218) (LL' := [_, _, _, _, _, _, _, _, _, _]) dX12_read_215 rfl (by decide) rfl rfl rfl ?_
                                refine S.goto (pc' := 51) dX12_read_218 (by decide) ?_
                                try (exfalso; omega)
                                all_goals
                                  have hY2 : ∃ v, Y.2 = vs ++ (ex ++ [v]) := by
                                    rcases hor with q | q
                                    · exact absurd q.1 hneg
                                    · exact ⟨_, by rw [q.2, List.append_assoc]⟩
                                  obtain ⟨v, hY2⟩ := hY2
                                  rw [hY2] at c1 hok ⊢
                                  exact ih _ (j + 1) 0 _ _ _ (by omega) (by omega) (by omega) (by omega) (by omega) (by omega) (by omega) (by rw [List.length_append]; simp; omega) (hcs.vis hov f1 g1 c1) (hfr.trans (fun c hc => f1 c (by omega))) hok
                              · exfalso; omega
                            · exfalso; omega
                      · exfalso; omega
                    · exfalso; omega
                  · exfalso; omega
        · refine S.iload (pc' := 53) dX12_read_51 rfl rfl ?_
          refine S.iconst (pc' := 54) dX12_read_53 rfl ?_
          refine S.iload (pc' := 56) dX12_read_54 rfl rfl ?_
          refine S.imul (pc' := 57) dX12_read_56 rfl ?_
          refine S.icmp_ge (pc' := 60) (tgt := 221) dX12_read_57 (by decide) rfl (by unfold fp_rng; omega) (by unfold fp_rng; omega) (fun h57 => ?_) (fun h57 => ?_)
          · exfalso; omega
          · refine S.iload (pc' := 62) dX12_read_60 rfl rfl ?_
            refine S.if_ne (pc' := 65) (tgt := 221) dX12_read_62 (by decide) rfl (by unfold fp_rng; omega) (fun h62 => ?_) (fun h62 => ?_)
            · exfalso; omega
            · refine S.iload (pc' := 67) dX12_read_65 rfl rfl ?_
              refine S.if_ne (pc' := 70) (tgt := 221) dX12_read_67 (by decide) rfl (by unfold fp_rng; omega) (fun h67 => ?_) (fun h67 => ?_)
              · exfalso; omega
              · refine S.aload_n (pc' := 71) dX12_read_70 rfl rfl rfl ?_
                refine S.getR (pc' := 74) dX12_read_71 rfl fX12_82 L_177 rf_177_41 ?_
                refine S.iload_n (pc' := 75) dX12_read_74 rfl rfl rfl ?_
                refine S.iald (pc' := 76) dX12_read_75 rfl L_200 (by omega) (by omega) ?_
                refine S.bipush (pc' := 78) dX12_read_76 rfl (by decide) ?_
                refine S.icmp_ne (pc' := 81) (tgt := 85) dX12_read_78 (by decide) rfl (by unfold fp_rng; omega) (by unfold fp_rng; omega) (fun h78 => ?_) (fun h78 => ?_)
                · refine S.aload_n (pc' := 86) dX12_read_85 rfl rfl rfl ?_
                  refine S.getR (pc' := 89) dX12_read_86 rfl fX12_82 L_177 rf_177_41 ?_
                  refine S.iload_n (pc' := 90) dX12_read_89 rfl rfl rfl ?_
                  refine S.iald (pc' := 91) dX12_read_90 rfl L_200 (by omega) (by omega) ?_
                  refine S.iload_n (pc' := 92) dX12_read_91 rfl rfl rfl ?_
                  refine S.icmp_eq (pc' := 95) (tgt := 99) dX12_read_92 (by decide) rfl (by unfold fp_rng; omega) (by unfold fp_rng; omega) (fun h92 => ?_) (fun h92 => ?_)
                  · refine S.iload_n (pc' := 100) dX12_read_99 rfl rfl rfl ?_
                    refine S.i2l (pc' := 101) dX12_read_100 rfl (by unfold fp_rng; omega) ?_
                    refine S.iload (pc' := 103) dX12_read_101 rfl rfl ?_
                    refine S.i2l (pc' := 104) dX12_read_103 rfl (by unfold fp_rng; omega) ?_
                    refine S.ladd (pc' := 105) dX12_read_104 rfl ?_
                    refine S.lconst (pc' := 106) (w := 0) dX12_read_105 rfl rfl ?_
                    refine S.aload_n (pc' := 107) dX12_read_106 rfl rfl rfl ?_
                    refine S.getR (pc' := 110) dX12_read_107 rfl fX12_85 L_177 rf_177_42 ?_
                    refine S.iload_n (pc' := 111) dX12_read_110 rfl rfl rfl ?_
                    refine S.iald (pc' := 112) dX12_read_111 rfl L_201 (by omega) (by omega) ?_
                    refine S.iconst (pc' := 113) dX12_read_112 rfl ?_
                    refine S.isub (pc' := 114) dX12_read_113 rfl ?_
                    refine S.i2l (pc' := 115) dX12_read_114 rfl (by unfold fp_rng; omega) ?_
                    refine S.callSi (pc' := 118) dX12_read_115 rfl cX12_94 (bk_X12_in) rfl (by decide) rfl (Nat.le_of_ble_eq_true rfl) (fun z115 M115 q115 => ?_)
                    obtain ⟨b115, rfl⟩ := q115
                    refine S.if_ne (pc' := 121) (tgt := 125) dX12_read_118 (by decide) rfl (by unfold fp_rng; omega) (fun h118 => ?_) (fun h118 => ?_)
                    · refine S.iconst (pc' := 126) dX12_read_125 rfl ?_
                      refine S.istore (pc' := 128) (LL' := [_, _, _, _, _, _, _, _, _, _]) dX12_read_126 rfl (by decide) rfl rfl ?_
                      refine S.iload (pc' := 130) dX12_read_128 rfl rfl ?_
                      refine S.if_ne (pc' := 133) (tgt := 215) dX12_read_130 (by decide) rfl (by unfold fp_rng; omega) (fun h130 => ?_) (fun h130 => ?_)
                      · refine S.iinc (pc' := 218) (LL' := [_, _, _, _, _, _, _, _, _, _]) dX12_read_215 rfl (by decide) rfl rfl rfl ?_
                        refine S.goto (pc' := 51) dX12_read_218 (by decide) ?_
                        exact ih _ _ (r + 1) _ _ _ (by omega) (by omega) (by omega) (by omega) (by omega) (by omega) (by omega) hex hcs hfr hvo
                      · refine S.iload (pc' := 135) dX12_read_133 rfl rfl ?_
                        refine S.iconst (pc' := 136) dX12_read_135 rfl ?_
                        refine S.irem (pc' := 137) dX12_read_136 rfl (by decide) (fp_rem4 (by omega)) ?_
                        refine S.iconst (pc' := 138) dX12_read_137 rfl ?_
                        refine S.icmp_ne (pc' := 141) (tgt := 215) dX12_read_138 (by decide) rfl (by unfold fp_rng; omega) (by unfold fp_rng; omega) (fun h138 => ?_) (fun h138 => ?_)
                        · refine S.iinc (pc' := 218) (LL' := [_, _, _, _, _, _, _, _, _, _]) dX12_read_215 rfl (by decide) rfl rfl rfl ?_
                          refine S.goto (pc' := 51) dX12_read_218 (by decide) ?_
                          exact ih _ _ (r + 1) _ _ _ (by omega) (by omega) (by omega) (by omega) (by omega) (by omega) (by omega) hex hcs hfr hvo
                        · exfalso; omega
                    · exfalso; omega
                  · exfalso; omega
                · exfalso; omega
      · rw [if_pos (by omega)] at es
        rw [es]
        refine S.iload (pc' := 53) dX12_read_51 rfl rfl ?_
        refine S.iconst (pc' := 54) dX12_read_53 rfl ?_
        refine S.iload (pc' := 56) dX12_read_54 rfl rfl ?_
        refine S.imul (pc' := 57) dX12_read_56 rfl ?_
        refine S.icmp_ge (pc' := 60) (tgt := 221) dX12_read_57 (by decide) rfl (by unfold fp_rng; omega) (by unfold fp_rng; omega) (fun h57 => ?_) (fun h57 => ?_)
        · exfalso; omega
        · refine S.iload (pc' := 62) dX12_read_60 rfl rfl ?_
          refine S.if_ne (pc' := 65) (tgt := 221) dX12_read_62 (by decide) rfl (by unfold fp_rng; omega) (fun h62 => ?_) (fun h62 => ?_)
          · exfalso; omega
          · refine S.iload (pc' := 67) dX12_read_65 rfl rfl ?_
            refine S.if_ne (pc' := 70) (tgt := 221) dX12_read_67 (by decide) rfl (by unfold fp_rng; omega) (fun h67 => ?_) (fun h67 => ?_)
            · exfalso; omega
            · refine S.aload_n (pc' := 71) dX12_read_70 rfl rfl rfl ?_
              refine S.getR (pc' := 74) dX12_read_71 rfl fX12_82 L_177 rf_177_41 ?_
              refine S.iload_n (pc' := 75) dX12_read_74 rfl rfl rfl ?_
              refine S.iald (pc' := 76) dX12_read_75 rfl L_200 (by omega) (by omega) ?_
              refine S.bipush (pc' := 78) dX12_read_76 rfl (by decide) ?_
              refine S.icmp_ne (pc' := 81) (tgt := 85) dX12_read_78 (by decide) rfl (by unfold fp_rng; omega) (by unfold fp_rng; omega) (fun h78 => ?_) (fun h78 => ?_)
              · refine S.aload_n (pc' := 86) dX12_read_85 rfl rfl rfl ?_
                refine S.getR (pc' := 89) dX12_read_86 rfl fX12_82 L_177 rf_177_41 ?_
                refine S.iload_n (pc' := 90) dX12_read_89 rfl rfl rfl ?_
                refine S.iald (pc' := 91) dX12_read_90 rfl L_200 (by omega) (by omega) ?_
                refine S.iload_n (pc' := 92) dX12_read_91 rfl rfl rfl ?_
                refine S.icmp_eq (pc' := 95) (tgt := 99) dX12_read_92 (by decide) rfl (by unfold fp_rng; omega) (by unfold fp_rng; omega) (fun h92 => ?_) (fun h92 => ?_)
                · refine S.iload_n (pc' := 100) dX12_read_99 rfl rfl rfl ?_
                  refine S.i2l (pc' := 101) dX12_read_100 rfl (by unfold fp_rng; omega) ?_
                  refine S.iload (pc' := 103) dX12_read_101 rfl rfl ?_
                  refine S.i2l (pc' := 104) dX12_read_103 rfl (by unfold fp_rng; omega) ?_
                  refine S.ladd (pc' := 105) dX12_read_104 rfl ?_
                  refine S.lconst (pc' := 106) (w := 0) dX12_read_105 rfl rfl ?_
                  refine S.aload_n (pc' := 107) dX12_read_106 rfl rfl rfl ?_
                  refine S.getR (pc' := 110) dX12_read_107 rfl fX12_85 L_177 rf_177_42 ?_
                  refine S.iload_n (pc' := 111) dX12_read_110 rfl rfl rfl ?_
                  refine S.iald (pc' := 112) dX12_read_111 rfl L_201 (by omega) (by omega) ?_
                  refine S.iconst (pc' := 113) dX12_read_112 rfl ?_
                  refine S.isub (pc' := 114) dX12_read_113 rfl ?_
                  refine S.i2l (pc' := 115) dX12_read_114 rfl (by unfold fp_rng; omega) ?_
                  refine S.callSi (pc' := 118) dX12_read_115 rfl cX12_94 (bk_X12_in) rfl (by decide) rfl (Nat.le_of_ble_eq_true rfl) (fun z115 M115 q115 => ?_)
                  obtain ⟨b115, rfl⟩ := q115
                  refine S.if_ne (pc' := 121) (tgt := 125) dX12_read_118 (by decide) rfl (by unfold fp_rng; omega) (fun h118 => ?_) (fun h118 => ?_)
                  · exfalso; omega
                  · refine S.iconst (pc' := 122) dX12_read_121 rfl ?_
                    refine S.goto (pc' := 126) dX12_read_122 (by decide) ?_
                    refine S.istore (pc' := 128) (LL' := [_, _, _, _, _, _, _, _, _, _]) dX12_read_126 rfl (by decide) rfl rfl ?_
                    refine S.iload (pc' := 130) dX12_read_128 rfl rfl ?_
                    refine S.if_ne (pc' := 133) (tgt := 215) dX12_read_130 (by decide) rfl (by unfold fp_rng; omega) (fun h130 => ?_) (fun h130 => ?_)
                    · refine S.iinc (pc' := 218) (LL' := [_, _, _, _, _, _, _, _, _, _]) dX12_read_215 rfl (by decide) rfl rfl rfl ?_
                      refine S.goto (pc' := 51) dX12_read_218 (by decide) ?_
                      refine (mread_by (l := l) (G := G) (by omega) (by omega) hn9).wI (fun z O q => ?_)
                      obtain ⟨q1, q2⟩ := q
                      subst q2
                      exact ⟨q1, hcs.torn, fun c hcc => by rw [fp_up_ne (by omega)]; exact hfr c hcc⟩
                    · exfalso; omega
                · exfalso; omega
              · exfalso; omega
theorem mm_read {k9 lane f n9 : Int} (hc : MS M tp fl g pg vs nt im sh tn) (ho : OK g pg vs nt im sh) (h1 : fp_rng k9) (h2 : fp_rng lane) (h3 : fp_rng f) (hn : fp_rng n9) : fp_Ok l G 3 kX12_read [rV G 177, iV k9, iV lane, iV f, iV n9] M (qI fun z N => z = (A_read g vs sh tn k9 lane f n9).1 ∧ MS N tp fl g pg (A_read g vs sh tn k9 lane f n9).2.1 nt im sh (A_read g vs sh tn k9 lane f n9).2.2 ∧ frD M N) := by
  have hcs := hc
  have h1' := h1
  have h2' := h2
  have h3' := h3
  have hn' := hn
  unfold fp_rng at h1' h2' h3' hn'
  obtain ⟨hA, hd, hP, hv, hNt, hI, hS, hK⟩ := hc
  refine fp_Ok.of (r := 5) rfl (Nat.le_of_ble_eq_true rfl) rfl ?_
  unfold A_read
  by_cases hin : (0 ≤ k9 ∧ k9 ≤ 3) ∧ (0 ≤ lane ∧ lane ≤ 2) ∧ (0 ≤ n9 ∧ n9 ≤ 10)
  · rw [if_neg (fun q => q hin)]
    have hex : ∀ (b i : Int) (o9 : Option Value), (1 ≤ b ∧ b ≤ 3) → (0 ≤ i ∧ i ≤ 40) → fp_S l G 3 kX12_read 51 [some (rV G 177), some (iV k9), some (iV lane), some (iV f), some (iV n9), some (iV b), some (iV 0), some (iV 0), some (iV i), o9] [] M (qI fun z N => z = 0 ∧ MS N tp fl g pg vs nt im sh b ∧ frD M N) := by
      intro b i o9 hb hi
      refine (mread_by (l := l) (G := G) hb hi hin.2.2).wI (fun z O q => ?_)
      obtain ⟨q1, q2⟩ := q
      subst q2
      exact ⟨q1, hcs.torn, fun c hcc => by rw [fp_up_ne (by omega)]⟩
    by_cases hn0 : n9 = 0
    · rw [if_pos hn0]
      refine S.iload_n (pc' := 1) dX12_read_0 rfl rfl rfl ?_
      refine S.i2l (pc' := 2) dX12_read_1 rfl (by unfold fp_rng; omega) ?_
      refine S.lconst (pc' := 3) (w := 0) dX12_read_2 rfl rfl ?_
      refine S.ldc2 (pc' := 6) (v := 3) dX12_read_3 rfl lX12_196 (by decide) ?_
      refine S.callSi (pc' := 9) dX12_read_6 rfl cX12_94 (bk_X12_in) rfl (by decide) rfl (Nat.le_of_ble_eq_true rfl) (fun z6 M6 q6 => ?_)
      obtain ⟨b6, rfl⟩ := q6
      refine S.if_eq (pc' := 12) (tgt := 37) dX12_read_9 (by decide) rfl (by unfold fp_rng; omega) (fun h9 => ?_) (fun h9 => ?_)
      · exfalso; omega
      · refine S.iload_n (pc' := 13) dX12_read_12 rfl rfl rfl ?_
        refine S.i2l (pc' := 14) dX12_read_13 rfl (by unfold fp_rng; omega) ?_
        refine S.lconst (pc' := 15) (w := 0) dX12_read_14 rfl rfl ?_
        refine S.ldc2 (pc' := 18) (v := 2) dX12_read_15 rfl lX12_271 (by decide) ?_
        refine S.callSi (pc' := 21) dX12_read_18 rfl cX12_94 (bk_X12_in) rfl (by decide) rfl (Nat.le_of_ble_eq_true rfl) (fun z18 M18 q18 => ?_)
        obtain ⟨b18, rfl⟩ := q18
        refine S.if_eq (pc' := 24) (tgt := 37) dX12_read_21 (by decide) rfl (by unfold fp_rng; omega) (fun h21 => ?_) (fun h21 => ?_)
        · exfalso; omega
        · refine S.iload (pc' := 26) dX12_read_24 rfl rfl ?_
          refine S.i2l (pc' := 27) dX12_read_26 rfl (by unfold fp_rng; omega) ?_
          refine S.lconst (pc' := 28) (w := 0) dX12_read_27 rfl rfl ?_
          refine S.ldc2 (pc' := 31) (v := 10) dX12_read_28 rfl lX12_212 (by decide) ?_
          refine S.callSi (pc' := 34) dX12_read_31 rfl cX12_94 (bk_X12_in) rfl (by decide) rfl (Nat.le_of_ble_eq_true rfl) (fun z31 M31 q31 => ?_)
          obtain ⟨b31, rfl⟩ := q31
          refine S.if_ne (pc' := 37) (tgt := 39) dX12_read_34 (by decide) rfl (by unfold fp_rng; omega) (fun h34 => ?_) (fun h34 => ?_)
          · refine S.iconst (pc' := 40) dX12_read_39 rfl ?_
            refine S.istore (pc' := 42) (LL' := [_, _, _, _, _, _, _, _, _, _]) dX12_read_40 rfl (by decide) rfl rfl ?_
            refine S.iconst (pc' := 43) dX12_read_42 rfl ?_
            refine S.istore (pc' := 45) (LL' := [_, _, _, _, _, _, _, _, _, _]) dX12_read_43 rfl (by decide) rfl rfl ?_
            refine S.iconst (pc' := 46) dX12_read_45 rfl ?_
            refine S.istore (pc' := 48) (LL' := [_, _, _, _, _, _, _, _, _, _]) dX12_read_46 rfl (by decide) rfl rfl ?_
            refine S.iconst (pc' := 49) dX12_read_48 rfl ?_
            refine S.istore (pc' := 51) (LL' := [_, _, _, _, _, _, _, _, _, _]) dX12_read_49 rfl (by decide) rfl rfl ?_
            have e := mread_end (l := l) (G := G) (N := M) (k9 := k9) (lane := lane) (f := f) (cm := 0) (o9 := none) hin.2.2
            rw [show 4 * n9 = 0 by omega] at e
            refine e.wI (fun z O q => ?_)
            obtain ⟨q1, q2⟩ := q
            subst q2
            exact ⟨q1, hcs.torn, fun c hcc => by rw [fp_up_ne (by omega)]⟩
          · exfalso; omega
    · rw [if_neg hn0]
      obtain ⟨k2, hk3⟩ := hS k9 hin.1.1 (by omega)
      have hso := ho.2.2.2.2.2 k9 hin.1.1 (by omega)
      have hr0 : fp_rng (M 200 k9.toNat) := by rw [k2]; unfold fp_rng; omega
      by_cases h40 : (sh k9).1 = -4
      · rw [if_pos h40]
        have hst : fp_S l G 3 kX12_read 51 [some (rV G 177), some (iV k9), some (iV lane), some (iV f), some (iV n9), some (iV 0), some (iV 0), some (iV 0), some (iV 0), none] [] M (qI fun z N => z = 0 ∧ MS N tp fl g pg vs nt im sh 1 ∧ frD M N) := by
          refine S.iload (pc' := 53) dX12_read_51 rfl rfl ?_
          refine S.iconst (pc' := 54) dX12_read_53 rfl ?_
          refine S.iload (pc' := 56) dX12_read_54 rfl rfl ?_
          refine S.imul (pc' := 57) dX12_read_56 rfl ?_
          refine S.icmp_ge (pc' := 60) (tgt := 221) dX12_read_57 (by decide) rfl (by unfold fp_rng; omega) (by unfold fp_rng; omega) (fun h57 => ?_) (fun h57 => ?_)
          · exfalso; omega
          · refine S.iload (pc' := 62) dX12_read_60 rfl rfl ?_
            refine S.if_ne (pc' := 65) (tgt := 221) dX12_read_62 (by decide) rfl (by unfold fp_rng; omega) (fun h62 => ?_) (fun h62 => ?_)
            · exfalso; omega
            · refine S.iload (pc' := 67) dX12_read_65 rfl rfl ?_
              refine S.if_ne (pc' := 70) (tgt := 221) dX12_read_67 (by decide) rfl (by unfold fp_rng; omega) (fun h67 => ?_) (fun h67 => ?_)
              · exfalso; omega
              · refine S.aload_n (pc' := 71) dX12_read_70 rfl rfl rfl ?_
                refine S.getR (pc' := 74) dX12_read_71 rfl fX12_82 L_177 rf_177_41 ?_
                refine S.iload_n (pc' := 75) dX12_read_74 rfl rfl rfl ?_
                refine S.iald (pc' := 76) dX12_read_75 rfl L_200 (by omega) (by omega) ?_
                refine S.bipush (pc' := 78) dX12_read_76 rfl (by decide) ?_
                refine S.icmp_ne (pc' := 81) (tgt := 85) dX12_read_78 (by decide) rfl (by unfold fp_rng; omega) (by unfold fp_rng; omega) (fun h78 => ?_) (fun h78 => ?_)
                · exfalso; omega
                · refine S.iconst (pc' := 82) dX12_read_81 rfl ?_
                  refine S.goto (pc' := 126) dX12_read_82 (by decide) ?_
                  refine S.istore (pc' := 128) (LL' := [_, _, _, _, _, _, _, _, _, _]) dX12_read_126 rfl (by decide) rfl rfl ?_
                  refine S.iload (pc' := 130) dX12_read_128 rfl rfl ?_
                  refine S.if_ne (pc' := 133) (tgt := 215) dX12_read_130 (by decide) rfl (by unfold fp_rng; omega) (fun h130 => ?_) (fun h130 => ?_)
                  · refine S.iinc (pc' := 218) (LL' := [_, _, _, _, _, _, _, _, _, _]) dX12_read_215 rfl (by decide) rfl rfl rfl ?_
                    refine S.goto (pc' := 51) dX12_read_218 (by decide) ?_
                    exact hex _ _ _ (by omega) (by omega)
                  · exfalso; omega
        refine S.iload_n (pc' := 1) dX12_read_0 rfl rfl rfl ?_
        refine S.i2l (pc' := 2) dX12_read_1 rfl (by unfold fp_rng; omega) ?_
        refine S.lconst (pc' := 3) (w := 0) dX12_read_2 rfl rfl ?_
        refine S.ldc2 (pc' := 6) (v := 3) dX12_read_3 rfl lX12_196 (by decide) ?_
        refine S.callSi (pc' := 9) dX12_read_6 rfl cX12_94 (bk_X12_in) rfl (by decide) rfl (Nat.le_of_ble_eq_true rfl) (fun z6 M6 q6 => ?_)
        obtain ⟨b6, rfl⟩ := q6
        refine S.if_eq (pc' := 12) (tgt := 37) dX12_read_9 (by decide) rfl (by unfold fp_rng; omega) (fun h9 => ?_) (fun h9 => ?_)
        · exfalso; omega
        · refine S.iload_n (pc' := 13) dX12_read_12 rfl rfl rfl ?_
          refine S.i2l (pc' := 14) dX12_read_13 rfl (by unfold fp_rng; omega) ?_
          refine S.lconst (pc' := 15) (w := 0) dX12_read_14 rfl rfl ?_
          refine S.ldc2 (pc' := 18) (v := 2) dX12_read_15 rfl lX12_271 (by decide) ?_
          refine S.callSi (pc' := 21) dX12_read_18 rfl cX12_94 (bk_X12_in) rfl (by decide) rfl (Nat.le_of_ble_eq_true rfl) (fun z18 M18 q18 => ?_)
          obtain ⟨b18, rfl⟩ := q18
          refine S.if_eq (pc' := 24) (tgt := 37) dX12_read_21 (by decide) rfl (by unfold fp_rng; omega) (fun h21 => ?_) (fun h21 => ?_)
          · exfalso; omega
          · refine S.iload (pc' := 26) dX12_read_24 rfl rfl ?_
            refine S.i2l (pc' := 27) dX12_read_26 rfl (by unfold fp_rng; omega) ?_
            refine S.lconst (pc' := 28) (w := 0) dX12_read_27 rfl rfl ?_
            refine S.ldc2 (pc' := 31) (v := 10) dX12_read_28 rfl lX12_212 (by decide) ?_
            refine S.callSi (pc' := 34) dX12_read_31 rfl cX12_94 (bk_X12_in) rfl (by decide) rfl (Nat.le_of_ble_eq_true rfl) (fun z31 M31 q31 => ?_)
            obtain ⟨b31, rfl⟩ := q31
            refine S.if_ne (pc' := 37) (tgt := 39) dX12_read_34 (by decide) rfl (by unfold fp_rng; omega) (fun h34 => ?_) (fun h34 => ?_)
            · refine S.iconst (pc' := 40) dX12_read_39 rfl ?_
              refine S.istore (pc' := 42) (LL' := [_, _, _, _, _, _, _, _, _, _]) dX12_read_40 rfl (by decide) rfl rfl ?_
              refine S.iconst (pc' := 43) dX12_read_42 rfl ?_
              refine S.istore (pc' := 45) (LL' := [_, _, _, _, _, _, _, _, _, _]) dX12_read_43 rfl (by decide) rfl rfl ?_
              refine S.iconst (pc' := 46) dX12_read_45 rfl ?_
              refine S.istore (pc' := 48) (LL' := [_, _, _, _, _, _, _, _, _, _]) dX12_read_46 rfl (by decide) rfl rfl ?_
              refine S.iconst (pc' := 49) dX12_read_48 rfl ?_
              refine S.istore (pc' := 51) (LL' := [_, _, _, _, _, _, _, _, _, _]) dX12_read_49 rfl (by decide) rfl rfl ?_
              exact hst
            · exfalso; omega
      · rw [if_neg h40]
        by_cases hln : (sh k9).1 = lane
        · rw [if_neg (fun q => q hln)]
          have hl9 := mread_loop (l := l) (G := G) (lane := lane) (M := M) (tp := tp) (fl := fl) (tn := tn) hin.1 h3 hin.2.2 ho h40 hln 41 0 0 0 M [] none (by omega) (by omega) (by omega) (by omega) (by omega) (by omega) (by omega) rfl (by rw [List.append_nil]; exact hcs) (frD.refl _) (by rw [List.append_nil]; exact ho.2.2.1)
          rw [List.append_nil, show n9 - 0 = n9 by omega] at hl9
          refine S.iload_n (pc' := 1) dX12_read_0 rfl rfl rfl ?_
          refine S.i2l (pc' := 2) dX12_read_1 rfl (by unfold fp_rng; omega) ?_
          refine S.lconst (pc' := 3) (w := 0) dX12_read_2 rfl rfl ?_
          refine S.ldc2 (pc' := 6) (v := 3) dX12_read_3 rfl lX12_196 (by decide) ?_
          refine S.callSi (pc' := 9) dX12_read_6 rfl cX12_94 (bk_X12_in) rfl (by decide) rfl (Nat.le_of_ble_eq_true rfl) (fun z6 M6 q6 => ?_)
          obtain ⟨b6, rfl⟩ := q6
          refine S.if_eq (pc' := 12) (tgt := 37) dX12_read_9 (by decide) rfl (by unfold fp_rng; omega) (fun h9 => ?_) (fun h9 => ?_)
          · exfalso; omega
          · refine S.iload_n (pc' := 13) dX12_read_12 rfl rfl rfl ?_
            refine S.i2l (pc' := 14) dX12_read_13 rfl (by unfold fp_rng; omega) ?_
            refine S.lconst (pc' := 15) (w := 0) dX12_read_14 rfl rfl ?_
            refine S.ldc2 (pc' := 18) (v := 2) dX12_read_15 rfl lX12_271 (by decide) ?_
            refine S.callSi (pc' := 21) dX12_read_18 rfl cX12_94 (bk_X12_in) rfl (by decide) rfl (Nat.le_of_ble_eq_true rfl) (fun z18 M18 q18 => ?_)
            obtain ⟨b18, rfl⟩ := q18
            refine S.if_eq (pc' := 24) (tgt := 37) dX12_read_21 (by decide) rfl (by unfold fp_rng; omega) (fun h21 => ?_) (fun h21 => ?_)
            · exfalso; omega
            · refine S.iload (pc' := 26) dX12_read_24 rfl rfl ?_
              refine S.i2l (pc' := 27) dX12_read_26 rfl (by unfold fp_rng; omega) ?_
              refine S.lconst (pc' := 28) (w := 0) dX12_read_27 rfl rfl ?_
              refine S.ldc2 (pc' := 31) (v := 10) dX12_read_28 rfl lX12_212 (by decide) ?_
              refine S.callSi (pc' := 34) dX12_read_31 rfl cX12_94 (bk_X12_in) rfl (by decide) rfl (Nat.le_of_ble_eq_true rfl) (fun z31 M31 q31 => ?_)
              obtain ⟨b31, rfl⟩ := q31
              refine S.if_ne (pc' := 37) (tgt := 39) dX12_read_34 (by decide) rfl (by unfold fp_rng; omega) (fun h34 => ?_) (fun h34 => ?_)
              · refine S.iconst (pc' := 40) dX12_read_39 rfl ?_
                refine S.istore (pc' := 42) (LL' := [_, _, _, _, _, _, _, _, _, _]) dX12_read_40 rfl (by decide) rfl rfl ?_
                refine S.iconst (pc' := 43) dX12_read_42 rfl ?_
                refine S.istore (pc' := 45) (LL' := [_, _, _, _, _, _, _, _, _, _]) dX12_read_43 rfl (by decide) rfl rfl ?_
                refine S.iconst (pc' := 46) dX12_read_45 rfl ?_
                refine S.istore (pc' := 48) (LL' := [_, _, _, _, _, _, _, _, _, _]) dX12_read_46 rfl (by decide) rfl rfl ?_
                refine S.iconst (pc' := 49) dX12_read_48 rfl ?_
                refine S.istore (pc' := 51) (LL' := [_, _, _, _, _, _, _, _, _, _]) dX12_read_49 rfl (by decide) rfl rfl ?_
                exact hl9
              · exfalso; omega
        · rw [if_pos hln]
          have hst : fp_S l G 3 kX12_read 51 [some (rV G 177), some (iV k9), some (iV lane), some (iV f), some (iV n9), some (iV 0), some (iV 0), some (iV 0), some (iV 0), none] [] M (qI fun z N => z = 0 ∧ MS N tp fl g pg vs nt im sh 3 ∧ frD M N) := by
            refine S.iload (pc' := 53) dX12_read_51 rfl rfl ?_
            refine S.iconst (pc' := 54) dX12_read_53 rfl ?_
            refine S.iload (pc' := 56) dX12_read_54 rfl rfl ?_
            refine S.imul (pc' := 57) dX12_read_56 rfl ?_
            refine S.icmp_ge (pc' := 60) (tgt := 221) dX12_read_57 (by decide) rfl (by unfold fp_rng; omega) (by unfold fp_rng; omega) (fun h57 => ?_) (fun h57 => ?_)
            · exfalso; omega
            · refine S.iload (pc' := 62) dX12_read_60 rfl rfl ?_
              refine S.if_ne (pc' := 65) (tgt := 221) dX12_read_62 (by decide) rfl (by unfold fp_rng; omega) (fun h62 => ?_) (fun h62 => ?_)
              · exfalso; omega
              · refine S.iload (pc' := 67) dX12_read_65 rfl rfl ?_
                refine S.if_ne (pc' := 70) (tgt := 221) dX12_read_67 (by decide) rfl (by unfold fp_rng; omega) (fun h67 => ?_) (fun h67 => ?_)
                · exfalso; omega
                · refine S.aload_n (pc' := 71) dX12_read_70 rfl rfl rfl ?_
                  refine S.getR (pc' := 74) dX12_read_71 rfl fX12_82 L_177 rf_177_41 ?_
                  refine S.iload_n (pc' := 75) dX12_read_74 rfl rfl rfl ?_
                  refine S.iald (pc' := 76) dX12_read_75 rfl L_200 (by omega) (by omega) ?_
                  refine S.bipush (pc' := 78) dX12_read_76 rfl (by decide) ?_
                  refine S.icmp_ne (pc' := 81) (tgt := 85) dX12_read_78 (by decide) rfl (by unfold fp_rng; omega) (by unfold fp_rng; omega) (fun h78 => ?_) (fun h78 => ?_)
                  · refine S.aload_n (pc' := 86) dX12_read_85 rfl rfl rfl ?_
                    refine S.getR (pc' := 89) dX12_read_86 rfl fX12_82 L_177 rf_177_41 ?_
                    refine S.iload_n (pc' := 90) dX12_read_89 rfl rfl rfl ?_
                    refine S.iald (pc' := 91) dX12_read_90 rfl L_200 (by omega) (by omega) ?_
                    refine S.iload_n (pc' := 92) dX12_read_91 rfl rfl rfl ?_
                    refine S.icmp_eq (pc' := 95) (tgt := 99) dX12_read_92 (by decide) rfl (by unfold fp_rng; omega) (by unfold fp_rng; omega) (fun h92 => ?_) (fun h92 => ?_)
                    · exfalso; omega
                    · refine S.iconst (pc' := 96) dX12_read_95 rfl ?_
                      refine S.goto (pc' := 126) dX12_read_96 (by decide) ?_
                      refine S.istore (pc' := 128) (LL' := [_, _, _, _, _, _, _, _, _, _]) dX12_read_126 rfl (by decide) rfl rfl ?_
                      refine S.iload (pc' := 130) dX12_read_128 rfl rfl ?_
                      refine S.if_ne (pc' := 133) (tgt := 215) dX12_read_130 (by decide) rfl (by unfold fp_rng; omega) (fun h130 => ?_) (fun h130 => ?_)
                      · refine S.iinc (pc' := 218) (LL' := [_, _, _, _, _, _, _, _, _, _]) dX12_read_215 rfl (by decide) rfl rfl rfl ?_
                        refine S.goto (pc' := 51) dX12_read_218 (by decide) ?_
                        exact hex _ _ _ (by omega) (by omega)
                      · exfalso; omega
                  · exfalso; omega
          refine S.iload_n (pc' := 1) dX12_read_0 rfl rfl rfl ?_
          refine S.i2l (pc' := 2) dX12_read_1 rfl (by unfold fp_rng; omega) ?_
          refine S.lconst (pc' := 3) (w := 0) dX12_read_2 rfl rfl ?_
          refine S.ldc2 (pc' := 6) (v := 3) dX12_read_3 rfl lX12_196 (by decide) ?_
          refine S.callSi (pc' := 9) dX12_read_6 rfl cX12_94 (bk_X12_in) rfl (by decide) rfl (Nat.le_of_ble_eq_true rfl) (fun z6 M6 q6 => ?_)
          obtain ⟨b6, rfl⟩ := q6
          refine S.if_eq (pc' := 12) (tgt := 37) dX12_read_9 (by decide) rfl (by unfold fp_rng; omega) (fun h9 => ?_) (fun h9 => ?_)
          · exfalso; omega
          · refine S.iload_n (pc' := 13) dX12_read_12 rfl rfl rfl ?_
            refine S.i2l (pc' := 14) dX12_read_13 rfl (by unfold fp_rng; omega) ?_
            refine S.lconst (pc' := 15) (w := 0) dX12_read_14 rfl rfl ?_
            refine S.ldc2 (pc' := 18) (v := 2) dX12_read_15 rfl lX12_271 (by decide) ?_
            refine S.callSi (pc' := 21) dX12_read_18 rfl cX12_94 (bk_X12_in) rfl (by decide) rfl (Nat.le_of_ble_eq_true rfl) (fun z18 M18 q18 => ?_)
            obtain ⟨b18, rfl⟩ := q18
            refine S.if_eq (pc' := 24) (tgt := 37) dX12_read_21 (by decide) rfl (by unfold fp_rng; omega) (fun h21 => ?_) (fun h21 => ?_)
            · exfalso; omega
            · refine S.iload (pc' := 26) dX12_read_24 rfl rfl ?_
              refine S.i2l (pc' := 27) dX12_read_26 rfl (by unfold fp_rng; omega) ?_
              refine S.lconst (pc' := 28) (w := 0) dX12_read_27 rfl rfl ?_
              refine S.ldc2 (pc' := 31) (v := 10) dX12_read_28 rfl lX12_212 (by decide) ?_
              refine S.callSi (pc' := 34) dX12_read_31 rfl cX12_94 (bk_X12_in) rfl (by decide) rfl (Nat.le_of_ble_eq_true rfl) (fun z31 M31 q31 => ?_)
              obtain ⟨b31, rfl⟩ := q31
              refine S.if_ne (pc' := 37) (tgt := 39) dX12_read_34 (by decide) rfl (by unfold fp_rng; omega) (fun h34 => ?_) (fun h34 => ?_)
              · refine S.iconst (pc' := 40) dX12_read_39 rfl ?_
                refine S.istore (pc' := 42) (LL' := [_, _, _, _, _, _, _, _, _, _]) dX12_read_40 rfl (by decide) rfl rfl ?_
                refine S.iconst (pc' := 43) dX12_read_42 rfl ?_
                refine S.istore (pc' := 45) (LL' := [_, _, _, _, _, _, _, _, _, _]) dX12_read_43 rfl (by decide) rfl rfl ?_
                refine S.iconst (pc' := 46) dX12_read_45 rfl ?_
                refine S.istore (pc' := 48) (LL' := [_, _, _, _, _, _, _, _, _, _]) dX12_read_46 rfl (by decide) rfl rfl ?_
                refine S.iconst (pc' := 49) dX12_read_48 rfl ?_
                refine S.istore (pc' := 51) (LL' := [_, _, _, _, _, _, _, _, _, _]) dX12_read_49 rfl (by decide) rfl rfl ?_
                exact hst
              · exfalso; omega
  · rw [if_pos hin]
    refine S.iload_n (pc' := 1) dX12_read_0 rfl rfl rfl ?_
    refine S.i2l (pc' := 2) dX12_read_1 rfl (by unfold fp_rng; omega) ?_
    refine S.lconst (pc' := 3) (w := 0) dX12_read_2 rfl rfl ?_
    refine S.ldc2 (pc' := 6) (v := 3) dX12_read_3 rfl lX12_196 (by decide) ?_
    refine S.callSi (pc' := 9) dX12_read_6 rfl cX12_94 (bk_X12_in) rfl (by decide) rfl (Nat.le_of_ble_eq_true rfl) (fun z6 M6 q6 => ?_)
    obtain ⟨b6, rfl⟩ := q6
    refine S.if_eq (pc' := 12) (tgt := 37) dX12_read_9 (by decide) rfl (by unfold fp_rng; omega) (fun h9 => ?_) (fun h9 => ?_)
    · refine S.iconst (pc' := 38) dX12_read_37 rfl ?_
      refine S.iret dX12_read_38 rfl ?_
      exact ⟨rfl, hcs, frD.refl _⟩
    · refine S.iload_n (pc' := 13) dX12_read_12 rfl rfl rfl ?_
      refine S.i2l (pc' := 14) dX12_read_13 rfl (by unfold fp_rng; omega) ?_
      refine S.lconst (pc' := 15) (w := 0) dX12_read_14 rfl rfl ?_
      refine S.ldc2 (pc' := 18) (v := 2) dX12_read_15 rfl lX12_271 (by decide) ?_
      refine S.callSi (pc' := 21) dX12_read_18 rfl cX12_94 (bk_X12_in) rfl (by decide) rfl (Nat.le_of_ble_eq_true rfl) (fun z18 M18 q18 => ?_)
      obtain ⟨b18, rfl⟩ := q18
      refine S.if_eq (pc' := 24) (tgt := 37) dX12_read_21 (by decide) rfl (by unfold fp_rng; omega) (fun h21 => ?_) (fun h21 => ?_)
      · refine S.iconst (pc' := 38) dX12_read_37 rfl ?_
        refine S.iret dX12_read_38 rfl ?_
        exact ⟨rfl, hcs, frD.refl _⟩
      · refine S.iload (pc' := 26) dX12_read_24 rfl rfl ?_
        refine S.i2l (pc' := 27) dX12_read_26 rfl (by unfold fp_rng; omega) ?_
        refine S.lconst (pc' := 28) (w := 0) dX12_read_27 rfl rfl ?_
        refine S.ldc2 (pc' := 31) (v := 10) dX12_read_28 rfl lX12_212 (by decide) ?_
        refine S.callSi (pc' := 34) dX12_read_31 rfl cX12_94 (bk_X12_in) rfl (by decide) rfl (Nat.le_of_ble_eq_true rfl) (fun z31 M31 q31 => ?_)
        obtain ⟨b31, rfl⟩ := q31
        refine S.if_ne (pc' := 37) (tgt := 39) dX12_read_34 (by decide) rfl (by unfold fp_rng; omega) (fun h34 => ?_) (fun h34 => ?_)
        · exfalso; omega
        · refine S.iconst (pc' := 38) dX12_read_37 rfl ?_
          refine S.iret dX12_read_38 rfl ?_
          exact ⟨rfl, hcs, frD.refl _⟩
end REA
