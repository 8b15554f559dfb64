/-! RUNS: copyFrom, behind; after, gains, vain, since -/
def A_after (g : aGd) (pg : aPg) (vs : List aVt) (n t : Int) : Int := if (0 ≤ n ∧ n ≤ vs.length) ∧ (0 ≤ t ∧ t < g.1) then (aRun g pg vs n.toNat).1 t else -1
def A_gains (g : aGd) (pg : aPg) (vs : List aVt) (n p : Int) : Int := if (0 ≤ n ∧ n ≤ vs.length) ∧ (0 ≤ p ∧ p < 4) then aWorth g (aRun g pg vs n.toNat) p else -1
def A_since (g : aGd) (pg : aPg) (vs : List aVt) (p t : Int) : Int := if ¬ ((0 ≤ p ∧ p < 4) ∧ (0 ≤ t ∧ t < g.1)) then -1 else if pg.1 t = p then -2 else fp_find (fun i => (aRun g pg vs (i + 1).toNat).1 t) p vs.length 0
section RUN
variable {l : Launch} {G : fp_WG} {M N : fp_Mem} {tp tp' : List Int} {fl fl' : Int} {g : aGd} {pg : aPg} {vs vs' : List aVt} {nt nt' : List Int} {im : aIm} {sh : aSh} {tn tn' : Int} {k k2 kg kv : Nat}
theorem rk_X5_copyFrom (hk : fp_ispl k) (hk2 : fp_ispl k2) (hne : k ≠ k2) (hc : clIs M k2 g pg := by assumption) (hP : pgOk g pg := by assumption) (hg : gOk g := by assumption) : fp_Ok l G 1 kX5_copyFrom [rV G k, rV G k2] M (qV fun N => clIs N k g pg ∧ frP M N k) := by
  have hap := pl_pl hk hk2 hne
  have hg1 := hg.1
  refine (ok_X5_copyFrom hk hk2 (by omega)).toV ⟨?_, fun a ha => fp_splo ha⟩
  obtain ⟨c1, c2, c3, c4, o1, o2, o3⟩ := hc
  refine ⟨fun t t0 t1 => ?_, fun t t0 t1 => ?_, fun t t0 t1 => ?_, fun x x0 x3 => ?_, fun t t0 t1 => ?_, fun x x0 x3 => ?_, fun i i0 i1 => ?_⟩
  · rw [fp_spl1, if_pos (by omega)]; exact c1 t t0 t1
  · rw [fp_spl1, if_pos (by omega)]; exact c2 t t0 t1
  · rw [fp_spl2, if_pos (by omega)]; exact c3 t t0 t1
  · rw [fp_spl3, fp_spl4, if_pos (by omega)]
    obtain ⟨q1, q2⟩ := c4 x x0 x3
    have hl := (hP.2.1 x x0 x3).1
    refine ⟨q1, fun i i0 i1 => ?_⟩
    rw [if_pos (by omega)]; exact q2 i i0 i1
  · rw [fp_spl1, if_pos (by omega)]; exact o1 t t0 t1
  · rw [fp_spl3, if_pos (by omega)]; exact o2 x x0 x3
  · rw [fp_spl4, if_pos (by omega)]; exact o3 i i0 i1
theorem behind_loop {m9 : Int} (hkg : fp_isgd kg) (hkv : fp_isvs kv) (hP : pgOk g pg) (hg : gOk g) (hvo : vsOk g vs) (hv : vsIs M kv vs) (hd : gdIs M kg g) (hm : 0 ≤ m9 ∧ m9 ≤ vs.length) : ∀ (n : Nat) (i : Int) (N : fp_Mem), (m9 - i).toNat < n → 0 ≤ i → i ≤ m9 → frP M N 41 → clIs N 41 g (aRun g pg vs i.toNat) →
    fp_S l G 3 kX8_behind 17 [some (rV G 34), some (rV G kg), some (rV G kv), some (rV G k), some (iV m9), some (rV G 41), some (iV i)] [] N (qR G fun z O => z = 41 ∧ clIs O 41 g (aRun g pg vs m9.toNat) ∧ frP M O 41) := by
  have hl := hv.2.1
  intro n
  induction n with
  | zero => intro i N h; omega
  | succ n ih =>
    intro i N h i0 i1 hf hc
    have er := aRun_succ (g := g) (pg := pg) (vs := vs) i0
    have hPi := aRun_ok hg hP hvo i.toNat
    have hv' := hf.vs pl41 hkv hv
    have hd' := hf.gd pl41 hkg hd
    refine S.iload (pc' := 19) dX8_behind_17 rfl rfl ?_
    refine S.iload (pc' := 21) dX8_behind_19 rfl rfl ?_
    refine S.icmp_ge (pc' := 24) (tgt := 40) dX8_behind_21 (by decide) rfl (by unfold fp_rng; omega) (by unfold fp_rng; omega) (fun h21 => ?_) (fun h21 => ?_)
    · refine S.aload (pc' := 42) dX8_behind_40 rfl rfl ?_
      refine S.aret dX8_behind_42 rfl (Or.inl ⟨_, rfl⟩) ?_
      rw [show m9 = i by omega]; exact ⟨rfl, hc, hf⟩
    · refine S.aload_n (pc' := 25) dX8_behind_24 rfl rfl rfl ?_
      refine S.aload_n (pc' := 26) dX8_behind_25 rfl rfl rfl ?_
      refine S.aload (pc' := 28) dX8_behind_26 rfl rfl ?_
      refine S.iload (pc' := 30) dX8_behind_28 rfl rfl ?_
      refine S.callVi (pc' := 33) dX8_behind_30 rfl cX8_40 (rk_X10_happens (g := g) (pg := aRun g pg vs i.toNat) (vs := vs) hkv hkg pl41) rfl (vs_lay hkv) (by decide) rfl (Nat.le_of_ble_eq_true rfl) (fun z30 M30 q30 => ?_)
      obtain ⟨z1, c1, f1⟩ := q30
      rw [← er] at c1
      refine S.pop (pc' := 34) dX8_behind_33 rfl rfl ?_
      refine S.iinc (pc' := 37) (LL' := [_, _, _, _, _, _, _]) dX8_behind_34 rfl (by decide) rfl rfl rfl ?_
      refine S.goto (pc' := 17) dX8_behind_37 (by decide) ?_
      exact ih _ _ (by omega) (by omega) (by omega) (hf.trans f1) c1
theorem rk_X8_behind {m9 : Int} (hkg : fp_isgd kg) (hkv : fp_isvs kv) (hk : fp_ispl k) (hne : 41 ≠ k := by decide) (hc : clIs M k g pg := by assumption) (hP : pgOk g pg := by assumption) (hg : gOk g := by assumption) (hvo : vsOk g vs := by assumption) (hv : vsIs M kv vs := by assumption) (hd : gdIs M kg g := by assumption) (hm : 0 ≤ m9 ∧ m9 ≤ vs.length := by first | assumption | omega) : fp_Ok l G 3 kX8_behind [rV G 34, rV G kg, rV G kv, rV G k, iV m9] M (qR G fun z O => z = 41 ∧ clIs O 41 g (aRun g pg vs m9.toNat) ∧ frP M O 41) := by
  refine fp_Ok.of (r := 2) rfl (Nat.le_of_ble_eq_true rfl) rfl ?_
  refine S.aload_n (pc' := 1) dX8_behind_0 rfl rfl rfl ?_
  refine S.getR (pc' := 4) dX8_behind_1 rfl fX8_11 L_34 rf_34_0 ?_
  refine S.iconst (pc' := 5) dX8_behind_4 rfl ?_
  refine S.aald (pc' := 6) (t := 41) dX8_behind_5 rfl L_35 (by decide) (by decide) (by omega) (by omega) (by decide +kernel) ?_
  refine S.astore (pc' := 8) (LL' := [_, _, _, _, _, _, _]) dX8_behind_6 rfl (by decide) rfl rfl ?_
  refine S.aload (pc' := 10) dX8_behind_8 rfl rfl ?_
  refine S.aload_n (pc' := 11) dX8_behind_10 rfl rfl rfl ?_
  refine S.callVv (pc' := 14) dX8_behind_11 rfl cX8_36 (rk_X5_copyFrom (g := g) (pg := pg) pl41 hk hne) rfl (pl_lay pl41) (by decide) rfl (Nat.le_of_ble_eq_true rfl) (fun M11 q11 => ?_)
  obtain ⟨c1, f1⟩ := q11
  refine S.iconst (pc' := 15) dX8_behind_14 rfl ?_
  refine S.istore (pc' := 17) (LL' := [_, _, _, _, _, _, _]) dX8_behind_15 rfl (by decide) rfl rfl ?_
  exact behind_loop hkg hkv hP hg hvo hv hd hm (m9.toNat + 1) 0 _ (by omega) (by omega) (by omega) f1 c1
theorem CS.scr (h : CS M tp fl g pg vs nt im sh tn) (e : frP M N 41) : CS N tp fl g pg vs nt im sh tn := h.kept (fun a ha => e a (by omega))
theorem MS.tri (h : MS M tp fl g pg vs nt im sh tn) (ho : OK g pg vs nt im sh) (e : frT M N) : MS N tp fl g pg vs nt im sh tn := h.trial ho (fun c hc => e.1 c (by omega)) (fun j hj => e.2 j (by omega))
theorem cc_after {n t : Int} (hc : CS M tp fl g pg vs nt im sh tn) (ho : OK g pg vs nt im sh) (hn : fp_rng n) (ht : fp_rng t) : fp_Ok l G 4 kX11_after [rV G 0, iV n, iV t] M (qI fun z N => z = A_after g pg vs n t ∧ CS N tp fl g pg vs nt im sh tn ∧ frC M N) := by
  have hcs := hc
  obtain ⟨-, hd, hcl, hv, -⟩ := hc
  obtain ⟨hg, hP, hvo, -⟩ := ho
  have hl1 := hv.1
  have hl := hv.2.1
  have hg1 := hg.1
  refine fp_Ok.of (r := 0) rfl (Nat.le_of_ble_eq_true rfl) rfl ?_
  unfold A_after
  by_cases hin : (0 ≤ n ∧ n ≤ vs.length) ∧ (0 ≤ t ∧ t < g.1)
  · rw [if_pos hin]
    refine S.iload_n (pc' := 1) dX11_after_0 rfl rfl rfl ?_
    refine S.if_lt (pc' := 4) (tgt := 26) dX11_after_1 (by decide) rfl hn (fun h1 => ?_) (fun h1 => ?_)
    · exfalso; omega
    · refine S.iload_n (pc' := 5) dX11_after_4 rfl rfl rfl ?_
      refine S.aload_n (pc' := 6) dX11_after_5 rfl rfl rfl ?_
      refine S.getR (pc' := 9) dX11_after_6 rfl fX11_37 L_0 rf_0_5 ?_
      refine S.getI (pc' := 12) dX11_after_9 rfl fX11_205 (vs_lay vs27) ?_
      refine S.icmp_gt (pc' := 15) (tgt := 26) dX11_after_12 (by decide) rfl hn (by unfold fp_rng; omega) (fun h12 => ?_) (fun h12 => ?_)
      · exfalso; omega
      · refine S.aload_n (pc' := 16) dX11_after_15 rfl rfl rfl ?_
        refine S.getR (pc' := 19) dX11_after_16 rfl fX11_23 L_0 rf_0_3 ?_
        refine S.iload_n (pc' := 20) dX11_after_19 rfl rfl rfl ?_
        refine S.callVi (pc' := 23) dX11_after_20 rfl cX11_126 (bk_X1_hasThing gd18) rfl (gd_lay gd18) (by decide) rfl (Nat.le_of_ble_eq_true rfl) (fun z20 M20 q20 => ?_)
        obtain ⟨b20, rfl⟩ := q20
        refine S.if_ne (pc' := 26) (tgt := 28) dX11_after_23 (by decide) rfl (by unfold fp_rng; omega) (fun h23 => ?_) (fun h23 => ?_)
        · refine S.aload_n (pc' := 29) dX11_after_28 rfl rfl rfl ?_
          refine S.getR (pc' := 32) dX11_after_29 rfl fX11_51 L_0 rf_0_7 ?_
          refine S.aload_n (pc' := 33) dX11_after_32 rfl rfl rfl ?_
          refine S.getR (pc' := 36) dX11_after_33 rfl fX11_23 L_0 rf_0_3 ?_
          refine S.aload_n (pc' := 37) dX11_after_36 rfl rfl rfl ?_
          refine S.getR (pc' := 40) dX11_after_37 rfl fX11_37 L_0 rf_0_5 ?_
          refine S.aload_n (pc' := 41) dX11_after_40 rfl rfl rfl ?_
          refine S.getR (pc' := 44) dX11_after_41 rfl fX11_30 L_0 rf_0_4 ?_
          refine S.iload_n (pc' := 45) dX11_after_44 rfl rfl rfl ?_
          refine S.callVr (pc' := 48) dX11_after_45 rfl cX11_214 (rk_X8_behind (g := g) (pg := pg) (vs := vs) gd18 vs27 pl22) rfl L_34 (by decide) rfl (Nat.le_of_ble_eq_true rfl) (fun z45 M45 q45 => ?_)
          obtain ⟨rfl, c1, f1⟩ := q45
          refine S.getR (pc' := 51) dX11_after_48 rfl fX11_138 (pl_lay pl41) (pl_r0 pl41) ?_
          refine S.iload_n (pc' := 52) dX11_after_51 rfl rfl rfl ?_
          refine S.iald (pc' := 53) dX11_after_52 rfl (pl_a0 pl41) (by omega) (by omega) ?_
          refine S.iret dX11_after_53 rfl ?_
          exact ⟨c1.1 t hin.2.1 hin.2.2, hcs.scr f1, f1.c (by decide)⟩
        · exfalso; omega
  · rw [if_neg hin]
    refine S.iload_n (pc' := 1) dX11_after_0 rfl rfl rfl ?_
    refine S.if_lt (pc' := 4) (tgt := 26) dX11_after_1 (by decide) rfl hn (fun h1 => ?_) (fun h1 => ?_)
    · refine S.iconst (pc' := 27) dX11_after_26 rfl ?_
      refine S.iret dX11_after_27 rfl ?_
      exact ⟨rfl, hcs, frC.refl _⟩
    · refine S.iload_n (pc' := 5) dX11_after_4 rfl rfl rfl ?_
      refine S.aload_n (pc' := 6) dX11_after_5 rfl rfl rfl ?_
      refine S.getR (pc' := 9) dX11_after_6 rfl fX11_37 L_0 rf_0_5 ?_
      refine S.getI (pc' := 12) dX11_after_9 rfl fX11_205 (vs_lay vs27) ?_
      refine S.icmp_gt (pc' := 15) (tgt := 26) dX11_after_12 (by decide) rfl hn (by unfold fp_rng; omega) (fun h12 => ?_) (fun h12 => ?_)
      · refine S.iconst (pc' := 27) dX11_after_26 rfl ?_
        refine S.iret dX11_after_27 rfl ?_
        exact ⟨rfl, hcs, frC.refl _⟩
      · refine S.aload_n (pc' := 16) dX11_after_15 rfl rfl rfl ?_
        refine S.getR (pc' := 19) dX11_after_16 rfl fX11_23 L_0 rf_0_3 ?_
        refine S.iload_n (pc' := 20) dX11_after_19 rfl rfl rfl ?_
        refine S.callVi (pc' := 23) dX11_after_20 rfl cX11_126 (bk_X1_hasThing gd18) rfl (gd_lay gd18) (by decide) rfl (Nat.le_of_ble_eq_true rfl) (fun z20 M20 q20 => ?_)
        obtain ⟨b20, rfl⟩ := q20
        refine S.if_ne (pc' := 26) (tgt := 28) dX11_after_23 (by decide) rfl (by unfold fp_rng; omega) (fun h23 => ?_) (fun h23 => ?_)
        · exfalso; omega
        · refine S.iconst (pc' := 27) dX11_after_26 rfl ?_
          refine S.iret dX11_after_27 rfl ?_
          exact ⟨rfl, hcs, frC.refl _⟩
theorem mm_after {n t : Int} (hc : MS M tp fl g pg vs nt im sh tn) (ho : OK g pg vs nt im sh) (hn : fp_rng n) (ht : fp_rng t) : fp_Ok l G 6 kX12_after [rV G 177, iV n, iV t] M (qI fun z N => z = A_after g pg vs n t ∧ MS N tp fl g pg vs nt im sh tn ∧ frD M N) := by
  have hcs := hc
  obtain ⟨-, hd, hcl, hv, -⟩ := hc
  have hg := ho.1
  have hP := ho.2.1
  have hvo := ho.2.2.1
  have hv' : mvIs M vs := hv
  have hl1 := hv.1
  have hl := hv.2.1
  have hg1 := hg.1
  have hn' := hn
  unfold fp_rng at hn'
  refine fp_Ok.of (r := 0) rfl (Nat.le_of_ble_eq_true rfl) rfl ?_
  unfold A_after
  by_cases hin : (0 ≤ n ∧ n ≤ vs.length) ∧ (0 ≤ t ∧ t < g.1)
  · rw [if_pos hin]
    refine S.iload_n (pc' := 1) dX12_after_0 rfl rfl rfl ?_
    refine S.i2l (pc' := 2) dX12_after_1 rfl hn ?_
    refine S.lconst (pc' := 3) (w := 0) dX12_after_2 rfl rfl ?_
    refine S.aload_n (pc' := 4) dX12_after_3 rfl rfl rfl ?_
    refine S.callVe (pc' := 7) dX12_after_4 rfl cX12_225 (ok_X12_visits) rfl L_177 (by decide) rfl (Nat.le_of_ble_eq_true rfl) ?_
    refine S.i2l (pc' := 8) dX12_after_7 rfl (by unfold fp_rng; omega) ?_
    refine S.callSi (pc' := 11) dX12_after_8 rfl cX12_94 (bk_X12_in) rfl (by decide) rfl (Nat.le_of_ble_eq_true rfl) (fun z8 M8 q8 => ?_)
    obtain ⟨b8, rfl⟩ := q8
    refine S.if_eq (pc' := 14) (tgt := 22) dX12_after_11 (by decide) rfl (by unfold fp_rng; omega) (fun h11 => ?_) (fun h11 => ?_)
    · exfalso; omega
    · refine S.aload_n (pc' := 15) dX12_after_14 rfl rfl rfl ?_
      refine S.iload_n (pc' := 16) dX12_after_15 rfl rfl rfl ?_
      refine S.callVi (pc' := 19) dX12_after_16 rfl cX12_205 (bk_X12_isThing) rfl L_177 (by decide) rfl (Nat.le_of_ble_eq_true rfl) (fun z16 M16 q16 => ?_)
      obtain ⟨b16, rfl⟩ := q16
      refine S.if_ne (pc' := 22) (tgt := 24) dX12_after_19 (by decide) rfl (by unfold fp_rng; omega) (fun h19 => ?_) (fun h19 => ?_)
      · refine S.aload_n (pc' := 25) dX12_after_24 rfl rfl rfl ?_
        refine S.iload_n (pc' := 26) dX12_after_25 rfl rfl rfl ?_
        refine S.callVi (pc' := 29) dX12_after_26 rfl cX12_268 (rk_X12_runs (g := g) (pg := pg) (vs := vs)) rfl L_177 (by decide) rfl (Nat.le_of_ble_eq_true rfl) (fun z26 M26 q26 => ?_)
        obtain ⟨z1, c1, f1⟩ := q26
        refine S.pop (pc' := 30) dX12_after_29 rfl rfl ?_
        refine S.aload_n (pc' := 31) dX12_after_30 rfl rfl rfl ?_
        refine S.getR (pc' := 34) dX12_after_31 rfl fX12_7 L_177 rf_177_0 ?_
        refine S.sipush (pc' := 37) dX12_after_34 rfl (by decide) ?_
        refine S.iload_n (pc' := 38) dX12_after_37 rfl rfl rfl ?_
        refine S.iadd (pc' := 39) dX12_after_38 rfl ?_
        refine S.iald (pc' := 40) dX12_after_39 rfl L_178 (by omega) (by omega) ?_
        refine S.iret dX12_after_40 rfl ?_
        exact ⟨c1.1 t hin.2.1 hin.2.2, hcs.tri ho f1, f1.d⟩
      · exfalso; omega
  · rw [if_neg hin]
    refine S.iload_n (pc' := 1) dX12_after_0 rfl rfl rfl ?_
    refine S.i2l (pc' := 2) dX12_after_1 rfl hn ?_
    refine S.lconst (pc' := 3) (w := 0) dX12_after_2 rfl rfl ?_
    refine S.aload_n (pc' := 4) dX12_after_3 rfl rfl rfl ?_
    refine S.callVe (pc' := 7) dX12_after_4 rfl cX12_225 (ok_X12_visits) rfl L_177 (by decide) rfl (Nat.le_of_ble_eq_true rfl) ?_
    refine S.i2l (pc' := 8) dX12_after_7 rfl (by unfold fp_rng; omega) ?_
    refine S.callSi (pc' := 11) dX12_after_8 rfl cX12_94 (bk_X12_in) rfl (by decide) rfl (Nat.le_of_ble_eq_true rfl) (fun z8 M8 q8 => ?_)
    obtain ⟨b8, rfl⟩ := q8
    refine S.if_eq (pc' := 14) (tgt := 22) dX12_after_11 (by decide) rfl (by unfold fp_rng; omega) (fun h11 => ?_) (fun h11 => ?_)
    · refine S.iconst (pc' := 23) dX12_after_22 rfl ?_
      refine S.iret dX12_after_23 rfl ?_
      exact ⟨rfl, hcs, frD.refl _⟩
    · refine S.aload_n (pc' := 15) dX12_after_14 rfl rfl rfl ?_
      refine S.iload_n (pc' := 16) dX12_after_15 rfl rfl rfl ?_
      refine S.callVi (pc' := 19) dX12_after_16 rfl cX12_205 (bk_X12_isThing) rfl L_177 (by decide) rfl (Nat.le_of_ble_eq_true rfl) (fun z16 M16 q16 => ?_)
      obtain ⟨b16, rfl⟩ := q16
      refine S.if_ne (pc' := 22) (tgt := 24) dX12_after_19 (by decide) rfl (by unfold fp_rng; omega) (fun h19 => ?_) (fun h19 => ?_)
      · exfalso; omega
      · refine S.iconst (pc' := 23) dX12_after_22 rfl ?_
        refine S.iret dX12_after_23 rfl ?_
        exact ⟨rfl, hcs, frD.refl _⟩
theorem cc_gains {n p : Int} (hc : CS M tp fl g pg vs nt im sh tn) (ho : OK g pg vs nt im sh) (hn : fp_rng n) (hp : fp_rng p) : fp_Ok l G 4 kX11_gains [rV G 0, iV n, iV p] M (qI fun z N => z = A_gains g pg vs n p ∧ CS N tp fl g pg vs nt im sh tn ∧ frC M N) := by
  have hcs := hc
  obtain ⟨-, hd, hcl, hv, -⟩ := hc
  obtain ⟨hg, hP, hvo, -⟩ := ho
  have hl1 := hv.1
  have hl := hv.2.1
  refine fp_Ok.of (r := 0) rfl (Nat.le_of_ble_eq_true rfl) rfl ?_
  unfold A_gains
  by_cases hin : (0 ≤ n ∧ n ≤ vs.length) ∧ (0 ≤ p ∧ p < 4)
  · rw [if_pos hin]
    refine S.iload_n (pc' := 1) dX11_gains_0 rfl rfl rfl ?_
    refine S.if_lt (pc' := 4) (tgt := 22) dX11_gains_1 (by decide) rfl hn (fun h1 => ?_) (fun h1 => ?_)
    · exfalso; omega
    · refine S.iload_n (pc' := 5) dX11_gains_4 rfl rfl rfl ?_
      refine S.aload_n (pc' := 6) dX11_gains_5 rfl rfl rfl ?_
      refine S.getR (pc' := 9) dX11_gains_6 rfl fX11_37 L_0 rf_0_5 ?_
      refine S.getI (pc' := 12) dX11_gains_9 rfl fX11_205 (vs_lay vs27) ?_
      refine S.icmp_gt (pc' := 15) (tgt := 22) dX11_gains_12 (by decide) rfl hn (by unfold fp_rng; omega) (fun h12 => ?_) (fun h12 => ?_)
      · exfalso; omega
      · refine S.iload_n (pc' := 16) dX11_gains_15 rfl rfl rfl ?_
        refine S.callSi (pc' := 19) dX11_gains_16 rfl cX11_181 (bk_X11_isOne) rfl (by decide) rfl (Nat.le_of_ble_eq_true rfl) (fun z16 M16 q16 => ?_)
        obtain ⟨b16, rfl⟩ := q16
        refine S.if_ne (pc' := 22) (tgt := 24) dX11_gains_19 (by decide) rfl (by unfold fp_rng; omega) (fun h19 => ?_) (fun h19 => ?_)
        · refine S.aload_n (pc' := 25) dX11_gains_24 rfl rfl rfl ?_
          refine S.getR (pc' := 28) dX11_gains_25 rfl fX11_51 L_0 rf_0_7 ?_
          refine S.aload_n (pc' := 29) dX11_gains_28 rfl rfl rfl ?_
          refine S.getR (pc' := 32) dX11_gains_29 rfl fX11_23 L_0 rf_0_3 ?_
          refine S.aload_n (pc' := 33) dX11_gains_32 rfl rfl rfl ?_
          refine S.getR (pc' := 36) dX11_gains_33 rfl fX11_37 L_0 rf_0_5 ?_
          refine S.aload_n (pc' := 37) dX11_gains_36 rfl rfl rfl ?_
          refine S.getR (pc' := 40) dX11_gains_37 rfl fX11_30 L_0 rf_0_4 ?_
          refine S.iload_n (pc' := 41) dX11_gains_40 rfl rfl rfl ?_
          refine S.callVr (pc' := 44) dX11_gains_41 rfl cX11_214 (rk_X8_behind (g := g) (pg := pg) (vs := vs) gd18 vs27 pl22) rfl L_34 (by decide) rfl (Nat.le_of_ble_eq_true rfl) (fun z41 M41 q41 => ?_)
          obtain ⟨rfl, c1, f1⟩ := q41
          have d1 := f1.gd pl41 gd18 hd
          refine S.aload_n (pc' := 45) dX11_gains_44 rfl rfl rfl ?_
          refine S.getR (pc' := 48) dX11_gains_45 rfl fX11_23 L_0 rf_0_3 ?_
          refine S.iload_n (pc' := 49) dX11_gains_48 rfl rfl rfl ?_
          refine S.callVe (pc' := 52) dX11_gains_49 rfl cX11_187 (rk_X5_worthTo (g := g) (pg := aRun g pg vs n.toNat) pl41 gd18) rfl (pl_lay pl41) (by decide) rfl (Nat.le_of_ble_eq_true rfl) ?_
          refine S.iret dX11_gains_52 rfl ?_
          exact ⟨rfl, hcs.scr f1, f1.c (by decide)⟩
        · exfalso; omega
  · rw [if_neg hin]
    refine S.iload_n (pc' := 1) dX11_gains_0 rfl rfl rfl ?_
    refine S.if_lt (pc' := 4) (tgt := 22) dX11_gains_1 (by decide) rfl hn (fun h1 => ?_) (fun h1 => ?_)
    · refine S.iconst (pc' := 23) dX11_gains_22 rfl ?_
      refine S.iret dX11_gains_23 rfl ?_
      exact ⟨rfl, hcs, frC.refl _⟩
    · refine S.iload_n (pc' := 5) dX11_gains_4 rfl rfl rfl ?_
      refine S.aload_n (pc' := 6) dX11_gains_5 rfl rfl rfl ?_
      refine S.getR (pc' := 9) dX11_gains_6 rfl fX11_37 L_0 rf_0_5 ?_
      refine S.getI (pc' := 12) dX11_gains_9 rfl fX11_205 (vs_lay vs27) ?_
      refine S.icmp_gt (pc' := 15) (tgt := 22) dX11_gains_12 (by decide) rfl hn (by unfold fp_rng; omega) (fun h12 => ?_) (fun h12 => ?_)
      · refine S.iconst (pc' := 23) dX11_gains_22 rfl ?_
        refine S.iret dX11_gains_23 rfl ?_
        exact ⟨rfl, hcs, frC.refl _⟩
      · refine S.iload_n (pc' := 16) dX11_gains_15 rfl rfl rfl ?_
        refine S.callSi (pc' := 19) dX11_gains_16 rfl cX11_181 (bk_X11_isOne) rfl (by decide) rfl (Nat.le_of_ble_eq_true rfl) (fun z16 M16 q16 => ?_)
        obtain ⟨b16, rfl⟩ := q16
        refine S.if_ne (pc' := 22) (tgt := 24) dX11_gains_19 (by decide) rfl (by unfold fp_rng; omega) (fun h19 => ?_) (fun h19 => ?_)
        · exfalso; omega
        · refine S.iconst (pc' := 23) dX11_gains_22 rfl ?_
          refine S.iret dX11_gains_23 rfl ?_
          exact ⟨rfl, hcs, frC.refl _⟩
theorem mm_gains {n p : Int} (hc : MS M tp fl g pg vs nt im sh tn) (ho : OK g pg vs nt im sh) (hn : fp_rng n) (hp : fp_rng p) : fp_Ok l G 6 kX12_gains [rV G 177, iV n, iV p] M (qI fun z N => z = A_gains g pg vs n p ∧ MS N tp fl g pg vs nt im sh tn ∧ frD M N) := by
  have hcs := hc
  obtain ⟨-, hd, hcl, hv, -⟩ := hc
  have hg := ho.1
  have hP := ho.2.1
  have hvo := ho.2.2.1
  have hv' : mvIs M vs := hv
  have hl1 := hv.1
  have hl := hv.2.1
  have hn' := hn
  unfold fp_rng at hn'
  have hPn := aRun_ok hg hP hvo n.toNat
  refine fp_Ok.of (r := 0) rfl (Nat.le_of_ble_eq_true rfl) rfl ?_
  unfold A_gains
  by_cases hin : (0 ≤ n ∧ n ≤ vs.length) ∧ (0 ≤ p ∧ p < 4)
  · rw [if_pos hin]
    refine S.iload_n (pc' := 1) dX12_gains_0 rfl rfl rfl ?_
    refine S.i2l (pc' := 2) dX12_gains_1 rfl hn ?_
    refine S.lconst (pc' := 3) (w := 0) dX12_gains_2 rfl rfl ?_
    refine S.aload_n (pc' := 4) dX12_gains_3 rfl rfl rfl ?_
    refine S.callVe (pc' := 7) dX12_gains_4 rfl cX12_225 (ok_X12_visits) rfl L_177 (by decide) rfl (Nat.le_of_ble_eq_true rfl) ?_
    refine S.i2l (pc' := 8) dX12_gains_7 rfl (by unfold fp_rng; omega) ?_
    refine S.callSi (pc' := 11) dX12_gains_8 rfl cX12_94 (bk_X12_in) rfl (by decide) rfl (Nat.le_of_ble_eq_true rfl) (fun z8 M8 q8 => ?_)
    obtain ⟨b8, rfl⟩ := q8
    refine S.if_eq (pc' := 14) (tgt := 21) dX12_gains_11 (by decide) rfl (by unfold fp_rng; omega) (fun h11 => ?_) (fun h11 => ?_)
    · exfalso; omega
    · refine S.iload_n (pc' := 15) dX12_gains_14 rfl rfl rfl ?_
      refine S.callSi (pc' := 18) dX12_gains_15 rfl cX12_228 (bk_X12_isOne) rfl (by decide) rfl (Nat.le_of_ble_eq_true rfl) (fun z15 M15 q15 => ?_)
      obtain ⟨b15, rfl⟩ := q15
      refine S.if_ne (pc' := 21) (tgt := 23) dX12_gains_18 (by decide) rfl (by unfold fp_rng; omega) (fun h18 => ?_) (fun h18 => ?_)
      · refine S.aload_n (pc' := 24) dX12_gains_23 rfl rfl rfl ?_
        refine S.iload_n (pc' := 25) dX12_gains_24 rfl rfl rfl ?_
        refine S.callVi (pc' := 28) dX12_gains_25 rfl cX12_268 (rk_X12_runs (g := g) (pg := pg) (vs := vs)) rfl L_177 (by decide) rfl (Nat.le_of_ble_eq_true rfl) (fun z25 M25 q25 => ?_)
        obtain ⟨z1, c1, f1⟩ := q25
        have d1 := f1.md hd
        refine S.pop (pc' := 29) dX12_gains_28 rfl rfl ?_
        refine S.aload_n (pc' := 30) dX12_gains_29 rfl rfl rfl ?_
        refine S.sipush (pc' := 33) dX12_gains_30 rfl (by decide) ?_
        refine S.iload_n (pc' := 34) dX12_gains_33 rfl rfl rfl ?_
        refine S.callVe (pc' := 37) dX12_gains_34 rfl cX12_234 (rk_X12_worthAt (g := g) (pg := aRun g pg vs n.toNat)) rfl L_177 (by decide) rfl (Nat.le_of_ble_eq_true rfl) ?_
        refine S.iret dX12_gains_37 rfl ?_
        exact ⟨rfl, hcs.tri ho f1, f1.d⟩
      · exfalso; omega
  · rw [if_neg hin]
    refine S.iload_n (pc' := 1) dX12_gains_0 rfl rfl rfl ?_
    refine S.i2l (pc' := 2) dX12_gains_1 rfl hn ?_
    refine S.lconst (pc' := 3) (w := 0) dX12_gains_2 rfl rfl ?_
    refine S.aload_n (pc' := 4) dX12_gains_3 rfl rfl rfl ?_
    refine S.callVe (pc' := 7) dX12_gains_4 rfl cX12_225 (ok_X12_visits) rfl L_177 (by decide) rfl (Nat.le_of_ble_eq_true rfl) ?_
    refine S.i2l (pc' := 8) dX12_gains_7 rfl (by unfold fp_rng; omega) ?_
    refine S.callSi (pc' := 11) dX12_gains_8 rfl cX12_94 (bk_X12_in) rfl (by decide) rfl (Nat.le_of_ble_eq_true rfl) (fun z8 M8 q8 => ?_)
    obtain ⟨b8, rfl⟩ := q8
    refine S.if_eq (pc' := 14) (tgt := 21) dX12_gains_11 (by decide) rfl (by unfold fp_rng; omega) (fun h11 => ?_) (fun h11 => ?_)
    · refine S.iconst (pc' := 22) dX12_gains_21 rfl ?_
      refine S.iret dX12_gains_22 rfl ?_
      exact ⟨rfl, hcs, frD.refl _⟩
    · refine S.iload_n (pc' := 15) dX12_gains_14 rfl rfl rfl ?_
      refine S.callSi (pc' := 18) dX12_gains_15 rfl cX12_228 (bk_X12_isOne) rfl (by decide) rfl (Nat.le_of_ble_eq_true rfl) (fun z15 M15 q15 => ?_)
      obtain ⟨b15, rfl⟩ := q15
      refine S.if_ne (pc' := 21) (tgt := 23) dX12_gains_18 (by decide) rfl (by unfold fp_rng; omega) (fun h18 => ?_) (fun h18 => ?_)
      · exfalso; omega
      · refine S.iconst (pc' := 22) dX12_gains_21 rfl ?_
        refine S.iret dX12_gains_22 rfl ?_
        exact ⟨rfl, hcs, frD.refl _⟩
theorem mm_vain (hc : MS M tp fl g pg vs nt im sh tn) (ho : OK g pg vs nt im sh) : fp_Ok l G 6 kX12_vain [rV G 177] M (qI fun z N => z = aVn g pg vs vs.length ∧ MS N tp fl g pg vs nt im sh tn ∧ frD M N) := by
  have hcs := hc
  obtain ⟨-, hd, hcl, hv, -⟩ := hc
  have hg := ho.1
  have hP := ho.2.1
  have hvo := ho.2.2.1
  have hv' : mvIs M vs := hv
  have hl1 := hv.1
  refine fp_Ok.of (r := 0) rfl (Nat.le_of_ble_eq_true rfl) rfl ?_
  refine S.aload_n (pc' := 1) dX12_vain_0 rfl rfl rfl ?_
  refine S.aload_n (pc' := 2) dX12_vain_1 rfl rfl rfl ?_
  refine S.callVe (pc' := 5) dX12_vain_2 rfl cX12_225 (ok_X12_visits) rfl L_177 (by decide) rfl (Nat.le_of_ble_eq_true rfl) ?_
  rw [hl1]
  refine S.callVi (pc' := 8) dX12_vain_5 rfl cX12_268 (rk_X12_runs (g := g) (pg := pg) (vs := vs)) rfl L_177 (by decide) rfl (Nat.le_of_ble_eq_true rfl) (fun z5 M5 q5 => ?_)
  obtain ⟨z1, c1, f1⟩ := q5
  refine S.iret dX12_vain_8 rfl ?_
  exact ⟨by rw [z1, Int.toNat_natCast], hcs.tri ho f1, f1.d⟩
theorem vain_loop (hP : pgOk g pg) (hg : gOk g) (hvo : vsOk g vs) (hv : vsIs M 27 vs) (hd : gdIs M 18 g) (hcs : CS M tp fl g pg vs nt im sh tn) : ∀ (n : Nat) (i : Int) (N : fp_Mem), ((vs.length : Int) - i).toNat < n → 0 ≤ i → i ≤ vs.length → frP M N 41 → clIs N 41 g (aRun g pg vs i.toNat) →
    fp_S l G 4 kX11_vain 25 [some (rV G 0), some (rV G 41), some (iV (aVn g pg vs i.toNat)), some (iV i)] [] N (qI fun z O => z = aVn g pg vs vs.length ∧ CS O tp fl g pg vs nt im sh tn ∧ frC M O) := by
  have hl := hv.2.1
  intro n
  induction n with
  | zero => intro i N h; omega
  | succ n ih =>
    intro i N h i0 i1 hf hc
    have hb := aVn_lt g pg vs i.toNat
    have es := aVn_succ (g := g) (pg := pg) (vs := vs) i0
    have er := aRun_succ (g := g) (pg := pg) (vs := vs) i0
    have hPi := aRun_ok hg hP hvo i.toNat
    have hv' := hf.vs pl41 vs27 hv
    have hd' := hf.gd pl41 gd18 hd
    have hl1 := hv'.1
    have hpw := fp_pow_le (i := i) (n := 12) (by omega)
    refine S.iload_n (pc' := 26) dX11_vain_25 rfl rfl rfl ?_
    refine S.aload_n (pc' := 27) dX11_vain_26 rfl rfl rfl ?_
    refine S.getR (pc' := 30) dX11_vain_27 rfl fX11_37 L_0 rf_0_5 ?_
    refine S.getI (pc' := 33) dX11_vain_30 rfl fX11_205 (vs_lay vs27) ?_
    refine S.icmp_ge (pc' := 36) (tgt := 64) dX11_vain_33 (by decide) rfl (by unfold fp_rng; omega) (by unfold fp_rng; omega) (fun h33 => ?_) (fun h33 => ?_)
    · refine S.iload_n (pc' := 65) dX11_vain_64 rfl rfl rfl ?_
      refine S.iret dX11_vain_65 rfl ?_
      exact ⟨by rw [show i = (vs.length : Int) by omega, Int.toNat_natCast], hcs.scr hf, hf.c (by decide)⟩
    · refine S.aload_n (pc' := 37) dX11_vain_36 rfl rfl rfl ?_
      refine S.getR (pc' := 40) dX11_vain_37 rfl fX11_37 L_0 rf_0_5 ?_
      refine S.aload_n (pc' := 41) dX11_vain_40 rfl rfl rfl ?_
      refine S.getR (pc' := 44) dX11_vain_41 rfl fX11_23 L_0 rf_0_3 ?_
      refine S.aload_n (pc' := 45) dX11_vain_44 rfl rfl rfl ?_
      refine S.iload_n (pc' := 46) dX11_vain_45 rfl rfl rfl ?_
      refine S.callVi (pc' := 49) dX11_vain_46 rfl cX11_206 (rk_X10_happens (g := g) (pg := aRun g pg vs i.toNat) (vs := vs) vs27 gd18 pl41) rfl (vs_lay vs27) (by decide) rfl (Nat.le_of_ble_eq_true rfl) (fun z46 M46 q46 => ?_)
      have h01 := aHapI_01 g (aRun g pg vs i.toNat) vs i
      obtain ⟨rfl, c1, f1⟩ := q46
      rw [← er] at c1
      refine S.if_ne (pc' := 52) (tgt := 58) dX11_vain_49 (by decide) rfl (by unfold fp_rng; omega) (fun h49 => ?_) (fun h49 => ?_)
      · refine S.iinc (pc' := 61) (LL' := [_, _, _, _]) dX11_vain_58 rfl (by decide) rfl rfl rfl ?_
        refine S.goto (pc' := 25) dX11_vain_61 (by decide) ?_
        first | (rw [if_neg h49] at es; rw [← es]; exact ih _ _ (by omega) (by omega) (by omega) (hf.trans f1) c1) | (rw [if_pos h49] at es; rw [← es]; exact ih _ _ (by omega) (by omega) (by omega) (hf.trans f1) c1)
      · refine S.iload_n (pc' := 53) dX11_vain_52 rfl rfl rfl ?_
        refine S.iconst (pc' := 54) dX11_vain_53 rfl ?_
        refine S.iload_n (pc' := 55) dX11_vain_54 rfl rfl rfl ?_
        refine S.ishl (pc' := 56) dX11_vain_55 rfl (fp_shl1 (by omega) (by omega)) ?_
        refine S.ior (pc' := 57) dX11_vain_56 rfl (fp_ior hb.1 (by omega)) ?_
        refine S.istore_n (pc' := 58) (LL' := [_, _, _, _]) dX11_vain_57 rfl (by decide) rfl rfl rfl ?_
        refine S.iinc (pc' := 61) (LL' := [_, _, _, _]) dX11_vain_58 rfl (by decide) rfl rfl rfl ?_
        refine S.goto (pc' := 25) dX11_vain_61 (by decide) ?_
        first | (rw [if_neg h49] at es; rw [← es]; exact ih _ _ (by omega) (by omega) (by omega) (hf.trans f1) c1) | (rw [if_pos h49] at es; rw [← es]; exact ih _ _ (by omega) (by omega) (by omega) (hf.trans f1) c1)
theorem cc_vain (hc : CS M tp fl g pg vs nt im sh tn) (ho : OK g pg vs nt im sh) : fp_Ok l G 4 kX11_vain [rV G 0] M (qI fun z N => z = aVn g pg vs vs.length ∧ CS N tp fl g pg vs nt im sh tn ∧ frC M N) := by
  have hcs := hc
  obtain ⟨-, hd, hcl, hv, -⟩ := hc
  obtain ⟨hg, hP, hvo, -⟩ := ho
  refine fp_Ok.of (r := 3) rfl (Nat.le_of_ble_eq_true rfl) rfl ?_
  refine S.aload_n (pc' := 1) dX11_vain_0 rfl rfl rfl ?_
  refine S.getR (pc' := 4) dX11_vain_1 rfl fX11_51 L_0 rf_0_7 ?_
  refine S.aload_n (pc' := 5) dX11_vain_4 rfl rfl rfl ?_
  refine S.getR (pc' := 8) dX11_vain_5 rfl fX11_23 L_0 rf_0_3 ?_
  refine S.aload_n (pc' := 9) dX11_vain_8 rfl rfl rfl ?_
  refine S.getR (pc' := 12) dX11_vain_9 rfl fX11_37 L_0 rf_0_5 ?_
  refine S.aload_n (pc' := 13) dX11_vain_12 rfl rfl rfl ?_
  refine S.getR (pc' := 16) dX11_vain_13 rfl fX11_30 L_0 rf_0_4 ?_
  refine S.iconst (pc' := 17) dX11_vain_16 rfl ?_
  refine S.callVr (pc' := 20) dX11_vain_17 rfl cX11_214 (rk_X8_behind (g := g) (pg := pg) (vs := vs) gd18 vs27 pl22) rfl L_34 (by decide) rfl (Nat.le_of_ble_eq_true rfl) (fun z17 M17 q17 => ?_)
  obtain ⟨rfl, c1, f1⟩ := q17
  refine S.astore_n (pc' := 21) (LL' := [_, _, _, _]) dX11_vain_20 rfl (by decide) rfl rfl rfl ?_
  refine S.iconst (pc' := 22) dX11_vain_21 rfl ?_
  refine S.istore_n (pc' := 23) (LL' := [_, _, _, _]) dX11_vain_22 rfl (by decide) rfl rfl rfl ?_
  refine S.iconst (pc' := 24) dX11_vain_23 rfl ?_
  refine S.istore_n (pc' := 25) (LL' := [_, _, _, _]) dX11_vain_24 rfl (by decide) rfl rfl rfl ?_
  exact vain_loop hP hg hvo hv hd hcs (vs.length + 1) 0 _ (by omega) (by omega) (by omega) f1 c1
end RUN
