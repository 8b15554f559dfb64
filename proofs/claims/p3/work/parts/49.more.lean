/-! since, extra, aim -/
theorem aGv_in {g : aGd} {pg : aPg} {x : Int} (hP : pgOk g pg) (hg : gOk g) (hx : 0 ≤ x ∧ x < g.2.1) : (pg.2.2 x = [] ∧ aGv g pg x = -4) ∨ (pg.2.2 x ≠ [] ∧ 0 ≤ aGv g pg x ∧ aGv g pg x < g.1) := by
  by_cases q : pg.2.2 x = []
  · left; exact ⟨q, by unfold aGv; rw [if_pos q]⟩
  · right
    have := (hP.2.1 x hx.1 (by have := hg.2.1; omega)).2.2.2 _ (aGv_mem (g := g) q)
    exact ⟨q, this.1, this.2.1⟩
def aEx (g : aGd) (pg : aPg) (vs : List aVt) (p x : Int) : Nat → Int × Int
  | 0 => (-4, -4)
  | n + 1 => if aGv g (aRun g pg vs n) x ≠ -4 ∧ (aEx g pg vs p x n).1 < g.2.2.2.2.1 (aGv g (aRun g pg vs n) x) p then (g.2.2.2.2.1 (aGv g (aRun g pg vs n) x) p, n) else aEx g pg vs p x n
def A_extra (g : aGd) (pg : aPg) (vs : List aVt) (p x w : Int) : Int := if ¬ ((0 ≤ p ∧ p < 4) ∧ (0 ≤ x ∧ x < g.2.1) ∧ (0 ≤ w ∧ w ≤ 1)) then -1 else if w = 0 then (aEx g pg vs p x (vs.length + 1)).1 else (aEx g pg vs p x (vs.length + 1)).2
theorem aEx_succ {g : aGd} {pg : aPg} {vs : List aVt} {p x i : Int} (h : 0 ≤ i) : aEx g pg vs p x (i + 1).toNat = if aGv g (aRun g pg vs i.toNat) x ≠ -4 ∧ (aEx g pg vs p x i.toNat).1 < g.2.2.2.2.1 (aGv g (aRun g pg vs i.toNat) x) p then (g.2.2.2.2.1 (aGv g (aRun g pg vs i.toNat) x) p, i) else aEx g pg vs p x i.toNat := by
  have e1 : (i + 1).toNat = i.toNat + 1 := by omega
  rw [e1]
  show (if _ then (_, ((i.toNat : Nat) : Int)) else _) = _
  rw [Int.toNat_of_nonneg h]
theorem aEx_in {g : aGd} {pg : aPg} {vs : List aVt} {p x : Int} (hg : gOk g) (hP : pgOk g pg) (hvo : vsOk g vs) (hp : 0 ≤ p ∧ p < 4) (hx : 0 ≤ x ∧ x < g.2.1) : ∀ n : Nat, ((aEx g pg vs p x n).1 = -4 ∧ (aEx g pg vs p x n).2 = -4) ∨ (0 ≤ (aEx g pg vs p x n).1 ∧ (aEx g pg vs p x n).1 ≤ 20 ∧ 0 ≤ (aEx g pg vs p x n).2 ∧ (aEx g pg vs p x n).2 < n)
  | 0 => Or.inl ⟨rfl, rfl⟩
  | n + 1 => by
    have ih := aEx_in hg hP hvo hp hx n
    unfold aEx
    split
    · rename_i h
      have hq := aGv_in (aRun_ok hg hP hvo n) hg hx
      have hv := hg.2.2.2.2.1 (aGv g (aRun g pg vs n) x) p (by omega) (by omega) hp.1 hp.2
      right; dsimp only; omega
    · omega
section MOE
variable {l : Launch} {G : fp_WG} {M N : fp_Mem} {tp tp' : List Int} {fl fl' : Int} {g : aGd} {pg : aPg} {vs vs' : List aVt} {nt nt' : List Int} {im : aIm} {sh : aSh} {tn tn' : Int} {k k2 kg kv : Nat}
theorem since_loop {p t : Int} (hp : 0 ≤ p ∧ p < 4) (ht : 0 ≤ t ∧ t < g.1) (hP : pgOk g pg) (hg : gOk g) (hvo : vsOk g vs) (hv : vsIs M 27 vs) (hd : gdIs M 18 g) (hcs : CS M tp fl g pg vs nt im sh tn) : ∀ (n : Nat) (i : Int) (N : fp_Mem), ((vs.length : Int) - i).toNat = n → 0 ≤ i → i ≤ vs.length → frP M N 41 → clIs N 41 g (aRun g pg vs i.toNat) →
    fp_S l G 4 kX11_since 60 [some (rV G 0), some (iV p), some (iV t), some (rV G 41), some (iV i)] [] N (qI fun z O => z = fp_find (fun i => (aRun g pg vs (i + 1).toNat).1 t) p n i ∧ CS O tp fl g pg vs nt im sh tn ∧ frC M O) := by
  have hl := hv.2.1
  have hg1 := hg.1
  intro n
  induction n with
  | zero =>
    intro i N h i0 i1 hf hc
    have hl1 := (hf.vs pl41 vs27 hv).1
    refine S.iload (pc' := 62) dX11_since_60 rfl rfl ?_
    refine S.aload_n (pc' := 63) dX11_since_62 rfl rfl rfl ?_
    refine S.getR (pc' := 66) dX11_since_63 rfl fX11_37 L_0 rf_0_5 ?_
    refine S.getI (pc' := 69) dX11_since_66 rfl fX11_205 (vs_lay vs27) ?_
    refine S.icmp_ge (pc' := 72) (tgt := 106) dX11_since_69 (by decide) rfl (by unfold fp_rng; omega) (by unfold fp_rng; omega) (fun h69 => ?_) (fun h69 => ?_)
    · refine S.bipush (pc' := 108) dX11_since_106 rfl (by decide) ?_
      refine S.iret dX11_since_108 rfl ?_
      exact ⟨rfl, hcs.scr hf, hf.c (by decide)⟩
    · exfalso; omega
  | succ n ih =>
    intro i N h i0 i1 hf hc
    have er := aRun_succ (g := g) (pg := pg) (vs := vs) i0
    have hPi := aRun_ok hg hP hvo i.toNat
    have hP2 := aRun_ok hg hP hvo (i + 1).toNat
    have hv' := hf.vs pl41 vs27 hv
    have hd' := hf.gd pl41 gd18 hd
    have hl1 := hv'.1
    unfold fp_find
    refine S.iload (pc' := 62) dX11_since_60 rfl rfl ?_
    refine S.aload_n (pc' := 63) dX11_since_62 rfl rfl rfl ?_
    refine S.getR (pc' := 66) dX11_since_63 rfl fX11_37 L_0 rf_0_5 ?_
    refine S.getI (pc' := 69) dX11_since_66 rfl fX11_205 (vs_lay vs27) ?_
    refine S.icmp_ge (pc' := 72) (tgt := 106) dX11_since_69 (by decide) rfl (by unfold fp_rng; omega) (by unfold fp_rng; omega) (fun h69 => ?_) (fun h69 => ?_)
    · refine S.bipush (pc' := 108) dX11_since_106 rfl (by decide) ?_
      refine S.iret dX11_since_108 rfl ?_
      exfalso; omega
    · refine S.aload_n (pc' := 73) dX11_since_72 rfl rfl rfl ?_
      refine S.getR (pc' := 76) dX11_since_73 rfl fX11_37 L_0 rf_0_5 ?_
      refine S.aload_n (pc' := 77) dX11_since_76 rfl rfl rfl ?_
      refine S.getR (pc' := 80) dX11_since_77 rfl fX11_23 L_0 rf_0_3 ?_
      refine S.aload_n (pc' := 81) dX11_since_80 rfl rfl rfl ?_
      refine S.iload (pc' := 83) dX11_since_81 rfl rfl ?_
      refine S.callVi (pc' := 86) dX11_since_83 rfl cX11_206 (rk_X10_happens (g := g) (pg := aRun g pg vs i.toNat) (vs := vs) vs27 gd18 pl41) rfl (vs_lay vs27) (by decide) rfl (Nat.le_of_ble_eq_true rfl) (fun z83 M83 q83 => ?_)
      obtain ⟨z1, c1, f1⟩ := q83
      rw [← er] at c1
      have hw := c1.1 t ht.1 ht.2
      have hwo := hP2.1 t ht.1 ht.2
      have hg2 := hg.2.1
      refine S.pop (pc' := 87) dX11_since_86 rfl rfl ?_
      refine S.aload_n (pc' := 88) dX11_since_87 rfl rfl rfl ?_
      refine S.getR (pc' := 91) dX11_since_88 rfl fX11_138 (pl_lay pl41) (pl_r0 pl41) ?_
      refine S.iload_n (pc' := 92) dX11_since_91 rfl rfl rfl ?_
      refine S.iald (pc' := 93) dX11_since_92 rfl (pl_a0 pl41) (by omega) (by omega) ?_
      refine S.iload_n (pc' := 94) dX11_since_93 rfl rfl rfl ?_
      refine S.icmp_ne (pc' := 97) (tgt := 100) dX11_since_94 (by decide) rfl (by unfold fp_rng; omega) (by unfold fp_rng; omega) (fun h94 => ?_) (fun h94 => ?_)
      · refine S.iinc (pc' := 103) (LL' := [_, _, _, _, _]) dX11_since_100 rfl (by decide) rfl rfl rfl ?_
        refine S.goto (pc' := 60) dX11_since_103 (by decide) ?_
        rw [hw] at h94; rw [if_neg h94]
        exact ih _ _ (by omega) (by omega) (by omega) (hf.trans f1) c1
      · refine S.iload (pc' := 99) dX11_since_97 rfl rfl ?_
        refine S.iret dX11_since_99 rfl ?_
        rw [hw] at h94; rw [if_pos h94]
        exact ⟨rfl, hcs.scr (hf.trans f1), (hf.trans f1).c (by decide)⟩
theorem cc_since {p t : Int} (hc : CS M tp fl g pg vs nt im sh tn) (ho : OK g pg vs nt im sh) (hp : fp_rng p) (ht : fp_rng t) : fp_Ok l G 4 kX11_since [rV G 0, iV p, iV t] M (qI fun z N => z = A_since g pg vs p t ∧ CS N tp fl g pg vs nt im sh tn ∧ frC M N) := by
  have hcs := hc
  obtain ⟨-, hd, hcl, hv, -⟩ := hc
  obtain ⟨hg, hP, hvo, -⟩ := ho
  have hg1 := hg.1
  have hg2 := hg.2.1
  refine fp_Ok.of (r := 2) rfl (Nat.le_of_ble_eq_true rfl) rfl ?_
  unfold A_since
  by_cases hin : (0 ≤ p ∧ p < 4) ∧ (0 ≤ t ∧ t < g.1)
  · rw [if_neg (fun q => q hin)]
    have hw := hcl.1 t hin.2.1 hin.2.2
    have hwo := hP.1 t hin.2.1 hin.2.2
    by_cases hpt : pg.1 t = p
    · rw [if_pos hpt]
      refine S.iload_n (pc' := 1) dX11_since_0 rfl rfl rfl ?_
      refine S.callSi (pc' := 4) dX11_since_1 rfl cX11_181 (bk_X11_isOne) rfl (by decide) rfl (Nat.le_of_ble_eq_true rfl) (fun z1 M1 q1 => ?_)
      obtain ⟨b1, rfl⟩ := q1
      refine S.if_eq (pc' := 7) (tgt := 18) dX11_since_4 (by decide) rfl (by unfold fp_rng; omega) (fun h4 => ?_) (fun h4 => ?_)
      · exfalso; omega
      · refine S.aload_n (pc' := 8) dX11_since_7 rfl rfl rfl ?_
        refine S.getR (pc' := 11) dX11_since_8 rfl fX11_23 L_0 rf_0_3 ?_
        refine S.iload_n (pc' := 12) dX11_since_11 rfl rfl rfl ?_
        refine S.callVi (pc' := 15) dX11_since_12 rfl cX11_126 (bk_X1_hasThing gd18) rfl (gd_lay gd18) (by decide) rfl (Nat.le_of_ble_eq_true rfl) (fun z12 M12 q12 => ?_)
        obtain ⟨b12, rfl⟩ := q12
        refine S.if_ne (pc' := 18) (tgt := 20) dX11_since_15 (by decide) rfl (by unfold fp_rng; omega) (fun h15 => ?_) (fun h15 => ?_)
        · refine S.aload_n (pc' := 21) dX11_since_20 rfl rfl rfl ?_
          refine S.getR (pc' := 24) dX11_since_21 rfl fX11_30 L_0 rf_0_4 ?_
          refine S.getR (pc' := 27) dX11_since_24 rfl fX11_138 (pl_lay pl22) (pl_r0 pl22) ?_
          refine S.iload_n (pc' := 28) dX11_since_27 rfl rfl rfl ?_
          refine S.iald (pc' := 29) dX11_since_28 rfl (pl_a0 pl22) (by omega) (by omega) ?_
          refine S.iload_n (pc' := 30) dX11_since_29 rfl rfl rfl ?_
          refine S.icmp_ne (pc' := 33) (tgt := 36) dX11_since_30 (by decide) rfl (by unfold fp_rng; omega) (by unfold fp_rng; omega) (fun h30 => ?_) (fun h30 => ?_)
          · exfalso; omega
          · refine S.bipush (pc' := 35) dX11_since_33 rfl (by decide) ?_
            refine S.iret dX11_since_35 rfl ?_
            exact ⟨rfl, hcs, frC.refl _⟩
        · exfalso; omega
    · rw [if_neg hpt]
      refine S.iload_n (pc' := 1) dX11_since_0 rfl rfl rfl ?_
      refine S.callSi (pc' := 4) dX11_since_1 rfl cX11_181 (bk_X11_isOne) rfl (by decide) rfl (Nat.le_of_ble_eq_true rfl) (fun z1 M1 q1 => ?_)
      obtain ⟨b1, rfl⟩ := q1
      refine S.if_eq (pc' := 7) (tgt := 18) dX11_since_4 (by decide) rfl (by unfold fp_rng; omega) (fun h4 => ?_) (fun h4 => ?_)
      · exfalso; omega
      · refine S.aload_n (pc' := 8) dX11_since_7 rfl rfl rfl ?_
        refine S.getR (pc' := 11) dX11_since_8 rfl fX11_23 L_0 rf_0_3 ?_
        refine S.iload_n (pc' := 12) dX11_since_11 rfl rfl rfl ?_
        refine S.callVi (pc' := 15) dX11_since_12 rfl cX11_126 (bk_X1_hasThing gd18) rfl (gd_lay gd18) (by decide) rfl (Nat.le_of_ble_eq_true rfl) (fun z12 M12 q12 => ?_)
        obtain ⟨b12, rfl⟩ := q12
        refine S.if_ne (pc' := 18) (tgt := 20) dX11_since_15 (by decide) rfl (by unfold fp_rng; omega) (fun h15 => ?_) (fun h15 => ?_)
        · refine S.aload_n (pc' := 21) dX11_since_20 rfl rfl rfl ?_
          refine S.getR (pc' := 24) dX11_since_21 rfl fX11_30 L_0 rf_0_4 ?_
          refine S.getR (pc' := 27) dX11_since_24 rfl fX11_138 (pl_lay pl22) (pl_r0 pl22) ?_
          refine S.iload_n (pc' := 28) dX11_since_27 rfl rfl rfl ?_
          refine S.iald (pc' := 29) dX11_since_28 rfl (pl_a0 pl22) (by omega) (by omega) ?_
          refine S.iload_n (pc' := 30) dX11_since_29 rfl rfl rfl ?_
          refine S.icmp_ne (pc' := 33) (tgt := 36) dX11_since_30 (by decide) rfl (by unfold fp_rng; omega) (by unfold fp_rng; omega) (fun h30 => ?_) (fun h30 => ?_)
          · refine S.aload_n (pc' := 37) dX11_since_36 rfl rfl rfl ?_
            refine S.getR (pc' := 40) dX11_since_37 rfl fX11_51 L_0 rf_0_7 ?_
            refine S.aload_n (pc' := 41) dX11_since_40 rfl rfl rfl ?_
            refine S.getR (pc' := 44) dX11_since_41 rfl fX11_23 L_0 rf_0_3 ?_
            refine S.aload_n (pc' := 45) dX11_since_44 rfl rfl rfl ?_
            refine S.getR (pc' := 48) dX11_since_45 rfl fX11_37 L_0 rf_0_5 ?_
            refine S.aload_n (pc' := 49) dX11_since_48 rfl rfl rfl ?_
            refine S.getR (pc' := 52) dX11_since_49 rfl fX11_30 L_0 rf_0_4 ?_
            refine S.iconst (pc' := 53) dX11_since_52 rfl ?_
            refine S.callVr (pc' := 56) dX11_since_53 rfl cX11_214 (rk_X8_behind (g := g) (pg := pg) (vs := vs) gd18 vs27 pl22) rfl L_34 (by decide) rfl (Nat.le_of_ble_eq_true rfl) (fun z53 M53 q53 => ?_)
            obtain ⟨rfl, c1, f1⟩ := q53
            refine S.astore_n (pc' := 57) (LL' := [_, _, _, _, _]) dX11_since_56 rfl (by decide) rfl rfl rfl ?_
            refine S.iconst (pc' := 58) dX11_since_57 rfl ?_
            refine S.istore (pc' := 60) (LL' := [_, _, _, _, _]) dX11_since_58 rfl (by decide) rfl rfl ?_
            exact since_loop hin.1 hin.2 hP hg hvo hv hd hcs vs.length 0 _ (by omega) (by omega) (by omega) f1 c1
          · exfalso; omega
        · exfalso; omega
  · rw [if_pos hin]
    refine S.iload_n (pc' := 1) dX11_since_0 rfl rfl rfl ?_
    refine S.callSi (pc' := 4) dX11_since_1 rfl cX11_181 (bk_X11_isOne) rfl (by decide) rfl (Nat.le_of_ble_eq_true rfl) (fun z1 M1 q1 => ?_)
    obtain ⟨b1, rfl⟩ := q1
    refine S.if_eq (pc' := 7) (tgt := 18) dX11_since_4 (by decide) rfl (by unfold fp_rng; omega) (fun h4 => ?_) (fun h4 => ?_)
    · refine S.iconst (pc' := 19) dX11_since_18 rfl ?_
      refine S.iret dX11_since_19 rfl ?_
      exact ⟨rfl, hcs, frC.refl _⟩
    · refine S.aload_n (pc' := 8) dX11_since_7 rfl rfl rfl ?_
      refine S.getR (pc' := 11) dX11_since_8 rfl fX11_23 L_0 rf_0_3 ?_
      refine S.iload_n (pc' := 12) dX11_since_11 rfl rfl rfl ?_
      refine S.callVi (pc' := 15) dX11_since_12 rfl cX11_126 (bk_X1_hasThing gd18) rfl (gd_lay gd18) (by decide) rfl (Nat.le_of_ble_eq_true rfl) (fun z12 M12 q12 => ?_)
      obtain ⟨b12, rfl⟩ := q12
      refine S.if_ne (pc' := 18) (tgt := 20) dX11_since_15 (by decide) rfl (by unfold fp_rng; omega) (fun h15 => ?_) (fun h15 => ?_)
      · exfalso; omega
      · refine S.iconst (pc' := 19) dX11_since_18 rfl ?_
        refine S.iret dX11_since_19 rfl ?_
        exact ⟨rfl, hcs, frC.refl _⟩
theorem msince_loop {p t : Int} (hp : 0 ≤ p ∧ p < 4) (ht : 0 ≤ t ∧ t < g.1) (ho : OK g pg vs nt im sh) (hcs : MS M tp fl g pg vs nt im sh tn) : ∀ (n : Nat) (i : Int) (N : fp_Mem), ((vs.length : Int) - i).toNat = n → 0 ≤ i → i ≤ vs.length → frT M N → mpIs N 360 g (aRun g pg vs i.toNat) →
    fp_S l G 5 kX12_since 40 [some (rV G 177), some (iV p), some (iV t), some (iV i)] [] N (qI fun z O => z = fp_find (fun i => (aRun g pg vs (i + 1).toNat).1 t) p n i ∧ MS O tp fl g pg vs nt im sh tn ∧ frD M O) := by
  have hcs' := hcs
  obtain ⟨-, hd, hcl, hv, -⟩ := hcs
  have hg := ho.1
  have hP := ho.2.1
  have hvo := ho.2.2.1
  have hv0 : mvIs M vs := hv
  have hl := hv.2.1
  have hg1 := hg.1
  intro n
  induction n with
  | zero =>
    intro i N h i0 i1 hf hc
    have hl1 := (hf.mv hv0).1
    refine S.iload_n (pc' := 41) dX12_since_40 rfl rfl rfl ?_
    refine S.aload_n (pc' := 42) dX12_since_41 rfl rfl rfl ?_
    refine S.callVe (pc' := 45) dX12_since_42 rfl cX12_225 (ok_X12_visits) rfl L_177 (by decide) rfl (Nat.le_of_ble_eq_true rfl) ?_
    refine S.icmp_ge (pc' := 48) (tgt := 79) dX12_since_45 (by decide) rfl (by unfold fp_rng; omega) (by unfold fp_rng; omega) (fun h45 => ?_) (fun h45 => ?_)
    · refine S.bipush (pc' := 81) dX12_since_79 rfl (by decide) ?_
      refine S.iret dX12_since_81 rfl ?_
      exact ⟨rfl, hcs'.tri ho hf, hf.d⟩
    · exfalso; omega
  | succ n ih =>
    intro i N h i0 i1 hf hc
    have er := aRun_succ (g := g) (pg := pg) (vs := vs) i0
    have hPi := aRun_ok hg hP hvo i.toNat
    have hP2 := aRun_ok hg hP hvo (i + 1).toNat
    have hv' := hf.mv hv0
    have hd' := hf.md hd
    have hl1 := hv'.1
    unfold fp_find
    refine S.iload_n (pc' := 41) dX12_since_40 rfl rfl rfl ?_
    refine S.aload_n (pc' := 42) dX12_since_41 rfl rfl rfl ?_
    refine S.callVe (pc' := 45) dX12_since_42 rfl cX12_225 (ok_X12_visits) rfl L_177 (by decide) rfl (Nat.le_of_ble_eq_true rfl) ?_
    refine S.icmp_ge (pc' := 48) (tgt := 79) dX12_since_45 (by decide) rfl (by unfold fp_rng; omega) (by unfold fp_rng; omega) (fun h45 => ?_) (fun h45 => ?_)
    · refine S.bipush (pc' := 81) dX12_since_79 rfl (by decide) ?_
      refine S.iret dX12_since_81 rfl ?_
      exfalso; omega
    · refine S.aload_n (pc' := 49) dX12_since_48 rfl rfl rfl ?_
      refine S.sipush (pc' := 52) dX12_since_49 rfl (by decide) ?_
      refine S.iload_n (pc' := 53) dX12_since_52 rfl rfl rfl ?_
      refine S.callVi (pc' := 56) dX12_since_53 rfl cX12_261 (rk_X12_happens (g := g) (pg := aRun g pg vs i.toNat) (vs := vs)) rfl L_177 (by decide) rfl (Nat.le_of_ble_eq_true rfl) (fun z53 M53 q53 => ?_)
      obtain ⟨z1, c1, f1⟩ := q53
      rw [← er] at c1
      have hw := c1.1 t ht.1 ht.2
      have hwo := hP2.1 t ht.1 ht.2
      have hg2 := hg.2.1
      refine S.pop (pc' := 57) dX12_since_56 rfl rfl ?_
      refine S.aload_n (pc' := 58) dX12_since_57 rfl rfl rfl ?_
      refine S.getR (pc' := 61) dX12_since_58 rfl fX12_7 L_177 rf_177_0 ?_
      refine S.sipush (pc' := 64) dX12_since_61 rfl (by decide) ?_
      refine S.iload_n (pc' := 65) dX12_since_64 rfl rfl rfl ?_
      refine S.iadd (pc' := 66) dX12_since_65 rfl ?_
      refine S.iald (pc' := 67) dX12_since_66 rfl L_178 (by omega) (by omega) ?_
      refine S.iload_n (pc' := 68) dX12_since_67 rfl rfl rfl ?_
      refine S.icmp_ne (pc' := 71) (tgt := 73) dX12_since_68 (by decide) rfl (by unfold fp_rng; omega) (by unfold fp_rng; omega) (fun h68 => ?_) (fun h68 => ?_)
      · refine S.iinc (pc' := 76) (LL' := [_, _, _, _]) dX12_since_73 rfl (by decide) rfl rfl rfl ?_
        refine S.goto (pc' := 40) dX12_since_76 (by decide) ?_
        rw [hw] at h68; rw [if_neg h68]
        exact ih _ _ (by omega) (by omega) (by omega) (hf.trans f1.toT) c1
      · refine S.iload_n (pc' := 72) dX12_since_71 rfl rfl rfl ?_
        refine S.iret dX12_since_72 rfl ?_
        rw [hw] at h68; rw [if_pos h68]
        exact ⟨rfl, hcs'.tri ho (hf.trans f1.toT), (hf.trans f1.toT).d⟩
theorem mm_since {p t : Int} (hc : MS M tp fl g pg vs nt im sh tn) (ho : OK g pg vs nt im sh) (hp : fp_rng p) (ht : fp_rng t) : fp_Ok l G 5 kX12_since [rV G 177, iV p, iV t] M (qI fun z N => z = A_since g pg vs p t ∧ MS N tp fl g pg vs nt im sh tn ∧ frD M N) := by
  have hcs := hc
  obtain ⟨-, hd, hcl, hv, -⟩ := hc
  have hg := ho.1
  have hP := ho.2.1
  have hg1 := hg.1
  have hg2 := hg.2.1
  refine fp_Ok.of (r := 1) rfl (Nat.le_of_ble_eq_true rfl) rfl ?_
  unfold A_since
  by_cases hin : (0 ≤ p ∧ p < 4) ∧ (0 ≤ t ∧ t < g.1)
  · rw [if_neg (fun q => q hin)]
    have hw := hcl.1 t hin.2.1 hin.2.2
    rw [Int.zero_add] at hw
    have hwo := hP.1 t hin.2.1 hin.2.2
    by_cases hpt : pg.1 t = p
    · rw [if_pos hpt]
      refine S.iload_n (pc' := 1) dX12_since_0 rfl rfl rfl ?_
      refine S.callSi (pc' := 4) dX12_since_1 rfl cX12_228 (bk_X12_isOne) rfl (by decide) rfl (Nat.le_of_ble_eq_true rfl) (fun z1 M1 q1 => ?_)
      obtain ⟨b1, rfl⟩ := q1
      refine S.if_eq (pc' := 7) (tgt := 15) dX12_since_4 (by decide) rfl (by unfold fp_rng; omega) (fun h4 => ?_) (fun h4 => ?_)
      · exfalso; omega
      · refine S.aload_n (pc' := 8) dX12_since_7 rfl rfl rfl ?_
        refine S.iload_n (pc' := 9) dX12_since_8 rfl rfl rfl ?_
        refine S.callVi (pc' := 12) dX12_since_9 rfl cX12_205 (bk_X12_isThing) rfl L_177 (by decide) rfl (Nat.le_of_ble_eq_true rfl) (fun z9 M9 q9 => ?_)
        obtain ⟨b9, rfl⟩ := q9
        refine S.if_ne (pc' := 15) (tgt := 17) dX12_since_12 (by decide) rfl (by unfold fp_rng; omega) (fun h12 => ?_) (fun h12 => ?_)
        · refine S.aload_n (pc' := 18) dX12_since_17 rfl rfl rfl ?_
          refine S.getR (pc' := 21) dX12_since_18 rfl fX12_7 L_177 rf_177_0 ?_
          refine S.iload_n (pc' := 22) dX12_since_21 rfl rfl rfl ?_
          refine S.iald (pc' := 23) dX12_since_22 rfl L_178 (by omega) (by omega) ?_
          refine S.iload_n (pc' := 24) dX12_since_23 rfl rfl rfl ?_
          refine S.icmp_ne (pc' := 27) (tgt := 30) dX12_since_24 (by decide) rfl (by unfold fp_rng; omega) (by unfold fp_rng; omega) (fun h24 => ?_) (fun h24 => ?_)
          · exfalso; omega
          · refine S.bipush (pc' := 29) dX12_since_27 rfl (by decide) ?_
            refine S.iret dX12_since_29 rfl ?_
            exact ⟨rfl, hcs, frD.refl _⟩
        · exfalso; omega
    · rw [if_neg hpt]
      refine S.iload_n (pc' := 1) dX12_since_0 rfl rfl rfl ?_
      refine S.callSi (pc' := 4) dX12_since_1 rfl cX12_228 (bk_X12_isOne) rfl (by decide) rfl (Nat.le_of_ble_eq_true rfl) (fun z1 M1 q1 => ?_)
      obtain ⟨b1, rfl⟩ := q1
      refine S.if_eq (pc' := 7) (tgt := 15) dX12_since_4 (by decide) rfl (by unfold fp_rng; omega) (fun h4 => ?_) (fun h4 => ?_)
      · exfalso; omega
      · refine S.aload_n (pc' := 8) dX12_since_7 rfl rfl rfl ?_
        refine S.iload_n (pc' := 9) dX12_since_8 rfl rfl rfl ?_
        refine S.callVi (pc' := 12) dX12_since_9 rfl cX12_205 (bk_X12_isThing) rfl L_177 (by decide) rfl (Nat.le_of_ble_eq_true rfl) (fun z9 M9 q9 => ?_)
        obtain ⟨b9, rfl⟩ := q9
        refine S.if_ne (pc' := 15) (tgt := 17) dX12_since_12 (by decide) rfl (by unfold fp_rng; omega) (fun h12 => ?_) (fun h12 => ?_)
        · refine S.aload_n (pc' := 18) dX12_since_17 rfl rfl rfl ?_
          refine S.getR (pc' := 21) dX12_since_18 rfl fX12_7 L_177 rf_177_0 ?_
          refine S.iload_n (pc' := 22) dX12_since_21 rfl rfl rfl ?_
          refine S.iald (pc' := 23) dX12_since_22 rfl L_178 (by omega) (by omega) ?_
          refine S.iload_n (pc' := 24) dX12_since_23 rfl rfl rfl ?_
          refine S.icmp_ne (pc' := 27) (tgt := 30) dX12_since_24 (by decide) rfl (by unfold fp_rng; omega) (by unfold fp_rng; omega) (fun h24 => ?_) (fun h24 => ?_)
          · refine S.aload_n (pc' := 31) dX12_since_30 rfl rfl rfl ?_
            refine S.iconst (pc' := 32) dX12_since_31 rfl ?_
            refine S.sipush (pc' := 35) dX12_since_32 rfl (by decide) ?_
            refine S.callVv (pc' := 38) dX12_since_35 rfl cX12_265 (rk_X12_copies (g := g) (pg := pg)) rfl L_177 (by decide) rfl (Nat.le_of_ble_eq_true rfl) (fun M35 q35 => ?_)
            refine S.iconst (pc' := 39) dX12_since_38 rfl ?_
            refine S.istore_n (pc' := 40) (LL' := [_, _, _, _]) dX12_since_39 rfl (by decide) rfl rfl rfl ?_
            exact msince_loop hin.1 hin.2 ho hcs vs.length 0 _ (by omega) (by omega) (by omega) q35.2 q35.1
          · exfalso; omega
        · exfalso; omega
  · rw [if_pos hin]
    refine S.iload_n (pc' := 1) dX12_since_0 rfl rfl rfl ?_
    refine S.callSi (pc' := 4) dX12_since_1 rfl cX12_228 (bk_X12_isOne) rfl (by decide) rfl (Nat.le_of_ble_eq_true rfl) (fun z1 M1 q1 => ?_)
    obtain ⟨b1, rfl⟩ := q1
    refine S.if_eq (pc' := 7) (tgt := 15) dX12_since_4 (by decide) rfl (by unfold fp_rng; omega) (fun h4 => ?_) (fun h4 => ?_)
    · refine S.iconst (pc' := 16) dX12_since_15 rfl ?_
      refine S.iret dX12_since_16 rfl ?_
      exact ⟨rfl, hcs, frD.refl _⟩
    · refine S.aload_n (pc' := 8) dX12_since_7 rfl rfl rfl ?_
      refine S.iload_n (pc' := 9) dX12_since_8 rfl rfl rfl ?_
      refine S.callVi (pc' := 12) dX12_since_9 rfl cX12_205 (bk_X12_isThing) rfl L_177 (by decide) rfl (Nat.le_of_ble_eq_true rfl) (fun z9 M9 q9 => ?_)
      obtain ⟨b9, rfl⟩ := q9
      refine S.if_ne (pc' := 15) (tgt := 17) dX12_since_12 (by decide) rfl (by unfold fp_rng; omega) (fun h12 => ?_) (fun h12 => ?_)
      · exfalso; omega
      · refine S.iconst (pc' := 16) dX12_since_15 rfl ?_
        refine S.iret dX12_since_16 rfl ?_
        exact ⟨rfl, hcs, frD.refl _⟩
theorem extra_loop {p x w : Int} (hp : 0 ≤ p ∧ p < 4) (hx : 0 ≤ x ∧ x < g.2.1) (hw : 0 ≤ w ∧ w ≤ 1) (hP : pgOk g pg) (hg : gOk g) (hvo : vsOk g vs) (hv : vsIs M 27 vs) (hd : gdIs M 18 g) (hcs : CS M tp fl g pg vs nt im sh tn) : ∀ (n : Nat) (i : Int) (N : fp_Mem) (o8 : Option Value), ((vs.length : Int) + 1 - i).toNat < n → 0 ≤ i → i ≤ vs.length + 1 → frP M N 41 → (i ≤ vs.length → clIs N 41 g (aRun g pg vs i.toNat)) →
    fp_S l G 4 kX11_extra 61 [some (rV G 0), some (iV p), some (iV x), some (iV w), some (rV G 41), some (iV (aEx g pg vs p x i.toNat).1), some (iV (aEx g pg vs p x i.toNat).2), some (iV i), o8] [] N (qI fun z O => z = (if w = 0 then (aEx g pg vs p x (vs.length + 1)).1 else (aEx g pg vs p x (vs.length + 1)).2) ∧ CS O tp fl g pg vs nt im sh tn ∧ frC M O) := by
  have hl := hv.2.1
  have hg1 := hg.1
  have hg2 := hg.2.1
  intro n
  induction n with
  | zero => intro i N o8 h; omega
  | succ n ih =>
    intro i N o8 h i0 i1 hf hc
    have er := aRun_succ (g := g) (pg := pg) (vs := vs) i0
    have es := aEx_succ (g := g) (pg := pg) (vs := vs) (p := p) (x := x) i0
    have hb := aEx_in hg hP hvo hp hx i.toNat
    have hPi := aRun_ok hg hP hvo i.toNat
    have hv' := hf.vs pl41 vs27 hv
    have hd' := hf.gd pl41 gd18 hd
    have hl1 := hv'.1
    by_cases hle : i ≤ vs.length
    · have hc := hc hle
      have hq := aGv_in hPi hg hx
      have fin : ∀ (a b : Int) (o8 : Option Value), (a, b) = aEx g pg vs p x (i + 1).toNat → fp_S l G 4 kX11_extra 123 [some (rV G 0), some (iV p), some (iV x), some (iV w), some (rV G 41), some (iV a), some (iV b), some (iV i), o8] [] N (qI fun z O => z = (if w = 0 then (aEx g pg vs p x (vs.length + 1)).1 else (aEx g pg vs p x (vs.length + 1)).2) ∧ CS O tp fl g pg vs nt im sh tn ∧ frC M O) := by
        intro a b o8 hab
        have ha : a = (aEx g pg vs p x (i + 1).toNat).1 := by rw [← hab]
        have hb9 : b = (aEx g pg vs p x (i + 1).toNat).2 := by rw [← hab]
        subst ha
        subst hb9
        refine S.aload_n (pc' := 124) dX11_extra_123 rfl rfl rfl ?_
        refine S.getR (pc' := 127) dX11_extra_124 rfl fX11_37 L_0 rf_0_5 ?_
        refine S.aload_n (pc' := 128) dX11_extra_127 rfl rfl rfl ?_
        refine S.getR (pc' := 131) dX11_extra_128 rfl fX11_23 L_0 rf_0_3 ?_
        refine S.aload (pc' := 133) dX11_extra_131 rfl rfl ?_
        refine S.iload (pc' := 135) dX11_extra_133 rfl rfl ?_
        refine S.callVi (pc' := 138) dX11_extra_135 rfl cX11_206 (rk_X10_happens (g := g) (pg := aRun g pg vs i.toNat) (vs := vs) vs27 gd18 pl41) rfl (vs_lay vs27) (by decide) rfl (Nat.le_of_ble_eq_true rfl) (fun z135 M135 q135 => ?_)
        obtain ⟨z1, c1, f1⟩ := q135
        rw [← er] at c1
        refine S.pop (pc' := 139) dX11_extra_138 rfl rfl ?_
        refine S.iinc (pc' := 142) (LL' := [_, _, _, _, _, _, _, _, _]) dX11_extra_139 rfl (by decide) rfl rfl rfl ?_
        refine S.goto (pc' := 61) dX11_extra_142 (by decide) ?_
        exact ih _ _ _ (by omega) (by omega) (by omega) (hf.trans f1) (fun _ => c1)
      rcases hq with hq | hq
      · refine S.iload (pc' := 63) dX11_extra_61 rfl rfl ?_
        refine S.aload_n (pc' := 64) dX11_extra_63 rfl rfl rfl ?_
        refine S.getR (pc' := 67) dX11_extra_64 rfl fX11_37 L_0 rf_0_5 ?_
        refine S.getI (pc' := 70) dX11_extra_67 rfl fX11_205 (vs_lay vs27) ?_
        refine S.icmp_gt (pc' := 73) (tgt := 145) dX11_extra_70 (by decide) rfl (by unfold fp_rng; omega) (by unfold fp_rng; omega) (fun h70 => ?_) (fun h70 => ?_)
        · exfalso; omega
        · refine S.aload (pc' := 75) dX11_extra_73 rfl rfl ?_
          refine S.aload_n (pc' := 76) dX11_extra_75 rfl rfl rfl ?_
          refine S.getR (pc' := 79) dX11_extra_76 rfl fX11_23 L_0 rf_0_3 ?_
          refine S.iload_n (pc' := 80) dX11_extra_79 rfl rfl rfl ?_
          refine S.callVe (pc' := 83) dX11_extra_80 rfl cX11_159 (rk_X5_gives (g := g) (pg := aRun g pg vs i.toNat) pl41 gd18) rfl (pl_lay pl41) (by decide) rfl (Nat.le_of_ble_eq_true rfl) ?_
          refine S.istore (pc' := 85) (LL' := [_, _, _, _, _, _, _, _, _]) dX11_extra_83 rfl (by decide) rfl rfl ?_
          refine S.iload (pc' := 87) dX11_extra_85 rfl rfl ?_
          refine S.bipush (pc' := 89) dX11_extra_87 rfl (by decide) ?_
          refine S.icmp_eq (pc' := 92) (tgt := 123) dX11_extra_89 (by decide) rfl (by unfold fp_rng; omega) (by unfold fp_rng; omega) (fun h89 => ?_) (fun h89 => ?_)
          · exact fin _ _ _ (by rw [es, if_neg (fun q => q.1 hq.2)])
          · exfalso; omega
      · have hvl := hd'.2.2.2.2.2.1 (aGv g (aRun g pg vs i.toNat) x) p hq.2.1 hq.2.2 hp.1 hp.2
        have hvr := hg.2.2.2.2.1 (aGv g (aRun g pg vs i.toNat) x) p hq.2.1 hq.2.2 hp.1 hp.2
        refine S.iload (pc' := 63) dX11_extra_61 rfl rfl ?_
        refine S.aload_n (pc' := 64) dX11_extra_63 rfl rfl rfl ?_
        refine S.getR (pc' := 67) dX11_extra_64 rfl fX11_37 L_0 rf_0_5 ?_
        refine S.getI (pc' := 70) dX11_extra_67 rfl fX11_205 (vs_lay vs27) ?_
        refine S.icmp_gt (pc' := 73) (tgt := 145) dX11_extra_70 (by decide) rfl (by unfold fp_rng; omega) (by unfold fp_rng; omega) (fun h70 => ?_) (fun h70 => ?_)
        · exfalso; omega
        · refine S.aload (pc' := 75) dX11_extra_73 rfl rfl ?_
          refine S.aload_n (pc' := 76) dX11_extra_75 rfl rfl rfl ?_
          refine S.getR (pc' := 79) dX11_extra_76 rfl fX11_23 L_0 rf_0_3 ?_
          refine S.iload_n (pc' := 80) dX11_extra_79 rfl rfl rfl ?_
          refine S.callVe (pc' := 83) dX11_extra_80 rfl cX11_159 (rk_X5_gives (g := g) (pg := aRun g pg vs i.toNat) pl41 gd18) rfl (pl_lay pl41) (by decide) rfl (Nat.le_of_ble_eq_true rfl) ?_
          refine S.istore (pc' := 85) (LL' := [_, _, _, _, _, _, _, _, _]) dX11_extra_83 rfl (by decide) rfl rfl ?_
          refine S.iload (pc' := 87) dX11_extra_85 rfl rfl ?_
          refine S.bipush (pc' := 89) dX11_extra_87 rfl (by decide) ?_
          refine S.icmp_eq (pc' := 92) (tgt := 123) dX11_extra_89 (by decide) rfl (by unfold fp_rng; omega) (by unfold fp_rng; omega) (fun h89 => ?_) (fun h89 => ?_)
          · first | (exfalso; omega) | exact fin _ _ _ (by rw [es, if_pos ⟨by omega, by omega⟩]) | exact fin _ _ _ (by rw [es, if_neg (fun q => by have := q.2; omega)])
          · refine S.aload_n (pc' := 93) dX11_extra_92 rfl rfl rfl ?_
            refine S.getR (pc' := 96) dX11_extra_93 rfl fX11_23 L_0 rf_0_3 ?_
            refine S.iload_n (pc' := 97) dX11_extra_96 rfl rfl rfl ?_
            refine S.iload (pc' := 99) dX11_extra_97 rfl rfl ?_
            refine S.callVe (pc' := 102) dX11_extra_99 rfl cX11_130 (ok_X1_valueTo gd18) rfl (gd_lay gd18) (by decide) rfl (Nat.le_of_ble_eq_true rfl) ?_
            rw [hvl]
            refine S.iload (pc' := 104) dX11_extra_102 rfl rfl ?_
            refine S.icmp_le (pc' := 107) (tgt := 123) dX11_extra_104 (by decide) rfl (by unfold fp_rng; omega) (by unfold fp_rng; omega) (fun h104 => ?_) (fun h104 => ?_)
            · first | (exfalso; omega) | exact fin _ _ _ (by rw [es, if_pos ⟨by omega, by omega⟩]) | exact fin _ _ _ (by rw [es, if_neg (fun q => by have := q.2; omega)])
            · refine S.aload_n (pc' := 108) dX11_extra_107 rfl rfl rfl ?_
              refine S.getR (pc' := 111) dX11_extra_108 rfl fX11_23 L_0 rf_0_3 ?_
              refine S.iload_n (pc' := 112) dX11_extra_111 rfl rfl rfl ?_
              refine S.iload (pc' := 114) dX11_extra_112 rfl rfl ?_
              refine S.callVe (pc' := 117) dX11_extra_114 rfl cX11_130 (ok_X1_valueTo gd18) rfl (gd_lay gd18) (by decide) rfl (Nat.le_of_ble_eq_true rfl) ?_
              rw [hvl]
              refine S.istore (pc' := 119) (LL' := [_, _, _, _, _, _, _, _, _]) dX11_extra_117 rfl (by decide) rfl rfl ?_
              refine S.iload (pc' := 121) dX11_extra_119 rfl rfl ?_
              refine S.istore (pc' := 123) (LL' := [_, _, _, _, _, _, _, _, _]) dX11_extra_121 rfl (by decide) rfl rfl ?_
              first | (exfalso; omega) | exact fin _ _ _ (by rw [es, if_pos ⟨by omega, by omega⟩]) | exact fin _ _ _ (by rw [es, if_neg (fun q => by have := q.2; omega)])
    · have ei : i = (vs.length : Int) + 1 := by omega
      have en : i.toNat = vs.length + 1 := by omega
      rw [en]
      refine S.iload (pc' := 63) dX11_extra_61 rfl rfl ?_
      refine S.aload_n (pc' := 64) dX11_extra_63 rfl rfl rfl ?_
      refine S.getR (pc' := 67) dX11_extra_64 rfl fX11_37 L_0 rf_0_5 ?_
      refine S.getI (pc' := 70) dX11_extra_67 rfl fX11_205 (vs_lay vs27) ?_
      refine S.icmp_gt (pc' := 73) (tgt := 145) dX11_extra_70 (by decide) rfl (by unfold fp_rng; omega) (by unfold fp_rng; omega) (fun h70 => ?_) (fun h70 => ?_)
      · refine S.iload_n (pc' := 146) dX11_extra_145 rfl rfl rfl ?_
        refine S.if_ne (pc' := 149) (tgt := 154) dX11_extra_146 (by decide) rfl (by unfold fp_rng; omega) (fun h146 => ?_) (fun h146 => ?_)
        · refine S.iload (pc' := 156) dX11_extra_154 rfl rfl ?_
          refine S.iret dX11_extra_156 rfl ?_
          refine ⟨?_, hcs.scr hf, hf.c (by decide)⟩
          (repeat' split) <;> first | rfl | omega
        · refine S.iload (pc' := 151) dX11_extra_149 rfl rfl ?_
          refine S.goto (pc' := 156) dX11_extra_151 (by decide) ?_
          refine S.iret dX11_extra_156 rfl ?_
          refine ⟨?_, hcs.scr hf, hf.c (by decide)⟩
          (repeat' split) <;> first | rfl | omega
      · exfalso; omega
theorem cc_extra {p x w : Int} (hc : CS M tp fl g pg vs nt im sh tn) (ho : OK g pg vs nt im sh) (hp : fp_rng p) (hx : fp_rng x) (hw : fp_rng w) : fp_Ok l G 4 kX11_extra [rV G 0, iV p, iV x, iV w] M (qI fun z N => z = A_extra g pg vs p x w ∧ CS N tp fl g pg vs nt im sh tn ∧ frC M N) := by
  have hcs := hc
  obtain ⟨-, hd, hcl, hv, -⟩ := hc
  obtain ⟨hg, hP, hvo, -⟩ := ho
  refine fp_Ok.of (r := 5) rfl (Nat.le_of_ble_eq_true rfl) rfl ?_
  unfold A_extra
  by_cases hin : (0 ≤ p ∧ p < 4) ∧ (0 ≤ x ∧ x < g.2.1) ∧ (0 ≤ w ∧ w ≤ 1)
  · rw [if_neg (fun q => q hin)]
    refine S.iload_n (pc' := 1) dX11_extra_0 rfl rfl rfl ?_
    refine S.callSi (pc' := 4) dX11_extra_1 rfl cX11_181 (bk_X11_isOne) rfl (by decide) rfl (Nat.le_of_ble_eq_true rfl) (fun z1 M1 q1 => ?_)
    obtain ⟨b1, rfl⟩ := q1
    refine S.if_eq (pc' := 7) (tgt := 26) dX11_extra_4 (by decide) rfl (by unfold fp_rng; omega) (fun h4 => ?_) (fun h4 => ?_)
    · exfalso; omega
    · refine S.aload_n (pc' := 8) dX11_extra_7 rfl rfl rfl ?_
      refine S.getR (pc' := 11) dX11_extra_8 rfl fX11_23 L_0 rf_0_3 ?_
      refine S.iload_n (pc' := 12) dX11_extra_11 rfl rfl rfl ?_
      refine S.callVi (pc' := 15) dX11_extra_12 rfl cX11_148 (bk_X1_hasLine gd18) rfl (gd_lay gd18) (by decide) rfl (Nat.le_of_ble_eq_true rfl) (fun z12 M12 q12 => ?_)
      obtain ⟨b12, rfl⟩ := q12
      refine S.if_eq (pc' := 18) (tgt := 26) dX11_extra_15 (by decide) rfl (by unfold fp_rng; omega) (fun h15 => ?_) (fun h15 => ?_)
      · exfalso; omega
      · refine S.iload_n (pc' := 19) dX11_extra_18 rfl rfl rfl ?_
        refine S.iconst (pc' := 20) dX11_extra_19 rfl ?_
        refine S.callSi (pc' := 23) dX11_extra_20 rfl cX11_221 (bk_X11_isWithin) rfl (by decide) rfl (Nat.le_of_ble_eq_true rfl) (fun z20 M20 q20 => ?_)
        obtain ⟨b20, rfl⟩ := q20
        refine S.if_ne (pc' := 26) (tgt := 28) dX11_extra_23 (by decide) rfl (by unfold fp_rng; omega) (fun h23 => ?_) (fun h23 => ?_)
        · refine S.aload_n (pc' := 29) dX11_extra_28 rfl rfl rfl ?_
          refine S.getR (pc' := 32) dX11_extra_29 rfl fX11_51 L_0 rf_0_7 ?_
          refine S.aload_n (pc' := 33) dX11_extra_32 rfl rfl rfl ?_
          refine S.getR (pc' := 36) dX11_extra_33 rfl fX11_23 L_0 rf_0_3 ?_
          refine S.aload_n (pc' := 37) dX11_extra_36 rfl rfl rfl ?_
          refine S.getR (pc' := 40) dX11_extra_37 rfl fX11_37 L_0 rf_0_5 ?_
          refine S.aload_n (pc' := 41) dX11_extra_40 rfl rfl rfl ?_
          refine S.getR (pc' := 44) dX11_extra_41 rfl fX11_30 L_0 rf_0_4 ?_
          refine S.iconst (pc' := 45) dX11_extra_44 rfl ?_
          refine S.callVr (pc' := 48) dX11_extra_45 rfl cX11_214 (rk_X8_behind (g := g) (pg := pg) (vs := vs) gd18 vs27 pl22) rfl L_34 (by decide) rfl (Nat.le_of_ble_eq_true rfl) (fun z45 M45 q45 => ?_)
          obtain ⟨rfl, c1, f1⟩ := q45
          refine S.astore (pc' := 50) (LL' := [_, _, _, _, _, _, _, _, _]) dX11_extra_48 rfl (by decide) rfl rfl ?_
          refine S.bipush (pc' := 52) dX11_extra_50 rfl (by decide) ?_
          refine S.istore (pc' := 54) (LL' := [_, _, _, _, _, _, _, _, _]) dX11_extra_52 rfl (by decide) rfl rfl ?_
          refine S.bipush (pc' := 56) dX11_extra_54 rfl (by decide) ?_
          refine S.istore (pc' := 58) (LL' := [_, _, _, _, _, _, _, _, _]) dX11_extra_56 rfl (by decide) rfl rfl ?_
          refine S.iconst (pc' := 59) dX11_extra_58 rfl ?_
          refine S.istore (pc' := 61) (LL' := [_, _, _, _, _, _, _, _, _]) dX11_extra_59 rfl (by decide) rfl rfl ?_
          exact extra_loop hin.1 hin.2.1 hin.2.2 hP hg hvo hv hd hcs (vs.length + 2) 0 _ _ (by omega) (by omega) (by omega) f1 (fun _ => c1)
        · exfalso; omega
  · rw [if_pos hin]
    refine S.iload_n (pc' := 1) dX11_extra_0 rfl rfl rfl ?_
    refine S.callSi (pc' := 4) dX11_extra_1 rfl cX11_181 (bk_X11_isOne) rfl (by decide) rfl (Nat.le_of_ble_eq_true rfl) (fun z1 M1 q1 => ?_)
    obtain ⟨b1, rfl⟩ := q1
    refine S.if_eq (pc' := 7) (tgt := 26) dX11_extra_4 (by decide) rfl (by unfold fp_rng; omega) (fun h4 => ?_) (fun h4 => ?_)
    · refine S.iconst (pc' := 27) dX11_extra_26 rfl ?_
      refine S.iret dX11_extra_27 rfl ?_
      exact ⟨rfl, hcs, frC.refl _⟩
    · refine S.aload_n (pc' := 8) dX11_extra_7 rfl rfl rfl ?_
      refine S.getR (pc' := 11) dX11_extra_8 rfl fX11_23 L_0 rf_0_3 ?_
      refine S.iload_n (pc' := 12) dX11_extra_11 rfl rfl rfl ?_
      refine S.callVi (pc' := 15) dX11_extra_12 rfl cX11_148 (bk_X1_hasLine gd18) rfl (gd_lay gd18) (by decide) rfl (Nat.le_of_ble_eq_true rfl) (fun z12 M12 q12 => ?_)
      obtain ⟨b12, rfl⟩ := q12
      refine S.if_eq (pc' := 18) (tgt := 26) dX11_extra_15 (by decide) rfl (by unfold fp_rng; omega) (fun h15 => ?_) (fun h15 => ?_)
      · refine S.iconst (pc' := 27) dX11_extra_26 rfl ?_
        refine S.iret dX11_extra_27 rfl ?_
        exact ⟨rfl, hcs, frC.refl _⟩
      · refine S.iload_n (pc' := 19) dX11_extra_18 rfl rfl rfl ?_
        refine S.iconst (pc' := 20) dX11_extra_19 rfl ?_
        refine S.callSi (pc' := 23) dX11_extra_20 rfl cX11_221 (bk_X11_isWithin) rfl (by decide) rfl (Nat.le_of_ble_eq_true rfl) (fun z20 M20 q20 => ?_)
        obtain ⟨b20, rfl⟩ := q20
        refine S.if_ne (pc' := 26) (tgt := 28) dX11_extra_23 (by decide) rfl (by unfold fp_rng; omega) (fun h23 => ?_) (fun h23 => ?_)
        · exfalso; omega
        · refine S.iconst (pc' := 27) dX11_extra_26 rfl ?_
          refine S.iret dX11_extra_27 rfl ?_
          exact ⟨rfl, hcs, frC.refl _⟩
end MOE
