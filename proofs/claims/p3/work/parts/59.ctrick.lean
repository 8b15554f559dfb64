/-! TRICK, the class -/
def frK (M N : fp_Mem) : Prop := ∀ a, (a < 37 ∨ (37 < a ∧ a < 41) ∨ (45 < a ∧ a < 106) ∨ 120 < a) → N a = M a
theorem frK.refl (M : fp_Mem) : frK M M := fun _ _ => rfl
theorem frK.trans {M N O : fp_Mem} (h1 : frK M N) (h2 : frK N O) : frK M O := fun a ha => (h2 a ha).trans (h1 a ha)
theorem frK.c {M N : fp_Mem} (h : frK M N) : frC M N := fun c hc => h c (by omega)
def tkIs (N : fp_Mem) (g : aGd) (pg : aPg) (vs : List aVt) (p r i : Int) (q : Nat) : Prop := ∀ x : Int, 0 ≤ x → x < g.2.1 → N 37 x.toNat = (aApp (aRun g pg vs i.toNat) p r x).1 ∧ ((aApp (aRun g pg vs i.toNat) p r x).1 ≠ 0 → clIs N (106 + 5 * x.toNat) g (aTk g pg vs p r i x q))
section CTR
variable {l : Launch} {G : fp_WG} {M N : fp_Mem} {tp tp' : List Int} {fl fl' : Int} {g : aGd} {pg pg' : aPg} {vs vs' : List aVt} {nt nt' : List Int} {im im' : aIm} {sh sh' : aSh} {tn tn' : Int} {k k2 : Nat}
theorem CS.trk (h : CS M tp fl g pg vs nt im sh tn) (e : frK M N) : CS N tp fl g pg vs nt im sh tn := h.kept (fun a ha => e a (by omega))
theorem ctry_loop {p r i : Int} (hp : 0 ≤ p ∧ p < 4) (hr : 0 ≤ r ∧ r < g.1) (hpr : pg.1 r = p) (hP : pgOk g pg) (hg : gOk g) (hvo : vsOk g vs) (hd : gdIs M 18 g) (hcl : clIs M 22 g pg) : ∀ (n : Nat) (x : Int) (N : fp_Mem), (g.2.1 - x).toNat < n → 0 ≤ x → x ≤ g.2.1 → frK M N → clIs N 41 g (aRun g pg vs i.toNat) → (∀ y : Int, 0 ≤ y → y < x → N 37 y.toNat = (aApp (aRun g pg vs i.toNat) p r y).1 ∧ clIs N (106 + 5 * y.toNat) g (aTk g pg vs p r i y 0)) →
    fp_S l G 4 kX8_tryTrick 14 [some (rV G 34), some (rV G 18), some (rV G 27), some (rV G 22), some (iV i), some (iV r), some (rV G 41), some (iV x)] [] N (qV fun O => tkIs O g pg vs p r i 0 ∧ frK M O) := by
  have hg1 := hg.1
  have hg2 := hg.2.1
  have hPi := aRun_ok hg hP hvo i.toNat
  intro n
  induction n with
  | zero => intro x N h; omega
  | succ n ih =>
    intro x N h x0 x1 hf hc hy
    have hd1 : N 18 1 = g.2.1 := by rw [hf 18 (by omega)]; exact hd.2.1
    have h01 := aApp_01 (aRun g pg vs i.toNat) p r x
    by_cases hlt : x < g.2.1
    · have ho1 := trk_o x0 (show x < 3 by omega)
      have hwr : ∀ O : fp_Mem, O 23 = M 23 → O 23 r.toNat = p := fun O e => by rw [e, ← hpr]; exact hcl.1 r hr.1 hr.2
      refine S.iload (pc' := 16) dX8_tryTrick_14 rfl rfl ?_
      refine S.aload_n (pc' := 17) dX8_tryTrick_16 rfl rfl rfl ?_
      refine S.getI (pc' := 20) dX8_tryTrick_17 rfl fX8_50 (gd_lay gd18) ?_
      refine S.icmp_ge (pc' := 23) (tgt := 69) dX8_tryTrick_20 (by decide) rfl (by unfold fp_rng; omega) (by unfold fp_rng; omega) (fun h20 => ?_) (fun h20 => ?_)
      · exfalso; omega
      · refine S.aload_n (pc' := 24) dX8_tryTrick_23 rfl rfl rfl ?_
        refine S.getR (pc' := 27) dX8_tryTrick_24 rfl fX8_17 L_34 rf_34_1 ?_
        refine S.iload (pc' := 29) dX8_tryTrick_27 rfl rfl ?_
        refine S.aald (pc' := 30) dX8_tryTrick_29 rfl L_36 (by decide) (by decide) (by omega) (by omega) (trk_r (by omega) (by omega)) ?_
        refine S.aload (pc' := 32) dX8_tryTrick_30 rfl rfl ?_
        refine S.callVv (pc' := 35) dX8_tryTrick_32 rfl cX8_36 (rk_X5_copyFrom (g := g) (pg := aRun g pg vs i.toNat) ho1 pl41 (by omega)) rfl (pl_lay (trk_o (by omega) (by omega))) (by decide) rfl (Nat.le_of_ble_eq_true rfl) (fun M32 q32 => ?_)
        obtain ⟨c1, f1⟩ := q32
        refine S.aload_n (pc' := 36) dX8_tryTrick_35 rfl rfl rfl ?_
        refine S.getR (pc' := 39) dX8_tryTrick_36 rfl fX8_20 L_34 rf_34_2 ?_
        refine S.iload (pc' := 41) dX8_tryTrick_39 rfl rfl ?_
        refine S.aload_n (pc' := 42) dX8_tryTrick_41 rfl rfl rfl ?_
        refine S.getR (pc' := 45) dX8_tryTrick_42 rfl fX8_17 L_34 rf_34_1 ?_
        refine S.iload (pc' := 47) dX8_tryTrick_45 rfl rfl ?_
        refine S.aald (pc' := 48) dX8_tryTrick_47 rfl L_36 (by decide) (by decide) (by omega) (by omega) (trk_r (by omega) (by omega)) ?_
        refine S.aload_n (pc' := 49) dX8_tryTrick_48 rfl rfl rfl ?_
        refine S.getR (pc' := 52) dX8_tryTrick_49 rfl fX8_56 (pl_lay pl22) (pl_r0 pl22) ?_
        refine S.iload (pc' := 54) dX8_tryTrick_52 rfl rfl ?_
        refine S.iald (pc' := 55) dX8_tryTrick_54 rfl (pl_a0 pl22) (by omega) (by omega) ?_
        refine S.iload (pc' := 57) dX8_tryTrick_55 rfl rfl ?_
        refine S.iload (pc' := 59) dX8_tryTrick_57 rfl rfl ?_
        rw [hwr M32 (by rw [f1 23 (by omega), hf 23 (by omega)])]
        refine S.callVi (pc' := 62) dX8_tryTrick_59 rfl cX8_59 (rk_X5_append (g := g) (pg := aRun g pg vs i.toNat) ho1) rfl (pl_lay (trk_o (by omega) (by omega))) (by decide) rfl (Nat.le_of_ble_eq_true rfl) (fun z59 M59 q59 => ?_)
        obtain ⟨z2, c2, f2⟩ := q59
        refine S.zast (pc' := 63) dX8_tryTrick_62 rfl L_37 (by omega) (by omega) (by first | exact Or.inl rfl | exact Or.inr rfl | omega) ?_
        refine S.iinc (pc' := 66) (LL' := [_, _, _, _, _, _, _, _]) dX8_tryTrick_63 rfl (by decide) rfl rfl rfl ?_
        refine S.goto (pc' := 14) dX8_tryTrick_66 (by decide) ?_
        refine ih _ _ (by omega) (by omega) (by omega) (fun a ha => by rw [fp_up_ne (by omega), f2 a (by omega), f1 a (by omega)]; exact hf a ha) (hc.kept (fun a q1 q2 => by rw [fp_up_ne (by omega), f2 a (by omega), f1 a (by omega)])) (fun y y0 y1 => ?_)
        by_cases e : y = x
        · subst e; exact ⟨by rw [fp_up_at, fp_upf_at]; exact z2, c2.kept (fun a q1 q2 => fp_up_ne (by omega))⟩
        · obtain ⟨u1, u2⟩ := hy y y0 (by omega)
          exact ⟨by rw [fp_up_at, fp_upf_ne (by omega), f2 37 (by omega), f1 37 (by omega)]; exact u1, u2.kept (fun a q1 q2 => by rw [fp_up_ne (by omega), f2 a (by omega), f1 a (by omega)])⟩
    · refine S.iload (pc' := 16) dX8_tryTrick_14 rfl rfl ?_
      refine S.aload_n (pc' := 17) dX8_tryTrick_16 rfl rfl rfl ?_
      refine S.getI (pc' := 20) dX8_tryTrick_17 rfl fX8_50 (gd_lay gd18) ?_
      refine S.icmp_ge (pc' := 23) (tgt := 69) dX8_tryTrick_20 (by decide) rfl (by unfold fp_rng; omega) (by unfold fp_rng; omega) (fun h20 => ?_) (fun h20 => ?_)
      · refine S.vret dX8_tryTrick_69 rfl ?_
        exact ⟨fun y y0 y1 => ⟨(hy y y0 (by omega)).1, fun _ => (hy y y0 (by omega)).2⟩, hf⟩
      · exfalso; omega
theorem rk_X8_tryTrick {p r i : Int} (hp : 0 ≤ p ∧ p < 4) (hr : 0 ≤ r ∧ r < g.1) (hpr : pg.1 r = p) (hi : 0 ≤ i ∧ i ≤ vs.length) (hP : pgOk g pg) (hg : gOk g) (hvo : vsOk g vs) (hd : gdIs M 18 g) (hcl : clIs M 22 g pg) (hv : vsIs M 27 vs) : fp_Ok l G 4 kX8_tryTrick [rV G 34, rV G 18, rV G 27, rV G 22, iV i, iV r] M (qV fun O => tkIs O g pg vs p r i 0 ∧ frK M O) := by
  have hg2 := hg.2.1
  refine fp_Ok.of (r := 2) rfl (Nat.le_of_ble_eq_true rfl) rfl ?_
  refine S.aload_n (pc' := 1) dX8_tryTrick_0 rfl rfl rfl ?_
  refine S.aload_n (pc' := 2) dX8_tryTrick_1 rfl rfl rfl ?_
  refine S.aload_n (pc' := 3) dX8_tryTrick_2 rfl rfl rfl ?_
  refine S.aload_n (pc' := 4) dX8_tryTrick_3 rfl rfl rfl ?_
  refine S.iload (pc' := 6) dX8_tryTrick_4 rfl rfl ?_
  refine S.callVr (pc' := 9) dX8_tryTrick_6 rfl cX8_46 (rk_X8_behind (g := g) (pg := pg) (vs := vs) gd18 vs27 pl22) rfl L_34 (by decide) rfl (Nat.le_of_ble_eq_true rfl) (fun z6 M6 q6 => ?_)
  obtain ⟨rfl, c1, f1⟩ := q6
  refine S.astore (pc' := 11) (LL' := [_, _, _, _, _, _, _, _]) dX8_tryTrick_9 rfl (by decide) rfl rfl ?_
  refine S.iconst (pc' := 12) dX8_tryTrick_11 rfl ?_
  refine S.istore (pc' := 14) (LL' := [_, _, _, _, _, _, _, _]) dX8_tryTrick_12 rfl (by decide) rfl rfl ?_
  exact ctry_loop hp hr hpr hP hg hvo hd hcl (g.2.1.toNat + 1) 0 _ (by omega) (by omega) (by omega) (fun a ha => f1 a (by omega)) c1 (fun y y0 y1 => by omega)
theorem cgo_loop {p r i j : Int} (hp : 0 ≤ p ∧ p < 4) (hr : 0 ≤ r ∧ r < g.1) (hi : 0 ≤ i ∧ i ≤ j) (hj : j ≤ vs.length) (hP : pgOk g pg) (hg : gOk g) (hvo : vsOk g vs) (hd : gdIs M 18 g) (hv : vsIs M 27 vs) : ∀ (n : Nat) (x : Int) (N : fp_Mem), (g.2.1 - x).toNat < n → 0 ≤ x → x ≤ g.2.1 → frK M N → (∀ y : Int, 0 ≤ y → y < g.2.1 → N 37 y.toNat = (aApp (aRun g pg vs i.toNat) p r y).1 ∧ ((aApp (aRun g pg vs i.toNat) p r y).1 ≠ 0 → clIs N (106 + 5 * y.toNat) g (if y < x then aTk g pg vs p r i y (j + 1 - i).toNat else aTk g pg vs p r i y (j - i).toNat))) →
    fp_S l G 3 kX8_goOnWithTrick 3 [some (rV G 34), some (rV G 18), some (rV G 27), some (iV j), some (iV x)] [] N (qV fun O => tkIs O g pg vs p r i (j + 1 - i).toNat ∧ frK M O) := by
  have hl := hv.2.1
  have hg2 := hg.2.1
  intro n
  induction n with
  | zero => intro x N h; omega
  | succ n ih =>
    intro x N h x0 x1 hf hy
    have hd' : gdIs N 18 g := hd.kept (fun a q1 q2 => hf a (by omega))
    have hv' : vsIs N 27 vs := hv.kept (fun a q1 q2 => hf a (by omega))
    have hd1 : N 18 1 = g.2.1 := hd'.2.1
    have h01 := aApp_01 (aRun g pg vs i.toNat) p r x
    by_cases hlt : x < g.2.1
    · have ho1 := trk_o x0 (show x < 3 by omega)
      obtain ⟨w1, w2⟩ := hy x x0 hlt
      rw [if_neg (show ¬ x < x by omega)] at w2
      have hPx := aTk_ok (i := i) hg hP hvo hp hr ⟨x0, hlt⟩ (j - i).toNat
      have er := aTk_succ (g := g) (pg := pg) (vs := vs) (p := p) (r := r) (x := x) hi.2
      by_cases hop : (aApp (aRun g pg vs i.toNat) p r x).1 = 0
      · refine S.iload (pc' := 5) dX8_goOnWithTrick_3 rfl rfl ?_
        refine S.aload_n (pc' := 6) dX8_goOnWithTrick_5 rfl rfl rfl ?_
        refine S.getI (pc' := 9) dX8_goOnWithTrick_6 rfl fX8_50 (gd_lay gd18) ?_
        refine S.icmp_ge (pc' := 12) (tgt := 42) dX8_goOnWithTrick_9 (by decide) rfl (by unfold fp_rng; omega) (by unfold fp_rng; omega) (fun h9 => ?_) (fun h9 => ?_)
        · exfalso; omega
        · refine S.aload_n (pc' := 13) dX8_goOnWithTrick_12 rfl rfl rfl ?_
          refine S.getR (pc' := 16) dX8_goOnWithTrick_13 rfl fX8_20 L_34 rf_34_2 ?_
          refine S.iload (pc' := 18) dX8_goOnWithTrick_16 rfl rfl ?_
          refine S.zald (pc' := 19) dX8_goOnWithTrick_18 rfl L_37 (by omega) (by omega) ?_
          refine S.if_eq (pc' := 22) (tgt := 36) dX8_goOnWithTrick_19 (by decide) rfl (by unfold fp_rng; omega) (fun h19 => ?_) (fun h19 => ?_)
          · refine S.iinc (pc' := 39) (LL' := [_, _, _, _, _]) dX8_goOnWithTrick_36 rfl (by decide) rfl rfl rfl ?_
            refine S.goto (pc' := 3) dX8_goOnWithTrick_39 (by decide) ?_
            refine ih _ _ (by omega) (by omega) (by omega) hf (fun y y0 y1 => ⟨(hy y y0 y1).1, fun q => ?_⟩)
            have u2 := (hy y y0 y1).2 q
            by_cases e : y = x
            · subst e; exact absurd hop q
            · by_cases e2 : y < x
              · rw [if_pos e2] at u2; rw [if_pos (by omega)]; exact u2
              · rw [if_neg e2] at u2; rw [if_neg (by omega)]; exact u2
          · exfalso; omega
      · have w3 := w2 hop
        refine S.iload (pc' := 5) dX8_goOnWithTrick_3 rfl rfl ?_
        refine S.aload_n (pc' := 6) dX8_goOnWithTrick_5 rfl rfl rfl ?_
        refine S.getI (pc' := 9) dX8_goOnWithTrick_6 rfl fX8_50 (gd_lay gd18) ?_
        refine S.icmp_ge (pc' := 12) (tgt := 42) dX8_goOnWithTrick_9 (by decide) rfl (by unfold fp_rng; omega) (by unfold fp_rng; omega) (fun h9 => ?_) (fun h9 => ?_)
        · exfalso; omega
        · refine S.aload_n (pc' := 13) dX8_goOnWithTrick_12 rfl rfl rfl ?_
          refine S.getR (pc' := 16) dX8_goOnWithTrick_13 rfl fX8_20 L_34 rf_34_2 ?_
          refine S.iload (pc' := 18) dX8_goOnWithTrick_16 rfl rfl ?_
          refine S.zald (pc' := 19) dX8_goOnWithTrick_18 rfl L_37 (by omega) (by omega) ?_
          refine S.if_eq (pc' := 22) (tgt := 36) dX8_goOnWithTrick_19 (by decide) rfl (by unfold fp_rng; omega) (fun h19 => ?_) (fun h19 => ?_)
          · refine S.iinc (pc' := 39) (LL' := [_, _, _, _, _]) dX8_goOnWithTrick_36 rfl (by decide) rfl rfl rfl ?_
            refine S.goto (pc' := 3) dX8_goOnWithTrick_39 (by decide) ?_
            try (exfalso; omega)
            all_goals
              refine ih _ _ (by omega) (by omega) (by omega) (fun a ha => by rw [f1 a (by omega)]; exact hf a ha) (fun y y0 y1 => ⟨by rw [f1 37 (by omega)]; exact (hy y y0 y1).1, fun q => ?_⟩)
              have u2 := (hy y y0 y1).2 q
              by_cases e : y = x
              · subst e; rw [if_pos (by omega)]; exact c1
              · have u3 := u2.kept (fun a q1 q2 => f1 a (by omega))
                by_cases e2 : y < x
                · rw [if_pos e2] at u3; rw [if_pos (by omega)]; exact u3
                · rw [if_neg e2] at u3; rw [if_neg (by omega)]; exact u3
          · refine S.aload_n (pc' := 23) dX8_goOnWithTrick_22 rfl rfl rfl ?_
            refine S.aload_n (pc' := 24) dX8_goOnWithTrick_23 rfl rfl rfl ?_
            refine S.aload_n (pc' := 25) dX8_goOnWithTrick_24 rfl rfl rfl ?_
            refine S.getR (pc' := 28) dX8_goOnWithTrick_25 rfl fX8_17 L_34 rf_34_1 ?_
            refine S.iload (pc' := 30) dX8_goOnWithTrick_28 rfl rfl ?_
            refine S.aald (pc' := 31) dX8_goOnWithTrick_30 rfl L_36 (by decide) (by decide) (by omega) (by omega) (trk_r (by omega) (by omega)) ?_
            refine S.iload_n (pc' := 32) dX8_goOnWithTrick_31 rfl rfl rfl ?_
            refine S.callVi (pc' := 35) dX8_goOnWithTrick_32 rfl cX8_40 (rk_X10_happens (g := g) (pg := aTk g pg vs p r i x (j - i).toNat) (vs := vs) vs27 gd18 ho1) rfl (vs_lay vs27) (by decide) rfl (Nat.le_of_ble_eq_true rfl) (fun z32 M32 q32 => ?_)
            obtain ⟨z1, c1, f1⟩ := q32
            rw [← er] at c1
            refine S.pop (pc' := 36) dX8_goOnWithTrick_35 rfl rfl ?_
            refine S.iinc (pc' := 39) (LL' := [_, _, _, _, _]) dX8_goOnWithTrick_36 rfl (by decide) rfl rfl rfl ?_
            refine S.goto (pc' := 3) dX8_goOnWithTrick_39 (by decide) ?_
            try (exfalso; omega)
            all_goals
              refine ih _ _ (by omega) (by omega) (by omega) (fun a ha => by rw [f1 a (by omega)]; exact hf a ha) (fun y y0 y1 => ⟨by rw [f1 37 (by omega)]; exact (hy y y0 y1).1, fun q => ?_⟩)
              have u2 := (hy y y0 y1).2 q
              by_cases e : y = x
              · subst e; rw [if_pos (by omega)]; exact c1
              · have u3 := u2.kept (fun a q1 q2 => f1 a (by omega))
                by_cases e2 : y < x
                · rw [if_pos e2] at u3; rw [if_pos (by omega)]; exact u3
                · rw [if_neg e2] at u3; rw [if_neg (by omega)]; exact u3
    · refine S.iload (pc' := 5) dX8_goOnWithTrick_3 rfl rfl ?_
      refine S.aload_n (pc' := 6) dX8_goOnWithTrick_5 rfl rfl rfl ?_
      refine S.getI (pc' := 9) dX8_goOnWithTrick_6 rfl fX8_50 (gd_lay gd18) ?_
      refine S.icmp_ge (pc' := 12) (tgt := 42) dX8_goOnWithTrick_9 (by decide) rfl (by unfold fp_rng; omega) (by unfold fp_rng; omega) (fun h9 => ?_) (fun h9 => ?_)
      · refine S.vret dX8_goOnWithTrick_42 rfl ?_
        refine ⟨fun y y0 y1 => ⟨(hy y y0 y1).1, fun q => ?_⟩, hf⟩
        have u2 := (hy y y0 y1).2 q
        rw [if_pos (by omega)] at u2
        exact u2
      · exfalso; omega
theorem rk_X8_goOnWithTrick {p r i j : Int} (hp : 0 ≤ p ∧ p < 4) (hr : 0 ≤ r ∧ r < g.1) (hi : 0 ≤ i ∧ i ≤ j) (hj : j ≤ vs.length) (hP : pgOk g pg) (hg : gOk g) (hvo : vsOk g vs) (hd : gdIs M 18 g) (hv : vsIs M 27 vs) (ht : tkIs M g pg vs p r i (j - i).toNat) : fp_Ok l G 3 kX8_goOnWithTrick [rV G 34, rV G 18, rV G 27, iV j] M (qV fun O => tkIs O g pg vs p r i (j + 1 - i).toNat ∧ frK M O) := by
  have hg2 := hg.2.1
  refine fp_Ok.of (r := 1) rfl (Nat.le_of_ble_eq_true rfl) rfl ?_
  refine S.iconst (pc' := 1) dX8_goOnWithTrick_0 rfl ?_
  refine S.istore (pc' := 3) (LL' := [_, _, _, _, _]) dX8_goOnWithTrick_1 rfl (by decide) rfl rfl ?_
  exact cgo_loop hp hr hi hj hP hg hvo hd hv (g.2.1.toNat + 1) 0 _ (by omega) (by omega) (by omega) (frK.refl _) (fun y y0 y1 => ⟨(ht y y0 y1).1, fun q => by rw [if_neg (by omega)]; exact (ht y y0 y1).2 q⟩)
theorem clin_loop {p r t i j : Int} (hp : 0 ≤ p ∧ p < 4) (hr : 0 ≤ r ∧ r < g.1) (ht9 : 0 ≤ t ∧ t < g.1) (hP : pgOk g pg) (hg : gOk g) (hvo : vsOk g vs) (hd : gdIs M 18 g) (ht : tkIs M g pg vs p r i (j - i).toNat) : ∀ (n : Nat) (x : Int), (g.2.1 - x).toNat = n → 0 ≤ x → x ≤ g.2.1 →
    fp_S l G 2 kX8_lineTrickedOf 2 [some (rV G 34), some (rV G 18), some (iV t), some (iV x)] [] M (qI fun z O => z = aTl g pg vs p r t i j n x ∧ M = O) := by
  have hg1 := hg.1
  have hg2 := hg.2.1
  have hd1 : M 18 1 = g.2.1 := hd.2.1
  intro n
  induction n with
  | zero =>
    intro x h x0 x1
    refine S.iload_n (pc' := 3) dX8_lineTrickedOf_2 rfl rfl rfl ?_
    refine S.aload_n (pc' := 4) dX8_lineTrickedOf_3 rfl rfl rfl ?_
    refine S.getI (pc' := 7) dX8_lineTrickedOf_4 rfl fX8_50 (gd_lay gd18) ?_
    refine S.icmp_ge (pc' := 10) (tgt := 42) dX8_lineTrickedOf_7 (by decide) rfl (by unfold fp_rng; omega) (by unfold fp_rng; omega) (fun h7 => ?_) (fun h7 => ?_)
    · refine S.bipush (pc' := 44) dX8_lineTrickedOf_42 rfl (by decide) ?_
      refine S.iret dX8_lineTrickedOf_44 rfl ?_
      exact ⟨rfl, rfl⟩
    · exfalso; omega
  | succ n ih =>
    intro x h x0 x1
    have hlt : x < g.2.1 := by omega
    have ho1 := trk_o x0 (show x < 3 by omega)
    obtain ⟨w1, w2⟩ := ht x x0 hlt
    have h01 := aApp_01 (aRun g pg vs i.toNat) p r x
    have es : aTl g pg vs p r t i j (n + 1) x = if aIsT g pg vs p r t i j x then x else aTl g pg vs p r t i j n (x + 1) := rfl
    rw [es]
    by_cases hop : (aApp (aRun g pg vs i.toNat) p r x).1 = 0
    · rw [if_neg (fun q => q.1 hop)]
      refine S.iload_n (pc' := 3) dX8_lineTrickedOf_2 rfl rfl rfl ?_
      refine S.aload_n (pc' := 4) dX8_lineTrickedOf_3 rfl rfl rfl ?_
      refine S.getI (pc' := 7) dX8_lineTrickedOf_4 rfl fX8_50 (gd_lay gd18) ?_
      refine S.icmp_ge (pc' := 10) (tgt := 42) dX8_lineTrickedOf_7 (by decide) rfl (by unfold fp_rng; omega) (by unfold fp_rng; omega) (fun h7 => ?_) (fun h7 => ?_)
      · exfalso; omega
      · refine S.aload_n (pc' := 11) dX8_lineTrickedOf_10 rfl rfl rfl ?_
        refine S.getR (pc' := 14) dX8_lineTrickedOf_11 rfl fX8_20 L_34 rf_34_2 ?_
        refine S.iload_n (pc' := 15) dX8_lineTrickedOf_14 rfl rfl rfl ?_
        refine S.zald (pc' := 16) dX8_lineTrickedOf_15 rfl L_37 (by omega) (by omega) ?_
        refine S.if_eq (pc' := 19) (tgt := 36) dX8_lineTrickedOf_16 (by decide) rfl (by unfold fp_rng; omega) (fun h16 => ?_) (fun h16 => ?_)
        · refine S.iinc (pc' := 39) (LL' := [_, _, _, _]) dX8_lineTrickedOf_36 rfl (by decide) rfl rfl rfl ?_
          refine S.goto (pc' := 2) dX8_lineTrickedOf_39 (by decide) ?_
          exact ih _ (by omega) (by omega) (by omega)
        · exfalso; omega
    · have w3 := w2 hop
      have hPx := aTk_ok (i := i) hg hP hvo hp hr ⟨x0, hlt⟩ (j - i).toNat
      have hq := aGv_in hPx hg ⟨x0, hlt⟩
      by_cases hgv : aGv g (aTk g pg vs p r i x (j - i).toNat) x = t
      · rw [if_pos ⟨hop, hgv⟩]
        refine S.iload_n (pc' := 3) dX8_lineTrickedOf_2 rfl rfl rfl ?_
        refine S.aload_n (pc' := 4) dX8_lineTrickedOf_3 rfl rfl rfl ?_
        refine S.getI (pc' := 7) dX8_lineTrickedOf_4 rfl fX8_50 (gd_lay gd18) ?_
        refine S.icmp_ge (pc' := 10) (tgt := 42) dX8_lineTrickedOf_7 (by decide) rfl (by unfold fp_rng; omega) (by unfold fp_rng; omega) (fun h7 => ?_) (fun h7 => ?_)
        · exfalso; omega
        · refine S.aload_n (pc' := 11) dX8_lineTrickedOf_10 rfl rfl rfl ?_
          refine S.getR (pc' := 14) dX8_lineTrickedOf_11 rfl fX8_20 L_34 rf_34_2 ?_
          refine S.iload_n (pc' := 15) dX8_lineTrickedOf_14 rfl rfl rfl ?_
          refine S.zald (pc' := 16) dX8_lineTrickedOf_15 rfl L_37 (by omega) (by omega) ?_
          refine S.if_eq (pc' := 19) (tgt := 36) dX8_lineTrickedOf_16 (by decide) rfl (by unfold fp_rng; omega) (fun h16 => ?_) (fun h16 => ?_)
          · exfalso; omega
          · refine S.aload_n (pc' := 20) dX8_lineTrickedOf_19 rfl rfl rfl ?_
            refine S.getR (pc' := 23) dX8_lineTrickedOf_20 rfl fX8_17 L_34 rf_34_1 ?_
            refine S.iload_n (pc' := 24) dX8_lineTrickedOf_23 rfl rfl rfl ?_
            refine S.aald (pc' := 25) dX8_lineTrickedOf_24 rfl L_36 (by decide) (by decide) (by omega) (by omega) (trk_r (by omega) (by omega)) ?_
            refine S.aload_n (pc' := 26) dX8_lineTrickedOf_25 rfl rfl rfl ?_
            refine S.iload_n (pc' := 27) dX8_lineTrickedOf_26 rfl rfl rfl ?_
            refine S.callVe (pc' := 30) dX8_lineTrickedOf_27 rfl cX8_63 (rk_X5_gives (g := g) (pg := aTk g pg vs p r i x (j - i).toNat) ho1 gd18) rfl (pl_lay (trk_o (by omega) (by omega))) (by decide) rfl (Nat.le_of_ble_eq_true rfl) ?_
            refine S.iload_n (pc' := 31) dX8_lineTrickedOf_30 rfl rfl rfl ?_
            refine S.icmp_ne (pc' := 34) (tgt := 36) dX8_lineTrickedOf_31 (by decide) rfl (by unfold fp_rng; omega) (by unfold fp_rng; omega) (fun h31 => ?_) (fun h31 => ?_)
            · exfalso; omega
            · refine S.iload_n (pc' := 35) dX8_lineTrickedOf_34 rfl rfl rfl ?_
              refine S.iret dX8_lineTrickedOf_35 rfl ?_
              exact ⟨rfl, rfl⟩
      · rw [if_neg (fun q => hgv q.2)]
        refine S.iload_n (pc' := 3) dX8_lineTrickedOf_2 rfl rfl rfl ?_
        refine S.aload_n (pc' := 4) dX8_lineTrickedOf_3 rfl rfl rfl ?_
        refine S.getI (pc' := 7) dX8_lineTrickedOf_4 rfl fX8_50 (gd_lay gd18) ?_
        refine S.icmp_ge (pc' := 10) (tgt := 42) dX8_lineTrickedOf_7 (by decide) rfl (by unfold fp_rng; omega) (by unfold fp_rng; omega) (fun h7 => ?_) (fun h7 => ?_)
        · exfalso; omega
        · refine S.aload_n (pc' := 11) dX8_lineTrickedOf_10 rfl rfl rfl ?_
          refine S.getR (pc' := 14) dX8_lineTrickedOf_11 rfl fX8_20 L_34 rf_34_2 ?_
          refine S.iload_n (pc' := 15) dX8_lineTrickedOf_14 rfl rfl rfl ?_
          refine S.zald (pc' := 16) dX8_lineTrickedOf_15 rfl L_37 (by omega) (by omega) ?_
          refine S.if_eq (pc' := 19) (tgt := 36) dX8_lineTrickedOf_16 (by decide) rfl (by unfold fp_rng; omega) (fun h16 => ?_) (fun h16 => ?_)
          · refine S.iinc (pc' := 39) (LL' := [_, _, _, _]) dX8_lineTrickedOf_36 rfl (by decide) rfl rfl rfl ?_
            refine S.goto (pc' := 2) dX8_lineTrickedOf_39 (by decide) ?_
            try (exfalso; omega)
            all_goals exact ih _ (by omega) (by omega) (by omega)
          · refine S.aload_n (pc' := 20) dX8_lineTrickedOf_19 rfl rfl rfl ?_
            refine S.getR (pc' := 23) dX8_lineTrickedOf_20 rfl fX8_17 L_34 rf_34_1 ?_
            refine S.iload_n (pc' := 24) dX8_lineTrickedOf_23 rfl rfl rfl ?_
            refine S.aald (pc' := 25) dX8_lineTrickedOf_24 rfl L_36 (by decide) (by decide) (by omega) (by omega) (trk_r (by omega) (by omega)) ?_
            refine S.aload_n (pc' := 26) dX8_lineTrickedOf_25 rfl rfl rfl ?_
            refine S.iload_n (pc' := 27) dX8_lineTrickedOf_26 rfl rfl rfl ?_
            refine S.callVe (pc' := 30) dX8_lineTrickedOf_27 rfl cX8_63 (rk_X5_gives (g := g) (pg := aTk g pg vs p r i x (j - i).toNat) ho1 gd18) rfl (pl_lay (trk_o (by omega) (by omega))) (by decide) rfl (Nat.le_of_ble_eq_true rfl) ?_
            refine S.iload_n (pc' := 31) dX8_lineTrickedOf_30 rfl rfl rfl ?_
            refine S.icmp_ne (pc' := 34) (tgt := 36) dX8_lineTrickedOf_31 (by decide) rfl (by unfold fp_rng; omega) (by unfold fp_rng; omega) (fun h31 => ?_) (fun h31 => ?_)
            · refine S.iinc (pc' := 39) (LL' := [_, _, _, _]) dX8_lineTrickedOf_36 rfl (by decide) rfl rfl rfl ?_
              refine S.goto (pc' := 2) dX8_lineTrickedOf_39 (by decide) ?_
              try (exfalso; omega)
              all_goals exact ih _ (by omega) (by omega) (by omega)
            · exfalso; omega
theorem rk_X8_lineTrickedOf {p r t i j : Int} (hp : 0 ≤ p ∧ p < 4) (hr : 0 ≤ r ∧ r < g.1) (ht9 : 0 ≤ t ∧ t < g.1) (hP : pgOk g pg) (hg : gOk g) (hvo : vsOk g vs) (hd : gdIs M 18 g) (ht : tkIs M g pg vs p r i (j - i).toNat) : fp_Ok l G 2 kX8_lineTrickedOf [rV G 34, rV G 18, iV t] M (qI fun z O => z = aTl g pg vs p r t i j g.2.1.toNat 0 ∧ M = O) := by
  have hg2 := hg.2.1
  refine fp_Ok.of (r := 1) rfl (Nat.le_of_ble_eq_true rfl) rfl ?_
  refine S.iconst (pc' := 1) dX8_lineTrickedOf_0 rfl ?_
  refine S.istore_n (pc' := 2) (LL' := [_, _, _, _]) dX8_lineTrickedOf_1 rfl (by decide) rfl rfl rfl ?_
  exact clin_loop hp hr ht9 hP hg hvo hd ht g.2.1.toNat 0 (by omega) (by omega) (by omega)
theorem ctrick_j {p r t w i : Int} (hp : 0 ≤ p ∧ p < 4) (hr : 0 ≤ r ∧ r < g.1) (ht : 0 ≤ t ∧ t < g.1) (hw : 0 ≤ w ∧ w ≤ 2) (hi : 0 ≤ i) (ho : OK g pg vs nt im sh) (hcs : CS M tp fl g pg vs nt im sh tn) {Q : Int → fp_Mem → Prop} : ∀ (n : Nat) (j : Int) (N : fp_Mem) (o7 : Option Value), ((vs.length : Int) + 1 - j).toNat = n → i ≤ j → j ≤ vs.length + 1 → frK M N → tkIs N g pg vs p r i (j - i).toNat → (∀ O z, frK M O → aTj g pg vs p r t w i n j = some z → Q z O) → (∀ O o6 o7, frK M O → aTj g pg vs p r t w i n j = none → fp_S l G 5 kX11_trick 182 [some (rV G 0), some (iV p), some (iV r), some (iV t), some (iV w), some (iV i), o6, o7] [] O (qI Q)) →
    fp_S l G 5 kX11_trick 102 [some (rV G 0), some (iV p), some (iV r), some (iV t), some (iV w), some (iV i), some (iV j), o7] [] N (qI Q) := by
  obtain ⟨-, hd, hcl, hv, -⟩ := hcs
  have hl := hv.2.1
  have hg2 := ho.1.2.1
  intro n
  induction n with
  | zero =>
    intro j N o7 h j0 j1 hf htk hA hB
    have hl1 : N 27 0 = vs.length := by rw [hf 27 (by omega)]; exact hv.1
    refine S.iload (pc' := 104) dX11_trick_102 rfl rfl ?_
    refine S.aload_n (pc' := 105) dX11_trick_104 rfl rfl rfl ?_
    refine S.getR (pc' := 108) dX11_trick_105 rfl fX11_37 L_0 rf_0_5 ?_
    refine S.getI (pc' := 111) dX11_trick_108 rfl fX11_205 (vs_lay vs27) ?_
    refine S.icmp_gt (pc' := 114) (tgt := 182) dX11_trick_111 (by decide) rfl (by unfold fp_rng; omega) (by unfold fp_rng; omega) (fun h111 => ?_) (fun h111 => ?_)
    · exact hB _ _ _ hf rfl
    · exfalso; omega
  | succ n ih =>
    intro j N o7 h j0 j1 hf htk hA hB
    have hl1 : N 27 0 = vs.length := by rw [hf 27 (by omega)]; exact hv.1
    have hd' : gdIs N 18 g := hd.kept (fun a q1 q2 => hf a (by omega))
    have hv' : vsIs N 27 vs := hv.kept (fun a q1 q2 => hf a (by omega))
    have es : aTj g pg vs p r t w i (n + 1) j = if aTl g pg vs p r t i j g.2.1.toNat 0 ≠ -4 then some (if w = 0 then i else if w = 1 then j else aTl g pg vs p r t i j g.2.1.toNat 0) else aTj g pg vs p r t w i n (j + 1) := rfl
    have hin := aTl_in (g := g) (pg := pg) (vs := vs) (p := p) (r := r) (t := t) (i := i) (j := j) g.2.1.toNat 0 (by omega)
    rw [es] at hA hB
    refine S.iload (pc' := 104) dX11_trick_102 rfl rfl ?_
    refine S.aload_n (pc' := 105) dX11_trick_104 rfl rfl rfl ?_
    refine S.getR (pc' := 108) dX11_trick_105 rfl fX11_37 L_0 rf_0_5 ?_
    refine S.getI (pc' := 111) dX11_trick_108 rfl fX11_205 (vs_lay vs27) ?_
    refine S.icmp_gt (pc' := 114) (tgt := 182) dX11_trick_111 (by decide) rfl (by unfold fp_rng; omega) (by unfold fp_rng; omega) (fun h111 => ?_) (fun h111 => ?_)
    · exfalso; omega
    · refine S.aload_n (pc' := 115) dX11_trick_114 rfl rfl rfl ?_
      refine S.getR (pc' := 118) dX11_trick_115 rfl fX11_51 L_0 rf_0_7 ?_
      refine S.aload_n (pc' := 119) dX11_trick_118 rfl rfl rfl ?_
      refine S.getR (pc' := 122) dX11_trick_119 rfl fX11_23 L_0 rf_0_3 ?_
      refine S.iload_n (pc' := 123) dX11_trick_122 rfl rfl rfl ?_
      refine S.callVi (pc' := 126) dX11_trick_123 rfl cX11_232 (rk_X8_lineTrickedOf (j := j) hp hr ht ho.2.1 ho.1 ho.2.2.1 hd' htk) rfl L_34 (by decide) rfl (Nat.le_of_ble_eq_true rfl) (fun z123 M123 q123 => ?_)
      obtain ⟨rfl, rfl⟩ := q123
      refine S.istore (pc' := 128) (LL' := [_, _, _, _, _, _, _, _]) dX11_trick_126 rfl (by decide) rfl rfl ?_
      refine S.iload (pc' := 130) dX11_trick_128 rfl rfl ?_
      refine S.bipush (pc' := 132) dX11_trick_130 rfl (by decide) ?_
      refine S.icmp_eq (pc' := 135) (tgt := 159) dX11_trick_132 (by decide) rfl (by unfold fp_rng; omega) (by unfold fp_rng; omega) (fun h132 => ?_) (fun h132 => ?_)
      · refine S.aload_n (pc' := 160) dX11_trick_159 rfl rfl rfl ?_
        refine S.getR (pc' := 163) dX11_trick_160 rfl fX11_51 L_0 rf_0_7 ?_
        refine S.aload_n (pc' := 164) dX11_trick_163 rfl rfl rfl ?_
        refine S.getR (pc' := 167) dX11_trick_164 rfl fX11_23 L_0 rf_0_3 ?_
        refine S.aload_n (pc' := 168) dX11_trick_167 rfl rfl rfl ?_
        refine S.getR (pc' := 171) dX11_trick_168 rfl fX11_37 L_0 rf_0_5 ?_
        refine S.iload (pc' := 173) dX11_trick_171 rfl rfl ?_
        refine S.callVv (pc' := 176) dX11_trick_173 rfl cX11_235 (rk_X8_goOnWithTrick (j := j) hp hr ⟨hi, j0⟩ (by omega) ho.2.1 ho.1 ho.2.2.1 hd' hv' htk) rfl L_34 (by decide) rfl (Nat.le_of_ble_eq_true rfl) (fun M173 q173 => ?_)
        obtain ⟨t9, f9⟩ := q173
        refine S.iinc (pc' := 179) (LL' := [_, _, _, _, _, _, _, _]) dX11_trick_176 rfl (by decide) rfl rfl rfl ?_
        refine S.goto (pc' := 102) dX11_trick_179 (by decide) ?_
        rw [if_neg (by omega)] at hA hB
        exact ih _ _ _ (by omega) (by omega) (by omega) (hf.trans f9) t9 hA hB
      · refine S.iload (pc' := 137) dX11_trick_135 rfl rfl ?_
        refine S.if_ne (pc' := 140) (tgt := 145) dX11_trick_137 (by decide) rfl (by unfold fp_rng; omega) (fun h137 => ?_) (fun h137 => ?_)
        · refine S.iload (pc' := 147) dX11_trick_145 rfl rfl ?_
          refine S.iconst (pc' := 148) dX11_trick_147 rfl ?_
          refine S.icmp_ne (pc' := 151) (tgt := 156) dX11_trick_148 (by decide) rfl (by unfold fp_rng; omega) (by unfold fp_rng; omega) (fun h148 => ?_) (fun h148 => ?_)
          · refine S.iload (pc' := 158) dX11_trick_156 rfl rfl ?_
            refine S.iret dX11_trick_158 rfl ?_
            rw [if_pos (by omega)] at hA
            refine hA _ _ hf ?_
            first | rw [if_pos (by omega)] | rw [if_neg (by omega), if_pos (by omega)] | rw [if_neg (by omega), if_neg (by omega)]
          · refine S.iload (pc' := 153) dX11_trick_151 rfl rfl ?_
            refine S.goto (pc' := 158) dX11_trick_153 (by decide) ?_
            refine S.iret dX11_trick_158 rfl ?_
            rw [if_pos (by omega)] at hA
            refine hA _ _ hf ?_
            first | rw [if_pos (by omega)] | rw [if_neg (by omega), if_pos (by omega)] | rw [if_neg (by omega), if_neg (by omega)]
        · refine S.iload (pc' := 142) dX11_trick_140 rfl rfl ?_
          refine S.goto (pc' := 158) dX11_trick_142 (by decide) ?_
          refine S.iret dX11_trick_158 rfl ?_
          rw [if_pos (by omega)] at hA
          refine hA _ _ hf ?_
          first | rw [if_pos (by omega)] | rw [if_neg (by omega), if_pos (by omega)] | rw [if_neg (by omega), if_neg (by omega)]
theorem ctrick_i {p r t w : Int} (hp : 0 ≤ p ∧ p < 4) (hr : 0 ≤ r ∧ r < g.1) (ht : 0 ≤ t ∧ t < g.1) (hw : 0 ≤ w ∧ w ≤ 2) (hpr : pg.1 r = p) (ho : OK g pg vs nt im sh) (hcs : CS M tp fl g pg vs nt im sh tn) : ∀ (n : Nat) (i : Int) (N : fp_Mem) (o6 o7 : Option Value), ((vs.length : Int) + 1 - i).toNat = n → 0 ≤ i → i ≤ vs.length + 1 → frK M N →
    fp_S l G 5 kX11_trick 64 [some (rV G 0), some (iV p), some (iV r), some (iV t), some (iV w), some (iV i), o6, o7] [] N (qI fun z O => z = aTi g pg vs p r t w n i ∧ CS O tp fl g pg vs nt im sh tn ∧ frC M O) := by
  have hcs' := hcs
  obtain ⟨-, hd, hcl, hv, -⟩ := hcs
  have hl := hv.2.1
  intro n
  induction n with
  | zero =>
    intro i N o6 o7 h i0 i1 hf
    have hl1 : N 27 0 = vs.length := by rw [hf 27 (by omega)]; exact hv.1
    refine S.iload (pc' := 66) dX11_trick_64 rfl rfl ?_
    refine S.aload_n (pc' := 67) dX11_trick_66 rfl rfl rfl ?_
    refine S.getR (pc' := 70) dX11_trick_67 rfl fX11_37 L_0 rf_0_5 ?_
    refine S.getI (pc' := 73) dX11_trick_70 rfl fX11_205 (vs_lay vs27) ?_
    refine S.icmp_gt (pc' := 76) (tgt := 188) dX11_trick_73 (by decide) rfl (by unfold fp_rng; omega) (by unfold fp_rng; omega) (fun h73 => ?_) (fun h73 => ?_)
    · refine S.bipush (pc' := 190) dX11_trick_188 rfl (by decide) ?_
      refine S.iret dX11_trick_190 rfl ?_
      exact ⟨rfl, hcs'.trk hf, hf.c⟩
    · exfalso; omega
  | succ n ih =>
    intro i N o6 o7 h i0 i1 hf
    have hl1 : N 27 0 = vs.length := by rw [hf 27 (by omega)]; exact hv.1
    have hd' : gdIs N 18 g := hd.kept (fun a q1 q2 => hf a (by omega))
    have hv' : vsIs N 27 vs := hv.kept (fun a q1 q2 => hf a (by omega))
    have hc' : clIs N 22 g pg := hcl.kept (fun a q1 q2 => hf a (by omega))
    have es : aTi g pg vs p r t w (n + 1) i = match aTj g pg vs p r t w i ((vs.length : Int) + 1 - i).toNat i with
      | some z => z
      | none => aTi g pg vs p r t w n (i + 1) := rfl
    have htail : ∀ O o6 o7, frK M O → fp_S l G 5 kX11_trick 182 [some (rV G 0), some (iV p), some (iV r), some (iV t), some (iV w), some (iV i), o6, o7] [] O (qI fun z O => z = aTi g pg vs p r t w n (i + 1) ∧ CS O tp fl g pg vs nt im sh tn ∧ frC M O) := by
      intro O o6 o7 fO
      refine S.iinc (pc' := 185) (LL' := [_, _, _, _, _, _, _, _]) dX11_trick_182 rfl (by decide) rfl rfl rfl ?_
      refine S.goto (pc' := 64) dX11_trick_185 (by decide) ?_
      exact ih _ _ _ _ (by omega) (by omega) (by omega) fO
    refine S.iload (pc' := 66) dX11_trick_64 rfl rfl ?_
    refine S.aload_n (pc' := 67) dX11_trick_66 rfl rfl rfl ?_
    refine S.getR (pc' := 70) dX11_trick_67 rfl fX11_37 L_0 rf_0_5 ?_
    refine S.getI (pc' := 73) dX11_trick_70 rfl fX11_205 (vs_lay vs27) ?_
    refine S.icmp_gt (pc' := 76) (tgt := 188) dX11_trick_73 (by decide) rfl (by unfold fp_rng; omega) (by unfold fp_rng; omega) (fun h73 => ?_) (fun h73 => ?_)
    · exfalso; omega
    · refine S.aload_n (pc' := 77) dX11_trick_76 rfl rfl rfl ?_
      refine S.getR (pc' := 80) dX11_trick_77 rfl fX11_51 L_0 rf_0_7 ?_
      refine S.aload_n (pc' := 81) dX11_trick_80 rfl rfl rfl ?_
      refine S.getR (pc' := 84) dX11_trick_81 rfl fX11_23 L_0 rf_0_3 ?_
      refine S.aload_n (pc' := 85) dX11_trick_84 rfl rfl rfl ?_
      refine S.getR (pc' := 88) dX11_trick_85 rfl fX11_37 L_0 rf_0_5 ?_
      refine S.aload_n (pc' := 89) dX11_trick_88 rfl rfl rfl ?_
      refine S.getR (pc' := 92) dX11_trick_89 rfl fX11_30 L_0 rf_0_4 ?_
      refine S.iload (pc' := 94) dX11_trick_92 rfl rfl ?_
      refine S.iload_n (pc' := 95) dX11_trick_94 rfl rfl rfl ?_
      refine S.callVv (pc' := 98) dX11_trick_95 rfl cX11_228 (rk_X8_tryTrick hp hr hpr ⟨i0, by omega⟩ ho.2.1 ho.1 ho.2.2.1 hd' hc' hv') rfl L_34 (by decide) rfl (Nat.le_of_ble_eq_true rfl) (fun M95 q95 => ?_)
      obtain ⟨t9, f9⟩ := q95
      refine S.iload (pc' := 100) dX11_trick_98 rfl rfl ?_
      refine S.istore (pc' := 102) (LL' := [_, _, _, _, _, _, _, _]) dX11_trick_100 rfl (by decide) rfl rfl ?_
      exact ctrick_j hp hr ht hw i0 ho hcs' _ i _ _ rfl (by omega) (by omega) (hf.trans f9) (by rw [show (i - i).toNat = 0 by omega]; exact t9) (fun O z fO hz => ⟨by rw [es, hz], hcs'.trk fO, fO.c⟩) (fun O o6 o7 fO hz => by rw [es, hz]; exact htail O o6 o7 fO)
theorem cc_trick {p r t w : Int} (hc : CS M tp fl g pg vs nt im sh tn) (ho : OK g pg vs nt im sh) (hp : fp_rng p) (hr : fp_rng r) (ht : fp_rng t) (hw : fp_rng w) : fp_Ok l G 5 kX11_trick [rV G 0, iV p, iV r, iV t, iV w] M (qI fun z N => z = A_trick g pg vs p r t w ∧ CS N tp fl g pg vs nt im sh tn ∧ frC M N) := by
  have hcs := hc
  obtain ⟨-, hd, hcl, hv, -⟩ := hc
  have ho' := ho
  obtain ⟨hg, hP, hvo, -⟩ := ho
  have hg1 := hg.1
  refine fp_Ok.of (r := 3) rfl (Nat.le_of_ble_eq_true rfl) rfl ?_
  unfold A_trick
  by_cases hin : (0 ≤ p ∧ p < 4) ∧ (0 ≤ r ∧ r < g.1) ∧ (0 ≤ t ∧ t < g.1) ∧ t ≠ r ∧ (0 ≤ w ∧ w ≤ 2)
  · rw [if_neg (fun q => q hin)]
    have c1 : M (22 + 1) r.toNat = pg.1 r := hcl.1 r hin.2.1.1 hin.2.1.2
    have c2 := hP.1 r hin.2.1.1 hin.2.1.2
    have hg2 := hg.2.1
    by_cases hq : pg.1 r = p
    · rw [if_neg (fun q => q hq)]
      refine S.iload_n (pc' := 1) dX11_trick_0 rfl rfl rfl ?_
      refine S.callSi (pc' := 4) dX11_trick_1 rfl cX11_181 (bk_X11_isOne) rfl (by decide) rfl (Nat.le_of_ble_eq_true rfl) (fun z1 M1 q1 => ?_)
      obtain ⟨b1, rfl⟩ := q1
      refine S.if_eq (pc' := 7) (tgt := 43) dX11_trick_4 (by decide) rfl (by unfold fp_rng; omega) (fun h4 => ?_) (fun h4 => ?_)
      · exfalso; omega
      · refine S.aload_n (pc' := 8) dX11_trick_7 rfl rfl rfl ?_
        refine S.getR (pc' := 11) dX11_trick_8 rfl fX11_23 L_0 rf_0_3 ?_
        refine S.iload_n (pc' := 12) dX11_trick_11 rfl rfl rfl ?_
        refine S.callVi (pc' := 15) dX11_trick_12 rfl cX11_126 (bk_X1_hasThing gd18) rfl (gd_lay gd18) (by decide) rfl (Nat.le_of_ble_eq_true rfl) (fun z12 M12 q12 => ?_)
        obtain ⟨b12, rfl⟩ := q12
        refine S.if_eq (pc' := 18) (tgt := 43) dX11_trick_15 (by decide) rfl (by unfold fp_rng; omega) (fun h15 => ?_) (fun h15 => ?_)
        · exfalso; omega
        · refine S.aload_n (pc' := 19) dX11_trick_18 rfl rfl rfl ?_
          refine S.getR (pc' := 22) dX11_trick_19 rfl fX11_23 L_0 rf_0_3 ?_
          refine S.iload_n (pc' := 23) dX11_trick_22 rfl rfl rfl ?_
          refine S.callVi (pc' := 26) dX11_trick_23 rfl cX11_126 (bk_X1_hasThing gd18) rfl (gd_lay gd18) (by decide) rfl (Nat.le_of_ble_eq_true rfl) (fun z23 M23 q23 => ?_)
          obtain ⟨b23, rfl⟩ := q23
          refine S.if_eq (pc' := 29) (tgt := 43) dX11_trick_26 (by decide) rfl (by unfold fp_rng; omega) (fun h26 => ?_) (fun h26 => ?_)
          · exfalso; omega
          · refine S.iload_n (pc' := 30) dX11_trick_29 rfl rfl rfl ?_
            refine S.iload_n (pc' := 31) dX11_trick_30 rfl rfl rfl ?_
            refine S.icmp_eq (pc' := 34) (tgt := 43) dX11_trick_31 (by decide) rfl ht hr (fun h31 => ?_) (fun h31 => ?_)
            · exfalso; omega
            · refine S.iload (pc' := 36) dX11_trick_34 rfl rfl ?_
              refine S.iconst (pc' := 37) dX11_trick_36 rfl ?_
              refine S.callSi (pc' := 40) dX11_trick_37 rfl cX11_221 (bk_X11_isWithin) rfl (by decide) rfl (Nat.le_of_ble_eq_true rfl) (fun z37 M37 q37 => ?_)
              obtain ⟨b37, rfl⟩ := q37
              refine S.if_ne (pc' := 43) (tgt := 45) dX11_trick_40 (by decide) rfl (by unfold fp_rng; omega) (fun h40 => ?_) (fun h40 => ?_)
              · refine S.aload_n (pc' := 46) dX11_trick_45 rfl rfl rfl ?_
                refine S.getR (pc' := 49) dX11_trick_46 rfl fX11_30 L_0 rf_0_4 ?_
                refine S.getR (pc' := 52) dX11_trick_49 rfl fX11_138 (pl_lay pl22) (pl_r0 pl22) ?_
                refine S.iload_n (pc' := 53) dX11_trick_52 rfl rfl rfl ?_
                refine S.iald (pc' := 54) dX11_trick_53 rfl (pl_a0 pl22) (by omega) (by omega) ?_
                refine S.iload_n (pc' := 55) dX11_trick_54 rfl rfl rfl ?_
                refine S.icmp_eq (pc' := 58) (tgt := 61) dX11_trick_55 (by decide) rfl (by unfold fp_rng; omega) (by unfold fp_rng; omega) (fun h55 => ?_) (fun h55 => ?_)
                · refine S.iconst (pc' := 62) dX11_trick_61 rfl ?_
                  refine S.istore (pc' := 64) (LL' := [_, _, _, _, _, _, _, _]) dX11_trick_62 rfl (by decide) rfl rfl ?_
                  exact ctrick_i hin.1 hin.2.1 hin.2.2.1 hin.2.2.2.2 hq ho' hcs (vs.length + 1) 0 _ none none (by omega) (by omega) (by omega) (frK.refl _)
                · exfalso; omega
              · exfalso; omega
    · rw [if_pos hq]
      refine S.iload_n (pc' := 1) dX11_trick_0 rfl rfl rfl ?_
      refine S.callSi (pc' := 4) dX11_trick_1 rfl cX11_181 (bk_X11_isOne) rfl (by decide) rfl (Nat.le_of_ble_eq_true rfl) (fun z1 M1 q1 => ?_)
      obtain ⟨b1, rfl⟩ := q1
      refine S.if_eq (pc' := 7) (tgt := 43) dX11_trick_4 (by decide) rfl (by unfold fp_rng; omega) (fun h4 => ?_) (fun h4 => ?_)
      · exfalso; omega
      · refine S.aload_n (pc' := 8) dX11_trick_7 rfl rfl rfl ?_
        refine S.getR (pc' := 11) dX11_trick_8 rfl fX11_23 L_0 rf_0_3 ?_
        refine S.iload_n (pc' := 12) dX11_trick_11 rfl rfl rfl ?_
        refine S.callVi (pc' := 15) dX11_trick_12 rfl cX11_126 (bk_X1_hasThing gd18) rfl (gd_lay gd18) (by decide) rfl (Nat.le_of_ble_eq_true rfl) (fun z12 M12 q12 => ?_)
        obtain ⟨b12, rfl⟩ := q12
        refine S.if_eq (pc' := 18) (tgt := 43) dX11_trick_15 (by decide) rfl (by unfold fp_rng; omega) (fun h15 => ?_) (fun h15 => ?_)
        · exfalso; omega
        · refine S.aload_n (pc' := 19) dX11_trick_18 rfl rfl rfl ?_
          refine S.getR (pc' := 22) dX11_trick_19 rfl fX11_23 L_0 rf_0_3 ?_
          refine S.iload_n (pc' := 23) dX11_trick_22 rfl rfl rfl ?_
          refine S.callVi (pc' := 26) dX11_trick_23 rfl cX11_126 (bk_X1_hasThing gd18) rfl (gd_lay gd18) (by decide) rfl (Nat.le_of_ble_eq_true rfl) (fun z23 M23 q23 => ?_)
          obtain ⟨b23, rfl⟩ := q23
          refine S.if_eq (pc' := 29) (tgt := 43) dX11_trick_26 (by decide) rfl (by unfold fp_rng; omega) (fun h26 => ?_) (fun h26 => ?_)
          · exfalso; omega
          · refine S.iload_n (pc' := 30) dX11_trick_29 rfl rfl rfl ?_
            refine S.iload_n (pc' := 31) dX11_trick_30 rfl rfl rfl ?_
            refine S.icmp_eq (pc' := 34) (tgt := 43) dX11_trick_31 (by decide) rfl ht hr (fun h31 => ?_) (fun h31 => ?_)
            · exfalso; omega
            · refine S.iload (pc' := 36) dX11_trick_34 rfl rfl ?_
              refine S.iconst (pc' := 37) dX11_trick_36 rfl ?_
              refine S.callSi (pc' := 40) dX11_trick_37 rfl cX11_221 (bk_X11_isWithin) rfl (by decide) rfl (Nat.le_of_ble_eq_true rfl) (fun z37 M37 q37 => ?_)
              obtain ⟨b37, rfl⟩ := q37
              refine S.if_ne (pc' := 43) (tgt := 45) dX11_trick_40 (by decide) rfl (by unfold fp_rng; omega) (fun h40 => ?_) (fun h40 => ?_)
              · refine S.aload_n (pc' := 46) dX11_trick_45 rfl rfl rfl ?_
                refine S.getR (pc' := 49) dX11_trick_46 rfl fX11_30 L_0 rf_0_4 ?_
                refine S.getR (pc' := 52) dX11_trick_49 rfl fX11_138 (pl_lay pl22) (pl_r0 pl22) ?_
                refine S.iload_n (pc' := 53) dX11_trick_52 rfl rfl rfl ?_
                refine S.iald (pc' := 54) dX11_trick_53 rfl (pl_a0 pl22) (by omega) (by omega) ?_
                refine S.iload_n (pc' := 55) dX11_trick_54 rfl rfl rfl ?_
                refine S.icmp_eq (pc' := 58) (tgt := 61) dX11_trick_55 (by decide) rfl (by unfold fp_rng; omega) (by unfold fp_rng; omega) (fun h55 => ?_) (fun h55 => ?_)
                · exfalso; omega
                · refine S.bipush (pc' := 60) dX11_trick_58 rfl (by decide) ?_
                  refine S.iret dX11_trick_60 rfl ?_
                  exact ⟨rfl, hcs, frC.refl _⟩
              · exfalso; omega
  · rw [if_pos hin]
    refine S.iload_n (pc' := 1) dX11_trick_0 rfl rfl rfl ?_
    refine S.callSi (pc' := 4) dX11_trick_1 rfl cX11_181 (bk_X11_isOne) rfl (by decide) rfl (Nat.le_of_ble_eq_true rfl) (fun z1 M1 q1 => ?_)
    obtain ⟨b1, rfl⟩ := q1
    refine S.if_eq (pc' := 7) (tgt := 43) dX11_trick_4 (by decide) rfl (by unfold fp_rng; omega) (fun h4 => ?_) (fun h4 => ?_)
    · refine S.iconst (pc' := 44) dX11_trick_43 rfl ?_
      refine S.iret dX11_trick_44 rfl ?_
      exact ⟨rfl, hcs, frC.refl _⟩
    · refine S.aload_n (pc' := 8) dX11_trick_7 rfl rfl rfl ?_
      refine S.getR (pc' := 11) dX11_trick_8 rfl fX11_23 L_0 rf_0_3 ?_
      refine S.iload_n (pc' := 12) dX11_trick_11 rfl rfl rfl ?_
      refine S.callVi (pc' := 15) dX11_trick_12 rfl cX11_126 (bk_X1_hasThing gd18) rfl (gd_lay gd18) (by decide) rfl (Nat.le_of_ble_eq_true rfl) (fun z12 M12 q12 => ?_)
      obtain ⟨b12, rfl⟩ := q12
      refine S.if_eq (pc' := 18) (tgt := 43) dX11_trick_15 (by decide) rfl (by unfold fp_rng; omega) (fun h15 => ?_) (fun h15 => ?_)
      · refine S.iconst (pc' := 44) dX11_trick_43 rfl ?_
        refine S.iret dX11_trick_44 rfl ?_
        exact ⟨rfl, hcs, frC.refl _⟩
      · refine S.aload_n (pc' := 19) dX11_trick_18 rfl rfl rfl ?_
        refine S.getR (pc' := 22) dX11_trick_19 rfl fX11_23 L_0 rf_0_3 ?_
        refine S.iload_n (pc' := 23) dX11_trick_22 rfl rfl rfl ?_
        refine S.callVi (pc' := 26) dX11_trick_23 rfl cX11_126 (bk_X1_hasThing gd18) rfl (gd_lay gd18) (by decide) rfl (Nat.le_of_ble_eq_true rfl) (fun z23 M23 q23 => ?_)
        obtain ⟨b23, rfl⟩ := q23
        refine S.if_eq (pc' := 29) (tgt := 43) dX11_trick_26 (by decide) rfl (by unfold fp_rng; omega) (fun h26 => ?_) (fun h26 => ?_)
        · refine S.iconst (pc' := 44) dX11_trick_43 rfl ?_
          refine S.iret dX11_trick_44 rfl ?_
          exact ⟨rfl, hcs, frC.refl _⟩
        · refine S.iload_n (pc' := 30) dX11_trick_29 rfl rfl rfl ?_
          refine S.iload_n (pc' := 31) dX11_trick_30 rfl rfl rfl ?_
          refine S.icmp_eq (pc' := 34) (tgt := 43) dX11_trick_31 (by decide) rfl ht hr (fun h31 => ?_) (fun h31 => ?_)
          · refine S.iconst (pc' := 44) dX11_trick_43 rfl ?_
            refine S.iret dX11_trick_44 rfl ?_
            exact ⟨rfl, hcs, frC.refl _⟩
          · refine S.iload (pc' := 36) dX11_trick_34 rfl rfl ?_
            refine S.iconst (pc' := 37) dX11_trick_36 rfl ?_
            refine S.callSi (pc' := 40) dX11_trick_37 rfl cX11_221 (bk_X11_isWithin) rfl (by decide) rfl (Nat.le_of_ble_eq_true rfl) (fun z37 M37 q37 => ?_)
            obtain ⟨b37, rfl⟩ := q37
            refine S.if_ne (pc' := 43) (tgt := 45) dX11_trick_40 (by decide) rfl (by unfold fp_rng; omega) (fun h40 => ?_) (fun h40 => ?_)
            · exfalso; omega
            · refine S.iconst (pc' := 44) dX11_trick_43 rfl ?_
              refine S.iret dX11_trick_44 rfl ?_
              exact ⟨rfl, hcs, frC.refl _⟩
end CTR
