/-! TRICK, the class -/
def frK (M N : fp_Mem) : Prop := ∀ a, (a < 37 ∨ (37 < a ∧ a < 41) ∨ (45 < a ∧ a < 106) ∨ 120 < a) → N a = M a
theorem frK.refl (M : fp_Mem) : frK M M := fun _ _ => rfl
theorem frK.trans {M N O : fp_Mem} (h1 : frK M N) (h2 : frK N O) : frK M O := fun a ha => (h2 a ha).trans (h1 a ha)
theorem frK.c {M N : fp_Mem} (h : frK M N) : frC M N := fun c hc => h c (by omega)
def tkIs (N : fp_Mem) (g : aGd) (pg : aPg) (vs : List aVt) (p r i : Int) (q : Nat) : Prop := ∀ x : Int, 0 ≤ x → x < g.2.1 → N 37 x.toNat = (aApp (aRun g pg vs i.toNat) p r x).1 ∧ ((aApp (aRun g pg vs i.toNat) p r x).1 ≠ 0 → clIs N (106 + 5 * x.toNat) g (aTk g pg vs p r i x q))
section CTR
variable {l : Launch} {G : fp_WG} {M N : fp_Mem} {tp tp' : List Int} {fl fl' : Int} {g : aGd} {pg pg' : aPg} {vs vs' : List aVt} {nt nt' : List Int} {im im' : aIm} {sh sh' : aSh} {tn tn' : Int} {k k2 : Nat}
theorem CS.trk (h : CS M tp fl g pg vs nt im sh tn) (e : frK M N) : CS N tp fl g pg vs nt im sh tn := h.kept (fun a ha => e a (by omega))
theorem ctry_loop {p r i : Int} (hp : 0 ≤ p ∧ p < 4) (hr : 0 ≤ r ∧ r < g.1) (hpr : pg.1 r = p) (hP : pgOk g pg) (hg : gOk g) (hvo : vsOk g vs) (hd : gdIs M 18 g) (hcl : clIs M 22 g pg) : ∀ (n : Nat) (x : Int) (N : fp_Mem), (g.2.1 - x).toNat < n → 0 ≤ x → x ≤ g.2.1 → frK M N → clIs N 41 g (aRun g pg vs i.toNat) → (∀ y : Int, 0 ≤ y → y < x → N 37 y.toNat = (aApp (aRun g pg vs i.toNat) p r y).1 ∧ clIs N (106 + 5 * y.toNat) g (aTk g pg vs p r i y 0)) →
    fp_S l G 4 kX8_tryTrick 14 [some (rV G 34), some (rV G 18), some (rV G 27), some (rV G 22), some (iV i), some (iV r), some (rV G 41), some (iV x)] [] N (qV fun O => tkIs O g pg vs p r i 0 ∧ frK M O) := by
  have hg1 := hg.1
  have hg2 := hg.2.1
  have hPi := aRun_ok hg hP hvo i.toNat
  intro n
  induction n with
  | zero => intro x N h; omega
  | succ n ih =>
    intro x N h x0 x1 hf hc hy
    have hd1 : N 18 1 = g.2.1 := by rw [hf 18 (by omega)]; exact hd.2.1
    have h01 := aApp_01 (aRun g pg vs i.toNat) p r x
    by_cases hlt : x < g.2.1
    · have ho1 := trk_o x0 (show x < 3 by omega)
      have hwr : ∀ O : fp_Mem, O 23 = M 23 → O 23 r.toNat = p := fun O e => by rw [e, ← hpr]; exact hcl.1 r hr.1 hr.2
      refine S.iload (pc' := 16) dX8_tryTrick_14 rfl rfl ?_
      refine S.aload_n (pc' := 17) dX8_tryTrick_16 rfl rfl rfl ?_
      refine S.getI (pc' := 20) dX8_tryTrick_17 rfl fX8_50 (gd_lay gd18) ?_
      refine S.icmp_ge (pc' := 23) (tgt := 69) dX8_tryTrick_20 (by decide) rfl (by unfold fp_rng; omega) (by unfold fp_rng; omega) (fun h20 => ?_) (fun h20 => ?_)
      · exfalso; omega
      · refine S.aload_n (pc' := 24) dX8_tryTrick_23 rfl rfl rfl ?_
        refine S.getR (pc' := 27) dX8_tryTrick_24 rfl fX8_17 L_34 rf_34_1 ?_
        refine S.iload (pc' := 29) dX8_tryTrick_27 rfl rfl ?_
        refine S.aald (pc' := 30) dX8_tryTrick_29 rfl L_36 (by decide) (by decide) (by omega) (by omega) (trk_r (by omega) (by omega)) ?_
        refine S.aload (pc' := 32) dX8_tryTrick_30 rfl rfl ?_
        refine S.callVv (pc' := 35) dX8_tryTrick_32 rfl cX8_36 (rk_X5_copyFrom (g := g) (pg := aRun g pg vs i.toNat) ho1 pl41 (by omega)) rfl (pl_lay (trk_o (by omega) (by omega))) (by decide) rfl (Nat.le_of_ble_eq_true rfl) (fun M32 q32 => ?_)
        obtain ⟨c1, f1⟩ := q32
        refine S.aload_n (pc' := 36) dX8_tryTrick_35 rfl rfl rfl ?_
        refine S.getR (pc' := 39) dX8_tryTrick_36 rfl fX8_20 L_34 rf_34_2 ?_
        refine S.iload (pc' := 41) dX8_tryTrick_39 rfl rfl ?_
        refine S.aload_n (pc' := 42) dX8_tryTrick_41 rfl rfl rfl ?_
        refine S.getR (pc' := 45) dX8_tryTrick_42 rfl fX8_17 L_34 rf_34_1 ?_
        refine S.iload (pc' := 47) dX8_tryTrick_45 rfl rfl ?_
        refine S.aald (pc' := 48) dX8_tryTrick_47 rfl L_36 (by decide) (by decide) (by omega) (by omega) (trk_r (by omega) (by omega)) ?_
        refine S.aload_n (pc' := 49) dX8_tryTrick_48 rfl rfl rfl ?_
        refine S.getR (pc' := 52) dX8_tryTrick_49 rfl fX8_56 (pl_lay pl22) (pl_r0 pl22) ?_
        refine S.iload (pc' := 54) dX8_tryTrick_52 rfl rfl ?_
        refine S.iald (pc' := 55) dX8_tryTrick_54 rfl (pl_a0 pl22) (by omega) (by omega) ?_
        refine S.iload (pc' := 57) dX8_tryTrick_55 rfl rfl ?_
        refine S.iload (pc' := 59) dX8_tryTrick_57 rfl rfl ?_
        rw [hwr M32 (by rw [f1 23 (by omega), hf 23 (by omega)])]
        refine S.callVi (pc' := 62) dX8_tryTrick_59 rfl cX8_59 (rk_X5_append (g := g) (pg := aRun g pg vs i.toNat) ho1) rfl (pl_lay (trk_o (by omega) (by omega))) (by decide) rfl (Nat.le_of_ble_eq_true rfl) (fun z59 M59 q59 => ?_)
        obtain ⟨z2, c2, f2⟩ := q59
        refine S.zast (pc' := 63) dX8_tryTrick_62 rfl L_37 (by omega) (by omega) (by first | exact Or.inl rfl | exact Or.inr rfl | omega) ?_
        refine S.iinc (pc' := 66) (LL' := [_, _, _, _, _, _, _, _]) dX8_tryTrick_63 rfl (by decide) rfl rfl rfl ?_
        refine S.goto (pc' := 14) dX8_tryTrick_66 (by decide) ?_
        refine ih _ _ (by omega) (by omega) (by omega) (fun a ha => by rw [fp_up_ne (by omega), f2 a (by omega), f1 a (by omega)]; exact hf a ha) (hc.kept (fun a q1 q2 => by rw [fp_up_ne (by omega), f2 a (by omega), f1 a (by omega)])) (fun y y0 y1 => ?_)
        by_cases e : y = x
        · subst e; exact ⟨by rw [fp_up_at, fp_upf_at]; exact z2, c2.kept (fun a q1 q2 => fp_up_ne (by omega))⟩
        · obtain ⟨u1, u2⟩ := hy y y0 (by omega)
          exact ⟨by rw [fp_up_at, fp_upf_ne (by omega), f2 37 (by omega), f1 37 (by omega)]; exact u1, u2.kept (fun a q1 q2 => by rw [fp_up_ne (by omega), f2 a (by omega), f1 a (by omega)])⟩
    · refine S.iload (pc' := 16) dX8_tryTrick_14 rfl rfl ?_
      refine S.aload_n (pc' := 17) dX8_tryTrick_16 rfl rfl rfl ?_
      refine S.getI (pc' := 20) dX8_tryTrick_17 rfl fX8_50 (gd_lay gd18) ?_
      refine S.icmp_ge (pc' := 23) (tgt := 69) dX8_tryTrick_20 (by decide) rfl (by unfold fp_rng; omega) (by unfold fp_rng; omega) (fun h20 => ?_) (fun h20 => ?_)
      · refine S.vret dX8_tryTrick_69 rfl ?_
        exact ⟨fun y y0 y1 => ⟨(hy y y0 (by omega)).1, fun _ => (hy y y0 (by omega)).2⟩, hf⟩
      · exfalso; omega
theorem rk_X8_tryTrick {p r i : Int} (hp : 0 ≤ p ∧ p < 4) (hr : 0 ≤ r ∧ r < g.1) (hpr : pg.1 r = p) (hi : 0 ≤ i ∧ i ≤ vs.length) (hP : pgOk g pg) (hg : gOk g) (hvo : vsOk g vs) (hd : gdIs M 18 g) (hcl : clIs M 22 g pg) (hv : vsIs M 27 vs) : fp_Ok l G 4 kX8_tryTrick [rV G 34, rV G 18, rV G 27, rV G 22, iV i, iV r] M (qV fun O => tkIs O g pg vs p r i 0 ∧ frK M O) := by
  have hg2 := hg.2.1
  refine fp_Ok.of (r := 2) rfl (Nat.le_of_ble_eq_true rfl) rfl ?_
  refine S.aload_n (pc' := 1) dX8_tryTrick_0 rfl rfl rfl ?_
  refine S.aload_n (pc' := 2) dX8_tryTrick_1 rfl rfl rfl ?_
  refine S.aload_n (pc' := 3) dX8_tryTrick_2 rfl rfl rfl ?_
  refine S.aload_n (pc' := 4) dX8_tryTrick_3 rfl rfl rfl ?_
  refine S.iload (pc' := 6) dX8_tryTrick_4 rfl rfl ?_
  refine S.callVr (pc' := 9) dX8_tryTrick_6 rfl cX8_46 (rk_X8_behind (g := g) (pg := pg) (vs := vs) gd18 vs27 pl22) rfl L_34 (by decide) rfl (Nat.le_of_ble_eq_true rfl) (fun z6 M6 q6 => ?_)
  obtain ⟨rfl, c1, f1⟩ := q6
  refine S.astore (pc' := 11) (LL' := [_, _, _, _, _, _, _, _]) dX8_tryTrick_9 rfl (by decide) rfl rfl ?_
  refine S.iconst (pc' := 12) dX8_tryTrick_11 rfl ?_
  refine S.istore (pc' := 14) (LL' := [_, _, _, _, _, _, _, _]) dX8_tryTrick_12 rfl (by decide) rfl rfl ?_
  exact ctry_loop hp hr hpr hP hg hvo hd hcl (g.2.1.toNat + 1) 0 _ (by omega) (by omega) (by omega) (fun a ha => f1 a (by omega)) c1 (fun y y0 y1 => by omega)
theorem cgo_loop {p r i j : Int} (hp : 0 ≤ p ∧ p < 4) (hr : 0 ≤ r ∧ r < g.1) (hi : 0 ≤ i ∧ i ≤ j) (hj : j ≤ vs.length) (hP : pgOk g pg) (hg : gOk g) (hvo : vsOk g vs) (hd : gdIs M 18 g) (hv : vsIs M 27 vs) : ∀ (n : Nat) (x : Int) (N : fp_Mem), (g.2.1 - x).toNat < n → 0 ≤ x → x ≤ g.2.1 → frK M N → (∀ y : Int, 0 ≤ y → y < g.2.1 → N 37 y.toNat = (aApp (aRun g pg vs i.toNat) p r y).1 ∧ ((aApp (aRun g pg vs i.toNat) p r y).1 ≠ 0 → clIs N (106 + 5 * y.toNat) g (if y < x then aTk g pg vs p r i y (j + 1 - i).toNat else aTk g pg vs p r i y (j - i).toNat))) →
    fp_S l G 3 kX8_goOnWithTrick 3 [some (rV G 34), some (rV G 18), some (rV G 27), some (iV j), some (iV x)] [] N (qV fun O => tkIs O g pg vs p r i (j + 1 - i).toNat ∧ frK M O) := by
  have hl := hv.2.1
  have hg2 := hg.2.1
  intro n
  induction n with
  | zero => intro x N h; omega
  | succ n ih =>
    intro x N h x0 x1 hf hy
    have hd' : gdIs N 18 g := hd.kept (fun a q1 q2 => hf a (by omega))
    have hv' : vsIs N 27 vs := hv.kept (fun a q1 q2 => hf a (by omega))
    have hd1 : N 18 1 = g.2.1 := hd'.2.1
    have h01 := aApp_01 (aRun g pg vs i.toNat) p r x
    by_cases hlt : x < g.2.1
    · have ho1 := trk_o x0 (show x < 3 by omega)
      obtain ⟨w1, w2⟩ := hy x x0 hlt
      rw [if_neg (show ¬ x < x by omega)] at w2
      have hPx := aTk_ok (i := i) hg hP hvo hp hr ⟨x0, hlt⟩ (j - i).toNat
      have er := aTk_succ (g := g) (pg := pg) (vs := vs) (p := p) (r := r) (x := x) hi.2
      by_cases hop : (aApp (aRun g pg vs i.toNat) p r x).1 = 0
      · refine S.iload (pc' := 5) dX8_goOnWithTrick_3 rfl rfl ?_
        refine S.aload_n (pc' := 6) dX8_goOnWithTrick_5 rfl rfl rfl ?_
        refine S.getI (pc' := 9) dX8_goOnWithTrick_6 rfl fX8_50 (gd_lay gd18) ?_
        refine S.icmp_ge (pc' := 12) (tgt := 42) dX8_goOnWithTrick_9 (by decide) rfl (by unfold fp_rng; omega) (by unfold fp_rng; omega) (fun h9 => ?_) (fun h9 => ?_)
        · exfalso; omega
        · refine S.aload_n (pc' := 13) dX8_goOnWithTrick_12 rfl rfl rfl ?_
          refine S.getR (pc' := 16) dX8_goOnWithTrick_13 rfl fX8_20 L_34 rf_34_2 ?_
          refine S.iload (pc' := 18) dX8_goOnWithTrick_16 rfl rfl ?_
          refine S.zald (pc' := 19) dX8_goOnWithTrick_18 rfl L_37 (by omega) (by omega) ?_
          refine S.if_eq (pc' := 22) (tgt := 36) dX8_goOnWithTrick_19 (by decide) rfl (by unfold fp_rng; omega) (fun h19 => ?_) (fun h19 => ?_)
          · refine S.iinc (pc' := 39) (LL' := [_, _, _, _, _]) dX8_goOnWithTrick_36 rfl (by decide) rfl rfl rfl ?_
            refine S.goto (pc' := 3) dX8_goOnWithTrick_39 (by decide) ?_
            refine ih _ _ (by omega) (by omega) (by omega) hf (fun y y0 y1 => ⟨(hy y y0 y1).1, fun q => ?_⟩)
            have u2 := (hy y y0 y1).2 q
            by_cases e : y = x
            · subst e; exact absurd hop q
            · by_cases e2 : y < x
              · rw [if_pos e2] at u2; rw [if_pos (by omega)]; exact u2
              · rw [if_neg e2] at u2; rw [if_neg (by omega)]; exact u2
          · exfalso; omega
      · have w3 := w2 hop
        refine S.iload (pc' := 5) dX8_goOnWithTrick_3 rfl rfl ?_
        refine S.aload_n (pc' := 6) dX8_goOnWithTrick_5 rfl rfl rfl ?_
        refine S.getI (pc' := 9) dX8_goOnWithTrick_6 rfl fX8_50 (gd_lay gd18) ?_
        refine S.icmp_ge (pc' := 12) (tgt := 42) dX8_goOnWithTrick_9 (by decide) rfl (by unfold fp_rng; omega) (by unfold fp_rng; omega) (fun h9 => ?_) (fun h9 => ?_)
        · exfalso; omega
        · refine S.aload_n (pc' := 13) dX8_goOnWithTrick_12 rfl rfl rfl ?_
          refine S.getR (pc' := 16) dX8_goOnWithTrick_13 rfl fX8_20 L_34 rf_34_2 ?_
          refine S.iload (pc' := 18) dX8_goOnWithTrick_16 rfl rfl ?_
          refine S.zald (pc' := 19) dX8_goOnWithTrick_18 rfl L_37 (by omega) (by omega) ?_
          refine S.if_eq (pc' := 22) (tgt := 36) dX8_goOnWithTrick_19 (by decide) rfl (by unfold fp_rng; omega) (fun h19 => ?_) (fun h19 => ?_)
          · refine S.iinc (pc' := 39) (LL' := [_, _, _, _, _]) dX8_goOnWithTrick_36 rfl (by decide) rfl rfl rfl ?_
            refine S.goto (pc' := 3) dX8_goOnWithTrick_39 (by decide) ?_
            try (exfalso; omega)
            all_goals
              refine ih _ _ (by omega) (by omega) (by omega) (fun a ha => by rw [f1 a (by omega)]; exact hf a ha) (fun y y0 y1 => ⟨by rw [f1 37 (by omega)]; exact (hy y y0 y1).1, fun q => ?_⟩)
              have u2 := (hy y y0 y1).2 q
              by_cases e : y = x
              · subst e; rw [if_pos (by omega)]; exact c1
              · have u3 := u2.kept (fun a q1 q2 => f1 a (by omega))
                by_cases e2 : y < x
                · rw [if_pos e2] at u3; rw [if_pos (by omega)]; exact u3
                · rw [if_neg e2] at u3; rw [if_neg (by omega)]; exact u3
          · refine S.aload_n (pc' := 23) dX8_goOnWithTrick_22 rfl rfl rfl ?_
            refine S.aload_n (pc' := 24) dX8_goOnWithTrick_23 rfl rfl rfl ?_
            refine S.aload_n (pc' := 25) dX8_goOnWithTrick_24 rfl rfl rfl ?_
            refine S.getR (pc' := 28) dX8_goOnWithTrick_25 rfl fX8_17 L_34 rf_34_1 ?_
            refine S.iload (pc' := 30) dX8_goOnWithTrick_28 rfl rfl ?_
            refine S.aald (pc' := 31) dX8_goOnWithTrick_30 rfl L_36 (by decide) (by decide) (by omega) (by omega) (trk_r (by omega) (by omega)) ?_
            refine S.iload_n (pc' := 32) dX8_goOnWithTrick_31 rfl rfl rfl ?_
            refine S.callVi (pc' := 35) dX8_goOnWithTrick_32 rfl cX8_40 (rk_X10_happens (g := g) (pg := aTk g pg vs p r i x (j - i).toNat) (vs := vs) vs27 gd18 ho1) rfl (vs_lay vs27) (by decide) rfl (Nat.le_of_ble_eq_true rfl) (fun z32 M32 q32 => ?_)
            obtain ⟨z1, c1, f1⟩ := q32
            rw [← er] at c1
            refine S.pop (pc' := 36) dX8_goOnWithTrick_35 rfl rfl ?_
            refine S.iinc (pc' := 39) (LL' := [_, _, _, _, _]) dX8_goOnWithTrick_36 rfl (by decide) rfl rfl rfl ?_
            refine S.goto (pc' := 3) dX8_goOnWithTrick_39 (by decide) ?_
            try (exfalso; omega)
            all_goals
              refine ih _ _ (by omega) (by omega) (by omega) (fun a ha => by rw [f1 a (by omega)]; exact hf a ha) (fun y y0 y1 => ⟨by rw [f1 37 (by omega)]; exact (hy y y0 y1).1, fun q => ?_⟩)
              have u2 := (hy y y0 y1).2 q
              by_cases e : y = x
              · subst e; rw [if_pos (by omega)]; exact c1
              · have u3 := u2.kept (fun a q1 q2 => f1 a (by omega))
                by_cases e2 : y < x
                · rw [if_pos e2] at u3; rw [if_pos (by omega)]; exact u3
                · rw [if_neg e2] at u3; rw [if_neg (by omega)]; exact u3
    · refine S.iload (pc' := 5) dX8_goOnWithTrick_3 rfl rfl ?_
      refine S.aload_n (pc' := 6) dX8_goOnWithTrick_5 rfl rfl rfl ?_
      refine S.getI (pc' := 9) dX8_goOnWithTrick_6 rfl fX8_50 (gd_lay gd18) ?_
      refine S.icmp_ge (pc' := 12) (tgt := 42) dX8_goOnWithTrick_9 (by decide) rfl (by unfold fp_rng; omega) (by unfold fp_rng; omega) (fun h9 => ?_) (fun h9 => ?_)
      · refine S.vret dX8_goOnWithTrick_42 rfl ?_
        refine ⟨fun y y0 y1 => ⟨(hy y y0 y1).1, fun q => ?_⟩, hf⟩
        have u2 := (hy y y0 y1).2 q
        rw [if_pos (by omega)] at u2
        exact u2
      · exfalso; omega
end CTR
