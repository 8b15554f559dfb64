/-! extra of the reference; aim -/
def aLn (g : aGd) (pg : aPg) (t : Int) : Int := fp_find (fun x => aGv g pg x) t g.2.1.toNat 0
def aAim (g : aGd) (pg : aPg) (vs : List aVt) (t : Int) : Nat → Int → Int × Int
  | 0, _ => (-4, -4)
  | n + 1, i => if aLn g (aRun g pg vs i.toNat) t ≠ -4 then (i, aLn g (aRun g pg vs i.toNat) t) else aAim g pg vs t n (i + 1)
def A_aim (g : aGd) (pg : aPg) (vs : List aVt) (t w : Int) : Int := if ¬ ((0 ≤ t ∧ t < g.1) ∧ (0 ≤ w ∧ w ≤ 1)) then -1 else if w = 0 then (aAim g pg vs t (vs.length + 1) 0).1 else (aAim g pg vs t (vs.length + 1) 0).2
section AIM
variable {l : Launch} {G : fp_WG} {M N : fp_Mem} {tp tp' : List Int} {fl fl' : Int} {g : aGd} {pg : aPg} {vs vs' : List aVt} {nt nt' : List Int} {im : aIm} {sh : aSh} {tn tn' : Int} {k k2 kg kv : Nat}
theorem mextra_loop {p x w : Int} (hp : 0 ≤ p ∧ p < 4) (hx : 0 ≤ x ∧ x < g.2.1) (hw : 0 ≤ w ∧ w ≤ 1) (ho : OK g pg vs nt im sh) (hcs : MS M tp fl g pg vs nt im sh tn) : ∀ (n : Nat) (i : Int) (N : fp_Mem) (o7 o8 : Option Value), ((vs.length : Int) + 1 - i).toNat < n → 0 ≤ i → i ≤ vs.length + 1 → frT M N → fp_ok1 [some (rV G 177), some (iV p), some (iV x), some (iV w), some (iV 0), some (iV 0), some (iV i), o7, o8] 8 = true →
    fp_S l G 6 kX12_extra 38 [some (rV G 177), some (iV p), some (iV x), some (iV w), some (iV (aEx g pg vs p x i.toNat).1), some (iV (aEx g pg vs p x i.toNat).2), some (iV i), o7, o8] [] N (qI fun z O => z = (if w = 0 then (aEx g pg vs p x (vs.length + 1)).1 else (aEx g pg vs p x (vs.length + 1)).2) ∧ MS O tp fl g pg vs nt im sh tn ∧ frD M O) := by
  have hcs' := hcs
  obtain ⟨-, hd, hcl, hv, -⟩ := hcs
  have hg := ho.1
  have hP := ho.2.1
  have hvo := ho.2.2.1
  have hv0 : mvIs M vs := hv
  have hl := hv.2.1
  have hg1 := hg.1
  have hg2 := hg.2.1
  intro n
  induction n with
  | zero => intro i N o7 o8 h; omega
  | succ n ih =>
    intro i N o7 o8 h i0 i1 hf ho8
    have es := aEx_succ (g := g) (pg := pg) (vs := vs) (p := p) (x := x) i0
    have hb := aEx_in hg hP hvo hp hx i.toNat
    have hPi := aRun_ok hg hP hvo i.toNat
    have hv' := hf.mv hv0
    have hd' := hf.md hd
    have hc' := hf.mp0 hg hP hcl
    have hl1 := hv'.1
    by_cases hle : i ≤ vs.length
    · have fin : ∀ (N' : fp_Mem) (a b : Int) (o7 o8 : Option Value), frT M N' → fp_ok1 [some (rV G 177), some (iV p), some (iV x), some (iV w), some (iV 0), some (iV 0), some (iV (i + 1)), o7, o8] 8 = true → (a, b) = aEx g pg vs p x (i + 1).toNat → fp_S l G 6 kX12_extra 38 [some (rV G 177), some (iV p), some (iV x), some (iV w), some (iV a), some (iV b), some (iV (i + 1)), o7, o8] [] N' (qI fun z O => z = (if w = 0 then (aEx g pg vs p x (vs.length + 1)).1 else (aEx g pg vs p x (vs.length + 1)).2) ∧ MS O tp fl g pg vs nt im sh tn ∧ frD M O) := by
        intro N' a b o7 o8 hf' h8 hab
        have ha : a = (aEx g pg vs p x (i + 1).toNat).1 := by rw [← hab]
        have hb9 : b = (aEx g pg vs p x (i + 1).toNat).2 := by rw [← hab]
        subst ha
        subst hb9
        exact ih _ _ _ _ (by omega) (by omega) (by omega) hf' h8
      have hq := aGv_in hPi hg hx
      rcases hq with hq | hq
      · refine S.iload (pc' := 40) dX12_extra_38 rfl rfl ?_
        refine S.aload_n (pc' := 41) dX12_extra_40 rfl rfl rfl ?_
        refine S.callVe (pc' := 44) dX12_extra_41 rfl cX12_225 (ok_X12_visits) rfl L_177 (by decide) rfl (Nat.le_of_ble_eq_true rfl) ?_
        refine S.icmp_gt (pc' := 47) (tgt := 127) dX12_extra_44 (by decide) rfl (by unfold fp_rng; omega) (by unfold fp_rng; omega) (fun h44 => ?_) (fun h44 => ?_)
        · exfalso; omega
        · refine S.aload_n (pc' := 48) dX12_extra_47 rfl rfl rfl ?_
          refine S.iload (pc' := 50) dX12_extra_48 rfl rfl ?_
          refine S.callVi (pc' := 53) dX12_extra_50 rfl cX12_268 (rk_X12_runs (g := g) (pg := pg) (vs := vs)) rfl L_177 (by decide) rfl (Nat.le_of_ble_eq_true rfl) (fun z50 M50 q50 => ?_)
          obtain ⟨z1, c1, f1⟩ := q50
          have hd2 := f1.md hd'
          refine S.pop (pc' := 54) dX12_extra_53 rfl rfl ?_
          refine S.aload_n (pc' := 55) dX12_extra_54 rfl rfl rfl ?_
          refine S.sipush (pc' := 58) dX12_extra_55 rfl (by decide) ?_
          refine S.iload_n (pc' := 59) dX12_extra_58 rfl rfl rfl ?_
          refine S.callVe (pc' := 62) dX12_extra_59 rfl cX12_222 (rk_X12_gives (g := g) (pg := aRun g pg vs i.toNat)) rfl L_177 (by decide) rfl (Nat.le_of_ble_eq_true rfl) ?_
          refine S.istore (pc' := 64) (LL' := [_, _, _, _, _, _, _, _, _]) dX12_extra_62 rfl (by decide) rfl rfl ?_
          refine S.iload (pc' := 66) dX12_extra_64 rfl rfl ?_
          refine S.bipush (pc' := 68) dX12_extra_66 rfl (by decide) ?_
          refine S.icmp_ne (pc' := 71) (tgt := 76) dX12_extra_68 (by decide) rfl (by unfold fp_rng; omega) (by unfold fp_rng; omega) (fun h68 => ?_) (fun h68 => ?_)
          · exfalso; omega
          · refine S.bipush (pc' := 73) dX12_extra_71 rfl (by decide) ?_
            refine S.goto (pc' := 87) dX12_extra_73 (by decide) ?_
            refine S.istore (pc' := 89) (LL' := [_, _, _, _, _, _, _, _, _]) dX12_extra_87 rfl (by decide) rfl rfl ?_
            refine S.iload (pc' := 91) dX12_extra_89 rfl rfl ?_
            refine S.iload (pc' := 93) dX12_extra_91 rfl rfl ?_
            refine S.icmp_le (pc' := 96) (tgt := 101) dX12_extra_93 (by decide) rfl (by unfold fp_rng; omega) (by unfold fp_rng; omega) (fun h93 => ?_) (fun h93 => ?_)
            · refine S.iload (pc' := 103) dX12_extra_101 rfl rfl ?_
              refine S.istore (pc' := 105) (LL' := [_, _, _, _, _, _, _, _, _]) dX12_extra_103 rfl (by decide) rfl rfl ?_
              refine S.iload (pc' := 107) dX12_extra_105 rfl rfl ?_
              refine S.iload (pc' := 109) dX12_extra_107 rfl rfl ?_
              refine S.icmp_le (pc' := 112) (tgt := 117) dX12_extra_109 (by decide) rfl (by unfold fp_rng; omega) (by unfold fp_rng; omega) (fun h109 => ?_) (fun h109 => ?_)
              · refine S.iload (pc' := 119) dX12_extra_117 rfl rfl ?_
                refine S.istore (pc' := 121) (LL' := [_, _, _, _, _, _, _, _, _]) dX12_extra_119 rfl (by decide) rfl rfl ?_
                refine S.iinc (pc' := 124) (LL' := [_, _, _, _, _, _, _, _, _]) dX12_extra_121 rfl (by decide) rfl rfl rfl ?_
                refine S.goto (pc' := 38) dX12_extra_124 (by decide) ?_
                exact fin _ _ _ _ _ (hf.trans f1) rfl (by rw [es, if_neg (fun q => q.1 hq.2)])
              · exfalso; omega
            · exfalso; omega
      · have hvr := hg.2.2.2.2.1 (aGv g (aRun g pg vs i.toNat) x) p hq.2.1 hq.2.2 hp.1 hp.2
        refine S.iload (pc' := 40) dX12_extra_38 rfl rfl ?_
        refine S.aload_n (pc' := 41) dX12_extra_40 rfl rfl rfl ?_
        refine S.callVe (pc' := 44) dX12_extra_41 rfl cX12_225 (ok_X12_visits) rfl L_177 (by decide) rfl (Nat.le_of_ble_eq_true rfl) ?_
        refine S.icmp_gt (pc' := 47) (tgt := 127) dX12_extra_44 (by decide) rfl (by unfold fp_rng; omega) (by unfold fp_rng; omega) (fun h44 => ?_) (fun h44 => ?_)
        · exfalso; omega
        · refine S.aload_n (pc' := 48) dX12_extra_47 rfl rfl rfl ?_
          refine S.iload (pc' := 50) dX12_extra_48 rfl rfl ?_
          refine S.callVi (pc' := 53) dX12_extra_50 rfl cX12_268 (rk_X12_runs (g := g) (pg := pg) (vs := vs)) rfl L_177 (by decide) rfl (Nat.le_of_ble_eq_true rfl) (fun z50 M50 q50 => ?_)
          obtain ⟨z1, c1, f1⟩ := q50
          have hd2 := f1.md hd'
          have hvl := hd2.2.2.2.2.2.1 (aGv g (aRun g pg vs i.toNat) x) p hq.2.1 hq.2.2 hp.1 hp.2
          refine S.pop (pc' := 54) dX12_extra_53 rfl rfl ?_
          refine S.aload_n (pc' := 55) dX12_extra_54 rfl rfl rfl ?_
          refine S.sipush (pc' := 58) dX12_extra_55 rfl (by decide) ?_
          refine S.iload_n (pc' := 59) dX12_extra_58 rfl rfl rfl ?_
          refine S.callVe (pc' := 62) dX12_extra_59 rfl cX12_222 (rk_X12_gives (g := g) (pg := aRun g pg vs i.toNat)) rfl L_177 (by decide) rfl (Nat.le_of_ble_eq_true rfl) ?_
          refine S.istore (pc' := 64) (LL' := [_, _, _, _, _, _, _, _, _]) dX12_extra_62 rfl (by decide) rfl rfl ?_
          refine S.iload (pc' := 66) dX12_extra_64 rfl rfl ?_
          refine S.bipush (pc' := 68) dX12_extra_66 rfl (by decide) ?_
          refine S.icmp_ne (pc' := 71) (tgt := 76) dX12_extra_68 (by decide) rfl (by unfold fp_rng; omega) (by unfold fp_rng; omega) (fun h68 => ?_) (fun h68 => ?_)
          · refine S.aload_n (pc' := 77) dX12_extra_76 rfl rfl rfl ?_
            refine S.getR (pc' := 80) dX12_extra_77 rfl fX12_16 L_177 rf_177_2 ?_
            refine S.iconst (pc' := 81) dX12_extra_80 rfl ?_
            refine S.iload (pc' := 83) dX12_extra_81 rfl rfl ?_
            refine S.imul (pc' := 84) dX12_extra_83 rfl ?_
            refine S.iload_n (pc' := 85) dX12_extra_84 rfl rfl rfl ?_
            refine S.iadd (pc' := 86) dX12_extra_85 rfl ?_
            refine S.iald (pc' := 87) dX12_extra_86 rfl L_180 (by omega) (by omega) ?_
            rw [hvl]
            refine S.istore (pc' := 89) (LL' := [_, _, _, _, _, _, _, _, _]) dX12_extra_87 rfl (by decide) rfl rfl ?_
            refine S.iload (pc' := 91) dX12_extra_89 rfl rfl ?_
            refine S.iload (pc' := 93) dX12_extra_91 rfl rfl ?_
            refine S.icmp_le (pc' := 96) (tgt := 101) dX12_extra_93 (by decide) rfl (by unfold fp_rng; omega) (by unfold fp_rng; omega) (fun h93 => ?_) (fun h93 => ?_)
            · refine S.iload (pc' := 103) dX12_extra_101 rfl rfl ?_
              refine S.istore (pc' := 105) (LL' := [_, _, _, _, _, _, _, _, _]) dX12_extra_103 rfl (by decide) rfl rfl ?_
              refine S.iload (pc' := 107) dX12_extra_105 rfl rfl ?_
              refine S.iload (pc' := 109) dX12_extra_107 rfl rfl ?_
              refine S.icmp_le (pc' := 112) (tgt := 117) dX12_extra_109 (by decide) rfl (by unfold fp_rng; omega) (by unfold fp_rng; omega) (fun h109 => ?_) (fun h109 => ?_)
              · refine S.iload (pc' := 119) dX12_extra_117 rfl rfl ?_
                refine S.istore (pc' := 121) (LL' := [_, _, _, _, _, _, _, _, _]) dX12_extra_119 rfl (by decide) rfl rfl ?_
                refine S.iinc (pc' := 124) (LL' := [_, _, _, _, _, _, _, _, _]) dX12_extra_121 rfl (by decide) rfl rfl rfl ?_
                refine S.goto (pc' := 38) dX12_extra_124 (by decide) ?_
                first | (exfalso; omega) | exact fin _ _ _ _ _ (hf.trans f1) rfl (by rw [es, if_pos ⟨by omega, by omega⟩]) | exact fin _ _ _ _ _ (hf.trans f1) rfl (by rw [es, if_neg (fun q => by have := q.2; omega)])
              · refine S.iload (pc' := 114) dX12_extra_112 rfl rfl ?_
                refine S.goto (pc' := 119) dX12_extra_114 (by decide) ?_
                refine S.istore (pc' := 121) (LL' := [_, _, _, _, _, _, _, _, _]) dX12_extra_119 rfl (by decide) rfl rfl ?_
                refine S.iinc (pc' := 124) (LL' := [_, _, _, _, _, _, _, _, _]) dX12_extra_121 rfl (by decide) rfl rfl rfl ?_
                refine S.goto (pc' := 38) dX12_extra_124 (by decide) ?_
                first | (exfalso; omega) | exact fin _ _ _ _ _ (hf.trans f1) rfl (by rw [es, if_pos ⟨by omega, by omega⟩]) | exact fin _ _ _ _ _ (hf.trans f1) rfl (by rw [es, if_neg (fun q => by have := q.2; omega)])
            · refine S.iload (pc' := 98) dX12_extra_96 rfl rfl ?_
              refine S.goto (pc' := 103) dX12_extra_98 (by decide) ?_
              refine S.istore (pc' := 105) (LL' := [_, _, _, _, _, _, _, _, _]) dX12_extra_103 rfl (by decide) rfl rfl ?_
              refine S.iload (pc' := 107) dX12_extra_105 rfl rfl ?_
              refine S.iload (pc' := 109) dX12_extra_107 rfl rfl ?_
              refine S.icmp_le (pc' := 112) (tgt := 117) dX12_extra_109 (by decide) rfl (by unfold fp_rng; omega) (by unfold fp_rng; omega) (fun h109 => ?_) (fun h109 => ?_)
              · refine S.iload (pc' := 119) dX12_extra_117 rfl rfl ?_
                refine S.istore (pc' := 121) (LL' := [_, _, _, _, _, _, _, _, _]) dX12_extra_119 rfl (by decide) rfl rfl ?_
                refine S.iinc (pc' := 124) (LL' := [_, _, _, _, _, _, _, _, _]) dX12_extra_121 rfl (by decide) rfl rfl rfl ?_
                refine S.goto (pc' := 38) dX12_extra_124 (by decide) ?_
                first | (exfalso; omega) | exact fin _ _ _ _ _ (hf.trans f1) rfl (by rw [es, if_pos ⟨by omega, by omega⟩]) | exact fin _ _ _ _ _ (hf.trans f1) rfl (by rw [es, if_neg (fun q => by have := q.2; omega)])
              · refine S.iload (pc' := 114) dX12_extra_112 rfl rfl ?_
                refine S.goto (pc' := 119) dX12_extra_114 (by decide) ?_
                refine S.istore (pc' := 121) (LL' := [_, _, _, _, _, _, _, _, _]) dX12_extra_119 rfl (by decide) rfl rfl ?_
                refine S.iinc (pc' := 124) (LL' := [_, _, _, _, _, _, _, _, _]) dX12_extra_121 rfl (by decide) rfl rfl rfl ?_
                refine S.goto (pc' := 38) dX12_extra_124 (by decide) ?_
                first | (exfalso; omega) | exact fin _ _ _ _ _ (hf.trans f1) rfl (by rw [es, if_pos ⟨by omega, by omega⟩]) | exact fin _ _ _ _ _ (hf.trans f1) rfl (by rw [es, if_neg (fun q => by have := q.2; omega)])
          · exfalso; omega
    · have ei : i = (vs.length : Int) + 1 := by omega
      have en : i.toNat = vs.length + 1 := by omega
      rw [en] at hb ⊢
      refine S.iload (pc' := 40) dX12_extra_38 rfl rfl ?_
      refine S.aload_n (pc' := 41) dX12_extra_40 rfl rfl rfl ?_
      refine S.callVe (pc' := 44) dX12_extra_41 rfl cX12_225 (ok_X12_visits) rfl L_177 (by decide) rfl (Nat.le_of_ble_eq_true rfl) ?_
      refine S.icmp_gt (pc' := 47) (tgt := 127) dX12_extra_44 (by decide) rfl (by unfold fp_rng; omega) (by unfold fp_rng; omega) (fun h44 => ?_) (fun h44 => ?_)
      · refine S.iload (pc' := 129) dX12_extra_127 rfl rfl ?_
        refine S.bipush (pc' := 131) dX12_extra_129 rfl (by decide) ?_
        refine S.icmp_eq (pc' := 134) (tgt := 139) dX12_extra_131 (by decide) rfl (by unfold fp_rng; omega) (by unfold fp_rng; omega) (fun h131 => ?_) (fun h131 => ?_)
        · refine S.iload (pc' := 141) dX12_extra_139 rfl rfl ?_
          refine S.goto (pc' := 146) dX12_extra_141 (by decide) ?_
          refine S.iret dX12_extra_146 rfl ?_
          refine ⟨?_, hcs'.tri ho hf, hf.d⟩
          (repeat' split) <;> first | rfl | omega
        · refine S.iload_n (pc' := 135) dX12_extra_134 rfl rfl rfl ?_
          refine S.iconst (pc' := 136) dX12_extra_135 rfl ?_
          refine S.icmp_ne (pc' := 139) (tgt := 144) dX12_extra_136 (by decide) rfl (by unfold fp_rng; omega) (by unfold fp_rng; omega) (fun h136 => ?_) (fun h136 => ?_)
          · refine S.iload (pc' := 146) dX12_extra_144 rfl rfl ?_
            refine S.iret dX12_extra_146 rfl ?_
            refine ⟨?_, hcs'.tri ho hf, hf.d⟩
            (repeat' split) <;> first | rfl | omega
          · refine S.iload (pc' := 141) dX12_extra_139 rfl rfl ?_
            refine S.goto (pc' := 146) dX12_extra_141 (by decide) ?_
            refine S.iret dX12_extra_146 rfl ?_
            refine ⟨?_, hcs'.tri ho hf, hf.d⟩
            (repeat' split) <;> first | rfl | omega
      · exfalso; omega
theorem mm_extra {p x w : Int} (hc : MS M tp fl g pg vs nt im sh tn) (ho : OK g pg vs nt im sh) (hp : fp_rng p) (hx : fp_rng x) (hw : fp_rng w) : fp_Ok l G 6 kX12_extra [rV G 177, iV p, iV x, iV w] M (qI fun z N => z = A_extra g pg vs p x w ∧ MS N tp fl g pg vs nt im sh tn ∧ frD M N) := by
  have hcs := hc
  obtain ⟨-, hd, hcl, hv, -⟩ := hc
  have hg := ho.1
  have hw' := hw
  unfold fp_rng at hw'
  refine fp_Ok.of (r := 5) rfl (Nat.le_of_ble_eq_true rfl) rfl ?_
  unfold A_extra
  by_cases hin : (0 ≤ p ∧ p < 4) ∧ (0 ≤ x ∧ x < g.2.1) ∧ (0 ≤ w ∧ w ≤ 1)
  · rw [if_neg (fun q => q hin)]
    refine S.iload_n (pc' := 1) dX12_extra_0 rfl rfl rfl ?_
    refine S.callSi (pc' := 4) dX12_extra_1 rfl cX12_228 (bk_X12_isOne) rfl (by decide) rfl (Nat.le_of_ble_eq_true rfl) (fun z1 M1 q1 => ?_)
    obtain ⟨b1, rfl⟩ := q1
    refine S.if_eq (pc' := 7) (tgt := 25) dX12_extra_4 (by decide) rfl (by unfold fp_rng; omega) (fun h4 => ?_) (fun h4 => ?_)
    · exfalso; omega
    · refine S.aload_n (pc' := 8) dX12_extra_7 rfl rfl rfl ?_
      refine S.iload_n (pc' := 9) dX12_extra_8 rfl rfl rfl ?_
      refine S.callVi (pc' := 12) dX12_extra_9 rfl cX12_219 (bk_X12_isLine) rfl L_177 (by decide) rfl (Nat.le_of_ble_eq_true rfl) (fun z9 M9 q9 => ?_)
      obtain ⟨b9, rfl⟩ := q9
      refine S.if_eq (pc' := 15) (tgt := 25) dX12_extra_12 (by decide) rfl (by unfold fp_rng; omega) (fun h12 => ?_) (fun h12 => ?_)
      · exfalso; omega
      · refine S.iload_n (pc' := 16) dX12_extra_15 rfl rfl rfl ?_
        refine S.i2l (pc' := 17) dX12_extra_16 rfl hw ?_
        refine S.lconst (pc' := 18) (w := 0) dX12_extra_17 rfl rfl ?_
        refine S.lconst (pc' := 19) (w := 1) dX12_extra_18 rfl rfl ?_
        refine S.callSi (pc' := 22) dX12_extra_19 rfl cX12_94 (bk_X12_in) rfl (by decide) rfl (Nat.le_of_ble_eq_true rfl) (fun z19 M19 q19 => ?_)
        obtain ⟨b19, rfl⟩ := q19
        refine S.if_ne (pc' := 25) (tgt := 27) dX12_extra_22 (by decide) rfl (by unfold fp_rng; omega) (fun h22 => ?_) (fun h22 => ?_)
        · refine S.bipush (pc' := 29) dX12_extra_27 rfl (by decide) ?_
          refine S.istore (pc' := 31) (LL' := [_, _, _, _, _, _, _, _, _]) dX12_extra_29 rfl (by decide) rfl rfl ?_
          refine S.bipush (pc' := 33) dX12_extra_31 rfl (by decide) ?_
          refine S.istore (pc' := 35) (LL' := [_, _, _, _, _, _, _, _, _]) dX12_extra_33 rfl (by decide) rfl rfl ?_
          refine S.iconst (pc' := 36) dX12_extra_35 rfl ?_
          refine S.istore (pc' := 38) (LL' := [_, _, _, _, _, _, _, _, _]) dX12_extra_36 rfl (by decide) rfl rfl ?_
          exact mextra_loop hin.1 hin.2.1 hin.2.2 ho hcs (vs.length + 2) 0 _ _ _ (by omega) (by omega) (by omega) (frT.refl _) rfl
        · exfalso; omega
  · rw [if_pos hin]
    refine S.iload_n (pc' := 1) dX12_extra_0 rfl rfl rfl ?_
    refine S.callSi (pc' := 4) dX12_extra_1 rfl cX12_228 (bk_X12_isOne) rfl (by decide) rfl (Nat.le_of_ble_eq_true rfl) (fun z1 M1 q1 => ?_)
    obtain ⟨b1, rfl⟩ := q1
    refine S.if_eq (pc' := 7) (tgt := 25) dX12_extra_4 (by decide) rfl (by unfold fp_rng; omega) (fun h4 => ?_) (fun h4 => ?_)
    · refine S.iconst (pc' := 26) dX12_extra_25 rfl ?_
      refine S.iret dX12_extra_26 rfl ?_
      exact ⟨rfl, hcs, frD.refl _⟩
    · refine S.aload_n (pc' := 8) dX12_extra_7 rfl rfl rfl ?_
      refine S.iload_n (pc' := 9) dX12_extra_8 rfl rfl rfl ?_
      refine S.callVi (pc' := 12) dX12_extra_9 rfl cX12_219 (bk_X12_isLine) rfl L_177 (by decide) rfl (Nat.le_of_ble_eq_true rfl) (fun z9 M9 q9 => ?_)
      obtain ⟨b9, rfl⟩ := q9
      refine S.if_eq (pc' := 15) (tgt := 25) dX12_extra_12 (by decide) rfl (by unfold fp_rng; omega) (fun h12 => ?_) (fun h12 => ?_)
      · refine S.iconst (pc' := 26) dX12_extra_25 rfl ?_
        refine S.iret dX12_extra_26 rfl ?_
        exact ⟨rfl, hcs, frD.refl _⟩
      · refine S.iload_n (pc' := 16) dX12_extra_15 rfl rfl rfl ?_
        refine S.i2l (pc' := 17) dX12_extra_16 rfl hw ?_
        refine S.lconst (pc' := 18) (w := 0) dX12_extra_17 rfl rfl ?_
        refine S.lconst (pc' := 19) (w := 1) dX12_extra_18 rfl rfl ?_
        refine S.callSi (pc' := 22) dX12_extra_19 rfl cX12_94 (bk_X12_in) rfl (by decide) rfl (Nat.le_of_ble_eq_true rfl) (fun z19 M19 q19 => ?_)
        obtain ⟨b19, rfl⟩ := q19
        refine S.if_ne (pc' := 25) (tgt := 27) dX12_extra_22 (by decide) rfl (by unfold fp_rng; omega) (fun h22 => ?_) (fun h22 => ?_)
        · exfalso; omega
        · refine S.iconst (pc' := 26) dX12_extra_25 rfl ?_
          refine S.iret dX12_extra_26 rfl ?_
          exact ⟨rfl, hcs, frD.refl _⟩
theorem aim_in {pr : aPg} {t w i : Int} {P : Int → fp_Mem → Prop} (ht : 0 ≤ t ∧ t < g.1) (hw : fp_rng w) (hP : pgOk g pr) (hg : gOk g) (hd : gdIs N 18 g) (hc : clIs N 41 g pr) (hcont : aLn g pr t = -4 → fp_S l G 4 kX11_aim 104 [some (rV G 0), some (iV t), some (iV w), some (rV G 41), some (iV i), some (iV g.2.1)] [] N (qI P)) (hret : aLn g pr t ≠ -4 → P (if w = 0 then i else aLn g pr t) N) : ∀ (n : Nat) (x : Int), (g.2.1 - x).toNat = n → 0 ≤ x → x ≤ g.2.1 → fp_find (fun x => aGv g pr x) t n x = aLn g pr t →
    fp_S l G 4 kX11_aim 60 [some (rV G 0), some (iV t), some (iV w), some (rV G 41), some (iV i), some (iV x)] [] N (qI P) := by
  have hg1 := hg.1
  have hg2 := hg.2.1
  have hl2 := hd.2.1
  intro n
  induction n with
  | zero =>
    intro x h x0 x1 he
    refine S.iload (pc' := 62) dX11_aim_60 rfl rfl ?_
    refine S.aload_n (pc' := 63) dX11_aim_62 rfl rfl rfl ?_
    refine S.getR (pc' := 66) dX11_aim_63 rfl fX11_23 L_0 rf_0_3 ?_
    refine S.getI (pc' := 69) dX11_aim_66 rfl fX11_225 (gd_lay gd18) ?_
    refine S.icmp_ge (pc' := 72) (tgt := 104) dX11_aim_69 (by decide) rfl (by unfold fp_rng; omega) (by unfold fp_rng; omega) (fun h69 => ?_) (fun h69 => ?_)
    · rw [show x = g.2.1 by omega]; exact hcont he.symm
    · exfalso; omega
  | succ n ih =>
    intro x h x0 x1 he
    have hq := aGv_in hP hg (x := x) ⟨x0, by omega⟩
    have es : fp_find (fun x => aGv g pr x) t (n + 1) x = if aGv g pr x = t then x else fp_find (fun x => aGv g pr x) t n (x + 1) := rfl
    refine S.iload (pc' := 62) dX11_aim_60 rfl rfl ?_
    refine S.aload_n (pc' := 63) dX11_aim_62 rfl rfl rfl ?_
    refine S.getR (pc' := 66) dX11_aim_63 rfl fX11_23 L_0 rf_0_3 ?_
    refine S.getI (pc' := 69) dX11_aim_66 rfl fX11_225 (gd_lay gd18) ?_
    refine S.icmp_ge (pc' := 72) (tgt := 104) dX11_aim_69 (by decide) rfl (by unfold fp_rng; omega) (by unfold fp_rng; omega) (fun h69 => ?_) (fun h69 => ?_)
    · exfalso; omega
    · refine S.aload_n (pc' := 73) dX11_aim_72 rfl rfl rfl ?_
      refine S.aload_n (pc' := 74) dX11_aim_73 rfl rfl rfl ?_
      refine S.getR (pc' := 77) dX11_aim_74 rfl fX11_23 L_0 rf_0_3 ?_
      refine S.iload (pc' := 79) dX11_aim_77 rfl rfl ?_
      refine S.callVe (pc' := 82) dX11_aim_79 rfl cX11_159 (rk_X5_gives (g := g) (pg := pr) pl41 gd18) rfl (pl_lay pl41) (by decide) rfl (Nat.le_of_ble_eq_true rfl) ?_
      refine S.iload_n (pc' := 83) dX11_aim_82 rfl rfl rfl ?_
      refine S.icmp_ne (pc' := 86) (tgt := 98) dX11_aim_83 (by decide) rfl (by unfold fp_rng; omega) (by unfold fp_rng; omega) (fun h83 => ?_) (fun h83 => ?_)
      · refine S.iinc (pc' := 101) (LL' := [_, _, _, _, _, _]) dX11_aim_98 rfl (by decide) rfl rfl rfl ?_
        refine S.goto (pc' := 60) dX11_aim_101 (by decide) ?_
        rw [if_neg h83] at es; exact ih _ (by omega) (by omega) (by omega) (by rw [← es]; exact he)
      · refine S.iload_n (pc' := 87) dX11_aim_86 rfl rfl rfl ?_
        refine S.if_ne (pc' := 90) (tgt := 95) dX11_aim_87 (by decide) rfl hw (fun h87 => ?_) (fun h87 => ?_)
        · refine S.iload (pc' := 97) dX11_aim_95 rfl rfl ?_
          refine S.iret dX11_aim_97 rfl ?_
          rw [if_pos h83] at es; have e9 : aLn g pr t = x := by rw [← he, es]
          have hr := hret (by omega)
          rw [e9] at hr
          first | (rw [if_pos h87] at hr; exact hr) | (rw [if_neg h87] at hr; exact hr)
        · refine S.iload (pc' := 92) dX11_aim_90 rfl rfl ?_
          refine S.goto (pc' := 97) dX11_aim_92 (by decide) ?_
          refine S.iret dX11_aim_97 rfl ?_
          rw [if_pos h83] at es; have e9 : aLn g pr t = x := by rw [← he, es]
          have hr := hret (by omega)
          rw [e9] at hr
          first | (rw [if_pos h87] at hr; exact hr) | (rw [if_neg h87] at hr; exact hr)
theorem aim_loop {t w : Int} (ht : 0 ≤ t ∧ t < g.1) (hw : 0 ≤ w ∧ w ≤ 1) (hP : pgOk g pg) (hg : gOk g) (hvo : vsOk g vs) (hv : vsIs M 27 vs) (hd : gdIs M 18 g) (hcs : CS M tp fl g pg vs nt im sh tn) : ∀ (n : Nat) (i : Int) (N : fp_Mem) (o5 : Option Value), ((vs.length : Int) + 1 - i).toNat = n → 0 ≤ i → i ≤ vs.length + 1 → frP M N 41 → (i ≤ vs.length → clIs N 41 g (aRun g pg vs i.toNat)) →
    fp_S l G 4 kX11_aim 45 [some (rV G 0), some (iV t), some (iV w), some (rV G 41), some (iV i), o5] [] N (qI fun z O => z = (if w = 0 then (aAim g pg vs t n i).1 else (aAim g pg vs t n i).2) ∧ CS O tp fl g pg vs nt im sh tn ∧ frC M O) := by
  have hl := hv.2.1
  have hg1 := hg.1
  have hg2 := hg.2.1
  intro n
  induction n with
  | zero =>
    intro i N o5 h i0 i1 hf hc
    have hl1 := (hf.vs pl41 vs27 hv).1
    refine S.iload (pc' := 47) dX11_aim_45 rfl rfl ?_
    refine S.aload_n (pc' := 48) dX11_aim_47 rfl rfl rfl ?_
    refine S.getR (pc' := 51) dX11_aim_48 rfl fX11_37 L_0 rf_0_5 ?_
    refine S.getI (pc' := 54) dX11_aim_51 rfl fX11_205 (vs_lay vs27) ?_
    refine S.icmp_gt (pc' := 57) (tgt := 125) dX11_aim_54 (by decide) rfl (by unfold fp_rng; omega) (by unfold fp_rng; omega) (fun h54 => ?_) (fun h54 => ?_)
    · refine S.bipush (pc' := 127) dX11_aim_125 rfl (by decide) ?_
      refine S.iret dX11_aim_127 rfl ?_
      refine ⟨?_, hcs.scr hf, hf.c (by decide)⟩
      unfold aAim
      split <;> rfl
    · exfalso; omega
  | succ n ih =>
    intro i N o5 h i0 i1 hf hc
    have er := aRun_succ (g := g) (pg := pg) (vs := vs) i0
    have hPi := aRun_ok hg hP hvo i.toNat
    have hv' := hf.vs pl41 vs27 hv
    have hd' := hf.gd pl41 gd18 hd
    have hl1 := hv'.1
    have hc := hc (by omega)
    have es : aAim g pg vs t (n + 1) i = if aLn g (aRun g pg vs i.toNat) t ≠ -4 then (i, aLn g (aRun g pg vs i.toNat) t) else aAim g pg vs t n (i + 1) := rfl
    have hcont : aLn g (aRun g pg vs i.toNat) t = -4 → fp_S l G 4 kX11_aim 104 [some (rV G 0), some (iV t), some (iV w), some (rV G 41), some (iV i), some (iV g.2.1)] [] N (qI fun z O => z = (if w = 0 then (aAim g pg vs t (n + 1) i).1 else (aAim g pg vs t (n + 1) i).2) ∧ CS O tp fl g pg vs nt im sh tn ∧ frC M O) := by
      intro hno
      have es' : aAim g pg vs t (n + 1) i = aAim g pg vs t n (i + 1) := by rw [es, if_neg (fun q => q hno)]
      rw [es']
      refine S.aload_n (pc' := 105) dX11_aim_104 rfl rfl rfl ?_
      refine S.getR (pc' := 108) dX11_aim_105 rfl fX11_37 L_0 rf_0_5 ?_
      refine S.aload_n (pc' := 109) dX11_aim_108 rfl rfl rfl ?_
      refine S.getR (pc' := 112) dX11_aim_109 rfl fX11_23 L_0 rf_0_3 ?_
      refine S.aload_n (pc' := 113) dX11_aim_112 rfl rfl rfl ?_
      refine S.iload (pc' := 115) dX11_aim_113 rfl rfl ?_
      refine S.callVi (pc' := 118) dX11_aim_115 rfl cX11_206 (rk_X10_happens (g := g) (pg := aRun g pg vs i.toNat) (vs := vs) vs27 gd18 pl41) rfl (vs_lay vs27) (by decide) rfl (Nat.le_of_ble_eq_true rfl) (fun z115 M115 q115 => ?_)
      obtain ⟨z1, c1, f1⟩ := q115
      rw [← er] at c1
      refine S.pop (pc' := 119) dX11_aim_118 rfl rfl ?_
      refine S.iinc (pc' := 122) (LL' := [_, _, _, _, _, _]) dX11_aim_119 rfl (by decide) rfl rfl rfl ?_
      refine S.goto (pc' := 45) dX11_aim_122 (by decide) ?_
      exact ih _ _ _ (by omega) (by omega) (by omega) (hf.trans f1) (fun _ => c1)
    have hret : aLn g (aRun g pg vs i.toNat) t ≠ -4 → (if w = 0 then i else aLn g (aRun g pg vs i.toNat) t) = (if w = 0 then (aAim g pg vs t (n + 1) i).1 else (aAim g pg vs t (n + 1) i).2) ∧ CS N tp fl g pg vs nt im sh tn ∧ frC M N := by
      intro hyes
      have es' : aAim g pg vs t (n + 1) i = (i, aLn g (aRun g pg vs i.toNat) t) := by rw [es, if_pos hyes]
      rw [es']
      exact ⟨rfl, hcs.scr hf, hf.c (by decide)⟩
    refine S.iload (pc' := 47) dX11_aim_45 rfl rfl ?_
    refine S.aload_n (pc' := 48) dX11_aim_47 rfl rfl rfl ?_
    refine S.getR (pc' := 51) dX11_aim_48 rfl fX11_37 L_0 rf_0_5 ?_
    refine S.getI (pc' := 54) dX11_aim_51 rfl fX11_205 (vs_lay vs27) ?_
    refine S.icmp_gt (pc' := 57) (tgt := 125) dX11_aim_54 (by decide) rfl (by unfold fp_rng; omega) (by unfold fp_rng; omega) (fun h54 => ?_) (fun h54 => ?_)
    · exfalso; omega
    · refine S.iconst (pc' := 58) dX11_aim_57 rfl ?_
      refine S.istore (pc' := 60) (LL' := [_, _, _, _, _, _]) dX11_aim_58 rfl (by decide) rfl rfl ?_
      exact aim_in ht (by unfold fp_rng; omega) hPi hg hd' hc hcont hret g.2.1.toNat 0 (by omega) (by omega) (by omega) rfl
theorem cc_aim {t w : Int} (hc : CS M tp fl g pg vs nt im sh tn) (ho : OK g pg vs nt im sh) (ht : fp_rng t) (hw : fp_rng w) : fp_Ok l G 4 kX11_aim [rV G 0, iV t, iV w] M (qI fun z N => z = A_aim g pg vs t w ∧ CS N tp fl g pg vs nt im sh tn ∧ frC M N) := by
  have hcs := hc
  obtain ⟨-, hd, hcl, hv, -⟩ := hc
  obtain ⟨hg, hP, hvo, -⟩ := ho
  refine fp_Ok.of (r := 3) rfl (Nat.le_of_ble_eq_true rfl) rfl ?_
  unfold A_aim
  by_cases hin : (0 ≤ t ∧ t < g.1) ∧ (0 ≤ w ∧ w ≤ 1)
  · rw [if_neg (fun q => q hin)]
    refine S.aload_n (pc' := 1) dX11_aim_0 rfl rfl rfl ?_
    refine S.getR (pc' := 4) dX11_aim_1 rfl fX11_23 L_0 rf_0_3 ?_
    refine S.iload_n (pc' := 5) dX11_aim_4 rfl rfl rfl ?_
    refine S.callVi (pc' := 8) dX11_aim_5 rfl cX11_126 (bk_X1_hasThing gd18) rfl (gd_lay gd18) (by decide) rfl (Nat.le_of_ble_eq_true rfl) (fun z5 M5 q5 => ?_)
    obtain ⟨b5, rfl⟩ := q5
    refine S.if_eq (pc' := 11) (tgt := 19) dX11_aim_8 (by decide) rfl (by unfold fp_rng; omega) (fun h8 => ?_) (fun h8 => ?_)
    · exfalso; omega
    · refine S.iload_n (pc' := 12) dX11_aim_11 rfl rfl rfl ?_
      refine S.iconst (pc' := 13) dX11_aim_12 rfl ?_
      refine S.callSi (pc' := 16) dX11_aim_13 rfl cX11_221 (bk_X11_isWithin) rfl (by decide) rfl (Nat.le_of_ble_eq_true rfl) (fun z13 M13 q13 => ?_)
      obtain ⟨b13, rfl⟩ := q13
      refine S.if_ne (pc' := 19) (tgt := 21) dX11_aim_16 (by decide) rfl (by unfold fp_rng; omega) (fun h16 => ?_) (fun h16 => ?_)
      · refine S.aload_n (pc' := 22) dX11_aim_21 rfl rfl rfl ?_
        refine S.getR (pc' := 25) dX11_aim_22 rfl fX11_51 L_0 rf_0_7 ?_
        refine S.aload_n (pc' := 26) dX11_aim_25 rfl rfl rfl ?_
        refine S.getR (pc' := 29) dX11_aim_26 rfl fX11_23 L_0 rf_0_3 ?_
        refine S.aload_n (pc' := 30) dX11_aim_29 rfl rfl rfl ?_
        refine S.getR (pc' := 33) dX11_aim_30 rfl fX11_37 L_0 rf_0_5 ?_
        refine S.aload_n (pc' := 34) dX11_aim_33 rfl rfl rfl ?_
        refine S.getR (pc' := 37) dX11_aim_34 rfl fX11_30 L_0 rf_0_4 ?_
        refine S.iconst (pc' := 38) dX11_aim_37 rfl ?_
        refine S.callVr (pc' := 41) dX11_aim_38 rfl cX11_214 (rk_X8_behind (g := g) (pg := pg) (vs := vs) gd18 vs27 pl22) rfl L_34 (by decide) rfl (Nat.le_of_ble_eq_true rfl) (fun z38 M38 q38 => ?_)
        obtain ⟨rfl, c1, f1⟩ := q38
        refine S.astore_n (pc' := 42) (LL' := [_, _, _, _, _, _]) dX11_aim_41 rfl (by decide) rfl rfl rfl ?_
        refine S.iconst (pc' := 43) dX11_aim_42 rfl ?_
        refine S.istore (pc' := 45) (LL' := [_, _, _, _, _, _]) dX11_aim_43 rfl (by decide) rfl rfl ?_
        exact aim_loop hin.1 hin.2 hP hg hvo hv hd hcs (vs.length + 1) 0 _ _ (by omega) (by omega) (by omega) f1 (fun _ => c1)
      · exfalso; omega
  · rw [if_pos hin]
    refine S.aload_n (pc' := 1) dX11_aim_0 rfl rfl rfl ?_
    refine S.getR (pc' := 4) dX11_aim_1 rfl fX11_23 L_0 rf_0_3 ?_
    refine S.iload_n (pc' := 5) dX11_aim_4 rfl rfl rfl ?_
    refine S.callVi (pc' := 8) dX11_aim_5 rfl cX11_126 (bk_X1_hasThing gd18) rfl (gd_lay gd18) (by decide) rfl (Nat.le_of_ble_eq_true rfl) (fun z5 M5 q5 => ?_)
    obtain ⟨b5, rfl⟩ := q5
    refine S.if_eq (pc' := 11) (tgt := 19) dX11_aim_8 (by decide) rfl (by unfold fp_rng; omega) (fun h8 => ?_) (fun h8 => ?_)
    · refine S.iconst (pc' := 20) dX11_aim_19 rfl ?_
      refine S.iret dX11_aim_20 rfl ?_
      exact ⟨rfl, hcs, frC.refl _⟩
    · refine S.iload_n (pc' := 12) dX11_aim_11 rfl rfl rfl ?_
      refine S.iconst (pc' := 13) dX11_aim_12 rfl ?_
      refine S.callSi (pc' := 16) dX11_aim_13 rfl cX11_221 (bk_X11_isWithin) rfl (by decide) rfl (Nat.le_of_ble_eq_true rfl) (fun z13 M13 q13 => ?_)
      obtain ⟨b13, rfl⟩ := q13
      refine S.if_ne (pc' := 19) (tgt := 21) dX11_aim_16 (by decide) rfl (by unfold fp_rng; omega) (fun h16 => ?_) (fun h16 => ?_)
      · exfalso; omega
      · refine S.iconst (pc' := 20) dX11_aim_19 rfl ?_
        refine S.iret dX11_aim_20 rfl ?_
        exact ⟨rfl, hcs, frC.refl _⟩
theorem maim_in {pr : aPg} {t w i : Int} {P : Int → fp_Mem → Prop} (ht : 0 ≤ t ∧ t < g.1) (hw : fp_rng w) (hP : pgOk g pr) (hg : gOk g) (hd : mdIs N g) (hc : mpIs N 360 g pr) (hcont : aLn g pr t = -4 → fp_S l G 6 kX12_aim 78 [some (rV G 177), some (iV t), some (iV w), some (iV i), some (iV g.2.1)] [] N (qI P)) (hret : aLn g pr t ≠ -4 → P (if w = 0 then i else aLn g pr t) N) : ∀ (n : Nat) (x : Int), (g.2.1 - x).toNat = n → 0 ≤ x → x ≤ g.2.1 → fp_find (fun x => aGv g pr x) t n x = aLn g pr t →
    fp_S l G 6 kX12_aim 39 [some (rV G 177), some (iV t), some (iV w), some (iV i), some (iV x)] [] N (qI P) := by
  have hg1 := hg.1
  have hg2 := hg.2.1
  have hl2 := hd.2.1
  intro n
  induction n with
  | zero =>
    intro x h x0 x1 he
    refine S.iload (pc' := 41) dX12_aim_39 rfl rfl ?_
    refine S.aload_n (pc' := 42) dX12_aim_41 rfl rfl rfl ?_
    refine S.getI (pc' := 45) dX12_aim_42 rfl fX12_184 L_177 ?_
    refine S.icmp_ge (pc' := 48) (tgt := 78) dX12_aim_45 (by decide) rfl (by unfold fp_rng; omega) (by unfold fp_rng; omega) (fun h45 => ?_) (fun h45 => ?_)
    · rw [show x = g.2.1 by omega]; exact hcont he.symm
    · exfalso; omega
  | succ n ih =>
    intro x h x0 x1 he
    have hq := aGv_in hP hg (x := x) ⟨x0, by omega⟩
    have es : fp_find (fun x => aGv g pr x) t (n + 1) x = if aGv g pr x = t then x else fp_find (fun x => aGv g pr x) t n (x + 1) := rfl
    refine S.iload (pc' := 41) dX12_aim_39 rfl rfl ?_
    refine S.aload_n (pc' := 42) dX12_aim_41 rfl rfl rfl ?_
    refine S.getI (pc' := 45) dX12_aim_42 rfl fX12_184 L_177 ?_
    refine S.icmp_ge (pc' := 48) (tgt := 78) dX12_aim_45 (by decide) rfl (by unfold fp_rng; omega) (by unfold fp_rng; omega) (fun h45 => ?_) (fun h45 => ?_)
    · exfalso; omega
    · refine S.aload_n (pc' := 49) dX12_aim_48 rfl rfl rfl ?_
      refine S.sipush (pc' := 52) dX12_aim_49 rfl (by decide) ?_
      refine S.iload (pc' := 54) dX12_aim_52 rfl rfl ?_
      refine S.callVe (pc' := 57) dX12_aim_54 rfl cX12_222 (rk_X12_gives (g := g) (pg := pr)) rfl L_177 (by decide) rfl (Nat.le_of_ble_eq_true rfl) ?_
      refine S.iload_n (pc' := 58) dX12_aim_57 rfl rfl rfl ?_
      refine S.icmp_ne (pc' := 61) (tgt := 72) dX12_aim_58 (by decide) rfl (by unfold fp_rng; omega) (by unfold fp_rng; omega) (fun h58 => ?_) (fun h58 => ?_)
      · refine S.iinc (pc' := 75) (LL' := [_, _, _, _, _]) dX12_aim_72 rfl (by decide) rfl rfl rfl ?_
        refine S.goto (pc' := 39) dX12_aim_75 (by decide) ?_
        rw [if_neg h58] at es; exact ih _ (by omega) (by omega) (by omega) (by rw [← es]; exact he)
      · refine S.iload_n (pc' := 62) dX12_aim_61 rfl rfl rfl ?_
        refine S.if_ne (pc' := 65) (tgt := 69) dX12_aim_62 (by decide) rfl hw (fun h62 => ?_) (fun h62 => ?_)
        · refine S.iload (pc' := 71) dX12_aim_69 rfl rfl ?_
          refine S.iret dX12_aim_71 rfl ?_
          rw [if_pos h58] at es; have e9 : aLn g pr t = x := by rw [← he, es]
          have hr := hret (by omega)
          rw [e9] at hr
          first | (rw [if_pos h62] at hr; exact hr) | (rw [if_neg h62] at hr; exact hr)
        · refine S.iload_n (pc' := 66) dX12_aim_65 rfl rfl rfl ?_
          refine S.goto (pc' := 71) dX12_aim_66 (by decide) ?_
          refine S.iret dX12_aim_71 rfl ?_
          rw [if_pos h58] at es; have e9 : aLn g pr t = x := by rw [← he, es]
          have hr := hret (by omega)
          rw [e9] at hr
          first | (rw [if_pos h62] at hr; exact hr) | (rw [if_neg h62] at hr; exact hr)
theorem maim_loop {t w : Int} (ht : 0 ≤ t ∧ t < g.1) (hw : 0 ≤ w ∧ w ≤ 1) (ho : OK g pg vs nt im sh) (hcs : MS M tp fl g pg vs nt im sh tn) : ∀ (n : Nat) (i : Int) (N : fp_Mem) (o4 : Option Value), ((vs.length : Int) + 1 - i).toNat = n → 0 ≤ i → i ≤ vs.length + 1 → frT M N →
    fp_S l G 6 kX12_aim 22 [some (rV G 177), some (iV t), some (iV w), some (iV i), o4] [] N (qI fun z O => z = (if w = 0 then (aAim g pg vs t n i).1 else (aAim g pg vs t n i).2) ∧ MS O tp fl g pg vs nt im sh tn ∧ frD M O) := by
  have hcs' := hcs
  obtain ⟨-, hd, hcl, hv, -⟩ := hcs
  have hg := ho.1
  have hP := ho.2.1
  have hvo := ho.2.2.1
  have hv0 : mvIs M vs := hv
  have hl := hv.2.1
  have hg1 := hg.1
  have hg2 := hg.2.1
  intro n
  induction n with
  | zero =>
    intro i N o4 h i0 i1 hf
    have hl1 := (hf.mv hv0).1
    refine S.iload_n (pc' := 23) dX12_aim_22 rfl rfl rfl ?_
    refine S.aload_n (pc' := 24) dX12_aim_23 rfl rfl rfl ?_
    refine S.callVe (pc' := 27) dX12_aim_24 rfl cX12_225 (ok_X12_visits) rfl L_177 (by decide) rfl (Nat.le_of_ble_eq_true rfl) ?_
    refine S.icmp_gt (pc' := 30) (tgt := 84) dX12_aim_27 (by decide) rfl (by unfold fp_rng; omega) (by unfold fp_rng; omega) (fun h27 => ?_) (fun h27 => ?_)
    · refine S.bipush (pc' := 86) dX12_aim_84 rfl (by decide) ?_
      refine S.iret dX12_aim_86 rfl ?_
      refine ⟨?_, hcs'.tri ho hf, hf.d⟩
      unfold aAim
      split <;> rfl
    · exfalso; omega
  | succ n ih =>
    intro i N o4 h i0 i1 hf
    have hPi := aRun_ok hg hP hvo i.toNat
    have hv' := hf.mv hv0
    have hd' := hf.md hd
    have hc' := hf.mp0 hg hP hcl
    have hl1 := hv'.1
    have es : aAim g pg vs t (n + 1) i = if aLn g (aRun g pg vs i.toNat) t ≠ -4 then (i, aLn g (aRun g pg vs i.toNat) t) else aAim g pg vs t n (i + 1) := rfl
    refine S.iload_n (pc' := 23) dX12_aim_22 rfl rfl rfl ?_
    refine S.aload_n (pc' := 24) dX12_aim_23 rfl rfl rfl ?_
    refine S.callVe (pc' := 27) dX12_aim_24 rfl cX12_225 (ok_X12_visits) rfl L_177 (by decide) rfl (Nat.le_of_ble_eq_true rfl) ?_
    refine S.icmp_gt (pc' := 30) (tgt := 84) dX12_aim_27 (by decide) rfl (by unfold fp_rng; omega) (by unfold fp_rng; omega) (fun h27 => ?_) (fun h27 => ?_)
    · exfalso; omega
    · refine S.aload_n (pc' := 31) dX12_aim_30 rfl rfl rfl ?_
      refine S.iload_n (pc' := 32) dX12_aim_31 rfl rfl rfl ?_
      refine S.callVi (pc' := 35) dX12_aim_32 rfl cX12_268 (rk_X12_runs (g := g) (pg := pg) (vs := vs)) rfl L_177 (by decide) rfl (Nat.le_of_ble_eq_true rfl) (fun z32 M32 q32 => ?_)
      obtain ⟨z1, c1, f1⟩ := q32
      have hd2 := f1.md hd'
      refine S.pop (pc' := 36) dX12_aim_35 rfl rfl ?_
      refine S.iconst (pc' := 37) dX12_aim_36 rfl ?_
      refine S.istore (pc' := 39) (LL' := [_, _, _, _, _]) dX12_aim_37 rfl (by decide) rfl rfl ?_
      refine maim_in ht (by unfold fp_rng; omega) hPi hg hd2 c1 (fun hno => ?_) (fun hyes => ?_) g.2.1.toNat 0 (by omega) (by omega) (by omega) rfl
      · have es' : aAim g pg vs t (n + 1) i = aAim g pg vs t n (i + 1) := by rw [es, if_neg (fun q => q hno)]
        rw [es']
        refine S.iinc (pc' := 81) (LL' := [_, _, _, _, _]) dX12_aim_78 rfl (by decide) rfl rfl rfl ?_
        refine S.goto (pc' := 22) dX12_aim_81 (by decide) ?_
        exact ih _ _ _ (by omega) (by omega) (by omega) (hf.trans f1)
      · have es' : aAim g pg vs t (n + 1) i = (i, aLn g (aRun g pg vs i.toNat) t) := by rw [es, if_pos hyes]
        rw [es']
        exact ⟨rfl, hcs'.tri ho (hf.trans f1), (hf.trans f1).d⟩
theorem mm_aim {t w : Int} (hc : MS M tp fl g pg vs nt im sh tn) (ho : OK g pg vs nt im sh) (ht : fp_rng t) (hw : fp_rng w) : fp_Ok l G 6 kX12_aim [rV G 177, iV t, iV w] M (qI fun z N => z = A_aim g pg vs t w ∧ MS N tp fl g pg vs nt im sh tn ∧ frD M N) := by
  have hcs := hc
  obtain ⟨-, hd, hcl, hv, -⟩ := hc
  have hg := ho.1
  have hw' := hw
  unfold fp_rng at hw'
  refine fp_Ok.of (r := 2) rfl (Nat.le_of_ble_eq_true rfl) rfl ?_
  unfold A_aim
  by_cases hin : (0 ≤ t ∧ t < g.1) ∧ (0 ≤ w ∧ w ≤ 1)
  · rw [if_neg (fun q => q hin)]
    refine S.aload_n (pc' := 1) dX12_aim_0 rfl rfl rfl ?_
    refine S.iload_n (pc' := 2) dX12_aim_1 rfl rfl rfl ?_
    refine S.callVi (pc' := 5) dX12_aim_2 rfl cX12_205 (bk_X12_isThing) rfl L_177 (by decide) rfl (Nat.le_of_ble_eq_true rfl) (fun z2 M2 q2 => ?_)
    obtain ⟨b2, rfl⟩ := q2
    refine S.if_eq (pc' := 8) (tgt := 18) dX12_aim_5 (by decide) rfl (by unfold fp_rng; omega) (fun h5 => ?_) (fun h5 => ?_)
    · exfalso; omega
    · refine S.iload_n (pc' := 9) dX12_aim_8 rfl rfl rfl ?_
      refine S.i2l (pc' := 10) dX12_aim_9 rfl hw ?_
      refine S.lconst (pc' := 11) (w := 0) dX12_aim_10 rfl rfl ?_
      refine S.lconst (pc' := 12) (w := 1) dX12_aim_11 rfl rfl ?_
      refine S.callSi (pc' := 15) dX12_aim_12 rfl cX12_94 (bk_X12_in) rfl (by decide) rfl (Nat.le_of_ble_eq_true rfl) (fun z12 M12 q12 => ?_)
      obtain ⟨b12, rfl⟩ := q12
      refine S.if_ne (pc' := 18) (tgt := 20) dX12_aim_15 (by decide) rfl (by unfold fp_rng; omega) (fun h15 => ?_) (fun h15 => ?_)
      · refine S.iconst (pc' := 21) dX12_aim_20 rfl ?_
        refine S.istore_n (pc' := 22) (LL' := [_, _, _, _, _]) dX12_aim_21 rfl (by decide) rfl rfl rfl ?_
        exact maim_loop hin.1 hin.2 ho hcs (vs.length + 1) 0 _ _ (by omega) (by omega) (by omega) (frT.refl _)
      · exfalso; omega
  · rw [if_pos hin]
    refine S.aload_n (pc' := 1) dX12_aim_0 rfl rfl rfl ?_
    refine S.iload_n (pc' := 2) dX12_aim_1 rfl rfl rfl ?_
    refine S.callVi (pc' := 5) dX12_aim_2 rfl cX12_205 (bk_X12_isThing) rfl L_177 (by decide) rfl (Nat.le_of_ble_eq_true rfl) (fun z2 M2 q2 => ?_)
    obtain ⟨b2, rfl⟩ := q2
    refine S.if_eq (pc' := 8) (tgt := 18) dX12_aim_5 (by decide) rfl (by unfold fp_rng; omega) (fun h5 => ?_) (fun h5 => ?_)
    · refine S.iconst (pc' := 19) dX12_aim_18 rfl ?_
      refine S.iret dX12_aim_19 rfl ?_
      exact ⟨rfl, hcs, frD.refl _⟩
    · refine S.iload_n (pc' := 9) dX12_aim_8 rfl rfl rfl ?_
      refine S.i2l (pc' := 10) dX12_aim_9 rfl hw ?_
      refine S.lconst (pc' := 11) (w := 0) dX12_aim_10 rfl rfl ?_
      refine S.lconst (pc' := 12) (w := 1) dX12_aim_11 rfl rfl ?_
      refine S.callSi (pc' := 15) dX12_aim_12 rfl cX12_94 (bk_X12_in) rfl (by decide) rfl (Nat.le_of_ble_eq_true rfl) (fun z12 M12 q12 => ?_)
      obtain ⟨b12, rfl⟩ := q12
      refine S.if_ne (pc' := 18) (tgt := 20) dX12_aim_15 (by decide) rfl (by unfold fp_rng; omega) (fun h15 => ?_) (fun h15 => ?_)
      · exfalso; omega
      · refine S.iconst (pc' := 19) dX12_aim_18 rfl ?_
        refine S.iret dX12_aim_19 rfl ?_
        exact ⟨rfl, hcs, frD.refl _⟩
end AIM
