/-! A LINE TOLD IN A TEXT: the class; any line of the text -/
section LI3
variable {l : Launch} {G : fp_WG} {M N : fp_Mem} {tp : List Int} {D : pD} {s st : Int}
theorem li_D {A : fp_Mem} {kd s' mk : Int} {L : List Int} (hd : rdD M D) (hD : dOk D) (f : fr2 M A) (h0 : 0 ≤ D.1.2.1) (h1 : D.1.2.1 < 3) (hN : liI (fp_up (fp_up A 6 D.1.2.1.toNat kd) 3 1 (D.1.2.1 + 1)) N D.1.2.1 L mk s') : rdD N (pLn D kd L mk) := by
  obtain ⟨a1, a2, a3, a4, a5, a6, a7, a8, a9, a10, a11, a12⟩ := hN
  obtain ⟨⟨g0, g1, g2, g3, g4, g5⟩, ⟨p1, p2, p3, p4⟩, hv, h11, h12⟩ := hd
  have r : ∀ x, x ≠ 2 → x ≠ 10 → x ≠ 11 → x ≠ 3 → x ≠ 6 → N x = M x := fun x q2 q10 q11 q3 q6 => by rw [a1 x q2 q10 q11, fp_up_ne q3, fp_up_ne q6, f.1 x q2]
  have r3 : N 3 = fp_upf (M 3) 1 (D.1.2.1 + 1) := by rw [a1 3 (by decide) (by decide) (by decide), fp_up_at, fp_up_ne (by decide), f.1 3 (by decide)]
  have r6 : N 6 = fp_upf (M 6) D.1.2.1.toNat kd := by rw [a1 6 (by decide) (by decide) (by decide), fp_up_ne (by decide), fp_up_at, f.1 6 (by decide)]
  have r2 : N 2 12 = M 2 12 := by rw [a2 12 (by decide) (by decide) (by decide) (by decide) (by decide) (by decide) (by decide), fp_up_ne (by decide), fp_up_ne (by decide), f.2 12 (by decide) (by decide) (by decide) (by decide) (by decide) (by decide)]
  have r10 : ∀ y : Nat, y ≠ D.1.2.1.toNat → N 10 y = M 10 y := fun y hy => by rw [a7 y hy, fp_up_ne (by decide), fp_up_ne (by decide), f.1 10 (by decide)]
  have r11 : ∀ j : Nat, ¬ (D.1.2.1 * 8 ≤ (j : Int) ∧ (j : Int) < D.1.2.1 * 8 + (L.length : Int)) → N 11 j = M 11 j := fun j hj => by rw [a9 j hj, fp_up_ne (by decide), fp_up_ne (by decide), f.1 11 (by decide)]
  refine ⟨⟨?_, ?_, ?_, fun t t0 t1 => ?_, fun t p t0 t1 q0 q1 => ?_, fun x x0 x1 => ?_⟩, ⟨fun t t0 t1 => ?_, fun t t0 t1 => ?_, fun t t0 t1 => ?_, fun x x0 x1 => ?_⟩, hv.kept (fun a q1 q2 => r a (by omega) (by omega) (by omega) (by omega) (by omega)), a3, by rw [r2]; exact h12⟩
  · rw [r3, fp_upf_ne (by decide)]; exact g0
  · rw [r3, fp_upf_at]; rfl
  · rw [r3, fp_upf_ne (by decide)]; exact g2
  · rw [r 4 (by decide) (by decide) (by decide) (by decide) (by decide)]; exact g3 t t0 t1
  · rw [r 5 (by decide) (by decide) (by decide) (by decide) (by decide)]; exact g4 t p t0 t1 q0 q1
  · rw [r6]
    show _ = if x = D.1.2.1 then kd else D.1.2.2.2.2.2 x
    have x1' : x < D.1.2.1 + 1 := x1
    by_cases e : x = D.1.2.1
    · rw [e, if_pos rfl, fp_upf_at]
    · rw [if_neg e, fp_upf_ne (by omega)]; exact g5 x x0 (by omega)
  · rw [r 8 (by decide) (by decide) (by decide) (by decide) (by decide)]; exact p1 t t0 t1
  · rw [r 8 (by decide) (by decide) (by decide) (by decide) (by decide)]; exact p2 t t0 t1
  · rw [r 9 (by decide) (by decide) (by decide) (by decide) (by decide)]; exact p3 t t0 t1
  · show N 10 x.toNat = ((if x = D.1.2.1 then L else D.2.2.1 x).length : Int) ∧ ∀ i : Int, 0 ≤ i → i < ((if x = D.1.2.1 then L else D.2.2.1 x).length : Int) → N 11 (x * 8 + i).toNat = (if x = D.1.2.1 then L else D.2.2.1 x).getD i.toNat 0
    by_cases e : x = D.1.2.1
    · subst e
      rw [if_pos rfl]
      exact ⟨a8, a10⟩
    · rw [if_neg e, r10 _ (by omega)]
      obtain ⟨k1, k2⟩ := p4 x x0 x1
      refine ⟨k1, fun i i0 i1 => ?_⟩
      have : i < 8 := by
        have := (hD.2.2.1 x x0 x1).1
        omega
      rw [r11 _ (by omega)]
      exact k2 i i0 i1
theorem li_k {x kd w : Int} (hi : rdI M) (hx : 0 ≤ x ∧ x < 3) (hk : 0 ≤ kd ∧ kd ≤ 2) : rdI (fp_up (fp_up M 6 x.toNat kd) 3 1 w) := by
  obtain ⟨i1, i2, i3, i4, i5, i6⟩ := hi
  refine ⟨i1, i2, i3, i4, fun y y0 y1 => ?_, i6⟩
  rw [fp_up_ne (by decide), fp_up_at]
  by_cases e : y.toNat = x.toNat
  · rw [e, fp_upf_at]; exact hk
  · rw [fp_upf_ne e]; exact i5 y y0 y1
theorem li_0 {A : fp_Mem} {kd s' : Int} (hd : rdD M D) (hD : dOk D) (f : fr2 M A) (h0 : 0 ≤ D.1.2.1) (h1 : D.1.2.1 < 3) (h7 : A 2 7 = s') (h3 : A 2 3 = 0) : liI (fp_up (fp_up A 6 D.1.2.1.toNat kd) 3 1 (D.1.2.1 + 1)) (fp_up (fp_up A 6 D.1.2.1.toNat kd) 3 1 (D.1.2.1 + 1)) D.1.2.1 [] D.2.2.2.1 s' := by
  refine ⟨fun _ _ _ _ => rfl, fun _ _ _ _ _ _ _ _ => rfl, ?_, hD.2.2.2.2.1, h7, h3, fun _ _ => rfl, ?_, fun _ _ => rfl, fun i i0 i1 => absurd i1 (by simp; omega), by simp, fun v hv => (List.not_mem_nil hv).elim⟩
  · rw [fp_up_ne (by decide), fp_up_ne (by decide), f.2 11 (by decide) (by decide) (by decide) (by decide) (by decide) (by decide)]
    exact hd.2.2.2.1
  · rw [fp_up_ne (by decide), fp_up_ne (by decide), f.1 10 (by decide), (hd.2.1.2.2.2 D.1.2.1 h0 h1).1, (hD.2.2.1 D.1.2.1 h0 h1).2.2.1 (Int.le_refl _)]
theorem rk_X6_readLineOfThings (ht : tpOk tp) (hm : rdT M tp) (hs : M 2 7 = s) (h0 : 0 ≤ s) (h1 : s ≤ (tp.length : Int)) (h9 : M 2 9 = st) (h3 : M 2 3 = 0) (hd : rdD M D) (hD : dOk D) (hi : rdI M) : fp_Ok l G 6 kX6_readLineOfThings [rV G 2] M (qI fun z N => lnP tp M N (pLine tp st s D) z) := by
  refine fp_Ok.of (r := 3) rfl (Nat.le_of_ble_eq_true rfl) rfl ?_
  have hx := nxt_le h1
  have hSl := tkS_le h1
  have hg2 := hD.1.2.1
  have hkd := aKd_in tp (tkS tp s)
  have e31 : M 3 1 = D.1.2.1 := hd.1.2.1
  unfold pLine
  by_cases h10 : 3 ≤ D.1.2.1
  · rw [if_pos h10]
    refine S.aload_n (pc' := 1) dX6_readLineOfThings_0 rfl rfl rfl ?_
    refine S.getR (pc' := 4) dX6_readLineOfThings_1 rfl fX6_12 L_2 rf_2_0 ?_
    refine S.getI (pc' := 7) dX6_readLineOfThings_4 rfl fX6_154 (gd_lay gd3) ?_
    rw [e31]
    refine S.istore_n (pc' := 8) (LL' := [_, _, _, _]) dX6_readLineOfThings_7 rfl (by decide) rfl rfl rfl ?_
    refine S.iload_n (pc' := 9) dX6_readLineOfThings_8 rfl rfl rfl ?_
    refine S.iconst (pc' := 10) dX6_readLineOfThings_9 rfl ?_
    refine S.icmp_lt (pc' := 13) (tgt := 23) dX6_readLineOfThings_10 (by decide) rfl (by unfold fp_rng; omega) (by unfold fp_rng; omega) (fun k10 => ?_) (fun k10 => ?_)
    · exfalso; omega
    · refine S.aload_n (pc' := 14) dX6_readLineOfThings_13 rfl rfl rfl ?_
      refine S.iconst (pc' := 15) dX6_readLineOfThings_14 rfl ?_
      refine S.aload_n (pc' := 16) dX6_readLineOfThings_15 rfl rfl rfl ?_
      refine S.getI (pc' := 19) dX6_readLineOfThings_16 rfl fX6_76 L_2 ?_
      rw [h9]
      refine S.callVe (pc' := 22) dX6_readLineOfThings_19 rfl cX6_89 ok_X6_refuse rfl L_2 (by decide) rfl (Nat.le_of_ble_eq_true rfl) ?_
      refine S.zret dX6_readLineOfThings_22 rfl (Or.inl rfl) ?_
      exact lnP_no (fun a ha => by rw [fp_up_ne (by omega), fp_up_ne (by omega)]) ((hm.up (by decide) (by decide)).up (by decide) (by decide)) (hi.kept rfl rfl rfl rfl) rfl (flt_refuse (by omega))
  · rw [if_neg h10]
    refine S.aload_n (pc' := 1) dX6_readLineOfThings_0 rfl rfl rfl ?_
    refine S.getR (pc' := 4) dX6_readLineOfThings_1 rfl fX6_12 L_2 rf_2_0 ?_
    refine S.getI (pc' := 7) dX6_readLineOfThings_4 rfl fX6_154 (gd_lay gd3) ?_
    rw [e31]
    refine S.istore_n (pc' := 8) (LL' := [_, _, _, _]) dX6_readLineOfThings_7 rfl (by decide) rfl rfl rfl ?_
    refine S.iload_n (pc' := 9) dX6_readLineOfThings_8 rfl rfl rfl ?_
    refine S.iconst (pc' := 10) dX6_readLineOfThings_9 rfl ?_
    refine S.icmp_lt (pc' := 13) (tgt := 23) dX6_readLineOfThings_10 (by decide) rfl (by unfold fp_rng; omega) (by unfold fp_rng; omega) (fun k10 => ?_) (fun k10 => ?_)
    · refine S.aload_n (pc' := 24) dX6_readLineOfThings_23 rfl rfl rfl ?_
      refine S.callVi (pc' := 27) dX6_readLineOfThings_24 rfl cX6_60 (rk_X6_step ht hm hs h0 h1) rfl L_2 (by decide) rfl (Nat.le_of_ble_eq_true rfl) (fun z24 M24 q24 => ?_)
      obtain ⟨a1, a2, a3, a4, a5⟩ := q24
      have hfr : fr2 M M24 := ⟨a1, a2⟩
      refine S.if_ne (pc' := 30) (tgt := 32) dX6_readLineOfThings_27 (by decide) rfl (by rcases a5 with b | b <;> (unfold fp_rng; omega)) (fun h27 => ?_) (fun h27 => ?_)
      · rcases a5 with ⟨c1, c2, c3, c4, c5⟩ | b
        rotate_left
        · exfalso; omega
        rw [if_neg (fun q => q c1)]
        refine S.aload_n (pc' := 33) dX6_readLineOfThings_32 rfl rfl rfl ?_
        refine S.callVe (pc' := 36) dX6_readLineOfThings_33 rfl cX6_157 (rk_X6_kindRead ht (hfr.T hm) ⟨a3, a4, c3, by omega, hSl.2⟩) rfl L_2 (by decide) rfl (Nat.le_of_ble_eq_true rfl) ?_
        refine S.istore_n (pc' := 37) (LL' := [_, _, _, _]) dX6_readLineOfThings_36 rfl (by decide) rfl rfl rfl ?_
        refine S.iload_n (pc' := 38) dX6_readLineOfThings_37 rfl rfl rfl ?_
        refine S.bipush (pc' := 40) dX6_readLineOfThings_38 rfl (by decide) ?_
        refine S.icmp_ne (pc' := 43) (tgt := 53) dX6_readLineOfThings_40 (by decide) rfl (by unfold fp_rng; omega) (by unfold fp_rng; omega) (fun h40 => ?_) (fun h40 => ?_)
        · rw [if_neg h40]
          refine S.aload_n (pc' := 54) dX6_readLineOfThings_53 rfl rfl rfl ?_
          refine S.getR (pc' := 57) dX6_readLineOfThings_54 rfl fX6_12 L_2 rf_2_0 ?_
          refine S.getR (pc' := 60) dX6_readLineOfThings_57 rfl fX6_160 (gd_lay gd3) (gd_r5 gd3) ?_
          refine S.iload_n (pc' := 61) dX6_readLineOfThings_60 rfl rfl rfl ?_
          refine S.iload_n (pc' := 62) dX6_readLineOfThings_61 rfl rfl rfl ?_
          refine S.iast (pc' := 63) dX6_readLineOfThings_62 rfl (gd_a5 gd3) (by omega) (by omega) ?_
          refine S.aload_n (pc' := 64) dX6_readLineOfThings_63 rfl rfl rfl ?_
          refine S.getR (pc' := 67) dX6_readLineOfThings_64 rfl fX6_12 L_2 rf_2_0 ?_
          refine S.dup (pc' := 68) dX6_readLineOfThings_67 rfl rfl ?_
          refine S.getI (pc' := 71) dX6_readLineOfThings_68 rfl fX6_154 (gd_lay gd3) ?_
          refine S.iconst (pc' := 72) dX6_readLineOfThings_71 rfl ?_
          rw [show fp_up M24 6 D.1.2.1.toNat (aKd tp (tkS tp s)) 3 1 = D.1.2.1 by rw [fp_up_ne (by decide), hfr.1 3 (by decide)]; exact e31]
          refine S.iadd (pc' := 73) dX6_readLineOfThings_72 rfl ?_
          refine S.putI (pc' := 76) dX6_readLineOfThings_73 rfl fX6_154 (gd_lay gd3) ?_
          refine S.iconst (pc' := 77) dX6_readLineOfThings_76 rfl ?_
          refine S.istore_n (pc' := 78) (LL' := [_, _, _, _]) dX6_readLineOfThings_77 rfl (by decide) rfl rfl rfl ?_
          refine li_go (li_loop (M := fp_up (fp_up M24 6 D.1.2.1.toNat (aKd tp (tkS tp s))) 3 1 (D.1.2.1 + 1)) (x := D.1.2.1) (kd := aKd tp (tkS tp s)) (Dn := pLn D (aKd tp (tkS tp s))) ht (hfr.R.trans (fun a ha => by rw [fp_up_ne (by omega), fp_up_ne (by omega)])) ⟨(hfr.T hm).1, (hfr.T hm).2.1, (hfr.T hm).2.2⟩ (li_k (hfr.I hi) (by omega) (by omega)) (by omega) (fun N L mk s' hN => li_D hd hD hfr (by omega) (by omega) hN) 9 (nxt tp s) [] D.2.2.2.1 _ rfl (by omega) hx.2 (li_0 hd hD hfr (by omega) (by omega) c3 (c4.trans h3)) rfl) rfl
        · refine S.aload_n (pc' := 44) dX6_readLineOfThings_43 rfl rfl rfl ?_
          refine S.iconst (pc' := 45) dX6_readLineOfThings_44 rfl ?_
          refine S.aload_n (pc' := 46) dX6_readLineOfThings_45 rfl rfl rfl ?_
          refine S.getI (pc' := 49) dX6_readLineOfThings_46 rfl fX6_76 L_2 ?_
          rw [a4]
          refine S.callVe (pc' := 52) dX6_readLineOfThings_49 rfl cX6_89 ok_X6_refuse rfl L_2 (by decide) rfl (Nat.le_of_ble_eq_true rfl) ?_
          refine S.zret dX6_readLineOfThings_52 rfl (Or.inl rfl) ?_
          rw [if_pos h40]
          exact lnP_no hfr.refuse.R (hfr.refuse.T hm) (hfr.refuse.I hi) rfl (flt_refuse (by omega))
      · refine S.iconst (pc' := 31) dX6_readLineOfThings_30 rfl ?_
        refine S.zret dX6_readLineOfThings_31 rfl (by first | exact Or.inl rfl | exact Or.inr rfl | omega) ?_
        rcases a5 with b | b
        · exfalso; omega
        · rw [if_pos b.1]
          exact lnP_no hfr.R (hfr.T hm) (hfr.I hi) rfl ⟨⟨by omega, by omega⟩, b.2.2.2⟩
    · exfalso; omega
end LI3
