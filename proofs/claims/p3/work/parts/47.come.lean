/-! VISITS TOLD: lastDay, add, come -/
def aLast (vs : List aVt) : Int := if vs.length = 0 then 0 else (vs.getD (vs.length - 1) aV0).1
def A_come (g : aGd) (vs : List aVt) (day p x t : Int) : Int × List aVt := if ¬ ((aLast vs ≤ day ∧ 0 ≤ day ∧ day ≤ 99) ∧ (0 ≤ p ∧ p < 4) ∧ (0 ≤ x ∧ x < g.2.1) ∧ (t = -4 ∨ (0 ≤ t ∧ t < g.1))) then (-1, vs) else if 12 ≤ vs.length then (-3, vs) else (vs.length + 1, vs ++ [(day, p, x, t)])
theorem aLast_in {g : aGd} {vs : List aVt} (h : vsOk g vs) : 0 ≤ aLast vs ∧ aLast vs ≤ 99 := by
  unfold aLast
  split
  · omega
  · have := (h.at (i := (vs.length : Int) - 1) (by omega) (by omega)).1
    rw [show ((vs.length : Int) - 1).toNat = vs.length - 1 by omega] at this
    exact this
theorem A_come_ok {g : aGd} {vs : List aVt} {day p x t : Int} (h : vsOk g vs) : vsOk g (A_come g vs day p x t).2 := by
  unfold A_come
  split
  · exact h
  · split
    · exact h
    · intro v hv
      rcases List.mem_append.mp hv with q | q
      · exact h v q
      · simp only [List.mem_singleton] at q
        subst q
        exact ⟨by dsimp only; omega, by dsimp only; omega, by dsimp only; omega, by dsimp only; omega⟩
section CME
variable {l : Launch} {G : fp_WG} {M N : fp_Mem} {tp tp' : List Int} {fl fl' : Int} {g : aGd} {pg : aPg} {vs vs' : List aVt} {nt nt' : List Int} {im : aIm} {sh : aSh} {tn tn' : Int} {k : Nat}
theorem rk_X10_lastDay (hk : fp_isvs k) (hv : vsIs M k vs := by assumption) : fp_Ok l G 0 kX10_lastDay [rV G k] M (qE (aLast vs) M) := by
  obtain ⟨a1, a2, a3⟩ := hv
  refine fp_Ok.of (r := 0) rfl (Nat.le_of_ble_eq_true rfl) rfl ?_
  unfold aLast
  by_cases h0 : vs.length = 0
  · rw [if_pos h0]
    refine S.aload_n (pc' := 1) dX10_lastDay_0 rfl rfl rfl ?_
    refine S.getI (pc' := 4) dX10_lastDay_1 rfl fX10_24 (vs_lay hk) ?_
    refine S.if_ne (pc' := 7) (tgt := 11) dX10_lastDay_4 (by decide) rfl (by unfold fp_rng; omega) (fun h4 => ?_) (fun h4 => ?_)
    · exfalso; omega
    · refine S.iconst (pc' := 8) dX10_lastDay_7 rfl ?_
      refine S.goto (pc' := 22) dX10_lastDay_8 (by decide) ?_
      refine S.iret dX10_lastDay_22 rfl ?_
      exact ⟨rfl, rfl⟩
  · rw [if_neg h0]
    have q := (a3 ((vs.length : Int) - 1) (by omega) (by omega)).1
    rw [show ((vs.length : Int) - 1).toNat = vs.length - 1 by omega] at q
    refine S.aload_n (pc' := 1) dX10_lastDay_0 rfl rfl rfl ?_
    refine S.getI (pc' := 4) dX10_lastDay_1 rfl fX10_24 (vs_lay hk) ?_
    refine S.if_ne (pc' := 7) (tgt := 11) dX10_lastDay_4 (by decide) rfl (by unfold fp_rng; omega) (fun h4 => ?_) (fun h4 => ?_)
    · refine S.aload_n (pc' := 12) dX10_lastDay_11 rfl rfl rfl ?_
      refine S.getR (pc' := 15) dX10_lastDay_12 rfl fX10_9 (vs_lay hk) (vs_r1 hk) ?_
      refine S.aload_n (pc' := 16) dX10_lastDay_15 rfl rfl rfl ?_
      refine S.getI (pc' := 19) dX10_lastDay_16 rfl fX10_24 (vs_lay hk) ?_
      refine S.iconst (pc' := 20) dX10_lastDay_19 rfl ?_
      refine S.isub (pc' := 21) dX10_lastDay_20 rfl ?_
      refine S.iald (pc' := 22) dX10_lastDay_21 rfl (vs_a1 hk) (by omega) (by omega) ?_
      refine S.iret dX10_lastDay_22 rfl ?_
      refine ⟨?_, rfl⟩
      rw [a1, show ((vs.length : Int) - 1).toNat = vs.length - 1 by omega]
      exact q
    · exfalso; omega
theorem vsIs.app {v : aVt} (hv : vsIs M k vs) (h : vs.length < 12) (e0 : N k 0 = vs.length + 1) (e1 : N (k + 1) = fp_upf (M (k + 1)) vs.length v.1) (e2 : N (k + 2) = fp_upf (M (k + 2)) vs.length v.2.1) (e3 : N (k + 3) = fp_upf (M (k + 3)) vs.length v.2.2.1) (e4 : N (k + 4) = fp_upf (M (k + 4)) vs.length v.2.2.2) : vsIs N k (vs ++ [v]) := by
  obtain ⟨a1, a2, a3⟩ := hv
  unfold vsIs
  rw [e0, e1, e2, e3, e4, List.length_append]
  refine ⟨by simp, by simp; omega, fun i i0 i1 => ?_⟩
  simp at i1
  rw [fp_appD]
  by_cases h : i < vs.length
  · rw [fp_upf_ne (by omega), fp_upf_ne (by omega), fp_upf_ne (by omega), fp_upf_ne (by omega), if_pos (by omega)]; exact a3 i i0 h
  · rw [if_neg (by omega), if_pos (by omega), show i.toNat = vs.length by omega, fp_upf_at, fp_upf_at, fp_upf_at, fp_upf_at]
    exact ⟨rfl, rfl, rfl, rfl⟩
theorem rk_X10_add {day p x t : Int} (hk : fp_isvs k) (hv : vsIs M k vs := by assumption) : fp_Ok l G 0 kX10_add [rV G k, iV day, iV p, iV x, iV t] M (qI fun z N => z = (if 12 ≤ vs.length then 0 else 1) ∧ vsIs N k (if 12 ≤ vs.length then vs else vs ++ [(day, p, x, t)]) ∧ ∀ a, (a < k ∨ k + 4 < a) → N a = M a) := by
  have hv' := hv
  obtain ⟨a1, a2, a3⟩ := hv
  refine fp_Ok.of (r := 0) rfl (Nat.le_of_ble_eq_true rfl) rfl ?_
  by_cases h12 : 12 ≤ vs.length
  · rw [if_pos h12, if_pos h12]
    refine S.aload_n (pc' := 1) dX10_add_0 rfl rfl rfl ?_
    refine S.getI (pc' := 4) dX10_add_1 rfl fX10_24 (vs_lay hk) ?_
    refine S.bipush (pc' := 6) dX10_add_4 rfl (by decide) ?_
    refine S.icmp_lt (pc' := 9) (tgt := 11) dX10_add_6 (by decide) rfl (by unfold fp_rng; omega) (by unfold fp_rng; omega) (fun h6 => ?_) (fun h6 => ?_)
    · exfalso; omega
    · refine S.iconst (pc' := 10) dX10_add_9 rfl ?_
      refine S.zret dX10_add_10 rfl (by first | exact Or.inl rfl | exact Or.inr rfl | omega) ?_
      exact ⟨rfl, hv', fun a ha => rfl⟩
  · rw [if_neg h12, if_neg h12]
    have n1 : k ≠ k + 1 := by omega
    have n2 : k ≠ k + 2 := by omega
    have n3 : k ≠ k + 3 := by omega
    have n4 : k ≠ k + 4 := by omega
    refine S.aload_n (pc' := 1) dX10_add_0 rfl rfl rfl ?_
    refine S.getI (pc' := 4) dX10_add_1 rfl fX10_24 (vs_lay hk) ?_
    refine S.bipush (pc' := 6) dX10_add_4 rfl (by decide) ?_
    refine S.icmp_lt (pc' := 9) (tgt := 11) dX10_add_6 (by decide) rfl (by unfold fp_rng; omega) (by unfold fp_rng; omega) (fun h6 => ?_) (fun h6 => ?_)
    · refine S.aload_n (pc' := 12) dX10_add_11 rfl rfl rfl ?_
      refine S.getR (pc' := 15) dX10_add_12 rfl fX10_9 (vs_lay hk) (vs_r1 hk) ?_
      refine S.aload_n (pc' := 16) dX10_add_15 rfl rfl rfl ?_
      refine S.getI (pc' := 19) dX10_add_16 rfl fX10_24 (vs_lay hk) ?_
      refine S.iload_n (pc' := 20) dX10_add_19 rfl rfl rfl ?_
      rw [a1]
      refine S.iast (pc' := 21) dX10_add_20 rfl (vs_a1 hk) (by omega) (by omega) ?_
      refine S.aload_n (pc' := 22) dX10_add_21 rfl rfl rfl ?_
      refine S.getR (pc' := 25) dX10_add_22 rfl fX10_15 (vs_lay hk) (vs_r2 hk) ?_
      refine S.aload_n (pc' := 26) dX10_add_25 rfl rfl rfl ?_
      refine S.getI (pc' := 29) dX10_add_26 rfl fX10_24 (vs_lay hk) ?_
      refine S.iload_n (pc' := 30) dX10_add_29 rfl rfl rfl ?_
      rw [fp_up_ne n1, a1]
      refine S.iast (pc' := 31) dX10_add_30 rfl (vs_a2 hk) (by omega) (by omega) ?_
      refine S.aload_n (pc' := 32) dX10_add_31 rfl rfl rfl ?_
      refine S.getR (pc' := 35) dX10_add_32 rfl fX10_18 (vs_lay hk) (vs_r3 hk) ?_
      refine S.aload_n (pc' := 36) dX10_add_35 rfl rfl rfl ?_
      refine S.getI (pc' := 39) dX10_add_36 rfl fX10_24 (vs_lay hk) ?_
      refine S.iload_n (pc' := 40) dX10_add_39 rfl rfl rfl ?_
      rw [fp_up_ne n2, fp_up_ne n1, a1]
      refine S.iast (pc' := 41) dX10_add_40 rfl (vs_a3 hk) (by omega) (by omega) ?_
      refine S.aload_n (pc' := 42) dX10_add_41 rfl rfl rfl ?_
      refine S.getR (pc' := 45) dX10_add_42 rfl fX10_21 (vs_lay hk) (vs_r4 hk) ?_
      refine S.aload_n (pc' := 46) dX10_add_45 rfl rfl rfl ?_
      refine S.getI (pc' := 49) dX10_add_46 rfl fX10_24 (vs_lay hk) ?_
      refine S.iload (pc' := 51) dX10_add_49 rfl rfl ?_
      rw [fp_up_ne n3, fp_up_ne n2, fp_up_ne n1, a1]
      refine S.iast (pc' := 52) dX10_add_51 rfl (vs_a4 hk) (by omega) (by omega) ?_
      refine S.aload_n (pc' := 53) dX10_add_52 rfl rfl rfl ?_
      refine S.dup (pc' := 54) dX10_add_53 rfl rfl ?_
      refine S.getI (pc' := 57) dX10_add_54 rfl fX10_24 (vs_lay hk) ?_
      refine S.iconst (pc' := 58) dX10_add_57 rfl ?_
      rw [fp_up_ne n4, fp_up_ne n3, fp_up_ne n2, fp_up_ne n1, a1]
      refine S.iadd (pc' := 59) dX10_add_58 rfl ?_
      refine S.putI (pc' := 62) dX10_add_59 rfl fX10_24 (vs_lay hk) ?_
      refine S.iconst (pc' := 63) dX10_add_62 rfl ?_
      refine S.zret dX10_add_63 rfl (by first | exact Or.inl rfl | exact Or.inr rfl | omega) ?_
      refine ⟨rfl, hv'.app (by omega) ?_ ?_ ?_ ?_ ?_, fun a ha => by rw [fp_up_ne (by omega), fp_up_ne (by omega), fp_up_ne (by omega), fp_up_ne (by omega), fp_up_ne (by omega)]⟩
      · rw [fp_up_at, fp_upf_at]
      · rw [fp_up_ne (by omega), fp_up_ne (by omega), fp_up_ne (by omega), fp_up_ne (by omega), fp_up_at, Int.toNat_natCast]
      · rw [fp_up_ne (by omega), fp_up_ne (by omega), fp_up_ne (by omega), fp_up_at, fp_up_ne (by omega), Int.toNat_natCast]
      · rw [fp_up_ne (by omega), fp_up_ne (by omega), fp_up_at, fp_up_ne (by omega), fp_up_ne (by omega), Int.toNat_natCast]
      · rw [fp_up_ne (by omega), fp_up_at, fp_up_ne (by omega), fp_up_ne (by omega), fp_up_ne (by omega), Int.toNat_natCast]
    · exfalso; omega
theorem rk_X11_tellVisit {day p x t : Int} (hv : vsIs M 27 vs := by assumption) (hd : gdIs M 18 g := by assumption) (hg : gOk g := by assumption) (hvo : vsOk g vs := by assumption) (h1 : fp_rng day := by first | assumption | (unfold fp_rng; omega)) (h2 : fp_rng p := by first | assumption | (unfold fp_rng; omega)) (h3 : fp_rng x := by first | assumption | (unfold fp_rng; omega)) (h4 : fp_rng t := by first | assumption | (unfold fp_rng; omega)) : fp_Ok l G 1 kX11_tellVisit [rV G 0, iV day, iV p, iV x, iV t] M (qI fun z N => z = (A_come g vs day p x t).1 ∧ vsIs N 27 (A_come g vs day p x t).2 ∧ ∀ a, (a < 27 ∨ 31 < a) → N a = M a) := by
  have hlst := aLast_in hvo
  have hl2 := hv.2.1
  refine fp_Ok.of (r := 0) rfl (Nat.le_of_ble_eq_true rfl) rfl ?_
  unfold A_come
  by_cases hin : (aLast vs ≤ day ∧ 0 ≤ day ∧ day ≤ 99) ∧ (0 ≤ p ∧ p < 4) ∧ (0 ≤ x ∧ x < g.2.1) ∧ (t = -4 ∨ (0 ≤ t ∧ t < g.1))
  · rw [if_neg (fun q => q hin)]
    by_cases h12 : 12 ≤ vs.length
    · rw [if_pos h12]
      refine S.iload_n (pc' := 1) dX11_tellVisit_0 rfl rfl rfl ?_
      refine S.bipush (pc' := 3) dX11_tellVisit_1 rfl (by decide) ?_
      refine S.callSi (pc' := 6) dX11_tellVisit_3 rfl cX11_221 (bk_X11_isWithin) rfl (by decide) rfl (Nat.le_of_ble_eq_true rfl) (fun z3 M3 q3 => ?_)
      obtain ⟨b3, rfl⟩ := q3
      refine S.if_eq (pc' := 9) (tgt := 46) dX11_tellVisit_6 (by decide) rfl (by unfold fp_rng; omega) (fun h6 => ?_) (fun h6 => ?_)
      · exfalso; omega
      · refine S.iload_n (pc' := 10) dX11_tellVisit_9 rfl rfl rfl ?_
        refine S.callSi (pc' := 13) dX11_tellVisit_10 rfl cX11_181 (bk_X11_isOne) rfl (by decide) rfl (Nat.le_of_ble_eq_true rfl) (fun z10 M10 q10 => ?_)
        obtain ⟨b10, rfl⟩ := q10
        refine S.if_eq (pc' := 16) (tgt := 46) dX11_tellVisit_13 (by decide) rfl (by unfold fp_rng; omega) (fun h13 => ?_) (fun h13 => ?_)
        · exfalso; omega
        · refine S.aload_n (pc' := 17) dX11_tellVisit_16 rfl rfl rfl ?_
          refine S.getR (pc' := 20) dX11_tellVisit_17 rfl fX11_23 L_0 rf_0_3 ?_
          refine S.iload_n (pc' := 21) dX11_tellVisit_20 rfl rfl rfl ?_
          refine S.callVi (pc' := 24) dX11_tellVisit_21 rfl cX11_148 (bk_X1_hasLine gd18) rfl (gd_lay gd18) (by decide) rfl (Nat.le_of_ble_eq_true rfl) (fun z21 M21 q21 => ?_)
          obtain ⟨b21, rfl⟩ := q21
          refine S.if_eq (pc' := 27) (tgt := 46) dX11_tellVisit_24 (by decide) rfl (by unfold fp_rng; omega) (fun h24 => ?_) (fun h24 => ?_)
          · exfalso; omega
          · refine S.iload (pc' := 29) dX11_tellVisit_27 rfl rfl ?_
            refine S.bipush (pc' := 31) dX11_tellVisit_29 rfl (by decide) ?_
            refine S.icmp_eq (pc' := 34) (tgt := 48) dX11_tellVisit_31 (by decide) rfl h4 (by unfold fp_rng; omega) (fun h31 => ?_) (fun h31 => ?_)
            · refine S.iload_n (pc' := 49) dX11_tellVisit_48 rfl rfl rfl ?_
              refine S.aload_n (pc' := 50) dX11_tellVisit_49 rfl rfl rfl ?_
              refine S.getR (pc' := 53) dX11_tellVisit_50 rfl fX11_37 L_0 rf_0_5 ?_
              refine S.callVe (pc' := 56) dX11_tellVisit_53 rfl cX11_345 (rk_X10_lastDay vs27 hv) rfl (vs_lay vs27) (by decide) rfl (Nat.le_of_ble_eq_true rfl) ?_
              refine S.icmp_ge (pc' := 59) (tgt := 61) dX11_tellVisit_56 (by decide) rfl h1 (by unfold fp_rng; omega) (fun h56 => ?_) (fun h56 => ?_)
              · refine S.aload_n (pc' := 62) dX11_tellVisit_61 rfl rfl rfl ?_
                refine S.getR (pc' := 65) dX11_tellVisit_62 rfl fX11_37 L_0 rf_0_5 ?_
                refine S.iload_n (pc' := 66) dX11_tellVisit_65 rfl rfl rfl ?_
                refine S.iload_n (pc' := 67) dX11_tellVisit_66 rfl rfl rfl ?_
                refine S.iload_n (pc' := 68) dX11_tellVisit_67 rfl rfl rfl ?_
                refine S.iload (pc' := 70) dX11_tellVisit_68 rfl rfl ?_
                refine S.callVi (pc' := 73) dX11_tellVisit_70 rfl cX11_349 (rk_X10_add vs27 hv) rfl (vs_lay vs27) (by decide) rfl (Nat.le_of_ble_eq_true rfl) (fun z70 M70 q70 => ?_)
                rw [if_pos h12, if_pos h12] at q70
                obtain ⟨z1, c1, f1⟩ := q70
                refine S.if_eq (pc' := 76) (tgt := 86) dX11_tellVisit_73 (by decide) rfl (by unfold fp_rng; omega) (fun h73 => ?_) (fun h73 => ?_)
                · refine S.bipush (pc' := 88) dX11_tellVisit_86 rfl (by decide) ?_
                  refine S.iret dX11_tellVisit_88 rfl ?_
                  exact ⟨rfl, c1, fun a ha => f1 a (by omega)⟩
                · exfalso; omega
              · exfalso; omega
            · refine S.aload_n (pc' := 35) dX11_tellVisit_34 rfl rfl rfl ?_
              refine S.getR (pc' := 38) dX11_tellVisit_35 rfl fX11_23 L_0 rf_0_3 ?_
              refine S.iload (pc' := 40) dX11_tellVisit_38 rfl rfl ?_
              refine S.callVi (pc' := 43) dX11_tellVisit_40 rfl cX11_126 (bk_X1_hasThing gd18) rfl (gd_lay gd18) (by decide) rfl (Nat.le_of_ble_eq_true rfl) (fun z40 M40 q40 => ?_)
              obtain ⟨b40, rfl⟩ := q40
              refine S.if_ne (pc' := 46) (tgt := 48) dX11_tellVisit_43 (by decide) rfl (by unfold fp_rng; omega) (fun h43 => ?_) (fun h43 => ?_)
              · refine S.iload_n (pc' := 49) dX11_tellVisit_48 rfl rfl rfl ?_
                refine S.aload_n (pc' := 50) dX11_tellVisit_49 rfl rfl rfl ?_
                refine S.getR (pc' := 53) dX11_tellVisit_50 rfl fX11_37 L_0 rf_0_5 ?_
                refine S.callVe (pc' := 56) dX11_tellVisit_53 rfl cX11_345 (rk_X10_lastDay vs27 hv) rfl (vs_lay vs27) (by decide) rfl (Nat.le_of_ble_eq_true rfl) ?_
                refine S.icmp_ge (pc' := 59) (tgt := 61) dX11_tellVisit_56 (by decide) rfl h1 (by unfold fp_rng; omega) (fun h56 => ?_) (fun h56 => ?_)
                · refine S.aload_n (pc' := 62) dX11_tellVisit_61 rfl rfl rfl ?_
                  refine S.getR (pc' := 65) dX11_tellVisit_62 rfl fX11_37 L_0 rf_0_5 ?_
                  refine S.iload_n (pc' := 66) dX11_tellVisit_65 rfl rfl rfl ?_
                  refine S.iload_n (pc' := 67) dX11_tellVisit_66 rfl rfl rfl ?_
                  refine S.iload_n (pc' := 68) dX11_tellVisit_67 rfl rfl rfl ?_
                  refine S.iload (pc' := 70) dX11_tellVisit_68 rfl rfl ?_
                  refine S.callVi (pc' := 73) dX11_tellVisit_70 rfl cX11_349 (rk_X10_add vs27 hv) rfl (vs_lay vs27) (by decide) rfl (Nat.le_of_ble_eq_true rfl) (fun z70 M70 q70 => ?_)
                  rw [if_pos h12, if_pos h12] at q70
                  obtain ⟨z1, c1, f1⟩ := q70
                  refine S.if_eq (pc' := 76) (tgt := 86) dX11_tellVisit_73 (by decide) rfl (by unfold fp_rng; omega) (fun h73 => ?_) (fun h73 => ?_)
                  · refine S.bipush (pc' := 88) dX11_tellVisit_86 rfl (by decide) ?_
                    refine S.iret dX11_tellVisit_88 rfl ?_
                    exact ⟨rfl, c1, fun a ha => f1 a (by omega)⟩
                  · exfalso; omega
                · exfalso; omega
              · exfalso; omega
    · rw [if_neg h12]
      refine S.iload_n (pc' := 1) dX11_tellVisit_0 rfl rfl rfl ?_
      refine S.bipush (pc' := 3) dX11_tellVisit_1 rfl (by decide) ?_
      refine S.callSi (pc' := 6) dX11_tellVisit_3 rfl cX11_221 (bk_X11_isWithin) rfl (by decide) rfl (Nat.le_of_ble_eq_true rfl) (fun z3 M3 q3 => ?_)
      obtain ⟨b3, rfl⟩ := q3
      refine S.if_eq (pc' := 9) (tgt := 46) dX11_tellVisit_6 (by decide) rfl (by unfold fp_rng; omega) (fun h6 => ?_) (fun h6 => ?_)
      · exfalso; omega
      · refine S.iload_n (pc' := 10) dX11_tellVisit_9 rfl rfl rfl ?_
        refine S.callSi (pc' := 13) dX11_tellVisit_10 rfl cX11_181 (bk_X11_isOne) rfl (by decide) rfl (Nat.le_of_ble_eq_true rfl) (fun z10 M10 q10 => ?_)
        obtain ⟨b10, rfl⟩ := q10
        refine S.if_eq (pc' := 16) (tgt := 46) dX11_tellVisit_13 (by decide) rfl (by unfold fp_rng; omega) (fun h13 => ?_) (fun h13 => ?_)
        · exfalso; omega
        · refine S.aload_n (pc' := 17) dX11_tellVisit_16 rfl rfl rfl ?_
          refine S.getR (pc' := 20) dX11_tellVisit_17 rfl fX11_23 L_0 rf_0_3 ?_
          refine S.iload_n (pc' := 21) dX11_tellVisit_20 rfl rfl rfl ?_
          refine S.callVi (pc' := 24) dX11_tellVisit_21 rfl cX11_148 (bk_X1_hasLine gd18) rfl (gd_lay gd18) (by decide) rfl (Nat.le_of_ble_eq_true rfl) (fun z21 M21 q21 => ?_)
          obtain ⟨b21, rfl⟩ := q21
          refine S.if_eq (pc' := 27) (tgt := 46) dX11_tellVisit_24 (by decide) rfl (by unfold fp_rng; omega) (fun h24 => ?_) (fun h24 => ?_)
          · exfalso; omega
          · refine S.iload (pc' := 29) dX11_tellVisit_27 rfl rfl ?_
            refine S.bipush (pc' := 31) dX11_tellVisit_29 rfl (by decide) ?_
            refine S.icmp_eq (pc' := 34) (tgt := 48) dX11_tellVisit_31 (by decide) rfl h4 (by unfold fp_rng; omega) (fun h31 => ?_) (fun h31 => ?_)
            · refine S.iload_n (pc' := 49) dX11_tellVisit_48 rfl rfl rfl ?_
              refine S.aload_n (pc' := 50) dX11_tellVisit_49 rfl rfl rfl ?_
              refine S.getR (pc' := 53) dX11_tellVisit_50 rfl fX11_37 L_0 rf_0_5 ?_
              refine S.callVe (pc' := 56) dX11_tellVisit_53 rfl cX11_345 (rk_X10_lastDay vs27 hv) rfl (vs_lay vs27) (by decide) rfl (Nat.le_of_ble_eq_true rfl) ?_
              refine S.icmp_ge (pc' := 59) (tgt := 61) dX11_tellVisit_56 (by decide) rfl h1 (by unfold fp_rng; omega) (fun h56 => ?_) (fun h56 => ?_)
              · refine S.aload_n (pc' := 62) dX11_tellVisit_61 rfl rfl rfl ?_
                refine S.getR (pc' := 65) dX11_tellVisit_62 rfl fX11_37 L_0 rf_0_5 ?_
                refine S.iload_n (pc' := 66) dX11_tellVisit_65 rfl rfl rfl ?_
                refine S.iload_n (pc' := 67) dX11_tellVisit_66 rfl rfl rfl ?_
                refine S.iload_n (pc' := 68) dX11_tellVisit_67 rfl rfl rfl ?_
                refine S.iload (pc' := 70) dX11_tellVisit_68 rfl rfl ?_
                refine S.callVi (pc' := 73) dX11_tellVisit_70 rfl cX11_349 (rk_X10_add vs27 hv) rfl (vs_lay vs27) (by decide) rfl (Nat.le_of_ble_eq_true rfl) (fun z70 M70 q70 => ?_)
                rw [if_neg h12, if_neg h12] at q70
                obtain ⟨z1, c1, f1⟩ := q70
                have n4 := c1.1
                refine S.if_eq (pc' := 76) (tgt := 86) dX11_tellVisit_73 (by decide) rfl (by unfold fp_rng; omega) (fun h73 => ?_) (fun h73 => ?_)
                · exfalso; omega
                · refine S.aload_n (pc' := 77) dX11_tellVisit_76 rfl rfl rfl ?_
                  refine S.getR (pc' := 80) dX11_tellVisit_77 rfl fX11_37 L_0 rf_0_5 ?_
                  refine S.getI (pc' := 83) dX11_tellVisit_80 rfl fX11_205 (vs_lay vs27) ?_
                  refine S.goto (pc' := 88) dX11_tellVisit_83 (by decide) ?_
                  refine S.iret dX11_tellVisit_88 rfl ?_
                  exact ⟨by rw [n4]; simp, c1, fun a ha => f1 a (by omega)⟩
              · exfalso; omega
            · refine S.aload_n (pc' := 35) dX11_tellVisit_34 rfl rfl rfl ?_
              refine S.getR (pc' := 38) dX11_tellVisit_35 rfl fX11_23 L_0 rf_0_3 ?_
              refine S.iload (pc' := 40) dX11_tellVisit_38 rfl rfl ?_
              refine S.callVi (pc' := 43) dX11_tellVisit_40 rfl cX11_126 (bk_X1_hasThing gd18) rfl (gd_lay gd18) (by decide) rfl (Nat.le_of_ble_eq_true rfl) (fun z40 M40 q40 => ?_)
              obtain ⟨b40, rfl⟩ := q40
              refine S.if_ne (pc' := 46) (tgt := 48) dX11_tellVisit_43 (by decide) rfl (by unfold fp_rng; omega) (fun h43 => ?_) (fun h43 => ?_)
              · refine S.iload_n (pc' := 49) dX11_tellVisit_48 rfl rfl rfl ?_
                refine S.aload_n (pc' := 50) dX11_tellVisit_49 rfl rfl rfl ?_
                refine S.getR (pc' := 53) dX11_tellVisit_50 rfl fX11_37 L_0 rf_0_5 ?_
                refine S.callVe (pc' := 56) dX11_tellVisit_53 rfl cX11_345 (rk_X10_lastDay vs27 hv) rfl (vs_lay vs27) (by decide) rfl (Nat.le_of_ble_eq_true rfl) ?_
                refine S.icmp_ge (pc' := 59) (tgt := 61) dX11_tellVisit_56 (by decide) rfl h1 (by unfold fp_rng; omega) (fun h56 => ?_) (fun h56 => ?_)
                · refine S.aload_n (pc' := 62) dX11_tellVisit_61 rfl rfl rfl ?_
                  refine S.getR (pc' := 65) dX11_tellVisit_62 rfl fX11_37 L_0 rf_0_5 ?_
                  refine S.iload_n (pc' := 66) dX11_tellVisit_65 rfl rfl rfl ?_
                  refine S.iload_n (pc' := 67) dX11_tellVisit_66 rfl rfl rfl ?_
                  refine S.iload_n (pc' := 68) dX11_tellVisit_67 rfl rfl rfl ?_
                  refine S.iload (pc' := 70) dX11_tellVisit_68 rfl rfl ?_
                  refine S.callVi (pc' := 73) dX11_tellVisit_70 rfl cX11_349 (rk_X10_add vs27 hv) rfl (vs_lay vs27) (by decide) rfl (Nat.le_of_ble_eq_true rfl) (fun z70 M70 q70 => ?_)
                  rw [if_neg h12, if_neg h12] at q70
                  obtain ⟨z1, c1, f1⟩ := q70
                  have n4 := c1.1
                  refine S.if_eq (pc' := 76) (tgt := 86) dX11_tellVisit_73 (by decide) rfl (by unfold fp_rng; omega) (fun h73 => ?_) (fun h73 => ?_)
                  · exfalso; omega
                  · refine S.aload_n (pc' := 77) dX11_tellVisit_76 rfl rfl rfl ?_
                    refine S.getR (pc' := 80) dX11_tellVisit_77 rfl fX11_37 L_0 rf_0_5 ?_
                    refine S.getI (pc' := 83) dX11_tellVisit_80 rfl fX11_205 (vs_lay vs27) ?_
                    refine S.goto (pc' := 88) dX11_tellVisit_83 (by decide) ?_
                    refine S.iret dX11_tellVisit_88 rfl ?_
                    exact ⟨by rw [n4]; simp, c1, fun a ha => f1 a (by omega)⟩
                · exfalso; omega
              · exfalso; omega
  · rw [if_pos hin]
    refine S.iload_n (pc' := 1) dX11_tellVisit_0 rfl rfl rfl ?_
    refine S.bipush (pc' := 3) dX11_tellVisit_1 rfl (by decide) ?_
    refine S.callSi (pc' := 6) dX11_tellVisit_3 rfl cX11_221 (bk_X11_isWithin) rfl (by decide) rfl (Nat.le_of_ble_eq_true rfl) (fun z3 M3 q3 => ?_)
    obtain ⟨b3, rfl⟩ := q3
    refine S.if_eq (pc' := 9) (tgt := 46) dX11_tellVisit_6 (by decide) rfl (by unfold fp_rng; omega) (fun h6 => ?_) (fun h6 => ?_)
    · refine S.iconst (pc' := 47) dX11_tellVisit_46 rfl ?_
      refine S.iret dX11_tellVisit_47 rfl ?_
      exact ⟨rfl, hv, fun a ha => rfl⟩
    · refine S.iload_n (pc' := 10) dX11_tellVisit_9 rfl rfl rfl ?_
      refine S.callSi (pc' := 13) dX11_tellVisit_10 rfl cX11_181 (bk_X11_isOne) rfl (by decide) rfl (Nat.le_of_ble_eq_true rfl) (fun z10 M10 q10 => ?_)
      obtain ⟨b10, rfl⟩ := q10
      refine S.if_eq (pc' := 16) (tgt := 46) dX11_tellVisit_13 (by decide) rfl (by unfold fp_rng; omega) (fun h13 => ?_) (fun h13 => ?_)
      · refine S.iconst (pc' := 47) dX11_tellVisit_46 rfl ?_
        refine S.iret dX11_tellVisit_47 rfl ?_
        exact ⟨rfl, hv, fun a ha => rfl⟩
      · refine S.aload_n (pc' := 17) dX11_tellVisit_16 rfl rfl rfl ?_
        refine S.getR (pc' := 20) dX11_tellVisit_17 rfl fX11_23 L_0 rf_0_3 ?_
        refine S.iload_n (pc' := 21) dX11_tellVisit_20 rfl rfl rfl ?_
        refine S.callVi (pc' := 24) dX11_tellVisit_21 rfl cX11_148 (bk_X1_hasLine gd18) rfl (gd_lay gd18) (by decide) rfl (Nat.le_of_ble_eq_true rfl) (fun z21 M21 q21 => ?_)
        obtain ⟨b21, rfl⟩ := q21
        refine S.if_eq (pc' := 27) (tgt := 46) dX11_tellVisit_24 (by decide) rfl (by unfold fp_rng; omega) (fun h24 => ?_) (fun h24 => ?_)
        · refine S.iconst (pc' := 47) dX11_tellVisit_46 rfl ?_
          refine S.iret dX11_tellVisit_47 rfl ?_
          exact ⟨rfl, hv, fun a ha => rfl⟩
        · refine S.iload (pc' := 29) dX11_tellVisit_27 rfl rfl ?_
          refine S.bipush (pc' := 31) dX11_tellVisit_29 rfl (by decide) ?_
          refine S.icmp_eq (pc' := 34) (tgt := 48) dX11_tellVisit_31 (by decide) rfl h4 (by unfold fp_rng; omega) (fun h31 => ?_) (fun h31 => ?_)
          · refine S.iload_n (pc' := 49) dX11_tellVisit_48 rfl rfl rfl ?_
            refine S.aload_n (pc' := 50) dX11_tellVisit_49 rfl rfl rfl ?_
            refine S.getR (pc' := 53) dX11_tellVisit_50 rfl fX11_37 L_0 rf_0_5 ?_
            refine S.callVe (pc' := 56) dX11_tellVisit_53 rfl cX11_345 (rk_X10_lastDay vs27 hv) rfl (vs_lay vs27) (by decide) rfl (Nat.le_of_ble_eq_true rfl) ?_
            refine S.icmp_ge (pc' := 59) (tgt := 61) dX11_tellVisit_56 (by decide) rfl h1 (by unfold fp_rng; omega) (fun h56 => ?_) (fun h56 => ?_)
            · exfalso; omega
            · refine S.iconst (pc' := 60) dX11_tellVisit_59 rfl ?_
              refine S.iret dX11_tellVisit_60 rfl ?_
              exact ⟨rfl, hv, fun a ha => rfl⟩
          · refine S.aload_n (pc' := 35) dX11_tellVisit_34 rfl rfl rfl ?_
            refine S.getR (pc' := 38) dX11_tellVisit_35 rfl fX11_23 L_0 rf_0_3 ?_
            refine S.iload (pc' := 40) dX11_tellVisit_38 rfl rfl ?_
            refine S.callVi (pc' := 43) dX11_tellVisit_40 rfl cX11_126 (bk_X1_hasThing gd18) rfl (gd_lay gd18) (by decide) rfl (Nat.le_of_ble_eq_true rfl) (fun z40 M40 q40 => ?_)
            obtain ⟨b40, rfl⟩ := q40
            refine S.if_ne (pc' := 46) (tgt := 48) dX11_tellVisit_43 (by decide) rfl (by unfold fp_rng; omega) (fun h43 => ?_) (fun h43 => ?_)
            · refine S.iload_n (pc' := 49) dX11_tellVisit_48 rfl rfl rfl ?_
              refine S.aload_n (pc' := 50) dX11_tellVisit_49 rfl rfl rfl ?_
              refine S.getR (pc' := 53) dX11_tellVisit_50 rfl fX11_37 L_0 rf_0_5 ?_
              refine S.callVe (pc' := 56) dX11_tellVisit_53 rfl cX11_345 (rk_X10_lastDay vs27 hv) rfl (vs_lay vs27) (by decide) rfl (Nat.le_of_ble_eq_true rfl) ?_
              refine S.icmp_ge (pc' := 59) (tgt := 61) dX11_tellVisit_56 (by decide) rfl h1 (by unfold fp_rng; omega) (fun h56 => ?_) (fun h56 => ?_)
              · exfalso; omega
              · refine S.iconst (pc' := 60) dX11_tellVisit_59 rfl ?_
                refine S.iret dX11_tellVisit_60 rfl ?_
                exact ⟨rfl, hv, fun a ha => rfl⟩
            · refine S.iconst (pc' := 47) dX11_tellVisit_46 rfl ?_
              refine S.iret dX11_tellVisit_47 rfl ?_
              exact ⟨rfl, hv, fun a ha => rfl⟩
theorem cc_come {day p x t : Int} (hc : CS M tp fl g pg vs nt im sh tn) (ho : OK g pg vs nt im sh) (h1 : fp_rng day) (h2 : fp_rng p) (h3 : fp_rng x) (h4 : fp_rng t) : fp_Ok l G 2 kX11_come [rV G 0, iV day, iV p, iV x, iV t] M (qI fun z N => z = (A_come g vs day p x t).1 ∧ CS N tp fl g pg (A_come g vs day p x t).2 nt im sh tn ∧ frC M N) := by
  have hcs := hc
  obtain ⟨-, hd, -, hv, -⟩ := hc
  obtain ⟨hg, hP, hvo, -⟩ := ho
  refine fp_Ok.of (r := 0) rfl (Nat.le_of_ble_eq_true rfl) rfl ?_
  refine S.aload_n (pc' := 1) dX11_come_0 rfl rfl rfl ?_
  refine S.iload_n (pc' := 2) dX11_come_1 rfl rfl rfl ?_
  refine S.iload_n (pc' := 3) dX11_come_2 rfl rfl rfl ?_
  refine S.iload_n (pc' := 4) dX11_come_3 rfl rfl rfl ?_
  refine S.iload (pc' := 6) dX11_come_4 rfl rfl ?_
  refine S.callVi (pc' := 9) dX11_come_6 rfl cX11_201 (rk_X11_tellVisit (g := g) (vs := vs)) rfl L_0 (by decide) rfl (Nat.le_of_ble_eq_true rfl) (fun z6 M6 q6 => ?_)
  obtain ⟨z1, c1, f1⟩ := q6
  refine S.iret dX11_come_9 rfl ?_
  exact ⟨z1, hcs.vis f1 c1, fun c hc => f1 c (by omega)⟩
theorem mvRow.app {f : Nat → Int} {v : aVt} (hv : mvRow f vs) (h : vs.length < 12) : mvRow (fp_upf (fp_upf (fp_upf (fp_upf (fp_upf f (47 + 4 * (vs.length : Int)).toNat v.1) (47 + 4 * (vs.length : Int) + 1).toNat v.2.1) (47 + 4 * (vs.length : Int) + 2).toNat v.2.2.1) (47 + 4 * (vs.length : Int) + 3).toNat v.2.2.2) 95 (vs.length + 1)) (vs ++ [v]) := by
  obtain ⟨a1, a2, a3⟩ := hv
  unfold mvRow
  rw [List.length_append, fp_upf_at]
  refine ⟨by simp, by simp; omega, fun i i0 i1 => ?_⟩
  simp at i1
  rw [fp_appD]
  unfold fp_upf
  by_cases h : i < vs.length
  · rw [if_pos (show i.toNat < vs.length by omega)]
    obtain ⟨b1, b2, b3, b4⟩ := a3 i i0 h
    refine ⟨?_, ?_, ?_, ?_⟩
    · rw [if_neg (by omega), if_neg (by omega), if_neg (by omega), if_neg (by omega), if_neg (by omega)]; exact b1
    · rw [if_neg (by omega), if_neg (by omega), if_neg (by omega), if_neg (by omega), if_neg (by omega)]; exact b2
    · rw [if_neg (by omega), if_neg (by omega), if_neg (by omega), if_neg (by omega), if_neg (by omega)]; exact b3
    · rw [if_neg (by omega), if_neg (by omega), if_neg (by omega), if_neg (by omega), if_neg (by omega)]; exact b4
  · rw [if_neg (show ¬ i.toNat < vs.length by omega), if_pos (show i.toNat = vs.length by omega)]
    refine ⟨?_, ?_, ?_, ?_⟩
    · rw [if_neg (by omega), if_neg (by omega), if_neg (by omega), if_neg (by omega), if_pos (by omega)]
    · rw [if_neg (by omega), if_neg (by omega), if_neg (by omega), if_pos (by omega)]
    · rw [if_neg (by omega), if_neg (by omega), if_pos (by omega)]
    · rw [if_neg (by omega), if_pos (by omega)]
theorem rk_X12_comes {day p x t : Int} (hv : mvRow (M 178) vs := by assumption) (hd : mdIs M g := by assumption) (hg : gOk g := by assumption) (hvo : vsOk g vs := by assumption) (h1 : fp_rng day := by first | assumption | (unfold fp_rng; omega)) (h2 : fp_rng p := by first | assumption | (unfold fp_rng; omega)) (h3 : fp_rng x := by first | assumption | (unfold fp_rng; omega)) (h4 : fp_rng t := by first | assumption | (unfold fp_rng; omega)) : fp_Ok l G 2 kX12_comes [rV G 177, iV day, iV p, iV x, iV t] M (qI fun z N => z = (A_come g vs day p x t).1 ∧ mvRow (N 178) (A_come g vs day p x t).2 ∧ (∀ c, c ≠ 178 → N c = M c) ∧ ∀ j : Nat, (j < 47 ∨ 95 < j) → N 178 j = M 178 j) := by
  have hlst := aLast_in hvo
  have hv' := hv
  obtain ⟨a1, a2, a3⟩ := hv
  have h1' := h1
  unfold fp_rng at h1'
  have hls : vs.length ≠ 0 → M 178 (47 + 4 * (vs.length : Int) - 4).toNat = aLast vs := by
    intro h0
    unfold aLast
    rw [if_neg h0]
    have := (a3 ((vs.length : Int) - 1) (by omega) (by omega)).1
    rw [show ((vs.length : Int) - 1).toNat = vs.length - 1 by omega, show (47 + 4 * ((vs.length : Int) - 1)) = 47 + 4 * (vs.length : Int) - 4 by omega] at this
    exact this
  have hl0 : vs.length = 0 → aLast vs = 0 := fun q => by unfold aLast; rw [if_pos q]
  refine fp_Ok.of (r := 2) rfl (Nat.le_of_ble_eq_true rfl) rfl ?_
  have body : fp_S l G 2 kX12_comes 31 [some (rV G 177), some (iV day), some (iV p), some (iV x), some (iV t), some (iV (vs.length : Int)), some (iV (aLast vs))] [] M (qI fun z N => z = (A_come g vs day p x t).1 ∧ mvRow (N 178) (A_come g vs day p x t).2 ∧ (∀ c, c ≠ 178 → N c = M c) ∧ ∀ j : Nat, (j < 47 ∨ 95 < j) → N 178 j = M 178 j) := by
    unfold A_come
    by_cases hin : (aLast vs ≤ day ∧ 0 ≤ day ∧ day ≤ 99) ∧ (0 ≤ p ∧ p < 4) ∧ (0 ≤ x ∧ x < g.2.1) ∧ (t = -4 ∨ (0 ≤ t ∧ t < g.1))
    · rw [if_neg (fun q => q hin)]
      by_cases h12 : 12 ≤ vs.length
      · rw [if_pos h12]
        refine S.iload_n (pc' := 32) dX12_comes_31 rfl rfl rfl ?_
        refine S.i2l (pc' := 33) dX12_comes_32 rfl h1 ?_
        refine S.iload (pc' := 35) dX12_comes_33 rfl rfl ?_
        refine S.i2l (pc' := 36) dX12_comes_35 rfl (by unfold fp_rng; omega) ?_
        refine S.ldc2 (pc' := 39) (v := 99) dX12_comes_36 rfl lX12_251 (by decide) ?_
        refine S.callSi (pc' := 42) dX12_comes_39 rfl cX12_94 (bk_X12_in) rfl (by decide) rfl (Nat.le_of_ble_eq_true rfl) (fun z39 M39 q39 => ?_)
        obtain ⟨b39, rfl⟩ := q39
        refine S.if_eq (pc' := 45) (tgt := 76) dX12_comes_42 (by decide) rfl (by unfold fp_rng; omega) (fun h42 => ?_) (fun h42 => ?_)
        · exfalso; omega
        · refine S.iload_n (pc' := 46) dX12_comes_45 rfl rfl rfl ?_
          refine S.callSi (pc' := 49) dX12_comes_46 rfl cX12_228 (bk_X12_isOne) rfl (by decide) rfl (Nat.le_of_ble_eq_true rfl) (fun z46 M46 q46 => ?_)
          obtain ⟨b46, rfl⟩ := q46
          refine S.if_eq (pc' := 52) (tgt := 76) dX12_comes_49 (by decide) rfl (by unfold fp_rng; omega) (fun h49 => ?_) (fun h49 => ?_)
          · exfalso; omega
          · refine S.aload_n (pc' := 53) dX12_comes_52 rfl rfl rfl ?_
            refine S.iload_n (pc' := 54) dX12_comes_53 rfl rfl rfl ?_
            refine S.callVi (pc' := 57) dX12_comes_54 rfl cX12_219 (bk_X12_isLine) rfl L_177 (by decide) rfl (Nat.le_of_ble_eq_true rfl) (fun z54 M54 q54 => ?_)
            obtain ⟨b54, rfl⟩ := q54
            refine S.if_eq (pc' := 60) (tgt := 76) dX12_comes_57 (by decide) rfl (by unfold fp_rng; omega) (fun h57 => ?_) (fun h57 => ?_)
            · exfalso; omega
            · refine S.aload_n (pc' := 61) dX12_comes_60 rfl rfl rfl ?_
              refine S.iload (pc' := 63) dX12_comes_61 rfl rfl ?_
              refine S.callVi (pc' := 66) dX12_comes_63 rfl cX12_205 (bk_X12_isThing) rfl L_177 (by decide) rfl (Nat.le_of_ble_eq_true rfl) (fun z63 M63 q63 => ?_)
              obtain ⟨b63, rfl⟩ := q63
              refine S.if_ne (pc' := 69) (tgt := 78) dX12_comes_66 (by decide) rfl (by unfold fp_rng; omega) (fun h66 => ?_) (fun h66 => ?_)
              · refine S.iload (pc' := 80) dX12_comes_78 rfl rfl ?_
                refine S.bipush (pc' := 82) dX12_comes_80 rfl (by decide) ?_
                refine S.icmp_ne (pc' := 85) (tgt := 88) dX12_comes_82 (by decide) rfl (by unfold fp_rng; omega) (by unfold fp_rng; omega) (fun h82 => ?_) (fun h82 => ?_)
                · exfalso; omega
                · refine S.bipush (pc' := 87) dX12_comes_85 rfl (by decide) ?_
                  refine S.iret dX12_comes_87 rfl ?_
                  exact ⟨rfl, hv', fun c hc => rfl, fun j hj => rfl⟩
              · refine S.iload (pc' := 71) dX12_comes_69 rfl rfl ?_
                refine S.bipush (pc' := 73) dX12_comes_71 rfl (by decide) ?_
                refine S.icmp_eq (pc' := 76) (tgt := 78) dX12_comes_73 (by decide) rfl h4 (by unfold fp_rng; omega) (fun h73 => ?_) (fun h73 => ?_)
                · refine S.iload (pc' := 80) dX12_comes_78 rfl rfl ?_
                  refine S.bipush (pc' := 82) dX12_comes_80 rfl (by decide) ?_
                  refine S.icmp_ne (pc' := 85) (tgt := 88) dX12_comes_82 (by decide) rfl (by unfold fp_rng; omega) (by unfold fp_rng; omega) (fun h82 => ?_) (fun h82 => ?_)
                  · exfalso; omega
                  · refine S.bipush (pc' := 87) dX12_comes_85 rfl (by decide) ?_
                    refine S.iret dX12_comes_87 rfl ?_
                    exact ⟨rfl, hv', fun c hc => rfl, fun j hj => rfl⟩
                · exfalso; omega
      · rw [if_neg h12]
        refine S.iload_n (pc' := 32) dX12_comes_31 rfl rfl rfl ?_
        refine S.i2l (pc' := 33) dX12_comes_32 rfl h1 ?_
        refine S.iload (pc' := 35) dX12_comes_33 rfl rfl ?_
        refine S.i2l (pc' := 36) dX12_comes_35 rfl (by unfold fp_rng; omega) ?_
        refine S.ldc2 (pc' := 39) (v := 99) dX12_comes_36 rfl lX12_251 (by decide) ?_
        refine S.callSi (pc' := 42) dX12_comes_39 rfl cX12_94 (bk_X12_in) rfl (by decide) rfl (Nat.le_of_ble_eq_true rfl) (fun z39 M39 q39 => ?_)
        obtain ⟨b39, rfl⟩ := q39
        refine S.if_eq (pc' := 45) (tgt := 76) dX12_comes_42 (by decide) rfl (by unfold fp_rng; omega) (fun h42 => ?_) (fun h42 => ?_)
        · exfalso; omega
        · refine S.iload_n (pc' := 46) dX12_comes_45 rfl rfl rfl ?_
          refine S.callSi (pc' := 49) dX12_comes_46 rfl cX12_228 (bk_X12_isOne) rfl (by decide) rfl (Nat.le_of_ble_eq_true rfl) (fun z46 M46 q46 => ?_)
          obtain ⟨b46, rfl⟩ := q46
          refine S.if_eq (pc' := 52) (tgt := 76) dX12_comes_49 (by decide) rfl (by unfold fp_rng; omega) (fun h49 => ?_) (fun h49 => ?_)
          · exfalso; omega
          · refine S.aload_n (pc' := 53) dX12_comes_52 rfl rfl rfl ?_
            refine S.iload_n (pc' := 54) dX12_comes_53 rfl rfl rfl ?_
            refine S.callVi (pc' := 57) dX12_comes_54 rfl cX12_219 (bk_X12_isLine) rfl L_177 (by decide) rfl (Nat.le_of_ble_eq_true rfl) (fun z54 M54 q54 => ?_)
            obtain ⟨b54, rfl⟩ := q54
            refine S.if_eq (pc' := 60) (tgt := 76) dX12_comes_57 (by decide) rfl (by unfold fp_rng; omega) (fun h57 => ?_) (fun h57 => ?_)
            · exfalso; omega
            · refine S.aload_n (pc' := 61) dX12_comes_60 rfl rfl rfl ?_
              refine S.iload (pc' := 63) dX12_comes_61 rfl rfl ?_
              refine S.callVi (pc' := 66) dX12_comes_63 rfl cX12_205 (bk_X12_isThing) rfl L_177 (by decide) rfl (Nat.le_of_ble_eq_true rfl) (fun z63 M63 q63 => ?_)
              obtain ⟨b63, rfl⟩ := q63
              refine S.if_ne (pc' := 69) (tgt := 78) dX12_comes_66 (by decide) rfl (by unfold fp_rng; omega) (fun h66 => ?_) (fun h66 => ?_)
              · refine S.iload (pc' := 80) dX12_comes_78 rfl rfl ?_
                refine S.bipush (pc' := 82) dX12_comes_80 rfl (by decide) ?_
                refine S.icmp_ne (pc' := 85) (tgt := 88) dX12_comes_82 (by decide) rfl (by unfold fp_rng; omega) (by unfold fp_rng; omega) (fun h82 => ?_) (fun h82 => ?_)
                · refine S.aload_n (pc' := 89) dX12_comes_88 rfl rfl rfl ?_
                  refine S.getR (pc' := 92) dX12_comes_89 rfl fX12_7 L_177 rf_177_0 ?_
                  refine S.bipush (pc' := 94) dX12_comes_92 rfl (by decide) ?_
                  refine S.iconst (pc' := 95) dX12_comes_94 rfl ?_
                  refine S.iload (pc' := 97) dX12_comes_95 rfl rfl ?_
                  refine S.imul (pc' := 98) dX12_comes_97 rfl ?_
                  refine S.iadd (pc' := 99) dX12_comes_98 rfl ?_
                  refine S.iload_n (pc' := 100) dX12_comes_99 rfl rfl rfl ?_
                  refine S.iast (pc' := 101) dX12_comes_100 rfl L_178 (by omega) (by omega) ?_
                  refine S.aload_n (pc' := 102) dX12_comes_101 rfl rfl rfl ?_
                  refine S.getR (pc' := 105) dX12_comes_102 rfl fX12_7 L_177 rf_177_0 ?_
                  refine S.bipush (pc' := 107) dX12_comes_105 rfl (by decide) ?_
                  refine S.iconst (pc' := 108) dX12_comes_107 rfl ?_
                  refine S.iload (pc' := 110) dX12_comes_108 rfl rfl ?_
                  refine S.imul (pc' := 111) dX12_comes_110 rfl ?_
                  refine S.iadd (pc' := 112) dX12_comes_111 rfl ?_
                  refine S.iconst (pc' := 113) dX12_comes_112 rfl ?_
                  refine S.iadd (pc' := 114) dX12_comes_113 rfl ?_
                  refine S.iload_n (pc' := 115) dX12_comes_114 rfl rfl rfl ?_
                  refine S.iast (pc' := 116) dX12_comes_115 rfl L_178 (by omega) (by omega) ?_
                  refine S.aload_n (pc' := 117) dX12_comes_116 rfl rfl rfl ?_
                  refine S.getR (pc' := 120) dX12_comes_117 rfl fX12_7 L_177 rf_177_0 ?_
                  refine S.bipush (pc' := 122) dX12_comes_120 rfl (by decide) ?_
                  refine S.iconst (pc' := 123) dX12_comes_122 rfl ?_
                  refine S.iload (pc' := 125) dX12_comes_123 rfl rfl ?_
                  refine S.imul (pc' := 126) dX12_comes_125 rfl ?_
                  refine S.iadd (pc' := 127) dX12_comes_126 rfl ?_
                  refine S.iconst (pc' := 128) dX12_comes_127 rfl ?_
                  refine S.iadd (pc' := 129) dX12_comes_128 rfl ?_
                  refine S.iload_n (pc' := 130) dX12_comes_129 rfl rfl rfl ?_
                  refine S.iast (pc' := 131) dX12_comes_130 rfl L_178 (by omega) (by omega) ?_
                  refine S.aload_n (pc' := 132) dX12_comes_131 rfl rfl rfl ?_
                  refine S.getR (pc' := 135) dX12_comes_132 rfl fX12_7 L_177 rf_177_0 ?_
                  refine S.bipush (pc' := 137) dX12_comes_135 rfl (by decide) ?_
                  refine S.iconst (pc' := 138) dX12_comes_137 rfl ?_
                  refine S.iload (pc' := 140) dX12_comes_138 rfl rfl ?_
                  refine S.imul (pc' := 141) dX12_comes_140 rfl ?_
                  refine S.iadd (pc' := 142) dX12_comes_141 rfl ?_
                  refine S.iconst (pc' := 143) dX12_comes_142 rfl ?_
                  refine S.iadd (pc' := 144) dX12_comes_143 rfl ?_
                  refine S.iload (pc' := 146) dX12_comes_144 rfl rfl ?_
                  refine S.iast (pc' := 147) dX12_comes_146 rfl L_178 (by omega) (by omega) ?_
                  simp only [fp_up_same, fp_upM_at, fp_upM_upM]
                  refine S.aload_n (pc' := 148) dX12_comes_147 rfl rfl rfl ?_
                  refine S.getR (pc' := 151) dX12_comes_148 rfl fX12_7 L_177 rf_177_0 ?_
                  refine S.bipush (pc' := 153) dX12_comes_151 rfl (by decide) ?_
                  refine S.dup2 (pc' := 154) dX12_comes_153 rfl rfl rfl ?_
                  refine S.iald (pc' := 155) dX12_comes_154 rfl L_178 (by omega) (by omega) ?_
                  refine S.iconst (pc' := 156) dX12_comes_155 rfl ?_
                  refine S.iadd (pc' := 157) dX12_comes_156 rfl ?_
                  refine S.iast (pc' := 158) dX12_comes_157 rfl L_178 (by omega) (by omega) ?_
                  simp only [fp_up_same, fp_upM_at, fp_upM_upM]
                  rw [show (95 : Int).toNat = 95 from rfl, fp_upf_ne (show 95 ≠ _ by omega), fp_upf_ne (show 95 ≠ _ by omega), fp_upf_ne (show 95 ≠ _ by omega), fp_upf_ne (show 95 ≠ _ by omega), a1]
                  refine S.iload (pc' := 160) dX12_comes_158 rfl rfl ?_
                  refine S.iconst (pc' := 161) dX12_comes_160 rfl ?_
                  refine S.iadd (pc' := 162) dX12_comes_161 rfl ?_
                  refine S.iret dX12_comes_162 rfl ?_
                  refine ⟨rfl, by rw [fp_upM_at]; exact hv'.app (by omega), fun c hc => fp_upM_ne hc, fun j hj => by rw [fp_upM_at, fp_upf_ne (by omega), fp_upf_ne (by omega), fp_upf_ne (by omega), fp_upf_ne (by omega), fp_upf_ne (by omega)]⟩
                · exfalso; omega
              · refine S.iload (pc' := 71) dX12_comes_69 rfl rfl ?_
                refine S.bipush (pc' := 73) dX12_comes_71 rfl (by decide) ?_
                refine S.icmp_eq (pc' := 76) (tgt := 78) dX12_comes_73 (by decide) rfl h4 (by unfold fp_rng; omega) (fun h73 => ?_) (fun h73 => ?_)
                · refine S.iload (pc' := 80) dX12_comes_78 rfl rfl ?_
                  refine S.bipush (pc' := 82) dX12_comes_80 rfl (by decide) ?_
                  refine S.icmp_ne (pc' := 85) (tgt := 88) dX12_comes_82 (by decide) rfl (by unfold fp_rng; omega) (by unfold fp_rng; omega) (fun h82 => ?_) (fun h82 => ?_)
                  · refine S.aload_n (pc' := 89) dX12_comes_88 rfl rfl rfl ?_
                    refine S.getR (pc' := 92) dX12_comes_89 rfl fX12_7 L_177 rf_177_0 ?_
                    refine S.bipush (pc' := 94) dX12_comes_92 rfl (by decide) ?_
                    refine S.iconst (pc' := 95) dX12_comes_94 rfl ?_
                    refine S.iload (pc' := 97) dX12_comes_95 rfl rfl ?_
                    refine S.imul (pc' := 98) dX12_comes_97 rfl ?_
                    refine S.iadd (pc' := 99) dX12_comes_98 rfl ?_
                    refine S.iload_n (pc' := 100) dX12_comes_99 rfl rfl rfl ?_
                    refine S.iast (pc' := 101) dX12_comes_100 rfl L_178 (by omega) (by omega) ?_
                    refine S.aload_n (pc' := 102) dX12_comes_101 rfl rfl rfl ?_
                    refine S.getR (pc' := 105) dX12_comes_102 rfl fX12_7 L_177 rf_177_0 ?_
                    refine S.bipush (pc' := 107) dX12_comes_105 rfl (by decide) ?_
                    refine S.iconst (pc' := 108) dX12_comes_107 rfl ?_
                    refine S.iload (pc' := 110) dX12_comes_108 rfl rfl ?_
                    refine S.imul (pc' := 111) dX12_comes_110 rfl ?_
                    refine S.iadd (pc' := 112) dX12_comes_111 rfl ?_
                    refine S.iconst (pc' := 113) dX12_comes_112 rfl ?_
                    refine S.iadd (pc' := 114) dX12_comes_113 rfl ?_
                    refine S.iload_n (pc' := 115) dX12_comes_114 rfl rfl rfl ?_
                    refine S.iast (pc' := 116) dX12_comes_115 rfl L_178 (by omega) (by omega) ?_
                    refine S.aload_n (pc' := 117) dX12_comes_116 rfl rfl rfl ?_
                    refine S.getR (pc' := 120) dX12_comes_117 rfl fX12_7 L_177 rf_177_0 ?_
                    refine S.bipush (pc' := 122) dX12_comes_120 rfl (by decide) ?_
                    refine S.iconst (pc' := 123) dX12_comes_122 rfl ?_
                    refine S.iload (pc' := 125) dX12_comes_123 rfl rfl ?_
                    refine S.imul (pc' := 126) dX12_comes_125 rfl ?_
                    refine S.iadd (pc' := 127) dX12_comes_126 rfl ?_
                    refine S.iconst (pc' := 128) dX12_comes_127 rfl ?_
                    refine S.iadd (pc' := 129) dX12_comes_128 rfl ?_
                    refine S.iload_n (pc' := 130) dX12_comes_129 rfl rfl rfl ?_
                    refine S.iast (pc' := 131) dX12_comes_130 rfl L_178 (by omega) (by omega) ?_
                    refine S.aload_n (pc' := 132) dX12_comes_131 rfl rfl rfl ?_
                    refine S.getR (pc' := 135) dX12_comes_132 rfl fX12_7 L_177 rf_177_0 ?_
                    refine S.bipush (pc' := 137) dX12_comes_135 rfl (by decide) ?_
                    refine S.iconst (pc' := 138) dX12_comes_137 rfl ?_
                    refine S.iload (pc' := 140) dX12_comes_138 rfl rfl ?_
                    refine S.imul (pc' := 141) dX12_comes_140 rfl ?_
                    refine S.iadd (pc' := 142) dX12_comes_141 rfl ?_
                    refine S.iconst (pc' := 143) dX12_comes_142 rfl ?_
                    refine S.iadd (pc' := 144) dX12_comes_143 rfl ?_
                    refine S.iload (pc' := 146) dX12_comes_144 rfl rfl ?_
                    refine S.iast (pc' := 147) dX12_comes_146 rfl L_178 (by omega) (by omega) ?_
                    simp only [fp_up_same, fp_upM_at, fp_upM_upM]
                    refine S.aload_n (pc' := 148) dX12_comes_147 rfl rfl rfl ?_
                    refine S.getR (pc' := 151) dX12_comes_148 rfl fX12_7 L_177 rf_177_0 ?_
                    refine S.bipush (pc' := 153) dX12_comes_151 rfl (by decide) ?_
                    refine S.dup2 (pc' := 154) dX12_comes_153 rfl rfl rfl ?_
                    refine S.iald (pc' := 155) dX12_comes_154 rfl L_178 (by omega) (by omega) ?_
                    refine S.iconst (pc' := 156) dX12_comes_155 rfl ?_
                    refine S.iadd (pc' := 157) dX12_comes_156 rfl ?_
                    refine S.iast (pc' := 158) dX12_comes_157 rfl L_178 (by omega) (by omega) ?_
                    simp only [fp_up_same, fp_upM_at, fp_upM_upM]
                    rw [show (95 : Int).toNat = 95 from rfl, fp_upf_ne (show 95 ≠ _ by omega), fp_upf_ne (show 95 ≠ _ by omega), fp_upf_ne (show 95 ≠ _ by omega), fp_upf_ne (show 95 ≠ _ by omega), a1]
                    refine S.iload (pc' := 160) dX12_comes_158 rfl rfl ?_
                    refine S.iconst (pc' := 161) dX12_comes_160 rfl ?_
                    refine S.iadd (pc' := 162) dX12_comes_161 rfl ?_
                    refine S.iret dX12_comes_162 rfl ?_
                    refine ⟨rfl, by rw [fp_upM_at]; exact hv'.app (by omega), fun c hc => fp_upM_ne hc, fun j hj => by rw [fp_upM_at, fp_upf_ne (by omega), fp_upf_ne (by omega), fp_upf_ne (by omega), fp_upf_ne (by omega), fp_upf_ne (by omega)]⟩
                  · exfalso; omega
                · exfalso; omega
    · rw [if_pos hin]
      refine S.iload_n (pc' := 32) dX12_comes_31 rfl rfl rfl ?_
      refine S.i2l (pc' := 33) dX12_comes_32 rfl h1 ?_
      refine S.iload (pc' := 35) dX12_comes_33 rfl rfl ?_
      refine S.i2l (pc' := 36) dX12_comes_35 rfl (by unfold fp_rng; omega) ?_
      refine S.ldc2 (pc' := 39) (v := 99) dX12_comes_36 rfl lX12_251 (by decide) ?_
      refine S.callSi (pc' := 42) dX12_comes_39 rfl cX12_94 (bk_X12_in) rfl (by decide) rfl (Nat.le_of_ble_eq_true rfl) (fun z39 M39 q39 => ?_)
      obtain ⟨b39, rfl⟩ := q39
      refine S.if_eq (pc' := 45) (tgt := 76) dX12_comes_42 (by decide) rfl (by unfold fp_rng; omega) (fun h42 => ?_) (fun h42 => ?_)
      · refine S.iconst (pc' := 77) dX12_comes_76 rfl ?_
        refine S.iret dX12_comes_77 rfl ?_
        exact ⟨rfl, hv', fun c hc => rfl, fun j hj => rfl⟩
      · refine S.iload_n (pc' := 46) dX12_comes_45 rfl rfl rfl ?_
        refine S.callSi (pc' := 49) dX12_comes_46 rfl cX12_228 (bk_X12_isOne) rfl (by decide) rfl (Nat.le_of_ble_eq_true rfl) (fun z46 M46 q46 => ?_)
        obtain ⟨b46, rfl⟩ := q46
        refine S.if_eq (pc' := 52) (tgt := 76) dX12_comes_49 (by decide) rfl (by unfold fp_rng; omega) (fun h49 => ?_) (fun h49 => ?_)
        · refine S.iconst (pc' := 77) dX12_comes_76 rfl ?_
          refine S.iret dX12_comes_77 rfl ?_
          exact ⟨rfl, hv', fun c hc => rfl, fun j hj => rfl⟩
        · refine S.aload_n (pc' := 53) dX12_comes_52 rfl rfl rfl ?_
          refine S.iload_n (pc' := 54) dX12_comes_53 rfl rfl rfl ?_
          refine S.callVi (pc' := 57) dX12_comes_54 rfl cX12_219 (bk_X12_isLine) rfl L_177 (by decide) rfl (Nat.le_of_ble_eq_true rfl) (fun z54 M54 q54 => ?_)
          obtain ⟨b54, rfl⟩ := q54
          refine S.if_eq (pc' := 60) (tgt := 76) dX12_comes_57 (by decide) rfl (by unfold fp_rng; omega) (fun h57 => ?_) (fun h57 => ?_)
          · refine S.iconst (pc' := 77) dX12_comes_76 rfl ?_
            refine S.iret dX12_comes_77 rfl ?_
            exact ⟨rfl, hv', fun c hc => rfl, fun j hj => rfl⟩
          · refine S.aload_n (pc' := 61) dX12_comes_60 rfl rfl rfl ?_
            refine S.iload (pc' := 63) dX12_comes_61 rfl rfl ?_
            refine S.callVi (pc' := 66) dX12_comes_63 rfl cX12_205 (bk_X12_isThing) rfl L_177 (by decide) rfl (Nat.le_of_ble_eq_true rfl) (fun z63 M63 q63 => ?_)
            obtain ⟨b63, rfl⟩ := q63
            refine S.if_ne (pc' := 69) (tgt := 78) dX12_comes_66 (by decide) rfl (by unfold fp_rng; omega) (fun h66 => ?_) (fun h66 => ?_)
            · exfalso; omega
            · refine S.iload (pc' := 71) dX12_comes_69 rfl rfl ?_
              refine S.bipush (pc' := 73) dX12_comes_71 rfl (by decide) ?_
              refine S.icmp_eq (pc' := 76) (tgt := 78) dX12_comes_73 (by decide) rfl h4 (by unfold fp_rng; omega) (fun h73 => ?_) (fun h73 => ?_)
              · exfalso; omega
              · refine S.iconst (pc' := 77) dX12_comes_76 rfl ?_
                refine S.iret dX12_comes_77 rfl ?_
                exact ⟨rfl, hv', fun c hc => rfl, fun j hj => rfl⟩
  refine S.aload_n (pc' := 1) dX12_comes_0 rfl rfl rfl ?_
  refine S.callVe (pc' := 4) dX12_comes_1 rfl cX12_225 (ok_X12_visits) rfl L_177 (by decide) rfl (Nat.le_of_ble_eq_true rfl) ?_
  rw [a1]
  refine S.istore (pc' := 6) (LL' := [_, _, _, _, _, _, _]) dX12_comes_4 rfl (by decide) rfl rfl ?_
  refine S.iload (pc' := 8) dX12_comes_6 rfl rfl ?_
  refine S.if_ne (pc' := 11) (tgt := 15) dX12_comes_8 (by decide) rfl (by unfold fp_rng; omega) (fun h8 => ?_) (fun h8 => ?_)
  · refine S.aload_n (pc' := 16) dX12_comes_15 rfl rfl rfl ?_
    refine S.getR (pc' := 19) dX12_comes_16 rfl fX12_7 L_177 rf_177_0 ?_
    refine S.bipush (pc' := 21) dX12_comes_19 rfl (by decide) ?_
    refine S.iconst (pc' := 22) dX12_comes_21 rfl ?_
    refine S.iload (pc' := 24) dX12_comes_22 rfl rfl ?_
    refine S.imul (pc' := 25) dX12_comes_24 rfl ?_
    refine S.iadd (pc' := 26) dX12_comes_25 rfl ?_
    refine S.iconst (pc' := 27) dX12_comes_26 rfl ?_
    refine S.isub (pc' := 28) dX12_comes_27 rfl ?_
    refine S.iald (pc' := 29) dX12_comes_28 rfl L_178 (by omega) (by omega) ?_
    first | (rw [hls (by omega)]) | (rw [← hl0 (by omega)])
    refine S.istore (pc' := 31) (LL' := [_, _, _, _, _, _, _]) dX12_comes_29 rfl (by decide) rfl rfl ?_
    exact body
  · refine S.iconst (pc' := 12) dX12_comes_11 rfl ?_
    refine S.goto (pc' := 29) dX12_comes_12 (by decide) ?_
    first | (rw [hls (by omega)]) | (rw [← hl0 (by omega)])
    refine S.istore (pc' := 31) (LL' := [_, _, _, _, _, _, _]) dX12_comes_29 rfl (by decide) rfl rfl ?_
    exact body
theorem mm_come {day p x t : Int} (hc : MS M tp fl g pg vs nt im sh tn) (ho : OK g pg vs nt im sh) (h1 : fp_rng day) (h2 : fp_rng p) (h3 : fp_rng x) (h4 : fp_rng t) : fp_Ok l G 3 kX12_come [rV G 177, iV day, iV p, iV x, iV t] M (qI fun z N => z = (A_come g vs day p x t).1 ∧ MS N tp fl g pg (A_come g vs day p x t).2 nt im sh tn ∧ frD M N) := by
  have hcs := hc
  obtain ⟨-, hd, -, hv, -⟩ := hc
  have hg := ho.1
  have hvo := ho.2.2.1
  refine fp_Ok.of (r := 0) rfl (Nat.le_of_ble_eq_true rfl) rfl ?_
  refine S.aload_n (pc' := 1) dX12_come_0 rfl rfl rfl ?_
  refine S.iload_n (pc' := 2) dX12_come_1 rfl rfl rfl ?_
  refine S.iload_n (pc' := 3) dX12_come_2 rfl rfl rfl ?_
  refine S.iload_n (pc' := 4) dX12_come_3 rfl rfl rfl ?_
  refine S.iload (pc' := 6) dX12_come_4 rfl rfl ?_
  refine S.callVi (pc' := 9) dX12_come_6 rfl cX12_253 (rk_X12_comes (g := g) (vs := vs)) rfl L_177 (by decide) rfl (Nat.le_of_ble_eq_true rfl) (fun z6 M6 q6 => ?_)
  obtain ⟨z1, c1, f1, f2⟩ := q6
  refine S.iret dX12_come_9 rfl ?_
  exact ⟨z1, hcs.vis ho f1 f2 c1, fun c hc => f1 c (by omega)⟩
end CME
