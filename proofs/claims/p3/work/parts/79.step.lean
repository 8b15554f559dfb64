/-! THE CLASS READS A TOKEN: step, numbers, stops -/
def stP (tp : List Int) (M N : fp_Mem) (s z : Int) : Prop := (∀ a, a ≠ 2 → N a = M a) ∧ (∀ j, j ≠ 7 → j ≠ 8 → j ≠ 9 → j ≠ 10 → j ≠ 3 → j ≠ 4 → N 2 j = M 2 j) ∧ N 2 8 = tkK tp (tkS tp s) ∧ N 2 9 = tkS tp s ∧ ((tkOk tp (tkS tp s) ∧ z = 1 ∧ N 2 7 = tkE tp (tkS tp s) ∧ N 2 3 = M 2 3 ∧ (tkK tp (tkS tp s) = 2 → N 2 10 = tkV tp (tkS tp s))) ∨ (¬ tkOk tp (tkS tp s) ∧ z = 0 ∧ N 2 3 = 1 ∧ N 2 4 = tkS tp s))
theorem stP.rd {tp : List Int} {M N : fp_Mem} {s z : Int} (h : stP tp M N s z) (hm : rdT M tp) : rdT N tp := by
  obtain ⟨h1, h2, -⟩ := h
  obtain ⟨m1, m2, m3⟩ := hm
  exact ⟨by rw [h2 5 (by decide) (by decide) (by decide) (by decide) (by decide) (by decide)]; exact m1, by rw [h2 6 (by decide) (by decide) (by decide) (by decide) (by decide) (by decide)]; exact m2, fun i i0 i1 => by rw [h1 1 (by decide)]; exact m3 i i0 i1⟩
theorem tkOk_sign {tp : List Int} {h : Int} (hlt : h < (tp.length : Int)) (hL : ¬ isLe (aBy tp h) = true) (hF : ¬ isFi (aBy tp h) = true) : tkOk tp h ↔ aBy tp h = 59 := by
  constructor
  · intro q
    rcases q with q | q | q | q
    · omega
    · exact absurd q hL
    · exact absurd q.1 hF
    · exact q.2
  · intro q
    exact Or.inr (Or.inr (Or.inr ⟨by simpa using hF, q⟩))
theorem bm59 {b : Int} (h : 0 ≤ b ∧ b < 256) : b.bmod 256 = 59 ↔ b = 59 := by
  rw [by_bm h]
  split <;> omega
section STQ
variable {l : Launch} {G : fp_WG} {M N : fp_Mem} {tp : List Int}
theorem rdT.up (hm : rdT M tp) {j : Nat} {z : Int} (h5 : j ≠ 5) (h6 : j ≠ 6) : rdT (fp_up M 2 j z) tp := by
  obtain ⟨m1, m2, m3⟩ := hm
  refine ⟨?_, ?_, fun i i0 i1 => by rw [fp_up_ne (by decide)]; exact m3 i i0 i1⟩
  · rw [fp_up_at, fp_upf_ne (fun e => h5 e.symm)]; exact m1
  · rw [fp_up_at, fp_upf_ne (fun e => h6 e.symm)]; exact m2
theorem rk_X6_step {s : Int} (ht : tpOk tp) (hm : rdT M tp) (hs : M 2 7 = s) (h0 : 0 ≤ s) (h1 : s ≤ (tp.length : Int)) : fp_Ok l G 1 kX6_step [rV G 2] M (qI fun z N => stP tp M N s z) := by
  refine fp_Ok.of (r := 0) rfl (Nat.le_of_ble_eq_true rfl) rfl ?_
  have hn := ht.1
  have hl := tkS_le h1
  have hE := tkE_le hl.2
  refine S.eqM (show M = fp_up M 2 7 s by rw [← hs]; exact (fp_up_self M 2 7).symm) ?_
  refine st_sp ht hm ?_ _ s rfl h0 h1 rfl
  generalize hh : tkS tp s = h at *
  have m1 := (hm.up (j := 7) (z := h) (by decide) (by decide)).up (j := 9) (z := h) (by decide) (by decide)
  have e7 : fp_up M 2 7 h 2 7 = h := rfl
  have e79 : fp_up (fp_up M 2 7 h) 2 9 h 2 7 = h := rfl
  have e69 : fp_up (fp_up M 2 7 h) 2 9 h 2 6 = (tp.length : Int) := m1.2.1
  by_cases hlt : h < (tp.length : Int)
  · have hb := ht.2 h (by omega) hlt
    have htx : fp_up (fp_up M 2 7 h) 2 9 h 2 5 = ((1 : Nat) : Int) + 1 := m1.1
    have e1 : fp_up (fp_up M 2 7 h) 2 9 h 1 h.toNat = (aBy tp h).bmod 256 := m1.2.2 h (by omega) hlt
    by_cases hL : isLe (aBy tp h) = true
    · have hbm := isLe_bm hb
      rw [if_pos hL] at hbm
      have kK : tkK tp h = 1 := by unfold tkK; rw [if_neg (by omega), if_pos hL]
      have kE : tkE tp h = aEnd isLe tp h := by unfold tkE; rw [if_neg (by omega), if_pos hL]
      have hQ : fp_S l G 1 kX6_step 123 [some (rV G 2)] [] (fp_up (fp_up (fp_up (fp_up M 2 7 h) 2 9 h) 2 8 1) 2 7 (aEnd isLe tp h)) (qI fun z N => stP tp M N s z) := by
        refine S.iconst (pc' := 124) dX6_step_123 rfl ?_
        refine S.zret dX6_step_124 rfl (by first | exact Or.inl rfl | exact Or.inr rfl | omega) ?_
        unfold stP
        rw [hh, kK, kE]
        exact ⟨fun a ha => by simp [fp_upM, ha], fun j q7 q8 q9 q10 q3 q4 => by simp [fp_upM, fp_upf, q7, q8, q9, q10], rfl, rfl, Or.inl ⟨Or.inr (Or.inl hL), rfl, rfl, rfl, fun q => absurd q (by decide)⟩⟩
      refine S.aload_n (pc' := 39) dX6_step_38 rfl rfl rfl ?_
      refine S.aload_n (pc' := 40) dX6_step_39 rfl rfl rfl ?_
      refine S.getI (pc' := 43) dX6_step_40 rfl fX6_40 L_2 ?_
      rw [e7]
      refine S.putI (pc' := 46) dX6_step_43 rfl fX6_76 L_2 ?_
      refine S.aload_n (pc' := 47) dX6_step_46 rfl rfl rfl ?_
      refine S.getI (pc' := 50) dX6_step_47 rfl fX6_40 L_2 ?_
      refine S.aload_n (pc' := 51) dX6_step_50 rfl rfl rfl ?_
      refine S.getI (pc' := 54) dX6_step_51 rfl fX6_36 L_2 ?_
      rw [e79, e69]
      refine S.icmp_lt (pc' := 57) (tgt := 64) dX6_step_54 (by decide) rfl (by unfold fp_rng; omega) (by unfold fp_rng; omega) (fun h54 => ?_) (fun h54 => ?_)
      · refine S.aload_n (pc' := 65) dX6_step_64 rfl rfl rfl ?_
        refine S.getT (pc' := 68) (t := 1) dX6_step_65 rfl fX6_32 L_2 rf_2_5 htx ?_
        refine S.aload_n (pc' := 69) dX6_step_68 rfl rfl rfl ?_
        refine S.getI (pc' := 72) dX6_step_69 rfl fX6_40 L_2 ?_
        rw [e79]
        refine S.bald (pc' := 73) dX6_step_72 rfl L_1 (by omega) (by omega) ?_
        rw [e1]
        refine S.callSe (pc' := 76) dX6_step_73 rfl cX6_79 (ok_X6_isLetter (bm_rng hb)) rfl (by decide) rfl (Nat.le_of_ble_eq_true rfl) ?_
        rw [hbm]
        refine S.if_eq (pc' := 79) (tgt := 125) dX6_step_76 (by decide) rfl (by unfold fp_rng; omega) (fun h76 => ?_) (fun h76 => ?_)
        · exfalso; omega
        · refine S.aload_n (pc' := 80) dX6_step_79 rfl rfl rfl ?_
          refine S.iconst (pc' := 81) dX6_step_80 rfl ?_
          refine S.putI (pc' := 84) dX6_step_81 rfl fX6_64 L_2 ?_
          exact S.eqM (fp_up_self (fp_up (fp_up (fp_up M 2 7 h) 2 9 h) 2 8 1) 2 7).symm (st_le ht (m1.up (by decide) (by decide)) hQ _ h rfl (by omega) (by omega) rfl)
      · exfalso; omega
    · have hbm := isLe_bm hb
      rw [if_neg hL] at hbm
      by_cases hF : isFi (aBy tp h) = true
      · have hbf := isFi_bm hb
        rw [if_pos hF] at hbf
        have kK : tkK tp h = 2 := by unfold tkK; rw [if_neg (by omega), if_neg hL, if_pos hF]
        have kE : tkE tp h = aEnd isFi tp h := by unfold tkE; rw [if_neg (by omega), if_neg hL, if_pos hF]
        have kV : tkV tp h = aDec tp h (aEnd isFi tp h - h).toNat := by unfold tkV; rw [kE]
        have hQ : fp_S l G 1 kX6_step 213 [some (rV G 2)] [] (fp_up (fp_up (fp_up (fp_up (fp_up M 2 7 h) 2 9 h) 2 8 2) 2 10 (aDec tp h (aEnd isFi tp h - h).toNat)) 2 7 (aEnd isFi tp h)) (qI fun z N => stP tp M N s z) := by
          generalize hx : fp_up (fp_up (fp_up (fp_up (fp_up M 2 7 h) 2 9 h) 2 8 2) 2 10 (aDec tp h (aEnd isFi tp h - h).toNat)) 2 7 (aEnd isFi tp h) = X
          have x7 : X 2 7 = aEnd isFi tp h := by rw [← hx]; rfl
          have x9 : X 2 9 = h := by rw [← hx]; rfl
          have x8 : X 2 8 = 2 := by rw [← hx]; rfl
          have x10 : X 2 10 = aDec tp h (aEnd isFi tp h - h).toNat := by rw [← hx]; rfl
          have x3 : X 2 3 = M 2 3 := by rw [← hx]; rfl
          have xa : ∀ a, a ≠ 2 → X a = M a := fun a ha => by rw [← hx]; simp [fp_upM, ha]
          have xj : ∀ j, j ≠ 7 → j ≠ 8 → j ≠ 9 → j ≠ 10 → j ≠ 3 → j ≠ 4 → X 2 j = M 2 j := fun j q7 q8 q9 q10 q3 q4 => by rw [← hx]; simp [fp_upM, fp_upf, q7, q8, q9, q10]
          clear hx
          have hle := aEnd_le (P := isFi) (tp := tp) (i := h) (by omega)
          by_cases h2 : aEnd isFi tp h - h ≤ 2
          · refine S.aload_n (pc' := 214) dX6_step_213 rfl rfl rfl ?_
            refine S.getI (pc' := 217) dX6_step_214 rfl fX6_40 L_2 ?_
            refine S.aload_n (pc' := 218) dX6_step_217 rfl rfl rfl ?_
            refine S.getI (pc' := 221) dX6_step_218 rfl fX6_76 L_2 ?_
            rw [x7, x9]
            refine S.isub (pc' := 222) dX6_step_221 rfl ?_
            refine S.iconst (pc' := 223) dX6_step_222 rfl ?_
            refine S.icmp_le (pc' := 226) (tgt := 238) dX6_step_223 (by decide) rfl (by unfold fp_rng; omega) (by unfold fp_rng; omega) (fun h223 => ?_) (fun h223 => ?_)
            · refine S.iconst (pc' := 239) dX6_step_238 rfl ?_
              refine S.goto (pc' := 243) dX6_step_239 (by decide) ?_
              refine S.zret dX6_step_243 rfl (by first | exact Or.inl rfl | exact Or.inr rfl | omega) ?_
              unfold stP
              rw [hh, kK, kE, kV]
              exact ⟨xa, xj, x8, x9, Or.inl ⟨Or.inr (Or.inr (Or.inl ⟨hF, h2⟩)), rfl, x7, x3, fun _ => x10⟩⟩
            · exfalso; omega
          · refine S.aload_n (pc' := 214) dX6_step_213 rfl rfl rfl ?_
            refine S.getI (pc' := 217) dX6_step_214 rfl fX6_40 L_2 ?_
            refine S.aload_n (pc' := 218) dX6_step_217 rfl rfl rfl ?_
            refine S.getI (pc' := 221) dX6_step_218 rfl fX6_76 L_2 ?_
            rw [x7, x9]
            refine S.isub (pc' := 222) dX6_step_221 rfl ?_
            refine S.iconst (pc' := 223) dX6_step_222 rfl ?_
            refine S.icmp_le (pc' := 226) (tgt := 238) dX6_step_223 (by decide) rfl (by unfold fp_rng; omega) (by unfold fp_rng; omega) (fun h223 => ?_) (fun h223 => ?_)
            · exfalso; first | omega | (rename_i q; exact q rfl)
            · refine S.aload_n (pc' := 227) dX6_step_226 rfl rfl rfl ?_
              refine S.iconst (pc' := 228) dX6_step_227 rfl ?_
              refine S.aload_n (pc' := 229) dX6_step_228 rfl rfl rfl ?_
              refine S.getI (pc' := 232) dX6_step_229 rfl fX6_76 L_2 ?_
              rw [x9]
              refine S.callVe (pc' := 235) dX6_step_232 rfl cX6_89 ok_X6_refuse rfl L_2 (by decide) rfl (Nat.le_of_ble_eq_true rfl) ?_
              refine S.if_eq (pc' := 238) (tgt := 242) dX6_step_235 (by decide) rfl (by unfold fp_rng; omega) (fun h235 => ?_) (fun h235 => ?_)
              · refine S.iconst (pc' := 243) dX6_step_242 rfl ?_
                refine S.zret dX6_step_243 rfl (by first | exact Or.inl rfl | exact Or.inr rfl | omega) ?_
                unfold stP
                rw [hh, kK]
                refine ⟨fun a ha => by rw [fp_up_ne ha, fp_up_ne ha]; exact xa a ha, fun j q7 q8 q9 q10 q3 q4 => by rw [fp_up_at, fp_upf_ne q4, fp_up_at, fp_upf_ne q3]; exact xj j q7 q8 q9 q10 q3 q4, x8, x9, Or.inr ⟨fun q => ?_, rfl, rfl, rfl⟩⟩
                rcases q with q | q | q | q
                · omega
                · exact hL q
                · exact h2 q.2
                · rw [hF] at q; exact absurd q.1 (by decide)
              · exfalso; first | omega | (rename_i q; exact q rfl)
        refine S.aload_n (pc' := 39) dX6_step_38 rfl rfl rfl ?_
        refine S.aload_n (pc' := 40) dX6_step_39 rfl rfl rfl ?_
        refine S.getI (pc' := 43) dX6_step_40 rfl fX6_40 L_2 ?_
        rw [e7]
        refine S.putI (pc' := 46) dX6_step_43 rfl fX6_76 L_2 ?_
        refine S.aload_n (pc' := 47) dX6_step_46 rfl rfl rfl ?_
        refine S.getI (pc' := 50) dX6_step_47 rfl fX6_40 L_2 ?_
        refine S.aload_n (pc' := 51) dX6_step_50 rfl rfl rfl ?_
        refine S.getI (pc' := 54) dX6_step_51 rfl fX6_36 L_2 ?_
        rw [e79, e69]
        refine S.icmp_lt (pc' := 57) (tgt := 64) dX6_step_54 (by decide) rfl (by unfold fp_rng; omega) (by unfold fp_rng; omega) (fun h54 => ?_) (fun h54 => ?_)
        · refine S.aload_n (pc' := 65) dX6_step_64 rfl rfl rfl ?_
          refine S.getT (pc' := 68) (t := 1) dX6_step_65 rfl fX6_32 L_2 rf_2_5 htx ?_
          refine S.aload_n (pc' := 69) dX6_step_68 rfl rfl rfl ?_
          refine S.getI (pc' := 72) dX6_step_69 rfl fX6_40 L_2 ?_
          rw [e79]
          refine S.bald (pc' := 73) dX6_step_72 rfl L_1 (by omega) (by omega) ?_
          rw [e1]
          refine S.callSe (pc' := 76) dX6_step_73 rfl cX6_79 (ok_X6_isLetter (bm_rng hb)) rfl (by decide) rfl (Nat.le_of_ble_eq_true rfl) ?_
          rw [hbm]
          refine S.if_eq (pc' := 79) (tgt := 125) dX6_step_76 (by decide) rfl (by unfold fp_rng; omega) (fun h76 => ?_) (fun h76 => ?_)
          · refine S.aload_n (pc' := 126) dX6_step_125 rfl rfl rfl ?_
            refine S.getT (pc' := 129) (t := 1) dX6_step_126 rfl fX6_32 L_2 rf_2_5 htx ?_
            refine S.aload_n (pc' := 130) dX6_step_129 rfl rfl rfl ?_
            refine S.getI (pc' := 133) dX6_step_130 rfl fX6_40 L_2 ?_
            rw [e79]
            refine S.bald (pc' := 134) dX6_step_133 rfl L_1 (by omega) (by omega) ?_
            rw [e1]
            refine S.callSe (pc' := 137) dX6_step_134 rfl cX6_83 (ok_X6_isFigure (bm_rng hb)) rfl (by decide) rfl (Nat.le_of_ble_eq_true rfl) ?_
            rw [hbf]
            refine S.if_eq (pc' := 140) (tgt := 244) dX6_step_137 (by decide) rfl (by unfold fp_rng; omega) (fun h137 => ?_) (fun h137 => ?_)
            · exfalso; omega
            · refine S.aload_n (pc' := 141) dX6_step_140 rfl rfl rfl ?_
              refine S.iconst (pc' := 142) dX6_step_141 rfl ?_
              refine S.putI (pc' := 145) dX6_step_142 rfl fX6_64 L_2 ?_
              refine S.aload_n (pc' := 146) dX6_step_145 rfl rfl rfl ?_
              refine S.iconst (pc' := 147) dX6_step_146 rfl ?_
              refine S.putI (pc' := 150) dX6_step_147 rfl fX6_86 L_2 ?_
              refine S.eqM (?_ : _ = fp_up (fp_up (fp_up (fp_up (fp_up M 2 7 h) 2 9 h) 2 8 2) 2 10 (aDec tp h (h - h).toNat)) 2 7 h) (st_fi ht (m1.up (by decide) (by decide)) hQ _ h rfl (by omega) (by omega) (by omega) rfl)
              rw [show h - h = 0 by omega]
              exact (fp_up_self (fp_up (fp_up (fp_up (fp_up M 2 7 h) 2 9 h) 2 8 2) 2 10 0) 2 7).symm
          · exfalso; omega
        · exfalso; omega
      · have hbf := isFi_bm hb
        rw [if_neg hF] at hbf
        have kK : tkK tp h = 3 := by unfold tkK; rw [if_neg (by omega), if_neg hL, if_neg hF]
        have kE : tkE tp h = h + 1 := by unfold tkE; rw [if_neg (by omega), if_neg hL, if_neg hF]
        have hbv := by_bm hb
        have htx2 : fp_up (fp_up (fp_up (fp_up M 2 7 h) 2 9 h) 2 8 3) 2 7 (h + 1) 2 5 = ((1 : Nat) : Int) + 1 := m1.1
        have e9x : fp_up (fp_up (fp_up (fp_up M 2 7 h) 2 9 h) 2 8 3) 2 7 (h + 1) 2 9 = h := rfl
        have e1x : fp_up (fp_up (fp_up (fp_up M 2 7 h) 2 9 h) 2 8 3) 2 7 (h + 1) 1 h.toNat = (aBy tp h).bmod 256 := e1
        refine S.aload_n (pc' := 39) dX6_step_38 rfl rfl rfl ?_
        refine S.aload_n (pc' := 40) dX6_step_39 rfl rfl rfl ?_
        refine S.getI (pc' := 43) dX6_step_40 rfl fX6_40 L_2 ?_
        rw [e7]
        refine S.putI (pc' := 46) dX6_step_43 rfl fX6_76 L_2 ?_
        refine S.aload_n (pc' := 47) dX6_step_46 rfl rfl rfl ?_
        refine S.getI (pc' := 50) dX6_step_47 rfl fX6_40 L_2 ?_
        refine S.aload_n (pc' := 51) dX6_step_50 rfl rfl rfl ?_
        refine S.getI (pc' := 54) dX6_step_51 rfl fX6_36 L_2 ?_
        rw [e79, e69]
        refine S.icmp_lt (pc' := 57) (tgt := 64) dX6_step_54 (by decide) rfl (by unfold fp_rng; omega) (by unfold fp_rng; omega) (fun h54 => ?_) (fun h54 => ?_)
        · refine S.aload_n (pc' := 65) dX6_step_64 rfl rfl rfl ?_
          refine S.getT (pc' := 68) (t := 1) dX6_step_65 rfl fX6_32 L_2 rf_2_5 htx ?_
          refine S.aload_n (pc' := 69) dX6_step_68 rfl rfl rfl ?_
          refine S.getI (pc' := 72) dX6_step_69 rfl fX6_40 L_2 ?_
          rw [e79]
          refine S.bald (pc' := 73) dX6_step_72 rfl L_1 (by omega) (by omega) ?_
          rw [e1]
          refine S.callSe (pc' := 76) dX6_step_73 rfl cX6_79 (ok_X6_isLetter (bm_rng hb)) rfl (by decide) rfl (Nat.le_of_ble_eq_true rfl) ?_
          rw [hbm]
          refine S.if_eq (pc' := 79) (tgt := 125) dX6_step_76 (by decide) rfl (by unfold fp_rng; omega) (fun h76 => ?_) (fun h76 => ?_)
          · refine S.aload_n (pc' := 126) dX6_step_125 rfl rfl rfl ?_
            refine S.getT (pc' := 129) (t := 1) dX6_step_126 rfl fX6_32 L_2 rf_2_5 htx ?_
            refine S.aload_n (pc' := 130) dX6_step_129 rfl rfl rfl ?_
            refine S.getI (pc' := 133) dX6_step_130 rfl fX6_40 L_2 ?_
            rw [e79]
            refine S.bald (pc' := 134) dX6_step_133 rfl L_1 (by omega) (by omega) ?_
            rw [e1]
            refine S.callSe (pc' := 137) dX6_step_134 rfl cX6_83 (ok_X6_isFigure (bm_rng hb)) rfl (by decide) rfl (Nat.le_of_ble_eq_true rfl) ?_
            rw [hbf]
            refine S.if_eq (pc' := 140) (tgt := 244) dX6_step_137 (by decide) rfl (by unfold fp_rng; omega) (fun h137 => ?_) (fun h137 => ?_)
            · refine S.aload_n (pc' := 245) dX6_step_244 rfl rfl rfl ?_
              refine S.iconst (pc' := 246) dX6_step_245 rfl ?_
              refine S.putI (pc' := 249) dX6_step_246 rfl fX6_64 L_2 ?_
              refine S.aload_n (pc' := 250) dX6_step_249 rfl rfl rfl ?_
              refine S.dup (pc' := 251) dX6_step_250 rfl rfl ?_
              refine S.getI (pc' := 254) dX6_step_251 rfl fX6_40 L_2 ?_
              rw [show fp_up (fp_up (fp_up M 2 7 h) 2 9 h) 2 8 3 2 7 = h from rfl]
              refine S.iconst (pc' := 255) dX6_step_254 rfl ?_
              refine S.iadd (pc' := 256) dX6_step_255 rfl ?_
              refine S.putI (pc' := 259) dX6_step_256 rfl fX6_40 L_2 ?_
              refine S.aload_n (pc' := 260) dX6_step_259 rfl rfl rfl ?_
              refine S.getT (pc' := 263) (t := 1) dX6_step_260 rfl fX6_32 L_2 rf_2_5 htx2 ?_
              refine S.aload_n (pc' := 264) dX6_step_263 rfl rfl rfl ?_
              refine S.getI (pc' := 267) dX6_step_264 rfl fX6_76 L_2 ?_
              rw [e9x]
              refine S.bald (pc' := 268) dX6_step_267 rfl L_1 (by omega) (by omega) ?_
              rw [e1x]
              refine S.bipush (pc' := 270) dX6_step_268 rfl (by decide) ?_
              refine S.icmp_eq (pc' := 273) (tgt := 285) dX6_step_270 (by decide) rfl (bm_rng hb) (by unfold fp_rng; omega) (fun h270 => ?_) (fun h270 => ?_)
              · refine S.iconst (pc' := 286) dX6_step_285 rfl ?_
                refine S.goto (pc' := 290) dX6_step_286 (by decide) ?_
                refine S.zret dX6_step_290 rfl (by first | exact Or.inl rfl | exact Or.inr rfl | omega) ?_
                unfold stP
                rw [hh, kK, kE]
                rw [bm59 hb, ← tkOk_sign hlt hL hF] at h270
                first
                | exact ⟨fun a ha => by simp [fp_upM, ha], fun j q7 q8 q9 q10 q3 q4 => by simp [fp_upM, fp_upf, q7, q8, q9], rfl, rfl, Or.inl ⟨h270, rfl, rfl, rfl, fun q => absurd q (by decide)⟩⟩
                | exact ⟨fun a ha => by simp [fp_upM, ha], fun j q7 q8 q9 q10 q3 q4 => by simp [fp_upM, fp_upf, q7, q8, q9, q3, q4], rfl, rfl, Or.inr ⟨h270, rfl, rfl, rfl⟩⟩
                | exact absurd rfl h282
              · refine S.aload_n (pc' := 274) dX6_step_273 rfl rfl rfl ?_
                refine S.iconst (pc' := 275) dX6_step_274 rfl ?_
                refine S.aload_n (pc' := 276) dX6_step_275 rfl rfl rfl ?_
                refine S.getI (pc' := 279) dX6_step_276 rfl fX6_76 L_2 ?_
                rw [e9x]
                refine S.callVe (pc' := 282) dX6_step_279 rfl cX6_89 ok_X6_refuse rfl L_2 (by decide) rfl (Nat.le_of_ble_eq_true rfl) ?_
                refine S.if_eq (pc' := 285) (tgt := 289) dX6_step_282 (by decide) rfl (by unfold fp_rng; omega) (fun h282 => ?_) (fun h282 => ?_)
                · refine S.iconst (pc' := 290) dX6_step_289 rfl ?_
                  refine S.zret dX6_step_290 rfl (by first | exact Or.inl rfl | exact Or.inr rfl | omega) ?_
                  unfold stP
                  rw [hh, kK, kE]
                  rw [bm59 hb, ← tkOk_sign hlt hL hF] at h270
                  first
                  | exact ⟨fun a ha => by simp [fp_upM, ha], fun j q7 q8 q9 q10 q3 q4 => by simp [fp_upM, fp_upf, q7, q8, q9], rfl, rfl, Or.inl ⟨h270, rfl, rfl, rfl, fun q => absurd q (by decide)⟩⟩
                  | exact ⟨fun a ha => by simp [fp_upM, ha], fun j q7 q8 q9 q10 q3 q4 => by simp [fp_upM, fp_upf, q7, q8, q9, q3, q4], rfl, rfl, Or.inr ⟨h270, rfl, rfl, rfl⟩⟩
                  | exact absurd rfl h282
                · refine S.iconst (pc' := 286) dX6_step_285 rfl ?_
                  refine S.goto (pc' := 290) dX6_step_286 (by decide) ?_
                  refine S.zret dX6_step_290 rfl (by first | exact Or.inl rfl | exact Or.inr rfl | omega) ?_
                  unfold stP
                  rw [hh, kK, kE]
                  rw [bm59 hb, ← tkOk_sign hlt hL hF] at h270
                  first
                  | exact ⟨fun a ha => by simp [fp_upM, ha], fun j q7 q8 q9 q10 q3 q4 => by simp [fp_upM, fp_upf, q7, q8, q9], rfl, rfl, Or.inl ⟨h270, rfl, rfl, rfl, fun q => absurd q (by decide)⟩⟩
                  | exact ⟨fun a ha => by simp [fp_upM, ha], fun j q7 q8 q9 q10 q3 q4 => by simp [fp_upM, fp_upf, q7, q8, q9, q3, q4], rfl, rfl, Or.inr ⟨h270, rfl, rfl, rfl⟩⟩
                  | exact absurd rfl h282
            · exfalso; omega
          · exfalso; omega
        · exfalso; omega
  · have kK : tkK tp h = 0 := by unfold tkK; rw [if_pos (by omega)]
    have kE : tkE tp h = h := by unfold tkE; rw [if_pos (by omega)]
    refine S.aload_n (pc' := 39) dX6_step_38 rfl rfl rfl ?_
    refine S.aload_n (pc' := 40) dX6_step_39 rfl rfl rfl ?_
    refine S.getI (pc' := 43) dX6_step_40 rfl fX6_40 L_2 ?_
    rw [e7]
    refine S.putI (pc' := 46) dX6_step_43 rfl fX6_76 L_2 ?_
    refine S.aload_n (pc' := 47) dX6_step_46 rfl rfl rfl ?_
    refine S.getI (pc' := 50) dX6_step_47 rfl fX6_40 L_2 ?_
    refine S.aload_n (pc' := 51) dX6_step_50 rfl rfl rfl ?_
    refine S.getI (pc' := 54) dX6_step_51 rfl fX6_36 L_2 ?_
    rw [e79, e69]
    refine S.icmp_lt (pc' := 57) (tgt := 64) dX6_step_54 (by decide) rfl (by unfold fp_rng; omega) (by unfold fp_rng; omega) (fun h54 => ?_) (fun h54 => ?_)
    · exfalso; omega
    · refine S.aload_n (pc' := 58) dX6_step_57 rfl rfl rfl ?_
      refine S.iconst (pc' := 59) dX6_step_58 rfl ?_
      refine S.putI (pc' := 62) dX6_step_59 rfl fX6_64 L_2 ?_
      refine S.iconst (pc' := 63) dX6_step_62 rfl ?_
      refine S.zret dX6_step_63 rfl (by first | exact Or.inl rfl | exact Or.inr rfl | omega) ?_
      unfold stP
      rw [hh, kK, kE]
      exact ⟨fun a ha => by simp [fp_upM, ha], fun j q7 q8 q9 q10 q3 q4 => by simp [fp_upM, fp_upf, q7, q8, q9, q10], rfl, rfl, Or.inl ⟨Or.inl (by omega), rfl, rfl, rfl, fun q => absurd q (by decide)⟩⟩
end STQ
