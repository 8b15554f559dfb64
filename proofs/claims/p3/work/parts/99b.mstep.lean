/-! THE REFERENCE STEPS TO A TOKEN -/
/-- only the fields of the token and of the fault differ -/
def frW (M N : fp_Mem) : Prop := (∀ a, a ≠ 177 → N a = M a) ∧ ∀ j, (j < 21 ∨ 26 < j) → N 177 j = M 177 j
def mtB (N : fp_Mem) (h : Int) : Prop := (1 ≤ N 177 21 ∧ N 177 21 ≤ 6) ∧ N 177 22 = h
theorem frW.refl (M : fp_Mem) : frW M M := ⟨fun _ _ => rfl, fun _ _ => rfl⟩
theorem frW.trans {M N O : fp_Mem} (h : frW M N) (h2 : frW N O) : frW M O := ⟨fun a ha => (h2.1 a ha).trans (h.1 a ha), fun j hj => (h2.2 j hj).trans (h.2 j hj)⟩
theorem frW.up {M N : fp_Mem} (h : frW M N) {j : Nat} {z : Int} (hj : 21 ≤ j ∧ j ≤ 26) : frW M (fp_up N 177 j z) := by
  refine ⟨fun a ha => by rw [fp_up_ne ha]; exact h.1 a ha, fun i hi => ?_⟩
  rw [fp_up_at, fp_upf_ne (by omega)]; exact h.2 i hi
theorem frW.T {M N : fp_Mem} {tp : List Int} (h : frW M N) (hm : mtT M tp) : mtT N tp := by
  refine ⟨by rw [h.2 19 (by omega)]; exact hm.1, fun i i0 i1 => by rw [h.1 186 (by decide)]; exact hm.2 i i0 i1⟩
/-- the token at s is taken up -/
def mtG (tp : List Int) (N : fp_Mem) (s : Int) : Prop := N 177 24 = tkS tp s ∧ N 177 23 = nxt tp s ∧ N 177 25 = tkK tp (tkS tp s)
def mtO (tp : List Int) (N : fp_Mem) (s : Int) : Prop := N 177 21 = 0 ∧ tkOk tp (tkS tp s) ∧ (tkK tp (tkS tp s) = 2 → N 177 26 = num tp s)
/-- what a step brings about -/
def smQ (tp : List Int) (M N : fp_Mem) (h : Int) : Prop := frW M N ∧ (N 177 24 = h ∧ N 177 23 = tkE tp h ∧ N 177 25 = tkK tp h) ∧ ((N 177 21 = 0 ∧ tkOk tp h ∧ (tkK tp h = 2 → N 177 26 = tkV tp h)) ∨ (¬ tkOk tp h ∧ mtB N h))
def smP (tp : List Int) (M N : fp_Mem) (s : Int) : Prop := frW M N ∧ mtG tp N s ∧ (mtO tp N s ∨ (¬ tkOk tp (tkS tp s) ∧ mtB N (tkS tp s)))
section MST
variable {l : Launch} {G : fp_WG} {M N : fp_Mem} {tp : List Int}
theorem mt_step1 (h21 : 1 ≤ M 177 21 ∧ M 177 21 ≤ 6) : fp_Ok l G 1 kX12_step [rV G 177] M (qW M) := by
  refine fp_Ok.of (r := 1) rfl (Nat.le_of_ble_eq_true rfl) rfl ?_
  refine S.aload_n (pc' := 1) dX12_step_0 rfl rfl rfl ?_
  refine S.getI (pc' := 4) dX12_step_1 rfl fX12_98 L_177 ?_
  refine S.if_le (pc' := 7) (tgt := 8) dX12_step_4 (by decide) rfl (by unfold fp_rng; omega) (fun h4 => ?_) (fun h4 => ?_)
  · exfalso; omega
  · refine S.vret dX12_step_7 rfl ?_
    rfl
theorem sm_out {v h : Int} (hj : frW M N) : frW M (fp_up (fp_up N 177 21 v) 177 22 h) := (hj.up (by omega)).up (by omega)
theorem mt_step {s : Int} (ht : tpOk tp) (hm : mtT M tp) (h21 : M 177 21 = 0) (hs : M 177 23 = s) (h0 : 0 ≤ s) (h1 : s ≤ (tp.length : Int)) : fp_Ok l G 1 kX12_step [rV G 177] M (qV fun N => smP tp M N s) := by
  refine fp_Ok.of (r := 1) rfl (Nat.le_of_ble_eq_true rfl) rfl ?_
  have hn := ht.1
  have hl := tkS_le h1
  have hE := tkE_le hl.2
  have hK : fp_S l G 1 kX12_step 34 [some (rV G 177), none] [] (fp_up M 177 23 (tkS tp s)) (qV fun N => smQ tp M N (tkS tp s)) := by
    generalize hh : tkS tp s = h at *
    unfold smQ
    have hb := mB_in (i := h) ht (by omega)
    have hifL := isLe_if (mB tp h)
    have hifF := isFi_if (mB tp h)
    have m1 : mtT (fp_up (fp_up M 177 23 h) 177 24 h) tp := (hm.up (by decide)).up (by decide)
    have e23 : fp_up M 177 23 h 177 23 = h := rfl
    have e23b : fp_up (fp_up M 177 23 h) 177 24 h 177 23 = h := rfl
    have f1 : frW M (fp_up (fp_up (fp_up M 177 23 h) 177 24 h) 177 26 0) := (((frW.refl M).up (by omega)).up (by omega)).up (by omega)
    have g1 : fp_up (fp_up (fp_up M 177 23 h) 177 24 h) 177 26 0 = fp_up (fp_up (fp_up M 177 24 h) 177 26 0) 177 23 h := by
      funext x y
      simp only [fp_up, fp_upM, fp_upf]
      by_cases hx : x = 177
      · simp only [hx, if_pos rfl]
        by_cases y1 : y = 23
        · subst y1; rfl
        · by_cases y2 : y = 24
          · subst y2; rfl
          · by_cases y3 : y = 26
            · subst y3; rfl
            · simp [fp_upf, y1, y2, y3]
      · simp [hx]
    by_cases hlt : h < (tp.length : Int)
    · have hbb : mB tp h = aBy tp h := by unfold mB; rw [if_pos hlt]
      have hby := ht.2 h (by omega) hlt
      rw [hbb] at hifL hifF hb
      by_cases hL : isLe (aBy tp h) = true
      · rw [if_pos hL] at hifL
        have kK : tkK tp h = 1 := by unfold tkK; rw [if_neg (by omega), if_pos hL]
        have kE : tkE tp h = aEnd isLe tp h := by unfold tkE; rw [if_neg (by omega), if_pos hL]
        rw [kK, kE]
        have hQ : ∀ o1, fp_S l G 1 kX12_step 118 [some (rV G 177), o1] [] (fp_up (fp_up (fp_up M 177 24 h) 177 26 0) 177 23 (aEnd isLe tp h)) (qV fun N => frW M N ∧ (N 177 24 = h ∧ N 177 23 = aEnd isLe tp h ∧ N 177 25 = 1) ∧ ((N 177 21 = 0 ∧ tkOk tp h ∧ ((1 : Int) = 2 → N 177 26 = tkV tp h)) ∨ (¬ tkOk tp h ∧ mtB N h))) := by
          intro o1
          refine S.aload_n (pc' := 119) dX12_step_118 rfl rfl rfl ?_
          refine S.iconst (pc' := 120) dX12_step_119 rfl ?_
          refine S.putI (pc' := 123) dX12_step_120 rfl fX12_107 L_177 ?_
          refine S.goto (pc' := 269) dX12_step_123 (by decide) ?_
          refine S.vret dX12_step_269 rfl ?_
          exact ⟨((((frW.refl M).up (by omega)).up (by omega)).up (by omega)).up (by omega), ⟨rfl, rfl, rfl⟩, Or.inl ⟨h21, Or.inr (Or.inl hL), fun q => absurd q (by decide)⟩⟩
        refine S.aload_n (pc' := 35) dX12_step_34 rfl rfl rfl ?_
        refine S.aload_n (pc' := 36) dX12_step_35 rfl rfl rfl ?_
        refine S.getI (pc' := 39) dX12_step_36 rfl fX12_110 L_177 ?_
        rw [e23]
        refine S.putI (pc' := 42) dX12_step_39 rfl fX12_101 L_177 ?_
        refine S.aload_n (pc' := 43) dX12_step_42 rfl rfl rfl ?_
        refine S.aload_n (pc' := 44) dX12_step_43 rfl rfl rfl ?_
        refine S.getI (pc' := 47) dX12_step_44 rfl fX12_110 L_177 ?_
        rw [e23b]
        refine S.callVe (pc' := 50) dX12_step_47 rfl cX12_113 (mt_byte ht m1 (by omega) hl.2) rfl L_177 (by decide) rfl (Nat.le_of_ble_eq_true rfl) ?_
        rw [hbb]
        refine S.istore_n (pc' := 51) (LL' := [_, _]) dX12_step_50 rfl (by decide) rfl rfl rfl ?_
        refine S.aload_n (pc' := 52) dX12_step_51 rfl rfl rfl ?_
        refine S.iconst (pc' := 53) dX12_step_52 rfl ?_
        refine S.putI (pc' := 56) dX12_step_53 rfl fX12_117 L_177 ?_
        refine S.iload_n (pc' := 57) dX12_step_56 rfl rfl rfl ?_
        refine S.bipush (pc' := 59) dX12_step_57 rfl (by decide) ?_
        refine S.icmp_ne (pc' := 62) (tgt := 70) dX12_step_59 (by decide) rfl (by unfold fp_rng; omega) (by unfold fp_rng; omega) (fun h59 => ?_) (fun h59 => ?_)
        · refine S.iload_n (pc' := 71) dX12_step_70 rfl rfl rfl ?_
          refine S.i2l (pc' := 72) dX12_step_71 rfl (by unfold fp_rng; omega) ?_
          refine S.ldc2 (pc' := 75) (v := 97) dX12_step_72 rfl lX12_120 (by decide) ?_
          refine S.ldc2 (pc' := 78) (v := 122) dX12_step_75 rfl lX12_122 (by decide) ?_
          refine S.callSe (pc' := 81) dX12_step_78 rfl cX12_94 ok_X12_in rfl (by decide) rfl (Nat.le_of_ble_eq_true rfl) ?_
          rw [hifL]
          refine S.if_eq (pc' := 84) (tgt := 126) dX12_step_81 (by decide) rfl (by unfold fp_rng; omega) (fun h81 => ?_) (fun h81 => ?_)
          · exfalso; omega
          · exact S.eqM g1 (mt_le _ ht ((hm.up (by decide)).up (by decide)) (hQ _) 1000 h (by omega) (by omega) hl.2 rfl)
        · exfalso; omega
      · rw [if_neg hL] at hifL
        by_cases hF : isFi (aBy tp h) = true
        · rw [if_pos hF] at hifF
          have kK : tkK tp h = 2 := by unfold tkK; rw [if_neg (by omega), if_neg hL, if_pos hF]
          have kE : tkE tp h = aEnd isFi tp h := by unfold tkE; rw [if_neg (by omega), if_neg hL, if_pos hF]
          have kV : tkV tp h = aDec tp h (aEnd isFi tp h - h).toNat := by unfold tkV; rw [kE]
          have hle := aEnd_le (P := isFi) (tp := tp) (i := h) (by omega)
          rw [kK, kE, kV]
          have hQ : ∀ o1, fp_S l G 1 kX12_step 217 [some (rV G 177), o1] [] (fp_up (fp_up (fp_up M 177 24 h) 177 26 (mV tp h (aEnd isFi tp h))) 177 23 (aEnd isFi tp h)) (qV fun N => frW M N ∧ (N 177 24 = h ∧ N 177 23 = aEnd isFi tp h ∧ N 177 25 = 2) ∧ ((N 177 21 = 0 ∧ tkOk tp h ∧ ((2 : Int) = 2 → N 177 26 = aDec tp h (aEnd isFi tp h - h).toNat)) ∨ (¬ tkOk tp h ∧ mtB N h))) := by
            intro o1
            have f2 : frW M (fp_up (fp_up (fp_up (fp_up M 177 24 h) 177 26 (mV tp h (aEnd isFi tp h))) 177 23 (aEnd isFi tp h)) 177 25 2) := ((((frW.refl M).up (by omega)).up (by omega)).up (by omega)).up (by omega)
            have x23 : fp_up (fp_up (fp_up (fp_up M 177 24 h) 177 26 (mV tp h (aEnd isFi tp h))) 177 23 (aEnd isFi tp h)) 177 25 2 177 23 = aEnd isFi tp h := rfl
            have x24 : fp_up (fp_up (fp_up (fp_up M 177 24 h) 177 26 (mV tp h (aEnd isFi tp h))) 177 23 (aEnd isFi tp h)) 177 25 2 177 24 = h := rfl
            have x21 : fp_up (fp_up (fp_up (fp_up M 177 24 h) 177 26 (mV tp h (aEnd isFi tp h))) 177 23 (aEnd isFi tp h)) 177 25 2 177 21 = 0 := h21
            by_cases h2 : aEnd isFi tp h - h ≤ 2
            · refine S.aload_n (pc' := 218) dX12_step_217 rfl rfl rfl ?_
              refine S.iconst (pc' := 219) dX12_step_218 rfl ?_
              refine S.putI (pc' := 222) dX12_step_219 rfl fX12_107 L_177 ?_
              refine S.aload_n (pc' := 223) dX12_step_222 rfl rfl rfl ?_
              refine S.getI (pc' := 226) dX12_step_223 rfl fX12_110 L_177 ?_
              refine S.aload_n (pc' := 227) dX12_step_226 rfl rfl rfl ?_
              refine S.getI (pc' := 230) dX12_step_227 rfl fX12_101 L_177 ?_
              refine S.isub (pc' := 231) dX12_step_230 rfl ?_
              refine S.iconst (pc' := 232) dX12_step_231 rfl ?_
              rw [x23, x24]
              refine S.icmp_le (pc' := 235) (tgt := 269) dX12_step_232 (by decide) rfl (by unfold fp_rng; omega) (by unfold fp_rng; omega) (fun h232 => ?_) (fun h232 => ?_)
              · refine S.vret dX12_step_269 rfl ?_
                refine ⟨f2, ⟨rfl, rfl, rfl⟩, Or.inl ⟨h21, Or.inr (Or.inr (Or.inl ⟨hF, h2⟩)), fun _ => ?_⟩⟩
                show mV tp h (aEnd isFi tp h) = _
                unfold mV
                rw [show min (aEnd isFi tp h - h).toNat 2 = (aEnd isFi tp h - h).toNat by omega]
              · exfalso; omega
            · have hno : ¬ tkOk tp h := by
                intro q
                rcases q with q | q | q | q
                · omega
                · exact hL q
                · exact h2 q.2
                · rw [hF] at q; exact absurd q.1 (by decide)
              refine S.aload_n (pc' := 218) dX12_step_217 rfl rfl rfl ?_
              refine S.iconst (pc' := 219) dX12_step_218 rfl ?_
              refine S.putI (pc' := 222) dX12_step_219 rfl fX12_107 L_177 ?_
              refine S.aload_n (pc' := 223) dX12_step_222 rfl rfl rfl ?_
              refine S.getI (pc' := 226) dX12_step_223 rfl fX12_110 L_177 ?_
              refine S.aload_n (pc' := 227) dX12_step_226 rfl rfl rfl ?_
              refine S.getI (pc' := 230) dX12_step_227 rfl fX12_101 L_177 ?_
              refine S.isub (pc' := 231) dX12_step_230 rfl ?_
              refine S.iconst (pc' := 232) dX12_step_231 rfl ?_
              rw [x23, x24]
              refine S.icmp_le (pc' := 235) (tgt := 269) dX12_step_232 (by decide) rfl (by unfold fp_rng; omega) (by unfold fp_rng; omega) (fun h232 => ?_) (fun h232 => ?_)
              · refine S.vret dX12_step_269 rfl ?_
                first
                | (exfalso; omega)
                | exact ⟨sm_out f2, ⟨rfl, rfl, rfl⟩, Or.inr ⟨hno, ⟨(by decide : (1 : Int) ≤ 1 ∧ (1 : Int) ≤ 6), rfl⟩⟩⟩
              · refine S.aload_n (pc' := 236) dX12_step_235 rfl rfl rfl ?_
                refine S.iconst (pc' := 237) dX12_step_236 rfl ?_
                refine S.callVw (pc' := 240) dX12_step_237 rfl cX12_128 (mt_fails0 x21) rfl L_177 (by decide) rfl (Nat.le_of_ble_eq_true rfl) ?_
                refine S.goto (pc' := 269) dX12_step_240 (by decide) ?_
                refine S.vret dX12_step_269 rfl ?_
                first
                | (exfalso; omega)
                | exact ⟨sm_out f2, ⟨rfl, rfl, rfl⟩, Or.inr ⟨hno, ⟨(by decide : (1 : Int) ≤ 1 ∧ (1 : Int) ≤ 6), rfl⟩⟩⟩
          refine S.aload_n (pc' := 35) dX12_step_34 rfl rfl rfl ?_
          refine S.aload_n (pc' := 36) dX12_step_35 rfl rfl rfl ?_
          refine S.getI (pc' := 39) dX12_step_36 rfl fX12_110 L_177 ?_
          rw [e23]
          refine S.putI (pc' := 42) dX12_step_39 rfl fX12_101 L_177 ?_
          refine S.aload_n (pc' := 43) dX12_step_42 rfl rfl rfl ?_
          refine S.aload_n (pc' := 44) dX12_step_43 rfl rfl rfl ?_
          refine S.getI (pc' := 47) dX12_step_44 rfl fX12_110 L_177 ?_
          rw [e23b]
          refine S.callVe (pc' := 50) dX12_step_47 rfl cX12_113 (mt_byte ht m1 (by omega) hl.2) rfl L_177 (by decide) rfl (Nat.le_of_ble_eq_true rfl) ?_
          rw [hbb]
          refine S.istore_n (pc' := 51) (LL' := [_, _]) dX12_step_50 rfl (by decide) rfl rfl rfl ?_
          refine S.aload_n (pc' := 52) dX12_step_51 rfl rfl rfl ?_
          refine S.iconst (pc' := 53) dX12_step_52 rfl ?_
          refine S.putI (pc' := 56) dX12_step_53 rfl fX12_117 L_177 ?_
          refine S.iload_n (pc' := 57) dX12_step_56 rfl rfl rfl ?_
          refine S.bipush (pc' := 59) dX12_step_57 rfl (by decide) ?_
          refine S.icmp_ne (pc' := 62) (tgt := 70) dX12_step_59 (by decide) rfl (by unfold fp_rng; omega) (by unfold fp_rng; omega) (fun h59 => ?_) (fun h59 => ?_)
          · refine S.iload_n (pc' := 71) dX12_step_70 rfl rfl rfl ?_
            refine S.i2l (pc' := 72) dX12_step_71 rfl (by unfold fp_rng; omega) ?_
            refine S.ldc2 (pc' := 75) (v := 97) dX12_step_72 rfl lX12_120 (by decide) ?_
            refine S.ldc2 (pc' := 78) (v := 122) dX12_step_75 rfl lX12_122 (by decide) ?_
            refine S.callSe (pc' := 81) dX12_step_78 rfl cX12_94 ok_X12_in rfl (by decide) rfl (Nat.le_of_ble_eq_true rfl) ?_
            rw [hifL]
            refine S.if_eq (pc' := 84) (tgt := 126) dX12_step_81 (by decide) rfl (by unfold fp_rng; omega) (fun h81 => ?_) (fun h81 => ?_)
            · refine S.iload_n (pc' := 127) dX12_step_126 rfl rfl rfl ?_
              refine S.i2l (pc' := 128) dX12_step_127 rfl (by unfold fp_rng; omega) ?_
              refine S.ldc2 (pc' := 131) (v := 48) dX12_step_128 rfl lX12_124 (by decide) ?_
              refine S.ldc2 (pc' := 134) (v := 57) dX12_step_131 rfl lX12_126 (by decide) ?_
              refine S.callSe (pc' := 137) dX12_step_134 rfl cX12_94 ok_X12_in rfl (by decide) rfl (Nat.le_of_ble_eq_true rfl) ?_
              rw [hifF]
              refine S.if_eq (pc' := 140) (tgt := 243) dX12_step_137 (by decide) rfl (by unfold fp_rng; omega) (fun h137 => ?_) (fun h137 => ?_)
              · exfalso; omega
              · refine S.eqM (g1.trans ?_) (mt_fi (M := fp_up M 177 24 h) (h := h) _ ht (hm.up (by decide)) rfl (hQ _) 1000 h (by omega) (by omega) (by omega) hl.2 rfl)
                unfold mV
                rw [show min (h - h).toNat 2 = 0 by omega]
                rfl
            · exact absurd rfl h81
          · exfalso; omega
        · rw [if_neg hF] at hifF
          have kK : tkK tp h = 3 := by unfold tkK; rw [if_neg (by omega), if_neg hL, if_neg hF]
          have kE : tkE tp h = h + 1 := by unfold tkE; rw [if_neg (by omega), if_neg hL, if_neg hF]
          rw [kK, kE]
          have x23 : fp_up (fp_up (fp_up (fp_up M 177 23 h) 177 24 h) 177 26 0) 177 25 3 177 23 = h := rfl
          have x21 : fp_up (fp_up (fp_up (fp_up (fp_up M 177 23 h) 177 24 h) 177 26 0) 177 25 3) 177 23 (h + 1) 177 21 = 0 := h21
          have f2 := (f1.up (j := 25) (z := 3) (by omega)).up (j := 23) (z := h + 1) (by omega)
          have hok := tkOk_sign hlt hL hF
          refine S.aload_n (pc' := 35) dX12_step_34 rfl rfl rfl ?_
          refine S.aload_n (pc' := 36) dX12_step_35 rfl rfl rfl ?_
          refine S.getI (pc' := 39) dX12_step_36 rfl fX12_110 L_177 ?_
          rw [e23]
          refine S.putI (pc' := 42) dX12_step_39 rfl fX12_101 L_177 ?_
          refine S.aload_n (pc' := 43) dX12_step_42 rfl rfl rfl ?_
          refine S.aload_n (pc' := 44) dX12_step_43 rfl rfl rfl ?_
          refine S.getI (pc' := 47) dX12_step_44 rfl fX12_110 L_177 ?_
          rw [e23b]
          refine S.callVe (pc' := 50) dX12_step_47 rfl cX12_113 (mt_byte ht m1 (by omega) hl.2) rfl L_177 (by decide) rfl (Nat.le_of_ble_eq_true rfl) ?_
          rw [hbb]
          refine S.istore_n (pc' := 51) (LL' := [_, _]) dX12_step_50 rfl (by decide) rfl rfl rfl ?_
          refine S.aload_n (pc' := 52) dX12_step_51 rfl rfl rfl ?_
          refine S.iconst (pc' := 53) dX12_step_52 rfl ?_
          refine S.putI (pc' := 56) dX12_step_53 rfl fX12_117 L_177 ?_
          refine S.iload_n (pc' := 57) dX12_step_56 rfl rfl rfl ?_
          refine S.bipush (pc' := 59) dX12_step_57 rfl (by decide) ?_
          refine S.icmp_ne (pc' := 62) (tgt := 70) dX12_step_59 (by decide) rfl (by unfold fp_rng; omega) (by unfold fp_rng; omega) (fun h59 => ?_) (fun h59 => ?_)
          · refine S.iload_n (pc' := 71) dX12_step_70 rfl rfl rfl ?_
            refine S.i2l (pc' := 72) dX12_step_71 rfl (by unfold fp_rng; omega) ?_
            refine S.ldc2 (pc' := 75) (v := 97) dX12_step_72 rfl lX12_120 (by decide) ?_
            refine S.ldc2 (pc' := 78) (v := 122) dX12_step_75 rfl lX12_122 (by decide) ?_
            refine S.callSe (pc' := 81) dX12_step_78 rfl cX12_94 ok_X12_in rfl (by decide) rfl (Nat.le_of_ble_eq_true rfl) ?_
            rw [hifL]
            refine S.if_eq (pc' := 84) (tgt := 126) dX12_step_81 (by decide) rfl (by unfold fp_rng; omega) (fun h81 => ?_) (fun h81 => ?_)
            · refine S.iload_n (pc' := 127) dX12_step_126 rfl rfl rfl ?_
              refine S.i2l (pc' := 128) dX12_step_127 rfl (by unfold fp_rng; omega) ?_
              refine S.ldc2 (pc' := 131) (v := 48) dX12_step_128 rfl lX12_124 (by decide) ?_
              refine S.ldc2 (pc' := 134) (v := 57) dX12_step_131 rfl lX12_126 (by decide) ?_
              refine S.callSe (pc' := 137) dX12_step_134 rfl cX12_94 ok_X12_in rfl (by decide) rfl (Nat.le_of_ble_eq_true rfl) ?_
              rw [hifF]
              refine S.if_eq (pc' := 140) (tgt := 243) dX12_step_137 (by decide) rfl (by unfold fp_rng; omega) (fun h137 => ?_) (fun h137 => ?_)
              · refine S.aload_n (pc' := 244) dX12_step_243 rfl rfl rfl ?_
                refine S.iconst (pc' := 245) dX12_step_244 rfl ?_
                refine S.putI (pc' := 248) dX12_step_245 rfl fX12_107 L_177 ?_
                refine S.aload_n (pc' := 249) dX12_step_248 rfl rfl rfl ?_
                refine S.dup (pc' := 250) dX12_step_249 rfl rfl ?_
                refine S.getI (pc' := 253) dX12_step_250 rfl fX12_110 L_177 ?_
                refine S.iconst (pc' := 254) dX12_step_253 rfl ?_
                refine S.iadd (pc' := 255) dX12_step_254 rfl ?_
                rw [x23]
                refine S.putI (pc' := 258) dX12_step_255 rfl fX12_110 L_177 ?_
                refine S.iload_n (pc' := 259) dX12_step_258 rfl rfl rfl ?_
                refine S.bipush (pc' := 261) dX12_step_259 rfl (by decide) ?_
                refine S.icmp_eq (pc' := 264) (tgt := 269) dX12_step_261 (by decide) rfl (by unfold fp_rng; omega) (by unfold fp_rng; omega) (fun h261 => ?_) (fun h261 => ?_)
                · refine S.vret dX12_step_269 rfl ?_
                  first
                  | exact ⟨f2, ⟨rfl, rfl, rfl⟩, Or.inl ⟨h21, hok.mpr h261, fun q => absurd q (by decide)⟩⟩
                  | exact ⟨sm_out f2, ⟨rfl, rfl, rfl⟩, Or.inr ⟨fun q => h261 (hok.mp q), ⟨(by decide : (1 : Int) ≤ 1 ∧ (1 : Int) ≤ 6), rfl⟩⟩⟩
                · refine S.aload_n (pc' := 265) dX12_step_264 rfl rfl rfl ?_
                  refine S.iconst (pc' := 266) dX12_step_265 rfl ?_
                  refine S.callVw (pc' := 269) dX12_step_266 rfl cX12_128 (mt_fails0 x21) rfl L_177 (by decide) rfl (Nat.le_of_ble_eq_true rfl) ?_
                  refine S.vret dX12_step_269 rfl ?_
                  first
                  | exact ⟨f2, ⟨rfl, rfl, rfl⟩, Or.inl ⟨h21, hok.mpr h261, fun q => absurd q (by decide)⟩⟩
                  | exact ⟨sm_out f2, ⟨rfl, rfl, rfl⟩, Or.inr ⟨fun q => h261 (hok.mp q), ⟨(by decide : (1 : Int) ≤ 1 ∧ (1 : Int) ≤ 6), rfl⟩⟩⟩
              · exact absurd rfl h137
            · exact absurd rfl h81
          · exfalso; omega
    · have hbb : mB tp h = -4 := by unfold mB; rw [if_neg hlt]
      have kK : tkK tp h = 0 := by unfold tkK; rw [if_pos (by omega)]
      have kE : tkE tp h = h := by unfold tkE; rw [if_pos (by omega)]
      rw [kK, kE]
      refine S.aload_n (pc' := 35) dX12_step_34 rfl rfl rfl ?_
      refine S.aload_n (pc' := 36) dX12_step_35 rfl rfl rfl ?_
      refine S.getI (pc' := 39) dX12_step_36 rfl fX12_110 L_177 ?_
      rw [e23]
      refine S.putI (pc' := 42) dX12_step_39 rfl fX12_101 L_177 ?_
      refine S.aload_n (pc' := 43) dX12_step_42 rfl rfl rfl ?_
      refine S.aload_n (pc' := 44) dX12_step_43 rfl rfl rfl ?_
      refine S.getI (pc' := 47) dX12_step_44 rfl fX12_110 L_177 ?_
      rw [e23b]
      refine S.callVe (pc' := 50) dX12_step_47 rfl cX12_113 (mt_byte ht m1 (by omega) hl.2) rfl L_177 (by decide) rfl (Nat.le_of_ble_eq_true rfl) ?_
      rw [hbb]
      refine S.istore_n (pc' := 51) (LL' := [_, _]) dX12_step_50 rfl (by decide) rfl rfl rfl ?_
      refine S.aload_n (pc' := 52) dX12_step_51 rfl rfl rfl ?_
      refine S.iconst (pc' := 53) dX12_step_52 rfl ?_
      refine S.putI (pc' := 56) dX12_step_53 rfl fX12_117 L_177 ?_
      refine S.iload_n (pc' := 57) dX12_step_56 rfl rfl rfl ?_
      refine S.bipush (pc' := 59) dX12_step_57 rfl (by decide) ?_
      refine S.icmp_ne (pc' := 62) (tgt := 70) dX12_step_59 (by decide) rfl (by unfold fp_rng; omega) (by unfold fp_rng; omega) (fun h59 => ?_) (fun h59 => ?_)
      · exact absurd rfl h59
      · refine S.aload_n (pc' := 63) dX12_step_62 rfl rfl rfl ?_
        refine S.iconst (pc' := 64) dX12_step_63 rfl ?_
        refine S.putI (pc' := 67) dX12_step_64 rfl fX12_107 L_177 ?_
        refine S.goto (pc' := 269) dX12_step_67 (by decide) ?_
        refine S.vret dX12_step_269 rfl ?_
        exact ⟨f1.up (by omega), ⟨rfl, rfl, rfl⟩, Or.inl ⟨h21, Or.inl (by omega), fun q => absurd q (by decide)⟩⟩
  refine S.aload_n (pc' := 1) dX12_step_0 rfl rfl rfl ?_
  refine S.getI (pc' := 4) dX12_step_1 rfl fX12_98 L_177 ?_
  rw [h21]
  refine S.if_le (pc' := 7) (tgt := 8) dX12_step_4 (by decide) rfl (by unfold fp_rng; omega) (fun h4 => ?_) (fun h4 => ?_)
  · exact S.eqM (show M = fp_up M 177 23 s by rw [← hs]; exact (fp_up_self M 177 23).symm) (mt_sp _ ht hm hK _ s rfl h0 h1 rfl)
  · exfalso; omega
end MST
