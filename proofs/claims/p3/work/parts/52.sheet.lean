/-! SHEETS: sheet, lay -/
theorem fp_shl24 (v : Int) : Int32.ofInt v <<< (Int32.ofInt 24 &&& 31) = Int32.ofInt (v * 16777216) := by
  apply Int32.toBitVec.inj
  apply BitVec.eq_of_toNat_eq
  rw [pk_shl _ _ 24 (by decide +kernel)]
  simp only [Int32.toBitVec_ofInt, BitVec.toNat_ofInt]
  omega
theorem fp_shl16 (v : Int) : Int32.ofInt v <<< (Int32.ofInt 16 &&& 31) = Int32.ofInt (v * 65536) := by
  apply Int32.toBitVec.inj
  apply BitVec.eq_of_toNat_eq
  rw [pk_shl _ _ 16 (by decide +kernel)]
  simp only [Int32.toBitVec_ofInt, BitVec.toNat_ofInt]
  omega
theorem fp_shr24 (v : Int) : Int32.ofInt (v * 16777216) >>> (Int32.ofInt 24 &&& 31) = Int32.ofInt (v.bmod 256) := by
  have h1 := Int.le_bmod (x := v) (m := 256) (by decide)
  have h2 := Int.bmod_lt (x := v) (m := 256) (by decide)
  have hb : (v * 16777216).bmod 4294967296 = v.bmod 256 * 16777216 := by
    rw [Int.bmod_def, Int.bmod_def]
    omega
  rw [← Int32.toInt_inj, pk_shr _ _ 24 (by decide +kernel), Int32.toInt_ofInt, fp_toInt ⟨by omega, by omega⟩]
  show (v * 16777216).bmod 4294967296 >>> 24 = _
  rw [hb, Int.shiftRight_eq_div_pow]
  omega
theorem fp_shr16 (v : Int) : Int32.ofInt (v * 65536) >>> (Int32.ofInt 16 &&& 31) = Int32.ofInt (v.bmod 65536) := by
  have h1 := Int.le_bmod (x := v) (m := 65536) (by decide)
  have h2 := Int.bmod_lt (x := v) (m := 65536) (by decide)
  have hb : (v * 65536).bmod 4294967296 = v.bmod 65536 * 65536 := by
    rw [Int.bmod_def, Int.bmod_def]
    omega
  rw [← Int32.toInt_inj, pk_shr _ _ 16 (by decide +kernel), Int32.toInt_ofInt, fp_toInt ⟨by omega, by omega⟩]
  show (v * 65536).bmod 4294967296 >>> 16 = _
  rw [hb, Int.shiftRight_eq_div_pow]
  omega
def aTr (lane v : Int) : Int := if lane = 0 then v.bmod 256 else if lane = 1 then v.bmod 65536 else v
def A_sheet (sh : aSh) (k lane n : Int) : Int × aSh := if ¬ ((0 ≤ k ∧ k ≤ 3) ∧ (0 ≤ lane ∧ lane ≤ 2) ∧ n ≤ 40) then (-1, sh) else if n < 0 then (-14, sh) else (1, fp_ui sh k (lane, n, fun _ => 0))
def A_lay (sh : aSh) (k i v : Int) : Int × aSh := if ¬ (0 ≤ k ∧ k ≤ 3) then (-1, sh) else if (sh k).1 = -4 then (-11, sh) else if ¬ (0 ≤ i ∧ i < (sh k).2.1) then (-12, sh) else (1, fp_ui sh k ((sh k).1, (sh k).2.1, fp_ui (sh k).2.2 i (aTr (sh k).1 v)))
theorem aTr_rng {lane v : Int} (h : fp_rng v) : fp_rng (aTr lane v) := by
  unfold aTr
  have h1 := Int.le_bmod (x := v) (m := 256) (by decide)
  have h2 := Int.bmod_lt (x := v) (m := 256) (by decide)
  have h3 := Int.le_bmod (x := v) (m := 65536) (by decide)
  have h4 := Int.bmod_lt (x := v) (m := 65536) (by decide)
  unfold fp_rng at *
  split
  · omega
  · split <;> omega
theorem A_sheet_ok {sh : aSh} {k lane n : Int} (h : shOk sh) : shOk (A_sheet sh k lane n).2 := by
  unfold A_sheet
  split
  · exact h
  · split
    · exact h
    · intro j j0 j1
      dsimp only
      by_cases e : j = k
      · subst e; rw [fp_ui_at]; right; dsimp only; exact ⟨by omega, by omega, fun i i0 i1 => fp_rng0⟩
      · rw [fp_ui_ne e]; exact h j j0 j1
theorem A_lay_ok {sh : aSh} {k i v : Int} (h : shOk sh) (hv : fp_rng v) : shOk (A_lay sh k i v).2 := by
  unfold A_lay
  split
  · exact h
  · split
    · exact h
    · split
      · exact h
      · intro j j0 j1
        dsimp only
        by_cases e : j = k
        · subst e
          rw [fp_ui_at]
          rcases h j j0 j1 with q | q
          · omega
          · right
            dsimp only
            refine ⟨q.1, q.2.1, fun i2 i0 i1 => ?_⟩
            by_cases e2 : i2 = i
            · subst e2; rw [fp_ui_at]; exact aTr_rng hv
            · rw [fp_ui_ne e2]; exact q.2.2 i2 i0 i1
        · rw [fp_ui_ne e]; exact h j j0 j1
section SHE
variable {l : Launch} {G : fp_WG} {M N : fp_Mem} {tp tp' : List Int} {fl fl' : Int} {g : aGd} {pg : aPg} {vs vs' : List aVt} {nt nt' : List Int} {im : aIm} {sh sh' : aSh} {tn tn' : Int} {k : Nat}
theorem CS.she (h : CS M tp fl g pg vs nt im sh tn) (e : ∀ a, (a < 169 ∨ 176 < a) → N a = M a) (hv : csS N sh') : CS N tp fl g pg vs nt im sh' tn := by
  obtain ⟨h1, h2, h3, h4, h5, h6, h7⟩ := h
  exact ⟨h1.kept (e 0 (by omega)) (e 1 (by omega)) (by rw [e 2 (by omega)]), h2.kept (fun a q1 q2 => e a (by omega)), h3.kept (fun a q1 q2 => e a (by omega)), h4.kept (fun a q1 q2 => e a (by omega)), h5.kept (fun a q1 q2 => e a (by omega)), h6.kept (fun a q1 q2 => e a (by omega)), hv⟩
theorem MS.she (h : MS M tp fl g pg vs nt im sh tn) (e : ∀ c, c < 200 → N c = M c) (hv : msS N sh') : MS N tp fl g pg vs nt im sh' tn := by
  obtain ⟨h1, h2, h3, h4, h5, h6, h7, h8⟩ := h
  refine ⟨?_, ?_, ?_, ?_, ?_, ?_, hv, ?_⟩
  · unfold msA at *; rw [e 177 (by decide), e 186 (by decide)]; exact h1
  · unfold mdIs md_ok at *; rw [e 177 (by decide), e 179 (by decide), e 180 (by decide), e 181 (by decide)]; exact h2
  · unfold mpIs at *; rw [e 178 (by decide)]; exact h3
  · rw [e 178 (by decide)]; exact h4
  · rw [e 178 (by decide)]; exact h5
  · unfold msI at *; rw [e 178 (by decide), e 199 (by decide)]; exact h6
  · unfold msK at *; rw [e 187 (by decide), e 188 (by decide)]; exact h8
theorem ok_X9_renew {lane n : Int} (hk : fp_issh k) : fp_Ok l G 1 kX9_renew [rV G k, iV lane, iV n] M (qV fun N => N k 0 = lane ∧ N k 1 = n ∧ (∀ i : Nat, i < 40 → N (k + 1) i = 0) ∧ ∀ a, a ≠ k → a ≠ k + 1 → N a = M a) := by
  refine fp_Ok.of (r := 0) rfl (Nat.le_of_ble_eq_true rfl) rfl ?_
  refine S.aload_n (pc' := 1) dX9_renew_0 rfl rfl rfl ?_
  refine S.iload_n (pc' := 2) dX9_renew_1 rfl rfl rfl ?_
  refine S.putI (pc' := 5) dX9_renew_2 rfl fX9_27 (sh_lay hk) ?_
  refine S.aload_n (pc' := 6) dX9_renew_5 rfl rfl rfl ?_
  refine S.iload_n (pc' := 7) dX9_renew_6 rfl rfl rfl ?_
  refine S.putI (pc' := 10) dX9_renew_7 rfl fX9_9 (sh_lay hk) ?_
  refine S.aload_n (pc' := 11) dX9_renew_10 rfl rfl rfl ?_
  refine S.getR (pc' := 14) dX9_renew_11 rfl fX9_15 (sh_lay hk) (sh_r2 hk) ?_
  refine S.iconst (pc' := 15) dX9_renew_14 rfl ?_
  refine S.callSw (pc' := 18) dX9_renew_15 rfl cX9_30 (ok_J7_fill_53178 (sh_a2 hk)) rfl (by decide) rfl (Nat.le_of_ble_eq_true rfl) ?_
  refine S.vret dX9_renew_18 rfl ?_
  refine ⟨?_, ?_, fun i hi => ?_, fun a ha hb => ?_⟩
  · rw [fp_upM_ne (by omega), fp_up_at, fp_upf_ne (by decide), fp_up_at, fp_upf_at]
  · rw [fp_upM_ne (by omega), fp_up_at, fp_upf_at]
  · rw [fp_upM_at, if_pos (by omega)]
  · rw [fp_upM_ne hb, fp_up_ne ha, fp_up_ne ha]
theorem ok_X9_write {i v : Int} (hk : fp_issh k) (hi : 0 ≤ i ∧ i < 40 := by first | assumption | omega) (hln : fp_rng (M k 0) := by first | assumption | (unfold fp_rng; omega)) : fp_Ok l G 0 kX9_write [rV G k, iV i, iV v] M (qW (fp_up M (k + 1) i.toNat (aTr (M k 0) v))) := by
  refine fp_Ok.of (r := 0) rfl (Nat.le_of_ble_eq_true rfl) rfl ?_
  unfold aTr
  refine S.aload_n (pc' := 1) dX9_write_0 rfl rfl rfl ?_
  refine S.getI (pc' := 4) dX9_write_1 rfl fX9_27 (sh_lay hk) ?_
  refine S.if_ne (pc' := 7) (tgt := 18) dX9_write_4 (by decide) rfl hln (fun h4 => ?_) (fun h4 => ?_)
  · refine S.aload_n (pc' := 19) dX9_write_18 rfl rfl rfl ?_
    refine S.getI (pc' := 22) dX9_write_19 rfl fX9_27 (sh_lay hk) ?_
    refine S.iconst (pc' := 23) dX9_write_22 rfl ?_
    refine S.icmp_ne (pc' := 26) (tgt := 37) dX9_write_23 (by decide) rfl hln (by unfold fp_rng; omega) (fun h23 => ?_) (fun h23 => ?_)
    · refine S.aload_n (pc' := 38) dX9_write_37 rfl rfl rfl ?_
      refine S.getR (pc' := 41) dX9_write_38 rfl fX9_15 (sh_lay hk) (sh_r2 hk) ?_
      refine S.iload_n (pc' := 42) dX9_write_41 rfl rfl rfl ?_
      refine S.iload_n (pc' := 43) dX9_write_42 rfl rfl rfl ?_
      refine S.iast (pc' := 44) dX9_write_43 rfl (sh_a2 hk) (by omega) (by omega) ?_
      refine S.vret dX9_write_44 rfl ?_
      show _ = _
      first | rw [if_pos h4] | rw [if_neg h4, if_pos h23] | rw [if_neg h4, if_neg h23]
    · refine S.aload_n (pc' := 27) dX9_write_26 rfl rfl rfl ?_
      refine S.getR (pc' := 30) dX9_write_27 rfl fX9_15 (sh_lay hk) (sh_r2 hk) ?_
      refine S.iload_n (pc' := 31) dX9_write_30 rfl rfl rfl ?_
      refine S.iload_n (pc' := 32) dX9_write_31 rfl rfl rfl ?_
      refine S.i2s (pc' := 33) dX9_write_32 rfl ?_
      refine S.iast (pc' := 34) dX9_write_33 rfl (sh_a2 hk) (by omega) (by omega) ?_
      refine S.goto (pc' := 44) dX9_write_34 (by decide) ?_
      refine S.vret dX9_write_44 rfl ?_
      show _ = _
      first | rw [if_pos h4] | rw [if_neg h4, if_pos h23] | rw [if_neg h4, if_neg h23]
  · refine S.aload_n (pc' := 8) dX9_write_7 rfl rfl rfl ?_
    refine S.getR (pc' := 11) dX9_write_8 rfl fX9_15 (sh_lay hk) (sh_r2 hk) ?_
    refine S.iload_n (pc' := 12) dX9_write_11 rfl rfl rfl ?_
    refine S.iload_n (pc' := 13) dX9_write_12 rfl rfl rfl ?_
    refine S.i2b (pc' := 14) dX9_write_13 rfl ?_
    refine S.iast (pc' := 15) dX9_write_14 rfl (sh_a2 hk) (by omega) (by omega) ?_
    refine S.goto (pc' := 44) dX9_write_15 (by decide) ?_
    refine S.vret dX9_write_44 rfl ?_
    show _ = _
    first | rw [if_pos h4] | rw [if_neg h4, if_pos h23] | rw [if_neg h4, if_neg h23]
theorem bk_X9_isThere (hk : fp_issh k) (hm : fp_rng (M k 1) := by first | assumption | (unfold fp_rng; omega)) : fp_Ok l G 0 kX9_isThere [rV G k] M (qI fun z N => ((z = 1 ∧ M k 1 ≠ -4) ∨ (z = 0 ∧ ¬ M k 1 ≠ -4)) ∧ M = N) := by
  refine fp_Ok.of (r := 0) rfl (Nat.le_of_ble_eq_true rfl) rfl ?_
  refine S.aload_n (pc' := 1) dX9_isThere_0 rfl rfl rfl ?_
  refine S.getI (pc' := 4) dX9_isThere_1 rfl fX9_9 (sh_lay hk) ?_
  refine S.bipush (pc' := 6) dX9_isThere_4 rfl (by decide) ?_
  refine S.icmp_eq (pc' := 9) (tgt := 13) dX9_isThere_6 (by decide) rfl hm (by unfold fp_rng; omega) (fun h6 => ?_) (fun h6 => ?_)
  · refine S.iconst (pc' := 14) dX9_isThere_13 rfl ?_
    refine S.zret dX9_isThere_14 rfl (by first | exact Or.inl rfl | exact Or.inr rfl | omega) ?_
    exact ⟨by omega, rfl⟩
  · refine S.iconst (pc' := 10) dX9_isThere_9 rfl ?_
    refine S.goto (pc' := 14) dX9_isThere_10 (by decide) ?_
    refine S.zret dX9_isThere_14 rfl (by first | exact Or.inl rfl | exact Or.inr rfl | omega) ?_
    exact ⟨by omega, rfl⟩
theorem bk_X9_has {i : Int} (hk : fp_issh k) (hi : fp_rng i := by first | assumption | (unfold fp_rng; omega)) (hm : fp_rng (M k 1) := by first | assumption | (unfold fp_rng; omega)) : fp_Ok l G 0 kX9_has [rV G k, iV i] M (qI fun z N => ((z = 1 ∧ (0 ≤ i ∧ i < M k 1)) ∨ (z = 0 ∧ ¬ (0 ≤ i ∧ i < M k 1))) ∧ M = N) := by
  refine fp_Ok.of (r := 0) rfl (Nat.le_of_ble_eq_true rfl) rfl ?_
  refine S.iload_n (pc' := 1) dX9_has_0 rfl rfl rfl ?_
  refine S.if_lt (pc' := 4) (tgt := 16) dX9_has_1 (by decide) rfl hi (fun h1 => ?_) (fun h1 => ?_)
  · refine S.iconst (pc' := 17) dX9_has_16 rfl ?_
    refine S.zret dX9_has_17 rfl (by first | exact Or.inl rfl | exact Or.inr rfl | omega) ?_
    exact ⟨by omega, rfl⟩
  · refine S.iload_n (pc' := 5) dX9_has_4 rfl rfl rfl ?_
    refine S.aload_n (pc' := 6) dX9_has_5 rfl rfl rfl ?_
    refine S.getI (pc' := 9) dX9_has_6 rfl fX9_9 (sh_lay hk) ?_
    refine S.icmp_ge (pc' := 12) (tgt := 16) dX9_has_9 (by decide) rfl hi hm (fun h9 => ?_) (fun h9 => ?_)
    · refine S.iconst (pc' := 17) dX9_has_16 rfl ?_
      refine S.zret dX9_has_17 rfl (by first | exact Or.inl rfl | exact Or.inr rfl | omega) ?_
      exact ⟨by omega, rfl⟩
    · refine S.iconst (pc' := 13) dX9_has_12 rfl ?_
      refine S.goto (pc' := 17) dX9_has_13 (by decide) ?_
      refine S.zret dX9_has_17 rfl (by first | exact Or.inl rfl | exact Or.inr rfl | omega) ?_
      exact ⟨by omega, rfl⟩
theorem cc_sheet {k9 lane n : Int} (hc : CS M tp fl g pg vs nt im sh tn) (h1 : fp_rng k9) (h2 : fp_rng lane) (h3 : fp_rng n) : fp_Ok l G 2 kX11_sheet [rV G 0, iV k9, iV lane, iV n] M (qI fun z N => z = (A_sheet sh k9 lane n).1 ∧ CS N tp fl g pg vs nt im (A_sheet sh k9 lane n).2 tn ∧ frC M N) := by
  have hs := hc.2.2.2.2.2.2
  refine fp_Ok.of (r := 0) rfl (Nat.le_of_ble_eq_true rfl) rfl ?_
  unfold A_sheet
  by_cases hin : (0 ≤ k9 ∧ k9 ≤ 3) ∧ (0 ≤ lane ∧ lane ≤ 2) ∧ n ≤ 40
  · rw [if_neg (fun q => q hin)]
    by_cases hn0 : n < 0
    · rw [if_pos hn0]
      refine S.iload_n (pc' := 1) dX11_sheet_0 rfl rfl rfl ?_
      refine S.iconst (pc' := 2) dX11_sheet_1 rfl ?_
      refine S.callSi (pc' := 5) dX11_sheet_2 rfl cX11_221 (bk_X11_isWithin) rfl (by decide) rfl (Nat.le_of_ble_eq_true rfl) (fun z2 M2 q2 => ?_)
      obtain ⟨b2, rfl⟩ := q2
      refine S.if_eq (pc' := 8) (tgt := 22) dX11_sheet_5 (by decide) rfl (by unfold fp_rng; omega) (fun h5 => ?_) (fun h5 => ?_)
      · exfalso; omega
      · refine S.iload_n (pc' := 9) dX11_sheet_8 rfl rfl rfl ?_
        refine S.iconst (pc' := 10) dX11_sheet_9 rfl ?_
        refine S.callSi (pc' := 13) dX11_sheet_10 rfl cX11_221 (bk_X11_isWithin) rfl (by decide) rfl (Nat.le_of_ble_eq_true rfl) (fun z10 M10 q10 => ?_)
        obtain ⟨b10, rfl⟩ := q10
        refine S.if_eq (pc' := 16) (tgt := 22) dX11_sheet_13 (by decide) rfl (by unfold fp_rng; omega) (fun h13 => ?_) (fun h13 => ?_)
        · exfalso; omega
        · refine S.iload_n (pc' := 17) dX11_sheet_16 rfl rfl rfl ?_
          refine S.bipush (pc' := 19) dX11_sheet_17 rfl (by decide) ?_
          refine S.icmp_le (pc' := 22) (tgt := 24) dX11_sheet_19 (by decide) rfl h3 (by unfold fp_rng; omega) (fun h19 => ?_) (fun h19 => ?_)
          · refine S.iload_n (pc' := 25) dX11_sheet_24 rfl rfl rfl ?_
            refine S.if_ge (pc' := 28) (tgt := 31) dX11_sheet_25 (by decide) rfl h3 (fun h25 => ?_) (fun h25 => ?_)
            · exfalso; omega
            · refine S.bipush (pc' := 30) dX11_sheet_28 rfl (by decide) ?_
              refine S.iret dX11_sheet_30 rfl ?_
              exact ⟨rfl, hc, frC.refl _⟩
          · exfalso; omega
    · rw [if_neg hn0]
      refine S.iload_n (pc' := 1) dX11_sheet_0 rfl rfl rfl ?_
      refine S.iconst (pc' := 2) dX11_sheet_1 rfl ?_
      refine S.callSi (pc' := 5) dX11_sheet_2 rfl cX11_221 (bk_X11_isWithin) rfl (by decide) rfl (Nat.le_of_ble_eq_true rfl) (fun z2 M2 q2 => ?_)
      obtain ⟨b2, rfl⟩ := q2
      refine S.if_eq (pc' := 8) (tgt := 22) dX11_sheet_5 (by decide) rfl (by unfold fp_rng; omega) (fun h5 => ?_) (fun h5 => ?_)
      · exfalso; omega
      · refine S.iload_n (pc' := 9) dX11_sheet_8 rfl rfl rfl ?_
        refine S.iconst (pc' := 10) dX11_sheet_9 rfl ?_
        refine S.callSi (pc' := 13) dX11_sheet_10 rfl cX11_221 (bk_X11_isWithin) rfl (by decide) rfl (Nat.le_of_ble_eq_true rfl) (fun z10 M10 q10 => ?_)
        obtain ⟨b10, rfl⟩ := q10
        refine S.if_eq (pc' := 16) (tgt := 22) dX11_sheet_13 (by decide) rfl (by unfold fp_rng; omega) (fun h13 => ?_) (fun h13 => ?_)
        · exfalso; omega
        · refine S.iload_n (pc' := 17) dX11_sheet_16 rfl rfl rfl ?_
          refine S.bipush (pc' := 19) dX11_sheet_17 rfl (by decide) ?_
          refine S.icmp_le (pc' := 22) (tgt := 24) dX11_sheet_19 (by decide) rfl h3 (by unfold fp_rng; omega) (fun h19 => ?_) (fun h19 => ?_)
          · refine S.iload_n (pc' := 25) dX11_sheet_24 rfl rfl rfl ?_
            refine S.if_ge (pc' := 28) (tgt := 31) dX11_sheet_25 (by decide) rfl h3 (fun h25 => ?_) (fun h25 => ?_)
            · refine S.aload_n (pc' := 32) dX11_sheet_31 rfl rfl rfl ?_
              refine S.getR (pc' := 35) dX11_sheet_32 rfl fX11_84 L_0 rf_0_12 ?_
              refine S.iload_n (pc' := 36) dX11_sheet_35 rfl rfl rfl ?_
              refine S.aald (pc' := 37) dX11_sheet_36 rfl L_142 (by decide) (by decide) (by omega) (by omega) (shs_r (by omega) (by omega)) ?_
              refine S.iload_n (pc' := 38) dX11_sheet_37 rfl rfl rfl ?_
              refine S.iload_n (pc' := 39) dX11_sheet_38 rfl rfl rfl ?_
              refine S.callVv (pc' := 42) dX11_sheet_39 rfl cX11_319 (ok_X9_renew (shs_o (by omega) (by omega))) rfl (sh_lay (shs_o (by omega) (by omega))) (by decide) rfl (Nat.le_of_ble_eq_true rfl) (fun M39 q39 => ?_)
              obtain ⟨r1, r2, r3, r4⟩ := q39
              refine S.iconst (pc' := 43) dX11_sheet_42 rfl ?_
              refine S.iret dX11_sheet_43 rfl ?_
              refine ⟨rfl, hc.she (fun a ha => r4 a (by omega) (by omega)) ?_, fun c hc2 => r4 c (by omega) (by omega)⟩
              intro j j0 j1
              dsimp only
              by_cases e : j = k9
              · subst e; rw [fp_ui_at]; right; exact ⟨by dsimp only; omega, r1, r2, fun i i0 i1 => r3 i.toNat (by omega)⟩
              · rw [fp_ui_ne e, r4 (169 + 2 * j.toNat) (by omega) (by omega), r4 (169 + 2 * j.toNat + 1) (by omega) (by omega)]; exact hs j j0 j1
            · exfalso; omega
          · exfalso; omega
  · rw [if_pos hin]
    refine S.iload_n (pc' := 1) dX11_sheet_0 rfl rfl rfl ?_
    refine S.iconst (pc' := 2) dX11_sheet_1 rfl ?_
    refine S.callSi (pc' := 5) dX11_sheet_2 rfl cX11_221 (bk_X11_isWithin) rfl (by decide) rfl (Nat.le_of_ble_eq_true rfl) (fun z2 M2 q2 => ?_)
    obtain ⟨b2, rfl⟩ := q2
    refine S.if_eq (pc' := 8) (tgt := 22) dX11_sheet_5 (by decide) rfl (by unfold fp_rng; omega) (fun h5 => ?_) (fun h5 => ?_)
    · refine S.iconst (pc' := 23) dX11_sheet_22 rfl ?_
      refine S.iret dX11_sheet_23 rfl ?_
      exact ⟨rfl, hc, frC.refl _⟩
    · refine S.iload_n (pc' := 9) dX11_sheet_8 rfl rfl rfl ?_
      refine S.iconst (pc' := 10) dX11_sheet_9 rfl ?_
      refine S.callSi (pc' := 13) dX11_sheet_10 rfl cX11_221 (bk_X11_isWithin) rfl (by decide) rfl (Nat.le_of_ble_eq_true rfl) (fun z10 M10 q10 => ?_)
      obtain ⟨b10, rfl⟩ := q10
      refine S.if_eq (pc' := 16) (tgt := 22) dX11_sheet_13 (by decide) rfl (by unfold fp_rng; omega) (fun h13 => ?_) (fun h13 => ?_)
      · refine S.iconst (pc' := 23) dX11_sheet_22 rfl ?_
        refine S.iret dX11_sheet_23 rfl ?_
        exact ⟨rfl, hc, frC.refl _⟩
      · refine S.iload_n (pc' := 17) dX11_sheet_16 rfl rfl rfl ?_
        refine S.bipush (pc' := 19) dX11_sheet_17 rfl (by decide) ?_
        refine S.icmp_le (pc' := 22) (tgt := 24) dX11_sheet_19 (by decide) rfl h3 (by unfold fp_rng; omega) (fun h19 => ?_) (fun h19 => ?_)
        · exfalso; omega
        · refine S.iconst (pc' := 23) dX11_sheet_22 rfl ?_
          refine S.iret dX11_sheet_23 rfl ?_
          exact ⟨rfl, hc, frC.refl _⟩
theorem cc_lay {k9 i v : Int} (hc : CS M tp fl g pg vs nt im sh tn) (ho : OK g pg vs nt im sh) (h1 : fp_rng k9) (h2 : fp_rng i) (h3 : fp_rng v) : fp_Ok l G 1 kX11_lay [rV G 0, iV k9, iV i, iV v] M (qI fun z N => z = (A_lay sh k9 i v).1 ∧ CS N tp fl g pg vs nt im (A_lay sh k9 i v).2 tn ∧ frC M N) := by
  have hs := hc.2.2.2.2.2.2
  have hso := ho.2.2.2.2.2
  refine fp_Ok.of (r := 1) rfl (Nat.le_of_ble_eq_true rfl) rfl ?_
  unfold A_lay
  by_cases hin : 0 ≤ k9 ∧ k9 ≤ 3
  · rw [if_neg (fun q => q hin)]
    have hk := hs k9 hin.1 (by omega)
    have hko := hso k9 hin.1 (by omega)
    by_cases hn0 : (sh k9).1 = -4
    · rw [if_pos hn0]
      refine S.iload_n (pc' := 1) dX11_lay_0 rfl rfl rfl ?_
      refine S.iconst (pc' := 2) dX11_lay_1 rfl ?_
      refine S.callSi (pc' := 5) dX11_lay_2 rfl cX11_221 (bk_X11_isWithin) rfl (by decide) rfl (Nat.le_of_ble_eq_true rfl) (fun z2 M2 q2 => ?_)
      obtain ⟨b2, rfl⟩ := q2
      refine S.if_ne (pc' := 8) (tgt := 10) dX11_lay_5 (by decide) rfl (by unfold fp_rng; omega) (fun h5 => ?_) (fun h5 => ?_)
      · refine S.aload_n (pc' := 11) dX11_lay_10 rfl rfl rfl ?_
        refine S.getR (pc' := 14) dX11_lay_11 rfl fX11_84 L_0 rf_0_12 ?_
        refine S.iload_n (pc' := 15) dX11_lay_14 rfl rfl rfl ?_
        refine S.aald (pc' := 16) dX11_lay_15 rfl L_142 (by decide) (by decide) (by omega) (by omega) (shs_r (by omega) (by omega)) ?_
        refine S.astore (pc' := 18) (LL' := [_, _, _, _, _]) dX11_lay_16 rfl (by decide) rfl rfl ?_
        refine S.aload (pc' := 20) dX11_lay_18 rfl rfl ?_
        refine S.callVi (pc' := 23) dX11_lay_20 rfl cX11_323 (bk_X9_isThere (shs_o (by omega) (by omega))) rfl (sh_lay (shs_o (by omega) (by omega))) (by decide) rfl (Nat.le_of_ble_eq_true rfl) (fun z20 M20 q20 => ?_)
        obtain ⟨b20, rfl⟩ := q20
        refine S.if_ne (pc' := 26) (tgt := 29) dX11_lay_23 (by decide) rfl (by unfold fp_rng; omega) (fun h23 => ?_) (fun h23 => ?_)
        · exfalso; omega
        · refine S.bipush (pc' := 28) dX11_lay_26 rfl (by decide) ?_
          refine S.iret dX11_lay_28 rfl ?_
          exact ⟨rfl, hc, frC.refl _⟩
      · exfalso; omega
    · rw [if_neg hn0]
      have hk2 : (sh k9).1 ≠ -4 ∧ M (169 + 2 * k9.toNat) 0 = (sh k9).1 ∧ M (169 + 2 * k9.toNat) 1 = (sh k9).2.1 ∧ ∀ i : Int, 0 ≤ i → i < 40 → M (169 + 2 * k9.toNat + 1) i.toNat = (sh k9).2.2 i := by
        rcases hk with q | q
        · exact absurd q.1 hn0
        · exact q
      have hko2 : (0 ≤ (sh k9).1 ∧ (sh k9).1 ≤ 2) ∧ (0 ≤ (sh k9).2.1 ∧ (sh k9).2.1 ≤ 40) := by
        rcases hko with q | q
        · exact absurd q hn0
        · exact ⟨q.1, q.2.1⟩
      obtain ⟨k1, k2, k3, k4⟩ := hk2
      by_cases hi : 0 ≤ i ∧ i < (sh k9).2.1
      · rw [if_neg (fun q => q hi)]
        refine S.iload_n (pc' := 1) dX11_lay_0 rfl rfl rfl ?_
        refine S.iconst (pc' := 2) dX11_lay_1 rfl ?_
        refine S.callSi (pc' := 5) dX11_lay_2 rfl cX11_221 (bk_X11_isWithin) rfl (by decide) rfl (Nat.le_of_ble_eq_true rfl) (fun z2 M2 q2 => ?_)
        obtain ⟨b2, rfl⟩ := q2
        refine S.if_ne (pc' := 8) (tgt := 10) dX11_lay_5 (by decide) rfl (by unfold fp_rng; omega) (fun h5 => ?_) (fun h5 => ?_)
        · refine S.aload_n (pc' := 11) dX11_lay_10 rfl rfl rfl ?_
          refine S.getR (pc' := 14) dX11_lay_11 rfl fX11_84 L_0 rf_0_12 ?_
          refine S.iload_n (pc' := 15) dX11_lay_14 rfl rfl rfl ?_
          refine S.aald (pc' := 16) dX11_lay_15 rfl L_142 (by decide) (by decide) (by omega) (by omega) (shs_r (by omega) (by omega)) ?_
          refine S.astore (pc' := 18) (LL' := [_, _, _, _, _]) dX11_lay_16 rfl (by decide) rfl rfl ?_
          refine S.aload (pc' := 20) dX11_lay_18 rfl rfl ?_
          refine S.callVi (pc' := 23) dX11_lay_20 rfl cX11_323 (bk_X9_isThere (shs_o (by omega) (by omega))) rfl (sh_lay (shs_o (by omega) (by omega))) (by decide) rfl (Nat.le_of_ble_eq_true rfl) (fun z20 M20 q20 => ?_)
          obtain ⟨b20, rfl⟩ := q20
          refine S.if_ne (pc' := 26) (tgt := 29) dX11_lay_23 (by decide) rfl (by unfold fp_rng; omega) (fun h23 => ?_) (fun h23 => ?_)
          · refine S.aload (pc' := 31) dX11_lay_29 rfl rfl ?_
            refine S.iload_n (pc' := 32) dX11_lay_31 rfl rfl rfl ?_
            refine S.callVi (pc' := 35) dX11_lay_32 rfl cX11_327 (bk_X9_has (shs_o (by omega) (by omega))) rfl (sh_lay (shs_o (by omega) (by omega))) (by decide) rfl (Nat.le_of_ble_eq_true rfl) (fun z32 M32 q32 => ?_)
            obtain ⟨b32, rfl⟩ := q32
            refine S.if_ne (pc' := 38) (tgt := 41) dX11_lay_35 (by decide) rfl (by unfold fp_rng; omega) (fun h35 => ?_) (fun h35 => ?_)
            · refine S.aload (pc' := 43) dX11_lay_41 rfl rfl ?_
              refine S.iload_n (pc' := 44) dX11_lay_43 rfl rfl rfl ?_
              refine S.iload_n (pc' := 45) dX11_lay_44 rfl rfl rfl ?_
              refine S.callVw (pc' := 48) dX11_lay_45 rfl cX11_328 (ok_X9_write (shs_o (by omega) (by omega))) rfl (sh_lay (shs_o (by omega) (by omega))) (by decide) rfl (Nat.le_of_ble_eq_true rfl) ?_
              refine S.iconst (pc' := 49) dX11_lay_48 rfl ?_
              refine S.iret dX11_lay_49 rfl ?_
              rw [k2]
              refine ⟨rfl, hc.she (fun a ha => fp_up_ne (by omega)) ?_, fun c hc2 => fp_up_ne (by omega)⟩
              intro j j0 j1
              dsimp only
              by_cases e : j = k9
              · subst e; rw [fp_ui_at, fp_up_ne (show 169 + 2 * j.toNat ≠ 169 + 2 * j.toNat + 1 by omega), fp_up_at]; right; refine ⟨k1, k2, k3, fun i2 i0 i1 => ?_⟩
                unfold fp_upf fp_ui
                by_cases e2 : i2 = i
                · subst e2; simp
                · dsimp only; rw [if_neg (by omega), if_neg e2]; exact k4 i2 i0 i1
              · rw [fp_ui_ne e, fp_up_ne (by omega), fp_up_ne (by omega)]; exact hs j j0 j1
            · exfalso; omega
          · exfalso; omega
        · exfalso; omega
      · rw [if_pos hi]
        refine S.iload_n (pc' := 1) dX11_lay_0 rfl rfl rfl ?_
        refine S.iconst (pc' := 2) dX11_lay_1 rfl ?_
        refine S.callSi (pc' := 5) dX11_lay_2 rfl cX11_221 (bk_X11_isWithin) rfl (by decide) rfl (Nat.le_of_ble_eq_true rfl) (fun z2 M2 q2 => ?_)
        obtain ⟨b2, rfl⟩ := q2
        refine S.if_ne (pc' := 8) (tgt := 10) dX11_lay_5 (by decide) rfl (by unfold fp_rng; omega) (fun h5 => ?_) (fun h5 => ?_)
        · refine S.aload_n (pc' := 11) dX11_lay_10 rfl rfl rfl ?_
          refine S.getR (pc' := 14) dX11_lay_11 rfl fX11_84 L_0 rf_0_12 ?_
          refine S.iload_n (pc' := 15) dX11_lay_14 rfl rfl rfl ?_
          refine S.aald (pc' := 16) dX11_lay_15 rfl L_142 (by decide) (by decide) (by omega) (by omega) (shs_r (by omega) (by omega)) ?_
          refine S.astore (pc' := 18) (LL' := [_, _, _, _, _]) dX11_lay_16 rfl (by decide) rfl rfl ?_
          refine S.aload (pc' := 20) dX11_lay_18 rfl rfl ?_
          refine S.callVi (pc' := 23) dX11_lay_20 rfl cX11_323 (bk_X9_isThere (shs_o (by omega) (by omega))) rfl (sh_lay (shs_o (by omega) (by omega))) (by decide) rfl (Nat.le_of_ble_eq_true rfl) (fun z20 M20 q20 => ?_)
          obtain ⟨b20, rfl⟩ := q20
          refine S.if_ne (pc' := 26) (tgt := 29) dX11_lay_23 (by decide) rfl (by unfold fp_rng; omega) (fun h23 => ?_) (fun h23 => ?_)
          · refine S.aload (pc' := 31) dX11_lay_29 rfl rfl ?_
            refine S.iload_n (pc' := 32) dX11_lay_31 rfl rfl rfl ?_
            refine S.callVi (pc' := 35) dX11_lay_32 rfl cX11_327 (bk_X9_has (shs_o (by omega) (by omega))) rfl (sh_lay (shs_o (by omega) (by omega))) (by decide) rfl (Nat.le_of_ble_eq_true rfl) (fun z32 M32 q32 => ?_)
            obtain ⟨b32, rfl⟩ := q32
            refine S.if_ne (pc' := 38) (tgt := 41) dX11_lay_35 (by decide) rfl (by unfold fp_rng; omega) (fun h35 => ?_) (fun h35 => ?_)
            · exfalso; omega
            · refine S.bipush (pc' := 40) dX11_lay_38 rfl (by decide) ?_
              refine S.iret dX11_lay_40 rfl ?_
              exact ⟨rfl, hc, frC.refl _⟩
          · exfalso; omega
        · exfalso; omega
  · rw [if_pos hin]
    refine S.iload_n (pc' := 1) dX11_lay_0 rfl rfl rfl ?_
    refine S.iconst (pc' := 2) dX11_lay_1 rfl ?_
    refine S.callSi (pc' := 5) dX11_lay_2 rfl cX11_221 (bk_X11_isWithin) rfl (by decide) rfl (Nat.le_of_ble_eq_true rfl) (fun z2 M2 q2 => ?_)
    obtain ⟨b2, rfl⟩ := q2
    refine S.if_ne (pc' := 8) (tgt := 10) dX11_lay_5 (by decide) rfl (by unfold fp_rng; omega) (fun h5 => ?_) (fun h5 => ?_)
    · exfalso; omega
    · refine S.iconst (pc' := 9) dX11_lay_8 rfl ?_
      refine S.iret dX11_lay_9 rfl ?_
      exact ⟨rfl, hc, frC.refl _⟩
theorem msheet_loop {k9 lane n9 : Int} (hk : 0 ≤ k9 ∧ k9 ≤ 3) (hc : MS M tp fl g pg vs nt im sh tn) : ∀ (n : Nat) (i : Int) (N : fp_Mem), (40 - i).toNat < n → 0 ≤ i → i ≤ 40 → (∀ a, a ≠ 200 → a ≠ 201 → a ≠ 202 → N a = M a) → N 200 = fp_upf (M 200) k9.toNat lane → N 201 = fp_upf (M 201) k9.toNat n9 → (∀ j : Nat, N 202 j = if 40 * k9 ≤ j ∧ (j : Int) < 40 * k9 + i then 0 else M 202 j) →
    fp_S l G 1 kX12_sheet 56 [some (rV G 177), some (iV k9), some (iV lane), some (iV n9), some (iV i)] [] N (qI fun z O => z = 1 ∧ MS O tp fl g pg vs nt im (fp_ui sh k9 (lane, n9, fun _ => 0)) tn ∧ frD M O) := by
  have hs := hc.2.2.2.2.2.2.1
  intro n
  induction n with
  | zero => intro i N h; omega
  | succ n ih =>
    intro i N h i0 i1 e1 e2 e3 e4
    refine S.iload (pc' := 58) dX12_sheet_56 rfl rfl ?_
    refine S.bipush (pc' := 60) dX12_sheet_58 rfl (by decide) ?_
    refine S.icmp_ge (pc' := 63) (tgt := 82) dX12_sheet_60 (by decide) rfl (by unfold fp_rng; omega) (by unfold fp_rng; omega) (fun h60 => ?_) (fun h60 => ?_)
    · refine S.iconst (pc' := 83) dX12_sheet_82 rfl ?_
      refine S.iret dX12_sheet_83 rfl ?_
      refine ⟨rfl, hc.she (fun c hc => e1 c (by omega) (by omega) (by omega)) ?_, fun c hc => e1 c (by omega) (by omega) (by omega)⟩
      intro j j0 j1
      rw [e2, e3]
      by_cases e : j = k9
      · subst e; rw [fp_ui_at, fp_upf_at, fp_upf_at]; refine ⟨rfl, fun _ => ⟨rfl, fun i2 a0 a1 => ?_⟩⟩
        rw [e4, if_pos (by omega)]
      · rw [fp_ui_ne e, fp_upf_ne (by omega), fp_upf_ne (by omega)]; obtain ⟨q1, q2⟩ := hs j j0 j1; refine ⟨q1, fun q => ⟨(q2 q).1, fun i2 a0 a1 => ?_⟩⟩
        rw [e4, if_neg (by omega)]; exact (q2 q).2 i2 a0 a1
    · refine S.aload_n (pc' := 64) dX12_sheet_63 rfl rfl rfl ?_
      refine S.getR (pc' := 67) dX12_sheet_64 rfl fX12_88 L_177 rf_177_43 ?_
      refine S.bipush (pc' := 69) dX12_sheet_67 rfl (by decide) ?_
      refine S.iload_n (pc' := 70) dX12_sheet_69 rfl rfl rfl ?_
      refine S.imul (pc' := 71) dX12_sheet_70 rfl ?_
      refine S.iload (pc' := 73) dX12_sheet_71 rfl rfl ?_
      refine S.iadd (pc' := 74) dX12_sheet_73 rfl ?_
      refine S.iconst (pc' := 75) dX12_sheet_74 rfl ?_
      refine S.iast (pc' := 76) dX12_sheet_75 rfl L_202 (by omega) (by omega) ?_
      refine S.iinc (pc' := 79) (LL' := [_, _, _, _, _]) dX12_sheet_76 rfl (by decide) rfl rfl rfl ?_
      refine S.goto (pc' := 56) dX12_sheet_79 (by decide) ?_
      refine ih _ _ (by omega) (by omega) (by omega) (fun a ha hb hc => by rw [fp_up_ne hc]; exact e1 a ha hb hc) (by rw [fp_up_ne (by decide)]; exact e2) (by rw [fp_up_ne (by decide)]; exact e3) (fun j => ?_)
      rw [fp_up_at]
      unfold fp_upf
      by_cases e : j = (40 * k9 + i).toNat
      · rw [if_pos e, if_pos (by omega)]
      · rw [if_neg e, e4 j]
        by_cases e9 : 40 * k9 ≤ j ∧ (j : Int) < 40 * k9 + i
        · rw [if_pos e9, if_pos (by omega)]
        · rw [if_neg e9, if_neg (by omega)]
theorem mm_sheet {k9 lane n : Int} (hc : MS M tp fl g pg vs nt im sh tn) (h1 : fp_rng k9) (h2 : fp_rng lane) (h3 : fp_rng n) : fp_Ok l G 1 kX12_sheet [rV G 177, iV k9, iV lane, iV n] M (qI fun z N => z = (A_sheet sh k9 lane n).1 ∧ MS N tp fl g pg vs nt im (A_sheet sh k9 lane n).2 tn ∧ frD M N) := by
  refine fp_Ok.of (r := 1) rfl (Nat.le_of_ble_eq_true rfl) rfl ?_
  have h1' := h1
  have h2' := h2
  have h3' := h3
  unfold fp_rng at h1' h2' h3'
  unfold A_sheet
  by_cases hin : (0 ≤ k9 ∧ k9 ≤ 3) ∧ (0 ≤ lane ∧ lane ≤ 2) ∧ n ≤ 40
  · rw [if_neg (fun q => q hin)]
    by_cases hn0 : n < 0
    · rw [if_pos hn0]
      refine S.iload_n (pc' := 1) dX12_sheet_0 rfl rfl rfl ?_
      refine S.i2l (pc' := 2) dX12_sheet_1 rfl (by unfold fp_rng; omega) ?_
      refine S.lconst (pc' := 3) (w := 0) dX12_sheet_2 rfl rfl ?_
      refine S.ldc2 (pc' := 6) (v := 3) dX12_sheet_3 rfl lX12_196 (by decide) ?_
      refine S.callSi (pc' := 9) dX12_sheet_6 rfl cX12_94 (bk_X12_in) rfl (by decide) rfl (Nat.le_of_ble_eq_true rfl) (fun z6 M6 q6 => ?_)
      obtain ⟨b6, rfl⟩ := q6
      refine S.if_eq (pc' := 12) (tgt := 30) dX12_sheet_9 (by decide) rfl (by unfold fp_rng; omega) (fun h9 => ?_) (fun h9 => ?_)
      · exfalso; omega
      · refine S.iload_n (pc' := 13) dX12_sheet_12 rfl rfl rfl ?_
        refine S.i2l (pc' := 14) dX12_sheet_13 rfl (by unfold fp_rng; omega) ?_
        refine S.lconst (pc' := 15) (w := 0) dX12_sheet_14 rfl rfl ?_
        refine S.ldc2 (pc' := 18) (v := 2) dX12_sheet_15 rfl lX12_271 (by decide) ?_
        refine S.callSi (pc' := 21) dX12_sheet_18 rfl cX12_94 (bk_X12_in) rfl (by decide) rfl (Nat.le_of_ble_eq_true rfl) (fun z18 M18 q18 => ?_)
        obtain ⟨b18, rfl⟩ := q18
        refine S.if_eq (pc' := 24) (tgt := 30) dX12_sheet_21 (by decide) rfl (by unfold fp_rng; omega) (fun h21 => ?_) (fun h21 => ?_)
        · exfalso; omega
        · refine S.iload_n (pc' := 25) dX12_sheet_24 rfl rfl rfl ?_
          refine S.bipush (pc' := 27) dX12_sheet_25 rfl (by decide) ?_
          refine S.icmp_le (pc' := 30) (tgt := 32) dX12_sheet_27 (by decide) rfl h3 (by unfold fp_rng; omega) (fun h27 => ?_) (fun h27 => ?_)
          · refine S.iload_n (pc' := 33) dX12_sheet_32 rfl rfl rfl ?_
            refine S.if_ge (pc' := 36) (tgt := 39) dX12_sheet_33 (by decide) rfl h3 (fun h33 => ?_) (fun h33 => ?_)
            · exfalso; omega
            · refine S.bipush (pc' := 38) dX12_sheet_36 rfl (by decide) ?_
              refine S.iret dX12_sheet_38 rfl ?_
              exact ⟨rfl, hc, frD.refl _⟩
          · exfalso; omega
    · rw [if_neg hn0]
      refine S.iload_n (pc' := 1) dX12_sheet_0 rfl rfl rfl ?_
      refine S.i2l (pc' := 2) dX12_sheet_1 rfl (by unfold fp_rng; omega) ?_
      refine S.lconst (pc' := 3) (w := 0) dX12_sheet_2 rfl rfl ?_
      refine S.ldc2 (pc' := 6) (v := 3) dX12_sheet_3 rfl lX12_196 (by decide) ?_
      refine S.callSi (pc' := 9) dX12_sheet_6 rfl cX12_94 (bk_X12_in) rfl (by decide) rfl (Nat.le_of_ble_eq_true rfl) (fun z6 M6 q6 => ?_)
      obtain ⟨b6, rfl⟩ := q6
      refine S.if_eq (pc' := 12) (tgt := 30) dX12_sheet_9 (by decide) rfl (by unfold fp_rng; omega) (fun h9 => ?_) (fun h9 => ?_)
      · exfalso; omega
      · refine S.iload_n (pc' := 13) dX12_sheet_12 rfl rfl rfl ?_
        refine S.i2l (pc' := 14) dX12_sheet_13 rfl (by unfold fp_rng; omega) ?_
        refine S.lconst (pc' := 15) (w := 0) dX12_sheet_14 rfl rfl ?_
        refine S.ldc2 (pc' := 18) (v := 2) dX12_sheet_15 rfl lX12_271 (by decide) ?_
        refine S.callSi (pc' := 21) dX12_sheet_18 rfl cX12_94 (bk_X12_in) rfl (by decide) rfl (Nat.le_of_ble_eq_true rfl) (fun z18 M18 q18 => ?_)
        obtain ⟨b18, rfl⟩ := q18
        refine S.if_eq (pc' := 24) (tgt := 30) dX12_sheet_21 (by decide) rfl (by unfold fp_rng; omega) (fun h21 => ?_) (fun h21 => ?_)
        · exfalso; omega
        · refine S.iload_n (pc' := 25) dX12_sheet_24 rfl rfl rfl ?_
          refine S.bipush (pc' := 27) dX12_sheet_25 rfl (by decide) ?_
          refine S.icmp_le (pc' := 30) (tgt := 32) dX12_sheet_27 (by decide) rfl h3 (by unfold fp_rng; omega) (fun h27 => ?_) (fun h27 => ?_)
          · refine S.iload_n (pc' := 33) dX12_sheet_32 rfl rfl rfl ?_
            refine S.if_ge (pc' := 36) (tgt := 39) dX12_sheet_33 (by decide) rfl h3 (fun h33 => ?_) (fun h33 => ?_)
            · refine S.aload_n (pc' := 40) dX12_sheet_39 rfl rfl rfl ?_
              refine S.getR (pc' := 43) dX12_sheet_40 rfl fX12_82 L_177 rf_177_41 ?_
              refine S.iload_n (pc' := 44) dX12_sheet_43 rfl rfl rfl ?_
              refine S.iload_n (pc' := 45) dX12_sheet_44 rfl rfl rfl ?_
              refine S.iast (pc' := 46) dX12_sheet_45 rfl L_200 (by omega) (by omega) ?_
              refine S.aload_n (pc' := 47) dX12_sheet_46 rfl rfl rfl ?_
              refine S.getR (pc' := 50) dX12_sheet_47 rfl fX12_85 L_177 rf_177_42 ?_
              refine S.iload_n (pc' := 51) dX12_sheet_50 rfl rfl rfl ?_
              refine S.iload_n (pc' := 52) dX12_sheet_51 rfl rfl rfl ?_
              refine S.iast (pc' := 53) dX12_sheet_52 rfl L_201 (by omega) (by omega) ?_
              refine S.iconst (pc' := 54) dX12_sheet_53 rfl ?_
              refine S.istore (pc' := 56) (LL' := [_, _, _, _, _]) dX12_sheet_54 rfl (by decide) rfl rfl ?_
              refine msheet_loop hin.1 hc 41 0 _ (by omega) (by omega) (by omega) ?_ ?_ ?_ ?_
              · intro a ha hb hc; rw [fp_up_ne hb, fp_up_ne ha]
              · rw [fp_up_ne (by decide), fp_up_at]
              · rw [fp_up_at, fp_up_ne (by decide)]
              · intro j; rw [if_neg (by omega), fp_up_ne (by decide), fp_up_ne (by decide)]
            · exfalso; omega
          · exfalso; omega
  · rw [if_pos hin]
    refine S.iload_n (pc' := 1) dX12_sheet_0 rfl rfl rfl ?_
    refine S.i2l (pc' := 2) dX12_sheet_1 rfl (by unfold fp_rng; omega) ?_
    refine S.lconst (pc' := 3) (w := 0) dX12_sheet_2 rfl rfl ?_
    refine S.ldc2 (pc' := 6) (v := 3) dX12_sheet_3 rfl lX12_196 (by decide) ?_
    refine S.callSi (pc' := 9) dX12_sheet_6 rfl cX12_94 (bk_X12_in) rfl (by decide) rfl (Nat.le_of_ble_eq_true rfl) (fun z6 M6 q6 => ?_)
    obtain ⟨b6, rfl⟩ := q6
    refine S.if_eq (pc' := 12) (tgt := 30) dX12_sheet_9 (by decide) rfl (by unfold fp_rng; omega) (fun h9 => ?_) (fun h9 => ?_)
    · refine S.iconst (pc' := 31) dX12_sheet_30 rfl ?_
      refine S.iret dX12_sheet_31 rfl ?_
      exact ⟨rfl, hc, frD.refl _⟩
    · refine S.iload_n (pc' := 13) dX12_sheet_12 rfl rfl rfl ?_
      refine S.i2l (pc' := 14) dX12_sheet_13 rfl (by unfold fp_rng; omega) ?_
      refine S.lconst (pc' := 15) (w := 0) dX12_sheet_14 rfl rfl ?_
      refine S.ldc2 (pc' := 18) (v := 2) dX12_sheet_15 rfl lX12_271 (by decide) ?_
      refine S.callSi (pc' := 21) dX12_sheet_18 rfl cX12_94 (bk_X12_in) rfl (by decide) rfl (Nat.le_of_ble_eq_true rfl) (fun z18 M18 q18 => ?_)
      obtain ⟨b18, rfl⟩ := q18
      refine S.if_eq (pc' := 24) (tgt := 30) dX12_sheet_21 (by decide) rfl (by unfold fp_rng; omega) (fun h21 => ?_) (fun h21 => ?_)
      · refine S.iconst (pc' := 31) dX12_sheet_30 rfl ?_
        refine S.iret dX12_sheet_31 rfl ?_
        exact ⟨rfl, hc, frD.refl _⟩
      · refine S.iload_n (pc' := 25) dX12_sheet_24 rfl rfl rfl ?_
        refine S.bipush (pc' := 27) dX12_sheet_25 rfl (by decide) ?_
        refine S.icmp_le (pc' := 30) (tgt := 32) dX12_sheet_27 (by decide) rfl h3 (by unfold fp_rng; omega) (fun h27 => ?_) (fun h27 => ?_)
        · exfalso; omega
        · refine S.iconst (pc' := 31) dX12_sheet_30 rfl ?_
          refine S.iret dX12_sheet_31 rfl ?_
          exact ⟨rfl, hc, frD.refl _⟩
theorem mm_lay {k9 i v : Int} (hc : MS M tp fl g pg vs nt im sh tn) (ho : OK g pg vs nt im sh) (h1 : fp_rng k9) (h2 : fp_rng i) (h3 : fp_rng v) : fp_Ok l G 1 kX12_lay [rV G 177, iV k9, iV i, iV v] M (qI fun z N => z = (A_lay sh k9 i v).1 ∧ MS N tp fl g pg vs nt im (A_lay sh k9 i v).2 tn ∧ frD M N) := by
  have hs := hc.2.2.2.2.2.2.1
  have hso := ho.2.2.2.2.2
  have h1' := h1
  have h2' := h2
  unfold fp_rng at h1' h2'
  refine fp_Ok.of (r := 1) rfl (Nat.le_of_ble_eq_true rfl) rfl ?_
  unfold A_lay
  by_cases hin : 0 ≤ k9 ∧ k9 ≤ 3
  · rw [if_neg (fun q => q hin)]
    obtain ⟨k2, hk⟩ := hs k9 hin.1 (by omega)
    have hko := hso k9 hin.1 (by omega)
    by_cases hn0 : (sh k9).1 = -4
    · rw [if_pos hn0]
      refine S.iload_n (pc' := 1) dX12_lay_0 rfl rfl rfl ?_
      refine S.i2l (pc' := 2) dX12_lay_1 rfl (by unfold fp_rng; omega) ?_
      refine S.lconst (pc' := 3) (w := 0) dX12_lay_2 rfl rfl ?_
      refine S.ldc2 (pc' := 6) (v := 3) dX12_lay_3 rfl lX12_196 (by decide) ?_
      refine S.callSi (pc' := 9) dX12_lay_6 rfl cX12_94 (bk_X12_in) rfl (by decide) rfl (Nat.le_of_ble_eq_true rfl) (fun z6 M6 q6 => ?_)
      obtain ⟨b6, rfl⟩ := q6
      refine S.if_ne (pc' := 12) (tgt := 14) dX12_lay_9 (by decide) rfl (by unfold fp_rng; omega) (fun h9 => ?_) (fun h9 => ?_)
      · refine S.aload_n (pc' := 15) dX12_lay_14 rfl rfl rfl ?_
        refine S.getR (pc' := 18) dX12_lay_15 rfl fX12_82 L_177 rf_177_41 ?_
        refine S.iload_n (pc' := 19) dX12_lay_18 rfl rfl rfl ?_
        refine S.iald (pc' := 20) dX12_lay_19 rfl L_200 (by omega) (by omega) ?_
        refine S.bipush (pc' := 22) dX12_lay_20 rfl (by decide) ?_
        refine S.icmp_ne (pc' := 25) (tgt := 28) dX12_lay_22 (by decide) rfl (by unfold fp_rng; omega) (by unfold fp_rng; omega) (fun h22 => ?_) (fun h22 => ?_)
        · exfalso; omega
        · refine S.bipush (pc' := 27) dX12_lay_25 rfl (by decide) ?_
          refine S.iret dX12_lay_27 rfl ?_
          exact ⟨rfl, hc, frD.refl _⟩
      · exfalso; omega
    · rw [if_neg hn0]
      have hko2 : (0 ≤ (sh k9).1 ∧ (sh k9).1 ≤ 2) ∧ (0 ≤ (sh k9).2.1 ∧ (sh k9).2.1 ≤ 40) := by
        rcases hko with q | q
        · exact absurd q hn0
        · exact ⟨q.1, q.2.1⟩
      obtain ⟨k3, k4⟩ := hk hn0
      by_cases hi : 0 ≤ i ∧ i < (sh k9).2.1
      · rw [if_neg (fun q => q hi)]
        have hfin : ∀ w : Int, w = aTr (sh k9).1 v → (1 : Int) = 1 ∧ MS (fp_up M 202 (40 * k9 + i).toNat w) tp fl g pg vs nt im (fp_ui sh k9 ((sh k9).1, (sh k9).2.1, fp_ui (sh k9).2.2 i (aTr (sh k9).1 v))) tn ∧ frD M (fp_up M 202 (40 * k9 + i).toNat w) := by
          intro w hw
          refine ⟨rfl, hc.she (fun c hc => fp_up_ne (by omega)) ?_, fun c hc => fp_up_ne (by omega)⟩
          intro j j0 j1
          rw [fp_up_ne (by decide), fp_up_ne (by decide), fp_up_at]
          by_cases e : j = k9
          · subst e
            rw [fp_ui_at]
            refine ⟨k2, fun _ => ⟨k3, fun i2 a0 a1 => ?_⟩⟩
            dsimp only
            unfold fp_upf fp_ui
            by_cases e2 : i2 = i
            · subst e2; rw [if_pos rfl, if_pos rfl]; exact hw
            · rw [if_neg (by omega), if_neg e2]; exact k4 i2 a0 a1
          · rw [fp_ui_ne e]
            obtain ⟨q1, q2⟩ := hs j j0 j1
            refine ⟨q1, fun q => ⟨(q2 q).1, fun i2 a0 a1 => ?_⟩⟩
            rw [fp_upf_ne (by omega)]; exact (q2 q).2 i2 a0 a1
        unfold aTr at hfin
        refine S.iload_n (pc' := 1) dX12_lay_0 rfl rfl rfl ?_
        refine S.i2l (pc' := 2) dX12_lay_1 rfl (by unfold fp_rng; omega) ?_
        refine S.lconst (pc' := 3) (w := 0) dX12_lay_2 rfl rfl ?_
        refine S.ldc2 (pc' := 6) (v := 3) dX12_lay_3 rfl lX12_196 (by decide) ?_
        refine S.callSi (pc' := 9) dX12_lay_6 rfl cX12_94 (bk_X12_in) rfl (by decide) rfl (Nat.le_of_ble_eq_true rfl) (fun z6 M6 q6 => ?_)
        obtain ⟨b6, rfl⟩ := q6
        refine S.if_ne (pc' := 12) (tgt := 14) dX12_lay_9 (by decide) rfl (by unfold fp_rng; omega) (fun h9 => ?_) (fun h9 => ?_)
        · refine S.aload_n (pc' := 15) dX12_lay_14 rfl rfl rfl ?_
          refine S.getR (pc' := 18) dX12_lay_15 rfl fX12_82 L_177 rf_177_41 ?_
          refine S.iload_n (pc' := 19) dX12_lay_18 rfl rfl rfl ?_
          refine S.iald (pc' := 20) dX12_lay_19 rfl L_200 (by omega) (by omega) ?_
          refine S.bipush (pc' := 22) dX12_lay_20 rfl (by decide) ?_
          refine S.icmp_ne (pc' := 25) (tgt := 28) dX12_lay_22 (by decide) rfl (by unfold fp_rng; omega) (by unfold fp_rng; omega) (fun h22 => ?_) (fun h22 => ?_)
          · refine S.iload_n (pc' := 29) dX12_lay_28 rfl rfl rfl ?_
            refine S.i2l (pc' := 30) dX12_lay_29 rfl (by unfold fp_rng; omega) ?_
            refine S.lconst (pc' := 31) (w := 0) dX12_lay_30 rfl rfl ?_
            refine S.aload_n (pc' := 32) dX12_lay_31 rfl rfl rfl ?_
            refine S.getR (pc' := 35) dX12_lay_32 rfl fX12_85 L_177 rf_177_42 ?_
            refine S.iload_n (pc' := 36) dX12_lay_35 rfl rfl rfl ?_
            refine S.iald (pc' := 37) dX12_lay_36 rfl L_201 (by omega) (by omega) ?_
            refine S.iconst (pc' := 38) dX12_lay_37 rfl ?_
            refine S.isub (pc' := 39) dX12_lay_38 rfl ?_
            refine S.i2l (pc' := 40) dX12_lay_39 rfl (by unfold fp_rng; omega) ?_
            refine S.callSi (pc' := 43) dX12_lay_40 rfl cX12_94 (bk_X12_in) rfl (by decide) rfl (Nat.le_of_ble_eq_true rfl) (fun z40 M40 q40 => ?_)
            obtain ⟨b40, rfl⟩ := q40
            refine S.if_ne (pc' := 46) (tgt := 49) dX12_lay_43 (by decide) rfl (by unfold fp_rng; omega) (fun h43 => ?_) (fun h43 => ?_)
            · refine S.aload_n (pc' := 50) dX12_lay_49 rfl rfl rfl ?_
              refine S.getR (pc' := 53) dX12_lay_50 rfl fX12_88 L_177 rf_177_43 ?_
              refine S.bipush (pc' := 55) dX12_lay_53 rfl (by decide) ?_
              refine S.iload_n (pc' := 56) dX12_lay_55 rfl rfl rfl ?_
              refine S.imul (pc' := 57) dX12_lay_56 rfl ?_
              refine S.iload_n (pc' := 58) dX12_lay_57 rfl rfl rfl ?_
              refine S.iadd (pc' := 59) dX12_lay_58 rfl ?_
              refine S.aload_n (pc' := 60) dX12_lay_59 rfl rfl rfl ?_
              refine S.getR (pc' := 63) dX12_lay_60 rfl fX12_82 L_177 rf_177_41 ?_
              refine S.iload_n (pc' := 64) dX12_lay_63 rfl rfl rfl ?_
              refine S.iald (pc' := 65) dX12_lay_64 rfl L_200 (by omega) (by omega) ?_
              refine S.if_ne (pc' := 68) (tgt := 78) dX12_lay_65 (by decide) rfl (by unfold fp_rng; omega) (fun h65 => ?_) (fun h65 => ?_)
              · refine S.aload_n (pc' := 79) dX12_lay_78 rfl rfl rfl ?_
                refine S.getR (pc' := 82) dX12_lay_79 rfl fX12_82 L_177 rf_177_41 ?_
                refine S.iload_n (pc' := 83) dX12_lay_82 rfl rfl rfl ?_
                refine S.iald (pc' := 84) dX12_lay_83 rfl L_200 (by omega) (by omega) ?_
                refine S.iconst (pc' := 85) dX12_lay_84 rfl ?_
                refine S.icmp_ne (pc' := 88) (tgt := 98) dX12_lay_85 (by decide) rfl (by unfold fp_rng; omega) (by unfold fp_rng; omega) (fun h85 => ?_) (fun h85 => ?_)
                · refine S.iload_n (pc' := 99) dX12_lay_98 rfl rfl rfl ?_
                  refine S.iast (pc' := 100) dX12_lay_99 rfl L_202 (by omega) (by omega) ?_
                  refine S.iconst (pc' := 101) dX12_lay_100 rfl ?_
                  refine S.iret dX12_lay_101 rfl ?_
                  refine hfin _ ?_
                  first | rw [if_pos (by omega)] | rw [if_neg (by omega), if_pos (by omega)] | rw [if_neg (by omega), if_neg (by omega)]
                · refine S.iload_n (pc' := 89) dX12_lay_88 rfl rfl rfl ?_
                  refine S.bipush (pc' := 91) dX12_lay_89 rfl (by decide) ?_
                  refine S.ishl (pc' := 92) dX12_lay_91 rfl (fp_shl16 v) ?_
                  refine S.bipush (pc' := 94) dX12_lay_92 rfl (by decide) ?_
                  refine S.ishr (pc' := 95) dX12_lay_94 rfl (fp_shr16 v) ?_
                  refine S.goto (pc' := 99) dX12_lay_95 (by decide) ?_
                  refine S.iast (pc' := 100) dX12_lay_99 rfl L_202 (by omega) (by omega) ?_
                  refine S.iconst (pc' := 101) dX12_lay_100 rfl ?_
                  refine S.iret dX12_lay_101 rfl ?_
                  refine hfin _ ?_
                  first | rw [if_pos (by omega)] | rw [if_neg (by omega), if_pos (by omega)] | rw [if_neg (by omega), if_neg (by omega)]
              · refine S.iload_n (pc' := 69) dX12_lay_68 rfl rfl rfl ?_
                refine S.bipush (pc' := 71) dX12_lay_69 rfl (by decide) ?_
                refine S.ishl (pc' := 72) dX12_lay_71 rfl (fp_shl24 v) ?_
                refine S.bipush (pc' := 74) dX12_lay_72 rfl (by decide) ?_
                refine S.ishr (pc' := 75) dX12_lay_74 rfl (fp_shr24 v) ?_
                refine S.goto (pc' := 99) dX12_lay_75 (by decide) ?_
                refine S.iast (pc' := 100) dX12_lay_99 rfl L_202 (by omega) (by omega) ?_
                refine S.iconst (pc' := 101) dX12_lay_100 rfl ?_
                refine S.iret dX12_lay_101 rfl ?_
                refine hfin _ ?_
                first | rw [if_pos (by omega)] | rw [if_neg (by omega), if_pos (by omega)] | rw [if_neg (by omega), if_neg (by omega)]
            · exfalso; omega
          · exfalso; omega
        · exfalso; omega
      · rw [if_pos hi]
        refine S.iload_n (pc' := 1) dX12_lay_0 rfl rfl rfl ?_
        refine S.i2l (pc' := 2) dX12_lay_1 rfl (by unfold fp_rng; omega) ?_
        refine S.lconst (pc' := 3) (w := 0) dX12_lay_2 rfl rfl ?_
        refine S.ldc2 (pc' := 6) (v := 3) dX12_lay_3 rfl lX12_196 (by decide) ?_
        refine S.callSi (pc' := 9) dX12_lay_6 rfl cX12_94 (bk_X12_in) rfl (by decide) rfl (Nat.le_of_ble_eq_true rfl) (fun z6 M6 q6 => ?_)
        obtain ⟨b6, rfl⟩ := q6
        refine S.if_ne (pc' := 12) (tgt := 14) dX12_lay_9 (by decide) rfl (by unfold fp_rng; omega) (fun h9 => ?_) (fun h9 => ?_)
        · refine S.aload_n (pc' := 15) dX12_lay_14 rfl rfl rfl ?_
          refine S.getR (pc' := 18) dX12_lay_15 rfl fX12_82 L_177 rf_177_41 ?_
          refine S.iload_n (pc' := 19) dX12_lay_18 rfl rfl rfl ?_
          refine S.iald (pc' := 20) dX12_lay_19 rfl L_200 (by omega) (by omega) ?_
          refine S.bipush (pc' := 22) dX12_lay_20 rfl (by decide) ?_
          refine S.icmp_ne (pc' := 25) (tgt := 28) dX12_lay_22 (by decide) rfl (by unfold fp_rng; omega) (by unfold fp_rng; omega) (fun h22 => ?_) (fun h22 => ?_)
          · refine S.iload_n (pc' := 29) dX12_lay_28 rfl rfl rfl ?_
            refine S.i2l (pc' := 30) dX12_lay_29 rfl (by unfold fp_rng; omega) ?_
            refine S.lconst (pc' := 31) (w := 0) dX12_lay_30 rfl rfl ?_
            refine S.aload_n (pc' := 32) dX12_lay_31 rfl rfl rfl ?_
            refine S.getR (pc' := 35) dX12_lay_32 rfl fX12_85 L_177 rf_177_42 ?_
            refine S.iload_n (pc' := 36) dX12_lay_35 rfl rfl rfl ?_
            refine S.iald (pc' := 37) dX12_lay_36 rfl L_201 (by omega) (by omega) ?_
            refine S.iconst (pc' := 38) dX12_lay_37 rfl ?_
            refine S.isub (pc' := 39) dX12_lay_38 rfl ?_
            refine S.i2l (pc' := 40) dX12_lay_39 rfl (by unfold fp_rng; omega) ?_
            refine S.callSi (pc' := 43) dX12_lay_40 rfl cX12_94 (bk_X12_in) rfl (by decide) rfl (Nat.le_of_ble_eq_true rfl) (fun z40 M40 q40 => ?_)
            obtain ⟨b40, rfl⟩ := q40
            refine S.if_ne (pc' := 46) (tgt := 49) dX12_lay_43 (by decide) rfl (by unfold fp_rng; omega) (fun h43 => ?_) (fun h43 => ?_)
            · exfalso; omega
            · refine S.bipush (pc' := 48) dX12_lay_46 rfl (by decide) ?_
              refine S.iret dX12_lay_48 rfl ?_
              exact ⟨rfl, hc, frD.refl _⟩
          · exfalso; omega
        · exfalso; omega
  · rw [if_pos hin]
    refine S.iload_n (pc' := 1) dX12_lay_0 rfl rfl rfl ?_
    refine S.i2l (pc' := 2) dX12_lay_1 rfl (by unfold fp_rng; omega) ?_
    refine S.lconst (pc' := 3) (w := 0) dX12_lay_2 rfl rfl ?_
    refine S.ldc2 (pc' := 6) (v := 3) dX12_lay_3 rfl lX12_196 (by decide) ?_
    refine S.callSi (pc' := 9) dX12_lay_6 rfl cX12_94 (bk_X12_in) rfl (by decide) rfl (Nat.le_of_ble_eq_true rfl) (fun z6 M6 q6 => ?_)
    obtain ⟨b6, rfl⟩ := q6
    refine S.if_ne (pc' := 12) (tgt := 14) dX12_lay_9 (by decide) rfl (by unfold fp_rng; omega) (fun h9 => ?_) (fun h9 => ?_)
    · exfalso; omega
    · refine S.iconst (pc' := 13) dX12_lay_12 rfl ?_
      refine S.iret dX12_lay_13 rfl ?_
      exact ⟨rfl, hc, frD.refl _⟩
end SHE
