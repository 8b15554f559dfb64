-- joined by tools/merge.py: 52.sheet, 53.image, 54.join, 55.read
section
/-! SHEETS: sheet, lay -/
theorem fp_shl24 (v : Int) : Int32.ofInt v <<< (Int32.ofInt 24 &&& 31) = Int32.ofInt (v * 16777216) := by
  apply Int32.toBitVec.inj
  apply BitVec.eq_of_toNat_eq
  rw [pk_shl _ _ 24 (by decide +kernel)]
  simp only [Int32.toBitVec_ofInt, BitVec.toNat_ofInt]
  omega
theorem fp_shl16 (v : Int) : Int32.ofInt v <<< (Int32.ofInt 16 &&& 31) = Int32.ofInt (v * 65536) := by
  apply Int32.toBitVec.inj
  apply BitVec.eq_of_toNat_eq
  rw [pk_shl _ _ 16 (by decide +kernel)]
  simp only [Int32.toBitVec_ofInt, BitVec.toNat_ofInt]
  omega
theorem fp_shr24 (v : Int) : Int32.ofInt (v * 16777216) >>> (Int32.ofInt 24 &&& 31) = Int32.ofInt (v.bmod 256) := by
  have h1 := Int.le_bmod (x := v) (m := 256) (by decide)
  have h2 := Int.bmod_lt (x := v) (m := 256) (by decide)
  have hb : (v * 16777216).bmod 4294967296 = v.bmod 256 * 16777216 := by
    rw [Int.bmod_def, Int.bmod_def]
    omega
  rw [← Int32.toInt_inj, pk_shr _ _ 24 (by decide +kernel), Int32.toInt_ofInt, fp_toInt ⟨by omega, by omega⟩]
  show (v * 16777216).bmod 4294967296 >>> 24 = _
  rw [hb, Int.shiftRight_eq_div_pow]
  omega
theorem fp_shr16 (v : Int) : Int32.ofInt (v * 65536) >>> (Int32.ofInt 16 &&& 31) = Int32.ofInt (v.bmod 65536) := by
  have h1 := Int.le_bmod (x := v) (m := 65536) (by decide)
  have h2 := Int.bmod_lt (x := v) (m := 65536) (by decide)
  have hb : (v * 65536).bmod 4294967296 = v.bmod 65536 * 65536 := by
    rw [Int.bmod_def, Int.bmod_def]
    omega
  rw [← Int32.toInt_inj, pk_shr _ _ 16 (by decide +kernel), Int32.toInt_ofInt, fp_toInt ⟨by omega, by omega⟩]
  show (v * 65536).bmod 4294967296 >>> 16 = _
  rw [hb, Int.shiftRight_eq_div_pow]
  omega
def aTr (lane v : Int) : Int := if lane = 0 then v.bmod 256 else if lane = 1 then v.bmod 65536 else v
def A_sheet (sh : aSh) (k lane n : Int) : Int × aSh := if ¬ ((0 ≤ k ∧ k ≤ 3) ∧ (0 ≤ lane ∧ lane ≤ 2) ∧ n ≤ 40) then (-1, sh) else if n < 0 then (-14, sh) else (1, fp_ui sh k (lane, n, fun _ => 0))
def A_lay (sh : aSh) (k i v : Int) : Int × aSh := if ¬ (0 ≤ k ∧ k ≤ 3) then (-1, sh) else if (sh k).1 = -4 then (-11, sh) else if ¬ (0 ≤ i ∧ i < (sh k).2.1) then (-12, sh) else (1, fp_ui sh k ((sh k).1, (sh k).2.1, fp_ui (sh k).2.2 i (aTr (sh k).1 v)))
theorem aTr_rng {lane v : Int} (h : fp_rng v) : fp_rng (aTr lane v) := by
  unfold aTr
  have h1 := Int.le_bmod (x := v) (m := 256) (by decide)
  have h2 := Int.bmod_lt (x := v) (m := 256) (by decide)
  have h3 := Int.le_bmod (x := v) (m := 65536) (by decide)
  have h4 := Int.bmod_lt (x := v) (m := 65536) (by decide)
  unfold fp_rng at *
  split
  · omega
  · split <;> omega
theorem A_sheet_ok {sh : aSh} {k lane n : Int} (h : shOk sh) : shOk (A_sheet sh k lane n).2 := by
  unfold A_sheet
  split
  · exact h
  · split
    · exact h
    · intro j j0 j1
      dsimp only
      by_cases e : j = k
      · subst e; rw [fp_ui_at]; right; dsimp only; exact ⟨by omega, by omega, fun i i0 i1 => fp_rng0⟩
      · rw [fp_ui_ne e]; exact h j j0 j1
theorem A_lay_ok {sh : aSh} {k i v : Int} (h : shOk sh) (hv : fp_rng v) : shOk (A_lay sh k i v).2 := by
  unfold A_lay
  split
  · exact h
  · split
    · exact h
    · split
      · exact h
      · intro j j0 j1
        dsimp only
        by_cases e : j = k
        · subst e
          rw [fp_ui_at]
          rcases h j j0 j1 with q | q
          · omega
          · right
            dsimp only
            refine ⟨q.1, q.2.1, fun i2 i0 i1 => ?_⟩
            by_cases e2 : i2 = i
            · subst e2; rw [fp_ui_at]; exact aTr_rng hv
            · rw [fp_ui_ne e2]; exact q.2.2 i2 i0 i1
        · rw [fp_ui_ne e]; exact h j j0 j1
section SHE
variable {l : Launch} {G : fp_WG} {M N : fp_Mem} {tp tp' : List Int} {fl fl' : Int} {g : aGd} {pg : aPg} {vs vs' : List aVt} {nt nt' : List Int} {im : aIm} {sh sh' : aSh} {tn tn' : Int} {k : Nat}
theorem CS.she (h : CS M tp fl g pg vs nt im sh tn) (e : ∀ a, (a < 169 ∨ 176 < a) → N a = M a) (hv : csS N sh') : CS N tp fl g pg vs nt im sh' tn := by
  obtain ⟨h1, h2, h3, h4, h5, h6, h7⟩ := h
  exact ⟨h1.kept (e 0 (by omega)) (e 1 (by omega)) (by rw [e 2 (by omega)]), h2.kept (fun a q1 q2 => e a (by omega)), h3.kept (fun a q1 q2 => e a (by omega)), h4.kept (fun a q1 q2 => e a (by omega)), h5.kept (fun a q1 q2 => e a (by omega)), h6.kept (fun a q1 q2 => e a (by omega)), hv⟩
theorem MS.she (h : MS M tp fl g pg vs nt im sh tn) (e : ∀ c, c < 200 → N c = M c) (hv : msS N sh') : MS N tp fl g pg vs nt im sh' tn := by
  obtain ⟨h1, h2, h3, h4, h5, h6, h7, h8⟩ := h
  refine ⟨?_, ?_, ?_, ?_, ?_, ?_, hv, ?_⟩
  · unfold msA at *; rw [e 177 (by decide), e 186 (by decide)]; exact h1
  · unfold mdIs md_ok at *; rw [e 177 (by decide), e 179 (by decide), e 180 (by decide), e 181 (by decide)]; exact h2
  · unfold mpIs at *; rw [e 178 (by decide)]; exact h3
  · rw [e 178 (by decide)]; exact h4
  · rw [e 178 (by decide)]; exact h5
  · unfold msI at *; rw [e 178 (by decide), e 199 (by decide)]; exact h6
  · unfold msK at *; rw [e 187 (by decide), e 188 (by decide)]; exact h8
theorem ok_X9_renew {lane n : Int} (hk : fp_issh k) : fp_Ok l G 1 kX9_renew [rV G k, iV lane, iV n] M (qV fun N => N k 0 = lane ∧ N k 1 = n ∧ (∀ i : Nat, i < 40 → N (k + 1) i = 0) ∧ ∀ a, a ≠ k → a ≠ k + 1 → N a = M a) := by
  refine fp_Ok.of (r := 0) rfl (Nat.le_of_ble_eq_true rfl) rfl ?_
  refine S.aload_n (pc' := 1) dX9_renew_0 rfl rfl rfl ?_
  refine S.iload_n (pc' := 2) dX9_renew_1 rfl rfl rfl ?_
  refine S.putI (pc' := 5) dX9_renew_2 rfl fX9_27 (sh_lay hk) ?_
  refine S.aload_n (pc' := 6) dX9_renew_5 rfl rfl rfl ?_
  refine S.iload_n (pc' := 7) dX9_renew_6 rfl rfl rfl ?_
  refine S.putI (pc' := 10) dX9_renew_7 rfl fX9_9 (sh_lay hk) ?_
  refine S.aload_n (pc' := 11) dX9_renew_10 rfl rfl rfl ?_
  refine S.getR (pc' := 14) dX9_renew_11 rfl fX9_15 (sh_lay hk) (sh_r2 hk) ?_
  refine S.iconst (pc' := 15) dX9_renew_14 rfl ?_
  refine S.callSw (pc' := 18) dX9_renew_15 rfl cX9_30 (ok_J7_fill_53178 (sh_a2 hk)) rfl (by decide) rfl (Nat.le_of_ble_eq_true rfl) ?_
  refine S.vret dX9_renew_18 rfl ?_
  refine ⟨?_, ?_, fun i hi => ?_, fun a ha hb => ?_⟩
  · rw [fp_upM_ne (by omega), fp_up_at, fp_upf_ne (by decide), fp_up_at, fp_upf_at]
  · rw [fp_upM_ne (by omega), fp_up_at, fp_upf_at]
  · rw [fp_upM_at, if_pos (by omega)]
  · rw [fp_upM_ne hb, fp_up_ne ha, fp_up_ne ha]
theorem ok_X9_write {i v : Int} (hk : fp_issh k) (hi : 0 ≤ i ∧ i < 40 := by first | assumption | omega) (hln : fp_rng (M k 0) := by first | assumption | (unfold fp_rng; omega)) : fp_Ok l G 0 kX9_write [rV G k, iV i, iV v] M (qW (fp_up M (k + 1) i.toNat (aTr (M k 0) v))) := by
  refine fp_Ok.of (r := 0) rfl (Nat.le_of_ble_eq_true rfl) rfl ?_
  unfold aTr
  refine S.aload_n (pc' := 1) dX9_write_0 rfl rfl rfl ?_
  refine S.getI (pc' := 4) dX9_write_1 rfl fX9_27 (sh_lay hk) ?_
  refine S.if_ne (pc' := 7) (tgt := 18) dX9_write_4 (by decide) rfl hln (fun h4 => ?_) (fun h4 => ?_)
  · refine S.aload_n (pc' := 19) dX9_write_18 rfl rfl rfl ?_
    refine S.getI (pc' := 22) dX9_write_19 rfl fX9_27 (sh_lay hk) ?_
    refine S.iconst (pc' := 23) dX9_write_22 rfl ?_
    refine S.icmp_ne (pc' := 26) (tgt := 37) dX9_write_23 (by decide) rfl hln (by unfold fp_rng; omega) (fun h23 => ?_) (fun h23 => ?_)
    · refine S.aload_n (pc' := 38) dX9_write_37 rfl rfl rfl ?_
      refine S.getR (pc' := 41) dX9_write_38 rfl fX9_15 (sh_lay hk) (sh_r2 hk) ?_
      refine S.iload_n (pc' := 42) dX9_write_41 rfl rfl rfl ?_
      refine S.iload_n (pc' := 43) dX9_write_42 rfl rfl rfl ?_
      refine S.iast (pc' := 44) dX9_write_43 rfl (sh_a2 hk) (by omega) (by omega) ?_
      refine S.vret dX9_write_44 rfl ?_
      show _ = _
      first | rw [if_pos h4] | rw [if_neg h4, if_pos h23] | rw [if_neg h4, if_neg h23]
    · refine S.aload_n (pc' := 27) dX9_write_26 rfl rfl rfl ?_
      refine S.getR (pc' := 30) dX9_write_27 rfl fX9_15 (sh_lay hk) (sh_r2 hk) ?_
      refine S.iload_n (pc' := 31) dX9_write_30 rfl rfl rfl ?_
      refine S.iload_n (pc' := 32) dX9_write_31 rfl rfl rfl ?_
      refine S.i2s (pc' := 33) dX9_write_32 rfl ?_
      refine S.iast (pc' := 34) dX9_write_33 rfl (sh_a2 hk) (by omega) (by omega) ?_
      refine S.goto (pc' := 44) dX9_write_34 (by decide) ?_
      refine S.vret dX9_write_44 rfl ?_
      show _ = _
      first | rw [if_pos h4] | rw [if_neg h4, if_pos h23] | rw [if_neg h4, if_neg h23]
  · refine S.aload_n (pc' := 8) dX9_write_7 rfl rfl rfl ?_
    refine S.getR (pc' := 11) dX9_write_8 rfl fX9_15 (sh_lay hk) (sh_r2 hk) ?_
    refine S.iload_n (pc' := 12) dX9_write_11 rfl rfl rfl ?_
    refine S.iload_n (pc' := 13) dX9_write_12 rfl rfl rfl ?_
    refine S.i2b (pc' := 14) dX9_write_13 rfl ?_
    refine S.iast (pc' := 15) dX9_write_14 rfl (sh_a2 hk) (by omega) (by omega) ?_
    refine S.goto (pc' := 44) dX9_write_15 (by decide) ?_
    refine S.vret dX9_write_44 rfl ?_
    show _ = _
    first | rw [if_pos h4] | rw [if_neg h4, if_pos h23] | rw [if_neg h4, if_neg h23]
theorem bk_X9_isThere (hk : fp_issh k) (hm : fp_rng (M k 1) := by first | assumption | (unfold fp_rng; omega)) : fp_Ok l G 0 kX9_isThere [rV G k] M (qI fun z N => ((z = 1 ∧ M k 1 ≠ -4) ∨ (z = 0 ∧ ¬ M k 1 ≠ -4)) ∧ M = N) := by
  refine fp_Ok.of (r := 0) rfl (Nat.le_of_ble_eq_true rfl) rfl ?_
  refine S.aload_n (pc' := 1) dX9_isThere_0 rfl rfl rfl ?_
  refine S.getI (pc' := 4) dX9_isThere_1 rfl fX9_9 (sh_lay hk) ?_
  refine S.bipush (pc' := 6) dX9_isThere_4 rfl (by decide) ?_
  refine S.icmp_eq (pc' := 9) (tgt := 13) dX9_isThere_6 (by decide) rfl hm (by unfold fp_rng; omega) (fun h6 => ?_) (fun h6 => ?_)
  · refine S.iconst (pc' := 14) dX9_isThere_13 rfl ?_
    refine S.zret dX9_isThere_14 rfl (by first | exact Or.inl rfl | exact Or.inr rfl | omega) ?_
    exact ⟨by omega, rfl⟩
  · refine S.iconst (pc' := 10) dX9_isThere_9 rfl ?_
    refine S.goto (pc' := 14) dX9_isThere_10 (by decide) ?_
    refine S.zret dX9_isThere_14 rfl (by first | exact Or.inl rfl | exact Or.inr rfl | omega) ?_
    exact ⟨by omega, rfl⟩
theorem bk_X9_has {i : Int} (hk : fp_issh k) (hi : fp_rng i := by first | assumption | (unfold fp_rng; omega)) (hm : fp_rng (M k 1) := by first | assumption | (unfold fp_rng; omega)) : fp_Ok l G 0 kX9_has [rV G k, iV i] M (qI fun z N => ((z = 1 ∧ (0 ≤ i ∧ i < M k 1)) ∨ (z = 0 ∧ ¬ (0 ≤ i ∧ i < M k 1))) ∧ M = N) := by
  refine fp_Ok.of (r := 0) rfl (Nat.le_of_ble_eq_true rfl) rfl ?_
  refine S.iload_n (pc' := 1) dX9_has_0 rfl rfl rfl ?_
  refine S.if_lt (pc' := 4) (tgt := 16) dX9_has_1 (by decide) rfl hi (fun h1 => ?_) (fun h1 => ?_)
  · refine S.iconst (pc' := 17) dX9_has_16 rfl ?_
    refine S.zret dX9_has_17 rfl (by first | exact Or.inl rfl | exact Or.inr rfl | omega) ?_
    exact ⟨by omega, rfl⟩
  · refine S.iload_n (pc' := 5) dX9_has_4 rfl rfl rfl ?_
    refine S.aload_n (pc' := 6) dX9_has_5 rfl rfl rfl ?_
    refine S.getI (pc' := 9) dX9_has_6 rfl fX9_9 (sh_lay hk) ?_
    refine S.icmp_ge (pc' := 12) (tgt := 16) dX9_has_9 (by decide) rfl hi hm (fun h9 => ?_) (fun h9 => ?_)
    · refine S.iconst (pc' := 17) dX9_has_16 rfl ?_
      refine S.zret dX9_has_17 rfl (by first | exact Or.inl rfl | exact Or.inr rfl | omega) ?_
      exact ⟨by omega, rfl⟩
    · refine S.iconst (pc' := 13) dX9_has_12 rfl ?_
      refine S.goto (pc' := 17) dX9_has_13 (by decide) ?_
      refine S.zret dX9_has_17 rfl (by first | exact Or.inl rfl | exact Or.inr rfl | omega) ?_
      exact ⟨by omega, rfl⟩
theorem cc_sheet {k9 lane n : Int} (hc : CS M tp fl g pg vs nt im sh tn) (h1 : fp_rng k9) (h2 : fp_rng lane) (h3 : fp_rng n) : fp_Ok l G 2 kX11_sheet [rV G 0, iV k9, iV lane, iV n] M (qI fun z N => z = (A_sheet sh k9 lane n).1 ∧ CS N tp fl g pg vs nt im (A_sheet sh k9 lane n).2 tn ∧ frC M N) := by
  have hs := hc.2.2.2.2.2.2
  refine fp_Ok.of (r := 0) rfl (Nat.le_of_ble_eq_true rfl) rfl ?_
  unfold A_sheet
  by_cases hin : (0 ≤ k9 ∧ k9 ≤ 3) ∧ (0 ≤ lane ∧ lane ≤ 2) ∧ n ≤ 40
  · rw [if_neg (fun q => q hin)]
    by_cases hn0 : n < 0
    · rw [if_pos hn0]
      refine S.iload_n (pc' := 1) dX11_sheet_0 rfl rfl rfl ?_
      refine S.iconst (pc' := 2) dX11_sheet_1 rfl ?_
      refine S.callSi (pc' := 5) dX11_sheet_2 rfl cX11_221 (bk_X11_isWithin) rfl (by decide) rfl (Nat.le_of_ble_eq_true rfl) (fun z2 M2 q2 => ?_)
      obtain ⟨b2, rfl⟩ := q2
      refine S.if_eq (pc' := 8) (tgt := 22) dX11_sheet_5 (by decide) rfl (by unfold fp_rng; omega) (fun h5 => ?_) (fun h5 => ?_)
      · exfalso; omega
      · refine S.iload_n (pc' := 9) dX11_sheet_8 rfl rfl rfl ?_
        refine S.iconst (pc' := 10) dX11_sheet_9 rfl ?_
        refine S.callSi (pc' := 13) dX11_sheet_10 rfl cX11_221 (bk_X11_isWithin) rfl (by decide) rfl (Nat.le_of_ble_eq_true rfl) (fun z10 M10 q10 => ?_)
        obtain ⟨b10, rfl⟩ := q10
        refine S.if_eq (pc' := 16) (tgt := 22) dX11_sheet_13 (by decide) rfl (by unfold fp_rng; omega) (fun h13 => ?_) (fun h13 => ?_)
        · exfalso; omega
        · refine S.iload_n (pc' := 17) dX11_sheet_16 rfl rfl rfl ?_
          refine S.bipush (pc' := 19) dX11_sheet_17 rfl (by decide) ?_
          refine S.icmp_le (pc' := 22) (tgt := 24) dX11_sheet_19 (by decide) rfl h3 (by unfold fp_rng; omega) (fun h19 => ?_) (fun h19 => ?_)
          · refine S.iload_n (pc' := 25) dX11_sheet_24 rfl rfl rfl ?_
            refine S.if_ge (pc' := 28) (tgt := 31) dX11_sheet_25 (by decide) rfl h3 (fun h25 => ?_) (fun h25 => ?_)
            · exfalso; omega
            · refine S.bipush (pc' := 30) dX11_sheet_28 rfl (by decide) ?_
              refine S.iret dX11_sheet_30 rfl ?_
              exact ⟨rfl, hc, frC.refl _⟩
          · exfalso; omega
    · rw [if_neg hn0]
      refine S.iload_n (pc' := 1) dX11_sheet_0 rfl rfl rfl ?_
      refine S.iconst (pc' := 2) dX11_sheet_1 rfl ?_
      refine S.callSi (pc' := 5) dX11_sheet_2 rfl cX11_221 (bk_X11_isWithin) rfl (by decide) rfl (Nat.le_of_ble_eq_true rfl) (fun z2 M2 q2 => ?_)
      obtain ⟨b2, rfl⟩ := q2
      refine S.if_eq (pc' := 8) (tgt := 22) dX11_sheet_5 (by decide) rfl (by unfold fp_rng; omega) (fun h5 => ?_) (fun h5 => ?_)
      · exfalso; omega
      · refine S.iload_n (pc' := 9) dX11_sheet_8 rfl rfl rfl ?_
        refine S.iconst (pc' := 10) dX11_sheet_9 rfl ?_
        refine S.callSi (pc' := 13) dX11_sheet_10 rfl cX11_221 (bk_X11_isWithin) rfl (by decide) rfl (Nat.le_of_ble_eq_true rfl) (fun z10 M10 q10 => ?_)
        obtain ⟨b10, rfl⟩ := q10
        refine S.if_eq (pc' := 16) (tgt := 22) dX11_sheet_13 (by decide) rfl (by unfold fp_rng; omega) (fun h13 => ?_) (fun h13 => ?_)
        · exfalso; omega
        · refine S.iload_n (pc' := 17) dX11_sheet_16 rfl rfl rfl ?_
          refine S.bipush (pc' := 19) dX11_sheet_17 rfl (by decide) ?_
          refine S.icmp_le (pc' := 22) (tgt := 24) dX11_sheet_19 (by decide) rfl h3 (by unfold fp_rng; omega) (fun h19 => ?_) (fun h19 => ?_)
          · refine S.iload_n (pc' := 25) dX11_sheet_24 rfl rfl rfl ?_
            refine S.if_ge (pc' := 28) (tgt := 31) dX11_sheet_25 (by decide) rfl h3 (fun h25 => ?_) (fun h25 => ?_)
            · refine S.aload_n (pc' := 32) dX11_sheet_31 rfl rfl rfl ?_
              refine S.getR (pc' := 35) dX11_sheet_32 rfl fX11_84 L_0 rf_0_12 ?_
              refine S.iload_n (pc' := 36) dX11_sheet_35 rfl rfl rfl ?_
              refine S.aald (pc' := 37) dX11_sheet_36 rfl L_142 (by decide) (by decide) (by omega) (by omega) (shs_r (by omega) (by omega)) ?_
              refine S.iload_n (pc' := 38) dX11_sheet_37 rfl rfl rfl ?_
              refine S.iload_n (pc' := 39) dX11_sheet_38 rfl rfl rfl ?_
              refine S.callVv (pc' := 42) dX11_sheet_39 rfl cX11_319 (ok_X9_renew (shs_o (by omega) (by omega))) rfl (sh_lay (shs_o (by omega) (by omega))) (by decide) rfl (Nat.le_of_ble_eq_true rfl) (fun M39 q39 => ?_)
              obtain ⟨r1, r2, r3, r4⟩ := q39
              refine S.iconst (pc' := 43) dX11_sheet_42 rfl ?_
              refine S.iret dX11_sheet_43 rfl ?_
              refine ⟨rfl, hc.she (fun a ha => r4 a (by omega) (by omega)) ?_, fun c hc2 => r4 c (by omega) (by omega)⟩
              intro j j0 j1
              dsimp only
              by_cases e : j = k9
              · subst e; rw [fp_ui_at]; right; exact ⟨by dsimp only; omega, r1, r2, fun i i0 i1 => r3 i.toNat (by omega)⟩
              · rw [fp_ui_ne e, r4 (169 + 2 * j.toNat) (by omega) (by omega), r4 (169 + 2 * j.toNat + 1) (by omega) (by omega)]; exact hs j j0 j1
            · exfalso; omega
          · exfalso; omega
  · rw [if_pos hin]
    refine S.iload_n (pc' := 1) dX11_sheet_0 rfl rfl rfl ?_
    refine S.iconst (pc' := 2) dX11_sheet_1 rfl ?_
    refine S.callSi (pc' := 5) dX11_sheet_2 rfl cX11_221 (bk_X11_isWithin) rfl (by decide) rfl (Nat.le_of_ble_eq_true rfl) (fun z2 M2 q2 => ?_)
    obtain ⟨b2, rfl⟩ := q2
    refine S.if_eq (pc' := 8) (tgt := 22) dX11_sheet_5 (by decide) rfl (by unfold fp_rng; omega) (fun h5 => ?_) (fun h5 => ?_)
    · refine S.iconst (pc' := 23) dX11_sheet_22 rfl ?_
      refine S.iret dX11_sheet_23 rfl ?_
      exact ⟨rfl, hc, frC.refl _⟩
    · refine S.iload_n (pc' := 9) dX11_sheet_8 rfl rfl rfl ?_
      refine S.iconst (pc' := 10) dX11_sheet_9 rfl ?_
      refine S.callSi (pc' := 13) dX11_sheet_10 rfl cX11_221 (bk_X11_isWithin) rfl (by decide) rfl (Nat.le_of_ble_eq_true rfl) (fun z10 M10 q10 => ?_)
      obtain ⟨b10, rfl⟩ := q10
      refine S.if_eq (pc' := 16) (tgt := 22) dX11_sheet_13 (by decide) rfl (by unfold fp_rng; omega) (fun h13 => ?_) (fun h13 => ?_)
      · refine S.iconst (pc' := 23) dX11_sheet_22 rfl ?_
        refine S.iret dX11_sheet_23 rfl ?_
        exact ⟨rfl, hc, frC.refl _⟩
      · refine S.iload_n (pc' := 17) dX11_sheet_16 rfl rfl rfl ?_
        refine S.bipush (pc' := 19) dX11_sheet_17 rfl (by decide) ?_
        refine S.icmp_le (pc' := 22) (tgt := 24) dX11_sheet_19 (by decide) rfl h3 (by unfold fp_rng; omega) (fun h19 => ?_) (fun h19 => ?_)
        · exfalso; omega
        · refine S.iconst (pc' := 23) dX11_sheet_22 rfl ?_
          refine S.iret dX11_sheet_23 rfl ?_
          exact ⟨rfl, hc, frC.refl _⟩
theorem cc_lay {k9 i v : Int} (hc : CS M tp fl g pg vs nt im sh tn) (ho : OK g pg vs nt im sh) (h1 : fp_rng k9) (h2 : fp_rng i) (h3 : fp_rng v) : fp_Ok l G 1 kX11_lay [rV G 0, iV k9, iV i, iV v] M (qI fun z N => z = (A_lay sh k9 i v).1 ∧ CS N tp fl g pg vs nt im (A_lay sh k9 i v).2 tn ∧ frC M N) := by
  have hs := hc.2.2.2.2.2.2
  have hso := ho.2.2.2.2.2
  refine fp_Ok.of (r := 1) rfl (Nat.le_of_ble_eq_true rfl) rfl ?_
  unfold A_lay
  by_cases hin : 0 ≤ k9 ∧ k9 ≤ 3
  · rw [if_neg (fun q => q hin)]
    have hk := hs k9 hin.1 (by omega)
    have hko := hso k9 hin.1 (by omega)
    by_cases hn0 : (sh k9).1 = -4
    · rw [if_pos hn0]
      refine S.iload_n (pc' := 1) dX11_lay_0 rfl rfl rfl ?_
      refine S.iconst (pc' := 2) dX11_lay_1 rfl ?_
      refine S.callSi (pc' := 5) dX11_lay_2 rfl cX11_221 (bk_X11_isWithin) rfl (by decide) rfl (Nat.le_of_ble_eq_true rfl) (fun z2 M2 q2 => ?_)
      obtain ⟨b2, rfl⟩ := q2
      refine S.if_ne (pc' := 8) (tgt := 10) dX11_lay_5 (by decide) rfl (by unfold fp_rng; omega) (fun h5 => ?_) (fun h5 => ?_)
      · refine S.aload_n (pc' := 11) dX11_lay_10 rfl rfl rfl ?_
        refine S.getR (pc' := 14) dX11_lay_11 rfl fX11_84 L_0 rf_0_12 ?_
        refine S.iload_n (pc' := 15) dX11_lay_14 rfl rfl rfl ?_
        refine S.aald (pc' := 16) dX11_lay_15 rfl L_142 (by decide) (by decide) (by omega) (by omega) (shs_r (by omega) (by omega)) ?_
        refine S.astore (pc' := 18) (LL' := [_, _, _, _, _]) dX11_lay_16 rfl (by decide) rfl rfl ?_
        refine S.aload (pc' := 20) dX11_lay_18 rfl rfl ?_
        refine S.callVi (pc' := 23) dX11_lay_20 rfl cX11_323 (bk_X9_isThere (shs_o (by omega) (by omega))) rfl (sh_lay (shs_o (by omega) (by omega))) (by decide) rfl (Nat.le_of_ble_eq_true rfl) (fun z20 M20 q20 => ?_)
        obtain ⟨b20, rfl⟩ := q20
        refine S.if_ne (pc' := 26) (tgt := 29) dX11_lay_23 (by decide) rfl (by unfold fp_rng; omega) (fun h23 => ?_) (fun h23 => ?_)
        · exfalso; omega
        · refine S.bipush (pc' := 28) dX11_lay_26 rfl (by decide) ?_
          refine S.iret dX11_lay_28 rfl ?_
          exact ⟨rfl, hc, frC.refl _⟩
      · exfalso; omega
    · rw [if_neg hn0]
      have hk2 : (sh k9).1 ≠ -4 ∧ M (169 + 2 * k9.toNat) 0 = (sh k9).1 ∧ M (169 + 2 * k9.toNat) 1 = (sh k9).2.1 ∧ ∀ i : Int, 0 ≤ i → i < 40 → M (169 + 2 * k9.toNat + 1) i.toNat = (sh k9).2.2 i := by
        rcases hk with q | q
        · exact absurd q.1 hn0
        · exact q
      have hko2 : (0 ≤ (sh k9).1 ∧ (sh k9).1 ≤ 2) ∧ (0 ≤ (sh k9).2.1 ∧ (sh k9).2.1 ≤ 40) := by
        rcases hko with q | q
        · exact absurd q hn0
        · exact ⟨q.1, q.2.1⟩
      obtain ⟨k1, k2, k3, k4⟩ := hk2
      by_cases hi : 0 ≤ i ∧ i < (sh k9).2.1
      · rw [if_neg (fun q => q hi)]
        refine S.iload_n (pc' := 1) dX11_lay_0 rfl rfl rfl ?_
        refine S.iconst (pc' := 2) dX11_lay_1 rfl ?_
        refine S.callSi (pc' := 5) dX11_lay_2 rfl cX11_221 (bk_X11_isWithin) rfl (by decide) rfl (Nat.le_of_ble_eq_true rfl) (fun z2 M2 q2 => ?_)
        obtain ⟨b2, rfl⟩ := q2
        refine S.if_ne (pc' := 8) (tgt := 10) dX11_lay_5 (by decide) rfl (by unfold fp_rng; omega) (fun h5 => ?_) (fun h5 => ?_)
        · refine S.aload_n (pc' := 11) dX11_lay_10 rfl rfl rfl ?_
          refine S.getR (pc' := 14) dX11_lay_11 rfl fX11_84 L_0 rf_0_12 ?_
          refine S.iload_n (pc' := 15) dX11_lay_14 rfl rfl rfl ?_
          refine S.aald (pc' := 16) dX11_lay_15 rfl L_142 (by decide) (by decide) (by omega) (by omega) (shs_r (by omega) (by omega)) ?_
          refine S.astore (pc' := 18) (LL' := [_, _, _, _, _]) dX11_lay_16 rfl (by decide) rfl rfl ?_
          refine S.aload (pc' := 20) dX11_lay_18 rfl rfl ?_
          refine S.callVi (pc' := 23) dX11_lay_20 rfl cX11_323 (bk_X9_isThere (shs_o (by omega) (by omega))) rfl (sh_lay (shs_o (by omega) (by omega))) (by decide) rfl (Nat.le_of_ble_eq_true rfl) (fun z20 M20 q20 => ?_)
          obtain ⟨b20, rfl⟩ := q20
          refine S.if_ne (pc' := 26) (tgt := 29) dX11_lay_23 (by decide) rfl (by unfold fp_rng; omega) (fun h23 => ?_) (fun h23 => ?_)
          · refine S.aload (pc' := 31) dX11_lay_29 rfl rfl ?_
            refine S.iload_n (pc' := 32) dX11_lay_31 rfl rfl rfl ?_
            refine S.callVi (pc' := 35) dX11_lay_32 rfl cX11_327 (bk_X9_has (shs_o (by omega) (by omega))) rfl (sh_lay (shs_o (by omega) (by omega))) (by decide) rfl (Nat.le_of_ble_eq_true rfl) (fun z32 M32 q32 => ?_)
            obtain ⟨b32, rfl⟩ := q32
            refine S.if_ne (pc' := 38) (tgt := 41) dX11_lay_35 (by decide) rfl (by unfold fp_rng; omega) (fun h35 => ?_) (fun h35 => ?_)
            · refine S.aload (pc' := 43) dX11_lay_41 rfl rfl ?_
              refine S.iload_n (pc' := 44) dX11_lay_43 rfl rfl rfl ?_
              refine S.iload_n (pc' := 45) dX11_lay_44 rfl rfl rfl ?_
              refine S.callVw (pc' := 48) dX11_lay_45 rfl cX11_328 (ok_X9_write (shs_o (by omega) (by omega))) rfl (sh_lay (shs_o (by omega) (by omega))) (by decide) rfl (Nat.le_of_ble_eq_true rfl) ?_
              refine S.iconst (pc' := 49) dX11_lay_48 rfl ?_
              refine S.iret dX11_lay_49 rfl ?_
              rw [k2]
              refine ⟨rfl, hc.she (fun a ha => fp_up_ne (by omega)) ?_, fun c hc2 => fp_up_ne (by omega)⟩
              intro j j0 j1
              dsimp only
              by_cases e : j = k9
              · subst e; rw [fp_ui_at, fp_up_ne (show 169 + 2 * j.toNat ≠ 169 + 2 * j.toNat + 1 by omega), fp_up_at]; right; refine ⟨k1, k2, k3, fun i2 i0 i1 => ?_⟩
                unfold fp_upf fp_ui
                by_cases e2 : i2 = i
                · subst e2; simp
                · dsimp only; rw [if_neg (by omega), if_neg e2]; exact k4 i2 i0 i1
              · rw [fp_ui_ne e, fp_up_ne (by omega), fp_up_ne (by omega)]; exact hs j j0 j1
            · exfalso; omega
          · exfalso; omega
        · exfalso; omega
      · rw [if_pos hi]
        refine S.iload_n (pc' := 1) dX11_lay_0 rfl rfl rfl ?_
        refine S.iconst (pc' := 2) dX11_lay_1 rfl ?_
        refine S.callSi (pc' := 5) dX11_lay_2 rfl cX11_221 (bk_X11_isWithin) rfl (by decide) rfl (Nat.le_of_ble_eq_true rfl) (fun z2 M2 q2 => ?_)
        obtain ⟨b2, rfl⟩ := q2
        refine S.if_ne (pc' := 8) (tgt := 10) dX11_lay_5 (by decide) rfl (by unfold fp_rng; omega) (fun h5 => ?_) (fun h5 => ?_)
        · refine S.aload_n (pc' := 11) dX11_lay_10 rfl rfl rfl ?_
          refine S.getR (pc' := 14) dX11_lay_11 rfl fX11_84 L_0 rf_0_12 ?_
          refine S.iload_n (pc' := 15) dX11_lay_14 rfl rfl rfl ?_
          refine S.aald (pc' := 16) dX11_lay_15 rfl L_142 (by decide) (by decide) (by omega) (by omega) (shs_r (by omega) (by omega)) ?_
          refine S.astore (pc' := 18) (LL' := [_, _, _, _, _]) dX11_lay_16 rfl (by decide) rfl rfl ?_
          refine S.aload (pc' := 20) dX11_lay_18 rfl rfl ?_
          refine S.callVi (pc' := 23) dX11_lay_20 rfl cX11_323 (bk_X9_isThere (shs_o (by omega) (by omega))) rfl (sh_lay (shs_o (by omega) (by omega))) (by decide) rfl (Nat.le_of_ble_eq_true rfl) (fun z20 M20 q20 => ?_)
          obtain ⟨b20, rfl⟩ := q20
          refine S.if_ne (pc' := 26) (tgt := 29) dX11_lay_23 (by decide) rfl (by unfold fp_rng; omega) (fun h23 => ?_) (fun h23 => ?_)
          · refine S.aload (pc' := 31) dX11_lay_29 rfl rfl ?_
            refine S.iload_n (pc' := 32) dX11_lay_31 rfl rfl rfl ?_
            refine S.callVi (pc' := 35) dX11_lay_32 rfl cX11_327 (bk_X9_has (shs_o (by omega) (by omega))) rfl (sh_lay (shs_o (by omega) (by omega))) (by decide) rfl (Nat.le_of_ble_eq_true rfl) (fun z32 M32 q32 => ?_)
            obtain ⟨b32, rfl⟩ := q32
            refine S.if_ne (pc' := 38) (tgt := 41) dX11_lay_35 (by decide) rfl (by unfold fp_rng; omega) (fun h35 => ?_) (fun h35 => ?_)
            · exfalso; omega
            · refine S.bipush (pc' := 40) dX11_lay_38 rfl (by decide) ?_
              refine S.iret dX11_lay_40 rfl ?_
              exact ⟨rfl, hc, frC.refl _⟩
          · exfalso; omega
        · exfalso; omega
  · rw [if_pos hin]
    refine S.iload_n (pc' := 1) dX11_lay_0 rfl rfl rfl ?_
    refine S.iconst (pc' := 2) dX11_lay_1 rfl ?_
    refine S.callSi (pc' := 5) dX11_lay_2 rfl cX11_221 (bk_X11_isWithin) rfl (by decide) rfl (Nat.le_of_ble_eq_true rfl) (fun z2 M2 q2 => ?_)
    obtain ⟨b2, rfl⟩ := q2
    refine S.if_ne (pc' := 8) (tgt := 10) dX11_lay_5 (by decide) rfl (by unfold fp_rng; omega) (fun h5 => ?_) (fun h5 => ?_)
    · exfalso; omega
    · refine S.iconst (pc' := 9) dX11_lay_8 rfl ?_
      refine S.iret dX11_lay_9 rfl ?_
      exact ⟨rfl, hc, frC.refl _⟩
theorem msheet_loop {k9 lane n9 : Int} (hk : 0 ≤ k9 ∧ k9 ≤ 3) (hc : MS M tp fl g pg vs nt im sh tn) : ∀ (n : Nat) (i : Int) (N : fp_Mem), (40 - i).toNat < n → 0 ≤ i → i ≤ 40 → (∀ a, a ≠ 200 → a ≠ 201 → a ≠ 202 → N a = M a) → N 200 = fp_upf (M 200) k9.toNat lane → N 201 = fp_upf (M 201) k9.toNat n9 → (∀ j : Nat, N 202 j = if 40 * k9 ≤ j ∧ (j : Int) < 40 * k9 + i then 0 else M 202 j) →
    fp_S l G 1 kX12_sheet 56 [some (rV G 177), some (iV k9), some (iV lane), some (iV n9), some (iV i)] [] N (qI fun z O => z = 1 ∧ MS O tp fl g pg vs nt im (fp_ui sh k9 (lane, n9, fun _ => 0)) tn ∧ frD M O) := by
  have hs := hc.2.2.2.2.2.2.1
  intro n
  induction n with
  | zero => intro i N h; omega
  | succ n ih =>
    intro i N h i0 i1 e1 e2 e3 e4
    refine S.iload (pc' := 58) dX12_sheet_56 rfl rfl ?_
    refine S.bipush (pc' := 60) dX12_sheet_58 rfl (by decide) ?_
    refine S.icmp_ge (pc' := 63) (tgt := 82) dX12_sheet_60 (by decide) rfl (by unfold fp_rng; omega) (by unfold fp_rng; omega) (fun h60 => ?_) (fun h60 => ?_)
    · refine S.iconst (pc' := 83) dX12_sheet_82 rfl ?_
      refine S.iret dX12_sheet_83 rfl ?_
      refine ⟨rfl, hc.she (fun c hc => e1 c (by omega) (by omega) (by omega)) ?_, fun c hc => e1 c (by omega) (by omega) (by omega)⟩
      intro j j0 j1
      rw [e2, e3]
      by_cases e : j = k9
      · subst e; rw [fp_ui_at, fp_upf_at, fp_upf_at]; refine ⟨rfl, fun _ => ⟨rfl, fun i2 a0 a1 => ?_⟩⟩
        rw [e4, if_pos (by omega)]
      · rw [fp_ui_ne e, fp_upf_ne (by omega), fp_upf_ne (by omega)]; obtain ⟨q1, q2⟩ := hs j j0 j1; refine ⟨q1, fun q => ⟨(q2 q).1, fun i2 a0 a1 => ?_⟩⟩
        rw [e4, if_neg (by omega)]; exact (q2 q).2 i2 a0 a1
    · refine S.aload_n (pc' := 64) dX12_sheet_63 rfl rfl rfl ?_
      refine S.getR (pc' := 67) dX12_sheet_64 rfl fX12_88 L_177 rf_177_43 ?_
      refine S.bipush (pc' := 69) dX12_sheet_67 rfl (by decide) ?_
      refine S.iload_n (pc' := 70) dX12_sheet_69 rfl rfl rfl ?_
      refine S.imul (pc' := 71) dX12_sheet_70 rfl ?_
      refine S.iload (pc' := 73) dX12_sheet_71 rfl rfl ?_
      refine S.iadd (pc' := 74) dX12_sheet_73 rfl ?_
      refine S.iconst (pc' := 75) dX12_sheet_74 rfl ?_
      refine S.iast (pc' := 76) dX12_sheet_75 rfl L_202 (by omega) (by omega) ?_
      refine S.iinc (pc' := 79) (LL' := [_, _, _, _, _]) dX12_sheet_76 rfl (by decide) rfl rfl rfl ?_
      refine S.goto (pc' := 56) dX12_sheet_79 (by decide) ?_
      refine ih _ _ (by omega) (by omega) (by omega) (fun a ha hb hc => by rw [fp_up_ne hc]; exact e1 a ha hb hc) (by rw [fp_up_ne (by decide)]; exact e2) (by rw [fp_up_ne (by decide)]; exact e3) (fun j => ?_)
      rw [fp_up_at]
      unfold fp_upf
      by_cases e : j = (40 * k9 + i).toNat
      · rw [if_pos e, if_pos (by omega)]
      · rw [if_neg e, e4 j]
        by_cases e9 : 40 * k9 ≤ j ∧ (j : Int) < 40 * k9 + i
        · rw [if_pos e9, if_pos (by omega)]
        · rw [if_neg e9, if_neg (by omega)]
theorem mm_sheet {k9 lane n : Int} (hc : MS M tp fl g pg vs nt im sh tn) (h1 : fp_rng k9) (h2 : fp_rng lane) (h3 : fp_rng n) : fp_Ok l G 1 kX12_sheet [rV G 177, iV k9, iV lane, iV n] M (qI fun z N => z = (A_sheet sh k9 lane n).1 ∧ MS N tp fl g pg vs nt im (A_sheet sh k9 lane n).2 tn ∧ frD M N) := by
  refine fp_Ok.of (r := 1) rfl (Nat.le_of_ble_eq_true rfl) rfl ?_
  have h1' := h1
  have h2' := h2
  have h3' := h3
  unfold fp_rng at h1' h2' h3'
  unfold A_sheet
  by_cases hin : (0 ≤ k9 ∧ k9 ≤ 3) ∧ (0 ≤ lane ∧ lane ≤ 2) ∧ n ≤ 40
  · rw [if_neg (fun q => q hin)]
    by_cases hn0 : n < 0
    · rw [if_pos hn0]
      refine S.iload_n (pc' := 1) dX12_sheet_0 rfl rfl rfl ?_
      refine S.i2l (pc' := 2) dX12_sheet_1 rfl (by unfold fp_rng; omega) ?_
      refine S.lconst (pc' := 3) (w := 0) dX12_sheet_2 rfl rfl ?_
      refine S.ldc2 (pc' := 6) (v := 3) dX12_sheet_3 rfl lX12_196 (by decide) ?_
      refine S.callSi (pc' := 9) dX12_sheet_6 rfl cX12_94 (bk_X12_in) rfl (by decide) rfl (Nat.le_of_ble_eq_true rfl) (fun z6 M6 q6 => ?_)
      obtain ⟨b6, rfl⟩ := q6
      refine S.if_eq (pc' := 12) (tgt := 30) dX12_sheet_9 (by decide) rfl (by unfold fp_rng; omega) (fun h9 => ?_) (fun h9 => ?_)
      · exfalso; omega
      · refine S.iload_n (pc' := 13) dX12_sheet_12 rfl rfl rfl ?_
        refine S.i2l (pc' := 14) dX12_sheet_13 rfl (by unfold fp_rng; omega) ?_
        refine S.lconst (pc' := 15) (w := 0) dX12_sheet_14 rfl rfl ?_
        refine S.ldc2 (pc' := 18) (v := 2) dX12_sheet_15 rfl lX12_271 (by decide) ?_
        refine S.callSi (pc' := 21) dX12_sheet_18 rfl cX12_94 (bk_X12_in) rfl (by decide) rfl (Nat.le_of_ble_eq_true rfl) (fun z18 M18 q18 => ?_)
        obtain ⟨b18, rfl⟩ := q18
        refine S.if_eq (pc' := 24) (tgt := 30) dX12_sheet_21 (by decide) rfl (by unfold fp_rng; omega) (fun h21 => ?_) (fun h21 => ?_)
        · exfalso; omega
        · refine S.iload_n (pc' := 25) dX12_sheet_24 rfl rfl rfl ?_
          refine S.bipush (pc' := 27) dX12_sheet_25 rfl (by decide) ?_
          refine S.icmp_le (pc' := 30) (tgt := 32) dX12_sheet_27 (by decide) rfl h3 (by unfold fp_rng; omega) (fun h27 => ?_) (fun h27 => ?_)
          · refine S.iload_n (pc' := 33) dX12_sheet_32 rfl rfl rfl ?_
            refine S.if_ge (pc' := 36) (tgt := 39) dX12_sheet_33 (by decide) rfl h3 (fun h33 => ?_) (fun h33 => ?_)
            · exfalso; omega
            · refine S.bipush (pc' := 38) dX12_sheet_36 rfl (by decide) ?_
              refine S.iret dX12_sheet_38 rfl ?_
              exact ⟨rfl, hc, frD.refl _⟩
          · exfalso; omega
    · rw [if_neg hn0]
      refine S.iload_n (pc' := 1) dX12_sheet_0 rfl rfl rfl ?_
      refine S.i2l (pc' := 2) dX12_sheet_1 rfl (by unfold fp_rng; omega) ?_
      refine S.lconst (pc' := 3) (w := 0) dX12_sheet_2 rfl rfl ?_
      refine S.ldc2 (pc' := 6) (v := 3) dX12_sheet_3 rfl lX12_196 (by decide) ?_
      refine S.callSi (pc' := 9) dX12_sheet_6 rfl cX12_94 (bk_X12_in) rfl (by decide) rfl (Nat.le_of_ble_eq_true rfl) (fun z6 M6 q6 => ?_)
      obtain ⟨b6, rfl⟩ := q6
      refine S.if_eq (pc' := 12) (tgt := 30) dX12_sheet_9 (by decide) rfl (by unfold fp_rng; omega) (fun h9 => ?_) (fun h9 => ?_)
      · exfalso; omega
      · refine S.iload_n (pc' := 13) dX12_sheet_12 rfl rfl rfl ?_
        refine S.i2l (pc' := 14) dX12_sheet_13 rfl (by unfold fp_rng; omega) ?_
        refine S.lconst (pc' := 15) (w := 0) dX12_sheet_14 rfl rfl ?_
        refine S.ldc2 (pc' := 18) (v := 2) dX12_sheet_15 rfl lX12_271 (by decide) ?_
        refine S.callSi (pc' := 21) dX12_sheet_18 rfl cX12_94 (bk_X12_in) rfl (by decide) rfl (Nat.le_of_ble_eq_true rfl) (fun z18 M18 q18 => ?_)
        obtain ⟨b18, rfl⟩ := q18
        refine S.if_eq (pc' := 24) (tgt := 30) dX12_sheet_21 (by decide) rfl (by unfold fp_rng; omega) (fun h21 => ?_) (fun h21 => ?_)
        · exfalso; omega
        · refine S.iload_n (pc' := 25) dX12_sheet_24 rfl rfl rfl ?_
          refine S.bipush (pc' := 27) dX12_sheet_25 rfl (by decide) ?_
          refine S.icmp_le (pc' := 30) (tgt := 32) dX12_sheet_27 (by decide) rfl h3 (by unfold fp_rng; omega) (fun h27 => ?_) (fun h27 => ?_)
          · refine S.iload_n (pc' := 33) dX12_sheet_32 rfl rfl rfl ?_
            refine S.if_ge (pc' := 36) (tgt := 39) dX12_sheet_33 (by decide) rfl h3 (fun h33 => ?_) (fun h33 => ?_)
            · refine S.aload_n (pc' := 40) dX12_sheet_39 rfl rfl rfl ?_
              refine S.getR (pc' := 43) dX12_sheet_40 rfl fX12_82 L_177 rf_177_41 ?_
              refine S.iload_n (pc' := 44) dX12_sheet_43 rfl rfl rfl ?_
              refine S.iload_n (pc' := 45) dX12_sheet_44 rfl rfl rfl ?_
              refine S.iast (pc' := 46) dX12_sheet_45 rfl L_200 (by omega) (by omega) ?_
              refine S.aload_n (pc' := 47) dX12_sheet_46 rfl rfl rfl ?_
              refine S.getR (pc' := 50) dX12_sheet_47 rfl fX12_85 L_177 rf_177_42 ?_
              refine S.iload_n (pc' := 51) dX12_sheet_50 rfl rfl rfl ?_
              refine S.iload_n (pc' := 52) dX12_sheet_51 rfl rfl rfl ?_
              refine S.iast (pc' := 53) dX12_sheet_52 rfl L_201 (by omega) (by omega) ?_
              refine S.iconst (pc' := 54) dX12_sheet_53 rfl ?_
              refine S.istore (pc' := 56) (LL' := [_, _, _, _, _]) dX12_sheet_54 rfl (by decide) rfl rfl ?_
              refine msheet_loop hin.1 hc 41 0 _ (by omega) (by omega) (by omega) ?_ ?_ ?_ ?_
              · intro a ha hb hc; rw [fp_up_ne hb, fp_up_ne ha]
              · rw [fp_up_ne (by decide), fp_up_at]
              · rw [fp_up_at, fp_up_ne (by decide)]
              · intro j; rw [if_neg (by omega), fp_up_ne (by decide), fp_up_ne (by decide)]
            · exfalso; omega
          · exfalso; omega
  · rw [if_pos hin]
    refine S.iload_n (pc' := 1) dX12_sheet_0 rfl rfl rfl ?_
    refine S.i2l (pc' := 2) dX12_sheet_1 rfl (by unfold fp_rng; omega) ?_
    refine S.lconst (pc' := 3) (w := 0) dX12_sheet_2 rfl rfl ?_
    refine S.ldc2 (pc' := 6) (v := 3) dX12_sheet_3 rfl lX12_196 (by decide) ?_
    refine S.callSi (pc' := 9) dX12_sheet_6 rfl cX12_94 (bk_X12_in) rfl (by decide) rfl (Nat.le_of_ble_eq_true rfl) (fun z6 M6 q6 => ?_)
    obtain ⟨b6, rfl⟩ := q6
    refine S.if_eq (pc' := 12) (tgt := 30) dX12_sheet_9 (by decide) rfl (by unfold fp_rng; omega) (fun h9 => ?_) (fun h9 => ?_)
    · refine S.iconst (pc' := 31) dX12_sheet_30 rfl ?_
      refine S.iret dX12_sheet_31 rfl ?_
      exact ⟨rfl, hc, frD.refl _⟩
    · refine S.iload_n (pc' := 13) dX12_sheet_12 rfl rfl rfl ?_
      refine S.i2l (pc' := 14) dX12_sheet_13 rfl (by unfold fp_rng; omega) ?_
      refine S.lconst (pc' := 15) (w := 0) dX12_sheet_14 rfl rfl ?_
      refine S.ldc2 (pc' := 18) (v := 2) dX12_sheet_15 rfl lX12_271 (by decide) ?_
      refine S.callSi (pc' := 21) dX12_sheet_18 rfl cX12_94 (bk_X12_in) rfl (by decide) rfl (Nat.le_of_ble_eq_true rfl) (fun z18 M18 q18 => ?_)
      obtain ⟨b18, rfl⟩ := q18
      refine S.if_eq (pc' := 24) (tgt := 30) dX12_sheet_21 (by decide) rfl (by unfold fp_rng; omega) (fun h21 => ?_) (fun h21 => ?_)
      · refine S.iconst (pc' := 31) dX12_sheet_30 rfl ?_
        refine S.iret dX12_sheet_31 rfl ?_
        exact ⟨rfl, hc, frD.refl _⟩
      · refine S.iload_n (pc' := 25) dX12_sheet_24 rfl rfl rfl ?_
        refine S.bipush (pc' := 27) dX12_sheet_25 rfl (by decide) ?_
        refine S.icmp_le (pc' := 30) (tgt := 32) dX12_sheet_27 (by decide) rfl h3 (by unfold fp_rng; omega) (fun h27 => ?_) (fun h27 => ?_)
        · exfalso; omega
        · refine S.iconst (pc' := 31) dX12_sheet_30 rfl ?_
          refine S.iret dX12_sheet_31 rfl ?_
          exact ⟨rfl, hc, frD.refl _⟩
theorem mm_lay {k9 i v : Int} (hc : MS M tp fl g pg vs nt im sh tn) (ho : OK g pg vs nt im sh) (h1 : fp_rng k9) (h2 : fp_rng i) (h3 : fp_rng v) : fp_Ok l G 1 kX12_lay [rV G 177, iV k9, iV i, iV v] M (qI fun z N => z = (A_lay sh k9 i v).1 ∧ MS N tp fl g pg vs nt im (A_lay sh k9 i v).2 tn ∧ frD M N) := by
  have hs := hc.2.2.2.2.2.2.1
  have hso := ho.2.2.2.2.2
  have h1' := h1
  have h2' := h2
  unfold fp_rng at h1' h2'
  refine fp_Ok.of (r := 1) rfl (Nat.le_of_ble_eq_true rfl) rfl ?_
  unfold A_lay
  by_cases hin : 0 ≤ k9 ∧ k9 ≤ 3
  · rw [if_neg (fun q => q hin)]
    obtain ⟨k2, hk⟩ := hs k9 hin.1 (by omega)
    have hko := hso k9 hin.1 (by omega)
    by_cases hn0 : (sh k9).1 = -4
    · rw [if_pos hn0]
      refine S.iload_n (pc' := 1) dX12_lay_0 rfl rfl rfl ?_
      refine S.i2l (pc' := 2) dX12_lay_1 rfl (by unfold fp_rng; omega) ?_
      refine S.lconst (pc' := 3) (w := 0) dX12_lay_2 rfl rfl ?_
      refine S.ldc2 (pc' := 6) (v := 3) dX12_lay_3 rfl lX12_196 (by decide) ?_
      refine S.callSi (pc' := 9) dX12_lay_6 rfl cX12_94 (bk_X12_in) rfl (by decide) rfl (Nat.le_of_ble_eq_true rfl) (fun z6 M6 q6 => ?_)
      obtain ⟨b6, rfl⟩ := q6
      refine S.if_ne (pc' := 12) (tgt := 14) dX12_lay_9 (by decide) rfl (by unfold fp_rng; omega) (fun h9 => ?_) (fun h9 => ?_)
      · refine S.aload_n (pc' := 15) dX12_lay_14 rfl rfl rfl ?_
        refine S.getR (pc' := 18) dX12_lay_15 rfl fX12_82 L_177 rf_177_41 ?_
        refine S.iload_n (pc' := 19) dX12_lay_18 rfl rfl rfl ?_
        refine S.iald (pc' := 20) dX12_lay_19 rfl L_200 (by omega) (by omega) ?_
        refine S.bipush (pc' := 22) dX12_lay_20 rfl (by decide) ?_
        refine S.icmp_ne (pc' := 25) (tgt := 28) dX12_lay_22 (by decide) rfl (by unfold fp_rng; omega) (by unfold fp_rng; omega) (fun h22 => ?_) (fun h22 => ?_)
        · exfalso; omega
        · refine S.bipush (pc' := 27) dX12_lay_25 rfl (by decide) ?_
          refine S.iret dX12_lay_27 rfl ?_
          exact ⟨rfl, hc, frD.refl _⟩
      · exfalso; omega
    · rw [if_neg hn0]
      have hko2 : (0 ≤ (sh k9).1 ∧ (sh k9).1 ≤ 2) ∧ (0 ≤ (sh k9).2.1 ∧ (sh k9).2.1 ≤ 40) := by
        rcases hko with q | q
        · exact absurd q hn0
        · exact ⟨q.1, q.2.1⟩
      obtain ⟨k3, k4⟩ := hk hn0
      by_cases hi : 0 ≤ i ∧ i < (sh k9).2.1
      · rw [if_neg (fun q => q hi)]
        have hfin : ∀ w : Int, w = aTr (sh k9).1 v → (1 : Int) = 1 ∧ MS (fp_up M 202 (40 * k9 + i).toNat w) tp fl g pg vs nt im (fp_ui sh k9 ((sh k9).1, (sh k9).2.1, fp_ui (sh k9).2.2 i (aTr (sh k9).1 v))) tn ∧ frD M (fp_up M 202 (40 * k9 + i).toNat w) := by
          intro w hw
          refine ⟨rfl, hc.she (fun c hc => fp_up_ne (by omega)) ?_, fun c hc => fp_up_ne (by omega)⟩
          intro j j0 j1
          rw [fp_up_ne (by decide), fp_up_ne (by decide), fp_up_at]
          by_cases e : j = k9
          · subst e
            rw [fp_ui_at]
            refine ⟨k2, fun _ => ⟨k3, fun i2 a0 a1 => ?_⟩⟩
            dsimp only
            unfold fp_upf fp_ui
            by_cases e2 : i2 = i
            · subst e2; rw [if_pos rfl, if_pos rfl]; exact hw
            · rw [if_neg (by omega), if_neg e2]; exact k4 i2 a0 a1
          · rw [fp_ui_ne e]
            obtain ⟨q1, q2⟩ := hs j j0 j1
            refine ⟨q1, fun q => ⟨(q2 q).1, fun i2 a0 a1 => ?_⟩⟩
            rw [fp_upf_ne (by omega)]; exact (q2 q).2 i2 a0 a1
        unfold aTr at hfin
        refine S.iload_n (pc' := 1) dX12_lay_0 rfl rfl rfl ?_
        refine S.i2l (pc' := 2) dX12_lay_1 rfl (by unfold fp_rng; omega) ?_
        refine S.lconst (pc' := 3) (w := 0) dX12_lay_2 rfl rfl ?_
        refine S.ldc2 (pc' := 6) (v := 3) dX12_lay_3 rfl lX12_196 (by decide) ?_
        refine S.callSi (pc' := 9) dX12_lay_6 rfl cX12_94 (bk_X12_in) rfl (by decide) rfl (Nat.le_of_ble_eq_true rfl) (fun z6 M6 q6 => ?_)
        obtain ⟨b6, rfl⟩ := q6
        refine S.if_ne (pc' := 12) (tgt := 14) dX12_lay_9 (by decide) rfl (by unfold fp_rng; omega) (fun h9 => ?_) (fun h9 => ?_)
        · refine S.aload_n (pc' := 15) dX12_lay_14 rfl rfl rfl ?_
          refine S.getR (pc' := 18) dX12_lay_15 rfl fX12_82 L_177 rf_177_41 ?_
          refine S.iload_n (pc' := 19) dX12_lay_18 rfl rfl rfl ?_
          refine S.iald (pc' := 20) dX12_lay_19 rfl L_200 (by omega) (by omega) ?_
          refine S.bipush (pc' := 22) dX12_lay_20 rfl (by decide) ?_
          refine S.icmp_ne (pc' := 25) (tgt := 28) dX12_lay_22 (by decide) rfl (by unfold fp_rng; omega) (by unfold fp_rng; omega) (fun h22 => ?_) (fun h22 => ?_)
          · refine S.iload_n (pc' := 29) dX12_lay_28 rfl rfl rfl ?_
            refine S.i2l (pc' := 30) dX12_lay_29 rfl (by unfold fp_rng; omega) ?_
            refine S.lconst (pc' := 31) (w := 0) dX12_lay_30 rfl rfl ?_
            refine S.aload_n (pc' := 32) dX12_lay_31 rfl rfl rfl ?_
            refine S.getR (pc' := 35) dX12_lay_32 rfl fX12_85 L_177 rf_177_42 ?_
            refine S.iload_n (pc' := 36) dX12_lay_35 rfl rfl rfl ?_
            refine S.iald (pc' := 37) dX12_lay_36 rfl L_201 (by omega) (by omega) ?_
            refine S.iconst (pc' := 38) dX12_lay_37 rfl ?_
            refine S.isub (pc' := 39) dX12_lay_38 rfl ?_
            refine S.i2l (pc' := 40) dX12_lay_39 rfl (by unfold fp_rng; omega) ?_
            refine S.callSi (pc' := 43) dX12_lay_40 rfl cX12_94 (bk_X12_in) rfl (by decide) rfl (Nat.le_of_ble_eq_true rfl) (fun z40 M40 q40 => ?_)
            obtain ⟨b40, rfl⟩ := q40
            refine S.if_ne (pc' := 46) (tgt := 49) dX12_lay_43 (by decide) rfl (by unfold fp_rng; omega) (fun h43 => ?_) (fun h43 => ?_)
            · refine S.aload_n (pc' := 50) dX12_lay_49 rfl rfl rfl ?_
              refine S.getR (pc' := 53) dX12_lay_50 rfl fX12_88 L_177 rf_177_43 ?_
              refine S.bipush (pc' := 55) dX12_lay_53 rfl (by decide) ?_
              refine S.iload_n (pc' := 56) dX12_lay_55 rfl rfl rfl ?_
              refine S.imul (pc' := 57) dX12_lay_56 rfl ?_
              refine S.iload_n (pc' := 58) dX12_lay_57 rfl rfl rfl ?_
              refine S.iadd (pc' := 59) dX12_lay_58 rfl ?_
              refine S.aload_n (pc' := 60) dX12_lay_59 rfl rfl rfl ?_
              refine S.getR (pc' := 63) dX12_lay_60 rfl fX12_82 L_177 rf_177_41 ?_
              refine S.iload_n (pc' := 64) dX12_lay_63 rfl rfl rfl ?_
              refine S.iald (pc' := 65) dX12_lay_64 rfl L_200 (by omega) (by omega) ?_
              refine S.if_ne (pc' := 68) (tgt := 78) dX12_lay_65 (by decide) rfl (by unfold fp_rng; omega) (fun h65 => ?_) (fun h65 => ?_)
              · refine S.aload_n (pc' := 79) dX12_lay_78 rfl rfl rfl ?_
                refine S.getR (pc' := 82) dX12_lay_79 rfl fX12_82 L_177 rf_177_41 ?_
                refine S.iload_n (pc' := 83) dX12_lay_82 rfl rfl rfl ?_
                refine S.iald (pc' := 84) dX12_lay_83 rfl L_200 (by omega) (by omega) ?_
                refine S.iconst (pc' := 85) dX12_lay_84 rfl ?_
                refine S.icmp_ne (pc' := 88) (tgt := 98) dX12_lay_85 (by decide) rfl (by unfold fp_rng; omega) (by unfold fp_rng; omega) (fun h85 => ?_) (fun h85 => ?_)
                · refine S.iload_n (pc' := 99) dX12_lay_98 rfl rfl rfl ?_
                  refine S.iast (pc' := 100) dX12_lay_99 rfl L_202 (by omega) (by omega) ?_
                  refine S.iconst (pc' := 101) dX12_lay_100 rfl ?_
                  refine S.iret dX12_lay_101 rfl ?_
                  refine hfin _ ?_
                  first | rw [if_pos (by omega)] | rw [if_neg (by omega), if_pos (by omega)] | rw [if_neg (by omega), if_neg (by omega)]
                · refine S.iload_n (pc' := 89) dX12_lay_88 rfl rfl rfl ?_
                  refine S.bipush (pc' := 91) dX12_lay_89 rfl (by decide) ?_
                  refine S.ishl (pc' := 92) dX12_lay_91 rfl (fp_shl16 v) ?_
                  refine S.bipush (pc' := 94) dX12_lay_92 rfl (by decide) ?_
                  refine S.ishr (pc' := 95) dX12_lay_94 rfl (fp_shr16 v) ?_
                  refine S.goto (pc' := 99) dX12_lay_95 (by decide) ?_
                  refine S.iast (pc' := 100) dX12_lay_99 rfl L_202 (by omega) (by omega) ?_
                  refine S.iconst (pc' := 101) dX12_lay_100 rfl ?_
                  refine S.iret dX12_lay_101 rfl ?_
                  refine hfin _ ?_
                  first | rw [if_pos (by omega)] | rw [if_neg (by omega), if_pos (by omega)] | rw [if_neg (by omega), if_neg (by omega)]
              · refine S.iload_n (pc' := 69) dX12_lay_68 rfl rfl rfl ?_
                refine S.bipush (pc' := 71) dX12_lay_69 rfl (by decide) ?_
                refine S.ishl (pc' := 72) dX12_lay_71 rfl (fp_shl24 v) ?_
                refine S.bipush (pc' := 74) dX12_lay_72 rfl (by decide) ?_
                refine S.ishr (pc' := 75) dX12_lay_74 rfl (fp_shr24 v) ?_
                refine S.goto (pc' := 99) dX12_lay_75 (by decide) ?_
                refine S.iast (pc' := 100) dX12_lay_99 rfl L_202 (by omega) (by omega) ?_
                refine S.iconst (pc' := 101) dX12_lay_100 rfl ?_
                refine S.iret dX12_lay_101 rfl ?_
                refine hfin _ ?_
                first | rw [if_pos (by omega)] | rw [if_neg (by omega), if_pos (by omega)] | rw [if_neg (by omega), if_neg (by omega)]
            · exfalso; omega
          · exfalso; omega
        · exfalso; omega
      · rw [if_pos hi]
        refine S.iload_n (pc' := 1) dX12_lay_0 rfl rfl rfl ?_
        refine S.i2l (pc' := 2) dX12_lay_1 rfl (by unfold fp_rng; omega) ?_
        refine S.lconst (pc' := 3) (w := 0) dX12_lay_2 rfl rfl ?_
        refine S.ldc2 (pc' := 6) (v := 3) dX12_lay_3 rfl lX12_196 (by decide) ?_
        refine S.callSi (pc' := 9) dX12_lay_6 rfl cX12_94 (bk_X12_in) rfl (by decide) rfl (Nat.le_of_ble_eq_true rfl) (fun z6 M6 q6 => ?_)
        obtain ⟨b6, rfl⟩ := q6
        refine S.if_ne (pc' := 12) (tgt := 14) dX12_lay_9 (by decide) rfl (by unfold fp_rng; omega) (fun h9 => ?_) (fun h9 => ?_)
        · refine S.aload_n (pc' := 15) dX12_lay_14 rfl rfl rfl ?_
          refine S.getR (pc' := 18) dX12_lay_15 rfl fX12_82 L_177 rf_177_41 ?_
          refine S.iload_n (pc' := 19) dX12_lay_18 rfl rfl rfl ?_
          refine S.iald (pc' := 20) dX12_lay_19 rfl L_200 (by omega) (by omega) ?_
          refine S.bipush (pc' := 22) dX12_lay_20 rfl (by decide) ?_
          refine S.icmp_ne (pc' := 25) (tgt := 28) dX12_lay_22 (by decide) rfl (by unfold fp_rng; omega) (by unfold fp_rng; omega) (fun h22 => ?_) (fun h22 => ?_)
          · refine S.iload_n (pc' := 29) dX12_lay_28 rfl rfl rfl ?_
            refine S.i2l (pc' := 30) dX12_lay_29 rfl (by unfold fp_rng; omega) ?_
            refine S.lconst (pc' := 31) (w := 0) dX12_lay_30 rfl rfl ?_
            refine S.aload_n (pc' := 32) dX12_lay_31 rfl rfl rfl ?_
            refine S.getR (pc' := 35) dX12_lay_32 rfl fX12_85 L_177 rf_177_42 ?_
            refine S.iload_n (pc' := 36) dX12_lay_35 rfl rfl rfl ?_
            refine S.iald (pc' := 37) dX12_lay_36 rfl L_201 (by omega) (by omega) ?_
            refine S.iconst (pc' := 38) dX12_lay_37 rfl ?_
            refine S.isub (pc' := 39) dX12_lay_38 rfl ?_
            refine S.i2l (pc' := 40) dX12_lay_39 rfl (by unfold fp_rng; omega) ?_
            refine S.callSi (pc' := 43) dX12_lay_40 rfl cX12_94 (bk_X12_in) rfl (by decide) rfl (Nat.le_of_ble_eq_true rfl) (fun z40 M40 q40 => ?_)
            obtain ⟨b40, rfl⟩ := q40
            refine S.if_ne (pc' := 46) (tgt := 49) dX12_lay_43 (by decide) rfl (by unfold fp_rng; omega) (fun h43 => ?_) (fun h43 => ?_)
            · exfalso; omega
            · refine S.bipush (pc' := 48) dX12_lay_46 rfl (by decide) ?_
              refine S.iret dX12_lay_48 rfl ?_
              exact ⟨rfl, hc, frD.refl _⟩
          · exfalso; omega
        · exfalso; omega
  · rw [if_pos hin]
    refine S.iload_n (pc' := 1) dX12_lay_0 rfl rfl rfl ?_
    refine S.i2l (pc' := 2) dX12_lay_1 rfl (by unfold fp_rng; omega) ?_
    refine S.lconst (pc' := 3) (w := 0) dX12_lay_2 rfl rfl ?_
    refine S.ldc2 (pc' := 6) (v := 3) dX12_lay_3 rfl lX12_196 (by decide) ?_
    refine S.callSi (pc' := 9) dX12_lay_6 rfl cX12_94 (bk_X12_in) rfl (by decide) rfl (Nat.le_of_ble_eq_true rfl) (fun z6 M6 q6 => ?_)
    obtain ⟨b6, rfl⟩ := q6
    refine S.if_ne (pc' := 12) (tgt := 14) dX12_lay_9 (by decide) rfl (by unfold fp_rng; omega) (fun h9 => ?_) (fun h9 => ?_)
    · exfalso; omega
    · refine S.iconst (pc' := 13) dX12_lay_12 rfl ?_
      refine S.iret dX12_lay_13 rfl ?_
      exact ⟨rfl, hc, frD.refl _⟩
end SHE
end
section
/-! IMAGES: keep, back -/
def A_keep (im : aIm) (k : Int) (x : aPg × List aVt × List Int) : Int × aIm := if ¬ (0 ≤ k ∧ k ≤ 1) then (-1, im) else (if (im k).isSome then 1 else 0, fp_ui im k (some x))
def A_back (im : aIm) (k : Int) (x : aPg × List aVt × List Int) : Int × aPg × List aVt × List Int := if ¬ (0 ≤ k ∧ k ≤ 1) then (-1, x) else match im k with
  | none => (-2, x)
  | some y => ((y.2.1.length : Int), y)
theorem A_keep_ok {g : aGd} {im : aIm} {k : Int} {x : aPg × List aVt × List Int} (h : imOk g im) (hx : pgOk g x.1 ∧ vsOk g x.2.1 ∧ ntOk g x.2.2) : imOk g (A_keep im k x).2 := by
  unfold A_keep
  split
  · exact h
  · intro j y e
    dsimp only at e
    by_cases q : j = k
    · subst q; rw [fp_ui_at] at e; rw [← Option.some.inj e]; exact hx
    · rw [fp_ui_ne q] at e; exact h j y e
theorem A_back_ok {g : aGd} {im : aIm} {k : Int} {x : aPg × List aVt × List Int} (h : imOk g im) (hx : pgOk g x.1 ∧ vsOk g x.2.1 ∧ ntOk g x.2.2) : pgOk g (A_back im k x).2.1 ∧ vsOk g (A_back im k x).2.2.1 ∧ ntOk g (A_back im k x).2.2.2 := by
  unfold A_back
  split
  · exact hx
  · cases e : im k with
    | none => exact hx
    | some y => exact h k y e
section IMA
variable {l : Launch} {G : fp_WG} {M N : fp_Mem} {tp tp' : List Int} {fl fl' : Int} {g : aGd} {pg pg' : aPg} {vs vs' : List aVt} {nt nt' : List Int} {im im' : aIm} {sh sh' : aSh} {tn tn' : Int} {k k2 : Nat}
theorem rk_X10_copyFrom (hk : fp_isvs k) (hk2 : fp_isvs k2) (hne : k2 + 4 < k ∨ k + 4 < k2) (hv : vsIs M k2 vs := by assumption) : fp_Ok l G 1 kX10_copyFrom [rV G k, rV G k2] M (qV fun N => vsIs N k vs ∧ ∀ a, (a < k ∨ k + 4 < a) → N a = M a) := by
  obtain ⟨v1, v2, v3⟩ := hv
  refine fp_Ok.of (r := 0) rfl (Nat.le_of_ble_eq_true rfl) rfl ?_
  refine S.aload_n (pc' := 1) dX10_copyFrom_0 rfl rfl rfl ?_
  refine S.aload_n (pc' := 2) dX10_copyFrom_1 rfl rfl rfl ?_
  refine S.getI (pc' := 5) dX10_copyFrom_2 rfl fX10_24 (vs_lay hk2) ?_
  refine S.putI (pc' := 8) dX10_copyFrom_5 rfl fX10_24 (vs_lay hk) ?_
  refine S.aload_n (pc' := 9) dX10_copyFrom_8 rfl rfl rfl ?_
  refine S.getR (pc' := 12) dX10_copyFrom_9 rfl fX10_9 (vs_lay hk2) (vs_r1 hk2) ?_
  refine S.iconst (pc' := 13) dX10_copyFrom_12 rfl ?_
  refine S.aload_n (pc' := 14) dX10_copyFrom_13 rfl rfl rfl ?_
  refine S.getR (pc' := 17) dX10_copyFrom_14 rfl fX10_9 (vs_lay hk) (vs_r1 hk) ?_
  refine S.iconst (pc' := 18) dX10_copyFrom_17 rfl ?_
  refine S.aload_n (pc' := 19) dX10_copyFrom_18 rfl rfl rfl ?_
  refine S.getR (pc' := 22) dX10_copyFrom_19 rfl fX10_9 (vs_lay hk) (vs_r1 hk) ?_
  refine S.alen (pc' := 23) dX10_copyFrom_22 rfl (vs_a1 hk) (by decide) rfl (by first | assumption | decide) ?_
  refine S.copyi (pc' := 26) dX10_copyFrom_23 rfl aX10_28 (vs_a1 hk2) (vs_a1 hk) (by decide) (by decide) (by omega) (by omega) (by omega) (by omega) (by omega) (by decide) (Nat.le_of_ble_eq_true rfl) ?_
  refine S.aload_n (pc' := 27) dX10_copyFrom_26 rfl rfl rfl ?_
  refine S.getR (pc' := 30) dX10_copyFrom_27 rfl fX10_15 (vs_lay hk2) (vs_r2 hk2) ?_
  refine S.iconst (pc' := 31) dX10_copyFrom_30 rfl ?_
  refine S.aload_n (pc' := 32) dX10_copyFrom_31 rfl rfl rfl ?_
  refine S.getR (pc' := 35) dX10_copyFrom_32 rfl fX10_15 (vs_lay hk) (vs_r2 hk) ?_
  refine S.iconst (pc' := 36) dX10_copyFrom_35 rfl ?_
  refine S.aload_n (pc' := 37) dX10_copyFrom_36 rfl rfl rfl ?_
  refine S.getR (pc' := 40) dX10_copyFrom_37 rfl fX10_15 (vs_lay hk) (vs_r2 hk) ?_
  refine S.alen (pc' := 41) dX10_copyFrom_40 rfl (vs_a2 hk) (by decide) rfl (by first | assumption | decide) ?_
  refine S.copyi (pc' := 44) dX10_copyFrom_41 rfl aX10_28 (vs_a2 hk2) (vs_a2 hk) (by decide) (by decide) (by omega) (by omega) (by omega) (by omega) (by omega) (by decide) (Nat.le_of_ble_eq_true rfl) ?_
  refine S.aload_n (pc' := 45) dX10_copyFrom_44 rfl rfl rfl ?_
  refine S.getR (pc' := 48) dX10_copyFrom_45 rfl fX10_18 (vs_lay hk2) (vs_r3 hk2) ?_
  refine S.iconst (pc' := 49) dX10_copyFrom_48 rfl ?_
  refine S.aload_n (pc' := 50) dX10_copyFrom_49 rfl rfl rfl ?_
  refine S.getR (pc' := 53) dX10_copyFrom_50 rfl fX10_18 (vs_lay hk) (vs_r3 hk) ?_
  refine S.iconst (pc' := 54) dX10_copyFrom_53 rfl ?_
  refine S.aload_n (pc' := 55) dX10_copyFrom_54 rfl rfl rfl ?_
  refine S.getR (pc' := 58) dX10_copyFrom_55 rfl fX10_18 (vs_lay hk) (vs_r3 hk) ?_
  refine S.alen (pc' := 59) dX10_copyFrom_58 rfl (vs_a3 hk) (by decide) rfl (by first | assumption | decide) ?_
  refine S.copyi (pc' := 62) dX10_copyFrom_59 rfl aX10_28 (vs_a3 hk2) (vs_a3 hk) (by decide) (by decide) (by omega) (by omega) (by omega) (by omega) (by omega) (by decide) (Nat.le_of_ble_eq_true rfl) ?_
  refine S.aload_n (pc' := 63) dX10_copyFrom_62 rfl rfl rfl ?_
  refine S.getR (pc' := 66) dX10_copyFrom_63 rfl fX10_21 (vs_lay hk2) (vs_r4 hk2) ?_
  refine S.iconst (pc' := 67) dX10_copyFrom_66 rfl ?_
  refine S.aload_n (pc' := 68) dX10_copyFrom_67 rfl rfl rfl ?_
  refine S.getR (pc' := 71) dX10_copyFrom_68 rfl fX10_21 (vs_lay hk) (vs_r4 hk) ?_
  refine S.iconst (pc' := 72) dX10_copyFrom_71 rfl ?_
  refine S.aload_n (pc' := 73) dX10_copyFrom_72 rfl rfl rfl ?_
  refine S.getR (pc' := 76) dX10_copyFrom_73 rfl fX10_21 (vs_lay hk) (vs_r4 hk) ?_
  refine S.alen (pc' := 77) dX10_copyFrom_76 rfl (vs_a4 hk) (by decide) rfl (by first | assumption | decide) ?_
  refine S.copyi (pc' := 80) dX10_copyFrom_77 rfl aX10_28 (vs_a4 hk2) (vs_a4 hk) (by decide) (by decide) (by omega) (by omega) (by omega) (by omega) (by omega) (by decide) (Nat.le_of_ble_eq_true rfl) ?_
  refine S.vret dX10_copyFrom_80 rfl ?_
  refine ⟨?_, fun a ha => by rw [fp_upM_ne (by omega), fp_upM_ne (by omega), fp_upM_ne (by omega), fp_upM_ne (by omega), fp_up_ne (by omega)]⟩
  refine ⟨?_, v2, fun i i0 i1 => ?_⟩
  · rw [fp_upM_ne (by omega), fp_upM_ne (by omega), fp_upM_ne (by omega), fp_upM_ne (by omega), fp_up_at, fp_upf_at, v1]
  · obtain ⟨u1, u2, u3, u4⟩ := v3 i i0 i1
    refine ⟨?_, ?_, ?_, ?_⟩
    · rw [fp_upM_ne (by omega), fp_upM_ne (by omega), fp_upM_ne (by omega), fp_upM_at, fp_up_ne (show k2 + 1 ≠ k by omega), ← u1]; simp [va_cpy]; intro; omega
    · rw [fp_upM_ne (by omega), fp_upM_ne (by omega), fp_upM_at, fp_upM_ne (show k2 + 2 ≠ k + 1 by omega), fp_up_ne (show k2 + 2 ≠ k by omega), ← u2]; simp [va_cpy]; intro; omega
    · rw [fp_upM_ne (by omega), fp_upM_at, fp_upM_ne (show k2 + 3 ≠ k + 2 by omega), fp_upM_ne (show k2 + 3 ≠ k + 1 by omega), fp_up_ne (show k2 + 3 ≠ k by omega), ← u3]; simp [va_cpy]; intro; omega
    · rw [fp_upM_at, fp_upM_ne (show k2 + 4 ≠ k + 3 by omega), fp_upM_ne (show k2 + 4 ≠ k + 2 by omega), fp_upM_ne (show k2 + 4 ≠ k + 1 by omega), fp_up_ne (show k2 + 4 ≠ k by omega), ← u4]; simp [va_cpy]; intro; omega
theorem rk_X3_copyFrom (hk : fp_isnt k) (hk2 : fp_isnt k2) (hne : k2 + 1 < k ∨ k + 1 < k2) (hv : ntIs M k2 nt := by assumption) : fp_Ok l G 1 kX3_copyFrom [rV G k, rV G k2] M (qV fun N => ntIs N k nt ∧ ∀ a, (a < k ∨ k + 1 < a) → N a = M a) := by
  obtain ⟨v1, v2, v3⟩ := hv
  refine fp_Ok.of (r := 0) rfl (Nat.le_of_ble_eq_true rfl) rfl ?_
  refine S.aload_n (pc' := 1) dX3_copyFrom_0 rfl rfl rfl ?_
  refine S.aload_n (pc' := 2) dX3_copyFrom_1 rfl rfl rfl ?_
  refine S.getI (pc' := 5) dX3_copyFrom_2 rfl fX3_15 (nt_lay hk2) ?_
  refine S.putI (pc' := 8) dX3_copyFrom_5 rfl fX3_15 (nt_lay hk) ?_
  refine S.aload_n (pc' := 9) dX3_copyFrom_8 rfl rfl rfl ?_
  refine S.getR (pc' := 12) dX3_copyFrom_9 rfl fX3_9 (nt_lay hk2) (nt_r1 hk2) ?_
  refine S.iconst (pc' := 13) dX3_copyFrom_12 rfl ?_
  refine S.aload_n (pc' := 14) dX3_copyFrom_13 rfl rfl rfl ?_
  refine S.getR (pc' := 17) dX3_copyFrom_14 rfl fX3_9 (nt_lay hk) (nt_r1 hk) ?_
  refine S.iconst (pc' := 18) dX3_copyFrom_17 rfl ?_
  refine S.aload_n (pc' := 19) dX3_copyFrom_18 rfl rfl rfl ?_
  refine S.getR (pc' := 22) dX3_copyFrom_19 rfl fX3_9 (nt_lay hk) (nt_r1 hk) ?_
  refine S.alen (pc' := 23) dX3_copyFrom_22 rfl (nt_a1 hk) (by decide) rfl (by first | assumption | decide) ?_
  refine S.copyi (pc' := 26) dX3_copyFrom_23 rfl aX3_19 (nt_a1 hk2) (nt_a1 hk) (by decide) (by decide) (by omega) (by omega) (by omega) (by omega) (by omega) (by decide) (Nat.le_of_ble_eq_true rfl) ?_
  refine S.vret dX3_copyFrom_26 rfl ?_
  refine ⟨?_, fun a ha => by rw [fp_upM_ne (by omega), fp_up_ne (by omega)]⟩
  refine ⟨?_, v2, fun i i0 i1 => ?_⟩
  · rw [fp_upM_ne (by omega), fp_up_at, fp_upf_at, v1]
  · have u1 := v3 i i0 i1
    rw [fp_upM_at, fp_up_ne (show k2 + 1 ≠ k by omega), ← u1]; simp [va_cpy]; intro; omega
theorem cc_keep {k9 : Int} (hc : CS M tp fl g pg vs nt im sh tn) (ho : OK g pg vs nt im sh) (h1 : fp_rng k9) : fp_Ok l G 2 kX11_keep [rV G 0, iV k9] M (qI fun z N => z = (A_keep im k9 (pg, vs, nt)).1 ∧ CS N tp fl g pg vs nt (A_keep im k9 (pg, vs, nt)).2 sh tn ∧ frC M N) := by
  have hcs := hc
  obtain ⟨hA, hG, hP, hV, hN, hI, hS⟩ := hc
  have hpo := ho.2.1
  have hg := ho.1
  refine fp_Ok.of (r := 2) rfl (Nat.le_of_ble_eq_true rfl) rfl ?_
  unfold A_keep
  by_cases hin : 0 ≤ k9 ∧ k9 ≤ 1
  · rw [if_neg (fun q => q hin)]
    have hk := hI k9 hin.1 (by omega)
    have hb : M (143 + 13 * k9.toNat) 0 = if (im k9).isSome then 1 else 0 := by
      rcases hk with ⟨q1, q2⟩ | ⟨x, q1, q2, -⟩
      · rw [q1, q2]; rfl
      · rw [q1, q2]; rfl
    have ho1 := img_o hin.1 (show k9 < 2 by omega)
    have hfin : ∀ N1 N2 N3 N4 : fp_Mem, N1 = fp_up M (143 + 13 * k9.toNat) 0 1 → clIs N2 (143 + 13 * k9.toNat + 1) g pg → frP N1 N2 (143 + 13 * k9.toNat + 1) → vsIs N3 (143 + 13 * k9.toNat + 6) vs → (∀ a, (a < 143 + 13 * k9.toNat + 6 ∨ 143 + 13 * k9.toNat + 6 + 4 < a) → N3 a = N2 a) → ntIs N4 (143 + 13 * k9.toNat + 11) nt → (∀ a, (a < 143 + 13 * k9.toNat + 11 ∨ 143 + 13 * k9.toNat + 11 + 1 < a) → N4 a = N3 a) → CS N4 tp fl g pg vs nt (fp_ui im k9 (some (pg, vs, nt))) sh tn ∧ frC M N4 := by
      intro N1 N2 N3 N4 e1 c2 f2 c3 f3 c4 f4
      have hk01 : k9.toNat = 0 ∨ k9.toNat = 1 := by omega
      have hall : ∀ a, (a < 143 + 13 * k9.toNat ∨ 143 + 13 * k9.toNat + 12 < a) → N4 a = M a := by
        intro a ha
        rw [f4 a (by omega), f3 a (by omega), f2 a (by omega), e1, fp_up_ne (by omega)]
      have e5 : N4 (143 + 13 * k9.toNat) 0 = 1 := by rw [f4 _ (by omega), f3 _ (by omega), f2 _ (by omega), e1, fp_up_at, fp_upf_at]
      refine ⟨⟨hA.kept (hall 0 (by omega)) (hall 1 (by omega)) (by rw [hall 2 (by omega)]), hG.kept (fun a q1 q2 => hall a (by omega)), hP.kept (fun a q1 q2 => hall a (by omega)), hV.kept (fun a q1 q2 => hall a (by omega)), hN.kept (fun a q1 q2 => hall a (by omega)), ?_, hS.kept (fun a q1 q2 => hall a (by omega))⟩, fun c hc => hall c (by omega)⟩
      intro j j0 j1
      by_cases e : j = k9
      · subst e
        rw [fp_ui_at]
        exact Or.inr ⟨_, rfl, e5, c2.kept (fun a q1 q2 => by rw [f4 a (by omega), f3 a (by omega)]), c3.kept (fun a q1 q2 => f4 a (by omega)), c4⟩
      · rw [fp_ui_ne e]
        have hj : j.toNat = 0 ∨ j.toNat = 1 := by omega
        rcases hI j j0 j1 with ⟨q1, q2⟩ | ⟨x, q1, q2, q3, q4, q5⟩
        · exact Or.inl ⟨q1, by rw [hall _ (by omega)]; exact q2⟩
        · exact Or.inr ⟨x, q1, by rw [hall _ (by omega)]; exact q2, q3.kept (fun a h0 h1 => hall a (by omega)), q4.kept (fun a h0 h1 => hall a (by omega)), q5.kept (fun a h0 h1 => hall a (by omega))⟩
    rw [← hb]
    have hb01 : M (143 + 13 * k9.toNat) 0 = 0 ∨ M (143 + 13 * k9.toNat) 0 = 1 := by rw [hb]; split <;> omega
    refine S.iload_n (pc' := 1) dX11_keep_0 rfl rfl rfl ?_
    refine S.iconst (pc' := 2) dX11_keep_1 rfl ?_
    refine S.callSi (pc' := 5) dX11_keep_2 rfl cX11_221 (bk_X11_isWithin) rfl (by decide) rfl (Nat.le_of_ble_eq_true rfl) (fun z2 M2 q2 => ?_)
    obtain ⟨b2, rfl⟩ := q2
    refine S.if_ne (pc' := 8) (tgt := 10) dX11_keep_5 (by decide) rfl (by unfold fp_rng; omega) (fun h5 => ?_) (fun h5 => ?_)
    · refine S.aload_n (pc' := 11) dX11_keep_10 rfl rfl rfl ?_
      refine S.getR (pc' := 14) dX11_keep_11 rfl fX11_78 L_0 rf_0_11 ?_
      refine S.iload_n (pc' := 15) dX11_keep_14 rfl rfl rfl ?_
      refine S.aald (pc' := 16) dX11_keep_15 rfl L_141 (by decide) (by decide) (by omega) (by omega) (img_r (by omega) (by omega)) ?_
      refine S.astore_n (pc' := 17) (LL' := [_, _, _, _]) dX11_keep_16 rfl (by decide) rfl rfl rfl ?_
      refine S.aload_n (pc' := 18) dX11_keep_17 rfl rfl rfl ?_
      refine S.getI (pc' := 21) dX11_keep_18 rfl fX11_122 (im_lay (img_o (by omega) (by omega))) ?_
      refine S.if_eq (pc' := 24) (tgt := 28) dX11_keep_21 (by decide) rfl (by unfold fp_rng; omega) (fun h21 => ?_) (fun h21 => ?_)
      · refine S.iconst (pc' := 29) dX11_keep_28 rfl ?_
        refine S.istore_n (pc' := 30) (LL' := [_, _, _, _]) dX11_keep_29 rfl (by decide) rfl rfl rfl ?_
        refine S.aload_n (pc' := 31) dX11_keep_30 rfl rfl rfl ?_
        refine S.iconst (pc' := 32) dX11_keep_31 rfl ?_
        refine S.putZ (pc' := 35) dX11_keep_32 rfl fX11_122 (im_lay (img_o (by omega) (by omega))) (by first | exact Or.inl rfl | exact Or.inr rfl | omega) ?_
        refine S.aload_n (pc' := 36) dX11_keep_35 rfl rfl rfl ?_
        refine S.getR (pc' := 39) dX11_keep_36 rfl fX11_313 (im_lay (img_o (by omega) (by omega))) (im_r1 (img_o (by omega) (by omega))) ?_
        refine S.aload_n (pc' := 40) dX11_keep_39 rfl rfl rfl ?_
        refine S.getR (pc' := 43) dX11_keep_40 rfl fX11_30 L_0 rf_0_4 ?_
        have hP1 : clIs (fp_up M (143 + 13 * k9.toNat) 0 1) 22 g pg := hP.kept (fun a q1 q2 => fp_up_ne (by omega))
        refine S.callVv (pc' := 46) dX11_keep_43 rfl cX11_112 (rk_X5_copyFrom (g := g) (pg := pg) (im_o1 ho1) pl22 (by omega)) rfl (pl_lay (im_o1 (img_o (by omega) (by omega)))) (by decide) rfl (Nat.le_of_ble_eq_true rfl) (fun M43 q43 => ?_)
        obtain ⟨c1, f1⟩ := q43
        have hV1 : vsIs M43 27 vs := hV.kept (fun a q1 q2 => by rw [f1 a (by omega), fp_up_ne (by omega)])
        refine S.aload_n (pc' := 47) dX11_keep_46 rfl rfl rfl ?_
        refine S.getR (pc' := 50) dX11_keep_47 rfl fX11_314 (im_lay (img_o (by omega) (by omega))) (im_r2 (img_o (by omega) (by omega))) ?_
        refine S.aload_n (pc' := 51) dX11_keep_50 rfl rfl rfl ?_
        refine S.getR (pc' := 54) dX11_keep_51 rfl fX11_37 L_0 rf_0_5 ?_
        refine S.callVv (pc' := 57) dX11_keep_54 rfl cX11_116 (rk_X10_copyFrom (vs := vs) (im_o2 ho1) vs27 (by omega)) rfl (vs_lay (im_o2 (img_o (by omega) (by omega)))) (by decide) rfl (Nat.le_of_ble_eq_true rfl) (fun M54 q54 => ?_)
        obtain ⟨c2, f2⟩ := q54
        have hN1 : ntIs M54 32 nt := hN.kept (fun a q1 q2 => by rw [f2 a (by omega), f1 a (by omega), fp_up_ne (by omega)])
        refine S.aload_n (pc' := 58) dX11_keep_57 rfl rfl rfl ?_
        refine S.getR (pc' := 61) dX11_keep_58 rfl fX11_315 (im_lay (img_o (by omega) (by omega))) (im_r3 (img_o (by omega) (by omega))) ?_
        refine S.aload_n (pc' := 62) dX11_keep_61 rfl rfl rfl ?_
        refine S.getR (pc' := 65) dX11_keep_62 rfl fX11_44 L_0 rf_0_6 ?_
        refine S.callVv (pc' := 68) dX11_keep_65 rfl cX11_316 (rk_X3_copyFrom (nt := nt) (im_o3 ho1) nt32 (by omega)) rfl (nt_lay (im_o3 (img_o (by omega) (by omega)))) (by decide) rfl (Nat.le_of_ble_eq_true rfl) (fun M65 q65 => ?_)
        obtain ⟨c3, f3⟩ := q65
        refine S.iload_n (pc' := 69) dX11_keep_68 rfl rfl rfl ?_
        refine S.iret dX11_keep_69 rfl ?_
        exact ⟨by omega, hfin _ _ _ _ rfl c1 f1 c2 f2 c3 f3⟩
      · refine S.iconst (pc' := 25) dX11_keep_24 rfl ?_
        refine S.goto (pc' := 29) dX11_keep_25 (by decide) ?_
        refine S.istore_n (pc' := 30) (LL' := [_, _, _, _]) dX11_keep_29 rfl (by decide) rfl rfl rfl ?_
        refine S.aload_n (pc' := 31) dX11_keep_30 rfl rfl rfl ?_
        refine S.iconst (pc' := 32) dX11_keep_31 rfl ?_
        refine S.putZ (pc' := 35) dX11_keep_32 rfl fX11_122 (im_lay (img_o (by omega) (by omega))) (by first | exact Or.inl rfl | exact Or.inr rfl | omega) ?_
        refine S.aload_n (pc' := 36) dX11_keep_35 rfl rfl rfl ?_
        refine S.getR (pc' := 39) dX11_keep_36 rfl fX11_313 (im_lay (img_o (by omega) (by omega))) (im_r1 (img_o (by omega) (by omega))) ?_
        refine S.aload_n (pc' := 40) dX11_keep_39 rfl rfl rfl ?_
        refine S.getR (pc' := 43) dX11_keep_40 rfl fX11_30 L_0 rf_0_4 ?_
        have hP1 : clIs (fp_up M (143 + 13 * k9.toNat) 0 1) 22 g pg := hP.kept (fun a q1 q2 => fp_up_ne (by omega))
        refine S.callVv (pc' := 46) dX11_keep_43 rfl cX11_112 (rk_X5_copyFrom (g := g) (pg := pg) (im_o1 ho1) pl22 (by omega)) rfl (pl_lay (im_o1 (img_o (by omega) (by omega)))) (by decide) rfl (Nat.le_of_ble_eq_true rfl) (fun M43 q43 => ?_)
        obtain ⟨c1, f1⟩ := q43
        have hV1 : vsIs M43 27 vs := hV.kept (fun a q1 q2 => by rw [f1 a (by omega), fp_up_ne (by omega)])
        refine S.aload_n (pc' := 47) dX11_keep_46 rfl rfl rfl ?_
        refine S.getR (pc' := 50) dX11_keep_47 rfl fX11_314 (im_lay (img_o (by omega) (by omega))) (im_r2 (img_o (by omega) (by omega))) ?_
        refine S.aload_n (pc' := 51) dX11_keep_50 rfl rfl rfl ?_
        refine S.getR (pc' := 54) dX11_keep_51 rfl fX11_37 L_0 rf_0_5 ?_
        refine S.callVv (pc' := 57) dX11_keep_54 rfl cX11_116 (rk_X10_copyFrom (vs := vs) (im_o2 ho1) vs27 (by omega)) rfl (vs_lay (im_o2 (img_o (by omega) (by omega)))) (by decide) rfl (Nat.le_of_ble_eq_true rfl) (fun M54 q54 => ?_)
        obtain ⟨c2, f2⟩ := q54
        have hN1 : ntIs M54 32 nt := hN.kept (fun a q1 q2 => by rw [f2 a (by omega), f1 a (by omega), fp_up_ne (by omega)])
        refine S.aload_n (pc' := 58) dX11_keep_57 rfl rfl rfl ?_
        refine S.getR (pc' := 61) dX11_keep_58 rfl fX11_315 (im_lay (img_o (by omega) (by omega))) (im_r3 (img_o (by omega) (by omega))) ?_
        refine S.aload_n (pc' := 62) dX11_keep_61 rfl rfl rfl ?_
        refine S.getR (pc' := 65) dX11_keep_62 rfl fX11_44 L_0 rf_0_6 ?_
        refine S.callVv (pc' := 68) dX11_keep_65 rfl cX11_316 (rk_X3_copyFrom (nt := nt) (im_o3 ho1) nt32 (by omega)) rfl (nt_lay (im_o3 (img_o (by omega) (by omega)))) (by decide) rfl (Nat.le_of_ble_eq_true rfl) (fun M65 q65 => ?_)
        obtain ⟨c3, f3⟩ := q65
        refine S.iload_n (pc' := 69) dX11_keep_68 rfl rfl rfl ?_
        refine S.iret dX11_keep_69 rfl ?_
        exact ⟨by omega, hfin _ _ _ _ rfl c1 f1 c2 f2 c3 f3⟩
    · exfalso; omega
  · rw [if_pos hin]
    refine S.iload_n (pc' := 1) dX11_keep_0 rfl rfl rfl ?_
    refine S.iconst (pc' := 2) dX11_keep_1 rfl ?_
    refine S.callSi (pc' := 5) dX11_keep_2 rfl cX11_221 (bk_X11_isWithin) rfl (by decide) rfl (Nat.le_of_ble_eq_true rfl) (fun z2 M2 q2 => ?_)
    obtain ⟨b2, rfl⟩ := q2
    refine S.if_ne (pc' := 8) (tgt := 10) dX11_keep_5 (by decide) rfl (by unfold fp_rng; omega) (fun h5 => ?_) (fun h5 => ?_)
    · exfalso; omega
    · refine S.iconst (pc' := 9) dX11_keep_8 rfl ?_
      refine S.iret dX11_keep_9 rfl ?_
      exact ⟨rfl, hcs, frC.refl _⟩
theorem cc_back {k9 : Int} (hc : CS M tp fl g pg vs nt im sh tn) (ho : OK g pg vs nt im sh) (h1 : fp_rng k9) : fp_Ok l G 2 kX11_back [rV G 0, iV k9] M (qI fun z N => z = (A_back im k9 (pg, vs, nt)).1 ∧ CS N tp fl g (A_back im k9 (pg, vs, nt)).2.1 (A_back im k9 (pg, vs, nt)).2.2.1 (A_back im k9 (pg, vs, nt)).2.2.2 im sh tn ∧ frC M N) := by
  have hcs := hc
  obtain ⟨hA, hG, hP, hV, hN, hI, hS⟩ := hc
  have hg := ho.1
  have hio := ho.2.2.2.2.1
  refine fp_Ok.of (r := 1) rfl (Nat.le_of_ble_eq_true rfl) rfl ?_
  unfold A_back
  by_cases hin : 0 ≤ k9 ∧ k9 ≤ 1
  · rw [if_neg (fun q => q hin)]
    have ho1 := img_o hin.1 (show k9 < 2 by omega)
    have hk01 : k9.toNat = 0 ∨ k9.toNat = 1 := by omega
    rcases hI k9 hin.1 (by omega) with ⟨y1, y2⟩ | ⟨x, y1, y2, y3, y4, y5⟩
    · rw [y1]
      refine S.iload_n (pc' := 1) dX11_back_0 rfl rfl rfl ?_
      refine S.iconst (pc' := 2) dX11_back_1 rfl ?_
      refine S.callSi (pc' := 5) dX11_back_2 rfl cX11_221 (bk_X11_isWithin) rfl (by decide) rfl (Nat.le_of_ble_eq_true rfl) (fun z2 M2 q2 => ?_)
      obtain ⟨b2, rfl⟩ := q2
      refine S.if_ne (pc' := 8) (tgt := 10) dX11_back_5 (by decide) rfl (by unfold fp_rng; omega) (fun h5 => ?_) (fun h5 => ?_)
      · refine S.aload_n (pc' := 11) dX11_back_10 rfl rfl rfl ?_
        refine S.getR (pc' := 14) dX11_back_11 rfl fX11_78 L_0 rf_0_11 ?_
        refine S.iload_n (pc' := 15) dX11_back_14 rfl rfl rfl ?_
        refine S.aald (pc' := 16) dX11_back_15 rfl L_141 (by decide) (by decide) (by omega) (by omega) (img_r (by omega) (by omega)) ?_
        refine S.astore_n (pc' := 17) (LL' := [_, _, _]) dX11_back_16 rfl (by decide) rfl rfl rfl ?_
        refine S.aload_n (pc' := 18) dX11_back_17 rfl rfl rfl ?_
        refine S.getI (pc' := 21) dX11_back_18 rfl fX11_122 (im_lay (img_o (by omega) (by omega))) ?_
        refine S.if_ne (pc' := 24) (tgt := 27) dX11_back_21 (by decide) rfl (by unfold fp_rng; omega) (fun h21 => ?_) (fun h21 => ?_)
        · exfalso; omega
        · refine S.bipush (pc' := 26) dX11_back_24 rfl (by decide) ?_
          refine S.iret dX11_back_26 rfl ?_
          exact ⟨rfl, hcs, frC.refl _⟩
      · exfalso; omega
    · rw [y1]
      have hpo := (hio k9 x y1).1
      refine S.iload_n (pc' := 1) dX11_back_0 rfl rfl rfl ?_
      refine S.iconst (pc' := 2) dX11_back_1 rfl ?_
      refine S.callSi (pc' := 5) dX11_back_2 rfl cX11_221 (bk_X11_isWithin) rfl (by decide) rfl (Nat.le_of_ble_eq_true rfl) (fun z2 M2 q2 => ?_)
      obtain ⟨b2, rfl⟩ := q2
      refine S.if_ne (pc' := 8) (tgt := 10) dX11_back_5 (by decide) rfl (by unfold fp_rng; omega) (fun h5 => ?_) (fun h5 => ?_)
      · refine S.aload_n (pc' := 11) dX11_back_10 rfl rfl rfl ?_
        refine S.getR (pc' := 14) dX11_back_11 rfl fX11_78 L_0 rf_0_11 ?_
        refine S.iload_n (pc' := 15) dX11_back_14 rfl rfl rfl ?_
        refine S.aald (pc' := 16) dX11_back_15 rfl L_141 (by decide) (by decide) (by omega) (by omega) (img_r (by omega) (by omega)) ?_
        refine S.astore_n (pc' := 17) (LL' := [_, _, _]) dX11_back_16 rfl (by decide) rfl rfl rfl ?_
        refine S.aload_n (pc' := 18) dX11_back_17 rfl rfl rfl ?_
        refine S.getI (pc' := 21) dX11_back_18 rfl fX11_122 (im_lay (img_o (by omega) (by omega))) ?_
        refine S.if_ne (pc' := 24) (tgt := 27) dX11_back_21 (by decide) rfl (by unfold fp_rng; omega) (fun h21 => ?_) (fun h21 => ?_)
        · refine S.aload_n (pc' := 28) dX11_back_27 rfl rfl rfl ?_
          refine S.getR (pc' := 31) dX11_back_28 rfl fX11_30 L_0 rf_0_4 ?_
          refine S.aload_n (pc' := 32) dX11_back_31 rfl rfl rfl ?_
          refine S.getR (pc' := 35) dX11_back_32 rfl fX11_313 (im_lay (img_o (by omega) (by omega))) (im_r1 (img_o (by omega) (by omega))) ?_
          refine S.callVv (pc' := 38) dX11_back_35 rfl cX11_112 (rk_X5_copyFrom (g := g) (pg := x.1) pl22 (im_o1 ho1) (by omega)) rfl (pl_lay pl22) (by decide) rfl (Nat.le_of_ble_eq_true rfl) (fun M35 q35 => ?_)
          obtain ⟨c1, f1⟩ := q35
          have hV1 : vsIs M35 (143 + 13 * k9.toNat + 6) x.2.1 := y4.kept (fun a q1 q2 => by rw [f1 a (by omega)])
          refine S.aload_n (pc' := 39) dX11_back_38 rfl rfl rfl ?_
          refine S.getR (pc' := 42) dX11_back_39 rfl fX11_37 L_0 rf_0_5 ?_
          refine S.aload_n (pc' := 43) dX11_back_42 rfl rfl rfl ?_
          refine S.getR (pc' := 46) dX11_back_43 rfl fX11_314 (im_lay (img_o (by omega) (by omega))) (im_r2 (img_o (by omega) (by omega))) ?_
          refine S.callVv (pc' := 49) dX11_back_46 rfl cX11_116 (rk_X10_copyFrom (vs := x.2.1) vs27 (im_o2 ho1) (by omega)) rfl (vs_lay vs27) (by decide) rfl (Nat.le_of_ble_eq_true rfl) (fun M46 q46 => ?_)
          obtain ⟨c2, f2⟩ := q46
          have hN1 : ntIs M46 (143 + 13 * k9.toNat + 11) x.2.2 := y5.kept (fun a q1 q2 => by rw [f2 a (by omega), f1 a (by omega)])
          refine S.aload_n (pc' := 50) dX11_back_49 rfl rfl rfl ?_
          refine S.getR (pc' := 53) dX11_back_50 rfl fX11_44 L_0 rf_0_6 ?_
          refine S.aload_n (pc' := 54) dX11_back_53 rfl rfl rfl ?_
          refine S.getR (pc' := 57) dX11_back_54 rfl fX11_315 (im_lay (img_o (by omega) (by omega))) (im_r3 (img_o (by omega) (by omega))) ?_
          refine S.callVv (pc' := 60) dX11_back_57 rfl cX11_316 (rk_X3_copyFrom (nt := x.2.2) nt32 (im_o3 ho1) (by omega)) rfl (nt_lay nt32) (by decide) rfl (Nat.le_of_ble_eq_true rfl) (fun M57 q57 => ?_)
          obtain ⟨c3, f3⟩ := q57
          refine S.aload_n (pc' := 61) dX11_back_60 rfl rfl rfl ?_
          refine S.getR (pc' := 64) dX11_back_61 rfl fX11_37 L_0 rf_0_5 ?_
          refine S.getI (pc' := 67) dX11_back_64 rfl fX11_205 (vs_lay vs27) ?_
          refine S.iret dX11_back_67 rfl ?_
          have c4 := c2.kept (fun a q1 q2 => f3 a (by omega))
          refine ⟨c4.1, ⟨hA.kept (by rw [f3 0 (by omega), f2 0 (by omega), f1 0 (by omega)]) (by rw [f3 1 (by omega), f2 1 (by omega), f1 1 (by omega)]) (by rw [f3 2 (by omega), f2 2 (by omega), f1 2 (by omega)]), hG.kept (fun a q1 q2 => by rw [f3 a (by omega), f2 a (by omega), f1 a (by omega)]), c1.kept (fun a q1 q2 => by rw [f3 a (by omega), f2 a (by omega)]), c4, c3, hI.kept (fun a q1 q2 => by rw [f3 a (by omega), f2 a (by omega), f1 a (by omega)]), hS.kept (fun a q1 q2 => by rw [f3 a (by omega), f2 a (by omega), f1 a (by omega)])⟩, fun c hc => by rw [f3 c (by omega), f2 c (by omega), f1 c (by omega)]⟩
        · exfalso; omega
      · exfalso; omega
  · rw [if_pos hin]
    refine S.iload_n (pc' := 1) dX11_back_0 rfl rfl rfl ?_
    refine S.iconst (pc' := 2) dX11_back_1 rfl ?_
    refine S.callSi (pc' := 5) dX11_back_2 rfl cX11_221 (bk_X11_isWithin) rfl (by decide) rfl (Nat.le_of_ble_eq_true rfl) (fun z2 M2 q2 => ?_)
    obtain ⟨b2, rfl⟩ := q2
    refine S.if_ne (pc' := 8) (tgt := 10) dX11_back_5 (by decide) rfl (by unfold fp_rng; omega) (fun h5 => ?_) (fun h5 => ?_)
    · exfalso; omega
    · refine S.iconst (pc' := 9) dX11_back_8 rfl ?_
      refine S.iret dX11_back_9 rfl ?_
      exact ⟨rfl, hcs, frC.refl _⟩
theorem mpRow.kept {f h : Nat → Int} (c : mpRow f 0 g pg) (hg : gOk g) (hP : pgOk g pg) (e : ∀ j : Nat, j < 120 → h j = f j) : mpRow h 0 g pg := mpIs.kept (M := fun _ => f) (N := fun _ => h) c hg hP (by omega) (fun j _ _ => e j (by omega))
theorem mvRow.kept {f h : Nat → Int} (c : mvRow f vs) (e : ∀ j : Nat, j < 120 → h j = f j) : mvRow h vs := mvIs.kept (M := fun _ => f) (N := fun _ => h) c (fun j _ _ => e j (by omega))
theorem copiesAll_loop {a b : Int} (ha : 0 ≤ a ∧ a ≤ 240) (hb : 0 ≤ b ∧ b ≤ 240) (hab : a + 120 ≤ b ∨ b + 120 ≤ a) : ∀ (n : Nat) (k : Int) (N : fp_Mem), (120 - k).toNat < n → 0 ≤ k → k ≤ 120 → N = fp_upM M 178 (fun j : Nat => if b ≤ j ∧ (j : Int) < b + k then M 178 (a + (j - b)).toNat else M 178 j) →
    fp_S l G 0 kX12_copiesAll 2 [some (rV G 177), some (iV a), some (iV b), some (iV k)] [] N (qW (fp_upM M 178 (fun j : Nat => if b ≤ j ∧ (j : Int) < b + 120 then M 178 (a + (j - b)).toNat else M 178 j))) := by
  intro n
  induction n with
  | zero => intro k N h; omega
  | succ n ih =>
    intro k N h k0 k1 hN
    refine S.iload_n (pc' := 3) dX12_copiesAll_2 rfl rfl rfl ?_
    refine S.bipush (pc' := 5) dX12_copiesAll_3 rfl (by decide) ?_
    refine S.icmp_ge (pc' := 8) (tgt := 30) dX12_copiesAll_5 (by decide) rfl (by unfold fp_rng; omega) (by unfold fp_rng; omega) (fun h5 => ?_) (fun h5 => ?_)
    · refine S.vret dX12_copiesAll_30 rfl ?_
      show _ = _
      rw [hN, show k = 120 by omega]
    · refine S.aload_n (pc' := 9) dX12_copiesAll_8 rfl rfl rfl ?_
      refine S.getR (pc' := 12) dX12_copiesAll_9 rfl fX12_7 L_177 rf_177_0 ?_
      refine S.iload_n (pc' := 13) dX12_copiesAll_12 rfl rfl rfl ?_
      refine S.iload_n (pc' := 14) dX12_copiesAll_13 rfl rfl rfl ?_
      refine S.iadd (pc' := 15) dX12_copiesAll_14 rfl ?_
      refine S.aload_n (pc' := 16) dX12_copiesAll_15 rfl rfl rfl ?_
      refine S.getR (pc' := 19) dX12_copiesAll_16 rfl fX12_7 L_177 rf_177_0 ?_
      refine S.iload_n (pc' := 20) dX12_copiesAll_19 rfl rfl rfl ?_
      refine S.iload_n (pc' := 21) dX12_copiesAll_20 rfl rfl rfl ?_
      refine S.iadd (pc' := 22) dX12_copiesAll_21 rfl ?_
      refine S.iald (pc' := 23) dX12_copiesAll_22 rfl L_178 (by omega) (by omega) ?_
      refine S.iast (pc' := 24) dX12_copiesAll_23 rfl L_178 (by omega) (by omega) ?_
      refine S.iinc (pc' := 27) (LL' := [_, _, _, _]) dX12_copiesAll_24 rfl (by decide) rfl rfl rfl ?_
      refine S.goto (pc' := 2) dX12_copiesAll_27 (by decide) ?_
      refine ih _ _ (by omega) (by omega) (by omega) ?_
      rw [hN, fp_up_same]
      refine congrArg (fp_upM _ 178) (funext fun j => ?_)
      rw [fp_upM_at]
      dsimp only [fp_upf]
      (repeat' split) <;> first | (exfalso; omega) | (refine congrArg (M 178) ?_; omega)
theorem ok_X12_copiesAll {a b : Int} (ha : 0 ≤ a ∧ a ≤ 240) (hb : 0 ≤ b ∧ b ≤ 240) (hab : a + 120 ≤ b ∨ b + 120 ≤ a) : fp_Ok l G 0 kX12_copiesAll [rV G 177, iV a, iV b] M (qW (fp_upM M 178 (fun j : Nat => if b ≤ j ∧ (j : Int) < b + 120 then M 178 (a + (j - b)).toNat else M 178 j))) := by
  refine fp_Ok.of (r := 1) rfl (Nat.le_of_ble_eq_true rfl) rfl ?_
  refine S.iconst (pc' := 1) dX12_copiesAll_0 rfl ?_
  refine S.istore_n (pc' := 2) (LL' := [_, _, _, _]) dX12_copiesAll_1 rfl (by decide) rfl rfl rfl ?_
  refine copiesAll_loop ha hb hab 121 0 M (by omega) (by omega) (by omega) ?_
  rw [show (fun j : Nat => if b ≤ j ∧ (j : Int) < b + 0 then M 178 (a + (j - b)).toNat else M 178 j) = M 178 from funext fun j => by rw [if_neg (by omega)], fp_upM_self]
theorem mm_keep {k9 : Int} (hc : MS M tp fl g pg vs nt im sh tn) (ho : OK g pg vs nt im sh) (h1 : fp_rng k9) : fp_Ok l G 1 kX12_keep [rV G 177, iV k9] M (qI fun z N => z = (A_keep im k9 (pg, vs, nt)).1 ∧ MS N tp fl g pg vs nt (A_keep im k9 (pg, vs, nt)).2 sh tn ∧ frD M N) := by
  have hcs := hc
  obtain ⟨hA, hG, hP, hV, hN, hI, hS, hK⟩ := hc
  have h1' := h1
  unfold fp_rng at h1'
  refine fp_Ok.of (r := 1) rfl (Nat.le_of_ble_eq_true rfl) rfl ?_
  unfold A_keep
  by_cases hin : 0 ≤ k9 ∧ k9 ≤ 1
  · rw [if_neg (fun q => q hin)]
    have hk := hI k9 hin.1 (by omega)
    have hk01 : k9.toNat = 0 ∨ k9.toNat = 1 := by omega
    have hb : M 199 k9.toNat = if (im k9).isSome then 1 else 0 := by
      rcases hk with ⟨q1, q2⟩ | ⟨x, q1, q2, -⟩
      · rw [q1, q2]; rfl
      · rw [q1, q2]; rfl
    rw [← hb]
    have hb01 : M 199 k9.toNat = 0 ∨ M 199 k9.toNat = 1 := by rw [hb]; split <;> omega
    have hfin : ∀ N1 : fp_Mem, N1 178 = (fun j : Nat => if 120 * (k9 + 1) ≤ j ∧ (j : Int) < 120 * (k9 + 1) + 120 then M 178 (0 + (j - 120 * (k9 + 1))).toNat else M 178 j) → N1 199 = fp_upf (M 199) k9.toNat 1 → (∀ a, a ≠ 178 → a ≠ 199 → N1 a = M a) → MS N1 tp fl g pg vs nt (fp_ui im k9 (some (pg, vs, nt))) sh tn ∧ frD M N1 := by
      intro N1 e1 e2 e3
      have e4 : ∀ j : Nat, j < 120 → N1 178 j = M 178 j := fun j hj => by rw [e1]; dsimp only; rw [if_neg (by omega)]
      refine ⟨⟨?_, ?_, hP.kept ho.1 ho.2.1 (by omega) (fun j j0 j1 => e4 j (by omega)), hV.kept e4, hN.kept (fun j j0 j1 => e4 j (by omega)), ?_, ?_, ?_⟩, fun c hc => e3 c (by omega) (by omega)⟩
      · unfold msA at *; rw [e3 177 (by decide) (by decide), e3 186 (by decide) (by decide)]; exact hA
      · unfold mdIs md_ok at *; rw [e3 177 (by decide) (by decide), e3 179 (by decide) (by decide), e3 180 (by decide) (by decide), e3 181 (by decide) (by decide)]; exact hG
      · intro j j0 j1
        rw [e2]
        by_cases e : j = k9
        · subst e
          rw [fp_ui_at, fp_upf_at]
          have e5 : ∀ i : Nat, i < 120 → (fun i => N1 178 (120 * (j.toNat + 1) + i)) i = M 178 i := fun i hi => by
            dsimp only
            rw [e1]
            dsimp only
            rw [if_pos (by omega)]
            refine congrArg (M 178) ?_
            omega
          exact Or.inr ⟨_, rfl, rfl, mpRow.kept hP ho.1 ho.2.1 e5, hV.kept e5, hN.kept (fun i i0 i1 => e5 i (by omega))⟩
        · rw [fp_ui_ne e, fp_upf_ne (by omega)]
          have e5 : ∀ i : Nat, i < 120 → (fun i => N1 178 (120 * (j.toNat + 1) + i)) i = (fun i => M 178 (120 * (j.toNat + 1) + i)) i := fun i hi => by
            dsimp only
            rw [e1]
            dsimp only
            rw [if_neg (by omega)]
          rcases hI j j0 j1 with ⟨q1, q2⟩ | ⟨x, q1, q2, q3, q4, q5⟩
          · exact Or.inl ⟨q1, q2⟩
          · exact Or.inr ⟨x, q1, q2, q3.kept ho.1 (ho.2.2.2.2.1 j x q1).1 e5, q4.kept e5, q5.kept (fun i i0 i1 => e5 i (by omega))⟩
      · unfold msS at *; rw [e3 200 (by decide) (by decide), e3 201 (by decide) (by decide), e3 202 (by decide) (by decide)]; exact hS
      · unfold msK at *; rw [e3 187 (by decide) (by decide), e3 188 (by decide) (by decide)]; exact hK
    refine S.iload_n (pc' := 1) dX12_keep_0 rfl rfl rfl ?_
    refine S.i2l (pc' := 2) dX12_keep_1 rfl (by unfold fp_rng; omega) ?_
    refine S.lconst (pc' := 3) (w := 0) dX12_keep_2 rfl rfl ?_
    refine S.lconst (pc' := 4) (w := 1) dX12_keep_3 rfl rfl ?_
    refine S.callSi (pc' := 7) dX12_keep_4 rfl cX12_94 (bk_X12_in) rfl (by decide) rfl (Nat.le_of_ble_eq_true rfl) (fun z4 M4 q4 => ?_)
    obtain ⟨b4, rfl⟩ := q4
    refine S.if_ne (pc' := 10) (tgt := 12) dX12_keep_7 (by decide) rfl (by unfold fp_rng; omega) (fun h7 => ?_) (fun h7 => ?_)
    · refine S.aload_n (pc' := 13) dX12_keep_12 rfl rfl rfl ?_
      refine S.iconst (pc' := 14) dX12_keep_13 rfl ?_
      refine S.bipush (pc' := 16) dX12_keep_14 rfl (by decide) ?_
      refine S.iload_n (pc' := 17) dX12_keep_16 rfl rfl rfl ?_
      refine S.iconst (pc' := 18) dX12_keep_17 rfl ?_
      refine S.iadd (pc' := 19) dX12_keep_18 rfl ?_
      refine S.imul (pc' := 20) dX12_keep_19 rfl ?_
      refine S.callVw (pc' := 23) dX12_keep_20 rfl cX12_327 (ok_X12_copiesAll (by omega) (by omega) (by omega)) rfl L_177 (by decide) rfl (Nat.le_of_ble_eq_true rfl) ?_
      refine S.aload_n (pc' := 24) dX12_keep_23 rfl rfl rfl ?_
      refine S.getR (pc' := 27) dX12_keep_24 rfl fX12_78 L_177 rf_177_40 ?_
      refine S.iload_n (pc' := 28) dX12_keep_27 rfl rfl rfl ?_
      refine S.zald (pc' := 29) dX12_keep_28 rfl L_199 (by omega) (by omega) ?_
      rw [fp_upM_ne (show 199 ≠ 178 by decide)]
      refine S.if_eq (pc' := 32) (tgt := 36) dX12_keep_29 (by decide) rfl (by unfold fp_rng; omega) (fun h29 => ?_) (fun h29 => ?_)
      · refine S.iconst (pc' := 37) dX12_keep_36 rfl ?_
        refine S.istore_n (pc' := 38) (LL' := [_, _, _]) dX12_keep_37 rfl (by decide) rfl rfl rfl ?_
        refine S.aload_n (pc' := 39) dX12_keep_38 rfl rfl rfl ?_
        refine S.getR (pc' := 42) dX12_keep_39 rfl fX12_78 L_177 rf_177_40 ?_
        refine S.iload_n (pc' := 43) dX12_keep_42 rfl rfl rfl ?_
        refine S.iconst (pc' := 44) dX12_keep_43 rfl ?_
        refine S.zast (pc' := 45) dX12_keep_44 rfl L_199 (by omega) (by omega) (by first | exact Or.inl rfl | exact Or.inr rfl | omega) ?_
        refine S.iload_n (pc' := 46) dX12_keep_45 rfl rfl rfl ?_
        refine S.iret dX12_keep_46 rfl ?_
        refine ⟨by omega, hfin _ ?_ ?_ ?_⟩
        · rw [fp_up_ne (by decide), fp_upM_at]
        · rw [fp_up_at, fp_upM_ne (by decide)]
        · intro a ha hb; rw [fp_up_ne hb, fp_upM_ne ha]
      · refine S.iconst (pc' := 33) dX12_keep_32 rfl ?_
        refine S.goto (pc' := 37) dX12_keep_33 (by decide) ?_
        refine S.istore_n (pc' := 38) (LL' := [_, _, _]) dX12_keep_37 rfl (by decide) rfl rfl rfl ?_
        refine S.aload_n (pc' := 39) dX12_keep_38 rfl rfl rfl ?_
        refine S.getR (pc' := 42) dX12_keep_39 rfl fX12_78 L_177 rf_177_40 ?_
        refine S.iload_n (pc' := 43) dX12_keep_42 rfl rfl rfl ?_
        refine S.iconst (pc' := 44) dX12_keep_43 rfl ?_
        refine S.zast (pc' := 45) dX12_keep_44 rfl L_199 (by omega) (by omega) (by first | exact Or.inl rfl | exact Or.inr rfl | omega) ?_
        refine S.iload_n (pc' := 46) dX12_keep_45 rfl rfl rfl ?_
        refine S.iret dX12_keep_46 rfl ?_
        refine ⟨by omega, hfin _ ?_ ?_ ?_⟩
        · rw [fp_up_ne (by decide), fp_upM_at]
        · rw [fp_up_at, fp_upM_ne (by decide)]
        · intro a ha hb; rw [fp_up_ne hb, fp_upM_ne ha]
    · exfalso; omega
  · rw [if_pos hin]
    refine S.iload_n (pc' := 1) dX12_keep_0 rfl rfl rfl ?_
    refine S.i2l (pc' := 2) dX12_keep_1 rfl (by unfold fp_rng; omega) ?_
    refine S.lconst (pc' := 3) (w := 0) dX12_keep_2 rfl rfl ?_
    refine S.lconst (pc' := 4) (w := 1) dX12_keep_3 rfl rfl ?_
    refine S.callSi (pc' := 7) dX12_keep_4 rfl cX12_94 (bk_X12_in) rfl (by decide) rfl (Nat.le_of_ble_eq_true rfl) (fun z4 M4 q4 => ?_)
    obtain ⟨b4, rfl⟩ := q4
    refine S.if_ne (pc' := 10) (tgt := 12) dX12_keep_7 (by decide) rfl (by unfold fp_rng; omega) (fun h7 => ?_) (fun h7 => ?_)
    · exfalso; omega
    · refine S.iconst (pc' := 11) dX12_keep_10 rfl ?_
      refine S.iret dX12_keep_11 rfl ?_
      exact ⟨rfl, hcs, frD.refl _⟩
theorem mm_back {k9 : Int} (hc : MS M tp fl g pg vs nt im sh tn) (ho : OK g pg vs nt im sh) (h1 : fp_rng k9) : fp_Ok l G 1 kX12_back [rV G 177, iV k9] M (qI fun z N => z = (A_back im k9 (pg, vs, nt)).1 ∧ MS N tp fl g (A_back im k9 (pg, vs, nt)).2.1 (A_back im k9 (pg, vs, nt)).2.2.1 (A_back im k9 (pg, vs, nt)).2.2.2 im sh tn ∧ frD M N) := by
  have hcs := hc
  obtain ⟨hA, hG, hP, hV, hN, hI, hS, hK⟩ := hc
  have hio := ho.2.2.2.2.1
  have h1' := h1
  unfold fp_rng at h1'
  refine fp_Ok.of (r := 0) rfl (Nat.le_of_ble_eq_true rfl) rfl ?_
  unfold A_back
  by_cases hin : 0 ≤ k9 ∧ k9 ≤ 1
  · rw [if_neg (fun q => q hin)]
    have hk01 : k9.toNat = 0 ∨ k9.toNat = 1 := by omega
    rcases hI k9 hin.1 (by omega) with ⟨y1, y2⟩ | ⟨x, y1, y2, y3, y4, y5⟩
    · rw [y1]
      refine S.iload_n (pc' := 1) dX12_back_0 rfl rfl rfl ?_
      refine S.i2l (pc' := 2) dX12_back_1 rfl (by unfold fp_rng; omega) ?_
      refine S.lconst (pc' := 3) (w := 0) dX12_back_2 rfl rfl ?_
      refine S.lconst (pc' := 4) (w := 1) dX12_back_3 rfl rfl ?_
      refine S.callSi (pc' := 7) dX12_back_4 rfl cX12_94 (bk_X12_in) rfl (by decide) rfl (Nat.le_of_ble_eq_true rfl) (fun z4 M4 q4 => ?_)
      obtain ⟨b4, rfl⟩ := q4
      refine S.if_ne (pc' := 10) (tgt := 12) dX12_back_7 (by decide) rfl (by unfold fp_rng; omega) (fun h7 => ?_) (fun h7 => ?_)
      · refine S.aload_n (pc' := 13) dX12_back_12 rfl rfl rfl ?_
        refine S.getR (pc' := 16) dX12_back_13 rfl fX12_78 L_177 rf_177_40 ?_
        refine S.iload_n (pc' := 17) dX12_back_16 rfl rfl rfl ?_
        refine S.zald (pc' := 18) dX12_back_17 rfl L_199 (by omega) (by omega) ?_
        refine S.if_ne (pc' := 21) (tgt := 24) dX12_back_18 (by decide) rfl (by unfold fp_rng; omega) (fun h18 => ?_) (fun h18 => ?_)
        · exfalso; omega
        · refine S.bipush (pc' := 23) dX12_back_21 rfl (by decide) ?_
          refine S.iret dX12_back_23 rfl ?_
          exact ⟨rfl, hcs, frD.refl _⟩
      · exfalso; omega
    · rw [y1]
      have hpo := (hio k9 x y1).1
      have hfin : ∀ N1 : fp_Mem, N1 = fp_upM M 178 (fun j : Nat => if 0 ≤ (j : Int) ∧ (j : Int) < 0 + 120 then M 178 (120 * (k9 + 1) + (j - 0)).toNat else M 178 j) → N1 178 95 = x.2.1.length ∧ MS N1 tp fl g x.1 x.2.1 x.2.2 im sh tn ∧ frD M N1 := by
        intro N1 e0
        have e3 : ∀ a, a ≠ 178 → N1 a = M a := fun a ha => by rw [e0, fp_upM_ne ha]
        have e4 : ∀ j : Nat, j < 120 → N1 178 j = (fun i => M 178 (120 * (k9.toNat + 1) + i)) j := fun j hj => by
          rw [e0, fp_upM_at, if_pos (by omega)]
          refine congrArg (M 178) ?_
          omega
        have e5 : ∀ j : Nat, 120 ≤ j → N1 178 j = M 178 j := fun j hj => by rw [e0, fp_upM_at, if_neg (by omega)]
        have hv := y4.kept e4
        refine ⟨hv.1, ⟨?_, ?_, mpRow.kept y3 ho.1 hpo e4, hv, y5.kept (fun j j0 j1 => e4 j (by omega)), hI.kept (e3 199 (by decide)) (fun j j0 j1 => e5 j (by omega)) hio ho.1, ?_, ?_⟩, fun c hc => e3 c (by omega)⟩
        · unfold msA at *; rw [e3 177 (by decide), e3 186 (by decide)]; exact hA
        · unfold mdIs md_ok at *; rw [e3 177 (by decide), e3 179 (by decide), e3 180 (by decide), e3 181 (by decide)]; exact hG
        · unfold msS at *; rw [e3 200 (by decide), e3 201 (by decide), e3 202 (by decide)]; exact hS
        · unfold msK at *; rw [e3 187 (by decide), e3 188 (by decide)]; exact hK
      refine S.iload_n (pc' := 1) dX12_back_0 rfl rfl rfl ?_
      refine S.i2l (pc' := 2) dX12_back_1 rfl (by unfold fp_rng; omega) ?_
      refine S.lconst (pc' := 3) (w := 0) dX12_back_2 rfl rfl ?_
      refine S.lconst (pc' := 4) (w := 1) dX12_back_3 rfl rfl ?_
      refine S.callSi (pc' := 7) dX12_back_4 rfl cX12_94 (bk_X12_in) rfl (by decide) rfl (Nat.le_of_ble_eq_true rfl) (fun z4 M4 q4 => ?_)
      obtain ⟨b4, rfl⟩ := q4
      refine S.if_ne (pc' := 10) (tgt := 12) dX12_back_7 (by decide) rfl (by unfold fp_rng; omega) (fun h7 => ?_) (fun h7 => ?_)
      · refine S.aload_n (pc' := 13) dX12_back_12 rfl rfl rfl ?_
        refine S.getR (pc' := 16) dX12_back_13 rfl fX12_78 L_177 rf_177_40 ?_
        refine S.iload_n (pc' := 17) dX12_back_16 rfl rfl rfl ?_
        refine S.zald (pc' := 18) dX12_back_17 rfl L_199 (by omega) (by omega) ?_
        refine S.if_ne (pc' := 21) (tgt := 24) dX12_back_18 (by decide) rfl (by unfold fp_rng; omega) (fun h18 => ?_) (fun h18 => ?_)
        · refine S.aload_n (pc' := 25) dX12_back_24 rfl rfl rfl ?_
          refine S.bipush (pc' := 27) dX12_back_25 rfl (by decide) ?_
          refine S.iload_n (pc' := 28) dX12_back_27 rfl rfl rfl ?_
          refine S.iconst (pc' := 29) dX12_back_28 rfl ?_
          refine S.iadd (pc' := 30) dX12_back_29 rfl ?_
          refine S.imul (pc' := 31) dX12_back_30 rfl ?_
          refine S.iconst (pc' := 32) dX12_back_31 rfl ?_
          refine S.callVw (pc' := 35) dX12_back_32 rfl cX12_327 (ok_X12_copiesAll (by omega) (by omega) (by omega)) rfl L_177 (by decide) rfl (Nat.le_of_ble_eq_true rfl) ?_
          refine S.aload_n (pc' := 36) dX12_back_35 rfl rfl rfl ?_
          refine S.callVe (pc' := 39) dX12_back_36 rfl cX12_225 (ok_X12_visits) rfl L_177 (by decide) rfl (Nat.le_of_ble_eq_true rfl) ?_
          refine S.iret dX12_back_39 rfl ?_
          exact hfin _ rfl
        · exfalso; omega
      · exfalso; omega
  · rw [if_pos hin]
    refine S.iload_n (pc' := 1) dX12_back_0 rfl rfl rfl ?_
    refine S.i2l (pc' := 2) dX12_back_1 rfl (by unfold fp_rng; omega) ?_
    refine S.lconst (pc' := 3) (w := 0) dX12_back_2 rfl rfl ?_
    refine S.lconst (pc' := 4) (w := 1) dX12_back_3 rfl rfl ?_
    refine S.callSi (pc' := 7) dX12_back_4 rfl cX12_94 (bk_X12_in) rfl (by decide) rfl (Nat.le_of_ble_eq_true rfl) (fun z4 M4 q4 => ?_)
    obtain ⟨b4, rfl⟩ := q4
    refine S.if_ne (pc' := 10) (tgt := 12) dX12_back_7 (by decide) rfl (by unfold fp_rng; omega) (fun h7 => ?_) (fun h7 => ?_)
    · exfalso; omega
    · refine S.iconst (pc' := 11) dX12_back_10 rfl ?_
      refine S.iret dX12_back_11 rfl ?_
      exact ⟨rfl, hcs, frD.refl _⟩
end IMA
end
section
/-! JOIN, COUNT -/
def aJn (g : aGd) (pg : aPg) (p : Int) : Nat → Int × Int
  | 0 => (-4, -4)
  | n + 1 => if aGv g pg n ≠ -4 ∧ (aJn g pg p n).1 < g.2.2.2.2.1 (aGv g pg n) p then (g.2.2.2.2.1 (aGv g pg n) p, (n : Int)) else aJn g pg p n
def A_join (g : aGd) (pg : aPg) (p : Int) : Int := if 0 ≤ p ∧ p < 4 then (aJn g pg p g.2.1.toNat).2 else -1
def A_count (tp : List Int) (g : aGd) (vs : List aVt) (nt : List Int) (im : aIm) (sh : aSh) (w : Int) : Int := if w = 0 then g.1 else if w = 1 then g.2.1 else if w = 2 then vs.length else if w = 3 then nt.length else if w = 4 then (if (im 0).isSome then 1 else 0) + (if (im 1).isSome then 1 else 0) else if w = 5 then tp.length else if w = 6 then (if (sh 0).1 = -4 then -4 else (sh 0).2.1) else -1
theorem aJn_succ {g : aGd} {pg : aPg} {p i : Int} (h : 0 ≤ i) : aJn g pg p (i + 1).toNat = if aGv g pg i ≠ -4 ∧ (aJn g pg p i.toNat).1 < g.2.2.2.2.1 (aGv g pg i) p then (g.2.2.2.2.1 (aGv g pg i) p, i) else aJn g pg p i.toNat := by
  have e1 : (i + 1).toNat = i.toNat + 1 := by omega
  rw [e1]
  show (if aGv g pg ((i.toNat : Nat) : Int) ≠ -4 ∧ _ then (_, ((i.toNat : Nat) : Int)) else _) = _
  rw [Int.toNat_of_nonneg h]
theorem aJn_in {g : aGd} {pg : aPg} {p : Int} (hg : gOk g) (hP : pgOk g pg) (hp : 0 ≤ p ∧ p < 4) : ∀ n : Nat, (n : Int) ≤ g.2.1 → (-4 ≤ (aJn g pg p n).1 ∧ (aJn g pg p n).1 ≤ 20) ∧ (-4 ≤ (aJn g pg p n).2 ∧ (aJn g pg p n).2 ≤ n)
  | 0 => fun _ => by unfold aJn; decide
  | n + 1 => fun h => by
    have q := aJn_in hg hP hp n (by omega)
    have hq := aGv_in hP hg (x := (n : Int)) ⟨by omega, by omega⟩
    unfold aJn
    split
    · rename_i hh
      have hv := hg.2.2.2.2.1 (aGv g pg n) p (by omega) (by omega) hp.1 hp.2
      exact ⟨⟨by dsimp only; omega, by dsimp only; omega⟩, by dsimp only; omega, by dsimp only; omega⟩
    · exact ⟨q.1, by omega, by omega⟩
section JOI
variable {l : Launch} {G : fp_WG} {M N : fp_Mem} {tp tp' : List Int} {fl fl' : Int} {g : aGd} {pg pg' : aPg} {vs vs' : List aVt} {nt nt' : List Int} {im im' : aIm} {sh sh' : aSh} {tn tn' : Int} {k k2 : Nat}
theorem cjoin_loop {p : Int} (hp : 0 ≤ p ∧ p < 4) (hc : CS M tp fl g pg vs nt im sh tn) (ho : OK g pg vs nt im sh) : ∀ (n : Nat) (i : Int) (o5 : Option Value), (g.2.1 - i).toNat < n → 0 ≤ i → i ≤ g.2.1 →
    fp_S l G 2 kX11_join 18 [some (rV G 0), some (iV p), some (iV (aJn g pg p i.toNat).1), some (iV (aJn g pg p i.toNat).2), some (iV i), o5] [] M (qI fun z N => z = (aJn g pg p g.2.1.toNat).2 ∧ CS N tp fl g pg vs nt im sh tn ∧ frC M N) := by
  have hcs := hc
  obtain ⟨-, hd, hcl, -⟩ := hc
  have hg := ho.1
  have hg1 := hg.1
  have hP := ho.2.1
  have hd1 := hd.2.1
  have hg2 := hg.2.1
  intro n
  induction n with
  | zero => intro i o5 h; omega
  | succ n ih =>
    intro i o5 h i0 i1
    have es := aJn_succ (g := g) (pg := pg) (p := p) i0
    have hb := aJn_in hg hP hp i.toNat (by omega)
    by_cases hlt : i < g.2.1
    · have hq := aGv_in hP hg (x := i) ⟨i0, hlt⟩
      rcases hq with hq | hq
      · rw [if_neg (by omega)] at es
        refine S.iload (pc' := 20) dX11_join_18 rfl rfl ?_
        refine S.aload_n (pc' := 21) dX11_join_20 rfl rfl rfl ?_
        refine S.getR (pc' := 24) dX11_join_21 rfl fX11_23 L_0 rf_0_3 ?_
        refine S.getI (pc' := 27) dX11_join_24 rfl fX11_225 (gd_lay gd18) ?_
        refine S.icmp_ge (pc' := 30) (tgt := 86) dX11_join_27 (by decide) rfl (by unfold fp_rng; omega) (by unfold fp_rng; omega) (fun h27 => ?_) (fun h27 => ?_)
        · exfalso; omega
        · refine S.aload_n (pc' := 31) dX11_join_30 rfl rfl rfl ?_
          refine S.getR (pc' := 34) dX11_join_31 rfl fX11_30 L_0 rf_0_4 ?_
          refine S.aload_n (pc' := 35) dX11_join_34 rfl rfl rfl ?_
          refine S.getR (pc' := 38) dX11_join_35 rfl fX11_23 L_0 rf_0_3 ?_
          refine S.iload (pc' := 40) dX11_join_38 rfl rfl ?_
          refine S.callVe (pc' := 43) dX11_join_40 rfl cX11_159 (rk_X5_gives (g := g) (pg := pg) pl22 gd18) rfl (pl_lay pl22) (by decide) rfl (Nat.le_of_ble_eq_true rfl) ?_
          refine S.istore (pc' := 45) (LL' := [_, _, _, _, _, _]) dX11_join_43 rfl (by decide) rfl rfl ?_
          refine S.iload (pc' := 47) dX11_join_45 rfl rfl ?_
          refine S.bipush (pc' := 49) dX11_join_47 rfl (by decide) ?_
          refine S.icmp_eq (pc' := 52) (tgt := 80) dX11_join_49 (by decide) rfl (by unfold fp_rng; omega) (by unfold fp_rng; omega) (fun h49 => ?_) (fun h49 => ?_)
          · refine S.iinc (pc' := 83) (LL' := [_, _, _, _, _, _]) dX11_join_80 rfl (by decide) rfl rfl rfl ?_
            refine S.goto (pc' := 18) dX11_join_83 (by decide) ?_
            rw [← es]; exact ih _ _ (by omega) (by omega) (by omega)
          · exfalso; omega
      · have hv := hd.2.2.2.2.2.1 (aGv g pg i) p (by omega) (by omega) hp.1 hp.2
        have hvb := hg.2.2.2.2.1 (aGv g pg i) p (by omega) (by omega) hp.1 hp.2
        have hvr : fp_rng (M (18 + 2) (aGv g pg i * 4 + p).toNat) := by rw [hv]; exact ⟨by omega, by omega⟩
        have hvs : M (18 + 2) (aGv g pg i * 4 + p).toNat = g.2.2.2.2.1 (aGv g pg i) p := hv
        refine S.iload (pc' := 20) dX11_join_18 rfl rfl ?_
        refine S.aload_n (pc' := 21) dX11_join_20 rfl rfl rfl ?_
        refine S.getR (pc' := 24) dX11_join_21 rfl fX11_23 L_0 rf_0_3 ?_
        refine S.getI (pc' := 27) dX11_join_24 rfl fX11_225 (gd_lay gd18) ?_
        refine S.icmp_ge (pc' := 30) (tgt := 86) dX11_join_27 (by decide) rfl (by unfold fp_rng; omega) (by unfold fp_rng; omega) (fun h27 => ?_) (fun h27 => ?_)
        · exfalso; omega
        · refine S.aload_n (pc' := 31) dX11_join_30 rfl rfl rfl ?_
          refine S.getR (pc' := 34) dX11_join_31 rfl fX11_30 L_0 rf_0_4 ?_
          refine S.aload_n (pc' := 35) dX11_join_34 rfl rfl rfl ?_
          refine S.getR (pc' := 38) dX11_join_35 rfl fX11_23 L_0 rf_0_3 ?_
          refine S.iload (pc' := 40) dX11_join_38 rfl rfl ?_
          refine S.callVe (pc' := 43) dX11_join_40 rfl cX11_159 (rk_X5_gives (g := g) (pg := pg) pl22 gd18) rfl (pl_lay pl22) (by decide) rfl (Nat.le_of_ble_eq_true rfl) ?_
          refine S.istore (pc' := 45) (LL' := [_, _, _, _, _, _]) dX11_join_43 rfl (by decide) rfl rfl ?_
          refine S.iload (pc' := 47) dX11_join_45 rfl rfl ?_
          refine S.bipush (pc' := 49) dX11_join_47 rfl (by decide) ?_
          refine S.icmp_eq (pc' := 52) (tgt := 80) dX11_join_49 (by decide) rfl (by unfold fp_rng; omega) (by unfold fp_rng; omega) (fun h49 => ?_) (fun h49 => ?_)
          · refine S.iinc (pc' := 83) (LL' := [_, _, _, _, _, _]) dX11_join_80 rfl (by decide) rfl rfl rfl ?_
            refine S.goto (pc' := 18) dX11_join_83 (by decide) ?_
            first | (rw [if_pos (by omega)] at es; rw [hvs]; have e1 := congrArg Prod.fst es; have e2 := congrArg Prod.snd es; dsimp only at e1 e2; rw [← e1]; have e3 := ih (i + 1) (some (iV (aGv g pg i))) (by omega) (by omega) (by omega); rw [e2] at e3; exact e3) | (rw [if_neg (by omega)] at es; rw [← es]; exact ih _ _ (by omega) (by omega) (by omega))
          · refine S.aload_n (pc' := 53) dX11_join_52 rfl rfl rfl ?_
            refine S.getR (pc' := 56) dX11_join_53 rfl fX11_23 L_0 rf_0_3 ?_
            refine S.iload_n (pc' := 57) dX11_join_56 rfl rfl rfl ?_
            refine S.iload (pc' := 59) dX11_join_57 rfl rfl ?_
            refine S.callVe (pc' := 62) dX11_join_59 rfl cX11_130 (ok_X1_valueTo gd18) rfl (gd_lay gd18) (by decide) rfl (Nat.le_of_ble_eq_true rfl) ?_
            refine S.iload_n (pc' := 63) dX11_join_62 rfl rfl rfl ?_
            refine S.icmp_le (pc' := 66) (tgt := 80) dX11_join_63 (by decide) rfl (by unfold fp_rng; omega) (by unfold fp_rng; omega) (fun h63 => ?_) (fun h63 => ?_)
            · refine S.iinc (pc' := 83) (LL' := [_, _, _, _, _, _]) dX11_join_80 rfl (by decide) rfl rfl rfl ?_
              refine S.goto (pc' := 18) dX11_join_83 (by decide) ?_
              first | (rw [if_pos (by omega)] at es; rw [hvs]; have e1 := congrArg Prod.fst es; have e2 := congrArg Prod.snd es; dsimp only at e1 e2; rw [← e1]; have e3 := ih (i + 1) (some (iV (aGv g pg i))) (by omega) (by omega) (by omega); rw [e2] at e3; exact e3) | (rw [if_neg (by omega)] at es; rw [← es]; exact ih _ _ (by omega) (by omega) (by omega))
            · refine S.aload_n (pc' := 67) dX11_join_66 rfl rfl rfl ?_
              refine S.getR (pc' := 70) dX11_join_67 rfl fX11_23 L_0 rf_0_3 ?_
              refine S.iload_n (pc' := 71) dX11_join_70 rfl rfl rfl ?_
              refine S.iload (pc' := 73) dX11_join_71 rfl rfl ?_
              refine S.callVe (pc' := 76) dX11_join_73 rfl cX11_130 (ok_X1_valueTo gd18) rfl (gd_lay gd18) (by decide) rfl (Nat.le_of_ble_eq_true rfl) ?_
              refine S.istore_n (pc' := 77) (LL' := [_, _, _, _, _, _]) dX11_join_76 rfl (by decide) rfl rfl rfl ?_
              refine S.iload (pc' := 79) dX11_join_77 rfl rfl ?_
              refine S.istore_n (pc' := 80) (LL' := [_, _, _, _, _, _]) dX11_join_79 rfl (by decide) rfl rfl rfl ?_
              refine S.iinc (pc' := 83) (LL' := [_, _, _, _, _, _]) dX11_join_80 rfl (by decide) rfl rfl rfl ?_
              refine S.goto (pc' := 18) dX11_join_83 (by decide) ?_
              first | (rw [if_pos (by omega)] at es; rw [hvs]; have e1 := congrArg Prod.fst es; have e2 := congrArg Prod.snd es; dsimp only at e1 e2; rw [← e1]; have e3 := ih (i + 1) (some (iV (aGv g pg i))) (by omega) (by omega) (by omega); rw [e2] at e3; exact e3) | (rw [if_neg (by omega)] at es; rw [← es]; exact ih _ _ (by omega) (by omega) (by omega))
    · refine S.iload (pc' := 20) dX11_join_18 rfl rfl ?_
      refine S.aload_n (pc' := 21) dX11_join_20 rfl rfl rfl ?_
      refine S.getR (pc' := 24) dX11_join_21 rfl fX11_23 L_0 rf_0_3 ?_
      refine S.getI (pc' := 27) dX11_join_24 rfl fX11_225 (gd_lay gd18) ?_
      refine S.icmp_ge (pc' := 30) (tgt := 86) dX11_join_27 (by decide) rfl (by unfold fp_rng; omega) (by unfold fp_rng; omega) (fun h27 => ?_) (fun h27 => ?_)
      · refine S.iload_n (pc' := 87) dX11_join_86 rfl rfl rfl ?_
        refine S.iret dX11_join_87 rfl ?_
        rw [show i = g.2.1 by omega]; exact ⟨rfl, hcs, frC.refl _⟩
      · exfalso; omega
theorem cc_join {p : Int} (hc : CS M tp fl g pg vs nt im sh tn) (ho : OK g pg vs nt im sh) (hp : fp_rng p) : fp_Ok l G 2 kX11_join [rV G 0, iV p] M (qI fun z N => z = A_join g pg p ∧ CS N tp fl g pg vs nt im sh tn ∧ frC M N) := by
  refine fp_Ok.of (r := 4) rfl (Nat.le_of_ble_eq_true rfl) rfl ?_
  unfold A_join
  have hg2 := ho.1.2.1
  by_cases hin : 0 ≤ p ∧ p < 4
  · rw [if_pos hin]
    have hcc := cjoin_loop (l := l) (G := G) hin hc ho (g.2.1.toNat + 1) 0 none (by omega) (by omega) (by omega)
    refine S.iload_n (pc' := 1) dX11_join_0 rfl rfl rfl ?_
    refine S.callSi (pc' := 4) dX11_join_1 rfl cX11_181 (bk_X11_isOne) rfl (by decide) rfl (Nat.le_of_ble_eq_true rfl) (fun z1 M1 q1 => ?_)
    obtain ⟨b1, rfl⟩ := q1
    refine S.if_ne (pc' := 7) (tgt := 9) dX11_join_4 (by decide) rfl (by unfold fp_rng; omega) (fun h4 => ?_) (fun h4 => ?_)
    · refine S.bipush (pc' := 11) dX11_join_9 rfl (by decide) ?_
      refine S.istore_n (pc' := 12) (LL' := [_, _, _, _, _, _]) dX11_join_11 rfl (by decide) rfl rfl rfl ?_
      refine S.bipush (pc' := 14) dX11_join_12 rfl (by decide) ?_
      refine S.istore_n (pc' := 15) (LL' := [_, _, _, _, _, _]) dX11_join_14 rfl (by decide) rfl rfl rfl ?_
      refine S.iconst (pc' := 16) dX11_join_15 rfl ?_
      refine S.istore (pc' := 18) (LL' := [_, _, _, _, _, _]) dX11_join_16 rfl (by decide) rfl rfl ?_
      exact hcc
    · exfalso; omega
  · rw [if_neg hin]
    refine S.iload_n (pc' := 1) dX11_join_0 rfl rfl rfl ?_
    refine S.callSi (pc' := 4) dX11_join_1 rfl cX11_181 (bk_X11_isOne) rfl (by decide) rfl (Nat.le_of_ble_eq_true rfl) (fun z1 M1 q1 => ?_)
    obtain ⟨b1, rfl⟩ := q1
    refine S.if_ne (pc' := 7) (tgt := 9) dX11_join_4 (by decide) rfl (by unfold fp_rng; omega) (fun h4 => ?_) (fun h4 => ?_)
    · exfalso; omega
    · refine S.iconst (pc' := 8) dX11_join_7 rfl ?_
      refine S.iret dX11_join_8 rfl ?_
      exact ⟨rfl, hc, frC.refl _⟩
theorem mjoin_loop {p : Int} (hp : 0 ≤ p ∧ p < 4) (hc : MS M tp fl g pg vs nt im sh tn) (ho : OK g pg vs nt im sh) : ∀ (n : Nat) (i : Int) (o5 o6 : Option Value), (g.2.1 - i).toNat < n → 0 ≤ i → i ≤ g.2.1 →
    fp_S l G 3 kX12_join 18 [some (rV G 177), some (iV p), some (iV (aJn g pg p i.toNat).2), some (iV (aJn g pg p i.toNat).1), some (iV i), o5, o6] [] M (qI fun z N => z = (aJn g pg p g.2.1.toNat).2 ∧ MS N tp fl g pg vs nt im sh tn ∧ frD M N) := by
  have hcs := hc
  obtain ⟨-, hd, hcl, -⟩ := hc
  have hg := ho.1
  have hg1 := hg.1
  have hP := ho.2.1
  have hd1 := hd.2.1
  have hg2 := hg.2.1
  intro n
  induction n with
  | zero => intro i o5 o6 h; omega
  | succ n ih =>
    intro i o5 o6 h i0 i1
    have es := aJn_succ (g := g) (pg := pg) (p := p) i0
    have hb := aJn_in hg hP hp i.toNat (by omega)
    by_cases hlt : i < g.2.1
    · have hq := aGv_in hP hg (x := i) ⟨i0, hlt⟩
      rcases hq with hq | hq
      · rw [if_neg (by omega)] at es
        refine S.iload (pc' := 20) dX12_join_18 rfl rfl ?_
        refine S.aload_n (pc' := 21) dX12_join_20 rfl rfl rfl ?_
        refine S.getI (pc' := 24) dX12_join_21 rfl fX12_184 L_177 ?_
        refine S.icmp_ge (pc' := 27) (tgt := 93) dX12_join_24 (by decide) rfl (by unfold fp_rng; omega) (by unfold fp_rng; omega) (fun h24 => ?_) (fun h24 => ?_)
        · exfalso; omega
        · refine S.aload_n (pc' := 28) dX12_join_27 rfl rfl rfl ?_
          refine S.iconst (pc' := 29) dX12_join_28 rfl ?_
          refine S.iload (pc' := 31) dX12_join_29 rfl rfl ?_
          refine S.callVe (pc' := 34) dX12_join_31 rfl cX12_222 (rk_X12_gives (g := g) (pg := pg)) rfl L_177 (by decide) rfl (Nat.le_of_ble_eq_true rfl) ?_
          refine S.istore (pc' := 36) (LL' := [_, _, _, _, _, _, _]) dX12_join_34 rfl (by decide) rfl rfl ?_
          refine S.iload (pc' := 38) dX12_join_36 rfl rfl ?_
          refine S.bipush (pc' := 40) dX12_join_38 rfl (by decide) ?_
          refine S.icmp_ne (pc' := 43) (tgt := 48) dX12_join_40 (by decide) rfl (by unfold fp_rng; omega) (by unfold fp_rng; omega) (fun h40 => ?_) (fun h40 => ?_)
          · exfalso; omega
          · refine S.bipush (pc' := 45) dX12_join_43 rfl (by decide) ?_
            refine S.goto (pc' := 59) dX12_join_45 (by decide) ?_
            refine S.istore (pc' := 61) (LL' := [_, _, _, _, _, _, _]) dX12_join_59 rfl (by decide) rfl rfl ?_
            refine S.iload (pc' := 63) dX12_join_61 rfl rfl ?_
            refine S.iload_n (pc' := 64) dX12_join_63 rfl rfl rfl ?_
            refine S.icmp_le (pc' := 67) (tgt := 72) dX12_join_64 (by decide) rfl (by unfold fp_rng; omega) (by unfold fp_rng; omega) (fun h64 => ?_) (fun h64 => ?_)
            · refine S.iload_n (pc' := 73) dX12_join_72 rfl rfl rfl ?_
              refine S.istore_n (pc' := 74) (LL' := [_, _, _, _, _, _, _]) dX12_join_73 rfl (by decide) rfl rfl rfl ?_
              refine S.iload (pc' := 76) dX12_join_74 rfl rfl ?_
              refine S.iload_n (pc' := 77) dX12_join_76 rfl rfl rfl ?_
              refine S.icmp_le (pc' := 80) (tgt := 85) dX12_join_77 (by decide) rfl (by unfold fp_rng; omega) (by unfold fp_rng; omega) (fun h77 => ?_) (fun h77 => ?_)
              · refine S.iload_n (pc' := 86) dX12_join_85 rfl rfl rfl ?_
                refine S.istore_n (pc' := 87) (LL' := [_, _, _, _, _, _, _]) dX12_join_86 rfl (by decide) rfl rfl rfl ?_
                refine S.iinc (pc' := 90) (LL' := [_, _, _, _, _, _, _]) dX12_join_87 rfl (by decide) rfl rfl rfl ?_
                refine S.goto (pc' := 18) dX12_join_90 (by decide) ?_
                rw [← es]; exact ih _ _ _ (by omega) (by omega) (by omega)
              · exfalso; omega
            · exfalso; omega
      · have hv := hd.2.2.2.2.2.1 (aGv g pg i) p (by omega) (by omega) hp.1 hp.2
        have hvb := hg.2.2.2.2.1 (aGv g pg i) p (by omega) (by omega) hp.1 hp.2
        have hvr : fp_rng (M 180 (4 * aGv g pg i + p).toNat) := by rw [hv]; exact ⟨by omega, by omega⟩
        refine S.iload (pc' := 20) dX12_join_18 rfl rfl ?_
        refine S.aload_n (pc' := 21) dX12_join_20 rfl rfl rfl ?_
        refine S.getI (pc' := 24) dX12_join_21 rfl fX12_184 L_177 ?_
        refine S.icmp_ge (pc' := 27) (tgt := 93) dX12_join_24 (by decide) rfl (by unfold fp_rng; omega) (by unfold fp_rng; omega) (fun h24 => ?_) (fun h24 => ?_)
        · exfalso; omega
        · refine S.aload_n (pc' := 28) dX12_join_27 rfl rfl rfl ?_
          refine S.iconst (pc' := 29) dX12_join_28 rfl ?_
          refine S.iload (pc' := 31) dX12_join_29 rfl rfl ?_
          refine S.callVe (pc' := 34) dX12_join_31 rfl cX12_222 (rk_X12_gives (g := g) (pg := pg)) rfl L_177 (by decide) rfl (Nat.le_of_ble_eq_true rfl) ?_
          refine S.istore (pc' := 36) (LL' := [_, _, _, _, _, _, _]) dX12_join_34 rfl (by decide) rfl rfl ?_
          refine S.iload (pc' := 38) dX12_join_36 rfl rfl ?_
          refine S.bipush (pc' := 40) dX12_join_38 rfl (by decide) ?_
          refine S.icmp_ne (pc' := 43) (tgt := 48) dX12_join_40 (by decide) rfl (by unfold fp_rng; omega) (by unfold fp_rng; omega) (fun h40 => ?_) (fun h40 => ?_)
          · refine S.aload_n (pc' := 49) dX12_join_48 rfl rfl rfl ?_
            refine S.getR (pc' := 52) dX12_join_49 rfl fX12_16 L_177 rf_177_2 ?_
            refine S.iconst (pc' := 53) dX12_join_52 rfl ?_
            refine S.iload (pc' := 55) dX12_join_53 rfl rfl ?_
            refine S.imul (pc' := 56) dX12_join_55 rfl ?_
            refine S.iload_n (pc' := 57) dX12_join_56 rfl rfl rfl ?_
            refine S.iadd (pc' := 58) dX12_join_57 rfl ?_
            refine S.iald (pc' := 59) dX12_join_58 rfl L_180 (by omega) (by omega) ?_
            refine S.istore (pc' := 61) (LL' := [_, _, _, _, _, _, _]) dX12_join_59 rfl (by decide) rfl rfl ?_
            refine S.iload (pc' := 63) dX12_join_61 rfl rfl ?_
            refine S.iload_n (pc' := 64) dX12_join_63 rfl rfl rfl ?_
            refine S.icmp_le (pc' := 67) (tgt := 72) dX12_join_64 (by decide) rfl (by unfold fp_rng; omega) (by unfold fp_rng; omega) (fun h64 => ?_) (fun h64 => ?_)
            · refine S.iload_n (pc' := 73) dX12_join_72 rfl rfl rfl ?_
              refine S.istore_n (pc' := 74) (LL' := [_, _, _, _, _, _, _]) dX12_join_73 rfl (by decide) rfl rfl rfl ?_
              refine S.iload (pc' := 76) dX12_join_74 rfl rfl ?_
              refine S.iload_n (pc' := 77) dX12_join_76 rfl rfl rfl ?_
              refine S.icmp_le (pc' := 80) (tgt := 85) dX12_join_77 (by decide) rfl (by unfold fp_rng; omega) (by unfold fp_rng; omega) (fun h77 => ?_) (fun h77 => ?_)
              · refine S.iload_n (pc' := 86) dX12_join_85 rfl rfl rfl ?_
                refine S.istore_n (pc' := 87) (LL' := [_, _, _, _, _, _, _]) dX12_join_86 rfl (by decide) rfl rfl rfl ?_
                refine S.iinc (pc' := 90) (LL' := [_, _, _, _, _, _, _]) dX12_join_87 rfl (by decide) rfl rfl rfl ?_
                refine S.goto (pc' := 18) dX12_join_90 (by decide) ?_
                first | (exfalso; omega) | (rw [if_pos (by omega)] at es; rw [hv]; have e1 := congrArg Prod.fst es; have e2 := congrArg Prod.snd es; dsimp only at e1 e2; rw [← e1]; have e3 := fun o5 o6 => ih (i + 1) o5 o6 (by omega) (by omega) (by omega); rw [e2] at e3; exact e3 _ _) | (rw [if_neg (by omega)] at es; rw [← es]; exact ih _ _ _ (by omega) (by omega) (by omega))
              · refine S.iload (pc' := 82) dX12_join_80 rfl rfl ?_
                refine S.goto (pc' := 86) dX12_join_82 (by decide) ?_
                refine S.istore_n (pc' := 87) (LL' := [_, _, _, _, _, _, _]) dX12_join_86 rfl (by decide) rfl rfl rfl ?_
                refine S.iinc (pc' := 90) (LL' := [_, _, _, _, _, _, _]) dX12_join_87 rfl (by decide) rfl rfl rfl ?_
                refine S.goto (pc' := 18) dX12_join_90 (by decide) ?_
                first | (exfalso; omega) | (rw [if_pos (by omega)] at es; rw [hv]; have e1 := congrArg Prod.fst es; have e2 := congrArg Prod.snd es; dsimp only at e1 e2; rw [← e1]; have e3 := fun o5 o6 => ih (i + 1) o5 o6 (by omega) (by omega) (by omega); rw [e2] at e3; exact e3 _ _) | (rw [if_neg (by omega)] at es; rw [← es]; exact ih _ _ _ (by omega) (by omega) (by omega))
            · refine S.iload (pc' := 69) dX12_join_67 rfl rfl ?_
              refine S.goto (pc' := 73) dX12_join_69 (by decide) ?_
              refine S.istore_n (pc' := 74) (LL' := [_, _, _, _, _, _, _]) dX12_join_73 rfl (by decide) rfl rfl rfl ?_
              refine S.iload (pc' := 76) dX12_join_74 rfl rfl ?_
              refine S.iload_n (pc' := 77) dX12_join_76 rfl rfl rfl ?_
              refine S.icmp_le (pc' := 80) (tgt := 85) dX12_join_77 (by decide) rfl (by unfold fp_rng; omega) (by unfold fp_rng; omega) (fun h77 => ?_) (fun h77 => ?_)
              · refine S.iload_n (pc' := 86) dX12_join_85 rfl rfl rfl ?_
                refine S.istore_n (pc' := 87) (LL' := [_, _, _, _, _, _, _]) dX12_join_86 rfl (by decide) rfl rfl rfl ?_
                refine S.iinc (pc' := 90) (LL' := [_, _, _, _, _, _, _]) dX12_join_87 rfl (by decide) rfl rfl rfl ?_
                refine S.goto (pc' := 18) dX12_join_90 (by decide) ?_
                first | (exfalso; omega) | (rw [if_pos (by omega)] at es; rw [hv]; have e1 := congrArg Prod.fst es; have e2 := congrArg Prod.snd es; dsimp only at e1 e2; rw [← e1]; have e3 := fun o5 o6 => ih (i + 1) o5 o6 (by omega) (by omega) (by omega); rw [e2] at e3; exact e3 _ _) | (rw [if_neg (by omega)] at es; rw [← es]; exact ih _ _ _ (by omega) (by omega) (by omega))
              · refine S.iload (pc' := 82) dX12_join_80 rfl rfl ?_
                refine S.goto (pc' := 86) dX12_join_82 (by decide) ?_
                refine S.istore_n (pc' := 87) (LL' := [_, _, _, _, _, _, _]) dX12_join_86 rfl (by decide) rfl rfl rfl ?_
                refine S.iinc (pc' := 90) (LL' := [_, _, _, _, _, _, _]) dX12_join_87 rfl (by decide) rfl rfl rfl ?_
                refine S.goto (pc' := 18) dX12_join_90 (by decide) ?_
                first | (exfalso; omega) | (rw [if_pos (by omega)] at es; rw [hv]; have e1 := congrArg Prod.fst es; have e2 := congrArg Prod.snd es; dsimp only at e1 e2; rw [← e1]; have e3 := fun o5 o6 => ih (i + 1) o5 o6 (by omega) (by omega) (by omega); rw [e2] at e3; exact e3 _ _) | (rw [if_neg (by omega)] at es; rw [← es]; exact ih _ _ _ (by omega) (by omega) (by omega))
          · exfalso; omega
    · refine S.iload (pc' := 20) dX12_join_18 rfl rfl ?_
      refine S.aload_n (pc' := 21) dX12_join_20 rfl rfl rfl ?_
      refine S.getI (pc' := 24) dX12_join_21 rfl fX12_184 L_177 ?_
      refine S.icmp_ge (pc' := 27) (tgt := 93) dX12_join_24 (by decide) rfl (by unfold fp_rng; omega) (by unfold fp_rng; omega) (fun h24 => ?_) (fun h24 => ?_)
      · refine S.iload_n (pc' := 94) dX12_join_93 rfl rfl rfl ?_
        refine S.iret dX12_join_94 rfl ?_
        rw [show i = g.2.1 by omega]; exact ⟨rfl, hcs, frD.refl _⟩
      · exfalso; omega
theorem mm_join {p : Int} (hc : MS M tp fl g pg vs nt im sh tn) (ho : OK g pg vs nt im sh) (hp : fp_rng p) : fp_Ok l G 3 kX12_join [rV G 177, iV p] M (qI fun z N => z = A_join g pg p ∧ MS N tp fl g pg vs nt im sh tn ∧ frD M N) := by
  refine fp_Ok.of (r := 5) rfl (Nat.le_of_ble_eq_true rfl) rfl ?_
  unfold A_join
  have hg2 := ho.1.2.1
  by_cases hin : 0 ≤ p ∧ p < 4
  · rw [if_pos hin]
    have hcc := mjoin_loop (l := l) (G := G) hin hc ho (g.2.1.toNat + 1) 0 none none (by omega) (by omega) (by omega)
    refine S.iload_n (pc' := 1) dX12_join_0 rfl rfl rfl ?_
    refine S.callSi (pc' := 4) dX12_join_1 rfl cX12_228 (bk_X12_isOne) rfl (by decide) rfl (Nat.le_of_ble_eq_true rfl) (fun z1 M1 q1 => ?_)
    obtain ⟨b1, rfl⟩ := q1
    refine S.if_ne (pc' := 7) (tgt := 9) dX12_join_4 (by decide) rfl (by unfold fp_rng; omega) (fun h4 => ?_) (fun h4 => ?_)
    · refine S.bipush (pc' := 11) dX12_join_9 rfl (by decide) ?_
      refine S.istore_n (pc' := 12) (LL' := [_, _, _, _, _, _, _]) dX12_join_11 rfl (by decide) rfl rfl rfl ?_
      refine S.bipush (pc' := 14) dX12_join_12 rfl (by decide) ?_
      refine S.istore_n (pc' := 15) (LL' := [_, _, _, _, _, _, _]) dX12_join_14 rfl (by decide) rfl rfl rfl ?_
      refine S.iconst (pc' := 16) dX12_join_15 rfl ?_
      refine S.istore (pc' := 18) (LL' := [_, _, _, _, _, _, _]) dX12_join_16 rfl (by decide) rfl rfl ?_
      exact hcc
    · exfalso; omega
  · rw [if_neg hin]
    refine S.iload_n (pc' := 1) dX12_join_0 rfl rfl rfl ?_
    refine S.callSi (pc' := 4) dX12_join_1 rfl cX12_228 (bk_X12_isOne) rfl (by decide) rfl (Nat.le_of_ble_eq_true rfl) (fun z1 M1 q1 => ?_)
    obtain ⟨b1, rfl⟩ := q1
    refine S.if_ne (pc' := 7) (tgt := 9) dX12_join_4 (by decide) rfl (by unfold fp_rng; omega) (fun h4 => ?_) (fun h4 => ?_)
    · exfalso; omega
    · refine S.iconst (pc' := 8) dX12_join_7 rfl ?_
      refine S.iret dX12_join_8 rfl ?_
      exact ⟨rfl, hc, frD.refl _⟩
theorem cc_count {w : Int} (hc : CS M tp fl g pg vs nt im sh tn) (hw : fp_rng w) : fp_Ok l G 0 kX11_count [rV G 0, iV w] M (qI fun z N => z = A_count tp g vs nt im sh w ∧ CS N tp fl g pg vs nt im sh tn ∧ frC M N) := by
  have hcs := hc
  have hw' := hw
  unfold fp_rng at hw'
  obtain ⟨hA, hG, hP, hV, hN, hI, hS⟩ := hc
  have i0 : M 143 0 = if (im 0).isSome then 1 else 0 := by
    rcases hI 0 (by omega) (by omega) with ⟨q1, q2⟩ | ⟨x, q1, q2, -⟩
    · rw [q1]; exact q2
    · rw [q1]; exact q2
  have i1 : M 156 0 = if (im 1).isSome then 1 else 0 := by
    rcases hI 1 (by omega) (by omega) with ⟨q1, q2⟩ | ⟨x, q1, q2, -⟩
    · rw [q1]; exact q2
    · rw [q1]; exact q2
  have b0 : M 143 0 = 0 ∨ M 143 0 = 1 := by rw [i0]; split <;> omega
  have b1 : M 156 0 = 0 ∨ M 156 0 = 1 := by rw [i1]; split <;> omega
  have s0 : M 169 1 = if (sh 0).1 = -4 then -4 else (sh 0).2.1 := by
    rcases hS 0 (by omega) (by omega) with ⟨q1, q2⟩ | ⟨q1, q2, q3, -⟩
    · rw [if_pos q1]; exact q2
    · rw [if_neg q1]; exact q3
  refine fp_Ok.of (r := 0) rfl (Nat.le_of_ble_eq_true rfl) rfl ?_
  unfold A_count
  rw [← i0, ← i1, ← s0]
  refine S.iload_n (pc' := 1) dX11_count_0 rfl rfl rfl ?_
  rcases (show w < 0 ∨ 6 < w ∨ w = 0 ∨ w = 1 ∨ w = 2 ∨ w = 3 ∨ w = 4 ∨ w = 5 ∨ w = 6 by omega) with hs | hs | hs | hs | hs | hs | hs | hs | hs
  · refine S.tableOut (tgt := 127) dX11_count_1 (by unfold fp_rng; omega) (by omega) (by decide) ?_
    refine S.iconst (pc' := 128) dX11_count_127 rfl ?_
    refine S.iret dX11_count_128 rfl ?_
    refine ⟨?_, hcs, frC.refl _⟩
    have g1 := hG.1
    have g2 := hG.2.1
    have v1 := hV.1
    have n1 := hN.1
    have a1 := hA.1
    (repeat' split) <;> first | omega | exact g1 | exact g2 | exact v1 | exact n1 | exact a1
  · refine S.tableOut (tgt := 127) dX11_count_1 (by unfold fp_rng; omega) (by omega) (by decide) ?_
    refine S.iconst (pc' := 128) dX11_count_127 rfl ?_
    refine S.iret dX11_count_128 rfl ?_
    refine ⟨?_, hcs, frC.refl _⟩
    have g1 := hG.1
    have g2 := hG.2.1
    have v1 := hV.1
    have n1 := hN.1
    have a1 := hA.1
    (repeat' split) <;> first | omega | exact g1 | exact g2 | exact v1 | exact n1 | exact a1
  · refine S.tableIn (tgt := 44) dX11_count_1 (by unfold fp_rng; omega) (by omega) (by omega) (by rw [hs]; rfl) (by decide) ?_
    refine S.aload_n (pc' := 45) dX11_count_44 rfl rfl rfl ?_
    refine S.getR (pc' := 48) dX11_count_45 rfl fX11_23 L_0 rf_0_3 ?_
    refine S.getI (pc' := 51) dX11_count_48 rfl fX11_268 (gd_lay gd18) ?_
    refine S.iret dX11_count_51 rfl ?_
    refine ⟨?_, hcs, frC.refl _⟩
    have g1 := hG.1
    have g2 := hG.2.1
    have v1 := hV.1
    have n1 := hN.1
    have a1 := hA.1
    (repeat' split) <;> first | omega | exact g1 | exact g2 | exact v1 | exact n1 | exact a1
  · refine S.tableIn (tgt := 52) dX11_count_1 (by unfold fp_rng; omega) (by omega) (by omega) (by rw [hs]; rfl) (by decide) ?_
    refine S.aload_n (pc' := 53) dX11_count_52 rfl rfl rfl ?_
    refine S.getR (pc' := 56) dX11_count_53 rfl fX11_23 L_0 rf_0_3 ?_
    refine S.getI (pc' := 59) dX11_count_56 rfl fX11_225 (gd_lay gd18) ?_
    refine S.iret dX11_count_59 rfl ?_
    refine ⟨?_, hcs, frC.refl _⟩
    have g1 := hG.1
    have g2 := hG.2.1
    have v1 := hV.1
    have n1 := hN.1
    have a1 := hA.1
    (repeat' split) <;> first | omega | exact g1 | exact g2 | exact v1 | exact n1 | exact a1
  · refine S.tableIn (tgt := 60) dX11_count_1 (by unfold fp_rng; omega) (by omega) (by omega) (by rw [hs]; rfl) (by decide) ?_
    refine S.aload_n (pc' := 61) dX11_count_60 rfl rfl rfl ?_
    refine S.getR (pc' := 64) dX11_count_61 rfl fX11_37 L_0 rf_0_5 ?_
    refine S.getI (pc' := 67) dX11_count_64 rfl fX11_205 (vs_lay vs27) ?_
    refine S.iret dX11_count_67 rfl ?_
    refine ⟨?_, hcs, frC.refl _⟩
    have g1 := hG.1
    have g2 := hG.2.1
    have v1 := hV.1
    have n1 := hN.1
    have a1 := hA.1
    (repeat' split) <;> first | omega | exact g1 | exact g2 | exact v1 | exact n1 | exact a1
  · refine S.tableIn (tgt := 68) dX11_count_1 (by unfold fp_rng; omega) (by omega) (by omega) (by rw [hs]; rfl) (by decide) ?_
    refine S.aload_n (pc' := 69) dX11_count_68 rfl rfl rfl ?_
    refine S.getR (pc' := 72) dX11_count_69 rfl fX11_44 L_0 rf_0_6 ?_
    refine S.getI (pc' := 75) dX11_count_72 rfl fX11_119 (nt_lay nt32) ?_
    refine S.iret dX11_count_75 rfl ?_
    refine ⟨?_, hcs, frC.refl _⟩
    have g1 := hG.1
    have g2 := hG.2.1
    have v1 := hV.1
    have n1 := hN.1
    have a1 := hA.1
    (repeat' split) <;> first | omega | exact g1 | exact g2 | exact v1 | exact n1 | exact a1
  · refine S.tableIn (tgt := 76) dX11_count_1 (by unfold fp_rng; omega) (by omega) (by omega) (by rw [hs]; rfl) (by decide) ?_
    refine S.aload_n (pc' := 77) dX11_count_76 rfl rfl rfl ?_
    refine S.getR (pc' := 80) dX11_count_77 rfl fX11_78 L_0 rf_0_11 ?_
    refine S.iconst (pc' := 81) dX11_count_80 rfl ?_
    refine S.aald (pc' := 82) (t := 143) dX11_count_81 rfl L_141 (by decide) (by decide) (by omega) (by omega) (by decide +kernel) ?_
    refine S.getI (pc' := 85) dX11_count_82 rfl fX11_122 (im_lay im143) ?_
    refine S.if_eq (pc' := 88) (tgt := 92) dX11_count_85 (by decide) rfl (by unfold fp_rng; omega) (fun h85 => ?_) (fun h85 => ?_)
    · refine S.iconst (pc' := 93) dX11_count_92 rfl ?_
      refine S.aload_n (pc' := 94) dX11_count_93 rfl rfl rfl ?_
      refine S.getR (pc' := 97) dX11_count_94 rfl fX11_78 L_0 rf_0_11 ?_
      refine S.iconst (pc' := 98) dX11_count_97 rfl ?_
      refine S.aald (pc' := 99) (t := 156) dX11_count_98 rfl L_141 (by decide) (by decide) (by omega) (by omega) (by decide +kernel) ?_
      refine S.getI (pc' := 102) dX11_count_99 rfl fX11_122 (im_lay im156) ?_
      refine S.if_eq (pc' := 105) (tgt := 109) dX11_count_102 (by decide) rfl (by unfold fp_rng; omega) (fun h102 => ?_) (fun h102 => ?_)
      · refine S.iconst (pc' := 110) dX11_count_109 rfl ?_
        refine S.iadd (pc' := 111) dX11_count_110 rfl ?_
        refine S.iret dX11_count_111 rfl ?_
        refine ⟨?_, hcs, frC.refl _⟩
        have g1 := hG.1
        have g2 := hG.2.1
        have v1 := hV.1
        have n1 := hN.1
        have a1 := hA.1
        (repeat' split) <;> first | omega | exact g1 | exact g2 | exact v1 | exact n1 | exact a1
      · refine S.iconst (pc' := 106) dX11_count_105 rfl ?_
        refine S.goto (pc' := 110) dX11_count_106 (by decide) ?_
        refine S.iadd (pc' := 111) dX11_count_110 rfl ?_
        refine S.iret dX11_count_111 rfl ?_
        refine ⟨?_, hcs, frC.refl _⟩
        have g1 := hG.1
        have g2 := hG.2.1
        have v1 := hV.1
        have n1 := hN.1
        have a1 := hA.1
        (repeat' split) <;> first | omega | exact g1 | exact g2 | exact v1 | exact n1 | exact a1
    · refine S.iconst (pc' := 89) dX11_count_88 rfl ?_
      refine S.goto (pc' := 93) dX11_count_89 (by decide) ?_
      refine S.aload_n (pc' := 94) dX11_count_93 rfl rfl rfl ?_
      refine S.getR (pc' := 97) dX11_count_94 rfl fX11_78 L_0 rf_0_11 ?_
      refine S.iconst (pc' := 98) dX11_count_97 rfl ?_
      refine S.aald (pc' := 99) (t := 156) dX11_count_98 rfl L_141 (by decide) (by decide) (by omega) (by omega) (by decide +kernel) ?_
      refine S.getI (pc' := 102) dX11_count_99 rfl fX11_122 (im_lay im156) ?_
      refine S.if_eq (pc' := 105) (tgt := 109) dX11_count_102 (by decide) rfl (by unfold fp_rng; omega) (fun h102 => ?_) (fun h102 => ?_)
      · refine S.iconst (pc' := 110) dX11_count_109 rfl ?_
        refine S.iadd (pc' := 111) dX11_count_110 rfl ?_
        refine S.iret dX11_count_111 rfl ?_
        refine ⟨?_, hcs, frC.refl _⟩
        have g1 := hG.1
        have g2 := hG.2.1
        have v1 := hV.1
        have n1 := hN.1
        have a1 := hA.1
        (repeat' split) <;> first | omega | exact g1 | exact g2 | exact v1 | exact n1 | exact a1
      · refine S.iconst (pc' := 106) dX11_count_105 rfl ?_
        refine S.goto (pc' := 110) dX11_count_106 (by decide) ?_
        refine S.iadd (pc' := 111) dX11_count_110 rfl ?_
        refine S.iret dX11_count_111 rfl ?_
        refine ⟨?_, hcs, frC.refl _⟩
        have g1 := hG.1
        have g2 := hG.2.1
        have v1 := hV.1
        have n1 := hN.1
        have a1 := hA.1
        (repeat' split) <;> first | omega | exact g1 | exact g2 | exact v1 | exact n1 | exact a1
  · refine S.tableIn (tgt := 112) dX11_count_1 (by unfold fp_rng; omega) (by omega) (by omega) (by rw [hs]; rfl) (by decide) ?_
    refine S.aload_n (pc' := 113) dX11_count_112 rfl rfl rfl ?_
    refine S.getI (pc' := 116) dX11_count_113 rfl fX11_90 L_0 ?_
    refine S.iret dX11_count_116 rfl ?_
    refine ⟨?_, hcs, frC.refl _⟩
    have g1 := hG.1
    have g2 := hG.2.1
    have v1 := hV.1
    have n1 := hN.1
    have a1 := hA.1
    (repeat' split) <;> first | omega | exact g1 | exact g2 | exact v1 | exact n1 | exact a1
  · refine S.tableIn (tgt := 117) dX11_count_1 (by unfold fp_rng; omega) (by omega) (by omega) (by rw [hs]; rfl) (by decide) ?_
    refine S.aload_n (pc' := 118) dX11_count_117 rfl rfl rfl ?_
    refine S.getR (pc' := 121) dX11_count_118 rfl fX11_84 L_0 rf_0_12 ?_
    refine S.iconst (pc' := 122) dX11_count_121 rfl ?_
    refine S.aald (pc' := 123) (t := 169) dX11_count_122 rfl L_142 (by decide) (by decide) (by omega) (by omega) (by decide +kernel) ?_
    refine S.getI (pc' := 126) dX11_count_123 rfl fX11_344 (sh_lay sh169) ?_
    refine S.iret dX11_count_126 rfl ?_
    refine ⟨?_, hcs, frC.refl _⟩
    have g1 := hG.1
    have g2 := hG.2.1
    have v1 := hV.1
    have n1 := hN.1
    have a1 := hA.1
    (repeat' split) <;> first | omega | exact g1 | exact g2 | exact v1 | exact n1 | exact a1
theorem mm_count {w : Int} (hc : MS M tp fl g pg vs nt im sh tn) (ho : OK g pg vs nt im sh) (hw : fp_rng w) : fp_Ok l G 1 kX12_count [rV G 177, iV w] M (qI fun z N => z = A_count tp g vs nt im sh w ∧ MS N tp fl g pg vs nt im sh tn ∧ frD M N) := by
  have hcs := hc
  have hw' := hw
  unfold fp_rng at hw'
  obtain ⟨hA, hG, hP, hV, hN, hI, hS, hK⟩ := hc
  have i0 : M 199 (0 : Int).toNat = if (im 0).isSome then 1 else 0 := by
    rcases hI 0 (by omega) (by omega) with ⟨q1, q2⟩ | ⟨x, q1, q2, -⟩
    · rw [q1]; exact q2
    · rw [q1]; exact q2
  have i1 : M 199 (1 : Int).toNat = if (im 1).isSome then 1 else 0 := by
    rcases hI 1 (by omega) (by omega) with ⟨q1, q2⟩ | ⟨x, q1, q2, -⟩
    · rw [q1]; exact q2
    · rw [q1]; exact q2
  have b0 : M 199 (0 : Int).toNat = 0 ∨ M 199 (0 : Int).toNat = 1 := by rw [i0]; split <;> omega
  have b1 : M 199 (1 : Int).toNat = 0 ∨ M 199 (1 : Int).toNat = 1 := by rw [i1]; split <;> omega
  have s0 := hS 0 (by omega) (by omega)
  have s1 : M 200 (0 : Int).toNat = (sh 0).1 := s0.1
  have s2 : (sh 0).1 ≠ -4 → M 201 (0 : Int).toNat = (sh 0).2.1 := fun q => (s0.2 q).1
  have s3 : fp_rng (M 200 (0 : Int).toNat) := by
    rw [s1]
    unfold fp_rng
    have := ho.2.2.2.2.2 0 (by omega) (by omega)
    omega
  refine fp_Ok.of (r := 0) rfl (Nat.le_of_ble_eq_true rfl) rfl ?_
  unfold A_count
  rw [← i0, ← i1]
  refine S.iload_n (pc' := 1) dX12_count_0 rfl rfl rfl ?_
  rcases (show w < 0 ∨ 6 < w ∨ w = 0 ∨ w = 1 ∨ w = 2 ∨ w = 3 ∨ w = 4 ∨ w = 5 ∨ w = 6 by omega) with hs | hs | hs | hs | hs | hs | hs | hs | hs
  · refine S.tableOut (tgt := 125) dX12_count_1 (by unfold fp_rng; omega) (by omega) (by decide) ?_
    refine S.iconst (pc' := 126) dX12_count_125 rfl ?_
    refine S.iret dX12_count_126 rfl ?_
    refine ⟨?_, hcs, frD.refl _⟩
    have g1 := hG.1
    have g2 := hG.2.1
    have v1 := hV.1
    have n1 : M 178 (104 : Int).toNat = nt.length := hN.1
    have a1 := hA.1
    (repeat' split) <;> first | omega | exact g1 | exact g2 | exact v1 | exact n1 | exact a1
  · refine S.tableOut (tgt := 125) dX12_count_1 (by unfold fp_rng; omega) (by omega) (by decide) ?_
    refine S.iconst (pc' := 126) dX12_count_125 rfl ?_
    refine S.iret dX12_count_126 rfl ?_
    refine ⟨?_, hcs, frD.refl _⟩
    have g1 := hG.1
    have g2 := hG.2.1
    have v1 := hV.1
    have n1 : M 178 (104 : Int).toNat = nt.length := hN.1
    have a1 := hA.1
    (repeat' split) <;> first | omega | exact g1 | exact g2 | exact v1 | exact n1 | exact a1
  · refine S.tableIn (tgt := 44) dX12_count_1 (by unfold fp_rng; omega) (by omega) (by omega) (by rw [hs]; rfl) (by decide) ?_
    refine S.aload_n (pc' := 45) dX12_count_44 rfl rfl rfl ?_
    refine S.getI (pc' := 48) dX12_count_45 rfl fX12_181 L_177 ?_
    refine S.iret dX12_count_48 rfl ?_
    refine ⟨?_, hcs, frD.refl _⟩
    have g1 := hG.1
    have g2 := hG.2.1
    have v1 := hV.1
    have n1 : M 178 (104 : Int).toNat = nt.length := hN.1
    have a1 := hA.1
    (repeat' split) <;> first | omega | exact g1 | exact g2 | exact v1 | exact n1 | exact a1
  · refine S.tableIn (tgt := 49) dX12_count_1 (by unfold fp_rng; omega) (by omega) (by omega) (by rw [hs]; rfl) (by decide) ?_
    refine S.aload_n (pc' := 50) dX12_count_49 rfl rfl rfl ?_
    refine S.getI (pc' := 53) dX12_count_50 rfl fX12_184 L_177 ?_
    refine S.iret dX12_count_53 rfl ?_
    refine ⟨?_, hcs, frD.refl _⟩
    have g1 := hG.1
    have g2 := hG.2.1
    have v1 := hV.1
    have n1 : M 178 (104 : Int).toNat = nt.length := hN.1
    have a1 := hA.1
    (repeat' split) <;> first | omega | exact g1 | exact g2 | exact v1 | exact n1 | exact a1
  · refine S.tableIn (tgt := 54) dX12_count_1 (by unfold fp_rng; omega) (by omega) (by omega) (by rw [hs]; rfl) (by decide) ?_
    refine S.aload_n (pc' := 55) dX12_count_54 rfl rfl rfl ?_
    refine S.callVe (pc' := 58) dX12_count_55 rfl cX12_225 (ok_X12_visits) rfl L_177 (by decide) rfl (Nat.le_of_ble_eq_true rfl) ?_
    refine S.iret dX12_count_58 rfl ?_
    refine ⟨?_, hcs, frD.refl _⟩
    have g1 := hG.1
    have g2 := hG.2.1
    have v1 := hV.1
    have n1 : M 178 (104 : Int).toNat = nt.length := hN.1
    have a1 := hA.1
    (repeat' split) <;> first | omega | exact g1 | exact g2 | exact v1 | exact n1 | exact a1
  · refine S.tableIn (tgt := 59) dX12_count_1 (by unfold fp_rng; omega) (by omega) (by omega) (by rw [hs]; rfl) (by decide) ?_
    refine S.aload_n (pc' := 60) dX12_count_59 rfl rfl rfl ?_
    refine S.getR (pc' := 63) dX12_count_60 rfl fX12_7 L_177 rf_177_0 ?_
    refine S.bipush (pc' := 65) dX12_count_63 rfl (by decide) ?_
    refine S.iald (pc' := 66) dX12_count_65 rfl L_178 (by omega) (by omega) ?_
    refine S.iret dX12_count_66 rfl ?_
    refine ⟨?_, hcs, frD.refl _⟩
    have g1 := hG.1
    have g2 := hG.2.1
    have v1 := hV.1
    have n1 : M 178 (104 : Int).toNat = nt.length := hN.1
    have a1 := hA.1
    (repeat' split) <;> first | omega | exact g1 | exact g2 | exact v1 | exact n1 | exact a1
  · refine S.tableIn (tgt := 67) dX12_count_1 (by unfold fp_rng; omega) (by omega) (by omega) (by rw [hs]; rfl) (by decide) ?_
    refine S.aload_n (pc' := 68) dX12_count_67 rfl rfl rfl ?_
    refine S.getR (pc' := 71) dX12_count_68 rfl fX12_78 L_177 rf_177_40 ?_
    refine S.iconst (pc' := 72) dX12_count_71 rfl ?_
    refine S.zald (pc' := 73) dX12_count_72 rfl L_199 (by omega) (by omega) ?_
    refine S.if_eq (pc' := 76) (tgt := 80) dX12_count_73 (by decide) rfl (by unfold fp_rng; omega) (fun h73 => ?_) (fun h73 => ?_)
    · refine S.iconst (pc' := 81) dX12_count_80 rfl ?_
      refine S.aload_n (pc' := 82) dX12_count_81 rfl rfl rfl ?_
      refine S.getR (pc' := 85) dX12_count_82 rfl fX12_78 L_177 rf_177_40 ?_
      refine S.iconst (pc' := 86) dX12_count_85 rfl ?_
      refine S.zald (pc' := 87) dX12_count_86 rfl L_199 (by omega) (by omega) ?_
      refine S.if_eq (pc' := 90) (tgt := 94) dX12_count_87 (by decide) rfl (by unfold fp_rng; omega) (fun h87 => ?_) (fun h87 => ?_)
      · refine S.iconst (pc' := 95) dX12_count_94 rfl ?_
        refine S.iadd (pc' := 96) dX12_count_95 rfl ?_
        refine S.iret dX12_count_96 rfl ?_
        refine ⟨?_, hcs, frD.refl _⟩
        have g1 := hG.1
        have g2 := hG.2.1
        have v1 := hV.1
        have n1 : M 178 (104 : Int).toNat = nt.length := hN.1
        have a1 := hA.1
        (repeat' split) <;> first | omega | exact g1 | exact g2 | exact v1 | exact n1 | exact a1
      · refine S.iconst (pc' := 91) dX12_count_90 rfl ?_
        refine S.goto (pc' := 95) dX12_count_91 (by decide) ?_
        refine S.iadd (pc' := 96) dX12_count_95 rfl ?_
        refine S.iret dX12_count_96 rfl ?_
        refine ⟨?_, hcs, frD.refl _⟩
        have g1 := hG.1
        have g2 := hG.2.1
        have v1 := hV.1
        have n1 : M 178 (104 : Int).toNat = nt.length := hN.1
        have a1 := hA.1
        (repeat' split) <;> first | omega | exact g1 | exact g2 | exact v1 | exact n1 | exact a1
    · refine S.iconst (pc' := 77) dX12_count_76 rfl ?_
      refine S.goto (pc' := 81) dX12_count_77 (by decide) ?_
      refine S.aload_n (pc' := 82) dX12_count_81 rfl rfl rfl ?_
      refine S.getR (pc' := 85) dX12_count_82 rfl fX12_78 L_177 rf_177_40 ?_
      refine S.iconst (pc' := 86) dX12_count_85 rfl ?_
      refine S.zald (pc' := 87) dX12_count_86 rfl L_199 (by omega) (by omega) ?_
      refine S.if_eq (pc' := 90) (tgt := 94) dX12_count_87 (by decide) rfl (by unfold fp_rng; omega) (fun h87 => ?_) (fun h87 => ?_)
      · refine S.iconst (pc' := 95) dX12_count_94 rfl ?_
        refine S.iadd (pc' := 96) dX12_count_95 rfl ?_
        refine S.iret dX12_count_96 rfl ?_
        refine ⟨?_, hcs, frD.refl _⟩
        have g1 := hG.1
        have g2 := hG.2.1
        have v1 := hV.1
        have n1 : M 178 (104 : Int).toNat = nt.length := hN.1
        have a1 := hA.1
        (repeat' split) <;> first | omega | exact g1 | exact g2 | exact v1 | exact n1 | exact a1
      · refine S.iconst (pc' := 91) dX12_count_90 rfl ?_
        refine S.goto (pc' := 95) dX12_count_91 (by decide) ?_
        refine S.iadd (pc' := 96) dX12_count_95 rfl ?_
        refine S.iret dX12_count_96 rfl ?_
        refine ⟨?_, hcs, frD.refl _⟩
        have g1 := hG.1
        have g2 := hG.2.1
        have v1 := hV.1
        have n1 : M 178 (104 : Int).toNat = nt.length := hN.1
        have a1 := hA.1
        (repeat' split) <;> first | omega | exact g1 | exact g2 | exact v1 | exact n1 | exact a1
  · refine S.tableIn (tgt := 97) dX12_count_1 (by unfold fp_rng; omega) (by omega) (by omega) (by rw [hs]; rfl) (by decide) ?_
    refine S.aload_n (pc' := 98) dX12_count_97 rfl rfl rfl ?_
    refine S.getI (pc' := 101) dX12_count_98 rfl fX12_91 L_177 ?_
    refine S.iret dX12_count_101 rfl ?_
    refine ⟨?_, hcs, frD.refl _⟩
    have g1 := hG.1
    have g2 := hG.2.1
    have v1 := hV.1
    have n1 : M 178 (104 : Int).toNat = nt.length := hN.1
    have a1 := hA.1
    (repeat' split) <;> first | omega | exact g1 | exact g2 | exact v1 | exact n1 | exact a1
  · refine S.tableIn (tgt := 102) dX12_count_1 (by unfold fp_rng; omega) (by omega) (by omega) (by rw [hs]; rfl) (by decide) ?_
    refine S.aload_n (pc' := 103) dX12_count_102 rfl rfl rfl ?_
    refine S.getR (pc' := 106) dX12_count_103 rfl fX12_82 L_177 rf_177_41 ?_
    refine S.iconst (pc' := 107) dX12_count_106 rfl ?_
    refine S.iald (pc' := 108) dX12_count_107 rfl L_200 (by omega) (by omega) ?_
    refine S.bipush (pc' := 110) dX12_count_108 rfl (by decide) ?_
    refine S.icmp_ne (pc' := 113) (tgt := 118) dX12_count_110 (by decide) rfl s3 (by unfold fp_rng; omega) (fun h110 => ?_) (fun h110 => ?_)
    · refine S.aload_n (pc' := 119) dX12_count_118 rfl rfl rfl ?_
      refine S.getR (pc' := 122) dX12_count_119 rfl fX12_85 L_177 rf_177_42 ?_
      refine S.iconst (pc' := 123) dX12_count_122 rfl ?_
      refine S.iald (pc' := 124) dX12_count_123 rfl L_201 (by omega) (by omega) ?_
      refine S.iret dX12_count_124 rfl ?_
      refine ⟨?_, hcs, frD.refl _⟩
      have g1 := hG.1
      have g2 := hG.2.1
      have v1 := hV.1
      have n1 : M 178 (104 : Int).toNat = nt.length := hN.1
      have a1 := hA.1
      (repeat' split) <;> first | omega | exact g1 | exact g2 | exact v1 | exact n1 | exact a1
    · refine S.bipush (pc' := 115) dX12_count_113 rfl (by decide) ?_
      refine S.goto (pc' := 124) dX12_count_115 (by decide) ?_
      refine S.iret dX12_count_124 rfl ?_
      refine ⟨?_, hcs, frD.refl _⟩
      have g1 := hG.1
      have g2 := hG.2.1
      have v1 := hV.1
      have n1 : M 178 (104 : Int).toNat = nt.length := hN.1
      have a1 := hA.1
      (repeat' split) <;> first | omega | exact g1 | exact g2 | exact v1 | exact n1 | exact a1
end JOI
end
section
/-! READ -/
def aRd (g : aGd) (vs0 : List aVt) (tn : Int) (c : Int → Int) (len f : Int) : Nat → Int → List aVt → Int × List aVt × Int
  | 0, j, vs => (j, vs, 0)
  | n + 1, j, vs => if ¬ (0 ≤ f ∧ f + 4 * j + 3 < len) then (j, vs, 2) else if (A_come g vs (c (f + 4 * j)) (c (f + 4 * j + 1)) (c (f + 4 * j + 2)) (c (f + 4 * j + 3))).1 < 0 then (-20 - j, vs0, tn) else aRd g vs0 tn c len f n (j + 1) (A_come g vs (c (f + 4 * j)) (c (f + 4 * j + 1)) (c (f + 4 * j + 2)) (c (f + 4 * j + 3))).2
def A_read (g : aGd) (vs : List aVt) (sh : aSh) (tn k lane f n : Int) : Int × List aVt × Int := if ¬ ((0 ≤ k ∧ k ≤ 3) ∧ (0 ≤ lane ∧ lane ≤ 2) ∧ (0 ≤ n ∧ n ≤ 10)) then (-1, vs, tn) else if n = 0 then (0, vs, 0) else if (sh k).1 = -4 then (0, vs, 1) else if (sh k).1 ≠ lane then (0, vs, 3) else aRd g vs tn (sh k).2.2 (sh k).2.1 f n.toNat 0 vs
theorem A_come_or (g : aGd) (vs : List aVt) (a b c d : Int) : ((A_come g vs a b c d).1 < 0 ∧ (A_come g vs a b c d).2 = vs) ∨ (0 ≤ (A_come g vs a b c d).1 ∧ (A_come g vs a b c d).2 = vs ++ [(a, b, c, d)]) := by
  unfold A_come
  split
  · exact Or.inl ⟨by dsimp only; omega, rfl⟩
  · split
    · exact Or.inl ⟨by dsimp only; omega, rfl⟩
    · exact Or.inr ⟨by dsimp only; omega, rfl⟩
theorem aRd_ok {g : aGd} {vs0 : List aVt} {tn : Int} {c : Int → Int} {len f : Int} (h0 : vsOk g vs0) : ∀ (n : Nat) (j : Int) (vs : List aVt), vsOk g vs → vsOk g (aRd g vs0 tn c len f n j vs).2.1
  | 0, j, vs, h => h
  | n + 1, j, vs, h => by
    unfold aRd
    split
    · exact h
    · split
      · exact h0
      · exact aRd_ok h0 n (j + 1) _ (A_come_ok h)
theorem A_read_ok {g : aGd} {vs : List aVt} {sh : aSh} {tn k lane f n : Int} (h : vsOk g vs) : vsOk g (A_read g vs sh tn k lane f n).2.1 := by
  unfold A_read
  (repeat' split) <;> first | exact h | exact aRd_ok h _ _ _ h
theorem fp_rem4 {i : Int} (h : 0 ≤ i ∧ i < 40) : Int32.ofInt i - Int32.ofInt i / Int32.ofInt 4 * Int32.ofInt 4 = Int32.ofInt (i % 4) := by
  obtain ⟨n, rfl⟩ := Int.eq_ofNat_of_zero_le h.1
  exact (by decide +kernel : ∀ n : Nat, n < 40 → Int32.ofInt (n : Int) - Int32.ofInt n / Int32.ofInt 4 * Int32.ofInt 4 = Int32.ofInt ((n : Int) % 4)) n (by omega)
section REA
variable {l : Launch} {G : fp_WG} {M N : fp_Mem} {tp tp' : List Int} {fl fl' : Int} {g : aGd} {pg pg' : aPg} {vs vs' : List aVt} {nt nt' : List Int} {im im' : aIm} {sh sh' : aSh} {tn tn' : Int} {k k2 : Nat}
theorem vsIs.pre {ex : List aVt} (h : vsIs M k (vs ++ ex)) (e0 : N k 0 = vs.length) (e : ∀ a, k < a → a ≤ k + 4 → N a = M a) : vsIs N k vs := by
  obtain ⟨h1, h2, h3⟩ := h
  rw [List.length_append] at h1 h2
  refine ⟨e0, by omega, fun i i0 i1 => ?_⟩
  rw [e (k + 1) (by omega) (by omega), e (k + 2) (by omega) (by omega), e (k + 3) (by omega) (by omega), e (k + 4) (by omega) (by omega)]
  have q := h3 i i0 (by rw [List.length_append]; omega)
  rw [show (vs ++ ex).getD i.toNat aV0 = vs.getD i.toNat aV0 by rw [List.getD_eq_getElem?_getD, List.getElem?_append_left (by omega), List.getD_eq_getElem?_getD]] at q
  exact q
theorem mvRow.pre {f h : Nat → Int} {ex : List aVt} (c : mvRow f (vs ++ ex)) (e0 : h 95 = vs.length) (e : ∀ j : Nat, j < 95 → h j = f j) : mvRow h vs := by
  obtain ⟨h1, h2, h3⟩ := c
  rw [List.length_append] at h1 h2
  refine ⟨e0, by omega, fun i i0 i1 => ?_⟩
  rw [e _ (by omega), e _ (by omega), e _ (by omega), e _ (by omega)]
  have q := h3 i i0 (by rw [List.length_append]; omega)
  rw [show (vs ++ ex).getD i.toNat aV0 = vs.getD i.toNat aV0 by rw [List.getD_eq_getElem?_getD, List.getElem?_append_left (by omega), List.getD_eq_getElem?_getD]] at q
  exact q
theorem ok_X9_faultTakenAs {lane : Int} (hk : fp_issh k) (hl : fp_rng lane := by first | assumption | (unfold fp_rng; omega)) (hm : fp_rng (M k 1) := by first | assumption | (unfold fp_rng; omega)) (hn : M k 1 = -4 ∨ fp_rng (M k 0)) : fp_Ok l G 1 kX9_faultTakenAs [rV G k, iV lane] M (qI fun z N => z = (if M k 1 = -4 then 1 else if M k 0 = lane then 0 else 3) ∧ M = N) := by
  refine fp_Ok.of (r := 0) rfl (Nat.le_of_ble_eq_true rfl) rfl ?_
  by_cases hq4 : M k 1 = -4
  · refine S.aload_n (pc' := 1) dX9_faultTakenAs_0 rfl rfl rfl ?_
    refine S.callVi (pc' := 4) dX9_faultTakenAs_1 rfl cX9_23 (bk_X9_isThere hk) rfl (sh_lay hk) (by decide) rfl (Nat.le_of_ble_eq_true rfl) (fun z1 M1 q1 => ?_)
    obtain ⟨b1, rfl⟩ := q1
    refine S.if_ne (pc' := 7) (tgt := 9) dX9_faultTakenAs_4 (by decide) rfl (by unfold fp_rng; omega) (fun h4 => ?_) (fun h4 => ?_)
    · exfalso; omega
    · refine S.iconst (pc' := 8) dX9_faultTakenAs_7 rfl ?_
      refine S.iret dX9_faultTakenAs_8 rfl ?_
      exact ⟨by rw [if_pos hq4], rfl⟩
  · have hn2 : fp_rng (M k 0) := by
      rcases hn with q | q
      · exact absurd q hq4
      · exact q
    refine S.aload_n (pc' := 1) dX9_faultTakenAs_0 rfl rfl rfl ?_
    refine S.callVi (pc' := 4) dX9_faultTakenAs_1 rfl cX9_23 (bk_X9_isThere hk) rfl (sh_lay hk) (by decide) rfl (Nat.le_of_ble_eq_true rfl) (fun z1 M1 q1 => ?_)
    obtain ⟨b1, rfl⟩ := q1
    refine S.if_ne (pc' := 7) (tgt := 9) dX9_faultTakenAs_4 (by decide) rfl (by unfold fp_rng; omega) (fun h4 => ?_) (fun h4 => ?_)
    · refine S.aload_n (pc' := 10) dX9_faultTakenAs_9 rfl rfl rfl ?_
      refine S.getI (pc' := 13) dX9_faultTakenAs_10 rfl fX9_27 (sh_lay hk) ?_
      refine S.iload_n (pc' := 14) dX9_faultTakenAs_13 rfl rfl rfl ?_
      refine S.icmp_ne (pc' := 17) (tgt := 21) dX9_faultTakenAs_14 (by decide) rfl hn2 hl (fun h14 => ?_) (fun h14 => ?_)
      · refine S.iconst (pc' := 22) dX9_faultTakenAs_21 rfl ?_
        refine S.iret dX9_faultTakenAs_22 rfl ?_
        exact ⟨by rw [if_neg hq4]; first | rw [if_pos h14] | rw [if_neg h14], rfl⟩
      · refine S.iconst (pc' := 18) dX9_faultTakenAs_17 rfl ?_
        refine S.goto (pc' := 22) dX9_faultTakenAs_18 (by decide) ?_
        refine S.iret dX9_faultTakenAs_22 rfl ?_
        exact ⟨by rw [if_neg hq4]; first | rw [if_pos h14] | rw [if_neg h14], rfl⟩
    · exfalso; omega
theorem bk_X9_hasVisit {f i : Int} (hk : fp_issh k) (hf : fp_rng f := by first | assumption | (unfold fp_rng; omega)) (hi : 0 ≤ i ∧ i < 10 := by first | assumption | omega) (hm : 0 ≤ M k 1 ∧ M k 1 ≤ 40 := by first | assumption | omega) : fp_Ok l G 1 kX9_hasVisit [rV G k, iV f, iV i] M (qI fun z N => ((z = 1 ∧ (0 ≤ f ∧ f + 4 * i + 3 < M k 1)) ∨ (z = 0 ∧ ¬ (0 ≤ f ∧ f + 4 * i + 3 < M k 1))) ∧ M = N) := by
  refine fp_Ok.of (r := 0) rfl (Nat.le_of_ble_eq_true rfl) rfl ?_
  have hf' := hf
  unfold fp_rng at hf'
  refine S.aload_n (pc' := 1) dX9_hasVisit_0 rfl rfl rfl ?_
  refine S.iload_n (pc' := 2) dX9_hasVisit_1 rfl rfl rfl ?_
  refine S.callVi (pc' := 5) dX9_hasVisit_2 rfl cX9_19 (bk_X9_has hk) rfl (sh_lay hk) (by decide) rfl (Nat.le_of_ble_eq_true rfl) (fun z2 M2 q2 => ?_)
  obtain ⟨b2, rfl⟩ := q2
  refine S.if_eq (pc' := 8) (tgt := 28) dX9_hasVisit_5 (by decide) rfl (by unfold fp_rng; omega) (fun h5 => ?_) (fun h5 => ?_)
  · refine S.iconst (pc' := 29) dX9_hasVisit_28 rfl ?_
    refine S.zret dX9_hasVisit_29 rfl (by first | exact Or.inl rfl | exact Or.inr rfl | omega) ?_
    exact ⟨by omega, rfl⟩
  · refine S.aload_n (pc' := 9) dX9_hasVisit_8 rfl rfl rfl ?_
    refine S.iload_n (pc' := 10) dX9_hasVisit_9 rfl rfl rfl ?_
    refine S.iload_n (pc' := 11) dX9_hasVisit_10 rfl rfl rfl ?_
    refine S.iconst (pc' := 12) dX9_hasVisit_11 rfl ?_
    refine S.iadd (pc' := 13) dX9_hasVisit_12 rfl ?_
    refine S.iconst (pc' := 14) dX9_hasVisit_13 rfl ?_
    refine S.imul (pc' := 15) dX9_hasVisit_14 rfl ?_
    refine S.iadd (pc' := 16) dX9_hasVisit_15 rfl ?_
    refine S.iconst (pc' := 17) dX9_hasVisit_16 rfl ?_
    refine S.isub (pc' := 18) dX9_hasVisit_17 rfl ?_
    refine S.callVi (pc' := 21) dX9_hasVisit_18 rfl cX9_19 (bk_X9_has hk) rfl (sh_lay hk) (by decide) rfl (Nat.le_of_ble_eq_true rfl) (fun z18 M18 q18 => ?_)
    obtain ⟨b18, rfl⟩ := q18
    refine S.if_eq (pc' := 24) (tgt := 28) dX9_hasVisit_21 (by decide) rfl (by unfold fp_rng; omega) (fun h21 => ?_) (fun h21 => ?_)
    · refine S.iconst (pc' := 29) dX9_hasVisit_28 rfl ?_
      refine S.zret dX9_hasVisit_29 rfl (by first | exact Or.inl rfl | exact Or.inr rfl | omega) ?_
      exact ⟨by omega, rfl⟩
    · refine S.iconst (pc' := 25) dX9_hasVisit_24 rfl ?_
      refine S.goto (pc' := 29) dX9_hasVisit_25 (by decide) ?_
      refine S.zret dX9_hasVisit_29 rfl (by first | exact Or.inl rfl | exact Or.inr rfl | omega) ?_
      exact ⟨by omega, rfl⟩
theorem rk_X11_tellVisitOf {i : Int} {c : Int → Int} (hk : fp_issh k) (hv : vsIs M 27 vs := by assumption) (hd : gdIs M 18 g := by assumption) (hg : gOk g := by assumption) (hvo : vsOk g vs := by assumption) (hi : 0 ≤ i ∧ i + 3 < 40 := by first | assumption | omega) (hcl : ∀ i : Int, 0 ≤ i → i < 40 → M (k + 1) i.toNat = c i := by assumption) (hcr : ∀ i : Int, 0 ≤ i → i < 40 → fp_rng (c i) := by assumption) : fp_Ok l G 2 kX11_tellVisitOf [rV G 0, rV G k, iV i] M (qI fun z N => z = (A_come g vs (c i) (c (i + 1)) (c (i + 2)) (c (i + 3))).1 ∧ vsIs N 27 (A_come g vs (c i) (c (i + 1)) (c (i + 2)) (c (i + 3))).2 ∧ ∀ a, (a < 27 ∨ 31 < a) → N a = M a) := by
  refine fp_Ok.of (r := 0) rfl (Nat.le_of_ble_eq_true rfl) rfl ?_
  refine S.aload_n (pc' := 1) dX11_tellVisitOf_0 rfl rfl rfl ?_
  refine S.aload_n (pc' := 2) dX11_tellVisitOf_1 rfl rfl rfl ?_
  refine S.getR (pc' := 5) dX11_tellVisitOf_2 rfl fX11_352 (sh_lay hk) (sh_r2 hk) ?_
  refine S.iload_n (pc' := 6) dX11_tellVisitOf_5 rfl rfl rfl ?_
  refine S.iald (pc' := 7) dX11_tellVisitOf_6 rfl (sh_a2 hk) (by omega) (by omega) ?_
  refine S.aload_n (pc' := 8) dX11_tellVisitOf_7 rfl rfl rfl ?_
  refine S.getR (pc' := 11) dX11_tellVisitOf_8 rfl fX11_352 (sh_lay hk) (sh_r2 hk) ?_
  refine S.iload_n (pc' := 12) dX11_tellVisitOf_11 rfl rfl rfl ?_
  refine S.iconst (pc' := 13) dX11_tellVisitOf_12 rfl ?_
  refine S.iadd (pc' := 14) dX11_tellVisitOf_13 rfl ?_
  refine S.iald (pc' := 15) dX11_tellVisitOf_14 rfl (sh_a2 hk) (by omega) (by omega) ?_
  refine S.aload_n (pc' := 16) dX11_tellVisitOf_15 rfl rfl rfl ?_
  refine S.getR (pc' := 19) dX11_tellVisitOf_16 rfl fX11_352 (sh_lay hk) (sh_r2 hk) ?_
  refine S.iload_n (pc' := 20) dX11_tellVisitOf_19 rfl rfl rfl ?_
  refine S.iconst (pc' := 21) dX11_tellVisitOf_20 rfl ?_
  refine S.iadd (pc' := 22) dX11_tellVisitOf_21 rfl ?_
  refine S.iald (pc' := 23) dX11_tellVisitOf_22 rfl (sh_a2 hk) (by omega) (by omega) ?_
  refine S.aload_n (pc' := 24) dX11_tellVisitOf_23 rfl rfl rfl ?_
  refine S.getR (pc' := 27) dX11_tellVisitOf_24 rfl fX11_352 (sh_lay hk) (sh_r2 hk) ?_
  refine S.iload_n (pc' := 28) dX11_tellVisitOf_27 rfl rfl rfl ?_
  refine S.iconst (pc' := 29) dX11_tellVisitOf_28 rfl ?_
  refine S.iadd (pc' := 30) dX11_tellVisitOf_29 rfl ?_
  refine S.iald (pc' := 31) dX11_tellVisitOf_30 rfl (sh_a2 hk) (by omega) (by omega) ?_
  rw [hcl i (by omega) (by omega), hcl (i + 1) (by omega) (by omega), hcl (i + 2) (by omega) (by omega), hcl (i + 3) (by omega) (by omega)]
  refine S.callVi (pc' := 34) dX11_tellVisitOf_31 rfl cX11_201 (rk_X11_tellVisit (g := g) (vs := vs) (h1 := hcr _ (by omega) (by omega)) (h2 := hcr _ (by omega) (by omega)) (h3 := hcr _ (by omega) (by omega)) (h4 := hcr _ (by omega) (by omega))) rfl L_0 (by decide) rfl (Nat.le_of_ble_eq_true rfl) (fun z31 M31 q31 => ?_)
  refine S.iret dX11_tellVisitOf_34 rfl ?_
  exact q31
theorem CS.torn {v : Int} (h : CS M tp fl g pg vs nt im sh tn) (hv : 0 ≤ v ∧ v ≤ 4) : CS (fp_up M 0 13 v) tp fl g pg vs nt im sh v := by
  refine h.tap (fun a ha => fp_up_ne (by omega)) ?_
  obtain ⟨h1, h2, h3, h4, h5, h6, h7⟩ := h.1
  refine ⟨by rw [fp_up_at, fp_upf_ne (by decide)]; exact h1, h2, fun i i0 i1 => ?_, by rw [fp_up_ne (by decide)]; exact h4, by rw [fp_up_at, fp_upf_at], h6, hv⟩
  rw [fp_up_ne (by decide)]
  exact h3 i i0 i1
theorem MS.torn {v : Int} (h : MS M tp fl g pg vs nt im sh tn) : MS (fp_up M 177 44 v) tp fl g pg vs nt im sh v := by
  refine h.tap (fun a ha hb => fp_up_ne (by omega)) (by rw [fp_up_at, fp_upf_ne (by decide), fp_upf_ne (by decide), fp_upf_ne (by decide)]; exact ⟨rfl, rfl, rfl⟩) ?_
  obtain ⟨h1, h2, h3, h4, h5⟩ := h.1
  refine ⟨by rw [fp_up_at, fp_upf_ne (by decide)]; exact h1, h2, fun i i0 i1 => ?_, by rw [fp_up_at, fp_upf_ne (by decide)]; exact h4, by rw [fp_up_at, fp_upf_at]⟩
  rw [fp_up_ne (by decide)]
  exact h3 i i0 i1
theorem cread_loop {k9 lane f n9 : Int} (hk : 0 ≤ k9 ∧ k9 ≤ 3) (hf : fp_rng f) (hn9 : 0 ≤ n9 ∧ n9 ≤ 10) (ho : OK g pg vs nt im sh) (hne : (sh k9).1 ≠ -4) (h12 : vs.length ≤ 12) : ∀ (m : Nat) (i : Int) (N : fp_Mem) (ex : List aVt), (n9 - i).toNat = m → 0 ≤ i → i ≤ n9 → CS N tp fl g pg (vs ++ ex) nt im sh tn → frC M N → vsOk g (vs ++ ex) →
    fp_S l G 3 kX11_read 78 [some (rV G 0), some (iV k9), some (iV lane), some (iV f), some (iV n9), some (rV G (169 + 2 * k9.toNat)), some (iV 0), some (iV vs.length), some (iV i)] [] N (qI fun z O => z = (aRd g vs tn (sh k9).2.2 (sh k9).2.1 f m i (vs ++ ex)).1 ∧ CS O tp fl g pg (aRd g vs tn (sh k9).2.2 (sh k9).2.1 f m i (vs ++ ex)).2.1 nt im sh (aRd g vs tn (sh k9).2.2 (sh k9).2.1 f m i (vs ++ ex)).2.2 ∧ frC M O) := by
  have ho1 := shs_o hk.1 (show k9 < 4 by omega)
  have hg := ho.1
  have hsh : (0 ≤ (sh k9).1 ∧ (sh k9).1 ≤ 2) ∧ (0 ≤ (sh k9).2.1 ∧ (sh k9).2.1 ≤ 40) ∧ ∀ i, 0 ≤ i → i < 40 → fp_rng ((sh k9).2.2 i) := by
    rcases ho.2.2.2.2.2 k9 hk.1 (by omega) with q | q
    · exact absurd q hne
    · exact q
  obtain ⟨hs1, hs2, hcr⟩ := hsh
  have hf' := hf
  unfold fp_rng at hf'
  intro m
  induction m with
  | zero =>
    intro i N ex h i0 i1 hc hfr hvo
    refine S.iload (pc' := 80) dX11_read_78 rfl rfl ?_
    refine S.iload (pc' := 82) dX11_read_80 rfl rfl ?_
    refine S.icmp_ge (pc' := 85) (tgt := 140) dX11_read_82 (by decide) rfl (by unfold fp_rng; omega) (by unfold fp_rng; omega) (fun h82 => ?_) (fun h82 => ?_)
    · refine S.aload_n (pc' := 141) dX11_read_140 rfl rfl rfl ?_
      refine S.iconst (pc' := 142) dX11_read_141 rfl ?_
      refine S.putI (pc' := 145) dX11_read_142 rfl fX11_334 L_0 ?_
      refine S.iload (pc' := 147) dX11_read_145 rfl rfl ?_
      refine S.iret dX11_read_147 rfl ?_
      refine ⟨by show _ = i; omega, hc.torn (by omega), fun c hcc => by rw [fp_up_ne (by omega)]; exact hfr c hcc⟩
    · exfalso; omega
  | succ m ih =>
    intro i N ex h i0 i1 hc hfr hvo
    have hcs := hc
    obtain ⟨hA, hd, hP, hv, hNt, hI, hS⟩ := hc
    have hk2 : N (169 + 2 * k9.toNat) 1 = (sh k9).2.1 ∧ ∀ i : Int, 0 ≤ i → i < 40 → N (169 + 2 * k9.toNat + 1) i.toNat = (sh k9).2.2 i := by
      rcases hS k9 hk.1 (by omega) with q | q
      · exact absurd q.1 hne
      · exact q.2.2
    obtain ⟨hk3, hcl⟩ := hk2
    unfold aRd
    by_cases hr : 0 ≤ f ∧ f + 4 * i + 3 < (sh k9).2.1
    · rw [if_neg (fun q => q hr)]
      have e4 : f + i * 4 = f + 4 * i := by omega
      have hor := A_come_or g (vs ++ ex) ((sh k9).2.2 (f + 4 * i)) ((sh k9).2.2 (f + 4 * i + 1)) ((sh k9).2.2 (f + 4 * i + 2)) ((sh k9).2.2 (f + 4 * i + 3))
      have hok := A_come_ok (g := g) (vs := vs ++ ex) (day := (sh k9).2.2 (f + 4 * i)) (p := (sh k9).2.2 (f + 4 * i + 1)) (x := (sh k9).2.2 (f + 4 * i + 2)) (t := (sh k9).2.2 (f + 4 * i + 3)) hvo
      generalize hY : A_come g (vs ++ ex) ((sh k9).2.2 (f + 4 * i)) ((sh k9).2.2 (f + 4 * i + 1)) ((sh k9).2.2 (f + 4 * i + 2)) ((sh k9).2.2 (f + 4 * i + 3)) = Y at hor hok ⊢
      have hYb : -3 ≤ Y.1 ∧ Y.1 ≤ 13 := by
        rw [← hY]
        have hl := hv.2.1
        unfold A_come
        split
        · dsimp only; omega
        · split
          · dsimp only; omega
          · dsimp only; omega
      by_cases hneg : Y.1 < 0
      · rw [if_pos hneg]
        refine S.iload (pc' := 80) dX11_read_78 rfl rfl ?_
        refine S.iload (pc' := 82) dX11_read_80 rfl rfl ?_
        refine S.icmp_ge (pc' := 85) (tgt := 140) dX11_read_82 (by decide) rfl (by unfold fp_rng; omega) (by unfold fp_rng; omega) (fun h82 => ?_) (fun h82 => ?_)
        · exfalso; omega
        · refine S.aload (pc' := 87) dX11_read_85 rfl rfl ?_
          refine S.iload_n (pc' := 88) dX11_read_87 rfl rfl rfl ?_
          refine S.iload (pc' := 90) dX11_read_88 rfl rfl ?_
          refine S.callVi (pc' := 93) dX11_read_90 rfl cX11_337 (bk_X9_hasVisit ho1) rfl (sh_lay ho1) (by decide) rfl (Nat.le_of_ble_eq_true rfl) (fun z90 M90 q90 => ?_)
          obtain ⟨b90, rfl⟩ := q90
          refine S.if_ne (pc' := 96) (tgt := 104) dX11_read_93 (by decide) rfl (by unfold fp_rng; omega) (fun h93 => ?_) (fun h93 => ?_)
          · refine S.aload_n (pc' := 105) dX11_read_104 rfl rfl rfl ?_
            refine S.aload (pc' := 107) dX11_read_105 rfl rfl ?_
            refine S.iload_n (pc' := 108) dX11_read_107 rfl rfl rfl ?_
            refine S.iload (pc' := 110) dX11_read_108 rfl rfl ?_
            refine S.iconst (pc' := 111) dX11_read_110 rfl ?_
            refine S.imul (pc' := 112) dX11_read_111 rfl ?_
            refine S.iadd (pc' := 113) dX11_read_112 rfl ?_
            rw [e4]
            refine S.callVi (pc' := 116) dX11_read_113 rfl cX11_340 (rk_X11_tellVisitOf (c := (sh k9).2.2) (g := g) (vs := vs ++ ex) ho1) rfl L_0 (by decide) rfl (Nat.le_of_ble_eq_true rfl) (fun z113 M113 q113 => ?_)
            rw [hY] at q113
            obtain ⟨z1, c1, f1⟩ := q113
            refine S.if_ge (pc' := 119) (tgt := 134) dX11_read_116 (by decide) rfl (by unfold fp_rng; omega) (fun h116 => ?_) (fun h116 => ?_)
            · exfalso; omega
            · refine S.aload_n (pc' := 120) dX11_read_119 rfl rfl rfl ?_
              refine S.getR (pc' := 123) dX11_read_120 rfl fX11_37 L_0 rf_0_5 ?_
              refine S.iload (pc' := 125) dX11_read_123 rfl rfl ?_
              refine S.putI (pc' := 128) dX11_read_125 rfl fX11_205 (vs_lay vs27) ?_
              refine S.bipush (pc' := 130) dX11_read_128 rfl (by decide) ?_
              refine S.iload (pc' := 132) dX11_read_130 rfl rfl ?_
              refine S.isub (pc' := 133) dX11_read_132 rfl ?_
              refine S.iret dX11_read_133 rfl ?_
              have hY2 : Y.2 = vs ++ ex := by
                rcases hor with q | q
                · exact q.2
                · exact absurd q.1 (by omega)
              rw [hY2] at c1
              refine ⟨rfl, hcs.vis (fun a ha => by rw [fp_up_ne (by omega)]; exact f1 a ha) (c1.pre (by rw [fp_up_at, fp_upf_at]) (fun a q1 q2 => fp_up_ne (by omega))), fun c hcc => by rw [fp_up_ne (by omega), f1 c (by omega)]; exact hfr c hcc⟩
          · exfalso; omega
      · rw [if_neg hneg]
        refine S.iload (pc' := 80) dX11_read_78 rfl rfl ?_
        refine S.iload (pc' := 82) dX11_read_80 rfl rfl ?_
        refine S.icmp_ge (pc' := 85) (tgt := 140) dX11_read_82 (by decide) rfl (by unfold fp_rng; omega) (by unfold fp_rng; omega) (fun h82 => ?_) (fun h82 => ?_)
        · exfalso; omega
        · refine S.aload (pc' := 87) dX11_read_85 rfl rfl ?_
          refine S.iload_n (pc' := 88) dX11_read_87 rfl rfl rfl ?_
          refine S.iload (pc' := 90) dX11_read_88 rfl rfl ?_
          refine S.callVi (pc' := 93) dX11_read_90 rfl cX11_337 (bk_X9_hasVisit ho1) rfl (sh_lay ho1) (by decide) rfl (Nat.le_of_ble_eq_true rfl) (fun z90 M90 q90 => ?_)
          obtain ⟨b90, rfl⟩ := q90
          refine S.if_ne (pc' := 96) (tgt := 104) dX11_read_93 (by decide) rfl (by unfold fp_rng; omega) (fun h93 => ?_) (fun h93 => ?_)
          · refine S.aload_n (pc' := 105) dX11_read_104 rfl rfl rfl ?_
            refine S.aload (pc' := 107) dX11_read_105 rfl rfl ?_
            refine S.iload_n (pc' := 108) dX11_read_107 rfl rfl rfl ?_
            refine S.iload (pc' := 110) dX11_read_108 rfl rfl ?_
            refine S.iconst (pc' := 111) dX11_read_110 rfl ?_
            refine S.imul (pc' := 112) dX11_read_111 rfl ?_
            refine S.iadd (pc' := 113) dX11_read_112 rfl ?_
            rw [e4]
            refine S.callVi (pc' := 116) dX11_read_113 rfl cX11_340 (rk_X11_tellVisitOf (c := (sh k9).2.2) (g := g) (vs := vs ++ ex) ho1) rfl L_0 (by decide) rfl (Nat.le_of_ble_eq_true rfl) (fun z113 M113 q113 => ?_)
            rw [hY] at q113
            obtain ⟨z1, c1, f1⟩ := q113
            refine S.if_ge (pc' := 119) (tgt := 134) dX11_read_116 (by decide) rfl (by unfold fp_rng; omega) (fun h116 => ?_) (fun h116 => ?_)
            · refine S.iinc (pc' := 137) (LL' := [_, _, _, _, _, _, _, _, _]) dX11_read_134 rfl (by decide) rfl rfl rfl ?_
              refine S.goto (pc' := 78) dX11_read_137 (by decide) ?_
              have hY2 : ∃ v, Y.2 = vs ++ (ex ++ [v]) := by
                rcases hor with q | q
                · exact absurd q.1 hneg
                · exact ⟨_, by rw [q.2, List.append_assoc]⟩
              obtain ⟨v, hY2⟩ := hY2
              rw [hY2] at c1 hok ⊢
              exact ih _ _ _ (by omega) (by omega) (by omega) (hcs.vis f1 c1) (hfr.trans (fun c hc => f1 c (by omega))) hok
            · exfalso; omega
          · exfalso; omega
    · rw [if_pos hr]
      refine S.iload (pc' := 80) dX11_read_78 rfl rfl ?_
      refine S.iload (pc' := 82) dX11_read_80 rfl rfl ?_
      refine S.icmp_ge (pc' := 85) (tgt := 140) dX11_read_82 (by decide) rfl (by unfold fp_rng; omega) (by unfold fp_rng; omega) (fun h82 => ?_) (fun h82 => ?_)
      · exfalso; omega
      · refine S.aload (pc' := 87) dX11_read_85 rfl rfl ?_
        refine S.iload_n (pc' := 88) dX11_read_87 rfl rfl rfl ?_
        refine S.iload (pc' := 90) dX11_read_88 rfl rfl ?_
        refine S.callVi (pc' := 93) dX11_read_90 rfl cX11_337 (bk_X9_hasVisit ho1) rfl (sh_lay ho1) (by decide) rfl (Nat.le_of_ble_eq_true rfl) (fun z90 M90 q90 => ?_)
        obtain ⟨b90, rfl⟩ := q90
        refine S.if_ne (pc' := 96) (tgt := 104) dX11_read_93 (by decide) rfl (by unfold fp_rng; omega) (fun h93 => ?_) (fun h93 => ?_)
        · exfalso; omega
        · refine S.aload_n (pc' := 97) dX11_read_96 rfl rfl rfl ?_
          refine S.iconst (pc' := 98) dX11_read_97 rfl ?_
          refine S.putI (pc' := 101) dX11_read_98 rfl fX11_334 L_0 ?_
          refine S.iload (pc' := 103) dX11_read_101 rfl rfl ?_
          refine S.iret dX11_read_103 rfl ?_
          exact ⟨rfl, hcs.torn (by omega), fun c hcc => by rw [fp_up_ne (by omega)]; exact hfr c hcc⟩
theorem cc_read {k9 lane f n9 : Int} (hc : CS M tp fl g pg vs nt im sh tn) (ho : OK g pg vs nt im sh) (h1 : fp_rng k9) (h2 : fp_rng lane) (h3 : fp_rng f) (hn : fp_rng n9) : fp_Ok l G 3 kX11_read [rV G 0, iV k9, iV lane, iV f, iV n9] M (qI fun z N => z = (A_read g vs sh tn k9 lane f n9).1 ∧ CS N tp fl g pg (A_read g vs sh tn k9 lane f n9).2.1 nt im sh (A_read g vs sh tn k9 lane f n9).2.2 ∧ frC M N) := by
  have hcs := hc
  obtain ⟨hA, hd, hP, hv, hNt, hI, hS⟩ := hc
  have hv1 := hv.1
  have hv2 := hv.2.1
  refine fp_Ok.of (r := 4) rfl (Nat.le_of_ble_eq_true rfl) rfl ?_
  unfold A_read
  by_cases hin : (0 ≤ k9 ∧ k9 ≤ 3) ∧ (0 ≤ lane ∧ lane ≤ 2) ∧ (0 ≤ n9 ∧ n9 ≤ 10)
  · rw [if_neg (fun q => q hin)]
    have ho1 := shs_o hin.1.1 (show k9 < 4 by omega)
    by_cases hn0 : n9 = 0
    · rw [if_pos hn0]
      refine S.iload_n (pc' := 1) dX11_read_0 rfl rfl rfl ?_
      refine S.iconst (pc' := 2) dX11_read_1 rfl ?_
      refine S.callSi (pc' := 5) dX11_read_2 rfl cX11_221 (bk_X11_isWithin) rfl (by decide) rfl (Nat.le_of_ble_eq_true rfl) (fun z2 M2 q2 => ?_)
      obtain ⟨b2, rfl⟩ := q2
      refine S.if_eq (pc' := 8) (tgt := 26) dX11_read_5 (by decide) rfl (by unfold fp_rng; omega) (fun h5 => ?_) (fun h5 => ?_)
      · exfalso; omega
      · refine S.iload_n (pc' := 9) dX11_read_8 rfl rfl rfl ?_
        refine S.iconst (pc' := 10) dX11_read_9 rfl ?_
        refine S.callSi (pc' := 13) dX11_read_10 rfl cX11_221 (bk_X11_isWithin) rfl (by decide) rfl (Nat.le_of_ble_eq_true rfl) (fun z10 M10 q10 => ?_)
        obtain ⟨b10, rfl⟩ := q10
        refine S.if_eq (pc' := 16) (tgt := 26) dX11_read_13 (by decide) rfl (by unfold fp_rng; omega) (fun h13 => ?_) (fun h13 => ?_)
        · exfalso; omega
        · refine S.iload (pc' := 18) dX11_read_16 rfl rfl ?_
          refine S.bipush (pc' := 20) dX11_read_18 rfl (by decide) ?_
          refine S.callSi (pc' := 23) dX11_read_20 rfl cX11_221 (bk_X11_isWithin) rfl (by decide) rfl (Nat.le_of_ble_eq_true rfl) (fun z20 M20 q20 => ?_)
          obtain ⟨b20, rfl⟩ := q20
          refine S.if_ne (pc' := 26) (tgt := 28) dX11_read_23 (by decide) rfl (by unfold fp_rng; omega) (fun h23 => ?_) (fun h23 => ?_)
          · refine S.aload_n (pc' := 29) dX11_read_28 rfl rfl rfl ?_
            refine S.getR (pc' := 32) dX11_read_29 rfl fX11_84 L_0 rf_0_12 ?_
            refine S.iload_n (pc' := 33) dX11_read_32 rfl rfl rfl ?_
            refine S.aald (pc' := 34) dX11_read_33 rfl L_142 (by decide) (by decide) (by omega) (by omega) (shs_r (by omega) (by omega)) ?_
            refine S.astore (pc' := 36) (LL' := [_, _, _, _, _, _, _, _, _]) dX11_read_34 rfl (by decide) rfl rfl ?_
            refine S.iload (pc' := 38) dX11_read_36 rfl rfl ?_
            refine S.if_ne (pc' := 41) (tgt := 45) dX11_read_38 (by decide) rfl (by unfold fp_rng; omega) (fun h38 => ?_) (fun h38 => ?_)
            · exfalso; omega
            · refine S.iconst (pc' := 42) dX11_read_41 rfl ?_
              refine S.goto (pc' := 51) dX11_read_42 (by decide) ?_
              refine S.istore (pc' := 53) (LL' := [_, _, _, _, _, _, _, _, _]) dX11_read_51 rfl (by decide) rfl rfl ?_
              refine S.iload (pc' := 55) dX11_read_53 rfl rfl ?_
              refine S.if_eq (pc' := 58) (tgt := 66) dX11_read_55 (by decide) rfl (by unfold fp_rng; omega) (fun h55 => ?_) (fun h55 => ?_)
              · refine S.aload_n (pc' := 67) dX11_read_66 rfl rfl rfl ?_
                refine S.getR (pc' := 70) dX11_read_67 rfl fX11_37 L_0 rf_0_5 ?_
                refine S.getI (pc' := 73) dX11_read_70 rfl fX11_205 (vs_lay vs27) ?_
                refine S.istore (pc' := 75) (LL' := [_, _, _, _, _, _, _, _, _]) dX11_read_73 rfl (by decide) rfl rfl ?_
                refine S.iconst (pc' := 76) dX11_read_75 rfl ?_
                refine S.istore (pc' := 78) (LL' := [_, _, _, _, _, _, _, _, _]) dX11_read_76 rfl (by decide) rfl rfl ?_
                refine S.iload (pc' := 80) dX11_read_78 rfl rfl ?_
                refine S.iload (pc' := 82) dX11_read_80 rfl rfl ?_
                refine S.icmp_ge (pc' := 85) (tgt := 140) dX11_read_82 (by decide) rfl (by unfold fp_rng; omega) (by unfold fp_rng; omega) (fun h82 => ?_) (fun h82 => ?_)
                · refine S.aload_n (pc' := 141) dX11_read_140 rfl rfl rfl ?_
                  refine S.iconst (pc' := 142) dX11_read_141 rfl ?_
                  refine S.putI (pc' := 145) dX11_read_142 rfl fX11_334 L_0 ?_
                  refine S.iload (pc' := 147) dX11_read_145 rfl rfl ?_
                  refine S.iret dX11_read_147 rfl ?_
                  exact ⟨hn0, hcs.torn (by omega), fun c hcc => by rw [fp_up_ne (by omega)]⟩
                · exfalso; omega
              · exfalso; omega
          · exfalso; omega
    · rw [if_neg hn0]
      have hs := hS k9 hin.1.1 (by omega)
      have hso := ho.2.2.2.2.2 k9 hin.1.1 (by omega)
      have hm1 : fp_rng (M (169 + 2 * k9.toNat) 1) := by
        unfold fp_rng
        rcases hs with q | q
        · rw [q.2]; omega
        · rw [q.2.2.1]; omega
      have hm0 : M (169 + 2 * k9.toNat) 1 = -4 ∨ fp_rng (M (169 + 2 * k9.toNat) 0) := by
        unfold fp_rng
        rcases hs with q | q
        · exact Or.inl q.2
        · right; rw [q.2.1]; omega
      have hval : (if M (169 + 2 * k9.toNat) 1 = -4 then (1 : Int) else if M (169 + 2 * k9.toNat) 0 = lane then 0 else 3) = if (sh k9).1 = -4 then 1 else if (sh k9).1 = lane then 0 else 3 := by
        rcases hs with q | q
        · rw [if_pos q.2, if_pos q.1]
        · rw [if_neg (by omega), if_neg q.1, q.2.1]
      by_cases h40 : (sh k9).1 = -4
      · rw [if_pos h40]
        rw [if_pos h40] at hval
        refine S.iload_n (pc' := 1) dX11_read_0 rfl rfl rfl ?_
        refine S.iconst (pc' := 2) dX11_read_1 rfl ?_
        refine S.callSi (pc' := 5) dX11_read_2 rfl cX11_221 (bk_X11_isWithin) rfl (by decide) rfl (Nat.le_of_ble_eq_true rfl) (fun z2 M2 q2 => ?_)
        obtain ⟨b2, rfl⟩ := q2
        refine S.if_eq (pc' := 8) (tgt := 26) dX11_read_5 (by decide) rfl (by unfold fp_rng; omega) (fun h5 => ?_) (fun h5 => ?_)
        · exfalso; omega
        · refine S.iload_n (pc' := 9) dX11_read_8 rfl rfl rfl ?_
          refine S.iconst (pc' := 10) dX11_read_9 rfl ?_
          refine S.callSi (pc' := 13) dX11_read_10 rfl cX11_221 (bk_X11_isWithin) rfl (by decide) rfl (Nat.le_of_ble_eq_true rfl) (fun z10 M10 q10 => ?_)
          obtain ⟨b10, rfl⟩ := q10
          refine S.if_eq (pc' := 16) (tgt := 26) dX11_read_13 (by decide) rfl (by unfold fp_rng; omega) (fun h13 => ?_) (fun h13 => ?_)
          · exfalso; omega
          · refine S.iload (pc' := 18) dX11_read_16 rfl rfl ?_
            refine S.bipush (pc' := 20) dX11_read_18 rfl (by decide) ?_
            refine S.callSi (pc' := 23) dX11_read_20 rfl cX11_221 (bk_X11_isWithin) rfl (by decide) rfl (Nat.le_of_ble_eq_true rfl) (fun z20 M20 q20 => ?_)
            obtain ⟨b20, rfl⟩ := q20
            refine S.if_ne (pc' := 26) (tgt := 28) dX11_read_23 (by decide) rfl (by unfold fp_rng; omega) (fun h23 => ?_) (fun h23 => ?_)
            · refine S.aload_n (pc' := 29) dX11_read_28 rfl rfl rfl ?_
              refine S.getR (pc' := 32) dX11_read_29 rfl fX11_84 L_0 rf_0_12 ?_
              refine S.iload_n (pc' := 33) dX11_read_32 rfl rfl rfl ?_
              refine S.aald (pc' := 34) dX11_read_33 rfl L_142 (by decide) (by decide) (by omega) (by omega) (shs_r (by omega) (by omega)) ?_
              refine S.astore (pc' := 36) (LL' := [_, _, _, _, _, _, _, _, _]) dX11_read_34 rfl (by decide) rfl rfl ?_
              refine S.iload (pc' := 38) dX11_read_36 rfl rfl ?_
              refine S.if_ne (pc' := 41) (tgt := 45) dX11_read_38 (by decide) rfl (by unfold fp_rng; omega) (fun h38 => ?_) (fun h38 => ?_)
              · refine S.aload (pc' := 47) dX11_read_45 rfl rfl ?_
                refine S.iload_n (pc' := 48) dX11_read_47 rfl rfl rfl ?_
                refine S.callVi (pc' := 51) dX11_read_48 rfl cX11_331 (ok_X9_faultTakenAs ho1 (hn := hm0)) rfl (sh_lay (shs_o (by omega) (by omega))) (by decide) rfl (Nat.le_of_ble_eq_true rfl) (fun z48 M48 q48 => ?_)
                obtain ⟨z1, rfl⟩ := q48
                rw [hval] at z1
                refine S.istore (pc' := 53) (LL' := [_, _, _, _, _, _, _, _, _]) dX11_read_51 rfl (by decide) rfl rfl ?_
                refine S.iload (pc' := 55) dX11_read_53 rfl rfl ?_
                refine S.if_eq (pc' := 58) (tgt := 66) dX11_read_55 (by decide) rfl (by unfold fp_rng; omega) (fun h55 => ?_) (fun h55 => ?_)
                · exfalso; omega
                · refine S.aload_n (pc' := 59) dX11_read_58 rfl rfl rfl ?_
                  refine S.iload (pc' := 61) dX11_read_59 rfl rfl ?_
                  refine S.putI (pc' := 64) dX11_read_61 rfl fX11_334 L_0 ?_
                  refine S.iconst (pc' := 65) dX11_read_64 rfl ?_
                  refine S.iret dX11_read_65 rfl ?_
                  subst z1
                  exact ⟨rfl, hcs.torn (by omega), fun c hcc => by rw [fp_up_ne (by omega)]⟩
              · exfalso; omega
            · exfalso; omega
      · rw [if_neg h40]
        rw [if_neg h40] at hval
        by_cases hln : (sh k9).1 = lane
        · rw [if_neg (fun q => q hln)]
          rw [if_pos hln] at hval
          have hl9 := cread_loop (l := l) (G := G) (lane := lane) (M := M) (tp := tp) (fl := fl) (tn := tn) hin.1 h3 hin.2.2 ho h40 hv2 n9.toNat 0 M [] (by omega) (by omega) (by omega) (by rw [List.append_nil]; exact hcs) (frC.refl _) (by rw [List.append_nil]; exact ho.2.2.1)
          rw [List.append_nil] at hl9
          refine S.iload_n (pc' := 1) dX11_read_0 rfl rfl rfl ?_
          refine S.iconst (pc' := 2) dX11_read_1 rfl ?_
          refine S.callSi (pc' := 5) dX11_read_2 rfl cX11_221 (bk_X11_isWithin) rfl (by decide) rfl (Nat.le_of_ble_eq_true rfl) (fun z2 M2 q2 => ?_)
          obtain ⟨b2, rfl⟩ := q2
          refine S.if_eq (pc' := 8) (tgt := 26) dX11_read_5 (by decide) rfl (by unfold fp_rng; omega) (fun h5 => ?_) (fun h5 => ?_)
          · exfalso; omega
          · refine S.iload_n (pc' := 9) dX11_read_8 rfl rfl rfl ?_
            refine S.iconst (pc' := 10) dX11_read_9 rfl ?_
            refine S.callSi (pc' := 13) dX11_read_10 rfl cX11_221 (bk_X11_isWithin) rfl (by decide) rfl (Nat.le_of_ble_eq_true rfl) (fun z10 M10 q10 => ?_)
            obtain ⟨b10, rfl⟩ := q10
            refine S.if_eq (pc' := 16) (tgt := 26) dX11_read_13 (by decide) rfl (by unfold fp_rng; omega) (fun h13 => ?_) (fun h13 => ?_)
            · exfalso; omega
            · refine S.iload (pc' := 18) dX11_read_16 rfl rfl ?_
              refine S.bipush (pc' := 20) dX11_read_18 rfl (by decide) ?_
              refine S.callSi (pc' := 23) dX11_read_20 rfl cX11_221 (bk_X11_isWithin) rfl (by decide) rfl (Nat.le_of_ble_eq_true rfl) (fun z20 M20 q20 => ?_)
              obtain ⟨b20, rfl⟩ := q20
              refine S.if_ne (pc' := 26) (tgt := 28) dX11_read_23 (by decide) rfl (by unfold fp_rng; omega) (fun h23 => ?_) (fun h23 => ?_)
              · refine S.aload_n (pc' := 29) dX11_read_28 rfl rfl rfl ?_
                refine S.getR (pc' := 32) dX11_read_29 rfl fX11_84 L_0 rf_0_12 ?_
                refine S.iload_n (pc' := 33) dX11_read_32 rfl rfl rfl ?_
                refine S.aald (pc' := 34) dX11_read_33 rfl L_142 (by decide) (by decide) (by omega) (by omega) (shs_r (by omega) (by omega)) ?_
                refine S.astore (pc' := 36) (LL' := [_, _, _, _, _, _, _, _, _]) dX11_read_34 rfl (by decide) rfl rfl ?_
                refine S.iload (pc' := 38) dX11_read_36 rfl rfl ?_
                refine S.if_ne (pc' := 41) (tgt := 45) dX11_read_38 (by decide) rfl (by unfold fp_rng; omega) (fun h38 => ?_) (fun h38 => ?_)
                · refine S.aload (pc' := 47) dX11_read_45 rfl rfl ?_
                  refine S.iload_n (pc' := 48) dX11_read_47 rfl rfl rfl ?_
                  refine S.callVi (pc' := 51) dX11_read_48 rfl cX11_331 (ok_X9_faultTakenAs ho1 (hn := hm0)) rfl (sh_lay (shs_o (by omega) (by omega))) (by decide) rfl (Nat.le_of_ble_eq_true rfl) (fun z48 M48 q48 => ?_)
                  obtain ⟨z1, rfl⟩ := q48
                  rw [hval] at z1
                  subst z1
                  refine S.istore (pc' := 53) (LL' := [_, _, _, _, _, _, _, _, _]) dX11_read_51 rfl (by decide) rfl rfl ?_
                  refine S.iload (pc' := 55) dX11_read_53 rfl rfl ?_
                  refine S.if_eq (pc' := 58) (tgt := 66) dX11_read_55 (by decide) rfl (by unfold fp_rng; omega) (fun h55 => ?_) (fun h55 => ?_)
                  · refine S.aload_n (pc' := 67) dX11_read_66 rfl rfl rfl ?_
                    refine S.getR (pc' := 70) dX11_read_67 rfl fX11_37 L_0 rf_0_5 ?_
                    refine S.getI (pc' := 73) dX11_read_70 rfl fX11_205 (vs_lay vs27) ?_
                    refine S.istore (pc' := 75) (LL' := [_, _, _, _, _, _, _, _, _]) dX11_read_73 rfl (by decide) rfl rfl ?_
                    refine S.iconst (pc' := 76) dX11_read_75 rfl ?_
                    refine S.istore (pc' := 78) (LL' := [_, _, _, _, _, _, _, _, _]) dX11_read_76 rfl (by decide) rfl rfl ?_
                    rw [hv1]; exact hl9
                  · exfalso; omega
                · exfalso; omega
              · exfalso; omega
        · rw [if_pos hln]
          rw [if_neg hln] at hval
          refine S.iload_n (pc' := 1) dX11_read_0 rfl rfl rfl ?_
          refine S.iconst (pc' := 2) dX11_read_1 rfl ?_
          refine S.callSi (pc' := 5) dX11_read_2 rfl cX11_221 (bk_X11_isWithin) rfl (by decide) rfl (Nat.le_of_ble_eq_true rfl) (fun z2 M2 q2 => ?_)
          obtain ⟨b2, rfl⟩ := q2
          refine S.if_eq (pc' := 8) (tgt := 26) dX11_read_5 (by decide) rfl (by unfold fp_rng; omega) (fun h5 => ?_) (fun h5 => ?_)
          · exfalso; omega
          · refine S.iload_n (pc' := 9) dX11_read_8 rfl rfl rfl ?_
            refine S.iconst (pc' := 10) dX11_read_9 rfl ?_
            refine S.callSi (pc' := 13) dX11_read_10 rfl cX11_221 (bk_X11_isWithin) rfl (by decide) rfl (Nat.le_of_ble_eq_true rfl) (fun z10 M10 q10 => ?_)
            obtain ⟨b10, rfl⟩ := q10
            refine S.if_eq (pc' := 16) (tgt := 26) dX11_read_13 (by decide) rfl (by unfold fp_rng; omega) (fun h13 => ?_) (fun h13 => ?_)
            · exfalso; omega
            · refine S.iload (pc' := 18) dX11_read_16 rfl rfl ?_
              refine S.bipush (pc' := 20) dX11_read_18 rfl (by decide) ?_
              refine S.callSi (pc' := 23) dX11_read_20 rfl cX11_221 (bk_X11_isWithin) rfl (by decide) rfl (Nat.le_of_ble_eq_true rfl) (fun z20 M20 q20 => ?_)
              obtain ⟨b20, rfl⟩ := q20
              refine S.if_ne (pc' := 26) (tgt := 28) dX11_read_23 (by decide) rfl (by unfold fp_rng; omega) (fun h23 => ?_) (fun h23 => ?_)
              · refine S.aload_n (pc' := 29) dX11_read_28 rfl rfl rfl ?_
                refine S.getR (pc' := 32) dX11_read_29 rfl fX11_84 L_0 rf_0_12 ?_
                refine S.iload_n (pc' := 33) dX11_read_32 rfl rfl rfl ?_
                refine S.aald (pc' := 34) dX11_read_33 rfl L_142 (by decide) (by decide) (by omega) (by omega) (shs_r (by omega) (by omega)) ?_
                refine S.astore (pc' := 36) (LL' := [_, _, _, _, _, _, _, _, _]) dX11_read_34 rfl (by decide) rfl rfl ?_
                refine S.iload (pc' := 38) dX11_read_36 rfl rfl ?_
                refine S.if_ne (pc' := 41) (tgt := 45) dX11_read_38 (by decide) rfl (by unfold fp_rng; omega) (fun h38 => ?_) (fun h38 => ?_)
                · refine S.aload (pc' := 47) dX11_read_45 rfl rfl ?_
                  refine S.iload_n (pc' := 48) dX11_read_47 rfl rfl rfl ?_
                  refine S.callVi (pc' := 51) dX11_read_48 rfl cX11_331 (ok_X9_faultTakenAs ho1 (hn := hm0)) rfl (sh_lay (shs_o (by omega) (by omega))) (by decide) rfl (Nat.le_of_ble_eq_true rfl) (fun z48 M48 q48 => ?_)
                  obtain ⟨z1, rfl⟩ := q48
                  rw [hval] at z1
                  refine S.istore (pc' := 53) (LL' := [_, _, _, _, _, _, _, _, _]) dX11_read_51 rfl (by decide) rfl rfl ?_
                  refine S.iload (pc' := 55) dX11_read_53 rfl rfl ?_
                  refine S.if_eq (pc' := 58) (tgt := 66) dX11_read_55 (by decide) rfl (by unfold fp_rng; omega) (fun h55 => ?_) (fun h55 => ?_)
                  · exfalso; omega
                  · refine S.aload_n (pc' := 59) dX11_read_58 rfl rfl rfl ?_
                    refine S.iload (pc' := 61) dX11_read_59 rfl rfl ?_
                    refine S.putI (pc' := 64) dX11_read_61 rfl fX11_334 L_0 ?_
                    refine S.iconst (pc' := 65) dX11_read_64 rfl ?_
                    refine S.iret dX11_read_65 rfl ?_
                    subst z1
                    exact ⟨rfl, hcs.torn (by omega), fun c hcc => by rw [fp_up_ne (by omega)]⟩
                · exfalso; omega
              · exfalso; omega
  · rw [if_pos hin]
    refine S.iload_n (pc' := 1) dX11_read_0 rfl rfl rfl ?_
    refine S.iconst (pc' := 2) dX11_read_1 rfl ?_
    refine S.callSi (pc' := 5) dX11_read_2 rfl cX11_221 (bk_X11_isWithin) rfl (by decide) rfl (Nat.le_of_ble_eq_true rfl) (fun z2 M2 q2 => ?_)
    obtain ⟨b2, rfl⟩ := q2
    refine S.if_eq (pc' := 8) (tgt := 26) dX11_read_5 (by decide) rfl (by unfold fp_rng; omega) (fun h5 => ?_) (fun h5 => ?_)
    · refine S.iconst (pc' := 27) dX11_read_26 rfl ?_
      refine S.iret dX11_read_27 rfl ?_
      exact ⟨rfl, hcs, frC.refl _⟩
    · refine S.iload_n (pc' := 9) dX11_read_8 rfl rfl rfl ?_
      refine S.iconst (pc' := 10) dX11_read_9 rfl ?_
      refine S.callSi (pc' := 13) dX11_read_10 rfl cX11_221 (bk_X11_isWithin) rfl (by decide) rfl (Nat.le_of_ble_eq_true rfl) (fun z10 M10 q10 => ?_)
      obtain ⟨b10, rfl⟩ := q10
      refine S.if_eq (pc' := 16) (tgt := 26) dX11_read_13 (by decide) rfl (by unfold fp_rng; omega) (fun h13 => ?_) (fun h13 => ?_)
      · refine S.iconst (pc' := 27) dX11_read_26 rfl ?_
        refine S.iret dX11_read_27 rfl ?_
        exact ⟨rfl, hcs, frC.refl _⟩
      · refine S.iload (pc' := 18) dX11_read_16 rfl rfl ?_
        refine S.bipush (pc' := 20) dX11_read_18 rfl (by decide) ?_
        refine S.callSi (pc' := 23) dX11_read_20 rfl cX11_221 (bk_X11_isWithin) rfl (by decide) rfl (Nat.le_of_ble_eq_true rfl) (fun z20 M20 q20 => ?_)
        obtain ⟨b20, rfl⟩ := q20
        refine S.if_ne (pc' := 26) (tgt := 28) dX11_read_23 (by decide) rfl (by unfold fp_rng; omega) (fun h23 => ?_) (fun h23 => ?_)
        · exfalso; omega
        · refine S.iconst (pc' := 27) dX11_read_26 rfl ?_
          refine S.iret dX11_read_27 rfl ?_
          exact ⟨rfl, hcs, frC.refl _⟩
theorem fp_S.wI {d pc : Nat} {Y : fp_MR} {LL : List (Option Value)} {st : List Value} {P P' : Int → fp_Mem → Prop} (h : fp_S l G d Y pc LL st M (qI P)) (hq : ∀ z N, P z N → P' z N) : fp_S l G d Y pc LL st M (qI P') := fp_S.weaken h (fun r M' ⟨z, e, q⟩ => ⟨z, e, hq z M' q⟩)
theorem aRd_step {vs0 : List aVt} {c : Int → Int} {len f n9 j : Int} (h : j < n9) (h0 : 0 ≤ j) : aRd g vs0 tn c len f (n9 - j).toNat j vs = if ¬ (0 ≤ f ∧ f + 4 * j + 3 < len) then (j, vs, 2) else if (A_come g vs (c (f + 4 * j)) (c (f + 4 * j + 1)) (c (f + 4 * j + 2)) (c (f + 4 * j + 3))).1 < 0 then (-20 - j, vs0, tn) else aRd g vs0 tn c len f (n9 - (j + 1)).toNat (j + 1) (A_come g vs (c (f + 4 * j)) (c (f + 4 * j + 1)) (c (f + 4 * j + 2)) (c (f + 4 * j + 3))).2 := by
  obtain ⟨q, hq⟩ : ∃ q, (n9 - j).toNat = q + 1 := ⟨(n9 - j).toNat - 1, by omega⟩
  rw [hq, show (n9 - (j + 1)).toNat = q by omega]
  rfl
theorem mread_by {k9 lane f n9 b cm i : Int} {o9 : Option Value} (hb : 1 ≤ b ∧ b ≤ 3) (hi : 0 ≤ i ∧ i ≤ 40) (hn : 0 ≤ n9 ∧ n9 ≤ 10) : fp_S l G 3 kX12_read 51 [some (rV G 177), some (iV k9), some (iV lane), some (iV f), some (iV n9), some (iV b), some (iV cm), some (iV 0), some (iV i), o9] [] N (qI fun z O => z = cm ∧ O = fp_up N 177 44 b) := by
  refine S.iload (pc' := 53) dX12_read_51 rfl rfl ?_
  refine S.iconst (pc' := 54) dX12_read_53 rfl ?_
  refine S.iload (pc' := 56) dX12_read_54 rfl rfl ?_
  refine S.imul (pc' := 57) dX12_read_56 rfl ?_
  refine S.icmp_ge (pc' := 60) (tgt := 221) dX12_read_57 (by decide) rfl (by unfold fp_rng; omega) (by unfold fp_rng; omega) (fun h57 => ?_) (fun h57 => ?_)
  · refine S.iload (pc' := 223) dX12_read_221 rfl rfl ?_
    refine S.if_eq (pc' := 226) (tgt := 244) dX12_read_223 (by decide) rfl (by unfold fp_rng; omega) (fun h223 => ?_) (fun h223 => ?_)
    · refine S.aload_n (pc' := 245) dX12_read_244 rfl rfl rfl ?_
      refine S.iload (pc' := 247) dX12_read_245 rfl rfl ?_
      refine S.putI (pc' := 250) dX12_read_247 rfl fX12_330 L_177 ?_
      refine S.iload (pc' := 252) dX12_read_250 rfl rfl ?_
      refine S.iret dX12_read_252 rfl ?_
      exact ⟨rfl, rfl⟩
    · exfalso; omega
  · refine S.iload (pc' := 62) dX12_read_60 rfl rfl ?_
    refine S.if_ne (pc' := 65) (tgt := 221) dX12_read_62 (by decide) rfl (by unfold fp_rng; omega) (fun h62 => ?_) (fun h62 => ?_)
    · refine S.iload (pc' := 223) dX12_read_221 rfl rfl ?_
      refine S.if_eq (pc' := 226) (tgt := 244) dX12_read_223 (by decide) rfl (by unfold fp_rng; omega) (fun h223 => ?_) (fun h223 => ?_)
      · refine S.aload_n (pc' := 245) dX12_read_244 rfl rfl rfl ?_
        refine S.iload (pc' := 247) dX12_read_245 rfl rfl ?_
        refine S.putI (pc' := 250) dX12_read_247 rfl fX12_330 L_177 ?_
        refine S.iload (pc' := 252) dX12_read_250 rfl rfl ?_
        refine S.iret dX12_read_252 rfl ?_
        exact ⟨rfl, rfl⟩
      · exfalso; omega
    · exfalso; omega
theorem mread_no {k9 lane f n9 cm i : Int} {o9 : Option Value} (hi : 0 ≤ i ∧ i ≤ 40) (hn : 0 ≤ n9 ∧ n9 ≤ 10) (hcm : 0 ≤ cm ∧ cm ≤ 10) (h95 : 0 ≤ N 178 95 ∧ N 178 95 ≤ 12) : fp_S l G 3 kX12_read 51 [some (rV G 177), some (iV k9), some (iV lane), some (iV f), some (iV n9), some (iV 0), some (iV cm), some (iV 1), some (iV i), o9] [] N (qI fun z O => z = -20 - cm ∧ O = fp_up N 178 95 (N 178 95 - cm)) := by
  refine S.iload (pc' := 53) dX12_read_51 rfl rfl ?_
  refine S.iconst (pc' := 54) dX12_read_53 rfl ?_
  refine S.iload (pc' := 56) dX12_read_54 rfl rfl ?_
  refine S.imul (pc' := 57) dX12_read_56 rfl ?_
  refine S.icmp_ge (pc' := 60) (tgt := 221) dX12_read_57 (by decide) rfl (by unfold fp_rng; omega) (by unfold fp_rng; omega) (fun h57 => ?_) (fun h57 => ?_)
  · refine S.iload (pc' := 223) dX12_read_221 rfl rfl ?_
    refine S.if_eq (pc' := 226) (tgt := 244) dX12_read_223 (by decide) rfl (by unfold fp_rng; omega) (fun h223 => ?_) (fun h223 => ?_)
    · exfalso; omega
    · refine S.aload_n (pc' := 227) dX12_read_226 rfl rfl rfl ?_
      refine S.getR (pc' := 230) dX12_read_227 rfl fX12_7 L_177 rf_177_0 ?_
      refine S.bipush (pc' := 232) dX12_read_230 rfl (by decide) ?_
      refine S.dup2 (pc' := 233) dX12_read_232 rfl rfl rfl ?_
      refine S.iald (pc' := 234) dX12_read_233 rfl L_178 (by omega) (by omega) ?_
      refine S.iload (pc' := 236) dX12_read_234 rfl rfl ?_
      refine S.isub (pc' := 237) dX12_read_236 rfl ?_
      refine S.iast (pc' := 238) dX12_read_237 rfl L_178 (by omega) (by omega) ?_
      refine S.bipush (pc' := 240) dX12_read_238 rfl (by decide) ?_
      refine S.iload (pc' := 242) dX12_read_240 rfl rfl ?_
      refine S.isub (pc' := 243) dX12_read_242 rfl ?_
      refine S.iret dX12_read_243 rfl ?_
      exact ⟨rfl, rfl⟩
  · refine S.iload (pc' := 62) dX12_read_60 rfl rfl ?_
    refine S.if_ne (pc' := 65) (tgt := 221) dX12_read_62 (by decide) rfl (by unfold fp_rng; omega) (fun h62 => ?_) (fun h62 => ?_)
    · refine S.iload (pc' := 223) dX12_read_221 rfl rfl ?_
      refine S.if_eq (pc' := 226) (tgt := 244) dX12_read_223 (by decide) rfl (by unfold fp_rng; omega) (fun h223 => ?_) (fun h223 => ?_)
      · exfalso; omega
      · refine S.aload_n (pc' := 227) dX12_read_226 rfl rfl rfl ?_
        refine S.getR (pc' := 230) dX12_read_227 rfl fX12_7 L_177 rf_177_0 ?_
        refine S.bipush (pc' := 232) dX12_read_230 rfl (by decide) ?_
        refine S.dup2 (pc' := 233) dX12_read_232 rfl rfl rfl ?_
        refine S.iald (pc' := 234) dX12_read_233 rfl L_178 (by omega) (by omega) ?_
        refine S.iload (pc' := 236) dX12_read_234 rfl rfl ?_
        refine S.isub (pc' := 237) dX12_read_236 rfl ?_
        refine S.iast (pc' := 238) dX12_read_237 rfl L_178 (by omega) (by omega) ?_
        refine S.bipush (pc' := 240) dX12_read_238 rfl (by decide) ?_
        refine S.iload (pc' := 242) dX12_read_240 rfl rfl ?_
        refine S.isub (pc' := 243) dX12_read_242 rfl ?_
        refine S.iret dX12_read_243 rfl ?_
        exact ⟨rfl, rfl⟩
    · refine S.iload (pc' := 67) dX12_read_65 rfl rfl ?_
      refine S.if_ne (pc' := 70) (tgt := 221) dX12_read_67 (by decide) rfl (by unfold fp_rng; omega) (fun h67 => ?_) (fun h67 => ?_)
      · refine S.iload (pc' := 223) dX12_read_221 rfl rfl ?_
        refine S.if_eq (pc' := 226) (tgt := 244) dX12_read_223 (by decide) rfl (by unfold fp_rng; omega) (fun h223 => ?_) (fun h223 => ?_)
        · exfalso; omega
        · refine S.aload_n (pc' := 227) dX12_read_226 rfl rfl rfl ?_
          refine S.getR (pc' := 230) dX12_read_227 rfl fX12_7 L_177 rf_177_0 ?_
          refine S.bipush (pc' := 232) dX12_read_230 rfl (by decide) ?_
          refine S.dup2 (pc' := 233) dX12_read_232 rfl rfl rfl ?_
          refine S.iald (pc' := 234) dX12_read_233 rfl L_178 (by omega) (by omega) ?_
          refine S.iload (pc' := 236) dX12_read_234 rfl rfl ?_
          refine S.isub (pc' := 237) dX12_read_236 rfl ?_
          refine S.iast (pc' := 238) dX12_read_237 rfl L_178 (by omega) (by omega) ?_
          refine S.bipush (pc' := 240) dX12_read_238 rfl (by decide) ?_
          refine S.iload (pc' := 242) dX12_read_240 rfl rfl ?_
          refine S.isub (pc' := 243) dX12_read_242 rfl ?_
          refine S.iret dX12_read_243 rfl ?_
          exact ⟨rfl, rfl⟩
      · exfalso; omega
theorem mread_end {k9 lane f n9 cm : Int} {o9 : Option Value} (hn : 0 ≤ n9 ∧ n9 ≤ 10) : fp_S l G 3 kX12_read 51 [some (rV G 177), some (iV k9), some (iV lane), some (iV f), some (iV n9), some (iV 0), some (iV cm), some (iV 0), some (iV (4 * n9)), o9] [] N (qI fun z O => z = cm ∧ O = fp_up N 177 44 0) := by
  refine S.iload (pc' := 53) dX12_read_51 rfl rfl ?_
  refine S.iconst (pc' := 54) dX12_read_53 rfl ?_
  refine S.iload (pc' := 56) dX12_read_54 rfl rfl ?_
  refine S.imul (pc' := 57) dX12_read_56 rfl ?_
  refine S.icmp_ge (pc' := 60) (tgt := 221) dX12_read_57 (by decide) rfl (by unfold fp_rng; omega) (by unfold fp_rng; omega) (fun h57 => ?_) (fun h57 => ?_)
  · refine S.iload (pc' := 223) dX12_read_221 rfl rfl ?_
    refine S.if_eq (pc' := 226) (tgt := 244) dX12_read_223 (by decide) rfl (by unfold fp_rng; omega) (fun h223 => ?_) (fun h223 => ?_)
    · refine S.aload_n (pc' := 245) dX12_read_244 rfl rfl rfl ?_
      refine S.iload (pc' := 247) dX12_read_245 rfl rfl ?_
      refine S.putI (pc' := 250) dX12_read_247 rfl fX12_330 L_177 ?_
      refine S.iload (pc' := 252) dX12_read_250 rfl rfl ?_
      refine S.iret dX12_read_252 rfl ?_
      exact ⟨rfl, rfl⟩
    · exfalso; omega
  · exfalso; omega
theorem mread_loop {k9 lane f n9 : Int} (hk : 0 ≤ k9 ∧ k9 ≤ 3) (hf : fp_rng f) (hn9 : 0 ≤ n9 ∧ n9 ≤ 10) (ho : OK g pg vs nt im sh) (hne : (sh k9).1 ≠ -4) (hln : (sh k9).1 = lane) : ∀ (m : Nat) (i j r : Int) (N : fp_Mem) (ex : List aVt) (o9 : Option Value), (4 * n9 - i).toNat < m → i = 4 * j + r → 0 ≤ r → r < 4 → 0 ≤ j → i ≤ 4 * n9 → (i = 0 ∨ (0 ≤ f ∧ f + i ≤ (sh k9).2.1)) → ex.length = j → MS N tp fl g pg (vs ++ ex) nt im sh tn → frD M N → vsOk g (vs ++ ex) →
    fp_S l G 3 kX12_read 51 [some (rV G 177), some (iV k9), some (iV lane), some (iV f), some (iV n9), some (iV 0), some (iV j), some (iV 0), some (iV i), o9] [] N (qI fun z O => z = (aRd g vs tn (sh k9).2.2 (sh k9).2.1 f (n9 - j).toNat j (vs ++ ex)).1 ∧ MS O tp fl g pg (aRd g vs tn (sh k9).2.2 (sh k9).2.1 f (n9 - j).toNat j (vs ++ ex)).2.1 nt im sh (aRd g vs tn (sh k9).2.2 (sh k9).2.1 f (n9 - j).toNat j (vs ++ ex)).2.2 ∧ frD M O) := by
  have hg := ho.1
  have hsh : (0 ≤ (sh k9).1 ∧ (sh k9).1 ≤ 2) ∧ (0 ≤ (sh k9).2.1 ∧ (sh k9).2.1 ≤ 40) ∧ ∀ i, 0 ≤ i → i < 40 → fp_rng ((sh k9).2.2 i) := by
    rcases ho.2.2.2.2.2 k9 hk.1 (by omega) with q | q
    · exact absurd q hne
    · exact q
  obtain ⟨hs1, hs2, hcr⟩ := hsh
  have hf' := hf
  unfold fp_rng at hf'
  intro m
  induction m with
  | zero => intro i j r N ex o9 h; omega
  | succ m ih =>
    intro i j r N ex o9 h hij r0 r1 j0 hi4 hin hex hc hfr hvo
    have hcs := hc
    obtain ⟨hA, hd, hP, hv, hNt, hI, hS, hK⟩ := hc
    have hov : OK g pg (vs ++ ex) nt im sh := ⟨ho.1, ho.2.1, hvo, ho.2.2.2⟩
    obtain ⟨k2, hk3⟩ := hS k9 hk.1 (by omega)
    obtain ⟨k3, hcl⟩ := hk3 hne
    by_cases hend : i = 4 * n9
    · have hr : r = 0 := by omega
      have hj : j = n9 := by omega
      rw [hend, show (n9 - j).toNat = 0 by omega]
      refine (mread_end (l := l) (G := G) hn9).wI (fun z O q => ?_)
      obtain ⟨q1, q2⟩ := q
      subst q2
      exact ⟨q1, hcs.torn, fun c hcc => by rw [fp_up_ne (by omega)]; exact hfr c hcc⟩
    · have es := aRd_step (g := g) (tn := tn) (vs := vs ++ ex) (vs0 := vs) (c := (sh k9).2.2) (len := (sh k9).2.1) (f := f) (n9 := n9) (j := j) (by omega) j0
      by_cases hr : 0 ≤ f + i ∧ f + i ≤ (sh k9).2.1 - 1
      · by_cases hr3 : r = 3
        · rw [if_neg (fun q => q (by omega))] at es
          have hor := A_come_or g (vs ++ ex) ((sh k9).2.2 (f + 4 * j)) ((sh k9).2.2 (f + 4 * j + 1)) ((sh k9).2.2 (f + 4 * j + 2)) ((sh k9).2.2 (f + 4 * j + 3))
          have hok := A_come_ok (g := g) (vs := vs ++ ex) (day := (sh k9).2.2 (f + 4 * j)) (p := (sh k9).2.2 (f + 4 * j + 1)) (x := (sh k9).2.2 (f + 4 * j + 2)) (t := (sh k9).2.2 (f + 4 * j + 3)) hvo
          generalize hY : A_come g (vs ++ ex) ((sh k9).2.2 (f + 4 * j)) ((sh k9).2.2 (f + 4 * j + 1)) ((sh k9).2.2 (f + 4 * j + 2)) ((sh k9).2.2 (f + 4 * j + 3)) = Y at hor hok es
          have hYb : -3 ≤ Y.1 ∧ Y.1 ≤ 13 := by
            rw [← hY]
            have hl := hv.2.1
            unfold A_come
            split
            · dsimp only; omega
            · split
              · dsimp only; omega
              · dsimp only; omega
          have d0 : N 202 (40 * k9 + f + i - 3).toNat = (sh k9).2.2 (f + 4 * j) := by rw [← hcl (f + 4 * j) (by omega) (by omega)]; exact congrArg (N 202) (by omega)
          have d1 : N 202 (40 * k9 + f + i - 2).toNat = (sh k9).2.2 (f + 4 * j + 1) := by rw [← hcl (f + 4 * j + 1) (by omega) (by omega)]; exact congrArg (N 202) (by omega)
          have d2 : N 202 (40 * k9 + f + i - 1).toNat = (sh k9).2.2 (f + 4 * j + 2) := by rw [← hcl (f + 4 * j + 2) (by omega) (by omega)]; exact congrArg (N 202) (by omega)
          have d3 : N 202 (40 * k9 + f + i).toNat = (sh k9).2.2 (f + 4 * j + 3) := by rw [← hcl (f + 4 * j + 3) (by omega) (by omega)]; exact congrArg (N 202) (by omega)
          by_cases hneg : Y.1 < 0
          · rw [if_pos hneg] at es
            rw [es]
            refine S.iload (pc' := 53) dX12_read_51 rfl rfl ?_
            refine S.iconst (pc' := 54) dX12_read_53 rfl ?_
            refine S.iload (pc' := 56) dX12_read_54 rfl rfl ?_
            refine S.imul (pc' := 57) dX12_read_56 rfl ?_
            refine S.icmp_ge (pc' := 60) (tgt := 221) dX12_read_57 (by decide) rfl (by unfold fp_rng; omega) (by unfold fp_rng; omega) (fun h57 => ?_) (fun h57 => ?_)
            · exfalso; omega
            · refine S.iload (pc' := 62) dX12_read_60 rfl rfl ?_
              refine S.if_ne (pc' := 65) (tgt := 221) dX12_read_62 (by decide) rfl (by unfold fp_rng; omega) (fun h62 => ?_) (fun h62 => ?_)
              · exfalso; omega
              · refine S.iload (pc' := 67) dX12_read_65 rfl rfl ?_
                refine S.if_ne (pc' := 70) (tgt := 221) dX12_read_67 (by decide) rfl (by unfold fp_rng; omega) (fun h67 => ?_) (fun h67 => ?_)
                · exfalso; omega
                · refine S.aload_n (pc' := 71) dX12_read_70 rfl rfl rfl ?_
                  refine S.getR (pc' := 74) dX12_read_71 rfl fX12_82 L_177 rf_177_41 ?_
                  refine S.iload_n (pc' := 75) dX12_read_74 rfl rfl rfl ?_
                  refine S.iald (pc' := 76) dX12_read_75 rfl L_200 (by omega) (by omega) ?_
                  refine S.bipush (pc' := 78) dX12_read_76 rfl (by decide) ?_
                  refine S.icmp_ne (pc' := 81) (tgt := 85) dX12_read_78 (by decide) rfl (by unfold fp_rng; omega) (by unfold fp_rng; omega) (fun h78 => ?_) (fun h78 => ?_)
                  · refine S.aload_n (pc' := 86) dX12_read_85 rfl rfl rfl ?_
                    refine S.getR (pc' := 89) dX12_read_86 rfl fX12_82 L_177 rf_177_41 ?_
                    refine S.iload_n (pc' := 90) dX12_read_89 rfl rfl rfl ?_
                    refine S.iald (pc' := 91) dX12_read_90 rfl L_200 (by omega) (by omega) ?_
                    refine S.iload_n (pc' := 92) dX12_read_91 rfl rfl rfl ?_
                    refine S.icmp_eq (pc' := 95) (tgt := 99) dX12_read_92 (by decide) rfl (by unfold fp_rng; omega) (by unfold fp_rng; omega) (fun h92 => ?_) (fun h92 => ?_)
                    · refine S.iload_n (pc' := 100) dX12_read_99 rfl rfl rfl ?_
                      refine S.i2l (pc' := 101) dX12_read_100 rfl (by unfold fp_rng; omega) ?_
                      refine S.iload (pc' := 103) dX12_read_101 rfl rfl ?_
                      refine S.i2l (pc' := 104) dX12_read_103 rfl (by unfold fp_rng; omega) ?_
                      refine S.ladd (pc' := 105) dX12_read_104 rfl ?_
                      refine S.lconst (pc' := 106) (w := 0) dX12_read_105 rfl rfl ?_
                      refine S.aload_n (pc' := 107) dX12_read_106 rfl rfl rfl ?_
                      refine S.getR (pc' := 110) dX12_read_107 rfl fX12_85 L_177 rf_177_42 ?_
                      refine S.iload_n (pc' := 111) dX12_read_110 rfl rfl rfl ?_
                      refine S.iald (pc' := 112) dX12_read_111 rfl L_201 (by omega) (by omega) ?_
                      refine S.iconst (pc' := 113) dX12_read_112 rfl ?_
                      refine S.isub (pc' := 114) dX12_read_113 rfl ?_
                      refine S.i2l (pc' := 115) dX12_read_114 rfl (by unfold fp_rng; omega) ?_
                      refine S.callSi (pc' := 118) dX12_read_115 rfl cX12_94 (bk_X12_in) rfl (by decide) rfl (Nat.le_of_ble_eq_true rfl) (fun z115 M115 q115 => ?_)
                      obtain ⟨b115, rfl⟩ := q115
                      refine S.if_ne (pc' := 121) (tgt := 125) dX12_read_118 (by decide) rfl (by unfold fp_rng; omega) (fun h118 => ?_) (fun h118 => ?_)
                      · refine S.iconst (pc' := 126) dX12_read_125 rfl ?_
                        refine S.istore (pc' := 128) (LL' := [_, _, _, _, _, _, _, _, _, _]) dX12_read_126 rfl (by decide) rfl rfl ?_
                        refine S.iload (pc' := 130) dX12_read_128 rfl rfl ?_
                        refine S.if_ne (pc' := 133) (tgt := 215) dX12_read_130 (by decide) rfl (by unfold fp_rng; omega) (fun h130 => ?_) (fun h130 => ?_)
                        · refine S.iinc (pc' := 218) (LL' := [_, _, _, _, _, _, _, _, _, _]) dX12_read_215 rfl (by decide) rfl rfl rfl ?_
                          refine S.goto (pc' := 51) dX12_read_218 (by decide) ?_
                          try (exfalso; omega)
                          all_goals
                            have hY2 : Y.2 = vs ++ ex := by
                              rcases hor with q | q
                              · exact q.2
                              · exact absurd q.1 (by omega)
                            rw [hY2] at c1
                            have c95 := c1.1
                            have c12 := c1.2.1
                            rw [List.length_append] at c95 c12
                            refine (mread_no (l := l) (G := G) (by omega) hn9 (by omega) (by omega)).wI (fun z O q => ?_)
                            obtain ⟨q1, q2⟩ := q
                            subst q2
                            refine ⟨by show z = -20 - j; omega, hcs.vis hov (fun c hcc => by rw [fp_up_ne hcc]; exact f1 c hcc) (fun j hj => by rw [fp_up_at, fp_upf_ne (by omega)]; exact g1 j hj) (c1.pre (by rw [fp_up_at, fp_upf_at, c95]; omega) (fun j hj => by rw [fp_up_at, fp_upf_ne (by omega)])), fun c hcc => by rw [fp_up_ne (by omega), f1 c (by omega)]; exact hfr c hcc⟩
                        · refine S.iload (pc' := 135) dX12_read_133 rfl rfl ?_
                          refine S.iconst (pc' := 136) dX12_read_135 rfl ?_
                          refine S.irem (pc' := 137) dX12_read_136 rfl (by decide) (fp_rem4 (by omega)) ?_
                          refine S.iconst (pc' := 138) dX12_read_137 rfl ?_
                          refine S.icmp_ne (pc' := 141) (tgt := 215) dX12_read_138 (by decide) rfl (by unfold fp_rng; omega) (by unfold fp_rng; omega) (fun h138 => ?_) (fun h138 => ?_)
                          · refine S.iinc (pc' := 218) (LL' := [_, _, _, _, _, _, _, _, _, _]) dX12_read_215 rfl (by decide) rfl rfl rfl ?_
                            refine S.goto (pc' := 51) dX12_read_218 (by decide) ?_
                            try (exfalso; omega)
                            all_goals
                              have hY2 : Y.2 = vs ++ ex := by
                                rcases hor with q | q
                                · exact q.2
                                · exact absurd q.1 (by omega)
                              rw [hY2] at c1
                              have c95 := c1.1
                              have c12 := c1.2.1
                              rw [List.length_append] at c95 c12
                              refine (mread_no (l := l) (G := G) (by omega) hn9 (by omega) (by omega)).wI (fun z O q => ?_)
                              obtain ⟨q1, q2⟩ := q
                              subst q2
                              refine ⟨by show z = -20 - j; omega, hcs.vis hov (fun c hcc => by rw [fp_up_ne hcc]; exact f1 c hcc) (fun j hj => by rw [fp_up_at, fp_upf_ne (by omega)]; exact g1 j hj) (c1.pre (by rw [fp_up_at, fp_upf_at, c95]; omega) (fun j hj => by rw [fp_up_at, fp_upf_ne (by omega)])), fun c hcc => by rw [fp_up_ne (by omega), f1 c (by omega)]; exact hfr c hcc⟩
                          · refine S.bipush (pc' := 143) dX12_read_141 rfl (by decide) ?_
                            refine S.iload_n (pc' := 144) dX12_read_143 rfl rfl rfl ?_
                            refine S.imul (pc' := 145) dX12_read_144 rfl ?_
                            refine S.iload_n (pc' := 146) dX12_read_145 rfl rfl rfl ?_
                            refine S.iadd (pc' := 147) dX12_read_146 rfl ?_
                            refine S.iload (pc' := 149) dX12_read_147 rfl rfl ?_
                            refine S.iadd (pc' := 150) dX12_read_149 rfl ?_
                            refine S.istore (pc' := 152) (LL' := [_, _, _, _, _, _, _, _, _, _]) dX12_read_150 rfl (by decide) rfl rfl ?_
                            refine S.aload_n (pc' := 153) dX12_read_152 rfl rfl rfl ?_
                            refine S.aload_n (pc' := 154) dX12_read_153 rfl rfl rfl ?_
                            refine S.getR (pc' := 157) dX12_read_154 rfl fX12_88 L_177 rf_177_43 ?_
                            refine S.iload (pc' := 159) dX12_read_157 rfl rfl ?_
                            refine S.iconst (pc' := 160) dX12_read_159 rfl ?_
                            refine S.isub (pc' := 161) dX12_read_160 rfl ?_
                            refine S.iald (pc' := 162) dX12_read_161 rfl L_202 (by omega) (by omega) ?_
                            refine S.aload_n (pc' := 163) dX12_read_162 rfl rfl rfl ?_
                            refine S.getR (pc' := 166) dX12_read_163 rfl fX12_88 L_177 rf_177_43 ?_
                            refine S.iload (pc' := 168) dX12_read_166 rfl rfl ?_
                            refine S.iconst (pc' := 169) dX12_read_168 rfl ?_
                            refine S.isub (pc' := 170) dX12_read_169 rfl ?_
                            refine S.iald (pc' := 171) dX12_read_170 rfl L_202 (by omega) (by omega) ?_
                            refine S.aload_n (pc' := 172) dX12_read_171 rfl rfl rfl ?_
                            refine S.getR (pc' := 175) dX12_read_172 rfl fX12_88 L_177 rf_177_43 ?_
                            refine S.iload (pc' := 177) dX12_read_175 rfl rfl ?_
                            refine S.iconst (pc' := 178) dX12_read_177 rfl ?_
                            refine S.isub (pc' := 179) dX12_read_178 rfl ?_
                            refine S.iald (pc' := 180) dX12_read_179 rfl L_202 (by omega) (by omega) ?_
                            refine S.aload_n (pc' := 181) dX12_read_180 rfl rfl rfl ?_
                            refine S.getR (pc' := 184) dX12_read_181 rfl fX12_88 L_177 rf_177_43 ?_
                            refine S.iload (pc' := 186) dX12_read_184 rfl rfl ?_
                            refine S.iald (pc' := 187) dX12_read_186 rfl L_202 (by omega) (by omega) ?_
                            rw [d0, d1, d2, d3]
                            refine S.callVi (pc' := 190) dX12_read_187 rfl cX12_253 (rk_X12_comes (g := g) (vs := vs ++ ex) (h1 := hcr _ (by omega) (by omega)) (h2 := hcr _ (by omega) (by omega)) (h3 := hcr _ (by omega) (by omega)) (h4 := hcr _ (by omega) (by omega))) rfl L_177 (by decide) rfl (Nat.le_of_ble_eq_true rfl) (fun z187 M187 q187 => ?_)
                            rw [hY] at q187
                            obtain ⟨z1, c1, f1, g1⟩ := q187
                            refine S.if_ge (pc' := 193) (tgt := 197) dX12_read_190 (by decide) rfl (by unfold fp_rng; omega) (fun h190 => ?_) (fun h190 => ?_)
                            · exfalso; omega
                            · refine S.iconst (pc' := 194) dX12_read_193 rfl ?_
                              refine S.goto (pc' := 198) dX12_read_194 (by decide) ?_
                              refine S.istore (pc' := 200) (LL' := [_, _, _, _, _, _, _, _, _, _]) dX12_read_198 rfl (by decide) rfl rfl ?_
                              refine S.iload (pc' := 202) dX12_read_200 rfl rfl ?_
                              refine S.iload (pc' := 204) dX12_read_202 rfl rfl ?_
                              refine S.if_eq (pc' := 207) (tgt := 211) dX12_read_204 (by decide) rfl (by unfold fp_rng; omega) (fun h204 => ?_) (fun h204 => ?_)
                              · exfalso; omega
                              · refine S.iconst (pc' := 208) dX12_read_207 rfl ?_
                                refine S.goto (pc' := 212) dX12_read_208 (by decide) ?_
                                refine S.iadd (pc' := 213) dX12_read_212 rfl ?_
                                refine S.istore (pc' := 215) (LL' := [_, _, _, _, _, _, _, _, _, _]) dX12_read_213 rfl (by decide) rfl rfl ?_
                                refine S.iinc (pc' := 218) (LL' := [_, _, _, _, _, _, _, _, _, _]) dX12_read_215 rfl (by decide) rfl rfl rfl ?_
                                refine S.goto (pc' := 51) dX12_read_218 (by decide) ?_
                                try (exfalso; omega)
                                all_goals
                                  have hY2 : Y.2 = vs ++ ex := by
                                    rcases hor with q | q
                                    · exact q.2
                                    · exact absurd q.1 (by omega)
                                  rw [hY2] at c1
                                  have c95 := c1.1
                                  have c12 := c1.2.1
                                  rw [List.length_append] at c95 c12
                                  refine (mread_no (l := l) (G := G) (by omega) hn9 (by omega) (by omega)).wI (fun z O q => ?_)
                                  obtain ⟨q1, q2⟩ := q
                                  subst q2
                                  refine ⟨by show z = -20 - j; omega, hcs.vis hov (fun c hcc => by rw [fp_up_ne hcc]; exact f1 c hcc) (fun j hj => by rw [fp_up_at, fp_upf_ne (by omega)]; exact g1 j hj) (c1.pre (by rw [fp_up_at, fp_upf_at, c95]; omega) (fun j hj => by rw [fp_up_at, fp_upf_ne (by omega)])), fun c hcc => by rw [fp_up_ne (by omega), f1 c (by omega)]; exact hfr c hcc⟩
                      · exfalso; omega
                    · exfalso; omega
                  · exfalso; omega
          · rw [if_neg hneg] at es
            rw [es]
            refine S.iload (pc' := 53) dX12_read_51 rfl rfl ?_
            refine S.iconst (pc' := 54) dX12_read_53 rfl ?_
            refine S.iload (pc' := 56) dX12_read_54 rfl rfl ?_
            refine S.imul (pc' := 57) dX12_read_56 rfl ?_
            refine S.icmp_ge (pc' := 60) (tgt := 221) dX12_read_57 (by decide) rfl (by unfold fp_rng; omega) (by unfold fp_rng; omega) (fun h57 => ?_) (fun h57 => ?_)
            · exfalso; omega
            · refine S.iload (pc' := 62) dX12_read_60 rfl rfl ?_
              refine S.if_ne (pc' := 65) (tgt := 221) dX12_read_62 (by decide) rfl (by unfold fp_rng; omega) (fun h62 => ?_) (fun h62 => ?_)
              · exfalso; omega
              · refine S.iload (pc' := 67) dX12_read_65 rfl rfl ?_
                refine S.if_ne (pc' := 70) (tgt := 221) dX12_read_67 (by decide) rfl (by unfold fp_rng; omega) (fun h67 => ?_) (fun h67 => ?_)
                · exfalso; omega
                · refine S.aload_n (pc' := 71) dX12_read_70 rfl rfl rfl ?_
                  refine S.getR (pc' := 74) dX12_read_71 rfl fX12_82 L_177 rf_177_41 ?_
                  refine S.iload_n (pc' := 75) dX12_read_74 rfl rfl rfl ?_
                  refine S.iald (pc' := 76) dX12_read_75 rfl L_200 (by omega) (by omega) ?_
                  refine S.bipush (pc' := 78) dX12_read_76 rfl (by decide) ?_
                  refine S.icmp_ne (pc' := 81) (tgt := 85) dX12_read_78 (by decide) rfl (by unfold fp_rng; omega) (by unfold fp_rng; omega) (fun h78 => ?_) (fun h78 => ?_)
                  · refine S.aload_n (pc' := 86) dX12_read_85 rfl rfl rfl ?_
                    refine S.getR (pc' := 89) dX12_read_86 rfl fX12_82 L_177 rf_177_41 ?_
                    refine S.iload_n (pc' := 90) dX12_read_89 rfl rfl rfl ?_
                    refine S.iald (pc' := 91) dX12_read_90 rfl L_200 (by omega) (by omega) ?_
                    refine S.iload_n (pc' := 92) dX12_read_91 rfl rfl rfl ?_
                    refine S.icmp_eq (pc' := 95) (tgt := 99) dX12_read_92 (by decide) rfl (by unfold fp_rng; omega) (by unfold fp_rng; omega) (fun h92 => ?_) (fun h92 => ?_)
                    · refine S.iload_n (pc' := 100) dX12_read_99 rfl rfl rfl ?_
                      refine S.i2l (pc' := 101) dX12_read_100 rfl (by unfold fp_rng; omega) ?_
                      refine S.iload (pc' := 103) dX12_read_101 rfl rfl ?_
                      refine S.i2l (pc' := 104) dX12_read_103 rfl (by unfold fp_rng; omega) ?_
                      refine S.ladd (pc' := 105) dX12_read_104 rfl ?_
                      refine S.lconst (pc' := 106) (w := 0) dX12_read_105 rfl rfl ?_
                      refine S.aload_n (pc' := 107) dX12_read_106 rfl rfl rfl ?_
                      refine S.getR (pc' := 110) dX12_read_107 rfl fX12_85 L_177 rf_177_42 ?_
                      refine S.iload_n (pc' := 111) dX12_read_110 rfl rfl rfl ?_
                      refine S.iald (pc' := 112) dX12_read_111 rfl L_201 (by omega) (by omega) ?_
                      refine S.iconst (pc' := 113) dX12_read_112 rfl ?_
                      refine S.isub (pc' := 114) dX12_read_113 rfl ?_
                      refine S.i2l (pc' := 115) dX12_read_114 rfl (by unfold fp_rng; omega) ?_
                      refine S.callSi (pc' := 118) dX12_read_115 rfl cX12_94 (bk_X12_in) rfl (by decide) rfl (Nat.le_of_ble_eq_true rfl) (fun z115 M115 q115 => ?_)
                      obtain ⟨b115, rfl⟩ := q115
                      refine S.if_ne (pc' := 121) (tgt := 125) dX12_read_118 (by decide) rfl (by unfold fp_rng; omega) (fun h118 => ?_) (fun h118 => ?_)
                      · refine S.iconst (pc' := 126) dX12_read_125 rfl ?_
                        refine S.istore (pc' := 128) (LL' := [_, _, _, _, _, _, _, _, _, _]) dX12_read_126 rfl (by decide) rfl rfl ?_
                        refine S.iload (pc' := 130) dX12_read_128 rfl rfl ?_
                        refine S.if_ne (pc' := 133) (tgt := 215) dX12_read_130 (by decide) rfl (by unfold fp_rng; omega) (fun h130 => ?_) (fun h130 => ?_)
                        · refine S.iinc (pc' := 218) (LL' := [_, _, _, _, _, _, _, _, _, _]) dX12_read_215 rfl (by decide) rfl rfl rfl ?_
                          refine S.goto (pc' := 51) dX12_read_218 (by decide) ?_
                          try (exfalso; omega)
                          all_goals
                            have hY2 : ∃ v, Y.2 = vs ++ (ex ++ [v]) := by
                              rcases hor with q | q
                              · exact absurd q.1 hneg
                              · exact ⟨_, by rw [q.2, List.append_assoc]⟩
                            obtain ⟨v, hY2⟩ := hY2
                            rw [hY2] at c1 hok ⊢
                            exact ih _ (j + 1) 0 _ _ _ (by omega) (by omega) (by omega) (by omega) (by omega) (by omega) (by omega) (by rw [List.length_append]; simp; omega) (hcs.vis hov f1 g1 c1) (hfr.trans (fun c hc => f1 c (by omega))) hok
                        · refine S.iload (pc' := 135) dX12_read_133 rfl rfl ?_
                          refine S.iconst (pc' := 136) dX12_read_135 rfl ?_
                          refine S.irem (pc' := 137) dX12_read_136 rfl (by decide) (fp_rem4 (by omega)) ?_
                          refine S.iconst (pc' := 138) dX12_read_137 rfl ?_
                          refine S.icmp_ne (pc' := 141) (tgt := 215) dX12_read_138 (by decide) rfl (by unfold fp_rng; omega) (by unfold fp_rng; omega) (fun h138 => ?_) (fun h138 => ?_)
                          · refine S.iinc (pc' := 218) (LL' := [_, _, _, _, _, _, _, _, _, _]) dX12_read_215 rfl (by decide) rfl rfl rfl ?_
                            refine S.goto (pc' := 51) dX12_read_218 (by decide) ?_
                            try (exfalso; omega)
                            all_goals
                              have hY2 : ∃ v, Y.2 = vs ++ (ex ++ [v]) := by
                                rcases hor with q | q
                                · exact absurd q.1 hneg
                                · exact ⟨_, by rw [q.2, List.append_assoc]⟩
                              obtain ⟨v, hY2⟩ := hY2
                              rw [hY2] at c1 hok ⊢
                              exact ih _ (j + 1) 0 _ _ _ (by omega) (by omega) (by omega) (by omega) (by omega) (by omega) (by omega) (by rw [List.length_append]; simp; omega) (hcs.vis hov f1 g1 c1) (hfr.trans (fun c hc => f1 c (by omega))) hok
                          · refine S.bipush (pc' := 143) dX12_read_141 rfl (by decide) ?_
                            refine S.iload_n (pc' := 144) dX12_read_143 rfl rfl rfl ?_
                            refine S.imul (pc' := 145) dX12_read_144 rfl ?_
                            refine S.iload_n (pc' := 146) dX12_read_145 rfl rfl rfl ?_
                            refine S.iadd (pc' := 147) dX12_read_146 rfl ?_
                            refine S.iload (pc' := 149) dX12_read_147 rfl rfl ?_
                            refine S.iadd (pc' := 150) dX12_read_149 rfl ?_
                            refine S.istore (pc' := 152) (LL' := [_, _, _, _, _, _, _, _, _, _]) dX12_read_150 rfl (by decide) rfl rfl ?_
                            refine S.aload_n (pc' := 153) dX12_read_152 rfl rfl rfl ?_
                            refine S.aload_n (pc' := 154) dX12_read_153 rfl rfl rfl ?_
                            refine S.getR (pc' := 157) dX12_read_154 rfl fX12_88 L_177 rf_177_43 ?_
                            refine S.iload (pc' := 159) dX12_read_157 rfl rfl ?_
                            refine S.iconst (pc' := 160) dX12_read_159 rfl ?_
                            refine S.isub (pc' := 161) dX12_read_160 rfl ?_
                            refine S.iald (pc' := 162) dX12_read_161 rfl L_202 (by omega) (by omega) ?_
                            refine S.aload_n (pc' := 163) dX12_read_162 rfl rfl rfl ?_
                            refine S.getR (pc' := 166) dX12_read_163 rfl fX12_88 L_177 rf_177_43 ?_
                            refine S.iload (pc' := 168) dX12_read_166 rfl rfl ?_
                            refine S.iconst (pc' := 169) dX12_read_168 rfl ?_
                            refine S.isub (pc' := 170) dX12_read_169 rfl ?_
                            refine S.iald (pc' := 171) dX12_read_170 rfl L_202 (by omega) (by omega) ?_
                            refine S.aload_n (pc' := 172) dX12_read_171 rfl rfl rfl ?_
                            refine S.getR (pc' := 175) dX12_read_172 rfl fX12_88 L_177 rf_177_43 ?_
                            refine S.iload (pc' := 177) dX12_read_175 rfl rfl ?_
                            refine S.iconst (pc' := 178) dX12_read_177 rfl ?_
                            refine S.isub (pc' := 179) dX12_read_178 rfl ?_
                            refine S.iald (pc' := 180) dX12_read_179 rfl L_202 (by omega) (by omega) ?_
                            refine S.aload_n (pc' := 181) dX12_read_180 rfl rfl rfl ?_
                            refine S.getR (pc' := 184) dX12_read_181 rfl fX12_88 L_177 rf_177_43 ?_
                            refine S.iload (pc' := 186) dX12_read_184 rfl rfl ?_
                            refine S.iald (pc' := 187) dX12_read_186 rfl L_202 (by omega) (by omega) ?_
                            rw [d0, d1, d2, d3]
                            refine S.callVi (pc' := 190) dX12_read_187 rfl cX12_253 (rk_X12_comes (g := g) (vs := vs ++ ex) (h1 := hcr _ (by omega) (by omega)) (h2 := hcr _ (by omega) (by omega)) (h3 := hcr _ (by omega) (by omega)) (h4 := hcr _ (by omega) (by omega))) rfl L_177 (by decide) rfl (Nat.le_of_ble_eq_true rfl) (fun z187 M187 q187 => ?_)
                            rw [hY] at q187
                            obtain ⟨z1, c1, f1, g1⟩ := q187
                            refine S.if_ge (pc' := 193) (tgt := 197) dX12_read_190 (by decide) rfl (by unfold fp_rng; omega) (fun h190 => ?_) (fun h190 => ?_)
                            · refine S.iconst (pc' := 198) dX12_read_197 rfl ?_
                              refine S.istore (pc' := 200) (LL' := [_, _, _, _, _, _, _, _, _, _]) dX12_read_198 rfl (by decide) rfl rfl ?_
                              refine S.iload (pc' := 202) dX12_read_200 rfl rfl ?_
                              refine S.iload (pc' := 204) dX12_read_202 rfl rfl ?_
                              refine S.if_eq (pc' := 207) (tgt := 211) dX12_read_204 (by decide) rfl (by unfold fp_rng; omega) (fun h204 => ?_) (fun h204 => ?_)
                              · refine S.iconst (pc' := 212) dX12_read_211 rfl ?_
                                refine S.iadd (pc' := 213) dX12_read_212 rfl ?_
                                refine S.istore (pc' := 215) (LL' := [_, _, _, _, _, _, _, _, _, _]) dX12_read_213 rfl (by decide) rfl rfl ?_
                                refine S.iinc (pc' := 218) (LL' := [_, _, _, _, _, _, _, _, _, _]) dX12_read_215 rfl (by decide) rfl rfl rfl ?_
                                refine S.goto (pc' := 51) dX12_read_218 (by decide) ?_
                                try (exfalso; omega)
                                all_goals
                                  have hY2 : ∃ v, Y.2 = vs ++ (ex ++ [v]) := by
                                    rcases hor with q | q
                                    · exact absurd q.1 hneg
                                    · exact ⟨_, by rw [q.2, List.append_assoc]⟩
                                  obtain ⟨v, hY2⟩ := hY2
                                  rw [hY2] at c1 hok ⊢
                                  exact ih _ (j + 1) 0 _ _ _ (by omega) (by omega) (by omega) (by omega) (by omega) (by omega) (by omega) (by rw [List.length_append]; simp; omega) (hcs.vis hov f1 g1 c1) (hfr.trans (fun c hc => f1 c (by omega))) hok
                              · exfalso; omega
                            · exfalso; omega
                      · exfalso; omega
                    · exfalso; omega
                  · exfalso; omega
        · refine S.iload (pc' := 53) dX12_read_51 rfl rfl ?_
          refine S.iconst (pc' := 54) dX12_read_53 rfl ?_
          refine S.iload (pc' := 56) dX12_read_54 rfl rfl ?_
          refine S.imul (pc' := 57) dX12_read_56 rfl ?_
          refine S.icmp_ge (pc' := 60) (tgt := 221) dX12_read_57 (by decide) rfl (by unfold fp_rng; omega) (by unfold fp_rng; omega) (fun h57 => ?_) (fun h57 => ?_)
          · exfalso; omega
          · refine S.iload (pc' := 62) dX12_read_60 rfl rfl ?_
            refine S.if_ne (pc' := 65) (tgt := 221) dX12_read_62 (by decide) rfl (by unfold fp_rng; omega) (fun h62 => ?_) (fun h62 => ?_)
            · exfalso; omega
            · refine S.iload (pc' := 67) dX12_read_65 rfl rfl ?_
              refine S.if_ne (pc' := 70) (tgt := 221) dX12_read_67 (by decide) rfl (by unfold fp_rng; omega) (fun h67 => ?_) (fun h67 => ?_)
              · exfalso; omega
              · refine S.aload_n (pc' := 71) dX12_read_70 rfl rfl rfl ?_
                refine S.getR (pc' := 74) dX12_read_71 rfl fX12_82 L_177 rf_177_41 ?_
                refine S.iload_n (pc' := 75) dX12_read_74 rfl rfl rfl ?_
                refine S.iald (pc' := 76) dX12_read_75 rfl L_200 (by omega) (by omega) ?_
                refine S.bipush (pc' := 78) dX12_read_76 rfl (by decide) ?_
                refine S.icmp_ne (pc' := 81) (tgt := 85) dX12_read_78 (by decide) rfl (by unfold fp_rng; omega) (by unfold fp_rng; omega) (fun h78 => ?_) (fun h78 => ?_)
                · refine S.aload_n (pc' := 86) dX12_read_85 rfl rfl rfl ?_
                  refine S.getR (pc' := 89) dX12_read_86 rfl fX12_82 L_177 rf_177_41 ?_
                  refine S.iload_n (pc' := 90) dX12_read_89 rfl rfl rfl ?_
                  refine S.iald (pc' := 91) dX12_read_90 rfl L_200 (by omega) (by omega) ?_
                  refine S.iload_n (pc' := 92) dX12_read_91 rfl rfl rfl ?_
                  refine S.icmp_eq (pc' := 95) (tgt := 99) dX12_read_92 (by decide) rfl (by unfold fp_rng; omega) (by unfold fp_rng; omega) (fun h92 => ?_) (fun h92 => ?_)
                  · refine S.iload_n (pc' := 100) dX12_read_99 rfl rfl rfl ?_
                    refine S.i2l (pc' := 101) dX12_read_100 rfl (by unfold fp_rng; omega) ?_
                    refine S.iload (pc' := 103) dX12_read_101 rfl rfl ?_
                    refine S.i2l (pc' := 104) dX12_read_103 rfl (by unfold fp_rng; omega) ?_
                    refine S.ladd (pc' := 105) dX12_read_104 rfl ?_
                    refine S.lconst (pc' := 106) (w := 0) dX12_read_105 rfl rfl ?_
                    refine S.aload_n (pc' := 107) dX12_read_106 rfl rfl rfl ?_
                    refine S.getR (pc' := 110) dX12_read_107 rfl fX12_85 L_177 rf_177_42 ?_
                    refine S.iload_n (pc' := 111) dX12_read_110 rfl rfl rfl ?_
                    refine S.iald (pc' := 112) dX12_read_111 rfl L_201 (by omega) (by omega) ?_
                    refine S.iconst (pc' := 113) dX12_read_112 rfl ?_
                    refine S.isub (pc' := 114) dX12_read_113 rfl ?_
                    refine S.i2l (pc' := 115) dX12_read_114 rfl (by unfold fp_rng; omega) ?_
                    refine S.callSi (pc' := 118) dX12_read_115 rfl cX12_94 (bk_X12_in) rfl (by decide) rfl (Nat.le_of_ble_eq_true rfl) (fun z115 M115 q115 => ?_)
                    obtain ⟨b115, rfl⟩ := q115
                    refine S.if_ne (pc' := 121) (tgt := 125) dX12_read_118 (by decide) rfl (by unfold fp_rng; omega) (fun h118 => ?_) (fun h118 => ?_)
                    · refine S.iconst (pc' := 126) dX12_read_125 rfl ?_
                      refine S.istore (pc' := 128) (LL' := [_, _, _, _, _, _, _, _, _, _]) dX12_read_126 rfl (by decide) rfl rfl ?_
                      refine S.iload (pc' := 130) dX12_read_128 rfl rfl ?_
                      refine S.if_ne (pc' := 133) (tgt := 215) dX12_read_130 (by decide) rfl (by unfold fp_rng; omega) (fun h130 => ?_) (fun h130 => ?_)
                      · refine S.iinc (pc' := 218) (LL' := [_, _, _, _, _, _, _, _, _, _]) dX12_read_215 rfl (by decide) rfl rfl rfl ?_
                        refine S.goto (pc' := 51) dX12_read_218 (by decide) ?_
                        exact ih _ _ (r + 1) _ _ _ (by omega) (by omega) (by omega) (by omega) (by omega) (by omega) (by omega) hex hcs hfr hvo
                      · refine S.iload (pc' := 135) dX12_read_133 rfl rfl ?_
                        refine S.iconst (pc' := 136) dX12_read_135 rfl ?_
                        refine S.irem (pc' := 137) dX12_read_136 rfl (by decide) (fp_rem4 (by omega)) ?_
                        refine S.iconst (pc' := 138) dX12_read_137 rfl ?_
                        refine S.icmp_ne (pc' := 141) (tgt := 215) dX12_read_138 (by decide) rfl (by unfold fp_rng; omega) (by unfold fp_rng; omega) (fun h138 => ?_) (fun h138 => ?_)
                        · refine S.iinc (pc' := 218) (LL' := [_, _, _, _, _, _, _, _, _, _]) dX12_read_215 rfl (by decide) rfl rfl rfl ?_
                          refine S.goto (pc' := 51) dX12_read_218 (by decide) ?_
                          exact ih _ _ (r + 1) _ _ _ (by omega) (by omega) (by omega) (by omega) (by omega) (by omega) (by omega) hex hcs hfr hvo
                        · exfalso; omega
                    · exfalso; omega
                  · exfalso; omega
                · exfalso; omega
      · rw [if_pos (by omega)] at es
        rw [es]
        refine S.iload (pc' := 53) dX12_read_51 rfl rfl ?_
        refine S.iconst (pc' := 54) dX12_read_53 rfl ?_
        refine S.iload (pc' := 56) dX12_read_54 rfl rfl ?_
        refine S.imul (pc' := 57) dX12_read_56 rfl ?_
        refine S.icmp_ge (pc' := 60) (tgt := 221) dX12_read_57 (by decide) rfl (by unfold fp_rng; omega) (by unfold fp_rng; omega) (fun h57 => ?_) (fun h57 => ?_)
        · exfalso; omega
        · refine S.iload (pc' := 62) dX12_read_60 rfl rfl ?_
          refine S.if_ne (pc' := 65) (tgt := 221) dX12_read_62 (by decide) rfl (by unfold fp_rng; omega) (fun h62 => ?_) (fun h62 => ?_)
          · exfalso; omega
          · refine S.iload (pc' := 67) dX12_read_65 rfl rfl ?_
            refine S.if_ne (pc' := 70) (tgt := 221) dX12_read_67 (by decide) rfl (by unfold fp_rng; omega) (fun h67 => ?_) (fun h67 => ?_)
            · exfalso; omega
            · refine S.aload_n (pc' := 71) dX12_read_70 rfl rfl rfl ?_
              refine S.getR (pc' := 74) dX12_read_71 rfl fX12_82 L_177 rf_177_41 ?_
              refine S.iload_n (pc' := 75) dX12_read_74 rfl rfl rfl ?_
              refine S.iald (pc' := 76) dX12_read_75 rfl L_200 (by omega) (by omega) ?_
              refine S.bipush (pc' := 78) dX12_read_76 rfl (by decide) ?_
              refine S.icmp_ne (pc' := 81) (tgt := 85) dX12_read_78 (by decide) rfl (by unfold fp_rng; omega) (by unfold fp_rng; omega) (fun h78 => ?_) (fun h78 => ?_)
              · refine S.aload_n (pc' := 86) dX12_read_85 rfl rfl rfl ?_
                refine S.getR (pc' := 89) dX12_read_86 rfl fX12_82 L_177 rf_177_41 ?_
                refine S.iload_n (pc' := 90) dX12_read_89 rfl rfl rfl ?_
                refine S.iald (pc' := 91) dX12_read_90 rfl L_200 (by omega) (by omega) ?_
                refine S.iload_n (pc' := 92) dX12_read_91 rfl rfl rfl ?_
                refine S.icmp_eq (pc' := 95) (tgt := 99) dX12_read_92 (by decide) rfl (by unfold fp_rng; omega) (by unfold fp_rng; omega) (fun h92 => ?_) (fun h92 => ?_)
                · refine S.iload_n (pc' := 100) dX12_read_99 rfl rfl rfl ?_
                  refine S.i2l (pc' := 101) dX12_read_100 rfl (by unfold fp_rng; omega) ?_
                  refine S.iload (pc' := 103) dX12_read_101 rfl rfl ?_
                  refine S.i2l (pc' := 104) dX12_read_103 rfl (by unfold fp_rng; omega) ?_
                  refine S.ladd (pc' := 105) dX12_read_104 rfl ?_
                  refine S.lconst (pc' := 106) (w := 0) dX12_read_105 rfl rfl ?_
                  refine S.aload_n (pc' := 107) dX12_read_106 rfl rfl rfl ?_
                  refine S.getR (pc' := 110) dX12_read_107 rfl fX12_85 L_177 rf_177_42 ?_
                  refine S.iload_n (pc' := 111) dX12_read_110 rfl rfl rfl ?_
                  refine S.iald (pc' := 112) dX12_read_111 rfl L_201 (by omega) (by omega) ?_
                  refine S.iconst (pc' := 113) dX12_read_112 rfl ?_
                  refine S.isub (pc' := 114) dX12_read_113 rfl ?_
                  refine S.i2l (pc' := 115) dX12_read_114 rfl (by unfold fp_rng; omega) ?_
                  refine S.callSi (pc' := 118) dX12_read_115 rfl cX12_94 (bk_X12_in) rfl (by decide) rfl (Nat.le_of_ble_eq_true rfl) (fun z115 M115 q115 => ?_)
                  obtain ⟨b115, rfl⟩ := q115
                  refine S.if_ne (pc' := 121) (tgt := 125) dX12_read_118 (by decide) rfl (by unfold fp_rng; omega) (fun h118 => ?_) (fun h118 => ?_)
                  · exfalso; omega
                  · refine S.iconst (pc' := 122) dX12_read_121 rfl ?_
                    refine S.goto (pc' := 126) dX12_read_122 (by decide) ?_
                    refine S.istore (pc' := 128) (LL' := [_, _, _, _, _, _, _, _, _, _]) dX12_read_126 rfl (by decide) rfl rfl ?_
                    refine S.iload (pc' := 130) dX12_read_128 rfl rfl ?_
                    refine S.if_ne (pc' := 133) (tgt := 215) dX12_read_130 (by decide) rfl (by unfold fp_rng; omega) (fun h130 => ?_) (fun h130 => ?_)
                    · refine S.iinc (pc' := 218) (LL' := [_, _, _, _, _, _, _, _, _, _]) dX12_read_215 rfl (by decide) rfl rfl rfl ?_
                      refine S.goto (pc' := 51) dX12_read_218 (by decide) ?_
                      refine (mread_by (l := l) (G := G) (by omega) (by omega) hn9).wI (fun z O q => ?_)
                      obtain ⟨q1, q2⟩ := q
                      subst q2
                      exact ⟨q1, hcs.torn, fun c hcc => by rw [fp_up_ne (by omega)]; exact hfr c hcc⟩
                    · exfalso; omega
                · exfalso; omega
              · exfalso; omega
theorem mm_read {k9 lane f n9 : Int} (hc : MS M tp fl g pg vs nt im sh tn) (ho : OK g pg vs nt im sh) (h1 : fp_rng k9) (h2 : fp_rng lane) (h3 : fp_rng f) (hn : fp_rng n9) : fp_Ok l G 3 kX12_read [rV G 177, iV k9, iV lane, iV f, iV n9] M (qI fun z N => z = (A_read g vs sh tn k9 lane f n9).1 ∧ MS N tp fl g pg (A_read g vs sh tn k9 lane f n9).2.1 nt im sh (A_read g vs sh tn k9 lane f n9).2.2 ∧ frD M N) := by
  have hcs := hc
  have h1' := h1
  have h2' := h2
  have h3' := h3
  have hn' := hn
  unfold fp_rng at h1' h2' h3' hn'
  obtain ⟨hA, hd, hP, hv, hNt, hI, hS, hK⟩ := hc
  refine fp_Ok.of (r := 5) rfl (Nat.le_of_ble_eq_true rfl) rfl ?_
  unfold A_read
  by_cases hin : (0 ≤ k9 ∧ k9 ≤ 3) ∧ (0 ≤ lane ∧ lane ≤ 2) ∧ (0 ≤ n9 ∧ n9 ≤ 10)
  · rw [if_neg (fun q => q hin)]
    have hex : ∀ (b i : Int) (o9 : Option Value), (1 ≤ b ∧ b ≤ 3) → (0 ≤ i ∧ i ≤ 40) → fp_S l G 3 kX12_read 51 [some (rV G 177), some (iV k9), some (iV lane), some (iV f), some (iV n9), some (iV b), some (iV 0), some (iV 0), some (iV i), o9] [] M (qI fun z N => z = 0 ∧ MS N tp fl g pg vs nt im sh b ∧ frD M N) := by
      intro b i o9 hb hi
      refine (mread_by (l := l) (G := G) hb hi hin.2.2).wI (fun z O q => ?_)
      obtain ⟨q1, q2⟩ := q
      subst q2
      exact ⟨q1, hcs.torn, fun c hcc => by rw [fp_up_ne (by omega)]⟩
    by_cases hn0 : n9 = 0
    · rw [if_pos hn0]
      refine S.iload_n (pc' := 1) dX12_read_0 rfl rfl rfl ?_
      refine S.i2l (pc' := 2) dX12_read_1 rfl (by unfold fp_rng; omega) ?_
      refine S.lconst (pc' := 3) (w := 0) dX12_read_2 rfl rfl ?_
      refine S.ldc2 (pc' := 6) (v := 3) dX12_read_3 rfl lX12_196 (by decide) ?_
      refine S.callSi (pc' := 9) dX12_read_6 rfl cX12_94 (bk_X12_in) rfl (by decide) rfl (Nat.le_of_ble_eq_true rfl) (fun z6 M6 q6 => ?_)
      obtain ⟨b6, rfl⟩ := q6
      refine S.if_eq (pc' := 12) (tgt := 37) dX12_read_9 (by decide) rfl (by unfold fp_rng; omega) (fun h9 => ?_) (fun h9 => ?_)
      · exfalso; omega
      · refine S.iload_n (pc' := 13) dX12_read_12 rfl rfl rfl ?_
        refine S.i2l (pc' := 14) dX12_read_13 rfl (by unfold fp_rng; omega) ?_
        refine S.lconst (pc' := 15) (w := 0) dX12_read_14 rfl rfl ?_
        refine S.ldc2 (pc' := 18) (v := 2) dX12_read_15 rfl lX12_271 (by decide) ?_
        refine S.callSi (pc' := 21) dX12_read_18 rfl cX12_94 (bk_X12_in) rfl (by decide) rfl (Nat.le_of_ble_eq_true rfl) (fun z18 M18 q18 => ?_)
        obtain ⟨b18, rfl⟩ := q18
        refine S.if_eq (pc' := 24) (tgt := 37) dX12_read_21 (by decide) rfl (by unfold fp_rng; omega) (fun h21 => ?_) (fun h21 => ?_)
        · exfalso; omega
        · refine S.iload (pc' := 26) dX12_read_24 rfl rfl ?_
          refine S.i2l (pc' := 27) dX12_read_26 rfl (by unfold fp_rng; omega) ?_
          refine S.lconst (pc' := 28) (w := 0) dX12_read_27 rfl rfl ?_
          refine S.ldc2 (pc' := 31) (v := 10) dX12_read_28 rfl lX12_212 (by decide) ?_
          refine S.callSi (pc' := 34) dX12_read_31 rfl cX12_94 (bk_X12_in) rfl (by decide) rfl (Nat.le_of_ble_eq_true rfl) (fun z31 M31 q31 => ?_)
          obtain ⟨b31, rfl⟩ := q31
          refine S.if_ne (pc' := 37) (tgt := 39) dX12_read_34 (by decide) rfl (by unfold fp_rng; omega) (fun h34 => ?_) (fun h34 => ?_)
          · refine S.iconst (pc' := 40) dX12_read_39 rfl ?_
            refine S.istore (pc' := 42) (LL' := [_, _, _, _, _, _, _, _, _, _]) dX12_read_40 rfl (by decide) rfl rfl ?_
            refine S.iconst (pc' := 43) dX12_read_42 rfl ?_
            refine S.istore (pc' := 45) (LL' := [_, _, _, _, _, _, _, _, _, _]) dX12_read_43 rfl (by decide) rfl rfl ?_
            refine S.iconst (pc' := 46) dX12_read_45 rfl ?_
            refine S.istore (pc' := 48) (LL' := [_, _, _, _, _, _, _, _, _, _]) dX12_read_46 rfl (by decide) rfl rfl ?_
            refine S.iconst (pc' := 49) dX12_read_48 rfl ?_
            refine S.istore (pc' := 51) (LL' := [_, _, _, _, _, _, _, _, _, _]) dX12_read_49 rfl (by decide) rfl rfl ?_
            have e := mread_end (l := l) (G := G) (N := M) (k9 := k9) (lane := lane) (f := f) (cm := 0) (o9 := none) hin.2.2
            rw [show 4 * n9 = 0 by omega] at e
            refine e.wI (fun z O q => ?_)
            obtain ⟨q1, q2⟩ := q
            subst q2
            exact ⟨q1, hcs.torn, fun c hcc => by rw [fp_up_ne (by omega)]⟩
          · exfalso; omega
    · rw [if_neg hn0]
      obtain ⟨k2, hk3⟩ := hS k9 hin.1.1 (by omega)
      have hso := ho.2.2.2.2.2 k9 hin.1.1 (by omega)
      have hr0 : fp_rng (M 200 k9.toNat) := by rw [k2]; unfold fp_rng; omega
      by_cases h40 : (sh k9).1 = -4
      · rw [if_pos h40]
        have hst : fp_S l G 3 kX12_read 51 [some (rV G 177), some (iV k9), some (iV lane), some (iV f), some (iV n9), some (iV 0), some (iV 0), some (iV 0), some (iV 0), none] [] M (qI fun z N => z = 0 ∧ MS N tp fl g pg vs nt im sh 1 ∧ frD M N) := by
          refine S.iload (pc' := 53) dX12_read_51 rfl rfl ?_
          refine S.iconst (pc' := 54) dX12_read_53 rfl ?_
          refine S.iload (pc' := 56) dX12_read_54 rfl rfl ?_
          refine S.imul (pc' := 57) dX12_read_56 rfl ?_
          refine S.icmp_ge (pc' := 60) (tgt := 221) dX12_read_57 (by decide) rfl (by unfold fp_rng; omega) (by unfold fp_rng; omega) (fun h57 => ?_) (fun h57 => ?_)
          · exfalso; omega
          · refine S.iload (pc' := 62) dX12_read_60 rfl rfl ?_
            refine S.if_ne (pc' := 65) (tgt := 221) dX12_read_62 (by decide) rfl (by unfold fp_rng; omega) (fun h62 => ?_) (fun h62 => ?_)
            · exfalso; omega
            · refine S.iload (pc' := 67) dX12_read_65 rfl rfl ?_
              refine S.if_ne (pc' := 70) (tgt := 221) dX12_read_67 (by decide) rfl (by unfold fp_rng; omega) (fun h67 => ?_) (fun h67 => ?_)
              · exfalso; omega
              · refine S.aload_n (pc' := 71) dX12_read_70 rfl rfl rfl ?_
                refine S.getR (pc' := 74) dX12_read_71 rfl fX12_82 L_177 rf_177_41 ?_
                refine S.iload_n (pc' := 75) dX12_read_74 rfl rfl rfl ?_
                refine S.iald (pc' := 76) dX12_read_75 rfl L_200 (by omega) (by omega) ?_
                refine S.bipush (pc' := 78) dX12_read_76 rfl (by decide) ?_
                refine S.icmp_ne (pc' := 81) (tgt := 85) dX12_read_78 (by decide) rfl (by unfold fp_rng; omega) (by unfold fp_rng; omega) (fun h78 => ?_) (fun h78 => ?_)
                · exfalso; omega
                · refine S.iconst (pc' := 82) dX12_read_81 rfl ?_
                  refine S.goto (pc' := 126) dX12_read_82 (by decide) ?_
                  refine S.istore (pc' := 128) (LL' := [_, _, _, _, _, _, _, _, _, _]) dX12_read_126 rfl (by decide) rfl rfl ?_
                  refine S.iload (pc' := 130) dX12_read_128 rfl rfl ?_
                  refine S.if_ne (pc' := 133) (tgt := 215) dX12_read_130 (by decide) rfl (by unfold fp_rng; omega) (fun h130 => ?_) (fun h130 => ?_)
                  · refine S.iinc (pc' := 218) (LL' := [_, _, _, _, _, _, _, _, _, _]) dX12_read_215 rfl (by decide) rfl rfl rfl ?_
                    refine S.goto (pc' := 51) dX12_read_218 (by decide) ?_
                    exact hex _ _ _ (by omega) (by omega)
                  · exfalso; omega
        refine S.iload_n (pc' := 1) dX12_read_0 rfl rfl rfl ?_
        refine S.i2l (pc' := 2) dX12_read_1 rfl (by unfold fp_rng; omega) ?_
        refine S.lconst (pc' := 3) (w := 0) dX12_read_2 rfl rfl ?_
        refine S.ldc2 (pc' := 6) (v := 3) dX12_read_3 rfl lX12_196 (by decide) ?_
        refine S.callSi (pc' := 9) dX12_read_6 rfl cX12_94 (bk_X12_in) rfl (by decide) rfl (Nat.le_of_ble_eq_true rfl) (fun z6 M6 q6 => ?_)
        obtain ⟨b6, rfl⟩ := q6
        refine S.if_eq (pc' := 12) (tgt := 37) dX12_read_9 (by decide) rfl (by unfold fp_rng; omega) (fun h9 => ?_) (fun h9 => ?_)
        · exfalso; omega
        · refine S.iload_n (pc' := 13) dX12_read_12 rfl rfl rfl ?_
          refine S.i2l (pc' := 14) dX12_read_13 rfl (by unfold fp_rng; omega) ?_
          refine S.lconst (pc' := 15) (w := 0) dX12_read_14 rfl rfl ?_
          refine S.ldc2 (pc' := 18) (v := 2) dX12_read_15 rfl lX12_271 (by decide) ?_
          refine S.callSi (pc' := 21) dX12_read_18 rfl cX12_94 (bk_X12_in) rfl (by decide) rfl (Nat.le_of_ble_eq_true rfl) (fun z18 M18 q18 => ?_)
          obtain ⟨b18, rfl⟩ := q18
          refine S.if_eq (pc' := 24) (tgt := 37) dX12_read_21 (by decide) rfl (by unfold fp_rng; omega) (fun h21 => ?_) (fun h21 => ?_)
          · exfalso; omega
          · refine S.iload (pc' := 26) dX12_read_24 rfl rfl ?_
            refine S.i2l (pc' := 27) dX12_read_26 rfl (by unfold fp_rng; omega) ?_
            refine S.lconst (pc' := 28) (w := 0) dX12_read_27 rfl rfl ?_
            refine S.ldc2 (pc' := 31) (v := 10) dX12_read_28 rfl lX12_212 (by decide) ?_
            refine S.callSi (pc' := 34) dX12_read_31 rfl cX12_94 (bk_X12_in) rfl (by decide) rfl (Nat.le_of_ble_eq_true rfl) (fun z31 M31 q31 => ?_)
            obtain ⟨b31, rfl⟩ := q31
            refine S.if_ne (pc' := 37) (tgt := 39) dX12_read_34 (by decide) rfl (by unfold fp_rng; omega) (fun h34 => ?_) (fun h34 => ?_)
            · refine S.iconst (pc' := 40) dX12_read_39 rfl ?_
              refine S.istore (pc' := 42) (LL' := [_, _, _, _, _, _, _, _, _, _]) dX12_read_40 rfl (by decide) rfl rfl ?_
              refine S.iconst (pc' := 43) dX12_read_42 rfl ?_
              refine S.istore (pc' := 45) (LL' := [_, _, _, _, _, _, _, _, _, _]) dX12_read_43 rfl (by decide) rfl rfl ?_
              refine S.iconst (pc' := 46) dX12_read_45 rfl ?_
              refine S.istore (pc' := 48) (LL' := [_, _, _, _, _, _, _, _, _, _]) dX12_read_46 rfl (by decide) rfl rfl ?_
              refine S.iconst (pc' := 49) dX12_read_48 rfl ?_
              refine S.istore (pc' := 51) (LL' := [_, _, _, _, _, _, _, _, _, _]) dX12_read_49 rfl (by decide) rfl rfl ?_
              exact hst
            · exfalso; omega
      · rw [if_neg h40]
        by_cases hln : (sh k9).1 = lane
        · rw [if_neg (fun q => q hln)]
          have hl9 := mread_loop (l := l) (G := G) (lane := lane) (M := M) (tp := tp) (fl := fl) (tn := tn) hin.1 h3 hin.2.2 ho h40 hln 41 0 0 0 M [] none (by omega) (by omega) (by omega) (by omega) (by omega) (by omega) (by omega) rfl (by rw [List.append_nil]; exact hcs) (frD.refl _) (by rw [List.append_nil]; exact ho.2.2.1)
          rw [List.append_nil, show n9 - 0 = n9 by omega] at hl9
          refine S.iload_n (pc' := 1) dX12_read_0 rfl rfl rfl ?_
          refine S.i2l (pc' := 2) dX12_read_1 rfl (by unfold fp_rng; omega) ?_
          refine S.lconst (pc' := 3) (w := 0) dX12_read_2 rfl rfl ?_
          refine S.ldc2 (pc' := 6) (v := 3) dX12_read_3 rfl lX12_196 (by decide) ?_
          refine S.callSi (pc' := 9) dX12_read_6 rfl cX12_94 (bk_X12_in) rfl (by decide) rfl (Nat.le_of_ble_eq_true rfl) (fun z6 M6 q6 => ?_)
          obtain ⟨b6, rfl⟩ := q6
          refine S.if_eq (pc' := 12) (tgt := 37) dX12_read_9 (by decide) rfl (by unfold fp_rng; omega) (fun h9 => ?_) (fun h9 => ?_)
          · exfalso; omega
          · refine S.iload_n (pc' := 13) dX12_read_12 rfl rfl rfl ?_
            refine S.i2l (pc' := 14) dX12_read_13 rfl (by unfold fp_rng; omega) ?_
            refine S.lconst (pc' := 15) (w := 0) dX12_read_14 rfl rfl ?_
            refine S.ldc2 (pc' := 18) (v := 2) dX12_read_15 rfl lX12_271 (by decide) ?_
            refine S.callSi (pc' := 21) dX12_read_18 rfl cX12_94 (bk_X12_in) rfl (by decide) rfl (Nat.le_of_ble_eq_true rfl) (fun z18 M18 q18 => ?_)
            obtain ⟨b18, rfl⟩ := q18
            refine S.if_eq (pc' := 24) (tgt := 37) dX12_read_21 (by decide) rfl (by unfold fp_rng; omega) (fun h21 => ?_) (fun h21 => ?_)
            · exfalso; omega
            · refine S.iload (pc' := 26) dX12_read_24 rfl rfl ?_
              refine S.i2l (pc' := 27) dX12_read_26 rfl (by unfold fp_rng; omega) ?_
              refine S.lconst (pc' := 28) (w := 0) dX12_read_27 rfl rfl ?_
              refine S.ldc2 (pc' := 31) (v := 10) dX12_read_28 rfl lX12_212 (by decide) ?_
              refine S.callSi (pc' := 34) dX12_read_31 rfl cX12_94 (bk_X12_in) rfl (by decide) rfl (Nat.le_of_ble_eq_true rfl) (fun z31 M31 q31 => ?_)
              obtain ⟨b31, rfl⟩ := q31
              refine S.if_ne (pc' := 37) (tgt := 39) dX12_read_34 (by decide) rfl (by unfold fp_rng; omega) (fun h34 => ?_) (fun h34 => ?_)
              · refine S.iconst (pc' := 40) dX12_read_39 rfl ?_
                refine S.istore (pc' := 42) (LL' := [_, _, _, _, _, _, _, _, _, _]) dX12_read_40 rfl (by decide) rfl rfl ?_
                refine S.iconst (pc' := 43) dX12_read_42 rfl ?_
                refine S.istore (pc' := 45) (LL' := [_, _, _, _, _, _, _, _, _, _]) dX12_read_43 rfl (by decide) rfl rfl ?_
                refine S.iconst (pc' := 46) dX12_read_45 rfl ?_
                refine S.istore (pc' := 48) (LL' := [_, _, _, _, _, _, _, _, _, _]) dX12_read_46 rfl (by decide) rfl rfl ?_
                refine S.iconst (pc' := 49) dX12_read_48 rfl ?_
                refine S.istore (pc' := 51) (LL' := [_, _, _, _, _, _, _, _, _, _]) dX12_read_49 rfl (by decide) rfl rfl ?_
                exact hl9
              · exfalso; omega
        · rw [if_pos hln]
          have hst : fp_S l G 3 kX12_read 51 [some (rV G 177), some (iV k9), some (iV lane), some (iV f), some (iV n9), some (iV 0), some (iV 0), some (iV 0), some (iV 0), none] [] M (qI fun z N => z = 0 ∧ MS N tp fl g pg vs nt im sh 3 ∧ frD M N) := by
            refine S.iload (pc' := 53) dX12_read_51 rfl rfl ?_
            refine S.iconst (pc' := 54) dX12_read_53 rfl ?_
            refine S.iload (pc' := 56) dX12_read_54 rfl rfl ?_
            refine S.imul (pc' := 57) dX12_read_56 rfl ?_
            refine S.icmp_ge (pc' := 60) (tgt := 221) dX12_read_57 (by decide) rfl (by unfold fp_rng; omega) (by unfold fp_rng; omega) (fun h57 => ?_) (fun h57 => ?_)
            · exfalso; omega
            · refine S.iload (pc' := 62) dX12_read_60 rfl rfl ?_
              refine S.if_ne (pc' := 65) (tgt := 221) dX12_read_62 (by decide) rfl (by unfold fp_rng; omega) (fun h62 => ?_) (fun h62 => ?_)
              · exfalso; omega
              · refine S.iload (pc' := 67) dX12_read_65 rfl rfl ?_
                refine S.if_ne (pc' := 70) (tgt := 221) dX12_read_67 (by decide) rfl (by unfold fp_rng; omega) (fun h67 => ?_) (fun h67 => ?_)
                · exfalso; omega
                · refine S.aload_n (pc' := 71) dX12_read_70 rfl rfl rfl ?_
                  refine S.getR (pc' := 74) dX12_read_71 rfl fX12_82 L_177 rf_177_41 ?_
                  refine S.iload_n (pc' := 75) dX12_read_74 rfl rfl rfl ?_
                  refine S.iald (pc' := 76) dX12_read_75 rfl L_200 (by omega) (by omega) ?_
                  refine S.bipush (pc' := 78) dX12_read_76 rfl (by decide) ?_
                  refine S.icmp_ne (pc' := 81) (tgt := 85) dX12_read_78 (by decide) rfl (by unfold fp_rng; omega) (by unfold fp_rng; omega) (fun h78 => ?_) (fun h78 => ?_)
                  · refine S.aload_n (pc' := 86) dX12_read_85 rfl rfl rfl ?_
                    refine S.getR (pc' := 89) dX12_read_86 rfl fX12_82 L_177 rf_177_41 ?_
                    refine S.iload_n (pc' := 90) dX12_read_89 rfl rfl rfl ?_
                    refine S.iald (pc' := 91) dX12_read_90 rfl L_200 (by omega) (by omega) ?_
                    refine S.iload_n (pc' := 92) dX12_read_91 rfl rfl rfl ?_
                    refine S.icmp_eq (pc' := 95) (tgt := 99) dX12_read_92 (by decide) rfl (by unfold fp_rng; omega) (by unfold fp_rng; omega) (fun h92 => ?_) (fun h92 => ?_)
                    · exfalso; omega
                    · refine S.iconst (pc' := 96) dX12_read_95 rfl ?_
                      refine S.goto (pc' := 126) dX12_read_96 (by decide) ?_
                      refine S.istore (pc' := 128) (LL' := [_, _, _, _, _, _, _, _, _, _]) dX12_read_126 rfl (by decide) rfl rfl ?_
                      refine S.iload (pc' := 130) dX12_read_128 rfl rfl ?_
                      refine S.if_ne (pc' := 133) (tgt := 215) dX12_read_130 (by decide) rfl (by unfold fp_rng; omega) (fun h130 => ?_) (fun h130 => ?_)
                      · refine S.iinc (pc' := 218) (LL' := [_, _, _, _, _, _, _, _, _, _]) dX12_read_215 rfl (by decide) rfl rfl rfl ?_
                        refine S.goto (pc' := 51) dX12_read_218 (by decide) ?_
                        exact hex _ _ _ (by omega) (by omega)
                      · exfalso; omega
                  · exfalso; omega
          refine S.iload_n (pc' := 1) dX12_read_0 rfl rfl rfl ?_
          refine S.i2l (pc' := 2) dX12_read_1 rfl (by unfold fp_rng; omega) ?_
          refine S.lconst (pc' := 3) (w := 0) dX12_read_2 rfl rfl ?_
          refine S.ldc2 (pc' := 6) (v := 3) dX12_read_3 rfl lX12_196 (by decide) ?_
          refine S.callSi (pc' := 9) dX12_read_6 rfl cX12_94 (bk_X12_in) rfl (by decide) rfl (Nat.le_of_ble_eq_true rfl) (fun z6 M6 q6 => ?_)
          obtain ⟨b6, rfl⟩ := q6
          refine S.if_eq (pc' := 12) (tgt := 37) dX12_read_9 (by decide) rfl (by unfold fp_rng; omega) (fun h9 => ?_) (fun h9 => ?_)
          · exfalso; omega
          · refine S.iload_n (pc' := 13) dX12_read_12 rfl rfl rfl ?_
            refine S.i2l (pc' := 14) dX12_read_13 rfl (by unfold fp_rng; omega) ?_
            refine S.lconst (pc' := 15) (w := 0) dX12_read_14 rfl rfl ?_
            refine S.ldc2 (pc' := 18) (v := 2) dX12_read_15 rfl lX12_271 (by decide) ?_
            refine S.callSi (pc' := 21) dX12_read_18 rfl cX12_94 (bk_X12_in) rfl (by decide) rfl (Nat.le_of_ble_eq_true rfl) (fun z18 M18 q18 => ?_)
            obtain ⟨b18, rfl⟩ := q18
            refine S.if_eq (pc' := 24) (tgt := 37) dX12_read_21 (by decide) rfl (by unfold fp_rng; omega) (fun h21 => ?_) (fun h21 => ?_)
            · exfalso; omega
            · refine S.iload (pc' := 26) dX12_read_24 rfl rfl ?_
              refine S.i2l (pc' := 27) dX12_read_26 rfl (by unfold fp_rng; omega) ?_
              refine S.lconst (pc' := 28) (w := 0) dX12_read_27 rfl rfl ?_
              refine S.ldc2 (pc' := 31) (v := 10) dX12_read_28 rfl lX12_212 (by decide) ?_
              refine S.callSi (pc' := 34) dX12_read_31 rfl cX12_94 (bk_X12_in) rfl (by decide) rfl (Nat.le_of_ble_eq_true rfl) (fun z31 M31 q31 => ?_)
              obtain ⟨b31, rfl⟩ := q31
              refine S.if_ne (pc' := 37) (tgt := 39) dX12_read_34 (by decide) rfl (by unfold fp_rng; omega) (fun h34 => ?_) (fun h34 => ?_)
              · refine S.iconst (pc' := 40) dX12_read_39 rfl ?_
                refine S.istore (pc' := 42) (LL' := [_, _, _, _, _, _, _, _, _, _]) dX12_read_40 rfl (by decide) rfl rfl ?_
                refine S.iconst (pc' := 43) dX12_read_42 rfl ?_
                refine S.istore (pc' := 45) (LL' := [_, _, _, _, _, _, _, _, _, _]) dX12_read_43 rfl (by decide) rfl rfl ?_
                refine S.iconst (pc' := 46) dX12_read_45 rfl ?_
                refine S.istore (pc' := 48) (LL' := [_, _, _, _, _, _, _, _, _, _]) dX12_read_46 rfl (by decide) rfl rfl ?_
                refine S.iconst (pc' := 49) dX12_read_48 rfl ?_
                refine S.istore (pc' := 51) (LL' := [_, _, _, _, _, _, _, _, _, _]) dX12_read_49 rfl (by decide) rfl rfl ?_
                exact hst
              · exfalso; omega
  · rw [if_pos hin]
    refine S.iload_n (pc' := 1) dX12_read_0 rfl rfl rfl ?_
    refine S.i2l (pc' := 2) dX12_read_1 rfl (by unfold fp_rng; omega) ?_
    refine S.lconst (pc' := 3) (w := 0) dX12_read_2 rfl rfl ?_
    refine S.ldc2 (pc' := 6) (v := 3) dX12_read_3 rfl lX12_196 (by decide) ?_
    refine S.callSi (pc' := 9) dX12_read_6 rfl cX12_94 (bk_X12_in) rfl (by decide) rfl (Nat.le_of_ble_eq_true rfl) (fun z6 M6 q6 => ?_)
    obtain ⟨b6, rfl⟩ := q6
    refine S.if_eq (pc' := 12) (tgt := 37) dX12_read_9 (by decide) rfl (by unfold fp_rng; omega) (fun h9 => ?_) (fun h9 => ?_)
    · refine S.iconst (pc' := 38) dX12_read_37 rfl ?_
      refine S.iret dX12_read_38 rfl ?_
      exact ⟨rfl, hcs, frD.refl _⟩
    · refine S.iload_n (pc' := 13) dX12_read_12 rfl rfl rfl ?_
      refine S.i2l (pc' := 14) dX12_read_13 rfl (by unfold fp_rng; omega) ?_
      refine S.lconst (pc' := 15) (w := 0) dX12_read_14 rfl rfl ?_
      refine S.ldc2 (pc' := 18) (v := 2) dX12_read_15 rfl lX12_271 (by decide) ?_
      refine S.callSi (pc' := 21) dX12_read_18 rfl cX12_94 (bk_X12_in) rfl (by decide) rfl (Nat.le_of_ble_eq_true rfl) (fun z18 M18 q18 => ?_)
      obtain ⟨b18, rfl⟩ := q18
      refine S.if_eq (pc' := 24) (tgt := 37) dX12_read_21 (by decide) rfl (by unfold fp_rng; omega) (fun h21 => ?_) (fun h21 => ?_)
      · refine S.iconst (pc' := 38) dX12_read_37 rfl ?_
        refine S.iret dX12_read_38 rfl ?_
        exact ⟨rfl, hcs, frD.refl _⟩
      · refine S.iload (pc' := 26) dX12_read_24 rfl rfl ?_
        refine S.i2l (pc' := 27) dX12_read_26 rfl (by unfold fp_rng; omega) ?_
        refine S.lconst (pc' := 28) (w := 0) dX12_read_27 rfl rfl ?_
        refine S.ldc2 (pc' := 31) (v := 10) dX12_read_28 rfl lX12_212 (by decide) ?_
        refine S.callSi (pc' := 34) dX12_read_31 rfl cX12_94 (bk_X12_in) rfl (by decide) rfl (Nat.le_of_ble_eq_true rfl) (fun z31 M31 q31 => ?_)
        obtain ⟨b31, rfl⟩ := q31
        refine S.if_ne (pc' := 37) (tgt := 39) dX12_read_34 (by decide) rfl (by unfold fp_rng; omega) (fun h34 => ?_) (fun h34 => ?_)
        · exfalso; omega
        · refine S.iconst (pc' := 38) dX12_read_37 rfl ?_
          refine S.iret dX12_read_38 rfl ?_
          exact ⟨rfl, hcs, frD.refl _⟩
end REA
end
