/-! RINGS: the reference; ring, with -/
section RN6
variable {l : Launch} {G : fp_WG} {M N : fp_Mem} {tp : List Int} {fl : Int} {g : aGd} {pg : aPg} {vs : List aVt} {nt : List Int} {im : aIm} {sh : aSh} {tn : Int}
/-- only the rows of the rings differ -/
def frR (M N : fp_Mem) : Prop := ∀ c, (c < 196 ∨ 198 < c) → N c = M c
theorem frR.md (h : frR M N) (hd : mdIs M g) : mdIs N g := by
  unfold mdIs md_ok at *
  rw [h 177 (by omega), h 179 (by omega), h 180 (by omega), h 181 (by omega)]
  exact hd
theorem fp_find_step {f : Int → Int} {t j n : Int} (h0 : 0 ≤ j) (h1 : j < n) : fp_find f t (n - j).toNat j = if f j = t then j else fp_find f t (n - (j + 1)).toNat (j + 1) := by
  rw [show (n - j).toNat = (n - (j + 1)).toNat + 1 by omega]
  rfl
theorem mlay_j {i : Int} {s9 : Int} {Q : fp_Q} {o4 : Option Value} (hi : 0 ≤ i ∧ i < 4) (hg : gOk g) (hc : mpIs M 0 g pg) (hP : pgOk g pg)
    (K : ∀ N : fp_Mem, (∀ c, c ≠ 196 → N c = M c) → N 196 i.toNat = aLeast g pg i → (∀ y : Nat, y ≠ i.toNat → N 196 y = M 196 y) → ∀ o3 : Option Value, fp_S l G 2 kX12_layRings 76 [some (rV G 177), some (iV s9), some (iV i), o3, o4] [] N Q) : ∀ (n : Nat) (j : Int) (N : fp_Mem), (j + 1).toNat = n → -1 ≤ j → j < g.1 → (∀ c, c ≠ 196 → N c = M c) → N 196 i.toNat = fp_find pg.1 i (g.1 - (j + 1)).toNat (j + 1) → (∀ y : Nat, y ≠ i.toNat → N 196 y = M 196 y) →
    fp_S l G 2 kX12_layRings 40 [some (rV G 177), some (iV s9), some (iV i), some (iV j), o4] [] N Q := by
  have hg1 := hg.1
  intro n
  induction n with
  | zero =>
    intro j N hn h0 h1 hN he hy
    have : j = -1 := by omega
    subst this
    refine S.iload_n (pc' := 41) dX12_layRings_40 rfl rfl rfl ?_
    refine S.if_lt (pc' := 44) (tgt := 76) dX12_layRings_41 (by decide) rfl (by unfold fp_rng; omega) (fun h41 => ?_) (fun h41 => ?_)
    · exact K N hN (by rw [he]; unfold aLeast; rw [show g.1 - (-1 + 1) = g.1 by omega]; rfl) hy _
    · exfalso; omega
  | succ n ih =>
    intro j N hn h0 h1 hN he hy
    have hj0 : 0 ≤ j := by omega
    have hs : N 178 j.toNat = pg.1 j := by
      rw [hN 178 (by decide)]
      have := hc.1 j hj0 h1
      rwa [show (0 + j).toNat = j.toNat by omega] at this
    have hr := hP.1 j hj0 h1
    have hg2 := hg.2.1
    have hst := fp_find_step (f := pg.1) (t := i) hj0 h1
    refine S.iload_n (pc' := 41) dX12_layRings_40 rfl rfl rfl ?_
    refine S.if_lt (pc' := 44) (tgt := 76) dX12_layRings_41 (by decide) rfl (by unfold fp_rng; omega) (fun h41 => ?_) (fun h41 => ?_)
    · exfalso; omega
    · refine S.aload_n (pc' := 45) dX12_layRings_44 rfl rfl rfl ?_
      refine S.getR (pc' := 48) dX12_layRings_45 rfl fX12_69 L_177 rf_177_37 ?_
      refine S.iload_n (pc' := 49) dX12_layRings_48 rfl rfl rfl ?_
      refine S.aload_n (pc' := 50) dX12_layRings_49 rfl rfl rfl ?_
      refine S.getR (pc' := 53) dX12_layRings_50 rfl fX12_7 L_177 rf_177_0 ?_
      refine S.iload_n (pc' := 54) dX12_layRings_53 rfl rfl rfl ?_
      refine S.iald (pc' := 55) dX12_layRings_54 rfl L_178 (by omega) (by omega) ?_
      refine S.iload_n (pc' := 56) dX12_layRings_55 rfl rfl rfl ?_
      refine S.icmp_ne (pc' := 59) (tgt := 63) dX12_layRings_56 (by decide) rfl (by rw [hs]; unfold fp_rng; omega) (by unfold fp_rng; omega) (fun h56 => ?_) (fun h56 => ?_)
      · refine S.aload_n (pc' := 64) dX12_layRings_63 rfl rfl rfl ?_
        refine S.getR (pc' := 67) dX12_layRings_64 rfl fX12_69 L_177 rf_177_37 ?_
        refine S.iload_n (pc' := 68) dX12_layRings_67 rfl rfl rfl ?_
        refine S.iald (pc' := 69) dX12_layRings_68 rfl L_196 (by omega) (by omega) ?_
        refine S.iast (pc' := 70) dX12_layRings_69 rfl L_196 (by omega) (by omega) ?_
        refine S.iinc (pc' := 73) (LL' := [_, _, _, _, _]) dX12_layRings_70 rfl (by decide) rfl rfl rfl ?_
        refine S.goto (pc' := 40) dX12_layRings_73 (by decide) ?_
        refine ih (j + -1) _ (by omega) (by omega) (by omega) (fun c hc => by rw [fp_up_ne hc]; exact hN c hc) ?_ (fun y hy2 => by rw [fp_up_at, fp_upf_ne hy2]; exact hy y hy2)
        rw [fp_up_at, fp_upf_at, show j + -1 + 1 = j by omega, hst]
        rw [hs] at h56
        first | rw [if_pos h56] | (rw [if_neg h56]; exact he)
      · refine S.iload_n (pc' := 60) dX12_layRings_59 rfl rfl rfl ?_
        refine S.goto (pc' := 69) dX12_layRings_60 (by decide) ?_
        refine S.iast (pc' := 70) dX12_layRings_69 rfl L_196 (by omega) (by omega) ?_
        refine S.iinc (pc' := 73) (LL' := [_, _, _, _, _]) dX12_layRings_70 rfl (by decide) rfl rfl rfl ?_
        refine S.goto (pc' := 40) dX12_layRings_73 (by decide) ?_
        refine ih (j + -1) _ (by omega) (by omega) (by omega) (fun c hc => by rw [fp_up_ne hc]; exact hN c hc) ?_ (fun y hy2 => by rw [fp_up_at, fp_upf_ne hy2]; exact hy y hy2)
        rw [fp_up_at, fp_upf_at, show j + -1 + 1 = j by omega, hst]
        rw [hs] at h56
        first | rw [if_pos h56] | (rw [if_neg h56]; exact he)
theorem mlay_t {i : Int} {O : fp_Mem} {Q : fp_Q} {o3 o4 : Option Value} (hi : 0 ≤ i ∧ i < 4) (hlr : fp_rng (aLeast g pg i)) (hts : aTh g pg (i + 1).toNat = if aLeast g pg i = -4 then aTh g pg i.toNat else fp_or (aTh g pg i.toNat) (2 ^ i.toNat)) (k2 : O 196 i.toNat = aLeast g pg i)
    (K : ∀ o : Option Value, fp_S l G 2 kX12_layRings 4 [some (rV G 177), some (iV (aTh g pg (i + 1).toNat)), some (iV (i + 1)), o, o4] [] O Q) : fp_S l G 2 kX12_layRings 76 [some (rV G 177), some (iV (aTh g pg i.toNat)), some (iV i), o3, o4] [] O Q := by
  have hnn := aTh_nn g pg i.toNat
  by_cases h4 : aLeast g pg i = -4
  · rw [if_pos h4] at hts
    refine S.iload_n (pc' := 77) dX12_layRings_76 rfl rfl rfl ?_
    refine S.aload_n (pc' := 78) dX12_layRings_77 rfl rfl rfl ?_
    refine S.getR (pc' := 81) dX12_layRings_78 rfl fX12_69 L_177 rf_177_37 ?_
    refine S.iload_n (pc' := 82) dX12_layRings_81 rfl rfl rfl ?_
    refine S.iald (pc' := 83) dX12_layRings_82 rfl L_196 (by omega) (by omega) ?_
    refine S.bipush (pc' := 85) dX12_layRings_83 rfl (by decide) ?_
    refine S.icmp_ne (pc' := 88) (tgt := 92) dX12_layRings_85 (by decide) rfl (by rw [k2]; exact hlr) (by unfold fp_rng; omega) (fun h85 => ?_) (fun h85 => ?_)
    · exfalso; omega
    · refine S.iconst (pc' := 89) dX12_layRings_88 rfl ?_
      refine S.goto (pc' := 95) dX12_layRings_89 (by decide) ?_
      refine S.ior (pc' := 96) dX12_layRings_95 rfl (show _ = Int32.ofInt (aTh g pg (i + 1).toNat) by rw [hts]; have h := fp_ior hnn (show (0 : Int) ≤ 0 by omega); rw [fp_or_0 hnn] at h; exact h) ?_
      refine S.istore_n (pc' := 97) (LL' := [_, _, _, _, _]) dX12_layRings_96 rfl (by decide) rfl rfl rfl ?_
      refine S.iinc (pc' := 100) (LL' := [_, _, _, _, _]) dX12_layRings_97 rfl (by decide) rfl rfl rfl ?_
      refine S.goto (pc' := 4) dX12_layRings_100 (by decide) ?_
      exact K _
  · rw [if_neg h4] at hts
    refine S.iload_n (pc' := 77) dX12_layRings_76 rfl rfl rfl ?_
    refine S.aload_n (pc' := 78) dX12_layRings_77 rfl rfl rfl ?_
    refine S.getR (pc' := 81) dX12_layRings_78 rfl fX12_69 L_177 rf_177_37 ?_
    refine S.iload_n (pc' := 82) dX12_layRings_81 rfl rfl rfl ?_
    refine S.iald (pc' := 83) dX12_layRings_82 rfl L_196 (by omega) (by omega) ?_
    refine S.bipush (pc' := 85) dX12_layRings_83 rfl (by decide) ?_
    refine S.icmp_ne (pc' := 88) (tgt := 92) dX12_layRings_85 (by decide) rfl (by rw [k2]; exact hlr) (by unfold fp_rng; omega) (fun h85 => ?_) (fun h85 => ?_)
    · refine S.iconst (pc' := 93) dX12_layRings_92 rfl ?_
      refine S.iload_n (pc' := 94) dX12_layRings_93 rfl rfl rfl ?_
      refine S.ishl (pc' := 95) dX12_layRings_94 rfl (fp_shl1 (by omega) (by omega)) ?_
      refine S.ior (pc' := 96) dX12_layRings_95 rfl (show _ = Int32.ofInt (aTh g pg (i + 1).toNat) by rw [hts]; exact fp_ior hnn (Int.le_of_lt (Int.pow_pos (by decide)))) ?_
      refine S.istore_n (pc' := 97) (LL' := [_, _, _, _, _]) dX12_layRings_96 rfl (by decide) rfl rfl rfl ?_
      refine S.iinc (pc' := 100) (LL' := [_, _, _, _, _]) dX12_layRings_97 rfl (by decide) rfl rfl rfl ?_
      refine S.goto (pc' := 4) dX12_layRings_100 (by decide) ?_
      exact K _
    · exfalso; omega
theorem mlay_i {Q : fp_Q} {o4 : Option Value} (hg : gOk g) (hd : mdIs M g) (hc : mpIs M 0 g pg) (hP : pgOk g pg)
    (K : ∀ N : fp_Mem, frR M N → (∀ y : Int, 0 ≤ y → y < 4 → N 196 y.toNat = aLeast g pg y ∧ N 197 y.toNat = -4 ∧ N 198 y.toNat = -4) → ∀ o3 : Option Value, fp_S l G 2 kX12_layRings 103 [some (rV G 177), some (iV (aTh g pg 4)), some (iV 4), o3, o4] [] N Q) : ∀ (n : Nat) (i : Int) (N : fp_Mem) (o3 : Option Value), (4 - i).toNat = n → 0 ≤ i → i ≤ 4 → frR M N → (∀ y : Int, 0 ≤ y → y < i → N 196 y.toNat = aLeast g pg y ∧ N 197 y.toNat = -4 ∧ N 198 y.toNat = -4) →
    fp_S l G 2 kX12_layRings 4 [some (rV G 177), some (iV (aTh g pg i.toNat)), some (iV i), o3, o4] [] N Q := by
  intro n
  induction n with
  | zero =>
    intro i N o3 hn h0 h1 hN hy
    have : i = 4 := by omega
    subst this
    refine S.iload_n (pc' := 5) dX12_layRings_4 rfl rfl rfl ?_
    refine S.iconst (pc' := 6) dX12_layRings_5 rfl ?_
    refine S.icmp_ge (pc' := 9) (tgt := 103) dX12_layRings_6 (by decide) rfl (by unfold fp_rng; omega) (by unfold fp_rng; omega) (fun h6 => ?_) (fun h6 => ?_)
    · exact K N hN hy _
    · exfalso; omega
  | succ n ih =>
    intro i N o3 hn h0 h1 hN hy
    have hg1 := hg.1
    have hts := aTh_succ (g := g) (pg := pg) h0
    have hlr : fp_rng (aLeast g pg i) := by
      rcases fp_find_in4 (f := pg.1) (t := i) g.1.toNat 0 with e | e
      · unfold aLeast; rw [e]; unfold fp_rng; omega
      · unfold aLeast fp_rng; omega
    refine S.iload_n (pc' := 5) dX12_layRings_4 rfl rfl rfl ?_
    refine S.iconst (pc' := 6) dX12_layRings_5 rfl ?_
    refine S.icmp_ge (pc' := 9) (tgt := 103) dX12_layRings_6 (by decide) rfl (by unfold fp_rng; omega) (by unfold fp_rng; omega) (fun h6 => ?_) (fun h6 => ?_)
    · exfalso; omega
    · refine S.aload_n (pc' := 10) dX12_layRings_9 rfl rfl rfl ?_
      refine S.getR (pc' := 13) dX12_layRings_10 rfl fX12_69 L_177 rf_177_37 ?_
      refine S.iload_n (pc' := 14) dX12_layRings_13 rfl rfl rfl ?_
      refine S.bipush (pc' := 16) dX12_layRings_14 rfl (by decide) ?_
      refine S.iast (pc' := 17) dX12_layRings_16 rfl L_196 (by omega) (by omega) ?_
      refine S.aload_n (pc' := 18) dX12_layRings_17 rfl rfl rfl ?_
      refine S.getR (pc' := 21) dX12_layRings_18 rfl fX12_72 L_177 rf_177_38 ?_
      refine S.iload_n (pc' := 22) dX12_layRings_21 rfl rfl rfl ?_
      refine S.bipush (pc' := 24) dX12_layRings_22 rfl (by decide) ?_
      refine S.iast (pc' := 25) dX12_layRings_24 rfl L_197 (by omega) (by omega) ?_
      refine S.aload_n (pc' := 26) dX12_layRings_25 rfl rfl rfl ?_
      refine S.getR (pc' := 29) dX12_layRings_26 rfl fX12_75 L_177 rf_177_39 ?_
      refine S.iload_n (pc' := 30) dX12_layRings_29 rfl rfl rfl ?_
      refine S.bipush (pc' := 32) dX12_layRings_30 rfl (by decide) ?_
      refine S.iast (pc' := 33) dX12_layRings_32 rfl L_198 (by omega) (by omega) ?_
      refine S.aload_n (pc' := 34) dX12_layRings_33 rfl rfl rfl ?_
      refine S.getI (pc' := 37) dX12_layRings_34 rfl fX12_181 L_177 ?_
      refine S.iconst (pc' := 38) dX12_layRings_37 rfl ?_
      refine S.isub (pc' := 39) dX12_layRings_38 rfl ?_
      refine S.istore_n (pc' := 40) (LL' := [_, _, _, _, _]) dX12_layRings_39 rfl (by decide) rfl rfl rfl ?_
      refine mlay_j (M := fp_up (fp_up (fp_up N 196 i.toNat (-4)) 197 i.toNat (-4)) 198 i.toNat (-4)) (s9 := aTh g pg i.toNat) (by omega) hg ?_ hP (fun O k1 k2 k3 o9 => ?_) _ _ _ rfl ?_ ?_ (fun _ _ => rfl) ?_ (fun _ _ => rfl)
      · unfold mpIs at *; rw [fp_up_ne (by decide), fp_up_ne (by decide), fp_up_ne (by decide), hN 178 (by omega)]; exact hc
      · refine mlay_t (by omega) hlr hts k2 (fun o => ih (i + 1) O o (by omega) (by omega) (by omega) (fun c hc => by rw [k1 c (by omega), fp_up_ne (by omega), fp_up_ne (by omega), fp_up_ne (by omega)]; exact hN c hc) (fun y y0 y1 => ?_))
        rw [k1 197 (by decide), k1 198 (by decide), fp_up_ne (show (197 : Nat) ≠ 198 by decide), fp_up_at, fp_up_at, fp_up_ne (show (197 : Nat) ≠ 196 by decide), fp_up_ne (show (198 : Nat) ≠ 197 by decide), fp_up_ne (show (198 : Nat) ≠ 196 by decide)]
        by_cases e : y = i
        · subst e; exact ⟨k2, by rw [fp_upf_at], by rw [fp_upf_at]⟩
        · have e' : y.toNat ≠ i.toNat := by omega
          obtain ⟨q1, q2, q3⟩ := hy y y0 (by omega)
          refine ⟨?_, by rw [fp_upf_ne e']; exact q2, by rw [fp_upf_ne e']; exact q3⟩
          rw [k3 _ e', fp_up_ne (by decide), fp_up_ne (by decide), fp_up_at, fp_upf_ne e']; exact q1
      · show -1 ≤ N 177 4 - 1
        rw [hN 177 (by omega), hd.1]; omega
      · show N 177 4 - 1 < g.1
        rw [hN 177 (by omega), hd.1]; omega
      · rw [fp_up_ne (by decide), fp_up_ne (by decide), fp_up_at, fp_upf_at]
        show _ = fp_find pg.1 i (g.1 - (N 177 4 - 1 + 1)).toNat _
        rw [hN 177 (by omega), hd.1, show g.1 - (g.1 - 1 + 1) = 0 by omega]; rfl
end RN6
