-- joined by tools/merge.py: 66.ring, 67.ring, 68.skel, 69.multi, 70.new, 71.ini, 72.ctor, 73.start, 74.law
section
/-! RINGS: the reference; ring, with -/
section RN6
variable {l : Launch} {G : fp_WG} {M N : fp_Mem} {tp : List Int} {fl : Int} {g : aGd} {pg : aPg} {vs : List aVt} {nt : List Int} {im : aIm} {sh : aSh} {tn : Int}
/-- only the rows of the rings differ -/
def frR (M N : fp_Mem) : Prop := ∀ c, (c < 196 ∨ 198 < c) → N c = M c
theorem frR.md (h : frR M N) (hd : mdIs M g) : mdIs N g := by
  unfold mdIs md_ok at *
  rw [h 177 (by omega), h 179 (by omega), h 180 (by omega), h 181 (by omega)]
  exact hd
theorem fp_find_step {f : Int → Int} {t j n : Int} (h0 : 0 ≤ j) (h1 : j < n) : fp_find f t (n - j).toNat j = if f j = t then j else fp_find f t (n - (j + 1)).toNat (j + 1) := by
  rw [show (n - j).toNat = (n - (j + 1)).toNat + 1 by omega]
  rfl
theorem mlay_j {i : Int} {s9 : Int} {Q : fp_Q} {o4 : Option Value} (hi : 0 ≤ i ∧ i < 4) (hg : gOk g) (hc : mpIs M 0 g pg) (hP : pgOk g pg)
    (K : ∀ N : fp_Mem, (∀ c, c ≠ 196 → N c = M c) → N 196 i.toNat = aLeast g pg i → (∀ y : Nat, y ≠ i.toNat → N 196 y = M 196 y) → ∀ o3 : Option Value, fp_S l G 2 kX12_layRings 76 [some (rV G 177), some (iV s9), some (iV i), o3, o4] [] N Q) : ∀ (n : Nat) (j : Int) (N : fp_Mem), (j + 1).toNat = n → -1 ≤ j → j < g.1 → (∀ c, c ≠ 196 → N c = M c) → N 196 i.toNat = fp_find pg.1 i (g.1 - (j + 1)).toNat (j + 1) → (∀ y : Nat, y ≠ i.toNat → N 196 y = M 196 y) →
    fp_S l G 2 kX12_layRings 40 [some (rV G 177), some (iV s9), some (iV i), some (iV j), o4] [] N Q := by
  have hg1 := hg.1
  intro n
  induction n with
  | zero =>
    intro j N hn h0 h1 hN he hy
    have : j = -1 := by omega
    subst this
    refine S.iload_n (pc' := 41) dX12_layRings_40 rfl rfl rfl ?_
    refine S.if_lt (pc' := 44) (tgt := 76) dX12_layRings_41 (by decide) rfl (by unfold fp_rng; omega) (fun h41 => ?_) (fun h41 => ?_)
    · exact K N hN (by rw [he]; unfold aLeast; rw [show g.1 - (-1 + 1) = g.1 by omega]; rfl) hy _
    · exfalso; omega
  | succ n ih =>
    intro j N hn h0 h1 hN he hy
    have hj0 : 0 ≤ j := by omega
    have hs : N 178 j.toNat = pg.1 j := by
      rw [hN 178 (by decide)]
      have := hc.1 j hj0 h1
      rwa [show (0 + j).toNat = j.toNat by omega] at this
    have hr := hP.1 j hj0 h1
    have hg2 := hg.2.1
    have hst := fp_find_step (f := pg.1) (t := i) hj0 h1
    refine S.iload_n (pc' := 41) dX12_layRings_40 rfl rfl rfl ?_
    refine S.if_lt (pc' := 44) (tgt := 76) dX12_layRings_41 (by decide) rfl (by unfold fp_rng; omega) (fun h41 => ?_) (fun h41 => ?_)
    · exfalso; omega
    · refine S.aload_n (pc' := 45) dX12_layRings_44 rfl rfl rfl ?_
      refine S.getR (pc' := 48) dX12_layRings_45 rfl fX12_69 L_177 rf_177_37 ?_
      refine S.iload_n (pc' := 49) dX12_layRings_48 rfl rfl rfl ?_
      refine S.aload_n (pc' := 50) dX12_layRings_49 rfl rfl rfl ?_
      refine S.getR (pc' := 53) dX12_layRings_50 rfl fX12_7 L_177 rf_177_0 ?_
      refine S.iload_n (pc' := 54) dX12_layRings_53 rfl rfl rfl ?_
      refine S.iald (pc' := 55) dX12_layRings_54 rfl L_178 (by omega) (by omega) ?_
      refine S.iload_n (pc' := 56) dX12_layRings_55 rfl rfl rfl ?_
      refine S.icmp_ne (pc' := 59) (tgt := 63) dX12_layRings_56 (by decide) rfl (by rw [hs]; unfold fp_rng; omega) (by unfold fp_rng; omega) (fun h56 => ?_) (fun h56 => ?_)
      · refine S.aload_n (pc' := 64) dX12_layRings_63 rfl rfl rfl ?_
        refine S.getR (pc' := 67) dX12_layRings_64 rfl fX12_69 L_177 rf_177_37 ?_
        refine S.iload_n (pc' := 68) dX12_layRings_67 rfl rfl rfl ?_
        refine S.iald (pc' := 69) dX12_layRings_68 rfl L_196 (by omega) (by omega) ?_
        refine S.iast (pc' := 70) dX12_layRings_69 rfl L_196 (by omega) (by omega) ?_
        refine S.iinc (pc' := 73) (LL' := [_, _, _, _, _]) dX12_layRings_70 rfl (by decide) rfl rfl rfl ?_
        refine S.goto (pc' := 40) dX12_layRings_73 (by decide) ?_
        refine ih (j + -1) _ (by omega) (by omega) (by omega) (fun c hc => by rw [fp_up_ne hc]; exact hN c hc) ?_ (fun y hy2 => by rw [fp_up_at, fp_upf_ne hy2]; exact hy y hy2)
        rw [fp_up_at, fp_upf_at, show j + -1 + 1 = j by omega, hst]
        rw [hs] at h56
        first | rw [if_pos h56] | (rw [if_neg h56]; exact he)
      · refine S.iload_n (pc' := 60) dX12_layRings_59 rfl rfl rfl ?_
        refine S.goto (pc' := 69) dX12_layRings_60 (by decide) ?_
        refine S.iast (pc' := 70) dX12_layRings_69 rfl L_196 (by omega) (by omega) ?_
        refine S.iinc (pc' := 73) (LL' := [_, _, _, _, _]) dX12_layRings_70 rfl (by decide) rfl rfl rfl ?_
        refine S.goto (pc' := 40) dX12_layRings_73 (by decide) ?_
        refine ih (j + -1) _ (by omega) (by omega) (by omega) (fun c hc => by rw [fp_up_ne hc]; exact hN c hc) ?_ (fun y hy2 => by rw [fp_up_at, fp_upf_ne hy2]; exact hy y hy2)
        rw [fp_up_at, fp_upf_at, show j + -1 + 1 = j by omega, hst]
        rw [hs] at h56
        first | rw [if_pos h56] | (rw [if_neg h56]; exact he)
theorem mlay_t {i : Int} {O : fp_Mem} {Q : fp_Q} {o3 o4 : Option Value} (hi : 0 ≤ i ∧ i < 4) (hlr : fp_rng (aLeast g pg i)) (hts : aTh g pg (i + 1).toNat = if aLeast g pg i = -4 then aTh g pg i.toNat else fp_or (aTh g pg i.toNat) (2 ^ i.toNat)) (k2 : O 196 i.toNat = aLeast g pg i)
    (K : ∀ o : Option Value, fp_S l G 2 kX12_layRings 4 [some (rV G 177), some (iV (aTh g pg (i + 1).toNat)), some (iV (i + 1)), o, o4] [] O Q) : fp_S l G 2 kX12_layRings 76 [some (rV G 177), some (iV (aTh g pg i.toNat)), some (iV i), o3, o4] [] O Q := by
  have hnn := aTh_nn g pg i.toNat
  by_cases h4 : aLeast g pg i = -4
  · rw [if_pos h4] at hts
    refine S.iload_n (pc' := 77) dX12_layRings_76 rfl rfl rfl ?_
    refine S.aload_n (pc' := 78) dX12_layRings_77 rfl rfl rfl ?_
    refine S.getR (pc' := 81) dX12_layRings_78 rfl fX12_69 L_177 rf_177_37 ?_
    refine S.iload_n (pc' := 82) dX12_layRings_81 rfl rfl rfl ?_
    refine S.iald (pc' := 83) dX12_layRings_82 rfl L_196 (by omega) (by omega) ?_
    refine S.bipush (pc' := 85) dX12_layRings_83 rfl (by decide) ?_
    refine S.icmp_ne (pc' := 88) (tgt := 92) dX12_layRings_85 (by decide) rfl (by rw [k2]; exact hlr) (by unfold fp_rng; omega) (fun h85 => ?_) (fun h85 => ?_)
    · exfalso; omega
    · refine S.iconst (pc' := 89) dX12_layRings_88 rfl ?_
      refine S.goto (pc' := 95) dX12_layRings_89 (by decide) ?_
      refine S.ior (pc' := 96) dX12_layRings_95 rfl (show _ = Int32.ofInt (aTh g pg (i + 1).toNat) by rw [hts]; have h := fp_ior hnn (show (0 : Int) ≤ 0 by omega); rw [fp_or_0 hnn] at h; exact h) ?_
      refine S.istore_n (pc' := 97) (LL' := [_, _, _, _, _]) dX12_layRings_96 rfl (by decide) rfl rfl rfl ?_
      refine S.iinc (pc' := 100) (LL' := [_, _, _, _, _]) dX12_layRings_97 rfl (by decide) rfl rfl rfl ?_
      refine S.goto (pc' := 4) dX12_layRings_100 (by decide) ?_
      exact K _
  · rw [if_neg h4] at hts
    refine S.iload_n (pc' := 77) dX12_layRings_76 rfl rfl rfl ?_
    refine S.aload_n (pc' := 78) dX12_layRings_77 rfl rfl rfl ?_
    refine S.getR (pc' := 81) dX12_layRings_78 rfl fX12_69 L_177 rf_177_37 ?_
    refine S.iload_n (pc' := 82) dX12_layRings_81 rfl rfl rfl ?_
    refine S.iald (pc' := 83) dX12_layRings_82 rfl L_196 (by omega) (by omega) ?_
    refine S.bipush (pc' := 85) dX12_layRings_83 rfl (by decide) ?_
    refine S.icmp_ne (pc' := 88) (tgt := 92) dX12_layRings_85 (by decide) rfl (by rw [k2]; exact hlr) (by unfold fp_rng; omega) (fun h85 => ?_) (fun h85 => ?_)
    · refine S.iconst (pc' := 93) dX12_layRings_92 rfl ?_
      refine S.iload_n (pc' := 94) dX12_layRings_93 rfl rfl rfl ?_
      refine S.ishl (pc' := 95) dX12_layRings_94 rfl (fp_shl1 (by omega) (by omega)) ?_
      refine S.ior (pc' := 96) dX12_layRings_95 rfl (show _ = Int32.ofInt (aTh g pg (i + 1).toNat) by rw [hts]; exact fp_ior hnn (Int.le_of_lt (Int.pow_pos (by decide)))) ?_
      refine S.istore_n (pc' := 97) (LL' := [_, _, _, _, _]) dX12_layRings_96 rfl (by decide) rfl rfl rfl ?_
      refine S.iinc (pc' := 100) (LL' := [_, _, _, _, _]) dX12_layRings_97 rfl (by decide) rfl rfl rfl ?_
      refine S.goto (pc' := 4) dX12_layRings_100 (by decide) ?_
      exact K _
    · exfalso; omega
theorem mlay_i {Q : fp_Q} {o4 : Option Value} (hg : gOk g) (hd : mdIs M g) (hc : mpIs M 0 g pg) (hP : pgOk g pg)
    (K : ∀ N : fp_Mem, frR M N → (∀ y : Int, 0 ≤ y → y < 4 → N 196 y.toNat = aLeast g pg y ∧ N 197 y.toNat = -4 ∧ N 198 y.toNat = -4) → ∀ o3 : Option Value, fp_S l G 2 kX12_layRings 103 [some (rV G 177), some (iV (aTh g pg 4)), some (iV 4), o3, o4] [] N Q) : ∀ (n : Nat) (i : Int) (N : fp_Mem) (o3 : Option Value), (4 - i).toNat = n → 0 ≤ i → i ≤ 4 → frR M N → (∀ y : Int, 0 ≤ y → y < i → N 196 y.toNat = aLeast g pg y ∧ N 197 y.toNat = -4 ∧ N 198 y.toNat = -4) →
    fp_S l G 2 kX12_layRings 4 [some (rV G 177), some (iV (aTh g pg i.toNat)), some (iV i), o3, o4] [] N Q := by
  intro n
  induction n with
  | zero =>
    intro i N o3 hn h0 h1 hN hy
    have : i = 4 := by omega
    subst this
    refine S.iload_n (pc' := 5) dX12_layRings_4 rfl rfl rfl ?_
    refine S.iconst (pc' := 6) dX12_layRings_5 rfl ?_
    refine S.icmp_ge (pc' := 9) (tgt := 103) dX12_layRings_6 (by decide) rfl (by unfold fp_rng; omega) (by unfold fp_rng; omega) (fun h6 => ?_) (fun h6 => ?_)
    · exact K N hN hy _
    · exfalso; omega
  | succ n ih =>
    intro i N o3 hn h0 h1 hN hy
    have hg1 := hg.1
    have hts := aTh_succ (g := g) (pg := pg) h0
    have hlr : fp_rng (aLeast g pg i) := by
      rcases fp_find_in4 (f := pg.1) (t := i) g.1.toNat 0 with e | e
      · unfold aLeast; rw [e]; unfold fp_rng; omega
      · unfold aLeast fp_rng; omega
    refine S.iload_n (pc' := 5) dX12_layRings_4 rfl rfl rfl ?_
    refine S.iconst (pc' := 6) dX12_layRings_5 rfl ?_
    refine S.icmp_ge (pc' := 9) (tgt := 103) dX12_layRings_6 (by decide) rfl (by unfold fp_rng; omega) (by unfold fp_rng; omega) (fun h6 => ?_) (fun h6 => ?_)
    · exfalso; omega
    · refine S.aload_n (pc' := 10) dX12_layRings_9 rfl rfl rfl ?_
      refine S.getR (pc' := 13) dX12_layRings_10 rfl fX12_69 L_177 rf_177_37 ?_
      refine S.iload_n (pc' := 14) dX12_layRings_13 rfl rfl rfl ?_
      refine S.bipush (pc' := 16) dX12_layRings_14 rfl (by decide) ?_
      refine S.iast (pc' := 17) dX12_layRings_16 rfl L_196 (by omega) (by omega) ?_
      refine S.aload_n (pc' := 18) dX12_layRings_17 rfl rfl rfl ?_
      refine S.getR (pc' := 21) dX12_layRings_18 rfl fX12_72 L_177 rf_177_38 ?_
      refine S.iload_n (pc' := 22) dX12_layRings_21 rfl rfl rfl ?_
      refine S.bipush (pc' := 24) dX12_layRings_22 rfl (by decide) ?_
      refine S.iast (pc' := 25) dX12_layRings_24 rfl L_197 (by omega) (by omega) ?_
      refine S.aload_n (pc' := 26) dX12_layRings_25 rfl rfl rfl ?_
      refine S.getR (pc' := 29) dX12_layRings_26 rfl fX12_75 L_177 rf_177_39 ?_
      refine S.iload_n (pc' := 30) dX12_layRings_29 rfl rfl rfl ?_
      refine S.bipush (pc' := 32) dX12_layRings_30 rfl (by decide) ?_
      refine S.iast (pc' := 33) dX12_layRings_32 rfl L_198 (by omega) (by omega) ?_
      refine S.aload_n (pc' := 34) dX12_layRings_33 rfl rfl rfl ?_
      refine S.getI (pc' := 37) dX12_layRings_34 rfl fX12_181 L_177 ?_
      refine S.iconst (pc' := 38) dX12_layRings_37 rfl ?_
      refine S.isub (pc' := 39) dX12_layRings_38 rfl ?_
      refine S.istore_n (pc' := 40) (LL' := [_, _, _, _, _]) dX12_layRings_39 rfl (by decide) rfl rfl rfl ?_
      refine mlay_j (M := fp_up (fp_up (fp_up N 196 i.toNat (-4)) 197 i.toNat (-4)) 198 i.toNat (-4)) (s9 := aTh g pg i.toNat) (by omega) hg ?_ hP (fun O k1 k2 k3 o9 => ?_) _ _ _ rfl ?_ ?_ (fun _ _ => rfl) ?_ (fun _ _ => rfl)
      · unfold mpIs at *; rw [fp_up_ne (by decide), fp_up_ne (by decide), fp_up_ne (by decide), hN 178 (by omega)]; exact hc
      · refine mlay_t (by omega) hlr hts k2 (fun o => ih (i + 1) O o (by omega) (by omega) (by omega) (fun c hc => by rw [k1 c (by omega), fp_up_ne (by omega), fp_up_ne (by omega), fp_up_ne (by omega)]; exact hN c hc) (fun y y0 y1 => ?_))
        rw [k1 197 (by decide), k1 198 (by decide), fp_up_ne (show (197 : Nat) ≠ 198 by decide), fp_up_at, fp_up_at, fp_up_ne (show (197 : Nat) ≠ 196 by decide), fp_up_ne (show (198 : Nat) ≠ 197 by decide), fp_up_ne (show (198 : Nat) ≠ 196 by decide)]
        by_cases e : y = i
        · subst e; exact ⟨k2, by rw [fp_upf_at], by rw [fp_upf_at]⟩
        · have e' : y.toNat ≠ i.toNat := by omega
          obtain ⟨q1, q2, q3⟩ := hy y y0 (by omega)
          refine ⟨?_, by rw [fp_upf_ne e']; exact q2, by rw [fp_upf_ne e']; exact q3⟩
          rw [k3 _ e', fp_up_ne (by decide), fp_up_ne (by decide), fp_up_at, fp_upf_ne e']; exact q1
      · show -1 ≤ N 177 4 - 1
        rw [hN 177 (by omega), hd.1]; omega
      · show N 177 4 - 1 < g.1
        rw [hN 177 (by omega), hd.1]; omega
      · rw [fp_up_ne (by decide), fp_up_ne (by decide), fp_up_at, fp_upf_at]
        show _ = fp_find pg.1 i (g.1 - (N 177 4 - 1 + 1)).toNat _
        rw [hN 177 (by omega), hd.1, show g.1 - (g.1 - 1 + 1) = 0 by omega]; rfl
end RN6
end
section
/-! RINGS: the reference, round by round -/
theorem aRgC_lt {f : Int → Int} {p : Int} (h : ∀ q : Int, 0 ≤ q → q < 4 → 0 ≤ f q ∧ f q < 4) : ∀ (n : Nat) (q m : Int), 0 ≤ q → q < 4 → 0 ≤ m → m < 16 → 0 ≤ aRgC f p n q m ∧ aRgC f p n q m < 16
  | 0, _, _, _, _, _, _ => by simp [aRgC]
  | n + 1, q, m, h0, h1, m0, m1 => by
    have hp2 : (2 : Int) ^ q.toNat < 16 := by
      rcases (show q.toNat = 0 ∨ q.toNat = 1 ∨ q.toNat = 2 ∨ q.toNat = 3 by omega) with e | e | e | e <;> rw [e] <;> decide
    have ho : fp_or m (2 ^ q.toNat) < 16 := fp_or_lt (n := 4) m1 hp2
    unfold aRgC
    split
    · exact ⟨fp_or_nn _ _, ho⟩
    · exact aRgC_lt h n _ _ (h q h0 h1).1 (h q h0 h1).2 (fp_or_nn _ _) ho
section RN7
variable {l : Launch} {G : fp_WG} {M N : fp_Mem} {tp : List Int} {fl : Int} {g : aGd} {pg : aPg} {vs : List aVt} {nt : List Int} {im : aIm} {sh : aSh} {tn : Int}
theorem rk_mring {b : Int → Int} {th p : Int} (hp : 0 ≤ p ∧ p < 4) (hb : bOk g b th) (hne : th ≠ 0) (hg : gOk g) (hd : mdIs M g) (hr : ∀ q : Int, 0 ≤ q → q < 4 → M 196 q.toNat = b q) : fp_Ok l G 1 kX12_ringOf [rV G 177, iV p, iV th] M (qE (aRgC (rF g b th) p 4 p 0) M) := by
  have h := rk_X12_ringOf (l := l) (G := G) hp hb hne (fun q _ _ => aLk_four hb.1 hne) hg hd hr
  rwa [← aRg_eq (f := fun q => aLk g b th q 4) (p := p) 4 p 0 0 rfl] at h
def mI (g : aGd) (b : Int → Int) (th : Int) (u w : Int → Int) (M N : fp_Mem) (p : Int) : Prop := (∀ a, a ≠ 197 → a ≠ 198 → N a = M a) ∧ ∀ y : Int, 0 ≤ y → y < 4 → N 197 y.toNat = (if y < p ∧ rLv g b th y then b (rF g b th y) else u y) ∧ N 198 y.toNat = (if y < p ∧ rLv g b th y then aRgC (rF g b th) y 4 y 0 else w y)
theorem mI_no {b u w : Int → Int} {th p : Int} (h : mI g b th u w M N p) (hn : ¬ rLv g b th p) : mI g b th u w M N (p + 1) := by
  refine ⟨h.1, fun y y0 y1 => ?_⟩
  obtain ⟨e1, e2⟩ := h.2 y y0 y1
  have : (y < p ∧ rLv g b th y) ↔ (y < p + 1 ∧ rLv g b th y) := by
    constructor
    · rintro ⟨q1, q2⟩; exact ⟨by omega, q2⟩
    · rintro ⟨q1, q2⟩
      refine ⟨?_, q2⟩
      by_cases e : y = p
      · subst e; exact absurd q2 hn
      · omega
  rw [e1, e2]
  simp only [this]
  exact ⟨trivial, trivial⟩
theorem mI_yes {b u w : Int → Int} {th p v : Int} (h : mI g b th u w M N p) (hp : 0 ≤ p ∧ p < 4) (hn : rLv g b th p) (hv : v = b (rF g b th p)) : mI g b th u w M (fp_up (fp_up N 198 p.toNat (aRgC (rF g b th) p 4 p 0)) 197 p.toNat v) (p + 1) := by
  subst hv
  refine ⟨fun a a1 a2 => by rw [fp_up_ne a1, fp_up_ne a2]; exact h.1 a a1 a2, fun y y0 y1 => ?_⟩
  obtain ⟨e1, e2⟩ := h.2 y y0 y1
  by_cases e : y = p
  · subst e
    rw [fp_up_at, fp_upf_at, fp_up_ne (by decide), fp_up_at, fp_upf_at, if_pos ⟨by omega, hn⟩, if_pos ⟨by omega, hn⟩]
    exact ⟨rfl, rfl⟩
  · have e' : y.toNat ≠ p.toNat := by omega
    rw [fp_up_at, fp_upf_ne e', fp_up_ne (show (197 : Nat) ≠ 198 by decide), fp_up_ne (show (198 : Nat) ≠ 197 by decide), fp_up_at, fp_upf_ne e', e1, e2]
    have : (y < p ∧ rLv g b th y) ↔ (y < p + 1 ∧ rLv g b th y) := by
      constructor
      · rintro ⟨q1, q2⟩; exact ⟨by omega, q2⟩
      · rintro ⟨q1, q2⟩; exact ⟨by omega, q2⟩
    simp only [this]
    exact ⟨trivial, trivial⟩
theorem mround_p {b u w : Int → Int} {th : Int} {Q : fp_Q} (hb : bOk g b th) (hne : th ≠ 0) (hg : gOk g) (hd : mdIs M g) (hr : ∀ q : Int, 0 ≤ q → q < 4 → M 196 q.toNat = b q)
    (K : ∀ (N : fp_Mem) (o4 : Option Value), mI g b th u w M N 4 → fp_S l G 2 kX12_layRings 179 [some (rV G 177), some (iV th), some (iV (rMk g b th 4)), some (iV 4), o4] [] N Q) : ∀ (n : Nat) (p : Int) (N : fp_Mem) (o4 : Option Value), (4 - p).toNat = n → 0 ≤ p → p ≤ 4 → mI g b th u w M N p →
    fp_S l G 2 kX12_layRings 111 [some (rV G 177), some (iV th), some (iV (rMk g b th p.toNat)), some (iV p), o4] [] N Q := by
  intro n
  induction n with
  | zero =>
    intro p N o4 hn h0 h1 hI
    have : p = 4 := by omega
    subst this
    refine S.iload_n (pc' := 112) dX12_layRings_111 rfl rfl rfl ?_
    refine S.iconst (pc' := 113) dX12_layRings_112 rfl ?_
    refine S.icmp_ge (pc' := 116) (tgt := 179) dX12_layRings_113 (by decide) rfl (by unfold fp_rng; omega) (by unfold fp_rng; omega) (fun h113 => ?_) (fun h113 => ?_)
    · exact K N _ hI
    · exfalso; omega
  | succ n ih =>
    intro p N o4 hn h0 h1 hI
    have hp : 0 ≤ p ∧ p < 4 := by omega
    have hN6 : N 196 = M 196 := hI.1 196 (by decide) (by decide)
    have hrN : ∀ q : Int, 0 ≤ q → q < 4 → N 196 q.toNat = b q := fun q q0 q1 => by rw [hN6]; exact hr q q0 q1
    have hdN : mdIs N g := by
      unfold mdIs md_ok at *
      rw [hI.1 177 (by decide) (by decide), hI.1 179 (by decide) (by decide), hI.1 180 (by decide) (by decide), hI.1 181 (by decide) (by decide)]
      exact hd
    have hf : ∀ q : Int, 0 ≤ q → q < 4 → 0 ≤ rF g b th q ∧ rF g b th q < 4 := fun q _ _ => aLk_four hb.1 hne
    have hRr := aRgC_lt (f := rF g b th) (p := p) hf 4 p 0 h0 (by omega) (by omega) (by omega)
    have hRr' : fp_rng (aRgC (rF g b th) p 4 p 0) := by unfold fp_rng; omega
    have hsu := rMk_succ (g := g) (b := b) (th := th) h0
    have hbit := fp_bitv (v := th) (i := p) hb.1.1
    have hdn : 0 ≤ th / 2 ^ p.toNat := Int.ediv_nonneg hb.1.1 (Int.le_of_lt (Int.pow_pos (by decide)))
    have hmn := rMk_nn g b th p.toNat
    by_cases hbt : th.toNat.testBit p.toNat = true
    · rw [if_pos hbt] at hbit
      by_cases hz : aRgC (rF g b th) p 4 p 0 = 0
      · have hnl : ¬ rLv g b th p := fun q => q.2 hz
        rw [if_neg hnl] at hsu
        refine S.iload_n (pc' := 112) dX12_layRings_111 rfl rfl rfl ?_
        refine S.iconst (pc' := 113) dX12_layRings_112 rfl ?_
        refine S.icmp_ge (pc' := 116) (tgt := 179) dX12_layRings_113 (by decide) rfl (by unfold fp_rng; omega) (by unfold fp_rng; omega) (fun h113 => ?_) (fun h113 => ?_)
        · exfalso; omega
        · refine S.iload_n (pc' := 117) dX12_layRings_116 rfl rfl rfl ?_
          refine S.iload_n (pc' := 118) dX12_layRings_117 rfl rfl rfl ?_
          refine S.ishr (pc' := 119) dX12_layRings_118 rfl (fp_shrv (by have := hb.1; omega) (by omega)) ?_
          refine S.iconst (pc' := 120) dX12_layRings_119 rfl ?_
          refine S.iand (pc' := 121) dX12_layRings_120 rfl (fp_iand hdn (by decide)) ?_
          refine S.iconst (pc' := 122) dX12_layRings_121 rfl ?_
          refine S.icmp_ne (pc' := 125) (tgt := 134) dX12_layRings_122 (by decide) rfl (by rw [hbit]; unfold fp_rng; omega) (by unfold fp_rng; omega) (fun h122 => ?_) (fun h122 => ?_)
          · exfalso; omega
          · refine S.aload_n (pc' := 126) dX12_layRings_125 rfl rfl rfl ?_
            refine S.iload_n (pc' := 127) dX12_layRings_126 rfl rfl rfl ?_
            refine S.iload_n (pc' := 128) dX12_layRings_127 rfl rfl rfl ?_
            refine S.callVe (pc' := 131) dX12_layRings_128 rfl cX12_321 (rk_mring hp hb hne hg hdN hrN) rfl L_177 (by decide) rfl (Nat.le_of_ble_eq_true rfl) ?_
            refine S.goto (pc' := 135) dX12_layRings_131 (by decide) ?_
            refine S.istore (pc' := 137) (LL' := [_, _, _, _, _]) dX12_layRings_135 rfl (by decide) rfl rfl ?_
            refine S.iload (pc' := 139) dX12_layRings_137 rfl rfl ?_
            refine S.if_eq (pc' := 142) (tgt := 173) dX12_layRings_139 (by decide) rfl hRr' (fun h139 => ?_) (fun h139 => ?_)
            · refine S.iinc (pc' := 176) (LL' := [_, _, _, _, _]) dX12_layRings_173 rfl (by decide) rfl rfl rfl ?_
              refine S.goto (pc' := 111) dX12_layRings_176 (by decide) ?_
              rw [← hsu]; exact ih (p + 1) _ _ (by omega) (by omega) (by omega) (mI_no hI hnl)
            · exfalso; omega
      · have hl : rLv g b th p := ⟨hbt, hz⟩
        rw [if_pos hl] at hsu
        refine S.iload_n (pc' := 112) dX12_layRings_111 rfl rfl rfl ?_
        refine S.iconst (pc' := 113) dX12_layRings_112 rfl ?_
        refine S.icmp_ge (pc' := 116) (tgt := 179) dX12_layRings_113 (by decide) rfl (by unfold fp_rng; omega) (by unfold fp_rng; omega) (fun h113 => ?_) (fun h113 => ?_)
        · exfalso; omega
        · refine S.iload_n (pc' := 117) dX12_layRings_116 rfl rfl rfl ?_
          refine S.iload_n (pc' := 118) dX12_layRings_117 rfl rfl rfl ?_
          refine S.ishr (pc' := 119) dX12_layRings_118 rfl (fp_shrv (by have := hb.1; omega) (by omega)) ?_
          refine S.iconst (pc' := 120) dX12_layRings_119 rfl ?_
          refine S.iand (pc' := 121) dX12_layRings_120 rfl (fp_iand hdn (by decide)) ?_
          refine S.iconst (pc' := 122) dX12_layRings_121 rfl ?_
          refine S.icmp_ne (pc' := 125) (tgt := 134) dX12_layRings_122 (by decide) rfl (by rw [hbit]; unfold fp_rng; omega) (by unfold fp_rng; omega) (fun h122 => ?_) (fun h122 => ?_)
          · exfalso; omega
          · refine S.aload_n (pc' := 126) dX12_layRings_125 rfl rfl rfl ?_
            refine S.iload_n (pc' := 127) dX12_layRings_126 rfl rfl rfl ?_
            refine S.iload_n (pc' := 128) dX12_layRings_127 rfl rfl rfl ?_
            refine S.callVe (pc' := 131) dX12_layRings_128 rfl cX12_321 (rk_mring hp hb hne hg hdN hrN) rfl L_177 (by decide) rfl (Nat.le_of_ble_eq_true rfl) ?_
            refine S.goto (pc' := 135) dX12_layRings_131 (by decide) ?_
            refine S.istore (pc' := 137) (LL' := [_, _, _, _, _]) dX12_layRings_135 rfl (by decide) rfl rfl ?_
            refine S.iload (pc' := 139) dX12_layRings_137 rfl rfl ?_
            refine S.if_eq (pc' := 142) (tgt := 173) dX12_layRings_139 (by decide) rfl hRr' (fun h139 => ?_) (fun h139 => ?_)
            · refine S.iinc (pc' := 176) (LL' := [_, _, _, _, _]) dX12_layRings_173 rfl (by decide) rfl rfl rfl ?_
              refine S.goto (pc' := 111) dX12_layRings_176 (by decide) ?_
              first | (exfalso; omega) | (refine ih (p + 1) _ _ (by omega) (by omega) (by omega) (mI_yes hI hp hl ?_); rw [fp_up_ne (by decide)]; exact hrN _ (hf p h0 (by omega)).1 (hf p h0 (by omega)).2)
            · refine S.iload_n (pc' := 143) dX12_layRings_142 rfl rfl rfl ?_
              refine S.iconst (pc' := 144) dX12_layRings_143 rfl ?_
              refine S.iload_n (pc' := 145) dX12_layRings_144 rfl rfl rfl ?_
              refine S.ishl (pc' := 146) dX12_layRings_145 rfl (fp_shl1 (by omega) (by omega)) ?_
              refine S.ior (pc' := 147) dX12_layRings_146 rfl (show _ = Int32.ofInt (rMk g b th (p + 1).toNat) by rw [hsu]; exact fp_ior hmn (Int.le_of_lt (Int.pow_pos (by decide)))) ?_
              refine S.istore_n (pc' := 148) (LL' := [_, _, _, _, _]) dX12_layRings_147 rfl (by decide) rfl rfl rfl ?_
              refine S.aload_n (pc' := 149) dX12_layRings_148 rfl rfl rfl ?_
              refine S.getR (pc' := 152) dX12_layRings_149 rfl fX12_75 L_177 rf_177_39 ?_
              refine S.iload_n (pc' := 153) dX12_layRings_152 rfl rfl rfl ?_
              refine S.iload (pc' := 155) dX12_layRings_153 rfl rfl ?_
              refine S.iast (pc' := 156) dX12_layRings_155 rfl L_198 (by omega) (by omega) ?_
              refine S.aload_n (pc' := 157) dX12_layRings_156 rfl rfl rfl ?_
              refine S.getR (pc' := 160) dX12_layRings_157 rfl fX12_72 L_177 rf_177_38 ?_
              refine S.iload_n (pc' := 161) dX12_layRings_160 rfl rfl rfl ?_
              refine S.aload_n (pc' := 162) dX12_layRings_161 rfl rfl rfl ?_
              refine S.getR (pc' := 165) dX12_layRings_162 rfl fX12_69 L_177 rf_177_37 ?_
              refine S.aload_n (pc' := 166) dX12_layRings_165 rfl rfl rfl ?_
              refine S.iload_n (pc' := 167) dX12_layRings_166 rfl rfl rfl ?_
              refine S.iload_n (pc' := 168) dX12_layRings_167 rfl rfl rfl ?_
              refine S.callVe (pc' := 171) dX12_layRings_168 rfl cX12_318 (rk_X12_likes (b := b) (th := th) hp hb hg (show mdIs (fp_up N 198 p.toNat (aRgC (rF g b th) p 4 p 0)) g from hdN) (fun q q0 q1 => by rw [fp_up_ne (by decide)]; exact hrN q q0 q1)) rfl L_177 (by decide) rfl (Nat.le_of_ble_eq_true rfl) ?_
              refine S.iald (pc' := 172) dX12_layRings_171 rfl L_196 (hf p h0 (by omega)).1 (by have := (hf p h0 (by omega)).2; unfold rF at this; omega) ?_
              refine S.iast (pc' := 173) dX12_layRings_172 rfl L_197 (by omega) (by omega) ?_
              refine S.iinc (pc' := 176) (LL' := [_, _, _, _, _]) dX12_layRings_173 rfl (by decide) rfl rfl rfl ?_
              refine S.goto (pc' := 111) dX12_layRings_176 (by decide) ?_
              first | (exfalso; omega) | (refine ih (p + 1) _ _ (by omega) (by omega) (by omega) (mI_yes hI hp hl ?_); rw [fp_up_ne (by decide)]; exact hrN _ (hf p h0 (by omega)).1 (hf p h0 (by omega)).2)
    · have hnl : ¬ rLv g b th p := fun q => hbt q.1
      rw [if_neg hbt] at hbit
      rw [if_neg hnl] at hsu
      refine S.iload_n (pc' := 112) dX12_layRings_111 rfl rfl rfl ?_
      refine S.iconst (pc' := 113) dX12_layRings_112 rfl ?_
      refine S.icmp_ge (pc' := 116) (tgt := 179) dX12_layRings_113 (by decide) rfl (by unfold fp_rng; omega) (by unfold fp_rng; omega) (fun h113 => ?_) (fun h113 => ?_)
      · exfalso; omega
      · refine S.iload_n (pc' := 117) dX12_layRings_116 rfl rfl rfl ?_
        refine S.iload_n (pc' := 118) dX12_layRings_117 rfl rfl rfl ?_
        refine S.ishr (pc' := 119) dX12_layRings_118 rfl (fp_shrv (by have := hb.1; omega) (by omega)) ?_
        refine S.iconst (pc' := 120) dX12_layRings_119 rfl ?_
        refine S.iand (pc' := 121) dX12_layRings_120 rfl (fp_iand hdn (by decide)) ?_
        refine S.iconst (pc' := 122) dX12_layRings_121 rfl ?_
        refine S.icmp_ne (pc' := 125) (tgt := 134) dX12_layRings_122 (by decide) rfl (by rw [hbit]; unfold fp_rng; omega) (by unfold fp_rng; omega) (fun h122 => ?_) (fun h122 => ?_)
        · refine S.iconst (pc' := 135) dX12_layRings_134 rfl ?_
          refine S.istore (pc' := 137) (LL' := [_, _, _, _, _]) dX12_layRings_135 rfl (by decide) rfl rfl ?_
          refine S.iload (pc' := 139) dX12_layRings_137 rfl rfl ?_
          refine S.if_eq (pc' := 142) (tgt := 173) dX12_layRings_139 (by decide) rfl (by unfold fp_rng; omega) (fun h139 => ?_) (fun h139 => ?_)
          · refine S.iinc (pc' := 176) (LL' := [_, _, _, _, _]) dX12_layRings_173 rfl (by decide) rfl rfl rfl ?_
            refine S.goto (pc' := 111) dX12_layRings_176 (by decide) ?_
            rw [← hsu]; exact ih (p + 1) _ _ (by omega) (by omega) (by omega) (mI_no hI hnl)
          · exfalso; omega
        · exfalso; omega
def mJ (b : Int → Int) (M N : fp_Mem) (x : rSt) : Prop := frR M N ∧ ∀ y : Int, 0 ≤ y → y < 4 → N 196 y.toNat = b y ∧ N 197 y.toNat = x.2.1 y ∧ N 198 y.toNat = x.2.2 y
theorem mtail {b : Int → Int} {th : Int} {Q : fp_Q} {o3 o4 : Option Value} (hb : bOk g b th) (K : fp_S l G 2 kX12_layRings 103 [some (rV G 177), some (iV (aOut th (rMk g b th 4))), some (iV (rMk g b th 4)), o3, o4] [] N Q) : fp_S l G 2 kX12_layRings 179 [some (rV G 177), some (iV th), some (iV (rMk g b th 4)), o3, o4] [] N Q := by
  have h16 : 0 ≤ rMk g b th 4 ∧ rMk g b th 4 < 16 := ⟨rMk_nn _ _ _ _, rMk_lt _ _ _ _ (Nat.le_refl _)⟩
  refine S.iload_n (pc' := 180) dX12_layRings_179 rfl rfl rfl ?_
  refine S.iload_n (pc' := 181) dX12_layRings_180 rfl rfl rfl ?_
  refine S.iconst (pc' := 182) dX12_layRings_181 rfl ?_
  refine S.ixor (pc' := 183) dX12_layRings_182 rfl (aOut_x h16) ?_
  refine S.iand (pc' := 184) dX12_layRings_183 rfl (aOut_a hb.1 h16) ?_
  refine S.istore_n (pc' := 185) (LL' := [_, _, _, _, _]) dX12_layRings_184 rfl (by decide) rfl rfl rfl ?_
  refine S.goto (pc' := 103) dX12_layRings_185 (by decide) ?_
  exact K
theorem mI_end {b : Int → Int} {x : rSt} {O : fp_Mem} (hJ : mJ b M N x) (hO : mI g b x.1 x.2.1 x.2.2 N O 4) : mJ b M O (rRd g b x) := by
  refine ⟨fun c hc => by rw [hO.1 c (by omega) (by omega)]; exact hJ.1 c hc, fun y y0 y1 => ?_⟩
  obtain ⟨e1, e2⟩ := hO.2 y y0 y1
  rw [hO.1 196 (by decide) (by decide), e1, e2]
  refine ⟨(hJ.2 y y0 y1).1, ?_, ?_⟩
  · show _ = if rLv g b x.1 y then b (rF g b x.1 y) else x.2.1 y
    by_cases e : rLv g b x.1 y
    · rw [if_pos ⟨y1, e⟩, if_pos e]
    · rw [if_neg (fun q => e q.2), if_neg e]
  · show _ = if rLv g b x.1 y then aRgC (rF g b x.1) y 4 y 0 else x.2.2 y
    by_cases e : rLv g b x.1 y
    · rw [if_pos ⟨y1, e⟩, if_pos e]
    · rw [if_neg (fun q => e q.2), if_neg e]
theorem mwhile {b : Int → Int} (hg : gOk g) (hd : mdIs M g) : ∀ (n : Nat) (x : rSt) (N : fp_Mem) (o2 o3 o4 : Option Value), rPc x.1.toNat ≤ n → bOk g b x.1 → mJ b M N x →
    fp_S l G 2 kX12_layRings 103 [some (rV G 177), some (iV x.1), o2, o3, o4] [] N (qV fun O => mJ b M O (rIt g b n x)) := by
  intro n
  induction n with
  | zero =>
    intro x N o2 o3 o4 hn hb hJ
    have hb1 := hb.1
    have h0 : x.1 = 0 := by
      have := rPc_0 (n := x.1.toNat) (by omega) (by omega)
      omega
    refine S.iload_n (pc' := 104) dX12_layRings_103 rfl rfl rfl ?_
    refine S.if_eq (pc' := 107) (tgt := 188) dX12_layRings_104 (by decide) rfl (by unfold fp_rng; omega) (fun h104 => ?_) (fun h104 => ?_)
    · refine S.vret dX12_layRings_188 rfl ?_
      exact hJ
    · exfalso; omega
  | succ n ih =>
    intro x N o2 o3 o4 hn hb hJ
    have hb1 := hb.1
    by_cases h0 : x.1 = 0
    · rw [rIt_0 h0]
      refine S.iload_n (pc' := 104) dX12_layRings_103 rfl rfl rfl ?_
      refine S.if_eq (pc' := 107) (tgt := 188) dX12_layRings_104 (by decide) rfl (by unfold fp_rng; omega) (fun h104 => ?_) (fun h104 => ?_)
      · refine S.vret dX12_layRings_188 rfl ?_
        exact hJ
      · exfalso; omega
    · have hpc := rRd_pc (g := g) (b := b) hb1 h0
      have h16 : 0 ≤ rMk g b x.1 4 ∧ rMk g b x.1 4 < 16 := ⟨rMk_nn _ _ _ _, rMk_lt _ _ _ _ (Nat.le_refl _)⟩
      refine S.iload_n (pc' := 104) dX12_layRings_103 rfl rfl rfl ?_
      refine S.if_eq (pc' := 107) (tgt := 188) dX12_layRings_104 (by decide) rfl (by unfold fp_rng; omega) (fun h104 => ?_) (fun h104 => ?_)
      · exfalso; omega
      · refine S.iconst (pc' := 108) dX12_layRings_107 rfl ?_
        refine S.istore_n (pc' := 109) (LL' := [_, _, _, _, _]) dX12_layRings_108 rfl (by decide) rfl rfl rfl ?_
        refine S.iconst (pc' := 110) dX12_layRings_109 rfl ?_
        refine S.istore_n (pc' := 111) (LL' := [_, _, _, _, _]) dX12_layRings_110 rfl (by decide) rfl rfl rfl ?_
        exact mround_p (M := N) (u := x.2.1) (w := x.2.2) hb h0 hg (frR.md hJ.1 hd) (fun q q0 q1 => (hJ.2 q q0 q1).1) (fun O o9 hO => mtail hb (ih (rRd g b x) O _ _ _ (by omega) (rRd_bOk hb) (mI_end hJ hO))) 4 0 _ _ (by omega) (by omega) (by omega) ⟨fun _ _ _ => rfl, fun y y0 y1 => by rw [if_neg (by omega), if_neg (by omega)]; exact (hJ.2 y y0 y1).2⟩
theorem rk_X12_layRings (hg : gOk g) (hd : mdIs M g) (hc : mpIs M 0 g pg) (hP : pgOk g pg) : fp_Ok l G 2 kX12_layRings [rV G 177] M (qV fun O => mJ (aLeast g pg) M O (rIt g (aLeast g pg) 4 (r0x g pg))) := by
  refine fp_Ok.of (r := 4) rfl (Nat.le_of_ble_eq_true rfl) rfl ?_
  refine S.iconst (pc' := 1) dX12_layRings_0 rfl ?_
  refine S.istore_n (pc' := 2) (LL' := [_, _, _, _, _]) dX12_layRings_1 rfl (by decide) rfl rfl rfl ?_
  refine S.iconst (pc' := 3) dX12_layRings_2 rfl ?_
  refine S.istore_n (pc' := 4) (LL' := [_, _, _, _, _]) dX12_layRings_3 rfl (by decide) rfl rfl rfl ?_
  exact mlay_i hg hd hc hP (fun N hN hy o3 => mwhile hg hd 4 (r0x g pg) N _ _ _ (rPc_le _) (aTh_bOk hg) ⟨hN, hy⟩) 4 0 _ _ (by omega) (by omega) (by omega) (fun _ _ => rfl) (fun y y0 y1 => absurd y1 (by omega))
theorem mm_ring {p : Int} (hc : MS M tp fl g pg vs nt im sh tn) (ho : OK g pg vs nt im sh) (hp : fp_rng p) : fp_Ok l G 3 kX12_ring [rV G 177, iV p] M (qI fun z N => z = aRing g pg p ∧ MS N tp fl g pg vs nt im sh tn ∧ frD M N) := by
  have hms := hc
  have ho' := ho
  obtain ⟨-, hd, hcl, -⟩ := hc
  obtain ⟨hg, hP, -⟩ := ho
  refine fp_Ok.of (r := 0) rfl (Nat.le_of_ble_eq_true rfl) rfl ?_
  unfold aRing
  refine S.iload_n (pc' := 1) dX12_ring_0 rfl rfl rfl ?_
  refine S.callSi (pc' := 4) dX12_ring_1 rfl cX12_228 (bk_X12_isOne) rfl (by decide) rfl (Nat.le_of_ble_eq_true rfl) (fun z1 M1 q1 => ?_)
  obtain ⟨b1, rfl⟩ := q1
  refine S.if_ne (pc' := 7) (tgt := 9) dX12_ring_4 (by decide) rfl (by unfold fp_rng; omega) (fun h4 => ?_) (fun h4 => ?_)
  · refine S.aload_n (pc' := 10) dX12_ring_9 rfl rfl rfl ?_
    refine S.callVv (pc' := 13) dX12_ring_10 rfl cX12_324 (rk_X12_layRings hg hd hcl hP) rfl L_177 (by decide) rfl (Nat.le_of_ble_eq_true rfl) (fun M10 q10 => ?_)
    refine S.aload_n (pc' := 14) dX12_ring_13 rfl rfl rfl ?_
    refine S.getR (pc' := 17) dX12_ring_14 rfl fX12_72 L_177 rf_177_38 ?_
    refine S.iload_n (pc' := 18) dX12_ring_17 rfl rfl rfl ?_
    refine S.iald (pc' := 19) dX12_ring_18 rfl L_197 (by omega) (by omega) ?_
    refine S.iret dX12_ring_19 rfl ?_
    refine ⟨?_, hms.trial ho' (fun c hc => q10.1 c (by omega)) (fun j hj => by rw [q10.1 178 (by omega)]), fun c hc => q10.1 c (by omega)⟩
    rw [(q10.2 p (by omega) (by omega)).2.1, if_pos (by omega)]
  · refine S.iconst (pc' := 8) dX12_ring_7 rfl ?_
    refine S.iret dX12_ring_8 rfl ?_
    exact ⟨by rw [if_neg (by omega)], hms, frD.refl _⟩
theorem mm_with {p : Int} (hc : MS M tp fl g pg vs nt im sh tn) (ho : OK g pg vs nt im sh) (hp : fp_rng p) : fp_Ok l G 3 kX12_with [rV G 177, iV p] M (qI fun z N => z = aWith g pg p ∧ MS N tp fl g pg vs nt im sh tn ∧ frD M N) := by
  have hms := hc
  have ho' := ho
  obtain ⟨-, hd, hcl, -⟩ := hc
  obtain ⟨hg, hP, -⟩ := ho
  refine fp_Ok.of (r := 0) rfl (Nat.le_of_ble_eq_true rfl) rfl ?_
  unfold aWith
  refine S.iload_n (pc' := 1) dX12_with_0 rfl rfl rfl ?_
  refine S.callSi (pc' := 4) dX12_with_1 rfl cX12_228 (bk_X12_isOne) rfl (by decide) rfl (Nat.le_of_ble_eq_true rfl) (fun z1 M1 q1 => ?_)
  obtain ⟨b1, rfl⟩ := q1
  refine S.if_ne (pc' := 7) (tgt := 9) dX12_with_4 (by decide) rfl (by unfold fp_rng; omega) (fun h4 => ?_) (fun h4 => ?_)
  · refine S.aload_n (pc' := 10) dX12_with_9 rfl rfl rfl ?_
    refine S.callVv (pc' := 13) dX12_with_10 rfl cX12_324 (rk_X12_layRings hg hd hcl hP) rfl L_177 (by decide) rfl (Nat.le_of_ble_eq_true rfl) (fun M10 q10 => ?_)
    refine S.aload_n (pc' := 14) dX12_with_13 rfl rfl rfl ?_
    refine S.getR (pc' := 17) dX12_with_14 rfl fX12_75 L_177 rf_177_39 ?_
    refine S.iload_n (pc' := 18) dX12_with_17 rfl rfl rfl ?_
    refine S.iald (pc' := 19) dX12_with_18 rfl L_198 (by omega) (by omega) ?_
    refine S.iret dX12_with_19 rfl ?_
    refine ⟨?_, hms.trial ho' (fun c hc => q10.1 c (by omega)) (fun j hj => by rw [q10.1 178 (by omega)]), fun c hc => q10.1 c (by omega)⟩
    rw [(q10.2 p (by omega) (by omega)).2.2, if_pos (by omega)]
  · refine S.iconst (pc' := 8) dX12_with_7 rfl ?_
    refine S.iret dX12_with_8 rfl ?_
    exact ⟨by rw [if_neg (by omega)], hms, frD.refl _⟩
end RN7
end
section
/-! THE CLAIM OUT OF ONE WALK OF THE LAW'S BODY. Your part is whole_start (and what it stands on); all else here is the same for every law, but numbers. -/
def R_law : String := "FirstPutLaw"
def lw_P (b : Addr) (xs : List Int32) (args : Array Value) (s : State) : Prop := args = #[.ref b] ∧ s.IntsAt b xs ∧ xs.length ≤ 3584 ∧ (Jvm.Cond.and given_1 narrow_1).before args s = true
def lw_Q (_ : Array Value) (s : State) (o : Outcome) (t : State) : Prop := o = .returned (some (.int 1)) ∧ Framed s o t [] 600000 7302250
def lw_Z (below : List Frame) (a : Array Value) (s : State) : State → Prop := fun t => ∃ o, t.status = .running ∧ Ended t below o ∧ lw_Q a s o t
/-- the law's own end, with 1 on the stack, nothing written that was there before, its room as the claim has it -/
theorem lw_ret {p : Program} {l : Launch} {e : Env} {s : State} {m : MethodId} {below : List Frame} {meth : Method} {c : Code} {b : Nat} (hx : p.tables.exec = Jvm.exec) (hb : c.code = code) (hr : meth.sig.returnType = ret) (hlocks : meth.locks = false) {pc : Nat} {H : Heap} {ls : Array Slot} (hdg : decode code pc = .ok (.ireturn, 1)) : W p l e room_1 s m #[Value.ref b] below meth c H [] 600000 7302250 (lw_Z below #[Value.ref b] s) (F0 m pc ls [.int 1]) := by
  intro T hT X
  obtain ⟨fs, hret, hrun, hended, hW, hframe⟩ := X.leave (v := some (.int 1)) (hlocks := hlocks) (fun h => by rw [hr] at h; cases h)
  have hmeth' : T.vm.method? m = some meth := X.method'
  refine ⟨T.setFrames fs, ?_, .returned (some (.int 1)), hrun, hended, rfl, ⟨_, rfl⟩, hW, hframe⟩
  jvm_step X.here [X.here.top, hx, hb, hdg, hmeth', hr, ret, narrow_b1]
  (try refine ⟨rfl, ?_⟩); (try refine ⟨rfl, ?_⟩)
  first | (intro acts; rw [hret _ acts rfl rfl rfl]) | rw [hret _ _ rfl rfl rfl]
  exact Steps.refl _
/-- what holds at the law's entry: the machine, the code, the tables' words (any of lw_tbl by 'hts w (by decide +kernel)'), the script of L ints xs at the cell b, what the Statement gives of the start (any of its parts by flat_of_before) -/
def lw_At (p : Program) (s : State) (m : MethodId) (meth : Method) (c : Code) (b L : Nat) (xs : Nat → Int32) : Prop :=
  p.tables.exec = Jvm.exec ∧ c.code = code ∧ meth.sig.returnType = ret ∧ c.maxLocals = 4 ∧ s.vm.findClass R_law = some m.cls ∧ (∀ w ∈ lw_tbl, w.before #[Value.ref b] s = true) ∧ va_X b L xs s s.heap ∧ b < s.heap.size ∧ meth.locks = false ∧ (Jvm.Cond.and given_1 narrow_1).before #[Value.ref b] s = true
end
section
/-! ROWS OF ROWS: seven rows of eight ints made at once (multianewarray), by the model's own making -/
def mmO (cA : ClassId) (h i : Nat) : Cell := arrV cA 7 (fun j => if j < i then .ref (h + 1 + j) else .null)
def mmI (cI : ClassId) : Cell := arrV cI 8 (fun _ => .int 0)
theorem mmO_set (cA : ClassId) (h i : Nat) : (mmO cA h i).setSlot i (.ref (h + 1 + i)) = mmO cA h (i + 1) := by
  unfold mmO
  rw [arrV_store]
  congr 1
  funext j
  unfold updV
  by_cases e : j = i
  · subst e; simp
  · by_cases e2 : j < i
    · simp [e, e2, show j < i + 1 by omega]
    · simp [e, e2, show ¬ j < i + 1 by omega]
/-- the outer row and i of its rows are made -/
def mmS (s : State) (cA cI : ClassId) : Nat → State
  | 0 => s.pushCell (mmO cA s.heap.size 0)
  | i + 1 => ((mmS s cA cI i).pushCell (mmI cI)).setCell s.heap.size ((mmO cA s.heap.size i).setSlot i (.ref (s.heap.size + 1 + i)))
theorem mmO_size (cA : ClassId) (h i : Nat) : (mmO cA h i).slots.size = 7 := arrV_size ..
theorem mmI_size (cI : ClassId) : (mmI cI).slots.size = 8 := arrV_size ..
theorem mmS_of (s : State) (cA cI : ClassId) (i : Nat) : (mmS s cA cI i).heap.size = s.heap.size + 1 + i ∧ (mmS s cA cI i).heap[s.heap.size]? = some (mmO cA s.heap.size i) ∧ (mmS s cA cI i).vm = s.vm ∧ (mmS s cA cI i).slotsUsed = s.slotsUsed + 7 + i * 8 ∧ (∀ a, a < s.heap.size → (mmS s cA cI i).heap[a]? = s.heap[a]?) ∧ ∀ j, j < i → (mmS s cA cI i).heap[s.heap.size + 1 + j]? = some (mmI cI) := by
  induction i with
  | zero =>
    refine ⟨by simp [mmS], State.heap_pushCell_size _ _, rfl, ?_, fun a ha => State.heap_pushCell_of_lt _ _ ha, fun j hj => absurd hj (Nat.not_lt_zero _)⟩
    simp [mmS, mmO_size]
  | succ i ih =>
    obtain ⟨a1, a2, a3, a4, a5, a6⟩ := ih
    have hlt : s.heap.size < (mmS s cA cI i).heap.size := by omega
    have hb : ((mmS s cA cI i).pushCell (mmI cI)).heap[s.heap.size]? = some (mmO cA s.heap.size i) := by rw [State.heap_pushCell_of_lt _ _ hlt]; exact a2
    refine ⟨?_, ?_, ?_, ?_, fun a ha => ?_, fun j hj => ?_⟩
    · simp [mmS, State.setCell, a1]; omega
    · show (((mmS s cA cI i).pushCell (mmI cI)).setCell s.heap.size _).heap[s.heap.size]? = _
      rw [State.heap_setCell_self hb, mmO_set]
    · simp [mmS, a3]
    · simp [mmS, a4, mmI_size]; omega
    · show (((mmS s cA cI i).pushCell (mmI cI)).setCell s.heap.size _).heap[a]? = _
      rw [State.heap_setCell_other (Nat.ne_of_gt ha), State.heap_pushCell_of_lt _ _ (show a < (mmS s cA cI i).heap.size by omega)]
      exact a5 a ha
    · show (((mmS s cA cI i).pushCell (mmI cI)).setCell s.heap.size _).heap[s.heap.size + 1 + j]? = _
      rw [State.heap_setCell_other (show s.heap.size ≠ s.heap.size + 1 + j by omega)]
      by_cases hj2 : j < i
      · rw [State.heap_pushCell_of_lt _ _ (show s.heap.size + 1 + j < (mmS s cA cI i).heap.size by omega)]
        exact a6 j hj2
      · have : s.heap.size + 1 + j = (mmS s cA cI i).heap.size := by omega
        rw [this]
        exact State.heap_pushCell_size _ _
theorem mmS_top (s : State) (f : JFrame) (cA cI : ClassId) (i : Nat) : mmS (s.setTop f) cA cI i = (mmS s cA cI i).setTop f := by
  induction i with
  | zero => rfl
  | succ i ih => simp only [mmS, ih, State.heap_setTop, State.pushCell_setTop, State.setCell_setTop]
section MMR
variable {p : Program} {l : Launch} {e : Env} {R : Room} {s : State} {m : MethodId} {args : Array Value} {below : List Frame} {meth : Method} {c : Code} {T : State} {locs : List Loc} {cells slots : Nat}
theorem mmS_stand (X : Stand p l e R s m args below meth c T locs cells slots) (cA cI : ClassId) (i : Nat) : Stand p l e R s m args below meth c (mmS T cA cI i) (locs ++ (List.range i).map fun j => ⟨T.heap.size, j⟩) (cells + 1 + i) (slots + 7 + i * 8) := by
  induction i with
  | zero =>
    have h := X.pushed (mmO cA T.heap.size 0)
    rw [mmO_size] at h
    simpa [mmS] using h
  | succ i ih =>
    obtain ⟨a1, a2, -⟩ := mmS_of T cA cI i
    have hc : ((mmS T cA cI i).pushCell (mmI cI)).heap[T.heap.size]? = some (mmO cA T.heap.size i) := by rw [State.heap_pushCell_of_lt _ _ (show T.heap.size < (mmS T cA cI i).heap.size by omega)]; exact a2
    have h := (ih.pushed (mmI cI)).stored hc i (.ref (T.heap.size + 1 + i))
    rw [mmI_size] at h
    have e2 : (locs ++ (List.range (i + 1)).map fun j => (⟨T.heap.size, j⟩ : Loc)) = (locs ++ (List.range i).map fun j => (⟨T.heap.size, j⟩ : Loc)) ++ [⟨T.heap.size, i⟩] := by simp [List.range_succ, List.append_assoc]
    rw [e2, show slots + 7 + (i + 1) * 8 = slots + 7 + i * 8 + 8 by omega]
    exact h
end MMR
section MMW
variable {E : CtlPost} {e : Env} {d : Bool} {acts : List Action} {s : State}
/-- the model's newArray, where everything fits -/
theorem mm_new {cA comp : ClassId} {k : Class} {ty : FieldType} {N : Nat} {v : Value} (hk : s.vm.classes[cA]? = some k) (hkind : k.kind = .array comp ty) (h1 : ¬ N > e.platform.arrayLengthLimit) (h2 : ¬ N * componentBytes ty > e.platform.maxHeapBytes) (h3 : fits ty v = true) (h4 : v.isDefault = true) {Q : Addr → Pre} (h5 : s.heap.size < e.platform.maxCells) (h6 : s.slotsUsed + N ≤ e.platform.maxSlots) (hq : Q s.heap.size d acts (s.pushCell (arrV cA N (fun _ => v)))) : wp (Jvm.newArray cA N v) Q E e d acts s := by
  have hda : allocActs (Array.replicate N v) s.heap.size acts = acts := by
    unfold allocActs
    rw [if_pos (by rw [Array.all_replicate]; split <;> simp [h4])]
  rw [← arrV_new] at hq
  simp only [Jvm.newArray, Jvm.arrayFits, wp_bind', W.ask, W.ite, h1, if_false, wp_pure', W.theClass, hk, hkind, h2, W.alloc, W.stop, Option.some.injEq, exists_eq_left', Array.size_replicate, hda]
  rw [if_neg (by omega)]
  refine ⟨h5, h6, fun i w hw => ?_, hq⟩
  simp only [Array.getElem?_replicate] at hw
  split at hw
  · cases hw; simp [State.fitsSlot, State.slotType?, hk, hkind, h3]
  · cases hw
theorem mm_make {cA cI cc : ClassId} {k kc : Class} (hk : s.vm.classes[cA]? = some k) (hkind : k.kind = .array cI (.array .int)) (hkc : s.vm.classes[cI]? = some kc) (hkindc : kc.kind = .array cc .int) (hl : e.platform.arrayLengthLimit = 2147483645) (hh : e.platform.maxHeapBytes = 536870912) (h5 : s.heap.size + 8 ≤ e.platform.maxCells) (h6 : s.slotsUsed + 63 ≤ e.platform.maxSlots) {Q : Addr → Pre} (hq : ∀ d' acts', Q s.heap.size d' acts' (mmS s cA cI 7)) : wp (multianewarray.make cA [7, 8]) Q E e d acts s := by
  rw [multianewarray.make]
  simp only [wp_bind', W.ite, show ¬ (7 : Int32) < 0 by decide, if_false, wp_pure', W.theClass, hk, hkind, Option.some.injEq, exists_eq_left']
  refine mm_new hk hkind (by rw [hl]; decide) (by rw [hh]; decide) rfl rfl (by omega) (by show s.slotsUsed + 7 ≤ _; omega) ?_
  rw [if_neg (by decide)]
  simp only [wp_pure', wp_bind']
  rw [Std.Legacy.Range.forIn_eq_forIn_range']
  show wp (forIn (List.range' 0 7 1) PUnit.unit _) _ E e d acts _
  refine wp_forIn_inv (fun rest s' => ∃ i, i ≤ 7 ∧ rest = List.range' i (7 - i) ∧ s' = mmS s cA cI i) _ _ ⟨0, by omega, rfl, rfl⟩ ?_ ?_
  · rintro x rest s' d' acts' Q' ⟨i, hi, hr, rfl⟩ hnext
    have hlt : i < 7 := by
      by_cases h : i < 7
      · exact h
      · rw [show 7 - i = 0 by omega] at hr; simp at hr
    rw [show 7 - i = (7 - (i + 1)) + 1 by omega, List.range'_succ] at hr
    obtain ⟨rfl, hr2⟩ := List.cons.inj hr
    obtain ⟨a1, a2, a3, a4, -⟩ := mmS_of s cA cI x
    simp only [wp_bind']
    rw [multianewarray.make]
    simp only [wp_bind', W.ite, show ¬ (8 : Int32) < 0 by decide, if_false, wp_pure', W.theClass, a3, hkc, hkindc, Option.some.injEq, exists_eq_left']
    refine mm_new (by rw [a3]; exact hkc) hkindc (by rw [hl]; decide) (by rw [hh]; decide) rfl rfl (by omega) (by show _ + 8 ≤ _; omega) ?_
    simp only [wp_bind', W.writeLoc, wp_pure']
    refine ⟨mmO cA s.heap.size x, by rw [State.heap_pushCell_of_lt _ _ (show s.heap.size < (mmS s cA cI x).heap.size by omega)]; exact a2, (fun h => by cases h), by rw [mmO_size]; exact hlt, ?_, hnext _ _ _ ⟨x + 1, hlt, hr2, ?_⟩⟩
    · show State.fitsSlot _ cA .none x _ = true
      simp [State.fitsSlot, State.slotType?, a3, hk, hkind, fits]
    · rw [a1]; rfl
  · rintro s' d' acts' ⟨i, hi, hr, rfl⟩
    have : i = 7 := by
      by_cases h : i < 7
      · rw [show 7 - i = (7 - (i + 1)) + 1 by omega, List.range'_succ] at hr; cases hr
      · omega
    subst this
    simp only [wp_pure']
    exact hq _ _
end MMW
theorem mm_over {args : Array Value} {s : State} (h : (Cond.arrayOver (.array .int)).before args s = true) : ∃ cI cA k, s.vm.findClass (FieldType.array .int).toString = some cI ∧ s.vm.classes[cA]? = some k ∧ k.kind = .array cI (.array .int) ∧ s.vm.findClass ("[" ++ (FieldType.array .int).toString) = some cA := by
  simp only [Cond.before, Cond.holds, Cond.value, beq_iff_eq] at h
  cases hc : s.vm.findClass (FieldType.array .int).toString with
  | none => simp [hc] at h
  | some cI =>
    simp only [hc, Option.bind_some, Option.bind_eq_some_iff, Option.map_eq_some_iff] at h
    obtain ⟨cA, hi, k, hk, hb⟩ := h
    obtain ⟨hlt, hp, -⟩ := Array.findIdx?_eq_some_iff_getElem.mp hi
    rw [(Array.getElem?_eq_some_iff.mp hk).2] at hp
    cases hkind : k.kind with
    | array comp ty =>
      rw [hkind] at hb hp
      simp at hb hp
      exact ⟨cI, cA, k, rfl, hk, by rw [hkind, hp, hb.1], hb.2⟩
    | _ => rw [hkind] at hb; simp at hb
section MMS
variable {p : Program} {l : Launch} {e : Env} {R : Room} {s : State} {m : MethodId} {args : Array Value} {below : List Frame} {meth : Method} {c : Code} {T : State} {locs : List Loc} {cells slots : Nat}
theorem mm_step (X : Stand p l e R s m args below meth c T locs cells slots) (hexec : p.tables.exec = Jvm.exec) {own : String} {index : Nat} (hown : s.vm.findClass own = some m.cls) (hcl : (Cond.classLink own index "[[I").before args s = true) {cI cA : ClassId} {kA : Class} (o1 : s.vm.findClass (FieldType.array .int).toString = some cI) (o2 : s.vm.classes[cA]? = some kA) (o3 : kA.kind = .array cI (.array .int)) (o4 : s.vm.findClass ("[" ++ (FieldType.array .int).toString) = some cA) (har : (Cond.arrayClass .int).before args s = true)
    {pc : Nat} {ls : Array Slot} {rest : List Value} (hd : decode c.code pc = .ok (.multianewarray index 2, 4)) (h1 : cells + 8 ≤ R.cells) (h2 : slots + 63 ≤ R.slots) :
    ∃ (vm₁ : Vm), s.WarmedH vm₁ ∧ Stand p l e R s m args below meth c (mmS (T.setVm vm₁) cA cI 7) (locs ++ (List.range 7).map fun j => ⟨T.heap.size, j⟩) (cells + 8) (slots + 63) ∧
      ∀ tg, Steps p.tables e below ((mmS (T.setVm vm₁) cA cI 7).setTop (F0 m (pc + 4) ls (.ref T.heap.size :: rest))) tg → Steps p.tables e below (T.setTop (F0 m pc ls (.int 8 :: .int 7 :: rest))) tg := by
  have hpl : e.platform.magicAccessors = ({} : Platform).magicAccessors := by rw [X.admits.platform]
  obtain ⟨cI', kC, cc, i1, i2, i3⟩ := Cond.arrayClass_spec har
  obtain rfl : cI = cI' := Option.some.inj (o1.symm.trans i1)
  obtain ⟨c0, g1, g2⟩ := Cond.classLink_spec hown hcl e.platform hpl
  obtain rfl : cA = c0 := Option.some.inj (o4.symm.trans g1)
  obtain ⟨k1, k2, -⟩ := State.classEntry (e := e) X.warmed g2
  generalize T.vm.noted m.cls index (.cls cA) = vm₁ at k1 k2
  have hal : s.vm.Alike vm₁ := k2.alike
  obtain ⟨kA1, hkA1, eA⟩ := hal.2.2 _ _ o2
  obtain ⟨kC1, hkC1, eC⟩ := hal.2.2 _ _ i2
  obtain ⟨r1, r2⟩ := X.roomAbove h1 h2
  have XF := mmS_stand (X.noted k2) cA cI 7
  refine ⟨vm₁, k2, XF, fun tg hrest => ?_⟩
  jvm_step X.here [hexec, hd]
  simp only [multianewarray.sem, wp_bind', W.resolveClassAt_links (State.method?_setTop (F0 m pc ls (.int 8 :: .int 7 :: rest)) X.here.top) k1]
  rw [W.popN, if_neg (by decide)]
  refine ⟨F0 m pc ls (.int 8 :: .int 7 :: rest), State.topJava?_setTop' (s := T.setVm vm₁) _ X.here.top, [.int 7, .int 8], rest, rfl, rfl, ?_⟩
  simp only [List.mapM_cons, List.mapM_nil, wp_bind', wp_pure']
  refine mm_make (cc := cc) (k := kA1) (kc := kC1) (cI := cI) hkA1 (by rw [eA]; exact o3) hkC1 (by rw [eC]; exact i3) (Launch.admits_arrayLengthLimit X.admits) (Launch.admits_maxHeapBytes X.admits) (by exact r1) (by exact r2) (fun d' acts' => ?_)
  have eS : ((T.setTop (F0 m pc ls (.int 8 :: .int 7 :: rest))).setVm vm₁).setTop (F0 m pc ls rest) = (T.setVm vm₁).setTop (F0 m pc ls rest) := by
    show ((T.setVm vm₁).setTop _).setTop _ = _
    rw [State.setTop_setTop]
  show wp _ _ _ _ _ _ (mmS (((T.setTop (F0 m pc ls (.int 8 :: .int 7 :: rest))).setVm vm₁).setTop (F0 m pc ls rest)) cA cI 7)
  rw [eS, mmS_top]
  simp only [wp_bind', W.mark, W.pushRef, State.topJava?_setTop' _ XF.here.top, Option.some.injEq, exists_eq_left', State.setTop_setTop, State.heap_setTop]
  intro acts
  simp [jvm, XF.here.top]
  exact hrest
end MMS
end
section
/-! ROWS FOR THE CONSTRUCTORS: new cells, references stored -/
theorem fp_Rep.grow {G : fp_WG} {n : Nat} {M : fp_Mem} {H H1 : Heap} (h : fp_Rep G n M H) (hz : H1.size = fp_b G + n + 1) (ho : ∀ q, q < fp_b G + n → H1[q]? = H[q]?) (hc : fp_cell G n (M n) H1) : fp_Rep G (n + 1) M H1 := by
  have := fp_Rep.push h hz ho hc
  have e : fp_upM M n (M n) = M := by
    funext a
    unfold fp_upM
    split
    · rename_i h; rw [h]
    · rfl
  rwa [e] at this
def fp_dv (t : Nat) : Value := if t = 0 then .int 0 else if t = 1 then .long 0 else .null
theorem fp_dv_fv (b t : Nat) : fp_fv b t 0 = fp_dv t := by
  unfold fp_fv fp_dv
  by_cases h0 : t = 0
  · rw [if_pos h0, if_pos h0]; rfl
  · rw [if_neg h0, if_neg h0]
    by_cases h1 : t = 1
    · rw [if_pos h1, if_pos h1]; rfl
    · rw [if_neg h1, if_neg h1]; rfl
theorem fp_dft : ∀ (c : Nat) (q : vw_C), vwCl[c]? = some q → ∃ ty0 : Nat → FieldType, (∀ k, k < q.2.2 → parseFieldDescriptor (q.2.1 k).2.2.1 = some (ty0 k)) ∧ ∀ k, k < q.2.2 → defaultValue (ty0 k) = fp_dv (fp_fty c k) := by
  intro c q h
  have hc : c < 13 := (List.getElem?_eq_some_iff.mp h).1
  rcases (show c = 0 ∨ c = 1 ∨ c = 2 ∨ c = 3 ∨ c = 4 ∨ c = 5 ∨ c = 6 ∨ c = 7 ∨ c = 8 ∨ c = 9 ∨ c = 10 ∨ c = 11 ∨ c = 12 by omega) with rfl | rfl | rfl | rfl | rfl | rfl | rfl | rfl | rfl | rfl | rfl | rfl | rfl <;> cases h
  · exact ⟨tyX0, tyX0_ok, by decide +kernel⟩
  · exact ⟨tyX1, tyX1_ok, by decide +kernel⟩
  · exact ⟨tyX2, tyX2_ok, by decide +kernel⟩
  · exact ⟨tyX3, tyX3_ok, by decide +kernel⟩
  · exact ⟨tyX4, tyX4_ok, by decide +kernel⟩
  · exact ⟨tyX5, tyX5_ok, by decide +kernel⟩
  · exact ⟨tyX6, tyX6_ok, by decide +kernel⟩
  · exact ⟨tyX7, tyX7_ok, by decide +kernel⟩
  · exact ⟨tyX8, tyX8_ok, by decide +kernel⟩
  · exact ⟨tyX9, tyX9_ok, by decide +kernel⟩
  · exact ⟨tyX10, tyX10_ok, by decide +kernel⟩
  · exact ⟨tyX11, tyX11_ok, by decide +kernel⟩
  · exact ⟨tyX12, tyX12_ok, by decide +kernel⟩
/-- what the tables say of a class that is made: the pool's entry, its size, that it is ready -/
def fp_New (own : String) (idx c N : Nat) : Prop := ∃ q : vw_C, vwCl[c]? = some q ∧ q.2.2 = N ∧ Cond.classLink own idx q.1 ∈ lw_tbl ∧ Cond.instantiable q.1 N ∈ lw_tbl ∧ Cond.initialized q.1 ∈ lw_tbl
section NWR
variable {l : Launch} {G : fp_WG} {d n cs ss mc ms nf : Nat} {Y : fp_MR} {pc pc' : Nat} {LL LL' : List (Option Value)} {st : List Value} {M : fp_Mem} {Q : fp_Q}
theorem SP.newO {idx c N : Nat} (hd : decode Y.2.1 pc = .ok (.new idx, 3)) (hp : pc + 3 = pc') (hN : fp_New Y.1.cls idx c N) (hk : fp_lay n = (0, c)) (hz : M n = fun _ => 0) (hcr : cs + 1 ≤ mc) (hsr : ss + N ≤ ms)
    (kk : fp_SP l G d (n + 1) (cs + 1) (ss + N) mc ms nf Y pc' LL (rV G n :: st) M Q) : fp_SP l G d n cs ss mc ms nf Y pc LL st M Q := by
  subst hp
  intro p e s m args below meth c0 H locs ls C hR hL hl
  have K0 := C.2.2.2.2.2.2.2.1
  have hW := C.2.2.2.2.2.2.2.2
  obtain ⟨q, hq, rfl, hcl, hins, hini⟩ := hN
  have hKn := fp_kn K0 hW hq
  obtain ⟨ty0, hty, hdv⟩ := fp_dft c q hq
  refine W.newcK C.1 C.2.1 C.2.2.2.1 (fp_word K0 hW hcl rfl) (fp_word K0 hW hins rfl) (fp_word K0 hW hini rfl) rfl hd hcr hsr hKn.2.1 hR.1 fun H1 kC hkC e1 z1 o1 => ?_
  have hc : fp_cell G n (M n) H1 := by
    unfold fp_cell
    rw [hk, if_pos rfl, hz]
    refine ⟨q, hq, t_OB.to (u_born ty0 (fp_cw (args := args) K0 hW hq) (fun _ h => h) hKn hkC e1 hty) (fun j hj => ?_)⟩
    show defaultValue (ty0 j) = fp_fv (fp_b G) (fp_fty c j) 0
    rw [fp_dv_fv, hdv j hj]
  exact kk p e s m args below meth c0 H1 locs ls C (hR.grow z1 o1 hc) hL hl
theorem SP.objInit {idx a : Nat} (hd : decode Y.2.1 pc = .ok (.invokespecial idx, 3)) (hp : pc + 3 = pc') (hlk : Cond.methodLink Y.1.cls idx Lib.objectInit ∈ lw_tbl) (hd1 : 1 ≤ d) (hst : (st.map fun v => v.category).sum ≤ 8)
    (kk : fp_SP l G d n cs ss mc ms nf Y pc' LL st M Q) : fp_SP l G d n cs ss mc ms nf Y pc LL (.ref a :: st) M Q := by
  subst hp
  intro p e s m args below meth c0 H locs ls C hR hL hl
  have K0 := C.2.2.2.2.2.2.2.1
  have hW := C.2.2.2.2.2.2.2.2
  have hls : ls.size = Y.2.2.1 := by obtain ⟨lv, h, -⟩ := hl; exact h.1
  refine W.objInit C.1 C.2.1 C.2.2.2.1 (fp_word K0 hW hlk rfl) (fp_word K0 hW (w := .instanceMethod Lib.objectInit) (List.mem_of_getElem? (i := 104) (by decide +kernel)) rfl) (fp_word K0 hW (w := .code Lib.objectInit ⟨#[0xb1]⟩ 1 none) (List.mem_of_getElem? (i := 105) (by decide +kernel)) rfl) rfl (by rw [C.2.2.1]; exact hls) rfl hd hd1 ?_ (kk p e s m args below meth c0 H locs ls C hR hL hl)
  show 2 * 0 + (st.map fun v => v.category).sum + 12 ≤ 40 * d
  omega
theorem SP.newI {z : Int} {N : Nat} (hd : decode Y.2.1 pc = .ok (.newarray .int, 2)) (hp : pc + 2 = pc') (hk : fp_lay n = (1, N)) (hz : M n = fun _ => 0) (hzN : z = N) (hcr : cs + 1 ≤ mc) (hsr : ss + N ≤ ms)
    (kk : fp_SP l G d (n + 1) (cs + 1) (ss + N) mc ms nf Y pc' LL (rV G n :: st) M Q) : fp_SP l G d n cs ss mc ms nf Y pc LL (iV z :: st) M Q := by
  subst hp
  subst hzN
  intro p e s m args below meth c0 H locs ls C hR hL hl
  have K0 := C.2.2.2.2.2.2.2.1
  have hW := C.2.2.2.2.2.2.2.2
  have hle : N ≤ 729 := by have := fp_lay_le n; rw [hk] at this; exact this
  have hA := (fp_arr K0 hW (t := 1) (ty := .int) rfl).2
  refine va_newaK (atype := .int) C.1 C.2.1 (fp_word K0 hW (w := .arrayClass .int) (List.mem_of_getElem? (i := 155) (by decide +kernel)) rfl) rfl hd rfl (n := Int32.ofInt (N : Int)) (N := N) ?_ ?_ ?_ hcr hsr hR.1 fun H1 cA e1 z1 o1 hAr hNm => ?_
  · intro h
    have : Int32.ofInt (N : Int) < Int32.ofInt 0 := h
    rw [fp_lt ⟨by omega, by omega⟩ fp_rng0] at this
    omega
  · rw [fp_clamp (by omega) (by omega)]; rfl
  · show N * 4 ≤ 536870912
    omega
  have hcA : cA = G.2.2.2.2.1 1 := by
    have h2 : s.vm.findClass ("[" ++ (FieldType.int).toString) = some (G.2.2.2.2.1 1) := hA
    exact Option.some.inj (hNm.symm.trans h2)
  subst hcA
  have hc : fp_cell G n (M n) H1 := by
    refine fp_arrSet hk (by decide) ?_
    rw [hz]
    exact e1
  exact kk p e s m args below meth c0 H1 locs ls C (hR.grow z1 o1 hc) hL hl
theorem SP.newB {z : Int} {N : Nat} (hd : decode Y.2.1 pc = .ok (.newarray .byte, 2)) (hp : pc + 2 = pc') (hk : fp_lay n = (2, N)) (hz : M n = fun _ => 0) (hzN : z = N) (hcr : cs + 1 ≤ mc) (hsr : ss + N ≤ ms)
    (kk : fp_SP l G d (n + 1) (cs + 1) (ss + N) mc ms nf Y pc' LL (rV G n :: st) M Q) : fp_SP l G d n cs ss mc ms nf Y pc LL (iV z :: st) M Q := by
  subst hp
  subst hzN
  intro p e s m args below meth c0 H locs ls C hR hL hl
  have K0 := C.2.2.2.2.2.2.2.1
  have hW := C.2.2.2.2.2.2.2.2
  have hle : N ≤ 729 := by have := fp_lay_le n; rw [hk] at this; exact this
  have hA := (fp_arr K0 hW (t := 2) (ty := .byte) rfl).2
  refine va_newaK (atype := .byte) C.1 C.2.1 (fp_word K0 hW (w := .arrayClass .byte) (List.mem_of_getElem? (i := 154) (by decide +kernel)) rfl) rfl hd rfl (n := Int32.ofInt (N : Int)) (N := N) ?_ ?_ ?_ hcr hsr hR.1 fun H1 cA e1 z1 o1 hAr hNm => ?_
  · intro h
    have : Int32.ofInt (N : Int) < Int32.ofInt 0 := h
    rw [fp_lt ⟨by omega, by omega⟩ fp_rng0] at this
    omega
  · rw [fp_clamp (by omega) (by omega)]; rfl
  · show N * 1 ≤ 536870912
    omega
  have hcA : cA = G.2.2.2.2.1 2 := by
    have h2 : s.vm.findClass ("[" ++ (FieldType.byte).toString) = some (G.2.2.2.2.1 2) := hA
    exact Option.some.inj (hNm.symm.trans h2)
  subst hcA
  have hc : fp_cell G n (M n) H1 := by
    refine fp_arrSet hk (by decide) ?_
    rw [hz]
    exact e1
  exact kk p e s m args below meth c0 H1 locs ls C (hR.grow z1 o1 hc) hL hl
theorem SP.newZ {z : Int} {N : Nat} (hd : decode Y.2.1 pc = .ok (.newarray .boolean, 2)) (hp : pc + 2 = pc') (hk : fp_lay n = (3, N)) (hz : M n = fun _ => 0) (hzN : z = N) (hcr : cs + 1 ≤ mc) (hsr : ss + N ≤ ms)
    (kk : fp_SP l G d (n + 1) (cs + 1) (ss + N) mc ms nf Y pc' LL (rV G n :: st) M Q) : fp_SP l G d n cs ss mc ms nf Y pc LL (iV z :: st) M Q := by
  subst hp
  subst hzN
  intro p e s m args below meth c0 H locs ls C hR hL hl
  have K0 := C.2.2.2.2.2.2.2.1
  have hW := C.2.2.2.2.2.2.2.2
  have hle : N ≤ 729 := by have := fp_lay_le n; rw [hk] at this; exact this
  have hA := (fp_arr K0 hW (t := 3) (ty := .boolean) rfl).2
  refine va_newaK (atype := .boolean) C.1 C.2.1 (fp_word K0 hW (w := .arrayClass .boolean) (List.mem_of_getElem? (i := 323) (by decide +kernel)) rfl) rfl hd rfl (n := Int32.ofInt (N : Int)) (N := N) ?_ ?_ ?_ hcr hsr hR.1 fun H1 cA e1 z1 o1 hAr hNm => ?_
  · intro h
    have : Int32.ofInt (N : Int) < Int32.ofInt 0 := h
    rw [fp_lt ⟨by omega, by omega⟩ fp_rng0] at this
    omega
  · rw [fp_clamp (by omega) (by omega)]; rfl
  · show N * 1 ≤ 536870912
    omega
  have hcA : cA = G.2.2.2.2.1 3 := by
    have h2 : s.vm.findClass ("[" ++ (FieldType.boolean).toString) = some (G.2.2.2.2.1 3) := hA
    exact Option.some.inj (hNm.symm.trans h2)
  subst hcA
  have hc : fp_cell G n (M n) H1 := by
    refine fp_arrSet hk (by decide) ?_
    rw [hz]
    exact e1
  exact kk p e s m args below meth c0 H1 locs ls C (hR.grow z1 o1 hc) hL hl
theorem SP.newJ {z : Int} {N : Nat} (hd : decode Y.2.1 pc = .ok (.newarray .long, 2)) (hp : pc + 2 = pc') (hk : fp_lay n = (4, N)) (hz : M n = fun _ => 0) (hzN : z = N) (hcr : cs + 1 ≤ mc) (hsr : ss + N ≤ ms)
    (kk : fp_SP l G d (n + 1) (cs + 1) (ss + N) mc ms nf Y pc' LL (rV G n :: st) M Q) : fp_SP l G d n cs ss mc ms nf Y pc LL (iV z :: st) M Q := by
  subst hp
  subst hzN
  intro p e s m args below meth c0 H locs ls C hR hL hl
  have K0 := C.2.2.2.2.2.2.2.1
  have hW := C.2.2.2.2.2.2.2.2
  have hle : N ≤ 729 := by have := fp_lay_le n; rw [hk] at this; exact this
  have hA := (fp_arr K0 hW (t := 4) (ty := .long) rfl).2
  refine va_newaK (atype := .long) C.1 C.2.1 (fp_word K0 hW (w := .arrayClass .long) (List.mem_of_getElem? (i := 324) (by decide +kernel)) rfl) rfl hd rfl (n := Int32.ofInt (N : Int)) (N := N) ?_ ?_ ?_ hcr hsr hR.1 fun H1 cA e1 z1 o1 hAr hNm => ?_
  · intro h
    have : Int32.ofInt (N : Int) < Int32.ofInt 0 := h
    rw [fp_lt ⟨by omega, by omega⟩ fp_rng0] at this
    omega
  · rw [fp_clamp (by omega) (by omega)]; rfl
  · show N * 8 ≤ 536870912
    omega
  have hcA : cA = G.2.2.2.2.1 4 := by
    have h2 : s.vm.findClass ("[" ++ (FieldType.long).toString) = some (G.2.2.2.2.1 4) := hA
    exact Option.some.inj (hNm.symm.trans h2)
  subst hcA
  have hc : fp_cell G n (M n) H1 := by
    refine fp_arrSet hk (by decide) ?_
    rw [hz]
    exact e1
  exact kk p e s m args below meth c0 H1 locs ls C (hR.grow z1 o1 hc) hL hl
theorem SP.anewP {z : Int} {idx N : Nat} (hd : decode Y.2.1 pc = .ok (.anewarray idx, 3)) (hp : pc + 3 = pc') (hcl : Cond.classLink Y.1.cls idx RX5 ∈ lw_tbl) (hk : fp_lay n = (5, N)) (hz : M n = fun _ => 0) (hzN : z = N) (hcr : cs + 1 ≤ mc) (hsr : ss + N ≤ ms)
    (kk : fp_SP l G d (n + 1) (cs + 1) (ss + N) mc ms nf Y pc' LL (rV G n :: st) M Q) : fp_SP l G d n cs ss mc ms nf Y pc LL (iV z :: st) M Q := by
  subst hp
  subst hzN
  intro p e s m args below meth c0 H locs ls C hR hL hl
  have K0 := C.2.2.2.2.2.2.2.1
  have hW := C.2.2.2.2.2.2.2.2
  have hle : N ≤ 729 := by have := fp_lay_le n; rw [hk] at this; exact this
  have hA := (fp_arr K0 hW (t := 5) (ty := .object RX5) rfl).2
  obtain ⟨kB, compB, g1, g2, g3, g4⟩ := hA
  have hcl2 : (Int32.ofInt (N : Int)).toNatClampNeg = N := by rw [fp_clamp (by omega) (by omega)]; rfl
  refine W.anew C.1 C.2.1 C.2.2.2.1 (fp_word K0 hW hcl rfl) (va_AO.use ((va_AO.of (K0.1 (.arrayOver (.object RX5)) (List.mem_of_getElem? (i := 296) (by decide +kernel)))).moved hW.alike)) rfl hd rfl ?_ ?_ hcr ?_ fun cA kA comp f1 f2 f3 f4 => ?_
  · intro h
    have : Int32.ofInt (N : Int) < Int32.ofInt 0 := h
    rw [fp_lt ⟨by omega, by omega⟩ fp_rng0] at this
    omega
  · rw [hcl2]; omega
  · rw [hcl2]; exact hsr
  rw [hcl2]
  have hcA : cA = G.2.2.2.2.1 5 := Option.some.inj (f1.symm.trans g4)
  subst hcA
  generalize hH1 : H.push ({ cls := G.2.2.2.2.1 5, slots := Array.replicate N .null, vm := .none } : Cell) = H1
  have z1 : H1.size = fp_b G + n + 1 := by rw [← hH1, Array.size_push, hR.1]
  have e1 : H1[fp_b G + n]? = some (arrV (G.2.2.2.2.1 5) N (fun _ => .null)) := by rw [← hH1, ← hR.1, Array.getElem?_push_size, ← arrV_new]
  have o1 : ∀ q : Nat, q < fp_b G + n → H1[q]? = H[q]? := fun q hq => by rw [← hH1, Array.getElem?_push, if_neg (by rw [hR.1]; omega)]
  have hc : fp_cell G n (M n) H1 := by
    refine fp_arrSet hk (by decide) ?_
    rw [hz]
    exact e1
  rw [hR.1]
  exact kk p e s m args below meth c0 H1 locs ls C (hR.grow z1 o1 hc) hL hl
theorem SP.anewI {z : Int} {idx N : Nat} (hd : decode Y.2.1 pc = .ok (.anewarray idx, 3)) (hp : pc + 3 = pc') (hcl : Cond.classLink Y.1.cls idx RX2 ∈ lw_tbl) (hk : fp_lay n = (6, N)) (hz : M n = fun _ => 0) (hzN : z = N) (hcr : cs + 1 ≤ mc) (hsr : ss + N ≤ ms)
    (kk : fp_SP l G d (n + 1) (cs + 1) (ss + N) mc ms nf Y pc' LL (rV G n :: st) M Q) : fp_SP l G d n cs ss mc ms nf Y pc LL (iV z :: st) M Q := by
  subst hp
  subst hzN
  intro p e s m args below meth c0 H locs ls C hR hL hl
  have K0 := C.2.2.2.2.2.2.2.1
  have hW := C.2.2.2.2.2.2.2.2
  have hle : N ≤ 729 := by have := fp_lay_le n; rw [hk] at this; exact this
  have hA := (fp_arr K0 hW (t := 6) (ty := .object RX2) rfl).2
  obtain ⟨kB, compB, g1, g2, g3, g4⟩ := hA
  have hcl2 : (Int32.ofInt (N : Int)).toNatClampNeg = N := by rw [fp_clamp (by omega) (by omega)]; rfl
  refine W.anew C.1 C.2.1 C.2.2.2.1 (fp_word K0 hW hcl rfl) (va_AO.use ((va_AO.of (K0.1 (.arrayOver (.object RX2)) (List.mem_of_getElem? (i := 401) (by decide +kernel)))).moved hW.alike)) rfl hd rfl ?_ ?_ hcr ?_ fun cA kA comp f1 f2 f3 f4 => ?_
  · intro h
    have : Int32.ofInt (N : Int) < Int32.ofInt 0 := h
    rw [fp_lt ⟨by omega, by omega⟩ fp_rng0] at this
    omega
  · rw [hcl2]; omega
  · rw [hcl2]; exact hsr
  rw [hcl2]
  have hcA : cA = G.2.2.2.2.1 6 := Option.some.inj (f1.symm.trans g4)
  subst hcA
  generalize hH1 : H.push ({ cls := G.2.2.2.2.1 6, slots := Array.replicate N .null, vm := .none } : Cell) = H1
  have z1 : H1.size = fp_b G + n + 1 := by rw [← hH1, Array.size_push, hR.1]
  have e1 : H1[fp_b G + n]? = some (arrV (G.2.2.2.2.1 6) N (fun _ => .null)) := by rw [← hH1, ← hR.1, Array.getElem?_push_size, ← arrV_new]
  have o1 : ∀ q : Nat, q < fp_b G + n → H1[q]? = H[q]? := fun q hq => by rw [← hH1, Array.getElem?_push, if_neg (by rw [hR.1]; omega)]
  have hc : fp_cell G n (M n) H1 := by
    refine fp_arrSet hk (by decide) ?_
    rw [hz]
    exact e1
  rw [hR.1]
  exact kk p e s m args below meth c0 H1 locs ls C (hR.grow z1 o1 hc) hL hl
theorem SP.anewS {z : Int} {idx N : Nat} (hd : decode Y.2.1 pc = .ok (.anewarray idx, 3)) (hp : pc + 3 = pc') (hcl : Cond.classLink Y.1.cls idx RX9 ∈ lw_tbl) (hk : fp_lay n = (7, N)) (hz : M n = fun _ => 0) (hzN : z = N) (hcr : cs + 1 ≤ mc) (hsr : ss + N ≤ ms)
    (kk : fp_SP l G d (n + 1) (cs + 1) (ss + N) mc ms nf Y pc' LL (rV G n :: st) M Q) : fp_SP l G d n cs ss mc ms nf Y pc LL (iV z :: st) M Q := by
  subst hp
  subst hzN
  intro p e s m args below meth c0 H locs ls C hR hL hl
  have K0 := C.2.2.2.2.2.2.2.1
  have hW := C.2.2.2.2.2.2.2.2
  have hle : N ≤ 729 := by have := fp_lay_le n; rw [hk] at this; exact this
  have hA := (fp_arr K0 hW (t := 7) (ty := .object RX9) rfl).2
  obtain ⟨kB, compB, g1, g2, g3, g4⟩ := hA
  have hcl2 : (Int32.ofInt (N : Int)).toNatClampNeg = N := by rw [fp_clamp (by omega) (by omega)]; rfl
  refine W.anew C.1 C.2.1 C.2.2.2.1 (fp_word K0 hW hcl rfl) (va_AO.use ((va_AO.of (K0.1 (.arrayOver (.object RX9)) (List.mem_of_getElem? (i := 403) (by decide +kernel)))).moved hW.alike)) rfl hd rfl ?_ ?_ hcr ?_ fun cA kA comp f1 f2 f3 f4 => ?_
  · intro h
    have : Int32.ofInt (N : Int) < Int32.ofInt 0 := h
    rw [fp_lt ⟨by omega, by omega⟩ fp_rng0] at this
    omega
  · rw [hcl2]; omega
  · rw [hcl2]; exact hsr
  rw [hcl2]
  have hcA : cA = G.2.2.2.2.1 7 := Option.some.inj (f1.symm.trans g4)
  subst hcA
  generalize hH1 : H.push ({ cls := G.2.2.2.2.1 7, slots := Array.replicate N .null, vm := .none } : Cell) = H1
  have z1 : H1.size = fp_b G + n + 1 := by rw [← hH1, Array.size_push, hR.1]
  have e1 : H1[fp_b G + n]? = some (arrV (G.2.2.2.2.1 7) N (fun _ => .null)) := by rw [← hH1, ← hR.1, Array.getElem?_push_size, ← arrV_new]
  have o1 : ∀ q : Nat, q < fp_b G + n → H1[q]? = H[q]? := fun q hq => by rw [← hH1, Array.getElem?_push, if_neg (by rw [hR.1]; omega)]
  have hc : fp_cell G n (M n) H1 := by
    refine fp_arrSet hk (by decide) ?_
    rw [hz]
    exact e1
  rw [hR.1]
  exact kk p e s m args below meth c0 H1 locs ls C (hR.grow z1 o1 hc) hL hl
theorem SP.aastP {k len i t : Nat} (hd : decode Y.2.1 pc = .ok (.aastore, 1)) (hp : pc + 1 = pc') (hk : fp_lay k = (5, len)) (hn : k < n) (ht : fp_lay t = (0, 5)) (htn : t < n) (h1 : i < len) (kk : fp_SP l G d n cs ss mc ms nf Y pc' LL st (fp_up M k i ((t : Int) + 1)) Q) : fp_SP l G d n cs ss mc ms nf Y pc LL (rV G t :: iV (i : Int) :: rV G k :: st) M Q := by
  subst hp
  intro p e s m args below meth c0 H locs ls C hR hL hl
  have K0 := C.2.2.2.2.2.2.2.1
  have hW := C.2.2.2.2.2.2.2.2
  have hle : len ≤ 729 := by have := fp_lay_le k; rw [hk] at this; exact this
  have hA := (fp_arr K0 hW (t := 5) (ty := .object RX5) rfl).2
  obtain ⟨kA, comp, k1, k2, k3, k4⟩ := hA
  obtain ⟨q, hq, cellV, g1, g2, g3, -⟩ := fp_obj hR htn ht
  have hKn := fp_kn K0 hW hq
  have hcls := hKn.2
  have hcomp : comp = G.2.2.1 5 := by
    cases hq
    exact Option.some.inj (k3.symm.trans hcls.1)
  subst hcomp
  obtain ⟨kC, hkC, -⟩ := hcls.2
  have hc : H[fp_b G + k]? = some (arrV (G.2.2.2.2.1 5) len (fun j => va_rf (fp_ro (fp_b G) (M k j)))) := fp_arrAt hR hn hk (by decide)
  have hcl : (Int32.ofInt (i : Int)).toNatClampNeg = i := by rw [fp_clamp (by omega) (by omega)]; rfl
  have h0 : ¬ Int32.ofInt (i : Int) < 0 := by
    intro h
    have : Int32.ofInt (i : Int) < Int32.ofInt 0 := h
    rw [fp_lt ⟨by omega, by omega⟩ fp_rng0] at this
    omega
  refine W.aast C.1 C.2.1 hc (fun q h => by cases h) (fun h => by cases h) k1 k2 rfl hkC ⟨h0, by rw [arrV_size, hcl]; exact h1⟩ g1 (fun q h => by rw [g3] at h; cases h) (by rw [g2]; exact hkC) (by rw [g2]; exact va_assign hcls) rfl rfl hd fun H1 e1 z1 oq => ?_
  refine kk p e s m args below meth c0 H1 _ ls C (hR.set hn z1 oq (fp_arrSet hk (by decide) ?_)) ?_ hl
  · rw [e1, hcl, arrV_store]
    show _ = some (arrV (G.2.2.2.2.1 5) len (fun j => va_rf (fp_ro (fp_b G) (fp_upf (M k) i ((t : Int) + 1) j))))
    congr 2
    funext j
    unfold updV fp_upf
    by_cases e : j = i
    · subst e
      simp [fp_ro_ref]
    · simp [e]
  · intro y hy
    rcases List.mem_append.mp hy with h | h
    · exact hL y h
    · simp only [List.mem_singleton] at h
      rw [h]; exact Nat.le_add_right _ _
theorem SP.aastI {k len i t : Nat} (hd : decode Y.2.1 pc = .ok (.aastore, 1)) (hp : pc + 1 = pc') (hk : fp_lay k = (6, len)) (hn : k < n) (ht : fp_lay t = (0, 2)) (htn : t < n) (h1 : i < len) (kk : fp_SP l G d n cs ss mc ms nf Y pc' LL st (fp_up M k i ((t : Int) + 1)) Q) : fp_SP l G d n cs ss mc ms nf Y pc LL (rV G t :: iV (i : Int) :: rV G k :: st) M Q := by
  subst hp
  intro p e s m args below meth c0 H locs ls C hR hL hl
  have K0 := C.2.2.2.2.2.2.2.1
  have hW := C.2.2.2.2.2.2.2.2
  have hle : len ≤ 729 := by have := fp_lay_le k; rw [hk] at this; exact this
  have hA := (fp_arr K0 hW (t := 6) (ty := .object RX2) rfl).2
  obtain ⟨kA, comp, k1, k2, k3, k4⟩ := hA
  obtain ⟨q, hq, cellV, g1, g2, g3, -⟩ := fp_obj hR htn ht
  have hKn := fp_kn K0 hW hq
  have hcls := hKn.2
  have hcomp : comp = G.2.2.1 2 := by
    cases hq
    exact Option.some.inj (k3.symm.trans hcls.1)
  subst hcomp
  obtain ⟨kC, hkC, -⟩ := hcls.2
  have hc : H[fp_b G + k]? = some (arrV (G.2.2.2.2.1 6) len (fun j => va_rf (fp_ro (fp_b G) (M k j)))) := fp_arrAt hR hn hk (by decide)
  have hcl : (Int32.ofInt (i : Int)).toNatClampNeg = i := by rw [fp_clamp (by omega) (by omega)]; rfl
  have h0 : ¬ Int32.ofInt (i : Int) < 0 := by
    intro h
    have : Int32.ofInt (i : Int) < Int32.ofInt 0 := h
    rw [fp_lt ⟨by omega, by omega⟩ fp_rng0] at this
    omega
  refine W.aast C.1 C.2.1 hc (fun q h => by cases h) (fun h => by cases h) k1 k2 rfl hkC ⟨h0, by rw [arrV_size, hcl]; exact h1⟩ g1 (fun q h => by rw [g3] at h; cases h) (by rw [g2]; exact hkC) (by rw [g2]; exact va_assign hcls) rfl rfl hd fun H1 e1 z1 oq => ?_
  refine kk p e s m args below meth c0 H1 _ ls C (hR.set hn z1 oq (fp_arrSet hk (by decide) ?_)) ?_ hl
  · rw [e1, hcl, arrV_store]
    show _ = some (arrV (G.2.2.2.2.1 6) len (fun j => va_rf (fp_ro (fp_b G) (fp_upf (M k) i ((t : Int) + 1) j))))
    congr 2
    funext j
    unfold updV fp_upf
    by_cases e : j = i
    · subst e
      simp [fp_ro_ref]
    · simp [e]
  · intro y hy
    rcases List.mem_append.mp hy with h | h
    · exact hL y h
    · simp only [List.mem_singleton] at h
      rw [h]; exact Nat.le_add_right _ _
theorem SP.aastS {k len i t : Nat} (hd : decode Y.2.1 pc = .ok (.aastore, 1)) (hp : pc + 1 = pc') (hk : fp_lay k = (7, len)) (hn : k < n) (ht : fp_lay t = (0, 9)) (htn : t < n) (h1 : i < len) (kk : fp_SP l G d n cs ss mc ms nf Y pc' LL st (fp_up M k i ((t : Int) + 1)) Q) : fp_SP l G d n cs ss mc ms nf Y pc LL (rV G t :: iV (i : Int) :: rV G k :: st) M Q := by
  subst hp
  intro p e s m args below meth c0 H locs ls C hR hL hl
  have K0 := C.2.2.2.2.2.2.2.1
  have hW := C.2.2.2.2.2.2.2.2
  have hle : len ≤ 729 := by have := fp_lay_le k; rw [hk] at this; exact this
  have hA := (fp_arr K0 hW (t := 7) (ty := .object RX9) rfl).2
  obtain ⟨kA, comp, k1, k2, k3, k4⟩ := hA
  obtain ⟨q, hq, cellV, g1, g2, g3, -⟩ := fp_obj hR htn ht
  have hKn := fp_kn K0 hW hq
  have hcls := hKn.2
  have hcomp : comp = G.2.2.1 9 := by
    cases hq
    exact Option.some.inj (k3.symm.trans hcls.1)
  subst hcomp
  obtain ⟨kC, hkC, -⟩ := hcls.2
  have hc : H[fp_b G + k]? = some (arrV (G.2.2.2.2.1 7) len (fun j => va_rf (fp_ro (fp_b G) (M k j)))) := fp_arrAt hR hn hk (by decide)
  have hcl : (Int32.ofInt (i : Int)).toNatClampNeg = i := by rw [fp_clamp (by omega) (by omega)]; rfl
  have h0 : ¬ Int32.ofInt (i : Int) < 0 := by
    intro h
    have : Int32.ofInt (i : Int) < Int32.ofInt 0 := h
    rw [fp_lt ⟨by omega, by omega⟩ fp_rng0] at this
    omega
  refine W.aast C.1 C.2.1 hc (fun q h => by cases h) (fun h => by cases h) k1 k2 rfl hkC ⟨h0, by rw [arrV_size, hcl]; exact h1⟩ g1 (fun q h => by rw [g3] at h; cases h) (by rw [g2]; exact hkC) (by rw [g2]; exact va_assign hcls) rfl rfl hd fun H1 e1 z1 oq => ?_
  refine kk p e s m args below meth c0 H1 _ ls C (hR.set hn z1 oq (fp_arrSet hk (by decide) ?_)) ?_ hl
  · rw [e1, hcl, arrV_store]
    show _ = some (arrV (G.2.2.2.2.1 7) len (fun j => va_rf (fp_ro (fp_b G) (fp_upf (M k) i ((t : Int) + 1) j))))
    congr 2
    funext j
    unfold updV fp_upf
    by_cases e : j = i
    · subst e
      simp [fp_ro_ref]
    · simp [e]
  · intro y hy
    rcases List.mem_append.mp hy with h | h
    · exact hL y h
    · simp only [List.mem_singleton] at h
      rw [h]; exact Nat.le_add_right _ _
theorem mm_ref (b a j : Nat) : (if j < 7 then Value.ref (b + a + 1 + j) else .null) = va_rf (fp_ro b (if j < 7 then ((a + 1 + j : Nat) : Int) + 1 else 0)) := by
  by_cases hj : j < 7
  · rw [if_pos hj, if_pos hj]
    have h := fp_ro_ref (b := b) (t := a + 1 + j)
    rw [h]
    have e : b + a + 1 + j = b + (a + 1 + j) := by omega
    exact congrArg Value.ref e
  · rw [if_neg hj, if_neg hj]
    rfl
theorem SP.newM {idx : Nat} (hd : decode Y.2.1 pc = .ok (.multianewarray idx 2, 4)) (hp : pc + 4 = pc') (hcl : Cond.classLink Y.1.cls idx "[[I" ∈ lw_tbl) (hk : fp_lay n = (8, 7)) (hk1 : ∀ i, i < 7 → fp_lay (n + 1 + i) = (1, 8)) (hz : ∀ i, i < 8 → M (n + i) = fun _ => 0) (hcr : cs + 8 ≤ mc) (hsr : ss + 63 ≤ ms)
    (kk : fp_SP l G d (n + 8) (cs + 8) (ss + 63) mc ms nf Y pc' LL (rV G n :: st) (fp_upM M n (fun j => if j < 7 then ((n + 1 + j : Nat) : Int) + 1 else 0)) Q) : fp_SP l G d n cs ss mc ms nf Y pc LL (iV 8 :: iV 7 :: st) M Q := by
  subst hp
  intro p e s m args below meth c0 H locs ls C hR hL hl
  have K0 := C.2.2.2.2.2.2.2.1
  have hW := C.2.2.2.2.2.2.2.2
  have hA8 := (fp_arr K0 hW (t := 8) (ty := .array .int) rfl).2
  have hA1 := (fp_arr K0 hW (t := 1) (ty := .int) rfl).2
  intro T hT X
  obtain ⟨cI, cA, k0, o1, o2, o3, o4⟩ := mm_over (K0.1 (.arrayOver (.array .int)) (List.mem_of_getElem? (i := 332) (by decide +kernel)))
  obtain ⟨k9, o2', e9⟩ := hW.alike.2.2 _ _ o2
  have f1 : s.vm.findClass ("[" ++ (FieldType.array .int).toString) = some cA := by rw [hW.alike.findClass]; exact o4
  have f2 : s.vm.findClass (FieldType.array .int).toString = some cI := by rw [hW.alike.findClass]; exact o1
  obtain ⟨vm1, hw, X', stp⟩ := mm_step (ls := ls) (rest := st) X C.1 C.2.2.2.1 (fp_word K0 hW hcl rfl) f2 o2' (by rw [e9]; exact o3) f1 (fp_word K0 hW (w := .arrayClass .int) (List.mem_of_getElem? (i := 155) (by decide +kernel)) rfl) (by rw [C.2.1]; exact hd) hcr hsr
  have hcA : cA = G.2.2.2.2.1 8 := by
    have h2 : s.vm.findClass ("[" ++ (FieldType.array .int).toString) = some (G.2.2.2.2.1 8) := hA8
    exact Option.some.inj (f1.symm.trans h2)
  have hcI : cI = G.2.2.2.2.1 1 := by
    have h2 : s.vm.findClass ("[" ++ (FieldType.int).toString) = some (G.2.2.2.2.1 1) := hA1
    exact Option.some.inj (f2.symm.trans h2)
  subst hcA
  subst hcI
  have hTs : (T.setVm vm1).heap = H := hT
  have hsz : (T.setVm vm1).heap.size = fp_b G + n := by rw [hTs]; exact hR.1
  obtain ⟨hF1, hF2, -, -, hOld, hIn⟩ := mmS_of (T.setVm vm1) (G.2.2.2.2.1 8) (G.2.2.2.2.1 1) 7
  rw [hsz] at hF1 hF2 hOld hIn
  have hrep : fp_Rep G (n + 8) (fp_upM M n (fun j => if j < 7 then ((n + 1 + j : Nat) : Int) + 1 else 0)) (mmS (T.setVm vm1) (G.2.2.2.2.1 8) (G.2.2.2.2.1 1) 7).heap := by
    refine ⟨by rw [hF1]; omega, fun a ha => ?_, fun q hq => ?_⟩
    · by_cases h1 : a < n
      · have : fp_upM M n (fun j => if j < 7 then ((n + 1 + j : Nat) : Int) + 1 else 0) a = M a := by simp [fp_upM, show a ≠ n by omega]
        rw [this]
        refine fp_cell_kept (hR.2.1 a h1) ?_
        rw [hOld _ (by omega), hTs]
      · by_cases h2 : a = n
        · subst h2
          have : fp_upM M a (fun j => if j < 7 then ((a + 1 + j : Nat) : Int) + 1 else 0) a = (fun j => if j < 7 then ((a + 1 + j : Nat) : Int) + 1 else 0) := by simp [fp_upM]
          rw [this]
          refine fp_arrSet hk (by decide) ?_
          rw [hF2]
          have hmm : ∀ f : Nat → Int, vp_cell (G.2.2.2.2.1 8) (fp_arrc (fp_b G) 8 7 f) = arrV (G.2.2.2.2.1 8) 7 (fun j => va_rf (fp_ro (fp_b G) (f j))) := fun f => rfl
          rw [hmm]
          unfold mmO
          exact congrArg some (congrArg (arrV (G.2.2.2.2.1 8) 7) (funext fun j => mm_ref (fp_b G) a j))
        · obtain ⟨i, rfl⟩ : ∃ i, a = n + 1 + i := ⟨a - n - 1, by omega⟩
          have hi : i < 7 := by omega
          have : fp_upM M n (fun j => if j < 7 then ((n + 1 + j : Nat) : Int) + 1 else 0) (n + 1 + i) = (fun _ => 0) := by
            rw [← hz (1 + i) (by omega)]
            simp [fp_upM, show n + 1 + i ≠ n by omega, Nat.add_assoc]
          rw [this]
          refine fp_arrSet (hk1 i hi) (by decide) ?_
          rw [← Nat.add_assoc, ← Nat.add_assoc, hIn i hi]
          have hmm : ∀ f : Nat → Int, vp_cell (G.2.2.2.2.1 1) (fp_arrc (fp_b G) 1 8 f) = arrV (G.2.2.2.2.1 1) 8 (fun j => .int (Int32.ofInt (f j))) := fun f => rfl
          rw [hmm]
          unfold mmI
          exact congrArg some (congrArg (arrV (G.2.2.2.2.1 1) 8) (funext fun _ => rfl))
    · rw [hOld q (by omega), hTs]
      exact hR.2.2 q hq
  obtain ⟨t2, a1, b1⟩ := kk p e s m args below meth c0 _ _ ls C hrep (by
    intro y hy
    rcases List.mem_append.mp hy with h | h
    · exact hL y h
    · obtain ⟨j, -, rfl⟩ := List.mem_map.mp h
      show fp_b G ≤ T.heap.size
      rw [hT, hR.1]; omega) hl _ rfl X'
  refine ⟨t2, stp t2 ?_, b1⟩
  have e9 : Value.ref T.heap.size = rV G n := by rw [hT, hR.1]
  rw [e9]
  exact a1
end NWR
end
section
/-! BY PROGRAM (tools/mkctor.py): what each cell holds when both objects are made; the rows of the construction -/
def fp_iniL : List (List Int) := [[2, 0, 3, 19, 23, 28, 33, 35, 122, 134, 137, 142, 143], [], [4, 8, 13, 0, 0, 18], [0, 0, 10, 5, 6, 7], [], [], [], [9, 10, 11, 12], [-4, -4, -4, -4, -4, -4, -4, -4, -4, -4], [-4, -4, -4, -4, -4, -4, -4, -4, -4, -4], [], [], [0, 14, 15, 16, 17], [], [], [], [], [], [0, 0, 10, 20, 21, 22], [], [], [], [24, 25, 26, 27], [-4, -4, -4, -4, -4, -4, -4, -4, -4, -4], [-4, -4, -4, -4, -4, -4, -4, -4, -4, -4], [], [], [0, 29, 30, 31, 32], [], [], [], [], [0, 34], [], [36, 37, 38, 0, 39, 40, 41], [42, 47, 52, 57, 62, 67, 72, 77, 82, 87, 92, 97, 102], [107, 112, 117], [], [], [], [], [43, 44, 45, 46], [-4, -4, -4, -4, -4, -4, -4, -4, -4, -4], [-4, -4, -4, -4, -4, -4, -4, -4, -4, -4], [], [], [48, 49, 50, 51], [-4, -4, -4, -4, -4, -4, -4, -4, -4, -4], [-4, -4, -4, -4, -4, -4, -4, -4, -4, -4], [], [], [53, 54, 55, 56], [-4, -4, -4, -4, -4, -4, -4, -4, -4, -4], [-4, -4, -4, -4, -4, -4, -4, -4, -4, -4], [], [], [58, 59, 60, 61], [-4, -4, -4, -4, -4, -4, -4, -4, -4, -4], [-4, -4, -4, -4, -4, -4, -4, -4, -4, -4], [], [], [63, 64, 65, 66], [-4, -4, -4, -4, -4, -4, -4, -4, -4, -4], [-4, -4, -4, -4, -4, -4, -4, -4, -4, -4], [], [], [68, 69, 70, 71], [-4, -4, -4, -4, -4, -4, -4, -4, -4, -4], [-4, -4, -4, -4, -4, -4, -4, -4, -4, -4], [], [], [73, 74, 75, 76], [-4, -4, -4, -4, -4, -4, -4, -4, -4, -4], [-4, -4, -4, -4, -4, -4, -4, -4, -4, -4], [], [], [78, 79, 80, 81], [-4, -4, -4, -4, -4, -4, -4, -4, -4, -4], [-4, -4, -4, -4, -4, -4, -4, -4, -4, -4], [], [], [83, 84, 85, 86], [-4, -4, -4, -4, -4, -4, -4, -4, -4, -4], [-4, -4, -4, -4, -4, -4, -4, -4, -4, -4], [], [], [88, 89, 90, 91], [-4, -4, -4, -4, -4, -4, -4, -4, -4, -4], [-4, -4, -4, -4, -4, -4, -4, -4, -4, -4], [], [], [93, 94, 95, 96], [-4, -4, -4, -4, -4, -4, -4, -4, -4, -4], [-4, -4, -4, -4, -4, -4, -4, -4, -4, -4], [], [], [98, 99, 100, 101], [-4, -4, -4, -4, -4, -4, -4, -4, -4, -4], [-4, -4, -4, -4, -4, -4, -4, -4, -4, -4], [], [], [103, 104, 105, 106], [-4, -4, -4, -4, -4, -4, -4, -4, -4, -4], [-4, -4, -4, -4, -4, -4, -4, -4, -4, -4], [], [], [108, 109, 110, 111], [-4, -4, -4, -4, -4, -4, -4, -4, -4, -4], [-4, -4, -4, -4, -4, -4, -4, -4, -4, -4], [], [], [113, 114, 115, 116], [-4, -4, -4, -4, -4, -4, -4, -4, -4, -4], [-4, -4, -4, -4, -4, -4, -4, -4, -4, -4], [], [], [118, 119, 120, 121], [-4, -4, -4, -4, -4, -4, -4, -4, -4, -4], [-4, -4, -4, -4, -4, -4, -4, -4, -4, -4], [], [], [0, 0, 123, 124, 125, 133], [], [], [126, 127, 128, 129, 130, 131, 132], [], [], [], [], [], [], [], [], [0, 0, 135, 0, 136], [], [], [138, 139, 140, 141], [], [], [], [], [144, 157], [170, 172, 174, 176], [0, 145, 150, 155], [146, 147, 148, 149], [-4, -4, -4, -4, -4, -4, -4, -4, -4, -4], [-4, -4, -4, -4, -4, -4, -4, -4, -4, -4], [], [], [0, 151, 152, 153, 154], [], [], [], [], [0, 156], [], [0, 158, 163, 168], [159, 160, 161, 162], [-4, -4, -4, -4, -4, -4, -4, -4, -4, -4], [-4, -4, -4, -4, -4, -4, -4, -4, -4, -4], [], [], [0, 164, 165, 166, 167], [], [], [], [], [0, 169], [], [0, -4, 171], [], [0, -4, 173], [], [0, -4, 175], [], [0, -4, 177], [], [179, 180, 181, 182, 0, 0, 10, 183, 184, 185, 186, 0, 0, 0, 0, 0, 0, 0, 187, 0, 0, 0, 0, 0, 0, 0, 0, 188, 189, 190, 191, 192, 193, 0, 194, 195, 196, 197, 198, 199, 200, 201, 202, 203], [], [], [], [], [], [], [], [], [], [0, 5, 9, 12, 16, 22, 28, 34, 42], [116, 104, 105, 110, 103, 108, 105, 110, 101, 112, 117, 116, 100, 114, 97, 119, 99, 104, 97, 110, 99, 101, 101, 108, 100, 101, 115, 116, 108, 97, 116, 101, 115, 116, 108, 105, 103, 104, 116, 101, 115, 116], [], [], [], [], [], [], [], [], [], [], [], [-4, -4, -4, -4], [], []]
def fp_ini (k j : Nat) : Int := (fp_iniL.getD k []).getD j 0
theorem fp_ini_of {k j : Nat} {z : Int} {R : List Int} (h : fp_iniL.getD k [] = R) (e : R.getD j 0 = z) : fp_ini k j = z := by unfold fp_ini; rw [h]; exact e
/-- the memory in which just these slots are written -/
def fp_w (L : List (Nat × Nat)) : fp_Mem := fun k j => if (k, j) ∈ L then fp_ini k j else 0
def fp_lo (L : List (Nat × Nat)) (n : Nat) : Prop := ∀ q ∈ L, q.1 < n
theorem fp_lo.mono {L : List (Nat × Nat)} {n n' : Nat} (h : fp_lo L n) (e : n ≤ n') : fp_lo L n' := fun q hq => Nat.lt_of_lt_of_le (h q hq) e
theorem fp_lo.cons {L : List (Nat × Nat)} {n k j : Nat} (h : fp_lo L n) (e : k < n) : fp_lo ((k, j) :: L) n := by
  intro q hq
  rcases List.mem_cons.mp hq with rfl | hq
  · exact e
  · exact h q hq
theorem fp_w_new {L : List (Nat × Nat)} {n k : Nat} (h : fp_lo L n) (hk : n ≤ k) : fp_w L k = fun _ => 0 := by
  funext j
  unfold fp_w
  rw [if_neg (fun q => by have : k < n := h _ q; omega)]
theorem fp_w_up {L : List (Nat × Nat)} {k j : Nat} {z : Int} (h : fp_ini k j = z) : fp_up (fp_w L) k j z = fp_w ((k, j) :: L) := by
  funext a b
  unfold fp_up fp_upM fp_upf fp_w
  by_cases ha : a = k
  · subst ha
    by_cases hb : b = j
    · subst hb
      simp [h]
    · simp [hb]
  · simp [ha]
theorem fp_w_mem {L : List (Nat × Nat)} {k j : Nat} {z : Int} (h : fp_ini k j = z) (hm : (k, j) ∈ L) : fp_w L k j = z := by
  unfold fp_w
  rw [if_pos hm]; exact h
def fp_SW (l : Launch) (G : fp_WG) (d n cs ss mc ms nf : Nat) (Y : fp_MR) (pc : Nat) (LL : List (Option Value)) (st : List Value) (L : List (Nat × Nat)) (Q : fp_Q) : Prop := fp_lo L n → fp_SP l G d n cs ss mc ms nf Y pc LL st (fp_w L) Q
def fp_OkW (l : Launch) (G : fp_WG) (d n mc ms : Nat) (Y : fp_MR) (a : List Value) (L L' : List (Nat × Nat)) : Prop := fp_lo L n → fp_Okg l G d n mc ms Y a (fp_w L) (qV fun M' => M' = fp_w L' ∧ fp_lo L' (n + mc))
theorem fp_OkW.of {l : Launch} {G : fp_WG} {d n mc ms nf r : Nat} {Y : fp_MR} {a : List Value} {L L' : List (Nat × Nat)} {LL : List (Option Value)} (hpl : plainName Y.1.cls = true) (hle : (lg_sl a).length ≤ Y.2.2.1) (hLL : fp_ent a ++ List.replicate r none = LL) (hnf : n + mc = nf) (h : fp_SW l G d n 0 0 mc ms nf Y 0 LL [] L (qV fun M' => M' = fp_w L' ∧ fp_lo L' nf)) : fp_OkW l G d n mc ms Y a L L' := by
  subst hnf
  exact fun hlo => fp_Okg.of hpl hle hLL (h hlo)
section SWR
variable {l : Launch} {G : fp_WG} {d n cs ss mc ms nf n' cs' ss' : Nat} {Y : fp_MR} {pc pc' : Nat} {LL LL' : List (Option Value)} {st : List Value} {L : List (Nat × Nat)} {Q : fp_Q}
theorem SW.s {pc2 : Nat} {LL2 : List (Option Value)} {st2 : List Value} (f : fp_SP l G d n cs ss mc ms nf Y pc2 LL2 st2 (fp_w L) Q → fp_SP l G d n cs ss mc ms nf Y pc LL st (fp_w L) Q) (kk : fp_SW l G d n cs ss mc ms nf Y pc2 LL2 st2 L Q) : fp_SW l G d n cs ss mc ms nf Y pc LL st L Q := fun h => f (kk h)
theorem SW.ret (hd : decode Y.2.1 pc = .ok (.return_, 1)) (hr : Y.2.2.2 = none) : fp_SW l G d nf mc ms mc ms nf Y pc LL [] L (qV fun M' => M' = fp_w L ∧ fp_lo L nf) := fun h => SP.vret hd hr ⟨rfl, rfl, h⟩
theorem SW.newO {idx c N : Nat} (hd : decode Y.2.1 pc = .ok (.new idx, 3)) (hp : pc + 3 = pc') (hN : fp_New Y.1.cls idx c N) (hk : fp_lay n = (0, c)) (en : n + 1 = n') (ec : cs + 1 = cs') (es : ss + N = ss') (hcr : cs' ≤ mc) (hsr : ss' ≤ ms) (kk : fp_SW l G d n' cs' ss' mc ms nf Y pc' LL (rV G n :: st) L Q) : fp_SW l G d n cs ss mc ms nf Y pc LL st L Q := by
  subst en; subst ec; subst es
  exact fun h => SP.newO hd hp hN hk (fp_w_new h (Nat.le_refl _)) hcr hsr (kk (h.mono (Nat.le_succ _)))
theorem SW.newI {z : Int} {N : Nat} (hd : decode Y.2.1 pc = .ok (.newarray .int, 2)) (hp : pc + 2 = pc') (hk : fp_lay n = (1, N)) (hzN : z = N) (en : n + 1 = n') (ec : cs + 1 = cs') (es : ss + N = ss') (hcr : cs' ≤ mc) (hsr : ss' ≤ ms) (kk : fp_SW l G d n' cs' ss' mc ms nf Y pc' LL (rV G n :: st) L Q) : fp_SW l G d n cs ss mc ms nf Y pc LL (iV z :: st) L Q := by
  subst en; subst ec; subst es
  exact fun h => SP.newI hd hp hk (fp_w_new h (Nat.le_refl _)) hzN hcr hsr (kk (h.mono (Nat.le_succ _)))
theorem SW.newB {z : Int} {N : Nat} (hd : decode Y.2.1 pc = .ok (.newarray .byte, 2)) (hp : pc + 2 = pc') (hk : fp_lay n = (2, N)) (hzN : z = N) (en : n + 1 = n') (ec : cs + 1 = cs') (es : ss + N = ss') (hcr : cs' ≤ mc) (hsr : ss' ≤ ms) (kk : fp_SW l G d n' cs' ss' mc ms nf Y pc' LL (rV G n :: st) L Q) : fp_SW l G d n cs ss mc ms nf Y pc LL (iV z :: st) L Q := by
  subst en; subst ec; subst es
  exact fun h => SP.newB hd hp hk (fp_w_new h (Nat.le_refl _)) hzN hcr hsr (kk (h.mono (Nat.le_succ _)))
theorem SW.newZ {z : Int} {N : Nat} (hd : decode Y.2.1 pc = .ok (.newarray .boolean, 2)) (hp : pc + 2 = pc') (hk : fp_lay n = (3, N)) (hzN : z = N) (en : n + 1 = n') (ec : cs + 1 = cs') (es : ss + N = ss') (hcr : cs' ≤ mc) (hsr : ss' ≤ ms) (kk : fp_SW l G d n' cs' ss' mc ms nf Y pc' LL (rV G n :: st) L Q) : fp_SW l G d n cs ss mc ms nf Y pc LL (iV z :: st) L Q := by
  subst en; subst ec; subst es
  exact fun h => SP.newZ hd hp hk (fp_w_new h (Nat.le_refl _)) hzN hcr hsr (kk (h.mono (Nat.le_succ _)))
theorem SW.newJ {z : Int} {N : Nat} (hd : decode Y.2.1 pc = .ok (.newarray .long, 2)) (hp : pc + 2 = pc') (hk : fp_lay n = (4, N)) (hzN : z = N) (en : n + 1 = n') (ec : cs + 1 = cs') (es : ss + N = ss') (hcr : cs' ≤ mc) (hsr : ss' ≤ ms) (kk : fp_SW l G d n' cs' ss' mc ms nf Y pc' LL (rV G n :: st) L Q) : fp_SW l G d n cs ss mc ms nf Y pc LL (iV z :: st) L Q := by
  subst en; subst ec; subst es
  exact fun h => SP.newJ hd hp hk (fp_w_new h (Nat.le_refl _)) hzN hcr hsr (kk (h.mono (Nat.le_succ _)))
theorem SW.anewP {z : Int} {idx N : Nat} (hd : decode Y.2.1 pc = .ok (.anewarray idx, 3)) (hp : pc + 3 = pc') (hcl : Cond.classLink Y.1.cls idx RX5 ∈ lw_tbl) (hk : fp_lay n = (5, N)) (hzN : z = N) (en : n + 1 = n') (ec : cs + 1 = cs') (es : ss + N = ss') (hcr : cs' ≤ mc) (hsr : ss' ≤ ms) (kk : fp_SW l G d n' cs' ss' mc ms nf Y pc' LL (rV G n :: st) L Q) : fp_SW l G d n cs ss mc ms nf Y pc LL (iV z :: st) L Q := by
  subst en; subst ec; subst es
  exact fun h => SP.anewP hd hp hcl hk (fp_w_new h (Nat.le_refl _)) hzN hcr hsr (kk (h.mono (Nat.le_succ _)))
theorem SW.anewI {z : Int} {idx N : Nat} (hd : decode Y.2.1 pc = .ok (.anewarray idx, 3)) (hp : pc + 3 = pc') (hcl : Cond.classLink Y.1.cls idx RX2 ∈ lw_tbl) (hk : fp_lay n = (6, N)) (hzN : z = N) (en : n + 1 = n') (ec : cs + 1 = cs') (es : ss + N = ss') (hcr : cs' ≤ mc) (hsr : ss' ≤ ms) (kk : fp_SW l G d n' cs' ss' mc ms nf Y pc' LL (rV G n :: st) L Q) : fp_SW l G d n cs ss mc ms nf Y pc LL (iV z :: st) L Q := by
  subst en; subst ec; subst es
  exact fun h => SP.anewI hd hp hcl hk (fp_w_new h (Nat.le_refl _)) hzN hcr hsr (kk (h.mono (Nat.le_succ _)))
theorem SW.anewS {z : Int} {idx N : Nat} (hd : decode Y.2.1 pc = .ok (.anewarray idx, 3)) (hp : pc + 3 = pc') (hcl : Cond.classLink Y.1.cls idx RX9 ∈ lw_tbl) (hk : fp_lay n = (7, N)) (hzN : z = N) (en : n + 1 = n') (ec : cs + 1 = cs') (es : ss + N = ss') (hcr : cs' ≤ mc) (hsr : ss' ≤ ms) (kk : fp_SW l G d n' cs' ss' mc ms nf Y pc' LL (rV G n :: st) L Q) : fp_SW l G d n cs ss mc ms nf Y pc LL (iV z :: st) L Q := by
  subst en; subst ec; subst es
  exact fun h => SP.anewS hd hp hcl hk (fp_w_new h (Nat.le_refl _)) hzN hcr hsr (kk (h.mono (Nat.le_succ _)))
theorem SW.putR {idx c j k t : Nat} {ty : FieldType} {fin : Bool} (hd : decode Y.2.1 pc = .ok (.putfield idx, 3)) (hp : pc + 3 = pc') (hf : fp_F Y.1.cls idx c j 2 ty fin) (hk : fp_lay k = (0, c)) (hn : k < n) (hin : Y.1.name = "<init>") (hown : ∀ q, vwCl[c]? = some q → (q.2.1 j).1 = Y.1.cls) (hty : (∃ x, ty = .object x) ∨ ∃ x, ty = .array x) (hv : fp_ini k j = (t : Int) + 1) (kk : fp_SW l G d n cs ss mc ms nf Y pc' LL st ((k, j) :: L) Q) : fp_SW l G d n cs ss mc ms nf Y pc LL (rV G t :: rV G k :: st) L Q := by
  intro h
  obtain ⟨hfl, ht, q, hq, hpf, hfin⟩ := hf
  refine SP.put (z := (t : Int) + 1) (fin := fin) (ty := ty) hd hp hfl hk hn ⟨q, hq, hpf, ?_⟩ ?_ ?_ ?_ ?_
  · cases fin
    · exact Or.inl hfin
    · exact Or.inr ⟨hfin, hin, hown q hq⟩
  · rw [ht]; exact fp_ro_ref
  · rcases hty with ⟨x, rfl⟩ | ⟨x, rfl⟩ <;> rfl
  · rcases hty with ⟨x, rfl⟩ | ⟨x, rfl⟩ <;> rfl
  · rw [fp_w_up hv]; exact kk (h.cons hn)
theorem SW.putI {idx c j k : Nat} {z : Int} {fin : Bool} (hd : decode Y.2.1 pc = .ok (.putfield idx, 3)) (hp : pc + 3 = pc') (hf : fp_F Y.1.cls idx c j 0 .int fin) (hk : fp_lay k = (0, c)) (hn : k < n) (hin : Y.1.name = "<init>") (hown : ∀ q, vwCl[c]? = some q → (q.2.1 j).1 = Y.1.cls) (hv : fp_ini k j = z) (kk : fp_SW l G d n cs ss mc ms nf Y pc' LL st ((k, j) :: L) Q) : fp_SW l G d n cs ss mc ms nf Y pc LL (iV z :: rV G k :: st) L Q := by
  intro h
  obtain ⟨hfl, ht, q, hq, hpf, hfin⟩ := hf
  refine SP.put (z := z) (fin := fin) (ty := .int) hd hp hfl hk hn ⟨q, hq, hpf, ?_⟩ ?_ rfl rfl ?_
  · cases fin
    · exact Or.inl hfin
    · exact Or.inr ⟨hfin, hin, hown q hq⟩
  · rw [ht]; rfl
  · rw [fp_w_up hv]; exact kk (h.cons hn)
theorem SW.getR {idx c j k t : Nat} {ty : FieldType} {fin : Bool} (hd : decode Y.2.1 pc = .ok (.getfield idx, 3)) (hp : pc + 3 = pc') (hf : fp_F Y.1.cls idx c j 2 ty fin) (hk : fp_lay k = (0, c)) (hn : k < n) (hv : fp_ini k j = (t : Int) + 1) (hm : (k, j) ∈ L) (kk : fp_SW l G d n cs ss mc ms nf Y pc' LL (rV G t :: st) L Q) : fp_SW l G d n cs ss mc ms nf Y pc LL (rV G k :: st) L Q := by
  intro h
  obtain ⟨hfl, ht, -⟩ := hf
  refine SP.get hd hp hfl hk hn ?_
  have e : fp_fv (fp_b G) (fp_fty c j) (fp_w L k j) = rV G t := by
    rw [fp_w_mem hv hm, ht]; exact fp_ro_ref
  rw [e]
  exact kk h
theorem SW.iast {k len i : Nat} {z x : Int} (hd : decode Y.2.1 pc = .ok (.iastore, 1)) (hp : pc + 1 = pc') (hk : fp_lay k = (1, len)) (hn : k < n) (hi : z = (i : Int)) (h1 : i < len) (hv : fp_ini k i = x) (kk : fp_SW l G d n cs ss mc ms nf Y pc' LL st ((k, i) :: L) Q) : fp_SW l G d n cs ss mc ms nf Y pc LL (iV x :: iV z :: rV G k :: st) L Q := by
  subst hi
  intro h
  refine SP.iast hd hp hk hn (by omega) (by omega) ?_
  rw [Int.toNat_natCast, fp_w_up hv]
  exact kk (h.cons hn)
theorem SW.aastP {k len i t : Nat} {z : Int} (hd : decode Y.2.1 pc = .ok (.aastore, 1)) (hp : pc + 1 = pc') (hk : fp_lay k = (5, len)) (hn : k < n) (ht : fp_lay t = (0, 5)) (htn : t < n) (hi : z = (i : Int)) (h1 : i < len) (hv : fp_ini k i = (t : Int) + 1) (kk : fp_SW l G d n cs ss mc ms nf Y pc' LL st ((k, i) :: L) Q) : fp_SW l G d n cs ss mc ms nf Y pc LL (rV G t :: iV z :: rV G k :: st) L Q := by
  subst hi
  intro h
  refine SP.aastP hd hp hk hn ht htn h1 ?_
  rw [fp_w_up hv]
  exact kk (h.cons hn)
theorem SW.aastI {k len i t : Nat} {z : Int} (hd : decode Y.2.1 pc = .ok (.aastore, 1)) (hp : pc + 1 = pc') (hk : fp_lay k = (6, len)) (hn : k < n) (ht : fp_lay t = (0, 2)) (htn : t < n) (hi : z = (i : Int)) (h1 : i < len) (hv : fp_ini k i = (t : Int) + 1) (kk : fp_SW l G d n cs ss mc ms nf Y pc' LL st ((k, i) :: L) Q) : fp_SW l G d n cs ss mc ms nf Y pc LL (rV G t :: iV z :: rV G k :: st) L Q := by
  subst hi
  intro h
  refine SP.aastI hd hp hk hn ht htn h1 ?_
  rw [fp_w_up hv]
  exact kk (h.cons hn)
theorem SW.aastS {k len i t : Nat} {z : Int} (hd : decode Y.2.1 pc = .ok (.aastore, 1)) (hp : pc + 1 = pc') (hk : fp_lay k = (7, len)) (hn : k < n) (ht : fp_lay t = (0, 9)) (htn : t < n) (hi : z = (i : Int)) (h1 : i < len) (hv : fp_ini k i = (t : Int) + 1) (kk : fp_SW l G d n cs ss mc ms nf Y pc' LL st ((k, i) :: L) Q) : fp_SW l G d n cs ss mc ms nf Y pc LL (rV G t :: iV z :: rV G k :: st) L Q := by
  subst hi
  intro h
  refine SP.aastS hd hp hk hn ht htn h1 ?_
  rw [fp_w_up hv]
  exact kk (h.cons hn)
theorem SW.newM {idx : Nat} (hd : decode Y.2.1 pc = .ok (.multianewarray idx 2, 4)) (hp : pc + 4 = pc') (hcl : Cond.classLink Y.1.cls idx "[[I" ∈ lw_tbl) (hk : fp_lay n = (8, 7)) (hk1 : ∀ i, i < 7 → fp_lay (n + 1 + i) = (1, 8)) (en : n + 8 = n') (ec : cs + 8 = cs') (es : ss + 63 = ss') (hcr : cs' ≤ mc) (hsr : ss' ≤ ms) (hv : fp_iniL.getD n [] = (List.range 7).map fun i => ((n + 1 + i : Nat) : Int) + 1) (kk : fp_SW l G d n' cs' ss' mc ms nf Y pc' LL (rV G n :: st) ((n, 6) :: (n, 5) :: (n, 4) :: (n, 3) :: (n, 2) :: (n, 1) :: (n, 0) :: L) Q) : fp_SW l G d n cs ss mc ms nf Y pc LL (iV 8 :: iV 7 :: st) L Q := by
  subst en; subst ec; subst es
  intro h
  refine SP.newM hd hp hcl hk hk1 (fun i hi => fp_w_new h (by omega)) hcr hsr ?_
  have e : fp_upM (fp_w L) n (fun j => if j < 7 then ((n + 1 + j : Nat) : Int) + 1 else 0) = fp_w ((n, 6) :: (n, 5) :: (n, 4) :: (n, 3) :: (n, 2) :: (n, 1) :: (n, 0) :: L) := by
    funext a b
    unfold fp_upM
    by_cases ha : a = n
    · subst ha
      rw [if_pos rfl]
      by_cases hb : b < 7
      · rw [if_pos hb, fp_w_mem (z := ((a + 1 + b : Nat) : Int) + 1)]
        · refine fp_ini_of hv ?_
          rw [List.getD_eq_getElem?_getD, List.getElem?_map, List.getElem?_range hb]
          rfl
        · rcases (show b = 0 ∨ b = 1 ∨ b = 2 ∨ b = 3 ∨ b = 4 ∨ b = 5 ∨ b = 6 by omega) with rfl | rfl | rfl | rfl | rfl | rfl | rfl <;> simp
      · rw [if_neg hb]
        unfold fp_w
        rw [if_neg]
        intro hm
        simp only [List.mem_cons, Prod.mk.injEq, true_and] at hm
        rcases hm with h1 | h1 | h1 | h1 | h1 | h1 | h1 | h1
        any_goals omega
        exact absurd (h _ h1) (by simp)
    · rw [if_neg ha]
      unfold fp_w
      simp [ha]
  rw [e]
  exact kk (((((((((h.mono (Nat.le_add_right _ 8)).cons (by omega)).cons (by omega)).cons (by omega)).cons (by omega)).cons (by omega)).cons (by omega)).cons (by omega)))
theorem SW.callI {Z : fp_MR} {idx k d' mc1 ms1 : Nat} {L1 : List (Nat × Nat)} (hd : decode Y.2.1 pc = .ok (.invokespecial idx, 3)) (hp : pc + 3 = pc') (hlk : Cond.methodLink Y.1.cls idx Z.1 ∈ lw_tbl) (hZ : fp_Mok Z 0) (hV : Cond.instanceMethod Z.1 ∈ lw_tbl) (hzn : Z.1.name = "<init>") (hzr : Z.2.2.2 = none) (hdd : d' + 1 ≤ d) (en : n + mc1 = n') (ec : cs + mc1 = cs') (es : ss + ms1 = ss') (hcr : cs' ≤ mc) (hsr : ss' ≤ ms) (hst : (st.map fun v => v.category).sum ≤ 8) (ok : fp_OkW l G d' n mc1 ms1 Z [rV G k] L L1) (kk : fp_SW l G d n' cs' ss' mc ms nf Y pc' LL st L1 Q) : fp_SW l G d n cs ss mc ms nf Y pc LL (rV G k :: st) L Q := by
  subst en; subst ec; subst es
  intro h
  refine SP.callI (As := []) hd hp hlk hZ hV hzn hzr rfl hdd hcr hsr rfl hst (ok h) fun r M' hq => ?_
  obtain ⟨rfl, rfl, hlo⟩ := hq
  exact kk hlo
theorem SW.callIN {Z : fp_MR} {idx k d' mc1 ms1 : Nat} {host : String} {L1 : List (Nat × Nat)} (hd : decode Y.2.1 pc = .ok (.invokespecial idx, 3)) (hp : pc + 3 = pc') (hlk : Cond.methodLinkNest Y.1.cls idx Z.1 host ∈ lw_tbl) (hZ : fp_Mok Z 0) (hV : Cond.instanceMethod Z.1 ∈ lw_tbl) (hzn : Z.1.name = "<init>") (hzr : Z.2.2.2 = none) (hdd : d' + 1 ≤ d) (en : n + mc1 = n') (ec : cs + mc1 = cs') (es : ss + ms1 = ss') (hcr : cs' ≤ mc) (hsr : ss' ≤ ms) (hst : (st.map fun v => v.category).sum ≤ 8) (ok : fp_OkW l G d' n mc1 ms1 Z [rV G k] L L1) (kk : fp_SW l G d n' cs' ss' mc ms nf Y pc' LL st L1 Q) : fp_SW l G d n cs ss mc ms nf Y pc LL (rV G k :: st) L Q := by
  subst en; subst ec; subst es
  intro h
  refine SP.callIN (As := []) hd hp hlk hZ hV hzn hzr rfl hdd hcr hsr rfl hst (ok h) fun r M' hq => ?_
  obtain ⟨rfl, rfl, hlo⟩ := hq
  exact kk hlo
theorem SW.callF {Z : fp_MR} {idx k d' : Nat} {z : Int} {L1 : List (Nat × Nat)} (hd : decode Y.2.1 pc = .ok (.invokestatic idx, 3)) (hp : pc + 3 = pc') (hc : fp_CS Y.1.cls idx Z 2) (hdd : d' + 1 ≤ d) (hcr : cs ≤ mc) (hsr : ss ≤ ms) (hst : (st.map fun v => v.category).sum ≤ 8) (ok : fp_OkW l G d' n 0 0 Z [rV G k, iV z] L L1) (kk : fp_SW l G d n cs ss mc ms nf Y pc' LL st L1 Q) : fp_SW l G d n cs ss mc ms nf Y pc LL (iV z :: rV G k :: st) L Q := by
  obtain ⟨h1, h2, h3⟩ := hc
  intro h
  refine SP.callS (As := [rV G k, iV z]) hd hp h1 h2 h3 rfl hdd hcr hsr rfl hst (ok h) fun r M' hq => ?_
  obtain ⟨rfl, rfl, hlo⟩ := hq
  exact kk hlo
end SWR
theorem nL_7 : fp_New RL 7 11 14 := ⟨_, rfl, rfl, List.mem_of_getElem? (i := 98) (by decide +kernel), List.mem_of_getElem? (i := 99) (by decide +kernel), List.mem_of_getElem? (i := 79) (by decide +kernel)⟩
theorem kL_7 : Cond.classLink RL 7 RX11 ∈ lw_tbl := List.mem_of_getElem? (i := 98) (by decide +kernel)
theorem oX11_1 : Cond.methodLink RX11 1 Lib.objectInit ∈ lw_tbl := List.mem_of_getElem? (i := 103) (by decide +kernel)
theorem nX11_13 : fp_New RX11 13 6 13 := ⟨_, rfl, rfl, List.mem_of_getElem? (i := 106) (by decide +kernel), List.mem_of_getElem? (i := 107) (by decide +kernel), List.mem_of_getElem? (i := 80) (by decide +kernel)⟩
theorem kX11_13 : Cond.classLink RX11 13 RX6 ∈ lw_tbl := List.mem_of_getElem? (i := 106) (by decide +kernel)
theorem oX6_3 : Cond.methodLink RX6 3 Lib.objectInit ∈ lw_tbl := List.mem_of_getElem? (i := 111) (by decide +kernel)
theorem nX6_9 : fp_New RX6 9 1 6 := ⟨_, rfl, rfl, List.mem_of_getElem? (i := 112) (by decide +kernel), List.mem_of_getElem? (i := 113) (by decide +kernel), List.mem_of_getElem? (i := 81) (by decide +kernel)⟩
theorem kX6_9 : Cond.classLink RX6 9 RX1 ∈ lw_tbl := List.mem_of_getElem? (i := 112) (by decide +kernel)
theorem oX1_3 : Cond.methodLink RX1 3 Lib.objectInit ∈ lw_tbl := List.mem_of_getElem? (i := 117) (by decide +kernel)
theorem nX6_18 : fp_New RX6 18 5 4 := ⟨_, rfl, rfl, List.mem_of_getElem? (i := 156) (by decide +kernel), List.mem_of_getElem? (i := 157) (by decide +kernel), List.mem_of_getElem? (i := 82) (by decide +kernel)⟩
theorem kX6_18 : Cond.classLink RX6 18 RX5 ∈ lw_tbl := List.mem_of_getElem? (i := 156) (by decide +kernel)
theorem oX5_3 : Cond.methodLink RX5 3 Lib.objectInit ∈ lw_tbl := List.mem_of_getElem? (i := 161) (by decide +kernel)
theorem nX6_25 : fp_New RX6 25 10 5 := ⟨_, rfl, rfl, List.mem_of_getElem? (i := 191) (by decide +kernel), List.mem_of_getElem? (i := 192) (by decide +kernel), List.mem_of_getElem? (i := 84) (by decide +kernel)⟩
theorem kX6_25 : Cond.classLink RX6 25 RX10 ∈ lw_tbl := List.mem_of_getElem? (i := 191) (by decide +kernel)
theorem oX10_3 : Cond.methodLink RX10 3 Lib.objectInit ∈ lw_tbl := List.mem_of_getElem? (i := 196) (by decide +kernel)
theorem nX11_20 : fp_New RX11 20 1 6 := ⟨_, rfl, rfl, List.mem_of_getElem? (i := 267) (by decide +kernel), List.mem_of_getElem? (i := 113) (by decide +kernel), List.mem_of_getElem? (i := 81) (by decide +kernel)⟩
theorem kX11_20 : Cond.classLink RX11 20 RX1 ∈ lw_tbl := List.mem_of_getElem? (i := 267) (by decide +kernel)
theorem nX11_27 : fp_New RX11 27 5 4 := ⟨_, rfl, rfl, List.mem_of_getElem? (i := 269) (by decide +kernel), List.mem_of_getElem? (i := 157) (by decide +kernel), List.mem_of_getElem? (i := 82) (by decide +kernel)⟩
theorem kX11_27 : Cond.classLink RX11 27 RX5 ∈ lw_tbl := List.mem_of_getElem? (i := 269) (by decide +kernel)
theorem nX11_34 : fp_New RX11 34 10 5 := ⟨_, rfl, rfl, List.mem_of_getElem? (i := 271) (by decide +kernel), List.mem_of_getElem? (i := 192) (by decide +kernel), List.mem_of_getElem? (i := 84) (by decide +kernel)⟩
theorem kX11_34 : Cond.classLink RX11 34 RX10 ∈ lw_tbl := List.mem_of_getElem? (i := 271) (by decide +kernel)
theorem nX11_41 : fp_New RX11 41 3 2 := ⟨_, rfl, rfl, List.mem_of_getElem? (i := 273) (by decide +kernel), List.mem_of_getElem? (i := 274) (by decide +kernel), List.mem_of_getElem? (i := 85) (by decide +kernel)⟩
theorem kX11_41 : Cond.classLink RX11 41 RX3 ∈ lw_tbl := List.mem_of_getElem? (i := 273) (by decide +kernel)
theorem oX3_3 : Cond.methodLink RX3 3 Lib.objectInit ∈ lw_tbl := List.mem_of_getElem? (i := 278) (by decide +kernel)
theorem nX11_48 : fp_New RX11 48 8 7 := ⟨_, rfl, rfl, List.mem_of_getElem? (i := 289) (by decide +kernel), List.mem_of_getElem? (i := 290) (by decide +kernel), List.mem_of_getElem? (i := 86) (by decide +kernel)⟩
theorem kX11_48 : Cond.classLink RX11 48 RX8 ∈ lw_tbl := List.mem_of_getElem? (i := 289) (by decide +kernel)
theorem oX8_3 : Cond.methodLink RX8 3 Lib.objectInit ∈ lw_tbl := List.mem_of_getElem? (i := 294) (by decide +kernel)
theorem nX8_9 : fp_New RX8 9 5 4 := ⟨_, rfl, rfl, List.mem_of_getElem? (i := 295) (by decide +kernel), List.mem_of_getElem? (i := 157) (by decide +kernel), List.mem_of_getElem? (i := 82) (by decide +kernel)⟩
theorem kX8_9 : Cond.classLink RX8 9 RX5 ∈ lw_tbl := List.mem_of_getElem? (i := 295) (by decide +kernel)
theorem nX11_55 : fp_New RX11 55 0 6 := ⟨_, rfl, rfl, List.mem_of_getElem? (i := 325) (by decide +kernel), List.mem_of_getElem? (i := 326) (by decide +kernel), List.mem_of_getElem? (i := 87) (by decide +kernel)⟩
theorem kX11_55 : Cond.classLink RX11 55 RX0 ∈ lw_tbl := List.mem_of_getElem? (i := 325) (by decide +kernel)
theorem oX0_3 : Cond.methodLink RX0 3 Lib.objectInit ∈ lw_tbl := List.mem_of_getElem? (i := 330) (by decide +kernel)
theorem kX0_18 : Cond.classLink RX0 18 "[[I" ∈ lw_tbl := List.mem_of_getElem? (i := 331) (by decide +kernel)
theorem nX11_62 : fp_New RX11 62 4 5 := ⟨_, rfl, rfl, List.mem_of_getElem? (i := 353) (by decide +kernel), List.mem_of_getElem? (i := 354) (by decide +kernel), List.mem_of_getElem? (i := 88) (by decide +kernel)⟩
theorem kX11_62 : Cond.classLink RX11 62 RX4 ∈ lw_tbl := List.mem_of_getElem? (i := 353) (by decide +kernel)
theorem oX4_3 : Cond.methodLink RX4 3 Lib.objectInit ∈ lw_tbl := List.mem_of_getElem? (i := 358) (by decide +kernel)
theorem nX11_69 : fp_New RX11 69 7 5 := ⟨_, rfl, rfl, List.mem_of_getElem? (i := 376) (by decide +kernel), List.mem_of_getElem? (i := 377) (by decide +kernel), List.mem_of_getElem? (i := 89) (by decide +kernel)⟩
theorem kX11_69 : Cond.classLink RX11 69 RX7 ∈ lw_tbl := List.mem_of_getElem? (i := 376) (by decide +kernel)
theorem oX7_3 : Cond.methodLink RX7 3 Lib.objectInit ∈ lw_tbl := List.mem_of_getElem? (i := 381) (by decide +kernel)
theorem nX11_76 : fp_New RX11 76 2 4 := ⟨_, rfl, rfl, List.mem_of_getElem? (i := 400) (by decide +kernel), List.mem_of_getElem? (i := 404) (by decide +kernel), List.mem_of_getElem? (i := 90) (by decide +kernel)⟩
theorem kX11_76 : Cond.classLink RX11 76 RX2 ∈ lw_tbl := List.mem_of_getElem? (i := 400) (by decide +kernel)
theorem nX11_82 : fp_New RX11 82 9 3 := ⟨_, rfl, rfl, List.mem_of_getElem? (i := 402) (by decide +kernel), List.mem_of_getElem? (i := 431) (by decide +kernel), List.mem_of_getElem? (i := 91) (by decide +kernel)⟩
theorem kX11_82 : Cond.classLink RX11 82 RX9 ∈ lw_tbl := List.mem_of_getElem? (i := 402) (by decide +kernel)
theorem oX2_1 : Cond.methodLink RX2 1 Lib.objectInit ∈ lw_tbl := List.mem_of_getElem? (i := 408) (by decide +kernel)
theorem nX2_7 : fp_New RX2 7 5 4 := ⟨_, rfl, rfl, List.mem_of_getElem? (i := 409) (by decide +kernel), List.mem_of_getElem? (i := 157) (by decide +kernel), List.mem_of_getElem? (i := 82) (by decide +kernel)⟩
theorem kX2_7 : Cond.classLink RX2 7 RX5 ∈ lw_tbl := List.mem_of_getElem? (i := 409) (by decide +kernel)
theorem nX2_16 : fp_New RX2 16 10 5 := ⟨_, rfl, rfl, List.mem_of_getElem? (i := 411) (by decide +kernel), List.mem_of_getElem? (i := 192) (by decide +kernel), List.mem_of_getElem? (i := 84) (by decide +kernel)⟩
theorem kX2_16 : Cond.classLink RX2 16 RX10 ∈ lw_tbl := List.mem_of_getElem? (i := 411) (by decide +kernel)
theorem nX2_23 : fp_New RX2 23 3 2 := ⟨_, rfl, rfl, List.mem_of_getElem? (i := 413) (by decide +kernel), List.mem_of_getElem? (i := 274) (by decide +kernel), List.mem_of_getElem? (i := 85) (by decide +kernel)⟩
theorem kX2_23 : Cond.classLink RX2 23 RX3 ∈ lw_tbl := List.mem_of_getElem? (i := 413) (by decide +kernel)
theorem oX9_3 : Cond.methodLink RX9 3 Lib.objectInit ∈ lw_tbl := List.mem_of_getElem? (i := 435) (by decide +kernel)
theorem nL_10 : fp_New RL 10 12 45 := ⟨_, rfl, rfl, List.mem_of_getElem? (i := 1103) (by decide +kernel), List.mem_of_getElem? (i := 1104) (by decide +kernel), List.mem_of_getElem? (i := 92) (by decide +kernel)⟩
theorem kL_10 : Cond.classLink RL 10 RX12 ∈ lw_tbl := List.mem_of_getElem? (i := 1103) (by decide +kernel)
theorem oX12_1 : Cond.methodLink RX12 1 Lib.objectInit ∈ lw_tbl := List.mem_of_getElem? (i := 1108) (by decide +kernel)
end
section
/-! BY PROGRAM (tools/mkctor.py): the constructors -/
def wFill (k : Nat) (L : List (Nat × Nat)) : List (Nat × Nat) := (k, 9) :: (k, 8) :: (k, 7) :: (k, 6) :: (k, 5) :: (k, 4) :: (k, 3) :: (k, 2) :: (k, 1) :: (k, 0) :: L
theorem wFill_mem {k : Nat} {x : Nat × Nat} {L : List (Nat × Nat)} (h : x ∈ L) : x ∈ wFill k L := List.mem_cons_of_mem _ (List.mem_cons_of_mem _ (List.mem_cons_of_mem _ (List.mem_cons_of_mem _ (List.mem_cons_of_mem _ (List.mem_cons_of_mem _ (List.mem_cons_of_mem _ (List.mem_cons_of_mem _ (List.mem_cons_of_mem _ (List.mem_cons_of_mem _ (h))))))))))
theorem c_Fill {l : Launch} {G : fp_WG} {n k : Nat} {L : List (Nat × Nat)} (hk : fp_lay k = (1, 10)) (hi : fp_iniL.getD k [] = [-4, -4, -4, -4, -4, -4, -4, -4, -4, -4]) (hn : k < n) : fp_OkW l G 0 n 0 0 kJ7_fill_53178 [rV G k, iV (-4)] L (wFill k L) := by
  refine fp_OkW.of (r := 2) (nf := n) rfl (Nat.le_of_ble_eq_true rfl) rfl rfl ?_
  refine SW.s (fun kk => SP.iconst (pc' := 1) dJ7_fill_53178_0 rfl kk) ?_
  refine SW.s (fun kk => SP.istore_n (LL' := [_, _, _, _]) (pc' := 2) dJ7_fill_53178_1 rfl (by decide) rfl rfl rfl kk) ?_
  refine SW.s (fun kk => SP.aload_n (pc' := 3) dJ7_fill_53178_2 rfl rfl rfl kk) ?_
  refine SW.s (fun kk => SP.alen (ty := .int) (pc' := 4) dJ7_fill_53178_3 rfl hk (by decide) rfl hn kk) ?_
  refine SW.s (fun kk => SP.istore_n (LL' := [_, _, _, _]) (pc' := 5) dJ7_fill_53178_4 rfl (by decide) rfl rfl rfl kk) ?_
  refine SW.s (fun kk => SP.iload_n (pc' := 6) dJ7_fill_53178_5 rfl rfl rfl kk) ?_
  refine SW.s (fun kk => SP.iload_n (pc' := 7) dJ7_fill_53178_6 rfl rfl rfl kk) ?_
  refine SW.s (fun kk => SP.icmp_ge (tgt := 20) (pc' := 10) dJ7_fill_53178_7 (by decide) rfl (by unfold fp_rng; decide) (by unfold fp_rng; decide) (fun h => absurd h (by decide)) (fun _ => kk)) ?_
  refine SW.s (fun kk => SP.aload_n (pc' := 11) dJ7_fill_53178_10 rfl rfl rfl kk) ?_
  refine SW.s (fun kk => SP.iload_n (pc' := 12) dJ7_fill_53178_11 rfl rfl rfl kk) ?_
  refine SW.s (fun kk => SP.iload_n (pc' := 13) dJ7_fill_53178_12 rfl rfl rfl kk) ?_
  refine SW.iast (i := 0) (pc' := 14) dJ7_fill_53178_13 rfl hk hn rfl (by decide) (fp_ini_of hi rfl) ?_
  refine SW.s (fun kk => SP.iinc (LL' := [_, _, some (iV 1), _]) (pc' := 17) dJ7_fill_53178_14 rfl (by decide) rfl rfl rfl kk) ?_
  refine SW.s (fun kk => SP.goto (pc' := 5) dJ7_fill_53178_17 (by decide) kk) ?_
  refine SW.s (fun kk => SP.iload_n (pc' := 6) dJ7_fill_53178_5 rfl rfl rfl kk) ?_
  refine SW.s (fun kk => SP.iload_n (pc' := 7) dJ7_fill_53178_6 rfl rfl rfl kk) ?_
  refine SW.s (fun kk => SP.icmp_ge (tgt := 20) (pc' := 10) dJ7_fill_53178_7 (by decide) rfl (by unfold fp_rng; decide) (by unfold fp_rng; decide) (fun h => absurd h (by decide)) (fun _ => kk)) ?_
  refine SW.s (fun kk => SP.aload_n (pc' := 11) dJ7_fill_53178_10 rfl rfl rfl kk) ?_
  refine SW.s (fun kk => SP.iload_n (pc' := 12) dJ7_fill_53178_11 rfl rfl rfl kk) ?_
  refine SW.s (fun kk => SP.iload_n (pc' := 13) dJ7_fill_53178_12 rfl rfl rfl kk) ?_
  refine SW.iast (i := 1) (pc' := 14) dJ7_fill_53178_13 rfl hk hn rfl (by decide) (fp_ini_of hi rfl) ?_
  refine SW.s (fun kk => SP.iinc (LL' := [_, _, some (iV 2), _]) (pc' := 17) dJ7_fill_53178_14 rfl (by decide) rfl rfl rfl kk) ?_
  refine SW.s (fun kk => SP.goto (pc' := 5) dJ7_fill_53178_17 (by decide) kk) ?_
  refine SW.s (fun kk => SP.iload_n (pc' := 6) dJ7_fill_53178_5 rfl rfl rfl kk) ?_
  refine SW.s (fun kk => SP.iload_n (pc' := 7) dJ7_fill_53178_6 rfl rfl rfl kk) ?_
  refine SW.s (fun kk => SP.icmp_ge (tgt := 20) (pc' := 10) dJ7_fill_53178_7 (by decide) rfl (by unfold fp_rng; decide) (by unfold fp_rng; decide) (fun h => absurd h (by decide)) (fun _ => kk)) ?_
  refine SW.s (fun kk => SP.aload_n (pc' := 11) dJ7_fill_53178_10 rfl rfl rfl kk) ?_
  refine SW.s (fun kk => SP.iload_n (pc' := 12) dJ7_fill_53178_11 rfl rfl rfl kk) ?_
  refine SW.s (fun kk => SP.iload_n (pc' := 13) dJ7_fill_53178_12 rfl rfl rfl kk) ?_
  refine SW.iast (i := 2) (pc' := 14) dJ7_fill_53178_13 rfl hk hn rfl (by decide) (fp_ini_of hi rfl) ?_
  refine SW.s (fun kk => SP.iinc (LL' := [_, _, some (iV 3), _]) (pc' := 17) dJ7_fill_53178_14 rfl (by decide) rfl rfl rfl kk) ?_
  refine SW.s (fun kk => SP.goto (pc' := 5) dJ7_fill_53178_17 (by decide) kk) ?_
  refine SW.s (fun kk => SP.iload_n (pc' := 6) dJ7_fill_53178_5 rfl rfl rfl kk) ?_
  refine SW.s (fun kk => SP.iload_n (pc' := 7) dJ7_fill_53178_6 rfl rfl rfl kk) ?_
  refine SW.s (fun kk => SP.icmp_ge (tgt := 20) (pc' := 10) dJ7_fill_53178_7 (by decide) rfl (by unfold fp_rng; decide) (by unfold fp_rng; decide) (fun h => absurd h (by decide)) (fun _ => kk)) ?_
  refine SW.s (fun kk => SP.aload_n (pc' := 11) dJ7_fill_53178_10 rfl rfl rfl kk) ?_
  refine SW.s (fun kk => SP.iload_n (pc' := 12) dJ7_fill_53178_11 rfl rfl rfl kk) ?_
  refine SW.s (fun kk => SP.iload_n (pc' := 13) dJ7_fill_53178_12 rfl rfl rfl kk) ?_
  refine SW.iast (i := 3) (pc' := 14) dJ7_fill_53178_13 rfl hk hn rfl (by decide) (fp_ini_of hi rfl) ?_
  refine SW.s (fun kk => SP.iinc (LL' := [_, _, some (iV 4), _]) (pc' := 17) dJ7_fill_53178_14 rfl (by decide) rfl rfl rfl kk) ?_
  refine SW.s (fun kk => SP.goto (pc' := 5) dJ7_fill_53178_17 (by decide) kk) ?_
  refine SW.s (fun kk => SP.iload_n (pc' := 6) dJ7_fill_53178_5 rfl rfl rfl kk) ?_
  refine SW.s (fun kk => SP.iload_n (pc' := 7) dJ7_fill_53178_6 rfl rfl rfl kk) ?_
  refine SW.s (fun kk => SP.icmp_ge (tgt := 20) (pc' := 10) dJ7_fill_53178_7 (by decide) rfl (by unfold fp_rng; decide) (by unfold fp_rng; decide) (fun h => absurd h (by decide)) (fun _ => kk)) ?_
  refine SW.s (fun kk => SP.aload_n (pc' := 11) dJ7_fill_53178_10 rfl rfl rfl kk) ?_
  refine SW.s (fun kk => SP.iload_n (pc' := 12) dJ7_fill_53178_11 rfl rfl rfl kk) ?_
  refine SW.s (fun kk => SP.iload_n (pc' := 13) dJ7_fill_53178_12 rfl rfl rfl kk) ?_
  refine SW.iast (i := 4) (pc' := 14) dJ7_fill_53178_13 rfl hk hn rfl (by decide) (fp_ini_of hi rfl) ?_
  refine SW.s (fun kk => SP.iinc (LL' := [_, _, some (iV 5), _]) (pc' := 17) dJ7_fill_53178_14 rfl (by decide) rfl rfl rfl kk) ?_
  refine SW.s (fun kk => SP.goto (pc' := 5) dJ7_fill_53178_17 (by decide) kk) ?_
  refine SW.s (fun kk => SP.iload_n (pc' := 6) dJ7_fill_53178_5 rfl rfl rfl kk) ?_
  refine SW.s (fun kk => SP.iload_n (pc' := 7) dJ7_fill_53178_6 rfl rfl rfl kk) ?_
  refine SW.s (fun kk => SP.icmp_ge (tgt := 20) (pc' := 10) dJ7_fill_53178_7 (by decide) rfl (by unfold fp_rng; decide) (by unfold fp_rng; decide) (fun h => absurd h (by decide)) (fun _ => kk)) ?_
  refine SW.s (fun kk => SP.aload_n (pc' := 11) dJ7_fill_53178_10 rfl rfl rfl kk) ?_
  refine SW.s (fun kk => SP.iload_n (pc' := 12) dJ7_fill_53178_11 rfl rfl rfl kk) ?_
  refine SW.s (fun kk => SP.iload_n (pc' := 13) dJ7_fill_53178_12 rfl rfl rfl kk) ?_
  refine SW.iast (i := 5) (pc' := 14) dJ7_fill_53178_13 rfl hk hn rfl (by decide) (fp_ini_of hi rfl) ?_
  refine SW.s (fun kk => SP.iinc (LL' := [_, _, some (iV 6), _]) (pc' := 17) dJ7_fill_53178_14 rfl (by decide) rfl rfl rfl kk) ?_
  refine SW.s (fun kk => SP.goto (pc' := 5) dJ7_fill_53178_17 (by decide) kk) ?_
  refine SW.s (fun kk => SP.iload_n (pc' := 6) dJ7_fill_53178_5 rfl rfl rfl kk) ?_
  refine SW.s (fun kk => SP.iload_n (pc' := 7) dJ7_fill_53178_6 rfl rfl rfl kk) ?_
  refine SW.s (fun kk => SP.icmp_ge (tgt := 20) (pc' := 10) dJ7_fill_53178_7 (by decide) rfl (by unfold fp_rng; decide) (by unfold fp_rng; decide) (fun h => absurd h (by decide)) (fun _ => kk)) ?_
  refine SW.s (fun kk => SP.aload_n (pc' := 11) dJ7_fill_53178_10 rfl rfl rfl kk) ?_
  refine SW.s (fun kk => SP.iload_n (pc' := 12) dJ7_fill_53178_11 rfl rfl rfl kk) ?_
  refine SW.s (fun kk => SP.iload_n (pc' := 13) dJ7_fill_53178_12 rfl rfl rfl kk) ?_
  refine SW.iast (i := 6) (pc' := 14) dJ7_fill_53178_13 rfl hk hn rfl (by decide) (fp_ini_of hi rfl) ?_
  refine SW.s (fun kk => SP.iinc (LL' := [_, _, some (iV 7), _]) (pc' := 17) dJ7_fill_53178_14 rfl (by decide) rfl rfl rfl kk) ?_
  refine SW.s (fun kk => SP.goto (pc' := 5) dJ7_fill_53178_17 (by decide) kk) ?_
  refine SW.s (fun kk => SP.iload_n (pc' := 6) dJ7_fill_53178_5 rfl rfl rfl kk) ?_
  refine SW.s (fun kk => SP.iload_n (pc' := 7) dJ7_fill_53178_6 rfl rfl rfl kk) ?_
  refine SW.s (fun kk => SP.icmp_ge (tgt := 20) (pc' := 10) dJ7_fill_53178_7 (by decide) rfl (by unfold fp_rng; decide) (by unfold fp_rng; decide) (fun h => absurd h (by decide)) (fun _ => kk)) ?_
  refine SW.s (fun kk => SP.aload_n (pc' := 11) dJ7_fill_53178_10 rfl rfl rfl kk) ?_
  refine SW.s (fun kk => SP.iload_n (pc' := 12) dJ7_fill_53178_11 rfl rfl rfl kk) ?_
  refine SW.s (fun kk => SP.iload_n (pc' := 13) dJ7_fill_53178_12 rfl rfl rfl kk) ?_
  refine SW.iast (i := 7) (pc' := 14) dJ7_fill_53178_13 rfl hk hn rfl (by decide) (fp_ini_of hi rfl) ?_
  refine SW.s (fun kk => SP.iinc (LL' := [_, _, some (iV 8), _]) (pc' := 17) dJ7_fill_53178_14 rfl (by decide) rfl rfl rfl kk) ?_
  refine SW.s (fun kk => SP.goto (pc' := 5) dJ7_fill_53178_17 (by decide) kk) ?_
  refine SW.s (fun kk => SP.iload_n (pc' := 6) dJ7_fill_53178_5 rfl rfl rfl kk) ?_
  refine SW.s (fun kk => SP.iload_n (pc' := 7) dJ7_fill_53178_6 rfl rfl rfl kk) ?_
  refine SW.s (fun kk => SP.icmp_ge (tgt := 20) (pc' := 10) dJ7_fill_53178_7 (by decide) rfl (by unfold fp_rng; decide) (by unfold fp_rng; decide) (fun h => absurd h (by decide)) (fun _ => kk)) ?_
  refine SW.s (fun kk => SP.aload_n (pc' := 11) dJ7_fill_53178_10 rfl rfl rfl kk) ?_
  refine SW.s (fun kk => SP.iload_n (pc' := 12) dJ7_fill_53178_11 rfl rfl rfl kk) ?_
  refine SW.s (fun kk => SP.iload_n (pc' := 13) dJ7_fill_53178_12 rfl rfl rfl kk) ?_
  refine SW.iast (i := 8) (pc' := 14) dJ7_fill_53178_13 rfl hk hn rfl (by decide) (fp_ini_of hi rfl) ?_
  refine SW.s (fun kk => SP.iinc (LL' := [_, _, some (iV 9), _]) (pc' := 17) dJ7_fill_53178_14 rfl (by decide) rfl rfl rfl kk) ?_
  refine SW.s (fun kk => SP.goto (pc' := 5) dJ7_fill_53178_17 (by decide) kk) ?_
  refine SW.s (fun kk => SP.iload_n (pc' := 6) dJ7_fill_53178_5 rfl rfl rfl kk) ?_
  refine SW.s (fun kk => SP.iload_n (pc' := 7) dJ7_fill_53178_6 rfl rfl rfl kk) ?_
  refine SW.s (fun kk => SP.icmp_ge (tgt := 20) (pc' := 10) dJ7_fill_53178_7 (by decide) rfl (by unfold fp_rng; decide) (by unfold fp_rng; decide) (fun h => absurd h (by decide)) (fun _ => kk)) ?_
  refine SW.s (fun kk => SP.aload_n (pc' := 11) dJ7_fill_53178_10 rfl rfl rfl kk) ?_
  refine SW.s (fun kk => SP.iload_n (pc' := 12) dJ7_fill_53178_11 rfl rfl rfl kk) ?_
  refine SW.s (fun kk => SP.iload_n (pc' := 13) dJ7_fill_53178_12 rfl rfl rfl kk) ?_
  refine SW.iast (i := 9) (pc' := 14) dJ7_fill_53178_13 rfl hk hn rfl (by decide) (fp_ini_of hi rfl) ?_
  refine SW.s (fun kk => SP.iinc (LL' := [_, _, some (iV 10), _]) (pc' := 17) dJ7_fill_53178_14 rfl (by decide) rfl rfl rfl kk) ?_
  refine SW.s (fun kk => SP.goto (pc' := 5) dJ7_fill_53178_17 (by decide) kk) ?_
  refine SW.s (fun kk => SP.iload_n (pc' := 6) dJ7_fill_53178_5 rfl rfl rfl kk) ?_
  refine SW.s (fun kk => SP.iload_n (pc' := 7) dJ7_fill_53178_6 rfl rfl rfl kk) ?_
  refine SW.s (fun kk => SP.icmp_ge (tgt := 20) (pc' := 10) dJ7_fill_53178_7 (by decide) rfl (by unfold fp_rng; decide) (by unfold fp_rng; decide) (fun _ => kk) (fun h => absurd (by decide) h)) ?_
  exact SW.ret dJ7_fill_53178_20 rfl
def wGoods (k : Nat) (L : List (Nat × Nat)) : List (Nat × Nat) := (k, 5) :: (k, 4) :: (k, 3) :: (k, 2) :: L
theorem wGoods_mem {k : Nat} {x : Nat × Nat} {L : List (Nat × Nat)} (h : x ∈ L) : x ∈ wGoods k L := List.mem_cons_of_mem _ (List.mem_cons_of_mem _ (List.mem_cons_of_mem _ (List.mem_cons_of_mem _ (h))))
theorem c_Goods {l : Launch} {G : fp_WG} {L : List (Nat × Nat)} {k : Nat} (l0 : fp_lay k = (0, 1)) (i0 : fp_iniL.getD k [] = [0, 0, 10, (((k + 1) : Nat) : Int) + 1, (((k + 2) : Nat) : Int) + 1, (((k + 3) : Nat) : Int) + 1]) (l1 : fp_lay (k + 1) = (1, 11)) (l2 : fp_lay (k + 2) = (1, 44)) (l3 : fp_lay (k + 3) = (1, 3)) : fp_OkW l G 1 (k + 1) 3 58 kX1_init [rV G k] L (wGoods k L) := by
  refine fp_OkW.of (r := 0) (nf := (k + 4)) rfl (Nat.le_of_ble_eq_true rfl) rfl rfl ?_
  refine SW.s (fun kk => SP.aload_n (pc' := 1) dX1_init_0 rfl rfl rfl kk) ?_
  refine SW.s (fun kk => SP.objInit (pc' := 4) dX1_init_1 rfl oX1_3 (by decide) (Nat.le_of_ble_eq_true rfl) kk) ?_
  refine SW.s (fun kk => SP.aload_n (pc' := 5) dX1_init_4 rfl rfl rfl kk) ?_
  refine SW.s (fun kk => SP.bipush (pc' := 7) dX1_init_5 rfl rfl kk) ?_
  refine SW.putI (pc' := 10) dX1_init_7 rfl fX1_9 l0 (by omega) rfl (fun q h => by cases h; rfl) (fp_ini_of i0 rfl) ?_
  refine SW.s (fun kk => SP.aload_n (pc' := 11) dX1_init_10 rfl rfl rfl kk) ?_
  refine SW.s (fun kk => SP.bipush (pc' := 13) dX1_init_11 rfl rfl kk) ?_
  refine SW.newI (pc' := 15) dX1_init_13 rfl l1 rfl (n' := (k + 2)) (cs' := 1) (ss' := 11) rfl rfl rfl (by decide) (by decide) ?_
  refine SW.putR (t := (k + 1)) (pc' := 18) dX1_init_15 rfl fX1_15 l0 (by omega) rfl (fun q h => by cases h; rfl) (Or.inr ⟨_, rfl⟩) (fp_ini_of i0 rfl) ?_
  refine SW.s (fun kk => SP.aload_n (pc' := 19) dX1_init_18 rfl rfl rfl kk) ?_
  refine SW.s (fun kk => SP.bipush (pc' := 21) dX1_init_19 rfl rfl kk) ?_
  refine SW.newI (pc' := 23) dX1_init_21 rfl l2 rfl (n' := (k + 3)) (cs' := 2) (ss' := 55) rfl rfl rfl (by decide) (by decide) ?_
  refine SW.putR (t := (k + 2)) (pc' := 26) dX1_init_23 rfl fX1_19 l0 (by omega) rfl (fun q h => by cases h; rfl) (Or.inr ⟨_, rfl⟩) (fp_ini_of i0 rfl) ?_
  refine SW.s (fun kk => SP.aload_n (pc' := 27) dX1_init_26 rfl rfl rfl kk) ?_
  refine SW.s (fun kk => SP.iconst (pc' := 28) dX1_init_27 rfl kk) ?_
  refine SW.newI (pc' := 30) dX1_init_28 rfl l3 rfl (n' := (k + 4)) (cs' := 3) (ss' := 58) rfl rfl rfl (by decide) (by decide) ?_
  refine SW.putR (t := (k + 3)) (pc' := 33) dX1_init_30 rfl fX1_22 l0 (by omega) rfl (fun q h => by cases h; rfl) (Or.inr ⟨_, rfl⟩) (fp_ini_of i0 rfl) ?_
  exact SW.ret dX1_init_33 rfl
def wPlaces (k : Nat) (L : List (Nat × Nat)) : List (Nat × Nat) := wFill (k + 2) (wFill (k + 1) ((k, 3) :: (k, 2) :: (k, 1) :: (k, 0) :: L))
theorem wPlaces_mem {k : Nat} {x : Nat × Nat} {L : List (Nat × Nat)} (h : x ∈ L) : x ∈ wPlaces k L := wFill_mem (wFill_mem (List.mem_cons_of_mem _ (List.mem_cons_of_mem _ (List.mem_cons_of_mem _ (List.mem_cons_of_mem _ (h))))))
theorem c_Places {l : Launch} {G : fp_WG} {L : List (Nat × Nat)} {k : Nat} (l0 : fp_lay k = (0, 5)) (i0 : fp_iniL.getD k [] = [(((k + 1) : Nat) : Int) + 1, (((k + 2) : Nat) : Int) + 1, (((k + 3) : Nat) : Int) + 1, (((k + 4) : Nat) : Int) + 1]) (l1 : fp_lay (k + 1) = (1, 10)) (i1 : fp_iniL.getD (k + 1) [] = [-4, -4, -4, -4, -4, -4, -4, -4, -4, -4]) (l2 : fp_lay (k + 2) = (1, 10)) (i2 : fp_iniL.getD (k + 2) [] = [-4, -4, -4, -4, -4, -4, -4, -4, -4, -4]) (l3 : fp_lay (k + 3) = (1, 3)) (l4 : fp_lay (k + 4) = (1, 24)) : fp_OkW l G 1 (k + 1) 4 47 kX5_init [rV G k] L (wPlaces k L) := by
  refine fp_OkW.of (r := 0) (nf := (k + 5)) rfl (Nat.le_of_ble_eq_true rfl) rfl rfl ?_
  refine SW.s (fun kk => SP.aload_n (pc' := 1) dX5_init_0 rfl rfl rfl kk) ?_
  refine SW.s (fun kk => SP.objInit (pc' := 4) dX5_init_1 rfl oX5_3 (by decide) (Nat.le_of_ble_eq_true rfl) kk) ?_
  refine SW.s (fun kk => SP.aload_n (pc' := 5) dX5_init_4 rfl rfl rfl kk) ?_
  refine SW.s (fun kk => SP.bipush (pc' := 7) dX5_init_5 rfl rfl kk) ?_
  refine SW.newI (pc' := 9) dX5_init_7 rfl l1 rfl (n' := (k + 2)) (cs' := 1) (ss' := 10) rfl rfl rfl (by decide) (by decide) ?_
  refine SW.putR (t := (k + 1)) (pc' := 12) dX5_init_9 rfl fX5_9 l0 (by omega) rfl (fun q h => by cases h; rfl) (Or.inr ⟨_, rfl⟩) (fp_ini_of i0 rfl) ?_
  refine SW.s (fun kk => SP.aload_n (pc' := 13) dX5_init_12 rfl rfl rfl kk) ?_
  refine SW.s (fun kk => SP.bipush (pc' := 15) dX5_init_13 rfl rfl kk) ?_
  refine SW.newI (pc' := 17) dX5_init_15 rfl l2 rfl (n' := (k + 3)) (cs' := 2) (ss' := 20) rfl rfl rfl (by decide) (by decide) ?_
  refine SW.putR (t := (k + 2)) (pc' := 20) dX5_init_17 rfl fX5_15 l0 (by omega) rfl (fun q h => by cases h; rfl) (Or.inr ⟨_, rfl⟩) (fp_ini_of i0 rfl) ?_
  refine SW.s (fun kk => SP.aload_n (pc' := 21) dX5_init_20 rfl rfl rfl kk) ?_
  refine SW.s (fun kk => SP.iconst (pc' := 22) dX5_init_21 rfl kk) ?_
  refine SW.newI (pc' := 24) dX5_init_22 rfl l3 rfl (n' := (k + 4)) (cs' := 3) (ss' := 23) rfl rfl rfl (by decide) (by decide) ?_
  refine SW.putR (t := (k + 3)) (pc' := 27) dX5_init_24 rfl fX5_18 l0 (by omega) rfl (fun q h => by cases h; rfl) (Or.inr ⟨_, rfl⟩) (fp_ini_of i0 rfl) ?_
  refine SW.s (fun kk => SP.aload_n (pc' := 28) dX5_init_27 rfl rfl rfl kk) ?_
  refine SW.s (fun kk => SP.bipush (pc' := 30) dX5_init_28 rfl rfl kk) ?_
  refine SW.newI (pc' := 32) dX5_init_30 rfl l4 rfl (n' := (k + 5)) (cs' := 4) (ss' := 47) rfl rfl rfl (by decide) (by decide) ?_
  refine SW.putR (t := (k + 4)) (pc' := 35) dX5_init_32 rfl fX5_21 l0 (by omega) rfl (fun q h => by cases h; rfl) (Or.inr ⟨_, rfl⟩) (fp_ini_of i0 rfl) ?_
  refine SW.s (fun kk => SP.aload_n (pc' := 36) dX5_init_35 rfl rfl rfl kk) ?_
  refine SW.getR (t := (k + 1)) (pc' := 39) dX5_init_36 rfl fX5_9 l0 (by omega) (fp_ini_of i0 rfl) (List.mem_cons_of_mem _ (List.mem_cons_of_mem _ (List.mem_cons_of_mem _ List.mem_cons_self))) ?_
  refine SW.s (fun kk => SP.bipush (pc' := 41) dX5_init_39 rfl rfl kk) ?_
  refine SW.callF (pc' := 44) dX5_init_41 rfl cX5_24 (by decide) (by decide) (by decide) (Nat.le_of_ble_eq_true rfl) (c_Fill l1 i1 (by omega)) ?_
  refine SW.s (fun kk => SP.aload_n (pc' := 45) dX5_init_44 rfl rfl rfl kk) ?_
  refine SW.getR (t := (k + 2)) (pc' := 48) dX5_init_45 rfl fX5_15 l0 (by omega) (fp_ini_of i0 rfl) (wFill_mem (List.mem_cons_of_mem _ (List.mem_cons_of_mem _ List.mem_cons_self))) ?_
  refine SW.s (fun kk => SP.bipush (pc' := 50) dX5_init_48 rfl rfl kk) ?_
  refine SW.callF (pc' := 53) dX5_init_50 rfl cX5_24 (by decide) (by decide) (by decide) (Nat.le_of_ble_eq_true rfl) (c_Fill l2 i2 (by omega)) ?_
  exact SW.ret dX5_init_53 rfl
def wVisits (k : Nat) (L : List (Nat × Nat)) : List (Nat × Nat) := (k, 4) :: (k, 3) :: (k, 2) :: (k, 1) :: L
theorem wVisits_mem {k : Nat} {x : Nat × Nat} {L : List (Nat × Nat)} (h : x ∈ L) : x ∈ wVisits k L := List.mem_cons_of_mem _ (List.mem_cons_of_mem _ (List.mem_cons_of_mem _ (List.mem_cons_of_mem _ (h))))
theorem c_Visits {l : Launch} {G : fp_WG} {L : List (Nat × Nat)} {k : Nat} (l0 : fp_lay k = (0, 10)) (i0 : fp_iniL.getD k [] = [0, (((k + 1) : Nat) : Int) + 1, (((k + 2) : Nat) : Int) + 1, (((k + 3) : Nat) : Int) + 1, (((k + 4) : Nat) : Int) + 1]) (l1 : fp_lay (k + 1) = (1, 12)) (l2 : fp_lay (k + 2) = (1, 12)) (l3 : fp_lay (k + 3) = (1, 12)) (l4 : fp_lay (k + 4) = (1, 12)) : fp_OkW l G 1 (k + 1) 4 48 kX10_init [rV G k] L (wVisits k L) := by
  refine fp_OkW.of (r := 0) (nf := (k + 5)) rfl (Nat.le_of_ble_eq_true rfl) rfl rfl ?_
  refine SW.s (fun kk => SP.aload_n (pc' := 1) dX10_init_0 rfl rfl rfl kk) ?_
  refine SW.s (fun kk => SP.objInit (pc' := 4) dX10_init_1 rfl oX10_3 (by decide) (Nat.le_of_ble_eq_true rfl) kk) ?_
  refine SW.s (fun kk => SP.aload_n (pc' := 5) dX10_init_4 rfl rfl rfl kk) ?_
  refine SW.s (fun kk => SP.bipush (pc' := 7) dX10_init_5 rfl rfl kk) ?_
  refine SW.newI (pc' := 9) dX10_init_7 rfl l1 rfl (n' := (k + 2)) (cs' := 1) (ss' := 12) rfl rfl rfl (by decide) (by decide) ?_
  refine SW.putR (t := (k + 1)) (pc' := 12) dX10_init_9 rfl fX10_9 l0 (by omega) rfl (fun q h => by cases h; rfl) (Or.inr ⟨_, rfl⟩) (fp_ini_of i0 rfl) ?_
  refine SW.s (fun kk => SP.aload_n (pc' := 13) dX10_init_12 rfl rfl rfl kk) ?_
  refine SW.s (fun kk => SP.bipush (pc' := 15) dX10_init_13 rfl rfl kk) ?_
  refine SW.newI (pc' := 17) dX10_init_15 rfl l2 rfl (n' := (k + 3)) (cs' := 2) (ss' := 24) rfl rfl rfl (by decide) (by decide) ?_
  refine SW.putR (t := (k + 2)) (pc' := 20) dX10_init_17 rfl fX10_15 l0 (by omega) rfl (fun q h => by cases h; rfl) (Or.inr ⟨_, rfl⟩) (fp_ini_of i0 rfl) ?_
  refine SW.s (fun kk => SP.aload_n (pc' := 21) dX10_init_20 rfl rfl rfl kk) ?_
  refine SW.s (fun kk => SP.bipush (pc' := 23) dX10_init_21 rfl rfl kk) ?_
  refine SW.newI (pc' := 25) dX10_init_23 rfl l3 rfl (n' := (k + 4)) (cs' := 3) (ss' := 36) rfl rfl rfl (by decide) (by decide) ?_
  refine SW.putR (t := (k + 3)) (pc' := 28) dX10_init_25 rfl fX10_18 l0 (by omega) rfl (fun q h => by cases h; rfl) (Or.inr ⟨_, rfl⟩) (fp_ini_of i0 rfl) ?_
  refine SW.s (fun kk => SP.aload_n (pc' := 29) dX10_init_28 rfl rfl rfl kk) ?_
  refine SW.s (fun kk => SP.bipush (pc' := 31) dX10_init_29 rfl rfl kk) ?_
  refine SW.newI (pc' := 33) dX10_init_31 rfl l4 rfl (n' := (k + 5)) (cs' := 4) (ss' := 48) rfl rfl rfl (by decide) (by decide) ?_
  refine SW.putR (t := (k + 4)) (pc' := 36) dX10_init_33 rfl fX10_21 l0 (by omega) rfl (fun q h => by cases h; rfl) (Or.inr ⟨_, rfl⟩) (fp_ini_of i0 rfl) ?_
  exact SW.ret dX10_init_36 rfl
def wNotes (k : Nat) (L : List (Nat × Nat)) : List (Nat × Nat) := (k, 1) :: L
theorem wNotes_mem {k : Nat} {x : Nat × Nat} {L : List (Nat × Nat)} (h : x ∈ L) : x ∈ wNotes k L := List.mem_cons_of_mem _ (h)
theorem c_Notes {l : Launch} {G : fp_WG} {L : List (Nat × Nat)} {k : Nat} (l0 : fp_lay k = (0, 3)) (i0 : fp_iniL.getD k [] = [0, (((k + 1) : Nat) : Int) + 1]) (l1 : fp_lay (k + 1) = (1, 8)) : fp_OkW l G 1 (k + 1) 1 8 kX3_init [rV G k] L (wNotes k L) := by
  refine fp_OkW.of (r := 0) (nf := (k + 2)) rfl (Nat.le_of_ble_eq_true rfl) rfl rfl ?_
  refine SW.s (fun kk => SP.aload_n (pc' := 1) dX3_init_0 rfl rfl rfl kk) ?_
  refine SW.s (fun kk => SP.objInit (pc' := 4) dX3_init_1 rfl oX3_3 (by decide) (Nat.le_of_ble_eq_true rfl) kk) ?_
  refine SW.s (fun kk => SP.aload_n (pc' := 5) dX3_init_4 rfl rfl rfl kk) ?_
  refine SW.s (fun kk => SP.bipush (pc' := 7) dX3_init_5 rfl rfl kk) ?_
  refine SW.newI (pc' := 9) dX3_init_7 rfl l1 rfl (n' := (k + 2)) (cs' := 1) (ss' := 8) rfl rfl rfl (by decide) (by decide) ?_
  refine SW.putR (t := (k + 1)) (pc' := 12) dX3_init_9 rfl fX3_9 l0 (by omega) rfl (fun q h => by cases h; rfl) (Or.inr ⟨_, rfl⟩) (fp_ini_of i0 rfl) ?_
  exact SW.ret dX3_init_12 rfl
def wSheet (k : Nat) (L : List (Nat × Nat)) : List (Nat × Nat) := (k, 2) :: (k, 1) :: L
theorem wSheet_mem {k : Nat} {x : Nat × Nat} {L : List (Nat × Nat)} (h : x ∈ L) : x ∈ wSheet k L := List.mem_cons_of_mem _ (List.mem_cons_of_mem _ (h))
theorem c_Sheet {l : Launch} {G : fp_WG} {L : List (Nat × Nat)} {k : Nat} (l0 : fp_lay k = (0, 9)) (i0 : fp_iniL.getD k [] = [0, -4, (((k + 1) : Nat) : Int) + 1]) (l1 : fp_lay (k + 1) = (1, 40)) : fp_OkW l G 1 (k + 1) 1 40 kX9_init [rV G k] L (wSheet k L) := by
  refine fp_OkW.of (r := 0) (nf := (k + 2)) rfl (Nat.le_of_ble_eq_true rfl) rfl rfl ?_
  refine SW.s (fun kk => SP.aload_n (pc' := 1) dX9_init_0 rfl rfl rfl kk) ?_
  refine SW.s (fun kk => SP.objInit (pc' := 4) dX9_init_1 rfl oX9_3 (by decide) (Nat.le_of_ble_eq_true rfl) kk) ?_
  refine SW.s (fun kk => SP.aload_n (pc' := 5) dX9_init_4 rfl rfl rfl kk) ?_
  refine SW.s (fun kk => SP.bipush (pc' := 7) dX9_init_5 rfl rfl kk) ?_
  refine SW.putI (pc' := 10) dX9_init_7 rfl fX9_9 l0 (by omega) rfl (fun q h => by cases h; rfl) (fp_ini_of i0 rfl) ?_
  refine SW.s (fun kk => SP.aload_n (pc' := 11) dX9_init_10 rfl rfl rfl kk) ?_
  refine SW.s (fun kk => SP.bipush (pc' := 13) dX9_init_11 rfl rfl kk) ?_
  refine SW.newI (pc' := 15) dX9_init_13 rfl l1 rfl (n' := (k + 2)) (cs' := 1) (ss' := 40) rfl rfl rfl (by decide) (by decide) ?_
  refine SW.putR (t := (k + 1)) (pc' := 18) dX9_init_15 rfl fX9_15 l0 (by omega) rfl (fun q h => by cases h; rfl) (Or.inr ⟨_, rfl⟩) (fp_ini_of i0 rfl) ?_
  exact SW.ret dX9_init_18 rfl
def wImage (k : Nat) (L : List (Nat × Nat)) : List (Nat × Nat) := (k, 3) :: wNotes (k + 11) ((k, 2) :: wVisits (k + 6) ((k, 1) :: wPlaces (k + 1) (L)))
theorem wImage_mem {k : Nat} {x : Nat × Nat} {L : List (Nat × Nat)} (h : x ∈ L) : x ∈ wImage k L := List.mem_cons_of_mem _ (wNotes_mem (List.mem_cons_of_mem _ (wVisits_mem (List.mem_cons_of_mem _ (wPlaces_mem (h))))))
theorem c_Image {l : Launch} {G : fp_WG} {L : List (Nat × Nat)} {k : Nat} (l0 : fp_lay k = (0, 2)) (i0 : fp_iniL.getD k [] = [0, (((k + 1) : Nat) : Int) + 1, (((k + 6) : Nat) : Int) + 1, (((k + 11) : Nat) : Int) + 1]) (l1 : fp_lay (k + 1) = (0, 5)) (i1 : fp_iniL.getD (k + 1) [] = [(((k + 2) : Nat) : Int) + 1, (((k + 3) : Nat) : Int) + 1, (((k + 4) : Nat) : Int) + 1, (((k + 5) : Nat) : Int) + 1]) (l2 : fp_lay (k + 2) = (1, 10)) (i2 : fp_iniL.getD (k + 2) [] = [-4, -4, -4, -4, -4, -4, -4, -4, -4, -4]) (l3 : fp_lay (k + 3) = (1, 10)) (i3 : fp_iniL.getD (k + 3) [] = [-4, -4, -4, -4, -4, -4, -4, -4, -4, -4]) (l4 : fp_lay (k + 4) = (1, 3)) (l5 : fp_lay (k + 5) = (1, 24)) (l6 : fp_lay (k + 6) = (0, 10)) (i6 : fp_iniL.getD (k + 6) [] = [0, (((k + 7) : Nat) : Int) + 1, (((k + 8) : Nat) : Int) + 1, (((k + 9) : Nat) : Int) + 1, (((k + 10) : Nat) : Int) + 1]) (l7 : fp_lay (k + 7) = (1, 12)) (l8 : fp_lay (k + 8) = (1, 12)) (l9 : fp_lay (k + 9) = (1, 12)) (l10 : fp_lay (k + 10) = (1, 12)) (l11 : fp_lay (k + 11) = (0, 3)) (i11 : fp_iniL.getD (k + 11) [] = [0, (((k + 12) : Nat) : Int) + 1]) (l12 : fp_lay (k + 12) = (1, 8)) : fp_OkW l G 2 (k + 1) 12 114 kX2_init [rV G k] L (wImage k L) := by
  refine fp_OkW.of (r := 0) (nf := (k + 13)) rfl (Nat.le_of_ble_eq_true rfl) rfl rfl ?_
  refine SW.s (fun kk => SP.aload_n (pc' := 1) dX2_init_0 rfl rfl rfl kk) ?_
  refine SW.s (fun kk => SP.objInit (pc' := 4) dX2_init_1 rfl oX2_1 (by decide) (Nat.le_of_ble_eq_true rfl) kk) ?_
  refine SW.s (fun kk => SP.aload_n (pc' := 5) dX2_init_4 rfl rfl rfl kk) ?_
  refine SW.newO (pc' := 8) dX2_init_5 rfl nX2_7 l1 (n' := (k + 2)) (cs' := 1) (ss' := 4) rfl rfl rfl (by decide) (by decide) ?_
  refine SW.s (fun kk => SP.dup (pc' := 9) dX2_init_8 rfl rfl kk) ?_
  refine SW.callI (pc' := 12) dX2_init_9 rfl cX2_9 mX5_init vX5_init rfl rfl (by decide) (n' := (k + 6)) (cs' := 5) (ss' := 51) rfl rfl rfl (by decide) (by decide) (Nat.le_of_ble_eq_true rfl) (c_Places (k := (k + 1)) l1 i1 l2 i2 l3 i3 l4 l5) ?_
  refine SW.putR (t := (k + 1)) (pc' := 15) dX2_init_12 rfl fX2_10 l0 (by omega) rfl (fun q h => by cases h; rfl) (Or.inl ⟨_, rfl⟩) (fp_ini_of i0 rfl) ?_
  refine SW.s (fun kk => SP.aload_n (pc' := 16) dX2_init_15 rfl rfl rfl kk) ?_
  refine SW.newO (pc' := 19) dX2_init_16 rfl nX2_16 l6 (n' := (k + 7)) (cs' := 6) (ss' := 56) rfl rfl rfl (by decide) (by decide) ?_
  refine SW.s (fun kk => SP.dup (pc' := 20) dX2_init_19 rfl rfl kk) ?_
  refine SW.callIN (pc' := 23) dX2_init_20 rfl cX2_18 mX10_init vX10_init rfl rfl (by decide) (n' := (k + 11)) (cs' := 10) (ss' := 104) rfl rfl rfl (by decide) (by decide) (Nat.le_of_ble_eq_true rfl) (c_Visits (k := (k + 6)) l6 i6 l7 l8 l9 l10) ?_
  refine SW.putR (t := (k + 6)) (pc' := 26) dX2_init_23 rfl fX2_19 l0 (by omega) rfl (fun q h => by cases h; rfl) (Or.inl ⟨_, rfl⟩) (fp_ini_of i0 rfl) ?_
  refine SW.s (fun kk => SP.aload_n (pc' := 27) dX2_init_26 rfl rfl rfl kk) ?_
  refine SW.newO (pc' := 30) dX2_init_27 rfl nX2_23 l11 (n' := (k + 12)) (cs' := 11) (ss' := 106) rfl rfl rfl (by decide) (by decide) ?_
  refine SW.s (fun kk => SP.dup (pc' := 31) dX2_init_30 rfl rfl kk) ?_
  refine SW.callIN (pc' := 34) dX2_init_31 rfl cX2_25 mX3_init vX3_init rfl rfl (by decide) (n' := (k + 13)) (cs' := 12) (ss' := 114) rfl rfl rfl (by decide) (by decide) (Nat.le_of_ble_eq_true rfl) (c_Notes (k := (k + 11)) l11 i11 l12) ?_
  refine SW.putR (t := (k + 11)) (pc' := 37) dX2_init_34 rfl fX2_26 l0 (by omega) rfl (fun q h => by cases h; rfl) (Or.inl ⟨_, rfl⟩) (fp_ini_of i0 rfl) ?_
  exact SW.ret dX2_init_37 rfl
def wReader (L : List (Nat × Nat)) : List (Nat × Nat) := (2, 5) :: (2, 2) :: wVisits 12 ((2, 1) :: wPlaces 7 ((2, 0) :: wGoods 3 (L)))
theorem wReader_mem {x : Nat × Nat} {L : List (Nat × Nat)} (h : x ∈ L) : x ∈ wReader L := List.mem_cons_of_mem _ (List.mem_cons_of_mem _ (wVisits_mem (List.mem_cons_of_mem _ (wPlaces_mem (List.mem_cons_of_mem _ (wGoods_mem (h)))))))
theorem c_Reader {l : Launch} {G : fp_WG} {L : List (Nat × Nat)}  : fp_OkW l G 2 3 15 168 kX6_init [rV G 2] L (wReader L) := by
  refine fp_OkW.of (r := 0) (nf := 18) rfl (Nat.le_of_ble_eq_true rfl) rfl rfl ?_
  refine SW.s (fun kk => SP.aload_n (pc' := 1) dX6_init_0 rfl rfl rfl kk) ?_
  refine SW.s (fun kk => SP.objInit (pc' := 4) dX6_init_1 rfl oX6_3 (by decide) (Nat.le_of_ble_eq_true rfl) kk) ?_
  refine SW.s (fun kk => SP.aload_n (pc' := 5) dX6_init_4 rfl rfl rfl kk) ?_
  refine SW.newO (pc' := 8) dX6_init_5 rfl nX6_9 rfl (n' := 4) (cs' := 1) (ss' := 6) rfl rfl rfl (by decide) (by decide) ?_
  refine SW.s (fun kk => SP.dup (pc' := 9) dX6_init_8 rfl rfl kk) ?_
  refine SW.callIN (pc' := 12) dX6_init_9 rfl cX6_11 mX1_init vX1_init rfl rfl (by decide) (n' := 7) (cs' := 4) (ss' := 64) rfl rfl rfl (by decide) (by decide) (Nat.le_of_ble_eq_true rfl) (c_Goods (k := 3) rfl (by decide +kernel) rfl rfl rfl) ?_
  refine SW.putR (t := 3) (pc' := 15) dX6_init_12 rfl fX6_12 rfl (by decide) rfl (fun q h => by cases h; rfl) (Or.inl ⟨_, rfl⟩) (by decide +kernel) ?_
  refine SW.s (fun kk => SP.aload_n (pc' := 16) dX6_init_15 rfl rfl rfl kk) ?_
  refine SW.newO (pc' := 19) dX6_init_16 rfl nX6_18 rfl (n' := 8) (cs' := 5) (ss' := 68) rfl rfl rfl (by decide) (by decide) ?_
  refine SW.s (fun kk => SP.dup (pc' := 20) dX6_init_19 rfl rfl kk) ?_
  refine SW.callI (pc' := 23) dX6_init_20 rfl cX6_20 mX5_init vX5_init rfl rfl (by decide) (n' := 12) (cs' := 9) (ss' := 115) rfl rfl rfl (by decide) (by decide) (Nat.le_of_ble_eq_true rfl) (c_Places (k := 7) rfl (by decide +kernel) rfl (by decide +kernel) rfl (by decide +kernel) rfl rfl) ?_
  refine SW.putR (t := 7) (pc' := 26) dX6_init_23 rfl fX6_21 rfl (by decide) rfl (fun q h => by cases h; rfl) (Or.inl ⟨_, rfl⟩) (by decide +kernel) ?_
  refine SW.s (fun kk => SP.aload_n (pc' := 27) dX6_init_26 rfl rfl rfl kk) ?_
  refine SW.newO (pc' := 30) dX6_init_27 rfl nX6_25 rfl (n' := 13) (cs' := 10) (ss' := 120) rfl rfl rfl (by decide) (by decide) ?_
  refine SW.s (fun kk => SP.dup (pc' := 31) dX6_init_30 rfl rfl kk) ?_
  refine SW.callIN (pc' := 34) dX6_init_31 rfl cX6_27 mX10_init vX10_init rfl rfl (by decide) (n' := 17) (cs' := 14) (ss' := 168) rfl rfl rfl (by decide) (by decide) (Nat.le_of_ble_eq_true rfl) (c_Visits (k := 12) rfl (by decide +kernel) rfl rfl rfl rfl) ?_
  refine SW.putR (t := 12) (pc' := 37) dX6_init_34 rfl fX6_28 rfl (by decide) rfl (fun q h => by cases h; rfl) (Or.inl ⟨_, rfl⟩) (by decide +kernel) ?_
  refine SW.s (fun kk => SP.aload_n (pc' := 38) dX6_init_37 rfl rfl rfl kk) ?_
  refine SW.s (fun kk => SP.iconst (pc' := 39) dX6_init_38 rfl kk) ?_
  refine SW.newB (pc' := 41) dX6_init_39 rfl rfl rfl (n' := 18) (cs' := 15) (ss' := 168) rfl rfl rfl (by decide) (by decide) ?_
  refine SW.putR (t := 17) (pc' := 44) dX6_init_41 rfl fX6_32 rfl (by decide) rfl (fun q h => by cases h; rfl) (Or.inr ⟨_, rfl⟩) (by decide +kernel) ?_
  exact SW.ret dX6_init_44 rfl
def wRuns (L : List (Nat × Nat)) : List (Nat × Nat) := (36, 2) :: wPlaces 116 ((36, 1) :: wPlaces 111 ((36, 0) :: wPlaces 106 ((35, 12) :: wPlaces 101 ((35, 11) :: wPlaces 96 ((35, 10) :: wPlaces 91 ((35, 9) :: wPlaces 86 ((35, 8) :: wPlaces 81 ((35, 7) :: wPlaces 76 ((35, 6) :: wPlaces 71 ((35, 5) :: wPlaces 66 ((35, 4) :: wPlaces 61 ((35, 3) :: wPlaces 56 ((35, 2) :: wPlaces 51 ((35, 1) :: wPlaces 46 ((35, 0) :: wPlaces 41 ((34, 6) :: (34, 5) :: (34, 4) :: (34, 2) :: (34, 1) :: (34, 0) :: L))))))))))))))))
theorem wRuns_mem {x : Nat × Nat} {L : List (Nat × Nat)} (h : x ∈ L) : x ∈ wRuns L := List.mem_cons_of_mem _ (wPlaces_mem (List.mem_cons_of_mem _ (wPlaces_mem (List.mem_cons_of_mem _ (wPlaces_mem (List.mem_cons_of_mem _ (wPlaces_mem (List.mem_cons_of_mem _ (wPlaces_mem (List.mem_cons_of_mem _ (wPlaces_mem (List.mem_cons_of_mem _ (wPlaces_mem (List.mem_cons_of_mem _ (wPlaces_mem (List.mem_cons_of_mem _ (wPlaces_mem (List.mem_cons_of_mem _ (wPlaces_mem (List.mem_cons_of_mem _ (wPlaces_mem (List.mem_cons_of_mem _ (wPlaces_mem (List.mem_cons_of_mem _ (wPlaces_mem (List.mem_cons_of_mem _ (wPlaces_mem (List.mem_cons_of_mem _ (wPlaces_mem (List.mem_cons_of_mem _ (wPlaces_mem (List.mem_cons_of_mem _ (List.mem_cons_of_mem _ (List.mem_cons_of_mem _ (List.mem_cons_of_mem _ (List.mem_cons_of_mem _ (List.mem_cons_of_mem _ (h))))))))))))))))))))))))))))))))))))))
theorem c_Runs {l : Launch} {G : fp_WG} {L : List (Nat × Nat)}  : fp_OkW l G 2 35 86 869 kX8_init [rV G 34] L (wRuns L) := by
  refine fp_OkW.of (r := 1) (nf := 121) rfl (Nat.le_of_ble_eq_true rfl) rfl rfl ?_
  refine SW.s (fun kk => SP.aload_n (pc' := 1) dX8_init_0 rfl rfl rfl kk) ?_
  refine SW.s (fun kk => SP.objInit (pc' := 4) dX8_init_1 rfl oX8_3 (by decide) (Nat.le_of_ble_eq_true rfl) kk) ?_
  refine SW.s (fun kk => SP.aload_n (pc' := 5) dX8_init_4 rfl rfl rfl kk) ?_
  refine SW.s (fun kk => SP.bipush (pc' := 7) dX8_init_5 rfl rfl kk) ?_
  refine SW.anewP (pc' := 10) dX8_init_7 rfl kX8_9 rfl rfl (n' := 36) (cs' := 1) (ss' := 13) rfl rfl rfl (by decide) (by decide) ?_
  refine SW.putR (t := 35) (pc' := 13) dX8_init_10 rfl fX8_11 rfl (by decide) rfl (fun q h => by cases h; rfl) (Or.inr ⟨_, rfl⟩) (by decide +kernel) ?_
  refine SW.s (fun kk => SP.aload_n (pc' := 14) dX8_init_13 rfl rfl rfl kk) ?_
  refine SW.s (fun kk => SP.iconst (pc' := 15) dX8_init_14 rfl kk) ?_
  refine SW.anewP (pc' := 18) dX8_init_15 rfl kX8_9 rfl rfl (n' := 37) (cs' := 2) (ss' := 16) rfl rfl rfl (by decide) (by decide) ?_
  refine SW.putR (t := 36) (pc' := 21) dX8_init_18 rfl fX8_17 rfl (by decide) rfl (fun q h => by cases h; rfl) (Or.inr ⟨_, rfl⟩) (by decide +kernel) ?_
  refine SW.s (fun kk => SP.aload_n (pc' := 22) dX8_init_21 rfl rfl rfl kk) ?_
  refine SW.s (fun kk => SP.iconst (pc' := 23) dX8_init_22 rfl kk) ?_
  refine SW.newZ (pc' := 25) dX8_init_23 rfl rfl rfl (n' := 38) (cs' := 3) (ss' := 19) rfl rfl rfl (by decide) (by decide) ?_
  refine SW.putR (t := 37) (pc' := 28) dX8_init_25 rfl fX8_20 rfl (by decide) rfl (fun q h => by cases h; rfl) (Or.inr ⟨_, rfl⟩) (by decide +kernel) ?_
  refine SW.s (fun kk => SP.aload_n (pc' := 29) dX8_init_28 rfl rfl rfl kk) ?_
  refine SW.s (fun kk => SP.bipush (pc' := 31) dX8_init_29 rfl rfl kk) ?_
  refine SW.newI (pc' := 33) dX8_init_31 rfl rfl rfl (n' := 39) (cs' := 4) (ss' := 31) rfl rfl rfl (by decide) (by decide) ?_
  refine SW.putR (t := 38) (pc' := 36) dX8_init_33 rfl fX8_24 rfl (by decide) rfl (fun q h => by cases h; rfl) (Or.inr ⟨_, rfl⟩) (by decide +kernel) ?_
  refine SW.s (fun kk => SP.aload_n (pc' := 37) dX8_init_36 rfl rfl rfl kk) ?_
  refine SW.s (fun kk => SP.bipush (pc' := 39) dX8_init_37 rfl rfl kk) ?_
  refine SW.newI (pc' := 41) dX8_init_39 rfl rfl rfl (n' := 40) (cs' := 5) (ss' := 43) rfl rfl rfl (by decide) (by decide) ?_
  refine SW.putR (t := 39) (pc' := 44) dX8_init_41 rfl fX8_28 rfl (by decide) rfl (fun q h => by cases h; rfl) (Or.inr ⟨_, rfl⟩) (by decide +kernel) ?_
  refine SW.s (fun kk => SP.aload_n (pc' := 45) dX8_init_44 rfl rfl rfl kk) ?_
  refine SW.s (fun kk => SP.bipush (pc' := 47) dX8_init_45 rfl rfl kk) ?_
  refine SW.newJ (pc' := 49) dX8_init_47 rfl rfl rfl (n' := 41) (cs' := 6) (ss' := 53) rfl rfl rfl (by decide) (by decide) ?_
  refine SW.putR (t := 40) (pc' := 52) dX8_init_49 rfl fX8_31 rfl (by decide) rfl (fun q h => by cases h; rfl) (Or.inr ⟨_, rfl⟩) (by decide +kernel) ?_
  refine SW.s (fun kk => SP.iconst (pc' := 53) dX8_init_52 rfl kk) ?_
  refine SW.s (fun kk => SP.istore_n (LL' := [_, _]) (pc' := 54) dX8_init_53 rfl (by decide) rfl rfl rfl kk) ?_
  refine SW.s (fun kk => SP.iload_n (pc' := 55) dX8_init_54 rfl rfl rfl kk) ?_
  refine SW.s (fun kk => SP.bipush (pc' := 57) dX8_init_55 rfl rfl kk) ?_
  refine SW.s (fun kk => SP.icmp_gt (tgt := 79) (pc' := 60) dX8_init_57 (by decide) rfl (by unfold fp_rng; decide) (by unfold fp_rng; decide) (fun h => absurd h (by decide)) (fun _ => kk)) ?_
  refine SW.s (fun kk => SP.aload_n (pc' := 61) dX8_init_60 rfl rfl rfl kk) ?_
  refine SW.getR (t := 35) (pc' := 64) dX8_init_61 rfl fX8_11 rfl (by decide) (by decide +kernel) (List.mem_cons_of_mem _ (List.mem_cons_of_mem _ (List.mem_cons_of_mem _ (List.mem_cons_of_mem _ (List.mem_cons_of_mem _ List.mem_cons_self))))) ?_
  refine SW.s (fun kk => SP.iload_n (pc' := 65) dX8_init_64 rfl rfl rfl kk) ?_
  refine SW.newO (pc' := 68) dX8_init_65 rfl nX8_9 rfl (n' := 42) (cs' := 7) (ss' := 57) rfl rfl rfl (by decide) (by decide) ?_
  refine SW.s (fun kk => SP.dup (pc' := 69) dX8_init_68 rfl rfl kk) ?_
  refine SW.callI (pc' := 72) dX8_init_69 rfl cX8_35 mX5_init vX5_init rfl rfl (by decide) (n' := 46) (cs' := 11) (ss' := 104) rfl rfl rfl (by decide) (by decide) (Nat.le_of_ble_eq_true rfl) (c_Places (k := 41) rfl (by decide +kernel) rfl (by decide +kernel) rfl (by decide +kernel) rfl rfl) ?_
  refine SW.aastP (i := 0) (t := 41) (pc' := 73) dX8_init_72 rfl rfl (by decide) rfl (by decide) rfl (by decide) (by decide +kernel) ?_
  refine SW.s (fun kk => SP.iinc (LL' := [_, some (iV 1)]) (pc' := 76) dX8_init_73 rfl (by decide) rfl rfl rfl kk) ?_
  refine SW.s (fun kk => SP.goto (pc' := 54) dX8_init_76 (by decide) kk) ?_
  refine SW.s (fun kk => SP.iload_n (pc' := 55) dX8_init_54 rfl rfl rfl kk) ?_
  refine SW.s (fun kk => SP.bipush (pc' := 57) dX8_init_55 rfl rfl kk) ?_
  refine SW.s (fun kk => SP.icmp_gt (tgt := 79) (pc' := 60) dX8_init_57 (by decide) rfl (by unfold fp_rng; decide) (by unfold fp_rng; decide) (fun h => absurd h (by decide)) (fun _ => kk)) ?_
  refine SW.s (fun kk => SP.aload_n (pc' := 61) dX8_init_60 rfl rfl rfl kk) ?_
  refine SW.getR (t := 35) (pc' := 64) dX8_init_61 rfl fX8_11 rfl (by decide) (by decide +kernel) (List.mem_cons_of_mem _ (wPlaces_mem (List.mem_cons_of_mem _ (List.mem_cons_of_mem _ (List.mem_cons_of_mem _ (List.mem_cons_of_mem _ (List.mem_cons_of_mem _ List.mem_cons_self))))))) ?_
  refine SW.s (fun kk => SP.iload_n (pc' := 65) dX8_init_64 rfl rfl rfl kk) ?_
  refine SW.newO (pc' := 68) dX8_init_65 rfl nX8_9 rfl (n' := 47) (cs' := 12) (ss' := 108) rfl rfl rfl (by decide) (by decide) ?_
  refine SW.s (fun kk => SP.dup (pc' := 69) dX8_init_68 rfl rfl kk) ?_
  refine SW.callI (pc' := 72) dX8_init_69 rfl cX8_35 mX5_init vX5_init rfl rfl (by decide) (n' := 51) (cs' := 16) (ss' := 155) rfl rfl rfl (by decide) (by decide) (Nat.le_of_ble_eq_true rfl) (c_Places (k := 46) rfl (by decide +kernel) rfl (by decide +kernel) rfl (by decide +kernel) rfl rfl) ?_
  refine SW.aastP (i := 1) (t := 46) (pc' := 73) dX8_init_72 rfl rfl (by decide) rfl (by decide) rfl (by decide) (by decide +kernel) ?_
  refine SW.s (fun kk => SP.iinc (LL' := [_, some (iV 2)]) (pc' := 76) dX8_init_73 rfl (by decide) rfl rfl rfl kk) ?_
  refine SW.s (fun kk => SP.goto (pc' := 54) dX8_init_76 (by decide) kk) ?_
  refine SW.s (fun kk => SP.iload_n (pc' := 55) dX8_init_54 rfl rfl rfl kk) ?_
  refine SW.s (fun kk => SP.bipush (pc' := 57) dX8_init_55 rfl rfl kk) ?_
  refine SW.s (fun kk => SP.icmp_gt (tgt := 79) (pc' := 60) dX8_init_57 (by decide) rfl (by unfold fp_rng; decide) (by unfold fp_rng; decide) (fun h => absurd h (by decide)) (fun _ => kk)) ?_
  refine SW.s (fun kk => SP.aload_n (pc' := 61) dX8_init_60 rfl rfl rfl kk) ?_
  refine SW.getR (t := 35) (pc' := 64) dX8_init_61 rfl fX8_11 rfl (by decide) (by decide +kernel) (List.mem_cons_of_mem _ (wPlaces_mem (List.mem_cons_of_mem _ (wPlaces_mem (List.mem_cons_of_mem _ (List.mem_cons_of_mem _ (List.mem_cons_of_mem _ (List.mem_cons_of_mem _ (List.mem_cons_of_mem _ List.mem_cons_self))))))))) ?_
  refine SW.s (fun kk => SP.iload_n (pc' := 65) dX8_init_64 rfl rfl rfl kk) ?_
  refine SW.newO (pc' := 68) dX8_init_65 rfl nX8_9 rfl (n' := 52) (cs' := 17) (ss' := 159) rfl rfl rfl (by decide) (by decide) ?_
  refine SW.s (fun kk => SP.dup (pc' := 69) dX8_init_68 rfl rfl kk) ?_
  refine SW.callI (pc' := 72) dX8_init_69 rfl cX8_35 mX5_init vX5_init rfl rfl (by decide) (n' := 56) (cs' := 21) (ss' := 206) rfl rfl rfl (by decide) (by decide) (Nat.le_of_ble_eq_true rfl) (c_Places (k := 51) rfl (by decide +kernel) rfl (by decide +kernel) rfl (by decide +kernel) rfl rfl) ?_
  refine SW.aastP (i := 2) (t := 51) (pc' := 73) dX8_init_72 rfl rfl (by decide) rfl (by decide) rfl (by decide) (by decide +kernel) ?_
  refine SW.s (fun kk => SP.iinc (LL' := [_, some (iV 3)]) (pc' := 76) dX8_init_73 rfl (by decide) rfl rfl rfl kk) ?_
  refine SW.s (fun kk => SP.goto (pc' := 54) dX8_init_76 (by decide) kk) ?_
  refine SW.s (fun kk => SP.iload_n (pc' := 55) dX8_init_54 rfl rfl rfl kk) ?_
  refine SW.s (fun kk => SP.bipush (pc' := 57) dX8_init_55 rfl rfl kk) ?_
  refine SW.s (fun kk => SP.icmp_gt (tgt := 79) (pc' := 60) dX8_init_57 (by decide) rfl (by unfold fp_rng; decide) (by unfold fp_rng; decide) (fun h => absurd h (by decide)) (fun _ => kk)) ?_
  refine SW.s (fun kk => SP.aload_n (pc' := 61) dX8_init_60 rfl rfl rfl kk) ?_
  refine SW.getR (t := 35) (pc' := 64) dX8_init_61 rfl fX8_11 rfl (by decide) (by decide +kernel) (List.mem_cons_of_mem _ (wPlaces_mem (List.mem_cons_of_mem _ (wPlaces_mem (List.mem_cons_of_mem _ (wPlaces_mem (List.mem_cons_of_mem _ (List.mem_cons_of_mem _ (List.mem_cons_of_mem _ (List.mem_cons_of_mem _ (List.mem_cons_of_mem _ List.mem_cons_self))))))))))) ?_
  refine SW.s (fun kk => SP.iload_n (pc' := 65) dX8_init_64 rfl rfl rfl kk) ?_
  refine SW.newO (pc' := 68) dX8_init_65 rfl nX8_9 rfl (n' := 57) (cs' := 22) (ss' := 210) rfl rfl rfl (by decide) (by decide) ?_
  refine SW.s (fun kk => SP.dup (pc' := 69) dX8_init_68 rfl rfl kk) ?_
  refine SW.callI (pc' := 72) dX8_init_69 rfl cX8_35 mX5_init vX5_init rfl rfl (by decide) (n' := 61) (cs' := 26) (ss' := 257) rfl rfl rfl (by decide) (by decide) (Nat.le_of_ble_eq_true rfl) (c_Places (k := 56) rfl (by decide +kernel) rfl (by decide +kernel) rfl (by decide +kernel) rfl rfl) ?_
  refine SW.aastP (i := 3) (t := 56) (pc' := 73) dX8_init_72 rfl rfl (by decide) rfl (by decide) rfl (by decide) (by decide +kernel) ?_
  refine SW.s (fun kk => SP.iinc (LL' := [_, some (iV 4)]) (pc' := 76) dX8_init_73 rfl (by decide) rfl rfl rfl kk) ?_
  refine SW.s (fun kk => SP.goto (pc' := 54) dX8_init_76 (by decide) kk) ?_
  refine SW.s (fun kk => SP.iload_n (pc' := 55) dX8_init_54 rfl rfl rfl kk) ?_
  refine SW.s (fun kk => SP.bipush (pc' := 57) dX8_init_55 rfl rfl kk) ?_
  refine SW.s (fun kk => SP.icmp_gt (tgt := 79) (pc' := 60) dX8_init_57 (by decide) rfl (by unfold fp_rng; decide) (by unfold fp_rng; decide) (fun h => absurd h (by decide)) (fun _ => kk)) ?_
  refine SW.s (fun kk => SP.aload_n (pc' := 61) dX8_init_60 rfl rfl rfl kk) ?_
  refine SW.getR (t := 35) (pc' := 64) dX8_init_61 rfl fX8_11 rfl (by decide) (by decide +kernel) (List.mem_cons_of_mem _ (wPlaces_mem (List.mem_cons_of_mem _ (wPlaces_mem (List.mem_cons_of_mem _ (wPlaces_mem (List.mem_cons_of_mem _ (wPlaces_mem (List.mem_cons_of_mem _ (List.mem_cons_of_mem _ (List.mem_cons_of_mem _ (List.mem_cons_of_mem _ (List.mem_cons_of_mem _ List.mem_cons_self))))))))))))) ?_
  refine SW.s (fun kk => SP.iload_n (pc' := 65) dX8_init_64 rfl rfl rfl kk) ?_
  refine SW.newO (pc' := 68) dX8_init_65 rfl nX8_9 rfl (n' := 62) (cs' := 27) (ss' := 261) rfl rfl rfl (by decide) (by decide) ?_
  refine SW.s (fun kk => SP.dup (pc' := 69) dX8_init_68 rfl rfl kk) ?_
  refine SW.callI (pc' := 72) dX8_init_69 rfl cX8_35 mX5_init vX5_init rfl rfl (by decide) (n' := 66) (cs' := 31) (ss' := 308) rfl rfl rfl (by decide) (by decide) (Nat.le_of_ble_eq_true rfl) (c_Places (k := 61) rfl (by decide +kernel) rfl (by decide +kernel) rfl (by decide +kernel) rfl rfl) ?_
  refine SW.aastP (i := 4) (t := 61) (pc' := 73) dX8_init_72 rfl rfl (by decide) rfl (by decide) rfl (by decide) (by decide +kernel) ?_
  refine SW.s (fun kk => SP.iinc (LL' := [_, some (iV 5)]) (pc' := 76) dX8_init_73 rfl (by decide) rfl rfl rfl kk) ?_
  refine SW.s (fun kk => SP.goto (pc' := 54) dX8_init_76 (by decide) kk) ?_
  refine SW.s (fun kk => SP.iload_n (pc' := 55) dX8_init_54 rfl rfl rfl kk) ?_
  refine SW.s (fun kk => SP.bipush (pc' := 57) dX8_init_55 rfl rfl kk) ?_
  refine SW.s (fun kk => SP.icmp_gt (tgt := 79) (pc' := 60) dX8_init_57 (by decide) rfl (by unfold fp_rng; decide) (by unfold fp_rng; decide) (fun h => absurd h (by decide)) (fun _ => kk)) ?_
  refine SW.s (fun kk => SP.aload_n (pc' := 61) dX8_init_60 rfl rfl rfl kk) ?_
  refine SW.getR (t := 35) (pc' := 64) dX8_init_61 rfl fX8_11 rfl (by decide) (by decide +kernel) (List.mem_cons_of_mem _ (wPlaces_mem (List.mem_cons_of_mem _ (wPlaces_mem (List.mem_cons_of_mem _ (wPlaces_mem (List.mem_cons_of_mem _ (wPlaces_mem (List.mem_cons_of_mem _ (wPlaces_mem (List.mem_cons_of_mem _ (List.mem_cons_of_mem _ (List.mem_cons_of_mem _ (List.mem_cons_of_mem _ (List.mem_cons_of_mem _ List.mem_cons_self))))))))))))))) ?_
  refine SW.s (fun kk => SP.iload_n (pc' := 65) dX8_init_64 rfl rfl rfl kk) ?_
  refine SW.newO (pc' := 68) dX8_init_65 rfl nX8_9 rfl (n' := 67) (cs' := 32) (ss' := 312) rfl rfl rfl (by decide) (by decide) ?_
  refine SW.s (fun kk => SP.dup (pc' := 69) dX8_init_68 rfl rfl kk) ?_
  refine SW.callI (pc' := 72) dX8_init_69 rfl cX8_35 mX5_init vX5_init rfl rfl (by decide) (n' := 71) (cs' := 36) (ss' := 359) rfl rfl rfl (by decide) (by decide) (Nat.le_of_ble_eq_true rfl) (c_Places (k := 66) rfl (by decide +kernel) rfl (by decide +kernel) rfl (by decide +kernel) rfl rfl) ?_
  refine SW.aastP (i := 5) (t := 66) (pc' := 73) dX8_init_72 rfl rfl (by decide) rfl (by decide) rfl (by decide) (by decide +kernel) ?_
  refine SW.s (fun kk => SP.iinc (LL' := [_, some (iV 6)]) (pc' := 76) dX8_init_73 rfl (by decide) rfl rfl rfl kk) ?_
  refine SW.s (fun kk => SP.goto (pc' := 54) dX8_init_76 (by decide) kk) ?_
  refine SW.s (fun kk => SP.iload_n (pc' := 55) dX8_init_54 rfl rfl rfl kk) ?_
  refine SW.s (fun kk => SP.bipush (pc' := 57) dX8_init_55 rfl rfl kk) ?_
  refine SW.s (fun kk => SP.icmp_gt (tgt := 79) (pc' := 60) dX8_init_57 (by decide) rfl (by unfold fp_rng; decide) (by unfold fp_rng; decide) (fun h => absurd h (by decide)) (fun _ => kk)) ?_
  refine SW.s (fun kk => SP.aload_n (pc' := 61) dX8_init_60 rfl rfl rfl kk) ?_
  refine SW.getR (t := 35) (pc' := 64) dX8_init_61 rfl fX8_11 rfl (by decide) (by decide +kernel) (List.mem_cons_of_mem _ (wPlaces_mem (List.mem_cons_of_mem _ (wPlaces_mem (List.mem_cons_of_mem _ (wPlaces_mem (List.mem_cons_of_mem _ (wPlaces_mem (List.mem_cons_of_mem _ (wPlaces_mem (List.mem_cons_of_mem _ (wPlaces_mem (List.mem_cons_of_mem _ (List.mem_cons_of_mem _ (List.mem_cons_of_mem _ (List.mem_cons_of_mem _ (List.mem_cons_of_mem _ List.mem_cons_self))))))))))))))))) ?_
  refine SW.s (fun kk => SP.iload_n (pc' := 65) dX8_init_64 rfl rfl rfl kk) ?_
  refine SW.newO (pc' := 68) dX8_init_65 rfl nX8_9 rfl (n' := 72) (cs' := 37) (ss' := 363) rfl rfl rfl (by decide) (by decide) ?_
  refine SW.s (fun kk => SP.dup (pc' := 69) dX8_init_68 rfl rfl kk) ?_
  refine SW.callI (pc' := 72) dX8_init_69 rfl cX8_35 mX5_init vX5_init rfl rfl (by decide) (n' := 76) (cs' := 41) (ss' := 410) rfl rfl rfl (by decide) (by decide) (Nat.le_of_ble_eq_true rfl) (c_Places (k := 71) rfl (by decide +kernel) rfl (by decide +kernel) rfl (by decide +kernel) rfl rfl) ?_
  refine SW.aastP (i := 6) (t := 71) (pc' := 73) dX8_init_72 rfl rfl (by decide) rfl (by decide) rfl (by decide) (by decide +kernel) ?_
  refine SW.s (fun kk => SP.iinc (LL' := [_, some (iV 7)]) (pc' := 76) dX8_init_73 rfl (by decide) rfl rfl rfl kk) ?_
  refine SW.s (fun kk => SP.goto (pc' := 54) dX8_init_76 (by decide) kk) ?_
  refine SW.s (fun kk => SP.iload_n (pc' := 55) dX8_init_54 rfl rfl rfl kk) ?_
  refine SW.s (fun kk => SP.bipush (pc' := 57) dX8_init_55 rfl rfl kk) ?_
  refine SW.s (fun kk => SP.icmp_gt (tgt := 79) (pc' := 60) dX8_init_57 (by decide) rfl (by unfold fp_rng; decide) (by unfold fp_rng; decide) (fun h => absurd h (by decide)) (fun _ => kk)) ?_
  refine SW.s (fun kk => SP.aload_n (pc' := 61) dX8_init_60 rfl rfl rfl kk) ?_
  refine SW.getR (t := 35) (pc' := 64) dX8_init_61 rfl fX8_11 rfl (by decide) (by decide +kernel) (List.mem_cons_of_mem _ (wPlaces_mem (List.mem_cons_of_mem _ (wPlaces_mem (List.mem_cons_of_mem _ (wPlaces_mem (List.mem_cons_of_mem _ (wPlaces_mem (List.mem_cons_of_mem _ (wPlaces_mem (List.mem_cons_of_mem _ (wPlaces_mem (List.mem_cons_of_mem _ (wPlaces_mem (List.mem_cons_of_mem _ (List.mem_cons_of_mem _ (List.mem_cons_of_mem _ (List.mem_cons_of_mem _ (List.mem_cons_of_mem _ List.mem_cons_self))))))))))))))))))) ?_
  refine SW.s (fun kk => SP.iload_n (pc' := 65) dX8_init_64 rfl rfl rfl kk) ?_
  refine SW.newO (pc' := 68) dX8_init_65 rfl nX8_9 rfl (n' := 77) (cs' := 42) (ss' := 414) rfl rfl rfl (by decide) (by decide) ?_
  refine SW.s (fun kk => SP.dup (pc' := 69) dX8_init_68 rfl rfl kk) ?_
  refine SW.callI (pc' := 72) dX8_init_69 rfl cX8_35 mX5_init vX5_init rfl rfl (by decide) (n' := 81) (cs' := 46) (ss' := 461) rfl rfl rfl (by decide) (by decide) (Nat.le_of_ble_eq_true rfl) (c_Places (k := 76) rfl (by decide +kernel) rfl (by decide +kernel) rfl (by decide +kernel) rfl rfl) ?_
  refine SW.aastP (i := 7) (t := 76) (pc' := 73) dX8_init_72 rfl rfl (by decide) rfl (by decide) rfl (by decide) (by decide +kernel) ?_
  refine SW.s (fun kk => SP.iinc (LL' := [_, some (iV 8)]) (pc' := 76) dX8_init_73 rfl (by decide) rfl rfl rfl kk) ?_
  refine SW.s (fun kk => SP.goto (pc' := 54) dX8_init_76 (by decide) kk) ?_
  refine SW.s (fun kk => SP.iload_n (pc' := 55) dX8_init_54 rfl rfl rfl kk) ?_
  refine SW.s (fun kk => SP.bipush (pc' := 57) dX8_init_55 rfl rfl kk) ?_
  refine SW.s (fun kk => SP.icmp_gt (tgt := 79) (pc' := 60) dX8_init_57 (by decide) rfl (by unfold fp_rng; decide) (by unfold fp_rng; decide) (fun h => absurd h (by decide)) (fun _ => kk)) ?_
  refine SW.s (fun kk => SP.aload_n (pc' := 61) dX8_init_60 rfl rfl rfl kk) ?_
  refine SW.getR (t := 35) (pc' := 64) dX8_init_61 rfl fX8_11 rfl (by decide) (by decide +kernel) (List.mem_cons_of_mem _ (wPlaces_mem (List.mem_cons_of_mem _ (wPlaces_mem (List.mem_cons_of_mem _ (wPlaces_mem (List.mem_cons_of_mem _ (wPlaces_mem (List.mem_cons_of_mem _ (wPlaces_mem (List.mem_cons_of_mem _ (wPlaces_mem (List.mem_cons_of_mem _ (wPlaces_mem (List.mem_cons_of_mem _ (wPlaces_mem (List.mem_cons_of_mem _ (List.mem_cons_of_mem _ (List.mem_cons_of_mem _ (List.mem_cons_of_mem _ (List.mem_cons_of_mem _ List.mem_cons_self))))))))))))))))))))) ?_
  refine SW.s (fun kk => SP.iload_n (pc' := 65) dX8_init_64 rfl rfl rfl kk) ?_
  refine SW.newO (pc' := 68) dX8_init_65 rfl nX8_9 rfl (n' := 82) (cs' := 47) (ss' := 465) rfl rfl rfl (by decide) (by decide) ?_
  refine SW.s (fun kk => SP.dup (pc' := 69) dX8_init_68 rfl rfl kk) ?_
  refine SW.callI (pc' := 72) dX8_init_69 rfl cX8_35 mX5_init vX5_init rfl rfl (by decide) (n' := 86) (cs' := 51) (ss' := 512) rfl rfl rfl (by decide) (by decide) (Nat.le_of_ble_eq_true rfl) (c_Places (k := 81) rfl (by decide +kernel) rfl (by decide +kernel) rfl (by decide +kernel) rfl rfl) ?_
  refine SW.aastP (i := 8) (t := 81) (pc' := 73) dX8_init_72 rfl rfl (by decide) rfl (by decide) rfl (by decide) (by decide +kernel) ?_
  refine SW.s (fun kk => SP.iinc (LL' := [_, some (iV 9)]) (pc' := 76) dX8_init_73 rfl (by decide) rfl rfl rfl kk) ?_
  refine SW.s (fun kk => SP.goto (pc' := 54) dX8_init_76 (by decide) kk) ?_
  refine SW.s (fun kk => SP.iload_n (pc' := 55) dX8_init_54 rfl rfl rfl kk) ?_
  refine SW.s (fun kk => SP.bipush (pc' := 57) dX8_init_55 rfl rfl kk) ?_
  refine SW.s (fun kk => SP.icmp_gt (tgt := 79) (pc' := 60) dX8_init_57 (by decide) rfl (by unfold fp_rng; decide) (by unfold fp_rng; decide) (fun h => absurd h (by decide)) (fun _ => kk)) ?_
  refine SW.s (fun kk => SP.aload_n (pc' := 61) dX8_init_60 rfl rfl rfl kk) ?_
  refine SW.getR (t := 35) (pc' := 64) dX8_init_61 rfl fX8_11 rfl (by decide) (by decide +kernel) (List.mem_cons_of_mem _ (wPlaces_mem (List.mem_cons_of_mem _ (wPlaces_mem (List.mem_cons_of_mem _ (wPlaces_mem (List.mem_cons_of_mem _ (wPlaces_mem (List.mem_cons_of_mem _ (wPlaces_mem (List.mem_cons_of_mem _ (wPlaces_mem (List.mem_cons_of_mem _ (wPlaces_mem (List.mem_cons_of_mem _ (wPlaces_mem (List.mem_cons_of_mem _ (wPlaces_mem (List.mem_cons_of_mem _ (List.mem_cons_of_mem _ (List.mem_cons_of_mem _ (List.mem_cons_of_mem _ (List.mem_cons_of_mem _ List.mem_cons_self))))))))))))))))))))))) ?_
  refine SW.s (fun kk => SP.iload_n (pc' := 65) dX8_init_64 rfl rfl rfl kk) ?_
  refine SW.newO (pc' := 68) dX8_init_65 rfl nX8_9 rfl (n' := 87) (cs' := 52) (ss' := 516) rfl rfl rfl (by decide) (by decide) ?_
  refine SW.s (fun kk => SP.dup (pc' := 69) dX8_init_68 rfl rfl kk) ?_
  refine SW.callI (pc' := 72) dX8_init_69 rfl cX8_35 mX5_init vX5_init rfl rfl (by decide) (n' := 91) (cs' := 56) (ss' := 563) rfl rfl rfl (by decide) (by decide) (Nat.le_of_ble_eq_true rfl) (c_Places (k := 86) rfl (by decide +kernel) rfl (by decide +kernel) rfl (by decide +kernel) rfl rfl) ?_
  refine SW.aastP (i := 9) (t := 86) (pc' := 73) dX8_init_72 rfl rfl (by decide) rfl (by decide) rfl (by decide) (by decide +kernel) ?_
  refine SW.s (fun kk => SP.iinc (LL' := [_, some (iV 10)]) (pc' := 76) dX8_init_73 rfl (by decide) rfl rfl rfl kk) ?_
  refine SW.s (fun kk => SP.goto (pc' := 54) dX8_init_76 (by decide) kk) ?_
  refine SW.s (fun kk => SP.iload_n (pc' := 55) dX8_init_54 rfl rfl rfl kk) ?_
  refine SW.s (fun kk => SP.bipush (pc' := 57) dX8_init_55 rfl rfl kk) ?_
  refine SW.s (fun kk => SP.icmp_gt (tgt := 79) (pc' := 60) dX8_init_57 (by decide) rfl (by unfold fp_rng; decide) (by unfold fp_rng; decide) (fun h => absurd h (by decide)) (fun _ => kk)) ?_
  refine SW.s (fun kk => SP.aload_n (pc' := 61) dX8_init_60 rfl rfl rfl kk) ?_
  refine SW.getR (t := 35) (pc' := 64) dX8_init_61 rfl fX8_11 rfl (by decide) (by decide +kernel) (List.mem_cons_of_mem _ (wPlaces_mem (List.mem_cons_of_mem _ (wPlaces_mem (List.mem_cons_of_mem _ (wPlaces_mem (List.mem_cons_of_mem _ (wPlaces_mem (List.mem_cons_of_mem _ (wPlaces_mem (List.mem_cons_of_mem _ (wPlaces_mem (List.mem_cons_of_mem _ (wPlaces_mem (List.mem_cons_of_mem _ (wPlaces_mem (List.mem_cons_of_mem _ (wPlaces_mem (List.mem_cons_of_mem _ (wPlaces_mem (List.mem_cons_of_mem _ (List.mem_cons_of_mem _ (List.mem_cons_of_mem _ (List.mem_cons_of_mem _ (List.mem_cons_of_mem _ List.mem_cons_self))))))))))))))))))))))))) ?_
  refine SW.s (fun kk => SP.iload_n (pc' := 65) dX8_init_64 rfl rfl rfl kk) ?_
  refine SW.newO (pc' := 68) dX8_init_65 rfl nX8_9 rfl (n' := 92) (cs' := 57) (ss' := 567) rfl rfl rfl (by decide) (by decide) ?_
  refine SW.s (fun kk => SP.dup (pc' := 69) dX8_init_68 rfl rfl kk) ?_
  refine SW.callI (pc' := 72) dX8_init_69 rfl cX8_35 mX5_init vX5_init rfl rfl (by decide) (n' := 96) (cs' := 61) (ss' := 614) rfl rfl rfl (by decide) (by decide) (Nat.le_of_ble_eq_true rfl) (c_Places (k := 91) rfl (by decide +kernel) rfl (by decide +kernel) rfl (by decide +kernel) rfl rfl) ?_
  refine SW.aastP (i := 10) (t := 91) (pc' := 73) dX8_init_72 rfl rfl (by decide) rfl (by decide) rfl (by decide) (by decide +kernel) ?_
  refine SW.s (fun kk => SP.iinc (LL' := [_, some (iV 11)]) (pc' := 76) dX8_init_73 rfl (by decide) rfl rfl rfl kk) ?_
  refine SW.s (fun kk => SP.goto (pc' := 54) dX8_init_76 (by decide) kk) ?_
  refine SW.s (fun kk => SP.iload_n (pc' := 55) dX8_init_54 rfl rfl rfl kk) ?_
  refine SW.s (fun kk => SP.bipush (pc' := 57) dX8_init_55 rfl rfl kk) ?_
  refine SW.s (fun kk => SP.icmp_gt (tgt := 79) (pc' := 60) dX8_init_57 (by decide) rfl (by unfold fp_rng; decide) (by unfold fp_rng; decide) (fun h => absurd h (by decide)) (fun _ => kk)) ?_
  refine SW.s (fun kk => SP.aload_n (pc' := 61) dX8_init_60 rfl rfl rfl kk) ?_
  refine SW.getR (t := 35) (pc' := 64) dX8_init_61 rfl fX8_11 rfl (by decide) (by decide +kernel) (List.mem_cons_of_mem _ (wPlaces_mem (List.mem_cons_of_mem _ (wPlaces_mem (List.mem_cons_of_mem _ (wPlaces_mem (List.mem_cons_of_mem _ (wPlaces_mem (List.mem_cons_of_mem _ (wPlaces_mem (List.mem_cons_of_mem _ (wPlaces_mem (List.mem_cons_of_mem _ (wPlaces_mem (List.mem_cons_of_mem _ (wPlaces_mem (List.mem_cons_of_mem _ (wPlaces_mem (List.mem_cons_of_mem _ (wPlaces_mem (List.mem_cons_of_mem _ (wPlaces_mem (List.mem_cons_of_mem _ (List.mem_cons_of_mem _ (List.mem_cons_of_mem _ (List.mem_cons_of_mem _ (List.mem_cons_of_mem _ List.mem_cons_self))))))))))))))))))))))))))) ?_
  refine SW.s (fun kk => SP.iload_n (pc' := 65) dX8_init_64 rfl rfl rfl kk) ?_
  refine SW.newO (pc' := 68) dX8_init_65 rfl nX8_9 rfl (n' := 97) (cs' := 62) (ss' := 618) rfl rfl rfl (by decide) (by decide) ?_
  refine SW.s (fun kk => SP.dup (pc' := 69) dX8_init_68 rfl rfl kk) ?_
  refine SW.callI (pc' := 72) dX8_init_69 rfl cX8_35 mX5_init vX5_init rfl rfl (by decide) (n' := 101) (cs' := 66) (ss' := 665) rfl rfl rfl (by decide) (by decide) (Nat.le_of_ble_eq_true rfl) (c_Places (k := 96) rfl (by decide +kernel) rfl (by decide +kernel) rfl (by decide +kernel) rfl rfl) ?_
  refine SW.aastP (i := 11) (t := 96) (pc' := 73) dX8_init_72 rfl rfl (by decide) rfl (by decide) rfl (by decide) (by decide +kernel) ?_
  refine SW.s (fun kk => SP.iinc (LL' := [_, some (iV 12)]) (pc' := 76) dX8_init_73 rfl (by decide) rfl rfl rfl kk) ?_
  refine SW.s (fun kk => SP.goto (pc' := 54) dX8_init_76 (by decide) kk) ?_
  refine SW.s (fun kk => SP.iload_n (pc' := 55) dX8_init_54 rfl rfl rfl kk) ?_
  refine SW.s (fun kk => SP.bipush (pc' := 57) dX8_init_55 rfl rfl kk) ?_
  refine SW.s (fun kk => SP.icmp_gt (tgt := 79) (pc' := 60) dX8_init_57 (by decide) rfl (by unfold fp_rng; decide) (by unfold fp_rng; decide) (fun h => absurd h (by decide)) (fun _ => kk)) ?_
  refine SW.s (fun kk => SP.aload_n (pc' := 61) dX8_init_60 rfl rfl rfl kk) ?_
  refine SW.getR (t := 35) (pc' := 64) dX8_init_61 rfl fX8_11 rfl (by decide) (by decide +kernel) (List.mem_cons_of_mem _ (wPlaces_mem (List.mem_cons_of_mem _ (wPlaces_mem (List.mem_cons_of_mem _ (wPlaces_mem (List.mem_cons_of_mem _ (wPlaces_mem (List.mem_cons_of_mem _ (wPlaces_mem (List.mem_cons_of_mem _ (wPlaces_mem (List.mem_cons_of_mem _ (wPlaces_mem (List.mem_cons_of_mem _ (wPlaces_mem (List.mem_cons_of_mem _ (wPlaces_mem (List.mem_cons_of_mem _ (wPlaces_mem (List.mem_cons_of_mem _ (wPlaces_mem (List.mem_cons_of_mem _ (wPlaces_mem (List.mem_cons_of_mem _ (List.mem_cons_of_mem _ (List.mem_cons_of_mem _ (List.mem_cons_of_mem _ (List.mem_cons_of_mem _ List.mem_cons_self))))))))))))))))))))))))))))) ?_
  refine SW.s (fun kk => SP.iload_n (pc' := 65) dX8_init_64 rfl rfl rfl kk) ?_
  refine SW.newO (pc' := 68) dX8_init_65 rfl nX8_9 rfl (n' := 102) (cs' := 67) (ss' := 669) rfl rfl rfl (by decide) (by decide) ?_
  refine SW.s (fun kk => SP.dup (pc' := 69) dX8_init_68 rfl rfl kk) ?_
  refine SW.callI (pc' := 72) dX8_init_69 rfl cX8_35 mX5_init vX5_init rfl rfl (by decide) (n' := 106) (cs' := 71) (ss' := 716) rfl rfl rfl (by decide) (by decide) (Nat.le_of_ble_eq_true rfl) (c_Places (k := 101) rfl (by decide +kernel) rfl (by decide +kernel) rfl (by decide +kernel) rfl rfl) ?_
  refine SW.aastP (i := 12) (t := 101) (pc' := 73) dX8_init_72 rfl rfl (by decide) rfl (by decide) rfl (by decide) (by decide +kernel) ?_
  refine SW.s (fun kk => SP.iinc (LL' := [_, some (iV 13)]) (pc' := 76) dX8_init_73 rfl (by decide) rfl rfl rfl kk) ?_
  refine SW.s (fun kk => SP.goto (pc' := 54) dX8_init_76 (by decide) kk) ?_
  refine SW.s (fun kk => SP.iload_n (pc' := 55) dX8_init_54 rfl rfl rfl kk) ?_
  refine SW.s (fun kk => SP.bipush (pc' := 57) dX8_init_55 rfl rfl kk) ?_
  refine SW.s (fun kk => SP.icmp_gt (tgt := 79) (pc' := 60) dX8_init_57 (by decide) rfl (by unfold fp_rng; decide) (by unfold fp_rng; decide) (fun _ => kk) (fun h => absurd (by decide) h)) ?_
  refine SW.s (fun kk => SP.iconst (pc' := 80) dX8_init_79 rfl kk) ?_
  refine SW.s (fun kk => SP.istore_n (LL' := [_, _]) (pc' := 81) dX8_init_80 rfl (by decide) rfl rfl rfl kk) ?_
  refine SW.s (fun kk => SP.iload_n (pc' := 82) dX8_init_81 rfl rfl rfl kk) ?_
  refine SW.s (fun kk => SP.iconst (pc' := 83) dX8_init_82 rfl kk) ?_
  refine SW.s (fun kk => SP.icmp_ge (tgt := 105) (pc' := 86) dX8_init_83 (by decide) rfl (by unfold fp_rng; decide) (by unfold fp_rng; decide) (fun h => absurd h (by decide)) (fun _ => kk)) ?_
  refine SW.s (fun kk => SP.aload_n (pc' := 87) dX8_init_86 rfl rfl rfl kk) ?_
  refine SW.getR (t := 36) (pc' := 90) dX8_init_87 rfl fX8_17 rfl (by decide) (by decide +kernel) (List.mem_cons_of_mem _ (wPlaces_mem (List.mem_cons_of_mem _ (wPlaces_mem (List.mem_cons_of_mem _ (wPlaces_mem (List.mem_cons_of_mem _ (wPlaces_mem (List.mem_cons_of_mem _ (wPlaces_mem (List.mem_cons_of_mem _ (wPlaces_mem (List.mem_cons_of_mem _ (wPlaces_mem (List.mem_cons_of_mem _ (wPlaces_mem (List.mem_cons_of_mem _ (wPlaces_mem (List.mem_cons_of_mem _ (wPlaces_mem (List.mem_cons_of_mem _ (wPlaces_mem (List.mem_cons_of_mem _ (wPlaces_mem (List.mem_cons_of_mem _ (wPlaces_mem (List.mem_cons_of_mem _ (List.mem_cons_of_mem _ (List.mem_cons_of_mem _ (List.mem_cons_of_mem _ List.mem_cons_self)))))))))))))))))))))))))))))) ?_
  refine SW.s (fun kk => SP.iload_n (pc' := 91) dX8_init_90 rfl rfl rfl kk) ?_
  refine SW.newO (pc' := 94) dX8_init_91 rfl nX8_9 rfl (n' := 107) (cs' := 72) (ss' := 720) rfl rfl rfl (by decide) (by decide) ?_
  refine SW.s (fun kk => SP.dup (pc' := 95) dX8_init_94 rfl rfl kk) ?_
  refine SW.callI (pc' := 98) dX8_init_95 rfl cX8_35 mX5_init vX5_init rfl rfl (by decide) (n' := 111) (cs' := 76) (ss' := 767) rfl rfl rfl (by decide) (by decide) (Nat.le_of_ble_eq_true rfl) (c_Places (k := 106) rfl (by decide +kernel) rfl (by decide +kernel) rfl (by decide +kernel) rfl rfl) ?_
  refine SW.aastP (i := 0) (t := 106) (pc' := 99) dX8_init_98 rfl rfl (by decide) rfl (by decide) rfl (by decide) (by decide +kernel) ?_
  refine SW.s (fun kk => SP.iinc (LL' := [_, some (iV 1)]) (pc' := 102) dX8_init_99 rfl (by decide) rfl rfl rfl kk) ?_
  refine SW.s (fun kk => SP.goto (pc' := 81) dX8_init_102 (by decide) kk) ?_
  refine SW.s (fun kk => SP.iload_n (pc' := 82) dX8_init_81 rfl rfl rfl kk) ?_
  refine SW.s (fun kk => SP.iconst (pc' := 83) dX8_init_82 rfl kk) ?_
  refine SW.s (fun kk => SP.icmp_ge (tgt := 105) (pc' := 86) dX8_init_83 (by decide) rfl (by unfold fp_rng; decide) (by unfold fp_rng; decide) (fun h => absurd h (by decide)) (fun _ => kk)) ?_
  refine SW.s (fun kk => SP.aload_n (pc' := 87) dX8_init_86 rfl rfl rfl kk) ?_
  refine SW.getR (t := 36) (pc' := 90) dX8_init_87 rfl fX8_17 rfl (by decide) (by decide +kernel) (List.mem_cons_of_mem _ (wPlaces_mem (List.mem_cons_of_mem _ (wPlaces_mem (List.mem_cons_of_mem _ (wPlaces_mem (List.mem_cons_of_mem _ (wPlaces_mem (List.mem_cons_of_mem _ (wPlaces_mem (List.mem_cons_of_mem _ (wPlaces_mem (List.mem_cons_of_mem _ (wPlaces_mem (List.mem_cons_of_mem _ (wPlaces_mem (List.mem_cons_of_mem _ (wPlaces_mem (List.mem_cons_of_mem _ (wPlaces_mem (List.mem_cons_of_mem _ (wPlaces_mem (List.mem_cons_of_mem _ (wPlaces_mem (List.mem_cons_of_mem _ (wPlaces_mem (List.mem_cons_of_mem _ (wPlaces_mem (List.mem_cons_of_mem _ (List.mem_cons_of_mem _ (List.mem_cons_of_mem _ (List.mem_cons_of_mem _ List.mem_cons_self)))))))))))))))))))))))))))))))) ?_
  refine SW.s (fun kk => SP.iload_n (pc' := 91) dX8_init_90 rfl rfl rfl kk) ?_
  refine SW.newO (pc' := 94) dX8_init_91 rfl nX8_9 rfl (n' := 112) (cs' := 77) (ss' := 771) rfl rfl rfl (by decide) (by decide) ?_
  refine SW.s (fun kk => SP.dup (pc' := 95) dX8_init_94 rfl rfl kk) ?_
  refine SW.callI (pc' := 98) dX8_init_95 rfl cX8_35 mX5_init vX5_init rfl rfl (by decide) (n' := 116) (cs' := 81) (ss' := 818) rfl rfl rfl (by decide) (by decide) (Nat.le_of_ble_eq_true rfl) (c_Places (k := 111) rfl (by decide +kernel) rfl (by decide +kernel) rfl (by decide +kernel) rfl rfl) ?_
  refine SW.aastP (i := 1) (t := 111) (pc' := 99) dX8_init_98 rfl rfl (by decide) rfl (by decide) rfl (by decide) (by decide +kernel) ?_
  refine SW.s (fun kk => SP.iinc (LL' := [_, some (iV 2)]) (pc' := 102) dX8_init_99 rfl (by decide) rfl rfl rfl kk) ?_
  refine SW.s (fun kk => SP.goto (pc' := 81) dX8_init_102 (by decide) kk) ?_
  refine SW.s (fun kk => SP.iload_n (pc' := 82) dX8_init_81 rfl rfl rfl kk) ?_
  refine SW.s (fun kk => SP.iconst (pc' := 83) dX8_init_82 rfl kk) ?_
  refine SW.s (fun kk => SP.icmp_ge (tgt := 105) (pc' := 86) dX8_init_83 (by decide) rfl (by unfold fp_rng; decide) (by unfold fp_rng; decide) (fun h => absurd h (by decide)) (fun _ => kk)) ?_
  refine SW.s (fun kk => SP.aload_n (pc' := 87) dX8_init_86 rfl rfl rfl kk) ?_
  refine SW.getR (t := 36) (pc' := 90) dX8_init_87 rfl fX8_17 rfl (by decide) (by decide +kernel) (List.mem_cons_of_mem _ (wPlaces_mem (List.mem_cons_of_mem _ (wPlaces_mem (List.mem_cons_of_mem _ (wPlaces_mem (List.mem_cons_of_mem _ (wPlaces_mem (List.mem_cons_of_mem _ (wPlaces_mem (List.mem_cons_of_mem _ (wPlaces_mem (List.mem_cons_of_mem _ (wPlaces_mem (List.mem_cons_of_mem _ (wPlaces_mem (List.mem_cons_of_mem _ (wPlaces_mem (List.mem_cons_of_mem _ (wPlaces_mem (List.mem_cons_of_mem _ (wPlaces_mem (List.mem_cons_of_mem _ (wPlaces_mem (List.mem_cons_of_mem _ (wPlaces_mem (List.mem_cons_of_mem _ (wPlaces_mem (List.mem_cons_of_mem _ (wPlaces_mem (List.mem_cons_of_mem _ (List.mem_cons_of_mem _ (List.mem_cons_of_mem _ (List.mem_cons_of_mem _ List.mem_cons_self)))))))))))))))))))))))))))))))))) ?_
  refine SW.s (fun kk => SP.iload_n (pc' := 91) dX8_init_90 rfl rfl rfl kk) ?_
  refine SW.newO (pc' := 94) dX8_init_91 rfl nX8_9 rfl (n' := 117) (cs' := 82) (ss' := 822) rfl rfl rfl (by decide) (by decide) ?_
  refine SW.s (fun kk => SP.dup (pc' := 95) dX8_init_94 rfl rfl kk) ?_
  refine SW.callI (pc' := 98) dX8_init_95 rfl cX8_35 mX5_init vX5_init rfl rfl (by decide) (n' := 121) (cs' := 86) (ss' := 869) rfl rfl rfl (by decide) (by decide) (Nat.le_of_ble_eq_true rfl) (c_Places (k := 116) rfl (by decide +kernel) rfl (by decide +kernel) rfl (by decide +kernel) rfl rfl) ?_
  refine SW.aastP (i := 2) (t := 116) (pc' := 99) dX8_init_98 rfl rfl (by decide) rfl (by decide) rfl (by decide) (by decide +kernel) ?_
  refine SW.s (fun kk => SP.iinc (LL' := [_, some (iV 3)]) (pc' := 102) dX8_init_99 rfl (by decide) rfl rfl rfl kk) ?_
  refine SW.s (fun kk => SP.goto (pc' := 81) dX8_init_102 (by decide) kk) ?_
  refine SW.s (fun kk => SP.iload_n (pc' := 82) dX8_init_81 rfl rfl rfl kk) ?_
  refine SW.s (fun kk => SP.iconst (pc' := 83) dX8_init_82 rfl kk) ?_
  refine SW.s (fun kk => SP.icmp_ge (tgt := 105) (pc' := 86) dX8_init_83 (by decide) rfl (by unfold fp_rng; decide) (by unfold fp_rng; decide) (fun _ => kk) (fun h => absurd (by decide) h)) ?_
  exact SW.ret dX8_init_105 rfl
def wDuel (L : List (Nat × Nat)) : List (Nat × Nat) := (121, 5) :: (121, 4) :: (124, 6) :: (124, 5) :: (124, 4) :: (124, 3) :: (124, 2) :: (124, 1) :: (124, 0) :: (121, 3) :: (121, 2) :: L
theorem wDuel_mem {x : Nat × Nat} {L : List (Nat × Nat)} (h : x ∈ L) : x ∈ wDuel L := List.mem_cons_of_mem _ (List.mem_cons_of_mem _ (List.mem_cons_of_mem _ (List.mem_cons_of_mem _ (List.mem_cons_of_mem _ (List.mem_cons_of_mem _ (List.mem_cons_of_mem _ (List.mem_cons_of_mem _ (List.mem_cons_of_mem _ (List.mem_cons_of_mem _ (List.mem_cons_of_mem _ (h)))))))))))
theorem c_Duel {l : Launch} {G : fp_WG} {L : List (Nat × Nat)}  : fp_OkW l G 1 122 11 74 kX0_init [rV G 121] L (wDuel L) := by
  refine fp_OkW.of (r := 0) (nf := 133) rfl (Nat.le_of_ble_eq_true rfl) rfl rfl ?_
  refine SW.s (fun kk => SP.aload_n (pc' := 1) dX0_init_0 rfl rfl rfl kk) ?_
  refine SW.s (fun kk => SP.objInit (pc' := 4) dX0_init_1 rfl oX0_3 (by decide) (Nat.le_of_ble_eq_true rfl) kk) ?_
  refine SW.s (fun kk => SP.aload_n (pc' := 5) dX0_init_4 rfl rfl rfl kk) ?_
  refine SW.s (fun kk => SP.iconst (pc' := 6) dX0_init_5 rfl kk) ?_
  refine SW.newI (pc' := 8) dX0_init_6 rfl rfl rfl (n' := 123) (cs' := 1) (ss' := 2) rfl rfl rfl (by decide) (by decide) ?_
  refine SW.putR (t := 122) (pc' := 11) dX0_init_8 rfl fX0_9 rfl (by decide) rfl (fun q h => by cases h; rfl) (Or.inr ⟨_, rfl⟩) (by decide +kernel) ?_
  refine SW.s (fun kk => SP.aload_n (pc' := 12) dX0_init_11 rfl rfl rfl kk) ?_
  refine SW.s (fun kk => SP.iconst (pc' := 13) dX0_init_12 rfl kk) ?_
  refine SW.newI (pc' := 15) dX0_init_13 rfl rfl rfl (n' := 124) (cs' := 2) (ss' := 4) rfl rfl rfl (by decide) (by decide) ?_
  refine SW.putR (t := 123) (pc' := 18) dX0_init_15 rfl fX0_15 rfl (by decide) rfl (fun q h => by cases h; rfl) (Or.inr ⟨_, rfl⟩) (by decide +kernel) ?_
  refine SW.s (fun kk => SP.aload_n (pc' := 19) dX0_init_18 rfl rfl rfl kk) ?_
  refine SW.s (fun kk => SP.bipush (pc' := 21) dX0_init_19 rfl rfl kk) ?_
  refine SW.s (fun kk => SP.bipush (pc' := 23) dX0_init_21 rfl rfl kk) ?_
  refine SW.newM (pc' := 27) dX0_init_23 rfl kX0_18 rfl (by decide +kernel) (n' := 132) (cs' := 10) (ss' := 67) rfl rfl rfl (by decide) (by decide) (by decide +kernel) ?_
  refine SW.putR (t := 124) (pc' := 30) dX0_init_27 rfl fX0_20 rfl (by decide) rfl (fun q h => by cases h; rfl) (Or.inr ⟨_, rfl⟩) (by decide +kernel) ?_
  refine SW.s (fun kk => SP.aload_n (pc' := 31) dX0_init_30 rfl rfl rfl kk) ?_
  refine SW.s (fun kk => SP.bipush (pc' := 33) dX0_init_31 rfl rfl kk) ?_
  refine SW.newI (pc' := 35) dX0_init_33 rfl rfl rfl (n' := 133) (cs' := 11) (ss' := 74) rfl rfl rfl (by decide) (by decide) ?_
  refine SW.putR (t := 132) (pc' := 38) dX0_init_35 rfl fX0_23 rfl (by decide) rfl (fun q h => by cases h; rfl) (Or.inr ⟨_, rfl⟩) (by decide +kernel) ?_
  exact SW.ret dX0_init_38 rfl
def wOrders (L : List (Nat × Nat)) : List (Nat × Nat) := (133, 4) :: (133, 2) :: L
theorem wOrders_mem {x : Nat × Nat} {L : List (Nat × Nat)} (h : x ∈ L) : x ∈ wOrders L := List.mem_cons_of_mem _ (List.mem_cons_of_mem _ (h))
theorem c_Orders {l : Launch} {G : fp_WG} {L : List (Nat × Nat)}  : fp_OkW l G 1 134 2 16 kX4_init [rV G 133] L (wOrders L) := by
  refine fp_OkW.of (r := 0) (nf := 136) rfl (Nat.le_of_ble_eq_true rfl) rfl rfl ?_
  refine SW.s (fun kk => SP.aload_n (pc' := 1) dX4_init_0 rfl rfl rfl kk) ?_
  refine SW.s (fun kk => SP.objInit (pc' := 4) dX4_init_1 rfl oX4_3 (by decide) (Nat.le_of_ble_eq_true rfl) kk) ?_
  refine SW.s (fun kk => SP.aload_n (pc' := 5) dX4_init_4 rfl rfl rfl kk) ?_
  refine SW.s (fun kk => SP.bipush (pc' := 7) dX4_init_5 rfl rfl kk) ?_
  refine SW.newI (pc' := 9) dX4_init_7 rfl rfl rfl (n' := 135) (cs' := 1) (ss' := 8) rfl rfl rfl (by decide) (by decide) ?_
  refine SW.putR (t := 134) (pc' := 12) dX4_init_9 rfl fX4_9 rfl (by decide) rfl (fun q h => by cases h; rfl) (Or.inr ⟨_, rfl⟩) (by decide +kernel) ?_
  refine SW.s (fun kk => SP.aload_n (pc' := 13) dX4_init_12 rfl rfl rfl kk) ?_
  refine SW.s (fun kk => SP.bipush (pc' := 15) dX4_init_13 rfl rfl kk) ?_
  refine SW.newI (pc' := 17) dX4_init_15 rfl rfl rfl (n' := 136) (cs' := 2) (ss' := 16) rfl rfl rfl (by decide) (by decide) ?_
  refine SW.putR (t := 135) (pc' := 20) dX4_init_17 rfl fX4_15 rfl (by decide) rfl (fun q h => by cases h; rfl) (Or.inr ⟨_, rfl⟩) (by decide +kernel) ?_
  exact SW.ret dX4_init_20 rfl
def wRings (L : List (Nat × Nat)) : List (Nat × Nat) := (136, 3) :: (136, 2) :: (136, 1) :: (136, 0) :: L
theorem wRings_mem {x : Nat × Nat} {L : List (Nat × Nat)} (h : x ∈ L) : x ∈ wRings L := List.mem_cons_of_mem _ (List.mem_cons_of_mem _ (List.mem_cons_of_mem _ (List.mem_cons_of_mem _ (h))))
theorem c_Rings {l : Launch} {G : fp_WG} {L : List (Nat × Nat)}  : fp_OkW l G 1 137 4 16 kX7_init [rV G 136] L (wRings L) := by
  refine fp_OkW.of (r := 0) (nf := 141) rfl (Nat.le_of_ble_eq_true rfl) rfl rfl ?_
  refine SW.s (fun kk => SP.aload_n (pc' := 1) dX7_init_0 rfl rfl rfl kk) ?_
  refine SW.s (fun kk => SP.objInit (pc' := 4) dX7_init_1 rfl oX7_3 (by decide) (Nat.le_of_ble_eq_true rfl) kk) ?_
  refine SW.s (fun kk => SP.aload_n (pc' := 5) dX7_init_4 rfl rfl rfl kk) ?_
  refine SW.s (fun kk => SP.iconst (pc' := 6) dX7_init_5 rfl kk) ?_
  refine SW.newI (pc' := 8) dX7_init_6 rfl rfl rfl (n' := 138) (cs' := 1) (ss' := 4) rfl rfl rfl (by decide) (by decide) ?_
  refine SW.putR (t := 137) (pc' := 11) dX7_init_8 rfl fX7_9 rfl (by decide) rfl (fun q h => by cases h; rfl) (Or.inr ⟨_, rfl⟩) (by decide +kernel) ?_
  refine SW.s (fun kk => SP.aload_n (pc' := 12) dX7_init_11 rfl rfl rfl kk) ?_
  refine SW.s (fun kk => SP.iconst (pc' := 13) dX7_init_12 rfl kk) ?_
  refine SW.newI (pc' := 15) dX7_init_13 rfl rfl rfl (n' := 139) (cs' := 2) (ss' := 8) rfl rfl rfl (by decide) (by decide) ?_
  refine SW.putR (t := 138) (pc' := 18) dX7_init_15 rfl fX7_15 rfl (by decide) rfl (fun q h => by cases h; rfl) (Or.inr ⟨_, rfl⟩) (by decide +kernel) ?_
  refine SW.s (fun kk => SP.aload_n (pc' := 19) dX7_init_18 rfl rfl rfl kk) ?_
  refine SW.s (fun kk => SP.iconst (pc' := 20) dX7_init_19 rfl kk) ?_
  refine SW.newI (pc' := 22) dX7_init_20 rfl rfl rfl (n' := 140) (cs' := 3) (ss' := 12) rfl rfl rfl (by decide) (by decide) ?_
  refine SW.putR (t := 139) (pc' := 25) dX7_init_22 rfl fX7_18 rfl (by decide) rfl (fun q h => by cases h; rfl) (Or.inr ⟨_, rfl⟩) (by decide +kernel) ?_
  refine SW.s (fun kk => SP.aload_n (pc' := 26) dX7_init_25 rfl rfl rfl kk) ?_
  refine SW.s (fun kk => SP.iconst (pc' := 27) dX7_init_26 rfl kk) ?_
  refine SW.newI (pc' := 29) dX7_init_27 rfl rfl rfl (n' := 141) (cs' := 4) (ss' := 16) rfl rfl rfl (by decide) (by decide) ?_
  refine SW.putR (t := 140) (pc' := 32) dX7_init_29 rfl fX7_21 rfl (by decide) rfl (fun q h => by cases h; rfl) (Or.inr ⟨_, rfl⟩) (by decide +kernel) ?_
  exact SW.ret dX7_init_32 rfl
def wFirstPut (L : List (Nat × Nat)) : List (Nat × Nat) := (142, 3) :: wSheet 175 ((142, 2) :: wSheet 173 ((142, 1) :: wSheet 171 ((142, 0) :: wSheet 169 ((141, 1) :: wImage 156 ((141, 0) :: wImage 143 ((0, 12) :: (0, 11) :: (0, 10) :: wRings ((0, 9) :: wOrders ((0, 8) :: wDuel ((0, 7) :: wRuns ((0, 6) :: wNotes 32 ((0, 5) :: wVisits 27 ((0, 4) :: wPlaces 22 ((0, 3) :: wGoods 18 ((0, 2) :: wReader ((0, 0) :: L)))))))))))))))
theorem wFirstPut_mem {x : Nat × Nat} {L : List (Nat × Nat)} (h : x ∈ L) : x ∈ wFirstPut L := List.mem_cons_of_mem _ (wSheet_mem (List.mem_cons_of_mem _ (wSheet_mem (List.mem_cons_of_mem _ (wSheet_mem (List.mem_cons_of_mem _ (wSheet_mem (List.mem_cons_of_mem _ (wImage_mem (List.mem_cons_of_mem _ (wImage_mem (List.mem_cons_of_mem _ (List.mem_cons_of_mem _ (List.mem_cons_of_mem _ (wRings_mem (List.mem_cons_of_mem _ (wOrders_mem (List.mem_cons_of_mem _ (wDuel_mem (List.mem_cons_of_mem _ (wRuns_mem (List.mem_cons_of_mem _ (wNotes_mem (List.mem_cons_of_mem _ (wVisits_mem (List.mem_cons_of_mem _ (wPlaces_mem (List.mem_cons_of_mem _ (wGoods_mem (List.mem_cons_of_mem _ (wReader_mem (List.mem_cons_of_mem _ (h)))))))))))))))))))))))))))))))))
theorem c_FirstPut {l : Launch} {G : fp_WG} {L : List (Nat × Nat)}  : fp_OkW l G 3 1 176 2251 kX11_init [rV G 0] L (wFirstPut L) := by
  refine fp_OkW.of (r := 1) (nf := 177) rfl (Nat.le_of_ble_eq_true rfl) rfl rfl ?_
  refine SW.s (fun kk => SP.aload_n (pc' := 1) dX11_init_0 rfl rfl rfl kk) ?_
  refine SW.s (fun kk => SP.objInit (pc' := 4) dX11_init_1 rfl oX11_1 (by decide) (Nat.le_of_ble_eq_true rfl) kk) ?_
  refine SW.s (fun kk => SP.aload_n (pc' := 5) dX11_init_4 rfl rfl rfl kk) ?_
  refine SW.s (fun kk => SP.sipush (pc' := 8) dX11_init_5 rfl rfl kk) ?_
  refine SW.newB (pc' := 10) dX11_init_8 rfl rfl rfl (n' := 2) (cs' := 1) (ss' := 480) rfl rfl rfl (by decide) (by decide) ?_
  refine SW.putR (t := 1) (pc' := 13) dX11_init_10 rfl fX11_9 rfl (by decide) rfl (fun q h => by cases h; rfl) (Or.inr ⟨_, rfl⟩) (by decide +kernel) ?_
  refine SW.s (fun kk => SP.aload_n (pc' := 14) dX11_init_13 rfl rfl rfl kk) ?_
  refine SW.newO (pc' := 17) dX11_init_14 rfl nX11_13 rfl (n' := 3) (cs' := 2) (ss' := 493) rfl rfl rfl (by decide) (by decide) ?_
  refine SW.s (fun kk => SP.dup (pc' := 18) dX11_init_17 rfl rfl kk) ?_
  refine SW.callIN (pc' := 21) dX11_init_18 rfl cX11_15 mX6_init vX6_init rfl rfl (by decide) (n' := 18) (cs' := 17) (ss' := 661) rfl rfl rfl (by decide) (by decide) (Nat.le_of_ble_eq_true rfl) (c_Reader) ?_
  refine SW.putR (t := 2) (pc' := 24) dX11_init_21 rfl fX11_16 rfl (by decide) rfl (fun q h => by cases h; rfl) (Or.inl ⟨_, rfl⟩) (by decide +kernel) ?_
  refine SW.s (fun kk => SP.aload_n (pc' := 25) dX11_init_24 rfl rfl rfl kk) ?_
  refine SW.newO (pc' := 28) dX11_init_25 rfl nX11_20 rfl (n' := 19) (cs' := 18) (ss' := 667) rfl rfl rfl (by decide) (by decide) ?_
  refine SW.s (fun kk => SP.dup (pc' := 29) dX11_init_28 rfl rfl kk) ?_
  refine SW.callIN (pc' := 32) dX11_init_29 rfl cX11_22 mX1_init vX1_init rfl rfl (by decide) (n' := 22) (cs' := 21) (ss' := 725) rfl rfl rfl (by decide) (by decide) (Nat.le_of_ble_eq_true rfl) (c_Goods (k := 18) rfl (by decide +kernel) rfl rfl rfl) ?_
  refine SW.putR (t := 18) (pc' := 35) dX11_init_32 rfl fX11_23 rfl (by decide) rfl (fun q h => by cases h; rfl) (Or.inl ⟨_, rfl⟩) (by decide +kernel) ?_
  refine SW.s (fun kk => SP.aload_n (pc' := 36) dX11_init_35 rfl rfl rfl kk) ?_
  refine SW.newO (pc' := 39) dX11_init_36 rfl nX11_27 rfl (n' := 23) (cs' := 22) (ss' := 729) rfl rfl rfl (by decide) (by decide) ?_
  refine SW.s (fun kk => SP.dup (pc' := 40) dX11_init_39 rfl rfl kk) ?_
  refine SW.callI (pc' := 43) dX11_init_40 rfl cX11_29 mX5_init vX5_init rfl rfl (by decide) (n' := 27) (cs' := 26) (ss' := 776) rfl rfl rfl (by decide) (by decide) (Nat.le_of_ble_eq_true rfl) (c_Places (k := 22) rfl (by decide +kernel) rfl (by decide +kernel) rfl (by decide +kernel) rfl rfl) ?_
  refine SW.putR (t := 22) (pc' := 46) dX11_init_43 rfl fX11_30 rfl (by decide) rfl (fun q h => by cases h; rfl) (Or.inl ⟨_, rfl⟩) (by decide +kernel) ?_
  refine SW.s (fun kk => SP.aload_n (pc' := 47) dX11_init_46 rfl rfl rfl kk) ?_
  refine SW.newO (pc' := 50) dX11_init_47 rfl nX11_34 rfl (n' := 28) (cs' := 27) (ss' := 781) rfl rfl rfl (by decide) (by decide) ?_
  refine SW.s (fun kk => SP.dup (pc' := 51) dX11_init_50 rfl rfl kk) ?_
  refine SW.callIN (pc' := 54) dX11_init_51 rfl cX11_36 mX10_init vX10_init rfl rfl (by decide) (n' := 32) (cs' := 31) (ss' := 829) rfl rfl rfl (by decide) (by decide) (Nat.le_of_ble_eq_true rfl) (c_Visits (k := 27) rfl (by decide +kernel) rfl rfl rfl rfl) ?_
  refine SW.putR (t := 27) (pc' := 57) dX11_init_54 rfl fX11_37 rfl (by decide) rfl (fun q h => by cases h; rfl) (Or.inl ⟨_, rfl⟩) (by decide +kernel) ?_
  refine SW.s (fun kk => SP.aload_n (pc' := 58) dX11_init_57 rfl rfl rfl kk) ?_
  refine SW.newO (pc' := 61) dX11_init_58 rfl nX11_41 rfl (n' := 33) (cs' := 32) (ss' := 831) rfl rfl rfl (by decide) (by decide) ?_
  refine SW.s (fun kk => SP.dup (pc' := 62) dX11_init_61 rfl rfl kk) ?_
  refine SW.callIN (pc' := 65) dX11_init_62 rfl cX11_43 mX3_init vX3_init rfl rfl (by decide) (n' := 34) (cs' := 33) (ss' := 839) rfl rfl rfl (by decide) (by decide) (Nat.le_of_ble_eq_true rfl) (c_Notes (k := 32) rfl (by decide +kernel) rfl) ?_
  refine SW.putR (t := 32) (pc' := 68) dX11_init_65 rfl fX11_44 rfl (by decide) rfl (fun q h => by cases h; rfl) (Or.inl ⟨_, rfl⟩) (by decide +kernel) ?_
  refine SW.s (fun kk => SP.aload_n (pc' := 69) dX11_init_68 rfl rfl rfl kk) ?_
  refine SW.newO (pc' := 72) dX11_init_69 rfl nX11_48 rfl (n' := 35) (cs' := 34) (ss' := 846) rfl rfl rfl (by decide) (by decide) ?_
  refine SW.s (fun kk => SP.dup (pc' := 73) dX11_init_72 rfl rfl kk) ?_
  refine SW.callI (pc' := 76) dX11_init_73 rfl cX11_50 mX8_init vX8_init rfl rfl (by decide) (n' := 121) (cs' := 120) (ss' := 1715) rfl rfl rfl (by decide) (by decide) (Nat.le_of_ble_eq_true rfl) (c_Runs) ?_
  refine SW.putR (t := 34) (pc' := 79) dX11_init_76 rfl fX11_51 rfl (by decide) rfl (fun q h => by cases h; rfl) (Or.inl ⟨_, rfl⟩) (by decide +kernel) ?_
  refine SW.s (fun kk => SP.aload_n (pc' := 80) dX11_init_79 rfl rfl rfl kk) ?_
  refine SW.newO (pc' := 83) dX11_init_80 rfl nX11_55 rfl (n' := 122) (cs' := 121) (ss' := 1721) rfl rfl rfl (by decide) (by decide) ?_
  refine SW.s (fun kk => SP.dup (pc' := 84) dX11_init_83 rfl rfl kk) ?_
  refine SW.callIN (pc' := 87) dX11_init_84 rfl cX11_57 mX0_init vX0_init rfl rfl (by decide) (n' := 133) (cs' := 132) (ss' := 1795) rfl rfl rfl (by decide) (by decide) (Nat.le_of_ble_eq_true rfl) (c_Duel) ?_
  refine SW.putR (t := 121) (pc' := 90) dX11_init_87 rfl fX11_58 rfl (by decide) rfl (fun q h => by cases h; rfl) (Or.inl ⟨_, rfl⟩) (by decide +kernel) ?_
  refine SW.s (fun kk => SP.aload_n (pc' := 91) dX11_init_90 rfl rfl rfl kk) ?_
  refine SW.newO (pc' := 94) dX11_init_91 rfl nX11_62 rfl (n' := 134) (cs' := 133) (ss' := 1800) rfl rfl rfl (by decide) (by decide) ?_
  refine SW.s (fun kk => SP.dup (pc' := 95) dX11_init_94 rfl rfl kk) ?_
  refine SW.callIN (pc' := 98) dX11_init_95 rfl cX11_64 mX4_init vX4_init rfl rfl (by decide) (n' := 136) (cs' := 135) (ss' := 1816) rfl rfl rfl (by decide) (by decide) (Nat.le_of_ble_eq_true rfl) (c_Orders) ?_
  refine SW.putR (t := 133) (pc' := 101) dX11_init_98 rfl fX11_65 rfl (by decide) rfl (fun q h => by cases h; rfl) (Or.inl ⟨_, rfl⟩) (by decide +kernel) ?_
  refine SW.s (fun kk => SP.aload_n (pc' := 102) dX11_init_101 rfl rfl rfl kk) ?_
  refine SW.newO (pc' := 105) dX11_init_102 rfl nX11_69 rfl (n' := 137) (cs' := 136) (ss' := 1821) rfl rfl rfl (by decide) (by decide) ?_
  refine SW.s (fun kk => SP.dup (pc' := 106) dX11_init_105 rfl rfl kk) ?_
  refine SW.callIN (pc' := 109) dX11_init_106 rfl cX11_71 mX7_init vX7_init rfl rfl (by decide) (n' := 141) (cs' := 140) (ss' := 1837) rfl rfl rfl (by decide) (by decide) (Nat.le_of_ble_eq_true rfl) (c_Rings) ?_
  refine SW.putR (t := 136) (pc' := 112) dX11_init_109 rfl fX11_72 rfl (by decide) rfl (fun q h => by cases h; rfl) (Or.inl ⟨_, rfl⟩) (by decide +kernel) ?_
  refine SW.s (fun kk => SP.aload_n (pc' := 113) dX11_init_112 rfl rfl rfl kk) ?_
  refine SW.s (fun kk => SP.iconst (pc' := 114) dX11_init_113 rfl kk) ?_
  refine SW.anewI (pc' := 117) dX11_init_114 rfl kX11_76 rfl rfl (n' := 142) (cs' := 141) (ss' := 1839) rfl rfl rfl (by decide) (by decide) ?_
  refine SW.putR (t := 141) (pc' := 120) dX11_init_117 rfl fX11_78 rfl (by decide) rfl (fun q h => by cases h; rfl) (Or.inr ⟨_, rfl⟩) (by decide +kernel) ?_
  refine SW.s (fun kk => SP.aload_n (pc' := 121) dX11_init_120 rfl rfl rfl kk) ?_
  refine SW.s (fun kk => SP.iconst (pc' := 122) dX11_init_121 rfl kk) ?_
  refine SW.anewS (pc' := 125) dX11_init_122 rfl kX11_82 rfl rfl (n' := 143) (cs' := 142) (ss' := 1843) rfl rfl rfl (by decide) (by decide) ?_
  refine SW.putR (t := 142) (pc' := 128) dX11_init_125 rfl fX11_84 rfl (by decide) rfl (fun q h => by cases h; rfl) (Or.inr ⟨_, rfl⟩) (by decide +kernel) ?_
  refine SW.s (fun kk => SP.iconst (pc' := 129) dX11_init_128 rfl kk) ?_
  refine SW.s (fun kk => SP.istore_n (LL' := [_, _]) (pc' := 130) dX11_init_129 rfl (by decide) rfl rfl rfl kk) ?_
  refine SW.s (fun kk => SP.iload_n (pc' := 131) dX11_init_130 rfl rfl rfl kk) ?_
  refine SW.s (fun kk => SP.iconst (pc' := 132) dX11_init_131 rfl kk) ?_
  refine SW.s (fun kk => SP.icmp_ge (tgt := 154) (pc' := 135) dX11_init_132 (by decide) rfl (by unfold fp_rng; decide) (by unfold fp_rng; decide) (fun h => absurd h (by decide)) (fun _ => kk)) ?_
  refine SW.s (fun kk => SP.aload_n (pc' := 136) dX11_init_135 rfl rfl rfl kk) ?_
  refine SW.getR (t := 141) (pc' := 139) dX11_init_136 rfl fX11_78 rfl (by decide) (by decide +kernel) (List.mem_cons_of_mem _ List.mem_cons_self) ?_
  refine SW.s (fun kk => SP.iload_n (pc' := 140) dX11_init_139 rfl rfl rfl kk) ?_
  refine SW.newO (pc' := 143) dX11_init_140 rfl nX11_76 rfl (n' := 144) (cs' := 143) (ss' := 1847) rfl rfl rfl (by decide) (by decide) ?_
  refine SW.s (fun kk => SP.dup (pc' := 144) dX11_init_143 rfl rfl kk) ?_
  refine SW.callIN (pc' := 147) dX11_init_144 rfl cX11_88 mX2_init vX2_init rfl rfl (by decide) (n' := 156) (cs' := 155) (ss' := 1961) rfl rfl rfl (by decide) (by decide) (Nat.le_of_ble_eq_true rfl) (c_Image (k := 143) rfl (by decide +kernel) rfl (by decide +kernel) rfl (by decide +kernel) rfl (by decide +kernel) rfl rfl rfl (by decide +kernel) rfl rfl rfl rfl rfl (by decide +kernel) rfl) ?_
  refine SW.aastI (i := 0) (t := 143) (pc' := 148) dX11_init_147 rfl rfl (by decide) rfl (by decide) rfl (by decide) (by decide +kernel) ?_
  refine SW.s (fun kk => SP.iinc (LL' := [_, some (iV 1)]) (pc' := 151) dX11_init_148 rfl (by decide) rfl rfl rfl kk) ?_
  refine SW.s (fun kk => SP.goto (pc' := 130) dX11_init_151 (by decide) kk) ?_
  refine SW.s (fun kk => SP.iload_n (pc' := 131) dX11_init_130 rfl rfl rfl kk) ?_
  refine SW.s (fun kk => SP.iconst (pc' := 132) dX11_init_131 rfl kk) ?_
  refine SW.s (fun kk => SP.icmp_ge (tgt := 154) (pc' := 135) dX11_init_132 (by decide) rfl (by unfold fp_rng; decide) (by unfold fp_rng; decide) (fun h => absurd h (by decide)) (fun _ => kk)) ?_
  refine SW.s (fun kk => SP.aload_n (pc' := 136) dX11_init_135 rfl rfl rfl kk) ?_
  refine SW.getR (t := 141) (pc' := 139) dX11_init_136 rfl fX11_78 rfl (by decide) (by decide +kernel) (List.mem_cons_of_mem _ (wImage_mem (List.mem_cons_of_mem _ List.mem_cons_self))) ?_
  refine SW.s (fun kk => SP.iload_n (pc' := 140) dX11_init_139 rfl rfl rfl kk) ?_
  refine SW.newO (pc' := 143) dX11_init_140 rfl nX11_76 rfl (n' := 157) (cs' := 156) (ss' := 1965) rfl rfl rfl (by decide) (by decide) ?_
  refine SW.s (fun kk => SP.dup (pc' := 144) dX11_init_143 rfl rfl kk) ?_
  refine SW.callIN (pc' := 147) dX11_init_144 rfl cX11_88 mX2_init vX2_init rfl rfl (by decide) (n' := 169) (cs' := 168) (ss' := 2079) rfl rfl rfl (by decide) (by decide) (Nat.le_of_ble_eq_true rfl) (c_Image (k := 156) rfl (by decide +kernel) rfl (by decide +kernel) rfl (by decide +kernel) rfl (by decide +kernel) rfl rfl rfl (by decide +kernel) rfl rfl rfl rfl rfl (by decide +kernel) rfl) ?_
  refine SW.aastI (i := 1) (t := 156) (pc' := 148) dX11_init_147 rfl rfl (by decide) rfl (by decide) rfl (by decide) (by decide +kernel) ?_
  refine SW.s (fun kk => SP.iinc (LL' := [_, some (iV 2)]) (pc' := 151) dX11_init_148 rfl (by decide) rfl rfl rfl kk) ?_
  refine SW.s (fun kk => SP.goto (pc' := 130) dX11_init_151 (by decide) kk) ?_
  refine SW.s (fun kk => SP.iload_n (pc' := 131) dX11_init_130 rfl rfl rfl kk) ?_
  refine SW.s (fun kk => SP.iconst (pc' := 132) dX11_init_131 rfl kk) ?_
  refine SW.s (fun kk => SP.icmp_ge (tgt := 154) (pc' := 135) dX11_init_132 (by decide) rfl (by unfold fp_rng; decide) (by unfold fp_rng; decide) (fun _ => kk) (fun h => absurd (by decide) h)) ?_
  refine SW.s (fun kk => SP.iconst (pc' := 155) dX11_init_154 rfl kk) ?_
  refine SW.s (fun kk => SP.istore_n (LL' := [_, _]) (pc' := 156) dX11_init_155 rfl (by decide) rfl rfl rfl kk) ?_
  refine SW.s (fun kk => SP.iload_n (pc' := 157) dX11_init_156 rfl rfl rfl kk) ?_
  refine SW.s (fun kk => SP.iconst (pc' := 158) dX11_init_157 rfl kk) ?_
  refine SW.s (fun kk => SP.icmp_ge (tgt := 180) (pc' := 161) dX11_init_158 (by decide) rfl (by unfold fp_rng; decide) (by unfold fp_rng; decide) (fun h => absurd h (by decide)) (fun _ => kk)) ?_
  refine SW.s (fun kk => SP.aload_n (pc' := 162) dX11_init_161 rfl rfl rfl kk) ?_
  refine SW.getR (t := 142) (pc' := 165) dX11_init_162 rfl fX11_84 rfl (by decide) (by decide +kernel) (List.mem_cons_of_mem _ (wImage_mem (List.mem_cons_of_mem _ (wImage_mem List.mem_cons_self)))) ?_
  refine SW.s (fun kk => SP.iload_n (pc' := 166) dX11_init_165 rfl rfl rfl kk) ?_
  refine SW.newO (pc' := 169) dX11_init_166 rfl nX11_82 rfl (n' := 170) (cs' := 169) (ss' := 2082) rfl rfl rfl (by decide) (by decide) ?_
  refine SW.s (fun kk => SP.dup (pc' := 170) dX11_init_169 rfl rfl kk) ?_
  refine SW.callIN (pc' := 173) dX11_init_170 rfl cX11_89 mX9_init vX9_init rfl rfl (by decide) (n' := 171) (cs' := 170) (ss' := 2122) rfl rfl rfl (by decide) (by decide) (Nat.le_of_ble_eq_true rfl) (c_Sheet (k := 169) rfl (by decide +kernel) rfl) ?_
  refine SW.aastS (i := 0) (t := 169) (pc' := 174) dX11_init_173 rfl rfl (by decide) rfl (by decide) rfl (by decide) (by decide +kernel) ?_
  refine SW.s (fun kk => SP.iinc (LL' := [_, some (iV 1)]) (pc' := 177) dX11_init_174 rfl (by decide) rfl rfl rfl kk) ?_
  refine SW.s (fun kk => SP.goto (pc' := 156) dX11_init_177 (by decide) kk) ?_
  refine SW.s (fun kk => SP.iload_n (pc' := 157) dX11_init_156 rfl rfl rfl kk) ?_
  refine SW.s (fun kk => SP.iconst (pc' := 158) dX11_init_157 rfl kk) ?_
  refine SW.s (fun kk => SP.icmp_ge (tgt := 180) (pc' := 161) dX11_init_158 (by decide) rfl (by unfold fp_rng; decide) (by unfold fp_rng; decide) (fun h => absurd h (by decide)) (fun _ => kk)) ?_
  refine SW.s (fun kk => SP.aload_n (pc' := 162) dX11_init_161 rfl rfl rfl kk) ?_
  refine SW.getR (t := 142) (pc' := 165) dX11_init_162 rfl fX11_84 rfl (by decide) (by decide +kernel) (List.mem_cons_of_mem _ (wSheet_mem (List.mem_cons_of_mem _ (wImage_mem (List.mem_cons_of_mem _ (wImage_mem List.mem_cons_self)))))) ?_
  refine SW.s (fun kk => SP.iload_n (pc' := 166) dX11_init_165 rfl rfl rfl kk) ?_
  refine SW.newO (pc' := 169) dX11_init_166 rfl nX11_82 rfl (n' := 172) (cs' := 171) (ss' := 2125) rfl rfl rfl (by decide) (by decide) ?_
  refine SW.s (fun kk => SP.dup (pc' := 170) dX11_init_169 rfl rfl kk) ?_
  refine SW.callIN (pc' := 173) dX11_init_170 rfl cX11_89 mX9_init vX9_init rfl rfl (by decide) (n' := 173) (cs' := 172) (ss' := 2165) rfl rfl rfl (by decide) (by decide) (Nat.le_of_ble_eq_true rfl) (c_Sheet (k := 171) rfl (by decide +kernel) rfl) ?_
  refine SW.aastS (i := 1) (t := 171) (pc' := 174) dX11_init_173 rfl rfl (by decide) rfl (by decide) rfl (by decide) (by decide +kernel) ?_
  refine SW.s (fun kk => SP.iinc (LL' := [_, some (iV 2)]) (pc' := 177) dX11_init_174 rfl (by decide) rfl rfl rfl kk) ?_
  refine SW.s (fun kk => SP.goto (pc' := 156) dX11_init_177 (by decide) kk) ?_
  refine SW.s (fun kk => SP.iload_n (pc' := 157) dX11_init_156 rfl rfl rfl kk) ?_
  refine SW.s (fun kk => SP.iconst (pc' := 158) dX11_init_157 rfl kk) ?_
  refine SW.s (fun kk => SP.icmp_ge (tgt := 180) (pc' := 161) dX11_init_158 (by decide) rfl (by unfold fp_rng; decide) (by unfold fp_rng; decide) (fun h => absurd h (by decide)) (fun _ => kk)) ?_
  refine SW.s (fun kk => SP.aload_n (pc' := 162) dX11_init_161 rfl rfl rfl kk) ?_
  refine SW.getR (t := 142) (pc' := 165) dX11_init_162 rfl fX11_84 rfl (by decide) (by decide +kernel) (List.mem_cons_of_mem _ (wSheet_mem (List.mem_cons_of_mem _ (wSheet_mem (List.mem_cons_of_mem _ (wImage_mem (List.mem_cons_of_mem _ (wImage_mem List.mem_cons_self)))))))) ?_
  refine SW.s (fun kk => SP.iload_n (pc' := 166) dX11_init_165 rfl rfl rfl kk) ?_
  refine SW.newO (pc' := 169) dX11_init_166 rfl nX11_82 rfl (n' := 174) (cs' := 173) (ss' := 2168) rfl rfl rfl (by decide) (by decide) ?_
  refine SW.s (fun kk => SP.dup (pc' := 170) dX11_init_169 rfl rfl kk) ?_
  refine SW.callIN (pc' := 173) dX11_init_170 rfl cX11_89 mX9_init vX9_init rfl rfl (by decide) (n' := 175) (cs' := 174) (ss' := 2208) rfl rfl rfl (by decide) (by decide) (Nat.le_of_ble_eq_true rfl) (c_Sheet (k := 173) rfl (by decide +kernel) rfl) ?_
  refine SW.aastS (i := 2) (t := 173) (pc' := 174) dX11_init_173 rfl rfl (by decide) rfl (by decide) rfl (by decide) (by decide +kernel) ?_
  refine SW.s (fun kk => SP.iinc (LL' := [_, some (iV 3)]) (pc' := 177) dX11_init_174 rfl (by decide) rfl rfl rfl kk) ?_
  refine SW.s (fun kk => SP.goto (pc' := 156) dX11_init_177 (by decide) kk) ?_
  refine SW.s (fun kk => SP.iload_n (pc' := 157) dX11_init_156 rfl rfl rfl kk) ?_
  refine SW.s (fun kk => SP.iconst (pc' := 158) dX11_init_157 rfl kk) ?_
  refine SW.s (fun kk => SP.icmp_ge (tgt := 180) (pc' := 161) dX11_init_158 (by decide) rfl (by unfold fp_rng; decide) (by unfold fp_rng; decide) (fun h => absurd h (by decide)) (fun _ => kk)) ?_
  refine SW.s (fun kk => SP.aload_n (pc' := 162) dX11_init_161 rfl rfl rfl kk) ?_
  refine SW.getR (t := 142) (pc' := 165) dX11_init_162 rfl fX11_84 rfl (by decide) (by decide +kernel) (List.mem_cons_of_mem _ (wSheet_mem (List.mem_cons_of_mem _ (wSheet_mem (List.mem_cons_of_mem _ (wSheet_mem (List.mem_cons_of_mem _ (wImage_mem (List.mem_cons_of_mem _ (wImage_mem List.mem_cons_self)))))))))) ?_
  refine SW.s (fun kk => SP.iload_n (pc' := 166) dX11_init_165 rfl rfl rfl kk) ?_
  refine SW.newO (pc' := 169) dX11_init_166 rfl nX11_82 rfl (n' := 176) (cs' := 175) (ss' := 2211) rfl rfl rfl (by decide) (by decide) ?_
  refine SW.s (fun kk => SP.dup (pc' := 170) dX11_init_169 rfl rfl kk) ?_
  refine SW.callIN (pc' := 173) dX11_init_170 rfl cX11_89 mX9_init vX9_init rfl rfl (by decide) (n' := 177) (cs' := 176) (ss' := 2251) rfl rfl rfl (by decide) (by decide) (Nat.le_of_ble_eq_true rfl) (c_Sheet (k := 175) rfl (by decide +kernel) rfl) ?_
  refine SW.aastS (i := 3) (t := 175) (pc' := 174) dX11_init_173 rfl rfl (by decide) rfl (by decide) rfl (by decide) (by decide +kernel) ?_
  refine SW.s (fun kk => SP.iinc (LL' := [_, some (iV 4)]) (pc' := 177) dX11_init_174 rfl (by decide) rfl rfl rfl kk) ?_
  refine SW.s (fun kk => SP.goto (pc' := 156) dX11_init_177 (by decide) kk) ?_
  refine SW.s (fun kk => SP.iload_n (pc' := 157) dX11_init_156 rfl rfl rfl kk) ?_
  refine SW.s (fun kk => SP.iconst (pc' := 158) dX11_init_157 rfl kk) ?_
  refine SW.s (fun kk => SP.icmp_ge (tgt := 180) (pc' := 161) dX11_init_158 (by decide) rfl (by unfold fp_rng; decide) (by unfold fp_rng; decide) (fun _ => kk) (fun h => absurd (by decide) h)) ?_
  exact SW.ret dX11_init_180 rfl
def wModel (L : List (Nat × Nat)) : List (Nat × Nat) := (177, 43) :: (177, 42) :: (177, 41) :: (200, 3) :: (200, 2) :: (200, 1) :: (200, 0) :: (177, 40) :: (177, 39) :: (177, 38) :: (177, 37) :: (177, 36) :: (177, 35) :: (177, 34) :: (177, 32) :: (177, 31) :: (177, 30) :: (177, 29) :: (177, 28) :: (188, 41) :: (188, 40) :: (188, 39) :: (188, 38) :: (188, 37) :: (188, 36) :: (188, 35) :: (188, 34) :: (188, 33) :: (188, 32) :: (188, 31) :: (188, 30) :: (188, 29) :: (188, 28) :: (188, 27) :: (188, 26) :: (188, 25) :: (188, 24) :: (188, 23) :: (188, 22) :: (188, 21) :: (188, 20) :: (188, 19) :: (188, 18) :: (188, 17) :: (188, 16) :: (188, 15) :: (188, 14) :: (188, 13) :: (188, 12) :: (188, 11) :: (188, 10) :: (188, 9) :: (188, 8) :: (188, 7) :: (188, 6) :: (188, 5) :: (188, 4) :: (188, 3) :: (188, 2) :: (188, 1) :: (188, 0) :: (177, 27) :: (187, 8) :: (187, 7) :: (187, 6) :: (187, 5) :: (187, 4) :: (187, 3) :: (187, 2) :: (187, 1) :: (187, 0) :: (177, 18) :: (177, 10) :: (177, 9) :: (177, 8) :: (177, 7) :: (177, 6) :: (177, 3) :: (177, 2) :: (177, 1) :: (177, 0) :: L
theorem wModel_mem {x : Nat × Nat} {L : List (Nat × Nat)} (h : x ∈ L) : x ∈ wModel L := List.mem_cons_of_mem _ (List.mem_cons_of_mem _ (List.mem_cons_of_mem _ (List.mem_cons_of_mem _ (List.mem_cons_of_mem _ (List.mem_cons_of_mem _ (List.mem_cons_of_mem _ (List.mem_cons_of_mem _ (List.mem_cons_of_mem _ (List.mem_cons_of_mem _ (List.mem_cons_of_mem _ (List.mem_cons_of_mem _ (List.mem_cons_of_mem _ (List.mem_cons_of_mem _ (List.mem_cons_of_mem _ (List.mem_cons_of_mem _ (List.mem_cons_of_mem _ (List.mem_cons_of_mem _ (List.mem_cons_of_mem _ (List.mem_cons_of_mem _ (List.mem_cons_of_mem _ (List.mem_cons_of_mem _ (List.mem_cons_of_mem _ (List.mem_cons_of_mem _ (List.mem_cons_of_mem _ (List.mem_cons_of_mem _ (List.mem_cons_of_mem _ (List.mem_cons_of_mem _ (List.mem_cons_of_mem _ (List.mem_cons_of_mem _ (List.mem_cons_of_mem _ (List.mem_cons_of_mem _ (List.mem_cons_of_mem _ (List.mem_cons_of_mem _ (List.mem_cons_of_mem _ (List.mem_cons_of_mem _ (List.mem_cons_of_mem _ (List.mem_cons_of_mem _ (List.mem_cons_of_mem _ (List.mem_cons_of_mem _ (List.mem_cons_of_mem _ (List.mem_cons_of_mem _ (List.mem_cons_of_mem _ (List.mem_cons_of_mem _ (List.mem_cons_of_mem _ (List.mem_cons_of_mem _ (List.mem_cons_of_mem _ (List.mem_cons_of_mem _ (List.mem_cons_of_mem _ (List.mem_cons_of_mem _ (List.mem_cons_of_mem _ (List.mem_cons_of_mem _ (List.mem_cons_of_mem _ (List.mem_cons_of_mem _ (List.mem_cons_of_mem _ (List.mem_cons_of_mem _ (List.mem_cons_of_mem _ (List.mem_cons_of_mem _ (List.mem_cons_of_mem _ (List.mem_cons_of_mem _ (List.mem_cons_of_mem _ (List.mem_cons_of_mem _ (List.mem_cons_of_mem _ (List.mem_cons_of_mem _ (List.mem_cons_of_mem _ (List.mem_cons_of_mem _ (List.mem_cons_of_mem _ (List.mem_cons_of_mem _ (List.mem_cons_of_mem _ (List.mem_cons_of_mem _ (List.mem_cons_of_mem _ (List.mem_cons_of_mem _ (List.mem_cons_of_mem _ (List.mem_cons_of_mem _ (List.mem_cons_of_mem _ (List.mem_cons_of_mem _ (List.mem_cons_of_mem _ (List.mem_cons_of_mem _ (List.mem_cons_of_mem _ (List.mem_cons_of_mem _ (List.mem_cons_of_mem _ (h)))))))))))))))))))))))))))))))))))))))))))))))))))))))))))))))))))))))))))))))))
theorem c_Model {l : Launch} {G : fp_WG} {L : List (Nat × Nat)}  : fp_OkW l G 1 178 25 2883 kX12_init [rV G 177] L (wModel L) := by
  refine fp_OkW.of (r := 0) (nf := 203) rfl (Nat.le_of_ble_eq_true rfl) rfl rfl ?_
  refine SW.s (fun kk => SP.aload_n (pc' := 1) dX12_init_0 rfl rfl rfl kk) ?_
  refine SW.s (fun kk => SP.objInit (pc' := 4) dX12_init_1 rfl oX12_1 (by decide) (Nat.le_of_ble_eq_true rfl) kk) ?_
  refine SW.s (fun kk => SP.aload_n (pc' := 5) dX12_init_4 rfl rfl rfl kk) ?_
  refine SW.s (fun kk => SP.sipush (pc' := 8) dX12_init_5 rfl rfl kk) ?_
  refine SW.newI (pc' := 10) dX12_init_8 rfl rfl rfl (n' := 179) (cs' := 1) (ss' := 600) rfl rfl rfl (by decide) (by decide) ?_
  refine SW.putR (t := 178) (pc' := 13) dX12_init_10 rfl fX12_7 rfl (by decide) rfl (fun q h => by cases h; rfl) (Or.inr ⟨_, rfl⟩) (by decide +kernel) ?_
  refine SW.s (fun kk => SP.aload_n (pc' := 14) dX12_init_13 rfl rfl rfl kk) ?_
  refine SW.s (fun kk => SP.bipush (pc' := 16) dX12_init_14 rfl rfl kk) ?_
  refine SW.newI (pc' := 18) dX12_init_16 rfl rfl rfl (n' := 180) (cs' := 2) (ss' := 611) rfl rfl rfl (by decide) (by decide) ?_
  refine SW.putR (t := 179) (pc' := 21) dX12_init_18 rfl fX12_13 rfl (by decide) rfl (fun q h => by cases h; rfl) (Or.inr ⟨_, rfl⟩) (by decide +kernel) ?_
  refine SW.s (fun kk => SP.aload_n (pc' := 22) dX12_init_21 rfl rfl rfl kk) ?_
  refine SW.s (fun kk => SP.bipush (pc' := 24) dX12_init_22 rfl rfl kk) ?_
  refine SW.newI (pc' := 26) dX12_init_24 rfl rfl rfl (n' := 181) (cs' := 3) (ss' := 655) rfl rfl rfl (by decide) (by decide) ?_
  refine SW.putR (t := 180) (pc' := 29) dX12_init_26 rfl fX12_16 rfl (by decide) rfl (fun q h => by cases h; rfl) (Or.inr ⟨_, rfl⟩) (by decide +kernel) ?_
  refine SW.s (fun kk => SP.aload_n (pc' := 30) dX12_init_29 rfl rfl rfl kk) ?_
  refine SW.s (fun kk => SP.iconst (pc' := 31) dX12_init_30 rfl kk) ?_
  refine SW.newI (pc' := 33) dX12_init_31 rfl rfl rfl (n' := 182) (cs' := 4) (ss' := 658) rfl rfl rfl (by decide) (by decide) ?_
  refine SW.putR (t := 181) (pc' := 36) dX12_init_33 rfl fX12_19 rfl (by decide) rfl (fun q h => by cases h; rfl) (Or.inr ⟨_, rfl⟩) (by decide +kernel) ?_
  refine SW.s (fun kk => SP.aload_n (pc' := 37) dX12_init_36 rfl rfl rfl kk) ?_
  refine SW.s (fun kk => SP.bipush (pc' := 39) dX12_init_37 rfl rfl kk) ?_
  refine SW.putI (pc' := 42) dX12_init_39 rfl fX12_22 rfl (by decide) rfl (fun q h => by cases h; rfl) (by decide +kernel) ?_
  refine SW.s (fun kk => SP.aload_n (pc' := 43) dX12_init_42 rfl rfl rfl kk) ?_
  refine SW.s (fun kk => SP.bipush (pc' := 45) dX12_init_43 rfl rfl kk) ?_
  refine SW.newI (pc' := 47) dX12_init_45 rfl rfl rfl (n' := 183) (cs' := 5) (ss' := 778) rfl rfl rfl (by decide) (by decide) ?_
  refine SW.putR (t := 182) (pc' := 50) dX12_init_47 rfl fX12_26 rfl (by decide) rfl (fun q h => by cases h; rfl) (Or.inr ⟨_, rfl⟩) (by decide +kernel) ?_
  refine SW.s (fun kk => SP.aload_n (pc' := 51) dX12_init_50 rfl rfl rfl kk) ?_
  refine SW.s (fun kk => SP.bipush (pc' := 53) dX12_init_51 rfl rfl kk) ?_
  refine SW.newI (pc' := 55) dX12_init_53 rfl rfl rfl (n' := 184) (cs' := 6) (ss' := 788) rfl rfl rfl (by decide) (by decide) ?_
  refine SW.putR (t := 183) (pc' := 58) dX12_init_55 rfl fX12_29 rfl (by decide) rfl (fun q h => by cases h; rfl) (Or.inr ⟨_, rfl⟩) (by decide +kernel) ?_
  refine SW.s (fun kk => SP.aload_n (pc' := 59) dX12_init_58 rfl rfl rfl kk) ?_
  refine SW.s (fun kk => SP.bipush (pc' := 61) dX12_init_59 rfl rfl kk) ?_
  refine SW.newI (pc' := 63) dX12_init_61 rfl rfl rfl (n' := 185) (cs' := 7) (ss' := 828) rfl rfl rfl (by decide) (by decide) ?_
  refine SW.putR (t := 184) (pc' := 66) dX12_init_63 rfl fX12_32 rfl (by decide) rfl (fun q h => by cases h; rfl) (Or.inr ⟨_, rfl⟩) (by decide +kernel) ?_
  refine SW.s (fun kk => SP.aload_n (pc' := 67) dX12_init_66 rfl rfl rfl kk) ?_
  refine SW.s (fun kk => SP.iconst (pc' := 68) dX12_init_67 rfl kk) ?_
  refine SW.newI (pc' := 70) dX12_init_68 rfl rfl rfl (n' := 186) (cs' := 8) (ss' := 831) rfl rfl rfl (by decide) (by decide) ?_
  refine SW.putR (t := 185) (pc' := 73) dX12_init_70 rfl fX12_35 rfl (by decide) rfl (fun q h => by cases h; rfl) (Or.inr ⟨_, rfl⟩) (by decide +kernel) ?_
  refine SW.s (fun kk => SP.aload_n (pc' := 74) dX12_init_73 rfl rfl rfl kk) ?_
  refine SW.s (fun kk => SP.sipush (pc' := 77) dX12_init_74 rfl rfl kk) ?_
  refine SW.newI (pc' := 79) dX12_init_77 rfl rfl rfl (n' := 187) (cs' := 9) (ss' := 1311) rfl rfl rfl (by decide) (by decide) ?_
  refine SW.putR (t := 186) (pc' := 82) dX12_init_79 rfl fX12_38 rfl (by decide) rfl (fun q h => by cases h; rfl) (Or.inr ⟨_, rfl⟩) (by decide +kernel) ?_
  refine SW.s (fun kk => SP.aload_n (pc' := 83) dX12_init_82 rfl rfl rfl kk) ?_
  refine SW.s (fun kk => SP.bipush (pc' := 85) dX12_init_83 rfl rfl kk) ?_
  refine SW.newI (pc' := 87) dX12_init_85 rfl rfl rfl (n' := 188) (cs' := 10) (ss' := 1320) rfl rfl rfl (by decide) (by decide) ?_
  refine SW.s (fun kk => SP.dup (pc' := 88) dX12_init_87 rfl rfl kk) ?_
  refine SW.s (fun kk => SP.iconst (pc' := 89) dX12_init_88 rfl kk) ?_
  refine SW.s (fun kk => SP.iconst (pc' := 90) dX12_init_89 rfl kk) ?_
  refine SW.iast (i := 0) (pc' := 91) dX12_init_90 rfl rfl (by decide) rfl (by decide) (by decide +kernel) ?_
  refine SW.s (fun kk => SP.dup (pc' := 92) dX12_init_91 rfl rfl kk) ?_
  refine SW.s (fun kk => SP.iconst (pc' := 93) dX12_init_92 rfl kk) ?_
  refine SW.s (fun kk => SP.iconst (pc' := 94) dX12_init_93 rfl kk) ?_
  refine SW.iast (i := 1) (pc' := 95) dX12_init_94 rfl rfl (by decide) rfl (by decide) (by decide +kernel) ?_
  refine SW.s (fun kk => SP.dup (pc' := 96) dX12_init_95 rfl rfl kk) ?_
  refine SW.s (fun kk => SP.iconst (pc' := 97) dX12_init_96 rfl kk) ?_
  refine SW.s (fun kk => SP.bipush (pc' := 99) dX12_init_97 rfl rfl kk) ?_
  refine SW.iast (i := 2) (pc' := 100) dX12_init_99 rfl rfl (by decide) rfl (by decide) (by decide +kernel) ?_
  refine SW.s (fun kk => SP.dup (pc' := 101) dX12_init_100 rfl rfl kk) ?_
  refine SW.s (fun kk => SP.iconst (pc' := 102) dX12_init_101 rfl kk) ?_
  refine SW.s (fun kk => SP.bipush (pc' := 104) dX12_init_102 rfl rfl kk) ?_
  refine SW.iast (i := 3) (pc' := 105) dX12_init_104 rfl rfl (by decide) rfl (by decide) (by decide +kernel) ?_
  refine SW.s (fun kk => SP.dup (pc' := 106) dX12_init_105 rfl rfl kk) ?_
  refine SW.s (fun kk => SP.iconst (pc' := 107) dX12_init_106 rfl kk) ?_
  refine SW.s (fun kk => SP.bipush (pc' := 109) dX12_init_107 rfl rfl kk) ?_
  refine SW.iast (i := 4) (pc' := 110) dX12_init_109 rfl rfl (by decide) rfl (by decide) (by decide +kernel) ?_
  refine SW.s (fun kk => SP.dup (pc' := 111) dX12_init_110 rfl rfl kk) ?_
  refine SW.s (fun kk => SP.iconst (pc' := 112) dX12_init_111 rfl kk) ?_
  refine SW.s (fun kk => SP.bipush (pc' := 114) dX12_init_112 rfl rfl kk) ?_
  refine SW.iast (i := 5) (pc' := 115) dX12_init_114 rfl rfl (by decide) rfl (by decide) (by decide +kernel) ?_
  refine SW.s (fun kk => SP.dup (pc' := 116) dX12_init_115 rfl rfl kk) ?_
  refine SW.s (fun kk => SP.bipush (pc' := 118) dX12_init_116 rfl rfl kk) ?_
  refine SW.s (fun kk => SP.bipush (pc' := 120) dX12_init_118 rfl rfl kk) ?_
  refine SW.iast (i := 6) (pc' := 121) dX12_init_120 rfl rfl (by decide) rfl (by decide) (by decide +kernel) ?_
  refine SW.s (fun kk => SP.dup (pc' := 122) dX12_init_121 rfl rfl kk) ?_
  refine SW.s (fun kk => SP.bipush (pc' := 124) dX12_init_122 rfl rfl kk) ?_
  refine SW.s (fun kk => SP.bipush (pc' := 126) dX12_init_124 rfl rfl kk) ?_
  refine SW.iast (i := 7) (pc' := 127) dX12_init_126 rfl rfl (by decide) rfl (by decide) (by decide +kernel) ?_
  refine SW.s (fun kk => SP.dup (pc' := 128) dX12_init_127 rfl rfl kk) ?_
  refine SW.s (fun kk => SP.bipush (pc' := 130) dX12_init_128 rfl rfl kk) ?_
  refine SW.s (fun kk => SP.bipush (pc' := 132) dX12_init_130 rfl rfl kk) ?_
  refine SW.iast (i := 8) (pc' := 133) dX12_init_132 rfl rfl (by decide) rfl (by decide) (by decide +kernel) ?_
  refine SW.putR (t := 187) (pc' := 136) dX12_init_133 rfl fX12_41 rfl (by decide) rfl (fun q h => by cases h; rfl) (Or.inr ⟨_, rfl⟩) (by decide +kernel) ?_
  refine SW.s (fun kk => SP.aload_n (pc' := 137) dX12_init_136 rfl rfl rfl kk) ?_
  refine SW.s (fun kk => SP.bipush (pc' := 139) dX12_init_137 rfl rfl kk) ?_
  refine SW.newI (pc' := 141) dX12_init_139 rfl rfl rfl (n' := 189) (cs' := 11) (ss' := 1362) rfl rfl rfl (by decide) (by decide) ?_
  refine SW.s (fun kk => SP.dup (pc' := 142) dX12_init_141 rfl rfl kk) ?_
  refine SW.s (fun kk => SP.iconst (pc' := 143) dX12_init_142 rfl kk) ?_
  refine SW.s (fun kk => SP.bipush (pc' := 145) dX12_init_143 rfl rfl kk) ?_
  refine SW.iast (i := 0) (pc' := 146) dX12_init_145 rfl rfl (by decide) rfl (by decide) (by decide +kernel) ?_
  refine SW.s (fun kk => SP.dup (pc' := 147) dX12_init_146 rfl rfl kk) ?_
  refine SW.s (fun kk => SP.iconst (pc' := 148) dX12_init_147 rfl kk) ?_
  refine SW.s (fun kk => SP.bipush (pc' := 150) dX12_init_148 rfl rfl kk) ?_
  refine SW.iast (i := 1) (pc' := 151) dX12_init_150 rfl rfl (by decide) rfl (by decide) (by decide +kernel) ?_
  refine SW.s (fun kk => SP.dup (pc' := 152) dX12_init_151 rfl rfl kk) ?_
  refine SW.s (fun kk => SP.iconst (pc' := 153) dX12_init_152 rfl kk) ?_
  refine SW.s (fun kk => SP.bipush (pc' := 155) dX12_init_153 rfl rfl kk) ?_
  refine SW.iast (i := 2) (pc' := 156) dX12_init_155 rfl rfl (by decide) rfl (by decide) (by decide +kernel) ?_
  refine SW.s (fun kk => SP.dup (pc' := 157) dX12_init_156 rfl rfl kk) ?_
  refine SW.s (fun kk => SP.iconst (pc' := 158) dX12_init_157 rfl kk) ?_
  refine SW.s (fun kk => SP.bipush (pc' := 160) dX12_init_158 rfl rfl kk) ?_
  refine SW.iast (i := 3) (pc' := 161) dX12_init_160 rfl rfl (by decide) rfl (by decide) (by decide +kernel) ?_
  refine SW.s (fun kk => SP.dup (pc' := 162) dX12_init_161 rfl rfl kk) ?_
  refine SW.s (fun kk => SP.iconst (pc' := 163) dX12_init_162 rfl kk) ?_
  refine SW.s (fun kk => SP.bipush (pc' := 165) dX12_init_163 rfl rfl kk) ?_
  refine SW.iast (i := 4) (pc' := 166) dX12_init_165 rfl rfl (by decide) rfl (by decide) (by decide +kernel) ?_
  refine SW.s (fun kk => SP.dup (pc' := 167) dX12_init_166 rfl rfl kk) ?_
  refine SW.s (fun kk => SP.iconst (pc' := 168) dX12_init_167 rfl kk) ?_
  refine SW.s (fun kk => SP.bipush (pc' := 170) dX12_init_168 rfl rfl kk) ?_
  refine SW.iast (i := 5) (pc' := 171) dX12_init_170 rfl rfl (by decide) rfl (by decide) (by decide +kernel) ?_
  refine SW.s (fun kk => SP.dup (pc' := 172) dX12_init_171 rfl rfl kk) ?_
  refine SW.s (fun kk => SP.bipush (pc' := 174) dX12_init_172 rfl rfl kk) ?_
  refine SW.s (fun kk => SP.bipush (pc' := 176) dX12_init_174 rfl rfl kk) ?_
  refine SW.iast (i := 6) (pc' := 177) dX12_init_176 rfl rfl (by decide) rfl (by decide) (by decide +kernel) ?_
  refine SW.s (fun kk => SP.dup (pc' := 178) dX12_init_177 rfl rfl kk) ?_
  refine SW.s (fun kk => SP.bipush (pc' := 180) dX12_init_178 rfl rfl kk) ?_
  refine SW.s (fun kk => SP.bipush (pc' := 182) dX12_init_180 rfl rfl kk) ?_
  refine SW.iast (i := 7) (pc' := 183) dX12_init_182 rfl rfl (by decide) rfl (by decide) (by decide +kernel) ?_
  refine SW.s (fun kk => SP.dup (pc' := 184) dX12_init_183 rfl rfl kk) ?_
  refine SW.s (fun kk => SP.bipush (pc' := 186) dX12_init_184 rfl rfl kk) ?_
  refine SW.s (fun kk => SP.bipush (pc' := 188) dX12_init_186 rfl rfl kk) ?_
  refine SW.iast (i := 8) (pc' := 189) dX12_init_188 rfl rfl (by decide) rfl (by decide) (by decide +kernel) ?_
  refine SW.s (fun kk => SP.dup (pc' := 190) dX12_init_189 rfl rfl kk) ?_
  refine SW.s (fun kk => SP.bipush (pc' := 192) dX12_init_190 rfl rfl kk) ?_
  refine SW.s (fun kk => SP.bipush (pc' := 194) dX12_init_192 rfl rfl kk) ?_
  refine SW.iast (i := 9) (pc' := 195) dX12_init_194 rfl rfl (by decide) rfl (by decide) (by decide +kernel) ?_
  refine SW.s (fun kk => SP.dup (pc' := 196) dX12_init_195 rfl rfl kk) ?_
  refine SW.s (fun kk => SP.bipush (pc' := 198) dX12_init_196 rfl rfl kk) ?_
  refine SW.s (fun kk => SP.bipush (pc' := 200) dX12_init_198 rfl rfl kk) ?_
  refine SW.iast (i := 10) (pc' := 201) dX12_init_200 rfl rfl (by decide) rfl (by decide) (by decide +kernel) ?_
  refine SW.s (fun kk => SP.dup (pc' := 202) dX12_init_201 rfl rfl kk) ?_
  refine SW.s (fun kk => SP.bipush (pc' := 204) dX12_init_202 rfl rfl kk) ?_
  refine SW.s (fun kk => SP.bipush (pc' := 206) dX12_init_204 rfl rfl kk) ?_
  refine SW.iast (i := 11) (pc' := 207) dX12_init_206 rfl rfl (by decide) rfl (by decide) (by decide +kernel) ?_
  refine SW.s (fun kk => SP.dup (pc' := 208) dX12_init_207 rfl rfl kk) ?_
  refine SW.s (fun kk => SP.bipush (pc' := 210) dX12_init_208 rfl rfl kk) ?_
  refine SW.s (fun kk => SP.bipush (pc' := 212) dX12_init_210 rfl rfl kk) ?_
  refine SW.iast (i := 12) (pc' := 213) dX12_init_212 rfl rfl (by decide) rfl (by decide) (by decide +kernel) ?_
  refine SW.s (fun kk => SP.dup (pc' := 214) dX12_init_213 rfl rfl kk) ?_
  refine SW.s (fun kk => SP.bipush (pc' := 216) dX12_init_214 rfl rfl kk) ?_
  refine SW.s (fun kk => SP.bipush (pc' := 218) dX12_init_216 rfl rfl kk) ?_
  refine SW.iast (i := 13) (pc' := 219) dX12_init_218 rfl rfl (by decide) rfl (by decide) (by decide +kernel) ?_
  refine SW.s (fun kk => SP.dup (pc' := 220) dX12_init_219 rfl rfl kk) ?_
  refine SW.s (fun kk => SP.bipush (pc' := 222) dX12_init_220 rfl rfl kk) ?_
  refine SW.s (fun kk => SP.bipush (pc' := 224) dX12_init_222 rfl rfl kk) ?_
  refine SW.iast (i := 14) (pc' := 225) dX12_init_224 rfl rfl (by decide) rfl (by decide) (by decide +kernel) ?_
  refine SW.s (fun kk => SP.dup (pc' := 226) dX12_init_225 rfl rfl kk) ?_
  refine SW.s (fun kk => SP.bipush (pc' := 228) dX12_init_226 rfl rfl kk) ?_
  refine SW.s (fun kk => SP.bipush (pc' := 230) dX12_init_228 rfl rfl kk) ?_
  refine SW.iast (i := 15) (pc' := 231) dX12_init_230 rfl rfl (by decide) rfl (by decide) (by decide +kernel) ?_
  refine SW.s (fun kk => SP.dup (pc' := 232) dX12_init_231 rfl rfl kk) ?_
  refine SW.s (fun kk => SP.bipush (pc' := 234) dX12_init_232 rfl rfl kk) ?_
  refine SW.s (fun kk => SP.bipush (pc' := 236) dX12_init_234 rfl rfl kk) ?_
  refine SW.iast (i := 16) (pc' := 237) dX12_init_236 rfl rfl (by decide) rfl (by decide) (by decide +kernel) ?_
  refine SW.s (fun kk => SP.dup (pc' := 238) dX12_init_237 rfl rfl kk) ?_
  refine SW.s (fun kk => SP.bipush (pc' := 240) dX12_init_238 rfl rfl kk) ?_
  refine SW.s (fun kk => SP.bipush (pc' := 242) dX12_init_240 rfl rfl kk) ?_
  refine SW.iast (i := 17) (pc' := 243) dX12_init_242 rfl rfl (by decide) rfl (by decide) (by decide +kernel) ?_
  refine SW.s (fun kk => SP.dup (pc' := 244) dX12_init_243 rfl rfl kk) ?_
  refine SW.s (fun kk => SP.bipush (pc' := 246) dX12_init_244 rfl rfl kk) ?_
  refine SW.s (fun kk => SP.bipush (pc' := 248) dX12_init_246 rfl rfl kk) ?_
  refine SW.iast (i := 18) (pc' := 249) dX12_init_248 rfl rfl (by decide) rfl (by decide) (by decide +kernel) ?_
  refine SW.s (fun kk => SP.dup (pc' := 250) dX12_init_249 rfl rfl kk) ?_
  refine SW.s (fun kk => SP.bipush (pc' := 252) dX12_init_250 rfl rfl kk) ?_
  refine SW.s (fun kk => SP.bipush (pc' := 254) dX12_init_252 rfl rfl kk) ?_
  refine SW.iast (i := 19) (pc' := 255) dX12_init_254 rfl rfl (by decide) rfl (by decide) (by decide +kernel) ?_
  refine SW.s (fun kk => SP.dup (pc' := 256) dX12_init_255 rfl rfl kk) ?_
  refine SW.s (fun kk => SP.bipush (pc' := 258) dX12_init_256 rfl rfl kk) ?_
  refine SW.s (fun kk => SP.bipush (pc' := 260) dX12_init_258 rfl rfl kk) ?_
  refine SW.iast (i := 20) (pc' := 261) dX12_init_260 rfl rfl (by decide) rfl (by decide) (by decide +kernel) ?_
  refine SW.s (fun kk => SP.dup (pc' := 262) dX12_init_261 rfl rfl kk) ?_
  refine SW.s (fun kk => SP.bipush (pc' := 264) dX12_init_262 rfl rfl kk) ?_
  refine SW.s (fun kk => SP.bipush (pc' := 266) dX12_init_264 rfl rfl kk) ?_
  refine SW.iast (i := 21) (pc' := 267) dX12_init_266 rfl rfl (by decide) rfl (by decide) (by decide +kernel) ?_
  refine SW.s (fun kk => SP.dup (pc' := 268) dX12_init_267 rfl rfl kk) ?_
  refine SW.s (fun kk => SP.bipush (pc' := 270) dX12_init_268 rfl rfl kk) ?_
  refine SW.s (fun kk => SP.bipush (pc' := 272) dX12_init_270 rfl rfl kk) ?_
  refine SW.iast (i := 22) (pc' := 273) dX12_init_272 rfl rfl (by decide) rfl (by decide) (by decide +kernel) ?_
  refine SW.s (fun kk => SP.dup (pc' := 274) dX12_init_273 rfl rfl kk) ?_
  refine SW.s (fun kk => SP.bipush (pc' := 276) dX12_init_274 rfl rfl kk) ?_
  refine SW.s (fun kk => SP.bipush (pc' := 278) dX12_init_276 rfl rfl kk) ?_
  refine SW.iast (i := 23) (pc' := 279) dX12_init_278 rfl rfl (by decide) rfl (by decide) (by decide +kernel) ?_
  refine SW.s (fun kk => SP.dup (pc' := 280) dX12_init_279 rfl rfl kk) ?_
  refine SW.s (fun kk => SP.bipush (pc' := 282) dX12_init_280 rfl rfl kk) ?_
  refine SW.s (fun kk => SP.bipush (pc' := 284) dX12_init_282 rfl rfl kk) ?_
  refine SW.iast (i := 24) (pc' := 285) dX12_init_284 rfl rfl (by decide) rfl (by decide) (by decide +kernel) ?_
  refine SW.s (fun kk => SP.dup (pc' := 286) dX12_init_285 rfl rfl kk) ?_
  refine SW.s (fun kk => SP.bipush (pc' := 288) dX12_init_286 rfl rfl kk) ?_
  refine SW.s (fun kk => SP.bipush (pc' := 290) dX12_init_288 rfl rfl kk) ?_
  refine SW.iast (i := 25) (pc' := 291) dX12_init_290 rfl rfl (by decide) rfl (by decide) (by decide +kernel) ?_
  refine SW.s (fun kk => SP.dup (pc' := 292) dX12_init_291 rfl rfl kk) ?_
  refine SW.s (fun kk => SP.bipush (pc' := 294) dX12_init_292 rfl rfl kk) ?_
  refine SW.s (fun kk => SP.bipush (pc' := 296) dX12_init_294 rfl rfl kk) ?_
  refine SW.iast (i := 26) (pc' := 297) dX12_init_296 rfl rfl (by decide) rfl (by decide) (by decide +kernel) ?_
  refine SW.s (fun kk => SP.dup (pc' := 298) dX12_init_297 rfl rfl kk) ?_
  refine SW.s (fun kk => SP.bipush (pc' := 300) dX12_init_298 rfl rfl kk) ?_
  refine SW.s (fun kk => SP.bipush (pc' := 302) dX12_init_300 rfl rfl kk) ?_
  refine SW.iast (i := 27) (pc' := 303) dX12_init_302 rfl rfl (by decide) rfl (by decide) (by decide +kernel) ?_
  refine SW.s (fun kk => SP.dup (pc' := 304) dX12_init_303 rfl rfl kk) ?_
  refine SW.s (fun kk => SP.bipush (pc' := 306) dX12_init_304 rfl rfl kk) ?_
  refine SW.s (fun kk => SP.bipush (pc' := 308) dX12_init_306 rfl rfl kk) ?_
  refine SW.iast (i := 28) (pc' := 309) dX12_init_308 rfl rfl (by decide) rfl (by decide) (by decide +kernel) ?_
  refine SW.s (fun kk => SP.dup (pc' := 310) dX12_init_309 rfl rfl kk) ?_
  refine SW.s (fun kk => SP.bipush (pc' := 312) dX12_init_310 rfl rfl kk) ?_
  refine SW.s (fun kk => SP.bipush (pc' := 314) dX12_init_312 rfl rfl kk) ?_
  refine SW.iast (i := 29) (pc' := 315) dX12_init_314 rfl rfl (by decide) rfl (by decide) (by decide +kernel) ?_
  refine SW.s (fun kk => SP.dup (pc' := 316) dX12_init_315 rfl rfl kk) ?_
  refine SW.s (fun kk => SP.bipush (pc' := 318) dX12_init_316 rfl rfl kk) ?_
  refine SW.s (fun kk => SP.bipush (pc' := 320) dX12_init_318 rfl rfl kk) ?_
  refine SW.iast (i := 30) (pc' := 321) dX12_init_320 rfl rfl (by decide) rfl (by decide) (by decide +kernel) ?_
  refine SW.s (fun kk => SP.dup (pc' := 322) dX12_init_321 rfl rfl kk) ?_
  refine SW.s (fun kk => SP.bipush (pc' := 324) dX12_init_322 rfl rfl kk) ?_
  refine SW.s (fun kk => SP.bipush (pc' := 326) dX12_init_324 rfl rfl kk) ?_
  refine SW.iast (i := 31) (pc' := 327) dX12_init_326 rfl rfl (by decide) rfl (by decide) (by decide +kernel) ?_
  refine SW.s (fun kk => SP.dup (pc' := 328) dX12_init_327 rfl rfl kk) ?_
  refine SW.s (fun kk => SP.bipush (pc' := 330) dX12_init_328 rfl rfl kk) ?_
  refine SW.s (fun kk => SP.bipush (pc' := 332) dX12_init_330 rfl rfl kk) ?_
  refine SW.iast (i := 32) (pc' := 333) dX12_init_332 rfl rfl (by decide) rfl (by decide) (by decide +kernel) ?_
  refine SW.s (fun kk => SP.dup (pc' := 334) dX12_init_333 rfl rfl kk) ?_
  refine SW.s (fun kk => SP.bipush (pc' := 336) dX12_init_334 rfl rfl kk) ?_
  refine SW.s (fun kk => SP.bipush (pc' := 338) dX12_init_336 rfl rfl kk) ?_
  refine SW.iast (i := 33) (pc' := 339) dX12_init_338 rfl rfl (by decide) rfl (by decide) (by decide +kernel) ?_
  refine SW.s (fun kk => SP.dup (pc' := 340) dX12_init_339 rfl rfl kk) ?_
  refine SW.s (fun kk => SP.bipush (pc' := 342) dX12_init_340 rfl rfl kk) ?_
  refine SW.s (fun kk => SP.bipush (pc' := 344) dX12_init_342 rfl rfl kk) ?_
  refine SW.iast (i := 34) (pc' := 345) dX12_init_344 rfl rfl (by decide) rfl (by decide) (by decide +kernel) ?_
  refine SW.s (fun kk => SP.dup (pc' := 346) dX12_init_345 rfl rfl kk) ?_
  refine SW.s (fun kk => SP.bipush (pc' := 348) dX12_init_346 rfl rfl kk) ?_
  refine SW.s (fun kk => SP.bipush (pc' := 350) dX12_init_348 rfl rfl kk) ?_
  refine SW.iast (i := 35) (pc' := 351) dX12_init_350 rfl rfl (by decide) rfl (by decide) (by decide +kernel) ?_
  refine SW.s (fun kk => SP.dup (pc' := 352) dX12_init_351 rfl rfl kk) ?_
  refine SW.s (fun kk => SP.bipush (pc' := 354) dX12_init_352 rfl rfl kk) ?_
  refine SW.s (fun kk => SP.bipush (pc' := 356) dX12_init_354 rfl rfl kk) ?_
  refine SW.iast (i := 36) (pc' := 357) dX12_init_356 rfl rfl (by decide) rfl (by decide) (by decide +kernel) ?_
  refine SW.s (fun kk => SP.dup (pc' := 358) dX12_init_357 rfl rfl kk) ?_
  refine SW.s (fun kk => SP.bipush (pc' := 360) dX12_init_358 rfl rfl kk) ?_
  refine SW.s (fun kk => SP.bipush (pc' := 362) dX12_init_360 rfl rfl kk) ?_
  refine SW.iast (i := 37) (pc' := 363) dX12_init_362 rfl rfl (by decide) rfl (by decide) (by decide +kernel) ?_
  refine SW.s (fun kk => SP.dup (pc' := 364) dX12_init_363 rfl rfl kk) ?_
  refine SW.s (fun kk => SP.bipush (pc' := 366) dX12_init_364 rfl rfl kk) ?_
  refine SW.s (fun kk => SP.bipush (pc' := 368) dX12_init_366 rfl rfl kk) ?_
  refine SW.iast (i := 38) (pc' := 369) dX12_init_368 rfl rfl (by decide) rfl (by decide) (by decide +kernel) ?_
  refine SW.s (fun kk => SP.dup (pc' := 370) dX12_init_369 rfl rfl kk) ?_
  refine SW.s (fun kk => SP.bipush (pc' := 372) dX12_init_370 rfl rfl kk) ?_
  refine SW.s (fun kk => SP.bipush (pc' := 374) dX12_init_372 rfl rfl kk) ?_
  refine SW.iast (i := 39) (pc' := 375) dX12_init_374 rfl rfl (by decide) rfl (by decide) (by decide +kernel) ?_
  refine SW.s (fun kk => SP.dup (pc' := 376) dX12_init_375 rfl rfl kk) ?_
  refine SW.s (fun kk => SP.bipush (pc' := 378) dX12_init_376 rfl rfl kk) ?_
  refine SW.s (fun kk => SP.bipush (pc' := 380) dX12_init_378 rfl rfl kk) ?_
  refine SW.iast (i := 40) (pc' := 381) dX12_init_380 rfl rfl (by decide) rfl (by decide) (by decide +kernel) ?_
  refine SW.s (fun kk => SP.dup (pc' := 382) dX12_init_381 rfl rfl kk) ?_
  refine SW.s (fun kk => SP.bipush (pc' := 384) dX12_init_382 rfl rfl kk) ?_
  refine SW.s (fun kk => SP.bipush (pc' := 386) dX12_init_384 rfl rfl kk) ?_
  refine SW.iast (i := 41) (pc' := 387) dX12_init_386 rfl rfl (by decide) rfl (by decide) (by decide +kernel) ?_
  refine SW.putR (t := 188) (pc' := 390) dX12_init_387 rfl fX12_44 rfl (by decide) rfl (fun q h => by cases h; rfl) (Or.inr ⟨_, rfl⟩) (by decide +kernel) ?_
  refine SW.s (fun kk => SP.aload_n (pc' := 391) dX12_init_390 rfl rfl rfl kk) ?_
  refine SW.s (fun kk => SP.sipush (pc' := 394) dX12_init_391 rfl rfl kk) ?_
  refine SW.newI (pc' := 396) dX12_init_394 rfl rfl rfl (n' := 190) (cs' := 12) (ss' := 1922) rfl rfl rfl (by decide) (by decide) ?_
  refine SW.putR (t := 189) (pc' := 399) dX12_init_396 rfl fX12_47 rfl (by decide) rfl (fun q h => by cases h; rfl) (Or.inr ⟨_, rfl⟩) (by decide +kernel) ?_
  refine SW.s (fun kk => SP.aload_n (pc' := 400) dX12_init_399 rfl rfl rfl kk) ?_
  refine SW.s (fun kk => SP.bipush (pc' := 402) dX12_init_400 rfl rfl kk) ?_
  refine SW.newI (pc' := 404) dX12_init_402 rfl rfl rfl (n' := 191) (cs' := 13) (ss' := 1934) rfl rfl rfl (by decide) (by decide) ?_
  refine SW.putR (t := 190) (pc' := 407) dX12_init_404 rfl fX12_50 rfl (by decide) rfl (fun q h => by cases h; rfl) (Or.inr ⟨_, rfl⟩) (by decide +kernel) ?_
  refine SW.s (fun kk => SP.aload_n (pc' := 408) dX12_init_407 rfl rfl rfl kk) ?_
  refine SW.s (fun kk => SP.bipush (pc' := 410) dX12_init_408 rfl rfl kk) ?_
  refine SW.newI (pc' := 412) dX12_init_410 rfl rfl rfl (n' := 192) (cs' := 14) (ss' := 1946) rfl rfl rfl (by decide) (by decide) ?_
  refine SW.putR (t := 191) (pc' := 415) dX12_init_412 rfl fX12_53 rfl (by decide) rfl (fun q h => by cases h; rfl) (Or.inr ⟨_, rfl⟩) (by decide +kernel) ?_
  refine SW.s (fun kk => SP.aload_n (pc' := 416) dX12_init_415 rfl rfl rfl kk) ?_
  refine SW.s (fun kk => SP.bipush (pc' := 418) dX12_init_416 rfl rfl kk) ?_
  refine SW.newJ (pc' := 420) dX12_init_418 rfl rfl rfl (n' := 193) (cs' := 15) (ss' := 1956) rfl rfl rfl (by decide) (by decide) ?_
  refine SW.putR (t := 192) (pc' := 423) dX12_init_420 rfl fX12_56 rfl (by decide) rfl (fun q h => by cases h; rfl) (Or.inr ⟨_, rfl⟩) (by decide +kernel) ?_
  refine SW.s (fun kk => SP.aload_n (pc' := 424) dX12_init_423 rfl rfl rfl kk) ?_
  refine SW.s (fun kk => SP.sipush (pc' := 427) dX12_init_424 rfl rfl kk) ?_
  refine SW.newI (pc' := 429) dX12_init_427 rfl rfl rfl (n' := 194) (cs' := 16) (ss' := 2685) rfl rfl rfl (by decide) (by decide) ?_
  refine SW.putR (t := 193) (pc' := 432) dX12_init_429 rfl fX12_60 rfl (by decide) rfl (fun q h => by cases h; rfl) (Or.inr ⟨_, rfl⟩) (by decide +kernel) ?_
  refine SW.s (fun kk => SP.aload_n (pc' := 433) dX12_init_432 rfl rfl rfl kk) ?_
  refine SW.s (fun kk => SP.bipush (pc' := 435) dX12_init_433 rfl rfl kk) ?_
  refine SW.newI (pc' := 437) dX12_init_435 rfl rfl rfl (n' := 195) (cs' := 17) (ss' := 2693) rfl rfl rfl (by decide) (by decide) ?_
  refine SW.putR (t := 194) (pc' := 440) dX12_init_437 rfl fX12_63 rfl (by decide) rfl (fun q h => by cases h; rfl) (Or.inr ⟨_, rfl⟩) (by decide +kernel) ?_
  refine SW.s (fun kk => SP.aload_n (pc' := 441) dX12_init_440 rfl rfl rfl kk) ?_
  refine SW.s (fun kk => SP.bipush (pc' := 443) dX12_init_441 rfl rfl kk) ?_
  refine SW.newI (pc' := 445) dX12_init_443 rfl rfl rfl (n' := 196) (cs' := 18) (ss' := 2701) rfl rfl rfl (by decide) (by decide) ?_
  refine SW.putR (t := 195) (pc' := 448) dX12_init_445 rfl fX12_66 rfl (by decide) rfl (fun q h => by cases h; rfl) (Or.inr ⟨_, rfl⟩) (by decide +kernel) ?_
  refine SW.s (fun kk => SP.aload_n (pc' := 449) dX12_init_448 rfl rfl rfl kk) ?_
  refine SW.s (fun kk => SP.iconst (pc' := 450) dX12_init_449 rfl kk) ?_
  refine SW.newI (pc' := 452) dX12_init_450 rfl rfl rfl (n' := 197) (cs' := 19) (ss' := 2705) rfl rfl rfl (by decide) (by decide) ?_
  refine SW.putR (t := 196) (pc' := 455) dX12_init_452 rfl fX12_69 rfl (by decide) rfl (fun q h => by cases h; rfl) (Or.inr ⟨_, rfl⟩) (by decide +kernel) ?_
  refine SW.s (fun kk => SP.aload_n (pc' := 456) dX12_init_455 rfl rfl rfl kk) ?_
  refine SW.s (fun kk => SP.iconst (pc' := 457) dX12_init_456 rfl kk) ?_
  refine SW.newI (pc' := 459) dX12_init_457 rfl rfl rfl (n' := 198) (cs' := 20) (ss' := 2709) rfl rfl rfl (by decide) (by decide) ?_
  refine SW.putR (t := 197) (pc' := 462) dX12_init_459 rfl fX12_72 rfl (by decide) rfl (fun q h => by cases h; rfl) (Or.inr ⟨_, rfl⟩) (by decide +kernel) ?_
  refine SW.s (fun kk => SP.aload_n (pc' := 463) dX12_init_462 rfl rfl rfl kk) ?_
  refine SW.s (fun kk => SP.iconst (pc' := 464) dX12_init_463 rfl kk) ?_
  refine SW.newI (pc' := 466) dX12_init_464 rfl rfl rfl (n' := 199) (cs' := 21) (ss' := 2713) rfl rfl rfl (by decide) (by decide) ?_
  refine SW.putR (t := 198) (pc' := 469) dX12_init_466 rfl fX12_75 rfl (by decide) rfl (fun q h => by cases h; rfl) (Or.inr ⟨_, rfl⟩) (by decide +kernel) ?_
  refine SW.s (fun kk => SP.aload_n (pc' := 470) dX12_init_469 rfl rfl rfl kk) ?_
  refine SW.s (fun kk => SP.iconst (pc' := 471) dX12_init_470 rfl kk) ?_
  refine SW.newZ (pc' := 473) dX12_init_471 rfl rfl rfl (n' := 200) (cs' := 22) (ss' := 2715) rfl rfl rfl (by decide) (by decide) ?_
  refine SW.putR (t := 199) (pc' := 476) dX12_init_473 rfl fX12_78 rfl (by decide) rfl (fun q h => by cases h; rfl) (Or.inr ⟨_, rfl⟩) (by decide +kernel) ?_
  refine SW.s (fun kk => SP.aload_n (pc' := 477) dX12_init_476 rfl rfl rfl kk) ?_
  refine SW.s (fun kk => SP.iconst (pc' := 478) dX12_init_477 rfl kk) ?_
  refine SW.newI (pc' := 480) dX12_init_478 rfl rfl rfl (n' := 201) (cs' := 23) (ss' := 2719) rfl rfl rfl (by decide) (by decide) ?_
  refine SW.s (fun kk => SP.dup (pc' := 481) dX12_init_480 rfl rfl kk) ?_
  refine SW.s (fun kk => SP.iconst (pc' := 482) dX12_init_481 rfl kk) ?_
  refine SW.s (fun kk => SP.bipush (pc' := 484) dX12_init_482 rfl rfl kk) ?_
  refine SW.iast (i := 0) (pc' := 485) dX12_init_484 rfl rfl (by decide) rfl (by decide) (by decide +kernel) ?_
  refine SW.s (fun kk => SP.dup (pc' := 486) dX12_init_485 rfl rfl kk) ?_
  refine SW.s (fun kk => SP.iconst (pc' := 487) dX12_init_486 rfl kk) ?_
  refine SW.s (fun kk => SP.bipush (pc' := 489) dX12_init_487 rfl rfl kk) ?_
  refine SW.iast (i := 1) (pc' := 490) dX12_init_489 rfl rfl (by decide) rfl (by decide) (by decide +kernel) ?_
  refine SW.s (fun kk => SP.dup (pc' := 491) dX12_init_490 rfl rfl kk) ?_
  refine SW.s (fun kk => SP.iconst (pc' := 492) dX12_init_491 rfl kk) ?_
  refine SW.s (fun kk => SP.bipush (pc' := 494) dX12_init_492 rfl rfl kk) ?_
  refine SW.iast (i := 2) (pc' := 495) dX12_init_494 rfl rfl (by decide) rfl (by decide) (by decide +kernel) ?_
  refine SW.s (fun kk => SP.dup (pc' := 496) dX12_init_495 rfl rfl kk) ?_
  refine SW.s (fun kk => SP.iconst (pc' := 497) dX12_init_496 rfl kk) ?_
  refine SW.s (fun kk => SP.bipush (pc' := 499) dX12_init_497 rfl rfl kk) ?_
  refine SW.iast (i := 3) (pc' := 500) dX12_init_499 rfl rfl (by decide) rfl (by decide) (by decide +kernel) ?_
  refine SW.putR (t := 200) (pc' := 503) dX12_init_500 rfl fX12_82 rfl (by decide) rfl (fun q h => by cases h; rfl) (Or.inr ⟨_, rfl⟩) (by decide +kernel) ?_
  refine SW.s (fun kk => SP.aload_n (pc' := 504) dX12_init_503 rfl rfl rfl kk) ?_
  refine SW.s (fun kk => SP.iconst (pc' := 505) dX12_init_504 rfl kk) ?_
  refine SW.newI (pc' := 507) dX12_init_505 rfl rfl rfl (n' := 202) (cs' := 24) (ss' := 2723) rfl rfl rfl (by decide) (by decide) ?_
  refine SW.putR (t := 201) (pc' := 510) dX12_init_507 rfl fX12_85 rfl (by decide) rfl (fun q h => by cases h; rfl) (Or.inr ⟨_, rfl⟩) (by decide +kernel) ?_
  refine SW.s (fun kk => SP.aload_n (pc' := 511) dX12_init_510 rfl rfl rfl kk) ?_
  refine SW.s (fun kk => SP.sipush (pc' := 514) dX12_init_511 rfl rfl kk) ?_
  refine SW.newI (pc' := 516) dX12_init_514 rfl rfl rfl (n' := 203) (cs' := 25) (ss' := 2883) rfl rfl rfl (by decide) (by decide) ?_
  refine SW.putR (t := 202) (pc' := 519) dX12_init_516 rfl fX12_88 rfl (by decide) rfl (fun q h => by cases h; rfl) (Or.inr ⟨_, rfl⟩) (by decide +kernel) ?_
  exact SW.ret dX12_init_519 rfl
end
section
/-! THE START: what both objects hold when they are made -/
def fp_L0 : List (Nat × Nat) := wModel (wFirstPut [])
theorem fp_all0 : ∀ k, k < 203 → ∀ j, j < (fp_iniL.getD k []).length → fp_ini k j = 0 ∨ (k, j) ∈ fp_L0 := by decide +kernel
theorem fp_ini_len : fp_iniL.length = 203 := by decide +kernel
theorem fp_w0 : fp_w fp_L0 = fp_ini := by
  funext k j
  unfold fp_w
  by_cases h : (k, j) ∈ fp_L0
  · rw [if_pos h]
  · rw [if_neg h]
    by_cases hk : k < 203
    · by_cases hj : j < (fp_iniL.getD k []).length
      · rcases fp_all0 k hk j hj with h1 | h1
        · exact h1.symm
        · exact absurd h1 h
      · unfold fp_ini
        rw [List.getD_eq_getElem?_getD, List.getElem?_eq_none (by omega)]
        rfl
    · unfold fp_ini
      rw [List.getD_eq_getElem?_getD (l := fp_iniL), List.getElem?_eq_none (by rw [fp_ini_len]; omega)]
      simp
theorem fp_all1 : ∀ k, k < 203 → ∀ j, j < (fp_refL.getD k []).length → fp_ref k j = 0 ∨ fp_ini k j = (fp_ref k j : Int) := by decide +kernel
theorem fp_sx0 : fp_sx fp_ini = fp_ini := by
  funext k j
  unfold fp_sx
  by_cases h : fp_ref k j = 0
  · rw [if_pos h]
  · rw [if_neg h]
    by_cases hk : k < 203
    · by_cases hj : j < (fp_refL.getD k []).length
      · rcases fp_all1 k hk j hj with h1 | h1
        · exact absurd h1 h
        · exact h1.symm
      · exfalso
        apply h
        unfold fp_ref
        rw [List.getD_eq_getElem?_getD, List.getElem?_eq_none (by omega)]
        rfl
    · exfalso
      apply h
      unfold fp_ref
      rw [List.getD_eq_getElem?_getD (l := fp_refL), List.getElem?_eq_none (by rw [show fp_refL.length = 203 by decide +kernel]; omega)]
      simp
def s0G : aGd := (0, 0, 10, fun _ => 0, fun _ _ => 0, fun _ => 0)
def s0P : aPg := (fun _ => -4, fun _ => -4, fun _ => [])
def s0I : aIm := fun _ => none
def s0S : aSh := fun _ => (-4, 0, fun _ => 0)
theorem s0_row {k : Nat} (h : fp_iniL.getD k [] = []) (j : Nat) : fp_ini k j = 0 := by
  unfold fp_ini
  rw [h]; rfl
theorem s0_row10 {k : Nat} (h : fp_iniL.getD k [] = [-4, -4, -4, -4, -4, -4, -4, -4, -4, -4]) (j : Nat) (hj : j < 10) : fp_ini k j = -4 := by
  unfold fp_ini
  rw [h]
  rcases (show j = 0 ∨ j = 1 ∨ j = 2 ∨ j = 3 ∨ j = 4 ∨ j = 5 ∨ j = 6 ∨ j = 7 ∨ j = 8 ∨ j = 9 by omega) with rfl | rfl | rfl | rfl | rfl | rfl | rfl | rfl | rfl | rfl <;> rfl
theorem s0_ok : OK s0G s0P [] [] s0I s0S := by
  refine ⟨⟨⟨by decide, by decide⟩, ⟨by decide, by decide⟩, ⟨by decide, by decide⟩, ?_, ?_, ?_⟩, ⟨?_, ?_, ?_⟩, fun v h => (List.not_mem_nil h).elim, ⟨fun v h => (List.not_mem_nil h).elim, List.nodup_nil⟩, ?_, ?_⟩
  · intro t h0 h1; exact absurd h1 (by show ¬ t < 0; omega)
  · intro t p h0 h1; exact absurd h1 (by show ¬ t < 0; omega)
  · intro x h0 h1; exact absurd h1 (by show ¬ x < 0; omega)
  · intro t h0 h1; exact absurd h1 (by show ¬ t < 0; omega)
  · intro x h0 h1
    exact ⟨by show (0 : Nat) ≤ 8; omega, List.nodup_nil, fun _ => rfl, fun t h => (List.not_mem_nil h).elim⟩
  · intro t h0 h1; exact absurd h1 (by show ¬ t < 0; omega)
  · intro k x h; cases h
  · intro k h0 h1; exact Or.inl rfl
theorem s0_cs : CS fp_ini [] 0 s0G s0P [] [] s0I s0S 0 := by
  refine ⟨⟨by decide +kernel, by decide, ?_, by decide +kernel, by decide +kernel, ⟨by decide, by decide⟩, ⟨by decide, by decide⟩⟩, ?_, ?_, ?_, ?_, ?_, ?_⟩
  · intro i h0 h1; exact absurd h1 (by show ¬ i < ((0 : Nat) : Int); omega)
  · refine ⟨by decide +kernel, by decide +kernel, by decide +kernel, ?_, by decide +kernel, ?_, ?_, ?_, ?_⟩
    · intro t h0 h1; exact absurd h1 (by show ¬ t < 0; omega)
    · intro t p h0 h1; exact absurd h1 (by show ¬ t < 0; omega)
    · intro p h0 h1; exact s0_row (k := 20) (by decide +kernel) _
    · intro x h0 h1; exact absurd h1 (by show ¬ x < 0; omega)
    · refine ⟨by decide +kernel, by decide +kernel, by decide +kernel, fun i h0 h1 => ?_, fun i h0 h1 => ?_, fun i h0 h1 => ?_⟩
      · rw [s0_row (k := 18 + 1) (by decide +kernel)]; decide
      · rw [s0_row (k := 18 + 2) (by decide +kernel)]; decide
      · rw [s0_row (k := 18 + 3) (by decide +kernel)]; decide
  · refine ⟨?_, ?_, ?_, ?_, ?_⟩
    · intro t h0 h1; exact absurd h1 (by show ¬ t < 0; omega)
    · intro t h0 h1
      have h0' : (0 : Int) ≤ t := h0
      exact s0_row10 (k := 22 + 1) (by decide +kernel) _ (by omega)
    · intro t h0 h1; exact absurd h1 (by show ¬ t < 0; omega)
    · intro x h0 h1
      refine ⟨s0_row (k := 22 + 3) (by decide +kernel) _, fun i i0 i1 => absurd i1 (by show ¬ i < ((0 : Nat) : Int); omega)⟩
    · refine ⟨fun t h0 h1 => ?_, fun l h0 h1 => ?_, fun i h0 h1 => ?_⟩
      · rw [s0_row10 (k := 22 + 1) (by decide +kernel) _ (by omega)]; decide
      · rw [s0_row (k := 22 + 3) (by decide +kernel)]; decide
      · rw [s0_row (k := 22 + 4) (by decide +kernel)]; decide
  · exact ⟨by decide +kernel, by decide, fun i i0 i1 => absurd i1 (by show ¬ i < ((0 : Nat) : Int); omega)⟩
  · exact ⟨by decide +kernel, by decide, fun i i0 i1 => absurd i1 (by show ¬ i < ((0 : Nat) : Int); omega)⟩
  · intro k h0 h1
    refine Or.inl ⟨rfl, ?_⟩
    rcases (show k = 0 ∨ k = 1 by omega) with rfl | rfl <;> decide +kernel
  · intro k h0 h1
    refine Or.inl ⟨rfl, ?_⟩
    rcases (show k = 0 ∨ k = 1 ∨ k = 2 ∨ k = 3 by omega) with rfl | rfl | rfl | rfl <;> decide +kernel
theorem s0_ms : MS fp_ini [] 0 s0G s0P [] [] s0I s0S 0 := by
  refine ⟨⟨by decide +kernel, by decide, ?_, by decide +kernel, by decide +kernel⟩, ?_, ?_, ?_, ?_, ?_, ?_, ?_⟩
  · intro i h0 h1; exact absurd h1 (by show ¬ i < ((0 : Nat) : Int); omega)
  · refine ⟨by decide +kernel, by decide +kernel, by decide +kernel, ?_, by decide +kernel, ?_, ?_, ?_, ?_⟩
    · intro t h0 h1; exact absurd h1 (by show ¬ t < 0; omega)
    · intro t p h0 h1; exact absurd h1 (by show ¬ t < 0; omega)
    · intro p h0 h1; exact s0_row (k := 180) (by decide +kernel) _
    · intro x h0 h1; exact absurd h1 (by show ¬ x < 0; omega)
    · refine ⟨by decide +kernel, by decide +kernel, by decide +kernel, fun i h0 h1 => ?_, fun i h0 h1 => ?_, fun i h0 h1 => ?_⟩
      · rw [s0_row (k := 179) (by decide +kernel)]; decide
      · rw [s0_row (k := 180) (by decide +kernel)]; decide
      · rw [s0_row (k := 181) (by decide +kernel)]; decide
  · refine ⟨?_, ?_, ?_⟩
    · intro t h0 h1; exact absurd h1 (by show ¬ t < 0; omega)
    · intro t h0 h1; exact absurd h1 (by show ¬ t < 0; omega)
    · intro x h0 h1
      refine ⟨s0_row (k := 178) (by decide +kernel) _, fun i i0 i1 => absurd i1 (by show ¬ i < ((0 : Nat) : Int); omega)⟩
  · exact ⟨by decide +kernel, by decide, fun i i0 i1 => absurd i1 (by show ¬ i < ((0 : Nat) : Int); omega)⟩
  · exact ⟨by decide +kernel, by decide, fun i i0 i1 => absurd i1 (by show ¬ i < ((0 : Nat) : Int); omega)⟩
  · intro k h0 h1
    refine Or.inl ⟨rfl, ?_⟩
    rcases (show k = 0 ∨ k = 1 by omega) with rfl | rfl <;> decide +kernel
  · intro k h0 h1
    refine ⟨?_, fun h => absurd rfl h⟩
    rcases (show k = 0 ∨ k = 1 ∨ k = 2 ∨ k = 3 by omega) with rfl | rfl | rfl | rfl <;> decide +kernel
  · exact ⟨by decide +kernel, by decide +kernel⟩
end
section
/-! THE LAW: its rows, what holds at its entry, its end -/
abbrev kL (nm : String) : fp_MR := (⟨RL, nm, "([I)Z"⟩, cL_law, 4, some .boolean)
theorem fp_ofi (x : Int32) : Int32.ofInt x.toInt = x := by simp
theorem fp_ofj (x : Int64) : Int64.ofInt x.toInt = x := by simp
theorem fp_lng_of (x : Int64) : fp_lng x.toInt := ⟨by have := x.le_toInt; omega, by have := x.toInt_lt; omega⟩
theorem fp_rng_lng {z : Int} (h : fp_rng z) : fp_lng z := ⟨by have := h.1; omega, by have := h.2; omega⟩
section LWR
variable {l : Launch} {G : fp_WG} {d n cs ss mc ms nf : Nat} {Y : fp_MR} {pc pc' : Nat} {LL LL' : List (Option Value)} {st : List Value} {M : fp_Mem} {Q : fp_Q}
theorem SP.eqM {M' : fp_Mem} (e : M = M') (k : fp_SP l G d n cs ss mc ms nf Y pc LL st M' Q) : fp_SP l G d n cs ss mc ms nf Y pc LL st M Q := e ▸ k
/-- the law's own script -/
theorem SP.sld {z : Int} (hd : decode Y.2.1 pc = .ok (.iaload, 1)) (hp : pc + 1 = pc') (h0 : 0 ≤ z) (h1 : z < (G.2.2.2.2.2.1 : Int)) (hL : G.2.2.2.2.2.1 ≤ 2147483647) (kk : fp_SP l G d n cs ss mc ms nf Y pc' LL (iV (G.2.2.2.2.2.2 z.toNat).toInt :: st) M Q) : fp_SP l G d n cs ss mc ms nf Y pc LL (iV z :: .ref G.1 :: st) M Q := by
  subst hp
  intro p e s m args below meth c0 H locs ls C hR hL' hl
  have K0 := C.2.2.2.2.2.2.2.1
  have hW := C.2.2.2.2.2.2.2.2
  obtain ⟨scr, q1, q2, q3, q4, q5⟩ := K0.2.2.2.1
  have hcl := fp_clamp h0 (by omega)
  refine W.iald (v := .int (G.2.2.2.2.2.2 z.toNat)) C.1 C.2.1 (by rw [hR.2.2 G.1 K0.2.2.2.2.1]; exact q1) (State.isArrayOf_alike hW.alike q2) q3 (by rw [q4]; exact fp_in h0 h1 hL) (by rw [hcl]; exact q5 _ (by omega)) rfl rfl hd ?_
  have := kk p e s m args below meth c0 H locs ls C hR hL' hl
  rwa [show iV (G.2.2.2.2.2.2 z.toNat).toInt = .int (G.2.2.2.2.2.2 z.toNat) by unfold iV; rw [fp_ofi]] at this
theorem SP.slen (hd : decode Y.2.1 pc = .ok (.arraylength, 1)) (hp : pc + 1 = pc') (kk : fp_SP l G d n cs ss mc ms nf Y pc' LL (iV (G.2.2.2.2.2.1 : Int) :: st) M Q) : fp_SP l G d n cs ss mc ms nf Y pc LL (.ref G.1 :: st) M Q := by
  subst hp
  intro p e s m args below meth c0 H locs ls C hR hL' hl
  have K0 := C.2.2.2.2.2.2.2.1
  have hW := C.2.2.2.2.2.2.2.2
  obtain ⟨scr, q1, q2, q3, q4, q5⟩ := K0.2.2.2.1
  exact W.alen (n := Int32.ofInt (G.2.2.2.2.2.1 : Int)) C.1 C.2.1 (by rw [hR.2.2 G.1 K0.2.2.2.2.1]; exact q1) (State.isArrayOf_alike hW.alike q2) (by rw [q4]; rfl) rfl rfl hd (kk p e s m args below meth c0 H locs ls C hR hL' hl)
theorem SP.ldc2 {idx : Nat} {w : Int64} {v : Int} (hd : decode Y.2.1 pc = .ok (.ldc2_w idx, 3)) (hp : pc + 3 = pc') (hc : Cond.constantLong Y.1.cls idx w ∈ lw_tbl) (hw : w = Int64.ofInt v) (kk : fp_SP l G d n cs ss mc ms nf Y pc' LL (jV v :: st) M Q) : fp_SP l G d n cs ss mc ms nf Y pc LL st M Q := by
  subst hp
  subst hw
  intro p e s m args below meth c H locs ls C hR hL hl
  exact lv_ldc2 C.1 C.2.1 C.2.2.2.1 (fp_word C.2.2.2.2.2.2.2.1 C.2.2.2.2.2.2.2.2 hc rfl) hd (kk p e s m args below meth c H locs ls C hR hL hl)
/-- two answers that are the same -/
theorem SP.same {a : Int} {off : Int} {tgt : Nat} (hd : decode Y.2.1 pc = .ok (.if_icmp .eq off, 3)) (ht : (pc : Int) + off = (tgt : Int)) (kt : fp_SP l G d n cs ss mc ms nf Y tgt LL st M Q) : fp_SP l G d n cs ss mc ms nf Y pc LL (iV a :: iV a :: st) M Q := by
  intro p e s m args below meth c H locs ls C hR hL hl
  exact lv_icmp_eq C.1 C.2.1 hd ht (fun h => kt p e s m args below meth c H locs ls C hR hL hl) (fun h => absurd rfl h)
/-- a call of either object -/
theorem SP.opI {Z : fp_MR} {idx k c d' na : Nat} {As : List Value} {P : Int → fp_Mem → Prop} {st0 : List Value} (hd : decode Y.2.1 pc = .ok (.invokevirtual idx, 3)) (hp : pc + 3 = pc') (hc : fp_CV Y.1.cls idx Z na c) (ok : fp_Ok l G d' Z (rV G k :: As) M (qI P)) (hna : As.length = na) (hk : fp_lay k = (0, c)) (hdd : d' + 1 ≤ d) (hcr : cs ≤ mc) (hsr : ss ≤ ms) (hst0 : st0 = As.reverse ++ rV G k :: st) (hst : (st.map fun v => v.category).sum ≤ 8)
    (kk : ∀ (z : Int) (M' : fp_Mem), P z M' → fp_SP l G d fp_K cs ss mc ms nf Y pc' LL (iV z :: st) (fp_sx M') Q) : fp_SP l G d fp_K cs ss mc ms nf Y pc LL st0 (fp_sx M) Q := by
  obtain ⟨h1, h2, h3, q, hq, hqc⟩ := hc
  refine SP.callV hd hp h1 h2 h3 hna hk (fp_lt_obj hk) hq hqc hdd hcr hsr hst0 hst ok fun r X hQ => ?_
  obtain ⟨M', rfl, z, rfl, hP⟩ := hQ
  exact kk z M' hP
theorem SP.opJ {Z : fp_MR} {idx k c d' na : Nat} {As : List Value} {P : Int → fp_Mem → Prop} {st0 : List Value} (hd : decode Y.2.1 pc = .ok (.invokevirtual idx, 3)) (hp : pc + 3 = pc') (hc : fp_CV Y.1.cls idx Z na c) (ok : fp_Ok l G d' Z (rV G k :: As) M (qJ P)) (hna : As.length = na) (hk : fp_lay k = (0, c)) (hdd : d' + 1 ≤ d) (hcr : cs ≤ mc) (hsr : ss ≤ ms) (hst0 : st0 = As.reverse ++ rV G k :: st) (hst : (st.map fun v => v.category).sum ≤ 8)
    (kk : ∀ (z : Int) (M' : fp_Mem), P z M' → fp_SP l G d fp_K cs ss mc ms nf Y pc' LL (jV z :: st) (fp_sx M') Q) : fp_SP l G d fp_K cs ss mc ms nf Y pc LL st0 (fp_sx M) Q := by
  obtain ⟨h1, h2, h3, q, hq, hqc⟩ := hc
  refine SP.callV hd hp h1 h2 h3 hna hk (fp_lt_obj hk) hq hqc hdd hcr hsr hst0 hst ok fun r X hQ => ?_
  obtain ⟨M', rfl, z, rfl, hP⟩ := hQ
  exact kk z M' hP
end LWR
theorem frC.ms {M N : fp_Mem} {tp : List Int} {fl : Int} {g : aGd} {pg : aPg} {vs : List aVt} {nt : List Int} {im : aIm} {sh : aSh} {tn : Int} (e : frC M N) (h : MS M tp fl g pg vs nt im sh tn) : MS N tp fl g pg vs nt im sh tn := by
  obtain ⟨h1, h2, h3, h4, h5, h6, h7, h8⟩ := h
  have e177 := e 177 (by omega)
  have e178 := e 178 (by omega)
  have e179 := e 179 (by omega)
  have e180 := e 180 (by omega)
  have e181 := e 181 (by omega)
  have e186 := e 186 (by omega)
  have e187 := e 187 (by omega)
  have e188 := e 188 (by omega)
  have e199 := e 199 (by omega)
  have e200 := e 200 (by omega)
  have e201 := e 201 (by omega)
  have e202 := e 202 (by omega)
  refine ⟨?_, ?_, ?_, ?_, ?_, ?_, ?_, ?_⟩
  · unfold msA at *; rw [e177, e186]; exact h1
  · unfold mdIs md_ok at *; rw [e177, e179, e180, e181]; exact h2
  · unfold mpIs at *; rw [e178]; exact h3
  · rw [e178]; exact h4
  · rw [e178]; exact h5
  · unfold msI at *; rw [e178, e199]; exact h6
  · unfold msS at *; rw [e200, e201, e202]; exact h7
  · unfold msK at *; rw [e187, e188]; exact h8
/-- what holds at the law's entry is what the rows ask for -/
theorem fp_K0_of {p : Program} {s : State} {m : MethodId} {meth : Method} {c : Code} {b L : Nat} {xs : Nat → Int32} (C0 : lw_At p s m meth c b L xs) : ∃ G : fp_WG, G.1 = b ∧ G.2.1 = s ∧ G.2.2.2.2.2.1 = L ∧ fp_K0 G := by
  obtain ⟨hx, hb, hr, hm, hown, hts, hX, hbl, hlk, hgv⟩ := C0
  have hcl : ∀ c : Nat, ∃ q : ClassId × (Nat → Nat), ∀ r : vw_C, vwCl[c]? = some r → u_Kn s r.1 r.2.1 r.2.2 q.1 q.2 := by
    intro c
    cases h : vwCl[c]? with
    | none => exact ⟨(0, fun _ => 0), fun r hr => by cases hr⟩
    | some r =>
      have hi : ∃ n, Cond.instantiable r.1 n ∈ lw_tbl := by
        have hc : c < 13 := (List.getElem?_eq_some_iff.mp h).1
        rcases (show c = 0 ∨ c = 1 ∨ c = 2 ∨ c = 3 ∨ c = 4 ∨ c = 5 ∨ c = 6 ∨ c = 7 ∨ c = 8 ∨ c = 9 ∨ c = 10 ∨ c = 11 ∨ c = 12 by omega) with rfl | rfl | rfl | rfl | rfl | rfl | rfl | rfl | rfl | rfl | rfl | rfl | rfl <;> cases h
        · exact nX11_55.elim fun q hq => by obtain ⟨h1, -, -, h3, -⟩ := hq; cases h1; exact ⟨_, h3⟩
        · exact nX11_20.elim fun q hq => by obtain ⟨h1, -, -, h3, -⟩ := hq; cases h1; exact ⟨_, h3⟩
        · exact nX11_76.elim fun q hq => by obtain ⟨h1, -, -, h3, -⟩ := hq; cases h1; exact ⟨_, h3⟩
        · exact nX11_41.elim fun q hq => by obtain ⟨h1, -, -, h3, -⟩ := hq; cases h1; exact ⟨_, h3⟩
        · exact nX11_62.elim fun q hq => by obtain ⟨h1, -, -, h3, -⟩ := hq; cases h1; exact ⟨_, h3⟩
        · exact nX11_27.elim fun q hq => by obtain ⟨h1, -, -, h3, -⟩ := hq; cases h1; exact ⟨_, h3⟩
        · exact nX11_13.elim fun q hq => by obtain ⟨h1, -, -, h3, -⟩ := hq; cases h1; exact ⟨_, h3⟩
        · exact nX11_69.elim fun q hq => by obtain ⟨h1, -, -, h3, -⟩ := hq; cases h1; exact ⟨_, h3⟩
        · exact nX11_48.elim fun q hq => by obtain ⟨h1, -, -, h3, -⟩ := hq; cases h1; exact ⟨_, h3⟩
        · exact nX11_82.elim fun q hq => by obtain ⟨h1, -, -, h3, -⟩ := hq; cases h1; exact ⟨_, h3⟩
        · exact nX11_34.elim fun q hq => by obtain ⟨h1, -, -, h3, -⟩ := hq; cases h1; exact ⟨_, h3⟩
        · exact nL_7.elim fun q hq => by obtain ⟨h1, -, -, h3, -⟩ := hq; cases h1; exact ⟨_, h3⟩
        · exact nL_10.elim fun q hq => by obtain ⟨h1, -, -, h3, -⟩ := hq; cases h1; exact ⟨_, h3⟩
      obtain ⟨n, hn⟩ := hi
      obtain ⟨cC, iS, hK⟩ := u_known (args := #[Value.ref b]) hts (fp_inT c r h) (hts _ hn)
      exact ⟨(cC, iS), fun r' hr' => by cases hr'; exact hK⟩
  have har : ∀ t : Nat, ∃ cA : ClassId, ∀ ty : FieldType, fp_tys[t]? = some ty → ArrOfT s cA ty ∧ va_RA s cA ty := by
    intro t
    have hp : ∀ ty : FieldType, Cond.arrayClass ty ∈ lw_tbl → (∃ cA, ArrOfT s cA ty ∧ s.vm.findClass ("[" ++ ty.toString) = some cA) := by
      intro ty h
      obtain ⟨cA, k, comp, h1, h2, h3⟩ := Cond.arrayClass_spec (hts _ h)
      exact ⟨cA, fun N z => ⟨(fun k h => by cases h), k, h2, comp, h3⟩, h1⟩
    have ho : ∀ C : String, Cond.arrayOver (.object C) ∈ lw_tbl → ∃ cA, ArrOfT s cA (.object C) ∧ va_RA s cA (.object C) := by
      intro C h
      obtain ⟨comp, cA, k, h1, h2, h3, h4, h5⟩ := Cond.arrayOver_spec (hts _ h)
      exact ⟨cA, fun N z => ⟨(fun k h => by cases h), k, h3, comp, h4⟩, k, comp, h3, h4, h1, h5⟩
    by_cases ht : t < 9
    · rcases (show t = 0 ∨ t = 1 ∨ t = 2 ∨ t = 3 ∨ t = 4 ∨ t = 5 ∨ t = 6 ∨ t = 7 ∨ t = 8 by omega) with rfl | rfl | rfl | rfl | rfl | rfl | rfl | rfl | rfl
      · obtain ⟨cA, h1, h2⟩ := hp .int (List.mem_of_getElem? (i := 155) (by decide +kernel)); exact ⟨cA, fun ty h => by cases h; exact ⟨h1, h2⟩⟩
      · obtain ⟨cA, h1, h2⟩ := hp .int (List.mem_of_getElem? (i := 155) (by decide +kernel)); exact ⟨cA, fun ty h => by cases h; exact ⟨h1, h2⟩⟩
      · obtain ⟨cA, h1, h2⟩ := hp .byte (List.mem_of_getElem? (i := 154) (by decide +kernel)); exact ⟨cA, fun ty h => by cases h; exact ⟨h1, h2⟩⟩
      · obtain ⟨cA, h1, h2⟩ := hp .boolean (List.mem_of_getElem? (i := 323) (by decide +kernel)); exact ⟨cA, fun ty h => by cases h; exact ⟨h1, h2⟩⟩
      · obtain ⟨cA, h1, h2⟩ := hp .long (List.mem_of_getElem? (i := 324) (by decide +kernel)); exact ⟨cA, fun ty h => by cases h; exact ⟨h1, h2⟩⟩
      · obtain ⟨cA, h1, h2⟩ := ho RX5 (List.mem_of_getElem? (i := 296) (by decide +kernel)); exact ⟨cA, fun ty h => by cases h; exact ⟨h1, h2⟩⟩
      · obtain ⟨cA, h1, h2⟩ := ho RX2 (List.mem_of_getElem? (i := 401) (by decide +kernel)); exact ⟨cA, fun ty h => by cases h; exact ⟨h1, h2⟩⟩
      · obtain ⟨cA, h1, h2⟩ := ho RX9 (List.mem_of_getElem? (i := 403) (by decide +kernel)); exact ⟨cA, fun ty h => by cases h; exact ⟨h1, h2⟩⟩
      · obtain ⟨cI, cA, k, h1, h2, h3, h4⟩ := mm_over (hts (.arrayOver (.array .int)) (List.mem_of_getElem? (i := 332) (by decide +kernel)))
        exact ⟨cA, fun ty h => by cases h; exact ⟨fun N z => ⟨(fun k h => by cases h), k, h2, cI, h3⟩, h4⟩⟩
    · exact ⟨0, fun ty h => absurd (List.getElem?_eq_some_iff.mp h).1 (by show ¬ t < 9; exact ht)⟩
  obtain ⟨f, hf⟩ := Classical.axiomOfChoice hcl
  obtain ⟨a, ha⟩ := Classical.axiomOfChoice har
  exact ⟨(b, s, fun c => (f c).1, fun c => (f c).2, a, L, xs), rfl, rfl, rfl, hts, fun c q h => hf c q h, fun t ty h => ha t ty h, hX, hbl, hgv⟩
theorem fp_room {s : State} {pl : Platform} {r r' : Room} (h : s.hasRoom pl r = true) (h1 : r'.frames ≤ r.frames) (h2 : r'.cells ≤ r.cells) (h3 : r'.slots ≤ r.slots) (h4 : r'.locals ≤ r.locals) : s.hasRoom pl r' = true := by
  simp only [State.hasRoom, Bool.and_eq_true, decide_eq_true_eq] at h ⊢
  obtain ⟨⟨⟨⟨a1, a2, a3, a4, a5, a6⟩, a7⟩, a8⟩, a9⟩ := h
  exact ⟨⟨⟨⟨by omega, by omega, by omega, by omega, by omega, a6⟩, by omega⟩, by omega⟩, a9⟩
/-- the claim's own part out of a walk in the rows' words -/
theorem fp_law_end {p : Program} {e : Env} {s : State} {m : MethodId} {below : List Frame} {meth : Method} {c : Code} (l : Launch) {b L : Nat} {xs : Nat → Int32} (C0 : lw_At p s m meth c b L xs)
    (h : ∀ G : fp_WG, G.1 = b → G.2.2.2.2.2.1 = L → fp_SP l G 2048 0 0 0 203 5193 203 (kL meth.name) 0 [some (.ref b), none, none, none] [] (fp_w []) (fun r _ => r = some (iV 1))) : W p l e room_1 s m #[Value.ref b] below meth c s.heap [] 0 0 (lw_Z below #[Value.ref b] s) (entryFrame m ([Value.ref b] : List Value).toArray 4) := by
  obtain ⟨G, hG1, hG2, hG3, hK⟩ := fp_K0_of C0
  obtain ⟨hx, hb, hr, hm, hown, hts, hX, hbl, hlk, hgv⟩ := C0
  have hw := h G hG1 hG3
  rw [lg_entry_eq]
  intro T hT X
  have hlv := lv_entry (n := 4) [Value.ref b] (Nat.le_of_ble_eq_true rfl)
  have X2 : Stand p l e (fp_rm 2048 203 5193) s m #[Value.ref b] below meth c T [] 0 0 := { X with room := fp_room X.room (by decide) (by decide) (by decide) (by decide) }
  have hCx : fp_Cx G (kL meth.name) p s m meth c := ⟨hx, hb, hm, hown, hr, hlk, rfl, hK, by rw [hG2]; exact State.WarmedH.refl _⟩
  obtain ⟨t, a1, o, b1, b2, ⟨r, M', hor, hrr, hR⟩, LL, hFE, hfree⟩ := hw p e s m #[Value.ref b] below meth c s.heap [] _ hCx ⟨by rw [← hG2]; rfl, fun k hk => absurd hk (Nat.not_lt_zero k), fun q hq => by rw [hG2]⟩ (fun q hq => (List.not_mem_nil hq).elim) ⟨lv_args 0 [Value.ref b], hlv, fun i v hi => by
    have := fp_ent_args [Value.ref b] 3 0 i v hi
    rwa [Nat.zero_add] at this⟩ T hT X2
  refine ⟨t, a1, o, b1, b2, by rw [hor, hrr]; rfl, ?_⟩
  have hsz : fp_b G = s.heap.size := by unfold fp_b; rw [hG2]
  obtain ⟨f1, f2, f3⟩ := hFE
  exact ⟨f1, f2, (State.sameButNew.drop_fresh (L := []) (J := LL) f3 (fun x hx => by rw [← hsz]; exact hfree x hx)).mono (by decide) (by decide)⟩
end
