-- joined by tools/merge.py: 56.lost, 57.feed, 58.trick, 59.ctrick, 60.okay, 61.ring, 62.ring, 63.ring, 64.ring, 65.ring
section
/-! LOST -/
def aHd (g : aGd) (pg : aPg) (vs : List aVt) (p : Int) : Nat → Int
  | 0 => aHolds g pg p
  | n + 1 => if (aHapI g (aRun g pg vs n) vs n).1 ≠ 0 ∧ (vs.getD n aV0).2.1 = p ∧ (vs.getD n aV0).2.2.2 ≠ -4 then fp_or (aHd g pg vs p n) (2 ^ (vs.getD n aV0).2.2.2.toNat) else aHd g pg vs p n
def aOt (g : aGd) (pg : aPg) (p : Int) : Nat → Int
  | 0 => 0
  | n + 1 => if (n : Int) = p then aOt g pg p n else fp_or (aOt g pg p n) (aHolds g pg n)
def A_lost (g : aGd) (pg : aPg) (vs : List aVt) (p : Int) : Int := if 0 ≤ p ∧ p < 4 then fp_and (aHd g pg vs p vs.length) (aOt g (aRun g pg vs vs.length) p 4) else -1
theorem aHd_succ {g : aGd} {pg : aPg} {vs : List aVt} {p i : Int} (h : 0 ≤ i) : aHd g pg vs p (i + 1).toNat = if (aHapI g (aRun g pg vs i.toNat) vs i).1 ≠ 0 ∧ (vs.getD i.toNat aV0).2.1 = p ∧ (vs.getD i.toNat aV0).2.2.2 ≠ -4 then fp_or (aHd g pg vs p i.toNat) (2 ^ (vs.getD i.toNat aV0).2.2.2.toNat) else aHd g pg vs p i.toNat := by
  have e1 : (i + 1).toNat = i.toNat + 1 := by omega
  rw [e1]
  show (if (aHapI g (aRun g pg vs i.toNat) vs ((i.toNat : Nat) : Int)).1 ≠ 0 ∧ _ then _ else _) = _
  rw [Int.toNat_of_nonneg h]
theorem aOt_succ {g : aGd} {pg : aPg} {p i : Int} (h : 0 ≤ i) : aOt g pg p (i + 1).toNat = if i = p then aOt g pg p i.toNat else fp_or (aOt g pg p i.toNat) (aHolds g pg i) := by
  have e1 : (i + 1).toNat = i.toNat + 1 := by omega
  rw [e1]
  show (if ((i.toNat : Nat) : Int) = p then _ else fp_or _ (aHolds g pg ((i.toNat : Nat) : Int))) = _
  rw [Int.toNat_of_nonneg h]
theorem aHolds_nn (g : aGd) (pg : aPg) (p : Int) : 0 ≤ aHolds g pg p := (fp_hb_lt pg.1 p g.1.toNat).1
theorem aHd_nn (g : aGd) (pg : aPg) (vs : List aVt) (p : Int) : ∀ n, 0 ≤ aHd g pg vs p n
  | 0 => aHolds_nn g pg p
  | n + 1 => by
    unfold aHd
    split
    · exact fp_or_nn _ _
    · exact aHd_nn g pg vs p n
theorem aOt_nn (g : aGd) (pg : aPg) (p : Int) : ∀ n, 0 ≤ aOt g pg p n
  | 0 => Int.le_refl _
  | n + 1 => by
    unfold aOt
    split
    · exact aOt_nn g pg p n
    · exact fp_or_nn _ _
/-- the bits of those in vain -/
theorem aVn_bit (g : aGd) (pg : aPg) (vs : List aVt) (i : Nat) : ∀ n : Nat, (aVn g pg vs n).toNat.testBit i = decide (i < n ∧ (aHapI g (aRun g pg vs i) vs i).1 = 0)
  | 0 => by
    have e : aVn g pg vs 0 = 0 := rfl
    rw [e]
    simp
  | n + 1 => by
    have ih := aVn_bit g pg vs i n
    have e : aVn g pg vs (n + 1) = if (aHapI g (aRun g pg vs n) vs n).1 = 0 then fp_or (aVn g pg vs n) (2 ^ n) else aVn g pg vs n := rfl
    have h2 : ((2 : Int) ^ n).toNat = 2 ^ n := by
      have h3 : ((2 ^ n : Nat) : Int) = 2 ^ n := by simp
      rw [← h3, Int.toNat_natCast]
    rw [e]
    by_cases hz : (aHapI g (aRun g pg vs n) vs n).1 = 0
    · rw [if_pos hz]
      unfold fp_or
      rw [Int.toNat_natCast, Nat.testBit_or, ih, h2, Nat.testBit_two_pow]
      by_cases hi : i = n
      · subst hi; simp [hz]
      · have : (i < n + 1) ↔ (i < n) := by omega
        simp [this, Ne.symm hi]
    · rw [if_neg hz, ih]
      by_cases hi : i = n
      · subst hi; simp [hz]
      · have : (i < n + 1) ↔ (i < n) := by omega
        simp [this]
theorem fp_shrv {v i : Int} (hv : 0 ≤ v ∧ v < 2147483648) (hi : 0 ≤ i ∧ i < 31) : Int32.ofInt v >>> (Int32.ofInt i &&& 31) = Int32.ofInt (v / 2 ^ i.toNat) := by
  have hs : ((Int32.ofInt i &&& 31).toBitVec.smod 32).toNat = i.toNat := by
    have h : ∀ n : Nat, n < 31 → ((Int32.ofInt (n : Int) &&& 31).toBitVec.smod 32).toNat = n := by decide +kernel
    have := h i.toNat (by omega)
    rwa [Int.toNat_of_nonneg hi.1] at this
  have hp : (0 : Int) < 2 ^ i.toNat := Int.pow_pos (by decide)
  have hd0 : 0 ≤ v / 2 ^ i.toNat := Int.ediv_nonneg hv.1 (by omega)
  have hd1 : v / 2 ^ i.toNat ≤ v := Int.ediv_le_self _ hv.1
  rw [← Int32.toInt_inj, pk_shr _ _ i.toNat hs, fp_toInt ⟨by omega, by omega⟩, fp_toInt ⟨by omega, by omega⟩, Int.shiftRight_eq_div_pow]
  simp
theorem fp_bitv {v i : Int} (hv : 0 ≤ v) : fp_and (v / 2 ^ i.toNat) 1 = if v.toNat.testBit i.toNat then 1 else 0 := by
  unfold fp_and
  have e : (v / 2 ^ i.toNat).toNat = v.toNat >>> i.toNat := by
    obtain ⟨n, rfl⟩ := Int.eq_ofNat_of_zero_le hv
    rw [Nat.shiftRight_eq_div_pow, Int.toNat_natCast, show ((n : Int) / 2 ^ i.toNat) = ((n / 2 ^ i.toNat : Nat) : Int) by simp, Int.toNat_natCast]
  rw [e]
  have h1 : (1 : Int).toNat = 1 := rfl
  rw [h1, Nat.and_one_is_mod]
  have h3 : v.toNat.testBit i.toNat = (v.toNat >>> i.toNat % 2 == 1) := by
    rw [Nat.testBit, Nat.one_and_eq_mod_two]
    rcases Nat.mod_two_eq_zero_or_one (v.toNat >>> i.toNat) with h | h <;> simp [h]
  rw [h3]
  rcases Nat.mod_two_eq_zero_or_one (v.toNat >>> i.toNat) with h | h <;> simp [h]
section LOS
variable {l : Launch} {G : fp_WG} {M N : fp_Mem} {tp tp' : List Int} {fl fl' : Int} {g : aGd} {pg pg' : aPg} {vs vs' : List aVt} {nt nt' : List Int} {im im' : aIm} {sh sh' : aSh} {tn tn' : Int} {k k2 : Nat}
theorem clost_two {p had : Int} (hp : 0 ≤ p ∧ p < 4) (hg : gOk g) (hPi : pgOk g pg') (hh : 0 ≤ had) (hc : clIs N 41 g pg') (hcs : CS N tp fl g pg vs nt im sh tn) (hfr : frC M N) : ∀ (n : Nat) (q : Int), (4 - q).toNat < n → 0 ≤ q → q ≤ 4 →
    fp_S l G 4 kX11_lost 128 [some (rV G 0), some (iV p), some (rV G 41), some (iV had), some (iV (aOt g pg' p q.toNat)), some (iV q)] [] N (qI fun z O => z = fp_and had (aOt g pg' p 4) ∧ CS O tp fl g pg vs nt im sh tn ∧ frC M O) := by
  intro n
  induction n with
  | zero => intro q h; omega
  | succ n ih =>
    intro q h q0 q1
    have hb := aOt_nn g pg' p q.toNat
    have hb2 := aHolds_nn g pg' q
    have es := aOt_succ (g := g) (pg := pg') (p := p) q0
    refine S.iload (pc' := 130) dX11_lost_128 rfl rfl ?_
    refine S.iconst (pc' := 131) dX11_lost_130 rfl ?_
    refine S.icmp_ge (pc' := 134) (tgt := 157) dX11_lost_131 (by decide) rfl (by unfold fp_rng; omega) (by unfold fp_rng; omega) (fun h131 => ?_) (fun h131 => ?_)
    · refine S.iload_n (pc' := 158) dX11_lost_157 rfl rfl rfl ?_
      refine S.iload (pc' := 160) dX11_lost_158 rfl rfl ?_
      refine S.iand (pc' := 161) dX11_lost_160 rfl (fp_iand hh hb) ?_
      refine S.iret dX11_lost_161 rfl ?_
      exact ⟨by rw [show q.toNat = 4 by omega], hcs, hfr⟩
    · refine S.iload (pc' := 136) dX11_lost_134 rfl rfl ?_
      refine S.iload_n (pc' := 137) dX11_lost_136 rfl rfl rfl ?_
      refine S.icmp_eq (pc' := 140) (tgt := 151) dX11_lost_137 (by decide) rfl (by unfold fp_rng; omega) (by unfold fp_rng; omega) (fun h137 => ?_) (fun h137 => ?_)
      · refine S.iinc (pc' := 154) (LL' := [_, _, _, _, _, _]) dX11_lost_151 rfl (by decide) rfl rfl rfl ?_
        refine S.goto (pc' := 128) dX11_lost_154 (by decide) ?_
        first | (rw [if_pos h137] at es; rw [← es]; exact ih _ (by omega) (by omega) (by omega)) | (rw [if_neg h137] at es; rw [← es]; exact ih _ (by omega) (by omega) (by omega))
      · refine S.iload (pc' := 142) dX11_lost_140 rfl rfl ?_
        refine S.aload_n (pc' := 143) dX11_lost_142 rfl rfl rfl ?_
        refine S.iload (pc' := 145) dX11_lost_143 rfl rfl ?_
        refine S.callVe (pc' := 148) dX11_lost_145 rfl cX11_184 (rk_X5_heldBy (g := g) (pg := pg') pl41) rfl (pl_lay pl41) (by decide) rfl (Nat.le_of_ble_eq_true rfl) ?_
        refine S.ior (pc' := 149) dX11_lost_148 rfl (fp_ior hb hb2) ?_
        refine S.istore (pc' := 151) (LL' := [_, _, _, _, _, _]) dX11_lost_149 rfl (by decide) rfl rfl ?_
        refine S.iinc (pc' := 154) (LL' := [_, _, _, _, _, _]) dX11_lost_151 rfl (by decide) rfl rfl rfl ?_
        refine S.goto (pc' := 128) dX11_lost_154 (by decide) ?_
        first | (rw [if_pos h137] at es; rw [← es]; exact ih _ (by omega) (by omega) (by omega)) | (rw [if_neg h137] at es; rw [← es]; exact ih _ (by omega) (by omega) (by omega))
theorem clost_one {p : Int} (hp : 0 ≤ p ∧ p < 4) (hP : pgOk g pg) (hg : gOk g) (hvo : vsOk g vs) (hv : vsIs M 27 vs) (hd : gdIs M 18 g) (hcs : CS M tp fl g pg vs nt im sh tn) : ∀ (n : Nat) (i : Int) (N : fp_Mem) (o5 : Option Value), ((vs.length : Int) - i).toNat < n → 0 ≤ i → i ≤ vs.length → frP M N 41 → clIs N 41 g (aRun g pg vs i.toNat) →
    fp_S l G 4 kX11_lost 42 [some (rV G 0), some (iV p), some (rV G 41), some (iV (aHd g pg vs p i.toNat)), some (iV i), o5] [] N (qI fun z O => z = fp_and (aHd g pg vs p vs.length) (aOt g (aRun g pg vs vs.length) p 4) ∧ CS O tp fl g pg vs nt im sh tn ∧ frC M O) := by
  have hl := hv.2.1
  have hg1 := hg.1
  intro n
  induction n with
  | zero => intro i N o5 h; omega
  | succ n ih =>
    intro i N o5 h i0 i1 hf hc
    have hb := aHd_nn g pg vs p i.toNat
    have es := aHd_succ (g := g) (pg := pg) (vs := vs) (p := p) i0
    have er := aRun_succ (g := g) (pg := pg) (vs := vs) i0
    have hPi := aRun_ok hg hP hvo i.toNat
    have hv' := hf.vs pl41 vs27 hv
    have hd' := hf.gd pl41 gd18 hd
    have hl1 := hv'.1
    by_cases hlt : i < vs.length
    · have hvi := hv'.2.2 i i0 hlt
      have hvk := hvo.at i0 hlt
      unfold vOk at hvk
      refine S.iload (pc' := 44) dX11_lost_42 rfl rfl ?_
      refine S.aload_n (pc' := 45) dX11_lost_44 rfl rfl rfl ?_
      refine S.getR (pc' := 48) dX11_lost_45 rfl fX11_37 L_0 rf_0_5 ?_
      refine S.getI (pc' := 51) dX11_lost_48 rfl fX11_205 (vs_lay vs27) ?_
      refine S.icmp_ge (pc' := 54) (tgt := 122) dX11_lost_51 (by decide) rfl (by unfold fp_rng; omega) (by unfold fp_rng; omega) (fun h51 => ?_) (fun h51 => ?_)
      · exfalso; omega
      · refine S.aload_n (pc' := 55) dX11_lost_54 rfl rfl rfl ?_
        refine S.getR (pc' := 58) dX11_lost_55 rfl fX11_37 L_0 rf_0_5 ?_
        refine S.aload_n (pc' := 59) dX11_lost_58 rfl rfl rfl ?_
        refine S.getR (pc' := 62) dX11_lost_59 rfl fX11_23 L_0 rf_0_3 ?_
        refine S.aload_n (pc' := 63) dX11_lost_62 rfl rfl rfl ?_
        refine S.iload (pc' := 65) dX11_lost_63 rfl rfl ?_
        refine S.callVi (pc' := 68) dX11_lost_65 rfl cX11_206 (rk_X10_happens (g := g) (pg := aRun g pg vs i.toNat) (vs := vs) vs27 gd18 pl41) rfl (vs_lay vs27) (by decide) rfl (Nat.le_of_ble_eq_true rfl) (fun z65 M65 q65 => ?_)
        have h01 := aHapI_01 g (aRun g pg vs i.toNat) vs i
        obtain ⟨rfl, c1, f1⟩ := q65
        rw [← er] at c1
        have hv9 := (f1.vs pl41 vs27 hv').2.2 i i0 hlt
        refine S.istore (pc' := 70) (LL' := [_, _, _, _, _, _]) dX11_lost_68 rfl (by decide) rfl rfl ?_
        refine S.iload (pc' := 72) dX11_lost_70 rfl rfl ?_
        refine S.if_eq (pc' := 75) (tgt := 116) dX11_lost_72 (by decide) rfl (by unfold fp_rng; omega) (fun h72 => ?_) (fun h72 => ?_)
        · refine S.iinc (pc' := 119) (LL' := [_, _, _, _, _, _]) dX11_lost_116 rfl (by decide) rfl rfl rfl ?_
          refine S.goto (pc' := 42) dX11_lost_119 (by decide) ?_
          first | (rw [if_neg (by omega)] at es; rw [← es]; exact ih _ _ _ (by omega) (by omega) (by omega) (hf.trans f1) c1) | (rw [if_pos ⟨by omega, by omega, by omega⟩] at es; rw [hv9.2.2.2, ← es]; exact ih _ _ _ (by omega) (by omega) (by omega) (hf.trans f1) c1)
        · refine S.aload_n (pc' := 76) dX11_lost_75 rfl rfl rfl ?_
          refine S.getR (pc' := 79) dX11_lost_76 rfl fX11_37 L_0 rf_0_5 ?_
          refine S.getR (pc' := 82) dX11_lost_79 rfl fX11_169 (vs_lay vs27) (vs_r2 vs27) ?_
          refine S.iload (pc' := 84) dX11_lost_82 rfl rfl ?_
          refine S.iald (pc' := 85) dX11_lost_84 rfl (vs_a2 vs27) (by omega) (by omega) ?_
          refine S.iload_n (pc' := 86) dX11_lost_85 rfl rfl rfl ?_
          refine S.icmp_ne (pc' := 89) (tgt := 116) dX11_lost_86 (by decide) rfl (by unfold fp_rng; omega) (by unfold fp_rng; omega) (fun h86 => ?_) (fun h86 => ?_)
          · refine S.iinc (pc' := 119) (LL' := [_, _, _, _, _, _]) dX11_lost_116 rfl (by decide) rfl rfl rfl ?_
            refine S.goto (pc' := 42) dX11_lost_119 (by decide) ?_
            first | (rw [if_neg (by omega)] at es; rw [← es]; exact ih _ _ _ (by omega) (by omega) (by omega) (hf.trans f1) c1) | (rw [if_pos ⟨by omega, by omega, by omega⟩] at es; rw [hv9.2.2.2, ← es]; exact ih _ _ _ (by omega) (by omega) (by omega) (hf.trans f1) c1)
          · refine S.aload_n (pc' := 90) dX11_lost_89 rfl rfl rfl ?_
            refine S.getR (pc' := 93) dX11_lost_90 rfl fX11_37 L_0 rf_0_5 ?_
            refine S.iload (pc' := 95) dX11_lost_93 rfl rfl ?_
            refine S.callVi (pc' := 98) dX11_lost_95 rfl cX11_218 ((ok_X10_isDraw vs27).toB) rfl (vs_lay vs27) (by decide) rfl (Nat.le_of_ble_eq_true rfl) (fun z95 M95 q95 => ?_)
            obtain ⟨b9, rfl⟩ := q95
            refine S.if_ne (pc' := 101) (tgt := 116) dX11_lost_98 (by decide) rfl (by unfold fp_rng; omega) (fun h98 => ?_) (fun h98 => ?_)
            · refine S.iinc (pc' := 119) (LL' := [_, _, _, _, _, _]) dX11_lost_116 rfl (by decide) rfl rfl rfl ?_
              refine S.goto (pc' := 42) dX11_lost_119 (by decide) ?_
              first | (rw [if_neg (by omega)] at es; rw [← es]; exact ih _ _ _ (by omega) (by omega) (by omega) (hf.trans f1) c1) | (rw [if_pos ⟨by omega, by omega, by omega⟩] at es; rw [hv9.2.2.2, ← es]; exact ih _ _ _ (by omega) (by omega) (by omega) (hf.trans f1) c1)
            · refine S.iload_n (pc' := 102) dX11_lost_101 rfl rfl rfl ?_
              refine S.iconst (pc' := 103) dX11_lost_102 rfl ?_
              refine S.aload_n (pc' := 104) dX11_lost_103 rfl rfl rfl ?_
              refine S.getR (pc' := 107) dX11_lost_104 rfl fX11_37 L_0 rf_0_5 ?_
              refine S.getR (pc' := 110) dX11_lost_107 rfl fX11_175 (vs_lay vs27) (vs_r4 vs27) ?_
              refine S.iload (pc' := 112) dX11_lost_110 rfl rfl ?_
              refine S.iald (pc' := 113) dX11_lost_112 rfl (vs_a4 vs27) (by omega) (by omega) ?_
              refine S.ishl (pc' := 114) dX11_lost_113 rfl (fp_shl1 (by omega) (by omega)) ?_
              refine S.ior (pc' := 115) dX11_lost_114 rfl (fp_ior hb (Int.le_of_lt (Int.pow_pos (by decide)))) ?_
              refine S.istore_n (pc' := 116) (LL' := [_, _, _, _, _, _]) dX11_lost_115 rfl (by decide) rfl rfl rfl ?_
              refine S.iinc (pc' := 119) (LL' := [_, _, _, _, _, _]) dX11_lost_116 rfl (by decide) rfl rfl rfl ?_
              refine S.goto (pc' := 42) dX11_lost_119 (by decide) ?_
              first | (rw [if_neg (by omega)] at es; rw [← es]; exact ih _ _ _ (by omega) (by omega) (by omega) (hf.trans f1) c1) | (rw [if_pos ⟨by omega, by omega, by omega⟩] at es; rw [hv9.2.2.2, ← es]; exact ih _ _ _ (by omega) (by omega) (by omega) (hf.trans f1) c1)
    · have ei : i.toNat = vs.length := by omega
      rw [ei] at hc hb ⊢
      refine S.iload (pc' := 44) dX11_lost_42 rfl rfl ?_
      refine S.aload_n (pc' := 45) dX11_lost_44 rfl rfl rfl ?_
      refine S.getR (pc' := 48) dX11_lost_45 rfl fX11_37 L_0 rf_0_5 ?_
      refine S.getI (pc' := 51) dX11_lost_48 rfl fX11_205 (vs_lay vs27) ?_
      refine S.icmp_ge (pc' := 54) (tgt := 122) dX11_lost_51 (by decide) rfl (by unfold fp_rng; omega) (by unfold fp_rng; omega) (fun h51 => ?_) (fun h51 => ?_)
      · refine S.iconst (pc' := 123) dX11_lost_122 rfl ?_
        refine S.istore (pc' := 125) (LL' := [_, _, _, _, _, _]) dX11_lost_123 rfl (by decide) rfl rfl ?_
        refine S.iconst (pc' := 126) dX11_lost_125 rfl ?_
        refine S.istore (pc' := 128) (LL' := [_, _, _, _, _, _]) dX11_lost_126 rfl (by decide) rfl rfl ?_
        exact clost_two hp hg (aRun_ok hg hP hvo vs.length) hb hc (hcs.scr hf) (hf.c (by decide)) 5 0 (by omega) (by omega) (by omega)
      · exfalso; omega
theorem cc_lost {p : Int} (hc : CS M tp fl g pg vs nt im sh tn) (ho : OK g pg vs nt im sh) (hp : fp_rng p) : fp_Ok l G 4 kX11_lost [rV G 0, iV p] M (qI fun z N => z = A_lost g pg vs p ∧ CS N tp fl g pg vs nt im sh tn ∧ frC M N) := by
  have hcs := hc
  obtain ⟨-, hd, hcl, hv, -⟩ := hc
  obtain ⟨hg, hP, hvo, -⟩ := ho
  refine fp_Ok.of (r := 4) rfl (Nat.le_of_ble_eq_true rfl) rfl ?_
  unfold A_lost
  by_cases hin : 0 ≤ p ∧ p < 4
  · rw [if_pos hin]
    refine S.iload_n (pc' := 1) dX11_lost_0 rfl rfl rfl ?_
    refine S.callSi (pc' := 4) dX11_lost_1 rfl cX11_181 (bk_X11_isOne) rfl (by decide) rfl (Nat.le_of_ble_eq_true rfl) (fun z1 M1 q1 => ?_)
    obtain ⟨b1, rfl⟩ := q1
    refine S.if_ne (pc' := 7) (tgt := 9) dX11_lost_4 (by decide) rfl (by unfold fp_rng; omega) (fun h4 => ?_) (fun h4 => ?_)
    · refine S.aload_n (pc' := 10) dX11_lost_9 rfl rfl rfl ?_
      refine S.getR (pc' := 13) dX11_lost_10 rfl fX11_51 L_0 rf_0_7 ?_
      refine S.aload_n (pc' := 14) dX11_lost_13 rfl rfl rfl ?_
      refine S.getR (pc' := 17) dX11_lost_14 rfl fX11_23 L_0 rf_0_3 ?_
      refine S.aload_n (pc' := 18) dX11_lost_17 rfl rfl rfl ?_
      refine S.getR (pc' := 21) dX11_lost_18 rfl fX11_37 L_0 rf_0_5 ?_
      refine S.aload_n (pc' := 22) dX11_lost_21 rfl rfl rfl ?_
      refine S.getR (pc' := 25) dX11_lost_22 rfl fX11_30 L_0 rf_0_4 ?_
      refine S.iconst (pc' := 26) dX11_lost_25 rfl ?_
      refine S.callVr (pc' := 29) dX11_lost_26 rfl cX11_214 (rk_X8_behind (g := g) (pg := pg) (vs := vs) gd18 vs27 pl22) rfl L_34 (by decide) rfl (Nat.le_of_ble_eq_true rfl) (fun z26 M26 q26 => ?_)
      obtain ⟨rfl, c1, f1⟩ := q26
      have hcl1 : clIs M26 22 g pg := hcl.kept (fun a q1 q2 => f1 a (by omega))
      refine S.astore_n (pc' := 30) (LL' := [_, _, _, _, _, _]) dX11_lost_29 rfl (by decide) rfl rfl rfl ?_
      refine S.aload_n (pc' := 31) dX11_lost_30 rfl rfl rfl ?_
      refine S.getR (pc' := 34) dX11_lost_31 rfl fX11_30 L_0 rf_0_4 ?_
      refine S.iload_n (pc' := 35) dX11_lost_34 rfl rfl rfl ?_
      refine S.callVe (pc' := 38) dX11_lost_35 rfl cX11_184 (rk_X5_heldBy (g := g) (pg := pg) pl22) rfl (pl_lay pl22) (by decide) rfl (Nat.le_of_ble_eq_true rfl) ?_
      refine S.istore_n (pc' := 39) (LL' := [_, _, _, _, _, _]) dX11_lost_38 rfl (by decide) rfl rfl rfl ?_
      refine S.iconst (pc' := 40) dX11_lost_39 rfl ?_
      refine S.istore (pc' := 42) (LL' := [_, _, _, _, _, _]) dX11_lost_40 rfl (by decide) rfl rfl ?_
      exact clost_one hin hP hg hvo hv hd hcs (vs.length + 1) 0 _ none (by omega) (by omega) (by omega) f1 c1
    · exfalso; omega
  · rw [if_neg hin]
    refine S.iload_n (pc' := 1) dX11_lost_0 rfl rfl rfl ?_
    refine S.callSi (pc' := 4) dX11_lost_1 rfl cX11_181 (bk_X11_isOne) rfl (by decide) rfl (Nat.le_of_ble_eq_true rfl) (fun z1 M1 q1 => ?_)
    obtain ⟨b1, rfl⟩ := q1
    refine S.if_ne (pc' := 7) (tgt := 9) dX11_lost_4 (by decide) rfl (by unfold fp_rng; omega) (fun h4 => ?_) (fun h4 => ?_)
    · exfalso; omega
    · refine S.iconst (pc' := 8) dX11_lost_7 rfl ?_
      refine S.iret dX11_lost_8 rfl ?_
      exact ⟨rfl, hcs, frC.refl _⟩
theorem mlost_two {p had vn : Int} {o6 : Option Value} (hp : 0 ≤ p ∧ p < 4) (hg : gOk g) (hPi : pgOk g pg') (hh : 0 ≤ had) (hc : mpIs N 360 g pg') (hcs : MS N tp fl g pg vs nt im sh tn) (hfr : frD M N) : ∀ (n : Nat) (q : Int), (4 - q).toNat < n → 0 ≤ q → q ≤ 4 →
    fp_S l G 6 kX12_lost 122 [some (rV G 177), some (iV p), some (iV had), some (iV vn), some (iV (aOt g pg' p q.toNat)), some (iV q), o6] [] N (qI fun z O => z = fp_and had (aOt g pg' p 4) ∧ MS O tp fl g pg vs nt im sh tn ∧ frD M O) := by
  have hd := hcs.2.1
  intro n
  induction n with
  | zero => intro q h; omega
  | succ n ih =>
    intro q h q0 q1
    have hb := aOt_nn g pg' p q.toNat
    have hb2 := aHolds_nn g pg' q
    have es := aOt_succ (g := g) (pg := pg') (p := p) q0
    refine S.iload (pc' := 124) dX12_lost_122 rfl rfl ?_
    refine S.iconst (pc' := 125) dX12_lost_124 rfl ?_
    refine S.icmp_ge (pc' := 128) (tgt := 158) dX12_lost_125 (by decide) rfl (by unfold fp_rng; omega) (by unfold fp_rng; omega) (fun h125 => ?_) (fun h125 => ?_)
    · refine S.iload_n (pc' := 159) dX12_lost_158 rfl rfl rfl ?_
      refine S.iload (pc' := 161) dX12_lost_159 rfl rfl ?_
      refine S.iand (pc' := 162) dX12_lost_161 rfl (fp_iand hh hb) ?_
      refine S.iret dX12_lost_162 rfl ?_
      exact ⟨by rw [show q.toNat = 4 by omega], hcs, hfr⟩
    · refine S.iload (pc' := 130) dX12_lost_128 rfl rfl ?_
      refine S.iload (pc' := 132) dX12_lost_130 rfl rfl ?_
      refine S.iload_n (pc' := 133) dX12_lost_132 rfl rfl rfl ?_
      refine S.icmp_ne (pc' := 136) (tgt := 140) dX12_lost_133 (by decide) rfl (by unfold fp_rng; omega) (by unfold fp_rng; omega) (fun h133 => ?_) (fun h133 => ?_)
      · refine S.aload_n (pc' := 141) dX12_lost_140 rfl rfl rfl ?_
        refine S.sipush (pc' := 144) dX12_lost_141 rfl (by decide) ?_
        refine S.iload (pc' := 146) dX12_lost_144 rfl rfl ?_
        refine S.callVe (pc' := 149) dX12_lost_146 rfl cX12_231 (rk_X12_holdsAt (g := g) (pg := pg')) rfl L_177 (by decide) rfl (Nat.le_of_ble_eq_true rfl) ?_
        refine S.ior (pc' := 150) dX12_lost_149 rfl (fp_ior hb (by omega)) ?_
        refine S.istore (pc' := 152) (LL' := [_, _, _, _, _, _, _]) dX12_lost_150 rfl (by decide) rfl rfl ?_
        refine S.iinc (pc' := 155) (LL' := [_, _, _, _, _, _, _]) dX12_lost_152 rfl (by decide) rfl rfl rfl ?_
        refine S.goto (pc' := 122) dX12_lost_155 (by decide) ?_
        first | (rw [if_pos h133] at es; rw [fp_or0 hb, ← es]; exact ih _ (by omega) (by omega) (by omega)) | (rw [if_neg h133] at es; rw [← es]; exact ih _ (by omega) (by omega) (by omega))
      · refine S.iconst (pc' := 137) dX12_lost_136 rfl ?_
        refine S.goto (pc' := 149) dX12_lost_137 (by decide) ?_
        refine S.ior (pc' := 150) dX12_lost_149 rfl (fp_ior hb (by omega)) ?_
        refine S.istore (pc' := 152) (LL' := [_, _, _, _, _, _, _]) dX12_lost_150 rfl (by decide) rfl rfl ?_
        refine S.iinc (pc' := 155) (LL' := [_, _, _, _, _, _, _]) dX12_lost_152 rfl (by decide) rfl rfl rfl ?_
        refine S.goto (pc' := 122) dX12_lost_155 (by decide) ?_
        first | (rw [if_pos h133] at es; rw [fp_or0 hb, ← es]; exact ih _ (by omega) (by omega) (by omega)) | (rw [if_neg h133] at es; rw [← es]; exact ih _ (by omega) (by omega) (by omega))
theorem mlost_one {p : Int} (hp : 0 ≤ p ∧ p < 4) (ho : OK g pg vs nt im sh) (hc : mpIs N 360 g (aRun g pg vs vs.length)) (hcs : MS N tp fl g pg vs nt im sh tn) (hfr : frD M N) : ∀ (n : Nat) (i : Int) (o5 o6 : Option Value), ((vs.length : Int) - i).toNat < n → 0 ≤ i → i ≤ vs.length →
    fp_S l G 6 kX12_lost 28 [some (rV G 177), some (iV p), some (iV (aHd g pg vs p i.toNat)), some (iV (aVn g pg vs vs.length)), some (iV i), o5, o6] [] N (qI fun z O => z = fp_and (aHd g pg vs p vs.length) (aOt g (aRun g pg vs vs.length) p 4) ∧ MS O tp fl g pg vs nt im sh tn ∧ frD M O) := by
  have hv := hcs.2.2.2.1
  obtain ⟨hg, hP, hvo, -⟩ := ho
  have hl := hv.2.1
  have hl1 := hv.1
  have hg1 := hg.1
  have hvl := aVn_lt g pg vs vs.length
  have h12 : (2 : Int) ^ vs.length ≤ 2 ^ 12 := (fp_pow_le (i := (vs.length : Int)) (n := 12) (by omega)).2
  have h12' : (2 : Int) ^ 12 = 4096 := by decide
  intro n
  induction n with
  | zero => intro i o5 o6 h; omega
  | succ n ih =>
    intro i o5 o6 h i0 i1
    have hb := aHd_nn g pg vs p i.toNat
    have es := aHd_succ (g := g) (pg := pg) (vs := vs) (p := p) i0
    by_cases hlt : i < vs.length
    · obtain ⟨-, v2, -, v4⟩ := hv.2.2 i i0 hlt
      have hvk := hvo.at i0 hlt
      unfold vOk at hvk
      have h01 := aHapI_01 g (aRun g pg vs i.toNat) vs i
      have hbit : fp_and (aVn g pg vs vs.length / 2 ^ i.toNat) 1 = if (aHapI g (aRun g pg vs i.toNat) vs i).1 = 0 then 1 else 0 := by
        rw [fp_bitv hvl.1, aVn_bit, Int.toNat_of_nonneg i0]
        have : i.toNat < vs.length := by omega
        simp [this]
      have hbz : (fp_and (aVn g pg vs vs.length / 2 ^ i.toNat) 1 = 1 ∧ (aHapI g (aRun g pg vs i.toNat) vs i).1 = 0) ∨ (fp_and (aVn g pg vs vs.length / 2 ^ i.toNat) 1 = 0 ∧ (aHapI g (aRun g pg vs i.toNat) vs i).1 = 1) := by
        rw [hbit]
        split
        · exact Or.inl ⟨rfl, by assumption⟩
        · exact Or.inr ⟨rfl, by omega⟩
      have hdn : 0 ≤ aVn g pg vs vs.length / 2 ^ i.toNat := Int.ediv_nonneg hvl.1 (Int.le_of_lt (Int.pow_pos (by decide)))
      refine S.iload (pc' := 30) dX12_lost_28 rfl rfl ?_
      refine S.aload_n (pc' := 31) dX12_lost_30 rfl rfl rfl ?_
      refine S.callVe (pc' := 34) dX12_lost_31 rfl cX12_225 (ok_X12_visits) rfl L_177 (by decide) rfl (Nat.le_of_ble_eq_true rfl) ?_
      refine S.icmp_ge (pc' := 37) (tgt := 116) dX12_lost_34 (by decide) rfl (by unfold fp_rng; omega) (by unfold fp_rng; omega) (fun h34 => ?_) (fun h34 => ?_)
      · exfalso; omega
      · refine S.aload_n (pc' := 38) dX12_lost_37 rfl rfl rfl ?_
        refine S.getR (pc' := 41) dX12_lost_38 rfl fX12_7 L_177 rf_177_0 ?_
        refine S.bipush (pc' := 43) dX12_lost_41 rfl (by decide) ?_
        refine S.iconst (pc' := 44) dX12_lost_43 rfl ?_
        refine S.iload (pc' := 46) dX12_lost_44 rfl rfl ?_
        refine S.imul (pc' := 47) dX12_lost_46 rfl ?_
        refine S.iadd (pc' := 48) dX12_lost_47 rfl ?_
        refine S.iconst (pc' := 49) dX12_lost_48 rfl ?_
        refine S.iadd (pc' := 50) dX12_lost_49 rfl ?_
        refine S.iald (pc' := 51) dX12_lost_50 rfl L_178 (by omega) (by omega) ?_
        refine S.istore (pc' := 53) (LL' := [_, _, _, _, _, _, _]) dX12_lost_51 rfl (by decide) rfl rfl ?_
        refine S.iload (pc' := 55) dX12_lost_53 rfl rfl ?_
        refine S.bipush (pc' := 57) dX12_lost_55 rfl (by decide) ?_
        refine S.icmp_eq (pc' := 60) (tgt := 91) dX12_lost_57 (by decide) rfl (by unfold fp_rng; omega) (by unfold fp_rng; omega) (fun h57 => ?_) (fun h57 => ?_)
        · refine S.iconst (pc' := 92) dX12_lost_91 rfl ?_
          refine S.istore (pc' := 94) (LL' := [_, _, _, _, _, _, _]) dX12_lost_92 rfl (by decide) rfl rfl ?_
          refine S.iload_n (pc' := 95) dX12_lost_94 rfl rfl rfl ?_
          refine S.iload (pc' := 97) dX12_lost_95 rfl rfl ?_
          refine S.if_eq (pc' := 100) (tgt := 107) dX12_lost_97 (by decide) rfl (by unfold fp_rng; omega) (fun h97 => ?_) (fun h97 => ?_)
          · refine S.iconst (pc' := 108) dX12_lost_107 rfl ?_
            refine S.ior (pc' := 109) dX12_lost_108 rfl (fp_ior hb (by first | exact Int.le_of_lt (Int.pow_pos (by decide)) | omega)) ?_
            refine S.istore_n (pc' := 110) (LL' := [_, _, _, _, _, _, _]) dX12_lost_109 rfl (by decide) rfl rfl rfl ?_
            refine S.iinc (pc' := 113) (LL' := [_, _, _, _, _, _, _]) dX12_lost_110 rfl (by decide) rfl rfl rfl ?_
            refine S.goto (pc' := 28) dX12_lost_113 (by decide) ?_
            first | (exfalso; omega) | (rw [if_neg (by omega)] at es; rw [fp_or0 hb, ← es]; exact ih _ _ _ (by omega) (by omega) (by omega)) | (rw [if_pos ⟨by omega, by omega, by omega⟩] at es; rw [v4, ← es]; exact ih _ _ _ (by omega) (by omega) (by omega))
          · refine S.iconst (pc' := 101) dX12_lost_100 rfl ?_
            refine S.iload (pc' := 103) dX12_lost_101 rfl rfl ?_
            refine S.ishl (pc' := 104) dX12_lost_103 rfl (fp_shl1 (by omega) (by omega)) ?_
            refine S.goto (pc' := 108) dX12_lost_104 (by decide) ?_
            refine S.ior (pc' := 109) dX12_lost_108 rfl (fp_ior hb (by first | exact Int.le_of_lt (Int.pow_pos (by decide)) | omega)) ?_
            refine S.istore_n (pc' := 110) (LL' := [_, _, _, _, _, _, _]) dX12_lost_109 rfl (by decide) rfl rfl rfl ?_
            refine S.iinc (pc' := 113) (LL' := [_, _, _, _, _, _, _]) dX12_lost_110 rfl (by decide) rfl rfl rfl ?_
            refine S.goto (pc' := 28) dX12_lost_113 (by decide) ?_
            first | (exfalso; omega) | (rw [if_neg (by omega)] at es; rw [fp_or0 hb, ← es]; exact ih _ _ _ (by omega) (by omega) (by omega)) | (rw [if_pos ⟨by omega, by omega, by omega⟩] at es; rw [v4, ← es]; exact ih _ _ _ (by omega) (by omega) (by omega))
        · refine S.aload_n (pc' := 61) dX12_lost_60 rfl rfl rfl ?_
          refine S.getR (pc' := 64) dX12_lost_61 rfl fX12_7 L_177 rf_177_0 ?_
          refine S.bipush (pc' := 66) dX12_lost_64 rfl (by decide) ?_
          refine S.iconst (pc' := 67) dX12_lost_66 rfl ?_
          refine S.iload (pc' := 69) dX12_lost_67 rfl rfl ?_
          refine S.imul (pc' := 70) dX12_lost_69 rfl ?_
          refine S.iadd (pc' := 71) dX12_lost_70 rfl ?_
          refine S.iconst (pc' := 72) dX12_lost_71 rfl ?_
          refine S.iadd (pc' := 73) dX12_lost_72 rfl ?_
          refine S.iald (pc' := 74) dX12_lost_73 rfl L_178 (by omega) (by omega) ?_
          refine S.iload_n (pc' := 75) dX12_lost_74 rfl rfl rfl ?_
          refine S.icmp_ne (pc' := 78) (tgt := 91) dX12_lost_75 (by decide) rfl (by unfold fp_rng; omega) (by unfold fp_rng; omega) (fun h75 => ?_) (fun h75 => ?_)
          · refine S.iconst (pc' := 92) dX12_lost_91 rfl ?_
            refine S.istore (pc' := 94) (LL' := [_, _, _, _, _, _, _]) dX12_lost_92 rfl (by decide) rfl rfl ?_
            refine S.iload_n (pc' := 95) dX12_lost_94 rfl rfl rfl ?_
            refine S.iload (pc' := 97) dX12_lost_95 rfl rfl ?_
            refine S.if_eq (pc' := 100) (tgt := 107) dX12_lost_97 (by decide) rfl (by unfold fp_rng; omega) (fun h97 => ?_) (fun h97 => ?_)
            · refine S.iconst (pc' := 108) dX12_lost_107 rfl ?_
              refine S.ior (pc' := 109) dX12_lost_108 rfl (fp_ior hb (by first | exact Int.le_of_lt (Int.pow_pos (by decide)) | omega)) ?_
              refine S.istore_n (pc' := 110) (LL' := [_, _, _, _, _, _, _]) dX12_lost_109 rfl (by decide) rfl rfl rfl ?_
              refine S.iinc (pc' := 113) (LL' := [_, _, _, _, _, _, _]) dX12_lost_110 rfl (by decide) rfl rfl rfl ?_
              refine S.goto (pc' := 28) dX12_lost_113 (by decide) ?_
              first | (exfalso; omega) | (rw [if_neg (by omega)] at es; rw [fp_or0 hb, ← es]; exact ih _ _ _ (by omega) (by omega) (by omega)) | (rw [if_pos ⟨by omega, by omega, by omega⟩] at es; rw [v4, ← es]; exact ih _ _ _ (by omega) (by omega) (by omega))
            · refine S.iconst (pc' := 101) dX12_lost_100 rfl ?_
              refine S.iload (pc' := 103) dX12_lost_101 rfl rfl ?_
              refine S.ishl (pc' := 104) dX12_lost_103 rfl (fp_shl1 (by omega) (by omega)) ?_
              refine S.goto (pc' := 108) dX12_lost_104 (by decide) ?_
              refine S.ior (pc' := 109) dX12_lost_108 rfl (fp_ior hb (by first | exact Int.le_of_lt (Int.pow_pos (by decide)) | omega)) ?_
              refine S.istore_n (pc' := 110) (LL' := [_, _, _, _, _, _, _]) dX12_lost_109 rfl (by decide) rfl rfl rfl ?_
              refine S.iinc (pc' := 113) (LL' := [_, _, _, _, _, _, _]) dX12_lost_110 rfl (by decide) rfl rfl rfl ?_
              refine S.goto (pc' := 28) dX12_lost_113 (by decide) ?_
              first | (exfalso; omega) | (rw [if_neg (by omega)] at es; rw [fp_or0 hb, ← es]; exact ih _ _ _ (by omega) (by omega) (by omega)) | (rw [if_pos ⟨by omega, by omega, by omega⟩] at es; rw [v4, ← es]; exact ih _ _ _ (by omega) (by omega) (by omega))
          · refine S.iload_n (pc' := 79) dX12_lost_78 rfl rfl rfl ?_
            refine S.iload (pc' := 81) dX12_lost_79 rfl rfl ?_
            refine S.ishr (pc' := 82) dX12_lost_81 rfl (fp_shrv (by omega) (by omega)) ?_
            refine S.iconst (pc' := 83) dX12_lost_82 rfl ?_
            refine S.iand (pc' := 84) dX12_lost_83 rfl (fp_iand hdn (by decide)) ?_
            refine S.if_ne (pc' := 87) (tgt := 91) dX12_lost_84 (by decide) rfl (by unfold fp_rng; omega) (fun h84 => ?_) (fun h84 => ?_)
            · refine S.iconst (pc' := 92) dX12_lost_91 rfl ?_
              refine S.istore (pc' := 94) (LL' := [_, _, _, _, _, _, _]) dX12_lost_92 rfl (by decide) rfl rfl ?_
              refine S.iload_n (pc' := 95) dX12_lost_94 rfl rfl rfl ?_
              refine S.iload (pc' := 97) dX12_lost_95 rfl rfl ?_
              refine S.if_eq (pc' := 100) (tgt := 107) dX12_lost_97 (by decide) rfl (by unfold fp_rng; omega) (fun h97 => ?_) (fun h97 => ?_)
              · refine S.iconst (pc' := 108) dX12_lost_107 rfl ?_
                refine S.ior (pc' := 109) dX12_lost_108 rfl (fp_ior hb (by first | exact Int.le_of_lt (Int.pow_pos (by decide)) | omega)) ?_
                refine S.istore_n (pc' := 110) (LL' := [_, _, _, _, _, _, _]) dX12_lost_109 rfl (by decide) rfl rfl rfl ?_
                refine S.iinc (pc' := 113) (LL' := [_, _, _, _, _, _, _]) dX12_lost_110 rfl (by decide) rfl rfl rfl ?_
                refine S.goto (pc' := 28) dX12_lost_113 (by decide) ?_
                first | (exfalso; omega) | (rw [if_neg (by omega)] at es; rw [fp_or0 hb, ← es]; exact ih _ _ _ (by omega) (by omega) (by omega)) | (rw [if_pos ⟨by omega, by omega, by omega⟩] at es; rw [v4, ← es]; exact ih _ _ _ (by omega) (by omega) (by omega))
              · refine S.iconst (pc' := 101) dX12_lost_100 rfl ?_
                refine S.iload (pc' := 103) dX12_lost_101 rfl rfl ?_
                refine S.ishl (pc' := 104) dX12_lost_103 rfl (fp_shl1 (by omega) (by omega)) ?_
                refine S.goto (pc' := 108) dX12_lost_104 (by decide) ?_
                refine S.ior (pc' := 109) dX12_lost_108 rfl (fp_ior hb (by first | exact Int.le_of_lt (Int.pow_pos (by decide)) | omega)) ?_
                refine S.istore_n (pc' := 110) (LL' := [_, _, _, _, _, _, _]) dX12_lost_109 rfl (by decide) rfl rfl rfl ?_
                refine S.iinc (pc' := 113) (LL' := [_, _, _, _, _, _, _]) dX12_lost_110 rfl (by decide) rfl rfl rfl ?_
                refine S.goto (pc' := 28) dX12_lost_113 (by decide) ?_
                first | (exfalso; omega) | (rw [if_neg (by omega)] at es; rw [fp_or0 hb, ← es]; exact ih _ _ _ (by omega) (by omega) (by omega)) | (rw [if_pos ⟨by omega, by omega, by omega⟩] at es; rw [v4, ← es]; exact ih _ _ _ (by omega) (by omega) (by omega))
            · refine S.iconst (pc' := 88) dX12_lost_87 rfl ?_
              refine S.goto (pc' := 92) dX12_lost_88 (by decide) ?_
              refine S.istore (pc' := 94) (LL' := [_, _, _, _, _, _, _]) dX12_lost_92 rfl (by decide) rfl rfl ?_
              refine S.iload_n (pc' := 95) dX12_lost_94 rfl rfl rfl ?_
              refine S.iload (pc' := 97) dX12_lost_95 rfl rfl ?_
              refine S.if_eq (pc' := 100) (tgt := 107) dX12_lost_97 (by decide) rfl (by unfold fp_rng; omega) (fun h97 => ?_) (fun h97 => ?_)
              · refine S.iconst (pc' := 108) dX12_lost_107 rfl ?_
                refine S.ior (pc' := 109) dX12_lost_108 rfl (fp_ior hb (by first | exact Int.le_of_lt (Int.pow_pos (by decide)) | omega)) ?_
                refine S.istore_n (pc' := 110) (LL' := [_, _, _, _, _, _, _]) dX12_lost_109 rfl (by decide) rfl rfl rfl ?_
                refine S.iinc (pc' := 113) (LL' := [_, _, _, _, _, _, _]) dX12_lost_110 rfl (by decide) rfl rfl rfl ?_
                refine S.goto (pc' := 28) dX12_lost_113 (by decide) ?_
                first | (exfalso; omega) | (rw [if_neg (by omega)] at es; rw [fp_or0 hb, ← es]; exact ih _ _ _ (by omega) (by omega) (by omega)) | (rw [if_pos ⟨by omega, by omega, by omega⟩] at es; rw [v4, ← es]; exact ih _ _ _ (by omega) (by omega) (by omega))
              · refine S.iconst (pc' := 101) dX12_lost_100 rfl ?_
                refine S.iload (pc' := 103) dX12_lost_101 rfl rfl ?_
                refine S.ishl (pc' := 104) dX12_lost_103 rfl (fp_shl1 (by omega) (by omega)) ?_
                refine S.goto (pc' := 108) dX12_lost_104 (by decide) ?_
                refine S.ior (pc' := 109) dX12_lost_108 rfl (fp_ior hb (by first | exact Int.le_of_lt (Int.pow_pos (by decide)) | omega)) ?_
                refine S.istore_n (pc' := 110) (LL' := [_, _, _, _, _, _, _]) dX12_lost_109 rfl (by decide) rfl rfl rfl ?_
                refine S.iinc (pc' := 113) (LL' := [_, _, _, _, _, _, _]) dX12_lost_110 rfl (by decide) rfl rfl rfl ?_
                refine S.goto (pc' := 28) dX12_lost_113 (by decide) ?_
                first | (exfalso; omega) | (rw [if_neg (by omega)] at es; rw [fp_or0 hb, ← es]; exact ih _ _ _ (by omega) (by omega) (by omega)) | (rw [if_pos ⟨by omega, by omega, by omega⟩] at es; rw [v4, ← es]; exact ih _ _ _ (by omega) (by omega) (by omega))
    · have ei : i.toNat = vs.length := by omega
      rw [ei] at hb ⊢
      refine S.iload (pc' := 30) dX12_lost_28 rfl rfl ?_
      refine S.aload_n (pc' := 31) dX12_lost_30 rfl rfl rfl ?_
      refine S.callVe (pc' := 34) dX12_lost_31 rfl cX12_225 (ok_X12_visits) rfl L_177 (by decide) rfl (Nat.le_of_ble_eq_true rfl) ?_
      refine S.icmp_ge (pc' := 37) (tgt := 116) dX12_lost_34 (by decide) rfl (by unfold fp_rng; omega) (by unfold fp_rng; omega) (fun h34 => ?_) (fun h34 => ?_)
      · refine S.iconst (pc' := 117) dX12_lost_116 rfl ?_
        refine S.istore (pc' := 119) (LL' := [_, _, _, _, _, _, _]) dX12_lost_117 rfl (by decide) rfl rfl ?_
        refine S.iconst (pc' := 120) dX12_lost_119 rfl ?_
        refine S.istore (pc' := 122) (LL' := [_, _, _, _, _, _, _]) dX12_lost_120 rfl (by decide) rfl rfl ?_
        exact mlost_two hp hg (aRun_ok hg hP hvo vs.length) hb hc hcs hfr 5 0 (by omega) (by omega) (by omega)
      · exfalso; omega
theorem mm_lost {p : Int} (hc : MS M tp fl g pg vs nt im sh tn) (ho : OK g pg vs nt im sh) (hp : fp_rng p) : fp_Ok l G 6 kX12_lost [rV G 177, iV p] M (qI fun z N => z = A_lost g pg vs p ∧ MS N tp fl g pg vs nt im sh tn ∧ frD M N) := by
  have hcs := hc
  obtain ⟨-, hd, hcl, hv, -⟩ := hc
  have hv0 : mvIs M vs := hv
  have hv1 := hv.1
  have ho' := ho
  obtain ⟨hg, hP, hvo, -⟩ := ho
  refine fp_Ok.of (r := 5) rfl (Nat.le_of_ble_eq_true rfl) rfl ?_
  unfold A_lost
  by_cases hin : 0 ≤ p ∧ p < 4
  · rw [if_pos hin]
    refine S.iload_n (pc' := 1) dX12_lost_0 rfl rfl rfl ?_
    refine S.callSi (pc' := 4) dX12_lost_1 rfl cX12_228 (bk_X12_isOne) rfl (by decide) rfl (Nat.le_of_ble_eq_true rfl) (fun z1 M1 q1 => ?_)
    obtain ⟨b1, rfl⟩ := q1
    refine S.if_ne (pc' := 7) (tgt := 9) dX12_lost_4 (by decide) rfl (by unfold fp_rng; omega) (fun h4 => ?_) (fun h4 => ?_)
    · refine S.aload_n (pc' := 10) dX12_lost_9 rfl rfl rfl ?_
      refine S.iconst (pc' := 11) dX12_lost_10 rfl ?_
      refine S.iload_n (pc' := 12) dX12_lost_11 rfl rfl rfl ?_
      refine S.callVe (pc' := 15) dX12_lost_12 rfl cX12_231 (rk_X12_holdsAt (g := g) (pg := pg)) rfl L_177 (by decide) rfl (Nat.le_of_ble_eq_true rfl) ?_
      refine S.istore_n (pc' := 16) (LL' := [_, _, _, _, _, _, _]) dX12_lost_15 rfl (by decide) rfl rfl rfl ?_
      refine S.aload_n (pc' := 17) dX12_lost_16 rfl rfl rfl ?_
      refine S.aload_n (pc' := 18) dX12_lost_17 rfl rfl rfl ?_
      refine S.callVe (pc' := 21) dX12_lost_18 rfl cX12_225 (ok_X12_visits) rfl L_177 (by decide) rfl (Nat.le_of_ble_eq_true rfl) ?_
      rw [hv1]
      refine S.callVi (pc' := 24) dX12_lost_21 rfl cX12_268 (rk_X12_runs (g := g) (pg := pg) (vs := vs)) rfl L_177 (by decide) rfl (Nat.le_of_ble_eq_true rfl) (fun z21 M21 q21 => ?_)
      obtain ⟨z1, c1, f1⟩ := q21
      rw [Int.toNat_natCast] at z1 c1
      refine S.istore_n (pc' := 25) (LL' := [_, _, _, _, _, _, _]) dX12_lost_24 rfl (by decide) rfl rfl rfl ?_
      refine S.iconst (pc' := 26) dX12_lost_25 rfl ?_
      refine S.istore (pc' := 28) (LL' := [_, _, _, _, _, _, _]) dX12_lost_26 rfl (by decide) rfl rfl ?_
      rw [z1]; exact mlost_one hin ho' c1 (hcs.tri ho' f1) f1.d (vs.length + 1) 0 none none (by omega) (by omega) (by omega)
    · exfalso; omega
  · rw [if_neg hin]
    refine S.iload_n (pc' := 1) dX12_lost_0 rfl rfl rfl ?_
    refine S.callSi (pc' := 4) dX12_lost_1 rfl cX12_228 (bk_X12_isOne) rfl (by decide) rfl (Nat.le_of_ble_eq_true rfl) (fun z1 M1 q1 => ?_)
    obtain ⟨b1, rfl⟩ := q1
    refine S.if_ne (pc' := 7) (tgt := 9) dX12_lost_4 (by decide) rfl (by unfold fp_rng; omega) (fun h4 => ?_) (fun h4 => ?_)
    · exfalso; omega
    · refine S.iconst (pc' := 8) dX12_lost_7 rfl ?_
      refine S.iret dX12_lost_8 rfl ?_
      exact ⟨rfl, hcs, frD.refl _⟩
end LOS
end
section
/-! FEED -/
theorem fp_lshrv {v s : Int} (hv : fp_lng v) (hs : 0 ≤ s ∧ s < 64) : Int64.ofInt v >>> ((Int32.ofInt s).toInt64 &&& 63) = Int64.ofInt (v / 2 ^ s.toNat) := by
  have hk : (((Int32.ofInt s).toInt64 &&& 63).toBitVec.smod 64).toNat = s.toNat := by
    have h : ∀ n : Nat, n < 64 → (((Int32.ofInt (n : Int)).toInt64 &&& 63).toBitVec.smod 64).toNat = n := by decide +kernel
    have := h s.toNat (by omega)
    rwa [Int.toNat_of_nonneg hs.1] at this
  rw [← Int64.toInt_inj]
  have e1 : (Int64.ofInt v >>> ((Int32.ofInt s).toInt64 &&& 63)).toInt = (Int64.ofInt v).toInt >>> s.toNat := by
    show (Int64.ofInt v >>> ((Int32.ofInt s).toInt64 &&& 63)).toBitVec.toInt = _
    rw [Int64.toBitVec_shiftRight, BitVec.sshiftRight', BitVec.toInt_sshiftRight, hk]
    rfl
  rw [e1]
  have hp : (0 : Int) < 2 ^ s.toNat := Int.pow_pos (by decide)
  unfold fp_lng at hv
  have hd : -9223372036854775808 ≤ v / 2 ^ s.toNat ∧ v / 2 ^ s.toNat < 9223372036854775808 := by
    constructor
    · rw [Int.le_ediv_iff_mul_le hp]
      have : (-9223372036854775808) * (2 ^ s.toNat) ≤ (-9223372036854775808 : Int) := by
        have h1 : (1 : Int) ≤ 2 ^ s.toNat := hp
        have := Int.mul_le_mul_of_nonneg_left h1 (show (0 : Int) ≤ 9223372036854775808 by decide)
        omega
      omega
    · apply Int.ediv_lt_of_lt_mul hp
      have h1 : (1 : Int) ≤ 2 ^ s.toNat := hp
      have := Int.mul_le_mul_of_nonneg_left h1 (show (0 : Int) ≤ 9223372036854775808 by decide)
      omega
  rw [Int64.toInt_ofInt_of_le (by omega) (by omega), Int64.toInt_ofInt_of_le (by omega) (by omega), Int.shiftRight_eq_div_pow]
  simp
theorem fp_and255 (a : Int) : Int32.ofInt a &&& Int32.ofInt 255 = Int32.ofInt (a % 256) := by
  apply Int32.toBitVec.inj
  apply BitVec.eq_of_toNat_eq
  rw [Int32.toBitVec_and, BitVec.toNat_and]
  have h : (Int32.ofInt 255).toBitVec.toNat = 2 ^ 8 - 1 := by decide
  rw [h, Nat.and_two_pow_sub_one_eq_mod]
  simp only [Int32.toBitVec_ofInt, BitVec.toNat_ofInt]
  omega
def aByte (v : Int) (i : Nat) : Int := (v / 2 ^ (56 - 8 * i)) % 256
def A_feed (tp : List Int) (v : Int) : Int × List Int := if 480 < tp.length + 8 then (-3, tp) else ((tp.length : Int) + 8, tp ++ (List.range 8).map (aByte v))
theorem A_feed_getD {tp : List Int} {v : Int} (i : Nat) (h : i < tp.length + 8) : (tp ++ (List.range 8).map (aByte v)).getD i 0 = if i < tp.length then tp.getD i 0 else aByte v (i - tp.length) := by
  rw [List.getD_eq_getElem?_getD]
  split
  · rename_i hi
    rw [List.getElem?_append_left hi, List.getD_eq_getElem?_getD]
  · rename_i hi
    rw [List.getElem?_append_right (by omega), List.getElem?_map, List.getElem?_range (by omega)]
    rfl
theorem fp_nbyte (a : Int) : narrow .byte (iV (a.bmod 256)) = iV (a.bmod 256) := by
  have h1 := Int.le_bmod (x := a) (m := 256) (by decide)
  have h2 := Int.bmod_lt (x := a) (m := 256) (by decide)
  show Value.int (Int32.ofInt (a.bmod 256)).toInt8.toInt32 = Value.int _
  congr 1
  rw [Int32.toInt8_ofInt, ← Int32.toInt_inj, Int8.toInt_toInt32, Int8.toInt_ofInt, fp_toInt (by unfold fp_rng; omega)]
  exact Int.bmod_bmod ..
section FEE
variable {l : Launch} {G : fp_WG} {M N : fp_Mem} {tp tp' : List Int} {fl fl' : Int} {g : aGd} {pg pg' : aPg} {vs vs' : List aVt} {nt nt' : List Int} {im im' : aIm} {sh sh' : aSh} {tn tn' : Int} {k k2 : Nat}
theorem cfeed_loop {v : Int} (hv : fp_lng v) (hc : CS M tp fl g pg vs nt im sh tn) (h8 : tp.length + 8 ≤ 480) : ∀ (n : Nat) (i : Int) (N : fp_Mem), (8 - i).toNat < n → 0 ≤ i → i ≤ 8 → (∀ a, a ≠ 1 → N a = M a) → (∀ j : Nat, N 1 j = if (tp.length : Int) ≤ j ∧ (j : Int) < tp.length + i then (v / 2 ^ (56 - 8 * (j - tp.length))).bmod 256 else M 1 j) →
    fp_S l G 0 kX11_feed 18 [some (rV G 0), some (jV v), none, some (iV i)] [] N (qI fun z O => z = (tp.length : Int) + 8 ∧ CS O (tp ++ (List.range 8).map (aByte v)) fl g pg vs nt im sh tn ∧ frC M O) := by
  have hA := hc.1
  obtain ⟨a1, a2, a3, a4, a5, a6, a7⟩ := hA
  intro n
  induction n with
  | zero => intro i N h; omega
  | succ n ih =>
    intro i N h i0 i1 e1 e2
    have t1 : N 0 1 = tp.length := by rw [e1 0 (by decide)]; exact a1
    refine S.iload_n (pc' := 19) dX11_feed_18 rfl rfl rfl ?_
    refine S.bipush (pc' := 21) dX11_feed_19 rfl (by decide) ?_
    refine S.icmp_ge (pc' := 24) (tgt := 52) dX11_feed_21 (by decide) rfl (by unfold fp_rng; omega) (by unfold fp_rng; omega) (fun h21 => ?_) (fun h21 => ?_)
    · refine S.aload_n (pc' := 53) dX11_feed_52 rfl rfl rfl ?_
      refine S.dup (pc' := 54) dX11_feed_53 rfl rfl ?_
      refine S.getI (pc' := 57) dX11_feed_54 rfl fX11_90 L_0 ?_
      refine S.bipush (pc' := 59) dX11_feed_57 rfl (by decide) ?_
      refine S.iadd (pc' := 60) dX11_feed_59 rfl ?_
      refine S.putI (pc' := 63) dX11_feed_60 rfl fX11_90 L_0 ?_
      refine S.aload_n (pc' := 64) dX11_feed_63 rfl rfl rfl ?_
      refine S.getI (pc' := 67) dX11_feed_64 rfl fX11_90 L_0 ?_
      refine S.iret dX11_feed_67 rfl ?_
      refine ⟨by rw [fp_up_at, fp_upf_at, t1], hc.tap (fun a ha => by rw [fp_up_ne (by omega)]; exact e1 a (by omega)) ⟨?_, ?_, fun q q0 q1 => ?_, ?_, ?_, a6, a7⟩, fun c hcc => by rw [fp_up_ne (by omega)]; exact e1 c (by omega)⟩
      · rw [fp_up_at, fp_upf_at, t1, List.length_append]; simp
      · rw [List.length_append]; simp; omega
      · rw [List.length_append] at q1; simp at q1
        rw [A_feed_getD q.toNat (by omega), fp_up_ne (by decide), e2]
        by_cases hq : q.toNat < tp.length
        · rw [if_pos hq, if_neg (by omega)]; exact a3 q q0 (by omega)
        · rw [if_neg hq, if_pos (by omega)]; unfold aByte; exact ⟨⟨Int.emod_nonneg _ (by decide), Int.emod_lt_of_pos _ (by decide)⟩, (Int.emod_bmod ..).symm⟩
      · rw [fp_up_ne (by decide), e1 2 (by decide)]; exact a4
      · rw [fp_up_at, fp_upf_ne (by decide), e1 0 (by decide)]; exact a5
    · refine S.aload_n (pc' := 25) dX11_feed_24 rfl rfl rfl ?_
      refine S.getR (pc' := 28) dX11_feed_25 rfl fX11_9 L_0 rf_0_0 ?_
      refine S.aload_n (pc' := 29) dX11_feed_28 rfl rfl rfl ?_
      refine S.getI (pc' := 32) dX11_feed_29 rfl fX11_90 L_0 ?_
      refine S.iload_n (pc' := 33) dX11_feed_32 rfl rfl rfl ?_
      rw [t1]
      refine S.iadd (pc' := 34) dX11_feed_33 rfl ?_
      refine S.lload_n (pc' := 35) dX11_feed_34 rfl rfl rfl ?_
      refine S.bipush (pc' := 37) dX11_feed_35 rfl (by decide) ?_
      refine S.bipush (pc' := 39) dX11_feed_37 rfl (by decide) ?_
      refine S.iload_n (pc' := 40) dX11_feed_39 rfl rfl rfl ?_
      refine S.imul (pc' := 41) dX11_feed_40 rfl ?_
      refine S.isub (pc' := 42) dX11_feed_41 rfl ?_
      refine S.lshr (pc' := 43) dX11_feed_42 rfl (fp_lshrv hv (by omega)) ?_
      refine S.l2i (pc' := 44) dX11_feed_43 rfl ?_
      refine S.i2b (pc' := 45) dX11_feed_44 rfl ?_
      refine S.bast (pc' := 46) dX11_feed_45 rfl L_1 (by omega) (by omega) (fp_nbyte _) ?_
      refine S.iinc (pc' := 49) (LL' := [_, _, _, _]) dX11_feed_46 rfl (by decide) rfl rfl rfl ?_
      refine S.goto (pc' := 18) dX11_feed_49 (by decide) ?_
      refine ih _ _ (by omega) (by omega) (by omega) (fun a ha => by rw [fp_up_ne ha]; exact e1 a ha) (fun j => ?_)
      rw [fp_up_at]
      unfold fp_upf
      by_cases e : j = ((tp.length : Int) + i).toNat
      · rw [if_pos e, if_pos (by omega), show (56 - 8 * i).toNat = 56 - 8 * (j - tp.length) by omega]
      · rw [if_neg e, e2 j]
        by_cases e9 : (tp.length : Int) ≤ j ∧ (j : Int) < tp.length + i
        · rw [if_pos e9, if_pos (by omega)]
        · rw [if_neg e9, if_neg (by omega)]
theorem cc_feed {v : Int} (hc : CS M tp fl g pg vs nt im sh tn) (hv : fp_lng v) : fp_Ok l G 0 kX11_feed [rV G 0, jV v] M (qI fun z N => z = (A_feed tp v).1 ∧ CS N (A_feed tp v).2 fl g pg vs nt im sh tn ∧ frC M N) := by
  have hA := hc.1
  have a1 := hA.1
  have a2 := hA.2.1
  refine fp_Ok.of (r := 1) rfl (Nat.le_of_ble_eq_true rfl) rfl ?_
  unfold A_feed
  by_cases h8 : 480 < tp.length + 8
  · rw [if_pos h8]
    refine S.aload_n (pc' := 1) dX11_feed_0 rfl rfl rfl ?_
    refine S.getI (pc' := 4) dX11_feed_1 rfl fX11_90 L_0 ?_
    refine S.bipush (pc' := 6) dX11_feed_4 rfl (by decide) ?_
    refine S.iadd (pc' := 7) dX11_feed_6 rfl ?_
    refine S.sipush (pc' := 10) dX11_feed_7 rfl (by decide) ?_
    refine S.icmp_le (pc' := 13) (tgt := 16) dX11_feed_10 (by decide) rfl (by unfold fp_rng; omega) (by unfold fp_rng; omega) (fun h10 => ?_) (fun h10 => ?_)
    · exfalso; omega
    · refine S.bipush (pc' := 15) dX11_feed_13 rfl (by decide) ?_
      refine S.iret dX11_feed_15 rfl ?_
      exact ⟨rfl, hc, frC.refl _⟩
  · rw [if_neg h8]
    refine S.aload_n (pc' := 1) dX11_feed_0 rfl rfl rfl ?_
    refine S.getI (pc' := 4) dX11_feed_1 rfl fX11_90 L_0 ?_
    refine S.bipush (pc' := 6) dX11_feed_4 rfl (by decide) ?_
    refine S.iadd (pc' := 7) dX11_feed_6 rfl ?_
    refine S.sipush (pc' := 10) dX11_feed_7 rfl (by decide) ?_
    refine S.icmp_le (pc' := 13) (tgt := 16) dX11_feed_10 (by decide) rfl (by unfold fp_rng; omega) (by unfold fp_rng; omega) (fun h10 => ?_) (fun h10 => ?_)
    · refine S.iconst (pc' := 17) dX11_feed_16 rfl ?_
      refine S.istore_n (pc' := 18) (LL' := [_, _, _, _]) dX11_feed_17 rfl (by decide) rfl rfl rfl ?_
      exact cfeed_loop hv hc (by omega) 9 0 _ (by omega) (by omega) (by omega) (fun a ha => rfl) (fun j => by rw [if_neg (by omega)])
    · exfalso; omega
theorem mfeed_loop {v : Int} (hv : fp_lng v) (hc : MS M tp fl g pg vs nt im sh tn) (h8 : tp.length + 8 ≤ 480) : ∀ (n : Nat) (i : Int) (N : fp_Mem), (8 - i).toNat < n → 0 ≤ i → i ≤ 8 → (∀ a, a ≠ 177 → a ≠ 186 → N a = M a) → N 177 = fp_upf (M 177) 19 (tp.length + i) → (∀ j : Nat, N 186 j = if (tp.length : Int) ≤ j ∧ (j : Int) < tp.length + i then (v / 2 ^ (56 - 8 * (j - tp.length))) % 256 else M 186 j) →
    fp_S l G 0 kX12_feed 19 [some (rV G 177), some (jV v), none, some (iV (56 - 8 * i))] [] N (qI fun z O => z = (tp.length : Int) + 8 ∧ MS O (tp ++ (List.range 8).map (aByte v)) fl g pg vs nt im sh tn ∧ frD M O) := by
  have hA := hc.1
  obtain ⟨a1, a2, a3, a4, a5⟩ := hA
  intro n
  induction n with
  | zero => intro i N h; omega
  | succ n ih =>
    intro i N h i0 i1 e1 e3 e2
    have t1 : N 177 19 = tp.length + i := by rw [e3, fp_upf_at]
    refine S.iload_n (pc' := 20) dX12_feed_19 rfl rfl rfl ?_
    refine S.if_lt (pc' := 23) (tgt := 56) dX12_feed_20 (by decide) rfl (by unfold fp_rng; omega) (fun h20 => ?_) (fun h20 => ?_)
    · refine S.aload_n (pc' := 57) dX12_feed_56 rfl rfl rfl ?_
      refine S.getI (pc' := 60) dX12_feed_57 rfl fX12_91 L_177 ?_
      refine S.iret dX12_feed_60 rfl ?_
      have i8 : i = 8 := by omega
      subst i8
      refine ⟨t1, hc.tap e1 ⟨by rw [e3, fp_upf_ne (by decide)], by rw [e3, fp_upf_ne (by decide)], by rw [e3, fp_upf_ne (by decide)]⟩ ⟨?_, ?_, fun q q0 q1 => ?_, ?_, ?_⟩, fun c hcc => e1 c (by omega) (by omega)⟩
      · rw [t1, List.length_append]; simp
      · rw [List.length_append]; simp; omega
      · rw [List.length_append] at q1; simp at q1
        rw [A_feed_getD q.toNat (by omega), e2]
        by_cases hq : q.toNat < tp.length
        · rw [if_pos hq, if_neg (by omega)]; exact a3 q q0 (by omega)
        · rw [if_neg hq, if_pos (by omega)]; unfold aByte; exact ⟨⟨Int.emod_nonneg _ (by decide), Int.emod_lt_of_pos _ (by decide)⟩, rfl⟩
      · rw [e3, fp_upf_ne (by decide)]; exact a4
      · rw [e3, fp_upf_ne (by decide)]; exact a5
    · refine S.aload_n (pc' := 24) dX12_feed_23 rfl rfl rfl ?_
      refine S.getR (pc' := 27) dX12_feed_24 rfl fX12_38 L_177 rf_177_18 ?_
      refine S.aload_n (pc' := 28) dX12_feed_27 rfl rfl rfl ?_
      refine S.getI (pc' := 31) dX12_feed_28 rfl fX12_91 L_177 ?_
      rw [t1]
      refine S.lload_n (pc' := 32) dX12_feed_31 rfl rfl rfl ?_
      refine S.iload_n (pc' := 33) dX12_feed_32 rfl rfl rfl ?_
      refine S.lshr (pc' := 34) dX12_feed_33 rfl (fp_lshrv hv (by omega)) ?_
      refine S.l2i (pc' := 35) dX12_feed_34 rfl ?_
      refine S.sipush (pc' := 38) dX12_feed_35 rfl (by decide) ?_
      refine S.iand (pc' := 39) dX12_feed_38 rfl (fp_and255 _) ?_
      refine S.iast (pc' := 40) dX12_feed_39 rfl L_186 (by omega) (by omega) ?_
      refine S.aload_n (pc' := 41) dX12_feed_40 rfl rfl rfl ?_
      refine S.dup (pc' := 42) dX12_feed_41 rfl rfl ?_
      refine S.getI (pc' := 45) dX12_feed_42 rfl fX12_91 L_177 ?_
      refine S.iconst (pc' := 46) dX12_feed_45 rfl ?_
      rw [fp_up_ne (show 177 ≠ 186 by decide), t1]
      refine S.iadd (pc' := 47) dX12_feed_46 rfl ?_
      refine S.putI (pc' := 50) dX12_feed_47 rfl fX12_91 L_177 ?_
      refine S.iinc (pc' := 53) (LL' := [_, _, _, _]) dX12_feed_50 rfl (by decide) rfl rfl rfl ?_
      refine S.goto (pc' := 19) dX12_feed_53 (by decide) ?_
      have hh := fun N' q1 q2 q3 => ih (i + 1) N' (by omega) (by omega) (by omega) q1 q2 q3
      rw [show 56 - 8 * (i + 1) = 56 - 8 * i + -8 by omega] at hh
      refine hh _ (fun a ha hb => by rw [fp_up_ne ha, fp_up_ne hb]; exact e1 a ha hb) ?_ (fun j => ?_)
      · rw [fp_up_at, fp_up_ne (by decide), e3]; funext q; unfold fp_upf; split <;> first | omega | rfl
      · rw [fp_up_ne (by decide), fp_up_at]
        unfold fp_upf
        by_cases e : j = ((tp.length : Int) + i).toNat
        · rw [if_pos e, if_pos (by omega), show (56 - 8 * i).toNat = 56 - 8 * (j - tp.length) by omega]
        · rw [if_neg e, e2 j]
          by_cases e9 : (tp.length : Int) ≤ j ∧ (j : Int) < tp.length + i
          · rw [if_pos e9, if_pos (by omega)]
          · rw [if_neg e9, if_neg (by omega)]
theorem mm_feed {v : Int} (hc : MS M tp fl g pg vs nt im sh tn) (hv : fp_lng v) : fp_Ok l G 0 kX12_feed [rV G 177, jV v] M (qI fun z N => z = (A_feed tp v).1 ∧ MS N (A_feed tp v).2 fl g pg vs nt im sh tn ∧ frD M N) := by
  have hA := hc.1
  have a1 := hA.1
  have a2 := hA.2.1
  refine fp_Ok.of (r := 1) rfl (Nat.le_of_ble_eq_true rfl) rfl ?_
  unfold A_feed
  by_cases h8 : 480 < tp.length + 8
  · rw [if_pos h8]
    refine S.aload_n (pc' := 1) dX12_feed_0 rfl rfl rfl ?_
    refine S.getI (pc' := 4) dX12_feed_1 rfl fX12_91 L_177 ?_
    refine S.bipush (pc' := 6) dX12_feed_4 rfl (by decide) ?_
    refine S.iadd (pc' := 7) dX12_feed_6 rfl ?_
    refine S.sipush (pc' := 10) dX12_feed_7 rfl (by decide) ?_
    refine S.icmp_le (pc' := 13) (tgt := 16) dX12_feed_10 (by decide) rfl (by unfold fp_rng; omega) (by unfold fp_rng; omega) (fun h10 => ?_) (fun h10 => ?_)
    · exfalso; omega
    · refine S.bipush (pc' := 15) dX12_feed_13 rfl (by decide) ?_
      refine S.iret dX12_feed_15 rfl ?_
      exact ⟨rfl, hc, frD.refl _⟩
  · rw [if_neg h8]
    refine S.aload_n (pc' := 1) dX12_feed_0 rfl rfl rfl ?_
    refine S.getI (pc' := 4) dX12_feed_1 rfl fX12_91 L_177 ?_
    refine S.bipush (pc' := 6) dX12_feed_4 rfl (by decide) ?_
    refine S.iadd (pc' := 7) dX12_feed_6 rfl ?_
    refine S.sipush (pc' := 10) dX12_feed_7 rfl (by decide) ?_
    refine S.icmp_le (pc' := 13) (tgt := 16) dX12_feed_10 (by decide) rfl (by unfold fp_rng; omega) (by unfold fp_rng; omega) (fun h10 => ?_) (fun h10 => ?_)
    · refine S.bipush (pc' := 18) dX12_feed_16 rfl (by decide) ?_
      refine S.istore_n (pc' := 19) (LL' := [_, _, _, _]) dX12_feed_18 rfl (by decide) rfl rfl rfl ?_
      exact mfeed_loop hv hc (by omega) 9 0 _ (by omega) (by omega) (by omega) (fun a ha hb => rfl) (by funext q; unfold fp_upf; split <;> first | (rename_i e; subst e; omega) | rfl) (fun j => by rw [if_neg (by omega)])
    · exfalso; omega
end FEE
end
section
/-! TRICK -/
def aTk (g : aGd) (pg : aPg) (vs : List aVt) (p r i x : Int) : Nat → aPg
  | 0 => (aApp (aRun g pg vs i.toNat) p r x).2
  | n + 1 => (aHapI g (aTk g pg vs p r i x n) vs (i + n)).2
abbrev aIsT (g : aGd) (pg : aPg) (vs : List aVt) (p r t i j x : Int) : Prop := (aApp (aRun g pg vs i.toNat) p r x).1 ≠ 0 ∧ aGv g (aTk g pg vs p r i x (j - i).toNat) x = t
def aTl (g : aGd) (pg : aPg) (vs : List aVt) (p r t i j : Int) : Nat → Int → Int
  | 0, _ => -4
  | n + 1, x => if aIsT g pg vs p r t i j x then x else aTl g pg vs p r t i j n (x + 1)
def aTj (g : aGd) (pg : aPg) (vs : List aVt) (p r t w i : Int) : Nat → Int → Option Int
  | 0, _ => none
  | n + 1, j => if aTl g pg vs p r t i j g.2.1.toNat 0 ≠ -4 then some (if w = 0 then i else if w = 1 then j else aTl g pg vs p r t i j g.2.1.toNat 0) else aTj g pg vs p r t w i n (j + 1)
def aTi (g : aGd) (pg : aPg) (vs : List aVt) (p r t w : Int) : Nat → Int → Int
  | 0, _ => -4
  | n + 1, i => match aTj g pg vs p r t w i ((vs.length : Int) + 1 - i).toNat i with
    | some z => z
    | none => aTi g pg vs p r t w n (i + 1)
def A_trick (g : aGd) (pg : aPg) (vs : List aVt) (p r t w : Int) : Int := if ¬ ((0 ≤ p ∧ p < 4) ∧ (0 ≤ r ∧ r < g.1) ∧ (0 ≤ t ∧ t < g.1) ∧ t ≠ r ∧ (0 ≤ w ∧ w ≤ 2)) then -1 else if pg.1 r ≠ p then -2 else aTi g pg vs p r t w (vs.length + 1) 0
theorem aTk_ok {g : aGd} {pg : aPg} {vs : List aVt} {p r i x : Int} (hg : gOk g) (h : pgOk g pg) (hv : vsOk g vs) (hp : 0 ≤ p ∧ p < 4) (hr : 0 ≤ r ∧ r < g.1) (hx : 0 ≤ x ∧ x < g.2.1) : ∀ n, pgOk g (aTk g pg vs p r i x n)
  | 0 => aApp_ok hg (aRun_ok hg h hv _) hp hr hx
  | n + 1 => aHapI_ok hg (aTk_ok hg h hv hp hr hx n) hv
theorem aTk_succ {g : aGd} {pg : aPg} {vs : List aVt} {p r i x j : Int} (h : i ≤ j) : aTk g pg vs p r i x (j + 1 - i).toNat = (aHapI g (aTk g pg vs p r i x (j - i).toNat) vs j).2 := by
  have e1 : (j + 1 - i).toNat = (j - i).toNat + 1 := by omega
  rw [e1]
  show (aHapI g (aTk g pg vs p r i x (j - i).toNat) vs (i + (((j - i).toNat : Nat) : Int))).2 = _
  rw [show i + (((j - i).toNat : Nat) : Int) = j by omega]
theorem aTl_in {g : aGd} {pg : aPg} {vs : List aVt} {p r t i j : Int} : ∀ (n : Nat) (x : Int), 0 ≤ x → aTl g pg vs p r t i j n x = -4 ∨ (0 ≤ aTl g pg vs p r t i j n x ∧ aTl g pg vs p r t i j n x < x + n)
  | 0, x, _ => Or.inl rfl
  | n + 1, x, h => by
    have q := aTl_in (g := g) (pg := pg) (vs := vs) (p := p) (r := r) (t := t) (i := i) (j := j) n (x + 1) (by omega)
    unfold aTl
    split
    · right; omega
    · omega
theorem aApp_01 (pg : aPg) (p t x : Int) : (aApp pg p t x).1 = 0 ∨ (aApp pg p t x).1 = 1 := by
  unfold aApp
  split <;> simp
section TRI
variable {l : Launch} {G : fp_WG} {M N : fp_Mem} {tp tp' : List Int} {fl fl' : Int} {g : aGd} {pg pg' : aPg} {vs vs' : List aVt} {nt nt' : List Int} {im im' : aIm} {sh sh' : aSh} {tn tn' : Int} {k k2 : Nat}
theorem istrick_loop {p r t i j x : Int} (hp : 0 ≤ p ∧ p < 4) (hr : 0 ≤ r ∧ r < g.1) (ht : 0 ≤ t ∧ t < g.1) (hx : 0 ≤ x ∧ x < g.2.1) (hi : 0 ≤ i) (hj : j ≤ vs.length) (hP : pgOk g pg) (hg : gOk g) (hvo : vsOk g vs) (hv : mvIs M vs) (hd : mdIs M g) (h1 : (aApp (aRun g pg vs i.toNat) p r x).1 ≠ 0) : ∀ (n : Nat) (q : Int) (N : fp_Mem), (j - q).toNat < n → i ≤ q → q ≤ j → frT M N → mpIs N 360 g (aTk g pg vs p r i x (q - i).toNat) →
    fp_S l G 6 kX12_isTrick 27 [some (rV G 177), some (iV p), some (iV r), some (iV t), some (iV i), some (iV j), some (iV x), some (iV q)] [] N (qI fun z O => ((z = 1 ∧ aIsT g pg vs p r t i j x) ∨ (z = 0 ∧ ¬ aIsT g pg vs p r t i j x)) ∧ frT M O) := by
  have hl := hv.2.1
  have hg1 := hg.1
  intro n
  induction n with
  | zero => intro q N h; omega
  | succ n ih =>
    intro q N h q0 q1 hf hc
    have er := aTk_succ (g := g) (pg := pg) (vs := vs) (p := p) (r := r) (x := x) q0
    have hPi := aTk_ok (i := i) hg hP hvo hp hr hx (q - i).toNat
    have hv' := hf.mv hv
    have hd' := hf.md hd
    have hq := aGv_in hPi hg hx
    refine S.iload (pc' := 29) dX12_isTrick_27 rfl rfl ?_
    refine S.iload (pc' := 31) dX12_isTrick_29 rfl rfl ?_
    refine S.icmp_ge (pc' := 34) (tgt := 50) dX12_isTrick_31 (by decide) rfl (by unfold fp_rng; omega) (by unfold fp_rng; omega) (fun h31 => ?_) (fun h31 => ?_)
    · refine S.aload_n (pc' := 51) dX12_isTrick_50 rfl rfl rfl ?_
      refine S.sipush (pc' := 54) dX12_isTrick_51 rfl (by decide) ?_
      refine S.iload (pc' := 56) dX12_isTrick_54 rfl rfl ?_
      refine S.callVe (pc' := 59) dX12_isTrick_56 rfl cX12_222 (rk_X12_gives (g := g) (pg := aTk g pg vs p r i x (q - i).toNat)) rfl L_177 (by decide) rfl (Nat.le_of_ble_eq_true rfl) ?_
      refine S.iload_n (pc' := 60) dX12_isTrick_59 rfl rfl rfl ?_
      refine S.icmp_ne (pc' := 63) (tgt := 67) dX12_isTrick_60 (by decide) rfl (by unfold fp_rng; omega) (by unfold fp_rng; omega) (fun h60 => ?_) (fun h60 => ?_)
      · refine S.iconst (pc' := 68) dX12_isTrick_67 rfl ?_
        refine S.zret dX12_isTrick_68 rfl (by first | exact Or.inl rfl | exact Or.inr rfl | omega) ?_
        have eq : q = j := by omega
        subst eq
        refine ⟨?_, hf⟩
        first | exact Or.inl ⟨rfl, h1, h60⟩ | exact Or.inr ⟨rfl, fun q9 => h60 q9.2⟩
      · refine S.iconst (pc' := 64) dX12_isTrick_63 rfl ?_
        refine S.goto (pc' := 68) dX12_isTrick_64 (by decide) ?_
        refine S.zret dX12_isTrick_68 rfl (by first | exact Or.inl rfl | exact Or.inr rfl | omega) ?_
        have eq : q = j := by omega
        subst eq
        refine ⟨?_, hf⟩
        first | exact Or.inl ⟨rfl, h1, h60⟩ | exact Or.inr ⟨rfl, fun q9 => h60 q9.2⟩
    · refine S.aload_n (pc' := 35) dX12_isTrick_34 rfl rfl rfl ?_
      refine S.sipush (pc' := 38) dX12_isTrick_35 rfl (by decide) ?_
      refine S.iload (pc' := 40) dX12_isTrick_38 rfl rfl ?_
      refine S.callVi (pc' := 43) dX12_isTrick_40 rfl cX12_261 (rk_X12_happens (g := g) (pg := aTk g pg vs p r i x (q - i).toNat) (vs := vs)) rfl L_177 (by decide) rfl (Nat.le_of_ble_eq_true rfl) (fun z40 M40 q40 => ?_)
      obtain ⟨z1, c1, f1⟩ := q40
      rw [← er] at c1
      refine S.pop (pc' := 44) dX12_isTrick_43 rfl rfl ?_
      refine S.iinc (pc' := 47) (LL' := [_, _, _, _, _, _, _, _]) dX12_isTrick_44 rfl (by decide) rfl rfl rfl ?_
      refine S.goto (pc' := 27) dX12_isTrick_47 (by decide) ?_
      exact ih _ _ (by omega) (by omega) (by omega) (hf.trans f1.toT) c1
theorem rk_X12_isTrick {p r t i j x : Int} (hp : 0 ≤ p ∧ p < 4) (hr : 0 ≤ r ∧ r < g.1) (ht : 0 ≤ t ∧ t < g.1) (hx : 0 ≤ x ∧ x < g.2.1) (hi : 0 ≤ i ∧ i ≤ j) (hj : j ≤ vs.length) (hc : mpIs M 0 g pg) (hP : pgOk g pg) (hg : gOk g) (hvo : vsOk g vs) (hv : mvIs M vs) (hd : mdIs M g) : fp_Ok l G 6 kX12_isTrick [rV G 177, iV p, iV r, iV t, iV i, iV j, iV x] M (qI fun z O => ((z = 1 ∧ aIsT g pg vs p r t i j x) ∨ (z = 0 ∧ ¬ aIsT g pg vs p r t i j x)) ∧ frT M O) := by
  refine fp_Ok.of (r := 1) rfl (Nat.le_of_ble_eq_true rfl) rfl ?_
  have hPi := aRun_ok hg hP hvo i.toNat
  have h01 := aApp_01 (aRun g pg vs i.toNat) p r x
  refine S.aload_n (pc' := 1) dX12_isTrick_0 rfl rfl rfl ?_
  refine S.iload (pc' := 3) dX12_isTrick_1 rfl rfl ?_
  refine S.callVi (pc' := 6) dX12_isTrick_3 rfl cX12_268 (rk_X12_runs (g := g) (pg := pg) (vs := vs)) rfl L_177 (by decide) rfl (Nat.le_of_ble_eq_true rfl) (fun z3 M3 q3 => ?_)
  obtain ⟨z1, c1, f1⟩ := q3
  refine S.pop (pc' := 7) dX12_isTrick_6 rfl rfl ?_
  refine S.aload_n (pc' := 8) dX12_isTrick_7 rfl rfl rfl ?_
  refine S.sipush (pc' := 11) dX12_isTrick_8 rfl (by decide) ?_
  refine S.iload_n (pc' := 12) dX12_isTrick_11 rfl rfl rfl ?_
  refine S.iload_n (pc' := 13) dX12_isTrick_12 rfl rfl rfl ?_
  refine S.iload (pc' := 15) dX12_isTrick_13 rfl rfl ?_
  refine S.callVi (pc' := 18) dX12_isTrick_15 rfl cX12_244 (rk_X12_puts (g := g) (pg := aRun g pg vs i.toNat)) rfl L_177 (by decide) rfl (Nat.le_of_ble_eq_true rfl) (fun z15 M15 q15 => ?_)
  obtain ⟨z2, c2, f2⟩ := q15
  refine S.if_ne (pc' := 21) (tgt := 23) dX12_isTrick_18 (by decide) rfl (by unfold fp_rng; omega) (fun h18 => ?_) (fun h18 => ?_)
  · refine S.iload (pc' := 25) dX12_isTrick_23 rfl rfl ?_
    refine S.istore (pc' := 27) (LL' := [_, _, _, _, _, _, _, _]) dX12_isTrick_25 rfl (by decide) rfl rfl ?_
    refine istrick_loop hp hr ht hx hi.1 hj hP hg hvo hv hd (by omega) (j.toNat + 1) i _ (by omega) (by omega) (by omega) (f1.trans f2.toT) ?_
    rw [show (i - i).toNat = 0 by omega]
    exact c2
  · refine S.iconst (pc' := 22) dX12_isTrick_21 rfl ?_
    refine S.zret dX12_isTrick_22 rfl (by first | exact Or.inl rfl | exact Or.inr rfl | omega) ?_
    exact ⟨Or.inr ⟨rfl, fun q9 => q9.1 (by omega)⟩, f1.trans f2.toT⟩
theorem mtrick_l {p r t w i j : Int} (hp : 0 ≤ p ∧ p < 4) (hr : 0 ≤ r ∧ r < g.1) (ht : 0 ≤ t ∧ t < g.1) (hw : 0 ≤ w ∧ w ≤ 2) (hi : 0 ≤ i ∧ i ≤ j) (hj : j ≤ vs.length) (ho : OK g pg vs nt im sh) (hcs : MS M tp fl g pg vs nt im sh tn) {Q : Int → fp_Mem → Prop} : ∀ (n : Nat) (x : Int) (N : fp_Mem), (g.2.1 - x).toNat = n → 0 ≤ x → x ≤ g.2.1 → frT M N → (∀ O, frT M O → aTl g pg vs p r t i j n x ≠ -4 → Q (if w = 0 then i else if w = 1 then j else aTl g pg vs p r t i j n x) O) → (∀ O, frT M O → aTl g pg vs p r t i j n x = -4 → fp_S l G 7 kX12_trick 139 [some (rV G 177), some (iV p), some (iV r), some (iV t), some (iV w), some (iV i), some (iV j), some (iV g.2.1)] [] O (qI Q)) →
    fp_S l G 7 kX12_trick 84 [some (rV G 177), some (iV p), some (iV r), some (iV t), some (iV w), some (iV i), some (iV j), some (iV x)] [] N (qI Q) := by
  obtain ⟨-, hd, hcl, hv, -⟩ := hcs
  have hv0 : mvIs M vs := hv
  obtain ⟨hg, hP, hvo, -⟩ := ho
  have hg2 := hg.2.1
  have hl := hv.2.1
  intro n
  induction n with
  | zero =>
    intro x N h x0 x1 hf hA hB
    have hd1 := (hf.md hd).2.1
    have ex : x = g.2.1 := by omega
    subst ex
    refine S.iload (pc' := 86) dX12_trick_84 rfl rfl ?_
    refine S.aload_n (pc' := 87) dX12_trick_86 rfl rfl rfl ?_
    refine S.getI (pc' := 90) dX12_trick_87 rfl fX12_184 L_177 ?_
    refine S.icmp_ge (pc' := 93) (tgt := 139) dX12_trick_90 (by decide) rfl (by unfold fp_rng; omega) (by unfold fp_rng; omega) (fun h90 => ?_) (fun h90 => ?_)
    · exact hB _ hf rfl
    · exfalso; omega
  | succ n ih =>
    intro x N h x0 x1 hf hA hB
    have hd' := hf.md hd
    have hd1 := hd'.2.1
    have hv' := hf.mv hv0
    have hc' := hf.mp0 hg hP hcl
    have es : aTl g pg vs p r t i j (n + 1) x = if aIsT g pg vs p r t i j x then x else aTl g pg vs p r t i j n (x + 1) := rfl
    rw [es] at hA hB
    refine S.iload (pc' := 86) dX12_trick_84 rfl rfl ?_
    refine S.aload_n (pc' := 87) dX12_trick_86 rfl rfl rfl ?_
    refine S.getI (pc' := 90) dX12_trick_87 rfl fX12_184 L_177 ?_
    refine S.icmp_ge (pc' := 93) (tgt := 139) dX12_trick_90 (by decide) rfl (by unfold fp_rng; omega) (by unfold fp_rng; omega) (fun h90 => ?_) (fun h90 => ?_)
    · exfalso; omega
    · refine S.aload_n (pc' := 94) dX12_trick_93 rfl rfl rfl ?_
      refine S.iload_n (pc' := 95) dX12_trick_94 rfl rfl rfl ?_
      refine S.iload_n (pc' := 96) dX12_trick_95 rfl rfl rfl ?_
      refine S.iload_n (pc' := 97) dX12_trick_96 rfl rfl rfl ?_
      refine S.iload (pc' := 99) dX12_trick_97 rfl rfl ?_
      refine S.iload (pc' := 101) dX12_trick_99 rfl rfl ?_
      refine S.iload (pc' := 103) dX12_trick_101 rfl rfl ?_
      refine S.callVi (pc' := 106) dX12_trick_103 rfl cX12_273 (rk_X12_isTrick (g := g) (pg := pg) (vs := vs) hp hr ht ⟨x0, by omega⟩ hi hj hc' hP hg hvo hv' hd') rfl L_177 (by decide) rfl (Nat.le_of_ble_eq_true rfl) (fun z103 M103 q103 => ?_)
      obtain ⟨b9, f9⟩ := q103
      refine S.if_eq (pc' := 109) (tgt := 133) dX12_trick_106 (by decide) rfl (by unfold fp_rng; omega) (fun h106 => ?_) (fun h106 => ?_)
      · refine S.iinc (pc' := 136) (LL' := [_, _, _, _, _, _, _, _]) dX12_trick_133 rfl (by decide) rfl rfl rfl ?_
        refine S.goto (pc' := 84) dX12_trick_136 (by decide) ?_
        have hn : ¬ aIsT g pg vs p r t i j x := by
          rcases b9 with q | q
          · exact absurd q.1 (by omega)
          · exact q.2
        rw [if_neg hn] at hA hB
        exact ih _ _ (by omega) (by omega) (by omega) (hf.trans f9) hA hB
      · refine S.iload (pc' := 111) dX12_trick_109 rfl rfl ?_
        refine S.if_ne (pc' := 114) (tgt := 119) dX12_trick_111 (by decide) rfl (by unfold fp_rng; omega) (fun h111 => ?_) (fun h111 => ?_)
        · refine S.iload (pc' := 121) dX12_trick_119 rfl rfl ?_
          refine S.iconst (pc' := 122) dX12_trick_121 rfl ?_
          refine S.icmp_ne (pc' := 125) (tgt := 130) dX12_trick_122 (by decide) rfl (by unfold fp_rng; omega) (by unfold fp_rng; omega) (fun h122 => ?_) (fun h122 => ?_)
          · refine S.iload (pc' := 132) dX12_trick_130 rfl rfl ?_
            refine S.iret dX12_trick_132 rfl ?_
            have hn : aIsT g pg vs p r t i j x := by
              rcases b9 with q | q
              · exact q.2
              · exact absurd q.1 (by omega)
            rw [if_pos hn] at hA
            have hz := hA _ (hf.trans f9) (by omega)
            first | (rw [if_pos (by omega)] at hz; exact hz) | (rw [if_neg (by omega), if_pos (by omega)] at hz; exact hz) | (rw [if_neg (by omega), if_neg (by omega)] at hz; exact hz)
          · refine S.iload (pc' := 127) dX12_trick_125 rfl rfl ?_
            refine S.goto (pc' := 132) dX12_trick_127 (by decide) ?_
            refine S.iret dX12_trick_132 rfl ?_
            have hn : aIsT g pg vs p r t i j x := by
              rcases b9 with q | q
              · exact q.2
              · exact absurd q.1 (by omega)
            rw [if_pos hn] at hA
            have hz := hA _ (hf.trans f9) (by omega)
            first | (rw [if_pos (by omega)] at hz; exact hz) | (rw [if_neg (by omega), if_pos (by omega)] at hz; exact hz) | (rw [if_neg (by omega), if_neg (by omega)] at hz; exact hz)
        · refine S.iload (pc' := 116) dX12_trick_114 rfl rfl ?_
          refine S.goto (pc' := 132) dX12_trick_116 (by decide) ?_
          refine S.iret dX12_trick_132 rfl ?_
          have hn : aIsT g pg vs p r t i j x := by
            rcases b9 with q | q
            · exact q.2
            · exact absurd q.1 (by omega)
          rw [if_pos hn] at hA
          have hz := hA _ (hf.trans f9) (by omega)
          first | (rw [if_pos (by omega)] at hz; exact hz) | (rw [if_neg (by omega), if_pos (by omega)] at hz; exact hz) | (rw [if_neg (by omega), if_neg (by omega)] at hz; exact hz)
theorem mtrick_j {p r t w i : Int} (hp : 0 ≤ p ∧ p < 4) (hr : 0 ≤ r ∧ r < g.1) (ht : 0 ≤ t ∧ t < g.1) (hw : 0 ≤ w ∧ w ≤ 2) (hi : 0 ≤ i) (ho : OK g pg vs nt im sh) (hcs : MS M tp fl g pg vs nt im sh tn) {Q : Int → fp_Mem → Prop} : ∀ (n : Nat) (j : Int) (N : fp_Mem) (o7 : Option Value), ((vs.length : Int) + 1 - j).toNat = n → i ≤ j → j ≤ vs.length + 1 → frT M N → (∀ O z, frT M O → aTj g pg vs p r t w i n j = some z → Q z O) → (∀ O o6 o7, frT M O → aTj g pg vs p r t w i n j = none → fp_S l G 7 kX12_trick 145 [some (rV G 177), some (iV p), some (iV r), some (iV t), some (iV w), some (iV i), o6, o7] [] O (qI Q)) →
    fp_S l G 7 kX12_trick 72 [some (rV G 177), some (iV p), some (iV r), some (iV t), some (iV w), some (iV i), some (iV j), o7] [] N (qI Q) := by
  have hv0 : mvIs M vs := hcs.2.2.2.1
  have hl := hv0.2.1
  intro n
  induction n with
  | zero =>
    intro j N o7 h j0 j1 hf hA hB
    have hl1 := (hf.mv hv0).1
    refine S.iload (pc' := 74) dX12_trick_72 rfl rfl ?_
    refine S.aload_n (pc' := 75) dX12_trick_74 rfl rfl rfl ?_
    refine S.callVe (pc' := 78) dX12_trick_75 rfl cX12_225 (ok_X12_visits) rfl L_177 (by decide) rfl (Nat.le_of_ble_eq_true rfl) ?_
    refine S.icmp_gt (pc' := 81) (tgt := 145) dX12_trick_78 (by decide) rfl (by unfold fp_rng; omega) (by unfold fp_rng; omega) (fun h78 => ?_) (fun h78 => ?_)
    · exact hB _ _ _ hf rfl
    · exfalso; omega
  | succ n ih =>
    intro j N o7 h j0 j1 hf hA hB
    have hl1 := (hf.mv hv0).1
    have es : aTj g pg vs p r t w i (n + 1) j = if aTl g pg vs p r t i j g.2.1.toNat 0 ≠ -4 then some (if w = 0 then i else if w = 1 then j else aTl g pg vs p r t i j g.2.1.toNat 0) else aTj g pg vs p r t w i n (j + 1) := rfl
    have htail : ∀ O, frT M O → (∀ O z, frT M O → aTj g pg vs p r t w i n (j + 1) = some z → Q z O) → (∀ O o6 o7, frT M O → aTj g pg vs p r t w i n (j + 1) = none → fp_S l G 7 kX12_trick 145 [some (rV G 177), some (iV p), some (iV r), some (iV t), some (iV w), some (iV i), o6, o7] [] O (qI Q)) → fp_S l G 7 kX12_trick 139 [some (rV G 177), some (iV p), some (iV r), some (iV t), some (iV w), some (iV i), some (iV j), some (iV g.2.1)] [] O (qI Q) := by
      intro O fO hA2 hB2
      refine S.iinc (pc' := 142) (LL' := [_, _, _, _, _, _, _, _]) dX12_trick_139 rfl (by decide) rfl rfl rfl ?_
      refine S.goto (pc' := 72) dX12_trick_142 (by decide) ?_
      exact ih _ _ _ (by omega) (by omega) (by omega) fO hA2 hB2
    rw [es] at hA hB
    refine S.iload (pc' := 74) dX12_trick_72 rfl rfl ?_
    refine S.aload_n (pc' := 75) dX12_trick_74 rfl rfl rfl ?_
    refine S.callVe (pc' := 78) dX12_trick_75 rfl cX12_225 (ok_X12_visits) rfl L_177 (by decide) rfl (Nat.le_of_ble_eq_true rfl) ?_
    refine S.icmp_gt (pc' := 81) (tgt := 145) dX12_trick_78 (by decide) rfl (by unfold fp_rng; omega) (by unfold fp_rng; omega) (fun h78 => ?_) (fun h78 => ?_)
    · exfalso; omega
    · refine S.iconst (pc' := 82) dX12_trick_81 rfl ?_
      refine S.istore (pc' := 84) (LL' := [_, _, _, _, _, _, _, _]) dX12_trick_82 rfl (by decide) rfl rfl ?_
      refine mtrick_l hp hr ht hw ⟨hi, j0⟩ (by omega) ho hcs g.2.1.toNat 0 _ (by omega) (by omega) ho.1.2.1.1 hf (fun O fO hq => hA O _ fO (by rw [if_pos hq])) (fun O fO hq => ?_)
      rw [if_neg (fun q => q hq)] at hA hB
      exact htail O fO hA hB
theorem mtrick_i {p r t w : Int} (hp : 0 ≤ p ∧ p < 4) (hr : 0 ≤ r ∧ r < g.1) (ht : 0 ≤ t ∧ t < g.1) (hw : 0 ≤ w ∧ w ≤ 2) (ho : OK g pg vs nt im sh) (hcs : MS M tp fl g pg vs nt im sh tn) : ∀ (n : Nat) (i : Int) (N : fp_Mem) (o6 o7 : Option Value), ((vs.length : Int) + 1 - i).toNat = n → 0 ≤ i → i ≤ vs.length + 1 → frT M N →
    fp_S l G 7 kX12_trick 59 [some (rV G 177), some (iV p), some (iV r), some (iV t), some (iV w), some (iV i), o6, o7] [] N (qI fun z O => z = aTi g pg vs p r t w n i ∧ MS O tp fl g pg vs nt im sh tn ∧ frD M O) := by
  have hv0 : mvIs M vs := hcs.2.2.2.1
  have hl := hv0.2.1
  intro n
  induction n with
  | zero =>
    intro i N o6 o7 h i0 i1 hf
    have hl1 := (hf.mv hv0).1
    refine S.iload (pc' := 61) dX12_trick_59 rfl rfl ?_
    refine S.aload_n (pc' := 62) dX12_trick_61 rfl rfl rfl ?_
    refine S.callVe (pc' := 65) dX12_trick_62 rfl cX12_225 (ok_X12_visits) rfl L_177 (by decide) rfl (Nat.le_of_ble_eq_true rfl) ?_
    refine S.icmp_gt (pc' := 68) (tgt := 151) dX12_trick_65 (by decide) rfl (by unfold fp_rng; omega) (by unfold fp_rng; omega) (fun h65 => ?_) (fun h65 => ?_)
    · refine S.bipush (pc' := 153) dX12_trick_151 rfl (by decide) ?_
      refine S.iret dX12_trick_153 rfl ?_
      exact ⟨rfl, hcs.tri ho hf, hf.d⟩
    · exfalso; omega
  | succ n ih =>
    intro i N o6 o7 h i0 i1 hf
    have hl1 := (hf.mv hv0).1
    have es : aTi g pg vs p r t w (n + 1) i = match aTj g pg vs p r t w i ((vs.length : Int) + 1 - i).toNat i with
      | some z => z
      | none => aTi g pg vs p r t w n (i + 1) := rfl
    have htail : ∀ O o6 o7, frT M O → fp_S l G 7 kX12_trick 145 [some (rV G 177), some (iV p), some (iV r), some (iV t), some (iV w), some (iV i), o6, o7] [] O (qI fun z O => z = aTi g pg vs p r t w n (i + 1) ∧ MS O tp fl g pg vs nt im sh tn ∧ frD M O) := by
      intro O o6 o7 fO
      refine S.iinc (pc' := 148) (LL' := [_, _, _, _, _, _, _, _]) dX12_trick_145 rfl (by decide) rfl rfl rfl ?_
      refine S.goto (pc' := 59) dX12_trick_148 (by decide) ?_
      exact ih _ _ _ _ (by omega) (by omega) (by omega) fO
    refine S.iload (pc' := 61) dX12_trick_59 rfl rfl ?_
    refine S.aload_n (pc' := 62) dX12_trick_61 rfl rfl rfl ?_
    refine S.callVe (pc' := 65) dX12_trick_62 rfl cX12_225 (ok_X12_visits) rfl L_177 (by decide) rfl (Nat.le_of_ble_eq_true rfl) ?_
    refine S.icmp_gt (pc' := 68) (tgt := 151) dX12_trick_65 (by decide) rfl (by unfold fp_rng; omega) (by unfold fp_rng; omega) (fun h65 => ?_) (fun h65 => ?_)
    · exfalso; omega
    · refine S.iload (pc' := 70) dX12_trick_68 rfl rfl ?_
      refine S.istore (pc' := 72) (LL' := [_, _, _, _, _, _, _, _]) dX12_trick_70 rfl (by decide) rfl rfl ?_
      exact mtrick_j hp hr ht hw i0 ho hcs _ i _ _ rfl (by omega) (by omega) hf (fun O z fO hz => ⟨by rw [es, hz], hcs.tri ho fO, fO.d⟩) (fun O o6 o7 fO hz => by rw [es, hz]; exact htail O o6 o7 fO)
theorem mm_trick {p r t w : Int} (hc : MS M tp fl g pg vs nt im sh tn) (ho : OK g pg vs nt im sh) (hp : fp_rng p) (hr : fp_rng r) (ht : fp_rng t) (hw : fp_rng w) : fp_Ok l G 7 kX12_trick [rV G 177, iV p, iV r, iV t, iV w] M (qI fun z N => z = A_trick g pg vs p r t w ∧ MS N tp fl g pg vs nt im sh tn ∧ frD M N) := by
  have hcs := hc
  obtain ⟨-, hd, hcl, hv, -⟩ := hc
  have ho' := ho
  obtain ⟨hg, hP, hvo, -⟩ := ho
  have hg1 := hg.1
  have hw' := hw
  unfold fp_rng at hw'
  refine fp_Ok.of (r := 3) rfl (Nat.le_of_ble_eq_true rfl) rfl ?_
  unfold A_trick
  by_cases hin : (0 ≤ p ∧ p < 4) ∧ (0 ≤ r ∧ r < g.1) ∧ (0 ≤ t ∧ t < g.1) ∧ t ≠ r ∧ (0 ≤ w ∧ w ≤ 2)
  · rw [if_neg (fun q => q hin)]
    have c1 := hcl.1 r hin.2.1.1 hin.2.1.2
    rw [show (0 + r).toNat = r.toNat by omega] at c1
    have c2 := hP.1 r hin.2.1.1 hin.2.1.2
    have hg2 := hg.2.1
    by_cases hq : pg.1 r = p
    · rw [if_neg (fun q => q hq)]
      refine S.iload_n (pc' := 1) dX12_trick_0 rfl rfl rfl ?_
      refine S.callSi (pc' := 4) dX12_trick_1 rfl cX12_228 (bk_X12_isOne) rfl (by decide) rfl (Nat.le_of_ble_eq_true rfl) (fun z1 M1 q1 => ?_)
      obtain ⟨b1, rfl⟩ := q1
      refine S.if_eq (pc' := 7) (tgt := 41) dX12_trick_4 (by decide) rfl (by unfold fp_rng; omega) (fun h4 => ?_) (fun h4 => ?_)
      · exfalso; omega
      · refine S.aload_n (pc' := 8) dX12_trick_7 rfl rfl rfl ?_
        refine S.iload_n (pc' := 9) dX12_trick_8 rfl rfl rfl ?_
        refine S.callVi (pc' := 12) dX12_trick_9 rfl cX12_205 (bk_X12_isThing) rfl L_177 (by decide) rfl (Nat.le_of_ble_eq_true rfl) (fun z9 M9 q9 => ?_)
        obtain ⟨b9, rfl⟩ := q9
        refine S.if_eq (pc' := 15) (tgt := 41) dX12_trick_12 (by decide) rfl (by unfold fp_rng; omega) (fun h12 => ?_) (fun h12 => ?_)
        · exfalso; omega
        · refine S.aload_n (pc' := 16) dX12_trick_15 rfl rfl rfl ?_
          refine S.iload_n (pc' := 17) dX12_trick_16 rfl rfl rfl ?_
          refine S.callVi (pc' := 20) dX12_trick_17 rfl cX12_205 (bk_X12_isThing) rfl L_177 (by decide) rfl (Nat.le_of_ble_eq_true rfl) (fun z17 M17 q17 => ?_)
          obtain ⟨b17, rfl⟩ := q17
          refine S.if_eq (pc' := 23) (tgt := 41) dX12_trick_20 (by decide) rfl (by unfold fp_rng; omega) (fun h20 => ?_) (fun h20 => ?_)
          · exfalso; omega
          · refine S.iload_n (pc' := 24) dX12_trick_23 rfl rfl rfl ?_
            refine S.iload_n (pc' := 25) dX12_trick_24 rfl rfl rfl ?_
            refine S.icmp_eq (pc' := 28) (tgt := 41) dX12_trick_25 (by decide) rfl hr ht (fun h25 => ?_) (fun h25 => ?_)
            · exfalso; omega
            · refine S.iload (pc' := 30) dX12_trick_28 rfl rfl ?_
              refine S.i2l (pc' := 31) dX12_trick_30 rfl (by unfold fp_rng; omega) ?_
              refine S.lconst (pc' := 32) (w := 0) dX12_trick_31 rfl rfl ?_
              refine S.ldc2 (pc' := 35) (v := 2) dX12_trick_32 rfl lX12_271 (by decide) ?_
              refine S.callSi (pc' := 38) dX12_trick_35 rfl cX12_94 (bk_X12_in) rfl (by decide) rfl (Nat.le_of_ble_eq_true rfl) (fun z35 M35 q35 => ?_)
              obtain ⟨b35, rfl⟩ := q35
              refine S.if_ne (pc' := 41) (tgt := 43) dX12_trick_38 (by decide) rfl (by unfold fp_rng; omega) (fun h38 => ?_) (fun h38 => ?_)
              · refine S.aload_n (pc' := 44) dX12_trick_43 rfl rfl rfl ?_
                refine S.getR (pc' := 47) dX12_trick_44 rfl fX12_7 L_177 rf_177_0 ?_
                refine S.iload_n (pc' := 48) dX12_trick_47 rfl rfl rfl ?_
                refine S.iald (pc' := 49) dX12_trick_48 rfl L_178 (by omega) (by omega) ?_
                refine S.iload_n (pc' := 50) dX12_trick_49 rfl rfl rfl ?_
                refine S.icmp_eq (pc' := 53) (tgt := 56) dX12_trick_50 (by decide) rfl (by unfold fp_rng; omega) (by unfold fp_rng; omega) (fun h50 => ?_) (fun h50 => ?_)
                · refine S.iconst (pc' := 57) dX12_trick_56 rfl ?_
                  refine S.istore (pc' := 59) (LL' := [_, _, _, _, _, _, _, _]) dX12_trick_57 rfl (by decide) rfl rfl ?_
                  exact mtrick_i hin.1 hin.2.1 hin.2.2.1 hin.2.2.2.2 ho' hcs (vs.length + 1) 0 _ none none (by omega) (by omega) (by omega) (frT.refl _)
                · exfalso; omega
              · exfalso; omega
    · rw [if_pos hq]
      refine S.iload_n (pc' := 1) dX12_trick_0 rfl rfl rfl ?_
      refine S.callSi (pc' := 4) dX12_trick_1 rfl cX12_228 (bk_X12_isOne) rfl (by decide) rfl (Nat.le_of_ble_eq_true rfl) (fun z1 M1 q1 => ?_)
      obtain ⟨b1, rfl⟩ := q1
      refine S.if_eq (pc' := 7) (tgt := 41) dX12_trick_4 (by decide) rfl (by unfold fp_rng; omega) (fun h4 => ?_) (fun h4 => ?_)
      · exfalso; omega
      · refine S.aload_n (pc' := 8) dX12_trick_7 rfl rfl rfl ?_
        refine S.iload_n (pc' := 9) dX12_trick_8 rfl rfl rfl ?_
        refine S.callVi (pc' := 12) dX12_trick_9 rfl cX12_205 (bk_X12_isThing) rfl L_177 (by decide) rfl (Nat.le_of_ble_eq_true rfl) (fun z9 M9 q9 => ?_)
        obtain ⟨b9, rfl⟩ := q9
        refine S.if_eq (pc' := 15) (tgt := 41) dX12_trick_12 (by decide) rfl (by unfold fp_rng; omega) (fun h12 => ?_) (fun h12 => ?_)
        · exfalso; omega
        · refine S.aload_n (pc' := 16) dX12_trick_15 rfl rfl rfl ?_
          refine S.iload_n (pc' := 17) dX12_trick_16 rfl rfl rfl ?_
          refine S.callVi (pc' := 20) dX12_trick_17 rfl cX12_205 (bk_X12_isThing) rfl L_177 (by decide) rfl (Nat.le_of_ble_eq_true rfl) (fun z17 M17 q17 => ?_)
          obtain ⟨b17, rfl⟩ := q17
          refine S.if_eq (pc' := 23) (tgt := 41) dX12_trick_20 (by decide) rfl (by unfold fp_rng; omega) (fun h20 => ?_) (fun h20 => ?_)
          · exfalso; omega
          · refine S.iload_n (pc' := 24) dX12_trick_23 rfl rfl rfl ?_
            refine S.iload_n (pc' := 25) dX12_trick_24 rfl rfl rfl ?_
            refine S.icmp_eq (pc' := 28) (tgt := 41) dX12_trick_25 (by decide) rfl hr ht (fun h25 => ?_) (fun h25 => ?_)
            · exfalso; omega
            · refine S.iload (pc' := 30) dX12_trick_28 rfl rfl ?_
              refine S.i2l (pc' := 31) dX12_trick_30 rfl (by unfold fp_rng; omega) ?_
              refine S.lconst (pc' := 32) (w := 0) dX12_trick_31 rfl rfl ?_
              refine S.ldc2 (pc' := 35) (v := 2) dX12_trick_32 rfl lX12_271 (by decide) ?_
              refine S.callSi (pc' := 38) dX12_trick_35 rfl cX12_94 (bk_X12_in) rfl (by decide) rfl (Nat.le_of_ble_eq_true rfl) (fun z35 M35 q35 => ?_)
              obtain ⟨b35, rfl⟩ := q35
              refine S.if_ne (pc' := 41) (tgt := 43) dX12_trick_38 (by decide) rfl (by unfold fp_rng; omega) (fun h38 => ?_) (fun h38 => ?_)
              · refine S.aload_n (pc' := 44) dX12_trick_43 rfl rfl rfl ?_
                refine S.getR (pc' := 47) dX12_trick_44 rfl fX12_7 L_177 rf_177_0 ?_
                refine S.iload_n (pc' := 48) dX12_trick_47 rfl rfl rfl ?_
                refine S.iald (pc' := 49) dX12_trick_48 rfl L_178 (by omega) (by omega) ?_
                refine S.iload_n (pc' := 50) dX12_trick_49 rfl rfl rfl ?_
                refine S.icmp_eq (pc' := 53) (tgt := 56) dX12_trick_50 (by decide) rfl (by unfold fp_rng; omega) (by unfold fp_rng; omega) (fun h50 => ?_) (fun h50 => ?_)
                · exfalso; omega
                · refine S.bipush (pc' := 55) dX12_trick_53 rfl (by decide) ?_
                  refine S.iret dX12_trick_55 rfl ?_
                  exact ⟨rfl, hcs, frD.refl _⟩
              · exfalso; omega
  · rw [if_pos hin]
    refine S.iload_n (pc' := 1) dX12_trick_0 rfl rfl rfl ?_
    refine S.callSi (pc' := 4) dX12_trick_1 rfl cX12_228 (bk_X12_isOne) rfl (by decide) rfl (Nat.le_of_ble_eq_true rfl) (fun z1 M1 q1 => ?_)
    obtain ⟨b1, rfl⟩ := q1
    refine S.if_eq (pc' := 7) (tgt := 41) dX12_trick_4 (by decide) rfl (by unfold fp_rng; omega) (fun h4 => ?_) (fun h4 => ?_)
    · refine S.iconst (pc' := 42) dX12_trick_41 rfl ?_
      refine S.iret dX12_trick_42 rfl ?_
      exact ⟨rfl, hcs, frD.refl _⟩
    · refine S.aload_n (pc' := 8) dX12_trick_7 rfl rfl rfl ?_
      refine S.iload_n (pc' := 9) dX12_trick_8 rfl rfl rfl ?_
      refine S.callVi (pc' := 12) dX12_trick_9 rfl cX12_205 (bk_X12_isThing) rfl L_177 (by decide) rfl (Nat.le_of_ble_eq_true rfl) (fun z9 M9 q9 => ?_)
      obtain ⟨b9, rfl⟩ := q9
      refine S.if_eq (pc' := 15) (tgt := 41) dX12_trick_12 (by decide) rfl (by unfold fp_rng; omega) (fun h12 => ?_) (fun h12 => ?_)
      · refine S.iconst (pc' := 42) dX12_trick_41 rfl ?_
        refine S.iret dX12_trick_42 rfl ?_
        exact ⟨rfl, hcs, frD.refl _⟩
      · refine S.aload_n (pc' := 16) dX12_trick_15 rfl rfl rfl ?_
        refine S.iload_n (pc' := 17) dX12_trick_16 rfl rfl rfl ?_
        refine S.callVi (pc' := 20) dX12_trick_17 rfl cX12_205 (bk_X12_isThing) rfl L_177 (by decide) rfl (Nat.le_of_ble_eq_true rfl) (fun z17 M17 q17 => ?_)
        obtain ⟨b17, rfl⟩ := q17
        refine S.if_eq (pc' := 23) (tgt := 41) dX12_trick_20 (by decide) rfl (by unfold fp_rng; omega) (fun h20 => ?_) (fun h20 => ?_)
        · refine S.iconst (pc' := 42) dX12_trick_41 rfl ?_
          refine S.iret dX12_trick_42 rfl ?_
          exact ⟨rfl, hcs, frD.refl _⟩
        · refine S.iload_n (pc' := 24) dX12_trick_23 rfl rfl rfl ?_
          refine S.iload_n (pc' := 25) dX12_trick_24 rfl rfl rfl ?_
          refine S.icmp_eq (pc' := 28) (tgt := 41) dX12_trick_25 (by decide) rfl hr ht (fun h25 => ?_) (fun h25 => ?_)
          · refine S.iconst (pc' := 42) dX12_trick_41 rfl ?_
            refine S.iret dX12_trick_42 rfl ?_
            exact ⟨rfl, hcs, frD.refl _⟩
          · refine S.iload (pc' := 30) dX12_trick_28 rfl rfl ?_
            refine S.i2l (pc' := 31) dX12_trick_30 rfl (by unfold fp_rng; omega) ?_
            refine S.lconst (pc' := 32) (w := 0) dX12_trick_31 rfl rfl ?_
            refine S.ldc2 (pc' := 35) (v := 2) dX12_trick_32 rfl lX12_271 (by decide) ?_
            refine S.callSi (pc' := 38) dX12_trick_35 rfl cX12_94 (bk_X12_in) rfl (by decide) rfl (Nat.le_of_ble_eq_true rfl) (fun z35 M35 q35 => ?_)
            obtain ⟨b35, rfl⟩ := q35
            refine S.if_ne (pc' := 41) (tgt := 43) dX12_trick_38 (by decide) rfl (by unfold fp_rng; omega) (fun h38 => ?_) (fun h38 => ?_)
            · exfalso; omega
            · refine S.iconst (pc' := 42) dX12_trick_41 rfl ?_
              refine S.iret dX12_trick_42 rfl ?_
              exact ⟨rfl, hcs, frD.refl _⟩
end TRI
end
section
/-! TRICK, the class -/
def frK (M N : fp_Mem) : Prop := ∀ a, (a < 37 ∨ (37 < a ∧ a < 41) ∨ (45 < a ∧ a < 106) ∨ 120 < a) → N a = M a
theorem frK.refl (M : fp_Mem) : frK M M := fun _ _ => rfl
theorem frK.trans {M N O : fp_Mem} (h1 : frK M N) (h2 : frK N O) : frK M O := fun a ha => (h2 a ha).trans (h1 a ha)
theorem frK.c {M N : fp_Mem} (h : frK M N) : frC M N := fun c hc => h c (by omega)
def tkIs (N : fp_Mem) (g : aGd) (pg : aPg) (vs : List aVt) (p r i : Int) (q : Nat) : Prop := ∀ x : Int, 0 ≤ x → x < g.2.1 → N 37 x.toNat = (aApp (aRun g pg vs i.toNat) p r x).1 ∧ ((aApp (aRun g pg vs i.toNat) p r x).1 ≠ 0 → clIs N (106 + 5 * x.toNat) g (aTk g pg vs p r i x q))
section CTR
variable {l : Launch} {G : fp_WG} {M N : fp_Mem} {tp tp' : List Int} {fl fl' : Int} {g : aGd} {pg pg' : aPg} {vs vs' : List aVt} {nt nt' : List Int} {im im' : aIm} {sh sh' : aSh} {tn tn' : Int} {k k2 : Nat}
theorem CS.trk (h : CS M tp fl g pg vs nt im sh tn) (e : frK M N) : CS N tp fl g pg vs nt im sh tn := h.kept (fun a ha => e a (by omega))
theorem ctry_loop {p r i : Int} (hp : 0 ≤ p ∧ p < 4) (hr : 0 ≤ r ∧ r < g.1) (hpr : pg.1 r = p) (hP : pgOk g pg) (hg : gOk g) (hvo : vsOk g vs) (hd : gdIs M 18 g) (hcl : clIs M 22 g pg) : ∀ (n : Nat) (x : Int) (N : fp_Mem), (g.2.1 - x).toNat < n → 0 ≤ x → x ≤ g.2.1 → frK M N → clIs N 41 g (aRun g pg vs i.toNat) → (∀ y : Int, 0 ≤ y → y < x → N 37 y.toNat = (aApp (aRun g pg vs i.toNat) p r y).1 ∧ clIs N (106 + 5 * y.toNat) g (aTk g pg vs p r i y 0)) →
    fp_S l G 4 kX8_tryTrick 14 [some (rV G 34), some (rV G 18), some (rV G 27), some (rV G 22), some (iV i), some (iV r), some (rV G 41), some (iV x)] [] N (qV fun O => tkIs O g pg vs p r i 0 ∧ frK M O) := by
  have hg1 := hg.1
  have hg2 := hg.2.1
  have hPi := aRun_ok hg hP hvo i.toNat
  intro n
  induction n with
  | zero => intro x N h; omega
  | succ n ih =>
    intro x N h x0 x1 hf hc hy
    have hd1 : N 18 1 = g.2.1 := by rw [hf 18 (by omega)]; exact hd.2.1
    have h01 := aApp_01 (aRun g pg vs i.toNat) p r x
    by_cases hlt : x < g.2.1
    · have ho1 := trk_o x0 (show x < 3 by omega)
      have hwr : ∀ O : fp_Mem, O 23 = M 23 → O 23 r.toNat = p := fun O e => by rw [e, ← hpr]; exact hcl.1 r hr.1 hr.2
      refine S.iload (pc' := 16) dX8_tryTrick_14 rfl rfl ?_
      refine S.aload_n (pc' := 17) dX8_tryTrick_16 rfl rfl rfl ?_
      refine S.getI (pc' := 20) dX8_tryTrick_17 rfl fX8_50 (gd_lay gd18) ?_
      refine S.icmp_ge (pc' := 23) (tgt := 69) dX8_tryTrick_20 (by decide) rfl (by unfold fp_rng; omega) (by unfold fp_rng; omega) (fun h20 => ?_) (fun h20 => ?_)
      · exfalso; omega
      · refine S.aload_n (pc' := 24) dX8_tryTrick_23 rfl rfl rfl ?_
        refine S.getR (pc' := 27) dX8_tryTrick_24 rfl fX8_17 L_34 rf_34_1 ?_
        refine S.iload (pc' := 29) dX8_tryTrick_27 rfl rfl ?_
        refine S.aald (pc' := 30) dX8_tryTrick_29 rfl L_36 (by decide) (by decide) (by omega) (by omega) (trk_r (by omega) (by omega)) ?_
        refine S.aload (pc' := 32) dX8_tryTrick_30 rfl rfl ?_
        refine S.callVv (pc' := 35) dX8_tryTrick_32 rfl cX8_36 (rk_X5_copyFrom (g := g) (pg := aRun g pg vs i.toNat) ho1 pl41 (by omega)) rfl (pl_lay (trk_o (by omega) (by omega))) (by decide) rfl (Nat.le_of_ble_eq_true rfl) (fun M32 q32 => ?_)
        obtain ⟨c1, f1⟩ := q32
        refine S.aload_n (pc' := 36) dX8_tryTrick_35 rfl rfl rfl ?_
        refine S.getR (pc' := 39) dX8_tryTrick_36 rfl fX8_20 L_34 rf_34_2 ?_
        refine S.iload (pc' := 41) dX8_tryTrick_39 rfl rfl ?_
        refine S.aload_n (pc' := 42) dX8_tryTrick_41 rfl rfl rfl ?_
        refine S.getR (pc' := 45) dX8_tryTrick_42 rfl fX8_17 L_34 rf_34_1 ?_
        refine S.iload (pc' := 47) dX8_tryTrick_45 rfl rfl ?_
        refine S.aald (pc' := 48) dX8_tryTrick_47 rfl L_36 (by decide) (by decide) (by omega) (by omega) (trk_r (by omega) (by omega)) ?_
        refine S.aload_n (pc' := 49) dX8_tryTrick_48 rfl rfl rfl ?_
        refine S.getR (pc' := 52) dX8_tryTrick_49 rfl fX8_56 (pl_lay pl22) (pl_r0 pl22) ?_
        refine S.iload (pc' := 54) dX8_tryTrick_52 rfl rfl ?_
        refine S.iald (pc' := 55) dX8_tryTrick_54 rfl (pl_a0 pl22) (by omega) (by omega) ?_
        refine S.iload (pc' := 57) dX8_tryTrick_55 rfl rfl ?_
        refine S.iload (pc' := 59) dX8_tryTrick_57 rfl rfl ?_
        rw [hwr M32 (by rw [f1 23 (by omega), hf 23 (by omega)])]
        refine S.callVi (pc' := 62) dX8_tryTrick_59 rfl cX8_59 (rk_X5_append (g := g) (pg := aRun g pg vs i.toNat) ho1) rfl (pl_lay (trk_o (by omega) (by omega))) (by decide) rfl (Nat.le_of_ble_eq_true rfl) (fun z59 M59 q59 => ?_)
        obtain ⟨z2, c2, f2⟩ := q59
        refine S.zast (pc' := 63) dX8_tryTrick_62 rfl L_37 (by omega) (by omega) (by first | exact Or.inl rfl | exact Or.inr rfl | omega) ?_
        refine S.iinc (pc' := 66) (LL' := [_, _, _, _, _, _, _, _]) dX8_tryTrick_63 rfl (by decide) rfl rfl rfl ?_
        refine S.goto (pc' := 14) dX8_tryTrick_66 (by decide) ?_
        refine ih _ _ (by omega) (by omega) (by omega) (fun a ha => by rw [fp_up_ne (by omega), f2 a (by omega), f1 a (by omega)]; exact hf a ha) (hc.kept (fun a q1 q2 => by rw [fp_up_ne (by omega), f2 a (by omega), f1 a (by omega)])) (fun y y0 y1 => ?_)
        by_cases e : y = x
        · subst e; exact ⟨by rw [fp_up_at, fp_upf_at]; exact z2, c2.kept (fun a q1 q2 => fp_up_ne (by omega))⟩
        · obtain ⟨u1, u2⟩ := hy y y0 (by omega)
          exact ⟨by rw [fp_up_at, fp_upf_ne (by omega), f2 37 (by omega), f1 37 (by omega)]; exact u1, u2.kept (fun a q1 q2 => by rw [fp_up_ne (by omega), f2 a (by omega), f1 a (by omega)])⟩
    · refine S.iload (pc' := 16) dX8_tryTrick_14 rfl rfl ?_
      refine S.aload_n (pc' := 17) dX8_tryTrick_16 rfl rfl rfl ?_
      refine S.getI (pc' := 20) dX8_tryTrick_17 rfl fX8_50 (gd_lay gd18) ?_
      refine S.icmp_ge (pc' := 23) (tgt := 69) dX8_tryTrick_20 (by decide) rfl (by unfold fp_rng; omega) (by unfold fp_rng; omega) (fun h20 => ?_) (fun h20 => ?_)
      · refine S.vret dX8_tryTrick_69 rfl ?_
        exact ⟨fun y y0 y1 => ⟨(hy y y0 (by omega)).1, fun _ => (hy y y0 (by omega)).2⟩, hf⟩
      · exfalso; omega
theorem rk_X8_tryTrick {p r i : Int} (hp : 0 ≤ p ∧ p < 4) (hr : 0 ≤ r ∧ r < g.1) (hpr : pg.1 r = p) (hi : 0 ≤ i ∧ i ≤ vs.length) (hP : pgOk g pg) (hg : gOk g) (hvo : vsOk g vs) (hd : gdIs M 18 g) (hcl : clIs M 22 g pg) (hv : vsIs M 27 vs) : fp_Ok l G 4 kX8_tryTrick [rV G 34, rV G 18, rV G 27, rV G 22, iV i, iV r] M (qV fun O => tkIs O g pg vs p r i 0 ∧ frK M O) := by
  have hg2 := hg.2.1
  refine fp_Ok.of (r := 2) rfl (Nat.le_of_ble_eq_true rfl) rfl ?_
  refine S.aload_n (pc' := 1) dX8_tryTrick_0 rfl rfl rfl ?_
  refine S.aload_n (pc' := 2) dX8_tryTrick_1 rfl rfl rfl ?_
  refine S.aload_n (pc' := 3) dX8_tryTrick_2 rfl rfl rfl ?_
  refine S.aload_n (pc' := 4) dX8_tryTrick_3 rfl rfl rfl ?_
  refine S.iload (pc' := 6) dX8_tryTrick_4 rfl rfl ?_
  refine S.callVr (pc' := 9) dX8_tryTrick_6 rfl cX8_46 (rk_X8_behind (g := g) (pg := pg) (vs := vs) gd18 vs27 pl22) rfl L_34 (by decide) rfl (Nat.le_of_ble_eq_true rfl) (fun z6 M6 q6 => ?_)
  obtain ⟨rfl, c1, f1⟩ := q6
  refine S.astore (pc' := 11) (LL' := [_, _, _, _, _, _, _, _]) dX8_tryTrick_9 rfl (by decide) rfl rfl ?_
  refine S.iconst (pc' := 12) dX8_tryTrick_11 rfl ?_
  refine S.istore (pc' := 14) (LL' := [_, _, _, _, _, _, _, _]) dX8_tryTrick_12 rfl (by decide) rfl rfl ?_
  exact ctry_loop hp hr hpr hP hg hvo hd hcl (g.2.1.toNat + 1) 0 _ (by omega) (by omega) (by omega) (fun a ha => f1 a (by omega)) c1 (fun y y0 y1 => by omega)
theorem cgo_loop {p r i j : Int} (hp : 0 ≤ p ∧ p < 4) (hr : 0 ≤ r ∧ r < g.1) (hi : 0 ≤ i ∧ i ≤ j) (hj : j ≤ vs.length) (hP : pgOk g pg) (hg : gOk g) (hvo : vsOk g vs) (hd : gdIs M 18 g) (hv : vsIs M 27 vs) : ∀ (n : Nat) (x : Int) (N : fp_Mem), (g.2.1 - x).toNat < n → 0 ≤ x → x ≤ g.2.1 → frK M N → (∀ y : Int, 0 ≤ y → y < g.2.1 → N 37 y.toNat = (aApp (aRun g pg vs i.toNat) p r y).1 ∧ ((aApp (aRun g pg vs i.toNat) p r y).1 ≠ 0 → clIs N (106 + 5 * y.toNat) g (if y < x then aTk g pg vs p r i y (j + 1 - i).toNat else aTk g pg vs p r i y (j - i).toNat))) →
    fp_S l G 3 kX8_goOnWithTrick 3 [some (rV G 34), some (rV G 18), some (rV G 27), some (iV j), some (iV x)] [] N (qV fun O => tkIs O g pg vs p r i (j + 1 - i).toNat ∧ frK M O) := by
  have hl := hv.2.1
  have hg2 := hg.2.1
  intro n
  induction n with
  | zero => intro x N h; omega
  | succ n ih =>
    intro x N h x0 x1 hf hy
    have hd' : gdIs N 18 g := hd.kept (fun a q1 q2 => hf a (by omega))
    have hv' : vsIs N 27 vs := hv.kept (fun a q1 q2 => hf a (by omega))
    have hd1 : N 18 1 = g.2.1 := hd'.2.1
    have h01 := aApp_01 (aRun g pg vs i.toNat) p r x
    by_cases hlt : x < g.2.1
    · have ho1 := trk_o x0 (show x < 3 by omega)
      obtain ⟨w1, w2⟩ := hy x x0 hlt
      rw [if_neg (show ¬ x < x by omega)] at w2
      have hPx := aTk_ok (i := i) hg hP hvo hp hr ⟨x0, hlt⟩ (j - i).toNat
      have er := aTk_succ (g := g) (pg := pg) (vs := vs) (p := p) (r := r) (x := x) hi.2
      by_cases hop : (aApp (aRun g pg vs i.toNat) p r x).1 = 0
      · refine S.iload (pc' := 5) dX8_goOnWithTrick_3 rfl rfl ?_
        refine S.aload_n (pc' := 6) dX8_goOnWithTrick_5 rfl rfl rfl ?_
        refine S.getI (pc' := 9) dX8_goOnWithTrick_6 rfl fX8_50 (gd_lay gd18) ?_
        refine S.icmp_ge (pc' := 12) (tgt := 42) dX8_goOnWithTrick_9 (by decide) rfl (by unfold fp_rng; omega) (by unfold fp_rng; omega) (fun h9 => ?_) (fun h9 => ?_)
        · exfalso; omega
        · refine S.aload_n (pc' := 13) dX8_goOnWithTrick_12 rfl rfl rfl ?_
          refine S.getR (pc' := 16) dX8_goOnWithTrick_13 rfl fX8_20 L_34 rf_34_2 ?_
          refine S.iload (pc' := 18) dX8_goOnWithTrick_16 rfl rfl ?_
          refine S.zald (pc' := 19) dX8_goOnWithTrick_18 rfl L_37 (by omega) (by omega) ?_
          refine S.if_eq (pc' := 22) (tgt := 36) dX8_goOnWithTrick_19 (by decide) rfl (by unfold fp_rng; omega) (fun h19 => ?_) (fun h19 => ?_)
          · refine S.iinc (pc' := 39) (LL' := [_, _, _, _, _]) dX8_goOnWithTrick_36 rfl (by decide) rfl rfl rfl ?_
            refine S.goto (pc' := 3) dX8_goOnWithTrick_39 (by decide) ?_
            refine ih _ _ (by omega) (by omega) (by omega) hf (fun y y0 y1 => ⟨(hy y y0 y1).1, fun q => ?_⟩)
            have u2 := (hy y y0 y1).2 q
            by_cases e : y = x
            · subst e; exact absurd hop q
            · by_cases e2 : y < x
              · rw [if_pos e2] at u2; rw [if_pos (by omega)]; exact u2
              · rw [if_neg e2] at u2; rw [if_neg (by omega)]; exact u2
          · exfalso; omega
      · have w3 := w2 hop
        refine S.iload (pc' := 5) dX8_goOnWithTrick_3 rfl rfl ?_
        refine S.aload_n (pc' := 6) dX8_goOnWithTrick_5 rfl rfl rfl ?_
        refine S.getI (pc' := 9) dX8_goOnWithTrick_6 rfl fX8_50 (gd_lay gd18) ?_
        refine S.icmp_ge (pc' := 12) (tgt := 42) dX8_goOnWithTrick_9 (by decide) rfl (by unfold fp_rng; omega) (by unfold fp_rng; omega) (fun h9 => ?_) (fun h9 => ?_)
        · exfalso; omega
        · refine S.aload_n (pc' := 13) dX8_goOnWithTrick_12 rfl rfl rfl ?_
          refine S.getR (pc' := 16) dX8_goOnWithTrick_13 rfl fX8_20 L_34 rf_34_2 ?_
          refine S.iload (pc' := 18) dX8_goOnWithTrick_16 rfl rfl ?_
          refine S.zald (pc' := 19) dX8_goOnWithTrick_18 rfl L_37 (by omega) (by omega) ?_
          refine S.if_eq (pc' := 22) (tgt := 36) dX8_goOnWithTrick_19 (by decide) rfl (by unfold fp_rng; omega) (fun h19 => ?_) (fun h19 => ?_)
          · refine S.iinc (pc' := 39) (LL' := [_, _, _, _, _]) dX8_goOnWithTrick_36 rfl (by decide) rfl rfl rfl ?_
            refine S.goto (pc' := 3) dX8_goOnWithTrick_39 (by decide) ?_
            try (exfalso; omega)
            all_goals
              refine ih _ _ (by omega) (by omega) (by omega) (fun a ha => by rw [f1 a (by omega)]; exact hf a ha) (fun y y0 y1 => ⟨by rw [f1 37 (by omega)]; exact (hy y y0 y1).1, fun q => ?_⟩)
              have u2 := (hy y y0 y1).2 q
              by_cases e : y = x
              · subst e; rw [if_pos (by omega)]; exact c1
              · have u3 := u2.kept (fun a q1 q2 => f1 a (by omega))
                by_cases e2 : y < x
                · rw [if_pos e2] at u3; rw [if_pos (by omega)]; exact u3
                · rw [if_neg e2] at u3; rw [if_neg (by omega)]; exact u3
          · refine S.aload_n (pc' := 23) dX8_goOnWithTrick_22 rfl rfl rfl ?_
            refine S.aload_n (pc' := 24) dX8_goOnWithTrick_23 rfl rfl rfl ?_
            refine S.aload_n (pc' := 25) dX8_goOnWithTrick_24 rfl rfl rfl ?_
            refine S.getR (pc' := 28) dX8_goOnWithTrick_25 rfl fX8_17 L_34 rf_34_1 ?_
            refine S.iload (pc' := 30) dX8_goOnWithTrick_28 rfl rfl ?_
            refine S.aald (pc' := 31) dX8_goOnWithTrick_30 rfl L_36 (by decide) (by decide) (by omega) (by omega) (trk_r (by omega) (by omega)) ?_
            refine S.iload_n (pc' := 32) dX8_goOnWithTrick_31 rfl rfl rfl ?_
            refine S.callVi (pc' := 35) dX8_goOnWithTrick_32 rfl cX8_40 (rk_X10_happens (g := g) (pg := aTk g pg vs p r i x (j - i).toNat) (vs := vs) vs27 gd18 ho1) rfl (vs_lay vs27) (by decide) rfl (Nat.le_of_ble_eq_true rfl) (fun z32 M32 q32 => ?_)
            obtain ⟨z1, c1, f1⟩ := q32
            rw [← er] at c1
            refine S.pop (pc' := 36) dX8_goOnWithTrick_35 rfl rfl ?_
            refine S.iinc (pc' := 39) (LL' := [_, _, _, _, _]) dX8_goOnWithTrick_36 rfl (by decide) rfl rfl rfl ?_
            refine S.goto (pc' := 3) dX8_goOnWithTrick_39 (by decide) ?_
            try (exfalso; omega)
            all_goals
              refine ih _ _ (by omega) (by omega) (by omega) (fun a ha => by rw [f1 a (by omega)]; exact hf a ha) (fun y y0 y1 => ⟨by rw [f1 37 (by omega)]; exact (hy y y0 y1).1, fun q => ?_⟩)
              have u2 := (hy y y0 y1).2 q
              by_cases e : y = x
              · subst e; rw [if_pos (by omega)]; exact c1
              · have u3 := u2.kept (fun a q1 q2 => f1 a (by omega))
                by_cases e2 : y < x
                · rw [if_pos e2] at u3; rw [if_pos (by omega)]; exact u3
                · rw [if_neg e2] at u3; rw [if_neg (by omega)]; exact u3
    · refine S.iload (pc' := 5) dX8_goOnWithTrick_3 rfl rfl ?_
      refine S.aload_n (pc' := 6) dX8_goOnWithTrick_5 rfl rfl rfl ?_
      refine S.getI (pc' := 9) dX8_goOnWithTrick_6 rfl fX8_50 (gd_lay gd18) ?_
      refine S.icmp_ge (pc' := 12) (tgt := 42) dX8_goOnWithTrick_9 (by decide) rfl (by unfold fp_rng; omega) (by unfold fp_rng; omega) (fun h9 => ?_) (fun h9 => ?_)
      · refine S.vret dX8_goOnWithTrick_42 rfl ?_
        refine ⟨fun y y0 y1 => ⟨(hy y y0 y1).1, fun q => ?_⟩, hf⟩
        have u2 := (hy y y0 y1).2 q
        rw [if_pos (by omega)] at u2
        exact u2
      · exfalso; omega
theorem rk_X8_goOnWithTrick {p r i j : Int} (hp : 0 ≤ p ∧ p < 4) (hr : 0 ≤ r ∧ r < g.1) (hi : 0 ≤ i ∧ i ≤ j) (hj : j ≤ vs.length) (hP : pgOk g pg) (hg : gOk g) (hvo : vsOk g vs) (hd : gdIs M 18 g) (hv : vsIs M 27 vs) (ht : tkIs M g pg vs p r i (j - i).toNat) : fp_Ok l G 3 kX8_goOnWithTrick [rV G 34, rV G 18, rV G 27, iV j] M (qV fun O => tkIs O g pg vs p r i (j + 1 - i).toNat ∧ frK M O) := by
  have hg2 := hg.2.1
  refine fp_Ok.of (r := 1) rfl (Nat.le_of_ble_eq_true rfl) rfl ?_
  refine S.iconst (pc' := 1) dX8_goOnWithTrick_0 rfl ?_
  refine S.istore (pc' := 3) (LL' := [_, _, _, _, _]) dX8_goOnWithTrick_1 rfl (by decide) rfl rfl ?_
  exact cgo_loop hp hr hi hj hP hg hvo hd hv (g.2.1.toNat + 1) 0 _ (by omega) (by omega) (by omega) (frK.refl _) (fun y y0 y1 => ⟨(ht y y0 y1).1, fun q => by rw [if_neg (by omega)]; exact (ht y y0 y1).2 q⟩)
theorem clin_loop {p r t i j : Int} (hp : 0 ≤ p ∧ p < 4) (hr : 0 ≤ r ∧ r < g.1) (ht9 : 0 ≤ t ∧ t < g.1) (hP : pgOk g pg) (hg : gOk g) (hvo : vsOk g vs) (hd : gdIs M 18 g) (ht : tkIs M g pg vs p r i (j - i).toNat) : ∀ (n : Nat) (x : Int), (g.2.1 - x).toNat = n → 0 ≤ x → x ≤ g.2.1 →
    fp_S l G 2 kX8_lineTrickedOf 2 [some (rV G 34), some (rV G 18), some (iV t), some (iV x)] [] M (qI fun z O => z = aTl g pg vs p r t i j n x ∧ M = O) := by
  have hg1 := hg.1
  have hg2 := hg.2.1
  have hd1 : M 18 1 = g.2.1 := hd.2.1
  intro n
  induction n with
  | zero =>
    intro x h x0 x1
    refine S.iload_n (pc' := 3) dX8_lineTrickedOf_2 rfl rfl rfl ?_
    refine S.aload_n (pc' := 4) dX8_lineTrickedOf_3 rfl rfl rfl ?_
    refine S.getI (pc' := 7) dX8_lineTrickedOf_4 rfl fX8_50 (gd_lay gd18) ?_
    refine S.icmp_ge (pc' := 10) (tgt := 42) dX8_lineTrickedOf_7 (by decide) rfl (by unfold fp_rng; omega) (by unfold fp_rng; omega) (fun h7 => ?_) (fun h7 => ?_)
    · refine S.bipush (pc' := 44) dX8_lineTrickedOf_42 rfl (by decide) ?_
      refine S.iret dX8_lineTrickedOf_44 rfl ?_
      exact ⟨rfl, rfl⟩
    · exfalso; omega
  | succ n ih =>
    intro x h x0 x1
    have hlt : x < g.2.1 := by omega
    have ho1 := trk_o x0 (show x < 3 by omega)
    obtain ⟨w1, w2⟩ := ht x x0 hlt
    have h01 := aApp_01 (aRun g pg vs i.toNat) p r x
    have es : aTl g pg vs p r t i j (n + 1) x = if aIsT g pg vs p r t i j x then x else aTl g pg vs p r t i j n (x + 1) := rfl
    rw [es]
    by_cases hop : (aApp (aRun g pg vs i.toNat) p r x).1 = 0
    · rw [if_neg (fun q => q.1 hop)]
      refine S.iload_n (pc' := 3) dX8_lineTrickedOf_2 rfl rfl rfl ?_
      refine S.aload_n (pc' := 4) dX8_lineTrickedOf_3 rfl rfl rfl ?_
      refine S.getI (pc' := 7) dX8_lineTrickedOf_4 rfl fX8_50 (gd_lay gd18) ?_
      refine S.icmp_ge (pc' := 10) (tgt := 42) dX8_lineTrickedOf_7 (by decide) rfl (by unfold fp_rng; omega) (by unfold fp_rng; omega) (fun h7 => ?_) (fun h7 => ?_)
      · exfalso; omega
      · refine S.aload_n (pc' := 11) dX8_lineTrickedOf_10 rfl rfl rfl ?_
        refine S.getR (pc' := 14) dX8_lineTrickedOf_11 rfl fX8_20 L_34 rf_34_2 ?_
        refine S.iload_n (pc' := 15) dX8_lineTrickedOf_14 rfl rfl rfl ?_
        refine S.zald (pc' := 16) dX8_lineTrickedOf_15 rfl L_37 (by omega) (by omega) ?_
        refine S.if_eq (pc' := 19) (tgt := 36) dX8_lineTrickedOf_16 (by decide) rfl (by unfold fp_rng; omega) (fun h16 => ?_) (fun h16 => ?_)
        · refine S.iinc (pc' := 39) (LL' := [_, _, _, _]) dX8_lineTrickedOf_36 rfl (by decide) rfl rfl rfl ?_
          refine S.goto (pc' := 2) dX8_lineTrickedOf_39 (by decide) ?_
          exact ih _ (by omega) (by omega) (by omega)
        · exfalso; omega
    · have w3 := w2 hop
      have hPx := aTk_ok (i := i) hg hP hvo hp hr ⟨x0, hlt⟩ (j - i).toNat
      have hq := aGv_in hPx hg ⟨x0, hlt⟩
      by_cases hgv : aGv g (aTk g pg vs p r i x (j - i).toNat) x = t
      · rw [if_pos ⟨hop, hgv⟩]
        refine S.iload_n (pc' := 3) dX8_lineTrickedOf_2 rfl rfl rfl ?_
        refine S.aload_n (pc' := 4) dX8_lineTrickedOf_3 rfl rfl rfl ?_
        refine S.getI (pc' := 7) dX8_lineTrickedOf_4 rfl fX8_50 (gd_lay gd18) ?_
        refine S.icmp_ge (pc' := 10) (tgt := 42) dX8_lineTrickedOf_7 (by decide) rfl (by unfold fp_rng; omega) (by unfold fp_rng; omega) (fun h7 => ?_) (fun h7 => ?_)
        · exfalso; omega
        · refine S.aload_n (pc' := 11) dX8_lineTrickedOf_10 rfl rfl rfl ?_
          refine S.getR (pc' := 14) dX8_lineTrickedOf_11 rfl fX8_20 L_34 rf_34_2 ?_
          refine S.iload_n (pc' := 15) dX8_lineTrickedOf_14 rfl rfl rfl ?_
          refine S.zald (pc' := 16) dX8_lineTrickedOf_15 rfl L_37 (by omega) (by omega) ?_
          refine S.if_eq (pc' := 19) (tgt := 36) dX8_lineTrickedOf_16 (by decide) rfl (by unfold fp_rng; omega) (fun h16 => ?_) (fun h16 => ?_)
          · exfalso; omega
          · refine S.aload_n (pc' := 20) dX8_lineTrickedOf_19 rfl rfl rfl ?_
            refine S.getR (pc' := 23) dX8_lineTrickedOf_20 rfl fX8_17 L_34 rf_34_1 ?_
            refine S.iload_n (pc' := 24) dX8_lineTrickedOf_23 rfl rfl rfl ?_
            refine S.aald (pc' := 25) dX8_lineTrickedOf_24 rfl L_36 (by decide) (by decide) (by omega) (by omega) (trk_r (by omega) (by omega)) ?_
            refine S.aload_n (pc' := 26) dX8_lineTrickedOf_25 rfl rfl rfl ?_
            refine S.iload_n (pc' := 27) dX8_lineTrickedOf_26 rfl rfl rfl ?_
            refine S.callVe (pc' := 30) dX8_lineTrickedOf_27 rfl cX8_63 (rk_X5_gives (g := g) (pg := aTk g pg vs p r i x (j - i).toNat) ho1 gd18) rfl (pl_lay (trk_o (by omega) (by omega))) (by decide) rfl (Nat.le_of_ble_eq_true rfl) ?_
            refine S.iload_n (pc' := 31) dX8_lineTrickedOf_30 rfl rfl rfl ?_
            refine S.icmp_ne (pc' := 34) (tgt := 36) dX8_lineTrickedOf_31 (by decide) rfl (by unfold fp_rng; omega) (by unfold fp_rng; omega) (fun h31 => ?_) (fun h31 => ?_)
            · exfalso; omega
            · refine S.iload_n (pc' := 35) dX8_lineTrickedOf_34 rfl rfl rfl ?_
              refine S.iret dX8_lineTrickedOf_35 rfl ?_
              exact ⟨rfl, rfl⟩
      · rw [if_neg (fun q => hgv q.2)]
        refine S.iload_n (pc' := 3) dX8_lineTrickedOf_2 rfl rfl rfl ?_
        refine S.aload_n (pc' := 4) dX8_lineTrickedOf_3 rfl rfl rfl ?_
        refine S.getI (pc' := 7) dX8_lineTrickedOf_4 rfl fX8_50 (gd_lay gd18) ?_
        refine S.icmp_ge (pc' := 10) (tgt := 42) dX8_lineTrickedOf_7 (by decide) rfl (by unfold fp_rng; omega) (by unfold fp_rng; omega) (fun h7 => ?_) (fun h7 => ?_)
        · exfalso; omega
        · refine S.aload_n (pc' := 11) dX8_lineTrickedOf_10 rfl rfl rfl ?_
          refine S.getR (pc' := 14) dX8_lineTrickedOf_11 rfl fX8_20 L_34 rf_34_2 ?_
          refine S.iload_n (pc' := 15) dX8_lineTrickedOf_14 rfl rfl rfl ?_
          refine S.zald (pc' := 16) dX8_lineTrickedOf_15 rfl L_37 (by omega) (by omega) ?_
          refine S.if_eq (pc' := 19) (tgt := 36) dX8_lineTrickedOf_16 (by decide) rfl (by unfold fp_rng; omega) (fun h16 => ?_) (fun h16 => ?_)
          · refine S.iinc (pc' := 39) (LL' := [_, _, _, _]) dX8_lineTrickedOf_36 rfl (by decide) rfl rfl rfl ?_
            refine S.goto (pc' := 2) dX8_lineTrickedOf_39 (by decide) ?_
            try (exfalso; omega)
            all_goals exact ih _ (by omega) (by omega) (by omega)
          · refine S.aload_n (pc' := 20) dX8_lineTrickedOf_19 rfl rfl rfl ?_
            refine S.getR (pc' := 23) dX8_lineTrickedOf_20 rfl fX8_17 L_34 rf_34_1 ?_
            refine S.iload_n (pc' := 24) dX8_lineTrickedOf_23 rfl rfl rfl ?_
            refine S.aald (pc' := 25) dX8_lineTrickedOf_24 rfl L_36 (by decide) (by decide) (by omega) (by omega) (trk_r (by omega) (by omega)) ?_
            refine S.aload_n (pc' := 26) dX8_lineTrickedOf_25 rfl rfl rfl ?_
            refine S.iload_n (pc' := 27) dX8_lineTrickedOf_26 rfl rfl rfl ?_
            refine S.callVe (pc' := 30) dX8_lineTrickedOf_27 rfl cX8_63 (rk_X5_gives (g := g) (pg := aTk g pg vs p r i x (j - i).toNat) ho1 gd18) rfl (pl_lay (trk_o (by omega) (by omega))) (by decide) rfl (Nat.le_of_ble_eq_true rfl) ?_
            refine S.iload_n (pc' := 31) dX8_lineTrickedOf_30 rfl rfl rfl ?_
            refine S.icmp_ne (pc' := 34) (tgt := 36) dX8_lineTrickedOf_31 (by decide) rfl (by unfold fp_rng; omega) (by unfold fp_rng; omega) (fun h31 => ?_) (fun h31 => ?_)
            · refine S.iinc (pc' := 39) (LL' := [_, _, _, _]) dX8_lineTrickedOf_36 rfl (by decide) rfl rfl rfl ?_
              refine S.goto (pc' := 2) dX8_lineTrickedOf_39 (by decide) ?_
              try (exfalso; omega)
              all_goals exact ih _ (by omega) (by omega) (by omega)
            · exfalso; omega
theorem rk_X8_lineTrickedOf {p r t i j : Int} (hp : 0 ≤ p ∧ p < 4) (hr : 0 ≤ r ∧ r < g.1) (ht9 : 0 ≤ t ∧ t < g.1) (hP : pgOk g pg) (hg : gOk g) (hvo : vsOk g vs) (hd : gdIs M 18 g) (ht : tkIs M g pg vs p r i (j - i).toNat) : fp_Ok l G 2 kX8_lineTrickedOf [rV G 34, rV G 18, iV t] M (qI fun z O => z = aTl g pg vs p r t i j g.2.1.toNat 0 ∧ M = O) := by
  have hg2 := hg.2.1
  refine fp_Ok.of (r := 1) rfl (Nat.le_of_ble_eq_true rfl) rfl ?_
  refine S.iconst (pc' := 1) dX8_lineTrickedOf_0 rfl ?_
  refine S.istore_n (pc' := 2) (LL' := [_, _, _, _]) dX8_lineTrickedOf_1 rfl (by decide) rfl rfl rfl ?_
  exact clin_loop hp hr ht9 hP hg hvo hd ht g.2.1.toNat 0 (by omega) (by omega) (by omega)
theorem ctrick_j {p r t w i : Int} (hp : 0 ≤ p ∧ p < 4) (hr : 0 ≤ r ∧ r < g.1) (ht : 0 ≤ t ∧ t < g.1) (hw : 0 ≤ w ∧ w ≤ 2) (hi : 0 ≤ i) (ho : OK g pg vs nt im sh) (hcs : CS M tp fl g pg vs nt im sh tn) {Q : Int → fp_Mem → Prop} : ∀ (n : Nat) (j : Int) (N : fp_Mem) (o7 : Option Value), ((vs.length : Int) + 1 - j).toNat = n → i ≤ j → j ≤ vs.length + 1 → frK M N → tkIs N g pg vs p r i (j - i).toNat → (∀ O z, frK M O → aTj g pg vs p r t w i n j = some z → Q z O) → (∀ O o6 o7, frK M O → aTj g pg vs p r t w i n j = none → fp_S l G 5 kX11_trick 182 [some (rV G 0), some (iV p), some (iV r), some (iV t), some (iV w), some (iV i), o6, o7] [] O (qI Q)) →
    fp_S l G 5 kX11_trick 102 [some (rV G 0), some (iV p), some (iV r), some (iV t), some (iV w), some (iV i), some (iV j), o7] [] N (qI Q) := by
  obtain ⟨-, hd, hcl, hv, -⟩ := hcs
  have hl := hv.2.1
  have hg2 := ho.1.2.1
  intro n
  induction n with
  | zero =>
    intro j N o7 h j0 j1 hf htk hA hB
    have hl1 : N 27 0 = vs.length := by rw [hf 27 (by omega)]; exact hv.1
    refine S.iload (pc' := 104) dX11_trick_102 rfl rfl ?_
    refine S.aload_n (pc' := 105) dX11_trick_104 rfl rfl rfl ?_
    refine S.getR (pc' := 108) dX11_trick_105 rfl fX11_37 L_0 rf_0_5 ?_
    refine S.getI (pc' := 111) dX11_trick_108 rfl fX11_205 (vs_lay vs27) ?_
    refine S.icmp_gt (pc' := 114) (tgt := 182) dX11_trick_111 (by decide) rfl (by unfold fp_rng; omega) (by unfold fp_rng; omega) (fun h111 => ?_) (fun h111 => ?_)
    · exact hB _ _ _ hf rfl
    · exfalso; omega
  | succ n ih =>
    intro j N o7 h j0 j1 hf htk hA hB
    have hl1 : N 27 0 = vs.length := by rw [hf 27 (by omega)]; exact hv.1
    have hd' : gdIs N 18 g := hd.kept (fun a q1 q2 => hf a (by omega))
    have hv' : vsIs N 27 vs := hv.kept (fun a q1 q2 => hf a (by omega))
    have es : aTj g pg vs p r t w i (n + 1) j = if aTl g pg vs p r t i j g.2.1.toNat 0 ≠ -4 then some (if w = 0 then i else if w = 1 then j else aTl g pg vs p r t i j g.2.1.toNat 0) else aTj g pg vs p r t w i n (j + 1) := rfl
    have hin := aTl_in (g := g) (pg := pg) (vs := vs) (p := p) (r := r) (t := t) (i := i) (j := j) g.2.1.toNat 0 (by omega)
    rw [es] at hA hB
    refine S.iload (pc' := 104) dX11_trick_102 rfl rfl ?_
    refine S.aload_n (pc' := 105) dX11_trick_104 rfl rfl rfl ?_
    refine S.getR (pc' := 108) dX11_trick_105 rfl fX11_37 L_0 rf_0_5 ?_
    refine S.getI (pc' := 111) dX11_trick_108 rfl fX11_205 (vs_lay vs27) ?_
    refine S.icmp_gt (pc' := 114) (tgt := 182) dX11_trick_111 (by decide) rfl (by unfold fp_rng; omega) (by unfold fp_rng; omega) (fun h111 => ?_) (fun h111 => ?_)
    · exfalso; omega
    · refine S.aload_n (pc' := 115) dX11_trick_114 rfl rfl rfl ?_
      refine S.getR (pc' := 118) dX11_trick_115 rfl fX11_51 L_0 rf_0_7 ?_
      refine S.aload_n (pc' := 119) dX11_trick_118 rfl rfl rfl ?_
      refine S.getR (pc' := 122) dX11_trick_119 rfl fX11_23 L_0 rf_0_3 ?_
      refine S.iload_n (pc' := 123) dX11_trick_122 rfl rfl rfl ?_
      refine S.callVi (pc' := 126) dX11_trick_123 rfl cX11_232 (rk_X8_lineTrickedOf (j := j) hp hr ht ho.2.1 ho.1 ho.2.2.1 hd' htk) rfl L_34 (by decide) rfl (Nat.le_of_ble_eq_true rfl) (fun z123 M123 q123 => ?_)
      obtain ⟨rfl, rfl⟩ := q123
      refine S.istore (pc' := 128) (LL' := [_, _, _, _, _, _, _, _]) dX11_trick_126 rfl (by decide) rfl rfl ?_
      refine S.iload (pc' := 130) dX11_trick_128 rfl rfl ?_
      refine S.bipush (pc' := 132) dX11_trick_130 rfl (by decide) ?_
      refine S.icmp_eq (pc' := 135) (tgt := 159) dX11_trick_132 (by decide) rfl (by unfold fp_rng; omega) (by unfold fp_rng; omega) (fun h132 => ?_) (fun h132 => ?_)
      · refine S.aload_n (pc' := 160) dX11_trick_159 rfl rfl rfl ?_
        refine S.getR (pc' := 163) dX11_trick_160 rfl fX11_51 L_0 rf_0_7 ?_
        refine S.aload_n (pc' := 164) dX11_trick_163 rfl rfl rfl ?_
        refine S.getR (pc' := 167) dX11_trick_164 rfl fX11_23 L_0 rf_0_3 ?_
        refine S.aload_n (pc' := 168) dX11_trick_167 rfl rfl rfl ?_
        refine S.getR (pc' := 171) dX11_trick_168 rfl fX11_37 L_0 rf_0_5 ?_
        refine S.iload (pc' := 173) dX11_trick_171 rfl rfl ?_
        refine S.callVv (pc' := 176) dX11_trick_173 rfl cX11_235 (rk_X8_goOnWithTrick (j := j) hp hr ⟨hi, j0⟩ (by omega) ho.2.1 ho.1 ho.2.2.1 hd' hv' htk) rfl L_34 (by decide) rfl (Nat.le_of_ble_eq_true rfl) (fun M173 q173 => ?_)
        obtain ⟨t9, f9⟩ := q173
        refine S.iinc (pc' := 179) (LL' := [_, _, _, _, _, _, _, _]) dX11_trick_176 rfl (by decide) rfl rfl rfl ?_
        refine S.goto (pc' := 102) dX11_trick_179 (by decide) ?_
        rw [if_neg (by omega)] at hA hB
        exact ih _ _ _ (by omega) (by omega) (by omega) (hf.trans f9) t9 hA hB
      · refine S.iload (pc' := 137) dX11_trick_135 rfl rfl ?_
        refine S.if_ne (pc' := 140) (tgt := 145) dX11_trick_137 (by decide) rfl (by unfold fp_rng; omega) (fun h137 => ?_) (fun h137 => ?_)
        · refine S.iload (pc' := 147) dX11_trick_145 rfl rfl ?_
          refine S.iconst (pc' := 148) dX11_trick_147 rfl ?_
          refine S.icmp_ne (pc' := 151) (tgt := 156) dX11_trick_148 (by decide) rfl (by unfold fp_rng; omega) (by unfold fp_rng; omega) (fun h148 => ?_) (fun h148 => ?_)
          · refine S.iload (pc' := 158) dX11_trick_156 rfl rfl ?_
            refine S.iret dX11_trick_158 rfl ?_
            rw [if_pos (by omega)] at hA
            refine hA _ _ hf ?_
            first | rw [if_pos (by omega)] | rw [if_neg (by omega), if_pos (by omega)] | rw [if_neg (by omega), if_neg (by omega)]
          · refine S.iload (pc' := 153) dX11_trick_151 rfl rfl ?_
            refine S.goto (pc' := 158) dX11_trick_153 (by decide) ?_
            refine S.iret dX11_trick_158 rfl ?_
            rw [if_pos (by omega)] at hA
            refine hA _ _ hf ?_
            first | rw [if_pos (by omega)] | rw [if_neg (by omega), if_pos (by omega)] | rw [if_neg (by omega), if_neg (by omega)]
        · refine S.iload (pc' := 142) dX11_trick_140 rfl rfl ?_
          refine S.goto (pc' := 158) dX11_trick_142 (by decide) ?_
          refine S.iret dX11_trick_158 rfl ?_
          rw [if_pos (by omega)] at hA
          refine hA _ _ hf ?_
          first | rw [if_pos (by omega)] | rw [if_neg (by omega), if_pos (by omega)] | rw [if_neg (by omega), if_neg (by omega)]
theorem ctrick_i {p r t w : Int} (hp : 0 ≤ p ∧ p < 4) (hr : 0 ≤ r ∧ r < g.1) (ht : 0 ≤ t ∧ t < g.1) (hw : 0 ≤ w ∧ w ≤ 2) (hpr : pg.1 r = p) (ho : OK g pg vs nt im sh) (hcs : CS M tp fl g pg vs nt im sh tn) : ∀ (n : Nat) (i : Int) (N : fp_Mem) (o6 o7 : Option Value), ((vs.length : Int) + 1 - i).toNat = n → 0 ≤ i → i ≤ vs.length + 1 → frK M N →
    fp_S l G 5 kX11_trick 64 [some (rV G 0), some (iV p), some (iV r), some (iV t), some (iV w), some (iV i), o6, o7] [] N (qI fun z O => z = aTi g pg vs p r t w n i ∧ CS O tp fl g pg vs nt im sh tn ∧ frC M O) := by
  have hcs' := hcs
  obtain ⟨-, hd, hcl, hv, -⟩ := hcs
  have hl := hv.2.1
  intro n
  induction n with
  | zero =>
    intro i N o6 o7 h i0 i1 hf
    have hl1 : N 27 0 = vs.length := by rw [hf 27 (by omega)]; exact hv.1
    refine S.iload (pc' := 66) dX11_trick_64 rfl rfl ?_
    refine S.aload_n (pc' := 67) dX11_trick_66 rfl rfl rfl ?_
    refine S.getR (pc' := 70) dX11_trick_67 rfl fX11_37 L_0 rf_0_5 ?_
    refine S.getI (pc' := 73) dX11_trick_70 rfl fX11_205 (vs_lay vs27) ?_
    refine S.icmp_gt (pc' := 76) (tgt := 188) dX11_trick_73 (by decide) rfl (by unfold fp_rng; omega) (by unfold fp_rng; omega) (fun h73 => ?_) (fun h73 => ?_)
    · refine S.bipush (pc' := 190) dX11_trick_188 rfl (by decide) ?_
      refine S.iret dX11_trick_190 rfl ?_
      exact ⟨rfl, hcs'.trk hf, hf.c⟩
    · exfalso; omega
  | succ n ih =>
    intro i N o6 o7 h i0 i1 hf
    have hl1 : N 27 0 = vs.length := by rw [hf 27 (by omega)]; exact hv.1
    have hd' : gdIs N 18 g := hd.kept (fun a q1 q2 => hf a (by omega))
    have hv' : vsIs N 27 vs := hv.kept (fun a q1 q2 => hf a (by omega))
    have hc' : clIs N 22 g pg := hcl.kept (fun a q1 q2 => hf a (by omega))
    have es : aTi g pg vs p r t w (n + 1) i = match aTj g pg vs p r t w i ((vs.length : Int) + 1 - i).toNat i with
      | some z => z
      | none => aTi g pg vs p r t w n (i + 1) := rfl
    have htail : ∀ O o6 o7, frK M O → fp_S l G 5 kX11_trick 182 [some (rV G 0), some (iV p), some (iV r), some (iV t), some (iV w), some (iV i), o6, o7] [] O (qI fun z O => z = aTi g pg vs p r t w n (i + 1) ∧ CS O tp fl g pg vs nt im sh tn ∧ frC M O) := by
      intro O o6 o7 fO
      refine S.iinc (pc' := 185) (LL' := [_, _, _, _, _, _, _, _]) dX11_trick_182 rfl (by decide) rfl rfl rfl ?_
      refine S.goto (pc' := 64) dX11_trick_185 (by decide) ?_
      exact ih _ _ _ _ (by omega) (by omega) (by omega) fO
    refine S.iload (pc' := 66) dX11_trick_64 rfl rfl ?_
    refine S.aload_n (pc' := 67) dX11_trick_66 rfl rfl rfl ?_
    refine S.getR (pc' := 70) dX11_trick_67 rfl fX11_37 L_0 rf_0_5 ?_
    refine S.getI (pc' := 73) dX11_trick_70 rfl fX11_205 (vs_lay vs27) ?_
    refine S.icmp_gt (pc' := 76) (tgt := 188) dX11_trick_73 (by decide) rfl (by unfold fp_rng; omega) (by unfold fp_rng; omega) (fun h73 => ?_) (fun h73 => ?_)
    · exfalso; omega
    · refine S.aload_n (pc' := 77) dX11_trick_76 rfl rfl rfl ?_
      refine S.getR (pc' := 80) dX11_trick_77 rfl fX11_51 L_0 rf_0_7 ?_
      refine S.aload_n (pc' := 81) dX11_trick_80 rfl rfl rfl ?_
      refine S.getR (pc' := 84) dX11_trick_81 rfl fX11_23 L_0 rf_0_3 ?_
      refine S.aload_n (pc' := 85) dX11_trick_84 rfl rfl rfl ?_
      refine S.getR (pc' := 88) dX11_trick_85 rfl fX11_37 L_0 rf_0_5 ?_
      refine S.aload_n (pc' := 89) dX11_trick_88 rfl rfl rfl ?_
      refine S.getR (pc' := 92) dX11_trick_89 rfl fX11_30 L_0 rf_0_4 ?_
      refine S.iload (pc' := 94) dX11_trick_92 rfl rfl ?_
      refine S.iload_n (pc' := 95) dX11_trick_94 rfl rfl rfl ?_
      refine S.callVv (pc' := 98) dX11_trick_95 rfl cX11_228 (rk_X8_tryTrick hp hr hpr ⟨i0, by omega⟩ ho.2.1 ho.1 ho.2.2.1 hd' hc' hv') rfl L_34 (by decide) rfl (Nat.le_of_ble_eq_true rfl) (fun M95 q95 => ?_)
      obtain ⟨t9, f9⟩ := q95
      refine S.iload (pc' := 100) dX11_trick_98 rfl rfl ?_
      refine S.istore (pc' := 102) (LL' := [_, _, _, _, _, _, _, _]) dX11_trick_100 rfl (by decide) rfl rfl ?_
      exact ctrick_j hp hr ht hw i0 ho hcs' _ i _ _ rfl (by omega) (by omega) (hf.trans f9) (by rw [show (i - i).toNat = 0 by omega]; exact t9) (fun O z fO hz => ⟨by rw [es, hz], hcs'.trk fO, fO.c⟩) (fun O o6 o7 fO hz => by rw [es, hz]; exact htail O o6 o7 fO)
theorem cc_trick {p r t w : Int} (hc : CS M tp fl g pg vs nt im sh tn) (ho : OK g pg vs nt im sh) (hp : fp_rng p) (hr : fp_rng r) (ht : fp_rng t) (hw : fp_rng w) : fp_Ok l G 5 kX11_trick [rV G 0, iV p, iV r, iV t, iV w] M (qI fun z N => z = A_trick g pg vs p r t w ∧ CS N tp fl g pg vs nt im sh tn ∧ frC M N) := by
  have hcs := hc
  obtain ⟨-, hd, hcl, hv, -⟩ := hc
  have ho' := ho
  obtain ⟨hg, hP, hvo, -⟩ := ho
  have hg1 := hg.1
  refine fp_Ok.of (r := 3) rfl (Nat.le_of_ble_eq_true rfl) rfl ?_
  unfold A_trick
  by_cases hin : (0 ≤ p ∧ p < 4) ∧ (0 ≤ r ∧ r < g.1) ∧ (0 ≤ t ∧ t < g.1) ∧ t ≠ r ∧ (0 ≤ w ∧ w ≤ 2)
  · rw [if_neg (fun q => q hin)]
    have c1 : M (22 + 1) r.toNat = pg.1 r := hcl.1 r hin.2.1.1 hin.2.1.2
    have c2 := hP.1 r hin.2.1.1 hin.2.1.2
    have hg2 := hg.2.1
    by_cases hq : pg.1 r = p
    · rw [if_neg (fun q => q hq)]
      refine S.iload_n (pc' := 1) dX11_trick_0 rfl rfl rfl ?_
      refine S.callSi (pc' := 4) dX11_trick_1 rfl cX11_181 (bk_X11_isOne) rfl (by decide) rfl (Nat.le_of_ble_eq_true rfl) (fun z1 M1 q1 => ?_)
      obtain ⟨b1, rfl⟩ := q1
      refine S.if_eq (pc' := 7) (tgt := 43) dX11_trick_4 (by decide) rfl (by unfold fp_rng; omega) (fun h4 => ?_) (fun h4 => ?_)
      · exfalso; omega
      · refine S.aload_n (pc' := 8) dX11_trick_7 rfl rfl rfl ?_
        refine S.getR (pc' := 11) dX11_trick_8 rfl fX11_23 L_0 rf_0_3 ?_
        refine S.iload_n (pc' := 12) dX11_trick_11 rfl rfl rfl ?_
        refine S.callVi (pc' := 15) dX11_trick_12 rfl cX11_126 (bk_X1_hasThing gd18) rfl (gd_lay gd18) (by decide) rfl (Nat.le_of_ble_eq_true rfl) (fun z12 M12 q12 => ?_)
        obtain ⟨b12, rfl⟩ := q12
        refine S.if_eq (pc' := 18) (tgt := 43) dX11_trick_15 (by decide) rfl (by unfold fp_rng; omega) (fun h15 => ?_) (fun h15 => ?_)
        · exfalso; omega
        · refine S.aload_n (pc' := 19) dX11_trick_18 rfl rfl rfl ?_
          refine S.getR (pc' := 22) dX11_trick_19 rfl fX11_23 L_0 rf_0_3 ?_
          refine S.iload_n (pc' := 23) dX11_trick_22 rfl rfl rfl ?_
          refine S.callVi (pc' := 26) dX11_trick_23 rfl cX11_126 (bk_X1_hasThing gd18) rfl (gd_lay gd18) (by decide) rfl (Nat.le_of_ble_eq_true rfl) (fun z23 M23 q23 => ?_)
          obtain ⟨b23, rfl⟩ := q23
          refine S.if_eq (pc' := 29) (tgt := 43) dX11_trick_26 (by decide) rfl (by unfold fp_rng; omega) (fun h26 => ?_) (fun h26 => ?_)
          · exfalso; omega
          · refine S.iload_n (pc' := 30) dX11_trick_29 rfl rfl rfl ?_
            refine S.iload_n (pc' := 31) dX11_trick_30 rfl rfl rfl ?_
            refine S.icmp_eq (pc' := 34) (tgt := 43) dX11_trick_31 (by decide) rfl ht hr (fun h31 => ?_) (fun h31 => ?_)
            · exfalso; omega
            · refine S.iload (pc' := 36) dX11_trick_34 rfl rfl ?_
              refine S.iconst (pc' := 37) dX11_trick_36 rfl ?_
              refine S.callSi (pc' := 40) dX11_trick_37 rfl cX11_221 (bk_X11_isWithin) rfl (by decide) rfl (Nat.le_of_ble_eq_true rfl) (fun z37 M37 q37 => ?_)
              obtain ⟨b37, rfl⟩ := q37
              refine S.if_ne (pc' := 43) (tgt := 45) dX11_trick_40 (by decide) rfl (by unfold fp_rng; omega) (fun h40 => ?_) (fun h40 => ?_)
              · refine S.aload_n (pc' := 46) dX11_trick_45 rfl rfl rfl ?_
                refine S.getR (pc' := 49) dX11_trick_46 rfl fX11_30 L_0 rf_0_4 ?_
                refine S.getR (pc' := 52) dX11_trick_49 rfl fX11_138 (pl_lay pl22) (pl_r0 pl22) ?_
                refine S.iload_n (pc' := 53) dX11_trick_52 rfl rfl rfl ?_
                refine S.iald (pc' := 54) dX11_trick_53 rfl (pl_a0 pl22) (by omega) (by omega) ?_
                refine S.iload_n (pc' := 55) dX11_trick_54 rfl rfl rfl ?_
                refine S.icmp_eq (pc' := 58) (tgt := 61) dX11_trick_55 (by decide) rfl (by unfold fp_rng; omega) (by unfold fp_rng; omega) (fun h55 => ?_) (fun h55 => ?_)
                · refine S.iconst (pc' := 62) dX11_trick_61 rfl ?_
                  refine S.istore (pc' := 64) (LL' := [_, _, _, _, _, _, _, _]) dX11_trick_62 rfl (by decide) rfl rfl ?_
                  exact ctrick_i hin.1 hin.2.1 hin.2.2.1 hin.2.2.2.2 hq ho' hcs (vs.length + 1) 0 _ none none (by omega) (by omega) (by omega) (frK.refl _)
                · exfalso; omega
              · exfalso; omega
    · rw [if_pos hq]
      refine S.iload_n (pc' := 1) dX11_trick_0 rfl rfl rfl ?_
      refine S.callSi (pc' := 4) dX11_trick_1 rfl cX11_181 (bk_X11_isOne) rfl (by decide) rfl (Nat.le_of_ble_eq_true rfl) (fun z1 M1 q1 => ?_)
      obtain ⟨b1, rfl⟩ := q1
      refine S.if_eq (pc' := 7) (tgt := 43) dX11_trick_4 (by decide) rfl (by unfold fp_rng; omega) (fun h4 => ?_) (fun h4 => ?_)
      · exfalso; omega
      · refine S.aload_n (pc' := 8) dX11_trick_7 rfl rfl rfl ?_
        refine S.getR (pc' := 11) dX11_trick_8 rfl fX11_23 L_0 rf_0_3 ?_
        refine S.iload_n (pc' := 12) dX11_trick_11 rfl rfl rfl ?_
        refine S.callVi (pc' := 15) dX11_trick_12 rfl cX11_126 (bk_X1_hasThing gd18) rfl (gd_lay gd18) (by decide) rfl (Nat.le_of_ble_eq_true rfl) (fun z12 M12 q12 => ?_)
        obtain ⟨b12, rfl⟩ := q12
        refine S.if_eq (pc' := 18) (tgt := 43) dX11_trick_15 (by decide) rfl (by unfold fp_rng; omega) (fun h15 => ?_) (fun h15 => ?_)
        · exfalso; omega
        · refine S.aload_n (pc' := 19) dX11_trick_18 rfl rfl rfl ?_
          refine S.getR (pc' := 22) dX11_trick_19 rfl fX11_23 L_0 rf_0_3 ?_
          refine S.iload_n (pc' := 23) dX11_trick_22 rfl rfl rfl ?_
          refine S.callVi (pc' := 26) dX11_trick_23 rfl cX11_126 (bk_X1_hasThing gd18) rfl (gd_lay gd18) (by decide) rfl (Nat.le_of_ble_eq_true rfl) (fun z23 M23 q23 => ?_)
          obtain ⟨b23, rfl⟩ := q23
          refine S.if_eq (pc' := 29) (tgt := 43) dX11_trick_26 (by decide) rfl (by unfold fp_rng; omega) (fun h26 => ?_) (fun h26 => ?_)
          · exfalso; omega
          · refine S.iload_n (pc' := 30) dX11_trick_29 rfl rfl rfl ?_
            refine S.iload_n (pc' := 31) dX11_trick_30 rfl rfl rfl ?_
            refine S.icmp_eq (pc' := 34) (tgt := 43) dX11_trick_31 (by decide) rfl ht hr (fun h31 => ?_) (fun h31 => ?_)
            · exfalso; omega
            · refine S.iload (pc' := 36) dX11_trick_34 rfl rfl ?_
              refine S.iconst (pc' := 37) dX11_trick_36 rfl ?_
              refine S.callSi (pc' := 40) dX11_trick_37 rfl cX11_221 (bk_X11_isWithin) rfl (by decide) rfl (Nat.le_of_ble_eq_true rfl) (fun z37 M37 q37 => ?_)
              obtain ⟨b37, rfl⟩ := q37
              refine S.if_ne (pc' := 43) (tgt := 45) dX11_trick_40 (by decide) rfl (by unfold fp_rng; omega) (fun h40 => ?_) (fun h40 => ?_)
              · refine S.aload_n (pc' := 46) dX11_trick_45 rfl rfl rfl ?_
                refine S.getR (pc' := 49) dX11_trick_46 rfl fX11_30 L_0 rf_0_4 ?_
                refine S.getR (pc' := 52) dX11_trick_49 rfl fX11_138 (pl_lay pl22) (pl_r0 pl22) ?_
                refine S.iload_n (pc' := 53) dX11_trick_52 rfl rfl rfl ?_
                refine S.iald (pc' := 54) dX11_trick_53 rfl (pl_a0 pl22) (by omega) (by omega) ?_
                refine S.iload_n (pc' := 55) dX11_trick_54 rfl rfl rfl ?_
                refine S.icmp_eq (pc' := 58) (tgt := 61) dX11_trick_55 (by decide) rfl (by unfold fp_rng; omega) (by unfold fp_rng; omega) (fun h55 => ?_) (fun h55 => ?_)
                · exfalso; omega
                · refine S.bipush (pc' := 60) dX11_trick_58 rfl (by decide) ?_
                  refine S.iret dX11_trick_60 rfl ?_
                  exact ⟨rfl, hcs, frC.refl _⟩
              · exfalso; omega
  · rw [if_pos hin]
    refine S.iload_n (pc' := 1) dX11_trick_0 rfl rfl rfl ?_
    refine S.callSi (pc' := 4) dX11_trick_1 rfl cX11_181 (bk_X11_isOne) rfl (by decide) rfl (Nat.le_of_ble_eq_true rfl) (fun z1 M1 q1 => ?_)
    obtain ⟨b1, rfl⟩ := q1
    refine S.if_eq (pc' := 7) (tgt := 43) dX11_trick_4 (by decide) rfl (by unfold fp_rng; omega) (fun h4 => ?_) (fun h4 => ?_)
    · refine S.iconst (pc' := 44) dX11_trick_43 rfl ?_
      refine S.iret dX11_trick_44 rfl ?_
      exact ⟨rfl, hcs, frC.refl _⟩
    · refine S.aload_n (pc' := 8) dX11_trick_7 rfl rfl rfl ?_
      refine S.getR (pc' := 11) dX11_trick_8 rfl fX11_23 L_0 rf_0_3 ?_
      refine S.iload_n (pc' := 12) dX11_trick_11 rfl rfl rfl ?_
      refine S.callVi (pc' := 15) dX11_trick_12 rfl cX11_126 (bk_X1_hasThing gd18) rfl (gd_lay gd18) (by decide) rfl (Nat.le_of_ble_eq_true rfl) (fun z12 M12 q12 => ?_)
      obtain ⟨b12, rfl⟩ := q12
      refine S.if_eq (pc' := 18) (tgt := 43) dX11_trick_15 (by decide) rfl (by unfold fp_rng; omega) (fun h15 => ?_) (fun h15 => ?_)
      · refine S.iconst (pc' := 44) dX11_trick_43 rfl ?_
        refine S.iret dX11_trick_44 rfl ?_
        exact ⟨rfl, hcs, frC.refl _⟩
      · refine S.aload_n (pc' := 19) dX11_trick_18 rfl rfl rfl ?_
        refine S.getR (pc' := 22) dX11_trick_19 rfl fX11_23 L_0 rf_0_3 ?_
        refine S.iload_n (pc' := 23) dX11_trick_22 rfl rfl rfl ?_
        refine S.callVi (pc' := 26) dX11_trick_23 rfl cX11_126 (bk_X1_hasThing gd18) rfl (gd_lay gd18) (by decide) rfl (Nat.le_of_ble_eq_true rfl) (fun z23 M23 q23 => ?_)
        obtain ⟨b23, rfl⟩ := q23
        refine S.if_eq (pc' := 29) (tgt := 43) dX11_trick_26 (by decide) rfl (by unfold fp_rng; omega) (fun h26 => ?_) (fun h26 => ?_)
        · refine S.iconst (pc' := 44) dX11_trick_43 rfl ?_
          refine S.iret dX11_trick_44 rfl ?_
          exact ⟨rfl, hcs, frC.refl _⟩
        · refine S.iload_n (pc' := 30) dX11_trick_29 rfl rfl rfl ?_
          refine S.iload_n (pc' := 31) dX11_trick_30 rfl rfl rfl ?_
          refine S.icmp_eq (pc' := 34) (tgt := 43) dX11_trick_31 (by decide) rfl ht hr (fun h31 => ?_) (fun h31 => ?_)
          · refine S.iconst (pc' := 44) dX11_trick_43 rfl ?_
            refine S.iret dX11_trick_44 rfl ?_
            exact ⟨rfl, hcs, frC.refl _⟩
          · refine S.iload (pc' := 36) dX11_trick_34 rfl rfl ?_
            refine S.iconst (pc' := 37) dX11_trick_36 rfl ?_
            refine S.callSi (pc' := 40) dX11_trick_37 rfl cX11_221 (bk_X11_isWithin) rfl (by decide) rfl (Nat.le_of_ble_eq_true rfl) (fun z37 M37 q37 => ?_)
            obtain ⟨b37, rfl⟩ := q37
            refine S.if_ne (pc' := 43) (tgt := 45) dX11_trick_40 (by decide) rfl (by unfold fp_rng; omega) (fun h40 => ?_) (fun h40 => ?_)
            · exfalso; omega
            · refine S.iconst (pc' := 44) dX11_trick_43 rfl ?_
              refine S.iret dX11_trick_44 rfl ?_
              exact ⟨rfl, hcs, frC.refl _⟩
end CTR
end
section
/-! THE STATE STAYS ONE THAT CAN BE -/
section OKA
variable {g : aGd} {pg : aPg} {vs : List aVt} {nt : List Int} {im : aIm} {sh : aSh}
theorem OK.put {p t x : Int} (h : OK g pg vs nt im sh) : OK g (A_put g pg p t x).2 vs nt im sh := ⟨h.1, A_put_ok h.1 h.2.1, h.2.2⟩
theorem OK.draw {p x : Int} (h : OK g pg vs nt im sh) : OK g (A_draw g pg p x).2 vs nt im sh := ⟨h.1, A_draw_ok h.1 h.2.1, h.2.2⟩
theorem OK.slip {t x i : Int} (h : OK g pg vs nt im sh) : OK g (A_slip g pg t x i).2 vs nt im sh := ⟨h.1, A_slip_ok h.1 h.2.1, h.2.2⟩
theorem OK.come {d p x t : Int} (h : OK g pg vs nt im sh) : OK g pg (A_come g vs d p x t).2 nt im sh := ⟨h.1, h.2.1, A_come_ok h.2.2.1, h.2.2.2⟩
theorem OK.read {tn k lane f n : Int} (h : OK g pg vs nt im sh) : OK g pg (A_read g vs sh tn k lane f n).2.1 nt im sh := ⟨h.1, h.2.1, A_read_ok h.2.2.1, h.2.2.2⟩
theorem OK.cut {n : Int} (h : OK g pg vs nt im sh) : OK g pg (A_cut vs n).2 nt im sh := by
  refine ⟨h.1, h.2.1, ?_, h.2.2.2⟩
  unfold A_cut
  split
  · exact fun v hv => h.2.2.1 v (List.mem_of_mem_take hv)
  · exact h.2.2.1
theorem OK.go {n : Int} (h : OK g pg vs nt im sh) : OK g (A_go g pg vs n).2.1 (A_go g pg vs n).2.2 nt im sh := by
  unfold A_go
  split
  · exact ⟨h.1, aRun_ok h.1 h.2.1 h.2.2.1 _, fun v hv => h.2.2.1 v (List.mem_of_mem_drop hv), h.2.2.2⟩
  · exact h
theorem OK.noted {t : Int} (h : OK g pg vs nt im sh) : OK g pg vs (A_noted g nt t).2 im sh := by
  refine ⟨h.1, h.2.1, h.2.2.1, ?_, h.2.2.2.2⟩
  have hn := h.2.2.2.1
  unfold A_noted
  split
  · exact hn
  · rename_i ht
    split
    · exact hn
    · rename_i hm
      split
      · exact hn
      · refine ⟨fun q hq => ?_, ?_⟩
        · rcases List.mem_append.mp hq with q1 | q1
          · exact hn.1 q q1
          · rw [List.mem_singleton] at q1; subst q1; omega
        · rw [List.nodup_append]
          refine ⟨hn.2, by simp, fun a ha b hb => ?_⟩
          rw [List.mem_singleton] at hb
          subst hb
          exact fun e => hm (e ▸ ha)
theorem OK.forget (h : OK g pg vs nt im sh) : OK g pg vs [] im sh := ⟨h.1, h.2.1, h.2.2.1, ⟨fun _ q => (List.not_mem_nil q).elim, List.nodup_nil⟩, h.2.2.2.2⟩
theorem OK.keep {k : Int} (h : OK g pg vs nt im sh) : OK g pg vs nt (A_keep im k (pg, vs, nt)).2 sh := ⟨h.1, h.2.1, h.2.2.1, h.2.2.2.1, A_keep_ok h.2.2.2.2.1 ⟨h.2.1, h.2.2.1, h.2.2.2.1⟩, h.2.2.2.2.2⟩
theorem OK.back {k : Int} (h : OK g pg vs nt im sh) : OK g (A_back im k (pg, vs, nt)).2.1 (A_back im k (pg, vs, nt)).2.2.1 (A_back im k (pg, vs, nt)).2.2.2 im sh := by
  have q := A_back_ok (k := k) (x := (pg, vs, nt)) h.2.2.2.2.1 ⟨h.2.1, h.2.2.1, h.2.2.2.1⟩
  exact ⟨h.1, q.1, q.2.1, q.2.2, h.2.2.2.2⟩
theorem OK.sheet {k lane n : Int} (h : OK g pg vs nt im sh) : OK g pg vs nt im (A_sheet sh k lane n).2 := ⟨h.1, h.2.1, h.2.2.1, h.2.2.2.1, h.2.2.2.2.1, A_sheet_ok h.2.2.2.2.2⟩
theorem OK.lay {k i v : Int} (h : OK g pg vs nt im sh) (hv : fp_rng v) : OK g pg vs nt im (A_lay sh k i v).2 := ⟨h.1, h.2.1, h.2.2.1, h.2.2.2.1, h.2.2.2.2.1, A_lay_ok h.2.2.2.2.2 hv⟩
theorem OK.chance {v : Int} (h : OK g pg vs nt im sh) : OK (A_chance g v).2 pg vs nt im sh := by
  unfold A_chance
  split
  · rename_i hv
    obtain ⟨h1, h2, h3, h4, h5, h6⟩ := h
    exact ⟨⟨h1.1, h1.2.1, hv, h1.2.2.2⟩, h2, h3, h4, h5, h6⟩
  · exact h
end OKA
end
section
/-! RINGS: whom one likes -/
def aLk (g : aGd) (b : Int → Int) (th p : Int) : Nat → Int
  | 0 => -4
  | n + 1 => if th.toNat.testBit n = true ∧ (aLk g b th p n = -4 ∨ g.2.2.2.2.1 (b (aLk g b th p n)) p < g.2.2.2.2.1 (b n) p ∨ (g.2.2.2.2.1 (b n) p = g.2.2.2.2.1 (b (aLk g b th p n)) p ∧ b n < b (aLk g b th p n))) then (n : Int) else aLk g b th p n
def bOk (g : aGd) (b : Int → Int) (th : Int) : Prop := (0 ≤ th ∧ th < 16) ∧ ∀ q : Int, 0 ≤ q → q < 4 → th.toNat.testBit q.toNat = true → 0 ≤ b q ∧ b q < g.1
theorem aLk_succ {g : aGd} {b : Int → Int} {th p i : Int} (h : 0 ≤ i) : aLk g b th p (i + 1).toNat = if th.toNat.testBit i.toNat = true ∧ (aLk g b th p i.toNat = -4 ∨ g.2.2.2.2.1 (b (aLk g b th p i.toNat)) p < g.2.2.2.2.1 (b i) p ∨ (g.2.2.2.2.1 (b i) p = g.2.2.2.2.1 (b (aLk g b th p i.toNat)) p ∧ b i < b (aLk g b th p i.toNat))) then i else aLk g b th p i.toNat := by
  have e1 : (i + 1).toNat = i.toNat + 1 := by omega
  rw [e1]
  show (if _ ∧ (_ ∨ _ < g.2.2.2.2.1 (b ((i.toNat : Nat) : Int)) p ∨ (g.2.2.2.2.1 (b ((i.toNat : Nat) : Int)) p = _ ∧ b ((i.toNat : Nat) : Int) < _)) then ((i.toNat : Nat) : Int) else _) = _
  rw [Int.toNat_of_nonneg h]
theorem aLk_in {g : aGd} {b : Int → Int} {th p : Int} : ∀ n : Nat, aLk g b th p n = -4 ∨ (0 ≤ aLk g b th p n ∧ aLk g b th p n < n ∧ th.toNat.testBit (aLk g b th p n).toNat = true)
  | 0 => Or.inl rfl
  | n + 1 => by
    have q := aLk_in (g := g) (b := b) (th := th) (p := p) n
    unfold aLk
    split
    · rename_i hh
      right
      exact ⟨by omega, by omega, by rw [Int.toNat_natCast]; exact hh.1⟩
    · rcases q with q | q
      · exact Or.inl q
      · exact Or.inr ⟨q.1, by omega, q.2.2⟩
theorem fp_bit2 {v i : Int} (hv : 0 ≤ v ∧ v < 16) (hi : 0 ≤ i ∧ i < 4) : fp_and v (2 ^ i.toNat) = if v.toNat.testBit i.toNat = true then 2 ^ i.toNat else 0 := by
  have h : ∀ a : Nat, a < 16 → ∀ q : Nat, q < 4 → fp_and (a : Int) (2 ^ q) = if a.testBit q = true then 2 ^ q else 0 := by decide +kernel
  have := h v.toNat (by omega) i.toNat (by omega)
  rwa [Int.toNat_of_nonneg hv.1] at this
section RNG
variable {l : Launch} {G : fp_WG} {M N : fp_Mem} {g : aGd} {pg pg' : aPg} {k k2 : Nat}
theorem mlikes_loop {b : Int → Int} {th p : Int} (hp : 0 ≤ p ∧ p < 4) (hb : bOk g b th) (hg : gOk g) (hd : mdIs M g) (hr : ∀ q : Int, 0 ≤ q → q < 4 → M 196 q.toNat = b q) : ∀ (n : Nat) (i : Int) (o5 o6 : Option Value), (4 - i).toNat < n → 0 ≤ i → i ≤ 4 →
    fp_S l G 0 kX12_likes 6 [some (rV G 177), some (iV p), some (iV th), some (iV (aLk g b th p i.toNat)), some (iV i), o5, o6] [] M (qE (aLk g b th p 4) M) := by
  have hg1 := hg.1
  intro n
  induction n with
  | zero => intro i o5 o6 h; omega
  | succ n ih =>
    intro i o5 o6 h i0 i1
    have es := aLk_succ (g := g) (b := b) (th := th) (p := p) i0
    have hin := aLk_in (g := g) (b := b) (th := th) (p := p) i.toNat
    have hbit := fp_bitv (v := th) (i := i) hb.1.1
    have hdn : 0 ≤ th / 2 ^ i.toNat := Int.ediv_nonneg hb.1.1 (Int.le_of_lt (Int.pow_pos (by decide)))
    have hth := hb.1
    by_cases hlt : i < 4
    · by_cases ht : th.toNat.testBit i.toNat = true
      · rw [if_pos ht] at hbit
        have hbi := hb.2 i i0 hlt ht
        have hv := hd.2.2.2.2.2.1 (b i) p hbi.1 hbi.2 hp.1 hp.2
        have hvb := hg.2.2.2.2.1 (b i) p hbi.1 hbi.2 hp.1 hp.2
        have hri := hr i i0 hlt
        by_cases hw4 : aLk g b th p i.toNat = -4
        · rw [if_pos ⟨ht, Or.inl hw4⟩] at es
          refine S.iload (pc' := 8) dX12_likes_6 rfl rfl ?_
          refine S.iconst (pc' := 9) dX12_likes_8 rfl ?_
          refine S.icmp_ge (pc' := 12) (tgt := 111) dX12_likes_9 (by decide) rfl (by unfold fp_rng; omega) (by unfold fp_rng; omega) (fun h9 => ?_) (fun h9 => ?_)
          · exfalso; omega
          · refine S.iload_n (pc' := 13) dX12_likes_12 rfl rfl rfl ?_
            refine S.iload (pc' := 15) dX12_likes_13 rfl rfl ?_
            refine S.ishr (pc' := 16) dX12_likes_15 rfl (fp_shrv (by omega) (by omega)) ?_
            refine S.iconst (pc' := 17) dX12_likes_16 rfl ?_
            refine S.iand (pc' := 18) dX12_likes_17 rfl (fp_iand hdn (by decide)) ?_
            refine S.iconst (pc' := 19) dX12_likes_18 rfl ?_
            refine S.icmp_ne (pc' := 22) (tgt := 105) dX12_likes_19 (by decide) rfl (by rw [hbit]; unfold fp_rng; omega) (by unfold fp_rng; omega) (fun h19 => ?_) (fun h19 => ?_)
            · refine S.iinc (pc' := 108) (LL' := [_, _, _, _, _, _, _]) dX12_likes_105 rfl (by decide) rfl rfl rfl ?_
              refine S.goto (pc' := 6) dX12_likes_108 (by decide) ?_
              try (exfalso; omega)
              all_goals
                have e9 := fun o5 o6 => ih (i + 1) o5 o6 (by omega) (by omega) (by omega)
                rw [es] at e9
                exact e9 _ _
            · refine S.aload_n (pc' := 23) dX12_likes_22 rfl rfl rfl ?_
              refine S.getR (pc' := 26) dX12_likes_23 rfl fX12_16 L_177 rf_177_2 ?_
              refine S.iconst (pc' := 27) dX12_likes_26 rfl ?_
              refine S.aload_n (pc' := 28) dX12_likes_27 rfl rfl rfl ?_
              refine S.getR (pc' := 31) dX12_likes_28 rfl fX12_69 L_177 rf_177_37 ?_
              refine S.iload (pc' := 33) dX12_likes_31 rfl rfl ?_
              refine S.iald (pc' := 34) dX12_likes_33 rfl L_196 (by omega) (by omega) ?_
              rw [hri]
              refine S.imul (pc' := 35) dX12_likes_34 rfl ?_
              refine S.iload_n (pc' := 36) dX12_likes_35 rfl rfl rfl ?_
              refine S.iadd (pc' := 37) dX12_likes_36 rfl ?_
              refine S.iald (pc' := 38) dX12_likes_37 rfl L_180 (by omega) (by omega) ?_
              refine S.istore (pc' := 40) (LL' := [_, _, _, _, _, _, _]) dX12_likes_38 rfl (by decide) rfl rfl ?_
              refine S.iload_n (pc' := 41) dX12_likes_40 rfl rfl rfl ?_
              refine S.bipush (pc' := 43) dX12_likes_41 rfl (by decide) ?_
              refine S.icmp_ne (pc' := 46) (tgt := 51) dX12_likes_43 (by decide) rfl (by unfold fp_rng; omega) (by unfold fp_rng; omega) (fun h43 => ?_) (fun h43 => ?_)
              · exfalso; omega
              · refine S.bipush (pc' := 48) dX12_likes_46 rfl (by decide) ?_
                refine S.goto (pc' := 66) dX12_likes_48 (by decide) ?_
                refine S.istore (pc' := 68) (LL' := [_, _, _, _, _, _, _]) dX12_likes_66 rfl (by decide) rfl rfl ?_
                refine S.iload (pc' := 70) dX12_likes_68 rfl rfl ?_
                refine S.iload (pc' := 72) dX12_likes_70 rfl rfl ?_
                refine S.icmp_gt (pc' := 75) (tgt := 98) dX12_likes_72 (by decide) rfl (by unfold fp_rng; omega) (by unfold fp_rng; omega) (fun h72 => ?_) (fun h72 => ?_)
                · refine S.iload (pc' := 100) dX12_likes_98 rfl rfl ?_
                  refine S.goto (pc' := 104) dX12_likes_100 (by decide) ?_
                  refine S.istore_n (pc' := 105) (LL' := [_, _, _, _, _, _, _]) dX12_likes_104 rfl (by decide) rfl rfl rfl ?_
                  refine S.iinc (pc' := 108) (LL' := [_, _, _, _, _, _, _]) dX12_likes_105 rfl (by decide) rfl rfl rfl ?_
                  refine S.goto (pc' := 6) dX12_likes_108 (by decide) ?_
                  try (exfalso; omega)
                  all_goals
                    have e9 := fun o5 o6 => ih (i + 1) o5 o6 (by omega) (by omega) (by omega)
                    rw [es] at e9
                    exact e9 _ _
                · exfalso; omega
        · obtain ⟨w0, w1, w2⟩ : 0 ≤ aLk g b th p i.toNat ∧ aLk g b th p i.toNat < i.toNat ∧ th.toNat.testBit (aLk g b th p i.toNat).toNat = true := by
            rcases hin with q | q
            · exact absurd q hw4
            · exact q
          generalize aLk g b th p i.toNat = w at es w0 w1 w2 hw4 hin ⊢
          have hbw := hb.2 w w0 (by omega) w2
          have hvw := hd.2.2.2.2.2.1 (b w) p hbw.1 hbw.2 hp.1 hp.2
          have hvbw := hg.2.2.2.2.1 (b w) p hbw.1 hbw.2 hp.1 hp.2
          have hrw := hr w w0 (by omega)
          refine S.iload (pc' := 8) dX12_likes_6 rfl rfl ?_
          refine S.iconst (pc' := 9) dX12_likes_8 rfl ?_
          refine S.icmp_ge (pc' := 12) (tgt := 111) dX12_likes_9 (by decide) rfl (by unfold fp_rng; omega) (by unfold fp_rng; omega) (fun h9 => ?_) (fun h9 => ?_)
          · exfalso; omega
          · refine S.iload_n (pc' := 13) dX12_likes_12 rfl rfl rfl ?_
            refine S.iload (pc' := 15) dX12_likes_13 rfl rfl ?_
            refine S.ishr (pc' := 16) dX12_likes_15 rfl (fp_shrv (by omega) (by omega)) ?_
            refine S.iconst (pc' := 17) dX12_likes_16 rfl ?_
            refine S.iand (pc' := 18) dX12_likes_17 rfl (fp_iand hdn (by decide)) ?_
            refine S.iconst (pc' := 19) dX12_likes_18 rfl ?_
            refine S.icmp_ne (pc' := 22) (tgt := 105) dX12_likes_19 (by decide) rfl (by rw [hbit]; unfold fp_rng; omega) (by unfold fp_rng; omega) (fun h19 => ?_) (fun h19 => ?_)
            · refine S.iinc (pc' := 108) (LL' := [_, _, _, _, _, _, _]) dX12_likes_105 rfl (by decide) rfl rfl rfl ?_
              refine S.goto (pc' := 6) dX12_likes_108 (by decide) ?_
              try (exfalso; omega)
              all_goals
                have e9 := fun o5 o6 => ih (i + 1) o5 o6 (by omega) (by omega) (by omega)
                first | (rw [if_pos ⟨ht, by omega⟩] at es; rw [es] at e9; exact e9 _ _) | (rw [if_neg (fun q => by omega)] at es; rw [es] at e9; exact e9 _ _)
            · refine S.aload_n (pc' := 23) dX12_likes_22 rfl rfl rfl ?_
              refine S.getR (pc' := 26) dX12_likes_23 rfl fX12_16 L_177 rf_177_2 ?_
              refine S.iconst (pc' := 27) dX12_likes_26 rfl ?_
              refine S.aload_n (pc' := 28) dX12_likes_27 rfl rfl rfl ?_
              refine S.getR (pc' := 31) dX12_likes_28 rfl fX12_69 L_177 rf_177_37 ?_
              refine S.iload (pc' := 33) dX12_likes_31 rfl rfl ?_
              refine S.iald (pc' := 34) dX12_likes_33 rfl L_196 (by omega) (by omega) ?_
              rw [hri]
              refine S.imul (pc' := 35) dX12_likes_34 rfl ?_
              refine S.iload_n (pc' := 36) dX12_likes_35 rfl rfl rfl ?_
              refine S.iadd (pc' := 37) dX12_likes_36 rfl ?_
              refine S.iald (pc' := 38) dX12_likes_37 rfl L_180 (by omega) (by omega) ?_
              refine S.istore (pc' := 40) (LL' := [_, _, _, _, _, _, _]) dX12_likes_38 rfl (by decide) rfl rfl ?_
              refine S.iload_n (pc' := 41) dX12_likes_40 rfl rfl rfl ?_
              refine S.bipush (pc' := 43) dX12_likes_41 rfl (by decide) ?_
              refine S.icmp_ne (pc' := 46) (tgt := 51) dX12_likes_43 (by decide) rfl (by unfold fp_rng; omega) (by unfold fp_rng; omega) (fun h43 => ?_) (fun h43 => ?_)
              · refine S.aload_n (pc' := 52) dX12_likes_51 rfl rfl rfl ?_
                refine S.getR (pc' := 55) dX12_likes_52 rfl fX12_16 L_177 rf_177_2 ?_
                refine S.iconst (pc' := 56) dX12_likes_55 rfl ?_
                refine S.aload_n (pc' := 57) dX12_likes_56 rfl rfl rfl ?_
                refine S.getR (pc' := 60) dX12_likes_57 rfl fX12_69 L_177 rf_177_37 ?_
                refine S.iload_n (pc' := 61) dX12_likes_60 rfl rfl rfl ?_
                refine S.iald (pc' := 62) dX12_likes_61 rfl L_196 (by omega) (by omega) ?_
                rw [hrw]
                refine S.imul (pc' := 63) dX12_likes_62 rfl ?_
                refine S.iload_n (pc' := 64) dX12_likes_63 rfl rfl rfl ?_
                refine S.iadd (pc' := 65) dX12_likes_64 rfl ?_
                refine S.iald (pc' := 66) dX12_likes_65 rfl L_180 (by omega) (by omega) ?_
                refine S.istore (pc' := 68) (LL' := [_, _, _, _, _, _, _]) dX12_likes_66 rfl (by decide) rfl rfl ?_
                refine S.iload (pc' := 70) dX12_likes_68 rfl rfl ?_
                refine S.iload (pc' := 72) dX12_likes_70 rfl rfl ?_
                refine S.icmp_gt (pc' := 75) (tgt := 98) dX12_likes_72 (by decide) rfl (by unfold fp_rng; omega) (by unfold fp_rng; omega) (fun h72 => ?_) (fun h72 => ?_)
                · refine S.iload (pc' := 100) dX12_likes_98 rfl rfl ?_
                  refine S.goto (pc' := 104) dX12_likes_100 (by decide) ?_
                  refine S.istore_n (pc' := 105) (LL' := [_, _, _, _, _, _, _]) dX12_likes_104 rfl (by decide) rfl rfl rfl ?_
                  refine S.iinc (pc' := 108) (LL' := [_, _, _, _, _, _, _]) dX12_likes_105 rfl (by decide) rfl rfl rfl ?_
                  refine S.goto (pc' := 6) dX12_likes_108 (by decide) ?_
                  try (exfalso; omega)
                  all_goals
                    have e9 := fun o5 o6 => ih (i + 1) o5 o6 (by omega) (by omega) (by omega)
                    first | (rw [if_pos ⟨ht, by omega⟩] at es; rw [es] at e9; exact e9 _ _) | (rw [if_neg (fun q => by omega)] at es; rw [es] at e9; exact e9 _ _)
                · refine S.iload (pc' := 77) dX12_likes_75 rfl rfl ?_
                  refine S.iload (pc' := 79) dX12_likes_77 rfl rfl ?_
                  refine S.icmp_ne (pc' := 82) (tgt := 103) dX12_likes_79 (by decide) rfl (by unfold fp_rng; omega) (by unfold fp_rng; omega) (fun h79 => ?_) (fun h79 => ?_)
                  · refine S.iload_n (pc' := 104) dX12_likes_103 rfl rfl rfl ?_
                    refine S.istore_n (pc' := 105) (LL' := [_, _, _, _, _, _, _]) dX12_likes_104 rfl (by decide) rfl rfl rfl ?_
                    refine S.iinc (pc' := 108) (LL' := [_, _, _, _, _, _, _]) dX12_likes_105 rfl (by decide) rfl rfl rfl ?_
                    refine S.goto (pc' := 6) dX12_likes_108 (by decide) ?_
                    try (exfalso; omega)
                    all_goals
                      have e9 := fun o5 o6 => ih (i + 1) o5 o6 (by omega) (by omega) (by omega)
                      first | (rw [if_pos ⟨ht, by omega⟩] at es; rw [es] at e9; exact e9 _ _) | (rw [if_neg (fun q => by omega)] at es; rw [es] at e9; exact e9 _ _)
                  · refine S.aload_n (pc' := 83) dX12_likes_82 rfl rfl rfl ?_
                    refine S.getR (pc' := 86) dX12_likes_83 rfl fX12_69 L_177 rf_177_37 ?_
                    refine S.iload (pc' := 88) dX12_likes_86 rfl rfl ?_
                    refine S.iald (pc' := 89) dX12_likes_88 rfl L_196 (by omega) (by omega) ?_
                    refine S.aload_n (pc' := 90) dX12_likes_89 rfl rfl rfl ?_
                    refine S.getR (pc' := 93) dX12_likes_90 rfl fX12_69 L_177 rf_177_37 ?_
                    refine S.iload_n (pc' := 94) dX12_likes_93 rfl rfl rfl ?_
                    refine S.iald (pc' := 95) dX12_likes_94 rfl L_196 (by omega) (by omega) ?_
                    refine S.icmp_ge (pc' := 98) (tgt := 103) dX12_likes_95 (by decide) rfl (by unfold fp_rng; omega) (by unfold fp_rng; omega) (fun h95 => ?_) (fun h95 => ?_)
                    · refine S.iload_n (pc' := 104) dX12_likes_103 rfl rfl rfl ?_
                      refine S.istore_n (pc' := 105) (LL' := [_, _, _, _, _, _, _]) dX12_likes_104 rfl (by decide) rfl rfl rfl ?_
                      refine S.iinc (pc' := 108) (LL' := [_, _, _, _, _, _, _]) dX12_likes_105 rfl (by decide) rfl rfl rfl ?_
                      refine S.goto (pc' := 6) dX12_likes_108 (by decide) ?_
                      try (exfalso; omega)
                      all_goals
                        have e9 := fun o5 o6 => ih (i + 1) o5 o6 (by omega) (by omega) (by omega)
                        first | (rw [if_pos ⟨ht, by omega⟩] at es; rw [es] at e9; exact e9 _ _) | (rw [if_neg (fun q => by omega)] at es; rw [es] at e9; exact e9 _ _)
                    · refine S.iload (pc' := 100) dX12_likes_98 rfl rfl ?_
                      refine S.goto (pc' := 104) dX12_likes_100 (by decide) ?_
                      refine S.istore_n (pc' := 105) (LL' := [_, _, _, _, _, _, _]) dX12_likes_104 rfl (by decide) rfl rfl rfl ?_
                      refine S.iinc (pc' := 108) (LL' := [_, _, _, _, _, _, _]) dX12_likes_105 rfl (by decide) rfl rfl rfl ?_
                      refine S.goto (pc' := 6) dX12_likes_108 (by decide) ?_
                      try (exfalso; omega)
                      all_goals
                        have e9 := fun o5 o6 => ih (i + 1) o5 o6 (by omega) (by omega) (by omega)
                        first | (rw [if_pos ⟨ht, by omega⟩] at es; rw [es] at e9; exact e9 _ _) | (rw [if_neg (fun q => by omega)] at es; rw [es] at e9; exact e9 _ _)
              · exfalso; omega
      · rw [if_neg ht] at hbit
        rw [if_neg (fun q => ht q.1)] at es
        refine S.iload (pc' := 8) dX12_likes_6 rfl rfl ?_
        refine S.iconst (pc' := 9) dX12_likes_8 rfl ?_
        refine S.icmp_ge (pc' := 12) (tgt := 111) dX12_likes_9 (by decide) rfl (by unfold fp_rng; omega) (by unfold fp_rng; omega) (fun h9 => ?_) (fun h9 => ?_)
        · exfalso; omega
        · refine S.iload_n (pc' := 13) dX12_likes_12 rfl rfl rfl ?_
          refine S.iload (pc' := 15) dX12_likes_13 rfl rfl ?_
          refine S.ishr (pc' := 16) dX12_likes_15 rfl (fp_shrv (by omega) (by omega)) ?_
          refine S.iconst (pc' := 17) dX12_likes_16 rfl ?_
          refine S.iand (pc' := 18) dX12_likes_17 rfl (fp_iand hdn (by decide)) ?_
          refine S.iconst (pc' := 19) dX12_likes_18 rfl ?_
          refine S.icmp_ne (pc' := 22) (tgt := 105) dX12_likes_19 (by decide) rfl (by rw [hbit]; unfold fp_rng; omega) (by unfold fp_rng; omega) (fun h19 => ?_) (fun h19 => ?_)
          · refine S.iinc (pc' := 108) (LL' := [_, _, _, _, _, _, _]) dX12_likes_105 rfl (by decide) rfl rfl rfl ?_
            refine S.goto (pc' := 6) dX12_likes_108 (by decide) ?_
            rw [← es]; exact ih _ _ _ (by omega) (by omega) (by omega)
          · exfalso; omega
    · have e4 : i.toNat = 4 := by omega
      rw [e4]
      refine S.iload (pc' := 8) dX12_likes_6 rfl rfl ?_
      refine S.iconst (pc' := 9) dX12_likes_8 rfl ?_
      refine S.icmp_ge (pc' := 12) (tgt := 111) dX12_likes_9 (by decide) rfl (by unfold fp_rng; omega) (by unfold fp_rng; omega) (fun h9 => ?_) (fun h9 => ?_)
      · refine S.iload_n (pc' := 112) dX12_likes_111 rfl rfl rfl ?_
        refine S.iret dX12_likes_112 rfl ?_
        exact ⟨rfl, rfl⟩
      · exfalso; omega
theorem rk_X12_likes {b : Int → Int} {th p : Int} (hp : 0 ≤ p ∧ p < 4) (hb : bOk g b th) (hg : gOk g) (hd : mdIs M g) (hr : ∀ q : Int, 0 ≤ q → q < 4 → M 196 q.toNat = b q) : fp_Ok l G 0 kX12_likes [rV G 177, iV p, iV th] M (qE (aLk g b th p 4) M) := by
  refine fp_Ok.of (r := 4) rfl (Nat.le_of_ble_eq_true rfl) rfl ?_
  refine S.bipush (pc' := 2) dX12_likes_0 rfl (by decide) ?_
  refine S.istore_n (pc' := 3) (LL' := [_, _, _, _, _, _, _]) dX12_likes_2 rfl (by decide) rfl rfl rfl ?_
  refine S.iconst (pc' := 4) dX12_likes_3 rfl ?_
  refine S.istore (pc' := 6) (LL' := [_, _, _, _, _, _, _]) dX12_likes_4 rfl (by decide) rfl rfl ?_
  exact mlikes_loop hp hb hg hd hr 5 0 none none (by omega) (by omega) (by omega)
theorem bk_X7_isThere {th q : Int} (hth : 0 ≤ th ∧ th < 16) (hm : M 136 4 = th) (hq : 0 ≤ q ∧ q < 4) : fp_Ok l G 0 kX7_isThere [rV G 136, iV q] M (qI fun z N => ((z = 1 ∧ th.toNat.testBit q.toNat = true) ∨ (z = 0 ∧ ¬ th.toNat.testBit q.toNat = true)) ∧ M = N) := by
  refine fp_Ok.of (r := 0) rfl (Nat.le_of_ble_eq_true rfl) rfl ?_
  have hb := fp_bit2 hth hq
  have hp := fp_pow_le (i := q) (n := 4) (by omega)
  have h16 : (2 : Int) ^ 4 = 16 := by decide
  by_cases ht : th.toNat.testBit q.toNat = true
  · rw [if_pos ht] at hb
    refine S.aload_n (pc' := 1) dX7_isThere_0 rfl rfl rfl ?_
    refine S.getI (pc' := 4) dX7_isThere_1 rfl fX7_36 L_136 ?_
    rw [hm]
    refine S.iconst (pc' := 5) dX7_isThere_4 rfl ?_
    refine S.iload_n (pc' := 6) dX7_isThere_5 rfl rfl rfl ?_
    refine S.ishl (pc' := 7) dX7_isThere_6 rfl (fp_shl1 (by omega) (by omega)) ?_
    refine S.iand (pc' := 8) dX7_isThere_7 rfl (fp_iand hth.1 (by omega)) ?_
    refine S.if_eq (pc' := 11) (tgt := 15) dX7_isThere_8 (by decide) rfl (by unfold fp_rng; omega) (fun h8 => ?_) (fun h8 => ?_)
    · exfalso; omega
    · refine S.iconst (pc' := 12) dX7_isThere_11 rfl ?_
      refine S.goto (pc' := 16) dX7_isThere_12 (by decide) ?_
      refine S.zret dX7_isThere_16 rfl (by first | exact Or.inl rfl | exact Or.inr rfl | omega) ?_
      exact ⟨Or.inl ⟨rfl, ht⟩, rfl⟩
  · rw [if_neg ht] at hb
    refine S.aload_n (pc' := 1) dX7_isThere_0 rfl rfl rfl ?_
    refine S.getI (pc' := 4) dX7_isThere_1 rfl fX7_36 L_136 ?_
    rw [hm]
    refine S.iconst (pc' := 5) dX7_isThere_4 rfl ?_
    refine S.iload_n (pc' := 6) dX7_isThere_5 rfl rfl rfl ?_
    refine S.ishl (pc' := 7) dX7_isThere_6 rfl (fp_shl1 (by omega) (by omega)) ?_
    refine S.iand (pc' := 8) dX7_isThere_7 rfl (fp_iand hth.1 (by omega)) ?_
    refine S.if_eq (pc' := 11) (tgt := 15) dX7_isThere_8 (by decide) rfl (by unfold fp_rng; omega) (fun h8 => ?_) (fun h8 => ?_)
    · refine S.iconst (pc' := 16) dX7_isThere_15 rfl ?_
      refine S.zret dX7_isThere_16 rfl (by first | exact Or.inl rfl | exact Or.inr rfl | omega) ?_
      exact ⟨Or.inr ⟨rfl, ht⟩, rfl⟩
    · exfalso; omega
theorem bk_X7_likesBetter {p t u : Int} (hp : 0 ≤ p ∧ p < 4) (ht : 0 ≤ t ∧ t < g.1) (hu : 0 ≤ u ∧ u < g.1) (hg : gOk g) (hd : gdIs M 18 g) : fp_Ok l G 1 kX7_likesBetter [rV G 18, iV p, iV t, iV u] M (qI fun z N => ((z = 1 ∧ (g.2.2.2.2.1 u p < g.2.2.2.2.1 t p ∨ (g.2.2.2.2.1 t p = g.2.2.2.2.1 u p ∧ t < u))) ∨ (z = 0 ∧ ¬ (g.2.2.2.2.1 u p < g.2.2.2.2.1 t p ∨ (g.2.2.2.2.1 t p = g.2.2.2.2.1 u p ∧ t < u)))) ∧ M = N) := by
  have hg1 := hg.1
  have v1 : M (18 + 2) (t * 4 + p).toNat = g.2.2.2.2.1 t p := hd.2.2.2.2.2.1 t p ht.1 ht.2 hp.1 hp.2
  have v2 : M (18 + 2) (u * 4 + p).toNat = g.2.2.2.2.1 u p := hd.2.2.2.2.2.1 u p hu.1 hu.2 hp.1 hp.2
  have b1 := hg.2.2.2.2.1 t p ht.1 ht.2 hp.1 hp.2
  have b2 := hg.2.2.2.2.1 u p hu.1 hu.2 hp.1 hp.2
  refine fp_Ok.of (r := 1) rfl (Nat.le_of_ble_eq_true rfl) rfl ?_
  refine S.aload_n (pc' := 1) dX7_likesBetter_0 rfl rfl rfl ?_
  refine S.iload_n (pc' := 2) dX7_likesBetter_1 rfl rfl rfl ?_
  refine S.iload_n (pc' := 3) dX7_likesBetter_2 rfl rfl rfl ?_
  refine S.callVe (pc' := 6) dX7_likesBetter_3 rfl cX7_53 (ok_X1_valueTo gd18) rfl (gd_lay gd18) (by decide) rfl (Nat.le_of_ble_eq_true rfl) ?_
  refine S.aload_n (pc' := 7) dX7_likesBetter_6 rfl rfl rfl ?_
  refine S.iload_n (pc' := 8) dX7_likesBetter_7 rfl rfl rfl ?_
  refine S.iload_n (pc' := 9) dX7_likesBetter_8 rfl rfl rfl ?_
  refine S.callVe (pc' := 12) dX7_likesBetter_9 rfl cX7_53 (ok_X1_valueTo gd18) rfl (gd_lay gd18) (by decide) rfl (Nat.le_of_ble_eq_true rfl) ?_
  refine S.isub (pc' := 13) dX7_likesBetter_12 rfl ?_
  refine S.istore (pc' := 15) (LL' := [_, _, _, _, _]) dX7_likesBetter_13 rfl (by decide) rfl rfl ?_
  refine S.iload (pc' := 17) dX7_likesBetter_15 rfl rfl ?_
  refine S.if_gt (pc' := 20) (tgt := 30) dX7_likesBetter_17 (by decide) rfl (by unfold fp_rng; omega) (fun h17 => ?_) (fun h17 => ?_)
  · refine S.iconst (pc' := 31) dX7_likesBetter_30 rfl ?_
    refine S.goto (pc' := 35) dX7_likesBetter_31 (by decide) ?_
    refine S.zret dX7_likesBetter_35 rfl (by first | exact Or.inl rfl | exact Or.inr rfl | omega) ?_
    exact ⟨by omega, rfl⟩
  · refine S.iload (pc' := 22) dX7_likesBetter_20 rfl rfl ?_
    refine S.if_ne (pc' := 25) (tgt := 34) dX7_likesBetter_22 (by decide) rfl (by unfold fp_rng; omega) (fun h22 => ?_) (fun h22 => ?_)
    · refine S.iconst (pc' := 35) dX7_likesBetter_34 rfl ?_
      refine S.zret dX7_likesBetter_35 rfl (by first | exact Or.inl rfl | exact Or.inr rfl | omega) ?_
      exact ⟨by omega, rfl⟩
    · refine S.iload_n (pc' := 26) dX7_likesBetter_25 rfl rfl rfl ?_
      refine S.iload_n (pc' := 27) dX7_likesBetter_26 rfl rfl rfl ?_
      refine S.icmp_ge (pc' := 30) (tgt := 34) dX7_likesBetter_27 (by decide) rfl (by unfold fp_rng; omega) (by unfold fp_rng; omega) (fun h27 => ?_) (fun h27 => ?_)
      · refine S.iconst (pc' := 35) dX7_likesBetter_34 rfl ?_
        refine S.zret dX7_likesBetter_35 rfl (by first | exact Or.inl rfl | exact Or.inr rfl | omega) ?_
        exact ⟨by omega, rfl⟩
      · refine S.iconst (pc' := 31) dX7_likesBetter_30 rfl ?_
        refine S.goto (pc' := 35) dX7_likesBetter_31 (by decide) ?_
        refine S.zret dX7_likesBetter_35 rfl (by first | exact Or.inl rfl | exact Or.inr rfl | omega) ?_
        exact ⟨by omega, rfl⟩
theorem cpoint_in {b : Int → Int} {th p : Int} {Q : fp_Q} (hp : 0 ≤ p ∧ p < 4) (hb : bOk g b th) (hg : gOk g) (hd : gdIs N 18 g) (hm : N 136 4 = th) (hr : ∀ q : Int, 0 ≤ q → q < 4 → N 139 q.toNat = b q) (K : fp_S l G 2 kX7_point 64 [some (rV G 136), some (rV G 18), some (iV p), some (iV (aLk g b th p 4)), some (iV 4)] [] N Q) : ∀ (n : Nat) (i : Int), (4 - i).toNat < n → 0 ≤ i → i ≤ 4 →
    fp_S l G 2 kX7_point 13 [some (rV G 136), some (rV G 18), some (iV p), some (iV (aLk g b th p i.toNat)), some (iV i)] [] N Q := by
  have hg1 := hg.1
  intro n
  induction n with
  | zero => intro i h; omega
  | succ n ih =>
    intro i h i0 i1
    have es := aLk_succ (g := g) (b := b) (th := th) (p := p) i0
    have hin := aLk_in (g := g) (b := b) (th := th) (p := p) i.toNat
    by_cases hlt : i < 4
    · have hri := hr i i0 hlt
      by_cases ht : th.toNat.testBit i.toNat = true
      · have hbi := hb.2 i i0 hlt ht
        by_cases hw4 : aLk g b th p i.toNat = -4
        · rw [if_pos ⟨ht, Or.inl hw4⟩] at es
          refine S.iload (pc' := 15) dX7_point_13 rfl rfl ?_
          refine S.iconst (pc' := 16) dX7_point_15 rfl ?_
          refine S.icmp_ge (pc' := 19) (tgt := 64) dX7_point_16 (by decide) rfl (by unfold fp_rng; omega) (by unfold fp_rng; omega) (fun h16 => ?_) (fun h16 => ?_)
          · exfalso; omega
          · refine S.aload_n (pc' := 20) dX7_point_19 rfl rfl rfl ?_
            refine S.iload (pc' := 22) dX7_point_20 rfl rfl ?_
            refine S.callVi (pc' := 25) dX7_point_22 rfl cX7_45 (bk_X7_isThere hb.1 hm ⟨i0, hlt⟩) rfl L_136 (by decide) rfl (Nat.le_of_ble_eq_true rfl) (fun z22 M22 q22 => ?_)
            obtain ⟨b9, rfl⟩ := q22
            refine S.if_eq (pc' := 28) (tgt := 58) dX7_point_25 (by decide) rfl (by unfold fp_rng; omega) (fun h25 => ?_) (fun h25 => ?_)
            · refine S.iinc (pc' := 61) (LL' := [_, _, _, _, _]) dX7_point_58 rfl (by decide) rfl rfl rfl ?_
              refine S.goto (pc' := 13) dX7_point_61 (by decide) ?_
              rcases b9 with q9 | q9
              · first | (exfalso; omega) | (have e9 := ih (i + 1) (by omega) (by omega) (by omega); rw [es] at e9; exact e9)
              · exact absurd ht q9.2
            · refine S.iload_n (pc' := 29) dX7_point_28 rfl rfl rfl ?_
              refine S.bipush (pc' := 31) dX7_point_29 rfl (by decide) ?_
              refine S.icmp_eq (pc' := 34) (tgt := 55) dX7_point_31 (by decide) rfl (by unfold fp_rng; omega) (by unfold fp_rng; omega) (fun h31 => ?_) (fun h31 => ?_)
              · refine S.iload (pc' := 57) dX7_point_55 rfl rfl ?_
                refine S.istore_n (pc' := 58) (LL' := [_, _, _, _, _]) dX7_point_57 rfl (by decide) rfl rfl rfl ?_
                refine S.iinc (pc' := 61) (LL' := [_, _, _, _, _]) dX7_point_58 rfl (by decide) rfl rfl rfl ?_
                refine S.goto (pc' := 13) dX7_point_61 (by decide) ?_
                rcases b9 with q9 | q9
                · first | (exfalso; omega) | (have e9 := ih (i + 1) (by omega) (by omega) (by omega); rw [es] at e9; exact e9)
                · exact absurd ht q9.2
              · exfalso; omega
        · obtain ⟨w0, w1, w2⟩ : 0 ≤ aLk g b th p i.toNat ∧ aLk g b th p i.toNat < i.toNat ∧ th.toNat.testBit (aLk g b th p i.toNat).toNat = true := by
            rcases hin with q | q
            · exact absurd q hw4
            · exact q
          generalize aLk g b th p i.toNat = w at es w0 w1 w2 hw4 hin ⊢
          have hbw := hb.2 w w0 (by omega) w2
          have hrw := hr w w0 (by omega)
          refine S.iload (pc' := 15) dX7_point_13 rfl rfl ?_
          refine S.iconst (pc' := 16) dX7_point_15 rfl ?_
          refine S.icmp_ge (pc' := 19) (tgt := 64) dX7_point_16 (by decide) rfl (by unfold fp_rng; omega) (by unfold fp_rng; omega) (fun h16 => ?_) (fun h16 => ?_)
          · exfalso; omega
          · refine S.aload_n (pc' := 20) dX7_point_19 rfl rfl rfl ?_
            refine S.iload (pc' := 22) dX7_point_20 rfl rfl ?_
            refine S.callVi (pc' := 25) dX7_point_22 rfl cX7_45 (bk_X7_isThere hb.1 hm ⟨i0, hlt⟩) rfl L_136 (by decide) rfl (Nat.le_of_ble_eq_true rfl) (fun z22 M22 q22 => ?_)
            obtain ⟨b9, rfl⟩ := q22
            refine S.if_eq (pc' := 28) (tgt := 58) dX7_point_25 (by decide) rfl (by unfold fp_rng; omega) (fun h25 => ?_) (fun h25 => ?_)
            · refine S.iinc (pc' := 61) (LL' := [_, _, _, _, _]) dX7_point_58 rfl (by decide) rfl rfl rfl ?_
              refine S.goto (pc' := 13) dX7_point_61 (by decide) ?_
              rcases b9 with q9 | q9
              · have e9 := ih (i + 1) (by omega) (by omega) (by omega)
                first | (exfalso; omega) | (rw [if_pos ⟨ht, by omega⟩] at es; rw [es] at e9; exact e9) | (rw [if_neg (fun q => by omega)] at es; rw [es] at e9; exact e9)
              · exact absurd ht q9.2
            · refine S.iload_n (pc' := 29) dX7_point_28 rfl rfl rfl ?_
              refine S.bipush (pc' := 31) dX7_point_29 rfl (by decide) ?_
              refine S.icmp_eq (pc' := 34) (tgt := 55) dX7_point_31 (by decide) rfl (by unfold fp_rng; omega) (by unfold fp_rng; omega) (fun h31 => ?_) (fun h31 => ?_)
              · refine S.iload (pc' := 57) dX7_point_55 rfl rfl ?_
                refine S.istore_n (pc' := 58) (LL' := [_, _, _, _, _]) dX7_point_57 rfl (by decide) rfl rfl rfl ?_
                refine S.iinc (pc' := 61) (LL' := [_, _, _, _, _]) dX7_point_58 rfl (by decide) rfl rfl rfl ?_
                refine S.goto (pc' := 13) dX7_point_61 (by decide) ?_
                rcases b9 with q9 | q9
                · have e9 := ih (i + 1) (by omega) (by omega) (by omega)
                  first | (exfalso; omega) | (rw [if_pos ⟨ht, by omega⟩] at es; rw [es] at e9; exact e9) | (rw [if_neg (fun q => by omega)] at es; rw [es] at e9; exact e9)
                · exact absurd ht q9.2
              · refine S.aload_n (pc' := 35) dX7_point_34 rfl rfl rfl ?_
                refine S.iload_n (pc' := 36) dX7_point_35 rfl rfl rfl ?_
                refine S.aload_n (pc' := 37) dX7_point_36 rfl rfl rfl ?_
                refine S.getR (pc' := 40) dX7_point_37 rfl fX7_18 L_136 rf_136_2 ?_
                refine S.iload (pc' := 42) dX7_point_40 rfl rfl ?_
                refine S.iald (pc' := 43) dX7_point_42 rfl L_139 (by omega) (by omega) ?_
                refine S.aload_n (pc' := 44) dX7_point_43 rfl rfl rfl ?_
                refine S.getR (pc' := 47) dX7_point_44 rfl fX7_18 L_136 rf_136_2 ?_
                refine S.iload_n (pc' := 48) dX7_point_47 rfl rfl rfl ?_
                refine S.iald (pc' := 49) dX7_point_48 rfl L_139 (by omega) (by omega) ?_
                rw [hri, hrw]
                refine S.callSi (pc' := 52) dX7_point_49 rfl cX7_49 (bk_X7_likesBetter hp hbi hbw hg hd) rfl (by decide) rfl (Nat.le_of_ble_eq_true rfl) (fun z49 M49 q49 => ?_)
                obtain ⟨b8, rfl⟩ := q49
                refine S.if_eq (pc' := 55) (tgt := 58) dX7_point_52 (by decide) rfl (by unfold fp_rng; omega) (fun h52 => ?_) (fun h52 => ?_)
                · refine S.iinc (pc' := 61) (LL' := [_, _, _, _, _]) dX7_point_58 rfl (by decide) rfl rfl rfl ?_
                  refine S.goto (pc' := 13) dX7_point_61 (by decide) ?_
                  rcases b9 with q9 | q9
                  · have e9 := ih (i + 1) (by omega) (by omega) (by omega)
                    first | (exfalso; omega) | (rw [if_pos ⟨ht, by omega⟩] at es; rw [es] at e9; exact e9) | (rw [if_neg (fun q => by omega)] at es; rw [es] at e9; exact e9)
                  · exact absurd ht q9.2
                · refine S.iload (pc' := 57) dX7_point_55 rfl rfl ?_
                  refine S.istore_n (pc' := 58) (LL' := [_, _, _, _, _]) dX7_point_57 rfl (by decide) rfl rfl rfl ?_
                  refine S.iinc (pc' := 61) (LL' := [_, _, _, _, _]) dX7_point_58 rfl (by decide) rfl rfl rfl ?_
                  refine S.goto (pc' := 13) dX7_point_61 (by decide) ?_
                  rcases b9 with q9 | q9
                  · have e9 := ih (i + 1) (by omega) (by omega) (by omega)
                    first | (exfalso; omega) | (rw [if_pos ⟨ht, by omega⟩] at es; rw [es] at e9; exact e9) | (rw [if_neg (fun q => by omega)] at es; rw [es] at e9; exact e9)
                  · exact absurd ht q9.2
      · rw [if_neg (fun q => ht q.1)] at es
        refine S.iload (pc' := 15) dX7_point_13 rfl rfl ?_
        refine S.iconst (pc' := 16) dX7_point_15 rfl ?_
        refine S.icmp_ge (pc' := 19) (tgt := 64) dX7_point_16 (by decide) rfl (by unfold fp_rng; omega) (by unfold fp_rng; omega) (fun h16 => ?_) (fun h16 => ?_)
        · exfalso; omega
        · refine S.aload_n (pc' := 20) dX7_point_19 rfl rfl rfl ?_
          refine S.iload (pc' := 22) dX7_point_20 rfl rfl ?_
          refine S.callVi (pc' := 25) dX7_point_22 rfl cX7_45 (bk_X7_isThere hb.1 hm ⟨i0, hlt⟩) rfl L_136 (by decide) rfl (Nat.le_of_ble_eq_true rfl) (fun z22 M22 q22 => ?_)
          obtain ⟨b9, rfl⟩ := q22
          refine S.if_eq (pc' := 28) (tgt := 58) dX7_point_25 (by decide) rfl (by unfold fp_rng; omega) (fun h25 => ?_) (fun h25 => ?_)
          · refine S.iinc (pc' := 61) (LL' := [_, _, _, _, _]) dX7_point_58 rfl (by decide) rfl rfl rfl ?_
            refine S.goto (pc' := 13) dX7_point_61 (by decide) ?_
            have e9 := ih (i + 1) (by omega) (by omega) (by omega)
            rw [es] at e9
            exact e9
          · rcases b9 with q9 | q9
            · exact absurd q9.2 ht
            · exfalso; omega
    · have e4 : i = 4 := by omega
      subst e4
      refine S.iload (pc' := 15) dX7_point_13 rfl rfl ?_
      refine S.iconst (pc' := 16) dX7_point_15 rfl ?_
      refine S.icmp_ge (pc' := 19) (tgt := 64) dX7_point_16 (by decide) rfl (by unfold fp_rng; omega) (by unfold fp_rng; omega) (fun h16 => ?_) (fun h16 => ?_)
      · exact K
      · exfalso; omega
theorem cpoint_out {b : Int → Int} {th : Int} (hb : bOk g b th) (hg : gOk g) (hd : gdIs M 18 g) (hm : M 136 4 = th) (hr : ∀ q : Int, 0 ≤ q → q < 4 → M 139 q.toNat = b q) : ∀ (n : Nat) (p : Int) (N : fp_Mem) (o3 o4 : Option Value), (4 - p).toNat < n → 0 ≤ p → p ≤ 4 → (∀ a, a ≠ 140 → N a = M a) → (∀ y : Int, 0 ≤ y → y < p → N 140 y.toNat = aLk g b th y 4) →
    fp_S l G 2 kX7_point 2 [some (rV G 136), some (rV G 18), some (iV p), o3, o4] [] N (qV fun O => (∀ a, a ≠ 140 → O a = M a) ∧ ∀ y : Int, 0 ≤ y → y < 4 → O 140 y.toNat = aLk g b th y 4) := by
  intro n
  induction n with
  | zero => intro p N o3 o4 h; omega
  | succ n ih =>
    intro p N o3 o4 h p0 p1 e1 e2
    by_cases hlt : p < 4
    · have hd' : gdIs N 18 g := hd.kept (fun a q1 q2 => e1 a (by omega))
      have hK : fp_S l G 2 kX7_point 64 [some (rV G 136), some (rV G 18), some (iV p), some (iV (aLk g b th p 4)), some (iV 4)] [] N (qV fun O => (∀ a, a ≠ 140 → O a = M a) ∧ ∀ y : Int, 0 ≤ y → y < 4 → O 140 y.toNat = aLk g b th y 4) := by
        refine S.aload_n (pc' := 65) dX7_point_64 rfl rfl rfl ?_
        refine S.getR (pc' := 68) dX7_point_65 rfl fX7_21 L_136 rf_136_3 ?_
        refine S.iload_n (pc' := 69) dX7_point_68 rfl rfl rfl ?_
        refine S.iload_n (pc' := 70) dX7_point_69 rfl rfl rfl ?_
        refine S.iast (pc' := 71) dX7_point_70 rfl L_140 (by omega) (by omega) ?_
        refine S.iinc (pc' := 74) (LL' := [_, _, _, _, _]) dX7_point_71 rfl (by decide) rfl rfl rfl ?_
        refine S.goto (pc' := 2) dX7_point_74 (by decide) ?_
        refine ih _ _ _ _ (by omega) (by omega) (by omega) (fun a ha => by rw [fp_up_ne ha]; exact e1 a ha) (fun y y0 y1 => ?_)
        rw [fp_up_at]
        by_cases e : y = p
        · subst e; rw [fp_upf_at]
        · rw [fp_upf_ne (by omega)]; exact e2 y y0 (by omega)
      refine S.iload_n (pc' := 3) dX7_point_2 rfl rfl rfl ?_
      refine S.iconst (pc' := 4) dX7_point_3 rfl ?_
      refine S.icmp_ge (pc' := 7) (tgt := 77) dX7_point_4 (by decide) rfl (by unfold fp_rng; omega) (by unfold fp_rng; omega) (fun h4 => ?_) (fun h4 => ?_)
      · exfalso; omega
      · refine S.bipush (pc' := 9) dX7_point_7 rfl (by decide) ?_
        refine S.istore_n (pc' := 10) (LL' := [_, _, _, _, _]) dX7_point_9 rfl (by decide) rfl rfl rfl ?_
        refine S.iconst (pc' := 11) dX7_point_10 rfl ?_
        refine S.istore (pc' := 13) (LL' := [_, _, _, _, _]) dX7_point_11 rfl (by decide) rfl rfl ?_
        exact cpoint_in ⟨p0, hlt⟩ hb hg hd' (by rw [e1 136 (by decide)]; exact hm) (fun q q0 q1 => by rw [e1 139 (by decide)]; exact hr q q0 q1) hK 5 0 (by omega) (by omega) (by omega)
    · refine S.iload_n (pc' := 3) dX7_point_2 rfl rfl rfl ?_
      refine S.iconst (pc' := 4) dX7_point_3 rfl ?_
      refine S.icmp_ge (pc' := 7) (tgt := 77) dX7_point_4 (by decide) rfl (by unfold fp_rng; omega) (by unfold fp_rng; omega) (fun h4 => ?_) (fun h4 => ?_)
      · refine S.vret dX7_point_77 rfl ?_
        exact ⟨e1, fun y y0 y1 => e2 y y0 (by omega)⟩
      · exfalso; omega
theorem rk_X7_point {b : Int → Int} {th : Int} (hb : bOk g b th) (hg : gOk g) (hd : gdIs M 18 g) (hm : M 136 4 = th) (hr : ∀ q : Int, 0 ≤ q → q < 4 → M 139 q.toNat = b q) : fp_Ok l G 2 kX7_point [rV G 136, rV G 18] M (qV fun O => (∀ a, a ≠ 140 → O a = M a) ∧ ∀ y : Int, 0 ≤ y → y < 4 → O 140 y.toNat = aLk g b th y 4) := by
  refine fp_Ok.of (r := 3) rfl (Nat.le_of_ble_eq_true rfl) rfl ?_
  refine S.iconst (pc' := 1) dX7_point_0 rfl ?_
  refine S.istore_n (pc' := 2) (LL' := [_, _, _, _, _]) dX7_point_1 rfl (by decide) rfl rfl rfl ?_
  exact cpoint_out hb hg hd hm hr 5 0 _ none none (by omega) (by omega) (by omega) (fun a ha => rfl) (fun y y0 y1 => by omega)
end RNG
end
section
/-! RINGS: the ring of one -/
def aRgC (f : Int → Int) (p : Int) : Nat → Int → Int → Int
  | 0, _, _ => 0
  | n + 1, q, m => if f q = p then fp_or m (2 ^ q.toNat) else aRgC f p n (f q) (fp_or m (2 ^ q.toNat))
def aRgM (f : Int → Int) (p : Int) : Nat → Int → Int → Int
  | 0, _, _ => 0
  | n + 1, q, s => if f q = p then fp_or s (2 ^ (f q).toNat) else aRgM f p n (f q) (fp_or s (2 ^ (f q).toNat))
theorem fp_or_swap (a b c : Int) : fp_or (fp_or a b) c = fp_or (fp_or a c) b := by
  unfold fp_or
  rw [Int.toNat_natCast, Int.toNat_natCast, Nat.or_assoc, Nat.or_comm b.toNat, ← Nat.or_assoc]
theorem aRg_eq {f : Int → Int} {p : Int} : ∀ (n : Nat) (q m s : Int), fp_or m (2 ^ q.toNat) = fp_or s (2 ^ p.toNat) → aRgC f p n q m = aRgM f p n q s
  | 0, _, _, _, _ => rfl
  | n + 1, q, m, s, h => by
    unfold aRgC aRgM
    by_cases e : f q = p
    · rw [if_pos e, if_pos e, h, e]
    · rw [if_neg e, if_neg e]
      apply aRg_eq n
      rw [h, fp_or_swap]
section RN2
variable {l : Launch} {G : fp_WG} {M N : fp_Mem} {g : aGd} {pg pg' : aPg} {k k2 : Nat}
theorem mringof_loop {b : Int → Int} {th p : Int} (hp : 0 ≤ p ∧ p < 4) (hb : bOk g b th) (hne : th ≠ 0) (hf : ∀ q : Int, 0 ≤ q → q < 4 → 0 ≤ aLk g b th q 4 ∧ aLk g b th q 4 < 4) (hg : gOk g) (hd : mdIs M g) (hr : ∀ q : Int, 0 ≤ q → q < 4 → M 196 q.toNat = b q) : ∀ (n : Nat) (i q s : Int), (4 - i).toNat = n → 0 ≤ i → i ≤ 4 → 0 ≤ q → q < 4 → 0 ≤ s →
    fp_S l G 1 kX12_ringOf 8 [some (rV G 177), some (iV p), some (iV th), some (iV s), some (iV q), some (iV i)] [] M (qE (aRgM (fun q => aLk g b th q 4) p n q s) M) := by
  intro n
  induction n with
  | zero =>
    intro i q s h i0 i1 q0 q1 s0
    refine S.iload (pc' := 10) dX12_ringOf_8 rfl rfl ?_
    refine S.iconst (pc' := 11) dX12_ringOf_10 rfl ?_
    refine S.icmp_ge (pc' := 14) (tgt := 44) dX12_ringOf_11 (by decide) rfl (by unfold fp_rng; omega) (by unfold fp_rng; omega) (fun h11 => ?_) (fun h11 => ?_)
    · refine S.iconst (pc' := 45) dX12_ringOf_44 rfl ?_
      refine S.iret dX12_ringOf_45 rfl ?_
      exact ⟨rfl, rfl⟩
    · exfalso; omega
  | succ n ih =>
    intro i q s h i0 i1 q0 q1 s0
    have hq := hf q q0 q1
    have es : aRgM (fun q => aLk g b th q 4) p (n + 1) q s = if aLk g b th q 4 = p then fp_or s (2 ^ (aLk g b th q 4).toNat) else aRgM (fun q => aLk g b th q 4) p n (aLk g b th q 4) (fp_or s (2 ^ (aLk g b th q 4).toNat)) := rfl
    rw [es]
    by_cases e : aLk g b th q 4 = p
    · rw [if_pos e]
      refine S.iload (pc' := 10) dX12_ringOf_8 rfl rfl ?_
      refine S.iconst (pc' := 11) dX12_ringOf_10 rfl ?_
      refine S.icmp_ge (pc' := 14) (tgt := 44) dX12_ringOf_11 (by decide) rfl (by unfold fp_rng; omega) (by unfold fp_rng; omega) (fun h11 => ?_) (fun h11 => ?_)
      · exfalso; omega
      · refine S.aload_n (pc' := 15) dX12_ringOf_14 rfl rfl rfl ?_
        refine S.iload (pc' := 17) dX12_ringOf_15 rfl rfl ?_
        refine S.iload_n (pc' := 18) dX12_ringOf_17 rfl rfl rfl ?_
        refine S.callVe (pc' := 21) dX12_ringOf_18 rfl cX12_318 (rk_X12_likes ⟨q0, q1⟩ hb hg hd hr) rfl L_177 (by decide) rfl (Nat.le_of_ble_eq_true rfl) ?_
        refine S.istore (pc' := 23) (LL' := [_, _, _, _, _, _]) dX12_ringOf_21 rfl (by decide) rfl rfl ?_
        refine S.iload_n (pc' := 24) dX12_ringOf_23 rfl rfl rfl ?_
        refine S.iconst (pc' := 25) dX12_ringOf_24 rfl ?_
        refine S.iload (pc' := 27) dX12_ringOf_25 rfl rfl ?_
        refine S.ishl (pc' := 28) dX12_ringOf_27 rfl (fp_shl1 (by omega) (by omega)) ?_
        refine S.ior (pc' := 29) dX12_ringOf_28 rfl (fp_ior s0 (Int.le_of_lt (Int.pow_pos (by decide)))) ?_
        refine S.istore_n (pc' := 30) (LL' := [_, _, _, _, _, _]) dX12_ringOf_29 rfl (by decide) rfl rfl rfl ?_
        refine S.iload (pc' := 32) dX12_ringOf_30 rfl rfl ?_
        refine S.iload_n (pc' := 33) dX12_ringOf_32 rfl rfl rfl ?_
        refine S.icmp_ne (pc' := 36) (tgt := 38) dX12_ringOf_33 (by decide) rfl (by unfold fp_rng; omega) (by unfold fp_rng; omega) (fun h33 => ?_) (fun h33 => ?_)
        · exfalso; omega
        · refine S.iload_n (pc' := 37) dX12_ringOf_36 rfl rfl rfl ?_
          refine S.iret dX12_ringOf_37 rfl ?_
          exact ⟨rfl, rfl⟩
    · rw [if_neg e]
      refine S.iload (pc' := 10) dX12_ringOf_8 rfl rfl ?_
      refine S.iconst (pc' := 11) dX12_ringOf_10 rfl ?_
      refine S.icmp_ge (pc' := 14) (tgt := 44) dX12_ringOf_11 (by decide) rfl (by unfold fp_rng; omega) (by unfold fp_rng; omega) (fun h11 => ?_) (fun h11 => ?_)
      · exfalso; omega
      · refine S.aload_n (pc' := 15) dX12_ringOf_14 rfl rfl rfl ?_
        refine S.iload (pc' := 17) dX12_ringOf_15 rfl rfl ?_
        refine S.iload_n (pc' := 18) dX12_ringOf_17 rfl rfl rfl ?_
        refine S.callVe (pc' := 21) dX12_ringOf_18 rfl cX12_318 (rk_X12_likes ⟨q0, q1⟩ hb hg hd hr) rfl L_177 (by decide) rfl (Nat.le_of_ble_eq_true rfl) ?_
        refine S.istore (pc' := 23) (LL' := [_, _, _, _, _, _]) dX12_ringOf_21 rfl (by decide) rfl rfl ?_
        refine S.iload_n (pc' := 24) dX12_ringOf_23 rfl rfl rfl ?_
        refine S.iconst (pc' := 25) dX12_ringOf_24 rfl ?_
        refine S.iload (pc' := 27) dX12_ringOf_25 rfl rfl ?_
        refine S.ishl (pc' := 28) dX12_ringOf_27 rfl (fp_shl1 (by omega) (by omega)) ?_
        refine S.ior (pc' := 29) dX12_ringOf_28 rfl (fp_ior s0 (Int.le_of_lt (Int.pow_pos (by decide)))) ?_
        refine S.istore_n (pc' := 30) (LL' := [_, _, _, _, _, _]) dX12_ringOf_29 rfl (by decide) rfl rfl rfl ?_
        refine S.iload (pc' := 32) dX12_ringOf_30 rfl rfl ?_
        refine S.iload_n (pc' := 33) dX12_ringOf_32 rfl rfl rfl ?_
        refine S.icmp_ne (pc' := 36) (tgt := 38) dX12_ringOf_33 (by decide) rfl (by unfold fp_rng; omega) (by unfold fp_rng; omega) (fun h33 => ?_) (fun h33 => ?_)
        · refine S.iinc (pc' := 41) (LL' := [_, _, _, _, _, _]) dX12_ringOf_38 rfl (by decide) rfl rfl rfl ?_
          refine S.goto (pc' := 8) dX12_ringOf_41 (by decide) ?_
          exact ih _ _ _ (by omega) (by omega) (by omega) (by omega) (by omega) (fp_or_nn _ _)
        · exfalso; omega
theorem rk_X12_ringOf {b : Int → Int} {th p : Int} (hp : 0 ≤ p ∧ p < 4) (hb : bOk g b th) (hne : th ≠ 0) (hf : ∀ q : Int, 0 ≤ q → q < 4 → 0 ≤ aLk g b th q 4 ∧ aLk g b th q 4 < 4) (hg : gOk g) (hd : mdIs M g) (hr : ∀ q : Int, 0 ≤ q → q < 4 → M 196 q.toNat = b q) : fp_Ok l G 1 kX12_ringOf [rV G 177, iV p, iV th] M (qE (aRgM (fun q => aLk g b th q 4) p 4 p 0) M) := by
  refine fp_Ok.of (r := 3) rfl (Nat.le_of_ble_eq_true rfl) rfl ?_
  refine S.iconst (pc' := 1) dX12_ringOf_0 rfl ?_
  refine S.istore_n (pc' := 2) (LL' := [_, _, _, _, _, _]) dX12_ringOf_1 rfl (by decide) rfl rfl rfl ?_
  refine S.iload_n (pc' := 3) dX12_ringOf_2 rfl rfl rfl ?_
  refine S.istore (pc' := 5) (LL' := [_, _, _, _, _, _]) dX12_ringOf_3 rfl (by decide) rfl rfl ?_
  refine S.iconst (pc' := 6) dX12_ringOf_5 rfl ?_
  refine S.istore (pc' := 8) (LL' := [_, _, _, _, _, _]) dX12_ringOf_6 rfl (by decide) rfl rfl ?_
  exact mringof_loop hp hb hne hf hg hd hr 4 0 p 0 (by omega) (by omega) (by omega) (by omega) (by omega) (by omega)
theorem ctake_loop {b f : Int → Int} {p : Int} (hp : 0 ≤ p ∧ p < 4) (hf : ∀ q : Int, 0 ≤ q → q < 4 → 0 ≤ f q ∧ f q < 4) (hpt : ∀ y : Int, 0 ≤ y → y < 4 → M 140 y.toNat = f y) (hr : ∀ q : Int, 0 ≤ q → q < 4 → M 139 q.toNat = b q) : ∀ (n : Nat) (i q m : Int), (4 - i).toNat = n → 0 ≤ i → i ≤ 4 → 0 ≤ q → q < 4 → 0 ≤ m →
    fp_S l G 1 kX7_takeIfInRing 17 [some (rV G 136), some (iV p), some (iV m), some (iV q), some (iV i)] [] M (qI fun z O => (aRgC f p n q m = 0 ∧ z = 0 ∧ O = M) ∨ (aRgC f p n q m ≠ 0 ∧ z = 2 ^ p.toNat ∧ O = fp_up (fp_up M 137 p.toNat (b (f p))) 138 p.toNat (aRgC f p n q m))) := by
  intro n
  induction n with
  | zero =>
    intro i q m h i0 i1 q0 q1 m0
    refine S.iload (pc' := 19) dX7_takeIfInRing_17 rfl rfl ?_
    refine S.iconst (pc' := 20) dX7_takeIfInRing_19 rfl ?_
    refine S.icmp_ge (pc' := 23) (tgt := 75) dX7_takeIfInRing_20 (by decide) rfl (by unfold fp_rng; omega) (by unfold fp_rng; omega) (fun h20 => ?_) (fun h20 => ?_)
    · refine S.iconst (pc' := 76) dX7_takeIfInRing_75 rfl ?_
      refine S.iret dX7_takeIfInRing_76 rfl ?_
      exact Or.inl ⟨rfl, rfl, rfl⟩
    · exfalso; omega
  | succ n ih =>
    intro i q m h i0 i1 q0 q1 m0
    have hq := hf q q0 q1
    have hpq := hpt q q0 q1
    have hpp := hpt p hp.1 hp.2
    have hfp := hf p hp.1 hp.2
    have hbp := hr (f p) hfp.1 hfp.2
    have es : aRgC f p (n + 1) q m = if f q = p then fp_or m (2 ^ q.toNat) else aRgC f p n (f q) (fp_or m (2 ^ q.toNat)) := rfl
    rw [es]
    by_cases e : f q = p
    · rw [if_pos e]
      have hpos : fp_or m (2 ^ q.toNat) ≠ 0 := by
        unfold fp_or
        intro h0
        have h1 : m.toNat ||| ((2 : Int) ^ q.toNat).toNat = 0 := by omega
        have h2 := (Nat.or_eq_zero_iff.mp h1).2
        have h3 : (0 : Int) < 2 ^ q.toNat := Int.pow_pos (by decide)
        omega
      refine S.iload (pc' := 19) dX7_takeIfInRing_17 rfl rfl ?_
      refine S.iconst (pc' := 20) dX7_takeIfInRing_19 rfl ?_
      refine S.icmp_ge (pc' := 23) (tgt := 75) dX7_takeIfInRing_20 (by decide) rfl (by unfold fp_rng; omega) (by unfold fp_rng; omega) (fun h20 => ?_) (fun h20 => ?_)
      · exfalso; omega
      · refine S.iload_n (pc' := 24) dX7_takeIfInRing_23 rfl rfl rfl ?_
        refine S.iconst (pc' := 25) dX7_takeIfInRing_24 rfl ?_
        refine S.iload_n (pc' := 26) dX7_takeIfInRing_25 rfl rfl rfl ?_
        refine S.ishl (pc' := 27) dX7_takeIfInRing_26 rfl (fp_shl1 (by omega) (by omega)) ?_
        refine S.ior (pc' := 28) dX7_takeIfInRing_27 rfl (fp_ior m0 (Int.le_of_lt (Int.pow_pos (by decide)))) ?_
        refine S.istore_n (pc' := 29) (LL' := [_, _, _, _, _]) dX7_takeIfInRing_28 rfl (by decide) rfl rfl rfl ?_
        refine S.aload_n (pc' := 30) dX7_takeIfInRing_29 rfl rfl rfl ?_
        refine S.getR (pc' := 33) dX7_takeIfInRing_30 rfl fX7_21 L_136 rf_136_3 ?_
        refine S.iload_n (pc' := 34) dX7_takeIfInRing_33 rfl rfl rfl ?_
        refine S.iald (pc' := 35) dX7_takeIfInRing_34 rfl L_140 (by omega) (by omega) ?_
        rw [hpq]
        refine S.istore_n (pc' := 36) (LL' := [_, _, _, _, _]) dX7_takeIfInRing_35 rfl (by decide) rfl rfl rfl ?_
        refine S.iload_n (pc' := 37) dX7_takeIfInRing_36 rfl rfl rfl ?_
        refine S.iload_n (pc' := 38) dX7_takeIfInRing_37 rfl rfl rfl ?_
        refine S.icmp_ne (pc' := 41) (tgt := 69) dX7_takeIfInRing_38 (by decide) rfl (by unfold fp_rng; omega) (by unfold fp_rng; omega) (fun h38 => ?_) (fun h38 => ?_)
        · exfalso; omega
        · refine S.aload_n (pc' := 42) dX7_takeIfInRing_41 rfl rfl rfl ?_
          refine S.getR (pc' := 45) dX7_takeIfInRing_42 rfl fX7_9 L_136 rf_136_0 ?_
          refine S.iload_n (pc' := 46) dX7_takeIfInRing_45 rfl rfl rfl ?_
          refine S.aload_n (pc' := 47) dX7_takeIfInRing_46 rfl rfl rfl ?_
          refine S.getR (pc' := 50) dX7_takeIfInRing_47 rfl fX7_18 L_136 rf_136_2 ?_
          refine S.aload_n (pc' := 51) dX7_takeIfInRing_50 rfl rfl rfl ?_
          refine S.getR (pc' := 54) dX7_takeIfInRing_51 rfl fX7_21 L_136 rf_136_3 ?_
          refine S.iload_n (pc' := 55) dX7_takeIfInRing_54 rfl rfl rfl ?_
          refine S.iald (pc' := 56) dX7_takeIfInRing_55 rfl L_140 (by omega) (by omega) ?_
          rw [hpp]
          refine S.iald (pc' := 57) dX7_takeIfInRing_56 rfl L_139 (by omega) (by omega) ?_
          rw [hbp]
          refine S.iast (pc' := 58) dX7_takeIfInRing_57 rfl L_137 (by omega) (by omega) ?_
          refine S.aload_n (pc' := 59) dX7_takeIfInRing_58 rfl rfl rfl ?_
          refine S.getR (pc' := 62) dX7_takeIfInRing_59 rfl fX7_15 L_136 rf_136_1 ?_
          refine S.iload_n (pc' := 63) dX7_takeIfInRing_62 rfl rfl rfl ?_
          refine S.iload_n (pc' := 64) dX7_takeIfInRing_63 rfl rfl rfl ?_
          refine S.iast (pc' := 65) dX7_takeIfInRing_64 rfl L_138 (by omega) (by omega) ?_
          refine S.iconst (pc' := 66) dX7_takeIfInRing_65 rfl ?_
          refine S.iload_n (pc' := 67) dX7_takeIfInRing_66 rfl rfl rfl ?_
          refine S.ishl (pc' := 68) dX7_takeIfInRing_67 rfl (fp_shl1 (by omega) (by omega)) ?_
          refine S.iret dX7_takeIfInRing_68 rfl ?_
          exact Or.inr ⟨hpos, rfl, rfl⟩
    · rw [if_neg e]
      refine S.iload (pc' := 19) dX7_takeIfInRing_17 rfl rfl ?_
      refine S.iconst (pc' := 20) dX7_takeIfInRing_19 rfl ?_
      refine S.icmp_ge (pc' := 23) (tgt := 75) dX7_takeIfInRing_20 (by decide) rfl (by unfold fp_rng; omega) (by unfold fp_rng; omega) (fun h20 => ?_) (fun h20 => ?_)
      · exfalso; omega
      · refine S.iload_n (pc' := 24) dX7_takeIfInRing_23 rfl rfl rfl ?_
        refine S.iconst (pc' := 25) dX7_takeIfInRing_24 rfl ?_
        refine S.iload_n (pc' := 26) dX7_takeIfInRing_25 rfl rfl rfl ?_
        refine S.ishl (pc' := 27) dX7_takeIfInRing_26 rfl (fp_shl1 (by omega) (by omega)) ?_
        refine S.ior (pc' := 28) dX7_takeIfInRing_27 rfl (fp_ior m0 (Int.le_of_lt (Int.pow_pos (by decide)))) ?_
        refine S.istore_n (pc' := 29) (LL' := [_, _, _, _, _]) dX7_takeIfInRing_28 rfl (by decide) rfl rfl rfl ?_
        refine S.aload_n (pc' := 30) dX7_takeIfInRing_29 rfl rfl rfl ?_
        refine S.getR (pc' := 33) dX7_takeIfInRing_30 rfl fX7_21 L_136 rf_136_3 ?_
        refine S.iload_n (pc' := 34) dX7_takeIfInRing_33 rfl rfl rfl ?_
        refine S.iald (pc' := 35) dX7_takeIfInRing_34 rfl L_140 (by omega) (by omega) ?_
        rw [hpq]
        refine S.istore_n (pc' := 36) (LL' := [_, _, _, _, _]) dX7_takeIfInRing_35 rfl (by decide) rfl rfl rfl ?_
        refine S.iload_n (pc' := 37) dX7_takeIfInRing_36 rfl rfl rfl ?_
        refine S.iload_n (pc' := 38) dX7_takeIfInRing_37 rfl rfl rfl ?_
        refine S.icmp_ne (pc' := 41) (tgt := 69) dX7_takeIfInRing_38 (by decide) rfl (by unfold fp_rng; omega) (by unfold fp_rng; omega) (fun h38 => ?_) (fun h38 => ?_)
        · refine S.iinc (pc' := 72) (LL' := [_, _, _, _, _]) dX7_takeIfInRing_69 rfl (by decide) rfl rfl rfl ?_
          refine S.goto (pc' := 17) dX7_takeIfInRing_72 (by decide) ?_
          exact ih _ _ _ (by omega) (by omega) (by omega) (by omega) (by omega) (fp_or_nn _ _)
        · exfalso; omega
theorem rk_X7_takeIfInRing {b f : Int → Int} {th p : Int} (hp : 0 ≤ p ∧ p < 4) (hth : 0 ≤ th ∧ th < 16) (hm : M 136 4 = th) (hf : ∀ q : Int, 0 ≤ q → q < 4 → 0 ≤ f q ∧ f q < 4) (hpt : ∀ y : Int, 0 ≤ y → y < 4 → M 140 y.toNat = f y) (hr : ∀ q : Int, 0 ≤ q → q < 4 → M 139 q.toNat = b q) : fp_Ok l G 1 kX7_takeIfInRing [rV G 136, iV p] M (qI fun z O => ((¬ th.toNat.testBit p.toNat = true ∨ aRgC f p 4 p 0 = 0) ∧ z = 0 ∧ O = M) ∨ (th.toNat.testBit p.toNat = true ∧ aRgC f p 4 p 0 ≠ 0 ∧ z = 2 ^ p.toNat ∧ O = fp_up (fp_up M 137 p.toNat (b (f p))) 138 p.toNat (aRgC f p 4 p 0))) := by
  refine fp_Ok.of (r := 3) rfl (Nat.le_of_ble_eq_true rfl) rfl ?_
  have hlp := ctake_loop (l := l) (G := G) hp hf hpt hr 4 0 p 0 (by omega) (by omega) (by omega) (by omega) (by omega) (by omega)
  refine S.aload_n (pc' := 1) dX7_takeIfInRing_0 rfl rfl rfl ?_
  refine S.iload_n (pc' := 2) dX7_takeIfInRing_1 rfl rfl rfl ?_
  refine S.callVi (pc' := 5) dX7_takeIfInRing_2 rfl cX7_45 (bk_X7_isThere hth hm hp) rfl L_136 (by decide) rfl (Nat.le_of_ble_eq_true rfl) (fun z2 M2 q2 => ?_)
  obtain ⟨b9, rfl⟩ := q2
  refine S.if_ne (pc' := 8) (tgt := 10) dX7_takeIfInRing_5 (by decide) rfl (by unfold fp_rng; omega) (fun h5 => ?_) (fun h5 => ?_)
  · refine S.iconst (pc' := 11) dX7_takeIfInRing_10 rfl ?_
    refine S.istore_n (pc' := 12) (LL' := [_, _, _, _, _]) dX7_takeIfInRing_11 rfl (by decide) rfl rfl rfl ?_
    refine S.iload_n (pc' := 13) dX7_takeIfInRing_12 rfl rfl rfl ?_
    refine S.istore_n (pc' := 14) (LL' := [_, _, _, _, _]) dX7_takeIfInRing_13 rfl (by decide) rfl rfl rfl ?_
    refine S.iconst (pc' := 15) dX7_takeIfInRing_14 rfl ?_
    refine S.istore (pc' := 17) (LL' := [_, _, _, _, _]) dX7_takeIfInRing_15 rfl (by decide) rfl rfl ?_
    refine hlp.wI (fun z O q => ?_)
    rcases b9 with q9 | q9
    · rcases q with q | q
      · exact Or.inl ⟨Or.inr q.1, q.2⟩
      · exact Or.inr ⟨q9.2, q⟩
    · exfalso; omega
  · refine S.iconst (pc' := 9) dX7_takeIfInRing_8 rfl ?_
    refine S.iret dX7_takeIfInRing_9 rfl ?_
    rcases b9 with q9 | q9
    · exfalso; omega
    · exact Or.inl ⟨Or.inl q9.2, rfl, rfl⟩
end RN2
end
section
/-! RINGS: what each brings -/
theorem aLk_some {g : aGd} {b : Int → Int} {th p : Int} : ∀ n : Nat, (∃ i : Nat, i < n ∧ th.toNat.testBit i = true) → aLk g b th p n ≠ -4
  | 0, h => by obtain ⟨i, h1, -⟩ := h; omega
  | n + 1, h => by
    obtain ⟨i, h1, h2⟩ := h
    unfold aLk
    split
    · omega
    · rename_i hh
      intro e
      by_cases q : i = n
      · subst q; exact hh ⟨h2, Or.inl e⟩
      · exact aLk_some n ⟨i, by omega, h2⟩ e
theorem fp_bit16 {th : Int} (h : 0 ≤ th ∧ th < 16) (hne : th ≠ 0) : ∃ i : Nat, i < 4 ∧ th.toNat.testBit i = true := by
  have q : ∀ a : Nat, a < 16 → a ≠ 0 → ∃ i : Nat, i < 4 ∧ a.testBit i = true := by decide +kernel
  exact q th.toNat (by omega) (by omega)
theorem aLk_four {g : aGd} {b : Int → Int} {th p : Int} (h : 0 ≤ th ∧ th < 16) (hne : th ≠ 0) : 0 ≤ aLk g b th p 4 ∧ aLk g b th p 4 < 4 := by
  have h1 := aLk_some (g := g) (b := b) (p := p) 4 (fp_bit16 h hne)
  rcases aLk_in (g := g) (b := b) (th := th) (p := p) 4 with q | q
  · exact absurd q h1
  · exact ⟨q.1, q.2.1⟩
def aTh (g : aGd) (pg : aPg) : Nat → Int
  | 0 => 0
  | n + 1 => if aLeast g pg n = -4 then aTh g pg n else fp_or (aTh g pg n) (2 ^ n)
theorem aTh_succ {g : aGd} {pg : aPg} {i : Int} (h : 0 ≤ i) : aTh g pg (i + 1).toNat = if aLeast g pg i = -4 then aTh g pg i.toNat else fp_or (aTh g pg i.toNat) (2 ^ i.toNat) := by
  have e1 : (i + 1).toNat = i.toNat + 1 := by omega
  rw [e1]
  show (if aLeast g pg ((i.toNat : Nat) : Int) = -4 then _ else _) = _
  rw [Int.toNat_of_nonneg h]
theorem aTh_nn (g : aGd) (pg : aPg) : ∀ n, 0 ≤ aTh g pg n
  | 0 => Int.le_refl _
  | n + 1 => by
    unfold aTh
    split
    · exact aTh_nn g pg n
    · exact fp_or_nn _ _
section RN3
variable {l : Launch} {G : fp_WG} {M N : fp_Mem} {g : aGd} {pg pg' : aPg} {k k2 : Nat}
theorem gather_loop (hc : clIs M 22 g pg) (hg : gOk g) (hlr : ∀ p : Int, 0 ≤ p → p < 4 → fp_rng (aLeast g pg p)) : ∀ (n : Nat) (p : Int) (N : fp_Mem), (4 - p).toNat < n → 0 ≤ p → p ≤ 4 → (∀ a, (a < 136 ∨ 139 < a) → N a = M a) → N 136 4 = aTh g pg p.toNat → (∀ y : Int, 0 ≤ y → y < p → N 137 y.toNat = -4 ∧ N 138 y.toNat = -4 ∧ N 139 y.toNat = aLeast g pg y) →
    fp_S l G 1 kX7_gather 7 [some (rV G 136), some (rV G 22), some (iV p)] [] N (qV fun O => (∀ a, (a < 136 ∨ 139 < a) → O a = M a) ∧ O 136 4 = aTh g pg 4 ∧ ∀ y : Int, 0 ≤ y → y < 4 → O 137 y.toNat = -4 ∧ O 138 y.toNat = -4 ∧ O 139 y.toNat = aLeast g pg y) := by
  intro n
  induction n with
  | zero => intro p N h; omega
  | succ n ih =>
    intro p N h p0 p1 e1 e2 e3
    by_cases hlt : p < 4
    · have es := aTh_succ (g := g) (pg := pg) p0
      have hnn := aTh_nn g pg p.toNat
      have hl := hlr p p0 hlt
      have hc2 : ∀ x y : Int, clIs (fp_up (fp_up N 137 p.toNat x) 138 p.toNat y) 22 g pg := fun x y => hc.kept (fun a q1 q2 => by rw [fp_up_ne (by omega), fp_up_ne (by omega)]; exact e1 a (by omega))
      have hc3 := hc2 (-4) (-4)
      have hy : ∀ O : fp_Mem, O 137 = fp_upf (N 137) p.toNat (-4) → O 138 = fp_upf (N 138) p.toNat (-4) → O 139 = fp_upf (N 139) p.toNat (aLeast g pg p) → ∀ y : Int, 0 ≤ y → y < p + 1 → O 137 y.toNat = -4 ∧ O 138 y.toNat = -4 ∧ O 139 y.toNat = aLeast g pg y := by
        intro O o1 o2 o3 y y0 y1
        rw [o1, o2, o3]
        by_cases e : y = p
        · subst e; rw [fp_upf_at, fp_upf_at, fp_upf_at]; exact ⟨rfl, rfl, rfl⟩
        · rw [fp_upf_ne (by omega), fp_upf_ne (by omega), fp_upf_ne (by omega)]; exact e3 y y0 (by omega)
      refine S.iload_n (pc' := 8) dX7_gather_7 rfl rfl rfl ?_
      refine S.iconst (pc' := 9) dX7_gather_8 rfl ?_
      refine S.icmp_ge (pc' := 12) (tgt := 68) dX7_gather_9 (by decide) rfl (by unfold fp_rng; omega) (by unfold fp_rng; omega) (fun h9 => ?_) (fun h9 => ?_)
      · exfalso; omega
      · refine S.aload_n (pc' := 13) dX7_gather_12 rfl rfl rfl ?_
        refine S.getR (pc' := 16) dX7_gather_13 rfl fX7_9 L_136 rf_136_0 ?_
        refine S.iload_n (pc' := 17) dX7_gather_16 rfl rfl rfl ?_
        refine S.bipush (pc' := 19) dX7_gather_17 rfl (by decide) ?_
        refine S.iast (pc' := 20) dX7_gather_19 rfl L_137 (by omega) (by omega) ?_
        refine S.aload_n (pc' := 21) dX7_gather_20 rfl rfl rfl ?_
        refine S.getR (pc' := 24) dX7_gather_21 rfl fX7_15 L_136 rf_136_1 ?_
        refine S.iload_n (pc' := 25) dX7_gather_24 rfl rfl rfl ?_
        refine S.bipush (pc' := 27) dX7_gather_25 rfl (by decide) ?_
        refine S.iast (pc' := 28) dX7_gather_27 rfl L_138 (by omega) (by omega) ?_
        refine S.aload_n (pc' := 29) dX7_gather_28 rfl rfl rfl ?_
        refine S.getR (pc' := 32) dX7_gather_29 rfl fX7_18 L_136 rf_136_2 ?_
        refine S.iload_n (pc' := 33) dX7_gather_32 rfl rfl rfl ?_
        refine S.aload_n (pc' := 34) dX7_gather_33 rfl rfl rfl ?_
        refine S.iload_n (pc' := 35) dX7_gather_34 rfl rfl rfl ?_
        refine S.callVe (pc' := 38) dX7_gather_35 rfl cX7_40 (rk_X5_leastHeldBy (g := g) (pg := pg) pl22) rfl (pl_lay pl22) (by decide) rfl (Nat.le_of_ble_eq_true rfl) ?_
        refine S.iast (pc' := 39) dX7_gather_38 rfl L_139 (by omega) (by omega) ?_
        refine S.aload_n (pc' := 40) dX7_gather_39 rfl rfl rfl ?_
        refine S.getR (pc' := 43) dX7_gather_40 rfl fX7_18 L_136 rf_136_2 ?_
        refine S.iload_n (pc' := 44) dX7_gather_43 rfl rfl rfl ?_
        refine S.iald (pc' := 45) dX7_gather_44 rfl L_139 (by omega) (by omega) ?_
        rw [fp_up_at, fp_upf_at]
        refine S.bipush (pc' := 47) dX7_gather_45 rfl (by decide) ?_
        refine S.icmp_eq (pc' := 50) (tgt := 62) dX7_gather_47 (by decide) rfl hl (by unfold fp_rng; omega) (fun h47 => ?_) (fun h47 => ?_)
        · refine S.iinc (pc' := 65) (LL' := [_, _, _]) dX7_gather_62 rfl (by decide) rfl rfl rfl ?_
          refine S.goto (pc' := 7) dX7_gather_65 (by decide) ?_
          first | (rw [if_neg h47] at es; refine ih _ _ (by omega) (by omega) (by omega) (fun a ha => by rw [fp_up_ne (by omega), fp_up_ne (by omega), fp_up_ne (by omega), fp_up_ne (by omega)]; exact e1 a ha) (by rw [fp_up_at, fp_upf_at, es]) (hy _ (by rw [fp_up_ne (by decide), fp_up_ne (by decide), fp_up_ne (by decide), fp_up_at]) (by rw [fp_up_ne (by decide), fp_up_ne (by decide), fp_up_at, fp_up_ne (by decide)]) (by rw [fp_up_ne (by decide), fp_up_at, fp_up_ne (by decide), fp_up_ne (by decide)]))) | (rw [if_pos h47] at es; refine ih _ _ (by omega) (by omega) (by omega) (fun a ha => by rw [fp_up_ne (by omega), fp_up_ne (by omega), fp_up_ne (by omega)]; exact e1 a ha) (by rw [fp_up_ne (by decide), fp_up_ne (by decide), fp_up_ne (by decide), e2, es]) (hy _ (by rw [fp_up_ne (by decide), fp_up_ne (by decide), fp_up_at]) (by rw [fp_up_ne (by decide), fp_up_at, fp_up_ne (by decide)]) (by rw [fp_up_at, fp_up_ne (by decide), fp_up_ne (by decide)])))
        · refine S.aload_n (pc' := 51) dX7_gather_50 rfl rfl rfl ?_
          refine S.dup (pc' := 52) dX7_gather_51 rfl rfl ?_
          refine S.getI (pc' := 55) dX7_gather_52 rfl fX7_36 L_136 ?_
          rw [fp_up_ne (show 136 ≠ 139 by decide), fp_up_ne (show 136 ≠ 138 by decide), fp_up_ne (show 136 ≠ 137 by decide), e2]
          refine S.iconst (pc' := 56) dX7_gather_55 rfl ?_
          refine S.iload_n (pc' := 57) dX7_gather_56 rfl rfl rfl ?_
          refine S.ishl (pc' := 58) dX7_gather_57 rfl (fp_shl1 (by omega) (by omega)) ?_
          refine S.ior (pc' := 59) dX7_gather_58 rfl (fp_ior hnn (Int.le_of_lt (Int.pow_pos (by decide)))) ?_
          refine S.putI (pc' := 62) dX7_gather_59 rfl fX7_36 L_136 ?_
          refine S.iinc (pc' := 65) (LL' := [_, _, _]) dX7_gather_62 rfl (by decide) rfl rfl rfl ?_
          refine S.goto (pc' := 7) dX7_gather_65 (by decide) ?_
          first | (rw [if_neg h47] at es; refine ih _ _ (by omega) (by omega) (by omega) (fun a ha => by rw [fp_up_ne (by omega), fp_up_ne (by omega), fp_up_ne (by omega), fp_up_ne (by omega)]; exact e1 a ha) (by rw [fp_up_at, fp_upf_at, es]) (hy _ (by rw [fp_up_ne (by decide), fp_up_ne (by decide), fp_up_ne (by decide), fp_up_at]) (by rw [fp_up_ne (by decide), fp_up_ne (by decide), fp_up_at, fp_up_ne (by decide)]) (by rw [fp_up_ne (by decide), fp_up_at, fp_up_ne (by decide), fp_up_ne (by decide)]))) | (rw [if_pos h47] at es; refine ih _ _ (by omega) (by omega) (by omega) (fun a ha => by rw [fp_up_ne (by omega), fp_up_ne (by omega), fp_up_ne (by omega)]; exact e1 a ha) (by rw [fp_up_ne (by decide), fp_up_ne (by decide), fp_up_ne (by decide), e2, es]) (hy _ (by rw [fp_up_ne (by decide), fp_up_ne (by decide), fp_up_at]) (by rw [fp_up_ne (by decide), fp_up_at, fp_up_ne (by decide)]) (by rw [fp_up_at, fp_up_ne (by decide), fp_up_ne (by decide)])))
    · refine S.iload_n (pc' := 8) dX7_gather_7 rfl rfl rfl ?_
      refine S.iconst (pc' := 9) dX7_gather_8 rfl ?_
      refine S.icmp_ge (pc' := 12) (tgt := 68) dX7_gather_9 (by decide) rfl (by unfold fp_rng; omega) (by unfold fp_rng; omega) (fun h9 => ?_) (fun h9 => ?_)
      · refine S.vret dX7_gather_68 rfl ?_
        have e4 : p = 4 := by omega
        subst e4
        exact ⟨e1, e2, e3⟩
      · exfalso; omega
theorem rk_X7_gather (hc : clIs M 22 g pg) (hg : gOk g) : fp_Ok l G 1 kX7_gather [rV G 136, rV G 22] M (qV fun O => (∀ a, (a < 136 ∨ 139 < a) → O a = M a) ∧ O 136 4 = aTh g pg 4 ∧ ∀ y : Int, 0 ≤ y → y < 4 → O 137 y.toNat = -4 ∧ O 138 y.toNat = -4 ∧ O 139 y.toNat = aLeast g pg y) := by
  have hg1 := hg.1
  have hlr : ∀ p : Int, 0 ≤ p → p < 4 → fp_rng (aLeast g pg p) := by
    intro p p0 p1
    have q := fp_find_in (f := pg.1) (t := p) g.1.toNat 0
    unfold aLeast fp_rng
    omega
  refine fp_Ok.of (r := 1) rfl (Nat.le_of_ble_eq_true rfl) rfl ?_
  refine S.aload_n (pc' := 1) dX7_gather_0 rfl rfl rfl ?_
  refine S.iconst (pc' := 2) dX7_gather_1 rfl ?_
  refine S.putI (pc' := 5) dX7_gather_2 rfl fX7_36 L_136 ?_
  refine S.iconst (pc' := 6) dX7_gather_5 rfl ?_
  refine S.istore_n (pc' := 7) (LL' := [_, _, _]) dX7_gather_6 rfl (by decide) rfl rfl rfl ?_
  refine (gather_loop (hc.kept (fun a q1 q2 => fp_up_ne (by omega))) hg hlr 5 0 _ (by omega) (by omega) (by omega) (fun a ha => rfl) (by rw [fp_up_at, fp_upf_at]; rfl) (fun y y0 y1 => by omega)).weaken (fun r O q => ?_)
  obtain ⟨q0, q1, q2⟩ := q
  exact ⟨q0, fun a ha => by rw [q1 a ha, fp_up_ne (by omega)], q2⟩
end RN3
end
section
/-! RINGS: a round, on both sides alike -/
def rF (g : aGd) (b : Int → Int) (th q : Int) : Int := aLk g b th q 4
abbrev rLv (g : aGd) (b : Int → Int) (th p : Int) : Prop := th.toNat.testBit p.toNat = true ∧ aRgC (rF g b th) p 4 p 0 ≠ 0
def rMk (g : aGd) (b : Int → Int) (th : Int) : Nat → Int
  | 0 => 0
  | n + 1 => if rLv g b th (n : Int) then fp_or (rMk g b th n) (2 ^ n) else rMk g b th n
theorem rMk_succ {g : aGd} {b : Int → Int} {th i : Int} (h : 0 ≤ i) : rMk g b th (i + 1).toNat = if rLv g b th i then fp_or (rMk g b th i.toNat) (2 ^ i.toNat) else rMk g b th i.toNat := by
  have e1 : (i + 1).toNat = i.toNat + 1 := by omega
  rw [e1]
  show (if rLv g b th ((i.toNat : Nat) : Int) then _ else _) = _
  rw [Int.toNat_of_nonneg h]
theorem rMk_nn (g : aGd) (b : Int → Int) (th : Int) : ∀ n, 0 ≤ rMk g b th n
  | 0 => Int.le_refl _
  | n + 1 => by
    unfold rMk
    split
    · exact fp_or_nn _ _
    · exact rMk_nn g b th n
theorem fp_pow2 (n : Nat) : ((2 : Int) ^ n).toNat = 2 ^ n := by
  rw [show (2 : Int) ^ n = ((2 ^ n : Nat) : Int) by norm_cast]
  exact Int.toNat_natCast _
theorem rMk_bit (g : aGd) (b : Int → Int) (th : Int) : ∀ n i, (rMk g b th n).toNat.testBit i = true ↔ i < n ∧ rLv g b th (i : Int)
  | 0, i => by simp [rMk]
  | n + 1, i => by
    have ih := rMk_bit g b th n i
    unfold rMk
    split
    · rename_i h
      unfold fp_or
      rw [Int.toNat_natCast, Nat.testBit_or, fp_pow2, Nat.testBit_two_pow]
      simp only [Bool.or_eq_true, decide_eq_true_eq]
      constructor
      · rintro (q | q)
        · exact ⟨by have := (ih.mp q).1; omega, (ih.mp q).2⟩
        · subst q; exact ⟨by omega, h⟩
      · rintro ⟨q1, q2⟩
        by_cases e : i = n
        · exact Or.inr e.symm
        · exact Or.inl (ih.mpr ⟨by omega, q2⟩)
    · rename_i h
      rw [ih]
      constructor
      · rintro ⟨q1, q2⟩; exact ⟨by omega, q2⟩
      · rintro ⟨q1, q2⟩
        refine ⟨?_, q2⟩
        by_cases e : i = n
        · subst e; exact absurd q2 h
        · omega
theorem rMk_lt (g : aGd) (b : Int → Int) (th : Int) : ∀ n, n ≤ 4 → rMk g b th n < 16
  | 0, _ => by simp [rMk]
  | n + 1, h => by
    have ih := rMk_lt g b th n (by omega)
    unfold rMk
    split
    · have h2 : (2 : Int) ^ n < 16 := by
        rcases (show n = 0 ∨ n = 1 ∨ n = 2 ∨ n = 3 by omega) with rfl | rfl | rfl | rfl <;> decide
      exact fp_or_lt (n := 4) ih h2
    · exact ih
def aOut (th lv : Int) : Int := ((th.toNat &&& (15 ^^^ lv.toNat) : Nat) : Int)
theorem aOut_in {th lv : Int} (h : 0 ≤ th ∧ th < 16) : 0 ≤ aOut th lv ∧ aOut th lv < 16 := by
  refine ⟨Int.natCast_nonneg _, ?_⟩
  unfold aOut
  have : th.toNat &&& (15 ^^^ lv.toNat) ≤ th.toNat := Nat.and_le_left
  omega
theorem aOut_bit {th lv : Int} {q : Nat} (h : (aOut th lv).toNat.testBit q = true) : th.toNat.testBit q = true := by
  unfold aOut at h
  rw [Int.toNat_natCast, Nat.testBit_and, Bool.and_eq_true] at h
  exact h.1
theorem aOut_x {lv : Int} (h : 0 ≤ lv ∧ lv < 16) : Int32.ofInt lv ^^^ Int32.ofInt (-1) = Int32.ofInt (-1 - lv) := by
  obtain ⟨n, rfl⟩ := Int.eq_ofNat_of_zero_le h.1
  have q : ∀ n : Nat, n < 16 → Int32.ofInt (n : Int) ^^^ Int32.ofInt (-1) = Int32.ofInt (-1 - (n : Int)) := by decide +kernel
  exact q n (by omega)
theorem aOut_a {th lv : Int} (h : 0 ≤ th ∧ th < 16) (h2 : 0 ≤ lv ∧ lv < 16) : Int32.ofInt th &&& Int32.ofInt (-1 - lv) = Int32.ofInt (aOut th lv) := by
  obtain ⟨n, rfl⟩ := Int.eq_ofNat_of_zero_le h.1
  obtain ⟨k, rfl⟩ := Int.eq_ofNat_of_zero_le h2.1
  have q : ∀ n : Nat, n < 16 → ∀ k : Nat, k < 16 → Int32.ofInt (n : Int) &&& Int32.ofInt (-1 - (k : Int)) = Int32.ofInt (aOut (n : Int) (k : Int)) := by decide +kernel
  exact q n (by omega) k (by omega)
/-- how many are there -/
def rPc (n : Nat) : Nat := (if n.testBit 0 then 1 else 0) + (if n.testBit 1 then 1 else 0) + (if n.testBit 2 then 1 else 0) + (if n.testBit 3 then 1 else 0)
theorem rPc_le (n : Nat) : rPc n ≤ 4 := by
  unfold rPc
  repeat' split
  all_goals omega
theorem rPc_0 {n : Nat} (h : n < 16) (e : rPc n = 0) : n = 0 := by
  have q : ∀ n : Nat, n < 16 → rPc n = 0 → n = 0 := by decide +kernel
  exact q n h e
theorem rPc_lt {n k : Nat} (h : n < 16) (h2 : k < 16) (h3 : k ≠ 0) (h4 : ∀ i, i < 4 → k.testBit i = true → n.testBit i = true) : rPc (n &&& (15 ^^^ k)) < rPc n := by
  have q : ∀ n : Nat, n < 16 → ∀ k : Nat, k < 16 → k ≠ 0 → (∀ i, i < 4 → k.testBit i = true → n.testBit i = true) → rPc (n &&& (15 ^^^ k)) < rPc n := by decide +kernel
  exact q n h k h2 h3 h4
/-- where one likes at most four, some are in a ring -/
def rTab (a b c d : Fin 4) (q : Int) : Int := if q = 0 then (a.val : Int) else if q = 1 then (b.val : Int) else if q = 2 then (c.val : Int) else (d.val : Int)
theorem rSome : ∀ (n : Fin 16) (a b c d : Fin 4), n ≠ 0 → (∀ i : Fin 4, n.val.testBit i.val = true → n.val.testBit (rTab a b c d (i.val : Int)).toNat = true) → ∃ p : Fin 4, n.val.testBit p.val = true ∧ aRgC (rTab a b c d) (p.val : Int) 4 (p.val : Int) 0 ≠ 0 := by decide +kernel
theorem aRgC_congr {f f' : Int → Int} {p : Int} (h : ∀ q : Int, 0 ≤ q → q < 4 → f q = f' q ∧ 0 ≤ f q ∧ f q < 4) : ∀ (n : Nat) (q m : Int), 0 ≤ q → q < 4 → aRgC f p n q m = aRgC f' p n q m
  | 0, _, _, _, _ => rfl
  | n + 1, q, m, h0, h1 => by
    obtain ⟨e1, e2, e3⟩ := h q h0 h1
    unfold aRgC
    rw [← e1]
    split
    · rfl
    · exact aRgC_congr h n _ _ e2 e3
theorem rMk_some {g : aGd} {b : Int → Int} {th : Int} (h : 0 ≤ th ∧ th < 16) (hne : th ≠ 0) : rMk g b th 4 ≠ 0 := by
  have hf : ∀ q : Int, 0 ≤ rF g b th q ∧ rF g b th q < 4 := fun q => aLk_four h hne
  have hin : ∀ q : Int, th.toNat.testBit (rF g b th q).toNat = true := by
    intro q
    rcases aLk_in (g := g) (b := b) (th := th) (p := q) 4 with e | e
    · have := (hf q).1; unfold rF at this; omega
    · exact e.2.2
  let fx : Int → Fin 4 := fun q => ⟨(rF g b th q).toNat, by have := hf q; omega⟩
  have hx : ∀ q : Int, ((fx q).val : Int) = rF g b th q := fun q => Int.toNat_of_nonneg (hf q).1
  have htab : ∀ q : Int, 0 ≤ q → q < 4 → rTab (fx 0) (fx 1) (fx 2) (fx 3) q = rF g b th q := by
    intro q h0 h1
    unfold rTab
    rcases (show q = 0 ∨ q = 1 ∨ q = 2 ∨ q = 3 by omega) with rfl | rfl | rfl | rfl
    · rw [if_pos rfl]; exact hx 0
    · rw [if_neg (by decide), if_pos rfl]; exact hx 1
    · rw [if_neg (by decide), if_neg (by decide), if_pos rfl]; exact hx 2
    · rw [if_neg (by decide), if_neg (by decide), if_neg (by decide)]; exact hx 3
  obtain ⟨p, hp1, hp2⟩ := rSome ⟨th.toNat, by omega⟩ (fx 0) (fx 1) (fx 2) (fx 3) (fun e => hne (by have := congrArg Fin.val e; simp at this; omega)) (fun i hi => by
    have hi4 := i.isLt
    rw [htab (i.val : Int) (by omega) (by omega)]
    exact hin _)
  have hp4 := p.isLt
  rw [aRgC_congr (f' := rF g b th) (fun q h0 h1 => ⟨htab q h0 h1, by rw [htab q h0 h1]; exact hf q⟩) 4 _ _ (by omega) (by omega)] at hp2
  intro e
  have hb := (rMk_bit g b th 4 p.val).mpr ⟨hp4, by rw [Int.toNat_natCast]; exact hp1, hp2⟩
  rw [e] at hb
  simp at hb
abbrev rSt : Type := Int × (Int → Int) × (Int → Int)
def rRd (g : aGd) (b : Int → Int) (x : rSt) : rSt := (aOut x.1 (rMk g b x.1 4), fun y => if rLv g b x.1 y then b (rF g b x.1 y) else x.2.1 y, fun y => if rLv g b x.1 y then aRgC (rF g b x.1) y 4 y 0 else x.2.2 y)
def rIt (g : aGd) (b : Int → Int) : Nat → rSt → rSt
  | 0, x => x
  | n + 1, x => rIt g b n (rRd g b x)
theorem rRd_0 {g : aGd} {b : Int → Int} {x : rSt} (h : x.1 = 0) : rRd g b x = x := by
  obtain ⟨th, u, w⟩ := x
  have h : th = 0 := h
  subst h
  have hl : ∀ y, ¬ rLv g b 0 y := fun y q => by have := q.1; simp at this
  unfold rRd
  simp only [Prod.mk.injEq]
  refine ⟨?_, funext fun y => if_neg (hl y), funext fun y => if_neg (hl y)⟩
  have hm : ∀ n, rMk g b 0 n = 0 := by
    intro n
    induction n with
    | zero => rfl
    | succ n ih =>
      unfold rMk
      rw [if_neg (hl _)]
      exact ih
  rw [hm]
  rfl
theorem rIt_0 {g : aGd} {b : Int → Int} {x : rSt} (h : x.1 = 0) : ∀ n, rIt g b n x = x
  | 0 => rfl
  | n + 1 => by
    unfold rIt
    rw [rRd_0 h]
    exact rIt_0 h n
theorem rIt_s (g : aGd) (b : Int → Int) : ∀ n x, rIt g b (n + 1) x = rRd g b (rIt g b n x)
  | 0, _ => rfl
  | n + 1, x => by
    show rIt g b (n + 1) (rRd g b x) = _
    rw [rIt_s g b n (rRd g b x)]
    rfl
theorem rRd_pc {g : aGd} {b : Int → Int} {x : rSt} (h : 0 ≤ x.1 ∧ x.1 < 16) (hne : x.1 ≠ 0) : rPc (rRd g b x).1.toNat < rPc x.1.toNat := by
  show rPc (aOut x.1 (rMk g b x.1 4)).toNat < _
  unfold aOut
  rw [Int.toNat_natCast]
  have h0 := rMk_nn g b x.1 4
  have h1 := rMk_lt g b x.1 4 (Nat.le_refl _)
  have h2 := rMk_some (g := g) (b := b) h hne
  refine rPc_lt (by omega) (by omega) (by omega) (fun i hi q => ?_)
  have := ((rMk_bit g b x.1 4 i).mp q).2.1
  rwa [Int.toNat_natCast] at this
theorem rRd_bOk {g : aGd} {b : Int → Int} {x : rSt} (h : bOk g b x.1) : bOk g b (rRd g b x).1 := ⟨aOut_in h.1, fun q q0 q1 q2 => h.2 q q0 q1 (aOut_bit q2)⟩
theorem fp_find_in4 {f : Int → Int} {t : Int} : ∀ (n : Nat) (i : Int), fp_find f t n i = -4 ∨ (i ≤ fp_find f t n i ∧ fp_find f t n i < i + n)
  | 0, _ => Or.inl rfl
  | n + 1, i => by
    unfold fp_find
    split
    · exact Or.inr ⟨by omega, by omega⟩
    · rcases fp_find_in4 (f := f) (t := t) n (i + 1) with h | h
      · exact Or.inl h
      · exact Or.inr ⟨by omega, by omega⟩
theorem aTh_bit (g : aGd) (pg : aPg) : ∀ n i, (aTh g pg n).toNat.testBit i = true → i < n ∧ aLeast g pg (i : Int) ≠ -4
  | 0, i, h => by simp [aTh] at h
  | n + 1, i, h => by
    unfold aTh at h
    split at h
    · have := aTh_bit g pg n i h
      exact ⟨by omega, this.2⟩
    · rename_i hne
      unfold fp_or at h
      rw [Int.toNat_natCast, Nat.testBit_or, fp_pow2, Nat.testBit_two_pow] at h
      simp only [Bool.or_eq_true, decide_eq_true_eq] at h
      rcases h with q | q
      · have := aTh_bit g pg n i q
        exact ⟨by omega, this.2⟩
      · subst q; exact ⟨by omega, hne⟩
theorem aTh_lt (g : aGd) (pg : aPg) : ∀ n, n ≤ 4 → aTh g pg n < 16
  | 0, _ => by simp [aTh]
  | n + 1, h => by
    have ih := aTh_lt g pg n (by omega)
    unfold aTh
    split
    · exact ih
    · have h2 : (2 : Int) ^ n < 16 := by
        rcases (show n = 0 ∨ n = 1 ∨ n = 2 ∨ n = 3 by omega) with rfl | rfl | rfl | rfl <;> decide
      exact fp_or_lt (n := 4) ih h2
theorem aTh_bOk {g : aGd} {pg : aPg} (hg : gOk g) : bOk g (aLeast g pg) (aTh g pg 4) := by
  refine ⟨⟨aTh_nn g pg 4, aTh_lt g pg 4 (Nat.le_refl _)⟩, fun q q0 q1 q2 => ?_⟩
  have h := (aTh_bit g pg 4 q.toNat q2).2
  rw [Int.toNat_of_nonneg q0] at h
  have hg1 := hg.1
  rcases fp_find_in4 (f := pg.1) (t := q) g.1.toNat 0 with e | e
  · exact absurd e h
  · unfold aLeast
    omega
def r0x (g : aGd) (pg : aPg) : rSt := (aTh g pg 4, fun _ => -4, fun _ => -4)
def aRing (g : aGd) (pg : aPg) (p : Int) : Int := if 0 ≤ p ∧ p < 4 then (rIt g (aLeast g pg) 4 (r0x g pg)).2.1 p else -1
def aWith (g : aGd) (pg : aPg) (p : Int) : Int := if 0 ≤ p ∧ p < 4 then (rIt g (aLeast g pg) 4 (r0x g pg)).2.2 p else -1
end
section
/-! RINGS: the class, round by round; ring, with -/
section RN5
variable {l : Launch} {G : fp_WG} {M N : fp_Mem} {tp : List Int} {fl : Int} {g : aGd} {pg : aPg} {vs : List aVt} {nt : List Int} {im : aIm} {sh : aSh} {tn : Int}
theorem fp_S.wV {d pc : Nat} {Y : fp_MR} {LL : List (Option Value)} {st : List Value} {P P' : fp_Mem → Prop} (h : fp_S l G d Y pc LL st M (qV P)) (hq : ∀ N, P N → P' N) : fp_S l G d Y pc LL st M (qV P') := h.weaken (fun r N q => ⟨q.1, hq N q.2⟩)
theorem rk_take0 {p : Int} (hp : 0 ≤ p ∧ p < 4) (hm : M 136 4 = 0) : fp_Ok l G 1 kX7_takeIfInRing [rV G 136, iV p] M (qE 0 M) := by
  refine fp_Ok.of (r := 3) rfl (Nat.le_of_ble_eq_true rfl) rfl ?_
  refine S.aload_n (pc' := 1) dX7_takeIfInRing_0 rfl rfl rfl ?_
  refine S.iload_n (pc' := 2) dX7_takeIfInRing_1 rfl rfl rfl ?_
  refine S.callVi (pc' := 5) dX7_takeIfInRing_2 rfl cX7_45 (bk_X7_isThere (th := 0) (by omega) hm hp) rfl L_136 (by decide) rfl (Nat.le_of_ble_eq_true rfl) (fun z2 M2 q2 => ?_)
  obtain ⟨b9, rfl⟩ := q2
  have b9 : z2 = 0 := by
    rcases b9 with h | h
    · exact absurd h.2 (by simp)
    · exact h.1
  refine S.if_ne (pc' := 8) (tgt := 10) dX7_takeIfInRing_5 (by decide) rfl (by unfold fp_rng; omega) (fun h5 => ?_) (fun h5 => ?_)
  · exfalso; omega
  · refine S.iconst (pc' := 9) dX7_takeIfInRing_8 rfl ?_
    refine S.iret dX7_takeIfInRing_9 rfl ?_
    exact ⟨rfl, rfl⟩
theorem rk_take {b : Int → Int} {th p : Int} (hp : 0 ≤ p ∧ p < 4) (hb : bOk g b th) (hm : M 136 4 = th) (hpt : ∀ y : Int, 0 ≤ y → y < 4 → M 140 y.toNat = rF g b th y) (hr : ∀ q : Int, 0 ≤ q → q < 4 → M 139 q.toNat = b q) : fp_Ok l G 1 kX7_takeIfInRing [rV G 136, iV p] M (qI fun z O => (¬ rLv g b th p ∧ z = 0 ∧ O = M) ∨ (rLv g b th p ∧ z = 2 ^ p.toNat ∧ O = fp_up (fp_up M 137 p.toNat (b (rF g b th p))) 138 p.toNat (aRgC (rF g b th) p 4 p 0))) := by
  by_cases h0 : th = 0
  · subst h0
    exact (rk_take0 hp hm).toI (Or.inl ⟨fun q => by have := q.1; simp at this, rfl, rfl⟩)
  · refine (rk_X7_takeIfInRing (f := rF g b th) hp hb.1 hm (fun q _ _ => aLk_four hb.1 h0) hpt hr).weaken (fun r X q => ?_)
    obtain ⟨z, e, q⟩ := q
    refine ⟨z, e, ?_⟩
    rcases q with ⟨q1, q2, q3⟩ | ⟨q1, q2, q3, q4⟩
    · refine Or.inl ⟨fun h => ?_, q2, q3⟩
      rcases q1 with q1 | q1
      · exact q1 h.1
      · exact h.2 q1
    · exact Or.inr ⟨⟨q1, q2⟩, q3, q4⟩
theorem fp_or_0 {a : Int} (h : 0 ≤ a) : fp_or a 0 = a := by
  unfold fp_or
  rw [show (0 : Int).toNat = 0 from rfl, Nat.or_zero]
  omega
/-- within a round: those before p have been looked at -/
def rI (g : aGd) (b : Int → Int) (th : Int) (u w : Int → Int) (M N : fp_Mem) (p : Int) : Prop := (∀ a, a ≠ 137 → a ≠ 138 → N a = M a) ∧ ∀ y : Int, 0 ≤ y → y < 4 → N 137 y.toNat = (if y < p ∧ rLv g b th y then b (rF g b th y) else u y) ∧ N 138 y.toNat = (if y < p ∧ rLv g b th y then aRgC (rF g b th) y 4 y 0 else w y)
theorem rI_no {b u w : Int → Int} {th p : Int} (h : rI g b th u w M N p) (hn : ¬ rLv g b th p) : rI g b th u w M N (p + 1) := by
  refine ⟨h.1, fun y y0 y1 => ?_⟩
  obtain ⟨e1, e2⟩ := h.2 y y0 y1
  have : (y < p ∧ rLv g b th y) ↔ (y < p + 1 ∧ rLv g b th y) := by
    constructor
    · rintro ⟨q1, q2⟩; exact ⟨by omega, q2⟩
    · rintro ⟨q1, q2⟩
      refine ⟨?_, q2⟩
      by_cases e : y = p
      · subst e; exact absurd q2 hn
      · omega
  rw [e1, e2]
  simp only [this]
  exact ⟨trivial, trivial⟩
theorem rI_yes {b u w : Int → Int} {th p : Int} (h : rI g b th u w M N p) (hp : 0 ≤ p ∧ p < 4) (hn : rLv g b th p) : rI g b th u w M (fp_up (fp_up N 137 p.toNat (b (rF g b th p))) 138 p.toNat (aRgC (rF g b th) p 4 p 0)) (p + 1) := by
  refine ⟨fun a a1 a2 => by rw [fp_up_ne a2, fp_up_ne a1]; exact h.1 a a1 a2, fun y y0 y1 => ?_⟩
  obtain ⟨e1, e2⟩ := h.2 y y0 y1
  by_cases e : y = p
  · subst e
    rw [fp_up_ne (by decide), fp_up_at, fp_up_at, fp_upf_at, fp_upf_at, if_pos ⟨by omega, hn⟩, if_pos ⟨by omega, hn⟩]
    exact ⟨rfl, rfl⟩
  · have e' : y.toNat ≠ p.toNat := by omega
    rw [fp_up_ne (by decide), fp_up_at, fp_up_at, fp_upf_ne e', fp_upf_ne e', fp_up_ne (by decide), e1, e2]
    have : (y < p ∧ rLv g b th y) ↔ (y < p + 1 ∧ rLv g b th y) := by
      constructor
      · rintro ⟨q1, q2⟩; exact ⟨by omega, q2⟩
      · rintro ⟨q1, q2⟩; exact ⟨by omega, q2⟩
    simp only [this]
    exact ⟨trivial, trivial⟩
theorem form_in {b u w : Int → Int} {th r : Int} {Q : fp_Q} (hb : bOk g b th) (hm : M 136 4 = th) (hpt : ∀ y : Int, 0 ≤ y → y < 4 → M 140 y.toNat = rF g b th y) (hr : ∀ q : Int, 0 ≤ q → q < 4 → M 139 q.toNat = b q)
    (K : ∀ N : fp_Mem, rI g b th u w M N 4 → fp_S l G 3 kX7_form 46 [some (rV G 136), some (rV G 18), some (rV G 22), some (iV r), some (iV (rMk g b th 4)), some (iV 4)] [] N Q) : ∀ (n : Nat) (p : Int) (N : fp_Mem), (4 - p).toNat = n → 0 ≤ p → p ≤ 4 → rI g b th u w M N p →
    fp_S l G 3 kX7_form 23 [some (rV G 136), some (rV G 18), some (rV G 22), some (iV r), some (iV (rMk g b th p.toNat)), some (iV p)] [] N Q := by
  intro n
  induction n with
  | zero =>
    intro p N hn h0 h1 hI
    have : p = 4 := by omega
    subst this
    refine S.iload (pc' := 25) dX7_form_23 rfl rfl ?_
    refine S.iconst (pc' := 26) dX7_form_25 rfl ?_
    refine S.icmp_ge (pc' := 29) (tgt := 46) dX7_form_26 (by decide) rfl (by unfold fp_rng; omega) (by unfold fp_rng; omega) (fun h26 => ?_) (fun h26 => ?_)
    · exact K _ hI
    · exfalso; omega
  | succ n ih =>
    intro p N hn h0 h1 hI
    have hM : N 136 = M 136 := hI.1 136 (by decide) (by decide)
    have hM9 : N 139 = M 139 := hI.1 139 (by decide) (by decide)
    have hM0 : N 140 = M 140 := hI.1 140 (by decide) (by decide)
    have hsu := rMk_succ (g := g) (b := b) (th := th) h0
    refine S.iload (pc' := 25) dX7_form_23 rfl rfl ?_
    refine S.iconst (pc' := 26) dX7_form_25 rfl ?_
    refine S.icmp_ge (pc' := 29) (tgt := 46) dX7_form_26 (by decide) rfl (by unfold fp_rng; omega) (by unfold fp_rng; omega) (fun h26 => ?_) (fun h26 => ?_)
    · exfalso; omega
    · refine S.iload (pc' := 31) dX7_form_29 rfl rfl ?_
      refine S.aload_n (pc' := 32) dX7_form_31 rfl rfl rfl ?_
      refine S.iload (pc' := 34) dX7_form_32 rfl rfl ?_
      refine S.callVi (pc' := 37) dX7_form_34 rfl cX7_32 (rk_take (b := b) (th := th) (p := p) (by omega) hb (by rw [hM]; exact hm) (fun y y0 y1 => by rw [hM0]; exact hpt y y0 y1) (fun y y0 y1 => by rw [hM9]; exact hr y y0 y1)) rfl L_136 (by decide) rfl (Nat.le_of_ble_eq_true rfl) (fun z34 M34 q34 => ?_)
      have e34 : 0 ≤ z34 ∧ fp_or (rMk g b th p.toNat) z34 = rMk g b th (p + 1).toNat ∧ rI g b th u w M M34 (p + 1) := by
        rcases q34 with ⟨c1, c2, c3⟩ | ⟨c1, c2, c3⟩
        · rw [if_neg c1] at hsu
          subst c2; subst c3
          exact ⟨by omega, by rw [hsu]; exact fp_or_0 (rMk_nn _ _ _ _), rI_no hI c1⟩
        · rw [if_pos c1] at hsu
          subst c2; subst c3
          exact ⟨Int.le_of_lt (Int.pow_pos (by decide)), hsu.symm, rI_yes hI (by omega) c1⟩
      refine S.ior (pc' := 38) dX7_form_37 rfl (show _ = Int32.ofInt (rMk g b th (p + 1).toNat) by rw [← e34.2.1]; exact fp_ior (rMk_nn _ _ _ _) e34.1) ?_
      refine S.istore (pc' := 40) (LL' := [_, _, _, _, _, _]) dX7_form_38 rfl (by decide) rfl rfl ?_
      refine S.iinc (pc' := 43) (LL' := [_, _, _, _, _, _]) dX7_form_40 rfl (by decide) rfl rfl rfl ?_
      refine S.goto (pc' := 23) dX7_form_43 (by decide) ?_
      exact ih (p + 1) _ (by omega) (by omega) (by omega) e34.2.2
/-- between two rounds -/
def rJ (b : Int → Int) (M N : fp_Mem) (x : rSt) : Prop := (∀ a, (a < 136 ∨ 140 < a) → N a = M a) ∧ N 136 4 = x.1 ∧ ∀ y : Int, 0 ≤ y → y < 4 → N 137 y.toNat = x.2.1 y ∧ N 138 y.toNat = x.2.2 y ∧ N 139 y.toNat = b y
theorem form_tail {b : Int → Int} {th r : Int} {Q : fp_Q} (hb : bOk g b th) (hm : N 136 4 = th) (K : ∀ O : fp_Mem, (∀ a, a ≠ 136 → O a = N a) → O 136 4 = aOut th (rMk g b th 4) → fp_S l G 3 kX7_form 7 [some (rV G 136), some (rV G 18), some (rV G 22), some (iV (r + 1)), some (iV (rMk g b th 4)), some (iV 4)] [] O Q) : fp_S l G 3 kX7_form 46 [some (rV G 136), some (rV G 18), some (rV G 22), some (iV r), some (iV (rMk g b th 4)), some (iV 4)] [] N Q := by
  have h16 : 0 ≤ rMk g b th 4 ∧ rMk g b th 4 < 16 := ⟨rMk_nn _ _ _ _, rMk_lt _ _ _ _ (Nat.le_refl _)⟩
  refine S.aload_n (pc' := 47) dX7_form_46 rfl rfl rfl ?_
  refine S.dup (pc' := 48) dX7_form_47 rfl rfl ?_
  refine S.getI (pc' := 51) dX7_form_48 rfl fX7_36 L_136 ?_
  refine S.iload (pc' := 53) dX7_form_51 rfl rfl ?_
  refine S.iconst (pc' := 54) dX7_form_53 rfl ?_
  refine S.ixor (pc' := 55) dX7_form_54 rfl (aOut_x h16) ?_
  refine S.iand (pc' := 56) dX7_form_55 rfl (show _ = Int32.ofInt (aOut th (rMk g b th 4)) by rw [hm]; exact aOut_a hb.1 h16) ?_
  refine S.putI (pc' := 59) dX7_form_56 rfl fX7_36 L_136 ?_
  refine S.iinc (pc' := 62) (LL' := [_, _, _, _, _, _]) dX7_form_59 rfl (by decide) rfl rfl rfl ?_
  refine S.goto (pc' := 7) dX7_form_62 (by decide) ?_
  exact K _ (fun a ha => by simp [fp_upM, ha]) (by simp [fp_upM, fp_upf])
theorem form_out {b : Int → Int} (hd : gdIs M 18 g) (hg : gOk g) : ∀ (n : Nat) (r : Int) (N : fp_Mem) (x : rSt) (o4 o5 : Option Value), (4 - r).toNat = n → 0 ≤ r → r ≤ 4 → bOk g b x.1 → rJ b M N x →
    fp_S l G 3 kX7_form 7 [some (rV G 136), some (rV G 18), some (rV G 22), some (iV r), o4, o5] [] N (qV fun O => rJ b M O (rIt g b n x)) := by
  intro n
  induction n with
  | zero =>
    intro r N x o4 o5 hn h0 h1 hb hJ
    refine S.iload_n (pc' := 8) dX7_form_7 rfl rfl rfl ?_
    refine S.iconst (pc' := 9) dX7_form_8 rfl ?_
    refine S.icmp_ge (pc' := 12) (tgt := 65) dX7_form_9 (by decide) rfl (by unfold fp_rng; omega) (by unfold fp_rng; omega) (fun h9 => ?_) (fun h9 => ?_)
    · refine S.vret dX7_form_65 rfl ?_
      exact hJ
    · exfalso; omega
  | succ n ih =>
    intro r N x o4 o5 hn h0 h1 hb hJ
    obtain ⟨i1, i2, i3⟩ := hJ
    have hdN : gdIs N 18 g := hd.kept (fun a q1 q2 => i1 a (by omega))
    refine S.iload_n (pc' := 8) dX7_form_7 rfl rfl rfl ?_
    refine S.iconst (pc' := 9) dX7_form_8 rfl ?_
    refine S.icmp_ge (pc' := 12) (tgt := 65) dX7_form_9 (by decide) rfl (by unfold fp_rng; omega) (by unfold fp_rng; omega) (fun h9 => ?_) (fun h9 => ?_)
    · exfalso; omega
    · refine S.aload_n (pc' := 13) dX7_form_12 rfl rfl rfl ?_
      refine S.aload_n (pc' := 14) dX7_form_13 rfl rfl rfl ?_
      refine S.callVv (pc' := 17) dX7_form_14 rfl cX7_28 (rk_X7_point (b := b) (th := x.1) hb hg hdN i2 (fun q q0 q1 => (i3 q q0 q1).2.2)) rfl L_136 (by decide) rfl (Nat.le_of_ble_eq_true rfl) (fun M14 q14 => ?_)
      obtain ⟨j1, j2⟩ := q14
      refine S.iconst (pc' := 18) dX7_form_17 rfl ?_
      refine S.istore (pc' := 20) (LL' := [_, _, _, _, _, _]) dX7_form_18 rfl (by decide) rfl rfl ?_
      refine S.iconst (pc' := 21) dX7_form_20 rfl ?_
      refine S.istore (pc' := 23) (LL' := [_, _, _, _, _, _]) dX7_form_21 rfl (by decide) rfl rfl ?_
      refine form_in (u := x.2.1) (w := x.2.2) (M := M14) hb (by rw [j1 136 (by decide)]; exact i2) j2 (fun q q0 q1 => by rw [j1 139 (by decide)]; exact (i3 q q0 q1).2.2) (fun O hO => ?_) 4 0 _ (by omega) (by omega) (by omega) ⟨fun a _ _ => rfl, fun y y0 y1 => ?_⟩
      · refine form_tail hb (by rw [hO.1 136 (by decide) (by decide), j1 136 (by decide)]; exact i2) (fun O2 k1 k2 => ih (r + 1) O2 (rRd g b x) _ _ (by omega) (by omega) (by omega) (rRd_bOk hb) ⟨fun a ha => ?_, k2, fun y y0 y1 => ?_⟩)
        · rw [k1 a (by omega), hO.1 a (by omega) (by omega), j1 a (by omega)]; exact i1 a ha
        · obtain ⟨e1, e2⟩ := hO.2 y y0 y1
          rw [k1 137 (by decide), k1 138 (by decide), k1 139 (by decide), e1, e2, hO.1 139 (by decide) (by decide), j1 139 (by decide)]
          refine ⟨?_, ?_, (i3 y y0 y1).2.2⟩
          · show _ = if rLv g b x.1 y then b (rF g b x.1 y) else x.2.1 y
            by_cases e : rLv g b x.1 y
            · rw [if_pos ⟨y1, e⟩, if_pos e]
            · rw [if_neg (fun q => e q.2), if_neg e]
          · show _ = if rLv g b x.1 y then aRgC (rF g b x.1) y 4 y 0 else x.2.2 y
            by_cases e : rLv g b x.1 y
            · rw [if_pos ⟨y1, e⟩, if_pos e]
            · rw [if_neg (fun q => e q.2), if_neg e]
      · rw [j1 137 (by decide), j1 138 (by decide), if_neg (by omega), if_neg (by omega)]
        exact ⟨(i3 y y0 y1).1, (i3 y y0 y1).2.1⟩
theorem rk_X7_form (hc : clIs M 22 g pg) (hd : gdIs M 18 g) (hg : gOk g) : fp_Ok l G 3 kX7_form [rV G 136, rV G 18, rV G 22] M (qV fun O => rJ (aLeast g pg) M O (rIt g (aLeast g pg) 4 (r0x g pg))) := by
  refine fp_Ok.of (r := 3) rfl (Nat.le_of_ble_eq_true rfl) rfl ?_
  refine S.aload_n (pc' := 1) dX7_form_0 rfl rfl rfl ?_
  refine S.aload_n (pc' := 2) dX7_form_1 rfl rfl rfl ?_
  refine S.callVv (pc' := 5) dX7_form_2 rfl cX7_24 (rk_X7_gather hc hg) rfl L_136 (by decide) rfl (Nat.le_of_ble_eq_true rfl) (fun M2 q2 => ?_)
  obtain ⟨j1, j2, j3⟩ := q2
  refine S.iconst (pc' := 6) dX7_form_5 rfl ?_
  refine S.istore_n (pc' := 7) (LL' := [_, _, _, _, _, _]) dX7_form_6 rfl (by decide) rfl rfl rfl ?_
  refine (form_out (M := M2) (hd.kept (fun a q1 q2 => j1 a (by omega))) hg 4 0 _ (r0x g pg) _ _ (by omega) (by omega) (by omega) (aTh_bOk hg) ⟨fun a ha => rfl, j2, j3⟩).wV (fun O hO => ⟨fun a ha => ?_, hO.2⟩)
  rw [hO.1 a (by omega)]; exact j1 a (by omega)
theorem cc_ring {p : Int} (hc : CS M tp fl g pg vs nt im sh tn) (ho : OK g pg vs nt im sh) (hp : fp_rng p) : fp_Ok l G 4 kX11_ring [rV G 0, iV p] M (qI fun z N => z = aRing g pg p ∧ CS N tp fl g pg vs nt im sh tn ∧ frC M N) := by
  have hcs := hc
  obtain ⟨-, hd, hcl, hv, -⟩ := hc
  obtain ⟨hg, hP, -⟩ := ho
  refine fp_Ok.of (r := 0) rfl (Nat.le_of_ble_eq_true rfl) rfl ?_
  unfold aRing
  refine S.iload_n (pc' := 1) dX11_ring_0 rfl rfl rfl ?_
  refine S.callSi (pc' := 4) dX11_ring_1 rfl cX11_181 (bk_X11_isOne) rfl (by decide) rfl (Nat.le_of_ble_eq_true rfl) (fun z1 M1 q1 => ?_)
  obtain ⟨b1, rfl⟩ := q1
  refine S.if_ne (pc' := 7) (tgt := 9) dX11_ring_4 (by decide) rfl (by unfold fp_rng; omega) (fun h4 => ?_) (fun h4 => ?_)
  · refine S.aload_n (pc' := 10) dX11_ring_9 rfl rfl rfl ?_
    refine S.getR (pc' := 13) dX11_ring_10 rfl fX11_72 L_0 rf_0_10 ?_
    refine S.aload_n (pc' := 14) dX11_ring_13 rfl rfl rfl ?_
    refine S.getR (pc' := 17) dX11_ring_14 rfl fX11_23 L_0 rf_0_3 ?_
    refine S.aload_n (pc' := 18) dX11_ring_17 rfl rfl rfl ?_
    refine S.getR (pc' := 21) dX11_ring_18 rfl fX11_30 L_0 rf_0_4 ?_
    refine S.callVv (pc' := 24) dX11_ring_21 rfl cX11_303 (rk_X7_form hcl hd hg) rfl L_136 (by decide) rfl (Nat.le_of_ble_eq_true rfl) (fun M21 q21 => ?_)
    refine S.aload_n (pc' := 25) dX11_ring_24 rfl rfl rfl ?_
    refine S.getR (pc' := 28) dX11_ring_25 rfl fX11_72 L_0 rf_0_10 ?_
    refine S.getR (pc' := 31) dX11_ring_28 rfl fX11_307 L_136 rf_136_0 ?_
    refine S.iload_n (pc' := 32) dX11_ring_31 rfl rfl rfl ?_
    refine S.iald (pc' := 33) dX11_ring_32 rfl L_137 (by omega) (by omega) ?_
    refine S.iret dX11_ring_33 rfl ?_
    refine ⟨?_, hcs.kept (fun a ha => q21.1 a (by omega)), fun c hc => q21.1 c (by omega)⟩
    rw [(q21.2.2 p (by omega) (by omega)).1, if_pos (by omega)]
  · refine S.iconst (pc' := 8) dX11_ring_7 rfl ?_
    refine S.iret dX11_ring_8 rfl ?_
    exact ⟨by rw [if_neg (by omega)], hcs, frC.refl _⟩
theorem cc_with {p : Int} (hc : CS M tp fl g pg vs nt im sh tn) (ho : OK g pg vs nt im sh) (hp : fp_rng p) : fp_Ok l G 4 kX11_with [rV G 0, iV p] M (qI fun z N => z = aWith g pg p ∧ CS N tp fl g pg vs nt im sh tn ∧ frC M N) := by
  have hcs := hc
  obtain ⟨-, hd, hcl, hv, -⟩ := hc
  obtain ⟨hg, hP, -⟩ := ho
  refine fp_Ok.of (r := 0) rfl (Nat.le_of_ble_eq_true rfl) rfl ?_
  unfold aWith
  refine S.iload_n (pc' := 1) dX11_with_0 rfl rfl rfl ?_
  refine S.callSi (pc' := 4) dX11_with_1 rfl cX11_181 (bk_X11_isOne) rfl (by decide) rfl (Nat.le_of_ble_eq_true rfl) (fun z1 M1 q1 => ?_)
  obtain ⟨b1, rfl⟩ := q1
  refine S.if_ne (pc' := 7) (tgt := 9) dX11_with_4 (by decide) rfl (by unfold fp_rng; omega) (fun h4 => ?_) (fun h4 => ?_)
  · refine S.aload_n (pc' := 10) dX11_with_9 rfl rfl rfl ?_
    refine S.getR (pc' := 13) dX11_with_10 rfl fX11_72 L_0 rf_0_10 ?_
    refine S.aload_n (pc' := 14) dX11_with_13 rfl rfl rfl ?_
    refine S.getR (pc' := 17) dX11_with_14 rfl fX11_23 L_0 rf_0_3 ?_
    refine S.aload_n (pc' := 18) dX11_with_17 rfl rfl rfl ?_
    refine S.getR (pc' := 21) dX11_with_18 rfl fX11_30 L_0 rf_0_4 ?_
    refine S.callVv (pc' := 24) dX11_with_21 rfl cX11_303 (rk_X7_form hcl hd hg) rfl L_136 (by decide) rfl (Nat.le_of_ble_eq_true rfl) (fun M21 q21 => ?_)
    refine S.aload_n (pc' := 25) dX11_with_24 rfl rfl rfl ?_
    refine S.getR (pc' := 28) dX11_with_25 rfl fX11_72 L_0 rf_0_10 ?_
    refine S.getR (pc' := 31) dX11_with_28 rfl fX11_310 L_136 rf_136_1 ?_
    refine S.iload_n (pc' := 32) dX11_with_31 rfl rfl rfl ?_
    refine S.iald (pc' := 33) dX11_with_32 rfl L_138 (by omega) (by omega) ?_
    refine S.iret dX11_with_33 rfl ?_
    refine ⟨?_, hcs.kept (fun a ha => q21.1 a (by omega)), fun c hc => q21.1 c (by omega)⟩
    rw [(q21.2.2 p (by omega) (by omega)).2.1, if_pos (by omega)]
  · refine S.iconst (pc' := 8) dX11_with_7 rfl ?_
    refine S.iret dX11_with_8 rfl ?_
    exact ⟨by rw [if_neg (by omega)], hcs, frC.refl _⟩
end RN5
end
