/-! LOST -/
def aHd (g : aGd) (pg : aPg) (vs : List aVt) (p : Int) : Nat → Int
  | 0 => aHolds g pg p
  | n + 1 => if (aHapI g (aRun g pg vs n) vs n).1 ≠ 0 ∧ (vs.getD n aV0).2.1 = p ∧ (vs.getD n aV0).2.2.2 ≠ -4 then fp_or (aHd g pg vs p n) (2 ^ (vs.getD n aV0).2.2.2.toNat) else aHd g pg vs p n
def aOt (g : aGd) (pg : aPg) (p : Int) : Nat → Int
  | 0 => 0
  | n + 1 => if (n : Int) = p then aOt g pg p n else fp_or (aOt g pg p n) (aHolds g pg n)
def A_lost (g : aGd) (pg : aPg) (vs : List aVt) (p : Int) : Int := if 0 ≤ p ∧ p < 4 then fp_and (aHd g pg vs p vs.length) (aOt g (aRun g pg vs vs.length) p 4) else -1
theorem aHd_succ {g : aGd} {pg : aPg} {vs : List aVt} {p i : Int} (h : 0 ≤ i) : aHd g pg vs p (i + 1).toNat = if (aHapI g (aRun g pg vs i.toNat) vs i).1 ≠ 0 ∧ (vs.getD i.toNat aV0).2.1 = p ∧ (vs.getD i.toNat aV0).2.2.2 ≠ -4 then fp_or (aHd g pg vs p i.toNat) (2 ^ (vs.getD i.toNat aV0).2.2.2.toNat) else aHd g pg vs p i.toNat := by
  have e1 : (i + 1).toNat = i.toNat + 1 := by omega
  rw [e1]
  show (if (aHapI g (aRun g pg vs i.toNat) vs ((i.toNat : Nat) : Int)).1 ≠ 0 ∧ _ then _ else _) = _
  rw [Int.toNat_of_nonneg h]
theorem aOt_succ {g : aGd} {pg : aPg} {p i : Int} (h : 0 ≤ i) : aOt g pg p (i + 1).toNat = if i = p then aOt g pg p i.toNat else fp_or (aOt g pg p i.toNat) (aHolds g pg i) := by
  have e1 : (i + 1).toNat = i.toNat + 1 := by omega
  rw [e1]
  show (if ((i.toNat : Nat) : Int) = p then _ else fp_or _ (aHolds g pg ((i.toNat : Nat) : Int))) = _
  rw [Int.toNat_of_nonneg h]
theorem aHolds_nn (g : aGd) (pg : aPg) (p : Int) : 0 ≤ aHolds g pg p := (fp_hb_lt pg.1 p g.1.toNat).1
theorem aHd_nn (g : aGd) (pg : aPg) (vs : List aVt) (p : Int) : ∀ n, 0 ≤ aHd g pg vs p n
  | 0 => aHolds_nn g pg p
  | n + 1 => by
    unfold aHd
    split
    · exact fp_or_nn _ _
    · exact aHd_nn g pg vs p n
theorem aOt_nn (g : aGd) (pg : aPg) (p : Int) : ∀ n, 0 ≤ aOt g pg p n
  | 0 => Int.le_refl _
  | n + 1 => by
    unfold aOt
    split
    · exact aOt_nn g pg p n
    · exact fp_or_nn _ _
/-- the bits of those in vain -/
theorem aVn_bit (g : aGd) (pg : aPg) (vs : List aVt) (i : Nat) : ∀ n : Nat, (aVn g pg vs n).toNat.testBit i = decide (i < n ∧ (aHapI g (aRun g pg vs i) vs i).1 = 0)
  | 0 => by
    have e : aVn g pg vs 0 = 0 := rfl
    rw [e]
    simp
  | n + 1 => by
    have ih := aVn_bit g pg vs i n
    have e : aVn g pg vs (n + 1) = if (aHapI g (aRun g pg vs n) vs n).1 = 0 then fp_or (aVn g pg vs n) (2 ^ n) else aVn g pg vs n := rfl
    have h2 : ((2 : Int) ^ n).toNat = 2 ^ n := by
      have h3 : ((2 ^ n : Nat) : Int) = 2 ^ n := by simp
      rw [← h3, Int.toNat_natCast]
    rw [e]
    by_cases hz : (aHapI g (aRun g pg vs n) vs n).1 = 0
    · rw [if_pos hz]
      unfold fp_or
      rw [Int.toNat_natCast, Nat.testBit_or, ih, h2, Nat.testBit_two_pow]
      by_cases hi : i = n
      · subst hi; simp [hz]
      · have : (i < n + 1) ↔ (i < n) := by omega
        simp [this, Ne.symm hi]
    · rw [if_neg hz, ih]
      by_cases hi : i = n
      · subst hi; simp [hz]
      · have : (i < n + 1) ↔ (i < n) := by omega
        simp [this]
theorem fp_shrv {v i : Int} (hv : 0 ≤ v ∧ v < 2147483648) (hi : 0 ≤ i ∧ i < 31) : Int32.ofInt v >>> (Int32.ofInt i &&& 31) = Int32.ofInt (v / 2 ^ i.toNat) := by
  have hs : ((Int32.ofInt i &&& 31).toBitVec.smod 32).toNat = i.toNat := by
    have h : ∀ n : Nat, n < 31 → ((Int32.ofInt (n : Int) &&& 31).toBitVec.smod 32).toNat = n := by decide +kernel
    have := h i.toNat (by omega)
    rwa [Int.toNat_of_nonneg hi.1] at this
  have hp : (0 : Int) < 2 ^ i.toNat := Int.pow_pos (by decide)
  have hd0 : 0 ≤ v / 2 ^ i.toNat := Int.ediv_nonneg hv.1 (by omega)
  have hd1 : v / 2 ^ i.toNat ≤ v := Int.ediv_le_self _ hv.1
  rw [← Int32.toInt_inj, pk_shr _ _ i.toNat hs, fp_toInt ⟨by omega, by omega⟩, fp_toInt ⟨by omega, by omega⟩, Int.shiftRight_eq_div_pow]
  simp
theorem fp_bitv {v i : Int} (hv : 0 ≤ v) : fp_and (v / 2 ^ i.toNat) 1 = if v.toNat.testBit i.toNat then 1 else 0 := by
  unfold fp_and
  have e : (v / 2 ^ i.toNat).toNat = v.toNat >>> i.toNat := by
    obtain ⟨n, rfl⟩ := Int.eq_ofNat_of_zero_le hv
    rw [Nat.shiftRight_eq_div_pow, Int.toNat_natCast, show ((n : Int) / 2 ^ i.toNat) = ((n / 2 ^ i.toNat : Nat) : Int) by simp, Int.toNat_natCast]
  rw [e]
  have h1 : (1 : Int).toNat = 1 := rfl
  rw [h1, Nat.and_one_is_mod]
  have h3 : v.toNat.testBit i.toNat = (v.toNat >>> i.toNat % 2 == 1) := by
    rw [Nat.testBit, Nat.one_and_eq_mod_two]
    rcases Nat.mod_two_eq_zero_or_one (v.toNat >>> i.toNat) with h | h <;> simp [h]
  rw [h3]
  rcases Nat.mod_two_eq_zero_or_one (v.toNat >>> i.toNat) with h | h <;> simp [h]
section LOS
variable {l : Launch} {G : fp_WG} {M N : fp_Mem} {tp tp' : List Int} {fl fl' : Int} {g : aGd} {pg pg' : aPg} {vs vs' : List aVt} {nt nt' : List Int} {im im' : aIm} {sh sh' : aSh} {tn tn' : Int} {k k2 : Nat}
theorem clost_two {p had : Int} (hp : 0 ≤ p ∧ p < 4) (hg : gOk g) (hPi : pgOk g pg') (hh : 0 ≤ had) (hc : clIs N 41 g pg') (hcs : CS N tp fl g pg vs nt im sh tn) (hfr : frC M N) : ∀ (n : Nat) (q : Int), (4 - q).toNat < n → 0 ≤ q → q ≤ 4 →
    fp_S l G 4 kX11_lost 128 [some (rV G 0), some (iV p), some (rV G 41), some (iV had), some (iV (aOt g pg' p q.toNat)), some (iV q)] [] N (qI fun z O => z = fp_and had (aOt g pg' p 4) ∧ CS O tp fl g pg vs nt im sh tn ∧ frC M O) := by
  intro n
  induction n with
  | zero => intro q h; omega
  | succ n ih =>
    intro q h q0 q1
    have hb := aOt_nn g pg' p q.toNat
    have hb2 := aHolds_nn g pg' q
    have es := aOt_succ (g := g) (pg := pg') (p := p) q0
    refine S.iload (pc' := 130) dX11_lost_128 rfl rfl ?_
    refine S.iconst (pc' := 131) dX11_lost_130 rfl ?_
    refine S.icmp_ge (pc' := 134) (tgt := 157) dX11_lost_131 (by decide) rfl (by unfold fp_rng; omega) (by unfold fp_rng; omega) (fun h131 => ?_) (fun h131 => ?_)
    · refine S.iload_n (pc' := 158) dX11_lost_157 rfl rfl rfl ?_
      refine S.iload (pc' := 160) dX11_lost_158 rfl rfl ?_
      refine S.iand (pc' := 161) dX11_lost_160 rfl (fp_iand hh hb) ?_
      refine S.iret dX11_lost_161 rfl ?_
      exact ⟨by rw [show q.toNat = 4 by omega], hcs, hfr⟩
    · refine S.iload (pc' := 136) dX11_lost_134 rfl rfl ?_
      refine S.iload_n (pc' := 137) dX11_lost_136 rfl rfl rfl ?_
      refine S.icmp_eq (pc' := 140) (tgt := 151) dX11_lost_137 (by decide) rfl (by unfold fp_rng; omega) (by unfold fp_rng; omega) (fun h137 => ?_) (fun h137 => ?_)
      · refine S.iinc (pc' := 154) (LL' := [_, _, _, _, _, _]) dX11_lost_151 rfl (by decide) rfl rfl rfl ?_
        refine S.goto (pc' := 128) dX11_lost_154 (by decide) ?_
        first | (rw [if_pos h137] at es; rw [← es]; exact ih _ (by omega) (by omega) (by omega)) | (rw [if_neg h137] at es; rw [← es]; exact ih _ (by omega) (by omega) (by omega))
      · refine S.iload (pc' := 142) dX11_lost_140 rfl rfl ?_
        refine S.aload_n (pc' := 143) dX11_lost_142 rfl rfl rfl ?_
        refine S.iload (pc' := 145) dX11_lost_143 rfl rfl ?_
        refine S.callVe (pc' := 148) dX11_lost_145 rfl cX11_184 (rk_X5_heldBy (g := g) (pg := pg') pl41) rfl (pl_lay pl41) (by decide) rfl (Nat.le_of_ble_eq_true rfl) ?_
        refine S.ior (pc' := 149) dX11_lost_148 rfl (fp_ior hb hb2) ?_
        refine S.istore (pc' := 151) (LL' := [_, _, _, _, _, _]) dX11_lost_149 rfl (by decide) rfl rfl ?_
        refine S.iinc (pc' := 154) (LL' := [_, _, _, _, _, _]) dX11_lost_151 rfl (by decide) rfl rfl rfl ?_
        refine S.goto (pc' := 128) dX11_lost_154 (by decide) ?_
        first | (rw [if_pos h137] at es; rw [← es]; exact ih _ (by omega) (by omega) (by omega)) | (rw [if_neg h137] at es; rw [← es]; exact ih _ (by omega) (by omega) (by omega))
theorem clost_one {p : Int} (hp : 0 ≤ p ∧ p < 4) (hP : pgOk g pg) (hg : gOk g) (hvo : vsOk g vs) (hv : vsIs M 27 vs) (hd : gdIs M 18 g) (hcs : CS M tp fl g pg vs nt im sh tn) : ∀ (n : Nat) (i : Int) (N : fp_Mem) (o5 : Option Value), ((vs.length : Int) - i).toNat < n → 0 ≤ i → i ≤ vs.length → frP M N 41 → clIs N 41 g (aRun g pg vs i.toNat) →
    fp_S l G 4 kX11_lost 42 [some (rV G 0), some (iV p), some (rV G 41), some (iV (aHd g pg vs p i.toNat)), some (iV i), o5] [] N (qI fun z O => z = fp_and (aHd g pg vs p vs.length) (aOt g (aRun g pg vs vs.length) p 4) ∧ CS O tp fl g pg vs nt im sh tn ∧ frC M O) := by
  have hl := hv.2.1
  have hg1 := hg.1
  intro n
  induction n with
  | zero => intro i N o5 h; omega
  | succ n ih =>
    intro i N o5 h i0 i1 hf hc
    have hb := aHd_nn g pg vs p i.toNat
    have es := aHd_succ (g := g) (pg := pg) (vs := vs) (p := p) i0
    have er := aRun_succ (g := g) (pg := pg) (vs := vs) i0
    have hPi := aRun_ok hg hP hvo i.toNat
    have hv' := hf.vs pl41 vs27 hv
    have hd' := hf.gd pl41 gd18 hd
    have hl1 := hv'.1
    by_cases hlt : i < vs.length
    · have hvi := hv'.2.2 i i0 hlt
      have hvk := hvo.at i0 hlt
      unfold vOk at hvk
      refine S.iload (pc' := 44) dX11_lost_42 rfl rfl ?_
      refine S.aload_n (pc' := 45) dX11_lost_44 rfl rfl rfl ?_
      refine S.getR (pc' := 48) dX11_lost_45 rfl fX11_37 L_0 rf_0_5 ?_
      refine S.getI (pc' := 51) dX11_lost_48 rfl fX11_205 (vs_lay vs27) ?_
      refine S.icmp_ge (pc' := 54) (tgt := 122) dX11_lost_51 (by decide) rfl (by unfold fp_rng; omega) (by unfold fp_rng; omega) (fun h51 => ?_) (fun h51 => ?_)
      · exfalso; omega
      · refine S.aload_n (pc' := 55) dX11_lost_54 rfl rfl rfl ?_
        refine S.getR (pc' := 58) dX11_lost_55 rfl fX11_37 L_0 rf_0_5 ?_
        refine S.aload_n (pc' := 59) dX11_lost_58 rfl rfl rfl ?_
        refine S.getR (pc' := 62) dX11_lost_59 rfl fX11_23 L_0 rf_0_3 ?_
        refine S.aload_n (pc' := 63) dX11_lost_62 rfl rfl rfl ?_
        refine S.iload (pc' := 65) dX11_lost_63 rfl rfl ?_
        refine S.callVi (pc' := 68) dX11_lost_65 rfl cX11_206 (rk_X10_happens (g := g) (pg := aRun g pg vs i.toNat) (vs := vs) vs27 gd18 pl41) rfl (vs_lay vs27) (by decide) rfl (Nat.le_of_ble_eq_true rfl) (fun z65 M65 q65 => ?_)
        have h01 := aHapI_01 g (aRun g pg vs i.toNat) vs i
        obtain ⟨rfl, c1, f1⟩ := q65
        rw [← er] at c1
        have hv9 := (f1.vs pl41 vs27 hv').2.2 i i0 hlt
        refine S.istore (pc' := 70) (LL' := [_, _, _, _, _, _]) dX11_lost_68 rfl (by decide) rfl rfl ?_
        refine S.iload (pc' := 72) dX11_lost_70 rfl rfl ?_
        refine S.if_eq (pc' := 75) (tgt := 116) dX11_lost_72 (by decide) rfl (by unfold fp_rng; omega) (fun h72 => ?_) (fun h72 => ?_)
        · refine S.iinc (pc' := 119) (LL' := [_, _, _, _, _, _]) dX11_lost_116 rfl (by decide) rfl rfl rfl ?_
          refine S.goto (pc' := 42) dX11_lost_119 (by decide) ?_
          first | (rw [if_neg (by omega)] at es; rw [← es]; exact ih _ _ _ (by omega) (by omega) (by omega) (hf.trans f1) c1) | (rw [if_pos ⟨by omega, by omega, by omega⟩] at es; rw [hv9.2.2.2, ← es]; exact ih _ _ _ (by omega) (by omega) (by omega) (hf.trans f1) c1)
        · refine S.aload_n (pc' := 76) dX11_lost_75 rfl rfl rfl ?_
          refine S.getR (pc' := 79) dX11_lost_76 rfl fX11_37 L_0 rf_0_5 ?_
          refine S.getR (pc' := 82) dX11_lost_79 rfl fX11_169 (vs_lay vs27) (vs_r2 vs27) ?_
          refine S.iload (pc' := 84) dX11_lost_82 rfl rfl ?_
          refine S.iald (pc' := 85) dX11_lost_84 rfl (vs_a2 vs27) (by omega) (by omega) ?_
          refine S.iload_n (pc' := 86) dX11_lost_85 rfl rfl rfl ?_
          refine S.icmp_ne (pc' := 89) (tgt := 116) dX11_lost_86 (by decide) rfl (by unfold fp_rng; omega) (by unfold fp_rng; omega) (fun h86 => ?_) (fun h86 => ?_)
          · refine S.iinc (pc' := 119) (LL' := [_, _, _, _, _, _]) dX11_lost_116 rfl (by decide) rfl rfl rfl ?_
            refine S.goto (pc' := 42) dX11_lost_119 (by decide) ?_
            first | (rw [if_neg (by omega)] at es; rw [← es]; exact ih _ _ _ (by omega) (by omega) (by omega) (hf.trans f1) c1) | (rw [if_pos ⟨by omega, by omega, by omega⟩] at es; rw [hv9.2.2.2, ← es]; exact ih _ _ _ (by omega) (by omega) (by omega) (hf.trans f1) c1)
          · refine S.aload_n (pc' := 90) dX11_lost_89 rfl rfl rfl ?_
            refine S.getR (pc' := 93) dX11_lost_90 rfl fX11_37 L_0 rf_0_5 ?_
            refine S.iload (pc' := 95) dX11_lost_93 rfl rfl ?_
            refine S.callVi (pc' := 98) dX11_lost_95 rfl cX11_218 ((ok_X10_isDraw vs27).toB) rfl (vs_lay vs27) (by decide) rfl (Nat.le_of_ble_eq_true rfl) (fun z95 M95 q95 => ?_)
            obtain ⟨b9, rfl⟩ := q95
            refine S.if_ne (pc' := 101) (tgt := 116) dX11_lost_98 (by decide) rfl (by unfold fp_rng; omega) (fun h98 => ?_) (fun h98 => ?_)
            · refine S.iinc (pc' := 119) (LL' := [_, _, _, _, _, _]) dX11_lost_116 rfl (by decide) rfl rfl rfl ?_
              refine S.goto (pc' := 42) dX11_lost_119 (by decide) ?_
              first | (rw [if_neg (by omega)] at es; rw [← es]; exact ih _ _ _ (by omega) (by omega) (by omega) (hf.trans f1) c1) | (rw [if_pos ⟨by omega, by omega, by omega⟩] at es; rw [hv9.2.2.2, ← es]; exact ih _ _ _ (by omega) (by omega) (by omega) (hf.trans f1) c1)
            · refine S.iload_n (pc' := 102) dX11_lost_101 rfl rfl rfl ?_
              refine S.iconst (pc' := 103) dX11_lost_102 rfl ?_
              refine S.aload_n (pc' := 104) dX11_lost_103 rfl rfl rfl ?_
              refine S.getR (pc' := 107) dX11_lost_104 rfl fX11_37 L_0 rf_0_5 ?_
              refine S.getR (pc' := 110) dX11_lost_107 rfl fX11_175 (vs_lay vs27) (vs_r4 vs27) ?_
              refine S.iload (pc' := 112) dX11_lost_110 rfl rfl ?_
              refine S.iald (pc' := 113) dX11_lost_112 rfl (vs_a4 vs27) (by omega) (by omega) ?_
              refine S.ishl (pc' := 114) dX11_lost_113 rfl (fp_shl1 (by omega) (by omega)) ?_
              refine S.ior (pc' := 115) dX11_lost_114 rfl (fp_ior hb (Int.le_of_lt (Int.pow_pos (by decide)))) ?_
              refine S.istore_n (pc' := 116) (LL' := [_, _, _, _, _, _]) dX11_lost_115 rfl (by decide) rfl rfl rfl ?_
              refine S.iinc (pc' := 119) (LL' := [_, _, _, _, _, _]) dX11_lost_116 rfl (by decide) rfl rfl rfl ?_
              refine S.goto (pc' := 42) dX11_lost_119 (by decide) ?_
              first | (rw [if_neg (by omega)] at es; rw [← es]; exact ih _ _ _ (by omega) (by omega) (by omega) (hf.trans f1) c1) | (rw [if_pos ⟨by omega, by omega, by omega⟩] at es; rw [hv9.2.2.2, ← es]; exact ih _ _ _ (by omega) (by omega) (by omega) (hf.trans f1) c1)
    · have ei : i.toNat = vs.length := by omega
      rw [ei] at hc hb ⊢
      refine S.iload (pc' := 44) dX11_lost_42 rfl rfl ?_
      refine S.aload_n (pc' := 45) dX11_lost_44 rfl rfl rfl ?_
      refine S.getR (pc' := 48) dX11_lost_45 rfl fX11_37 L_0 rf_0_5 ?_
      refine S.getI (pc' := 51) dX11_lost_48 rfl fX11_205 (vs_lay vs27) ?_
      refine S.icmp_ge (pc' := 54) (tgt := 122) dX11_lost_51 (by decide) rfl (by unfold fp_rng; omega) (by unfold fp_rng; omega) (fun h51 => ?_) (fun h51 => ?_)
      · refine S.iconst (pc' := 123) dX11_lost_122 rfl ?_
        refine S.istore (pc' := 125) (LL' := [_, _, _, _, _, _]) dX11_lost_123 rfl (by decide) rfl rfl ?_
        refine S.iconst (pc' := 126) dX11_lost_125 rfl ?_
        refine S.istore (pc' := 128) (LL' := [_, _, _, _, _, _]) dX11_lost_126 rfl (by decide) rfl rfl ?_
        exact clost_two hp hg (aRun_ok hg hP hvo vs.length) hb hc (hcs.scr hf) (hf.c (by decide)) 5 0 (by omega) (by omega) (by omega)
      · exfalso; omega
theorem cc_lost {p : Int} (hc : CS M tp fl g pg vs nt im sh tn) (ho : OK g pg vs nt im sh) (hp : fp_rng p) : fp_Ok l G 4 kX11_lost [rV G 0, iV p] M (qI fun z N => z = A_lost g pg vs p ∧ CS N tp fl g pg vs nt im sh tn ∧ frC M N) := by
  have hcs := hc
  obtain ⟨-, hd, hcl, hv, -⟩ := hc
  obtain ⟨hg, hP, hvo, -⟩ := ho
  refine fp_Ok.of (r := 4) rfl (Nat.le_of_ble_eq_true rfl) rfl ?_
  unfold A_lost
  by_cases hin : 0 ≤ p ∧ p < 4
  · rw [if_pos hin]
    refine S.iload_n (pc' := 1) dX11_lost_0 rfl rfl rfl ?_
    refine S.callSi (pc' := 4) dX11_lost_1 rfl cX11_181 (bk_X11_isOne) rfl (by decide) rfl (Nat.le_of_ble_eq_true rfl) (fun z1 M1 q1 => ?_)
    obtain ⟨b1, rfl⟩ := q1
    refine S.if_ne (pc' := 7) (tgt := 9) dX11_lost_4 (by decide) rfl (by unfold fp_rng; omega) (fun h4 => ?_) (fun h4 => ?_)
    · refine S.aload_n (pc' := 10) dX11_lost_9 rfl rfl rfl ?_
      refine S.getR (pc' := 13) dX11_lost_10 rfl fX11_51 L_0 rf_0_7 ?_
      refine S.aload_n (pc' := 14) dX11_lost_13 rfl rfl rfl ?_
      refine S.getR (pc' := 17) dX11_lost_14 rfl fX11_23 L_0 rf_0_3 ?_
      refine S.aload_n (pc' := 18) dX11_lost_17 rfl rfl rfl ?_
      refine S.getR (pc' := 21) dX11_lost_18 rfl fX11_37 L_0 rf_0_5 ?_
      refine S.aload_n (pc' := 22) dX11_lost_21 rfl rfl rfl ?_
      refine S.getR (pc' := 25) dX11_lost_22 rfl fX11_30 L_0 rf_0_4 ?_
      refine S.iconst (pc' := 26) dX11_lost_25 rfl ?_
      refine S.callVr (pc' := 29) dX11_lost_26 rfl cX11_214 (rk_X8_behind (g := g) (pg := pg) (vs := vs) gd18 vs27 pl22) rfl L_34 (by decide) rfl (Nat.le_of_ble_eq_true rfl) (fun z26 M26 q26 => ?_)
      obtain ⟨rfl, c1, f1⟩ := q26
      have hcl1 : clIs M26 22 g pg := hcl.kept (fun a q1 q2 => f1 a (by omega))
      refine S.astore_n (pc' := 30) (LL' := [_, _, _, _, _, _]) dX11_lost_29 rfl (by decide) rfl rfl rfl ?_
      refine S.aload_n (pc' := 31) dX11_lost_30 rfl rfl rfl ?_
      refine S.getR (pc' := 34) dX11_lost_31 rfl fX11_30 L_0 rf_0_4 ?_
      refine S.iload_n (pc' := 35) dX11_lost_34 rfl rfl rfl ?_
      refine S.callVe (pc' := 38) dX11_lost_35 rfl cX11_184 (rk_X5_heldBy (g := g) (pg := pg) pl22) rfl (pl_lay pl22) (by decide) rfl (Nat.le_of_ble_eq_true rfl) ?_
      refine S.istore_n (pc' := 39) (LL' := [_, _, _, _, _, _]) dX11_lost_38 rfl (by decide) rfl rfl rfl ?_
      refine S.iconst (pc' := 40) dX11_lost_39 rfl ?_
      refine S.istore (pc' := 42) (LL' := [_, _, _, _, _, _]) dX11_lost_40 rfl (by decide) rfl rfl ?_
      exact clost_one hin hP hg hvo hv hd hcs (vs.length + 1) 0 _ none (by omega) (by omega) (by omega) f1 c1
    · exfalso; omega
  · rw [if_neg hin]
    refine S.iload_n (pc' := 1) dX11_lost_0 rfl rfl rfl ?_
    refine S.callSi (pc' := 4) dX11_lost_1 rfl cX11_181 (bk_X11_isOne) rfl (by decide) rfl (Nat.le_of_ble_eq_true rfl) (fun z1 M1 q1 => ?_)
    obtain ⟨b1, rfl⟩ := q1
    refine S.if_ne (pc' := 7) (tgt := 9) dX11_lost_4 (by decide) rfl (by unfold fp_rng; omega) (fun h4 => ?_) (fun h4 => ?_)
    · exfalso; omega
    · refine S.iconst (pc' := 8) dX11_lost_7 rfl ?_
      refine S.iret dX11_lost_8 rfl ?_
      exact ⟨rfl, hcs, frC.refl _⟩
theorem mlost_two {p had vn : Int} {o6 : Option Value} (hp : 0 ≤ p ∧ p < 4) (hg : gOk g) (hPi : pgOk g pg') (hh : 0 ≤ had) (hc : mpIs N 360 g pg') (hcs : MS N tp fl g pg vs nt im sh tn) (hfr : frD M N) : ∀ (n : Nat) (q : Int), (4 - q).toNat < n → 0 ≤ q → q ≤ 4 →
    fp_S l G 6 kX12_lost 122 [some (rV G 177), some (iV p), some (iV had), some (iV vn), some (iV (aOt g pg' p q.toNat)), some (iV q), o6] [] N (qI fun z O => z = fp_and had (aOt g pg' p 4) ∧ MS O tp fl g pg vs nt im sh tn ∧ frD M O) := by
  have hd := hcs.2.1
  intro n
  induction n with
  | zero => intro q h; omega
  | succ n ih =>
    intro q h q0 q1
    have hb := aOt_nn g pg' p q.toNat
    have hb2 := aHolds_nn g pg' q
    have es := aOt_succ (g := g) (pg := pg') (p := p) q0
    refine S.iload (pc' := 124) dX12_lost_122 rfl rfl ?_
    refine S.iconst (pc' := 125) dX12_lost_124 rfl ?_
    refine S.icmp_ge (pc' := 128) (tgt := 158) dX12_lost_125 (by decide) rfl (by unfold fp_rng; omega) (by unfold fp_rng; omega) (fun h125 => ?_) (fun h125 => ?_)
    · refine S.iload_n (pc' := 159) dX12_lost_158 rfl rfl rfl ?_
      refine S.iload (pc' := 161) dX12_lost_159 rfl rfl ?_
      refine S.iand (pc' := 162) dX12_lost_161 rfl (fp_iand hh hb) ?_
      refine S.iret dX12_lost_162 rfl ?_
      exact ⟨by rw [show q.toNat = 4 by omega], hcs, hfr⟩
    · refine S.iload (pc' := 130) dX12_lost_128 rfl rfl ?_
      refine S.iload (pc' := 132) dX12_lost_130 rfl rfl ?_
      refine S.iload_n (pc' := 133) dX12_lost_132 rfl rfl rfl ?_
      refine S.icmp_ne (pc' := 136) (tgt := 140) dX12_lost_133 (by decide) rfl (by unfold fp_rng; omega) (by unfold fp_rng; omega) (fun h133 => ?_) (fun h133 => ?_)
      · refine S.aload_n (pc' := 141) dX12_lost_140 rfl rfl rfl ?_
        refine S.sipush (pc' := 144) dX12_lost_141 rfl (by decide) ?_
        refine S.iload (pc' := 146) dX12_lost_144 rfl rfl ?_
        refine S.callVe (pc' := 149) dX12_lost_146 rfl cX12_231 (rk_X12_holdsAt (g := g) (pg := pg')) rfl L_177 (by decide) rfl (Nat.le_of_ble_eq_true rfl) ?_
        refine S.ior (pc' := 150) dX12_lost_149 rfl (fp_ior hb (by omega)) ?_
        refine S.istore (pc' := 152) (LL' := [_, _, _, _, _, _, _]) dX12_lost_150 rfl (by decide) rfl rfl ?_
        refine S.iinc (pc' := 155) (LL' := [_, _, _, _, _, _, _]) dX12_lost_152 rfl (by decide) rfl rfl rfl ?_
        refine S.goto (pc' := 122) dX12_lost_155 (by decide) ?_
        first | (rw [if_pos h133] at es; rw [fp_or0 hb, ← es]; exact ih _ (by omega) (by omega) (by omega)) | (rw [if_neg h133] at es; rw [← es]; exact ih _ (by omega) (by omega) (by omega))
      · refine S.iconst (pc' := 137) dX12_lost_136 rfl ?_
        refine S.goto (pc' := 149) dX12_lost_137 (by decide) ?_
        refine S.ior (pc' := 150) dX12_lost_149 rfl (fp_ior hb (by omega)) ?_
        refine S.istore (pc' := 152) (LL' := [_, _, _, _, _, _, _]) dX12_lost_150 rfl (by decide) rfl rfl ?_
        refine S.iinc (pc' := 155) (LL' := [_, _, _, _, _, _, _]) dX12_lost_152 rfl (by decide) rfl rfl rfl ?_
        refine S.goto (pc' := 122) dX12_lost_155 (by decide) ?_
        first | (rw [if_pos h133] at es; rw [fp_or0 hb, ← es]; exact ih _ (by omega) (by omega) (by omega)) | (rw [if_neg h133] at es; rw [← es]; exact ih _ (by omega) (by omega) (by omega))
theorem mlost_one {p : Int} (hp : 0 ≤ p ∧ p < 4) (ho : OK g pg vs nt im sh) (hc : mpIs N 360 g (aRun g pg vs vs.length)) (hcs : MS N tp fl g pg vs nt im sh tn) (hfr : frD M N) : ∀ (n : Nat) (i : Int) (o5 o6 : Option Value), ((vs.length : Int) - i).toNat < n → 0 ≤ i → i ≤ vs.length →
    fp_S l G 6 kX12_lost 28 [some (rV G 177), some (iV p), some (iV (aHd g pg vs p i.toNat)), some (iV (aVn g pg vs vs.length)), some (iV i), o5, o6] [] N (qI fun z O => z = fp_and (aHd g pg vs p vs.length) (aOt g (aRun g pg vs vs.length) p 4) ∧ MS O tp fl g pg vs nt im sh tn ∧ frD M O) := by
  have hv := hcs.2.2.2.1
  obtain ⟨hg, hP, hvo, -⟩ := ho
  have hl := hv.2.1
  have hl1 := hv.1
  have hg1 := hg.1
  have hvl := aVn_lt g pg vs vs.length
  have h12 : (2 : Int) ^ vs.length ≤ 2 ^ 12 := (fp_pow_le (i := (vs.length : Int)) (n := 12) (by omega)).2
  have h12' : (2 : Int) ^ 12 = 4096 := by decide
  intro n
  induction n with
  | zero => intro i o5 o6 h; omega
  | succ n ih =>
    intro i o5 o6 h i0 i1
    have hb := aHd_nn g pg vs p i.toNat
    have es := aHd_succ (g := g) (pg := pg) (vs := vs) (p := p) i0
    by_cases hlt : i < vs.length
    · obtain ⟨-, v2, -, v4⟩ := hv.2.2 i i0 hlt
      have hvk := hvo.at i0 hlt
      unfold vOk at hvk
      have h01 := aHapI_01 g (aRun g pg vs i.toNat) vs i
      have hbit : fp_and (aVn g pg vs vs.length / 2 ^ i.toNat) 1 = if (aHapI g (aRun g pg vs i.toNat) vs i).1 = 0 then 1 else 0 := by
        rw [fp_bitv hvl.1, aVn_bit, Int.toNat_of_nonneg i0]
        have : i.toNat < vs.length := by omega
        simp [this]
      have hbz : (fp_and (aVn g pg vs vs.length / 2 ^ i.toNat) 1 = 1 ∧ (aHapI g (aRun g pg vs i.toNat) vs i).1 = 0) ∨ (fp_and (aVn g pg vs vs.length / 2 ^ i.toNat) 1 = 0 ∧ (aHapI g (aRun g pg vs i.toNat) vs i).1 = 1) := by
        rw [hbit]
        split
        · exact Or.inl ⟨rfl, by assumption⟩
        · exact Or.inr ⟨rfl, by omega⟩
      have hdn : 0 ≤ aVn g pg vs vs.length / 2 ^ i.toNat := Int.ediv_nonneg hvl.1 (Int.le_of_lt (Int.pow_pos (by decide)))
      refine S.iload (pc' := 30) dX12_lost_28 rfl rfl ?_
      refine S.aload_n (pc' := 31) dX12_lost_30 rfl rfl rfl ?_
      refine S.callVe (pc' := 34) dX12_lost_31 rfl cX12_225 (ok_X12_visits) rfl L_177 (by decide) rfl (Nat.le_of_ble_eq_true rfl) ?_
      refine S.icmp_ge (pc' := 37) (tgt := 116) dX12_lost_34 (by decide) rfl (by unfold fp_rng; omega) (by unfold fp_rng; omega) (fun h34 => ?_) (fun h34 => ?_)
      · exfalso; omega
      · refine S.aload_n (pc' := 38) dX12_lost_37 rfl rfl rfl ?_
        refine S.getR (pc' := 41) dX12_lost_38 rfl fX12_7 L_177 rf_177_0 ?_
        refine S.bipush (pc' := 43) dX12_lost_41 rfl (by decide) ?_
        refine S.iconst (pc' := 44) dX12_lost_43 rfl ?_
        refine S.iload (pc' := 46) dX12_lost_44 rfl rfl ?_
        refine S.imul (pc' := 47) dX12_lost_46 rfl ?_
        refine S.iadd (pc' := 48) dX12_lost_47 rfl ?_
        refine S.iconst (pc' := 49) dX12_lost_48 rfl ?_
        refine S.iadd (pc' := 50) dX12_lost_49 rfl ?_
        refine S.iald (pc' := 51) dX12_lost_50 rfl L_178 (by omega) (by omega) ?_
        refine S.istore (pc' := 53) (LL' := [_, _, _, _, _, _, _]) dX12_lost_51 rfl (by decide) rfl rfl ?_
        refine S.iload (pc' := 55) dX12_lost_53 rfl rfl ?_
        refine S.bipush (pc' := 57) dX12_lost_55 rfl (by decide) ?_
        refine S.icmp_eq (pc' := 60) (tgt := 91) dX12_lost_57 (by decide) rfl (by unfold fp_rng; omega) (by unfold fp_rng; omega) (fun h57 => ?_) (fun h57 => ?_)
        · refine S.iconst (pc' := 92) dX12_lost_91 rfl ?_
          refine S.istore (pc' := 94) (LL' := [_, _, _, _, _, _, _]) dX12_lost_92 rfl (by decide) rfl rfl ?_
          refine S.iload_n (pc' := 95) dX12_lost_94 rfl rfl rfl ?_
          refine S.iload (pc' := 97) dX12_lost_95 rfl rfl ?_
          refine S.if_eq (pc' := 100) (tgt := 107) dX12_lost_97 (by decide) rfl (by unfold fp_rng; omega) (fun h97 => ?_) (fun h97 => ?_)
          · refine S.iconst (pc' := 108) dX12_lost_107 rfl ?_
            refine S.ior (pc' := 109) dX12_lost_108 rfl (fp_ior hb (by first | exact Int.le_of_lt (Int.pow_pos (by decide)) | omega)) ?_
            refine S.istore_n (pc' := 110) (LL' := [_, _, _, _, _, _, _]) dX12_lost_109 rfl (by decide) rfl rfl rfl ?_
            refine S.iinc (pc' := 113) (LL' := [_, _, _, _, _, _, _]) dX12_lost_110 rfl (by decide) rfl rfl rfl ?_
            refine S.goto (pc' := 28) dX12_lost_113 (by decide) ?_
            first | (exfalso; omega) | (rw [if_neg (by omega)] at es; rw [fp_or0 hb, ← es]; exact ih _ _ _ (by omega) (by omega) (by omega)) | (rw [if_pos ⟨by omega, by omega, by omega⟩] at es; rw [v4, ← es]; exact ih _ _ _ (by omega) (by omega) (by omega))
          · refine S.iconst (pc' := 101) dX12_lost_100 rfl ?_
            refine S.iload (pc' := 103) dX12_lost_101 rfl rfl ?_
            refine S.ishl (pc' := 104) dX12_lost_103 rfl (fp_shl1 (by omega) (by omega)) ?_
            refine S.goto (pc' := 108) dX12_lost_104 (by decide) ?_
            refine S.ior (pc' := 109) dX12_lost_108 rfl (fp_ior hb (by first | exact Int.le_of_lt (Int.pow_pos (by decide)) | omega)) ?_
            refine S.istore_n (pc' := 110) (LL' := [_, _, _, _, _, _, _]) dX12_lost_109 rfl (by decide) rfl rfl rfl ?_
            refine S.iinc (pc' := 113) (LL' := [_, _, _, _, _, _, _]) dX12_lost_110 rfl (by decide) rfl rfl rfl ?_
            refine S.goto (pc' := 28) dX12_lost_113 (by decide) ?_
            first | (exfalso; omega) | (rw [if_neg (by omega)] at es; rw [fp_or0 hb, ← es]; exact ih _ _ _ (by omega) (by omega) (by omega)) | (rw [if_pos ⟨by omega, by omega, by omega⟩] at es; rw [v4, ← es]; exact ih _ _ _ (by omega) (by omega) (by omega))
        · refine S.aload_n (pc' := 61) dX12_lost_60 rfl rfl rfl ?_
          refine S.getR (pc' := 64) dX12_lost_61 rfl fX12_7 L_177 rf_177_0 ?_
          refine S.bipush (pc' := 66) dX12_lost_64 rfl (by decide) ?_
          refine S.iconst (pc' := 67) dX12_lost_66 rfl ?_
          refine S.iload (pc' := 69) dX12_lost_67 rfl rfl ?_
          refine S.imul (pc' := 70) dX12_lost_69 rfl ?_
          refine S.iadd (pc' := 71) dX12_lost_70 rfl ?_
          refine S.iconst (pc' := 72) dX12_lost_71 rfl ?_
          refine S.iadd (pc' := 73) dX12_lost_72 rfl ?_
          refine S.iald (pc' := 74) dX12_lost_73 rfl L_178 (by omega) (by omega) ?_
          refine S.iload_n (pc' := 75) dX12_lost_74 rfl rfl rfl ?_
          refine S.icmp_ne (pc' := 78) (tgt := 91) dX12_lost_75 (by decide) rfl (by unfold fp_rng; omega) (by unfold fp_rng; omega) (fun h75 => ?_) (fun h75 => ?_)
          · refine S.iconst (pc' := 92) dX12_lost_91 rfl ?_
            refine S.istore (pc' := 94) (LL' := [_, _, _, _, _, _, _]) dX12_lost_92 rfl (by decide) rfl rfl ?_
            refine S.iload_n (pc' := 95) dX12_lost_94 rfl rfl rfl ?_
            refine S.iload (pc' := 97) dX12_lost_95 rfl rfl ?_
            refine S.if_eq (pc' := 100) (tgt := 107) dX12_lost_97 (by decide) rfl (by unfold fp_rng; omega) (fun h97 => ?_) (fun h97 => ?_)
            · refine S.iconst (pc' := 108) dX12_lost_107 rfl ?_
              refine S.ior (pc' := 109) dX12_lost_108 rfl (fp_ior hb (by first | exact Int.le_of_lt (Int.pow_pos (by decide)) | omega)) ?_
              refine S.istore_n (pc' := 110) (LL' := [_, _, _, _, _, _, _]) dX12_lost_109 rfl (by decide) rfl rfl rfl ?_
              refine S.iinc (pc' := 113) (LL' := [_, _, _, _, _, _, _]) dX12_lost_110 rfl (by decide) rfl rfl rfl ?_
              refine S.goto (pc' := 28) dX12_lost_113 (by decide) ?_
              first | (exfalso; omega) | (rw [if_neg (by omega)] at es; rw [fp_or0 hb, ← es]; exact ih _ _ _ (by omega) (by omega) (by omega)) | (rw [if_pos ⟨by omega, by omega, by omega⟩] at es; rw [v4, ← es]; exact ih _ _ _ (by omega) (by omega) (by omega))
            · refine S.iconst (pc' := 101) dX12_lost_100 rfl ?_
              refine S.iload (pc' := 103) dX12_lost_101 rfl rfl ?_
              refine S.ishl (pc' := 104) dX12_lost_103 rfl (fp_shl1 (by omega) (by omega)) ?_
              refine S.goto (pc' := 108) dX12_lost_104 (by decide) ?_
              refine S.ior (pc' := 109) dX12_lost_108 rfl (fp_ior hb (by first | exact Int.le_of_lt (Int.pow_pos (by decide)) | omega)) ?_
              refine S.istore_n (pc' := 110) (LL' := [_, _, _, _, _, _, _]) dX12_lost_109 rfl (by decide) rfl rfl rfl ?_
              refine S.iinc (pc' := 113) (LL' := [_, _, _, _, _, _, _]) dX12_lost_110 rfl (by decide) rfl rfl rfl ?_
              refine S.goto (pc' := 28) dX12_lost_113 (by decide) ?_
              first | (exfalso; omega) | (rw [if_neg (by omega)] at es; rw [fp_or0 hb, ← es]; exact ih _ _ _ (by omega) (by omega) (by omega)) | (rw [if_pos ⟨by omega, by omega, by omega⟩] at es; rw [v4, ← es]; exact ih _ _ _ (by omega) (by omega) (by omega))
          · refine S.iload_n (pc' := 79) dX12_lost_78 rfl rfl rfl ?_
            refine S.iload (pc' := 81) dX12_lost_79 rfl rfl ?_
            refine S.ishr (pc' := 82) dX12_lost_81 rfl (fp_shrv (by omega) (by omega)) ?_
            refine S.iconst (pc' := 83) dX12_lost_82 rfl ?_
            refine S.iand (pc' := 84) dX12_lost_83 rfl (fp_iand hdn (by decide)) ?_
            refine S.if_ne (pc' := 87) (tgt := 91) dX12_lost_84 (by decide) rfl (by unfold fp_rng; omega) (fun h84 => ?_) (fun h84 => ?_)
            · refine S.iconst (pc' := 92) dX12_lost_91 rfl ?_
              refine S.istore (pc' := 94) (LL' := [_, _, _, _, _, _, _]) dX12_lost_92 rfl (by decide) rfl rfl ?_
              refine S.iload_n (pc' := 95) dX12_lost_94 rfl rfl rfl ?_
              refine S.iload (pc' := 97) dX12_lost_95 rfl rfl ?_
              refine S.if_eq (pc' := 100) (tgt := 107) dX12_lost_97 (by decide) rfl (by unfold fp_rng; omega) (fun h97 => ?_) (fun h97 => ?_)
              · refine S.iconst (pc' := 108) dX12_lost_107 rfl ?_
                refine S.ior (pc' := 109) dX12_lost_108 rfl (fp_ior hb (by first | exact Int.le_of_lt (Int.pow_pos (by decide)) | omega)) ?_
                refine S.istore_n (pc' := 110) (LL' := [_, _, _, _, _, _, _]) dX12_lost_109 rfl (by decide) rfl rfl rfl ?_
                refine S.iinc (pc' := 113) (LL' := [_, _, _, _, _, _, _]) dX12_lost_110 rfl (by decide) rfl rfl rfl ?_
                refine S.goto (pc' := 28) dX12_lost_113 (by decide) ?_
                first | (exfalso; omega) | (rw [if_neg (by omega)] at es; rw [fp_or0 hb, ← es]; exact ih _ _ _ (by omega) (by omega) (by omega)) | (rw [if_pos ⟨by omega, by omega, by omega⟩] at es; rw [v4, ← es]; exact ih _ _ _ (by omega) (by omega) (by omega))
              · refine S.iconst (pc' := 101) dX12_lost_100 rfl ?_
                refine S.iload (pc' := 103) dX12_lost_101 rfl rfl ?_
                refine S.ishl (pc' := 104) dX12_lost_103 rfl (fp_shl1 (by omega) (by omega)) ?_
                refine S.goto (pc' := 108) dX12_lost_104 (by decide) ?_
                refine S.ior (pc' := 109) dX12_lost_108 rfl (fp_ior hb (by first | exact Int.le_of_lt (Int.pow_pos (by decide)) | omega)) ?_
                refine S.istore_n (pc' := 110) (LL' := [_, _, _, _, _, _, _]) dX12_lost_109 rfl (by decide) rfl rfl rfl ?_
                refine S.iinc (pc' := 113) (LL' := [_, _, _, _, _, _, _]) dX12_lost_110 rfl (by decide) rfl rfl rfl ?_
                refine S.goto (pc' := 28) dX12_lost_113 (by decide) ?_
                first | (exfalso; omega) | (rw [if_neg (by omega)] at es; rw [fp_or0 hb, ← es]; exact ih _ _ _ (by omega) (by omega) (by omega)) | (rw [if_pos ⟨by omega, by omega, by omega⟩] at es; rw [v4, ← es]; exact ih _ _ _ (by omega) (by omega) (by omega))
            · refine S.iconst (pc' := 88) dX12_lost_87 rfl ?_
              refine S.goto (pc' := 92) dX12_lost_88 (by decide) ?_
              refine S.istore (pc' := 94) (LL' := [_, _, _, _, _, _, _]) dX12_lost_92 rfl (by decide) rfl rfl ?_
              refine S.iload_n (pc' := 95) dX12_lost_94 rfl rfl rfl ?_
              refine S.iload (pc' := 97) dX12_lost_95 rfl rfl ?_
              refine S.if_eq (pc' := 100) (tgt := 107) dX12_lost_97 (by decide) rfl (by unfold fp_rng; omega) (fun h97 => ?_) (fun h97 => ?_)
              · refine S.iconst (pc' := 108) dX12_lost_107 rfl ?_
                refine S.ior (pc' := 109) dX12_lost_108 rfl (fp_ior hb (by first | exact Int.le_of_lt (Int.pow_pos (by decide)) | omega)) ?_
                refine S.istore_n (pc' := 110) (LL' := [_, _, _, _, _, _, _]) dX12_lost_109 rfl (by decide) rfl rfl rfl ?_
                refine S.iinc (pc' := 113) (LL' := [_, _, _, _, _, _, _]) dX12_lost_110 rfl (by decide) rfl rfl rfl ?_
                refine S.goto (pc' := 28) dX12_lost_113 (by decide) ?_
                first | (exfalso; omega) | (rw [if_neg (by omega)] at es; rw [fp_or0 hb, ← es]; exact ih _ _ _ (by omega) (by omega) (by omega)) | (rw [if_pos ⟨by omega, by omega, by omega⟩] at es; rw [v4, ← es]; exact ih _ _ _ (by omega) (by omega) (by omega))
              · refine S.iconst (pc' := 101) dX12_lost_100 rfl ?_
                refine S.iload (pc' := 103) dX12_lost_101 rfl rfl ?_
                refine S.ishl (pc' := 104) dX12_lost_103 rfl (fp_shl1 (by omega) (by omega)) ?_
                refine S.goto (pc' := 108) dX12_lost_104 (by decide) ?_
                refine S.ior (pc' := 109) dX12_lost_108 rfl (fp_ior hb (by first | exact Int.le_of_lt (Int.pow_pos (by decide)) | omega)) ?_
                refine S.istore_n (pc' := 110) (LL' := [_, _, _, _, _, _, _]) dX12_lost_109 rfl (by decide) rfl rfl rfl ?_
                refine S.iinc (pc' := 113) (LL' := [_, _, _, _, _, _, _]) dX12_lost_110 rfl (by decide) rfl rfl rfl ?_
                refine S.goto (pc' := 28) dX12_lost_113 (by decide) ?_
                first | (exfalso; omega) | (rw [if_neg (by omega)] at es; rw [fp_or0 hb, ← es]; exact ih _ _ _ (by omega) (by omega) (by omega)) | (rw [if_pos ⟨by omega, by omega, by omega⟩] at es; rw [v4, ← es]; exact ih _ _ _ (by omega) (by omega) (by omega))
    · have ei : i.toNat = vs.length := by omega
      rw [ei] at hb ⊢
      refine S.iload (pc' := 30) dX12_lost_28 rfl rfl ?_
      refine S.aload_n (pc' := 31) dX12_lost_30 rfl rfl rfl ?_
      refine S.callVe (pc' := 34) dX12_lost_31 rfl cX12_225 (ok_X12_visits) rfl L_177 (by decide) rfl (Nat.le_of_ble_eq_true rfl) ?_
      refine S.icmp_ge (pc' := 37) (tgt := 116) dX12_lost_34 (by decide) rfl (by unfold fp_rng; omega) (by unfold fp_rng; omega) (fun h34 => ?_) (fun h34 => ?_)
      · refine S.iconst (pc' := 117) dX12_lost_116 rfl ?_
        refine S.istore (pc' := 119) (LL' := [_, _, _, _, _, _, _]) dX12_lost_117 rfl (by decide) rfl rfl ?_
        refine S.iconst (pc' := 120) dX12_lost_119 rfl ?_
        refine S.istore (pc' := 122) (LL' := [_, _, _, _, _, _, _]) dX12_lost_120 rfl (by decide) rfl rfl ?_
        exact mlost_two hp hg (aRun_ok hg hP hvo vs.length) hb hc hcs hfr 5 0 (by omega) (by omega) (by omega)
      · exfalso; omega
theorem mm_lost {p : Int} (hc : MS M tp fl g pg vs nt im sh tn) (ho : OK g pg vs nt im sh) (hp : fp_rng p) : fp_Ok l G 6 kX12_lost [rV G 177, iV p] M (qI fun z N => z = A_lost g pg vs p ∧ MS N tp fl g pg vs nt im sh tn ∧ frD M N) := by
  have hcs := hc
  obtain ⟨-, hd, hcl, hv, -⟩ := hc
  have hv0 : mvIs M vs := hv
  have hv1 := hv.1
  have ho' := ho
  obtain ⟨hg, hP, hvo, -⟩ := ho
  refine fp_Ok.of (r := 5) rfl (Nat.le_of_ble_eq_true rfl) rfl ?_
  unfold A_lost
  by_cases hin : 0 ≤ p ∧ p < 4
  · rw [if_pos hin]
    refine S.iload_n (pc' := 1) dX12_lost_0 rfl rfl rfl ?_
    refine S.callSi (pc' := 4) dX12_lost_1 rfl cX12_228 (bk_X12_isOne) rfl (by decide) rfl (Nat.le_of_ble_eq_true rfl) (fun z1 M1 q1 => ?_)
    obtain ⟨b1, rfl⟩ := q1
    refine S.if_ne (pc' := 7) (tgt := 9) dX12_lost_4 (by decide) rfl (by unfold fp_rng; omega) (fun h4 => ?_) (fun h4 => ?_)
    · refine S.aload_n (pc' := 10) dX12_lost_9 rfl rfl rfl ?_
      refine S.iconst (pc' := 11) dX12_lost_10 rfl ?_
      refine S.iload_n (pc' := 12) dX12_lost_11 rfl rfl rfl ?_
      refine S.callVe (pc' := 15) dX12_lost_12 rfl cX12_231 (rk_X12_holdsAt (g := g) (pg := pg)) rfl L_177 (by decide) rfl (Nat.le_of_ble_eq_true rfl) ?_
      refine S.istore_n (pc' := 16) (LL' := [_, _, _, _, _, _, _]) dX12_lost_15 rfl (by decide) rfl rfl rfl ?_
      refine S.aload_n (pc' := 17) dX12_lost_16 rfl rfl rfl ?_
      refine S.aload_n (pc' := 18) dX12_lost_17 rfl rfl rfl ?_
      refine S.callVe (pc' := 21) dX12_lost_18 rfl cX12_225 (ok_X12_visits) rfl L_177 (by decide) rfl (Nat.le_of_ble_eq_true rfl) ?_
      rw [hv1]
      refine S.callVi (pc' := 24) dX12_lost_21 rfl cX12_268 (rk_X12_runs (g := g) (pg := pg) (vs := vs)) rfl L_177 (by decide) rfl (Nat.le_of_ble_eq_true rfl) (fun z21 M21 q21 => ?_)
      obtain ⟨z1, c1, f1⟩ := q21
      rw [Int.toNat_natCast] at z1 c1
      refine S.istore_n (pc' := 25) (LL' := [_, _, _, _, _, _, _]) dX12_lost_24 rfl (by decide) rfl rfl rfl ?_
      refine S.iconst (pc' := 26) dX12_lost_25 rfl ?_
      refine S.istore (pc' := 28) (LL' := [_, _, _, _, _, _, _]) dX12_lost_26 rfl (by decide) rfl rfl ?_
      rw [z1]; exact mlost_one hin ho' c1 (hcs.tri ho' f1) f1.d (vs.length + 1) 0 none none (by omega) (by omega) (by omega)
    · exfalso; omega
  · rw [if_neg hin]
    refine S.iload_n (pc' := 1) dX12_lost_0 rfl rfl rfl ?_
    refine S.callSi (pc' := 4) dX12_lost_1 rfl cX12_228 (bk_X12_isOne) rfl (by decide) rfl (Nat.le_of_ble_eq_true rfl) (fun z1 M1 q1 => ?_)
    obtain ⟨b1, rfl⟩ := q1
    refine S.if_ne (pc' := 7) (tgt := 9) dX12_lost_4 (by decide) rfl (by unfold fp_rng; omega) (fun h4 => ?_) (fun h4 => ?_)
    · exfalso; omega
    · refine S.iconst (pc' := 8) dX12_lost_7 rfl ?_
      refine S.iret dX12_lost_8 rfl ?_
      exact ⟨rfl, hcs, frD.refl _⟩
end LOS
