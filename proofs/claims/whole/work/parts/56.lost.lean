/-! LOST -/
def aHd (g : aGd) (pg : aPg) (vs : List aVt) (p : Int) : Nat → Int
  | 0 => aHolds g pg p
  | n + 1 => if (aHapI g (aRun g pg vs n) vs n).1 ≠ 0 ∧ (vs.getD n aV0).2.1 = p ∧ (vs.getD n aV0).2.2.2 ≠ -4 then fp_or (aHd g pg vs p n) (2 ^ (vs.getD n aV0).2.2.2.toNat) else aHd g pg vs p n
def aOt (g : aGd) (pg : aPg) (p : Int) : Nat → Int
  | 0 => 0
  | n + 1 => if (n : Int) = p then aOt g pg p n else fp_or (aOt g pg p n) (aHolds g pg n)
def A_lost (g : aGd) (pg : aPg) (vs : List aVt) (p : Int) : Int := if 0 ≤ p ∧ p < 4 then fp_and (aHd g pg vs p vs.length) (aOt g (aRun g pg vs vs.length) p 4) else -1
theorem aHd_succ {g : aGd} {pg : aPg} {vs : List aVt} {p i : Int} (h : 0 ≤ i) : aHd g pg vs p (i + 1).toNat = if (aHapI g (aRun g pg vs i.toNat) vs i).1 ≠ 0 ∧ (vs.getD i.toNat aV0).2.1 = p ∧ (vs.getD i.toNat aV0).2.2.2 ≠ -4 then fp_or (aHd g pg vs p i.toNat) (2 ^ (vs.getD i.toNat aV0).2.2.2.toNat) else aHd g pg vs p i.toNat := by
  have e1 : (i + 1).toNat = i.toNat + 1 := by omega
  rw [e1]
  show (if (aHapI g (aRun g pg vs i.toNat) vs ((i.toNat : Nat) : Int)).1 ≠ 0 ∧ _ then _ else _) = _
  rw [Int.toNat_of_nonneg h]
theorem aOt_succ {g : aGd} {pg : aPg} {p i : Int} (h : 0 ≤ i) : aOt g pg p (i + 1).toNat = if i = p then aOt g pg p i.toNat else fp_or (aOt g pg p i.toNat) (aHolds g pg i) := by
  have e1 : (i + 1).toNat = i.toNat + 1 := by omega
  rw [e1]
  show (if ((i.toNat : Nat) : Int) = p then _ else fp_or _ (aHolds g pg ((i.toNat : Nat) : Int))) = _
  rw [Int.toNat_of_nonneg h]
theorem aHolds_nn (g : aGd) (pg : aPg) (p : Int) : 0 ≤ aHolds g pg p := (fp_hb_lt pg.1 p g.1.toNat).1
theorem aHd_nn (g : aGd) (pg : aPg) (vs : List aVt) (p : Int) : ∀ n, 0 ≤ aHd g pg vs p n
  | 0 => aHolds_nn g pg p
  | n + 1 => by
    unfold aHd
    split
    · exact fp_or_nn _ _
    · exact aHd_nn g pg vs p n
theorem aOt_nn (g : aGd) (pg : aPg) (p : Int) : ∀ n, 0 ≤ aOt g pg p n
  | 0 => Int.le_refl _
  | n + 1 => by
    unfold aOt
    split
    · exact aOt_nn g pg p n
    · exact fp_or_nn _ _
/-- the bits of those in vain -/
theorem aVn_bit (g : aGd) (pg : aPg) (vs : List aVt) (i : Nat) : ∀ n : Nat, (aVn g pg vs n).toNat.testBit i = decide (i < n ∧ (aHapI g (aRun g pg vs i) vs i).1 = 0)
  | 0 => by
    have e : aVn g pg vs 0 = 0 := rfl
    rw [e]
    simp
  | n + 1 => by
    have ih := aVn_bit g pg vs i n
    have e : aVn g pg vs (n + 1) = if (aHapI g (aRun g pg vs n) vs n).1 = 0 then fp_or (aVn g pg vs n) (2 ^ n) else aVn g pg vs n := rfl
    have h2 : ((2 : Int) ^ n).toNat = 2 ^ n := by
      have h3 : ((2 ^ n : Nat) : Int) = 2 ^ n := by simp
      rw [← h3, Int.toNat_natCast]
    rw [e]
    by_cases hz : (aHapI g (aRun g pg vs n) vs n).1 = 0
    · rw [if_pos hz]
      unfold fp_or
      rw [Int.toNat_natCast, Nat.testBit_or, ih, h2, Nat.testBit_two_pow]
      by_cases hi : i = n
      · subst hi; simp [hz]
      · have : (i < n + 1) ↔ (i < n) := by omega
        simp [this, Ne.symm hi]
    · rw [if_neg hz, ih]
      by_cases hi : i = n
      · subst hi; simp [hz]
      · have : (i < n + 1) ↔ (i < n) := by omega
        simp [this]
theorem fp_shrv {v i : Int} (hv : 0 ≤ v ∧ v < 2147483648) (hi : 0 ≤ i ∧ i < 31) : Int32.ofInt v >>> (Int32.ofInt i &&& 31) = Int32.ofInt (v / 2 ^ i.toNat) := by
  have hs : ((Int32.ofInt i &&& 31).toBitVec.smod 32).toNat = i.toNat := by
    have h : ∀ n : Nat, n < 31 → ((Int32.ofInt (n : Int) &&& 31).toBitVec.smod 32).toNat = n := by decide +kernel
    have := h i.toNat (by omega)
    rwa [Int.toNat_of_nonneg hi.1] at this
  have hp : (0 : Int) < 2 ^ i.toNat := Int.pow_pos (by decide)
  have hd0 : 0 ≤ v / 2 ^ i.toNat := Int.ediv_nonneg hv.1 (by omega)
  have hd1 : v / 2 ^ i.toNat ≤ v := Int.ediv_le_self _ hv.1
  rw [← Int32.toInt_inj, pk_shr _ _ i.toNat hs, fp_toInt ⟨by omega, by omega⟩, fp_toInt ⟨by omega, by omega⟩, Int.shiftRight_eq_div_pow]
  simp
theorem fp_bitv {v i : Int} (hv : 0 ≤ v) : fp_and (v / 2 ^ i.toNat) 1 = if v.toNat.testBit i.toNat then 1 else 0 := by
  unfold fp_and
  have e : (v / 2 ^ i.toNat).toNat = v.toNat >>> i.toNat := by
    obtain ⟨n, rfl⟩ := Int.eq_ofNat_of_zero_le hv
    rw [Nat.shiftRight_eq_div_pow, Int.toNat_natCast, show ((n : Int) / 2 ^ i.toNat) = ((n / 2 ^ i.toNat : Nat) : Int) by simp, Int.toNat_natCast]
  rw [e]
  have h1 : (1 : Int).toNat = 1 := rfl
  rw [h1, Nat.and_one_is_mod]
  have h3 : v.toNat.testBit i.toNat = (v.toNat >>> i.toNat % 2 == 1) := by
    rw [Nat.testBit, Nat.one_and_eq_mod_two]
    rcases Nat.mod_two_eq_zero_or_one (v.toNat >>> i.toNat) with h | h <;> simp [h]
  rw [h3]
  rcases Nat.mod_two_eq_zero_or_one (v.toNat >>> i.toNat) with h | h <;> simp [h]
section LOS
variable {l : Launch} {G : fp_WG} {M N : fp_Mem} {tp tp' : List Int} {fl fl' : Int} {g : aGd} {pg pg' : aPg} {vs vs' : List aVt} {nt nt' : List Int} {im im' : aIm} {sh sh' : aSh} {tn tn' : Int} {k k2 : Nat}
theorem clost_two {p had : Int} (hp : 0 ≤ p ∧ p < 4) (hg : gOk g) (hPi : pgOk g pg') (hh : 0 ≤ had) (hc : clIs N 41 g pg') (hcs : CS N tp fl g pg vs nt im sh tn) (hfr : frC M N) : ∀ (n : Nat) (q : Int), (4 - q).toNat < n → 0 ≤ q → q ≤ 4 →
    fp_S l G 4 kX11_lost 128 [some (rV G 0), some (iV p), some (rV G 41), some (iV had), some (iV (aOt g pg' p q.toNat)), some (iV q)] [] N (qI fun z O => z = fp_and had (aOt g pg' p 4) ∧ CS O tp fl g pg vs nt im sh tn ∧ frC M O) := by
  intro n
  induction n with
  | zero => intro q h; omega
  | succ n ih =>
    intro q h q0 q1
    have hb := aOt_nn g pg' p q.toNat
    have hb2 := aHolds_nn g pg' q
    have es := aOt_succ (g := g) (pg := pg') (p := p) q0
    refine S.iload (pc' := 130) dX11_lost_128 rfl rfl ?_
    refine S.iconst (pc' := 131) dX11_lost_130 rfl ?_
    refine S.icmp_ge (pc' := 134) (tgt := 157) dX11_lost_131 (by decide) rfl (by unfold fp_rng; omega) (by unfold fp_rng; omega) (fun h131 => ?_) (fun h131 => ?_)
    · refine S.iload_n (pc' := 158) dX11_lost_157 rfl rfl rfl ?_
      refine S.iload (pc' := 160) dX11_lost_158 rfl rfl ?_
      refine S.iand (pc' := 161) dX11_lost_160 rfl (fp_iand hh hb) ?_
      refine S.iret dX11_lost_161 rfl ?_
      exact ⟨by rw [show q.toNat = 4 by omega], hcs, hfr⟩
    · refine S.iload (pc' := 136) dX11_lost_134 rfl rfl ?_
      refine S.iload_n (pc' := 137) dX11_lost_136 rfl rfl rfl ?_
      refine S.icmp_eq (pc' := 140) (tgt := 151) dX11_lost_137 (by decide) rfl (by unfold fp_rng; omega) (by unfold fp_rng; omega) (fun h137 => ?_) (fun h137 => ?_)
      · refine S.iinc (pc' := 154) (LL' := [_, _, _, _, _, _]) dX11_lost_151 rfl (by decide) rfl rfl rfl ?_
        refine S.goto (pc' := 128) dX11_lost_154 (by decide) ?_
        first | (rw [if_pos h137] at es; rw [← es]; exact ih _ (by omega) (by omega) (by omega)) | (rw [if_neg h137] at es; rw [← es]; exact ih _ (by omega) (by omega) (by omega))
      · refine S.iload (pc' := 142) dX11_lost_140 rfl rfl ?_
        refine S.aload_n (pc' := 143) dX11_lost_142 rfl rfl rfl ?_
        refine S.iload (pc' := 145) dX11_lost_143 rfl rfl ?_
        refine S.callVe (pc' := 148) dX11_lost_145 rfl cX11_184 (rk_X5_heldBy (g := g) (pg := pg') pl41) rfl (pl_lay pl41) (by decide) rfl (Nat.le_of_ble_eq_true rfl) ?_
        refine S.ior (pc' := 149) dX11_lost_148 rfl (fp_ior hb hb2) ?_
        refine S.istore (pc' := 151) (LL' := [_, _, _, _, _, _]) dX11_lost_149 rfl (by decide) rfl rfl ?_
        refine S.iinc (pc' := 154) (LL' := [_, _, _, _, _, _]) dX11_lost_151 rfl (by decide) rfl rfl rfl ?_
        refine S.goto (pc' := 128) dX11_lost_154 (by decide) ?_
        first | (rw [if_pos h137] at es; rw [← es]; exact ih _ (by omega) (by omega) (by omega)) | (rw [if_neg h137] at es; rw [← es]; exact ih _ (by omega) (by omega) (by omega))
theorem clost_one {p : Int} (hp : 0 ≤ p ∧ p < 4) (hP : pgOk g pg) (hg : gOk g) (hvo : vsOk g vs) (hv : vsIs M 27 vs) (hd : gdIs M 18 g) (hcs : CS M tp fl g pg vs nt im sh tn) : ∀ (n : Nat) (i : Int) (N : fp_Mem) (o5 : Option Value), ((vs.length : Int) - i).toNat < n → 0 ≤ i → i ≤ vs.length → frP M N 41 → clIs N 41 g (aRun g pg vs i.toNat) →
    fp_S l G 4 kX11_lost 42 [some (rV G 0), some (iV p), some (rV G 41), some (iV (aHd g pg vs p i.toNat)), some (iV i), o5] [] N (qI fun z O => z = fp_and (aHd g pg vs p vs.length) (aOt g (aRun g pg vs vs.length) p 4) ∧ CS O tp fl g pg vs nt im sh tn ∧ frC M O) := by
  have hl := hv.2.1
  have hg1 := hg.1
  intro n
  induction n with
  | zero => intro i N o5 h; omega
  | succ n ih =>
    intro i N o5 h i0 i1 hf hc
    have hb := aHd_nn g pg vs p i.toNat
    have es := aHd_succ (g := g) (pg := pg) (vs := vs) (p := p) i0
    have er := aRun_succ (g := g) (pg := pg) (vs := vs) i0
    have hPi := aRun_ok hg hP hvo i.toNat
    have hv' := hf.vs pl41 vs27 hv
    have hd' := hf.gd pl41 gd18 hd
    have hl1 := hv'.1
    by_cases hlt : i < vs.length
    · have hvi := hv'.2.2 i i0 hlt
      have hvk := hvo.at i0 hlt
      unfold vOk at hvk
      refine S.iload (pc' := 44) dX11_lost_42 rfl rfl ?_
      refine S.aload_n (pc' := 45) dX11_lost_44 rfl rfl rfl ?_
      refine S.getR (pc' := 48) dX11_lost_45 rfl fX11_37 L_0 rf_0_5 ?_
      refine S.getI (pc' := 51) dX11_lost_48 rfl fX11_205 (vs_lay vs27) ?_
      refine S.icmp_ge (pc' := 54) (tgt := 122) dX11_lost_51 (by decide) rfl (by unfold fp_rng; omega) (by unfold fp_rng; omega) (fun h51 => ?_) (fun h51 => ?_)
      · exfalso; omega
      · refine S.aload_n (pc' := 55) dX11_lost_54 rfl rfl rfl ?_
        refine S.getR (pc' := 58) dX11_lost_55 rfl fX11_37 L_0 rf_0_5 ?_
        refine S.aload_n (pc' := 59) dX11_lost_58 rfl rfl rfl ?_
        refine S.getR (pc' := 62) dX11_lost_59 rfl fX11_23 L_0 rf_0_3 ?_
        refine S.aload_n (pc' := 63) dX11_lost_62 rfl rfl rfl ?_
        refine S.iload (pc' := 65) dX11_lost_63 rfl rfl ?_
        refine S.callVi (pc' := 68) dX11_lost_65 rfl cX11_206 (rk_X10_happens (g := g) (pg := aRun g pg vs i.toNat) (vs := vs) vs27 gd18 pl41) rfl (vs_lay vs27) (by decide) rfl (Nat.le_of_ble_eq_true rfl) (fun z65 M65 q65 => ?_)
        have h01 := aHapI_01 g (aRun g pg vs i.toNat) vs i
        obtain ⟨rfl, c1, f1⟩ := q65
        rw [← er] at c1
        have hv9 := (f1.vs pl41 vs27 hv').2.2 i i0 hlt
        refine S.istore (pc' := 70) (LL' := [_, _, _, _, _, _]) dX11_lost_68 rfl (by decide) rfl rfl ?_
        refine S.iload (pc' := 72) dX11_lost_70 rfl rfl ?_
        refine S.if_eq (pc' := 75) (tgt := 116) dX11_lost_72 (by decide) rfl (by unfold fp_rng; omega) (fun h72 => ?_) (fun h72 => ?_)
        · refine S.iinc (pc' := 119) (LL' := [_, _, _, _, _, _]) dX11_lost_116 rfl (by decide) rfl rfl rfl ?_
          refine S.goto (pc' := 42) dX11_lost_119 (by decide) ?_
          first | (rw [if_neg (by omega)] at es; rw [← es]; exact ih _ _ _ (by omega) (by omega) (by omega) (hf.trans f1) c1) | (rw [if_pos ⟨by omega, by omega, by omega⟩] at es; rw [hv9.2.2.2, ← es]; exact ih _ _ _ (by omega) (by omega) (by omega) (hf.trans f1) c1)
        · refine S.aload_n (pc' := 76) dX11_lost_75 rfl rfl rfl ?_
          refine S.getR (pc' := 79) dX11_lost_76 rfl fX11_37 L_0 rf_0_5 ?_
          refine S.getR (pc' := 82) dX11_lost_79 rfl fX11_169 (vs_lay vs27) (vs_r2 vs27) ?_
          refine S.iload (pc' := 84) dX11_lost_82 rfl rfl ?_
          refine S.iald (pc' := 85) dX11_lost_84 rfl (vs_a2 vs27) (by omega) (by omega) ?_
          refine S.iload_n (pc' := 86) dX11_lost_85 rfl rfl rfl ?_
          refine S.icmp_ne (pc' := 89) (tgt := 116) dX11_lost_86 (by decide) rfl (by unfold fp_rng; omega) (by unfold fp_rng; omega) (fun h86 => ?_) (fun h86 => ?_)
          · refine S.iinc (pc' := 119) (LL' := [_, _, _, _, _, _]) dX11_lost_116 rfl (by decide) rfl rfl rfl ?_
            refine S.goto (pc' := 42) dX11_lost_119 (by decide) ?_
            first | (rw [if_neg (by omega)] at es; rw [← es]; exact ih _ _ _ (by omega) (by omega) (by omega) (hf.trans f1) c1) | (rw [if_pos ⟨by omega, by omega, by omega⟩] at es; rw [hv9.2.2.2, ← es]; exact ih _ _ _ (by omega) (by omega) (by omega) (hf.trans f1) c1)
          · refine S.aload_n (pc' := 90) dX11_lost_89 rfl rfl rfl ?_
            refine S.getR (pc' := 93) dX11_lost_90 rfl fX11_37 L_0 rf_0_5 ?_
            refine S.iload (pc' := 95) dX11_lost_93 rfl rfl ?_
            refine S.callVi (pc' := 98) dX11_lost_95 rfl cX11_218 ((ok_X10_isDraw vs27).toB) rfl (vs_lay vs27) (by decide) rfl (Nat.le_of_ble_eq_true rfl) (fun z95 M95 q95 => ?_)
            obtain ⟨b9, rfl⟩ := q95
            refine S.if_ne (pc' := 101) (tgt := 116) dX11_lost_98 (by decide) rfl (by unfold fp_rng; omega) (fun h98 => ?_) (fun h98 => ?_)
            · refine S.iinc (pc' := 119) (LL' := [_, _, _, _, _, _]) dX11_lost_116 rfl (by decide) rfl rfl rfl ?_
              refine S.goto (pc' := 42) dX11_lost_119 (by decide) ?_
              first | (rw [if_neg (by omega)] at es; rw [← es]; exact ih _ _ _ (by omega) (by omega) (by omega) (hf.trans f1) c1) | (rw [if_pos ⟨by omega, by omega, by omega⟩] at es; rw [hv9.2.2.2, ← es]; exact ih _ _ _ (by omega) (by omega) (by omega) (hf.trans f1) c1)
            · refine S.iload_n (pc' := 102) dX11_lost_101 rfl rfl rfl ?_
              refine S.iconst (pc' := 103) dX11_lost_102 rfl ?_
              refine S.aload_n (pc' := 104) dX11_lost_103 rfl rfl rfl ?_
              refine S.getR (pc' := 107) dX11_lost_104 rfl fX11_37 L_0 rf_0_5 ?_
              refine S.getR (pc' := 110) dX11_lost_107 rfl fX11_175 (vs_lay vs27) (vs_r4 vs27) ?_
              refine S.iload (pc' := 112) dX11_lost_110 rfl rfl ?_
              refine S.iald (pc' := 113) dX11_lost_112 rfl (vs_a4 vs27) (by omega) (by omega) ?_
              refine S.ishl (pc' := 114) dX11_lost_113 rfl (fp_shl1 (by omega) (by omega)) ?_
              refine S.ior (pc' := 115) dX11_lost_114 rfl (fp_ior hb (Int.le_of_lt (Int.pow_pos (by decide)))) ?_
              refine S.istore_n (pc' := 116) (LL' := [_, _, _, _, _, _]) dX11_lost_115 rfl (by decide) rfl rfl rfl ?_
              refine S.iinc (pc' := 119) (LL' := [_, _, _, _, _, _]) dX11_lost_116 rfl (by decide) rfl rfl rfl ?_
              refine S.goto (pc' := 42) dX11_lost_119 (by decide) ?_
              first | (rw [if_neg (by omega)] at es; rw [← es]; exact ih _ _ _ (by omega) (by omega) (by omega) (hf.trans f1) c1) | (rw [if_pos ⟨by omega, by omega, by omega⟩] at es; rw [hv9.2.2.2, ← es]; exact ih _ _ _ (by omega) (by omega) (by omega) (hf.trans f1) c1)
    · have ei : i.toNat = vs.length := by omega
      rw [ei] at hc hb ⊢
      refine S.iload (pc' := 44) dX11_lost_42 rfl rfl ?_
      refine S.aload_n (pc' := 45) dX11_lost_44 rfl rfl rfl ?_
      refine S.getR (pc' := 48) dX11_lost_45 rfl fX11_37 L_0 rf_0_5 ?_
      refine S.getI (pc' := 51) dX11_lost_48 rfl fX11_205 (vs_lay vs27) ?_
      refine S.icmp_ge (pc' := 54) (tgt := 122) dX11_lost_51 (by decide) rfl (by unfold fp_rng; omega) (by unfold fp_rng; omega) (fun h51 => ?_) (fun h51 => ?_)
      · refine S.iconst (pc' := 123) dX11_lost_122 rfl ?_
        refine S.istore (pc' := 125) (LL' := [_, _, _, _, _, _]) dX11_lost_123 rfl (by decide) rfl rfl ?_
        refine S.iconst (pc' := 126) dX11_lost_125 rfl ?_
        refine S.istore (pc' := 128) (LL' := [_, _, _, _, _, _]) dX11_lost_126 rfl (by decide) rfl rfl ?_
        exact clost_two hp hg (aRun_ok hg hP hvo vs.length) hb hc (hcs.scr hf) (hf.c (by decide)) 5 0 (by omega) (by omega) (by omega)
      · exfalso; omega
theorem cc_lost {p : Int} (hc : CS M tp fl g pg vs nt im sh tn) (ho : OK g pg vs nt im sh) (hp : fp_rng p) : fp_Ok l G 4 kX11_lost [rV G 0, iV p] M (qI fun z N => z = A_lost g pg vs p ∧ CS N tp fl g pg vs nt im sh tn ∧ frC M N) := by
  have hcs := hc
  obtain ⟨-, hd, hcl, hv, -⟩ := hc
  obtain ⟨hg, hP, hvo, -⟩ := ho
  refine fp_Ok.of (r := 4) rfl (Nat.le_of_ble_eq_true rfl) rfl ?_
  unfold A_lost
  by_cases hin : 0 ≤ p ∧ p < 4
  · rw [if_pos hin]
    refine S.iload_n (pc' := 1) dX11_lost_0 rfl rfl rfl ?_
    refine S.callSi (pc' := 4) dX11_lost_1 rfl cX11_181 (bk_X11_isOne) rfl (by decide) rfl (Nat.le_of_ble_eq_true rfl) (fun z1 M1 q1 => ?_)
    obtain ⟨b1, rfl⟩ := q1
    refine S.if_ne (pc' := 7) (tgt := 9) dX11_lost_4 (by decide) rfl (by unfold fp_rng; omega) (fun h4 => ?_) (fun h4 => ?_)
    · refine S.aload_n (pc' := 10) dX11_lost_9 rfl rfl rfl ?_
      refine S.getR (pc' := 13) dX11_lost_10 rfl fX11_51 L_0 rf_0_7 ?_
      refine S.aload_n (pc' := 14) dX11_lost_13 rfl rfl rfl ?_
      refine S.getR (pc' := 17) dX11_lost_14 rfl fX11_23 L_0 rf_0_3 ?_
      refine S.aload_n (pc' := 18) dX11_lost_17 rfl rfl rfl ?_
      refine S.getR (pc' := 21) dX11_lost_18 rfl fX11_37 L_0 rf_0_5 ?_
      refine S.aload_n (pc' := 22) dX11_lost_21 rfl rfl rfl ?_
      refine S.getR (pc' := 25) dX11_lost_22 rfl fX11_30 L_0 rf_0_4 ?_
      refine S.iconst (pc' := 26) dX11_lost_25 rfl ?_
      refine S.callVr (pc' := 29) dX11_lost_26 rfl cX11_214 (rk_X8_behind (g := g) (pg := pg) (vs := vs) gd18 vs27 pl22) rfl L_34 (by decide) rfl (Nat.le_of_ble_eq_true rfl) (fun z26 M26 q26 => ?_)
      obtain ⟨rfl, c1, f1⟩ := q26
      have hcl1 : clIs M26 22 g pg := hcl.kept (fun a q1 q2 => f1 a (by omega))
      refine S.astore_n (pc' := 30) (LL' := [_, _, _, _, _, _]) dX11_lost_29 rfl (by decide) rfl rfl rfl ?_
      refine S.aload_n (pc' := 31) dX11_lost_30 rfl rfl rfl ?_
      refine S.getR (pc' := 34) dX11_lost_31 rfl fX11_30 L_0 rf_0_4 ?_
      refine S.iload_n (pc' := 35) dX11_lost_34 rfl rfl rfl ?_
      refine S.callVe (pc' := 38) dX11_lost_35 rfl cX11_184 (rk_X5_heldBy (g := g) (pg := pg) pl22) rfl (pl_lay pl22) (by decide) rfl (Nat.le_of_ble_eq_true rfl) ?_
      refine S.istore_n (pc' := 39) (LL' := [_, _, _, _, _, _]) dX11_lost_38 rfl (by decide) rfl rfl rfl ?_
      refine S.iconst (pc' := 40) dX11_lost_39 rfl ?_
      refine S.istore (pc' := 42) (LL' := [_, _, _, _, _, _]) dX11_lost_40 rfl (by decide) rfl rfl ?_
      exact clost_one hin hP hg hvo hv hd hcs (vs.length + 1) 0 _ none (by omega) (by omega) (by omega) f1 c1
    · exfalso; omega
  · rw [if_neg hin]
    refine S.iload_n (pc' := 1) dX11_lost_0 rfl rfl rfl ?_
    refine S.callSi (pc' := 4) dX11_lost_1 rfl cX11_181 (bk_X11_isOne) rfl (by decide) rfl (Nat.le_of_ble_eq_true rfl) (fun z1 M1 q1 => ?_)
    obtain ⟨b1, rfl⟩ := q1
    refine S.if_ne (pc' := 7) (tgt := 9) dX11_lost_4 (by decide) rfl (by unfold fp_rng; omega) (fun h4 => ?_) (fun h4 => ?_)
    · exfalso; omega
    · refine S.iconst (pc' := 8) dX11_lost_7 rfl ?_
      refine S.iret dX11_lost_8 rfl ?_
      exact ⟨rfl, hcs, frC.refl _⟩
end LOS
