/-! go; join -/
def aVc (g : aGd) (pg : aPg) (vs : List aVt) : Nat → Int
  | 0 => 0
  | n + 1 => if (aHapI g (aRun g pg vs n) vs n).1 = 0 then aVc g pg vs n + 1 else aVc g pg vs n
def A_go (g : aGd) (pg : aPg) (vs : List aVt) (n : Int) : Int × aPg × List aVt := if 0 ≤ n ∧ n ≤ vs.length then (aVc g pg vs n.toNat, aRun g pg vs n.toNat, vs.drop n.toNat) else (-1, pg, vs)
theorem aVc_succ {g : aGd} {pg : aPg} {vs : List aVt} {i : Int} (h : 0 ≤ i) : aVc g pg vs (i + 1).toNat = if (aHapI g (aRun g pg vs i.toNat) vs i).1 = 0 then aVc g pg vs i.toNat + 1 else aVc g pg vs i.toNat := by
  have e1 : (i + 1).toNat = i.toNat + 1 := by omega
  rw [e1]
  show (if (aHapI g (aRun g pg vs i.toNat) vs ((i.toNat : Nat) : Int)).1 = 0 then _ else _) = _
  rw [Int.toNat_of_nonneg h]
theorem fp_dropD {α : Type} (L : List α) (n i : Nat) (d : α) : (L.drop n).getD i d = L.getD (n + i) d := by
  rw [List.getD_eq_getElem?_getD, List.getD_eq_getElem?_getD, List.getElem?_drop]
def fp_shf (f : Nat → Int) (b : Int) (n : Nat) : Nat → Int := fun j => if (j : Int) < b then f (j + n) else f j
section GOE
variable {l : Launch} {G : fp_WG} {M N : fp_Mem} {tp tp' : List Int} {fl fl' : Int} {g : aGd} {pg : aPg} {vs vs' : List aVt} {nt nt' : List Int} {im : aIm} {sh : aSh} {tn tn' : Int} {k k2 kg kv : Nat}
theorem drop_loop {m9 : Int} (hk : fp_isvs k) (hv : vsIs M k vs) (hm : 0 ≤ m9 ∧ m9 ≤ vs.length) : ∀ (n : Nat) (i : Int) (N : fp_Mem), ((vs.length : Int) - i).toNat < n → m9 ≤ i → i ≤ vs.length → N = fp_spl M k (fp_shf (M (k + 1)) (i - m9) m9.toNat) (fp_shf (M (k + 2)) (i - m9) m9.toNat) (fp_shf (M (k + 3)) (i - m9) m9.toNat) (fp_shf (M (k + 4)) (i - m9) m9.toNat) →
    fp_S l G 0 kX10_dropFirst 2 [some (rV G k), some (iV m9), some (iV i)] [] N (qV fun O => vsIs O k (vs.drop m9.toNat) ∧ ∀ a, (a < k ∨ k + 4 < a) → O a = M a) := by
  obtain ⟨a1, a2, a3⟩ := hv
  intro n
  induction n with
  | zero => intro i N h; omega
  | succ n ih =>
    intro i N h i0 i1 hN
    have e0 : N k = M k := by rw [hN]; exact fp_splo (by omega)
    have e1 : N (k + 1) = fp_shf (M (k + 1)) (i - m9) m9.toNat := by rw [hN]; exact fp_spl1
    have e2 : N (k + 2) = fp_shf (M (k + 2)) (i - m9) m9.toNat := by rw [hN]; exact fp_spl2
    have e3 : N (k + 3) = fp_shf (M (k + 3)) (i - m9) m9.toNat := by rw [hN]; exact fp_spl3
    have e4 : N (k + 4) = fp_shf (M (k + 4)) (i - m9) m9.toNat := by rw [hN]; exact fp_spl4
    have hsz : N k 0 = vs.length := by rw [e0]; exact a1
    have hst : ∀ f : Nat → Int, fp_upf (fp_shf f (i - m9) m9.toNat) (i - m9).toNat (fp_shf f (i - m9) m9.toNat i.toNat) = fp_shf f (i + 1 - m9) m9.toNat := by
      intro f
      funext j
      unfold fp_upf fp_shf
      (repeat' split) <;> first | rfl | (exfalso; omega) | (refine congrArg f ?_; omega)
    refine S.iload_n (pc' := 3) dX10_dropFirst_2 rfl rfl rfl ?_
    refine S.aload_n (pc' := 4) dX10_dropFirst_3 rfl rfl rfl ?_
    refine S.getI (pc' := 7) dX10_dropFirst_4 rfl fX10_24 (vs_lay hk) ?_
    refine S.icmp_ge (pc' := 10) (tgt := 72) dX10_dropFirst_7 (by decide) rfl (by unfold fp_rng; omega) (by unfold fp_rng; omega) (fun h7 => ?_) (fun h7 => ?_)
    · refine S.aload_n (pc' := 73) dX10_dropFirst_72 rfl rfl rfl ?_
      refine S.dup (pc' := 74) dX10_dropFirst_73 rfl rfl ?_
      refine S.getI (pc' := 77) dX10_dropFirst_74 rfl fX10_24 (vs_lay hk) ?_
      refine S.iload_n (pc' := 78) dX10_dropFirst_77 rfl rfl rfl ?_
      refine S.isub (pc' := 79) dX10_dropFirst_78 rfl ?_
      refine S.putI (pc' := 82) dX10_dropFirst_79 rfl fX10_24 (vs_lay hk) ?_
      refine S.vret dX10_dropFirst_82 rfl ?_
      have hi : i = vs.length := by omega
      refine ⟨?_, fun a ha => by rw [fp_up_ne (by omega), hN]; exact fp_splo (by omega)⟩
      unfold vsIs
      rw [fp_up_at, fp_up_ne (by omega), fp_up_ne (by omega), fp_up_ne (by omega), fp_up_ne (by omega), fp_upf_at, hsz, e1, e2, e3, e4, List.length_drop]
      refine ⟨by omega, by omega, fun j j0 j1 => ?_⟩
      rw [fp_dropD]
      unfold fp_shf
      rw [if_pos (by omega), if_pos (by omega), if_pos (by omega), if_pos (by omega)]
      have q := a3 (m9 + j) (by omega) (by omega)
      rw [show (m9 + j).toNat = j.toNat + m9.toNat by omega] at q
      rw [Nat.add_comm m9.toNat]
      exact q
    · refine S.aload_n (pc' := 11) dX10_dropFirst_10 rfl rfl rfl ?_
      refine S.getR (pc' := 14) dX10_dropFirst_11 rfl fX10_9 (vs_lay hk) (vs_r1 hk) ?_
      refine S.iload_n (pc' := 15) dX10_dropFirst_14 rfl rfl rfl ?_
      refine S.iload_n (pc' := 16) dX10_dropFirst_15 rfl rfl rfl ?_
      refine S.isub (pc' := 17) dX10_dropFirst_16 rfl ?_
      refine S.aload_n (pc' := 18) dX10_dropFirst_17 rfl rfl rfl ?_
      refine S.getR (pc' := 21) dX10_dropFirst_18 rfl fX10_9 (vs_lay hk) (vs_r1 hk) ?_
      refine S.iload_n (pc' := 22) dX10_dropFirst_21 rfl rfl rfl ?_
      refine S.iald (pc' := 23) dX10_dropFirst_22 rfl (vs_a1 hk) (by omega) (by omega) ?_
      refine S.iast (pc' := 24) dX10_dropFirst_23 rfl (vs_a1 hk) (by omega) (by omega) ?_
      refine S.aload_n (pc' := 25) dX10_dropFirst_24 rfl rfl rfl ?_
      refine S.getR (pc' := 28) dX10_dropFirst_25 rfl fX10_15 (vs_lay hk) (vs_r2 hk) ?_
      refine S.iload_n (pc' := 29) dX10_dropFirst_28 rfl rfl rfl ?_
      refine S.iload_n (pc' := 30) dX10_dropFirst_29 rfl rfl rfl ?_
      refine S.isub (pc' := 31) dX10_dropFirst_30 rfl ?_
      refine S.aload_n (pc' := 32) dX10_dropFirst_31 rfl rfl rfl ?_
      refine S.getR (pc' := 35) dX10_dropFirst_32 rfl fX10_15 (vs_lay hk) (vs_r2 hk) ?_
      refine S.iload_n (pc' := 36) dX10_dropFirst_35 rfl rfl rfl ?_
      refine S.iald (pc' := 37) dX10_dropFirst_36 rfl (vs_a2 hk) (by omega) (by omega) ?_
      refine S.iast (pc' := 38) dX10_dropFirst_37 rfl (vs_a2 hk) (by omega) (by omega) ?_
      refine S.aload_n (pc' := 39) dX10_dropFirst_38 rfl rfl rfl ?_
      refine S.getR (pc' := 42) dX10_dropFirst_39 rfl fX10_18 (vs_lay hk) (vs_r3 hk) ?_
      refine S.iload_n (pc' := 43) dX10_dropFirst_42 rfl rfl rfl ?_
      refine S.iload_n (pc' := 44) dX10_dropFirst_43 rfl rfl rfl ?_
      refine S.isub (pc' := 45) dX10_dropFirst_44 rfl ?_
      refine S.aload_n (pc' := 46) dX10_dropFirst_45 rfl rfl rfl ?_
      refine S.getR (pc' := 49) dX10_dropFirst_46 rfl fX10_18 (vs_lay hk) (vs_r3 hk) ?_
      refine S.iload_n (pc' := 50) dX10_dropFirst_49 rfl rfl rfl ?_
      refine S.iald (pc' := 51) dX10_dropFirst_50 rfl (vs_a3 hk) (by omega) (by omega) ?_
      refine S.iast (pc' := 52) dX10_dropFirst_51 rfl (vs_a3 hk) (by omega) (by omega) ?_
      refine S.aload_n (pc' := 53) dX10_dropFirst_52 rfl rfl rfl ?_
      refine S.getR (pc' := 56) dX10_dropFirst_53 rfl fX10_21 (vs_lay hk) (vs_r4 hk) ?_
      refine S.iload_n (pc' := 57) dX10_dropFirst_56 rfl rfl rfl ?_
      refine S.iload_n (pc' := 58) dX10_dropFirst_57 rfl rfl rfl ?_
      refine S.isub (pc' := 59) dX10_dropFirst_58 rfl ?_
      refine S.aload_n (pc' := 60) dX10_dropFirst_59 rfl rfl rfl ?_
      refine S.getR (pc' := 63) dX10_dropFirst_60 rfl fX10_21 (vs_lay hk) (vs_r4 hk) ?_
      refine S.iload_n (pc' := 64) dX10_dropFirst_63 rfl rfl rfl ?_
      refine S.iald (pc' := 65) dX10_dropFirst_64 rfl (vs_a4 hk) (by omega) (by omega) ?_
      refine S.iast (pc' := 66) dX10_dropFirst_65 rfl (vs_a4 hk) (by omega) (by omega) ?_
      refine S.iinc (pc' := 69) (LL' := [_, _, _]) dX10_dropFirst_66 rfl (by decide) rfl rfl rfl ?_
      refine S.goto (pc' := 2) dX10_dropFirst_69 (by decide) ?_
      refine ih _ _ (by omega) (by omega) (by omega) ?_
      funext a
      unfold fp_spl
      by_cases a4 : a = k + 4
      · subst a4; rw [fp_up_at, if_neg (by omega), if_neg (by omega), if_neg (by omega), if_pos rfl, fp_up_ne (by omega), fp_up_ne (by omega), fp_up_ne (by omega), e4]; exact hst _
      · rw [fp_up_ne a4]
        by_cases a3 : a = k + 3
        · subst a3; rw [fp_up_at, if_neg (by omega), if_neg (by omega), if_pos rfl, fp_up_ne (by omega), fp_up_ne (by omega), e3]; exact hst _
        · rw [fp_up_ne a3]
          by_cases a2 : a = k + 2
          · subst a2; rw [fp_up_at, if_neg (by omega), if_pos rfl, fp_up_ne (by omega), e2]; exact hst _
          · rw [fp_up_ne a2]
            by_cases a1 : a = k + 1
            · subst a1; rw [fp_up_at, if_pos rfl, e1]; exact hst _
            · rw [fp_up_ne a1, if_neg a1, if_neg a2, if_neg a3, if_neg a4, hN]
              exact fp_splo (by omega)
theorem rk_X10_dropFirst {m9 : Int} (hk : fp_isvs k) (hv : vsIs M k vs := by assumption) (hm : 0 ≤ m9 ∧ m9 ≤ vs.length := by first | assumption | omega) : fp_Ok l G 0 kX10_dropFirst [rV G k, iV m9] M (qV fun O => vsIs O k (vs.drop m9.toNat) ∧ ∀ a, (a < k ∨ k + 4 < a) → O a = M a) := by
  refine fp_Ok.of (r := 1) rfl (Nat.le_of_ble_eq_true rfl) rfl ?_
  have h0 : M = fp_spl M k (fp_shf (M (k + 1)) (m9 - m9) m9.toNat) (fp_shf (M (k + 2)) (m9 - m9) m9.toNat) (fp_shf (M (k + 3)) (m9 - m9) m9.toNat) (fp_shf (M (k + 4)) (m9 - m9) m9.toNat) := by
    have hs : ∀ f : Nat → Int, fp_shf f (m9 - m9) m9.toNat = f := fun f => funext fun j => by unfold fp_shf; rw [if_neg (by omega)]
    rw [hs, hs, hs, hs]
    funext a
    unfold fp_spl
    (repeat' split) <;> first | rfl | (rename_i h; rw [h])
  refine S.iload_n (pc' := 1) dX10_dropFirst_0 rfl rfl rfl ?_
  refine S.istore_n (pc' := 2) (LL' := [_, _, _]) dX10_dropFirst_1 rfl (by decide) rfl rfl rfl ?_
  exact drop_loop hk hv hm (vs.length + 1) m9 M (by omega) (by omega) (by omega) h0
theorem go_loop {m9 : Int} (hm : 0 ≤ m9 ∧ m9 ≤ vs.length) (ho : OK g pg vs nt im sh) (hcs : CS M tp fl g pg vs nt im sh tn) : ∀ (n : Nat) (i : Int) (N : fp_Mem), (m9 - i).toNat < n → 0 ≤ i → i ≤ m9 → frP M N 22 → clIs N 22 g (aRun g pg vs i.toNat) →
    fp_S l G 3 kX11_go 21 [some (rV G 0), some (iV m9), some (iV (aVc g pg vs i.toNat)), some (iV i)] [] N (qI fun z O => z = aVc g pg vs m9.toNat ∧ CS O tp fl g (aRun g pg vs m9.toNat) (vs.drop m9.toNat) nt im sh tn ∧ frC M O) := by
  obtain ⟨-, hd, hcl, hv, -⟩ := id hcs
  obtain ⟨hg, hP, hvo, -⟩ := ho
  have hl := hv.2.1
  intro n
  induction n with
  | zero => intro i N h; omega
  | succ n ih =>
    intro i N h i0 i1 hf hc
    have es := aVc_succ (g := g) (pg := pg) (vs := vs) i0
    have er := aRun_succ (g := g) (pg := pg) (vs := vs) i0
    have hPi := aRun_ok hg hP hvo i.toNat
    have hv' := hf.vs pl22 vs27 hv
    have hd' := hf.gd pl22 gd18 hd
    refine S.iload_n (pc' := 22) dX11_go_21 rfl rfl rfl ?_
    refine S.iload_n (pc' := 23) dX11_go_22 rfl rfl rfl ?_
    refine S.icmp_ge (pc' := 26) (tgt := 54) dX11_go_23 (by decide) rfl (by unfold fp_rng; omega) (by unfold fp_rng; omega) (fun h23 => ?_) (fun h23 => ?_)
    · refine S.aload_n (pc' := 55) dX11_go_54 rfl rfl rfl ?_
      refine S.getR (pc' := 58) dX11_go_55 rfl fX11_37 L_0 rf_0_5 ?_
      refine S.iload_n (pc' := 59) dX11_go_58 rfl rfl rfl ?_
      refine S.callVv (pc' := 62) dX11_go_59 rfl cX11_210 (rk_X10_dropFirst (vs := vs) vs27) rfl (vs_lay vs27) (by decide) rfl (Nat.le_of_ble_eq_true rfl) (fun M59 q59 => ?_)
      obtain ⟨c2, f2⟩ := q59
      refine S.iload_n (pc' := 63) dX11_go_62 rfl rfl rfl ?_
      refine S.iret dX11_go_63 rfl ?_
      have ei : i = m9 := by omega
      rw [ei] at hc
      exact ⟨by rw [ei], (hcs.page hf hc).vis (fun a ha => f2 a (by omega)) c2, fun c hc2 => (f2 c (by omega)).trans (hf c (by omega))⟩
    · refine S.aload_n (pc' := 27) dX11_go_26 rfl rfl rfl ?_
      refine S.getR (pc' := 30) dX11_go_27 rfl fX11_37 L_0 rf_0_5 ?_
      refine S.aload_n (pc' := 31) dX11_go_30 rfl rfl rfl ?_
      refine S.getR (pc' := 34) dX11_go_31 rfl fX11_23 L_0 rf_0_3 ?_
      refine S.aload_n (pc' := 35) dX11_go_34 rfl rfl rfl ?_
      refine S.getR (pc' := 38) dX11_go_35 rfl fX11_30 L_0 rf_0_4 ?_
      refine S.iload_n (pc' := 39) dX11_go_38 rfl rfl rfl ?_
      refine S.callVi (pc' := 42) dX11_go_39 rfl cX11_206 (rk_X10_happens (g := g) (pg := aRun g pg vs i.toNat) (vs := vs) vs27 gd18 pl22) rfl (vs_lay vs27) (by decide) rfl (Nat.le_of_ble_eq_true rfl) (fun z39 M39 q39 => ?_)
      have h01 := aHapI_01 g (aRun g pg vs i.toNat) vs i
      obtain ⟨rfl, c1, f1⟩ := q39
      rw [← er] at c1
      refine S.if_ne (pc' := 45) (tgt := 48) dX11_go_42 (by decide) rfl (by unfold fp_rng; omega) (fun h42 => ?_) (fun h42 => ?_)
      · refine S.iinc (pc' := 51) (LL' := [_, _, _, _]) dX11_go_48 rfl (by decide) rfl rfl rfl ?_
        refine S.goto (pc' := 21) dX11_go_51 (by decide) ?_
        first | (rw [if_neg h42] at es; rw [← es]; exact ih _ _ (by omega) (by omega) (by omega) (hf.trans f1) c1) | (rw [if_pos h42] at es; rw [← es]; exact ih _ _ (by omega) (by omega) (by omega) (hf.trans f1) c1)
      · refine S.iinc (pc' := 48) (LL' := [_, _, _, _]) dX11_go_45 rfl (by decide) rfl rfl rfl ?_
        refine S.iinc (pc' := 51) (LL' := [_, _, _, _]) dX11_go_48 rfl (by decide) rfl rfl rfl ?_
        refine S.goto (pc' := 21) dX11_go_51 (by decide) ?_
        first | (rw [if_neg h42] at es; rw [← es]; exact ih _ _ (by omega) (by omega) (by omega) (hf.trans f1) c1) | (rw [if_pos h42] at es; rw [← es]; exact ih _ _ (by omega) (by omega) (by omega) (hf.trans f1) c1)
theorem cc_go {m9 : Int} (hc : CS M tp fl g pg vs nt im sh tn) (ho : OK g pg vs nt im sh) (hn : fp_rng m9) : fp_Ok l G 3 kX11_go [rV G 0, iV m9] M (qI fun z N => z = (A_go g pg vs m9).1 ∧ CS N tp fl g (A_go g pg vs m9).2.1 (A_go g pg vs m9).2.2 nt im sh tn ∧ frC M N) := by
  obtain ⟨-, hd, hcl, hv, -⟩ := id hc
  have hl1 := hv.1
  have hl := hv.2.1
  refine fp_Ok.of (r := 2) rfl (Nat.le_of_ble_eq_true rfl) rfl ?_
  unfold A_go
  by_cases hin : 0 ≤ m9 ∧ m9 ≤ vs.length
  · rw [if_pos hin]
    refine S.iload_n (pc' := 1) dX11_go_0 rfl rfl rfl ?_
    refine S.if_lt (pc' := 4) (tgt := 15) dX11_go_1 (by decide) rfl hn (fun h1 => ?_) (fun h1 => ?_)
    · exfalso; omega
    · refine S.iload_n (pc' := 5) dX11_go_4 rfl rfl rfl ?_
      refine S.aload_n (pc' := 6) dX11_go_5 rfl rfl rfl ?_
      refine S.getR (pc' := 9) dX11_go_6 rfl fX11_37 L_0 rf_0_5 ?_
      refine S.getI (pc' := 12) dX11_go_9 rfl fX11_205 (vs_lay vs27) ?_
      refine S.icmp_le (pc' := 15) (tgt := 17) dX11_go_12 (by decide) rfl hn (by unfold fp_rng; omega) (fun h12 => ?_) (fun h12 => ?_)
      · refine S.iconst (pc' := 18) dX11_go_17 rfl ?_
        refine S.istore_n (pc' := 19) (LL' := [_, _, _, _]) dX11_go_18 rfl (by decide) rfl rfl rfl ?_
        refine S.iconst (pc' := 20) dX11_go_19 rfl ?_
        refine S.istore_n (pc' := 21) (LL' := [_, _, _, _]) dX11_go_20 rfl (by decide) rfl rfl rfl ?_
        exact go_loop hin ho hc (m9.toNat + 1) 0 _ (by omega) (by omega) (by omega) (frP.refl _ _) hcl
      · exfalso; omega
  · rw [if_neg hin]
    refine S.iload_n (pc' := 1) dX11_go_0 rfl rfl rfl ?_
    refine S.if_lt (pc' := 4) (tgt := 15) dX11_go_1 (by decide) rfl hn (fun h1 => ?_) (fun h1 => ?_)
    · refine S.iconst (pc' := 16) dX11_go_15 rfl ?_
      refine S.iret dX11_go_16 rfl ?_
      exact ⟨rfl, hc, frC.refl _⟩
    · refine S.iload_n (pc' := 5) dX11_go_4 rfl rfl rfl ?_
      refine S.aload_n (pc' := 6) dX11_go_5 rfl rfl rfl ?_
      refine S.getR (pc' := 9) dX11_go_6 rfl fX11_37 L_0 rf_0_5 ?_
      refine S.getI (pc' := 12) dX11_go_9 rfl fX11_205 (vs_lay vs27) ?_
      refine S.icmp_le (pc' := 15) (tgt := 17) dX11_go_12 (by decide) rfl hn (by unfold fp_rng; omega) (fun h12 => ?_) (fun h12 => ?_)
      · exfalso; omega
      · refine S.iconst (pc' := 16) dX11_go_15 rfl ?_
        refine S.iret dX11_go_16 rfl ?_
        exact ⟨rfl, hc, frC.refl _⟩
theorem mshift_loop {m9 z0 : Int} {pg' : aPg} (hm : 0 ≤ m9 ∧ m9 ≤ vs.length) (ho : OK g pg' vs nt im sh) (hcs : MS M tp fl g pg' vs nt im sh tn) : ∀ (n : Nat) (k9 : Int) (N : fp_Mem), (4 * (vs.length : Int) - k9).toNat < n → 4 * m9 ≤ k9 → k9 ≤ 4 * vs.length → N = fp_upM M 178 (fun j : Nat => if 47 ≤ j ∧ (j : Int) < 47 + k9 - 4 * m9 then M 178 (j + 4 * m9.toNat) else M 178 j) →
    fp_S l G 5 kX12_go 52 [some (rV G 177), some (iV m9), some (iV z0), some (iV k9)] [] N (qI fun z O => z = z0 ∧ MS O tp fl g pg' (vs.drop m9.toNat) nt im sh tn ∧ frD M O) := by
  obtain ⟨-, hd, hcl, ⟨a1, a2, a3⟩, -⟩ := id hcs
  intro n
  induction n with
  | zero => intro k9 N h; omega
  | succ n ih =>
    intro k9 N h k0 k1 hN
    have e95 : N 178 95 = vs.length := by rw [hN, fp_upM_at, if_neg (by omega)]; exact a1
    have e95' : N 178 (95 : Int).toNat = vs.length := e95
    refine S.iload_n (pc' := 53) dX12_go_52 rfl rfl rfl ?_
    refine S.iconst (pc' := 54) dX12_go_53 rfl ?_
    refine S.aload_n (pc' := 55) dX12_go_54 rfl rfl rfl ?_
    refine S.callVe (pc' := 58) dX12_go_55 rfl cX12_225 (ok_X12_visits) rfl L_177 (by decide) rfl (Nat.le_of_ble_eq_true rfl) ?_
    refine S.imul (pc' := 59) dX12_go_58 rfl ?_
    refine S.icmp_ge (pc' := 62) (tgt := 90) dX12_go_59 (by decide) rfl (by unfold fp_rng; omega) (by unfold fp_rng; omega) (fun h59 => ?_) (fun h59 => ?_)
    · refine S.aload_n (pc' := 91) dX12_go_90 rfl rfl rfl ?_
      refine S.getR (pc' := 94) dX12_go_91 rfl fX12_7 L_177 rf_177_0 ?_
      refine S.bipush (pc' := 96) dX12_go_94 rfl (by decide) ?_
      refine S.dup2 (pc' := 97) dX12_go_96 rfl rfl rfl ?_
      refine S.iald (pc' := 98) dX12_go_97 rfl L_178 (by omega) (by omega) ?_
      refine S.iload_n (pc' := 99) dX12_go_98 rfl rfl rfl ?_
      refine S.isub (pc' := 100) dX12_go_99 rfl ?_
      refine S.iast (pc' := 101) dX12_go_100 rfl L_178 (by omega) (by omega) ?_
      refine S.iload_n (pc' := 102) dX12_go_101 rfl rfl rfl ?_
      refine S.iret dX12_go_102 rfl ?_
      have hk : k9 = 4 * vs.length := by omega
      refine ⟨rfl, hcs.vis ho (fun c hc => by rw [fp_up_ne hc, hN, fp_upM_ne hc]) (fun j hj => by rw [fp_up_at, fp_upf_ne (by show j ≠ 95; omega), hN, fp_upM_at, if_neg (by omega)]) ?_, fun c hc => by rw [fp_up_ne (by omega), hN, fp_upM_ne (by omega)]⟩
      unfold mvRow
      rw [fp_up_at, e95']
      rw [show (95 : Int).toNat = 95 from rfl, fp_upf_at, List.length_drop]
      refine ⟨by omega, by omega, fun i i0 i1 => ?_⟩
      rw [fp_dropD, fp_upf_ne (by omega), fp_upf_ne (by omega), fp_upf_ne (by omega), fp_upf_ne (by omega), hN, fp_upM_at]
      have q := a3 (m9 + i) (by omega) (by omega)
      rw [show (m9 + i).toNat = m9.toNat + i.toNat by omega] at q
      obtain ⟨q1, q2, q3, q4⟩ := q
      rw [if_pos (by omega), if_pos (by omega), if_pos (by omega), if_pos (by omega), ← q1, ← q2, ← q3, ← q4]
      exact ⟨by refine congrArg (M 178) ?_; omega, by refine congrArg (M 178) ?_; omega, by refine congrArg (M 178) ?_; omega, by refine congrArg (M 178) ?_; omega⟩
    · refine S.aload_n (pc' := 63) dX12_go_62 rfl rfl rfl ?_
      refine S.getR (pc' := 66) dX12_go_63 rfl fX12_7 L_177 rf_177_0 ?_
      refine S.bipush (pc' := 68) dX12_go_66 rfl (by decide) ?_
      refine S.iload_n (pc' := 69) dX12_go_68 rfl rfl rfl ?_
      refine S.iadd (pc' := 70) dX12_go_69 rfl ?_
      refine S.iconst (pc' := 71) dX12_go_70 rfl ?_
      refine S.iload_n (pc' := 72) dX12_go_71 rfl rfl rfl ?_
      refine S.imul (pc' := 73) dX12_go_72 rfl ?_
      refine S.isub (pc' := 74) dX12_go_73 rfl ?_
      refine S.aload_n (pc' := 75) dX12_go_74 rfl rfl rfl ?_
      refine S.getR (pc' := 78) dX12_go_75 rfl fX12_7 L_177 rf_177_0 ?_
      refine S.bipush (pc' := 80) dX12_go_78 rfl (by decide) ?_
      refine S.iload_n (pc' := 81) dX12_go_80 rfl rfl rfl ?_
      refine S.iadd (pc' := 82) dX12_go_81 rfl ?_
      refine S.iald (pc' := 83) dX12_go_82 rfl L_178 (by omega) (by omega) ?_
      refine S.iast (pc' := 84) dX12_go_83 rfl L_178 (by omega) (by omega) ?_
      refine S.iinc (pc' := 87) (LL' := [_, _, _, _]) dX12_go_84 rfl (by decide) rfl rfl rfl ?_
      refine S.goto (pc' := 52) dX12_go_87 (by decide) ?_
      refine ih _ _ (by omega) (by omega) (by omega) ?_
      rw [hN]
      simp only [fp_up_same, fp_upM_at, fp_upM_upM]
      refine congrArg (fp_upM _ 178) (funext fun j => ?_)
      dsimp only [fp_upf]
      (repeat' split) <;> first | (exfalso; omega) | (refine congrArg (M 178) ?_; omega)
theorem mgo_loop {m9 : Int} (hm : 0 ≤ m9 ∧ m9 ≤ vs.length) (ho : OK g pg vs nt im sh) (hcs : MS M tp fl g pg vs nt im sh tn) : ∀ (n : Nat) (i : Int) (N : fp_Mem), (m9 - i).toNat < n → 0 ≤ i → i ≤ m9 → frM M N 0 → mpIs N 0 g (aRun g pg vs i.toNat) →
    fp_S l G 5 kX12_go 20 [some (rV G 177), some (iV m9), some (iV (aVc g pg vs i.toNat)), some (iV i)] [] N (qI fun z O => z = aVc g pg vs m9.toNat ∧ MS O tp fl g (aRun g pg vs m9.toNat) (vs.drop m9.toNat) nt im sh tn ∧ frD M O) := by
  obtain ⟨-, hd, hcl, hv, -⟩ := id hcs
  have hg := ho.1
  have hP := ho.2.1
  have hvo := ho.2.2.1
  have hv0 : mvIs M vs := hv
  have hl := hv.2.1
  intro n
  induction n with
  | zero => intro i N h; omega
  | succ n ih =>
    intro i N h i0 i1 hf hc
    have es := aVc_succ (g := g) (pg := pg) (vs := vs) i0
    have er := aRun_succ (g := g) (pg := pg) (vs := vs) i0
    have hPi := aRun_ok hg hP hvo i.toNat
    have hv' : mvIs N vs := hv0.kept (fun j j0 j1 => hf.2 j (by omega))
    have hd' := hd.kept hf.1
    refine S.iload_n (pc' := 21) dX12_go_20 rfl rfl rfl ?_
    refine S.iload_n (pc' := 22) dX12_go_21 rfl rfl rfl ?_
    refine S.icmp_ge (pc' := 25) (tgt := 48) dX12_go_22 (by decide) rfl (by unfold fp_rng; omega) (by unfold fp_rng; omega) (fun h22 => ?_) (fun h22 => ?_)
    · refine S.iconst (pc' := 49) dX12_go_48 rfl ?_
      refine S.iload_n (pc' := 50) dX12_go_49 rfl rfl rfl ?_
      refine S.imul (pc' := 51) dX12_go_50 rfl ?_
      refine S.istore_n (pc' := 52) (LL' := [_, _, _, _]) dX12_go_51 rfl (by decide) rfl rfl rfl ?_
      have ei : i = m9 := by omega
      rw [ei] at hc hPi ⊢
      have hms := hcs.page ho.2.2.2.2.1 hg hf hc
      refine fp_S.weaken (mshift_loop (pg' := aRun g pg vs m9.toNat) hm ⟨hg, hPi, ho.2.2⟩ hms (4 * vs.length + 1) (4 * m9) N (by omega) (by omega) (by omega) ?_) ?_
      · rw [show (fun j : Nat => if 47 ≤ j ∧ (j : Int) < 47 + 4 * m9 - 4 * m9 then N 178 (j + 4 * m9.toNat) else N 178 j) = N 178 from funext fun j => by rw [if_neg (by omega)], fp_upM_self]
      · rintro r O ⟨z, hz, e1, e2, e3⟩
        exact ⟨z, hz, e1, e2, hf.d.trans e3⟩
    · refine S.iload_n (pc' := 26) dX12_go_25 rfl rfl rfl ?_
      refine S.aload_n (pc' := 27) dX12_go_26 rfl rfl rfl ?_
      refine S.iconst (pc' := 28) dX12_go_27 rfl ?_
      refine S.iload_n (pc' := 29) dX12_go_28 rfl rfl rfl ?_
      refine S.callVi (pc' := 32) dX12_go_29 rfl cX12_261 (rk_X12_happens (g := g) (pg := aRun g pg vs i.toNat) (vs := vs)) rfl L_177 (by decide) rfl (Nat.le_of_ble_eq_true rfl) (fun z29 M29 q29 => ?_)
      have h01 := aHapI_01 g (aRun g pg vs i.toNat) vs i
      obtain ⟨rfl, c1, f1⟩ := q29
      rw [← er] at c1
      refine S.if_eq (pc' := 35) (tgt := 39) dX12_go_32 (by decide) rfl (by unfold fp_rng; omega) (fun h32 => ?_) (fun h32 => ?_)
      · refine S.iconst (pc' := 40) dX12_go_39 rfl ?_
        refine S.iadd (pc' := 41) dX12_go_40 rfl ?_
        refine S.istore_n (pc' := 42) (LL' := [_, _, _, _]) dX12_go_41 rfl (by decide) rfl rfl rfl ?_
        refine S.iinc (pc' := 45) (LL' := [_, _, _, _]) dX12_go_42 rfl (by decide) rfl rfl rfl ?_
        refine S.goto (pc' := 20) dX12_go_45 (by decide) ?_
        first | (rw [if_neg h32] at es; rw [Int.add_zero, ← es]; exact ih _ _ (by omega) (by omega) (by omega) (hf.trans f1) c1) | (rw [if_pos h32] at es; rw [← es]; exact ih _ _ (by omega) (by omega) (by omega) (hf.trans f1) c1)
      · refine S.iconst (pc' := 36) dX12_go_35 rfl ?_
        refine S.goto (pc' := 40) dX12_go_36 (by decide) ?_
        refine S.iadd (pc' := 41) dX12_go_40 rfl ?_
        refine S.istore_n (pc' := 42) (LL' := [_, _, _, _]) dX12_go_41 rfl (by decide) rfl rfl rfl ?_
        refine S.iinc (pc' := 45) (LL' := [_, _, _, _]) dX12_go_42 rfl (by decide) rfl rfl rfl ?_
        refine S.goto (pc' := 20) dX12_go_45 (by decide) ?_
        first | (rw [if_neg h32] at es; rw [Int.add_zero, ← es]; exact ih _ _ (by omega) (by omega) (by omega) (hf.trans f1) c1) | (rw [if_pos h32] at es; rw [← es]; exact ih _ _ (by omega) (by omega) (by omega) (hf.trans f1) c1)
theorem mm_go {m9 : Int} (hc : MS M tp fl g pg vs nt im sh tn) (ho : OK g pg vs nt im sh) (hn : fp_rng m9) : fp_Ok l G 5 kX12_go [rV G 177, iV m9] M (qI fun z N => z = (A_go g pg vs m9).1 ∧ MS N tp fl g (A_go g pg vs m9).2.1 (A_go g pg vs m9).2.2 nt im sh tn ∧ frD M N) := by
  obtain ⟨-, hd, hcl, hv, -⟩ := id hc
  have hl1 := hv.1
  have hl := hv.2.1
  have hn' := hn
  unfold fp_rng at hn'
  refine fp_Ok.of (r := 2) rfl (Nat.le_of_ble_eq_true rfl) rfl ?_
  unfold A_go
  by_cases hin : 0 ≤ m9 ∧ m9 ≤ vs.length
  · rw [if_pos hin]
    refine S.iload_n (pc' := 1) dX12_go_0 rfl rfl rfl ?_
    refine S.i2l (pc' := 2) dX12_go_1 rfl hn ?_
    refine S.lconst (pc' := 3) (w := 0) dX12_go_2 rfl rfl ?_
    refine S.aload_n (pc' := 4) dX12_go_3 rfl rfl rfl ?_
    refine S.callVe (pc' := 7) dX12_go_4 rfl cX12_225 (ok_X12_visits) rfl L_177 (by decide) rfl (Nat.le_of_ble_eq_true rfl) ?_
    refine S.i2l (pc' := 8) dX12_go_7 rfl (by unfold fp_rng; omega) ?_
    refine S.callSi (pc' := 11) dX12_go_8 rfl cX12_94 (bk_X12_in) rfl (by decide) rfl (Nat.le_of_ble_eq_true rfl) (fun z8 M8 q8 => ?_)
    obtain ⟨b8, rfl⟩ := q8
    refine S.if_ne (pc' := 14) (tgt := 16) dX12_go_11 (by decide) rfl (by unfold fp_rng; omega) (fun h11 => ?_) (fun h11 => ?_)
    · refine S.iconst (pc' := 17) dX12_go_16 rfl ?_
      refine S.istore_n (pc' := 18) (LL' := [_, _, _, _]) dX12_go_17 rfl (by decide) rfl rfl rfl ?_
      refine S.iconst (pc' := 19) dX12_go_18 rfl ?_
      refine S.istore_n (pc' := 20) (LL' := [_, _, _, _]) dX12_go_19 rfl (by decide) rfl rfl rfl ?_
      exact mgo_loop hin ho hc (m9.toNat + 1) 0 _ (by omega) (by omega) (by omega) (frM.refl _ _) hcl
    · exfalso; omega
  · rw [if_neg hin]
    refine S.iload_n (pc' := 1) dX12_go_0 rfl rfl rfl ?_
    refine S.i2l (pc' := 2) dX12_go_1 rfl hn ?_
    refine S.lconst (pc' := 3) (w := 0) dX12_go_2 rfl rfl ?_
    refine S.aload_n (pc' := 4) dX12_go_3 rfl rfl rfl ?_
    refine S.callVe (pc' := 7) dX12_go_4 rfl cX12_225 (ok_X12_visits) rfl L_177 (by decide) rfl (Nat.le_of_ble_eq_true rfl) ?_
    refine S.i2l (pc' := 8) dX12_go_7 rfl (by unfold fp_rng; omega) ?_
    refine S.callSi (pc' := 11) dX12_go_8 rfl cX12_94 (bk_X12_in) rfl (by decide) rfl (Nat.le_of_ble_eq_true rfl) (fun z8 M8 q8 => ?_)
    obtain ⟨b8, rfl⟩ := q8
    refine S.if_ne (pc' := 14) (tgt := 16) dX12_go_11 (by decide) rfl (by unfold fp_rng; omega) (fun h11 => ?_) (fun h11 => ?_)
    · exfalso; omega
    · refine S.iconst (pc' := 15) dX12_go_14 rfl ?_
      refine S.iret dX12_go_15 rfl ?_
      exact ⟨rfl, hc, frD.refl _⟩
end GOE
