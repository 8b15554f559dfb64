/-! orders: the reference, exactly: whether a row fits (p32 alone) -/
/-- one line of the trial's page holds a list -/
def uIs (f : Nat → Int) (x : Int) (L : List Int) : Prop := f (360 + 10 + 9 * x).toNat = L.length ∧ ∀ i : Int, 0 ≤ i → i < L.length → f (360 + 10 + 9 * x + 1 + i).toNat = L.getD i.toNat 0
theorem uIs.take {f : Nat → Int} {x s : Int} {L : List Int} (h : uIs f x L) (hx : 0 ≤ x ∧ x < 3) (hs : 0 ≤ s ∧ s < L.length) : uIs (md_take f (360 + 10 + 9 * x) s) x (L.eraseIdx s.toNat) := by
  have h0 := h.1
  have el : ((L.eraseIdx s.toNat).length : Int) = L.length - 1 := by rw [List.length_eraseIdx_of_lt (by omega)]; omega
  refine ⟨?_, fun i i0 i1 => ?_⟩
  · rw [el]; unfold md_take; rw [if_pos (by omega)]; omega
  · rw [el] at i1
    unfold md_take
    rw [if_neg (by omega), fp_eraD]
    by_cases e : i.toNat < s.toNat
    · rw [if_neg (by omega), if_pos e]; exact h.2 i i0 (by omega)
    · rw [if_pos (by omega), if_neg e, show (360 + 10 + 9 * x + 1 + i).toNat + 1 = (360 + 10 + 9 * x + 1 + (i + 1)).toNat by omega, h.2 (i + 1) (by omega) (by omega), show (i + 1).toNat = i.toNat + 1 by omega]
theorem uIs.tk {f : Nat → Int} {x : Int} {L : List Int} (h : uIs f x L) (hl : L.length ≤ 8) (hb : ∀ t, t ∈ L → 0 ≤ t ∧ t ≤ 9) : tOk f x := by
  have h1 := h.1
  refine ⟨by omega, fun i i0 i1 => ?_⟩
  rw [h1] at i1
  have h2 := h.2 i i0 i1
  have h3 := hb _ (fp_getD_mem (L := L) (i := i.toNat) (by omega))
  omega
theorem uSel_is {M : fp_Mem} {g : aGd} {x : Int} {L : List Int} (hd : mdIs M g) (hx : 0 ≤ x ∧ x < g.2.1) (h : uIs (M 178) x L) (hel : ∀ t, t ∈ L → 0 ≤ t ∧ t < g.1) (hne : L ≠ []) : md_sel M 360 x = aSel g L (g.2.2.2.2.2 x) := by
  have hlp : 0 < L.length := List.length_pos_iff.mpr hne
  unfold md_sel aSel
  rw [h.1, if_neg (by omega), hd.2.2.2.2.2.2.2.1 x hx.1 hx.2]
  refine fp_giv_congr (by omega) (fun i i0 i1 => ?_)
  unfold md_w
  rw [h.2 i i0 i1]
  have h9 := hel _ (fp_getD_mem (L := L) (i := i.toNat) (by omega))
  exact hd.2.2.2.1 _ h9.1 h9.2
section MXT
variable {l : Launch} {G : fp_WG} {M N : fp_Mem} {tp : List Int} {fl : Int} {g : aGd} {pg : aPg} {vs : List aVt} {nt : List Int} {im : aIm} {sh : aSh} {tn : Int}
theorem xfits_two {x m b : Int} {Lr : List Int} (hg : gOk g) (hx : 0 ≤ x ∧ x < g.2.1) (hd : mdIs M g) (hn : mnRow (M 178) nt) (hno : ∀ t ∈ nt, 0 ≤ t ∧ t ≤ 9) : ∀ (r : Nat) (i : Int) (N : fp_Mem) (o5 : Option Value) (L' : List Int), (8 - i).toNat < r → 0 ≤ i → i ≤ nt.length → frT M N → uIs (N 178) x L' → L'.Nodup → L'.length ≤ 8 → (∀ t, t ∈ L' → 0 ≤ t ∧ t < g.1) → oFit (g.2.2.2.2.2 x) (oW g (g.2.2.2.2.2 x)) Lr nt = oFit (g.2.2.2.2.2 x) (oW g (g.2.2.2.2.2 x)) L' (nt.drop i.toNat) →
    fp_S l G 2 kX12_fitsRow 52 [some (rV G 177), some (iV x), some (iV m), some (iV b), some (iV i), o5] [] N (qI fun z O => ((z = 1 ∧ oFit (g.2.2.2.2.2 x) (oW g (g.2.2.2.2.2 x)) Lr nt = true) ∨ (z = 0 ∧ ¬ oFit (g.2.2.2.2.2 x) (oW g (g.2.2.2.2.2 x)) Lr nt = true)) ∧ frT M O) := by
  have hl := hn.2.1
  have hg1 := hg.1
  have hg2 := hg.2.1
  have hx3 : 0 ≤ x ∧ x < 3 := by omega
  have hK := hg.2.2.2.2.2 x hx.1 hx.2
  intro r
  induction r with
  | zero => intro i N o5 L' hr; omega
  | succ r ih =>
    intro i N o5 L' hr i0 i1 hf hU hnd hl8 hel heq
    have hdN : mdIs N g := hd.kept (fun c hc => hf.1 c hc)
    have dN : md_ok N := hdN.2.2.2.2.2.2.2.2
    have hT := hU.tk hl8 (fun t ht => by have := hel t ht; omega)
    have hT1 := hT.1
    have hT2 := hT.2
    have hU1 := hU.1
    have e104 : N 178 (Int.toNat 104) = (nt.length : Int) := by
      show N 178 104 = _
      rw [hf.2 104 (by omega)]; exact hn.1
    have hsel := md_sel_in (M := N) (at_ := 360) (x := x) hT1
    by_cases hlt : i < nt.length
    · have hdr := o_drop (L := nt) (i := i.toNat) (by omega)
      have eN : md_take (N 178) (360 + 10 + 9 * x) (md_sel N 360 x) (96 + i).toNat = nt.getD i.toNat 0 ∨ md_sel N 360 x < 0 := by
        by_cases hs : md_sel N 360 x < 0
        · exact Or.inr hs
        · left
          unfold md_take
          rw [if_neg (by omega), if_neg (by omega), hf.2 _ (by omega)]
          exact hn.2.2 i i0 hlt
      have hnv := hno _ (fp_getD_mem (L := nt) (i := i.toNat) (by omega))
      have frtake : ∀ s, 0 ≤ s → frT M (fp_upM N 178 (md_take (N 178) (360 + 10 + 9 * x) s)) := fun s hs => ⟨fun c hc => by rw [fp_upM_ne hc]; exact hf.1 c hc, fun j hj => by rw [fp_upM_at]; unfold md_take; rw [if_neg (by omega), if_neg (by omega)]; exact hf.2 j hj⟩
      rw [hdr] at heq
      have hemp : md_sel N 360 x < 0 → ¬ oFit (g.2.2.2.2.2 x) (oW g (g.2.2.2.2.2 x)) Lr nt = true := fun hs q => by
        rw [heq, oFit_cons] at q
        have h9 := List.length_pos_iff.mpr q.1
        omega
      have hsome : 0 ≤ md_sel N 360 x → N 178 (360 + 10 + 9 * x + 1 + md_sel N 360 x).toNat = oD (g.2.2.2.2.2 x) (oW g (g.2.2.2.2.2 x)) L' ∧ L'.eraseIdx (md_sel N 360 x).toNat = L'.erase (oD (g.2.2.2.2.2 x) (oW g (g.2.2.2.2.2 x)) L') ∧ L' ≠ [] := fun hs => by
        have hne : L' ≠ [] := fun e => by
          rw [e, List.length_nil] at hU1
          omega
        have es := uSel_is hdN hx hU hel hne
        have hod := oD_sel (g := g) hK hne
        rw [← es] at hod
        refine ⟨?_, ?_, hne⟩
        · rw [hU.2 _ hs (by omega), hod]
        · rw [← hod]; exact o_era hnd (by omega)
      have hbad : oD (g.2.2.2.2.2 x) (oW g (g.2.2.2.2.2 x)) L' ≠ nt.getD i.toNat 0 → ¬ oFit (g.2.2.2.2.2 x) (oW g (g.2.2.2.2.2 x)) Lr nt = true := fun hs q => by
        rw [heq, oFit_cons] at q
        exact hs q.2.1
      refine S.iload (pc' := 54) dX12_fitsRow_52 rfl rfl ?_
      refine S.aload_n (pc' := 55) dX12_fitsRow_54 rfl rfl rfl ?_
      refine S.getR (pc' := 58) dX12_fitsRow_55 rfl fX12_7 L_177 rf_177_0 ?_
      refine S.bipush (pc' := 60) dX12_fitsRow_58 rfl (by decide) ?_
      refine S.iald (pc' := 61) dX12_fitsRow_60 rfl L_178 (by omega) (by omega) ?_
      rw [e104]
      refine S.icmp_ge (pc' := 64) (tgt := 112) dX12_fitsRow_61 (by decide) rfl (by unfold fp_rng; omega) (by unfold fp_rng; omega) (fun h61 => ?_) (fun h61 => ?_)
      · exfalso; omega
      · refine S.aload_n (pc' := 65) dX12_fitsRow_64 rfl rfl rfl ?_
        refine S.sipush (pc' := 68) dX12_fitsRow_65 rfl (by decide) ?_
        refine S.iload_n (pc' := 69) dX12_fitsRow_68 rfl rfl rfl ?_
        refine S.callVe (pc' := 72) dX12_fitsRow_69 rfl cX12_216 (ok_X12_givesAt (by omega) (by omega) hx3 dN hT1 hT2) rfl L_177 (by decide) rfl (Nat.le_of_ble_eq_true rfl) ?_
        refine S.istore (pc' := 74) (LL' := [_, _, _, _, _, _]) dX12_fitsRow_72 rfl (by decide) rfl rfl ?_
        refine S.iload (pc' := 76) dX12_fitsRow_74 rfl rfl ?_
        refine S.bipush (pc' := 78) dX12_fitsRow_76 rfl (by decide) ?_
        refine S.icmp_eq (pc' := 81) (tgt := 104) dX12_fitsRow_78 (by decide) rfl (by unfold fp_rng; omega) (by unfold fp_rng; omega) (fun h78 => ?_) (fun h78 => ?_)
        · refine S.iconst (pc' := 105) dX12_fitsRow_104 rfl ?_
          refine S.zret dX12_fitsRow_105 rfl (by first | exact Or.inl rfl | exact Or.inr rfl | omega) ?_
          first
          | exact ⟨Or.inr ⟨rfl, hemp (by omega)⟩, hf⟩
          | exact ⟨Or.inr ⟨rfl, hbad (by omega)⟩, frtake _ (by omega)⟩
        · refine S.aload_n (pc' := 82) dX12_fitsRow_81 rfl rfl rfl ?_
          refine S.sipush (pc' := 85) dX12_fitsRow_82 rfl (by decide) ?_
          refine S.iload_n (pc' := 86) dX12_fitsRow_85 rfl rfl rfl ?_
          refine S.iload (pc' := 88) dX12_fitsRow_86 rfl rfl ?_
          refine S.callVe (pc' := 91) dX12_fitsRow_88 rfl cX12_241 (ok_X12_takesOut (by omega) (by omega) hx3 (by omega) (by omega)) rfl L_177 (by decide) rfl (Nat.le_of_ble_eq_true rfl) ?_
          have hsv := hT2 (md_sel N 360 x) (by omega) (by omega)
          obtain ⟨w1, w2, w3⟩ := hsome (by omega)
          refine S.aload_n (pc' := 92) dX12_fitsRow_91 rfl rfl rfl ?_
          refine S.getR (pc' := 95) dX12_fitsRow_92 rfl fX12_7 L_177 rf_177_0 ?_
          refine S.bipush (pc' := 97) dX12_fitsRow_95 rfl (by decide) ?_
          refine S.iload (pc' := 99) dX12_fitsRow_97 rfl rfl ?_
          refine S.iadd (pc' := 100) dX12_fitsRow_99 rfl ?_
          refine S.iald (pc' := 101) dX12_fitsRow_100 rfl L_178 (by omega) (by omega) ?_
          rw [fp_upM_at, eN.resolve_right (by omega)]
          refine S.icmp_eq (pc' := 104) (tgt := 106) dX12_fitsRow_101 (by decide) rfl (by unfold fp_rng; omega) (by unfold fp_rng; omega) (fun h101 => ?_) (fun h101 => ?_)
          · refine S.iinc (pc' := 109) (LL' := [_, _, _, _, _, _]) dX12_fitsRow_106 rfl (by decide) rfl rfl rfl ?_
            refine S.goto (pc' := 52) dX12_fitsRow_109 (by decide) ?_
            refine ih _ _ _ _ (by omega) (by omega) (by omega) (frtake _ (by omega)) (by rw [fp_upM_at]; exact hU.take hx3 (by omega)) (hnd.sublist (List.eraseIdx_sublist _ _)) (Nat.le_trans (List.length_eraseIdx_le _ _) hl8) (fun t ht => hel t (List.mem_of_mem_eraseIdx ht)) ?_
            have hod : oD (g.2.2.2.2.2 x) (oW g (g.2.2.2.2.2 x)) L' = nt.getD i.toNat 0 := by omega
            rw [heq, Bool.eq_iff_iff, oFit_cons, w2, hod, show (i + 1).toNat = i.toNat + 1 by omega]
            exact ⟨fun q => q.2.2, fun q => ⟨w3, rfl, q⟩⟩
          · refine S.iconst (pc' := 105) dX12_fitsRow_104 rfl ?_
            refine S.zret dX12_fitsRow_105 rfl (by first | exact Or.inl rfl | exact Or.inr rfl | omega) ?_
            first
            | exact ⟨Or.inr ⟨rfl, hemp (by omega)⟩, hf⟩
            | exact ⟨Or.inr ⟨rfl, hbad (by omega)⟩, frtake _ (by omega)⟩
    · rw [List.drop_eq_nil_of_le (by omega), oFit] at heq
      refine S.iload (pc' := 54) dX12_fitsRow_52 rfl rfl ?_
      refine S.aload_n (pc' := 55) dX12_fitsRow_54 rfl rfl rfl ?_
      refine S.getR (pc' := 58) dX12_fitsRow_55 rfl fX12_7 L_177 rf_177_0 ?_
      refine S.bipush (pc' := 60) dX12_fitsRow_58 rfl (by decide) ?_
      refine S.iald (pc' := 61) dX12_fitsRow_60 rfl L_178 (by omega) (by omega) ?_
      rw [e104]
      refine S.icmp_ge (pc' := 64) (tgt := 112) dX12_fitsRow_61 (by decide) rfl (by unfold fp_rng; omega) (by unfold fp_rng; omega) (fun h61 => ?_) (fun h61 => ?_)
      · refine S.iconst (pc' := 113) dX12_fitsRow_112 rfl ?_
        refine S.zret dX12_fitsRow_113 rfl (by first | exact Or.inl rfl | exact Or.inr rfl | omega) ?_
        exact ⟨Or.inl ⟨rfl, heq⟩, hf⟩
      · exfalso; omega
theorem xk_X12_fitsRow {x m : Int} {Lr : List Int} (hg : gOk g) (hx : 0 ≤ x ∧ x < g.2.1) (hm : 0 ≤ m ∧ m ≤ 8) (hd : mdIs M g) (hr : sg (M 194) 0 m.toNat = Lr) (hb : ∀ t, t ∈ Lr → 0 ≤ t ∧ t < g.1) (hnd : Lr.Nodup) (hn : mnRow (M 178) nt) (hno : ∀ t ∈ nt, 0 ≤ t ∧ t ≤ 9) : fp_Ok l G 2 kX12_fitsRow [rV G 177, iV x, iV m] M (qI fun z O => ((z = 1 ∧ oFit (g.2.2.2.2.2 x) (oW g (g.2.2.2.2.2 x)) Lr nt = true) ∨ (z = 0 ∧ ¬ oFit (g.2.2.2.2.2 x) (oW g (g.2.2.2.2.2 x)) Lr nt = true)) ∧ frT M O) := by
  have hg1 := hg.1
  have hg2 := hg.2.1
  have hx3 : 0 ≤ x ∧ x < 3 := by omega
  have hrk : ∀ k : Nat, (k : Int) < m → 0 ≤ M 194 k ∧ M 194 k ≤ 9 := fun k hk => by
    have h9 := hb (M 194 k) (by rw [← hr]; exact sg_mem.mpr ⟨k, by omega, rfl⟩)
    omega
  have hlen : (Lr.length : Int) = m := by rw [← hr, sg_len]; omega
  have hget : ∀ k : Int, 0 ≤ k → k < m → M 194 k.toNat = Lr.getD k.toNat 0 := fun k k0 k1 => by
    rw [← hr, sg_getD (by omega), Nat.zero_add]
  have hL : ∀ (r : Nat) (i : Int) (N : fp_Mem), (8 - i).toNat < r → 0 ≤ i → i ≤ m → frT M N → N 178 (360 + 10 + 9 * x).toNat = m → (∀ k : Int, 0 ≤ k → k < i → N 178 (360 + 10 + 9 * x + 1 + k).toNat = M 194 k.toNat) → fp_S l G 2 kX12_fitsRow 19 [some (rV G 177), some (iV x), some (iV m), some (iV (370 + 9 * x)), some (iV i), none] [] N (qI fun z O => ((z = 1 ∧ oFit (g.2.2.2.2.2 x) (oW g (g.2.2.2.2.2 x)) Lr nt = true) ∨ (z = 0 ∧ ¬ oFit (g.2.2.2.2.2 x) (oW g (g.2.2.2.2.2 x)) Lr nt = true)) ∧ frT M O) := by
    intro r
    induction r with
    | zero => intro i N hr; omega
    | succ r ih =>
      intro i N hr' i0 i1 hf hb0 hR
      by_cases hlt : i < m
      · refine S.iload (pc' := 21) dX12_fitsRow_19 rfl rfl ?_
        refine S.iload_n (pc' := 22) dX12_fitsRow_21 rfl rfl rfl ?_
        refine S.icmp_ge (pc' := 25) (tgt := 49) dX12_fitsRow_22 (by decide) rfl (by unfold fp_rng; omega) (by unfold fp_rng; omega) (fun h22 => ?_) (fun h22 => ?_)
        · exfalso; omega
        · refine S.aload_n (pc' := 26) dX12_fitsRow_25 rfl rfl rfl ?_
          refine S.getR (pc' := 29) dX12_fitsRow_26 rfl fX12_7 L_177 rf_177_0 ?_
          refine S.iload_n (pc' := 30) dX12_fitsRow_29 rfl rfl rfl ?_
          refine S.iconst (pc' := 31) dX12_fitsRow_30 rfl ?_
          refine S.iadd (pc' := 32) dX12_fitsRow_31 rfl ?_
          refine S.iload (pc' := 34) dX12_fitsRow_32 rfl rfl ?_
          refine S.iadd (pc' := 35) dX12_fitsRow_34 rfl ?_
          refine S.aload_n (pc' := 36) dX12_fitsRow_35 rfl rfl rfl ?_
          refine S.getR (pc' := 39) dX12_fitsRow_36 rfl fX12_63 L_177 rf_177_35 ?_
          refine S.iload (pc' := 41) dX12_fitsRow_39 rfl rfl ?_
          refine S.iald (pc' := 42) dX12_fitsRow_41 rfl L_194 (by omega) (by omega) ?_
          refine S.iast (pc' := 43) dX12_fitsRow_42 rfl L_178 (by omega) (by omega) ?_
          refine S.iinc (pc' := 46) (LL' := [_, _, _, _, _, _]) dX12_fitsRow_43 rfl (by decide) rfl rfl rfl ?_
          refine S.goto (pc' := 19) dX12_fitsRow_46 (by decide) ?_
          refine ih _ _ (by omega) (by omega) (by omega) ⟨fun c hc => by rw [fp_up_ne hc]; exact hf.1 c hc, fun j hj => by rw [fp_up_at, fp_upf_ne (by omega)]; exact hf.2 j hj⟩ (by rw [fp_up_at, fp_upf_ne (by omega)]; exact hb0) (fun k k0 k1 => ?_)
          rw [fp_up_at]
          by_cases e : k = i
          · rw [e, show (360 + 10 + 9 * x + 1 + i).toNat = (370 + 9 * x + 1 + i).toNat by omega, fp_upf_at, hf.1 194 (by decide)]
          · rw [fp_upf_ne (by omega)]; exact hR k k0 (by omega)
      · refine S.iload (pc' := 21) dX12_fitsRow_19 rfl rfl ?_
        refine S.iload_n (pc' := 22) dX12_fitsRow_21 rfl rfl rfl ?_
        refine S.icmp_ge (pc' := 25) (tgt := 49) dX12_fitsRow_22 (by decide) rfl (by unfold fp_rng; omega) (by unfold fp_rng; omega) (fun h22 => ?_) (fun h22 => ?_)
        · refine S.iconst (pc' := 50) dX12_fitsRow_49 rfl ?_
          refine S.istore (pc' := 52) (LL' := [_, _, _, _, _, _]) dX12_fitsRow_50 rfl (by decide) rfl rfl ?_
          exact xfits_two hg hx hd hn hno 9 0 _ _ Lr (by omega) (by omega) (by omega) hf ⟨by omega, fun k k0 k1 => by rw [hR k k0 (by omega)]; exact hget k k0 (by omega)⟩ hnd (by omega) hb rfl
        · exfalso; omega
  refine fp_Ok.of (r := 3) rfl (Nat.le_of_ble_eq_true rfl) rfl ?_
  refine S.sipush (pc' := 3) dX12_fitsRow_0 rfl (by decide) ?_
  refine S.bipush (pc' := 5) dX12_fitsRow_3 rfl (by decide) ?_
  refine S.iload_n (pc' := 6) dX12_fitsRow_5 rfl rfl rfl ?_
  refine S.imul (pc' := 7) dX12_fitsRow_6 rfl ?_
  refine S.iadd (pc' := 8) dX12_fitsRow_7 rfl ?_
  refine S.istore_n (pc' := 9) (LL' := [_, _, _, _, _, _]) dX12_fitsRow_8 rfl (by decide) rfl rfl rfl ?_
  refine S.aload_n (pc' := 10) dX12_fitsRow_9 rfl rfl rfl ?_
  refine S.getR (pc' := 13) dX12_fitsRow_10 rfl fX12_7 L_177 rf_177_0 ?_
  refine S.iload_n (pc' := 14) dX12_fitsRow_13 rfl rfl rfl ?_
  refine S.iload_n (pc' := 15) dX12_fitsRow_14 rfl rfl rfl ?_
  refine S.iast (pc' := 16) dX12_fitsRow_15 rfl L_178 (by omega) (by omega) ?_
  refine S.iconst (pc' := 17) dX12_fitsRow_16 rfl ?_
  refine S.istore (pc' := 19) (LL' := [_, _, _, _, _, _]) dX12_fitsRow_17 rfl (by decide) rfl rfl ?_
  exact hL 9 0 _ (by omega) (by omega) (by omega) ⟨fun c hc => fp_up_ne hc, fun j hj => by rw [fp_up_at, fp_upf_ne (by omega)]⟩ (by rw [fp_up_at, show (360 + 10 + 9 * x).toNat = (370 + 9 * x).toNat by omega, fp_upf_at]) (fun k k0 k1 => by omega)
end MXT
