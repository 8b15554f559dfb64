/-! duel: the class, exactly (p29 alone) -/
/-- a row of the game's holds a list -/
def dLs (M : fp_Mem) (k : Nat) (L : List Int) : Prop := ∀ i : Nat, i < L.length → M k i = L.getD i 0
theorem dW_is {M : fp_Mem} {g : aGd} {t : Int} (hd : gdIs M 18 g) (ht : (0 ≤ t ∧ t < g.1) ∨ t = 10) : M (18 + 1) t.toNat = dW g t := by
  have h10 := hd.2.2.2.2.2.2.2.2.1
  rw [hd.1] at h10
  unfold dW
  split
  · rename_i e; rw [e]; exact hd.2.2.2.2.1
  · exact hd.2.2.2.1 t (by omega) (by omega)
theorem dV_is {M : fp_Mem} {g : aGd} {t p : Int} (hd : gdIs M 18 g) (ht : (0 ≤ t ∧ t < g.1) ∨ t = 10) (hp : 0 ≤ p ∧ p < 4) : M (18 + 2) (t * 4 + p).toNat = dV g t p := by
  unfold dV
  split
  · rename_i e; rw [e, show (10 : Int) * 4 + p = 40 + p by omega]; exact hd.2.2.2.2.2.2.1 p hp.1 hp.2
  · exact hd.2.2.2.2.2.1 t p (by omega) (by omega) hp.1 hp.2
theorem gdIs.same {M N : fp_Mem} {g : aGd} (h : gdIs M 18 g) (e0 : N 18 = M 18) (e1 : N (18 + 1) = M (18 + 1)) (e2 : N (18 + 2) = M (18 + 2)) (e3 : N (18 + 3) = M (18 + 3)) : gdIs N 18 g := by
  unfold gdIs gd_ok at *
  rw [e0, e1, e2, e3]; exact h
section CDX
variable {l : Launch} {G : fp_WG} {M N : fp_Mem} {tp : List Int} {fl : Int} {g : aGd} {pg : aPg} {vs : List aVt} {nt : List Int} {im : aIm} {sh : aSh} {tn : Int}
theorem xk_X0_takeGiven {kind turn : Int} {L : List Int} (hgI : gdIs M 18 g) (hk : 0 ≤ kind ∧ kind ≤ 2) (ht : 0 ≤ turn ∧ turn ≤ 6) (hrow : dRow M (125 + turn.toNat)) (hL8 : L.length ≤ 8) (hne : L ≠ []) (hel : ∀ t, t ∈ L → (0 ≤ t ∧ t < g.1) ∨ t = 10) (hlen : M 132 turn.toNat = L.length) (hls : dLs M (125 + turn.toNat) L) : fp_Ok l G 1 kX0_takeGiven [rV G 121, rV G 18, iV kind, iV turn] M (qI fun z N => z = L.getD (dSel g kind L).toNat 0 ∧ N 132 = fp_upf (M 132) turn.toNat (M 132 turn.toNat - 1) ∧ dRow N (125 + turn.toNat) ∧ dLs N (125 + turn.toNat) (L.eraseIdx (dSel g kind L).toNat) ∧ ∀ a, a ≠ 132 → a ≠ 125 + turn.toNat → N a = M a) := by
  have hgd := hgI.2.2.2.2.2.2.2.2
  have hlp : 0 < L.length := List.length_pos_iff.mpr hne
  have hlie : 1 ≤ M 132 turn.toNat ∧ M 132 turn.toNat ≤ 8 := by omega
  have hr : fp_lay (125 + turn.toNat) = (1, 8) := drw_a ht.1 (by omega)
  have hsel := dSel_in (g := g) (kind := kind) hne
  have esel : fp_giv kind (fun i => M (18 + 1) (M (125 + turn.toNat) (0 + i).toNat).toNat) (M 132 turn.toNat) = dSel g kind L := by
    unfold dSel
    rw [hlen]
    refine fp_giv_congr (by omega) (fun i i0 i1 => ?_)
    rw [Int.zero_add, hls i.toNat (by omega)]
    exact dW_is hgI (hel _ (fp_getD_mem (by omega)))
  have hL : ∀ (r : Nat) (i : Int) (N : fp_Mem), (8 - i).toNat < r → dSel g kind L ≤ i → i ≤ (L.length : Int) - 1 → N 132 = fp_upf (M 132) turn.toNat (M 132 turn.toNat - 1) → dRow N (125 + turn.toNat) → (∀ k : Nat, k < L.length → N (125 + turn.toNat) k = if dSel g kind L ≤ k ∧ (k : Int) < i then L.getD (k + 1) 0 else L.getD k 0) → (∀ a, a ≠ 132 → a ≠ 125 + turn.toNat → N a = M a) →
      fp_S l G 1 kX0_takeGiven 45 [some (rV G 121), some (rV G 18), some (iV kind), some (iV turn), some (rV G (125 + turn.toNat)), some (iV (dSel g kind L)), some (iV (L.getD (dSel g kind L).toNat 0)), some (iV i)] [] N (qI fun z N => z = L.getD (dSel g kind L).toNat 0 ∧ N 132 = fp_upf (M 132) turn.toNat (M 132 turn.toNat - 1) ∧ dRow N (125 + turn.toNat) ∧ dLs N (125 + turn.toNat) (L.eraseIdx (dSel g kind L).toNat) ∧ ∀ a, a ≠ 132 → a ≠ 125 + turn.toNat → N a = M a) := by
    intro r
    induction r with
    | zero => intro i N h; omega
    | succ r ih =>
      intro i N h i0 i1 h132 hR hS hf
      have e1 : N 132 turn.toNat = L.length - 1 := by rw [h132, fp_upf_at, hlen]
      refine S.iload (pc' := 47) dX0_takeGiven_45 rfl rfl ?_
      refine S.aload_n (pc' := 48) dX0_takeGiven_47 rfl rfl rfl ?_
      refine S.getR (pc' := 51) dX0_takeGiven_48 rfl fX0_23 L_121 rf_121_5 ?_
      refine S.iload_n (pc' := 52) dX0_takeGiven_51 rfl rfl rfl ?_
      refine S.iald (pc' := 53) dX0_takeGiven_52 rfl L_132 (by omega) (by omega) ?_
      rw [e1]
      refine S.icmp_ge (pc' := 56) (tgt := 74) dX0_takeGiven_53 (by decide) rfl (by unfold fp_rng; omega) (by unfold fp_rng; omega) (fun h53 => ?_) (fun h53 => ?_)
      · refine S.iload (pc' := 76) dX0_takeGiven_74 rfl rfl ?_
        refine S.iret dX0_takeGiven_76 rfl ?_
        refine ⟨rfl, h132, hR, fun k hk => ?_, hf⟩
        rw [List.length_eraseIdx_of_lt (by omega)] at hk
        rw [hS k (by omega), fp_eraD]
        by_cases q : k < (dSel g kind L).toNat
        · rw [if_neg (by omega), if_pos q]
        · rw [if_pos (by omega), if_neg q]
      · refine S.aload (pc' := 58) dX0_takeGiven_56 rfl rfl ?_
        refine S.iload (pc' := 60) dX0_takeGiven_58 rfl rfl ?_
        refine S.aload (pc' := 62) dX0_takeGiven_60 rfl rfl ?_
        refine S.iload (pc' := 64) dX0_takeGiven_62 rfl rfl ?_
        refine S.iconst (pc' := 65) dX0_takeGiven_64 rfl ?_
        refine S.iadd (pc' := 66) dX0_takeGiven_65 rfl ?_
        refine S.iald (pc' := 67) dX0_takeGiven_66 rfl hr (by omega) (by omega) ?_
        refine S.iast (pc' := 68) dX0_takeGiven_67 rfl hr (by omega) (by omega) ?_
        refine S.iinc (pc' := 71) (LL' := [_, _, _, _, _, _, _, _]) dX0_takeGiven_68 rfl (by decide) rfl rfl rfl ?_
        refine S.goto (pc' := 45) dX0_takeGiven_71 (by decide) ?_
        refine ih _ _ (by omega) (by omega) (by omega) (by rw [fp_up_ne (by omega)]; exact h132) (fun j j0 j1 => ?_) (fun k hk => ?_) (fun a a1 a2 => by rw [fp_up_ne a2]; exact hf a a1 a2)
        · rw [fp_up_at]
          unfold fp_upf
          split
          · exact hR (i + 1) (by omega) (by omega)
          · exact hR j j0 j1
        · rw [fp_up_at]
          unfold fp_upf
          split
          · rename_i ek
            rw [if_pos (by omega), hS (i + 1).toNat (by omega), if_neg (by omega), show (i + 1).toNat = k + 1 by omega]
          · rw [hS k hk]
            by_cases q : dSel g kind L ≤ k ∧ (k : Int) < i
            · rw [if_pos q, if_pos (by omega)]
            · rw [if_neg q, if_neg (by omega)]
  have hrow' : ∀ i : Int, 0 ≤ i → i < M 132 turn.toNat → 0 ≤ M (125 + turn.toNat) (0 + i).toNat ∧ M (125 + turn.toNat) (0 + i).toNat ≤ 10 := fun i i0 i1 => by rw [Int.zero_add]; exact hrow i i0 (by omega)
  have hw := hgd.2.2.2.1
  have cG := ok_X11_givenSpot (l := l) (G := G) (M := M) (kind := kind) (fr := 0) (lie := M 132 turn.toNat) gd18 hr (by unfold fp_rng; omega) (by omega) (by omega) (by omega) hlie.1 hrow' hw
  rw [esel] at cG
  have ez : M (125 + turn.toNat) (dSel g kind L).toNat = L.getD (dSel g kind L).toNat 0 := hls _ (by omega)
  refine fp_Ok.of (r := 4) rfl (Nat.le_of_ble_eq_true rfl) rfl ?_
  refine S.aload_n (pc' := 1) dX0_takeGiven_0 rfl rfl rfl ?_
  refine S.getR (pc' := 4) dX0_takeGiven_1 rfl fX0_20 L_121 rf_121_4 ?_
  refine S.iload_n (pc' := 5) dX0_takeGiven_4 rfl rfl rfl ?_
  refine S.aald (pc' := 6) dX0_takeGiven_5 rfl L_124 (by decide) (by decide) (by omega) (by omega) (drw_r (by omega) (by omega)) ?_
  refine S.astore (pc' := 8) (LL' := [_, _, _, _, _, _, _, _]) dX0_takeGiven_6 rfl (by decide) rfl rfl ?_
  refine S.aload_n (pc' := 9) dX0_takeGiven_8 rfl rfl rfl ?_
  refine S.iload_n (pc' := 10) dX0_takeGiven_9 rfl rfl rfl ?_
  refine S.aload (pc' := 12) dX0_takeGiven_10 rfl rfl ?_
  refine S.iconst (pc' := 13) dX0_takeGiven_12 rfl ?_
  refine S.aload_n (pc' := 14) dX0_takeGiven_13 rfl rfl rfl ?_
  refine S.getR (pc' := 17) dX0_takeGiven_14 rfl fX0_23 L_121 rf_121_5 ?_
  refine S.iload_n (pc' := 18) dX0_takeGiven_17 rfl rfl rfl ?_
  refine S.iald (pc' := 19) dX0_takeGiven_18 rfl L_132 (by omega) (by omega) ?_
  refine S.callSNe (pc' := 22) dX0_takeGiven_19 rfl cX0_72 cG rfl (by decide) rfl (Nat.le_of_ble_eq_true rfl) ?_
  refine S.istore (pc' := 24) (LL' := [_, _, _, _, _, _, _, _]) dX0_takeGiven_22 rfl (by decide) rfl rfl ?_
  refine S.aload (pc' := 26) dX0_takeGiven_24 rfl rfl ?_
  refine S.iload (pc' := 28) dX0_takeGiven_26 rfl rfl ?_
  refine S.iald (pc' := 29) dX0_takeGiven_28 rfl (drw_a (by omega) (by omega)) (by omega) (by omega) ?_
  rw [ez]
  refine S.istore (pc' := 31) (LL' := [_, _, _, _, _, _, _, _]) dX0_takeGiven_29 rfl (by decide) rfl rfl ?_
  refine S.aload_n (pc' := 32) dX0_takeGiven_31 rfl rfl rfl ?_
  refine S.getR (pc' := 35) dX0_takeGiven_32 rfl fX0_23 L_121 rf_121_5 ?_
  refine S.iload_n (pc' := 36) dX0_takeGiven_35 rfl rfl rfl ?_
  refine S.dup2 (pc' := 37) dX0_takeGiven_36 rfl rfl rfl ?_
  refine S.iald (pc' := 38) dX0_takeGiven_37 rfl L_132 (by omega) (by omega) ?_
  refine S.iconst (pc' := 39) dX0_takeGiven_38 rfl ?_
  refine S.isub (pc' := 40) dX0_takeGiven_39 rfl ?_
  refine S.iast (pc' := 41) dX0_takeGiven_40 rfl L_132 (by omega) (by omega) ?_
  refine S.iload (pc' := 43) dX0_takeGiven_41 rfl rfl ?_
  refine S.istore (pc' := 45) (LL' := [_, _, _, _, _, _, _, _]) dX0_takeGiven_43 rfl (by decide) rfl rfl ?_
  refine hL 9 _ _ (by omega) (by omega) (by omega) (by rw [fp_up_at]) (fun j j0 j1 => by rw [fp_up_ne (by omega)]; exact hrow j j0 j1) (fun k hk => ?_) (fun a a1 a2 => fp_up_ne a1)
  rw [fp_up_ne (by omega), if_neg (by omega)]
  exact hls k hk
theorem xk_X0_perform {kind deed turn p q : Int} {mv : Int} {s : dSt} (hg : gOk g) (hgI : gdIs M 18 g) (hk : 0 ≤ kind ∧ kind ≤ 2) (hd : 0 ≤ deed ∧ deed < 3) (ht : 0 ≤ turn ∧ turn < 6) (hm : 0 ≤ mv ∧ mv ≤ 1) (hp : 0 ≤ p ∧ p < 4) (hq : 0 ≤ q ∧ q < 4) (hpl : M 122 mv.toNat = if mv = 0 then p else q) (hs : dOkS g s) (hcan : dCan deed mv s) (hrow : dRow M (125 + turn.toNat)) (hlen : M 132 turn.toNat = s.1.length) (hls : dLs M (125 + turn.toNat) s.1) : fp_Ok l G 2 kX0_perform [rV G 121, rV G 18, iV kind, iV deed, iV turn, iV mv] M (qI fun z N => z = dGain g kind p q deed mv s ∧ dRow N (125 + (turn + 1).toNat) ∧ dLs N (125 + (turn + 1).toNat) (dNext g kind deed mv s).1 ∧ N 132 (turn + 1).toNat = (dNext g kind deed mv s).1.length ∧ (∀ j, j ≠ (turn + 1).toNat → N 132 j = M 132 j) ∧ N 123 = (if deed = 1 then fp_upf (M 123) mv.toNat (M 123 mv.toNat - 1) else M 123) ∧ ∀ a, a ≠ 123 → a ≠ 132 → a ≠ 125 + (turn + 1).toNat → N a = M a) := by
  have hgd := hgI.2.2.2.2.2.2.2.2
  have hs8 := hs.1
  refine fp_Ok.of (r := 1) rfl (Nat.le_of_ble_eq_true rfl) rfl ?_
  have h87 : ∀ (N : fp_Mem), (deed = 1 → dLs N (125 + (turn + 1).toNat) (s.1 ++ [10]) ∧ N 132 (turn + 1).toNat = s.1.length + 1) → (deed ≠ 1 → dLs N (125 + (turn + 1).toNat) s.1 ∧ N 132 (turn + 1).toNat = s.1.length) → dRow N (125 + (turn + 1).toNat) → (∀ j, j ≠ (turn + 1).toNat → N 132 j = M 132 j) → N 123 = (if deed = 1 then fp_upf (M 123) mv.toNat (M 123 mv.toNat - 1) else M 123) → (∀ a, a ≠ 123 → a ≠ 132 → a ≠ 125 + (turn + 1).toNat → N a = M a) →
      fp_S l G 2 kX0_perform 87 [some (rV G 121), some (rV G 18), some (iV kind), some (iV deed), some (iV turn), some (iV mv), none] [] N (qI fun z N => z = dGain g kind p q deed mv s ∧ dRow N (125 + (turn + 1).toNat) ∧ dLs N (125 + (turn + 1).toNat) (dNext g kind deed mv s).1 ∧ N 132 (turn + 1).toNat = (dNext g kind deed mv s).1.length ∧ (∀ j, j ≠ (turn + 1).toNat → N 132 j = M 132 j) ∧ N 123 = (if deed = 1 then fp_upf (M 123) mv.toNat (M 123 mv.toNat - 1) else M 123) ∧ ∀ a, a ≠ 123 → a ≠ 132 → a ≠ 125 + (turn + 1).toNat → N a = M a) := by
    intro N h1 h2 hR h132 h123 hf
    have e1 : N 132 turn.toNat = s.1.length := by rw [h132 _ (by omega)]; exact hlen
    have e2 : N 122 = M 122 := hf 122 (by decide) (by decide) (by omega)
    have gN : gdIs N 18 g := hgI.same (hf 18 (by decide) (by decide) (by omega)) (hf (18 + 1) (by decide) (by decide) (by omega)) (hf (18 + 2) (by decide) (by decide) (by omega)) (hf (18 + 3) (by decide) (by decide) (by omega))
    by_cases hdr : deed = 0 ∧ s.1 ≠ []
    · have hlp : 0 < s.1.length := List.length_pos_iff.mpr hdr.2
      have h20 := h2 (by omega)
      have hmem := hs.2.1 _ (dSel_mem (g := g) (kind := kind) hdr.2)
      have hsel := dSel_in (g := g) (kind := kind) hdr.2
      have hpv : 0 ≤ M 122 mv.toNat ∧ M 122 mv.toNat < 4 := by rw [hpl]; split <;> omega
      have hga : dGain g kind p q deed mv s = if mv = 0 then dV g (s.1.getD (dSel g kind s.1).toNat 0) p else -(dV g (s.1.getD (dSel g kind s.1).toNat 0) q) := by unfold dGain; rw [if_pos hdr]
      have hnx : dNext g kind deed mv s = (s.1.eraseIdx (dSel g kind s.1).toNat, s.2) := by unfold dNext; rw [if_neg (by omega), if_pos hdr]
      have hvv := dV_in hg hmem hpv
      refine S.iload_n (pc' := 88) dX0_perform_87 rfl rfl rfl ?_
      refine S.if_ne (pc' := 91) (tgt := 101) dX0_perform_88 (by decide) rfl (by unfold fp_rng; omega) (fun h88 => ?_) (fun h88 => ?_)
      · exfalso; omega
      · refine S.aload_n (pc' := 92) dX0_perform_91 rfl rfl rfl ?_
        refine S.getR (pc' := 95) dX0_perform_92 rfl fX0_23 L_121 rf_121_5 ?_
        refine S.iload (pc' := 97) dX0_perform_95 rfl rfl ?_
        refine S.iald (pc' := 98) dX0_perform_97 rfl L_132 (by omega) (by omega) ?_
        rw [e1]
        refine S.if_ne (pc' := 101) (tgt := 103) dX0_perform_98 (by decide) rfl (by unfold fp_rng; omega) (fun h98 => ?_) (fun h98 => ?_)
        · refine S.aload_n (pc' := 104) dX0_perform_103 rfl rfl rfl ?_
          refine S.aload_n (pc' := 105) dX0_perform_104 rfl rfl rfl ?_
          refine S.getR (pc' := 108) dX0_perform_105 rfl fX0_9 L_121 rf_121_2 ?_
          refine S.iload (pc' := 110) dX0_perform_108 rfl rfl ?_
          refine S.iald (pc' := 111) dX0_perform_110 rfl L_122 (by omega) (by omega) ?_
          rw [e2]
          refine S.aload_n (pc' := 112) dX0_perform_111 rfl rfl rfl ?_
          refine S.aload_n (pc' := 113) dX0_perform_112 rfl rfl rfl ?_
          refine S.iload_n (pc' := 114) dX0_perform_113 rfl rfl rfl ?_
          refine S.iload (pc' := 116) dX0_perform_114 rfl rfl ?_
          refine S.iconst (pc' := 117) dX0_perform_116 rfl ?_
          refine S.iadd (pc' := 118) dX0_perform_117 rfl ?_
          refine S.callVi (pc' := 121) dX0_perform_118 rfl cX0_65 (xk_X0_takeGiven gN hk (by omega) hR hs8 hdr.2 hs.2.1 h20.2 h20.1) rfl L_121 (by decide) rfl (Nat.le_of_ble_eq_true rfl) (fun z118 M118 q118 => ?_)
          obtain ⟨z1, t1, t2, t4, t3⟩ := q118
          have gN2 : gdIs M118 18 g := gN.same (t3 18 (by decide) (by omega)) (t3 (18 + 1) (by decide) (by omega)) (t3 (18 + 2) (by decide) (by omega)) (t3 (18 + 3) (by decide) (by omega))
          have hz9 : 0 ≤ z118 ∧ z118 ≤ 10 := by rw [z1]; have h10 := hg.1; omega
          refine S.callVe (pc' := 124) dX0_perform_121 rfl cX0_68 (ok_X1_valueTo gd18) rfl (gd_lay gd18) (by decide) rfl (Nat.le_of_ble_eq_true rfl) ?_
          have hvq : M118 (18 + 2) (z118 * 4 + M 122 mv.toNat).toNat = dV g (s.1.getD (dSel g kind s.1).toNat 0) (M 122 mv.toNat) := by rw [z1]; exact dV_is gN2 hmem hpv
          rw [hvq]
          have hret : dRow M118 (125 + (turn + 1).toNat) ∧ dLs M118 (125 + (turn + 1).toNat) (dNext g kind deed mv s).1 ∧ M118 132 (turn + 1).toNat = (dNext g kind deed mv s).1.length ∧ (∀ j, j ≠ (turn + 1).toNat → M118 132 j = M 132 j) ∧ M118 123 = (if deed = 1 then fp_upf (M 123) mv.toNat (M 123 mv.toNat - 1) else M 123) ∧ ∀ a, a ≠ 123 → a ≠ 132 → a ≠ 125 + (turn + 1).toNat → M118 a = M a := by
            refine ⟨t2, by rw [hnx]; exact t4, ?_, fun j hj => by rw [t1, fp_upf_ne hj]; exact h132 j hj, by rw [t3 123 (by decide) (by omega)]; exact h123, fun a a1 a2 a3 => by rw [t3 a a2 a3]; exact hf a a1 a2 a3⟩
            rw [t1, fp_upf_at, hnx, h20.2]
            show (s.1.length : Int) - 1 = ((s.1.eraseIdx (dSel g kind s.1).toNat).length : Int)
            rw [List.length_eraseIdx_of_lt (by omega)]
            omega
          have hgq : dGain g kind p q deed mv s = if mv = 0 then dV g (s.1.getD (dSel g kind s.1).toNat 0) (M 122 mv.toNat) else -(dV g (s.1.getD (dSel g kind s.1).toNat 0) (M 122 mv.toNat)) := by
            rw [hga, hpl]
            by_cases e : mv = 0
            · rw [if_pos e, if_pos e, if_pos e]
            · rw [if_neg e, if_neg e, if_neg e]
          refine S.istore (pc' := 126) (LL' := [_, _, _, _, _, _, _]) dX0_perform_124 rfl (by decide) rfl rfl ?_
          refine S.iload (pc' := 128) dX0_perform_126 rfl rfl ?_
          refine S.if_ne (pc' := 131) (tgt := 136) dX0_perform_128 (by decide) rfl (by unfold fp_rng; omega) (fun h128 => ?_) (fun h128 => ?_)
          · refine S.iload (pc' := 138) dX0_perform_136 rfl rfl ?_
            refine S.ineg (pc' := 139) dX0_perform_138 rfl ?_
            refine S.iret dX0_perform_139 rfl ?_
            first
            | exact ⟨by rw [hgq, if_pos (by omega)], hret⟩
            | exact ⟨by rw [hgq, if_neg (by omega)], hret⟩
          · refine S.iload (pc' := 133) dX0_perform_131 rfl rfl ?_
            refine S.goto (pc' := 139) dX0_perform_133 (by decide) ?_
            refine S.iret dX0_perform_139 rfl ?_
            first
            | exact ⟨by rw [hgq, if_pos (by omega)], hret⟩
            | exact ⟨by rw [hgq, if_neg (by omega)], hret⟩
        · exfalso; omega
    · have hga : dGain g kind p q deed mv s = 0 := by unfold dGain; rw [if_neg hdr]
      have hret : dRow N (125 + (turn + 1).toNat) ∧ dLs N (125 + (turn + 1).toNat) (dNext g kind deed mv s).1 ∧ N 132 (turn + 1).toNat = (dNext g kind deed mv s).1.length ∧ (∀ j, j ≠ (turn + 1).toNat → N 132 j = M 132 j) ∧ N 123 = (if deed = 1 then fp_upf (M 123) mv.toNat (M 123 mv.toNat - 1) else M 123) ∧ ∀ a, a ≠ 123 → a ≠ 132 → a ≠ 125 + (turn + 1).toNat → N a = M a := by
        by_cases e : deed = 1
        · have h10 := h1 e
          have hnx : dNext g kind deed mv s = (s.1 ++ [10], (if mv = 0 then s.2.1 - 1 else s.2.1), (if mv = 0 then s.2.2 else s.2.2 - 1)) := by unfold dNext; rw [if_pos e]
          refine ⟨hR, by rw [hnx]; exact h10.1, ?_, h132, h123, hf⟩
          rw [hnx, h10.2]
          show (s.1.length : Int) + 1 = ((s.1 ++ [10]).length : Int)
          rw [List.length_append]
          rfl
        · have h20 := h2 e
          have hnx : dNext g kind deed mv s = s := by unfold dNext; rw [if_neg e, if_neg hdr]
          rw [hnx]
          exact ⟨hR, h20.1, h20.2, h132, h123, hf⟩
      have hz : deed = 0 → (s.1.length : Int) = 0 := fun e => by
        by_cases q : s.1 = []
        · rw [q]; rfl
        · exact absurd ⟨e, q⟩ hdr
      refine S.iload_n (pc' := 88) dX0_perform_87 rfl rfl rfl ?_
      refine S.if_ne (pc' := 91) (tgt := 101) dX0_perform_88 (by decide) rfl (by unfold fp_rng; omega) (fun h88 => ?_) (fun h88 => ?_)
      · refine S.iconst (pc' := 102) dX0_perform_101 rfl ?_
        refine S.iret dX0_perform_102 rfl ?_
        exact ⟨by rw [hga], hret⟩
      · refine S.aload_n (pc' := 92) dX0_perform_91 rfl rfl rfl ?_
        refine S.getR (pc' := 95) dX0_perform_92 rfl fX0_23 L_121 rf_121_5 ?_
        refine S.iload (pc' := 97) dX0_perform_95 rfl rfl ?_
        refine S.iald (pc' := 98) dX0_perform_97 rfl L_132 (by omega) (by omega) ?_
        rw [e1]
        refine S.if_ne (pc' := 101) (tgt := 103) dX0_perform_98 (by decide) rfl (by unfold fp_rng; omega) (fun h98 => ?_) (fun h98 => ?_)
        · exfalso; omega
        · refine S.iconst (pc' := 102) dX0_perform_101 rfl ?_
          refine S.iret dX0_perform_102 rfl ?_
          exact ⟨by rw [hga], hret⟩
  refine S.aload_n (pc' := 1) dX0_perform_0 rfl rfl rfl ?_
  refine S.getR (pc' := 4) dX0_perform_1 rfl fX0_20 L_121 rf_121_4 ?_
  refine S.iload (pc' := 6) dX0_perform_4 rfl rfl ?_
  refine S.aald (pc' := 7) dX0_perform_6 rfl L_124 (by decide) (by decide) (by omega) (by omega) (drw_r (by omega) (by omega)) ?_
  refine S.iconst (pc' := 8) dX0_perform_7 rfl ?_
  refine S.aload_n (pc' := 9) dX0_perform_8 rfl rfl rfl ?_
  refine S.getR (pc' := 12) dX0_perform_9 rfl fX0_20 L_121 rf_121_4 ?_
  refine S.iload (pc' := 14) dX0_perform_12 rfl rfl ?_
  refine S.iconst (pc' := 15) dX0_perform_14 rfl ?_
  refine S.iadd (pc' := 16) dX0_perform_15 rfl ?_
  refine S.aald (pc' := 17) dX0_perform_16 rfl L_124 (by decide) (by decide) (by omega) (by omega) (drw_r (by omega) (by omega)) ?_
  refine S.iconst (pc' := 18) dX0_perform_17 rfl ?_
  refine S.bipush (pc' := 20) dX0_perform_18 rfl (by decide) ?_
  refine S.copyi (pc' := 23) dX0_perform_20 rfl aX0_31 (drw_a (by omega) (by omega)) (drw_a (by omega) (by omega)) (by decide) (by decide) (by omega) (by omega) (by omega) (by omega) (by omega) (by decide) (Nat.le_of_ble_eq_true rfl) ?_
  generalize hN1 : fp_upM M (125 + (turn + 1).toNat) _ = N1
  have n1 : ∀ a, a ≠ 125 + (turn + 1).toNat → N1 a = M a := fun a ha => by rw [← hN1, fp_upM_ne ha]
  have c1 : ∀ k : Nat, k < 8 → N1 (125 + (turn + 1).toNat) k = M (125 + turn.toNat) k := fun k hk => by
    rw [← hN1, fp_upM_at]
    simp only [va_cpy]
    rw [if_pos (by omega)]
    rw [show (0 : Int).toNat + (k - (0 : Int).toNat) = k by omega]
  have r1 : dRow N1 (125 + (turn + 1).toNat) := fun i i0 i1 => by
    rw [c1 i.toNat (by omega)]
    exact hrow i i0 i1
  refine S.aload_n (pc' := 24) dX0_perform_23 rfl rfl rfl ?_
  refine S.getR (pc' := 27) dX0_perform_24 rfl fX0_23 L_121 rf_121_5 ?_
  refine S.iload (pc' := 29) dX0_perform_27 rfl rfl ?_
  refine S.iconst (pc' := 30) dX0_perform_29 rfl ?_
  refine S.iadd (pc' := 31) dX0_perform_30 rfl ?_
  refine S.aload_n (pc' := 32) dX0_perform_31 rfl rfl rfl ?_
  refine S.getR (pc' := 35) dX0_perform_32 rfl fX0_23 L_121 rf_121_5 ?_
  refine S.iload (pc' := 37) dX0_perform_35 rfl rfl ?_
  refine S.iald (pc' := 38) dX0_perform_37 rfl L_132 (by omega) (by omega) ?_
  rw [n1 132 (by omega)]
  refine S.iast (pc' := 39) dX0_perform_38 rfl L_132 (by omega) (by omega) ?_
  generalize hN2 : fp_up N1 132 (turn + 1).toNat (M 132 turn.toNat) = N2
  have n2l : N2 132 (turn + 1).toNat = M 132 turn.toNat := by rw [← hN2, fp_up_at, fp_upf_at]
  have n2o : ∀ j, j ≠ (turn + 1).toNat → N2 132 j = M 132 j := fun j hj => by rw [← hN2, fp_up_at, fp_upf_ne hj, n1 132 (by omega)]
  have n2f : ∀ a, a ≠ 132 → a ≠ 125 + (turn + 1).toNat → N2 a = M a := fun a a1 a2 => by rw [← hN2, fp_up_ne a1, n1 a a2]
  have r2 : dRow N2 (125 + (turn + 1).toNat) := fun i i0 i1 => by rw [← hN2, fp_up_ne (by omega)]; exact r1 i i0 i1
  have l2 : dLs N2 (125 + (turn + 1).toNat) s.1 := fun k hk => by rw [← hN2, fp_up_ne (by omega), c1 k (by omega)]; exact hls k hk
  refine S.iload_n (pc' := 40) dX0_perform_39 rfl rfl rfl ?_
  refine S.iconst (pc' := 41) dX0_perform_40 rfl ?_
  refine S.icmp_ne (pc' := 44) (tgt := 87) dX0_perform_41 (by decide) rfl (by unfold fp_rng; omega) (by unfold fp_rng; omega) (fun h41 => ?_) (fun h41 => ?_)
  · first
    | (refine h87 N2 (fun e => by omega) (fun _ => ⟨l2, by rw [n2l]; exact hlen⟩) r2 n2o (by rw [if_neg (by omega)]; exact n2f 123 (by decide) (by omega)) (fun a _ a2 a3 => n2f a a2 a3); done)
    | (have hc := (hcan (by omega)).2
       refine h87 _ (fun _ => ⟨fun k hk => ?_, ?_⟩) (fun q => by omega) (fun i i0 i1 => ?_) (fun j hj => ?_) ?_ (fun a a1 a2 a3 => ?_)
       · rw [fp_up_ne (show 125 + (turn + 1).toNat ≠ 123 by omega), fp_up_ne (show 125 + (turn + 1).toNat ≠ 132 by omega), fp_up_at]
         rw [List.length_append] at hk
         have hk' : k < s.1.length + 1 := hk
         unfold fp_upf
         split
         · rename_i ek
           rw [List.getD_eq_getElem?_getD, List.getElem?_append_right (by omega), show k - s.1.length = 0 by omega]
           rfl
         · rw [l2 k (by omega), List.getD_eq_getElem?_getD, List.getD_eq_getElem?_getD, List.getElem?_append_left (by omega)]
       · rw [fp_up_ne (show 132 ≠ 123 by decide), fp_up_at, fp_upf_at]; omega
       · rw [fp_up_ne (show 125 + (turn + 1).toNat ≠ 123 by omega), fp_up_ne (show 125 + (turn + 1).toNat ≠ 132 by omega), fp_up_at]
         unfold fp_upf
         split
         · omega
         · exact r2 i i0 i1
       · rw [fp_up_ne (show 132 ≠ 123 by decide), fp_up_at, fp_upf_ne hj, fp_up_ne (show 132 ≠ 125 + (turn + 1).toNat by omega)]; exact n2o j hj
       · rw [if_pos (by omega), fp_up_at, fp_up_ne (show 123 ≠ 132 by decide), fp_up_ne (show 123 ≠ 125 + (turn + 1).toNat by omega), n2f 123 (by decide) (by omega)]
       · rw [fp_up_ne a1, fp_up_ne a2, fp_up_ne a3]; exact n2f a a2 a3)
  · refine S.aload_n (pc' := 45) dX0_perform_44 rfl rfl rfl ?_
    refine S.getR (pc' := 48) dX0_perform_45 rfl fX0_20 L_121 rf_121_4 ?_
    refine S.iload (pc' := 50) dX0_perform_48 rfl rfl ?_
    refine S.iconst (pc' := 51) dX0_perform_50 rfl ?_
    refine S.iadd (pc' := 52) dX0_perform_51 rfl ?_
    refine S.aald (pc' := 53) dX0_perform_52 rfl L_124 (by decide) (by decide) (by omega) (by omega) (drw_r (by omega) (by omega)) ?_
    refine S.aload_n (pc' := 54) dX0_perform_53 rfl rfl rfl ?_
    refine S.getR (pc' := 57) dX0_perform_54 rfl fX0_23 L_121 rf_121_5 ?_
    refine S.iload (pc' := 59) dX0_perform_57 rfl rfl ?_
    refine S.iald (pc' := 60) dX0_perform_59 rfl L_132 (by omega) (by omega) ?_
    rw [n2o turn.toNat (by omega)]
    refine S.bipush (pc' := 62) dX0_perform_60 rfl (by decide) ?_
    refine S.iast (pc' := 63) dX0_perform_62 rfl (drw_a (by omega) (by omega)) (by omega) (by have := (hcan (by omega)).2; omega) ?_
    refine S.aload_n (pc' := 64) dX0_perform_63 rfl rfl rfl ?_
    refine S.getR (pc' := 67) dX0_perform_64 rfl fX0_23 L_121 rf_121_5 ?_
    refine S.iload (pc' := 69) dX0_perform_67 rfl rfl ?_
    refine S.iconst (pc' := 70) dX0_perform_69 rfl ?_
    refine S.iadd (pc' := 71) dX0_perform_70 rfl ?_
    refine S.dup2 (pc' := 72) dX0_perform_71 rfl rfl rfl ?_
    refine S.iald (pc' := 73) dX0_perform_72 rfl L_132 (by omega) (by omega) ?_
    rw [fp_up_ne (show 132 ≠ 125 + (turn + 1).toNat by omega), n2l]
    refine S.iconst (pc' := 74) dX0_perform_73 rfl ?_
    refine S.iadd (pc' := 75) dX0_perform_74 rfl ?_
    refine S.iast (pc' := 76) dX0_perform_75 rfl L_132 (by omega) (by omega) ?_
    refine S.aload_n (pc' := 77) dX0_perform_76 rfl rfl rfl ?_
    refine S.getR (pc' := 80) dX0_perform_77 rfl fX0_15 L_121 rf_121_3 ?_
    refine S.iload (pc' := 82) dX0_perform_80 rfl rfl ?_
    refine S.dup2 (pc' := 83) dX0_perform_82 rfl rfl rfl ?_
    refine S.iald (pc' := 84) dX0_perform_83 rfl L_123 (by omega) (by omega) ?_
    rw [fp_up_ne (show 123 ≠ 132 by decide), fp_up_ne (show 123 ≠ 125 + (turn + 1).toNat by omega), n2f 123 (by decide) (by omega)]
    refine S.iconst (pc' := 85) dX0_perform_84 rfl ?_
    refine S.isub (pc' := 86) dX0_perform_85 rfl ?_
    refine S.iast (pc' := 87) dX0_perform_86 rfl L_123 (by omega) (by omega) ?_
    first
    | (refine h87 N2 (fun e => by omega) (fun _ => ⟨l2, by rw [n2l]; exact hlen⟩) r2 n2o (by rw [if_neg (by omega)]; exact n2f 123 (by decide) (by omega)) (fun a _ a2 a3 => n2f a a2 a3); done)
    | (have hc := (hcan (by omega)).2
       refine h87 _ (fun _ => ⟨fun k hk => ?_, ?_⟩) (fun q => by omega) (fun i i0 i1 => ?_) (fun j hj => ?_) ?_ (fun a a1 a2 a3 => ?_)
       · rw [fp_up_ne (show 125 + (turn + 1).toNat ≠ 123 by omega), fp_up_ne (show 125 + (turn + 1).toNat ≠ 132 by omega), fp_up_at]
         rw [List.length_append] at hk
         have hk' : k < s.1.length + 1 := hk
         unfold fp_upf
         split
         · rename_i ek
           rw [List.getD_eq_getElem?_getD, List.getElem?_append_right (by omega), show k - s.1.length = 0 by omega]
           rfl
         · rw [l2 k (by omega), List.getD_eq_getElem?_getD, List.getD_eq_getElem?_getD, List.getElem?_append_left (by omega)]
       · rw [fp_up_ne (show 132 ≠ 123 by decide), fp_up_at, fp_upf_at]; omega
       · rw [fp_up_ne (show 125 + (turn + 1).toNat ≠ 123 by omega), fp_up_ne (show 125 + (turn + 1).toNat ≠ 132 by omega), fp_up_at]
         unfold fp_upf
         split
         · omega
         · exact r2 i i0 i1
       · rw [fp_up_ne (show 132 ≠ 123 by decide), fp_up_at, fp_upf_ne hj, fp_up_ne (show 132 ≠ 125 + (turn + 1).toNat by omega)]; exact n2o j hj
       · rw [if_pos (by omega), fp_up_at, fp_up_ne (show 123 ≠ 132 by decide), fp_up_ne (show 123 ≠ 125 + (turn + 1).toNat by omega), n2f 123 (by decide) (by omega)]
       · rw [fp_up_ne a1, fp_up_ne a2, fp_up_ne a3]; exact n2f a a2 a3)
end CDX
