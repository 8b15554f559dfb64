/-! RINGS WHERE NOBODY BRINGS ANYTHING -/
section RG0
variable {l : Launch} {G : fp_WG} {M : fp_Mem} {tp : List Int} {fl : Int} {g : aGd} {pg : aPg} {vs : List aVt} {nt : List Int} {im : aIm} {sh : aSh} {tn : Int}
theorem fp_S.wV {d pc : Nat} {Y : fp_MR} {LL : List (Option Value)} {st : List Value} {P P' : fp_Mem → Prop} (h : fp_S l G d Y pc LL st M (qV P)) (hq : ∀ N, P N → P' N) : fp_S l G d Y pc LL st M (qV P') := h.weaken (fun r N q => ⟨q.1, hq N q.2⟩)
theorem r0_take {p : Int} (hp : 0 ≤ p ∧ p < 4) (hm : M 136 4 = 0) : fp_Ok l G 1 kX7_takeIfInRing [rV G 136, iV p] M (qE 0 M) := by
  refine fp_Ok.of (r := 3) rfl (Nat.le_of_ble_eq_true rfl) rfl ?_
  refine S.aload_n (pc' := 1) dX7_takeIfInRing_0 rfl rfl rfl ?_
  refine S.iload_n (pc' := 2) dX7_takeIfInRing_1 rfl rfl rfl ?_
  refine S.callVi (pc' := 5) dX7_takeIfInRing_2 rfl cX7_45 (bk_X7_isThere (th := 0) (by omega) hm hp) rfl L_136 (by decide) rfl (Nat.le_of_ble_eq_true rfl) (fun z2 M2 q2 => ?_)
  obtain ⟨b9, rfl⟩ := q2
  have b9 : z2 = 0 := by
    rcases b9 with h | h
    · exact absurd h.2 (by simp)
    · exact h.1
  refine S.if_ne (pc' := 8) (tgt := 10) dX7_takeIfInRing_5 (by decide) rfl (by unfold fp_rng; omega) (fun h5 => ?_) (fun h5 => ?_)
  · exfalso; omega
  · refine S.iconst (pc' := 9) dX7_takeIfInRing_8 rfl ?_
    refine S.iret dX7_takeIfInRing_9 rfl ?_
    exact ⟨rfl, rfl⟩
theorem r0_bOk (g : aGd) (b : Int → Int) : bOk g b 0 := ⟨by omega, fun q h0 h1 h2 => absurd h2 (by simp)⟩
theorem r0_least {p : Int} (h1 : g.1 = 0) : aLeast g pg p = -4 := by
  unfold aLeast
  rw [h1]
  rfl
theorem r0_th (h1 : g.1 = 0) : aTh g pg 4 = 0 := by
  have h := fun i : Int => fun hi : 0 ≤ i => aTh_succ (g := g) (pg := pg) hi
  have e0 : aTh g pg 0 = 0 := rfl
  have e1 := h 0 (by omega)
  have e2 := h 1 (by omega)
  have e3 := h 2 (by omega)
  have e4 := h 3 (by omega)
  rw [if_pos (r0_least h1)] at e1 e2 e3 e4
  have e1' : aTh g pg 1 = aTh g pg 0 := e1
  have e2' : aTh g pg 2 = aTh g pg 1 := e2
  have e3' : aTh g pg 3 = aTh g pg 2 := e3
  have e4' : aTh g pg 4 = aTh g pg 3 := e4
  rw [e4', e3', e2', e1', e0]
/-- the state between two rounds -/
def r0_I (M N : fp_Mem) : Prop := (∀ a, (a < 136 ∨ 140 < a) → N a = M a) ∧ N 136 4 = 0 ∧ ∀ y : Int, 0 ≤ y → y < 4 → N 137 y.toNat = -4 ∧ N 138 y.toNat = -4 ∧ N 139 y.toNat = -4
theorem r0_in {N : fp_Mem} {Q : fp_Q} {r : Int} (hm : N 136 4 = 0) (K : fp_S l G 3 kX7_form 46 [some (rV G 136), some (rV G 18), some (rV G 22), some (iV r), some (iV 0), some (iV 4)] [] N Q) : ∀ (n : Nat) (i : Int), (4 - i).toNat = n → 0 ≤ i → i ≤ 4 →
    fp_S l G 3 kX7_form 23 [some (rV G 136), some (rV G 18), some (rV G 22), some (iV r), some (iV 0), some (iV i)] [] N Q := by
  intro n
  induction n with
  | zero =>
    intro i hn h0 h1
    have : i = 4 := by omega
    subst this
    refine S.iload (pc' := 25) dX7_form_23 rfl rfl ?_
    refine S.iconst (pc' := 26) dX7_form_25 rfl ?_
    refine S.icmp_ge (pc' := 29) (tgt := 46) dX7_form_26 (by decide) rfl (by unfold fp_rng; omega) (by unfold fp_rng; omega) (fun h26 => ?_) (fun h26 => ?_)
    · exact K
    · exfalso; omega
  | succ n ih =>
    intro i hn h0 h1
    refine S.iload (pc' := 25) dX7_form_23 rfl rfl ?_
    refine S.iconst (pc' := 26) dX7_form_25 rfl ?_
    refine S.icmp_ge (pc' := 29) (tgt := 46) dX7_form_26 (by decide) rfl (by unfold fp_rng; omega) (by unfold fp_rng; omega) (fun h26 => ?_) (fun h26 => ?_)
    · exfalso; omega
    · refine S.iload (pc' := 31) dX7_form_29 rfl rfl ?_
      refine S.aload_n (pc' := 32) dX7_form_31 rfl rfl rfl ?_
      refine S.iload (pc' := 34) dX7_form_32 rfl rfl ?_
      refine S.callVe (pc' := 37) dX7_form_34 rfl cX7_32 (r0_take (by omega) hm) rfl L_136 (by decide) rfl (Nat.le_of_ble_eq_true rfl) ?_
      refine S.ior (pc' := 38) dX7_form_37 rfl (show _ = Int32.ofInt 0 by rfl) ?_
      refine S.istore (pc' := 40) (LL' := [_, _, _, _, _, _]) dX7_form_38 rfl (by decide) rfl rfl ?_
      refine S.iinc (pc' := 43) (LL' := [_, _, _, _, _, _]) dX7_form_40 rfl (by decide) rfl rfl rfl ?_
      refine S.goto (pc' := 23) dX7_form_43 (by decide) ?_
      exact ih (i + 1) (by omega) (by omega) (by omega)
theorem r0_tail {N : fp_Mem} {Q : fp_Q} {r : Int} (hm : N 136 4 = 0) (K : ∀ O : fp_Mem, ((∀ a, a ≠ 136 → O a = N a) ∧ O 136 4 = 0 ∧ True) → fp_S l G 3 kX7_form 7 [some (rV G 136), some (rV G 18), some (rV G 22), some (iV (r + 1)), some (iV 0), some (iV 4)] [] O Q) : fp_S l G 3 kX7_form 46 [some (rV G 136), some (rV G 18), some (rV G 22), some (iV r), some (iV 0), some (iV 4)] [] N Q := by
  refine S.aload_n (pc' := 47) dX7_form_46 rfl rfl rfl ?_
  refine S.dup (pc' := 48) dX7_form_47 rfl rfl ?_
  refine S.getI (pc' := 51) dX7_form_48 rfl fX7_36 L_136 ?_
  refine S.iload (pc' := 53) dX7_form_51 rfl rfl ?_
  refine S.iconst (pc' := 54) dX7_form_53 rfl ?_
  refine S.ixor (pc' := 55) dX7_form_54 rfl (show _ = Int32.ofInt (-1) by rfl) ?_
  refine S.iand (pc' := 56) dX7_form_55 rfl (show _ = Int32.ofInt 0 by rw [hm]; rfl) ?_
  refine S.putI (pc' := 59) dX7_form_56 rfl fX7_36 L_136 ?_
  refine S.iinc (pc' := 62) (LL' := [_, _, _, _, _, _]) dX7_form_59 rfl (by decide) rfl rfl rfl ?_
  refine S.goto (pc' := 7) dX7_form_62 (by decide) ?_
  exact K _ ⟨fun a ha => by simp [fp_upM, ha], by simp [fp_upM, fp_upf], trivial⟩
theorem r0_out (hd : gdIs M 18 g) (hg : gOk g) : ∀ (n : Nat) (r : Int) (N : fp_Mem) (o4 o5 : Option Value), (4 - r).toNat = n → 0 ≤ r → r ≤ 4 → r0_I M N →
    fp_S l G 3 kX7_form 7 [some (rV G 136), some (rV G 18), some (rV G 22), some (iV r), o4, o5] [] N (qV fun O => r0_I M O) := by
  intro n
  induction n with
  | zero =>
    intro r N o4 o5 hn h0 h1 hI
    refine S.iload_n (pc' := 8) dX7_form_7 rfl rfl rfl ?_
    refine S.iconst (pc' := 9) dX7_form_8 rfl ?_
    refine S.icmp_ge (pc' := 12) (tgt := 65) dX7_form_9 (by decide) rfl (by unfold fp_rng; omega) (by unfold fp_rng; omega) (fun h9 => ?_) (fun h9 => ?_)
    · refine S.vret dX7_form_65 rfl ?_
      exact hI
    · exfalso; omega
  | succ n ih =>
    intro r N o4 o5 hn h0 h1 hI
    obtain ⟨i1, i2, i3⟩ := hI
    have hdN : gdIs N 18 g := hd.kept (fun a q1 q2 => i1 a (by omega))
    refine S.iload_n (pc' := 8) dX7_form_7 rfl rfl rfl ?_
    refine S.iconst (pc' := 9) dX7_form_8 rfl ?_
    refine S.icmp_ge (pc' := 12) (tgt := 65) dX7_form_9 (by decide) rfl (by unfold fp_rng; omega) (by unfold fp_rng; omega) (fun h9 => ?_) (fun h9 => ?_)
    · exfalso; omega
    · refine S.aload_n (pc' := 13) dX7_form_12 rfl rfl rfl ?_
      refine S.aload_n (pc' := 14) dX7_form_13 rfl rfl rfl ?_
      refine S.callVv (pc' := 17) dX7_form_14 rfl cX7_28 (rk_X7_point (b := fun _ => -4) (r0_bOk g _) hg hdN i2 (fun q q0 q1 => (i3 q q0 q1).2.2)) rfl L_136 (by decide) rfl (Nat.le_of_ble_eq_true rfl) (fun M14 q14 => ?_)
      obtain ⟨j1, j2⟩ := q14
      have hm14 : M14 136 4 = 0 := by rw [j1 136 (by decide)]; exact i2
      refine S.iconst (pc' := 18) dX7_form_17 rfl ?_
      refine S.istore (pc' := 20) (LL' := [_, _, _, _, _, _]) dX7_form_18 rfl (by decide) rfl rfl ?_
      refine S.iconst (pc' := 21) dX7_form_20 rfl ?_
      refine S.istore (pc' := 23) (LL' := [_, _, _, _, _, _]) dX7_form_21 rfl (by decide) rfl rfl ?_
      refine r0_in hm14 ?_ 4 0 (by omega) (by omega) (by omega)
      refine r0_tail hm14 (fun O hO => ih (r + 1) O _ _ (by omega) (by omega) (by omega) ⟨fun a ha => ?_, ?_, fun y y0 y1 => ?_⟩)
      · rw [hO.1 a (by omega), j1 a (by omega)]; exact i1 a ha
      · exact hO.2.1
      · rw [hO.1 137 (by decide), hO.1 138 (by decide), hO.1 139 (by decide), j1 137 (by decide), j1 138 (by decide), j1 139 (by decide)]; exact i3 y y0 y1
theorem r0_form (hc : clIs M 22 g pg) (hd : gdIs M 18 g) (hg : gOk g) (h1 : g.1 = 0) : fp_Ok l G 3 kX7_form [rV G 136, rV G 18, rV G 22] M (qV fun O => r0_I M O) := by
  refine fp_Ok.of (r := 3) rfl (Nat.le_of_ble_eq_true rfl) rfl ?_
  refine S.aload_n (pc' := 1) dX7_form_0 rfl rfl rfl ?_
  refine S.aload_n (pc' := 2) dX7_form_1 rfl rfl rfl ?_
  refine S.callVv (pc' := 5) dX7_form_2 rfl cX7_24 (rk_X7_gather hc hg) rfl L_136 (by decide) rfl (Nat.le_of_ble_eq_true rfl) (fun M2 q2 => ?_)
  obtain ⟨j1, j2, j3⟩ := q2
  refine S.iconst (pc' := 6) dX7_form_5 rfl ?_
  refine S.istore_n (pc' := 7) (LL' := [_, _, _, _, _, _]) dX7_form_6 rfl (by decide) rfl rfl rfl ?_
  refine (r0_out (M := M2) (hd.kept (fun a q1 q2 => j1 a (by omega))) hg 4 0 _ _ _ (by omega) (by omega) (by omega) ⟨fun a ha => rfl, by rw [j2]; exact r0_th h1, fun y y0 y1 => ?_⟩).wV (fun O hO => ⟨fun a ha => ?_, hO.2⟩)
  · obtain ⟨e1, e2, e3⟩ := j3 y y0 y1; exact ⟨e1, e2, by rw [e3]; exact r0_least h1⟩
  · rw [hO.1 a (by omega)]; exact j1 a (by omega)
def A_ring0 (p : Int) : Int := if 0 ≤ p ∧ p < 4 then -4 else -1
theorem c0_ring {p : Int} (hc : CS M tp fl g pg vs nt im sh tn) (ho : OK g pg vs nt im sh) (h1 : g.1 = 0) (hp : fp_rng p) : fp_Ok l G 4 kX11_ring [rV G 0, iV p] M (qI fun z N => z = A_ring0 p ∧ frC M N) := by
  obtain ⟨-, hd, hcl, hv, -⟩ := hc
  obtain ⟨hg, hP, -⟩ := ho
  refine fp_Ok.of (r := 0) rfl (Nat.le_of_ble_eq_true rfl) rfl ?_
  unfold A_ring0
  refine S.iload_n (pc' := 1) dX11_ring_0 rfl rfl rfl ?_
  refine S.callSi (pc' := 4) dX11_ring_1 rfl cX11_181 (bk_X11_isOne) rfl (by decide) rfl (Nat.le_of_ble_eq_true rfl) (fun z1 M1 q1 => ?_)
  obtain ⟨b1, rfl⟩ := q1
  refine S.if_ne (pc' := 7) (tgt := 9) dX11_ring_4 (by decide) rfl (by unfold fp_rng; omega) (fun h4 => ?_) (fun h4 => ?_)
  · refine S.aload_n (pc' := 10) dX11_ring_9 rfl rfl rfl ?_
    refine S.getR (pc' := 13) dX11_ring_10 rfl fX11_72 L_0 rf_0_10 ?_
    refine S.aload_n (pc' := 14) dX11_ring_13 rfl rfl rfl ?_
    refine S.getR (pc' := 17) dX11_ring_14 rfl fX11_23 L_0 rf_0_3 ?_
    refine S.aload_n (pc' := 18) dX11_ring_17 rfl rfl rfl ?_
    refine S.getR (pc' := 21) dX11_ring_18 rfl fX11_30 L_0 rf_0_4 ?_
    refine S.callVv (pc' := 24) dX11_ring_21 rfl cX11_303 (r0_form hcl hd hg h1) rfl L_136 (by decide) rfl (Nat.le_of_ble_eq_true rfl) (fun M21 q21 => ?_)
    refine S.aload_n (pc' := 25) dX11_ring_24 rfl rfl rfl ?_
    refine S.getR (pc' := 28) dX11_ring_25 rfl fX11_72 L_0 rf_0_10 ?_
    refine S.getR (pc' := 31) dX11_ring_28 rfl fX11_307 L_136 rf_136_0 ?_
    refine S.iload_n (pc' := 32) dX11_ring_31 rfl rfl rfl ?_
    refine S.iald (pc' := 33) dX11_ring_32 rfl L_137 (by omega) (by omega) ?_
    refine S.iret dX11_ring_33 rfl ?_
    refine ⟨?_, fun c hc => q21.1 c (by omega)⟩
    rw [(q21.2.2 p (by omega) (by omega)).1, if_pos (by omega)]
  · refine S.iconst (pc' := 8) dX11_ring_7 rfl ?_
    refine S.iret dX11_ring_8 rfl ?_
    exact ⟨by rw [if_neg (by omega)], frC.refl _⟩
theorem c0_with {p : Int} (hc : CS M tp fl g pg vs nt im sh tn) (ho : OK g pg vs nt im sh) (h1 : g.1 = 0) (hp : fp_rng p) : fp_Ok l G 4 kX11_with [rV G 0, iV p] M (qI fun z N => z = A_ring0 p ∧ frC M N) := by
  obtain ⟨-, hd, hcl, hv, -⟩ := hc
  obtain ⟨hg, hP, -⟩ := ho
  refine fp_Ok.of (r := 0) rfl (Nat.le_of_ble_eq_true rfl) rfl ?_
  unfold A_ring0
  refine S.iload_n (pc' := 1) dX11_with_0 rfl rfl rfl ?_
  refine S.callSi (pc' := 4) dX11_with_1 rfl cX11_181 (bk_X11_isOne) rfl (by decide) rfl (Nat.le_of_ble_eq_true rfl) (fun z1 M1 q1 => ?_)
  obtain ⟨b1, rfl⟩ := q1
  refine S.if_ne (pc' := 7) (tgt := 9) dX11_with_4 (by decide) rfl (by unfold fp_rng; omega) (fun h4 => ?_) (fun h4 => ?_)
  · refine S.aload_n (pc' := 10) dX11_with_9 rfl rfl rfl ?_
    refine S.getR (pc' := 13) dX11_with_10 rfl fX11_72 L_0 rf_0_10 ?_
    refine S.aload_n (pc' := 14) dX11_with_13 rfl rfl rfl ?_
    refine S.getR (pc' := 17) dX11_with_14 rfl fX11_23 L_0 rf_0_3 ?_
    refine S.aload_n (pc' := 18) dX11_with_17 rfl rfl rfl ?_
    refine S.getR (pc' := 21) dX11_with_18 rfl fX11_30 L_0 rf_0_4 ?_
    refine S.callVv (pc' := 24) dX11_with_21 rfl cX11_303 (r0_form hcl hd hg h1) rfl L_136 (by decide) rfl (Nat.le_of_ble_eq_true rfl) (fun M21 q21 => ?_)
    refine S.aload_n (pc' := 25) dX11_with_24 rfl rfl rfl ?_
    refine S.getR (pc' := 28) dX11_with_25 rfl fX11_72 L_0 rf_0_10 ?_
    refine S.getR (pc' := 31) dX11_with_28 rfl fX11_310 L_136 rf_136_1 ?_
    refine S.iload_n (pc' := 32) dX11_with_31 rfl rfl rfl ?_
    refine S.iald (pc' := 33) dX11_with_32 rfl L_138 (by omega) (by omega) ?_
    refine S.iret dX11_with_33 rfl ?_
    refine ⟨?_, fun c hc => q21.1 c (by omega)⟩
    rw [(q21.2.2 p (by omega) (by omega)).2.1, if_pos (by omega)]
  · refine S.iconst (pc' := 8) dX11_with_7 rfl ?_
    refine S.iret dX11_with_8 rfl ?_
    exact ⟨by rw [if_neg (by omega)], frC.refl _⟩
theorem m0_lay_i (h1 : M 177 4 = 0) : ∀ (n : Nat) (i s9 : Int) (N : fp_Mem) (o3 o4 : Option Value), (4 - i).toNat < n → 0 ≤ i → i ≤ 4 → s9 = 0 → (∀ c, (c < 196 ∨ 198 < c) → N c = M c) → (∀ y : Int, 0 ≤ y → y < i → N 197 y.toNat = -4 ∧ N 198 y.toNat = -4) →
    fp_S l G 1 kX12_layRings 4 [some (rV G 177), some (iV s9), some (iV i), o3, o4] [] N (qV fun O => ∀ y : Int, 0 ≤ y → y < 4 → O 197 y.toNat = -4 ∧ O 198 y.toNat = -4) := by
  intro n
  induction n with
  | zero => intro i s9 N o3 o4 hn; omega
  | succ n ih =>
    intro i s9 N o3 o4 hn h0 h4 hs hN hy
    subst hs
    have e7 : N 177 4 = 0 := by rw [hN 177 (by omega)]; exact h1
    by_cases hi : i = 4
    · subst hi
      refine S.iload_n (pc' := 5) dX12_layRings_4 rfl rfl rfl ?_
      refine S.iconst (pc' := 6) dX12_layRings_5 rfl ?_
      refine S.icmp_ge (pc' := 9) (tgt := 103) dX12_layRings_6 (by decide) rfl (by unfold fp_rng; omega) (by unfold fp_rng; omega) (fun h6 => ?_) (fun h6 => ?_)
      · refine S.iload_n (pc' := 104) dX12_layRings_103 rfl rfl rfl ?_
        refine S.if_eq (pc' := 107) (tgt := 188) dX12_layRings_104 (by decide) rfl (by unfold fp_rng; omega) (fun h104 => ?_) (fun h104 => ?_)
        · refine S.vret dX12_layRings_188 rfl ?_
          exact hy
        · exfalso; omega
      · exfalso; omega
    · refine S.iload_n (pc' := 5) dX12_layRings_4 rfl rfl rfl ?_
      refine S.iconst (pc' := 6) dX12_layRings_5 rfl ?_
      refine S.icmp_ge (pc' := 9) (tgt := 103) dX12_layRings_6 (by decide) rfl (by unfold fp_rng; omega) (by unfold fp_rng; omega) (fun h6 => ?_) (fun h6 => ?_)
      · exfalso; omega
      · refine S.aload_n (pc' := 10) dX12_layRings_9 rfl rfl rfl ?_
        refine S.getR (pc' := 13) dX12_layRings_10 rfl fX12_69 L_177 rf_177_37 ?_
        refine S.iload_n (pc' := 14) dX12_layRings_13 rfl rfl rfl ?_
        refine S.bipush (pc' := 16) dX12_layRings_14 rfl (by decide) ?_
        refine S.iast (pc' := 17) dX12_layRings_16 rfl L_196 (by omega) (by omega) ?_
        refine S.aload_n (pc' := 18) dX12_layRings_17 rfl rfl rfl ?_
        refine S.getR (pc' := 21) dX12_layRings_18 rfl fX12_72 L_177 rf_177_38 ?_
        refine S.iload_n (pc' := 22) dX12_layRings_21 rfl rfl rfl ?_
        refine S.bipush (pc' := 24) dX12_layRings_22 rfl (by decide) ?_
        refine S.iast (pc' := 25) dX12_layRings_24 rfl L_197 (by omega) (by omega) ?_
        refine S.aload_n (pc' := 26) dX12_layRings_25 rfl rfl rfl ?_
        refine S.getR (pc' := 29) dX12_layRings_26 rfl fX12_75 L_177 rf_177_39 ?_
        refine S.iload_n (pc' := 30) dX12_layRings_29 rfl rfl rfl ?_
        refine S.bipush (pc' := 32) dX12_layRings_30 rfl (by decide) ?_
        refine S.iast (pc' := 33) dX12_layRings_32 rfl L_198 (by omega) (by omega) ?_
        refine S.aload_n (pc' := 34) dX12_layRings_33 rfl rfl rfl ?_
        refine S.getI (pc' := 37) dX12_layRings_34 rfl fX12_181 L_177 ?_
        refine S.iconst (pc' := 38) dX12_layRings_37 rfl ?_
        refine S.isub (pc' := 39) dX12_layRings_38 rfl ?_
        refine S.istore_n (pc' := 40) (LL' := [_, _, _, _, _]) dX12_layRings_39 rfl (by decide) rfl rfl rfl ?_
        refine S.iload_n (pc' := 41) dX12_layRings_40 rfl rfl rfl ?_
        have e41 : fp_up (fp_up (fp_up N 196 i.toNat (-4)) 197 i.toNat (-4)) 198 i.toNat (-4) 177 4 = N 177 4 := rfl
        refine S.if_lt (pc' := 44) (tgt := 76) dX12_layRings_41 (by decide) rfl (show fp_rng (N 177 4 - 1) by rw [e7]; unfold fp_rng; omega) (fun h41 => ?_) (fun h41 => ?_)
        · refine S.iload_n (pc' := 77) dX12_layRings_76 rfl rfl rfl ?_
          refine S.aload_n (pc' := 78) dX12_layRings_77 rfl rfl rfl ?_
          refine S.getR (pc' := 81) dX12_layRings_78 rfl fX12_69 L_177 rf_177_37 ?_
          refine S.iload_n (pc' := 82) dX12_layRings_81 rfl rfl rfl ?_
          refine S.iald (pc' := 83) dX12_layRings_82 rfl L_196 (by omega) (by omega) ?_
          refine S.bipush (pc' := 85) dX12_layRings_83 rfl (by decide) ?_
          have e85 : fp_up (fp_up (fp_up N 196 i.toNat (-4)) 197 i.toNat (-4)) 198 i.toNat (-4) 196 i.toNat = -4 := by simp [fp_upM, fp_upf]
          refine S.icmp_ne (pc' := 88) (tgt := 92) dX12_layRings_85 (by decide) rfl (by rw [e85]; unfold fp_rng; omega) (by unfold fp_rng; omega) (fun h85 => ?_) (fun h85 => ?_)
          · exfalso; omega
          · refine S.iconst (pc' := 89) dX12_layRings_88 rfl ?_
            refine S.goto (pc' := 95) dX12_layRings_89 (by decide) ?_
            refine S.ior (pc' := 96) dX12_layRings_95 rfl (show _ = Int32.ofInt 0 by rfl) ?_
            refine S.istore_n (pc' := 97) (LL' := [_, _, _, _, _]) dX12_layRings_96 rfl (by decide) rfl rfl rfl ?_
            refine S.iinc (pc' := 100) (LL' := [_, _, _, _, _]) dX12_layRings_97 rfl (by decide) rfl rfl rfl ?_
            refine S.goto (pc' := 4) dX12_layRings_100 (by decide) ?_
            refine ih (i + 1) _ _ _ _ (by omega) (by omega) (by omega) rfl (fun c hc => ?_) (fun y y0 y1 => ?_)
            · rw [← hN c hc]; simp [fp_upM, show c ≠ 196 by omega, show c ≠ 197 by omega, show c ≠ 198 by omega]
            · by_cases e : y = i
              · subst e; simp [fp_upM, fp_upf]
              · have q := hy y y0 (by omega)
                have e' : y.toNat ≠ i.toNat := by omega
                simp [fp_upM, fp_upf, e', q]
        · exfalso; omega
theorem m0_lay (h1 : M 177 4 = 0) : fp_Ok l G 1 kX12_layRings [rV G 177] M (qV fun O => ∀ y : Int, 0 ≤ y → y < 4 → O 197 y.toNat = -4 ∧ O 198 y.toNat = -4) := by
  refine fp_Ok.of (r := 4) rfl (Nat.le_of_ble_eq_true rfl) rfl ?_
  refine S.iconst (pc' := 1) dX12_layRings_0 rfl ?_
  refine S.istore_n (pc' := 2) (LL' := [_, _, _, _, _]) dX12_layRings_1 rfl (by decide) rfl rfl rfl ?_
  refine S.iconst (pc' := 3) dX12_layRings_2 rfl ?_
  refine S.istore_n (pc' := 4) (LL' := [_, _, _, _, _]) dX12_layRings_3 rfl (by decide) rfl rfl rfl ?_
  exact m0_lay_i h1 5 0 0 _ _ _ (by omega) (by omega) (by omega) rfl (fun _ _ => rfl) (fun y y0 y1 => absurd y1 (by omega))
theorem m0_ring {p : Int} (hc : MS M tp fl g pg vs nt im sh tn) (h1 : g.1 = 0) (hp : fp_rng p) : fp_Ok l G 2 kX12_ring [rV G 177, iV p] M (qI fun z _ => z = A_ring0 p) := by
  obtain ⟨-, hd, -⟩ := hc
  refine fp_Ok.of (r := 0) rfl (Nat.le_of_ble_eq_true rfl) rfl ?_
  unfold A_ring0
  refine S.iload_n (pc' := 1) dX12_ring_0 rfl rfl rfl ?_
  refine S.callSi (pc' := 4) dX12_ring_1 rfl cX12_228 (bk_X12_isOne) rfl (by decide) rfl (Nat.le_of_ble_eq_true rfl) (fun z1 M1 q1 => ?_)
  obtain ⟨b1, rfl⟩ := q1
  refine S.if_ne (pc' := 7) (tgt := 9) dX12_ring_4 (by decide) rfl (by unfold fp_rng; omega) (fun h4 => ?_) (fun h4 => ?_)
  · refine S.aload_n (pc' := 10) dX12_ring_9 rfl rfl rfl ?_
    refine S.callVv (pc' := 13) dX12_ring_10 rfl cX12_324 (m0_lay (by rw [hd.1]; exact h1)) rfl L_177 (by decide) rfl (Nat.le_of_ble_eq_true rfl) (fun M10 q10 => ?_)
    refine S.aload_n (pc' := 14) dX12_ring_13 rfl rfl rfl ?_
    refine S.getR (pc' := 17) dX12_ring_14 rfl fX12_72 L_177 rf_177_38 ?_
    refine S.iload_n (pc' := 18) dX12_ring_17 rfl rfl rfl ?_
    refine S.iald (pc' := 19) dX12_ring_18 rfl L_197 (by omega) (by omega) ?_
    refine S.iret dX12_ring_19 rfl ?_
    rw [(q10 p (by omega) (by omega)).1, if_pos (by omega)]
  · refine S.iconst (pc' := 8) dX12_ring_7 rfl ?_
    refine S.iret dX12_ring_8 rfl ?_
    rw [if_neg (by omega)]
theorem m0_with {p : Int} (hc : MS M tp fl g pg vs nt im sh tn) (h1 : g.1 = 0) (hp : fp_rng p) : fp_Ok l G 2 kX12_with [rV G 177, iV p] M (qI fun z _ => z = A_ring0 p) := by
  obtain ⟨-, hd, -⟩ := hc
  refine fp_Ok.of (r := 0) rfl (Nat.le_of_ble_eq_true rfl) rfl ?_
  unfold A_ring0
  refine S.iload_n (pc' := 1) dX12_with_0 rfl rfl rfl ?_
  refine S.callSi (pc' := 4) dX12_with_1 rfl cX12_228 (bk_X12_isOne) rfl (by decide) rfl (Nat.le_of_ble_eq_true rfl) (fun z1 M1 q1 => ?_)
  obtain ⟨b1, rfl⟩ := q1
  refine S.if_ne (pc' := 7) (tgt := 9) dX12_with_4 (by decide) rfl (by unfold fp_rng; omega) (fun h4 => ?_) (fun h4 => ?_)
  · refine S.aload_n (pc' := 10) dX12_with_9 rfl rfl rfl ?_
    refine S.callVv (pc' := 13) dX12_with_10 rfl cX12_324 (m0_lay (by rw [hd.1]; exact h1)) rfl L_177 (by decide) rfl (Nat.le_of_ble_eq_true rfl) (fun M10 q10 => ?_)
    refine S.aload_n (pc' := 14) dX12_with_13 rfl rfl rfl ?_
    refine S.getR (pc' := 17) dX12_with_14 rfl fX12_75 L_177 rf_177_39 ?_
    refine S.iload_n (pc' := 18) dX12_with_17 rfl rfl rfl ?_
    refine S.iald (pc' := 19) dX12_with_18 rfl L_198 (by omega) (by omega) ?_
    refine S.iret dX12_with_19 rfl ?_
    rw [(q10 p (by omega) (by omega)).2, if_pos (by omega)]
  · refine S.iconst (pc' := 8) dX12_with_7 rfl ?_
    refine S.iret dX12_with_8 rfl ?_
    rw [if_neg (by omega)]
end RG0
