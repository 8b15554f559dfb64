/-! RINGS: the class, round by round; ring, with -/
section RN5
variable {l : Launch} {G : fp_WG} {M N : fp_Mem} {tp : List Int} {fl : Int} {g : aGd} {pg : aPg} {vs : List aVt} {nt : List Int} {im : aIm} {sh : aSh} {tn : Int}
theorem fp_S.wV {d pc : Nat} {Y : fp_MR} {LL : List (Option Value)} {st : List Value} {P P' : fp_Mem → Prop} (h : fp_S l G d Y pc LL st M (qV P)) (hq : ∀ N, P N → P' N) : fp_S l G d Y pc LL st M (qV P') := h.weaken (fun r N q => ⟨q.1, hq N q.2⟩)
theorem rk_take0 {p : Int} (hp : 0 ≤ p ∧ p < 4) (hm : M 136 4 = 0) : fp_Ok l G 1 kX7_takeIfInRing [rV G 136, iV p] M (qE 0 M) := by
  refine fp_Ok.of (r := 3) rfl (Nat.le_of_ble_eq_true rfl) rfl ?_
  refine S.aload_n (pc' := 1) dX7_takeIfInRing_0 rfl rfl rfl ?_
  refine S.iload_n (pc' := 2) dX7_takeIfInRing_1 rfl rfl rfl ?_
  refine S.callVi (pc' := 5) dX7_takeIfInRing_2 rfl cX7_45 (bk_X7_isThere (th := 0) (by omega) hm hp) rfl L_136 (by decide) rfl (Nat.le_of_ble_eq_true rfl) (fun z2 M2 q2 => ?_)
  obtain ⟨b9, rfl⟩ := q2
  have b9 : z2 = 0 := by
    rcases b9 with h | h
    · exact absurd h.2 (by simp)
    · exact h.1
  refine S.if_ne (pc' := 8) (tgt := 10) dX7_takeIfInRing_5 (by decide) rfl (by unfold fp_rng; omega) (fun h5 => ?_) (fun h5 => ?_)
  · exfalso; omega
  · refine S.iconst (pc' := 9) dX7_takeIfInRing_8 rfl ?_
    refine S.iret dX7_takeIfInRing_9 rfl ?_
    exact ⟨rfl, rfl⟩
theorem rk_take {b : Int → Int} {th p : Int} (hp : 0 ≤ p ∧ p < 4) (hb : bOk g b th) (hm : M 136 4 = th) (hpt : ∀ y : Int, 0 ≤ y → y < 4 → M 140 y.toNat = rF g b th y) (hr : ∀ q : Int, 0 ≤ q → q < 4 → M 139 q.toNat = b q) : fp_Ok l G 1 kX7_takeIfInRing [rV G 136, iV p] M (qI fun z O => (¬ rLv g b th p ∧ z = 0 ∧ O = M) ∨ (rLv g b th p ∧ z = 2 ^ p.toNat ∧ O = fp_up (fp_up M 137 p.toNat (b (rF g b th p))) 138 p.toNat (aRgC (rF g b th) p 4 p 0))) := by
  by_cases h0 : th = 0
  · subst h0
    exact (rk_take0 hp hm).toI (Or.inl ⟨fun q => by have := q.1; simp at this, rfl, rfl⟩)
  · refine (rk_X7_takeIfInRing (f := rF g b th) hp hb.1 hm (fun q _ _ => aLk_four hb.1 h0) hpt hr).weaken (fun r X q => ?_)
    obtain ⟨z, e, q⟩ := q
    refine ⟨z, e, ?_⟩
    rcases q with ⟨q1, q2, q3⟩ | ⟨q1, q2, q3, q4⟩
    · refine Or.inl ⟨fun h => ?_, q2, q3⟩
      rcases q1 with q1 | q1
      · exact q1 h.1
      · exact h.2 q1
    · exact Or.inr ⟨⟨q1, q2⟩, q3, q4⟩
theorem fp_or_0 {a : Int} (h : 0 ≤ a) : fp_or a 0 = a := by
  unfold fp_or
  rw [show (0 : Int).toNat = 0 from rfl, Nat.or_zero]
  omega
/-- within a round: those before p have been looked at -/
def rI (g : aGd) (b : Int → Int) (th : Int) (u w : Int → Int) (M N : fp_Mem) (p : Int) : Prop := (∀ a, a ≠ 137 → a ≠ 138 → N a = M a) ∧ ∀ y : Int, 0 ≤ y → y < 4 → N 137 y.toNat = (if y < p ∧ rLv g b th y then b (rF g b th y) else u y) ∧ N 138 y.toNat = (if y < p ∧ rLv g b th y then aRgC (rF g b th) y 4 y 0 else w y)
theorem rI_no {b u w : Int → Int} {th p : Int} (h : rI g b th u w M N p) (hn : ¬ rLv g b th p) : rI g b th u w M N (p + 1) := by
  refine ⟨h.1, fun y y0 y1 => ?_⟩
  obtain ⟨e1, e2⟩ := h.2 y y0 y1
  have : (y < p ∧ rLv g b th y) ↔ (y < p + 1 ∧ rLv g b th y) := by
    constructor
    · rintro ⟨q1, q2⟩; exact ⟨by omega, q2⟩
    · rintro ⟨q1, q2⟩
      refine ⟨?_, q2⟩
      by_cases e : y = p
      · subst e; exact absurd q2 hn
      · omega
  rw [e1, e2]
  simp only [this]
  exact ⟨trivial, trivial⟩
theorem rI_yes {b u w : Int → Int} {th p : Int} (h : rI g b th u w M N p) (hp : 0 ≤ p ∧ p < 4) (hn : rLv g b th p) : rI g b th u w M (fp_up (fp_up N 137 p.toNat (b (rF g b th p))) 138 p.toNat (aRgC (rF g b th) p 4 p 0)) (p + 1) := by
  refine ⟨fun a a1 a2 => by rw [fp_up_ne a2, fp_up_ne a1]; exact h.1 a a1 a2, fun y y0 y1 => ?_⟩
  obtain ⟨e1, e2⟩ := h.2 y y0 y1
  by_cases e : y = p
  · subst e
    rw [fp_up_ne (by decide), fp_up_at, fp_up_at, fp_upf_at, fp_upf_at, if_pos ⟨by omega, hn⟩, if_pos ⟨by omega, hn⟩]
    exact ⟨rfl, rfl⟩
  · have e' : y.toNat ≠ p.toNat := by omega
    rw [fp_up_ne (by decide), fp_up_at, fp_up_at, fp_upf_ne e', fp_upf_ne e', fp_up_ne (by decide), e1, e2]
    have : (y < p ∧ rLv g b th y) ↔ (y < p + 1 ∧ rLv g b th y) := by
      constructor
      · rintro ⟨q1, q2⟩; exact ⟨by omega, q2⟩
      · rintro ⟨q1, q2⟩; exact ⟨by omega, q2⟩
    simp only [this]
    exact ⟨trivial, trivial⟩
theorem form_in {b u w : Int → Int} {th r : Int} {Q : fp_Q} (hb : bOk g b th) (hm : M 136 4 = th) (hpt : ∀ y : Int, 0 ≤ y → y < 4 → M 140 y.toNat = rF g b th y) (hr : ∀ q : Int, 0 ≤ q → q < 4 → M 139 q.toNat = b q)
    (K : ∀ N : fp_Mem, rI g b th u w M N 4 → fp_S l G 3 kX7_form 46 [some (rV G 136), some (rV G 18), some (rV G 22), some (iV r), some (iV (rMk g b th 4)), some (iV 4)] [] N Q) : ∀ (n : Nat) (p : Int) (N : fp_Mem), (4 - p).toNat = n → 0 ≤ p → p ≤ 4 → rI g b th u w M N p →
    fp_S l G 3 kX7_form 23 [some (rV G 136), some (rV G 18), some (rV G 22), some (iV r), some (iV (rMk g b th p.toNat)), some (iV p)] [] N Q := by
  intro n
  induction n with
  | zero =>
    intro p N hn h0 h1 hI
    have : p = 4 := by omega
    subst this
    refine S.iload (pc' := 25) dX7_form_23 rfl rfl ?_
    refine S.iconst (pc' := 26) dX7_form_25 rfl ?_
    refine S.icmp_ge (pc' := 29) (tgt := 46) dX7_form_26 (by decide) rfl (by unfold fp_rng; omega) (by unfold fp_rng; omega) (fun h26 => ?_) (fun h26 => ?_)
    · exact K _ hI
    · exfalso; omega
  | succ n ih =>
    intro p N hn h0 h1 hI
    have hM : N 136 = M 136 := hI.1 136 (by decide) (by decide)
    have hM9 : N 139 = M 139 := hI.1 139 (by decide) (by decide)
    have hM0 : N 140 = M 140 := hI.1 140 (by decide) (by decide)
    have hsu := rMk_succ (g := g) (b := b) (th := th) h0
    refine S.iload (pc' := 25) dX7_form_23 rfl rfl ?_
    refine S.iconst (pc' := 26) dX7_form_25 rfl ?_
    refine S.icmp_ge (pc' := 29) (tgt := 46) dX7_form_26 (by decide) rfl (by unfold fp_rng; omega) (by unfold fp_rng; omega) (fun h26 => ?_) (fun h26 => ?_)
    · exfalso; omega
    · refine S.iload (pc' := 31) dX7_form_29 rfl rfl ?_
      refine S.aload_n (pc' := 32) dX7_form_31 rfl rfl rfl ?_
      refine S.iload (pc' := 34) dX7_form_32 rfl rfl ?_
      refine S.callVi (pc' := 37) dX7_form_34 rfl cX7_32 (rk_take (b := b) (th := th) (p := p) (by omega) hb (by rw [hM]; exact hm) (fun y y0 y1 => by rw [hM0]; exact hpt y y0 y1) (fun y y0 y1 => by rw [hM9]; exact hr y y0 y1)) rfl L_136 (by decide) rfl (Nat.le_of_ble_eq_true rfl) (fun z34 M34 q34 => ?_)
      have e34 : 0 ≤ z34 ∧ fp_or (rMk g b th p.toNat) z34 = rMk g b th (p + 1).toNat ∧ rI g b th u w M M34 (p + 1) := by
        rcases q34 with ⟨c1, c2, c3⟩ | ⟨c1, c2, c3⟩
        · rw [if_neg c1] at hsu
          subst c2; subst c3
          exact ⟨by omega, by rw [hsu]; exact fp_or_0 (rMk_nn _ _ _ _), rI_no hI c1⟩
        · rw [if_pos c1] at hsu
          subst c2; subst c3
          exact ⟨Int.le_of_lt (Int.pow_pos (by decide)), hsu.symm, rI_yes hI (by omega) c1⟩
      refine S.ior (pc' := 38) dX7_form_37 rfl (show _ = Int32.ofInt (rMk g b th (p + 1).toNat) by rw [← e34.2.1]; exact fp_ior (rMk_nn _ _ _ _) e34.1) ?_
      refine S.istore (pc' := 40) (LL' := [_, _, _, _, _, _]) dX7_form_38 rfl (by decide) rfl rfl ?_
      refine S.iinc (pc' := 43) (LL' := [_, _, _, _, _, _]) dX7_form_40 rfl (by decide) rfl rfl rfl ?_
      refine S.goto (pc' := 23) dX7_form_43 (by decide) ?_
      exact ih (p + 1) _ (by omega) (by omega) (by omega) e34.2.2
/-- between two rounds -/
def rJ (b : Int → Int) (M N : fp_Mem) (x : rSt) : Prop := (∀ a, (a < 136 ∨ 140 < a) → N a = M a) ∧ N 136 4 = x.1 ∧ ∀ y : Int, 0 ≤ y → y < 4 → N 137 y.toNat = x.2.1 y ∧ N 138 y.toNat = x.2.2 y ∧ N 139 y.toNat = b y
theorem form_tail {b : Int → Int} {th r : Int} {Q : fp_Q} (hb : bOk g b th) (hm : N 136 4 = th) (K : ∀ O : fp_Mem, (∀ a, a ≠ 136 → O a = N a) → O 136 4 = aOut th (rMk g b th 4) → fp_S l G 3 kX7_form 7 [some (rV G 136), some (rV G 18), some (rV G 22), some (iV (r + 1)), some (iV (rMk g b th 4)), some (iV 4)] [] O Q) : fp_S l G 3 kX7_form 46 [some (rV G 136), some (rV G 18), some (rV G 22), some (iV r), some (iV (rMk g b th 4)), some (iV 4)] [] N Q := by
  have h16 : 0 ≤ rMk g b th 4 ∧ rMk g b th 4 < 16 := ⟨rMk_nn _ _ _ _, rMk_lt _ _ _ _ (Nat.le_refl _)⟩
  refine S.aload_n (pc' := 47) dX7_form_46 rfl rfl rfl ?_
  refine S.dup (pc' := 48) dX7_form_47 rfl rfl ?_
  refine S.getI (pc' := 51) dX7_form_48 rfl fX7_36 L_136 ?_
  refine S.iload (pc' := 53) dX7_form_51 rfl rfl ?_
  refine S.iconst (pc' := 54) dX7_form_53 rfl ?_
  refine S.ixor (pc' := 55) dX7_form_54 rfl (aOut_x h16) ?_
  refine S.iand (pc' := 56) dX7_form_55 rfl (show _ = Int32.ofInt (aOut th (rMk g b th 4)) by rw [hm]; exact aOut_a hb.1 h16) ?_
  refine S.putI (pc' := 59) dX7_form_56 rfl fX7_36 L_136 ?_
  refine S.iinc (pc' := 62) (LL' := [_, _, _, _, _, _]) dX7_form_59 rfl (by decide) rfl rfl rfl ?_
  refine S.goto (pc' := 7) dX7_form_62 (by decide) ?_
  exact K _ (fun a ha => by simp [fp_upM, ha]) (by simp [fp_upM, fp_upf])
theorem form_out {b : Int → Int} (hd : gdIs M 18 g) (hg : gOk g) : ∀ (n : Nat) (r : Int) (N : fp_Mem) (x : rSt) (o4 o5 : Option Value), (4 - r).toNat = n → 0 ≤ r → r ≤ 4 → bOk g b x.1 → rJ b M N x →
    fp_S l G 3 kX7_form 7 [some (rV G 136), some (rV G 18), some (rV G 22), some (iV r), o4, o5] [] N (qV fun O => rJ b M O (rIt g b n x)) := by
  intro n
  induction n with
  | zero =>
    intro r N x o4 o5 hn h0 h1 hb hJ
    refine S.iload_n (pc' := 8) dX7_form_7 rfl rfl rfl ?_
    refine S.iconst (pc' := 9) dX7_form_8 rfl ?_
    refine S.icmp_ge (pc' := 12) (tgt := 65) dX7_form_9 (by decide) rfl (by unfold fp_rng; omega) (by unfold fp_rng; omega) (fun h9 => ?_) (fun h9 => ?_)
    · refine S.vret dX7_form_65 rfl ?_
      exact hJ
    · exfalso; omega
  | succ n ih =>
    intro r N x o4 o5 hn h0 h1 hb hJ
    obtain ⟨i1, i2, i3⟩ := hJ
    have hdN : gdIs N 18 g := hd.kept (fun a q1 q2 => i1 a (by omega))
    refine S.iload_n (pc' := 8) dX7_form_7 rfl rfl rfl ?_
    refine S.iconst (pc' := 9) dX7_form_8 rfl ?_
    refine S.icmp_ge (pc' := 12) (tgt := 65) dX7_form_9 (by decide) rfl (by unfold fp_rng; omega) (by unfold fp_rng; omega) (fun h9 => ?_) (fun h9 => ?_)
    · exfalso; omega
    · refine S.aload_n (pc' := 13) dX7_form_12 rfl rfl rfl ?_
      refine S.aload_n (pc' := 14) dX7_form_13 rfl rfl rfl ?_
      refine S.callVv (pc' := 17) dX7_form_14 rfl cX7_28 (rk_X7_point (b := b) (th := x.1) hb hg hdN i2 (fun q q0 q1 => (i3 q q0 q1).2.2)) rfl L_136 (by decide) rfl (Nat.le_of_ble_eq_true rfl) (fun M14 q14 => ?_)
      obtain ⟨j1, j2⟩ := q14
      refine S.iconst (pc' := 18) dX7_form_17 rfl ?_
      refine S.istore (pc' := 20) (LL' := [_, _, _, _, _, _]) dX7_form_18 rfl (by decide) rfl rfl ?_
      refine S.iconst (pc' := 21) dX7_form_20 rfl ?_
      refine S.istore (pc' := 23) (LL' := [_, _, _, _, _, _]) dX7_form_21 rfl (by decide) rfl rfl ?_
      refine form_in (u := x.2.1) (w := x.2.2) (M := M14) hb (by rw [j1 136 (by decide)]; exact i2) j2 (fun q q0 q1 => by rw [j1 139 (by decide)]; exact (i3 q q0 q1).2.2) (fun O hO => ?_) 4 0 _ (by omega) (by omega) (by omega) ⟨fun a _ _ => rfl, fun y y0 y1 => ?_⟩
      · refine form_tail hb (by rw [hO.1 136 (by decide) (by decide), j1 136 (by decide)]; exact i2) (fun O2 k1 k2 => ih (r + 1) O2 (rRd g b x) _ _ (by omega) (by omega) (by omega) (rRd_bOk hb) ⟨fun a ha => ?_, k2, fun y y0 y1 => ?_⟩)
        · rw [k1 a (by omega), hO.1 a (by omega) (by omega), j1 a (by omega)]; exact i1 a ha
        · obtain ⟨e1, e2⟩ := hO.2 y y0 y1
          rw [k1 137 (by decide), k1 138 (by decide), k1 139 (by decide), e1, e2, hO.1 139 (by decide) (by decide), j1 139 (by decide)]
          refine ⟨?_, ?_, (i3 y y0 y1).2.2⟩
          · show _ = if rLv g b x.1 y then b (rF g b x.1 y) else x.2.1 y
            by_cases e : rLv g b x.1 y
            · rw [if_pos ⟨y1, e⟩, if_pos e]
            · rw [if_neg (fun q => e q.2), if_neg e]
          · show _ = if rLv g b x.1 y then aRgC (rF g b x.1) y 4 y 0 else x.2.2 y
            by_cases e : rLv g b x.1 y
            · rw [if_pos ⟨y1, e⟩, if_pos e]
            · rw [if_neg (fun q => e q.2), if_neg e]
      · rw [j1 137 (by decide), j1 138 (by decide), if_neg (by omega), if_neg (by omega)]
        exact ⟨(i3 y y0 y1).1, (i3 y y0 y1).2.1⟩
theorem rk_X7_form (hc : clIs M 22 g pg) (hd : gdIs M 18 g) (hg : gOk g) : fp_Ok l G 3 kX7_form [rV G 136, rV G 18, rV G 22] M (qV fun O => rJ (aLeast g pg) M O (rIt g (aLeast g pg) 4 (r0x g pg))) := by
  refine fp_Ok.of (r := 3) rfl (Nat.le_of_ble_eq_true rfl) rfl ?_
  refine S.aload_n (pc' := 1) dX7_form_0 rfl rfl rfl ?_
  refine S.aload_n (pc' := 2) dX7_form_1 rfl rfl rfl ?_
  refine S.callVv (pc' := 5) dX7_form_2 rfl cX7_24 (rk_X7_gather hc hg) rfl L_136 (by decide) rfl (Nat.le_of_ble_eq_true rfl) (fun M2 q2 => ?_)
  obtain ⟨j1, j2, j3⟩ := q2
  refine S.iconst (pc' := 6) dX7_form_5 rfl ?_
  refine S.istore_n (pc' := 7) (LL' := [_, _, _, _, _, _]) dX7_form_6 rfl (by decide) rfl rfl rfl ?_
  refine (form_out (M := M2) (hd.kept (fun a q1 q2 => j1 a (by omega))) hg 4 0 _ (r0x g pg) _ _ (by omega) (by omega) (by omega) (aTh_bOk hg) ⟨fun a ha => rfl, j2, j3⟩).wV (fun O hO => ⟨fun a ha => ?_, hO.2⟩)
  rw [hO.1 a (by omega)]; exact j1 a (by omega)
theorem cc_ring {p : Int} (hc : CS M tp fl g pg vs nt im sh tn) (ho : OK g pg vs nt im sh) (hp : fp_rng p) : fp_Ok l G 4 kX11_ring [rV G 0, iV p] M (qI fun z N => z = aRing g pg p ∧ CS N tp fl g pg vs nt im sh tn ∧ frC M N) := by
  have hcs := hc
  obtain ⟨-, hd, hcl, hv, -⟩ := hc
  obtain ⟨hg, hP, -⟩ := ho
  refine fp_Ok.of (r := 0) rfl (Nat.le_of_ble_eq_true rfl) rfl ?_
  unfold aRing
  refine S.iload_n (pc' := 1) dX11_ring_0 rfl rfl rfl ?_
  refine S.callSi (pc' := 4) dX11_ring_1 rfl cX11_181 (bk_X11_isOne) rfl (by decide) rfl (Nat.le_of_ble_eq_true rfl) (fun z1 M1 q1 => ?_)
  obtain ⟨b1, rfl⟩ := q1
  refine S.if_ne (pc' := 7) (tgt := 9) dX11_ring_4 (by decide) rfl (by unfold fp_rng; omega) (fun h4 => ?_) (fun h4 => ?_)
  · refine S.aload_n (pc' := 10) dX11_ring_9 rfl rfl rfl ?_
    refine S.getR (pc' := 13) dX11_ring_10 rfl fX11_72 L_0 rf_0_10 ?_
    refine S.aload_n (pc' := 14) dX11_ring_13 rfl rfl rfl ?_
    refine S.getR (pc' := 17) dX11_ring_14 rfl fX11_23 L_0 rf_0_3 ?_
    refine S.aload_n (pc' := 18) dX11_ring_17 rfl rfl rfl ?_
    refine S.getR (pc' := 21) dX11_ring_18 rfl fX11_30 L_0 rf_0_4 ?_
    refine S.callVv (pc' := 24) dX11_ring_21 rfl cX11_303 (rk_X7_form hcl hd hg) rfl L_136 (by decide) rfl (Nat.le_of_ble_eq_true rfl) (fun M21 q21 => ?_)
    refine S.aload_n (pc' := 25) dX11_ring_24 rfl rfl rfl ?_
    refine S.getR (pc' := 28) dX11_ring_25 rfl fX11_72 L_0 rf_0_10 ?_
    refine S.getR (pc' := 31) dX11_ring_28 rfl fX11_307 L_136 rf_136_0 ?_
    refine S.iload_n (pc' := 32) dX11_ring_31 rfl rfl rfl ?_
    refine S.iald (pc' := 33) dX11_ring_32 rfl L_137 (by omega) (by omega) ?_
    refine S.iret dX11_ring_33 rfl ?_
    refine ⟨?_, hcs.kept (fun a ha => q21.1 a (by omega)), fun c hc => q21.1 c (by omega)⟩
    rw [(q21.2.2 p (by omega) (by omega)).1, if_pos (by omega)]
  · refine S.iconst (pc' := 8) dX11_ring_7 rfl ?_
    refine S.iret dX11_ring_8 rfl ?_
    exact ⟨by rw [if_neg (by omega)], hcs, frC.refl _⟩
theorem cc_with {p : Int} (hc : CS M tp fl g pg vs nt im sh tn) (ho : OK g pg vs nt im sh) (hp : fp_rng p) : fp_Ok l G 4 kX11_with [rV G 0, iV p] M (qI fun z N => z = aWith g pg p ∧ CS N tp fl g pg vs nt im sh tn ∧ frC M N) := by
  have hcs := hc
  obtain ⟨-, hd, hcl, hv, -⟩ := hc
  obtain ⟨hg, hP, -⟩ := ho
  refine fp_Ok.of (r := 0) rfl (Nat.le_of_ble_eq_true rfl) rfl ?_
  unfold aWith
  refine S.iload_n (pc' := 1) dX11_with_0 rfl rfl rfl ?_
  refine S.callSi (pc' := 4) dX11_with_1 rfl cX11_181 (bk_X11_isOne) rfl (by decide) rfl (Nat.le_of_ble_eq_true rfl) (fun z1 M1 q1 => ?_)
  obtain ⟨b1, rfl⟩ := q1
  refine S.if_ne (pc' := 7) (tgt := 9) dX11_with_4 (by decide) rfl (by unfold fp_rng; omega) (fun h4 => ?_) (fun h4 => ?_)
  · refine S.aload_n (pc' := 10) dX11_with_9 rfl rfl rfl ?_
    refine S.getR (pc' := 13) dX11_with_10 rfl fX11_72 L_0 rf_0_10 ?_
    refine S.aload_n (pc' := 14) dX11_with_13 rfl rfl rfl ?_
    refine S.getR (pc' := 17) dX11_with_14 rfl fX11_23 L_0 rf_0_3 ?_
    refine S.aload_n (pc' := 18) dX11_with_17 rfl rfl rfl ?_
    refine S.getR (pc' := 21) dX11_with_18 rfl fX11_30 L_0 rf_0_4 ?_
    refine S.callVv (pc' := 24) dX11_with_21 rfl cX11_303 (rk_X7_form hcl hd hg) rfl L_136 (by decide) rfl (Nat.le_of_ble_eq_true rfl) (fun M21 q21 => ?_)
    refine S.aload_n (pc' := 25) dX11_with_24 rfl rfl rfl ?_
    refine S.getR (pc' := 28) dX11_with_25 rfl fX11_72 L_0 rf_0_10 ?_
    refine S.getR (pc' := 31) dX11_with_28 rfl fX11_310 L_136 rf_136_1 ?_
    refine S.iload_n (pc' := 32) dX11_with_31 rfl rfl rfl ?_
    refine S.iald (pc' := 33) dX11_with_32 rfl L_138 (by omega) (by omega) ?_
    refine S.iret dX11_with_33 rfl ?_
    refine ⟨?_, hcs.kept (fun a ha => q21.1 a (by omega)), fun c hc => q21.1 c (by omega)⟩
    rw [(q21.2.2 p (by omega) (by omega)).2.1, if_pos (by omega)]
  · refine S.iconst (pc' := 8) dX11_with_7 rfl ?_
    refine S.iret dX11_with_8 rfl ?_
    exact ⟨by rw [if_neg (by omega)], hcs, frC.refl _⟩
end RN5
