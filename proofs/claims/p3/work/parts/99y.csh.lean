/-! CHANCES, the class: what the rows of the visits from k on give; the same as all rows together -/
def spS (g : aGd) (vs : List aVt) (x t : Int) : Nat → Nat → Int → aPg → Int
  | 0, _, w, pg => if aGv g pg x = t ∧ 0 < w then w else 0
  | n + 1, k, w, pg => spS g vs x t n (k + 1) (w * g.2.2.1) (aHapI g pg vs (k : Int)).2 + spS g vs x t n (k + 1) (w * (10 - g.2.2.1)) pg
theorem spS_zero {g : aGd} {vs : List aVt} {x t : Int} : ∀ (n k : Nat) (pg : aPg), spS g vs x t n k 0 pg = 0
  | 0, k, pg => by show (if aGv g pg x = t ∧ (0 : Int) < 0 then (0 : Int) else 0) = 0; split <;> rfl
  | n + 1, k, pg => by rw [spS, Int.zero_mul, Int.zero_mul, spS_zero n, spS_zero n]; rfl
def spT (g : aGd) (pg : aPg) (vs : List aVt) (x t : Int) (n k a : Nat) : Nat → Int
  | 0 => 0
  | m + 1 => spT g pg vs x t n k a m + spS g vs x t n k (chI g pg vs ((a + m : Nat) : Int) k).1 (chI g pg vs ((a + m : Nat) : Int) k).2
theorem spT_add {g : aGd} {pg : aPg} {vs : List aVt} {x t : Int} {n k a : Nat} (p : Nat) : ∀ q, spT g pg vs x t n k a (p + q) = spT g pg vs x t n k a p + spT g pg vs x t n k (a + p) q
  | 0 => by simp [spT]
  | q + 1 => by
    rw [show p + (q + 1) = (p + q) + 1 by omega, spT, spT_add p q, spT, show a + (p + q) = a + p + q by omega]
    omega
theorem spT_two {g : aGd} {pg : aPg} {vs : List aVt} {x t : Int} (hg : gOk g) (hP : pgOk g pg) (hv : vsOk g vs) (n k : Nat) : ∀ q, q ≤ 2 ^ k → spT g pg vs x t n (k + 1) 0 q + spT g pg vs x t n (k + 1) (2 ^ k) q = spT g pg vs x t (n + 1) k 0 q
  | 0, _ => rfl
  | q + 1, h => by
    have ih := spT_two (x := x) (t := t) hg hP hv n k q (by omega)
    have hq : q < 2 ^ k := by omega
    rw [spT, spT, spT, ← ih]
    have e1 : chI g pg vs ((2 ^ k + q : Nat) : Int) k = chI g pg vs ((0 + q : Nat) : Int) k := chI_bits k (fun i hi => by rw [Int.toNat_natCast, Int.toNat_natCast, Nat.zero_add]; exact Nat.testBit_two_pow_add_gt hi q)
    have b1 : ((2 ^ k + q : Nat) : Int).toNat.testBit k = true := by rw [Int.toNat_natCast, Nat.testBit_two_pow_add_eq, Nat.testBit_lt_two_pow hq]; rfl
    have b0 : ¬ ((0 + q : Nat) : Int).toNat.testBit k = true := by rw [Int.toNat_natCast, Nat.zero_add, Nat.testBit_lt_two_pow hq]; decide
    have hw := (chI_in (m := ((0 + q : Nat) : Int)) hg hP hv k).1.1
    have key : spS g vs x t n (k + 1) (chI g pg vs ((0 + q : Nat) : Int) (k + 1)).1 (chI g pg vs ((0 + q : Nat) : Int) (k + 1)).2 + spS g vs x t n (k + 1) (chI g pg vs ((2 ^ k + q : Nat) : Int) (k + 1)).1 (chI g pg vs ((2 ^ k + q : Nat) : Int) (k + 1)).2 = spS g vs x t (n + 1) k (chI g pg vs ((0 + q : Nat) : Int) k).1 (chI g pg vs ((0 + q : Nat) : Int) k).2 := by
      rw [chI, chI, e1, if_neg b0, if_pos b1]
      generalize chI g pg vs ((0 + q : Nat) : Int) k = c at *
      by_cases h0 : c.1 ≤ 0
      · rw [if_pos h0, if_pos h0, show c.1 = 0 by omega, spS_zero, spS_zero]; rfl
      · rw [if_neg h0, if_neg h0, spS]
        dsimp only
        omega
    omega
theorem spT_all {g : aGd} {pg : aPg} {vs : List aVt} {x t : Int} (hg : gOk g) (hP : pgOk g pg) (hv : vsOk g vs) : ∀ (k n : Nat), spT g pg vs x t n k 0 (2 ^ k) = spS g vs x t (n + k) 0 1 pg
  | 0, n => by
    show (0 : Int) + spS g vs x t n 0 (chI g pg vs ((0 + 0 : Nat) : Int) 0).1 (chI g pg vs ((0 + 0 : Nat) : Int) 0).2 = _
    rw [Int.zero_add]
    rfl
  | k + 1, n => by
    have ih := spT_all (x := x) (t := t) hg hP hv k (n + 1)
    rw [show 2 ^ (k + 1) = 2 ^ k + 2 ^ k by omega, spT_add, Nat.zero_add, spT_two hg hP hv n k _ (Nat.le_refl _), ih, show n + 1 + k = n + (k + 1) by omega]
theorem spT_end {g : aGd} {pg : aPg} {vs : List aVt} {x t : Int} : ∀ q, spT g pg vs x t 0 vs.length 0 q = chF g pg vs x q t
  | 0 => rfl
  | q + 1 => by
    rw [spT, chF, spT_end q, Nat.zero_add]
    rfl
theorem spS_chF {g : aGd} {pg : aPg} {vs : List aVt} {x t : Int} (hg : gOk g) (hP : pgOk g pg) (hv : vsOk g vs) : spS g vs x t vs.length 0 1 pg = chF g pg vs x (2 ^ vs.length) t := by
  rw [← spT_end, spT_all hg hP hv vs.length 0, Nat.zero_add]
/-- only rows that the state does not speak of differ, the class -/
def frZ (M N : fp_Mem) : Prop := ∀ a, (a < 34 ∨ 142 < a) → N a = M a
theorem frZ.refl (M : fp_Mem) : frZ M M := fun _ _ => rfl
theorem frZ.trans {M N O : fp_Mem} (h1 : frZ M N) (h2 : frZ N O) : frZ M O := fun a ha => (h2 a ha).trans (h1 a ha)
theorem frZ.c {M N : fp_Mem} (h : frZ M N) : frC M N := fun c hc => h c (by omega)
section CSH
variable {l : Launch} {G : fp_WG} {M N : fp_Mem} {tp : List Int} {fl : Int} {g : aGd} {pg : aPg} {vs : List aVt} {nt : List Int} {im : aIm} {sh : aSh} {tn : Int}
theorem CS.scz (h : CS M tp fl g pg vs nt im sh tn) (e : frZ M N) : CS N tp fl g pg vs nt im sh tn := h.kept (fun a ha => e a (by omega))
theorem rk_X8_spread {x : Int} (hg : gOk g) (hvo : vsOk g vs) (hl : vs.length ≤ 10) (hx : 0 ≤ x ∧ x < g.2.1) : ∀ (n : Nat) (i w : Int) (pg : aPg) (M : fp_Mem), 0 ≤ i → i + n = vs.length → 0 ≤ w ∧ w ≤ 10 ^ i.toNat → pgOk g pg → clIs M (41 + 5 * i.toNat) g pg → gdIs M 18 g → vsIs M 27 vs →
    fp_Ok l G (n + 3) kX8_spread [rV G 34, rV G 18, rV G 27, iV x, iV i, jV w] M (qV fun N => (∀ t : Int, 0 ≤ t → t < 10 → N 40 t.toNat = M 40 t.toNat + spS g vs x t n i.toNat w pg) ∧ ∀ a, (a < 40 ∨ (40 < a ∧ a < 46 + 5 * i.toNat) ∨ 105 < a) → N a = M a) := by
  have hc := hg.2.2.1
  have hg1 := hg.1
  intro n
  induction n with
  | zero =>
    intro i w pg M i0 hi hw hP hcl hd hv
    have w2 := pow10_le (show i.toNat ≤ 10 by omega)
    have hl1 := hv.1
    have hgv := aGv_in hP hg hx
    have ho := stg_o i0 (show i < 13 by omega)
    refine fp_Ok.of (r := 1) rfl (Nat.le_of_ble_eq_true rfl) rfl ?_
    refine S.lload (pc' := 2) dX8_spread_0 rfl rfl ?_
    refine S.lconst (pc' := 3) (w := 0) dX8_spread_2 rfl rfl ?_
    refine S.lcmp (pc' := 4) dX8_spread_3 rfl (by unfold fp_lng; omega) (by unfold fp_lng; omega) ?_
    refine S.if_ne (pc' := 7) (tgt := 8) dX8_spread_4 (by decide) rfl (by unfold fp_rng; omega) (fun h4 => ?_) (fun h4 => ?_)
    · refine S.iload (pc' := 10) dX8_spread_8 rfl rfl ?_
      refine S.bipush (pc' := 12) dX8_spread_10 rfl (by decide) ?_
      refine S.icmp_ge (pc' := 15) (tgt := 24) dX8_spread_12 (by decide) rfl (by unfold fp_rng; omega) (by unfold fp_rng; omega) (fun h12 => ?_) (fun h12 => ?_)
      · refine S.aload_n (pc' := 25) dX8_spread_24 rfl rfl rfl ?_
        refine S.getR (pc' := 28) dX8_spread_25 rfl fX8_11 L_34 rf_34_0 ?_
        refine S.iload (pc' := 30) dX8_spread_28 rfl rfl ?_
        refine S.aald (pc' := 31) dX8_spread_30 rfl L_35 (by decide) (by decide) (by omega) (by omega) (stg_r (by omega) (by omega)) ?_
        refine S.aload_n (pc' := 32) dX8_spread_31 rfl rfl rfl ?_
        refine S.iload_n (pc' := 33) dX8_spread_32 rfl rfl rfl ?_
        refine S.callVe (pc' := 36) dX8_spread_33 rfl cX8_63 (rk_X5_gives (g := g) (pg := pg) ho gd18) rfl (pl_lay (stg_o (by omega) (by omega))) (by omega) rfl (Nat.le_of_ble_eq_true rfl) ?_
        refine S.istore (pc' := 38) (LL' := [_, _, _, _, _, _, _, _]) dX8_spread_36 rfl (by decide) rfl rfl ?_
        refine S.iload (pc' := 40) dX8_spread_38 rfl rfl ?_
        refine S.bipush (pc' := 42) dX8_spread_40 rfl (by decide) ?_
        refine S.icmp_eq (pc' := 45) (tgt := 57) dX8_spread_42 (by decide) rfl (by unfold fp_rng; omega) (by unfold fp_rng; omega) (fun h42 => ?_) (fun h42 => ?_)
        · refine S.vret dX8_spread_57 rfl ?_
          first
          | (refine ⟨fun t t0 t1 => ?_, fun _ _ => rfl⟩; show M 40 t.toNat = M 40 t.toNat + (if aGv g pg x = t ∧ 0 < w then w else 0); rw [if_neg (fun q => by omega)]; omega)
          | (refine ⟨fun t t0 t1 => ?_, fun a ha => fp_up_ne (by omega)⟩
             show _ = M 40 t.toNat + (if aGv g pg x = t ∧ 0 < w then w else 0)
             rw [fp_up_at]
             by_cases e : aGv g pg x = t
             · rw [if_pos ⟨e, by omega⟩, ← e, fp_upf_at]
             · rw [if_neg (fun q => e q.1), fp_upf_ne (by omega)]; omega)
        · refine S.aload_n (pc' := 46) dX8_spread_45 rfl rfl rfl ?_
          refine S.getR (pc' := 49) dX8_spread_46 rfl fX8_31 L_34 rf_34_6 ?_
          refine S.iload (pc' := 51) dX8_spread_49 rfl rfl ?_
          refine S.dup2 (pc' := 52) dX8_spread_51 rfl rfl rfl ?_
          refine S.lald (pc' := 53) dX8_spread_52 rfl L_40 (by omega) (by omega) ?_
          refine S.lload (pc' := 55) dX8_spread_53 rfl rfl ?_
          refine S.ladd (pc' := 56) dX8_spread_55 rfl ?_
          refine S.last (pc' := 57) dX8_spread_56 rfl L_40 (by omega) (by omega) ?_
          refine S.vret dX8_spread_57 rfl ?_
          first
          | (refine ⟨fun t t0 t1 => ?_, fun _ _ => rfl⟩; show M 40 t.toNat = M 40 t.toNat + (if aGv g pg x = t ∧ 0 < w then w else 0); rw [if_neg (fun q => by omega)]; omega)
          | (refine ⟨fun t t0 t1 => ?_, fun a ha => fp_up_ne (by omega)⟩
             show _ = M 40 t.toNat + (if aGv g pg x = t ∧ 0 < w then w else 0)
             rw [fp_up_at]
             by_cases e : aGv g pg x = t
             · rw [if_pos ⟨e, by omega⟩, ← e, fp_upf_at]
             · rw [if_neg (fun q => e q.1), fp_upf_ne (by omega)]; omega)
      · refine S.iload (pc' := 17) dX8_spread_15 rfl rfl ?_
        refine S.aload_n (pc' := 18) dX8_spread_17 rfl rfl rfl ?_
        refine S.getI (pc' := 21) dX8_spread_18 rfl fX8_80 (vs_lay vs27) ?_
        refine S.icmp_lt (pc' := 24) (tgt := 58) dX8_spread_21 (by decide) rfl (by unfold fp_rng; omega) (by unfold fp_rng; omega) (fun h21 => ?_) (fun h21 => ?_)
        · exfalso; omega
        · refine S.aload_n (pc' := 25) dX8_spread_24 rfl rfl rfl ?_
          refine S.getR (pc' := 28) dX8_spread_25 rfl fX8_11 L_34 rf_34_0 ?_
          refine S.iload (pc' := 30) dX8_spread_28 rfl rfl ?_
          refine S.aald (pc' := 31) dX8_spread_30 rfl L_35 (by decide) (by decide) (by omega) (by omega) (stg_r (by omega) (by omega)) ?_
          refine S.aload_n (pc' := 32) dX8_spread_31 rfl rfl rfl ?_
          refine S.iload_n (pc' := 33) dX8_spread_32 rfl rfl rfl ?_
          refine S.callVe (pc' := 36) dX8_spread_33 rfl cX8_63 (rk_X5_gives (g := g) (pg := pg) ho gd18) rfl (pl_lay (stg_o (by omega) (by omega))) (by omega) rfl (Nat.le_of_ble_eq_true rfl) ?_
          refine S.istore (pc' := 38) (LL' := [_, _, _, _, _, _, _, _]) dX8_spread_36 rfl (by decide) rfl rfl ?_
          refine S.iload (pc' := 40) dX8_spread_38 rfl rfl ?_
          refine S.bipush (pc' := 42) dX8_spread_40 rfl (by decide) ?_
          refine S.icmp_eq (pc' := 45) (tgt := 57) dX8_spread_42 (by decide) rfl (by unfold fp_rng; omega) (by unfold fp_rng; omega) (fun h42 => ?_) (fun h42 => ?_)
          · refine S.vret dX8_spread_57 rfl ?_
            first
            | (refine ⟨fun t t0 t1 => ?_, fun _ _ => rfl⟩; show M 40 t.toNat = M 40 t.toNat + (if aGv g pg x = t ∧ 0 < w then w else 0); rw [if_neg (fun q => by omega)]; omega)
            | (refine ⟨fun t t0 t1 => ?_, fun a ha => fp_up_ne (by omega)⟩
               show _ = M 40 t.toNat + (if aGv g pg x = t ∧ 0 < w then w else 0)
               rw [fp_up_at]
               by_cases e : aGv g pg x = t
               · rw [if_pos ⟨e, by omega⟩, ← e, fp_upf_at]
               · rw [if_neg (fun q => e q.1), fp_upf_ne (by omega)]; omega)
          · refine S.aload_n (pc' := 46) dX8_spread_45 rfl rfl rfl ?_
            refine S.getR (pc' := 49) dX8_spread_46 rfl fX8_31 L_34 rf_34_6 ?_
            refine S.iload (pc' := 51) dX8_spread_49 rfl rfl ?_
            refine S.dup2 (pc' := 52) dX8_spread_51 rfl rfl rfl ?_
            refine S.lald (pc' := 53) dX8_spread_52 rfl L_40 (by omega) (by omega) ?_
            refine S.lload (pc' := 55) dX8_spread_53 rfl rfl ?_
            refine S.ladd (pc' := 56) dX8_spread_55 rfl ?_
            refine S.last (pc' := 57) dX8_spread_56 rfl L_40 (by omega) (by omega) ?_
            refine S.vret dX8_spread_57 rfl ?_
            first
            | (refine ⟨fun t t0 t1 => ?_, fun _ _ => rfl⟩; show M 40 t.toNat = M 40 t.toNat + (if aGv g pg x = t ∧ 0 < w then w else 0); rw [if_neg (fun q => by omega)]; omega)
            | (refine ⟨fun t t0 t1 => ?_, fun a ha => fp_up_ne (by omega)⟩
               show _ = M 40 t.toNat + (if aGv g pg x = t ∧ 0 < w then w else 0)
               rw [fp_up_at]
               by_cases e : aGv g pg x = t
               · rw [if_pos ⟨e, by omega⟩, ← e, fp_upf_at]
               · rw [if_neg (fun q => e q.1), fp_upf_ne (by omega)]; omega)
    · refine S.vret dX8_spread_7 rfl ?_
      have hw0 : w = 0 := by omega
      subst hw0
      exact ⟨fun t t0 t1 => by rw [spS_zero]; omega, fun _ _ => rfl⟩
  | succ n ih =>
    intro i w pg M i0 hi hw hP hcl hd hv
    have w2 := pow10_le (show i.toNat ≤ 10 by omega)
    have hl1 := hv.1
    have ho := stg_o i0 (show i < 13 by omega)
    have ho1 := stg_o (show 0 ≤ i + 1 by omega) (show i + 1 < 13 by omega)
    have hP1 := aHapI_ok (i := i) hg hP hvo
    have ep : (10 : Int) ^ (i + 1).toNat = 10 ^ i.toNat * 10 := by rw [show (i + 1).toNat = i.toNat + 1 by omega]; exact Int.pow_succ 10 _
    have hmul : ∀ c : Int, 0 ≤ c → c ≤ 10 → 0 ≤ w * c ∧ w * c ≤ 10 ^ (i + 1).toNat := fun c c0 c1 => by rw [ep]; exact ⟨Int.mul_nonneg hw.1 c0, Int.mul_le_mul hw.2 c1 c0 (by omega)⟩
    have es : ∀ t, spS g vs x t (n + 1) i.toNat w pg = spS g vs x t n (i + 1).toNat (w * g.2.2.1) (aHapI g pg vs i).2 + spS g vs x t n (i + 1).toNat (w * (10 - g.2.2.1)) pg := fun t => by rw [spS, show ((i.toNat : Nat) : Int) = i by omega, show (i + 1).toNat = i.toNat + 1 by omega]
    refine fp_Ok.of (r := 1) rfl (Nat.le_of_ble_eq_true rfl) rfl ?_
    refine S.lload (pc' := 2) dX8_spread_0 rfl rfl ?_
    refine S.lconst (pc' := 3) (w := 0) dX8_spread_2 rfl rfl ?_
    refine S.lcmp (pc' := 4) dX8_spread_3 rfl (by unfold fp_lng; omega) (by unfold fp_lng; omega) ?_
    refine S.if_ne (pc' := 7) (tgt := 8) dX8_spread_4 (by decide) rfl (by unfold fp_rng; omega) (fun h4 => ?_) (fun h4 => ?_)
    · refine S.iload (pc' := 10) dX8_spread_8 rfl rfl ?_
      refine S.bipush (pc' := 12) dX8_spread_10 rfl (by decide) ?_
      refine S.icmp_ge (pc' := 15) (tgt := 24) dX8_spread_12 (by decide) rfl (by unfold fp_rng; omega) (by unfold fp_rng; omega) (fun h12 => ?_) (fun h12 => ?_)
      · exfalso; omega
      · refine S.iload (pc' := 17) dX8_spread_15 rfl rfl ?_
        refine S.aload_n (pc' := 18) dX8_spread_17 rfl rfl rfl ?_
        refine S.getI (pc' := 21) dX8_spread_18 rfl fX8_80 (vs_lay vs27) ?_
        refine S.icmp_lt (pc' := 24) (tgt := 58) dX8_spread_21 (by decide) rfl (by unfold fp_rng; omega) (by unfold fp_rng; omega) (fun h21 => ?_) (fun h21 => ?_)
        · refine S.aload_n (pc' := 59) dX8_spread_58 rfl rfl rfl ?_
          refine S.getR (pc' := 62) dX8_spread_59 rfl fX8_11 L_34 rf_34_0 ?_
          refine S.iload (pc' := 64) dX8_spread_62 rfl rfl ?_
          refine S.iconst (pc' := 65) dX8_spread_64 rfl ?_
          refine S.iadd (pc' := 66) dX8_spread_65 rfl ?_
          refine S.aald (pc' := 67) dX8_spread_66 rfl L_35 (by decide) (by decide) (by omega) (by omega) (stg_r (by omega) (by omega)) ?_
          refine S.aload_n (pc' := 68) dX8_spread_67 rfl rfl rfl ?_
          refine S.getR (pc' := 71) dX8_spread_68 rfl fX8_11 L_34 rf_34_0 ?_
          refine S.iload (pc' := 73) dX8_spread_71 rfl rfl ?_
          refine S.aald (pc' := 74) dX8_spread_73 rfl L_35 (by decide) (by decide) (by omega) (by omega) (stg_r (by omega) (by omega)) ?_
          refine S.callVv (pc' := 77) dX8_spread_74 rfl cX8_36 (rk_X5_copyFrom (g := g) (pg := pg) ho1 ho (by omega)) rfl (pl_lay (stg_o (by omega) (by omega))) (by omega) rfl (Nat.le_of_ble_eq_true rfl) (fun M74 q74 => ?_)
          obtain ⟨c1, f1⟩ := q74
          have d1 : gdIs M74 18 g := hd.kept (fun a q1 q2 => f1 a (by omega))
          have v1 : vsIs M74 27 vs := hv.kept (fun a q1 q2 => f1 a (by omega))
          refine S.aload_n (pc' := 78) dX8_spread_77 rfl rfl rfl ?_
          refine S.aload_n (pc' := 79) dX8_spread_78 rfl rfl rfl ?_
          refine S.aload_n (pc' := 80) dX8_spread_79 rfl rfl rfl ?_
          refine S.getR (pc' := 83) dX8_spread_80 rfl fX8_11 L_34 rf_34_0 ?_
          refine S.iload (pc' := 85) dX8_spread_83 rfl rfl ?_
          refine S.iconst (pc' := 86) dX8_spread_85 rfl ?_
          refine S.iadd (pc' := 87) dX8_spread_86 rfl ?_
          refine S.aald (pc' := 88) dX8_spread_87 rfl L_35 (by decide) (by decide) (by omega) (by omega) (stg_r (by omega) (by omega)) ?_
          refine S.iload (pc' := 90) dX8_spread_88 rfl rfl ?_
          refine S.callVi (pc' := 93) dX8_spread_90 rfl cX8_40 (rk_X10_happens (g := g) (pg := pg) (vs := vs) vs27 gd18 ho1) rfl (vs_lay vs27) (by omega) rfl (Nat.le_of_ble_eq_true rfl) (fun z90 M90 q90 => ?_)
          obtain ⟨z2, c2, f2⟩ := q90
          have d2 : gdIs M90 18 g := d1.kept (fun a q1 q2 => f2 a (by omega))
          have v2 : vsIs M90 27 vs := v1.kept (fun a q1 q2 => f2 a (by omega))
          refine S.pop (pc' := 94) dX8_spread_93 rfl rfl ?_
          refine S.aload_n (pc' := 95) dX8_spread_94 rfl rfl rfl ?_
          refine S.aload_n (pc' := 96) dX8_spread_95 rfl rfl rfl ?_
          refine S.aload_n (pc' := 97) dX8_spread_96 rfl rfl rfl ?_
          refine S.iload_n (pc' := 98) dX8_spread_97 rfl rfl rfl ?_
          refine S.iload (pc' := 100) dX8_spread_98 rfl rfl ?_
          refine S.iconst (pc' := 101) dX8_spread_100 rfl ?_
          refine S.iadd (pc' := 102) dX8_spread_101 rfl ?_
          refine S.lload (pc' := 104) dX8_spread_102 rfl rfl ?_
          refine S.aload_n (pc' := 105) dX8_spread_104 rfl rfl rfl ?_
          refine S.getI (pc' := 108) dX8_spread_105 rfl fX8_113 (gd_lay gd18) ?_
          rw [d2.2.2.1]
          refine S.i2l (pc' := 109) dX8_spread_108 rfl (by unfold fp_rng; omega) ?_
          refine S.lmul (pc' := 110) dX8_spread_109 rfl ?_
          refine S.callVv (pc' := 113) dX8_spread_110 rfl cX8_107 (ih (i + 1) (w * g.2.2.1) (aHapI g pg vs i).2 M90 (by omega) (by omega) (hmul _ hc.1 hc.2) hP1 c2 d2 v2) rfl L_34 (by omega) rfl (Nat.le_of_ble_eq_true rfl) (fun M110 q110 => ?_)
          obtain ⟨r3, f3⟩ := q110
          have k3 : clIs M110 (41 + 5 * i.toNat) g pg := hcl.kept (fun a q1 q2 => by rw [f3 a (by omega), f2 a (by omega), f1 a (by omega)])
          have d3 : gdIs M110 18 g := d2.kept (fun a q1 q2 => f3 a (by omega))
          have v3 : vsIs M110 27 vs := v2.kept (fun a q1 q2 => f3 a (by omega))
          refine S.aload_n (pc' := 114) dX8_spread_113 rfl rfl rfl ?_
          refine S.getR (pc' := 117) dX8_spread_114 rfl fX8_11 L_34 rf_34_0 ?_
          refine S.iload (pc' := 119) dX8_spread_117 rfl rfl ?_
          refine S.iconst (pc' := 120) dX8_spread_119 rfl ?_
          refine S.iadd (pc' := 121) dX8_spread_120 rfl ?_
          refine S.aald (pc' := 122) dX8_spread_121 rfl L_35 (by decide) (by decide) (by omega) (by omega) (stg_r (by omega) (by omega)) ?_
          refine S.aload_n (pc' := 123) dX8_spread_122 rfl rfl rfl ?_
          refine S.getR (pc' := 126) dX8_spread_123 rfl fX8_11 L_34 rf_34_0 ?_
          refine S.iload (pc' := 128) dX8_spread_126 rfl rfl ?_
          refine S.aald (pc' := 129) dX8_spread_128 rfl L_35 (by decide) (by decide) (by omega) (by omega) (stg_r (by omega) (by omega)) ?_
          refine S.callVv (pc' := 132) dX8_spread_129 rfl cX8_36 (rk_X5_copyFrom (g := g) (pg := pg) ho1 ho (by omega)) rfl (pl_lay (stg_o (by omega) (by omega))) (by omega) rfl (Nat.le_of_ble_eq_true rfl) (fun M129 q129 => ?_)
          obtain ⟨c4, f4⟩ := q129
          have d4 : gdIs M129 18 g := d3.kept (fun a q1 q2 => f4 a (by omega))
          have v4 : vsIs M129 27 vs := v3.kept (fun a q1 q2 => f4 a (by omega))
          refine S.aload_n (pc' := 133) dX8_spread_132 rfl rfl rfl ?_
          refine S.aload_n (pc' := 134) dX8_spread_133 rfl rfl rfl ?_
          refine S.aload_n (pc' := 135) dX8_spread_134 rfl rfl rfl ?_
          refine S.iload_n (pc' := 136) dX8_spread_135 rfl rfl rfl ?_
          refine S.iload (pc' := 138) dX8_spread_136 rfl rfl ?_
          refine S.iconst (pc' := 139) dX8_spread_138 rfl ?_
          refine S.iadd (pc' := 140) dX8_spread_139 rfl ?_
          refine S.lload (pc' := 142) dX8_spread_140 rfl rfl ?_
          refine S.bipush (pc' := 144) dX8_spread_142 rfl (by decide) ?_
          refine S.aload_n (pc' := 145) dX8_spread_144 rfl rfl rfl ?_
          refine S.getI (pc' := 148) dX8_spread_145 rfl fX8_113 (gd_lay gd18) ?_
          rw [d4.2.2.1]
          refine S.isub (pc' := 149) dX8_spread_148 rfl ?_
          refine S.i2l (pc' := 150) dX8_spread_149 rfl (by unfold fp_rng; omega) ?_
          refine S.lmul (pc' := 151) dX8_spread_150 rfl ?_
          refine S.callVv (pc' := 154) dX8_spread_151 rfl cX8_107 (ih (i + 1) (w * (10 - g.2.2.1)) pg M129 (by omega) (by omega) (hmul _ (by omega) (by omega)) hP c4 d4 v4) rfl L_34 (by omega) rfl (Nat.le_of_ble_eq_true rfl) (fun M151 q151 => ?_)
          refine S.vret dX8_spread_154 rfl ?_
          obtain ⟨r5, f5⟩ := q151
          refine ⟨fun t t0 t1 => ?_, fun a ha => by rw [f5 a (by omega), f4 a (by omega), f3 a (by omega), f2 a (by omega), f1 a (by omega)]⟩
          rw [r5 t t0 t1, f4 40 (by omega), r3 t t0 t1, f2 40 (by omega), f1 40 (by omega), es]
          omega
        · exfalso; omega
    · refine S.vret dX8_spread_7 rfl ?_
      have hw0 : w = 0 := by omega
      subst hw0
      exact ⟨fun t t0 t1 => by rw [spS_zero]; omega, fun _ _ => rfl⟩
theorem lfill_loop {a len : Nat} {v : Int} (ha : fp_lay a = (4, len)) (hp : 0 < len) (hv : len ≤ 1000) : ∀ (n : Nat) (i : Int) (N : fp_Mem), ((len : Int) - i).toNat < n → 0 ≤ i → i ≤ len → N = fp_upM M a (fun j => if (j : Int) < i then v else M a j) →
    fp_S l G 0 kJ7_fill_d0a16 6 [some (rV G a), some (jV v), none, some (iV i), some (iV (len : Int))] [] N (qW (fp_upM M a (fun j => if (j : Int) < len then v else M a j))) := by
  intro n
  induction n with
  | zero => intro i N h; omega
  | succ n ih =>
    intro i N h h0 h1 hN
    refine S.iload_n (pc' := 7) dJ7_fill_d0a16_6 rfl rfl rfl ?_
    refine S.iload (pc' := 9) dJ7_fill_d0a16_7 rfl rfl ?_
    refine S.icmp_ge (pc' := 12) (tgt := 22) dJ7_fill_d0a16_9 (by decide) rfl (by unfold fp_rng; omega) (by unfold fp_rng; omega) (fun h9 => ?_) (fun h9 => ?_)
    · refine S.vret dJ7_fill_d0a16_22 rfl ?_
      show N = _
      rw [hN, show i = (len : Int) by omega]
    · refine S.aload_n (pc' := 13) dJ7_fill_d0a16_12 rfl rfl rfl ?_
      refine S.iload_n (pc' := 14) dJ7_fill_d0a16_13 rfl rfl rfl ?_
      refine S.lload_n (pc' := 15) dJ7_fill_d0a16_14 rfl rfl rfl ?_
      refine S.last (pc' := 16) dJ7_fill_d0a16_15 rfl ha (by omega) (by omega) ?_
      refine S.iinc (pc' := 19) (LL' := [_, _, _, _, _]) dJ7_fill_d0a16_16 rfl (by decide) rfl rfl rfl ?_
      refine S.goto (pc' := 6) dJ7_fill_d0a16_19 (by decide) ?_
      refine ih _ _ (by omega) (by omega) (by omega) ?_
      rw [hN, fp_up_same]
      refine congrArg (fp_upM M a) (funext fun j => ?_)
      unfold fp_upf
      by_cases hj : j = i.toNat
      · rw [if_pos hj, if_pos (by omega)]
      · rw [if_neg hj]
        dsimp only
        by_cases hj2 : (j : Int) < i
        · rw [if_pos hj2, if_pos (by omega)]
        · rw [if_neg hj2, if_neg (by omega)]
theorem ok_J7_fill_d0a16 {a len : Nat} {v : Int} (ha : fp_lay a = (4, len)) (hp : 0 < len := by decide) (hv : len ≤ 1000 := by decide) : fp_Ok l G 0 kJ7_fill_d0a16 [rV G a, jV v] M (qW (fp_upM M a (fun j => if (j : Int) < len then v else M a j))) := by
  refine fp_Ok.of (r := 2) rfl (Nat.le_of_ble_eq_true rfl) rfl ?_
  refine S.iconst (pc' := 1) dJ7_fill_d0a16_0 rfl ?_
  refine S.istore_n (pc' := 2) (LL' := [_, _, _, _, _]) dJ7_fill_d0a16_1 rfl (by decide) rfl rfl rfl ?_
  refine S.aload_n (pc' := 3) dJ7_fill_d0a16_2 rfl rfl rfl ?_
  refine S.alen (pc' := 4) dJ7_fill_d0a16_3 rfl ha (by decide) rfl (by first | assumption | decide) ?_
  refine S.istore (pc' := 6) (LL' := [_, _, _, _, _]) dJ7_fill_d0a16_4 rfl (by decide) rfl rfl ?_
  refine lfill_loop ha hp hv (len + 1) 0 M (by omega) (by omega) (by omega) ?_
  rw [show (fun j : Nat => if (j : Int) < 0 then v else M a j) = M a from funext fun j => by rw [if_neg (by omega)], fp_upM_self]
theorem sh_loop {x : Int} {P : Int → fp_Mem → Prop} (hl : vs.length ≤ 10) (hv : vsIs N 27 vs) (K : P (10 ^ vs.length) N) : ∀ (r k : Nat), vs.length - k < r → k ≤ vs.length →
    fp_S l G 14 kX8_findShares 34 [some (rV G 34), some (rV G 18), some (rV G 27), some (rV G 22), some (iV x), some (jV (10 ^ k)), none, some (iV (k : Int))] [] N (qJ P) := by
  have hl1 := hv.1
  intro r
  induction r with
  | zero => intro k hr; omega
  | succ r ih =>
    intro k hr hk
    by_cases he : k < vs.length
    · refine S.iload (pc' := 36) dX8_findShares_34 rfl rfl ?_
      refine S.aload_n (pc' := 37) dX8_findShares_36 rfl rfl rfl ?_
      refine S.getI (pc' := 40) dX8_findShares_37 rfl fX8_80 (vs_lay vs27) ?_
      refine S.icmp_ge (pc' := 43) (tgt := 57) dX8_findShares_40 (by decide) rfl (by unfold fp_rng; omega) (by unfold fp_rng; omega) (fun h40 => ?_) (fun h40 => ?_)
      · exfalso; omega
      · refine S.lload (pc' := 45) dX8_findShares_43 rfl rfl ?_
        refine S.ldc2 (pc' := 48) (v := 10) dX8_findShares_45 rfl lX8_111 (by decide) ?_
        refine S.lmul (pc' := 49) dX8_findShares_48 rfl ?_
        refine S.lstore (pc' := 51) (LL' := [_, _, _, _, _, _, _, _]) dX8_findShares_49 rfl (by decide) rfl rfl (by decide) ?_
        refine S.iinc (pc' := 54) (LL' := [_, _, _, _, _, _, _, _]) dX8_findShares_51 rfl (by decide) rfl rfl rfl ?_
        refine S.goto (pc' := 34) dX8_findShares_54 (by decide) ?_
        rw [show (10 : Int) ^ k * 10 = 10 ^ (k + 1) from (Int.pow_succ 10 k).symm, show ((k : Int) + 1) = ((k + 1 : Nat) : Int) by omega]
        exact ih (k + 1) (by omega) (by omega)
    · have e : vs.length = k := by omega
      rw [e] at K
      refine S.iload (pc' := 36) dX8_findShares_34 rfl rfl ?_
      refine S.aload_n (pc' := 37) dX8_findShares_36 rfl rfl rfl ?_
      refine S.getI (pc' := 40) dX8_findShares_37 rfl fX8_80 (vs_lay vs27) ?_
      refine S.icmp_ge (pc' := 43) (tgt := 57) dX8_findShares_40 (by decide) rfl (by unfold fp_rng; omega) (by unfold fp_rng; omega) (fun h40 => ?_) (fun h40 => ?_)
      · refine S.lload (pc' := 59) dX8_findShares_57 rfl rfl ?_
        refine S.lret dX8_findShares_59 rfl ?_
        exact K
      · exfalso; omega
theorem rk_X8_findShares {x : Int} (hg : gOk g) (hP : pgOk g pg) (hvo : vsOk g vs) (hl : vs.length ≤ 10) (hx : 0 ≤ x ∧ x < g.2.1) (hcl : clIs M 22 g pg) (hd : gdIs M 18 g) (hv : vsIs M 27 vs) : fp_Ok l G 14 kX8_findShares [rV G 34, rV G 18, rV G 27, rV G 22, iV x] M (qJ fun z N => z = 10 ^ vs.length ∧ (∀ t : Int, 0 ≤ t → t < 10 → N 40 t.toNat = chF g pg vs x (2 ^ vs.length) t) ∧ frZ M N) := by
  refine fp_Ok.of (r := 3) rfl (Nat.le_of_ble_eq_true rfl) rfl ?_
  refine S.aload_n (pc' := 1) dX8_findShares_0 rfl rfl rfl ?_
  refine S.getR (pc' := 4) dX8_findShares_1 rfl fX8_11 L_34 rf_34_0 ?_
  refine S.iconst (pc' := 5) dX8_findShares_4 rfl ?_
  refine S.aald (pc' := 6) (t := 41) dX8_findShares_5 rfl L_35 (by decide) (by decide) (by omega) (by omega) (by decide +kernel) ?_
  refine S.aload_n (pc' := 7) dX8_findShares_6 rfl rfl rfl ?_
  refine S.callVv (pc' := 10) dX8_findShares_7 rfl cX8_36 (rk_X5_copyFrom (g := g) (pg := pg) pl41 pl22 (by omega)) rfl (pl_lay pl41) (by omega) rfl (Nat.le_of_ble_eq_true rfl) (fun M7 q7 => ?_)
  obtain ⟨c1, f1⟩ := q7
  refine S.aload_n (pc' := 11) dX8_findShares_10 rfl rfl rfl ?_
  refine S.getR (pc' := 14) dX8_findShares_11 rfl fX8_31 L_34 rf_34_6 ?_
  refine S.lconst (pc' := 15) (w := 0) dX8_findShares_14 rfl rfl ?_
  refine S.callSw (pc' := 18) dX8_findShares_15 rfl cX8_104 (ok_J7_fill_d0a16 L_40) rfl (by omega) rfl (Nat.le_of_ble_eq_true rfl) ?_
  have d1 : gdIs (fp_upM M7 40 (fun j => if (j : Int) < (10 : Nat) then 0 else M7 40 j)) 18 g := hd.kept (fun a q1 q2 => by rw [fp_upM_ne (by omega)]; exact f1 a (by omega))
  have v1 : vsIs (fp_upM M7 40 (fun j => if (j : Int) < (10 : Nat) then 0 else M7 40 j)) 27 vs := hv.kept (fun a q1 q2 => by rw [fp_upM_ne (by omega)]; exact f1 a (by omega))
  have c2 : clIs (fp_upM M7 40 (fun j => if (j : Int) < (10 : Nat) then 0 else M7 40 j)) 41 g pg := c1.kept (fun a q1 q2 => fp_upM_ne (by omega))
  refine S.aload_n (pc' := 19) dX8_findShares_18 rfl rfl rfl ?_
  refine S.aload_n (pc' := 20) dX8_findShares_19 rfl rfl rfl ?_
  refine S.aload_n (pc' := 21) dX8_findShares_20 rfl rfl rfl ?_
  refine S.iload (pc' := 23) dX8_findShares_21 rfl rfl ?_
  refine S.iconst (pc' := 24) dX8_findShares_23 rfl ?_
  refine S.lconst (pc' := 25) (w := 1) dX8_findShares_24 rfl rfl ?_
  refine S.callVv (pc' := 28) dX8_findShares_25 rfl cX8_107 (rk_X8_spread hg hvo hl hx vs.length 0 1 pg _ (by omega) (by omega) (by decide) hP c2 d1 v1) rfl L_34 (by omega) rfl (Nat.le_of_ble_eq_true rfl) (fun M25 q25 => ?_)
  obtain ⟨r2, f2⟩ := q25
  have v2 : vsIs M25 27 vs := v1.kept (fun a q1 q2 => f2 a (by omega))
  refine S.lconst (pc' := 29) (w := 1) dX8_findShares_28 rfl rfl ?_
  refine S.lstore (pc' := 31) (LL' := [_, _, _, _, _, _, _, _]) dX8_findShares_29 rfl (by decide) rfl rfl (by decide) ?_
  refine S.iconst (pc' := 32) dX8_findShares_31 rfl ?_
  refine S.istore (pc' := 34) (LL' := [_, _, _, _, _, _, _, _]) dX8_findShares_32 rfl (by decide) rfl rfl ?_
  refine sh_loop hl v2 ⟨rfl, fun t t0 t1 => ?_, fun a ha => ?_⟩ (vs.length + 1) 0 (by omega) (by omega)
  · rw [r2 t t0 t1, fp_upM_at, if_pos (by omega), Int.zero_add]
    exact spS_chF hg hP hvo
  · rw [f2 a (by omega), fp_upM_ne (by omega)]
    exact f1 a (by omega)
end CSH
