/-! most: the class; all ways of his draws in the order of their lines, the first greatest kept -/
def foldL {β : Type} (f : Int → β → β) : Nat → β → β
  | 0, b => b
  | m + 1, b => f (m : Int) (foldL f m b)
abbrev moT : Type := Int × (Int → Int)
def moU (w : Int) (c : Int → Int) (b : moT) : moT := if b.1 < w then (w, c) else b
def moC (g : aGd) (vs : List aVt) (p : Int) : Nat → Nat → aPg → (Int → Int) → moT → moT
  | 0, _, pg, c, b => moU (aWorth g pg p) c b
  | n + 1, k, pg, c, b => if aOwn vs p (k : Int) = true then foldL (fun x b => moC g vs p n (k + 1) (aDraw g pg p x) (fp_ui c (k : Int) x) b) g.2.1.toNat b else moC g vs p n (k + 1) (aHapI g pg vs (k : Int)).2 (fp_ui c (k : Int) (-4)) b
theorem moC_own {g : aGd} {vs : List aVt} {p : Int} {n k : Nat} {pg : aPg} {c : Int → Int} {b : moT} (h : aOwn vs p (k : Int) = true) : moC g vs p (n + 1) k pg c b = foldL (fun x b => moC g vs p n (k + 1) (aDraw g pg p x) (fp_ui c (k : Int) x) b) g.2.1.toNat b := by rw [moC, if_pos h]
theorem moC_else {g : aGd} {vs : List aVt} {p : Int} {n k : Nat} {pg : aPg} {c : Int → Int} {b : moT} (h : ¬ aOwn vs p (k : Int) = true) : moC g vs p (n + 1) k pg c b = moC g vs p n (k + 1) (aHapI g pg vs (k : Int)).2 (fp_ui c (k : Int) (-4)) b := by rw [moC, if_neg h]
theorem fp_sum_in {f : Int → Int} {B : Int} : ∀ n : Nat, (∀ t : Int, 0 ≤ t → t < n → 0 ≤ f t ∧ f t ≤ B) → 0 ≤ fp_sum f n ∧ fp_sum f n ≤ n * B
  | 0, _ => by show (0 : Int) ≤ 0 ∧ (0 : Int) ≤ ((0 : Nat) : Int) * B; rw [Int.natCast_zero, Int.zero_mul]; omega
  | n + 1, h => by
    have ih := fp_sum_in n (fun t t0 t1 => h t t0 (by omega))
    have := h n (by omega) (by omega)
    unfold fp_sum
    rw [Int.natCast_add, Int.add_mul]
    omega
theorem aWorth_in {g : aGd} {pg : aPg} {p : Int} (hg : gOk g) (hp : 0 ≤ p ∧ p < 4) : 0 ≤ aWorth g pg p ∧ aWorth g pg p ≤ 200 := by
  have hg1 := hg.1
  have h := fp_sum_in (f := fun t => if pg.1 t = p then g.2.2.2.2.1 t p else 0) (B := 20) g.1.toNat (fun t t0 t1 => by
    have := hg.2.2.2.2.1 t p t0 (by omega) hp.1 hp.2
    split <;> omega)
  unfold aWorth
  omega
theorem foldL_ind {β : Type} {f : Int → β → β} {P : β → Prop} : ∀ m : Nat, (∀ (x : Int) b, 0 ≤ x → x < (m : Int) → P b → P (f x b)) → ∀ b, P b → P (foldL f m b)
  | 0, _, b, hb => hb
  | m + 1, h, b, hb => h m _ (by omega) (by omega) (foldL_ind m (fun x b x0 x1 => h x b x0 (by omega)) b hb)
theorem moC_in {g : aGd} {vs : List aVt} {p : Int} (hg : gOk g) (hp : 0 ≤ p ∧ p < 4) : ∀ (n k : Nat) (pg : aPg) (c : Int → Int) (b : moT), (-4 ≤ b.1 ∧ b.1 ≤ 200) → -4 ≤ (moC g vs p n k pg c b).1 ∧ (moC g vs p n k pg c b).1 ≤ 200
  | 0, k, pg, c, b, h => by
    have := aWorth_in (pg := pg) hg hp
    unfold moC moU
    split
    · show -4 ≤ aWorth g pg p ∧ aWorth g pg p ≤ 200; omega
    · exact h
  | n + 1, k, pg, c, b, h => by
    unfold moC
    split
    · exact foldL_ind (P := fun b : moT => -4 ≤ b.1 ∧ b.1 ≤ 200) _ (fun x b _ _ hb => moC_in hg hp n (k + 1) _ _ b hb) b h
    · exact moC_in hg hp n (k + 1) _ _ b h
/-- with a line at least some way is kept -/
theorem moC_up {g : aGd} {vs : List aVt} {p : Int} (hg : gOk g) (hp : 0 ≤ p ∧ p < 4) (hl : 0 < g.2.1) : ∀ (n k : Nat) (pg : aPg) (c : Int → Int) (b : moT), 0 ≤ (moC g vs p n k pg c b).1 ∧ b.1 ≤ (moC g vs p n k pg c b).1
  | 0, k, pg, c, b => by
    have := aWorth_in (pg := pg) hg hp
    unfold moC moU
    split
    · show 0 ≤ aWorth g pg p ∧ b.1 ≤ aWorth g pg p; omega
    · omega
  | n + 1, k, pg, c, b => by
    unfold moC
    split
    · obtain ⟨m, hm⟩ : ∃ m, g.2.1.toNat = m + 1 := ⟨g.2.1.toNat - 1, by omega⟩
      rw [hm]
      have h1 := foldL_ind (f := fun x b => moC g vs p n (k + 1) (aDraw g pg p x) (fp_ui c (k : Int) x) b) (P := fun b' : moT => b.1 ≤ b'.1) m (fun x b' _ _ hb => by have := (moC_up (vs := vs) hg hp hl n (k + 1) (aDraw g pg p x) (fp_ui c (k : Int) x) b').2; omega) b (by omega)
      have h2 := moC_up (vs := vs) hg hp hl n (k + 1) (aDraw g pg p m) (fp_ui c (k : Int) m) (foldL (fun x b => moC g vs p n (k + 1) (aDraw g pg p x) (fp_ui c (k : Int) x) b) m b)
      exact ⟨h2.1, by have := h2.2; unfold foldL; omega⟩
    · exact moC_up hg hp hl n (k + 1) _ _ b
def moB (vs : List aVt) (M : fp_Mem) (b : moT) : Prop := M 34 3 = b.1 ∧ (b.1 ≠ -4 → ∀ j : Int, 0 ≤ j → j < vs.length → M 38 j.toNat = b.2 j)
def moR (vs : List aVt) (p : Int) (M : fp_Mem) (i : Int) (c : Int → Int) : Prop := (∀ j : Int, 0 ≤ j → j < i → M 39 j.toNat = c j) ∧ ∀ j : Int, i ≤ j → j < vs.length → aOwn vs p j = false → M 39 j.toNat = -4
section CMO
variable {l : Launch} {G : fp_WG} {M N : fp_Mem} {tp : List Int} {fl : Int} {g : aGd} {pg : aPg} {vs : List aVt} {nt : List Int} {im : aIm} {sh : aSh} {tn : Int}
theorem rk_X10_isDrawOf {p i : Int} (hg : gOk g) (hvo : vsOk g vs) (hv : vsIs M 27 vs) (hp : fp_rng p) (hi : 0 ≤ i ∧ i < (vs.length : Int)) : fp_Ok l G 1 kX10_isDrawOf [rV G 27, iV p, iV i] M (qE (if aOwn vs p i = true then 1 else 0) M) := by
  have hl := hv.2.1
  have hb := hv.at hvo hg hi.1 hi.2
  have hg1 := hg.1
  obtain ⟨e1, e2, e3, e4⟩ := hv.2.2 i hi.1 hi.2
  refine fp_Ok.of (r := 0) rfl (Nat.le_of_ble_eq_true rfl) rfl ?_
  unfold aOwn
  simp only [decide_eq_true_eq]
  rw [← e2, ← e4]
  refine S.aload_n (pc' := 1) dX10_isDrawOf_0 rfl rfl rfl ?_
  refine S.getR (pc' := 4) dX10_isDrawOf_1 rfl fX10_15 (vs_lay vs27) (vs_r2 vs27) ?_
  refine S.iload_n (pc' := 5) dX10_isDrawOf_4 rfl rfl rfl ?_
  refine S.iald (pc' := 6) dX10_isDrawOf_5 rfl (vs_a2 vs27) (by omega) (by omega) ?_
  refine S.iload_n (pc' := 7) dX10_isDrawOf_6 rfl rfl rfl ?_
  refine S.icmp_ne (pc' := 10) (tgt := 22) dX10_isDrawOf_7 (by decide) rfl (by unfold fp_rng; omega) hp (fun h7 => ?_) (fun h7 => ?_)
  · refine S.iconst (pc' := 23) dX10_isDrawOf_22 rfl ?_
    refine S.zret dX10_isDrawOf_23 rfl (by first | exact Or.inl rfl | exact Or.inr rfl | omega) ?_
    first
    | exact ⟨by rw [if_pos ⟨by omega, by omega⟩], rfl⟩
    | exact ⟨by rw [if_neg (fun q => by omega)], rfl⟩
  · refine S.aload_n (pc' := 11) dX10_isDrawOf_10 rfl rfl rfl ?_
    refine S.iload_n (pc' := 12) dX10_isDrawOf_11 rfl rfl rfl ?_
    refine S.callVe (pc' := 15) dX10_isDrawOf_12 rfl cX10_34 (ok_X10_isDraw vs27) rfl (vs_lay vs27) (by decide) rfl (Nat.le_of_ble_eq_true rfl) ?_
    refine S.if_eq (pc' := 18) (tgt := 22) dX10_isDrawOf_15 (by decide) rfl (by unfold fp_rng; omega) (fun h15 => ?_) (fun h15 => ?_)
    · refine S.iconst (pc' := 23) dX10_isDrawOf_22 rfl ?_
      refine S.zret dX10_isDrawOf_23 rfl (by first | exact Or.inl rfl | exact Or.inr rfl | omega) ?_
      first
      | exact ⟨by rw [if_pos ⟨by omega, by omega⟩], rfl⟩
      | exact ⟨by rw [if_neg (fun q => by omega)], rfl⟩
    · refine S.iconst (pc' := 19) dX10_isDrawOf_18 rfl ?_
      refine S.goto (pc' := 23) dX10_isDrawOf_19 (by decide) ?_
      refine S.zret dX10_isDrawOf_23 rfl (by first | exact Or.inl rfl | exact Or.inr rfl | omega) ?_
      first
      | exact ⟨by rw [if_pos ⟨by omega, by omega⟩], rfl⟩
      | exact ⟨by rw [if_neg (fun q => by omega)], rfl⟩
theorem rk_X8_takeIfBetter {w : Int} (hw : fp_rng w) (hb : fp_rng (M 34 3)) : fp_Ok l G 1 kX8_takeIfBetter [rV G 34, iV w] M (qV fun N => N 34 3 = (if M 34 3 < w then w else M 34 3) ∧ (∀ j : Nat, j < 12 → N 38 j = if M 34 3 < w then M 39 j else M 38 j) ∧ ∀ a, a ≠ 34 → a ≠ 38 → N a = M a) := by
  refine fp_Ok.of (r := 0) rfl (Nat.le_of_ble_eq_true rfl) rfl ?_
  refine S.iload_n (pc' := 1) dX8_takeIfBetter_0 rfl rfl rfl ?_
  refine S.aload_n (pc' := 2) dX8_takeIfBetter_1 rfl rfl rfl ?_
  refine S.getI (pc' := 5) dX8_takeIfBetter_2 rfl fX8_67 L_34 ?_
  refine S.icmp_le (pc' := 8) (tgt := 31) dX8_takeIfBetter_5 (by decide) rfl hw hb (fun h5 => ?_) (fun h5 => ?_)
  · refine S.vret dX8_takeIfBetter_31 rfl ?_
    first
    | (refine ⟨by rw [if_neg (by omega)], fun j hj => by rw [if_neg (by omega)], fun _ _ _ => rfl⟩; done)
    | (refine ⟨?_, fun j hj => ?_, fun a h1 h2 => by rw [fp_upM_ne h2, fp_up_ne h1]⟩
       · rw [if_pos (by omega), fp_upM_ne (by decide), fp_up_at, fp_upf_at]
       · rw [if_pos (by omega), fp_upM_at]; simp [va_cpy, fp_up_ne]; intro; omega)
  · refine S.aload_n (pc' := 9) dX8_takeIfBetter_8 rfl rfl rfl ?_
    refine S.iload_n (pc' := 10) dX8_takeIfBetter_9 rfl rfl rfl ?_
    refine S.putI (pc' := 13) dX8_takeIfBetter_10 rfl fX8_67 L_34 ?_
    refine S.aload_n (pc' := 14) dX8_takeIfBetter_13 rfl rfl rfl ?_
    refine S.getR (pc' := 17) dX8_takeIfBetter_14 rfl fX8_28 L_34 rf_34_5 ?_
    refine S.iconst (pc' := 18) dX8_takeIfBetter_17 rfl ?_
    refine S.aload_n (pc' := 19) dX8_takeIfBetter_18 rfl rfl rfl ?_
    refine S.getR (pc' := 22) dX8_takeIfBetter_19 rfl fX8_24 L_34 rf_34_4 ?_
    refine S.iconst (pc' := 23) dX8_takeIfBetter_22 rfl ?_
    refine S.aload_n (pc' := 24) dX8_takeIfBetter_23 rfl rfl rfl ?_
    refine S.getR (pc' := 27) dX8_takeIfBetter_24 rfl fX8_24 L_34 rf_34_4 ?_
    refine S.alen (pc' := 28) dX8_takeIfBetter_27 rfl L_38 (by decide) rfl (by first | assumption | decide) ?_
    refine S.copyi (pc' := 31) dX8_takeIfBetter_28 rfl aX8_98 L_39 L_38 (by decide) (by decide) (by omega) (by omega) (by omega) (by omega) (by omega) (by decide) (Nat.le_of_ble_eq_true rfl) ?_
    refine S.vret dX8_takeIfBetter_31 rfl ?_
    first
    | (refine ⟨by rw [if_neg (by omega)], fun j hj => by rw [if_neg (by omega)], fun _ _ _ => rfl⟩; done)
    | (refine ⟨?_, fun j hj => ?_, fun a h1 h2 => by rw [fp_upM_ne h2, fp_up_ne h1]⟩
       · rw [if_pos (by omega), fp_upM_ne (by decide), fp_up_at, fp_upf_at]
       · rw [if_pos (by omega), fp_upM_at]; simp [va_cpy, fp_up_ne]; intro; omega)
theorem rk_X8_tryLines {p : Int} (hg : gOk g) (hvo : vsOk g vs) (hl : vs.length ≤ 12) (hp : 0 ≤ p ∧ p < 4) : ∀ (n : Nat) (i : Int) (pg : aPg) (c : Int → Int) (b : moT) (M : fp_Mem), 0 ≤ i → i + n = vs.length → pgOk g pg → clIs M (41 + 5 * i.toNat) g pg → gdIs M 18 g → vsIs M 27 vs → moB vs M b → moR vs p M i c → (-4 ≤ b.1 ∧ b.1 ≤ 200) →
    fp_Ok l G (n + 3) kX8_tryLines [rV G 34, rV G 18, rV G 27, iV p, iV i] M (qV fun N => moB vs N (moC g vs p n i.toNat pg c b) ∧ moR vs p N i c ∧ ∀ a, (a < 34 ∨ (34 < a ∧ a < 38) ∨ (39 < a ∧ a < 46 + 5 * i.toNat) ∨ 105 < a) → N a = M a) := by
  have hg2 := hg.2.1
  intro n
  induction n with
  | zero =>
    intro i pg c b M i0 hi hP hcl hd hv hB hR hb
    have hl1 := hv.1
    have ho := stg_o i0 (show i < 13 by omega)
    have hw := aWorth_in (pg := pg) hg hp
    have hB1 := hB.1
    refine fp_Ok.of (r := 1) rfl (Nat.le_of_ble_eq_true rfl) rfl ?_
    refine S.iload (pc' := 2) dX8_tryLines_0 rfl rfl ?_
    refine S.bipush (pc' := 4) dX8_tryLines_2 rfl (by decide) ?_
    refine S.icmp_ge (pc' := 7) (tgt := 16) dX8_tryLines_4 (by decide) rfl (by unfold fp_rng; omega) (by unfold fp_rng; omega) (fun h4 => ?_) (fun h4 => ?_)
    · refine S.aload_n (pc' := 17) dX8_tryLines_16 rfl rfl rfl ?_
      refine S.aload_n (pc' := 18) dX8_tryLines_17 rfl rfl rfl ?_
      refine S.getR (pc' := 21) dX8_tryLines_18 rfl fX8_11 L_34 rf_34_0 ?_
      refine S.iload (pc' := 23) dX8_tryLines_21 rfl rfl ?_
      refine S.aald (pc' := 24) dX8_tryLines_23 rfl L_35 (by decide) (by decide) (by omega) (by omega) (stg_r (by omega) (by omega)) ?_
      refine S.aload_n (pc' := 25) dX8_tryLines_24 rfl rfl rfl ?_
      refine S.iload_n (pc' := 26) dX8_tryLines_25 rfl rfl rfl ?_
      refine S.callVe (pc' := 29) dX8_tryLines_26 rfl cX8_83 (rk_X5_worthTo (g := g) (pg := pg) ho gd18) rfl (pl_lay (stg_o (by omega) (by omega))) (by omega) rfl (Nat.le_of_ble_eq_true rfl) ?_
      refine S.callVv (pc' := 32) dX8_tryLines_29 rfl cX8_86 (rk_X8_takeIfBetter (by unfold fp_rng; omega) (by unfold fp_rng; omega)) rfl L_34 (by omega) rfl (Nat.le_of_ble_eq_true rfl) (fun M29 q29 => ?_)
      refine S.vret dX8_tryLines_32 rfl ?_
      obtain ⟨t1, t2, t3⟩ := q29
      have hcc : ∀ j : Int, 0 ≤ j → j < vs.length → M 39 j.toNat = c j := fun j j0 j1 => hR.1 j j0 (by omega)
      refine ⟨?_, ⟨fun j j0 j1 => by rw [t3 39 (by decide) (by decide)]; exact hR.1 j j0 j1, fun j j0 j1 => by omega⟩, fun a ha => t3 a (by omega) (by omega)⟩
      unfold moC moU moB
      rw [hB1] at t1 t2
      by_cases e : b.1 < aWorth g pg p
      · rw [if_pos e] at t1 ⊢
        exact ⟨t1, fun _ j j0 j1 => by rw [t2 _ (by omega), if_pos e]; exact hcc j j0 j1⟩
      · rw [if_neg e] at t1 ⊢
        exact ⟨t1, fun q j j0 j1 => by rw [t2 _ (by omega), if_neg e]; exact hB.2 q j j0 j1⟩
    · refine S.iload (pc' := 9) dX8_tryLines_7 rfl rfl ?_
      refine S.aload_n (pc' := 10) dX8_tryLines_9 rfl rfl rfl ?_
      refine S.getI (pc' := 13) dX8_tryLines_10 rfl fX8_80 (vs_lay vs27) ?_
      refine S.icmp_lt (pc' := 16) (tgt := 33) dX8_tryLines_13 (by decide) rfl (by unfold fp_rng; omega) (by unfold fp_rng; omega) (fun h13 => ?_) (fun h13 => ?_)
      · exfalso; omega
      · refine S.aload_n (pc' := 17) dX8_tryLines_16 rfl rfl rfl ?_
        refine S.aload_n (pc' := 18) dX8_tryLines_17 rfl rfl rfl ?_
        refine S.getR (pc' := 21) dX8_tryLines_18 rfl fX8_11 L_34 rf_34_0 ?_
        refine S.iload (pc' := 23) dX8_tryLines_21 rfl rfl ?_
        refine S.aald (pc' := 24) dX8_tryLines_23 rfl L_35 (by decide) (by decide) (by omega) (by omega) (stg_r (by omega) (by omega)) ?_
        refine S.aload_n (pc' := 25) dX8_tryLines_24 rfl rfl rfl ?_
        refine S.iload_n (pc' := 26) dX8_tryLines_25 rfl rfl rfl ?_
        refine S.callVe (pc' := 29) dX8_tryLines_26 rfl cX8_83 (rk_X5_worthTo (g := g) (pg := pg) ho gd18) rfl (pl_lay (stg_o (by omega) (by omega))) (by omega) rfl (Nat.le_of_ble_eq_true rfl) ?_
        refine S.callVv (pc' := 32) dX8_tryLines_29 rfl cX8_86 (rk_X8_takeIfBetter (by unfold fp_rng; omega) (by unfold fp_rng; omega)) rfl L_34 (by omega) rfl (Nat.le_of_ble_eq_true rfl) (fun M29 q29 => ?_)
        refine S.vret dX8_tryLines_32 rfl ?_
        obtain ⟨t1, t2, t3⟩ := q29
        have hcc : ∀ j : Int, 0 ≤ j → j < vs.length → M 39 j.toNat = c j := fun j j0 j1 => hR.1 j j0 (by omega)
        refine ⟨?_, ⟨fun j j0 j1 => by rw [t3 39 (by decide) (by decide)]; exact hR.1 j j0 j1, fun j j0 j1 => by omega⟩, fun a ha => t3 a (by omega) (by omega)⟩
        unfold moC moU moB
        rw [hB1] at t1 t2
        by_cases e : b.1 < aWorth g pg p
        · rw [if_pos e] at t1 ⊢
          exact ⟨t1, fun _ j j0 j1 => by rw [t2 _ (by omega), if_pos e]; exact hcc j j0 j1⟩
        · rw [if_neg e] at t1 ⊢
          exact ⟨t1, fun q j j0 j1 => by rw [t2 _ (by omega), if_neg e]; exact hB.2 q j j0 j1⟩
  | succ n ih =>
    intro i pg c b M i0 hi hP hcl hd hv hB hR hb
    have hl1 := hv.1
    have ho := stg_o i0 (show i < 13 by omega)
    have ho1 := stg_o (show 0 ≤ i + 1 by omega) (show i + 1 < 13 by omega)
    have ei : ((i.toNat : Nat) : Int) = i := by omega
    have e1 : (i + 1).toNat = i.toNat + 1 := by omega
    have cO := rk_X10_isDrawOf (l := l) (G := G) hg hvo hv (show fp_rng p by unfold fp_rng; omega) (show 0 ≤ i ∧ i < (vs.length : Int) by omega)
    refine fp_Ok.of (r := 1) rfl (Nat.le_of_ble_eq_true rfl) rfl ?_
    by_cases hown : aOwn vs p i = true
    · rw [if_pos hown] at cO
      have em : moC g vs p (n + 1) i.toNat pg c b = foldL (fun x b => moC g vs p n (i + 1).toNat (aDraw g pg p x) (fp_ui c i x) b) g.2.1.toNat b := by
        rw [moC_own (by rw [ei]; exact hown), ei, e1]
      rw [em]
      have hL : ∀ (r : Nat) (x : Int) (N : fp_Mem), (g.2.1 - x).toNat < r → 0 ≤ x → x ≤ g.2.1 → moB vs N (foldL (fun x b => moC g vs p n (i + 1).toNat (aDraw g pg p x) (fp_ui c i x) b) x.toNat b) → moR vs p N i c → (∀ a, (a < 34 ∨ (34 < a ∧ a < 38) ∨ (39 < a ∧ a < 46 + 5 * i.toNat) ∨ 105 < a) → N a = M a) →
          fp_S l G (n + 1 + 3) kX8_tryLines 94 [some (rV G 34), some (rV G 18), some (rV G 27), some (iV p), some (iV i), some (iV x)] [] N (qV fun N => moB vs N (foldL (fun x b => moC g vs p n (i + 1).toNat (aDraw g pg p x) (fp_ui c i x) b) g.2.1.toNat b) ∧ moR vs p N i c ∧ ∀ a, (a < 34 ∨ (34 < a ∧ a < 38) ∨ (39 < a ∧ a < 46 + 5 * i.toNat) ∨ 105 < a) → N a = M a) := by
        intro r
        induction r with
        | zero => intro x N hr; omega
        | succ r ihr =>
          intro x N hr x0 x1 nB nR nF
          have dN : gdIs N 18 g := hd.kept (fun a q1 q2 => nF a (by omega))
          have vN : vsIs N 27 vs := hv.kept (fun a q1 q2 => nF a (by omega))
          have cN : clIs N (41 + 5 * i.toNat) g pg := hcl.kept (fun a q1 q2 => nF a (by omega))
          have hd1 : N 18 1 = g.2.1 := dN.2.1
          by_cases hlt : x < g.2.1
          · have hPx := aDraw_ok hg hP hp ⟨x0, hlt⟩
            have hbx := foldL_ind (f := fun x b => moC g vs p n (i + 1).toNat (aDraw g pg p x) (fp_ui c i x) b) (P := fun b : moT => -4 ≤ b.1 ∧ b.1 ≤ 200) x.toNat (fun y b _ _ hb => moC_in hg hp n (i + 1).toNat _ _ b hb) b hb
            have ef : foldL (fun x b => moC g vs p n (i + 1).toNat (aDraw g pg p x) (fp_ui c i x) b) (x + 1).toNat b = moC g vs p n (i + 1).toNat (aDraw g pg p x) (fp_ui c i x) (foldL (fun x b => moC g vs p n (i + 1).toNat (aDraw g pg p x) (fp_ui c i x) b) x.toNat b) := by
              rw [show (x + 1).toNat = x.toNat + 1 by omega, foldL, show ((x.toNat : Nat) : Int) = x by omega]
            refine S.iload (pc' := 96) dX8_tryLines_94 rfl rfl ?_
            refine S.aload_n (pc' := 97) dX8_tryLines_96 rfl rfl rfl ?_
            refine S.getI (pc' := 100) dX8_tryLines_97 rfl fX8_50 (gd_lay gd18) ?_
            refine S.icmp_ge (pc' := 103) (tgt := 165) dX8_tryLines_100 (by decide) rfl (by unfold fp_rng; omega) (by unfold fp_rng; omega) (fun h100 => ?_) (fun h100 => ?_)
            · exfalso; omega
            · refine S.aload_n (pc' := 104) dX8_tryLines_103 rfl rfl rfl ?_
              refine S.getR (pc' := 107) dX8_tryLines_104 rfl fX8_11 L_34 rf_34_0 ?_
              refine S.iload (pc' := 109) dX8_tryLines_107 rfl rfl ?_
              refine S.iconst (pc' := 110) dX8_tryLines_109 rfl ?_
              refine S.iadd (pc' := 111) dX8_tryLines_110 rfl ?_
              refine S.aald (pc' := 112) dX8_tryLines_111 rfl L_35 (by decide) (by decide) (by omega) (by omega) (stg_r (by omega) (by omega)) ?_
              refine S.aload_n (pc' := 113) dX8_tryLines_112 rfl rfl rfl ?_
              refine S.getR (pc' := 116) dX8_tryLines_113 rfl fX8_11 L_34 rf_34_0 ?_
              refine S.iload (pc' := 118) dX8_tryLines_116 rfl rfl ?_
              refine S.aald (pc' := 119) dX8_tryLines_118 rfl L_35 (by decide) (by decide) (by omega) (by omega) (stg_r (by omega) (by omega)) ?_
              refine S.callVv (pc' := 122) dX8_tryLines_119 rfl cX8_36 (rk_X5_copyFrom (g := g) (pg := pg) ho1 ho (by omega)) rfl (pl_lay (stg_o (by omega) (by omega))) (by omega) rfl (Nat.le_of_ble_eq_true rfl) (fun M119 q119 => ?_)
              obtain ⟨c1, f1⟩ := q119
              have d1 : gdIs M119 18 g := dN.kept (fun a q1 q2 => f1 a (by omega))
              refine S.aload_n (pc' := 123) dX8_tryLines_122 rfl rfl rfl ?_
              refine S.getR (pc' := 126) dX8_tryLines_123 rfl fX8_11 L_34 rf_34_0 ?_
              refine S.iload (pc' := 128) dX8_tryLines_126 rfl rfl ?_
              refine S.iconst (pc' := 129) dX8_tryLines_128 rfl ?_
              refine S.iadd (pc' := 130) dX8_tryLines_129 rfl ?_
              refine S.aald (pc' := 131) dX8_tryLines_130 rfl L_35 (by decide) (by decide) (by omega) (by omega) (stg_r (by omega) (by omega)) ?_
              refine S.aload_n (pc' := 132) dX8_tryLines_131 rfl rfl rfl ?_
              refine S.iload_n (pc' := 133) dX8_tryLines_132 rfl rfl rfl ?_
              refine S.iload (pc' := 135) dX8_tryLines_133 rfl rfl ?_
              refine S.callVi (pc' := 138) dX8_tryLines_135 rfl cX8_94 (rk_X5_giveTo (g := g) (pg := pg) ho1 gd18) rfl (pl_lay (stg_o (by omega) (by omega))) (by omega) rfl (Nat.le_of_ble_eq_true rfl) (fun z135 M135 q135 => ?_)
              obtain ⟨z2, c2, f2⟩ := q135
              have ff : ∀ a, (a < 46 + 5 * i.toNat ∨ 50 + 5 * i.toNat < a) → a ≠ 39 → fp_up M135 39 i.toNat x a = N a := fun a ha h9 => by rw [fp_up_ne h9, f2 a (by omega), f1 a (by omega)]
              have e39 : M135 39 = N 39 := by rw [f2 39 (by omega), f1 39 (by omega)]
              have hR2 : moR vs p (fp_up M135 39 i.toNat x) (i + 1) (fp_ui c i x) := by
                refine ⟨fun j j0 j1 => ?_, fun j j0 j1 jo => ?_⟩
                · rw [fp_up_at, e39]
                  by_cases e : j = i
                  · rw [e, fp_upf_at, fp_ui_at]
                  · rw [fp_upf_ne (by omega), fp_ui_ne e]; exact nR.1 j j0 (by omega)
                · rw [fp_up_at, e39, fp_upf_ne (by omega)]; exact nR.2 j (by omega) j1 jo
              refine S.pop (pc' := 139) dX8_tryLines_138 rfl rfl ?_
              refine S.aload_n (pc' := 140) dX8_tryLines_139 rfl rfl rfl ?_
              refine S.getR (pc' := 143) dX8_tryLines_140 rfl fX8_28 L_34 rf_34_5 ?_
              refine S.iload (pc' := 145) dX8_tryLines_143 rfl rfl ?_
              refine S.iload (pc' := 147) dX8_tryLines_145 rfl rfl ?_
              refine S.iast (pc' := 148) dX8_tryLines_147 rfl L_39 (by omega) (by omega) ?_
              refine S.aload_n (pc' := 149) dX8_tryLines_148 rfl rfl rfl ?_
              refine S.aload_n (pc' := 150) dX8_tryLines_149 rfl rfl rfl ?_
              refine S.aload_n (pc' := 151) dX8_tryLines_150 rfl rfl rfl ?_
              refine S.iload_n (pc' := 152) dX8_tryLines_151 rfl rfl rfl ?_
              refine S.iload (pc' := 154) dX8_tryLines_152 rfl rfl ?_
              refine S.iconst (pc' := 155) dX8_tryLines_154 rfl ?_
              refine S.iadd (pc' := 156) dX8_tryLines_155 rfl ?_
              refine S.callVv (pc' := 159) dX8_tryLines_156 rfl cX8_76 (ih (i + 1) (aDraw g pg p x) (fp_ui c i x) (foldL (fun x b => moC g vs p n (i + 1).toNat (aDraw g pg p x) (fp_ui c i x) b) x.toNat b) (fp_up M135 39 i.toNat x) (by omega) (by omega) hPx (c2.kept (fun a q1 q2 => fp_up_ne (by omega))) (dN.kept (fun a q1 q2 => ff a (by omega) (by omega))) (vN.kept (fun a q1 q2 => ff a (by omega) (by omega))) ⟨by rw [ff 34 (by omega) (by decide)]; exact nB.1, fun q j j0 j1 => by rw [ff 38 (by omega) (by decide)]; exact nB.2 q j j0 j1⟩ hR2 hbx) rfl L_34 (by omega) rfl (Nat.le_of_ble_eq_true rfl) (fun M156 q156 => ?_)
              refine S.iinc (pc' := 162) (LL' := [_, _, _, _, _, _]) dX8_tryLines_159 rfl (by decide) rfl rfl rfl ?_
              refine S.goto (pc' := 94) dX8_tryLines_162 (by decide) ?_
              obtain ⟨t1, t2, t3⟩ := q156
              refine ihr (x + 1) _ (by omega) (by omega) (by omega) (by rw [ef]; exact t1) ⟨fun j j0 j1 => by rw [t2.1 j j0 (by omega), fp_ui_ne (by omega)], fun j j0 j1 jo => ?_⟩ (fun a ha => by rw [t3 a (by omega), ff a (by omega) (by omega)]; exact nF a ha)
              have hji : j ≠ i := fun e => by rw [e, hown] at jo; exact absurd jo (by decide)
              exact t2.2 j (by omega) j1 jo
          · rw [show g.2.1.toNat = x.toNat by omega]
            refine S.iload (pc' := 96) dX8_tryLines_94 rfl rfl ?_
            refine S.aload_n (pc' := 97) dX8_tryLines_96 rfl rfl rfl ?_
            refine S.getI (pc' := 100) dX8_tryLines_97 rfl fX8_50 (gd_lay gd18) ?_
            refine S.icmp_ge (pc' := 103) (tgt := 165) dX8_tryLines_100 (by decide) rfl (by unfold fp_rng; omega) (by unfold fp_rng; omega) (fun h100 => ?_) (fun h100 => ?_)
            · refine S.vret dX8_tryLines_165 rfl ?_
              exact ⟨nB, nR, nF⟩
            · exfalso; omega
      refine S.iload (pc' := 2) dX8_tryLines_0 rfl rfl ?_
      refine S.bipush (pc' := 4) dX8_tryLines_2 rfl (by decide) ?_
      refine S.icmp_ge (pc' := 7) (tgt := 16) dX8_tryLines_4 (by decide) rfl (by unfold fp_rng; omega) (by unfold fp_rng; omega) (fun h4 => ?_) (fun h4 => ?_)
      · exfalso; omega
      · refine S.iload (pc' := 9) dX8_tryLines_7 rfl rfl ?_
        refine S.aload_n (pc' := 10) dX8_tryLines_9 rfl rfl rfl ?_
        refine S.getI (pc' := 13) dX8_tryLines_10 rfl fX8_80 (vs_lay vs27) ?_
        refine S.icmp_lt (pc' := 16) (tgt := 33) dX8_tryLines_13 (by decide) rfl (by unfold fp_rng; omega) (by unfold fp_rng; omega) (fun h13 => ?_) (fun h13 => ?_)
        · refine S.aload_n (pc' := 34) dX8_tryLines_33 rfl rfl rfl ?_
          refine S.iload_n (pc' := 35) dX8_tryLines_34 rfl rfl rfl ?_
          refine S.iload (pc' := 37) dX8_tryLines_35 rfl rfl ?_
          refine S.callVe (pc' := 40) dX8_tryLines_37 rfl cX8_90 cO rfl (vs_lay vs27) (by omega) rfl (Nat.le_of_ble_eq_true rfl) ?_
          refine S.if_ne (pc' := 43) (tgt := 91) dX8_tryLines_40 (by decide) rfl (by unfold fp_rng; omega) (fun h40 => ?_) (fun h40 => ?_)
          · refine S.iconst (pc' := 92) dX8_tryLines_91 rfl ?_
            refine S.istore (pc' := 94) (LL' := [_, _, _, _, _, _]) dX8_tryLines_92 rfl (by decide) rfl rfl ?_
            exact hL (g.2.1.toNat + 1) 0 M (by omega) (by omega) (by omega) hB hR (fun _ _ => rfl)
          · exact absurd h40 (by decide)
        · exfalso; omega
    · rw [if_neg hown] at cO
      have hP1 := aHapI_ok (i := i) hg hP hvo
      have em : moC g vs p (n + 1) i.toNat pg c b = moC g vs p n (i + 1).toNat (aHapI g pg vs i).2 (fp_ui c i (-4)) b := by
        rw [moC_else (by rw [ei]; exact hown), ei, e1]
      have hown' : aOwn vs p i = false := by cases h : aOwn vs p i; rfl; exact absurd h hown
      rw [em]
      refine S.iload (pc' := 2) dX8_tryLines_0 rfl rfl ?_
      refine S.bipush (pc' := 4) dX8_tryLines_2 rfl (by decide) ?_
      refine S.icmp_ge (pc' := 7) (tgt := 16) dX8_tryLines_4 (by decide) rfl (by unfold fp_rng; omega) (by unfold fp_rng; omega) (fun h4 => ?_) (fun h4 => ?_)
      · exfalso; omega
      · refine S.iload (pc' := 9) dX8_tryLines_7 rfl rfl ?_
        refine S.aload_n (pc' := 10) dX8_tryLines_9 rfl rfl rfl ?_
        refine S.getI (pc' := 13) dX8_tryLines_10 rfl fX8_80 (vs_lay vs27) ?_
        refine S.icmp_lt (pc' := 16) (tgt := 33) dX8_tryLines_13 (by decide) rfl (by unfold fp_rng; omega) (by unfold fp_rng; omega) (fun h13 => ?_) (fun h13 => ?_)
        · refine S.aload_n (pc' := 34) dX8_tryLines_33 rfl rfl rfl ?_
          refine S.iload_n (pc' := 35) dX8_tryLines_34 rfl rfl rfl ?_
          refine S.iload (pc' := 37) dX8_tryLines_35 rfl rfl ?_
          refine S.callVe (pc' := 40) dX8_tryLines_37 rfl cX8_90 cO rfl (vs_lay vs27) (by omega) rfl (Nat.le_of_ble_eq_true rfl) ?_
          refine S.if_ne (pc' := 43) (tgt := 91) dX8_tryLines_40 (by decide) rfl (by unfold fp_rng; omega) (fun h40 => ?_) (fun h40 => ?_)
          · exact absurd rfl h40
          · refine S.aload_n (pc' := 44) dX8_tryLines_43 rfl rfl rfl ?_
            refine S.getR (pc' := 47) dX8_tryLines_44 rfl fX8_11 L_34 rf_34_0 ?_
            refine S.iload (pc' := 49) dX8_tryLines_47 rfl rfl ?_
            refine S.iconst (pc' := 50) dX8_tryLines_49 rfl ?_
            refine S.iadd (pc' := 51) dX8_tryLines_50 rfl ?_
            refine S.aald (pc' := 52) dX8_tryLines_51 rfl L_35 (by decide) (by decide) (by omega) (by omega) (stg_r (by omega) (by omega)) ?_
            refine S.aload_n (pc' := 53) dX8_tryLines_52 rfl rfl rfl ?_
            refine S.getR (pc' := 56) dX8_tryLines_53 rfl fX8_11 L_34 rf_34_0 ?_
            refine S.iload (pc' := 58) dX8_tryLines_56 rfl rfl ?_
            refine S.aald (pc' := 59) dX8_tryLines_58 rfl L_35 (by decide) (by decide) (by omega) (by omega) (stg_r (by omega) (by omega)) ?_
            refine S.callVv (pc' := 62) dX8_tryLines_59 rfl cX8_36 (rk_X5_copyFrom (g := g) (pg := pg) ho1 ho (by omega)) rfl (pl_lay (stg_o (by omega) (by omega))) (by omega) rfl (Nat.le_of_ble_eq_true rfl) (fun M59 q59 => ?_)
            obtain ⟨c1, f1⟩ := q59
            have d1 : gdIs M59 18 g := hd.kept (fun a q1 q2 => f1 a (by omega))
            have v1 : vsIs M59 27 vs := hv.kept (fun a q1 q2 => f1 a (by omega))
            refine S.aload_n (pc' := 63) dX8_tryLines_62 rfl rfl rfl ?_
            refine S.aload_n (pc' := 64) dX8_tryLines_63 rfl rfl rfl ?_
            refine S.aload_n (pc' := 65) dX8_tryLines_64 rfl rfl rfl ?_
            refine S.getR (pc' := 68) dX8_tryLines_65 rfl fX8_11 L_34 rf_34_0 ?_
            refine S.iload (pc' := 70) dX8_tryLines_68 rfl rfl ?_
            refine S.iconst (pc' := 71) dX8_tryLines_70 rfl ?_
            refine S.iadd (pc' := 72) dX8_tryLines_71 rfl ?_
            refine S.aald (pc' := 73) dX8_tryLines_72 rfl L_35 (by decide) (by decide) (by omega) (by omega) (stg_r (by omega) (by omega)) ?_
            refine S.iload (pc' := 75) dX8_tryLines_73 rfl rfl ?_
            refine S.callVi (pc' := 78) dX8_tryLines_75 rfl cX8_40 (rk_X10_happens (g := g) (pg := pg) (vs := vs) vs27 gd18 ho1) rfl (vs_lay vs27) (by omega) rfl (Nat.le_of_ble_eq_true rfl) (fun z75 M75 q75 => ?_)
            obtain ⟨z2, c2, f2⟩ := q75
            have ff : ∀ a, (a < 46 + 5 * i.toNat ∨ 50 + 5 * i.toNat < a) → M75 a = M a := fun a ha => by rw [f2 a (by omega), f1 a (by omega)]
            have hR2 : moR vs p M75 (i + 1) (fp_ui c i (-4)) := by
              refine ⟨fun j j0 j1 => ?_, fun j j0 j1 jo => by rw [ff 39 (by omega)]; exact hR.2 j (by omega) j1 jo⟩
              rw [ff 39 (by omega)]
              by_cases e : j = i
              · rw [e, fp_ui_at]; exact hR.2 i (by omega) (by omega) hown'
              · rw [fp_ui_ne e]; exact hR.1 j j0 (by omega)
            refine S.pop (pc' := 79) dX8_tryLines_78 rfl rfl ?_
            refine S.aload_n (pc' := 80) dX8_tryLines_79 rfl rfl rfl ?_
            refine S.aload_n (pc' := 81) dX8_tryLines_80 rfl rfl rfl ?_
            refine S.aload_n (pc' := 82) dX8_tryLines_81 rfl rfl rfl ?_
            refine S.iload_n (pc' := 83) dX8_tryLines_82 rfl rfl rfl ?_
            refine S.iload (pc' := 85) dX8_tryLines_83 rfl rfl ?_
            refine S.iconst (pc' := 86) dX8_tryLines_85 rfl ?_
            refine S.iadd (pc' := 87) dX8_tryLines_86 rfl ?_
            refine S.callVv (pc' := 90) dX8_tryLines_87 rfl cX8_76 (ih (i + 1) (aHapI g pg vs i).2 (fp_ui c i (-4)) b M75 (by omega) (by omega) hP1 c2 (hd.kept (fun a q1 q2 => ff a (by omega))) (hv.kept (fun a q1 q2 => ff a (by omega))) ⟨by rw [ff 34 (by omega)]; exact hB.1, fun q j j0 j1 => by rw [ff 38 (by omega)]; exact hB.2 q j j0 j1⟩ hR2 hb) rfl L_34 (by omega) rfl (Nat.le_of_ble_eq_true rfl) (fun M87 q87 => ?_)
            refine S.vret dX8_tryLines_90 rfl ?_
            obtain ⟨t1, t2, t3⟩ := q87
            refine ⟨t1, ⟨fun j j0 j1 => by rw [t2.1 j j0 (by omega), fp_ui_ne (by omega)], fun j j0 j1 jo => ?_⟩, fun a ha => by rw [t3 a (by omega), ff a (by omega)]⟩
            by_cases e : j = i
            · rw [e, t2.1 i (by omega) (by omega), fp_ui_at]
            · exact t2.2 j (by omega) j1 jo
        · exfalso; omega
end CMO
