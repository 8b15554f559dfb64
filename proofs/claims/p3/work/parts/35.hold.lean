/-! WHO HOLDS WHAT, on both sides -/
def aHolds (g : aGd) (pg : aPg) (p : Int) : Int := fp_hb pg.1 p g.1.toNat
def aWorth (g : aGd) (pg : aPg) (p : Int) : Int := fp_sum (fun t => if pg.1 t = p then g.2.2.2.2.1 t p else 0) g.1.toNat
def aLeast (g : aGd) (pg : aPg) (p : Int) : Int := fp_find pg.1 p g.1.toNat 0
def aSpot (pg : aPg) (t : Int) : Int := if 10 ≤ pg.1 t then fp_find (fun i => (pg.2.2 (pg.1 t - 10)).getD i.toNat 0) t (pg.2.2 (pg.1 t - 10)).length 0 else -4
theorem fp_hb_ext {w v : Int → Int} {p : Int} {n : Nat} (h1 : ∀ t : Int, 0 ≤ t → t < n → w t = v t) : ∀ m : Nat, n ≤ m → (∀ t : Int, n ≤ t → t < m → w t ≠ p) → fp_hb w p m = fp_hb v p n := by
  have hc : ∀ n : Nat, (∀ t : Int, 0 ≤ t → t < n → w t = v t) → fp_hb w p n = fp_hb v p n := by
    intro n
    induction n with
    | zero => intro _; rfl
    | succ n ih =>
      intro h
      unfold fp_hb
      rw [ih (fun t t0 t1 => h t t0 (by omega)), h n (by omega) (by omega)]
  intro m
  induction m with
  | zero =>
    intro hm _
    have : n = 0 := by omega
    subst this; rfl
  | succ m ih =>
    intro hm h2
    by_cases e : n = m + 1
    · subst e; exact hc _ h1
    · rw [← ih (by omega) (fun t t0 t1 => h2 t t0 (by omega))]
      show (if w m = p then _ else _) = _
      rw [if_neg (h2 m (by omega) (by omega))]
theorem fp_sum_congr {f h : Int → Int} : ∀ n : Nat, (∀ t : Int, 0 ≤ t → t < n → f t = h t) → fp_sum f n = fp_sum h n
  | 0, _ => rfl
  | n + 1, e => by
    unfold fp_sum
    rw [fp_sum_congr n (fun t t0 t1 => e t t0 (by omega)), e n (by omega) (by omega)]
theorem fp_find_congr {f h : Int → Int} {t : Int} : ∀ (n : Nat) (i : Int), (∀ j : Int, i ≤ j → j < i + n → f j = h j) → fp_find f t n i = fp_find h t n i
  | 0, _, _ => rfl
  | n + 1, i, e => by
    unfold fp_find
    rw [e i (by omega) (by omega), fp_find_congr n (i + 1) (fun j j0 j1 => e j (by omega) (by omega))]
theorem fp_find_none {f : Int → Int} {t : Int} : ∀ (n : Nat) (i : Int), (∀ j : Int, i ≤ j → j < i + n → f j ≠ t) → fp_find f t n i = -4
  | 0, _, _ => rfl
  | n + 1, i, e => by
    unfold fp_find
    rw [if_neg (e i (by omega) (by omega)), fp_find_none n (i + 1) (fun j j0 j1 => e j (by omega) (by omega))]
theorem fp_find_ext {f : Int → Int} {t : Int} : ∀ (n m : Nat) (i : Int), n ≤ m → (∀ j : Int, i + n ≤ j → j < i + m → f j ≠ t) → fp_find f t m i = fp_find f t n i
  | 0, m, i, _, e => fp_find_none m i (fun j j0 j1 => e j (by omega) (by omega))
  | n + 1, 0, i, h, _ => by omega
  | n + 1, m + 1, i, h, e => by
    unfold fp_find
    rw [fp_find_ext n m (i + 1) (by omega) (fun j j0 j1 => e j (by omega) (by omega))]
theorem fp_find_in {f : Int → Int} {t : Int} : ∀ (n : Nat) (i : Int), fp_find f t n i = -4 ∨ (i ≤ fp_find f t n i ∧ fp_find f t n i < i + n ∧ f (fp_find f t n i) = t)
  | 0, _ => Or.inl rfl
  | n + 1, i => by
    unfold fp_find
    split
    · rename_i h; exact Or.inr ⟨by omega, by omega, h⟩
    · rcases fp_find_in (f := f) (t := t) n (i + 1) with h | h
      · exact Or.inl h
      · exact Or.inr ⟨by omega, by omega, h.2.2⟩
section HLD
variable {l : Launch} {G : fp_WG} {M : fp_Mem} {k kg : Nat} {a : Int} {g : aGd} {pg : aPg}
theorem rk_X5_heldBy {p : Int} (hk : fp_ispl k) (hc : clIs M k g pg := by assumption) (hg : gOk g := by assumption) (hp : 0 ≤ p ∧ p < 4 := by first | assumption | omega) : fp_Ok l G 0 kX5_heldBy [rV G k, iV p] M (qE (aHolds g pg p) M) := by
  have e : fp_hb (fun t => M (k + 1) t.toNat) p 10 = aHolds g pg p := by
    have hg1 := hg.1
    exact fp_hb_ext (fun t t0 t1 => hc.1 t t0 (by omega)) 10 (by omega) (fun t t0 t1 => by have := hc.2.1 t (by omega) (by omega); omega)
  rw [← e]
  exact ok_X5_heldBy hk hc.2.2.2.2
theorem rk_X5_leastHeldBy {p : Int} (hk : fp_ispl k) (hc : clIs M k g pg := by assumption) (hg : gOk g := by assumption) (hp : 0 ≤ p ∧ p < 4 := by first | assumption | omega) : fp_Ok l G 0 kX5_leastHeldBy [rV G k, iV p] M (qE (aLeast g pg p) M) := by
  have e : fp_find (fun t => M (k + 1) t.toNat) p 10 0 = aLeast g pg p := by
    have hg1 := hg.1
    rw [fp_find_ext g.1.toNat 10 0 (by omega) (fun t t0 t1 => by have := hc.2.1 t (by omega) (by omega); omega)]
    exact fp_find_congr _ _ (fun t t0 t1 => hc.1 t (by omega) (by omega))
  rw [← e]
  exact ok_X5_leastHeldBy hk hc.2.2.2.2
theorem rk_X5_worthTo {p : Int} (hk : fp_ispl k) (hkg : fp_isgd kg) (hc : clIs M k g pg := by assumption) (hd : gdIs M kg g := by assumption) (hg : gOk g := by assumption) (hp : 0 ≤ p ∧ p < 4 := by first | assumption | omega) : fp_Ok l G 1 kX5_worthTo [rV G k, rV G kg, iV p] M (qE (aWorth g pg p) M) := by
  have e : fp_sum (fun t => if M (k + 1) t.toNat = p then M (kg + 2) (t * 4 + p).toNat else 0) (M kg 0).toNat = aWorth g pg p := by
    have hg1 := hg.1
    rw [hd.1]
    exact fp_sum_congr _ (fun t t0 t1 => by rw [hc.1 t t0 (by omega), hd.2.2.2.2.2.1 t p t0 (by omega) hp.1 hp.2])
  rw [← e]
  exact ok_X5_worthTo hk hkg hc.2.2.2.2 hd.2.2.2.2.2.2.2.2
theorem rk_X5_spotOf {t : Int} (hk : fp_ispl k) (hc : clIs M k g pg := by assumption) (hP : pgOk g pg := by assumption) (hg : gOk g := by assumption) (ht : 0 ≤ t ∧ t < g.1 := by first | assumption | omega) : fp_Ok l G 0 kX5_spotOf [rV G k, iV t] M (qE (aSpot pg t) M) := by
  have hg1 := hg.1
  have hg2 := hg.2.1
  have e : pl_spot M k t = aSpot pg t := by
    unfold pl_spot aSpot
    have hw := hP.1 t ht.1 ht.2
    rw [hc.1 t ht.1 ht.2]
    by_cases h : 10 ≤ pg.1 t
    · rw [if_pos (by omega), if_pos h]
      obtain ⟨n1, n2, n3⟩ := hc.line hP (x := pg.1 t - 10) ⟨by omega, by omega⟩ hg
      rw [n1]
      exact fp_find_congr _ _ (fun i i0 i1 => (n2 i i0 (by omega)).1)
    · rw [if_neg (by omega), if_neg h]
  rw [← e]
  exact ok_X5_spotOf hk hc.2.2.2.2 ⟨ht.1, by omega⟩
theorem mheld_loop {p : Int} (ha : 0 ≤ a ∧ a ≤ 500) (hc : mpIs M a g pg) (hd : mdIs M g) (hP : pgOk g pg) (hg : gOk g) (hp : fp_rng p) : ∀ (n : Nat) (t : Int), (g.1 - t).toNat < n → 0 ≤ t → t ≤ g.1 →
    fp_S l G 0 kX12_holdsAt 5 [some (rV G 177), some (iV a), some (iV p), some (iV (fp_hb pg.1 p t.toNat)), some (iV t)] [] M (qE (aHolds g pg p) M) := by
  have hg1 := hg.1
  have hg2 := hg.2.1
  have hd1 := hd.1
  intro n
  induction n with
  | zero => intro t h; omega
  | succ n ih =>
    intro t h h0 h1
    have hb := fp_hb_lt pg.1 p t.toNat
    have es := fp_hb_succ (w := pg.1) (p := p) h0
    have hpw := fp_pow_le (i := t) (n := 12) (by omega)
    refine S.iload dX12_holdsAt_5 rfl rfl ?_
    refine S.aload_n dX12_holdsAt_7 rfl rfl rfl ?_
    refine S.getI dX12_holdsAt_8 rfl fX12_181 L_177 ?_
    refine S.icmp_ge (tgt := 44) dX12_holdsAt_11 (by decide) rfl (by unfold fp_rng; omega) (by unfold fp_rng; omega) (fun h11 => ?_) (fun h11 => ?_)
    · refine S.iload_n dX12_holdsAt_44 rfl rfl rfl ?_
      refine S.iret dX12_holdsAt_45 rfl ?_
      exact ⟨by rw [show t = g.1 by omega]; rfl, rfl⟩
    · have hw := hc.1 t (by omega) (by omega)
      have hwo := hP.1 t (by omega) (by omega)
      refine S.iload_n dX12_holdsAt_14 rfl rfl rfl ?_
      refine S.aload_n dX12_holdsAt_15 rfl rfl rfl ?_
      refine S.getR dX12_holdsAt_16 rfl fX12_7 L_177 rf_177_0 ?_
      refine S.iload_n dX12_holdsAt_19 rfl rfl rfl ?_
      refine S.iload dX12_holdsAt_20 rfl rfl ?_
      refine S.iadd dX12_holdsAt_22 rfl ?_
      refine S.iald dX12_holdsAt_23 rfl L_178 (by omega) (by omega) ?_
      refine S.iload_n dX12_holdsAt_24 rfl rfl rfl ?_
      refine S.icmp_ne (tgt := 35) dX12_holdsAt_25 (by decide) rfl (by unfold fp_rng; omega) hp (fun h25 => ?_) (fun h25 => ?_)
      · refine S.iconst dX12_holdsAt_35 rfl ?_
        refine S.ior dX12_holdsAt_36 rfl (fp_ior hb.1 (by omega)) ?_
        refine S.istore_n (LL' := [_, _, _, _, _]) dX12_holdsAt_37 rfl (by decide) rfl rfl rfl ?_
        refine S.iinc (LL' := [_, _, _, _, _]) dX12_holdsAt_38 rfl (by decide) rfl rfl rfl ?_
        refine S.goto (pc' := 5) dX12_holdsAt_41 (by decide) ?_
        first | (rw [hw] at h25; rw [if_neg h25] at es; rw [fp_or0 hb.1, ← es]; exact ih _ (by omega) (by omega) (by omega)) | (rw [hw] at h25; rw [if_pos h25] at es; rw [← es]; exact ih _ (by omega) (by omega) (by omega))
      · refine S.iconst dX12_holdsAt_28 rfl ?_
        refine S.iload dX12_holdsAt_29 rfl rfl ?_
        refine S.ishl dX12_holdsAt_31 rfl (fp_shl1 (by omega) (by omega)) ?_
        refine S.goto (pc' := 36) dX12_holdsAt_32 (by decide) ?_
        refine S.ior dX12_holdsAt_36 rfl (fp_ior hb.1 (by omega)) ?_
        refine S.istore_n (LL' := [_, _, _, _, _]) dX12_holdsAt_37 rfl (by decide) rfl rfl rfl ?_
        refine S.iinc (LL' := [_, _, _, _, _]) dX12_holdsAt_38 rfl (by decide) rfl rfl rfl ?_
        refine S.goto (pc' := 5) dX12_holdsAt_41 (by decide) ?_
        first | (rw [hw] at h25; rw [if_neg h25] at es; rw [fp_or0 hb.1, ← es]; exact ih _ (by omega) (by omega) (by omega)) | (rw [hw] at h25; rw [if_pos h25] at es; rw [← es]; exact ih _ (by omega) (by omega) (by omega))
theorem rk_X12_holdsAt {p : Int} (ha : 0 ≤ a ∧ a ≤ 500 := by omega) (hc : mpIs M a g pg := by assumption) (hd : mdIs M g := by assumption) (hP : pgOk g pg := by assumption) (hg : gOk g := by assumption) (hp : fp_rng p := by first | assumption | (unfold fp_rng; omega)) : fp_Ok l G 0 kX12_holdsAt [rV G 177, iV a, iV p] M (qE (aHolds g pg p) M) := by
  have hg1 := hg.1
  refine fp_Ok.of (r := 2) rfl (Nat.le_of_ble_eq_true rfl) rfl ?_
  refine S.iconst dX12_holdsAt_0 rfl ?_
  refine S.istore_n (LL' := [_, _, _, _, _]) dX12_holdsAt_1 rfl (by decide) rfl rfl rfl ?_
  refine S.iconst dX12_holdsAt_2 rfl ?_
  refine S.istore (LL' := [_, _, _, _, _]) dX12_holdsAt_3 rfl (by decide) rfl rfl ?_
  exact mheld_loop ha hc hd hP hg hp (g.1.toNat + 1) 0 (by omega) (by omega) (by omega)
theorem mworth_loop {p : Int} (ha : 0 ≤ a ∧ a ≤ 500) (hc : mpIs M a g pg) (hd : mdIs M g) (hP : pgOk g pg) (hg : gOk g) (hp : 0 ≤ p ∧ p < 4) : ∀ (n : Nat) (t : Int), (g.1 - t).toNat < n → 0 ≤ t → t ≤ g.1 →
    fp_S l G 0 kX12_worthAt 5 [some (rV G 177), some (iV a), some (iV p), some (iV (fp_sum (fun t => if pg.1 t = p then g.2.2.2.2.1 t p else 0) t.toNat)), some (iV t)] [] M (qE (aWorth g pg p) M) := by
  have hg1 := hg.1
  have hg2 := hg.2.1
  have hd1 := hd.1
  intro n
  induction n with
  | zero => intro t h; omega
  | succ n ih =>
    intro t h h0 h1
    have es := fp_sum_succ (f := fun t => if pg.1 t = p then g.2.2.2.2.1 t p else 0) h0
    refine S.iload dX12_worthAt_5 rfl rfl ?_
    refine S.aload_n dX12_worthAt_7 rfl rfl rfl ?_
    refine S.getI dX12_worthAt_8 rfl fX12_181 L_177 ?_
    refine S.icmp_ge (tgt := 51) dX12_worthAt_11 (by decide) rfl (by unfold fp_rng; omega) (by unfold fp_rng; omega) (fun h11 => ?_) (fun h11 => ?_)
    · refine S.iload_n dX12_worthAt_51 rfl rfl rfl ?_
      refine S.iret dX12_worthAt_52 rfl ?_
      exact ⟨by rw [show t = g.1 by omega]; rfl, rfl⟩
    · have hw := hc.1 t (by omega) (by omega)
      have hwo := hP.1 t (by omega) (by omega)
      have hvl := hd.2.2.2.2.2.1 t p h0 (by omega) hp.1 hp.2
      refine S.iload_n dX12_worthAt_14 rfl rfl rfl ?_
      refine S.aload_n dX12_worthAt_15 rfl rfl rfl ?_
      refine S.getR dX12_worthAt_16 rfl fX12_7 L_177 rf_177_0 ?_
      refine S.iload_n dX12_worthAt_19 rfl rfl rfl ?_
      refine S.iload dX12_worthAt_20 rfl rfl ?_
      refine S.iadd dX12_worthAt_22 rfl ?_
      refine S.iald dX12_worthAt_23 rfl L_178 (by omega) (by omega) ?_
      refine S.iload_n dX12_worthAt_24 rfl rfl rfl ?_
      refine S.icmp_ne (tgt := 42) dX12_worthAt_25 (by decide) rfl (by unfold fp_rng; omega) (by unfold fp_rng; omega) (fun h25 => ?_) (fun h25 => ?_)
      · refine S.iconst dX12_worthAt_42 rfl ?_
        refine S.iadd dX12_worthAt_43 rfl ?_
        refine S.istore_n (LL' := [_, _, _, _, _]) dX12_worthAt_44 rfl (by decide) rfl rfl rfl ?_
        refine S.iinc (LL' := [_, _, _, _, _]) dX12_worthAt_45 rfl (by decide) rfl rfl rfl ?_
        refine S.goto (pc' := 5) dX12_worthAt_48 (by decide) ?_
        first | (rw [hw] at h25; rw [if_neg h25] at es; rw [← es]; exact ih _ (by omega) (by omega) (by omega)) | (rw [hw] at h25; rw [if_pos h25] at es; rw [hvl, ← es]; exact ih _ (by omega) (by omega) (by omega))
      · refine S.aload_n dX12_worthAt_28 rfl rfl rfl ?_
        refine S.getR dX12_worthAt_29 rfl fX12_16 L_177 rf_177_2 ?_
        refine S.iconst dX12_worthAt_32 rfl ?_
        refine S.iload dX12_worthAt_33 rfl rfl ?_
        refine S.imul dX12_worthAt_35 rfl ?_
        refine S.iload_n dX12_worthAt_36 rfl rfl rfl ?_
        refine S.iadd dX12_worthAt_37 rfl ?_
        refine S.iald dX12_worthAt_38 rfl L_180 (by omega) (by omega) ?_
        refine S.goto (pc' := 43) dX12_worthAt_39 (by decide) ?_
        refine S.iadd dX12_worthAt_43 rfl ?_
        refine S.istore_n (LL' := [_, _, _, _, _]) dX12_worthAt_44 rfl (by decide) rfl rfl rfl ?_
        refine S.iinc (LL' := [_, _, _, _, _]) dX12_worthAt_45 rfl (by decide) rfl rfl rfl ?_
        refine S.goto (pc' := 5) dX12_worthAt_48 (by decide) ?_
        first | (rw [hw] at h25; rw [if_neg h25] at es; rw [← es]; exact ih _ (by omega) (by omega) (by omega)) | (rw [hw] at h25; rw [if_pos h25] at es; rw [hvl, ← es]; exact ih _ (by omega) (by omega) (by omega))
theorem rk_X12_worthAt {p : Int} (ha : 0 ≤ a ∧ a ≤ 500 := by omega) (hc : mpIs M a g pg := by assumption) (hd : mdIs M g := by assumption) (hP : pgOk g pg := by assumption) (hg : gOk g := by assumption) (hp : 0 ≤ p ∧ p < 4 := by first | assumption | omega) : fp_Ok l G 0 kX12_worthAt [rV G 177, iV a, iV p] M (qE (aWorth g pg p) M) := by
  have hg1 := hg.1
  refine fp_Ok.of (r := 2) rfl (Nat.le_of_ble_eq_true rfl) rfl ?_
  refine S.iconst dX12_worthAt_0 rfl ?_
  refine S.istore_n (LL' := [_, _, _, _, _]) dX12_worthAt_1 rfl (by decide) rfl rfl rfl ?_
  refine S.iconst dX12_worthAt_2 rfl ?_
  refine S.istore (LL' := [_, _, _, _, _]) dX12_worthAt_3 rfl (by decide) rfl rfl ?_
  exact mworth_loop ha hc hd hP hg hp (g.1.toNat + 1) 0 (by omega) (by omega) (by omega)
theorem mplace_loop {t : Int} (hc : mpIs M 0 g pg) (hP : pgOk g pg) (hg : gOk g) (ht : 0 ≤ t ∧ t < g.1) (hx : 10 ≤ pg.1 t) : ∀ (n : Nat) (i : Int), (((pg.2.2 (pg.1 t - 10)).length : Int) - i).toNat = n → 0 ≤ i → i ≤ (pg.2.2 (pg.1 t - 10)).length →
    fp_S l G 1 kX12_placeOf 12 [some (rV G 177), some (iV t), some (iV (pg.1 t - 10)), some (iV i)] [] M (qE (fp_find (fun i => (pg.2.2 (pg.1 t - 10)).getD i.toNat 0) t n i) M) := by
  have hg1 := hg.1
  have hg2 := hg.2.1
  have hwo := hP.1 t ht.1 ht.2
  obtain ⟨n1, n2, n3⟩ := hc.line hP (x := pg.1 t - 10) ⟨by omega, by omega⟩ hg
  intro n
  induction n with
  | zero =>
    intro i h h0 h1
    refine S.iload_n dX12_placeOf_12 rfl rfl rfl ?_
    refine S.if_lt (tgt := 45) dX12_placeOf_13 (by decide) rfl (by unfold fp_rng; omega) (fun h13 => ?_) (fun h13 => ?_)
    · refine S.bipush dX12_placeOf_45 rfl (by decide) ?_
      refine S.iret dX12_placeOf_47 rfl ?_
      exact ⟨rfl, rfl⟩
    · refine S.iload_n dX12_placeOf_16 rfl rfl rfl ?_
      refine S.aload_n dX12_placeOf_17 rfl rfl rfl ?_
      refine S.iconst dX12_placeOf_18 rfl ?_
      refine S.iload_n dX12_placeOf_19 rfl rfl rfl ?_
      refine S.callVe dX12_placeOf_20 rfl cX12_198 (ok_X12_lie) rfl L_177 (by decide) rfl (Nat.le_of_ble_eq_true rfl) ?_
      refine S.icmp_ge (tgt := 45) dX12_placeOf_23 (by decide) rfl (by unfold fp_rng; omega) (by unfold fp_rng; omega) (fun h23 => ?_) (fun h23 => ?_)
      · refine S.bipush dX12_placeOf_45 rfl (by decide) ?_
        refine S.iret dX12_placeOf_47 rfl ?_
        exact ⟨rfl, rfl⟩
      · exfalso; omega
  | succ n ih =>
    intro i h h0 h1
    unfold fp_find
    have q := n2 i h0 (by omega)
    refine S.iload_n dX12_placeOf_12 rfl rfl rfl ?_
    refine S.if_lt (tgt := 45) dX12_placeOf_13 (by decide) rfl (by unfold fp_rng; omega) (fun h13 => ?_) (fun h13 => ?_)
    · refine S.bipush dX12_placeOf_45 rfl (by decide) ?_
      refine S.iret dX12_placeOf_47 rfl ?_
      exfalso; omega
    · refine S.iload_n dX12_placeOf_16 rfl rfl rfl ?_
      refine S.aload_n dX12_placeOf_17 rfl rfl rfl ?_
      refine S.iconst dX12_placeOf_18 rfl ?_
      refine S.iload_n dX12_placeOf_19 rfl rfl rfl ?_
      refine S.callVe dX12_placeOf_20 rfl cX12_198 (ok_X12_lie) rfl L_177 (by decide) rfl (Nat.le_of_ble_eq_true rfl) ?_
      refine S.icmp_ge (tgt := 45) dX12_placeOf_23 (by decide) rfl (by unfold fp_rng; omega) (by unfold fp_rng; omega) (fun h23 => ?_) (fun h23 => ?_)
      · refine S.bipush dX12_placeOf_45 rfl (by decide) ?_
        refine S.iret dX12_placeOf_47 rfl ?_
        exfalso; omega
      · refine S.aload_n dX12_placeOf_26 rfl rfl rfl ?_
        refine S.iconst dX12_placeOf_27 rfl ?_
        refine S.iload_n dX12_placeOf_28 rfl rfl rfl ?_
        refine S.iload_n dX12_placeOf_29 rfl rfl rfl ?_
        refine S.callVe dX12_placeOf_30 rfl cX12_201 (ok_X12_lies) rfl L_177 (by decide) rfl (Nat.le_of_ble_eq_true rfl) ?_
        refine S.iload_n dX12_placeOf_33 rfl rfl rfl ?_
        refine S.icmp_ne (tgt := 39) dX12_placeOf_34 (by decide) rfl (by unfold fp_rng; omega) (by unfold fp_rng; omega) (fun h34 => ?_) (fun h34 => ?_)
        · refine S.iinc (LL' := [_, _, _, _]) dX12_placeOf_39 rfl (by decide) rfl rfl rfl ?_
          refine S.goto (pc' := 12) dX12_placeOf_42 (by decide) ?_
          rw [q.1] at h34; rw [if_neg h34]
          exact ih _ (by omega) (by omega) (by omega)
        · refine S.iload_n dX12_placeOf_37 rfl rfl rfl ?_
          refine S.iret dX12_placeOf_38 rfl ?_
          exact ⟨by rw [q.1] at h34; rw [if_pos h34], rfl⟩
theorem rk_X12_placeOf {t : Int} (hc : mpIs M 0 g pg := by assumption) (hP : pgOk g pg := by assumption) (hg : gOk g := by assumption) (ht : 0 ≤ t ∧ t < g.1 := by first | assumption | omega) : fp_Ok l G 1 kX12_placeOf [rV G 177, iV t] M (qE (aSpot pg t) M) := by
  have hg1 := hg.1
  have hg2 := hg.2.1
  have hwo := hP.1 t ht.1 ht.2
  have hw := hc.1 t ht.1 ht.2
  rw [Int.zero_add] at hw
  unfold aSpot
  refine fp_Ok.of (r := 2) rfl (Nat.le_of_ble_eq_true rfl) rfl ?_
  by_cases h : 10 ≤ pg.1 t
  · rw [if_pos h]
    refine S.aload_n dX12_placeOf_0 rfl rfl rfl ?_
    refine S.getR dX12_placeOf_1 rfl fX12_7 L_177 rf_177_0 ?_
    refine S.iload_n dX12_placeOf_4 rfl rfl rfl ?_
    refine S.iald dX12_placeOf_5 rfl L_178 (by omega) (by omega) ?_
    rw [hw]
    refine S.bipush dX12_placeOf_6 rfl (by decide) ?_
    refine S.isub dX12_placeOf_8 rfl ?_
    refine S.istore_n (LL' := [_, _, _, _]) dX12_placeOf_9 rfl (by decide) rfl rfl rfl ?_
    refine S.iconst dX12_placeOf_10 rfl ?_
    refine S.istore_n (LL' := [_, _, _, _]) dX12_placeOf_11 rfl (by decide) rfl rfl rfl ?_
    exact mplace_loop hc hP hg ht h _ 0 (by omega) (by omega) (by omega)
  · rw [if_neg h]
    refine S.aload_n dX12_placeOf_0 rfl rfl rfl ?_
    refine S.getR dX12_placeOf_1 rfl fX12_7 L_177 rf_177_0 ?_
    refine S.iload_n dX12_placeOf_4 rfl rfl rfl ?_
    refine S.iald dX12_placeOf_5 rfl L_178 (by omega) (by omega) ?_
    refine S.bipush dX12_placeOf_6 rfl (by decide) ?_
    refine S.isub dX12_placeOf_8 rfl ?_
    refine S.istore_n (LL' := [_, _, _, _]) dX12_placeOf_9 rfl (by decide) rfl rfl rfl ?_
    refine S.iconst dX12_placeOf_10 rfl ?_
    refine S.istore_n (LL' := [_, _, _, _]) dX12_placeOf_11 rfl (by decide) rfl rfl rfl ?_
    refine S.iload_n dX12_placeOf_12 rfl rfl rfl ?_
    refine S.if_lt (tgt := 45) dX12_placeOf_13 (by decide) rfl (by unfold fp_rng; omega) (fun h13 => ?_) (fun h13 => ?_)
    · refine S.bipush dX12_placeOf_45 rfl (by decide) ?_
      refine S.iret dX12_placeOf_47 rfl ?_
      exact ⟨rfl, rfl⟩
    · exfalso; omega
end HLD
