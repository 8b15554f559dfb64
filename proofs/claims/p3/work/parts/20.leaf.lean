/-! THE CLASS'S LEAVES: Goods, givenSpot, isOne, isWithin -/
/-- the place of the least, of several the first, among 0 .. n -/
def fp_am (w : Int → Int) : Nat → Int
  | 0 => 0
  | n + 1 => if w ((n : Int) + 1) < w (fp_am w n) then (n : Int) + 1 else fp_am w n
theorem fp_am_succ {w : Int → Int} {i : Int} (h : 1 ≤ i) : fp_am w i.toNat = if w i < w (fp_am w (i - 1).toNat) then i else fp_am w (i - 1).toNat := by
  obtain ⟨n, rfl⟩ : ∃ n : Nat, i = (n : Int) + 1 := ⟨(i - 1).toNat, by omega⟩
  have e1 : ((n : Int) + 1).toNat = n + 1 := by omega
  have e2 : ((n : Int) + 1 - 1).toNat = n := by omega
  rw [e1, e2]
  rfl
theorem fp_am_le (w : Int → Int) : ∀ n : Nat, 0 ≤ fp_am w n ∧ fp_am w n ≤ n
  | 0 => by unfold fp_am; omega
  | n + 1 => by
    have h := fp_am_le w n
    unfold fp_am
    split <;> omega
/-- what place a line of that kind gives, of n that lie there -/
def fp_giv (kind : Int) (w : Int → Int) (n : Int) : Int := if kind = 0 then 0 else if kind = 1 then n - 1 else fp_am w (n - 1).toNat
theorem fp_giv_in {kind n : Int} {w : Int → Int} (h : 1 ≤ n) : 0 ≤ fp_giv kind w n ∧ fp_giv kind w n < n := by
  unfold fp_giv
  have := fp_am_le w (n - 1).toNat
  split
  · omega
  · split <;> omega
section LEAF
variable {l : Launch} {G : fp_WG} {M : fp_Mem}
theorem ok_X11_isOne {p : Int} (hp : fp_rng p := by first | assumption | (unfold fp_rng; omega)) : fp_Ok l G 0 kX11_isOne [iV p] M (qE (if 0 ≤ p ∧ p < 4 then 1 else 0) M) := by
  refine fp_Ok.of (r := 0) rfl (Nat.le_of_ble_eq_true rfl) rfl ?_
  refine S.iload_n dX11_isOne_0 rfl rfl rfl ?_
  refine S.if_lt (tgt := 13) dX11_isOne_1 (by decide) rfl hp (fun h1 => ?_) (fun h1 => ?_)
  · refine S.iconst dX11_isOne_13 rfl ?_
    refine S.zret dX11_isOne_14 rfl (by first | exact Or.inl rfl | exact Or.inr rfl | omega) ?_
    refine ⟨?_, rfl⟩
    first | rw [if_pos ⟨by omega, by omega⟩] | rw [if_neg (by omega)]
  · refine S.iload_n dX11_isOne_4 rfl rfl rfl ?_
    refine S.iconst dX11_isOne_5 rfl ?_
    refine S.icmp_ge (tgt := 13) dX11_isOne_6 (by decide) rfl hp (by unfold fp_rng; omega) (fun h6 => ?_) (fun h6 => ?_)
    · refine S.iconst dX11_isOne_13 rfl ?_
      refine S.zret dX11_isOne_14 rfl (by first | exact Or.inl rfl | exact Or.inr rfl | omega) ?_
      refine ⟨?_, rfl⟩
      first | rw [if_pos ⟨by omega, by omega⟩] | rw [if_neg (by omega)]
    · refine S.iconst dX11_isOne_9 rfl ?_
      refine S.goto (pc' := 14) dX11_isOne_10 (by decide) ?_
      refine S.zret dX11_isOne_14 rfl (by first | exact Or.inl rfl | exact Or.inr rfl | omega) ?_
      refine ⟨?_, rfl⟩
      first | rw [if_pos ⟨by omega, by omega⟩] | rw [if_neg (by omega)]
theorem ok_X11_isWithin {n g : Int} (hn : fp_rng n := by first | assumption | (unfold fp_rng; omega)) (hg : fp_rng g := by first | assumption | (unfold fp_rng; omega)) : fp_Ok l G 0 kX11_isWithin [iV n, iV g] M (qE (if 0 ≤ n ∧ n ≤ g then 1 else 0) M) := by
  refine fp_Ok.of (r := 0) rfl (Nat.le_of_ble_eq_true rfl) rfl ?_
  refine S.iload_n dX11_isWithin_0 rfl rfl rfl ?_
  refine S.if_lt (tgt := 13) dX11_isWithin_1 (by decide) rfl hn (fun h1 => ?_) (fun h1 => ?_)
  · refine S.iconst dX11_isWithin_13 rfl ?_
    refine S.zret dX11_isWithin_14 rfl (by first | exact Or.inl rfl | exact Or.inr rfl | omega) ?_
    refine ⟨?_, rfl⟩
    first | rw [if_pos ⟨by omega, by omega⟩] | rw [if_neg (by omega)]
  · refine S.iload_n dX11_isWithin_4 rfl rfl rfl ?_
    refine S.iload_n dX11_isWithin_5 rfl rfl rfl ?_
    refine S.icmp_gt (tgt := 13) dX11_isWithin_6 (by decide) rfl hn hg (fun h6 => ?_) (fun h6 => ?_)
    · refine S.iconst dX11_isWithin_13 rfl ?_
      refine S.zret dX11_isWithin_14 rfl (by first | exact Or.inl rfl | exact Or.inr rfl | omega) ?_
      refine ⟨?_, rfl⟩
      first | rw [if_pos ⟨by omega, by omega⟩] | rw [if_neg (by omega)]
    · refine S.iconst dX11_isWithin_9 rfl ?_
      refine S.goto (pc' := 14) dX11_isWithin_10 (by decide) ?_
      refine S.zret dX11_isWithin_14 rfl (by first | exact Or.inl rfl | exact Or.inr rfl | omega) ?_
      refine ⟨?_, rfl⟩
      first | rw [if_pos ⟨by omega, by omega⟩] | rw [if_neg (by omega)]
theorem ok_X1_hasThing {k : Nat} {t : Int} (hk : fp_isgd k) (ht : fp_rng t := by first | assumption | (unfold fp_rng; omega)) (hm : fp_rng (M k 0) := by first | assumption | (unfold fp_rng; omega)) : fp_Ok l G 0 kX1_hasThing [rV G k, iV t] M (qE (if 0 ≤ t ∧ t < M k 0 then 1 else 0) M) := by
  refine fp_Ok.of (r := 0) rfl (Nat.le_of_ble_eq_true rfl) rfl ?_
  refine S.iload_n dX1_hasThing_0 rfl rfl rfl ?_
  refine S.if_lt (tgt := 16) dX1_hasThing_1 (by decide) rfl ht (fun h1 => ?_) (fun h1 => ?_)
  · refine S.iconst dX1_hasThing_16 rfl ?_
    refine S.zret dX1_hasThing_17 rfl (by first | exact Or.inl rfl | exact Or.inr rfl | omega) ?_
    refine ⟨?_, rfl⟩
    first | rw [if_pos ⟨by omega, by omega⟩] | rw [if_neg (by omega)]
  · refine S.iload_n dX1_hasThing_4 rfl rfl rfl ?_
    refine S.aload_n dX1_hasThing_5 rfl rfl rfl ?_
    refine S.getI dX1_hasThing_6 rfl fX1_25 (gd_lay hk) ?_
    refine S.icmp_ge (tgt := 16) dX1_hasThing_9 (by decide) rfl ht hm (fun h9 => ?_) (fun h9 => ?_)
    · refine S.iconst dX1_hasThing_16 rfl ?_
      refine S.zret dX1_hasThing_17 rfl (by first | exact Or.inl rfl | exact Or.inr rfl | omega) ?_
      refine ⟨?_, rfl⟩
      first | rw [if_pos ⟨by omega, by omega⟩] | rw [if_neg (by omega)]
    · refine S.iconst dX1_hasThing_12 rfl ?_
      refine S.goto (pc' := 17) dX1_hasThing_13 (by decide) ?_
      refine S.zret dX1_hasThing_17 rfl (by first | exact Or.inl rfl | exact Or.inr rfl | omega) ?_
      refine ⟨?_, rfl⟩
      first | rw [if_pos ⟨by omega, by omega⟩] | rw [if_neg (by omega)]
theorem ok_X1_hasLine {k : Nat} {t : Int} (hk : fp_isgd k) (ht : fp_rng t := by first | assumption | (unfold fp_rng; omega)) (hm : fp_rng (M k 1) := by first | assumption | (unfold fp_rng; omega)) : fp_Ok l G 0 kX1_hasLine [rV G k, iV t] M (qE (if 0 ≤ t ∧ t < M k 1 then 1 else 0) M) := by
  refine fp_Ok.of (r := 0) rfl (Nat.le_of_ble_eq_true rfl) rfl ?_
  refine S.iload_n dX1_hasLine_0 rfl rfl rfl ?_
  refine S.if_lt (tgt := 16) dX1_hasLine_1 (by decide) rfl ht (fun h1 => ?_) (fun h1 => ?_)
  · refine S.iconst dX1_hasLine_16 rfl ?_
    refine S.zret dX1_hasLine_17 rfl (by first | exact Or.inl rfl | exact Or.inr rfl | omega) ?_
    refine ⟨?_, rfl⟩
    first | rw [if_pos ⟨by omega, by omega⟩] | rw [if_neg (by omega)]
  · refine S.iload_n dX1_hasLine_4 rfl rfl rfl ?_
    refine S.aload_n dX1_hasLine_5 rfl rfl rfl ?_
    refine S.getI dX1_hasLine_6 rfl fX1_28 (gd_lay hk) ?_
    refine S.icmp_ge (tgt := 16) dX1_hasLine_9 (by decide) rfl ht hm (fun h9 => ?_) (fun h9 => ?_)
    · refine S.iconst dX1_hasLine_16 rfl ?_
      refine S.zret dX1_hasLine_17 rfl (by first | exact Or.inl rfl | exact Or.inr rfl | omega) ?_
      refine ⟨?_, rfl⟩
      first | rw [if_pos ⟨by omega, by omega⟩] | rw [if_neg (by omega)]
    · refine S.iconst dX1_hasLine_12 rfl ?_
      refine S.goto (pc' := 17) dX1_hasLine_13 (by decide) ?_
      refine S.zret dX1_hasLine_17 rfl (by first | exact Or.inl rfl | exact Or.inr rfl | omega) ?_
      refine ⟨?_, rfl⟩
      first | rw [if_pos ⟨by omega, by omega⟩] | rw [if_neg (by omega)]
theorem ok_X1_valueTo {k : Nat} {p t : Int} (hk : fp_isgd k) (hp : 0 ≤ p ∧ p < 4 := by first | assumption | omega) (ht : 0 ≤ t ∧ t ≤ 10 := by first | assumption | omega) : fp_Ok l G 0 kX1_valueTo [rV G k, iV p, iV t] M (qE (M (k + 2) (t * 4 + p).toNat) M) := by
  refine fp_Ok.of (r := 0) rfl (Nat.le_of_ble_eq_true rfl) rfl ?_
  refine S.aload_n dX1_valueTo_0 rfl rfl rfl ?_
  refine S.getR dX1_valueTo_1 rfl fX1_19 (gd_lay hk) (gd_r4 hk) ?_
  refine S.iload_n dX1_valueTo_4 rfl rfl rfl ?_
  refine S.iconst dX1_valueTo_5 rfl ?_
  refine S.imul dX1_valueTo_6 rfl ?_
  refine S.iload_n dX1_valueTo_7 rfl rfl rfl ?_
  refine S.iadd dX1_valueTo_8 rfl ?_
  refine S.iald dX1_valueTo_9 rfl (gd_a4 hk) (by omega) (by omega) ?_
  refine S.iret dX1_valueTo_10 rfl ?_
  exact ⟨rfl, rfl⟩
theorem gs_loop {kg kr len : Nat} {kind fr lie : Int} (hg : fp_isgd kg) (hr : fp_lay kr = (1, len)) (h1 : 0 ≤ fr) (h2 : fr + lie ≤ len) (hl : lie ≤ 100)
    (hrow : ∀ i : Int, 0 ≤ i → i < lie → 0 ≤ M kr (fr + i).toNat ∧ M kr (fr + i).toNat ≤ 10) (hw : ∀ i : Int, 0 ≤ i → i < 11 → 0 ≤ M (kg + 1) i.toNat ∧ M (kg + 1) i.toNat ≤ 100) : ∀ (n : Nat) (i b : Int), (lie - i).toNat < n → 1 ≤ i → i ≤ lie → b = fp_am (fun i => M (kg + 1) (M kr (fr + i).toNat).toNat) (i - 1).toNat →
    fp_S l G 0 kX11_givenSpot 22 [some (rV G kg), some (iV kind), some (rV G kr), some (iV fr), some (iV lie), some (iV b), some (iV i)] [] M (qE (fp_am (fun i => M (kg + 1) (M kr (fr + i).toNat).toNat) (lie - 1).toNat) M) := by
  intro n
  induction n with
  | zero => intro i b h; omega
  | succ n ih =>
    intro i b h hi1 hi2 hb
    have hbb := fp_am_le (fun i => M (kg + 1) (M kr (fr + i).toNat).toNat) (i - 1).toNat
    rw [← hb] at hbb
    refine S.iload dX11_givenSpot_22 rfl rfl ?_
    refine S.iload dX11_givenSpot_24 rfl rfl ?_
    refine S.icmp_ge (tgt := 64) dX11_givenSpot_26 (by decide) rfl (by unfold fp_rng; omega) (by unfold fp_rng; omega) (fun h26 => ?_) (fun h26 => ?_)
    · refine S.iload dX11_givenSpot_64 rfl rfl ?_
      refine S.iret dX11_givenSpot_66 rfl ?_
      refine ⟨?_, rfl⟩
      rw [hb, show lie = i by omega]
    · have r1 := hrow i (by omega) (by omega)
      have r2 := hrow b (by omega) (by omega)
      have w1 := hw _ r1.1 (by omega)
      have w2 := hw _ r2.1 (by omega)
      have es := fp_am_succ (w := fun i => M (kg + 1) (M kr (fr + i).toNat).toNat) hi1
      refine S.aload_n dX11_givenSpot_29 rfl rfl rfl ?_
      refine S.getR dX11_givenSpot_30 rfl fX11_134 (gd_lay hg) (gd_r3 hg) ?_
      refine S.aload_n dX11_givenSpot_33 rfl rfl rfl ?_
      refine S.iload_n dX11_givenSpot_34 rfl rfl rfl ?_
      refine S.iload dX11_givenSpot_35 rfl rfl ?_
      refine S.iadd dX11_givenSpot_37 rfl ?_
      refine S.iald dX11_givenSpot_38 rfl hr (by omega) (by omega) ?_
      refine S.iald dX11_givenSpot_39 rfl (gd_a3 hg) (by omega) (by omega) ?_
      refine S.aload_n dX11_givenSpot_40 rfl rfl rfl ?_
      refine S.getR dX11_givenSpot_41 rfl fX11_134 (gd_lay hg) (gd_r3 hg) ?_
      refine S.aload_n dX11_givenSpot_44 rfl rfl rfl ?_
      refine S.iload_n dX11_givenSpot_45 rfl rfl rfl ?_
      refine S.iload dX11_givenSpot_46 rfl rfl ?_
      refine S.iadd dX11_givenSpot_48 rfl ?_
      refine S.iald dX11_givenSpot_49 rfl hr (by omega) (by omega) ?_
      refine S.iald dX11_givenSpot_50 rfl (gd_a3 hg) (by omega) (by omega) ?_
      refine S.icmp_ge (tgt := 58) dX11_givenSpot_51 (by decide) rfl (by unfold fp_rng; omega) (by unfold fp_rng; omega) (fun h51 => ?_) (fun h51 => ?_)
      · refine S.iinc (LL' := [_, _, _, _, _, _, _]) dX11_givenSpot_58 rfl (by decide) rfl rfl rfl ?_
        refine S.goto (pc' := 22) dX11_givenSpot_61 (by decide) ?_
        refine ih _ _ (by omega) (by omega) (by omega) ?_
        rw [show i + 1 - 1 = i by omega, es, ← hb]
        first | rw [if_pos (by omega)] | rw [if_neg (by omega)]
      · refine S.iload dX11_givenSpot_54 rfl rfl ?_
        refine S.istore (LL' := [_, _, _, _, _, _, _]) dX11_givenSpot_56 rfl (by decide) rfl rfl ?_
        refine S.iinc (LL' := [_, _, _, _, _, _, _]) dX11_givenSpot_58 rfl (by decide) rfl rfl rfl ?_
        refine S.goto (pc' := 22) dX11_givenSpot_61 (by decide) ?_
        refine ih _ _ (by omega) (by omega) (by omega) ?_
        rw [show i + 1 - 1 = i by omega, es, ← hb]
        first | rw [if_pos (by omega)] | rw [if_neg (by omega)]
theorem ok_X11_givenSpot {kg kr len : Nat} {kind fr lie : Int} (hg : fp_isgd kg) (hr : fp_lay kr = (1, len)) (hk : fp_rng kind := by first | assumption | (unfold fp_rng; omega)) (h1 : 0 ≤ fr := by omega) (h2 : fr + lie ≤ len := by omega) (hl : lie ≤ 100 := by omega) (hl1 : 1 ≤ lie := by omega)
    (hrow : ∀ i : Int, 0 ≤ i → i < lie → 0 ≤ M kr (fr + i).toNat ∧ M kr (fr + i).toNat ≤ 10 := by assumption) (hw : ∀ i : Int, 0 ≤ i → i < 11 → 0 ≤ M (kg + 1) i.toNat ∧ M (kg + 1) i.toNat ≤ 100 := by assumption) : fp_Ok l G 0 kX11_givenSpot [rV G kg, iV kind, rV G kr, iV fr, iV lie] M (qE (fp_giv kind (fun i => M (kg + 1) (M kr (fr + i).toNat).toNat) lie) M) := by
  refine fp_Ok.of (r := 2) rfl (Nat.le_of_ble_eq_true rfl) rfl ?_
  unfold fp_giv
  refine S.iload_n dX11_givenSpot_0 rfl rfl rfl ?_
  refine S.if_ne (tgt := 6) dX11_givenSpot_1 (by decide) rfl hk (fun h1_ => ?_) (fun h1_ => ?_)
  · refine S.iload_n dX11_givenSpot_6 rfl rfl rfl ?_
    refine S.iconst dX11_givenSpot_7 rfl ?_
    refine S.icmp_ne (tgt := 16) dX11_givenSpot_8 (by decide) rfl hk (by unfold fp_rng; omega) (fun h8 => ?_) (fun h8 => ?_)
    · refine S.iconst dX11_givenSpot_16 rfl ?_
      refine S.istore (LL' := [_, _, _, _, _, _, _]) dX11_givenSpot_17 rfl (by decide) rfl rfl ?_
      refine S.iconst dX11_givenSpot_19 rfl ?_
      refine S.istore (LL' := [_, _, _, _, _, _, _]) dX11_givenSpot_20 rfl (by decide) rfl rfl ?_
      rw [if_neg h1_, if_neg h8]
      exact gs_loop hg hr h1 h2 hl hrow hw (lie.toNat + 1) 1 0 (by omega) (by omega) (by omega) rfl
    · refine S.iload dX11_givenSpot_11 rfl rfl ?_
      refine S.iconst dX11_givenSpot_13 rfl ?_
      refine S.isub dX11_givenSpot_14 rfl ?_
      refine S.iret dX11_givenSpot_15 rfl ?_
      exact ⟨by rw [if_neg h1_, if_pos h8], rfl⟩
  · refine S.iconst dX11_givenSpot_4 rfl ?_
    refine S.iret dX11_givenSpot_5 rfl ?_
    exact ⟨by rw [if_pos h1_], rfl⟩
end LEAF
