-- joined by tools/merge.py: 30.model, 31.model, 32.mrep, 33.mrel, 34.mrun, 35.hold, 40.state, 41.pub, 42.pub, 43.pub
section
/-! THE REFERENCE, outright: in, lie, lies, givesAt, laysIn, takesOut -/
section MDL
variable {l : Launch} {G : fp_WG} {M : fp_Mem}
theorem fp_cmp_lt {a b : Int} : ((if b < a then 1 else if a = b then 0 else -1 : Int) < 0 ↔ a < b) := by (repeat' split) <;> omega
theorem fp_cmp_gt {a b : Int} : (0 < (if b < a then 1 else if a = b then 0 else -1 : Int) ↔ b < a) := by (repeat' split) <;> omega
theorem fp_cmp_rng {a b : Int} : fp_rng (if b < a then 1 else if a = b then 0 else -1 : Int) := by unfold fp_rng; (repeat' split) <;> omega
theorem ok_X12_in {v lo hi : Int} (h1 : fp_lng v := by first | assumption | (unfold fp_lng; omega)) (h2 : fp_lng lo := by first | assumption | (unfold fp_lng; omega)) (h3 : fp_lng hi := by first | assumption | (unfold fp_lng; omega)) : fp_Ok l G 0 kX12_in [jV v, jV lo, jV hi] M (qE (if lo ≤ v ∧ v ≤ hi then 1 else 0) M) := by
  refine fp_Ok.of (r := 0) rfl (Nat.le_of_ble_eq_true rfl) rfl ?_
  refine S.lload_n dX12_in_0 rfl rfl rfl ?_
  refine S.lload_n dX12_in_1 rfl rfl rfl ?_
  refine S.lcmp dX12_in_2 rfl h1 h2 ?_
  refine S.if_lt (tgt := 17) dX12_in_3 (by decide) rfl fp_cmp_rng (fun c3 => ?_) (fun c3 => ?_)
  · refine S.iconst dX12_in_17 rfl ?_
    refine S.zret dX12_in_18 rfl (by first | exact Or.inl rfl | exact Or.inr rfl | omega) ?_
    refine ⟨?_, rfl⟩
    first | rw [if_pos ⟨by rw [fp_cmp_lt] at c3; omega, by rw [fp_cmp_gt] at c10; omega⟩] | rw [if_neg (by rw [fp_cmp_gt] at c10; omega)] | rw [if_neg (by rw [fp_cmp_lt] at c3; omega)]
  · refine S.lload_n dX12_in_6 rfl rfl rfl ?_
    refine S.lload dX12_in_7 rfl rfl ?_
    refine S.lcmp dX12_in_9 rfl h1 h3 ?_
    refine S.if_gt (tgt := 17) dX12_in_10 (by decide) rfl fp_cmp_rng (fun c10 => ?_) (fun c10 => ?_)
    · refine S.iconst dX12_in_17 rfl ?_
      refine S.zret dX12_in_18 rfl (by first | exact Or.inl rfl | exact Or.inr rfl | omega) ?_
      refine ⟨?_, rfl⟩
      first | rw [if_pos ⟨by rw [fp_cmp_lt] at c3; omega, by rw [fp_cmp_gt] at c10; omega⟩] | rw [if_neg (by rw [fp_cmp_gt] at c10; omega)] | rw [if_neg (by rw [fp_cmp_lt] at c3; omega)]
    · refine S.iconst dX12_in_13 rfl ?_
      refine S.goto (pc' := 18) dX12_in_14 (by decide) ?_
      refine S.zret dX12_in_18 rfl (by first | exact Or.inl rfl | exact Or.inr rfl | omega) ?_
      refine ⟨?_, rfl⟩
      first | rw [if_pos ⟨by rw [fp_cmp_lt] at c3; omega, by rw [fp_cmp_gt] at c10; omega⟩] | rw [if_neg (by rw [fp_cmp_gt] at c10; omega)] | rw [if_neg (by rw [fp_cmp_lt] at c3; omega)]
theorem ok_X12_isThing {t : Int} (ht : fp_rng t := by first | assumption | (unfold fp_rng; omega)) (hm : 0 ≤ M 177 4 ∧ M 177 4 ≤ 10 := by first | assumption | omega) : fp_Ok l G 1 kX12_isThing [rV G 177, iV t] M (qE (if 0 ≤ t ∧ t < M 177 4 then 1 else 0) M) := by
  have ht' := ht
  unfold fp_rng at ht'
  refine fp_Ok.of (r := 0) rfl (Nat.le_of_ble_eq_true rfl) rfl ?_
  refine S.iload_n dX12_isThing_0 rfl rfl rfl ?_
  refine S.i2l dX12_isThing_1 rfl ht ?_
  refine S.lconst (w := 0) dX12_isThing_2 rfl rfl ?_
  refine S.aload_n dX12_isThing_3 rfl rfl rfl ?_
  refine S.getI dX12_isThing_4 rfl fX12_181 L_177 ?_
  refine S.iconst dX12_isThing_7 rfl ?_
  refine S.isub dX12_isThing_8 rfl ?_
  refine S.i2l dX12_isThing_9 rfl (by unfold fp_rng; omega) ?_
  refine S.callSe dX12_isThing_10 rfl cX12_94 (ok_X12_in) rfl (by decide) rfl (Nat.le_of_ble_eq_true rfl) ?_
  refine S.zret dX12_isThing_13 rfl (by split <;> simp) ?_
  refine ⟨?_, rfl⟩
  by_cases c : 0 ≤ t ∧ t < M 177 4
  · rw [if_pos ⟨by omega, by omega⟩, if_pos c]
  · rw [if_neg (by omega), if_neg c]
theorem ok_X12_isLine {t : Int} (ht : fp_rng t := by first | assumption | (unfold fp_rng; omega)) (hm : 0 ≤ M 177 5 ∧ M 177 5 ≤ 3 := by first | assumption | omega) : fp_Ok l G 1 kX12_isLine [rV G 177, iV t] M (qE (if 0 ≤ t ∧ t < M 177 5 then 1 else 0) M) := by
  have ht' := ht
  unfold fp_rng at ht'
  refine fp_Ok.of (r := 0) rfl (Nat.le_of_ble_eq_true rfl) rfl ?_
  refine S.iload_n dX12_isLine_0 rfl rfl rfl ?_
  refine S.i2l dX12_isLine_1 rfl ht ?_
  refine S.lconst (w := 0) dX12_isLine_2 rfl rfl ?_
  refine S.aload_n dX12_isLine_3 rfl rfl rfl ?_
  refine S.getI dX12_isLine_4 rfl fX12_184 L_177 ?_
  refine S.iconst dX12_isLine_7 rfl ?_
  refine S.isub dX12_isLine_8 rfl ?_
  refine S.i2l dX12_isLine_9 rfl (by unfold fp_rng; omega) ?_
  refine S.callSe dX12_isLine_10 rfl cX12_94 (ok_X12_in) rfl (by decide) rfl (Nat.le_of_ble_eq_true rfl) ?_
  refine S.zret dX12_isLine_13 rfl (by split <;> simp) ?_
  refine ⟨?_, rfl⟩
  by_cases c : 0 ≤ t ∧ t < M 177 5
  · rw [if_pos ⟨by omega, by omega⟩, if_pos c]
  · rw [if_neg (by omega), if_neg c]
theorem ok_X12_isOne {t : Int} (ht : fp_rng t := by first | assumption | (unfold fp_rng; omega)) : fp_Ok l G 1 kX12_isOne [iV t] M (qE (if 0 ≤ t ∧ t < 4 then 1 else 0) M) := by
  have ht' := ht
  unfold fp_rng at ht'
  refine fp_Ok.of (r := 0) rfl (Nat.le_of_ble_eq_true rfl) rfl ?_
  refine S.iload_n dX12_isOne_0 rfl rfl rfl ?_
  refine S.i2l dX12_isOne_1 rfl ht ?_
  refine S.lconst (w := 0) dX12_isOne_2 rfl rfl ?_
  refine S.ldc2 (v := 3) dX12_isOne_3 rfl lX12_196 (by decide) ?_
  refine S.callSe dX12_isOne_6 rfl cX12_94 (ok_X12_in) rfl (by decide) rfl (Nat.le_of_ble_eq_true rfl) ?_
  refine S.zret dX12_isOne_9 rfl (by split <;> simp) ?_
  refine ⟨?_, rfl⟩
  by_cases c : 0 ≤ t ∧ t < 4
  · rw [if_pos ⟨by omega, by omega⟩, if_pos c]
  · rw [if_neg (by omega), if_neg c]
theorem ok_X12_visits : fp_Ok l G 0 kX12_visits [rV G 177] M (qE (M 178 95) M) := by
  refine fp_Ok.of (r := 0) rfl (Nat.le_of_ble_eq_true rfl) rfl ?_
  refine S.aload_n dX12_visits_0 rfl rfl rfl ?_
  refine S.getR dX12_visits_1 rfl fX12_7 L_177 rf_177_0 ?_
  refine S.bipush dX12_visits_4 rfl (by decide) ?_
  refine S.iald dX12_visits_6 rfl L_178 (by omega) (by omega) ?_
  refine S.iret dX12_visits_7 rfl ?_
  exact ⟨rfl, rfl⟩
theorem ok_X12_lie {at_ x : Int} (h1 : 0 ≤ at_ := by omega) (h2 : at_ ≤ 500 := by omega) (hx : 0 ≤ x ∧ x < 3 := by first | assumption | omega) : fp_Ok l G 0 kX12_lie [rV G 177, iV at_, iV x] M (qE (M 178 (at_ + 10 + 9 * x).toNat) M) := by
  refine fp_Ok.of (r := 0) rfl (Nat.le_of_ble_eq_true rfl) rfl ?_
  refine S.aload_n dX12_lie_0 rfl rfl rfl ?_
  refine S.getR dX12_lie_1 rfl fX12_7 L_177 rf_177_0 ?_
  refine S.iload_n dX12_lie_4 rfl rfl rfl ?_
  refine S.bipush dX12_lie_5 rfl (by decide) ?_
  refine S.iadd dX12_lie_7 rfl ?_
  refine S.bipush dX12_lie_8 rfl (by decide) ?_
  refine S.iload_n dX12_lie_10 rfl rfl rfl ?_
  refine S.imul dX12_lie_11 rfl ?_
  refine S.iadd dX12_lie_12 rfl ?_
  refine S.iald dX12_lie_13 rfl L_178 (by omega) (by omega) ?_
  refine S.iret dX12_lie_14 rfl ?_
  exact ⟨rfl, rfl⟩
theorem ok_X12_lies {at_ x i : Int} (h1 : 0 ≤ at_ := by omega) (h2 : at_ ≤ 500 := by omega) (hx : 0 ≤ x ∧ x < 3 := by first | assumption | omega) (hi : 0 ≤ i ∧ i < 20 := by first | assumption | omega) : fp_Ok l G 0 kX12_lies [rV G 177, iV at_, iV x, iV i] M (qE (M 178 (at_ + 10 + 9 * x + 1 + i).toNat) M) := by
  refine fp_Ok.of (r := 0) rfl (Nat.le_of_ble_eq_true rfl) rfl ?_
  refine S.aload_n dX12_lies_0 rfl rfl rfl ?_
  refine S.getR dX12_lies_1 rfl fX12_7 L_177 rf_177_0 ?_
  refine S.iload_n dX12_lies_4 rfl rfl rfl ?_
  refine S.bipush dX12_lies_5 rfl (by decide) ?_
  refine S.iadd dX12_lies_7 rfl ?_
  refine S.bipush dX12_lies_8 rfl (by decide) ?_
  refine S.iload_n dX12_lies_10 rfl rfl rfl ?_
  refine S.imul dX12_lies_11 rfl ?_
  refine S.iadd dX12_lies_12 rfl ?_
  refine S.iconst dX12_lies_13 rfl ?_
  refine S.iadd dX12_lies_14 rfl ?_
  refine S.iload_n dX12_lies_15 rfl rfl rfl ?_
  refine S.iadd dX12_lies_16 rfl ?_
  refine S.iald dX12_lies_17 rfl L_178 (by omega) (by omega) ?_
  refine S.iret dX12_lies_18 rfl ?_
  exact ⟨rfl, rfl⟩
/-- weights, kinds in bounds -/
def md_ok (M : fp_Mem) : Prop := (0 ≤ M 177 4 ∧ M 177 4 ≤ 10) ∧ (0 ≤ M 177 5 ∧ M 177 5 ≤ 3) ∧ (0 ≤ M 177 6 ∧ M 177 6 ≤ 10) ∧ (∀ i : Int, 0 ≤ i → i < 11 → 0 ≤ M 179 i.toNat ∧ M 179 i.toNat ≤ 100) ∧ (∀ i : Int, 0 ≤ i → i < 44 → 0 ≤ M 180 i.toNat ∧ M 180 i.toNat ≤ 20) ∧ ∀ x : Int, 0 ≤ x → x < 3 → 0 ≤ M 181 x.toNat ∧ M 181 x.toNat ≤ 2
def md_w (M : fp_Mem) (at_ x : Int) (i : Int) : Int := M 179 (M 178 (at_ + 10 + 9 * x + 1 + i).toNat).toNat
/-- the place that a draw gives; none -/
def md_sel (M : fp_Mem) (at_ x : Int) : Int := if M 178 (at_ + 10 + 9 * x).toNat = 0 then -4 else fp_giv (M 181 x.toNat) (md_w M at_ x) (M 178 (at_ + 10 + 9 * x).toNat)
theorem ga_loop {at_ x n0 : Int} (h1 : 0 ≤ at_) (h2 : at_ ≤ 500) (hx : 0 ≤ x ∧ x < 3) (ho : md_ok M) (hn : n0 ≤ 8) (hk : M 181 x.toNat = 2)
    (hrow : ∀ i : Int, 0 ≤ i → i < n0 → 0 ≤ M 178 (at_ + 10 + 9 * x + 1 + i).toNat ∧ M 178 (at_ + 10 + 9 * x + 1 + i).toNat ≤ 10) : ∀ (n : Nat) (i b : Int), (n0 - i).toNat < n → 1 ≤ i → i ≤ n0 → b = fp_am (md_w M at_ x) (i - 1).toNat →
    fp_S l G 1 kX12_givesAt 36 [some (rV G 177), some (iV at_), some (iV x), some (iV n0), some (iV b), some (iV i)] [] M (qE (fp_am (md_w M at_ x) (n0 - 1).toNat) M) := by
  intro n
  induction n with
  | zero => intro i b h; omega
  | succ n ih =>
    intro i b h hi1 hi2 hb
    have hbb := fp_am_le (md_w M at_ x) (i - 1).toNat
    rw [← hb] at hbb
    refine S.iload dX12_givesAt_36 rfl rfl ?_
    refine S.iload_n dX12_givesAt_38 rfl rfl rfl ?_
    refine S.icmp_ge (tgt := 96) dX12_givesAt_39 (by decide) rfl (by unfold fp_rng; omega) (by unfold fp_rng; omega) (fun h39 => ?_) (fun h39 => ?_)
    · refine S.iload dX12_givesAt_96 rfl rfl ?_
      refine S.iret dX12_givesAt_98 rfl ?_
      refine ⟨?_, rfl⟩
      first | (exfalso; omega) | rw [hb, show n0 = i by omega]
    · refine S.aload_n dX12_givesAt_42 rfl rfl rfl ?_
      refine S.getR dX12_givesAt_43 rfl fX12_19 L_177 rf_177_3 ?_
      refine S.iload_n dX12_givesAt_46 rfl rfl rfl ?_
      refine S.iald dX12_givesAt_47 rfl L_181 (by omega) (by omega) ?_
      refine S.iconst dX12_givesAt_48 rfl ?_
      refine S.icmp_ne (tgt := 96) dX12_givesAt_49 (by decide) rfl (by unfold fp_rng; omega) (by unfold fp_rng; omega) (fun h49 => ?_) (fun h49 => ?_)
      · refine S.iload dX12_givesAt_96 rfl rfl ?_
        refine S.iret dX12_givesAt_98 rfl ?_
        refine ⟨?_, rfl⟩
        first | (exfalso; omega) | rw [hb, show n0 = i by omega]
      · have r1 := hrow i (by omega) (by omega)
        have r2 := hrow b (by omega) (by omega)
        have w1 := ho.2.2.2.1 _ r1.1 (by omega)
        have w2 := ho.2.2.2.1 _ r2.1 (by omega)
        have es := fp_am_succ (w := md_w M at_ x) hi1
        unfold md_w at es
        refine S.aload_n dX12_givesAt_52 rfl rfl rfl ?_
        refine S.getR dX12_givesAt_53 rfl fX12_13 L_177 rf_177_1 ?_
        refine S.aload_n dX12_givesAt_56 rfl rfl rfl ?_
        refine S.iload_n dX12_givesAt_57 rfl rfl rfl ?_
        refine S.iload_n dX12_givesAt_58 rfl rfl rfl ?_
        refine S.iload dX12_givesAt_59 rfl rfl ?_
        refine S.callVe dX12_givesAt_61 rfl cX12_201 (ok_X12_lies) rfl L_177 (by decide) rfl (Nat.le_of_ble_eq_true rfl) ?_
        refine S.iald dX12_givesAt_64 rfl L_179 (by omega) (by omega) ?_
        refine S.aload_n dX12_givesAt_65 rfl rfl rfl ?_
        refine S.getR dX12_givesAt_66 rfl fX12_13 L_177 rf_177_1 ?_
        refine S.aload_n dX12_givesAt_69 rfl rfl rfl ?_
        refine S.iload_n dX12_givesAt_70 rfl rfl rfl ?_
        refine S.iload_n dX12_givesAt_71 rfl rfl rfl ?_
        refine S.iload dX12_givesAt_72 rfl rfl ?_
        refine S.callVe dX12_givesAt_74 rfl cX12_201 (ok_X12_lies) rfl L_177 (by decide) rfl (Nat.le_of_ble_eq_true rfl) ?_
        refine S.iald dX12_givesAt_77 rfl L_179 (by omega) (by omega) ?_
        refine S.icmp_ge (tgt := 86) dX12_givesAt_78 (by decide) rfl (by unfold fp_rng; omega) (by unfold fp_rng; omega) (fun h78 => ?_) (fun h78 => ?_)
        · refine S.iload dX12_givesAt_86 rfl rfl ?_
          refine S.istore (LL' := [_, _, _, _, _, _]) dX12_givesAt_88 rfl (by decide) rfl rfl ?_
          refine S.iinc (LL' := [_, _, _, _, _, _]) dX12_givesAt_90 rfl (by decide) rfl rfl rfl ?_
          refine S.goto (pc' := 36) dX12_givesAt_93 (by decide) ?_
          refine ih _ _ (by omega) (by omega) (by omega) ?_
          rw [show i + 1 - 1 = i by omega]
          unfold md_w
          rw [es]
          have hb' := hb
          unfold md_w at hb'
          rw [← hb']
          first | rw [if_pos (by omega)] | rw [if_neg (by omega)]
        · refine S.iload dX12_givesAt_81 rfl rfl ?_
          refine S.goto (pc' := 88) dX12_givesAt_83 (by decide) ?_
          refine S.istore (LL' := [_, _, _, _, _, _]) dX12_givesAt_88 rfl (by decide) rfl rfl ?_
          refine S.iinc (LL' := [_, _, _, _, _, _]) dX12_givesAt_90 rfl (by decide) rfl rfl rfl ?_
          refine S.goto (pc' := 36) dX12_givesAt_93 (by decide) ?_
          refine ih _ _ (by omega) (by omega) (by omega) ?_
          rw [show i + 1 - 1 = i by omega]
          unfold md_w
          rw [es]
          have hb' := hb
          unfold md_w at hb'
          rw [← hb']
          first | rw [if_pos (by omega)] | rw [if_neg (by omega)]
theorem ok_X12_givesAt {at_ x : Int} (h1 : 0 ≤ at_ := by omega) (h2 : at_ ≤ 500 := by omega) (hx : 0 ≤ x ∧ x < 3 := by first | assumption | omega) (ho : md_ok M := by assumption) (hn : 0 ≤ M 178 (at_ + 10 + 9 * x).toNat ∧ M 178 (at_ + 10 + 9 * x).toNat ≤ 8 := by first | assumption | omega)
    (hrow : ∀ i : Int, 0 ≤ i → i < M 178 (at_ + 10 + 9 * x).toNat → 0 ≤ M 178 (at_ + 10 + 9 * x + 1 + i).toNat ∧ M 178 (at_ + 10 + 9 * x + 1 + i).toNat ≤ 10 := by assumption) : fp_Ok l G 1 kX12_givesAt [rV G 177, iV at_, iV x] M (qE (md_sel M at_ x) M) := by
  have hkd := ho.2.2.2.2.2 x hx.1 hx.2
  unfold md_sel fp_giv
  refine fp_Ok.of (r := 3) rfl (Nat.le_of_ble_eq_true rfl) rfl ?_
  by_cases hk : M 181 x.toNat = 2
  · refine S.aload_n dX12_givesAt_0 rfl rfl rfl ?_
    refine S.iload_n dX12_givesAt_1 rfl rfl rfl ?_
    refine S.iload_n dX12_givesAt_2 rfl rfl rfl ?_
    refine S.callVe dX12_givesAt_3 rfl cX12_198 (ok_X12_lie) rfl L_177 (by decide) rfl (Nat.le_of_ble_eq_true rfl) ?_
    refine S.istore_n (LL' := [_, _, _, _, _, _]) dX12_givesAt_6 rfl (by decide) rfl rfl rfl ?_
    refine S.iload_n dX12_givesAt_7 rfl rfl rfl ?_
    refine S.if_ne (tgt := 14) dX12_givesAt_8 (by decide) rfl (by unfold fp_rng; omega) (fun h8 => ?_) (fun h8 => ?_)
    · refine S.aload_n dX12_givesAt_14 rfl rfl rfl ?_
      refine S.getR dX12_givesAt_15 rfl fX12_19 L_177 rf_177_3 ?_
      refine S.iload_n dX12_givesAt_18 rfl rfl rfl ?_
      refine S.iald dX12_givesAt_19 rfl L_181 (by omega) (by omega) ?_
      refine S.iconst dX12_givesAt_20 rfl ?_
      refine S.icmp_ne (tgt := 30) dX12_givesAt_21 (by decide) rfl (by unfold fp_rng; omega) (by unfold fp_rng; omega) (fun h21 => ?_) (fun h21 => ?_)
      · refine S.iconst dX12_givesAt_30 rfl ?_
        refine S.istore (LL' := [_, _, _, _, _, _]) dX12_givesAt_31 rfl (by decide) rfl rfl ?_
        refine S.iconst dX12_givesAt_33 rfl ?_
        refine S.istore (LL' := [_, _, _, _, _, _]) dX12_givesAt_34 rfl (by decide) rfl rfl ?_
        rw [if_neg h8, if_neg (by omega), if_neg (by omega)]
        exact ga_loop h1 h2 hx ho hn.2 hk hrow ((M 178 (at_ + 10 + 9 * x).toNat).toNat + 1) 1 0 (by omega) (by omega) (by omega) rfl
      · exfalso; omega
    · refine S.bipush dX12_givesAt_11 rfl (by decide) ?_
      refine S.iret dX12_givesAt_13 rfl ?_
      exact ⟨by rw [if_pos h8], rfl⟩
  · refine S.aload_n dX12_givesAt_0 rfl rfl rfl ?_
    refine S.iload_n dX12_givesAt_1 rfl rfl rfl ?_
    refine S.iload_n dX12_givesAt_2 rfl rfl rfl ?_
    refine S.callVe dX12_givesAt_3 rfl cX12_198 (ok_X12_lie) rfl L_177 (by decide) rfl (Nat.le_of_ble_eq_true rfl) ?_
    refine S.istore_n (LL' := [_, _, _, _, _, _]) dX12_givesAt_6 rfl (by decide) rfl rfl rfl ?_
    refine S.iload_n dX12_givesAt_7 rfl rfl rfl ?_
    refine S.if_ne (tgt := 14) dX12_givesAt_8 (by decide) rfl (by unfold fp_rng; omega) (fun h8 => ?_) (fun h8 => ?_)
    · refine S.aload_n dX12_givesAt_14 rfl rfl rfl ?_
      refine S.getR dX12_givesAt_15 rfl fX12_19 L_177 rf_177_3 ?_
      refine S.iload_n dX12_givesAt_18 rfl rfl rfl ?_
      refine S.iald dX12_givesAt_19 rfl L_181 (by omega) (by omega) ?_
      refine S.iconst dX12_givesAt_20 rfl ?_
      refine S.icmp_ne (tgt := 30) dX12_givesAt_21 (by decide) rfl (by unfold fp_rng; omega) (by unfold fp_rng; omega) (fun h21 => ?_) (fun h21 => ?_)
      · refine S.iconst dX12_givesAt_30 rfl ?_
        refine S.istore (LL' := [_, _, _, _, _, _]) dX12_givesAt_31 rfl (by decide) rfl rfl ?_
        refine S.iconst dX12_givesAt_33 rfl ?_
        refine S.istore (LL' := [_, _, _, _, _, _]) dX12_givesAt_34 rfl (by decide) rfl rfl ?_
        refine S.iload dX12_givesAt_36 rfl rfl ?_
        refine S.iload_n dX12_givesAt_38 rfl rfl rfl ?_
        refine S.icmp_ge (tgt := 96) dX12_givesAt_39 (by decide) rfl (by unfold fp_rng; omega) (by unfold fp_rng; omega) (fun h39 => ?_) (fun h39 => ?_)
        · refine S.iload dX12_givesAt_96 rfl rfl ?_
          refine S.iret dX12_givesAt_98 rfl ?_
          refine ⟨?_, rfl⟩
          rw [if_neg h8]
          by_cases h0 : M 181 x.toNat = 0
          · rw [if_pos h0]; try omega
          · rw [if_neg h0, if_pos (by omega)]; try omega
        · refine S.aload_n dX12_givesAt_42 rfl rfl rfl ?_
          refine S.getR dX12_givesAt_43 rfl fX12_19 L_177 rf_177_3 ?_
          refine S.iload_n dX12_givesAt_46 rfl rfl rfl ?_
          refine S.iald dX12_givesAt_47 rfl L_181 (by omega) (by omega) ?_
          refine S.iconst dX12_givesAt_48 rfl ?_
          refine S.icmp_ne (tgt := 96) dX12_givesAt_49 (by decide) rfl (by unfold fp_rng; omega) (by unfold fp_rng; omega) (fun h49 => ?_) (fun h49 => ?_)
          · refine S.iload dX12_givesAt_96 rfl rfl ?_
            refine S.iret dX12_givesAt_98 rfl ?_
            refine ⟨?_, rfl⟩
            rw [if_neg h8]
            by_cases h0 : M 181 x.toNat = 0
            · rw [if_pos h0]; try omega
            · rw [if_neg h0, if_pos (by omega)]; try omega
          · exfalso; omega
      · refine S.iload_n dX12_givesAt_24 rfl rfl rfl ?_
        refine S.iconst dX12_givesAt_25 rfl ?_
        refine S.isub dX12_givesAt_26 rfl ?_
        refine S.goto (pc' := 31) dX12_givesAt_27 (by decide) ?_
        refine S.istore (LL' := [_, _, _, _, _, _]) dX12_givesAt_31 rfl (by decide) rfl rfl ?_
        refine S.iconst dX12_givesAt_33 rfl ?_
        refine S.istore (LL' := [_, _, _, _, _, _]) dX12_givesAt_34 rfl (by decide) rfl rfl ?_
        refine S.iload dX12_givesAt_36 rfl rfl ?_
        refine S.iload_n dX12_givesAt_38 rfl rfl rfl ?_
        refine S.icmp_ge (tgt := 96) dX12_givesAt_39 (by decide) rfl (by unfold fp_rng; omega) (by unfold fp_rng; omega) (fun h39 => ?_) (fun h39 => ?_)
        · refine S.iload dX12_givesAt_96 rfl rfl ?_
          refine S.iret dX12_givesAt_98 rfl ?_
          refine ⟨?_, rfl⟩
          rw [if_neg h8]
          by_cases h0 : M 181 x.toNat = 0
          · rw [if_pos h0]; try omega
          · rw [if_neg h0, if_pos (by omega)]; try omega
        · refine S.aload_n dX12_givesAt_42 rfl rfl rfl ?_
          refine S.getR dX12_givesAt_43 rfl fX12_19 L_177 rf_177_3 ?_
          refine S.iload_n dX12_givesAt_46 rfl rfl rfl ?_
          refine S.iald dX12_givesAt_47 rfl L_181 (by omega) (by omega) ?_
          refine S.iconst dX12_givesAt_48 rfl ?_
          refine S.icmp_ne (tgt := 96) dX12_givesAt_49 (by decide) rfl (by unfold fp_rng; omega) (by unfold fp_rng; omega) (fun h49 => ?_) (fun h49 => ?_)
          · refine S.iload dX12_givesAt_96 rfl rfl ?_
            refine S.iret dX12_givesAt_98 rfl ?_
            refine ⟨?_, rfl⟩
            rw [if_neg h8]
            by_cases h0 : M 181 x.toNat = 0
            · rw [if_pos h0]; try omega
            · rw [if_neg h0, if_pos (by omega)]; try omega
          · exfalso; omega
    · refine S.bipush dX12_givesAt_11 rfl (by decide) ?_
      refine S.iret dX12_givesAt_13 rfl ?_
      exact ⟨by rw [if_pos h8], rfl⟩
end MDL
end
section
/-! THE REFERENCE, outright: gives, laysIn, takesOut -/
section MDM
variable {l : Launch} {G : fp_WG} {M : fp_Mem}
def md_gives (M : fp_Mem) (at_ x : Int) : Int := if M 178 (at_ + 10 + 9 * x).toNat = 0 then -4 else M 178 (at_ + 10 + 9 * x + 1 + md_sel M at_ x).toNat
theorem md_sel_in {at_ x : Int} (hn : 0 ≤ M 178 (at_ + 10 + 9 * x).toNat ∧ M 178 (at_ + 10 + 9 * x).toNat ≤ 8) : (M 178 (at_ + 10 + 9 * x).toNat = 0 ∧ md_sel M at_ x = -4) ∨ (0 < M 178 (at_ + 10 + 9 * x).toNat ∧ 0 ≤ md_sel M at_ x ∧ md_sel M at_ x < M 178 (at_ + 10 + 9 * x).toNat) := by
  unfold md_sel
  by_cases h : M 178 (at_ + 10 + 9 * x).toNat = 0
  · left; rw [if_pos h]; exact ⟨h, rfl⟩
  · right
    rw [if_neg h]
    have := fp_giv_in (kind := M 181 x.toNat) (w := md_w M at_ x) (n := M 178 (at_ + 10 + 9 * x).toNat) (by omega)
    omega
theorem ok_X12_gives {at_ x : Int} (h1 : 0 ≤ at_ := by omega) (h2 : at_ ≤ 500 := by omega) (hx : 0 ≤ x ∧ x < 3 := by first | assumption | omega) (ho : md_ok M := by assumption) (hn : 0 ≤ M 178 (at_ + 10 + 9 * x).toNat ∧ M 178 (at_ + 10 + 9 * x).toNat ≤ 8 := by first | assumption | omega)
    (hrow : ∀ i : Int, 0 ≤ i → i < M 178 (at_ + 10 + 9 * x).toNat → 0 ≤ M 178 (at_ + 10 + 9 * x + 1 + i).toNat ∧ M 178 (at_ + 10 + 9 * x + 1 + i).toNat ≤ 10 := by assumption) : fp_Ok l G 2 kX12_gives [rV G 177, iV at_, iV x] M (qE (md_gives M at_ x) M) := by
  have hs := md_sel_in (x := x) hn
  unfold md_gives
  refine fp_Ok.of (r := 1) rfl (Nat.le_of_ble_eq_true rfl) rfl ?_
  refine S.aload_n dX12_gives_0 rfl rfl rfl ?_
  refine S.iload_n dX12_gives_1 rfl rfl rfl ?_
  refine S.iload_n dX12_gives_2 rfl rfl rfl ?_
  refine S.callVe dX12_gives_3 rfl cX12_216 (ok_X12_givesAt) rfl L_177 (by decide) rfl (Nat.le_of_ble_eq_true rfl) ?_
  refine S.istore_n (LL' := [_, _, _, _]) dX12_gives_6 rfl (by decide) rfl rfl rfl ?_
  refine S.iload_n dX12_gives_7 rfl rfl rfl ?_
  refine S.bipush dX12_gives_8 rfl (by decide) ?_
  refine S.icmp_ne (tgt := 18) dX12_gives_10 (by decide) rfl (by unfold fp_rng; omega) (by unfold fp_rng; omega) (fun h10 => ?_) (fun h10 => ?_)
  · refine S.aload_n dX12_gives_18 rfl rfl rfl ?_
    refine S.iload_n dX12_gives_19 rfl rfl rfl ?_
    refine S.iload_n dX12_gives_20 rfl rfl rfl ?_
    refine S.iload_n dX12_gives_21 rfl rfl rfl ?_
    refine S.callVe dX12_gives_22 rfl cX12_201 (ok_X12_lies) rfl L_177 (by decide) rfl (Nat.le_of_ble_eq_true rfl) ?_
    refine S.iret dX12_gives_25 rfl ?_
    refine ⟨?_, rfl⟩
    first | rw [if_pos (by omega)] | rw [if_neg (by omega)]
  · refine S.bipush dX12_gives_13 rfl (by decide) ?_
    refine S.goto (pc' := 25) dX12_gives_15 (by decide) ?_
    refine S.iret dX12_gives_25 rfl ?_
    refine ⟨?_, rfl⟩
    first | rw [if_pos (by omega)] | rw [if_neg (by omega)]
/-- the state's row behind laysIn, takesOut -/
def md_lay (f : Nat → Int) (b t i : Int) : Nat → Int := fun j => if (j : Int) = b then f b.toNat + 1 else if (j : Int) = b + 1 + i then t else if b + 1 + i < j ∧ (j : Int) ≤ b + 1 + f b.toNat then f (j - 1) else f j
def md_take (f : Nat → Int) (b i : Int) : Nat → Int := fun j => if (j : Int) = b then f b.toNat - 1 else if b + 1 + i ≤ j ∧ (j : Int) < b + f b.toNat then f (j + 1) else f j
theorem lay_loop {at_ t x i : Int} (h1 : 0 ≤ at_) (h2 : at_ ≤ 500) (hx : 0 ≤ x ∧ x < 3) (hn : 0 ≤ M 178 (at_ + 10 + 9 * x).toNat ∧ M 178 (at_ + 10 + 9 * x).toNat < 8) (hi : 0 ≤ i ∧ i ≤ M 178 (at_ + 10 + 9 * x).toNat) : ∀ (n : Nat) (k : Int) (N : fp_Mem), (k - i).toNat < n → i ≤ k → k ≤ M 178 (at_ + 10 + 9 * x).toNat → N = fp_upM M 178 (fun j : Nat => if (at_ + 10 + 9 * x) + 1 + k < j ∧ (j : Int) ≤ (at_ + 10 + 9 * x) + 1 + M 178 (at_ + 10 + 9 * x).toNat then M 178 (j - 1) else M 178 j) →
    fp_S l G 0 kX12_laysIn 20 [some (rV G 177), some (iV at_), some (iV t), some (iV x), some (iV i), some (iV (at_ + 10 + 9 * x)), some (iV k)] [] N (qW (fp_upM M 178 (md_lay (M 178) (at_ + 10 + 9 * x) t i))) := by
  intro n
  induction n with
  | zero => intro k N h; omega
  | succ n ih =>
    intro k N h k0 k1 hN
    refine S.iload dX12_laysIn_20 rfl rfl ?_
    refine S.iload dX12_laysIn_22 rfl rfl ?_
    refine S.icmp_le (tgt := 55) dX12_laysIn_24 (by decide) rfl (by unfold fp_rng; omega) (by unfold fp_rng; omega) (fun h24 => ?_) (fun h24 => ?_)
    · refine S.aload_n dX12_laysIn_55 rfl rfl rfl ?_
      refine S.getR dX12_laysIn_56 rfl fX12_7 L_177 rf_177_0 ?_
      refine S.iload dX12_laysIn_59 rfl rfl ?_
      refine S.iconst dX12_laysIn_61 rfl ?_
      refine S.iadd dX12_laysIn_62 rfl ?_
      refine S.iload dX12_laysIn_63 rfl rfl ?_
      refine S.iadd dX12_laysIn_65 rfl ?_
      refine S.iload_n dX12_laysIn_66 rfl rfl rfl ?_
      refine S.iast dX12_laysIn_67 rfl L_178 (by omega) (by omega) ?_
      refine S.aload_n dX12_laysIn_68 rfl rfl rfl ?_
      refine S.getR dX12_laysIn_69 rfl fX12_7 L_177 rf_177_0 ?_
      refine S.iload dX12_laysIn_72 rfl rfl ?_
      refine S.dup2 dX12_laysIn_74 rfl rfl rfl ?_
      refine S.iald dX12_laysIn_75 rfl L_178 (by omega) (by omega) ?_
      refine S.iconst dX12_laysIn_76 rfl ?_
      refine S.iadd dX12_laysIn_77 rfl ?_
      refine S.iast dX12_laysIn_78 rfl L_178 (by omega) (by omega) ?_
      refine S.vret dX12_laysIn_79 rfl ?_
      show _ = _
      rw [hN]
      simp only [fp_up_same, fp_upM_at, fp_upM_upM]
      refine congrArg (fp_upM _ 178) (funext fun j => ?_)
      dsimp only [fp_upf, md_lay]
      have hk : k = i := by omega
      subst hk
      (repeat' split) <;> first | rfl | (exfalso; omega) | (congr 1; omega) | (congr 2; omega)
    · refine S.aload_n dX12_laysIn_27 rfl rfl rfl ?_
      refine S.getR dX12_laysIn_28 rfl fX12_7 L_177 rf_177_0 ?_
      refine S.iload dX12_laysIn_31 rfl rfl ?_
      refine S.iconst dX12_laysIn_33 rfl ?_
      refine S.iadd dX12_laysIn_34 rfl ?_
      refine S.iload dX12_laysIn_35 rfl rfl ?_
      refine S.iadd dX12_laysIn_37 rfl ?_
      refine S.aload_n dX12_laysIn_38 rfl rfl rfl ?_
      refine S.getR dX12_laysIn_39 rfl fX12_7 L_177 rf_177_0 ?_
      refine S.iload dX12_laysIn_42 rfl rfl ?_
      refine S.iload dX12_laysIn_44 rfl rfl ?_
      refine S.iadd dX12_laysIn_46 rfl ?_
      refine S.iald dX12_laysIn_47 rfl L_178 (by omega) (by omega) ?_
      refine S.iast dX12_laysIn_48 rfl L_178 (by omega) (by omega) ?_
      refine S.iinc (LL' := [_, _, _, _, _, _, _]) dX12_laysIn_49 rfl (by decide) rfl rfl rfl ?_
      refine S.goto (pc' := 20) dX12_laysIn_52 (by decide) ?_
      refine ih _ _ (by omega) (by omega) (by omega) ?_
      rw [hN, fp_up_same]
      refine congrArg (fp_upM _ 178) (funext fun j => ?_)
      rw [fp_upM_at]
      dsimp only [fp_upf]
      (repeat' split) <;> first | rfl | (exfalso; omega) | (congr 1; omega)
theorem ok_X12_laysIn {at_ t x i : Int} (h1 : 0 ≤ at_ := by omega) (h2 : at_ ≤ 500 := by omega) (hx : 0 ≤ x ∧ x < 3 := by first | assumption | omega) (hn : 0 ≤ M 178 (at_ + 10 + 9 * x).toNat ∧ M 178 (at_ + 10 + 9 * x).toNat < 8 := by first | assumption | omega) (hi : 0 ≤ i ∧ i ≤ M 178 (at_ + 10 + 9 * x).toNat := by first | assumption | omega) : fp_Ok l G 0 kX12_laysIn [rV G 177, iV at_, iV t, iV x, iV i] M (qW (fp_upM M 178 (md_lay (M 178) (at_ + 10 + 9 * x) t i))) := by
  refine fp_Ok.of (r := 2) rfl (Nat.le_of_ble_eq_true rfl) rfl ?_
  refine S.iload_n dX12_laysIn_0 rfl rfl rfl ?_
  refine S.bipush dX12_laysIn_1 rfl (by decide) ?_
  refine S.iadd dX12_laysIn_3 rfl ?_
  refine S.bipush dX12_laysIn_4 rfl (by decide) ?_
  refine S.iload_n dX12_laysIn_6 rfl rfl rfl ?_
  refine S.imul dX12_laysIn_7 rfl ?_
  refine S.iadd dX12_laysIn_8 rfl ?_
  refine S.istore (LL' := [_, _, _, _, _, _, _]) dX12_laysIn_9 rfl (by decide) rfl rfl ?_
  refine S.aload_n dX12_laysIn_11 rfl rfl rfl ?_
  refine S.getR dX12_laysIn_12 rfl fX12_7 L_177 rf_177_0 ?_
  refine S.iload dX12_laysIn_15 rfl rfl ?_
  refine S.iald dX12_laysIn_17 rfl L_178 (by omega) (by omega) ?_
  refine S.istore (LL' := [_, _, _, _, _, _, _]) dX12_laysIn_18 rfl (by decide) rfl rfl ?_
  refine lay_loop h1 h2 hx hn hi ((M 178 (at_ + 10 + 9 * x).toNat).toNat + 1) (M 178 (at_ + 10 + 9 * x).toNat) M (by omega) (by omega) (by omega) ?_
  rw [show (fun j : Nat => if (at_ + 10 + 9 * x) + 1 + M 178 (at_ + 10 + 9 * x).toNat < j ∧ (j : Int) ≤ (at_ + 10 + 9 * x) + 1 + M 178 (at_ + 10 + 9 * x).toNat then M 178 (j - 1) else M 178 j) = M 178 from funext fun j => by rw [if_neg (by omega)], fp_upM_self]
theorem take_loop {at_ x i t n0 : Int} (h1 : 0 ≤ at_) (h2 : at_ ≤ 500) (hx : 0 ≤ x ∧ x < 3) (hn0 : n0 = M 178 (at_ + 10 + 9 * x).toNat) (hn : 1 ≤ n0 ∧ n0 ≤ 8) (hi : 0 ≤ i ∧ i < n0) : ∀ (n : Nat) (k : Int) (N : fp_Mem), (n0 - k).toNat < n → i ≤ k → k ≤ n0 - 1 → N = fp_upM M 178 (fun j : Nat => if (j : Int) = at_ + 10 + 9 * x then n0 - 1 else if (at_ + 10 + 9 * x) + 1 + i ≤ j ∧ (j : Int) < (at_ + 10 + 9 * x) + 1 + k then M 178 (j + 1) else M 178 j) →
    fp_S l G 0 kX12_takesOut 38 [some (rV G 177), some (iV at_), some (iV x), some (iV i), some (iV (at_ + 10 + 9 * x)), some (iV t), some (iV k)] [] N (qE t (fp_upM M 178 (md_take (M 178) (at_ + 10 + 9 * x) i))) := by
  intro n
  induction n with
  | zero => intro k N h; omega
  | succ n ih =>
    intro k N h k0 k1 hN
    have e0 : N 178 (at_ + 10 + 9 * x).toNat = n0 - 1 := by rw [hN, fp_upM_at, if_pos (by omega)]
    refine S.iload dX12_takesOut_38 rfl rfl ?_
    refine S.aload_n dX12_takesOut_40 rfl rfl rfl ?_
    refine S.getR dX12_takesOut_41 rfl fX12_7 L_177 rf_177_0 ?_
    refine S.iload dX12_takesOut_44 rfl rfl ?_
    refine S.iald dX12_takesOut_46 rfl L_178 (by omega) (by omega) ?_
    refine S.icmp_ge (tgt := 80) dX12_takesOut_47 (by decide) rfl (by unfold fp_rng; omega) (by unfold fp_rng; omega) (fun h47 => ?_) (fun h47 => ?_)
    · refine S.iload dX12_takesOut_80 rfl rfl ?_
      refine S.iret dX12_takesOut_82 rfl ?_
      refine ⟨rfl, ?_⟩
      rw [hN]
      refine congrArg (fp_upM _ 178) (funext fun j => ?_)
      dsimp only [md_take]
      rw [← hn0]
      (repeat' split) <;> first | rfl | (exfalso; omega)
    · refine S.aload_n dX12_takesOut_50 rfl rfl rfl ?_
      refine S.getR dX12_takesOut_51 rfl fX12_7 L_177 rf_177_0 ?_
      refine S.iload dX12_takesOut_54 rfl rfl ?_
      refine S.iconst dX12_takesOut_56 rfl ?_
      refine S.iadd dX12_takesOut_57 rfl ?_
      refine S.iload dX12_takesOut_58 rfl rfl ?_
      refine S.iadd dX12_takesOut_60 rfl ?_
      refine S.aload_n dX12_takesOut_61 rfl rfl rfl ?_
      refine S.getR dX12_takesOut_62 rfl fX12_7 L_177 rf_177_0 ?_
      refine S.iload dX12_takesOut_65 rfl rfl ?_
      refine S.iconst dX12_takesOut_67 rfl ?_
      refine S.iadd dX12_takesOut_68 rfl ?_
      refine S.iload dX12_takesOut_69 rfl rfl ?_
      refine S.iadd dX12_takesOut_71 rfl ?_
      refine S.iald dX12_takesOut_72 rfl L_178 (by omega) (by omega) ?_
      refine S.iast dX12_takesOut_73 rfl L_178 (by omega) (by omega) ?_
      refine S.iinc (LL' := [_, _, _, _, _, _, _]) dX12_takesOut_74 rfl (by decide) rfl rfl rfl ?_
      refine S.goto (pc' := 38) dX12_takesOut_77 (by decide) ?_
      refine ih _ _ (by omega) (by omega) (by omega) ?_
      rw [hN, fp_up_same]
      refine congrArg (fp_upM _ 178) (funext fun j => ?_)
      rw [fp_upM_at]
      dsimp only [fp_upf]
      (repeat' split) <;> first | rfl | (exfalso; omega) | (congr 1; omega)
theorem ok_X12_takesOut {at_ x i : Int} (h1 : 0 ≤ at_ := by omega) (h2 : at_ ≤ 500 := by omega) (hx : 0 ≤ x ∧ x < 3 := by first | assumption | omega) (hn : 1 ≤ M 178 (at_ + 10 + 9 * x).toNat ∧ M 178 (at_ + 10 + 9 * x).toNat ≤ 8 := by first | assumption | omega) (hi : 0 ≤ i ∧ i < M 178 (at_ + 10 + 9 * x).toNat := by first | assumption | omega) : fp_Ok l G 0 kX12_takesOut [rV G 177, iV at_, iV x, iV i] M (qE (M 178 (at_ + 10 + 9 * x + 1 + i).toNat) (fp_upM M 178 (md_take (M 178) (at_ + 10 + 9 * x) i))) := by
  refine fp_Ok.of (r := 3) rfl (Nat.le_of_ble_eq_true rfl) rfl ?_
  refine S.iload_n dX12_takesOut_0 rfl rfl rfl ?_
  refine S.bipush dX12_takesOut_1 rfl (by decide) ?_
  refine S.iadd dX12_takesOut_3 rfl ?_
  refine S.bipush dX12_takesOut_4 rfl (by decide) ?_
  refine S.iload_n dX12_takesOut_6 rfl rfl rfl ?_
  refine S.imul dX12_takesOut_7 rfl ?_
  refine S.iadd dX12_takesOut_8 rfl ?_
  refine S.istore (LL' := [_, _, _, _, _, _, _]) dX12_takesOut_9 rfl (by decide) rfl rfl ?_
  refine S.aload_n dX12_takesOut_11 rfl rfl rfl ?_
  refine S.getR dX12_takesOut_12 rfl fX12_7 L_177 rf_177_0 ?_
  refine S.iload dX12_takesOut_15 rfl rfl ?_
  refine S.iconst dX12_takesOut_17 rfl ?_
  refine S.iadd dX12_takesOut_18 rfl ?_
  refine S.iload_n dX12_takesOut_19 rfl rfl rfl ?_
  refine S.iadd dX12_takesOut_20 rfl ?_
  refine S.iald dX12_takesOut_21 rfl L_178 (by omega) (by omega) ?_
  refine S.istore (LL' := [_, _, _, _, _, _, _]) dX12_takesOut_22 rfl (by decide) rfl rfl ?_
  refine S.aload_n dX12_takesOut_24 rfl rfl rfl ?_
  refine S.getR dX12_takesOut_25 rfl fX12_7 L_177 rf_177_0 ?_
  refine S.iload dX12_takesOut_28 rfl rfl ?_
  refine S.dup2 dX12_takesOut_30 rfl rfl rfl ?_
  refine S.iald dX12_takesOut_31 rfl L_178 (by omega) (by omega) ?_
  refine S.iconst dX12_takesOut_32 rfl ?_
  refine S.isub dX12_takesOut_33 rfl ?_
  refine S.iast dX12_takesOut_34 rfl L_178 (by omega) (by omega) ?_
  refine S.iload_n dX12_takesOut_35 rfl rfl rfl ?_
  refine S.istore (LL' := [_, _, _, _, _, _, _]) dX12_takesOut_36 rfl (by decide) rfl rfl ?_
  refine take_loop h1 h2 hx rfl hn hi ((M 178 (at_ + 10 + 9 * x).toNat).toNat + 1) i _ (by omega) (by omega) (by omega) ?_
  refine congrArg (fp_upM _ 178) (funext fun j => ?_)
  dsimp only [fp_upf]
  (repeat' split) <;> first | rfl | (exfalso; omega)
end MDM
end
section
/-! HOW THE REFERENCE HOLDS THEM: goods; a page at offset a of the state's row -/
def mdIs (M : fp_Mem) (g : aGd) : Prop := M 177 4 = g.1 ∧ M 177 5 = g.2.1 ∧ M 177 6 = g.2.2.1 ∧ (∀ t, 0 ≤ t → t < g.1 → M 179 t.toNat = g.2.2.2.1 t) ∧ M 179 10 = 0 ∧ (∀ t p, 0 ≤ t → t < g.1 → 0 ≤ p → p < 4 → M 180 (4 * t + p).toNat = g.2.2.2.2.1 t p) ∧ (∀ p : Int, 0 ≤ p → p < 4 → M 180 (40 + p).toNat = 0) ∧ (∀ x, 0 ≤ x → x < g.2.1 → M 181 x.toNat = g.2.2.2.2.2 x) ∧ md_ok M
def mpRow (f : Nat → Int) (a : Int) (g : aGd) (pg : aPg) : Prop := (∀ t, 0 ≤ t → t < g.1 → f (a + t).toNat = pg.1 t) ∧ (∀ t, 0 ≤ t → t < g.1 → 10 ≤ pg.1 t → f (a + 37 + t).toNat = pg.2.1 t) ∧
  ∀ x, 0 ≤ x → x < 3 → f (a + 10 + 9 * x).toNat = (pg.2.2 x).length ∧ ∀ i : Int, 0 ≤ i → i < (pg.2.2 x).length → f (a + 10 + 9 * x + 1 + i).toNat = (pg.2.2 x).getD i.toNat 0
def mpIs (M : fp_Mem) (a : Int) (g : aGd) (pg : aPg) : Prop := mpRow (M 178) a g pg
/-- one page of the state alone differs -/
def frM (M N : fp_Mem) (a : Int) : Prop := (∀ c, c ≠ 178 → N c = M c) ∧ ∀ j : Nat, ((j : Int) < a ∨ a + 47 ≤ j) → N 178 j = M 178 j
theorem frM.refl (M : fp_Mem) (a : Int) : frM M M a := ⟨fun _ _ => rfl, fun _ _ => rfl⟩
theorem frM.trans {M N O : fp_Mem} {a : Int} (h1 : frM M N a) (h2 : frM N O a) : frM M O a := ⟨fun c hc => (h2.1 c hc).trans (h1.1 c hc), fun j hj => (h2.2 j hj).trans (h1.2 j hj)⟩
theorem mdIs.kept {M N : fp_Mem} {g : aGd} (h : mdIs M g) (e : ∀ c, c ≠ 178 → N c = M c) : mdIs N g := by
  unfold mdIs md_ok at *
  rw [e 177 (by decide), e 179 (by decide), e 180 (by decide), e 181 (by decide)]
  exact h
theorem mpIs.kept {M N : fp_Mem} {a : Int} {g : aGd} {pg : aPg} (h : mpIs M a g pg) (hg : gOk g) (hP : pgOk g pg) (ha : 0 ≤ a) (e : ∀ j : Nat, a ≤ j → (j : Int) < a + 47 → N 178 j = M 178 j) : mpIs N a g pg := by
  have hg1 := hg.1
  obtain ⟨h1, h2, h3⟩ := h
  refine ⟨fun t t0 t1 => ?_, fun t t0 t1 t2 => ?_, fun x x0 x1 => ?_⟩
  · rw [e _ (by omega) (by omega)]; exact h1 t t0 t1
  · rw [e _ (by omega) (by omega)]; exact h2 t t0 t1 t2
  · obtain ⟨q1, q2⟩ := h3 x x0 x1
    have hl := (hP.2.1 x x0 x1).1
    rw [e _ (by omega) (by omega)]
    refine ⟨q1, fun i i0 i1 => ?_⟩
    rw [e _ (by omega) (by omega)]; exact q2 i i0 i1
section MRP
variable {f : Nat → Int} {a : Int} {g : aGd} {pg : aPg}
theorem mp_draw (h : mpRow f a g pg) (hP : pgOk g pg) (hg : gOk g) (ha : 0 ≤ a) {p x : Int} (hp : 0 ≤ p ∧ p < 4) (hx : 0 ≤ x ∧ x < g.2.1) (hne : pg.2.2 x ≠ []) : mpRow (fp_upf (md_take f (a + 10 + 9 * x) (aSel g (pg.2.2 x) (g.2.2.2.2.2 x))) (a + aGv g pg x).toNat p) a g (aDraw g pg p x) := by
  have hx3 : x < 3 := by have := hg.2.1.2; omega
  have hlen : 0 < (pg.2.2 x).length := List.length_pos_iff.mpr hne
  have hs := aSel_in (g := g) (kind := g.2.2.2.2.2 x) hne
  have hm := aGv_mem (g := g) hne
  have ht := (hP.2.1 x hx.1 hx3).2.2.2 _ hm
  have hl8 := (hP.2.1 x hx.1 hx3).1
  have hgn := hg.1
  obtain ⟨c1, c2, c3⟩ := h
  obtain ⟨n1, n2⟩ := c3 x hx.1 hx3
  unfold aDraw
  rw [if_neg hne]
  refine ⟨fun t t0 t1 => ?_, fun t t0 t1 t2 => ?_, fun y y0 y3 => ?_⟩
  · show fp_upf _ _ _ _ = fp_ui pg.1 (aGv g pg x) p t
    unfold fp_upf fp_ui md_take
    by_cases e : t = aGv g pg x
    · rw [if_pos (by rw [e]), if_pos e]
    · rw [if_neg (by omega), if_neg (by omega), if_neg (by omega), if_neg e]; exact c1 t t0 t1
  · have t2' : 10 ≤ fp_ui pg.1 (aGv g pg x) p t := t2
    have hne2 : t ≠ aGv g pg x := by
      rintro rfl
      rw [fp_ui_at] at t2'
      omega
    rw [fp_ui_ne hne2] at t2'
    unfold fp_upf md_take
    rw [if_neg (by omega), if_neg (by omega), if_neg (by omega)]
    exact c2 t t0 t1 t2'
  · show _ = (List.length (fp_ui pg.2.2 x _ y) : Int) ∧ ∀ i : Int, 0 ≤ i → i < (List.length (fp_ui pg.2.2 x _ y) : Int) → _ = List.getD (fp_ui pg.2.2 x _ y) i.toNat 0
    have hl8y := (hP.2.1 y y0 y3).1
    by_cases e : y = x
    · subst e
      rw [fp_ui_at, List.length_eraseIdx_of_lt (by omega)]
      refine ⟨?_, fun i i0 i1 => ?_⟩
      · unfold fp_upf md_take
        rw [if_neg (by omega), if_pos (by omega)]; omega
      · rw [fp_eraD]
        unfold fp_upf md_take
        rw [n1]
        by_cases hi : i < aSel g (pg.2.2 y) (g.2.2.2.2.2 y)
        · rw [if_neg (by omega), if_neg (by omega), if_neg (by omega), if_pos (by omega)]
          exact n2 i i0 (by omega)
        · rw [if_neg (by omega), if_neg (by omega), if_pos (by omega), if_neg (by omega)]
          have := n2 (i + 1) (by omega) (by omega)
          rw [show (a + 10 + 9 * y + 1 + (i + 1)).toNat = (a + 10 + 9 * y + 1 + i).toNat + 1 by omega, show (i + 1).toNat = i.toNat + 1 by omega] at this
          exact this
    · rw [fp_ui_ne e]
      obtain ⟨q1, q2⟩ := c3 y y0 y3
      refine ⟨?_, fun i i0 i1 => ?_⟩
      · unfold fp_upf md_take
        rw [n1, if_neg (by omega), if_neg (by omega), if_neg (by omega)]; exact q1
      · unfold fp_upf md_take
        rw [n1, if_neg (by omega), if_neg (by omega), if_neg (by omega)]; exact q2 i i0 i1
theorem mp_ins (h : mpRow f a g pg) (hP : pgOk g pg) (hg : gOk g) (ha : 0 ≤ a) {t x : Int} {s : Nat} (ht : 0 ≤ t ∧ t < g.1) (hh : 0 ≤ pg.1 t ∧ pg.1 t ≤ 3) (hx : 0 ≤ x ∧ x < g.2.1) (hl : (pg.2.2 x).length < 8) (hs : s ≤ (pg.2.2 x).length) : mpRow (fp_upf (fp_upf (md_lay f (a + 10 + 9 * x) t s) (a + t).toNat (10 + x)) (a + 37 + t).toNat (pg.1 t)) a g (aIns pg t x s) := by
  have hx3 : x < 3 := by have := hg.2.1.2; omega
  have hgn := hg.1
  obtain ⟨c1, c2, c3⟩ := h
  obtain ⟨n1, n2⟩ := c3 x hx.1 hx3
  refine ⟨fun u t0 t1 => ?_, fun u t0 t1 t2 => ?_, fun y y0 y3 => ?_⟩
  · show fp_upf _ _ _ _ = fp_ui pg.1 t (10 + x) u
    unfold fp_upf fp_ui md_lay
    by_cases e : u = t
    · rw [if_neg (by omega), if_pos (by rw [e]), if_pos e]
    · rw [if_neg (by omega), if_neg (by omega), if_neg (by omega), if_neg (by omega), if_neg (by omega), if_neg e]; exact c1 u t0 t1
  · show fp_upf _ _ _ _ = fp_ui pg.2.1 t (pg.1 t) u
    have t2' : 10 ≤ fp_ui pg.1 t (10 + x) u := t2
    unfold fp_upf fp_ui md_lay
    by_cases e : u = t
    · rw [if_pos (by rw [e]), if_pos e]
    · rw [fp_ui_ne e] at t2'
      rw [n1, if_neg (by omega), if_neg (by omega), if_neg (by omega), if_neg (by omega), if_neg (by omega), if_neg e]; exact c2 u t0 t1 t2'
  · show _ = (List.length (fp_ui pg.2.2 x _ y) : Int) ∧ ∀ i : Int, 0 ≤ i → i < (List.length (fp_ui pg.2.2 x _ y) : Int) → _ = List.getD (fp_ui pg.2.2 x _ y) i.toNat 0
    have hl8y := (hP.2.1 y y0 y3).1
    by_cases e : y = x
    · subst e
      rw [fp_ui_at, List.length_insertIdx_of_le_length hs]
      refine ⟨?_, fun i i0 i1 => ?_⟩
      · unfold fp_upf md_lay
        rw [if_neg (by omega), if_neg (by omega), if_pos (by omega)]; omega
      · rw [fp_insD _ _ _ _ hs]
        unfold fp_upf md_lay
        rw [n1, if_neg (by omega), if_neg (by omega), if_neg (by omega)]
        by_cases hi : i < s
        · rw [if_neg (by omega), if_neg (by omega), if_pos (by omega)]
          exact n2 i i0 (by omega)
        · by_cases hi2 : i = s
          · rw [if_pos (by omega), if_neg (by omega), if_pos (by omega)]
          · rw [if_neg (by omega), if_pos (by omega), if_neg (by omega), if_neg (by omega)]
            have := n2 (i - 1) (by omega) (by omega)
            rw [show (a + 10 + 9 * y + 1 + (i - 1)).toNat = (a + 10 + 9 * y + 1 + i).toNat - 1 by omega, show (i - 1).toNat = i.toNat - 1 by omega] at this
            exact this
    · rw [fp_ui_ne e]
      obtain ⟨q1, q2⟩ := c3 y y0 y3
      refine ⟨?_, fun i i0 i1 => ?_⟩
      · unfold fp_upf md_lay
        rw [n1, if_neg (by omega), if_neg (by omega), if_neg (by omega), if_neg (by omega), if_neg (by omega)]; exact q1
      · unfold fp_upf md_lay
        rw [n1, if_neg (by omega), if_neg (by omega), if_neg (by omega), if_neg (by omega), if_neg (by omega)]; exact q2 i i0 i1
end MRP
end
section
/-! THE REFERENCE in the bank's own words: gives, draws, puts, happens -/
def mvIs (M : fp_Mem) (vs : List aVt) : Prop := M 178 95 = vs.length ∧ vs.length ≤ 12 ∧ ∀ i : Int, 0 ≤ i → i < vs.length → M 178 (47 + 4 * i).toNat = (vs.getD i.toNat aV0).1 ∧ M 178 (47 + 4 * i + 1).toNat = (vs.getD i.toNat aV0).2.1 ∧ M 178 (47 + 4 * i + 2).toNat = (vs.getD i.toNat aV0).2.2.1 ∧ M 178 (47 + 4 * i + 3).toNat = (vs.getD i.toNat aV0).2.2.2
theorem mvIs.kept {M N : fp_Mem} {vs : List aVt} (h : mvIs M vs) (e : ∀ j : Nat, 47 ≤ j → j ≤ 95 → N 178 j = M 178 j) : mvIs N vs := by
  obtain ⟨h1, h2, h3⟩ := h
  refine ⟨by rw [e 95 (by decide) (by decide)]; exact h1, h2, fun i i0 i1 => ?_⟩
  rw [e _ (by omega) (by omega), e _ (by omega) (by omega), e _ (by omega) (by omega), e _ (by omega) (by omega)]
  exact h3 i i0 i1
theorem mvIs.at {M : fp_Mem} {g : aGd} {vs : List aVt} (h : mvIs M vs) (ho : vsOk g vs) {i : Int} (h0 : 0 ≤ i) (h1 : i < vs.length) : (0 ≤ M 178 (47 + 4 * i).toNat ∧ M 178 (47 + 4 * i).toNat ≤ 99) ∧ (0 ≤ M 178 (47 + 4 * i + 1).toNat ∧ M 178 (47 + 4 * i + 1).toNat < 4) ∧ (0 ≤ M 178 (47 + 4 * i + 2).toNat ∧ M 178 (47 + 4 * i + 2).toNat < g.2.1) ∧ (M 178 (47 + 4 * i + 3).toNat = -4 ∨ (0 ≤ M 178 (47 + 4 * i + 3).toNat ∧ M 178 (47 + 4 * i + 3).toNat < g.1)) := by
  obtain ⟨e1, e2, e3, e4⟩ := h.2.2 i h0 h1
  have := ho.at h0 h1
  rw [e1, e2, e3, e4]
  exact this
section MRL
variable {l : Launch} {G : fp_WG} {M : fp_Mem} {a : Int} {g : aGd} {pg : aPg} {vs : List aVt}
theorem mpIs.line (h : mpIs M a g pg) (hP : pgOk g pg) {x : Int} (hx : 0 ≤ x ∧ x < g.2.1) (hg : gOk g) : M 178 (a + 10 + 9 * x).toNat = (pg.2.2 x).length ∧ (∀ i : Int, 0 ≤ i → i < (pg.2.2 x).length → M 178 (a + 10 + 9 * x + 1 + i).toNat = (pg.2.2 x).getD i.toNat 0 ∧ 0 ≤ (pg.2.2 x).getD i.toNat 0 ∧ (pg.2.2 x).getD i.toNat 0 < g.1) ∧ (pg.2.2 x).length ≤ 8 := by
  have hx3 : x < 3 := by have := hg.2.1.2; omega
  obtain ⟨h1, h2⟩ := h.2.2 x hx.1 hx3
  obtain ⟨l1, l2, l3, l4⟩ := hP.2.1 x hx.1 hx3
  refine ⟨h1, fun i h0 hl => ⟨h2 i h0 hl, ?_⟩, l1⟩
  have := l4 _ (fp_getD_mem (L := pg.2.2 x) (i := i.toNat) (by omega))
  exact ⟨this.1, this.2.1⟩
theorem mpIs.rows (h : mpIs M a g pg) (hP : pgOk g pg) {x : Int} (hx : 0 ≤ x ∧ x < g.2.1) (hg : gOk g) : (0 ≤ M 178 (a + 10 + 9 * x).toNat ∧ M 178 (a + 10 + 9 * x).toNat ≤ 8) ∧ ∀ i : Int, 0 ≤ i → i < M 178 (a + 10 + 9 * x).toNat → 0 ≤ M 178 (a + 10 + 9 * x + 1 + i).toNat ∧ M 178 (a + 10 + 9 * x + 1 + i).toNat ≤ 10 := by
  obtain ⟨h1, h2, h3⟩ := h.line hP hx hg
  refine ⟨by omega, fun i i0 i1 => ?_⟩
  rw [h1] at i1
  have := h2 i i0 i1
  have := hg.1.2
  omega
theorem mp_sel (h : mpIs M a g pg) (hd : mdIs M g) (hP : pgOk g pg) (hg : gOk g) {x : Int} (hx : 0 ≤ x ∧ x < g.2.1) : md_sel M a x = if pg.2.2 x = [] then -4 else aSel g (pg.2.2 x) (g.2.2.2.2.2 x) := by
  obtain ⟨h1, h2, h3⟩ := h.line hP hx hg
  unfold md_sel
  rw [h1]
  by_cases hne : pg.2.2 x = []
  · rw [if_pos (by rw [hne]; rfl), if_pos hne]
  · have hlen : 0 < (pg.2.2 x).length := List.length_pos_iff.mpr hne
    rw [if_neg (by omega), if_neg hne]
    unfold aSel
    rw [hd.2.2.2.2.2.2.2.1 x hx.1 hx.2]
    refine fp_giv_congr (by omega) (fun i h0 hl => ?_)
    obtain ⟨e1, e2, e3⟩ := h2 i h0 hl
    unfold md_w
    rw [e1]
    exact hd.2.2.2.1 _ e2 e3
theorem mp_gives (h : mpIs M a g pg) (hd : mdIs M g) (hP : pgOk g pg) (hg : gOk g) {x : Int} (hx : 0 ≤ x ∧ x < g.2.1) : md_gives M a x = aGv g pg x := by
  obtain ⟨h1, h2, h3⟩ := h.line hP hx hg
  unfold md_gives aGv
  rw [h1, mp_sel h hd hP hg hx]
  by_cases hne : pg.2.2 x = []
  · rw [if_pos (by rw [hne]; rfl), if_pos hne]
  · have hlen : 0 < (pg.2.2 x).length := List.length_pos_iff.mpr hne
    rw [if_neg (by omega), if_neg hne, if_neg hne]
    have hs := aSel_in (g := g) (kind := g.2.2.2.2.2 x) hne
    exact (h2 _ hs.1 hs.2).1
theorem rk_X12_gives {x : Int} (ha : 0 ≤ a ∧ a ≤ 500 := by omega) (hc : mpIs M a g pg := by assumption) (hd : mdIs M g := by assumption) (hP : pgOk g pg := by assumption) (hg : gOk g := by assumption) (hx : 0 ≤ x ∧ x < g.2.1 := by first | assumption | omega) : fp_Ok l G 2 kX12_gives [rV G 177, iV a, iV x] M (qE (aGv g pg x) M) := by
  rw [← mp_gives hc hd hP hg hx]
  have hr := hc.rows hP hx hg
  exact ok_X12_gives ha.1 ha.2 ⟨hx.1, by have := hg.2.1.2; omega⟩ hd.2.2.2.2.2.2.2.2 hr.1 hr.2
theorem rk_X12_draws {p x : Int} (ha : 0 ≤ a ∧ a ≤ 500 := by omega) (hc : mpIs M a g pg := by assumption) (hd : mdIs M g := by assumption) (hP : pgOk g pg := by assumption) (hg : gOk g := by assumption) (hp : 0 ≤ p ∧ p < 4 := by first | assumption | omega) (hx : 0 ≤ x ∧ x < g.2.1 := by first | assumption | omega) : fp_Ok l G 2 kX12_draws [rV G 177, iV a, iV p, iV x] M (qI fun z N => z = aGv g pg x ∧ mpIs N a g (aDraw g pg p x) ∧ frM M N a) := by
  have hg2 := hg.2.1.2
  have hg1 := hg.1
  have hr := hc.rows hP hx hg
  have hr1 := hr.1
  have hr2 := hr.2
  have ho := hd.2.2.2.2.2.2.2.2
  have hsel := mp_sel hc hd hP hg hx
  obtain ⟨n1, n2, n3⟩ := hc.line hP hx hg
  refine fp_Ok.of (r := 2) rfl (Nat.le_of_ble_eq_true rfl) rfl ?_
  by_cases hne : pg.2.2 x = []
  · rw [if_pos hne] at hsel
    refine S.aload_n dX12_draws_0 rfl rfl rfl ?_
    refine S.iload_n dX12_draws_1 rfl rfl rfl ?_
    refine S.iload_n dX12_draws_2 rfl rfl rfl ?_
    refine S.callVe dX12_draws_3 rfl cX12_216 (ok_X12_givesAt) rfl L_177 (by decide) rfl (Nat.le_of_ble_eq_true rfl) ?_
    rw [hsel]
    refine S.istore (LL' := [_, _, _, _, _, _]) dX12_draws_6 rfl (by decide) rfl rfl ?_
    refine S.iload dX12_draws_8 rfl rfl ?_
    refine S.bipush dX12_draws_10 rfl (by decide) ?_
    refine S.icmp_ne (tgt := 18) dX12_draws_12 (by decide) rfl (by unfold fp_rng; omega) (by unfold fp_rng; omega) (fun h12 => ?_) (fun h12 => ?_)
    · exfalso; omega
    · refine S.bipush dX12_draws_15 rfl (by decide) ?_
      refine S.iret dX12_draws_17 rfl ?_
      refine ⟨by unfold aGv; rw [if_pos hne], ?_, frM.refl _ _⟩
      unfold aDraw; rw [if_pos hne]; exact hc
  · rw [if_neg hne] at hsel
    have hs := aSel_in (g := g) (kind := g.2.2.2.2.2 x) hne
    have eg : aGv g pg x = M 178 (a + 10 + 9 * x + 1 + aSel g (pg.2.2 x) (g.2.2.2.2.2 x)).toNat := by
      unfold aGv; rw [if_neg hne]; exact ((n2 _ hs.1 hs.2).1).symm
    have ht := (hP.2.1 x hx.1 (by omega)).2.2.2 _ (aGv_mem (g := g) hne)
    have hw := hP.2.1 x hx.1 (by omega)
    refine S.aload_n dX12_draws_0 rfl rfl rfl ?_
    refine S.iload_n dX12_draws_1 rfl rfl rfl ?_
    refine S.iload_n dX12_draws_2 rfl rfl rfl ?_
    refine S.callVe dX12_draws_3 rfl cX12_216 (ok_X12_givesAt) rfl L_177 (by decide) rfl (Nat.le_of_ble_eq_true rfl) ?_
    rw [hsel]
    refine S.istore (LL' := [_, _, _, _, _, _]) dX12_draws_6 rfl (by decide) rfl rfl ?_
    refine S.iload dX12_draws_8 rfl rfl ?_
    refine S.bipush dX12_draws_10 rfl (by decide) ?_
    refine S.icmp_ne (tgt := 18) dX12_draws_12 (by decide) rfl (by unfold fp_rng; omega) (by unfold fp_rng; omega) (fun h12 => ?_) (fun h12 => ?_)
    · refine S.aload_n dX12_draws_18 rfl rfl rfl ?_
      refine S.iload_n dX12_draws_19 rfl rfl rfl ?_
      refine S.iload_n dX12_draws_20 rfl rfl rfl ?_
      refine S.iload dX12_draws_21 rfl rfl ?_
      refine S.callVe dX12_draws_23 rfl cX12_241 (ok_X12_takesOut) rfl L_177 (by decide) rfl (Nat.le_of_ble_eq_true rfl) ?_
      rw [← eg]
      refine S.istore (LL' := [_, _, _, _, _, _]) dX12_draws_26 rfl (by decide) rfl rfl ?_
      refine S.aload_n dX12_draws_28 rfl rfl rfl ?_
      refine S.getR dX12_draws_29 rfl fX12_7 L_177 rf_177_0 ?_
      refine S.iload_n dX12_draws_32 rfl rfl rfl ?_
      refine S.iload dX12_draws_33 rfl rfl ?_
      refine S.iadd dX12_draws_35 rfl ?_
      refine S.iload_n dX12_draws_36 rfl rfl rfl ?_
      refine S.iast dX12_draws_37 rfl L_178 (by omega) (by omega) ?_
      refine S.iload dX12_draws_38 rfl rfl ?_
      refine S.iret dX12_draws_40 rfl ?_
      refine ⟨rfl, ?_, ?_⟩
      · unfold mpIs
        rw [fp_up_at, fp_upM_at]
        exact mp_draw hc hP hg ha.1 hp hx hne
      · refine ⟨fun c hc => by rw [fp_up_ne hc, fp_upM_ne hc], fun j hj => ?_⟩
        rw [fp_up_at, fp_upM_at]
        unfold fp_upf md_take
        rw [if_neg (by omega), if_neg (by omega), if_neg (by omega)]
    · exfalso; omega
theorem rk_X12_puts {p t x : Int} (ha : 0 ≤ a ∧ a ≤ 500 := by omega) (hc : mpIs M a g pg := by assumption) (hP : pgOk g pg := by assumption) (hg : gOk g := by assumption) (hp : 0 ≤ p ∧ p < 4 := by first | assumption | omega) (ht : 0 ≤ t ∧ t < g.1 := by first | assumption | omega) (hx : 0 ≤ x ∧ x < g.2.1 := by first | assumption | omega) : fp_Ok l G 1 kX12_puts [rV G 177, iV a, iV p, iV t, iV x] M (qI fun z N => z = (aApp pg p t x).1 ∧ mpIs N a g (aApp pg p t x).2 ∧ frM M N a) := by
  have hg2 := hg.2.1.2
  have hg1 := hg.1
  have hr := hc.rows hP hx hg
  have hr1 := hr.1
  obtain ⟨n1, n2, n3⟩ := hc.line hP hx hg
  have hwt := hc.1 t ht.1 ht.2
  have hwo := hP.1 t ht.1 ht.2
  refine fp_Ok.of (r := 0) rfl (Nat.le_of_ble_eq_true rfl) rfl ?_
  unfold aApp
  by_cases hcn : pg.1 t = p ∧ (pg.2.2 x).length < 8
  · rw [if_pos hcn]
    refine S.aload_n dX12_puts_0 rfl rfl rfl ?_
    refine S.getR dX12_puts_1 rfl fX12_7 L_177 rf_177_0 ?_
    refine S.iload_n dX12_puts_4 rfl rfl rfl ?_
    refine S.iload_n dX12_puts_5 rfl rfl rfl ?_
    refine S.iadd dX12_puts_6 rfl ?_
    refine S.iald dX12_puts_7 rfl L_178 (by omega) (by omega) ?_
    refine S.iload_n dX12_puts_8 rfl rfl rfl ?_
    refine S.icmp_ne (tgt := 24) dX12_puts_9 (by decide) rfl (by unfold fp_rng; omega) (by unfold fp_rng; omega) (fun h9 => ?_) (fun h9 => ?_)
    · exfalso; omega
    · refine S.aload_n dX12_puts_12 rfl rfl rfl ?_
      refine S.iload_n dX12_puts_13 rfl rfl rfl ?_
      refine S.iload dX12_puts_14 rfl rfl ?_
      refine S.callVe dX12_puts_16 rfl cX12_198 (ok_X12_lie) rfl L_177 (by decide) rfl (Nat.le_of_ble_eq_true rfl) ?_
      refine S.bipush dX12_puts_19 rfl (by decide) ?_
      refine S.icmp_ne (tgt := 26) dX12_puts_21 (by decide) rfl (by unfold fp_rng; omega) (by unfold fp_rng; omega) (fun h21 => ?_) (fun h21 => ?_)
      · refine S.aload_n dX12_puts_26 rfl rfl rfl ?_
        refine S.iload_n dX12_puts_27 rfl rfl rfl ?_
        refine S.iload_n dX12_puts_28 rfl rfl rfl ?_
        refine S.iload dX12_puts_29 rfl rfl ?_
        refine S.aload_n dX12_puts_31 rfl rfl rfl ?_
        refine S.iload_n dX12_puts_32 rfl rfl rfl ?_
        refine S.iload dX12_puts_33 rfl rfl ?_
        refine S.callVe dX12_puts_35 rfl cX12_198 (ok_X12_lie) rfl L_177 (by decide) rfl (Nat.le_of_ble_eq_true rfl) ?_
        refine S.callVw dX12_puts_38 rfl cX12_237 (ok_X12_laysIn) rfl L_177 (by decide) rfl (Nat.le_of_ble_eq_true rfl) ?_
        refine S.aload_n dX12_puts_41 rfl rfl rfl ?_
        refine S.getR dX12_puts_42 rfl fX12_7 L_177 rf_177_0 ?_
        refine S.iload_n dX12_puts_45 rfl rfl rfl ?_
        refine S.iload_n dX12_puts_46 rfl rfl rfl ?_
        refine S.iadd dX12_puts_47 rfl ?_
        refine S.bipush dX12_puts_48 rfl (by decide) ?_
        refine S.iload dX12_puts_50 rfl rfl ?_
        refine S.iadd dX12_puts_52 rfl ?_
        refine S.iast dX12_puts_53 rfl L_178 (by omega) (by omega) ?_
        refine S.aload_n dX12_puts_54 rfl rfl rfl ?_
        refine S.getR dX12_puts_55 rfl fX12_7 L_177 rf_177_0 ?_
        refine S.iload_n dX12_puts_58 rfl rfl rfl ?_
        refine S.bipush dX12_puts_59 rfl (by decide) ?_
        refine S.iadd dX12_puts_61 rfl ?_
        refine S.iload_n dX12_puts_62 rfl rfl rfl ?_
        refine S.iadd dX12_puts_63 rfl ?_
        refine S.iload_n dX12_puts_64 rfl rfl rfl ?_
        refine S.iast dX12_puts_65 rfl L_178 (by omega) (by omega) ?_
        refine S.iconst dX12_puts_66 rfl ?_
        refine S.zret dX12_puts_67 rfl (by first | exact Or.inl rfl | exact Or.inr rfl | omega) ?_
        refine ⟨rfl, ?_, ?_⟩
        · unfold mpIs
          rw [fp_up_at, fp_up_at, fp_upM_at, n1]
          have hi := mp_ins (s := (pg.2.2 x).length) hc hP hg ha.1 ht ⟨by omega, by omega⟩ hx hcn.2 (Nat.le_refl _)
          rw [hcn.1] at hi
          exact hi
        · refine ⟨fun c hc => by rw [fp_up_ne hc, fp_up_ne hc, fp_upM_ne hc], fun j hj => ?_⟩
          rw [fp_up_at, fp_up_at, fp_upM_at, n1]
          unfold fp_upf md_lay
          rw [n1, if_neg (by omega), if_neg (by omega), if_neg (by omega), if_neg (by omega), if_neg (by omega)]
      · exfalso; omega
  · rw [if_neg hcn]
    refine S.aload_n dX12_puts_0 rfl rfl rfl ?_
    refine S.getR dX12_puts_1 rfl fX12_7 L_177 rf_177_0 ?_
    refine S.iload_n dX12_puts_4 rfl rfl rfl ?_
    refine S.iload_n dX12_puts_5 rfl rfl rfl ?_
    refine S.iadd dX12_puts_6 rfl ?_
    refine S.iald dX12_puts_7 rfl L_178 (by omega) (by omega) ?_
    refine S.iload_n dX12_puts_8 rfl rfl rfl ?_
    refine S.icmp_ne (tgt := 24) dX12_puts_9 (by decide) rfl (by unfold fp_rng; omega) (by unfold fp_rng; omega) (fun h9 => ?_) (fun h9 => ?_)
    · refine S.iconst dX12_puts_24 rfl ?_
      refine S.zret dX12_puts_25 rfl (by first | exact Or.inl rfl | exact Or.inr rfl | omega) ?_
      exact ⟨rfl, hc, frM.refl _ _⟩
    · refine S.aload_n dX12_puts_12 rfl rfl rfl ?_
      refine S.iload_n dX12_puts_13 rfl rfl rfl ?_
      refine S.iload dX12_puts_14 rfl rfl ?_
      refine S.callVe dX12_puts_16 rfl cX12_198 (ok_X12_lie) rfl L_177 (by decide) rfl (Nat.le_of_ble_eq_true rfl) ?_
      refine S.bipush dX12_puts_19 rfl (by decide) ?_
      refine S.icmp_ne (tgt := 26) dX12_puts_21 (by decide) rfl (by unfold fp_rng; omega) (by unfold fp_rng; omega) (fun h21 => ?_) (fun h21 => ?_)
      · exfalso; omega
      · refine S.iconst dX12_puts_24 rfl ?_
        refine S.zret dX12_puts_25 rfl (by first | exact Or.inl rfl | exact Or.inr rfl | omega) ?_
        exact ⟨rfl, hc, frM.refl _ _⟩
theorem rk_X12_visits2 {i x : Int} (ha : 0 ≤ a ∧ a ≤ 500 := by omega) (hv : mvIs M vs := by assumption) (hd : mdIs M g := by assumption) (hc : mpIs M a g pg := by assumption) (hP : pgOk g pg := by assumption) (hg : gOk g := by assumption) (hvo : vsOk g vs := by assumption) (hi : 0 ≤ i ∧ i < vs.length := by first | assumption | omega) (hx : 0 ≤ x ∧ x < g.2.1 := by first | assumption | omega) : fp_Ok l G 3 kX12_visits2 [rV G 177, iV a, iV i, iV x] M (qI fun z N => z = (aHap g pg ((vs.getD i.toNat aV0).1, (vs.getD i.toNat aV0).2.1, x, (vs.getD i.toNat aV0).2.2.2)).1 ∧ mpIs N a g (aHap g pg ((vs.getD i.toNat aV0).1, (vs.getD i.toNat aV0).2.1, x, (vs.getD i.toNat aV0).2.2.2)).2 ∧ frM M N a) := by
  have hg2 := hg.2.1.2
  have hg1 := hg.1
  have hl2 := hv.2.1
  have hb := hv.at hvo hi.1 hi.2
  obtain ⟨e1, e2, e3, e4⟩ := hv.2.2 i hi.1 hi.2
  refine fp_Ok.of (r := 2) rfl (Nat.le_of_ble_eq_true rfl) rfl ?_
  unfold aHap
  by_cases hdr : M 178 (47 + 4 * i + 3).toNat = -4
  · rw [if_pos (by rw [← e4]; exact hdr), ← e2]
    dsimp only
    have hgv : pg.2.2 x = [] ∨ (0 ≤ aGv g pg x ∧ aGv g pg x < g.1) := by
      by_cases q : pg.2.2 x = []
      · exact Or.inl q
      · have := (hP.2.1 _ hx.1 (by omega)).2.2.2 _ (aGv_mem (g := g) q)
        exact Or.inr ⟨this.1, this.2.1⟩
    have hgv2 : pg.2.2 x = [] → aGv g pg x = -4 := fun q => by unfold aGv; rw [if_pos q]
    refine S.aload_n dX12_visits2_0 rfl rfl rfl ?_
    refine S.getR dX12_visits2_1 rfl fX12_7 L_177 rf_177_0 ?_
    refine S.bipush dX12_visits2_4 rfl (by decide) ?_
    refine S.iconst dX12_visits2_6 rfl ?_
    refine S.iload_n dX12_visits2_7 rfl rfl rfl ?_
    refine S.imul dX12_visits2_8 rfl ?_
    refine S.iadd dX12_visits2_9 rfl ?_
    refine S.iconst dX12_visits2_10 rfl ?_
    refine S.iadd dX12_visits2_11 rfl ?_
    refine S.iald dX12_visits2_12 rfl L_178 (by omega) (by omega) ?_
    refine S.istore (LL' := [_, _, _, _, _, _]) dX12_visits2_13 rfl (by decide) rfl rfl ?_
    refine S.aload_n dX12_visits2_15 rfl rfl rfl ?_
    refine S.getR dX12_visits2_16 rfl fX12_7 L_177 rf_177_0 ?_
    refine S.bipush dX12_visits2_19 rfl (by decide) ?_
    refine S.iconst dX12_visits2_21 rfl ?_
    refine S.iload_n dX12_visits2_22 rfl rfl rfl ?_
    refine S.imul dX12_visits2_23 rfl ?_
    refine S.iadd dX12_visits2_24 rfl ?_
    refine S.iconst dX12_visits2_25 rfl ?_
    refine S.iadd dX12_visits2_26 rfl ?_
    refine S.iald dX12_visits2_27 rfl L_178 (by omega) (by omega) ?_
    refine S.istore (LL' := [_, _, _, _, _, _]) dX12_visits2_28 rfl (by decide) rfl rfl ?_
    refine S.iload dX12_visits2_30 rfl rfl ?_
    refine S.bipush dX12_visits2_32 rfl (by decide) ?_
    refine S.icmp_ne (tgt := 58) dX12_visits2_34 (by decide) rfl (by unfold fp_rng; omega) (by unfold fp_rng; omega) (fun h34 => ?_) (fun h34 => ?_)
    · exfalso; omega
    · refine S.aload_n dX12_visits2_37 rfl rfl rfl ?_
      refine S.iload_n dX12_visits2_38 rfl rfl rfl ?_
      refine S.iload dX12_visits2_39 rfl rfl ?_
      refine S.iload_n dX12_visits2_41 rfl rfl rfl ?_
      refine S.callVi dX12_visits2_42 rfl cX12_248 (rk_X12_draws (g := g) (pg := pg)) rfl L_177 (by decide) rfl (Nat.le_of_ble_eq_true rfl) (fun z42 M42 q42 => ?_)
      obtain ⟨rfl, c42, f42⟩ := q42
      refine S.bipush dX12_visits2_45 rfl (by decide) ?_
      refine S.icmp_eq (tgt := 54) dX12_visits2_47 (by decide) rfl (by unfold fp_rng; rcases hgv with q | q; (have := hgv2 q; omega); omega) (by unfold fp_rng; omega) (fun h47 => ?_) (fun h47 => ?_)
      · refine S.iconst dX12_visits2_54 rfl ?_
        refine S.goto (pc' := 68) dX12_visits2_55 (by decide) ?_
        refine S.zret dX12_visits2_68 rfl (by first | exact Or.inl rfl | exact Or.inr rfl | omega) ?_
        first | (exfalso; omega) | (refine ⟨?_, c42, f42⟩; first | (rw [if_neg (fun q => by have := hgv2 q; omega)]; done) | (rw [if_pos (by rcases hgv with q | q; exact q; exfalso; omega)]; done))
      · refine S.iconst dX12_visits2_50 rfl ?_
        refine S.goto (pc' := 68) dX12_visits2_51 (by decide) ?_
        refine S.zret dX12_visits2_68 rfl (by first | exact Or.inl rfl | exact Or.inr rfl | omega) ?_
        first | (exfalso; omega) | (refine ⟨?_, c42, f42⟩; first | (rw [if_neg (fun q => by have := hgv2 q; omega)]; done) | (rw [if_pos (by rcases hgv with q | q; exact q; exfalso; omega)]; done))
  · rw [if_neg (by rw [← e4]; exact hdr), ← e2, ← e4]
    dsimp only
    refine S.aload_n dX12_visits2_0 rfl rfl rfl ?_
    refine S.getR dX12_visits2_1 rfl fX12_7 L_177 rf_177_0 ?_
    refine S.bipush dX12_visits2_4 rfl (by decide) ?_
    refine S.iconst dX12_visits2_6 rfl ?_
    refine S.iload_n dX12_visits2_7 rfl rfl rfl ?_
    refine S.imul dX12_visits2_8 rfl ?_
    refine S.iadd dX12_visits2_9 rfl ?_
    refine S.iconst dX12_visits2_10 rfl ?_
    refine S.iadd dX12_visits2_11 rfl ?_
    refine S.iald dX12_visits2_12 rfl L_178 (by omega) (by omega) ?_
    refine S.istore (LL' := [_, _, _, _, _, _]) dX12_visits2_13 rfl (by decide) rfl rfl ?_
    refine S.aload_n dX12_visits2_15 rfl rfl rfl ?_
    refine S.getR dX12_visits2_16 rfl fX12_7 L_177 rf_177_0 ?_
    refine S.bipush dX12_visits2_19 rfl (by decide) ?_
    refine S.iconst dX12_visits2_21 rfl ?_
    refine S.iload_n dX12_visits2_22 rfl rfl rfl ?_
    refine S.imul dX12_visits2_23 rfl ?_
    refine S.iadd dX12_visits2_24 rfl ?_
    refine S.iconst dX12_visits2_25 rfl ?_
    refine S.iadd dX12_visits2_26 rfl ?_
    refine S.iald dX12_visits2_27 rfl L_178 (by omega) (by omega) ?_
    refine S.istore (LL' := [_, _, _, _, _, _]) dX12_visits2_28 rfl (by decide) rfl rfl ?_
    refine S.iload dX12_visits2_30 rfl rfl ?_
    refine S.bipush dX12_visits2_32 rfl (by decide) ?_
    refine S.icmp_ne (tgt := 58) dX12_visits2_34 (by decide) rfl (by unfold fp_rng; omega) (by unfold fp_rng; omega) (fun h34 => ?_) (fun h34 => ?_)
    · refine S.aload_n dX12_visits2_58 rfl rfl rfl ?_
      refine S.iload_n dX12_visits2_59 rfl rfl rfl ?_
      refine S.iload dX12_visits2_60 rfl rfl ?_
      refine S.iload dX12_visits2_62 rfl rfl ?_
      refine S.iload_n dX12_visits2_64 rfl rfl rfl ?_
      refine S.callVi dX12_visits2_65 rfl cX12_244 (rk_X12_puts (g := g) (pg := pg)) rfl L_177 (by decide) rfl (Nat.le_of_ble_eq_true rfl) (fun z65 M65 q65 => ?_)
      refine S.zret dX12_visits2_68 rfl (by rw [q65.1]; unfold aApp; split <;> simp) ?_
      exact q65
    · exfalso; omega
theorem rk_X12_happens {i : Int} (ha : 0 ≤ a ∧ a ≤ 500 := by omega) (hv : mvIs M vs := by assumption) (hd : mdIs M g := by assumption) (hc : mpIs M a g pg := by assumption) (hP : pgOk g pg := by assumption) (hg : gOk g := by assumption) (hvo : vsOk g vs := by assumption) (hi : 0 ≤ i ∧ i < vs.length := by first | assumption | omega) : fp_Ok l G 4 kX12_happens [rV G 177, iV a, iV i] M (qI fun z N => z = (aHapI g pg vs i).1 ∧ mpIs N a g (aHapI g pg vs i).2 ∧ frM M N a) := by
  have hl2 := hv.2.1
  have hb := hv.at hvo hi.1 hi.2
  obtain ⟨e1, e2, e3, e4⟩ := hv.2.2 i hi.1 hi.2
  have h01 := aHapI_01 g pg vs i
  refine fp_Ok.of (r := 0) rfl (Nat.le_of_ble_eq_true rfl) rfl ?_
  unfold aHapI at h01 ⊢
  rw [if_pos hi] at h01 ⊢
  refine S.aload_n dX12_happens_0 rfl rfl rfl ?_
  refine S.iload_n dX12_happens_1 rfl rfl rfl ?_
  refine S.iload_n dX12_happens_2 rfl rfl rfl ?_
  refine S.aload_n dX12_happens_3 rfl rfl rfl ?_
  refine S.getR dX12_happens_4 rfl fX12_7 L_177 rf_177_0 ?_
  refine S.bipush dX12_happens_7 rfl (by decide) ?_
  refine S.iconst dX12_happens_9 rfl ?_
  refine S.iload_n dX12_happens_10 rfl rfl rfl ?_
  refine S.imul dX12_happens_11 rfl ?_
  refine S.iadd dX12_happens_12 rfl ?_
  refine S.iconst dX12_happens_13 rfl ?_
  refine S.iadd dX12_happens_14 rfl ?_
  refine S.iald dX12_happens_15 rfl L_178 (by omega) (by omega) ?_
  refine S.callVi dX12_happens_16 rfl cX12_257 (rk_X12_visits2 (g := g) (pg := pg) (vs := vs)) rfl L_177 (by decide) rfl (Nat.le_of_ble_eq_true rfl) (fun z16 M16 q16 => ?_)
  rw [e3] at q16
  refine S.zret dX12_happens_19 rfl (by rw [q16.1]; exact h01) ?_
  exact q16
end MRL
end
section
/-! RUNS: the reference's copies, runs, holdsAt, worthAt, placeOf -/
def aRun (g : aGd) (pg : aPg) (vs : List aVt) : Nat → aPg
  | 0 => pg
  | n + 1 => (aHapI g (aRun g pg vs n) vs n).2
/-- bits of those in vain -/
def aVn (g : aGd) (pg : aPg) (vs : List aVt) : Nat → Int
  | 0 => 0
  | n + 1 => if (aHapI g (aRun g pg vs n) vs n).1 = 0 then fp_or (aVn g pg vs n) (2 ^ n) else aVn g pg vs n
theorem aRun_ok {g : aGd} {pg : aPg} {vs : List aVt} (hg : gOk g) (h : pgOk g pg) (hv : vsOk g vs) : ∀ n, pgOk g (aRun g pg vs n)
  | 0 => h
  | n + 1 => aHapI_ok hg (aRun_ok hg h hv n) hv
theorem aRun_succ {g : aGd} {pg : aPg} {vs : List aVt} {i : Int} (h : 0 ≤ i) : aRun g pg vs (i + 1).toNat = (aHapI g (aRun g pg vs i.toNat) vs i).2 := by
  have e1 : (i + 1).toNat = i.toNat + 1 := by omega
  rw [e1]
  show (aHapI g (aRun g pg vs i.toNat) vs ((i.toNat : Nat) : Int)).2 = _
  rw [Int.toNat_of_nonneg h]
theorem aVn_succ {g : aGd} {pg : aPg} {vs : List aVt} {i : Int} (h : 0 ≤ i) : aVn g pg vs (i + 1).toNat = if (aHapI g (aRun g pg vs i.toNat) vs i).1 = 0 then fp_or (aVn g pg vs i.toNat) (2 ^ i.toNat) else aVn g pg vs i.toNat := by
  have e1 : (i + 1).toNat = i.toNat + 1 := by omega
  rw [e1]
  show (if (aHapI g (aRun g pg vs i.toNat) vs ((i.toNat : Nat) : Int)).1 = 0 then _ else _) = _
  rw [Int.toNat_of_nonneg h]
theorem aVn_lt (g : aGd) (pg : aPg) (vs : List aVt) : ∀ n : Nat, 0 ≤ aVn g pg vs n ∧ aVn g pg vs n < 2 ^ n
  | 0 => by unfold aVn; decide
  | n + 1 => by
    have h := aVn_lt g pg vs n
    have h2 : (2 : Int) ^ (n + 1) = 2 * 2 ^ n := by rw [Int.pow_succ]; omega
    have h3 : (0 : Int) < 2 ^ n := Int.pow_pos (by decide)
    unfold aVn
    split
    · exact ⟨fp_or_nn _ _, fp_or_lt (by omega) (by omega)⟩
    · omega
theorem fp_or0 {a : Int} (h : 0 ≤ a) : fp_or a 0 = a := by
  unfold fp_or
  simp
  omega
/-- the trial's page alone differs -/
def frT (M N : fp_Mem) : Prop := (∀ c, c ≠ 178 → N c = M c) ∧ ∀ j : Nat, (j < 360 ∨ 410 ≤ j) → N 178 j = M 178 j
theorem frT.refl (M : fp_Mem) : frT M M := ⟨fun _ _ => rfl, fun _ _ => rfl⟩
theorem frT.trans {M N O : fp_Mem} (h1 : frT M N) (h2 : frT N O) : frT M O := ⟨fun c hc => (h2.1 c hc).trans (h1.1 c hc), fun j hj => (h2.2 j hj).trans (h1.2 j hj)⟩
theorem frM.toT {M N : fp_Mem} (h : frM M N 360) : frT M N := ⟨h.1, fun j hj => h.2 j (by omega)⟩
theorem frT.md {M N : fp_Mem} {g : aGd} (h : frT M N) (hd : mdIs M g) : mdIs N g := hd.kept h.1
theorem frT.mv {M N : fp_Mem} {vs : List aVt} (h : frT M N) (hd : mvIs M vs) : mvIs N vs := hd.kept (fun j h1 h2 => h.2 j (by omega))
theorem frT.mp0 {M N : fp_Mem} {g : aGd} {pg : aPg} (h : frT M N) (hg : gOk g) (hP : pgOk g pg) (hd : mpIs M 0 g pg) : mpIs N 0 g pg := hd.kept hg hP (by omega) (fun j h1 h2 => h.2 j (by omega))
section MRN
variable {l : Launch} {G : fp_WG} {M : fp_Mem} {g : aGd} {pg : aPg} {vs : List aVt}
theorem copies_loop : ∀ (n : Nat) (k : Int) (N : fp_Mem), (50 - k).toNat < n → 0 ≤ k → k ≤ 50 → N = fp_upM M 178 (fun j : Nat => if 360 ≤ j ∧ (j : Int) < 360 + k then M 178 (j - 360) else M 178 j) →
    fp_S l G 0 kX12_copies 2 [some (rV G 177), some (iV 0), some (iV 360), some (iV k)] [] N (qW (fp_upM M 178 (fun j : Nat => if 360 ≤ j ∧ (j : Int) < 360 + 50 then M 178 (j - 360) else M 178 j))) := by
  intro n
  induction n with
  | zero => intro k N h; omega
  | succ n ih =>
    intro k N h k0 k1 hN
    refine S.iload_n dX12_copies_2 rfl rfl rfl ?_
    refine S.bipush dX12_copies_3 rfl (by decide) ?_
    refine S.icmp_ge (tgt := 30) dX12_copies_5 (by decide) rfl (by unfold fp_rng; omega) (by unfold fp_rng; omega) (fun h5 => ?_) (fun h5 => ?_)
    · refine S.vret dX12_copies_30 rfl ?_
      show _ = _
      rw [hN, show k = 50 by omega]
    · refine S.aload_n dX12_copies_8 rfl rfl rfl ?_
      refine S.getR dX12_copies_9 rfl fX12_7 L_177 rf_177_0 ?_
      refine S.iload_n dX12_copies_12 rfl rfl rfl ?_
      refine S.iload_n dX12_copies_13 rfl rfl rfl ?_
      refine S.iadd dX12_copies_14 rfl ?_
      refine S.aload_n dX12_copies_15 rfl rfl rfl ?_
      refine S.getR dX12_copies_16 rfl fX12_7 L_177 rf_177_0 ?_
      refine S.iload_n dX12_copies_19 rfl rfl rfl ?_
      refine S.iload_n dX12_copies_20 rfl rfl rfl ?_
      refine S.iadd dX12_copies_21 rfl ?_
      refine S.iald dX12_copies_22 rfl L_178 (by omega) (by omega) ?_
      refine S.iast dX12_copies_23 rfl L_178 (by omega) (by omega) ?_
      refine S.iinc (LL' := [_, _, _, _]) dX12_copies_24 rfl (by decide) rfl rfl rfl ?_
      refine S.goto (pc' := 2) dX12_copies_27 (by decide) ?_
      refine ih _ _ (by omega) (by omega) (by omega) ?_
      rw [hN, fp_up_same]
      refine congrArg (fp_upM _ 178) (funext fun j => ?_)
      rw [fp_upM_at]
      dsimp only [fp_upf]
      (repeat' split) <;> first | (exfalso; omega) | (refine congrArg (M 178) ?_; omega)
theorem rk_X12_copies (hc : mpIs M 0 g pg := by assumption) (hP : pgOk g pg := by assumption) (hg : gOk g := by assumption) : fp_Ok l G 0 kX12_copies [rV G 177, iV 0, iV 360] M (qV fun N => mpIs N 360 g pg ∧ frT M N) := by
  have hg1 := hg.1
  have hb : fp_Ok l G 0 kX12_copies [rV G 177, iV 0, iV 360] M (qW (fp_upM M 178 (fun j : Nat => if 360 ≤ j ∧ (j : Int) < 360 + 50 then M 178 (j - 360) else M 178 j))) := by
    refine fp_Ok.of (r := 1) rfl (Nat.le_of_ble_eq_true rfl) rfl ?_
    refine S.iconst dX12_copies_0 rfl ?_
    refine S.istore_n (LL' := [_, _, _, _]) dX12_copies_1 rfl (by decide) rfl rfl rfl ?_
    refine copies_loop 51 0 M (by omega) (by omega) (by omega) ?_
    rw [show (fun j : Nat => if 360 ≤ j ∧ (j : Int) < 360 + 0 then M 178 (j - 360) else M 178 j) = M 178 from funext fun j => by rw [if_neg (by omega)], fp_upM_self]
  refine hb.toV ⟨?_, fun c hc => fp_upM_ne hc, fun j hj => by rw [fp_upM_at, if_neg (by omega)]⟩
  unfold mpIs
  rw [fp_upM_at]
  obtain ⟨c1, c2, c3⟩ := hc
  refine ⟨fun t t0 t1 => ?_, fun t t0 t1 t2 => ?_, fun x x0 x3 => ?_⟩
  · show (if 360 ≤ (360 + t).toNat ∧ _ then _ else _) = _
    rw [if_pos (by omega), ← c1 t t0 t1]; refine congrArg (M 178) ?_; omega
  · show (if 360 ≤ (360 + 37 + t).toNat ∧ _ then _ else _) = _
    rw [if_pos (by omega), ← c2 t t0 t1 t2]; refine congrArg (M 178) ?_; omega
  · obtain ⟨q1, q2⟩ := c3 x x0 x3
    have hl := (hP.2.1 x x0 x3).1
    refine ⟨?_, fun i i0 i1 => ?_⟩
    · show (if 360 ≤ (360 + 10 + 9 * x).toNat ∧ _ then _ else _) = _
      rw [if_pos (by omega), ← q1]; refine congrArg (M 178) ?_; omega
    · show (if 360 ≤ (360 + 10 + 9 * x + 1 + i).toNat ∧ _ then _ else _) = _
      rw [if_pos (by omega), ← q2 i i0 i1]; refine congrArg (M 178) ?_; omega
theorem runs_loop {m9 : Int} (hP : pgOk g pg) (hg : gOk g) (hvo : vsOk g vs) (hv : mvIs M vs) (hd : mdIs M g) (hm : 0 ≤ m9 ∧ m9 ≤ vs.length) : ∀ (n : Nat) (i : Int) (N : fp_Mem), (m9 - i).toNat < n → 0 ≤ i → i ≤ m9 → frT M N → mpIs N 360 g (aRun g pg vs i.toNat) →
    fp_S l G 5 kX12_runs 12 [some (rV G 177), some (iV m9), some (iV (aVn g pg vs i.toNat)), some (iV i)] [] N (qI fun z O => z = aVn g pg vs m9.toNat ∧ mpIs O 360 g (aRun g pg vs m9.toNat) ∧ frT M O) := by
  have hl := hv.2.1
  intro n
  induction n with
  | zero => intro i N h; omega
  | succ n ih =>
    intro i N h i0 i1 hf hc
    have hb := aVn_lt g pg vs i.toNat
    have es := aVn_succ (g := g) (pg := pg) (vs := vs) i0
    have er := aRun_succ (g := g) (pg := pg) (vs := vs) i0
    have hPi := aRun_ok hg hP hvo i.toNat
    have hv' := hf.mv hv
    have hd' := hf.md hd
    have hpw := fp_pow_le (i := i) (n := 12) (by omega)
    refine S.iload_n dX12_runs_12 rfl rfl rfl ?_
    refine S.iload_n dX12_runs_13 rfl rfl rfl ?_
    refine S.icmp_ge (tgt := 44) dX12_runs_14 (by decide) rfl (by unfold fp_rng; omega) (by unfold fp_rng; omega) (fun h14 => ?_) (fun h14 => ?_)
    · refine S.iload_n dX12_runs_44 rfl rfl rfl ?_
      refine S.iret dX12_runs_45 rfl ?_
      rw [show m9 = i by omega]; exact ⟨rfl, hc, hf⟩
    · refine S.iload_n dX12_runs_17 rfl rfl rfl ?_
      refine S.aload_n dX12_runs_18 rfl rfl rfl ?_
      refine S.sipush dX12_runs_19 rfl (by decide) ?_
      refine S.iload_n dX12_runs_22 rfl rfl rfl ?_
      refine S.callVi dX12_runs_23 rfl cX12_261 (rk_X12_happens (g := g) (pg := aRun g pg vs i.toNat) (vs := vs)) rfl L_177 (by decide) rfl (Nat.le_of_ble_eq_true rfl) (fun z23 M23 q23 => ?_)
      have h01 := aHapI_01 g (aRun g pg vs i.toNat) vs i
      obtain ⟨rfl, c23, f23⟩ := q23
      refine S.if_eq (tgt := 33) dX12_runs_26 (by decide) rfl (by unfold fp_rng; omega) (fun h26 => ?_) (fun h26 => ?_)
      · refine S.iconst dX12_runs_33 rfl ?_
        refine S.iload_n dX12_runs_34 rfl rfl rfl ?_
        refine S.ishl dX12_runs_35 rfl (fp_shl1 (by omega) (by omega)) ?_
        refine S.ior dX12_runs_36 rfl (fp_ior hb.1 (by omega)) ?_
        refine S.istore_n (LL' := [_, _, _, _]) dX12_runs_37 rfl (by decide) rfl rfl rfl ?_
        refine S.iinc (LL' := [_, _, _, _]) dX12_runs_38 rfl (by decide) rfl rfl rfl ?_
        refine S.goto (pc' := 12) dX12_runs_41 (by decide) ?_
        first | (rw [if_neg h26] at es; rw [fp_or0 hb.1, ← es]; rw [← er] at c23; exact ih _ _ (by omega) (by omega) (by omega) (hf.trans f23.toT) c23) | (rw [if_pos h26] at es; rw [← es]; rw [← er] at c23; exact ih _ _ (by omega) (by omega) (by omega) (hf.trans f23.toT) c23)
      · refine S.iconst dX12_runs_29 rfl ?_
        refine S.goto (pc' := 36) dX12_runs_30 (by decide) ?_
        refine S.ior dX12_runs_36 rfl (fp_ior hb.1 (by omega)) ?_
        refine S.istore_n (LL' := [_, _, _, _]) dX12_runs_37 rfl (by decide) rfl rfl rfl ?_
        refine S.iinc (LL' := [_, _, _, _]) dX12_runs_38 rfl (by decide) rfl rfl rfl ?_
        refine S.goto (pc' := 12) dX12_runs_41 (by decide) ?_
        first | (rw [if_neg h26] at es; rw [fp_or0 hb.1, ← es]; rw [← er] at c23; exact ih _ _ (by omega) (by omega) (by omega) (hf.trans f23.toT) c23) | (rw [if_pos h26] at es; rw [← es]; rw [← er] at c23; exact ih _ _ (by omega) (by omega) (by omega) (hf.trans f23.toT) c23)
theorem rk_X12_runs {m9 : Int} (hc : mpIs M 0 g pg := by assumption) (hP : pgOk g pg := by assumption) (hg : gOk g := by assumption) (hvo : vsOk g vs := by assumption) (hv : mvIs M vs := by assumption) (hd : mdIs M g := by assumption) (hm : 0 ≤ m9 ∧ m9 ≤ vs.length := by first | assumption | omega) : fp_Ok l G 5 kX12_runs [rV G 177, iV m9] M (qI fun z O => z = aVn g pg vs m9.toNat ∧ mpIs O 360 g (aRun g pg vs m9.toNat) ∧ frT M O) := by
  refine fp_Ok.of (r := 2) rfl (Nat.le_of_ble_eq_true rfl) rfl ?_
  refine S.aload_n dX12_runs_0 rfl rfl rfl ?_
  refine S.iconst dX12_runs_1 rfl ?_
  refine S.sipush dX12_runs_2 rfl (by decide) ?_
  refine S.callVv dX12_runs_5 rfl cX12_265 (rk_X12_copies (g := g) (pg := pg)) rfl L_177 (by decide) rfl (Nat.le_of_ble_eq_true rfl) (fun M5 q5 => ?_)
  refine S.iconst dX12_runs_8 rfl ?_
  refine S.istore_n (LL' := [_, _, _, _]) dX12_runs_9 rfl (by decide) rfl rfl rfl ?_
  refine S.iconst dX12_runs_10 rfl ?_
  refine S.istore_n (LL' := [_, _, _, _]) dX12_runs_11 rfl (by decide) rfl rfl rfl ?_
  exact runs_loop hP hg hvo hv hd hm (m9.toNat + 1) 0 _ (by omega) (by omega) (by omega) q5.2 q5.1
end MRN
end
section
/-! WHO HOLDS WHAT, on both sides -/
def aHolds (g : aGd) (pg : aPg) (p : Int) : Int := fp_hb pg.1 p g.1.toNat
def aWorth (g : aGd) (pg : aPg) (p : Int) : Int := fp_sum (fun t => if pg.1 t = p then g.2.2.2.2.1 t p else 0) g.1.toNat
def aLeast (g : aGd) (pg : aPg) (p : Int) : Int := fp_find pg.1 p g.1.toNat 0
def aSpot (pg : aPg) (t : Int) : Int := if 10 ≤ pg.1 t then fp_find (fun i => (pg.2.2 (pg.1 t - 10)).getD i.toNat 0) t (pg.2.2 (pg.1 t - 10)).length 0 else -4
theorem fp_hb_ext {w v : Int → Int} {p : Int} {n : Nat} (h1 : ∀ t : Int, 0 ≤ t → t < n → w t = v t) : ∀ m : Nat, n ≤ m → (∀ t : Int, n ≤ t → t < m → w t ≠ p) → fp_hb w p m = fp_hb v p n := by
  have hc : ∀ n : Nat, (∀ t : Int, 0 ≤ t → t < n → w t = v t) → fp_hb w p n = fp_hb v p n := by
    intro n
    induction n with
    | zero => intro _; rfl
    | succ n ih =>
      intro h
      unfold fp_hb
      rw [ih (fun t t0 t1 => h t t0 (by omega)), h n (by omega) (by omega)]
  intro m
  induction m with
  | zero =>
    intro hm _
    have : n = 0 := by omega
    subst this; rfl
  | succ m ih =>
    intro hm h2
    by_cases e : n = m + 1
    · subst e; exact hc _ h1
    · rw [← ih (by omega) (fun t t0 t1 => h2 t t0 (by omega))]
      show (if w m = p then _ else _) = _
      rw [if_neg (h2 m (by omega) (by omega))]
theorem fp_sum_congr {f h : Int → Int} : ∀ n : Nat, (∀ t : Int, 0 ≤ t → t < n → f t = h t) → fp_sum f n = fp_sum h n
  | 0, _ => rfl
  | n + 1, e => by
    unfold fp_sum
    rw [fp_sum_congr n (fun t t0 t1 => e t t0 (by omega)), e n (by omega) (by omega)]
theorem fp_find_congr {f h : Int → Int} {t : Int} : ∀ (n : Nat) (i : Int), (∀ j : Int, i ≤ j → j < i + n → f j = h j) → fp_find f t n i = fp_find h t n i
  | 0, _, _ => rfl
  | n + 1, i, e => by
    unfold fp_find
    rw [e i (by omega) (by omega), fp_find_congr n (i + 1) (fun j j0 j1 => e j (by omega) (by omega))]
theorem fp_find_none {f : Int → Int} {t : Int} : ∀ (n : Nat) (i : Int), (∀ j : Int, i ≤ j → j < i + n → f j ≠ t) → fp_find f t n i = -4
  | 0, _, _ => rfl
  | n + 1, i, e => by
    unfold fp_find
    rw [if_neg (e i (by omega) (by omega)), fp_find_none n (i + 1) (fun j j0 j1 => e j (by omega) (by omega))]
theorem fp_find_ext {f : Int → Int} {t : Int} : ∀ (n m : Nat) (i : Int), n ≤ m → (∀ j : Int, i + n ≤ j → j < i + m → f j ≠ t) → fp_find f t m i = fp_find f t n i
  | 0, m, i, _, e => fp_find_none m i (fun j j0 j1 => e j (by omega) (by omega))
  | n + 1, 0, i, h, _ => by omega
  | n + 1, m + 1, i, h, e => by
    unfold fp_find
    rw [fp_find_ext n m (i + 1) (by omega) (fun j j0 j1 => e j (by omega) (by omega))]
theorem fp_find_in {f : Int → Int} {t : Int} : ∀ (n : Nat) (i : Int), fp_find f t n i = -4 ∨ (i ≤ fp_find f t n i ∧ fp_find f t n i < i + n ∧ f (fp_find f t n i) = t)
  | 0, _ => Or.inl rfl
  | n + 1, i => by
    unfold fp_find
    split
    · rename_i h; exact Or.inr ⟨by omega, by omega, h⟩
    · rcases fp_find_in (f := f) (t := t) n (i + 1) with h | h
      · exact Or.inl h
      · exact Or.inr ⟨by omega, by omega, h.2.2⟩
section HLD
variable {l : Launch} {G : fp_WG} {M : fp_Mem} {k kg : Nat} {a : Int} {g : aGd} {pg : aPg}
theorem rk_X5_heldBy {p : Int} (hk : fp_ispl k) (hc : clIs M k g pg := by assumption) (hg : gOk g := by assumption) (hp : 0 ≤ p ∧ p < 4 := by first | assumption | omega) : fp_Ok l G 0 kX5_heldBy [rV G k, iV p] M (qE (aHolds g pg p) M) := by
  have e : fp_hb (fun t => M (k + 1) t.toNat) p 10 = aHolds g pg p := by
    have hg1 := hg.1
    exact fp_hb_ext (fun t t0 t1 => hc.1 t t0 (by omega)) 10 (by omega) (fun t t0 t1 => by have := hc.2.1 t (by omega) (by omega); omega)
  rw [← e]
  exact ok_X5_heldBy hk hc.2.2.2.2
theorem rk_X5_leastHeldBy {p : Int} (hk : fp_ispl k) (hc : clIs M k g pg := by assumption) (hg : gOk g := by assumption) (hp : 0 ≤ p ∧ p < 4 := by first | assumption | omega) : fp_Ok l G 0 kX5_leastHeldBy [rV G k, iV p] M (qE (aLeast g pg p) M) := by
  have e : fp_find (fun t => M (k + 1) t.toNat) p 10 0 = aLeast g pg p := by
    have hg1 := hg.1
    rw [fp_find_ext g.1.toNat 10 0 (by omega) (fun t t0 t1 => by have := hc.2.1 t (by omega) (by omega); omega)]
    exact fp_find_congr _ _ (fun t t0 t1 => hc.1 t (by omega) (by omega))
  rw [← e]
  exact ok_X5_leastHeldBy hk hc.2.2.2.2
theorem rk_X5_worthTo {p : Int} (hk : fp_ispl k) (hkg : fp_isgd kg) (hc : clIs M k g pg := by assumption) (hd : gdIs M kg g := by assumption) (hg : gOk g := by assumption) (hp : 0 ≤ p ∧ p < 4 := by first | assumption | omega) : fp_Ok l G 1 kX5_worthTo [rV G k, rV G kg, iV p] M (qE (aWorth g pg p) M) := by
  have e : fp_sum (fun t => if M (k + 1) t.toNat = p then M (kg + 2) (t * 4 + p).toNat else 0) (M kg 0).toNat = aWorth g pg p := by
    have hg1 := hg.1
    rw [hd.1]
    exact fp_sum_congr _ (fun t t0 t1 => by rw [hc.1 t t0 (by omega), hd.2.2.2.2.2.1 t p t0 (by omega) hp.1 hp.2])
  rw [← e]
  exact ok_X5_worthTo hk hkg hc.2.2.2.2 hd.2.2.2.2.2.2.2.2
theorem rk_X5_spotOf {t : Int} (hk : fp_ispl k) (hc : clIs M k g pg := by assumption) (hP : pgOk g pg := by assumption) (hg : gOk g := by assumption) (ht : 0 ≤ t ∧ t < g.1 := by first | assumption | omega) : fp_Ok l G 0 kX5_spotOf [rV G k, iV t] M (qE (aSpot pg t) M) := by
  have hg1 := hg.1
  have hg2 := hg.2.1
  have e : pl_spot M k t = aSpot pg t := by
    unfold pl_spot aSpot
    have hw := hP.1 t ht.1 ht.2
    rw [hc.1 t ht.1 ht.2]
    by_cases h : 10 ≤ pg.1 t
    · rw [if_pos (by omega), if_pos h]
      obtain ⟨n1, n2, n3⟩ := hc.line hP (x := pg.1 t - 10) ⟨by omega, by omega⟩ hg
      rw [n1]
      exact fp_find_congr _ _ (fun i i0 i1 => (n2 i i0 (by omega)).1)
    · rw [if_neg (by omega), if_neg h]
  rw [← e]
  exact ok_X5_spotOf hk hc.2.2.2.2 ⟨ht.1, by omega⟩
theorem mheld_loop {p : Int} (ha : 0 ≤ a ∧ a ≤ 500) (hc : mpIs M a g pg) (hd : mdIs M g) (hP : pgOk g pg) (hg : gOk g) (hp : fp_rng p) : ∀ (n : Nat) (t : Int), (g.1 - t).toNat < n → 0 ≤ t → t ≤ g.1 →
    fp_S l G 0 kX12_holdsAt 5 [some (rV G 177), some (iV a), some (iV p), some (iV (fp_hb pg.1 p t.toNat)), some (iV t)] [] M (qE (aHolds g pg p) M) := by
  have hg1 := hg.1
  have hg2 := hg.2.1
  have hd1 := hd.1
  intro n
  induction n with
  | zero => intro t h; omega
  | succ n ih =>
    intro t h h0 h1
    have hb := fp_hb_lt pg.1 p t.toNat
    have es := fp_hb_succ (w := pg.1) (p := p) h0
    have hpw := fp_pow_le (i := t) (n := 12) (by omega)
    refine S.iload dX12_holdsAt_5 rfl rfl ?_
    refine S.aload_n dX12_holdsAt_7 rfl rfl rfl ?_
    refine S.getI dX12_holdsAt_8 rfl fX12_181 L_177 ?_
    refine S.icmp_ge (tgt := 44) dX12_holdsAt_11 (by decide) rfl (by unfold fp_rng; omega) (by unfold fp_rng; omega) (fun h11 => ?_) (fun h11 => ?_)
    · refine S.iload_n dX12_holdsAt_44 rfl rfl rfl ?_
      refine S.iret dX12_holdsAt_45 rfl ?_
      exact ⟨by rw [show t = g.1 by omega]; rfl, rfl⟩
    · have hw := hc.1 t (by omega) (by omega)
      have hwo := hP.1 t (by omega) (by omega)
      refine S.iload_n dX12_holdsAt_14 rfl rfl rfl ?_
      refine S.aload_n dX12_holdsAt_15 rfl rfl rfl ?_
      refine S.getR dX12_holdsAt_16 rfl fX12_7 L_177 rf_177_0 ?_
      refine S.iload_n dX12_holdsAt_19 rfl rfl rfl ?_
      refine S.iload dX12_holdsAt_20 rfl rfl ?_
      refine S.iadd dX12_holdsAt_22 rfl ?_
      refine S.iald dX12_holdsAt_23 rfl L_178 (by omega) (by omega) ?_
      refine S.iload_n dX12_holdsAt_24 rfl rfl rfl ?_
      refine S.icmp_ne (tgt := 35) dX12_holdsAt_25 (by decide) rfl (by unfold fp_rng; omega) hp (fun h25 => ?_) (fun h25 => ?_)
      · refine S.iconst dX12_holdsAt_35 rfl ?_
        refine S.ior dX12_holdsAt_36 rfl (fp_ior hb.1 (by omega)) ?_
        refine S.istore_n (LL' := [_, _, _, _, _]) dX12_holdsAt_37 rfl (by decide) rfl rfl rfl ?_
        refine S.iinc (LL' := [_, _, _, _, _]) dX12_holdsAt_38 rfl (by decide) rfl rfl rfl ?_
        refine S.goto (pc' := 5) dX12_holdsAt_41 (by decide) ?_
        first | (rw [hw] at h25; rw [if_neg h25] at es; rw [fp_or0 hb.1, ← es]; exact ih _ (by omega) (by omega) (by omega)) | (rw [hw] at h25; rw [if_pos h25] at es; rw [← es]; exact ih _ (by omega) (by omega) (by omega))
      · refine S.iconst dX12_holdsAt_28 rfl ?_
        refine S.iload dX12_holdsAt_29 rfl rfl ?_
        refine S.ishl dX12_holdsAt_31 rfl (fp_shl1 (by omega) (by omega)) ?_
        refine S.goto (pc' := 36) dX12_holdsAt_32 (by decide) ?_
        refine S.ior dX12_holdsAt_36 rfl (fp_ior hb.1 (by omega)) ?_
        refine S.istore_n (LL' := [_, _, _, _, _]) dX12_holdsAt_37 rfl (by decide) rfl rfl rfl ?_
        refine S.iinc (LL' := [_, _, _, _, _]) dX12_holdsAt_38 rfl (by decide) rfl rfl rfl ?_
        refine S.goto (pc' := 5) dX12_holdsAt_41 (by decide) ?_
        first | (rw [hw] at h25; rw [if_neg h25] at es; rw [fp_or0 hb.1, ← es]; exact ih _ (by omega) (by omega) (by omega)) | (rw [hw] at h25; rw [if_pos h25] at es; rw [← es]; exact ih _ (by omega) (by omega) (by omega))
theorem rk_X12_holdsAt {p : Int} (ha : 0 ≤ a ∧ a ≤ 500 := by omega) (hc : mpIs M a g pg := by assumption) (hd : mdIs M g := by assumption) (hP : pgOk g pg := by assumption) (hg : gOk g := by assumption) (hp : fp_rng p := by first | assumption | (unfold fp_rng; omega)) : fp_Ok l G 0 kX12_holdsAt [rV G 177, iV a, iV p] M (qE (aHolds g pg p) M) := by
  have hg1 := hg.1
  refine fp_Ok.of (r := 2) rfl (Nat.le_of_ble_eq_true rfl) rfl ?_
  refine S.iconst dX12_holdsAt_0 rfl ?_
  refine S.istore_n (LL' := [_, _, _, _, _]) dX12_holdsAt_1 rfl (by decide) rfl rfl rfl ?_
  refine S.iconst dX12_holdsAt_2 rfl ?_
  refine S.istore (LL' := [_, _, _, _, _]) dX12_holdsAt_3 rfl (by decide) rfl rfl ?_
  exact mheld_loop ha hc hd hP hg hp (g.1.toNat + 1) 0 (by omega) (by omega) (by omega)
theorem mworth_loop {p : Int} (ha : 0 ≤ a ∧ a ≤ 500) (hc : mpIs M a g pg) (hd : mdIs M g) (hP : pgOk g pg) (hg : gOk g) (hp : 0 ≤ p ∧ p < 4) : ∀ (n : Nat) (t : Int), (g.1 - t).toNat < n → 0 ≤ t → t ≤ g.1 →
    fp_S l G 0 kX12_worthAt 5 [some (rV G 177), some (iV a), some (iV p), some (iV (fp_sum (fun t => if pg.1 t = p then g.2.2.2.2.1 t p else 0) t.toNat)), some (iV t)] [] M (qE (aWorth g pg p) M) := by
  have hg1 := hg.1
  have hg2 := hg.2.1
  have hd1 := hd.1
  intro n
  induction n with
  | zero => intro t h; omega
  | succ n ih =>
    intro t h h0 h1
    have es := fp_sum_succ (f := fun t => if pg.1 t = p then g.2.2.2.2.1 t p else 0) h0
    refine S.iload dX12_worthAt_5 rfl rfl ?_
    refine S.aload_n dX12_worthAt_7 rfl rfl rfl ?_
    refine S.getI dX12_worthAt_8 rfl fX12_181 L_177 ?_
    refine S.icmp_ge (tgt := 51) dX12_worthAt_11 (by decide) rfl (by unfold fp_rng; omega) (by unfold fp_rng; omega) (fun h11 => ?_) (fun h11 => ?_)
    · refine S.iload_n dX12_worthAt_51 rfl rfl rfl ?_
      refine S.iret dX12_worthAt_52 rfl ?_
      exact ⟨by rw [show t = g.1 by omega]; rfl, rfl⟩
    · have hw := hc.1 t (by omega) (by omega)
      have hwo := hP.1 t (by omega) (by omega)
      have hvl := hd.2.2.2.2.2.1 t p h0 (by omega) hp.1 hp.2
      refine S.iload_n dX12_worthAt_14 rfl rfl rfl ?_
      refine S.aload_n dX12_worthAt_15 rfl rfl rfl ?_
      refine S.getR dX12_worthAt_16 rfl fX12_7 L_177 rf_177_0 ?_
      refine S.iload_n dX12_worthAt_19 rfl rfl rfl ?_
      refine S.iload dX12_worthAt_20 rfl rfl ?_
      refine S.iadd dX12_worthAt_22 rfl ?_
      refine S.iald dX12_worthAt_23 rfl L_178 (by omega) (by omega) ?_
      refine S.iload_n dX12_worthAt_24 rfl rfl rfl ?_
      refine S.icmp_ne (tgt := 42) dX12_worthAt_25 (by decide) rfl (by unfold fp_rng; omega) (by unfold fp_rng; omega) (fun h25 => ?_) (fun h25 => ?_)
      · refine S.iconst dX12_worthAt_42 rfl ?_
        refine S.iadd dX12_worthAt_43 rfl ?_
        refine S.istore_n (LL' := [_, _, _, _, _]) dX12_worthAt_44 rfl (by decide) rfl rfl rfl ?_
        refine S.iinc (LL' := [_, _, _, _, _]) dX12_worthAt_45 rfl (by decide) rfl rfl rfl ?_
        refine S.goto (pc' := 5) dX12_worthAt_48 (by decide) ?_
        first | (rw [hw] at h25; rw [if_neg h25] at es; rw [← es]; exact ih _ (by omega) (by omega) (by omega)) | (rw [hw] at h25; rw [if_pos h25] at es; rw [hvl, ← es]; exact ih _ (by omega) (by omega) (by omega))
      · refine S.aload_n dX12_worthAt_28 rfl rfl rfl ?_
        refine S.getR dX12_worthAt_29 rfl fX12_16 L_177 rf_177_2 ?_
        refine S.iconst dX12_worthAt_32 rfl ?_
        refine S.iload dX12_worthAt_33 rfl rfl ?_
        refine S.imul dX12_worthAt_35 rfl ?_
        refine S.iload_n dX12_worthAt_36 rfl rfl rfl ?_
        refine S.iadd dX12_worthAt_37 rfl ?_
        refine S.iald dX12_worthAt_38 rfl L_180 (by omega) (by omega) ?_
        refine S.goto (pc' := 43) dX12_worthAt_39 (by decide) ?_
        refine S.iadd dX12_worthAt_43 rfl ?_
        refine S.istore_n (LL' := [_, _, _, _, _]) dX12_worthAt_44 rfl (by decide) rfl rfl rfl ?_
        refine S.iinc (LL' := [_, _, _, _, _]) dX12_worthAt_45 rfl (by decide) rfl rfl rfl ?_
        refine S.goto (pc' := 5) dX12_worthAt_48 (by decide) ?_
        first | (rw [hw] at h25; rw [if_neg h25] at es; rw [← es]; exact ih _ (by omega) (by omega) (by omega)) | (rw [hw] at h25; rw [if_pos h25] at es; rw [hvl, ← es]; exact ih _ (by omega) (by omega) (by omega))
theorem rk_X12_worthAt {p : Int} (ha : 0 ≤ a ∧ a ≤ 500 := by omega) (hc : mpIs M a g pg := by assumption) (hd : mdIs M g := by assumption) (hP : pgOk g pg := by assumption) (hg : gOk g := by assumption) (hp : 0 ≤ p ∧ p < 4 := by first | assumption | omega) : fp_Ok l G 0 kX12_worthAt [rV G 177, iV a, iV p] M (qE (aWorth g pg p) M) := by
  have hg1 := hg.1
  refine fp_Ok.of (r := 2) rfl (Nat.le_of_ble_eq_true rfl) rfl ?_
  refine S.iconst dX12_worthAt_0 rfl ?_
  refine S.istore_n (LL' := [_, _, _, _, _]) dX12_worthAt_1 rfl (by decide) rfl rfl rfl ?_
  refine S.iconst dX12_worthAt_2 rfl ?_
  refine S.istore (LL' := [_, _, _, _, _]) dX12_worthAt_3 rfl (by decide) rfl rfl ?_
  exact mworth_loop ha hc hd hP hg hp (g.1.toNat + 1) 0 (by omega) (by omega) (by omega)
theorem mplace_loop {t : Int} (hc : mpIs M 0 g pg) (hP : pgOk g pg) (hg : gOk g) (ht : 0 ≤ t ∧ t < g.1) (hx : 10 ≤ pg.1 t) : ∀ (n : Nat) (i : Int), (((pg.2.2 (pg.1 t - 10)).length : Int) - i).toNat = n → 0 ≤ i → i ≤ (pg.2.2 (pg.1 t - 10)).length →
    fp_S l G 1 kX12_placeOf 12 [some (rV G 177), some (iV t), some (iV (pg.1 t - 10)), some (iV i)] [] M (qE (fp_find (fun i => (pg.2.2 (pg.1 t - 10)).getD i.toNat 0) t n i) M) := by
  have hg1 := hg.1
  have hg2 := hg.2.1
  have hwo := hP.1 t ht.1 ht.2
  obtain ⟨n1, n2, n3⟩ := hc.line hP (x := pg.1 t - 10) ⟨by omega, by omega⟩ hg
  intro n
  induction n with
  | zero =>
    intro i h h0 h1
    refine S.iload_n dX12_placeOf_12 rfl rfl rfl ?_
    refine S.if_lt (tgt := 45) dX12_placeOf_13 (by decide) rfl (by unfold fp_rng; omega) (fun h13 => ?_) (fun h13 => ?_)
    · refine S.bipush dX12_placeOf_45 rfl (by decide) ?_
      refine S.iret dX12_placeOf_47 rfl ?_
      exact ⟨rfl, rfl⟩
    · refine S.iload_n dX12_placeOf_16 rfl rfl rfl ?_
      refine S.aload_n dX12_placeOf_17 rfl rfl rfl ?_
      refine S.iconst dX12_placeOf_18 rfl ?_
      refine S.iload_n dX12_placeOf_19 rfl rfl rfl ?_
      refine S.callVe dX12_placeOf_20 rfl cX12_198 (ok_X12_lie) rfl L_177 (by decide) rfl (Nat.le_of_ble_eq_true rfl) ?_
      refine S.icmp_ge (tgt := 45) dX12_placeOf_23 (by decide) rfl (by unfold fp_rng; omega) (by unfold fp_rng; omega) (fun h23 => ?_) (fun h23 => ?_)
      · refine S.bipush dX12_placeOf_45 rfl (by decide) ?_
        refine S.iret dX12_placeOf_47 rfl ?_
        exact ⟨rfl, rfl⟩
      · exfalso; omega
  | succ n ih =>
    intro i h h0 h1
    unfold fp_find
    have q := n2 i h0 (by omega)
    refine S.iload_n dX12_placeOf_12 rfl rfl rfl ?_
    refine S.if_lt (tgt := 45) dX12_placeOf_13 (by decide) rfl (by unfold fp_rng; omega) (fun h13 => ?_) (fun h13 => ?_)
    · refine S.bipush dX12_placeOf_45 rfl (by decide) ?_
      refine S.iret dX12_placeOf_47 rfl ?_
      exfalso; omega
    · refine S.iload_n dX12_placeOf_16 rfl rfl rfl ?_
      refine S.aload_n dX12_placeOf_17 rfl rfl rfl ?_
      refine S.iconst dX12_placeOf_18 rfl ?_
      refine S.iload_n dX12_placeOf_19 rfl rfl rfl ?_
      refine S.callVe dX12_placeOf_20 rfl cX12_198 (ok_X12_lie) rfl L_177 (by decide) rfl (Nat.le_of_ble_eq_true rfl) ?_
      refine S.icmp_ge (tgt := 45) dX12_placeOf_23 (by decide) rfl (by unfold fp_rng; omega) (by unfold fp_rng; omega) (fun h23 => ?_) (fun h23 => ?_)
      · refine S.bipush dX12_placeOf_45 rfl (by decide) ?_
        refine S.iret dX12_placeOf_47 rfl ?_
        exfalso; omega
      · refine S.aload_n dX12_placeOf_26 rfl rfl rfl ?_
        refine S.iconst dX12_placeOf_27 rfl ?_
        refine S.iload_n dX12_placeOf_28 rfl rfl rfl ?_
        refine S.iload_n dX12_placeOf_29 rfl rfl rfl ?_
        refine S.callVe dX12_placeOf_30 rfl cX12_201 (ok_X12_lies) rfl L_177 (by decide) rfl (Nat.le_of_ble_eq_true rfl) ?_
        refine S.iload_n dX12_placeOf_33 rfl rfl rfl ?_
        refine S.icmp_ne (tgt := 39) dX12_placeOf_34 (by decide) rfl (by unfold fp_rng; omega) (by unfold fp_rng; omega) (fun h34 => ?_) (fun h34 => ?_)
        · refine S.iinc (LL' := [_, _, _, _]) dX12_placeOf_39 rfl (by decide) rfl rfl rfl ?_
          refine S.goto (pc' := 12) dX12_placeOf_42 (by decide) ?_
          rw [q.1] at h34; rw [if_neg h34]
          exact ih _ (by omega) (by omega) (by omega)
        · refine S.iload_n dX12_placeOf_37 rfl rfl rfl ?_
          refine S.iret dX12_placeOf_38 rfl ?_
          exact ⟨by rw [q.1] at h34; rw [if_pos h34], rfl⟩
theorem rk_X12_placeOf {t : Int} (hc : mpIs M 0 g pg := by assumption) (hP : pgOk g pg := by assumption) (hg : gOk g := by assumption) (ht : 0 ≤ t ∧ t < g.1 := by first | assumption | omega) : fp_Ok l G 1 kX12_placeOf [rV G 177, iV t] M (qE (aSpot pg t) M) := by
  have hg1 := hg.1
  have hg2 := hg.2.1
  have hwo := hP.1 t ht.1 ht.2
  have hw := hc.1 t ht.1 ht.2
  rw [Int.zero_add] at hw
  unfold aSpot
  refine fp_Ok.of (r := 2) rfl (Nat.le_of_ble_eq_true rfl) rfl ?_
  by_cases h : 10 ≤ pg.1 t
  · rw [if_pos h]
    refine S.aload_n dX12_placeOf_0 rfl rfl rfl ?_
    refine S.getR dX12_placeOf_1 rfl fX12_7 L_177 rf_177_0 ?_
    refine S.iload_n dX12_placeOf_4 rfl rfl rfl ?_
    refine S.iald dX12_placeOf_5 rfl L_178 (by omega) (by omega) ?_
    rw [hw]
    refine S.bipush dX12_placeOf_6 rfl (by decide) ?_
    refine S.isub dX12_placeOf_8 rfl ?_
    refine S.istore_n (LL' := [_, _, _, _]) dX12_placeOf_9 rfl (by decide) rfl rfl rfl ?_
    refine S.iconst dX12_placeOf_10 rfl ?_
    refine S.istore_n (LL' := [_, _, _, _]) dX12_placeOf_11 rfl (by decide) rfl rfl rfl ?_
    exact mplace_loop hc hP hg ht h _ 0 (by omega) (by omega) (by omega)
  · rw [if_neg h]
    refine S.aload_n dX12_placeOf_0 rfl rfl rfl ?_
    refine S.getR dX12_placeOf_1 rfl fX12_7 L_177 rf_177_0 ?_
    refine S.iload_n dX12_placeOf_4 rfl rfl rfl ?_
    refine S.iald dX12_placeOf_5 rfl L_178 (by omega) (by omega) ?_
    refine S.bipush dX12_placeOf_6 rfl (by decide) ?_
    refine S.isub dX12_placeOf_8 rfl ?_
    refine S.istore_n (LL' := [_, _, _, _]) dX12_placeOf_9 rfl (by decide) rfl rfl rfl ?_
    refine S.iconst dX12_placeOf_10 rfl ?_
    refine S.istore_n (LL' := [_, _, _, _]) dX12_placeOf_11 rfl (by decide) rfl rfl rfl ?_
    refine S.iload_n dX12_placeOf_12 rfl rfl rfl ?_
    refine S.if_lt (tgt := 45) dX12_placeOf_13 (by decide) rfl (by unfold fp_rng; omega) (fun h13 => ?_) (fun h13 => ?_)
    · refine S.bipush dX12_placeOf_45 rfl (by decide) ?_
      refine S.iret dX12_placeOf_47 rfl ?_
      exact ⟨rfl, rfl⟩
    · exfalso; omega
end HLD
end
section
/-! THE WHOLE STATE, on both sides: tape, fault, goods, page, visits, noted, images, sheets, torn -/
abbrev aIm : Type := Int → Option (aPg × List aVt × List Int)
abbrev aSh : Type := Int → Int × Int × (Int → Int)
def ntIs (M : fp_Mem) (k : Nat) (nt : List Int) : Prop := M k 0 = nt.length ∧ nt.length ≤ 8 ∧ ∀ i : Int, 0 ≤ i → i < nt.length → M (k + 1) i.toNat = nt.getD i.toNat 0
def ntOk (g : aGd) (nt : List Int) : Prop := (∀ t ∈ nt, 0 ≤ t ∧ t < g.1) ∧ nt.Nodup
def imOk (g : aGd) (im : aIm) : Prop := ∀ (k : Int) (x : aPg × List aVt × List Int), im k = some x → pgOk g x.1 ∧ vsOk g x.2.1 ∧ ntOk g x.2.2
def shOk (sh : aSh) : Prop := ∀ k, 0 ≤ k → k < 4 → (sh k).1 = -4 ∨ ((0 ≤ (sh k).1 ∧ (sh k).1 ≤ 2) ∧ (0 ≤ (sh k).2.1 ∧ (sh k).2.1 ≤ 40) ∧ ∀ i, 0 ≤ i → i < 40 → fp_rng ((sh k).2.2 i))
/-- the class: tape (signed bytes), fault, torn -/
def csA (M : fp_Mem) (tp : List Int) (fl tn : Int) : Prop := M 0 1 = tp.length ∧ tp.length ≤ 480 ∧ (∀ i : Int, 0 ≤ i → i < tp.length → (0 ≤ tp.getD i.toNat 0 ∧ tp.getD i.toNat 0 < 256) ∧ M 1 i.toNat = (tp.getD i.toNat 0).bmod 256) ∧ M 2 3 = fl ∧ M 0 13 = tn ∧ (0 ≤ fl ∧ fl ≤ 6) ∧ (0 ≤ tn ∧ tn ≤ 4)
def csI (M : fp_Mem) (g : aGd) (im : aIm) : Prop := ∀ k : Int, 0 ≤ k → k < 2 → (im k = none ∧ M (143 + 13 * k.toNat) 0 = 0) ∨ ∃ x : aPg × List aVt × List Int, im k = some x ∧ M (143 + 13 * k.toNat) 0 = 1 ∧ clIs M (143 + 13 * k.toNat + 1) g x.1 ∧ vsIs M (143 + 13 * k.toNat + 6) x.2.1 ∧ ntIs M (143 + 13 * k.toNat + 11) x.2.2
def csS (M : fp_Mem) (sh : aSh) : Prop := ∀ k : Int, 0 ≤ k → k < 4 → ((sh k).1 = -4 ∧ M (169 + 2 * k.toNat) 1 = -4) ∨ ((sh k).1 ≠ -4 ∧ M (169 + 2 * k.toNat) 0 = (sh k).1 ∧ M (169 + 2 * k.toNat) 1 = (sh k).2.1 ∧ ∀ i : Int, 0 ≤ i → i < 40 → M (169 + 2 * k.toNat + 1) i.toNat = (sh k).2.2 i)
def CS (M : fp_Mem) (tp : List Int) (fl : Int) (g : aGd) (pg : aPg) (vs : List aVt) (nt : List Int) (im : aIm) (sh : aSh) (tn : Int) : Prop := csA M tp fl tn ∧ gdIs M 18 g ∧ clIs M 22 g pg ∧ vsIs M 27 vs ∧ ntIs M 32 nt ∧ csI M g im ∧ csS M sh
/-- the bank can be -/
def OK (g : aGd) (pg : aPg) (vs : List aVt) (nt : List Int) (im : aIm) (sh : aSh) : Prop := gOk g ∧ pgOk g pg ∧ vsOk g vs ∧ ntOk g nt ∧ imOk g im ∧ shOk sh
/-- the reference -/
def mnRow (f : Nat → Int) (nt : List Int) : Prop := f 104 = nt.length ∧ nt.length ≤ 8 ∧ ∀ i : Int, 0 ≤ i → i < nt.length → f (96 + i).toNat = nt.getD i.toNat 0
def mvRow (f : Nat → Int) (vs : List aVt) : Prop := f 95 = vs.length ∧ vs.length ≤ 12 ∧ ∀ i : Int, 0 ≤ i → i < vs.length → f (47 + 4 * i).toNat = (vs.getD i.toNat aV0).1 ∧ f (47 + 4 * i + 1).toNat = (vs.getD i.toNat aV0).2.1 ∧ f (47 + 4 * i + 2).toNat = (vs.getD i.toNat aV0).2.2.1 ∧ f (47 + 4 * i + 3).toNat = (vs.getD i.toNat aV0).2.2.2
def msA (M : fp_Mem) (tp : List Int) (fl tn : Int) : Prop := M 177 19 = tp.length ∧ tp.length ≤ 480 ∧ (∀ i : Int, 0 ≤ i → i < tp.length → (0 ≤ tp.getD i.toNat 0 ∧ tp.getD i.toNat 0 < 256) ∧ M 186 i.toNat = tp.getD i.toNat 0) ∧ M 177 20 = fl ∧ M 177 44 = tn
def msI (M : fp_Mem) (g : aGd) (im : aIm) : Prop := ∀ k : Int, 0 ≤ k → k < 2 → (im k = none ∧ M 199 k.toNat = 0) ∨ ∃ x : aPg × List aVt × List Int, im k = some x ∧ M 199 k.toNat = 1 ∧ mpRow (fun j => M 178 (120 * (k.toNat + 1) + j)) 0 g x.1 ∧ mvRow (fun j => M 178 (120 * (k.toNat + 1) + j)) x.2.1 ∧ mnRow (fun j => M 178 (120 * (k.toNat + 1) + j)) x.2.2
def msS (M : fp_Mem) (sh : aSh) : Prop := ∀ k : Int, 0 ≤ k → k < 4 → M 200 k.toNat = (sh k).1 ∧ ((sh k).1 ≠ -4 → M 201 k.toNat = (sh k).2.1 ∧ ∀ i : Int, 0 ≤ i → i < 40 → M 202 (40 * k + i).toNat = (sh k).2.2 i)
def fp_cutL : List Int := [0, 5, 9, 12, 16, 22, 28, 34, 42]
def fp_letL : List Int := [116, 104, 105, 110, 103, 108, 105, 110, 101, 112, 117, 116, 100, 114, 97, 119, 99, 104, 97, 110, 99, 101, 101, 108, 100, 101, 115, 116, 108, 97, 116, 101, 115, 116, 108, 105, 103, 104, 116, 101, 115, 116]
def msK (M : fp_Mem) : Prop := (∀ i : Nat, i < 9 → M 187 i = fp_cutL.getD i 0) ∧ ∀ i : Nat, i < 42 → M 188 i = fp_letL.getD i 0
def MS (M : fp_Mem) (tp : List Int) (fl : Int) (g : aGd) (pg : aPg) (vs : List aVt) (nt : List Int) (im : aIm) (sh : aSh) (tn : Int) : Prop := msA M tp fl tn ∧ mdIs M g ∧ mpIs M 0 g pg ∧ mvRow (M 178) vs ∧ mnRow (M 178) nt ∧ msI M g im ∧ msS M sh ∧ msK M
/-- only the class's cells differ; only the reference's -/
def frC (M N : fp_Mem) : Prop := ∀ c, (177 ≤ c ∨ (3 ≤ c ∧ c ≤ 16)) → N c = M c
def frD (M N : fp_Mem) : Prop := ∀ c, (c < 177 ∨ (183 ≤ c ∧ c ≤ 185)) → N c = M c
theorem ntIs.kept {M N : fp_Mem} {k : Nat} {nt : List Int} (h : ntIs M k nt) (e : ∀ a, k ≤ a → a ≤ k + 1 → N a = M a) : ntIs N k nt := by
  unfold ntIs at *
  rw [e k (by omega) (by omega), e (k + 1) (by omega) (by omega)]
  exact h
theorem csA.kept {M N : fp_Mem} {tp : List Int} {fl tn : Int} (h : csA M tp fl tn) (e0 : N 0 = M 0) (e1 : N 1 = M 1) (e2 : N 2 3 = M 2 3) : csA N tp fl tn := by
  unfold csA at *
  rw [e0, e1, e2]
  exact h
theorem csI.kept {M N : fp_Mem} {g : aGd} {im : aIm} (h : csI M g im) (e : ∀ a, 143 ≤ a → a ≤ 168 → N a = M a) : csI N g im := by
  intro k k0 k1
  have hk : k.toNat = 0 ∨ k.toNat = 1 := by omega
  rcases h k k0 k1 with ⟨h1, h2⟩ | ⟨x, h1, h2, h3, h4, h5⟩
  · exact Or.inl ⟨h1, by rw [e _ (by omega) (by omega)]; exact h2⟩
  · exact Or.inr ⟨x, h1, by rw [e _ (by omega) (by omega)]; exact h2, h3.kept (fun a h0 h1 => e a (by omega) (by omega)), h4.kept (fun a h0 h1 => e a (by omega) (by omega)), h5.kept (fun a h0 h1 => e a (by omega) (by omega))⟩
theorem csS.kept {M N : fp_Mem} {sh : aSh} (h : csS M sh) (e : ∀ a, 169 ≤ a → a ≤ 176 → N a = M a) : csS N sh := by
  intro k k0 k1
  rw [e (169 + 2 * k.toNat) (by omega) (by omega), e (169 + 2 * k.toNat + 1) (by omega) (by omega)]
  exact h k k0 k1
/-- nothing that the state speaks of differs -/
theorem CS.kept {M N : fp_Mem} {tp : List Int} {fl : Int} {g : aGd} {pg : aPg} {vs : List aVt} {nt : List Int} {im : aIm} {sh : aSh} {tn : Int} (h : CS M tp fl g pg vs nt im sh tn) (e : ∀ a, (a < 3 ∨ (18 ≤ a ∧ a ≤ 33) ∨ (143 ≤ a ∧ a ≤ 176)) → N a = M a) : CS N tp fl g pg vs nt im sh tn := by
  obtain ⟨h1, h2, h3, h4, h5, h6, h7⟩ := h
  exact ⟨h1.kept (e 0 (by omega)) (e 1 (by omega)) (by rw [e 2 (by omega)]), h2.kept (fun a q1 q2 => e a (by omega)), h3.kept (fun a q1 q2 => e a (by omega)), h4.kept (fun a q1 q2 => e a (by omega)), h5.kept (fun a q1 q2 => e a (by omega)), h6.kept (fun a q1 q2 => e a (by omega)), h7.kept (fun a q1 q2 => e a (by omega))⟩
/-- the page alone differs -/
theorem CS.page {M N : fp_Mem} {tp : List Int} {fl : Int} {g : aGd} {pg pg' : aPg} {vs : List aVt} {nt : List Int} {im : aIm} {sh : aSh} {tn : Int} (h : CS M tp fl g pg vs nt im sh tn) (e : frP M N 22) (hc : clIs N 22 g pg') : CS N tp fl g pg' vs nt im sh tn := by
  obtain ⟨h1, h2, h3, h4, h5, h6, h7⟩ := h
  exact ⟨h1.kept (e 0 (by omega)) (e 1 (by omega)) (by rw [e 2 (by omega)]), h2.kept (fun a q1 q2 => e a (by omega)), hc, h4.kept (fun a q1 q2 => e a (by omega)), h5.kept (fun a q1 q2 => e a (by omega)), h6.kept (fun a q1 q2 => e a (by omega)), h7.kept (fun a q1 q2 => e a (by omega))⟩
theorem frP.c {M N : fp_Mem} {k : Nat} (h : frP M N k) (hk : k + 4 < 177) (hk2 : 16 ≤ k := by decide) : frC M N := fun c hc => h c (by omega)
theorem frC.refl (M : fp_Mem) : frC M M := fun _ _ => rfl
theorem frD.refl (M : fp_Mem) : frD M M := fun _ _ => rfl
theorem frC.trans {M N O : fp_Mem} (h1 : frC M N) (h2 : frC N O) : frC M O := fun c hc => (h2 c hc).trans (h1 c hc)
theorem frD.trans {M N O : fp_Mem} (h1 : frD M N) (h2 : frD N O) : frD M O := fun c hc => (h2 c hc).trans (h1 c hc)
theorem frT.d {M N : fp_Mem} (h : frT M N) : frD M N := fun c hc => h.1 c (by omega)
theorem frM.d {M N : fp_Mem} {a : Int} (h : frM M N a) : frD M N := fun c hc => h.1 c (by omega)
theorem mnRow.kept {f h : Nat → Int} {nt : List Int} (hn : mnRow f nt) (e : ∀ j : Nat, 96 ≤ j → j ≤ 104 → h j = f j) : mnRow h nt := by
  obtain ⟨h1, h2, h3⟩ := hn
  refine ⟨by rw [e 104 (by decide) (by decide)]; exact h1, h2, fun i i0 i1 => ?_⟩
  rw [e _ (by omega) (by omega)]
  exact h3 i i0 i1
theorem msI.kept {M N : fp_Mem} {g : aGd} {im : aIm} (h : msI M g im) (e9 : N 199 = M 199) (e : ∀ j : Nat, 120 ≤ j → j < 360 → N 178 j = M 178 j) (hio : imOk g im) (hg : gOk g) : msI N g im := by
  intro k k0 k1
  have hk : k.toNat = 0 ∨ k.toNat = 1 := by omega
  rw [e9]
  rcases h k k0 k1 with ⟨h1, h2⟩ | ⟨x, h1, h2, h3, h4, h5⟩
  · exact Or.inl ⟨h1, h2⟩
  · refine Or.inr ⟨x, h1, h2, ?_, ?_, ?_⟩
    · have hq : ∀ j : Nat, j < 120 → N 178 (120 * (k.toNat + 1) + j) = M 178 (120 * (k.toNat + 1) + j) := fun j hj => e _ (by omega) (by omega)
      have hP := (hio k x h1).1
      have hg1 := hg.1
      obtain ⟨c1, c2, c3⟩ := h3
      refine ⟨fun t t0 t1 => ?_, fun t t0 t1 t2 => ?_, fun y y0 y3 => ?_⟩
      · dsimp only; rw [hq _ (by omega)]; exact c1 t t0 t1
      · dsimp only; rw [hq _ (by omega)]; exact c2 t t0 t1 t2
      · obtain ⟨q1, q2⟩ := c3 y y0 y3
        have hl := (hP.2.1 y y0 y3).1
        dsimp only
        rw [hq _ (by omega)]
        refine ⟨q1, fun i i0 i1 => ?_⟩
        rw [hq _ (by omega)]; exact q2 i i0 i1
    · obtain ⟨c1, c2, c3⟩ := h4
      have hq : ∀ j : Nat, j < 120 → N 178 (120 * (k.toNat + 1) + j) = M 178 (120 * (k.toNat + 1) + j) := fun j hj => e _ (by omega) (by omega)
      refine ⟨by dsimp only; rw [hq _ (by omega)]; exact c1, c2, fun i i0 i1 => ?_⟩
      dsimp only
      rw [hq _ (by omega), hq _ (by omega), hq _ (by omega), hq _ (by omega)]
      exact c3 i i0 i1
    · exact h5.kept (fun j j0 j1 => e _ (by omega) (by omega))
/-- the page of the state alone differs -/
theorem MS.page {M N : fp_Mem} {tp : List Int} {fl : Int} {g : aGd} {pg pg' : aPg} {vs : List aVt} {nt : List Int} {im : aIm} {sh : aSh} {tn : Int} (h : MS M tp fl g pg vs nt im sh tn) (hio : imOk g im) (hg : gOk g) (e : frM M N 0) (hc : mpIs N 0 g pg') : MS N tp fl g pg' vs nt im sh tn := by
  obtain ⟨h1, h2, h3, h4, h5, h6, h7, h8⟩ := h
  refine ⟨?_, h2.kept e.1, hc, ?_, h5.kept (fun j j0 j1 => e.2 j (by omega)), h6.kept (e.1 199 (by decide)) (fun j j0 j1 => e.2 j (by omega)) hio hg, ?_, ?_⟩
  · unfold msA at *; rw [e.1 177 (by decide), e.1 186 (by decide)]; exact h1
  · exact mvIs.kept h4 (fun j j0 j1 => e.2 j (by omega))
  · unfold msS at *; rw [e.1 200 (by decide), e.1 201 (by decide), e.1 202 (by decide)]; exact h7
  · unfold msK at *; rw [e.1 187 (by decide), e.1 188 (by decide)]; exact h8
/-- only the trial's page, or rows that the state does not speak of, differ -/
theorem MS.trial {M N : fp_Mem} {tp : List Int} {fl : Int} {g : aGd} {pg : aPg} {vs : List aVt} {nt : List Int} {im : aIm} {sh : aSh} {tn : Int} (h : MS M tp fl g pg vs nt im sh tn) (ho : OK g pg vs nt im sh) (e : ∀ c, (c = 177 ∨ (179 ≤ c ∧ c ≤ 181) ∨ (186 ≤ c ∧ c ≤ 188) ∨ 199 ≤ c) → N c = M c) (e8 : ∀ j : Nat, j < 360 → N 178 j = M 178 j) : MS N tp fl g pg vs nt im sh tn := by
  obtain ⟨h1, h2, h3, h4, h5, h6, h7, h8⟩ := h
  refine ⟨?_, ?_, h3.kept ho.1 ho.2.1 (by omega) (fun j j0 j1 => e8 j (by omega)), ?_, h5.kept (fun j j0 j1 => e8 j (by omega)), h6.kept (e 199 (by omega)) (fun j j0 j1 => e8 j (by omega)) ho.2.2.2.2.1 ho.1, ?_, ?_⟩
  · unfold msA at *; rw [e 177 (by omega), e 186 (by omega)]; exact h1
  · unfold mdIs md_ok at *; rw [e 177 (by omega), e 179 (by omega), e 180 (by omega), e 181 (by omega)]; exact h2
  · exact mvIs.kept h4 (fun j j0 j1 => e8 j (by omega))
  · unfold msS at *; rw [e 200 (by omega), e 201 (by omega), e 202 (by omega)]; exact h7
  · unfold msK at *; rw [e 187 (by omega), e 188 (by omega)]; exact h8
end
section
/-! THE PUBLIC CALLS, first batch; tests by property -/
theorem fp_Ok.toB {l : Launch} {G : fp_WG} {d : Nat} {Y : fp_MR} {a : List Value} {M : fp_Mem} {c : Prop} [Decidable c] (h : fp_Ok l G d Y a M (qE (if c then 1 else 0) M)) : fp_Ok l G d Y a M (qI fun z N => ((z = 1 ∧ c) ∨ (z = 0 ∧ ¬ c)) ∧ M = N) := h.toI ⟨by by_cases hc : c <;> simp [hc], rfl⟩
section PUB
variable {l : Launch} {G : fp_WG} {M : fp_Mem} {tp : List Int} {fl : Int} {g : aGd} {pg : aPg} {vs : List aVt} {nt : List Int} {im : aIm} {sh : aSh} {tn : Int}
theorem bk_X11_isOne {p : Int} (hp : fp_rng p := by first | assumption | (unfold fp_rng; omega)) : fp_Ok l G 0 kX11_isOne [iV p] M (qI fun z N => ((z = 1 ∧ (0 ≤ p ∧ p < 4)) ∨ (z = 0 ∧ ¬ (0 ≤ p ∧ p < 4))) ∧ M = N) := (ok_X11_isOne hp).toB
theorem bk_X11_isWithin {n h : Int} (hn : fp_rng n := by first | assumption | (unfold fp_rng; omega)) (hh : fp_rng h := by first | assumption | (unfold fp_rng; omega)) : fp_Ok l G 0 kX11_isWithin [iV n, iV h] M (qI fun z N => ((z = 1 ∧ (0 ≤ n ∧ n ≤ h)) ∨ (z = 0 ∧ ¬ (0 ≤ n ∧ n ≤ h))) ∧ M = N) := (ok_X11_isWithin hn hh).toB
theorem bk_X1_hasThing {k : Nat} {t : Int} (hk : fp_isgd k) (hd : gdIs M k g := by assumption) (hg : gOk g := by assumption) (ht : fp_rng t := by first | assumption | (unfold fp_rng; omega)) : fp_Ok l G 0 kX1_hasThing [rV G k, iV t] M (qI fun z N => ((z = 1 ∧ (0 ≤ t ∧ t < g.1)) ∨ (z = 0 ∧ ¬ (0 ≤ t ∧ t < g.1))) ∧ M = N) := by
  have h := (ok_X1_hasThing (l := l) (G := G) (M := M) (t := t) hk ht (by rw [hd.1]; have := hg.1; unfold fp_rng; omega)).toB
  rw [hd.1] at h
  exact h
theorem bk_X1_hasLine {k : Nat} {t : Int} (hk : fp_isgd k) (hd : gdIs M k g := by assumption) (hg : gOk g := by assumption) (ht : fp_rng t := by first | assumption | (unfold fp_rng; omega)) : fp_Ok l G 0 kX1_hasLine [rV G k, iV t] M (qI fun z N => ((z = 1 ∧ (0 ≤ t ∧ t < g.2.1)) ∨ (z = 0 ∧ ¬ (0 ≤ t ∧ t < g.2.1))) ∧ M = N) := by
  have h := (ok_X1_hasLine (l := l) (G := G) (M := M) (t := t) hk ht (by rw [hd.2.1]; have := hg.2.1; unfold fp_rng; omega)).toB
  rw [hd.2.1] at h
  exact h
theorem bk_X10_has {k : Nat} {i : Int} (hk : fp_isvs k) (hv : vsIs M k vs := by assumption) (hi : fp_rng i := by first | assumption | (unfold fp_rng; omega)) : fp_Ok l G 0 kX10_has [rV G k, iV i] M (qI fun z N => ((z = 1 ∧ (0 ≤ i ∧ i < vs.length)) ∨ (z = 0 ∧ ¬ (0 ≤ i ∧ i < vs.length))) ∧ M = N) := by
  have h := (ok_X10_has (l := l) (G := G) (M := M) (i := i) hk hi (by rw [hv.1]; have := hv.2.1; unfold fp_rng; omega)).toB
  rw [hv.1] at h
  exact h
theorem bk_X12_in {v lo hi : Int} (h1 : fp_lng v := by first | assumption | (unfold fp_lng; omega)) (h2 : fp_lng lo := by first | assumption | (unfold fp_lng; omega)) (h3 : fp_lng hi := by first | assumption | (unfold fp_lng; omega)) : fp_Ok l G 0 kX12_in [jV v, jV lo, jV hi] M (qI fun z N => ((z = 1 ∧ (lo ≤ v ∧ v ≤ hi)) ∨ (z = 0 ∧ ¬ (lo ≤ v ∧ v ≤ hi))) ∧ M = N) := (ok_X12_in h1 h2 h3).toB
theorem bk_X12_isThing {t : Int} (hd : mdIs M g := by assumption) (hg : gOk g := by assumption) (ht : fp_rng t := by first | assumption | (unfold fp_rng; omega)) : fp_Ok l G 1 kX12_isThing [rV G 177, iV t] M (qI fun z N => ((z = 1 ∧ (0 ≤ t ∧ t < g.1)) ∨ (z = 0 ∧ ¬ (0 ≤ t ∧ t < g.1))) ∧ M = N) := by
  have h := (ok_X12_isThing (l := l) (G := G) (M := M) (t := t) ht (by rw [hd.1]; exact hg.1)).toB
  rw [hd.1] at h
  exact h
theorem bk_X12_isLine {t : Int} (hd : mdIs M g := by assumption) (hg : gOk g := by assumption) (ht : fp_rng t := by first | assumption | (unfold fp_rng; omega)) : fp_Ok l G 1 kX12_isLine [rV G 177, iV t] M (qI fun z N => ((z = 1 ∧ (0 ≤ t ∧ t < g.2.1)) ∨ (z = 0 ∧ ¬ (0 ≤ t ∧ t < g.2.1))) ∧ M = N) := by
  have h := (ok_X12_isLine (l := l) (G := G) (M := M) (t := t) ht (by rw [hd.2.1]; exact hg.2.1)).toB
  rw [hd.2.1] at h
  exact h
theorem bk_X12_isOne {t : Int} (ht : fp_rng t := by first | assumption | (unfold fp_rng; omega)) : fp_Ok l G 1 kX12_isOne [iV t] M (qI fun z N => ((z = 1 ∧ (0 ≤ t ∧ t < 4)) ∨ (z = 0 ∧ ¬ (0 ≤ t ∧ t < 4))) ∧ M = N) := (ok_X12_isOne ht).toB
/-! holds, worth -/
def A_holds (g : aGd) (pg : aPg) (p : Int) : Int := if 0 ≤ p ∧ p < 4 then aHolds g pg p else -1
def A_worth (g : aGd) (pg : aPg) (p : Int) : Int := if 0 ≤ p ∧ p < 4 then aWorth g pg p else -1
theorem cc_holds {p : Int} (hc : CS M tp fl g pg vs nt im sh tn) (ho : OK g pg vs nt im sh) (hp : fp_rng p) : fp_Ok l G 1 kX11_holds [rV G 0, iV p] M (qE (A_holds g pg p) M) := by
  obtain ⟨-, hd, hcl, -⟩ := hc
  obtain ⟨hg, hP, -⟩ := ho
  refine fp_Ok.of (r := 0) rfl (Nat.le_of_ble_eq_true rfl) rfl ?_
  unfold A_holds
  refine S.iload_n dX11_holds_0 rfl rfl rfl ?_
  refine S.callSi dX11_holds_1 rfl cX11_181 (bk_X11_isOne) rfl (by decide) rfl (Nat.le_of_ble_eq_true rfl) (fun z1 M1 q1 => ?_)
  obtain ⟨b1, rfl⟩ := q1
  refine S.if_eq (tgt := 18) dX11_holds_4 (by decide) rfl (by unfold fp_rng; omega) (fun h4 => ?_) (fun h4 => ?_)
  · refine S.iconst dX11_holds_18 rfl ?_
    refine S.iret dX11_holds_19 rfl ?_
    refine ⟨?_, rfl⟩
    (repeat' split) <;> first | rfl | omega
  · refine S.aload_n dX11_holds_7 rfl rfl rfl ?_
    refine S.getR dX11_holds_8 rfl fX11_30 L_0 rf_0_4 ?_
    refine S.iload_n dX11_holds_11 rfl rfl rfl ?_
    refine S.callVe dX11_holds_12 rfl cX11_184 (rk_X5_heldBy pl22) rfl (pl_lay pl22) (by decide) rfl (Nat.le_of_ble_eq_true rfl) ?_
    refine S.goto (pc' := 19) dX11_holds_15 (by decide) ?_
    refine S.iret dX11_holds_19 rfl ?_
    refine ⟨?_, rfl⟩
    (repeat' split) <;> first | rfl | omega
theorem cc_worth {p : Int} (hc : CS M tp fl g pg vs nt im sh tn) (ho : OK g pg vs nt im sh) (hp : fp_rng p) : fp_Ok l G 2 kX11_worth [rV G 0, iV p] M (qE (A_worth g pg p) M) := by
  obtain ⟨-, hd, hcl, -⟩ := hc
  obtain ⟨hg, hP, -⟩ := ho
  refine fp_Ok.of (r := 0) rfl (Nat.le_of_ble_eq_true rfl) rfl ?_
  unfold A_worth
  refine S.iload_n dX11_worth_0 rfl rfl rfl ?_
  refine S.callSi dX11_worth_1 rfl cX11_181 (bk_X11_isOne) rfl (by decide) rfl (Nat.le_of_ble_eq_true rfl) (fun z1 M1 q1 => ?_)
  obtain ⟨b1, rfl⟩ := q1
  refine S.if_eq (tgt := 22) dX11_worth_4 (by decide) rfl (by unfold fp_rng; omega) (fun h4 => ?_) (fun h4 => ?_)
  · refine S.iconst dX11_worth_22 rfl ?_
    refine S.iret dX11_worth_23 rfl ?_
    refine ⟨?_, rfl⟩
    (repeat' split) <;> first | rfl | omega
  · refine S.aload_n dX11_worth_7 rfl rfl rfl ?_
    refine S.getR dX11_worth_8 rfl fX11_30 L_0 rf_0_4 ?_
    refine S.aload_n dX11_worth_11 rfl rfl rfl ?_
    refine S.getR dX11_worth_12 rfl fX11_23 L_0 rf_0_3 ?_
    refine S.iload_n dX11_worth_15 rfl rfl rfl ?_
    refine S.callVe dX11_worth_16 rfl cX11_187 (rk_X5_worthTo pl22 gd18) rfl (pl_lay pl22) (by decide) rfl (Nat.le_of_ble_eq_true rfl) ?_
    refine S.goto (pc' := 23) dX11_worth_19 (by decide) ?_
    refine S.iret dX11_worth_23 rfl ?_
    refine ⟨?_, rfl⟩
    (repeat' split) <;> first | rfl | omega
theorem mm_holds {p : Int} (hc : MS M tp fl g pg vs nt im sh tn) (ho : OK g pg vs nt im sh) (hp : fp_rng p) : fp_Ok l G 2 kX12_holds [rV G 177, iV p] M (qE (A_holds g pg p) M) := by
  obtain ⟨-, hd, hcl, -⟩ := hc
  obtain ⟨hg, hP, -⟩ := ho
  refine fp_Ok.of (r := 0) rfl (Nat.le_of_ble_eq_true rfl) rfl ?_
  unfold A_holds
  refine S.iload_n dX12_holds_0 rfl rfl rfl ?_
  refine S.callSi dX12_holds_1 rfl cX12_228 (bk_X12_isOne) rfl (by decide) rfl (Nat.le_of_ble_eq_true rfl) (fun z1 M1 q1 => ?_)
  obtain ⟨b1, rfl⟩ := q1
  refine S.if_eq (tgt := 16) dX12_holds_4 (by decide) rfl (by unfold fp_rng; omega) (fun h4 => ?_) (fun h4 => ?_)
  · refine S.iconst dX12_holds_16 rfl ?_
    refine S.iret dX12_holds_17 rfl ?_
    refine ⟨?_, rfl⟩
    (repeat' split) <;> first | rfl | omega
  · refine S.aload_n dX12_holds_7 rfl rfl rfl ?_
    refine S.iconst dX12_holds_8 rfl ?_
    refine S.iload_n dX12_holds_9 rfl rfl rfl ?_
    refine S.callVe dX12_holds_10 rfl cX12_231 (rk_X12_holdsAt (g := g) (pg := pg)) rfl L_177 (by decide) rfl (Nat.le_of_ble_eq_true rfl) ?_
    refine S.goto (pc' := 17) dX12_holds_13 (by decide) ?_
    refine S.iret dX12_holds_17 rfl ?_
    refine ⟨?_, rfl⟩
    (repeat' split) <;> first | rfl | omega
theorem mm_worth {p : Int} (hc : MS M tp fl g pg vs nt im sh tn) (ho : OK g pg vs nt im sh) (hp : fp_rng p) : fp_Ok l G 2 kX12_worth [rV G 177, iV p] M (qE (A_worth g pg p) M) := by
  obtain ⟨-, hd, hcl, -⟩ := hc
  obtain ⟨hg, hP, -⟩ := ho
  refine fp_Ok.of (r := 0) rfl (Nat.le_of_ble_eq_true rfl) rfl ?_
  unfold A_worth
  refine S.iload_n dX12_worth_0 rfl rfl rfl ?_
  refine S.callSi dX12_worth_1 rfl cX12_228 (bk_X12_isOne) rfl (by decide) rfl (Nat.le_of_ble_eq_true rfl) (fun z1 M1 q1 => ?_)
  obtain ⟨b1, rfl⟩ := q1
  refine S.if_eq (tgt := 16) dX12_worth_4 (by decide) rfl (by unfold fp_rng; omega) (fun h4 => ?_) (fun h4 => ?_)
  · refine S.iconst dX12_worth_16 rfl ?_
    refine S.iret dX12_worth_17 rfl ?_
    refine ⟨?_, rfl⟩
    (repeat' split) <;> first | rfl | omega
  · refine S.aload_n dX12_worth_7 rfl rfl rfl ?_
    refine S.iconst dX12_worth_8 rfl ?_
    refine S.iload_n dX12_worth_9 rfl rfl rfl ?_
    refine S.callVe dX12_worth_10 rfl cX12_234 (rk_X12_worthAt (g := g) (pg := pg)) rfl L_177 (by decide) rfl (Nat.le_of_ble_eq_true rfl) ?_
    refine S.goto (pc' := 17) dX12_worth_13 (by decide) ?_
    refine S.iret dX12_worth_17 rfl ?_
    refine ⟨?_, rfl⟩
    (repeat' split) <;> first | rfl | omega
/-! thing -/
def A_thing (g : aGd) (pg : aPg) (t w : Int) : Int := if ¬ (0 ≤ t ∧ t < g.1) then -1 else if w = 0 then g.2.2.2.1 t else if w = 1 then pg.1 t else if w = 2 then aSpot pg t else if w = 3 then (if pg.1 t < 10 then -4 else pg.2.1 t) else if 10 ≤ w ∧ w ≤ 13 then g.2.2.2.2.1 t (w - 10) else -1
theorem cc_thing {t w : Int} (hc : CS M tp fl g pg vs nt im sh tn) (ho : OK g pg vs nt im sh) (ht : fp_rng t) (hw : fp_rng w) : fp_Ok l G 1 kX11_thing [rV G 0, iV t, iV w] M (qE (A_thing g pg t w) M) := by
  obtain ⟨-, hd, hcl, -⟩ := hc
  obtain ⟨hg, hP, -⟩ := ho
  have hg1 := hg.1
  have hw' := hw
  unfold fp_rng at hw'
  refine fp_Ok.of (r := 0) rfl (Nat.le_of_ble_eq_true rfl) rfl ?_
  unfold A_thing
  refine S.aload_n dX11_thing_0 rfl rfl rfl ?_
  refine S.getR dX11_thing_1 rfl fX11_23 L_0 rf_0_3 ?_
  refine S.iload_n dX11_thing_4 rfl rfl rfl ?_
  refine S.callVi dX11_thing_5 rfl cX11_126 (bk_X1_hasThing gd18) rfl (gd_lay gd18) (by decide) rfl (Nat.le_of_ble_eq_true rfl) (fun z5 M5 q5 => ?_)
  obtain ⟨b5, rfl⟩ := q5
  refine S.if_ne (tgt := 13) dX11_thing_8 (by decide) rfl (by unfold fp_rng; omega) (fun h8 => ?_) (fun h8 => ?_)
  · refine S.iload_n dX11_thing_13 rfl rfl rfl ?_
    refine S.bipush dX11_thing_14 rfl (by decide) ?_
    refine S.icmp_lt (tgt := 38) dX11_thing_16 (by decide) rfl (by unfold fp_rng; omega) (by unfold fp_rng; omega) (fun h16 => ?_) (fun h16 => ?_)
    · refine S.iload_n dX11_thing_38 rfl rfl rfl ?_
      rcases (show w < 0 ∨ 3 < w ∨ w = 0 ∨ w = 1 ∨ w = 2 ∨ w = 3 by omega) with hs | hs | hs | hs | hs | hs
      · refine S.tableOut (tgt := 107) dX11_thing_39 (by unfold fp_rng; omega) (by omega) (by decide) ?_
        refine S.iconst dX11_thing_107 rfl ?_
        refine S.iret dX11_thing_108 rfl ?_
        refine ⟨?_, rfl⟩
        (repeat' split) <;> first | rfl | omega
      · refine S.tableOut (tgt := 107) dX11_thing_39 (by unfold fp_rng; omega) (by omega) (by decide) ?_
        refine S.iconst dX11_thing_107 rfl ?_
        refine S.iret dX11_thing_108 rfl ?_
        refine ⟨?_, rfl⟩
        (repeat' split) <;> first | rfl | omega
      · refine S.tableIn (tgt := 68) dX11_thing_39 (by unfold fp_rng; omega) (by omega) (by omega) (by rw [hs]; rfl) (by decide) ?_
        refine S.aload_n dX11_thing_68 rfl rfl rfl ?_
        refine S.getR dX11_thing_69 rfl fX11_23 L_0 rf_0_3 ?_
        refine S.getR dX11_thing_72 rfl fX11_134 (gd_lay gd18) (gd_r3 gd18) ?_
        refine S.iload_n dX11_thing_75 rfl rfl rfl ?_
        refine S.iald dX11_thing_76 rfl (gd_a3 gd18) (by omega) (by omega) ?_
        refine S.iret dX11_thing_77 rfl ?_
        refine ⟨?_, rfl⟩
        have hv := hd.2.2.2.1 t (by omega) (by omega)
        (repeat' split) <;> first | exact hv | omega
      · refine S.tableIn (tgt := 78) dX11_thing_39 (by unfold fp_rng; omega) (by omega) (by omega) (by rw [hs]; rfl) (by decide) ?_
        refine S.aload_n dX11_thing_78 rfl rfl rfl ?_
        refine S.getR dX11_thing_79 rfl fX11_30 L_0 rf_0_4 ?_
        refine S.getR dX11_thing_82 rfl fX11_138 (pl_lay pl22) (pl_r0 pl22) ?_
        refine S.iload_n dX11_thing_85 rfl rfl rfl ?_
        refine S.iald dX11_thing_86 rfl (pl_a0 pl22) (by omega) (by omega) ?_
        refine S.iret dX11_thing_87 rfl ?_
        refine ⟨?_, rfl⟩
        have hv := hcl.1 t (by omega) (by omega)
        (repeat' split) <;> first | exact hv | omega
      · refine S.tableIn (tgt := 88) dX11_thing_39 (by unfold fp_rng; omega) (by omega) (by omega) (by rw [hs]; rfl) (by decide) ?_
        refine S.aload_n dX11_thing_88 rfl rfl rfl ?_
        refine S.getR dX11_thing_89 rfl fX11_30 L_0 rf_0_4 ?_
        refine S.iload_n dX11_thing_92 rfl rfl rfl ?_
        refine S.callVe dX11_thing_93 rfl cX11_141 (rk_X5_spotOf pl22) rfl (pl_lay pl22) (by decide) rfl (Nat.le_of_ble_eq_true rfl) ?_
        refine S.iret dX11_thing_96 rfl ?_
        refine ⟨?_, rfl⟩
        (repeat' split) <;> first | rfl | omega
      · refine S.tableIn (tgt := 97) dX11_thing_39 (by unfold fp_rng; omega) (by omega) (by omega) (by rw [hs]; rfl) (by decide) ?_
        refine S.aload_n dX11_thing_97 rfl rfl rfl ?_
        refine S.getR dX11_thing_98 rfl fX11_30 L_0 rf_0_4 ?_
        refine S.getR dX11_thing_101 rfl fX11_145 (pl_lay pl22) (pl_r1 pl22) ?_
        refine S.iload_n dX11_thing_104 rfl rfl rfl ?_
        refine S.iald dX11_thing_105 rfl (pl_a1 pl22) (by omega) (by omega) ?_
        refine S.iret dX11_thing_106 rfl ?_
        refine ⟨?_, rfl⟩
        have hv := hcl.2.2.1 t (by omega) (by omega)
        (repeat' split) <;> first | (exfalso; omega) | (split at hv <;> first | exact hv | omega)
    · refine S.iload_n dX11_thing_19 rfl rfl rfl ?_
      refine S.bipush dX11_thing_20 rfl (by decide) ?_
      refine S.icmp_ge (tgt := 38) dX11_thing_22 (by decide) rfl (by unfold fp_rng; omega) (by unfold fp_rng; omega) (fun h22 => ?_) (fun h22 => ?_)
      · refine S.iload_n dX11_thing_38 rfl rfl rfl ?_
        rcases (show w < 0 ∨ 3 < w ∨ w = 0 ∨ w = 1 ∨ w = 2 ∨ w = 3 by omega) with hs | hs | hs | hs | hs | hs
        · refine S.tableOut (tgt := 107) dX11_thing_39 (by unfold fp_rng; omega) (by omega) (by decide) ?_
          refine S.iconst dX11_thing_107 rfl ?_
          refine S.iret dX11_thing_108 rfl ?_
          refine ⟨?_, rfl⟩
          (repeat' split) <;> first | rfl | omega
        · refine S.tableOut (tgt := 107) dX11_thing_39 (by unfold fp_rng; omega) (by omega) (by decide) ?_
          refine S.iconst dX11_thing_107 rfl ?_
          refine S.iret dX11_thing_108 rfl ?_
          refine ⟨?_, rfl⟩
          (repeat' split) <;> first | rfl | omega
        · refine S.tableIn (tgt := 68) dX11_thing_39 (by unfold fp_rng; omega) (by omega) (by omega) (by rw [hs]; rfl) (by decide) ?_
          refine S.aload_n dX11_thing_68 rfl rfl rfl ?_
          refine S.getR dX11_thing_69 rfl fX11_23 L_0 rf_0_3 ?_
          refine S.getR dX11_thing_72 rfl fX11_134 (gd_lay gd18) (gd_r3 gd18) ?_
          refine S.iload_n dX11_thing_75 rfl rfl rfl ?_
          refine S.iald dX11_thing_76 rfl (gd_a3 gd18) (by omega) (by omega) ?_
          refine S.iret dX11_thing_77 rfl ?_
          refine ⟨?_, rfl⟩
          have hv := hd.2.2.2.1 t (by omega) (by omega)
          (repeat' split) <;> first | exact hv | omega
        · refine S.tableIn (tgt := 78) dX11_thing_39 (by unfold fp_rng; omega) (by omega) (by omega) (by rw [hs]; rfl) (by decide) ?_
          refine S.aload_n dX11_thing_78 rfl rfl rfl ?_
          refine S.getR dX11_thing_79 rfl fX11_30 L_0 rf_0_4 ?_
          refine S.getR dX11_thing_82 rfl fX11_138 (pl_lay pl22) (pl_r0 pl22) ?_
          refine S.iload_n dX11_thing_85 rfl rfl rfl ?_
          refine S.iald dX11_thing_86 rfl (pl_a0 pl22) (by omega) (by omega) ?_
          refine S.iret dX11_thing_87 rfl ?_
          refine ⟨?_, rfl⟩
          have hv := hcl.1 t (by omega) (by omega)
          (repeat' split) <;> first | exact hv | omega
        · refine S.tableIn (tgt := 88) dX11_thing_39 (by unfold fp_rng; omega) (by omega) (by omega) (by rw [hs]; rfl) (by decide) ?_
          refine S.aload_n dX11_thing_88 rfl rfl rfl ?_
          refine S.getR dX11_thing_89 rfl fX11_30 L_0 rf_0_4 ?_
          refine S.iload_n dX11_thing_92 rfl rfl rfl ?_
          refine S.callVe dX11_thing_93 rfl cX11_141 (rk_X5_spotOf pl22) rfl (pl_lay pl22) (by decide) rfl (Nat.le_of_ble_eq_true rfl) ?_
          refine S.iret dX11_thing_96 rfl ?_
          refine ⟨?_, rfl⟩
          (repeat' split) <;> first | rfl | omega
        · refine S.tableIn (tgt := 97) dX11_thing_39 (by unfold fp_rng; omega) (by omega) (by omega) (by rw [hs]; rfl) (by decide) ?_
          refine S.aload_n dX11_thing_97 rfl rfl rfl ?_
          refine S.getR dX11_thing_98 rfl fX11_30 L_0 rf_0_4 ?_
          refine S.getR dX11_thing_101 rfl fX11_145 (pl_lay pl22) (pl_r1 pl22) ?_
          refine S.iload_n dX11_thing_104 rfl rfl rfl ?_
          refine S.iald dX11_thing_105 rfl (pl_a1 pl22) (by omega) (by omega) ?_
          refine S.iret dX11_thing_106 rfl ?_
          refine ⟨?_, rfl⟩
          have hv := hcl.2.2.1 t (by omega) (by omega)
          (repeat' split) <;> first | (exfalso; omega) | (split at hv <;> first | exact hv | omega)
      · refine S.aload_n dX11_thing_25 rfl rfl rfl ?_
        refine S.getR dX11_thing_26 rfl fX11_23 L_0 rf_0_3 ?_
        refine S.iload_n dX11_thing_29 rfl rfl rfl ?_
        refine S.bipush dX11_thing_30 rfl (by decide) ?_
        refine S.isub dX11_thing_32 rfl ?_
        refine S.iload_n dX11_thing_33 rfl rfl rfl ?_
        refine S.callVe dX11_thing_34 rfl cX11_130 (ok_X1_valueTo gd18) rfl (gd_lay gd18) (by decide) rfl (Nat.le_of_ble_eq_true rfl) ?_
        refine S.iret dX11_thing_37 rfl ?_
        refine ⟨?_, rfl⟩
        have hv := hd.2.2.2.2.2.1 t (w - 10) (by omega) (by omega) (by omega) (by omega)
        (repeat' split) <;> first | exact hv | omega
  · refine S.iconst dX11_thing_11 rfl ?_
    refine S.iret dX11_thing_12 rfl ?_
    refine ⟨?_, rfl⟩
    (repeat' split) <;> first | rfl | omega
theorem mm_thing {t w : Int} (hc : MS M tp fl g pg vs nt im sh tn) (ho : OK g pg vs nt im sh) (ht : fp_rng t) (hw : fp_rng w) : fp_Ok l G 2 kX12_thing [rV G 177, iV t, iV w] M (qE (A_thing g pg t w) M) := by
  obtain ⟨-, hd, hcl, -⟩ := hc
  obtain ⟨hg, hP, -⟩ := ho
  have hg1 := hg.1
  have hg2 := hg.2.1
  have hw' := hw
  unfold fp_rng at hw'
  refine fp_Ok.of (r := 0) rfl (Nat.le_of_ble_eq_true rfl) rfl ?_
  unfold A_thing
  refine S.aload_n dX12_thing_0 rfl rfl rfl ?_
  refine S.iload_n dX12_thing_1 rfl rfl rfl ?_
  refine S.callVi dX12_thing_2 rfl cX12_205 (bk_X12_isThing) rfl L_177 (by decide) rfl (Nat.le_of_ble_eq_true rfl) (fun z2 M2 q2 => ?_)
  obtain ⟨b2, rfl⟩ := q2
  refine S.if_ne (tgt := 10) dX12_thing_5 (by decide) rfl (by unfold fp_rng; omega) (fun h5 => ?_) (fun h5 => ?_)
  · refine S.iload_n dX12_thing_10 rfl rfl rfl ?_
    rcases (show w < 0 ∨ 3 < w ∨ w = 0 ∨ w = 1 ∨ w = 2 ∨ w = 3 by omega) with hs | hs | hs | hs | hs | hs
    · refine S.tableOut (tgt := 86) dX12_thing_11 (by unfold fp_rng; omega) (by omega) (by decide) ?_
      refine S.iload_n dX12_thing_86 rfl rfl rfl ?_
      refine S.i2l dX12_thing_87 rfl (by unfold fp_rng; omega) ?_
      refine S.ldc2 (v := 10) dX12_thing_88 rfl lX12_212 (by decide) ?_
      refine S.ldc2 (v := 13) dX12_thing_91 rfl lX12_214 (by decide) ?_
      refine S.callSi dX12_thing_94 rfl cX12_94 (bk_X12_in) rfl (by decide) rfl (Nat.le_of_ble_eq_true rfl) (fun z94 M94 q94 => ?_)
      obtain ⟨b94, rfl⟩ := q94
      refine S.if_eq (tgt := 116) dX12_thing_97 (by decide) rfl (by unfold fp_rng; omega) (fun h97 => ?_) (fun h97 => ?_)
      · refine S.iconst dX12_thing_116 rfl ?_
        refine S.iret dX12_thing_117 rfl ?_
        refine ⟨?_, rfl⟩
        (repeat' split) <;> first | (exfalso; omega) | rfl | (have hv := hd.2.2.2.2.2.1 t (w - 10) (by omega) (by omega) (by omega) (by omega); rw [show 4 * t + (w - 10) = 4 * t + w - 10 by omega] at hv; exact hv)
      · refine S.aload_n dX12_thing_100 rfl rfl rfl ?_
        refine S.getR dX12_thing_101 rfl fX12_16 L_177 rf_177_2 ?_
        refine S.iconst dX12_thing_104 rfl ?_
        refine S.iload_n dX12_thing_105 rfl rfl rfl ?_
        refine S.imul dX12_thing_106 rfl ?_
        refine S.iload_n dX12_thing_107 rfl rfl rfl ?_
        refine S.iadd dX12_thing_108 rfl ?_
        refine S.bipush dX12_thing_109 rfl (by decide) ?_
        refine S.isub dX12_thing_111 rfl ?_
        refine S.iald dX12_thing_112 rfl L_180 (by omega) (by omega) ?_
        refine S.goto (pc' := 117) dX12_thing_113 (by decide) ?_
        refine S.iret dX12_thing_117 rfl ?_
        refine ⟨?_, rfl⟩
        (repeat' split) <;> first | (exfalso; omega) | rfl | (have hv := hd.2.2.2.2.2.1 t (w - 10) (by omega) (by omega) (by omega) (by omega); rw [show 4 * t + (w - 10) = 4 * t + w - 10 by omega] at hv; exact hv)
    · refine S.tableOut (tgt := 86) dX12_thing_11 (by unfold fp_rng; omega) (by omega) (by decide) ?_
      refine S.iload_n dX12_thing_86 rfl rfl rfl ?_
      refine S.i2l dX12_thing_87 rfl (by unfold fp_rng; omega) ?_
      refine S.ldc2 (v := 10) dX12_thing_88 rfl lX12_212 (by decide) ?_
      refine S.ldc2 (v := 13) dX12_thing_91 rfl lX12_214 (by decide) ?_
      refine S.callSi dX12_thing_94 rfl cX12_94 (bk_X12_in) rfl (by decide) rfl (Nat.le_of_ble_eq_true rfl) (fun z94 M94 q94 => ?_)
      obtain ⟨b94, rfl⟩ := q94
      refine S.if_eq (tgt := 116) dX12_thing_97 (by decide) rfl (by unfold fp_rng; omega) (fun h97 => ?_) (fun h97 => ?_)
      · refine S.iconst dX12_thing_116 rfl ?_
        refine S.iret dX12_thing_117 rfl ?_
        refine ⟨?_, rfl⟩
        (repeat' split) <;> first | (exfalso; omega) | rfl | (have hv := hd.2.2.2.2.2.1 t (w - 10) (by omega) (by omega) (by omega) (by omega); rw [show 4 * t + (w - 10) = 4 * t + w - 10 by omega] at hv; exact hv)
      · refine S.aload_n dX12_thing_100 rfl rfl rfl ?_
        refine S.getR dX12_thing_101 rfl fX12_16 L_177 rf_177_2 ?_
        refine S.iconst dX12_thing_104 rfl ?_
        refine S.iload_n dX12_thing_105 rfl rfl rfl ?_
        refine S.imul dX12_thing_106 rfl ?_
        refine S.iload_n dX12_thing_107 rfl rfl rfl ?_
        refine S.iadd dX12_thing_108 rfl ?_
        refine S.bipush dX12_thing_109 rfl (by decide) ?_
        refine S.isub dX12_thing_111 rfl ?_
        refine S.iald dX12_thing_112 rfl L_180 (by omega) (by omega) ?_
        refine S.goto (pc' := 117) dX12_thing_113 (by decide) ?_
        refine S.iret dX12_thing_117 rfl ?_
        refine ⟨?_, rfl⟩
        (repeat' split) <;> first | (exfalso; omega) | rfl | (have hv := hd.2.2.2.2.2.1 t (w - 10) (by omega) (by omega) (by omega) (by omega); rw [show 4 * t + (w - 10) = 4 * t + w - 10 by omega] at hv; exact hv)
    · refine S.tableIn (tgt := 40) dX12_thing_11 (by unfold fp_rng; omega) (by omega) (by omega) (by rw [hs]; rfl) (by decide) ?_
      refine S.aload_n dX12_thing_40 rfl rfl rfl ?_
      refine S.getR dX12_thing_41 rfl fX12_13 L_177 rf_177_1 ?_
      refine S.iload_n dX12_thing_44 rfl rfl rfl ?_
      refine S.iald dX12_thing_45 rfl L_179 (by omega) (by omega) ?_
      refine S.iret dX12_thing_46 rfl ?_
      refine ⟨?_, rfl⟩
      have hv := hd.2.2.2.1 t (by omega) (by omega)
      (repeat' split) <;> first | exact hv | omega
    · refine S.tableIn (tgt := 47) dX12_thing_11 (by unfold fp_rng; omega) (by omega) (by omega) (by rw [hs]; rfl) (by decide) ?_
      refine S.aload_n dX12_thing_47 rfl rfl rfl ?_
      refine S.getR dX12_thing_48 rfl fX12_7 L_177 rf_177_0 ?_
      refine S.iload_n dX12_thing_51 rfl rfl rfl ?_
      refine S.iald dX12_thing_52 rfl L_178 (by omega) (by omega) ?_
      refine S.iret dX12_thing_53 rfl ?_
      refine ⟨?_, rfl⟩
      have hv := hcl.1 t (by omega) (by omega)
      rw [Int.zero_add] at hv
      (repeat' split) <;> first | exact hv | omega
    · refine S.tableIn (tgt := 54) dX12_thing_11 (by unfold fp_rng; omega) (by omega) (by omega) (by rw [hs]; rfl) (by decide) ?_
      refine S.aload_n dX12_thing_54 rfl rfl rfl ?_
      refine S.iload_n dX12_thing_55 rfl rfl rfl ?_
      refine S.callVe dX12_thing_56 rfl cX12_209 (rk_X12_placeOf (g := g) (pg := pg)) rfl L_177 (by decide) rfl (Nat.le_of_ble_eq_true rfl) ?_
      refine S.iret dX12_thing_59 rfl ?_
      refine ⟨?_, rfl⟩
      (repeat' split) <;> first | rfl | omega
    · refine S.tableIn (tgt := 60) dX12_thing_11 (by unfold fp_rng; omega) (by omega) (by omega) (by rw [hs]; rfl) (by decide) ?_
      refine S.aload_n dX12_thing_60 rfl rfl rfl ?_
      refine S.getR dX12_thing_61 rfl fX12_7 L_177 rf_177_0 ?_
      refine S.iload_n dX12_thing_64 rfl rfl rfl ?_
      refine S.iald dX12_thing_65 rfl L_178 (by omega) (by omega) ?_
      refine S.bipush dX12_thing_66 rfl (by decide) ?_
      refine S.icmp_lt (tgt := 83) dX12_thing_68 (by decide) rfl (by have := hcl.1 t (by omega) (by omega); rw [Int.zero_add] at this; have := hP.1 t (by omega) (by omega); unfold fp_rng; omega) (by unfold fp_rng; omega) (fun h68 => ?_) (fun h68 => ?_)
      · refine S.bipush dX12_thing_83 rfl (by decide) ?_
        refine S.iret dX12_thing_85 rfl ?_
        refine ⟨?_, rfl⟩
        have hv := hcl.1 t (by omega) (by omega)
        rw [Int.zero_add] at hv
        have hv2 := hcl.2.1 t (by omega) (by omega)
        rw [show (0 : Int) + 37 + t = 37 + t by omega] at hv2
        (repeat' split) <;> first | (exfalso; omega) | rfl | exact hv2 (by omega)
      · refine S.aload_n dX12_thing_71 rfl rfl rfl ?_
        refine S.getR dX12_thing_72 rfl fX12_7 L_177 rf_177_0 ?_
        refine S.bipush dX12_thing_75 rfl (by decide) ?_
        refine S.iload_n dX12_thing_77 rfl rfl rfl ?_
        refine S.iadd dX12_thing_78 rfl ?_
        refine S.iald dX12_thing_79 rfl L_178 (by omega) (by omega) ?_
        refine S.goto (pc' := 85) dX12_thing_80 (by decide) ?_
        refine S.iret dX12_thing_85 rfl ?_
        refine ⟨?_, rfl⟩
        have hv := hcl.1 t (by omega) (by omega)
        rw [Int.zero_add] at hv
        have hv2 := hcl.2.1 t (by omega) (by omega)
        rw [show (0 : Int) + 37 + t = 37 + t by omega] at hv2
        (repeat' split) <;> first | (exfalso; omega) | rfl | exact hv2 (by omega)
  · refine S.iconst dX12_thing_8 rfl ?_
    refine S.iret dX12_thing_9 rfl ?_
    refine ⟨?_, rfl⟩
    (repeat' split) <;> first | rfl | omega
end PUB
end
section
/-! THE PUBLIC CALLS: line, visit, chance, put, draw, slip -/
def A_line (g : aGd) (pg : aPg) (x w : Int) : Int := if ¬ (0 ≤ x ∧ x < g.2.1) then -1 else if w = 0 then g.2.2.2.2.2 x else if w = 1 then (pg.2.2 x).length else if w = 2 then aGv g pg x else if 10 ≤ w ∧ w < 10 + (pg.2.2 x).length then (pg.2.2 x).getD (w - 10).toNat 0 else -1
def A_visit (vs : List aVt) (i w : Int) : Int := if ¬ (0 ≤ i ∧ i < vs.length) then -1 else if w = 0 then (vs.getD i.toNat aV0).1 else if w = 1 then (vs.getD i.toNat aV0).2.1 else if w = 2 then (vs.getD i.toNat aV0).2.2.1 else if w = 3 then (vs.getD i.toNat aV0).2.2.2 else -1
def A_chance (g : aGd) (v : Int) : Int × aGd := if 0 ≤ v ∧ v ≤ 10 then (g.2.2.1, (g.1, g.2.1, v, g.2.2.2)) else (-1, g)
def A_put (g : aGd) (pg : aPg) (p t x : Int) : Int × aPg := if ¬ ((0 ≤ p ∧ p < 4) ∧ (0 ≤ t ∧ t < g.1) ∧ (0 ≤ x ∧ x < g.2.1)) then (-1, pg) else if pg.1 t ≠ p then (-2, pg) else if (pg.2.2 x).length < 8 then ((pg.2.2 x).length, aIns pg t x (pg.2.2 x).length) else (-3, pg)
def A_draw (g : aGd) (pg : aPg) (p x : Int) : Int × aPg := if ¬ ((0 ≤ p ∧ p < 4) ∧ (0 ≤ x ∧ x < g.2.1)) then (-1, pg) else (aGv g pg x, aDraw g pg p x)
def A_slip (g : aGd) (pg : aPg) (t x i : Int) : Int × aPg := if ¬ ((0 ≤ t ∧ t < g.1) ∧ (0 ≤ x ∧ x < g.2.1) ∧ (0 ≤ i ∧ i ≤ (pg.2.2 x).length)) then (-1, pg) else if 10 ≤ pg.1 t then (-2, pg) else if 8 ≤ (pg.2.2 x).length then (-3, pg) else ((pg.2.2 x).length + 1, aIns pg t x i.toNat)
section PUC
variable {l : Launch} {G : fp_WG} {M : fp_Mem} {tp : List Int} {fl : Int} {g : aGd} {pg : aPg} {vs : List aVt} {nt : List Int} {im : aIm} {sh : aSh} {tn : Int}
theorem cc_line {x w : Int} (hc : CS M tp fl g pg vs nt im sh tn) (ho : OK g pg vs nt im sh) (hx : fp_rng x) (hw : fp_rng w) : fp_Ok l G 2 kX11_line [rV G 0, iV x, iV w] M (qE (A_line g pg x w) M) := by
  obtain ⟨-, hd, hcl, -⟩ := hc
  obtain ⟨hg, hP, -⟩ := ho
  have hg2 := hg.2.1
  have hw' := hw
  unfold fp_rng at hw'
  refine fp_Ok.of (r := 0) rfl (Nat.le_of_ble_eq_true rfl) rfl ?_
  unfold A_line
  by_cases hin : 0 ≤ x ∧ x < g.2.1
  · obtain ⟨n1, n2, n3⟩ := hcl.line hP hin hg
    have hk := hd.2.2.2.2.2.2.2.1 x hin.1 hin.2
    rw [if_neg (by omega)]
    refine S.aload_n dX11_line_0 rfl rfl rfl ?_
    refine S.getR dX11_line_1 rfl fX11_23 L_0 rf_0_3 ?_
    refine S.iload_n dX11_line_4 rfl rfl rfl ?_
    refine S.callVi dX11_line_5 rfl cX11_148 (bk_X1_hasLine gd18) rfl (gd_lay gd18) (by decide) rfl (Nat.le_of_ble_eq_true rfl) (fun z5 M5 q5 => ?_)
    obtain ⟨b5, rfl⟩ := q5
    refine S.if_ne (tgt := 13) dX11_line_8 (by decide) rfl (by unfold fp_rng; omega) (fun h8 => ?_) (fun h8 => ?_)
    · refine S.iload_n dX11_line_13 rfl rfl rfl ?_
      refine S.bipush dX11_line_14 rfl (by decide) ?_
      refine S.icmp_lt (tgt := 53) dX11_line_16 (by decide) rfl (by unfold fp_rng; omega) (by unfold fp_rng; omega) (fun h16 => ?_) (fun h16 => ?_)
      · refine S.iload_n dX11_line_53 rfl rfl rfl ?_
        rcases (show w < 0 ∨ 2 < w ∨ w = 0 ∨ w = 1 ∨ w = 2 by omega) with hs | hs | hs | hs | hs
        · refine S.tableOut (tgt := 113) dX11_line_54 (by unfold fp_rng; omega) (by omega) (by decide) ?_
          refine S.iconst dX11_line_113 rfl ?_
          refine S.iret dX11_line_114 rfl ?_
          refine ⟨?_, rfl⟩
          (repeat' split) <;> first | rfl | omega
        · refine S.tableOut (tgt := 113) dX11_line_54 (by unfold fp_rng; omega) (by omega) (by decide) ?_
          refine S.iconst dX11_line_113 rfl ?_
          refine S.iret dX11_line_114 rfl ?_
          refine ⟨?_, rfl⟩
          (repeat' split) <;> first | rfl | omega
        · refine S.tableIn (tgt := 80) dX11_line_54 (by unfold fp_rng; omega) (by omega) (by omega) (by rw [hs]; rfl) (by decide) ?_
          refine S.aload_n dX11_line_80 rfl rfl rfl ?_
          refine S.getR dX11_line_81 rfl fX11_23 L_0 rf_0_3 ?_
          refine S.getR dX11_line_84 rfl fX11_156 (gd_lay gd18) (gd_r5 gd18) ?_
          refine S.iload_n dX11_line_87 rfl rfl rfl ?_
          refine S.iald dX11_line_88 rfl (gd_a5 gd18) (by omega) (by omega) ?_
          refine S.iret dX11_line_89 rfl ?_
          refine ⟨?_, rfl⟩
          (repeat' split) <;> first | rfl | omega
        · refine S.tableIn (tgt := 90) dX11_line_54 (by unfold fp_rng; omega) (by omega) (by omega) (by rw [hs]; rfl) (by decide) ?_
          refine S.aload_n dX11_line_90 rfl rfl rfl ?_
          refine S.getR dX11_line_91 rfl fX11_30 L_0 rf_0_4 ?_
          refine S.getR dX11_line_94 rfl fX11_151 (pl_lay pl22) (pl_r2 pl22) ?_
          refine S.iload_n dX11_line_97 rfl rfl rfl ?_
          refine S.iald dX11_line_98 rfl (pl_a2 pl22) (by omega) (by omega) ?_
          refine S.iret dX11_line_99 rfl ?_
          refine ⟨?_, rfl⟩
          (repeat' split) <;> first | rfl | omega
        · refine S.tableIn (tgt := 100) dX11_line_54 (by unfold fp_rng; omega) (by omega) (by omega) (by rw [hs]; rfl) (by decide) ?_
          refine S.aload_n dX11_line_100 rfl rfl rfl ?_
          refine S.getR dX11_line_101 rfl fX11_30 L_0 rf_0_4 ?_
          refine S.aload_n dX11_line_104 rfl rfl rfl ?_
          refine S.getR dX11_line_105 rfl fX11_23 L_0 rf_0_3 ?_
          refine S.iload_n dX11_line_108 rfl rfl rfl ?_
          refine S.callVe dX11_line_109 rfl cX11_159 (rk_X5_gives pl22 gd18) rfl (pl_lay pl22) (by decide) rfl (Nat.le_of_ble_eq_true rfl) ?_
          refine S.iret dX11_line_112 rfl ?_
          refine ⟨?_, rfl⟩
          (repeat' split) <;> first | rfl | omega
      · refine S.iload_n dX11_line_19 rfl rfl rfl ?_
        refine S.bipush dX11_line_20 rfl (by decide) ?_
        refine S.aload_n dX11_line_22 rfl rfl rfl ?_
        refine S.getR dX11_line_23 rfl fX11_30 L_0 rf_0_4 ?_
        refine S.getR dX11_line_26 rfl fX11_151 (pl_lay pl22) (pl_r2 pl22) ?_
        refine S.iload_n dX11_line_29 rfl rfl rfl ?_
        refine S.iald dX11_line_30 rfl (pl_a2 pl22) (by omega) (by omega) ?_
        refine S.iadd dX11_line_31 rfl ?_
        refine S.icmp_ge (tgt := 53) dX11_line_32 (by decide) rfl (by unfold fp_rng; omega) (by unfold fp_rng; omega) (fun h32 => ?_) (fun h32 => ?_)
        · refine S.iload_n dX11_line_53 rfl rfl rfl ?_
          rcases (show w < 0 ∨ 2 < w ∨ w = 0 ∨ w = 1 ∨ w = 2 by omega) with hs | hs | hs | hs | hs
          · refine S.tableOut (tgt := 113) dX11_line_54 (by unfold fp_rng; omega) (by omega) (by decide) ?_
            refine S.iconst dX11_line_113 rfl ?_
            refine S.iret dX11_line_114 rfl ?_
            refine ⟨?_, rfl⟩
            (repeat' split) <;> first | rfl | omega
          · refine S.tableOut (tgt := 113) dX11_line_54 (by unfold fp_rng; omega) (by omega) (by decide) ?_
            refine S.iconst dX11_line_113 rfl ?_
            refine S.iret dX11_line_114 rfl ?_
            refine ⟨?_, rfl⟩
            (repeat' split) <;> first | rfl | omega
          · refine S.tableIn (tgt := 80) dX11_line_54 (by unfold fp_rng; omega) (by omega) (by omega) (by rw [hs]; rfl) (by decide) ?_
            refine S.aload_n dX11_line_80 rfl rfl rfl ?_
            refine S.getR dX11_line_81 rfl fX11_23 L_0 rf_0_3 ?_
            refine S.getR dX11_line_84 rfl fX11_156 (gd_lay gd18) (gd_r5 gd18) ?_
            refine S.iload_n dX11_line_87 rfl rfl rfl ?_
            refine S.iald dX11_line_88 rfl (gd_a5 gd18) (by omega) (by omega) ?_
            refine S.iret dX11_line_89 rfl ?_
            refine ⟨?_, rfl⟩
            (repeat' split) <;> first | rfl | omega
          · refine S.tableIn (tgt := 90) dX11_line_54 (by unfold fp_rng; omega) (by omega) (by omega) (by rw [hs]; rfl) (by decide) ?_
            refine S.aload_n dX11_line_90 rfl rfl rfl ?_
            refine S.getR dX11_line_91 rfl fX11_30 L_0 rf_0_4 ?_
            refine S.getR dX11_line_94 rfl fX11_151 (pl_lay pl22) (pl_r2 pl22) ?_
            refine S.iload_n dX11_line_97 rfl rfl rfl ?_
            refine S.iald dX11_line_98 rfl (pl_a2 pl22) (by omega) (by omega) ?_
            refine S.iret dX11_line_99 rfl ?_
            refine ⟨?_, rfl⟩
            (repeat' split) <;> first | rfl | omega
          · refine S.tableIn (tgt := 100) dX11_line_54 (by unfold fp_rng; omega) (by omega) (by omega) (by rw [hs]; rfl) (by decide) ?_
            refine S.aload_n dX11_line_100 rfl rfl rfl ?_
            refine S.getR dX11_line_101 rfl fX11_30 L_0 rf_0_4 ?_
            refine S.aload_n dX11_line_104 rfl rfl rfl ?_
            refine S.getR dX11_line_105 rfl fX11_23 L_0 rf_0_3 ?_
            refine S.iload_n dX11_line_108 rfl rfl rfl ?_
            refine S.callVe dX11_line_109 rfl cX11_159 (rk_X5_gives pl22 gd18) rfl (pl_lay pl22) (by decide) rfl (Nat.le_of_ble_eq_true rfl) ?_
            refine S.iret dX11_line_112 rfl ?_
            refine ⟨?_, rfl⟩
            (repeat' split) <;> first | rfl | omega
        · refine S.aload_n dX11_line_35 rfl rfl rfl ?_
          refine S.getR dX11_line_36 rfl fX11_30 L_0 rf_0_4 ?_
          refine S.getR dX11_line_39 rfl fX11_153 (pl_lay pl22) (pl_r3 pl22) ?_
          refine S.iload_n dX11_line_42 rfl rfl rfl ?_
          refine S.bipush dX11_line_43 rfl (by decide) ?_
          refine S.imul dX11_line_45 rfl ?_
          refine S.iload_n dX11_line_46 rfl rfl rfl ?_
          refine S.iadd dX11_line_47 rfl ?_
          refine S.bipush dX11_line_48 rfl (by decide) ?_
          refine S.isub dX11_line_50 rfl ?_
          refine S.iald dX11_line_51 rfl (pl_a3 pl22) (by omega) (by omega) ?_
          refine S.iret dX11_line_52 rfl ?_
          refine ⟨?_, rfl⟩
          have hv := (n2 (w - 10) (by omega) (by omega)).1
          rw [show x * 8 + (w - 10) = x * 8 + w - 10 by omega] at hv
          (repeat' split) <;> first | exact hv | omega
    · exfalso; omega
  · rw [if_pos hin]
    refine S.aload_n dX11_line_0 rfl rfl rfl ?_
    refine S.getR dX11_line_1 rfl fX11_23 L_0 rf_0_3 ?_
    refine S.iload_n dX11_line_4 rfl rfl rfl ?_
    refine S.callVi dX11_line_5 rfl cX11_148 (bk_X1_hasLine gd18) rfl (gd_lay gd18) (by decide) rfl (Nat.le_of_ble_eq_true rfl) (fun z5 M5 q5 => ?_)
    obtain ⟨b5, rfl⟩ := q5
    refine S.if_ne (tgt := 13) dX11_line_8 (by decide) rfl (by unfold fp_rng; omega) (fun h8 => ?_) (fun h8 => ?_)
    · exfalso; omega
    · refine S.iconst dX11_line_11 rfl ?_
      refine S.iret dX11_line_12 rfl ?_
      exact ⟨rfl, rfl⟩
theorem mm_line {x w : Int} (hc : MS M tp fl g pg vs nt im sh tn) (ho : OK g pg vs nt im sh) (hx : fp_rng x) (hw : fp_rng w) : fp_Ok l G 3 kX12_line [rV G 177, iV x, iV w] M (qE (A_line g pg x w) M) := by
  obtain ⟨-, hd, hcl, -⟩ := hc
  obtain ⟨hg, hP, -⟩ := ho
  have hg2 := hg.2.1
  have hw' := hw
  unfold fp_rng at hw'
  refine fp_Ok.of (r := 0) rfl (Nat.le_of_ble_eq_true rfl) rfl ?_
  unfold A_line
  by_cases hin : 0 ≤ x ∧ x < g.2.1
  · obtain ⟨n1, n2, n3⟩ := hcl.line hP hin hg
    have hk := hd.2.2.2.2.2.2.2.1 x hin.1 hin.2
    rw [if_neg (by omega)]
    refine S.aload_n dX12_line_0 rfl rfl rfl ?_
    refine S.iload_n dX12_line_1 rfl rfl rfl ?_
    refine S.callVi dX12_line_2 rfl cX12_219 (bk_X12_isLine) rfl L_177 (by decide) rfl (Nat.le_of_ble_eq_true rfl) (fun z2 M2 q2 => ?_)
    obtain ⟨b2, rfl⟩ := q2
    refine S.if_ne (tgt := 10) dX12_line_5 (by decide) rfl (by unfold fp_rng; omega) (fun h5 => ?_) (fun h5 => ?_)
    · refine S.iload_n dX12_line_10 rfl rfl rfl ?_
      refine S.if_ne (tgt := 23) dX12_line_11 (by decide) rfl (by unfold fp_rng; omega) (fun h11 => ?_) (fun h11 => ?_)
      · refine S.iload_n dX12_line_23 rfl rfl rfl ?_
        refine S.iconst dX12_line_24 rfl ?_
        refine S.icmp_ne (tgt := 37) dX12_line_25 (by decide) rfl (by unfold fp_rng; omega) (by unfold fp_rng; omega) (fun h25 => ?_) (fun h25 => ?_)
        · refine S.iload_n dX12_line_37 rfl rfl rfl ?_
          refine S.iconst dX12_line_38 rfl ?_
          refine S.icmp_ne (tgt := 51) dX12_line_39 (by decide) rfl (by unfold fp_rng; omega) (by unfold fp_rng; omega) (fun h39 => ?_) (fun h39 => ?_)
          · refine S.iload_n dX12_line_51 rfl rfl rfl ?_
            refine S.i2l dX12_line_52 rfl (by unfold fp_rng; omega) ?_
            refine S.ldc2 (v := 10) dX12_line_53 rfl lX12_212 (by decide) ?_
            refine S.bipush dX12_line_56 rfl (by decide) ?_
            refine S.aload_n dX12_line_58 rfl rfl rfl ?_
            refine S.iconst dX12_line_59 rfl ?_
            refine S.iload_n dX12_line_60 rfl rfl rfl ?_
            refine S.callVe dX12_line_61 rfl cX12_198 (ok_X12_lie) rfl L_177 (by decide) rfl (Nat.le_of_ble_eq_true rfl) ?_
            refine S.iadd dX12_line_64 rfl ?_
            refine S.i2l dX12_line_65 rfl (by unfold fp_rng; omega) ?_
            refine S.callSi dX12_line_66 rfl cX12_94 (bk_X12_in) rfl (by decide) rfl (Nat.le_of_ble_eq_true rfl) (fun z66 M66 q66 => ?_)
            obtain ⟨b66, rfl⟩ := q66
            refine S.if_eq (tgt := 85) dX12_line_69 (by decide) rfl (by unfold fp_rng; omega) (fun h69 => ?_) (fun h69 => ?_)
            · refine S.iconst dX12_line_85 rfl ?_
              refine S.iret dX12_line_86 rfl ?_
              refine ⟨?_, rfl⟩
              (repeat' split) <;> first | rfl | omega | (have hv := (n2 (w - 10) (by omega) (by omega)).1; exact hv)
            · refine S.aload_n dX12_line_72 rfl rfl rfl ?_
              refine S.iconst dX12_line_73 rfl ?_
              refine S.iload_n dX12_line_74 rfl rfl rfl ?_
              refine S.iload_n dX12_line_75 rfl rfl rfl ?_
              refine S.bipush dX12_line_76 rfl (by decide) ?_
              refine S.isub dX12_line_78 rfl ?_
              refine S.callVe dX12_line_79 rfl cX12_201 (ok_X12_lies) rfl L_177 (by decide) rfl (Nat.le_of_ble_eq_true rfl) ?_
              refine S.goto (pc' := 86) dX12_line_82 (by decide) ?_
              refine S.iret dX12_line_86 rfl ?_
              refine ⟨?_, rfl⟩
              (repeat' split) <;> first | rfl | omega | (have hv := (n2 (w - 10) (by omega) (by omega)).1; exact hv)
          · refine S.aload_n dX12_line_42 rfl rfl rfl ?_
            refine S.iconst dX12_line_43 rfl ?_
            refine S.iload_n dX12_line_44 rfl rfl rfl ?_
            refine S.callVe dX12_line_45 rfl cX12_222 (rk_X12_gives (g := g) (pg := pg)) rfl L_177 (by decide) rfl (Nat.le_of_ble_eq_true rfl) ?_
            refine S.goto (pc' := 86) dX12_line_48 (by decide) ?_
            refine S.iret dX12_line_86 rfl ?_
            refine ⟨?_, rfl⟩
            (repeat' split) <;> first | rfl | omega | (have hv := (n2 (w - 10) (by omega) (by omega)).1; exact hv)
        · refine S.aload_n dX12_line_28 rfl rfl rfl ?_
          refine S.iconst dX12_line_29 rfl ?_
          refine S.iload_n dX12_line_30 rfl rfl rfl ?_
          refine S.callVe dX12_line_31 rfl cX12_198 (ok_X12_lie) rfl L_177 (by decide) rfl (Nat.le_of_ble_eq_true rfl) ?_
          refine S.goto (pc' := 86) dX12_line_34 (by decide) ?_
          refine S.iret dX12_line_86 rfl ?_
          refine ⟨?_, rfl⟩
          (repeat' split) <;> first | rfl | omega | (have hv := (n2 (w - 10) (by omega) (by omega)).1; exact hv)
      · refine S.aload_n dX12_line_14 rfl rfl rfl ?_
        refine S.getR dX12_line_15 rfl fX12_19 L_177 rf_177_3 ?_
        refine S.iload_n dX12_line_18 rfl rfl rfl ?_
        refine S.iald dX12_line_19 rfl L_181 (by omega) (by omega) ?_
        refine S.goto (pc' := 86) dX12_line_20 (by decide) ?_
        refine S.iret dX12_line_86 rfl ?_
        refine ⟨?_, rfl⟩
        (repeat' split) <;> first | rfl | omega | (have hv := (n2 (w - 10) (by omega) (by omega)).1; exact hv)
    · exfalso; omega
  · rw [if_pos hin]
    refine S.aload_n dX12_line_0 rfl rfl rfl ?_
    refine S.iload_n dX12_line_1 rfl rfl rfl ?_
    refine S.callVi dX12_line_2 rfl cX12_219 (bk_X12_isLine) rfl L_177 (by decide) rfl (Nat.le_of_ble_eq_true rfl) (fun z2 M2 q2 => ?_)
    obtain ⟨b2, rfl⟩ := q2
    refine S.if_ne (tgt := 10) dX12_line_5 (by decide) rfl (by unfold fp_rng; omega) (fun h5 => ?_) (fun h5 => ?_)
    · exfalso; omega
    · refine S.iconst dX12_line_8 rfl ?_
      refine S.iret dX12_line_9 rfl ?_
      exact ⟨rfl, rfl⟩
theorem cc_visit {i w : Int} (hc : CS M tp fl g pg vs nt im sh tn) (hi : fp_rng i) (hw : fp_rng w) : fp_Ok l G 1 kX11_visit [rV G 0, iV i, iV w] M (qE (A_visit vs i w) M) := by
  obtain ⟨-, hd, hcl, hv, -⟩ := hc
  have hw' := hw
  unfold fp_rng at hw'
  have hl := hv.2.1
  refine fp_Ok.of (r := 0) rfl (Nat.le_of_ble_eq_true rfl) rfl ?_
  unfold A_visit
  by_cases hin : 0 ≤ i ∧ i < vs.length
  · obtain ⟨e1, e2, e3, e4⟩ := hv.2.2 i hin.1 hin.2
    rw [if_neg (by omega)]
    refine S.aload_n dX11_visit_0 rfl rfl rfl ?_
    refine S.getR dX11_visit_1 rfl fX11_37 L_0 rf_0_5 ?_
    refine S.iload_n dX11_visit_4 rfl rfl rfl ?_
    refine S.callVi dX11_visit_5 rfl cX11_163 (bk_X10_has vs27) rfl (vs_lay vs27) (by decide) rfl (Nat.le_of_ble_eq_true rfl) (fun z5 M5 q5 => ?_)
    obtain ⟨b5, rfl⟩ := q5
    refine S.if_ne (tgt := 13) dX11_visit_8 (by decide) rfl (by unfold fp_rng; omega) (fun h8 => ?_) (fun h8 => ?_)
    · refine S.iload_n dX11_visit_13 rfl rfl rfl ?_
      rcases (show w < 0 ∨ 3 < w ∨ w = 0 ∨ w = 1 ∨ w = 2 ∨ w = 3 by omega) with hs | hs | hs | hs | hs | hs
      · refine S.tableOut (tgt := 84) dX11_visit_14 (by unfold fp_rng; omega) (by omega) (by decide) ?_
        refine S.iconst dX11_visit_84 rfl ?_
        refine S.iret dX11_visit_85 rfl ?_
        refine ⟨?_, rfl⟩
        (repeat' split) <;> first | rfl | omega
      · refine S.tableOut (tgt := 84) dX11_visit_14 (by unfold fp_rng; omega) (by omega) (by decide) ?_
        refine S.iconst dX11_visit_84 rfl ?_
        refine S.iret dX11_visit_85 rfl ?_
        refine ⟨?_, rfl⟩
        (repeat' split) <;> first | rfl | omega
      · refine S.tableIn (tgt := 44) dX11_visit_14 (by unfold fp_rng; omega) (by omega) (by omega) (by rw [hs]; rfl) (by decide) ?_
        refine S.aload_n dX11_visit_44 rfl rfl rfl ?_
        refine S.getR dX11_visit_45 rfl fX11_37 L_0 rf_0_5 ?_
        refine S.getR dX11_visit_48 rfl fX11_166 (vs_lay vs27) (vs_r1 vs27) ?_
        refine S.iload_n dX11_visit_51 rfl rfl rfl ?_
        refine S.iald dX11_visit_52 rfl (vs_a1 vs27) (by omega) (by omega) ?_
        refine S.iret dX11_visit_53 rfl ?_
        refine ⟨?_, rfl⟩
        (repeat' split) <;> first | rfl | omega
      · refine S.tableIn (tgt := 54) dX11_visit_14 (by unfold fp_rng; omega) (by omega) (by omega) (by rw [hs]; rfl) (by decide) ?_
        refine S.aload_n dX11_visit_54 rfl rfl rfl ?_
        refine S.getR dX11_visit_55 rfl fX11_37 L_0 rf_0_5 ?_
        refine S.getR dX11_visit_58 rfl fX11_169 (vs_lay vs27) (vs_r2 vs27) ?_
        refine S.iload_n dX11_visit_61 rfl rfl rfl ?_
        refine S.iald dX11_visit_62 rfl (vs_a2 vs27) (by omega) (by omega) ?_
        refine S.iret dX11_visit_63 rfl ?_
        refine ⟨?_, rfl⟩
        (repeat' split) <;> first | rfl | omega
      · refine S.tableIn (tgt := 64) dX11_visit_14 (by unfold fp_rng; omega) (by omega) (by omega) (by rw [hs]; rfl) (by decide) ?_
        refine S.aload_n dX11_visit_64 rfl rfl rfl ?_
        refine S.getR dX11_visit_65 rfl fX11_37 L_0 rf_0_5 ?_
        refine S.getR dX11_visit_68 rfl fX11_172 (vs_lay vs27) (vs_r3 vs27) ?_
        refine S.iload_n dX11_visit_71 rfl rfl rfl ?_
        refine S.iald dX11_visit_72 rfl (vs_a3 vs27) (by omega) (by omega) ?_
        refine S.iret dX11_visit_73 rfl ?_
        refine ⟨?_, rfl⟩
        (repeat' split) <;> first | rfl | omega
      · refine S.tableIn (tgt := 74) dX11_visit_14 (by unfold fp_rng; omega) (by omega) (by omega) (by rw [hs]; rfl) (by decide) ?_
        refine S.aload_n dX11_visit_74 rfl rfl rfl ?_
        refine S.getR dX11_visit_75 rfl fX11_37 L_0 rf_0_5 ?_
        refine S.getR dX11_visit_78 rfl fX11_175 (vs_lay vs27) (vs_r4 vs27) ?_
        refine S.iload_n dX11_visit_81 rfl rfl rfl ?_
        refine S.iald dX11_visit_82 rfl (vs_a4 vs27) (by omega) (by omega) ?_
        refine S.iret dX11_visit_83 rfl ?_
        refine ⟨?_, rfl⟩
        (repeat' split) <;> first | rfl | omega
    · exfalso; omega
  · rw [if_pos hin]
    refine S.aload_n dX11_visit_0 rfl rfl rfl ?_
    refine S.getR dX11_visit_1 rfl fX11_37 L_0 rf_0_5 ?_
    refine S.iload_n dX11_visit_4 rfl rfl rfl ?_
    refine S.callVi dX11_visit_5 rfl cX11_163 (bk_X10_has vs27) rfl (vs_lay vs27) (by decide) rfl (Nat.le_of_ble_eq_true rfl) (fun z5 M5 q5 => ?_)
    obtain ⟨b5, rfl⟩ := q5
    refine S.if_ne (tgt := 13) dX11_visit_8 (by decide) rfl (by unfold fp_rng; omega) (fun h8 => ?_) (fun h8 => ?_)
    · exfalso; omega
    · refine S.iconst dX11_visit_11 rfl ?_
      refine S.iret dX11_visit_12 rfl ?_
      exact ⟨rfl, rfl⟩
theorem mm_visit {i w : Int} (hc : MS M tp fl g pg vs nt im sh tn) (hi : fp_rng i) (hw : fp_rng w) : fp_Ok l G 1 kX12_visit [rV G 177, iV i, iV w] M (qE (A_visit vs i w) M) := by
  obtain ⟨-, hd, hcl, hv, -⟩ := hc
  have hw' := hw
  unfold fp_rng at hw'
  have hl := hv.2.1
  have hl1 := hv.1
  have hi' := hi
  unfold fp_rng at hi'
  refine fp_Ok.of (r := 0) rfl (Nat.le_of_ble_eq_true rfl) rfl ?_
  unfold A_visit
  by_cases hin : 0 ≤ i ∧ i < vs.length
  · obtain ⟨e1, e2, e3, e4⟩ := hv.2.2 i hin.1 hin.2
    rw [if_neg (by omega)]
    refine S.iload_n dX12_visit_0 rfl rfl rfl ?_
    refine S.i2l dX12_visit_1 rfl hi ?_
    refine S.lconst (w := 0) dX12_visit_2 rfl rfl ?_
    refine S.aload_n dX12_visit_3 rfl rfl rfl ?_
    refine S.callVe dX12_visit_4 rfl cX12_225 (ok_X12_visits) rfl L_177 (by decide) rfl (Nat.le_of_ble_eq_true rfl) ?_
    refine S.iconst dX12_visit_7 rfl ?_
    refine S.isub dX12_visit_8 rfl ?_
    refine S.i2l dX12_visit_9 rfl (by unfold fp_rng; omega) ?_
    refine S.callSi dX12_visit_10 rfl cX12_94 (bk_X12_in) rfl (by decide) rfl (Nat.le_of_ble_eq_true rfl) (fun z10 M10 q10 => ?_)
    obtain ⟨b10, rfl⟩ := q10
    refine S.if_eq (tgt := 44) dX12_visit_13 (by decide) rfl (by unfold fp_rng; omega) (fun h13 => ?_) (fun h13 => ?_)
    · refine S.iconst dX12_visit_44 rfl ?_
      refine S.iret dX12_visit_45 rfl ?_
      refine ⟨?_, rfl⟩
      first | (rw [if_neg (by omega), if_neg (by omega), if_neg (by omega), if_neg (by omega)]; done) | (rcases (show w = 0 ∨ w = 1 ∨ w = 2 ∨ w = 3 by omega) with rfl | rfl | rfl | rfl; (rw [if_pos rfl, Int.add_zero]; exact e1); (rw [if_neg (by decide), if_pos rfl]; exact e2); (rw [if_neg (by decide), if_neg (by decide), if_pos rfl]; exact e3); (rw [if_neg (by decide), if_neg (by decide), if_neg (by decide), if_pos rfl]; exact e4))
    · refine S.iload_n dX12_visit_16 rfl rfl rfl ?_
      refine S.i2l dX12_visit_17 rfl hw ?_
      refine S.lconst (w := 0) dX12_visit_18 rfl rfl ?_
      refine S.ldc2 (v := 3) dX12_visit_19 rfl lX12_196 (by decide) ?_
      refine S.callSi dX12_visit_22 rfl cX12_94 (bk_X12_in) rfl (by decide) rfl (Nat.le_of_ble_eq_true rfl) (fun z22 M22 q22 => ?_)
      obtain ⟨b22, rfl⟩ := q22
      refine S.if_eq (tgt := 44) dX12_visit_25 (by decide) rfl (by unfold fp_rng; omega) (fun h25 => ?_) (fun h25 => ?_)
      · refine S.iconst dX12_visit_44 rfl ?_
        refine S.iret dX12_visit_45 rfl ?_
        refine ⟨?_, rfl⟩
        first | (rw [if_neg (by omega), if_neg (by omega), if_neg (by omega), if_neg (by omega)]; done) | (rcases (show w = 0 ∨ w = 1 ∨ w = 2 ∨ w = 3 by omega) with rfl | rfl | rfl | rfl; (rw [if_pos rfl, Int.add_zero]; exact e1); (rw [if_neg (by decide), if_pos rfl]; exact e2); (rw [if_neg (by decide), if_neg (by decide), if_pos rfl]; exact e3); (rw [if_neg (by decide), if_neg (by decide), if_neg (by decide), if_pos rfl]; exact e4))
      · refine S.aload_n dX12_visit_28 rfl rfl rfl ?_
        refine S.getR dX12_visit_29 rfl fX12_7 L_177 rf_177_0 ?_
        refine S.bipush dX12_visit_32 rfl (by decide) ?_
        refine S.iconst dX12_visit_34 rfl ?_
        refine S.iload_n dX12_visit_35 rfl rfl rfl ?_
        refine S.imul dX12_visit_36 rfl ?_
        refine S.iadd dX12_visit_37 rfl ?_
        refine S.iload_n dX12_visit_38 rfl rfl rfl ?_
        refine S.iadd dX12_visit_39 rfl ?_
        refine S.iald dX12_visit_40 rfl L_178 (by omega) (by omega) ?_
        refine S.goto (pc' := 45) dX12_visit_41 (by decide) ?_
        refine S.iret dX12_visit_45 rfl ?_
        refine ⟨?_, rfl⟩
        first | (rw [if_neg (by omega), if_neg (by omega), if_neg (by omega), if_neg (by omega)]; done) | (rcases (show w = 0 ∨ w = 1 ∨ w = 2 ∨ w = 3 by omega) with rfl | rfl | rfl | rfl; (rw [if_pos rfl, Int.add_zero]; exact e1); (rw [if_neg (by decide), if_pos rfl]; exact e2); (rw [if_neg (by decide), if_neg (by decide), if_pos rfl]; exact e3); (rw [if_neg (by decide), if_neg (by decide), if_neg (by decide), if_pos rfl]; exact e4))
  · rw [if_pos hin]
    refine S.iload_n dX12_visit_0 rfl rfl rfl ?_
    refine S.i2l dX12_visit_1 rfl hi ?_
    refine S.lconst (w := 0) dX12_visit_2 rfl rfl ?_
    refine S.aload_n dX12_visit_3 rfl rfl rfl ?_
    refine S.callVe dX12_visit_4 rfl cX12_225 (ok_X12_visits) rfl L_177 (by decide) rfl (Nat.le_of_ble_eq_true rfl) ?_
    refine S.iconst dX12_visit_7 rfl ?_
    refine S.isub dX12_visit_8 rfl ?_
    refine S.i2l dX12_visit_9 rfl (by unfold fp_rng; omega) ?_
    refine S.callSi dX12_visit_10 rfl cX12_94 (bk_X12_in) rfl (by decide) rfl (Nat.le_of_ble_eq_true rfl) (fun z10 M10 q10 => ?_)
    obtain ⟨b10, rfl⟩ := q10
    refine S.if_eq (tgt := 44) dX12_visit_13 (by decide) rfl (by unfold fp_rng; omega) (fun h13 => ?_) (fun h13 => ?_)
    · refine S.iconst dX12_visit_44 rfl ?_
      refine S.iret dX12_visit_45 rfl ?_
      exact ⟨rfl, rfl⟩
    · exfalso; omega
theorem clIs.ch {k : Nat} {v : Int} (h : clIs M k g pg) : clIs M k (g.1, g.2.1, v, g.2.2.2) pg := h
theorem cc_chance {v : Int} (hc : CS M tp fl g pg vs nt im sh tn) (ho : OK g pg vs nt im sh) (hv : fp_rng v) : fp_Ok l G 0 kX11_chance [rV G 0, iV v] M (qI fun z N => z = (A_chance g v).1 ∧ CS N tp fl (A_chance g v).2 pg vs nt im sh tn ∧ frC M N) := by
  obtain ⟨s1, hd, s3, s4, s5, s6, s7⟩ := hc
  have hch := hd.2.2.1
  refine fp_Ok.of (r := 1) rfl (Nat.le_of_ble_eq_true rfl) rfl ?_
  unfold A_chance
  by_cases hin : 0 ≤ v ∧ v ≤ 10
  · rw [if_pos hin]
    refine S.iload_n dX11_chance_0 rfl rfl rfl ?_
    refine S.if_lt (tgt := 10) dX11_chance_1 (by decide) rfl hv (fun h1 => ?_) (fun h1 => ?_)
    · exfalso; omega
    · refine S.iload_n dX11_chance_4 rfl rfl rfl ?_
      refine S.bipush dX11_chance_5 rfl (by decide) ?_
      refine S.icmp_le (tgt := 12) dX11_chance_7 (by decide) rfl hv (by unfold fp_rng; omega) (fun h7 => ?_) (fun h7 => ?_)
      · refine S.aload_n dX11_chance_12 rfl rfl rfl ?_
        refine S.getR dX11_chance_13 rfl fX11_23 L_0 rf_0_3 ?_
        refine S.getI dX11_chance_16 rfl fX11_178 (gd_lay gd18) ?_
        refine S.istore_n (LL' := [_, _, _]) dX11_chance_19 rfl (by decide) rfl rfl rfl ?_
        refine S.aload_n dX11_chance_20 rfl rfl rfl ?_
        refine S.getR dX11_chance_21 rfl fX11_23 L_0 rf_0_3 ?_
        refine S.iload_n dX11_chance_24 rfl rfl rfl ?_
        refine S.putI dX11_chance_25 rfl fX11_178 (gd_lay gd18) ?_
        refine S.iload_n dX11_chance_28 rfl rfl rfl ?_
        refine S.iret dX11_chance_29 rfl ?_
        have e : ∀ a, a ≠ 18 → fp_up M 18 2 v a = M a := fun a ha => fp_up_ne ha
        have eg : gdIs (fp_up M 18 2 v) 18 (g.1, g.2.1, v, g.2.2.2) := by
          obtain ⟨d1, d2, d3, d4, d5, d6, d7, d8, d9⟩ := hd
          unfold gdIs gd_ok at *
          rw [fp_up_at, e 19 (by decide), e 20 (by decide), e 21 (by decide), fp_upf_ne (by decide), fp_upf_ne (by decide), fp_upf_at]
          exact ⟨d1, d2, rfl, d4, d5, d6, d7, d8, d9.1, d9.2.1, hin, d9.2.2.2⟩
        refine ⟨hch, ⟨s1.kept (e 0 (by decide)) (e 1 (by decide)) (by rw [e 2 (by decide)]), eg, (s3.kept (fun a q1 q2 => e a (by omega))).ch, s4.kept (fun a q1 q2 => e a (by omega)), s5.kept (fun a q1 q2 => e a (by omega)), s6.kept (fun a q1 q2 => e a (by omega)), s7.kept (fun a q1 q2 => e a (by omega))⟩, fun c hc => e c (by omega)⟩
      · exfalso; omega
  · rw [if_neg hin]
    refine S.iload_n dX11_chance_0 rfl rfl rfl ?_
    refine S.if_lt (tgt := 10) dX11_chance_1 (by decide) rfl hv (fun h1 => ?_) (fun h1 => ?_)
    · refine S.iconst dX11_chance_10 rfl ?_
      refine S.iret dX11_chance_11 rfl ?_
      exact ⟨rfl, ⟨s1, hd, s3, s4, s5, s6, s7⟩, frC.refl _⟩
    · refine S.iload_n dX11_chance_4 rfl rfl rfl ?_
      refine S.bipush dX11_chance_5 rfl (by decide) ?_
      refine S.icmp_le (tgt := 12) dX11_chance_7 (by decide) rfl hv (by unfold fp_rng; omega) (fun h7 => ?_) (fun h7 => ?_)
      · exfalso; omega
      · refine S.iconst dX11_chance_10 rfl ?_
        refine S.iret dX11_chance_11 rfl ?_
        exact ⟨rfl, ⟨s1, hd, s3, s4, s5, s6, s7⟩, frC.refl _⟩
theorem mm_chance {v : Int} (hc : MS M tp fl g pg vs nt im sh tn) (ho : OK g pg vs nt im sh) (hv : fp_rng v) : fp_Ok l G 1 kX12_chance [rV G 177, iV v] M (qI fun z N => z = (A_chance g v).1 ∧ MS N tp fl (A_chance g v).2 pg vs nt im sh tn ∧ frD M N) := by
  obtain ⟨s1, hd, s3, s4, s5, s6, s7, s8⟩ := hc
  have hch := hd.2.2.1
  have hv' := hv
  unfold fp_rng at hv'
  refine fp_Ok.of (r := 1) rfl (Nat.le_of_ble_eq_true rfl) rfl ?_
  unfold A_chance
  by_cases hin : 0 ≤ v ∧ v ≤ 10
  · rw [if_pos hin]
    refine S.iload_n dX12_chance_0 rfl rfl rfl ?_
    refine S.i2l dX12_chance_1 rfl hv ?_
    refine S.lconst (w := 0) dX12_chance_2 rfl rfl ?_
    refine S.ldc2 (v := 10) dX12_chance_3 rfl lX12_212 (by decide) ?_
    refine S.callSi dX12_chance_6 rfl cX12_94 (bk_X12_in) rfl (by decide) rfl (Nat.le_of_ble_eq_true rfl) (fun z6 M6 q6 => ?_)
    obtain ⟨b6, rfl⟩ := q6
    refine S.if_ne (tgt := 14) dX12_chance_9 (by decide) rfl (by unfold fp_rng; omega) (fun h9 => ?_) (fun h9 => ?_)
    · refine S.aload_n dX12_chance_14 rfl rfl rfl ?_
      refine S.getI dX12_chance_15 rfl fX12_22 L_177 ?_
      refine S.istore_n (LL' := [_, _, _]) dX12_chance_18 rfl (by decide) rfl rfl rfl ?_
      refine S.aload_n dX12_chance_19 rfl rfl rfl ?_
      refine S.iload_n dX12_chance_20 rfl rfl rfl ?_
      refine S.putI dX12_chance_21 rfl fX12_22 L_177 ?_
      refine S.iload_n dX12_chance_24 rfl rfl rfl ?_
      refine S.iret dX12_chance_25 rfl ?_
      have e : ∀ a, a ≠ 177 → fp_up M 177 6 v a = M a := fun a ha => fp_up_ne ha
      have eg : mdIs (fp_up M 177 6 v) (g.1, g.2.1, v, g.2.2.2) := by
        obtain ⟨d1, d2, d3, d4, d5, d6, d7, d8, d9⟩ := hd
        unfold mdIs md_ok at *
        rw [fp_up_at, e 179 (by decide), e 180 (by decide), e 181 (by decide), fp_upf_ne (by decide), fp_upf_ne (by decide), fp_upf_at]
        exact ⟨d1, d2, rfl, d4, d5, d6, d7, d8, d9.1, d9.2.1, hin, d9.2.2.2⟩
      refine ⟨hch, ⟨?_, eg, ?_, ?_, ?_, ?_, ?_, ?_⟩, fun c hc => e c (by omega)⟩
      · unfold msA at *; rw [fp_up_at, fp_upf_ne (by decide), fp_upf_ne (by decide), fp_upf_ne (by decide), e 186 (by decide)]; exact s1
      · unfold mpIs at *; rw [e 178 (by decide)]; exact s3
      · rw [e 178 (by decide)]; exact s4
      · rw [e 178 (by decide)]; exact s5
      · unfold msI at *; rw [e 178 (by decide), e 199 (by decide)]; exact s6
      · unfold msS at *; rw [e 200 (by decide), e 201 (by decide), e 202 (by decide)]; exact s7
      · unfold msK at *; rw [e 187 (by decide), e 188 (by decide)]; exact s8
    · exfalso; omega
  · rw [if_neg hin]
    refine S.iload_n dX12_chance_0 rfl rfl rfl ?_
    refine S.i2l dX12_chance_1 rfl hv ?_
    refine S.lconst (w := 0) dX12_chance_2 rfl rfl ?_
    refine S.ldc2 (v := 10) dX12_chance_3 rfl lX12_212 (by decide) ?_
    refine S.callSi dX12_chance_6 rfl cX12_94 (bk_X12_in) rfl (by decide) rfl (Nat.le_of_ble_eq_true rfl) (fun z6 M6 q6 => ?_)
    obtain ⟨b6, rfl⟩ := q6
    refine S.if_ne (tgt := 14) dX12_chance_9 (by decide) rfl (by unfold fp_rng; omega) (fun h9 => ?_) (fun h9 => ?_)
    · exfalso; omega
    · refine S.iconst dX12_chance_12 rfl ?_
      refine S.iret dX12_chance_13 rfl ?_
      exact ⟨rfl, ⟨s1, hd, s3, s4, s5, s6, s7, s8⟩, frD.refl _⟩
end PUC
end
section
/-! THE PUBLIC CALLS: put, draw, slip -/
section PUD
variable {l : Launch} {G : fp_WG} {M : fp_Mem} {tp : List Int} {fl : Int} {g : aGd} {pg : aPg} {vs : List aVt} {nt : List Int} {im : aIm} {sh : aSh} {tn : Int}
theorem A_put_ok {p t x : Int} (hg : gOk g) (hP : pgOk g pg) : pgOk g (A_put g pg p t x).2 := by
  unfold A_put
  split
  · exact hP
  · split
    · exact hP
    · split
      · exact aIns_ok hg hP (by omega) ⟨by omega, by omega⟩ (by omega) (by assumption) (Nat.le_refl _)
      · exact hP
theorem A_draw_ok {p x : Int} (hg : gOk g) (hP : pgOk g pg) : pgOk g (A_draw g pg p x).2 := by
  unfold A_draw
  split
  · exact hP
  · exact aDraw_ok hg hP (by omega) (by omega)
theorem A_slip_ok {t x i : Int} (hg : gOk g) (hP : pgOk g pg) : pgOk g (A_slip g pg t x i).2 := by
  unfold A_slip
  split
  · exact hP
  · split
    · exact hP
    · split
      · exact hP
      · have := hP.1 t (by omega) (by omega)
        exact aIns_ok hg hP (by omega) (by omega) (by omega) (by omega) (by omega)
theorem aApp_eq {p t x : Int} : aApp pg p t x = if pg.1 t = p ∧ (pg.2.2 x).length < 8 then (1, aIns pg t x (pg.2.2 x).length) else (0, pg) := rfl
theorem cc_put {p t x : Int} (hc : CS M tp fl g pg vs nt im sh tn) (ho : OK g pg vs nt im sh) (hp : fp_rng p) (ht : fp_rng t) (hx : fp_rng x) : fp_Ok l G 2 kX11_put [rV G 0, iV p, iV t, iV x] M (qI fun z N => z = (A_put g pg p t x).1 ∧ CS N tp fl g (A_put g pg p t x).2 vs nt im sh tn ∧ frC M N) := by
  have hcs := hc
  obtain ⟨-, hd, hcl, -⟩ := hc
  obtain ⟨hg, hP, -⟩ := ho
  have hg1 := hg.1
  have hg2 := hg.2.1
  refine fp_Ok.of (r := 0) rfl (Nat.le_of_ble_eq_true rfl) rfl ?_
  unfold A_put
  by_cases hin : (0 ≤ p ∧ p < 4) ∧ (0 ≤ t ∧ t < g.1) ∧ (0 ≤ x ∧ x < g.2.1)
  · rw [if_neg (fun q => q hin)]
    have hwt := hcl.1 t hin.2.1.1 hin.2.1.2
    have hwo := hP.1 t hin.2.1.1 hin.2.1.2
    by_cases hpt : pg.1 t = p
    · rw [if_neg (fun q => q hpt)]
      by_cases l8 : (pg.2.2 x).length < 8
      · rw [if_pos l8]
        have ea : aApp pg p t x = (1, aIns pg t x (pg.2.2 x).length) := by unfold aApp; rw [if_pos ⟨hpt, l8⟩]
        have hl : ((aIns pg t x (pg.2.2 x).length).2.2 x).length = (pg.2.2 x).length + 1 := by
          show List.length (fp_ui pg.2.2 x _ x) = _
          rw [fp_ui_at, List.length_insertIdx_of_le_length (Nat.le_refl _)]
        refine S.iload_n (pc' := 1) dX11_put_0 rfl rfl rfl ?_
        refine S.callSi (pc' := 4) dX11_put_1 rfl cX11_181 (bk_X11_isOne) rfl (by decide) rfl (Nat.le_of_ble_eq_true rfl) (fun z1 M1 q1 => ?_)
        obtain ⟨b1, rfl⟩ := q1
        refine S.if_eq (pc' := 7) (tgt := 29) dX11_put_4 (by decide) rfl (by unfold fp_rng; omega) (fun h4 => ?_) (fun h4 => ?_)
        · exfalso; omega
        · refine S.aload_n (pc' := 8) dX11_put_7 rfl rfl rfl ?_
          refine S.getR (pc' := 11) dX11_put_8 rfl fX11_23 L_0 rf_0_3 ?_
          refine S.iload_n (pc' := 12) dX11_put_11 rfl rfl rfl ?_
          refine S.callVi (pc' := 15) dX11_put_12 rfl cX11_126 (bk_X1_hasThing gd18) rfl (gd_lay gd18) (by decide) rfl (Nat.le_of_ble_eq_true rfl) (fun z12 M12 q12 => ?_)
          obtain ⟨b12, rfl⟩ := q12
          refine S.if_eq (pc' := 18) (tgt := 29) dX11_put_15 (by decide) rfl (by unfold fp_rng; omega) (fun h15 => ?_) (fun h15 => ?_)
          · exfalso; omega
          · refine S.aload_n (pc' := 19) dX11_put_18 rfl rfl rfl ?_
            refine S.getR (pc' := 22) dX11_put_19 rfl fX11_23 L_0 rf_0_3 ?_
            refine S.iload_n (pc' := 23) dX11_put_22 rfl rfl rfl ?_
            refine S.callVi (pc' := 26) dX11_put_23 rfl cX11_148 (bk_X1_hasLine gd18) rfl (gd_lay gd18) (by decide) rfl (Nat.le_of_ble_eq_true rfl) (fun z23 M23 q23 => ?_)
            obtain ⟨b23, rfl⟩ := q23
            refine S.if_ne (pc' := 29) (tgt := 31) dX11_put_26 (by decide) rfl (by unfold fp_rng; omega) (fun h26 => ?_) (fun h26 => ?_)
            · refine S.aload_n (pc' := 32) dX11_put_31 rfl rfl rfl ?_
              refine S.getR (pc' := 35) dX11_put_32 rfl fX11_30 L_0 rf_0_4 ?_
              refine S.getR (pc' := 38) dX11_put_35 rfl fX11_138 (pl_lay pl22) (pl_r0 pl22) ?_
              refine S.iload_n (pc' := 39) dX11_put_38 rfl rfl rfl ?_
              refine S.iald (pc' := 40) dX11_put_39 rfl (pl_a0 pl22) (by omega) (by omega) ?_
              refine S.iload_n (pc' := 41) dX11_put_40 rfl rfl rfl ?_
              refine S.icmp_eq (pc' := 44) (tgt := 47) dX11_put_41 (by decide) rfl (by unfold fp_rng; omega) (by unfold fp_rng; omega) (fun h41 => ?_) (fun h41 => ?_)
              · refine S.aload_n (pc' := 48) dX11_put_47 rfl rfl rfl ?_
                refine S.getR (pc' := 51) dX11_put_48 rfl fX11_30 L_0 rf_0_4 ?_
                refine S.iload_n (pc' := 52) dX11_put_51 rfl rfl rfl ?_
                refine S.iload_n (pc' := 53) dX11_put_52 rfl rfl rfl ?_
                refine S.iload_n (pc' := 54) dX11_put_53 rfl rfl rfl ?_
                refine S.callVi (pc' := 57) dX11_put_54 rfl cX11_190 (rk_X5_append (g := g) (pg := pg) pl22) rfl (pl_lay pl22) (by decide) rfl (Nat.le_of_ble_eq_true rfl) (fun z54 M54 q54 => ?_)
                rw [ea] at q54
                obtain ⟨z1, c1, f1⟩ := q54
                have n1 := (c1.2.2.2.1 x (by omega) (by omega)).1
                dsimp only at n1
                refine S.if_eq (pc' := 60) (tgt := 74) dX11_put_57 (by decide) rfl (by unfold fp_rng; omega) (fun h57 => ?_) (fun h57 => ?_)
                · exfalso; omega
                · refine S.aload_n (pc' := 61) dX11_put_60 rfl rfl rfl ?_
                  refine S.getR (pc' := 64) dX11_put_61 rfl fX11_30 L_0 rf_0_4 ?_
                  refine S.getR (pc' := 67) dX11_put_64 rfl fX11_151 (pl_lay pl22) (pl_r2 pl22) ?_
                  refine S.iload_n (pc' := 68) dX11_put_67 rfl rfl rfl ?_
                  refine S.iald (pc' := 69) dX11_put_68 rfl (pl_a2 pl22) (by omega) (by omega) ?_
                  refine S.iconst (pc' := 70) dX11_put_69 rfl ?_
                  refine S.isub (pc' := 71) dX11_put_70 rfl ?_
                  refine S.goto (pc' := 76) dX11_put_71 (by decide) ?_
                  refine S.iret dX11_put_76 rfl ?_
                  exact ⟨by omega, hcs.page f1 c1, f1.c (by decide)⟩
              · exfalso; omega
            · exfalso; omega
      · rw [if_neg l8]
        have ea : aApp pg p t x = (0, pg) := by unfold aApp; rw [if_neg (fun q => l8 q.2)]
        refine S.iload_n (pc' := 1) dX11_put_0 rfl rfl rfl ?_
        refine S.callSi (pc' := 4) dX11_put_1 rfl cX11_181 (bk_X11_isOne) rfl (by decide) rfl (Nat.le_of_ble_eq_true rfl) (fun z1 M1 q1 => ?_)
        obtain ⟨b1, rfl⟩ := q1
        refine S.if_eq (pc' := 7) (tgt := 29) dX11_put_4 (by decide) rfl (by unfold fp_rng; omega) (fun h4 => ?_) (fun h4 => ?_)
        · exfalso; omega
        · refine S.aload_n (pc' := 8) dX11_put_7 rfl rfl rfl ?_
          refine S.getR (pc' := 11) dX11_put_8 rfl fX11_23 L_0 rf_0_3 ?_
          refine S.iload_n (pc' := 12) dX11_put_11 rfl rfl rfl ?_
          refine S.callVi (pc' := 15) dX11_put_12 rfl cX11_126 (bk_X1_hasThing gd18) rfl (gd_lay gd18) (by decide) rfl (Nat.le_of_ble_eq_true rfl) (fun z12 M12 q12 => ?_)
          obtain ⟨b12, rfl⟩ := q12
          refine S.if_eq (pc' := 18) (tgt := 29) dX11_put_15 (by decide) rfl (by unfold fp_rng; omega) (fun h15 => ?_) (fun h15 => ?_)
          · exfalso; omega
          · refine S.aload_n (pc' := 19) dX11_put_18 rfl rfl rfl ?_
            refine S.getR (pc' := 22) dX11_put_19 rfl fX11_23 L_0 rf_0_3 ?_
            refine S.iload_n (pc' := 23) dX11_put_22 rfl rfl rfl ?_
            refine S.callVi (pc' := 26) dX11_put_23 rfl cX11_148 (bk_X1_hasLine gd18) rfl (gd_lay gd18) (by decide) rfl (Nat.le_of_ble_eq_true rfl) (fun z23 M23 q23 => ?_)
            obtain ⟨b23, rfl⟩ := q23
            refine S.if_ne (pc' := 29) (tgt := 31) dX11_put_26 (by decide) rfl (by unfold fp_rng; omega) (fun h26 => ?_) (fun h26 => ?_)
            · refine S.aload_n (pc' := 32) dX11_put_31 rfl rfl rfl ?_
              refine S.getR (pc' := 35) dX11_put_32 rfl fX11_30 L_0 rf_0_4 ?_
              refine S.getR (pc' := 38) dX11_put_35 rfl fX11_138 (pl_lay pl22) (pl_r0 pl22) ?_
              refine S.iload_n (pc' := 39) dX11_put_38 rfl rfl rfl ?_
              refine S.iald (pc' := 40) dX11_put_39 rfl (pl_a0 pl22) (by omega) (by omega) ?_
              refine S.iload_n (pc' := 41) dX11_put_40 rfl rfl rfl ?_
              refine S.icmp_eq (pc' := 44) (tgt := 47) dX11_put_41 (by decide) rfl (by unfold fp_rng; omega) (by unfold fp_rng; omega) (fun h41 => ?_) (fun h41 => ?_)
              · refine S.aload_n (pc' := 48) dX11_put_47 rfl rfl rfl ?_
                refine S.getR (pc' := 51) dX11_put_48 rfl fX11_30 L_0 rf_0_4 ?_
                refine S.iload_n (pc' := 52) dX11_put_51 rfl rfl rfl ?_
                refine S.iload_n (pc' := 53) dX11_put_52 rfl rfl rfl ?_
                refine S.iload_n (pc' := 54) dX11_put_53 rfl rfl rfl ?_
                refine S.callVi (pc' := 57) dX11_put_54 rfl cX11_190 (rk_X5_append (g := g) (pg := pg) pl22) rfl (pl_lay pl22) (by decide) rfl (Nat.le_of_ble_eq_true rfl) (fun z54 M54 q54 => ?_)
                rw [ea] at q54
                obtain ⟨z1, c1, f1⟩ := q54
                refine S.if_eq (pc' := 60) (tgt := 74) dX11_put_57 (by decide) rfl (by unfold fp_rng; omega) (fun h57 => ?_) (fun h57 => ?_)
                · refine S.bipush (pc' := 76) dX11_put_74 rfl (by decide) ?_
                  refine S.iret dX11_put_76 rfl ?_
                  exact ⟨rfl, hcs.page f1 c1, f1.c (by decide)⟩
                · exfalso; omega
              · exfalso; omega
            · exfalso; omega
    · rw [if_pos hpt]
      refine S.iload_n (pc' := 1) dX11_put_0 rfl rfl rfl ?_
      refine S.callSi (pc' := 4) dX11_put_1 rfl cX11_181 (bk_X11_isOne) rfl (by decide) rfl (Nat.le_of_ble_eq_true rfl) (fun z1 M1 q1 => ?_)
      obtain ⟨b1, rfl⟩ := q1
      refine S.if_eq (pc' := 7) (tgt := 29) dX11_put_4 (by decide) rfl (by unfold fp_rng; omega) (fun h4 => ?_) (fun h4 => ?_)
      · exfalso; omega
      · refine S.aload_n (pc' := 8) dX11_put_7 rfl rfl rfl ?_
        refine S.getR (pc' := 11) dX11_put_8 rfl fX11_23 L_0 rf_0_3 ?_
        refine S.iload_n (pc' := 12) dX11_put_11 rfl rfl rfl ?_
        refine S.callVi (pc' := 15) dX11_put_12 rfl cX11_126 (bk_X1_hasThing gd18) rfl (gd_lay gd18) (by decide) rfl (Nat.le_of_ble_eq_true rfl) (fun z12 M12 q12 => ?_)
        obtain ⟨b12, rfl⟩ := q12
        refine S.if_eq (pc' := 18) (tgt := 29) dX11_put_15 (by decide) rfl (by unfold fp_rng; omega) (fun h15 => ?_) (fun h15 => ?_)
        · exfalso; omega
        · refine S.aload_n (pc' := 19) dX11_put_18 rfl rfl rfl ?_
          refine S.getR (pc' := 22) dX11_put_19 rfl fX11_23 L_0 rf_0_3 ?_
          refine S.iload_n (pc' := 23) dX11_put_22 rfl rfl rfl ?_
          refine S.callVi (pc' := 26) dX11_put_23 rfl cX11_148 (bk_X1_hasLine gd18) rfl (gd_lay gd18) (by decide) rfl (Nat.le_of_ble_eq_true rfl) (fun z23 M23 q23 => ?_)
          obtain ⟨b23, rfl⟩ := q23
          refine S.if_ne (pc' := 29) (tgt := 31) dX11_put_26 (by decide) rfl (by unfold fp_rng; omega) (fun h26 => ?_) (fun h26 => ?_)
          · refine S.aload_n (pc' := 32) dX11_put_31 rfl rfl rfl ?_
            refine S.getR (pc' := 35) dX11_put_32 rfl fX11_30 L_0 rf_0_4 ?_
            refine S.getR (pc' := 38) dX11_put_35 rfl fX11_138 (pl_lay pl22) (pl_r0 pl22) ?_
            refine S.iload_n (pc' := 39) dX11_put_38 rfl rfl rfl ?_
            refine S.iald (pc' := 40) dX11_put_39 rfl (pl_a0 pl22) (by omega) (by omega) ?_
            refine S.iload_n (pc' := 41) dX11_put_40 rfl rfl rfl ?_
            refine S.icmp_eq (pc' := 44) (tgt := 47) dX11_put_41 (by decide) rfl (by unfold fp_rng; omega) (by unfold fp_rng; omega) (fun h41 => ?_) (fun h41 => ?_)
            · exfalso; omega
            · refine S.bipush (pc' := 46) dX11_put_44 rfl (by decide) ?_
              refine S.iret dX11_put_46 rfl ?_
              exact ⟨rfl, hcs, frC.refl _⟩
          · exfalso; omega
  · rw [if_pos hin]
    refine S.iload_n (pc' := 1) dX11_put_0 rfl rfl rfl ?_
    refine S.callSi (pc' := 4) dX11_put_1 rfl cX11_181 (bk_X11_isOne) rfl (by decide) rfl (Nat.le_of_ble_eq_true rfl) (fun z1 M1 q1 => ?_)
    obtain ⟨b1, rfl⟩ := q1
    refine S.if_eq (pc' := 7) (tgt := 29) dX11_put_4 (by decide) rfl (by unfold fp_rng; omega) (fun h4 => ?_) (fun h4 => ?_)
    · refine S.iconst (pc' := 30) dX11_put_29 rfl ?_
      refine S.iret dX11_put_30 rfl ?_
      exact ⟨rfl, hcs, frC.refl _⟩
    · refine S.aload_n (pc' := 8) dX11_put_7 rfl rfl rfl ?_
      refine S.getR (pc' := 11) dX11_put_8 rfl fX11_23 L_0 rf_0_3 ?_
      refine S.iload_n (pc' := 12) dX11_put_11 rfl rfl rfl ?_
      refine S.callVi (pc' := 15) dX11_put_12 rfl cX11_126 (bk_X1_hasThing gd18) rfl (gd_lay gd18) (by decide) rfl (Nat.le_of_ble_eq_true rfl) (fun z12 M12 q12 => ?_)
      obtain ⟨b12, rfl⟩ := q12
      refine S.if_eq (pc' := 18) (tgt := 29) dX11_put_15 (by decide) rfl (by unfold fp_rng; omega) (fun h15 => ?_) (fun h15 => ?_)
      · refine S.iconst (pc' := 30) dX11_put_29 rfl ?_
        refine S.iret dX11_put_30 rfl ?_
        exact ⟨rfl, hcs, frC.refl _⟩
      · refine S.aload_n (pc' := 19) dX11_put_18 rfl rfl rfl ?_
        refine S.getR (pc' := 22) dX11_put_19 rfl fX11_23 L_0 rf_0_3 ?_
        refine S.iload_n (pc' := 23) dX11_put_22 rfl rfl rfl ?_
        refine S.callVi (pc' := 26) dX11_put_23 rfl cX11_148 (bk_X1_hasLine gd18) rfl (gd_lay gd18) (by decide) rfl (Nat.le_of_ble_eq_true rfl) (fun z23 M23 q23 => ?_)
        obtain ⟨b23, rfl⟩ := q23
        refine S.if_ne (pc' := 29) (tgt := 31) dX11_put_26 (by decide) rfl (by unfold fp_rng; omega) (fun h26 => ?_) (fun h26 => ?_)
        · exfalso; omega
        · refine S.iconst (pc' := 30) dX11_put_29 rfl ?_
          refine S.iret dX11_put_30 rfl ?_
          exact ⟨rfl, hcs, frC.refl _⟩
theorem mm_put {p t x : Int} (hc : MS M tp fl g pg vs nt im sh tn) (ho : OK g pg vs nt im sh) (hp : fp_rng p) (ht : fp_rng t) (hx : fp_rng x) : fp_Ok l G 2 kX12_put [rV G 177, iV p, iV t, iV x] M (qI fun z N => z = (A_put g pg p t x).1 ∧ MS N tp fl g (A_put g pg p t x).2 vs nt im sh tn ∧ frD M N) := by
  have hcs := hc
  obtain ⟨-, hd, hcl, -⟩ := hc
  obtain ⟨hg, hP, -, -, hio, -⟩ := ho
  have hg1 := hg.1
  have hg2 := hg.2.1
  refine fp_Ok.of (r := 0) rfl (Nat.le_of_ble_eq_true rfl) rfl ?_
  unfold A_put
  by_cases hin : (0 ≤ p ∧ p < 4) ∧ (0 ≤ t ∧ t < g.1) ∧ (0 ≤ x ∧ x < g.2.1)
  · rw [if_neg (fun q => q hin)]
    have hwt := hcl.1 t hin.2.1.1 hin.2.1.2
    rw [Int.zero_add] at hwt
    have hwo := hP.1 t hin.2.1.1 hin.2.1.2
    by_cases hpt : pg.1 t = p
    · rw [if_neg (fun q => q hpt)]
      by_cases l8 : (pg.2.2 x).length < 8
      · rw [if_pos l8]
        have ea : aApp pg p t x = (1, aIns pg t x (pg.2.2 x).length) := by unfold aApp; rw [if_pos ⟨hpt, l8⟩]
        have hl : ((aIns pg t x (pg.2.2 x).length).2.2 x).length = (pg.2.2 x).length + 1 := by
          show List.length (fp_ui pg.2.2 x _ x) = _
          rw [fp_ui_at, List.length_insertIdx_of_le_length (Nat.le_refl _)]
        refine S.iload_n (pc' := 1) dX12_put_0 rfl rfl rfl ?_
        refine S.callSi (pc' := 4) dX12_put_1 rfl cX12_228 (bk_X12_isOne) rfl (by decide) rfl (Nat.le_of_ble_eq_true rfl) (fun z1 M1 q1 => ?_)
        obtain ⟨b1, rfl⟩ := q1
        refine S.if_eq (pc' := 7) (tgt := 23) dX12_put_4 (by decide) rfl (by unfold fp_rng; omega) (fun h4 => ?_) (fun h4 => ?_)
        · exfalso; omega
        · refine S.aload_n (pc' := 8) dX12_put_7 rfl rfl rfl ?_
          refine S.iload_n (pc' := 9) dX12_put_8 rfl rfl rfl ?_
          refine S.callVi (pc' := 12) dX12_put_9 rfl cX12_205 (bk_X12_isThing) rfl L_177 (by decide) rfl (Nat.le_of_ble_eq_true rfl) (fun z9 M9 q9 => ?_)
          obtain ⟨b9, rfl⟩ := q9
          refine S.if_eq (pc' := 15) (tgt := 23) dX12_put_12 (by decide) rfl (by unfold fp_rng; omega) (fun h12 => ?_) (fun h12 => ?_)
          · exfalso; omega
          · refine S.aload_n (pc' := 16) dX12_put_15 rfl rfl rfl ?_
            refine S.iload_n (pc' := 17) dX12_put_16 rfl rfl rfl ?_
            refine S.callVi (pc' := 20) dX12_put_17 rfl cX12_219 (bk_X12_isLine) rfl L_177 (by decide) rfl (Nat.le_of_ble_eq_true rfl) (fun z17 M17 q17 => ?_)
            obtain ⟨b17, rfl⟩ := q17
            refine S.if_ne (pc' := 23) (tgt := 25) dX12_put_20 (by decide) rfl (by unfold fp_rng; omega) (fun h20 => ?_) (fun h20 => ?_)
            · refine S.aload_n (pc' := 26) dX12_put_25 rfl rfl rfl ?_
              refine S.getR (pc' := 29) dX12_put_26 rfl fX12_7 L_177 rf_177_0 ?_
              refine S.iload_n (pc' := 30) dX12_put_29 rfl rfl rfl ?_
              refine S.iald (pc' := 31) dX12_put_30 rfl L_178 (by omega) (by omega) ?_
              refine S.iload_n (pc' := 32) dX12_put_31 rfl rfl rfl ?_
              refine S.icmp_eq (pc' := 35) (tgt := 38) dX12_put_32 (by decide) rfl (by unfold fp_rng; omega) (by unfold fp_rng; omega) (fun h32 => ?_) (fun h32 => ?_)
              · refine S.aload_n (pc' := 39) dX12_put_38 rfl rfl rfl ?_
                refine S.iconst (pc' := 40) dX12_put_39 rfl ?_
                refine S.iload_n (pc' := 41) dX12_put_40 rfl rfl rfl ?_
                refine S.iload_n (pc' := 42) dX12_put_41 rfl rfl rfl ?_
                refine S.iload_n (pc' := 43) dX12_put_42 rfl rfl rfl ?_
                refine S.callVi (pc' := 46) dX12_put_43 rfl cX12_244 (rk_X12_puts (g := g) (pg := pg)) rfl L_177 (by decide) rfl (Nat.le_of_ble_eq_true rfl) (fun z43 M43 q43 => ?_)
                rw [ea] at q43
                obtain ⟨z1, c1, f1⟩ := q43
                have n1 := (c1.2.2 x (by omega) (by omega)).1
                dsimp only at n1
                refine S.if_eq (pc' := 49) (tgt := 60) dX12_put_46 (by decide) rfl (by unfold fp_rng; omega) (fun h46 => ?_) (fun h46 => ?_)
                · exfalso; omega
                · refine S.aload_n (pc' := 50) dX12_put_49 rfl rfl rfl ?_
                  refine S.iconst (pc' := 51) dX12_put_50 rfl ?_
                  refine S.iload_n (pc' := 52) dX12_put_51 rfl rfl rfl ?_
                  refine S.callVe (pc' := 55) dX12_put_52 rfl cX12_198 (ok_X12_lie) rfl L_177 (by decide) rfl (Nat.le_of_ble_eq_true rfl) ?_
                  refine S.iconst (pc' := 56) dX12_put_55 rfl ?_
                  refine S.isub (pc' := 57) dX12_put_56 rfl ?_
                  refine S.goto (pc' := 62) dX12_put_57 (by decide) ?_
                  refine S.iret dX12_put_62 rfl ?_
                  exact ⟨by omega, hcs.page hio hg f1 c1, f1.d⟩
              · exfalso; omega
            · exfalso; omega
      · rw [if_neg l8]
        have ea : aApp pg p t x = (0, pg) := by unfold aApp; rw [if_neg (fun q => l8 q.2)]
        refine S.iload_n (pc' := 1) dX12_put_0 rfl rfl rfl ?_
        refine S.callSi (pc' := 4) dX12_put_1 rfl cX12_228 (bk_X12_isOne) rfl (by decide) rfl (Nat.le_of_ble_eq_true rfl) (fun z1 M1 q1 => ?_)
        obtain ⟨b1, rfl⟩ := q1
        refine S.if_eq (pc' := 7) (tgt := 23) dX12_put_4 (by decide) rfl (by unfold fp_rng; omega) (fun h4 => ?_) (fun h4 => ?_)
        · exfalso; omega
        · refine S.aload_n (pc' := 8) dX12_put_7 rfl rfl rfl ?_
          refine S.iload_n (pc' := 9) dX12_put_8 rfl rfl rfl ?_
          refine S.callVi (pc' := 12) dX12_put_9 rfl cX12_205 (bk_X12_isThing) rfl L_177 (by decide) rfl (Nat.le_of_ble_eq_true rfl) (fun z9 M9 q9 => ?_)
          obtain ⟨b9, rfl⟩ := q9
          refine S.if_eq (pc' := 15) (tgt := 23) dX12_put_12 (by decide) rfl (by unfold fp_rng; omega) (fun h12 => ?_) (fun h12 => ?_)
          · exfalso; omega
          · refine S.aload_n (pc' := 16) dX12_put_15 rfl rfl rfl ?_
            refine S.iload_n (pc' := 17) dX12_put_16 rfl rfl rfl ?_
            refine S.callVi (pc' := 20) dX12_put_17 rfl cX12_219 (bk_X12_isLine) rfl L_177 (by decide) rfl (Nat.le_of_ble_eq_true rfl) (fun z17 M17 q17 => ?_)
            obtain ⟨b17, rfl⟩ := q17
            refine S.if_ne (pc' := 23) (tgt := 25) dX12_put_20 (by decide) rfl (by unfold fp_rng; omega) (fun h20 => ?_) (fun h20 => ?_)
            · refine S.aload_n (pc' := 26) dX12_put_25 rfl rfl rfl ?_
              refine S.getR (pc' := 29) dX12_put_26 rfl fX12_7 L_177 rf_177_0 ?_
              refine S.iload_n (pc' := 30) dX12_put_29 rfl rfl rfl ?_
              refine S.iald (pc' := 31) dX12_put_30 rfl L_178 (by omega) (by omega) ?_
              refine S.iload_n (pc' := 32) dX12_put_31 rfl rfl rfl ?_
              refine S.icmp_eq (pc' := 35) (tgt := 38) dX12_put_32 (by decide) rfl (by unfold fp_rng; omega) (by unfold fp_rng; omega) (fun h32 => ?_) (fun h32 => ?_)
              · refine S.aload_n (pc' := 39) dX12_put_38 rfl rfl rfl ?_
                refine S.iconst (pc' := 40) dX12_put_39 rfl ?_
                refine S.iload_n (pc' := 41) dX12_put_40 rfl rfl rfl ?_
                refine S.iload_n (pc' := 42) dX12_put_41 rfl rfl rfl ?_
                refine S.iload_n (pc' := 43) dX12_put_42 rfl rfl rfl ?_
                refine S.callVi (pc' := 46) dX12_put_43 rfl cX12_244 (rk_X12_puts (g := g) (pg := pg)) rfl L_177 (by decide) rfl (Nat.le_of_ble_eq_true rfl) (fun z43 M43 q43 => ?_)
                rw [ea] at q43
                obtain ⟨z1, c1, f1⟩ := q43
                refine S.if_eq (pc' := 49) (tgt := 60) dX12_put_46 (by decide) rfl (by unfold fp_rng; omega) (fun h46 => ?_) (fun h46 => ?_)
                · refine S.bipush (pc' := 62) dX12_put_60 rfl (by decide) ?_
                  refine S.iret dX12_put_62 rfl ?_
                  exact ⟨rfl, hcs.page hio hg f1 c1, f1.d⟩
                · exfalso; omega
              · exfalso; omega
            · exfalso; omega
    · rw [if_pos hpt]
      refine S.iload_n (pc' := 1) dX12_put_0 rfl rfl rfl ?_
      refine S.callSi (pc' := 4) dX12_put_1 rfl cX12_228 (bk_X12_isOne) rfl (by decide) rfl (Nat.le_of_ble_eq_true rfl) (fun z1 M1 q1 => ?_)
      obtain ⟨b1, rfl⟩ := q1
      refine S.if_eq (pc' := 7) (tgt := 23) dX12_put_4 (by decide) rfl (by unfold fp_rng; omega) (fun h4 => ?_) (fun h4 => ?_)
      · exfalso; omega
      · refine S.aload_n (pc' := 8) dX12_put_7 rfl rfl rfl ?_
        refine S.iload_n (pc' := 9) dX12_put_8 rfl rfl rfl ?_
        refine S.callVi (pc' := 12) dX12_put_9 rfl cX12_205 (bk_X12_isThing) rfl L_177 (by decide) rfl (Nat.le_of_ble_eq_true rfl) (fun z9 M9 q9 => ?_)
        obtain ⟨b9, rfl⟩ := q9
        refine S.if_eq (pc' := 15) (tgt := 23) dX12_put_12 (by decide) rfl (by unfold fp_rng; omega) (fun h12 => ?_) (fun h12 => ?_)
        · exfalso; omega
        · refine S.aload_n (pc' := 16) dX12_put_15 rfl rfl rfl ?_
          refine S.iload_n (pc' := 17) dX12_put_16 rfl rfl rfl ?_
          refine S.callVi (pc' := 20) dX12_put_17 rfl cX12_219 (bk_X12_isLine) rfl L_177 (by decide) rfl (Nat.le_of_ble_eq_true rfl) (fun z17 M17 q17 => ?_)
          obtain ⟨b17, rfl⟩ := q17
          refine S.if_ne (pc' := 23) (tgt := 25) dX12_put_20 (by decide) rfl (by unfold fp_rng; omega) (fun h20 => ?_) (fun h20 => ?_)
          · refine S.aload_n (pc' := 26) dX12_put_25 rfl rfl rfl ?_
            refine S.getR (pc' := 29) dX12_put_26 rfl fX12_7 L_177 rf_177_0 ?_
            refine S.iload_n (pc' := 30) dX12_put_29 rfl rfl rfl ?_
            refine S.iald (pc' := 31) dX12_put_30 rfl L_178 (by omega) (by omega) ?_
            refine S.iload_n (pc' := 32) dX12_put_31 rfl rfl rfl ?_
            refine S.icmp_eq (pc' := 35) (tgt := 38) dX12_put_32 (by decide) rfl (by unfold fp_rng; omega) (by unfold fp_rng; omega) (fun h32 => ?_) (fun h32 => ?_)
            · exfalso; omega
            · refine S.bipush (pc' := 37) dX12_put_35 rfl (by decide) ?_
              refine S.iret dX12_put_37 rfl ?_
              exact ⟨rfl, hcs, frD.refl _⟩
          · exfalso; omega
  · rw [if_pos hin]
    refine S.iload_n (pc' := 1) dX12_put_0 rfl rfl rfl ?_
    refine S.callSi (pc' := 4) dX12_put_1 rfl cX12_228 (bk_X12_isOne) rfl (by decide) rfl (Nat.le_of_ble_eq_true rfl) (fun z1 M1 q1 => ?_)
    obtain ⟨b1, rfl⟩ := q1
    refine S.if_eq (pc' := 7) (tgt := 23) dX12_put_4 (by decide) rfl (by unfold fp_rng; omega) (fun h4 => ?_) (fun h4 => ?_)
    · refine S.iconst (pc' := 24) dX12_put_23 rfl ?_
      refine S.iret dX12_put_24 rfl ?_
      exact ⟨rfl, hcs, frD.refl _⟩
    · refine S.aload_n (pc' := 8) dX12_put_7 rfl rfl rfl ?_
      refine S.iload_n (pc' := 9) dX12_put_8 rfl rfl rfl ?_
      refine S.callVi (pc' := 12) dX12_put_9 rfl cX12_205 (bk_X12_isThing) rfl L_177 (by decide) rfl (Nat.le_of_ble_eq_true rfl) (fun z9 M9 q9 => ?_)
      obtain ⟨b9, rfl⟩ := q9
      refine S.if_eq (pc' := 15) (tgt := 23) dX12_put_12 (by decide) rfl (by unfold fp_rng; omega) (fun h12 => ?_) (fun h12 => ?_)
      · refine S.iconst (pc' := 24) dX12_put_23 rfl ?_
        refine S.iret dX12_put_24 rfl ?_
        exact ⟨rfl, hcs, frD.refl _⟩
      · refine S.aload_n (pc' := 16) dX12_put_15 rfl rfl rfl ?_
        refine S.iload_n (pc' := 17) dX12_put_16 rfl rfl rfl ?_
        refine S.callVi (pc' := 20) dX12_put_17 rfl cX12_219 (bk_X12_isLine) rfl L_177 (by decide) rfl (Nat.le_of_ble_eq_true rfl) (fun z17 M17 q17 => ?_)
        obtain ⟨b17, rfl⟩ := q17
        refine S.if_ne (pc' := 23) (tgt := 25) dX12_put_20 (by decide) rfl (by unfold fp_rng; omega) (fun h20 => ?_) (fun h20 => ?_)
        · exfalso; omega
        · refine S.iconst (pc' := 24) dX12_put_23 rfl ?_
          refine S.iret dX12_put_24 rfl ?_
          exact ⟨rfl, hcs, frD.refl _⟩
theorem cc_draw {p x : Int} (hc : CS M tp fl g pg vs nt im sh tn) (ho : OK g pg vs nt im sh) (hp : fp_rng p) (hx : fp_rng x) : fp_Ok l G 2 kX11_draw [rV G 0, iV p, iV x] M (qI fun z N => z = (A_draw g pg p x).1 ∧ CS N tp fl g (A_draw g pg p x).2 vs nt im sh tn ∧ frC M N) := by
  have hcs := hc
  obtain ⟨-, hd, hcl, -⟩ := hc
  obtain ⟨hg, hP, -⟩ := ho
  have hg2 := hg.2.1
  refine fp_Ok.of (r := 0) rfl (Nat.le_of_ble_eq_true rfl) rfl ?_
  unfold A_draw
  by_cases hin : (0 ≤ p ∧ p < 4) ∧ (0 ≤ x ∧ x < g.2.1)
  · rw [if_neg (fun q => q hin)]
    refine S.iload_n (pc' := 1) dX11_draw_0 rfl rfl rfl ?_
    refine S.callSi (pc' := 4) dX11_draw_1 rfl cX11_181 (bk_X11_isOne) rfl (by decide) rfl (Nat.le_of_ble_eq_true rfl) (fun z1 M1 q1 => ?_)
    obtain ⟨b1, rfl⟩ := q1
    refine S.if_eq (pc' := 7) (tgt := 18) dX11_draw_4 (by decide) rfl (by unfold fp_rng; omega) (fun h4 => ?_) (fun h4 => ?_)
    · exfalso; omega
    · refine S.aload_n (pc' := 8) dX11_draw_7 rfl rfl rfl ?_
      refine S.getR (pc' := 11) dX11_draw_8 rfl fX11_23 L_0 rf_0_3 ?_
      refine S.iload_n (pc' := 12) dX11_draw_11 rfl rfl rfl ?_
      refine S.callVi (pc' := 15) dX11_draw_12 rfl cX11_148 (bk_X1_hasLine gd18) rfl (gd_lay gd18) (by decide) rfl (Nat.le_of_ble_eq_true rfl) (fun z12 M12 q12 => ?_)
      obtain ⟨b12, rfl⟩ := q12
      refine S.if_ne (pc' := 18) (tgt := 20) dX11_draw_15 (by decide) rfl (by unfold fp_rng; omega) (fun h15 => ?_) (fun h15 => ?_)
      · refine S.aload_n (pc' := 21) dX11_draw_20 rfl rfl rfl ?_
        refine S.getR (pc' := 24) dX11_draw_21 rfl fX11_30 L_0 rf_0_4 ?_
        refine S.aload_n (pc' := 25) dX11_draw_24 rfl rfl rfl ?_
        refine S.getR (pc' := 28) dX11_draw_25 rfl fX11_23 L_0 rf_0_3 ?_
        refine S.iload_n (pc' := 29) dX11_draw_28 rfl rfl rfl ?_
        refine S.iload_n (pc' := 30) dX11_draw_29 rfl rfl rfl ?_
        refine S.callVi (pc' := 33) dX11_draw_30 rfl cX11_194 (rk_X5_giveTo (g := g) (pg := pg) pl22 gd18) rfl (pl_lay pl22) (by decide) rfl (Nat.le_of_ble_eq_true rfl) (fun z30 M30 q30 => ?_)
        obtain ⟨z1, c1, f1⟩ := q30
        refine S.iret dX11_draw_33 rfl ?_
        exact ⟨z1, hcs.page f1 c1, f1.c (by decide)⟩
      · exfalso; omega
  · rw [if_pos hin]
    refine S.iload_n (pc' := 1) dX11_draw_0 rfl rfl rfl ?_
    refine S.callSi (pc' := 4) dX11_draw_1 rfl cX11_181 (bk_X11_isOne) rfl (by decide) rfl (Nat.le_of_ble_eq_true rfl) (fun z1 M1 q1 => ?_)
    obtain ⟨b1, rfl⟩ := q1
    refine S.if_eq (pc' := 7) (tgt := 18) dX11_draw_4 (by decide) rfl (by unfold fp_rng; omega) (fun h4 => ?_) (fun h4 => ?_)
    · refine S.iconst (pc' := 19) dX11_draw_18 rfl ?_
      refine S.iret dX11_draw_19 rfl ?_
      exact ⟨rfl, hcs, frC.refl _⟩
    · refine S.aload_n (pc' := 8) dX11_draw_7 rfl rfl rfl ?_
      refine S.getR (pc' := 11) dX11_draw_8 rfl fX11_23 L_0 rf_0_3 ?_
      refine S.iload_n (pc' := 12) dX11_draw_11 rfl rfl rfl ?_
      refine S.callVi (pc' := 15) dX11_draw_12 rfl cX11_148 (bk_X1_hasLine gd18) rfl (gd_lay gd18) (by decide) rfl (Nat.le_of_ble_eq_true rfl) (fun z12 M12 q12 => ?_)
      obtain ⟨b12, rfl⟩ := q12
      refine S.if_ne (pc' := 18) (tgt := 20) dX11_draw_15 (by decide) rfl (by unfold fp_rng; omega) (fun h15 => ?_) (fun h15 => ?_)
      · exfalso; omega
      · refine S.iconst (pc' := 19) dX11_draw_18 rfl ?_
        refine S.iret dX11_draw_19 rfl ?_
        exact ⟨rfl, hcs, frC.refl _⟩
theorem mm_draw {p x : Int} (hc : MS M tp fl g pg vs nt im sh tn) (ho : OK g pg vs nt im sh) (hp : fp_rng p) (hx : fp_rng x) : fp_Ok l G 3 kX12_draw [rV G 177, iV p, iV x] M (qI fun z N => z = (A_draw g pg p x).1 ∧ MS N tp fl g (A_draw g pg p x).2 vs nt im sh tn ∧ frD M N) := by
  have hcs := hc
  obtain ⟨-, hd, hcl, -⟩ := hc
  obtain ⟨hg, hP, -, -, hio, -⟩ := ho
  have hg2 := hg.2.1
  refine fp_Ok.of (r := 0) rfl (Nat.le_of_ble_eq_true rfl) rfl ?_
  unfold A_draw
  by_cases hin : (0 ≤ p ∧ p < 4) ∧ (0 ≤ x ∧ x < g.2.1)
  · rw [if_neg (fun q => q hin)]
    refine S.iload_n (pc' := 1) dX12_draw_0 rfl rfl rfl ?_
    refine S.callSi (pc' := 4) dX12_draw_1 rfl cX12_228 (bk_X12_isOne) rfl (by decide) rfl (Nat.le_of_ble_eq_true rfl) (fun z1 M1 q1 => ?_)
    obtain ⟨b1, rfl⟩ := q1
    refine S.if_eq (pc' := 7) (tgt := 25) dX12_draw_4 (by decide) rfl (by unfold fp_rng; omega) (fun h4 => ?_) (fun h4 => ?_)
    · exfalso; omega
    · refine S.aload_n (pc' := 8) dX12_draw_7 rfl rfl rfl ?_
      refine S.iload_n (pc' := 9) dX12_draw_8 rfl rfl rfl ?_
      refine S.callVi (pc' := 12) dX12_draw_9 rfl cX12_219 (bk_X12_isLine) rfl L_177 (by decide) rfl (Nat.le_of_ble_eq_true rfl) (fun z9 M9 q9 => ?_)
      obtain ⟨b9, rfl⟩ := q9
      refine S.if_eq (pc' := 15) (tgt := 25) dX12_draw_12 (by decide) rfl (by unfold fp_rng; omega) (fun h12 => ?_) (fun h12 => ?_)
      · exfalso; omega
      · refine S.aload_n (pc' := 16) dX12_draw_15 rfl rfl rfl ?_
        refine S.iconst (pc' := 17) dX12_draw_16 rfl ?_
        refine S.iload_n (pc' := 18) dX12_draw_17 rfl rfl rfl ?_
        refine S.iload_n (pc' := 19) dX12_draw_18 rfl rfl rfl ?_
        refine S.callVi (pc' := 22) dX12_draw_19 rfl cX12_248 (rk_X12_draws (g := g) (pg := pg)) rfl L_177 (by decide) rfl (Nat.le_of_ble_eq_true rfl) (fun z19 M19 q19 => ?_)
        obtain ⟨z1, c1, f1⟩ := q19
        refine S.goto (pc' := 26) dX12_draw_22 (by decide) ?_
        refine S.iret dX12_draw_26 rfl ?_
        exact ⟨z1, hcs.page hio hg f1 c1, f1.d⟩
  · rw [if_pos hin]
    refine S.iload_n (pc' := 1) dX12_draw_0 rfl rfl rfl ?_
    refine S.callSi (pc' := 4) dX12_draw_1 rfl cX12_228 (bk_X12_isOne) rfl (by decide) rfl (Nat.le_of_ble_eq_true rfl) (fun z1 M1 q1 => ?_)
    obtain ⟨b1, rfl⟩ := q1
    refine S.if_eq (pc' := 7) (tgt := 25) dX12_draw_4 (by decide) rfl (by unfold fp_rng; omega) (fun h4 => ?_) (fun h4 => ?_)
    · refine S.iconst (pc' := 26) dX12_draw_25 rfl ?_
      refine S.iret dX12_draw_26 rfl ?_
      exact ⟨rfl, hcs, frD.refl _⟩
    · refine S.aload_n (pc' := 8) dX12_draw_7 rfl rfl rfl ?_
      refine S.iload_n (pc' := 9) dX12_draw_8 rfl rfl rfl ?_
      refine S.callVi (pc' := 12) dX12_draw_9 rfl cX12_219 (bk_X12_isLine) rfl L_177 (by decide) rfl (Nat.le_of_ble_eq_true rfl) (fun z9 M9 q9 => ?_)
      obtain ⟨b9, rfl⟩ := q9
      refine S.if_eq (pc' := 15) (tgt := 25) dX12_draw_12 (by decide) rfl (by unfold fp_rng; omega) (fun h12 => ?_) (fun h12 => ?_)
      · refine S.iconst (pc' := 26) dX12_draw_25 rfl ?_
        refine S.iret dX12_draw_26 rfl ?_
        exact ⟨rfl, hcs, frD.refl _⟩
      · exfalso; omega
theorem cc_slip {t x i : Int} (hc : CS M tp fl g pg vs nt im sh tn) (ho : OK g pg vs nt im sh) (ht : fp_rng t) (hx : fp_rng x) (hi : fp_rng i) : fp_Ok l G 1 kX11_slip [rV G 0, iV t, iV x, iV i] M (qI fun z N => z = (A_slip g pg t x i).1 ∧ CS N tp fl g (A_slip g pg t x i).2 vs nt im sh tn ∧ frC M N) := by
  have hcs := hc
  obtain ⟨-, hd, hcl, -⟩ := hc
  obtain ⟨hg, hP, -⟩ := ho
  have hg1 := hg.1
  have hg2 := hg.2.1
  refine fp_Ok.of (r := 0) rfl (Nat.le_of_ble_eq_true rfl) rfl ?_
  unfold A_slip
  by_cases hin : (0 ≤ t ∧ t < g.1) ∧ (0 ≤ x ∧ x < g.2.1) ∧ (0 ≤ i ∧ i ≤ (pg.2.2 x).length)
  · rw [if_neg (fun q => q hin)]
    have hwt := hcl.1 t hin.1.1 hin.1.2
    have hwo := hP.1 t hin.1.1 hin.1.2
    obtain ⟨n1, n2, n3⟩ := hcl.line hP hin.2.1 hg
    by_cases hpt : 10 ≤ pg.1 t
    · rw [if_pos hpt]
      refine S.aload_n (pc' := 1) dX11_slip_0 rfl rfl rfl ?_
      refine S.getR (pc' := 4) dX11_slip_1 rfl fX11_23 L_0 rf_0_3 ?_
      refine S.iload_n (pc' := 5) dX11_slip_4 rfl rfl rfl ?_
      refine S.callVi (pc' := 8) dX11_slip_5 rfl cX11_126 (bk_X1_hasThing gd18) rfl (gd_lay gd18) (by decide) rfl (Nat.le_of_ble_eq_true rfl) (fun z5 M5 q5 => ?_)
      obtain ⟨b5, rfl⟩ := q5
      refine S.if_eq (pc' := 11) (tgt := 39) dX11_slip_8 (by decide) rfl (by unfold fp_rng; omega) (fun h8 => ?_) (fun h8 => ?_)
      · exfalso; omega
      · refine S.aload_n (pc' := 12) dX11_slip_11 rfl rfl rfl ?_
        refine S.getR (pc' := 15) dX11_slip_12 rfl fX11_23 L_0 rf_0_3 ?_
        refine S.iload_n (pc' := 16) dX11_slip_15 rfl rfl rfl ?_
        refine S.callVi (pc' := 19) dX11_slip_16 rfl cX11_148 (bk_X1_hasLine gd18) rfl (gd_lay gd18) (by decide) rfl (Nat.le_of_ble_eq_true rfl) (fun z16 M16 q16 => ?_)
        obtain ⟨b16, rfl⟩ := q16
        refine S.if_eq (pc' := 22) (tgt := 39) dX11_slip_19 (by decide) rfl (by unfold fp_rng; omega) (fun h19 => ?_) (fun h19 => ?_)
        · exfalso; omega
        · refine S.iload_n (pc' := 23) dX11_slip_22 rfl rfl rfl ?_
          refine S.if_lt (pc' := 26) (tgt := 39) dX11_slip_23 (by decide) rfl (by unfold fp_rng; omega) (fun h23 => ?_) (fun h23 => ?_)
          · exfalso; omega
          · refine S.iload_n (pc' := 27) dX11_slip_26 rfl rfl rfl ?_
            refine S.aload_n (pc' := 28) dX11_slip_27 rfl rfl rfl ?_
            refine S.getR (pc' := 31) dX11_slip_28 rfl fX11_30 L_0 rf_0_4 ?_
            refine S.getR (pc' := 34) dX11_slip_31 rfl fX11_151 (pl_lay pl22) (pl_r2 pl22) ?_
            refine S.iload_n (pc' := 35) dX11_slip_34 rfl rfl rfl ?_
            refine S.iald (pc' := 36) dX11_slip_35 rfl (pl_a2 pl22) (by omega) (by omega) ?_
            refine S.icmp_le (pc' := 39) (tgt := 41) dX11_slip_36 (by decide) rfl (by unfold fp_rng; omega) (by unfold fp_rng; omega) (fun h36 => ?_) (fun h36 => ?_)
            · refine S.aload_n (pc' := 42) dX11_slip_41 rfl rfl rfl ?_
              refine S.getR (pc' := 45) dX11_slip_42 rfl fX11_30 L_0 rf_0_4 ?_
              refine S.getR (pc' := 48) dX11_slip_45 rfl fX11_138 (pl_lay pl22) (pl_r0 pl22) ?_
              refine S.iload_n (pc' := 49) dX11_slip_48 rfl rfl rfl ?_
              refine S.iald (pc' := 50) dX11_slip_49 rfl (pl_a0 pl22) (by omega) (by omega) ?_
              refine S.callSi (pc' := 53) dX11_slip_50 rfl cX11_181 (bk_X11_isOne) rfl (by decide) rfl (Nat.le_of_ble_eq_true rfl) (fun z50 M50 q50 => ?_)
              obtain ⟨b50, rfl⟩ := q50
              refine S.if_ne (pc' := 56) (tgt := 59) dX11_slip_53 (by decide) rfl (by unfold fp_rng; omega) (fun h53 => ?_) (fun h53 => ?_)
              · exfalso; omega
              · refine S.bipush (pc' := 58) dX11_slip_56 rfl (by decide) ?_
                refine S.iret dX11_slip_58 rfl ?_
                exact ⟨rfl, hcs, frC.refl _⟩
            · exfalso; omega
    · rw [if_neg hpt]
      by_cases l8 : 8 ≤ (pg.2.2 x).length
      · rw [if_pos l8]
        refine S.aload_n (pc' := 1) dX11_slip_0 rfl rfl rfl ?_
        refine S.getR (pc' := 4) dX11_slip_1 rfl fX11_23 L_0 rf_0_3 ?_
        refine S.iload_n (pc' := 5) dX11_slip_4 rfl rfl rfl ?_
        refine S.callVi (pc' := 8) dX11_slip_5 rfl cX11_126 (bk_X1_hasThing gd18) rfl (gd_lay gd18) (by decide) rfl (Nat.le_of_ble_eq_true rfl) (fun z5 M5 q5 => ?_)
        obtain ⟨b5, rfl⟩ := q5
        refine S.if_eq (pc' := 11) (tgt := 39) dX11_slip_8 (by decide) rfl (by unfold fp_rng; omega) (fun h8 => ?_) (fun h8 => ?_)
        · exfalso; omega
        · refine S.aload_n (pc' := 12) dX11_slip_11 rfl rfl rfl ?_
          refine S.getR (pc' := 15) dX11_slip_12 rfl fX11_23 L_0 rf_0_3 ?_
          refine S.iload_n (pc' := 16) dX11_slip_15 rfl rfl rfl ?_
          refine S.callVi (pc' := 19) dX11_slip_16 rfl cX11_148 (bk_X1_hasLine gd18) rfl (gd_lay gd18) (by decide) rfl (Nat.le_of_ble_eq_true rfl) (fun z16 M16 q16 => ?_)
          obtain ⟨b16, rfl⟩ := q16
          refine S.if_eq (pc' := 22) (tgt := 39) dX11_slip_19 (by decide) rfl (by unfold fp_rng; omega) (fun h19 => ?_) (fun h19 => ?_)
          · exfalso; omega
          · refine S.iload_n (pc' := 23) dX11_slip_22 rfl rfl rfl ?_
            refine S.if_lt (pc' := 26) (tgt := 39) dX11_slip_23 (by decide) rfl (by unfold fp_rng; omega) (fun h23 => ?_) (fun h23 => ?_)
            · exfalso; omega
            · refine S.iload_n (pc' := 27) dX11_slip_26 rfl rfl rfl ?_
              refine S.aload_n (pc' := 28) dX11_slip_27 rfl rfl rfl ?_
              refine S.getR (pc' := 31) dX11_slip_28 rfl fX11_30 L_0 rf_0_4 ?_
              refine S.getR (pc' := 34) dX11_slip_31 rfl fX11_151 (pl_lay pl22) (pl_r2 pl22) ?_
              refine S.iload_n (pc' := 35) dX11_slip_34 rfl rfl rfl ?_
              refine S.iald (pc' := 36) dX11_slip_35 rfl (pl_a2 pl22) (by omega) (by omega) ?_
              refine S.icmp_le (pc' := 39) (tgt := 41) dX11_slip_36 (by decide) rfl (by unfold fp_rng; omega) (by unfold fp_rng; omega) (fun h36 => ?_) (fun h36 => ?_)
              · refine S.aload_n (pc' := 42) dX11_slip_41 rfl rfl rfl ?_
                refine S.getR (pc' := 45) dX11_slip_42 rfl fX11_30 L_0 rf_0_4 ?_
                refine S.getR (pc' := 48) dX11_slip_45 rfl fX11_138 (pl_lay pl22) (pl_r0 pl22) ?_
                refine S.iload_n (pc' := 49) dX11_slip_48 rfl rfl rfl ?_
                refine S.iald (pc' := 50) dX11_slip_49 rfl (pl_a0 pl22) (by omega) (by omega) ?_
                refine S.callSi (pc' := 53) dX11_slip_50 rfl cX11_181 (bk_X11_isOne) rfl (by decide) rfl (Nat.le_of_ble_eq_true rfl) (fun z50 M50 q50 => ?_)
                obtain ⟨b50, rfl⟩ := q50
                refine S.if_ne (pc' := 56) (tgt := 59) dX11_slip_53 (by decide) rfl (by unfold fp_rng; omega) (fun h53 => ?_) (fun h53 => ?_)
                · refine S.aload_n (pc' := 60) dX11_slip_59 rfl rfl rfl ?_
                  refine S.getR (pc' := 63) dX11_slip_60 rfl fX11_30 L_0 rf_0_4 ?_
                  refine S.iload_n (pc' := 64) dX11_slip_63 rfl rfl rfl ?_
                  refine S.iload_n (pc' := 65) dX11_slip_64 rfl rfl rfl ?_
                  refine S.iload_n (pc' := 66) dX11_slip_65 rfl rfl rfl ?_
                  refine S.callVi (pc' := 69) dX11_slip_66 rfl cX11_198 (rk_X5_insert (g := g) (pg := pg) pl22) rfl (pl_lay pl22) (by decide) rfl (Nat.le_of_ble_eq_true rfl) (fun z66 M66 q66 => ?_)
                  rw [if_pos l8, if_pos l8] at q66
                  obtain ⟨z1, c1, f1⟩ := q66
                  refine S.if_eq (pc' := 72) (tgt := 84) dX11_slip_69 (by decide) rfl (by unfold fp_rng; omega) (fun h69 => ?_) (fun h69 => ?_)
                  · refine S.bipush (pc' := 86) dX11_slip_84 rfl (by decide) ?_
                    refine S.iret dX11_slip_86 rfl ?_
                    exact ⟨rfl, hcs.page f1 c1, f1.c (by decide)⟩
                  · exfalso; omega
                · exfalso; omega
              · exfalso; omega
      · rw [if_neg l8]
        have hl : ((aIns pg t x i.toNat).2.2 x).length = (pg.2.2 x).length + 1 := by
          show List.length (fp_ui pg.2.2 x _ x) = _
          rw [fp_ui_at, List.length_insertIdx_of_le_length (by omega)]
        refine S.aload_n (pc' := 1) dX11_slip_0 rfl rfl rfl ?_
        refine S.getR (pc' := 4) dX11_slip_1 rfl fX11_23 L_0 rf_0_3 ?_
        refine S.iload_n (pc' := 5) dX11_slip_4 rfl rfl rfl ?_
        refine S.callVi (pc' := 8) dX11_slip_5 rfl cX11_126 (bk_X1_hasThing gd18) rfl (gd_lay gd18) (by decide) rfl (Nat.le_of_ble_eq_true rfl) (fun z5 M5 q5 => ?_)
        obtain ⟨b5, rfl⟩ := q5
        refine S.if_eq (pc' := 11) (tgt := 39) dX11_slip_8 (by decide) rfl (by unfold fp_rng; omega) (fun h8 => ?_) (fun h8 => ?_)
        · exfalso; omega
        · refine S.aload_n (pc' := 12) dX11_slip_11 rfl rfl rfl ?_
          refine S.getR (pc' := 15) dX11_slip_12 rfl fX11_23 L_0 rf_0_3 ?_
          refine S.iload_n (pc' := 16) dX11_slip_15 rfl rfl rfl ?_
          refine S.callVi (pc' := 19) dX11_slip_16 rfl cX11_148 (bk_X1_hasLine gd18) rfl (gd_lay gd18) (by decide) rfl (Nat.le_of_ble_eq_true rfl) (fun z16 M16 q16 => ?_)
          obtain ⟨b16, rfl⟩ := q16
          refine S.if_eq (pc' := 22) (tgt := 39) dX11_slip_19 (by decide) rfl (by unfold fp_rng; omega) (fun h19 => ?_) (fun h19 => ?_)
          · exfalso; omega
          · refine S.iload_n (pc' := 23) dX11_slip_22 rfl rfl rfl ?_
            refine S.if_lt (pc' := 26) (tgt := 39) dX11_slip_23 (by decide) rfl (by unfold fp_rng; omega) (fun h23 => ?_) (fun h23 => ?_)
            · exfalso; omega
            · refine S.iload_n (pc' := 27) dX11_slip_26 rfl rfl rfl ?_
              refine S.aload_n (pc' := 28) dX11_slip_27 rfl rfl rfl ?_
              refine S.getR (pc' := 31) dX11_slip_28 rfl fX11_30 L_0 rf_0_4 ?_
              refine S.getR (pc' := 34) dX11_slip_31 rfl fX11_151 (pl_lay pl22) (pl_r2 pl22) ?_
              refine S.iload_n (pc' := 35) dX11_slip_34 rfl rfl rfl ?_
              refine S.iald (pc' := 36) dX11_slip_35 rfl (pl_a2 pl22) (by omega) (by omega) ?_
              refine S.icmp_le (pc' := 39) (tgt := 41) dX11_slip_36 (by decide) rfl (by unfold fp_rng; omega) (by unfold fp_rng; omega) (fun h36 => ?_) (fun h36 => ?_)
              · refine S.aload_n (pc' := 42) dX11_slip_41 rfl rfl rfl ?_
                refine S.getR (pc' := 45) dX11_slip_42 rfl fX11_30 L_0 rf_0_4 ?_
                refine S.getR (pc' := 48) dX11_slip_45 rfl fX11_138 (pl_lay pl22) (pl_r0 pl22) ?_
                refine S.iload_n (pc' := 49) dX11_slip_48 rfl rfl rfl ?_
                refine S.iald (pc' := 50) dX11_slip_49 rfl (pl_a0 pl22) (by omega) (by omega) ?_
                refine S.callSi (pc' := 53) dX11_slip_50 rfl cX11_181 (bk_X11_isOne) rfl (by decide) rfl (Nat.le_of_ble_eq_true rfl) (fun z50 M50 q50 => ?_)
                obtain ⟨b50, rfl⟩ := q50
                refine S.if_ne (pc' := 56) (tgt := 59) dX11_slip_53 (by decide) rfl (by unfold fp_rng; omega) (fun h53 => ?_) (fun h53 => ?_)
                · refine S.aload_n (pc' := 60) dX11_slip_59 rfl rfl rfl ?_
                  refine S.getR (pc' := 63) dX11_slip_60 rfl fX11_30 L_0 rf_0_4 ?_
                  refine S.iload_n (pc' := 64) dX11_slip_63 rfl rfl rfl ?_
                  refine S.iload_n (pc' := 65) dX11_slip_64 rfl rfl rfl ?_
                  refine S.iload_n (pc' := 66) dX11_slip_65 rfl rfl rfl ?_
                  refine S.callVi (pc' := 69) dX11_slip_66 rfl cX11_198 (rk_X5_insert (g := g) (pg := pg) pl22) rfl (pl_lay pl22) (by decide) rfl (Nat.le_of_ble_eq_true rfl) (fun z66 M66 q66 => ?_)
                  rw [if_neg l8, if_neg l8] at q66
                  obtain ⟨z1, c1, f1⟩ := q66
                  have n4 := (c1.2.2.2.1 x (by omega) (by omega)).1
                  refine S.if_eq (pc' := 72) (tgt := 84) dX11_slip_69 (by decide) rfl (by unfold fp_rng; omega) (fun h69 => ?_) (fun h69 => ?_)
                  · exfalso; omega
                  · refine S.aload_n (pc' := 73) dX11_slip_72 rfl rfl rfl ?_
                    refine S.getR (pc' := 76) dX11_slip_73 rfl fX11_30 L_0 rf_0_4 ?_
                    refine S.getR (pc' := 79) dX11_slip_76 rfl fX11_151 (pl_lay pl22) (pl_r2 pl22) ?_
                    refine S.iload_n (pc' := 80) dX11_slip_79 rfl rfl rfl ?_
                    refine S.iald (pc' := 81) dX11_slip_80 rfl (pl_a2 pl22) (by omega) (by omega) ?_
                    refine S.goto (pc' := 86) dX11_slip_81 (by decide) ?_
                    refine S.iret dX11_slip_86 rfl ?_
                    exact ⟨by omega, hcs.page f1 c1, f1.c (by decide)⟩
                · exfalso; omega
              · exfalso; omega
  · rw [if_pos hin]
    by_cases hx2 : 0 ≤ x ∧ x < g.2.1
    · obtain ⟨n1, n2, n3⟩ := hcl.line hP hx2 hg
      refine S.aload_n (pc' := 1) dX11_slip_0 rfl rfl rfl ?_
      refine S.getR (pc' := 4) dX11_slip_1 rfl fX11_23 L_0 rf_0_3 ?_
      refine S.iload_n (pc' := 5) dX11_slip_4 rfl rfl rfl ?_
      refine S.callVi (pc' := 8) dX11_slip_5 rfl cX11_126 (bk_X1_hasThing gd18) rfl (gd_lay gd18) (by decide) rfl (Nat.le_of_ble_eq_true rfl) (fun z5 M5 q5 => ?_)
      obtain ⟨b5, rfl⟩ := q5
      refine S.if_eq (pc' := 11) (tgt := 39) dX11_slip_8 (by decide) rfl (by unfold fp_rng; omega) (fun h8 => ?_) (fun h8 => ?_)
      · refine S.iconst (pc' := 40) dX11_slip_39 rfl ?_
        refine S.iret dX11_slip_40 rfl ?_
        exact ⟨rfl, hcs, frC.refl _⟩
      · refine S.aload_n (pc' := 12) dX11_slip_11 rfl rfl rfl ?_
        refine S.getR (pc' := 15) dX11_slip_12 rfl fX11_23 L_0 rf_0_3 ?_
        refine S.iload_n (pc' := 16) dX11_slip_15 rfl rfl rfl ?_
        refine S.callVi (pc' := 19) dX11_slip_16 rfl cX11_148 (bk_X1_hasLine gd18) rfl (gd_lay gd18) (by decide) rfl (Nat.le_of_ble_eq_true rfl) (fun z16 M16 q16 => ?_)
        obtain ⟨b16, rfl⟩ := q16
        refine S.if_eq (pc' := 22) (tgt := 39) dX11_slip_19 (by decide) rfl (by unfold fp_rng; omega) (fun h19 => ?_) (fun h19 => ?_)
        · refine S.iconst (pc' := 40) dX11_slip_39 rfl ?_
          refine S.iret dX11_slip_40 rfl ?_
          exact ⟨rfl, hcs, frC.refl _⟩
        · refine S.iload_n (pc' := 23) dX11_slip_22 rfl rfl rfl ?_
          refine S.if_lt (pc' := 26) (tgt := 39) dX11_slip_23 (by decide) rfl hi (fun h23 => ?_) (fun h23 => ?_)
          · refine S.iconst (pc' := 40) dX11_slip_39 rfl ?_
            refine S.iret dX11_slip_40 rfl ?_
            exact ⟨rfl, hcs, frC.refl _⟩
          · refine S.iload_n (pc' := 27) dX11_slip_26 rfl rfl rfl ?_
            refine S.aload_n (pc' := 28) dX11_slip_27 rfl rfl rfl ?_
            refine S.getR (pc' := 31) dX11_slip_28 rfl fX11_30 L_0 rf_0_4 ?_
            refine S.getR (pc' := 34) dX11_slip_31 rfl fX11_151 (pl_lay pl22) (pl_r2 pl22) ?_
            refine S.iload_n (pc' := 35) dX11_slip_34 rfl rfl rfl ?_
            refine S.iald (pc' := 36) dX11_slip_35 rfl (pl_a2 pl22) (by omega) (by omega) ?_
            refine S.icmp_le (pc' := 39) (tgt := 41) dX11_slip_36 (by decide) rfl hi (by unfold fp_rng; omega) (fun h36 => ?_) (fun h36 => ?_)
            · exfalso; omega
            · refine S.iconst (pc' := 40) dX11_slip_39 rfl ?_
              refine S.iret dX11_slip_40 rfl ?_
              exact ⟨rfl, hcs, frC.refl _⟩
    · refine S.aload_n (pc' := 1) dX11_slip_0 rfl rfl rfl ?_
      refine S.getR (pc' := 4) dX11_slip_1 rfl fX11_23 L_0 rf_0_3 ?_
      refine S.iload_n (pc' := 5) dX11_slip_4 rfl rfl rfl ?_
      refine S.callVi (pc' := 8) dX11_slip_5 rfl cX11_126 (bk_X1_hasThing gd18) rfl (gd_lay gd18) (by decide) rfl (Nat.le_of_ble_eq_true rfl) (fun z5 M5 q5 => ?_)
      obtain ⟨b5, rfl⟩ := q5
      refine S.if_eq (pc' := 11) (tgt := 39) dX11_slip_8 (by decide) rfl (by unfold fp_rng; omega) (fun h8 => ?_) (fun h8 => ?_)
      · refine S.iconst (pc' := 40) dX11_slip_39 rfl ?_
        refine S.iret dX11_slip_40 rfl ?_
        exact ⟨rfl, hcs, frC.refl _⟩
      · refine S.aload_n (pc' := 12) dX11_slip_11 rfl rfl rfl ?_
        refine S.getR (pc' := 15) dX11_slip_12 rfl fX11_23 L_0 rf_0_3 ?_
        refine S.iload_n (pc' := 16) dX11_slip_15 rfl rfl rfl ?_
        refine S.callVi (pc' := 19) dX11_slip_16 rfl cX11_148 (bk_X1_hasLine gd18) rfl (gd_lay gd18) (by decide) rfl (Nat.le_of_ble_eq_true rfl) (fun z16 M16 q16 => ?_)
        obtain ⟨b16, rfl⟩ := q16
        refine S.if_eq (pc' := 22) (tgt := 39) dX11_slip_19 (by decide) rfl (by unfold fp_rng; omega) (fun h19 => ?_) (fun h19 => ?_)
        · refine S.iconst (pc' := 40) dX11_slip_39 rfl ?_
          refine S.iret dX11_slip_40 rfl ?_
          exact ⟨rfl, hcs, frC.refl _⟩
        · exfalso; omega
end PUD
end
