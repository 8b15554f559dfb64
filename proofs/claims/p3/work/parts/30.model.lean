/-! THE REFERENCE, outright: in, lie, lies, givesAt, laysIn, takesOut -/
section MDL
variable {l : Launch} {G : fp_WG} {M : fp_Mem}
theorem fp_cmp_lt {a b : Int} : ((if b < a then 1 else if a = b then 0 else -1 : Int) < 0 ↔ a < b) := by (repeat' split) <;> omega
theorem fp_cmp_gt {a b : Int} : (0 < (if b < a then 1 else if a = b then 0 else -1 : Int) ↔ b < a) := by (repeat' split) <;> omega
theorem fp_cmp_rng {a b : Int} : fp_rng (if b < a then 1 else if a = b then 0 else -1 : Int) := by unfold fp_rng; (repeat' split) <;> omega
theorem ok_X12_in {v lo hi : Int} (h1 : fp_lng v := by first | assumption | (unfold fp_lng; omega)) (h2 : fp_lng lo := by first | assumption | (unfold fp_lng; omega)) (h3 : fp_lng hi := by first | assumption | (unfold fp_lng; omega)) : fp_Ok l G 0 kX12_in [jV v, jV lo, jV hi] M (qE (if lo ≤ v ∧ v ≤ hi then 1 else 0) M) := by
  refine fp_Ok.of (r := 0) rfl (Nat.le_of_ble_eq_true rfl) rfl ?_
  refine S.lload_n dX12_in_0 rfl rfl rfl ?_
  refine S.lload_n dX12_in_1 rfl rfl rfl ?_
  refine S.lcmp dX12_in_2 rfl h1 h2 ?_
  refine S.if_lt (tgt := 17) dX12_in_3 (by decide) rfl fp_cmp_rng (fun c3 => ?_) (fun c3 => ?_)
  · refine S.iconst dX12_in_17 rfl ?_
    refine S.zret dX12_in_18 rfl (by first | exact Or.inl rfl | exact Or.inr rfl | omega) ?_
    refine ⟨?_, rfl⟩
    first | rw [if_pos ⟨by rw [fp_cmp_lt] at c3; omega, by rw [fp_cmp_gt] at c10; omega⟩] | rw [if_neg (by rw [fp_cmp_gt] at c10; omega)] | rw [if_neg (by rw [fp_cmp_lt] at c3; omega)]
  · refine S.lload_n dX12_in_6 rfl rfl rfl ?_
    refine S.lload dX12_in_7 rfl rfl ?_
    refine S.lcmp dX12_in_9 rfl h1 h3 ?_
    refine S.if_gt (tgt := 17) dX12_in_10 (by decide) rfl fp_cmp_rng (fun c10 => ?_) (fun c10 => ?_)
    · refine S.iconst dX12_in_17 rfl ?_
      refine S.zret dX12_in_18 rfl (by first | exact Or.inl rfl | exact Or.inr rfl | omega) ?_
      refine ⟨?_, rfl⟩
      first | rw [if_pos ⟨by rw [fp_cmp_lt] at c3; omega, by rw [fp_cmp_gt] at c10; omega⟩] | rw [if_neg (by rw [fp_cmp_gt] at c10; omega)] | rw [if_neg (by rw [fp_cmp_lt] at c3; omega)]
    · refine S.iconst dX12_in_13 rfl ?_
      refine S.goto (pc' := 18) dX12_in_14 (by decide) ?_
      refine S.zret dX12_in_18 rfl (by first | exact Or.inl rfl | exact Or.inr rfl | omega) ?_
      refine ⟨?_, rfl⟩
      first | rw [if_pos ⟨by rw [fp_cmp_lt] at c3; omega, by rw [fp_cmp_gt] at c10; omega⟩] | rw [if_neg (by rw [fp_cmp_gt] at c10; omega)] | rw [if_neg (by rw [fp_cmp_lt] at c3; omega)]
theorem ok_X12_isThing {t : Int} (ht : fp_rng t := by first | assumption | (unfold fp_rng; omega)) (hm : 0 ≤ M 177 4 ∧ M 177 4 ≤ 10 := by first | assumption | omega) : fp_Ok l G 1 kX12_isThing [rV G 177, iV t] M (qE (if 0 ≤ t ∧ t < M 177 4 then 1 else 0) M) := by
  have ht' := ht
  unfold fp_rng at ht'
  refine fp_Ok.of (r := 0) rfl (Nat.le_of_ble_eq_true rfl) rfl ?_
  refine S.iload_n dX12_isThing_0 rfl rfl rfl ?_
  refine S.i2l dX12_isThing_1 rfl ht ?_
  refine S.lconst (w := 0) dX12_isThing_2 rfl rfl ?_
  refine S.aload_n dX12_isThing_3 rfl rfl rfl ?_
  refine S.getI dX12_isThing_4 rfl fX12_181 L_177 ?_
  refine S.iconst dX12_isThing_7 rfl ?_
  refine S.isub dX12_isThing_8 rfl ?_
  refine S.i2l dX12_isThing_9 rfl (by unfold fp_rng; omega) ?_
  refine S.callSe dX12_isThing_10 rfl cX12_94 (ok_X12_in) rfl (by decide) rfl (Nat.le_of_ble_eq_true rfl) ?_
  refine S.zret dX12_isThing_13 rfl (by split <;> simp) ?_
  refine ⟨?_, rfl⟩
  by_cases c : 0 ≤ t ∧ t < M 177 4
  · rw [if_pos ⟨by omega, by omega⟩, if_pos c]
  · rw [if_neg (by omega), if_neg c]
theorem ok_X12_isLine {t : Int} (ht : fp_rng t := by first | assumption | (unfold fp_rng; omega)) (hm : 0 ≤ M 177 5 ∧ M 177 5 ≤ 3 := by first | assumption | omega) : fp_Ok l G 1 kX12_isLine [rV G 177, iV t] M (qE (if 0 ≤ t ∧ t < M 177 5 then 1 else 0) M) := by
  have ht' := ht
  unfold fp_rng at ht'
  refine fp_Ok.of (r := 0) rfl (Nat.le_of_ble_eq_true rfl) rfl ?_
  refine S.iload_n dX12_isLine_0 rfl rfl rfl ?_
  refine S.i2l dX12_isLine_1 rfl ht ?_
  refine S.lconst (w := 0) dX12_isLine_2 rfl rfl ?_
  refine S.aload_n dX12_isLine_3 rfl rfl rfl ?_
  refine S.getI dX12_isLine_4 rfl fX12_184 L_177 ?_
  refine S.iconst dX12_isLine_7 rfl ?_
  refine S.isub dX12_isLine_8 rfl ?_
  refine S.i2l dX12_isLine_9 rfl (by unfold fp_rng; omega) ?_
  refine S.callSe dX12_isLine_10 rfl cX12_94 (ok_X12_in) rfl (by decide) rfl (Nat.le_of_ble_eq_true rfl) ?_
  refine S.zret dX12_isLine_13 rfl (by split <;> simp) ?_
  refine ⟨?_, rfl⟩
  by_cases c : 0 ≤ t ∧ t < M 177 5
  · rw [if_pos ⟨by omega, by omega⟩, if_pos c]
  · rw [if_neg (by omega), if_neg c]
theorem ok_X12_isOne {t : Int} (ht : fp_rng t := by first | assumption | (unfold fp_rng; omega)) : fp_Ok l G 1 kX12_isOne [iV t] M (qE (if 0 ≤ t ∧ t < 4 then 1 else 0) M) := by
  have ht' := ht
  unfold fp_rng at ht'
  refine fp_Ok.of (r := 0) rfl (Nat.le_of_ble_eq_true rfl) rfl ?_
  refine S.iload_n dX12_isOne_0 rfl rfl rfl ?_
  refine S.i2l dX12_isOne_1 rfl ht ?_
  refine S.lconst (w := 0) dX12_isOne_2 rfl rfl ?_
  refine S.ldc2 (v := 3) dX12_isOne_3 rfl lX12_196 (by decide) ?_
  refine S.callSe dX12_isOne_6 rfl cX12_94 (ok_X12_in) rfl (by decide) rfl (Nat.le_of_ble_eq_true rfl) ?_
  refine S.zret dX12_isOne_9 rfl (by split <;> simp) ?_
  refine ⟨?_, rfl⟩
  by_cases c : 0 ≤ t ∧ t < 4
  · rw [if_pos ⟨by omega, by omega⟩, if_pos c]
  · rw [if_neg (by omega), if_neg c]
theorem ok_X12_visits : fp_Ok l G 0 kX12_visits [rV G 177] M (qE (M 178 95) M) := by
  refine fp_Ok.of (r := 0) rfl (Nat.le_of_ble_eq_true rfl) rfl ?_
  refine S.aload_n dX12_visits_0 rfl rfl rfl ?_
  refine S.getR dX12_visits_1 rfl fX12_7 L_177 rf_177_0 ?_
  refine S.bipush dX12_visits_4 rfl (by decide) ?_
  refine S.iald dX12_visits_6 rfl L_178 (by omega) (by omega) ?_
  refine S.iret dX12_visits_7 rfl ?_
  exact ⟨rfl, rfl⟩
theorem ok_X12_lie {at_ x : Int} (h1 : 0 ≤ at_ := by omega) (h2 : at_ ≤ 500 := by omega) (hx : 0 ≤ x ∧ x < 3 := by first | assumption | omega) : fp_Ok l G 0 kX12_lie [rV G 177, iV at_, iV x] M (qE (M 178 (at_ + 10 + 9 * x).toNat) M) := by
  refine fp_Ok.of (r := 0) rfl (Nat.le_of_ble_eq_true rfl) rfl ?_
  refine S.aload_n dX12_lie_0 rfl rfl rfl ?_
  refine S.getR dX12_lie_1 rfl fX12_7 L_177 rf_177_0 ?_
  refine S.iload_n dX12_lie_4 rfl rfl rfl ?_
  refine S.bipush dX12_lie_5 rfl (by decide) ?_
  refine S.iadd dX12_lie_7 rfl ?_
  refine S.bipush dX12_lie_8 rfl (by decide) ?_
  refine S.iload_n dX12_lie_10 rfl rfl rfl ?_
  refine S.imul dX12_lie_11 rfl ?_
  refine S.iadd dX12_lie_12 rfl ?_
  refine S.iald dX12_lie_13 rfl L_178 (by omega) (by omega) ?_
  refine S.iret dX12_lie_14 rfl ?_
  exact ⟨rfl, rfl⟩
theorem ok_X12_lies {at_ x i : Int} (h1 : 0 ≤ at_ := by omega) (h2 : at_ ≤ 500 := by omega) (hx : 0 ≤ x ∧ x < 3 := by first | assumption | omega) (hi : 0 ≤ i ∧ i < 20 := by first | assumption | omega) : fp_Ok l G 0 kX12_lies [rV G 177, iV at_, iV x, iV i] M (qE (M 178 (at_ + 10 + 9 * x + 1 + i).toNat) M) := by
  refine fp_Ok.of (r := 0) rfl (Nat.le_of_ble_eq_true rfl) rfl ?_
  refine S.aload_n dX12_lies_0 rfl rfl rfl ?_
  refine S.getR dX12_lies_1 rfl fX12_7 L_177 rf_177_0 ?_
  refine S.iload_n dX12_lies_4 rfl rfl rfl ?_
  refine S.bipush dX12_lies_5 rfl (by decide) ?_
  refine S.iadd dX12_lies_7 rfl ?_
  refine S.bipush dX12_lies_8 rfl (by decide) ?_
  refine S.iload_n dX12_lies_10 rfl rfl rfl ?_
  refine S.imul dX12_lies_11 rfl ?_
  refine S.iadd dX12_lies_12 rfl ?_
  refine S.iconst dX12_lies_13 rfl ?_
  refine S.iadd dX12_lies_14 rfl ?_
  refine S.iload_n dX12_lies_15 rfl rfl rfl ?_
  refine S.iadd dX12_lies_16 rfl ?_
  refine S.iald dX12_lies_17 rfl L_178 (by omega) (by omega) ?_
  refine S.iret dX12_lies_18 rfl ?_
  exact ⟨rfl, rfl⟩
/-- weights, kinds in bounds -/
def md_ok (M : fp_Mem) : Prop := (0 ≤ M 177 4 ∧ M 177 4 ≤ 10) ∧ (0 ≤ M 177 5 ∧ M 177 5 ≤ 3) ∧ (0 ≤ M 177 6 ∧ M 177 6 ≤ 10) ∧ (∀ i : Int, 0 ≤ i → i < 11 → 0 ≤ M 179 i.toNat ∧ M 179 i.toNat ≤ 100) ∧ (∀ i : Int, 0 ≤ i → i < 44 → 0 ≤ M 180 i.toNat ∧ M 180 i.toNat ≤ 20) ∧ ∀ x : Int, 0 ≤ x → x < 3 → 0 ≤ M 181 x.toNat ∧ M 181 x.toNat ≤ 2
def md_w (M : fp_Mem) (at_ x : Int) (i : Int) : Int := M 179 (M 178 (at_ + 10 + 9 * x + 1 + i).toNat).toNat
/-- the place that a draw gives; none -/
def md_sel (M : fp_Mem) (at_ x : Int) : Int := if M 178 (at_ + 10 + 9 * x).toNat = 0 then -4 else fp_giv (M 181 x.toNat) (md_w M at_ x) (M 178 (at_ + 10 + 9 * x).toNat)
theorem ga_loop {at_ x n0 : Int} (h1 : 0 ≤ at_) (h2 : at_ ≤ 500) (hx : 0 ≤ x ∧ x < 3) (ho : md_ok M) (hn : n0 ≤ 8) (hk : M 181 x.toNat = 2)
    (hrow : ∀ i : Int, 0 ≤ i → i < n0 → 0 ≤ M 178 (at_ + 10 + 9 * x + 1 + i).toNat ∧ M 178 (at_ + 10 + 9 * x + 1 + i).toNat ≤ 10) : ∀ (n : Nat) (i b : Int), (n0 - i).toNat < n → 1 ≤ i → i ≤ n0 → b = fp_am (md_w M at_ x) (i - 1).toNat →
    fp_S l G 1 kX12_givesAt 36 [some (rV G 177), some (iV at_), some (iV x), some (iV n0), some (iV b), some (iV i)] [] M (qE (fp_am (md_w M at_ x) (n0 - 1).toNat) M) := by
  intro n
  induction n with
  | zero => intro i b h; omega
  | succ n ih =>
    intro i b h hi1 hi2 hb
    have hbb := fp_am_le (md_w M at_ x) (i - 1).toNat
    rw [← hb] at hbb
    refine S.iload dX12_givesAt_36 rfl rfl ?_
    refine S.iload_n dX12_givesAt_38 rfl rfl rfl ?_
    refine S.icmp_ge (tgt := 96) dX12_givesAt_39 (by decide) rfl (by unfold fp_rng; omega) (by unfold fp_rng; omega) (fun h39 => ?_) (fun h39 => ?_)
    · refine S.iload dX12_givesAt_96 rfl rfl ?_
      refine S.iret dX12_givesAt_98 rfl ?_
      refine ⟨?_, rfl⟩
      first | (exfalso; omega) | rw [hb, show n0 = i by omega]
    · refine S.aload_n dX12_givesAt_42 rfl rfl rfl ?_
      refine S.getR dX12_givesAt_43 rfl fX12_19 L_177 rf_177_3 ?_
      refine S.iload_n dX12_givesAt_46 rfl rfl rfl ?_
      refine S.iald dX12_givesAt_47 rfl L_181 (by omega) (by omega) ?_
      refine S.iconst dX12_givesAt_48 rfl ?_
      refine S.icmp_ne (tgt := 96) dX12_givesAt_49 (by decide) rfl (by unfold fp_rng; omega) (by unfold fp_rng; omega) (fun h49 => ?_) (fun h49 => ?_)
      · refine S.iload dX12_givesAt_96 rfl rfl ?_
        refine S.iret dX12_givesAt_98 rfl ?_
        refine ⟨?_, rfl⟩
        first | (exfalso; omega) | rw [hb, show n0 = i by omega]
      · have r1 := hrow i (by omega) (by omega)
        have r2 := hrow b (by omega) (by omega)
        have w1 := ho.2.2.2.1 _ r1.1 (by omega)
        have w2 := ho.2.2.2.1 _ r2.1 (by omega)
        have es := fp_am_succ (w := md_w M at_ x) hi1
        unfold md_w at es
        refine S.aload_n dX12_givesAt_52 rfl rfl rfl ?_
        refine S.getR dX12_givesAt_53 rfl fX12_13 L_177 rf_177_1 ?_
        refine S.aload_n dX12_givesAt_56 rfl rfl rfl ?_
        refine S.iload_n dX12_givesAt_57 rfl rfl rfl ?_
        refine S.iload_n dX12_givesAt_58 rfl rfl rfl ?_
        refine S.iload dX12_givesAt_59 rfl rfl ?_
        refine S.callVe dX12_givesAt_61 rfl cX12_201 (ok_X12_lies) rfl L_177 (by decide) rfl (Nat.le_of_ble_eq_true rfl) ?_
        refine S.iald dX12_givesAt_64 rfl L_179 (by omega) (by omega) ?_
        refine S.aload_n dX12_givesAt_65 rfl rfl rfl ?_
        refine S.getR dX12_givesAt_66 rfl fX12_13 L_177 rf_177_1 ?_
        refine S.aload_n dX12_givesAt_69 rfl rfl rfl ?_
        refine S.iload_n dX12_givesAt_70 rfl rfl rfl ?_
        refine S.iload_n dX12_givesAt_71 rfl rfl rfl ?_
        refine S.iload dX12_givesAt_72 rfl rfl ?_
        refine S.callVe dX12_givesAt_74 rfl cX12_201 (ok_X12_lies) rfl L_177 (by decide) rfl (Nat.le_of_ble_eq_true rfl) ?_
        refine S.iald dX12_givesAt_77 rfl L_179 (by omega) (by omega) ?_
        refine S.icmp_ge (tgt := 86) dX12_givesAt_78 (by decide) rfl (by unfold fp_rng; omega) (by unfold fp_rng; omega) (fun h78 => ?_) (fun h78 => ?_)
        · refine S.iload dX12_givesAt_86 rfl rfl ?_
          refine S.istore (LL' := [_, _, _, _, _, _]) dX12_givesAt_88 rfl (by decide) rfl rfl ?_
          refine S.iinc (LL' := [_, _, _, _, _, _]) dX12_givesAt_90 rfl (by decide) rfl rfl rfl ?_
          refine S.goto (pc' := 36) dX12_givesAt_93 (by decide) ?_
          refine ih _ _ (by omega) (by omega) (by omega) ?_
          rw [show i + 1 - 1 = i by omega]
          unfold md_w
          rw [es]
          have hb' := hb
          unfold md_w at hb'
          rw [← hb']
          first | rw [if_pos (by omega)] | rw [if_neg (by omega)]
        · refine S.iload dX12_givesAt_81 rfl rfl ?_
          refine S.goto (pc' := 88) dX12_givesAt_83 (by decide) ?_
          refine S.istore (LL' := [_, _, _, _, _, _]) dX12_givesAt_88 rfl (by decide) rfl rfl ?_
          refine S.iinc (LL' := [_, _, _, _, _, _]) dX12_givesAt_90 rfl (by decide) rfl rfl rfl ?_
          refine S.goto (pc' := 36) dX12_givesAt_93 (by decide) ?_
          refine ih _ _ (by omega) (by omega) (by omega) ?_
          rw [show i + 1 - 1 = i by omega]
          unfold md_w
          rw [es]
          have hb' := hb
          unfold md_w at hb'
          rw [← hb']
          first | rw [if_pos (by omega)] | rw [if_neg (by omega)]
theorem ok_X12_givesAt {at_ x : Int} (h1 : 0 ≤ at_ := by omega) (h2 : at_ ≤ 500 := by omega) (hx : 0 ≤ x ∧ x < 3 := by first | assumption | omega) (ho : md_ok M := by assumption) (hn : 0 ≤ M 178 (at_ + 10 + 9 * x).toNat ∧ M 178 (at_ + 10 + 9 * x).toNat ≤ 8 := by first | assumption | omega)
    (hrow : ∀ i : Int, 0 ≤ i → i < M 178 (at_ + 10 + 9 * x).toNat → 0 ≤ M 178 (at_ + 10 + 9 * x + 1 + i).toNat ∧ M 178 (at_ + 10 + 9 * x + 1 + i).toNat ≤ 10 := by assumption) : fp_Ok l G 1 kX12_givesAt [rV G 177, iV at_, iV x] M (qE (md_sel M at_ x) M) := by
  have hkd := ho.2.2.2.2.2 x hx.1 hx.2
  unfold md_sel fp_giv
  refine fp_Ok.of (r := 3) rfl (Nat.le_of_ble_eq_true rfl) rfl ?_
  by_cases hk : M 181 x.toNat = 2
  · refine S.aload_n dX12_givesAt_0 rfl rfl rfl ?_
    refine S.iload_n dX12_givesAt_1 rfl rfl rfl ?_
    refine S.iload_n dX12_givesAt_2 rfl rfl rfl ?_
    refine S.callVe dX12_givesAt_3 rfl cX12_198 (ok_X12_lie) rfl L_177 (by decide) rfl (Nat.le_of_ble_eq_true rfl) ?_
    refine S.istore_n (LL' := [_, _, _, _, _, _]) dX12_givesAt_6 rfl (by decide) rfl rfl rfl ?_
    refine S.iload_n dX12_givesAt_7 rfl rfl rfl ?_
    refine S.if_ne (tgt := 14) dX12_givesAt_8 (by decide) rfl (by unfold fp_rng; omega) (fun h8 => ?_) (fun h8 => ?_)
    · refine S.aload_n dX12_givesAt_14 rfl rfl rfl ?_
      refine S.getR dX12_givesAt_15 rfl fX12_19 L_177 rf_177_3 ?_
      refine S.iload_n dX12_givesAt_18 rfl rfl rfl ?_
      refine S.iald dX12_givesAt_19 rfl L_181 (by omega) (by omega) ?_
      refine S.iconst dX12_givesAt_20 rfl ?_
      refine S.icmp_ne (tgt := 30) dX12_givesAt_21 (by decide) rfl (by unfold fp_rng; omega) (by unfold fp_rng; omega) (fun h21 => ?_) (fun h21 => ?_)
      · refine S.iconst dX12_givesAt_30 rfl ?_
        refine S.istore (LL' := [_, _, _, _, _, _]) dX12_givesAt_31 rfl (by decide) rfl rfl ?_
        refine S.iconst dX12_givesAt_33 rfl ?_
        refine S.istore (LL' := [_, _, _, _, _, _]) dX12_givesAt_34 rfl (by decide) rfl rfl ?_
        rw [if_neg h8, if_neg (by omega), if_neg (by omega)]
        exact ga_loop h1 h2 hx ho hn.2 hk hrow ((M 178 (at_ + 10 + 9 * x).toNat).toNat + 1) 1 0 (by omega) (by omega) (by omega) rfl
      · exfalso; omega
    · refine S.bipush dX12_givesAt_11 rfl (by decide) ?_
      refine S.iret dX12_givesAt_13 rfl ?_
      exact ⟨by rw [if_pos h8], rfl⟩
  · refine S.aload_n dX12_givesAt_0 rfl rfl rfl ?_
    refine S.iload_n dX12_givesAt_1 rfl rfl rfl ?_
    refine S.iload_n dX12_givesAt_2 rfl rfl rfl ?_
    refine S.callVe dX12_givesAt_3 rfl cX12_198 (ok_X12_lie) rfl L_177 (by decide) rfl (Nat.le_of_ble_eq_true rfl) ?_
    refine S.istore_n (LL' := [_, _, _, _, _, _]) dX12_givesAt_6 rfl (by decide) rfl rfl rfl ?_
    refine S.iload_n dX12_givesAt_7 rfl rfl rfl ?_
    refine S.if_ne (tgt := 14) dX12_givesAt_8 (by decide) rfl (by unfold fp_rng; omega) (fun h8 => ?_) (fun h8 => ?_)
    · refine S.aload_n dX12_givesAt_14 rfl rfl rfl ?_
      refine S.getR dX12_givesAt_15 rfl fX12_19 L_177 rf_177_3 ?_
      refine S.iload_n dX12_givesAt_18 rfl rfl rfl ?_
      refine S.iald dX12_givesAt_19 rfl L_181 (by omega) (by omega) ?_
      refine S.iconst dX12_givesAt_20 rfl ?_
      refine S.icmp_ne (tgt := 30) dX12_givesAt_21 (by decide) rfl (by unfold fp_rng; omega) (by unfold fp_rng; omega) (fun h21 => ?_) (fun h21 => ?_)
      · refine S.iconst dX12_givesAt_30 rfl ?_
        refine S.istore (LL' := [_, _, _, _, _, _]) dX12_givesAt_31 rfl (by decide) rfl rfl ?_
        refine S.iconst dX12_givesAt_33 rfl ?_
        refine S.istore (LL' := [_, _, _, _, _, _]) dX12_givesAt_34 rfl (by decide) rfl rfl ?_
        refine S.iload dX12_givesAt_36 rfl rfl ?_
        refine S.iload_n dX12_givesAt_38 rfl rfl rfl ?_
        refine S.icmp_ge (tgt := 96) dX12_givesAt_39 (by decide) rfl (by unfold fp_rng; omega) (by unfold fp_rng; omega) (fun h39 => ?_) (fun h39 => ?_)
        · refine S.iload dX12_givesAt_96 rfl rfl ?_
          refine S.iret dX12_givesAt_98 rfl ?_
          refine ⟨?_, rfl⟩
          rw [if_neg h8]
          by_cases h0 : M 181 x.toNat = 0
          · rw [if_pos h0]; try omega
          · rw [if_neg h0, if_pos (by omega)]; try omega
        · refine S.aload_n dX12_givesAt_42 rfl rfl rfl ?_
          refine S.getR dX12_givesAt_43 rfl fX12_19 L_177 rf_177_3 ?_
          refine S.iload_n dX12_givesAt_46 rfl rfl rfl ?_
          refine S.iald dX12_givesAt_47 rfl L_181 (by omega) (by omega) ?_
          refine S.iconst dX12_givesAt_48 rfl ?_
          refine S.icmp_ne (tgt := 96) dX12_givesAt_49 (by decide) rfl (by unfold fp_rng; omega) (by unfold fp_rng; omega) (fun h49 => ?_) (fun h49 => ?_)
          · refine S.iload dX12_givesAt_96 rfl rfl ?_
            refine S.iret dX12_givesAt_98 rfl ?_
            refine ⟨?_, rfl⟩
            rw [if_neg h8]
            by_cases h0 : M 181 x.toNat = 0
            · rw [if_pos h0]; try omega
            · rw [if_neg h0, if_pos (by omega)]; try omega
          · exfalso; omega
      · refine S.iload_n dX12_givesAt_24 rfl rfl rfl ?_
        refine S.iconst dX12_givesAt_25 rfl ?_
        refine S.isub dX12_givesAt_26 rfl ?_
        refine S.goto (pc' := 31) dX12_givesAt_27 (by decide) ?_
        refine S.istore (LL' := [_, _, _, _, _, _]) dX12_givesAt_31 rfl (by decide) rfl rfl ?_
        refine S.iconst dX12_givesAt_33 rfl ?_
        refine S.istore (LL' := [_, _, _, _, _, _]) dX12_givesAt_34 rfl (by decide) rfl rfl ?_
        refine S.iload dX12_givesAt_36 rfl rfl ?_
        refine S.iload_n dX12_givesAt_38 rfl rfl rfl ?_
        refine S.icmp_ge (tgt := 96) dX12_givesAt_39 (by decide) rfl (by unfold fp_rng; omega) (by unfold fp_rng; omega) (fun h39 => ?_) (fun h39 => ?_)
        · refine S.iload dX12_givesAt_96 rfl rfl ?_
          refine S.iret dX12_givesAt_98 rfl ?_
          refine ⟨?_, rfl⟩
          rw [if_neg h8]
          by_cases h0 : M 181 x.toNat = 0
          · rw [if_pos h0]; try omega
          · rw [if_neg h0, if_pos (by omega)]; try omega
        · refine S.aload_n dX12_givesAt_42 rfl rfl rfl ?_
          refine S.getR dX12_givesAt_43 rfl fX12_19 L_177 rf_177_3 ?_
          refine S.iload_n dX12_givesAt_46 rfl rfl rfl ?_
          refine S.iald dX12_givesAt_47 rfl L_181 (by omega) (by omega) ?_
          refine S.iconst dX12_givesAt_48 rfl ?_
          refine S.icmp_ne (tgt := 96) dX12_givesAt_49 (by decide) rfl (by unfold fp_rng; omega) (by unfold fp_rng; omega) (fun h49 => ?_) (fun h49 => ?_)
          · refine S.iload dX12_givesAt_96 rfl rfl ?_
            refine S.iret dX12_givesAt_98 rfl ?_
            refine ⟨?_, rfl⟩
            rw [if_neg h8]
            by_cases h0 : M 181 x.toNat = 0
            · rw [if_pos h0]; try omega
            · rw [if_neg h0, if_pos (by omega)]; try omega
          · exfalso; omega
    · refine S.bipush dX12_givesAt_11 rfl (by decide) ?_
      refine S.iret dX12_givesAt_13 rfl ?_
      exact ⟨by rw [if_pos h8], rfl⟩
end MDL
