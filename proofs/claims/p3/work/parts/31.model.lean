/-! THE REFERENCE, outright: gives, laysIn, takesOut -/
section MDM
variable {l : Launch} {G : fp_WG} {M : fp_Mem}
def md_gives (M : fp_Mem) (at_ x : Int) : Int := if M 178 (at_ + 10 + 9 * x).toNat = 0 then -4 else M 178 (at_ + 10 + 9 * x + 1 + md_sel M at_ x).toNat
theorem md_sel_in {at_ x : Int} (hn : 0 ≤ M 178 (at_ + 10 + 9 * x).toNat ∧ M 178 (at_ + 10 + 9 * x).toNat ≤ 8) : (M 178 (at_ + 10 + 9 * x).toNat = 0 ∧ md_sel M at_ x = -4) ∨ (0 < M 178 (at_ + 10 + 9 * x).toNat ∧ 0 ≤ md_sel M at_ x ∧ md_sel M at_ x < M 178 (at_ + 10 + 9 * x).toNat) := by
  unfold md_sel
  by_cases h : M 178 (at_ + 10 + 9 * x).toNat = 0
  · left; rw [if_pos h]; exact ⟨h, rfl⟩
  · right
    rw [if_neg h]
    have := fp_giv_in (kind := M 181 x.toNat) (w := md_w M at_ x) (n := M 178 (at_ + 10 + 9 * x).toNat) (by omega)
    omega
theorem ok_X12_gives {at_ x : Int} (h1 : 0 ≤ at_ := by omega) (h2 : at_ ≤ 500 := by omega) (hx : 0 ≤ x ∧ x < 3 := by first | assumption | omega) (ho : md_ok M := by assumption) (hn : 0 ≤ M 178 (at_ + 10 + 9 * x).toNat ∧ M 178 (at_ + 10 + 9 * x).toNat ≤ 8 := by first | assumption | omega)
    (hrow : ∀ i : Int, 0 ≤ i → i < M 178 (at_ + 10 + 9 * x).toNat → 0 ≤ M 178 (at_ + 10 + 9 * x + 1 + i).toNat ∧ M 178 (at_ + 10 + 9 * x + 1 + i).toNat ≤ 10 := by assumption) : fp_Ok l G 2 kX12_gives [rV G 177, iV at_, iV x] M (qE (md_gives M at_ x) M) := by
  have hs := md_sel_in (x := x) hn
  unfold md_gives
  refine fp_Ok.of (r := 1) rfl (Nat.le_of_ble_eq_true rfl) rfl ?_
  refine S.aload_n dX12_gives_0 rfl rfl rfl ?_
  refine S.iload_n dX12_gives_1 rfl rfl rfl ?_
  refine S.iload_n dX12_gives_2 rfl rfl rfl ?_
  refine S.callVe dX12_gives_3 rfl cX12_216 (ok_X12_givesAt) rfl L_177 (by decide) rfl (Nat.le_of_ble_eq_true rfl) ?_
  refine S.istore_n (LL' := [_, _, _, _]) dX12_gives_6 rfl (by decide) rfl rfl rfl ?_
  refine S.iload_n dX12_gives_7 rfl rfl rfl ?_
  refine S.bipush dX12_gives_8 rfl (by decide) ?_
  refine S.icmp_ne (tgt := 18) dX12_gives_10 (by decide) rfl (by unfold fp_rng; omega) (by unfold fp_rng; omega) (fun h10 => ?_) (fun h10 => ?_)
  · refine S.aload_n dX12_gives_18 rfl rfl rfl ?_
    refine S.iload_n dX12_gives_19 rfl rfl rfl ?_
    refine S.iload_n dX12_gives_20 rfl rfl rfl ?_
    refine S.iload_n dX12_gives_21 rfl rfl rfl ?_
    refine S.callVe dX12_gives_22 rfl cX12_201 (ok_X12_lies) rfl L_177 (by decide) rfl (Nat.le_of_ble_eq_true rfl) ?_
    refine S.iret dX12_gives_25 rfl ?_
    refine ⟨?_, rfl⟩
    first | rw [if_pos (by omega)] | rw [if_neg (by omega)]
  · refine S.bipush dX12_gives_13 rfl (by decide) ?_
    refine S.goto (pc' := 25) dX12_gives_15 (by decide) ?_
    refine S.iret dX12_gives_25 rfl ?_
    refine ⟨?_, rfl⟩
    first | rw [if_pos (by omega)] | rw [if_neg (by omega)]
/-- the state's row behind laysIn, takesOut -/
def md_lay (f : Nat → Int) (b t i : Int) : Nat → Int := fun j => if (j : Int) = b then f b.toNat + 1 else if (j : Int) = b + 1 + i then t else if b + 1 + i < j ∧ (j : Int) ≤ b + 1 + f b.toNat then f (j - 1) else f j
def md_take (f : Nat → Int) (b i : Int) : Nat → Int := fun j => if (j : Int) = b then f b.toNat - 1 else if b + 1 + i ≤ j ∧ (j : Int) < b + f b.toNat then f (j + 1) else f j
theorem lay_loop {at_ t x i : Int} (h1 : 0 ≤ at_) (h2 : at_ ≤ 500) (hx : 0 ≤ x ∧ x < 3) (hn : 0 ≤ M 178 (at_ + 10 + 9 * x).toNat ∧ M 178 (at_ + 10 + 9 * x).toNat < 8) (hi : 0 ≤ i ∧ i ≤ M 178 (at_ + 10 + 9 * x).toNat) : ∀ (n : Nat) (k : Int) (N : fp_Mem), (k - i).toNat < n → i ≤ k → k ≤ M 178 (at_ + 10 + 9 * x).toNat → N = fp_upM M 178 (fun j : Nat => if (at_ + 10 + 9 * x) + 1 + k < j ∧ (j : Int) ≤ (at_ + 10 + 9 * x) + 1 + M 178 (at_ + 10 + 9 * x).toNat then M 178 (j - 1) else M 178 j) →
    fp_S l G 0 kX12_laysIn 20 [some (rV G 177), some (iV at_), some (iV t), some (iV x), some (iV i), some (iV (at_ + 10 + 9 * x)), some (iV k)] [] N (qW (fp_upM M 178 (md_lay (M 178) (at_ + 10 + 9 * x) t i))) := by
  intro n
  induction n with
  | zero => intro k N h; omega
  | succ n ih =>
    intro k N h k0 k1 hN
    refine S.iload dX12_laysIn_20 rfl rfl ?_
    refine S.iload dX12_laysIn_22 rfl rfl ?_
    refine S.icmp_le (tgt := 55) dX12_laysIn_24 (by decide) rfl (by unfold fp_rng; omega) (by unfold fp_rng; omega) (fun h24 => ?_) (fun h24 => ?_)
    · refine S.aload_n dX12_laysIn_55 rfl rfl rfl ?_
      refine S.getR dX12_laysIn_56 rfl fX12_7 L_177 rf_177_0 ?_
      refine S.iload dX12_laysIn_59 rfl rfl ?_
      refine S.iconst dX12_laysIn_61 rfl ?_
      refine S.iadd dX12_laysIn_62 rfl ?_
      refine S.iload dX12_laysIn_63 rfl rfl ?_
      refine S.iadd dX12_laysIn_65 rfl ?_
      refine S.iload_n dX12_laysIn_66 rfl rfl rfl ?_
      refine S.iast dX12_laysIn_67 rfl L_178 (by omega) (by omega) ?_
      refine S.aload_n dX12_laysIn_68 rfl rfl rfl ?_
      refine S.getR dX12_laysIn_69 rfl fX12_7 L_177 rf_177_0 ?_
      refine S.iload dX12_laysIn_72 rfl rfl ?_
      refine S.dup2 dX12_laysIn_74 rfl rfl rfl ?_
      refine S.iald dX12_laysIn_75 rfl L_178 (by omega) (by omega) ?_
      refine S.iconst dX12_laysIn_76 rfl ?_
      refine S.iadd dX12_laysIn_77 rfl ?_
      refine S.iast dX12_laysIn_78 rfl L_178 (by omega) (by omega) ?_
      refine S.vret dX12_laysIn_79 rfl ?_
      show _ = _
      rw [hN]
      simp only [fp_up_same, fp_upM_at, fp_upM_upM]
      refine congrArg (fp_upM _ 178) (funext fun j => ?_)
      dsimp only [fp_upf, md_lay]
      have hk : k = i := by omega
      subst hk
      (repeat' split) <;> first | rfl | (exfalso; omega) | (congr 1; omega) | (congr 2; omega)
    · refine S.aload_n dX12_laysIn_27 rfl rfl rfl ?_
      refine S.getR dX12_laysIn_28 rfl fX12_7 L_177 rf_177_0 ?_
      refine S.iload dX12_laysIn_31 rfl rfl ?_
      refine S.iconst dX12_laysIn_33 rfl ?_
      refine S.iadd dX12_laysIn_34 rfl ?_
      refine S.iload dX12_laysIn_35 rfl rfl ?_
      refine S.iadd dX12_laysIn_37 rfl ?_
      refine S.aload_n dX12_laysIn_38 rfl rfl rfl ?_
      refine S.getR dX12_laysIn_39 rfl fX12_7 L_177 rf_177_0 ?_
      refine S.iload dX12_laysIn_42 rfl rfl ?_
      refine S.iload dX12_laysIn_44 rfl rfl ?_
      refine S.iadd dX12_laysIn_46 rfl ?_
      refine S.iald dX12_laysIn_47 rfl L_178 (by omega) (by omega) ?_
      refine S.iast dX12_laysIn_48 rfl L_178 (by omega) (by omega) ?_
      refine S.iinc (LL' := [_, _, _, _, _, _, _]) dX12_laysIn_49 rfl (by decide) rfl rfl rfl ?_
      refine S.goto (pc' := 20) dX12_laysIn_52 (by decide) ?_
      refine ih _ _ (by omega) (by omega) (by omega) ?_
      rw [hN, fp_up_same]
      refine congrArg (fp_upM _ 178) (funext fun j => ?_)
      rw [fp_upM_at]
      dsimp only [fp_upf]
      (repeat' split) <;> first | rfl | (exfalso; omega) | (congr 1; omega)
theorem ok_X12_laysIn {at_ t x i : Int} (h1 : 0 ≤ at_ := by omega) (h2 : at_ ≤ 500 := by omega) (hx : 0 ≤ x ∧ x < 3 := by first | assumption | omega) (hn : 0 ≤ M 178 (at_ + 10 + 9 * x).toNat ∧ M 178 (at_ + 10 + 9 * x).toNat < 8 := by first | assumption | omega) (hi : 0 ≤ i ∧ i ≤ M 178 (at_ + 10 + 9 * x).toNat := by first | assumption | omega) : fp_Ok l G 0 kX12_laysIn [rV G 177, iV at_, iV t, iV x, iV i] M (qW (fp_upM M 178 (md_lay (M 178) (at_ + 10 + 9 * x) t i))) := by
  refine fp_Ok.of (r := 2) rfl (Nat.le_of_ble_eq_true rfl) rfl ?_
  refine S.iload_n dX12_laysIn_0 rfl rfl rfl ?_
  refine S.bipush dX12_laysIn_1 rfl (by decide) ?_
  refine S.iadd dX12_laysIn_3 rfl ?_
  refine S.bipush dX12_laysIn_4 rfl (by decide) ?_
  refine S.iload_n dX12_laysIn_6 rfl rfl rfl ?_
  refine S.imul dX12_laysIn_7 rfl ?_
  refine S.iadd dX12_laysIn_8 rfl ?_
  refine S.istore (LL' := [_, _, _, _, _, _, _]) dX12_laysIn_9 rfl (by decide) rfl rfl ?_
  refine S.aload_n dX12_laysIn_11 rfl rfl rfl ?_
  refine S.getR dX12_laysIn_12 rfl fX12_7 L_177 rf_177_0 ?_
  refine S.iload dX12_laysIn_15 rfl rfl ?_
  refine S.iald dX12_laysIn_17 rfl L_178 (by omega) (by omega) ?_
  refine S.istore (LL' := [_, _, _, _, _, _, _]) dX12_laysIn_18 rfl (by decide) rfl rfl ?_
  refine lay_loop h1 h2 hx hn hi ((M 178 (at_ + 10 + 9 * x).toNat).toNat + 1) (M 178 (at_ + 10 + 9 * x).toNat) M (by omega) (by omega) (by omega) ?_
  rw [show (fun j : Nat => if (at_ + 10 + 9 * x) + 1 + M 178 (at_ + 10 + 9 * x).toNat < j ∧ (j : Int) ≤ (at_ + 10 + 9 * x) + 1 + M 178 (at_ + 10 + 9 * x).toNat then M 178 (j - 1) else M 178 j) = M 178 from funext fun j => by rw [if_neg (by omega)], fp_upM_self]
theorem take_loop {at_ x i t n0 : Int} (h1 : 0 ≤ at_) (h2 : at_ ≤ 500) (hx : 0 ≤ x ∧ x < 3) (hn0 : n0 = M 178 (at_ + 10 + 9 * x).toNat) (hn : 1 ≤ n0 ∧ n0 ≤ 8) (hi : 0 ≤ i ∧ i < n0) : ∀ (n : Nat) (k : Int) (N : fp_Mem), (n0 - k).toNat < n → i ≤ k → k ≤ n0 - 1 → N = fp_upM M 178 (fun j : Nat => if (j : Int) = at_ + 10 + 9 * x then n0 - 1 else if (at_ + 10 + 9 * x) + 1 + i ≤ j ∧ (j : Int) < (at_ + 10 + 9 * x) + 1 + k then M 178 (j + 1) else M 178 j) →
    fp_S l G 0 kX12_takesOut 38 [some (rV G 177), some (iV at_), some (iV x), some (iV i), some (iV (at_ + 10 + 9 * x)), some (iV t), some (iV k)] [] N (qE t (fp_upM M 178 (md_take (M 178) (at_ + 10 + 9 * x) i))) := by
  intro n
  induction n with
  | zero => intro k N h; omega
  | succ n ih =>
    intro k N h k0 k1 hN
    have e0 : N 178 (at_ + 10 + 9 * x).toNat = n0 - 1 := by rw [hN, fp_upM_at, if_pos (by omega)]
    refine S.iload dX12_takesOut_38 rfl rfl ?_
    refine S.aload_n dX12_takesOut_40 rfl rfl rfl ?_
    refine S.getR dX12_takesOut_41 rfl fX12_7 L_177 rf_177_0 ?_
    refine S.iload dX12_takesOut_44 rfl rfl ?_
    refine S.iald dX12_takesOut_46 rfl L_178 (by omega) (by omega) ?_
    refine S.icmp_ge (tgt := 80) dX12_takesOut_47 (by decide) rfl (by unfold fp_rng; omega) (by unfold fp_rng; omega) (fun h47 => ?_) (fun h47 => ?_)
    · refine S.iload dX12_takesOut_80 rfl rfl ?_
      refine S.iret dX12_takesOut_82 rfl ?_
      refine ⟨rfl, ?_⟩
      rw [hN]
      refine congrArg (fp_upM _ 178) (funext fun j => ?_)
      dsimp only [md_take]
      rw [← hn0]
      (repeat' split) <;> first | rfl | (exfalso; omega)
    · refine S.aload_n dX12_takesOut_50 rfl rfl rfl ?_
      refine S.getR dX12_takesOut_51 rfl fX12_7 L_177 rf_177_0 ?_
      refine S.iload dX12_takesOut_54 rfl rfl ?_
      refine S.iconst dX12_takesOut_56 rfl ?_
      refine S.iadd dX12_takesOut_57 rfl ?_
      refine S.iload dX12_takesOut_58 rfl rfl ?_
      refine S.iadd dX12_takesOut_60 rfl ?_
      refine S.aload_n dX12_takesOut_61 rfl rfl rfl ?_
      refine S.getR dX12_takesOut_62 rfl fX12_7 L_177 rf_177_0 ?_
      refine S.iload dX12_takesOut_65 rfl rfl ?_
      refine S.iconst dX12_takesOut_67 rfl ?_
      refine S.iadd dX12_takesOut_68 rfl ?_
      refine S.iload dX12_takesOut_69 rfl rfl ?_
      refine S.iadd dX12_takesOut_71 rfl ?_
      refine S.iald dX12_takesOut_72 rfl L_178 (by omega) (by omega) ?_
      refine S.iast dX12_takesOut_73 rfl L_178 (by omega) (by omega) ?_
      refine S.iinc (LL' := [_, _, _, _, _, _, _]) dX12_takesOut_74 rfl (by decide) rfl rfl rfl ?_
      refine S.goto (pc' := 38) dX12_takesOut_77 (by decide) ?_
      refine ih _ _ (by omega) (by omega) (by omega) ?_
      rw [hN, fp_up_same]
      refine congrArg (fp_upM _ 178) (funext fun j => ?_)
      rw [fp_upM_at]
      dsimp only [fp_upf]
      (repeat' split) <;> first | rfl | (exfalso; omega) | (congr 1; omega)
theorem ok_X12_takesOut {at_ x i : Int} (h1 : 0 ≤ at_ := by omega) (h2 : at_ ≤ 500 := by omega) (hx : 0 ≤ x ∧ x < 3 := by first | assumption | omega) (hn : 1 ≤ M 178 (at_ + 10 + 9 * x).toNat ∧ M 178 (at_ + 10 + 9 * x).toNat ≤ 8 := by first | assumption | omega) (hi : 0 ≤ i ∧ i < M 178 (at_ + 10 + 9 * x).toNat := by first | assumption | omega) : fp_Ok l G 0 kX12_takesOut [rV G 177, iV at_, iV x, iV i] M (qE (M 178 (at_ + 10 + 9 * x + 1 + i).toNat) (fp_upM M 178 (md_take (M 178) (at_ + 10 + 9 * x) i))) := by
  refine fp_Ok.of (r := 3) rfl (Nat.le_of_ble_eq_true rfl) rfl ?_
  refine S.iload_n dX12_takesOut_0 rfl rfl rfl ?_
  refine S.bipush dX12_takesOut_1 rfl (by decide) ?_
  refine S.iadd dX12_takesOut_3 rfl ?_
  refine S.bipush dX12_takesOut_4 rfl (by decide) ?_
  refine S.iload_n dX12_takesOut_6 rfl rfl rfl ?_
  refine S.imul dX12_takesOut_7 rfl ?_
  refine S.iadd dX12_takesOut_8 rfl ?_
  refine S.istore (LL' := [_, _, _, _, _, _, _]) dX12_takesOut_9 rfl (by decide) rfl rfl ?_
  refine S.aload_n dX12_takesOut_11 rfl rfl rfl ?_
  refine S.getR dX12_takesOut_12 rfl fX12_7 L_177 rf_177_0 ?_
  refine S.iload dX12_takesOut_15 rfl rfl ?_
  refine S.iconst dX12_takesOut_17 rfl ?_
  refine S.iadd dX12_takesOut_18 rfl ?_
  refine S.iload_n dX12_takesOut_19 rfl rfl rfl ?_
  refine S.iadd dX12_takesOut_20 rfl ?_
  refine S.iald dX12_takesOut_21 rfl L_178 (by omega) (by omega) ?_
  refine S.istore (LL' := [_, _, _, _, _, _, _]) dX12_takesOut_22 rfl (by decide) rfl rfl ?_
  refine S.aload_n dX12_takesOut_24 rfl rfl rfl ?_
  refine S.getR dX12_takesOut_25 rfl fX12_7 L_177 rf_177_0 ?_
  refine S.iload dX12_takesOut_28 rfl rfl ?_
  refine S.dup2 dX12_takesOut_30 rfl rfl rfl ?_
  refine S.iald dX12_takesOut_31 rfl L_178 (by omega) (by omega) ?_
  refine S.iconst dX12_takesOut_32 rfl ?_
  refine S.isub dX12_takesOut_33 rfl ?_
  refine S.iast dX12_takesOut_34 rfl L_178 (by omega) (by omega) ?_
  refine S.iload_n dX12_takesOut_35 rfl rfl rfl ?_
  refine S.istore (LL' := [_, _, _, _, _, _, _]) dX12_takesOut_36 rfl (by decide) rfl rfl ?_
  refine take_loop h1 h2 hx rfl hn hi ((M 178 (at_ + 10 + 9 * x).toNat).toNat + 1) i _ (by omega) (by omega) (by omega) ?_
  refine congrArg (fp_upM _ 178) (funext fun j => ?_)
  dsimp only [fp_upf]
  (repeat' split) <;> first | rfl | (exfalso; omega)
end MDM
