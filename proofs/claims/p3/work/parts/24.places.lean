/-! PLACES: insert, append, clear, copyFrom -/
section PLE
variable {l : Launch} {G : fp_WG} {M : fp_Mem}
theorem ins_loop {k : Nat} {t x s : Int} (hk : fp_ispl k) (ho : pl_ok M k) (hx : 0 ≤ x ∧ x < 3) (hs0 : 0 ≤ s) (hs1 : s ≤ M (k + 3) x.toNat) (hr : M (k + 3) x.toNat < 8) (ht : 0 ≤ t ∧ t < 10) : ∀ (n : Nat) (i : Int) (N : fp_Mem), (i - s).toNat < n → s ≤ i → i ≤ M (k + 3) x.toNat → N = fp_upM M (k + 4) (fun j : Nat => if x * 8 + i < j ∧ (j : Int) ≤ x * 8 + M (k + 3) x.toNat then M (k + 4) (j - 1) else M (k + 4) j) →
    fp_S l G 0 kX5_insert 27 [some (rV G k), some (iV t), some (iV x), some (iV s), some (iV (x * 8)), some (iV i)] [] N (qE 1 (pl_ins M k t x s)) := by
  intro n
  have hsz := ho.2.1 x hx.1 hx.2
  induction n with
  | zero => intro i N h; omega
  | succ n ih =>
    intro i N h h0 h1 hN
    have e1 : N (k + 1) = M (k + 1) := by rw [hN, fp_upM_ne (by omega)]
    have e2 : N (k + 2) = M (k + 2) := by rw [hN, fp_upM_ne (by omega)]
    have e3 : N (k + 3) = M (k + 3) := by rw [hN, fp_upM_ne (by omega)]
    have e4 : N (k + 4) = fun j : Nat => if x * 8 + i < j ∧ (j : Int) ≤ x * 8 + M (k + 3) x.toNat then M (k + 4) (j - 1) else M (k + 4) j := by rw [hN, fp_upM_at]
    refine S.iload dX5_insert_27 rfl rfl ?_
    refine S.iload_n dX5_insert_29 rfl rfl rfl ?_
    refine S.icmp_le (tgt := 61) dX5_insert_30 (by decide) rfl (by unfold fp_rng; omega) (by unfold fp_rng; omega) (fun h30 => ?_) (fun h30 => ?_)
    · refine S.aload_n dX5_insert_61 rfl rfl rfl ?_
      refine S.getR dX5_insert_62 rfl fX5_21 (pl_lay hk) (pl_r3 hk) ?_
      refine S.iload dX5_insert_65 rfl rfl ?_
      refine S.iload_n dX5_insert_67 rfl rfl rfl ?_
      refine S.iadd dX5_insert_68 rfl ?_
      refine S.iload_n dX5_insert_69 rfl rfl rfl ?_
      refine S.iast dX5_insert_70 rfl (pl_a3 hk) (by omega) (by omega) ?_
      refine S.aload_n dX5_insert_71 rfl rfl rfl ?_
      refine S.getR dX5_insert_72 rfl fX5_18 (pl_lay hk) (pl_r2 hk) ?_
      refine S.iload_n dX5_insert_75 rfl rfl rfl ?_
      refine S.dup2 dX5_insert_76 rfl rfl rfl ?_
      refine S.iald dX5_insert_77 rfl (pl_a2 hk) (by omega) (by omega) ?_
      refine S.iconst dX5_insert_78 rfl ?_
      refine S.iadd dX5_insert_79 rfl ?_
      refine S.iast dX5_insert_80 rfl (pl_a2 hk) (by omega) (by omega) ?_
      refine S.aload_n dX5_insert_81 rfl rfl rfl ?_
      refine S.getR dX5_insert_82 rfl fX5_15 (pl_lay hk) (pl_r1 hk) ?_
      refine S.iload_n dX5_insert_85 rfl rfl rfl ?_
      refine S.aload_n dX5_insert_86 rfl rfl rfl ?_
      refine S.getR dX5_insert_87 rfl fX5_9 (pl_lay hk) (pl_r0 hk) ?_
      refine S.iload_n dX5_insert_90 rfl rfl rfl ?_
      refine S.iald dX5_insert_91 rfl (pl_a0 hk) (by omega) (by omega) ?_
      refine S.iast dX5_insert_92 rfl (pl_a1 hk) (by omega) (by omega) ?_
      refine S.aload_n dX5_insert_93 rfl rfl rfl ?_
      refine S.getR dX5_insert_94 rfl fX5_9 (pl_lay hk) (pl_r0 hk) ?_
      refine S.iload_n dX5_insert_97 rfl rfl rfl ?_
      refine S.bipush dX5_insert_98 rfl (by decide) ?_
      refine S.iload_n dX5_insert_100 rfl rfl rfl ?_
      refine S.iadd dX5_insert_101 rfl ?_
      refine S.iast dX5_insert_102 rfl (pl_a0 hk) (by omega) (by omega) ?_
      refine S.iconst dX5_insert_103 rfl ?_
      refine S.zret dX5_insert_104 rfl (by first | exact Or.inl rfl | exact Or.inr rfl | omega) ?_
      refine ⟨rfl, ?_⟩
      funext a
      unfold pl_ins fp_spl
      by_cases a1 : a = k + 1
      · subst a1; rw [fp_up_at, if_pos rfl, fp_up_ne (by omega), fp_up_ne (by omega), fp_up_ne (by omega), e1]
      · rw [fp_up_ne a1, if_neg a1]
        by_cases a2 : a = k + 2
        · subst a2; rw [fp_up_at, if_pos rfl, fp_up_ne (by omega), fp_up_ne (by omega), fp_up_ne (by omega), fp_up_ne (by omega), e1, e2]
        · rw [fp_up_ne a2, if_neg a2]
          by_cases a3 : a = k + 3
          · subst a3; rw [fp_up_at, if_pos rfl, fp_up_ne (by omega), e3]
          · rw [fp_up_ne a3, if_neg a3]
            by_cases a4 : a = k + 4
            · subst a4; rw [fp_up_at, if_pos rfl, e4]; funext j; dsimp only [fp_upf]; (repeat' split) <;> first | rfl | (exfalso; omega) | (congr 1; omega)
            · rw [fp_up_ne a4, if_neg a4, hN, fp_upM_ne a4]
    · refine S.aload_n dX5_insert_33 rfl rfl rfl ?_
      refine S.getR dX5_insert_34 rfl fX5_21 (pl_lay hk) (pl_r3 hk) ?_
      refine S.iload dX5_insert_37 rfl rfl ?_
      refine S.iload dX5_insert_39 rfl rfl ?_
      refine S.iadd dX5_insert_41 rfl ?_
      refine S.aload_n dX5_insert_42 rfl rfl rfl ?_
      refine S.getR dX5_insert_43 rfl fX5_21 (pl_lay hk) (pl_r3 hk) ?_
      refine S.iload dX5_insert_46 rfl rfl ?_
      refine S.iload dX5_insert_48 rfl rfl ?_
      refine S.iadd dX5_insert_50 rfl ?_
      refine S.iconst dX5_insert_51 rfl ?_
      refine S.isub dX5_insert_52 rfl ?_
      refine S.iald dX5_insert_53 rfl (pl_a3 hk) (by omega) (by omega) ?_
      refine S.iast dX5_insert_54 rfl (pl_a3 hk) (by omega) (by omega) ?_
      refine S.iinc (LL' := [_, _, _, _, _, _]) dX5_insert_55 rfl (by decide) rfl rfl rfl ?_
      refine S.goto (pc' := 27) dX5_insert_58 (by decide) ?_
      refine ih _ _ (by omega) (by omega) (by omega) ?_
      rw [hN, fp_up_same]
      refine congrArg (fp_upM _ (k + 4)) (funext fun j => ?_)
      rw [fp_upM_at]
      dsimp only [fp_upf]
      (repeat' split) <;> first | rfl | (exfalso; omega) | (congr 1; omega)
theorem ok_X5_insert {k : Nat} {t x s : Int} (hk : fp_ispl k) (ho : pl_ok M k := by assumption) (ht : 0 ≤ t ∧ t < 10 := by first | assumption | omega) (hx : 0 ≤ x ∧ x < 3 := by first | assumption | omega) (hs0 : 0 ≤ s := by omega) (hs1 : s ≤ M (k + 3) x.toNat := by omega) : fp_Ok l G 0 kX5_insert [rV G k, iV t, iV x, iV s] M (qE (if 8 ≤ M (k + 3) x.toNat then 0 else 1) (if 8 ≤ M (k + 3) x.toNat then M else pl_ins M k t x s)) := by
  have hsz := ho.2.1 x hx.1 hx.2
  refine fp_Ok.of (r := 2) rfl (Nat.le_of_ble_eq_true rfl) rfl ?_
  refine S.aload_n dX5_insert_0 rfl rfl rfl ?_
  refine S.getR dX5_insert_1 rfl fX5_18 (pl_lay hk) (pl_r2 hk) ?_
  refine S.iload_n dX5_insert_4 rfl rfl rfl ?_
  refine S.iald dX5_insert_5 rfl (pl_a2 hk) (by omega) (by omega) ?_
  refine S.bipush dX5_insert_6 rfl (by decide) ?_
  refine S.icmp_lt (tgt := 13) dX5_insert_8 (by decide) rfl (by unfold fp_rng; omega) (by unfold fp_rng; omega) (fun h8 => ?_) (fun h8 => ?_)
  · refine S.iload_n dX5_insert_13 rfl rfl rfl ?_
    refine S.bipush dX5_insert_14 rfl (by decide) ?_
    refine S.imul dX5_insert_16 rfl ?_
    refine S.istore (LL' := [_, _, _, _, _, _]) dX5_insert_17 rfl (by decide) rfl rfl ?_
    refine S.aload_n dX5_insert_19 rfl rfl rfl ?_
    refine S.getR dX5_insert_20 rfl fX5_18 (pl_lay hk) (pl_r2 hk) ?_
    refine S.iload_n dX5_insert_23 rfl rfl rfl ?_
    refine S.iald dX5_insert_24 rfl (pl_a2 hk) (by omega) (by omega) ?_
    refine S.istore (LL' := [_, _, _, _, _, _]) dX5_insert_25 rfl (by decide) rfl rfl ?_
    rw [if_neg (by omega), if_neg (by omega)]
    refine ins_loop hk ho hx hs0 hs1 (by omega) ht ((M (k + 3) x.toNat).toNat + 1) (M (k + 3) x.toNat) M (by omega) (by omega) (by omega) ?_
    rw [show (fun j : Nat => if x * 8 + M (k + 3) x.toNat < j ∧ (j : Int) ≤ x * 8 + M (k + 3) x.toNat then M (k + 4) (j - 1) else M (k + 4) j) = M (k + 4) from funext fun j => by rw [if_neg (by omega)], fp_upM_self]
  · refine S.iconst dX5_insert_11 rfl ?_
    refine S.zret dX5_insert_12 rfl (by first | exact Or.inl rfl | exact Or.inr rfl | omega) ?_
    exact ⟨by rw [if_pos (by omega)], by rw [if_pos (by omega)]⟩
/-- whether p can put t into x -/
def pl_can (M : fp_Mem) (k : Nat) (p t x : Int) : Prop := M (k + 1) t.toNat = p ∧ M (k + 3) x.toNat < 8
theorem ok_X5_append {k : Nat} {p t x : Int} (hk : fp_ispl k) (ho : pl_ok M k := by assumption) (hp : fp_rng p := by first | assumption | (unfold fp_rng; omega)) (ht : 0 ≤ t ∧ t < 10 := by first | assumption | omega) (hx : 0 ≤ x ∧ x < 3 := by first | assumption | omega) : fp_Ok l G 1 kX5_append [rV G k, iV p, iV t, iV x] M (qE (if M (k + 1) t.toNat = p ∧ M (k + 3) x.toNat < 8 then 1 else 0) (if M (k + 1) t.toNat = p ∧ M (k + 3) x.toNat < 8 then pl_ins M k t x (M (k + 3) x.toNat) else M)) := by
  have hsz := ho.2.1 x hx.1 hx.2
  have hw := ho.1 t ht.1 ht.2
  refine fp_Ok.of (r := 0) rfl (Nat.le_of_ble_eq_true rfl) rfl ?_
  by_cases h8 : 8 ≤ M (k + 3) x.toNat
  · refine S.aload_n dX5_append_0 rfl rfl rfl ?_
    refine S.getR dX5_append_1 rfl fX5_9 (pl_lay hk) (pl_r0 hk) ?_
    refine S.iload_n dX5_append_4 rfl rfl rfl ?_
    refine S.iald dX5_append_5 rfl (pl_a0 hk) (by omega) (by omega) ?_
    refine S.iload_n dX5_append_6 rfl rfl rfl ?_
    refine S.icmp_ne (tgt := 29) dX5_append_7 (by decide) rfl (by unfold fp_rng; omega) hp (fun h7 => ?_) (fun h7 => ?_)
    · refine S.iconst dX5_append_29 rfl ?_
      refine S.zret dX5_append_30 rfl (by first | exact Or.inl rfl | exact Or.inr rfl | omega) ?_
      exact ⟨by first | (exfalso; omega) | rw [if_neg (by omega)], by first | (exfalso; omega) | rw [if_neg (by omega)]⟩
    · refine S.aload_n dX5_append_10 rfl rfl rfl ?_
      refine S.iload_n dX5_append_11 rfl rfl rfl ?_
      refine S.iload_n dX5_append_12 rfl rfl rfl ?_
      refine S.aload_n dX5_append_13 rfl rfl rfl ?_
      refine S.getR dX5_append_14 rfl fX5_18 (pl_lay hk) (pl_r2 hk) ?_
      refine S.iload_n dX5_append_17 rfl rfl rfl ?_
      refine S.iald dX5_append_18 rfl (pl_a2 hk) (by omega) (by omega) ?_
      refine S.callVe dX5_append_19 rfl cX5_53 (ok_X5_insert hk) rfl (pl_lay hk) (by decide) rfl (Nat.le_of_ble_eq_true rfl) ?_
      rw [if_pos h8, if_pos h8]
      refine S.if_eq (tgt := 29) dX5_append_22 (by decide) rfl (by unfold fp_rng; omega) (fun h22 => ?_) (fun h22 => ?_)
      · refine S.iconst dX5_append_29 rfl ?_
        refine S.zret dX5_append_30 rfl (by first | exact Or.inl rfl | exact Or.inr rfl | omega) ?_
        exact ⟨by first | (exfalso; omega) | rw [if_neg (by omega)], by first | (exfalso; omega) | rw [if_neg (by omega)]⟩
      · refine S.iconst dX5_append_25 rfl ?_
        refine S.goto (pc' := 30) dX5_append_26 (by decide) ?_
        refine S.zret dX5_append_30 rfl (by first | exact Or.inl rfl | exact Or.inr rfl | omega) ?_
        exact ⟨by first | (exfalso; omega) | rw [if_neg (by omega)], by first | (exfalso; omega) | rw [if_neg (by omega)]⟩
  · refine S.aload_n dX5_append_0 rfl rfl rfl ?_
    refine S.getR dX5_append_1 rfl fX5_9 (pl_lay hk) (pl_r0 hk) ?_
    refine S.iload_n dX5_append_4 rfl rfl rfl ?_
    refine S.iald dX5_append_5 rfl (pl_a0 hk) (by omega) (by omega) ?_
    refine S.iload_n dX5_append_6 rfl rfl rfl ?_
    refine S.icmp_ne (tgt := 29) dX5_append_7 (by decide) rfl (by unfold fp_rng; omega) hp (fun h7 => ?_) (fun h7 => ?_)
    · refine S.iconst dX5_append_29 rfl ?_
      refine S.zret dX5_append_30 rfl (by first | exact Or.inl rfl | exact Or.inr rfl | omega) ?_
      exact ⟨by first | (exfalso; omega) | rw [if_neg (by omega)] | rw [if_pos ⟨by omega, by omega⟩], by first | (exfalso; omega) | rw [if_neg (by omega)] | rw [if_pos ⟨by omega, by omega⟩]⟩
    · refine S.aload_n dX5_append_10 rfl rfl rfl ?_
      refine S.iload_n dX5_append_11 rfl rfl rfl ?_
      refine S.iload_n dX5_append_12 rfl rfl rfl ?_
      refine S.aload_n dX5_append_13 rfl rfl rfl ?_
      refine S.getR dX5_append_14 rfl fX5_18 (pl_lay hk) (pl_r2 hk) ?_
      refine S.iload_n dX5_append_17 rfl rfl rfl ?_
      refine S.iald dX5_append_18 rfl (pl_a2 hk) (by omega) (by omega) ?_
      refine S.callVe dX5_append_19 rfl cX5_53 (ok_X5_insert hk) rfl (pl_lay hk) (by decide) rfl (Nat.le_of_ble_eq_true rfl) ?_
      rw [if_neg h8, if_neg h8]
      refine S.if_eq (tgt := 29) dX5_append_22 (by decide) rfl (by unfold fp_rng; omega) (fun h22 => ?_) (fun h22 => ?_)
      · refine S.iconst dX5_append_29 rfl ?_
        refine S.zret dX5_append_30 rfl (by first | exact Or.inl rfl | exact Or.inr rfl | omega) ?_
        exact ⟨by first | (exfalso; omega) | rw [if_neg (by omega)] | rw [if_pos ⟨by omega, by omega⟩], by first | (exfalso; omega) | rw [if_neg (by omega)] | rw [if_pos ⟨by omega, by omega⟩]⟩
      · refine S.iconst dX5_append_25 rfl ?_
        refine S.goto (pc' := 30) dX5_append_26 (by decide) ?_
        refine S.zret dX5_append_30 rfl (by first | exact Or.inl rfl | exact Or.inr rfl | omega) ?_
        exact ⟨by first | (exfalso; omega) | rw [if_neg (by omega)] | rw [if_pos ⟨by omega, by omega⟩], by first | (exfalso; omega) | rw [if_neg (by omega)] | rw [if_pos ⟨by omega, by omega⟩]⟩
theorem ok_X5_clear {k : Nat} (hk : fp_ispl k) : fp_Ok l G 1 kX5_clear [rV G k] M (qW (fp_spl M k (fun j => if (j : Int) < 10 then -4 else M (k + 1) j) (fun j => if (j : Int) < 10 then -4 else M (k + 2) j) (fun j => if (j : Int) < 3 then 0 else M (k + 3) j) (M (k + 4)))) := by
  refine fp_Ok.of (r := 0) rfl (Nat.le_of_ble_eq_true rfl) rfl ?_
  refine S.aload_n dX5_clear_0 rfl rfl rfl ?_
  refine S.getR dX5_clear_1 rfl fX5_9 (pl_lay hk) (pl_r0 hk) ?_
  refine S.bipush dX5_clear_4 rfl (by decide) ?_
  refine S.callSw dX5_clear_6 rfl cX5_24 (ok_J7_fill_53178 (pl_a0 hk)) rfl (by decide) rfl (Nat.le_of_ble_eq_true rfl) ?_
  refine S.aload_n dX5_clear_9 rfl rfl rfl ?_
  refine S.getR dX5_clear_10 rfl fX5_15 (pl_lay hk) (pl_r1 hk) ?_
  refine S.bipush dX5_clear_13 rfl (by decide) ?_
  refine S.callSw dX5_clear_15 rfl cX5_24 (ok_J7_fill_53178 (pl_a1 hk)) rfl (by decide) rfl (Nat.le_of_ble_eq_true rfl) ?_
  refine S.aload_n dX5_clear_18 rfl rfl rfl ?_
  refine S.getR dX5_clear_19 rfl fX5_18 (pl_lay hk) (pl_r2 hk) ?_
  refine S.iconst dX5_clear_22 rfl ?_
  refine S.callSw dX5_clear_23 rfl cX5_24 (ok_J7_fill_53178 (pl_a2 hk)) rfl (by decide) rfl (Nat.le_of_ble_eq_true rfl) ?_
  refine S.vret dX5_clear_26 rfl ?_
  show _ = _
  funext a
  unfold fp_spl
  by_cases a3 : a = k + 3
  · subst a3; rw [fp_upM_at, if_neg (by omega), if_neg (by omega), if_pos rfl, fp_upM_ne (by omega), fp_upM_ne (by omega)]; rfl
  · rw [fp_upM_ne a3]
    by_cases a2 : a = k + 2
    · subst a2; rw [fp_upM_at, if_neg (by omega), if_pos rfl, fp_upM_ne (by omega)]; rfl
    · rw [fp_upM_ne a2]
      by_cases a1 : a = k + 1
      · subst a1; rw [fp_upM_at, if_pos rfl]; rfl
      · rw [fp_upM_ne a1, if_neg a1, if_neg a2, if_neg a3]
        by_cases a4 : a = k + 4
        · subst a4; rw [if_pos rfl]
        · rw [if_neg a4]
theorem ok_X5_copyFrom {k k2 : Nat} (hk : fp_ispl k) (hk2 : fp_ispl k2) (hne : k2 + 4 < k + 1 ∨ k + 4 < k2 + 1) : fp_Ok l G 1 kX5_copyFrom [rV G k, rV G k2] M (qW (fp_spl M k (fun j => if j < 10 then M (k2 + 1) j else M (k + 1) j) (fun j => if j < 10 then M (k2 + 2) j else M (k + 2) j) (fun j => if j < 3 then M (k2 + 3) j else M (k + 3) j) (fun j => if j < 24 then M (k2 + 4) j else M (k + 4) j))) := by
  refine fp_Ok.of (r := 0) rfl (Nat.le_of_ble_eq_true rfl) rfl ?_
  refine S.aload_n dX5_copyFrom_0 rfl rfl rfl ?_
  refine S.getR dX5_copyFrom_1 rfl fX5_9 (pl_lay hk2) (pl_r0 hk2) ?_
  refine S.iconst dX5_copyFrom_4 rfl ?_
  refine S.aload_n dX5_copyFrom_5 rfl rfl rfl ?_
  refine S.getR dX5_copyFrom_6 rfl fX5_9 (pl_lay hk) (pl_r0 hk) ?_
  refine S.iconst dX5_copyFrom_9 rfl ?_
  refine S.aload_n dX5_copyFrom_10 rfl rfl rfl ?_
  refine S.getR dX5_copyFrom_11 rfl fX5_9 (pl_lay hk) (pl_r0 hk) ?_
  refine S.alen dX5_copyFrom_14 rfl (pl_a0 hk) (by decide) rfl (by first | assumption | decide) ?_
  refine S.copyi dX5_copyFrom_15 rfl aX5_30 (pl_a0 hk2) (pl_a0 hk) (by decide) (by decide) (by omega) (by omega) (by omega) (by omega) (by omega) (by decide) (Nat.le_of_ble_eq_true rfl) ?_
  refine S.aload_n dX5_copyFrom_18 rfl rfl rfl ?_
  refine S.getR dX5_copyFrom_19 rfl fX5_15 (pl_lay hk2) (pl_r1 hk2) ?_
  refine S.iconst dX5_copyFrom_22 rfl ?_
  refine S.aload_n dX5_copyFrom_23 rfl rfl rfl ?_
  refine S.getR dX5_copyFrom_24 rfl fX5_15 (pl_lay hk) (pl_r1 hk) ?_
  refine S.iconst dX5_copyFrom_27 rfl ?_
  refine S.aload_n dX5_copyFrom_28 rfl rfl rfl ?_
  refine S.getR dX5_copyFrom_29 rfl fX5_15 (pl_lay hk) (pl_r1 hk) ?_
  refine S.alen dX5_copyFrom_32 rfl (pl_a1 hk) (by decide) rfl (by first | assumption | decide) ?_
  refine S.copyi dX5_copyFrom_33 rfl aX5_30 (pl_a1 hk2) (pl_a1 hk) (by decide) (by decide) (by omega) (by omega) (by omega) (by omega) (by omega) (by decide) (Nat.le_of_ble_eq_true rfl) ?_
  refine S.aload_n dX5_copyFrom_36 rfl rfl rfl ?_
  refine S.getR dX5_copyFrom_37 rfl fX5_18 (pl_lay hk2) (pl_r2 hk2) ?_
  refine S.iconst dX5_copyFrom_40 rfl ?_
  refine S.aload_n dX5_copyFrom_41 rfl rfl rfl ?_
  refine S.getR dX5_copyFrom_42 rfl fX5_18 (pl_lay hk) (pl_r2 hk) ?_
  refine S.iconst dX5_copyFrom_45 rfl ?_
  refine S.aload_n dX5_copyFrom_46 rfl rfl rfl ?_
  refine S.getR dX5_copyFrom_47 rfl fX5_18 (pl_lay hk) (pl_r2 hk) ?_
  refine S.alen dX5_copyFrom_50 rfl (pl_a2 hk) (by decide) rfl (by first | assumption | decide) ?_
  refine S.copyi dX5_copyFrom_51 rfl aX5_30 (pl_a2 hk2) (pl_a2 hk) (by decide) (by decide) (by omega) (by omega) (by omega) (by omega) (by omega) (by decide) (Nat.le_of_ble_eq_true rfl) ?_
  refine S.aload_n dX5_copyFrom_54 rfl rfl rfl ?_
  refine S.getR dX5_copyFrom_55 rfl fX5_21 (pl_lay hk2) (pl_r3 hk2) ?_
  refine S.iconst dX5_copyFrom_58 rfl ?_
  refine S.aload_n dX5_copyFrom_59 rfl rfl rfl ?_
  refine S.getR dX5_copyFrom_60 rfl fX5_21 (pl_lay hk) (pl_r3 hk) ?_
  refine S.iconst dX5_copyFrom_63 rfl ?_
  refine S.aload_n dX5_copyFrom_64 rfl rfl rfl ?_
  refine S.getR dX5_copyFrom_65 rfl fX5_21 (pl_lay hk) (pl_r3 hk) ?_
  refine S.alen dX5_copyFrom_68 rfl (pl_a3 hk) (by decide) rfl (by first | assumption | decide) ?_
  refine S.copyi dX5_copyFrom_69 rfl aX5_30 (pl_a3 hk2) (pl_a3 hk) (by decide) (by decide) (by omega) (by omega) (by omega) (by omega) (by omega) (by decide) (Nat.le_of_ble_eq_true rfl) ?_
  refine S.vret dX5_copyFrom_72 rfl ?_
  show _ = _
  funext a
  unfold fp_spl
  by_cases a4 : a = k + 4
  · subst a4
    rw [fp_upM_at, if_neg (by omega), if_neg (by omega), if_neg (by omega), if_pos rfl]
    simp only [fp_upM_ne (show k2 + 4 ≠ k + 3 by omega), fp_upM_ne (show k2 + 4 ≠ k + 2 by omega), fp_upM_ne (show k2 + 4 ≠ k + 1 by omega), fp_upM_ne (show k + 4 ≠ k + 3 by omega), fp_upM_ne (show k + 4 ≠ k + 2 by omega), fp_upM_ne (show k + 4 ≠ k + 1 by omega)]
    funext j
    simp [va_cpy]
  · rw [fp_upM_ne a4]
    by_cases a3 : a = k + 3
    · subst a3
      rw [fp_upM_at, if_neg (by omega), if_neg (by omega), if_pos rfl]
      simp only [fp_upM_ne (show k2 + 3 ≠ k + 2 by omega), fp_upM_ne (show k2 + 3 ≠ k + 1 by omega), fp_upM_ne (show k + 3 ≠ k + 2 by omega), fp_upM_ne (show k + 3 ≠ k + 1 by omega)]
      funext j
      simp [va_cpy]
    · rw [fp_upM_ne a3]
      by_cases a2 : a = k + 2
      · subst a2
        rw [fp_upM_at, if_neg (by omega), if_pos rfl]
        simp only [fp_upM_ne (show k2 + 2 ≠ k + 1 by omega), fp_upM_ne (show k + 2 ≠ k + 1 by omega)]
        funext j
        simp [va_cpy]
      · rw [fp_upM_ne a2]
        by_cases a1 : a = k + 1
        · subst a1
          rw [fp_upM_at, if_pos rfl]
          funext j
          simp [va_cpy]
        · rw [fp_upM_ne a1, if_neg a1, if_neg a2, if_neg a3, if_neg a4]
end PLE
