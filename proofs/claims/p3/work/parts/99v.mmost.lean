/-! most: the reference's own draws, its levels -/
def aOwn (vs : List aVt) (p i : Int) : Bool := decide ((vs.getD i.toNat aV0).2.1 = p ∧ (vs.getD i.toNat aV0).2.2.2 = -4)
section MMO
variable {l : Launch} {G : fp_WG} {M N : fp_Mem} {g : aGd} {pg : aPg} {vs : List aVt}
theorem rk_X12_isOwn {p i : Int} (hv : mvIs M vs) (hvo : vsOk g vs) (hg : gOk g) (hp : fp_rng p) (hi : 0 ≤ i ∧ i < (vs.length : Int)) : fp_Ok l G 0 kX12_isOwn [rV G 177, iV p, iV i] M (qE (if aOwn vs p i = true then 1 else 0) M) := by
  refine fp_Ok.of (r := 0) rfl (Nat.le_of_ble_eq_true rfl) rfl ?_
  obtain ⟨h1, h2, h3⟩ := hv
  obtain ⟨k1, k2, k3, k4⟩ := h3 i hi.1 hi.2
  have hm : vs.getD i.toNat aV0 ∈ vs := by
    rw [List.getD_eq_getElem?_getD, List.getElem?_eq_getElem (by omega)]; exact List.getElem_mem _
  obtain ⟨o1, o2, o3, o4⟩ := hvo _ hm
  have g1 := hg.1
  unfold aOwn
  simp only [decide_eq_true_eq]
  generalize (vs.getD i.toNat aV0).2.1 = a at *
  generalize (vs.getD i.toNat aV0).2.2.2 = b at *
  refine S.aload_n (pc' := 1) dX12_isOwn_0 rfl rfl rfl ?_
  refine S.getR (pc' := 4) dX12_isOwn_1 rfl fX12_7 L_177 rf_177_0 ?_
  refine S.bipush (pc' := 6) dX12_isOwn_4 rfl (by decide) ?_
  refine S.iconst (pc' := 7) dX12_isOwn_6 rfl ?_
  refine S.iload_n (pc' := 8) dX12_isOwn_7 rfl rfl rfl ?_
  refine S.imul (pc' := 9) dX12_isOwn_8 rfl ?_
  refine S.iadd (pc' := 10) dX12_isOwn_9 rfl ?_
  refine S.iconst (pc' := 11) dX12_isOwn_10 rfl ?_
  refine S.iadd (pc' := 12) dX12_isOwn_11 rfl ?_
  refine S.iald (pc' := 13) dX12_isOwn_12 rfl L_178 (by omega) (by omega) ?_
  rw [k2]
  refine S.iload_n (pc' := 14) dX12_isOwn_13 rfl rfl rfl ?_
  refine S.icmp_ne (pc' := 17) (tgt := 39) dX12_isOwn_14 (by decide) rfl (by unfold fp_rng; omega) hp (fun h14 => ?_) (fun h14 => ?_)
  · refine S.iconst (pc' := 40) dX12_isOwn_39 rfl ?_
    refine S.zret dX12_isOwn_40 rfl (by first | exact Or.inl rfl | exact Or.inr rfl | omega) ?_
    first
    | exact ⟨by rw [if_pos ⟨by omega, by omega⟩], rfl⟩
    | exact ⟨by rw [if_neg (fun q => by omega)], rfl⟩
  · refine S.aload_n (pc' := 18) dX12_isOwn_17 rfl rfl rfl ?_
    refine S.getR (pc' := 21) dX12_isOwn_18 rfl fX12_7 L_177 rf_177_0 ?_
    refine S.bipush (pc' := 23) dX12_isOwn_21 rfl (by decide) ?_
    refine S.iconst (pc' := 24) dX12_isOwn_23 rfl ?_
    refine S.iload_n (pc' := 25) dX12_isOwn_24 rfl rfl rfl ?_
    refine S.imul (pc' := 26) dX12_isOwn_25 rfl ?_
    refine S.iadd (pc' := 27) dX12_isOwn_26 rfl ?_
    refine S.iconst (pc' := 28) dX12_isOwn_27 rfl ?_
    refine S.iadd (pc' := 29) dX12_isOwn_28 rfl ?_
    refine S.iald (pc' := 30) dX12_isOwn_29 rfl L_178 (by omega) (by omega) ?_
    rw [k4]
    refine S.bipush (pc' := 32) dX12_isOwn_30 rfl (by decide) ?_
    refine S.icmp_ne (pc' := 35) (tgt := 39) dX12_isOwn_32 (by decide) rfl (by unfold fp_rng; omega) (by unfold fp_rng; omega) (fun h32 => ?_) (fun h32 => ?_)
    · refine S.iconst (pc' := 40) dX12_isOwn_39 rfl ?_
      refine S.zret dX12_isOwn_40 rfl (by first | exact Or.inl rfl | exact Or.inr rfl | omega) ?_
      first
      | exact ⟨by rw [if_pos ⟨by omega, by omega⟩], rfl⟩
      | exact ⟨by rw [if_neg (fun q => by omega)], rfl⟩
    · refine S.iconst (pc' := 36) dX12_isOwn_35 rfl ?_
      refine S.goto (pc' := 40) dX12_isOwn_36 (by decide) ?_
      refine S.zret dX12_isOwn_40 rfl (by first | exact Or.inl rfl | exact Or.inr rfl | omega) ?_
      first
      | exact ⟨by rw [if_pos ⟨by omega, by omega⟩], rfl⟩
      | exact ⟨by rw [if_neg (fun q => by omega)], rfl⟩
/-- a level is kept: the row of levels alone differs -/
def svP (M N : fp_Mem) (i : Int) : Prop := (∀ c, c ≠ 189 → N c = M c) ∧ ∀ j : Nat, N 189 j = if 40 * i ≤ (j : Int) ∧ (j : Int) < 40 * i + 40 then M 178 (360 + ((j : Int) - 40 * i)).toNat else M 189 j
theorem rk_X12_saves {i : Int} (hi : 0 ≤ i ∧ i < 14) : fp_Ok l G 0 kX12_saves [rV G 177, iV i] M (qV fun N => svP M N i) := by
  refine fp_Ok.of (r := 1) rfl (Nat.le_of_ble_eq_true rfl) rfl ?_
  have hL : ∀ (r : Nat) (k : Int) (N : fp_Mem), (40 - k).toNat < r → 0 ≤ k → k ≤ 40 → (∀ c, c ≠ 189 → N c = M c) → (∀ j : Nat, N 189 j = if 40 * i ≤ (j : Int) ∧ (j : Int) < 40 * i + k then M 178 (360 + ((j : Int) - 40 * i)).toNat else M 189 j) → fp_S l G 0 kX12_saves 2 [some (rV G 177), some (iV i), some (iV k)] [] N (qV fun N => svP M N i) := by
    intro r
    induction r with
    | zero => intro k N hr; omega
    | succ r ih =>
      intro k N hr k0 k1 hf hR
      by_cases hk : k < 40
      · refine S.iload_n (pc' := 3) dX12_saves_2 rfl rfl rfl ?_
        refine S.bipush (pc' := 5) dX12_saves_3 rfl (by decide) ?_
        refine S.icmp_ge (pc' := 8) (tgt := 35) dX12_saves_5 (by decide) rfl (by unfold fp_rng; omega) (by unfold fp_rng; omega) (fun h5 => ?_) (fun h5 => ?_)
        · exfalso; omega
        · refine S.aload_n (pc' := 9) dX12_saves_8 rfl rfl rfl ?_
          refine S.getR (pc' := 12) dX12_saves_9 rfl fX12_47 L_177 rf_177_29 ?_
          refine S.bipush (pc' := 14) dX12_saves_12 rfl (by decide) ?_
          refine S.iload_n (pc' := 15) dX12_saves_14 rfl rfl rfl ?_
          refine S.imul (pc' := 16) dX12_saves_15 rfl ?_
          refine S.iload_n (pc' := 17) dX12_saves_16 rfl rfl rfl ?_
          refine S.iadd (pc' := 18) dX12_saves_17 rfl ?_
          refine S.aload_n (pc' := 19) dX12_saves_18 rfl rfl rfl ?_
          refine S.getR (pc' := 22) dX12_saves_19 rfl fX12_7 L_177 rf_177_0 ?_
          refine S.sipush (pc' := 25) dX12_saves_22 rfl (by decide) ?_
          refine S.iload_n (pc' := 26) dX12_saves_25 rfl rfl rfl ?_
          refine S.iadd (pc' := 27) dX12_saves_26 rfl ?_
          refine S.iald (pc' := 28) dX12_saves_27 rfl L_178 (by omega) (by omega) ?_
          refine S.iast (pc' := 29) dX12_saves_28 rfl L_189 (by omega) (by omega) ?_
          refine S.iinc (pc' := 32) (LL' := [_, _, _]) dX12_saves_29 rfl (by decide) rfl rfl rfl ?_
          refine S.goto (pc' := 2) dX12_saves_32 (by decide) ?_
          refine ih (k + 1) _ (by omega) (by omega) (by omega) (fun c hc => by rw [fp_up_ne hc]; exact hf c hc) (fun j => ?_)
          rw [fp_up_at, hf 178 (by decide)]
          by_cases e : j = (40 * i + k).toNat
          · rw [if_pos (by omega), e, show (360 + ((((40 * i + k).toNat : Nat) : Int) - 40 * i)) = 360 + k by omega]; simp [fp_upf]
          · rw [fp_upf_ne e, hR j]
            by_cases e2 : 40 * i ≤ (j : Int) ∧ (j : Int) < 40 * i + k
            · rw [if_pos e2, if_pos (by omega)]
            · rw [if_neg e2, if_neg (by omega)]
      · have e : k = 40 := by omega
        subst e
        refine S.iload_n (pc' := 3) dX12_saves_2 rfl rfl rfl ?_
        refine S.bipush (pc' := 5) dX12_saves_3 rfl (by decide) ?_
        refine S.icmp_ge (pc' := 8) (tgt := 35) dX12_saves_5 (by decide) rfl (by unfold fp_rng; omega) (by unfold fp_rng; omega) (fun h5 => ?_) (fun h5 => ?_)
        · refine S.vret dX12_saves_35 rfl ?_
          exact ⟨hf, hR⟩
        · exfalso; omega
  refine S.iconst (pc' := 1) dX12_saves_0 rfl ?_
  refine S.istore_n (pc' := 2) (LL' := [_, _, _]) dX12_saves_1 rfl (by decide) rfl rfl rfl ?_
  exact hL 41 0 M (by omega) (by omega) (by omega) (fun _ _ => rfl) (fun j => by rw [if_neg (by omega)])
end MMO
