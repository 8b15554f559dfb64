/-! A VISIT TOLD IN A TEXT: the reference, in abstract words -/
theorem mx_lt {a b n : Int} : mx a b < n ↔ (a < n ∧ b < n) := by
  unfold mx
  split <;> omega
theorem vs_R {tp : List Int} {D : pD} {st s put lo v1 v2 v3 v4 : Int} {r4 : Int ⊕ Int} (hv : vsR tp put lo s r4 v1 v2 v3 v4) (hlo : lo = aLast D.2.2.2.2.2) (hl : ¬ 12 ≤ D.2.2.2.2.2.length) : toR (pVisit tp st s put D) = stR tp r4 ∧ ∀ q, pVisit tp st s put D = .inr q → q.2 = pAdd D (v1, v2, v3, v4) := by
  obtain ⟨e1, e2, e3, e4⟩ := hv
  subst hlo
  unfold pVisit
  rw [if_neg hl]
  have hfin : ∀ s' D', toR (pFin tp s' D') = stR tp (.inr s') ∧ ∀ q, pFin tp s' D' = .inr q → q.2 = D' := by
    intro s' D'
    unfold pFin stR
    simp only
    by_cases a : spOk tp s'
    · rw [if_pos a, if_neg (fun q => q a)]
      exact ⟨rfl, fun q e => by cases e; rfl⟩
    · rw [if_neg a, if_pos a]
      exact ⟨rfl, fun q e => by cases e⟩
  by_cases a1 : nmOk tp s (aLast D.2.2.2.2.2) 99
  · rw [if_neg (fun q => q a1)]
    simp only [nuR, nuV, if_pos a1] at e1 e2 e3 e4
    by_cases a2 : nmOk tp (nxt tp s) 0 3
    · rw [if_neg (fun q => q a2)]
      simp only [nuR, nuV, if_pos a2] at e2 e3 e4
      by_cases a3 : nmOk tp (nxt tp (nxt tp s)) 0 2
      · rw [if_neg (fun q => q a3)]
        simp only [nuR, nuV, if_pos a3] at e3 e4
        by_cases hp : put = 0
        · rw [if_pos hp] at e4 ⊢
          rw [e4.2, e1, e2, e3, e4.1]
          exact hfin _ _
        · rw [if_neg hp] at e4 ⊢
          by_cases a4 : nmOk tp (nxt tp (nxt tp (nxt tp s))) 0 9
          · rw [if_neg (fun q => q a4)]
            simp only [if_pos a4] at e4
            rw [e4.2, e1, e2, e3, e4.1]
            exact hfin _ _
          · rw [if_pos a4]
            simp only [if_neg a4] at e4
            rw [e4.2]
            exact ⟨rfl, fun q e => by cases e⟩
      · rw [if_pos a3]
        simp only [nuR, nuV, if_neg a3] at e4
        have : r4 = .inl (tkS tp (nxt tp (nxt tp s))) := by split at e4 <;> exact e4.2
        rw [this]
        exact ⟨rfl, fun q e => by cases e⟩
    · rw [if_pos a2]
      simp only [nuR, nuV, if_neg a2] at e4
      have : r4 = .inl (tkS tp (nxt tp s)) := by split at e4 <;> exact e4.2
      rw [this]
      exact ⟨rfl, fun q e => by cases e⟩
  · rw [if_pos a1]
    simp only [nuR, nuV, if_neg a1] at e4
    have : r4 = .inl (tkS tp s) := by split at e4 <;> exact e4.2
    rw [this]
    exact ⟨rfl, fun q e => by cases e⟩
theorem vsR.in {tp : List Int} {s put lo v1 v2 v3 v4 : Int} {r4 : Int ⊕ Int} (hv : vsR tp put lo s r4 v1 v2 v3 v4) : (0 ≤ v3 ∧ v3 ≤ 2) ∧ -4 ≤ v4 ∧ v4 ≤ 9 := by
  obtain ⟨e1, e2, e3, e4⟩ := hv
  have b3 := nuV_in (tp := tp) (lo := 0) (hi := 2) (nuR tp 0 3 (nuR tp lo 99 (.inr s))) (by omega)
  have b4 := nuV_in (tp := tp) (lo := 0) (hi := 9) (nuR tp 0 2 (nuR tp 0 3 (nuR tp lo 99 (.inr s)))) (by omega)
  refine ⟨by omega, ?_⟩
  split at e4 <;> omega
theorem vs_D {M : fp_Mem} {D : pD} {n v1 v2 v3 v4 : Int} (hd : mrD M D) (hD : dOk D) (hn : n = (D.2.2.2.2.2.length : Int)) (hl : n < 12) (h3 : 0 ≤ v3 ∧ v3 ≤ 2) (h4 : -4 ≤ v4 ∧ v4 ≤ 9) : mrD (vsA M n v1 v2 v3 v4) (pAdd D (v1, v2, v3, v4)) := by
  obtain ⟨d1, d2, d3, d4, d5, d6, d7⟩ := hd
  have e2 : vsA M n v1 v2 v3 v4 182 = fp_upf (fp_upf (fp_upf (fp_upf (fp_upf (M 182) (47 + 4 * n).toNat v1) (47 + 4 * n + 1).toNat v2) (47 + 4 * n + 2).toNat v3) (47 + 4 * n + 3).toNat v4) 95 (n + 1) := rfl
  have hne : ∀ j : Nat, ((j : Int) < 47 + 4 * n ∨ 47 + 4 * n + 3 < (j : Int)) → j ≠ 95 → vsA M n v1 v2 v3 v4 182 j = M 182 j := by
    intro j hj h95
    rw [e2, fp_upf_ne h95, fp_upf_ne (by omega), fp_upf_ne (by omega), fp_upf_ne (by omega), fp_upf_ne (by omega)]
  have g1 := hD.1.1
  refine ⟨d1, ⟨fun t t0 t1 => ?_, fun x x0 x1 => ?_⟩, ⟨?_, ?_, fun i i0 i1 => ?_⟩, d4, d5, ?_, ?_⟩
  · have t2 : t < D.1.1 := t1
    rw [hne _ (by omega) (by omega)]
    exact d2.1 t t0 t1
  · obtain ⟨p1, p2⟩ := d2.2 x x0 x1
    have hlen := (hD.2.2.1 x x0 x1).1
    refine ⟨by rw [hne _ (by omega) (by omega)]; exact p1, fun i i0 i1 => ?_⟩
    have i2 : i < ((D.2.2.1 x).length : Int) := i1
    rw [hne _ (by omega) (by omega)]
    exact p2 i i0 i1
  · show vsA M n v1 v2 v3 v4 182 95 = ((D.2.2.2.2.2 ++ [(v1, v2, v3, v4)]).length : Int)
    rw [List.length_append, e2]
    show n + 1 = _
    rw [hn]; rfl
  · show (D.2.2.2.2.2 ++ [(v1, v2, v3, v4)]).length ≤ 12
    rw [List.length_append, List.length_singleton]; omega
  · have i2 : i < ((D.2.2.2.2.2 ++ [(v1, v2, v3, v4)]).length : Int) := i1
    rw [List.length_append, List.length_singleton] at i2
    show _ = ((D.2.2.2.2.2 ++ [(v1, v2, v3, v4)]).getD i.toNat aV0).1 ∧ _ = ((D.2.2.2.2.2 ++ [(v1, v2, v3, v4)]).getD i.toNat aV0).2.1 ∧ _ = ((D.2.2.2.2.2 ++ [(v1, v2, v3, v4)]).getD i.toNat aV0).2.2.1 ∧ _ = ((D.2.2.2.2.2 ++ [(v1, v2, v3, v4)]).getD i.toNat aV0).2.2.2
    by_cases e : i < n
    · rw [fp_appD, if_pos (by omega), hne _ (by omega) (by omega), hne _ (by omega) (by omega), hne _ (by omega) (by omega), hne _ (by omega) (by omega)]
      exact d3.2.2 i i0 (by omega)
    · have ei : i = n := by omega
      subst ei
      rw [fp_appD, if_neg (by omega), if_pos (by omega)]
      show _ = v1 ∧ _ = v2 ∧ _ = v3 ∧ _ = v4
      rw [e2]
      refine ⟨?_, ?_, ?_, ?_⟩
      · rw [fp_upf_ne (by omega), fp_upf_ne (by omega), fp_upf_ne (by omega), fp_upf_ne (by omega)]; simp [fp_upf]
      · rw [fp_upf_ne (by omega), fp_upf_ne (by omega), fp_upf_ne (by omega)]; simp [fp_upf]
      · rw [fp_upf_ne (by omega), fp_upf_ne (by omega)]; simp [fp_upf]
      · rw [fp_upf_ne (by omega)]; simp [fp_upf]
  · rw [hne _ (by omega) (by omega)]; exact d6
  · obtain ⟨k1, k2, k3, k4⟩ := d7
    show mrH (mx v4 (M 177 15)) (mx v3 (M 177 16)) D.2.2.1 (D.2.2.2.2.2 ++ [(v1, v2, v3, v4)])
    refine ⟨?_, ?_, fun m m0 => ?_, fun m m0 => ?_⟩
    · unfold mx; split <;> omega
    · unfold mx; split <;> omega
    · rw [mx_lt, k3 m m0]
      constructor
      · rintro ⟨a, b, c⟩
        refine ⟨b, fun v hv => ?_⟩
        rcases List.mem_append.mp hv with q | q
        · exact c v q
        · rw [List.mem_singleton] at q; subst q; exact a
      · rintro ⟨b, c⟩
        exact ⟨c (v1, v2, v3, v4) (List.mem_append.mpr (Or.inr (List.mem_singleton.mpr rfl))), b, fun v hv => c v (List.mem_append.mpr (Or.inl hv))⟩
    · rw [mx_lt, k4 m m0]
      constructor
      · rintro ⟨a, c⟩ v hv
        rcases List.mem_append.mp hv with q | q
        · exact c v q
        · rw [List.mem_singleton] at q; subst q; exact a
      · intro c
        exact ⟨c (v1, v2, v3, v4) (List.mem_append.mpr (Or.inr (List.mem_singleton.mpr rfl))), fun v hv => c v (List.mem_append.mpr (Or.inl hv))⟩
section MVJ
variable {l : Launch} {G : fp_WG} {M N A : fp_Mem} {tp : List Int} {r r' : Int ⊕ Int} {D : pD}
/-- refused ahead of a step -/
theorem rl_no {s w : Int} {p : Int ⊕ (Int × pD)} (hi : mrI M) (hg : mtG tp M s) (hw : 1 ≤ w ∧ w ≤ 6) (hp : p = .inl (tkS tp s)) : rlP tp M (fp_up (fp_up M 177 21 w) 177 22 (M 177 24)) p := by
  refine ⟨((frQ.refl M).up (by omega)).up (by omega), hi.kept rfl rfl rfl, .inl (tkS tp s), ⟨hw, ?_⟩, by rw [hp]; rfl, fun q e => by rw [hp] at e; cases e⟩
  exact hg.1
theorem rk_X12_readVisit {s put : Int} (ht : tpOk tp) (hm : mtT M tp) (hq : mq tp M (.inr s)) (ho : mtO tp M s) (hi : mrI M) (hd : mrD M D) (hD : dOk D) (hp : put = 0 ∨ put = 1) : fp_Ok l G 3 kX12_readVisit [rV G 177, iV put] M (qV fun N => rlP tp M N (pVisit tp (tkS tp s) (nxt tp s) put D)) := by
  have h95 : M 182 95 = (D.2.2.2.2.2.length : Int) := hd.2.2.1.1
  have h12 := hD.2.2.2.2.2.2.1
  by_cases hl : 12 ≤ D.2.2.2.2.2.length
  · refine fp_Ok.of (r := 2) rfl (Nat.le_of_ble_eq_true rfl) rfl ?_
    have hpn : pVisit tp (tkS tp s) (nxt tp s) put D = .inl (tkS tp s) := by unfold pVisit; rw [if_pos hl]
    refine S.aload_n (pc' := 1) dX12_readVisit_0 rfl rfl rfl ?_
    refine S.getR (pc' := 4) dX12_readVisit_1 rfl fX12_26 L_177 rf_177_7 ?_
    refine S.bipush (pc' := 6) dX12_readVisit_4 rfl (by decide) ?_
    refine S.iald (pc' := 7) dX12_readVisit_6 rfl L_182 (by decide) (by decide) ?_
    rw [show M 182 (95 : Int).toNat = _ from h95]
    refine S.istore_n (pc' := 8) (LL' := [_, _, _, _]) dX12_readVisit_7 rfl (by decide) rfl rfl rfl ?_
    refine S.iload_n (pc' := 9) dX12_readVisit_8 rfl rfl rfl ?_
    refine S.bipush (pc' := 11) dX12_readVisit_9 rfl (by decide) ?_
    refine S.icmp_ne (pc' := 14) (tgt := 20) dX12_readVisit_11 (by decide) rfl (by unfold fp_rng; omega) (by unfold fp_rng; omega) (fun h11 => ?_) (fun h11 => ?_)
    · exfalso; omega
    · refine S.aload_n (pc' := 15) dX12_readVisit_14 rfl rfl rfl ?_
      refine S.iconst (pc' := 16) dX12_readVisit_15 rfl ?_
      refine S.callVw (pc' := 19) dX12_readVisit_16 rfl cX12_128 (mt_fails0 ho.1) rfl L_177 (by decide) rfl (Nat.le_of_ble_eq_true rfl) ?_
      refine S.vret dX12_readVisit_19 rfl ?_
      exact rl_no hi hq.2.1 (by omega) hpn
  · have hlo : aLast D.2.2.2.2.2 = if (D.2.2.2.2.2.length : Int) = 0 then 0 else M 182 (47 + 4 * (D.2.2.2.2.2.length : Int) - 4).toNat := by
      unfold aLast
      by_cases e0 : D.2.2.2.2.2.length = 0
      · rw [if_pos e0, if_pos (by omega)]
      · rw [if_neg e0, if_neg (by omega)]
        have := (hd.2.2.1.2.2 ((D.2.2.2.2.2.length : Int) - 1) (by omega) (by omega)).1
        rw [show (D.2.2.2.2.2.length : Int) - 1 = ((D.2.2.2.2.2.length - 1 : Nat) : Int) by omega, Int.toNat_natCast] at this
        rw [← this, show (47 + 4 * (D.2.2.2.2.2.length : Int) - 4).toNat = (47 + 4 * ((D.2.2.2.2.2.length - 1 : Nat) : Int)).toNat by omega]
    have hlo9 : 0 ≤ aLast D.2.2.2.2.2 ∧ aLast D.2.2.2.2.2 ≤ 99 := by
      unfold aLast
      by_cases e0 : D.2.2.2.2.2.length = 0
      · rw [if_pos e0]; omega
      · rw [if_neg e0]
        refine (hD.2.2.2.2.2.2.2 _ ?_).1
        rw [List.getD_eq_getElem?_getD, List.getElem?_eq_getElem (by omega)]
        exact List.getElem_mem _
    refine fp_Ok.wV (mt_visit ht hm hq ho h95 (by omega) hp hlo hlo9 hd.2.2.2.2.2.2.1 hd.2.2.2.2.2.2.2.1) (fun N q => ?_)
    obtain ⟨r4, v1, v2, v3, v4, q1, q2⟩ := q
    have hin := q1.in
    have hR := vs_R (st := tkS tp s) q1 rfl hl
    have hDD := vs_D (v1 := v1) (v2 := v2) (v3 := v3) (v4 := v4) hd hD rfl (by omega) hin.1 hin.2
    refine ⟨frQ.trans ?_ q2.1.Q, q2.1.I (hi.kept rfl rfl rfl), r4, q2.2, hR.1, fun q e => ?_⟩
    · unfold vsA
      exact (((((((frQ.refl M).up (by omega)).up (by omega)).up (by omega)).up (by omega)).up (by omega)).up (by omega)).up (by omega)
    · rw [hR.2 q e]; exact q2.1.D hDD
end MVJ
