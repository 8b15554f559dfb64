/-! CHANCES laid, the reference -/
section MCR
variable {l : Launch} {G : fp_WG} {M N : fp_Mem} {g : aGd} {pg : aPg} {vs : List aVt}
theorem ch_z {Q : fp_Q} {x n : Int} {o4 o5 o6 o7 : Option Value} (K : ∀ (N : fp_Mem), (∀ a, a ≠ 192 → N a = M a) → (∀ j : Nat, j < 10 → N 192 j = 0) → fp_S l G 5 kX12_layChances 31 [some (rV G 177), some (iV x), some (iV n), some (iV 10), o4, o5, o6, o7] [] N Q) : ∀ (k : Nat) (i : Int) (N : fp_Mem), (10 - i).toNat < k → 0 ≤ i → i ≤ 10 → (∀ a, a ≠ 192 → N a = M a) → (∀ j : Nat, (j : Int) < i → N 192 j = 0) →
    fp_S l G 5 kX12_layChances 12 [some (rV G 177), some (iV x), some (iV n), some (iV i), o4, o5, o6, o7] [] N Q := by
  intro k
  induction k with
  | zero => intro i N hk; omega
  | succ k ih =>
    intro i N hk i0 i1 hf hz
    by_cases hi : i < 10
    · refine S.iload_n (pc' := 13) dX12_layChances_12 rfl rfl rfl ?_
      refine S.bipush (pc' := 15) dX12_layChances_13 rfl (by decide) ?_
      refine S.icmp_ge (pc' := 18) (tgt := 31) dX12_layChances_15 (by decide) rfl (by unfold fp_rng; omega) (by unfold fp_rng; omega) (fun h15 => ?_) (fun h15 => ?_)
      · exfalso; omega
      · refine S.aload_n (pc' := 19) dX12_layChances_18 rfl rfl rfl ?_
        refine S.getR (pc' := 22) dX12_layChances_19 rfl fX12_56 L_177 rf_177_32 ?_
        refine S.iload_n (pc' := 23) dX12_layChances_22 rfl rfl rfl ?_
        refine S.lconst (pc' := 24) (w := 0) dX12_layChances_23 rfl rfl ?_
        refine S.last (pc' := 25) dX12_layChances_24 rfl L_192 (by omega) (by omega) ?_
        refine S.iinc (pc' := 28) (LL' := [_, _, _, _, _, _, _, _]) dX12_layChances_25 rfl (by decide) rfl rfl rfl ?_
        refine S.goto (pc' := 12) dX12_layChances_28 (by decide) ?_
        refine ih (i + 1) _ (by omega) (by omega) (by omega) (fun a ha => by rw [fp_up_ne ha]; exact hf a ha) (fun j hj => ?_)
        rw [fp_up_at]
        by_cases e : j = i.toNat
        · subst e; simp [fp_upf]
        · rw [fp_upf_ne e]; exact hz j (by omega)
    · have e : i = 10 := by omega
      subst e
      refine S.iload_n (pc' := 13) dX12_layChances_12 rfl rfl rfl ?_
      refine S.bipush (pc' := 15) dX12_layChances_13 rfl (by decide) ?_
      refine S.icmp_ge (pc' := 18) (tgt := 31) dX12_layChances_15 (by decide) rfl (by unfold fp_rng; omega) (by unfold fp_rng; omega) (fun h15 => ?_) (fun h15 => ?_)
      · exact K _ hf (fun j hj => hz j (by omega))
      · exfalso; omega
theorem ch_w {Q : fp_Q} {x : Int} {n : Nat} {o4 o5 o6 o7 : Option Value} (hn : n ≤ 12) (K : fp_S l G 5 kX12_layChances 56 [some (rV G 177), some (iV x), some (iV (n : Int)), some (iV (n : Int)), o4, o5, o6, o7] [] (fp_up M 177 33 (10 ^ n)) Q) : ∀ (k i : Nat), n - i < k → i ≤ n →
    fp_S l G 5 kX12_layChances 33 [some (rV G 177), some (iV x), some (iV (n : Int)), some (iV (i : Int)), o4, o5, o6, o7] [] (fp_up M 177 33 (10 ^ i)) Q := by
  intro k
  induction k with
  | zero => intro i hk; omega
  | succ k ih =>
    intro i hk i1
    by_cases hi : i < n
    · have e : fp_up M 177 33 (10 ^ i) 177 33 = 10 ^ i := rfl
      refine S.iload_n (pc' := 34) dX12_layChances_33 rfl rfl rfl ?_
      refine S.iload_n (pc' := 35) dX12_layChances_34 rfl rfl rfl ?_
      refine S.icmp_ge (pc' := 38) (tgt := 56) dX12_layChances_35 (by decide) rfl (by unfold fp_rng; omega) (by unfold fp_rng; omega) (fun h35 => ?_) (fun h35 => ?_)
      · exfalso; omega
      · refine S.aload_n (pc' := 39) dX12_layChances_38 rfl rfl rfl ?_
        refine S.dup (pc' := 40) dX12_layChances_39 rfl rfl ?_
        refine S.getJ (pc' := 43) dX12_layChances_40 rfl fX12_289 L_177 ?_
        refine S.ldc2 (pc' := 46) (v := 10) dX12_layChances_43 rfl lX12_212 (by decide) ?_
        refine S.lmul (pc' := 47) dX12_layChances_46 rfl ?_
        rw [e, show (10 : Int) ^ i * 10 = 10 ^ (i + 1) from (Int.pow_succ 10 i).symm]
        refine S.putJ (pc' := 50) dX12_layChances_47 rfl fX12_289 L_177 ?_
        rw [fp_up_up]
        refine S.iinc (pc' := 53) (LL' := [_, _, _, _, _, _, _, _]) dX12_layChances_50 rfl (by decide) rfl rfl rfl ?_
        refine S.goto (pc' := 33) dX12_layChances_53 (by decide) ?_
        rw [show ((i : Int) + 1) = ((i + 1 : Nat) : Int) by omega]
        exact ih (i + 1) (by omega) (by omega)
    · have e : i = n := by omega
      subst e
      refine S.iload_n (pc' := 34) dX12_layChances_33 rfl rfl rfl ?_
      refine S.iload_n (pc' := 35) dX12_layChances_34 rfl rfl rfl ?_
      refine S.icmp_ge (pc' := 38) (tgt := 56) dX12_layChances_35 (by decide) rfl (by unfold fp_rng; omega) (by unfold fp_rng; omega) (fun h35 => ?_) (fun h35 => ?_)
      · exact K
      · exfalso; omega
def frJ (M N : fp_Mem) : Prop := (∀ c, c ≠ 177 → c ≠ 178 → c ≠ 192 → N c = M c) ∧ (∀ j, j ≠ 33 → N 177 j = M 177 j) ∧ ∀ j : Nat, (j < 360 ∨ 410 ≤ j) → N 178 j = M 178 j
theorem rk_X12_layChances {x : Int} (hg : gOk g) (hP : pgOk g pg) (hvo : vsOk g vs) (hl : vs.length ≤ 10) (hx : 0 ≤ x ∧ x < g.2.1) (hd0 : mdIs M g) (hv0 : mvIs M vs) (hp0 : mpIs M 0 g pg) : fp_Ok l G 5 kX12_layChances [rV G 177, iV x] M (qV fun N => frJ M N ∧ N 177 33 = 10 ^ vs.length ∧ ∀ t : Int, 0 ≤ t → t < 10 → N 192 t.toNat = chF g pg vs x (2 ^ vs.length) t) := by
  refine fp_Ok.of (r := 6) rfl (Nat.le_of_ble_eq_true rfl) rfl ?_
  have h95 : M 178 95 = (vs.length : Int) := hv0.1
  have h31 : ∀ (N : fp_Mem), (∀ a, a ≠ 192 → N a = fp_up M 177 33 (10 ^ 0) a) → (∀ j : Nat, j < 10 → N 192 j = 0) → fp_S l G 5 kX12_layChances 31 [some (rV G 177), some (iV x), some (iV (vs.length : Int)), some (iV 10), none, none, none, none] [] N (qV fun N => frJ M N ∧ N 177 33 = 10 ^ vs.length ∧ ∀ t : Int, 0 ≤ t → t < 10 → N 192 t.toNat = chF g pg vs x (2 ^ vs.length) t) := by
    intro N a1 b1
    have eN : N = fp_up N 177 33 (10 ^ 0) := by
      have : N 177 33 = 10 ^ 0 := by rw [a1 177 (by decide)]; rfl
      rw [← this]; exact (fp_up_self N 177 33).symm
    have fM : frJ M (fp_up N 177 33 (10 ^ vs.length)) := by
      refine ⟨fun c h7 _ h9 => by rw [fp_up_ne h7, a1 c h9, fp_up_ne h7], fun j hj => by rw [fp_up_at, fp_upf_ne hj, a1 177 (by decide), fp_up_at, fp_upf_ne hj], fun j _ => by rw [fp_up_ne (by decide), a1 178 (by decide), fp_up_ne (by decide)]⟩
    have hd1 : mdIs (fp_up N 177 33 (10 ^ vs.length)) g := by
      unfold mdIs md_ok at *
      rw [fM.2.1 4 (by decide), fM.2.1 5 (by decide), fM.2.1 6 (by decide), fM.1 179 (by decide) (by decide) (by decide), fM.1 180 (by decide) (by decide) (by decide), fM.1 181 (by decide) (by decide) (by decide)]
      exact hd0
    have hv1 : mvIs (fp_up N 177 33 (10 ^ vs.length)) vs := hv0.kept (fun j h1 h2 => fM.2.2 j (by omega))
    have hp1 : mpIs (fp_up N 177 33 (10 ^ vs.length)) 0 g pg := hp0.kept hg hP (by omega) (fun j h1 h2 => fM.2.2 j (by omega))
    have h56 : fp_S l G 5 kX12_layChances 56 [some (rV G 177), some (iV x), some (iV (vs.length : Int)), some (iV (vs.length : Int)), none, none, none, none] [] (fp_up N 177 33 (10 ^ vs.length)) (qV fun N => frJ M N ∧ N 177 33 = 10 ^ vs.length ∧ ∀ t : Int, 0 ≤ t → t < 10 → N 192 t.toNat = chF g pg vs x (2 ^ vs.length) t) := by
      refine S.iconst (pc' := 57) dX12_layChances_56 rfl ?_
      refine S.istore_n (pc' := 58) (LL' := [_, _, _, _, _, _, _, _]) dX12_layChances_57 rfl (by decide) rfl rfl rfl ?_
      exact ch_out (M := fp_up N 177 33 (10 ^ vs.length)) rfl hg hP hvo hl hx hd1 hv1 hp1 (fun O fO rO => ⟨⟨fun c h7 h8 h9 => (fO.1 c h8 h9).trans (fM.1 c h7 h8 h9), fun j hj => by rw [fO.1 177 (by decide) (by decide)]; exact fM.2.1 j hj, fun j hj => (fO.2 j hj).trans (fM.2.2 j hj)⟩, by rw [fO.1 177 (by decide) (by decide)]; rfl, rO⟩) (2 ^ vs.length + 1) 0 _ _ _ _ _ (Nat.lt_succ_of_le (Nat.sub_le _ _)) (Nat.zero_le _) (frL.refl _) (fun t t0 t1 => by rw [fp_up_ne (by decide), b1 _ (by omega)]; rfl)
    refine S.eqM eN ?_
    refine S.iconst (pc' := 32) dX12_layChances_31 rfl ?_
    refine S.istore_n (pc' := 33) (LL' := [_, _, _, _, _, _, _, _]) dX12_layChances_32 rfl (by decide) rfl rfl rfl ?_
    exact ch_w (by omega) h56 (vs.length + 1) 0 (by omega) (by omega)
  refine S.aload_n (pc' := 1) dX12_layChances_0 rfl rfl rfl ?_
  refine S.callVe (pc' := 4) dX12_layChances_1 rfl cX12_225 ok_X12_visits rfl L_177 (by decide) rfl (Nat.le_of_ble_eq_true rfl) ?_
  rw [h95]
  refine S.istore_n (pc' := 5) (LL' := [_, _, _, _, _, _, _, _]) dX12_layChances_4 rfl (by decide) rfl rfl rfl ?_
  refine S.aload_n (pc' := 6) dX12_layChances_5 rfl rfl rfl ?_
  refine S.lconst (pc' := 7) (w := 1) dX12_layChances_6 rfl rfl ?_
  refine S.putJ (pc' := 10) dX12_layChances_7 rfl fX12_289 L_177 ?_
  refine S.iconst (pc' := 11) dX12_layChances_10 rfl ?_
  refine S.istore_n (pc' := 12) (LL' := [_, _, _, _, _, _, _, _]) dX12_layChances_11 rfl (by decide) rfl rfl rfl ?_
  exact ch_z (M := fp_up M 177 33 (10 ^ 0)) h31 11 0 _ (by omega) (by omega) (by omega) (fun _ _ => rfl) (fun j hj => by omega)
end MCR
