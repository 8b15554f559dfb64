/-! RINGS: what each brings -/
theorem aLk_some {g : aGd} {b : Int → Int} {th p : Int} : ∀ n : Nat, (∃ i : Nat, i < n ∧ th.toNat.testBit i = true) → aLk g b th p n ≠ -4
  | 0, h => by obtain ⟨i, h1, -⟩ := h; omega
  | n + 1, h => by
    obtain ⟨i, h1, h2⟩ := h
    unfold aLk
    split
    · omega
    · rename_i hh
      intro e
      by_cases q : i = n
      · subst q; exact hh ⟨h2, Or.inl e⟩
      · exact aLk_some n ⟨i, by omega, h2⟩ e
theorem fp_bit16 {th : Int} (h : 0 ≤ th ∧ th < 16) (hne : th ≠ 0) : ∃ i : Nat, i < 4 ∧ th.toNat.testBit i = true := by
  have q : ∀ a : Nat, a < 16 → a ≠ 0 → ∃ i : Nat, i < 4 ∧ a.testBit i = true := by decide +kernel
  exact q th.toNat (by omega) (by omega)
theorem aLk_four {g : aGd} {b : Int → Int} {th p : Int} (h : 0 ≤ th ∧ th < 16) (hne : th ≠ 0) : 0 ≤ aLk g b th p 4 ∧ aLk g b th p 4 < 4 := by
  have h1 := aLk_some (g := g) (b := b) (p := p) 4 (fp_bit16 h hne)
  rcases aLk_in (g := g) (b := b) (th := th) (p := p) 4 with q | q
  · exact absurd q h1
  · exact ⟨q.1, q.2.1⟩
def aTh (g : aGd) (pg : aPg) : Nat → Int
  | 0 => 0
  | n + 1 => if aLeast g pg n = -4 then aTh g pg n else fp_or (aTh g pg n) (2 ^ n)
theorem aTh_succ {g : aGd} {pg : aPg} {i : Int} (h : 0 ≤ i) : aTh g pg (i + 1).toNat = if aLeast g pg i = -4 then aTh g pg i.toNat else fp_or (aTh g pg i.toNat) (2 ^ i.toNat) := by
  have e1 : (i + 1).toNat = i.toNat + 1 := by omega
  rw [e1]
  show (if aLeast g pg ((i.toNat : Nat) : Int) = -4 then _ else _) = _
  rw [Int.toNat_of_nonneg h]
theorem aTh_nn (g : aGd) (pg : aPg) : ∀ n, 0 ≤ aTh g pg n
  | 0 => Int.le_refl _
  | n + 1 => by
    unfold aTh
    split
    · exact aTh_nn g pg n
    · exact fp_or_nn _ _
section RN3
variable {l : Launch} {G : fp_WG} {M N : fp_Mem} {g : aGd} {pg pg' : aPg} {k k2 : Nat}
theorem gather_loop (hc : clIs M 22 g pg) (hg : gOk g) (hlr : ∀ p : Int, 0 ≤ p → p < 4 → fp_rng (aLeast g pg p)) : ∀ (n : Nat) (p : Int) (N : fp_Mem), (4 - p).toNat < n → 0 ≤ p → p ≤ 4 → (∀ a, (a < 136 ∨ 139 < a) → N a = M a) → N 136 4 = aTh g pg p.toNat → (∀ y : Int, 0 ≤ y → y < p → N 137 y.toNat = -4 ∧ N 138 y.toNat = -4 ∧ N 139 y.toNat = aLeast g pg y) →
    fp_S l G 1 kX7_gather 7 [some (rV G 136), some (rV G 22), some (iV p)] [] N (qV fun O => (∀ a, (a < 136 ∨ 139 < a) → O a = M a) ∧ O 136 4 = aTh g pg 4 ∧ ∀ y : Int, 0 ≤ y → y < 4 → O 137 y.toNat = -4 ∧ O 138 y.toNat = -4 ∧ O 139 y.toNat = aLeast g pg y) := by
  intro n
  induction n with
  | zero => intro p N h; omega
  | succ n ih =>
    intro p N h p0 p1 e1 e2 e3
    by_cases hlt : p < 4
    · have es := aTh_succ (g := g) (pg := pg) p0
      have hnn := aTh_nn g pg p.toNat
      have hl := hlr p p0 hlt
      have hc2 : ∀ x y : Int, clIs (fp_up (fp_up N 137 p.toNat x) 138 p.toNat y) 22 g pg := fun x y => hc.kept (fun a q1 q2 => by rw [fp_up_ne (by omega), fp_up_ne (by omega)]; exact e1 a (by omega))
      have hc3 := hc2 (-4) (-4)
      have hy : ∀ O : fp_Mem, O 137 = fp_upf (N 137) p.toNat (-4) → O 138 = fp_upf (N 138) p.toNat (-4) → O 139 = fp_upf (N 139) p.toNat (aLeast g pg p) → ∀ y : Int, 0 ≤ y → y < p + 1 → O 137 y.toNat = -4 ∧ O 138 y.toNat = -4 ∧ O 139 y.toNat = aLeast g pg y := by
        intro O o1 o2 o3 y y0 y1
        rw [o1, o2, o3]
        by_cases e : y = p
        · subst e; rw [fp_upf_at, fp_upf_at, fp_upf_at]; exact ⟨rfl, rfl, rfl⟩
        · rw [fp_upf_ne (by omega), fp_upf_ne (by omega), fp_upf_ne (by omega)]; exact e3 y y0 (by omega)
      refine S.iload_n (pc' := 8) dX7_gather_7 rfl rfl rfl ?_
      refine S.iconst (pc' := 9) dX7_gather_8 rfl ?_
      refine S.icmp_ge (pc' := 12) (tgt := 68) dX7_gather_9 (by decide) rfl (by unfold fp_rng; omega) (by unfold fp_rng; omega) (fun h9 => ?_) (fun h9 => ?_)
      · exfalso; omega
      · refine S.aload_n (pc' := 13) dX7_gather_12 rfl rfl rfl ?_
        refine S.getR (pc' := 16) dX7_gather_13 rfl fX7_9 L_136 rf_136_0 ?_
        refine S.iload_n (pc' := 17) dX7_gather_16 rfl rfl rfl ?_
        refine S.bipush (pc' := 19) dX7_gather_17 rfl (by decide) ?_
        refine S.iast (pc' := 20) dX7_gather_19 rfl L_137 (by omega) (by omega) ?_
        refine S.aload_n (pc' := 21) dX7_gather_20 rfl rfl rfl ?_
        refine S.getR (pc' := 24) dX7_gather_21 rfl fX7_15 L_136 rf_136_1 ?_
        refine S.iload_n (pc' := 25) dX7_gather_24 rfl rfl rfl ?_
        refine S.bipush (pc' := 27) dX7_gather_25 rfl (by decide) ?_
        refine S.iast (pc' := 28) dX7_gather_27 rfl L_138 (by omega) (by omega) ?_
        refine S.aload_n (pc' := 29) dX7_gather_28 rfl rfl rfl ?_
        refine S.getR (pc' := 32) dX7_gather_29 rfl fX7_18 L_136 rf_136_2 ?_
        refine S.iload_n (pc' := 33) dX7_gather_32 rfl rfl rfl ?_
        refine S.aload_n (pc' := 34) dX7_gather_33 rfl rfl rfl ?_
        refine S.iload_n (pc' := 35) dX7_gather_34 rfl rfl rfl ?_
        refine S.callVe (pc' := 38) dX7_gather_35 rfl cX7_40 (rk_X5_leastHeldBy (g := g) (pg := pg) pl22) rfl (pl_lay pl22) (by decide) rfl (Nat.le_of_ble_eq_true rfl) ?_
        refine S.iast (pc' := 39) dX7_gather_38 rfl L_139 (by omega) (by omega) ?_
        refine S.aload_n (pc' := 40) dX7_gather_39 rfl rfl rfl ?_
        refine S.getR (pc' := 43) dX7_gather_40 rfl fX7_18 L_136 rf_136_2 ?_
        refine S.iload_n (pc' := 44) dX7_gather_43 rfl rfl rfl ?_
        refine S.iald (pc' := 45) dX7_gather_44 rfl L_139 (by omega) (by omega) ?_
        rw [fp_up_at, fp_upf_at]
        refine S.bipush (pc' := 47) dX7_gather_45 rfl (by decide) ?_
        refine S.icmp_eq (pc' := 50) (tgt := 62) dX7_gather_47 (by decide) rfl hl (by unfold fp_rng; omega) (fun h47 => ?_) (fun h47 => ?_)
        · refine S.iinc (pc' := 65) (LL' := [_, _, _]) dX7_gather_62 rfl (by decide) rfl rfl rfl ?_
          refine S.goto (pc' := 7) dX7_gather_65 (by decide) ?_
          first | (rw [if_neg h47] at es; refine ih _ _ (by omega) (by omega) (by omega) (fun a ha => by rw [fp_up_ne (by omega), fp_up_ne (by omega), fp_up_ne (by omega), fp_up_ne (by omega)]; exact e1 a ha) (by rw [fp_up_at, fp_upf_at, es]) (hy _ (by rw [fp_up_ne (by decide), fp_up_ne (by decide), fp_up_ne (by decide), fp_up_at]) (by rw [fp_up_ne (by decide), fp_up_ne (by decide), fp_up_at, fp_up_ne (by decide)]) (by rw [fp_up_ne (by decide), fp_up_at, fp_up_ne (by decide), fp_up_ne (by decide)]))) | (rw [if_pos h47] at es; refine ih _ _ (by omega) (by omega) (by omega) (fun a ha => by rw [fp_up_ne (by omega), fp_up_ne (by omega), fp_up_ne (by omega)]; exact e1 a ha) (by rw [fp_up_ne (by decide), fp_up_ne (by decide), fp_up_ne (by decide), e2, es]) (hy _ (by rw [fp_up_ne (by decide), fp_up_ne (by decide), fp_up_at]) (by rw [fp_up_ne (by decide), fp_up_at, fp_up_ne (by decide)]) (by rw [fp_up_at, fp_up_ne (by decide), fp_up_ne (by decide)])))
        · refine S.aload_n (pc' := 51) dX7_gather_50 rfl rfl rfl ?_
          refine S.dup (pc' := 52) dX7_gather_51 rfl rfl ?_
          refine S.getI (pc' := 55) dX7_gather_52 rfl fX7_36 L_136 ?_
          rw [fp_up_ne (show 136 ≠ 139 by decide), fp_up_ne (show 136 ≠ 138 by decide), fp_up_ne (show 136 ≠ 137 by decide), e2]
          refine S.iconst (pc' := 56) dX7_gather_55 rfl ?_
          refine S.iload_n (pc' := 57) dX7_gather_56 rfl rfl rfl ?_
          refine S.ishl (pc' := 58) dX7_gather_57 rfl (fp_shl1 (by omega) (by omega)) ?_
          refine S.ior (pc' := 59) dX7_gather_58 rfl (fp_ior hnn (Int.le_of_lt (Int.pow_pos (by decide)))) ?_
          refine S.putI (pc' := 62) dX7_gather_59 rfl fX7_36 L_136 ?_
          refine S.iinc (pc' := 65) (LL' := [_, _, _]) dX7_gather_62 rfl (by decide) rfl rfl rfl ?_
          refine S.goto (pc' := 7) dX7_gather_65 (by decide) ?_
          first | (rw [if_neg h47] at es; refine ih _ _ (by omega) (by omega) (by omega) (fun a ha => by rw [fp_up_ne (by omega), fp_up_ne (by omega), fp_up_ne (by omega), fp_up_ne (by omega)]; exact e1 a ha) (by rw [fp_up_at, fp_upf_at, es]) (hy _ (by rw [fp_up_ne (by decide), fp_up_ne (by decide), fp_up_ne (by decide), fp_up_at]) (by rw [fp_up_ne (by decide), fp_up_ne (by decide), fp_up_at, fp_up_ne (by decide)]) (by rw [fp_up_ne (by decide), fp_up_at, fp_up_ne (by decide), fp_up_ne (by decide)]))) | (rw [if_pos h47] at es; refine ih _ _ (by omega) (by omega) (by omega) (fun a ha => by rw [fp_up_ne (by omega), fp_up_ne (by omega), fp_up_ne (by omega)]; exact e1 a ha) (by rw [fp_up_ne (by decide), fp_up_ne (by decide), fp_up_ne (by decide), e2, es]) (hy _ (by rw [fp_up_ne (by decide), fp_up_ne (by decide), fp_up_at]) (by rw [fp_up_ne (by decide), fp_up_at, fp_up_ne (by decide)]) (by rw [fp_up_at, fp_up_ne (by decide), fp_up_ne (by decide)])))
    · refine S.iload_n (pc' := 8) dX7_gather_7 rfl rfl rfl ?_
      refine S.iconst (pc' := 9) dX7_gather_8 rfl ?_
      refine S.icmp_ge (pc' := 12) (tgt := 68) dX7_gather_9 (by decide) rfl (by unfold fp_rng; omega) (by unfold fp_rng; omega) (fun h9 => ?_) (fun h9 => ?_)
      · refine S.vret dX7_gather_68 rfl ?_
        have e4 : p = 4 := by omega
        subst e4
        exact ⟨e1, e2, e3⟩
      · exfalso; omega
theorem rk_X7_gather (hc : clIs M 22 g pg) (hg : gOk g) : fp_Ok l G 1 kX7_gather [rV G 136, rV G 22] M (qV fun O => (∀ a, (a < 136 ∨ 139 < a) → O a = M a) ∧ O 136 4 = aTh g pg 4 ∧ ∀ y : Int, 0 ≤ y → y < 4 → O 137 y.toNat = -4 ∧ O 138 y.toNat = -4 ∧ O 139 y.toNat = aLeast g pg y) := by
  have hg1 := hg.1
  have hlr : ∀ p : Int, 0 ≤ p → p < 4 → fp_rng (aLeast g pg p) := by
    intro p p0 p1
    have q := fp_find_in (f := pg.1) (t := p) g.1.toNat 0
    unfold aLeast fp_rng
    omega
  refine fp_Ok.of (r := 1) rfl (Nat.le_of_ble_eq_true rfl) rfl ?_
  refine S.aload_n (pc' := 1) dX7_gather_0 rfl rfl rfl ?_
  refine S.iconst (pc' := 2) dX7_gather_1 rfl ?_
  refine S.putI (pc' := 5) dX7_gather_2 rfl fX7_36 L_136 ?_
  refine S.iconst (pc' := 6) dX7_gather_5 rfl ?_
  refine S.istore_n (pc' := 7) (LL' := [_, _, _]) dX7_gather_6 rfl (by decide) rfl rfl rfl ?_
  refine (gather_loop (hc.kept (fun a q1 q2 => fp_up_ne (by omega))) hg hlr 5 0 _ (by omega) (by omega) (by omega) (fun a ha => rfl) (by rw [fp_up_at, fp_upf_at]; rfl) (fun y y0 y1 => by omega)).weaken (fun r O q => ?_)
  obtain ⟨q0, q1, q2⟩ := q
  exact ⟨q0, fun a ha => by rw [q1 a ha, fp_up_ne (by omega)], q2⟩
end RN3
