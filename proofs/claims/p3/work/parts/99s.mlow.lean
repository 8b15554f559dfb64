/-! LOWEST TERMS, the reference -/
theorem fp_jI {a : Int} (h : 0 ≤ a ∧ a < 9223372036854775808) : (Int64.ofInt a).toInt = a := Int64.toInt_ofInt_of_le (by omega) (by omega)
theorem fp_jdiv {a b : Int} (ha : 0 ≤ a ∧ a < 9223372036854775808) (hb : 0 < b ∧ b < 9223372036854775808) : Int64.ofInt a / Int64.ofInt b = Int64.ofInt (a / b) := by
  have hq : 0 ≤ a / b ∧ a / b ≤ a := ⟨Int.ediv_nonneg ha.1 (by omega), Int.ediv_le_self b ha.1⟩
  apply Int64.toInt_inj.mp
  rw [fp_jI (by omega), Int64.toInt_div, fp_jI ha, fp_jI (by omega), Int.tdiv_eq_ediv_of_nonneg ha.1]
  exact Int.bmod_eq_of_le (by omega) (by omega)
theorem fp_jne {b : Int} (hb : 0 < b ∧ b < 9223372036854775808) : ¬ Int64.ofInt b = 0 := by
  intro e
  have := congrArg Int64.toInt e
  rw [fp_jI (by omega)] at this
  have h0 : (0 : Int64).toInt = 0 := rfl
  omega
theorem fp_jrem {a b : Int} (ha : 0 ≤ a ∧ a < 9223372036854775808) (hb : 0 < b ∧ b < 9223372036854775808) : Int64.ofInt a - Int64.ofInt a / Int64.ofInt b * Int64.ofInt b = Int64.ofInt (a % b) := by
  rw [fp_jdiv ha hb, ← Int64.ofInt_mul, ← Int64.ofInt_sub, Int.emod_def, Int.mul_comm]
section MLW
variable {l : Launch} {G : fp_WG} {M N : fp_Mem}
theorem lw_loop {a0 b0 w : Int} (hw : w = 0 ∨ w = 1) (ha : 0 ≤ a0 ∧ a0 < 9223372036854775808) (hb : 0 < b0 ∧ b0 < 9223372036854775808) : ∀ (r P R : Nat) (o9 o10 : Option Value), R < r → (P : Int) < 9223372036854775808 → (R : Int) < 9223372036854775808 → 0 < Nat.gcd P R →
    fp_S l G 0 kX12_lowest 6 [some (jV a0), none, some (jV b0), none, some (iV w), some (jV (P : Int)), none, some (jV (R : Int)), none, o9, o10] [] M (qJ fun z N => z = (if w = 0 then a0 else b0) / ((Nat.gcd P R : Nat) : Int) ∧ N = M) := by
  intro r
  induction r with
  | zero => intro P R o9 o10 hr; omega
  | succ r ih =>
    intro P R o9 o10 hr hP hR hg
    by_cases h0 : R = 0
    · subst h0
      rw [Nat.gcd_zero_right] at hg ⊢
      refine S.lload (pc' := 8) dX12_lowest_6 rfl rfl ?_
      refine S.lconst (pc' := 9) (w := 0) dX12_lowest_8 rfl rfl ?_
      refine S.lcmp (pc' := 10) dX12_lowest_9 rfl (by unfold fp_lng; omega) (by unfold fp_lng; omega) ?_
      refine S.if_eq (pc' := 13) (tgt := 31) dX12_lowest_10 (by decide) rfl (by unfold fp_rng; omega) (fun h10 => ?_) (fun h10 => ?_)
      · refine S.iload (pc' := 33) dX12_lowest_31 rfl rfl ?_
        refine S.if_ne (pc' := 36) (tgt := 40) dX12_lowest_33 (by decide) rfl (by unfold fp_rng; omega) (fun h33 => ?_) (fun h33 => ?_)
        · refine S.lload_n (pc' := 41) dX12_lowest_40 rfl rfl rfl ?_
          refine S.lload (pc' := 43) dX12_lowest_41 rfl rfl ?_
          refine S.ldiv (pc' := 44) dX12_lowest_43 rfl (fp_jne (by omega)) (fp_jdiv (by omega) (by omega)) ?_
          refine S.lret dX12_lowest_44 rfl ?_
          first
          | exact ⟨by rw [if_pos (by omega)], rfl⟩
          | exact ⟨by rw [if_neg (by omega)], rfl⟩
        · refine S.lload_n (pc' := 37) dX12_lowest_36 rfl rfl rfl ?_
          refine S.goto (pc' := 41) dX12_lowest_37 (by decide) ?_
          refine S.lload (pc' := 43) dX12_lowest_41 rfl rfl ?_
          refine S.ldiv (pc' := 44) dX12_lowest_43 rfl (fp_jne (by omega)) (fp_jdiv (by omega) (by omega)) ?_
          refine S.lret dX12_lowest_44 rfl ?_
          first
          | exact ⟨by rw [if_pos (by omega)], rfl⟩
          | exact ⟨by rw [if_neg (by omega)], rfl⟩
      · exfalso; first | (split at h10 <;> omega) | omega
    · have hm : P % R < R := Nat.mod_lt _ (by omega)
      have hgr : Nat.gcd P R = Nat.gcd R (P % R) := by rw [Nat.gcd_comm P R, Nat.gcd_rec R P, Nat.gcd_comm]
      rw [hgr] at hg ⊢
      refine S.lload (pc' := 8) dX12_lowest_6 rfl rfl ?_
      refine S.lconst (pc' := 9) (w := 0) dX12_lowest_8 rfl rfl ?_
      refine S.lcmp (pc' := 10) dX12_lowest_9 rfl (by unfold fp_lng; omega) (by unfold fp_lng; omega) ?_
      refine S.if_eq (pc' := 13) (tgt := 31) dX12_lowest_10 (by decide) rfl (by unfold fp_rng; omega) (fun h10 => ?_) (fun h10 => ?_)
      · exfalso; split at h10 <;> omega
      · refine S.lload (pc' := 15) dX12_lowest_13 rfl rfl ?_
        refine S.lload (pc' := 17) dX12_lowest_15 rfl rfl ?_
        refine S.lrem (pc' := 18) dX12_lowest_17 rfl (fp_jne (by omega)) (fp_jrem (by omega) (by omega)) ?_
        refine S.lstore (pc' := 20) (LL' := [_, _, _, _, _, _, _, _, _, _, _]) dX12_lowest_18 rfl (by decide) rfl rfl (by decide) ?_
        refine S.lload (pc' := 22) dX12_lowest_20 rfl rfl ?_
        refine S.lstore (pc' := 24) (LL' := [_, _, _, _, _, _, _, _, _, _, _]) dX12_lowest_22 rfl (by decide) rfl rfl (by decide) ?_
        refine S.lload (pc' := 26) dX12_lowest_24 rfl rfl ?_
        refine S.lstore (pc' := 28) (LL' := [_, _, _, _, _, _, _, _, _, _, _]) dX12_lowest_26 rfl (by decide) rfl rfl (by decide) ?_
        refine S.goto (pc' := 6) dX12_lowest_28 (by decide) ?_
        rw [show ((P : Int) % (R : Int)) = ((P % R : Nat) : Int) from (Int.natCast_emod P R).symm]
        exact ih R (P % R) _ _ (by omega) (by omega) (by omega) hg
theorem rk_X12_lowest {a0 b0 w : Int} (hw : w = 0 ∨ w = 1) (ha : 0 ≤ a0 ∧ a0 < 9223372036854775808) (hb : 0 < b0 ∧ b0 < 9223372036854775808) : fp_Ok l G 0 kX12_lowest [jV a0, jV b0, iV w] M (qJ fun z N => z = (if w = 0 then a0 else b0) / ((Nat.gcd a0.toNat b0.toNat : Nat) : Int) ∧ N = M) := by
  refine fp_Ok.of (r := 6) rfl (Nat.le_of_ble_eq_true rfl) rfl ?_
  have hg : 0 < Nat.gcd a0.toNat b0.toNat := Nat.gcd_pos_of_pos_right _ (by omega)
  have ea : a0 = (a0.toNat : Int) := by omega
  have eb : b0 = (b0.toNat : Int) := by omega
  have := lw_loop (l := l) (G := G) (M := M) hw ha hb (b0.toNat + 1) a0.toNat b0.toNat none none (by omega) (by omega) (by omega) hg
  rw [← ea, ← eb] at this
  refine S.lload_n (pc' := 1) dX12_lowest_0 rfl rfl rfl ?_
  refine S.lstore (pc' := 3) (LL' := [_, _, _, _, _, _, _, _, _, _, _]) dX12_lowest_1 rfl (by decide) rfl rfl (by decide) ?_
  refine S.lload_n (pc' := 4) dX12_lowest_3 rfl rfl rfl ?_
  refine S.lstore (pc' := 6) (LL' := [_, _, _, _, _, _, _, _, _, _, _]) dX12_lowest_4 rfl (by decide) rfl rfl (by decide) ?_
  exact this
end MLW
