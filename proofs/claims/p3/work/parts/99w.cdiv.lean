/-! THE GREATEST COMMON DIVISOR, the class -/
theorem gd_half {P R r : Nat} (hR : 0 < R) (h : R ≤ P) (hp : P * R < 2 ^ (r + 1)) : R * (P % R) < 2 ^ r := by
  have h1 : P % R < R := Nat.mod_lt _ hR
  have h2 : R * (P / R) + P % R = P := Nat.div_add_mod P R
  have h3 : 1 ≤ P / R := Nat.div_pos h hR
  have h4 : R ≤ R * (P / R) := Nat.le_mul_of_pos_right R h3
  have h5 : 2 * (P % R) ≤ P := by omega
  have h6 : R * (2 * (P % R)) ≤ R * P := Nat.mul_le_mul_left R h5
  rw [Nat.pow_succ] at hp
  rw [Nat.mul_comm P R] at hp
  have h7 : R * (2 * (P % R)) = 2 * (R * (P % R)) := by rw [Nat.mul_left_comm]
  omega
section CDV
variable {l : Launch} {G : fp_WG} {M N : fp_Mem}
theorem gd_loop {a0 b0 : Int} : ∀ (r P R : Nat) (i : Int) (o9 o10 : Option Value), R ≤ P → P * R < 2 ^ r → 0 ≤ i → i + r ≤ 99 → (P : Int) < 9223372036854775808 →
    fp_S l G 0 kX11_greatestDivisor 9 [some (jV a0), none, some (jV b0), none, some (jV (P : Int)), none, some (jV (R : Int)), none, some (iV i), o9, o10] [] M (qJ fun z N => z = ((Nat.gcd P R : Nat) : Int) ∧ N = M) := by
  intro r
  induction r with
  | zero =>
    intro P R i o9 o10 h hp i0 i1 hP
    have hz : P * R = 0 := by omega
    have hR : R = 0 := by
      rcases Nat.mul_eq_zero.mp hz with q | q <;> omega
    subst hR
    rw [Nat.gcd_zero_right]
    refine S.iload (pc' := 11) dX11_greatestDivisor_9 rfl rfl ?_
    refine S.bipush (pc' := 13) dX11_greatestDivisor_11 rfl (by decide) ?_
    refine S.icmp_ge (pc' := 16) (tgt := 44) dX11_greatestDivisor_13 (by decide) rfl (by unfold fp_rng; omega) (by unfold fp_rng; omega) (fun h13 => ?_) (fun h13 => ?_)
    · refine S.lload (pc' := 46) dX11_greatestDivisor_44 rfl rfl ?_
      refine S.lret dX11_greatestDivisor_46 rfl ?_
      exact ⟨rfl, rfl⟩
    · refine S.lload (pc' := 18) dX11_greatestDivisor_16 rfl rfl ?_
      refine S.lconst (pc' := 19) (w := 0) dX11_greatestDivisor_18 rfl rfl ?_
      refine S.lcmp (pc' := 20) dX11_greatestDivisor_19 rfl (by unfold fp_lng; omega) (by unfold fp_lng; omega) ?_
      refine S.if_le (pc' := 23) (tgt := 44) dX11_greatestDivisor_20 (by decide) rfl (by unfold fp_rng; omega) (fun h20 => ?_) (fun h20 => ?_)
      · refine S.lload (pc' := 46) dX11_greatestDivisor_44 rfl rfl ?_
        refine S.lret dX11_greatestDivisor_46 rfl ?_
        exact ⟨rfl, rfl⟩
      · exfalso; split at h20 <;> omega
  | succ r ih =>
    intro P R i o9 o10 h hp i0 i1 hP
    by_cases h0 : R = 0
    · subst h0
      rw [Nat.gcd_zero_right]
      refine S.iload (pc' := 11) dX11_greatestDivisor_9 rfl rfl ?_
      refine S.bipush (pc' := 13) dX11_greatestDivisor_11 rfl (by decide) ?_
      refine S.icmp_ge (pc' := 16) (tgt := 44) dX11_greatestDivisor_13 (by decide) rfl (by unfold fp_rng; omega) (by unfold fp_rng; omega) (fun h13 => ?_) (fun h13 => ?_)
      · refine S.lload (pc' := 46) dX11_greatestDivisor_44 rfl rfl ?_
        refine S.lret dX11_greatestDivisor_46 rfl ?_
        exact ⟨rfl, rfl⟩
      · refine S.lload (pc' := 18) dX11_greatestDivisor_16 rfl rfl ?_
        refine S.lconst (pc' := 19) (w := 0) dX11_greatestDivisor_18 rfl rfl ?_
        refine S.lcmp (pc' := 20) dX11_greatestDivisor_19 rfl (by unfold fp_lng; omega) (by unfold fp_lng; omega) ?_
        refine S.if_le (pc' := 23) (tgt := 44) dX11_greatestDivisor_20 (by decide) rfl (by unfold fp_rng; omega) (fun h20 => ?_) (fun h20 => ?_)
        · refine S.lload (pc' := 46) dX11_greatestDivisor_44 rfl rfl ?_
          refine S.lret dX11_greatestDivisor_46 rfl ?_
          exact ⟨rfl, rfl⟩
        · exfalso; split at h20 <;> omega
    · have hm : P % R < R := Nat.mod_lt _ (by omega)
      have hh := gd_half (by omega) h hp
      have hgr : Nat.gcd P R = Nat.gcd R (P % R) := by rw [Nat.gcd_comm P R, Nat.gcd_rec R P, Nat.gcd_comm]
      rw [hgr]
      refine S.iload (pc' := 11) dX11_greatestDivisor_9 rfl rfl ?_
      refine S.bipush (pc' := 13) dX11_greatestDivisor_11 rfl (by decide) ?_
      refine S.icmp_ge (pc' := 16) (tgt := 44) dX11_greatestDivisor_13 (by decide) rfl (by unfold fp_rng; omega) (by unfold fp_rng; omega) (fun h13 => ?_) (fun h13 => ?_)
      · exfalso; first | omega | (split at h20 <;> omega)
      · refine S.lload (pc' := 18) dX11_greatestDivisor_16 rfl rfl ?_
        refine S.lconst (pc' := 19) (w := 0) dX11_greatestDivisor_18 rfl rfl ?_
        refine S.lcmp (pc' := 20) dX11_greatestDivisor_19 rfl (by unfold fp_lng; omega) (by unfold fp_lng; omega) ?_
        refine S.if_le (pc' := 23) (tgt := 44) dX11_greatestDivisor_20 (by decide) rfl (by unfold fp_rng; omega) (fun h20 => ?_) (fun h20 => ?_)
        · exfalso; first | omega | (split at h20 <;> omega)
        · refine S.lload (pc' := 25) dX11_greatestDivisor_23 rfl rfl ?_
          refine S.lload (pc' := 27) dX11_greatestDivisor_25 rfl rfl ?_
          refine S.lrem (pc' := 28) dX11_greatestDivisor_27 rfl (fp_jne (by omega)) (fp_jrem (by omega) (by omega)) ?_
          refine S.lstore (pc' := 30) (LL' := [_, _, _, _, _, _, _, _, _, _, _]) dX11_greatestDivisor_28 rfl (by decide) rfl rfl (by decide) ?_
          refine S.lload (pc' := 32) dX11_greatestDivisor_30 rfl rfl ?_
          refine S.lstore (pc' := 34) (LL' := [_, _, _, _, _, _, _, _, _, _, _]) dX11_greatestDivisor_32 rfl (by decide) rfl rfl (by decide) ?_
          refine S.lload (pc' := 36) dX11_greatestDivisor_34 rfl rfl ?_
          refine S.lstore (pc' := 38) (LL' := [_, _, _, _, _, _, _, _, _, _, _]) dX11_greatestDivisor_36 rfl (by decide) rfl rfl (by decide) ?_
          refine S.iinc (pc' := 41) (LL' := [_, _, _, _, _, _, _, _, _, _, _]) dX11_greatestDivisor_38 rfl (by decide) rfl rfl rfl ?_
          refine S.goto (pc' := 9) dX11_greatestDivisor_41 (by decide) ?_
          rw [show ((P : Int) % (R : Int)) = ((P % R : Nat) : Int) from (Int.natCast_emod P R).symm]
          exact ih R (P % R) (i + 1) _ _ (by omega) hh (by omega) (by omega) (by omega)
theorem rk_X11_greatestDivisor {a0 b0 : Int} (hb : 0 ≤ b0 ∧ b0 ≤ a0) (ha : a0 ≤ 10000000000) : fp_Ok l G 0 kX11_greatestDivisor [jV a0, jV b0] M (qJ fun z N => z = ((Nat.gcd a0.toNat b0.toNat : Nat) : Int) ∧ N = M) := by
  refine fp_Ok.of (r := 7) rfl (Nat.le_of_ble_eq_true rfl) rfl ?_
  have ea : a0 = (a0.toNat : Int) := by omega
  have eb : b0 = (b0.toNat : Int) := by omega
  have hp : a0.toNat * b0.toNat < 2 ^ 70 := by
    have h1 : a0.toNat * b0.toNat ≤ 10000000000 * 10000000000 := Nat.mul_le_mul (by omega) (by omega)
    exact Nat.lt_of_le_of_lt h1 (by decide)
  have := gd_loop (l := l) (G := G) (M := M) (a0 := a0) (b0 := b0) 70 a0.toNat b0.toNat 0 none none (by omega) hp (by omega) (by omega) (by omega)
  rw [← ea, ← eb] at this
  refine S.lload_n (pc' := 1) dX11_greatestDivisor_0 rfl rfl rfl ?_
  refine S.lstore (pc' := 3) (LL' := [_, _, _, _, _, _, _, _, _, _, _]) dX11_greatestDivisor_1 rfl (by decide) rfl rfl (by decide) ?_
  refine S.lload_n (pc' := 4) dX11_greatestDivisor_3 rfl rfl rfl ?_
  refine S.lstore (pc' := 6) (LL' := [_, _, _, _, _, _, _, _, _, _, _]) dX11_greatestDivisor_4 rfl (by decide) rfl rfl (by decide) ?_
  refine S.iconst (pc' := 7) dX11_greatestDivisor_6 rfl ?_
  refine S.istore (pc' := 9) (LL' := [_, _, _, _, _, _, _, _, _, _, _]) dX11_greatestDivisor_7 rfl (by decide) rfl rfl ?_
  exact this
end CDV
