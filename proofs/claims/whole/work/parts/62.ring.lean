/-! RINGS: the ring of one -/
def aRgC (f : Int → Int) (p : Int) : Nat → Int → Int → Int
  | 0, _, _ => 0
  | n + 1, q, m => if f q = p then fp_or m (2 ^ q.toNat) else aRgC f p n (f q) (fp_or m (2 ^ q.toNat))
def aRgM (f : Int → Int) (p : Int) : Nat → Int → Int → Int
  | 0, _, _ => 0
  | n + 1, q, s => if f q = p then fp_or s (2 ^ (f q).toNat) else aRgM f p n (f q) (fp_or s (2 ^ (f q).toNat))
theorem fp_or_swap (a b c : Int) : fp_or (fp_or a b) c = fp_or (fp_or a c) b := by
  unfold fp_or
  rw [Int.toNat_natCast, Int.toNat_natCast, Nat.or_assoc, Nat.or_comm b.toNat, ← Nat.or_assoc]
theorem aRg_eq {f : Int → Int} {p : Int} : ∀ (n : Nat) (q m s : Int), fp_or m (2 ^ q.toNat) = fp_or s (2 ^ p.toNat) → aRgC f p n q m = aRgM f p n q s
  | 0, _, _, _, _ => rfl
  | n + 1, q, m, s, h => by
    unfold aRgC aRgM
    by_cases e : f q = p
    · rw [if_pos e, if_pos e, h, e]
    · rw [if_neg e, if_neg e]
      apply aRg_eq n
      rw [h, fp_or_swap]
section RN2
variable {l : Launch} {G : fp_WG} {M N : fp_Mem} {g : aGd} {pg pg' : aPg} {k k2 : Nat}
theorem mringof_loop {b : Int → Int} {th p : Int} (hp : 0 ≤ p ∧ p < 4) (hb : bOk g b th) (hne : th ≠ 0) (hf : ∀ q : Int, 0 ≤ q → q < 4 → 0 ≤ aLk g b th q 4 ∧ aLk g b th q 4 < 4) (hg : gOk g) (hd : mdIs M g) (hr : ∀ q : Int, 0 ≤ q → q < 4 → M 196 q.toNat = b q) : ∀ (n : Nat) (i q s : Int), (4 - i).toNat = n → 0 ≤ i → i ≤ 4 → 0 ≤ q → q < 4 → 0 ≤ s →
    fp_S l G 1 kX12_ringOf 8 [some (rV G 177), some (iV p), some (iV th), some (iV s), some (iV q), some (iV i)] [] M (qE (aRgM (fun q => aLk g b th q 4) p n q s) M) := by
  intro n
  induction n with
  | zero =>
    intro i q s h i0 i1 q0 q1 s0
    refine S.iload (pc' := 10) dX12_ringOf_8 rfl rfl ?_
    refine S.iconst (pc' := 11) dX12_ringOf_10 rfl ?_
    refine S.icmp_ge (pc' := 14) (tgt := 44) dX12_ringOf_11 (by decide) rfl (by unfold fp_rng; omega) (by unfold fp_rng; omega) (fun h11 => ?_) (fun h11 => ?_)
    · refine S.iconst (pc' := 45) dX12_ringOf_44 rfl ?_
      refine S.iret dX12_ringOf_45 rfl ?_
      exact ⟨rfl, rfl⟩
    · exfalso; omega
  | succ n ih =>
    intro i q s h i0 i1 q0 q1 s0
    have hq := hf q q0 q1
    have es : aRgM (fun q => aLk g b th q 4) p (n + 1) q s = if aLk g b th q 4 = p then fp_or s (2 ^ (aLk g b th q 4).toNat) else aRgM (fun q => aLk g b th q 4) p n (aLk g b th q 4) (fp_or s (2 ^ (aLk g b th q 4).toNat)) := rfl
    rw [es]
    by_cases e : aLk g b th q 4 = p
    · rw [if_pos e]
      refine S.iload (pc' := 10) dX12_ringOf_8 rfl rfl ?_
      refine S.iconst (pc' := 11) dX12_ringOf_10 rfl ?_
      refine S.icmp_ge (pc' := 14) (tgt := 44) dX12_ringOf_11 (by decide) rfl (by unfold fp_rng; omega) (by unfold fp_rng; omega) (fun h11 => ?_) (fun h11 => ?_)
      · exfalso; omega
      · refine S.aload_n (pc' := 15) dX12_ringOf_14 rfl rfl rfl ?_
        refine S.iload (pc' := 17) dX12_ringOf_15 rfl rfl ?_
        refine S.iload_n (pc' := 18) dX12_ringOf_17 rfl rfl rfl ?_
        refine S.callVe (pc' := 21) dX12_ringOf_18 rfl cX12_318 (rk_X12_likes ⟨q0, q1⟩ hb hg hd hr) rfl L_177 (by decide) rfl (Nat.le_of_ble_eq_true rfl) ?_
        refine S.istore (pc' := 23) (LL' := [_, _, _, _, _, _]) dX12_ringOf_21 rfl (by decide) rfl rfl ?_
        refine S.iload_n (pc' := 24) dX12_ringOf_23 rfl rfl rfl ?_
        refine S.iconst (pc' := 25) dX12_ringOf_24 rfl ?_
        refine S.iload (pc' := 27) dX12_ringOf_25 rfl rfl ?_
        refine S.ishl (pc' := 28) dX12_ringOf_27 rfl (fp_shl1 (by omega) (by omega)) ?_
        refine S.ior (pc' := 29) dX12_ringOf_28 rfl (fp_ior s0 (Int.le_of_lt (Int.pow_pos (by decide)))) ?_
        refine S.istore_n (pc' := 30) (LL' := [_, _, _, _, _, _]) dX12_ringOf_29 rfl (by decide) rfl rfl rfl ?_
        refine S.iload (pc' := 32) dX12_ringOf_30 rfl rfl ?_
        refine S.iload_n (pc' := 33) dX12_ringOf_32 rfl rfl rfl ?_
        refine S.icmp_ne (pc' := 36) (tgt := 38) dX12_ringOf_33 (by decide) rfl (by unfold fp_rng; omega) (by unfold fp_rng; omega) (fun h33 => ?_) (fun h33 => ?_)
        · exfalso; omega
        · refine S.iload_n (pc' := 37) dX12_ringOf_36 rfl rfl rfl ?_
          refine S.iret dX12_ringOf_37 rfl ?_
          exact ⟨rfl, rfl⟩
    · rw [if_neg e]
      refine S.iload (pc' := 10) dX12_ringOf_8 rfl rfl ?_
      refine S.iconst (pc' := 11) dX12_ringOf_10 rfl ?_
      refine S.icmp_ge (pc' := 14) (tgt := 44) dX12_ringOf_11 (by decide) rfl (by unfold fp_rng; omega) (by unfold fp_rng; omega) (fun h11 => ?_) (fun h11 => ?_)
      · exfalso; omega
      · refine S.aload_n (pc' := 15) dX12_ringOf_14 rfl rfl rfl ?_
        refine S.iload (pc' := 17) dX12_ringOf_15 rfl rfl ?_
        refine S.iload_n (pc' := 18) dX12_ringOf_17 rfl rfl rfl ?_
        refine S.callVe (pc' := 21) dX12_ringOf_18 rfl cX12_318 (rk_X12_likes ⟨q0, q1⟩ hb hg hd hr) rfl L_177 (by decide) rfl (Nat.le_of_ble_eq_true rfl) ?_
        refine S.istore (pc' := 23) (LL' := [_, _, _, _, _, _]) dX12_ringOf_21 rfl (by decide) rfl rfl ?_
        refine S.iload_n (pc' := 24) dX12_ringOf_23 rfl rfl rfl ?_
        refine S.iconst (pc' := 25) dX12_ringOf_24 rfl ?_
        refine S.iload (pc' := 27) dX12_ringOf_25 rfl rfl ?_
        refine S.ishl (pc' := 28) dX12_ringOf_27 rfl (fp_shl1 (by omega) (by omega)) ?_
        refine S.ior (pc' := 29) dX12_ringOf_28 rfl (fp_ior s0 (Int.le_of_lt (Int.pow_pos (by decide)))) ?_
        refine S.istore_n (pc' := 30) (LL' := [_, _, _, _, _, _]) dX12_ringOf_29 rfl (by decide) rfl rfl rfl ?_
        refine S.iload (pc' := 32) dX12_ringOf_30 rfl rfl ?_
        refine S.iload_n (pc' := 33) dX12_ringOf_32 rfl rfl rfl ?_
        refine S.icmp_ne (pc' := 36) (tgt := 38) dX12_ringOf_33 (by decide) rfl (by unfold fp_rng; omega) (by unfold fp_rng; omega) (fun h33 => ?_) (fun h33 => ?_)
        · refine S.iinc (pc' := 41) (LL' := [_, _, _, _, _, _]) dX12_ringOf_38 rfl (by decide) rfl rfl rfl ?_
          refine S.goto (pc' := 8) dX12_ringOf_41 (by decide) ?_
          exact ih _ _ _ (by omega) (by omega) (by omega) (by omega) (by omega) (fp_or_nn _ _)
        · exfalso; omega
theorem rk_X12_ringOf {b : Int → Int} {th p : Int} (hp : 0 ≤ p ∧ p < 4) (hb : bOk g b th) (hne : th ≠ 0) (hf : ∀ q : Int, 0 ≤ q → q < 4 → 0 ≤ aLk g b th q 4 ∧ aLk g b th q 4 < 4) (hg : gOk g) (hd : mdIs M g) (hr : ∀ q : Int, 0 ≤ q → q < 4 → M 196 q.toNat = b q) : fp_Ok l G 1 kX12_ringOf [rV G 177, iV p, iV th] M (qE (aRgM (fun q => aLk g b th q 4) p 4 p 0) M) := by
  refine fp_Ok.of (r := 3) rfl (Nat.le_of_ble_eq_true rfl) rfl ?_
  refine S.iconst (pc' := 1) dX12_ringOf_0 rfl ?_
  refine S.istore_n (pc' := 2) (LL' := [_, _, _, _, _, _]) dX12_ringOf_1 rfl (by decide) rfl rfl rfl ?_
  refine S.iload_n (pc' := 3) dX12_ringOf_2 rfl rfl rfl ?_
  refine S.istore (pc' := 5) (LL' := [_, _, _, _, _, _]) dX12_ringOf_3 rfl (by decide) rfl rfl ?_
  refine S.iconst (pc' := 6) dX12_ringOf_5 rfl ?_
  refine S.istore (pc' := 8) (LL' := [_, _, _, _, _, _]) dX12_ringOf_6 rfl (by decide) rfl rfl ?_
  exact mringof_loop hp hb hne hf hg hd hr 4 0 p 0 (by omega) (by omega) (by omega) (by omega) (by omega) (by omega)
end RN2
