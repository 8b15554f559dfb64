/-! RINGS: the ring of one -/
def aRgC (f : Int → Int) (p : Int) : Nat → Int → Int → Int
  | 0, _, _ => 0
  | n + 1, q, m => if f q = p then fp_or m (2 ^ q.toNat) else aRgC f p n (f q) (fp_or m (2 ^ q.toNat))
def aRgM (f : Int → Int) (p : Int) : Nat → Int → Int → Int
  | 0, _, _ => 0
  | n + 1, q, s => if f q = p then fp_or s (2 ^ (f q).toNat) else aRgM f p n (f q) (fp_or s (2 ^ (f q).toNat))
theorem fp_or_swap (a b c : Int) : fp_or (fp_or a b) c = fp_or (fp_or a c) b := by
  unfold fp_or
  rw [Int.toNat_natCast, Int.toNat_natCast, Nat.or_assoc, Nat.or_comm b.toNat, ← Nat.or_assoc]
theorem aRg_eq {f : Int → Int} {p : Int} : ∀ (n : Nat) (q m s : Int), fp_or m (2 ^ q.toNat) = fp_or s (2 ^ p.toNat) → aRgC f p n q m = aRgM f p n q s
  | 0, _, _, _, _ => rfl
  | n + 1, q, m, s, h => by
    unfold aRgC aRgM
    by_cases e : f q = p
    · rw [if_pos e, if_pos e, h, e]
    · rw [if_neg e, if_neg e]
      apply aRg_eq n
      rw [h, fp_or_swap]
section RN2
variable {l : Launch} {G : fp_WG} {M N : fp_Mem} {g : aGd} {pg pg' : aPg} {k k2 : Nat}
theorem mringof_loop {b : Int → Int} {th p : Int} (hp : 0 ≤ p ∧ p < 4) (hb : bOk g b th) (hne : th ≠ 0) (hf : ∀ q : Int, 0 ≤ q → q < 4 → 0 ≤ aLk g b th q 4 ∧ aLk g b th q 4 < 4) (hg : gOk g) (hd : mdIs M g) (hr : ∀ q : Int, 0 ≤ q → q < 4 → M 196 q.toNat = b q) : ∀ (n : Nat) (i q s : Int), (4 - i).toNat = n → 0 ≤ i → i ≤ 4 → 0 ≤ q → q < 4 → 0 ≤ s →
    fp_S l G 1 kX12_ringOf 8 [some (rV G 177), some (iV p), some (iV th), some (iV s), some (iV q), some (iV i)] [] M (qE (aRgM (fun q => aLk g b th q 4) p n q s) M) := by
  intro n
  induction n with
  | zero =>
    intro i q s h i0 i1 q0 q1 s0
    refine S.iload (pc' := 10) dX12_ringOf_8 rfl rfl ?_
    refine S.iconst (pc' := 11) dX12_ringOf_10 rfl ?_
    refine S.icmp_ge (pc' := 14) (tgt := 44) dX12_ringOf_11 (by decide) rfl (by unfold fp_rng; omega) (by unfold fp_rng; omega) (fun h11 => ?_) (fun h11 => ?_)
    · refine S.iconst (pc' := 45) dX12_ringOf_44 rfl ?_
      refine S.iret dX12_ringOf_45 rfl ?_
      exact ⟨rfl, rfl⟩
    · exfalso; omega
  | succ n ih =>
    intro i q s h i0 i1 q0 q1 s0
    have hq := hf q q0 q1
    have es : aRgM (fun q => aLk g b th q 4) p (n + 1) q s = if aLk g b th q 4 = p then fp_or s (2 ^ (aLk g b th q 4).toNat) else aRgM (fun q => aLk g b th q 4) p n (aLk g b th q 4) (fp_or s (2 ^ (aLk g b th q 4).toNat)) := rfl
    rw [es]
    by_cases e : aLk g b th q 4 = p
    · rw [if_pos e]
      refine S.iload (pc' := 10) dX12_ringOf_8 rfl rfl ?_
      refine S.iconst (pc' := 11) dX12_ringOf_10 rfl ?_
      refine S.icmp_ge (pc' := 14) (tgt := 44) dX12_ringOf_11 (by decide) rfl (by unfold fp_rng; omega) (by unfold fp_rng; omega) (fun h11 => ?_) (fun h11 => ?_)
      · exfalso; omega
      · refine S.aload_n (pc' := 15) dX12_ringOf_14 rfl rfl rfl ?_
        refine S.iload (pc' := 17) dX12_ringOf_15 rfl rfl ?_
        refine S.iload_n (pc' := 18) dX12_ringOf_17 rfl rfl rfl ?_
        refine S.callVe (pc' := 21) dX12_ringOf_18 rfl cX12_318 (rk_X12_likes ⟨q0, q1⟩ hb hg hd hr) rfl L_177 (by decide) rfl (Nat.le_of_ble_eq_true rfl) ?_
        refine S.istore (pc' := 23) (LL' := [_, _, _, _, _, _]) dX12_ringOf_21 rfl (by decide) rfl rfl ?_
        refine S.iload_n (pc' := 24) dX12_ringOf_23 rfl rfl rfl ?_
        refine S.iconst (pc' := 25) dX12_ringOf_24 rfl ?_
        refine S.iload (pc' := 27) dX12_ringOf_25 rfl rfl ?_
        refine S.ishl (pc' := 28) dX12_ringOf_27 rfl (fp_shl1 (by omega) (by omega)) ?_
        refine S.ior (pc' := 29) dX12_ringOf_28 rfl (fp_ior s0 (Int.le_of_lt (Int.pow_pos (by decide)))) ?_
        refine S.istore_n (pc' := 30) (LL' := [_, _, _, _, _, _]) dX12_ringOf_29 rfl (by decide) rfl rfl rfl ?_
        refine S.iload (pc' := 32) dX12_ringOf_30 rfl rfl ?_
        refine S.iload_n (pc' := 33) dX12_ringOf_32 rfl rfl rfl ?_
        refine S.icmp_ne (pc' := 36) (tgt := 38) dX12_ringOf_33 (by decide) rfl (by unfold fp_rng; omega) (by unfold fp_rng; omega) (fun h33 => ?_) (fun h33 => ?_)
        · exfalso; omega
        · refine S.iload_n (pc' := 37) dX12_ringOf_36 rfl rfl rfl ?_
          refine S.iret dX12_ringOf_37 rfl ?_
          exact ⟨rfl, rfl⟩
    · rw [if_neg e]
      refine S.iload (pc' := 10) dX12_ringOf_8 rfl rfl ?_
      refine S.iconst (pc' := 11) dX12_ringOf_10 rfl ?_
      refine S.icmp_ge (pc' := 14) (tgt := 44) dX12_ringOf_11 (by decide) rfl (by unfold fp_rng; omega) (by unfold fp_rng; omega) (fun h11 => ?_) (fun h11 => ?_)
      · exfalso; omega
      · refine S.aload_n (pc' := 15) dX12_ringOf_14 rfl rfl rfl ?_
        refine S.iload (pc' := 17) dX12_ringOf_15 rfl rfl ?_
        refine S.iload_n (pc' := 18) dX12_ringOf_17 rfl rfl rfl ?_
        refine S.callVe (pc' := 21) dX12_ringOf_18 rfl cX12_318 (rk_X12_likes ⟨q0, q1⟩ hb hg hd hr) rfl L_177 (by decide) rfl (Nat.le_of_ble_eq_true rfl) ?_
        refine S.istore (pc' := 23) (LL' := [_, _, _, _, _, _]) dX12_ringOf_21 rfl (by decide) rfl rfl ?_
        refine S.iload_n (pc' := 24) dX12_ringOf_23 rfl rfl rfl ?_
        refine S.iconst (pc' := 25) dX12_ringOf_24 rfl ?_
        refine S.iload (pc' := 27) dX12_ringOf_25 rfl rfl ?_
        refine S.ishl (pc' := 28) dX12_ringOf_27 rfl (fp_shl1 (by omega) (by omega)) ?_
        refine S.ior (pc' := 29) dX12_ringOf_28 rfl (fp_ior s0 (Int.le_of_lt (Int.pow_pos (by decide)))) ?_
        refine S.istore_n (pc' := 30) (LL' := [_, _, _, _, _, _]) dX12_ringOf_29 rfl (by decide) rfl rfl rfl ?_
        refine S.iload (pc' := 32) dX12_ringOf_30 rfl rfl ?_
        refine S.iload_n (pc' := 33) dX12_ringOf_32 rfl rfl rfl ?_
        refine S.icmp_ne (pc' := 36) (tgt := 38) dX12_ringOf_33 (by decide) rfl (by unfold fp_rng; omega) (by unfold fp_rng; omega) (fun h33 => ?_) (fun h33 => ?_)
        · refine S.iinc (pc' := 41) (LL' := [_, _, _, _, _, _]) dX12_ringOf_38 rfl (by decide) rfl rfl rfl ?_
          refine S.goto (pc' := 8) dX12_ringOf_41 (by decide) ?_
          exact ih _ _ _ (by omega) (by omega) (by omega) (by omega) (by omega) (fp_or_nn _ _)
        · exfalso; omega
theorem rk_X12_ringOf {b : Int → Int} {th p : Int} (hp : 0 ≤ p ∧ p < 4) (hb : bOk g b th) (hne : th ≠ 0) (hf : ∀ q : Int, 0 ≤ q → q < 4 → 0 ≤ aLk g b th q 4 ∧ aLk g b th q 4 < 4) (hg : gOk g) (hd : mdIs M g) (hr : ∀ q : Int, 0 ≤ q → q < 4 → M 196 q.toNat = b q) : fp_Ok l G 1 kX12_ringOf [rV G 177, iV p, iV th] M (qE (aRgM (fun q => aLk g b th q 4) p 4 p 0) M) := by
  refine fp_Ok.of (r := 3) rfl (Nat.le_of_ble_eq_true rfl) rfl ?_
  refine S.iconst (pc' := 1) dX12_ringOf_0 rfl ?_
  refine S.istore_n (pc' := 2) (LL' := [_, _, _, _, _, _]) dX12_ringOf_1 rfl (by decide) rfl rfl rfl ?_
  refine S.iload_n (pc' := 3) dX12_ringOf_2 rfl rfl rfl ?_
  refine S.istore (pc' := 5) (LL' := [_, _, _, _, _, _]) dX12_ringOf_3 rfl (by decide) rfl rfl ?_
  refine S.iconst (pc' := 6) dX12_ringOf_5 rfl ?_
  refine S.istore (pc' := 8) (LL' := [_, _, _, _, _, _]) dX12_ringOf_6 rfl (by decide) rfl rfl ?_
  exact mringof_loop hp hb hne hf hg hd hr 4 0 p 0 (by omega) (by omega) (by omega) (by omega) (by omega) (by omega)
theorem ctake_loop {b f : Int → Int} {p : Int} (hp : 0 ≤ p ∧ p < 4) (hf : ∀ q : Int, 0 ≤ q → q < 4 → 0 ≤ f q ∧ f q < 4) (hpt : ∀ y : Int, 0 ≤ y → y < 4 → M 140 y.toNat = f y) (hr : ∀ q : Int, 0 ≤ q → q < 4 → M 139 q.toNat = b q) : ∀ (n : Nat) (i q m : Int), (4 - i).toNat = n → 0 ≤ i → i ≤ 4 → 0 ≤ q → q < 4 → 0 ≤ m →
    fp_S l G 1 kX7_takeIfInRing 17 [some (rV G 136), some (iV p), some (iV m), some (iV q), some (iV i)] [] M (qI fun z O => (aRgC f p n q m = 0 ∧ z = 0 ∧ O = M) ∨ (aRgC f p n q m ≠ 0 ∧ z = 2 ^ p.toNat ∧ O = fp_up (fp_up M 137 p.toNat (b (f p))) 138 p.toNat (aRgC f p n q m))) := by
  intro n
  induction n with
  | zero =>
    intro i q m h i0 i1 q0 q1 m0
    refine S.iload (pc' := 19) dX7_takeIfInRing_17 rfl rfl ?_
    refine S.iconst (pc' := 20) dX7_takeIfInRing_19 rfl ?_
    refine S.icmp_ge (pc' := 23) (tgt := 75) dX7_takeIfInRing_20 (by decide) rfl (by unfold fp_rng; omega) (by unfold fp_rng; omega) (fun h20 => ?_) (fun h20 => ?_)
    · refine S.iconst (pc' := 76) dX7_takeIfInRing_75 rfl ?_
      refine S.iret dX7_takeIfInRing_76 rfl ?_
      exact Or.inl ⟨rfl, rfl, rfl⟩
    · exfalso; omega
  | succ n ih =>
    intro i q m h i0 i1 q0 q1 m0
    have hq := hf q q0 q1
    have hpq := hpt q q0 q1
    have hpp := hpt p hp.1 hp.2
    have hfp := hf p hp.1 hp.2
    have hbp := hr (f p) hfp.1 hfp.2
    have es : aRgC f p (n + 1) q m = if f q = p then fp_or m (2 ^ q.toNat) else aRgC f p n (f q) (fp_or m (2 ^ q.toNat)) := rfl
    rw [es]
    by_cases e : f q = p
    · rw [if_pos e]
      have hpos : fp_or m (2 ^ q.toNat) ≠ 0 := by
        unfold fp_or
        intro h0
        have h1 : m.toNat ||| ((2 : Int) ^ q.toNat).toNat = 0 := by omega
        have h2 := (Nat.or_eq_zero_iff.mp h1).2
        have h3 : (0 : Int) < 2 ^ q.toNat := Int.pow_pos (by decide)
        omega
      refine S.iload (pc' := 19) dX7_takeIfInRing_17 rfl rfl ?_
      refine S.iconst (pc' := 20) dX7_takeIfInRing_19 rfl ?_
      refine S.icmp_ge (pc' := 23) (tgt := 75) dX7_takeIfInRing_20 (by decide) rfl (by unfold fp_rng; omega) (by unfold fp_rng; omega) (fun h20 => ?_) (fun h20 => ?_)
      · exfalso; omega
      · refine S.iload_n (pc' := 24) dX7_takeIfInRing_23 rfl rfl rfl ?_
        refine S.iconst (pc' := 25) dX7_takeIfInRing_24 rfl ?_
        refine S.iload_n (pc' := 26) dX7_takeIfInRing_25 rfl rfl rfl ?_
        refine S.ishl (pc' := 27) dX7_takeIfInRing_26 rfl (fp_shl1 (by omega) (by omega)) ?_
        refine S.ior (pc' := 28) dX7_takeIfInRing_27 rfl (fp_ior m0 (Int.le_of_lt (Int.pow_pos (by decide)))) ?_
        refine S.istore_n (pc' := 29) (LL' := [_, _, _, _, _]) dX7_takeIfInRing_28 rfl (by decide) rfl rfl rfl ?_
        refine S.aload_n (pc' := 30) dX7_takeIfInRing_29 rfl rfl rfl ?_
        refine S.getR (pc' := 33) dX7_takeIfInRing_30 rfl fX7_21 L_136 rf_136_3 ?_
        refine S.iload_n (pc' := 34) dX7_takeIfInRing_33 rfl rfl rfl ?_
        refine S.iald (pc' := 35) dX7_takeIfInRing_34 rfl L_140 (by omega) (by omega) ?_
        rw [hpq]
        refine S.istore_n (pc' := 36) (LL' := [_, _, _, _, _]) dX7_takeIfInRing_35 rfl (by decide) rfl rfl rfl ?_
        refine S.iload_n (pc' := 37) dX7_takeIfInRing_36 rfl rfl rfl ?_
        refine S.iload_n (pc' := 38) dX7_takeIfInRing_37 rfl rfl rfl ?_
        refine S.icmp_ne (pc' := 41) (tgt := 69) dX7_takeIfInRing_38 (by decide) rfl (by unfold fp_rng; omega) (by unfold fp_rng; omega) (fun h38 => ?_) (fun h38 => ?_)
        · exfalso; omega
        · refine S.aload_n (pc' := 42) dX7_takeIfInRing_41 rfl rfl rfl ?_
          refine S.getR (pc' := 45) dX7_takeIfInRing_42 rfl fX7_9 L_136 rf_136_0 ?_
          refine S.iload_n (pc' := 46) dX7_takeIfInRing_45 rfl rfl rfl ?_
          refine S.aload_n (pc' := 47) dX7_takeIfInRing_46 rfl rfl rfl ?_
          refine S.getR (pc' := 50) dX7_takeIfInRing_47 rfl fX7_18 L_136 rf_136_2 ?_
          refine S.aload_n (pc' := 51) dX7_takeIfInRing_50 rfl rfl rfl ?_
          refine S.getR (pc' := 54) dX7_takeIfInRing_51 rfl fX7_21 L_136 rf_136_3 ?_
          refine S.iload_n (pc' := 55) dX7_takeIfInRing_54 rfl rfl rfl ?_
          refine S.iald (pc' := 56) dX7_takeIfInRing_55 rfl L_140 (by omega) (by omega) ?_
          rw [hpp]
          refine S.iald (pc' := 57) dX7_takeIfInRing_56 rfl L_139 (by omega) (by omega) ?_
          rw [hbp]
          refine S.iast (pc' := 58) dX7_takeIfInRing_57 rfl L_137 (by omega) (by omega) ?_
          refine S.aload_n (pc' := 59) dX7_takeIfInRing_58 rfl rfl rfl ?_
          refine S.getR (pc' := 62) dX7_takeIfInRing_59 rfl fX7_15 L_136 rf_136_1 ?_
          refine S.iload_n (pc' := 63) dX7_takeIfInRing_62 rfl rfl rfl ?_
          refine S.iload_n (pc' := 64) dX7_takeIfInRing_63 rfl rfl rfl ?_
          refine S.iast (pc' := 65) dX7_takeIfInRing_64 rfl L_138 (by omega) (by omega) ?_
          refine S.iconst (pc' := 66) dX7_takeIfInRing_65 rfl ?_
          refine S.iload_n (pc' := 67) dX7_takeIfInRing_66 rfl rfl rfl ?_
          refine S.ishl (pc' := 68) dX7_takeIfInRing_67 rfl (fp_shl1 (by omega) (by omega)) ?_
          refine S.iret dX7_takeIfInRing_68 rfl ?_
          exact Or.inr ⟨hpos, rfl, rfl⟩
    · rw [if_neg e]
      refine S.iload (pc' := 19) dX7_takeIfInRing_17 rfl rfl ?_
      refine S.iconst (pc' := 20) dX7_takeIfInRing_19 rfl ?_
      refine S.icmp_ge (pc' := 23) (tgt := 75) dX7_takeIfInRing_20 (by decide) rfl (by unfold fp_rng; omega) (by unfold fp_rng; omega) (fun h20 => ?_) (fun h20 => ?_)
      · exfalso; omega
      · refine S.iload_n (pc' := 24) dX7_takeIfInRing_23 rfl rfl rfl ?_
        refine S.iconst (pc' := 25) dX7_takeIfInRing_24 rfl ?_
        refine S.iload_n (pc' := 26) dX7_takeIfInRing_25 rfl rfl rfl ?_
        refine S.ishl (pc' := 27) dX7_takeIfInRing_26 rfl (fp_shl1 (by omega) (by omega)) ?_
        refine S.ior (pc' := 28) dX7_takeIfInRing_27 rfl (fp_ior m0 (Int.le_of_lt (Int.pow_pos (by decide)))) ?_
        refine S.istore_n (pc' := 29) (LL' := [_, _, _, _, _]) dX7_takeIfInRing_28 rfl (by decide) rfl rfl rfl ?_
        refine S.aload_n (pc' := 30) dX7_takeIfInRing_29 rfl rfl rfl ?_
        refine S.getR (pc' := 33) dX7_takeIfInRing_30 rfl fX7_21 L_136 rf_136_3 ?_
        refine S.iload_n (pc' := 34) dX7_takeIfInRing_33 rfl rfl rfl ?_
        refine S.iald (pc' := 35) dX7_takeIfInRing_34 rfl L_140 (by omega) (by omega) ?_
        rw [hpq]
        refine S.istore_n (pc' := 36) (LL' := [_, _, _, _, _]) dX7_takeIfInRing_35 rfl (by decide) rfl rfl rfl ?_
        refine S.iload_n (pc' := 37) dX7_takeIfInRing_36 rfl rfl rfl ?_
        refine S.iload_n (pc' := 38) dX7_takeIfInRing_37 rfl rfl rfl ?_
        refine S.icmp_ne (pc' := 41) (tgt := 69) dX7_takeIfInRing_38 (by decide) rfl (by unfold fp_rng; omega) (by unfold fp_rng; omega) (fun h38 => ?_) (fun h38 => ?_)
        · refine S.iinc (pc' := 72) (LL' := [_, _, _, _, _]) dX7_takeIfInRing_69 rfl (by decide) rfl rfl rfl ?_
          refine S.goto (pc' := 17) dX7_takeIfInRing_72 (by decide) ?_
          exact ih _ _ _ (by omega) (by omega) (by omega) (by omega) (by omega) (fp_or_nn _ _)
        · exfalso; omega
theorem rk_X7_takeIfInRing {b f : Int → Int} {th p : Int} (hp : 0 ≤ p ∧ p < 4) (hth : 0 ≤ th ∧ th < 16) (hm : M 136 4 = th) (hf : ∀ q : Int, 0 ≤ q → q < 4 → 0 ≤ f q ∧ f q < 4) (hpt : ∀ y : Int, 0 ≤ y → y < 4 → M 140 y.toNat = f y) (hr : ∀ q : Int, 0 ≤ q → q < 4 → M 139 q.toNat = b q) : fp_Ok l G 1 kX7_takeIfInRing [rV G 136, iV p] M (qI fun z O => ((¬ th.toNat.testBit p.toNat = true ∨ aRgC f p 4 p 0 = 0) ∧ z = 0 ∧ O = M) ∨ (th.toNat.testBit p.toNat = true ∧ aRgC f p 4 p 0 ≠ 0 ∧ z = 2 ^ p.toNat ∧ O = fp_up (fp_up M 137 p.toNat (b (f p))) 138 p.toNat (aRgC f p 4 p 0))) := by
  refine fp_Ok.of (r := 3) rfl (Nat.le_of_ble_eq_true rfl) rfl ?_
  have hlp := ctake_loop (l := l) (G := G) hp hf hpt hr 4 0 p 0 (by omega) (by omega) (by omega) (by omega) (by omega) (by omega)
  refine S.aload_n (pc' := 1) dX7_takeIfInRing_0 rfl rfl rfl ?_
  refine S.iload_n (pc' := 2) dX7_takeIfInRing_1 rfl rfl rfl ?_
  refine S.callVi (pc' := 5) dX7_takeIfInRing_2 rfl cX7_45 (bk_X7_isThere hth hm hp) rfl L_136 (by decide) rfl (Nat.le_of_ble_eq_true rfl) (fun z2 M2 q2 => ?_)
  obtain ⟨b9, rfl⟩ := q2
  refine S.if_ne (pc' := 8) (tgt := 10) dX7_takeIfInRing_5 (by decide) rfl (by unfold fp_rng; omega) (fun h5 => ?_) (fun h5 => ?_)
  · refine S.iconst (pc' := 11) dX7_takeIfInRing_10 rfl ?_
    refine S.istore_n (pc' := 12) (LL' := [_, _, _, _, _]) dX7_takeIfInRing_11 rfl (by decide) rfl rfl rfl ?_
    refine S.iload_n (pc' := 13) dX7_takeIfInRing_12 rfl rfl rfl ?_
    refine S.istore_n (pc' := 14) (LL' := [_, _, _, _, _]) dX7_takeIfInRing_13 rfl (by decide) rfl rfl rfl ?_
    refine S.iconst (pc' := 15) dX7_takeIfInRing_14 rfl ?_
    refine S.istore (pc' := 17) (LL' := [_, _, _, _, _]) dX7_takeIfInRing_15 rfl (by decide) rfl rfl ?_
    refine hlp.wI (fun z O q => ?_)
    rcases b9 with q9 | q9
    · rcases q with q | q
      · exact Or.inl ⟨Or.inr q.1, q.2⟩
      · exact Or.inr ⟨q9.2, q⟩
    · exfalso; omega
  · refine S.iconst (pc' := 9) dX7_takeIfInRing_8 rfl ?_
    refine S.iret dX7_takeIfInRing_9 rfl ?_
    rcases b9 with q9 | q9
    · exfalso; omega
    · exact Or.inl ⟨Or.inl q9.2, rfl, rfl⟩
end RN2
