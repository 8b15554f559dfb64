/-! PLACES, outright: rows k + 1 (where), k + 2 (putBy), k + 3 (size), k + 4 (lying) -/
def fp_spl (M : fp_Mem) (k : Nat) (W P S L : Nat → Int) : fp_Mem := fun a => if a = k + 1 then W else if a = k + 2 then P else if a = k + 3 then S else if a = k + 4 then L else M a
theorem fp_spl1 {M : fp_Mem} {k : Nat} {W P S L : Nat → Int} : fp_spl M k W P S L (k + 1) = W := by simp [fp_spl]
theorem fp_spl2 {M : fp_Mem} {k : Nat} {W P S L : Nat → Int} : fp_spl M k W P S L (k + 2) = P := by simp [fp_spl]
theorem fp_spl3 {M : fp_Mem} {k : Nat} {W P S L : Nat → Int} : fp_spl M k W P S L (k + 3) = S := by simp [fp_spl]
theorem fp_spl4 {M : fp_Mem} {k : Nat} {W P S L : Nat → Int} : fp_spl M k W P S L (k + 4) = L := by simp [fp_spl]
theorem fp_splo {M : fp_Mem} {k a : Nat} {W P S L : Nat → Int} (h : a < k + 1 ∨ k + 4 < a) : fp_spl M k W P S L a = M a := by
  unfold fp_spl
  rw [if_neg (by omega), if_neg (by omega), if_neg (by omega), if_neg (by omega)]
/-- what the line gives: its place, the thing -/
def pl_sel (M : fp_Mem) (kg k : Nat) (l : Int) : Int := fp_giv (M (kg + 3) l.toNat) (fun i => M (kg + 1) (M (k + 4) (l * 8 + i).toNat).toNat) (M (k + 3) l.toNat)
def pl_gives (M : fp_Mem) (kg k : Nat) (l : Int) : Int := if M (k + 3) l.toNat = 0 then -4 else M (k + 4) (l * 8 + pl_sel M kg k l).toNat
/-- the memory behind giveTo, where something lies there -/
def pl_give (M : fp_Mem) (kg k : Nat) (p l : Int) : fp_Mem := fp_spl M k
  (fp_upf (M (k + 1)) (pl_gives M kg k l).toNat p) (fp_upf (M (k + 2)) (pl_gives M kg k l).toNat (-4)) (fp_upf (M (k + 3)) l.toNat (M (k + 3) l.toNat - 1))
  (fun j => if l * 8 + pl_sel M kg k l ≤ j ∧ (j : Int) < l * 8 + (M (k + 3) l.toNat - 1) then M (k + 4) (j + 1) else M (k + 4) j)
/-- the memory behind insert, where there is room -/
def pl_ins (M : fp_Mem) (k : Nat) (t l s : Int) : fp_Mem := fp_spl M k
  (fp_upf (M (k + 1)) t.toNat (10 + l)) (fp_upf (M (k + 2)) t.toNat (M (k + 1) t.toNat)) (fp_upf (M (k + 3)) l.toNat (M (k + 3) l.toNat + 1))
  (fun j => if (j : Int) = l * 8 + s then t else if l * 8 + s < j ∧ (j : Int) ≤ l * 8 + M (k + 3) l.toNat then M (k + 4) (j - 1) else M (k + 4) j)
/-- numbers in bounds -/
def pl_ok (M : fp_Mem) (k : Nat) : Prop := (∀ t : Int, 0 ≤ t → t < 10 → -4 ≤ M (k + 1) t.toNat ∧ M (k + 1) t.toNat ≤ 12) ∧ (∀ l : Int, 0 ≤ l → l < 3 → 0 ≤ M (k + 3) l.toNat ∧ M (k + 3) l.toNat ≤ 8) ∧ ∀ i : Int, 0 ≤ i → i < 24 → 0 ≤ M (k + 4) i.toNat ∧ M (k + 4) i.toNat ≤ 9
def gd_ok (M : fp_Mem) (k : Nat) : Prop := (0 ≤ M k 0 ∧ M k 0 ≤ 10) ∧ (0 ≤ M k 1 ∧ M k 1 ≤ 3) ∧ (0 ≤ M k 2 ∧ M k 2 ≤ 10) ∧ (∀ i : Int, 0 ≤ i → i < 11 → 0 ≤ M (k + 1) i.toNat ∧ M (k + 1) i.toNat ≤ 100) ∧ (∀ i : Int, 0 ≤ i → i < 44 → 0 ≤ M (k + 2) i.toNat ∧ M (k + 2) i.toNat ≤ 20) ∧ ∀ l : Int, 0 ≤ l → l < 3 → 0 ≤ M (k + 3) l.toNat ∧ M (k + 3) l.toNat ≤ 2
section PLC
variable {l : Launch} {G : fp_WG} {M : fp_Mem}
theorem held_loop {k : Nat} {p : Int} (hk : fp_ispl k) (ho : pl_ok M k) (hp : fp_rng p) : ∀ (n : Nat) (t : Int), (10 - t).toNat < n → 0 ≤ t → t ≤ 10 →
    fp_S l G 0 kX5_heldBy 4 [some (rV G k), some (iV p), some (iV (fp_hb (fun t => M (k + 1) t.toNat) p t.toNat)), some (iV t)] [] M (qE (fp_hb (fun t => M (k + 1) t.toNat) p 10) M) := by
  intro n
  induction n with
  | zero => intro t h; omega
  | succ n ih =>
    intro t h h0 h1
    have hb := fp_hb_lt (fun t => M (k + 1) t.toNat) p t.toNat
    have es := fp_hb_succ (w := fun t => M (k + 1) t.toNat) (p := p) h0
    refine S.iload_n dX5_heldBy_4 rfl rfl rfl ?_
    refine S.bipush dX5_heldBy_5 rfl (by decide) ?_
    refine S.icmp_ge (tgt := 32) dX5_heldBy_7 (by decide) rfl (by unfold fp_rng; omega) (by unfold fp_rng; omega) (fun h7 => ?_) (fun h7 => ?_)
    · refine S.iload_n dX5_heldBy_32 rfl rfl rfl ?_
      refine S.iret dX5_heldBy_33 rfl ?_
      exact ⟨by rw [show t = 10 by omega]; rfl, rfl⟩
    · have hw := ho.1 t (by omega) (by omega)
      refine S.aload_n dX5_heldBy_10 rfl rfl rfl ?_
      refine S.getR dX5_heldBy_11 rfl fX5_9 (pl_lay hk) (pl_r0 hk) ?_
      refine S.iload_n dX5_heldBy_14 rfl rfl rfl ?_
      refine S.iald dX5_heldBy_15 rfl (pl_a0 hk) (by omega) (by omega) ?_
      refine S.iload_n dX5_heldBy_16 rfl rfl rfl ?_
      refine S.icmp_ne (tgt := 26) dX5_heldBy_17 (by decide) rfl (by unfold fp_rng; omega) hp (fun h17 => ?_) (fun h17 => ?_)
      · refine S.iinc (LL' := [_, _, _, _]) dX5_heldBy_26 rfl (by decide) rfl rfl rfl ?_
        refine S.goto (pc' := 4) dX5_heldBy_29 (by decide) ?_
        first | (rw [if_neg h17] at es; rw [← es]; exact ih _ (by omega) (by omega) (by omega)) | (rw [if_pos h17] at es; rw [← es]; exact ih _ (by omega) (by omega) (by omega))
      · refine S.iload_n dX5_heldBy_20 rfl rfl rfl ?_
        refine S.iconst dX5_heldBy_21 rfl ?_
        refine S.iload_n dX5_heldBy_22 rfl rfl rfl ?_
        refine S.ishl dX5_heldBy_23 rfl (fp_shl1 (by omega) (by omega)) ?_
        refine S.ior dX5_heldBy_24 rfl (fp_ior hb.1 (by have := fp_pow_le (i := t) (n := 10) (by omega); omega)) ?_
        refine S.istore_n (LL' := [_, _, _, _]) dX5_heldBy_25 rfl (by decide) rfl rfl rfl ?_
        refine S.iinc (LL' := [_, _, _, _]) dX5_heldBy_26 rfl (by decide) rfl rfl rfl ?_
        refine S.goto (pc' := 4) dX5_heldBy_29 (by decide) ?_
        first | (rw [if_neg h17] at es; rw [← es]; exact ih _ (by omega) (by omega) (by omega)) | (rw [if_pos h17] at es; rw [← es]; exact ih _ (by omega) (by omega) (by omega))
theorem ok_X5_heldBy {k : Nat} {p : Int} (hk : fp_ispl k) (ho : pl_ok M k := by assumption) (hp : fp_rng p := by first | assumption | (unfold fp_rng; omega)) : fp_Ok l G 0 kX5_heldBy [rV G k, iV p] M (qE (fp_hb (fun t => M (k + 1) t.toNat) p 10) M) := by
  refine fp_Ok.of (r := 2) rfl (Nat.le_of_ble_eq_true rfl) rfl ?_
  refine S.iconst dX5_heldBy_0 rfl ?_
  refine S.istore_n (LL' := [_, _, _, _]) dX5_heldBy_1 rfl (by decide) rfl rfl rfl ?_
  refine S.iconst dX5_heldBy_2 rfl ?_
  refine S.istore_n (LL' := [_, _, _, _]) dX5_heldBy_3 rfl (by decide) rfl rfl rfl ?_
  exact held_loop hk ho hp 11 0 (by omega) (by omega) (by omega)
theorem least_loop {k : Nat} {p : Int} (hk : fp_ispl k) (ho : pl_ok M k) (hp : fp_rng p) : ∀ (n : Nat) (t : Int), (10 - t).toNat = n → 0 ≤ t → t ≤ 10 →
    fp_S l G 0 kX5_leastHeldBy 2 [some (rV G k), some (iV p), some (iV t)] [] M (qE (fp_find (fun t => M (k + 1) t.toNat) p n t) M) := by
  intro n
  induction n with
  | zero =>
    intro t h h0 h1
    refine S.iload_n dX5_leastHeldBy_2 rfl rfl rfl ?_
    refine S.bipush dX5_leastHeldBy_3 rfl (by decide) ?_
    refine S.icmp_ge (tgt := 26) dX5_leastHeldBy_5 (by decide) rfl (by unfold fp_rng; omega) (by unfold fp_rng; omega) (fun h5 => ?_) (fun h5 => ?_)
    · refine S.bipush dX5_leastHeldBy_26 rfl (by decide) ?_
      refine S.iret dX5_leastHeldBy_28 rfl ?_
      exact ⟨rfl, rfl⟩
    · exfalso; omega
  | succ n ih =>
    intro t h h0 h1
    unfold fp_find
    refine S.iload_n dX5_leastHeldBy_2 rfl rfl rfl ?_
    refine S.bipush dX5_leastHeldBy_3 rfl (by decide) ?_
    refine S.icmp_ge (tgt := 26) dX5_leastHeldBy_5 (by decide) rfl (by unfold fp_rng; omega) (by unfold fp_rng; omega) (fun h5 => ?_) (fun h5 => ?_)
    · refine S.bipush dX5_leastHeldBy_26 rfl (by decide) ?_
      refine S.iret dX5_leastHeldBy_28 rfl ?_
      exfalso; omega
    · have hw := ho.1 t (by omega) (by omega)
      refine S.aload_n dX5_leastHeldBy_8 rfl rfl rfl ?_
      refine S.getR dX5_leastHeldBy_9 rfl fX5_9 (pl_lay hk) (pl_r0 hk) ?_
      refine S.iload_n dX5_leastHeldBy_12 rfl rfl rfl ?_
      refine S.iald dX5_leastHeldBy_13 rfl (pl_a0 hk) (by omega) (by omega) ?_
      refine S.iload_n dX5_leastHeldBy_14 rfl rfl rfl ?_
      refine S.icmp_ne (tgt := 20) dX5_leastHeldBy_15 (by decide) rfl (by unfold fp_rng; omega) hp (fun h15 => ?_) (fun h15 => ?_)
      · refine S.iinc (LL' := [_, _, _]) dX5_leastHeldBy_20 rfl (by decide) rfl rfl rfl ?_
        refine S.goto (pc' := 2) dX5_leastHeldBy_23 (by decide) ?_
        rw [if_neg h15]
        exact ih _ (by omega) (by omega) (by omega)
      · refine S.iload_n dX5_leastHeldBy_18 rfl rfl rfl ?_
        refine S.iret dX5_leastHeldBy_19 rfl ?_
        exact ⟨by rw [if_pos h15], rfl⟩
theorem ok_X5_leastHeldBy {k : Nat} {p : Int} (hk : fp_ispl k) (ho : pl_ok M k := by assumption) (hp : fp_rng p := by first | assumption | (unfold fp_rng; omega)) : fp_Ok l G 0 kX5_leastHeldBy [rV G k, iV p] M (qE (fp_find (fun t => M (k + 1) t.toNat) p 10 0) M) := by
  refine fp_Ok.of (r := 1) rfl (Nat.le_of_ble_eq_true rfl) rfl ?_
  refine S.iconst dX5_leastHeldBy_0 rfl ?_
  refine S.istore_n (LL' := [_, _, _]) dX5_leastHeldBy_1 rfl (by decide) rfl rfl rfl ?_
  exact least_loop hk ho hp 10 0 (by omega) (by omega) (by omega)
theorem worth_loop {k kg : Nat} {p : Int} (hk : fp_ispl k) (hg : fp_isgd kg) (ho : pl_ok M k) (hgo : gd_ok M kg) (hp : 0 ≤ p ∧ p < 4) : ∀ (n : Nat) (t : Int), (M kg 0 - t).toNat < n → 0 ≤ t → t ≤ M kg 0 →
    fp_S l G 1 kX5_worthTo 5 [some (rV G k), some (rV G kg), some (iV p), some (iV (fp_sum (fun t => if M (k + 1) t.toNat = p then M (kg + 2) (t * 4 + p).toNat else 0) t.toNat)), some (iV t)] [] M (qE (fp_sum (fun t => if M (k + 1) t.toNat = p then M (kg + 2) (t * 4 + p).toNat else 0) (M kg 0).toNat) M) := by
  intro n
  induction n with
  | zero => intro t h; omega
  | succ n ih =>
    intro t h h0 h1
    have es := fp_sum_succ (f := fun t => if M (k + 1) t.toNat = p then M (kg + 2) (t * 4 + p).toNat else 0) h0
    have hm := hgo.1
    refine S.iload dX5_worthTo_5 rfl rfl ?_
    refine S.aload_n dX5_worthTo_7 rfl rfl rfl ?_
    refine S.getI dX5_worthTo_8 rfl fX5_36 (gd_lay hg) ?_
    refine S.icmp_ge (tgt := 41) dX5_worthTo_11 (by decide) rfl (by unfold fp_rng; omega) (by unfold fp_rng; omega) (fun h11 => ?_) (fun h11 => ?_)
    · refine S.iload_n dX5_worthTo_41 rfl rfl rfl ?_
      refine S.iret dX5_worthTo_42 rfl ?_
      exact ⟨by rw [show t = M kg 0 by omega], rfl⟩
    · have hw := ho.1 t (by omega) (by omega)
      refine S.aload_n dX5_worthTo_14 rfl rfl rfl ?_
      refine S.getR dX5_worthTo_15 rfl fX5_9 (pl_lay hk) (pl_r0 hk) ?_
      refine S.iload dX5_worthTo_18 rfl rfl ?_
      refine S.iald dX5_worthTo_20 rfl (pl_a0 hk) (by omega) (by omega) ?_
      refine S.iload_n dX5_worthTo_21 rfl rfl rfl ?_
      refine S.icmp_ne (tgt := 35) dX5_worthTo_22 (by decide) rfl (by unfold fp_rng; omega) (by unfold fp_rng; omega) (fun h22 => ?_) (fun h22 => ?_)
      · refine S.iinc (LL' := [_, _, _, _, _]) dX5_worthTo_35 rfl (by decide) rfl rfl rfl ?_
        refine S.goto (pc' := 5) dX5_worthTo_38 (by decide) ?_
        first | (rw [if_neg h22] at es; rw [Int.add_zero] at es; rw [← es]; exact ih _ (by omega) (by omega) (by omega)) | (rw [if_pos h22] at es; rw [← es]; exact ih _ (by omega) (by omega) (by omega))
      · refine S.iload_n dX5_worthTo_25 rfl rfl rfl ?_
        refine S.aload_n dX5_worthTo_26 rfl rfl rfl ?_
        refine S.iload_n dX5_worthTo_27 rfl rfl rfl ?_
        refine S.iload dX5_worthTo_28 rfl rfl ?_
        refine S.callVe dX5_worthTo_30 rfl cX5_42 (ok_X1_valueTo hg) rfl (gd_lay hg) (by decide) rfl (Nat.le_of_ble_eq_true rfl) ?_
        refine S.iadd dX5_worthTo_33 rfl ?_
        refine S.istore_n (LL' := [_, _, _, _, _]) dX5_worthTo_34 rfl (by decide) rfl rfl rfl ?_
        refine S.iinc (LL' := [_, _, _, _, _]) dX5_worthTo_35 rfl (by decide) rfl rfl rfl ?_
        refine S.goto (pc' := 5) dX5_worthTo_38 (by decide) ?_
        first | (rw [if_neg h22] at es; rw [Int.add_zero] at es; rw [← es]; exact ih _ (by omega) (by omega) (by omega)) | (rw [if_pos h22] at es; rw [← es]; exact ih _ (by omega) (by omega) (by omega))
theorem ok_X5_worthTo {k kg : Nat} {p : Int} (hk : fp_ispl k) (hg : fp_isgd kg) (ho : pl_ok M k := by assumption) (hgo : gd_ok M kg := by assumption) (hp : 0 ≤ p ∧ p < 4 := by first | assumption | omega) : fp_Ok l G 1 kX5_worthTo [rV G k, rV G kg, iV p] M (qE (fp_sum (fun t => if M (k + 1) t.toNat = p then M (kg + 2) (t * 4 + p).toNat else 0) (M kg 0).toNat) M) := by
  have hm := hgo.1
  refine fp_Ok.of (r := 2) rfl (Nat.le_of_ble_eq_true rfl) rfl ?_
  refine S.iconst dX5_worthTo_0 rfl ?_
  refine S.istore_n (LL' := [_, _, _, _, _]) dX5_worthTo_1 rfl (by decide) rfl rfl rfl ?_
  refine S.iconst dX5_worthTo_2 rfl ?_
  refine S.istore (LL' := [_, _, _, _, _]) dX5_worthTo_3 rfl (by decide) rfl rfl ?_
  exact worth_loop hk hg ho hgo hp ((M kg 0).toNat + 1) 0 (by omega) (by omega) (by omega)
end PLC
