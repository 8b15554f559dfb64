/-! FEED -/
theorem fp_lshrv {v s : Int} (hv : fp_lng v) (hs : 0 ≤ s ∧ s < 64) : Int64.ofInt v >>> ((Int32.ofInt s).toInt64 &&& 63) = Int64.ofInt (v / 2 ^ s.toNat) := by
  have hk : (((Int32.ofInt s).toInt64 &&& 63).toBitVec.smod 64).toNat = s.toNat := by
    have h : ∀ n : Nat, n < 64 → (((Int32.ofInt (n : Int)).toInt64 &&& 63).toBitVec.smod 64).toNat = n := by decide +kernel
    have := h s.toNat (by omega)
    rwa [Int.toNat_of_nonneg hs.1] at this
  rw [← Int64.toInt_inj]
  have e1 : (Int64.ofInt v >>> ((Int32.ofInt s).toInt64 &&& 63)).toInt = (Int64.ofInt v).toInt >>> s.toNat := by
    show (Int64.ofInt v >>> ((Int32.ofInt s).toInt64 &&& 63)).toBitVec.toInt = _
    rw [Int64.toBitVec_shiftRight, BitVec.sshiftRight', BitVec.toInt_sshiftRight, hk]
    rfl
  rw [e1]
  have hp : (0 : Int) < 2 ^ s.toNat := Int.pow_pos (by decide)
  unfold fp_lng at hv
  have hd : -9223372036854775808 ≤ v / 2 ^ s.toNat ∧ v / 2 ^ s.toNat < 9223372036854775808 := by
    constructor
    · rw [Int.le_ediv_iff_mul_le hp]
      have : (-9223372036854775808) * (2 ^ s.toNat) ≤ (-9223372036854775808 : Int) := by
        have h1 : (1 : Int) ≤ 2 ^ s.toNat := hp
        have := Int.mul_le_mul_of_nonneg_left h1 (show (0 : Int) ≤ 9223372036854775808 by decide)
        omega
      omega
    · apply Int.ediv_lt_of_lt_mul hp
      have h1 : (1 : Int) ≤ 2 ^ s.toNat := hp
      have := Int.mul_le_mul_of_nonneg_left h1 (show (0 : Int) ≤ 9223372036854775808 by decide)
      omega
  rw [Int64.toInt_ofInt_of_le (by omega) (by omega), Int64.toInt_ofInt_of_le (by omega) (by omega), Int.shiftRight_eq_div_pow]
  simp
theorem fp_and255 (a : Int) : Int32.ofInt a &&& Int32.ofInt 255 = Int32.ofInt (a % 256) := by
  apply Int32.toBitVec.inj
  apply BitVec.eq_of_toNat_eq
  rw [Int32.toBitVec_and, BitVec.toNat_and]
  have h : (Int32.ofInt 255).toBitVec.toNat = 2 ^ 8 - 1 := by decide
  rw [h, Nat.and_two_pow_sub_one_eq_mod]
  simp only [Int32.toBitVec_ofInt, BitVec.toNat_ofInt]
  omega
def aByte (v : Int) (i : Nat) : Int := (v / 2 ^ (56 - 8 * i)) % 256
def A_feed (tp : List Int) (v : Int) : Int × List Int := if 480 < tp.length + 8 then (-3, tp) else ((tp.length : Int) + 8, tp ++ (List.range 8).map (aByte v))
theorem A_feed_getD {tp : List Int} {v : Int} (i : Nat) (h : i < tp.length + 8) : (tp ++ (List.range 8).map (aByte v)).getD i 0 = if i < tp.length then tp.getD i 0 else aByte v (i - tp.length) := by
  rw [List.getD_eq_getElem?_getD]
  split
  · rename_i hi
    rw [List.getElem?_append_left hi, List.getD_eq_getElem?_getD]
  · rename_i hi
    rw [List.getElem?_append_right (by omega), List.getElem?_map, List.getElem?_range (by omega)]
    rfl
theorem fp_nbyte (a : Int) : narrow .byte (iV (a.bmod 256)) = iV (a.bmod 256) := by
  have h1 := Int.le_bmod (x := a) (m := 256) (by decide)
  have h2 := Int.bmod_lt (x := a) (m := 256) (by decide)
  show Value.int (Int32.ofInt (a.bmod 256)).toInt8.toInt32 = Value.int _
  congr 1
  rw [Int32.toInt8_ofInt, ← Int32.toInt_inj, Int8.toInt_toInt32, Int8.toInt_ofInt, fp_toInt (by unfold fp_rng; omega)]
  exact Int.bmod_bmod ..
section FEE
variable {l : Launch} {G : fp_WG} {M N : fp_Mem} {tp tp' : List Int} {fl fl' : Int} {g : aGd} {pg pg' : aPg} {vs vs' : List aVt} {nt nt' : List Int} {im im' : aIm} {sh sh' : aSh} {tn tn' : Int} {k k2 : Nat}
theorem cfeed_loop {v : Int} (hv : fp_lng v) (hc : CS M tp fl g pg vs nt im sh tn) (h8 : tp.length + 8 ≤ 480) : ∀ (n : Nat) (i : Int) (N : fp_Mem), (8 - i).toNat < n → 0 ≤ i → i ≤ 8 → (∀ a, a ≠ 1 → N a = M a) → (∀ j : Nat, N 1 j = if (tp.length : Int) ≤ j ∧ (j : Int) < tp.length + i then (v / 2 ^ (56 - 8 * (j - tp.length))).bmod 256 else M 1 j) →
    fp_S l G 0 kX11_feed 18 [some (rV G 0), some (jV v), none, some (iV i)] [] N (qI fun z O => z = (tp.length : Int) + 8 ∧ CS O (tp ++ (List.range 8).map (aByte v)) fl g pg vs nt im sh tn ∧ frC M O) := by
  have hA := hc.1
  obtain ⟨a1, a2, a3, a4, a5, a6, a7⟩ := hA
  intro n
  induction n with
  | zero => intro i N h; omega
  | succ n ih =>
    intro i N h i0 i1 e1 e2
    have t1 : N 0 1 = tp.length := by rw [e1 0 (by decide)]; exact a1
    refine S.iload_n (pc' := 19) dX11_feed_18 rfl rfl rfl ?_
    refine S.bipush (pc' := 21) dX11_feed_19 rfl (by decide) ?_
    refine S.icmp_ge (pc' := 24) (tgt := 52) dX11_feed_21 (by decide) rfl (by unfold fp_rng; omega) (by unfold fp_rng; omega) (fun h21 => ?_) (fun h21 => ?_)
    · refine S.aload_n (pc' := 53) dX11_feed_52 rfl rfl rfl ?_
      refine S.dup (pc' := 54) dX11_feed_53 rfl rfl ?_
      refine S.getI (pc' := 57) dX11_feed_54 rfl fX11_90 L_0 ?_
      refine S.bipush (pc' := 59) dX11_feed_57 rfl (by decide) ?_
      refine S.iadd (pc' := 60) dX11_feed_59 rfl ?_
      refine S.putI (pc' := 63) dX11_feed_60 rfl fX11_90 L_0 ?_
      refine S.aload_n (pc' := 64) dX11_feed_63 rfl rfl rfl ?_
      refine S.getI (pc' := 67) dX11_feed_64 rfl fX11_90 L_0 ?_
      refine S.iret dX11_feed_67 rfl ?_
      refine ⟨by rw [fp_up_at, fp_upf_at, t1], hc.tap (fun a ha => by rw [fp_up_ne (by omega)]; exact e1 a (by omega)) ⟨?_, ?_, fun q q0 q1 => ?_, ?_, ?_, a6, a7⟩, fun c hcc => by rw [fp_up_ne (by omega)]; exact e1 c (by omega)⟩
      · rw [fp_up_at, fp_upf_at, t1, List.length_append]; simp
      · rw [List.length_append]; simp; omega
      · rw [List.length_append] at q1; simp at q1
        rw [A_feed_getD q.toNat (by omega), fp_up_ne (by decide), e2]
        by_cases hq : q.toNat < tp.length
        · rw [if_pos hq, if_neg (by omega)]; exact a3 q q0 (by omega)
        · rw [if_neg hq, if_pos (by omega)]; unfold aByte; exact ⟨⟨Int.emod_nonneg _ (by decide), Int.emod_lt_of_pos _ (by decide)⟩, (Int.emod_bmod ..).symm⟩
      · rw [fp_up_ne (by decide), e1 2 (by decide)]; exact a4
      · rw [fp_up_at, fp_upf_ne (by decide), e1 0 (by decide)]; exact a5
    · refine S.aload_n (pc' := 25) dX11_feed_24 rfl rfl rfl ?_
      refine S.getR (pc' := 28) dX11_feed_25 rfl fX11_9 L_0 rf_0_0 ?_
      refine S.aload_n (pc' := 29) dX11_feed_28 rfl rfl rfl ?_
      refine S.getI (pc' := 32) dX11_feed_29 rfl fX11_90 L_0 ?_
      refine S.iload_n (pc' := 33) dX11_feed_32 rfl rfl rfl ?_
      rw [t1]
      refine S.iadd (pc' := 34) dX11_feed_33 rfl ?_
      refine S.lload_n (pc' := 35) dX11_feed_34 rfl rfl rfl ?_
      refine S.bipush (pc' := 37) dX11_feed_35 rfl (by decide) ?_
      refine S.bipush (pc' := 39) dX11_feed_37 rfl (by decide) ?_
      refine S.iload_n (pc' := 40) dX11_feed_39 rfl rfl rfl ?_
      refine S.imul (pc' := 41) dX11_feed_40 rfl ?_
      refine S.isub (pc' := 42) dX11_feed_41 rfl ?_
      refine S.lshr (pc' := 43) dX11_feed_42 rfl (fp_lshrv hv (by omega)) ?_
      refine S.l2i (pc' := 44) dX11_feed_43 rfl ?_
      refine S.i2b (pc' := 45) dX11_feed_44 rfl ?_
      refine S.bast (pc' := 46) dX11_feed_45 rfl L_1 (by omega) (by omega) (fp_nbyte _) ?_
      refine S.iinc (pc' := 49) (LL' := [_, _, _, _]) dX11_feed_46 rfl (by decide) rfl rfl rfl ?_
      refine S.goto (pc' := 18) dX11_feed_49 (by decide) ?_
      refine ih _ _ (by omega) (by omega) (by omega) (fun a ha => by rw [fp_up_ne ha]; exact e1 a ha) (fun j => ?_)
      rw [fp_up_at]
      unfold fp_upf
      by_cases e : j = ((tp.length : Int) + i).toNat
      · rw [if_pos e, if_pos (by omega), show (56 - 8 * i).toNat = 56 - 8 * (j - tp.length) by omega]
      · rw [if_neg e, e2 j]
        by_cases e9 : (tp.length : Int) ≤ j ∧ (j : Int) < tp.length + i
        · rw [if_pos e9, if_pos (by omega)]
        · rw [if_neg e9, if_neg (by omega)]
theorem cc_feed {v : Int} (hc : CS M tp fl g pg vs nt im sh tn) (hv : fp_lng v) : fp_Ok l G 0 kX11_feed [rV G 0, jV v] M (qI fun z N => z = (A_feed tp v).1 ∧ CS N (A_feed tp v).2 fl g pg vs nt im sh tn ∧ frC M N) := by
  have hA := hc.1
  have a1 := hA.1
  have a2 := hA.2.1
  refine fp_Ok.of (r := 1) rfl (Nat.le_of_ble_eq_true rfl) rfl ?_
  unfold A_feed
  by_cases h8 : 480 < tp.length + 8
  · rw [if_pos h8]
    refine S.aload_n (pc' := 1) dX11_feed_0 rfl rfl rfl ?_
    refine S.getI (pc' := 4) dX11_feed_1 rfl fX11_90 L_0 ?_
    refine S.bipush (pc' := 6) dX11_feed_4 rfl (by decide) ?_
    refine S.iadd (pc' := 7) dX11_feed_6 rfl ?_
    refine S.sipush (pc' := 10) dX11_feed_7 rfl (by decide) ?_
    refine S.icmp_le (pc' := 13) (tgt := 16) dX11_feed_10 (by decide) rfl (by unfold fp_rng; omega) (by unfold fp_rng; omega) (fun h10 => ?_) (fun h10 => ?_)
    · exfalso; omega
    · refine S.bipush (pc' := 15) dX11_feed_13 rfl (by decide) ?_
      refine S.iret dX11_feed_15 rfl ?_
      exact ⟨rfl, hc, frC.refl _⟩
  · rw [if_neg h8]
    refine S.aload_n (pc' := 1) dX11_feed_0 rfl rfl rfl ?_
    refine S.getI (pc' := 4) dX11_feed_1 rfl fX11_90 L_0 ?_
    refine S.bipush (pc' := 6) dX11_feed_4 rfl (by decide) ?_
    refine S.iadd (pc' := 7) dX11_feed_6 rfl ?_
    refine S.sipush (pc' := 10) dX11_feed_7 rfl (by decide) ?_
    refine S.icmp_le (pc' := 13) (tgt := 16) dX11_feed_10 (by decide) rfl (by unfold fp_rng; omega) (by unfold fp_rng; omega) (fun h10 => ?_) (fun h10 => ?_)
    · refine S.iconst (pc' := 17) dX11_feed_16 rfl ?_
      refine S.istore_n (pc' := 18) (LL' := [_, _, _, _]) dX11_feed_17 rfl (by decide) rfl rfl rfl ?_
      exact cfeed_loop hv hc (by omega) 9 0 _ (by omega) (by omega) (by omega) (fun a ha => rfl) (fun j => by rw [if_neg (by omega)])
    · exfalso; omega
theorem mfeed_loop {v : Int} (hv : fp_lng v) (hc : MS M tp fl g pg vs nt im sh tn) (h8 : tp.length + 8 ≤ 480) : ∀ (n : Nat) (i : Int) (N : fp_Mem), (8 - i).toNat < n → 0 ≤ i → i ≤ 8 → (∀ a, a ≠ 177 → a ≠ 186 → N a = M a) → N 177 = fp_upf (M 177) 19 (tp.length + i) → (∀ j : Nat, N 186 j = if (tp.length : Int) ≤ j ∧ (j : Int) < tp.length + i then (v / 2 ^ (56 - 8 * (j - tp.length))) % 256 else M 186 j) →
    fp_S l G 0 kX12_feed 19 [some (rV G 177), some (jV v), none, some (iV (56 - 8 * i))] [] N (qI fun z O => z = (tp.length : Int) + 8 ∧ MS O (tp ++ (List.range 8).map (aByte v)) fl g pg vs nt im sh tn ∧ frD M O) := by
  have hA := hc.1
  obtain ⟨a1, a2, a3, a4, a5⟩ := hA
  intro n
  induction n with
  | zero => intro i N h; omega
  | succ n ih =>
    intro i N h i0 i1 e1 e3 e2
    have t1 : N 177 19 = tp.length + i := by rw [e3, fp_upf_at]
    refine S.iload_n (pc' := 20) dX12_feed_19 rfl rfl rfl ?_
    refine S.if_lt (pc' := 23) (tgt := 56) dX12_feed_20 (by decide) rfl (by unfold fp_rng; omega) (fun h20 => ?_) (fun h20 => ?_)
    · refine S.aload_n (pc' := 57) dX12_feed_56 rfl rfl rfl ?_
      refine S.getI (pc' := 60) dX12_feed_57 rfl fX12_91 L_177 ?_
      refine S.iret dX12_feed_60 rfl ?_
      have i8 : i = 8 := by omega
      subst i8
      refine ⟨t1, hc.tap e1 ⟨by rw [e3, fp_upf_ne (by decide)], by rw [e3, fp_upf_ne (by decide)], by rw [e3, fp_upf_ne (by decide)]⟩ ⟨?_, ?_, fun q q0 q1 => ?_, ?_, ?_⟩, fun c hcc => e1 c (by omega) (by omega)⟩
      · rw [t1, List.length_append]; simp
      · rw [List.length_append]; simp; omega
      · rw [List.length_append] at q1; simp at q1
        rw [A_feed_getD q.toNat (by omega), e2]
        by_cases hq : q.toNat < tp.length
        · rw [if_pos hq, if_neg (by omega)]; exact a3 q q0 (by omega)
        · rw [if_neg hq, if_pos (by omega)]; unfold aByte; exact ⟨⟨Int.emod_nonneg _ (by decide), Int.emod_lt_of_pos _ (by decide)⟩, rfl⟩
      · rw [e3, fp_upf_ne (by decide)]; exact a4
      · rw [e3, fp_upf_ne (by decide)]; exact a5
    · refine S.aload_n (pc' := 24) dX12_feed_23 rfl rfl rfl ?_
      refine S.getR (pc' := 27) dX12_feed_24 rfl fX12_38 L_177 rf_177_18 ?_
      refine S.aload_n (pc' := 28) dX12_feed_27 rfl rfl rfl ?_
      refine S.getI (pc' := 31) dX12_feed_28 rfl fX12_91 L_177 ?_
      rw [t1]
      refine S.lload_n (pc' := 32) dX12_feed_31 rfl rfl rfl ?_
      refine S.iload_n (pc' := 33) dX12_feed_32 rfl rfl rfl ?_
      refine S.lshr (pc' := 34) dX12_feed_33 rfl (fp_lshrv hv (by omega)) ?_
      refine S.l2i (pc' := 35) dX12_feed_34 rfl ?_
      refine S.sipush (pc' := 38) dX12_feed_35 rfl (by decide) ?_
      refine S.iand (pc' := 39) dX12_feed_38 rfl (fp_and255 _) ?_
      refine S.iast (pc' := 40) dX12_feed_39 rfl L_186 (by omega) (by omega) ?_
      refine S.aload_n (pc' := 41) dX12_feed_40 rfl rfl rfl ?_
      refine S.dup (pc' := 42) dX12_feed_41 rfl rfl ?_
      refine S.getI (pc' := 45) dX12_feed_42 rfl fX12_91 L_177 ?_
      refine S.iconst (pc' := 46) dX12_feed_45 rfl ?_
      rw [fp_up_ne (show 177 ≠ 186 by decide), t1]
      refine S.iadd (pc' := 47) dX12_feed_46 rfl ?_
      refine S.putI (pc' := 50) dX12_feed_47 rfl fX12_91 L_177 ?_
      refine S.iinc (pc' := 53) (LL' := [_, _, _, _]) dX12_feed_50 rfl (by decide) rfl rfl rfl ?_
      refine S.goto (pc' := 19) dX12_feed_53 (by decide) ?_
      have hh := fun N' q1 q2 q3 => ih (i + 1) N' (by omega) (by omega) (by omega) q1 q2 q3
      rw [show 56 - 8 * (i + 1) = 56 - 8 * i + -8 by omega] at hh
      refine hh _ (fun a ha hb => by rw [fp_up_ne ha, fp_up_ne hb]; exact e1 a ha hb) ?_ (fun j => ?_)
      · rw [fp_up_at, fp_up_ne (by decide), e3]; funext q; unfold fp_upf; split <;> first | omega | rfl
      · rw [fp_up_ne (by decide), fp_up_at]
        unfold fp_upf
        by_cases e : j = ((tp.length : Int) + i).toNat
        · rw [if_pos e, if_pos (by omega), show (56 - 8 * i).toNat = 56 - 8 * (j - tp.length) by omega]
        · rw [if_neg e, e2 j]
          by_cases e9 : (tp.length : Int) ≤ j ∧ (j : Int) < tp.length + i
          · rw [if_pos e9, if_pos (by omega)]
          · rw [if_neg e9, if_neg (by omega)]
theorem mm_feed {v : Int} (hc : MS M tp fl g pg vs nt im sh tn) (hv : fp_lng v) : fp_Ok l G 0 kX12_feed [rV G 177, jV v] M (qI fun z N => z = (A_feed tp v).1 ∧ MS N (A_feed tp v).2 fl g pg vs nt im sh tn ∧ frD M N) := by
  have hA := hc.1
  have a1 := hA.1
  have a2 := hA.2.1
  refine fp_Ok.of (r := 1) rfl (Nat.le_of_ble_eq_true rfl) rfl ?_
  unfold A_feed
  by_cases h8 : 480 < tp.length + 8
  · rw [if_pos h8]
    refine S.aload_n (pc' := 1) dX12_feed_0 rfl rfl rfl ?_
    refine S.getI (pc' := 4) dX12_feed_1 rfl fX12_91 L_177 ?_
    refine S.bipush (pc' := 6) dX12_feed_4 rfl (by decide) ?_
    refine S.iadd (pc' := 7) dX12_feed_6 rfl ?_
    refine S.sipush (pc' := 10) dX12_feed_7 rfl (by decide) ?_
    refine S.icmp_le (pc' := 13) (tgt := 16) dX12_feed_10 (by decide) rfl (by unfold fp_rng; omega) (by unfold fp_rng; omega) (fun h10 => ?_) (fun h10 => ?_)
    · exfalso; omega
    · refine S.bipush (pc' := 15) dX12_feed_13 rfl (by decide) ?_
      refine S.iret dX12_feed_15 rfl ?_
      exact ⟨rfl, hc, frD.refl _⟩
  · rw [if_neg h8]
    refine S.aload_n (pc' := 1) dX12_feed_0 rfl rfl rfl ?_
    refine S.getI (pc' := 4) dX12_feed_1 rfl fX12_91 L_177 ?_
    refine S.bipush (pc' := 6) dX12_feed_4 rfl (by decide) ?_
    refine S.iadd (pc' := 7) dX12_feed_6 rfl ?_
    refine S.sipush (pc' := 10) dX12_feed_7 rfl (by decide) ?_
    refine S.icmp_le (pc' := 13) (tgt := 16) dX12_feed_10 (by decide) rfl (by unfold fp_rng; omega) (by unfold fp_rng; omega) (fun h10 => ?_) (fun h10 => ?_)
    · refine S.bipush (pc' := 18) dX12_feed_16 rfl (by decide) ?_
      refine S.istore_n (pc' := 19) (LL' := [_, _, _, _]) dX12_feed_18 rfl (by decide) rfl rfl rfl ?_
      exact mfeed_loop hv hc (by omega) 9 0 _ (by omega) (by omega) (by omega) (fun a ha hb => rfl) (by funext q; unfold fp_upf; split <;> first | (rename_i e; subst e; omega) | rfl) (fun j => by rw [if_neg (by omega)])
    · exfalso; omega
end FEE
