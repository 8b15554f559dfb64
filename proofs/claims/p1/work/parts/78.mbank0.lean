/-! AN EMPTY TEXT TAKEN: the reference -/
section MB0
variable {l : Launch} {G : fp_WG} {M : fp_Mem} {tp : List Int} {fl : Int} {g : aGd} {pg : aPg} {vs : List aVt} {nt : List Int} {im : aIm} {sh : aSh} {tn : Int}
theorem fp_rem10 {i : Int} (h : 0 ≤ i ∧ i < 40) : Int32.ofInt i - Int32.ofInt i / Int32.ofInt 10 * Int32.ofInt 10 = Int32.ofInt (i % 10) := by
  obtain ⟨n, rfl⟩ := Int.eq_ofNat_of_zero_le h.1
  have q : ∀ n : Nat, n < 40 → Int32.ofInt (n : Int) - Int32.ofInt (n : Int) / Int32.ofInt 10 * Int32.ofInt 10 = Int32.ofInt ((n : Int) % 10) := by decide +kernel
  exact q n (by omega)
theorem fp_rem3 {i : Int} (h : 0 ≤ i ∧ i < 40) : Int32.ofInt i - Int32.ofInt i / Int32.ofInt 3 * Int32.ofInt 3 = Int32.ofInt (i % 3) := by
  obtain ⟨n, rfl⟩ := Int.eq_ofNat_of_zero_le h.1
  have q : ∀ n : Nat, n < 40 → Int32.ofInt (n : Int) - Int32.ofInt (n : Int) / Int32.ofInt 3 * Int32.ofInt 3 = Int32.ofInt ((n : Int) % 3) := by decide +kernel
  exact q n (by omega)
theorem mb0_c (h5 : M 177 5 = 0) (o2 o3 : Option Value) : ∀ (N : fp_Mem), N 177 = M 177 →
    fp_S l G 0 kX12_takes 112 [some (rV G 177), some (iV 0), o2, o3] [] N (qV fun _ => True) := by
  intro N hN
  have e5 : N 177 5 = 0 := by rw [hN]; exact h5
  refine S.iload_n (pc' := 113) dX12_takes_112 rfl rfl rfl ?_
  refine S.aload_n (pc' := 114) dX12_takes_113 rfl rfl rfl ?_
  refine S.getI (pc' := 117) dX12_takes_114 rfl fX12_184 L_177 ?_
  refine S.icmp_ge (pc' := 120) (tgt := 190) dX12_takes_117 (by decide) rfl (by unfold fp_rng; omega) (by rw [e5]; exact fp_rng0) (fun h117 => ?_) (fun h117 => ?_)
  · refine S.aload_n (pc' := 191) dX12_takes_190 rfl rfl rfl ?_
    refine S.getR (pc' := 194) dX12_takes_191 rfl fX12_78 L_177 rf_177_40 ?_
    refine S.iconst (pc' := 195) dX12_takes_194 rfl ?_
    refine S.iconst (pc' := 196) dX12_takes_195 rfl ?_
    refine S.zast (pc' := 197) dX12_takes_196 rfl L_199 (by omega) (by omega) (by first | exact Or.inl rfl | exact Or.inr rfl | omega) ?_
    refine S.aload_n (pc' := 198) dX12_takes_197 rfl rfl rfl ?_
    refine S.getR (pc' := 201) dX12_takes_198 rfl fX12_78 L_177 rf_177_40 ?_
    refine S.iconst (pc' := 202) dX12_takes_201 rfl ?_
    refine S.iconst (pc' := 203) dX12_takes_202 rfl ?_
    refine S.zast (pc' := 204) dX12_takes_203 rfl L_199 (by omega) (by omega) (by first | exact Or.inl rfl | exact Or.inr rfl | omega) ?_
    refine S.vret dX12_takes_204 rfl ?_
    trivial
  · exfalso; omega
theorem mb0_b (h12 : M 177 12 = 0) (o2 o3 : Option Value) : ∀ (n : Nat) (i : Int) (N : fp_Mem), (40 - i).toNat < n → 0 ≤ i → i ≤ 40 → N 177 = M 177 →
    fp_S l G 0 kX12_takes 28 [some (rV G 177), some (iV i), o2, o3] [] N (qV fun _ => True) := by
  intro n
  induction n with
  | zero => intro i N hn; omega
  | succ n ih =>
    intro i N hn h0 h1 hN
    by_cases hi : i < 40
    · have m10 : 0 ≤ i % 10 ∧ i % 10 < 10 := by omega
      have m3 : 0 ≤ i % 3 ∧ i % 3 < 3 := by omega
      refine S.iload_n (pc' := 29) dX12_takes_28 rfl rfl rfl ?_
      refine S.bipush (pc' := 31) dX12_takes_29 rfl (by decide) ?_
      refine S.icmp_ge (pc' := 34) (tgt := 86) dX12_takes_31 (by decide) rfl (by unfold fp_rng; omega) (by unfold fp_rng; omega) (fun h31 => ?_) (fun h31 => ?_)
      · exfalso; omega
      · refine S.aload_n (pc' := 35) dX12_takes_34 rfl rfl rfl ?_
        refine S.getR (pc' := 38) dX12_takes_35 rfl fX12_16 L_177 rf_177_2 ?_
        refine S.iload_n (pc' := 39) dX12_takes_38 rfl rfl rfl ?_
        refine S.aload_n (pc' := 40) dX12_takes_39 rfl rfl rfl ?_
        refine S.getR (pc' := 43) dX12_takes_40 rfl fX12_32 L_177 rf_177_9 ?_
        refine S.iload_n (pc' := 44) dX12_takes_43 rfl rfl rfl ?_
        refine S.iald (pc' := 45) dX12_takes_44 rfl L_184 (by omega) (by omega) ?_
        refine S.iast (pc' := 46) dX12_takes_45 rfl L_180 (by omega) (by omega) ?_
        refine S.aload_n (pc' := 47) dX12_takes_46 rfl rfl rfl ?_
        refine S.getR (pc' := 50) dX12_takes_47 rfl fX12_13 L_177 rf_177_1 ?_
        refine S.iload_n (pc' := 51) dX12_takes_50 rfl rfl rfl ?_
        refine S.bipush (pc' := 53) dX12_takes_51 rfl (by decide) ?_
        refine S.irem (pc' := 54) dX12_takes_53 rfl (by decide) (fp_rem10 (by omega)) ?_
        refine S.aload_n (pc' := 55) dX12_takes_54 rfl rfl rfl ?_
        refine S.getR (pc' := 58) dX12_takes_55 rfl fX12_29 L_177 rf_177_8 ?_
        refine S.iload_n (pc' := 59) dX12_takes_58 rfl rfl rfl ?_
        refine S.bipush (pc' := 61) dX12_takes_59 rfl (by decide) ?_
        refine S.irem (pc' := 62) dX12_takes_61 rfl (by decide) (fp_rem10 (by omega)) ?_
        refine S.iald (pc' := 63) dX12_takes_62 rfl L_183 (by omega) (by omega) ?_
        refine S.iast (pc' := 64) dX12_takes_63 rfl L_179 (by omega) (by omega) ?_
        refine S.aload_n (pc' := 65) dX12_takes_64 rfl rfl rfl ?_
        refine S.getR (pc' := 68) dX12_takes_65 rfl fX12_19 L_177 rf_177_3 ?_
        refine S.iload_n (pc' := 69) dX12_takes_68 rfl rfl rfl ?_
        refine S.iconst (pc' := 70) dX12_takes_69 rfl ?_
        refine S.irem (pc' := 71) dX12_takes_70 rfl (by decide) (fp_rem3 (by omega)) ?_
        refine S.aload_n (pc' := 72) dX12_takes_71 rfl rfl rfl ?_
        refine S.getR (pc' := 75) dX12_takes_72 rfl fX12_35 L_177 rf_177_10 ?_
        refine S.iload_n (pc' := 76) dX12_takes_75 rfl rfl rfl ?_
        refine S.iconst (pc' := 77) dX12_takes_76 rfl ?_
        refine S.irem (pc' := 78) dX12_takes_77 rfl (by decide) (fp_rem3 (by omega)) ?_
        refine S.iald (pc' := 79) dX12_takes_78 rfl L_185 (by omega) (by omega) ?_
        refine S.iast (pc' := 80) dX12_takes_79 rfl L_181 (by omega) (by omega) ?_
        refine S.iinc (pc' := 83) (LL' := [_, _, _, _]) dX12_takes_80 rfl (by decide) rfl rfl rfl ?_
        refine S.goto (pc' := 28) dX12_takes_83 (by decide) ?_
        refine ih (i + 1) _ (by omega) (by omega) (by omega) ?_
        rw [fp_up_ne (by decide), fp_up_ne (by decide), fp_up_ne (by decide)]; exact hN
    · refine S.iload_n (pc' := 29) dX12_takes_28 rfl rfl rfl ?_
      refine S.bipush (pc' := 31) dX12_takes_29 rfl (by decide) ?_
      refine S.icmp_ge (pc' := 34) (tgt := 86) dX12_takes_31 (by decide) rfl (by unfold fp_rng; omega) (by unfold fp_rng; omega) (fun h31 => ?_) (fun h31 => ?_)
      · refine S.aload_n (pc' := 87) dX12_takes_86 rfl rfl rfl ?_
        refine S.aload_n (pc' := 88) dX12_takes_87 rfl rfl rfl ?_
        refine S.getI (pc' := 91) dX12_takes_88 rfl fX12_139 L_177 ?_
        refine S.putI (pc' := 94) dX12_takes_91 rfl fX12_181 L_177 ?_
        refine S.aload_n (pc' := 95) dX12_takes_94 rfl rfl rfl ?_
        refine S.aload_n (pc' := 96) dX12_takes_95 rfl rfl rfl ?_
        refine S.getI (pc' := 99) dX12_takes_96 rfl fX12_146 L_177 ?_
        refine S.putI (pc' := 102) dX12_takes_99 rfl fX12_184 L_177 ?_
        refine S.aload_n (pc' := 103) dX12_takes_102 rfl rfl rfl ?_
        refine S.aload_n (pc' := 104) dX12_takes_103 rfl rfl rfl ?_
        refine S.getI (pc' := 107) dX12_takes_104 rfl fX12_174 L_177 ?_
        refine S.putI (pc' := 110) dX12_takes_107 rfl fX12_22 L_177 ?_
        refine S.iconst (pc' := 111) dX12_takes_110 rfl ?_
        refine S.istore_n (pc' := 112) (LL' := [_, _, _, _]) dX12_takes_111 rfl (by decide) rfl rfl rfl ?_
        exact mb0_c (M := fp_up (fp_up (fp_up N 177 4 (N 177 11)) 177 5 (N 177 12)) 177 6 (N 177 13)) (show N 177 12 = 0 by rw [hN]; exact h12) _ _ _ rfl
      · exfalso; omega
theorem mb0_a (h12 : M 177 12 = 0) (o2 o3 : Option Value) : ∀ (n : Nat) (i : Int) (N : fp_Mem), (120 - i).toNat < n → 0 ≤ i → i ≤ 120 → N 177 = M 177 →
    fp_S l G 0 kX12_takes 2 [some (rV G 177), some (iV i), o2, o3] [] N (qV fun _ => True) := by
  intro n
  induction n with
  | zero => intro i N hn; omega
  | succ n ih =>
    intro i N hn h0 h1 hN
    by_cases hi : i < 120
    · refine S.iload_n (pc' := 3) dX12_takes_2 rfl rfl rfl ?_
      refine S.bipush (pc' := 5) dX12_takes_3 rfl (by decide) ?_
      refine S.icmp_ge (pc' := 8) (tgt := 26) dX12_takes_5 (by decide) rfl (by unfold fp_rng; omega) (by unfold fp_rng; omega) (fun h5 => ?_) (fun h5 => ?_)
      · exfalso; omega
      · refine S.aload_n (pc' := 9) dX12_takes_8 rfl rfl rfl ?_
        refine S.getR (pc' := 12) dX12_takes_9 rfl fX12_7 L_177 rf_177_0 ?_
        refine S.iload_n (pc' := 13) dX12_takes_12 rfl rfl rfl ?_
        refine S.aload_n (pc' := 14) dX12_takes_13 rfl rfl rfl ?_
        refine S.getR (pc' := 17) dX12_takes_14 rfl fX12_26 L_177 rf_177_7 ?_
        refine S.iload_n (pc' := 18) dX12_takes_17 rfl rfl rfl ?_
        refine S.iald (pc' := 19) dX12_takes_18 rfl L_182 (by omega) (by omega) ?_
        refine S.iast (pc' := 20) dX12_takes_19 rfl L_178 (by omega) (by omega) ?_
        refine S.iinc (pc' := 23) (LL' := [_, _, _, _]) dX12_takes_20 rfl (by decide) rfl rfl rfl ?_
        refine S.goto (pc' := 2) dX12_takes_23 (by decide) ?_
        refine ih (i + 1) _ (by omega) (by omega) (by omega) ?_
        rw [fp_up_ne (by decide)]; exact hN
    · refine S.iload_n (pc' := 3) dX12_takes_2 rfl rfl rfl ?_
      refine S.bipush (pc' := 5) dX12_takes_3 rfl (by decide) ?_
      refine S.icmp_ge (pc' := 8) (tgt := 26) dX12_takes_5 (by decide) rfl (by unfold fp_rng; omega) (by unfold fp_rng; omega) (fun h5 => ?_) (fun h5 => ?_)
      · refine S.iconst (pc' := 27) dX12_takes_26 rfl ?_
        refine S.istore_n (pc' := 28) (LL' := [_, _, _, _]) dX12_takes_27 rfl (by decide) rfl rfl rfl ?_
        exact mb0_b h12 _ _ 41 0 _ (by omega) (by omega) (by omega) hN
      · exfalso; omega
theorem mb0_takes (h12 : M 177 12 = 0) : fp_Ok l G 0 kX12_takes [rV G 177] M (qV fun _ => True) := by
  refine fp_Ok.of (r := 3) rfl (Nat.le_of_ble_eq_true rfl) rfl ?_
  refine S.iconst (pc' := 1) dX12_takes_0 rfl ?_
  refine S.istore_n (pc' := 2) (LL' := [_, _, _, _]) dX12_takes_1 rfl (by decide) rfl rfl rfl ?_
  exact mb0_a h12 _ _ 121 0 _ (by omega) (by omega) (by omega) rfl
theorem mb0_byte {i : Int} (hi : i = 0) (h19 : M 177 19 = 0) : fp_Ok l G 0 kX12_byteAt [rV G 177, iV i] M (qE (-4) M) := by
  refine fp_Ok.of (r := 0) rfl (Nat.le_of_ble_eq_true rfl) rfl ?_
  refine S.iload_n (pc' := 1) dX12_byteAt_0 rfl rfl rfl ?_
  refine S.aload_n (pc' := 2) dX12_byteAt_1 rfl rfl rfl ?_
  refine S.getI (pc' := 5) dX12_byteAt_2 rfl fX12_91 L_177 ?_
  refine S.icmp_ge (pc' := 8) (tgt := 17) dX12_byteAt_5 (by decide) rfl (by unfold fp_rng; omega) (by rw [h19]; exact fp_rng0) (fun h5 => ?_) (fun h5 => ?_)
  · refine S.bipush (pc' := 19) dX12_byteAt_17 rfl (by decide) ?_
    refine S.iret dX12_byteAt_19 rfl ?_
    exact ⟨rfl, rfl⟩
  · exfalso; omega
theorem mb0_step (h21 : M 177 21 = 0) (h23 : M 177 23 = 0) (h19 : M 177 19 = 0) : fp_Ok l G 1 kX12_step [rV G 177] M (qW (fp_up (fp_up (fp_up M 177 24 (M 177 23)) 177 26 0) 177 25 0)) := by
  refine fp_Ok.of (r := 1) rfl (Nat.le_of_ble_eq_true rfl) rfl ?_
  refine S.aload_n (pc' := 1) dX12_step_0 rfl rfl rfl ?_
  refine S.getI (pc' := 4) dX12_step_1 rfl fX12_98 L_177 ?_
  refine S.if_le (pc' := 7) (tgt := 8) dX12_step_4 (by decide) rfl (by rw [h21]; exact fp_rng0) (fun h4 => ?_) (fun h4 => ?_)
  · refine S.aload_n (pc' := 9) dX12_step_8 rfl rfl rfl ?_
    refine S.aload_n (pc' := 10) dX12_step_9 rfl rfl rfl ?_
    refine S.getI (pc' := 13) dX12_step_10 rfl fX12_110 L_177 ?_
    refine S.callVe (pc' := 16) dX12_step_13 rfl cX12_113 (mb0_byte h23 h19) rfl L_177 (by decide) rfl (Nat.le_of_ble_eq_true rfl) ?_
    refine S.bipush (pc' := 18) dX12_step_16 rfl (by decide) ?_
    refine S.icmp_ne (pc' := 21) (tgt := 34) dX12_step_18 (by decide) rfl (by unfold fp_rng; omega) (by unfold fp_rng; omega) (fun h18 => ?_) (fun h18 => ?_)
    · refine S.aload_n (pc' := 35) dX12_step_34 rfl rfl rfl ?_
      refine S.aload_n (pc' := 36) dX12_step_35 rfl rfl rfl ?_
      refine S.getI (pc' := 39) dX12_step_36 rfl fX12_110 L_177 ?_
      refine S.putI (pc' := 42) dX12_step_39 rfl fX12_101 L_177 ?_
      refine S.aload_n (pc' := 43) dX12_step_42 rfl rfl rfl ?_
      refine S.aload_n (pc' := 44) dX12_step_43 rfl rfl rfl ?_
      refine S.getI (pc' := 47) dX12_step_44 rfl fX12_110 L_177 ?_
      refine S.callVe (pc' := 50) dX12_step_47 rfl cX12_113 (mb0_byte (show M 177 23 = 0 from h23) (show M 177 19 = 0 from h19)) rfl L_177 (by decide) rfl (Nat.le_of_ble_eq_true rfl) ?_
      refine S.istore_n (pc' := 51) (LL' := [_, _]) dX12_step_50 rfl (by decide) rfl rfl rfl ?_
      refine S.aload_n (pc' := 52) dX12_step_51 rfl rfl rfl ?_
      refine S.iconst (pc' := 53) dX12_step_52 rfl ?_
      refine S.putI (pc' := 56) dX12_step_53 rfl fX12_117 L_177 ?_
      refine S.iload_n (pc' := 57) dX12_step_56 rfl rfl rfl ?_
      refine S.bipush (pc' := 59) dX12_step_57 rfl (by decide) ?_
      refine S.icmp_ne (pc' := 62) (tgt := 70) dX12_step_59 (by decide) rfl (by unfold fp_rng; omega) (by unfold fp_rng; omega) (fun h59 => ?_) (fun h59 => ?_)
      · exfalso; omega
      · refine S.aload_n (pc' := 63) dX12_step_62 rfl rfl rfl ?_
        refine S.iconst (pc' := 64) dX12_step_63 rfl ?_
        refine S.putI (pc' := 67) dX12_step_64 rfl fX12_107 L_177 ?_
        refine S.goto (pc' := 269) dX12_step_67 (by decide) ?_
        refine S.vret dX12_step_269 rfl ?_
        rfl
    · exfalso; omega
  · exfalso; omega
/-- the fields that are set ahead of the reading -/
def mb0_F (M N : fp_Mem) : Prop := N 177 21 = 0 ∧ N 177 23 = 0 ∧ N 177 11 = 0 ∧ N 177 12 = 0 ∧ N 177 15 = -1 ∧ N 177 16 = -1 ∧ N 177 19 = M 177 19
theorem mb0_page {Q : fp_Q} (K : ∀ N : fp_Mem, N 177 = M 177 → fp_S l G 2 kX12_bank 69 [some (rV G 177), some (iV 0), some (iV 120)] [] N Q) : ∀ (n : Nat) (i : Int) (N : fp_Mem), (120 - i).toNat < n → 0 ≤ i → i ≤ 120 → N 177 = M 177 →
    fp_S l G 2 kX12_bank 50 [some (rV G 177), some (iV 0), some (iV i)] [] N Q := by
  intro n
  induction n with
  | zero => intro i N hn; omega
  | succ n ih =>
    intro i N hn h0 h1 hN
    by_cases hi : i < 120
    · refine S.iload_n (pc' := 51) dX12_bank_50 rfl rfl rfl ?_
      refine S.bipush (pc' := 53) dX12_bank_51 rfl (by decide) ?_
      refine S.icmp_ge (pc' := 56) (tgt := 69) dX12_bank_53 (by decide) rfl (by unfold fp_rng; omega) (by unfold fp_rng; omega) (fun h53 => ?_) (fun h53 => ?_)
      · exfalso; omega
      · refine S.aload_n (pc' := 57) dX12_bank_56 rfl rfl rfl ?_
        refine S.getR (pc' := 60) dX12_bank_57 rfl fX12_26 L_177 rf_177_7 ?_
        refine S.iload_n (pc' := 61) dX12_bank_60 rfl rfl rfl ?_
        refine S.iconst (pc' := 62) dX12_bank_61 rfl ?_
        refine S.iast (pc' := 63) dX12_bank_62 rfl L_182 (by omega) (by omega) ?_
        refine S.iinc (pc' := 66) (LL' := [_, _, _]) dX12_bank_63 rfl (by decide) rfl rfl rfl ?_
        refine S.goto (pc' := 50) dX12_bank_66 (by decide) ?_
        refine ih (i + 1) _ (by omega) (by omega) (by omega) ?_
        rw [fp_up_ne (by decide)]; exact hN
    · have : i = 120 := by omega
      subst this
      refine S.iload_n (pc' := 51) dX12_bank_50 rfl rfl rfl ?_
      refine S.bipush (pc' := 53) dX12_bank_51 rfl (by decide) ?_
      refine S.icmp_ge (pc' := 56) (tgt := 69) dX12_bank_53 (by decide) rfl (by unfold fp_rng; omega) (by unfold fp_rng; omega) (fun h53 => ?_) (fun h53 => ?_)
      · exact K _ hN
      · exfalso; omega
theorem mb0_rest {N : fp_Mem} (e21 : N 177 21 = 0) (e23 : N 177 23 = 0) (e11 : N 177 11 = 0) (e12 : N 177 12 = 0) (e15 : N 177 15 = -1) (e16 : N 177 16 = -1) (e19 : N 177 19 = 0) : fp_S l G 2 kX12_bank 69 [some (rV G 177), some (iV 0), some (iV 120)] [] N (qI fun z _ => z = 0) := by
  refine S.aload_n (pc' := 70) dX12_bank_69 rfl rfl rfl ?_
  refine S.callVw (pc' := 73) dX12_bank_70 rfl cX12_136 (mb0_step e21 e23 e19) rfl L_177 (by decide) rfl (Nat.le_of_ble_eq_true rfl) ?_
  refine S.aload_n (pc' := 74) dX12_bank_73 rfl rfl rfl ?_
  refine S.getI (pc' := 77) dX12_bank_74 rfl fX12_98 L_177 ?_
  refine S.if_ne (pc' := 80) (tgt := 97) dX12_bank_77 (by decide) rfl (show fp_rng (N 177 21) by rw [e21]; exact fp_rng0) (fun h77 => ?_) (fun h77 => ?_)
  · refine S.aload_n (pc' := 98) dX12_bank_97 rfl rfl rfl ?_
    refine S.getI (pc' := 101) dX12_bank_98 rfl fX12_98 L_177 ?_
    refine S.if_ne (pc' := 104) (tgt := 132) dX12_bank_101 (by decide) rfl (show fp_rng (N 177 21) by rw [e21]; exact fp_rng0) (fun h101 => ?_) (fun h101 => ?_)
    · refine S.aload_n (pc' := 133) dX12_bank_132 rfl rfl rfl ?_
      refine S.iconst (pc' := 134) dX12_bank_133 rfl ?_
      refine S.putI (pc' := 137) dX12_bank_134 rfl fX12_91 L_177 ?_
      refine S.aload_n (pc' := 138) dX12_bank_137 rfl rfl rfl ?_
      refine S.aload_n (pc' := 139) dX12_bank_138 rfl rfl rfl ?_
      refine S.getI (pc' := 142) dX12_bank_139 rfl fX12_98 L_177 ?_
      refine S.putI (pc' := 145) dX12_bank_142 rfl fX12_190 L_177 ?_
      refine S.aload_n (pc' := 146) dX12_bank_145 rfl rfl rfl ?_
      refine S.getI (pc' := 149) dX12_bank_146 rfl fX12_98 L_177 ?_
      refine S.if_le (pc' := 152) (tgt := 160) dX12_bank_149 (by decide) rfl (show fp_rng (N 177 21) by rw [e21]; exact fp_rng0) (fun h149 => ?_) (fun h149 => ?_)
      · refine S.aload_n (pc' := 161) dX12_bank_160 rfl rfl rfl ?_
        refine S.callVv (pc' := 164) dX12_bank_161 rfl cX12_193 (mb0_takes (show N 177 12 = 0 from e12)) rfl L_177 (by decide) rfl (Nat.le_of_ble_eq_true rfl) (fun M161 q161 => ?_)
        refine S.iload_n (pc' := 165) dX12_bank_164 rfl rfl rfl ?_
        refine S.iret dX12_bank_165 rfl ?_
        rfl
      · exfalso; have h9 : ¬ N 177 21 ≤ 0 := h149; omega
    · refine S.aload_n (pc' := 105) dX12_bank_104 rfl rfl rfl ?_
      refine S.getI (pc' := 108) dX12_bank_105 rfl fX12_156 L_177 ?_
      refine S.aload_n (pc' := 109) dX12_bank_108 rfl rfl rfl ?_
      refine S.getI (pc' := 112) dX12_bank_109 rfl fX12_139 L_177 ?_
      refine S.icmp_ge (pc' := 115) (tgt := 126) dX12_bank_112 (by decide) rfl (show fp_rng (N 177 15) by rw [e15]; unfold fp_rng; omega) (show fp_rng (N 177 11) by rw [e11]; exact fp_rng0) (fun h112 => ?_) (fun h112 => ?_)
      · exfalso; first | (have h9 : N 177 11 ≤ N 177 15 := h112; omega) | (have h9 : ¬ N 177 16 < N 177 12 := h123; omega)
      · refine S.aload_n (pc' := 116) dX12_bank_115 rfl rfl rfl ?_
        refine S.getI (pc' := 119) dX12_bank_116 rfl fX12_159 L_177 ?_
        refine S.aload_n (pc' := 120) dX12_bank_119 rfl rfl rfl ?_
        refine S.getI (pc' := 123) dX12_bank_120 rfl fX12_146 L_177 ?_
        refine S.icmp_lt (pc' := 126) (tgt := 132) dX12_bank_123 (by decide) rfl (show fp_rng (N 177 16) by rw [e16]; unfold fp_rng; omega) (show fp_rng (N 177 12) by rw [e12]; exact fp_rng0) (fun h123 => ?_) (fun h123 => ?_)
        · refine S.aload_n (pc' := 133) dX12_bank_132 rfl rfl rfl ?_
          refine S.iconst (pc' := 134) dX12_bank_133 rfl ?_
          refine S.putI (pc' := 137) dX12_bank_134 rfl fX12_91 L_177 ?_
          refine S.aload_n (pc' := 138) dX12_bank_137 rfl rfl rfl ?_
          refine S.aload_n (pc' := 139) dX12_bank_138 rfl rfl rfl ?_
          refine S.getI (pc' := 142) dX12_bank_139 rfl fX12_98 L_177 ?_
          refine S.putI (pc' := 145) dX12_bank_142 rfl fX12_190 L_177 ?_
          refine S.aload_n (pc' := 146) dX12_bank_145 rfl rfl rfl ?_
          refine S.getI (pc' := 149) dX12_bank_146 rfl fX12_98 L_177 ?_
          refine S.if_le (pc' := 152) (tgt := 160) dX12_bank_149 (by decide) rfl (show fp_rng (N 177 21) by rw [e21]; exact fp_rng0) (fun h149 => ?_) (fun h149 => ?_)
          · refine S.aload_n (pc' := 161) dX12_bank_160 rfl rfl rfl ?_
            refine S.callVv (pc' := 164) dX12_bank_161 rfl cX12_193 (mb0_takes (show N 177 12 = 0 from e12)) rfl L_177 (by decide) rfl (Nat.le_of_ble_eq_true rfl) (fun M161 q161 => ?_)
            refine S.iload_n (pc' := 165) dX12_bank_164 rfl rfl rfl ?_
            refine S.iret dX12_bank_165 rfl ?_
            rfl
          · exfalso; have h9 : ¬ N 177 21 ≤ 0 := h149; omega
        · exfalso; first | (have h9 : N 177 11 ≤ N 177 15 := h112; omega) | (have h9 : ¬ N 177 16 < N 177 12 := h123; omega)
  · refine S.aload_n (pc' := 81) dX12_bank_80 rfl rfl rfl ?_
    refine S.getI (pc' := 84) dX12_bank_81 rfl fX12_107 L_177 ?_
    refine S.if_eq (pc' := 87) (tgt := 97) dX12_bank_84 (by decide) rfl fp_rng0 (fun h84 => ?_) (fun h84 => ?_)
    · refine S.aload_n (pc' := 98) dX12_bank_97 rfl rfl rfl ?_
      refine S.getI (pc' := 101) dX12_bank_98 rfl fX12_98 L_177 ?_
      refine S.if_ne (pc' := 104) (tgt := 132) dX12_bank_101 (by decide) rfl (show fp_rng (N 177 21) by rw [e21]; exact fp_rng0) (fun h101 => ?_) (fun h101 => ?_)
      · refine S.aload_n (pc' := 133) dX12_bank_132 rfl rfl rfl ?_
        refine S.iconst (pc' := 134) dX12_bank_133 rfl ?_
        refine S.putI (pc' := 137) dX12_bank_134 rfl fX12_91 L_177 ?_
        refine S.aload_n (pc' := 138) dX12_bank_137 rfl rfl rfl ?_
        refine S.aload_n (pc' := 139) dX12_bank_138 rfl rfl rfl ?_
        refine S.getI (pc' := 142) dX12_bank_139 rfl fX12_98 L_177 ?_
        refine S.putI (pc' := 145) dX12_bank_142 rfl fX12_190 L_177 ?_
        refine S.aload_n (pc' := 146) dX12_bank_145 rfl rfl rfl ?_
        refine S.getI (pc' := 149) dX12_bank_146 rfl fX12_98 L_177 ?_
        refine S.if_le (pc' := 152) (tgt := 160) dX12_bank_149 (by decide) rfl (show fp_rng (N 177 21) by rw [e21]; exact fp_rng0) (fun h149 => ?_) (fun h149 => ?_)
        · refine S.aload_n (pc' := 161) dX12_bank_160 rfl rfl rfl ?_
          refine S.callVv (pc' := 164) dX12_bank_161 rfl cX12_193 (mb0_takes (show N 177 12 = 0 from e12)) rfl L_177 (by decide) rfl (Nat.le_of_ble_eq_true rfl) (fun M161 q161 => ?_)
          refine S.iload_n (pc' := 165) dX12_bank_164 rfl rfl rfl ?_
          refine S.iret dX12_bank_165 rfl ?_
          rfl
        · exfalso; have h9 : ¬ N 177 21 ≤ 0 := h149; omega
      · refine S.aload_n (pc' := 105) dX12_bank_104 rfl rfl rfl ?_
        refine S.getI (pc' := 108) dX12_bank_105 rfl fX12_156 L_177 ?_
        refine S.aload_n (pc' := 109) dX12_bank_108 rfl rfl rfl ?_
        refine S.getI (pc' := 112) dX12_bank_109 rfl fX12_139 L_177 ?_
        refine S.icmp_ge (pc' := 115) (tgt := 126) dX12_bank_112 (by decide) rfl (show fp_rng (N 177 15) by rw [e15]; unfold fp_rng; omega) (show fp_rng (N 177 11) by rw [e11]; exact fp_rng0) (fun h112 => ?_) (fun h112 => ?_)
        · exfalso; first | (have h9 : N 177 11 ≤ N 177 15 := h112; omega) | (have h9 : ¬ N 177 16 < N 177 12 := h123; omega)
        · refine S.aload_n (pc' := 116) dX12_bank_115 rfl rfl rfl ?_
          refine S.getI (pc' := 119) dX12_bank_116 rfl fX12_159 L_177 ?_
          refine S.aload_n (pc' := 120) dX12_bank_119 rfl rfl rfl ?_
          refine S.getI (pc' := 123) dX12_bank_120 rfl fX12_146 L_177 ?_
          refine S.icmp_lt (pc' := 126) (tgt := 132) dX12_bank_123 (by decide) rfl (show fp_rng (N 177 16) by rw [e16]; unfold fp_rng; omega) (show fp_rng (N 177 12) by rw [e12]; exact fp_rng0) (fun h123 => ?_) (fun h123 => ?_)
          · refine S.aload_n (pc' := 133) dX12_bank_132 rfl rfl rfl ?_
            refine S.iconst (pc' := 134) dX12_bank_133 rfl ?_
            refine S.putI (pc' := 137) dX12_bank_134 rfl fX12_91 L_177 ?_
            refine S.aload_n (pc' := 138) dX12_bank_137 rfl rfl rfl ?_
            refine S.aload_n (pc' := 139) dX12_bank_138 rfl rfl rfl ?_
            refine S.getI (pc' := 142) dX12_bank_139 rfl fX12_98 L_177 ?_
            refine S.putI (pc' := 145) dX12_bank_142 rfl fX12_190 L_177 ?_
            refine S.aload_n (pc' := 146) dX12_bank_145 rfl rfl rfl ?_
            refine S.getI (pc' := 149) dX12_bank_146 rfl fX12_98 L_177 ?_
            refine S.if_le (pc' := 152) (tgt := 160) dX12_bank_149 (by decide) rfl (show fp_rng (N 177 21) by rw [e21]; exact fp_rng0) (fun h149 => ?_) (fun h149 => ?_)
            · refine S.aload_n (pc' := 161) dX12_bank_160 rfl rfl rfl ?_
              refine S.callVv (pc' := 164) dX12_bank_161 rfl cX12_193 (mb0_takes (show N 177 12 = 0 from e12)) rfl L_177 (by decide) rfl (Nat.le_of_ble_eq_true rfl) (fun M161 q161 => ?_)
              refine S.iload_n (pc' := 165) dX12_bank_164 rfl rfl rfl ?_
              refine S.iret dX12_bank_165 rfl ?_
              rfl
            · exfalso; have h9 : ¬ N 177 21 ≤ 0 := h149; omega
          · exfalso; first | (have h9 : N 177 11 ≤ N 177 15 := h112; omega) | (have h9 : ¬ N 177 16 < N 177 12 := h123; omega)
    · exact absurd rfl h84
theorem m0_bank (hc : MS M tp fl g pg vs nt im sh tn) (ht : (tp.length : Int) = 0) : fp_Ok l G 2 kX12_bank [rV G 177] M (qI fun z _ => z = 0) := by
  obtain ⟨hA, -⟩ := hc
  have h19 : M 177 19 = 0 := by rw [hA.1]; exact ht
  refine fp_Ok.of (r := 2) rfl (Nat.le_of_ble_eq_true rfl) rfl ?_
  refine S.aload_n (pc' := 1) dX12_bank_0 rfl rfl rfl ?_
  refine S.iconst (pc' := 2) dX12_bank_1 rfl ?_
  refine S.putI (pc' := 5) dX12_bank_2 rfl fX12_98 L_177 ?_
  refine S.aload_n (pc' := 6) dX12_bank_5 rfl rfl rfl ?_
  refine S.iconst (pc' := 7) dX12_bank_6 rfl ?_
  refine S.putI (pc' := 10) dX12_bank_7 rfl fX12_110 L_177 ?_
  refine S.aload_n (pc' := 11) dX12_bank_10 rfl rfl rfl ?_
  refine S.iconst (pc' := 12) dX12_bank_11 rfl ?_
  refine S.putI (pc' := 15) dX12_bank_12 rfl fX12_139 L_177 ?_
  refine S.aload_n (pc' := 16) dX12_bank_15 rfl rfl rfl ?_
  refine S.iconst (pc' := 17) dX12_bank_16 rfl ?_
  refine S.putI (pc' := 20) dX12_bank_17 rfl fX12_146 L_177 ?_
  refine S.aload_n (pc' := 21) dX12_bank_20 rfl rfl rfl ?_
  refine S.bipush (pc' := 23) dX12_bank_21 rfl (by decide) ?_
  refine S.putI (pc' := 26) dX12_bank_23 rfl fX12_174 L_177 ?_
  refine S.aload_n (pc' := 27) dX12_bank_26 rfl rfl rfl ?_
  refine S.iconst (pc' := 28) dX12_bank_27 rfl ?_
  refine S.putZ (pc' := 31) dX12_bank_28 rfl fX12_170 L_177 (by first | exact Or.inl rfl | exact Or.inr rfl | omega) ?_
  refine S.aload_n (pc' := 32) dX12_bank_31 rfl rfl rfl ?_
  refine S.iconst (pc' := 33) dX12_bank_32 rfl ?_
  refine S.putI (pc' := 36) dX12_bank_33 rfl fX12_156 L_177 ?_
  refine S.aload_n (pc' := 37) dX12_bank_36 rfl rfl rfl ?_
  refine S.iconst (pc' := 38) dX12_bank_37 rfl ?_
  refine S.putI (pc' := 41) dX12_bank_38 rfl fX12_159 L_177 ?_
  refine S.aload_n (pc' := 42) dX12_bank_41 rfl rfl rfl ?_
  refine S.iconst (pc' := 43) dX12_bank_42 rfl ?_
  refine S.putI (pc' := 46) dX12_bank_43 rfl fX12_153 L_177 ?_
  refine S.iconst (pc' := 47) dX12_bank_46 rfl ?_
  refine S.istore_n (pc' := 48) (LL' := [_, _, _]) dX12_bank_47 rfl (by decide) rfl rfl rfl ?_
  refine S.iconst (pc' := 49) dX12_bank_48 rfl ?_
  refine S.istore_n (pc' := 50) (LL' := [_, _, _]) dX12_bank_49 rfl (by decide) rfl rfl rfl ?_
  refine mb0_page (fun N hN => ?_) 121 0 _ (by omega) (by omega) (by omega) rfl
  exact mb0_rest (by rw [hN]; rfl) (by rw [hN]; rfl) (by rw [hN]; rfl) (by rw [hN]; rfl) (by rw [hN]; rfl) (by rw [hN]; rfl) (by rw [hN]; exact h19)
end MB0
