/-! THE REFERENCE READS A TOKEN -/
def mtT (M : fp_Mem) (tp : List Int) : Prop := M 177 19 = (tp.length : Int) ∧ ∀ i : Int, 0 ≤ i → i < (tp.length : Int) → M 186 i.toNat = aBy tp i
def mB (tp : List Int) (i : Int) : Int := if i < (tp.length : Int) then aBy tp i else -4
theorem mB_in {tp : List Int} {i : Int} (ht : tpOk tp) (h0 : 0 ≤ i) : -4 ≤ mB tp i ∧ mB tp i < 256 := by
  unfold mB
  split
  · have := ht.2 i h0 (by assumption)
    omega
  · omega
theorem aEnd_mB {P : Int → Bool} {tp : List Int} {s : Int} (hP : P (-4) = false) : aEnd P tp s = if P (mB tp s) = true then aEnd P tp (s + 1) else s := by
  by_cases h : s < (tp.length : Int)
  · rw [aEnd_step h]
    unfold mB
    rw [if_pos h]
  · rw [aEnd_out (by omega)]
    unfold mB
    rw [if_neg h, hP]
    rfl
theorem mB_lt {P : Int → Bool} {tp : List Int} {s : Int} (hP : P (-4) = false) (h : P (mB tp s) = true) : s < (tp.length : Int) := by
  by_cases e : s < (tp.length : Int)
  · exact e
  · unfold mB at h
    rw [if_neg e, hP] at h
    exact absurd h (by decide)
theorem isLe_if (b : Int) : (if 97 ≤ b ∧ b ≤ 122 then (1 : Int) else 0) = if isLe b = true then 1 else 0 := by
  unfold isLe
  simp only [decide_eq_true_eq]
theorem isFi_if (b : Int) : (if 48 ≤ b ∧ b ≤ 57 then (1 : Int) else 0) = if isFi b = true then 1 else 0 := by
  unfold isFi
  simp only [decide_eq_true_eq]
theorem fp_up4g (M : fp_Mem) (k a b : Nat) (v s v' s' : Int) : fp_up (fp_up (fp_up (fp_up M k a v) k b s) k a v') k b s' = fp_up (fp_up M k a v') k b s' := by
  funext x y
  simp only [fp_up, fp_upM]
  by_cases hx : x = k
  · subst hx
    by_cases hy : y = b
    · simp [hy, fp_upf]
    · by_cases h0 : y = a
      · simp [h0, fp_upf]
      · simp [hy, h0, fp_upf]
  · simp [hx]
def mV (tp : List Int) (h s : Int) : Int := aDec tp h (min (s - h).toNat 2)
theorem mV_less {tp : List Int} {h s : Int} (h0 : h ≤ s) (h1 : s - h < 2) : 10 * mV tp h s + aBy tp s - 48 = mV tp h (s + 1) := by
  unfold mV
  rw [show min (s + 1 - h).toNat 2 = (s - h).toNat + 1 by omega, show min (s - h).toNat 2 = (s - h).toNat by omega]
  show _ = aDec tp h (s - h).toNat * 10 + aBy tp (h + ((s - h).toNat : Nat)) - 48
  rw [show h + (((s - h).toNat : Nat) : Int) = s by omega]
  omega
theorem mV_more {tp : List Int} {h s : Int} (h1 : ¬ s - h < 2) : mV tp h s = mV tp h (s + 1) := by
  unfold mV
  rw [show min (s + 1 - h).toNat 2 = 2 by omega, show min (s - h).toNat 2 = 2 by omega]
section MTK
variable {l : Launch} {G : fp_WG} {M N : fp_Mem} {tp : List Int}
theorem mtT.up (hm : mtT M tp) {j : Nat} {z : Int} (h : j ≠ 19) : mtT (fp_up M 177 j z) tp := by
  refine ⟨?_, fun i i0 i1 => by rw [fp_up_ne (by decide)]; exact hm.2 i i0 i1⟩
  rw [fp_up_at, fp_upf_ne (fun e => h e.symm)]; exact hm.1
theorem mt_byte {i : Int} (ht : tpOk tp) (hm : mtT M tp) (h0 : 0 ≤ i) (h1 : i ≤ (tp.length : Int)) : fp_Ok l G 0 kX12_byteAt [rV G 177, iV i] M (qE (mB tp i) M) := by
  refine fp_Ok.of (r := 0) rfl (Nat.le_of_ble_eq_true rfl) rfl ?_
  have hn := ht.1
  refine S.iload_n (pc' := 1) dX12_byteAt_0 rfl rfl rfl ?_
  refine S.aload_n (pc' := 2) dX12_byteAt_1 rfl rfl rfl ?_
  refine S.getI (pc' := 5) dX12_byteAt_2 rfl fX12_91 L_177 ?_
  rw [hm.1]
  refine S.icmp_ge (pc' := 8) (tgt := 17) dX12_byteAt_5 (by decide) rfl (by unfold fp_rng; omega) (by unfold fp_rng; omega) (fun h5 => ?_) (fun h5 => ?_)
  · refine S.bipush (pc' := 19) dX12_byteAt_17 rfl (by decide) ?_
    refine S.iret dX12_byteAt_19 rfl ?_
    first
    | exact ⟨by unfold mB; rw [if_neg (by omega)], rfl⟩
    | exact ⟨by unfold mB; rw [if_pos (by omega)]; exact hm.2 i h0 (by omega), rfl⟩
  · refine S.aload_n (pc' := 9) dX12_byteAt_8 rfl rfl rfl ?_
    refine S.getR (pc' := 12) dX12_byteAt_9 rfl fX12_38 L_177 rf_177_18 ?_
    refine S.iload_n (pc' := 13) dX12_byteAt_12 rfl rfl rfl ?_
    refine S.iald (pc' := 14) dX12_byteAt_13 rfl L_186 (by omega) (by omega) ?_
    refine S.goto (pc' := 19) dX12_byteAt_14 (by decide) ?_
    refine S.iret dX12_byteAt_19 rfl ?_
    first
    | exact ⟨by unfold mB; rw [if_neg (by omega)], rfl⟩
    | exact ⟨by unfold mB; rw [if_pos (by omega)]; exact hm.2 i h0 (by omega), rfl⟩
theorem mt_fails0 {w : Int} (h21 : M 177 21 = 0) : fp_Ok l G 0 kX12_fails [rV G 177, iV w] M (qW (fp_up (fp_up M 177 21 w) 177 22 (M 177 24))) := by
  refine fp_Ok.of (r := 0) rfl (Nat.le_of_ble_eq_true rfl) rfl ?_
  refine S.aload_n (pc' := 1) dX12_fails_0 rfl rfl rfl ?_
  refine S.getI (pc' := 4) dX12_fails_1 rfl fX12_98 L_177 ?_
  rw [h21]
  refine S.if_ne (pc' := 7) (tgt := 20) dX12_fails_4 (by decide) rfl (by unfold fp_rng; omega) (fun h4 => ?_) (fun h4 => ?_)
  · refine S.vret dX12_fails_20 rfl ?_
    first
    | exact absurd rfl h4
    | rfl
  · refine S.aload_n (pc' := 8) dX12_fails_7 rfl rfl rfl ?_
    refine S.iload_n (pc' := 9) dX12_fails_8 rfl rfl rfl ?_
    refine S.putI (pc' := 12) dX12_fails_9 rfl fX12_98 L_177 ?_
    refine S.aload_n (pc' := 13) dX12_fails_12 rfl rfl rfl ?_
    refine S.aload_n (pc' := 14) dX12_fails_13 rfl rfl rfl ?_
    refine S.getI (pc' := 17) dX12_fails_14 rfl fX12_101 L_177 ?_
    refine S.putI (pc' := 20) dX12_fails_17 rfl fX12_104 L_177 ?_
    refine S.vret dX12_fails_20 rfl ?_
    first
    | exact absurd rfl h4
    | rfl
theorem mt_fails1 {w : Int} (h21 : 1 ≤ M 177 21 ∧ M 177 21 ≤ 6) : fp_Ok l G 0 kX12_fails [rV G 177, iV w] M (qW M) := by
  refine fp_Ok.of (r := 0) rfl (Nat.le_of_ble_eq_true rfl) rfl ?_
  refine S.aload_n (pc' := 1) dX12_fails_0 rfl rfl rfl ?_
  refine S.getI (pc' := 4) dX12_fails_1 rfl fX12_98 L_177 ?_
  refine S.if_ne (pc' := 7) (tgt := 20) dX12_fails_4 (by decide) rfl (by unfold fp_rng; omega) (fun h4 => ?_) (fun h4 => ?_)
  · refine S.vret dX12_fails_20 rfl ?_
    rfl
  · exfalso; omega
theorem mt_sp {Q : fp_Q} {s0 : Int} (o1 : Option Value) (ht : tpOk tp) (hm : mtT M tp) (K : fp_S l G 1 kX12_step 34 [some (rV G 177), o1] [] (fp_up M 177 23 (tkS tp s0)) Q) : ∀ (r : Nat) (s : Int), ((tp.length : Int) - s).toNat = r → 0 ≤ s → s ≤ (tp.length : Int) → aEnd isSp tp s = tkS tp s0 →
    fp_S l G 1 kX12_step 8 [some (rV G 177), o1] [] (fp_up M 177 23 s) Q := by
  have hn := ht.1
  intro r
  induction r with
  | zero =>
    intro s hr s0' s1 he
    have hb : mB tp s = -4 := by unfold mB; rw [if_neg (by omega)]
    have e23 : fp_up M 177 23 s 177 23 = s := rfl
    rw [aEnd_out (by omega)] at he
    refine S.aload_n (pc' := 9) dX12_step_8 rfl rfl rfl ?_
    refine S.aload_n (pc' := 10) dX12_step_9 rfl rfl rfl ?_
    refine S.getI (pc' := 13) dX12_step_10 rfl fX12_110 L_177 ?_
    rw [e23]
    refine S.callVe (pc' := 16) dX12_step_13 rfl cX12_113 (mt_byte ht (hm.up (by decide)) s0' s1) rfl L_177 (by decide) rfl (Nat.le_of_ble_eq_true rfl) ?_
    rw [hb]
    refine S.bipush (pc' := 18) dX12_step_16 rfl (by decide) ?_
    refine S.icmp_ne (pc' := 21) (tgt := 34) dX12_step_18 (by decide) rfl (by unfold fp_rng; omega) (by unfold fp_rng; omega) (fun h18 => ?_) (fun h18 => ?_)
    · rw [he]; exact K
    · exfalso; omega
  | succ r ih =>
    intro s hr s0' s1 he
    have hb := mB_in ht s0'
    have e23 : fp_up M 177 23 s 177 23 = s := rfl
    rw [aEnd_mB (by decide)] at he
    refine S.aload_n (pc' := 9) dX12_step_8 rfl rfl rfl ?_
    refine S.aload_n (pc' := 10) dX12_step_9 rfl rfl rfl ?_
    refine S.getI (pc' := 13) dX12_step_10 rfl fX12_110 L_177 ?_
    rw [e23]
    refine S.callVe (pc' := 16) dX12_step_13 rfl cX12_113 (mt_byte ht (hm.up (by decide)) s0' s1) rfl L_177 (by decide) rfl (Nat.le_of_ble_eq_true rfl) ?_
    refine S.bipush (pc' := 18) dX12_step_16 rfl (by decide) ?_
    refine S.icmp_ne (pc' := 21) (tgt := 34) dX12_step_18 (by decide) rfl (by unfold fp_rng; omega) (by unfold fp_rng; omega) (fun h18 => ?_) (fun h18 => ?_)
    · rw [if_neg (by unfold isSp; simp only [decide_eq_true_eq]; omega)] at he; rw [he]; exact K
    · refine S.aload_n (pc' := 22) dX12_step_21 rfl rfl rfl ?_
      refine S.dup (pc' := 23) dX12_step_22 rfl rfl ?_
      refine S.getI (pc' := 26) dX12_step_23 rfl fX12_110 L_177 ?_
      refine S.iconst (pc' := 27) dX12_step_26 rfl ?_
      refine S.iadd (pc' := 28) dX12_step_27 rfl ?_
      rw [e23]
      refine S.putI (pc' := 31) dX12_step_28 rfl fX12_110 L_177 ?_
      rw [fp_up_up]
      refine S.goto (pc' := 8) dX12_step_31 (by decide) ?_
      refine ih (s + 1) (by omega) (by omega) (by omega) ?_
      rw [if_pos (by unfold isSp; simp only [decide_eq_true_eq]; omega)] at he
      exact he
theorem mt_le {Q : fp_Q} {e0 : Int} (o1 : Option Value) (ht : tpOk tp) (hm : mtT M tp) (K : fp_S l G 1 kX12_step 118 [some (rV G 177), o1] [] (fp_up M 177 23 e0) Q) : ∀ (r : Nat) (s : Int), ((tp.length : Int) - s).toNat < r → 0 ≤ s → s ≤ (tp.length : Int) → aEnd isLe tp s = e0 →
    fp_S l G 1 kX12_step 84 [some (rV G 177), o1] [] (fp_up M 177 23 s) Q := by
  have hn := ht.1
  intro r
  induction r with
  | zero => intro s hr; omega
  | succ r ih =>
    intro s hr s0' s1 he
    have hb := mB_in ht s0'
    have hif := isLe_if (mB tp s)
    have e23 : fp_up M 177 23 s 177 23 = s := rfl
    rw [aEnd_mB (by decide)] at he
    by_cases hP : isLe (mB tp s) = true
    · rw [if_pos hP] at he hif
      have hlt := mB_lt (P := isLe) (by decide) hP
      refine S.aload_n (pc' := 85) dX12_step_84 rfl rfl rfl ?_
      refine S.aload_n (pc' := 86) dX12_step_85 rfl rfl rfl ?_
      refine S.getI (pc' := 89) dX12_step_86 rfl fX12_110 L_177 ?_
      rw [e23]
      refine S.callVe (pc' := 92) dX12_step_89 rfl cX12_113 (mt_byte ht (hm.up (by decide)) s0' s1) rfl L_177 (by decide) rfl (Nat.le_of_ble_eq_true rfl) ?_
      refine S.i2l (pc' := 93) dX12_step_92 rfl (by unfold fp_rng; omega) ?_
      refine S.ldc2 (pc' := 96) (v := 97) dX12_step_93 rfl lX12_120 (by decide) ?_
      refine S.ldc2 (pc' := 99) (v := 122) dX12_step_96 rfl lX12_122 (by decide) ?_
      refine S.callSe (pc' := 102) dX12_step_99 rfl cX12_94 ok_X12_in rfl (by decide) rfl (Nat.le_of_ble_eq_true rfl) ?_
      rw [hif]
      refine S.if_eq (pc' := 105) (tgt := 118) dX12_step_102 (by decide) rfl (by unfold fp_rng; omega) (fun h102 => ?_) (fun h102 => ?_)
      · exfalso; omega
      · refine S.aload_n (pc' := 106) dX12_step_105 rfl rfl rfl ?_
        refine S.dup (pc' := 107) dX12_step_106 rfl rfl ?_
        refine S.getI (pc' := 110) dX12_step_107 rfl fX12_110 L_177 ?_
        refine S.iconst (pc' := 111) dX12_step_110 rfl ?_
        refine S.iadd (pc' := 112) dX12_step_111 rfl ?_
        rw [e23]
        refine S.putI (pc' := 115) dX12_step_112 rfl fX12_110 L_177 ?_
        rw [fp_up_up]
        refine S.goto (pc' := 84) dX12_step_115 (by decide) ?_
        exact ih (s + 1) (by omega) (by omega) (by omega) he
    · rw [if_neg hP] at he hif
      refine S.aload_n (pc' := 85) dX12_step_84 rfl rfl rfl ?_
      refine S.aload_n (pc' := 86) dX12_step_85 rfl rfl rfl ?_
      refine S.getI (pc' := 89) dX12_step_86 rfl fX12_110 L_177 ?_
      rw [e23]
      refine S.callVe (pc' := 92) dX12_step_89 rfl cX12_113 (mt_byte ht (hm.up (by decide)) s0' s1) rfl L_177 (by decide) rfl (Nat.le_of_ble_eq_true rfl) ?_
      refine S.i2l (pc' := 93) dX12_step_92 rfl (by unfold fp_rng; omega) ?_
      refine S.ldc2 (pc' := 96) (v := 97) dX12_step_93 rfl lX12_120 (by decide) ?_
      refine S.ldc2 (pc' := 99) (v := 122) dX12_step_96 rfl lX12_122 (by decide) ?_
      refine S.callSe (pc' := 102) dX12_step_99 rfl cX12_94 ok_X12_in rfl (by decide) rfl (Nat.le_of_ble_eq_true rfl) ?_
      rw [hif]
      refine S.if_eq (pc' := 105) (tgt := 118) dX12_step_102 (by decide) rfl (by unfold fp_rng; omega) (fun h102 => ?_) (fun h102 => ?_)
      · rw [he]; exact K
      · exact absurd rfl h102
theorem mt_fi {Q : fp_Q} {e0 h : Int} (o1 : Option Value) (ht : tpOk tp) (hm : mtT M tp) (h24 : M 177 24 = h) (K : fp_S l G 1 kX12_step 217 [some (rV G 177), o1] [] (fp_up (fp_up M 177 26 (mV tp h e0)) 177 23 e0) Q) : ∀ (r : Nat) (s : Int), ((tp.length : Int) - s).toNat < r → 0 ≤ h → h ≤ s → s ≤ (tp.length : Int) → aEnd isFi tp s = e0 →
    fp_S l G 1 kX12_step 140 [some (rV G 177), o1] [] (fp_up (fp_up M 177 26 (mV tp h s)) 177 23 s) Q := by
  have hn := ht.1
  intro r
  induction r with
  | zero => intro s hr; omega
  | succ r ih =>
    intro s hr hh0 s0' s1 he
    have hb := mB_in (i := s) ht (by omega)
    have hif := isFi_if (mB tp s)
    have e23 : fp_up (fp_up M 177 26 (mV tp h s)) 177 23 s 177 23 = s := rfl
    have e24 : fp_up (fp_up M 177 26 (mV tp h s)) 177 23 s 177 24 = h := h24
    have e26 : fp_up (fp_up M 177 26 (mV tp h s)) 177 23 s 177 26 = mV tp h s := rfl
    have hm' : mtT (fp_up (fp_up M 177 26 (mV tp h s)) 177 23 s) tp := (hm.up (by decide)).up (by decide)
    rw [aEnd_mB (by decide)] at he
    by_cases hP : isFi (mB tp s) = true
    · rw [if_pos hP] at he hif
      have hlt := mB_lt (P := isFi) (by decide) hP
      have hbb : mB tp s = aBy tp s := by unfold mB; rw [if_pos hlt]
      have e23' : ∀ v w : Int, fp_up (fp_up (fp_up M 177 26 v) 177 23 s) 177 26 w 177 23 = s := fun _ _ => rfl
      refine S.aload_n (pc' := 141) dX12_step_140 rfl rfl rfl ?_
      refine S.aload_n (pc' := 142) dX12_step_141 rfl rfl rfl ?_
      refine S.getI (pc' := 145) dX12_step_142 rfl fX12_110 L_177 ?_
      rw [e23]
      refine S.callVe (pc' := 148) dX12_step_145 rfl cX12_113 (mt_byte ht hm' (by omega) s1) rfl L_177 (by decide) rfl (Nat.le_of_ble_eq_true rfl) ?_
      refine S.i2l (pc' := 149) dX12_step_148 rfl (by unfold fp_rng; omega) ?_
      refine S.ldc2 (pc' := 152) (v := 48) dX12_step_149 rfl lX12_124 (by decide) ?_
      refine S.ldc2 (pc' := 155) (v := 57) dX12_step_152 rfl lX12_126 (by decide) ?_
      refine S.callSe (pc' := 158) dX12_step_155 rfl cX12_94 ok_X12_in rfl (by decide) rfl (Nat.le_of_ble_eq_true rfl) ?_
      rw [hif]
      refine S.if_eq (pc' := 161) (tgt := 217) dX12_step_158 (by decide) rfl (by unfold fp_rng; omega) (fun h158 => ?_) (fun h158 => ?_)
      · exfalso; omega
      · refine S.aload_n (pc' := 162) dX12_step_161 rfl rfl rfl ?_
        refine S.aload_n (pc' := 163) dX12_step_162 rfl rfl rfl ?_
        refine S.getI (pc' := 166) dX12_step_163 rfl fX12_110 L_177 ?_
        refine S.aload_n (pc' := 167) dX12_step_166 rfl rfl rfl ?_
        refine S.getI (pc' := 170) dX12_step_167 rfl fX12_101 L_177 ?_
        refine S.isub (pc' := 171) dX12_step_170 rfl ?_
        refine S.iconst (pc' := 172) dX12_step_171 rfl ?_
        rw [e23, e24]
        refine S.icmp_ge (pc' := 175) (tgt := 197) dX12_step_172 (by decide) rfl (by unfold fp_rng; omega) (by unfold fp_rng; omega) (fun h172 => ?_) (fun h172 => ?_)
        · refine S.aload_n (pc' := 198) dX12_step_197 rfl rfl rfl ?_
          refine S.getI (pc' := 201) dX12_step_198 rfl fX12_117 L_177 ?_
          first | rw [e26, hbb, mV_less s0' (by omega)] | rw [e26, mV_more (by omega)]
          refine S.putI (pc' := 204) dX12_step_201 rfl fX12_117 L_177 ?_
          refine S.aload_n (pc' := 205) dX12_step_204 rfl rfl rfl ?_
          refine S.dup (pc' := 206) dX12_step_205 rfl rfl ?_
          refine S.getI (pc' := 209) dX12_step_206 rfl fX12_110 L_177 ?_
          refine S.iconst (pc' := 210) dX12_step_209 rfl ?_
          refine S.iadd (pc' := 211) dX12_step_210 rfl ?_
          rw [e23']
          refine S.putI (pc' := 214) dX12_step_211 rfl fX12_110 L_177 ?_
          rw [fp_up4g]
          refine S.goto (pc' := 140) dX12_step_214 (by decide) ?_
          exact ih (s + 1) (by omega) hh0 (by omega) (by omega) he
        · refine S.bipush (pc' := 177) dX12_step_175 rfl (by decide) ?_
          refine S.aload_n (pc' := 178) dX12_step_177 rfl rfl rfl ?_
          refine S.getI (pc' := 181) dX12_step_178 rfl fX12_117 L_177 ?_
          refine S.imul (pc' := 182) dX12_step_181 rfl ?_
          refine S.aload_n (pc' := 183) dX12_step_182 rfl rfl rfl ?_
          refine S.aload_n (pc' := 184) dX12_step_183 rfl rfl rfl ?_
          refine S.getI (pc' := 187) dX12_step_184 rfl fX12_110 L_177 ?_
          rw [e23]
          refine S.callVe (pc' := 190) dX12_step_187 rfl cX12_113 (mt_byte ht hm' (by omega) s1) rfl L_177 (by decide) rfl (Nat.le_of_ble_eq_true rfl) ?_
          refine S.iadd (pc' := 191) dX12_step_190 rfl ?_
          refine S.bipush (pc' := 193) dX12_step_191 rfl (by decide) ?_
          refine S.isub (pc' := 194) dX12_step_193 rfl ?_
          refine S.goto (pc' := 201) dX12_step_194 (by decide) ?_
          first | rw [e26, hbb, mV_less s0' (by omega)] | rw [e26, mV_more (by omega)]
          refine S.putI (pc' := 204) dX12_step_201 rfl fX12_117 L_177 ?_
          refine S.aload_n (pc' := 205) dX12_step_204 rfl rfl rfl ?_
          refine S.dup (pc' := 206) dX12_step_205 rfl rfl ?_
          refine S.getI (pc' := 209) dX12_step_206 rfl fX12_110 L_177 ?_
          refine S.iconst (pc' := 210) dX12_step_209 rfl ?_
          refine S.iadd (pc' := 211) dX12_step_210 rfl ?_
          rw [e23']
          refine S.putI (pc' := 214) dX12_step_211 rfl fX12_110 L_177 ?_
          rw [fp_up4g]
          refine S.goto (pc' := 140) dX12_step_214 (by decide) ?_
          exact ih (s + 1) (by omega) hh0 (by omega) (by omega) he
    · rw [if_neg hP] at he hif
      subst he
      refine S.aload_n (pc' := 141) dX12_step_140 rfl rfl rfl ?_
      refine S.aload_n (pc' := 142) dX12_step_141 rfl rfl rfl ?_
      refine S.getI (pc' := 145) dX12_step_142 rfl fX12_110 L_177 ?_
      rw [e23]
      refine S.callVe (pc' := 148) dX12_step_145 rfl cX12_113 (mt_byte ht hm' (by omega) s1) rfl L_177 (by decide) rfl (Nat.le_of_ble_eq_true rfl) ?_
      refine S.i2l (pc' := 149) dX12_step_148 rfl (by unfold fp_rng; omega) ?_
      refine S.ldc2 (pc' := 152) (v := 48) dX12_step_149 rfl lX12_124 (by decide) ?_
      refine S.ldc2 (pc' := 155) (v := 57) dX12_step_152 rfl lX12_126 (by decide) ?_
      refine S.callSe (pc' := 158) dX12_step_155 rfl cX12_94 ok_X12_in rfl (by decide) rfl (Nat.le_of_ble_eq_true rfl) ?_
      rw [hif]
      refine S.if_eq (pc' := 161) (tgt := 217) dX12_step_158 (by decide) rfl (by unfold fp_rng; omega) (fun h158 => ?_) (fun h158 => ?_)
      · exact K
      · exact absurd rfl h158
end MTK
