/-! A VISIT TOLD IN A TEXT: the reference -/
def mx (a b : Int) : Int := if b < a then a else b
def vsA (M : fp_Mem) (n v1 v2 v3 v4 : Int) : fp_Mem := fp_up (fp_up (fp_up (fp_up (fp_up (fp_up (fp_up M 182 (47 + 4 * n).toNat v1) 182 (47 + 4 * n + 1).toNat v2) 182 (47 + 4 * n + 2).toNat v3) 177 16 (mx v3 (M 177 16))) 182 (47 + 4 * n + 3).toNat v4) 177 15 (mx v4 (M 177 15))) 182 95 (n + 1)
section MVI
variable {l : Launch} {G : fp_WG} {M N A : fp_Mem} {tp : List Int} {r r' : Int ⊕ Int} {D : pD}
def vsR (tp : List Int) (put lo s : Int) (r4 : Int ⊕ Int) (v1 v2 v3 v4 : Int) : Prop := v1 = nuV tp lo 99 (.inr s) ∧ v2 = nuV tp 0 3 (nuR tp lo 99 (.inr s)) ∧ v3 = nuV tp 0 2 (nuR tp 0 3 (nuR tp lo 99 (.inr s))) ∧ (if put = 0 then v4 = -4 ∧ r4 = nuR tp 0 2 (nuR tp 0 3 (nuR tp lo 99 (.inr s))) else v4 = nuV tp 0 9 (nuR tp 0 2 (nuR tp 0 3 (nuR tp lo 99 (.inr s)))) ∧ r4 = nuR tp 0 9 (nuR tp 0 2 (nuR tp 0 3 (nuR tp lo 99 (.inr s)))))
theorem mt_visit {s n put lo : Int} (ht : tpOk tp) (hm : mtT M tp) (hq : mq tp M (.inr s)) (ho : mtO tp M s) (hn : M 182 95 = n) (hn0 : 0 ≤ n ∧ n < 12) (hp : put = 0 ∨ put = 1) (hlo : lo = if n = 0 then 0 else M 182 (47 + 4 * n - 4).toNat) (hlo9 : 0 ≤ lo ∧ lo ≤ 99) (h15 : -1 ≤ M 177 15 ∧ M 177 15 ≤ 9) (h16 : -1 ≤ M 177 16 ∧ M 177 16 ≤ 2) : fp_Ok l G 3 kX12_readVisit [rV G 177, iV put] M (qV fun N => ∃ r4 v1 v2 v3 v4, vsR tp put lo (nxt tp s) r4 v1 v2 v3 v4 ∧ aT tp (vsA M n v1 v2 v3 v4) N r4) := by
  refine fp_Ok.of (r := 2) rfl (Nat.le_of_ble_eq_true rfl) rfl ?_
  have hx := nxt_le hq.1.2
  have a0 : aT tp M M (.inr s) := ⟨frW.refl _, hq⟩
  have b1 := nuV_in (tp := tp) (lo := lo) (hi := 99) (.inr (nxt tp s)) (by omega)
  have b2 := nuV_in (tp := tp) (lo := 0) (hi := 3) (nuR tp lo 99 (.inr (nxt tp s))) (by omega)
  have b3 := nuV_in (tp := tp) (lo := 0) (hi := 2) (nuR tp 0 3 (nuR tp lo 99 (.inr (nxt tp s)))) (by omega)
  have b4 := nuV_in (tp := tp) (lo := 0) (hi := 9) (nuR tp 0 2 (nuR tp 0 3 (nuR tp lo 99 (.inr (nxt tp s))))) (by omega)
  generalize e1 : nuV tp lo 99 (.inr (nxt tp s)) = v1 at b1
  generalize e2 : nuV tp 0 3 (nuR tp lo 99 (.inr (nxt tp s))) = v2 at b2
  generalize e3 : nuV tp 0 2 (nuR tp 0 3 (nuR tp lo 99 (.inr (nxt tp s)))) = v3 at b3
  generalize e4 : nuV tp 0 9 (nuR tp 0 2 (nuR tp 0 3 (nuR tp lo 99 (.inr (nxt tp s))))) = v4 at b4
  have k2 : ∀ (O : fp_Mem) (z : Nat) (v : Int), mtT O tp → mtT (fp_up O 182 z v) tp := fun O z v h => ⟨h.1, h.2⟩
  have hlast : ∀ (O : fp_Mem) (w : Int) (r4 : Int ⊕ Int) (o1 o2 o3 : Option Value), -4 ≤ w → w ≤ 9 → aT tp (fp_up (fp_up (fp_up (fp_up M 182 (47 + 4 * n).toNat v1) 182 (47 + 4 * n + 1).toNat v2) 182 (47 + 4 * n + 2).toNat v3) 177 16 (mx v3 (M 177 16))) O r4 → fp_S l G 3 kX12_readVisit 144 [some (rV G 177), o1, o2, some (iV (47 + 4 * n))] [iV w, iV (47 + 4 * n + 3), rV G 182] O (qV fun N => aT tp (vsA M n v1 v2 v3 w) N r4) := by
    intro O w r4 o1 o2 o3 w0 w1 ha
    have x95 : fp_up O 182 (47 + 4 * n + 3).toNat w 182 95 = n := by
      rw [fp_up_at, fp_upf_ne (by omega), ha.rd (Or.inl (by decide)), fp_up_ne (by decide), fp_up_at, fp_upf_ne (by omega), fp_up_at, fp_upf_ne (by omega), fp_up_at, fp_upf_ne (by omega)]
      exact hn
    have x3 : fp_up O 182 (47 + 4 * n + 3).toNat w 182 (47 + 4 * n + 3).toNat = w := by rw [fp_up_at]; simp [fp_upf]
    have x15 : fp_up O 182 (47 + 4 * n + 3).toNat w 177 15 = M 177 15 := by
      rw [fp_up_ne (by decide), ha.rd (by omega)]; rfl
    have ha2 : ∀ z, aT tp (fp_up (fp_up (fp_up (fp_up (fp_up (fp_up (fp_up M 182 (47 + 4 * n).toNat v1) 182 (47 + 4 * n + 1).toNat v2) 182 (47 + 4 * n + 2).toNat v3) 177 16 (mx v3 (M 177 16))) 182 (47 + 4 * n + 3).toNat w) 177 15 z) 182 95 (n + 1)) (fp_up (fp_up (fp_up O 182 (47 + 4 * n + 3).toNat w) 177 15 z) 182 95 (n + 1)) r4 := fun z => ((ha.up (by omega)).up (by omega)).up (by omega)
    refine S.iast (pc' := 145) dX12_readVisit_144 rfl L_182 (by omega) (by omega) ?_
    refine S.aload_n (pc' := 146) dX12_readVisit_145 rfl rfl rfl ?_
    refine S.aload_n (pc' := 147) dX12_readVisit_146 rfl rfl rfl ?_
    refine S.getR (pc' := 150) dX12_readVisit_147 rfl fX12_26 L_177 rf_177_7 ?_
    refine S.iload_n (pc' := 151) dX12_readVisit_150 rfl rfl rfl ?_
    refine S.iconst (pc' := 152) dX12_readVisit_151 rfl ?_
    refine S.iadd (pc' := 153) dX12_readVisit_152 rfl ?_
    refine S.iald (pc' := 154) dX12_readVisit_153 rfl L_182 (by omega) (by omega) ?_
    refine S.aload_n (pc' := 155) dX12_readVisit_154 rfl rfl rfl ?_
    refine S.getI (pc' := 158) dX12_readVisit_155 rfl fX12_156 L_177 ?_
    rw [x3, x15]
    refine S.icmp_le (pc' := 161) (tgt := 172) dX12_readVisit_158 (by decide) rfl (by unfold fp_rng; omega) (by unfold fp_rng; omega) (fun h158 => ?_) (fun h158 => ?_)
    · refine S.aload_n (pc' := 173) dX12_readVisit_172 rfl rfl rfl ?_
      refine S.getI (pc' := 176) dX12_readVisit_173 rfl fX12_156 L_177 ?_
      first | rw [x3] | rw [x15]
      refine S.putI (pc' := 179) dX12_readVisit_176 rfl fX12_156 L_177 ?_
      refine S.aload_n (pc' := 180) dX12_readVisit_179 rfl rfl rfl ?_
      refine S.getR (pc' := 183) dX12_readVisit_180 rfl fX12_26 L_177 rf_177_7 ?_
      refine S.bipush (pc' := 185) dX12_readVisit_183 rfl (by decide) ?_
      refine S.dup2 (pc' := 186) dX12_readVisit_185 rfl rfl rfl ?_
      refine S.iald (pc' := 187) dX12_readVisit_186 rfl L_182 (by omega) (by omega) ?_
      rw [show ∀ z, fp_up (fp_up O 182 (47 + 4 * n + 3).toNat w) 177 15 z 182 (95 : Int).toNat = n from fun z => x95]
      refine S.iconst (pc' := 188) dX12_readVisit_187 rfl ?_
      refine S.iadd (pc' := 189) dX12_readVisit_188 rfl ?_
      refine S.iast (pc' := 190) dX12_readVisit_189 rfl L_182 (by omega) (by omega) ?_
      refine S.vret dX12_readVisit_190 rfl ?_
      unfold vsA
      first
      | (rw [show mx w (M 177 15) = w from if_pos (by omega)]; exact ha2 _)
      | (rw [show mx w (M 177 15) = M 177 15 from if_neg (by omega)]; exact ha2 _)
    · refine S.aload_n (pc' := 162) dX12_readVisit_161 rfl rfl rfl ?_
      refine S.getR (pc' := 165) dX12_readVisit_162 rfl fX12_26 L_177 rf_177_7 ?_
      refine S.iload_n (pc' := 166) dX12_readVisit_165 rfl rfl rfl ?_
      refine S.iconst (pc' := 167) dX12_readVisit_166 rfl ?_
      refine S.iadd (pc' := 168) dX12_readVisit_167 rfl ?_
      refine S.iald (pc' := 169) dX12_readVisit_168 rfl L_182 (by omega) (by omega) ?_
      refine S.goto (pc' := 176) dX12_readVisit_169 (by decide) ?_
      first | rw [x3] | rw [x15]
      refine S.putI (pc' := 179) dX12_readVisit_176 rfl fX12_156 L_177 ?_
      refine S.aload_n (pc' := 180) dX12_readVisit_179 rfl rfl rfl ?_
      refine S.getR (pc' := 183) dX12_readVisit_180 rfl fX12_26 L_177 rf_177_7 ?_
      refine S.bipush (pc' := 185) dX12_readVisit_183 rfl (by decide) ?_
      refine S.dup2 (pc' := 186) dX12_readVisit_185 rfl rfl rfl ?_
      refine S.iald (pc' := 187) dX12_readVisit_186 rfl L_182 (by omega) (by omega) ?_
      rw [show ∀ z, fp_up (fp_up O 182 (47 + 4 * n + 3).toNat w) 177 15 z 182 (95 : Int).toNat = n from fun z => x95]
      refine S.iconst (pc' := 188) dX12_readVisit_187 rfl ?_
      refine S.iadd (pc' := 189) dX12_readVisit_188 rfl ?_
      refine S.iast (pc' := 190) dX12_readVisit_189 rfl L_182 (by omega) (by omega) ?_
      refine S.vret dX12_readVisit_190 rfl ?_
      unfold vsA
      first
      | (rw [show mx w (M 177 15) = w from if_pos (by omega)]; exact ha2 _)
      | (rw [show mx w (M 177 15) = M 177 15 from if_neg (by omega)]; exact ha2 _)
  have h121 : ∀ (O : fp_Mem) (o2 : Option Value), aT tp (fp_up (fp_up (fp_up (fp_up M 182 (47 + 4 * n).toNat v1) 182 (47 + 4 * n + 1).toNat v2) 182 (47 + 4 * n + 2).toNat v3) 177 16 (mx v3 (M 177 16))) O (nuR tp 0 2 (nuR tp 0 3 (nuR tp lo 99 (.inr (nxt tp s))))) → fp_S l G 3 kX12_readVisit 121 [some (rV G 177), some (iV put), o2, some (iV (47 + 4 * n))] [] O (qV fun N => ∃ r4 v1 v2 v3 v4, vsR tp put lo (nxt tp s) r4 v1 v2 v3 v4 ∧ aT tp (vsA M n v1 v2 v3 v4) N r4) := by
    intro O o2 ha
    have hmm : mtT (fp_up (fp_up (fp_up (fp_up M 182 (47 + 4 * n).toNat v1) 182 (47 + 4 * n + 1).toNat v2) 182 (47 + 4 * n + 2).toNat v3) 177 16 (mx v3 (M 177 16))) tp := ⟨hm.1, hm.2⟩
    refine S.aload_n (pc' := 122) dX12_readVisit_121 rfl rfl rfl ?_
    refine S.getR (pc' := 125) dX12_readVisit_122 rfl fX12_26 L_177 rf_177_7 ?_
    refine S.iload_n (pc' := 126) dX12_readVisit_125 rfl rfl rfl ?_
    refine S.iconst (pc' := 127) dX12_readVisit_126 rfl ?_
    refine S.iadd (pc' := 128) dX12_readVisit_127 rfl ?_
    refine S.iload_n (pc' := 129) dX12_readVisit_128 rfl rfl rfl ?_
    refine S.if_eq (pc' := 132) (tgt := 142) dX12_readVisit_129 (by decide) rfl (by unfold fp_rng; omega) (fun h129 => ?_) (fun h129 => ?_)
    · refine S.bipush (pc' := 144) dX12_readVisit_142 rfl (by decide) ?_
      first
      | exact fp_S.wV (hlast _ _ _ _ _ none (by omega) (by omega) ha) (fun N q => ⟨_, _, _, _, _, ⟨e1.symm, e2.symm, e3.symm, by rw [if_pos h129]; exact ⟨rfl, rfl⟩⟩, q⟩)
      | exact fp_S.wV (hlast _ _ _ _ _ none (by omega) (by omega) a136) (fun N q => ⟨_, _, _, _, _, ⟨e1.symm, e2.symm, e3.symm, by rw [if_neg h129]; exact ⟨e4.symm, rfl⟩⟩, q⟩)
    · refine S.aload_n (pc' := 133) dX12_readVisit_132 rfl rfl rfl ?_
      refine S.iconst (pc' := 134) dX12_readVisit_133 rfl ?_
      refine S.bipush (pc' := 136) dX12_readVisit_134 rfl (by decide) ?_
      refine S.callVi (pc' := 139) dX12_readVisit_136 rfl cX12_142 (mt_nu ht ha hmm (by unfold fp_rng; omega) (by unfold fp_rng; omega)) rfl L_177 (by decide) rfl (Nat.le_of_ble_eq_true rfl) (fun z136 M136 q136 => ?_)
      obtain ⟨a136, z⟩ := q136
      rw [e4] at z
      rw [z]
      refine S.goto (pc' := 144) dX12_readVisit_139 (by decide) ?_
      first
      | exact fp_S.wV (hlast _ _ _ _ _ none (by omega) (by omega) ha) (fun N q => ⟨_, _, _, _, _, ⟨e1.symm, e2.symm, e3.symm, by rw [if_pos h129]; exact ⟨rfl, rfl⟩⟩, q⟩)
      | exact fp_S.wV (hlast _ _ _ _ _ none (by omega) (by omega) a136) (fun N q => ⟨_, _, _, _, _, ⟨e1.symm, e2.symm, e3.symm, by rw [if_neg h129]; exact ⟨e4.symm, rfl⟩⟩, q⟩)
  have h53 : ∀ (O : fp_Mem) (x : Int) (o2 : Option Value), x = lo → aT tp M O (.inr (nxt tp s)) → fp_S l G 3 kX12_readVisit 53 [some (rV G 177), some (iV put), o2, some (iV (47 + 4 * n))] [iV x, rV G 177, iV (47 + 4 * n), rV G 182] O (qV fun N => ∃ r4 v1 v2 v3 v4, vsR tp put lo (nxt tp s) r4 v1 v2 v3 v4 ∧ aT tp (vsA M n v1 v2 v3 v4) N r4) := by
    intro O x o2 hxl ha
    subst hxl
    refine S.bipush (pc' := 55) dX12_readVisit_53 rfl (by decide) ?_
    refine S.callVi (pc' := 58) dX12_readVisit_55 rfl cX12_142 (mt_nu ht ha hm (by unfold fp_rng; omega) (by unfold fp_rng; omega)) rfl L_177 (by decide) rfl (Nat.le_of_ble_eq_true rfl) (fun z55 M55 q55 => ?_)
    obtain ⟨a55, z⟩ := q55
    rw [e1] at z
    rw [z]
    refine S.iast (pc' := 59) dX12_readVisit_58 rfl L_182 (by omega) (by omega) ?_
    have a58 := a55.up (k := 182) (j := (47 + 4 * n).toNat) (z := v1) (Or.inl (by decide))
    refine S.aload_n (pc' := 60) dX12_readVisit_59 rfl rfl rfl ?_
    refine S.getR (pc' := 63) dX12_readVisit_60 rfl fX12_26 L_177 rf_177_7 ?_
    refine S.iload_n (pc' := 64) dX12_readVisit_63 rfl rfl rfl ?_
    refine S.iconst (pc' := 65) dX12_readVisit_64 rfl ?_
    refine S.iadd (pc' := 66) dX12_readVisit_65 rfl ?_
    refine S.aload_n (pc' := 67) dX12_readVisit_66 rfl rfl rfl ?_
    refine S.iconst (pc' := 68) dX12_readVisit_67 rfl ?_
    refine S.iconst (pc' := 69) dX12_readVisit_68 rfl ?_
    refine S.callVi (pc' := 72) dX12_readVisit_69 rfl cX12_142 (mt_nu ht a58 (k2 _ _ _ hm) (by unfold fp_rng; omega) (by unfold fp_rng; omega)) rfl L_177 (by decide) rfl (Nat.le_of_ble_eq_true rfl) (fun z69 M69 q69 => ?_)
    obtain ⟨a69, z⟩ := q69
    rw [e2] at z
    rw [z]
    refine S.iast (pc' := 73) dX12_readVisit_72 rfl L_182 (by omega) (by omega) ?_
    have a72 := a69.up (k := 182) (j := (47 + 4 * n + 1).toNat) (z := v2) (Or.inl (by decide))
    refine S.aload_n (pc' := 74) dX12_readVisit_73 rfl rfl rfl ?_
    refine S.getR (pc' := 77) dX12_readVisit_74 rfl fX12_26 L_177 rf_177_7 ?_
    refine S.iload_n (pc' := 78) dX12_readVisit_77 rfl rfl rfl ?_
    refine S.iconst (pc' := 79) dX12_readVisit_78 rfl ?_
    refine S.iadd (pc' := 80) dX12_readVisit_79 rfl ?_
    refine S.aload_n (pc' := 81) dX12_readVisit_80 rfl rfl rfl ?_
    refine S.iconst (pc' := 82) dX12_readVisit_81 rfl ?_
    refine S.iconst (pc' := 83) dX12_readVisit_82 rfl ?_
    refine S.callVi (pc' := 86) dX12_readVisit_83 rfl cX12_142 (mt_nu ht a72 (k2 _ _ _ (k2 _ _ _ hm)) (by unfold fp_rng; omega) (by unfold fp_rng; omega)) rfl L_177 (by decide) rfl (Nat.le_of_ble_eq_true rfl) (fun z83 M83 q83 => ?_)
    obtain ⟨a83, z⟩ := q83
    rw [e3] at z
    rw [z]
    refine S.iast (pc' := 87) dX12_readVisit_86 rfl L_182 (by omega) (by omega) ?_
    have a86 := a83.up (k := 182) (j := (47 + 4 * n + 2).toNat) (z := v3) (Or.inl (by decide))
    have x3 : fp_up M83 182 (47 + 4 * n + 2).toNat v3 182 (47 + 4 * n + 2).toNat = v3 := by rw [fp_up_at]; simp [fp_upf]
    have x16 : fp_up M83 182 (47 + 4 * n + 2).toNat v3 177 16 = M 177 16 := by
      rw [a86.rd (by omega)]; rfl
    refine S.aload_n (pc' := 88) dX12_readVisit_87 rfl rfl rfl ?_
    refine S.aload_n (pc' := 89) dX12_readVisit_88 rfl rfl rfl ?_
    refine S.getR (pc' := 92) dX12_readVisit_89 rfl fX12_26 L_177 rf_177_7 ?_
    refine S.iload_n (pc' := 93) dX12_readVisit_92 rfl rfl rfl ?_
    refine S.iconst (pc' := 94) dX12_readVisit_93 rfl ?_
    refine S.iadd (pc' := 95) dX12_readVisit_94 rfl ?_
    refine S.iald (pc' := 96) dX12_readVisit_95 rfl L_182 (by omega) (by omega) ?_
    refine S.aload_n (pc' := 97) dX12_readVisit_96 rfl rfl rfl ?_
    refine S.getI (pc' := 100) dX12_readVisit_97 rfl fX12_159 L_177 ?_
    rw [x3, x16]
    refine S.icmp_le (pc' := 103) (tgt := 114) dX12_readVisit_100 (by decide) rfl (by unfold fp_rng; omega) (by unfold fp_rng; omega) (fun h100 => ?_) (fun h100 => ?_)
    · refine S.aload_n (pc' := 115) dX12_readVisit_114 rfl rfl rfl ?_
      refine S.getI (pc' := 118) dX12_readVisit_115 rfl fX12_159 L_177 ?_
      first | rw [x3] | rw [x16]
      refine S.putI (pc' := 121) dX12_readVisit_118 rfl fX12_159 L_177 ?_
      refine h121 _ _ ?_
      unfold mx
      first
      | (rw [if_pos (by omega)]; exact a86.up (by omega))
      | (rw [if_neg (by omega)]; exact a86.up (by omega))
    · refine S.aload_n (pc' := 104) dX12_readVisit_103 rfl rfl rfl ?_
      refine S.getR (pc' := 107) dX12_readVisit_104 rfl fX12_26 L_177 rf_177_7 ?_
      refine S.iload_n (pc' := 108) dX12_readVisit_107 rfl rfl rfl ?_
      refine S.iconst (pc' := 109) dX12_readVisit_108 rfl ?_
      refine S.iadd (pc' := 110) dX12_readVisit_109 rfl ?_
      refine S.iald (pc' := 111) dX12_readVisit_110 rfl L_182 (by omega) (by omega) ?_
      refine S.goto (pc' := 118) dX12_readVisit_111 (by decide) ?_
      first | rw [x3] | rw [x16]
      refine S.putI (pc' := 121) dX12_readVisit_118 rfl fX12_159 L_177 ?_
      refine h121 _ _ ?_
      unfold mx
      first
      | (rw [if_pos (by omega)]; exact a86.up (by omega))
      | (rw [if_neg (by omega)]; exact a86.up (by omega))
  refine S.aload_n (pc' := 1) dX12_readVisit_0 rfl rfl rfl ?_
  refine S.getR (pc' := 4) dX12_readVisit_1 rfl fX12_26 L_177 rf_177_7 ?_
  refine S.bipush (pc' := 6) dX12_readVisit_4 rfl (by decide) ?_
  refine S.iald (pc' := 7) dX12_readVisit_6 rfl L_182 (by decide) (by decide) ?_
  rw [show M 182 (95 : Int).toNat = n from hn]
  refine S.istore_n (pc' := 8) (LL' := [_, _, _, _]) dX12_readVisit_7 rfl (by decide) rfl rfl rfl ?_
  refine S.iload_n (pc' := 9) dX12_readVisit_8 rfl rfl rfl ?_
  refine S.bipush (pc' := 11) dX12_readVisit_9 rfl (by decide) ?_
  refine S.icmp_ne (pc' := 14) (tgt := 20) dX12_readVisit_11 (by decide) rfl (by unfold fp_rng; omega) (by unfold fp_rng; omega) (fun h11 => ?_) (fun h11 => ?_)
  · refine S.aload_n (pc' := 21) dX12_readVisit_20 rfl rfl rfl ?_
    refine S.callVv (pc' := 24) dX12_readVisit_21 rfl cX12_136 (mt_st ht a0 ho hm) rfl L_177 (by decide) rfl (Nat.le_of_ble_eq_true rfl) (fun M21 q21 => ?_)
    refine S.bipush (pc' := 26) dX12_readVisit_24 rfl (by decide) ?_
    refine S.iconst (pc' := 27) dX12_readVisit_26 rfl ?_
    refine S.iload_n (pc' := 28) dX12_readVisit_27 rfl rfl rfl ?_
    refine S.imul (pc' := 29) dX12_readVisit_28 rfl ?_
    refine S.iadd (pc' := 30) dX12_readVisit_29 rfl ?_
    refine S.istore_n (pc' := 31) (LL' := [_, _, _, _]) dX12_readVisit_30 rfl (by decide) rfl rfl rfl ?_
    refine S.aload_n (pc' := 32) dX12_readVisit_31 rfl rfl rfl ?_
    refine S.getR (pc' := 35) dX12_readVisit_32 rfl fX12_26 L_177 rf_177_7 ?_
    refine S.iload_n (pc' := 36) dX12_readVisit_35 rfl rfl rfl ?_
    refine S.aload_n (pc' := 37) dX12_readVisit_36 rfl rfl rfl ?_
    refine S.iload_n (pc' := 38) dX12_readVisit_37 rfl rfl rfl ?_
    refine S.if_ne (pc' := 41) (tgt := 45) dX12_readVisit_38 (by decide) rfl (by unfold fp_rng; omega) (fun h38 => ?_) (fun h38 => ?_)
    · refine S.aload_n (pc' := 46) dX12_readVisit_45 rfl rfl rfl ?_
      refine S.getR (pc' := 49) dX12_readVisit_46 rfl fX12_26 L_177 rf_177_7 ?_
      refine S.iload_n (pc' := 50) dX12_readVisit_49 rfl rfl rfl ?_
      refine S.iconst (pc' := 51) dX12_readVisit_50 rfl ?_
      refine S.isub (pc' := 52) dX12_readVisit_51 rfl ?_
      refine S.iald (pc' := 53) dX12_readVisit_52 rfl L_182 (by omega) (by omega) ?_
      first
      | exact h53 _ _ _ (by rw [hlo, if_pos (by assumption)]) q21
      | exact h53 _ _ _ (by rw [hlo, if_neg (by assumption), q21.rd (Or.inl (by decide))]) q21
    · refine S.iconst (pc' := 42) dX12_readVisit_41 rfl ?_
      refine S.goto (pc' := 53) dX12_readVisit_42 (by decide) ?_
      first
      | exact h53 _ _ _ (by rw [hlo, if_pos (by assumption)]) q21
      | exact h53 _ _ _ (by rw [hlo, if_neg (by assumption), q21.rd (Or.inl (by decide))]) q21
  · exfalso; omega
end MVI
