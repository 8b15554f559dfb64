/-! bank: the reference -/
section MBK
variable {l : Launch} {G : fp_WG} {M N : fp_Mem} {tp : List Int} {fl : Int} {g : aGd} {pg : aPg} {vs : List aVt} {nt : List Int} {im : aIm} {sh : aSh} {tn : Int}
def mbQ (tp : List Int) (M : fp_Mem) (g : aGd) (pg : aPg) (vs : List aVt) (nt : List Int) (im : aIm) (sh : aSh) (tn : Int) (z : Int) (N : fp_Mem) : Prop := mrI N ∧ (∀ c, c < 177 → N c = M c) ∧ ((∃ h fl', bkR tp = .inl h ∧ z = -10 - h ∧ MS N [] fl' g pg vs nt im sh tn) ∨ ∃ r, bkR tp = .inr r ∧ z = r.1 ∧ MS N [] 0 r.2.1 r.2.2.1 r.2.2.2 [] (fun _ => none) sh tn)
/-- refused -/
theorem mb_no {h : Int} (hc : MS M tp fl g pg vs nt im sh tn) (hf : frQ M N) (hi : mrI N) (hb : mtB N h) (hh : 0 ≤ h ∧ h ≤ 480) (hR : bkR tp = .inl h) (i : Int) (o : Option Value) : fp_S l G 5 kX12_bank 132 [some (rV G 177), some (iV i), o] [] N (qI fun z N => mbQ tp M g pg vs nt im sh tn z N) := by
  have b1 := hb.1
  have b2 := hb.2
  obtain ⟨hA, hG, hP, hV, hN, hI, hS, hK⟩ := hc
  have hMS : MS (fp_up (fp_up N 177 19 0) 177 20 (N 177 21)) [] (N 177 21) g pg vs nt im sh tn := by
    generalize hX : fp_up (fp_up N 177 19 0) 177 20 (N 177 21) = X
    have xc : ∀ a, (177 < a ∧ a < 182) ∨ 185 < a → X a = M a := fun a ha => by rw [← hX, fp_up_ne (by omega), fp_up_ne (by omega)]; exact hf.1 a (by omega)
    have x19 : X 177 19 = 0 := by rw [← hX]; rfl
    have x20 : X 177 20 = N 177 21 := by rw [← hX]; rfl
    have xj : ∀ j, (j < 11 ∨ 26 < j) → X 177 j = M 177 j := fun j hj => by rw [← hX, fp_up_at, fp_upf_ne (by omega), fp_up_at, fp_upf_ne (by omega)]; exact hf.2 j (by omega)
    refine ⟨⟨x19, by simp, fun i i0 i1 => absurd i1 (by simp; omega), x20, by rw [xj 44 (by omega)]; exact hA.2.2.2.2⟩, ?_, ?_, ?_, ?_, ?_, ?_, ?_⟩
    · unfold mdIs md_ok at *
      rw [xj 4 (by omega), xj 5 (by omega), xj 6 (by omega), xc 179 (by omega), xc 180 (by omega), xc 181 (by omega)]; exact hG
    · unfold mpIs at *
      rw [xc 178 (by omega)]; exact hP
    · rw [xc 178 (by omega)]; exact hV
    · rw [xc 178 (by omega)]; exact hN
    · unfold msI at *
      rw [xc 178 (by omega), xc 199 (by omega)]; exact hI
    · unfold msS at *
      rw [xc 200 (by omega), xc 201 (by omega), xc 202 (by omega)]; exact hS
    · unfold msK at *
      rw [xc 187 (by omega), xc 188 (by omega)]; exact hK
  have x21 : fp_up N 177 19 0 177 21 = N 177 21 := rfl
  have y21 : fp_up (fp_up N 177 19 0) 177 20 (N 177 21) 177 21 = N 177 21 := rfl
  have y22 : fp_up (fp_up N 177 19 0) 177 20 (N 177 21) 177 22 = h := b2
  refine S.aload_n (pc' := 133) dX12_bank_132 rfl rfl rfl ?_
  refine S.iconst (pc' := 134) dX12_bank_133 rfl ?_
  refine S.putI (pc' := 137) dX12_bank_134 rfl fX12_91 L_177 ?_
  refine S.aload_n (pc' := 138) dX12_bank_137 rfl rfl rfl ?_
  refine S.aload_n (pc' := 139) dX12_bank_138 rfl rfl rfl ?_
  refine S.getI (pc' := 142) dX12_bank_139 rfl fX12_98 L_177 ?_
  rw [x21]
  refine S.putI (pc' := 145) dX12_bank_142 rfl fX12_190 L_177 ?_
  refine S.aload_n (pc' := 146) dX12_bank_145 rfl rfl rfl ?_
  refine S.getI (pc' := 149) dX12_bank_146 rfl fX12_98 L_177 ?_
  rw [y21]
  refine S.if_le (pc' := 152) (tgt := 160) dX12_bank_149 (by decide) rfl (by unfold fp_rng; omega) (fun h149 => ?_) (fun h149 => ?_)
  · exfalso; omega
  · refine S.bipush (pc' := 154) dX12_bank_152 rfl (by decide) ?_
    refine S.aload_n (pc' := 155) dX12_bank_154 rfl rfl rfl ?_
    refine S.getI (pc' := 158) dX12_bank_155 rfl fX12_104 L_177 ?_
    rw [y22]
    refine S.isub (pc' := 159) dX12_bank_158 rfl ?_
    refine S.iret dX12_bank_159 rfl ?_
    exact ⟨hi.kept rfl rfl rfl, fun c hc => by rw [fp_up_ne (by omega), fp_up_ne (by omega)]; exact hf.1 c (by omega), Or.inl ⟨h, _, hR, rfl, hMS⟩⟩
end MBK
