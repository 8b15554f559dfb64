/-! bank: the reference -/
section MBK
variable {l : Launch} {G : fp_WG} {M N : fp_Mem} {tp : List Int} {fl : Int} {g : aGd} {pg : aPg} {vs : List aVt} {nt : List Int} {im : aIm} {sh : aSh} {tn : Int}
def mbQ (tp : List Int) (M : fp_Mem) (g : aGd) (pg : aPg) (vs : List aVt) (nt : List Int) (im : aIm) (sh : aSh) (tn : Int) (z : Int) (N : fp_Mem) : Prop := mrI N ∧ (∀ c, c < 177 → N c = M c) ∧ ((∃ h fl', bkR tp = .inl h ∧ z = -10 - h ∧ MS N [] fl' g pg vs nt im sh tn) ∨ ∃ r, bkR tp = .inr r ∧ z = r.1 ∧ MS N [] 0 r.2.1 r.2.2.1 r.2.2.2 [] (fun _ => none) sh tn)
/-- refused -/
theorem mb_no {h : Int} (hc : MS M tp fl g pg vs nt im sh tn) (hf : frQ M N) (hi : mrI N) (hb : mtB N h) (hR : bkR tp = .inl h) (i : Int) (o : Option Value) : fp_S l G 5 kX12_bank 132 [some (rV G 177), some (iV i), o] [] N (qI fun z N => mbQ tp M g pg vs nt im sh tn z N) := by
  have b1 := hb.1
  have b2 := hb.2
  obtain ⟨hA, hG, hP, hV, hN, hI, hS, hK⟩ := hc
  have hMS : MS (fp_up (fp_up N 177 19 0) 177 20 (N 177 21)) [] (N 177 21) g pg vs nt im sh tn := by
    generalize hX : fp_up (fp_up N 177 19 0) 177 20 (N 177 21) = X
    have xc : ∀ a, (177 < a ∧ a < 182) ∨ 185 < a → X a = M a := fun a ha => by rw [← hX, fp_up_ne (by omega), fp_up_ne (by omega)]; exact hf.1 a (by omega)
    have x19 : X 177 19 = 0 := by rw [← hX]; rfl
    have x20 : X 177 20 = N 177 21 := by rw [← hX]; rfl
    have xj : ∀ j, (j < 11 ∨ 26 < j) → X 177 j = M 177 j := fun j hj => by rw [← hX, fp_up_at, fp_upf_ne (by omega), fp_up_at, fp_upf_ne (by omega)]; exact hf.2 j (by omega)
    refine ⟨⟨x19, by simp, fun i i0 i1 => absurd i1 (by simp; omega), x20, by rw [xj 44 (by omega)]; exact hA.2.2.2.2⟩, ?_, ?_, ?_, ?_, ?_, ?_, ?_⟩
    · unfold mdIs md_ok at *
      rw [xj 4 (by omega), xj 5 (by omega), xj 6 (by omega), xc 179 (by omega), xc 180 (by omega), xc 181 (by omega)]; exact hG
    · unfold mpIs at *
      rw [xc 178 (by omega)]; exact hP
    · rw [xc 178 (by omega)]; exact hV
    · rw [xc 178 (by omega)]; exact hN
    · unfold msI at *
      rw [xc 178 (by omega), xc 199 (by omega)]; exact hI
    · unfold msS at *
      rw [xc 200 (by omega), xc 201 (by omega), xc 202 (by omega)]; exact hS
    · unfold msK at *
      rw [xc 187 (by omega), xc 188 (by omega)]; exact hK
  have x21 : fp_up N 177 19 0 177 21 = N 177 21 := rfl
  have y21 : fp_up (fp_up N 177 19 0) 177 20 (N 177 21) 177 21 = N 177 21 := rfl
  have y22 : fp_up (fp_up N 177 19 0) 177 20 (N 177 21) 177 22 = h := b2
  refine S.aload_n (pc' := 133) dX12_bank_132 rfl rfl rfl ?_
  refine S.iconst (pc' := 134) dX12_bank_133 rfl ?_
  refine S.putI (pc' := 137) dX12_bank_134 rfl fX12_91 L_177 ?_
  refine S.aload_n (pc' := 138) dX12_bank_137 rfl rfl rfl ?_
  refine S.aload_n (pc' := 139) dX12_bank_138 rfl rfl rfl ?_
  refine S.getI (pc' := 142) dX12_bank_139 rfl fX12_98 L_177 ?_
  rw [x21]
  refine S.putI (pc' := 145) dX12_bank_142 rfl fX12_190 L_177 ?_
  refine S.aload_n (pc' := 146) dX12_bank_145 rfl rfl rfl ?_
  refine S.getI (pc' := 149) dX12_bank_146 rfl fX12_98 L_177 ?_
  rw [y21]
  refine S.if_le (pc' := 152) (tgt := 160) dX12_bank_149 (by decide) rfl (by unfold fp_rng; omega) (fun h149 => ?_) (fun h149 => ?_)
  · exfalso; omega
  · refine S.bipush (pc' := 154) dX12_bank_152 rfl (by decide) ?_
    refine S.aload_n (pc' := 155) dX12_bank_154 rfl rfl rfl ?_
    refine S.getI (pc' := 158) dX12_bank_155 rfl fX12_104 L_177 ?_
    rw [y22]
    refine S.isub (pc' := 159) dX12_bank_158 rfl ?_
    refine S.iret dX12_bank_159 rfl ?_
    exact ⟨hi.kept rfl rfl rfl, fun c hc => by rw [fp_up_ne (by omega), fp_up_ne (by omega)]; exact hf.1 c (by omega), Or.inl ⟨h, _, hR, rfl, hMS⟩⟩
/-- taken -/
theorem mb_yes {q : Int × pD} (hc : MS M tp fl g pg vs nt im sh tn) (hf : frQ M N) (hi : mrI N) (hb : N 177 21 = 0) (hd : mrD N q.2) (hD : dOk q.2) (hs : stOk q.2) (hR : bkR tp = .inr (q.1, q.2.1, pPg q.2, q.2.2.2.2.2.2)) (o : Option Value) : fp_S l G 5 kX12_bank 132 [some (rV G 177), some (iV q.1), o] [] N (qI fun z N => mbQ tp M g pg vs nt im sh tn z N) := by
  obtain ⟨hA, hG, hP, hV, hN, hI, hS, hK⟩ := hc
  have x21 : fp_up N 177 19 0 177 21 = 0 := hb
  have y21 : fp_up (fp_up N 177 19 0) 177 20 0 177 21 = 0 := hb
  have hd2 : mrD (fp_up (fp_up N 177 19 0) 177 20 0) q.2 := hd.kept (fun a a0 a1 => by rw [fp_up_ne (by omega), fp_up_ne (by omega)]) (fun j j0 j1 => by rw [fp_up_at, fp_upf_ne (by omega), fp_up_at, fp_upf_ne (by omega)])
  have hi2 : mrI (fp_up (fp_up N 177 19 0) 177 20 0) := hi.kept rfl rfl rfl
  have hz9 : fp_up (fp_up N 177 19 0) 177 20 0 179 10 = 0 := by
    show N 179 10 = 0
    rw [hf.1 179 (by omega)]; exact hG.2.2.2.2.1
  have hz8 : ∀ p : Int, 0 ≤ p → p < 4 → fp_up (fp_up N 177 19 0) 177 20 0 180 (40 + p).toNat = 0 := fun p p0 p1 => by
    show N 180 _ = 0
    rw [hf.1 180 (by omega)]; exact hG.2.2.2.2.2.2.1 p p0 p1
  refine S.aload_n (pc' := 133) dX12_bank_132 rfl rfl rfl ?_
  refine S.iconst (pc' := 134) dX12_bank_133 rfl ?_
  refine S.putI (pc' := 137) dX12_bank_134 rfl fX12_91 L_177 ?_
  refine S.aload_n (pc' := 138) dX12_bank_137 rfl rfl rfl ?_
  refine S.aload_n (pc' := 139) dX12_bank_138 rfl rfl rfl ?_
  refine S.getI (pc' := 142) dX12_bank_139 rfl fX12_98 L_177 ?_
  rw [x21]
  refine S.putI (pc' := 145) dX12_bank_142 rfl fX12_190 L_177 ?_
  refine S.aload_n (pc' := 146) dX12_bank_145 rfl rfl rfl ?_
  refine S.getI (pc' := 149) dX12_bank_146 rfl fX12_98 L_177 ?_
  rw [y21]
  refine S.if_le (pc' := 152) (tgt := 160) dX12_bank_149 (by decide) rfl (by unfold fp_rng; omega) (fun h149 => ?_) (fun h149 => ?_)
  · refine S.aload_n (pc' := 161) dX12_bank_160 rfl rfl rfl ?_
    refine S.callVv (pc' := 164) dX12_bank_161 rfl cX12_193 (rk_X12_takes hd2 hD hs hi2 hz9 hz8) rfl L_177 (by decide) rfl (Nat.le_of_ble_eq_true rfl) (fun M161 q161 => ?_)
    refine S.iload_n (pc' := 165) dX12_bank_164 rfl rfl rfl ?_
    refine S.iret dX12_bank_165 rfl ?_
    obtain ⟨⟨f1, f2⟩, w1, w2, w3, w4, w5, w6⟩ := q161
    have xc : ∀ a, (a < 177 ∨ 185 < a) → a ≠ 199 → M161 a = M a := fun a ha h9 => by rw [f1 a (by omega) (by omega) (by omega) (by omega) (by omega) h9, fp_up_ne (by omega), fp_up_ne (by omega)]; exact hf.1 a (by omega)
    refine ⟨hi2.kept (f1 183 (by decide) (by decide) (by decide) (by decide) (by decide) (by decide)) (f1 184 (by decide) (by decide) (by decide) (by decide) (by decide) (by decide)) (f1 185 (by decide) (by decide) (by decide) (by decide) (by decide) (by decide)), fun c hc => xc c (by omega) (by omega), Or.inr ⟨_, hR, rfl, ⟨⟨?_, by simp, fun i i0 i1 => absurd i1 (by simp; omega), ?_, ?_⟩, w1, w2, w3, w4, fun k k0 k1 => Or.inl ⟨rfl, ?_⟩, ?_, ?_⟩⟩⟩
    · rw [f2 19 (by decide) (by decide) (by decide)]; rfl
    · rw [f2 20 (by decide) (by decide) (by decide)]; rfl
    · rw [f2 44 (by decide) (by decide) (by decide)]
      show N 177 44 = tn
      rw [hf.2 44 (by omega)]; exact hA.2.2.2.2
    · rcases (show k = 0 ∨ k = 1 by omega) with rfl | rfl
      · exact w5
      · exact w6
    · unfold msS at *
      rw [xc 200 (by omega) (by omega), xc 201 (by omega) (by omega), xc 202 (by omega) (by omega)]; exact hS
    · unfold msK at *
      rw [xc 187 (by omega) (by omega), xc 188 (by omega) (by omega)]; exact hK
  · exact absurd h149 (by decide)
theorem st_hi {D : pD} (hd : mrD N D) (hD : dOk D) : (N 177 15 < D.1.1 ∧ N 177 16 < D.1.2.1) ↔ stOk D := by
  obtain ⟨k1, k2, k3, k4⟩ := hd.2.2.2.2.2.2
  have g1 := hD.1.1
  have g2 := hD.1.2.1
  rw [k3 _ g1.1, k4 _ g2.1]
  unfold stOk
  constructor
  · rintro ⟨⟨a, b⟩, c⟩
    exact ⟨a, fun v hv => ⟨Or.inr (b v hv), c v hv⟩⟩
  · rintro ⟨a, b⟩
    refine ⟨⟨a, fun v hv => ?_⟩, fun v hv => (b v hv).2⟩
    rcases (b v hv).1 with q | q
    · omega
    · exact q
theorem mb_97 {z : Int} (ht : tpOk tp) (hc : MS M tp fl g pg vs nt im sh tn) (h : txM tp M N (pText tp (tp.length + 1) 0 0 pD0) z) (o : Option Value) : fp_S l G 5 kX12_bank 97 [some (rV G 177), some (iV z), o] [] N (qI fun z N => mbQ tp M g pg vs nt im sh tn z N) := by
  obtain ⟨hf, hi, hcs⟩ := h
  have hn := ht.1
  rcases hcs with ⟨h, e, hb⟩ | ⟨q, e, rfl, h21, h24, hd, hD⟩
  · have b1 := hb.1
    have hR : bkR tp = .inl h := by unfold bkR; rw [e]
    refine S.aload_n (pc' := 98) dX12_bank_97 rfl rfl rfl ?_
    refine S.getI (pc' := 101) dX12_bank_98 rfl fX12_98 L_177 ?_
    refine S.if_ne (pc' := 104) (tgt := 132) dX12_bank_101 (by decide) rfl (by unfold fp_rng; omega) (fun h101 => ?_) (fun h101 => ?_)
    · exact mb_no hc hf hi hb hR _ _
    · exfalso; omega
  · obtain ⟨k1, k2, k3, k4⟩ := hd.2.2.2.2.2.2
    have g1 := hD.1.1
    have g2 := hD.1.2.1
    have x11 : N 177 11 = q.2.1.1 := hd.1.1
    have x12 : N 177 12 = q.2.1.2.1 := hd.1.2.1
    have hst := st_hi hd hD
    have hno : ¬ stOk q.2 → fp_S l G 5 kX12_bank 132 [some (rV G 177), some (iV q.1), o] [] (fp_up (fp_up N 177 21 6) 177 22 (N 177 24)) (qI fun z N => mbQ tp M g pg vs nt im sh tn z N) := by
      intro hs
      have hR : bkR tp = .inl (tp.length : Int) := by unfold bkR; rw [e]; simp only; rw [if_neg hs]
      exact mb_no (N := fp_up (fp_up N 177 21 6) 177 22 (N 177 24)) hc ((hf.up (by omega)).up (by omega)) (hi.kept rfl rfl rfl) ⟨(by decide : (1 : Int) ≤ 6 ∧ (6 : Int) ≤ 6), h24⟩ hR _ _
    have hyes : stOk q.2 → fp_S l G 5 kX12_bank 132 [some (rV G 177), some (iV q.1), o] [] N (qI fun z N => mbQ tp M g pg vs nt im sh tn z N) := by
      intro hs
      have hR : bkR tp = .inr (q.1, q.2.1, pPg q.2, q.2.2.2.2.2.2) := by unfold bkR; rw [e]; simp only; rw [if_pos hs]
      exact mb_yes hc hf hi h21 hd hD hs hR _
    refine S.aload_n (pc' := 98) dX12_bank_97 rfl rfl rfl ?_
    refine S.getI (pc' := 101) dX12_bank_98 rfl fX12_98 L_177 ?_
    rw [h21]
    refine S.if_ne (pc' := 104) (tgt := 132) dX12_bank_101 (by decide) rfl (by unfold fp_rng; omega) (fun h101 => ?_) (fun h101 => ?_)
    · first
      | exact absurd rfl h101
      | exact hno (fun s => by have := hst.mpr s; omega)
      | exact hyes (hst.mp (by omega))
    · refine S.aload_n (pc' := 105) dX12_bank_104 rfl rfl rfl ?_
      refine S.getI (pc' := 108) dX12_bank_105 rfl fX12_156 L_177 ?_
      refine S.aload_n (pc' := 109) dX12_bank_108 rfl rfl rfl ?_
      refine S.getI (pc' := 112) dX12_bank_109 rfl fX12_139 L_177 ?_
      rw [x11]
      refine S.icmp_ge (pc' := 115) (tgt := 126) dX12_bank_112 (by decide) rfl (by unfold fp_rng; omega) (by unfold fp_rng; omega) (fun h112 => ?_) (fun h112 => ?_)
      · refine S.aload_n (pc' := 127) dX12_bank_126 rfl rfl rfl ?_
        refine S.bipush (pc' := 129) dX12_bank_127 rfl (by decide) ?_
        refine S.callVw (pc' := 132) dX12_bank_129 rfl cX12_128 (mt_fails0 h21) rfl L_177 (by decide) rfl (Nat.le_of_ble_eq_true rfl) ?_
        first
        | exact absurd rfl h101
        | exact hno (fun s => by have := hst.mpr s; omega)
        | exact hyes (hst.mp (by omega))
      · refine S.aload_n (pc' := 116) dX12_bank_115 rfl rfl rfl ?_
        refine S.getI (pc' := 119) dX12_bank_116 rfl fX12_159 L_177 ?_
        refine S.aload_n (pc' := 120) dX12_bank_119 rfl rfl rfl ?_
        refine S.getI (pc' := 123) dX12_bank_120 rfl fX12_146 L_177 ?_
        rw [x12]
        refine S.icmp_lt (pc' := 126) (tgt := 132) dX12_bank_123 (by decide) rfl (by unfold fp_rng; omega) (by unfold fp_rng; omega) (fun h123 => ?_) (fun h123 => ?_)
        · first
          | exact absurd rfl h101
          | exact hno (fun s => by have := hst.mpr s; omega)
          | exact hyes (hst.mp (by omega))
        · refine S.aload_n (pc' := 127) dX12_bank_126 rfl rfl rfl ?_
          refine S.bipush (pc' := 129) dX12_bank_127 rfl (by decide) ?_
          refine S.callVw (pc' := 132) dX12_bank_129 rfl cX12_128 (mt_fails0 h21) rfl L_177 (by decide) rfl (Nat.le_of_ble_eq_true rfl) ?_
          first
          | exact absurd rfl h101
          | exact hno (fun s => by have := hst.mpr s; omega)
          | exact hyes (hst.mp (by omega))
theorem mb_z {Q : fp_Q} (K : ∀ (N : fp_Mem) (o : Option Value), (∀ a, a ≠ 182 → N a = M a) → (∀ j : Nat, j < 120 → N 182 j = 0) → fp_S l G 5 kX12_bank 69 [some (rV G 177), some (iV 0), o] [] N Q) : ∀ (k : Nat) (i : Int) (N : fp_Mem), (120 - i).toNat < k → 0 ≤ i → i ≤ 120 → (∀ a, a ≠ 182 → N a = M a) → (∀ j : Nat, (j : Int) < i → N 182 j = 0) →
    fp_S l G 5 kX12_bank 50 [some (rV G 177), some (iV 0), some (iV i)] [] N Q := by
  intro k
  induction k with
  | zero => intro i N hk; omega
  | succ k ih =>
    intro i N hk i0 i1 hf hz
    by_cases hi : i < 120
    · refine S.iload_n (pc' := 51) dX12_bank_50 rfl rfl rfl ?_
      refine S.bipush (pc' := 53) dX12_bank_51 rfl (by decide) ?_
      refine S.icmp_ge (pc' := 56) (tgt := 69) dX12_bank_53 (by decide) rfl (by unfold fp_rng; omega) (by unfold fp_rng; omega) (fun h53 => ?_) (fun h53 => ?_)
      · exfalso; omega
      · refine S.aload_n (pc' := 57) dX12_bank_56 rfl rfl rfl ?_
        refine S.getR (pc' := 60) dX12_bank_57 rfl fX12_26 L_177 rf_177_7 ?_
        refine S.iload_n (pc' := 61) dX12_bank_60 rfl rfl rfl ?_
        refine S.iconst (pc' := 62) dX12_bank_61 rfl ?_
        refine S.iast (pc' := 63) dX12_bank_62 rfl L_182 (by omega) (by omega) ?_
        refine S.iinc (pc' := 66) (LL' := [_, _, _]) dX12_bank_63 rfl (by decide) rfl rfl rfl ?_
        refine S.goto (pc' := 50) dX12_bank_66 (by decide) ?_
        refine ih (i + 1) _ (by omega) (by omega) (by omega) (fun a ha => by rw [fp_up_ne ha]; exact hf a ha) (fun j hj => ?_)
        rw [fp_up_at]
        by_cases e : j = i.toNat
        · subst e; simp [fp_upf]
        · rw [fp_upf_ne e]; exact hz j (by omega)
    · refine S.iload_n (pc' := 51) dX12_bank_50 rfl rfl rfl ?_
      refine S.bipush (pc' := 53) dX12_bank_51 rfl (by decide) ?_
      refine S.icmp_ge (pc' := 56) (tgt := 69) dX12_bank_53 (by decide) rfl (by unfold fp_rng; omega) (by unfold fp_rng; omega) (fun h53 => ?_) (fun h53 => ?_)
      · exact K _ _ hf (fun j hj => hz j (by omega))
      · exfalso; omega
def mb0 (M : fp_Mem) : fp_Mem := fp_up (fp_up (fp_up (fp_up (fp_up (fp_up (fp_up (fp_up (fp_up M 177 21 0) 177 23 0) 177 11 0) 177 12 0) 177 13 10) 177 14 0) 177 15 (-1)) 177 16 (-1)) 177 17 0
theorem mm_bank (hc : MS M tp fl g pg vs nt im sh tn) (hi : mrI M) : fp_Ok l G 5 kX12_bank [rV G 177] M (qI fun z N => mbQ tp M g pg vs nt im sh tn z N) := by
  refine fp_Ok.of (r := 2) rfl (Nat.le_of_ble_eq_true rfl) rfl ?_
  have hA := hc.1
  have hK : msK M := hc.2.2.2.2.2.2.2
  have ht : tpOk tp := ⟨hA.2.1, fun i i0 i1 => (hA.2.2.1 i i0 i1).1⟩
  have hm : mtT M tp := ⟨hA.1, fun i i0 i1 => (hA.2.2.1 i i0 i1).2⟩
  have f0 : frQ M (mb0 M) := by
    unfold mb0
    exact (((((((((frQ.refl M).up (by omega)).up (by omega)).up (by omega)).up (by omega)).up (by omega)).up (by omega)).up (by omega)).up (by omega)).up (by omega)
  have h69 : ∀ (N : fp_Mem) (o : Option Value), (∀ a, a ≠ 182 → N a = mb0 M a) → (∀ j : Nat, j < 120 → N 182 j = 0) → fp_S l G 5 kX12_bank 69 [some (rV G 177), some (iV 0), o] [] N (qI fun z N => mbQ tp M g pg vs nt im sh tn z N) := by
    intro N o a1 b1
    have e177 : N 177 = mb0 M 177 := a1 177 (by decide)
    have fN : frQ M N := by
      refine ⟨fun a ha => by rw [a1 a (by omega)]; exact f0.1 a ha, fun j hj => by rw [e177]; exact f0.2 j hj⟩
    have iN : mrI N := hi.kept (by rw [a1 183 (by decide)]; rfl) (by rw [a1 184 (by decide)]; rfl) (by rw [a1 185 (by decide)]; rfl)
    have dN : mrD N pD0 := by
      refine ⟨⟨by rw [e177]; rfl, by rw [e177]; rfl, by rw [e177]; rfl, fun t t0 t1 => absurd t1 (by show ¬ t < 0; omega), fun t p t0 t1 => absurd t1 (by show ¬ t < 0; omega), fun x x0 x1 => absurd x1 (by show ¬ x < 0; omega)⟩, ⟨fun t t0 t1 => absurd t1 (by show ¬ t < 0; omega), fun x x0 x1 => ⟨by rw [b1 _ (by omega)]; rfl, fun i i0 i1 => absurd i1 (by show ¬ i < 0; omega)⟩⟩, ⟨by rw [b1 _ (by omega)]; rfl, by show (0 : Nat) ≤ 12; omega, fun i i0 i1 => absurd i1 (by show ¬ i < 0; omega)⟩, by rw [e177]; rfl, by rw [e177]; rfl, b1 104 (by omega), ?_⟩
      rw [e177]
      show mrH (-1) (-1) (fun _ => []) []
      refine ⟨by omega, by omega, fun n n0 => ⟨fun _ => ⟨fun x t _ _ ht => (List.not_mem_nil ht).elim, fun v hv => (List.not_mem_nil hv).elim⟩, fun _ => by omega⟩, fun n n0 => ⟨fun _ v hv => (List.not_mem_nil hv).elim, fun _ => by omega⟩⟩
    refine S.aload_n (pc' := 70) dX12_bank_69 rfl rfl rfl ?_
    refine S.callVv (pc' := 73) dX12_bank_70 rfl cX12_136 (mt_step (s := 0) ht (fN.T hm) (by rw [e177]; rfl) (by rw [e177]; rfl) (by omega) (by omega)) rfl L_177 (by decide) rfl (Nat.le_of_ble_eq_true rfl) (fun M70 q70 => ?_)
    exact mb_loop ht hm hK (fun N' z' h => mb_97 ht hc h _) (tp.length + 1) 0 0 pD0 _ (by omega) (by omega) (by omega) (fN.trans q70.1.Q) ⟨by omega, q70.2.1, q70.2.2⟩ (q70.1.D dN) pD0_ok (q70.1.I iN) rfl
  refine S.aload_n (pc' := 1) dX12_bank_0 rfl rfl rfl ?_
  refine S.iconst (pc' := 2) dX12_bank_1 rfl ?_
  refine S.putI (pc' := 5) dX12_bank_2 rfl fX12_98 L_177 ?_
  refine S.aload_n (pc' := 6) dX12_bank_5 rfl rfl rfl ?_
  refine S.iconst (pc' := 7) dX12_bank_6 rfl ?_
  refine S.putI (pc' := 10) dX12_bank_7 rfl fX12_110 L_177 ?_
  refine S.aload_n (pc' := 11) dX12_bank_10 rfl rfl rfl ?_
  refine S.iconst (pc' := 12) dX12_bank_11 rfl ?_
  refine S.putI (pc' := 15) dX12_bank_12 rfl fX12_139 L_177 ?_
  refine S.aload_n (pc' := 16) dX12_bank_15 rfl rfl rfl ?_
  refine S.iconst (pc' := 17) dX12_bank_16 rfl ?_
  refine S.putI (pc' := 20) dX12_bank_17 rfl fX12_146 L_177 ?_
  refine S.aload_n (pc' := 21) dX12_bank_20 rfl rfl rfl ?_
  refine S.bipush (pc' := 23) dX12_bank_21 rfl (by decide) ?_
  refine S.putI (pc' := 26) dX12_bank_23 rfl fX12_174 L_177 ?_
  refine S.aload_n (pc' := 27) dX12_bank_26 rfl rfl rfl ?_
  refine S.iconst (pc' := 28) dX12_bank_27 rfl ?_
  refine S.putZ (pc' := 31) dX12_bank_28 rfl fX12_170 L_177 (by first | exact Or.inl rfl | exact Or.inr rfl | omega) ?_
  refine S.aload_n (pc' := 32) dX12_bank_31 rfl rfl rfl ?_
  refine S.iconst (pc' := 33) dX12_bank_32 rfl ?_
  refine S.putI (pc' := 36) dX12_bank_33 rfl fX12_156 L_177 ?_
  refine S.aload_n (pc' := 37) dX12_bank_36 rfl rfl rfl ?_
  refine S.iconst (pc' := 38) dX12_bank_37 rfl ?_
  refine S.putI (pc' := 41) dX12_bank_38 rfl fX12_159 L_177 ?_
  refine S.aload_n (pc' := 42) dX12_bank_41 rfl rfl rfl ?_
  refine S.iconst (pc' := 43) dX12_bank_42 rfl ?_
  refine S.putI (pc' := 46) dX12_bank_43 rfl fX12_153 L_177 ?_
  refine S.iconst (pc' := 47) dX12_bank_46 rfl ?_
  refine S.istore_n (pc' := 48) (LL' := [_, _, _]) dX12_bank_47 rfl (by decide) rfl rfl rfl ?_
  refine S.iconst (pc' := 49) dX12_bank_48 rfl ?_
  refine S.istore_n (pc' := 50) (LL' := [_, _, _]) dX12_bank_49 rfl (by decide) rfl rfl rfl ?_
  exact mb_z (M := mb0 M) h69 121 0 _ (by omega) (by omega) (by omega) (fun _ _ => rfl) (fun j hj => by omega)
end MBK
