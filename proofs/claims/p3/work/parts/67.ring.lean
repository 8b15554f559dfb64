/-! RINGS: the reference, round by round -/
theorem aRgC_lt {f : Int → Int} {p : Int} (h : ∀ q : Int, 0 ≤ q → q < 4 → 0 ≤ f q ∧ f q < 4) : ∀ (n : Nat) (q m : Int), 0 ≤ q → q < 4 → 0 ≤ m → m < 16 → 0 ≤ aRgC f p n q m ∧ aRgC f p n q m < 16
  | 0, _, _, _, _, _, _ => by simp [aRgC]
  | n + 1, q, m, h0, h1, m0, m1 => by
    have hp2 : (2 : Int) ^ q.toNat < 16 := by
      rcases (show q.toNat = 0 ∨ q.toNat = 1 ∨ q.toNat = 2 ∨ q.toNat = 3 by omega) with e | e | e | e <;> rw [e] <;> decide
    have ho : fp_or m (2 ^ q.toNat) < 16 := fp_or_lt (n := 4) m1 hp2
    unfold aRgC
    split
    · exact ⟨fp_or_nn _ _, ho⟩
    · exact aRgC_lt h n _ _ (h q h0 h1).1 (h q h0 h1).2 (fp_or_nn _ _) ho
section RN7
variable {l : Launch} {G : fp_WG} {M N : fp_Mem} {tp : List Int} {fl : Int} {g : aGd} {pg : aPg} {vs : List aVt} {nt : List Int} {im : aIm} {sh : aSh} {tn : Int}
theorem rk_mring {b : Int → Int} {th p : Int} (hp : 0 ≤ p ∧ p < 4) (hb : bOk g b th) (hne : th ≠ 0) (hg : gOk g) (hd : mdIs M g) (hr : ∀ q : Int, 0 ≤ q → q < 4 → M 196 q.toNat = b q) : fp_Ok l G 1 kX12_ringOf [rV G 177, iV p, iV th] M (qE (aRgC (rF g b th) p 4 p 0) M) := by
  have h := rk_X12_ringOf (l := l) (G := G) hp hb hne (fun q _ _ => aLk_four hb.1 hne) hg hd hr
  rwa [← aRg_eq (f := fun q => aLk g b th q 4) (p := p) 4 p 0 0 rfl] at h
def mI (g : aGd) (b : Int → Int) (th : Int) (u w : Int → Int) (M N : fp_Mem) (p : Int) : Prop := (∀ a, a ≠ 197 → a ≠ 198 → N a = M a) ∧ ∀ y : Int, 0 ≤ y → y < 4 → N 197 y.toNat = (if y < p ∧ rLv g b th y then b (rF g b th y) else u y) ∧ N 198 y.toNat = (if y < p ∧ rLv g b th y then aRgC (rF g b th) y 4 y 0 else w y)
theorem mI_no {b u w : Int → Int} {th p : Int} (h : mI g b th u w M N p) (hn : ¬ rLv g b th p) : mI g b th u w M N (p + 1) := by
  refine ⟨h.1, fun y y0 y1 => ?_⟩
  obtain ⟨e1, e2⟩ := h.2 y y0 y1
  have : (y < p ∧ rLv g b th y) ↔ (y < p + 1 ∧ rLv g b th y) := by
    constructor
    · rintro ⟨q1, q2⟩; exact ⟨by omega, q2⟩
    · rintro ⟨q1, q2⟩
      refine ⟨?_, q2⟩
      by_cases e : y = p
      · subst e; exact absurd q2 hn
      · omega
  rw [e1, e2]
  simp only [this]
  exact ⟨trivial, trivial⟩
theorem mI_yes {b u w : Int → Int} {th p v : Int} (h : mI g b th u w M N p) (hp : 0 ≤ p ∧ p < 4) (hn : rLv g b th p) (hv : v = b (rF g b th p)) : mI g b th u w M (fp_up (fp_up N 198 p.toNat (aRgC (rF g b th) p 4 p 0)) 197 p.toNat v) (p + 1) := by
  subst hv
  refine ⟨fun a a1 a2 => by rw [fp_up_ne a1, fp_up_ne a2]; exact h.1 a a1 a2, fun y y0 y1 => ?_⟩
  obtain ⟨e1, e2⟩ := h.2 y y0 y1
  by_cases e : y = p
  · subst e
    rw [fp_up_at, fp_upf_at, fp_up_ne (by decide), fp_up_at, fp_upf_at, if_pos ⟨by omega, hn⟩, if_pos ⟨by omega, hn⟩]
    exact ⟨rfl, rfl⟩
  · have e' : y.toNat ≠ p.toNat := by omega
    rw [fp_up_at, fp_upf_ne e', fp_up_ne (show (197 : Nat) ≠ 198 by decide), fp_up_ne (show (198 : Nat) ≠ 197 by decide), fp_up_at, fp_upf_ne e', e1, e2]
    have : (y < p ∧ rLv g b th y) ↔ (y < p + 1 ∧ rLv g b th y) := by
      constructor
      · rintro ⟨q1, q2⟩; exact ⟨by omega, q2⟩
      · rintro ⟨q1, q2⟩; exact ⟨by omega, q2⟩
    simp only [this]
    exact ⟨trivial, trivial⟩
theorem mround_p {b u w : Int → Int} {th : Int} {Q : fp_Q} (hb : bOk g b th) (hne : th ≠ 0) (hg : gOk g) (hd : mdIs M g) (hr : ∀ q : Int, 0 ≤ q → q < 4 → M 196 q.toNat = b q)
    (K : ∀ (N : fp_Mem) (o4 : Option Value), mI g b th u w M N 4 → fp_S l G 2 kX12_layRings 179 [some (rV G 177), some (iV th), some (iV (rMk g b th 4)), some (iV 4), o4] [] N Q) : ∀ (n : Nat) (p : Int) (N : fp_Mem) (o4 : Option Value), (4 - p).toNat = n → 0 ≤ p → p ≤ 4 → mI g b th u w M N p →
    fp_S l G 2 kX12_layRings 111 [some (rV G 177), some (iV th), some (iV (rMk g b th p.toNat)), some (iV p), o4] [] N Q := by
  intro n
  induction n with
  | zero =>
    intro p N o4 hn h0 h1 hI
    have : p = 4 := by omega
    subst this
    refine S.iload_n (pc' := 112) dX12_layRings_111 rfl rfl rfl ?_
    refine S.iconst (pc' := 113) dX12_layRings_112 rfl ?_
    refine S.icmp_ge (pc' := 116) (tgt := 179) dX12_layRings_113 (by decide) rfl (by unfold fp_rng; omega) (by unfold fp_rng; omega) (fun h113 => ?_) (fun h113 => ?_)
    · exact K N _ hI
    · exfalso; omega
  | succ n ih =>
    intro p N o4 hn h0 h1 hI
    have hp : 0 ≤ p ∧ p < 4 := by omega
    have hN6 : N 196 = M 196 := hI.1 196 (by decide) (by decide)
    have hrN : ∀ q : Int, 0 ≤ q → q < 4 → N 196 q.toNat = b q := fun q q0 q1 => by rw [hN6]; exact hr q q0 q1
    have hdN : mdIs N g := by
      unfold mdIs md_ok at *
      rw [hI.1 177 (by decide) (by decide), hI.1 179 (by decide) (by decide), hI.1 180 (by decide) (by decide), hI.1 181 (by decide) (by decide)]
      exact hd
    have hf : ∀ q : Int, 0 ≤ q → q < 4 → 0 ≤ rF g b th q ∧ rF g b th q < 4 := fun q _ _ => aLk_four hb.1 hne
    have hRr := aRgC_lt (f := rF g b th) (p := p) hf 4 p 0 h0 (by omega) (by omega) (by omega)
    have hRr' : fp_rng (aRgC (rF g b th) p 4 p 0) := by unfold fp_rng; omega
    have hsu := rMk_succ (g := g) (b := b) (th := th) h0
    have hbit := fp_bitv (v := th) (i := p) hb.1.1
    have hdn : 0 ≤ th / 2 ^ p.toNat := Int.ediv_nonneg hb.1.1 (Int.le_of_lt (Int.pow_pos (by decide)))
    have hmn := rMk_nn g b th p.toNat
    by_cases hbt : th.toNat.testBit p.toNat = true
    · rw [if_pos hbt] at hbit
      by_cases hz : aRgC (rF g b th) p 4 p 0 = 0
      · have hnl : ¬ rLv g b th p := fun q => q.2 hz
        rw [if_neg hnl] at hsu
        refine S.iload_n (pc' := 112) dX12_layRings_111 rfl rfl rfl ?_
        refine S.iconst (pc' := 113) dX12_layRings_112 rfl ?_
        refine S.icmp_ge (pc' := 116) (tgt := 179) dX12_layRings_113 (by decide) rfl (by unfold fp_rng; omega) (by unfold fp_rng; omega) (fun h113 => ?_) (fun h113 => ?_)
        · exfalso; omega
        · refine S.iload_n (pc' := 117) dX12_layRings_116 rfl rfl rfl ?_
          refine S.iload_n (pc' := 118) dX12_layRings_117 rfl rfl rfl ?_
          refine S.ishr (pc' := 119) dX12_layRings_118 rfl (fp_shrv (by have := hb.1; omega) (by omega)) ?_
          refine S.iconst (pc' := 120) dX12_layRings_119 rfl ?_
          refine S.iand (pc' := 121) dX12_layRings_120 rfl (fp_iand hdn (by decide)) ?_
          refine S.iconst (pc' := 122) dX12_layRings_121 rfl ?_
          refine S.icmp_ne (pc' := 125) (tgt := 134) dX12_layRings_122 (by decide) rfl (by rw [hbit]; unfold fp_rng; omega) (by unfold fp_rng; omega) (fun h122 => ?_) (fun h122 => ?_)
          · exfalso; omega
          · refine S.aload_n (pc' := 126) dX12_layRings_125 rfl rfl rfl ?_
            refine S.iload_n (pc' := 127) dX12_layRings_126 rfl rfl rfl ?_
            refine S.iload_n (pc' := 128) dX12_layRings_127 rfl rfl rfl ?_
            refine S.callVe (pc' := 131) dX12_layRings_128 rfl cX12_321 (rk_mring hp hb hne hg hdN hrN) rfl L_177 (by decide) rfl (Nat.le_of_ble_eq_true rfl) ?_
            refine S.goto (pc' := 135) dX12_layRings_131 (by decide) ?_
            refine S.istore (pc' := 137) (LL' := [_, _, _, _, _]) dX12_layRings_135 rfl (by decide) rfl rfl ?_
            refine S.iload (pc' := 139) dX12_layRings_137 rfl rfl ?_
            refine S.if_eq (pc' := 142) (tgt := 173) dX12_layRings_139 (by decide) rfl hRr' (fun h139 => ?_) (fun h139 => ?_)
            · refine S.iinc (pc' := 176) (LL' := [_, _, _, _, _]) dX12_layRings_173 rfl (by decide) rfl rfl rfl ?_
              refine S.goto (pc' := 111) dX12_layRings_176 (by decide) ?_
              rw [← hsu]; exact ih (p + 1) _ _ (by omega) (by omega) (by omega) (mI_no hI hnl)
            · exfalso; omega
      · have hl : rLv g b th p := ⟨hbt, hz⟩
        rw [if_pos hl] at hsu
        refine S.iload_n (pc' := 112) dX12_layRings_111 rfl rfl rfl ?_
        refine S.iconst (pc' := 113) dX12_layRings_112 rfl ?_
        refine S.icmp_ge (pc' := 116) (tgt := 179) dX12_layRings_113 (by decide) rfl (by unfold fp_rng; omega) (by unfold fp_rng; omega) (fun h113 => ?_) (fun h113 => ?_)
        · exfalso; omega
        · refine S.iload_n (pc' := 117) dX12_layRings_116 rfl rfl rfl ?_
          refine S.iload_n (pc' := 118) dX12_layRings_117 rfl rfl rfl ?_
          refine S.ishr (pc' := 119) dX12_layRings_118 rfl (fp_shrv (by have := hb.1; omega) (by omega)) ?_
          refine S.iconst (pc' := 120) dX12_layRings_119 rfl ?_
          refine S.iand (pc' := 121) dX12_layRings_120 rfl (fp_iand hdn (by decide)) ?_
          refine S.iconst (pc' := 122) dX12_layRings_121 rfl ?_
          refine S.icmp_ne (pc' := 125) (tgt := 134) dX12_layRings_122 (by decide) rfl (by rw [hbit]; unfold fp_rng; omega) (by unfold fp_rng; omega) (fun h122 => ?_) (fun h122 => ?_)
          · exfalso; omega
          · refine S.aload_n (pc' := 126) dX12_layRings_125 rfl rfl rfl ?_
            refine S.iload_n (pc' := 127) dX12_layRings_126 rfl rfl rfl ?_
            refine S.iload_n (pc' := 128) dX12_layRings_127 rfl rfl rfl ?_
            refine S.callVe (pc' := 131) dX12_layRings_128 rfl cX12_321 (rk_mring hp hb hne hg hdN hrN) rfl L_177 (by decide) rfl (Nat.le_of_ble_eq_true rfl) ?_
            refine S.goto (pc' := 135) dX12_layRings_131 (by decide) ?_
            refine S.istore (pc' := 137) (LL' := [_, _, _, _, _]) dX12_layRings_135 rfl (by decide) rfl rfl ?_
            refine S.iload (pc' := 139) dX12_layRings_137 rfl rfl ?_
            refine S.if_eq (pc' := 142) (tgt := 173) dX12_layRings_139 (by decide) rfl hRr' (fun h139 => ?_) (fun h139 => ?_)
            · refine S.iinc (pc' := 176) (LL' := [_, _, _, _, _]) dX12_layRings_173 rfl (by decide) rfl rfl rfl ?_
              refine S.goto (pc' := 111) dX12_layRings_176 (by decide) ?_
              first | (exfalso; omega) | (refine ih (p + 1) _ _ (by omega) (by omega) (by omega) (mI_yes hI hp hl ?_); rw [fp_up_ne (by decide)]; exact hrN _ (hf p h0 (by omega)).1 (hf p h0 (by omega)).2)
            · refine S.iload_n (pc' := 143) dX12_layRings_142 rfl rfl rfl ?_
              refine S.iconst (pc' := 144) dX12_layRings_143 rfl ?_
              refine S.iload_n (pc' := 145) dX12_layRings_144 rfl rfl rfl ?_
              refine S.ishl (pc' := 146) dX12_layRings_145 rfl (fp_shl1 (by omega) (by omega)) ?_
              refine S.ior (pc' := 147) dX12_layRings_146 rfl (show _ = Int32.ofInt (rMk g b th (p + 1).toNat) by rw [hsu]; exact fp_ior hmn (Int.le_of_lt (Int.pow_pos (by decide)))) ?_
              refine S.istore_n (pc' := 148) (LL' := [_, _, _, _, _]) dX12_layRings_147 rfl (by decide) rfl rfl rfl ?_
              refine S.aload_n (pc' := 149) dX12_layRings_148 rfl rfl rfl ?_
              refine S.getR (pc' := 152) dX12_layRings_149 rfl fX12_75 L_177 rf_177_39 ?_
              refine S.iload_n (pc' := 153) dX12_layRings_152 rfl rfl rfl ?_
              refine S.iload (pc' := 155) dX12_layRings_153 rfl rfl ?_
              refine S.iast (pc' := 156) dX12_layRings_155 rfl L_198 (by omega) (by omega) ?_
              refine S.aload_n (pc' := 157) dX12_layRings_156 rfl rfl rfl ?_
              refine S.getR (pc' := 160) dX12_layRings_157 rfl fX12_72 L_177 rf_177_38 ?_
              refine S.iload_n (pc' := 161) dX12_layRings_160 rfl rfl rfl ?_
              refine S.aload_n (pc' := 162) dX12_layRings_161 rfl rfl rfl ?_
              refine S.getR (pc' := 165) dX12_layRings_162 rfl fX12_69 L_177 rf_177_37 ?_
              refine S.aload_n (pc' := 166) dX12_layRings_165 rfl rfl rfl ?_
              refine S.iload_n (pc' := 167) dX12_layRings_166 rfl rfl rfl ?_
              refine S.iload_n (pc' := 168) dX12_layRings_167 rfl rfl rfl ?_
              refine S.callVe (pc' := 171) dX12_layRings_168 rfl cX12_318 (rk_X12_likes (b := b) (th := th) hp hb hg (show mdIs (fp_up N 198 p.toNat (aRgC (rF g b th) p 4 p 0)) g from hdN) (fun q q0 q1 => by rw [fp_up_ne (by decide)]; exact hrN q q0 q1)) rfl L_177 (by decide) rfl (Nat.le_of_ble_eq_true rfl) ?_
              refine S.iald (pc' := 172) dX12_layRings_171 rfl L_196 (hf p h0 (by omega)).1 (by have := (hf p h0 (by omega)).2; unfold rF at this; omega) ?_
              refine S.iast (pc' := 173) dX12_layRings_172 rfl L_197 (by omega) (by omega) ?_
              refine S.iinc (pc' := 176) (LL' := [_, _, _, _, _]) dX12_layRings_173 rfl (by decide) rfl rfl rfl ?_
              refine S.goto (pc' := 111) dX12_layRings_176 (by decide) ?_
              first | (exfalso; omega) | (refine ih (p + 1) _ _ (by omega) (by omega) (by omega) (mI_yes hI hp hl ?_); rw [fp_up_ne (by decide)]; exact hrN _ (hf p h0 (by omega)).1 (hf p h0 (by omega)).2)
    · have hnl : ¬ rLv g b th p := fun q => hbt q.1
      rw [if_neg hbt] at hbit
      rw [if_neg hnl] at hsu
      refine S.iload_n (pc' := 112) dX12_layRings_111 rfl rfl rfl ?_
      refine S.iconst (pc' := 113) dX12_layRings_112 rfl ?_
      refine S.icmp_ge (pc' := 116) (tgt := 179) dX12_layRings_113 (by decide) rfl (by unfold fp_rng; omega) (by unfold fp_rng; omega) (fun h113 => ?_) (fun h113 => ?_)
      · exfalso; omega
      · refine S.iload_n (pc' := 117) dX12_layRings_116 rfl rfl rfl ?_
        refine S.iload_n (pc' := 118) dX12_layRings_117 rfl rfl rfl ?_
        refine S.ishr (pc' := 119) dX12_layRings_118 rfl (fp_shrv (by have := hb.1; omega) (by omega)) ?_
        refine S.iconst (pc' := 120) dX12_layRings_119 rfl ?_
        refine S.iand (pc' := 121) dX12_layRings_120 rfl (fp_iand hdn (by decide)) ?_
        refine S.iconst (pc' := 122) dX12_layRings_121 rfl ?_
        refine S.icmp_ne (pc' := 125) (tgt := 134) dX12_layRings_122 (by decide) rfl (by rw [hbit]; unfold fp_rng; omega) (by unfold fp_rng; omega) (fun h122 => ?_) (fun h122 => ?_)
        · refine S.iconst (pc' := 135) dX12_layRings_134 rfl ?_
          refine S.istore (pc' := 137) (LL' := [_, _, _, _, _]) dX12_layRings_135 rfl (by decide) rfl rfl ?_
          refine S.iload (pc' := 139) dX12_layRings_137 rfl rfl ?_
          refine S.if_eq (pc' := 142) (tgt := 173) dX12_layRings_139 (by decide) rfl (by unfold fp_rng; omega) (fun h139 => ?_) (fun h139 => ?_)
          · refine S.iinc (pc' := 176) (LL' := [_, _, _, _, _]) dX12_layRings_173 rfl (by decide) rfl rfl rfl ?_
            refine S.goto (pc' := 111) dX12_layRings_176 (by decide) ?_
            rw [← hsu]; exact ih (p + 1) _ _ (by omega) (by omega) (by omega) (mI_no hI hnl)
          · exfalso; omega
        · exfalso; omega
def mJ (b : Int → Int) (M N : fp_Mem) (x : rSt) : Prop := frR M N ∧ ∀ y : Int, 0 ≤ y → y < 4 → N 196 y.toNat = b y ∧ N 197 y.toNat = x.2.1 y ∧ N 198 y.toNat = x.2.2 y
theorem mtail {b : Int → Int} {th : Int} {Q : fp_Q} {o3 o4 : Option Value} (hb : bOk g b th) (K : fp_S l G 2 kX12_layRings 103 [some (rV G 177), some (iV (aOut th (rMk g b th 4))), some (iV (rMk g b th 4)), o3, o4] [] N Q) : fp_S l G 2 kX12_layRings 179 [some (rV G 177), some (iV th), some (iV (rMk g b th 4)), o3, o4] [] N Q := by
  have h16 : 0 ≤ rMk g b th 4 ∧ rMk g b th 4 < 16 := ⟨rMk_nn _ _ _ _, rMk_lt _ _ _ _ (Nat.le_refl _)⟩
  refine S.iload_n (pc' := 180) dX12_layRings_179 rfl rfl rfl ?_
  refine S.iload_n (pc' := 181) dX12_layRings_180 rfl rfl rfl ?_
  refine S.iconst (pc' := 182) dX12_layRings_181 rfl ?_
  refine S.ixor (pc' := 183) dX12_layRings_182 rfl (aOut_x h16) ?_
  refine S.iand (pc' := 184) dX12_layRings_183 rfl (aOut_a hb.1 h16) ?_
  refine S.istore_n (pc' := 185) (LL' := [_, _, _, _, _]) dX12_layRings_184 rfl (by decide) rfl rfl rfl ?_
  refine S.goto (pc' := 103) dX12_layRings_185 (by decide) ?_
  exact K
theorem mI_end {b : Int → Int} {x : rSt} {O : fp_Mem} (hJ : mJ b M N x) (hO : mI g b x.1 x.2.1 x.2.2 N O 4) : mJ b M O (rRd g b x) := by
  refine ⟨fun c hc => by rw [hO.1 c (by omega) (by omega)]; exact hJ.1 c hc, fun y y0 y1 => ?_⟩
  obtain ⟨e1, e2⟩ := hO.2 y y0 y1
  rw [hO.1 196 (by decide) (by decide), e1, e2]
  refine ⟨(hJ.2 y y0 y1).1, ?_, ?_⟩
  · show _ = if rLv g b x.1 y then b (rF g b x.1 y) else x.2.1 y
    by_cases e : rLv g b x.1 y
    · rw [if_pos ⟨y1, e⟩, if_pos e]
    · rw [if_neg (fun q => e q.2), if_neg e]
  · show _ = if rLv g b x.1 y then aRgC (rF g b x.1) y 4 y 0 else x.2.2 y
    by_cases e : rLv g b x.1 y
    · rw [if_pos ⟨y1, e⟩, if_pos e]
    · rw [if_neg (fun q => e q.2), if_neg e]
theorem mwhile {b : Int → Int} (hg : gOk g) (hd : mdIs M g) : ∀ (n : Nat) (x : rSt) (N : fp_Mem) (o2 o3 o4 : Option Value), rPc x.1.toNat ≤ n → bOk g b x.1 → mJ b M N x →
    fp_S l G 2 kX12_layRings 103 [some (rV G 177), some (iV x.1), o2, o3, o4] [] N (qV fun O => mJ b M O (rIt g b n x)) := by
  intro n
  induction n with
  | zero =>
    intro x N o2 o3 o4 hn hb hJ
    have hb1 := hb.1
    have h0 : x.1 = 0 := by
      have := rPc_0 (n := x.1.toNat) (by omega) (by omega)
      omega
    refine S.iload_n (pc' := 104) dX12_layRings_103 rfl rfl rfl ?_
    refine S.if_eq (pc' := 107) (tgt := 188) dX12_layRings_104 (by decide) rfl (by unfold fp_rng; omega) (fun h104 => ?_) (fun h104 => ?_)
    · refine S.vret dX12_layRings_188 rfl ?_
      exact hJ
    · exfalso; omega
  | succ n ih =>
    intro x N o2 o3 o4 hn hb hJ
    have hb1 := hb.1
    by_cases h0 : x.1 = 0
    · rw [rIt_0 h0]
      refine S.iload_n (pc' := 104) dX12_layRings_103 rfl rfl rfl ?_
      refine S.if_eq (pc' := 107) (tgt := 188) dX12_layRings_104 (by decide) rfl (by unfold fp_rng; omega) (fun h104 => ?_) (fun h104 => ?_)
      · refine S.vret dX12_layRings_188 rfl ?_
        exact hJ
      · exfalso; omega
    · have hpc := rRd_pc (g := g) (b := b) hb1 h0
      have h16 : 0 ≤ rMk g b x.1 4 ∧ rMk g b x.1 4 < 16 := ⟨rMk_nn _ _ _ _, rMk_lt _ _ _ _ (Nat.le_refl _)⟩
      refine S.iload_n (pc' := 104) dX12_layRings_103 rfl rfl rfl ?_
      refine S.if_eq (pc' := 107) (tgt := 188) dX12_layRings_104 (by decide) rfl (by unfold fp_rng; omega) (fun h104 => ?_) (fun h104 => ?_)
      · exfalso; omega
      · refine S.iconst (pc' := 108) dX12_layRings_107 rfl ?_
        refine S.istore_n (pc' := 109) (LL' := [_, _, _, _, _]) dX12_layRings_108 rfl (by decide) rfl rfl rfl ?_
        refine S.iconst (pc' := 110) dX12_layRings_109 rfl ?_
        refine S.istore_n (pc' := 111) (LL' := [_, _, _, _, _]) dX12_layRings_110 rfl (by decide) rfl rfl rfl ?_
        exact mround_p (M := N) (u := x.2.1) (w := x.2.2) hb h0 hg (frR.md hJ.1 hd) (fun q q0 q1 => (hJ.2 q q0 q1).1) (fun O o9 hO => mtail hb (ih (rRd g b x) O _ _ _ (by omega) (rRd_bOk hb) (mI_end hJ hO))) 4 0 _ _ (by omega) (by omega) (by omega) ⟨fun _ _ _ => rfl, fun y y0 y1 => by rw [if_neg (by omega), if_neg (by omega)]; exact (hJ.2 y y0 y1).2⟩
theorem rk_X12_layRings (hg : gOk g) (hd : mdIs M g) (hc : mpIs M 0 g pg) (hP : pgOk g pg) : fp_Ok l G 2 kX12_layRings [rV G 177] M (qV fun O => mJ (aLeast g pg) M O (rIt g (aLeast g pg) 4 (r0x g pg))) := by
  refine fp_Ok.of (r := 4) rfl (Nat.le_of_ble_eq_true rfl) rfl ?_
  refine S.iconst (pc' := 1) dX12_layRings_0 rfl ?_
  refine S.istore_n (pc' := 2) (LL' := [_, _, _, _, _]) dX12_layRings_1 rfl (by decide) rfl rfl rfl ?_
  refine S.iconst (pc' := 3) dX12_layRings_2 rfl ?_
  refine S.istore_n (pc' := 4) (LL' := [_, _, _, _, _]) dX12_layRings_3 rfl (by decide) rfl rfl rfl ?_
  exact mlay_i hg hd hc hP (fun N hN hy o3 => mwhile hg hd 4 (r0x g pg) N _ _ _ (rPc_le _) (aTh_bOk hg) ⟨hN, hy⟩) 4 0 _ _ (by omega) (by omega) (by omega) (fun _ _ => rfl) (fun y y0 y1 => absurd y1 (by omega))
theorem mm_ring {p : Int} (hc : MS M tp fl g pg vs nt im sh tn) (ho : OK g pg vs nt im sh) (hp : fp_rng p) : fp_Ok l G 3 kX12_ring [rV G 177, iV p] M (qI fun z N => z = aRing g pg p ∧ MS N tp fl g pg vs nt im sh tn ∧ frD M N) := by
  have hms := hc
  have ho' := ho
  obtain ⟨-, hd, hcl, -⟩ := hc
  obtain ⟨hg, hP, -⟩ := ho
  refine fp_Ok.of (r := 0) rfl (Nat.le_of_ble_eq_true rfl) rfl ?_
  unfold aRing
  refine S.iload_n (pc' := 1) dX12_ring_0 rfl rfl rfl ?_
  refine S.callSi (pc' := 4) dX12_ring_1 rfl cX12_228 (bk_X12_isOne) rfl (by decide) rfl (Nat.le_of_ble_eq_true rfl) (fun z1 M1 q1 => ?_)
  obtain ⟨b1, rfl⟩ := q1
  refine S.if_ne (pc' := 7) (tgt := 9) dX12_ring_4 (by decide) rfl (by unfold fp_rng; omega) (fun h4 => ?_) (fun h4 => ?_)
  · refine S.aload_n (pc' := 10) dX12_ring_9 rfl rfl rfl ?_
    refine S.callVv (pc' := 13) dX12_ring_10 rfl cX12_324 (rk_X12_layRings hg hd hcl hP) rfl L_177 (by decide) rfl (Nat.le_of_ble_eq_true rfl) (fun M10 q10 => ?_)
    refine S.aload_n (pc' := 14) dX12_ring_13 rfl rfl rfl ?_
    refine S.getR (pc' := 17) dX12_ring_14 rfl fX12_72 L_177 rf_177_38 ?_
    refine S.iload_n (pc' := 18) dX12_ring_17 rfl rfl rfl ?_
    refine S.iald (pc' := 19) dX12_ring_18 rfl L_197 (by omega) (by omega) ?_
    refine S.iret dX12_ring_19 rfl ?_
    refine ⟨?_, hms.trial ho' (fun c hc => q10.1 c (by omega)) (fun j hj => by rw [q10.1 178 (by omega)]), fun c hc => q10.1 c (by omega)⟩
    rw [(q10.2 p (by omega) (by omega)).2.1, if_pos (by omega)]
  · refine S.iconst (pc' := 8) dX12_ring_7 rfl ?_
    refine S.iret dX12_ring_8 rfl ?_
    exact ⟨by rw [if_neg (by omega)], hms, frD.refl _⟩
theorem mm_with {p : Int} (hc : MS M tp fl g pg vs nt im sh tn) (ho : OK g pg vs nt im sh) (hp : fp_rng p) : fp_Ok l G 3 kX12_with [rV G 177, iV p] M (qI fun z N => z = aWith g pg p ∧ MS N tp fl g pg vs nt im sh tn ∧ frD M N) := by
  have hms := hc
  have ho' := ho
  obtain ⟨-, hd, hcl, -⟩ := hc
  obtain ⟨hg, hP, -⟩ := ho
  refine fp_Ok.of (r := 0) rfl (Nat.le_of_ble_eq_true rfl) rfl ?_
  unfold aWith
  refine S.iload_n (pc' := 1) dX12_with_0 rfl rfl rfl ?_
  refine S.callSi (pc' := 4) dX12_with_1 rfl cX12_228 (bk_X12_isOne) rfl (by decide) rfl (Nat.le_of_ble_eq_true rfl) (fun z1 M1 q1 => ?_)
  obtain ⟨b1, rfl⟩ := q1
  refine S.if_ne (pc' := 7) (tgt := 9) dX12_with_4 (by decide) rfl (by unfold fp_rng; omega) (fun h4 => ?_) (fun h4 => ?_)
  · refine S.aload_n (pc' := 10) dX12_with_9 rfl rfl rfl ?_
    refine S.callVv (pc' := 13) dX12_with_10 rfl cX12_324 (rk_X12_layRings hg hd hcl hP) rfl L_177 (by decide) rfl (Nat.le_of_ble_eq_true rfl) (fun M10 q10 => ?_)
    refine S.aload_n (pc' := 14) dX12_with_13 rfl rfl rfl ?_
    refine S.getR (pc' := 17) dX12_with_14 rfl fX12_75 L_177 rf_177_39 ?_
    refine S.iload_n (pc' := 18) dX12_with_17 rfl rfl rfl ?_
    refine S.iald (pc' := 19) dX12_with_18 rfl L_198 (by omega) (by omega) ?_
    refine S.iret dX12_with_19 rfl ?_
    refine ⟨?_, hms.trial ho' (fun c hc => q10.1 c (by omega)) (fun j hj => by rw [q10.1 178 (by omega)]), fun c hc => q10.1 c (by omega)⟩
    rw [(q10.2 p (by omega) (by omega)).2.2, if_pos (by omega)]
  · refine S.iconst (pc' := 8) dX12_with_7 rfl ?_
    refine S.iret dX12_with_8 rfl ?_
    exact ⟨by rw [if_neg (by omega)], hms, frD.refl _⟩
end RN7
