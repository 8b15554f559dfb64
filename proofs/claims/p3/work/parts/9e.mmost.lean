/-! most: the reference, the call -/
def frU (M N : fp_Mem) : Prop := (∀ c, c ≠ 178 → c ≠ 189 → c ≠ 190 → c ≠ 191 → N c = M c) ∧ ∀ j : Nat, (j < 360 ∨ 410 ≤ j) → N 178 j = M 178 j
theorem frU.refl (M : fp_Mem) : frU M M := ⟨fun _ _ _ _ _ => rfl, fun _ _ => rfl⟩
theorem frU.trans {M N O : fp_Mem} (h1 : frU M N) (h2 : frU N O) : frU M O := ⟨fun c a1 a2 a3 a4 => (h2.1 c a1 a2 a3 a4).trans (h1.1 c a1 a2 a3 a4), fun j hj => (h2.2 j hj).trans (h1.2 j hj)⟩
theorem frV.u {M N : fp_Mem} (h : frV M N) : frU M N := ⟨fun c a1 a2 _ _ => h.1 c a1 a2, h.2⟩
theorem frU.md {M N : fp_Mem} {g : aGd} (h : frU M N) (hd : mdIs M g) : mdIs N g := by
  unfold mdIs md_ok at *
  rw [h.1 177 (by decide) (by decide) (by decide) (by decide), h.1 179 (by decide) (by decide) (by decide) (by decide), h.1 180 (by decide) (by decide) (by decide) (by decide), h.1 181 (by decide) (by decide) (by decide) (by decide)]
  exact hd
theorem frU.mv {M N : fp_Mem} {vs : List aVt} (h : frU M N) (hd : mvIs M vs) : mvIs N vs := hd.kept (fun j h1 h2 => h.2 j (by omega))
theorem frU.d {M N : fp_Mem} (h : frU M N) : frD M N := fun c hc => h.1 c (by omega) (by omega) (by omega) (by omega)
section MMF
variable {l : Launch} {G : fp_WG} {M N : fp_Mem} {tp : List Int} {fl : Int} {g : aGd} {pg : aPg} {vs : List aVt} {nt : List Int} {im : aIm} {sh : aSh} {tn : Int}
theorem MS.uu (h : MS M tp fl g pg vs nt im sh tn) (ho : OK g pg vs nt im sh) (e : frU M N) : MS N tp fl g pg vs nt im sh tn := h.trial ho (fun c hc => e.1 c (by omega) (by omega) (by omega) (by omega)) (fun j hj => e.2 j (by omega))
theorem mbest_loop {p w f v b1 : Int} {cs : Int → Int} {d3 : Int} {Q : fp_Q} (hg : gOk g) (hvo : vsOk g vs) (hp : 0 ≤ p ∧ p < 4) (hv : mvIs N vs) (hb : fp_rng b1) (hw : fp_rng v) (hlt : b1 < v) (hch : ∀ j : Int, 0 ≤ j → j < vs.length → N 190 j.toNat = cs j) (K : ∀ (O : fp_Mem) (o7 : Option Value), (∀ c, c ≠ 191 → O c = N c) → (∀ j : Int, 0 ≤ j → j < vs.length → O 191 j.toNat = aCs vs p cs vs.length j) → fp_S l G 7 kX12_most 199 [some (rV G 177), some (iV p), some (iV w), some (iV d3), some (iV b1), some (iV f), some (iV v), o7] [] O Q) : ∀ (r k : Nat) (O : fp_Mem), vs.length - k < r → k ≤ vs.length → (∀ c, c ≠ 191 → O c = N c) → (∀ j : Int, 0 ≤ j → j < k → O 191 j.toNat = aCs vs p cs vs.length j) →
    fp_S l G 7 kX12_most 148 [some (rV G 177), some (iV p), some (iV w), some (iV d3), some (iV b1), some (iV f), some (iV v), some (iV (k : Int))] [] O Q := by
  have hl := hv.2.1
  intro r
  induction r with
  | zero => intro k O hr; omega
  | succ r ih =>
    intro k O hr hk hf hR
    have vO : mvIs O vs := hv.kept (fun j _ _ => by rw [hf 178 (by decide)])
    have h95 : O 178 95 = (vs.length : Int) := vO.1
    by_cases he : k < vs.length
    · have cO := rk_X12_isOwn (l := l) (G := G) (p := p) vO hvo hg (by unfold fp_rng; omega) ⟨by omega, show (k : Int) < (vs.length : Int) by omega⟩
      have ea := aCs_at (vs := vs) (p := p) (cs := cs) vs.length (k : Int) (by omega) (by omega)
      have hst : ∀ z, z = aCs vs p cs vs.length (k : Int) → fp_S l G 7 kX12_most 192 [some (rV G 177), some (iV p), some (iV w), some (iV d3), some (iV b1), some (iV f), some (iV v), some (iV (k : Int))] [iV z, iV (k : Int), rV G 191] O Q := by
        intro z hz
        refine S.iast (pc' := 193) dX12_most_192 rfl L_191 (by omega) (by omega) ?_
        refine S.iinc (pc' := 196) (LL' := [_, _, _, _, _, _, _, _]) dX12_most_193 rfl (by decide) rfl rfl rfl ?_
        refine S.goto (pc' := 148) dX12_most_196 (by decide) ?_
        rw [show ((k : Int) + 1) = ((k + 1 : Nat) : Int) by omega]
        refine ih (k + 1) _ (by omega) (by omega) (fun c hc => by rw [fp_up_ne hc]; exact hf c hc) (fun j j0 j1 => ?_)
        rw [fp_up_at]
        by_cases e : j = (k : Int)
        · subst e; rw [fp_upf_at]; exact hz
        · rw [fp_upf_ne (by omega)]; exact hR j j0 (by omega)
      by_cases ho : aOwn vs p (k : Int) = true
      · rw [if_pos ho] at cO ea
        refine S.iload (pc' := 150) dX12_most_148 rfl rfl ?_
        refine S.aload_n (pc' := 151) dX12_most_150 rfl rfl rfl ?_
        refine S.callVe (pc' := 154) dX12_most_151 rfl cX12_225 ok_X12_visits rfl L_177 (by decide) rfl (Nat.le_of_ble_eq_true rfl) ?_
        rw [h95]
        refine S.icmp_ge (pc' := 157) (tgt := 199) dX12_most_154 (by decide) rfl (by unfold fp_rng; omega) (by unfold fp_rng; omega) (fun h154 => ?_) (fun h154 => ?_)
        · exfalso; omega
        · refine S.iload (pc' := 159) dX12_most_157 rfl rfl ?_
          refine S.iload (pc' := 161) dX12_most_159 rfl rfl ?_
          refine S.icmp_le (pc' := 164) (tgt := 199) dX12_most_161 (by decide) rfl hw hb (fun h161 => ?_) (fun h161 => ?_)
          · exfalso; omega
          · refine S.aload_n (pc' := 165) dX12_most_164 rfl rfl rfl ?_
            refine S.getR (pc' := 168) dX12_most_165 rfl fX12_53 L_177 rf_177_31 ?_
            refine S.iload (pc' := 170) dX12_most_168 rfl rfl ?_
            refine S.aload_n (pc' := 171) dX12_most_170 rfl rfl rfl ?_
            refine S.iload_n (pc' := 172) dX12_most_171 rfl rfl rfl ?_
            refine S.iload (pc' := 174) dX12_most_172 rfl rfl ?_
            refine S.callVe (pc' := 177) dX12_most_174 rfl cX12_280 cO rfl L_177 (by decide) rfl (Nat.le_of_ble_eq_true rfl) ?_
            refine S.if_eq (pc' := 180) (tgt := 190) dX12_most_177 (by decide) rfl (by unfold fp_rng; omega) (fun h177 => ?_) (fun h177 => ?_)
            · exact absurd h177 (by decide)
            · refine S.aload_n (pc' := 181) dX12_most_180 rfl rfl rfl ?_
              refine S.getR (pc' := 184) dX12_most_181 rfl fX12_50 L_177 rf_177_30 ?_
              refine S.iload (pc' := 186) dX12_most_184 rfl rfl ?_
              refine S.iald (pc' := 187) dX12_most_186 rfl L_190 (by omega) (by omega) ?_
              refine S.goto (pc' := 192) dX12_most_187 (by decide) ?_
              refine hst _ ?_
              rw [ea, hf 190 (by decide)]
              exact hch _ (by omega) (by omega)
      · rw [if_neg ho] at cO ea
        refine S.iload (pc' := 150) dX12_most_148 rfl rfl ?_
        refine S.aload_n (pc' := 151) dX12_most_150 rfl rfl rfl ?_
        refine S.callVe (pc' := 154) dX12_most_151 rfl cX12_225 ok_X12_visits rfl L_177 (by decide) rfl (Nat.le_of_ble_eq_true rfl) ?_
        rw [h95]
        refine S.icmp_ge (pc' := 157) (tgt := 199) dX12_most_154 (by decide) rfl (by unfold fp_rng; omega) (by unfold fp_rng; omega) (fun h154 => ?_) (fun h154 => ?_)
        · exfalso; omega
        · refine S.iload (pc' := 159) dX12_most_157 rfl rfl ?_
          refine S.iload (pc' := 161) dX12_most_159 rfl rfl ?_
          refine S.icmp_le (pc' := 164) (tgt := 199) dX12_most_161 (by decide) rfl hw hb (fun h161 => ?_) (fun h161 => ?_)
          · exfalso; omega
          · refine S.aload_n (pc' := 165) dX12_most_164 rfl rfl rfl ?_
            refine S.getR (pc' := 168) dX12_most_165 rfl fX12_53 L_177 rf_177_31 ?_
            refine S.iload (pc' := 170) dX12_most_168 rfl rfl ?_
            refine S.aload_n (pc' := 171) dX12_most_170 rfl rfl rfl ?_
            refine S.iload_n (pc' := 172) dX12_most_171 rfl rfl rfl ?_
            refine S.iload (pc' := 174) dX12_most_172 rfl rfl ?_
            refine S.callVe (pc' := 177) dX12_most_174 rfl cX12_280 cO rfl L_177 (by decide) rfl (Nat.le_of_ble_eq_true rfl) ?_
            refine S.if_eq (pc' := 180) (tgt := 190) dX12_most_177 (by decide) rfl (by unfold fp_rng; omega) (fun h177 => ?_) (fun h177 => ?_)
            · refine S.bipush (pc' := 192) dX12_most_190 rfl (by decide) ?_
              exact hst _ ea.symm
            · exact absurd rfl h177
    · refine S.iload (pc' := 150) dX12_most_148 rfl rfl ?_
      refine S.aload_n (pc' := 151) dX12_most_150 rfl rfl rfl ?_
      refine S.callVe (pc' := 154) dX12_most_151 rfl cX12_225 ok_X12_visits rfl L_177 (by decide) rfl (Nat.le_of_ble_eq_true rfl) ?_
      rw [h95]
      refine S.icmp_ge (pc' := 157) (tgt := 199) dX12_most_154 (by decide) rfl (by unfold fp_rng; omega) (by unfold fp_rng; omega) (fun h154 => ?_) (fun h154 => ?_)
      · exact K O _ hf (fun j j0 j1 => hR j j0 (by omega))
      · exfalso; omega
theorem mmost_loop {p w : Int} {d3 : Int} (hg : gOk g) (hP : pgOk g pg) (hvo : vsOk g vs) (hp : 0 ≤ p ∧ p < 4) (hL : 0 < g.2.1) (hw : w = 0 ∨ (10 ≤ w ∧ w < 10 + vs.length)) (hv : mvIs M vs) (hd : mdIs M g) : ∀ (r : Nat) (cs : Int → Int) (b : moT) (f : Int) (N : fp_Mem) (o6 o7 : Option Value), nxM vs p g.2.1 cs vs.length < r → (∀ j, 0 ≤ cs j ∧ cs j < g.2.1) → 0 ≤ f ∧ f ≤ vs.length → frU M N → (∀ j : Int, 0 ≤ j → j < vs.length → N 190 j.toNat = cs j) → (∀ j : Int, 0 ≤ j → j ≤ f → mqRow (N 189) (40 * j) g (aPgs g vs p pg cs j.toNat)) → (b.1 ≠ -4 → ∀ j : Int, 0 ≤ j → j < vs.length → N 191 j.toNat = b.2 j) → (-4 ≤ b.1 ∧ b.1 ≤ 200) → moX g vs p pg cs vs.length (moU (aWorth g (aPgs g vs p pg cs vs.length) p) (aCs vs p cs vs.length) b) = aMo g pg vs p →
    fp_S l G 7 kX12_most 121 [some (rV G 177), some (iV p), some (iV w), some (iV d3), some (iV b.1), some (iV f), o6, o7] [] N (qI fun z O => z = (if w = 0 then (aMo g pg vs p).1 else (aMo g pg vs p).2 (w - 10)) ∧ frU M O) := by
  have hl := hv.2.1
  have hg2 := hg.2.1
  have hup := (moC_up (vs := vs) hg hp hL vs.length 0 pg (fun _ => -4) (-4, fun _ => 0)).1
  have hup2 : (aMo g pg vs p).1 ≠ -4 := by unfold aMo; omega
  intro r
  induction r with
  | zero => intro cs b f N o6 o7 hr; omega
  | succ r ih =>
    intro cs b f N o6 o7 hr hcs hf hfr hch hlv hbs hb hX
    have vN := hfr.mv hv
    have dN := hfr.md hd
    have hPl := aPgs_ok (p := p) hg hvo hcs hP vs.length (Nat.le_refl _)
    have hW := aWorth_in (pg := aPgs g vs p pg cs vs.length) hg hp
    generalize hWe : aWorth g (aPgs g vs p pg cs vs.length) p = W at *
    have hEnd : ∀ (O : fp_Mem) (b' : moT) (o6 o7 : Option Value), frU M O → b' = aMo g pg vs p → (b'.1 ≠ -4 → ∀ j : Int, 0 ≤ j → j < vs.length → O 191 j.toNat = b'.2 j) → fp_S l G 7 kX12_most 121 [some (rV G 177), some (iV p), some (iV w), some (iV d3), some (iV b'.1), some (iV (-4)), o6, o7] [] O (qI fun z O => z = (if w = 0 then (aMo g pg vs p).1 else (aMo g pg vs p).2 (w - 10)) ∧ frU M O) := by
      intro O b' o6 o7 fO eb rb
      subst eb
      refine S.iload (pc' := 123) dX12_most_121 rfl rfl ?_
      refine S.bipush (pc' := 125) dX12_most_123 rfl (by decide) ?_
      refine S.icmp_eq (pc' := 128) (tgt := 225) dX12_most_125 (by decide) rfl (by unfold fp_rng; omega) (by unfold fp_rng; omega) (fun h125 => ?_) (fun h125 => ?_)
      · refine S.iload_n (pc' := 226) dX12_most_225 rfl rfl rfl ?_
        refine S.if_ne (pc' := 229) (tgt := 234) dX12_most_226 (by decide) rfl (by unfold fp_rng; omega) (fun h226 => ?_) (fun h226 => ?_)
        · refine S.aload_n (pc' := 235) dX12_most_234 rfl rfl rfl ?_
          refine S.getR (pc' := 238) dX12_most_235 rfl fX12_53 L_177 rf_177_31 ?_
          refine S.iload_n (pc' := 239) dX12_most_238 rfl rfl rfl ?_
          refine S.bipush (pc' := 241) dX12_most_239 rfl (by decide) ?_
          refine S.isub (pc' := 242) dX12_most_241 rfl ?_
          refine S.iald (pc' := 243) dX12_most_242 rfl L_191 (by omega) (by omega) ?_
          refine S.iret dX12_most_243 rfl ?_
          first
          | exact ⟨by rw [if_pos (by omega)], fO⟩
          | exact ⟨by rw [if_neg (by omega)]; exact rb hup2 (w - 10) (by omega) (by omega), fO⟩
        · refine S.iload (pc' := 231) dX12_most_229 rfl rfl ?_
          refine S.goto (pc' := 243) dX12_most_231 (by decide) ?_
          refine S.iret dX12_most_243 rfl ?_
          first
          | exact ⟨by rw [if_pos (by omega)], fO⟩
          | exact ⟨by rw [if_neg (by omega)]; exact rb hup2 (w - 10) (by omega) (by omega), fO⟩
      · exfalso; omega
    have h213 : ∀ (N2 : fp_Mem) (o7 : Option Value), frU M N2 → (∀ j : Int, 0 ≤ j → j < vs.length → N2 190 j.toNat = cs j) → (∀ j : Int, 0 ≤ j → j < vs.length → mqRow (N2 189) (40 * j) g (aPgs g vs p pg cs j.toNat)) → ((moU W (aCs vs p cs vs.length) b).1 ≠ -4 → ∀ j : Int, 0 ≤ j → j < vs.length → N2 191 j.toNat = (moU W (aCs vs p cs vs.length) b).2 j) → fp_S l G 7 kX12_most 213 [some (rV G 177), some (iV p), some (iV w), some (iV d3), some (iV b.1), some (iV f), some (iV W), o7] [iV (moU W (aCs vs p cs vs.length) b).1] N2 (qI fun z O => z = (if w = 0 then (aMo g pg vs p).1 else (aMo g pg vs p).2 (w - 10)) ∧ frU M O) := by
      intro N2 o7 f2 c2 l2 b2
      have hbr : -4 ≤ (moU W (aCs vs p cs vs.length) b).1 ∧ (moU W (aCs vs p cs vs.length) b).1 ≤ 200 := by
        unfold moU; split
        · show -4 ≤ W ∧ W ≤ 200; omega
        · exact hb
      refine S.istore (pc' := 215) (LL' := [_, _, _, _, _, _, _, _]) dX12_most_213 rfl (by decide) rfl rfl ?_
      refine S.aload_n (pc' := 216) dX12_most_215 rfl rfl rfl ?_
      refine S.iload_n (pc' := 217) dX12_most_216 rfl rfl rfl ?_
      refine S.callVi (pc' := 220) dX12_most_217 rfl cX12_286 (rk_X12_nextLines hg hvo (by unfold fp_rng; omega) (f2.mv hv) (f2.md hd) hcs c2) rfl L_177 (by decide) rfl (Nat.le_of_ble_eq_true rfl) (fun z217 M217 q217 => ?_)
      obtain ⟨z1, c3, f3⟩ := q217
      subst z1
      have f4 : frU M M217 := f2.trans ⟨fun c _ _ h9 _ => f3 c h9, fun j _ => by rw [f3 178 (by decide)]⟩
      refine S.istore (pc' := 222) (LL' := [_, _, _, _, _, _, _, _]) dX12_most_220 rfl (by decide) rfl rfl ?_
      refine S.goto (pc' := 121) dX12_most_222 (by decide) ?_
      by_cases hn : (nxD vs p g.2.1 vs.length cs).1 = -4
      · rw [hn]
        exact hEnd _ _ _ _ f4 (by rw [← hX, moX_none _ _ hn]) (fun q j j0 j1 => by rw [f3 191 (by decide)]; exact b2 q j j0 j1)
      · have hin := nxD_in (vs := vs) (p := p) (L := g.2.1) vs.length cs
        refine ih _ (moU W (aCs vs p cs vs.length) b) _ _ _ _ (by have := nxM_lt (vs := vs) (p := p) ⟨hL, hg2.2⟩ vs.length cs hcs hn; omega) (nxD_rng hL vs.length cs hcs) (by omega) f4 c3 (fun j j0 j1 => ?_) (fun q j j0 j1 => by rw [f3 191 (by decide)]; exact b2 q j j0 j1) hbr (by rw [← moX_step hL hn]; exact hX)
        rw [f3 189 (by decide), ← aPgs_congr (cs := cs) j.toNat (fun i i0 i1 => (nxD_lo vs.length cs i i0 (by omega)).symm)]
        exact l2 j j0 (by omega)
    have h199 : ∀ (N2 : fp_Mem) (o7 : Option Value), frU M N2 → (∀ j : Int, 0 ≤ j → j < vs.length → N2 190 j.toNat = cs j) → (∀ j : Int, 0 ≤ j → j < vs.length → mqRow (N2 189) (40 * j) g (aPgs g vs p pg cs j.toNat)) → ((moU W (aCs vs p cs vs.length) b).1 ≠ -4 → ∀ j : Int, 0 ≤ j → j < vs.length → N2 191 j.toNat = (moU W (aCs vs p cs vs.length) b).2 j) → fp_S l G 7 kX12_most 199 [some (rV G 177), some (iV p), some (iV w), some (iV d3), some (iV b.1), some (iV f), some (iV W), o7] [] N2 (qI fun z O => z = (if w = 0 then (aMo g pg vs p).1 else (aMo g pg vs p).2 (w - 10)) ∧ frU M O) := by
      intro N2 o7 f2 c2 l2 b2
      have h3 := h213 N2 o7 f2 c2 l2 b2
      unfold moU at h3
      by_cases hlt : b.1 < W
      · rw [if_pos hlt] at h3
        refine S.iload (pc' := 201) dX12_most_199 rfl rfl ?_
        refine S.iload (pc' := 203) dX12_most_201 rfl rfl ?_
        refine S.icmp_le (pc' := 206) (tgt := 211) dX12_most_203 (by decide) rfl (by unfold fp_rng; omega) (by unfold fp_rng; omega) (fun h203 => ?_) (fun h203 => ?_)
        · exfalso; omega
        · refine S.iload (pc' := 208) dX12_most_206 rfl rfl ?_
          refine S.goto (pc' := 213) dX12_most_208 (by decide) ?_
          exact h3
      · rw [if_neg hlt] at h3
        refine S.iload (pc' := 201) dX12_most_199 rfl rfl ?_
        refine S.iload (pc' := 203) dX12_most_201 rfl rfl ?_
        refine S.icmp_le (pc' := 206) (tgt := 211) dX12_most_203 (by decide) rfl (by unfold fp_rng; omega) (by unfold fp_rng; omega) (fun h203 => ?_) (fun h203 => ?_)
        · refine S.iload (pc' := 213) dX12_most_211 rfl rfl ?_
          exact h3
        · exfalso; omega
    have h148 : ∀ (N1 : fp_Mem), frU M N1 → (∀ j : Int, 0 ≤ j → j < vs.length → N1 190 j.toNat = cs j) → (∀ j : Int, 0 ≤ j → j < vs.length → mqRow (N1 189) (40 * j) g (aPgs g vs p pg cs j.toNat)) → (b.1 ≠ -4 → ∀ j : Int, 0 ≤ j → j < vs.length → N1 191 j.toNat = b.2 j) → fp_S l G 7 kX12_most 148 [some (rV G 177), some (iV p), some (iV w), some (iV d3), some (iV b.1), some (iV f), some (iV W), some (iV 0)] [] N1 (qI fun z O => z = (if w = 0 then (aMo g pg vs p).1 else (aMo g pg vs p).2 (w - 10)) ∧ frU M O) := by
      intro N1 f1 c1 l1 r1
      by_cases hlt : b.1 < W
      · refine mbest_loop (cs := cs) hg hvo hp (f1.mv hv) (by unfold fp_rng; omega) (by unfold fp_rng; omega) hlt c1 (fun O o7 fO rO => ?_) (vs.length + 1) 0 N1 (by omega) (by omega) (fun _ _ => rfl) (fun j j0 j1 => by omega)
        refine h199 O o7 (f1.trans ⟨fun c _ _ _ h9 => fO c h9, fun j _ => by rw [fO 178 (by decide)]⟩) (fun j j0 j1 => by rw [fO 190 (by decide)]; exact c1 j j0 j1) (fun j j0 j1 => by rw [fO 189 (by decide)]; exact l1 j j0 j1) (fun _ j j0 j1 => ?_)
        rw [rO j j0 j1]
        unfold moU
        rw [if_pos hlt]
      · have h95 : N1 178 95 = (vs.length : Int) := (f1.mv hv).1
        have h9 := fun o7 => h199 N1 o7 f1 c1 l1 (by unfold moU; rw [if_neg hlt]; exact r1)
        refine S.iload (pc' := 150) dX12_most_148 rfl rfl ?_
        refine S.aload_n (pc' := 151) dX12_most_150 rfl rfl rfl ?_
        refine S.callVe (pc' := 154) dX12_most_151 rfl cX12_225 ok_X12_visits rfl L_177 (by decide) rfl (Nat.le_of_ble_eq_true rfl) ?_
        rw [h95]
        refine S.icmp_ge (pc' := 157) (tgt := 199) dX12_most_154 (by decide) rfl (by unfold fp_rng; omega) (by unfold fp_rng; omega) (fun h154 => ?_) (fun h154 => ?_)
        · exact h9 _
        · refine S.iload (pc' := 159) dX12_most_157 rfl rfl ?_
          refine S.iload (pc' := 161) dX12_most_159 rfl rfl ?_
          refine S.icmp_le (pc' := 164) (tgt := 199) dX12_most_161 (by decide) rfl (by unfold fp_rng; omega) (by unfold fp_rng; omega) (fun h161 => ?_) (fun h161 => ?_)
          · exact h9 _
          · exfalso; omega
    refine S.iload (pc' := 123) dX12_most_121 rfl rfl ?_
    refine S.bipush (pc' := 125) dX12_most_123 rfl (by decide) ?_
    refine S.icmp_eq (pc' := 128) (tgt := 225) dX12_most_125 (by decide) rfl (by unfold fp_rng; omega) (by unfold fp_rng; omega) (fun h125 => ?_) (fun h125 => ?_)
    · exfalso; omega
    · refine S.aload_n (pc' := 129) dX12_most_128 rfl rfl rfl ?_
      refine S.iload_n (pc' := 130) dX12_most_129 rfl rfl rfl ?_
      refine S.iload (pc' := 132) dX12_most_130 rfl rfl ?_
      refine S.callVv (pc' := 135) dX12_most_132 rfl cX12_283 (rk_X12_runsFrom hg hP hvo hp hcs vN dN hch hf hlv) rfl L_177 (by decide) rfl (Nat.le_of_ble_eq_true rfl) (fun M132 q132 => ?_)
      obtain ⟨f1, ⟨q, hq⟩, l1⟩ := q132
      have f2 : frU M M132 := hfr.trans f1.u
      have cW : fp_Ok l G 0 kX12_worthAt [rV G 177, iV 360, iV p] M132 (qE W M132) := by
        rw [← hWe]
        exact rk_X12_worthAt (pg := ((aPgs g vs p pg cs vs.length).1, q, (aPgs g vs p pg cs vs.length).2.2)) (by omega) hq (f1.md dN) hPl hg hp
      refine S.aload_n (pc' := 136) dX12_most_135 rfl rfl rfl ?_
      refine S.sipush (pc' := 139) dX12_most_136 rfl (by decide) ?_
      refine S.iload_n (pc' := 140) dX12_most_139 rfl rfl rfl ?_
      refine S.callVe (pc' := 143) dX12_most_140 rfl cX12_234 cW rfl L_177 (by decide) rfl (Nat.le_of_ble_eq_true rfl) ?_
      refine S.istore (pc' := 145) (LL' := [_, _, _, _, _, _, _, _]) dX12_most_143 rfl (by decide) rfl rfl ?_
      refine S.iconst (pc' := 146) dX12_most_145 rfl ?_
      refine S.istore (pc' := 148) (LL' := [_, _, _, _, _, _, _, _]) dX12_most_146 rfl (by decide) rfl rfl ?_
      have c1 : ∀ j : Int, 0 ≤ j → j < vs.length → M132 190 j.toNat = cs j := fun j j0 j1 => by rw [f1.1 190 (by decide) (by decide)]; exact hch j j0 j1
      exact h148 M132 f2 c1 l1 (fun q j j0 j1 => by rw [f1.1 191 (by decide) (by decide)]; exact hbs q j j0 j1)
theorem minit_loop {p w : Int} {Q : fp_Q} (hg : gOk g) (hvo : vsOk g vs) (hp : 0 ≤ p ∧ p < 4) (hv : mvIs M vs) (K : ∀ (N : fp_Mem), (∀ c, c ≠ 190 → N c = M c) → (∀ j : Nat, j < 12 → N 190 j = 0) → fp_S l G 7 kX12_most 85 [some (rV G 177), some (iV p), some (iV w), some (iV (aDrs vs p vs.length)), some (iV 12), none, none, none] [] N Q) : ∀ (r k : Nat) (N : fp_Mem), 12 - k < r → k ≤ 12 → (∀ c, c ≠ 190 → N c = M c) → (∀ j : Nat, j < k → N 190 j = 0) →
    fp_S l G 7 kX12_most 37 [some (rV G 177), some (iV p), some (iV w), some (iV (aDrs vs p (min k vs.length))), some (iV (k : Int)), none, none, none] [] N Q := by
  have hl := hv.2.1
  intro r
  induction r with
  | zero => intro k N hr; omega
  | succ r ih =>
    intro k N hr hk hf hR
    by_cases he : k < 12
    · have f2 : ∀ c, c ≠ 190 → fp_up N 190 ((k : Int)).toNat 0 c = M c := fun c hc => by rw [fp_up_ne hc]; exact hf c hc
      have r2 : ∀ j : Nat, j < k + 1 → fp_up N 190 ((k : Int)).toNat 0 190 j = 0 := fun j hj => by
        rw [fp_up_at, Int.toNat_natCast]
        by_cases e : j = k
        · subst e; rw [fp_upf_at]
        · rw [fp_upf_ne e]; exact hR j (by omega)
      have vN : mvIs (fp_up N 190 ((k : Int)).toNat 0) vs := hv.kept (fun j _ _ => by rw [f2 178 (by decide)])
      have h95 : fp_up N 190 ((k : Int)).toNat 0 178 95 = (vs.length : Int) := vN.1
      have hst : ∀ z, aDrs vs p (min k vs.length) + z = aDrs vs p (min (k + 1) vs.length) → fp_S l G 7 kX12_most 77 [some (rV G 177), some (iV p), some (iV w), some (iV (aDrs vs p (min k vs.length))), some (iV (k : Int)), none, none, none] [iV z, iV (aDrs vs p (min k vs.length))] (fp_up N 190 ((k : Int)).toNat 0) Q := by
        intro z hz
        refine S.iadd (pc' := 78) dX12_most_77 rfl ?_
        refine S.istore_n (pc' := 79) (LL' := [_, _, _, _, _, _, _, _]) dX12_most_78 rfl (by decide) rfl rfl rfl ?_
        refine S.iinc (pc' := 82) (LL' := [_, _, _, _, _, _, _, _]) dX12_most_79 rfl (by decide) rfl rfl rfl ?_
        refine S.goto (pc' := 37) dX12_most_82 (by decide) ?_
        rw [hz, show ((k : Int) + 1) = ((k + 1 : Nat) : Int) by omega]
        exact ih (k + 1) _ (by omega) (by omega) f2 r2
      by_cases hlt : k < vs.length
      · have cO := rk_X12_isOwn (l := l) (G := G) (p := p) vN hvo hg (by unfold fp_rng; omega) ⟨by omega, show (k : Int) < (vs.length : Int) by omega⟩
        have es : aDrs vs p (min (k + 1) vs.length) = aDrs vs p (min k vs.length) + if aOwn vs p (k : Int) = true then 1 else 0 := by
          rw [show min (k + 1) vs.length = k + 1 by omega, show min k vs.length = k by omega]; rfl
        by_cases ho : aOwn vs p (k : Int) = true
        · rw [if_pos ho] at cO es
          refine S.iload (pc' := 39) dX12_most_37 rfl rfl ?_
          refine S.bipush (pc' := 41) dX12_most_39 rfl (by decide) ?_
          refine S.icmp_ge (pc' := 44) (tgt := 85) dX12_most_41 (by decide) rfl (by unfold fp_rng; omega) (by unfold fp_rng; omega) (fun h41 => ?_) (fun h41 => ?_)
          · exfalso; omega
          · refine S.aload_n (pc' := 45) dX12_most_44 rfl rfl rfl ?_
            refine S.getR (pc' := 48) dX12_most_45 rfl fX12_50 L_177 rf_177_30 ?_
            refine S.iload (pc' := 50) dX12_most_48 rfl rfl ?_
            refine S.iconst (pc' := 51) dX12_most_50 rfl ?_
            refine S.iast (pc' := 52) dX12_most_51 rfl L_190 (by omega) (by omega) ?_
            refine S.iload_n (pc' := 53) dX12_most_52 rfl rfl rfl ?_
            refine S.iload (pc' := 55) dX12_most_53 rfl rfl ?_
            refine S.aload_n (pc' := 56) dX12_most_55 rfl rfl rfl ?_
            refine S.callVe (pc' := 59) dX12_most_56 rfl cX12_225 ok_X12_visits rfl L_177 (by decide) rfl (Nat.le_of_ble_eq_true rfl) ?_
            rw [h95]
            refine S.icmp_ge (pc' := 62) (tgt := 76) dX12_most_59 (by decide) rfl (by unfold fp_rng; omega) (by unfold fp_rng; omega) (fun h59 => ?_) (fun h59 => ?_)
            · first
              | (exfalso; omega)
              | exact absurd h69 (by decide)
            · refine S.aload_n (pc' := 63) dX12_most_62 rfl rfl rfl ?_
              refine S.iload_n (pc' := 64) dX12_most_63 rfl rfl rfl ?_
              refine S.iload (pc' := 66) dX12_most_64 rfl rfl ?_
              refine S.callVe (pc' := 69) dX12_most_66 rfl cX12_280 cO rfl L_177 (by decide) rfl (Nat.le_of_ble_eq_true rfl) ?_
              refine S.if_eq (pc' := 72) (tgt := 76) dX12_most_69 (by decide) rfl (by unfold fp_rng; omega) (fun h69 => ?_) (fun h69 => ?_)
              · first
                | (exfalso; omega)
                | exact absurd h69 (by decide)
              · refine S.iconst (pc' := 73) dX12_most_72 rfl ?_
                refine S.goto (pc' := 77) dX12_most_73 (by decide) ?_
                exact hst _ es.symm
        · rw [if_neg ho] at cO es
          refine S.iload (pc' := 39) dX12_most_37 rfl rfl ?_
          refine S.bipush (pc' := 41) dX12_most_39 rfl (by decide) ?_
          refine S.icmp_ge (pc' := 44) (tgt := 85) dX12_most_41 (by decide) rfl (by unfold fp_rng; omega) (by unfold fp_rng; omega) (fun h41 => ?_) (fun h41 => ?_)
          · exfalso; omega
          · refine S.aload_n (pc' := 45) dX12_most_44 rfl rfl rfl ?_
            refine S.getR (pc' := 48) dX12_most_45 rfl fX12_50 L_177 rf_177_30 ?_
            refine S.iload (pc' := 50) dX12_most_48 rfl rfl ?_
            refine S.iconst (pc' := 51) dX12_most_50 rfl ?_
            refine S.iast (pc' := 52) dX12_most_51 rfl L_190 (by omega) (by omega) ?_
            refine S.iload_n (pc' := 53) dX12_most_52 rfl rfl rfl ?_
            refine S.iload (pc' := 55) dX12_most_53 rfl rfl ?_
            refine S.aload_n (pc' := 56) dX12_most_55 rfl rfl rfl ?_
            refine S.callVe (pc' := 59) dX12_most_56 rfl cX12_225 ok_X12_visits rfl L_177 (by decide) rfl (Nat.le_of_ble_eq_true rfl) ?_
            rw [h95]
            refine S.icmp_ge (pc' := 62) (tgt := 76) dX12_most_59 (by decide) rfl (by unfold fp_rng; omega) (by unfold fp_rng; omega) (fun h59 => ?_) (fun h59 => ?_)
            · refine S.iconst (pc' := 77) dX12_most_76 rfl ?_
              first
              | exact hst _ es.symm
              | (exfalso; omega)
            · refine S.aload_n (pc' := 63) dX12_most_62 rfl rfl rfl ?_
              refine S.iload_n (pc' := 64) dX12_most_63 rfl rfl rfl ?_
              refine S.iload (pc' := 66) dX12_most_64 rfl rfl ?_
              refine S.callVe (pc' := 69) dX12_most_66 rfl cX12_280 cO rfl L_177 (by decide) rfl (Nat.le_of_ble_eq_true rfl) ?_
              refine S.if_eq (pc' := 72) (tgt := 76) dX12_most_69 (by decide) rfl (by unfold fp_rng; omega) (fun h69 => ?_) (fun h69 => ?_)
              · refine S.iconst (pc' := 77) dX12_most_76 rfl ?_
                first
                | exact hst _ es.symm
                | (exfalso; omega)
              · exact absurd rfl h69
      · refine S.iload (pc' := 39) dX12_most_37 rfl rfl ?_
        refine S.bipush (pc' := 41) dX12_most_39 rfl (by decide) ?_
        refine S.icmp_ge (pc' := 44) (tgt := 85) dX12_most_41 (by decide) rfl (by unfold fp_rng; omega) (by unfold fp_rng; omega) (fun h41 => ?_) (fun h41 => ?_)
        · exfalso; omega
        · refine S.aload_n (pc' := 45) dX12_most_44 rfl rfl rfl ?_
          refine S.getR (pc' := 48) dX12_most_45 rfl fX12_50 L_177 rf_177_30 ?_
          refine S.iload (pc' := 50) dX12_most_48 rfl rfl ?_
          refine S.iconst (pc' := 51) dX12_most_50 rfl ?_
          refine S.iast (pc' := 52) dX12_most_51 rfl L_190 (by omega) (by omega) ?_
          refine S.iload_n (pc' := 53) dX12_most_52 rfl rfl rfl ?_
          refine S.iload (pc' := 55) dX12_most_53 rfl rfl ?_
          refine S.aload_n (pc' := 56) dX12_most_55 rfl rfl rfl ?_
          refine S.callVe (pc' := 59) dX12_most_56 rfl cX12_225 ok_X12_visits rfl L_177 (by decide) rfl (Nat.le_of_ble_eq_true rfl) ?_
          rw [h95]
          refine S.icmp_ge (pc' := 62) (tgt := 76) dX12_most_59 (by decide) rfl (by unfold fp_rng; omega) (by unfold fp_rng; omega) (fun h59 => ?_) (fun h59 => ?_)
          · refine S.iconst (pc' := 77) dX12_most_76 rfl ?_
            exact hst _ (by rw [Int.add_zero]; congr 1; omega)
          · exfalso; omega
    · have e : k = 12 := by omega
      subst e
      rw [show min 12 vs.length = vs.length by omega]
      refine S.iload (pc' := 39) dX12_most_37 rfl rfl ?_
      refine S.bipush (pc' := 41) dX12_most_39 rfl (by decide) ?_
      refine S.icmp_ge (pc' := 44) (tgt := 85) dX12_most_41 (by decide) rfl (by unfold fp_rng; omega) (by unfold fp_rng; omega) (fun h41 => ?_) (fun h41 => ?_)
      · exact K N hf hR
      · exfalso; omega
theorem mm_most {p w : Int} (hc : MS M tp fl g pg vs nt im sh tn) (ho : OK g pg vs nt im sh) (hp : fp_rng p) (hw : fp_rng w) : fp_Ok l G 7 kX12_most [rV G 177, iV p, iV w] M (qI fun z N => z = A_most g pg vs p w ∧ MS N tp fl g pg vs nt im sh tn ∧ frD M N) := by
  have hcs := hc
  obtain ⟨-, hd, hcl, hv, -⟩ := hc
  have hg := ho.1
  have hP := ho.2.1
  have hvo := ho.2.2.1
  have hv' : mvIs M vs := hv
  have h95 : M 178 95 = (vs.length : Int) := hv.1
  have hl := hv.2.1
  have e5 : M 177 5 = g.2.1 := hd.2.1
  have hg2 := hg.2.1
  have hD := aDrs_in vs p vs.length
  have hp' := hp
  unfold fp_rng at hp'
  have hw' := hw
  unfold fp_rng at hw'
  refine fp_Ok.of (r := 5) rfl (Nat.le_of_ble_eq_true rfl) rfl ?_
  unfold A_most
  by_cases hin : (0 ≤ p ∧ p < 4) ∧ (w = 0 ∨ (10 ≤ w ∧ w < 10 + vs.length))
  · rw [if_neg (fun q => q hin)]
    have h85 : ∀ (N : fp_Mem), (∀ c, c ≠ 190 → N c = M c) → (∀ j : Nat, j < 12 → N 190 j = 0) → fp_S l G 7 kX12_most 85 [some (rV G 177), some (iV p), some (iV w), some (iV (aDrs vs p vs.length)), some (iV 12), none, none, none] [] N (qI fun z N => z = (if g.2.1 = 0 ∨ 7 < aDrs vs p vs.length then -2 else if w = 0 then (aMo g pg vs p).1 else (aMo g pg vs p).2 (w - 10)) ∧ MS N tp fl g pg vs nt im sh tn ∧ frD M N) := by
      intro N hf hR
      have fN : frU M N := ⟨fun c _ _ h9 _ => hf c h9, fun j _ => by rw [hf 178 (by decide)]⟩
      have n5 : N 177 5 = g.2.1 := by rw [hf 177 (by decide)]; exact e5
      have p0 : mpIs N 0 g pg := by unfold mpIs; rw [hf 178 (by decide)]; exact hcl
      by_cases hst : g.2.1 = 0 ∨ 7 < aDrs vs p vs.length
      · rw [if_pos hst]
        refine S.aload_n (pc' := 86) dX12_most_85 rfl rfl rfl ?_
        refine S.getI (pc' := 89) dX12_most_86 rfl fX12_184 L_177 ?_
        rw [n5]
        refine S.if_eq (pc' := 92) (tgt := 98) dX12_most_89 (by decide) rfl (by unfold fp_rng; omega) (fun h89 => ?_) (fun h89 => ?_)
        · refine S.bipush (pc' := 100) dX12_most_98 rfl (by decide) ?_
          refine S.iret dX12_most_100 rfl ?_
          exact ⟨rfl, hcs.uu ho fN, fN.d⟩
        · refine S.iload_n (pc' := 93) dX12_most_92 rfl rfl rfl ?_
          refine S.bipush (pc' := 95) dX12_most_93 rfl (by decide) ?_
          refine S.icmp_le (pc' := 98) (tgt := 101) dX12_most_95 (by decide) rfl (by unfold fp_rng; omega) (by unfold fp_rng; omega) (fun h95 => ?_) (fun h95 => ?_)
          · exfalso; omega
          · refine S.bipush (pc' := 100) dX12_most_98 rfl (by decide) ?_
            refine S.iret dX12_most_100 rfl ?_
            exact ⟨rfl, hcs.uu ho fN, fN.d⟩
      · rw [if_neg hst]
        refine S.aload_n (pc' := 86) dX12_most_85 rfl rfl rfl ?_
        refine S.getI (pc' := 89) dX12_most_86 rfl fX12_184 L_177 ?_
        rw [n5]
        refine S.if_eq (pc' := 92) (tgt := 98) dX12_most_89 (by decide) rfl (by unfold fp_rng; omega) (fun h89 => ?_) (fun h89 => ?_)
        · exfalso; omega
        · refine S.iload_n (pc' := 93) dX12_most_92 rfl rfl rfl ?_
          refine S.bipush (pc' := 95) dX12_most_93 rfl (by decide) ?_
          refine S.icmp_le (pc' := 98) (tgt := 101) dX12_most_95 (by decide) rfl (by unfold fp_rng; omega) (by unfold fp_rng; omega) (fun h95 => ?_) (fun h95 => ?_)
          · refine S.aload_n (pc' := 102) dX12_most_101 rfl rfl rfl ?_
            refine S.iconst (pc' := 103) dX12_most_102 rfl ?_
            refine S.sipush (pc' := 106) dX12_most_103 rfl (by decide) ?_
            refine S.callVv (pc' := 109) dX12_most_106 rfl cX12_265 (rk_X12_copies p0 hP hg) rfl L_177 (by decide) rfl (Nat.le_of_ble_eq_true rfl) (fun M106 q106 => ?_)
            refine S.aload_n (pc' := 110) dX12_most_109 rfl rfl rfl ?_
            refine S.iconst (pc' := 111) dX12_most_110 rfl ?_
            refine S.callVv (pc' := 114) dX12_most_111 rfl cX12_277 (rk_X12_saves (by omega)) rfl L_177 (by decide) rfl (Nat.le_of_ble_eq_true rfl) (fun M111 q111 => ?_)
            refine S.bipush (pc' := 116) dX12_most_114 rfl (by decide) ?_
            refine S.istore (pc' := 118) (LL' := [_, _, _, _, _, _, _, _]) dX12_most_116 rfl (by decide) rfl rfl ?_
            refine S.iconst (pc' := 119) dX12_most_118 rfl ?_
            refine S.istore (pc' := 121) (LL' := [_, _, _, _, _, _, _, _]) dX12_most_119 rfl (by decide) rfl rfl ?_
            obtain ⟨m1, f1⟩ := q106
            obtain ⟨s1, s2⟩ := q111
            have f3 : frU M M111 := fN.trans ⟨fun c h8 h9 _ _ => by rw [s1 c h9, f1.1 c h8], fun j hj => by rw [s1 178 (by decide)]; exact f1.2 j hj⟩
            refine fp_S.wI (mmost_loop (pg := pg) hg hP hvo hin.1 (by omega) hin.2 hv' hd _ (fun _ => 0) (-4, fun _ => 0) 0 _ _ _ (Nat.lt_succ_self _) (fun j => by omega) (by omega) f3 (fun j j0 j1 => by rw [s1 190 (by decide), f1.1 190 (by decide)]; exact hR _ (by omega)) (fun j j0 j1 => ?_) (fun q => absurd rfl q) (by decide) (aMo_first (by omega)).symm) (fun z O q => ⟨q.1, hcs.uu ho q.2, q.2.d⟩)
            have ej : j = 0 := by omega
            subst ej
            refine (mpRow.mq m1).mov hg hP (fun k k0 k1 => ?_)
            rw [s2, if_pos (by omega)]; congr 1; omega
          · exfalso; omega
    have h32 : fp_S l G 7 kX12_most 32 [some (rV G 177), some (iV p), some (iV w), none, none, none, none, none] [] M (qI fun z N => z = (if g.2.1 = 0 ∨ 7 < aDrs vs p vs.length then -2 else if w = 0 then (aMo g pg vs p).1 else (aMo g pg vs p).2 (w - 10)) ∧ MS N tp fl g pg vs nt im sh tn ∧ frD M N) := by
      refine S.iconst (pc' := 33) dX12_most_32 rfl ?_
      refine S.istore_n (pc' := 34) (LL' := [_, _, _, _, _, _, _, _]) dX12_most_33 rfl (by decide) rfl rfl rfl ?_
      refine S.iconst (pc' := 35) dX12_most_34 rfl ?_
      refine S.istore (pc' := 37) (LL' := [_, _, _, _, _, _, _, _]) dX12_most_35 rfl (by decide) rfl rfl ?_
      have := minit_loop (w := w) hg hvo hin.1 hv' h85 13 0 M (by omega) (by omega) (fun _ _ => rfl) (fun j hj => by omega)
      rw [Nat.zero_min] at this
      exact this
    refine S.iload_n (pc' := 1) dX12_most_0 rfl rfl rfl ?_
    refine S.callSi (pc' := 4) dX12_most_1 rfl cX12_228 (bk_X12_isOne) rfl (by decide) rfl (Nat.le_of_ble_eq_true rfl) (fun z1 M1 q1 => ?_)
    obtain ⟨b1, rfl⟩ := q1
    refine S.if_eq (pc' := 7) (tgt := 30) dX12_most_4 (by decide) rfl (by unfold fp_rng; omega) (fun h4 => ?_) (fun h4 => ?_)
    · exfalso; omega
    · refine S.iload_n (pc' := 8) dX12_most_7 rfl rfl rfl ?_
      refine S.if_eq (pc' := 11) (tgt := 32) dX12_most_8 (by decide) rfl hw (fun h8 => ?_) (fun h8 => ?_)
      · exact h32
      · refine S.iload_n (pc' := 12) dX12_most_11 rfl rfl rfl ?_
        refine S.i2l (pc' := 13) dX12_most_12 rfl hw ?_
        refine S.ldc2 (pc' := 16) (v := 10) dX12_most_13 rfl lX12_212 (by decide) ?_
        refine S.bipush (pc' := 18) dX12_most_16 rfl (by decide) ?_
        refine S.aload_n (pc' := 19) dX12_most_18 rfl rfl rfl ?_
        refine S.callVe (pc' := 22) dX12_most_19 rfl cX12_225 ok_X12_visits rfl L_177 (by decide) rfl (Nat.le_of_ble_eq_true rfl) ?_
        rw [h95]
        refine S.iadd (pc' := 23) dX12_most_22 rfl ?_
        refine S.i2l (pc' := 24) dX12_most_23 rfl (by unfold fp_rng; omega) ?_
        refine S.callSi (pc' := 27) dX12_most_24 rfl cX12_94 (bk_X12_in) rfl (by decide) rfl (Nat.le_of_ble_eq_true rfl) (fun z24 M24 q24 => ?_)
        obtain ⟨b24, rfl⟩ := q24
        refine S.if_ne (pc' := 30) (tgt := 32) dX12_most_27 (by decide) rfl (by unfold fp_rng; omega) (fun h27 => ?_) (fun h27 => ?_)
        · exact h32
        · exfalso; omega
  · rw [if_pos hin]
    refine S.iload_n (pc' := 1) dX12_most_0 rfl rfl rfl ?_
    refine S.callSi (pc' := 4) dX12_most_1 rfl cX12_228 (bk_X12_isOne) rfl (by decide) rfl (Nat.le_of_ble_eq_true rfl) (fun z1 M1 q1 => ?_)
    obtain ⟨b1, rfl⟩ := q1
    refine S.if_eq (pc' := 7) (tgt := 30) dX12_most_4 (by decide) rfl (by unfold fp_rng; omega) (fun h4 => ?_) (fun h4 => ?_)
    · refine S.iconst (pc' := 31) dX12_most_30 rfl ?_
      refine S.iret dX12_most_31 rfl ?_
      exact ⟨rfl, hcs, frD.refl _⟩
    · refine S.iload_n (pc' := 8) dX12_most_7 rfl rfl rfl ?_
      refine S.if_eq (pc' := 11) (tgt := 32) dX12_most_8 (by decide) rfl hw (fun h8 => ?_) (fun h8 => ?_)
      · exfalso; omega
      · refine S.iload_n (pc' := 12) dX12_most_11 rfl rfl rfl ?_
        refine S.i2l (pc' := 13) dX12_most_12 rfl hw ?_
        refine S.ldc2 (pc' := 16) (v := 10) dX12_most_13 rfl lX12_212 (by decide) ?_
        refine S.bipush (pc' := 18) dX12_most_16 rfl (by decide) ?_
        refine S.aload_n (pc' := 19) dX12_most_18 rfl rfl rfl ?_
        refine S.callVe (pc' := 22) dX12_most_19 rfl cX12_225 ok_X12_visits rfl L_177 (by decide) rfl (Nat.le_of_ble_eq_true rfl) ?_
        rw [h95]
        refine S.iadd (pc' := 23) dX12_most_22 rfl ?_
        refine S.i2l (pc' := 24) dX12_most_23 rfl (by unfold fp_rng; omega) ?_
        refine S.callSi (pc' := 27) dX12_most_24 rfl cX12_94 (bk_X12_in) rfl (by decide) rfl (Nat.le_of_ble_eq_true rfl) (fun z24 M24 q24 => ?_)
        obtain ⟨b24, rfl⟩ := q24
        refine S.if_ne (pc' := 30) (tgt := 32) dX12_most_27 (by decide) rfl (by unfold fp_rng; omega) (fun h27 => ?_) (fun h27 => ?_)
        · exfalso; omega
        · refine S.iconst (pc' := 31) dX12_most_30 rfl ?_
          refine S.iret dX12_most_31 rfl ?_
          exact ⟨rfl, hcs, frD.refl _⟩
end MMF
