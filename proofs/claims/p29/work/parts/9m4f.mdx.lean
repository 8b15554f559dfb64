/-! duel: the reference, all rows folded, exactly (p29 alone) -/
theorem dTri_in {mv m x : Int} {b : Int × Int} (hb : -9999 ≤ b.1 ∧ b.1 ≤ 120) (hx : -9999 ≤ x ∧ x ≤ 120) : -9999 ≤ (dTri mv b m x).1 ∧ (dTri mv b m x).1 ≤ 120 := by
  unfold dTri
  split
  · exact hx
  · exact hb
theorem dAcc_in {g : aGd} {kind p q : Int} {s0 : dSt} {n k : Nat} {v : Int} (hg : gOk g) (hs : dOkS g s0) (hp : 0 ≤ p ∧ p < 4) (hq : 0 ≤ q ∧ q < 4) (hn : n ≤ 6) (hk : k < n) : ∀ m : Nat, m ≤ 3 → -9999 ≤ (dAcc g kind p q s0 n k v m).1 ∧ (dAcc g kind p q s0 n k v m).1 ≤ 120
  | 0, _ => by rw [dAcc_0]; show (-9999 : Int) ≤ -9999 ∧ (-9999 : Int) ≤ 120; omega
  | m + 1, h => by
    rw [← dAcc_step hg hs hp hq hn hk (show m < 3 by omega)]
    exact dTri_in (dAcc_in hg hs hp hq hn hk m (by omega)) (dFld_in hg hs hp hq hn (by omega))
section MDZ
variable {l : Launch} {G : fp_WG} {M N : fp_Mem} {tp : List Int} {fl : Int} {g : aGd} {pg : aPg} {vs : List aVt} {nt : List Int} {im : aIm} {sh : aSh} {tn : Int}
theorem xk_X12_plays {x p q r n mv : Int} (hg : gOk g) (hP : pgOk g pg) (hxg : 0 ≤ x ∧ x < g.2.1) (hp : 0 ≤ p ∧ p < 4) (hq : 0 ≤ q ∧ q < 4) (hr : 0 ≤ r ∧ r ≤ 2) (hn : 1 ≤ n ∧ n ≤ 6) (hmv : 0 ≤ mv ∧ mv ≤ 728) (hs0 : dOkS g (pg.2.2 x, r, r)) (hd : mdIs M g) (hc : mpIs M 0 g pg) : fp_Ok l G 2 kX12_plays [rV G 177, iV x, iV p, iV q, iV r, iV n, iV mv] M (qI fun z O => z = dPl g (g.2.2.2.2.2 x) p q (pg.2.2 x, r, r) n.toNat mv ∧ frT M O) := by
  have hg2 := hg.2.1
  have hx : 0 ≤ x ∧ x < 3 := by omega
  refine fp_Ok.of (r := 8) rfl (Nat.le_of_ble_eq_true rfl) rfl ?_
  have h25 : ∀ (of : Int), of = 3 ^ (n.toNat - 1) → fp_S l G 2 kX12_plays 25 [some (rV G 177), some (iV x), some (iV p), some (iV q), some (iV r), some (iV n), some (iV mv), some (iV of), some (iV n), none, none, none, none, none, none] [] M (qI fun z O => z = dPl g (g.2.2.2.2.2 x) p q (pg.2.2 x, r, r) n.toNat mv ∧ frT M O) := by
    intro of hof
    have hpw := pow3_in (show n.toNat - 1 < 7 by omega)
    rw [← hof] at hpw
    refine S.iconst (pc' := 26) dX12_plays_25 rfl ?_
    refine S.istore (pc' := 28) (LL' := [_, _, _, _, _, _, _, _, _, _, _, _, _, _, _]) dX12_plays_26 rfl (by decide) rfl rfl ?_
    refine S.iload (pc' := 30) dX12_plays_28 rfl rfl ?_
    refine S.istore (pc' := 32) (LL' := [_, _, _, _, _, _, _, _, _, _, _, _, _, _, _]) dX12_plays_30 rfl (by decide) rfl rfl ?_
    refine S.iload (pc' := 34) dX12_plays_32 rfl rfl ?_
    refine S.istore (pc' := 36) (LL' := [_, _, _, _, _, _, _, _, _, _, _, _, _, _, _]) dX12_plays_34 rfl (by decide) rfl rfl ?_
    refine S.aload_n (pc' := 37) dX12_plays_36 rfl rfl rfl ?_
    refine S.iconst (pc' := 38) dX12_plays_37 rfl ?_
    refine S.sipush (pc' := 41) dX12_plays_38 rfl (by decide) ?_
    refine S.callVv (pc' := 44) dX12_plays_41 rfl cX12_265 (rk_X12_copies hc hP hg) rfl L_177 (by decide) rfl (Nat.le_of_ble_eq_true rfl) (fun M41 q41 => ?_)
    refine S.iconst (pc' := 45) dX12_plays_44 rfl ?_
    refine S.istore (pc' := 47) (LL' := [_, _, _, _, _, _, _, _, _, _, _, _, _, _, _]) dX12_plays_45 rfl (by decide) rfl rfl ?_
    exact xplays_loop hg hxg hp hq hn hmv hd hs0 n.toNat 0 of (0, (pg.2.2 x, r, r)) _ none none none (by omega) (fun _ => hof) hpw rfl q41.2 (q41.1.2.2 x hx.1 hx.2)
  have h6 : ∀ (rr j : Nat), (n - j).toNat < rr → (j : Int) + 1 ≤ n → fp_S l G 2 kX12_plays 6 [some (rV G 177), some (iV x), some (iV p), some (iV q), some (iV r), some (iV n), some (iV mv), some (iV (3 ^ j)), some (iV ((j : Int) + 1)), none, none, none, none, none, none] [] M (qI fun z O => z = dPl g (g.2.2.2.2.2 x) p q (pg.2.2 x, r, r) n.toNat mv ∧ frT M O) := by
    intro rr
    induction rr with
    | zero => intro j h; omega
    | succ rr ih =>
      intro j h hj
      have hpw := pow3_in (show j < 7 by omega)
      by_cases he : (j : Int) + 1 < n
      · refine S.iload (pc' := 8) dX12_plays_6 rfl rfl ?_
        refine S.iload (pc' := 10) dX12_plays_8 rfl rfl ?_
        refine S.icmp_ge (pc' := 13) (tgt := 25) dX12_plays_10 (by decide) rfl (by unfold fp_rng; omega) (by unfold fp_rng; omega) (fun h10 => ?_) (fun h10 => ?_)
        · exfalso; omega
        · refine S.iload (pc' := 15) dX12_plays_13 rfl rfl ?_
          refine S.iconst (pc' := 16) dX12_plays_15 rfl ?_
          refine S.imul (pc' := 17) dX12_plays_16 rfl ?_
          refine S.istore (pc' := 19) (LL' := [_, _, _, _, _, _, _, _, _, _, _, _, _, _, _]) dX12_plays_17 rfl (by decide) rfl rfl ?_
          refine S.iinc (pc' := 22) (LL' := [_, _, _, _, _, _, _, _, _, _, _, _, _, _, _]) dX12_plays_19 rfl (by decide) rfl rfl rfl ?_
          refine S.goto (pc' := 6) dX12_plays_22 (by decide) ?_
          rw [show (3 : Int) ^ j * 3 = 3 ^ (j + 1) from (Int.pow_succ 3 j).symm, show ((j : Int) + 1 + 1) = ((j + 1 : Nat) : Int) + 1 by omega]
          exact ih (j + 1) (by omega) (by omega)
      · have e : n = (j : Int) + 1 := by omega
        have h5 := h25 (3 ^ j) (by rw [show n.toNat - 1 = j by omega])
        rw [← e]
        refine S.iload (pc' := 8) dX12_plays_6 rfl rfl ?_
        refine S.iload (pc' := 10) dX12_plays_8 rfl rfl ?_
        refine S.icmp_ge (pc' := 13) (tgt := 25) dX12_plays_10 (by decide) rfl (by unfold fp_rng; omega) (by unfold fp_rng; omega) (fun h10 => ?_) (fun h10 => ?_)
        · exact h5
        · exfalso; omega
  refine S.iconst (pc' := 1) dX12_plays_0 rfl ?_
  refine S.istore (pc' := 3) (LL' := [_, _, _, _, _, _, _, _, _, _, _, _, _, _, _]) dX12_plays_1 rfl (by decide) rfl rfl ?_
  refine S.iconst (pc' := 4) dX12_plays_3 rfl ?_
  refine S.istore (pc' := 6) (LL' := [_, _, _, _, _, _, _, _, _, _, _, _, _, _, _]) dX12_plays_4 rfl (by decide) rfl rfl ?_
  exact h6 (n.toNat + 1) 0 (by omega) (by omega)
/-- the best of three -/
theorem xfold_m {x p q r n w sz mvv k v : Int} {Q : fp_Q} {X : Nat → Int} {acc : Nat → Int × Int} (hX : ∀ m : Nat, m < 3 → N 193 (3 * v + (m : Int)).toNat = X m ∧ -9999 ≤ X m ∧ X m ≤ 120) (hv : 0 ≤ v ∧ 3 * v + 3 ≤ 729) (hk : 0 ≤ k ∧ k ≤ 5) (hin : ∀ m : Nat, m ≤ 3 → -9999 ≤ (acc m).1 ∧ (acc m).1 ≤ 120) (hst : ∀ m : Nat, m < 3 → dTri (k % 2) (acc m) (m : Int) (X m) = acc (m + 1)) (K : ∀ (o13 o14 o15 : Option Value), fp_S l G 3 kX12_duel 269 [some (rV G 177), some (iV x), some (iV p), some (iV q), some (iV r), some (iV n), some (iV w), some (iV sz), some (iV mvv), some (iV k), some (iV v), some (iV (acc 3).1), some (iV (acc 3).2), o13, o14, o15] [] N Q) : ∀ (rr m : Nat) (o14 o15 : Option Value), 3 - m < rr → m ≤ 3 →
    fp_S l G 3 kX12_duel 168 [some (rV G 177), some (iV x), some (iV p), some (iV q), some (iV r), some (iV n), some (iV w), some (iV sz), some (iV mvv), some (iV k), some (iV v), some (iV (acc m).1), some (iV (acc m).2), some (iV (m : Int)), o14, o15] [] N Q := by
  intro rr
  induction rr with
  | zero => intro m o14 o15 h; omega
  | succ rr ih =>
    intro m o14 o15 h m1
    by_cases hlt : m < 3
    · obtain ⟨hxe, hx⟩ := hX m hlt
      have hb := hin m m1
      have hs := hst m hlt
      generalize X m = xx at *
      generalize ha : acc m = A at *
      obtain ⟨b, wh⟩ := A
      have hb' : -9999 ≤ b ∧ b ≤ 120 := hb
      have ih9 := ih (m + 1)
      rw [← hs, show ((m + 1 : Nat) : Int) = (m : Int) + 1 by omega] at ih9
      show fp_S l G 3 kX12_duel 168 [some (rV G 177), some (iV x), some (iV p), some (iV q), some (iV r), some (iV n), some (iV w), some (iV sz), some (iV mvv), some (iV k), some (iV v), some (iV b), some (iV wh), some (iV (m : Int)), o14, o15] [] N Q
      have h233 : ∀ z, ((z = 0 ∧ dTri (k % 2) (b, wh) (m : Int) xx = (b, wh)) ∨ (z = 1 ∧ dTri (k % 2) (b, wh) (m : Int) xx = (xx, (m : Int)))) → fp_S l G 3 kX12_duel 233 [some (rV G 177), some (iV x), some (iV p), some (iV q), some (iV r), some (iV n), some (iV w), some (iV sz), some (iV mvv), some (iV k), some (iV v), some (iV b), some (iV wh), some (iV (m : Int)), some (iV xx), o15] [iV z] N Q := by
        intro z hz
        rcases hz with ⟨hz, e⟩ | ⟨hz, e⟩
        · rw [e] at ih9
          refine S.istore (pc' := 235) (LL' := [_, _, _, _, _, _, _, _, _, _, _, _, _, _, _, _]) dX12_duel_233 rfl (by decide) rfl rfl ?_
          refine S.iload (pc' := 237) dX12_duel_235 rfl rfl ?_
          refine S.if_eq (pc' := 240) (tgt := 245) dX12_duel_237 (by decide) rfl (by unfold fp_rng; omega) (fun h237 => ?_) (fun h237 => ?_)
          · refine S.iload (pc' := 247) dX12_duel_245 rfl rfl ?_
            refine S.istore (pc' := 249) (LL' := [_, _, _, _, _, _, _, _, _, _, _, _, _, _, _, _]) dX12_duel_247 rfl (by decide) rfl rfl ?_
            refine S.iload (pc' := 251) dX12_duel_249 rfl rfl ?_
            refine S.if_eq (pc' := 254) (tgt := 259) dX12_duel_251 (by decide) rfl (by unfold fp_rng; omega) (fun h251 => ?_) (fun h251 => ?_)
            · refine S.iload (pc' := 261) dX12_duel_259 rfl rfl ?_
              refine S.istore (pc' := 263) (LL' := [_, _, _, _, _, _, _, _, _, _, _, _, _, _, _, _]) dX12_duel_261 rfl (by decide) rfl rfl ?_
              refine S.iinc (pc' := 266) (LL' := [_, _, _, _, _, _, _, _, _, _, _, _, _, _, _, _]) dX12_duel_263 rfl (by decide) rfl rfl rfl ?_
              refine S.goto (pc' := 168) dX12_duel_266 (by decide) ?_
              first
              | (exfalso; omega)
              | exact ih9 _ _ (by omega) (by omega)
            · refine S.iload (pc' := 256) dX12_duel_254 rfl rfl ?_
              refine S.goto (pc' := 261) dX12_duel_256 (by decide) ?_
              refine S.istore (pc' := 263) (LL' := [_, _, _, _, _, _, _, _, _, _, _, _, _, _, _, _]) dX12_duel_261 rfl (by decide) rfl rfl ?_
              refine S.iinc (pc' := 266) (LL' := [_, _, _, _, _, _, _, _, _, _, _, _, _, _, _, _]) dX12_duel_263 rfl (by decide) rfl rfl rfl ?_
              refine S.goto (pc' := 168) dX12_duel_266 (by decide) ?_
              first
              | (exfalso; omega)
              | exact ih9 _ _ (by omega) (by omega)
          · refine S.iload (pc' := 242) dX12_duel_240 rfl rfl ?_
            refine S.goto (pc' := 247) dX12_duel_242 (by decide) ?_
            refine S.istore (pc' := 249) (LL' := [_, _, _, _, _, _, _, _, _, _, _, _, _, _, _, _]) dX12_duel_247 rfl (by decide) rfl rfl ?_
            refine S.iload (pc' := 251) dX12_duel_249 rfl rfl ?_
            refine S.if_eq (pc' := 254) (tgt := 259) dX12_duel_251 (by decide) rfl (by unfold fp_rng; omega) (fun h251 => ?_) (fun h251 => ?_)
            · refine S.iload (pc' := 261) dX12_duel_259 rfl rfl ?_
              refine S.istore (pc' := 263) (LL' := [_, _, _, _, _, _, _, _, _, _, _, _, _, _, _, _]) dX12_duel_261 rfl (by decide) rfl rfl ?_
              refine S.iinc (pc' := 266) (LL' := [_, _, _, _, _, _, _, _, _, _, _, _, _, _, _, _]) dX12_duel_263 rfl (by decide) rfl rfl rfl ?_
              refine S.goto (pc' := 168) dX12_duel_266 (by decide) ?_
              first
              | (exfalso; omega)
              | exact ih9 _ _ (by omega) (by omega)
            · refine S.iload (pc' := 256) dX12_duel_254 rfl rfl ?_
              refine S.goto (pc' := 261) dX12_duel_256 (by decide) ?_
              refine S.istore (pc' := 263) (LL' := [_, _, _, _, _, _, _, _, _, _, _, _, _, _, _, _]) dX12_duel_261 rfl (by decide) rfl rfl ?_
              refine S.iinc (pc' := 266) (LL' := [_, _, _, _, _, _, _, _, _, _, _, _, _, _, _, _]) dX12_duel_263 rfl (by decide) rfl rfl rfl ?_
              refine S.goto (pc' := 168) dX12_duel_266 (by decide) ?_
              first
              | (exfalso; omega)
              | exact ih9 _ _ (by omega) (by omega)
        · rw [e] at ih9
          refine S.istore (pc' := 235) (LL' := [_, _, _, _, _, _, _, _, _, _, _, _, _, _, _, _]) dX12_duel_233 rfl (by decide) rfl rfl ?_
          refine S.iload (pc' := 237) dX12_duel_235 rfl rfl ?_
          refine S.if_eq (pc' := 240) (tgt := 245) dX12_duel_237 (by decide) rfl (by unfold fp_rng; omega) (fun h237 => ?_) (fun h237 => ?_)
          · refine S.iload (pc' := 247) dX12_duel_245 rfl rfl ?_
            refine S.istore (pc' := 249) (LL' := [_, _, _, _, _, _, _, _, _, _, _, _, _, _, _, _]) dX12_duel_247 rfl (by decide) rfl rfl ?_
            refine S.iload (pc' := 251) dX12_duel_249 rfl rfl ?_
            refine S.if_eq (pc' := 254) (tgt := 259) dX12_duel_251 (by decide) rfl (by unfold fp_rng; omega) (fun h251 => ?_) (fun h251 => ?_)
            · refine S.iload (pc' := 261) dX12_duel_259 rfl rfl ?_
              refine S.istore (pc' := 263) (LL' := [_, _, _, _, _, _, _, _, _, _, _, _, _, _, _, _]) dX12_duel_261 rfl (by decide) rfl rfl ?_
              refine S.iinc (pc' := 266) (LL' := [_, _, _, _, _, _, _, _, _, _, _, _, _, _, _, _]) dX12_duel_263 rfl (by decide) rfl rfl rfl ?_
              refine S.goto (pc' := 168) dX12_duel_266 (by decide) ?_
              first
              | (exfalso; omega)
              | exact ih9 _ _ (by omega) (by omega)
            · refine S.iload (pc' := 256) dX12_duel_254 rfl rfl ?_
              refine S.goto (pc' := 261) dX12_duel_256 (by decide) ?_
              refine S.istore (pc' := 263) (LL' := [_, _, _, _, _, _, _, _, _, _, _, _, _, _, _, _]) dX12_duel_261 rfl (by decide) rfl rfl ?_
              refine S.iinc (pc' := 266) (LL' := [_, _, _, _, _, _, _, _, _, _, _, _, _, _, _, _]) dX12_duel_263 rfl (by decide) rfl rfl rfl ?_
              refine S.goto (pc' := 168) dX12_duel_266 (by decide) ?_
              first
              | (exfalso; omega)
              | exact ih9 _ _ (by omega) (by omega)
          · refine S.iload (pc' := 242) dX12_duel_240 rfl rfl ?_
            refine S.goto (pc' := 247) dX12_duel_242 (by decide) ?_
            refine S.istore (pc' := 249) (LL' := [_, _, _, _, _, _, _, _, _, _, _, _, _, _, _, _]) dX12_duel_247 rfl (by decide) rfl rfl ?_
            refine S.iload (pc' := 251) dX12_duel_249 rfl rfl ?_
            refine S.if_eq (pc' := 254) (tgt := 259) dX12_duel_251 (by decide) rfl (by unfold fp_rng; omega) (fun h251 => ?_) (fun h251 => ?_)
            · refine S.iload (pc' := 261) dX12_duel_259 rfl rfl ?_
              refine S.istore (pc' := 263) (LL' := [_, _, _, _, _, _, _, _, _, _, _, _, _, _, _, _]) dX12_duel_261 rfl (by decide) rfl rfl ?_
              refine S.iinc (pc' := 266) (LL' := [_, _, _, _, _, _, _, _, _, _, _, _, _, _, _, _]) dX12_duel_263 rfl (by decide) rfl rfl rfl ?_
              refine S.goto (pc' := 168) dX12_duel_266 (by decide) ?_
              first
              | (exfalso; omega)
              | exact ih9 _ _ (by omega) (by omega)
            · refine S.iload (pc' := 256) dX12_duel_254 rfl rfl ?_
              refine S.goto (pc' := 261) dX12_duel_256 (by decide) ?_
              refine S.istore (pc' := 263) (LL' := [_, _, _, _, _, _, _, _, _, _, _, _, _, _, _, _]) dX12_duel_261 rfl (by decide) rfl rfl ?_
              refine S.iinc (pc' := 266) (LL' := [_, _, _, _, _, _, _, _, _, _, _, _, _, _, _, _]) dX12_duel_263 rfl (by decide) rfl rfl rfl ?_
              refine S.goto (pc' := 168) dX12_duel_266 (by decide) ?_
              first
              | (exfalso; omega)
              | exact ih9 _ _ (by omega) (by omega)
      refine S.iload (pc' := 170) dX12_duel_168 rfl rfl ?_
      refine S.iconst (pc' := 171) dX12_duel_170 rfl ?_
      refine S.icmp_ge (pc' := 174) (tgt := 269) dX12_duel_171 (by decide) rfl (by unfold fp_rng; omega) (by unfold fp_rng; omega) (fun h171 => ?_) (fun h171 => ?_)
      · exfalso; omega
      · refine S.aload_n (pc' := 175) dX12_duel_174 rfl rfl rfl ?_
        refine S.getR (pc' := 178) dX12_duel_175 rfl fX12_60 L_177 rf_177_34 ?_
        refine S.iconst (pc' := 179) dX12_duel_178 rfl ?_
        refine S.iload (pc' := 181) dX12_duel_179 rfl rfl ?_
        refine S.imul (pc' := 182) dX12_duel_181 rfl ?_
        refine S.iload (pc' := 184) dX12_duel_182 rfl rfl ?_
        refine S.iadd (pc' := 185) dX12_duel_184 rfl ?_
        refine S.iald (pc' := 186) dX12_duel_185 rfl L_193 (by omega) (by omega) ?_
        rw [hxe]
        refine S.istore (pc' := 188) (LL' := [_, _, _, _, _, _, _, _, _, _, _, _, _, _, _, _]) dX12_duel_186 rfl (by decide) rfl rfl ?_
        refine S.iload (pc' := 190) dX12_duel_188 rfl rfl ?_
        refine S.sipush (pc' := 193) dX12_duel_190 rfl (by decide) ?_
        refine S.icmp_eq (pc' := 196) (tgt := 232) dX12_duel_193 (by decide) rfl (by unfold fp_rng; omega) (by unfold fp_rng; omega) (fun h193 => ?_) (fun h193 => ?_)
        · refine S.iconst (pc' := 233) dX12_duel_232 rfl ?_
          first
          | exact h233 _ (Or.inl ⟨rfl, by unfold dTri; rw [if_neg (by simp only; omega)]⟩)
          | exact h233 _ (Or.inr ⟨rfl, by unfold dTri; rw [if_pos (by simp only; omega)]⟩)
        · refine S.iload (pc' := 198) dX12_duel_196 rfl rfl ?_
          refine S.sipush (pc' := 201) dX12_duel_198 rfl (by decide) ?_
          refine S.icmp_eq (pc' := 204) (tgt := 228) dX12_duel_201 (by decide) rfl (by unfold fp_rng; omega) (by unfold fp_rng; omega) (fun h201 => ?_) (fun h201 => ?_)
          · refine S.iconst (pc' := 229) dX12_duel_228 rfl ?_
            refine S.goto (pc' := 233) dX12_duel_229 (by decide) ?_
            first
            | exact h233 _ (Or.inl ⟨rfl, by unfold dTri; rw [if_neg (by simp only; omega)]⟩)
            | exact h233 _ (Or.inr ⟨rfl, by unfold dTri; rw [if_pos (by simp only; omega)]⟩)
          · refine S.iload (pc' := 206) dX12_duel_204 rfl rfl ?_
            refine S.iconst (pc' := 207) dX12_duel_206 rfl ?_
            refine S.irem (pc' := 208) dX12_duel_207 rfl (by decide) (fp_irem (by omega) (by omega)) ?_
            refine S.if_ne (pc' := 211) (tgt := 221) dX12_duel_208 (by decide) rfl (by unfold fp_rng; omega) (fun h208 => ?_) (fun h208 => ?_)
            · refine S.iload (pc' := 223) dX12_duel_221 rfl rfl ?_
              refine S.iload (pc' := 225) dX12_duel_223 rfl rfl ?_
              refine S.icmp_ge (pc' := 228) (tgt := 232) dX12_duel_225 (by decide) rfl (by unfold fp_rng; omega) (by unfold fp_rng; omega) (fun h225 => ?_) (fun h225 => ?_)
              · refine S.iconst (pc' := 233) dX12_duel_232 rfl ?_
                first
                | exact h233 _ (Or.inl ⟨rfl, by unfold dTri; rw [if_neg (by simp only; omega)]⟩)
                | exact h233 _ (Or.inr ⟨rfl, by unfold dTri; rw [if_pos (by simp only; omega)]⟩)
              · refine S.iconst (pc' := 229) dX12_duel_228 rfl ?_
                refine S.goto (pc' := 233) dX12_duel_229 (by decide) ?_
                first
                | exact h233 _ (Or.inl ⟨rfl, by unfold dTri; rw [if_neg (by simp only; omega)]⟩)
                | exact h233 _ (Or.inr ⟨rfl, by unfold dTri; rw [if_pos (by simp only; omega)]⟩)
            · refine S.iload (pc' := 213) dX12_duel_211 rfl rfl ?_
              refine S.iload (pc' := 215) dX12_duel_213 rfl rfl ?_
              refine S.icmp_le (pc' := 218) (tgt := 232) dX12_duel_215 (by decide) rfl (by unfold fp_rng; omega) (by unfold fp_rng; omega) (fun h215 => ?_) (fun h215 => ?_)
              · refine S.iconst (pc' := 233) dX12_duel_232 rfl ?_
                first
                | exact h233 _ (Or.inl ⟨rfl, by unfold dTri; rw [if_neg (by simp only; omega)]⟩)
                | exact h233 _ (Or.inr ⟨rfl, by unfold dTri; rw [if_pos (by simp only; omega)]⟩)
              · refine S.goto (pc' := 228) dX12_duel_218 (by decide) ?_
                refine S.iconst (pc' := 229) dX12_duel_228 rfl ?_
                refine S.goto (pc' := 233) dX12_duel_229 (by decide) ?_
                first
                | exact h233 _ (Or.inl ⟨rfl, by unfold dTri; rw [if_neg (by simp only; omega)]⟩)
                | exact h233 _ (Or.inr ⟨rfl, by unfold dTri; rw [if_pos (by simp only; omega)]⟩)
    · have e3 : m = 3 := by omega
      subst e3
      refine S.iload (pc' := 170) dX12_duel_168 rfl rfl ?_
      refine S.iconst (pc' := 171) dX12_duel_170 rfl ?_
      refine S.icmp_ge (pc' := 174) (tgt := 269) dX12_duel_171 (by decide) rfl (by unfold fp_rng; omega) (by unfold fp_rng; omega) (fun h171 => ?_) (fun h171 => ?_)
      · exact K _ _ _
      · exfalso; omega
/-- the folds of a level -/
def fdF (N : fp_Mem) (F : Int → Int) (a b : Int) : Prop := ∀ u : Int, a ≤ u → u < b → N 193 u.toNat = F u
theorem xfold_v {x p q r n w k : Int} {j m : Nat} {s0 : dSt} {kd : Int} {Q : fp_Q} (hg : gOk g) (hs : dOkS g s0) (hp : 0 ≤ p ∧ p < 4) (hq : 0 ≤ q ∧ q < 4) (hm : m ≤ 6) (hj : j < m) (hk : k = j) (K : ∀ (N : fp_Mem) (v : Int) (o11 o12 o13 o14 o15 : Option Value), frX M N → fdF N (dFld g kd p q s0 m j) 0 (3 ^ j) → fp_S l G 3 kX12_duel 288 [some (rV G 177), some (iV x), some (iV p), some (iV q), some (iV r), some (iV n), some (iV w), some (iV (3 ^ j)), some (iV (dAcc g kd p q s0 m j (3 ^ j - 1) 3).2), some (iV k), some (iV v), o11, o12, o13, o14, o15] [] N Q) : ∀ (rr : Nat) (mvv v : Int) (N : fp_Mem) (o11 o12 o13 o14 o15 : Option Value), (3 ^ j - v).toNat < rr → 0 ≤ v → v ≤ 3 ^ j → (0 < v → mvv = (dAcc g kd p q s0 m j (v - 1) 3).2) → frX M N → fdF N (dFld g kd p q s0 m j) 0 v → fdF N (dFld g kd p q s0 m (j + 1)) (3 * v) (3 ^ (j + 1)) →
    fp_S l G 3 kX12_duel 150 [some (rV G 177), some (iV x), some (iV p), some (iV q), some (iV r), some (iV n), some (iV w), some (iV (3 ^ j)), some (iV mvv), some (iV k), some (iV v), o11, o12, o13, o14, o15] [] N Q := by
  have h1 := pow3_in (show j < 7 by omega)
  have h2 := pow3_in (show j + 1 < 7 by omega)
  have e2 : (3 : Int) ^ (j + 1) = 3 ^ j * 3 := Int.pow_succ 3 j
  generalize hTe : (3 : Int) ^ (j + 1) = T at *
  generalize hSe : (3 : Int) ^ j = SZ at *
  intro rr
  induction rr with
  | zero => intro mvv v N o11 o12 o13 o14 o15 h; omega
  | succ rr ih =>
    intro mvv v N o11 o12 o13 o14 o15 h v0 v1 hmo hf hA hB
    by_cases hlt : v < SZ
    · have h269 : ∀ (o13 o14 o15 : Option Value), fp_S l G 3 kX12_duel 269 [some (rV G 177), some (iV x), some (iV p), some (iV q), some (iV r), some (iV n), some (iV w), some (iV SZ), some (iV mvv), some (iV k), some (iV v), some (iV (dAcc g kd p q s0 m j v 3).1), some (iV (dAcc g kd p q s0 m j v 3).2), o13, o14, o15] [] N Q := by
        intro o13 o14 o15
        refine S.aload_n (pc' := 270) dX12_duel_269 rfl rfl rfl ?_
        refine S.getR (pc' := 273) dX12_duel_270 rfl fX12_60 L_177 rf_177_34 ?_
        refine S.iload (pc' := 275) dX12_duel_273 rfl rfl ?_
        refine S.iload (pc' := 277) dX12_duel_275 rfl rfl ?_
        refine S.iast (pc' := 278) dX12_duel_277 rfl L_193 (by omega) (by omega) ?_
        refine S.iload (pc' := 280) dX12_duel_278 rfl rfl ?_
        refine S.istore (pc' := 282) (LL' := [_, _, _, _, _, _, _, _, _, _, _, _, _, _, _, _]) dX12_duel_280 rfl (by decide) rfl rfl ?_
        refine S.iinc (pc' := 285) (LL' := [_, _, _, _, _, _, _, _, _, _, _, _, _, _, _, _]) dX12_duel_282 rfl (by decide) rfl rfl rfl ?_
        refine S.goto (pc' := 150) dX12_duel_285 (by decide) ?_
        refine ih _ _ _ _ _ _ _ _ (by omega) (by omega) (by omega) (fun _ => by rw [show v + 1 - 1 = v by omega]) (hf.trans (frX.fold _ _ _)) (fun u u0 u1 => ?_) (fun u u0 u1 => ?_)
        · rw [fp_up_at]
          by_cases e : u = v
          · rw [e, fp_upf_at]; exact dAcc_3 hj
          · rw [fp_upf_ne (by omega)]; exact hA u u0 (by omega)
        · rw [fp_up_at, fp_upf_ne (by omega)]; exact hB u (by omega) u1
      have hXX : ∀ i : Nat, i < 3 → N 193 (3 * v + (i : Int)).toNat = dFld g kd p q s0 m (j + 1) (3 * v + i) ∧ -9999 ≤ dFld g kd p q s0 m (j + 1) (3 * v + i) ∧ dFld g kd p q s0 m (j + 1) (3 * v + i) ≤ 120 := fun i hi => ⟨hB _ (by omega) (by omega), dFld_in hg hs hp hq hm (by omega)⟩
      have hm168 := xfold_m (l := l) (G := G) (N := N) (x := x) (p := p) (q := q) (r := r) (n := n) (w := w) (sz := SZ) (mvv := mvv) (k := k) (v := v) (Q := Q) (X := fun i => dFld g kd p q s0 m (j + 1) (3 * v + i)) (acc := fun i => dAcc g kd p q s0 m j v i) hXX (by omega) (by omega) (fun i hi => dAcc_in hg hs hp hq hm hj i hi) (fun i hi => by rw [hk]; exact dAcc_step hg hs hp hq hm hj hi) h269 4 0
      simp only [dAcc_0] at hm168
      refine S.iload (pc' := 152) dX12_duel_150 rfl rfl ?_
      refine S.iload (pc' := 154) dX12_duel_152 rfl rfl ?_
      refine S.icmp_ge (pc' := 157) (tgt := 288) dX12_duel_154 (by decide) rfl (by unfold fp_rng; omega) (by unfold fp_rng; omega) (fun h154 => ?_) (fun h154 => ?_)
      · exfalso; omega
      · refine S.sipush (pc' := 160) dX12_duel_157 rfl (by decide) ?_
        refine S.istore (pc' := 162) (LL' := [_, _, _, _, _, _, _, _, _, _, _, _, _, _, _, _]) dX12_duel_160 rfl (by decide) rfl rfl ?_
        refine S.iconst (pc' := 163) dX12_duel_162 rfl ?_
        refine S.istore (pc' := 165) (LL' := [_, _, _, _, _, _, _, _, _, _, _, _, _, _, _, _]) dX12_duel_163 rfl (by decide) rfl rfl ?_
        refine S.iconst (pc' := 166) dX12_duel_165 rfl ?_
        refine S.istore (pc' := 168) (LL' := [_, _, _, _, _, _, _, _, _, _, _, _, _, _, _, _]) dX12_duel_166 rfl (by decide) rfl rfl ?_
        exact hm168 _ _ (by omega) (by omega)
    · have ev : v = SZ := by omega
      have em := hmo (by omega)
      rw [ev] at em hA
      rw [em]
      refine S.iload (pc' := 152) dX12_duel_150 rfl rfl ?_
      refine S.iload (pc' := 154) dX12_duel_152 rfl rfl ?_
      refine S.icmp_ge (pc' := 157) (tgt := 288) dX12_duel_154 (by decide) rfl (by unfold fp_rng; omega) (by unfold fp_rng; omega) (fun h154 => ?_) (fun h154 => ?_)
      · exact K _ _ _ _ _ _ _ hf hA
      · exfalso; omega
theorem xfold_k {x p q r n w : Int} {m : Nat} {s0 : dSt} {kd : Int} {Q : fp_Q} (hg : gOk g) (hs : dOkS g s0) (hp : 0 ≤ p ∧ p < 4) (hq : 0 ≤ q ∧ q < 4) (hm0 : 0 < m) (hm : m ≤ 6) (K : ∀ (N : fp_Mem) (sz k : Int) (o10 o11 o12 o13 o14 o15 : Option Value), frX M N → N 193 0 = (dVal g kd p q m 0 s0).1 → fp_S l G 3 kX12_duel 294 [some (rV G 177), some (iV x), some (iV p), some (iV q), some (iV r), some (iV n), some (iV w), some (iV sz), some (iV (dVal g kd p q m 0 s0).2), some (iV k), o10, o11, o12, o13, o14, o15] [] N Q) : ∀ (j : Nat) (mvv k : Int) (N : fp_Mem) (o10 o11 o12 o13 o14 o15 : Option Value), j ≤ m → k + 1 = j → (j = 0 → mvv = (dVal g kd p q m 0 s0).2) → frX M N → fdF N (dFld g kd p q s0 m j) 0 (3 ^ j) →
    fp_S l G 3 kX12_duel 136 [some (rV G 177), some (iV x), some (iV p), some (iV q), some (iV r), some (iV n), some (iV w), some (iV (3 ^ j)), some (iV mvv), some (iV k), o10, o11, o12, o13, o14, o15] [] N Q := by
  intro j
  induction j with
  | zero =>
    intro mvv k N o10 o11 o12 o13 o14 o15 hj hk hmo hf hN
    have e0 : N 193 0 = (dVal g kd p q m 0 s0).1 := by
      have := hN 0 (by omega) (by decide)
      rw [show (0 : Int).toNat = 0 from rfl] at this
      rw [this]
      show 0 + (dVal g kd p q (m - 0) ((0 : Nat) : Int) s0).1 = _
      rw [Nat.sub_zero, Int.zero_add]
      rfl
    rw [hmo rfl]
    refine S.iload (pc' := 138) dX12_duel_136 rfl rfl ?_
    refine S.if_lt (pc' := 141) (tgt := 294) dX12_duel_138 (by decide) rfl (by unfold fp_rng; omega) (fun h138 => ?_) (fun h138 => ?_)
    · exact K _ _ _ _ _ _ _ _ _ hf e0
    · exfalso; omega
  | succ j ih =>
    intro mvv k N o10 o11 o12 o13 o14 o15 hj hk hmo hf hN
    have h1 := pow3_in (show j < 7 by omega)
    have h2 := pow3_in (show j + 1 < 7 by omega)
    have e2 : (3 : Int) ^ (j + 1) / 3 = 3 ^ j := by
      rw [Int.pow_succ 3 j]; exact Int.mul_ediv_cancel _ (by decide)
    have h288 : ∀ (N1 : fp_Mem) (v : Int) (o11 o12 o13 o14 o15 : Option Value), frX N N1 → fdF N1 (dFld g kd p q s0 m j) 0 (3 ^ j) → fp_S l G 3 kX12_duel 288 [some (rV G 177), some (iV x), some (iV p), some (iV q), some (iV r), some (iV n), some (iV w), some (iV (3 ^ j)), some (iV (dAcc g kd p q s0 m j (3 ^ j - 1) 3).2), some (iV k), some (iV v), o11, o12, o13, o14, o15] [] N1 Q := by
      intro N1 v o11 o12 o13 o14 o15 f1 n1
      refine S.iinc (pc' := 291) (LL' := [_, _, _, _, _, _, _, _, _, _, _, _, _, _, _, _]) dX12_duel_288 rfl (by decide) rfl rfl rfl ?_
      refine S.goto (pc' := 136) dX12_duel_291 (by decide) ?_
      exact ih _ _ _ _ _ _ _ _ _ (by omega) (by omega) (fun e => by subst e; exact dAcc_end hm0) (hf.trans f1) n1
    refine S.iload (pc' := 138) dX12_duel_136 rfl rfl ?_
    refine S.if_lt (pc' := 141) (tgt := 294) dX12_duel_138 (by decide) rfl (by unfold fp_rng; omega) (fun h138 => ?_) (fun h138 => ?_)
    · exfalso; omega
    · refine S.iload (pc' := 143) dX12_duel_141 rfl rfl ?_
      refine S.iconst (pc' := 144) dX12_duel_143 rfl ?_
      refine S.idiv (pc' := 145) dX12_duel_144 rfl (by decide) (fp_idiv (by omega) (by omega)) ?_
      rw [e2]
      refine S.istore (pc' := 147) (LL' := [_, _, _, _, _, _, _, _, _, _, _, _, _, _, _, _]) dX12_duel_145 rfl (by decide) rfl rfl ?_
      refine S.iconst (pc' := 148) dX12_duel_147 rfl ?_
      refine S.istore (pc' := 150) (LL' := [_, _, _, _, _, _, _, _, _, _, _, _, _, _, _, _]) dX12_duel_148 rfl (by decide) rfl rfl ?_
      exact xfold_v (M := N) (j := j) (m := m) hg hs hp hq hm (by omega) (by omega) h288 _ _ 0 _ _ _ _ _ _ (Nat.lt_succ_self _) (by omega) (by omega) (fun e => by omega) (frX.refl _) (fun u u0 u1 => by omega) (fun u u0 u1 => hN u (by omega) u1)
theorem xplay_v {x p q r n w : Int} {m : Nat} {Q : fp_Q} (hm : m < 7) (hnm : n = m) (hn : 1 ≤ n ∧ n ≤ 6) (hg : gOk g) (hP : pgOk g pg) (hx : 0 ≤ x ∧ x < g.2.1) (hp : 0 ≤ p ∧ p < 4) (hq : 0 ≤ q ∧ q < 4) (hr : 0 ≤ r ∧ r ≤ 2) (hs0 : dOkS g (pg.2.2 x, r, r)) (hd : mdIs M g) (hc : mpIs M 0 g pg) (K : ∀ (N : fp_Mem) (v : Int), frX M N → fdF N (dFld g (g.2.2.2.2.2 x) p q (pg.2.2 x, r, r) m m) 0 (3 ^ m) → fp_S l G 3 kX12_duel 127 [some (rV G 177), some (iV x), some (iV p), some (iV q), some (iV r), some (iV n), some (iV w), some (iV (3 ^ m)), some (iV v), none, none, none, none, none, none, none] [] N Q) : ∀ (rr : Nat) (v : Int) (N : fp_Mem), (3 ^ m - v).toNat < rr → 0 ≤ v → v ≤ 3 ^ m → frX M N → fdF N (dFld g (g.2.2.2.2.2 x) p q (pg.2.2 x, r, r) m m) 0 v →
    fp_S l G 3 kX12_duel 94 [some (rV G 177), some (iV x), some (iV p), some (iV q), some (iV r), some (iV n), some (iV w), some (iV (3 ^ m)), some (iV v), none, none, none, none, none, none, none] [] N Q := by
  have h1 := pow3_in hm
  generalize hSe : (3 : Int) ^ m = SZ at *
  intro rr
  induction rr with
  | zero => intro v N h; omega
  | succ rr ih =>
    intro v N h v0 v1 hf hN
    by_cases hlt : v < SZ
    · have dN := hf.md hd
      have cN := hf.mp0 hg hP hc
      refine S.iload (pc' := 96) dX12_duel_94 rfl rfl ?_
      refine S.iload (pc' := 98) dX12_duel_96 rfl rfl ?_
      refine S.icmp_ge (pc' := 101) (tgt := 127) dX12_duel_98 (by decide) rfl (by unfold fp_rng; omega) (by unfold fp_rng; omega) (fun h98 => ?_) (fun h98 => ?_)
      · exfalso; omega
      · refine S.aload_n (pc' := 102) dX12_duel_101 rfl rfl rfl ?_
        refine S.getR (pc' := 105) dX12_duel_102 rfl fX12_60 L_177 rf_177_34 ?_
        refine S.iload (pc' := 107) dX12_duel_105 rfl rfl ?_
        refine S.aload_n (pc' := 108) dX12_duel_107 rfl rfl rfl ?_
        refine S.iload_n (pc' := 109) dX12_duel_108 rfl rfl rfl ?_
        refine S.iload_n (pc' := 110) dX12_duel_109 rfl rfl rfl ?_
        refine S.iload_n (pc' := 111) dX12_duel_110 rfl rfl rfl ?_
        refine S.iload (pc' := 113) dX12_duel_111 rfl rfl ?_
        refine S.iload (pc' := 115) dX12_duel_113 rfl rfl ?_
        refine S.iload (pc' := 117) dX12_duel_115 rfl rfl ?_
        refine S.callVi (pc' := 120) dX12_duel_117 rfl cX12_306 (xk_X12_plays (mv := v) hg hP hx hp hq hr hn (by omega) hs0 dN cN) rfl L_177 (by decide) rfl (Nat.le_of_ble_eq_true rfl) (fun z117 M117 q117 => ?_)
        refine S.iast (pc' := 121) dX12_duel_120 rfl L_193 (by omega) (by omega) ?_
        refine S.iinc (pc' := 124) (LL' := [_, _, _, _, _, _, _, _, _, _, _, _, _, _, _, _]) dX12_duel_121 rfl (by decide) rfl rfl rfl ?_
        refine S.goto (pc' := 94) dX12_duel_124 (by decide) ?_
        obtain ⟨z1, f1⟩ := q117
        have f2 : frX M M117 := hf.trans ⟨fun c a1 _ => f1.1 c a1, f1.2⟩
        refine ih _ _ (by omega) (by omega) (by omega) (f2.trans (frX.fold _ _ _)) (fun i i0 i1 => ?_)
        rw [fp_up_at]
        by_cases e : i = v
        · rw [e, fp_upf_at, z1, dFld_n, show n.toNat = m by omega]
        · rw [fp_upf_ne (by omega), f1.1 193 (by decide)]; exact hN i i0 (by omega)
    · have e : v = SZ := by omega
      refine S.iload (pc' := 96) dX12_duel_94 rfl rfl ?_
      refine S.iload (pc' := 98) dX12_duel_96 rfl rfl ?_
      refine S.icmp_ge (pc' := 101) (tgt := 127) dX12_duel_98 (by decide) rfl (by unfold fp_rng; omega) (by unfold fp_rng; omega) (fun h98 => ?_) (fun h98 => ?_)
      · exact K _ _ hf (by rw [← e]; exact hN)
      · exfalso; omega
theorem mm_duel {x p q r n w : Int} (hc : MS M tp fl g pg vs nt im sh tn) (ho : OK g pg vs nt im sh) (hx : fp_rng x) (hp : fp_rng p) (hq : fp_rng q) (hr : fp_rng r) (hn : fp_rng n) (hw : fp_rng w) : fp_Ok l G 3 kX12_duel [rV G 177, iV x, iV p, iV q, iV r, iV n, iV w] M (qI fun z N => z = A_duel g pg x p q r n w ∧ MS N tp fl g pg vs nt im sh tn ∧ frD M N) := by
  have hcs := hc
  obtain ⟨-, hd, hcl, hv, -⟩ := hc
  have hg := ho.1
  have hP := ho.2.1
  have e5 : M 177 5 = g.2.1 := hd.2.1
  have hg2 := hg.2.1
  have hx' := hx
  have hp' := hp
  have hq' := hq
  have hr' := hr
  have hn' := hn
  have hw' := hw
  unfold fp_rng at hx' hp' hq' hr' hn' hw'
  unfold A_duel
  refine fp_Ok.of (r := 9) rfl (Nat.le_of_ble_eq_true rfl) rfl ?_
  have h66 : (0 ≤ x ∧ x < g.2.1) → (0 ≤ p ∧ p < 4) → (0 ≤ q ∧ q < 4) → p ≠ q → (0 ≤ r ∧ r ≤ 2) → (1 ≤ n ∧ n ≤ 6) → (0 ≤ w ∧ w ≤ 1) → fp_S l G 3 kX12_duel 66 [some (rV G 177), some (iV x), some (iV p), some (iV q), some (iV r), some (iV n), some (iV w), none, none, none, none, none, none, none, none, none] [] M (qI fun z N => z = (if w = 0 then 1000 + (dVal g (g.2.2.2.2.2 x) p q n.toNat 0 (pg.2.2 x, r, r)).1 else (dVal g (g.2.2.2.2.2 x) p q n.toNat 0 (pg.2.2 x, r, r)).2) ∧ MS N tp fl g pg vs nt im sh tn ∧ frD M N) := by
    intro ix ip iq ipq ir inn iw
    obtain ⟨m, hm⟩ : ∃ m : Nat, n = (m : Int) := ⟨n.toNat, by omega⟩
    have hl := hP.2.1 x (by omega) (by omega)
    have hs0 : dOkS g (pg.2.2 x, r, r) := ⟨hl.1, fun t ht => Or.inl ⟨(hl.2.2.2 t ht).1, (hl.2.2.2 t ht).2.1⟩, ir, ir⟩
    have em : n.toNat = m := by omega
    rw [em]
    have hvi := dVal_in (kind := g.2.2.2.2.2 x) hg ip iq m 0 _ hs0
    have h294 : ∀ (N : fp_Mem) (sz k : Int) (o10 o11 o12 o13 o14 o15 : Option Value), frX M N → N 193 0 = (dVal g (g.2.2.2.2.2 x) p q m 0 (pg.2.2 x, r, r)).1 → fp_S l G 3 kX12_duel 294 [some (rV G 177), some (iV x), some (iV p), some (iV q), some (iV r), some (iV n), some (iV w), some (iV sz), some (iV (dVal g (g.2.2.2.2.2 x) p q m 0 (pg.2.2 x, r, r)).2), some (iV k), o10, o11, o12, o13, o14, o15] [] N (qI fun z N => z = (if w = 0 then 1000 + (dVal g (g.2.2.2.2.2 x) p q m 0 (pg.2.2 x, r, r)).1 else (dVal g (g.2.2.2.2.2 x) p q m 0 (pg.2.2 x, r, r)).2) ∧ MS N tp fl g pg vs nt im sh tn ∧ frD M N) := by
      intro N sz k o10 o11 o12 o13 o14 o15 f1 e0
      refine S.iload (pc' := 296) dX12_duel_294 rfl rfl ?_
      refine S.if_ne (pc' := 299) (tgt := 312) dX12_duel_296 (by decide) rfl hw (fun h296 => ?_) (fun h296 => ?_)
      · refine S.iload (pc' := 314) dX12_duel_312 rfl rfl ?_
        refine S.iret dX12_duel_314 rfl ?_
        first
        | exact ⟨by rw [if_pos (by omega), ← e0]; rfl, hcs.xx ho f1, f1.d⟩
        | exact ⟨by rw [if_neg (by omega)], hcs.xx ho f1, f1.d⟩
      · refine S.sipush (pc' := 302) dX12_duel_299 rfl (by decide) ?_
        refine S.aload_n (pc' := 303) dX12_duel_302 rfl rfl rfl ?_
        refine S.getR (pc' := 306) dX12_duel_303 rfl fX12_60 L_177 rf_177_34 ?_
        refine S.iconst (pc' := 307) dX12_duel_306 rfl ?_
        refine S.iald (pc' := 308) dX12_duel_307 rfl L_193 (by omega) (by omega) ?_
        refine S.iadd (pc' := 309) dX12_duel_308 rfl ?_
        refine S.goto (pc' := 314) dX12_duel_309 (by decide) ?_
        refine S.iret dX12_duel_314 rfl ?_
        first
        | exact ⟨by rw [if_pos (by omega), ← e0]; rfl, hcs.xx ho f1, f1.d⟩
        | exact ⟨by rw [if_neg (by omega)], hcs.xx ho f1, f1.d⟩
    have h127 : ∀ (N : fp_Mem) (v : Int), frX M N → fdF N (dFld g (g.2.2.2.2.2 x) p q (pg.2.2 x, r, r) m m) 0 (3 ^ m) → fp_S l G 3 kX12_duel 127 [some (rV G 177), some (iV x), some (iV p), some (iV q), some (iV r), some (iV n), some (iV w), some (iV (3 ^ m)), some (iV v), none, none, none, none, none, none, none] [] N (qI fun z N => z = (if w = 0 then 1000 + (dVal g (g.2.2.2.2.2 x) p q m 0 (pg.2.2 x, r, r)).1 else (dVal g (g.2.2.2.2.2 x) p q m 0 (pg.2.2 x, r, r)).2) ∧ MS N tp fl g pg vs nt im sh tn ∧ frD M N) := by
      intro N v f1 n1
      refine S.iconst (pc' := 128) dX12_duel_127 rfl ?_
      refine S.istore (pc' := 130) (LL' := [_, _, _, _, _, _, _, _, _, _, _, _, _, _, _, _]) dX12_duel_128 rfl (by decide) rfl rfl ?_
      refine S.iload (pc' := 132) dX12_duel_130 rfl rfl ?_
      refine S.iconst (pc' := 133) dX12_duel_132 rfl ?_
      refine S.isub (pc' := 134) dX12_duel_133 rfl ?_
      refine S.istore (pc' := 136) (LL' := [_, _, _, _, _, _, _, _, _, _, _, _, _, _, _, _]) dX12_duel_134 rfl (by decide) rfl rfl ?_
      exact xfold_k hg hs0 ip iq (by omega) (by omega) h294 m _ _ _ _ _ _ _ _ _ (Nat.le_refl _) (by omega) (fun e => by omega) f1 n1
    have h91 : fp_S l G 3 kX12_duel 91 [some (rV G 177), some (iV x), some (iV p), some (iV q), some (iV r), some (iV n), some (iV w), some (iV (3 ^ m)), some (iV n), none, none, none, none, none, none, none] [] M (qI fun z N => z = (if w = 0 then 1000 + (dVal g (g.2.2.2.2.2 x) p q m 0 (pg.2.2 x, r, r)).1 else (dVal g (g.2.2.2.2.2 x) p q m 0 (pg.2.2 x, r, r)).2) ∧ MS N tp fl g pg vs nt im sh tn ∧ frD M N) := by
      have h1 := pow3_in (show m < 7 by omega)
      refine S.iconst (pc' := 92) dX12_duel_91 rfl ?_
      refine S.istore (pc' := 94) (LL' := [_, _, _, _, _, _, _, _, _, _, _, _, _, _, _, _]) dX12_duel_92 rfl (by decide) rfl rfl ?_
      exact xplay_v (m := m) (by omega) hm inn hg hP ix ip iq ir hs0 hd hcl h127 _ 0 M (Nat.lt_succ_self _) (by omega) (by omega) (frX.refl _) (fun i i0 i1 => by omega)
    have h72 : ∀ (rr j : Nat), m - j < rr → j ≤ m → fp_S l G 3 kX12_duel 72 [some (rV G 177), some (iV x), some (iV p), some (iV q), some (iV r), some (iV n), some (iV w), some (iV (3 ^ j)), some (iV (j : Int)), none, none, none, none, none, none, none] [] M (qI fun z N => z = (if w = 0 then 1000 + (dVal g (g.2.2.2.2.2 x) p q m 0 (pg.2.2 x, r, r)).1 else (dVal g (g.2.2.2.2.2 x) p q m 0 (pg.2.2 x, r, r)).2) ∧ MS N tp fl g pg vs nt im sh tn ∧ frD M N) := by
      intro rr
      induction rr with
      | zero => intro j h; omega
      | succ rr ih =>
        intro j h hj
        by_cases he : j < m
        · refine S.iload (pc' := 74) dX12_duel_72 rfl rfl ?_
          refine S.iload (pc' := 76) dX12_duel_74 rfl rfl ?_
          refine S.icmp_ge (pc' := 79) (tgt := 91) dX12_duel_76 (by decide) rfl (by unfold fp_rng; omega) (by unfold fp_rng; omega) (fun h76 => ?_) (fun h76 => ?_)
          · exfalso; omega
          · refine S.iload (pc' := 81) dX12_duel_79 rfl rfl ?_
            refine S.iconst (pc' := 82) dX12_duel_81 rfl ?_
            refine S.imul (pc' := 83) dX12_duel_82 rfl ?_
            refine S.istore (pc' := 85) (LL' := [_, _, _, _, _, _, _, _, _, _, _, _, _, _, _, _]) dX12_duel_83 rfl (by decide) rfl rfl ?_
            refine S.iinc (pc' := 88) (LL' := [_, _, _, _, _, _, _, _, _, _, _, _, _, _, _, _]) dX12_duel_85 rfl (by decide) rfl rfl rfl ?_
            refine S.goto (pc' := 72) dX12_duel_88 (by decide) ?_
            rw [show (3 : Int) ^ j * 3 = 3 ^ (j + 1) from (Int.pow_succ 3 j).symm, show ((j : Int) + 1) = ((j + 1 : Nat) : Int) by omega]
            exact ih (j + 1) (by omega) (by omega)
        · have e : j = m := by omega
          subst e
          rw [hm] at h91 ⊢
          refine S.iload (pc' := 74) dX12_duel_72 rfl rfl ?_
          refine S.iload (pc' := 76) dX12_duel_74 rfl rfl ?_
          refine S.icmp_ge (pc' := 79) (tgt := 91) dX12_duel_76 (by decide) rfl (by unfold fp_rng; omega) (by unfold fp_rng; omega) (fun h76 => ?_) (fun h76 => ?_)
          · exact h91
          · exfalso; omega
    refine S.iconst (pc' := 67) dX12_duel_66 rfl ?_
    refine S.istore (pc' := 69) (LL' := [_, _, _, _, _, _, _, _, _, _, _, _, _, _, _, _]) dX12_duel_67 rfl (by decide) rfl rfl ?_
    refine S.iconst (pc' := 70) dX12_duel_69 rfl ?_
    refine S.istore (pc' := 72) (LL' := [_, _, _, _, _, _, _, _, _, _, _, _, _, _, _, _]) dX12_duel_70 rfl (by decide) rfl rfl ?_
    exact h72 (m + 1) 0 (by omega) (by omega)
  by_cases hall : (((0 ≤ x ∧ x < g.2.1) ∧ (0 ≤ p ∧ p < 4) ∧ (0 ≤ q ∧ q < 4) ∧ p ≠ q) ∧ (0 ≤ r ∧ r ≤ 2) ∧ (1 ≤ n ∧ n ≤ 6) ∧ (0 ≤ w ∧ w ≤ 1))
  · rw [if_pos hall]
    refine S.aload_n (pc' := 1) dX12_duel_0 rfl rfl rfl ?_
    refine S.iload_n (pc' := 2) dX12_duel_1 rfl rfl rfl ?_
    refine S.callVi (pc' := 5) dX12_duel_2 rfl cX12_219 (bk_X12_isLine) rfl L_177 (by decide) rfl (Nat.le_of_ble_eq_true rfl) (fun z2 M2 q2 => ?_)
    obtain ⟨b2, rfl⟩ := q2
    refine S.if_eq (pc' := 8) (tgt := 64) dX12_duel_5 (by decide) rfl (by unfold fp_rng; omega) (fun h5 => ?_) (fun h5 => ?_)
    · refine S.iconst (pc' := 65) dX12_duel_64 rfl ?_
      refine S.iret dX12_duel_65 rfl ?_
      exfalso; omega
    · refine S.iload_n (pc' := 9) dX12_duel_8 rfl rfl rfl ?_
      refine S.callSi (pc' := 12) dX12_duel_9 rfl cX12_228 (bk_X12_isOne) rfl (by decide) rfl (Nat.le_of_ble_eq_true rfl) (fun z9 M9 q9 => ?_)
      obtain ⟨b9, rfl⟩ := q9
      refine S.if_eq (pc' := 15) (tgt := 64) dX12_duel_12 (by decide) rfl (by unfold fp_rng; omega) (fun h12 => ?_) (fun h12 => ?_)
      · refine S.iconst (pc' := 65) dX12_duel_64 rfl ?_
        refine S.iret dX12_duel_65 rfl ?_
        exfalso; omega
      · refine S.iload_n (pc' := 16) dX12_duel_15 rfl rfl rfl ?_
        refine S.callSi (pc' := 19) dX12_duel_16 rfl cX12_228 (bk_X12_isOne) rfl (by decide) rfl (Nat.le_of_ble_eq_true rfl) (fun z16 M16 q16 => ?_)
        obtain ⟨b16, rfl⟩ := q16
        refine S.if_eq (pc' := 22) (tgt := 64) dX12_duel_19 (by decide) rfl (by unfold fp_rng; omega) (fun h19 => ?_) (fun h19 => ?_)
        · refine S.iconst (pc' := 65) dX12_duel_64 rfl ?_
          refine S.iret dX12_duel_65 rfl ?_
          exfalso; omega
        · refine S.iload_n (pc' := 23) dX12_duel_22 rfl rfl rfl ?_
          refine S.iload_n (pc' := 24) dX12_duel_23 rfl rfl rfl ?_
          refine S.icmp_eq (pc' := 27) (tgt := 64) dX12_duel_24 (by decide) rfl hp hq (fun h24 => ?_) (fun h24 => ?_)
          · refine S.iconst (pc' := 65) dX12_duel_64 rfl ?_
            refine S.iret dX12_duel_65 rfl ?_
            exfalso; omega
          · refine S.iload (pc' := 29) dX12_duel_27 rfl rfl ?_
            refine S.i2l (pc' := 30) dX12_duel_29 rfl hr ?_
            refine S.lconst (pc' := 31) (w := 0) dX12_duel_30 rfl rfl ?_
            refine S.ldc2 (pc' := 34) (v := 2) dX12_duel_31 rfl lX12_271 (by decide) ?_
            refine S.callSi (pc' := 37) dX12_duel_34 rfl cX12_94 (bk_X12_in) rfl (by decide) rfl (Nat.le_of_ble_eq_true rfl) (fun z34 M34 q34 => ?_)
            obtain ⟨b34, rfl⟩ := q34
            refine S.if_eq (pc' := 40) (tgt := 64) dX12_duel_37 (by decide) rfl (by unfold fp_rng; omega) (fun h37 => ?_) (fun h37 => ?_)
            · refine S.iconst (pc' := 65) dX12_duel_64 rfl ?_
              refine S.iret dX12_duel_65 rfl ?_
              exfalso; omega
            · refine S.iload (pc' := 42) dX12_duel_40 rfl rfl ?_
              refine S.i2l (pc' := 43) dX12_duel_42 rfl hn ?_
              refine S.lconst (pc' := 44) (w := 1) dX12_duel_43 rfl rfl ?_
              refine S.ldc2 (pc' := 47) (v := 6) dX12_duel_44 rfl lX12_304 (by decide) ?_
              refine S.callSi (pc' := 50) dX12_duel_47 rfl cX12_94 (bk_X12_in) rfl (by decide) rfl (Nat.le_of_ble_eq_true rfl) (fun z47 M47 q47 => ?_)
              obtain ⟨b47, rfl⟩ := q47
              refine S.if_eq (pc' := 53) (tgt := 64) dX12_duel_50 (by decide) rfl (by unfold fp_rng; omega) (fun h50 => ?_) (fun h50 => ?_)
              · refine S.iconst (pc' := 65) dX12_duel_64 rfl ?_
                refine S.iret dX12_duel_65 rfl ?_
                exfalso; omega
              · refine S.iload (pc' := 55) dX12_duel_53 rfl rfl ?_
                refine S.i2l (pc' := 56) dX12_duel_55 rfl hw ?_
                refine S.lconst (pc' := 57) (w := 0) dX12_duel_56 rfl rfl ?_
                refine S.lconst (pc' := 58) (w := 1) dX12_duel_57 rfl rfl ?_
                refine S.callSi (pc' := 61) dX12_duel_58 rfl cX12_94 (bk_X12_in) rfl (by decide) rfl (Nat.le_of_ble_eq_true rfl) (fun z58 M58 q58 => ?_)
                obtain ⟨b58, rfl⟩ := q58
                refine S.if_ne (pc' := 64) (tgt := 66) dX12_duel_61 (by decide) rfl (by unfold fp_rng; omega) (fun h61 => ?_) (fun h61 => ?_)
                · exact h66 (by omega) (by omega) (by omega) (by omega) (by omega) (by omega) (by omega)
                · refine S.iconst (pc' := 65) dX12_duel_64 rfl ?_
                  refine S.iret dX12_duel_65 rfl ?_
                  exfalso; omega
  · rw [if_neg hall]
    refine S.aload_n (pc' := 1) dX12_duel_0 rfl rfl rfl ?_
    refine S.iload_n (pc' := 2) dX12_duel_1 rfl rfl rfl ?_
    refine S.callVi (pc' := 5) dX12_duel_2 rfl cX12_219 (bk_X12_isLine) rfl L_177 (by decide) rfl (Nat.le_of_ble_eq_true rfl) (fun z2 M2 q2 => ?_)
    obtain ⟨b2, rfl⟩ := q2
    refine S.if_eq (pc' := 8) (tgt := 64) dX12_duel_5 (by decide) rfl (by unfold fp_rng; omega) (fun h5 => ?_) (fun h5 => ?_)
    · refine S.iconst (pc' := 65) dX12_duel_64 rfl ?_
      refine S.iret dX12_duel_65 rfl ?_
      exact ⟨rfl, hcs, frD.refl _⟩
    · refine S.iload_n (pc' := 9) dX12_duel_8 rfl rfl rfl ?_
      refine S.callSi (pc' := 12) dX12_duel_9 rfl cX12_228 (bk_X12_isOne) rfl (by decide) rfl (Nat.le_of_ble_eq_true rfl) (fun z9 M9 q9 => ?_)
      obtain ⟨b9, rfl⟩ := q9
      refine S.if_eq (pc' := 15) (tgt := 64) dX12_duel_12 (by decide) rfl (by unfold fp_rng; omega) (fun h12 => ?_) (fun h12 => ?_)
      · refine S.iconst (pc' := 65) dX12_duel_64 rfl ?_
        refine S.iret dX12_duel_65 rfl ?_
        exact ⟨rfl, hcs, frD.refl _⟩
      · refine S.iload_n (pc' := 16) dX12_duel_15 rfl rfl rfl ?_
        refine S.callSi (pc' := 19) dX12_duel_16 rfl cX12_228 (bk_X12_isOne) rfl (by decide) rfl (Nat.le_of_ble_eq_true rfl) (fun z16 M16 q16 => ?_)
        obtain ⟨b16, rfl⟩ := q16
        refine S.if_eq (pc' := 22) (tgt := 64) dX12_duel_19 (by decide) rfl (by unfold fp_rng; omega) (fun h19 => ?_) (fun h19 => ?_)
        · refine S.iconst (pc' := 65) dX12_duel_64 rfl ?_
          refine S.iret dX12_duel_65 rfl ?_
          exact ⟨rfl, hcs, frD.refl _⟩
        · refine S.iload_n (pc' := 23) dX12_duel_22 rfl rfl rfl ?_
          refine S.iload_n (pc' := 24) dX12_duel_23 rfl rfl rfl ?_
          refine S.icmp_eq (pc' := 27) (tgt := 64) dX12_duel_24 (by decide) rfl hp hq (fun h24 => ?_) (fun h24 => ?_)
          · refine S.iconst (pc' := 65) dX12_duel_64 rfl ?_
            refine S.iret dX12_duel_65 rfl ?_
            exact ⟨rfl, hcs, frD.refl _⟩
          · refine S.iload (pc' := 29) dX12_duel_27 rfl rfl ?_
            refine S.i2l (pc' := 30) dX12_duel_29 rfl hr ?_
            refine S.lconst (pc' := 31) (w := 0) dX12_duel_30 rfl rfl ?_
            refine S.ldc2 (pc' := 34) (v := 2) dX12_duel_31 rfl lX12_271 (by decide) ?_
            refine S.callSi (pc' := 37) dX12_duel_34 rfl cX12_94 (bk_X12_in) rfl (by decide) rfl (Nat.le_of_ble_eq_true rfl) (fun z34 M34 q34 => ?_)
            obtain ⟨b34, rfl⟩ := q34
            refine S.if_eq (pc' := 40) (tgt := 64) dX12_duel_37 (by decide) rfl (by unfold fp_rng; omega) (fun h37 => ?_) (fun h37 => ?_)
            · refine S.iconst (pc' := 65) dX12_duel_64 rfl ?_
              refine S.iret dX12_duel_65 rfl ?_
              exact ⟨rfl, hcs, frD.refl _⟩
            · refine S.iload (pc' := 42) dX12_duel_40 rfl rfl ?_
              refine S.i2l (pc' := 43) dX12_duel_42 rfl hn ?_
              refine S.lconst (pc' := 44) (w := 1) dX12_duel_43 rfl rfl ?_
              refine S.ldc2 (pc' := 47) (v := 6) dX12_duel_44 rfl lX12_304 (by decide) ?_
              refine S.callSi (pc' := 50) dX12_duel_47 rfl cX12_94 (bk_X12_in) rfl (by decide) rfl (Nat.le_of_ble_eq_true rfl) (fun z47 M47 q47 => ?_)
              obtain ⟨b47, rfl⟩ := q47
              refine S.if_eq (pc' := 53) (tgt := 64) dX12_duel_50 (by decide) rfl (by unfold fp_rng; omega) (fun h50 => ?_) (fun h50 => ?_)
              · refine S.iconst (pc' := 65) dX12_duel_64 rfl ?_
                refine S.iret dX12_duel_65 rfl ?_
                exact ⟨rfl, hcs, frD.refl _⟩
              · refine S.iload (pc' := 55) dX12_duel_53 rfl rfl ?_
                refine S.i2l (pc' := 56) dX12_duel_55 rfl hw ?_
                refine S.lconst (pc' := 57) (w := 0) dX12_duel_56 rfl rfl ?_
                refine S.lconst (pc' := 58) (w := 1) dX12_duel_57 rfl rfl ?_
                refine S.callSi (pc' := 61) dX12_duel_58 rfl cX12_94 (bk_X12_in) rfl (by decide) rfl (Nat.le_of_ble_eq_true rfl) (fun z58 M58 q58 => ?_)
                obtain ⟨b58, rfl⟩ := q58
                refine S.if_ne (pc' := 64) (tgt := 66) dX12_duel_61 (by decide) rfl (by unfold fp_rng; omega) (fun h61 => ?_) (fun h61 => ?_)
                · exfalso; omega
                · refine S.iconst (pc' := 65) dX12_duel_64 rfl ?_
                  refine S.iret dX12_duel_65 rfl ?_
                  exact ⟨rfl, hcs, frD.refl _⟩
end MDZ
