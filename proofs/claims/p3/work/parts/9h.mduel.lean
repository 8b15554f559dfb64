/-! duel: the reference returns and keeps the state: one row of moves -/
theorem pow3_in {j : Nat} (h : j < 7) : 1 ≤ (3 : Int) ^ j ∧ (3 : Int) ^ j ≤ 729 := by
  have q : ∀ j : Nat, j < 7 → 1 ≤ (3 : Int) ^ j ∧ (3 : Int) ^ j ≤ 729 := by decide +kernel
  exact q j h
/-- what lies in one line of the trial's page, in bounds -/
def tOk (f : Nat → Int) (x : Int) : Prop := (0 ≤ f (360 + 10 + 9 * x).toNat ∧ f (360 + 10 + 9 * x).toNat ≤ 8) ∧ ∀ i : Int, 0 ≤ i → i < f (360 + 10 + 9 * x).toNat → 0 ≤ f (360 + 10 + 9 * x + 1 + i).toNat ∧ f (360 + 10 + 9 * x + 1 + i).toNat ≤ 10
theorem tOk.lay {f : Nat → Int} {x t : Int} (h : tOk f x) (hx : 0 ≤ x ∧ x < 3) (ht : 0 ≤ t ∧ t ≤ 10) (hl : f (360 + 10 + 9 * x).toNat < 8) : tOk (md_lay f (360 + 10 + 9 * x) t (f (360 + 10 + 9 * x).toNat)) x := by
  have e0 : md_lay f (360 + 10 + 9 * x) t (f (360 + 10 + 9 * x).toNat) (360 + 10 + 9 * x).toNat = f (360 + 10 + 9 * x).toNat + 1 := by unfold md_lay; rw [if_pos (by omega)]
  have h0 := h.1
  refine ⟨by rw [e0]; omega, fun i i0 i1 => ?_⟩
  rw [e0] at i1
  unfold md_lay
  rw [if_neg (by omega)]
  by_cases e : i = f (360 + 10 + 9 * x).toNat
  · rw [if_pos (by omega)]; exact ht
  · rw [if_neg (by omega), if_neg (by omega)]; exact h.2 i i0 (by omega)
theorem tOk.take {f : Nat → Int} {x s : Int} (h : tOk f x) (hx : 0 ≤ x ∧ x < 3) (hs : 0 ≤ s ∧ s < f (360 + 10 + 9 * x).toNat) : tOk (md_take f (360 + 10 + 9 * x) s) x := by
  have e0 : md_take f (360 + 10 + 9 * x) s (360 + 10 + 9 * x).toNat = f (360 + 10 + 9 * x).toNat - 1 := by unfold md_take; rw [if_pos (by omega)]
  have h0 := h.1
  refine ⟨by rw [e0]; omega, fun i i0 i1 => ?_⟩
  rw [e0] at i1
  unfold md_take
  rw [if_neg (by omega)]
  split
  · have := h.2 (i + 1) (by omega) (by omega)
    rw [show (360 + 10 + 9 * x + 1 + (i + 1)).toNat = (360 + 10 + 9 * x + 1 + i).toNat + 1 by omega] at this
    exact this
  · exact h.2 i i0 (by omega)
section MDU
variable {l : Launch} {G : fp_WG} {M N : fp_Mem} {g : aGd} {pg : aPg} {vs : List aVt}
theorem plays_loop {x p q r n mv : Int} (hx : 0 ≤ x ∧ x < 3) (hp : 0 ≤ p ∧ p < 4) (hq : 0 ≤ q ∧ q < 4) (hn : 1 ≤ n ∧ n ≤ 6) (hmv : 0 ≤ mv ∧ mv ≤ 728) (hd : md_ok M) : ∀ (rr : Nat) (k of sum own other : Int) (N : fp_Mem) (o12 o13 o14 : Option Value), (n - k).toNat < rr → 0 ≤ k → k ≤ n → 1 ≤ of ∧ of ≤ 729 → -(20 * k) ≤ sum ∧ sum ≤ 20 * k → 0 ≤ own ∧ own ≤ 2 → 0 ≤ other ∧ other ≤ 2 → frT M N → tOk (N 178) x →
    fp_S l G 2 kX12_plays 47 [some (rV G 177), some (iV x), some (iV p), some (iV q), some (iV r), some (iV n), some (iV mv), some (iV of), some (iV sum), some (iV own), some (iV other), some (iV k), o12, o13, o14] [] N (qI fun z O => (-9999 ≤ z ∧ z ≤ 120) ∧ frT M O) := by
  intro rr
  induction rr with
  | zero => intro k of sum own other N o12 o13 o14 h; omega
  | succ rr ih =>
    intro k of sum own other N o12 o13 o14 h k0 k1 hof hsum hown hoth hf hT
    have dN : md_ok N := by
      unfold md_ok at hd ⊢
      rw [hf.1 177 (by decide), hf.1 179 (by decide), hf.1 180 (by decide), hf.1 181 (by decide)]; exact hd
    have hT1 := hT.1
    have hT2 := hT.2
    by_cases hlt : k < n
    · have h252 : ∀ (of sum own other fi mo : Int) (O : fp_Mem) (o14 : Option Value), 1 ≤ of ∧ of ≤ 729 → -(20 * (k + 1)) ≤ sum ∧ sum ≤ 20 * (k + 1) → 0 ≤ own ∧ own ≤ 2 → 0 ≤ other ∧ other ≤ 2 → frT M O → tOk (O 178) x → fp_S l G 2 kX12_plays 252 [some (rV G 177), some (iV x), some (iV p), some (iV q), some (iV r), some (iV n), some (iV mv), some (iV of), some (iV sum), some (iV own), some (iV other), some (iV k), some (iV fi), some (iV mo), o14] [] O (qI fun z O => (-9999 ≤ z ∧ z ≤ 120) ∧ frT M O) := by
        intro of sum own other fi mo O o14 a1 a2 a3 a4 a5 a6
        refine S.iinc (pc' := 255) (LL' := [_, _, _, _, _, _, _, _, _, _, _, _, _, _, _]) dX12_plays_252 rfl (by decide) rfl rfl rfl ?_
        refine S.goto (pc' := 47) dX12_plays_255 (by decide) ?_
        exact ih _ _ _ _ _ _ _ _ _ (by omega) (by omega) (by omega) a1 a2 a3 a4 a5 a6
      have h93 : ∀ (of fi mo : Int) (o14 : Option Value), 1 ≤ of ∧ of ≤ 729 → (fi = 0 ∨ fi = 1) → 0 ≤ mo ∧ mo ≤ 2 → fp_S l G 2 kX12_plays 93 [some (rV G 177), some (iV x), some (iV p), some (iV q), some (iV r), some (iV n), some (iV mv), some (iV of), some (iV sum), some (iV own), some (iV other), some (iV k), some (iV fi), some (iV mo), o14] [] N (qI fun z O => (-9999 ≤ z ∧ z ≤ 120) ∧ frT M O) := by
        intro of fi mo o14 a1 hfi hmo
        have hsel := md_sel_in (M := N) (at_ := 360) (x := x) hT1
        have hfl : ∀ i, frT M (fp_upM N 178 (md_lay (N 178) (360 + 10 + 9 * x) 10 i)) ∨ True := fun _ => Or.inr trivial
        have frlay : N 178 (360 + 10 + 9 * x).toNat < 8 → frT M (fp_upM N 178 (md_lay (N 178) (360 + 10 + 9 * x) 10 (N 178 (360 + 10 + 9 * x).toNat))) := fun hl => ⟨fun c hc => by rw [fp_upM_ne hc]; exact hf.1 c hc, fun j hj => by rw [fp_upM_at]; unfold md_lay; rw [if_neg (by omega), if_neg (by omega), if_neg (by omega)]; exact hf.2 j hj⟩
        have frtake : ∀ s, 0 ≤ s → frT M (fp_upM N 178 (md_take (N 178) (360 + 10 + 9 * x) s)) := fun s hs => ⟨fun c hc => by rw [fp_upM_ne hc]; exact hf.1 c hc, fun j hj => by rw [fp_upM_at]; unfold md_take; rw [if_neg (by omega), if_neg (by omega)]; exact hf.2 j hj⟩
        rcases hfi with rfl | rfl
        · refine S.iload (pc' := 95) dX12_plays_93 rfl rfl ?_
          refine S.iconst (pc' := 96) dX12_plays_95 rfl ?_
          refine S.icmp_ne (pc' := 99) (tgt := 182) dX12_plays_96 (by decide) rfl (by unfold fp_rng; omega) (by unfold fp_rng; omega) (fun h96 => ?_) (fun h96 => ?_)
          · refine S.iload (pc' := 184) dX12_plays_182 rfl rfl ?_
            refine S.if_ne (pc' := 187) (tgt := 252) dX12_plays_184 (by decide) rfl (by unfold fp_rng; omega) (fun h184 => ?_) (fun h184 => ?_)
            · first
              | exact h252 _ _ _ _ _ _ _ _ a1 (by omega) (by omega) (by omega) hf hT
              | exact h252 _ _ _ _ _ _ _ _ a1 (by omega) (by omega) (by omega) (frlay (by omega)) (by rw [fp_upM_at]; exact hT.lay hx (by omega) (by omega))
              | exact h252 _ _ _ _ _ _ _ _ a1 (by omega) (by omega) (by omega) (frtake _ (by omega)) (by rw [fp_upM_at]; exact hT.take hx (by omega))
            · refine S.aload_n (pc' := 188) dX12_plays_187 rfl rfl rfl ?_
              refine S.sipush (pc' := 191) dX12_plays_188 rfl (by decide) ?_
              refine S.iload_n (pc' := 192) dX12_plays_191 rfl rfl rfl ?_
              refine S.callVe (pc' := 195) dX12_plays_192 rfl cX12_198 (ok_X12_lie (by omega) (by omega) hx) rfl L_177 (by decide) rfl (Nat.le_of_ble_eq_true rfl) ?_
              refine S.if_le (pc' := 198) (tgt := 252) dX12_plays_195 (by decide) rfl (by unfold fp_rng; omega) (fun h195 => ?_) (fun h195 => ?_)
              · first
                | exact h252 _ _ _ _ _ _ _ _ a1 (by omega) (by omega) (by omega) hf hT
                | exact h252 _ _ _ _ _ _ _ _ a1 (by omega) (by omega) (by omega) (frlay (by omega)) (by rw [fp_upM_at]; exact hT.lay hx (by omega) (by omega))
                | exact h252 _ _ _ _ _ _ _ _ a1 (by omega) (by omega) (by omega) (frtake _ (by omega)) (by rw [fp_upM_at]; exact hT.take hx (by omega))
              · refine S.aload_n (pc' := 199) dX12_plays_198 rfl rfl rfl ?_
                refine S.sipush (pc' := 202) dX12_plays_199 rfl (by decide) ?_
                refine S.iload_n (pc' := 203) dX12_plays_202 rfl rfl rfl ?_
                refine S.aload_n (pc' := 204) dX12_plays_203 rfl rfl rfl ?_
                refine S.sipush (pc' := 207) dX12_plays_204 rfl (by decide) ?_
                refine S.iload_n (pc' := 208) dX12_plays_207 rfl rfl rfl ?_
                refine S.callVe (pc' := 211) dX12_plays_208 rfl cX12_216 (ok_X12_givesAt (by omega) (by omega) hx dN hT1 hT2) rfl L_177 (by decide) rfl (Nat.le_of_ble_eq_true rfl) ?_
                refine S.callVe (pc' := 214) dX12_plays_211 rfl cX12_241 (ok_X12_takesOut (by omega) (by omega) hx (by omega) (by omega)) rfl L_177 (by decide) rfl (Nat.le_of_ble_eq_true rfl) ?_
                have hsv := hT2 (md_sel N 360 x) (by omega) (by omega)
                have hvv : 0 ≤ N 180 (4 * N 178 (360 + 10 + 9 * x + 1 + md_sel N 360 x).toNat + q).toNat ∧ N 180 (4 * N 178 (360 + 10 + 9 * x + 1 + md_sel N 360 x).toNat + q).toNat ≤ 20 := dN.2.2.2.2.1 _ (by omega) (by omega)
                refine S.istore (pc' := 216) (LL' := [_, _, _, _, _, _, _, _, _, _, _, _, _, _, _]) dX12_plays_214 rfl (by decide) rfl rfl ?_
                refine S.iload (pc' := 218) dX12_plays_216 rfl rfl ?_
                refine S.iload (pc' := 220) dX12_plays_218 rfl rfl ?_
                refine S.if_eq (pc' := 223) (tgt := 237) dX12_plays_220 (by decide) rfl (by unfold fp_rng; omega) (fun h220 => ?_) (fun h220 => ?_)
                · refine S.aload_n (pc' := 238) dX12_plays_237 rfl rfl rfl ?_
                  refine S.getR (pc' := 241) dX12_plays_238 rfl fX12_16 L_177 rf_177_2 ?_
                  refine S.iconst (pc' := 242) dX12_plays_241 rfl ?_
                  refine S.iload (pc' := 244) dX12_plays_242 rfl rfl ?_
                  refine S.imul (pc' := 245) dX12_plays_244 rfl ?_
                  refine S.iload_n (pc' := 246) dX12_plays_245 rfl rfl rfl ?_
                  refine S.iadd (pc' := 247) dX12_plays_246 rfl ?_
                  refine S.iald (pc' := 248) dX12_plays_247 rfl L_180 (by omega) (by omega) ?_
                  rw [fp_upM_ne (show 180 ≠ 178 by decide)]
                  refine S.ineg (pc' := 249) dX12_plays_248 rfl ?_
                  refine S.iadd (pc' := 250) dX12_plays_249 rfl ?_
                  refine S.istore (pc' := 252) (LL' := [_, _, _, _, _, _, _, _, _, _, _, _, _, _, _]) dX12_plays_250 rfl (by decide) rfl rfl ?_
                  first
                  | exact h252 _ _ _ _ _ _ _ _ a1 (by omega) (by omega) (by omega) hf hT
                  | exact h252 _ _ _ _ _ _ _ _ a1 (by omega) (by omega) (by omega) (frlay (by omega)) (by rw [fp_upM_at]; exact hT.lay hx (by omega) (by omega))
                  | exact h252 _ _ _ _ _ _ _ _ a1 (by omega) (by omega) (by omega) (frtake _ (by omega)) (by rw [fp_upM_at]; exact hT.take hx (by omega))
                · exact absurd rfl h220
          · refine S.iload (pc' := 101) dX12_plays_99 rfl rfl ?_
            refine S.if_eq (pc' := 104) (tgt := 109) dX12_plays_101 (by decide) rfl (by unfold fp_rng; omega) (fun h101 => ?_) (fun h101 => ?_)
            · refine S.iload (pc' := 111) dX12_plays_109 rfl rfl ?_
              refine S.if_eq (pc' := 114) (tgt := 127) dX12_plays_111 (by decide) rfl (by unfold fp_rng; omega) (fun h111 => ?_) (fun h111 => ?_)
              · refine S.sipush (pc' := 130) dX12_plays_127 rfl (by decide) ?_
                refine S.iret dX12_plays_130 rfl ?_
                exact ⟨by omega, hf⟩
              · refine S.aload_n (pc' := 115) dX12_plays_114 rfl rfl rfl ?_
                refine S.sipush (pc' := 118) dX12_plays_115 rfl (by decide) ?_
                refine S.iload_n (pc' := 119) dX12_plays_118 rfl rfl rfl ?_
                refine S.callVe (pc' := 122) dX12_plays_119 rfl cX12_198 (ok_X12_lie (by omega) (by omega) hx) rfl L_177 (by decide) rfl (Nat.le_of_ble_eq_true rfl) ?_
                refine S.bipush (pc' := 124) dX12_plays_122 rfl (by decide) ?_
                refine S.icmp_ne (pc' := 127) (tgt := 131) dX12_plays_124 (by decide) rfl (by unfold fp_rng; omega) (by unfold fp_rng; omega) (fun h124 => ?_) (fun h124 => ?_)
                · refine S.iload (pc' := 133) dX12_plays_131 rfl rfl ?_
                  refine S.iload (pc' := 135) dX12_plays_133 rfl rfl ?_
                  refine S.if_eq (pc' := 138) (tgt := 142) dX12_plays_135 (by decide) rfl (by unfold fp_rng; omega) (fun h135 => ?_) (fun h135 => ?_)
                  · refine S.iconst (pc' := 143) dX12_plays_142 rfl ?_
                    refine S.isub (pc' := 144) dX12_plays_143 rfl ?_
                    refine S.istore (pc' := 146) (LL' := [_, _, _, _, _, _, _, _, _, _, _, _, _, _, _]) dX12_plays_144 rfl (by decide) rfl rfl ?_
                    refine S.iload (pc' := 148) dX12_plays_146 rfl rfl ?_
                    refine S.iload (pc' := 150) dX12_plays_148 rfl rfl ?_
                    refine S.if_eq (pc' := 153) (tgt := 157) dX12_plays_150 (by decide) rfl (by unfold fp_rng; omega) (fun h150 => ?_) (fun h150 => ?_)
                    · refine S.iconst (pc' := 158) dX12_plays_157 rfl ?_
                      refine S.isub (pc' := 159) dX12_plays_158 rfl ?_
                      refine S.istore (pc' := 161) (LL' := [_, _, _, _, _, _, _, _, _, _, _, _, _, _, _]) dX12_plays_159 rfl (by decide) rfl rfl ?_
                      refine S.aload_n (pc' := 162) dX12_plays_161 rfl rfl rfl ?_
                      refine S.sipush (pc' := 165) dX12_plays_162 rfl (by decide) ?_
                      refine S.bipush (pc' := 167) dX12_plays_165 rfl (by decide) ?_
                      refine S.iload_n (pc' := 168) dX12_plays_167 rfl rfl rfl ?_
                      refine S.aload_n (pc' := 169) dX12_plays_168 rfl rfl rfl ?_
                      refine S.sipush (pc' := 172) dX12_plays_169 rfl (by decide) ?_
                      refine S.iload_n (pc' := 173) dX12_plays_172 rfl rfl rfl ?_
                      refine S.callVe (pc' := 176) dX12_plays_173 rfl cX12_198 (ok_X12_lie (by omega) (by omega) hx) rfl L_177 (by decide) rfl (Nat.le_of_ble_eq_true rfl) ?_
                      refine S.callVw (pc' := 179) dX12_plays_176 rfl cX12_237 (ok_X12_laysIn (by omega) (by omega) hx (by omega) (by omega)) rfl L_177 (by decide) rfl (Nat.le_of_ble_eq_true rfl) ?_
                      refine S.goto (pc' := 252) dX12_plays_179 (by decide) ?_
                      first
                      | exact h252 _ _ _ _ _ _ _ _ a1 (by omega) (by omega) (by omega) hf hT
                      | exact h252 _ _ _ _ _ _ _ _ a1 (by omega) (by omega) (by omega) (frlay (by omega)) (by rw [fp_upM_at]; exact hT.lay hx (by omega) (by omega))
                      | exact h252 _ _ _ _ _ _ _ _ a1 (by omega) (by omega) (by omega) (frtake _ (by omega)) (by rw [fp_upM_at]; exact hT.take hx (by omega))
                    · exact absurd rfl h150
                  · exact absurd rfl h135
                · refine S.sipush (pc' := 130) dX12_plays_127 rfl (by decide) ?_
                  refine S.iret dX12_plays_130 rfl ?_
                  exact ⟨by omega, hf⟩
            · exact absurd rfl h101
        · refine S.iload (pc' := 95) dX12_plays_93 rfl rfl ?_
          refine S.iconst (pc' := 96) dX12_plays_95 rfl ?_
          refine S.icmp_ne (pc' := 99) (tgt := 182) dX12_plays_96 (by decide) rfl (by unfold fp_rng; omega) (by unfold fp_rng; omega) (fun h96 => ?_) (fun h96 => ?_)
          · refine S.iload (pc' := 184) dX12_plays_182 rfl rfl ?_
            refine S.if_ne (pc' := 187) (tgt := 252) dX12_plays_184 (by decide) rfl (by unfold fp_rng; omega) (fun h184 => ?_) (fun h184 => ?_)
            · first
              | exact h252 _ _ _ _ _ _ _ _ a1 (by omega) (by omega) (by omega) hf hT
              | exact h252 _ _ _ _ _ _ _ _ a1 (by omega) (by omega) (by omega) (frlay (by omega)) (by rw [fp_upM_at]; exact hT.lay hx (by omega) (by omega))
              | exact h252 _ _ _ _ _ _ _ _ a1 (by omega) (by omega) (by omega) (frtake _ (by omega)) (by rw [fp_upM_at]; exact hT.take hx (by omega))
            · refine S.aload_n (pc' := 188) dX12_plays_187 rfl rfl rfl ?_
              refine S.sipush (pc' := 191) dX12_plays_188 rfl (by decide) ?_
              refine S.iload_n (pc' := 192) dX12_plays_191 rfl rfl rfl ?_
              refine S.callVe (pc' := 195) dX12_plays_192 rfl cX12_198 (ok_X12_lie (by omega) (by omega) hx) rfl L_177 (by decide) rfl (Nat.le_of_ble_eq_true rfl) ?_
              refine S.if_le (pc' := 198) (tgt := 252) dX12_plays_195 (by decide) rfl (by unfold fp_rng; omega) (fun h195 => ?_) (fun h195 => ?_)
              · first
                | exact h252 _ _ _ _ _ _ _ _ a1 (by omega) (by omega) (by omega) hf hT
                | exact h252 _ _ _ _ _ _ _ _ a1 (by omega) (by omega) (by omega) (frlay (by omega)) (by rw [fp_upM_at]; exact hT.lay hx (by omega) (by omega))
                | exact h252 _ _ _ _ _ _ _ _ a1 (by omega) (by omega) (by omega) (frtake _ (by omega)) (by rw [fp_upM_at]; exact hT.take hx (by omega))
              · refine S.aload_n (pc' := 199) dX12_plays_198 rfl rfl rfl ?_
                refine S.sipush (pc' := 202) dX12_plays_199 rfl (by decide) ?_
                refine S.iload_n (pc' := 203) dX12_plays_202 rfl rfl rfl ?_
                refine S.aload_n (pc' := 204) dX12_plays_203 rfl rfl rfl ?_
                refine S.sipush (pc' := 207) dX12_plays_204 rfl (by decide) ?_
                refine S.iload_n (pc' := 208) dX12_plays_207 rfl rfl rfl ?_
                refine S.callVe (pc' := 211) dX12_plays_208 rfl cX12_216 (ok_X12_givesAt (by omega) (by omega) hx dN hT1 hT2) rfl L_177 (by decide) rfl (Nat.le_of_ble_eq_true rfl) ?_
                refine S.callVe (pc' := 214) dX12_plays_211 rfl cX12_241 (ok_X12_takesOut (by omega) (by omega) hx (by omega) (by omega)) rfl L_177 (by decide) rfl (Nat.le_of_ble_eq_true rfl) ?_
                have hsv := hT2 (md_sel N 360 x) (by omega) (by omega)
                have hvv : 0 ≤ N 180 (4 * N 178 (360 + 10 + 9 * x + 1 + md_sel N 360 x).toNat + p).toNat ∧ N 180 (4 * N 178 (360 + 10 + 9 * x + 1 + md_sel N 360 x).toNat + p).toNat ≤ 20 := dN.2.2.2.2.1 _ (by omega) (by omega)
                refine S.istore (pc' := 216) (LL' := [_, _, _, _, _, _, _, _, _, _, _, _, _, _, _]) dX12_plays_214 rfl (by decide) rfl rfl ?_
                refine S.iload (pc' := 218) dX12_plays_216 rfl rfl ?_
                refine S.iload (pc' := 220) dX12_plays_218 rfl rfl ?_
                refine S.if_eq (pc' := 223) (tgt := 237) dX12_plays_220 (by decide) rfl (by unfold fp_rng; omega) (fun h220 => ?_) (fun h220 => ?_)
                · exact absurd h220 (by decide)
                · refine S.aload_n (pc' := 224) dX12_plays_223 rfl rfl rfl ?_
                  refine S.getR (pc' := 227) dX12_plays_224 rfl fX12_16 L_177 rf_177_2 ?_
                  refine S.iconst (pc' := 228) dX12_plays_227 rfl ?_
                  refine S.iload (pc' := 230) dX12_plays_228 rfl rfl ?_
                  refine S.imul (pc' := 231) dX12_plays_230 rfl ?_
                  refine S.iload_n (pc' := 232) dX12_plays_231 rfl rfl rfl ?_
                  refine S.iadd (pc' := 233) dX12_plays_232 rfl ?_
                  refine S.iald (pc' := 234) dX12_plays_233 rfl L_180 (by omega) (by omega) ?_
                  rw [fp_upM_ne (show 180 ≠ 178 by decide)]
                  refine S.goto (pc' := 249) dX12_plays_234 (by decide) ?_
                  refine S.iadd (pc' := 250) dX12_plays_249 rfl ?_
                  refine S.istore (pc' := 252) (LL' := [_, _, _, _, _, _, _, _, _, _, _, _, _, _, _]) dX12_plays_250 rfl (by decide) rfl rfl ?_
                  first
                  | exact h252 _ _ _ _ _ _ _ _ a1 (by omega) (by omega) (by omega) hf hT
                  | exact h252 _ _ _ _ _ _ _ _ a1 (by omega) (by omega) (by omega) (frlay (by omega)) (by rw [fp_upM_at]; exact hT.lay hx (by omega) (by omega))
                  | exact h252 _ _ _ _ _ _ _ _ a1 (by omega) (by omega) (by omega) (frtake _ (by omega)) (by rw [fp_upM_at]; exact hT.take hx (by omega))
          · refine S.iload (pc' := 101) dX12_plays_99 rfl rfl ?_
            refine S.if_eq (pc' := 104) (tgt := 109) dX12_plays_101 (by decide) rfl (by unfold fp_rng; omega) (fun h101 => ?_) (fun h101 => ?_)
            · exact absurd h101 (by decide)
            · refine S.iload (pc' := 106) dX12_plays_104 rfl rfl ?_
              refine S.goto (pc' := 111) dX12_plays_106 (by decide) ?_
              refine S.if_eq (pc' := 114) (tgt := 127) dX12_plays_111 (by decide) rfl (by unfold fp_rng; omega) (fun h111 => ?_) (fun h111 => ?_)
              · refine S.sipush (pc' := 130) dX12_plays_127 rfl (by decide) ?_
                refine S.iret dX12_plays_130 rfl ?_
                exact ⟨by omega, hf⟩
              · refine S.aload_n (pc' := 115) dX12_plays_114 rfl rfl rfl ?_
                refine S.sipush (pc' := 118) dX12_plays_115 rfl (by decide) ?_
                refine S.iload_n (pc' := 119) dX12_plays_118 rfl rfl rfl ?_
                refine S.callVe (pc' := 122) dX12_plays_119 rfl cX12_198 (ok_X12_lie (by omega) (by omega) hx) rfl L_177 (by decide) rfl (Nat.le_of_ble_eq_true rfl) ?_
                refine S.bipush (pc' := 124) dX12_plays_122 rfl (by decide) ?_
                refine S.icmp_ne (pc' := 127) (tgt := 131) dX12_plays_124 (by decide) rfl (by unfold fp_rng; omega) (by unfold fp_rng; omega) (fun h124 => ?_) (fun h124 => ?_)
                · refine S.iload (pc' := 133) dX12_plays_131 rfl rfl ?_
                  refine S.iload (pc' := 135) dX12_plays_133 rfl rfl ?_
                  refine S.if_eq (pc' := 138) (tgt := 142) dX12_plays_135 (by decide) rfl (by unfold fp_rng; omega) (fun h135 => ?_) (fun h135 => ?_)
                  · exact absurd h135 (by decide)
                  · refine S.iconst (pc' := 139) dX12_plays_138 rfl ?_
                    refine S.goto (pc' := 143) dX12_plays_139 (by decide) ?_
                    refine S.isub (pc' := 144) dX12_plays_143 rfl ?_
                    refine S.istore (pc' := 146) (LL' := [_, _, _, _, _, _, _, _, _, _, _, _, _, _, _]) dX12_plays_144 rfl (by decide) rfl rfl ?_
                    refine S.iload (pc' := 148) dX12_plays_146 rfl rfl ?_
                    refine S.iload (pc' := 150) dX12_plays_148 rfl rfl ?_
                    refine S.if_eq (pc' := 153) (tgt := 157) dX12_plays_150 (by decide) rfl (by unfold fp_rng; omega) (fun h150 => ?_) (fun h150 => ?_)
                    · exact absurd h150 (by decide)
                    · refine S.iconst (pc' := 154) dX12_plays_153 rfl ?_
                      refine S.goto (pc' := 158) dX12_plays_154 (by decide) ?_
                      refine S.isub (pc' := 159) dX12_plays_158 rfl ?_
                      refine S.istore (pc' := 161) (LL' := [_, _, _, _, _, _, _, _, _, _, _, _, _, _, _]) dX12_plays_159 rfl (by decide) rfl rfl ?_
                      refine S.aload_n (pc' := 162) dX12_plays_161 rfl rfl rfl ?_
                      refine S.sipush (pc' := 165) dX12_plays_162 rfl (by decide) ?_
                      refine S.bipush (pc' := 167) dX12_plays_165 rfl (by decide) ?_
                      refine S.iload_n (pc' := 168) dX12_plays_167 rfl rfl rfl ?_
                      refine S.aload_n (pc' := 169) dX12_plays_168 rfl rfl rfl ?_
                      refine S.sipush (pc' := 172) dX12_plays_169 rfl (by decide) ?_
                      refine S.iload_n (pc' := 173) dX12_plays_172 rfl rfl rfl ?_
                      refine S.callVe (pc' := 176) dX12_plays_173 rfl cX12_198 (ok_X12_lie (by omega) (by omega) hx) rfl L_177 (by decide) rfl (Nat.le_of_ble_eq_true rfl) ?_
                      refine S.callVw (pc' := 179) dX12_plays_176 rfl cX12_237 (ok_X12_laysIn (by omega) (by omega) hx (by omega) (by omega)) rfl L_177 (by decide) rfl (Nat.le_of_ble_eq_true rfl) ?_
                      refine S.goto (pc' := 252) dX12_plays_179 (by decide) ?_
                      first
                      | exact h252 _ _ _ _ _ _ _ _ a1 (by omega) (by omega) (by omega) hf hT
                      | exact h252 _ _ _ _ _ _ _ _ a1 (by omega) (by omega) (by omega) (frlay (by omega)) (by rw [fp_upM_at]; exact hT.lay hx (by omega) (by omega))
                      | exact h252 _ _ _ _ _ _ _ _ a1 (by omega) (by omega) (by omega) (frtake _ (by omega)) (by rw [fp_upM_at]; exact hT.take hx (by omega))
                · refine S.sipush (pc' := 130) dX12_plays_127 rfl (by decide) ?_
                  refine S.iret dX12_plays_130 rfl ?_
                  exact ⟨by omega, hf⟩
      have hdv : 0 ≤ mv / of ∧ mv / of ≤ mv := ⟨Int.ediv_nonneg hmv.1 (by omega), Int.ediv_le_self of hmv.1⟩
      have h66 : ∀ fi, (fi = 0 ∨ fi = 1) → fp_S l G 2 kX12_plays 66 [some (rV G 177), some (iV x), some (iV p), some (iV q), some (iV r), some (iV n), some (iV mv), some (iV of), some (iV sum), some (iV own), some (iV other), some (iV k), o12, o13, o14] [iV fi] N (qI fun z O => (-9999 ≤ z ∧ z ≤ 120) ∧ frT M O) := by
        intro fi hfi
        refine S.istore (pc' := 68) (LL' := [_, _, _, _, _, _, _, _, _, _, _, _, _, _, _]) dX12_plays_66 rfl (by decide) rfl rfl ?_
        refine S.iload (pc' := 70) dX12_plays_68 rfl rfl ?_
        refine S.iload (pc' := 72) dX12_plays_70 rfl rfl ?_
        refine S.idiv (pc' := 73) dX12_plays_72 rfl (fp_ine (by omega)) (fp_idiv (by omega) (by omega)) ?_
        refine S.iconst (pc' := 74) dX12_plays_73 rfl ?_
        refine S.irem (pc' := 75) dX12_plays_74 rfl (by decide) (fp_irem (by omega) (by omega)) ?_
        refine S.istore (pc' := 77) (LL' := [_, _, _, _, _, _, _, _, _, _, _, _, _, _, _]) dX12_plays_75 rfl (by decide) rfl rfl ?_
        refine S.iload (pc' := 79) dX12_plays_77 rfl rfl ?_
        refine S.iconst (pc' := 80) dX12_plays_79 rfl ?_
        refine S.icmp_lt (pc' := 83) (tgt := 90) dX12_plays_80 (by decide) rfl (by unfold fp_rng; omega) (by unfold fp_rng; omega) (fun h80 => ?_) (fun h80 => ?_)
        · refine S.iconst (pc' := 91) dX12_plays_90 rfl ?_
          refine S.istore (pc' := 93) (LL' := [_, _, _, _, _, _, _, _, _, _, _, _, _, _, _]) dX12_plays_91 rfl (by decide) rfl rfl ?_
          exact h93 _ _ _ _ (by omega) hfi (by omega)
        · refine S.iload (pc' := 85) dX12_plays_83 rfl rfl ?_
          refine S.iconst (pc' := 86) dX12_plays_85 rfl ?_
          refine S.idiv (pc' := 87) dX12_plays_86 rfl (by decide) (fp_idiv (by omega) (by omega)) ?_
          refine S.goto (pc' := 91) dX12_plays_87 (by decide) ?_
          refine S.istore (pc' := 93) (LL' := [_, _, _, _, _, _, _, _, _, _, _, _, _, _, _]) dX12_plays_91 rfl (by decide) rfl rfl ?_
          exact h93 _ _ _ _ (by omega) hfi (by omega)
      refine S.iload (pc' := 49) dX12_plays_47 rfl rfl ?_
      refine S.iload (pc' := 51) dX12_plays_49 rfl rfl ?_
      refine S.icmp_ge (pc' := 54) (tgt := 258) dX12_plays_51 (by decide) rfl (by unfold fp_rng; omega) (by unfold fp_rng; omega) (fun h51 => ?_) (fun h51 => ?_)
      · exfalso; omega
      · refine S.iload (pc' := 56) dX12_plays_54 rfl rfl ?_
        refine S.iconst (pc' := 57) dX12_plays_56 rfl ?_
        refine S.irem (pc' := 58) dX12_plays_57 rfl (by decide) (fp_irem (by omega) (by omega)) ?_
        refine S.if_ne (pc' := 61) (tgt := 65) dX12_plays_58 (by decide) rfl (by unfold fp_rng; omega) (fun h58 => ?_) (fun h58 => ?_)
        · refine S.iconst (pc' := 66) dX12_plays_65 rfl ?_
          exact h66 _ (by omega)
        · refine S.iconst (pc' := 62) dX12_plays_61 rfl ?_
          refine S.goto (pc' := 66) dX12_plays_62 (by decide) ?_
          exact h66 _ (by omega)
    · refine S.iload (pc' := 49) dX12_plays_47 rfl rfl ?_
      refine S.iload (pc' := 51) dX12_plays_49 rfl rfl ?_
      refine S.icmp_ge (pc' := 54) (tgt := 258) dX12_plays_51 (by decide) rfl (by unfold fp_rng; omega) (by unfold fp_rng; omega) (fun h51 => ?_) (fun h51 => ?_)
      · refine S.iload (pc' := 260) dX12_plays_258 rfl rfl ?_
        refine S.iret dX12_plays_260 rfl ?_
        exact ⟨by omega, hf⟩
      · exfalso; omega
theorem wk_X12_plays {x p q r n mv : Int} (hg : gOk g) (hP : pgOk g pg) (hxg : 0 ≤ x ∧ x < g.2.1) (hp : 0 ≤ p ∧ p < 4) (hq : 0 ≤ q ∧ q < 4) (hr : 0 ≤ r ∧ r ≤ 2) (hn : 1 ≤ n ∧ n ≤ 6) (hmv : 0 ≤ mv ∧ mv ≤ 728) (hd : mdIs M g) (hc : mpIs M 0 g pg) : fp_Ok l G 2 kX12_plays [rV G 177, iV x, iV p, iV q, iV r, iV n, iV mv] M (qI fun z O => (-9999 ≤ z ∧ z ≤ 120) ∧ frT M O) := by
  have hg2 := hg.2.1
  have hx : 0 ≤ x ∧ x < 3 := by omega
  refine fp_Ok.of (r := 8) rfl (Nat.le_of_ble_eq_true rfl) rfl ?_
  have h25 : ∀ (of : Int), 1 ≤ of ∧ of ≤ 729 → fp_S l G 2 kX12_plays 25 [some (rV G 177), some (iV x), some (iV p), some (iV q), some (iV r), some (iV n), some (iV mv), some (iV of), some (iV n), none, none, none, none, none, none] [] M (qI fun z O => (-9999 ≤ z ∧ z ≤ 120) ∧ frT M O) := by
    intro of hof
    refine S.iconst (pc' := 26) dX12_plays_25 rfl ?_
    refine S.istore (pc' := 28) (LL' := [_, _, _, _, _, _, _, _, _, _, _, _, _, _, _]) dX12_plays_26 rfl (by decide) rfl rfl ?_
    refine S.iload (pc' := 30) dX12_plays_28 rfl rfl ?_
    refine S.istore (pc' := 32) (LL' := [_, _, _, _, _, _, _, _, _, _, _, _, _, _, _]) dX12_plays_30 rfl (by decide) rfl rfl ?_
    refine S.iload (pc' := 34) dX12_plays_32 rfl rfl ?_
    refine S.istore (pc' := 36) (LL' := [_, _, _, _, _, _, _, _, _, _, _, _, _, _, _]) dX12_plays_34 rfl (by decide) rfl rfl ?_
    refine S.aload_n (pc' := 37) dX12_plays_36 rfl rfl rfl ?_
    refine S.iconst (pc' := 38) dX12_plays_37 rfl ?_
    refine S.sipush (pc' := 41) dX12_plays_38 rfl (by decide) ?_
    refine S.callVv (pc' := 44) dX12_plays_41 rfl cX12_265 (rk_X12_copies hc hP hg) rfl L_177 (by decide) rfl (Nat.le_of_ble_eq_true rfl) (fun M41 q41 => ?_)
    refine S.iconst (pc' := 45) dX12_plays_44 rfl ?_
    refine S.istore (pc' := 47) (LL' := [_, _, _, _, _, _, _, _, _, _, _, _, _, _, _]) dX12_plays_45 rfl (by decide) rfl rfl ?_
    have hrw := q41.1.rows hP hxg hg
    exact plays_loop hx hp hq hn hmv hd.2.2.2.2.2.2.2.2 (n.toNat + 1) 0 of 0 r r _ none none none (by omega) (by omega) (by omega) hof (by omega) hr hr q41.2 hrw
  have h6 : ∀ (rr j : Nat), (n - j).toNat < rr → (j : Int) + 1 ≤ n → fp_S l G 2 kX12_plays 6 [some (rV G 177), some (iV x), some (iV p), some (iV q), some (iV r), some (iV n), some (iV mv), some (iV (3 ^ j)), some (iV ((j : Int) + 1)), none, none, none, none, none, none] [] M (qI fun z O => (-9999 ≤ z ∧ z ≤ 120) ∧ frT M O) := by
    intro rr
    induction rr with
    | zero => intro j h; omega
    | succ rr ih =>
      intro j h hj
      have hpw := pow3_in (show j < 7 by omega)
      by_cases he : (j : Int) + 1 < n
      · refine S.iload (pc' := 8) dX12_plays_6 rfl rfl ?_
        refine S.iload (pc' := 10) dX12_plays_8 rfl rfl ?_
        refine S.icmp_ge (pc' := 13) (tgt := 25) dX12_plays_10 (by decide) rfl (by unfold fp_rng; omega) (by unfold fp_rng; omega) (fun h10 => ?_) (fun h10 => ?_)
        · exfalso; omega
        · refine S.iload (pc' := 15) dX12_plays_13 rfl rfl ?_
          refine S.iconst (pc' := 16) dX12_plays_15 rfl ?_
          refine S.imul (pc' := 17) dX12_plays_16 rfl ?_
          refine S.istore (pc' := 19) (LL' := [_, _, _, _, _, _, _, _, _, _, _, _, _, _, _]) dX12_plays_17 rfl (by decide) rfl rfl ?_
          refine S.iinc (pc' := 22) (LL' := [_, _, _, _, _, _, _, _, _, _, _, _, _, _, _]) dX12_plays_19 rfl (by decide) rfl rfl rfl ?_
          refine S.goto (pc' := 6) dX12_plays_22 (by decide) ?_
          rw [show (3 : Int) ^ j * 3 = 3 ^ (j + 1) from (Int.pow_succ 3 j).symm, show ((j : Int) + 1 + 1) = ((j + 1 : Nat) : Int) + 1 by omega]
          exact ih (j + 1) (by omega) (by omega)
      · have e : n = (j : Int) + 1 := by omega
        have h5 := h25 _ hpw
        rw [e] at h5 ⊢
        refine S.iload (pc' := 8) dX12_plays_6 rfl rfl ?_
        refine S.iload (pc' := 10) dX12_plays_8 rfl rfl ?_
        refine S.icmp_ge (pc' := 13) (tgt := 25) dX12_plays_10 (by decide) rfl (by unfold fp_rng; omega) (by unfold fp_rng; omega) (fun h10 => ?_) (fun h10 => ?_)
        · exact h5
        · exfalso; omega
  refine S.iconst (pc' := 1) dX12_plays_0 rfl ?_
  refine S.istore (pc' := 3) (LL' := [_, _, _, _, _, _, _, _, _, _, _, _, _, _, _]) dX12_plays_1 rfl (by decide) rfl rfl ?_
  refine S.iconst (pc' := 4) dX12_plays_3 rfl ?_
  refine S.istore (pc' := 6) (LL' := [_, _, _, _, _, _, _, _, _, _, _, _, _, _, _]) dX12_plays_4 rfl (by decide) rfl rfl ?_
  exact h6 (n.toNat + 1) 0 (by omega) (by omega)
end MDU
