/-! CHANCES: one row of who comes, the reference -/
/-- of the first k visits those come whose bit is set: the weight, the page -/
def chI (g : aGd) (pg : aPg) (vs : List aVt) (m : Int) : Nat → Int × aPg
  | 0 => (1, pg)
  | k + 1 => if (chI g pg vs m k).1 ≤ 0 then chI g pg vs m k else if m.toNat.testBit k = true then ((chI g pg vs m k).1 * g.2.2.1, (aHapI g (chI g pg vs m k).2 vs k).2) else ((chI g pg vs m k).1 * (10 - g.2.2.1), (chI g pg vs m k).2)
theorem chI_in {g : aGd} {pg : aPg} {vs : List aVt} {m : Int} (hg : gOk g) (hP : pgOk g pg) (hv : vsOk g vs) : ∀ k : Nat, (0 ≤ (chI g pg vs m k).1 ∧ (chI g pg vs m k).1 ≤ 10 ^ k) ∧ pgOk g (chI g pg vs m k).2
  | 0 => ⟨by show (0 : Int) ≤ 1 ∧ (1 : Int) ≤ 10 ^ 0; decide, hP⟩
  | k + 1 => by
    obtain ⟨⟨h1, h2⟩, h3⟩ := chI_in (m := m) hg hP hv k
    have hc := hg.2.2.1
    have hp : (10 : Int) ^ (k + 1) = 10 ^ k * 10 := Int.pow_succ 10 k
    have hmul : ∀ c : Int, 0 ≤ c → c ≤ 10 → 0 ≤ (chI g pg vs m k).1 * c ∧ (chI g pg vs m k).1 * c ≤ 10 ^ k * 10 := fun c c0 c1 => ⟨Int.mul_nonneg h1 c0, Int.mul_le_mul h2 c1 c0 (by omega)⟩
    unfold chI
    rw [hp]
    split
    · exact ⟨⟨h1, by omega⟩, h3⟩
    · split
      · exact ⟨hmul _ hc.1 hc.2, aHapI_ok hg h3 hv⟩
      · exact ⟨hmul _ (by omega) (by omega), h3⟩
theorem chI_stay {g : aGd} {pg : aPg} {vs : List aVt} {m : Int} {k : Nat} (h : (chI g pg vs m k).1 ≤ 0) : ∀ d, chI g pg vs m (k + d) = chI g pg vs m k
  | 0 => rfl
  | d + 1 => by
    have e := chI_stay h d
    rw [show k + (d + 1) = (k + d) + 1 by omega]
    rw [chI, e, if_pos h]
theorem pow10_le {k : Nat} (h : k ≤ 10) : (10 : Int) ^ k ≤ 10000000000 := by
  have q : ∀ k : Nat, k < 11 → (10 : Int) ^ k ≤ 10000000000 := by decide +kernel
  exact q k (by omega)
section MCH
variable {l : Launch} {G : fp_WG} {M N : fp_Mem} {g : aGd} {pg : aPg} {vs : List aVt}
theorem ch_in {x m : Int} {Q : fp_Q} (hg : gOk g) (hP : pgOk g pg) (hvo : vsOk g vs) (hl : vs.length ≤ 10) (hm : 0 ≤ m ∧ m < 1024) (K : ∀ (N : fp_Mem) (o6 o7 : Option Value), frT M N → mpIs N 360 g (chI g pg vs m vs.length).2 → fp_S l G 5 kX12_layChances 156 [some (rV G 177), some (iV x), some (iV (vs.length : Int)), some (iV m), some (jV (chI g pg vs m vs.length).1), none, o6, o7] [] N Q) : ∀ (r k : Nat) (N : fp_Mem) (o7 : Option Value), vs.length - k < r → k ≤ vs.length → frT M N → mpIs N 360 g (chI g pg vs m k).2 → mdIs N g → mvIs N vs →
    fp_S l G 5 kX12_layChances 79 [some (rV G 177), some (iV x), some (iV (vs.length : Int)), some (iV m), some (jV (chI g pg vs m k).1), none, some (iV (k : Int)), o7] [] N Q := by
  intro r
  induction r with
  | zero => intro k N o7 hr; omega
  | succ r ih =>
    intro k N o7 hr hk hf hp hd hv
    obtain ⟨⟨w0, w1⟩, wP⟩ := chI_in (m := m) hg hP hvo k
    have w2 := pow10_le (show k ≤ 10 by omega)
    have hc := hg.2.2.1
    have e6 : N 177 6 = g.2.2.1 := hd.2.2.1
    have h150 : ∀ (O : fp_Mem) (w : Int) (y : Int), fp_S l G 5 kX12_layChances 79 [some (rV G 177), some (iV x), some (iV (vs.length : Int)), some (iV m), some (jV w), none, some (iV ((k : Int) + 1)), some (iV y)] [] O Q → fp_S l G 5 kX12_layChances 150 [some (rV G 177), some (iV x), some (iV (vs.length : Int)), some (iV m), some (jV w), none, some (iV (k : Int)), some (iV y)] [] O Q := by
      intro O w y h
      refine S.iinc (pc' := 153) (LL' := [_, _, _, _, _, _, _, _]) dX12_layChances_150 rfl (by decide) rfl rfl rfl ?_
      refine S.goto (pc' := 79) dX12_layChances_153 (by decide) ?_
      exact h
    by_cases he : k < vs.length
    · by_cases hw : (chI g pg vs m k).1 ≤ 0
      · have hst : chI g pg vs m vs.length = chI g pg vs m k := by
          have := chI_stay hw (vs.length - k)
          rwa [show k + (vs.length - k) = vs.length by omega] at this
        rw [hst] at K
        refine S.iload (pc' := 81) dX12_layChances_79 rfl rfl ?_
        refine S.iload_n (pc' := 82) dX12_layChances_81 rfl rfl rfl ?_
        refine S.icmp_ge (pc' := 85) (tgt := 156) dX12_layChances_82 (by decide) rfl (by unfold fp_rng; omega) (by unfold fp_rng; omega) (fun h82 => ?_) (fun h82 => ?_)
        · exact K _ _ _ hf hp
        · refine S.lload (pc' := 87) dX12_layChances_85 rfl rfl ?_
          refine S.lconst (pc' := 88) (w := 0) dX12_layChances_87 rfl rfl ?_
          refine S.lcmp (pc' := 89) dX12_layChances_88 rfl (by unfold fp_lng; omega) (by unfold fp_lng; omega) ?_
          refine S.if_le (pc' := 92) (tgt := 156) dX12_layChances_89 (by decide) rfl (by unfold fp_rng; omega) (fun h89 => ?_) (fun h89 => ?_)
          · exact K _ _ _ hf hp
          · exfalso; split at h89 <;> omega
      · have hdn : 0 ≤ m / 2 ^ ((k : Int)).toNat := Int.ediv_nonneg hm.1 (Int.le_of_lt (Int.pow_pos (by decide)))
        have hbit := fp_bitv (v := m) (i := (k : Int)) hm.1
        rw [Int.toNat_natCast] at hbit hdn
        by_cases hb : m.toNat.testBit k = true
        · rw [if_pos hb] at hbit
          have hnx : chI g pg vs m (k + 1) = ((chI g pg vs m k).1 * g.2.2.1, (aHapI g (chI g pg vs m k).2 vs k).2) := by rw [chI, if_neg hw, if_pos hb]
          refine S.iload (pc' := 81) dX12_layChances_79 rfl rfl ?_
          refine S.iload_n (pc' := 82) dX12_layChances_81 rfl rfl rfl ?_
          refine S.icmp_ge (pc' := 85) (tgt := 156) dX12_layChances_82 (by decide) rfl (by unfold fp_rng; omega) (by unfold fp_rng; omega) (fun h82 => ?_) (fun h82 => ?_)
          · exfalso; first | omega | (split at h89 <;> omega)
          · refine S.lload (pc' := 87) dX12_layChances_85 rfl rfl ?_
            refine S.lconst (pc' := 88) (w := 0) dX12_layChances_87 rfl rfl ?_
            refine S.lcmp (pc' := 89) dX12_layChances_88 rfl (by unfold fp_lng; omega) (by unfold fp_lng; omega) ?_
            refine S.if_le (pc' := 92) (tgt := 156) dX12_layChances_89 (by decide) rfl (by unfold fp_rng; omega) (fun h89 => ?_) (fun h89 => ?_)
            · exfalso; first | omega | (split at h89 <;> omega)
            · refine S.iload_n (pc' := 93) dX12_layChances_92 rfl rfl rfl ?_
              refine S.iload (pc' := 95) dX12_layChances_93 rfl rfl ?_
              refine S.ishr (pc' := 96) dX12_layChances_95 rfl (fp_shrv (by omega) (by omega)) ?_
              rw [Int.toNat_natCast]
              refine S.iconst (pc' := 97) dX12_layChances_96 rfl ?_
              refine S.iand (pc' := 98) dX12_layChances_97 rfl (fp_iand hdn (by decide)) ?_
              rw [hbit]
              refine S.iconst (pc' := 99) dX12_layChances_98 rfl ?_
              refine S.icmp_ne (pc' := 102) (tgt := 106) dX12_layChances_99 (by decide) rfl (by unfold fp_rng; omega) (by unfold fp_rng; omega) (fun h99 => ?_) (fun h99 => ?_)
              · exact absurd rfl h99
              · refine S.iconst (pc' := 103) dX12_layChances_102 rfl ?_
                refine S.goto (pc' := 107) dX12_layChances_103 (by decide) ?_
                refine S.istore (pc' := 109) (LL' := [_, _, _, _, _, _, _, _]) dX12_layChances_107 rfl (by decide) rfl rfl ?_
                refine S.lload (pc' := 111) dX12_layChances_109 rfl rfl ?_
                refine S.iload (pc' := 113) dX12_layChances_111 rfl rfl ?_
                refine S.if_eq (pc' := 116) (tgt := 124) dX12_layChances_113 (by decide) rfl (by unfold fp_rng; omega) (fun h113 => ?_) (fun h113 => ?_)
                · exact absurd h113 (by decide)
                · refine S.aload_n (pc' := 117) dX12_layChances_116 rfl rfl rfl ?_
                  refine S.getI (pc' := 120) dX12_layChances_117 rfl fX12_22 L_177 ?_
                  rw [e6]
                  refine S.i2l (pc' := 121) dX12_layChances_120 rfl (by unfold fp_rng; omega) ?_
                  refine S.goto (pc' := 132) dX12_layChances_121 (by decide) ?_
                  refine S.lmul (pc' := 133) dX12_layChances_132 rfl ?_
                  refine S.lstore (pc' := 135) (LL' := [_, _, _, _, _, _, _, _]) dX12_layChances_133 rfl (by decide) rfl rfl (by decide) ?_
                  refine S.iload (pc' := 137) dX12_layChances_135 rfl rfl ?_
                  refine S.if_eq (pc' := 140) (tgt := 150) dX12_layChances_137 (by decide) rfl (by unfold fp_rng; omega) (fun h137 => ?_) (fun h137 => ?_)
                  · first
                    | exact absurd h137 (by decide)
                    | (refine h150 _ _ _ ?_
                       obtain ⟨_, p1, p2⟩ := q146
                       have e1 : ((k : Int) + 1) = ((k + 1 : Nat) : Int) := by omega
                       rw [e1, show (chI g pg vs m k).1 * g.2.2.1 = (chI g pg vs m (k + 1)).1 by rw [hnx]]
                       exact ih (k + 1) _ _ (by omega) (by omega) (hf.trans p2.toT) (by rw [hnx]; exact p1) (p2.toT.md hd) (p2.toT.mv hv))
                  · refine S.aload_n (pc' := 141) dX12_layChances_140 rfl rfl rfl ?_
                    refine S.sipush (pc' := 144) dX12_layChances_141 rfl (by decide) ?_
                    refine S.iload (pc' := 146) dX12_layChances_144 rfl rfl ?_
                    refine S.callVi (pc' := 149) dX12_layChances_146 rfl cX12_261 (rk_X12_happens (a := 360) (vs := vs) (i := (k : Int)) (by omega) hv hd hp wP hg hvo (by omega)) rfl L_177 (by decide) rfl (Nat.le_of_ble_eq_true rfl) (fun z146 M146 q146 => ?_)
                    refine S.pop (pc' := 150) dX12_layChances_149 rfl rfl ?_
                    first
                    | exact absurd h137 (by decide)
                    | (refine h150 _ _ _ ?_
                       obtain ⟨_, p1, p2⟩ := q146
                       have e1 : ((k : Int) + 1) = ((k + 1 : Nat) : Int) := by omega
                       rw [e1, show (chI g pg vs m k).1 * g.2.2.1 = (chI g pg vs m (k + 1)).1 by rw [hnx]]
                       exact ih (k + 1) _ _ (by omega) (by omega) (hf.trans p2.toT) (by rw [hnx]; exact p1) (p2.toT.md hd) (p2.toT.mv hv))
        · rw [if_neg hb] at hbit
          have hnx : chI g pg vs m (k + 1) = ((chI g pg vs m k).1 * (10 - g.2.2.1), (chI g pg vs m k).2) := by rw [chI, if_neg hw, if_neg hb]
          refine S.iload (pc' := 81) dX12_layChances_79 rfl rfl ?_
          refine S.iload_n (pc' := 82) dX12_layChances_81 rfl rfl rfl ?_
          refine S.icmp_ge (pc' := 85) (tgt := 156) dX12_layChances_82 (by decide) rfl (by unfold fp_rng; omega) (by unfold fp_rng; omega) (fun h82 => ?_) (fun h82 => ?_)
          · exfalso; first | omega | (split at h89 <;> omega)
          · refine S.lload (pc' := 87) dX12_layChances_85 rfl rfl ?_
            refine S.lconst (pc' := 88) (w := 0) dX12_layChances_87 rfl rfl ?_
            refine S.lcmp (pc' := 89) dX12_layChances_88 rfl (by unfold fp_lng; omega) (by unfold fp_lng; omega) ?_
            refine S.if_le (pc' := 92) (tgt := 156) dX12_layChances_89 (by decide) rfl (by unfold fp_rng; omega) (fun h89 => ?_) (fun h89 => ?_)
            · exfalso; first | omega | (split at h89 <;> omega)
            · refine S.iload_n (pc' := 93) dX12_layChances_92 rfl rfl rfl ?_
              refine S.iload (pc' := 95) dX12_layChances_93 rfl rfl ?_
              refine S.ishr (pc' := 96) dX12_layChances_95 rfl (fp_shrv (by omega) (by omega)) ?_
              rw [Int.toNat_natCast]
              refine S.iconst (pc' := 97) dX12_layChances_96 rfl ?_
              refine S.iand (pc' := 98) dX12_layChances_97 rfl (fp_iand hdn (by decide)) ?_
              rw [hbit]
              refine S.iconst (pc' := 99) dX12_layChances_98 rfl ?_
              refine S.icmp_ne (pc' := 102) (tgt := 106) dX12_layChances_99 (by decide) rfl (by unfold fp_rng; omega) (by unfold fp_rng; omega) (fun h99 => ?_) (fun h99 => ?_)
              · refine S.iconst (pc' := 107) dX12_layChances_106 rfl ?_
                refine S.istore (pc' := 109) (LL' := [_, _, _, _, _, _, _, _]) dX12_layChances_107 rfl (by decide) rfl rfl ?_
                refine S.lload (pc' := 111) dX12_layChances_109 rfl rfl ?_
                refine S.iload (pc' := 113) dX12_layChances_111 rfl rfl ?_
                refine S.if_eq (pc' := 116) (tgt := 124) dX12_layChances_113 (by decide) rfl (by unfold fp_rng; omega) (fun h113 => ?_) (fun h113 => ?_)
                · refine S.bipush (pc' := 126) dX12_layChances_124 rfl (by decide) ?_
                  refine S.aload_n (pc' := 127) dX12_layChances_126 rfl rfl rfl ?_
                  refine S.getI (pc' := 130) dX12_layChances_127 rfl fX12_22 L_177 ?_
                  refine S.isub (pc' := 131) dX12_layChances_130 rfl ?_
                  rw [e6]
                  refine S.i2l (pc' := 132) dX12_layChances_131 rfl (by unfold fp_rng; omega) ?_
                  refine S.lmul (pc' := 133) dX12_layChances_132 rfl ?_
                  refine S.lstore (pc' := 135) (LL' := [_, _, _, _, _, _, _, _]) dX12_layChances_133 rfl (by decide) rfl rfl (by decide) ?_
                  refine S.iload (pc' := 137) dX12_layChances_135 rfl rfl ?_
                  refine S.if_eq (pc' := 140) (tgt := 150) dX12_layChances_137 (by decide) rfl (by unfold fp_rng; omega) (fun h137 => ?_) (fun h137 => ?_)
                  · refine S.iinc (pc' := 153) (LL' := [_, _, _, _, _, _, _, _]) dX12_layChances_150 rfl (by decide) rfl rfl rfl ?_
                    refine S.goto (pc' := 79) dX12_layChances_153 (by decide) ?_
                    have e1 : ((k : Int) + 1) = ((k + 1 : Nat) : Int) := by omega
                    rw [e1, show (chI g pg vs m k).1 * (10 - g.2.2.1) = (chI g pg vs m (k + 1)).1 by rw [hnx]]
                    exact ih (k + 1) _ _ (by omega) (by omega) hf (by rw [hnx]; exact hp) hd hv
                  · exact absurd rfl h137
                · exact absurd rfl h113
              · exact absurd h99 (by decide)
    · have ek : k = vs.length := by omega
      subst ek
      refine S.iload (pc' := 81) dX12_layChances_79 rfl rfl ?_
      refine S.iload_n (pc' := 82) dX12_layChances_81 rfl rfl rfl ?_
      refine S.icmp_ge (pc' := 85) (tgt := 156) dX12_layChances_82 (by decide) rfl (by unfold fp_rng; omega) (by unfold fp_rng; omega) (fun h82 => ?_) (fun h82 => ?_)
      · exact K _ _ _ hf hp
      · exfalso; omega
end MCH
