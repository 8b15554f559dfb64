/-! RINGS: whom one likes -/
def aLk (g : aGd) (b : Int → Int) (th p : Int) : Nat → Int
  | 0 => -4
  | n + 1 => if th.toNat.testBit n = true ∧ (aLk g b th p n = -4 ∨ g.2.2.2.2.1 (b (aLk g b th p n)) p < g.2.2.2.2.1 (b n) p ∨ (g.2.2.2.2.1 (b n) p = g.2.2.2.2.1 (b (aLk g b th p n)) p ∧ b n < b (aLk g b th p n))) then (n : Int) else aLk g b th p n
def bOk (g : aGd) (b : Int → Int) (th : Int) : Prop := (0 ≤ th ∧ th < 16) ∧ ∀ q : Int, 0 ≤ q → q < 4 → th.toNat.testBit q.toNat = true → 0 ≤ b q ∧ b q < g.1
theorem aLk_succ {g : aGd} {b : Int → Int} {th p i : Int} (h : 0 ≤ i) : aLk g b th p (i + 1).toNat = if th.toNat.testBit i.toNat = true ∧ (aLk g b th p i.toNat = -4 ∨ g.2.2.2.2.1 (b (aLk g b th p i.toNat)) p < g.2.2.2.2.1 (b i) p ∨ (g.2.2.2.2.1 (b i) p = g.2.2.2.2.1 (b (aLk g b th p i.toNat)) p ∧ b i < b (aLk g b th p i.toNat))) then i else aLk g b th p i.toNat := by
  have e1 : (i + 1).toNat = i.toNat + 1 := by omega
  rw [e1]
  show (if _ ∧ (_ ∨ _ < g.2.2.2.2.1 (b ((i.toNat : Nat) : Int)) p ∨ (g.2.2.2.2.1 (b ((i.toNat : Nat) : Int)) p = _ ∧ b ((i.toNat : Nat) : Int) < _)) then ((i.toNat : Nat) : Int) else _) = _
  rw [Int.toNat_of_nonneg h]
theorem aLk_in {g : aGd} {b : Int → Int} {th p : Int} : ∀ n : Nat, aLk g b th p n = -4 ∨ (0 ≤ aLk g b th p n ∧ aLk g b th p n < n ∧ th.toNat.testBit (aLk g b th p n).toNat = true)
  | 0 => Or.inl rfl
  | n + 1 => by
    have q := aLk_in (g := g) (b := b) (th := th) (p := p) n
    unfold aLk
    split
    · rename_i hh
      right
      exact ⟨by omega, by omega, by rw [Int.toNat_natCast]; exact hh.1⟩
    · rcases q with q | q
      · exact Or.inl q
      · exact Or.inr ⟨q.1, by omega, q.2.2⟩
theorem fp_bit2 {v i : Int} (hv : 0 ≤ v ∧ v < 16) (hi : 0 ≤ i ∧ i < 4) : fp_and v (2 ^ i.toNat) = if v.toNat.testBit i.toNat = true then 2 ^ i.toNat else 0 := by
  have h : ∀ a : Nat, a < 16 → ∀ q : Nat, q < 4 → fp_and (a : Int) (2 ^ q) = if a.testBit q = true then 2 ^ q else 0 := by decide +kernel
  have := h v.toNat (by omega) i.toNat (by omega)
  rwa [Int.toNat_of_nonneg hv.1] at this
section RNG
variable {l : Launch} {G : fp_WG} {M N : fp_Mem} {g : aGd} {pg pg' : aPg} {k k2 : Nat}
theorem mlikes_loop {b : Int → Int} {th p : Int} (hp : 0 ≤ p ∧ p < 4) (hb : bOk g b th) (hg : gOk g) (hd : mdIs M g) (hr : ∀ q : Int, 0 ≤ q → q < 4 → M 196 q.toNat = b q) : ∀ (n : Nat) (i : Int) (o5 o6 : Option Value), (4 - i).toNat < n → 0 ≤ i → i ≤ 4 →
    fp_S l G 0 kX12_likes 6 [some (rV G 177), some (iV p), some (iV th), some (iV (aLk g b th p i.toNat)), some (iV i), o5, o6] [] M (qE (aLk g b th p 4) M) := by
  have hg1 := hg.1
  intro n
  induction n with
  | zero => intro i o5 o6 h; omega
  | succ n ih =>
    intro i o5 o6 h i0 i1
    have es := aLk_succ (g := g) (b := b) (th := th) (p := p) i0
    have hin := aLk_in (g := g) (b := b) (th := th) (p := p) i.toNat
    have hbit := fp_bitv (v := th) (i := i) hb.1.1
    have hdn : 0 ≤ th / 2 ^ i.toNat := Int.ediv_nonneg hb.1.1 (Int.le_of_lt (Int.pow_pos (by decide)))
    have hth := hb.1
    by_cases hlt : i < 4
    · by_cases ht : th.toNat.testBit i.toNat = true
      · rw [if_pos ht] at hbit
        have hbi := hb.2 i i0 hlt ht
        have hv := hd.2.2.2.2.2.1 (b i) p hbi.1 hbi.2 hp.1 hp.2
        have hvb := hg.2.2.2.2.1 (b i) p hbi.1 hbi.2 hp.1 hp.2
        have hri := hr i i0 hlt
        by_cases hw4 : aLk g b th p i.toNat = -4
        · rw [if_pos ⟨ht, Or.inl hw4⟩] at es
          refine S.iload (pc' := 8) dX12_likes_6 rfl rfl ?_
          refine S.iconst (pc' := 9) dX12_likes_8 rfl ?_
          refine S.icmp_ge (pc' := 12) (tgt := 111) dX12_likes_9 (by decide) rfl (by unfold fp_rng; omega) (by unfold fp_rng; omega) (fun h9 => ?_) (fun h9 => ?_)
          · exfalso; omega
          · refine S.iload_n (pc' := 13) dX12_likes_12 rfl rfl rfl ?_
            refine S.iload (pc' := 15) dX12_likes_13 rfl rfl ?_
            refine S.ishr (pc' := 16) dX12_likes_15 rfl (fp_shrv (by omega) (by omega)) ?_
            refine S.iconst (pc' := 17) dX12_likes_16 rfl ?_
            refine S.iand (pc' := 18) dX12_likes_17 rfl (fp_iand hdn (by decide)) ?_
            refine S.iconst (pc' := 19) dX12_likes_18 rfl ?_
            refine S.icmp_ne (pc' := 22) (tgt := 105) dX12_likes_19 (by decide) rfl (by rw [hbit]; unfold fp_rng; omega) (by unfold fp_rng; omega) (fun h19 => ?_) (fun h19 => ?_)
            · refine S.iinc (pc' := 108) (LL' := [_, _, _, _, _, _, _]) dX12_likes_105 rfl (by decide) rfl rfl rfl ?_
              refine S.goto (pc' := 6) dX12_likes_108 (by decide) ?_
              try (exfalso; omega)
              all_goals
                have e9 := fun o5 o6 => ih (i + 1) o5 o6 (by omega) (by omega) (by omega)
                rw [es] at e9
                exact e9 _ _
            · refine S.aload_n (pc' := 23) dX12_likes_22 rfl rfl rfl ?_
              refine S.getR (pc' := 26) dX12_likes_23 rfl fX12_16 L_177 rf_177_2 ?_
              refine S.iconst (pc' := 27) dX12_likes_26 rfl ?_
              refine S.aload_n (pc' := 28) dX12_likes_27 rfl rfl rfl ?_
              refine S.getR (pc' := 31) dX12_likes_28 rfl fX12_69 L_177 rf_177_37 ?_
              refine S.iload (pc' := 33) dX12_likes_31 rfl rfl ?_
              refine S.iald (pc' := 34) dX12_likes_33 rfl L_196 (by omega) (by omega) ?_
              rw [hri]
              refine S.imul (pc' := 35) dX12_likes_34 rfl ?_
              refine S.iload_n (pc' := 36) dX12_likes_35 rfl rfl rfl ?_
              refine S.iadd (pc' := 37) dX12_likes_36 rfl ?_
              refine S.iald (pc' := 38) dX12_likes_37 rfl L_180 (by omega) (by omega) ?_
              refine S.istore (pc' := 40) (LL' := [_, _, _, _, _, _, _]) dX12_likes_38 rfl (by decide) rfl rfl ?_
              refine S.iload_n (pc' := 41) dX12_likes_40 rfl rfl rfl ?_
              refine S.bipush (pc' := 43) dX12_likes_41 rfl (by decide) ?_
              refine S.icmp_ne (pc' := 46) (tgt := 51) dX12_likes_43 (by decide) rfl (by unfold fp_rng; omega) (by unfold fp_rng; omega) (fun h43 => ?_) (fun h43 => ?_)
              · exfalso; omega
              · refine S.bipush (pc' := 48) dX12_likes_46 rfl (by decide) ?_
                refine S.goto (pc' := 66) dX12_likes_48 (by decide) ?_
                refine S.istore (pc' := 68) (LL' := [_, _, _, _, _, _, _]) dX12_likes_66 rfl (by decide) rfl rfl ?_
                refine S.iload (pc' := 70) dX12_likes_68 rfl rfl ?_
                refine S.iload (pc' := 72) dX12_likes_70 rfl rfl ?_
                refine S.icmp_gt (pc' := 75) (tgt := 98) dX12_likes_72 (by decide) rfl (by unfold fp_rng; omega) (by unfold fp_rng; omega) (fun h72 => ?_) (fun h72 => ?_)
                · refine S.iload (pc' := 100) dX12_likes_98 rfl rfl ?_
                  refine S.goto (pc' := 104) dX12_likes_100 (by decide) ?_
                  refine S.istore_n (pc' := 105) (LL' := [_, _, _, _, _, _, _]) dX12_likes_104 rfl (by decide) rfl rfl rfl ?_
                  refine S.iinc (pc' := 108) (LL' := [_, _, _, _, _, _, _]) dX12_likes_105 rfl (by decide) rfl rfl rfl ?_
                  refine S.goto (pc' := 6) dX12_likes_108 (by decide) ?_
                  try (exfalso; omega)
                  all_goals
                    have e9 := fun o5 o6 => ih (i + 1) o5 o6 (by omega) (by omega) (by omega)
                    rw [es] at e9
                    exact e9 _ _
                · exfalso; omega
        · obtain ⟨w0, w1, w2⟩ : 0 ≤ aLk g b th p i.toNat ∧ aLk g b th p i.toNat < i.toNat ∧ th.toNat.testBit (aLk g b th p i.toNat).toNat = true := by
            rcases hin with q | q
            · exact absurd q hw4
            · exact q
          generalize aLk g b th p i.toNat = w at es w0 w1 w2 hw4 hin ⊢
          have hbw := hb.2 w w0 (by omega) w2
          have hvw := hd.2.2.2.2.2.1 (b w) p hbw.1 hbw.2 hp.1 hp.2
          have hvbw := hg.2.2.2.2.1 (b w) p hbw.1 hbw.2 hp.1 hp.2
          have hrw := hr w w0 (by omega)
          refine S.iload (pc' := 8) dX12_likes_6 rfl rfl ?_
          refine S.iconst (pc' := 9) dX12_likes_8 rfl ?_
          refine S.icmp_ge (pc' := 12) (tgt := 111) dX12_likes_9 (by decide) rfl (by unfold fp_rng; omega) (by unfold fp_rng; omega) (fun h9 => ?_) (fun h9 => ?_)
          · exfalso; omega
          · refine S.iload_n (pc' := 13) dX12_likes_12 rfl rfl rfl ?_
            refine S.iload (pc' := 15) dX12_likes_13 rfl rfl ?_
            refine S.ishr (pc' := 16) dX12_likes_15 rfl (fp_shrv (by omega) (by omega)) ?_
            refine S.iconst (pc' := 17) dX12_likes_16 rfl ?_
            refine S.iand (pc' := 18) dX12_likes_17 rfl (fp_iand hdn (by decide)) ?_
            refine S.iconst (pc' := 19) dX12_likes_18 rfl ?_
            refine S.icmp_ne (pc' := 22) (tgt := 105) dX12_likes_19 (by decide) rfl (by rw [hbit]; unfold fp_rng; omega) (by unfold fp_rng; omega) (fun h19 => ?_) (fun h19 => ?_)
            · refine S.iinc (pc' := 108) (LL' := [_, _, _, _, _, _, _]) dX12_likes_105 rfl (by decide) rfl rfl rfl ?_
              refine S.goto (pc' := 6) dX12_likes_108 (by decide) ?_
              try (exfalso; omega)
              all_goals
                have e9 := fun o5 o6 => ih (i + 1) o5 o6 (by omega) (by omega) (by omega)
                first | (rw [if_pos ⟨ht, by omega⟩] at es; rw [es] at e9; exact e9 _ _) | (rw [if_neg (fun q => by omega)] at es; rw [es] at e9; exact e9 _ _)
            · refine S.aload_n (pc' := 23) dX12_likes_22 rfl rfl rfl ?_
              refine S.getR (pc' := 26) dX12_likes_23 rfl fX12_16 L_177 rf_177_2 ?_
              refine S.iconst (pc' := 27) dX12_likes_26 rfl ?_
              refine S.aload_n (pc' := 28) dX12_likes_27 rfl rfl rfl ?_
              refine S.getR (pc' := 31) dX12_likes_28 rfl fX12_69 L_177 rf_177_37 ?_
              refine S.iload (pc' := 33) dX12_likes_31 rfl rfl ?_
              refine S.iald (pc' := 34) dX12_likes_33 rfl L_196 (by omega) (by omega) ?_
              rw [hri]
              refine S.imul (pc' := 35) dX12_likes_34 rfl ?_
              refine S.iload_n (pc' := 36) dX12_likes_35 rfl rfl rfl ?_
              refine S.iadd (pc' := 37) dX12_likes_36 rfl ?_
              refine S.iald (pc' := 38) dX12_likes_37 rfl L_180 (by omega) (by omega) ?_
              refine S.istore (pc' := 40) (LL' := [_, _, _, _, _, _, _]) dX12_likes_38 rfl (by decide) rfl rfl ?_
              refine S.iload_n (pc' := 41) dX12_likes_40 rfl rfl rfl ?_
              refine S.bipush (pc' := 43) dX12_likes_41 rfl (by decide) ?_
              refine S.icmp_ne (pc' := 46) (tgt := 51) dX12_likes_43 (by decide) rfl (by unfold fp_rng; omega) (by unfold fp_rng; omega) (fun h43 => ?_) (fun h43 => ?_)
              · refine S.aload_n (pc' := 52) dX12_likes_51 rfl rfl rfl ?_
                refine S.getR (pc' := 55) dX12_likes_52 rfl fX12_16 L_177 rf_177_2 ?_
                refine S.iconst (pc' := 56) dX12_likes_55 rfl ?_
                refine S.aload_n (pc' := 57) dX12_likes_56 rfl rfl rfl ?_
                refine S.getR (pc' := 60) dX12_likes_57 rfl fX12_69 L_177 rf_177_37 ?_
                refine S.iload_n (pc' := 61) dX12_likes_60 rfl rfl rfl ?_
                refine S.iald (pc' := 62) dX12_likes_61 rfl L_196 (by omega) (by omega) ?_
                rw [hrw]
                refine S.imul (pc' := 63) dX12_likes_62 rfl ?_
                refine S.iload_n (pc' := 64) dX12_likes_63 rfl rfl rfl ?_
                refine S.iadd (pc' := 65) dX12_likes_64 rfl ?_
                refine S.iald (pc' := 66) dX12_likes_65 rfl L_180 (by omega) (by omega) ?_
                refine S.istore (pc' := 68) (LL' := [_, _, _, _, _, _, _]) dX12_likes_66 rfl (by decide) rfl rfl ?_
                refine S.iload (pc' := 70) dX12_likes_68 rfl rfl ?_
                refine S.iload (pc' := 72) dX12_likes_70 rfl rfl ?_
                refine S.icmp_gt (pc' := 75) (tgt := 98) dX12_likes_72 (by decide) rfl (by unfold fp_rng; omega) (by unfold fp_rng; omega) (fun h72 => ?_) (fun h72 => ?_)
                · refine S.iload (pc' := 100) dX12_likes_98 rfl rfl ?_
                  refine S.goto (pc' := 104) dX12_likes_100 (by decide) ?_
                  refine S.istore_n (pc' := 105) (LL' := [_, _, _, _, _, _, _]) dX12_likes_104 rfl (by decide) rfl rfl rfl ?_
                  refine S.iinc (pc' := 108) (LL' := [_, _, _, _, _, _, _]) dX12_likes_105 rfl (by decide) rfl rfl rfl ?_
                  refine S.goto (pc' := 6) dX12_likes_108 (by decide) ?_
                  try (exfalso; omega)
                  all_goals
                    have e9 := fun o5 o6 => ih (i + 1) o5 o6 (by omega) (by omega) (by omega)
                    first | (rw [if_pos ⟨ht, by omega⟩] at es; rw [es] at e9; exact e9 _ _) | (rw [if_neg (fun q => by omega)] at es; rw [es] at e9; exact e9 _ _)
                · refine S.iload (pc' := 77) dX12_likes_75 rfl rfl ?_
                  refine S.iload (pc' := 79) dX12_likes_77 rfl rfl ?_
                  refine S.icmp_ne (pc' := 82) (tgt := 103) dX12_likes_79 (by decide) rfl (by unfold fp_rng; omega) (by unfold fp_rng; omega) (fun h79 => ?_) (fun h79 => ?_)
                  · refine S.iload_n (pc' := 104) dX12_likes_103 rfl rfl rfl ?_
                    refine S.istore_n (pc' := 105) (LL' := [_, _, _, _, _, _, _]) dX12_likes_104 rfl (by decide) rfl rfl rfl ?_
                    refine S.iinc (pc' := 108) (LL' := [_, _, _, _, _, _, _]) dX12_likes_105 rfl (by decide) rfl rfl rfl ?_
                    refine S.goto (pc' := 6) dX12_likes_108 (by decide) ?_
                    try (exfalso; omega)
                    all_goals
                      have e9 := fun o5 o6 => ih (i + 1) o5 o6 (by omega) (by omega) (by omega)
                      first | (rw [if_pos ⟨ht, by omega⟩] at es; rw [es] at e9; exact e9 _ _) | (rw [if_neg (fun q => by omega)] at es; rw [es] at e9; exact e9 _ _)
                  · refine S.aload_n (pc' := 83) dX12_likes_82 rfl rfl rfl ?_
                    refine S.getR (pc' := 86) dX12_likes_83 rfl fX12_69 L_177 rf_177_37 ?_
                    refine S.iload (pc' := 88) dX12_likes_86 rfl rfl ?_
                    refine S.iald (pc' := 89) dX12_likes_88 rfl L_196 (by omega) (by omega) ?_
                    refine S.aload_n (pc' := 90) dX12_likes_89 rfl rfl rfl ?_
                    refine S.getR (pc' := 93) dX12_likes_90 rfl fX12_69 L_177 rf_177_37 ?_
                    refine S.iload_n (pc' := 94) dX12_likes_93 rfl rfl rfl ?_
                    refine S.iald (pc' := 95) dX12_likes_94 rfl L_196 (by omega) (by omega) ?_
                    refine S.icmp_ge (pc' := 98) (tgt := 103) dX12_likes_95 (by decide) rfl (by unfold fp_rng; omega) (by unfold fp_rng; omega) (fun h95 => ?_) (fun h95 => ?_)
                    · refine S.iload_n (pc' := 104) dX12_likes_103 rfl rfl rfl ?_
                      refine S.istore_n (pc' := 105) (LL' := [_, _, _, _, _, _, _]) dX12_likes_104 rfl (by decide) rfl rfl rfl ?_
                      refine S.iinc (pc' := 108) (LL' := [_, _, _, _, _, _, _]) dX12_likes_105 rfl (by decide) rfl rfl rfl ?_
                      refine S.goto (pc' := 6) dX12_likes_108 (by decide) ?_
                      try (exfalso; omega)
                      all_goals
                        have e9 := fun o5 o6 => ih (i + 1) o5 o6 (by omega) (by omega) (by omega)
                        first | (rw [if_pos ⟨ht, by omega⟩] at es; rw [es] at e9; exact e9 _ _) | (rw [if_neg (fun q => by omega)] at es; rw [es] at e9; exact e9 _ _)
                    · refine S.iload (pc' := 100) dX12_likes_98 rfl rfl ?_
                      refine S.goto (pc' := 104) dX12_likes_100 (by decide) ?_
                      refine S.istore_n (pc' := 105) (LL' := [_, _, _, _, _, _, _]) dX12_likes_104 rfl (by decide) rfl rfl rfl ?_
                      refine S.iinc (pc' := 108) (LL' := [_, _, _, _, _, _, _]) dX12_likes_105 rfl (by decide) rfl rfl rfl ?_
                      refine S.goto (pc' := 6) dX12_likes_108 (by decide) ?_
                      try (exfalso; omega)
                      all_goals
                        have e9 := fun o5 o6 => ih (i + 1) o5 o6 (by omega) (by omega) (by omega)
                        first | (rw [if_pos ⟨ht, by omega⟩] at es; rw [es] at e9; exact e9 _ _) | (rw [if_neg (fun q => by omega)] at es; rw [es] at e9; exact e9 _ _)
              · exfalso; omega
      · rw [if_neg ht] at hbit
        rw [if_neg (fun q => ht q.1)] at es
        refine S.iload (pc' := 8) dX12_likes_6 rfl rfl ?_
        refine S.iconst (pc' := 9) dX12_likes_8 rfl ?_
        refine S.icmp_ge (pc' := 12) (tgt := 111) dX12_likes_9 (by decide) rfl (by unfold fp_rng; omega) (by unfold fp_rng; omega) (fun h9 => ?_) (fun h9 => ?_)
        · exfalso; omega
        · refine S.iload_n (pc' := 13) dX12_likes_12 rfl rfl rfl ?_
          refine S.iload (pc' := 15) dX12_likes_13 rfl rfl ?_
          refine S.ishr (pc' := 16) dX12_likes_15 rfl (fp_shrv (by omega) (by omega)) ?_
          refine S.iconst (pc' := 17) dX12_likes_16 rfl ?_
          refine S.iand (pc' := 18) dX12_likes_17 rfl (fp_iand hdn (by decide)) ?_
          refine S.iconst (pc' := 19) dX12_likes_18 rfl ?_
          refine S.icmp_ne (pc' := 22) (tgt := 105) dX12_likes_19 (by decide) rfl (by rw [hbit]; unfold fp_rng; omega) (by unfold fp_rng; omega) (fun h19 => ?_) (fun h19 => ?_)
          · refine S.iinc (pc' := 108) (LL' := [_, _, _, _, _, _, _]) dX12_likes_105 rfl (by decide) rfl rfl rfl ?_
            refine S.goto (pc' := 6) dX12_likes_108 (by decide) ?_
            rw [← es]; exact ih _ _ _ (by omega) (by omega) (by omega)
          · exfalso; omega
    · have e4 : i.toNat = 4 := by omega
      rw [e4]
      refine S.iload (pc' := 8) dX12_likes_6 rfl rfl ?_
      refine S.iconst (pc' := 9) dX12_likes_8 rfl ?_
      refine S.icmp_ge (pc' := 12) (tgt := 111) dX12_likes_9 (by decide) rfl (by unfold fp_rng; omega) (by unfold fp_rng; omega) (fun h9 => ?_) (fun h9 => ?_)
      · refine S.iload_n (pc' := 112) dX12_likes_111 rfl rfl rfl ?_
        refine S.iret dX12_likes_112 rfl ?_
        exact ⟨rfl, rfl⟩
      · exfalso; omega
theorem rk_X12_likes {b : Int → Int} {th p : Int} (hp : 0 ≤ p ∧ p < 4) (hb : bOk g b th) (hg : gOk g) (hd : mdIs M g) (hr : ∀ q : Int, 0 ≤ q → q < 4 → M 196 q.toNat = b q) : fp_Ok l G 0 kX12_likes [rV G 177, iV p, iV th] M (qE (aLk g b th p 4) M) := by
  refine fp_Ok.of (r := 4) rfl (Nat.le_of_ble_eq_true rfl) rfl ?_
  refine S.bipush (pc' := 2) dX12_likes_0 rfl (by decide) ?_
  refine S.istore_n (pc' := 3) (LL' := [_, _, _, _, _, _, _]) dX12_likes_2 rfl (by decide) rfl rfl rfl ?_
  refine S.iconst (pc' := 4) dX12_likes_3 rfl ?_
  refine S.istore (pc' := 6) (LL' := [_, _, _, _, _, _, _]) dX12_likes_4 rfl (by decide) rfl rfl ?_
  exact mlikes_loop hp hb hg hd hr 5 0 none none (by omega) (by omega) (by omega)
theorem bk_X7_isThere {th q : Int} (hth : 0 ≤ th ∧ th < 16) (hm : M 136 4 = th) (hq : 0 ≤ q ∧ q < 4) : fp_Ok l G 0 kX7_isThere [rV G 136, iV q] M (qI fun z N => ((z = 1 ∧ th.toNat.testBit q.toNat = true) ∨ (z = 0 ∧ ¬ th.toNat.testBit q.toNat = true)) ∧ M = N) := by
  refine fp_Ok.of (r := 0) rfl (Nat.le_of_ble_eq_true rfl) rfl ?_
  have hb := fp_bit2 hth hq
  have hp := fp_pow_le (i := q) (n := 4) (by omega)
  have h16 : (2 : Int) ^ 4 = 16 := by decide
  by_cases ht : th.toNat.testBit q.toNat = true
  · rw [if_pos ht] at hb
    refine S.aload_n (pc' := 1) dX7_isThere_0 rfl rfl rfl ?_
    refine S.getI (pc' := 4) dX7_isThere_1 rfl fX7_36 L_136 ?_
    rw [hm]
    refine S.iconst (pc' := 5) dX7_isThere_4 rfl ?_
    refine S.iload_n (pc' := 6) dX7_isThere_5 rfl rfl rfl ?_
    refine S.ishl (pc' := 7) dX7_isThere_6 rfl (fp_shl1 (by omega) (by omega)) ?_
    refine S.iand (pc' := 8) dX7_isThere_7 rfl (fp_iand hth.1 (by omega)) ?_
    refine S.if_eq (pc' := 11) (tgt := 15) dX7_isThere_8 (by decide) rfl (by unfold fp_rng; omega) (fun h8 => ?_) (fun h8 => ?_)
    · exfalso; omega
    · refine S.iconst (pc' := 12) dX7_isThere_11 rfl ?_
      refine S.goto (pc' := 16) dX7_isThere_12 (by decide) ?_
      refine S.zret dX7_isThere_16 rfl (by first | exact Or.inl rfl | exact Or.inr rfl | omega) ?_
      exact ⟨Or.inl ⟨rfl, ht⟩, rfl⟩
  · rw [if_neg ht] at hb
    refine S.aload_n (pc' := 1) dX7_isThere_0 rfl rfl rfl ?_
    refine S.getI (pc' := 4) dX7_isThere_1 rfl fX7_36 L_136 ?_
    rw [hm]
    refine S.iconst (pc' := 5) dX7_isThere_4 rfl ?_
    refine S.iload_n (pc' := 6) dX7_isThere_5 rfl rfl rfl ?_
    refine S.ishl (pc' := 7) dX7_isThere_6 rfl (fp_shl1 (by omega) (by omega)) ?_
    refine S.iand (pc' := 8) dX7_isThere_7 rfl (fp_iand hth.1 (by omega)) ?_
    refine S.if_eq (pc' := 11) (tgt := 15) dX7_isThere_8 (by decide) rfl (by unfold fp_rng; omega) (fun h8 => ?_) (fun h8 => ?_)
    · refine S.iconst (pc' := 16) dX7_isThere_15 rfl ?_
      refine S.zret dX7_isThere_16 rfl (by first | exact Or.inl rfl | exact Or.inr rfl | omega) ?_
      exact ⟨Or.inr ⟨rfl, ht⟩, rfl⟩
    · exfalso; omega
theorem bk_X7_likesBetter {p t u : Int} (hp : 0 ≤ p ∧ p < 4) (ht : 0 ≤ t ∧ t < g.1) (hu : 0 ≤ u ∧ u < g.1) (hg : gOk g) (hd : gdIs M 18 g) : fp_Ok l G 1 kX7_likesBetter [rV G 18, iV p, iV t, iV u] M (qI fun z N => ((z = 1 ∧ (g.2.2.2.2.1 u p < g.2.2.2.2.1 t p ∨ (g.2.2.2.2.1 t p = g.2.2.2.2.1 u p ∧ t < u))) ∨ (z = 0 ∧ ¬ (g.2.2.2.2.1 u p < g.2.2.2.2.1 t p ∨ (g.2.2.2.2.1 t p = g.2.2.2.2.1 u p ∧ t < u)))) ∧ M = N) := by
  have hg1 := hg.1
  have v1 : M (18 + 2) (t * 4 + p).toNat = g.2.2.2.2.1 t p := hd.2.2.2.2.2.1 t p ht.1 ht.2 hp.1 hp.2
  have v2 : M (18 + 2) (u * 4 + p).toNat = g.2.2.2.2.1 u p := hd.2.2.2.2.2.1 u p hu.1 hu.2 hp.1 hp.2
  have b1 := hg.2.2.2.2.1 t p ht.1 ht.2 hp.1 hp.2
  have b2 := hg.2.2.2.2.1 u p hu.1 hu.2 hp.1 hp.2
  refine fp_Ok.of (r := 1) rfl (Nat.le_of_ble_eq_true rfl) rfl ?_
  refine S.aload_n (pc' := 1) dX7_likesBetter_0 rfl rfl rfl ?_
  refine S.iload_n (pc' := 2) dX7_likesBetter_1 rfl rfl rfl ?_
  refine S.iload_n (pc' := 3) dX7_likesBetter_2 rfl rfl rfl ?_
  refine S.callVe (pc' := 6) dX7_likesBetter_3 rfl cX7_53 (ok_X1_valueTo gd18) rfl (gd_lay gd18) (by decide) rfl (Nat.le_of_ble_eq_true rfl) ?_
  refine S.aload_n (pc' := 7) dX7_likesBetter_6 rfl rfl rfl ?_
  refine S.iload_n (pc' := 8) dX7_likesBetter_7 rfl rfl rfl ?_
  refine S.iload_n (pc' := 9) dX7_likesBetter_8 rfl rfl rfl ?_
  refine S.callVe (pc' := 12) dX7_likesBetter_9 rfl cX7_53 (ok_X1_valueTo gd18) rfl (gd_lay gd18) (by decide) rfl (Nat.le_of_ble_eq_true rfl) ?_
  refine S.isub (pc' := 13) dX7_likesBetter_12 rfl ?_
  refine S.istore (pc' := 15) (LL' := [_, _, _, _, _]) dX7_likesBetter_13 rfl (by decide) rfl rfl ?_
  refine S.iload (pc' := 17) dX7_likesBetter_15 rfl rfl ?_
  refine S.if_gt (pc' := 20) (tgt := 30) dX7_likesBetter_17 (by decide) rfl (by unfold fp_rng; omega) (fun h17 => ?_) (fun h17 => ?_)
  · refine S.iconst (pc' := 31) dX7_likesBetter_30 rfl ?_
    refine S.goto (pc' := 35) dX7_likesBetter_31 (by decide) ?_
    refine S.zret dX7_likesBetter_35 rfl (by first | exact Or.inl rfl | exact Or.inr rfl | omega) ?_
    exact ⟨by omega, rfl⟩
  · refine S.iload (pc' := 22) dX7_likesBetter_20 rfl rfl ?_
    refine S.if_ne (pc' := 25) (tgt := 34) dX7_likesBetter_22 (by decide) rfl (by unfold fp_rng; omega) (fun h22 => ?_) (fun h22 => ?_)
    · refine S.iconst (pc' := 35) dX7_likesBetter_34 rfl ?_
      refine S.zret dX7_likesBetter_35 rfl (by first | exact Or.inl rfl | exact Or.inr rfl | omega) ?_
      exact ⟨by omega, rfl⟩
    · refine S.iload_n (pc' := 26) dX7_likesBetter_25 rfl rfl rfl ?_
      refine S.iload_n (pc' := 27) dX7_likesBetter_26 rfl rfl rfl ?_
      refine S.icmp_ge (pc' := 30) (tgt := 34) dX7_likesBetter_27 (by decide) rfl (by unfold fp_rng; omega) (by unfold fp_rng; omega) (fun h27 => ?_) (fun h27 => ?_)
      · refine S.iconst (pc' := 35) dX7_likesBetter_34 rfl ?_
        refine S.zret dX7_likesBetter_35 rfl (by first | exact Or.inl rfl | exact Or.inr rfl | omega) ?_
        exact ⟨by omega, rfl⟩
      · refine S.iconst (pc' := 31) dX7_likesBetter_30 rfl ?_
        refine S.goto (pc' := 35) dX7_likesBetter_31 (by decide) ?_
        refine S.zret dX7_likesBetter_35 rfl (by first | exact Or.inl rfl | exact Or.inr rfl | omega) ?_
        exact ⟨by omega, rfl⟩
theorem cpoint_in {b : Int → Int} {th p : Int} {Q : fp_Q} (hp : 0 ≤ p ∧ p < 4) (hb : bOk g b th) (hg : gOk g) (hd : gdIs N 18 g) (hm : N 136 4 = th) (hr : ∀ q : Int, 0 ≤ q → q < 4 → N 139 q.toNat = b q) (K : fp_S l G 2 kX7_point 64 [some (rV G 136), some (rV G 18), some (iV p), some (iV (aLk g b th p 4)), some (iV 4)] [] N Q) : ∀ (n : Nat) (i : Int), (4 - i).toNat < n → 0 ≤ i → i ≤ 4 →
    fp_S l G 2 kX7_point 13 [some (rV G 136), some (rV G 18), some (iV p), some (iV (aLk g b th p i.toNat)), some (iV i)] [] N Q := by
  have hg1 := hg.1
  intro n
  induction n with
  | zero => intro i h; omega
  | succ n ih =>
    intro i h i0 i1
    have es := aLk_succ (g := g) (b := b) (th := th) (p := p) i0
    have hin := aLk_in (g := g) (b := b) (th := th) (p := p) i.toNat
    by_cases hlt : i < 4
    · have hri := hr i i0 hlt
      by_cases ht : th.toNat.testBit i.toNat = true
      · have hbi := hb.2 i i0 hlt ht
        by_cases hw4 : aLk g b th p i.toNat = -4
        · rw [if_pos ⟨ht, Or.inl hw4⟩] at es
          refine S.iload (pc' := 15) dX7_point_13 rfl rfl ?_
          refine S.iconst (pc' := 16) dX7_point_15 rfl ?_
          refine S.icmp_ge (pc' := 19) (tgt := 64) dX7_point_16 (by decide) rfl (by unfold fp_rng; omega) (by unfold fp_rng; omega) (fun h16 => ?_) (fun h16 => ?_)
          · exfalso; omega
          · refine S.aload_n (pc' := 20) dX7_point_19 rfl rfl rfl ?_
            refine S.iload (pc' := 22) dX7_point_20 rfl rfl ?_
            refine S.callVi (pc' := 25) dX7_point_22 rfl cX7_45 (bk_X7_isThere hb.1 hm ⟨i0, hlt⟩) rfl L_136 (by decide) rfl (Nat.le_of_ble_eq_true rfl) (fun z22 M22 q22 => ?_)
            obtain ⟨b9, rfl⟩ := q22
            refine S.if_eq (pc' := 28) (tgt := 58) dX7_point_25 (by decide) rfl (by unfold fp_rng; omega) (fun h25 => ?_) (fun h25 => ?_)
            · refine S.iinc (pc' := 61) (LL' := [_, _, _, _, _]) dX7_point_58 rfl (by decide) rfl rfl rfl ?_
              refine S.goto (pc' := 13) dX7_point_61 (by decide) ?_
              rcases b9 with q9 | q9
              · first | (exfalso; omega) | (have e9 := ih (i + 1) (by omega) (by omega) (by omega); rw [es] at e9; exact e9)
              · exact absurd ht q9.2
            · refine S.iload_n (pc' := 29) dX7_point_28 rfl rfl rfl ?_
              refine S.bipush (pc' := 31) dX7_point_29 rfl (by decide) ?_
              refine S.icmp_eq (pc' := 34) (tgt := 55) dX7_point_31 (by decide) rfl (by unfold fp_rng; omega) (by unfold fp_rng; omega) (fun h31 => ?_) (fun h31 => ?_)
              · refine S.iload (pc' := 57) dX7_point_55 rfl rfl ?_
                refine S.istore_n (pc' := 58) (LL' := [_, _, _, _, _]) dX7_point_57 rfl (by decide) rfl rfl rfl ?_
                refine S.iinc (pc' := 61) (LL' := [_, _, _, _, _]) dX7_point_58 rfl (by decide) rfl rfl rfl ?_
                refine S.goto (pc' := 13) dX7_point_61 (by decide) ?_
                rcases b9 with q9 | q9
                · first | (exfalso; omega) | (have e9 := ih (i + 1) (by omega) (by omega) (by omega); rw [es] at e9; exact e9)
                · exact absurd ht q9.2
              · exfalso; omega
        · obtain ⟨w0, w1, w2⟩ : 0 ≤ aLk g b th p i.toNat ∧ aLk g b th p i.toNat < i.toNat ∧ th.toNat.testBit (aLk g b th p i.toNat).toNat = true := by
            rcases hin with q | q
            · exact absurd q hw4
            · exact q
          generalize aLk g b th p i.toNat = w at es w0 w1 w2 hw4 hin ⊢
          have hbw := hb.2 w w0 (by omega) w2
          have hrw := hr w w0 (by omega)
          refine S.iload (pc' := 15) dX7_point_13 rfl rfl ?_
          refine S.iconst (pc' := 16) dX7_point_15 rfl ?_
          refine S.icmp_ge (pc' := 19) (tgt := 64) dX7_point_16 (by decide) rfl (by unfold fp_rng; omega) (by unfold fp_rng; omega) (fun h16 => ?_) (fun h16 => ?_)
          · exfalso; omega
          · refine S.aload_n (pc' := 20) dX7_point_19 rfl rfl rfl ?_
            refine S.iload (pc' := 22) dX7_point_20 rfl rfl ?_
            refine S.callVi (pc' := 25) dX7_point_22 rfl cX7_45 (bk_X7_isThere hb.1 hm ⟨i0, hlt⟩) rfl L_136 (by decide) rfl (Nat.le_of_ble_eq_true rfl) (fun z22 M22 q22 => ?_)
            obtain ⟨b9, rfl⟩ := q22
            refine S.if_eq (pc' := 28) (tgt := 58) dX7_point_25 (by decide) rfl (by unfold fp_rng; omega) (fun h25 => ?_) (fun h25 => ?_)
            · refine S.iinc (pc' := 61) (LL' := [_, _, _, _, _]) dX7_point_58 rfl (by decide) rfl rfl rfl ?_
              refine S.goto (pc' := 13) dX7_point_61 (by decide) ?_
              rcases b9 with q9 | q9
              · have e9 := ih (i + 1) (by omega) (by omega) (by omega)
                first | (exfalso; omega) | (rw [if_pos ⟨ht, by omega⟩] at es; rw [es] at e9; exact e9) | (rw [if_neg (fun q => by omega)] at es; rw [es] at e9; exact e9)
              · exact absurd ht q9.2
            · refine S.iload_n (pc' := 29) dX7_point_28 rfl rfl rfl ?_
              refine S.bipush (pc' := 31) dX7_point_29 rfl (by decide) ?_
              refine S.icmp_eq (pc' := 34) (tgt := 55) dX7_point_31 (by decide) rfl (by unfold fp_rng; omega) (by unfold fp_rng; omega) (fun h31 => ?_) (fun h31 => ?_)
              · refine S.iload (pc' := 57) dX7_point_55 rfl rfl ?_
                refine S.istore_n (pc' := 58) (LL' := [_, _, _, _, _]) dX7_point_57 rfl (by decide) rfl rfl rfl ?_
                refine S.iinc (pc' := 61) (LL' := [_, _, _, _, _]) dX7_point_58 rfl (by decide) rfl rfl rfl ?_
                refine S.goto (pc' := 13) dX7_point_61 (by decide) ?_
                rcases b9 with q9 | q9
                · have e9 := ih (i + 1) (by omega) (by omega) (by omega)
                  first | (exfalso; omega) | (rw [if_pos ⟨ht, by omega⟩] at es; rw [es] at e9; exact e9) | (rw [if_neg (fun q => by omega)] at es; rw [es] at e9; exact e9)
                · exact absurd ht q9.2
              · refine S.aload_n (pc' := 35) dX7_point_34 rfl rfl rfl ?_
                refine S.iload_n (pc' := 36) dX7_point_35 rfl rfl rfl ?_
                refine S.aload_n (pc' := 37) dX7_point_36 rfl rfl rfl ?_
                refine S.getR (pc' := 40) dX7_point_37 rfl fX7_18 L_136 rf_136_2 ?_
                refine S.iload (pc' := 42) dX7_point_40 rfl rfl ?_
                refine S.iald (pc' := 43) dX7_point_42 rfl L_139 (by omega) (by omega) ?_
                refine S.aload_n (pc' := 44) dX7_point_43 rfl rfl rfl ?_
                refine S.getR (pc' := 47) dX7_point_44 rfl fX7_18 L_136 rf_136_2 ?_
                refine S.iload_n (pc' := 48) dX7_point_47 rfl rfl rfl ?_
                refine S.iald (pc' := 49) dX7_point_48 rfl L_139 (by omega) (by omega) ?_
                rw [hri, hrw]
                refine S.callSi (pc' := 52) dX7_point_49 rfl cX7_49 (bk_X7_likesBetter hp hbi hbw hg hd) rfl (by decide) rfl (Nat.le_of_ble_eq_true rfl) (fun z49 M49 q49 => ?_)
                obtain ⟨b8, rfl⟩ := q49
                refine S.if_eq (pc' := 55) (tgt := 58) dX7_point_52 (by decide) rfl (by unfold fp_rng; omega) (fun h52 => ?_) (fun h52 => ?_)
                · refine S.iinc (pc' := 61) (LL' := [_, _, _, _, _]) dX7_point_58 rfl (by decide) rfl rfl rfl ?_
                  refine S.goto (pc' := 13) dX7_point_61 (by decide) ?_
                  rcases b9 with q9 | q9
                  · have e9 := ih (i + 1) (by omega) (by omega) (by omega)
                    first | (exfalso; omega) | (rw [if_pos ⟨ht, by omega⟩] at es; rw [es] at e9; exact e9) | (rw [if_neg (fun q => by omega)] at es; rw [es] at e9; exact e9)
                  · exact absurd ht q9.2
                · refine S.iload (pc' := 57) dX7_point_55 rfl rfl ?_
                  refine S.istore_n (pc' := 58) (LL' := [_, _, _, _, _]) dX7_point_57 rfl (by decide) rfl rfl rfl ?_
                  refine S.iinc (pc' := 61) (LL' := [_, _, _, _, _]) dX7_point_58 rfl (by decide) rfl rfl rfl ?_
                  refine S.goto (pc' := 13) dX7_point_61 (by decide) ?_
                  rcases b9 with q9 | q9
                  · have e9 := ih (i + 1) (by omega) (by omega) (by omega)
                    first | (exfalso; omega) | (rw [if_pos ⟨ht, by omega⟩] at es; rw [es] at e9; exact e9) | (rw [if_neg (fun q => by omega)] at es; rw [es] at e9; exact e9)
                  · exact absurd ht q9.2
      · rw [if_neg (fun q => ht q.1)] at es
        refine S.iload (pc' := 15) dX7_point_13 rfl rfl ?_
        refine S.iconst (pc' := 16) dX7_point_15 rfl ?_
        refine S.icmp_ge (pc' := 19) (tgt := 64) dX7_point_16 (by decide) rfl (by unfold fp_rng; omega) (by unfold fp_rng; omega) (fun h16 => ?_) (fun h16 => ?_)
        · exfalso; omega
        · refine S.aload_n (pc' := 20) dX7_point_19 rfl rfl rfl ?_
          refine S.iload (pc' := 22) dX7_point_20 rfl rfl ?_
          refine S.callVi (pc' := 25) dX7_point_22 rfl cX7_45 (bk_X7_isThere hb.1 hm ⟨i0, hlt⟩) rfl L_136 (by decide) rfl (Nat.le_of_ble_eq_true rfl) (fun z22 M22 q22 => ?_)
          obtain ⟨b9, rfl⟩ := q22
          refine S.if_eq (pc' := 28) (tgt := 58) dX7_point_25 (by decide) rfl (by unfold fp_rng; omega) (fun h25 => ?_) (fun h25 => ?_)
          · refine S.iinc (pc' := 61) (LL' := [_, _, _, _, _]) dX7_point_58 rfl (by decide) rfl rfl rfl ?_
            refine S.goto (pc' := 13) dX7_point_61 (by decide) ?_
            have e9 := ih (i + 1) (by omega) (by omega) (by omega)
            rw [es] at e9
            exact e9
          · rcases b9 with q9 | q9
            · exact absurd q9.2 ht
            · exfalso; omega
    · have e4 : i = 4 := by omega
      subst e4
      refine S.iload (pc' := 15) dX7_point_13 rfl rfl ?_
      refine S.iconst (pc' := 16) dX7_point_15 rfl ?_
      refine S.icmp_ge (pc' := 19) (tgt := 64) dX7_point_16 (by decide) rfl (by unfold fp_rng; omega) (by unfold fp_rng; omega) (fun h16 => ?_) (fun h16 => ?_)
      · exact K
      · exfalso; omega
theorem cpoint_out {b : Int → Int} {th : Int} (hb : bOk g b th) (hg : gOk g) (hd : gdIs M 18 g) (hm : M 136 4 = th) (hr : ∀ q : Int, 0 ≤ q → q < 4 → M 139 q.toNat = b q) : ∀ (n : Nat) (p : Int) (N : fp_Mem) (o3 o4 : Option Value), (4 - p).toNat < n → 0 ≤ p → p ≤ 4 → (∀ a, a ≠ 140 → N a = M a) → (∀ y : Int, 0 ≤ y → y < p → N 140 y.toNat = aLk g b th y 4) →
    fp_S l G 2 kX7_point 2 [some (rV G 136), some (rV G 18), some (iV p), o3, o4] [] N (qV fun O => (∀ a, a ≠ 140 → O a = M a) ∧ ∀ y : Int, 0 ≤ y → y < 4 → O 140 y.toNat = aLk g b th y 4) := by
  intro n
  induction n with
  | zero => intro p N o3 o4 h; omega
  | succ n ih =>
    intro p N o3 o4 h p0 p1 e1 e2
    by_cases hlt : p < 4
    · have hd' : gdIs N 18 g := hd.kept (fun a q1 q2 => e1 a (by omega))
      have hK : fp_S l G 2 kX7_point 64 [some (rV G 136), some (rV G 18), some (iV p), some (iV (aLk g b th p 4)), some (iV 4)] [] N (qV fun O => (∀ a, a ≠ 140 → O a = M a) ∧ ∀ y : Int, 0 ≤ y → y < 4 → O 140 y.toNat = aLk g b th y 4) := by
        refine S.aload_n (pc' := 65) dX7_point_64 rfl rfl rfl ?_
        refine S.getR (pc' := 68) dX7_point_65 rfl fX7_21 L_136 rf_136_3 ?_
        refine S.iload_n (pc' := 69) dX7_point_68 rfl rfl rfl ?_
        refine S.iload_n (pc' := 70) dX7_point_69 rfl rfl rfl ?_
        refine S.iast (pc' := 71) dX7_point_70 rfl L_140 (by omega) (by omega) ?_
        refine S.iinc (pc' := 74) (LL' := [_, _, _, _, _]) dX7_point_71 rfl (by decide) rfl rfl rfl ?_
        refine S.goto (pc' := 2) dX7_point_74 (by decide) ?_
        refine ih _ _ _ _ (by omega) (by omega) (by omega) (fun a ha => by rw [fp_up_ne ha]; exact e1 a ha) (fun y y0 y1 => ?_)
        rw [fp_up_at]
        by_cases e : y = p
        · subst e; rw [fp_upf_at]
        · rw [fp_upf_ne (by omega)]; exact e2 y y0 (by omega)
      refine S.iload_n (pc' := 3) dX7_point_2 rfl rfl rfl ?_
      refine S.iconst (pc' := 4) dX7_point_3 rfl ?_
      refine S.icmp_ge (pc' := 7) (tgt := 77) dX7_point_4 (by decide) rfl (by unfold fp_rng; omega) (by unfold fp_rng; omega) (fun h4 => ?_) (fun h4 => ?_)
      · exfalso; omega
      · refine S.bipush (pc' := 9) dX7_point_7 rfl (by decide) ?_
        refine S.istore_n (pc' := 10) (LL' := [_, _, _, _, _]) dX7_point_9 rfl (by decide) rfl rfl rfl ?_
        refine S.iconst (pc' := 11) dX7_point_10 rfl ?_
        refine S.istore (pc' := 13) (LL' := [_, _, _, _, _]) dX7_point_11 rfl (by decide) rfl rfl ?_
        exact cpoint_in ⟨p0, hlt⟩ hb hg hd' (by rw [e1 136 (by decide)]; exact hm) (fun q q0 q1 => by rw [e1 139 (by decide)]; exact hr q q0 q1) hK 5 0 (by omega) (by omega) (by omega)
    · refine S.iload_n (pc' := 3) dX7_point_2 rfl rfl rfl ?_
      refine S.iconst (pc' := 4) dX7_point_3 rfl ?_
      refine S.icmp_ge (pc' := 7) (tgt := 77) dX7_point_4 (by decide) rfl (by unfold fp_rng; omega) (by unfold fp_rng; omega) (fun h4 => ?_) (fun h4 => ?_)
      · refine S.vret dX7_point_77 rfl ?_
        exact ⟨e1, fun y y0 y1 => e2 y y0 (by omega)⟩
      · exfalso; omega
theorem rk_X7_point {b : Int → Int} {th : Int} (hb : bOk g b th) (hg : gOk g) (hd : gdIs M 18 g) (hm : M 136 4 = th) (hr : ∀ q : Int, 0 ≤ q → q < 4 → M 139 q.toNat = b q) : fp_Ok l G 2 kX7_point [rV G 136, rV G 18] M (qV fun O => (∀ a, a ≠ 140 → O a = M a) ∧ ∀ y : Int, 0 ≤ y → y < 4 → O 140 y.toNat = aLk g b th y 4) := by
  refine fp_Ok.of (r := 3) rfl (Nat.le_of_ble_eq_true rfl) rfl ?_
  refine S.iconst (pc' := 1) dX7_point_0 rfl ?_
  refine S.istore_n (pc' := 2) (LL' := [_, _, _, _, _]) dX7_point_1 rfl (by decide) rfl rfl rfl ?_
  exact cpoint_out hb hg hd hm hr 5 0 _ none none (by omega) (by omega) (by omega) (fun a ha => rfl) (fun y y0 y1 => by omega)
end RNG
