/-! RINGS: whom one likes -/
def aLk (g : aGd) (b : Int → Int) (th p : Int) : Nat → Int
  | 0 => -4
  | n + 1 => if th.toNat.testBit n = true ∧ (aLk g b th p n = -4 ∨ g.2.2.2.2.1 (b (aLk g b th p n)) p < g.2.2.2.2.1 (b n) p ∨ (g.2.2.2.2.1 (b n) p = g.2.2.2.2.1 (b (aLk g b th p n)) p ∧ b n < b (aLk g b th p n))) then (n : Int) else aLk g b th p n
def bOk (g : aGd) (b : Int → Int) (th : Int) : Prop := (0 ≤ th ∧ th < 16) ∧ ∀ q : Int, 0 ≤ q → q < 4 → th.toNat.testBit q.toNat = true → 0 ≤ b q ∧ b q < g.1
theorem aLk_succ {g : aGd} {b : Int → Int} {th p i : Int} (h : 0 ≤ i) : aLk g b th p (i + 1).toNat = if th.toNat.testBit i.toNat = true ∧ (aLk g b th p i.toNat = -4 ∨ g.2.2.2.2.1 (b (aLk g b th p i.toNat)) p < g.2.2.2.2.1 (b i) p ∨ (g.2.2.2.2.1 (b i) p = g.2.2.2.2.1 (b (aLk g b th p i.toNat)) p ∧ b i < b (aLk g b th p i.toNat))) then i else aLk g b th p i.toNat := by
  have e1 : (i + 1).toNat = i.toNat + 1 := by omega
  rw [e1]
  show (if _ ∧ (_ ∨ _ < g.2.2.2.2.1 (b ((i.toNat : Nat) : Int)) p ∨ (g.2.2.2.2.1 (b ((i.toNat : Nat) : Int)) p = _ ∧ b ((i.toNat : Nat) : Int) < _)) then ((i.toNat : Nat) : Int) else _) = _
  rw [Int.toNat_of_nonneg h]
theorem aLk_in {g : aGd} {b : Int → Int} {th p : Int} : ∀ n : Nat, aLk g b th p n = -4 ∨ (0 ≤ aLk g b th p n ∧ aLk g b th p n < n ∧ th.toNat.testBit (aLk g b th p n).toNat = true)
  | 0 => Or.inl rfl
  | n + 1 => by
    have q := aLk_in (g := g) (b := b) (th := th) (p := p) n
    unfold aLk
    split
    · rename_i hh
      right
      exact ⟨by omega, by omega, by rw [Int.toNat_natCast]; exact hh.1⟩
    · rcases q with q | q
      · exact Or.inl q
      · exact Or.inr ⟨q.1, by omega, q.2.2⟩
theorem fp_bit2 {v i : Int} (hv : 0 ≤ v ∧ v < 16) (hi : 0 ≤ i ∧ i < 4) : fp_and v (2 ^ i.toNat) = if v.toNat.testBit i.toNat = true then 2 ^ i.toNat else 0 := by
  have h : ∀ a : Nat, a < 16 → ∀ q : Nat, q < 4 → fp_and (a : Int) (2 ^ q) = if a.testBit q = true then 2 ^ q else 0 := by decide +kernel
  have := h v.toNat (by omega) i.toNat (by omega)
  rwa [Int.toNat_of_nonneg hv.1] at this
section RNG
variable {l : Launch} {G : fp_WG} {M N : fp_Mem} {g : aGd} {pg pg' : aPg} {k k2 : Nat}
theorem mlikes_loop {b : Int → Int} {th p : Int} (hp : 0 ≤ p ∧ p < 4) (hb : bOk g b th) (hg : gOk g) (hd : mdIs M g) (hr : ∀ q : Int, 0 ≤ q → q < 4 → M 196 q.toNat = b q) : ∀ (n : Nat) (i : Int) (o5 o6 : Option Value), (4 - i).toNat < n → 0 ≤ i → i ≤ 4 →
    fp_S l G 0 kX12_likes 6 [some (rV G 177), some (iV p), some (iV th), some (iV (aLk g b th p i.toNat)), some (iV i), o5, o6] [] M (qE (aLk g b th p 4) M) := by
  have hg1 := hg.1
  intro n
  induction n with
  | zero => intro i o5 o6 h; omega
  | succ n ih =>
    intro i o5 o6 h i0 i1
    have es := aLk_succ (g := g) (b := b) (th := th) (p := p) i0
    have hin := aLk_in (g := g) (b := b) (th := th) (p := p) i.toNat
    have hbit := fp_bitv (v := th) (i := i) hb.1.1
    have hdn : 0 ≤ th / 2 ^ i.toNat := Int.ediv_nonneg hb.1.1 (Int.le_of_lt (Int.pow_pos (by decide)))
    have hth := hb.1
    by_cases hlt : i < 4
    · by_cases ht : th.toNat.testBit i.toNat = true
      · rw [if_pos ht] at hbit
        have hbi := hb.2 i i0 hlt ht
        have hv := hd.2.2.2.2.2.1 (b i) p hbi.1 hbi.2 hp.1 hp.2
        have hvb := hg.2.2.2.2.1 (b i) p hbi.1 hbi.2 hp.1 hp.2
        have hri := hr i i0 hlt
        by_cases hw4 : aLk g b th p i.toNat = -4
        · rw [if_pos ⟨ht, Or.inl hw4⟩] at es
          refine S.iload (pc' := 8) dX12_likes_6 rfl rfl ?_
          refine S.iconst (pc' := 9) dX12_likes_8 rfl ?_
          refine S.icmp_ge (pc' := 12) (tgt := 111) dX12_likes_9 (by decide) rfl (by unfold fp_rng; omega) (by unfold fp_rng; omega) (fun h9 => ?_) (fun h9 => ?_)
          · exfalso; omega
          · refine S.iload_n (pc' := 13) dX12_likes_12 rfl rfl rfl ?_
            refine S.iload (pc' := 15) dX12_likes_13 rfl rfl ?_
            refine S.ishr (pc' := 16) dX12_likes_15 rfl (fp_shrv (by omega) (by omega)) ?_
            refine S.iconst (pc' := 17) dX12_likes_16 rfl ?_
            refine S.iand (pc' := 18) dX12_likes_17 rfl (fp_iand hdn (by decide)) ?_
            refine S.iconst (pc' := 19) dX12_likes_18 rfl ?_
            refine S.icmp_ne (pc' := 22) (tgt := 105) dX12_likes_19 (by decide) rfl (by rw [hbit]; unfold fp_rng; omega) (by unfold fp_rng; omega) (fun h19 => ?_) (fun h19 => ?_)
            · refine S.iinc (pc' := 108) (LL' := [_, _, _, _, _, _, _]) dX12_likes_105 rfl (by decide) rfl rfl rfl ?_
              refine S.goto (pc' := 6) dX12_likes_108 (by decide) ?_
              try (exfalso; omega)
              all_goals
                have e9 := fun o5 o6 => ih (i + 1) o5 o6 (by omega) (by omega) (by omega)
                rw [es] at e9
                exact e9 _ _
            · refine S.aload_n (pc' := 23) dX12_likes_22 rfl rfl rfl ?_
              refine S.getR (pc' := 26) dX12_likes_23 rfl fX12_16 L_177 rf_177_2 ?_
              refine S.iconst (pc' := 27) dX12_likes_26 rfl ?_
              refine S.aload_n (pc' := 28) dX12_likes_27 rfl rfl rfl ?_
              refine S.getR (pc' := 31) dX12_likes_28 rfl fX12_69 L_177 rf_177_37 ?_
              refine S.iload (pc' := 33) dX12_likes_31 rfl rfl ?_
              refine S.iald (pc' := 34) dX12_likes_33 rfl L_196 (by omega) (by omega) ?_
              rw [hri]
              refine S.imul (pc' := 35) dX12_likes_34 rfl ?_
              refine S.iload_n (pc' := 36) dX12_likes_35 rfl rfl rfl ?_
              refine S.iadd (pc' := 37) dX12_likes_36 rfl ?_
              refine S.iald (pc' := 38) dX12_likes_37 rfl L_180 (by omega) (by omega) ?_
              refine S.istore (pc' := 40) (LL' := [_, _, _, _, _, _, _]) dX12_likes_38 rfl (by decide) rfl rfl ?_
              refine S.iload_n (pc' := 41) dX12_likes_40 rfl rfl rfl ?_
              refine S.bipush (pc' := 43) dX12_likes_41 rfl (by decide) ?_
              refine S.icmp_ne (pc' := 46) (tgt := 51) dX12_likes_43 (by decide) rfl (by unfold fp_rng; omega) (by unfold fp_rng; omega) (fun h43 => ?_) (fun h43 => ?_)
              · exfalso; omega
              · refine S.bipush (pc' := 48) dX12_likes_46 rfl (by decide) ?_
                refine S.goto (pc' := 66) dX12_likes_48 (by decide) ?_
                refine S.istore (pc' := 68) (LL' := [_, _, _, _, _, _, _]) dX12_likes_66 rfl (by decide) rfl rfl ?_
                refine S.iload (pc' := 70) dX12_likes_68 rfl rfl ?_
                refine S.iload (pc' := 72) dX12_likes_70 rfl rfl ?_
                refine S.icmp_gt (pc' := 75) (tgt := 98) dX12_likes_72 (by decide) rfl (by unfold fp_rng; omega) (by unfold fp_rng; omega) (fun h72 => ?_) (fun h72 => ?_)
                · refine S.iload (pc' := 100) dX12_likes_98 rfl rfl ?_
                  refine S.goto (pc' := 104) dX12_likes_100 (by decide) ?_
                  refine S.istore_n (pc' := 105) (LL' := [_, _, _, _, _, _, _]) dX12_likes_104 rfl (by decide) rfl rfl rfl ?_
                  refine S.iinc (pc' := 108) (LL' := [_, _, _, _, _, _, _]) dX12_likes_105 rfl (by decide) rfl rfl rfl ?_
                  refine S.goto (pc' := 6) dX12_likes_108 (by decide) ?_
                  try (exfalso; omega)
                  all_goals
                    have e9 := fun o5 o6 => ih (i + 1) o5 o6 (by omega) (by omega) (by omega)
                    rw [es] at e9
                    exact e9 _ _
                · exfalso; omega
        · obtain ⟨w0, w1, w2⟩ : 0 ≤ aLk g b th p i.toNat ∧ aLk g b th p i.toNat < i.toNat ∧ th.toNat.testBit (aLk g b th p i.toNat).toNat = true := by
            rcases hin with q | q
            · exact absurd q hw4
            · exact q
          generalize aLk g b th p i.toNat = w at es w0 w1 w2 hw4 hin ⊢
          have hbw := hb.2 w w0 (by omega) w2
          have hvw := hd.2.2.2.2.2.1 (b w) p hbw.1 hbw.2 hp.1 hp.2
          have hvbw := hg.2.2.2.2.1 (b w) p hbw.1 hbw.2 hp.1 hp.2
          have hrw := hr w w0 (by omega)
          refine S.iload (pc' := 8) dX12_likes_6 rfl rfl ?_
          refine S.iconst (pc' := 9) dX12_likes_8 rfl ?_
          refine S.icmp_ge (pc' := 12) (tgt := 111) dX12_likes_9 (by decide) rfl (by unfold fp_rng; omega) (by unfold fp_rng; omega) (fun h9 => ?_) (fun h9 => ?_)
          · exfalso; omega
          · refine S.iload_n (pc' := 13) dX12_likes_12 rfl rfl rfl ?_
            refine S.iload (pc' := 15) dX12_likes_13 rfl rfl ?_
            refine S.ishr (pc' := 16) dX12_likes_15 rfl (fp_shrv (by omega) (by omega)) ?_
            refine S.iconst (pc' := 17) dX12_likes_16 rfl ?_
            refine S.iand (pc' := 18) dX12_likes_17 rfl (fp_iand hdn (by decide)) ?_
            refine S.iconst (pc' := 19) dX12_likes_18 rfl ?_
            refine S.icmp_ne (pc' := 22) (tgt := 105) dX12_likes_19 (by decide) rfl (by rw [hbit]; unfold fp_rng; omega) (by unfold fp_rng; omega) (fun h19 => ?_) (fun h19 => ?_)
            · refine S.iinc (pc' := 108) (LL' := [_, _, _, _, _, _, _]) dX12_likes_105 rfl (by decide) rfl rfl rfl ?_
              refine S.goto (pc' := 6) dX12_likes_108 (by decide) ?_
              try (exfalso; omega)
              all_goals
                have e9 := fun o5 o6 => ih (i + 1) o5 o6 (by omega) (by omega) (by omega)
                first | (rw [if_pos ⟨ht, by omega⟩] at es; rw [es] at e9; exact e9 _ _) | (rw [if_neg (fun q => by omega)] at es; rw [es] at e9; exact e9 _ _)
            · refine S.aload_n (pc' := 23) dX12_likes_22 rfl rfl rfl ?_
              refine S.getR (pc' := 26) dX12_likes_23 rfl fX12_16 L_177 rf_177_2 ?_
              refine S.iconst (pc' := 27) dX12_likes_26 rfl ?_
              refine S.aload_n (pc' := 28) dX12_likes_27 rfl rfl rfl ?_
              refine S.getR (pc' := 31) dX12_likes_28 rfl fX12_69 L_177 rf_177_37 ?_
              refine S.iload (pc' := 33) dX12_likes_31 rfl rfl ?_
              refine S.iald (pc' := 34) dX12_likes_33 rfl L_196 (by omega) (by omega) ?_
              rw [hri]
              refine S.imul (pc' := 35) dX12_likes_34 rfl ?_
              refine S.iload_n (pc' := 36) dX12_likes_35 rfl rfl rfl ?_
              refine S.iadd (pc' := 37) dX12_likes_36 rfl ?_
              refine S.iald (pc' := 38) dX12_likes_37 rfl L_180 (by omega) (by omega) ?_
              refine S.istore (pc' := 40) (LL' := [_, _, _, _, _, _, _]) dX12_likes_38 rfl (by decide) rfl rfl ?_
              refine S.iload_n (pc' := 41) dX12_likes_40 rfl rfl rfl ?_
              refine S.bipush (pc' := 43) dX12_likes_41 rfl (by decide) ?_
              refine S.icmp_ne (pc' := 46) (tgt := 51) dX12_likes_43 (by decide) rfl (by unfold fp_rng; omega) (by unfold fp_rng; omega) (fun h43 => ?_) (fun h43 => ?_)
              · refine S.aload_n (pc' := 52) dX12_likes_51 rfl rfl rfl ?_
                refine S.getR (pc' := 55) dX12_likes_52 rfl fX12_16 L_177 rf_177_2 ?_
                refine S.iconst (pc' := 56) dX12_likes_55 rfl ?_
                refine S.aload_n (pc' := 57) dX12_likes_56 rfl rfl rfl ?_
                refine S.getR (pc' := 60) dX12_likes_57 rfl fX12_69 L_177 rf_177_37 ?_
                refine S.iload_n (pc' := 61) dX12_likes_60 rfl rfl rfl ?_
                refine S.iald (pc' := 62) dX12_likes_61 rfl L_196 (by omega) (by omega) ?_
                rw [hrw]
                refine S.imul (pc' := 63) dX12_likes_62 rfl ?_
                refine S.iload_n (pc' := 64) dX12_likes_63 rfl rfl rfl ?_
                refine S.iadd (pc' := 65) dX12_likes_64 rfl ?_
                refine S.iald (pc' := 66) dX12_likes_65 rfl L_180 (by omega) (by omega) ?_
                refine S.istore (pc' := 68) (LL' := [_, _, _, _, _, _, _]) dX12_likes_66 rfl (by decide) rfl rfl ?_
                refine S.iload (pc' := 70) dX12_likes_68 rfl rfl ?_
                refine S.iload (pc' := 72) dX12_likes_70 rfl rfl ?_
                refine S.icmp_gt (pc' := 75) (tgt := 98) dX12_likes_72 (by decide) rfl (by unfold fp_rng; omega) (by unfold fp_rng; omega) (fun h72 => ?_) (fun h72 => ?_)
                · refine S.iload (pc' := 100) dX12_likes_98 rfl rfl ?_
                  refine S.goto (pc' := 104) dX12_likes_100 (by decide) ?_
                  refine S.istore_n (pc' := 105) (LL' := [_, _, _, _, _, _, _]) dX12_likes_104 rfl (by decide) rfl rfl rfl ?_
                  refine S.iinc (pc' := 108) (LL' := [_, _, _, _, _, _, _]) dX12_likes_105 rfl (by decide) rfl rfl rfl ?_
                  refine S.goto (pc' := 6) dX12_likes_108 (by decide) ?_
                  try (exfalso; omega)
                  all_goals
                    have e9 := fun o5 o6 => ih (i + 1) o5 o6 (by omega) (by omega) (by omega)
                    first | (rw [if_pos ⟨ht, by omega⟩] at es; rw [es] at e9; exact e9 _ _) | (rw [if_neg (fun q => by omega)] at es; rw [es] at e9; exact e9 _ _)
                · refine S.iload (pc' := 77) dX12_likes_75 rfl rfl ?_
                  refine S.iload (pc' := 79) dX12_likes_77 rfl rfl ?_
                  refine S.icmp_ne (pc' := 82) (tgt := 103) dX12_likes_79 (by decide) rfl (by unfold fp_rng; omega) (by unfold fp_rng; omega) (fun h79 => ?_) (fun h79 => ?_)
                  · refine S.iload_n (pc' := 104) dX12_likes_103 rfl rfl rfl ?_
                    refine S.istore_n (pc' := 105) (LL' := [_, _, _, _, _, _, _]) dX12_likes_104 rfl (by decide) rfl rfl rfl ?_
                    refine S.iinc (pc' := 108) (LL' := [_, _, _, _, _, _, _]) dX12_likes_105 rfl (by decide) rfl rfl rfl ?_
                    refine S.goto (pc' := 6) dX12_likes_108 (by decide) ?_
                    try (exfalso; omega)
                    all_goals
                      have e9 := fun o5 o6 => ih (i + 1) o5 o6 (by omega) (by omega) (by omega)
                      first | (rw [if_pos ⟨ht, by omega⟩] at es; rw [es] at e9; exact e9 _ _) | (rw [if_neg (fun q => by omega)] at es; rw [es] at e9; exact e9 _ _)
                  · refine S.aload_n (pc' := 83) dX12_likes_82 rfl rfl rfl ?_
                    refine S.getR (pc' := 86) dX12_likes_83 rfl fX12_69 L_177 rf_177_37 ?_
                    refine S.iload (pc' := 88) dX12_likes_86 rfl rfl ?_
                    refine S.iald (pc' := 89) dX12_likes_88 rfl L_196 (by omega) (by omega) ?_
                    refine S.aload_n (pc' := 90) dX12_likes_89 rfl rfl rfl ?_
                    refine S.getR (pc' := 93) dX12_likes_90 rfl fX12_69 L_177 rf_177_37 ?_
                    refine S.iload_n (pc' := 94) dX12_likes_93 rfl rfl rfl ?_
                    refine S.iald (pc' := 95) dX12_likes_94 rfl L_196 (by omega) (by omega) ?_
                    refine S.icmp_ge (pc' := 98) (tgt := 103) dX12_likes_95 (by decide) rfl (by unfold fp_rng; omega) (by unfold fp_rng; omega) (fun h95 => ?_) (fun h95 => ?_)
                    · refine S.iload_n (pc' := 104) dX12_likes_103 rfl rfl rfl ?_
                      refine S.istore_n (pc' := 105) (LL' := [_, _, _, _, _, _, _]) dX12_likes_104 rfl (by decide) rfl rfl rfl ?_
                      refine S.iinc (pc' := 108) (LL' := [_, _, _, _, _, _, _]) dX12_likes_105 rfl (by decide) rfl rfl rfl ?_
                      refine S.goto (pc' := 6) dX12_likes_108 (by decide) ?_
                      try (exfalso; omega)
                      all_goals
                        have e9 := fun o5 o6 => ih (i + 1) o5 o6 (by omega) (by omega) (by omega)
                        first | (rw [if_pos ⟨ht, by omega⟩] at es; rw [es] at e9; exact e9 _ _) | (rw [if_neg (fun q => by omega)] at es; rw [es] at e9; exact e9 _ _)
                    · refine S.iload (pc' := 100) dX12_likes_98 rfl rfl ?_
                      refine S.goto (pc' := 104) dX12_likes_100 (by decide) ?_
                      refine S.istore_n (pc' := 105) (LL' := [_, _, _, _, _, _, _]) dX12_likes_104 rfl (by decide) rfl rfl rfl ?_
                      refine S.iinc (pc' := 108) (LL' := [_, _, _, _, _, _, _]) dX12_likes_105 rfl (by decide) rfl rfl rfl ?_
                      refine S.goto (pc' := 6) dX12_likes_108 (by decide) ?_
                      try (exfalso; omega)
                      all_goals
                        have e9 := fun o5 o6 => ih (i + 1) o5 o6 (by omega) (by omega) (by omega)
                        first | (rw [if_pos ⟨ht, by omega⟩] at es; rw [es] at e9; exact e9 _ _) | (rw [if_neg (fun q => by omega)] at es; rw [es] at e9; exact e9 _ _)
              · exfalso; omega
      · rw [if_neg ht] at hbit
        rw [if_neg (fun q => ht q.1)] at es
        refine S.iload (pc' := 8) dX12_likes_6 rfl rfl ?_
        refine S.iconst (pc' := 9) dX12_likes_8 rfl ?_
        refine S.icmp_ge (pc' := 12) (tgt := 111) dX12_likes_9 (by decide) rfl (by unfold fp_rng; omega) (by unfold fp_rng; omega) (fun h9 => ?_) (fun h9 => ?_)
        · exfalso; omega
        · refine S.iload_n (pc' := 13) dX12_likes_12 rfl rfl rfl ?_
          refine S.iload (pc' := 15) dX12_likes_13 rfl rfl ?_
          refine S.ishr (pc' := 16) dX12_likes_15 rfl (fp_shrv (by omega) (by omega)) ?_
          refine S.iconst (pc' := 17) dX12_likes_16 rfl ?_
          refine S.iand (pc' := 18) dX12_likes_17 rfl (fp_iand hdn (by decide)) ?_
          refine S.iconst (pc' := 19) dX12_likes_18 rfl ?_
          refine S.icmp_ne (pc' := 22) (tgt := 105) dX12_likes_19 (by decide) rfl (by rw [hbit]; unfold fp_rng; omega) (by unfold fp_rng; omega) (fun h19 => ?_) (fun h19 => ?_)
          · refine S.iinc (pc' := 108) (LL' := [_, _, _, _, _, _, _]) dX12_likes_105 rfl (by decide) rfl rfl rfl ?_
            refine S.goto (pc' := 6) dX12_likes_108 (by decide) ?_
            rw [← es]; exact ih _ _ _ (by omega) (by omega) (by omega)
          · exfalso; omega
    · have e4 : i.toNat = 4 := by omega
      rw [e4]
      refine S.iload (pc' := 8) dX12_likes_6 rfl rfl ?_
      refine S.iconst (pc' := 9) dX12_likes_8 rfl ?_
      refine S.icmp_ge (pc' := 12) (tgt := 111) dX12_likes_9 (by decide) rfl (by unfold fp_rng; omega) (by unfold fp_rng; omega) (fun h9 => ?_) (fun h9 => ?_)
      · refine S.iload_n (pc' := 112) dX12_likes_111 rfl rfl rfl ?_
        refine S.iret dX12_likes_112 rfl ?_
        exact ⟨rfl, rfl⟩
      · exfalso; omega
theorem rk_X12_likes {b : Int → Int} {th p : Int} (hp : 0 ≤ p ∧ p < 4) (hb : bOk g b th) (hg : gOk g) (hd : mdIs M g) (hr : ∀ q : Int, 0 ≤ q → q < 4 → M 196 q.toNat = b q) : fp_Ok l G 0 kX12_likes [rV G 177, iV p, iV th] M (qE (aLk g b th p 4) M) := by
  refine fp_Ok.of (r := 4) rfl (Nat.le_of_ble_eq_true rfl) rfl ?_
  refine S.bipush (pc' := 2) dX12_likes_0 rfl (by decide) ?_
  refine S.istore_n (pc' := 3) (LL' := [_, _, _, _, _, _, _]) dX12_likes_2 rfl (by decide) rfl rfl rfl ?_
  refine S.iconst (pc' := 4) dX12_likes_3 rfl ?_
  refine S.istore (pc' := 6) (LL' := [_, _, _, _, _, _, _]) dX12_likes_4 rfl (by decide) rfl rfl ?_
  exact mlikes_loop hp hb hg hd hr 5 0 none none (by omega) (by omega) (by omega)
theorem bk_X7_isThere {th q : Int} (hth : 0 ≤ th ∧ th < 16) (hm : M 136 4 = th) (hq : 0 ≤ q ∧ q < 4) : fp_Ok l G 0 kX7_isThere [rV G 136, iV q] M (qI fun z N => ((z = 1 ∧ th.toNat.testBit q.toNat = true) ∨ (z = 0 ∧ ¬ th.toNat.testBit q.toNat = true)) ∧ M = N) := by
  refine fp_Ok.of (r := 0) rfl (Nat.le_of_ble_eq_true rfl) rfl ?_
  have hb := fp_bit2 hth hq
  have hp := fp_pow_le (i := q) (n := 4) (by omega)
  have h16 : (2 : Int) ^ 4 = 16 := by decide
  by_cases ht : th.toNat.testBit q.toNat = true
  · rw [if_pos ht] at hb
    refine S.aload_n (pc' := 1) dX7_isThere_0 rfl rfl rfl ?_
    refine S.getI (pc' := 4) dX7_isThere_1 rfl fX7_36 L_136 ?_
    rw [hm]
    refine S.iconst (pc' := 5) dX7_isThere_4 rfl ?_
    refine S.iload_n (pc' := 6) dX7_isThere_5 rfl rfl rfl ?_
    refine S.ishl (pc' := 7) dX7_isThere_6 rfl (fp_shl1 (by omega) (by omega)) ?_
    refine S.iand (pc' := 8) dX7_isThere_7 rfl (fp_iand hth.1 (by omega)) ?_
    refine S.if_eq (pc' := 11) (tgt := 15) dX7_isThere_8 (by decide) rfl (by unfold fp_rng; omega) (fun h8 => ?_) (fun h8 => ?_)
    · exfalso; omega
    · refine S.iconst (pc' := 12) dX7_isThere_11 rfl ?_
      refine S.goto (pc' := 16) dX7_isThere_12 (by decide) ?_
      refine S.zret dX7_isThere_16 rfl (by first | exact Or.inl rfl | exact Or.inr rfl | omega) ?_
      exact ⟨Or.inl ⟨rfl, ht⟩, rfl⟩
  · rw [if_neg ht] at hb
    refine S.aload_n (pc' := 1) dX7_isThere_0 rfl rfl rfl ?_
    refine S.getI (pc' := 4) dX7_isThere_1 rfl fX7_36 L_136 ?_
    rw [hm]
    refine S.iconst (pc' := 5) dX7_isThere_4 rfl ?_
    refine S.iload_n (pc' := 6) dX7_isThere_5 rfl rfl rfl ?_
    refine S.ishl (pc' := 7) dX7_isThere_6 rfl (fp_shl1 (by omega) (by omega)) ?_
    refine S.iand (pc' := 8) dX7_isThere_7 rfl (fp_iand hth.1 (by omega)) ?_
    refine S.if_eq (pc' := 11) (tgt := 15) dX7_isThere_8 (by decide) rfl (by unfold fp_rng; omega) (fun h8 => ?_) (fun h8 => ?_)
    · refine S.iconst (pc' := 16) dX7_isThere_15 rfl ?_
      refine S.zret dX7_isThere_16 rfl (by first | exact Or.inl rfl | exact Or.inr rfl | omega) ?_
      exact ⟨Or.inr ⟨rfl, ht⟩, rfl⟩
    · exfalso; omega
theorem bk_X7_likesBetter {p t u : Int} (hp : 0 ≤ p ∧ p < 4) (ht : 0 ≤ t ∧ t < g.1) (hu : 0 ≤ u ∧ u < g.1) (hg : gOk g) (hd : gdIs M 18 g) : fp_Ok l G 1 kX7_likesBetter [rV G 18, iV p, iV t, iV u] M (qI fun z N => ((z = 1 ∧ (g.2.2.2.2.1 u p < g.2.2.2.2.1 t p ∨ (g.2.2.2.2.1 t p = g.2.2.2.2.1 u p ∧ t < u))) ∨ (z = 0 ∧ ¬ (g.2.2.2.2.1 u p < g.2.2.2.2.1 t p ∨ (g.2.2.2.2.1 t p = g.2.2.2.2.1 u p ∧ t < u)))) ∧ M = N) := by
  have hg1 := hg.1
  have v1 : M (18 + 2) (t * 4 + p).toNat = g.2.2.2.2.1 t p := hd.2.2.2.2.2.1 t p ht.1 ht.2 hp.1 hp.2
  have v2 : M (18 + 2) (u * 4 + p).toNat = g.2.2.2.2.1 u p := hd.2.2.2.2.2.1 u p hu.1 hu.2 hp.1 hp.2
  have b1 := hg.2.2.2.2.1 t p ht.1 ht.2 hp.1 hp.2
  have b2 := hg.2.2.2.2.1 u p hu.1 hu.2 hp.1 hp.2
  refine fp_Ok.of (r := 1) rfl (Nat.le_of_ble_eq_true rfl) rfl ?_
  refine S.aload_n (pc' := 1) dX7_likesBetter_0 rfl rfl rfl ?_
  refine S.iload_n (pc' := 2) dX7_likesBetter_1 rfl rfl rfl ?_
  refine S.iload_n (pc' := 3) dX7_likesBetter_2 rfl rfl rfl ?_
  refine S.callVe (pc' := 6) dX7_likesBetter_3 rfl cX7_53 (ok_X1_valueTo gd18) rfl (gd_lay gd18) (by decide) rfl (Nat.le_of_ble_eq_true rfl) ?_
  refine S.aload_n (pc' := 7) dX7_likesBetter_6 rfl rfl rfl ?_
  refine S.iload_n (pc' := 8) dX7_likesBetter_7 rfl rfl rfl ?_
  refine S.iload_n (pc' := 9) dX7_likesBetter_8 rfl rfl rfl ?_
  refine S.callVe (pc' := 12) dX7_likesBetter_9 rfl cX7_53 (ok_X1_valueTo gd18) rfl (gd_lay gd18) (by decide) rfl (Nat.le_of_ble_eq_true rfl) ?_
  refine S.isub (pc' := 13) dX7_likesBetter_12 rfl ?_
  refine S.istore (pc' := 15) (LL' := [_, _, _, _, _]) dX7_likesBetter_13 rfl (by decide) rfl rfl ?_
  refine S.iload (pc' := 17) dX7_likesBetter_15 rfl rfl ?_
  refine S.if_gt (pc' := 20) (tgt := 30) dX7_likesBetter_17 (by decide) rfl (by unfold fp_rng; omega) (fun h17 => ?_) (fun h17 => ?_)
  · refine S.iconst (pc' := 31) dX7_likesBetter_30 rfl ?_
    refine S.goto (pc' := 35) dX7_likesBetter_31 (by decide) ?_
    refine S.zret dX7_likesBetter_35 rfl (by first | exact Or.inl rfl | exact Or.inr rfl | omega) ?_
    exact ⟨by omega, rfl⟩
  · refine S.iload (pc' := 22) dX7_likesBetter_20 rfl rfl ?_
    refine S.if_ne (pc' := 25) (tgt := 34) dX7_likesBetter_22 (by decide) rfl (by unfold fp_rng; omega) (fun h22 => ?_) (fun h22 => ?_)
    · refine S.iconst (pc' := 35) dX7_likesBetter_34 rfl ?_
      refine S.zret dX7_likesBetter_35 rfl (by first | exact Or.inl rfl | exact Or.inr rfl | omega) ?_
      exact ⟨by omega, rfl⟩
    · refine S.iload_n (pc' := 26) dX7_likesBetter_25 rfl rfl rfl ?_
      refine S.iload_n (pc' := 27) dX7_likesBetter_26 rfl rfl rfl ?_
      refine S.icmp_ge (pc' := 30) (tgt := 34) dX7_likesBetter_27 (by decide) rfl (by unfold fp_rng; omega) (by unfold fp_rng; omega) (fun h27 => ?_) (fun h27 => ?_)
      · refine S.iconst (pc' := 35) dX7_likesBetter_34 rfl ?_
        refine S.zret dX7_likesBetter_35 rfl (by first | exact Or.inl rfl | exact Or.inr rfl | omega) ?_
        exact ⟨by omega, rfl⟩
      · refine S.iconst (pc' := 31) dX7_likesBetter_30 rfl ?_
        refine S.goto (pc' := 35) dX7_likesBetter_31 (by decide) ?_
        refine S.zret dX7_likesBetter_35 rfl (by first | exact Or.inl rfl | exact Or.inr rfl | omega) ?_
        exact ⟨by omega, rfl⟩
end RNG
