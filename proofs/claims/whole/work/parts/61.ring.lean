/-! RINGS: whom one likes -/
def aLk (g : aGd) (b : Int → Int) (th p : Int) : Nat → Int
  | 0 => -4
  | n + 1 => if th.toNat.testBit n = true ∧ (aLk g b th p n = -4 ∨ g.2.2.2.2.1 (b (aLk g b th p n)) p < g.2.2.2.2.1 (b n) p ∨ (g.2.2.2.2.1 (b n) p = g.2.2.2.2.1 (b (aLk g b th p n)) p ∧ b n < b (aLk g b th p n))) then (n : Int) else aLk g b th p n
def bOk (g : aGd) (b : Int → Int) (th : Int) : Prop := (0 ≤ th ∧ th < 16) ∧ ∀ q : Int, 0 ≤ q → q < 4 → th.toNat.testBit q.toNat = true → 0 ≤ b q ∧ b q < g.1
theorem aLk_succ {g : aGd} {b : Int → Int} {th p i : Int} (h : 0 ≤ i) : aLk g b th p (i + 1).toNat = if th.toNat.testBit i.toNat = true ∧ (aLk g b th p i.toNat = -4 ∨ g.2.2.2.2.1 (b (aLk g b th p i.toNat)) p < g.2.2.2.2.1 (b i) p ∨ (g.2.2.2.2.1 (b i) p = g.2.2.2.2.1 (b (aLk g b th p i.toNat)) p ∧ b i < b (aLk g b th p i.toNat))) then i else aLk g b th p i.toNat := by
  have e1 : (i + 1).toNat = i.toNat + 1 := by omega
  rw [e1]
  show (if _ ∧ (_ ∨ _ < g.2.2.2.2.1 (b ((i.toNat : Nat) : Int)) p ∨ (g.2.2.2.2.1 (b ((i.toNat : Nat) : Int)) p = _ ∧ b ((i.toNat : Nat) : Int) < _)) then ((i.toNat : Nat) : Int) else _) = _
  rw [Int.toNat_of_nonneg h]
theorem aLk_in {g : aGd} {b : Int → Int} {th p : Int} : ∀ n : Nat, aLk g b th p n = -4 ∨ (0 ≤ aLk g b th p n ∧ aLk g b th p n < n ∧ th.toNat.testBit (aLk g b th p n).toNat = true)
  | 0 => Or.inl rfl
  | n + 1 => by
    have q := aLk_in (g := g) (b := b) (th := th) (p := p) n
    unfold aLk
    split
    · rename_i hh
      right
      exact ⟨by omega, by omega, by rw [Int.toNat_natCast]; exact hh.1⟩
    · rcases q with q | q
      · exact Or.inl q
      · exact Or.inr ⟨q.1, by omega, q.2.2⟩
section RNG
variable {l : Launch} {G : fp_WG} {M N : fp_Mem} {g : aGd} {pg pg' : aPg} {k k2 : Nat}
theorem mlikes_loop {b : Int → Int} {th p : Int} (hp : 0 ≤ p ∧ p < 4) (hb : bOk g b th) (hg : gOk g) (hd : mdIs M g) (hr : ∀ q : Int, 0 ≤ q → q < 4 → M 196 q.toNat = b q) : ∀ (n : Nat) (i : Int) (o5 o6 : Option Value), (4 - i).toNat < n → 0 ≤ i → i ≤ 4 →
    fp_S l G 0 kX12_likes 6 [some (rV G 177), some (iV p), some (iV th), some (iV (aLk g b th p i.toNat)), some (iV i), o5, o6] [] M (qE (aLk g b th p 4) M) := by
  have hg1 := hg.1
  intro n
  induction n with
  | zero => intro i o5 o6 h; omega
  | succ n ih =>
    intro i o5 o6 h i0 i1
    have es := aLk_succ (g := g) (b := b) (th := th) (p := p) i0
    have hin := aLk_in (g := g) (b := b) (th := th) (p := p) i.toNat
    have hbit := fp_bitv (v := th) (i := i) hb.1.1
    have hdn : 0 ≤ th / 2 ^ i.toNat := Int.ediv_nonneg hb.1.1 (Int.le_of_lt (Int.pow_pos (by decide)))
    have hth := hb.1
    by_cases hlt : i < 4
    · by_cases ht : th.toNat.testBit i.toNat = true
      · rw [if_pos ht] at hbit
        have hbi := hb.2 i i0 hlt ht
        have hv := hd.2.2.2.2.2.1 (b i) p hbi.1 hbi.2 hp.1 hp.2
        have hvb := hg.2.2.2.2.1 (b i) p hbi.1 hbi.2 hp.1 hp.2
        have hri := hr i i0 hlt
        sorry
      · rw [if_neg ht] at hbit
        rw [if_neg (fun q => ht q.1)] at es
        refine S.iload (pc' := 8) dX12_likes_6 rfl rfl ?_
        refine S.iconst (pc' := 9) dX12_likes_8 rfl ?_
        refine S.icmp_ge (pc' := 12) (tgt := 111) dX12_likes_9 (by decide) rfl (by unfold fp_rng; omega) (by unfold fp_rng; omega) (fun h9 => ?_) (fun h9 => ?_)
        · exfalso; omega
        · refine S.iload_n (pc' := 13) dX12_likes_12 rfl rfl rfl ?_
          refine S.iload (pc' := 15) dX12_likes_13 rfl rfl ?_
          refine S.ishr (pc' := 16) dX12_likes_15 rfl (fp_shrv (by omega) (by omega)) ?_
          refine S.iconst (pc' := 17) dX12_likes_16 rfl ?_
          refine S.iand (pc' := 18) dX12_likes_17 rfl (fp_iand hdn (by decide)) ?_
          refine S.iconst (pc' := 19) dX12_likes_18 rfl ?_
          refine S.icmp_ne (pc' := 22) (tgt := 105) dX12_likes_19 (by decide) rfl (by rw [hbit]; unfold fp_rng; omega) (by unfold fp_rng; omega) (fun h19 => ?_) (fun h19 => ?_)
          · refine S.iinc (pc' := 108) (LL' := [_, _, _, _, _, _, _]) dX12_likes_105 rfl (by decide) rfl rfl rfl ?_
            refine S.goto (pc' := 6) dX12_likes_108 (by decide) ?_
            rw [← es]; exact ih _ _ _ (by omega) (by omega) (by omega)
          · exfalso; omega
    · have e4 : i.toNat = 4 := by omega
      rw [e4]
      refine S.iload (pc' := 8) dX12_likes_6 rfl rfl ?_
      refine S.iconst (pc' := 9) dX12_likes_8 rfl ?_
      refine S.icmp_ge (pc' := 12) (tgt := 111) dX12_likes_9 (by decide) rfl (by unfold fp_rng; omega) (by unfold fp_rng; omega) (fun h9 => ?_) (fun h9 => ?_)
      · refine S.iload_n (pc' := 112) dX12_likes_111 rfl rfl rfl ?_
        refine S.iret dX12_likes_112 rfl ?_
        exact ⟨rfl, rfl⟩
      · exfalso; omega
end RNG
