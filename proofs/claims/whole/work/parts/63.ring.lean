/-! RINGS: what each brings -/
theorem aLk_some {g : aGd} {b : Int → Int} {th p : Int} : ∀ n : Nat, (∃ i : Nat, i < n ∧ th.toNat.testBit i = true) → aLk g b th p n ≠ -4
  | 0, h => by obtain ⟨i, h1, -⟩ := h; omega
  | n + 1, h => by
    obtain ⟨i, h1, h2⟩ := h
    unfold aLk
    split
    · omega
    · rename_i hh
      intro e
      by_cases q : i = n
      · subst q; exact hh ⟨h2, Or.inl e⟩
      · exact aLk_some n ⟨i, by omega, h2⟩ e
theorem fp_bit16 {th : Int} (h : 0 ≤ th ∧ th < 16) (hne : th ≠ 0) : ∃ i : Nat, i < 4 ∧ th.toNat.testBit i = true := by
  have q : ∀ a : Nat, a < 16 → a ≠ 0 → ∃ i : Nat, i < 4 ∧ a.testBit i = true := by decide +kernel
  exact q th.toNat (by omega) (by omega)
theorem aLk_four {g : aGd} {b : Int → Int} {th p : Int} (h : 0 ≤ th ∧ th < 16) (hne : th ≠ 0) : 0 ≤ aLk g b th p 4 ∧ aLk g b th p 4 < 4 := by
  have h1 := aLk_some (g := g) (b := b) (p := p) 4 (fp_bit16 h hne)
  rcases aLk_in (g := g) (b := b) (th := th) (p := p) 4 with q | q
  · exact absurd q h1
  · exact ⟨q.1, q.2.1⟩
