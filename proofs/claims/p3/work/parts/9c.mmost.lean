/-! most: the reference's order of ways, in words of its own -/
def foldF {β : Type} (f : Int → β → β) : Int → Nat → β → β
  | _, 0, b => b
  | a, m + 1, b => foldF f (a + 1) m (f a b)
theorem foldF_end {β : Type} {f : Int → β → β} : ∀ (m : Nat) (a : Int) (b : β), foldF f a (m + 1) b = f (a + m) (foldF f a m b)
  | 0, a, b => by show f a b = f (a + ((0 : Nat) : Int)) b; rw [Int.natCast_zero, Int.add_zero]
  | m + 1, a, b => by
    rw [foldF, foldF_end m (a + 1) (f a b), foldF, show a + 1 + (m : Int) = a + ((m + 1 : Nat) : Int) by omega]
theorem foldL_F {β : Type} {f : Int → β → β} : ∀ (m : Nat) (b : β), foldL f m b = foldF f 0 m b
  | 0, b => rfl
  | m + 1, b => by rw [foldF_end, ← foldL_F m b, foldL, Int.zero_add]
/-- one visit, if his draws are from the lines told -/
def aSt (g : aGd) (vs : List aVt) (p : Int) (cs : Int → Int) (pg : aPg) (k : Nat) : aPg := (aHap g pg ((vs.getD k aV0).1, (vs.getD k aV0).2.1, (if aOwn vs p (k : Int) = true then cs (k : Int) else (vs.getD k aV0).2.2.1), (vs.getD k aV0).2.2.2)).2
def aPgs (g : aGd) (vs : List aVt) (p : Int) (pg : aPg) (cs : Int → Int) : Nat → aPg
  | 0 => pg
  | k + 1 => aSt g vs p cs (aPgs g vs p pg cs k) k
def aCs (vs : List aVt) (p : Int) (cs : Int → Int) : Nat → Int → Int
  | 0 => fun _ => -4
  | k + 1 => fp_ui (aCs vs p cs k) (k : Int) (if aOwn vs p (k : Int) = true then cs (k : Int) else -4)
theorem aSt_own {g : aGd} {vs : List aVt} {p : Int} {cs : Int → Int} {pg : aPg} {k : Nat} (h : aOwn vs p (k : Int) = true) : aSt g vs p cs pg k = aDraw g pg p (cs (k : Int)) := by
  have h' := h
  unfold aOwn at h'
  rw [Int.toNat_natCast] at h'
  have h2 := of_decide_eq_true h'
  unfold aSt aHap
  rw [if_pos h]
  dsimp only
  rw [if_pos h2.2, h2.1]
theorem aSt_else {g : aGd} {vs : List aVt} {p : Int} {cs : Int → Int} {pg : aPg} {k : Nat} (h : ¬ aOwn vs p (k : Int) = true) (hk : k < vs.length) : aSt g vs p cs pg k = (aHapI g pg vs (k : Int)).2 := by
  unfold aSt aHapI
  rw [if_neg h, if_pos (by omega), Int.toNat_natCast]
theorem aPgs_congr {g : aGd} {vs : List aVt} {p : Int} {pg : aPg} {cs cs' : Int → Int} : ∀ k : Nat, (∀ j : Int, 0 ≤ j → j < k → cs j = cs' j) → aPgs g vs p pg cs k = aPgs g vs p pg cs' k
  | 0, _ => rfl
  | k + 1, h => by
    rw [aPgs, aPgs, aPgs_congr k (fun j j0 j1 => h j j0 (by omega))]
    unfold aSt
    rw [h (k : Int) (by omega) (by omega)]
theorem aCs_congr {vs : List aVt} {p : Int} {cs cs' : Int → Int} : ∀ k : Nat, (∀ j : Int, 0 ≤ j → j < k → cs j = cs' j) → aCs vs p cs k = aCs vs p cs' k
  | 0, _ => rfl
  | k + 1, h => by rw [aCs, aCs, aCs_congr k (fun j j0 j1 => h j j0 (by omega)), h (k : Int) (by omega) (by omega)]
theorem aCs_at {vs : List aVt} {p : Int} {cs : Int → Int} : ∀ (k : Nat) (j : Int), 0 ≤ j → j < k → aCs vs p cs k j = if aOwn vs p j = true then cs j else -4
  | 0, j, h0, h1 => by omega
  | k + 1, j, h0, h1 => by
    rw [aCs]
    by_cases e : j = (k : Int)
    · subst e; rw [fp_ui_at]
    · rw [fp_ui_ne e]; exact aCs_at k j h0 (by omega)
/-- the next lines: from the last visit back; the visit, none is -4 -/
def nxD (vs : List aVt) (p L : Int) : Nat → (Int → Int) → Int × (Int → Int)
  | 0, cs => (-4, cs)
  | n + 1, cs => if aOwn vs p (n : Int) = true then (if cs (n : Int) + 1 < L then ((n : Int), fp_ui cs (n : Int) (cs (n : Int) + 1)) else nxD vs p L n (fp_ui cs (n : Int) 0)) else nxD vs p L n cs
theorem nxD_in {vs : List aVt} {p L : Int} : ∀ (n : Nat) (cs : Int → Int), (nxD vs p L n cs).1 = -4 ∨ (0 ≤ (nxD vs p L n cs).1 ∧ (nxD vs p L n cs).1 < n)
  | 0, cs => Or.inl rfl
  | n + 1, cs => by
    rw [nxD]
    split
    · split
      · right; show 0 ≤ (n : Int) ∧ (n : Int) < ((n + 1 : Nat) : Int); omega
      · have := nxD_in (vs := vs) (p := p) (L := L) n (fp_ui cs (n : Int) 0); omega
    · have := nxD_in (vs := vs) (p := p) (L := L) n cs; omega
theorem nxD_hi {vs : List aVt} {p L : Int} : ∀ (n : Nat) (cs : Int → Int) (j : Int), (n : Int) ≤ j → (nxD vs p L n cs).2 j = cs j
  | 0, cs, j, _ => rfl
  | n + 1, cs, j, h => by
    rw [nxD]
    split
    · split
      · show fp_ui cs (n : Int) _ j = cs j; rw [fp_ui_ne (by omega)]
      · rw [nxD_hi n _ j (by omega), fp_ui_ne (by omega)]
    · exact nxD_hi n cs j (by omega)
theorem nxD_rng {vs : List aVt} {p L : Int} (hL : 0 < L) : ∀ (n : Nat) (cs : Int → Int), (∀ j, 0 ≤ cs j ∧ cs j < L) → ∀ j, 0 ≤ (nxD vs p L n cs).2 j ∧ (nxD vs p L n cs).2 j < L
  | 0, cs, h, j => h j
  | n + 1, cs, h, j => by
    rw [nxD]
    split
    · split
      · show 0 ≤ fp_ui cs (n : Int) _ j ∧ fp_ui cs (n : Int) _ j < L
        by_cases e : j = (n : Int)
        · subst e; rw [fp_ui_at]; have := h (n : Int); omega
        · rw [fp_ui_ne e]; exact h j
      · refine nxD_rng hL n _ (fun i => ?_) j
        by_cases e : i = (n : Int)
        · subst e; rw [fp_ui_at]; omega
        · rw [fp_ui_ne e]; exact h i
    · exact nxD_rng hL n cs h j
theorem nxD_lo {vs : List aVt} {p L : Int} : ∀ (n : Nat) (cs : Int → Int) (j : Int), 0 ≤ j → j < (nxD vs p L n cs).1 → (nxD vs p L n cs).2 j = cs j
  | 0, cs, j, h0, h1 => by exfalso; have : (nxD vs p L 0 cs).1 = -4 := rfl; omega
  | n + 1, cs, j, h0, h1 => by
    rw [nxD] at h1 ⊢
    by_cases e1 : aOwn vs p (n : Int) = true
    · rw [if_pos e1] at h1 ⊢
      by_cases e2 : cs (n : Int) + 1 < L
      · rw [if_pos e2] at h1 ⊢
        have h1' : j < (n : Int) := h1
        show fp_ui cs (n : Int) _ j = cs j; rw [fp_ui_ne (by omega)]
      · rw [if_neg e2] at h1 ⊢
        have hi := nxD_in (vs := vs) (p := p) (L := L) n (fp_ui cs (n : Int) 0)
        rw [nxD_lo n _ j h0 h1, fp_ui_ne (by omega)]
    · rw [if_neg e1] at h1 ⊢
      exact nxD_lo n cs j h0 h1
/-- behind the visit found his draws begin anew -/
theorem nxD_zero {vs : List aVt} {p L : Int} : ∀ (n : Nat) (cs : Int → Int) (j : Int), (nxD vs p L n cs).1 ≠ -4 → (nxD vs p L n cs).1 < j → j < n → aOwn vs p j = true → (nxD vs p L n cs).2 j = 0
  | 0, cs, j, h0, _, _, _ => absurd rfl h0
  | n + 1, cs, j, h0, h1, h2, ho => by
    rw [nxD] at h0 h1 ⊢
    by_cases e1 : aOwn vs p (n : Int) = true
    · rw [if_pos e1] at h0 h1 ⊢
      by_cases e2 : cs (n : Int) + 1 < L
      · rw [if_pos e2] at h1
        have h1' : (n : Int) < j := h1
        omega
      · rw [if_neg e2] at h0 h1 ⊢
        by_cases e : j = (n : Int)
        · rw [nxD_hi n _ j (by omega), e, fp_ui_at]
        · exact nxD_zero n _ j h0 h1 (by omega) ho
    · rw [if_neg e1] at h0 h1 ⊢
      by_cases e : j = (n : Int)
      · subst e; exact absurd ho e1
      · exact nxD_zero n cs j h0 h1 (by omega) ho
/-- how many ways are left -/
def nxM (vs : List aVt) (p L : Int) (cs : Int → Int) : Nat → Nat
  | 0 => 0
  | n + 1 => 3 * nxM vs p L cs n + if aOwn vs p (n : Int) = true then (L - 1 - cs (n : Int)).toNat else 0
theorem nxM_congr {vs : List aVt} {p L : Int} {cs cs' : Int → Int} : ∀ n : Nat, (∀ j : Int, 0 ≤ j → j < n → cs j = cs' j) → nxM vs p L cs n = nxM vs p L cs' n
  | 0, _ => rfl
  | n + 1, h => by rw [nxM, nxM, nxM_congr n (fun j j0 j1 => h j j0 (by omega)), h (n : Int) (by omega) (by omega)]
theorem nxM_lt {vs : List aVt} {p L : Int} (hL : 0 < L ∧ L ≤ 3) : ∀ (n : Nat) (cs : Int → Int), (∀ j, 0 ≤ cs j ∧ cs j < L) → (nxD vs p L n cs).1 ≠ -4 → nxM vs p L (nxD vs p L n cs).2 n < nxM vs p L cs n
  | 0, cs, _, h => absurd rfl h
  | n + 1, cs, hr, h => by
    have hrn := hr (n : Int)
    rw [nxM, nxM]
    rw [nxD] at h ⊢
    by_cases e1 : aOwn vs p (n : Int) = true
    · rw [if_pos e1, if_pos e1]
      rw [if_pos e1] at h ⊢
      by_cases e2 : cs (n : Int) + 1 < L
      · rw [if_pos e2]
        dsimp only
        rw [fp_ui_at, nxM_congr (cs := fp_ui cs (n : Int) (cs (n : Int) + 1)) (cs' := cs) n (fun j j0 j1 => fp_ui_ne (by omega))]
        omega
      · rw [if_neg e2] at h ⊢
        have hr2 : ∀ j, 0 ≤ fp_ui cs (n : Int) 0 j ∧ fp_ui cs (n : Int) 0 j < L := fun i => by
          by_cases e : i = (n : Int)
          · subst e; rw [fp_ui_at]; omega
          · rw [fp_ui_ne e]; exact hr i
        have ih := nxM_lt hL n _ hr2 h
        rw [nxM_congr (cs := fp_ui cs (n : Int) 0) (cs' := cs) n (fun j j0 j1 => fp_ui_ne (by omega))] at ih
        rw [nxD_hi n _ _ (by omega), fp_ui_at]
        omega
    · rw [if_neg e1, if_neg e1]
      rw [if_neg e1] at h ⊢
      have ih := nxM_lt hL n cs hr h
      omega
def moF (g : aGd) (vs : List aVt) (p : Int) (pg : aPg) (cs : Int → Int) (n : Nat) : Int → moT → moT := fun x b => moC g vs p (vs.length - n - 1) (n + 1) (aDraw g (aPgs g vs p pg cs n) p x) (fp_ui (aCs vs p cs n) (n : Int) x) b
/-- what is left behind the lines told of the first n visits -/
def moX (g : aGd) (vs : List aVt) (p : Int) (pg : aPg) (cs : Int → Int) : Nat → moT → moT
  | 0, b => b
  | n + 1, b => moX g vs p pg cs n (if aOwn vs p (n : Int) = true then foldF (moF g vs p pg cs n) (cs (n : Int) + 1) (g.2.1 - (cs (n : Int) + 1)).toNat b else b)
theorem moF_congr {g : aGd} {vs : List aVt} {p : Int} {pg : aPg} {cs cs' : Int → Int} (n : Nat) (h : ∀ j : Int, 0 ≤ j → j < n → cs j = cs' j) : moF g vs p pg cs n = moF g vs p pg cs' n := by
  unfold moF
  rw [aPgs_congr n h, aCs_congr n h]
theorem moX_congr {g : aGd} {vs : List aVt} {p : Int} {pg : aPg} {cs cs' : Int → Int} : ∀ (n : Nat) (b : moT), (∀ j : Int, 0 ≤ j → j < n → cs j = cs' j) → moX g vs p pg cs n b = moX g vs p pg cs' n b
  | 0, b, _ => rfl
  | n + 1, b, h => by
    have h' : ∀ j : Int, 0 ≤ j → j < n → cs j = cs' j := fun j j0 j1 => h j j0 (by omega)
    rw [moX, moX, moF_congr n h', h (n : Int) (by omega) (by omega)]
    exact moX_congr n _ h'
theorem moX_exp {g : aGd} {vs : List aVt} {p : Int} {pg : aPg} {cs : Int → Int} {b : moT} (hL : 0 < g.2.1) : ∀ (d k : Nat), k + d = vs.length → (∀ j : Int, (k : Int) ≤ j → j < vs.length → aOwn vs p j = true → cs j = 0) → moX g vs p pg cs vs.length (moU (aWorth g (aPgs g vs p pg cs vs.length) p) (aCs vs p cs vs.length) b) = moX g vs p pg cs k (moC g vs p d k (aPgs g vs p pg cs k) (aCs vs p cs k) b)
  | 0, k, h, _ => by
    have e : vs.length = k := by omega
    rw [moC, e]
  | d + 1, k, h, hz => by
    rw [moX_exp hL d (k + 1) (by omega) (fun j j0 j1 jo => hz j (by omega) j1 jo), moX]
    congr 1
    by_cases ho : aOwn vs p (k : Int) = true
    · rw [if_pos ho, moC_own ho, aPgs, aCs, aSt_own ho, if_pos ho, hz (k : Int) (by omega) (by omega) ho, foldL_F]
      obtain ⟨m, hm⟩ : ∃ m, g.2.1.toNat = m + 1 := ⟨g.2.1.toNat - 1, by omega⟩
      rw [hm, show (g.2.1 - (0 + 1)).toNat = m by omega, foldF]
      have ed : vs.length - k - 1 = d := by omega
      unfold moF
      rw [ed]
    · rw [if_neg ho, moC_else ho, aPgs, aCs, aSt_else ho (by omega), if_neg ho]
theorem moX_none {g : aGd} {vs : List aVt} {p : Int} {pg : aPg} {b : moT} : ∀ (n : Nat) (cs : Int → Int), (nxD vs p g.2.1 n cs).1 = -4 → moX g vs p pg cs n b = b
  | 0, cs, _ => rfl
  | n + 1, cs, h => by
    rw [nxD] at h
    rw [moX]
    by_cases e1 : aOwn vs p (n : Int) = true
    · rw [if_pos e1] at h
      rw [if_pos e1]
      by_cases e2 : cs (n : Int) + 1 < g.2.1
      · rw [if_pos e2] at h
        have : (n : Int) = -4 := h
        omega
      · rw [if_neg e2] at h
        rw [show (g.2.1 - (cs (n : Int) + 1)).toNat = 0 by omega, foldF, moX_congr (cs' := fp_ui cs (n : Int) 0) n _ (fun j j0 j1 => (fp_ui_ne (by omega)).symm)]
        exact moX_none n _ h
    · rw [if_neg e1] at h ⊢
      exact moX_none n cs h
theorem moX_some {g : aGd} {vs : List aVt} {p : Int} {pg : aPg} {b : moT} : ∀ (n : Nat) (cs : Int → Int) (f : Nat), n ≤ vs.length → (nxD vs p g.2.1 n cs).1 = (f : Int) → moX g vs p pg cs n b = moX g vs p pg (nxD vs p g.2.1 n cs).2 (f + 1) (moC g vs p (vs.length - f - 1) (f + 1) (aPgs g vs p pg (nxD vs p g.2.1 n cs).2 (f + 1)) (aCs vs p (nxD vs p g.2.1 n cs).2 (f + 1)) b)
  | 0, cs, f, _, h => by exfalso; have : (nxD vs p g.2.1 0 cs).1 = -4 := rfl; omega
  | n + 1, cs, f, hn, h => by
    rw [nxD] at h ⊢
    by_cases e1 : aOwn vs p (n : Int) = true
    · rw [if_pos e1] at h ⊢
      by_cases e2 : cs (n : Int) + 1 < g.2.1
      · rw [if_pos e2] at h ⊢
        have hf : n = f := by
          have : (n : Int) = (f : Int) := h
          omega
        subst hf
        have hc : ∀ j : Int, 0 ≤ j → j < n → fp_ui cs (n : Int) (cs (n : Int) + 1) j = cs j := fun j j0 j1 => fp_ui_ne (by omega)
        dsimp only
        rw [moX, moX, if_pos e1, if_pos e1, fp_ui_at, moF_congr n hc, aPgs, aCs, aSt_own e1, if_pos e1, fp_ui_at, aPgs_congr n hc, aCs_congr n hc, moX_congr n _ hc]
        obtain ⟨m, hm⟩ : ∃ m, (g.2.1 - (cs (n : Int) + 1)).toNat = m + 1 := ⟨(g.2.1 - (cs (n : Int) + 1)).toNat - 1, by omega⟩
        rw [hm, show (g.2.1 - (cs (n : Int) + 1 + 1)).toNat = m by omega, foldF]
        rfl
      · rw [if_neg e2] at h ⊢
        rw [moX, if_pos e1, show (g.2.1 - (cs (n : Int) + 1)).toNat = 0 by omega, foldF, moX_congr (cs' := fp_ui cs (n : Int) 0) n _ (fun j j0 j1 => (fp_ui_ne (by omega)).symm)]
        exact moX_some n _ f (by omega) h
    · rw [if_neg e1] at h ⊢
      rw [moX, if_neg e1]
      exact moX_some n cs f (by omega) h
/-- one way more -/
theorem moX_step {g : aGd} {vs : List aVt} {p : Int} {pg : aPg} {b : moT} {cs : Int → Int} (hL : 0 < g.2.1) (h : (nxD vs p g.2.1 vs.length cs).1 ≠ -4) : moX g vs p pg cs vs.length b = moX g vs p pg (nxD vs p g.2.1 vs.length cs).2 vs.length (moU (aWorth g (aPgs g vs p pg (nxD vs p g.2.1 vs.length cs).2 vs.length) p) (aCs vs p (nxD vs p g.2.1 vs.length cs).2 vs.length) b) := by
  have hi := nxD_in (vs := vs) (p := p) (L := g.2.1) vs.length cs
  obtain ⟨f, hf⟩ : ∃ f : Nat, (nxD vs p g.2.1 vs.length cs).1 = (f : Int) := ⟨(nxD vs p g.2.1 vs.length cs).1.toNat, by omega⟩
  rw [moX_some vs.length cs f (Nat.le_refl _) hf, moX_exp hL (vs.length - f - 1) (f + 1) (by omega) (fun j j0 j1 jo => nxD_zero vs.length cs j h (by omega) j1 jo)]
theorem aMo_first {g : aGd} {vs : List aVt} {p : Int} {pg : aPg} (hL : 0 < g.2.1) : aMo g pg vs p = moX g vs p pg (fun _ => 0) vs.length (moU (aWorth g (aPgs g vs p pg (fun _ => 0) vs.length) p) (aCs vs p (fun _ => 0) vs.length) (-4, fun _ => 0)) := by
  rw [moX_exp hL vs.length 0 (by omega) (fun _ _ _ _ => rfl)]
  rfl
